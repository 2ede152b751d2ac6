theorem dX9_init_0 : decode cX9_init 0 = .ok (.aload_n 0, 1) := by decide +kernel
theorem dX9_init_1 : decode cX9_init 1 = .ok (.invokespecial 1, 3) := by decide +kernel
theorem dX9_init_4 : decode cX9_init 4 = .ok (.aload_n 0, 1) := by decide +kernel
theorem dX9_init_5 : decode cX9_init 5 = .ok (.sipush 3040, 3) := by decide +kernel
theorem dX9_init_8 : decode cX9_init 8 = .ok (.newarray .int, 2) := by decide +kernel
theorem dX9_init_10 : decode cX9_init 10 = .ok (.putfield 7, 3) := by decide +kernel
theorem dX9_init_13 : decode cX9_init 13 = .ok (.aload_n 0, 1) := by decide +kernel
theorem dX9_init_14 : decode cX9_init 14 = .ok (.sipush 3040, 3) := by decide +kernel
theorem dX9_init_17 : decode cX9_init 17 = .ok (.newarray .int, 2) := by decide +kernel
theorem dX9_init_19 : decode cX9_init 19 = .ok (.putfield 13, 3) := by decide +kernel
theorem dX9_init_22 : decode cX9_init 22 = .ok (.aload_n 0, 1) := by decide +kernel
theorem dX9_init_23 : decode cX9_init 23 = .ok (.sipush 3040, 3) := by decide +kernel
theorem dX9_init_26 : decode cX9_init 26 = .ok (.newarray .int, 2) := by decide +kernel
theorem dX9_init_28 : decode cX9_init 28 = .ok (.putfield 16, 3) := by decide +kernel
theorem dX9_init_31 : decode cX9_init 31 = .ok (.aload_n 0, 1) := by decide +kernel
theorem dX9_init_32 : decode cX9_init 32 = .ok (.iconst 4, 1) := by decide +kernel
theorem dX9_init_33 : decode cX9_init 33 = .ok (.newarray .int, 2) := by decide +kernel
theorem dX9_init_35 : decode cX9_init 35 = .ok (.putfield 19, 3) := by decide +kernel
theorem dX9_init_38 : decode cX9_init 38 = .ok (.aload_n 0, 1) := by decide +kernel
theorem dX9_init_39 : decode cX9_init 39 = .ok (.iconst 4, 1) := by decide +kernel
theorem dX9_init_40 : decode cX9_init 40 = .ok (.newarray .int, 2) := by decide +kernel
theorem dX9_init_42 : decode cX9_init 42 = .ok (.putfield 22, 3) := by decide +kernel
theorem dX9_init_45 : decode cX9_init 45 = .ok (.aload_n 0, 1) := by decide +kernel
theorem dX9_init_46 : decode cX9_init 46 = .ok (.bipush 96, 2) := by decide +kernel
theorem dX9_init_48 : decode cX9_init 48 = .ok (.newarray .int, 2) := by decide +kernel
theorem dX9_init_50 : decode cX9_init 50 = .ok (.putfield 25, 3) := by decide +kernel
theorem dX9_init_53 : decode cX9_init 53 = .ok (.aload_n 0, 1) := by decide +kernel
theorem dX9_init_54 : decode cX9_init 54 = .ok (.iconst 5, 1) := by decide +kernel
theorem dX9_init_55 : decode cX9_init 55 = .ok (.newarray .int, 2) := by decide +kernel
theorem dX9_init_57 : decode cX9_init 57 = .ok (.putfield 28, 3) := by decide +kernel
theorem dX9_init_60 : decode cX9_init 60 = .ok (.aload_n 0, 1) := by decide +kernel
theorem dX9_init_61 : decode cX9_init 61 = .ok (.iconst 5, 1) := by decide +kernel
theorem dX9_init_62 : decode cX9_init 62 = .ok (.newarray .int, 2) := by decide +kernel
theorem dX9_init_64 : decode cX9_init 64 = .ok (.putfield 31, 3) := by decide +kernel
theorem dX9_init_67 : decode cX9_init 67 = .ok (.aload_n 0, 1) := by decide +kernel
theorem dX9_init_68 : decode cX9_init 68 = .ok (.iconst 5, 1) := by decide +kernel
theorem dX9_init_69 : decode cX9_init 69 = .ok (.newarray .int, 2) := by decide +kernel
theorem dX9_init_71 : decode cX9_init 71 = .ok (.putfield 34, 3) := by decide +kernel
theorem dX9_init_74 : decode cX9_init 74 = .ok (.aload_n 0, 1) := by decide +kernel
theorem dX9_init_75 : decode cX9_init 75 = .ok (.iconst 5, 1) := by decide +kernel
theorem dX9_init_76 : decode cX9_init 76 = .ok (.newarray .int, 2) := by decide +kernel
theorem dX9_init_78 : decode cX9_init 78 = .ok (.putfield 37, 3) := by decide +kernel
theorem dX9_init_81 : decode cX9_init 81 = .ok (.aload_n 0, 1) := by decide +kernel
theorem dX9_init_82 : decode cX9_init 82 = .ok (.bipush 120, 2) := by decide +kernel
theorem dX9_init_84 : decode cX9_init 84 = .ok (.newarray .int, 2) := by decide +kernel
theorem dX9_init_86 : decode cX9_init 86 = .ok (.putfield 40, 3) := by decide +kernel
theorem dX9_init_89 : decode cX9_init 89 = .ok (.aload_n 0, 1) := by decide +kernel
theorem dX9_init_90 : decode cX9_init 90 = .ok (.sipush 720, 3) := by decide +kernel
theorem dX9_init_93 : decode cX9_init 93 = .ok (.newarray .int, 2) := by decide +kernel
theorem dX9_init_95 : decode cX9_init 95 = .ok (.putfield 43, 3) := by decide +kernel
theorem dX9_init_98 : decode cX9_init 98 = .ok (.aload_n 0, 1) := by decide +kernel
theorem dX9_init_99 : decode cX9_init 99 = .ok (.bipush 40, 2) := by decide +kernel
theorem dX9_init_101 : decode cX9_init 101 = .ok (.newarray .int, 2) := by decide +kernel
theorem dX9_init_103 : decode cX9_init 103 = .ok (.putfield 46, 3) := by decide +kernel
theorem dX9_init_106 : decode cX9_init 106 = .ok (.aload_n 0, 1) := by decide +kernel
theorem dX9_init_107 : decode cX9_init 107 = .ok (.bipush 96, 2) := by decide +kernel
theorem dX9_init_109 : decode cX9_init 109 = .ok (.newarray .int, 2) := by decide +kernel
theorem dX9_init_111 : decode cX9_init 111 = .ok (.putfield 49, 3) := by decide +kernel
theorem dX9_init_114 : decode cX9_init 114 = .ok (.aload_n 0, 1) := by decide +kernel
theorem dX9_init_115 : decode cX9_init 115 = .ok (.sipush 128, 3) := by decide +kernel
theorem dX9_init_118 : decode cX9_init 118 = .ok (.newarray .int, 2) := by decide +kernel
theorem dX9_init_120 : decode cX9_init 120 = .ok (.putfield 52, 3) := by decide +kernel
theorem dX9_init_123 : decode cX9_init 123 = .ok (.aload_n 0, 1) := by decide +kernel
theorem dX9_init_124 : decode cX9_init 124 = .ok (.bipush 100, 2) := by decide +kernel
theorem dX9_init_126 : decode cX9_init 126 = .ok (.newarray .int, 2) := by decide +kernel
theorem dX9_init_128 : decode cX9_init 128 = .ok (.putfield 55, 3) := by decide +kernel
theorem dX9_init_131 : decode cX9_init 131 = .ok (.aload_n 0, 1) := by decide +kernel
theorem dX9_init_132 : decode cX9_init 132 = .ok (.bipush 24, 2) := by decide +kernel
theorem dX9_init_134 : decode cX9_init 134 = .ok (.newarray .int, 2) := by decide +kernel
theorem dX9_init_136 : decode cX9_init 136 = .ok (.putfield 58, 3) := by decide +kernel
theorem dX9_init_139 : decode cX9_init 139 = .ok (.aload_n 0, 1) := by decide +kernel
theorem dX9_init_140 : decode cX9_init 140 = .ok (.bipush 60, 2) := by decide +kernel
theorem dX9_init_142 : decode cX9_init 142 = .ok (.newarray .int, 2) := by decide +kernel
theorem dX9_init_144 : decode cX9_init 144 = .ok (.putfield 61, 3) := by decide +kernel
theorem dX9_init_147 : decode cX9_init 147 = .ok (.aload_n 0, 1) := by decide +kernel
theorem dX9_init_148 : decode cX9_init 148 = .ok (.bipush 60, 2) := by decide +kernel
theorem dX9_init_150 : decode cX9_init 150 = .ok (.newarray .int, 2) := by decide +kernel
theorem dX9_init_152 : decode cX9_init 152 = .ok (.putfield 64, 3) := by decide +kernel
theorem dX9_init_155 : decode cX9_init 155 = .ok (.aload_n 0, 1) := by decide +kernel
theorem dX9_init_156 : decode cX9_init 156 = .ok (.getfield 7, 3) := by decide +kernel
theorem dX9_init_159 : decode cX9_init 159 = .ok (.bipush 9, 2) := by decide +kernel
theorem dX9_init_161 : decode cX9_init 161 = .ok (.iconst 1, 1) := by decide +kernel
theorem dX9_init_162 : decode cX9_init 162 = .ok (.iastore, 1) := by decide +kernel
theorem dX9_init_163 : decode cX9_init 163 = .ok (.aload_n 0, 1) := by decide +kernel
theorem dX9_init_164 : decode cX9_init 164 = .ok (.getfield 7, 3) := by decide +kernel
theorem dX9_init_167 : decode cX9_init 167 = .ok (.bipush 6, 2) := by decide +kernel
theorem dX9_init_169 : decode cX9_init 169 = .ok (.bipush 100, 2) := by decide +kernel
theorem dX9_init_171 : decode cX9_init 171 = .ok (.iastore, 1) := by decide +kernel
theorem dX9_init_172 : decode cX9_init 172 = .ok (.iconst 0, 1) := by decide +kernel
theorem dX9_init_173 : decode cX9_init 173 = .ok (.istore_n 1, 1) := by decide +kernel
theorem dX9_init_174 : decode cX9_init 174 = .ok (.iload_n 1, 1) := by decide +kernel
theorem dX9_init_175 : decode cX9_init 175 = .ok (.iconst 4, 1) := by decide +kernel
theorem dX9_init_176 : decode cX9_init 176 = .ok (.if_icmp .ge 16, 3) := by decide +kernel
theorem dX9_init_179 : decode cX9_init 179 = .ok (.aload_n 0, 1) := by decide +kernel
theorem dX9_init_180 : decode cX9_init 180 = .ok (.getfield 19, 3) := by decide +kernel
theorem dX9_init_183 : decode cX9_init 183 = .ok (.iload_n 1, 1) := by decide +kernel
theorem dX9_init_184 : decode cX9_init 184 = .ok (.iconst (-1), 1) := by decide +kernel
theorem dX9_init_185 : decode cX9_init 185 = .ok (.iastore, 1) := by decide +kernel
theorem dX9_init_186 : decode cX9_init 186 = .ok (.iinc 1 1, 3) := by decide +kernel
theorem dX9_init_189 : decode cX9_init 189 = .ok (.goto (-15), 3) := by decide +kernel
theorem dX9_init_192 : decode cX9_init 192 = .ok (.return_, 1) := by decide +kernel
theorem dX9_isIn_0 : decode cX9_isIn 0 = .ok (.lload_n 0, 1) := by decide +kernel
theorem dX9_isIn_1 : decode cX9_isIn 1 = .ok (.lload_n 2, 1) := by decide +kernel
theorem dX9_isIn_2 : decode cX9_isIn 2 = .ok (.lcmp, 1) := by decide +kernel
theorem dX9_isIn_3 : decode cX9_isIn 3 = .ok (.ifCond .lt 14, 3) := by decide +kernel
theorem dX9_isIn_6 : decode cX9_isIn 6 = .ok (.lload_n 0, 1) := by decide +kernel
theorem dX9_isIn_7 : decode cX9_isIn 7 = .ok (.lload 4, 2) := by decide +kernel
theorem dX9_isIn_9 : decode cX9_isIn 9 = .ok (.lcmp, 1) := by decide +kernel
theorem dX9_isIn_10 : decode cX9_isIn 10 = .ok (.ifCond .gt 7, 3) := by decide +kernel
theorem dX9_isIn_13 : decode cX9_isIn 13 = .ok (.iconst 1, 1) := by decide +kernel
theorem dX9_isIn_14 : decode cX9_isIn 14 = .ok (.goto 4, 3) := by decide +kernel
theorem dX9_isIn_17 : decode cX9_isIn 17 = .ok (.iconst 0, 1) := by decide +kernel
theorem dX9_isIn_18 : decode cX9_isIn 18 = .ok (.ireturn, 1) := by decide +kernel
theorem dX9_orNone_0 : decode cX9_orNone 0 = .ok (.iload_n 0, 1) := by decide +kernel
theorem dX9_orNone_1 : decode cX9_orNone 1 = .ok (.ifCond .ge 8, 3) := by decide +kernel
theorem dX9_orNone_4 : decode cX9_orNone 4 = .ok (.ldc 67, 2) := by decide +kernel
theorem dX9_orNone_6 : decode cX9_orNone 6 = .ok (.goto 4, 3) := by decide +kernel
theorem dX9_orNone_9 : decode cX9_orNone 9 = .ok (.iload_n 0, 1) := by decide +kernel
theorem dX9_orNone_10 : decode cX9_orNone 10 = .ok (.ireturn, 1) := by decide +kernel
theorem dX9_within_0 : decode cX9_within 0 = .ok (.iload_n 0, 1) := by decide +kernel
theorem dX9_within_1 : decode cX9_within 1 = .ok (.ifCond .ge 7, 3) := by decide +kernel
theorem dX9_within_4 : decode cX9_within 4 = .ok (.iconst 0, 1) := by decide +kernel
theorem dX9_within_5 : decode cX9_within 5 = .ok (.goto 13, 3) := by decide +kernel
theorem dX9_within_8 : decode cX9_within 8 = .ok (.iload_n 0, 1) := by decide +kernel
theorem dX9_within_9 : decode cX9_within 9 = .ok (.iload_n 1, 1) := by decide +kernel
theorem dX9_within_10 : decode cX9_within 10 = .ok (.if_icmp .le 7, 3) := by decide +kernel
theorem dX9_within_13 : decode cX9_within 13 = .ok (.iload_n 1, 1) := by decide +kernel
theorem dX9_within_14 : decode cX9_within 14 = .ok (.goto 4, 3) := by decide +kernel
theorem dX9_within_17 : decode cX9_within 17 = .ok (.iload_n 0, 1) := by decide +kernel
theorem dX9_within_18 : decode cX9_within 18 = .ok (.ireturn, 1) := by decide +kernel
theorem dX9_off_0 : decode cX9_off 0 = .ok (.iload_n 0, 1) := by decide +kernel
theorem dX9_off_1 : decode cX9_off 1 = .ok (.iload_n 1, 1) := by decide +kernel
theorem dX9_off_2 : decode cX9_off 2 = .ok (.if_icmp .ge 9, 3) := by decide +kernel
theorem dX9_off_5 : decode cX9_off 5 = .ok (.iload_n 1, 1) := by decide +kernel
theorem dX9_off_6 : decode cX9_off 6 = .ok (.iload_n 0, 1) := by decide +kernel
theorem dX9_off_7 : decode cX9_off 7 = .ok (.isub, 1) := by decide +kernel
theorem dX9_off_8 : decode cX9_off 8 = .ok (.goto 6, 3) := by decide +kernel
theorem dX9_off_11 : decode cX9_off 11 = .ok (.iload_n 0, 1) := by decide +kernel
theorem dX9_off_12 : decode cX9_off 12 = .ok (.iload_n 1, 1) := by decide +kernel
theorem dX9_off_13 : decode cX9_off 13 = .ok (.isub, 1) := by decide +kernel
theorem dX9_off_14 : decode cX9_off 14 = .ok (.ireturn, 1) := by decide +kernel
theorem dX9_becomes_0 : decode cX9_becomes 0 = .ok (.aload_n 0, 1) := by decide +kernel
theorem dX9_becomes_1 : decode cX9_becomes 1 = .ok (.getfield 7, 3) := by decide +kernel
theorem dX9_becomes_4 : decode cX9_becomes 4 = .ok (.iload_n 1, 1) := by decide +kernel
theorem dX9_becomes_5 : decode cX9_becomes 5 = .ok (.iaload, 1) := by decide +kernel
theorem dX9_becomes_6 : decode cX9_becomes 6 = .ok (.istore_n 3, 1) := by decide +kernel
theorem dX9_becomes_7 : decode cX9_becomes 7 = .ok (.aload_n 0, 1) := by decide +kernel
theorem dX9_becomes_8 : decode cX9_becomes 8 = .ok (.getfield 7, 3) := by decide +kernel
theorem dX9_becomes_11 : decode cX9_becomes 11 = .ok (.iload_n 1, 1) := by decide +kernel
theorem dX9_becomes_12 : decode cX9_becomes 12 = .ok (.iload_n 2, 1) := by decide +kernel
theorem dX9_becomes_13 : decode cX9_becomes 13 = .ok (.iastore, 1) := by decide +kernel
theorem dX9_becomes_14 : decode cX9_becomes 14 = .ok (.iload_n 3, 1) := by decide +kernel
theorem dX9_becomes_15 : decode cX9_becomes 15 = .ok (.ireturn, 1) := by decide +kernel
theorem dX9_textAt_0 : decode cX9_textAt 0 = .ok (.bipush 40, 2) := by decide +kernel
theorem dX9_textAt_2 : decode cX9_textAt 2 = .ok (.sipush 200, 3) := by decide +kernel
theorem dX9_textAt_5 : decode cX9_textAt 5 = .ok (.iload_n 1, 1) := by decide +kernel
theorem dX9_textAt_6 : decode cX9_textAt 6 = .ok (.imul, 1) := by decide +kernel
theorem dX9_textAt_7 : decode cX9_textAt 7 = .ok (.iadd, 1) := by decide +kernel
theorem dX9_textAt_8 : decode cX9_textAt 8 = .ok (.ireturn, 1) := by decide +kernel
theorem dX9_of_0 : decode cX9_of 0 = .ok (.aload_n 0, 1) := by decide +kernel
theorem dX9_of_1 : decode cX9_of 1 = .ok (.getfield 7, 3) := by decide +kernel
theorem dX9_of_4 : decode cX9_of 4 = .ok (.bipush 10, 2) := by decide +kernel
theorem dX9_of_6 : decode cX9_of 6 = .ok (.iconst 3, 1) := by decide +kernel
theorem dX9_of_7 : decode cX9_of 7 = .ok (.iload_n 1, 1) := by decide +kernel
theorem dX9_of_8 : decode cX9_of 8 = .ok (.imul, 1) := by decide +kernel
theorem dX9_of_9 : decode cX9_of 9 = .ok (.iadd, 1) := by decide +kernel
theorem dX9_of_10 : decode cX9_of 10 = .ok (.iload_n 2, 1) := by decide +kernel
theorem dX9_of_11 : decode cX9_of 11 = .ok (.iadd, 1) := by decide +kernel
theorem dX9_of_12 : decode cX9_of 12 = .ok (.iaload, 1) := by decide +kernel
theorem dX9_of_13 : decode cX9_of 13 = .ok (.ireturn, 1) := by decide +kernel
theorem dX9_sets_0 : decode cX9_sets 0 = .ok (.aload_n 0, 1) := by decide +kernel
theorem dX9_sets_1 : decode cX9_sets 1 = .ok (.getfield 7, 3) := by decide +kernel
theorem dX9_sets_4 : decode cX9_sets 4 = .ok (.bipush 10, 2) := by decide +kernel
theorem dX9_sets_6 : decode cX9_sets 6 = .ok (.iconst 3, 1) := by decide +kernel
theorem dX9_sets_7 : decode cX9_sets 7 = .ok (.iload_n 1, 1) := by decide +kernel
theorem dX9_sets_8 : decode cX9_sets 8 = .ok (.imul, 1) := by decide +kernel
theorem dX9_sets_9 : decode cX9_sets 9 = .ok (.iadd, 1) := by decide +kernel
theorem dX9_sets_10 : decode cX9_sets 10 = .ok (.iload_n 2, 1) := by decide +kernel
theorem dX9_sets_11 : decode cX9_sets 11 = .ok (.iadd, 1) := by decide +kernel
theorem dX9_sets_12 : decode cX9_sets 12 = .ok (.iload_n 3, 1) := by decide +kernel
theorem dX9_sets_13 : decode cX9_sets 13 = .ok (.iastore, 1) := by decide +kernel
theorem dX9_sets_14 : decode cX9_sets 14 = .ok (.return_, 1) := by decide +kernel
theorem dX9_isClock_0 : decode cX9_isClock 0 = .ok (.iload_n 1, 1) := by decide +kernel
theorem dX9_isClock_1 : decode cX9_isClock 1 = .ok (.i2l, 1) := by decide +kernel
theorem dX9_isClock_2 : decode cX9_isClock 2 = .ok (.lconst 0, 1) := by decide +kernel
theorem dX9_isClock_3 : decode cX9_isClock 3 = .ok (.aload_n 0, 1) := by decide +kernel
theorem dX9_isClock_4 : decode cX9_isClock 4 = .ok (.getfield 7, 3) := by decide +kernel
theorem dX9_isClock_7 : decode cX9_isClock 7 = .ok (.iconst 0, 1) := by decide +kernel
theorem dX9_isClock_8 : decode cX9_isClock 8 = .ok (.iaload, 1) := by decide +kernel
theorem dX9_isClock_9 : decode cX9_isClock 9 = .ok (.iconst 1, 1) := by decide +kernel
theorem dX9_isClock_10 : decode cX9_isClock 10 = .ok (.isub, 1) := by decide +kernel
theorem dX9_isClock_11 : decode cX9_isClock 11 = .ok (.i2l, 1) := by decide +kernel
theorem dX9_isClock_12 : decode cX9_isClock 12 = .ok (.invokestatic 68, 3) := by decide +kernel
theorem dX9_isClock_15 : decode cX9_isClock 15 = .ok (.ireturn, 1) := by decide +kernel
theorem dX9_isText_0 : decode cX9_isText 0 = .ok (.iload_n 1, 1) := by decide +kernel
theorem dX9_isText_1 : decode cX9_isText 1 = .ok (.i2l, 1) := by decide +kernel
theorem dX9_isText_2 : decode cX9_isText 2 = .ok (.lconst 0, 1) := by decide +kernel
theorem dX9_isText_3 : decode cX9_isText 3 = .ok (.aload_n 0, 1) := by decide +kernel
theorem dX9_isText_4 : decode cX9_isText 4 = .ok (.getfield 7, 3) := by decide +kernel
theorem dX9_isText_7 : decode cX9_isText 7 = .ok (.iconst 1, 1) := by decide +kernel
theorem dX9_isText_8 : decode cX9_isText 8 = .ok (.iaload, 1) := by decide +kernel
theorem dX9_isText_9 : decode cX9_isText 9 = .ok (.iconst 1, 1) := by decide +kernel
theorem dX9_isText_10 : decode cX9_isText 10 = .ok (.isub, 1) := by decide +kernel
theorem dX9_isText_11 : decode cX9_isText 11 = .ok (.i2l, 1) := by decide +kernel
theorem dX9_isText_12 : decode cX9_isText 12 = .ok (.invokestatic 68, 3) := by decide +kernel
theorem dX9_isText_15 : decode cX9_isText 15 = .ok (.ireturn, 1) := by decide +kernel
theorem dX9_drawn_0 : decode cX9_drawn 0 = .ok (.aload_n 0, 1) := by decide +kernel
theorem dX9_drawn_1 : decode cX9_drawn 1 = .ok (.getfield 7, 3) := by decide +kernel
theorem dX9_drawn_4 : decode cX9_drawn 4 = .ok (.bipush 9, 2) := by decide +kernel
theorem dX9_drawn_6 : decode cX9_drawn 6 = .ok (.aload_n 0, 1) := by decide +kernel
theorem dX9_drawn_7 : decode cX9_drawn 7 = .ok (.getfield 7, 3) := by decide +kernel
theorem dX9_drawn_10 : decode cX9_drawn 10 = .ok (.bipush 9, 2) := by decide +kernel
theorem dX9_drawn_12 : decode cX9_drawn 12 = .ok (.iaload, 1) := by decide +kernel
theorem dX9_drawn_13 : decode cX9_drawn 13 = .ok (.ldc 72, 2) := by decide +kernel
theorem dX9_drawn_15 : decode cX9_drawn 15 = .ok (.imul, 1) := by decide +kernel
theorem dX9_drawn_16 : decode cX9_drawn 16 = .ok (.sipush 12345, 3) := by decide +kernel
theorem dX9_drawn_19 : decode cX9_drawn 19 = .ok (.iadd, 1) := by decide +kernel
theorem dX9_drawn_20 : decode cX9_drawn 20 = .ok (.iastore, 1) := by decide +kernel
theorem dX9_drawn_21 : decode cX9_drawn 21 = .ok (.aload_n 0, 1) := by decide +kernel
theorem dX9_drawn_22 : decode cX9_drawn 22 = .ok (.getfield 7, 3) := by decide +kernel
theorem dX9_drawn_25 : decode cX9_drawn 25 = .ok (.bipush 9, 2) := by decide +kernel
theorem dX9_drawn_27 : decode cX9_drawn 27 = .ok (.iaload, 1) := by decide +kernel
theorem dX9_drawn_28 : decode cX9_drawn 28 = .ok (.bipush 8, 2) := by decide +kernel
theorem dX9_drawn_30 : decode cX9_drawn 30 = .ok (.iushr, 1) := by decide +kernel
theorem dX9_drawn_31 : decode cX9_drawn 31 = .ok (.ireturn, 1) := by decide +kernel
theorem dX9_isOf_0 : decode cX9_isOf 0 = .ok (.iload_n 0, 1) := by decide +kernel
theorem dX9_isOf_1 : decode cX9_isOf 1 = .ok (.iload_n 1, 1) := by decide +kernel
theorem dX9_isOf_2 : decode cX9_isOf 2 = .ok (.if_icmp .eq 27, 3) := by decide +kernel
theorem dX9_isOf_5 : decode cX9_isOf 5 = .ok (.iload_n 1, 1) := by decide +kernel
theorem dX9_isOf_6 : decode cX9_isOf 6 = .ok (.ifCond .eq 23, 3) := by decide +kernel
theorem dX9_isOf_9 : decode cX9_isOf 9 = .ok (.iload_n 1, 1) := by decide +kernel
theorem dX9_isOf_10 : decode cX9_isOf 10 = .ok (.iconst 1, 1) := by decide +kernel
theorem dX9_isOf_11 : decode cX9_isOf 11 = .ok (.if_icmp .ne 8, 3) := by decide +kernel
theorem dX9_isOf_14 : decode cX9_isOf 14 = .ok (.iload_n 0, 1) := by decide +kernel
theorem dX9_isOf_15 : decode cX9_isOf 15 = .ok (.iconst 3, 1) := by decide +kernel
theorem dX9_isOf_16 : decode cX9_isOf 16 = .ok (.if_icmp .eq 13, 3) := by decide +kernel
theorem dX9_isOf_19 : decode cX9_isOf 19 = .ok (.iload_n 1, 1) := by decide +kernel
theorem dX9_isOf_20 : decode cX9_isOf 20 = .ok (.iconst 2, 1) := by decide +kernel
theorem dX9_isOf_21 : decode cX9_isOf 21 = .ok (.if_icmp .ne 12, 3) := by decide +kernel
theorem dX9_isOf_24 : decode cX9_isOf 24 = .ok (.iload_n 0, 1) := by decide +kernel
theorem dX9_isOf_25 : decode cX9_isOf 25 = .ok (.iconst 4, 1) := by decide +kernel
theorem dX9_isOf_26 : decode cX9_isOf 26 = .ok (.if_icmp .ne 7, 3) := by decide +kernel
theorem dX9_isOf_29 : decode cX9_isOf 29 = .ok (.iconst 1, 1) := by decide +kernel
theorem dX9_isOf_30 : decode cX9_isOf 30 = .ok (.goto 4, 3) := by decide +kernel
theorem dX9_isOf_33 : decode cX9_isOf 33 = .ok (.iconst 0, 1) := by decide +kernel
theorem dX9_isOf_34 : decode cX9_isOf 34 = .ok (.ireturn, 1) := by decide +kernel
theorem dX9_comes_0 : decode cX9_comes 0 = .ok (.aload_n 0, 1) := by decide +kernel
theorem dX9_comes_1 : decode cX9_comes 1 = .ok (.getfield 7, 3) := by decide +kernel
theorem dX9_comes_4 : decode cX9_comes 4 = .ok (.iconst 0, 1) := by decide +kernel
theorem dX9_comes_5 : decode cX9_comes 5 = .ok (.iaload, 1) := by decide +kernel
theorem dX9_comes_6 : decode cX9_comes 6 = .ok (.istore 4, 2) := by decide +kernel
theorem dX9_comes_8 : decode cX9_comes 8 = .ok (.aload_n 0, 1) := by decide +kernel
theorem dX9_comes_9 : decode cX9_comes 9 = .ok (.getfield 7, 3) := by decide +kernel
theorem dX9_comes_12 : decode cX9_comes 12 = .ok (.iconst 0, 1) := by decide +kernel
theorem dX9_comes_13 : decode cX9_comes 13 = .ok (.dup2, 1) := by decide +kernel
theorem dX9_comes_14 : decode cX9_comes 14 = .ok (.iaload, 1) := by decide +kernel
theorem dX9_comes_15 : decode cX9_comes 15 = .ok (.iconst 1, 1) := by decide +kernel
theorem dX9_comes_16 : decode cX9_comes 16 = .ok (.iadd, 1) := by decide +kernel
theorem dX9_comes_17 : decode cX9_comes 17 = .ok (.iastore, 1) := by decide +kernel
theorem dX9_comes_18 : decode cX9_comes 18 = .ok (.aload_n 0, 1) := by decide +kernel
theorem dX9_comes_19 : decode cX9_comes 19 = .ok (.iload 4, 2) := by decide +kernel
theorem dX9_comes_21 : decode cX9_comes 21 = .ok (.iconst 0, 1) := by decide +kernel
theorem dX9_comes_22 : decode cX9_comes 22 = .ok (.iload_n 1, 1) := by decide +kernel
theorem dX9_comes_23 : decode cX9_comes 23 = .ok (.invokevirtual 73, 3) := by decide +kernel
theorem dX9_comes_26 : decode cX9_comes 26 = .ok (.aload_n 0, 1) := by decide +kernel
theorem dX9_comes_27 : decode cX9_comes 27 = .ok (.iload 4, 2) := by decide +kernel
theorem dX9_comes_29 : decode cX9_comes 29 = .ok (.iconst 1, 1) := by decide +kernel
theorem dX9_comes_30 : decode cX9_comes 30 = .ok (.iload_n 2, 1) := by decide +kernel
theorem dX9_comes_31 : decode cX9_comes 31 = .ok (.invokevirtual 73, 3) := by decide +kernel
theorem dX9_comes_34 : decode cX9_comes 34 = .ok (.aload_n 0, 1) := by decide +kernel
theorem dX9_comes_35 : decode cX9_comes 35 = .ok (.iload 4, 2) := by decide +kernel
theorem dX9_comes_37 : decode cX9_comes 37 = .ok (.iconst 2, 1) := by decide +kernel
theorem dX9_comes_38 : decode cX9_comes 38 = .ok (.iload_n 3, 1) := by decide +kernel
theorem dX9_comes_39 : decode cX9_comes 39 = .ok (.invokevirtual 73, 3) := by decide +kernel
theorem dX9_comes_42 : decode cX9_comes 42 = .ok (.return_, 1) := by decide +kernel
theorem dX9_clock_0 : decode cX9_clock 0 = .ok (.iload_n 1, 1) := by decide +kernel
theorem dX9_clock_1 : decode cX9_clock 1 = .ok (.i2l, 1) := by decide +kernel
theorem dX9_clock_2 : decode cX9_clock 2 = .ok (.lconst 0, 1) := by decide +kernel
theorem dX9_clock_3 : decode cX9_clock 3 = .ok (.ldc2_w 77, 3) := by decide +kernel
theorem dX9_clock_6 : decode cX9_clock 6 = .ok (.invokestatic 68, 3) := by decide +kernel
theorem dX9_clock_9 : decode cX9_clock 9 = .ok (.ifCond .eq 27, 3) := by decide +kernel
theorem dX9_clock_12 : decode cX9_clock 12 = .ok (.iload_n 2, 1) := by decide +kernel
theorem dX9_clock_13 : decode cX9_clock 13 = .ok (.i2l, 1) := by decide +kernel
theorem dX9_clock_14 : decode cX9_clock 14 = .ok (.lconst 0, 1) := by decide +kernel
theorem dX9_clock_15 : decode cX9_clock 15 = .ok (.ldc2_w 79, 3) := by decide +kernel
theorem dX9_clock_18 : decode cX9_clock 18 = .ok (.invokestatic 68, 3) := by decide +kernel
theorem dX9_clock_21 : decode cX9_clock 21 = .ok (.ifCond .eq 15, 3) := by decide +kernel
theorem dX9_clock_24 : decode cX9_clock 24 = .ok (.iload_n 3, 1) := by decide +kernel
theorem dX9_clock_25 : decode cX9_clock 25 = .ok (.i2l, 1) := by decide +kernel
theorem dX9_clock_26 : decode cX9_clock 26 = .ok (.lconst 0, 1) := by decide +kernel
theorem dX9_clock_27 : decode cX9_clock 27 = .ok (.ldc2_w 81, 3) := by decide +kernel
theorem dX9_clock_30 : decode cX9_clock 30 = .ok (.invokestatic 68, 3) := by decide +kernel
theorem dX9_clock_33 : decode cX9_clock 33 = .ok (.ifCond .ne 6, 3) := by decide +kernel
theorem dX9_clock_36 : decode cX9_clock 36 = .ok (.ldc 83, 2) := by decide +kernel
theorem dX9_clock_38 : decode cX9_clock 38 = .ok (.ireturn, 1) := by decide +kernel
theorem dX9_clock_39 : decode cX9_clock 39 = .ok (.aload_n 0, 1) := by decide +kernel
theorem dX9_clock_40 : decode cX9_clock 40 = .ok (.getfield 7, 3) := by decide +kernel
theorem dX9_clock_43 : decode cX9_clock 43 = .ok (.iconst 0, 1) := by decide +kernel
theorem dX9_clock_44 : decode cX9_clock 44 = .ok (.iaload, 1) := by decide +kernel
theorem dX9_clock_45 : decode cX9_clock 45 = .ok (.bipush 6, 2) := by decide +kernel
theorem dX9_clock_47 : decode cX9_clock 47 = .ok (.if_icmp .ne 6, 3) := by decide +kernel
theorem dX9_clock_50 : decode cX9_clock 50 = .ok (.ldc 84, 2) := by decide +kernel
theorem dX9_clock_52 : decode cX9_clock 52 = .ok (.ireturn, 1) := by decide +kernel
theorem dX9_clock_53 : decode cX9_clock 53 = .ok (.aload_n 0, 1) := by decide +kernel
theorem dX9_clock_54 : decode cX9_clock 54 = .ok (.iload_n 1, 1) := by decide +kernel
theorem dX9_clock_55 : decode cX9_clock 55 = .ok (.iload_n 2, 1) := by decide +kernel
theorem dX9_clock_56 : decode cX9_clock 56 = .ok (.iload_n 3, 1) := by decide +kernel
theorem dX9_clock_57 : decode cX9_clock 57 = .ok (.invokevirtual 85, 3) := by decide +kernel
theorem dX9_clock_60 : decode cX9_clock 60 = .ok (.aload_n 0, 1) := by decide +kernel
theorem dX9_clock_61 : decode cX9_clock 61 = .ok (.getfield 7, 3) := by decide +kernel
theorem dX9_clock_64 : decode cX9_clock 64 = .ok (.iconst 0, 1) := by decide +kernel
theorem dX9_clock_65 : decode cX9_clock 65 = .ok (.iaload, 1) := by decide +kernel
theorem dX9_clock_66 : decode cX9_clock 66 = .ok (.iconst 1, 1) := by decide +kernel
theorem dX9_clock_67 : decode cX9_clock 67 = .ok (.isub, 1) := by decide +kernel
theorem dX9_clock_68 : decode cX9_clock 68 = .ok (.ireturn, 1) := by decide +kernel
theorem dX9_again_0 : decode cX9_again 0 = .ok (.aload_n 0, 1) := by decide +kernel
theorem dX9_again_1 : decode cX9_again 1 = .ok (.iconst 0, 1) := by decide +kernel
theorem dX9_again_2 : decode cX9_again 2 = .ok (.invokevirtual 92, 3) := by decide +kernel
theorem dX9_again_5 : decode cX9_again 5 = .ok (.istore_n 3, 1) := by decide +kernel
theorem dX9_again_6 : decode cX9_again 6 = .ok (.iload_n 3, 1) := by decide +kernel
theorem dX9_again_7 : decode cX9_again 7 = .ok (.ifCond .ge 5, 3) := by decide +kernel
theorem dX9_again_10 : decode cX9_again 10 = .ok (.iconst 2, 1) := by decide +kernel
theorem dX9_again_11 : decode cX9_again 11 = .ok (.ireturn, 1) := by decide +kernel
theorem dX9_again_12 : decode cX9_again 12 = .ok (.aload_n 0, 1) := by decide +kernel
theorem dX9_again_13 : decode cX9_again 13 = .ok (.getfield 52, 3) := by decide +kernel
theorem dX9_again_16 : decode cX9_again 16 = .ok (.bipush 111, 2) := by decide +kernel
theorem dX9_again_18 : decode cX9_again 18 = .ok (.aload_n 0, 1) := by decide +kernel
theorem dX9_again_19 : decode cX9_again 19 = .ok (.iload_n 1, 1) := by decide +kernel
theorem dX9_again_20 : decode cX9_again 20 = .ok (.iconst 1, 1) := by decide +kernel
theorem dX9_again_21 : decode cX9_again 21 = .ok (.invokevirtual 88, 3) := by decide +kernel
theorem dX9_again_24 : decode cX9_again 24 = .ok (.iastore, 1) := by decide +kernel
theorem dX9_again_25 : decode cX9_again 25 = .ok (.aload_n 0, 1) := by decide +kernel
theorem dX9_again_26 : decode cX9_again 26 = .ok (.getfield 52, 3) := by decide +kernel
theorem dX9_again_29 : decode cX9_again 29 = .ok (.bipush 116, 2) := by decide +kernel
theorem dX9_again_31 : decode cX9_again 31 = .ok (.aload_n 0, 1) := by decide +kernel
theorem dX9_again_32 : decode cX9_again 32 = .ok (.iload_n 1, 1) := by decide +kernel
theorem dX9_again_33 : decode cX9_again 33 = .ok (.iconst 2, 1) := by decide +kernel
theorem dX9_again_34 : decode cX9_again 34 = .ok (.invokevirtual 88, 3) := by decide +kernel
theorem dX9_again_37 : decode cX9_again 37 = .ok (.iastore, 1) := by decide +kernel
theorem dX9_again_38 : decode cX9_again 38 = .ok (.aload_n 0, 1) := by decide +kernel
theorem dX9_again_39 : decode cX9_again 39 = .ok (.getfield 52, 3) := by decide +kernel
theorem dX9_again_42 : decode cX9_again 42 = .ok (.bipush 104, 2) := by decide +kernel
theorem dX9_again_44 : decode cX9_again 44 = .ok (.iload_n 2, 1) := by decide +kernel
theorem dX9_again_45 : decode cX9_again 45 = .ok (.iastore, 1) := by decide +kernel
theorem dX9_again_46 : decode cX9_again 46 = .ok (.aload_n 0, 1) := by decide +kernel
theorem dX9_again_47 : decode cX9_again 47 = .ok (.iload_n 3, 1) := by decide +kernel
theorem dX9_again_48 : decode cX9_again 48 = .ok (.invokevirtual 96, 3) := by decide +kernel
theorem dX9_again_51 : decode cX9_again 51 = .ok (.istore 4, 2) := by decide +kernel
theorem dX9_again_53 : decode cX9_again 53 = .ok (.iload 4, 2) := by decide +kernel
theorem dX9_again_55 : decode cX9_again 55 = .ok (.iconst 1, 1) := by decide +kernel
theorem dX9_again_56 : decode cX9_again 56 = .ok (.if_icmp .ge 7, 3) := by decide +kernel
theorem dX9_again_59 : decode cX9_again 59 = .ok (.iconst 1, 1) := by decide +kernel
theorem dX9_again_60 : decode cX9_again 60 = .ok (.goto 17, 3) := by decide +kernel
theorem dX9_again_63 : decode cX9_again 63 = .ok (.iload 4, 2) := by decide +kernel
theorem dX9_again_65 : decode cX9_again 65 = .ok (.bipush 14, 2) := by decide +kernel
theorem dX9_again_67 : decode cX9_again 67 = .ok (.if_icmp .le 8, 3) := by decide +kernel
theorem dX9_again_70 : decode cX9_again 70 = .ok (.bipush 14, 2) := by decide +kernel
theorem dX9_again_72 : decode cX9_again 72 = .ok (.goto 5, 3) := by decide +kernel
theorem dX9_again_75 : decode cX9_again 75 = .ok (.iload 4, 2) := by decide +kernel
theorem dX9_again_77 : decode cX9_again 77 = .ok (.ireturn, 1) := by decide +kernel
theorem dX9_atHour_0 : decode cX9_atHour 0 = .ok (.aload_n 0, 1) := by decide +kernel
theorem dX9_atHour_1 : decode cX9_atHour 1 = .ok (.iload_n 1, 1) := by decide +kernel
theorem dX9_atHour_2 : decode cX9_atHour 2 = .ok (.iconst 0, 1) := by decide +kernel
theorem dX9_atHour_3 : decode cX9_atHour 3 = .ok (.invokevirtual 88, 3) := by decide +kernel
theorem dX9_atHour_6 : decode cX9_atHour 6 = .ok (.iconst 3, 1) := by decide +kernel
theorem dX9_atHour_7 : decode cX9_atHour 7 = .ok (.if_icmp .ne 9, 3) := by decide +kernel
theorem dX9_atHour_10 : decode cX9_atHour 10 = .ok (.iload_n 2, 1) := by decide +kernel
theorem dX9_atHour_11 : decode cX9_atHour 11 = .ok (.iconst 4, 1) := by decide +kernel
theorem dX9_atHour_12 : decode cX9_atHour 12 = .ok (.iadd, 1) := by decide +kernel
theorem dX9_atHour_13 : decode cX9_atHour 13 = .ok (.goto 24, 3) := by decide +kernel
theorem dX9_atHour_16 : decode cX9_atHour 16 = .ok (.aload_n 0, 1) := by decide +kernel
theorem dX9_atHour_17 : decode cX9_atHour 17 = .ok (.iload_n 1, 1) := by decide +kernel
theorem dX9_atHour_18 : decode cX9_atHour 18 = .ok (.iconst 0, 1) := by decide +kernel
theorem dX9_atHour_19 : decode cX9_atHour 19 = .ok (.invokevirtual 88, 3) := by decide +kernel
theorem dX9_atHour_22 : decode cX9_atHour 22 = .ok (.iconst 4, 1) := by decide +kernel
theorem dX9_atHour_23 : decode cX9_atHour 23 = .ok (.if_icmp .ne 13, 3) := by decide +kernel
theorem dX9_atHour_26 : decode cX9_atHour 26 = .ok (.iload_n 2, 1) := by decide +kernel
theorem dX9_atHour_27 : decode cX9_atHour 27 = .ok (.iconst 5, 1) := by decide +kernel
theorem dX9_atHour_28 : decode cX9_atHour 28 = .ok (.idiv, 1) := by decide +kernel
theorem dX9_atHour_29 : decode cX9_atHour 29 = .ok (.iload_n 2, 1) := by decide +kernel
theorem dX9_atHour_30 : decode cX9_atHour 30 = .ok (.iconst 5, 1) := by decide +kernel
theorem dX9_atHour_31 : decode cX9_atHour 31 = .ok (.irem, 1) := by decide +kernel
theorem dX9_atHour_32 : decode cX9_atHour 32 = .ok (.iadd, 1) := by decide +kernel
theorem dX9_atHour_33 : decode cX9_atHour 33 = .ok (.goto 4, 3) := by decide +kernel
theorem dX9_atHour_36 : decode cX9_atHour 36 = .ok (.iload_n 2, 1) := by decide +kernel
theorem dX9_atHour_37 : decode cX9_atHour 37 = .ok (.ireturn, 1) := by decide +kernel
theorem dX9_strikes_0 : decode cX9_strikes 0 = .ok (.iload_n 2, 1) := by decide +kernel
theorem dX9_strikes_1 : decode cX9_strikes 1 = .ok (.sipush 720, 3) := by decide +kernel
theorem dX9_strikes_4 : decode cX9_strikes 4 = .ok (.iadd, 1) := by decide +kernel
theorem dX9_strikes_5 : decode cX9_strikes 5 = .ok (.aload_n 0, 1) := by decide +kernel
theorem dX9_strikes_6 : decode cX9_strikes 6 = .ok (.iload_n 1, 1) := by decide +kernel
theorem dX9_strikes_7 : decode cX9_strikes 7 = .ok (.iconst 1, 1) := by decide +kernel
theorem dX9_strikes_8 : decode cX9_strikes 8 = .ok (.invokevirtual 88, 3) := by decide +kernel
theorem dX9_strikes_11 : decode cX9_strikes 11 = .ok (.isub, 1) := by decide +kernel
theorem dX9_strikes_12 : decode cX9_strikes 12 = .ok (.sipush 720, 3) := by decide +kernel
theorem dX9_strikes_15 : decode cX9_strikes 15 = .ok (.irem, 1) := by decide +kernel
theorem dX9_strikes_16 : decode cX9_strikes 16 = .ok (.istore_n 3, 1) := by decide +kernel
theorem dX9_strikes_17 : decode cX9_strikes 17 = .ok (.iload_n 3, 1) := by decide +kernel
theorem dX9_strikes_18 : decode cX9_strikes 18 = .ok (.bipush 60, 2) := by decide +kernel
theorem dX9_strikes_20 : decode cX9_strikes 20 = .ok (.if_icmp .ge 8, 3) := by decide +kernel
theorem dX9_strikes_23 : decode cX9_strikes 23 = .ok (.bipush 12, 2) := by decide +kernel
theorem dX9_strikes_25 : decode cX9_strikes 25 = .ok (.goto 7, 3) := by decide +kernel
theorem dX9_strikes_28 : decode cX9_strikes 28 = .ok (.iload_n 3, 1) := by decide +kernel
theorem dX9_strikes_29 : decode cX9_strikes 29 = .ok (.bipush 60, 2) := by decide +kernel
theorem dX9_strikes_31 : decode cX9_strikes 31 = .ok (.idiv, 1) := by decide +kernel
theorem dX9_strikes_32 : decode cX9_strikes 32 = .ok (.istore 4, 2) := by decide +kernel
theorem dX9_strikes_34 : decode cX9_strikes 34 = .ok (.iload_n 3, 1) := by decide +kernel
theorem dX9_strikes_35 : decode cX9_strikes 35 = .ok (.bipush 60, 2) := by decide +kernel
theorem dX9_strikes_37 : decode cX9_strikes 37 = .ok (.irem, 1) := by decide +kernel
theorem dX9_strikes_38 : decode cX9_strikes 38 = .ok (.istore 5, 2) := by decide +kernel
theorem dX9_strikes_40 : decode cX9_strikes 40 = .ok (.iload 5, 2) := by decide +kernel
theorem dX9_strikes_42 : decode cX9_strikes 42 = .ok (.ifCond .ne 11, 3) := by decide +kernel
theorem dX9_strikes_45 : decode cX9_strikes 45 = .ok (.aload_n 0, 1) := by decide +kernel
theorem dX9_strikes_46 : decode cX9_strikes 46 = .ok (.iload_n 1, 1) := by decide +kernel
theorem dX9_strikes_47 : decode cX9_strikes 47 = .ok (.iload 4, 2) := by decide +kernel
theorem dX9_strikes_49 : decode cX9_strikes 49 = .ok (.invokevirtual 99, 3) := by decide +kernel
theorem dX9_strikes_52 : decode cX9_strikes 52 = .ok (.ireturn, 1) := by decide +kernel
theorem dX9_strikes_53 : decode cX9_strikes 53 = .ok (.aload_n 0, 1) := by decide +kernel
theorem dX9_strikes_54 : decode cX9_strikes 54 = .ok (.iload_n 1, 1) := by decide +kernel
theorem dX9_strikes_55 : decode cX9_strikes 55 = .ok (.iconst 0, 1) := by decide +kernel
theorem dX9_strikes_56 : decode cX9_strikes 56 = .ok (.invokevirtual 88, 3) := by decide +kernel
theorem dX9_strikes_59 : decode cX9_strikes 59 = .ok (.tableswitch 95 1 5 #[33, 64, 33, 64, 51], 33) := by decide +kernel
theorem dX9_strikes_92 : decode cX9_strikes 92 = .ok (.iload 5, 2) := by decide +kernel
theorem dX9_strikes_94 : decode cX9_strikes 94 = .ok (.bipush 15, 2) := by decide +kernel
theorem dX9_strikes_96 : decode cX9_strikes 96 = .ok (.irem, 1) := by decide +kernel
theorem dX9_strikes_97 : decode cX9_strikes 97 = .ok (.ifCond .ne 11, 3) := by decide +kernel
theorem dX9_strikes_100 : decode cX9_strikes 100 = .ok (.iload 5, 2) := by decide +kernel
theorem dX9_strikes_102 : decode cX9_strikes 102 = .ok (.bipush 15, 2) := by decide +kernel
theorem dX9_strikes_104 : decode cX9_strikes 104 = .ok (.idiv, 1) := by decide +kernel
theorem dX9_strikes_105 : decode cX9_strikes 105 = .ok (.goto 4, 3) := by decide +kernel
theorem dX9_strikes_108 : decode cX9_strikes 108 = .ok (.iconst 0, 1) := by decide +kernel
theorem dX9_strikes_109 : decode cX9_strikes 109 = .ok (.ireturn, 1) := by decide +kernel
theorem dX9_strikes_110 : decode cX9_strikes 110 = .ok (.iload 5, 2) := by decide +kernel
theorem dX9_strikes_112 : decode cX9_strikes 112 = .ok (.bipush 30, 2) := by decide +kernel
theorem dX9_strikes_114 : decode cX9_strikes 114 = .ok (.if_icmp .ne 7, 3) := by decide +kernel
theorem dX9_strikes_117 : decode cX9_strikes 117 = .ok (.iconst 1, 1) := by decide +kernel
theorem dX9_strikes_118 : decode cX9_strikes 118 = .ok (.goto 4, 3) := by decide +kernel
theorem dX9_strikes_121 : decode cX9_strikes 121 = .ok (.iconst 0, 1) := by decide +kernel
theorem dX9_strikes_122 : decode cX9_strikes 122 = .ok (.ireturn, 1) := by decide +kernel
theorem dX9_strikes_123 : decode cX9_strikes 123 = .ok (.iload 5, 2) := by decide +kernel
theorem dX9_strikes_125 : decode cX9_strikes 125 = .ok (.bipush 15, 2) := by decide +kernel
theorem dX9_strikes_127 : decode cX9_strikes 127 = .ok (.if_icmp .ge 25, 3) := by decide +kernel
theorem dX9_strikes_130 : decode cX9_strikes 130 = .ok (.iload 5, 2) := by decide +kernel
theorem dX9_strikes_132 : decode cX9_strikes 132 = .ok (.aload_n 0, 1) := by decide +kernel
theorem dX9_strikes_133 : decode cX9_strikes 133 = .ok (.iload_n 1, 1) := by decide +kernel
theorem dX9_strikes_134 : decode cX9_strikes 134 = .ok (.iload 4, 2) := by decide +kernel
theorem dX9_strikes_136 : decode cX9_strikes 136 = .ok (.invokevirtual 102, 3) := by decide +kernel
theorem dX9_strikes_139 : decode cX9_strikes 139 = .ok (.if_icmp .ne 13, 3) := by decide +kernel
theorem dX9_strikes_142 : decode cX9_strikes 142 = .ok (.aload_n 0, 1) := by decide +kernel
theorem dX9_strikes_143 : decode cX9_strikes 143 = .ok (.iload_n 1, 1) := by decide +kernel
theorem dX9_strikes_144 : decode cX9_strikes 144 = .ok (.iload 4, 2) := by decide +kernel
theorem dX9_strikes_146 : decode cX9_strikes 146 = .ok (.invokevirtual 99, 3) := by decide +kernel
theorem dX9_strikes_149 : decode cX9_strikes 149 = .ok (.goto 4, 3) := by decide +kernel
theorem dX9_strikes_152 : decode cX9_strikes 152 = .ok (.iconst 0, 1) := by decide +kernel
theorem dX9_strikes_153 : decode cX9_strikes 153 = .ok (.ireturn, 1) := by decide +kernel
theorem dX9_strikes_154 : decode cX9_strikes 154 = .ok (.iconst 0, 1) := by decide +kernel
theorem dX9_strikes_155 : decode cX9_strikes 155 = .ok (.ireturn, 1) := by decide +kernel
theorem dX9_worth_0 : decode cX9_worth 0 = .ok (.aload_n 0, 1) := by decide +kernel
theorem dX9_worth_1 : decode cX9_worth 1 = .ok (.iload_n 1, 1) := by decide +kernel
theorem dX9_worth_2 : decode cX9_worth 2 = .ok (.iconst 1, 1) := by decide +kernel
theorem dX9_worth_3 : decode cX9_worth 3 = .ok (.invokevirtual 88, 3) := by decide +kernel
theorem dX9_worth_6 : decode cX9_worth 6 = .ok (.istore_n 2, 1) := by decide +kernel
theorem dX9_worth_7 : decode cX9_worth 7 = .ok (.aload_n 0, 1) := by decide +kernel
theorem dX9_worth_8 : decode cX9_worth 8 = .ok (.iload_n 1, 1) := by decide +kernel
theorem dX9_worth_9 : decode cX9_worth 9 = .ok (.iconst 0, 1) := by decide +kernel
theorem dX9_worth_10 : decode cX9_worth 10 = .ok (.invokevirtual 88, 3) := by decide +kernel
theorem dX9_worth_13 : decode cX9_worth 13 = .ok (.tableswitch 57 1 5 #[35, 45, 39, 50, 55], 35) := by decide +kernel
theorem dX9_worth_48 : decode cX9_worth 48 = .ok (.iload_n 2, 1) := by decide +kernel
theorem dX9_worth_49 : decode cX9_worth 49 = .ok (.iconst 4, 1) := by decide +kernel
theorem dX9_worth_50 : decode cX9_worth 50 = .ok (.iadd, 1) := by decide +kernel
theorem dX9_worth_51 : decode cX9_worth 51 = .ok (.ireturn, 1) := by decide +kernel
theorem dX9_worth_52 : decode cX9_worth 52 = .ok (.iconst 2, 1) := by decide +kernel
theorem dX9_worth_53 : decode cX9_worth 53 = .ok (.iload_n 2, 1) := by decide +kernel
theorem dX9_worth_54 : decode cX9_worth 54 = .ok (.iconst 4, 1) := by decide +kernel
theorem dX9_worth_55 : decode cX9_worth 55 = .ok (.iadd, 1) := by decide +kernel
theorem dX9_worth_56 : decode cX9_worth 56 = .ok (.imul, 1) := by decide +kernel
theorem dX9_worth_57 : decode cX9_worth 57 = .ok (.ireturn, 1) := by decide +kernel
theorem dX9_worth_58 : decode cX9_worth 58 = .ok (.bipush 60, 2) := by decide +kernel
theorem dX9_worth_60 : decode cX9_worth 60 = .ok (.iload_n 2, 1) := by decide +kernel
theorem dX9_worth_61 : decode cX9_worth 61 = .ok (.isub, 1) := by decide +kernel
theorem dX9_worth_62 : decode cX9_worth 62 = .ok (.ireturn, 1) := by decide +kernel
theorem dX9_worth_63 : decode cX9_worth 63 = .ok (.bipush 55, 2) := by decide +kernel
theorem dX9_worth_65 : decode cX9_worth 65 = .ok (.iload_n 2, 1) := by decide +kernel
theorem dX9_worth_66 : decode cX9_worth 66 = .ok (.isub, 1) := by decide +kernel
theorem dX9_worth_67 : decode cX9_worth 67 = .ok (.ireturn, 1) := by decide +kernel
theorem dX9_worth_68 : decode cX9_worth 68 = .ok (.iconst 2, 1) := by decide +kernel
theorem dX9_worth_69 : decode cX9_worth 69 = .ok (.ireturn, 1) := by decide +kernel
theorem dX9_worth_70 : decode cX9_worth 70 = .ok (.iload_n 2, 1) := by decide +kernel
theorem dX9_worth_71 : decode cX9_worth 71 = .ok (.ireturn, 1) := by decide +kernel
theorem dX9_timeNow_0 : decode cX9_timeNow 0 = .ok (.aload_n 0, 1) := by decide +kernel
theorem dX9_timeNow_1 : decode cX9_timeNow 1 = .ok (.getfield 7, 3) := by decide +kernel
theorem dX9_timeNow_4 : decode cX9_timeNow 4 = .ok (.iconst 2, 1) := by decide +kernel
theorem dX9_timeNow_5 : decode cX9_timeNow 5 = .ok (.iaload, 1) := by decide +kernel
theorem dX9_timeNow_6 : decode cX9_timeNow 6 = .ok (.sipush 720, 3) := by decide +kernel
theorem dX9_timeNow_9 : decode cX9_timeNow 9 = .ok (.irem, 1) := by decide +kernel
theorem dX9_timeNow_10 : decode cX9_timeNow 10 = .ok (.ireturn, 1) := by decide +kernel
theorem dX9_isTime_0 : decode cX9_isTime 0 = .ok (.iload_n 0, 1) := by decide +kernel
theorem dX9_isTime_1 : decode cX9_isTime 1 = .ok (.i2l, 1) := by decide +kernel
theorem dX9_isTime_2 : decode cX9_isTime 2 = .ok (.lconst 0, 1) := by decide +kernel
theorem dX9_isTime_3 : decode cX9_isTime 3 = .ok (.ldc2_w 105, 3) := by decide +kernel
theorem dX9_isTime_6 : decode cX9_isTime 6 = .ok (.invokestatic 68, 3) := by decide +kernel
theorem dX9_isTime_9 : decode cX9_isTime 9 = .ok (.ireturn, 1) := by decide +kernel
theorem dX9_told_0 : decode cX9_told 0 = .ok (.aload_n 0, 1) := by decide +kernel
theorem dX9_told_1 : decode cX9_told 1 = .ok (.iload_n 1, 1) := by decide +kernel
theorem dX9_told_2 : decode cX9_told 2 = .ok (.invokevirtual 107, 3) := by decide +kernel
theorem dX9_told_5 : decode cX9_told 5 = .ok (.ifCond .eq 15, 3) := by decide +kernel
theorem dX9_told_8 : decode cX9_told 8 = .ok (.iload_n 2, 1) := by decide +kernel
theorem dX9_told_9 : decode cX9_told 9 = .ok (.i2l, 1) := by decide +kernel
theorem dX9_told_10 : decode cX9_told 10 = .ok (.lconst 0, 1) := by decide +kernel
theorem dX9_told_11 : decode cX9_told 11 = .ok (.ldc2_w 77, 3) := by decide +kernel
theorem dX9_told_14 : decode cX9_told 14 = .ok (.invokestatic 68, 3) := by decide +kernel
theorem dX9_told_17 : decode cX9_told 17 = .ok (.ifCond .ne 6, 3) := by decide +kernel
theorem dX9_told_20 : decode cX9_told 20 = .ok (.ldc 83, 2) := by decide +kernel
theorem dX9_told_22 : decode cX9_told 22 = .ok (.ireturn, 1) := by decide +kernel
theorem dX9_told_23 : decode cX9_told 23 = .ok (.iload_n 2, 1) := by decide +kernel
theorem dX9_told_24 : decode cX9_told 24 = .ok (.iconst 3, 1) := by decide +kernel
theorem dX9_told_25 : decode cX9_told 25 = .ok (.if_icmp .ge 10, 3) := by decide +kernel
theorem dX9_told_28 : decode cX9_told 28 = .ok (.aload_n 0, 1) := by decide +kernel
theorem dX9_told_29 : decode cX9_told 29 = .ok (.iload_n 1, 1) := by decide +kernel
theorem dX9_told_30 : decode cX9_told 30 = .ok (.iload_n 2, 1) := by decide +kernel
theorem dX9_told_31 : decode cX9_told 31 = .ok (.invokevirtual 88, 3) := by decide +kernel
theorem dX9_told_34 : decode cX9_told 34 = .ok (.ireturn, 1) := by decide +kernel
theorem dX9_told_35 : decode cX9_told 35 = .ok (.iload_n 2, 1) := by decide +kernel
theorem dX9_told_36 : decode cX9_told 36 = .ok (.iconst 3, 1) := by decide +kernel
theorem dX9_told_37 : decode cX9_told 37 = .ok (.if_icmp .ne 13, 3) := by decide +kernel
theorem dX9_told_40 : decode cX9_told 40 = .ok (.aload_n 0, 1) := by decide +kernel
theorem dX9_told_41 : decode cX9_told 41 = .ok (.iload_n 1, 1) := by decide +kernel
theorem dX9_told_42 : decode cX9_told 42 = .ok (.aload_n 0, 1) := by decide +kernel
theorem dX9_told_43 : decode cX9_told 43 = .ok (.invokevirtual 111, 3) := by decide +kernel
theorem dX9_told_46 : decode cX9_told 46 = .ok (.invokevirtual 115, 3) := by decide +kernel
theorem dX9_told_49 : decode cX9_told 49 = .ok (.ireturn, 1) := by decide +kernel
theorem dX9_told_50 : decode cX9_told 50 = .ok (.iconst 0, 1) := by decide +kernel
theorem dX9_told_51 : decode cX9_told 51 = .ok (.istore_n 3, 1) := by decide +kernel
theorem dX9_told_52 : decode cX9_told 52 = .ok (.iconst 0, 1) := by decide +kernel
theorem dX9_told_53 : decode cX9_told 53 = .ok (.istore 4, 2) := by decide +kernel
theorem dX9_told_55 : decode cX9_told 55 = .ok (.iload 4, 2) := by decide +kernel
theorem dX9_told_57 : decode cX9_told 57 = .ok (.sipush 720, 3) := by decide +kernel
theorem dX9_told_60 : decode cX9_told 60 = .ok (.if_icmp .ge 24, 3) := by decide +kernel
theorem dX9_told_63 : decode cX9_told 63 = .ok (.iload_n 2, 1) := by decide +kernel
theorem dX9_told_64 : decode cX9_told 64 = .ok (.iconst 4, 1) := by decide +kernel
theorem dX9_told_65 : decode cX9_told 65 = .ok (.if_icmp .ne 19, 3) := by decide +kernel
theorem dX9_told_68 : decode cX9_told 68 = .ok (.iload_n 3, 1) := by decide +kernel
theorem dX9_told_69 : decode cX9_told 69 = .ok (.aload_n 0, 1) := by decide +kernel
theorem dX9_told_70 : decode cX9_told 70 = .ok (.iload_n 1, 1) := by decide +kernel
theorem dX9_told_71 : decode cX9_told 71 = .ok (.iload 4, 2) := by decide +kernel
theorem dX9_told_73 : decode cX9_told 73 = .ok (.invokevirtual 115, 3) := by decide +kernel
theorem dX9_told_76 : decode cX9_told 76 = .ok (.iadd, 1) := by decide +kernel
theorem dX9_told_77 : decode cX9_told 77 = .ok (.istore_n 3, 1) := by decide +kernel
theorem dX9_told_78 : decode cX9_told 78 = .ok (.iinc 4 1, 3) := by decide +kernel
theorem dX9_told_81 : decode cX9_told 81 = .ok (.goto (-26), 3) := by decide +kernel
theorem dX9_told_84 : decode cX9_told 84 = .ok (.iload_n 2, 1) := by decide +kernel
theorem dX9_told_85 : decode cX9_told 85 = .ok (.iconst 4, 1) := by decide +kernel
theorem dX9_told_86 : decode cX9_told 86 = .ok (.if_icmp .ne 7, 3) := by decide +kernel
theorem dX9_told_89 : decode cX9_told 89 = .ok (.iload_n 3, 1) := by decide +kernel
theorem dX9_told_90 : decode cX9_told 90 = .ok (.goto 8, 3) := by decide +kernel
theorem dX9_told_93 : decode cX9_told 93 = .ok (.aload_n 0, 1) := by decide +kernel
theorem dX9_told_94 : decode cX9_told 94 = .ok (.iload_n 1, 1) := by decide +kernel
theorem dX9_told_95 : decode cX9_told 95 = .ok (.invokevirtual 118, 3) := by decide +kernel
theorem dX9_told_98 : decode cX9_told 98 = .ok (.ireturn, 1) := by decide +kernel
theorem dX9_as_0 : decode cX9_as 0 = .ok (.aload_n 0, 1) := by decide +kernel
theorem dX9_as_1 : decode cX9_as 1 = .ok (.iload_n 1, 1) := by decide +kernel
theorem dX9_as_2 : decode cX9_as 2 = .ok (.invokevirtual 107, 3) := by decide +kernel
theorem dX9_as_5 : decode cX9_as 5 = .ok (.ifCond .eq 15, 3) := by decide +kernel
theorem dX9_as_8 : decode cX9_as 8 = .ok (.iload_n 2, 1) := by decide +kernel
theorem dX9_as_9 : decode cX9_as 9 = .ok (.i2l, 1) := by decide +kernel
theorem dX9_as_10 : decode cX9_as 10 = .ok (.lconst 0, 1) := by decide +kernel
theorem dX9_as_11 : decode cX9_as 11 = .ok (.ldc2_w 77, 3) := by decide +kernel
theorem dX9_as_14 : decode cX9_as 14 = .ok (.invokestatic 68, 3) := by decide +kernel
theorem dX9_as_17 : decode cX9_as 17 = .ok (.ifCond .ne 6, 3) := by decide +kernel
theorem dX9_as_20 : decode cX9_as 20 = .ok (.ldc 83, 2) := by decide +kernel
theorem dX9_as_22 : decode cX9_as 22 = .ok (.ireturn, 1) := by decide +kernel
theorem dX9_as_23 : decode cX9_as 23 = .ok (.aload_n 0, 1) := by decide +kernel
theorem dX9_as_24 : decode cX9_as 24 = .ok (.iload_n 1, 1) := by decide +kernel
theorem dX9_as_25 : decode cX9_as 25 = .ok (.iconst 0, 1) := by decide +kernel
theorem dX9_as_26 : decode cX9_as 26 = .ok (.invokevirtual 88, 3) := by decide +kernel
theorem dX9_as_29 : decode cX9_as 29 = .ok (.iload_n 2, 1) := by decide +kernel
theorem dX9_as_30 : decode cX9_as 30 = .ok (.invokestatic 121, 3) := by decide +kernel
theorem dX9_as_33 : decode cX9_as 33 = .ok (.ifCond .eq 12, 3) := by decide +kernel
theorem dX9_as_36 : decode cX9_as 36 = .ok (.aload_n 0, 1) := by decide +kernel
theorem dX9_as_37 : decode cX9_as 37 = .ok (.iload_n 1, 1) := by decide +kernel
theorem dX9_as_38 : decode cX9_as 38 = .ok (.iconst 2, 1) := by decide +kernel
theorem dX9_as_39 : decode cX9_as 39 = .ok (.invokevirtual 88, 3) := by decide +kernel
theorem dX9_as_42 : decode cX9_as 42 = .ok (.goto 5, 3) := by decide +kernel
theorem dX9_as_45 : decode cX9_as 45 = .ok (.ldc 125, 2) := by decide +kernel
theorem dX9_as_47 : decode cX9_as 47 = .ok (.ireturn, 1) := by decide +kernel
theorem dX9_turns_0 : decode cX9_turns 0 = .ok (.aload_n 0, 1) := by decide +kernel
theorem dX9_turns_1 : decode cX9_turns 1 = .ok (.iload_n 1, 1) := by decide +kernel
theorem dX9_turns_2 : decode cX9_turns 2 = .ok (.invokevirtual 107, 3) := by decide +kernel
theorem dX9_turns_5 : decode cX9_turns 5 = .ok (.ifCond .eq 29, 3) := by decide +kernel
theorem dX9_turns_8 : decode cX9_turns 8 = .ok (.iload_n 2, 1) := by decide +kernel
theorem dX9_turns_9 : decode cX9_turns 9 = .ok (.i2l, 1) := by decide +kernel
theorem dX9_turns_10 : decode cX9_turns 10 = .ok (.lconst 0, 1) := by decide +kernel
theorem dX9_turns_11 : decode cX9_turns 11 = .ok (.ldc2_w 77, 3) := by decide +kernel
theorem dX9_turns_14 : decode cX9_turns 14 = .ok (.invokestatic 68, 3) := by decide +kernel
theorem dX9_turns_17 : decode cX9_turns 17 = .ok (.ifCond .eq 17, 3) := by decide +kernel
theorem dX9_turns_20 : decode cX9_turns 20 = .ok (.aload_n 0, 1) := by decide +kernel
theorem dX9_turns_21 : decode cX9_turns 21 = .ok (.bipush 10, 2) := by decide +kernel
theorem dX9_turns_23 : decode cX9_turns 23 = .ok (.iconst 3, 1) := by decide +kernel
theorem dX9_turns_24 : decode cX9_turns 24 = .ok (.iload_n 1, 1) := by decide +kernel
theorem dX9_turns_25 : decode cX9_turns 25 = .ok (.imul, 1) := by decide +kernel
theorem dX9_turns_26 : decode cX9_turns 26 = .ok (.iadd, 1) := by decide +kernel
theorem dX9_turns_27 : decode cX9_turns 27 = .ok (.iload_n 2, 1) := by decide +kernel
theorem dX9_turns_28 : decode cX9_turns 28 = .ok (.invokevirtual 126, 3) := by decide +kernel
theorem dX9_turns_31 : decode cX9_turns 31 = .ok (.goto 5, 3) := by decide +kernel
theorem dX9_turns_34 : decode cX9_turns 34 = .ok (.ldc 83, 2) := by decide +kernel
theorem dX9_turns_36 : decode cX9_turns 36 = .ok (.ireturn, 1) := by decide +kernel
theorem dX9_set_0 : decode cX9_set 0 = .ok (.aload_n 0, 1) := by decide +kernel
theorem dX9_set_1 : decode cX9_set 1 = .ok (.iload_n 1, 1) := by decide +kernel
theorem dX9_set_2 : decode cX9_set 2 = .ok (.invokevirtual 107, 3) := by decide +kernel
theorem dX9_set_5 : decode cX9_set 5 = .ok (.ifCond .eq 38, 3) := by decide +kernel
theorem dX9_set_8 : decode cX9_set 8 = .ok (.iload_n 2, 1) := by decide +kernel
theorem dX9_set_9 : decode cX9_set 9 = .ok (.i2l, 1) := by decide +kernel
theorem dX9_set_10 : decode cX9_set 10 = .ok (.lconst 1, 1) := by decide +kernel
theorem dX9_set_11 : decode cX9_set 11 = .ok (.ldc2_w 129, 3) := by decide +kernel
theorem dX9_set_14 : decode cX9_set 14 = .ok (.invokestatic 68, 3) := by decide +kernel
theorem dX9_set_17 : decode cX9_set 17 = .ok (.ifCond .eq 26, 3) := by decide +kernel
theorem dX9_set_20 : decode cX9_set 20 = .ok (.iload_n 3, 1) := by decide +kernel
theorem dX9_set_21 : decode cX9_set 21 = .ok (.i2l, 1) := by decide +kernel
theorem dX9_set_22 : decode cX9_set 22 = .ok (.lconst 0, 1) := by decide +kernel
theorem dX9_set_23 : decode cX9_set 23 = .ok (.iload_n 2, 1) := by decide +kernel
theorem dX9_set_24 : decode cX9_set 24 = .ok (.iconst 1, 1) := by decide +kernel
theorem dX9_set_25 : decode cX9_set 25 = .ok (.if_icmp .ne 9, 3) := by decide +kernel
theorem dX9_set_28 : decode cX9_set 28 = .ok (.ldc2_w 79, 3) := by decide +kernel
theorem dX9_set_31 : decode cX9_set 31 = .ok (.goto 6, 3) := by decide +kernel
theorem dX9_set_34 : decode cX9_set 34 = .ok (.ldc2_w 81, 3) := by decide +kernel
theorem dX9_set_37 : decode cX9_set 37 = .ok (.invokestatic 68, 3) := by decide +kernel
theorem dX9_set_40 : decode cX9_set 40 = .ok (.ifCond .ne 6, 3) := by decide +kernel
theorem dX9_set_43 : decode cX9_set 43 = .ok (.ldc 83, 2) := by decide +kernel
theorem dX9_set_45 : decode cX9_set 45 = .ok (.ireturn, 1) := by decide +kernel
theorem dX9_set_46 : decode cX9_set 46 = .ok (.aload_n 0, 1) := by decide +kernel
theorem dX9_set_47 : decode cX9_set 47 = .ok (.bipush 10, 2) := by decide +kernel
theorem dX9_set_49 : decode cX9_set 49 = .ok (.iconst 3, 1) := by decide +kernel
theorem dX9_set_50 : decode cX9_set 50 = .ok (.iload_n 1, 1) := by decide +kernel
theorem dX9_set_51 : decode cX9_set 51 = .ok (.imul, 1) := by decide +kernel
theorem dX9_set_52 : decode cX9_set 52 = .ok (.iadd, 1) := by decide +kernel
theorem dX9_set_53 : decode cX9_set 53 = .ok (.iload_n 2, 1) := by decide +kernel
theorem dX9_set_54 : decode cX9_set 54 = .ok (.iadd, 1) := by decide +kernel
theorem dX9_set_55 : decode cX9_set 55 = .ok (.iload_n 3, 1) := by decide +kernel
theorem dX9_set_56 : decode cX9_set 56 = .ok (.invokevirtual 126, 3) := by decide +kernel
theorem dX9_set_59 : decode cX9_set 59 = .ok (.ireturn, 1) := by decide +kernel
theorem dX9_strokes_0 : decode cX9_strokes 0 = .ok (.aload_n 0, 1) := by decide +kernel
theorem dX9_strokes_1 : decode cX9_strokes 1 = .ok (.iload_n 1, 1) := by decide +kernel
theorem dX9_strokes_2 : decode cX9_strokes 2 = .ok (.invokevirtual 107, 3) := by decide +kernel
theorem dX9_strokes_5 : decode cX9_strokes 5 = .ok (.ifCond .eq 19, 3) := by decide +kernel
theorem dX9_strokes_8 : decode cX9_strokes 8 = .ok (.iload_n 2, 1) := by decide +kernel
theorem dX9_strokes_9 : decode cX9_strokes 9 = .ok (.invokestatic 131, 3) := by decide +kernel
theorem dX9_strokes_12 : decode cX9_strokes 12 = .ok (.ifCond .eq 12, 3) := by decide +kernel
theorem dX9_strokes_15 : decode cX9_strokes 15 = .ok (.aload_n 0, 1) := by decide +kernel
theorem dX9_strokes_16 : decode cX9_strokes 16 = .ok (.iload_n 1, 1) := by decide +kernel
theorem dX9_strokes_17 : decode cX9_strokes 17 = .ok (.iload_n 2, 1) := by decide +kernel
theorem dX9_strokes_18 : decode cX9_strokes 18 = .ok (.invokevirtual 115, 3) := by decide +kernel
theorem dX9_strokes_21 : decode cX9_strokes 21 = .ok (.goto 5, 3) := by decide +kernel
theorem dX9_strokes_24 : decode cX9_strokes 24 = .ok (.ldc 83, 2) := by decide +kernel
theorem dX9_strokes_26 : decode cX9_strokes 26 = .ok (.ireturn, 1) := by decide +kernel
theorem dX9_totalAt_0 : decode cX9_totalAt 0 = .ok (.iconst 0, 1) := by decide +kernel
theorem dX9_totalAt_1 : decode cX9_totalAt 1 = .ok (.istore_n 2, 1) := by decide +kernel
theorem dX9_totalAt_2 : decode cX9_totalAt 2 = .ok (.iconst 0, 1) := by decide +kernel
theorem dX9_totalAt_3 : decode cX9_totalAt 3 = .ok (.istore_n 3, 1) := by decide +kernel
theorem dX9_totalAt_4 : decode cX9_totalAt 4 = .ok (.iload_n 3, 1) := by decide +kernel
theorem dX9_totalAt_5 : decode cX9_totalAt 5 = .ok (.aload_n 0, 1) := by decide +kernel
theorem dX9_totalAt_6 : decode cX9_totalAt 6 = .ok (.getfield 7, 3) := by decide +kernel
theorem dX9_totalAt_9 : decode cX9_totalAt 9 = .ok (.iconst 0, 1) := by decide +kernel
theorem dX9_totalAt_10 : decode cX9_totalAt 10 = .ok (.iaload, 1) := by decide +kernel
theorem dX9_totalAt_11 : decode cX9_totalAt 11 = .ok (.if_icmp .ge 18, 3) := by decide +kernel
theorem dX9_totalAt_14 : decode cX9_totalAt 14 = .ok (.iload_n 2, 1) := by decide +kernel
theorem dX9_totalAt_15 : decode cX9_totalAt 15 = .ok (.aload_n 0, 1) := by decide +kernel
theorem dX9_totalAt_16 : decode cX9_totalAt 16 = .ok (.iload_n 3, 1) := by decide +kernel
theorem dX9_totalAt_17 : decode cX9_totalAt 17 = .ok (.iload_n 1, 1) := by decide +kernel
theorem dX9_totalAt_18 : decode cX9_totalAt 18 = .ok (.invokevirtual 115, 3) := by decide +kernel
theorem dX9_totalAt_21 : decode cX9_totalAt 21 = .ok (.iadd, 1) := by decide +kernel
theorem dX9_totalAt_22 : decode cX9_totalAt 22 = .ok (.istore_n 2, 1) := by decide +kernel
theorem dX9_totalAt_23 : decode cX9_totalAt 23 = .ok (.iinc 3 1, 3) := by decide +kernel
theorem dX9_totalAt_26 : decode cX9_totalAt 26 = .ok (.goto (-22), 3) := by decide +kernel
theorem dX9_totalAt_29 : decode cX9_totalAt 29 = .ok (.iload_n 2, 1) := by decide +kernel
theorem dX9_totalAt_30 : decode cX9_totalAt 30 = .ok (.ireturn, 1) := by decide +kernel
theorem dX9_total_0 : decode cX9_total 0 = .ok (.iload_n 1, 1) := by decide +kernel
theorem dX9_total_1 : decode cX9_total 1 = .ok (.invokestatic 131, 3) := by decide +kernel
theorem dX9_total_4 : decode cX9_total 4 = .ok (.ifCond .eq 11, 3) := by decide +kernel
theorem dX9_total_7 : decode cX9_total 7 = .ok (.aload_n 0, 1) := by decide +kernel
theorem dX9_total_8 : decode cX9_total 8 = .ok (.iload_n 1, 1) := by decide +kernel
theorem dX9_total_9 : decode cX9_total 9 = .ok (.invokevirtual 134, 3) := by decide +kernel
theorem dX9_total_12 : decode cX9_total 12 = .ok (.goto 5, 3) := by decide +kernel
theorem dX9_total_15 : decode cX9_total 15 = .ok (.ldc 83, 2) := by decide +kernel
theorem dX9_total_17 : decode cX9_total 17 = .ok (.ireturn, 1) := by decide +kernel
theorem dX9_ear_0 : decode cX9_ear 0 = .ok (.iload_n 1, 1) := by decide +kernel
theorem dX9_ear_1 : decode cX9_ear 1 = .ok (.i2l, 1) := by decide +kernel
theorem dX9_ear_2 : decode cX9_ear 2 = .ok (.lconst 0, 1) := by decide +kernel
theorem dX9_ear_3 : decode cX9_ear 3 = .ok (.lconst 1, 1) := by decide +kernel
theorem dX9_ear_4 : decode cX9_ear 4 = .ok (.invokestatic 68, 3) := by decide +kernel
theorem dX9_ear_7 : decode cX9_ear 7 = .ok (.ifCond .eq 27, 3) := by decide +kernel
theorem dX9_ear_10 : decode cX9_ear 10 = .ok (.iload_n 2, 1) := by decide +kernel
theorem dX9_ear_11 : decode cX9_ear 11 = .ok (.i2l, 1) := by decide +kernel
theorem dX9_ear_12 : decode cX9_ear 12 = .ok (.lconst 0, 1) := by decide +kernel
theorem dX9_ear_13 : decode cX9_ear 13 = .ok (.ldc2_w 137, 3) := by decide +kernel
theorem dX9_ear_16 : decode cX9_ear 16 = .ok (.invokestatic 68, 3) := by decide +kernel
theorem dX9_ear_19 : decode cX9_ear 19 = .ok (.ifCond .eq 15, 3) := by decide +kernel
theorem dX9_ear_22 : decode cX9_ear 22 = .ok (.aload_n 0, 1) := by decide +kernel
theorem dX9_ear_23 : decode cX9_ear 23 = .ok (.bipush 6, 2) := by decide +kernel
theorem dX9_ear_25 : decode cX9_ear 25 = .ok (.iload_n 1, 1) := by decide +kernel
theorem dX9_ear_26 : decode cX9_ear 26 = .ok (.iadd, 1) := by decide +kernel
theorem dX9_ear_27 : decode cX9_ear 27 = .ok (.iload_n 2, 1) := by decide +kernel
theorem dX9_ear_28 : decode cX9_ear 28 = .ok (.invokevirtual 126, 3) := by decide +kernel
theorem dX9_ear_31 : decode cX9_ear 31 = .ok (.goto 5, 3) := by decide +kernel
theorem dX9_ear_34 : decode cX9_ear 34 = .ok (.ldc 83, 2) := by decide +kernel
theorem dX9_ear_36 : decode cX9_ear 36 = .ok (.ireturn, 1) := by decide +kernel
theorem dX9_deal_0 : decode cX9_deal 0 = .ok (.iload_n 1, 1) := by decide +kernel
theorem dX9_deal_1 : decode cX9_deal 1 = .ok (.i2l, 1) := by decide +kernel
theorem dX9_deal_2 : decode cX9_deal 2 = .ok (.lconst 1, 1) := by decide +kernel
theorem dX9_deal_3 : decode cX9_deal 3 = .ok (.ldc2_w 139, 3) := by decide +kernel
theorem dX9_deal_6 : decode cX9_deal 6 = .ok (.invokestatic 68, 3) := by decide +kernel
theorem dX9_deal_9 : decode cX9_deal 9 = .ok (.ifCond .ne 6, 3) := by decide +kernel
theorem dX9_deal_12 : decode cX9_deal 12 = .ok (.ldc 83, 2) := by decide +kernel
theorem dX9_deal_14 : decode cX9_deal 14 = .ok (.ireturn, 1) := by decide +kernel
theorem dX9_deal_15 : decode cX9_deal 15 = .ok (.iconst 0, 1) := by decide +kernel
theorem dX9_deal_16 : decode cX9_deal 16 = .ok (.istore_n 2, 1) := by decide +kernel
theorem dX9_deal_17 : decode cX9_deal 17 = .ok (.iload_n 2, 1) := by decide +kernel
theorem dX9_deal_18 : decode cX9_deal 18 = .ok (.iload_n 1, 1) := by decide +kernel
theorem dX9_deal_19 : decode cX9_deal 19 = .ok (.if_icmp .ge 51, 3) := by decide +kernel
theorem dX9_deal_22 : decode cX9_deal 22 = .ok (.aload_n 0, 1) := by decide +kernel
theorem dX9_deal_23 : decode cX9_deal 23 = .ok (.getfield 7, 3) := by decide +kernel
theorem dX9_deal_26 : decode cX9_deal 26 = .ok (.iconst 0, 1) := by decide +kernel
theorem dX9_deal_27 : decode cX9_deal 27 = .ok (.iaload, 1) := by decide +kernel
theorem dX9_deal_28 : decode cX9_deal 28 = .ok (.bipush 6, 2) := by decide +kernel
theorem dX9_deal_30 : decode cX9_deal 30 = .ok (.if_icmp .ge 40, 3) := by decide +kernel
theorem dX9_deal_33 : decode cX9_deal 33 = .ok (.aload_n 0, 1) := by decide +kernel
theorem dX9_deal_34 : decode cX9_deal 34 = .ok (.invokevirtual 141, 3) := by decide +kernel
theorem dX9_deal_37 : decode cX9_deal 37 = .ok (.bipush 6, 2) := by decide +kernel
theorem dX9_deal_39 : decode cX9_deal 39 = .ok (.irem, 1) := by decide +kernel
theorem dX9_deal_40 : decode cX9_deal 40 = .ok (.istore_n 3, 1) := by decide +kernel
theorem dX9_deal_41 : decode cX9_deal 41 = .ok (.aload_n 0, 1) := by decide +kernel
theorem dX9_deal_42 : decode cX9_deal 42 = .ok (.invokevirtual 141, 3) := by decide +kernel
theorem dX9_deal_45 : decode cX9_deal 45 = .ok (.bipush 10, 2) := by decide +kernel
theorem dX9_deal_47 : decode cX9_deal 47 = .ok (.irem, 1) := by decide +kernel
theorem dX9_deal_48 : decode cX9_deal 48 = .ok (.istore 4, 2) := by decide +kernel
theorem dX9_deal_50 : decode cX9_deal 50 = .ok (.aload_n 0, 1) := by decide +kernel
theorem dX9_deal_51 : decode cX9_deal 51 = .ok (.iload_n 3, 1) := by decide +kernel
theorem dX9_deal_52 : decode cX9_deal 52 = .ok (.iload 4, 2) := by decide +kernel
theorem dX9_deal_54 : decode cX9_deal 54 = .ok (.aload_n 0, 1) := by decide +kernel
theorem dX9_deal_55 : decode cX9_deal 55 = .ok (.invokevirtual 141, 3) := by decide +kernel
theorem dX9_deal_58 : decode cX9_deal 58 = .ok (.bipush 10, 2) := by decide +kernel
theorem dX9_deal_60 : decode cX9_deal 60 = .ok (.irem, 1) := by decide +kernel
theorem dX9_deal_61 : decode cX9_deal 61 = .ok (.invokevirtual 85, 3) := by decide +kernel
theorem dX9_deal_64 : decode cX9_deal 64 = .ok (.iinc 2 1, 3) := by decide +kernel
theorem dX9_deal_67 : decode cX9_deal 67 = .ok (.goto (-50), 3) := by decide +kernel
theorem dX9_deal_70 : decode cX9_deal 70 = .ok (.iload_n 2, 1) := by decide +kernel
theorem dX9_deal_71 : decode cX9_deal 71 = .ok (.ireturn, 1) := by decide +kernel
theorem dX9_seed_0 : decode cX9_seed 0 = .ok (.aload_n 0, 1) := by decide +kernel
theorem dX9_seed_1 : decode cX9_seed 1 = .ok (.bipush 9, 2) := by decide +kernel
theorem dX9_seed_3 : decode cX9_seed 3 = .ok (.iload_n 1, 1) := by decide +kernel
theorem dX9_seed_4 : decode cX9_seed 4 = .ok (.invokevirtual 126, 3) := by decide +kernel
theorem dX9_seed_7 : decode cX9_seed 7 = .ok (.ireturn, 1) := by decide +kernel
theorem dX9_goesOn_0 : decode cX9_goesOn 0 = .ok (.iconst 0, 1) := by decide +kernel
theorem dX9_goesOn_1 : decode cX9_goesOn 1 = .ok (.istore_n 1, 1) := by decide +kernel
theorem dX9_goesOn_2 : decode cX9_goesOn 2 = .ok (.aload_n 0, 1) := by decide +kernel
theorem dX9_goesOn_3 : decode cX9_goesOn 3 = .ok (.aload_n 0, 1) := by decide +kernel
theorem dX9_goesOn_4 : decode cX9_goesOn 4 = .ok (.invokevirtual 111, 3) := by decide +kernel
theorem dX9_goesOn_7 : decode cX9_goesOn 7 = .ok (.invokevirtual 134, 3) := by decide +kernel
theorem dX9_goesOn_10 : decode cX9_goesOn 10 = .ok (.istore_n 2, 1) := by decide +kernel
theorem dX9_goesOn_11 : decode cX9_goesOn 11 = .ok (.iload_n 2, 1) := by decide +kernel
theorem dX9_goesOn_12 : decode cX9_goesOn 12 = .ok (.ifCond .le 62, 3) := by decide +kernel
theorem dX9_goesOn_15 : decode cX9_goesOn 15 = .ok (.aload_n 0, 1) := by decide +kernel
theorem dX9_goesOn_16 : decode cX9_goesOn 16 = .ok (.invokevirtual 141, 3) := by decide +kernel
theorem dX9_goesOn_19 : decode cX9_goesOn 19 = .ok (.bipush 100, 2) := by decide +kernel
theorem dX9_goesOn_21 : decode cX9_goesOn 21 = .ok (.irem, 1) := by decide +kernel
theorem dX9_goesOn_22 : decode cX9_goesOn 22 = .ok (.aload_n 0, 1) := by decide +kernel
theorem dX9_goesOn_23 : decode cX9_goesOn 23 = .ok (.getfield 7, 3) := by decide +kernel
theorem dX9_goesOn_26 : decode cX9_goesOn 26 = .ok (.bipush 6, 2) := by decide +kernel
theorem dX9_goesOn_28 : decode cX9_goesOn 28 = .ok (.iaload, 1) := by decide +kernel
theorem dX9_goesOn_29 : decode cX9_goesOn 29 = .ok (.if_icmp .ge 7, 3) := by decide +kernel
theorem dX9_goesOn_32 : decode cX9_goesOn 32 = .ok (.iconst 1, 1) := by decide +kernel
theorem dX9_goesOn_33 : decode cX9_goesOn 33 = .ok (.goto 4, 3) := by decide +kernel
theorem dX9_goesOn_36 : decode cX9_goesOn 36 = .ok (.iconst 0, 1) := by decide +kernel
theorem dX9_goesOn_37 : decode cX9_goesOn 37 = .ok (.istore_n 3, 1) := by decide +kernel
theorem dX9_goesOn_38 : decode cX9_goesOn 38 = .ok (.iload_n 1, 1) := by decide +kernel
theorem dX9_goesOn_39 : decode cX9_goesOn 39 = .ok (.iload_n 3, 1) := by decide +kernel
theorem dX9_goesOn_40 : decode cX9_goesOn 40 = .ok (.ifCond .eq 7, 3) := by decide +kernel
theorem dX9_goesOn_43 : decode cX9_goesOn 43 = .ok (.iconst 1, 1) := by decide +kernel
theorem dX9_goesOn_44 : decode cX9_goesOn 44 = .ok (.goto 4, 3) := by decide +kernel
theorem dX9_goesOn_47 : decode cX9_goesOn 47 = .ok (.iconst 0, 1) := by decide +kernel
theorem dX9_goesOn_48 : decode cX9_goesOn 48 = .ok (.iadd, 1) := by decide +kernel
theorem dX9_goesOn_49 : decode cX9_goesOn 49 = .ok (.istore_n 1, 1) := by decide +kernel
theorem dX9_goesOn_50 : decode cX9_goesOn 50 = .ok (.aload_n 0, 1) := by decide +kernel
theorem dX9_goesOn_51 : decode cX9_goesOn 51 = .ok (.getfield 7, 3) := by decide +kernel
theorem dX9_goesOn_54 : decode cX9_goesOn 54 = .ok (.iconst 4, 1) := by decide +kernel
theorem dX9_goesOn_55 : decode cX9_goesOn 55 = .ok (.dup2, 1) := by decide +kernel
theorem dX9_goesOn_56 : decode cX9_goesOn 56 = .ok (.iaload, 1) := by decide +kernel
theorem dX9_goesOn_57 : decode cX9_goesOn 57 = .ok (.iload_n 3, 1) := by decide +kernel
theorem dX9_goesOn_58 : decode cX9_goesOn 58 = .ok (.ifCond .eq 7, 3) := by decide +kernel
theorem dX9_goesOn_61 : decode cX9_goesOn 61 = .ok (.iconst 0, 1) := by decide +kernel
theorem dX9_goesOn_62 : decode cX9_goesOn 62 = .ok (.goto 4, 3) := by decide +kernel
theorem dX9_goesOn_65 : decode cX9_goesOn 65 = .ok (.iconst 1, 1) := by decide +kernel
theorem dX9_goesOn_66 : decode cX9_goesOn 66 = .ok (.iadd, 1) := by decide +kernel
theorem dX9_goesOn_67 : decode cX9_goesOn 67 = .ok (.iastore, 1) := by decide +kernel
theorem dX9_goesOn_68 : decode cX9_goesOn 68 = .ok (.iinc 2 (-1), 3) := by decide +kernel
theorem dX9_goesOn_71 : decode cX9_goesOn 71 = .ok (.goto (-60), 3) := by decide +kernel
theorem dX9_goesOn_74 : decode cX9_goesOn 74 = .ok (.aload_n 0, 1) := by decide +kernel
theorem dX9_goesOn_75 : decode cX9_goesOn 75 = .ok (.getfield 7, 3) := by decide +kernel
theorem dX9_goesOn_78 : decode cX9_goesOn 78 = .ok (.iconst 3, 1) := by decide +kernel
theorem dX9_goesOn_79 : decode cX9_goesOn 79 = .ok (.dup2, 1) := by decide +kernel
theorem dX9_goesOn_80 : decode cX9_goesOn 80 = .ok (.iaload, 1) := by decide +kernel
theorem dX9_goesOn_81 : decode cX9_goesOn 81 = .ok (.iload_n 1, 1) := by decide +kernel
theorem dX9_goesOn_82 : decode cX9_goesOn 82 = .ok (.iadd, 1) := by decide +kernel
theorem dX9_goesOn_83 : decode cX9_goesOn 83 = .ok (.iastore, 1) := by decide +kernel
theorem dX9_goesOn_84 : decode cX9_goesOn 84 = .ok (.aload_n 0, 1) := by decide +kernel
theorem dX9_goesOn_85 : decode cX9_goesOn 85 = .ok (.invokevirtual 141, 3) := by decide +kernel
theorem dX9_goesOn_88 : decode cX9_goesOn 88 = .ok (.bipush 100, 2) := by decide +kernel
theorem dX9_goesOn_90 : decode cX9_goesOn 90 = .ok (.irem, 1) := by decide +kernel
theorem dX9_goesOn_91 : decode cX9_goesOn 91 = .ok (.aload_n 0, 1) := by decide +kernel
theorem dX9_goesOn_92 : decode cX9_goesOn 92 = .ok (.getfield 7, 3) := by decide +kernel
theorem dX9_goesOn_95 : decode cX9_goesOn 95 = .ok (.bipush 7, 2) := by decide +kernel
theorem dX9_goesOn_97 : decode cX9_goesOn 97 = .ok (.iaload, 1) := by decide +kernel
theorem dX9_goesOn_98 : decode cX9_goesOn 98 = .ok (.if_icmp .ge 16, 3) := by decide +kernel
theorem dX9_goesOn_101 : decode cX9_goesOn 101 = .ok (.iinc 1 1, 3) := by decide +kernel
theorem dX9_goesOn_104 : decode cX9_goesOn 104 = .ok (.aload_n 0, 1) := by decide +kernel
theorem dX9_goesOn_105 : decode cX9_goesOn 105 = .ok (.getfield 7, 3) := by decide +kernel
theorem dX9_goesOn_108 : decode cX9_goesOn 108 = .ok (.iconst 5, 1) := by decide +kernel
theorem dX9_goesOn_109 : decode cX9_goesOn 109 = .ok (.dup2, 1) := by decide +kernel
theorem dX9_goesOn_110 : decode cX9_goesOn 110 = .ok (.iaload, 1) := by decide +kernel
theorem dX9_goesOn_111 : decode cX9_goesOn 111 = .ok (.iconst 1, 1) := by decide +kernel
theorem dX9_goesOn_112 : decode cX9_goesOn 112 = .ok (.iadd, 1) := by decide +kernel
theorem dX9_goesOn_113 : decode cX9_goesOn 113 = .ok (.iastore, 1) := by decide +kernel
theorem dX9_goesOn_114 : decode cX9_goesOn 114 = .ok (.bipush 11, 2) := by decide +kernel
theorem dX9_goesOn_116 : decode cX9_goesOn 116 = .ok (.istore_n 2, 1) := by decide +kernel
theorem dX9_goesOn_117 : decode cX9_goesOn 117 = .ok (.iload_n 2, 1) := by decide +kernel
theorem dX9_goesOn_118 : decode cX9_goesOn 118 = .ok (.ifCond .le 29, 3) := by decide +kernel
theorem dX9_goesOn_121 : decode cX9_goesOn 121 = .ok (.aload_n 0, 1) := by decide +kernel
theorem dX9_goesOn_122 : decode cX9_goesOn 122 = .ok (.getfield 7, 3) := by decide +kernel
theorem dX9_goesOn_125 : decode cX9_goesOn 125 = .ok (.bipush 28, 2) := by decide +kernel
theorem dX9_goesOn_127 : decode cX9_goesOn 127 = .ok (.iload_n 2, 1) := by decide +kernel
theorem dX9_goesOn_128 : decode cX9_goesOn 128 = .ok (.iadd, 1) := by decide +kernel
theorem dX9_goesOn_129 : decode cX9_goesOn 129 = .ok (.aload_n 0, 1) := by decide +kernel
theorem dX9_goesOn_130 : decode cX9_goesOn 130 = .ok (.getfield 7, 3) := by decide +kernel
theorem dX9_goesOn_133 : decode cX9_goesOn 133 = .ok (.bipush 28, 2) := by decide +kernel
theorem dX9_goesOn_135 : decode cX9_goesOn 135 = .ok (.iload_n 2, 1) := by decide +kernel
theorem dX9_goesOn_136 : decode cX9_goesOn 136 = .ok (.iadd, 1) := by decide +kernel
theorem dX9_goesOn_137 : decode cX9_goesOn 137 = .ok (.iconst 1, 1) := by decide +kernel
theorem dX9_goesOn_138 : decode cX9_goesOn 138 = .ok (.isub, 1) := by decide +kernel
theorem dX9_goesOn_139 : decode cX9_goesOn 139 = .ok (.iaload, 1) := by decide +kernel
theorem dX9_goesOn_140 : decode cX9_goesOn 140 = .ok (.iastore, 1) := by decide +kernel
theorem dX9_goesOn_141 : decode cX9_goesOn 141 = .ok (.iinc 2 (-1), 3) := by decide +kernel
theorem dX9_goesOn_144 : decode cX9_goesOn 144 = .ok (.goto (-27), 3) := by decide +kernel
theorem dX9_goesOn_147 : decode cX9_goesOn 147 = .ok (.aload_n 0, 1) := by decide +kernel
theorem dX9_goesOn_148 : decode cX9_goesOn 148 = .ok (.getfield 7, 3) := by decide +kernel
theorem dX9_goesOn_151 : decode cX9_goesOn 151 = .ok (.bipush 28, 2) := by decide +kernel
theorem dX9_goesOn_153 : decode cX9_goesOn 153 = .ok (.iload_n 1, 1) := by decide +kernel
theorem dX9_goesOn_154 : decode cX9_goesOn 154 = .ok (.iastore, 1) := by decide +kernel
theorem dX9_goesOn_155 : decode cX9_goesOn 155 = .ok (.aload_n 0, 1) := by decide +kernel
theorem dX9_goesOn_156 : decode cX9_goesOn 156 = .ok (.getfield 7, 3) := by decide +kernel
theorem dX9_goesOn_159 : decode cX9_goesOn 159 = .ok (.bipush 8, 2) := by decide +kernel
theorem dX9_goesOn_161 : decode cX9_goesOn 161 = .ok (.dup2, 1) := by decide +kernel
theorem dX9_goesOn_162 : decode cX9_goesOn 162 = .ok (.iaload, 1) := by decide +kernel
theorem dX9_goesOn_163 : decode cX9_goesOn 163 = .ok (.aload_n 0, 1) := by decide +kernel
theorem dX9_goesOn_164 : decode cX9_goesOn 164 = .ok (.getfield 7, 3) := by decide +kernel
theorem dX9_goesOn_167 : decode cX9_goesOn 167 = .ok (.bipush 8, 2) := by decide +kernel
theorem dX9_goesOn_169 : decode cX9_goesOn 169 = .ok (.iaload, 1) := by decide +kernel
theorem dX9_goesOn_170 : decode cX9_goesOn 170 = .ok (.bipush 12, 2) := by decide +kernel
theorem dX9_goesOn_172 : decode cX9_goesOn 172 = .ok (.if_icmp .ge 7, 3) := by decide +kernel
theorem dX9_goesOn_175 : decode cX9_goesOn 175 = .ok (.iconst 1, 1) := by decide +kernel
theorem dX9_goesOn_176 : decode cX9_goesOn 176 = .ok (.goto 4, 3) := by decide +kernel
theorem dX9_goesOn_179 : decode cX9_goesOn 179 = .ok (.iconst 0, 1) := by decide +kernel
theorem dX9_goesOn_180 : decode cX9_goesOn 180 = .ok (.iadd, 1) := by decide +kernel
theorem dX9_goesOn_181 : decode cX9_goesOn 181 = .ok (.iastore, 1) := by decide +kernel
theorem dX9_goesOn_182 : decode cX9_goesOn 182 = .ok (.aload_n 0, 1) := by decide +kernel
theorem dX9_goesOn_183 : decode cX9_goesOn 183 = .ok (.getfield 7, 3) := by decide +kernel
theorem dX9_goesOn_186 : decode cX9_goesOn 186 = .ok (.iconst 2, 1) := by decide +kernel
theorem dX9_goesOn_187 : decode cX9_goesOn 187 = .ok (.dup2, 1) := by decide +kernel
theorem dX9_goesOn_188 : decode cX9_goesOn 188 = .ok (.iaload, 1) := by decide +kernel
theorem dX9_goesOn_189 : decode cX9_goesOn 189 = .ok (.iconst 1, 1) := by decide +kernel
theorem dX9_goesOn_190 : decode cX9_goesOn 190 = .ok (.iadd, 1) := by decide +kernel
theorem dX9_goesOn_191 : decode cX9_goesOn 191 = .ok (.iastore, 1) := by decide +kernel
theorem dX9_goesOn_192 : decode cX9_goesOn 192 = .ok (.return_, 1) := by decide +kernel
theorem dX9_goesOnMany_0 : decode cX9_goesOnMany 0 = .ok (.iconst 0, 1) := by decide +kernel
theorem dX9_goesOnMany_1 : decode cX9_goesOnMany 1 = .ok (.istore_n 2, 1) := by decide +kernel
theorem dX9_goesOnMany_2 : decode cX9_goesOnMany 2 = .ok (.iload_n 2, 1) := by decide +kernel
theorem dX9_goesOnMany_3 : decode cX9_goesOnMany 3 = .ok (.iload_n 1, 1) := by decide +kernel
theorem dX9_goesOnMany_4 : decode cX9_goesOnMany 4 = .ok (.if_icmp .ge 13, 3) := by decide +kernel
theorem dX9_goesOnMany_7 : decode cX9_goesOnMany 7 = .ok (.aload_n 0, 1) := by decide +kernel
theorem dX9_goesOnMany_8 : decode cX9_goesOnMany 8 = .ok (.invokevirtual 144, 3) := by decide +kernel
theorem dX9_goesOnMany_11 : decode cX9_goesOnMany 11 = .ok (.iinc 2 1, 3) := by decide +kernel
theorem dX9_goesOnMany_14 : decode cX9_goesOnMany 14 = .ok (.goto (-12), 3) := by decide +kernel
theorem dX9_goesOnMany_17 : decode cX9_goesOnMany 17 = .ok (.return_, 1) := by decide +kernel
theorem dX9_minutes_0 : decode cX9_minutes 0 = .ok (.iload_n 1, 1) := by decide +kernel
theorem dX9_minutes_1 : decode cX9_minutes 1 = .ok (.i2l, 1) := by decide +kernel
theorem dX9_minutes_2 : decode cX9_minutes 2 = .ok (.lconst 1, 1) := by decide +kernel
theorem dX9_minutes_3 : decode cX9_minutes 3 = .ok (.ldc2_w 137, 3) := by decide +kernel
theorem dX9_minutes_6 : decode cX9_minutes 6 = .ok (.invokestatic 68, 3) := by decide +kernel
theorem dX9_minutes_9 : decode cX9_minutes 9 = .ok (.ifCond .ne 6, 3) := by decide +kernel
theorem dX9_minutes_12 : decode cX9_minutes 12 = .ok (.ldc 83, 2) := by decide +kernel
theorem dX9_minutes_14 : decode cX9_minutes 14 = .ok (.ireturn, 1) := by decide +kernel
theorem dX9_minutes_15 : decode cX9_minutes 15 = .ok (.aload_n 0, 1) := by decide +kernel
theorem dX9_minutes_16 : decode cX9_minutes 16 = .ok (.getfield 7, 3) := by decide +kernel
theorem dX9_minutes_19 : decode cX9_minutes 19 = .ok (.iconst 3, 1) := by decide +kernel
theorem dX9_minutes_20 : decode cX9_minutes 20 = .ok (.iaload, 1) := by decide +kernel
theorem dX9_minutes_21 : decode cX9_minutes 21 = .ok (.istore_n 2, 1) := by decide +kernel
theorem dX9_minutes_22 : decode cX9_minutes 22 = .ok (.sipush 9999, 3) := by decide +kernel
theorem dX9_minutes_25 : decode cX9_minutes 25 = .ok (.aload_n 0, 1) := by decide +kernel
theorem dX9_minutes_26 : decode cX9_minutes 26 = .ok (.getfield 7, 3) := by decide +kernel
theorem dX9_minutes_29 : decode cX9_minutes 29 = .ok (.iconst 2, 1) := by decide +kernel
theorem dX9_minutes_30 : decode cX9_minutes 30 = .ok (.iaload, 1) := by decide +kernel
theorem dX9_minutes_31 : decode cX9_minutes 31 = .ok (.isub, 1) := by decide +kernel
theorem dX9_minutes_32 : decode cX9_minutes 32 = .ok (.istore_n 3, 1) := by decide +kernel
theorem dX9_minutes_33 : decode cX9_minutes 33 = .ok (.aload_n 0, 1) := by decide +kernel
theorem dX9_minutes_34 : decode cX9_minutes 34 = .ok (.iload_n 1, 1) := by decide +kernel
theorem dX9_minutes_35 : decode cX9_minutes 35 = .ok (.iload_n 3, 1) := by decide +kernel
theorem dX9_minutes_36 : decode cX9_minutes 36 = .ok (.if_icmp .ge 7, 3) := by decide +kernel
theorem dX9_minutes_39 : decode cX9_minutes 39 = .ok (.iload_n 1, 1) := by decide +kernel
theorem dX9_minutes_40 : decode cX9_minutes 40 = .ok (.goto 4, 3) := by decide +kernel
theorem dX9_minutes_43 : decode cX9_minutes 43 = .ok (.iload_n 3, 1) := by decide +kernel
theorem dX9_minutes_44 : decode cX9_minutes 44 = .ok (.invokevirtual 147, 3) := by decide +kernel
theorem dX9_minutes_47 : decode cX9_minutes 47 = .ok (.aload_n 0, 1) := by decide +kernel
theorem dX9_minutes_48 : decode cX9_minutes 48 = .ok (.getfield 7, 3) := by decide +kernel
theorem dX9_minutes_51 : decode cX9_minutes 51 = .ok (.iconst 3, 1) := by decide +kernel
theorem dX9_minutes_52 : decode cX9_minutes 52 = .ok (.iaload, 1) := by decide +kernel
theorem dX9_minutes_53 : decode cX9_minutes 53 = .ok (.iload_n 2, 1) := by decide +kernel
theorem dX9_minutes_54 : decode cX9_minutes 54 = .ok (.isub, 1) := by decide +kernel
theorem dX9_minutes_55 : decode cX9_minutes 55 = .ok (.ireturn, 1) := by decide +kernel
theorem dX9_bed_0 : decode cX9_bed 0 = .ok (.iload_n 1, 1) := by decide +kernel
theorem dX9_bed_1 : decode cX9_bed 1 = .ok (.i2l, 1) := by decide +kernel
theorem dX9_bed_2 : decode cX9_bed 2 = .ok (.lconst 0, 1) := by decide +kernel
theorem dX9_bed_3 : decode cX9_bed 3 = .ok (.ldc2_w 151, 3) := by decide +kernel
theorem dX9_bed_6 : decode cX9_bed 6 = .ok (.invokestatic 68, 3) := by decide +kernel
theorem dX9_bed_9 : decode cX9_bed 9 = .ok (.ifCond .ne 8, 3) := by decide +kernel
theorem dX9_bed_12 : decode cX9_bed 12 = .ok (.ldc 83, 2) := by decide +kernel
theorem dX9_bed_14 : decode cX9_bed 14 = .ok (.goto 26, 3) := by decide +kernel
theorem dX9_bed_17 : decode cX9_bed 17 = .ok (.iload_n 1, 1) := by decide +kernel
theorem dX9_bed_18 : decode cX9_bed 18 = .ok (.iconst 3, 1) := by decide +kernel
theorem dX9_bed_19 : decode cX9_bed 19 = .ok (.if_icmp .ge 14, 3) := by decide +kernel
theorem dX9_bed_22 : decode cX9_bed 22 = .ok (.aload_n 0, 1) := by decide +kernel
theorem dX9_bed_23 : decode cX9_bed 23 = .ok (.getfield 7, 3) := by decide +kernel
theorem dX9_bed_26 : decode cX9_bed 26 = .ok (.iconst 3, 1) := by decide +kernel
theorem dX9_bed_27 : decode cX9_bed 27 = .ok (.iload_n 1, 1) := by decide +kernel
theorem dX9_bed_28 : decode cX9_bed 28 = .ok (.iadd, 1) := by decide +kernel
theorem dX9_bed_29 : decode cX9_bed 29 = .ok (.iaload, 1) := by decide +kernel
theorem dX9_bed_30 : decode cX9_bed 30 = .ok (.goto 10, 3) := by decide +kernel
theorem dX9_bed_33 : decode cX9_bed 33 = .ok (.aload_n 0, 1) := by decide +kernel
theorem dX9_bed_34 : decode cX9_bed 34 = .ok (.getfield 7, 3) := by decide +kernel
theorem dX9_bed_37 : decode cX9_bed 37 = .ok (.bipush 8, 2) := by decide +kernel
theorem dX9_bed_39 : decode cX9_bed 39 = .ok (.iaload, 1) := by decide +kernel
theorem dX9_bed_40 : decode cX9_bed 40 = .ok (.ireturn, 1) := by decide +kernel
theorem dX9_note_0 : decode cX9_note 0 = .ok (.iload_n 1, 1) := by decide +kernel
theorem dX9_note_1 : decode cX9_note 1 = .ok (.i2l, 1) := by decide +kernel
theorem dX9_note_2 : decode cX9_note 2 = .ok (.lconst 0, 1) := by decide +kernel
theorem dX9_note_3 : decode cX9_note 3 = .ok (.ldc2_w 153, 3) := by decide +kernel
theorem dX9_note_6 : decode cX9_note 6 = .ok (.invokestatic 68, 3) := by decide +kernel
theorem dX9_note_9 : decode cX9_note 9 = .ok (.ifCond .ne 6, 3) := by decide +kernel
theorem dX9_note_12 : decode cX9_note 12 = .ok (.ldc 83, 2) := by decide +kernel
theorem dX9_note_14 : decode cX9_note 14 = .ok (.ireturn, 1) := by decide +kernel
theorem dX9_note_15 : decode cX9_note 15 = .ok (.iload_n 1, 1) := by decide +kernel
theorem dX9_note_16 : decode cX9_note 16 = .ok (.aload_n 0, 1) := by decide +kernel
theorem dX9_note_17 : decode cX9_note 17 = .ok (.getfield 7, 3) := by decide +kernel
theorem dX9_note_20 : decode cX9_note 20 = .ok (.bipush 8, 2) := by decide +kernel
theorem dX9_note_22 : decode cX9_note 22 = .ok (.iaload, 1) := by decide +kernel
theorem dX9_note_23 : decode cX9_note 23 = .ok (.if_icmp .ge 15, 3) := by decide +kernel
theorem dX9_note_26 : decode cX9_note 26 = .ok (.aload_n 0, 1) := by decide +kernel
theorem dX9_note_27 : decode cX9_note 27 = .ok (.getfield 7, 3) := by decide +kernel
theorem dX9_note_30 : decode cX9_note 30 = .ok (.bipush 28, 2) := by decide +kernel
theorem dX9_note_32 : decode cX9_note 32 = .ok (.iload_n 1, 1) := by decide +kernel
theorem dX9_note_33 : decode cX9_note 33 = .ok (.iadd, 1) := by decide +kernel
theorem dX9_note_34 : decode cX9_note 34 = .ok (.iaload, 1) := by decide +kernel
theorem dX9_note_35 : decode cX9_note 35 = .ok (.goto 5, 3) := by decide +kernel
theorem dX9_note_38 : decode cX9_note 38 = .ok (.ldc 67, 2) := by decide +kernel
theorem dX9_note_40 : decode cX9_note 40 = .ok (.ireturn, 1) := by decide +kernel
theorem dX9_findAll_0 : decode cX9_findAll 0 = .ok (.iconst 0, 1) := by decide +kernel
theorem dX9_findAll_1 : decode cX9_findAll 1 = .ok (.istore_n 1, 1) := by decide +kernel
theorem dX9_findAll_2 : decode cX9_findAll 2 = .ok (.iload_n 1, 1) := by decide +kernel
theorem dX9_findAll_3 : decode cX9_findAll 3 = .ok (.sipush 720, 3) := by decide +kernel
theorem dX9_findAll_6 : decode cX9_findAll 6 = .ok (.if_icmp .ge 20, 3) := by decide +kernel
theorem dX9_findAll_9 : decode cX9_findAll 9 = .ok (.aload_n 0, 1) := by decide +kernel
theorem dX9_findAll_10 : decode cX9_findAll 10 = .ok (.getfield 43, 3) := by decide +kernel
theorem dX9_findAll_13 : decode cX9_findAll 13 = .ok (.iload_n 1, 1) := by decide +kernel
theorem dX9_findAll_14 : decode cX9_findAll 14 = .ok (.aload_n 0, 1) := by decide +kernel
theorem dX9_findAll_15 : decode cX9_findAll 15 = .ok (.iload_n 1, 1) := by decide +kernel
theorem dX9_findAll_16 : decode cX9_findAll 16 = .ok (.invokevirtual 134, 3) := by decide +kernel
theorem dX9_findAll_19 : decode cX9_findAll 19 = .ok (.iastore, 1) := by decide +kernel
theorem dX9_findAll_20 : decode cX9_findAll 20 = .ok (.iinc 1 1, 3) := by decide +kernel
theorem dX9_findAll_23 : decode cX9_findAll 23 = .ok (.goto (-21), 3) := by decide +kernel
theorem dX9_findAll_26 : decode cX9_findAll 26 = .ok (.return_, 1) := by decide +kernel
theorem dX9_findMore_0 : decode cX9_findMore 0 = .ok (.iconst 0, 1) := by decide +kernel
theorem dX9_findMore_1 : decode cX9_findMore 1 = .ok (.istore_n 3, 1) := by decide +kernel
theorem dX9_findMore_2 : decode cX9_findMore 2 = .ok (.iload_n 3, 1) := by decide +kernel
theorem dX9_findMore_3 : decode cX9_findMore 3 = .ok (.sipush 720, 3) := by decide +kernel
theorem dX9_findMore_6 : decode cX9_findMore 6 = .ok (.if_icmp .ge 26, 3) := by decide +kernel
theorem dX9_findMore_9 : decode cX9_findMore 9 = .ok (.aload_n 0, 1) := by decide +kernel
theorem dX9_findMore_10 : decode cX9_findMore 10 = .ok (.getfield 43, 3) := by decide +kernel
theorem dX9_findMore_13 : decode cX9_findMore 13 = .ok (.iload_n 3, 1) := by decide +kernel
theorem dX9_findMore_14 : decode cX9_findMore 14 = .ok (.dup2, 1) := by decide +kernel
theorem dX9_findMore_15 : decode cX9_findMore 15 = .ok (.iaload, 1) := by decide +kernel
theorem dX9_findMore_16 : decode cX9_findMore 16 = .ok (.iload_n 2, 1) := by decide +kernel
theorem dX9_findMore_17 : decode cX9_findMore 17 = .ok (.aload_n 0, 1) := by decide +kernel
theorem dX9_findMore_18 : decode cX9_findMore 18 = .ok (.iload_n 1, 1) := by decide +kernel
theorem dX9_findMore_19 : decode cX9_findMore 19 = .ok (.iload_n 3, 1) := by decide +kernel
theorem dX9_findMore_20 : decode cX9_findMore 20 = .ok (.invokevirtual 115, 3) := by decide +kernel
theorem dX9_findMore_23 : decode cX9_findMore 23 = .ok (.imul, 1) := by decide +kernel
theorem dX9_findMore_24 : decode cX9_findMore 24 = .ok (.iadd, 1) := by decide +kernel
theorem dX9_findMore_25 : decode cX9_findMore 25 = .ok (.iastore, 1) := by decide +kernel
theorem dX9_findMore_26 : decode cX9_findMore 26 = .ok (.iinc 3 1, 3) := by decide +kernel
theorem dX9_findMore_29 : decode cX9_findMore 29 = .ok (.goto (-27), 3) := by decide +kernel
theorem dX9_findMore_32 : decode cX9_findMore 32 = .ok (.return_, 1) := by decide +kernel
theorem dX9_doesFit_0 : decode cX9_doesFit 0 = .ok (.aload_n 0, 1) := by decide +kernel
theorem dX9_doesFit_1 : decode cX9_doesFit 1 = .ok (.getfield 7, 3) := by decide +kernel
theorem dX9_doesFit_4 : decode cX9_doesFit 4 = .ok (.bipush 7, 2) := by decide +kernel
theorem dX9_doesFit_6 : decode cX9_doesFit 6 = .ok (.iaload, 1) := by decide +kernel
theorem dX9_doesFit_7 : decode cX9_doesFit 7 = .ok (.ifCond .le 7, 3) := by decide +kernel
theorem dX9_doesFit_10 : decode cX9_doesFit 10 = .ok (.iconst 1, 1) := by decide +kernel
theorem dX9_doesFit_11 : decode cX9_doesFit 11 = .ok (.goto 4, 3) := by decide +kernel
theorem dX9_doesFit_14 : decode cX9_doesFit 14 = .ok (.iconst 0, 1) := by decide +kernel
theorem dX9_doesFit_15 : decode cX9_doesFit 15 = .ok (.istore_n 2, 1) := by decide +kernel
theorem dX9_doesFit_16 : decode cX9_doesFit 16 = .ok (.iconst 1, 1) := by decide +kernel
theorem dX9_doesFit_17 : decode cX9_doesFit 17 = .ok (.istore_n 3, 1) := by decide +kernel
theorem dX9_doesFit_18 : decode cX9_doesFit 18 = .ok (.iconst 0, 1) := by decide +kernel
theorem dX9_doesFit_19 : decode cX9_doesFit 19 = .ok (.istore 4, 2) := by decide +kernel
theorem dX9_doesFit_21 : decode cX9_doesFit 21 = .ok (.iload 4, 2) := by decide +kernel
theorem dX9_doesFit_23 : decode cX9_doesFit 23 = .ok (.aload_n 0, 1) := by decide +kernel
theorem dX9_doesFit_24 : decode cX9_doesFit 24 = .ok (.getfield 7, 3) := by decide +kernel
theorem dX9_doesFit_27 : decode cX9_doesFit 27 = .ok (.bipush 8, 2) := by decide +kernel
theorem dX9_doesFit_29 : decode cX9_doesFit 29 = .ok (.iaload, 1) := by decide +kernel
theorem dX9_doesFit_30 : decode cX9_doesFit 30 = .ok (.if_icmp .ge 82, 3) := by decide +kernel
theorem dX9_doesFit_33 : decode cX9_doesFit 33 = .ok (.iload_n 3, 1) := by decide +kernel
theorem dX9_doesFit_34 : decode cX9_doesFit 34 = .ok (.ifCond .eq 78, 3) := by decide +kernel
theorem dX9_doesFit_37 : decode cX9_doesFit 37 = .ok (.aload_n 0, 1) := by decide +kernel
theorem dX9_doesFit_38 : decode cX9_doesFit 38 = .ok (.getfield 43, 3) := by decide +kernel
theorem dX9_doesFit_41 : decode cX9_doesFit 41 = .ok (.iload_n 1, 1) := by decide +kernel
theorem dX9_doesFit_42 : decode cX9_doesFit 42 = .ok (.sipush 720, 3) := by decide +kernel
theorem dX9_doesFit_45 : decode cX9_doesFit 45 = .ok (.iadd, 1) := by decide +kernel
theorem dX9_doesFit_46 : decode cX9_doesFit 46 = .ok (.iload 4, 2) := by decide +kernel
theorem dX9_doesFit_48 : decode cX9_doesFit 48 = .ok (.isub, 1) := by decide +kernel
theorem dX9_doesFit_49 : decode cX9_doesFit 49 = .ok (.sipush 720, 3) := by decide +kernel
theorem dX9_doesFit_52 : decode cX9_doesFit 52 = .ok (.irem, 1) := by decide +kernel
theorem dX9_doesFit_53 : decode cX9_doesFit 53 = .ok (.iaload, 1) := by decide +kernel
theorem dX9_doesFit_54 : decode cX9_doesFit 54 = .ok (.istore 5, 2) := by decide +kernel
theorem dX9_doesFit_56 : decode cX9_doesFit 56 = .ok (.iload 5, 2) := by decide +kernel
theorem dX9_doesFit_58 : decode cX9_doesFit 58 = .ok (.iload_n 2, 1) := by decide +kernel
theorem dX9_doesFit_59 : decode cX9_doesFit 59 = .ok (.iadd, 1) := by decide +kernel
theorem dX9_doesFit_60 : decode cX9_doesFit 60 = .ok (.aload_n 0, 1) := by decide +kernel
theorem dX9_doesFit_61 : decode cX9_doesFit 61 = .ok (.getfield 7, 3) := by decide +kernel
theorem dX9_doesFit_64 : decode cX9_doesFit 64 = .ok (.bipush 28, 2) := by decide +kernel
theorem dX9_doesFit_66 : decode cX9_doesFit 66 = .ok (.iload 4, 2) := by decide +kernel
theorem dX9_doesFit_68 : decode cX9_doesFit 68 = .ok (.iadd, 1) := by decide +kernel
theorem dX9_doesFit_69 : decode cX9_doesFit 69 = .ok (.iaload, 1) := by decide +kernel
theorem dX9_doesFit_70 : decode cX9_doesFit 70 = .ok (.if_icmp .lt 34, 3) := by decide +kernel
theorem dX9_doesFit_73 : decode cX9_doesFit 73 = .ok (.aload_n 0, 1) := by decide +kernel
theorem dX9_doesFit_74 : decode cX9_doesFit 74 = .ok (.getfield 7, 3) := by decide +kernel
theorem dX9_doesFit_77 : decode cX9_doesFit 77 = .ok (.bipush 6, 2) := by decide +kernel
theorem dX9_doesFit_79 : decode cX9_doesFit 79 = .ok (.iaload, 1) := by decide +kernel
theorem dX9_doesFit_80 : decode cX9_doesFit 80 = .ok (.bipush 100, 2) := by decide +kernel
theorem dX9_doesFit_82 : decode cX9_doesFit 82 = .ok (.if_icmp .lt 18, 3) := by decide +kernel
theorem dX9_doesFit_85 : decode cX9_doesFit 85 = .ok (.aload_n 0, 1) := by decide +kernel
theorem dX9_doesFit_86 : decode cX9_doesFit 86 = .ok (.getfield 7, 3) := by decide +kernel
theorem dX9_doesFit_89 : decode cX9_doesFit 89 = .ok (.bipush 28, 2) := by decide +kernel
theorem dX9_doesFit_91 : decode cX9_doesFit 91 = .ok (.iload 4, 2) := by decide +kernel
theorem dX9_doesFit_93 : decode cX9_doesFit 93 = .ok (.iadd, 1) := by decide +kernel
theorem dX9_doesFit_94 : decode cX9_doesFit 94 = .ok (.iaload, 1) := by decide +kernel
theorem dX9_doesFit_95 : decode cX9_doesFit 95 = .ok (.iload 5, 2) := by decide +kernel
theorem dX9_doesFit_97 : decode cX9_doesFit 97 = .ok (.if_icmp .lt 7, 3) := by decide +kernel
theorem dX9_doesFit_100 : decode cX9_doesFit 100 = .ok (.iconst 1, 1) := by decide +kernel
theorem dX9_doesFit_101 : decode cX9_doesFit 101 = .ok (.goto 4, 3) := by decide +kernel
theorem dX9_doesFit_104 : decode cX9_doesFit 104 = .ok (.iconst 0, 1) := by decide +kernel
theorem dX9_doesFit_105 : decode cX9_doesFit 105 = .ok (.istore_n 3, 1) := by decide +kernel
theorem dX9_doesFit_106 : decode cX9_doesFit 106 = .ok (.iinc 4 1, 3) := by decide +kernel
theorem dX9_doesFit_109 : decode cX9_doesFit 109 = .ok (.goto (-88), 3) := by decide +kernel
theorem dX9_doesFit_112 : decode cX9_doesFit 112 = .ok (.iload_n 3, 1) := by decide +kernel
theorem dX9_doesFit_113 : decode cX9_doesFit 113 = .ok (.ireturn, 1) := by decide +kernel
theorem dX9_manyFit_0 : decode cX9_manyFit 0 = .ok (.iconst 0, 1) := by decide +kernel
theorem dX9_manyFit_1 : decode cX9_manyFit 1 = .ok (.istore_n 1, 1) := by decide +kernel
theorem dX9_manyFit_2 : decode cX9_manyFit 2 = .ok (.iconst 0, 1) := by decide +kernel
theorem dX9_manyFit_3 : decode cX9_manyFit 3 = .ok (.istore_n 2, 1) := by decide +kernel
theorem dX9_manyFit_4 : decode cX9_manyFit 4 = .ok (.iload_n 2, 1) := by decide +kernel
theorem dX9_manyFit_5 : decode cX9_manyFit 5 = .ok (.sipush 720, 3) := by decide +kernel
theorem dX9_manyFit_8 : decode cX9_manyFit 8 = .ok (.if_icmp .ge 25, 3) := by decide +kernel
theorem dX9_manyFit_11 : decode cX9_manyFit 11 = .ok (.iload_n 1, 1) := by decide +kernel
theorem dX9_manyFit_12 : decode cX9_manyFit 12 = .ok (.aload_n 0, 1) := by decide +kernel
theorem dX9_manyFit_13 : decode cX9_manyFit 13 = .ok (.iload_n 2, 1) := by decide +kernel
theorem dX9_manyFit_14 : decode cX9_manyFit 14 = .ok (.invokevirtual 155, 3) := by decide +kernel
theorem dX9_manyFit_17 : decode cX9_manyFit 17 = .ok (.ifCond .eq 7, 3) := by decide +kernel
theorem dX9_manyFit_20 : decode cX9_manyFit 20 = .ok (.iconst 1, 1) := by decide +kernel
theorem dX9_manyFit_21 : decode cX9_manyFit 21 = .ok (.goto 4, 3) := by decide +kernel
theorem dX9_manyFit_24 : decode cX9_manyFit 24 = .ok (.iconst 0, 1) := by decide +kernel
theorem dX9_manyFit_25 : decode cX9_manyFit 25 = .ok (.iadd, 1) := by decide +kernel
theorem dX9_manyFit_26 : decode cX9_manyFit 26 = .ok (.istore_n 1, 1) := by decide +kernel
theorem dX9_manyFit_27 : decode cX9_manyFit 27 = .ok (.iinc 2 1, 3) := by decide +kernel
theorem dX9_manyFit_30 : decode cX9_manyFit 30 = .ok (.goto (-26), 3) := by decide +kernel
theorem dX9_manyFit_33 : decode cX9_manyFit 33 = .ok (.iload_n 1, 1) := by decide +kernel
theorem dX9_manyFit_34 : decode cX9_manyFit 34 = .ok (.ireturn, 1) := by decide +kernel
theorem dX9_hoursFit_0 : decode cX9_hoursFit 0 = .ok (.iconst 0, 1) := by decide +kernel
theorem dX9_hoursFit_1 : decode cX9_hoursFit 1 = .ok (.istore_n 1, 1) := by decide +kernel
theorem dX9_hoursFit_2 : decode cX9_hoursFit 2 = .ok (.iconst 0, 1) := by decide +kernel
theorem dX9_hoursFit_3 : decode cX9_hoursFit 3 = .ok (.istore_n 2, 1) := by decide +kernel
theorem dX9_hoursFit_4 : decode cX9_hoursFit 4 = .ok (.iload_n 2, 1) := by decide +kernel
theorem dX9_hoursFit_5 : decode cX9_hoursFit 5 = .ok (.sipush 720, 3) := by decide +kernel
theorem dX9_hoursFit_8 : decode cX9_hoursFit 8 = .ok (.if_icmp .ge 30, 3) := by decide +kernel
theorem dX9_hoursFit_11 : decode cX9_hoursFit 11 = .ok (.iload_n 1, 1) := by decide +kernel
theorem dX9_hoursFit_12 : decode cX9_hoursFit 12 = .ok (.aload_n 0, 1) := by decide +kernel
theorem dX9_hoursFit_13 : decode cX9_hoursFit 13 = .ok (.iload_n 2, 1) := by decide +kernel
theorem dX9_hoursFit_14 : decode cX9_hoursFit 14 = .ok (.invokevirtual 155, 3) := by decide +kernel
theorem dX9_hoursFit_17 : decode cX9_hoursFit 17 = .ok (.ifCond .eq 12, 3) := by decide +kernel
theorem dX9_hoursFit_20 : decode cX9_hoursFit 20 = .ok (.iconst 1, 1) := by decide +kernel
theorem dX9_hoursFit_21 : decode cX9_hoursFit 21 = .ok (.iload_n 2, 1) := by decide +kernel
theorem dX9_hoursFit_22 : decode cX9_hoursFit 22 = .ok (.bipush 60, 2) := by decide +kernel
theorem dX9_hoursFit_24 : decode cX9_hoursFit 24 = .ok (.idiv, 1) := by decide +kernel
theorem dX9_hoursFit_25 : decode cX9_hoursFit 25 = .ok (.ishl, 1) := by decide +kernel
theorem dX9_hoursFit_26 : decode cX9_hoursFit 26 = .ok (.goto 4, 3) := by decide +kernel
theorem dX9_hoursFit_29 : decode cX9_hoursFit 29 = .ok (.iconst 0, 1) := by decide +kernel
theorem dX9_hoursFit_30 : decode cX9_hoursFit 30 = .ok (.ior, 1) := by decide +kernel
theorem dX9_hoursFit_31 : decode cX9_hoursFit 31 = .ok (.istore_n 1, 1) := by decide +kernel
theorem dX9_hoursFit_32 : decode cX9_hoursFit 32 = .ok (.iinc 2 1, 3) := by decide +kernel
theorem dX9_hoursFit_35 : decode cX9_hoursFit 35 = .ok (.goto (-31), 3) := by decide +kernel
theorem dX9_hoursFit_38 : decode cX9_hoursFit 38 = .ok (.iload_n 1, 1) := by decide +kernel
theorem dX9_hoursFit_39 : decode cX9_hoursFit 39 = .ok (.ireturn, 1) := by decide +kernel
theorem dX9_isSure_0 : decode cX9_isSure 0 = .ok (.aload_n 0, 1) := by decide +kernel
theorem dX9_isSure_1 : decode cX9_isSure 1 = .ok (.invokevirtual 158, 3) := by decide +kernel
theorem dX9_isSure_4 : decode cX9_isSure 4 = .ok (.istore_n 1, 1) := by decide +kernel
theorem dX9_isSure_5 : decode cX9_isSure 5 = .ok (.iload_n 1, 1) := by decide +kernel
theorem dX9_isSure_6 : decode cX9_isSure 6 = .ok (.ifCond .eq 15, 3) := by decide +kernel
theorem dX9_isSure_9 : decode cX9_isSure 9 = .ok (.iload_n 1, 1) := by decide +kernel
theorem dX9_isSure_10 : decode cX9_isSure 10 = .ok (.iload_n 1, 1) := by decide +kernel
theorem dX9_isSure_11 : decode cX9_isSure 11 = .ok (.iconst 1, 1) := by decide +kernel
theorem dX9_isSure_12 : decode cX9_isSure 12 = .ok (.isub, 1) := by decide +kernel
theorem dX9_isSure_13 : decode cX9_isSure 13 = .ok (.iand, 1) := by decide +kernel
theorem dX9_isSure_14 : decode cX9_isSure 14 = .ok (.ifCond .ne 7, 3) := by decide +kernel
theorem dX9_isSure_17 : decode cX9_isSure 17 = .ok (.iconst 1, 1) := by decide +kernel
theorem dX9_isSure_18 : decode cX9_isSure 18 = .ok (.goto 4, 3) := by decide +kernel
theorem dX9_isSure_21 : decode cX9_isSure 21 = .ok (.iconst 0, 1) := by decide +kernel
theorem dX9_isSure_22 : decode cX9_isSure 22 = .ok (.ireturn, 1) := by decide +kernel
theorem dX9_fits_0 : decode cX9_fits 0 = .ok (.iload_n 1, 1) := by decide +kernel
theorem dX9_fits_1 : decode cX9_fits 1 = .ok (.invokestatic 131, 3) := by decide +kernel
theorem dX9_fits_4 : decode cX9_fits 4 = .ok (.ifCond .ne 6, 3) := by decide +kernel
theorem dX9_fits_7 : decode cX9_fits 7 = .ok (.ldc 83, 2) := by decide +kernel
theorem dX9_fits_9 : decode cX9_fits 9 = .ok (.ireturn, 1) := by decide +kernel
theorem dX9_fits_10 : decode cX9_fits 10 = .ok (.aload_n 0, 1) := by decide +kernel
theorem dX9_fits_11 : decode cX9_fits 11 = .ok (.invokevirtual 161, 3) := by decide +kernel
theorem dX9_fits_14 : decode cX9_fits 14 = .ok (.aload_n 0, 1) := by decide +kernel
theorem dX9_fits_15 : decode cX9_fits 15 = .ok (.iload_n 1, 1) := by decide +kernel
theorem dX9_fits_16 : decode cX9_fits 16 = .ok (.invokevirtual 155, 3) := by decide +kernel
theorem dX9_fits_19 : decode cX9_fits 19 = .ok (.ifCond .eq 7, 3) := by decide +kernel
theorem dX9_fits_22 : decode cX9_fits 22 = .ok (.iconst 1, 1) := by decide +kernel
theorem dX9_fits_23 : decode cX9_fits 23 = .ok (.goto 4, 3) := by decide +kernel
theorem dX9_fits_26 : decode cX9_fits 26 = .ok (.iconst 0, 1) := by decide +kernel
theorem dX9_fits_27 : decode cX9_fits 27 = .ok (.ireturn, 1) := by decide +kernel
theorem dX9_may_0 : decode cX9_may 0 = .ok (.iload_n 1, 1) := by decide +kernel
theorem dX9_may_1 : decode cX9_may 1 = .ok (.i2l, 1) := by decide +kernel
theorem dX9_may_2 : decode cX9_may 2 = .ok (.lconst 0, 1) := by decide +kernel
theorem dX9_may_3 : decode cX9_may 3 = .ok (.ldc2_w 151, 3) := by decide +kernel
theorem dX9_may_6 : decode cX9_may 6 = .ok (.invokestatic 68, 3) := by decide +kernel
theorem dX9_may_9 : decode cX9_may 9 = .ok (.ifCond .ne 6, 3) := by decide +kernel
theorem dX9_may_12 : decode cX9_may 12 = .ok (.ldc 83, 2) := by decide +kernel
theorem dX9_may_14 : decode cX9_may 14 = .ok (.ireturn, 1) := by decide +kernel
theorem dX9_may_15 : decode cX9_may 15 = .ok (.aload_n 0, 1) := by decide +kernel
theorem dX9_may_16 : decode cX9_may 16 = .ok (.invokevirtual 161, 3) := by decide +kernel
theorem dX9_may_19 : decode cX9_may 19 = .ok (.iload_n 1, 1) := by decide +kernel
theorem dX9_may_20 : decode cX9_may 20 = .ok (.ifCond .ne 8, 3) := by decide +kernel
theorem dX9_may_23 : decode cX9_may 23 = .ok (.aload_n 0, 1) := by decide +kernel
theorem dX9_may_24 : decode cX9_may 24 = .ok (.invokevirtual 164, 3) := by decide +kernel
theorem dX9_may_27 : decode cX9_may 27 = .ok (.ireturn, 1) := by decide +kernel
theorem dX9_may_28 : decode cX9_may 28 = .ok (.iload_n 1, 1) := by decide +kernel
theorem dX9_may_29 : decode cX9_may 29 = .ok (.iconst 1, 1) := by decide +kernel
theorem dX9_may_30 : decode cX9_may 30 = .ok (.if_icmp .ne 8, 3) := by decide +kernel
theorem dX9_may_33 : decode cX9_may 33 = .ok (.aload_n 0, 1) := by decide +kernel
theorem dX9_may_34 : decode cX9_may 34 = .ok (.invokevirtual 158, 3) := by decide +kernel
theorem dX9_may_37 : decode cX9_may 37 = .ok (.ireturn, 1) := by decide +kernel
theorem dX9_may_38 : decode cX9_may 38 = .ok (.iload_n 1, 1) := by decide +kernel
theorem dX9_may_39 : decode cX9_may 39 = .ok (.iconst 3, 1) := by decide +kernel
theorem dX9_may_40 : decode cX9_may 40 = .ok (.if_icmp .ne 16, 3) := by decide +kernel
theorem dX9_may_43 : decode cX9_may 43 = .ok (.aload_n 0, 1) := by decide +kernel
theorem dX9_may_44 : decode cX9_may 44 = .ok (.invokevirtual 167, 3) := by decide +kernel
theorem dX9_may_47 : decode cX9_may 47 = .ok (.ifCond .eq 7, 3) := by decide +kernel
theorem dX9_may_50 : decode cX9_may 50 = .ok (.iconst 1, 1) := by decide +kernel
theorem dX9_may_51 : decode cX9_may 51 = .ok (.goto 4, 3) := by decide +kernel
theorem dX9_may_54 : decode cX9_may 54 = .ok (.iconst 0, 1) := by decide +kernel
theorem dX9_may_55 : decode cX9_may 55 = .ok (.ireturn, 1) := by decide +kernel
theorem dX9_may_56 : decode cX9_may 56 = .ok (.iconst 0, 1) := by decide +kernel
theorem dX9_may_57 : decode cX9_may 57 = .ok (.istore_n 2, 1) := by decide +kernel
theorem dX9_may_58 : decode cX9_may 58 = .ok (.iload_n 2, 1) := by decide +kernel
theorem dX9_may_59 : decode cX9_may 59 = .ok (.sipush 720, 3) := by decide +kernel
theorem dX9_may_62 : decode cX9_may 62 = .ok (.if_icmp .ge 17, 3) := by decide +kernel
theorem dX9_may_65 : decode cX9_may 65 = .ok (.aload_n 0, 1) := by decide +kernel
theorem dX9_may_66 : decode cX9_may 66 = .ok (.iload_n 2, 1) := by decide +kernel
theorem dX9_may_67 : decode cX9_may 67 = .ok (.invokevirtual 155, 3) := by decide +kernel
theorem dX9_may_70 : decode cX9_may 70 = .ok (.ifCond .ne 9, 3) := by decide +kernel
theorem dX9_may_73 : decode cX9_may 73 = .ok (.iinc 2 1, 3) := by decide +kernel
theorem dX9_may_76 : decode cX9_may 76 = .ok (.goto (-18), 3) := by decide +kernel
theorem dX9_may_79 : decode cX9_may 79 = .ok (.iload_n 2, 1) := by decide +kernel
theorem dX9_may_80 : decode cX9_may 80 = .ok (.sipush 720, 3) := by decide +kernel
theorem dX9_may_83 : decode cX9_may 83 = .ok (.if_icmp .ge 7, 3) := by decide +kernel
theorem dX9_may_86 : decode cX9_may 86 = .ok (.iload_n 2, 1) := by decide +kernel
theorem dX9_may_87 : decode cX9_may 87 = .ok (.goto 5, 3) := by decide +kernel
theorem dX9_may_90 : decode cX9_may 90 = .ok (.ldc 67, 2) := by decide +kernel
theorem dX9_may_92 : decode cX9_may 92 = .ok (.ireturn, 1) := by decide +kernel
theorem dX9_next_0 : decode cX9_next 0 = .ok (.iconst 1, 1) := by decide +kernel
theorem dX9_next_1 : decode cX9_next 1 = .ok (.istore_n 1, 1) := by decide +kernel
theorem dX9_next_2 : decode cX9_next 2 = .ok (.iload_n 1, 1) := by decide +kernel
theorem dX9_next_3 : decode cX9_next 3 = .ok (.bipush 60, 2) := by decide +kernel
theorem dX9_next_5 : decode cX9_next 5 = .ok (.if_icmp .gt 28, 3) := by decide +kernel
theorem dX9_next_8 : decode cX9_next 8 = .ok (.aload_n 0, 1) := by decide +kernel
theorem dX9_next_9 : decode cX9_next 9 = .ok (.aload_n 0, 1) := by decide +kernel
theorem dX9_next_10 : decode cX9_next 10 = .ok (.invokevirtual 111, 3) := by decide +kernel
theorem dX9_next_13 : decode cX9_next 13 = .ok (.iload_n 1, 1) := by decide +kernel
theorem dX9_next_14 : decode cX9_next 14 = .ok (.iadd, 1) := by decide +kernel
theorem dX9_next_15 : decode cX9_next 15 = .ok (.iconst 1, 1) := by decide +kernel
theorem dX9_next_16 : decode cX9_next 16 = .ok (.isub, 1) := by decide +kernel
theorem dX9_next_17 : decode cX9_next 17 = .ok (.sipush 720, 3) := by decide +kernel
theorem dX9_next_20 : decode cX9_next 20 = .ok (.irem, 1) := by decide +kernel
theorem dX9_next_21 : decode cX9_next 21 = .ok (.invokevirtual 134, 3) := by decide +kernel
theorem dX9_next_24 : decode cX9_next 24 = .ok (.ifCond .ne 9, 3) := by decide +kernel
theorem dX9_next_27 : decode cX9_next 27 = .ok (.iinc 1 1, 3) := by decide +kernel
theorem dX9_next_30 : decode cX9_next 30 = .ok (.goto (-28), 3) := by decide +kernel
theorem dX9_next_33 : decode cX9_next 33 = .ok (.iload_n 1, 1) := by decide +kernel
theorem dX9_next_34 : decode cX9_next 34 = .ok (.bipush 60, 2) := by decide +kernel
theorem dX9_next_36 : decode cX9_next 36 = .ok (.if_icmp .gt 7, 3) := by decide +kernel
theorem dX9_next_39 : decode cX9_next 39 = .ok (.iload_n 1, 1) := by decide +kernel
theorem dX9_next_40 : decode cX9_next 40 = .ok (.goto 5, 3) := by decide +kernel
theorem dX9_next_43 : decode cX9_next 43 = .ok (.ldc 67, 2) := by decide +kernel
theorem dX9_next_45 : decode cX9_next 45 = .ok (.ireturn, 1) := by decide +kernel
theorem dX9_parts_0 : decode cX9_parts 0 = .ok (.iload_n 1, 1) := by decide +kernel
theorem dX9_parts_1 : decode cX9_parts 1 = .ok (.invokestatic 131, 3) := by decide +kernel
theorem dX9_parts_4 : decode cX9_parts 4 = .ok (.ifCond .eq 7, 3) := by decide +kernel
theorem dX9_parts_7 : decode cX9_parts 7 = .ok (.iload_n 2, 1) := by decide +kernel
theorem dX9_parts_8 : decode cX9_parts 8 = .ok (.ifCond .ge 6, 3) := by decide +kernel
theorem dX9_parts_11 : decode cX9_parts 11 = .ok (.ldc 83, 2) := by decide +kernel
theorem dX9_parts_13 : decode cX9_parts 13 = .ok (.ireturn, 1) := by decide +kernel
theorem dX9_parts_14 : decode cX9_parts 14 = .ok (.iconst 0, 1) := by decide +kernel
theorem dX9_parts_15 : decode cX9_parts 15 = .ok (.istore_n 3, 1) := by decide +kernel
theorem dX9_parts_16 : decode cX9_parts 16 = .ok (.iconst 0, 1) := by decide +kernel
theorem dX9_parts_17 : decode cX9_parts 17 = .ok (.istore 4, 2) := by decide +kernel
theorem dX9_parts_19 : decode cX9_parts 19 = .ok (.iload 4, 2) := by decide +kernel
theorem dX9_parts_21 : decode cX9_parts 21 = .ok (.iconst 1, 1) := by decide +kernel
theorem dX9_parts_22 : decode cX9_parts 22 = .ok (.aload_n 0, 1) := by decide +kernel
theorem dX9_parts_23 : decode cX9_parts 23 = .ok (.getfield 7, 3) := by decide +kernel
theorem dX9_parts_26 : decode cX9_parts 26 = .ok (.iconst 0, 1) := by decide +kernel
theorem dX9_parts_27 : decode cX9_parts 27 = .ok (.iaload, 1) := by decide +kernel
theorem dX9_parts_28 : decode cX9_parts 28 = .ok (.ishl, 1) := by decide +kernel
theorem dX9_parts_29 : decode cX9_parts 29 = .ok (.if_icmp .ge 73, 3) := by decide +kernel
theorem dX9_parts_32 : decode cX9_parts 32 = .ok (.iconst 0, 1) := by decide +kernel
theorem dX9_parts_33 : decode cX9_parts 33 = .ok (.istore 5, 2) := by decide +kernel
theorem dX9_parts_35 : decode cX9_parts 35 = .ok (.iconst 0, 1) := by decide +kernel
theorem dX9_parts_36 : decode cX9_parts 36 = .ok (.istore 6, 2) := by decide +kernel
theorem dX9_parts_38 : decode cX9_parts 38 = .ok (.iload 6, 2) := by decide +kernel
theorem dX9_parts_40 : decode cX9_parts 40 = .ok (.aload_n 0, 1) := by decide +kernel
theorem dX9_parts_41 : decode cX9_parts 41 = .ok (.getfield 7, 3) := by decide +kernel
theorem dX9_parts_44 : decode cX9_parts 44 = .ok (.iconst 0, 1) := by decide +kernel
theorem dX9_parts_45 : decode cX9_parts 45 = .ok (.iaload, 1) := by decide +kernel
theorem dX9_parts_46 : decode cX9_parts 46 = .ok (.if_icmp .ge 36, 3) := by decide +kernel
theorem dX9_parts_49 : decode cX9_parts 49 = .ok (.iload 5, 2) := by decide +kernel
theorem dX9_parts_51 : decode cX9_parts 51 = .ok (.iload 4, 2) := by decide +kernel
theorem dX9_parts_53 : decode cX9_parts 53 = .ok (.iload 6, 2) := by decide +kernel
theorem dX9_parts_55 : decode cX9_parts 55 = .ok (.ishr, 1) := by decide +kernel
theorem dX9_parts_56 : decode cX9_parts 56 = .ok (.iconst 1, 1) := by decide +kernel
theorem dX9_parts_57 : decode cX9_parts 57 = .ok (.iand, 1) := by decide +kernel
theorem dX9_parts_58 : decode cX9_parts 58 = .ok (.iconst 1, 1) := by decide +kernel
theorem dX9_parts_59 : decode cX9_parts 59 = .ok (.if_icmp .ne 13, 3) := by decide +kernel
theorem dX9_parts_62 : decode cX9_parts 62 = .ok (.aload_n 0, 1) := by decide +kernel
theorem dX9_parts_63 : decode cX9_parts 63 = .ok (.iload 6, 2) := by decide +kernel
theorem dX9_parts_65 : decode cX9_parts 65 = .ok (.iload_n 1, 1) := by decide +kernel
theorem dX9_parts_66 : decode cX9_parts 66 = .ok (.invokevirtual 115, 3) := by decide +kernel
theorem dX9_parts_69 : decode cX9_parts 69 = .ok (.goto 4, 3) := by decide +kernel
theorem dX9_parts_72 : decode cX9_parts 72 = .ok (.iconst 0, 1) := by decide +kernel
theorem dX9_parts_73 : decode cX9_parts 73 = .ok (.iadd, 1) := by decide +kernel
theorem dX9_parts_74 : decode cX9_parts 74 = .ok (.istore 5, 2) := by decide +kernel
theorem dX9_parts_76 : decode cX9_parts 76 = .ok (.iinc 6 1, 3) := by decide +kernel
theorem dX9_parts_79 : decode cX9_parts 79 = .ok (.goto (-41), 3) := by decide +kernel
theorem dX9_parts_82 : decode cX9_parts 82 = .ok (.iload_n 3, 1) := by decide +kernel
theorem dX9_parts_83 : decode cX9_parts 83 = .ok (.iload 5, 2) := by decide +kernel
theorem dX9_parts_85 : decode cX9_parts 85 = .ok (.iload_n 2, 1) := by decide +kernel
theorem dX9_parts_86 : decode cX9_parts 86 = .ok (.if_icmp .ne 7, 3) := by decide +kernel
theorem dX9_parts_89 : decode cX9_parts 89 = .ok (.iconst 1, 1) := by decide +kernel
theorem dX9_parts_90 : decode cX9_parts 90 = .ok (.goto 4, 3) := by decide +kernel
theorem dX9_parts_93 : decode cX9_parts 93 = .ok (.iconst 0, 1) := by decide +kernel
theorem dX9_parts_94 : decode cX9_parts 94 = .ok (.iadd, 1) := by decide +kernel
theorem dX9_parts_95 : decode cX9_parts 95 = .ok (.istore_n 3, 1) := by decide +kernel
theorem dX9_parts_96 : decode cX9_parts 96 = .ok (.iinc 4 1, 3) := by decide +kernel
theorem dX9_parts_99 : decode cX9_parts 99 = .ok (.goto (-80), 3) := by decide +kernel
theorem dX9_parts_102 : decode cX9_parts 102 = .ok (.iload_n 3, 1) := by decide +kernel
theorem dX9_parts_103 : decode cX9_parts 103 = .ok (.ireturn, 1) := by decide +kernel
theorem dX9_astray_0 : decode cX9_astray 0 = .ok (.iload_n 1, 1) := by decide +kernel
theorem dX9_astray_1 : decode cX9_astray 1 = .ok (.i2l, 1) := by decide +kernel
theorem dX9_astray_2 : decode cX9_astray 2 = .ok (.lconst 0, 1) := by decide +kernel
theorem dX9_astray_3 : decode cX9_astray 3 = .ok (.lconst 1, 1) := by decide +kernel
theorem dX9_astray_4 : decode cX9_astray 4 = .ok (.invokestatic 68, 3) := by decide +kernel
theorem dX9_astray_7 : decode cX9_astray 7 = .ok (.ifCond .ne 6, 3) := by decide +kernel
theorem dX9_astray_10 : decode cX9_astray 10 = .ok (.ldc 83, 2) := by decide +kernel
theorem dX9_astray_12 : decode cX9_astray 12 = .ok (.ireturn, 1) := by decide +kernel
theorem dX9_astray_13 : decode cX9_astray 13 = .ok (.aload_n 0, 1) := by decide +kernel
theorem dX9_astray_14 : decode cX9_astray 14 = .ok (.invokevirtual 161, 3) := by decide +kernel
theorem dX9_astray_17 : decode cX9_astray 17 = .ok (.iconst (-1), 1) := by decide +kernel
theorem dX9_astray_18 : decode cX9_astray 18 = .ok (.istore_n 2, 1) := by decide +kernel
theorem dX9_astray_19 : decode cX9_astray 19 = .ok (.iconst (-1), 1) := by decide +kernel
theorem dX9_astray_20 : decode cX9_astray 20 = .ok (.istore_n 3, 1) := by decide +kernel
theorem dX9_astray_21 : decode cX9_astray 21 = .ok (.iconst 0, 1) := by decide +kernel
theorem dX9_astray_22 : decode cX9_astray 22 = .ok (.istore 4, 2) := by decide +kernel
theorem dX9_astray_24 : decode cX9_astray 24 = .ok (.iload 4, 2) := by decide +kernel
theorem dX9_astray_26 : decode cX9_astray 26 = .ok (.aload_n 0, 1) := by decide +kernel
theorem dX9_astray_27 : decode cX9_astray 27 = .ok (.getfield 7, 3) := by decide +kernel
theorem dX9_astray_30 : decode cX9_astray 30 = .ok (.iconst 0, 1) := by decide +kernel
theorem dX9_astray_31 : decode cX9_astray 31 = .ok (.iaload, 1) := by decide +kernel
theorem dX9_astray_32 : decode cX9_astray 32 = .ok (.if_icmp .ge 55, 3) := by decide +kernel
theorem dX9_astray_35 : decode cX9_astray 35 = .ok (.aload_n 0, 1) := by decide +kernel
theorem dX9_astray_36 : decode cX9_astray 36 = .ok (.iload 4, 2) := by decide +kernel
theorem dX9_astray_38 : decode cX9_astray 38 = .ok (.iconst (-1), 1) := by decide +kernel
theorem dX9_astray_39 : decode cX9_astray 39 = .ok (.invokevirtual 171, 3) := by decide +kernel
theorem dX9_astray_42 : decode cX9_astray 42 = .ok (.aload_n 0, 1) := by decide +kernel
theorem dX9_astray_43 : decode cX9_astray 43 = .ok (.invokevirtual 164, 3) := by decide +kernel
theorem dX9_astray_46 : decode cX9_astray 46 = .ok (.istore 5, 2) := by decide +kernel
theorem dX9_astray_48 : decode cX9_astray 48 = .ok (.aload_n 0, 1) := by decide +kernel
theorem dX9_astray_49 : decode cX9_astray 49 = .ok (.iload 4, 2) := by decide +kernel
theorem dX9_astray_51 : decode cX9_astray 51 = .ok (.iconst 1, 1) := by decide +kernel
theorem dX9_astray_52 : decode cX9_astray 52 = .ok (.invokevirtual 171, 3) := by decide +kernel
theorem dX9_astray_55 : decode cX9_astray 55 = .ok (.iload 5, 2) := by decide +kernel
theorem dX9_astray_57 : decode cX9_astray 57 = .ok (.iload_n 3, 1) := by decide +kernel
theorem dX9_astray_58 : decode cX9_astray 58 = .ok (.if_icmp .le 8, 3) := by decide +kernel
theorem dX9_astray_61 : decode cX9_astray 61 = .ok (.iload 4, 2) := by decide +kernel
theorem dX9_astray_63 : decode cX9_astray 63 = .ok (.goto 4, 3) := by decide +kernel
theorem dX9_astray_66 : decode cX9_astray 66 = .ok (.iload_n 2, 1) := by decide +kernel
theorem dX9_astray_67 : decode cX9_astray 67 = .ok (.istore_n 2, 1) := by decide +kernel
theorem dX9_astray_68 : decode cX9_astray 68 = .ok (.iload 5, 2) := by decide +kernel
theorem dX9_astray_70 : decode cX9_astray 70 = .ok (.iload_n 3, 1) := by decide +kernel
theorem dX9_astray_71 : decode cX9_astray 71 = .ok (.if_icmp .le 8, 3) := by decide +kernel
theorem dX9_astray_74 : decode cX9_astray 74 = .ok (.iload 5, 2) := by decide +kernel
theorem dX9_astray_76 : decode cX9_astray 76 = .ok (.goto 4, 3) := by decide +kernel
theorem dX9_astray_79 : decode cX9_astray 79 = .ok (.iload_n 3, 1) := by decide +kernel
theorem dX9_astray_80 : decode cX9_astray 80 = .ok (.istore_n 3, 1) := by decide +kernel
theorem dX9_astray_81 : decode cX9_astray 81 = .ok (.iinc 4 1, 3) := by decide +kernel
theorem dX9_astray_84 : decode cX9_astray 84 = .ok (.goto (-60), 3) := by decide +kernel
theorem dX9_astray_87 : decode cX9_astray 87 = .ok (.iload_n 2, 1) := by decide +kernel
theorem dX9_astray_88 : decode cX9_astray 88 = .ok (.ifCond .ge 8, 3) := by decide +kernel
theorem dX9_astray_91 : decode cX9_astray 91 = .ok (.ldc 67, 2) := by decide +kernel
theorem dX9_astray_93 : decode cX9_astray 93 = .ok (.goto 12, 3) := by decide +kernel
theorem dX9_astray_96 : decode cX9_astray 96 = .ok (.iload_n 1, 1) := by decide +kernel
theorem dX9_astray_97 : decode cX9_astray 97 = .ok (.ifCond .ne 7, 3) := by decide +kernel
theorem dX9_astray_100 : decode cX9_astray 100 = .ok (.iload_n 2, 1) := by decide +kernel
theorem dX9_astray_101 : decode cX9_astray 101 = .ok (.goto 4, 3) := by decide +kernel
theorem dX9_astray_104 : decode cX9_astray 104 = .ok (.iload_n 3, 1) := by decide +kernel
theorem dX9_astray_105 : decode cX9_astray 105 = .ok (.ireturn, 1) := by decide +kernel
theorem dX9_right_0 : decode cX9_right 0 = .ok (.aload_n 0, 1) := by decide +kernel
theorem dX9_right_1 : decode cX9_right 1 = .ok (.iload_n 1, 1) := by decide +kernel
theorem dX9_right_2 : decode cX9_right 2 = .ok (.invokevirtual 107, 3) := by decide +kernel
theorem dX9_right_5 : decode cX9_right 5 = .ok (.ifCond .eq 13, 3) := by decide +kernel
theorem dX9_right_8 : decode cX9_right 8 = .ok (.iload_n 2, 1) := by decide +kernel
theorem dX9_right_9 : decode cX9_right 9 = .ok (.i2l, 1) := by decide +kernel
theorem dX9_right_10 : decode cX9_right 10 = .ok (.lconst 0, 1) := by decide +kernel
theorem dX9_right_11 : decode cX9_right 11 = .ok (.lconst 1, 1) := by decide +kernel
theorem dX9_right_12 : decode cX9_right 12 = .ok (.invokestatic 68, 3) := by decide +kernel
theorem dX9_right_15 : decode cX9_right 15 = .ok (.ifCond .ne 6, 3) := by decide +kernel
theorem dX9_right_18 : decode cX9_right 18 = .ok (.ldc 83, 2) := by decide +kernel
theorem dX9_right_20 : decode cX9_right 20 = .ok (.ireturn, 1) := by decide +kernel
theorem dX9_right_21 : decode cX9_right 21 = .ok (.aload_n 0, 1) := by decide +kernel
theorem dX9_right_22 : decode cX9_right 22 = .ok (.invokevirtual 161, 3) := by decide +kernel
theorem dX9_right_25 : decode cX9_right 25 = .ok (.aload_n 0, 1) := by decide +kernel
theorem dX9_right_26 : decode cX9_right 26 = .ok (.iload_n 1, 1) := by decide +kernel
theorem dX9_right_27 : decode cX9_right 27 = .ok (.iconst 1, 1) := by decide +kernel
theorem dX9_right_28 : decode cX9_right 28 = .ok (.invokevirtual 88, 3) := by decide +kernel
theorem dX9_right_31 : decode cX9_right 31 = .ok (.istore_n 3, 1) := by decide +kernel
theorem dX9_right_32 : decode cX9_right 32 = .ok (.aload_n 0, 1) := by decide +kernel
theorem dX9_right_33 : decode cX9_right 33 = .ok (.iload_n 1, 1) := by decide +kernel
theorem dX9_right_34 : decode cX9_right 34 = .ok (.iconst (-1), 1) := by decide +kernel
theorem dX9_right_35 : decode cX9_right 35 = .ok (.invokevirtual 171, 3) := by decide +kernel
theorem dX9_right_38 : decode cX9_right 38 = .ok (.iconst (-1), 1) := by decide +kernel
theorem dX9_right_39 : decode cX9_right 39 = .ok (.istore 4, 2) := by decide +kernel
theorem dX9_right_41 : decode cX9_right 41 = .ok (.iconst 0, 1) := by decide +kernel
theorem dX9_right_42 : decode cX9_right 42 = .ok (.istore 5, 2) := by decide +kernel
theorem dX9_right_44 : decode cX9_right 44 = .ok (.iconst 0, 1) := by decide +kernel
theorem dX9_right_45 : decode cX9_right 45 = .ok (.istore 6, 2) := by decide +kernel
theorem dX9_right_47 : decode cX9_right 47 = .ok (.iload 6, 2) := by decide +kernel
theorem dX9_right_49 : decode cX9_right 49 = .ok (.bipush 59, 2) := by decide +kernel
theorem dX9_right_51 : decode cX9_right 51 = .ok (.if_icmp .gt 60, 3) := by decide +kernel
theorem dX9_right_54 : decode cX9_right 54 = .ok (.aload_n 0, 1) := by decide +kernel
theorem dX9_right_55 : decode cX9_right 55 = .ok (.iload_n 1, 1) := by decide +kernel
theorem dX9_right_56 : decode cX9_right 56 = .ok (.iconst 1, 1) := by decide +kernel
theorem dX9_right_57 : decode cX9_right 57 = .ok (.iload 6, 2) := by decide +kernel
theorem dX9_right_59 : decode cX9_right 59 = .ok (.invokevirtual 73, 3) := by decide +kernel
theorem dX9_right_62 : decode cX9_right 62 = .ok (.aload_n 0, 1) := by decide +kernel
theorem dX9_right_63 : decode cX9_right 63 = .ok (.iload_n 1, 1) := by decide +kernel
theorem dX9_right_64 : decode cX9_right 64 = .ok (.iconst 1, 1) := by decide +kernel
theorem dX9_right_65 : decode cX9_right 65 = .ok (.invokevirtual 171, 3) := by decide +kernel
theorem dX9_right_68 : decode cX9_right 68 = .ok (.aload_n 0, 1) := by decide +kernel
theorem dX9_right_69 : decode cX9_right 69 = .ok (.invokevirtual 164, 3) := by decide +kernel
theorem dX9_right_72 : decode cX9_right 72 = .ok (.istore 7, 2) := by decide +kernel
theorem dX9_right_74 : decode cX9_right 74 = .ok (.aload_n 0, 1) := by decide +kernel
theorem dX9_right_75 : decode cX9_right 75 = .ok (.iload_n 1, 1) := by decide +kernel
theorem dX9_right_76 : decode cX9_right 76 = .ok (.iconst (-1), 1) := by decide +kernel
theorem dX9_right_77 : decode cX9_right 77 = .ok (.invokevirtual 171, 3) := by decide +kernel
theorem dX9_right_80 : decode cX9_right 80 = .ok (.iload 7, 2) := by decide +kernel
theorem dX9_right_82 : decode cX9_right 82 = .ok (.ifCond .le 23, 3) := by decide +kernel
theorem dX9_right_85 : decode cX9_right 85 = .ok (.iload 4, 2) := by decide +kernel
theorem dX9_right_87 : decode cX9_right 87 = .ok (.ifCond .lt 10, 3) := by decide +kernel
theorem dX9_right_90 : decode cX9_right 90 = .ok (.iload 7, 2) := by decide +kernel
theorem dX9_right_92 : decode cX9_right 92 = .ok (.iload 5, 2) := by decide +kernel
theorem dX9_right_94 : decode cX9_right 94 = .ok (.if_icmp .ge 11, 3) := by decide +kernel
theorem dX9_right_97 : decode cX9_right 97 = .ok (.iload 6, 2) := by decide +kernel
theorem dX9_right_99 : decode cX9_right 99 = .ok (.istore 4, 2) := by decide +kernel
theorem dX9_right_101 : decode cX9_right 101 = .ok (.iload 7, 2) := by decide +kernel
theorem dX9_right_103 : decode cX9_right 103 = .ok (.istore 5, 2) := by decide +kernel
theorem dX9_right_105 : decode cX9_right 105 = .ok (.iinc 6 1, 3) := by decide +kernel
theorem dX9_right_108 : decode cX9_right 108 = .ok (.goto (-61), 3) := by decide +kernel
theorem dX9_right_111 : decode cX9_right 111 = .ok (.aload_n 0, 1) := by decide +kernel
theorem dX9_right_112 : decode cX9_right 112 = .ok (.iload_n 1, 1) := by decide +kernel
theorem dX9_right_113 : decode cX9_right 113 = .ok (.iconst 1, 1) := by decide +kernel
theorem dX9_right_114 : decode cX9_right 114 = .ok (.iload_n 3, 1) := by decide +kernel
theorem dX9_right_115 : decode cX9_right 115 = .ok (.invokevirtual 73, 3) := by decide +kernel
theorem dX9_right_118 : decode cX9_right 118 = .ok (.iload 4, 2) := by decide +kernel
theorem dX9_right_120 : decode cX9_right 120 = .ok (.ifCond .ge 8, 3) := by decide +kernel
theorem dX9_right_123 : decode cX9_right 123 = .ok (.ldc 67, 2) := by decide +kernel
theorem dX9_right_125 : decode cX9_right 125 = .ok (.goto 14, 3) := by decide +kernel
theorem dX9_right_128 : decode cX9_right 128 = .ok (.iload_n 2, 1) := by decide +kernel
theorem dX9_right_129 : decode cX9_right 129 = .ok (.ifCond .ne 8, 3) := by decide +kernel
theorem dX9_right_132 : decode cX9_right 132 = .ok (.iload 4, 2) := by decide +kernel
theorem dX9_right_134 : decode cX9_right 134 = .ok (.goto 5, 3) := by decide +kernel
theorem dX9_right_137 : decode cX9_right 137 = .ok (.iload 5, 2) := by decide +kernel
theorem dX9_right_139 : decode cX9_right 139 = .ok (.ireturn, 1) := by decide +kernel
theorem dX9_telling_0 : decode cX9_telling 0 = .ok (.aload_n 0, 1) := by decide +kernel
theorem dX9_telling_1 : decode cX9_telling 1 = .ok (.invokevirtual 161, 3) := by decide +kernel
theorem dX9_telling_4 : decode cX9_telling 4 = .ok (.iconst 0, 1) := by decide +kernel
theorem dX9_telling_5 : decode cX9_telling 5 = .ok (.istore_n 1, 1) := by decide +kernel
theorem dX9_telling_6 : decode cX9_telling 6 = .ok (.iconst 1, 1) := by decide +kernel
theorem dX9_telling_7 : decode cX9_telling 7 = .ok (.istore_n 2, 1) := by decide +kernel
theorem dX9_telling_8 : decode cX9_telling 8 = .ok (.iload_n 2, 1) := by decide +kernel
theorem dX9_telling_9 : decode cX9_telling 9 = .ok (.sipush 360, 3) := by decide +kernel
theorem dX9_telling_12 : decode cX9_telling 12 = .ok (.if_icmp .gt 117, 3) := by decide +kernel
theorem dX9_telling_15 : decode cX9_telling 15 = .ok (.iconst 0, 1) := by decide +kernel
theorem dX9_telling_16 : decode cX9_telling 16 = .ok (.istore_n 3, 1) := by decide +kernel
theorem dX9_telling_17 : decode cX9_telling 17 = .ok (.sipush 660, 3) := by decide +kernel
theorem dX9_telling_20 : decode cX9_telling 20 = .ok (.istore 4, 2) := by decide +kernel
theorem dX9_telling_22 : decode cX9_telling 22 = .ok (.iload 4, 2) := by decide +kernel
theorem dX9_telling_24 : decode cX9_telling 24 = .ok (.sipush 1440, 3) := by decide +kernel
theorem dX9_telling_27 : decode cX9_telling 27 = .ok (.if_icmp .ge 96, 3) := by decide +kernel
theorem dX9_telling_30 : decode cX9_telling 30 = .ok (.iload 4, 2) := by decide +kernel
theorem dX9_telling_32 : decode cX9_telling 32 = .ok (.sipush 720, 3) := by decide +kernel
theorem dX9_telling_35 : decode cX9_telling 35 = .ok (.irem, 1) := by decide +kernel
theorem dX9_telling_36 : decode cX9_telling 36 = .ok (.istore 5, 2) := by decide +kernel
theorem dX9_telling_38 : decode cX9_telling 38 = .ok (.iload 4, 2) := by decide +kernel
theorem dX9_telling_40 : decode cX9_telling 40 = .ok (.iload_n 2, 1) := by decide +kernel
theorem dX9_telling_41 : decode cX9_telling 41 = .ok (.isub, 1) := by decide +kernel
theorem dX9_telling_42 : decode cX9_telling 42 = .ok (.sipush 720, 3) := by decide +kernel
theorem dX9_telling_45 : decode cX9_telling 45 = .ok (.irem, 1) := by decide +kernel
theorem dX9_telling_46 : decode cX9_telling 46 = .ok (.istore 6, 2) := by decide +kernel
theorem dX9_telling_48 : decode cX9_telling 48 = .ok (.aload_n 0, 1) := by decide +kernel
theorem dX9_telling_49 : decode cX9_telling 49 = .ok (.getfield 43, 3) := by decide +kernel
theorem dX9_telling_52 : decode cX9_telling 52 = .ok (.iload 5, 2) := by decide +kernel
theorem dX9_telling_54 : decode cX9_telling 54 = .ok (.iaload, 1) := by decide +kernel
theorem dX9_telling_55 : decode cX9_telling 55 = .ok (.aload_n 0, 1) := by decide +kernel
theorem dX9_telling_56 : decode cX9_telling 56 = .ok (.getfield 43, 3) := by decide +kernel
theorem dX9_telling_59 : decode cX9_telling 59 = .ok (.iload 6, 2) := by decide +kernel
theorem dX9_telling_61 : decode cX9_telling 61 = .ok (.iaload, 1) := by decide +kernel
theorem dX9_telling_62 : decode cX9_telling 62 = .ok (.if_icmp .ne 9, 3) := by decide +kernel
theorem dX9_telling_65 : decode cX9_telling 65 = .ok (.iload_n 3, 1) := by decide +kernel
theorem dX9_telling_66 : decode cX9_telling 66 = .ok (.iconst 1, 1) := by decide +kernel
theorem dX9_telling_67 : decode cX9_telling 67 = .ok (.iadd, 1) := by decide +kernel
theorem dX9_telling_68 : decode cX9_telling 68 = .ok (.goto 4, 3) := by decide +kernel
theorem dX9_telling_71 : decode cX9_telling 71 = .ok (.iconst 0, 1) := by decide +kernel
theorem dX9_telling_72 : decode cX9_telling 72 = .ok (.istore_n 3, 1) := by decide +kernel
theorem dX9_telling_73 : decode cX9_telling 73 = .ok (.iload 4, 2) := by decide +kernel
theorem dX9_telling_75 : decode cX9_telling 75 = .ok (.sipush 720, 3) := by decide +kernel
theorem dX9_telling_78 : decode cX9_telling 78 = .ok (.if_icmp .lt 25, 3) := by decide +kernel
theorem dX9_telling_81 : decode cX9_telling 81 = .ok (.iload 5, 2) := by decide +kernel
theorem dX9_telling_83 : decode cX9_telling 83 = .ok (.bipush 60, 2) := by decide +kernel
theorem dX9_telling_85 : decode cX9_telling 85 = .ok (.idiv, 1) := by decide +kernel
theorem dX9_telling_86 : decode cX9_telling 86 = .ok (.iload 6, 2) := by decide +kernel
theorem dX9_telling_88 : decode cX9_telling 88 = .ok (.bipush 60, 2) := by decide +kernel
theorem dX9_telling_90 : decode cX9_telling 90 = .ok (.idiv, 1) := by decide +kernel
theorem dX9_telling_91 : decode cX9_telling 91 = .ok (.if_icmp .eq 12, 3) := by decide +kernel
theorem dX9_telling_94 : decode cX9_telling 94 = .ok (.iload_n 3, 1) := by decide +kernel
theorem dX9_telling_95 : decode cX9_telling 95 = .ok (.iload_n 1, 1) := by decide +kernel
theorem dX9_telling_96 : decode cX9_telling 96 = .ok (.if_icmp .le 7, 3) := by decide +kernel
theorem dX9_telling_99 : decode cX9_telling 99 = .ok (.iconst 1, 1) := by decide +kernel
theorem dX9_telling_100 : decode cX9_telling 100 = .ok (.goto 4, 3) := by decide +kernel
theorem dX9_telling_103 : decode cX9_telling 103 = .ok (.iconst 0, 1) := by decide +kernel
theorem dX9_telling_104 : decode cX9_telling 104 = .ok (.istore 7, 2) := by decide +kernel
theorem dX9_telling_106 : decode cX9_telling 106 = .ok (.iload 7, 2) := by decide +kernel
theorem dX9_telling_108 : decode cX9_telling 108 = .ok (.ifCond .eq 7, 3) := by decide +kernel
theorem dX9_telling_111 : decode cX9_telling 111 = .ok (.iload_n 3, 1) := by decide +kernel
theorem dX9_telling_112 : decode cX9_telling 112 = .ok (.goto 4, 3) := by decide +kernel
theorem dX9_telling_115 : decode cX9_telling 115 = .ok (.iload_n 1, 1) := by decide +kernel
theorem dX9_telling_116 : decode cX9_telling 116 = .ok (.istore_n 1, 1) := by decide +kernel
theorem dX9_telling_117 : decode cX9_telling 117 = .ok (.iinc 4 1, 3) := by decide +kernel
theorem dX9_telling_120 : decode cX9_telling 120 = .ok (.goto (-98), 3) := by decide +kernel
theorem dX9_telling_123 : decode cX9_telling 123 = .ok (.iinc 2 1, 3) := by decide +kernel
theorem dX9_telling_126 : decode cX9_telling 126 = .ok (.goto (-118), 3) := by decide +kernel
theorem dX9_telling_129 : decode cX9_telling 129 = .ok (.iload_n 1, 1) := by decide +kernel
theorem dX9_telling_130 : decode cX9_telling 130 = .ok (.bipush 60, 2) := by decide +kernel
theorem dX9_telling_132 : decode cX9_telling 132 = .ok (.if_icmp .ge 9, 3) := by decide +kernel
theorem dX9_telling_135 : decode cX9_telling 135 = .ok (.iload_n 1, 1) := by decide +kernel
theorem dX9_telling_136 : decode cX9_telling 136 = .ok (.iconst 1, 1) := by decide +kernel
theorem dX9_telling_137 : decode cX9_telling 137 = .ok (.iadd, 1) := by decide +kernel
theorem dX9_telling_138 : decode cX9_telling 138 = .ok (.goto 5, 3) := by decide +kernel
theorem dX9_telling_141 : decode cX9_telling 141 = .ok (.ldc 67, 2) := by decide +kernel
theorem dX9_telling_143 : decode cX9_telling 143 = .ok (.ireturn, 1) := by decide +kernel
theorem dX9_offBy_0 : decode cX9_offBy 0 = .ok (.iconst 0, 1) := by decide +kernel
theorem dX9_offBy_1 : decode cX9_offBy 1 = .ok (.istore_n 3, 1) := by decide +kernel
theorem dX9_offBy_2 : decode cX9_offBy 2 = .ok (.iconst 0, 1) := by decide +kernel
theorem dX9_offBy_3 : decode cX9_offBy 3 = .ok (.istore 4, 2) := by decide +kernel
theorem dX9_offBy_5 : decode cX9_offBy 5 = .ok (.iload 4, 2) := by decide +kernel
theorem dX9_offBy_7 : decode cX9_offBy 7 = .ok (.aload_n 0, 1) := by decide +kernel
theorem dX9_offBy_8 : decode cX9_offBy 8 = .ok (.getfield 22, 3) := by decide +kernel
theorem dX9_offBy_11 : decode cX9_offBy 11 = .ok (.iload_n 1, 1) := by decide +kernel
theorem dX9_offBy_12 : decode cX9_offBy 12 = .ok (.iaload, 1) := by decide +kernel
theorem dX9_offBy_13 : decode cX9_offBy 13 = .ok (.if_icmp .ge 55, 3) := by decide +kernel
theorem dX9_offBy_16 : decode cX9_offBy 16 = .ok (.aload_n 0, 1) := by decide +kernel
theorem dX9_offBy_17 : decode cX9_offBy 17 = .ok (.getfield 25, 3) := by decide +kernel
theorem dX9_offBy_20 : decode cX9_offBy 20 = .ok (.bipush 24, 2) := by decide +kernel
theorem dX9_offBy_22 : decode cX9_offBy 22 = .ok (.iload_n 1, 1) := by decide +kernel
theorem dX9_offBy_23 : decode cX9_offBy 23 = .ok (.imul, 1) := by decide +kernel
theorem dX9_offBy_24 : decode cX9_offBy 24 = .ok (.iload 4, 2) := by decide +kernel
theorem dX9_offBy_26 : decode cX9_offBy 26 = .ok (.iadd, 1) := by decide +kernel
theorem dX9_offBy_27 : decode cX9_offBy 27 = .ok (.iaload, 1) := by decide +kernel
theorem dX9_offBy_28 : decode cX9_offBy 28 = .ok (.istore 5, 2) := by decide +kernel
theorem dX9_offBy_30 : decode cX9_offBy 30 = .ok (.iload_n 3, 1) := by decide +kernel
theorem dX9_offBy_31 : decode cX9_offBy 31 = .ok (.iload 5, 2) := by decide +kernel
theorem dX9_offBy_33 : decode cX9_offBy 33 = .ok (.ldc 67, 2) := by decide +kernel
theorem dX9_offBy_35 : decode cX9_offBy 35 = .ok (.if_icmp .ne 7, 3) := by decide +kernel
theorem dX9_offBy_38 : decode cX9_offBy 38 = .ok (.iconst 0, 1) := by decide +kernel
theorem dX9_offBy_39 : decode cX9_offBy 39 = .ok (.goto 21, 3) := by decide +kernel
theorem dX9_offBy_42 : decode cX9_offBy 42 = .ok (.iload 5, 2) := by decide +kernel
theorem dX9_offBy_44 : decode cX9_offBy 44 = .ok (.aload_n 0, 1) := by decide +kernel
theorem dX9_offBy_45 : decode cX9_offBy 45 = .ok (.getfield 43, 3) := by decide +kernel
theorem dX9_offBy_48 : decode cX9_offBy 48 = .ok (.iload_n 2, 1) := by decide +kernel
theorem dX9_offBy_49 : decode cX9_offBy 49 = .ok (.iload 4, 2) := by decide +kernel
theorem dX9_offBy_51 : decode cX9_offBy 51 = .ok (.iadd, 1) := by decide +kernel
theorem dX9_offBy_52 : decode cX9_offBy 52 = .ok (.sipush 720, 3) := by decide +kernel
theorem dX9_offBy_55 : decode cX9_offBy 55 = .ok (.irem, 1) := by decide +kernel
theorem dX9_offBy_56 : decode cX9_offBy 56 = .ok (.iaload, 1) := by decide +kernel
theorem dX9_offBy_57 : decode cX9_offBy 57 = .ok (.invokestatic 175, 3) := by decide +kernel
theorem dX9_offBy_60 : decode cX9_offBy 60 = .ok (.iadd, 1) := by decide +kernel
theorem dX9_offBy_61 : decode cX9_offBy 61 = .ok (.istore_n 3, 1) := by decide +kernel
theorem dX9_offBy_62 : decode cX9_offBy 62 = .ok (.iinc 4 1, 3) := by decide +kernel
theorem dX9_offBy_65 : decode cX9_offBy 65 = .ok (.goto (-60), 3) := by decide +kernel
theorem dX9_offBy_68 : decode cX9_offBy 68 = .ok (.iload_n 3, 1) := by decide +kernel
theorem dX9_offBy_69 : decode cX9_offBy 69 = .ok (.ireturn, 1) := by decide +kernel
theorem dX9_like_0 : decode cX9_like 0 = .ok (.iload_n 1, 1) := by decide +kernel
theorem dX9_like_1 : decode cX9_like 1 = .ok (.invokestatic 178, 3) := by decide +kernel
theorem dX9_like_4 : decode cX9_like 4 = .ok (.ifCond .eq 13, 3) := by decide +kernel
theorem dX9_like_7 : decode cX9_like 7 = .ok (.iload_n 2, 1) := by decide +kernel
theorem dX9_like_8 : decode cX9_like 8 = .ok (.i2l, 1) := by decide +kernel
theorem dX9_like_9 : decode cX9_like 9 = .ok (.lconst 0, 1) := by decide +kernel
theorem dX9_like_10 : decode cX9_like 10 = .ok (.lconst 1, 1) := by decide +kernel
theorem dX9_like_11 : decode cX9_like 11 = .ok (.invokestatic 68, 3) := by decide +kernel
theorem dX9_like_14 : decode cX9_like 14 = .ok (.ifCond .ne 6, 3) := by decide +kernel
theorem dX9_like_17 : decode cX9_like 17 = .ok (.ldc 83, 2) := by decide +kernel
theorem dX9_like_19 : decode cX9_like 19 = .ok (.ireturn, 1) := by decide +kernel
theorem dX9_like_20 : decode cX9_like 20 = .ok (.aload_n 0, 1) := by decide +kernel
theorem dX9_like_21 : decode cX9_like 21 = .ok (.getfield 19, 3) := by decide +kernel
theorem dX9_like_24 : decode cX9_like 24 = .ok (.iload_n 1, 1) := by decide +kernel
theorem dX9_like_25 : decode cX9_like 25 = .ok (.iaload, 1) := by decide +kernel
theorem dX9_like_26 : decode cX9_like 26 = .ok (.ifCond .ge 6, 3) := by decide +kernel
theorem dX9_like_29 : decode cX9_like 29 = .ok (.ldc 181, 2) := by decide +kernel
theorem dX9_like_31 : decode cX9_like 31 = .ok (.ireturn, 1) := by decide +kernel
theorem dX9_like_32 : decode cX9_like 32 = .ok (.aload_n 0, 1) := by decide +kernel
theorem dX9_like_33 : decode cX9_like 33 = .ok (.invokevirtual 161, 3) := by decide +kernel
theorem dX9_like_36 : decode cX9_like 36 = .ok (.iconst 0, 1) := by decide +kernel
theorem dX9_like_37 : decode cX9_like 37 = .ok (.istore_n 3, 1) := by decide +kernel
theorem dX9_like_38 : decode cX9_like 38 = .ok (.aload_n 0, 1) := by decide +kernel
theorem dX9_like_39 : decode cX9_like 39 = .ok (.iload_n 1, 1) := by decide +kernel
theorem dX9_like_40 : decode cX9_like 40 = .ok (.iconst 0, 1) := by decide +kernel
theorem dX9_like_41 : decode cX9_like 41 = .ok (.invokevirtual 182, 3) := by decide +kernel
theorem dX9_like_44 : decode cX9_like 44 = .ok (.istore 4, 2) := by decide +kernel
theorem dX9_like_46 : decode cX9_like 46 = .ok (.iconst 1, 1) := by decide +kernel
theorem dX9_like_47 : decode cX9_like 47 = .ok (.istore 5, 2) := by decide +kernel
theorem dX9_like_49 : decode cX9_like 49 = .ok (.iload 5, 2) := by decide +kernel
theorem dX9_like_51 : decode cX9_like 51 = .ok (.sipush 720, 3) := by decide +kernel
theorem dX9_like_54 : decode cX9_like 54 = .ok (.if_icmp .ge 48, 3) := by decide +kernel
theorem dX9_like_57 : decode cX9_like 57 = .ok (.aload_n 0, 1) := by decide +kernel
theorem dX9_like_58 : decode cX9_like 58 = .ok (.iload_n 1, 1) := by decide +kernel
theorem dX9_like_59 : decode cX9_like 59 = .ok (.iload 5, 2) := by decide +kernel
theorem dX9_like_61 : decode cX9_like 61 = .ok (.invokevirtual 182, 3) := by decide +kernel
theorem dX9_like_64 : decode cX9_like 64 = .ok (.istore 6, 2) := by decide +kernel
theorem dX9_like_66 : decode cX9_like 66 = .ok (.iload 6, 2) := by decide +kernel
theorem dX9_like_68 : decode cX9_like 68 = .ok (.iload 4, 2) := by decide +kernel
theorem dX9_like_70 : decode cX9_like 70 = .ok (.if_icmp .ge 8, 3) := by decide +kernel
theorem dX9_like_73 : decode cX9_like 73 = .ok (.iload 5, 2) := by decide +kernel
theorem dX9_like_75 : decode cX9_like 75 = .ok (.goto 4, 3) := by decide +kernel
theorem dX9_like_78 : decode cX9_like 78 = .ok (.iload_n 3, 1) := by decide +kernel
theorem dX9_like_79 : decode cX9_like 79 = .ok (.istore_n 3, 1) := by decide +kernel
theorem dX9_like_80 : decode cX9_like 80 = .ok (.iload 6, 2) := by decide +kernel
theorem dX9_like_82 : decode cX9_like 82 = .ok (.iload 4, 2) := by decide +kernel
theorem dX9_like_84 : decode cX9_like 84 = .ok (.if_icmp .ge 8, 3) := by decide +kernel
theorem dX9_like_87 : decode cX9_like 87 = .ok (.iload 6, 2) := by decide +kernel
theorem dX9_like_89 : decode cX9_like 89 = .ok (.goto 5, 3) := by decide +kernel
theorem dX9_like_92 : decode cX9_like 92 = .ok (.iload 4, 2) := by decide +kernel
theorem dX9_like_94 : decode cX9_like 94 = .ok (.istore 4, 2) := by decide +kernel
theorem dX9_like_96 : decode cX9_like 96 = .ok (.iinc 5 1, 3) := by decide +kernel
theorem dX9_like_99 : decode cX9_like 99 = .ok (.goto (-50), 3) := by decide +kernel
theorem dX9_like_102 : decode cX9_like 102 = .ok (.iload_n 2, 1) := by decide +kernel
theorem dX9_like_103 : decode cX9_like 103 = .ok (.ifCond .ne 7, 3) := by decide +kernel
theorem dX9_like_106 : decode cX9_like 106 = .ok (.iload_n 3, 1) := by decide +kernel
theorem dX9_like_107 : decode cX9_like 107 = .ok (.goto 5, 3) := by decide +kernel
theorem dX9_like_110 : decode cX9_like 110 = .ok (.iload 4, 2) := by decide +kernel
theorem dX9_like_112 : decode cX9_like 112 = .ok (.ireturn, 1) := by decide +kernel
theorem dX9_laysBy_0 : decode cX9_laysBy 0 = .ok (.iconst 0, 1) := by decide +kernel
theorem dX9_laysBy_1 : decode cX9_laysBy 1 = .ok (.istore_n 1, 1) := by decide +kernel
theorem dX9_laysBy_2 : decode cX9_laysBy 2 = .ok (.iload_n 1, 1) := by decide +kernel
theorem dX9_laysBy_3 : decode cX9_laysBy 3 = .ok (.bipush 40, 2) := by decide +kernel
theorem dX9_laysBy_5 : decode cX9_laysBy 5 = .ok (.if_icmp .ge 21, 3) := by decide +kernel
theorem dX9_laysBy_8 : decode cX9_laysBy 8 = .ok (.aload_n 0, 1) := by decide +kernel
theorem dX9_laysBy_9 : decode cX9_laysBy 9 = .ok (.getfield 46, 3) := by decide +kernel
theorem dX9_laysBy_12 : decode cX9_laysBy 12 = .ok (.iload_n 1, 1) := by decide +kernel
theorem dX9_laysBy_13 : decode cX9_laysBy 13 = .ok (.aload_n 0, 1) := by decide +kernel
theorem dX9_laysBy_14 : decode cX9_laysBy 14 = .ok (.getfield 7, 3) := by decide +kernel
theorem dX9_laysBy_17 : decode cX9_laysBy 17 = .ok (.iload_n 1, 1) := by decide +kernel
theorem dX9_laysBy_18 : decode cX9_laysBy 18 = .ok (.iaload, 1) := by decide +kernel
theorem dX9_laysBy_19 : decode cX9_laysBy 19 = .ok (.iastore, 1) := by decide +kernel
theorem dX9_laysBy_20 : decode cX9_laysBy 20 = .ok (.iinc 1 1, 3) := by decide +kernel
theorem dX9_laysBy_23 : decode cX9_laysBy 23 = .ok (.goto (-21), 3) := by decide +kernel
theorem dX9_laysBy_26 : decode cX9_laysBy 26 = .ok (.return_, 1) := by decide +kernel
theorem dX9_laysBack_0 : decode cX9_laysBack 0 = .ok (.iconst 0, 1) := by decide +kernel
theorem dX9_laysBack_1 : decode cX9_laysBack 1 = .ok (.istore_n 1, 1) := by decide +kernel
theorem dX9_laysBack_2 : decode cX9_laysBack 2 = .ok (.iload_n 1, 1) := by decide +kernel
theorem dX9_laysBack_3 : decode cX9_laysBack 3 = .ok (.bipush 40, 2) := by decide +kernel
theorem dX9_laysBack_5 : decode cX9_laysBack 5 = .ok (.if_icmp .ge 21, 3) := by decide +kernel
theorem dX9_laysBack_8 : decode cX9_laysBack 8 = .ok (.aload_n 0, 1) := by decide +kernel
theorem dX9_laysBack_9 : decode cX9_laysBack 9 = .ok (.getfield 7, 3) := by decide +kernel
theorem dX9_laysBack_12 : decode cX9_laysBack 12 = .ok (.iload_n 1, 1) := by decide +kernel
theorem dX9_laysBack_13 : decode cX9_laysBack 13 = .ok (.aload_n 0, 1) := by decide +kernel
theorem dX9_laysBack_14 : decode cX9_laysBack 14 = .ok (.getfield 46, 3) := by decide +kernel
theorem dX9_laysBack_17 : decode cX9_laysBack 17 = .ok (.iload_n 1, 1) := by decide +kernel
theorem dX9_laysBack_18 : decode cX9_laysBack 18 = .ok (.iaload, 1) := by decide +kernel
theorem dX9_laysBack_19 : decode cX9_laysBack 19 = .ok (.iastore, 1) := by decide +kernel
theorem dX9_laysBack_20 : decode cX9_laysBack 20 = .ok (.iinc 1 1, 3) := by decide +kernel
theorem dX9_laysBack_23 : decode cX9_laysBack 23 = .ok (.goto (-21), 3) := by decide +kernel
theorem dX9_laysBack_26 : decode cX9_laysBack 26 = .ok (.return_, 1) := by decide +kernel
theorem dX9_behind_0 : decode cX9_behind 0 = .ok (.iload_n 1, 1) := by decide +kernel
theorem dX9_behind_1 : decode cX9_behind 1 = .ok (.i2l, 1) := by decide +kernel
theorem dX9_behind_2 : decode cX9_behind 2 = .ok (.lconst 0, 1) := by decide +kernel
theorem dX9_behind_3 : decode cX9_behind 3 = .ok (.ldc2_w 137, 3) := by decide +kernel
theorem dX9_behind_6 : decode cX9_behind 6 = .ok (.invokestatic 68, 3) := by decide +kernel
theorem dX9_behind_9 : decode cX9_behind 9 = .ok (.ifCond .eq 15, 3) := by decide +kernel
theorem dX9_behind_12 : decode cX9_behind 12 = .ok (.iload_n 2, 1) := by decide +kernel
theorem dX9_behind_13 : decode cX9_behind 13 = .ok (.i2l, 1) := by decide +kernel
theorem dX9_behind_14 : decode cX9_behind 14 = .ok (.lconst 0, 1) := by decide +kernel
theorem dX9_behind_15 : decode cX9_behind 15 = .ok (.ldc2_w 151, 3) := by decide +kernel
theorem dX9_behind_18 : decode cX9_behind 18 = .ok (.invokestatic 68, 3) := by decide +kernel
theorem dX9_behind_21 : decode cX9_behind 21 = .ok (.ifCond .ne 6, 3) := by decide +kernel
theorem dX9_behind_24 : decode cX9_behind 24 = .ok (.ldc 83, 2) := by decide +kernel
theorem dX9_behind_26 : decode cX9_behind 26 = .ok (.ireturn, 1) := by decide +kernel
theorem dX9_behind_27 : decode cX9_behind 27 = .ok (.aload_n 0, 1) := by decide +kernel
theorem dX9_behind_28 : decode cX9_behind 28 = .ok (.invokevirtual 161, 3) := by decide +kernel
theorem dX9_behind_31 : decode cX9_behind 31 = .ok (.aload_n 0, 1) := by decide +kernel
theorem dX9_behind_32 : decode cX9_behind 32 = .ok (.invokevirtual 185, 3) := by decide +kernel
theorem dX9_behind_35 : decode cX9_behind 35 = .ok (.aload_n 0, 1) := by decide +kernel
theorem dX9_behind_36 : decode cX9_behind 36 = .ok (.iload_n 1, 1) := by decide +kernel
theorem dX9_behind_37 : decode cX9_behind 37 = .ok (.invokevirtual 147, 3) := by decide +kernel
theorem dX9_behind_40 : decode cX9_behind 40 = .ok (.iload_n 2, 1) := by decide +kernel
theorem dX9_behind_41 : decode cX9_behind 41 = .ok (.iconst 3, 1) := by decide +kernel
theorem dX9_behind_42 : decode cX9_behind 42 = .ok (.if_icmp .ge 14, 3) := by decide +kernel
theorem dX9_behind_45 : decode cX9_behind 45 = .ok (.aload_n 0, 1) := by decide +kernel
theorem dX9_behind_46 : decode cX9_behind 46 = .ok (.getfield 7, 3) := by decide +kernel
theorem dX9_behind_49 : decode cX9_behind 49 = .ok (.iconst 3, 1) := by decide +kernel
theorem dX9_behind_50 : decode cX9_behind 50 = .ok (.iload_n 2, 1) := by decide +kernel
theorem dX9_behind_51 : decode cX9_behind 51 = .ok (.iadd, 1) := by decide +kernel
theorem dX9_behind_52 : decode cX9_behind 52 = .ok (.iaload, 1) := by decide +kernel
theorem dX9_behind_53 : decode cX9_behind 53 = .ok (.goto 7, 3) := by decide +kernel
theorem dX9_behind_56 : decode cX9_behind 56 = .ok (.aload_n 0, 1) := by decide +kernel
theorem dX9_behind_57 : decode cX9_behind 57 = .ok (.invokevirtual 164, 3) := by decide +kernel
theorem dX9_behind_60 : decode cX9_behind 60 = .ok (.istore_n 3, 1) := by decide +kernel
theorem dX9_behind_61 : decode cX9_behind 61 = .ok (.aload_n 0, 1) := by decide +kernel
theorem dX9_behind_62 : decode cX9_behind 62 = .ok (.invokevirtual 188, 3) := by decide +kernel
theorem dX9_behind_65 : decode cX9_behind 65 = .ok (.iload_n 3, 1) := by decide +kernel
theorem dX9_behind_66 : decode cX9_behind 66 = .ok (.ireturn, 1) := by decide +kernel
theorem dX9_listen_0 : decode cX9_listen 0 = .ok (.aload_n 0, 1) := by decide +kernel
theorem dX9_listen_1 : decode cX9_listen 1 = .ok (.invokevirtual 161, 3) := by decide +kernel
theorem dX9_listen_4 : decode cX9_listen 4 = .ok (.aload_n 0, 1) := by decide +kernel
theorem dX9_listen_5 : decode cX9_listen 5 = .ok (.invokevirtual 185, 3) := by decide +kernel
theorem dX9_listen_8 : decode cX9_listen 8 = .ok (.iconst 0, 1) := by decide +kernel
theorem dX9_listen_9 : decode cX9_listen 9 = .ok (.istore_n 1, 1) := by decide +kernel
theorem dX9_listen_10 : decode cX9_listen 10 = .ok (.iload_n 1, 1) := by decide +kernel
theorem dX9_listen_11 : decode cX9_listen 11 = .ok (.bipush 60, 2) := by decide +kernel
theorem dX9_listen_13 : decode cX9_listen 13 = .ok (.if_icmp .gt 20, 3) := by decide +kernel
theorem dX9_listen_16 : decode cX9_listen 16 = .ok (.aload_n 0, 1) := by decide +kernel
theorem dX9_listen_17 : decode cX9_listen 17 = .ok (.invokevirtual 167, 3) := by decide +kernel
theorem dX9_listen_20 : decode cX9_listen 20 = .ok (.ifCond .ne 13, 3) := by decide +kernel
theorem dX9_listen_23 : decode cX9_listen 23 = .ok (.aload_n 0, 1) := by decide +kernel
theorem dX9_listen_24 : decode cX9_listen 24 = .ok (.invokevirtual 144, 3) := by decide +kernel
theorem dX9_listen_27 : decode cX9_listen 27 = .ok (.iinc 1 1, 3) := by decide +kernel
theorem dX9_listen_30 : decode cX9_listen 30 = .ok (.goto (-20), 3) := by decide +kernel
theorem dX9_listen_33 : decode cX9_listen 33 = .ok (.aload_n 0, 1) := by decide +kernel
theorem dX9_listen_34 : decode cX9_listen 34 = .ok (.invokevirtual 188, 3) := by decide +kernel
theorem dX9_listen_37 : decode cX9_listen 37 = .ok (.iload_n 1, 1) := by decide +kernel
theorem dX9_listen_38 : decode cX9_listen 38 = .ok (.bipush 60, 2) := by decide +kernel
theorem dX9_listen_40 : decode cX9_listen 40 = .ok (.if_icmp .gt 7, 3) := by decide +kernel
theorem dX9_listen_43 : decode cX9_listen 43 = .ok (.iload_n 1, 1) := by decide +kernel
theorem dX9_listen_44 : decode cX9_listen 44 = .ok (.goto 5, 3) := by decide +kernel
theorem dX9_listen_47 : decode cX9_listen 47 = .ok (.ldc 67, 2) := by decide +kernel
theorem dX9_listen_49 : decode cX9_listen 49 = .ok (.ireturn, 1) := by decide +kernel
theorem dX9_fee_0 : decode cX9_fee 0 = .ok (.aload_n 0, 1) := by decide +kernel
theorem dX9_fee_1 : decode cX9_fee 1 = .ok (.iconst 1, 1) := by decide +kernel
theorem dX9_fee_2 : decode cX9_fee 2 = .ok (.invokevirtual 92, 3) := by decide +kernel
theorem dX9_fee_5 : decode cX9_fee 5 = .ok (.istore_n 1, 1) := by decide +kernel
theorem dX9_fee_6 : decode cX9_fee 6 = .ok (.iload_n 1, 1) := by decide +kernel
theorem dX9_fee_7 : decode cX9_fee 7 = .ok (.ifCond .ge 10, 3) := by decide +kernel
theorem dX9_fee_10 : decode cX9_fee 10 = .ok (.aload_n 0, 1) := by decide +kernel
theorem dX9_fee_11 : decode cX9_fee 11 = .ok (.getfield 7, 3) := by decide +kernel
theorem dX9_fee_14 : decode cX9_fee 14 = .ok (.iconst 3, 1) := by decide +kernel
theorem dX9_fee_15 : decode cX9_fee 15 = .ok (.iaload, 1) := by decide +kernel
theorem dX9_fee_16 : decode cX9_fee 16 = .ok (.ireturn, 1) := by decide +kernel
theorem dX9_fee_17 : decode cX9_fee 17 = .ok (.aload_n 0, 1) := by decide +kernel
theorem dX9_fee_18 : decode cX9_fee 18 = .ok (.getfield 52, 3) := by decide +kernel
theorem dX9_fee_21 : decode cX9_fee 21 = .ok (.bipush 101, 2) := by decide +kernel
theorem dX9_fee_23 : decode cX9_fee 23 = .ok (.aload_n 0, 1) := by decide +kernel
theorem dX9_fee_24 : decode cX9_fee 24 = .ok (.getfield 7, 3) := by decide +kernel
theorem dX9_fee_27 : decode cX9_fee 27 = .ok (.iconst 3, 1) := by decide +kernel
theorem dX9_fee_28 : decode cX9_fee 28 = .ok (.iaload, 1) := by decide +kernel
theorem dX9_fee_29 : decode cX9_fee 29 = .ok (.iastore, 1) := by decide +kernel
theorem dX9_fee_30 : decode cX9_fee 30 = .ok (.aload_n 0, 1) := by decide +kernel
theorem dX9_fee_31 : decode cX9_fee 31 = .ok (.getfield 52, 3) := by decide +kernel
theorem dX9_fee_34 : decode cX9_fee 34 = .ok (.bipush 109, 2) := by decide +kernel
theorem dX9_fee_36 : decode cX9_fee 36 = .ok (.aload_n 0, 1) := by decide +kernel
theorem dX9_fee_37 : decode cX9_fee 37 = .ok (.getfield 7, 3) := by decide +kernel
theorem dX9_fee_40 : decode cX9_fee 40 = .ok (.iconst 4, 1) := by decide +kernel
theorem dX9_fee_41 : decode cX9_fee 41 = .ok (.iaload, 1) := by decide +kernel
theorem dX9_fee_42 : decode cX9_fee 42 = .ok (.iastore, 1) := by decide +kernel
theorem dX9_fee_43 : decode cX9_fee 43 = .ok (.aload_n 0, 1) := by decide +kernel
theorem dX9_fee_44 : decode cX9_fee 44 = .ok (.iload_n 1, 1) := by decide +kernel
theorem dX9_fee_45 : decode cX9_fee 45 = .ok (.invokevirtual 96, 3) := by decide +kernel
theorem dX9_fee_48 : decode cX9_fee 48 = .ok (.ireturn, 1) := by decide +kernel
theorem dX9_fine_0 : decode cX9_fine 0 = .ok (.aload_n 0, 1) := by decide +kernel
theorem dX9_fine_1 : decode cX9_fine 1 = .ok (.iload_n 1, 1) := by decide +kernel
theorem dX9_fine_2 : decode cX9_fine 2 = .ok (.invokevirtual 107, 3) := by decide +kernel
theorem dX9_fine_5 : decode cX9_fine 5 = .ok (.ifCond .ne 6, 3) := by decide +kernel
theorem dX9_fine_8 : decode cX9_fine 8 = .ok (.ldc 83, 2) := by decide +kernel
theorem dX9_fine_10 : decode cX9_fine 10 = .ok (.ireturn, 1) := by decide +kernel
theorem dX9_fine_11 : decode cX9_fine 11 = .ok (.aload_n 0, 1) := by decide +kernel
theorem dX9_fine_12 : decode cX9_fine 12 = .ok (.iconst 2, 1) := by decide +kernel
theorem dX9_fine_13 : decode cX9_fine 13 = .ok (.invokevirtual 92, 3) := by decide +kernel
theorem dX9_fine_16 : decode cX9_fine 16 = .ok (.istore_n 2, 1) := by decide +kernel
theorem dX9_fine_17 : decode cX9_fine 17 = .ok (.iload_n 2, 1) := by decide +kernel
theorem dX9_fine_18 : decode cX9_fine 18 = .ok (.ifCond .ge 10, 3) := by decide +kernel
theorem dX9_fine_21 : decode cX9_fine 21 = .ok (.aload_n 0, 1) := by decide +kernel
theorem dX9_fine_22 : decode cX9_fine 22 = .ok (.iload_n 1, 1) := by decide +kernel
theorem dX9_fine_23 : decode cX9_fine 23 = .ok (.iconst 1, 1) := by decide +kernel
theorem dX9_fine_24 : decode cX9_fine 24 = .ok (.invokevirtual 88, 3) := by decide +kernel
theorem dX9_fine_27 : decode cX9_fine 27 = .ok (.ireturn, 1) := by decide +kernel
theorem dX9_fine_28 : decode cX9_fine 28 = .ok (.aload_n 0, 1) := by decide +kernel
theorem dX9_fine_29 : decode cX9_fine 29 = .ok (.getfield 52, 3) := by decide +kernel
theorem dX9_fine_32 : decode cX9_fine 32 = .ok (.bipush 111, 2) := by decide +kernel
theorem dX9_fine_34 : decode cX9_fine 34 = .ok (.aload_n 0, 1) := by decide +kernel
theorem dX9_fine_35 : decode cX9_fine 35 = .ok (.iload_n 1, 1) := by decide +kernel
theorem dX9_fine_36 : decode cX9_fine 36 = .ok (.iconst 1, 1) := by decide +kernel
theorem dX9_fine_37 : decode cX9_fine 37 = .ok (.invokevirtual 88, 3) := by decide +kernel
theorem dX9_fine_40 : decode cX9_fine 40 = .ok (.iastore, 1) := by decide +kernel
theorem dX9_fine_41 : decode cX9_fine 41 = .ok (.aload_n 0, 1) := by decide +kernel
theorem dX9_fine_42 : decode cX9_fine 42 = .ok (.getfield 52, 3) := by decide +kernel
theorem dX9_fine_45 : decode cX9_fine 45 = .ok (.bipush 116, 2) := by decide +kernel
theorem dX9_fine_47 : decode cX9_fine 47 = .ok (.aload_n 0, 1) := by decide +kernel
theorem dX9_fine_48 : decode cX9_fine 48 = .ok (.iload_n 1, 1) := by decide +kernel
theorem dX9_fine_49 : decode cX9_fine 49 = .ok (.iconst 2, 1) := by decide +kernel
theorem dX9_fine_50 : decode cX9_fine 50 = .ok (.invokevirtual 88, 3) := by decide +kernel
theorem dX9_fine_53 : decode cX9_fine 53 = .ok (.iastore, 1) := by decide +kernel
theorem dX9_fine_54 : decode cX9_fine 54 = .ok (.aload_n 0, 1) := by decide +kernel
theorem dX9_fine_55 : decode cX9_fine 55 = .ok (.iload_n 2, 1) := by decide +kernel
theorem dX9_fine_56 : decode cX9_fine 56 = .ok (.invokevirtual 96, 3) := by decide +kernel
theorem dX9_fine_59 : decode cX9_fine 59 = .ok (.ireturn, 1) := by decide +kernel
theorem dX9_feed_0 : decode cX9_feed 0 = .ok (.aload_n 0, 1) := by decide +kernel
theorem dX9_feed_1 : decode cX9_feed 1 = .ok (.getfield 191, 3) := by decide +kernel
theorem dX9_feed_4 : decode cX9_feed 4 = .ok (.bipush 12, 2) := by decide +kernel
theorem dX9_feed_6 : decode cX9_feed 6 = .ok (.iadd, 1) := by decide +kernel
theorem dX9_feed_7 : decode cX9_feed 7 = .ok (.bipush 96, 2) := by decide +kernel
theorem dX9_feed_9 : decode cX9_feed 9 = .ok (.if_icmp .le 6, 3) := by decide +kernel
theorem dX9_feed_12 : decode cX9_feed 12 = .ok (.ldc 84, 2) := by decide +kernel
theorem dX9_feed_14 : decode cX9_feed 14 = .ok (.ireturn, 1) := by decide +kernel
theorem dX9_feed_15 : decode cX9_feed 15 = .ok (.iconst 0, 1) := by decide +kernel
theorem dX9_feed_16 : decode cX9_feed 16 = .ok (.istore 4, 2) := by decide +kernel
theorem dX9_feed_18 : decode cX9_feed 18 = .ok (.iload 4, 2) := by decide +kernel
theorem dX9_feed_20 : decode cX9_feed 20 = .ok (.bipush 12, 2) := by decide +kernel
theorem dX9_feed_22 : decode cX9_feed 22 = .ok (.if_icmp .ge 69, 3) := by decide +kernel
theorem dX9_feed_25 : decode cX9_feed 25 = .ok (.iload 4, 2) := by decide +kernel
theorem dX9_feed_27 : decode cX9_feed 27 = .ok (.iconst 4, 1) := by decide +kernel
theorem dX9_feed_28 : decode cX9_feed 28 = .ok (.if_icmp .ge 7, 3) := by decide +kernel
theorem dX9_feed_31 : decode cX9_feed 31 = .ok (.iload_n 1, 1) := by decide +kernel
theorem dX9_feed_32 : decode cX9_feed 32 = .ok (.goto 15, 3) := by decide +kernel
theorem dX9_feed_35 : decode cX9_feed 35 = .ok (.iload 4, 2) := by decide +kernel
theorem dX9_feed_37 : decode cX9_feed 37 = .ok (.bipush 8, 2) := by decide +kernel
theorem dX9_feed_39 : decode cX9_feed 39 = .ok (.if_icmp .ge 7, 3) := by decide +kernel
theorem dX9_feed_42 : decode cX9_feed 42 = .ok (.iload_n 2, 1) := by decide +kernel
theorem dX9_feed_43 : decode cX9_feed 43 = .ok (.goto 4, 3) := by decide +kernel
theorem dX9_feed_46 : decode cX9_feed 46 = .ok (.iload_n 3, 1) := by decide +kernel
theorem dX9_feed_47 : decode cX9_feed 47 = .ok (.istore 5, 2) := by decide +kernel
theorem dX9_feed_49 : decode cX9_feed 49 = .ok (.aload_n 0, 1) := by decide +kernel
theorem dX9_feed_50 : decode cX9_feed 50 = .ok (.getfield 49, 3) := by decide +kernel
theorem dX9_feed_53 : decode cX9_feed 53 = .ok (.aload_n 0, 1) := by decide +kernel
theorem dX9_feed_54 : decode cX9_feed 54 = .ok (.getfield 191, 3) := by decide +kernel
theorem dX9_feed_57 : decode cX9_feed 57 = .ok (.iload 5, 2) := by decide +kernel
theorem dX9_feed_59 : decode cX9_feed 59 = .ok (.bipush 24, 2) := by decide +kernel
theorem dX9_feed_61 : decode cX9_feed 61 = .ok (.bipush 8, 2) := by decide +kernel
theorem dX9_feed_63 : decode cX9_feed 63 = .ok (.iload 4, 2) := by decide +kernel
theorem dX9_feed_65 : decode cX9_feed 65 = .ok (.iconst 4, 1) := by decide +kernel
theorem dX9_feed_66 : decode cX9_feed 66 = .ok (.irem, 1) := by decide +kernel
theorem dX9_feed_67 : decode cX9_feed 67 = .ok (.imul, 1) := by decide +kernel
theorem dX9_feed_68 : decode cX9_feed 68 = .ok (.isub, 1) := by decide +kernel
theorem dX9_feed_69 : decode cX9_feed 69 = .ok (.ishr, 1) := by decide +kernel
theorem dX9_feed_70 : decode cX9_feed 70 = .ok (.sipush 255, 3) := by decide +kernel
theorem dX9_feed_73 : decode cX9_feed 73 = .ok (.iand, 1) := by decide +kernel
theorem dX9_feed_74 : decode cX9_feed 74 = .ok (.iastore, 1) := by decide +kernel
theorem dX9_feed_75 : decode cX9_feed 75 = .ok (.aload_n 0, 1) := by decide +kernel
theorem dX9_feed_76 : decode cX9_feed 76 = .ok (.dup, 1) := by decide +kernel
theorem dX9_feed_77 : decode cX9_feed 77 = .ok (.getfield 191, 3) := by decide +kernel
theorem dX9_feed_80 : decode cX9_feed 80 = .ok (.iconst 1, 1) := by decide +kernel
theorem dX9_feed_81 : decode cX9_feed 81 = .ok (.iadd, 1) := by decide +kernel
theorem dX9_feed_82 : decode cX9_feed 82 = .ok (.putfield 191, 3) := by decide +kernel
theorem dX9_feed_85 : decode cX9_feed 85 = .ok (.iinc 4 1, 3) := by decide +kernel
theorem dX9_feed_88 : decode cX9_feed 88 = .ok (.goto (-70), 3) := by decide +kernel
theorem dX9_feed_91 : decode cX9_feed 91 = .ok (.aload_n 0, 1) := by decide +kernel
theorem dX9_feed_92 : decode cX9_feed 92 = .ok (.getfield 191, 3) := by decide +kernel
theorem dX9_feed_95 : decode cX9_feed 95 = .ok (.ireturn, 1) := by decide +kernel
theorem dX9_trim_0 : decode cX9_trim 0 = .ok (.iload_n 1, 1) := by decide +kernel
theorem dX9_trim_1 : decode cX9_trim 1 = .ok (.i2l, 1) := by decide +kernel
theorem dX9_trim_2 : decode cX9_trim 2 = .ok (.lconst 0, 1) := by decide +kernel
theorem dX9_trim_3 : decode cX9_trim 3 = .ok (.aload_n 0, 1) := by decide +kernel
theorem dX9_trim_4 : decode cX9_trim 4 = .ok (.getfield 191, 3) := by decide +kernel
theorem dX9_trim_7 : decode cX9_trim 7 = .ok (.i2l, 1) := by decide +kernel
theorem dX9_trim_8 : decode cX9_trim 8 = .ok (.invokestatic 68, 3) := by decide +kernel
theorem dX9_trim_11 : decode cX9_trim 11 = .ok (.ifCond .ne 6, 3) := by decide +kernel
theorem dX9_trim_14 : decode cX9_trim 14 = .ok (.ldc 83, 2) := by decide +kernel
theorem dX9_trim_16 : decode cX9_trim 16 = .ok (.ireturn, 1) := by decide +kernel
theorem dX9_trim_17 : decode cX9_trim 17 = .ok (.aload_n 0, 1) := by decide +kernel
theorem dX9_trim_18 : decode cX9_trim 18 = .ok (.iload_n 1, 1) := by decide +kernel
theorem dX9_trim_19 : decode cX9_trim 19 = .ok (.putfield 191, 3) := by decide +kernel
theorem dX9_trim_22 : decode cX9_trim 22 = .ok (.iload_n 1, 1) := by decide +kernel
theorem dX9_trim_23 : decode cX9_trim 23 = .ok (.ireturn, 1) := by decide +kernel
theorem dX9_isLetter_0 : decode cX9_isLetter 0 = .ok (.iload_n 1, 1) := by decide +kernel
theorem dX9_isLetter_1 : decode cX9_isLetter 1 = .ok (.aload_n 0, 1) := by decide +kernel
theorem dX9_isLetter_2 : decode cX9_isLetter 2 = .ok (.getfield 191, 3) := by decide +kernel
theorem dX9_isLetter_5 : decode cX9_isLetter 5 = .ok (.if_icmp .ge 26, 3) := by decide +kernel
theorem dX9_isLetter_8 : decode cX9_isLetter 8 = .ok (.aload_n 0, 1) := by decide +kernel
theorem dX9_isLetter_9 : decode cX9_isLetter 9 = .ok (.getfield 49, 3) := by decide +kernel
theorem dX9_isLetter_12 : decode cX9_isLetter 12 = .ok (.iload_n 1, 1) := by decide +kernel
theorem dX9_isLetter_13 : decode cX9_isLetter 13 = .ok (.iaload, 1) := by decide +kernel
theorem dX9_isLetter_14 : decode cX9_isLetter 14 = .ok (.i2l, 1) := by decide +kernel
theorem dX9_isLetter_15 : decode cX9_isLetter 15 = .ok (.ldc2_w 195, 3) := by decide +kernel
theorem dX9_isLetter_18 : decode cX9_isLetter 18 = .ok (.ldc2_w 197, 3) := by decide +kernel
theorem dX9_isLetter_21 : decode cX9_isLetter 21 = .ok (.invokestatic 68, 3) := by decide +kernel
theorem dX9_isLetter_24 : decode cX9_isLetter 24 = .ok (.ifCond .eq 7, 3) := by decide +kernel
theorem dX9_isLetter_27 : decode cX9_isLetter 27 = .ok (.iconst 1, 1) := by decide +kernel
theorem dX9_isLetter_28 : decode cX9_isLetter 28 = .ok (.goto 4, 3) := by decide +kernel
theorem dX9_isLetter_31 : decode cX9_isLetter 31 = .ok (.iconst 0, 1) := by decide +kernel
theorem dX9_isLetter_32 : decode cX9_isLetter 32 = .ok (.ireturn, 1) := by decide +kernel
theorem dX9_isDigit_0 : decode cX9_isDigit 0 = .ok (.iload_n 1, 1) := by decide +kernel
theorem dX9_isDigit_1 : decode cX9_isDigit 1 = .ok (.aload_n 0, 1) := by decide +kernel
theorem dX9_isDigit_2 : decode cX9_isDigit 2 = .ok (.getfield 191, 3) := by decide +kernel
theorem dX9_isDigit_5 : decode cX9_isDigit 5 = .ok (.if_icmp .ge 26, 3) := by decide +kernel
theorem dX9_isDigit_8 : decode cX9_isDigit 8 = .ok (.aload_n 0, 1) := by decide +kernel
theorem dX9_isDigit_9 : decode cX9_isDigit 9 = .ok (.getfield 49, 3) := by decide +kernel
theorem dX9_isDigit_12 : decode cX9_isDigit 12 = .ok (.iload_n 1, 1) := by decide +kernel
theorem dX9_isDigit_13 : decode cX9_isDigit 13 = .ok (.iaload, 1) := by decide +kernel
theorem dX9_isDigit_14 : decode cX9_isDigit 14 = .ok (.i2l, 1) := by decide +kernel
theorem dX9_isDigit_15 : decode cX9_isDigit 15 = .ok (.ldc2_w 199, 3) := by decide +kernel
theorem dX9_isDigit_18 : decode cX9_isDigit 18 = .ok (.ldc2_w 201, 3) := by decide +kernel
theorem dX9_isDigit_21 : decode cX9_isDigit 21 = .ok (.invokestatic 68, 3) := by decide +kernel
theorem dX9_isDigit_24 : decode cX9_isDigit 24 = .ok (.ifCond .eq 7, 3) := by decide +kernel
theorem dX9_isDigit_27 : decode cX9_isDigit 27 = .ok (.iconst 1, 1) := by decide +kernel
theorem dX9_isDigit_28 : decode cX9_isDigit 28 = .ok (.goto 4, 3) := by decide +kernel
theorem dX9_isDigit_31 : decode cX9_isDigit 31 = .ok (.iconst 0, 1) := by decide +kernel
theorem dX9_isDigit_32 : decode cX9_isDigit 32 = .ok (.ireturn, 1) := by decide +kernel
theorem dX9_nextToken_0 : decode cX9_nextToken 0 = .ok (.aload_n 0, 1) := by decide +kernel
theorem dX9_nextToken_1 : decode cX9_nextToken 1 = .ok (.getfield 203, 3) := by decide +kernel
theorem dX9_nextToken_4 : decode cX9_nextToken 4 = .ok (.ifCond .le 23, 3) := by decide +kernel
theorem dX9_nextToken_7 : decode cX9_nextToken 7 = .ok (.aload_n 0, 1) := by decide +kernel
theorem dX9_nextToken_8 : decode cX9_nextToken 8 = .ok (.getfield 206, 3) := by decide +kernel
theorem dX9_nextToken_11 : decode cX9_nextToken 11 = .ok (.iconst 1, 1) := by decide +kernel
theorem dX9_nextToken_12 : decode cX9_nextToken 12 = .ok (.if_icmp .eq 11, 3) := by decide +kernel
theorem dX9_nextToken_15 : decode cX9_nextToken 15 = .ok (.aload_n 0, 1) := by decide +kernel
theorem dX9_nextToken_16 : decode cX9_nextToken 16 = .ok (.getfield 206, 3) := by decide +kernel
theorem dX9_nextToken_19 : decode cX9_nextToken 19 = .ok (.iconst 2, 1) := by decide +kernel
theorem dX9_nextToken_20 : decode cX9_nextToken 20 = .ok (.if_icmp .ne 7, 3) := by decide +kernel
theorem dX9_nextToken_23 : decode cX9_nextToken 23 = .ok (.iconst 1, 1) := by decide +kernel
theorem dX9_nextToken_24 : decode cX9_nextToken 24 = .ok (.goto 4, 3) := by decide +kernel
theorem dX9_nextToken_27 : decode cX9_nextToken 27 = .ok (.iconst 0, 1) := by decide +kernel
theorem dX9_nextToken_28 : decode cX9_nextToken 28 = .ok (.istore_n 1, 1) := by decide +kernel
theorem dX9_nextToken_29 : decode cX9_nextToken 29 = .ok (.aload_n 0, 1) := by decide +kernel
theorem dX9_nextToken_30 : decode cX9_nextToken 30 = .ok (.getfield 203, 3) := by decide +kernel
theorem dX9_nextToken_33 : decode cX9_nextToken 33 = .ok (.istore_n 2, 1) := by decide +kernel
theorem dX9_nextToken_34 : decode cX9_nextToken 34 = .ok (.aload_n 0, 1) := by decide +kernel
theorem dX9_nextToken_35 : decode cX9_nextToken 35 = .ok (.getfield 203, 3) := by decide +kernel
theorem dX9_nextToken_38 : decode cX9_nextToken 38 = .ok (.aload_n 0, 1) := by decide +kernel
theorem dX9_nextToken_39 : decode cX9_nextToken 39 = .ok (.getfield 191, 3) := by decide +kernel
theorem dX9_nextToken_42 : decode cX9_nextToken 42 = .ok (.if_icmp .ge 30, 3) := by decide +kernel
theorem dX9_nextToken_45 : decode cX9_nextToken 45 = .ok (.aload_n 0, 1) := by decide +kernel
theorem dX9_nextToken_46 : decode cX9_nextToken 46 = .ok (.getfield 49, 3) := by decide +kernel
theorem dX9_nextToken_49 : decode cX9_nextToken 49 = .ok (.aload_n 0, 1) := by decide +kernel
theorem dX9_nextToken_50 : decode cX9_nextToken 50 = .ok (.getfield 203, 3) := by decide +kernel
theorem dX9_nextToken_53 : decode cX9_nextToken 53 = .ok (.iaload, 1) := by decide +kernel
theorem dX9_nextToken_54 : decode cX9_nextToken 54 = .ok (.bipush 32, 2) := by decide +kernel
theorem dX9_nextToken_56 : decode cX9_nextToken 56 = .ok (.if_icmp .ne 16, 3) := by decide +kernel
theorem dX9_nextToken_59 : decode cX9_nextToken 59 = .ok (.aload_n 0, 1) := by decide +kernel
theorem dX9_nextToken_60 : decode cX9_nextToken 60 = .ok (.dup, 1) := by decide +kernel
theorem dX9_nextToken_61 : decode cX9_nextToken 61 = .ok (.getfield 203, 3) := by decide +kernel
theorem dX9_nextToken_64 : decode cX9_nextToken 64 = .ok (.iconst 1, 1) := by decide +kernel
theorem dX9_nextToken_65 : decode cX9_nextToken 65 = .ok (.iadd, 1) := by decide +kernel
theorem dX9_nextToken_66 : decode cX9_nextToken 66 = .ok (.putfield 203, 3) := by decide +kernel
theorem dX9_nextToken_69 : decode cX9_nextToken 69 = .ok (.goto (-35), 3) := by decide +kernel
theorem dX9_nextToken_72 : decode cX9_nextToken 72 = .ok (.iload_n 1, 1) := by decide +kernel
theorem dX9_nextToken_73 : decode cX9_nextToken 73 = .ok (.ifCond .eq 15, 3) := by decide +kernel
theorem dX9_nextToken_76 : decode cX9_nextToken 76 = .ok (.iload_n 2, 1) := by decide +kernel
theorem dX9_nextToken_77 : decode cX9_nextToken 77 = .ok (.aload_n 0, 1) := by decide +kernel
theorem dX9_nextToken_78 : decode cX9_nextToken 78 = .ok (.getfield 203, 3) := by decide +kernel
theorem dX9_nextToken_81 : decode cX9_nextToken 81 = .ok (.if_icmp .ne 7, 3) := by decide +kernel
theorem dX9_nextToken_84 : decode cX9_nextToken 84 = .ok (.iconst 1, 1) := by decide +kernel
theorem dX9_nextToken_85 : decode cX9_nextToken 85 = .ok (.goto 4, 3) := by decide +kernel
theorem dX9_nextToken_88 : decode cX9_nextToken 88 = .ok (.iconst 0, 1) := by decide +kernel
theorem dX9_nextToken_89 : decode cX9_nextToken 89 = .ok (.istore_n 1, 1) := by decide +kernel
theorem dX9_nextToken_90 : decode cX9_nextToken 90 = .ok (.aload_n 0, 1) := by decide +kernel
theorem dX9_nextToken_91 : decode cX9_nextToken 91 = .ok (.aload_n 0, 1) := by decide +kernel
theorem dX9_nextToken_92 : decode cX9_nextToken 92 = .ok (.getfield 203, 3) := by decide +kernel
theorem dX9_nextToken_95 : decode cX9_nextToken 95 = .ok (.putfield 209, 3) := by decide +kernel
theorem dX9_nextToken_98 : decode cX9_nextToken 98 = .ok (.aload_n 0, 1) := by decide +kernel
theorem dX9_nextToken_99 : decode cX9_nextToken 99 = .ok (.getfield 209, 3) := by decide +kernel
theorem dX9_nextToken_102 : decode cX9_nextToken 102 = .ok (.aload_n 0, 1) := by decide +kernel
theorem dX9_nextToken_103 : decode cX9_nextToken 103 = .ok (.getfield 191, 3) := by decide +kernel
theorem dX9_nextToken_106 : decode cX9_nextToken 106 = .ok (.if_icmp .ne 11, 3) := by decide +kernel
theorem dX9_nextToken_109 : decode cX9_nextToken 109 = .ok (.aload_n 0, 1) := by decide +kernel
theorem dX9_nextToken_110 : decode cX9_nextToken 110 = .ok (.iconst 0, 1) := by decide +kernel
theorem dX9_nextToken_111 : decode cX9_nextToken 111 = .ok (.putfield 206, 3) := by decide +kernel
theorem dX9_nextToken_114 : decode cX9_nextToken 114 = .ok (.goto 225, 3) := by decide +kernel
theorem dX9_nextToken_117 : decode cX9_nextToken 117 = .ok (.aload_n 0, 1) := by decide +kernel
theorem dX9_nextToken_118 : decode cX9_nextToken 118 = .ok (.aload_n 0, 1) := by decide +kernel
theorem dX9_nextToken_119 : decode cX9_nextToken 119 = .ok (.getfield 209, 3) := by decide +kernel
theorem dX9_nextToken_122 : decode cX9_nextToken 122 = .ok (.invokevirtual 212, 3) := by decide +kernel
theorem dX9_nextToken_125 : decode cX9_nextToken 125 = .ok (.ifCond .eq 73, 3) := by decide +kernel
theorem dX9_nextToken_128 : decode cX9_nextToken 128 = .ok (.aload_n 0, 1) := by decide +kernel
theorem dX9_nextToken_129 : decode cX9_nextToken 129 = .ok (.aload_n 0, 1) := by decide +kernel
theorem dX9_nextToken_130 : decode cX9_nextToken 130 = .ok (.getfield 203, 3) := by decide +kernel
theorem dX9_nextToken_133 : decode cX9_nextToken 133 = .ok (.invokevirtual 212, 3) := by decide +kernel
theorem dX9_nextToken_136 : decode cX9_nextToken 136 = .ok (.ifCond .eq 16, 3) := by decide +kernel
theorem dX9_nextToken_139 : decode cX9_nextToken 139 = .ok (.aload_n 0, 1) := by decide +kernel
theorem dX9_nextToken_140 : decode cX9_nextToken 140 = .ok (.dup, 1) := by decide +kernel
theorem dX9_nextToken_141 : decode cX9_nextToken 141 = .ok (.getfield 203, 3) := by decide +kernel
theorem dX9_nextToken_144 : decode cX9_nextToken 144 = .ok (.iconst 1, 1) := by decide +kernel
theorem dX9_nextToken_145 : decode cX9_nextToken 145 = .ok (.iadd, 1) := by decide +kernel
theorem dX9_nextToken_146 : decode cX9_nextToken 146 = .ok (.putfield 203, 3) := by decide +kernel
theorem dX9_nextToken_149 : decode cX9_nextToken 149 = .ok (.goto (-21), 3) := by decide +kernel
theorem dX9_nextToken_152 : decode cX9_nextToken 152 = .ok (.aload_n 0, 1) := by decide +kernel
theorem dX9_nextToken_153 : decode cX9_nextToken 153 = .ok (.iload_n 1, 1) := by decide +kernel
theorem dX9_nextToken_154 : decode cX9_nextToken 154 = .ok (.ifCond .eq 7, 3) := by decide +kernel
theorem dX9_nextToken_157 : decode cX9_nextToken 157 = .ok (.iconst 4, 1) := by decide +kernel
theorem dX9_nextToken_158 : decode cX9_nextToken 158 = .ok (.goto 4, 3) := by decide +kernel
theorem dX9_nextToken_161 : decode cX9_nextToken 161 = .ok (.iconst 1, 1) := by decide +kernel
theorem dX9_nextToken_162 : decode cX9_nextToken 162 = .ok (.putfield 206, 3) := by decide +kernel
theorem dX9_nextToken_165 : decode cX9_nextToken 165 = .ok (.aload_n 0, 1) := by decide +kernel
theorem dX9_nextToken_166 : decode cX9_nextToken 166 = .ok (.aload_n 0, 1) := by decide +kernel
theorem dX9_nextToken_167 : decode cX9_nextToken 167 = .ok (.getfield 203, 3) := by decide +kernel
theorem dX9_nextToken_170 : decode cX9_nextToken 170 = .ok (.aload_n 0, 1) := by decide +kernel
theorem dX9_nextToken_171 : decode cX9_nextToken 171 = .ok (.getfield 209, 3) := by decide +kernel
theorem dX9_nextToken_174 : decode cX9_nextToken 174 = .ok (.isub, 1) := by decide +kernel
theorem dX9_nextToken_175 : decode cX9_nextToken 175 = .ok (.iconst 1, 1) := by decide +kernel
theorem dX9_nextToken_176 : decode cX9_nextToken 176 = .ok (.if_icmp .ne 15, 3) := by decide +kernel
theorem dX9_nextToken_179 : decode cX9_nextToken 179 = .ok (.aload_n 0, 1) := by decide +kernel
theorem dX9_nextToken_180 : decode cX9_nextToken 180 = .ok (.getfield 49, 3) := by decide +kernel
theorem dX9_nextToken_183 : decode cX9_nextToken 183 = .ok (.aload_n 0, 1) := by decide +kernel
theorem dX9_nextToken_184 : decode cX9_nextToken 184 = .ok (.getfield 209, 3) := by decide +kernel
theorem dX9_nextToken_187 : decode cX9_nextToken 187 = .ok (.iaload, 1) := by decide +kernel
theorem dX9_nextToken_188 : decode cX9_nextToken 188 = .ok (.goto 4, 3) := by decide +kernel
theorem dX9_nextToken_191 : decode cX9_nextToken 191 = .ok (.iconst 0, 1) := by decide +kernel
theorem dX9_nextToken_192 : decode cX9_nextToken 192 = .ok (.putfield 215, 3) := by decide +kernel
theorem dX9_nextToken_195 : decode cX9_nextToken 195 = .ok (.goto 144, 3) := by decide +kernel
theorem dX9_nextToken_198 : decode cX9_nextToken 198 = .ok (.aload_n 0, 1) := by decide +kernel
theorem dX9_nextToken_199 : decode cX9_nextToken 199 = .ok (.aload_n 0, 1) := by decide +kernel
theorem dX9_nextToken_200 : decode cX9_nextToken 200 = .ok (.getfield 209, 3) := by decide +kernel
theorem dX9_nextToken_203 : decode cX9_nextToken 203 = .ok (.invokevirtual 218, 3) := by decide +kernel
theorem dX9_nextToken_206 : decode cX9_nextToken 206 = .ok (.ifCond .eq 105, 3) := by decide +kernel
theorem dX9_nextToken_209 : decode cX9_nextToken 209 = .ok (.aload_n 0, 1) := by decide +kernel
theorem dX9_nextToken_210 : decode cX9_nextToken 210 = .ok (.iconst 0, 1) := by decide +kernel
theorem dX9_nextToken_211 : decode cX9_nextToken 211 = .ok (.putfield 221, 3) := by decide +kernel
theorem dX9_nextToken_214 : decode cX9_nextToken 214 = .ok (.aload_n 0, 1) := by decide +kernel
theorem dX9_nextToken_215 : decode cX9_nextToken 215 = .ok (.aload_n 0, 1) := by decide +kernel
theorem dX9_nextToken_216 : decode cX9_nextToken 216 = .ok (.getfield 203, 3) := by decide +kernel
theorem dX9_nextToken_219 : decode cX9_nextToken 219 = .ok (.invokevirtual 218, 3) := by decide +kernel
theorem dX9_nextToken_222 : decode cX9_nextToken 222 = .ok (.ifCond .eq 60, 3) := by decide +kernel
theorem dX9_nextToken_225 : decode cX9_nextToken 225 = .ok (.aload_n 0, 1) := by decide +kernel
theorem dX9_nextToken_226 : decode cX9_nextToken 226 = .ok (.aload_n 0, 1) := by decide +kernel
theorem dX9_nextToken_227 : decode cX9_nextToken 227 = .ok (.getfield 203, 3) := by decide +kernel
theorem dX9_nextToken_230 : decode cX9_nextToken 230 = .ok (.aload_n 0, 1) := by decide +kernel
theorem dX9_nextToken_231 : decode cX9_nextToken 231 = .ok (.getfield 209, 3) := by decide +kernel
theorem dX9_nextToken_234 : decode cX9_nextToken 234 = .ok (.isub, 1) := by decide +kernel
theorem dX9_nextToken_235 : decode cX9_nextToken 235 = .ok (.iconst 4, 1) := by decide +kernel
theorem dX9_nextToken_236 : decode cX9_nextToken 236 = .ok (.if_icmp .ge 26, 3) := by decide +kernel
theorem dX9_nextToken_239 : decode cX9_nextToken 239 = .ok (.bipush 10, 2) := by decide +kernel
theorem dX9_nextToken_241 : decode cX9_nextToken 241 = .ok (.aload_n 0, 1) := by decide +kernel
theorem dX9_nextToken_242 : decode cX9_nextToken 242 = .ok (.getfield 221, 3) := by decide +kernel
theorem dX9_nextToken_245 : decode cX9_nextToken 245 = .ok (.imul, 1) := by decide +kernel
theorem dX9_nextToken_246 : decode cX9_nextToken 246 = .ok (.aload_n 0, 1) := by decide +kernel
theorem dX9_nextToken_247 : decode cX9_nextToken 247 = .ok (.getfield 49, 3) := by decide +kernel
theorem dX9_nextToken_250 : decode cX9_nextToken 250 = .ok (.aload_n 0, 1) := by decide +kernel
theorem dX9_nextToken_251 : decode cX9_nextToken 251 = .ok (.getfield 203, 3) := by decide +kernel
theorem dX9_nextToken_254 : decode cX9_nextToken 254 = .ok (.iaload, 1) := by decide +kernel
theorem dX9_nextToken_255 : decode cX9_nextToken 255 = .ok (.iadd, 1) := by decide +kernel
theorem dX9_nextToken_256 : decode cX9_nextToken 256 = .ok (.bipush 48, 2) := by decide +kernel
theorem dX9_nextToken_258 : decode cX9_nextToken 258 = .ok (.isub, 1) := by decide +kernel
theorem dX9_nextToken_259 : decode cX9_nextToken 259 = .ok (.goto 7, 3) := by decide +kernel
theorem dX9_nextToken_262 : decode cX9_nextToken 262 = .ok (.aload_n 0, 1) := by decide +kernel
theorem dX9_nextToken_263 : decode cX9_nextToken 263 = .ok (.getfield 221, 3) := by decide +kernel
theorem dX9_nextToken_266 : decode cX9_nextToken 266 = .ok (.putfield 221, 3) := by decide +kernel
theorem dX9_nextToken_269 : decode cX9_nextToken 269 = .ok (.aload_n 0, 1) := by decide +kernel
theorem dX9_nextToken_270 : decode cX9_nextToken 270 = .ok (.dup, 1) := by decide +kernel
theorem dX9_nextToken_271 : decode cX9_nextToken 271 = .ok (.getfield 203, 3) := by decide +kernel
theorem dX9_nextToken_274 : decode cX9_nextToken 274 = .ok (.iconst 1, 1) := by decide +kernel
theorem dX9_nextToken_275 : decode cX9_nextToken 275 = .ok (.iadd, 1) := by decide +kernel
theorem dX9_nextToken_276 : decode cX9_nextToken 276 = .ok (.putfield 203, 3) := by decide +kernel
theorem dX9_nextToken_279 : decode cX9_nextToken 279 = .ok (.goto (-65), 3) := by decide +kernel
theorem dX9_nextToken_282 : decode cX9_nextToken 282 = .ok (.aload_n 0, 1) := by decide +kernel
theorem dX9_nextToken_283 : decode cX9_nextToken 283 = .ok (.iload_n 1, 1) := by decide +kernel
theorem dX9_nextToken_284 : decode cX9_nextToken 284 = .ok (.ifCond .ne 16, 3) := by decide +kernel
theorem dX9_nextToken_287 : decode cX9_nextToken 287 = .ok (.aload_n 0, 1) := by decide +kernel
theorem dX9_nextToken_288 : decode cX9_nextToken 288 = .ok (.getfield 203, 3) := by decide +kernel
theorem dX9_nextToken_291 : decode cX9_nextToken 291 = .ok (.aload_n 0, 1) := by decide +kernel
theorem dX9_nextToken_292 : decode cX9_nextToken 292 = .ok (.getfield 209, 3) := by decide +kernel
theorem dX9_nextToken_295 : decode cX9_nextToken 295 = .ok (.isub, 1) := by decide +kernel
theorem dX9_nextToken_296 : decode cX9_nextToken 296 = .ok (.iconst 4, 1) := by decide +kernel
theorem dX9_nextToken_297 : decode cX9_nextToken 297 = .ok (.if_icmp .le 7, 3) := by decide +kernel
theorem dX9_nextToken_300 : decode cX9_nextToken 300 = .ok (.iconst 4, 1) := by decide +kernel
theorem dX9_nextToken_301 : decode cX9_nextToken 301 = .ok (.goto 4, 3) := by decide +kernel
theorem dX9_nextToken_304 : decode cX9_nextToken 304 = .ok (.iconst 2, 1) := by decide +kernel
theorem dX9_nextToken_305 : decode cX9_nextToken 305 = .ok (.putfield 206, 3) := by decide +kernel
theorem dX9_nextToken_308 : decode cX9_nextToken 308 = .ok (.goto 31, 3) := by decide +kernel
theorem dX9_nextToken_311 : decode cX9_nextToken 311 = .ok (.aload_n 0, 1) := by decide +kernel
theorem dX9_nextToken_312 : decode cX9_nextToken 312 = .ok (.iconst 3, 1) := by decide +kernel
theorem dX9_nextToken_313 : decode cX9_nextToken 313 = .ok (.putfield 206, 3) := by decide +kernel
theorem dX9_nextToken_316 : decode cX9_nextToken 316 = .ok (.aload_n 0, 1) := by decide +kernel
theorem dX9_nextToken_317 : decode cX9_nextToken 317 = .ok (.aload_n 0, 1) := by decide +kernel
theorem dX9_nextToken_318 : decode cX9_nextToken 318 = .ok (.getfield 49, 3) := by decide +kernel
theorem dX9_nextToken_321 : decode cX9_nextToken 321 = .ok (.aload_n 0, 1) := by decide +kernel
theorem dX9_nextToken_322 : decode cX9_nextToken 322 = .ok (.getfield 209, 3) := by decide +kernel
theorem dX9_nextToken_325 : decode cX9_nextToken 325 = .ok (.iaload, 1) := by decide +kernel
theorem dX9_nextToken_326 : decode cX9_nextToken 326 = .ok (.putfield 215, 3) := by decide +kernel
theorem dX9_nextToken_329 : decode cX9_nextToken 329 = .ok (.aload_n 0, 1) := by decide +kernel
theorem dX9_nextToken_330 : decode cX9_nextToken 330 = .ok (.dup, 1) := by decide +kernel
theorem dX9_nextToken_331 : decode cX9_nextToken 331 = .ok (.getfield 203, 3) := by decide +kernel
theorem dX9_nextToken_334 : decode cX9_nextToken 334 = .ok (.iconst 1, 1) := by decide +kernel
theorem dX9_nextToken_335 : decode cX9_nextToken 335 = .ok (.iadd, 1) := by decide +kernel
theorem dX9_nextToken_336 : decode cX9_nextToken 336 = .ok (.putfield 203, 3) := by decide +kernel
theorem dX9_nextToken_339 : decode cX9_nextToken 339 = .ok (.return_, 1) := by decide +kernel
theorem dX9_isSign_0 : decode cX9_isSign 0 = .ok (.aload_n 0, 1) := by decide +kernel
theorem dX9_isSign_1 : decode cX9_isSign 1 = .ok (.getfield 206, 3) := by decide +kernel
theorem dX9_isSign_4 : decode cX9_isSign 4 = .ok (.iconst 3, 1) := by decide +kernel
theorem dX9_isSign_5 : decode cX9_isSign 5 = .ok (.if_icmp .ne 15, 3) := by decide +kernel
theorem dX9_isSign_8 : decode cX9_isSign 8 = .ok (.aload_n 0, 1) := by decide +kernel
theorem dX9_isSign_9 : decode cX9_isSign 9 = .ok (.getfield 215, 3) := by decide +kernel
theorem dX9_isSign_12 : decode cX9_isSign 12 = .ok (.iload_n 1, 1) := by decide +kernel
theorem dX9_isSign_13 : decode cX9_isSign 13 = .ok (.if_icmp .ne 7, 3) := by decide +kernel
theorem dX9_isSign_16 : decode cX9_isSign 16 = .ok (.iconst 1, 1) := by decide +kernel
theorem dX9_isSign_17 : decode cX9_isSign 17 = .ok (.goto 4, 3) := by decide +kernel
theorem dX9_isSign_20 : decode cX9_isSign 20 = .ok (.iconst 0, 1) := by decide +kernel
theorem dX9_isSign_21 : decode cX9_isSign 21 = .ok (.ireturn, 1) := by decide +kernel
theorem dX9_isWordAt_0 : decode cX9_isWordAt 0 = .ok (.iload 4, 2) := by decide +kernel
theorem dX9_isWordAt_2 : decode cX9_isWordAt 2 = .ok (.ifCond .ne 7, 3) := by decide +kernel
theorem dX9_isWordAt_5 : decode cX9_isWordAt 5 = .ok (.iconst 3, 1) := by decide +kernel
theorem dX9_isWordAt_6 : decode cX9_isWordAt 6 = .ok (.goto 4, 3) := by decide +kernel
theorem dX9_isWordAt_9 : decode cX9_isWordAt 9 = .ok (.iconst 4, 1) := by decide +kernel
theorem dX9_isWordAt_10 : decode cX9_isWordAt 10 = .ok (.istore 5, 2) := by decide +kernel
theorem dX9_isWordAt_12 : decode cX9_isWordAt 12 = .ok (.aload_n 0, 1) := by decide +kernel
theorem dX9_isWordAt_13 : decode cX9_isWordAt 13 = .ok (.getfield 206, 3) := by decide +kernel
theorem dX9_isWordAt_16 : decode cX9_isWordAt 16 = .ok (.iconst 1, 1) := by decide +kernel
theorem dX9_isWordAt_17 : decode cX9_isWordAt 17 = .ok (.if_icmp .ne 85, 3) := by decide +kernel
theorem dX9_isWordAt_20 : decode cX9_isWordAt 20 = .ok (.aload_n 0, 1) := by decide +kernel
theorem dX9_isWordAt_21 : decode cX9_isWordAt 21 = .ok (.getfield 203, 3) := by decide +kernel
theorem dX9_isWordAt_24 : decode cX9_isWordAt 24 = .ok (.aload_n 0, 1) := by decide +kernel
theorem dX9_isWordAt_25 : decode cX9_isWordAt 25 = .ok (.getfield 209, 3) := by decide +kernel
theorem dX9_isWordAt_28 : decode cX9_isWordAt 28 = .ok (.isub, 1) := by decide +kernel
theorem dX9_isWordAt_29 : decode cX9_isWordAt 29 = .ok (.iload 5, 2) := by decide +kernel
theorem dX9_isWordAt_31 : decode cX9_isWordAt 31 = .ok (.if_icmp .ne 71, 3) := by decide +kernel
theorem dX9_isWordAt_34 : decode cX9_isWordAt 34 = .ok (.aload_n 0, 1) := by decide +kernel
theorem dX9_isWordAt_35 : decode cX9_isWordAt 35 = .ok (.getfield 49, 3) := by decide +kernel
theorem dX9_isWordAt_38 : decode cX9_isWordAt 38 = .ok (.aload_n 0, 1) := by decide +kernel
theorem dX9_isWordAt_39 : decode cX9_isWordAt 39 = .ok (.getfield 209, 3) := by decide +kernel
theorem dX9_isWordAt_42 : decode cX9_isWordAt 42 = .ok (.iaload, 1) := by decide +kernel
theorem dX9_isWordAt_43 : decode cX9_isWordAt 43 = .ok (.iload_n 1, 1) := by decide +kernel
theorem dX9_isWordAt_44 : decode cX9_isWordAt 44 = .ok (.if_icmp .ne 58, 3) := by decide +kernel
theorem dX9_isWordAt_47 : decode cX9_isWordAt 47 = .ok (.aload_n 0, 1) := by decide +kernel
theorem dX9_isWordAt_48 : decode cX9_isWordAt 48 = .ok (.getfield 49, 3) := by decide +kernel
theorem dX9_isWordAt_51 : decode cX9_isWordAt 51 = .ok (.aload_n 0, 1) := by decide +kernel
theorem dX9_isWordAt_52 : decode cX9_isWordAt 52 = .ok (.getfield 209, 3) := by decide +kernel
theorem dX9_isWordAt_55 : decode cX9_isWordAt 55 = .ok (.iconst 1, 1) := by decide +kernel
theorem dX9_isWordAt_56 : decode cX9_isWordAt 56 = .ok (.iadd, 1) := by decide +kernel
theorem dX9_isWordAt_57 : decode cX9_isWordAt 57 = .ok (.iaload, 1) := by decide +kernel
theorem dX9_isWordAt_58 : decode cX9_isWordAt 58 = .ok (.iload_n 2, 1) := by decide +kernel
theorem dX9_isWordAt_59 : decode cX9_isWordAt 59 = .ok (.if_icmp .ne 43, 3) := by decide +kernel
theorem dX9_isWordAt_62 : decode cX9_isWordAt 62 = .ok (.aload_n 0, 1) := by decide +kernel
theorem dX9_isWordAt_63 : decode cX9_isWordAt 63 = .ok (.getfield 49, 3) := by decide +kernel
theorem dX9_isWordAt_66 : decode cX9_isWordAt 66 = .ok (.aload_n 0, 1) := by decide +kernel
theorem dX9_isWordAt_67 : decode cX9_isWordAt 67 = .ok (.getfield 209, 3) := by decide +kernel
theorem dX9_isWordAt_70 : decode cX9_isWordAt 70 = .ok (.iconst 2, 1) := by decide +kernel
theorem dX9_isWordAt_71 : decode cX9_isWordAt 71 = .ok (.iadd, 1) := by decide +kernel
theorem dX9_isWordAt_72 : decode cX9_isWordAt 72 = .ok (.iaload, 1) := by decide +kernel
theorem dX9_isWordAt_73 : decode cX9_isWordAt 73 = .ok (.iload_n 3, 1) := by decide +kernel
theorem dX9_isWordAt_74 : decode cX9_isWordAt 74 = .ok (.if_icmp .ne 28, 3) := by decide +kernel
theorem dX9_isWordAt_77 : decode cX9_isWordAt 77 = .ok (.iload 4, 2) := by decide +kernel
theorem dX9_isWordAt_79 : decode cX9_isWordAt 79 = .ok (.ifCond .eq 19, 3) := by decide +kernel
theorem dX9_isWordAt_82 : decode cX9_isWordAt 82 = .ok (.aload_n 0, 1) := by decide +kernel
theorem dX9_isWordAt_83 : decode cX9_isWordAt 83 = .ok (.getfield 49, 3) := by decide +kernel
theorem dX9_isWordAt_86 : decode cX9_isWordAt 86 = .ok (.aload_n 0, 1) := by decide +kernel
theorem dX9_isWordAt_87 : decode cX9_isWordAt 87 = .ok (.getfield 209, 3) := by decide +kernel
theorem dX9_isWordAt_90 : decode cX9_isWordAt 90 = .ok (.iconst 3, 1) := by decide +kernel
theorem dX9_isWordAt_91 : decode cX9_isWordAt 91 = .ok (.iadd, 1) := by decide +kernel
theorem dX9_isWordAt_92 : decode cX9_isWordAt 92 = .ok (.iaload, 1) := by decide +kernel
theorem dX9_isWordAt_93 : decode cX9_isWordAt 93 = .ok (.iload 4, 2) := by decide +kernel
theorem dX9_isWordAt_95 : decode cX9_isWordAt 95 = .ok (.if_icmp .ne 7, 3) := by decide +kernel
theorem dX9_isWordAt_98 : decode cX9_isWordAt 98 = .ok (.iconst 1, 1) := by decide +kernel
theorem dX9_isWordAt_99 : decode cX9_isWordAt 99 = .ok (.goto 4, 3) := by decide +kernel
theorem dX9_isWordAt_102 : decode cX9_isWordAt 102 = .ok (.iconst 0, 1) := by decide +kernel
theorem dX9_isWordAt_103 : decode cX9_isWordAt 103 = .ok (.ireturn, 1) := by decide +kernel
theorem dX9_isLong_0 : decode cX9_isLong 0 = .ok (.iload 6, 2) := by decide +kernel
theorem dX9_isLong_2 : decode cX9_isLong 2 = .ok (.ifCond .ne 7, 3) := by decide +kernel
theorem dX9_isLong_5 : decode cX9_isLong 5 = .ok (.iconst 5, 1) := by decide +kernel
theorem dX9_isLong_6 : decode cX9_isLong 6 = .ok (.goto 5, 3) := by decide +kernel
theorem dX9_isLong_9 : decode cX9_isLong 9 = .ok (.bipush 6, 2) := by decide +kernel
theorem dX9_isLong_11 : decode cX9_isLong 11 = .ok (.istore 7, 2) := by decide +kernel
theorem dX9_isLong_13 : decode cX9_isLong 13 = .ok (.aload_n 0, 1) := by decide +kernel
theorem dX9_isLong_14 : decode cX9_isLong 14 = .ok (.getfield 206, 3) := by decide +kernel
theorem dX9_isLong_17 : decode cX9_isLong 17 = .ok (.iconst 1, 1) := by decide +kernel
theorem dX9_isLong_18 : decode cX9_isLong 18 = .ok (.if_icmp .ne 117, 3) := by decide +kernel
theorem dX9_isLong_21 : decode cX9_isLong 21 = .ok (.aload_n 0, 1) := by decide +kernel
theorem dX9_isLong_22 : decode cX9_isLong 22 = .ok (.getfield 203, 3) := by decide +kernel
theorem dX9_isLong_25 : decode cX9_isLong 25 = .ok (.aload_n 0, 1) := by decide +kernel
theorem dX9_isLong_26 : decode cX9_isLong 26 = .ok (.getfield 209, 3) := by decide +kernel
theorem dX9_isLong_29 : decode cX9_isLong 29 = .ok (.isub, 1) := by decide +kernel
theorem dX9_isLong_30 : decode cX9_isLong 30 = .ok (.iload 7, 2) := by decide +kernel
theorem dX9_isLong_32 : decode cX9_isLong 32 = .ok (.if_icmp .ne 103, 3) := by decide +kernel
theorem dX9_isLong_35 : decode cX9_isLong 35 = .ok (.aload_n 0, 1) := by decide +kernel
theorem dX9_isLong_36 : decode cX9_isLong 36 = .ok (.getfield 49, 3) := by decide +kernel
theorem dX9_isLong_39 : decode cX9_isLong 39 = .ok (.aload_n 0, 1) := by decide +kernel
theorem dX9_isLong_40 : decode cX9_isLong 40 = .ok (.getfield 209, 3) := by decide +kernel
theorem dX9_isLong_43 : decode cX9_isLong 43 = .ok (.iaload, 1) := by decide +kernel
theorem dX9_isLong_44 : decode cX9_isLong 44 = .ok (.iload_n 1, 1) := by decide +kernel
theorem dX9_isLong_45 : decode cX9_isLong 45 = .ok (.if_icmp .ne 90, 3) := by decide +kernel
theorem dX9_isLong_48 : decode cX9_isLong 48 = .ok (.aload_n 0, 1) := by decide +kernel
theorem dX9_isLong_49 : decode cX9_isLong 49 = .ok (.getfield 49, 3) := by decide +kernel
theorem dX9_isLong_52 : decode cX9_isLong 52 = .ok (.aload_n 0, 1) := by decide +kernel
theorem dX9_isLong_53 : decode cX9_isLong 53 = .ok (.getfield 209, 3) := by decide +kernel
theorem dX9_isLong_56 : decode cX9_isLong 56 = .ok (.iconst 1, 1) := by decide +kernel
theorem dX9_isLong_57 : decode cX9_isLong 57 = .ok (.iadd, 1) := by decide +kernel
theorem dX9_isLong_58 : decode cX9_isLong 58 = .ok (.iaload, 1) := by decide +kernel
theorem dX9_isLong_59 : decode cX9_isLong 59 = .ok (.iload_n 2, 1) := by decide +kernel
theorem dX9_isLong_60 : decode cX9_isLong 60 = .ok (.if_icmp .ne 75, 3) := by decide +kernel
theorem dX9_isLong_63 : decode cX9_isLong 63 = .ok (.aload_n 0, 1) := by decide +kernel
theorem dX9_isLong_64 : decode cX9_isLong 64 = .ok (.getfield 49, 3) := by decide +kernel
theorem dX9_isLong_67 : decode cX9_isLong 67 = .ok (.aload_n 0, 1) := by decide +kernel
theorem dX9_isLong_68 : decode cX9_isLong 68 = .ok (.getfield 209, 3) := by decide +kernel
theorem dX9_isLong_71 : decode cX9_isLong 71 = .ok (.iconst 2, 1) := by decide +kernel
theorem dX9_isLong_72 : decode cX9_isLong 72 = .ok (.iadd, 1) := by decide +kernel
theorem dX9_isLong_73 : decode cX9_isLong 73 = .ok (.iaload, 1) := by decide +kernel
theorem dX9_isLong_74 : decode cX9_isLong 74 = .ok (.iload_n 3, 1) := by decide +kernel
theorem dX9_isLong_75 : decode cX9_isLong 75 = .ok (.if_icmp .ne 60, 3) := by decide +kernel
theorem dX9_isLong_78 : decode cX9_isLong 78 = .ok (.aload_n 0, 1) := by decide +kernel
theorem dX9_isLong_79 : decode cX9_isLong 79 = .ok (.getfield 49, 3) := by decide +kernel
theorem dX9_isLong_82 : decode cX9_isLong 82 = .ok (.aload_n 0, 1) := by decide +kernel
theorem dX9_isLong_83 : decode cX9_isLong 83 = .ok (.getfield 209, 3) := by decide +kernel
theorem dX9_isLong_86 : decode cX9_isLong 86 = .ok (.iconst 3, 1) := by decide +kernel
theorem dX9_isLong_87 : decode cX9_isLong 87 = .ok (.iadd, 1) := by decide +kernel
theorem dX9_isLong_88 : decode cX9_isLong 88 = .ok (.iaload, 1) := by decide +kernel
theorem dX9_isLong_89 : decode cX9_isLong 89 = .ok (.iload 4, 2) := by decide +kernel
theorem dX9_isLong_91 : decode cX9_isLong 91 = .ok (.if_icmp .ne 44, 3) := by decide +kernel
theorem dX9_isLong_94 : decode cX9_isLong 94 = .ok (.aload_n 0, 1) := by decide +kernel
theorem dX9_isLong_95 : decode cX9_isLong 95 = .ok (.getfield 49, 3) := by decide +kernel
theorem dX9_isLong_98 : decode cX9_isLong 98 = .ok (.aload_n 0, 1) := by decide +kernel
theorem dX9_isLong_99 : decode cX9_isLong 99 = .ok (.getfield 209, 3) := by decide +kernel
theorem dX9_isLong_102 : decode cX9_isLong 102 = .ok (.iconst 4, 1) := by decide +kernel
theorem dX9_isLong_103 : decode cX9_isLong 103 = .ok (.iadd, 1) := by decide +kernel
theorem dX9_isLong_104 : decode cX9_isLong 104 = .ok (.iaload, 1) := by decide +kernel
theorem dX9_isLong_105 : decode cX9_isLong 105 = .ok (.iload 5, 2) := by decide +kernel
theorem dX9_isLong_107 : decode cX9_isLong 107 = .ok (.if_icmp .ne 28, 3) := by decide +kernel
theorem dX9_isLong_110 : decode cX9_isLong 110 = .ok (.iload 6, 2) := by decide +kernel
theorem dX9_isLong_112 : decode cX9_isLong 112 = .ok (.ifCond .eq 19, 3) := by decide +kernel
theorem dX9_isLong_115 : decode cX9_isLong 115 = .ok (.aload_n 0, 1) := by decide +kernel
theorem dX9_isLong_116 : decode cX9_isLong 116 = .ok (.getfield 49, 3) := by decide +kernel
theorem dX9_isLong_119 : decode cX9_isLong 119 = .ok (.aload_n 0, 1) := by decide +kernel
theorem dX9_isLong_120 : decode cX9_isLong 120 = .ok (.getfield 209, 3) := by decide +kernel
theorem dX9_isLong_123 : decode cX9_isLong 123 = .ok (.iconst 5, 1) := by decide +kernel
theorem dX9_isLong_124 : decode cX9_isLong 124 = .ok (.iadd, 1) := by decide +kernel
theorem dX9_isLong_125 : decode cX9_isLong 125 = .ok (.iaload, 1) := by decide +kernel
theorem dX9_isLong_126 : decode cX9_isLong 126 = .ok (.iload 6, 2) := by decide +kernel
theorem dX9_isLong_128 : decode cX9_isLong 128 = .ok (.if_icmp .ne 7, 3) := by decide +kernel
theorem dX9_isLong_131 : decode cX9_isLong 131 = .ok (.iconst 1, 1) := by decide +kernel
theorem dX9_isLong_132 : decode cX9_isLong 132 = .ok (.goto 4, 3) := by decide +kernel
theorem dX9_isLong_135 : decode cX9_isLong 135 = .ok (.iconst 0, 1) := by decide +kernel
theorem dX9_isLong_136 : decode cX9_isLong 136 = .ok (.ireturn, 1) := by decide +kernel
theorem dX9_key_0 : decode cX9_key 0 = .ok (.aload_n 0, 1) := by decide +kernel
theorem dX9_key_1 : decode cX9_key 1 = .ok (.bipush 97, 2) := by decide +kernel
theorem dX9_key_3 : decode cX9_key 3 = .ok (.bipush 103, 2) := by decide +kernel
theorem dX9_key_5 : decode cX9_key 5 = .ok (.bipush 97, 2) := by decide +kernel
theorem dX9_key_7 : decode cX9_key 7 = .ok (.bipush 105, 2) := by decide +kernel
theorem dX9_key_9 : decode cX9_key 9 = .ok (.bipush 110, 2) := by decide +kernel
theorem dX9_key_11 : decode cX9_key 11 = .ok (.iconst 0, 1) := by decide +kernel
theorem dX9_key_12 : decode cX9_key 12 = .ok (.invokevirtual 224, 3) := by decide +kernel
theorem dX9_key_15 : decode cX9_key 15 = .ok (.ifCond .eq 5, 3) := by decide +kernel
theorem dX9_key_18 : decode cX9_key 18 = .ok (.iconst 0, 1) := by decide +kernel
theorem dX9_key_19 : decode cX9_key 19 = .ok (.ireturn, 1) := by decide +kernel
theorem dX9_key_20 : decode cX9_key 20 = .ok (.aload_n 0, 1) := by decide +kernel
theorem dX9_key_21 : decode cX9_key 21 = .ok (.bipush 102, 2) := by decide +kernel
theorem dX9_key_23 : decode cX9_key 23 = .ok (.bipush 101, 2) := by decide +kernel
theorem dX9_key_25 : decode cX9_key 25 = .ok (.bipush 101, 2) := by decide +kernel
theorem dX9_key_27 : decode cX9_key 27 = .ok (.iconst 0, 1) := by decide +kernel
theorem dX9_key_28 : decode cX9_key 28 = .ok (.invokevirtual 228, 3) := by decide +kernel
theorem dX9_key_31 : decode cX9_key 31 = .ok (.ifCond .eq 5, 3) := by decide +kernel
theorem dX9_key_34 : decode cX9_key 34 = .ok (.iconst 1, 1) := by decide +kernel
theorem dX9_key_35 : decode cX9_key 35 = .ok (.ireturn, 1) := by decide +kernel
theorem dX9_key_36 : decode cX9_key 36 = .ok (.aload_n 0, 1) := by decide +kernel
theorem dX9_key_37 : decode cX9_key 37 = .ok (.bipush 102, 2) := by decide +kernel
theorem dX9_key_39 : decode cX9_key 39 = .ok (.bipush 105, 2) := by decide +kernel
theorem dX9_key_41 : decode cX9_key 41 = .ok (.bipush 110, 2) := by decide +kernel
theorem dX9_key_43 : decode cX9_key 43 = .ok (.bipush 101, 2) := by decide +kernel
theorem dX9_key_45 : decode cX9_key 45 = .ok (.invokevirtual 228, 3) := by decide +kernel
theorem dX9_key_48 : decode cX9_key 48 = .ok (.ifCond .eq 7, 3) := by decide +kernel
theorem dX9_key_51 : decode cX9_key 51 = .ok (.iconst 2, 1) := by decide +kernel
theorem dX9_key_52 : decode cX9_key 52 = .ok (.goto 4, 3) := by decide +kernel
theorem dX9_key_55 : decode cX9_key 55 = .ok (.iconst (-1), 1) := by decide +kernel
theorem dX9_key_56 : decode cX9_key 56 = .ok (.ireturn, 1) := by decide +kernel
theorem dX9_isName_0 : decode cX9_isName 0 = .ok (.iload_n 0, 1) := by decide +kernel
theorem dX9_isName_1 : decode cX9_isName 1 = .ok (.lookupswitch 69 #[(0, 27), (1, 51)], 27) := by decide +kernel
theorem dX9_isName_28 : decode cX9_isName 28 = .ok (.iload_n 1, 1) := by decide +kernel
theorem dX9_isName_29 : decode cX9_isName 29 = .ok (.bipush 111, 2) := by decide +kernel
theorem dX9_isName_31 : decode cX9_isName 31 = .ok (.if_icmp .eq 15, 3) := by decide +kernel
theorem dX9_isName_34 : decode cX9_isName 34 = .ok (.iload_n 1, 1) := by decide +kernel
theorem dX9_isName_35 : decode cX9_isName 35 = .ok (.bipush 116, 2) := by decide +kernel
theorem dX9_isName_37 : decode cX9_isName 37 = .ok (.if_icmp .eq 9, 3) := by decide +kernel
theorem dX9_isName_40 : decode cX9_isName 40 = .ok (.iload_n 1, 1) := by decide +kernel
theorem dX9_isName_41 : decode cX9_isName 41 = .ok (.bipush 104, 2) := by decide +kernel
theorem dX9_isName_43 : decode cX9_isName 43 = .ok (.if_icmp .ne 7, 3) := by decide +kernel
theorem dX9_isName_46 : decode cX9_isName 46 = .ok (.iconst 1, 1) := by decide +kernel
theorem dX9_isName_47 : decode cX9_isName 47 = .ok (.goto 4, 3) := by decide +kernel
theorem dX9_isName_50 : decode cX9_isName 50 = .ok (.iconst 0, 1) := by decide +kernel
theorem dX9_isName_51 : decode cX9_isName 51 = .ok (.ireturn, 1) := by decide +kernel
theorem dX9_isName_52 : decode cX9_isName 52 = .ok (.iload_n 1, 1) := by decide +kernel
theorem dX9_isName_53 : decode cX9_isName 53 = .ok (.bipush 101, 2) := by decide +kernel
theorem dX9_isName_55 : decode cX9_isName 55 = .ok (.if_icmp .eq 9, 3) := by decide +kernel
theorem dX9_isName_58 : decode cX9_isName 58 = .ok (.iload_n 1, 1) := by decide +kernel
theorem dX9_isName_59 : decode cX9_isName 59 = .ok (.bipush 109, 2) := by decide +kernel
theorem dX9_isName_61 : decode cX9_isName 61 = .ok (.if_icmp .ne 7, 3) := by decide +kernel
theorem dX9_isName_64 : decode cX9_isName 64 = .ok (.iconst 1, 1) := by decide +kernel
theorem dX9_isName_65 : decode cX9_isName 65 = .ok (.goto 4, 3) := by decide +kernel
theorem dX9_isName_68 : decode cX9_isName 68 = .ok (.iconst 0, 1) := by decide +kernel
theorem dX9_isName_69 : decode cX9_isName 69 = .ok (.ireturn, 1) := by decide +kernel
theorem dX9_isName_70 : decode cX9_isName 70 = .ok (.iload_n 1, 1) := by decide +kernel
theorem dX9_isName_71 : decode cX9_isName 71 = .ok (.bipush 111, 2) := by decide +kernel
theorem dX9_isName_73 : decode cX9_isName 73 = .ok (.if_icmp .eq 9, 3) := by decide +kernel
theorem dX9_isName_76 : decode cX9_isName 76 = .ok (.iload_n 1, 1) := by decide +kernel
theorem dX9_isName_77 : decode cX9_isName 77 = .ok (.bipush 116, 2) := by decide +kernel
theorem dX9_isName_79 : decode cX9_isName 79 = .ok (.if_icmp .ne 7, 3) := by decide +kernel
theorem dX9_isName_82 : decode cX9_isName 82 = .ok (.iconst 1, 1) := by decide +kernel
theorem dX9_isName_83 : decode cX9_isName 83 = .ok (.goto 4, 3) := by decide +kernel
theorem dX9_isName_86 : decode cX9_isName 86 = .ok (.iconst 0, 1) := by decide +kernel
theorem dX9_isName_87 : decode cX9_isName 87 = .ok (.ireturn, 1) := by decide +kernel
theorem dX9_step_0 : decode cX9_step 0 = .ok (.aload_n 0, 1) := by decide +kernel
theorem dX9_step_1 : decode cX9_step 1 = .ok (.getfield 7, 3) := by decide +kernel
theorem dX9_step_4 : decode cX9_step 4 = .ok (.aload_n 0, 1) := by decide +kernel
theorem dX9_step_5 : decode cX9_step 5 = .ok (.getfield 232, 3) := by decide +kernel
theorem dX9_step_8 : decode cX9_step 8 = .ok (.iconst 2, 1) := by decide +kernel
theorem dX9_step_9 : decode cX9_step 9 = .ok (.aload_n 0, 1) := by decide +kernel
theorem dX9_step_10 : decode cX9_step 10 = .ok (.getfield 235, 3) := by decide +kernel
theorem dX9_step_13 : decode cX9_step 13 = .ok (.imul, 1) := by decide +kernel
theorem dX9_step_14 : decode cX9_step 14 = .ok (.iadd, 1) := by decide +kernel
theorem dX9_step_15 : decode cX9_step 15 = .ok (.iload_n 1, 1) := by decide +kernel
theorem dX9_step_16 : decode cX9_step 16 = .ok (.iastore, 1) := by decide +kernel
theorem dX9_step_17 : decode cX9_step 17 = .ok (.aload_n 0, 1) := by decide +kernel
theorem dX9_step_18 : decode cX9_step 18 = .ok (.getfield 7, 3) := by decide +kernel
theorem dX9_step_21 : decode cX9_step 21 = .ok (.aload_n 0, 1) := by decide +kernel
theorem dX9_step_22 : decode cX9_step 22 = .ok (.getfield 232, 3) := by decide +kernel
theorem dX9_step_25 : decode cX9_step 25 = .ok (.iconst 2, 1) := by decide +kernel
theorem dX9_step_26 : decode cX9_step 26 = .ok (.aload_n 0, 1) := by decide +kernel
theorem dX9_step_27 : decode cX9_step 27 = .ok (.getfield 235, 3) := by decide +kernel
theorem dX9_step_30 : decode cX9_step 30 = .ok (.imul, 1) := by decide +kernel
theorem dX9_step_31 : decode cX9_step 31 = .ok (.iadd, 1) := by decide +kernel
theorem dX9_step_32 : decode cX9_step 32 = .ok (.iconst 1, 1) := by decide +kernel
theorem dX9_step_33 : decode cX9_step 33 = .ok (.iadd, 1) := by decide +kernel
theorem dX9_step_34 : decode cX9_step 34 = .ok (.iload_n 2, 1) := by decide +kernel
theorem dX9_step_35 : decode cX9_step 35 = .ok (.iastore, 1) := by decide +kernel
theorem dX9_step_36 : decode cX9_step 36 = .ok (.aload_n 0, 1) := by decide +kernel
theorem dX9_step_37 : decode cX9_step 37 = .ok (.dup, 1) := by decide +kernel
theorem dX9_step_38 : decode cX9_step 38 = .ok (.getfield 235, 3) := by decide +kernel
theorem dX9_step_41 : decode cX9_step 41 = .ok (.iconst 1, 1) := by decide +kernel
theorem dX9_step_42 : decode cX9_step 42 = .ok (.iadd, 1) := by decide +kernel
theorem dX9_step_43 : decode cX9_step 43 = .ok (.putfield 235, 3) := by decide +kernel
theorem dX9_step_46 : decode cX9_step 46 = .ok (.return_, 1) := by decide +kernel
theorem dX9_either_0 : decode cX9_either 0 = .ok (.aload_n 0, 1) := by decide +kernel
theorem dX9_either_1 : decode cX9_either 1 = .ok (.iload_n 1, 1) := by decide +kernel
theorem dX9_either_2 : decode cX9_either 2 = .ok (.invokevirtual 238, 3) := by decide +kernel
theorem dX9_either_5 : decode cX9_either 5 = .ok (.ifCond .ne 5, 3) := by decide +kernel
theorem dX9_either_8 : decode cX9_either 8 = .ok (.iconst 0, 1) := by decide +kernel
theorem dX9_either_9 : decode cX9_either 9 = .ok (.ireturn, 1) := by decide +kernel
theorem dX9_either_10 : decode cX9_either 10 = .ok (.aload_n 0, 1) := by decide +kernel
theorem dX9_either_11 : decode cX9_either 11 = .ok (.bipush 124, 2) := by decide +kernel
theorem dX9_either_13 : decode cX9_either 13 = .ok (.invokevirtual 241, 3) := by decide +kernel
theorem dX9_either_16 : decode cX9_either 16 = .ok (.ifCond .eq 27, 3) := by decide +kernel
theorem dX9_either_19 : decode cX9_either 19 = .ok (.aload_n 0, 1) := by decide +kernel
theorem dX9_either_20 : decode cX9_either 20 = .ok (.invokevirtual 244, 3) := by decide +kernel
theorem dX9_either_23 : decode cX9_either 23 = .ok (.aload_n 0, 1) := by decide +kernel
theorem dX9_either_24 : decode cX9_either 24 = .ok (.iload_n 1, 1) := by decide +kernel
theorem dX9_either_25 : decode cX9_either 25 = .ok (.invokevirtual 238, 3) := by decide +kernel
theorem dX9_either_28 : decode cX9_either 28 = .ok (.ifCond .ne 5, 3) := by decide +kernel
theorem dX9_either_31 : decode cX9_either 31 = .ok (.iconst 0, 1) := by decide +kernel
theorem dX9_either_32 : decode cX9_either 32 = .ok (.ireturn, 1) := by decide +kernel
theorem dX9_either_33 : decode cX9_either 33 = .ok (.aload_n 0, 1) := by decide +kernel
theorem dX9_either_34 : decode cX9_either 34 = .ok (.iconst 2, 1) := by decide +kernel
theorem dX9_either_35 : decode cX9_either 35 = .ok (.bipush 124, 2) := by decide +kernel
theorem dX9_either_37 : decode cX9_either 37 = .ok (.invokevirtual 247, 3) := by decide +kernel
theorem dX9_either_40 : decode cX9_either 40 = .ok (.goto (-30), 3) := by decide +kernel
theorem dX9_either_43 : decode cX9_either 43 = .ok (.iconst 1, 1) := by decide +kernel
theorem dX9_either_44 : decode cX9_either 44 = .ok (.ireturn, 1) := by decide +kernel
theorem dX9_both_0 : decode cX9_both 0 = .ok (.aload_n 0, 1) := by decide +kernel
theorem dX9_both_1 : decode cX9_both 1 = .ok (.iload_n 1, 1) := by decide +kernel
theorem dX9_both_2 : decode cX9_both 2 = .ok (.invokevirtual 250, 3) := by decide +kernel
theorem dX9_both_5 : decode cX9_both 5 = .ok (.ifCond .ne 5, 3) := by decide +kernel
theorem dX9_both_8 : decode cX9_both 8 = .ok (.iconst 0, 1) := by decide +kernel
theorem dX9_both_9 : decode cX9_both 9 = .ok (.ireturn, 1) := by decide +kernel
theorem dX9_both_10 : decode cX9_both 10 = .ok (.aload_n 0, 1) := by decide +kernel
theorem dX9_both_11 : decode cX9_both 11 = .ok (.bipush 38, 2) := by decide +kernel
theorem dX9_both_13 : decode cX9_both 13 = .ok (.invokevirtual 241, 3) := by decide +kernel
theorem dX9_both_16 : decode cX9_both 16 = .ok (.ifCond .eq 27, 3) := by decide +kernel
theorem dX9_both_19 : decode cX9_both 19 = .ok (.aload_n 0, 1) := by decide +kernel
theorem dX9_both_20 : decode cX9_both 20 = .ok (.invokevirtual 244, 3) := by decide +kernel
theorem dX9_both_23 : decode cX9_both 23 = .ok (.aload_n 0, 1) := by decide +kernel
theorem dX9_both_24 : decode cX9_both 24 = .ok (.iload_n 1, 1) := by decide +kernel
theorem dX9_both_25 : decode cX9_both 25 = .ok (.invokevirtual 250, 3) := by decide +kernel
theorem dX9_both_28 : decode cX9_both 28 = .ok (.ifCond .ne 5, 3) := by decide +kernel
theorem dX9_both_31 : decode cX9_both 31 = .ok (.iconst 0, 1) := by decide +kernel
theorem dX9_both_32 : decode cX9_both 32 = .ok (.ireturn, 1) := by decide +kernel
theorem dX9_both_33 : decode cX9_both 33 = .ok (.aload_n 0, 1) := by decide +kernel
theorem dX9_both_34 : decode cX9_both 34 = .ok (.iconst 2, 1) := by decide +kernel
theorem dX9_both_35 : decode cX9_both 35 = .ok (.bipush 38, 2) := by decide +kernel
theorem dX9_both_37 : decode cX9_both 37 = .ok (.invokevirtual 247, 3) := by decide +kernel
theorem dX9_both_40 : decode cX9_both 40 = .ok (.goto (-30), 3) := by decide +kernel
theorem dX9_both_43 : decode cX9_both 43 = .ok (.iconst 1, 1) := by decide +kernel
theorem dX9_both_44 : decode cX9_both 44 = .ok (.ireturn, 1) := by decide +kernel
theorem dX9_test_0 : decode cX9_test 0 = .ok (.aload_n 0, 1) := by decide +kernel
theorem dX9_test_1 : decode cX9_test 1 = .ok (.iload_n 1, 1) := by decide +kernel
theorem dX9_test_2 : decode cX9_test 2 = .ok (.invokevirtual 253, 3) := by decide +kernel
theorem dX9_test_5 : decode cX9_test 5 = .ok (.ifCond .ne 5, 3) := by decide +kernel
theorem dX9_test_8 : decode cX9_test 8 = .ok (.iconst 0, 1) := by decide +kernel
theorem dX9_test_9 : decode cX9_test 9 = .ok (.ireturn, 1) := by decide +kernel
theorem dX9_test_10 : decode cX9_test 10 = .ok (.aload_n 0, 1) := by decide +kernel
theorem dX9_test_11 : decode cX9_test 11 = .ok (.bipush 60, 2) := by decide +kernel
theorem dX9_test_13 : decode cX9_test 13 = .ok (.invokevirtual 241, 3) := by decide +kernel
theorem dX9_test_16 : decode cX9_test 16 = .ok (.ifCond .ne 21, 3) := by decide +kernel
theorem dX9_test_19 : decode cX9_test 19 = .ok (.aload_n 0, 1) := by decide +kernel
theorem dX9_test_20 : decode cX9_test 20 = .ok (.bipush 61, 2) := by decide +kernel
theorem dX9_test_22 : decode cX9_test 22 = .ok (.invokevirtual 241, 3) := by decide +kernel
theorem dX9_test_25 : decode cX9_test 25 = .ok (.ifCond .ne 12, 3) := by decide +kernel
theorem dX9_test_28 : decode cX9_test 28 = .ok (.aload_n 0, 1) := by decide +kernel
theorem dX9_test_29 : decode cX9_test 29 = .ok (.bipush 62, 2) := by decide +kernel
theorem dX9_test_31 : decode cX9_test 31 = .ok (.invokevirtual 241, 3) := by decide +kernel
theorem dX9_test_34 : decode cX9_test 34 = .ok (.ifCond .eq 28, 3) := by decide +kernel
theorem dX9_test_37 : decode cX9_test 37 = .ok (.aload_n 0, 1) := by decide +kernel
theorem dX9_test_38 : decode cX9_test 38 = .ok (.getfield 215, 3) := by decide +kernel
theorem dX9_test_41 : decode cX9_test 41 = .ok (.istore_n 2, 1) := by decide +kernel
theorem dX9_test_42 : decode cX9_test 42 = .ok (.aload_n 0, 1) := by decide +kernel
theorem dX9_test_43 : decode cX9_test 43 = .ok (.invokevirtual 244, 3) := by decide +kernel
theorem dX9_test_46 : decode cX9_test 46 = .ok (.aload_n 0, 1) := by decide +kernel
theorem dX9_test_47 : decode cX9_test 47 = .ok (.iload_n 1, 1) := by decide +kernel
theorem dX9_test_48 : decode cX9_test 48 = .ok (.invokevirtual 253, 3) := by decide +kernel
theorem dX9_test_51 : decode cX9_test 51 = .ok (.ifCond .ne 5, 3) := by decide +kernel
theorem dX9_test_54 : decode cX9_test 54 = .ok (.iconst 0, 1) := by decide +kernel
theorem dX9_test_55 : decode cX9_test 55 = .ok (.ireturn, 1) := by decide +kernel
theorem dX9_test_56 : decode cX9_test 56 = .ok (.aload_n 0, 1) := by decide +kernel
theorem dX9_test_57 : decode cX9_test 57 = .ok (.iconst 2, 1) := by decide +kernel
theorem dX9_test_58 : decode cX9_test 58 = .ok (.iload_n 2, 1) := by decide +kernel
theorem dX9_test_59 : decode cX9_test 59 = .ok (.invokevirtual 247, 3) := by decide +kernel
theorem dX9_test_62 : decode cX9_test 62 = .ok (.iconst 1, 1) := by decide +kernel
theorem dX9_test_63 : decode cX9_test 63 = .ok (.ireturn, 1) := by decide +kernel
theorem dX9_sum_0 : decode cX9_sum 0 = .ok (.aload_n 0, 1) := by decide +kernel
theorem dX9_sum_1 : decode cX9_sum 1 = .ok (.iload_n 1, 1) := by decide +kernel
theorem dX9_sum_2 : decode cX9_sum 2 = .ok (.invokevirtual 256, 3) := by decide +kernel
theorem dX9_sum_5 : decode cX9_sum 5 = .ok (.ifCond .ne 5, 3) := by decide +kernel
theorem dX9_sum_8 : decode cX9_sum 8 = .ok (.iconst 0, 1) := by decide +kernel
theorem dX9_sum_9 : decode cX9_sum 9 = .ok (.ireturn, 1) := by decide +kernel
theorem dX9_sum_10 : decode cX9_sum 10 = .ok (.aload_n 0, 1) := by decide +kernel
theorem dX9_sum_11 : decode cX9_sum 11 = .ok (.bipush 43, 2) := by decide +kernel
theorem dX9_sum_13 : decode cX9_sum 13 = .ok (.invokevirtual 241, 3) := by decide +kernel
theorem dX9_sum_16 : decode cX9_sum 16 = .ok (.ifCond .ne 12, 3) := by decide +kernel
theorem dX9_sum_19 : decode cX9_sum 19 = .ok (.aload_n 0, 1) := by decide +kernel
theorem dX9_sum_20 : decode cX9_sum 20 = .ok (.bipush 45, 2) := by decide +kernel
theorem dX9_sum_22 : decode cX9_sum 22 = .ok (.invokevirtual 241, 3) := by decide +kernel
theorem dX9_sum_25 : decode cX9_sum 25 = .ok (.ifCond .eq 31, 3) := by decide +kernel
theorem dX9_sum_28 : decode cX9_sum 28 = .ok (.aload_n 0, 1) := by decide +kernel
theorem dX9_sum_29 : decode cX9_sum 29 = .ok (.getfield 215, 3) := by decide +kernel
theorem dX9_sum_32 : decode cX9_sum 32 = .ok (.istore_n 2, 1) := by decide +kernel
theorem dX9_sum_33 : decode cX9_sum 33 = .ok (.aload_n 0, 1) := by decide +kernel
theorem dX9_sum_34 : decode cX9_sum 34 = .ok (.invokevirtual 244, 3) := by decide +kernel
theorem dX9_sum_37 : decode cX9_sum 37 = .ok (.aload_n 0, 1) := by decide +kernel
theorem dX9_sum_38 : decode cX9_sum 38 = .ok (.iload_n 1, 1) := by decide +kernel
theorem dX9_sum_39 : decode cX9_sum 39 = .ok (.invokevirtual 256, 3) := by decide +kernel
theorem dX9_sum_42 : decode cX9_sum 42 = .ok (.ifCond .ne 5, 3) := by decide +kernel
theorem dX9_sum_45 : decode cX9_sum 45 = .ok (.iconst 0, 1) := by decide +kernel
theorem dX9_sum_46 : decode cX9_sum 46 = .ok (.ireturn, 1) := by decide +kernel
theorem dX9_sum_47 : decode cX9_sum 47 = .ok (.aload_n 0, 1) := by decide +kernel
theorem dX9_sum_48 : decode cX9_sum 48 = .ok (.iconst 2, 1) := by decide +kernel
theorem dX9_sum_49 : decode cX9_sum 49 = .ok (.iload_n 2, 1) := by decide +kernel
theorem dX9_sum_50 : decode cX9_sum 50 = .ok (.invokevirtual 247, 3) := by decide +kernel
theorem dX9_sum_53 : decode cX9_sum 53 = .ok (.goto (-43), 3) := by decide +kernel
theorem dX9_sum_56 : decode cX9_sum 56 = .ok (.iconst 1, 1) := by decide +kernel
theorem dX9_sum_57 : decode cX9_sum 57 = .ok (.ireturn, 1) := by decide +kernel
theorem dX9_term_0 : decode cX9_term 0 = .ok (.aload_n 0, 1) := by decide +kernel
theorem dX9_term_1 : decode cX9_term 1 = .ok (.iload_n 1, 1) := by decide +kernel
theorem dX9_term_2 : decode cX9_term 2 = .ok (.invokevirtual 259, 3) := by decide +kernel
theorem dX9_term_5 : decode cX9_term 5 = .ok (.ifCond .ne 5, 3) := by decide +kernel
theorem dX9_term_8 : decode cX9_term 8 = .ok (.iconst 0, 1) := by decide +kernel
theorem dX9_term_9 : decode cX9_term 9 = .ok (.ireturn, 1) := by decide +kernel
theorem dX9_term_10 : decode cX9_term 10 = .ok (.aload_n 0, 1) := by decide +kernel
theorem dX9_term_11 : decode cX9_term 11 = .ok (.bipush 42, 2) := by decide +kernel
theorem dX9_term_13 : decode cX9_term 13 = .ok (.invokevirtual 241, 3) := by decide +kernel
theorem dX9_term_16 : decode cX9_term 16 = .ok (.ifCond .ne 12, 3) := by decide +kernel
theorem dX9_term_19 : decode cX9_term 19 = .ok (.aload_n 0, 1) := by decide +kernel
theorem dX9_term_20 : decode cX9_term 20 = .ok (.bipush 47, 2) := by decide +kernel
theorem dX9_term_22 : decode cX9_term 22 = .ok (.invokevirtual 241, 3) := by decide +kernel
theorem dX9_term_25 : decode cX9_term 25 = .ok (.ifCond .eq 31, 3) := by decide +kernel
theorem dX9_term_28 : decode cX9_term 28 = .ok (.aload_n 0, 1) := by decide +kernel
theorem dX9_term_29 : decode cX9_term 29 = .ok (.getfield 215, 3) := by decide +kernel
theorem dX9_term_32 : decode cX9_term 32 = .ok (.istore_n 2, 1) := by decide +kernel
theorem dX9_term_33 : decode cX9_term 33 = .ok (.aload_n 0, 1) := by decide +kernel
theorem dX9_term_34 : decode cX9_term 34 = .ok (.invokevirtual 244, 3) := by decide +kernel
theorem dX9_term_37 : decode cX9_term 37 = .ok (.aload_n 0, 1) := by decide +kernel
theorem dX9_term_38 : decode cX9_term 38 = .ok (.iload_n 1, 1) := by decide +kernel
theorem dX9_term_39 : decode cX9_term 39 = .ok (.invokevirtual 259, 3) := by decide +kernel
theorem dX9_term_42 : decode cX9_term 42 = .ok (.ifCond .ne 5, 3) := by decide +kernel
theorem dX9_term_45 : decode cX9_term 45 = .ok (.iconst 0, 1) := by decide +kernel
theorem dX9_term_46 : decode cX9_term 46 = .ok (.ireturn, 1) := by decide +kernel
theorem dX9_term_47 : decode cX9_term 47 = .ok (.aload_n 0, 1) := by decide +kernel
theorem dX9_term_48 : decode cX9_term 48 = .ok (.iconst 2, 1) := by decide +kernel
theorem dX9_term_49 : decode cX9_term 49 = .ok (.iload_n 2, 1) := by decide +kernel
theorem dX9_term_50 : decode cX9_term 50 = .ok (.invokevirtual 247, 3) := by decide +kernel
theorem dX9_term_53 : decode cX9_term 53 = .ok (.goto (-43), 3) := by decide +kernel
theorem dX9_term_56 : decode cX9_term 56 = .ok (.iconst 1, 1) := by decide +kernel
theorem dX9_term_57 : decode cX9_term 57 = .ok (.ireturn, 1) := by decide +kernel
theorem dX9_part0_0 : decode cX9_part0 0 = .ok (.aload_n 0, 1) := by decide +kernel
theorem dX9_part0_1 : decode cX9_part0 1 = .ok (.getfield 206, 3) := by decide +kernel
theorem dX9_part0_4 : decode cX9_part0 4 = .ok (.iconst 2, 1) := by decide +kernel
theorem dX9_part0_5 : decode cX9_part0 5 = .ok (.if_icmp .ne 28, 3) := by decide +kernel
theorem dX9_part0_8 : decode cX9_part0 8 = .ok (.aload_n 0, 1) := by decide +kernel
theorem dX9_part0_9 : decode cX9_part0 9 = .ok (.iconst 0, 1) := by decide +kernel
theorem dX9_part0_10 : decode cX9_part0 10 = .ok (.aload_n 0, 1) := by decide +kernel
theorem dX9_part0_11 : decode cX9_part0 11 = .ok (.getfield 221, 3) := by decide +kernel
theorem dX9_part0_14 : decode cX9_part0 14 = .ok (.invokevirtual 247, 3) := by decide +kernel
theorem dX9_part0_17 : decode cX9_part0 17 = .ok (.aload_n 0, 1) := by decide +kernel
theorem dX9_part0_18 : decode cX9_part0 18 = .ok (.dup, 1) := by decide +kernel
theorem dX9_part0_19 : decode cX9_part0 19 = .ok (.getfield 262, 3) := by decide +kernel
theorem dX9_part0_22 : decode cX9_part0 22 = .ok (.iconst 1, 1) := by decide +kernel
theorem dX9_part0_23 : decode cX9_part0 23 = .ok (.iadd, 1) := by decide +kernel
theorem dX9_part0_24 : decode cX9_part0 24 = .ok (.putfield 262, 3) := by decide +kernel
theorem dX9_part0_27 : decode cX9_part0 27 = .ok (.aload_n 0, 1) := by decide +kernel
theorem dX9_part0_28 : decode cX9_part0 28 = .ok (.invokevirtual 244, 3) := by decide +kernel
theorem dX9_part0_31 : decode cX9_part0 31 = .ok (.iconst 1, 1) := by decide +kernel
theorem dX9_part0_32 : decode cX9_part0 32 = .ok (.ireturn, 1) := by decide +kernel
theorem dX9_part0_33 : decode cX9_part0 33 = .ok (.aload_n 0, 1) := by decide +kernel
theorem dX9_part0_34 : decode cX9_part0 34 = .ok (.getfield 206, 3) := by decide +kernel
theorem dX9_part0_37 : decode cX9_part0 37 = .ok (.iconst 1, 1) := by decide +kernel
theorem dX9_part0_38 : decode cX9_part0 38 = .ok (.if_icmp .ne 46, 3) := by decide +kernel
theorem dX9_part0_41 : decode cX9_part0 41 = .ok (.aload_n 0, 1) := by decide +kernel
theorem dX9_part0_42 : decode cX9_part0 42 = .ok (.getfield 215, 3) := by decide +kernel
theorem dX9_part0_45 : decode cX9_part0 45 = .ok (.ifCond .eq 39, 3) := by decide +kernel
theorem dX9_part0_48 : decode cX9_part0 48 = .ok (.iload_n 1, 1) := by decide +kernel
theorem dX9_part0_49 : decode cX9_part0 49 = .ok (.aload_n 0, 1) := by decide +kernel
theorem dX9_part0_50 : decode cX9_part0 50 = .ok (.getfield 215, 3) := by decide +kernel
theorem dX9_part0_53 : decode cX9_part0 53 = .ok (.invokestatic 265, 3) := by decide +kernel
theorem dX9_part0_56 : decode cX9_part0 56 = .ok (.ifCond .eq 28, 3) := by decide +kernel
theorem dX9_part0_59 : decode cX9_part0 59 = .ok (.aload_n 0, 1) := by decide +kernel
theorem dX9_part0_60 : decode cX9_part0 60 = .ok (.iconst 1, 1) := by decide +kernel
theorem dX9_part0_61 : decode cX9_part0 61 = .ok (.aload_n 0, 1) := by decide +kernel
theorem dX9_part0_62 : decode cX9_part0 62 = .ok (.getfield 215, 3) := by decide +kernel
theorem dX9_part0_65 : decode cX9_part0 65 = .ok (.invokevirtual 247, 3) := by decide +kernel
theorem dX9_part0_68 : decode cX9_part0 68 = .ok (.aload_n 0, 1) := by decide +kernel
theorem dX9_part0_69 : decode cX9_part0 69 = .ok (.dup, 1) := by decide +kernel
theorem dX9_part0_70 : decode cX9_part0 70 = .ok (.getfield 262, 3) := by decide +kernel
theorem dX9_part0_73 : decode cX9_part0 73 = .ok (.iconst 1, 1) := by decide +kernel
theorem dX9_part0_74 : decode cX9_part0 74 = .ok (.iadd, 1) := by decide +kernel
theorem dX9_part0_75 : decode cX9_part0 75 = .ok (.putfield 262, 3) := by decide +kernel
theorem dX9_part0_78 : decode cX9_part0 78 = .ok (.aload_n 0, 1) := by decide +kernel
theorem dX9_part0_79 : decode cX9_part0 79 = .ok (.invokevirtual 244, 3) := by decide +kernel
theorem dX9_part0_82 : decode cX9_part0 82 = .ok (.iconst 1, 1) := by decide +kernel
theorem dX9_part0_83 : decode cX9_part0 83 = .ok (.ireturn, 1) := by decide +kernel
theorem dX9_part0_84 : decode cX9_part0 84 = .ok (.aload_n 0, 1) := by decide +kernel
theorem dX9_part0_85 : decode cX9_part0 85 = .ok (.bipush 33, 2) := by decide +kernel
theorem dX9_part0_87 : decode cX9_part0 87 = .ok (.invokevirtual 241, 3) := by decide +kernel
theorem dX9_part0_90 : decode cX9_part0 90 = .ok (.ifCond .eq 55, 3) := by decide +kernel
theorem dX9_part0_93 : decode cX9_part0 93 = .ok (.aload_n 0, 1) := by decide +kernel
theorem dX9_part0_94 : decode cX9_part0 94 = .ok (.getfield 268, 3) := by decide +kernel
theorem dX9_part0_97 : decode cX9_part0 97 = .ok (.bipush 8, 2) := by decide +kernel
theorem dX9_part0_99 : decode cX9_part0 99 = .ok (.if_icmp .ge 46, 3) := by decide +kernel
theorem dX9_part0_102 : decode cX9_part0 102 = .ok (.aload_n 0, 1) := by decide +kernel
theorem dX9_part0_103 : decode cX9_part0 103 = .ok (.dup, 1) := by decide +kernel
theorem dX9_part0_104 : decode cX9_part0 104 = .ok (.getfield 268, 3) := by decide +kernel
theorem dX9_part0_107 : decode cX9_part0 107 = .ok (.iconst 1, 1) := by decide +kernel
theorem dX9_part0_108 : decode cX9_part0 108 = .ok (.iadd, 1) := by decide +kernel
theorem dX9_part0_109 : decode cX9_part0 109 = .ok (.putfield 268, 3) := by decide +kernel
theorem dX9_part0_112 : decode cX9_part0 112 = .ok (.aload_n 0, 1) := by decide +kernel
theorem dX9_part0_113 : decode cX9_part0 113 = .ok (.invokevirtual 244, 3) := by decide +kernel
theorem dX9_part0_116 : decode cX9_part0 116 = .ok (.aload_n 0, 1) := by decide +kernel
theorem dX9_part0_117 : decode cX9_part0 117 = .ok (.iload_n 1, 1) := by decide +kernel
theorem dX9_part0_118 : decode cX9_part0 118 = .ok (.invokevirtual 259, 3) := by decide +kernel
theorem dX9_part0_121 : decode cX9_part0 121 = .ok (.ifCond .ne 5, 3) := by decide +kernel
theorem dX9_part0_124 : decode cX9_part0 124 = .ok (.iconst 0, 1) := by decide +kernel
theorem dX9_part0_125 : decode cX9_part0 125 = .ok (.ireturn, 1) := by decide +kernel
theorem dX9_part0_126 : decode cX9_part0 126 = .ok (.aload_n 0, 1) := by decide +kernel
theorem dX9_part0_127 : decode cX9_part0 127 = .ok (.dup, 1) := by decide +kernel
theorem dX9_part0_128 : decode cX9_part0 128 = .ok (.getfield 268, 3) := by decide +kernel
theorem dX9_part0_131 : decode cX9_part0 131 = .ok (.iconst 1, 1) := by decide +kernel
theorem dX9_part0_132 : decode cX9_part0 132 = .ok (.isub, 1) := by decide +kernel
theorem dX9_part0_133 : decode cX9_part0 133 = .ok (.putfield 268, 3) := by decide +kernel
theorem dX9_part0_136 : decode cX9_part0 136 = .ok (.aload_n 0, 1) := by decide +kernel
theorem dX9_part0_137 : decode cX9_part0 137 = .ok (.iconst 2, 1) := by decide +kernel
theorem dX9_part0_138 : decode cX9_part0 138 = .ok (.bipush 33, 2) := by decide +kernel
theorem dX9_part0_140 : decode cX9_part0 140 = .ok (.invokevirtual 247, 3) := by decide +kernel
theorem dX9_part0_143 : decode cX9_part0 143 = .ok (.iconst 1, 1) := by decide +kernel
theorem dX9_part0_144 : decode cX9_part0 144 = .ok (.ireturn, 1) := by decide +kernel
theorem dX9_part0_145 : decode cX9_part0 145 = .ok (.aload_n 0, 1) := by decide +kernel
theorem dX9_part0_146 : decode cX9_part0 146 = .ok (.bipush 40, 2) := by decide +kernel
theorem dX9_part0_148 : decode cX9_part0 148 = .ok (.invokevirtual 241, 3) := by decide +kernel
theorem dX9_part0_151 : decode cX9_part0 151 = .ok (.ifCond .eq 12, 3) := by decide +kernel
theorem dX9_part0_154 : decode cX9_part0 154 = .ok (.aload_n 0, 1) := by decide +kernel
theorem dX9_part0_155 : decode cX9_part0 155 = .ok (.getfield 271, 3) := by decide +kernel
theorem dX9_part0_158 : decode cX9_part0 158 = .ok (.bipush 8, 2) := by decide +kernel
theorem dX9_part0_160 : decode cX9_part0 160 = .ok (.if_icmp .ne 5, 3) := by decide +kernel
theorem dX9_part0_163 : decode cX9_part0 163 = .ok (.iconst 0, 1) := by decide +kernel
theorem dX9_part0_164 : decode cX9_part0 164 = .ok (.ireturn, 1) := by decide +kernel
theorem dX9_part0_165 : decode cX9_part0 165 = .ok (.aload_n 0, 1) := by decide +kernel
theorem dX9_part0_166 : decode cX9_part0 166 = .ok (.dup, 1) := by decide +kernel
theorem dX9_part0_167 : decode cX9_part0 167 = .ok (.getfield 271, 3) := by decide +kernel
theorem dX9_part0_170 : decode cX9_part0 170 = .ok (.iconst 1, 1) := by decide +kernel
theorem dX9_part0_171 : decode cX9_part0 171 = .ok (.iadd, 1) := by decide +kernel
theorem dX9_part0_172 : decode cX9_part0 172 = .ok (.putfield 271, 3) := by decide +kernel
theorem dX9_part0_175 : decode cX9_part0 175 = .ok (.aload_n 0, 1) := by decide +kernel
theorem dX9_part0_176 : decode cX9_part0 176 = .ok (.invokevirtual 244, 3) := by decide +kernel
theorem dX9_part0_179 : decode cX9_part0 179 = .ok (.aload_n 0, 1) := by decide +kernel
theorem dX9_part0_180 : decode cX9_part0 180 = .ok (.iload_n 1, 1) := by decide +kernel
theorem dX9_part0_181 : decode cX9_part0 181 = .ok (.invokevirtual 274, 3) := by decide +kernel
theorem dX9_part0_184 : decode cX9_part0 184 = .ok (.ifCond .eq 12, 3) := by decide +kernel
theorem dX9_part0_187 : decode cX9_part0 187 = .ok (.aload_n 0, 1) := by decide +kernel
theorem dX9_part0_188 : decode cX9_part0 188 = .ok (.bipush 41, 2) := by decide +kernel
theorem dX9_part0_190 : decode cX9_part0 190 = .ok (.invokevirtual 241, 3) := by decide +kernel
theorem dX9_part0_193 : decode cX9_part0 193 = .ok (.ifCond .ne 5, 3) := by decide +kernel
theorem dX9_part0_196 : decode cX9_part0 196 = .ok (.iconst 0, 1) := by decide +kernel
theorem dX9_part0_197 : decode cX9_part0 197 = .ok (.ireturn, 1) := by decide +kernel
theorem dX9_part0_198 : decode cX9_part0 198 = .ok (.aload_n 0, 1) := by decide +kernel
theorem dX9_part0_199 : decode cX9_part0 199 = .ok (.dup, 1) := by decide +kernel
theorem dX9_part0_200 : decode cX9_part0 200 = .ok (.getfield 271, 3) := by decide +kernel
theorem dX9_part0_203 : decode cX9_part0 203 = .ok (.iconst 1, 1) := by decide +kernel
theorem dX9_part0_204 : decode cX9_part0 204 = .ok (.isub, 1) := by decide +kernel
theorem dX9_part0_205 : decode cX9_part0 205 = .ok (.putfield 271, 3) := by decide +kernel
theorem dX9_part0_208 : decode cX9_part0 208 = .ok (.aload_n 0, 1) := by decide +kernel
theorem dX9_part0_209 : decode cX9_part0 209 = .ok (.invokevirtual 244, 3) := by decide +kernel
theorem dX9_part0_212 : decode cX9_part0 212 = .ok (.iconst 1, 1) := by decide +kernel
theorem dX9_part0_213 : decode cX9_part0 213 = .ok (.ireturn, 1) := by decide +kernel
theorem dX9_parse_0 : decode cX9_parse 0 = .ok (.aload_n 0, 1) := by decide +kernel
theorem dX9_parse_1 : decode cX9_parse 1 = .ok (.iconst 0, 1) := by decide +kernel
theorem dX9_parse_2 : decode cX9_parse 2 = .ok (.putfield 203, 3) := by decide +kernel
theorem dX9_parse_5 : decode cX9_parse 5 = .ok (.aload_n 0, 1) := by decide +kernel
theorem dX9_parse_6 : decode cX9_parse 6 = .ok (.iconst 3, 1) := by decide +kernel
theorem dX9_parse_7 : decode cX9_parse 7 = .ok (.putfield 206, 3) := by decide +kernel
theorem dX9_parse_10 : decode cX9_parse 10 = .ok (.aload_n 0, 1) := by decide +kernel
theorem dX9_parse_11 : decode cX9_parse 11 = .ok (.iconst 0, 1) := by decide +kernel
theorem dX9_parse_12 : decode cX9_parse 12 = .ok (.putfield 271, 3) := by decide +kernel
theorem dX9_parse_15 : decode cX9_parse 15 = .ok (.aload_n 0, 1) := by decide +kernel
theorem dX9_parse_16 : decode cX9_parse 16 = .ok (.iconst 0, 1) := by decide +kernel
theorem dX9_parse_17 : decode cX9_parse 17 = .ok (.putfield 268, 3) := by decide +kernel
theorem dX9_parse_20 : decode cX9_parse 20 = .ok (.aload_n 0, 1) := by decide +kernel
theorem dX9_parse_21 : decode cX9_parse 21 = .ok (.iconst 0, 1) := by decide +kernel
theorem dX9_parse_22 : decode cX9_parse 22 = .ok (.putfield 235, 3) := by decide +kernel
theorem dX9_parse_25 : decode cX9_parse 25 = .ok (.aload_n 0, 1) := by decide +kernel
theorem dX9_parse_26 : decode cX9_parse 26 = .ok (.iconst 0, 1) := by decide +kernel
theorem dX9_parse_27 : decode cX9_parse 27 = .ok (.putfield 262, 3) := by decide +kernel
theorem dX9_parse_30 : decode cX9_parse 30 = .ok (.aload_n 0, 1) := by decide +kernel
theorem dX9_parse_31 : decode cX9_parse 31 = .ok (.aload_n 0, 1) := by decide +kernel
theorem dX9_parse_32 : decode cX9_parse 32 = .ok (.getfield 7, 3) := by decide +kernel
theorem dX9_parse_35 : decode cX9_parse 35 = .ok (.iconst 1, 1) := by decide +kernel
theorem dX9_parse_36 : decode cX9_parse 36 = .ok (.iaload, 1) := by decide +kernel
theorem dX9_parse_37 : decode cX9_parse 37 = .ok (.bipush 14, 2) := by decide +kernel
theorem dX9_parse_39 : decode cX9_parse 39 = .ok (.if_icmp .ge 18, 3) := by decide +kernel
theorem dX9_parse_42 : decode cX9_parse 42 = .ok (.aload_n 0, 1) := by decide +kernel
theorem dX9_parse_43 : decode cX9_parse 43 = .ok (.aload_n 0, 1) := by decide +kernel
theorem dX9_parse_44 : decode cX9_parse 44 = .ok (.getfield 7, 3) := by decide +kernel
theorem dX9_parse_47 : decode cX9_parse 47 = .ok (.iconst 1, 1) := by decide +kernel
theorem dX9_parse_48 : decode cX9_parse 48 = .ok (.iaload, 1) := by decide +kernel
theorem dX9_parse_49 : decode cX9_parse 49 = .ok (.invokevirtual 277, 3) := by decide +kernel
theorem dX9_parse_52 : decode cX9_parse 52 = .ok (.iconst 4, 1) := by decide +kernel
theorem dX9_parse_53 : decode cX9_parse 53 = .ok (.iadd, 1) := by decide +kernel
theorem dX9_parse_54 : decode cX9_parse 54 = .ok (.goto 6, 3) := by decide +kernel
theorem dX9_parse_57 : decode cX9_parse 57 = .ok (.sipush 2840, 3) := by decide +kernel
theorem dX9_parse_60 : decode cX9_parse 60 = .ok (.putfield 232, 3) := by decide +kernel
theorem dX9_parse_63 : decode cX9_parse 63 = .ok (.aload_n 0, 1) := by decide +kernel
theorem dX9_parse_64 : decode cX9_parse 64 = .ok (.invokevirtual 244, 3) := by decide +kernel
theorem dX9_parse_67 : decode cX9_parse 67 = .ok (.aload_n 0, 1) := by decide +kernel
theorem dX9_parse_68 : decode cX9_parse 68 = .ok (.invokevirtual 280, 3) := by decide +kernel
theorem dX9_parse_71 : decode cX9_parse 71 = .ok (.istore_n 1, 1) := by decide +kernel
theorem dX9_parse_72 : decode cX9_parse 72 = .ok (.iload_n 1, 1) := by decide +kernel
theorem dX9_parse_73 : decode cX9_parse 73 = .ok (.ifCond .lt 7, 3) := by decide +kernel
theorem dX9_parse_76 : decode cX9_parse 76 = .ok (.iconst 1, 1) := by decide +kernel
theorem dX9_parse_77 : decode cX9_parse 77 = .ok (.goto 4, 3) := by decide +kernel
theorem dX9_parse_80 : decode cX9_parse 80 = .ok (.iconst 0, 1) := by decide +kernel
theorem dX9_parse_81 : decode cX9_parse 81 = .ok (.istore_n 2, 1) := by decide +kernel
theorem dX9_parse_82 : decode cX9_parse 82 = .ok (.iload_n 2, 1) := by decide +kernel
theorem dX9_parse_83 : decode cX9_parse 83 = .ok (.ifCond .eq 28, 3) := by decide +kernel
theorem dX9_parse_86 : decode cX9_parse 86 = .ok (.aload_n 0, 1) := by decide +kernel
theorem dX9_parse_87 : decode cX9_parse 87 = .ok (.invokevirtual 244, 3) := by decide +kernel
theorem dX9_parse_90 : decode cX9_parse 90 = .ok (.aload_n 0, 1) := by decide +kernel
theorem dX9_parse_91 : decode cX9_parse 91 = .ok (.iload_n 1, 1) := by decide +kernel
theorem dX9_parse_92 : decode cX9_parse 92 = .ok (.invokevirtual 274, 3) := by decide +kernel
theorem dX9_parse_95 : decode cX9_parse 95 = .ok (.ifCond .eq 14, 3) := by decide +kernel
theorem dX9_parse_98 : decode cX9_parse 98 = .ok (.aload_n 0, 1) := by decide +kernel
theorem dX9_parse_99 : decode cX9_parse 99 = .ok (.getfield 206, 3) := by decide +kernel
theorem dX9_parse_102 : decode cX9_parse 102 = .ok (.ifCond .ne 7, 3) := by decide +kernel
theorem dX9_parse_105 : decode cX9_parse 105 = .ok (.iconst 1, 1) := by decide +kernel
theorem dX9_parse_106 : decode cX9_parse 106 = .ok (.goto 4, 3) := by decide +kernel
theorem dX9_parse_109 : decode cX9_parse 109 = .ok (.iconst 0, 1) := by decide +kernel
theorem dX9_parse_110 : decode cX9_parse 110 = .ok (.istore_n 2, 1) := by decide +kernel
theorem dX9_parse_111 : decode cX9_parse 111 = .ok (.aload_n 0, 1) := by decide +kernel
theorem dX9_parse_112 : decode cX9_parse 112 = .ok (.iconst 0, 1) := by decide +kernel
theorem dX9_parse_113 : decode cX9_parse 113 = .ok (.putfield 191, 3) := by decide +kernel
theorem dX9_parse_116 : decode cX9_parse 116 = .ok (.iload_n 2, 1) := by decide +kernel
theorem dX9_parse_117 : decode cX9_parse 117 = .ok (.ifCond .eq 7, 3) := by decide +kernel
theorem dX9_parse_120 : decode cX9_parse 120 = .ok (.iload_n 1, 1) := by decide +kernel
theorem dX9_parse_121 : decode cX9_parse 121 = .ok (.goto 4, 3) := by decide +kernel
theorem dX9_parse_124 : decode cX9_parse 124 = .ok (.iconst (-1), 1) := by decide +kernel
theorem dX9_parse_125 : decode cX9_parse 125 = .ok (.ireturn, 1) := by decide +kernel
theorem dX9_text_0 : decode cX9_text 0 = .ok (.aload_n 0, 1) := by decide +kernel
theorem dX9_text_1 : decode cX9_text 1 = .ok (.invokevirtual 283, 3) := by decide +kernel
theorem dX9_text_4 : decode cX9_text 4 = .ok (.istore_n 1, 1) := by decide +kernel
theorem dX9_text_5 : decode cX9_text 5 = .ok (.iload_n 1, 1) := by decide +kernel
theorem dX9_text_6 : decode cX9_text 6 = .ok (.ifCond .ge 11, 3) := by decide +kernel
theorem dX9_text_9 : decode cX9_text 9 = .ok (.bipush (-100), 2) := by decide +kernel
theorem dX9_text_11 : decode cX9_text 11 = .ok (.aload_n 0, 1) := by decide +kernel
theorem dX9_text_12 : decode cX9_text 12 = .ok (.getfield 209, 3) := by decide +kernel
theorem dX9_text_15 : decode cX9_text 15 = .ok (.isub, 1) := by decide +kernel
theorem dX9_text_16 : decode cX9_text 16 = .ok (.ireturn, 1) := by decide +kernel
theorem dX9_text_17 : decode cX9_text 17 = .ok (.aload_n 0, 1) := by decide +kernel
theorem dX9_text_18 : decode cX9_text 18 = .ok (.getfield 7, 3) := by decide +kernel
theorem dX9_text_21 : decode cX9_text 21 = .ok (.iconst 1, 1) := by decide +kernel
theorem dX9_text_22 : decode cX9_text 22 = .ok (.iaload, 1) := by decide +kernel
theorem dX9_text_23 : decode cX9_text 23 = .ok (.bipush 14, 2) := by decide +kernel
theorem dX9_text_25 : decode cX9_text 25 = .ok (.if_icmp .ne 6, 3) := by decide +kernel
theorem dX9_text_28 : decode cX9_text 28 = .ok (.ldc 84, 2) := by decide +kernel
theorem dX9_text_30 : decode cX9_text 30 = .ok (.ireturn, 1) := by decide +kernel
theorem dX9_text_31 : decode cX9_text 31 = .ok (.aload_n 0, 1) := by decide +kernel
theorem dX9_text_32 : decode cX9_text 32 = .ok (.aload_n 0, 1) := by decide +kernel
theorem dX9_text_33 : decode cX9_text 33 = .ok (.getfield 7, 3) := by decide +kernel
theorem dX9_text_36 : decode cX9_text 36 = .ok (.iconst 1, 1) := by decide +kernel
theorem dX9_text_37 : decode cX9_text 37 = .ok (.iaload, 1) := by decide +kernel
theorem dX9_text_38 : decode cX9_text 38 = .ok (.invokevirtual 277, 3) := by decide +kernel
theorem dX9_text_41 : decode cX9_text 41 = .ok (.istore_n 2, 1) := by decide +kernel
theorem dX9_text_42 : decode cX9_text 42 = .ok (.aload_n 0, 1) := by decide +kernel
theorem dX9_text_43 : decode cX9_text 43 = .ok (.getfield 7, 3) := by decide +kernel
theorem dX9_text_46 : decode cX9_text 46 = .ok (.iload_n 2, 1) := by decide +kernel
theorem dX9_text_47 : decode cX9_text 47 = .ok (.iconst 0, 1) := by decide +kernel
theorem dX9_text_48 : decode cX9_text 48 = .ok (.iadd, 1) := by decide +kernel
theorem dX9_text_49 : decode cX9_text 49 = .ok (.iload_n 1, 1) := by decide +kernel
theorem dX9_text_50 : decode cX9_text 50 = .ok (.iastore, 1) := by decide +kernel
theorem dX9_text_51 : decode cX9_text 51 = .ok (.aload_n 0, 1) := by decide +kernel
theorem dX9_text_52 : decode cX9_text 52 = .ok (.getfield 7, 3) := by decide +kernel
theorem dX9_text_55 : decode cX9_text 55 = .ok (.iload_n 2, 1) := by decide +kernel
theorem dX9_text_56 : decode cX9_text 56 = .ok (.iconst 1, 1) := by decide +kernel
theorem dX9_text_57 : decode cX9_text 57 = .ok (.iadd, 1) := by decide +kernel
theorem dX9_text_58 : decode cX9_text 58 = .ok (.aload_n 0, 1) := by decide +kernel
theorem dX9_text_59 : decode cX9_text 59 = .ok (.getfield 262, 3) := by decide +kernel
theorem dX9_text_62 : decode cX9_text 62 = .ok (.iastore, 1) := by decide +kernel
theorem dX9_text_63 : decode cX9_text 63 = .ok (.aload_n 0, 1) := by decide +kernel
theorem dX9_text_64 : decode cX9_text 64 = .ok (.getfield 7, 3) := by decide +kernel
theorem dX9_text_67 : decode cX9_text 67 = .ok (.iload_n 2, 1) := by decide +kernel
theorem dX9_text_68 : decode cX9_text 68 = .ok (.iconst 2, 1) := by decide +kernel
theorem dX9_text_69 : decode cX9_text 69 = .ok (.iadd, 1) := by decide +kernel
theorem dX9_text_70 : decode cX9_text 70 = .ok (.aload_n 0, 1) := by decide +kernel
theorem dX9_text_71 : decode cX9_text 71 = .ok (.getfield 235, 3) := by decide +kernel
theorem dX9_text_74 : decode cX9_text 74 = .ok (.iastore, 1) := by decide +kernel
theorem dX9_text_75 : decode cX9_text 75 = .ok (.aload_n 0, 1) := by decide +kernel
theorem dX9_text_76 : decode cX9_text 76 = .ok (.getfield 7, 3) := by decide +kernel
theorem dX9_text_79 : decode cX9_text 79 = .ok (.iconst 1, 1) := by decide +kernel
theorem dX9_text_80 : decode cX9_text 80 = .ok (.dup2, 1) := by decide +kernel
theorem dX9_text_81 : decode cX9_text 81 = .ok (.iaload, 1) := by decide +kernel
theorem dX9_text_82 : decode cX9_text 82 = .ok (.iconst 1, 1) := by decide +kernel
theorem dX9_text_83 : decode cX9_text 83 = .ok (.iadd, 1) := by decide +kernel
theorem dX9_text_84 : decode cX9_text 84 = .ok (.iastore, 1) := by decide +kernel
theorem dX9_text_85 : decode cX9_text 85 = .ok (.aload_n 0, 1) := by decide +kernel
theorem dX9_text_86 : decode cX9_text 86 = .ok (.getfield 7, 3) := by decide +kernel
theorem dX9_text_89 : decode cX9_text 89 = .ok (.iconst 1, 1) := by decide +kernel
theorem dX9_text_90 : decode cX9_text 90 = .ok (.iaload, 1) := by decide +kernel
theorem dX9_text_91 : decode cX9_text 91 = .ok (.iconst 1, 1) := by decide +kernel
theorem dX9_text_92 : decode cX9_text 92 = .ok (.isub, 1) := by decide +kernel
theorem dX9_text_93 : decode cX9_text 93 = .ok (.ireturn, 1) := by decide +kernel
theorem dX9_textTold_0 : decode cX9_textTold 0 = .ok (.aload_n 0, 1) := by decide +kernel
theorem dX9_textTold_1 : decode cX9_textTold 1 = .ok (.iload_n 1, 1) := by decide +kernel
theorem dX9_textTold_2 : decode cX9_textTold 2 = .ok (.invokevirtual 286, 3) := by decide +kernel
theorem dX9_textTold_5 : decode cX9_textTold 5 = .ok (.ifCond .eq 13, 3) := by decide +kernel
theorem dX9_textTold_8 : decode cX9_textTold 8 = .ok (.iload_n 2, 1) := by decide +kernel
theorem dX9_textTold_9 : decode cX9_textTold 9 = .ok (.i2l, 1) := by decide +kernel
theorem dX9_textTold_10 : decode cX9_textTold 10 = .ok (.lconst 0, 1) := by decide +kernel
theorem dX9_textTold_11 : decode cX9_textTold 11 = .ok (.lconst 1, 1) := by decide +kernel
theorem dX9_textTold_12 : decode cX9_textTold 12 = .ok (.invokestatic 68, 3) := by decide +kernel
theorem dX9_textTold_15 : decode cX9_textTold 15 = .ok (.ifCond .ne 6, 3) := by decide +kernel
theorem dX9_textTold_18 : decode cX9_textTold 18 = .ok (.ldc 83, 2) := by decide +kernel
theorem dX9_textTold_20 : decode cX9_textTold 20 = .ok (.ireturn, 1) := by decide +kernel
theorem dX9_textTold_21 : decode cX9_textTold 21 = .ok (.aload_n 0, 1) := by decide +kernel
theorem dX9_textTold_22 : decode cX9_textTold 22 = .ok (.getfield 7, 3) := by decide +kernel
theorem dX9_textTold_25 : decode cX9_textTold 25 = .ok (.aload_n 0, 1) := by decide +kernel
theorem dX9_textTold_26 : decode cX9_textTold 26 = .ok (.iload_n 1, 1) := by decide +kernel
theorem dX9_textTold_27 : decode cX9_textTold 27 = .ok (.invokevirtual 277, 3) := by decide +kernel
theorem dX9_textTold_30 : decode cX9_textTold 30 = .ok (.iload_n 2, 1) := by decide +kernel
theorem dX9_textTold_31 : decode cX9_textTold 31 = .ok (.iadd, 1) := by decide +kernel
theorem dX9_textTold_32 : decode cX9_textTold 32 = .ok (.iaload, 1) := by decide +kernel
theorem dX9_textTold_33 : decode cX9_textTold 33 = .ok (.ireturn, 1) := by decide +kernel
theorem dX9_counts_0 : decode cX9_counts 0 = .ok (.iconst (-1), 1) := by decide +kernel
theorem dX9_counts_1 : decode cX9_counts 1 = .ok (.istore_n 2, 1) := by decide +kernel
theorem dX9_counts_2 : decode cX9_counts 2 = .ok (.iconst 0, 1) := by decide +kernel
theorem dX9_counts_3 : decode cX9_counts 3 = .ok (.istore_n 3, 1) := by decide +kernel
theorem dX9_counts_4 : decode cX9_counts 4 = .ok (.iload_n 3, 1) := by decide +kernel
theorem dX9_counts_5 : decode cX9_counts 5 = .ok (.aload_n 0, 1) := by decide +kernel
theorem dX9_counts_6 : decode cX9_counts 6 = .ok (.getfield 7, 3) := by decide +kernel
theorem dX9_counts_9 : decode cX9_counts 9 = .ok (.iconst 1, 1) := by decide +kernel
theorem dX9_counts_10 : decode cX9_counts 10 = .ok (.iaload, 1) := by decide +kernel
theorem dX9_counts_11 : decode cX9_counts 11 = .ok (.if_icmp .ge 29, 3) := by decide +kernel
theorem dX9_counts_14 : decode cX9_counts 14 = .ok (.aload_n 0, 1) := by decide +kernel
theorem dX9_counts_15 : decode cX9_counts 15 = .ok (.getfield 7, 3) := by decide +kernel
theorem dX9_counts_18 : decode cX9_counts 18 = .ok (.aload_n 0, 1) := by decide +kernel
theorem dX9_counts_19 : decode cX9_counts 19 = .ok (.iload_n 3, 1) := by decide +kernel
theorem dX9_counts_20 : decode cX9_counts 20 = .ok (.invokevirtual 277, 3) := by decide +kernel
theorem dX9_counts_23 : decode cX9_counts 23 = .ok (.iaload, 1) := by decide +kernel
theorem dX9_counts_24 : decode cX9_counts 24 = .ok (.iload_n 1, 1) := by decide +kernel
theorem dX9_counts_25 : decode cX9_counts 25 = .ok (.if_icmp .ne 7, 3) := by decide +kernel
theorem dX9_counts_28 : decode cX9_counts 28 = .ok (.iload_n 3, 1) := by decide +kernel
theorem dX9_counts_29 : decode cX9_counts 29 = .ok (.goto 4, 3) := by decide +kernel
theorem dX9_counts_32 : decode cX9_counts 32 = .ok (.iload_n 2, 1) := by decide +kernel
theorem dX9_counts_33 : decode cX9_counts 33 = .ok (.istore_n 2, 1) := by decide +kernel
theorem dX9_counts_34 : decode cX9_counts 34 = .ok (.iinc 3 1, 3) := by decide +kernel
theorem dX9_counts_37 : decode cX9_counts 37 = .ok (.goto (-33), 3) := by decide +kernel
theorem dX9_counts_40 : decode cX9_counts 40 = .ok (.iload_n 2, 1) := by decide +kernel
theorem dX9_counts_41 : decode cX9_counts 41 = .ok (.ireturn, 1) := by decide +kernel
theorem dX9_why_0 : decode cX9_why 0 = .ok (.iload_n 1, 1) := by decide +kernel
theorem dX9_why_1 : decode cX9_why 1 = .ok (.i2l, 1) := by decide +kernel
theorem dX9_why_2 : decode cX9_why 2 = .ok (.lconst 0, 1) := by decide +kernel
theorem dX9_why_3 : decode cX9_why 3 = .ok (.ldc2_w 129, 3) := by decide +kernel
theorem dX9_why_6 : decode cX9_why 6 = .ok (.invokestatic 68, 3) := by decide +kernel
theorem dX9_why_9 : decode cX9_why 9 = .ok (.ifCond .eq 14, 3) := by decide +kernel
theorem dX9_why_12 : decode cX9_why 12 = .ok (.aload_n 0, 1) := by decide +kernel
theorem dX9_why_13 : decode cX9_why 13 = .ok (.iload_n 1, 1) := by decide +kernel
theorem dX9_why_14 : decode cX9_why 14 = .ok (.invokevirtual 92, 3) := by decide +kernel
theorem dX9_why_17 : decode cX9_why 17 = .ok (.invokestatic 289, 3) := by decide +kernel
theorem dX9_why_20 : decode cX9_why 20 = .ok (.goto 5, 3) := by decide +kernel
theorem dX9_why_23 : decode cX9_why 23 = .ok (.ldc 83, 2) := by decide +kernel
theorem dX9_why_25 : decode cX9_why 25 = .ok (.ireturn, 1) := by decide +kernel
theorem dX9_joined_0 : decode cX9_joined 0 = .ok (.iload_n 0, 1) := by decide +kernel
theorem dX9_joined_1 : decode cX9_joined 1 = .ok (.tableswitch 196 38 62 #[182, 196, 196, 196, 123, 115, 196, 119, 196, 127, 196, 196, 196, 196, 196, 196, 196, 196, 196, 196, 196, 196, 149, 171, 160], 115) := by decide +kernel
theorem dX9_joined_116 : decode cX9_joined 116 = .ok (.iload_n 1, 1) := by decide +kernel
theorem dX9_joined_117 : decode cX9_joined 117 = .ok (.iload_n 2, 1) := by decide +kernel
theorem dX9_joined_118 : decode cX9_joined 118 = .ok (.iadd, 1) := by decide +kernel
theorem dX9_joined_119 : decode cX9_joined 119 = .ok (.ireturn, 1) := by decide +kernel
theorem dX9_joined_120 : decode cX9_joined 120 = .ok (.iload_n 1, 1) := by decide +kernel
theorem dX9_joined_121 : decode cX9_joined 121 = .ok (.iload_n 2, 1) := by decide +kernel
theorem dX9_joined_122 : decode cX9_joined 122 = .ok (.isub, 1) := by decide +kernel
theorem dX9_joined_123 : decode cX9_joined 123 = .ok (.ireturn, 1) := by decide +kernel
theorem dX9_joined_124 : decode cX9_joined 124 = .ok (.iload_n 1, 1) := by decide +kernel
theorem dX9_joined_125 : decode cX9_joined 125 = .ok (.iload_n 2, 1) := by decide +kernel
theorem dX9_joined_126 : decode cX9_joined 126 = .ok (.imul, 1) := by decide +kernel
theorem dX9_joined_127 : decode cX9_joined 127 = .ok (.ireturn, 1) := by decide +kernel
theorem dX9_joined_128 : decode cX9_joined 128 = .ok (.iload_n 2, 1) := by decide +kernel
theorem dX9_joined_129 : decode cX9_joined 129 = .ok (.ifCond .ne 7, 3) := by decide +kernel
theorem dX9_joined_132 : decode cX9_joined 132 = .ok (.iconst 0, 1) := by decide +kernel
theorem dX9_joined_133 : decode cX9_joined 133 = .ok (.goto 16, 3) := by decide +kernel
theorem dX9_joined_136 : decode cX9_joined 136 = .ok (.iload_n 2, 1) := by decide +kernel
theorem dX9_joined_137 : decode cX9_joined 137 = .ok (.iconst (-1), 1) := by decide +kernel
theorem dX9_joined_138 : decode cX9_joined 138 = .ok (.if_icmp .ne 8, 3) := by decide +kernel
theorem dX9_joined_141 : decode cX9_joined 141 = .ok (.iload_n 1, 1) := by decide +kernel
theorem dX9_joined_142 : decode cX9_joined 142 = .ok (.ineg, 1) := by decide +kernel
theorem dX9_joined_143 : decode cX9_joined 143 = .ok (.goto 6, 3) := by decide +kernel
theorem dX9_joined_146 : decode cX9_joined 146 = .ok (.iload_n 1, 1) := by decide +kernel
theorem dX9_joined_147 : decode cX9_joined 147 = .ok (.iload_n 2, 1) := by decide +kernel
theorem dX9_joined_148 : decode cX9_joined 148 = .ok (.idiv, 1) := by decide +kernel
theorem dX9_joined_149 : decode cX9_joined 149 = .ok (.ireturn, 1) := by decide +kernel
theorem dX9_joined_150 : decode cX9_joined 150 = .ok (.iload_n 1, 1) := by decide +kernel
theorem dX9_joined_151 : decode cX9_joined 151 = .ok (.iload_n 2, 1) := by decide +kernel
theorem dX9_joined_152 : decode cX9_joined 152 = .ok (.if_icmp .ge 7, 3) := by decide +kernel
theorem dX9_joined_155 : decode cX9_joined 155 = .ok (.iconst 1, 1) := by decide +kernel
theorem dX9_joined_156 : decode cX9_joined 156 = .ok (.goto 4, 3) := by decide +kernel
theorem dX9_joined_159 : decode cX9_joined 159 = .ok (.iconst 0, 1) := by decide +kernel
theorem dX9_joined_160 : decode cX9_joined 160 = .ok (.ireturn, 1) := by decide +kernel
theorem dX9_joined_161 : decode cX9_joined 161 = .ok (.iload_n 1, 1) := by decide +kernel
theorem dX9_joined_162 : decode cX9_joined 162 = .ok (.iload_n 2, 1) := by decide +kernel
theorem dX9_joined_163 : decode cX9_joined 163 = .ok (.if_icmp .le 7, 3) := by decide +kernel
theorem dX9_joined_166 : decode cX9_joined 166 = .ok (.iconst 1, 1) := by decide +kernel
theorem dX9_joined_167 : decode cX9_joined 167 = .ok (.goto 4, 3) := by decide +kernel
theorem dX9_joined_170 : decode cX9_joined 170 = .ok (.iconst 0, 1) := by decide +kernel
theorem dX9_joined_171 : decode cX9_joined 171 = .ok (.ireturn, 1) := by decide +kernel
theorem dX9_joined_172 : decode cX9_joined 172 = .ok (.iload_n 1, 1) := by decide +kernel
theorem dX9_joined_173 : decode cX9_joined 173 = .ok (.iload_n 2, 1) := by decide +kernel
theorem dX9_joined_174 : decode cX9_joined 174 = .ok (.if_icmp .ne 7, 3) := by decide +kernel
theorem dX9_joined_177 : decode cX9_joined 177 = .ok (.iconst 1, 1) := by decide +kernel
theorem dX9_joined_178 : decode cX9_joined 178 = .ok (.goto 4, 3) := by decide +kernel
theorem dX9_joined_181 : decode cX9_joined 181 = .ok (.iconst 0, 1) := by decide +kernel
theorem dX9_joined_182 : decode cX9_joined 182 = .ok (.ireturn, 1) := by decide +kernel
theorem dX9_joined_183 : decode cX9_joined 183 = .ok (.iload_n 1, 1) := by decide +kernel
theorem dX9_joined_184 : decode cX9_joined 184 = .ok (.ifCond .eq 11, 3) := by decide +kernel
theorem dX9_joined_187 : decode cX9_joined 187 = .ok (.iload_n 2, 1) := by decide +kernel
theorem dX9_joined_188 : decode cX9_joined 188 = .ok (.ifCond .eq 7, 3) := by decide +kernel
theorem dX9_joined_191 : decode cX9_joined 191 = .ok (.iconst 1, 1) := by decide +kernel
theorem dX9_joined_192 : decode cX9_joined 192 = .ok (.goto 4, 3) := by decide +kernel
theorem dX9_joined_195 : decode cX9_joined 195 = .ok (.iconst 0, 1) := by decide +kernel
theorem dX9_joined_196 : decode cX9_joined 196 = .ok (.ireturn, 1) := by decide +kernel
theorem dX9_joined_197 : decode cX9_joined 197 = .ok (.iload_n 1, 1) := by decide +kernel
theorem dX9_joined_198 : decode cX9_joined 198 = .ok (.ifCond .ne 7, 3) := by decide +kernel
theorem dX9_joined_201 : decode cX9_joined 201 = .ok (.iload_n 2, 1) := by decide +kernel
theorem dX9_joined_202 : decode cX9_joined 202 = .ok (.ifCond .eq 7, 3) := by decide +kernel
theorem dX9_joined_205 : decode cX9_joined 205 = .ok (.iconst 1, 1) := by decide +kernel
theorem dX9_joined_206 : decode cX9_joined 206 = .ok (.goto 4, 3) := by decide +kernel
theorem dX9_joined_209 : decode cX9_joined 209 = .ok (.iconst 0, 1) := by decide +kernel
theorem dX9_joined_210 : decode cX9_joined 210 = .ok (.ireturn, 1) := by decide +kernel
theorem dX9_worked_0 : decode cX9_worked 0 = .ok (.iconst 0, 1) := by decide +kernel
theorem dX9_worked_1 : decode cX9_worked 1 = .ok (.istore_n 2, 1) := by decide +kernel
theorem dX9_worked_2 : decode cX9_worked 2 = .ok (.iconst 0, 1) := by decide +kernel
theorem dX9_worked_3 : decode cX9_worked 3 = .ok (.istore_n 3, 1) := by decide +kernel
theorem dX9_worked_4 : decode cX9_worked 4 = .ok (.iload_n 3, 1) := by decide +kernel
theorem dX9_worked_5 : decode cX9_worked 5 = .ok (.aload_n 0, 1) := by decide +kernel
theorem dX9_worked_6 : decode cX9_worked 6 = .ok (.getfield 7, 3) := by decide +kernel
theorem dX9_worked_9 : decode cX9_worked 9 = .ok (.aload_n 0, 1) := by decide +kernel
theorem dX9_worked_10 : decode cX9_worked 10 = .ok (.iload_n 1, 1) := by decide +kernel
theorem dX9_worked_11 : decode cX9_worked 11 = .ok (.invokevirtual 277, 3) := by decide +kernel
theorem dX9_worked_14 : decode cX9_worked 14 = .ok (.iconst 2, 1) := by decide +kernel
theorem dX9_worked_15 : decode cX9_worked 15 = .ok (.iadd, 1) := by decide +kernel
theorem dX9_worked_16 : decode cX9_worked 16 = .ok (.iaload, 1) := by decide +kernel
theorem dX9_worked_17 : decode cX9_worked 17 = .ok (.if_icmp .ge 146, 3) := by decide +kernel
theorem dX9_worked_20 : decode cX9_worked 20 = .ok (.aload_n 0, 1) := by decide +kernel
theorem dX9_worked_21 : decode cX9_worked 21 = .ok (.getfield 7, 3) := by decide +kernel
theorem dX9_worked_24 : decode cX9_worked 24 = .ok (.aload_n 0, 1) := by decide +kernel
theorem dX9_worked_25 : decode cX9_worked 25 = .ok (.iload_n 1, 1) := by decide +kernel
theorem dX9_worked_26 : decode cX9_worked 26 = .ok (.invokevirtual 277, 3) := by decide +kernel
theorem dX9_worked_29 : decode cX9_worked 29 = .ok (.iconst 4, 1) := by decide +kernel
theorem dX9_worked_30 : decode cX9_worked 30 = .ok (.iadd, 1) := by decide +kernel
theorem dX9_worked_31 : decode cX9_worked 31 = .ok (.iconst 2, 1) := by decide +kernel
theorem dX9_worked_32 : decode cX9_worked 32 = .ok (.iload_n 3, 1) := by decide +kernel
theorem dX9_worked_33 : decode cX9_worked 33 = .ok (.imul, 1) := by decide +kernel
theorem dX9_worked_34 : decode cX9_worked 34 = .ok (.iadd, 1) := by decide +kernel
theorem dX9_worked_35 : decode cX9_worked 35 = .ok (.iaload, 1) := by decide +kernel
theorem dX9_worked_36 : decode cX9_worked 36 = .ok (.istore 4, 2) := by decide +kernel
theorem dX9_worked_38 : decode cX9_worked 38 = .ok (.aload_n 0, 1) := by decide +kernel
theorem dX9_worked_39 : decode cX9_worked 39 = .ok (.getfield 7, 3) := by decide +kernel
theorem dX9_worked_42 : decode cX9_worked 42 = .ok (.aload_n 0, 1) := by decide +kernel
theorem dX9_worked_43 : decode cX9_worked 43 = .ok (.iload_n 1, 1) := by decide +kernel
theorem dX9_worked_44 : decode cX9_worked 44 = .ok (.invokevirtual 277, 3) := by decide +kernel
theorem dX9_worked_47 : decode cX9_worked 47 = .ok (.iconst 4, 1) := by decide +kernel
theorem dX9_worked_48 : decode cX9_worked 48 = .ok (.iadd, 1) := by decide +kernel
theorem dX9_worked_49 : decode cX9_worked 49 = .ok (.iconst 2, 1) := by decide +kernel
theorem dX9_worked_50 : decode cX9_worked 50 = .ok (.iload_n 3, 1) := by decide +kernel
theorem dX9_worked_51 : decode cX9_worked 51 = .ok (.imul, 1) := by decide +kernel
theorem dX9_worked_52 : decode cX9_worked 52 = .ok (.iadd, 1) := by decide +kernel
theorem dX9_worked_53 : decode cX9_worked 53 = .ok (.iconst 1, 1) := by decide +kernel
theorem dX9_worked_54 : decode cX9_worked 54 = .ok (.iadd, 1) := by decide +kernel
theorem dX9_worked_55 : decode cX9_worked 55 = .ok (.iaload, 1) := by decide +kernel
theorem dX9_worked_56 : decode cX9_worked 56 = .ok (.istore 5, 2) := by decide +kernel
theorem dX9_worked_58 : decode cX9_worked 58 = .ok (.iload 4, 2) := by decide +kernel
theorem dX9_worked_60 : decode cX9_worked 60 = .ok (.iconst 2, 1) := by decide +kernel
theorem dX9_worked_61 : decode cX9_worked 61 = .ok (.if_icmp .eq 32, 3) := by decide +kernel
theorem dX9_worked_64 : decode cX9_worked 64 = .ok (.aload_n 0, 1) := by decide +kernel
theorem dX9_worked_65 : decode cX9_worked 65 = .ok (.getfield 55, 3) := by decide +kernel
theorem dX9_worked_68 : decode cX9_worked 68 = .ok (.iload_n 2, 1) := by decide +kernel
theorem dX9_worked_69 : decode cX9_worked 69 = .ok (.iload 4, 2) := by decide +kernel
theorem dX9_worked_71 : decode cX9_worked 71 = .ok (.ifCond .ne 8, 3) := by decide +kernel
theorem dX9_worked_74 : decode cX9_worked 74 = .ok (.iload 5, 2) := by decide +kernel
theorem dX9_worked_76 : decode cX9_worked 76 = .ok (.goto 10, 3) := by decide +kernel
theorem dX9_worked_79 : decode cX9_worked 79 = .ok (.aload_n 0, 1) := by decide +kernel
theorem dX9_worked_80 : decode cX9_worked 80 = .ok (.getfield 52, 3) := by decide +kernel
theorem dX9_worked_83 : decode cX9_worked 83 = .ok (.iload 5, 2) := by decide +kernel
theorem dX9_worked_85 : decode cX9_worked 85 = .ok (.iaload, 1) := by decide +kernel
theorem dX9_worked_86 : decode cX9_worked 86 = .ok (.iastore, 1) := by decide +kernel
theorem dX9_worked_87 : decode cX9_worked 87 = .ok (.iinc 2 1, 3) := by decide +kernel
theorem dX9_worked_90 : decode cX9_worked 90 = .ok (.goto 67, 3) := by decide +kernel
theorem dX9_worked_93 : decode cX9_worked 93 = .ok (.iload 5, 2) := by decide +kernel
theorem dX9_worked_95 : decode cX9_worked 95 = .ok (.bipush 33, 2) := by decide +kernel
theorem dX9_worked_97 : decode cX9_worked 97 = .ok (.if_icmp .ne 30, 3) := by decide +kernel
theorem dX9_worked_100 : decode cX9_worked 100 = .ok (.aload_n 0, 1) := by decide +kernel
theorem dX9_worked_101 : decode cX9_worked 101 = .ok (.getfield 55, 3) := by decide +kernel
theorem dX9_worked_104 : decode cX9_worked 104 = .ok (.iload_n 2, 1) := by decide +kernel
theorem dX9_worked_105 : decode cX9_worked 105 = .ok (.iconst 1, 1) := by decide +kernel
theorem dX9_worked_106 : decode cX9_worked 106 = .ok (.isub, 1) := by decide +kernel
theorem dX9_worked_107 : decode cX9_worked 107 = .ok (.aload_n 0, 1) := by decide +kernel
theorem dX9_worked_108 : decode cX9_worked 108 = .ok (.getfield 55, 3) := by decide +kernel
theorem dX9_worked_111 : decode cX9_worked 111 = .ok (.iload_n 2, 1) := by decide +kernel
theorem dX9_worked_112 : decode cX9_worked 112 = .ok (.iconst 1, 1) := by decide +kernel
theorem dX9_worked_113 : decode cX9_worked 113 = .ok (.isub, 1) := by decide +kernel
theorem dX9_worked_114 : decode cX9_worked 114 = .ok (.iaload, 1) := by decide +kernel
theorem dX9_worked_115 : decode cX9_worked 115 = .ok (.ifCond .ne 7, 3) := by decide +kernel
theorem dX9_worked_118 : decode cX9_worked 118 = .ok (.iconst 1, 1) := by decide +kernel
theorem dX9_worked_119 : decode cX9_worked 119 = .ok (.goto 4, 3) := by decide +kernel
theorem dX9_worked_122 : decode cX9_worked 122 = .ok (.iconst 0, 1) := by decide +kernel
theorem dX9_worked_123 : decode cX9_worked 123 = .ok (.iastore, 1) := by decide +kernel
theorem dX9_worked_124 : decode cX9_worked 124 = .ok (.goto 33, 3) := by decide +kernel
theorem dX9_worked_127 : decode cX9_worked 127 = .ok (.iinc 2 (-1), 3) := by decide +kernel
theorem dX9_worked_130 : decode cX9_worked 130 = .ok (.aload_n 0, 1) := by decide +kernel
theorem dX9_worked_131 : decode cX9_worked 131 = .ok (.getfield 55, 3) := by decide +kernel
theorem dX9_worked_134 : decode cX9_worked 134 = .ok (.iload_n 2, 1) := by decide +kernel
theorem dX9_worked_135 : decode cX9_worked 135 = .ok (.iconst 1, 1) := by decide +kernel
theorem dX9_worked_136 : decode cX9_worked 136 = .ok (.isub, 1) := by decide +kernel
theorem dX9_worked_137 : decode cX9_worked 137 = .ok (.iload 5, 2) := by decide +kernel
theorem dX9_worked_139 : decode cX9_worked 139 = .ok (.aload_n 0, 1) := by decide +kernel
theorem dX9_worked_140 : decode cX9_worked 140 = .ok (.getfield 55, 3) := by decide +kernel
theorem dX9_worked_143 : decode cX9_worked 143 = .ok (.iload_n 2, 1) := by decide +kernel
theorem dX9_worked_144 : decode cX9_worked 144 = .ok (.iconst 1, 1) := by decide +kernel
theorem dX9_worked_145 : decode cX9_worked 145 = .ok (.isub, 1) := by decide +kernel
theorem dX9_worked_146 : decode cX9_worked 146 = .ok (.iaload, 1) := by decide +kernel
theorem dX9_worked_147 : decode cX9_worked 147 = .ok (.aload_n 0, 1) := by decide +kernel
theorem dX9_worked_148 : decode cX9_worked 148 = .ok (.getfield 55, 3) := by decide +kernel
theorem dX9_worked_151 : decode cX9_worked 151 = .ok (.iload_n 2, 1) := by decide +kernel
theorem dX9_worked_152 : decode cX9_worked 152 = .ok (.iaload, 1) := by decide +kernel
theorem dX9_worked_153 : decode cX9_worked 153 = .ok (.invokestatic 292, 3) := by decide +kernel
theorem dX9_worked_156 : decode cX9_worked 156 = .ok (.iastore, 1) := by decide +kernel
theorem dX9_worked_157 : decode cX9_worked 157 = .ok (.iinc 3 1, 3) := by decide +kernel
theorem dX9_worked_160 : decode cX9_worked 160 = .ok (.goto (-156), 3) := by decide +kernel
theorem dX9_worked_163 : decode cX9_worked 163 = .ok (.aload_n 0, 1) := by decide +kernel
theorem dX9_worked_164 : decode cX9_worked 164 = .ok (.getfield 55, 3) := by decide +kernel
theorem dX9_worked_167 : decode cX9_worked 167 = .ok (.iconst 0, 1) := by decide +kernel
theorem dX9_worked_168 : decode cX9_worked 168 = .ok (.iaload, 1) := by decide +kernel
theorem dX9_worked_169 : decode cX9_worked 169 = .ok (.ireturn, 1) := by decide +kernel
theorem dX9_isSheet_0 : decode cX9_isSheet 0 = .ok (.iload_n 0, 1) := by decide +kernel
theorem dX9_isSheet_1 : decode cX9_isSheet 1 = .ok (.i2l, 1) := by decide +kernel
theorem dX9_isSheet_2 : decode cX9_isSheet 2 = .ok (.lconst 0, 1) := by decide +kernel
theorem dX9_isSheet_3 : decode cX9_isSheet 3 = .ok (.ldc2_w 151, 3) := by decide +kernel
theorem dX9_isSheet_6 : decode cX9_isSheet 6 = .ok (.invokestatic 68, 3) := by decide +kernel
theorem dX9_isSheet_9 : decode cX9_isSheet 9 = .ok (.ireturn, 1) := by decide +kernel
theorem dX9_sheet_0 : decode cX9_sheet 0 = .ok (.iload_n 1, 1) := by decide +kernel
theorem dX9_sheet_1 : decode cX9_sheet 1 = .ok (.invokestatic 178, 3) := by decide +kernel
theorem dX9_sheet_4 : decode cX9_sheet 4 = .ok (.ifCond .eq 25, 3) := by decide +kernel
theorem dX9_sheet_7 : decode cX9_sheet 7 = .ok (.iload_n 2, 1) := by decide +kernel
theorem dX9_sheet_8 : decode cX9_sheet 8 = .ok (.i2l, 1) := by decide +kernel
theorem dX9_sheet_9 : decode cX9_sheet 9 = .ok (.ldc2_w 296, 3) := by decide +kernel
theorem dX9_sheet_12 : decode cX9_sheet 12 = .ok (.lconst 1, 1) := by decide +kernel
theorem dX9_sheet_13 : decode cX9_sheet 13 = .ok (.invokestatic 68, 3) := by decide +kernel
theorem dX9_sheet_16 : decode cX9_sheet 16 = .ok (.ifCond .eq 13, 3) := by decide +kernel
theorem dX9_sheet_19 : decode cX9_sheet 19 = .ok (.iload_n 2, 1) := by decide +kernel
theorem dX9_sheet_20 : decode cX9_sheet 20 = .ok (.ifCond .lt 12, 3) := by decide +kernel
theorem dX9_sheet_23 : decode cX9_sheet 23 = .ok (.iload_n 3, 1) := by decide +kernel
theorem dX9_sheet_24 : decode cX9_sheet 24 = .ok (.bipush 24, 2) := by decide +kernel
theorem dX9_sheet_26 : decode cX9_sheet 26 = .ok (.if_icmp .le 6, 3) := by decide +kernel
theorem dX9_sheet_29 : decode cX9_sheet 29 = .ok (.ldc 83, 2) := by decide +kernel
theorem dX9_sheet_31 : decode cX9_sheet 31 = .ok (.ireturn, 1) := by decide +kernel
theorem dX9_sheet_32 : decode cX9_sheet 32 = .ok (.iload_n 2, 1) := by decide +kernel
theorem dX9_sheet_33 : decode cX9_sheet 33 = .ok (.ifCond .lt 11, 3) := by decide +kernel
theorem dX9_sheet_36 : decode cX9_sheet 36 = .ok (.iload_n 3, 1) := by decide +kernel
theorem dX9_sheet_37 : decode cX9_sheet 37 = .ok (.ifCond .ge 7, 3) := by decide +kernel
theorem dX9_sheet_40 : decode cX9_sheet 40 = .ok (.ldc_w 298, 3) := by decide +kernel
theorem dX9_sheet_43 : decode cX9_sheet 43 = .ok (.ireturn, 1) := by decide +kernel
theorem dX9_sheet_44 : decode cX9_sheet 44 = .ok (.aload_n 0, 1) := by decide +kernel
theorem dX9_sheet_45 : decode cX9_sheet 45 = .ok (.getfield 19, 3) := by decide +kernel
theorem dX9_sheet_48 : decode cX9_sheet 48 = .ok (.iload_n 1, 1) := by decide +kernel
theorem dX9_sheet_49 : decode cX9_sheet 49 = .ok (.iload_n 2, 1) := by decide +kernel
theorem dX9_sheet_50 : decode cX9_sheet 50 = .ok (.iastore, 1) := by decide +kernel
theorem dX9_sheet_51 : decode cX9_sheet 51 = .ok (.aload_n 0, 1) := by decide +kernel
theorem dX9_sheet_52 : decode cX9_sheet 52 = .ok (.getfield 22, 3) := by decide +kernel
theorem dX9_sheet_55 : decode cX9_sheet 55 = .ok (.iload_n 1, 1) := by decide +kernel
theorem dX9_sheet_56 : decode cX9_sheet 56 = .ok (.iload_n 2, 1) := by decide +kernel
theorem dX9_sheet_57 : decode cX9_sheet 57 = .ok (.ifCond .ge 7, 3) := by decide +kernel
theorem dX9_sheet_60 : decode cX9_sheet 60 = .ok (.iconst 0, 1) := by decide +kernel
theorem dX9_sheet_61 : decode cX9_sheet 61 = .ok (.goto 4, 3) := by decide +kernel
theorem dX9_sheet_64 : decode cX9_sheet 64 = .ok (.iload_n 3, 1) := by decide +kernel
theorem dX9_sheet_65 : decode cX9_sheet 65 = .ok (.iastore, 1) := by decide +kernel
theorem dX9_sheet_66 : decode cX9_sheet 66 = .ok (.iconst 0, 1) := by decide +kernel
theorem dX9_sheet_67 : decode cX9_sheet 67 = .ok (.istore 4, 2) := by decide +kernel
theorem dX9_sheet_69 : decode cX9_sheet 69 = .ok (.iload 4, 2) := by decide +kernel
theorem dX9_sheet_71 : decode cX9_sheet 71 = .ok (.bipush 24, 2) := by decide +kernel
theorem dX9_sheet_73 : decode cX9_sheet 73 = .ok (.if_icmp .ge 22, 3) := by decide +kernel
theorem dX9_sheet_76 : decode cX9_sheet 76 = .ok (.aload_n 0, 1) := by decide +kernel
theorem dX9_sheet_77 : decode cX9_sheet 77 = .ok (.getfield 25, 3) := by decide +kernel
theorem dX9_sheet_80 : decode cX9_sheet 80 = .ok (.bipush 24, 2) := by decide +kernel
theorem dX9_sheet_82 : decode cX9_sheet 82 = .ok (.iload_n 1, 1) := by decide +kernel
theorem dX9_sheet_83 : decode cX9_sheet 83 = .ok (.imul, 1) := by decide +kernel
theorem dX9_sheet_84 : decode cX9_sheet 84 = .ok (.iload 4, 2) := by decide +kernel
theorem dX9_sheet_86 : decode cX9_sheet 86 = .ok (.iadd, 1) := by decide +kernel
theorem dX9_sheet_87 : decode cX9_sheet 87 = .ok (.iconst 0, 1) := by decide +kernel
theorem dX9_sheet_88 : decode cX9_sheet 88 = .ok (.iastore, 1) := by decide +kernel
theorem dX9_sheet_89 : decode cX9_sheet 89 = .ok (.iinc 4 1, 3) := by decide +kernel
theorem dX9_sheet_92 : decode cX9_sheet 92 = .ok (.goto (-23), 3) := by decide +kernel
theorem dX9_sheet_95 : decode cX9_sheet 95 = .ok (.aload_n 0, 1) := by decide +kernel
theorem dX9_sheet_96 : decode cX9_sheet 96 = .ok (.getfield 22, 3) := by decide +kernel
theorem dX9_sheet_99 : decode cX9_sheet 99 = .ok (.iload_n 1, 1) := by decide +kernel
theorem dX9_sheet_100 : decode cX9_sheet 100 = .ok (.iaload, 1) := by decide +kernel
theorem dX9_sheet_101 : decode cX9_sheet 101 = .ok (.ireturn, 1) := by decide +kernel
theorem dX9_mark_0 : decode cX9_mark 0 = .ok (.iload_n 1, 1) := by decide +kernel
theorem dX9_mark_1 : decode cX9_mark 1 = .ok (.invokestatic 178, 3) := by decide +kernel
theorem dX9_mark_4 : decode cX9_mark 4 = .ok (.ifCond .ne 6, 3) := by decide +kernel
theorem dX9_mark_7 : decode cX9_mark 7 = .ok (.ldc 83, 2) := by decide +kernel
theorem dX9_mark_9 : decode cX9_mark 9 = .ok (.ireturn, 1) := by decide +kernel
theorem dX9_mark_10 : decode cX9_mark 10 = .ok (.aload_n 0, 1) := by decide +kernel
theorem dX9_mark_11 : decode cX9_mark 11 = .ok (.getfield 19, 3) := by decide +kernel
theorem dX9_mark_14 : decode cX9_mark 14 = .ok (.iload_n 1, 1) := by decide +kernel
theorem dX9_mark_15 : decode cX9_mark 15 = .ok (.iaload, 1) := by decide +kernel
theorem dX9_mark_16 : decode cX9_mark 16 = .ok (.ifCond .ge 6, 3) := by decide +kernel
theorem dX9_mark_19 : decode cX9_mark 19 = .ok (.ldc 181, 2) := by decide +kernel
theorem dX9_mark_21 : decode cX9_mark 21 = .ok (.ireturn, 1) := by decide +kernel
theorem dX9_mark_22 : decode cX9_mark 22 = .ok (.iload_n 2, 1) := by decide +kernel
theorem dX9_mark_23 : decode cX9_mark 23 = .ok (.i2l, 1) := by decide +kernel
theorem dX9_mark_24 : decode cX9_mark 24 = .ok (.lconst 0, 1) := by decide +kernel
theorem dX9_mark_25 : decode cX9_mark 25 = .ok (.aload_n 0, 1) := by decide +kernel
theorem dX9_mark_26 : decode cX9_mark 26 = .ok (.getfield 22, 3) := by decide +kernel
theorem dX9_mark_29 : decode cX9_mark 29 = .ok (.iload_n 1, 1) := by decide +kernel
theorem dX9_mark_30 : decode cX9_mark 30 = .ok (.iaload, 1) := by decide +kernel
theorem dX9_mark_31 : decode cX9_mark 31 = .ok (.iconst 1, 1) := by decide +kernel
theorem dX9_mark_32 : decode cX9_mark 32 = .ok (.isub, 1) := by decide +kernel
theorem dX9_mark_33 : decode cX9_mark 33 = .ok (.i2l, 1) := by decide +kernel
theorem dX9_mark_34 : decode cX9_mark 34 = .ok (.invokestatic 68, 3) := by decide +kernel
theorem dX9_mark_37 : decode cX9_mark 37 = .ok (.ifCond .ne 7, 3) := by decide +kernel
theorem dX9_mark_40 : decode cX9_mark 40 = .ok (.ldc_w 299, 3) := by decide +kernel
theorem dX9_mark_43 : decode cX9_mark 43 = .ok (.ireturn, 1) := by decide +kernel
theorem dX9_mark_44 : decode cX9_mark 44 = .ok (.aload_n 0, 1) := by decide +kernel
theorem dX9_mark_45 : decode cX9_mark 45 = .ok (.getfield 19, 3) := by decide +kernel
theorem dX9_mark_48 : decode cX9_mark 48 = .ok (.iload_n 1, 1) := by decide +kernel
theorem dX9_mark_49 : decode cX9_mark 49 = .ok (.iaload, 1) := by decide +kernel
theorem dX9_mark_50 : decode cX9_mark 50 = .ok (.ifCond .ne 12, 3) := by decide +kernel
theorem dX9_mark_53 : decode cX9_mark 53 = .ok (.iload_n 3, 1) := by decide +kernel
theorem dX9_mark_54 : decode cX9_mark 54 = .ok (.ldc 67, 2) := by decide +kernel
theorem dX9_mark_56 : decode cX9_mark 56 = .ok (.if_icmp .ne 6, 3) := by decide +kernel
theorem dX9_mark_59 : decode cX9_mark 59 = .ok (.ldc 125, 2) := by decide +kernel
theorem dX9_mark_61 : decode cX9_mark 61 = .ok (.ireturn, 1) := by decide +kernel
theorem dX9_mark_62 : decode cX9_mark 62 = .ok (.aload_n 0, 1) := by decide +kernel
theorem dX9_mark_63 : decode cX9_mark 63 = .ok (.getfield 19, 3) := by decide +kernel
theorem dX9_mark_66 : decode cX9_mark 66 = .ok (.iload_n 1, 1) := by decide +kernel
theorem dX9_mark_67 : decode cX9_mark 67 = .ok (.iaload, 1) := by decide +kernel
theorem dX9_mark_68 : decode cX9_mark 68 = .ok (.iconst 1, 1) := by decide +kernel
theorem dX9_mark_69 : decode cX9_mark 69 = .ok (.if_icmp .ne 26, 3) := by decide +kernel
theorem dX9_mark_72 : decode cX9_mark 72 = .ok (.iload_n 3, 1) := by decide +kernel
theorem dX9_mark_73 : decode cX9_mark 73 = .ok (.ldc 67, 2) := by decide +kernel
theorem dX9_mark_75 : decode cX9_mark 75 = .ok (.if_icmp .eq 20, 3) := by decide +kernel
theorem dX9_mark_78 : decode cX9_mark 78 = .ok (.iload_n 3, 1) := by decide +kernel
theorem dX9_mark_79 : decode cX9_mark 79 = .ok (.i2l, 1) := by decide +kernel
theorem dX9_mark_80 : decode cX9_mark 80 = .ok (.ldc2_w 300, 3) := by decide +kernel
theorem dX9_mark_83 : decode cX9_mark 83 = .ok (.ldc2_w 302, 3) := by decide +kernel
theorem dX9_mark_86 : decode cX9_mark 86 = .ok (.invokestatic 68, 3) := by decide +kernel
theorem dX9_mark_89 : decode cX9_mark 89 = .ok (.ifCond .ne 6, 3) := by decide +kernel
theorem dX9_mark_92 : decode cX9_mark 92 = .ok (.ldc 83, 2) := by decide +kernel
theorem dX9_mark_94 : decode cX9_mark 94 = .ok (.ireturn, 1) := by decide +kernel
theorem dX9_mark_95 : decode cX9_mark 95 = .ok (.aload_n 0, 1) := by decide +kernel
theorem dX9_mark_96 : decode cX9_mark 96 = .ok (.getfield 25, 3) := by decide +kernel
theorem dX9_mark_99 : decode cX9_mark 99 = .ok (.bipush 24, 2) := by decide +kernel
theorem dX9_mark_101 : decode cX9_mark 101 = .ok (.iload_n 1, 1) := by decide +kernel
theorem dX9_mark_102 : decode cX9_mark 102 = .ok (.imul, 1) := by decide +kernel
theorem dX9_mark_103 : decode cX9_mark 103 = .ok (.iload_n 2, 1) := by decide +kernel
theorem dX9_mark_104 : decode cX9_mark 104 = .ok (.iadd, 1) := by decide +kernel
theorem dX9_mark_105 : decode cX9_mark 105 = .ok (.aload_n 0, 1) := by decide +kernel
theorem dX9_mark_106 : decode cX9_mark 106 = .ok (.getfield 19, 3) := by decide +kernel
theorem dX9_mark_109 : decode cX9_mark 109 = .ok (.iload_n 1, 1) := by decide +kernel
theorem dX9_mark_110 : decode cX9_mark 110 = .ok (.iaload, 1) := by decide +kernel
theorem dX9_mark_111 : decode cX9_mark 111 = .ok (.ifCond .ne 13, 3) := by decide +kernel
theorem dX9_mark_114 : decode cX9_mark 114 = .ok (.iload_n 3, 1) := by decide +kernel
theorem dX9_mark_115 : decode cX9_mark 115 = .ok (.bipush 16, 2) := by decide +kernel
theorem dX9_mark_117 : decode cX9_mark 117 = .ok (.ishl, 1) := by decide +kernel
theorem dX9_mark_118 : decode cX9_mark 118 = .ok (.bipush 16, 2) := by decide +kernel
theorem dX9_mark_120 : decode cX9_mark 120 = .ok (.ishr, 1) := by decide +kernel
theorem dX9_mark_121 : decode cX9_mark 121 = .ok (.goto 4, 3) := by decide +kernel
theorem dX9_mark_124 : decode cX9_mark 124 = .ok (.iload_n 3, 1) := by decide +kernel
theorem dX9_mark_125 : decode cX9_mark 125 = .ok (.iastore, 1) := by decide +kernel
theorem dX9_mark_126 : decode cX9_mark 126 = .ok (.iconst 1, 1) := by decide +kernel
theorem dX9_mark_127 : decode cX9_mark 127 = .ok (.ireturn, 1) := by decide +kernel
theorem dX9_pour_0 : decode cX9_pour 0 = .ok (.iload_n 1, 1) := by decide +kernel
theorem dX9_pour_1 : decode cX9_pour 1 = .ok (.invokestatic 178, 3) := by decide +kernel
theorem dX9_pour_4 : decode cX9_pour 4 = .ok (.ifCond .ne 6, 3) := by decide +kernel
theorem dX9_pour_7 : decode cX9_pour 7 = .ok (.ldc 83, 2) := by decide +kernel
theorem dX9_pour_9 : decode cX9_pour 9 = .ok (.ireturn, 1) := by decide +kernel
theorem dX9_pour_10 : decode cX9_pour 10 = .ok (.aload_n 0, 1) := by decide +kernel
theorem dX9_pour_11 : decode cX9_pour 11 = .ok (.getfield 19, 3) := by decide +kernel
theorem dX9_pour_14 : decode cX9_pour 14 = .ok (.iload_n 1, 1) := by decide +kernel
theorem dX9_pour_15 : decode cX9_pour 15 = .ok (.iaload, 1) := by decide +kernel
theorem dX9_pour_16 : decode cX9_pour 16 = .ok (.ifCond .ge 6, 3) := by decide +kernel
theorem dX9_pour_19 : decode cX9_pour 19 = .ok (.ldc 181, 2) := by decide +kernel
theorem dX9_pour_21 : decode cX9_pour 21 = .ok (.ireturn, 1) := by decide +kernel
theorem dX9_pour_22 : decode cX9_pour 22 = .ok (.iconst 0, 1) := by decide +kernel
theorem dX9_pour_23 : decode cX9_pour 23 = .ok (.istore_n 2, 1) := by decide +kernel
theorem dX9_pour_24 : decode cX9_pour 24 = .ok (.iconst 0, 1) := by decide +kernel
theorem dX9_pour_25 : decode cX9_pour 25 = .ok (.istore_n 3, 1) := by decide +kernel
theorem dX9_pour_26 : decode cX9_pour 26 = .ok (.iload_n 3, 1) := by decide +kernel
theorem dX9_pour_27 : decode cX9_pour 27 = .ok (.aload_n 0, 1) := by decide +kernel
theorem dX9_pour_28 : decode cX9_pour 28 = .ok (.getfield 22, 3) := by decide +kernel
theorem dX9_pour_31 : decode cX9_pour 31 = .ok (.iload_n 1, 1) := by decide +kernel
theorem dX9_pour_32 : decode cX9_pour 32 = .ok (.iaload, 1) := by decide +kernel
theorem dX9_pour_33 : decode cX9_pour 33 = .ok (.if_icmp .ge 91, 3) := by decide +kernel
theorem dX9_pour_36 : decode cX9_pour 36 = .ok (.iload_n 3, 1) := by decide +kernel
theorem dX9_pour_37 : decode cX9_pour 37 = .ok (.aload_n 0, 1) := by decide +kernel
theorem dX9_pour_38 : decode cX9_pour 38 = .ok (.getfield 7, 3) := by decide +kernel
theorem dX9_pour_41 : decode cX9_pour 41 = .ok (.iconst 0, 1) := by decide +kernel
theorem dX9_pour_42 : decode cX9_pour 42 = .ok (.iaload, 1) := by decide +kernel
theorem dX9_pour_43 : decode cX9_pour 43 = .ok (.if_icmp .ge 81, 3) := by decide +kernel
theorem dX9_pour_46 : decode cX9_pour 46 = .ok (.aload_n 0, 1) := by decide +kernel
theorem dX9_pour_47 : decode cX9_pour 47 = .ok (.getfield 25, 3) := by decide +kernel
theorem dX9_pour_50 : decode cX9_pour 50 = .ok (.bipush 24, 2) := by decide +kernel
theorem dX9_pour_52 : decode cX9_pour 52 = .ok (.iload_n 1, 1) := by decide +kernel
theorem dX9_pour_53 : decode cX9_pour 53 = .ok (.imul, 1) := by decide +kernel
theorem dX9_pour_54 : decode cX9_pour 54 = .ok (.iload_n 3, 1) := by decide +kernel
theorem dX9_pour_55 : decode cX9_pour 55 = .ok (.iadd, 1) := by decide +kernel
theorem dX9_pour_56 : decode cX9_pour 56 = .ok (.iaload, 1) := by decide +kernel
theorem dX9_pour_57 : decode cX9_pour 57 = .ok (.istore 4, 2) := by decide +kernel
theorem dX9_pour_59 : decode cX9_pour 59 = .ok (.iload 4, 2) := by decide +kernel
theorem dX9_pour_61 : decode cX9_pour 61 = .ok (.ldc 67, 2) := by decide +kernel
theorem dX9_pour_63 : decode cX9_pour 63 = .ok (.if_icmp .ne 19, 3) := by decide +kernel
theorem dX9_pour_66 : decode cX9_pour 66 = .ok (.aload_n 0, 1) := by decide +kernel
theorem dX9_pour_67 : decode cX9_pour 67 = .ok (.getfield 7, 3) := by decide +kernel
theorem dX9_pour_70 : decode cX9_pour 70 = .ok (.bipush 10, 2) := by decide +kernel
theorem dX9_pour_72 : decode cX9_pour 72 = .ok (.iconst 3, 1) := by decide +kernel
theorem dX9_pour_73 : decode cX9_pour 73 = .ok (.iload_n 3, 1) := by decide +kernel
theorem dX9_pour_74 : decode cX9_pour 74 = .ok (.imul, 1) := by decide +kernel
theorem dX9_pour_75 : decode cX9_pour 75 = .ok (.iadd, 1) := by decide +kernel
theorem dX9_pour_76 : decode cX9_pour 76 = .ok (.iconst 1, 1) := by decide +kernel
theorem dX9_pour_77 : decode cX9_pour 77 = .ok (.iadd, 1) := by decide +kernel
theorem dX9_pour_78 : decode cX9_pour 78 = .ok (.iaload, 1) := by decide +kernel
theorem dX9_pour_79 : decode cX9_pour 79 = .ok (.goto 10, 3) := by decide +kernel
theorem dX9_pour_82 : decode cX9_pour 82 = .ok (.iload 4, 2) := by decide +kernel
theorem dX9_pour_84 : decode cX9_pour 84 = .ok (.bipush 59, 2) := by decide +kernel
theorem dX9_pour_86 : decode cX9_pour 86 = .ok (.invokestatic 304, 3) := by decide +kernel
theorem dX9_pour_89 : decode cX9_pour 89 = .ok (.istore 5, 2) := by decide +kernel
theorem dX9_pour_91 : decode cX9_pour 91 = .ok (.iload_n 2, 1) := by decide +kernel
theorem dX9_pour_92 : decode cX9_pour 92 = .ok (.iload 5, 2) := by decide +kernel
theorem dX9_pour_94 : decode cX9_pour 94 = .ok (.aload_n 0, 1) := by decide +kernel
theorem dX9_pour_95 : decode cX9_pour 95 = .ok (.bipush 10, 2) := by decide +kernel
theorem dX9_pour_97 : decode cX9_pour 97 = .ok (.iconst 3, 1) := by decide +kernel
theorem dX9_pour_98 : decode cX9_pour 98 = .ok (.iload_n 3, 1) := by decide +kernel
theorem dX9_pour_99 : decode cX9_pour 99 = .ok (.imul, 1) := by decide +kernel
theorem dX9_pour_100 : decode cX9_pour 100 = .ok (.iadd, 1) := by decide +kernel
theorem dX9_pour_101 : decode cX9_pour 101 = .ok (.iconst 1, 1) := by decide +kernel
theorem dX9_pour_102 : decode cX9_pour 102 = .ok (.iadd, 1) := by decide +kernel
theorem dX9_pour_103 : decode cX9_pour 103 = .ok (.iload 5, 2) := by decide +kernel
theorem dX9_pour_105 : decode cX9_pour 105 = .ok (.invokevirtual 126, 3) := by decide +kernel
theorem dX9_pour_108 : decode cX9_pour 108 = .ok (.if_icmp .ne 7, 3) := by decide +kernel
theorem dX9_pour_111 : decode cX9_pour 111 = .ok (.iconst 0, 1) := by decide +kernel
theorem dX9_pour_112 : decode cX9_pour 112 = .ok (.goto 4, 3) := by decide +kernel
theorem dX9_pour_115 : decode cX9_pour 115 = .ok (.iconst 1, 1) := by decide +kernel
theorem dX9_pour_116 : decode cX9_pour 116 = .ok (.iadd, 1) := by decide +kernel
theorem dX9_pour_117 : decode cX9_pour 117 = .ok (.istore_n 2, 1) := by decide +kernel
theorem dX9_pour_118 : decode cX9_pour 118 = .ok (.iinc 3 1, 3) := by decide +kernel
theorem dX9_pour_121 : decode cX9_pour 121 = .ok (.goto (-95), 3) := by decide +kernel
theorem dX9_pour_124 : decode cX9_pour 124 = .ok (.iload_n 2, 1) := by decide +kernel
theorem dX9_pour_125 : decode cX9_pour 125 = .ok (.ireturn, 1) := by decide +kernel
theorem dX9_reads_0 : decode cX9_reads 0 = .ok (.iload_n 1, 1) := by decide +kernel
theorem dX9_reads_1 : decode cX9_reads 1 = .ok (.invokestatic 178, 3) := by decide +kernel
theorem dX9_reads_4 : decode cX9_reads 4 = .ok (.ifCond .ne 6, 3) := by decide +kernel
theorem dX9_reads_7 : decode cX9_reads 7 = .ok (.ldc 83, 2) := by decide +kernel
theorem dX9_reads_9 : decode cX9_reads 9 = .ok (.ireturn, 1) := by decide +kernel
theorem dX9_reads_10 : decode cX9_reads 10 = .ok (.aload_n 0, 1) := by decide +kernel
theorem dX9_reads_11 : decode cX9_reads 11 = .ok (.getfield 19, 3) := by decide +kernel
theorem dX9_reads_14 : decode cX9_reads 14 = .ok (.iload_n 1, 1) := by decide +kernel
theorem dX9_reads_15 : decode cX9_reads 15 = .ok (.iaload, 1) := by decide +kernel
theorem dX9_reads_16 : decode cX9_reads 16 = .ok (.ifCond .ge 6, 3) := by decide +kernel
theorem dX9_reads_19 : decode cX9_reads 19 = .ok (.ldc 181, 2) := by decide +kernel
theorem dX9_reads_21 : decode cX9_reads 21 = .ok (.ireturn, 1) := by decide +kernel
theorem dX9_reads_22 : decode cX9_reads 22 = .ok (.iconst 0, 1) := by decide +kernel
theorem dX9_reads_23 : decode cX9_reads 23 = .ok (.istore_n 2, 1) := by decide +kernel
theorem dX9_reads_24 : decode cX9_reads 24 = .ok (.iload_n 2, 1) := by decide +kernel
theorem dX9_reads_25 : decode cX9_reads 25 = .ok (.aload_n 0, 1) := by decide +kernel
theorem dX9_reads_26 : decode cX9_reads 26 = .ok (.getfield 22, 3) := by decide +kernel
theorem dX9_reads_29 : decode cX9_reads 29 = .ok (.iload_n 1, 1) := by decide +kernel
theorem dX9_reads_30 : decode cX9_reads 30 = .ok (.iaload, 1) := by decide +kernel
theorem dX9_reads_31 : decode cX9_reads 31 = .ok (.if_icmp .ge 52, 3) := by decide +kernel
theorem dX9_reads_34 : decode cX9_reads 34 = .ok (.aload_n 0, 1) := by decide +kernel
theorem dX9_reads_35 : decode cX9_reads 35 = .ok (.getfield 25, 3) := by decide +kernel
theorem dX9_reads_38 : decode cX9_reads 38 = .ok (.bipush 24, 2) := by decide +kernel
theorem dX9_reads_40 : decode cX9_reads 40 = .ok (.iload_n 1, 1) := by decide +kernel
theorem dX9_reads_41 : decode cX9_reads 41 = .ok (.imul, 1) := by decide +kernel
theorem dX9_reads_42 : decode cX9_reads 42 = .ok (.iload_n 2, 1) := by decide +kernel
theorem dX9_reads_43 : decode cX9_reads 43 = .ok (.iadd, 1) := by decide +kernel
theorem dX9_reads_44 : decode cX9_reads 44 = .ok (.iaload, 1) := by decide +kernel
theorem dX9_reads_45 : decode cX9_reads 45 = .ok (.istore_n 3, 1) := by decide +kernel
theorem dX9_reads_46 : decode cX9_reads 46 = .ok (.iload_n 3, 1) := by decide +kernel
theorem dX9_reads_47 : decode cX9_reads 47 = .ok (.ldc 67, 2) := by decide +kernel
theorem dX9_reads_49 : decode cX9_reads 49 = .ok (.if_icmp .eq 28, 3) := by decide +kernel
theorem dX9_reads_52 : decode cX9_reads 52 = .ok (.iload_n 2, 1) := by decide +kernel
theorem dX9_reads_53 : decode cX9_reads 53 = .ok (.aload_n 0, 1) := by decide +kernel
theorem dX9_reads_54 : decode cX9_reads 54 = .ok (.getfield 7, 3) := by decide +kernel
theorem dX9_reads_57 : decode cX9_reads 57 = .ok (.iconst 0, 1) := by decide +kernel
theorem dX9_reads_58 : decode cX9_reads 58 = .ok (.iaload, 1) := by decide +kernel
theorem dX9_reads_59 : decode cX9_reads 59 = .ok (.if_icmp .ge 16, 3) := by decide +kernel
theorem dX9_reads_62 : decode cX9_reads 62 = .ok (.iload_n 3, 1) := by decide +kernel
theorem dX9_reads_63 : decode cX9_reads 63 = .ok (.aload_n 0, 1) := by decide +kernel
theorem dX9_reads_64 : decode cX9_reads 64 = .ok (.iload_n 2, 1) := by decide +kernel
theorem dX9_reads_65 : decode cX9_reads 65 = .ok (.aload_n 0, 1) := by decide +kernel
theorem dX9_reads_66 : decode cX9_reads 66 = .ok (.invokevirtual 111, 3) := by decide +kernel
theorem dX9_reads_69 : decode cX9_reads 69 = .ok (.invokevirtual 115, 3) := by decide +kernel
theorem dX9_reads_72 : decode cX9_reads 72 = .ok (.if_icmp .eq 5, 3) := by decide +kernel
theorem dX9_reads_75 : decode cX9_reads 75 = .ok (.iload_n 2, 1) := by decide +kernel
theorem dX9_reads_76 : decode cX9_reads 76 = .ok (.ireturn, 1) := by decide +kernel
theorem dX9_reads_77 : decode cX9_reads 77 = .ok (.iinc 2 1, 3) := by decide +kernel
theorem dX9_reads_80 : decode cX9_reads 80 = .ok (.goto (-56), 3) := by decide +kernel
theorem dX9_reads_83 : decode cX9_reads 83 = .ok (.ldc 67, 2) := by decide +kernel
theorem dX9_reads_85 : decode cX9_reads 85 = .ok (.ireturn, 1) := by decide +kernel
theorem dX9_copy_0 : decode cX9_copy 0 = .ok (.iload_n 1, 1) := by decide +kernel
theorem dX9_copy_1 : decode cX9_copy 1 = .ok (.invokestatic 178, 3) := by decide +kernel
theorem dX9_copy_4 : decode cX9_copy 4 = .ok (.ifCond .eq 10, 3) := by decide +kernel
theorem dX9_copy_7 : decode cX9_copy 7 = .ok (.iload_n 3, 1) := by decide +kernel
theorem dX9_copy_8 : decode cX9_copy 8 = .ok (.invokestatic 178, 3) := by decide +kernel
theorem dX9_copy_11 : decode cX9_copy 11 = .ok (.ifCond .ne 6, 3) := by decide +kernel
theorem dX9_copy_14 : decode cX9_copy 14 = .ok (.ldc 83, 2) := by decide +kernel
theorem dX9_copy_16 : decode cX9_copy 16 = .ok (.ireturn, 1) := by decide +kernel
theorem dX9_copy_17 : decode cX9_copy 17 = .ok (.aload_n 0, 1) := by decide +kernel
theorem dX9_copy_18 : decode cX9_copy 18 = .ok (.getfield 19, 3) := by decide +kernel
theorem dX9_copy_21 : decode cX9_copy 21 = .ok (.iload_n 1, 1) := by decide +kernel
theorem dX9_copy_22 : decode cX9_copy 22 = .ok (.iaload, 1) := by decide +kernel
theorem dX9_copy_23 : decode cX9_copy 23 = .ok (.ifCond .lt 12, 3) := by decide +kernel
theorem dX9_copy_26 : decode cX9_copy 26 = .ok (.aload_n 0, 1) := by decide +kernel
theorem dX9_copy_27 : decode cX9_copy 27 = .ok (.getfield 19, 3) := by decide +kernel
theorem dX9_copy_30 : decode cX9_copy 30 = .ok (.iload_n 3, 1) := by decide +kernel
theorem dX9_copy_31 : decode cX9_copy 31 = .ok (.iaload, 1) := by decide +kernel
theorem dX9_copy_32 : decode cX9_copy 32 = .ok (.ifCond .ge 6, 3) := by decide +kernel
theorem dX9_copy_35 : decode cX9_copy 35 = .ok (.ldc 181, 2) := by decide +kernel
theorem dX9_copy_37 : decode cX9_copy 37 = .ok (.ireturn, 1) := by decide +kernel
theorem dX9_copy_38 : decode cX9_copy 38 = .ok (.aload_n 0, 1) := by decide +kernel
theorem dX9_copy_39 : decode cX9_copy 39 = .ok (.getfield 19, 3) := by decide +kernel
theorem dX9_copy_42 : decode cX9_copy 42 = .ok (.iload_n 1, 1) := by decide +kernel
theorem dX9_copy_43 : decode cX9_copy 43 = .ok (.iaload, 1) := by decide +kernel
theorem dX9_copy_44 : decode cX9_copy 44 = .ok (.aload_n 0, 1) := by decide +kernel
theorem dX9_copy_45 : decode cX9_copy 45 = .ok (.getfield 19, 3) := by decide +kernel
theorem dX9_copy_48 : decode cX9_copy 48 = .ok (.iload_n 3, 1) := by decide +kernel
theorem dX9_copy_49 : decode cX9_copy 49 = .ok (.iaload, 1) := by decide +kernel
theorem dX9_copy_50 : decode cX9_copy 50 = .ok (.if_icmp .eq 6, 3) := by decide +kernel
theorem dX9_copy_53 : decode cX9_copy 53 = .ok (.ldc 125, 2) := by decide +kernel
theorem dX9_copy_55 : decode cX9_copy 55 = .ok (.ireturn, 1) := by decide +kernel
theorem dX9_copy_56 : decode cX9_copy 56 = .ok (.iload_n 2, 1) := by decide +kernel
theorem dX9_copy_57 : decode cX9_copy 57 = .ok (.ifCond .lt 48, 3) := by decide +kernel
theorem dX9_copy_60 : decode cX9_copy 60 = .ok (.iload 4, 2) := by decide +kernel
theorem dX9_copy_62 : decode cX9_copy 62 = .ok (.ifCond .lt 43, 3) := by decide +kernel
theorem dX9_copy_65 : decode cX9_copy 65 = .ok (.iload 5, 2) := by decide +kernel
theorem dX9_copy_67 : decode cX9_copy 67 = .ok (.ifCond .lt 38, 3) := by decide +kernel
theorem dX9_copy_70 : decode cX9_copy 70 = .ok (.iload_n 2, 1) := by decide +kernel
theorem dX9_copy_71 : decode cX9_copy 71 = .ok (.i2l, 1) := by decide +kernel
theorem dX9_copy_72 : decode cX9_copy 72 = .ok (.iload 5, 2) := by decide +kernel
theorem dX9_copy_74 : decode cX9_copy 74 = .ok (.i2l, 1) := by decide +kernel
theorem dX9_copy_75 : decode cX9_copy 75 = .ok (.ladd, 1) := by decide +kernel
theorem dX9_copy_76 : decode cX9_copy 76 = .ok (.aload_n 0, 1) := by decide +kernel
theorem dX9_copy_77 : decode cX9_copy 77 = .ok (.getfield 22, 3) := by decide +kernel
theorem dX9_copy_80 : decode cX9_copy 80 = .ok (.iload_n 1, 1) := by decide +kernel
theorem dX9_copy_81 : decode cX9_copy 81 = .ok (.iaload, 1) := by decide +kernel
theorem dX9_copy_82 : decode cX9_copy 82 = .ok (.i2l, 1) := by decide +kernel
theorem dX9_copy_83 : decode cX9_copy 83 = .ok (.lcmp, 1) := by decide +kernel
theorem dX9_copy_84 : decode cX9_copy 84 = .ok (.ifCond .gt 21, 3) := by decide +kernel
theorem dX9_copy_87 : decode cX9_copy 87 = .ok (.iload 4, 2) := by decide +kernel
theorem dX9_copy_89 : decode cX9_copy 89 = .ok (.i2l, 1) := by decide +kernel
theorem dX9_copy_90 : decode cX9_copy 90 = .ok (.iload 5, 2) := by decide +kernel
theorem dX9_copy_92 : decode cX9_copy 92 = .ok (.i2l, 1) := by decide +kernel
theorem dX9_copy_93 : decode cX9_copy 93 = .ok (.ladd, 1) := by decide +kernel
theorem dX9_copy_94 : decode cX9_copy 94 = .ok (.aload_n 0, 1) := by decide +kernel
theorem dX9_copy_95 : decode cX9_copy 95 = .ok (.getfield 22, 3) := by decide +kernel
theorem dX9_copy_98 : decode cX9_copy 98 = .ok (.iload_n 3, 1) := by decide +kernel
theorem dX9_copy_99 : decode cX9_copy 99 = .ok (.iaload, 1) := by decide +kernel
theorem dX9_copy_100 : decode cX9_copy 100 = .ok (.i2l, 1) := by decide +kernel
theorem dX9_copy_101 : decode cX9_copy 101 = .ok (.lcmp, 1) := by decide +kernel
theorem dX9_copy_102 : decode cX9_copy 102 = .ok (.ifCond .le 7, 3) := by decide +kernel
theorem dX9_copy_105 : decode cX9_copy 105 = .ok (.ldc_w 299, 3) := by decide +kernel
theorem dX9_copy_108 : decode cX9_copy 108 = .ok (.ireturn, 1) := by decide +kernel
theorem dX9_copy_109 : decode cX9_copy 109 = .ok (.iconst 0, 1) := by decide +kernel
theorem dX9_copy_110 : decode cX9_copy 110 = .ok (.istore 6, 2) := by decide +kernel
theorem dX9_copy_112 : decode cX9_copy 112 = .ok (.iload 6, 2) := by decide +kernel
theorem dX9_copy_114 : decode cX9_copy 114 = .ok (.iload 5, 2) := by decide +kernel
theorem dX9_copy_116 : decode cX9_copy 116 = .ok (.if_icmp .ge 30, 3) := by decide +kernel
theorem dX9_copy_119 : decode cX9_copy 119 = .ok (.aload_n 0, 1) := by decide +kernel
theorem dX9_copy_120 : decode cX9_copy 120 = .ok (.getfield 58, 3) := by decide +kernel
theorem dX9_copy_123 : decode cX9_copy 123 = .ok (.iload 6, 2) := by decide +kernel
theorem dX9_copy_125 : decode cX9_copy 125 = .ok (.aload_n 0, 1) := by decide +kernel
theorem dX9_copy_126 : decode cX9_copy 126 = .ok (.getfield 25, 3) := by decide +kernel
theorem dX9_copy_129 : decode cX9_copy 129 = .ok (.bipush 24, 2) := by decide +kernel
theorem dX9_copy_131 : decode cX9_copy 131 = .ok (.iload_n 1, 1) := by decide +kernel
theorem dX9_copy_132 : decode cX9_copy 132 = .ok (.imul, 1) := by decide +kernel
theorem dX9_copy_133 : decode cX9_copy 133 = .ok (.iload_n 2, 1) := by decide +kernel
theorem dX9_copy_134 : decode cX9_copy 134 = .ok (.iadd, 1) := by decide +kernel
theorem dX9_copy_135 : decode cX9_copy 135 = .ok (.iload 6, 2) := by decide +kernel
theorem dX9_copy_137 : decode cX9_copy 137 = .ok (.iadd, 1) := by decide +kernel
theorem dX9_copy_138 : decode cX9_copy 138 = .ok (.iaload, 1) := by decide +kernel
theorem dX9_copy_139 : decode cX9_copy 139 = .ok (.iastore, 1) := by decide +kernel
theorem dX9_copy_140 : decode cX9_copy 140 = .ok (.iinc 6 1, 3) := by decide +kernel
theorem dX9_copy_143 : decode cX9_copy 143 = .ok (.goto (-31), 3) := by decide +kernel
theorem dX9_copy_146 : decode cX9_copy 146 = .ok (.iconst 0, 1) := by decide +kernel
theorem dX9_copy_147 : decode cX9_copy 147 = .ok (.istore 6, 2) := by decide +kernel
theorem dX9_copy_149 : decode cX9_copy 149 = .ok (.iload 6, 2) := by decide +kernel
theorem dX9_copy_151 : decode cX9_copy 151 = .ok (.iload 5, 2) := by decide +kernel
theorem dX9_copy_153 : decode cX9_copy 153 = .ok (.if_icmp .ge 31, 3) := by decide +kernel
theorem dX9_copy_156 : decode cX9_copy 156 = .ok (.aload_n 0, 1) := by decide +kernel
theorem dX9_copy_157 : decode cX9_copy 157 = .ok (.getfield 25, 3) := by decide +kernel
theorem dX9_copy_160 : decode cX9_copy 160 = .ok (.bipush 24, 2) := by decide +kernel
theorem dX9_copy_162 : decode cX9_copy 162 = .ok (.iload_n 3, 1) := by decide +kernel
theorem dX9_copy_163 : decode cX9_copy 163 = .ok (.imul, 1) := by decide +kernel
theorem dX9_copy_164 : decode cX9_copy 164 = .ok (.iload 4, 2) := by decide +kernel
theorem dX9_copy_166 : decode cX9_copy 166 = .ok (.iadd, 1) := by decide +kernel
theorem dX9_copy_167 : decode cX9_copy 167 = .ok (.iload 6, 2) := by decide +kernel
theorem dX9_copy_169 : decode cX9_copy 169 = .ok (.iadd, 1) := by decide +kernel
theorem dX9_copy_170 : decode cX9_copy 170 = .ok (.aload_n 0, 1) := by decide +kernel
theorem dX9_copy_171 : decode cX9_copy 171 = .ok (.getfield 58, 3) := by decide +kernel
theorem dX9_copy_174 : decode cX9_copy 174 = .ok (.iload 6, 2) := by decide +kernel
theorem dX9_copy_176 : decode cX9_copy 176 = .ok (.iaload, 1) := by decide +kernel
theorem dX9_copy_177 : decode cX9_copy 177 = .ok (.iastore, 1) := by decide +kernel
theorem dX9_copy_178 : decode cX9_copy 178 = .ok (.iinc 6 1, 3) := by decide +kernel
theorem dX9_copy_181 : decode cX9_copy 181 = .ok (.goto (-32), 3) := by decide +kernel
theorem dX9_copy_184 : decode cX9_copy 184 = .ok (.iload 5, 2) := by decide +kernel
theorem dX9_copy_186 : decode cX9_copy 186 = .ok (.ireturn, 1) := by decide +kernel
theorem dX9_isSlot_0 : decode cX9_isSlot 0 = .ok (.iload_n 0, 1) := by decide +kernel
theorem dX9_isSlot_1 : decode cX9_isSlot 1 = .ok (.i2l, 1) := by decide +kernel
theorem dX9_isSlot_2 : decode cX9_isSlot 2 = .ok (.lconst 0, 1) := by decide +kernel
theorem dX9_isSlot_3 : decode cX9_isSlot 3 = .ok (.ldc2_w 307, 3) := by decide +kernel
theorem dX9_isSlot_6 : decode cX9_isSlot 6 = .ok (.invokestatic 68, 3) := by decide +kernel
theorem dX9_isSlot_9 : decode cX9_isSlot 9 = .ok (.ireturn, 1) := by decide +kernel
theorem dX9_lay_0 : decode cX9_lay 0 = .ok (.iload_n 2, 1) := by decide +kernel
theorem dX9_lay_1 : decode cX9_lay 1 = .ok (.ifCond .eq 33, 3) := by decide +kernel
theorem dX9_lay_4 : decode cX9_lay 4 = .ok (.iload_n 2, 1) := by decide +kernel
theorem dX9_lay_5 : decode cX9_lay 5 = .ok (.iconst 3, 1) := by decide +kernel
theorem dX9_lay_6 : decode cX9_lay 6 = .ok (.if_icmp .eq 28, 3) := by decide +kernel
theorem dX9_lay_9 : decode cX9_lay 9 = .ok (.iload_n 2, 1) := by decide +kernel
theorem dX9_lay_10 : decode cX9_lay 10 = .ok (.iconst 1, 1) := by decide +kernel
theorem dX9_lay_11 : decode cX9_lay 11 = .ok (.if_icmp .ne 11, 3) := by decide +kernel
theorem dX9_lay_14 : decode cX9_lay 14 = .ok (.aload_n 0, 1) := by decide +kernel
theorem dX9_lay_15 : decode cX9_lay 15 = .ok (.iload_n 3, 1) := by decide +kernel
theorem dX9_lay_16 : decode cX9_lay 16 = .ok (.invokevirtual 107, 3) := by decide +kernel
theorem dX9_lay_19 : decode cX9_lay 19 = .ok (.ifCond .ne 15, 3) := by decide +kernel
theorem dX9_lay_22 : decode cX9_lay 22 = .ok (.iload_n 2, 1) := by decide +kernel
theorem dX9_lay_23 : decode cX9_lay 23 = .ok (.iconst 2, 1) := by decide +kernel
theorem dX9_lay_24 : decode cX9_lay 24 = .ok (.if_icmp .ne 14, 3) := by decide +kernel
theorem dX9_lay_27 : decode cX9_lay 27 = .ok (.iload_n 3, 1) := by decide +kernel
theorem dX9_lay_28 : decode cX9_lay 28 = .ok (.invokestatic 178, 3) := by decide +kernel
theorem dX9_lay_31 : decode cX9_lay 31 = .ok (.ifCond .eq 7, 3) := by decide +kernel
theorem dX9_lay_34 : decode cX9_lay 34 = .ok (.iconst 1, 1) := by decide +kernel
theorem dX9_lay_35 : decode cX9_lay 35 = .ok (.goto 4, 3) := by decide +kernel
theorem dX9_lay_38 : decode cX9_lay 38 = .ok (.iconst 0, 1) := by decide +kernel
theorem dX9_lay_39 : decode cX9_lay 39 = .ok (.istore 4, 2) := by decide +kernel
theorem dX9_lay_41 : decode cX9_lay 41 = .ok (.iload_n 1, 1) := by decide +kernel
theorem dX9_lay_42 : decode cX9_lay 42 = .ok (.invokestatic 309, 3) := by decide +kernel
theorem dX9_lay_45 : decode cX9_lay 45 = .ok (.ifCond .eq 8, 3) := by decide +kernel
theorem dX9_lay_48 : decode cX9_lay 48 = .ok (.iload 4, 2) := by decide +kernel
theorem dX9_lay_50 : decode cX9_lay 50 = .ok (.ifCond .ne 6, 3) := by decide +kernel
theorem dX9_lay_53 : decode cX9_lay 53 = .ok (.ldc 83, 2) := by decide +kernel
theorem dX9_lay_55 : decode cX9_lay 55 = .ok (.ireturn, 1) := by decide +kernel
theorem dX9_lay_56 : decode cX9_lay 56 = .ok (.iload_n 2, 1) := by decide +kernel
theorem dX9_lay_57 : decode cX9_lay 57 = .ok (.iconst 2, 1) := by decide +kernel
theorem dX9_lay_58 : decode cX9_lay 58 = .ok (.if_icmp .ne 15, 3) := by decide +kernel
theorem dX9_lay_61 : decode cX9_lay 61 = .ok (.aload_n 0, 1) := by decide +kernel
theorem dX9_lay_62 : decode cX9_lay 62 = .ok (.getfield 19, 3) := by decide +kernel
theorem dX9_lay_65 : decode cX9_lay 65 = .ok (.iload_n 3, 1) := by decide +kernel
theorem dX9_lay_66 : decode cX9_lay 66 = .ok (.iaload, 1) := by decide +kernel
theorem dX9_lay_67 : decode cX9_lay 67 = .ok (.ifCond .ge 6, 3) := by decide +kernel
theorem dX9_lay_70 : decode cX9_lay 70 = .ok (.ldc 181, 2) := by decide +kernel
theorem dX9_lay_72 : decode cX9_lay 72 = .ok (.ireturn, 1) := by decide +kernel
theorem dX9_lay_73 : decode cX9_lay 73 = .ok (.aload_n 0, 1) := by decide +kernel
theorem dX9_lay_74 : decode cX9_lay 74 = .ok (.getfield 28, 3) := by decide +kernel
theorem dX9_lay_77 : decode cX9_lay 77 = .ok (.iload_n 1, 1) := by decide +kernel
theorem dX9_lay_78 : decode cX9_lay 78 = .ok (.iaload, 1) := by decide +kernel
theorem dX9_lay_79 : decode cX9_lay 79 = .ok (.istore 5, 2) := by decide +kernel
theorem dX9_lay_81 : decode cX9_lay 81 = .ok (.aload_n 0, 1) := by decide +kernel
theorem dX9_lay_82 : decode cX9_lay 82 = .ok (.getfield 28, 3) := by decide +kernel
theorem dX9_lay_85 : decode cX9_lay 85 = .ok (.iload_n 1, 1) := by decide +kernel
theorem dX9_lay_86 : decode cX9_lay 86 = .ok (.iload_n 2, 1) := by decide +kernel
theorem dX9_lay_87 : decode cX9_lay 87 = .ok (.iastore, 1) := by decide +kernel
theorem dX9_lay_88 : decode cX9_lay 88 = .ok (.aload_n 0, 1) := by decide +kernel
theorem dX9_lay_89 : decode cX9_lay 89 = .ok (.getfield 31, 3) := by decide +kernel
theorem dX9_lay_92 : decode cX9_lay 92 = .ok (.iload_n 1, 1) := by decide +kernel
theorem dX9_lay_93 : decode cX9_lay 93 = .ok (.iload_n 2, 1) := by decide +kernel
theorem dX9_lay_94 : decode cX9_lay 94 = .ok (.iconst 1, 1) := by decide +kernel
theorem dX9_lay_95 : decode cX9_lay 95 = .ok (.if_icmp .ne 12, 3) := by decide +kernel
theorem dX9_lay_98 : decode cX9_lay 98 = .ok (.aload_n 0, 1) := by decide +kernel
theorem dX9_lay_99 : decode cX9_lay 99 = .ok (.iload_n 3, 1) := by decide +kernel
theorem dX9_lay_100 : decode cX9_lay 100 = .ok (.iconst 0, 1) := by decide +kernel
theorem dX9_lay_101 : decode cX9_lay 101 = .ok (.invokevirtual 88, 3) := by decide +kernel
theorem dX9_lay_104 : decode cX9_lay 104 = .ok (.goto 4, 3) := by decide +kernel
theorem dX9_lay_107 : decode cX9_lay 107 = .ok (.iload_n 3, 1) := by decide +kernel
theorem dX9_lay_108 : decode cX9_lay 108 = .ok (.iastore, 1) := by decide +kernel
theorem dX9_lay_109 : decode cX9_lay 109 = .ok (.aload_n 0, 1) := by decide +kernel
theorem dX9_lay_110 : decode cX9_lay 110 = .ok (.getfield 34, 3) := by decide +kernel
theorem dX9_lay_113 : decode cX9_lay 113 = .ok (.iload_n 1, 1) := by decide +kernel
theorem dX9_lay_114 : decode cX9_lay 114 = .ok (.iload_n 2, 1) := by decide +kernel
theorem dX9_lay_115 : decode cX9_lay 115 = .ok (.iconst 1, 1) := by decide +kernel
theorem dX9_lay_116 : decode cX9_lay 116 = .ok (.if_icmp .ne 11, 3) := by decide +kernel
theorem dX9_lay_119 : decode cX9_lay 119 = .ok (.aload_n 0, 1) := by decide +kernel
theorem dX9_lay_120 : decode cX9_lay 120 = .ok (.iload_n 3, 1) := by decide +kernel
theorem dX9_lay_121 : decode cX9_lay 121 = .ok (.invokevirtual 118, 3) := by decide +kernel
theorem dX9_lay_124 : decode cX9_lay 124 = .ok (.goto 4, 3) := by decide +kernel
theorem dX9_lay_127 : decode cX9_lay 127 = .ok (.iconst 0, 1) := by decide +kernel
theorem dX9_lay_128 : decode cX9_lay 128 = .ok (.iastore, 1) := by decide +kernel
theorem dX9_lay_129 : decode cX9_lay 129 = .ok (.iload_n 2, 1) := by decide +kernel
theorem dX9_lay_130 : decode cX9_lay 130 = .ok (.iconst 2, 1) := by decide +kernel
theorem dX9_lay_131 : decode cX9_lay 131 = .ok (.if_icmp .ne 55, 3) := by decide +kernel
theorem dX9_lay_134 : decode cX9_lay 134 = .ok (.aload_n 0, 1) := by decide +kernel
theorem dX9_lay_135 : decode cX9_lay 135 = .ok (.getfield 37, 3) := by decide +kernel
theorem dX9_lay_138 : decode cX9_lay 138 = .ok (.iload_n 1, 1) := by decide +kernel
theorem dX9_lay_139 : decode cX9_lay 139 = .ok (.aload_n 0, 1) := by decide +kernel
theorem dX9_lay_140 : decode cX9_lay 140 = .ok (.getfield 22, 3) := by decide +kernel
theorem dX9_lay_143 : decode cX9_lay 143 = .ok (.iload_n 3, 1) := by decide +kernel
theorem dX9_lay_144 : decode cX9_lay 144 = .ok (.iaload, 1) := by decide +kernel
theorem dX9_lay_145 : decode cX9_lay 145 = .ok (.iastore, 1) := by decide +kernel
theorem dX9_lay_146 : decode cX9_lay 146 = .ok (.iconst 0, 1) := by decide +kernel
theorem dX9_lay_147 : decode cX9_lay 147 = .ok (.istore 6, 2) := by decide +kernel
theorem dX9_lay_149 : decode cX9_lay 149 = .ok (.iload 6, 2) := by decide +kernel
theorem dX9_lay_151 : decode cX9_lay 151 = .ok (.bipush 24, 2) := by decide +kernel
theorem dX9_lay_153 : decode cX9_lay 153 = .ok (.if_icmp .ge 33, 3) := by decide +kernel
theorem dX9_lay_156 : decode cX9_lay 156 = .ok (.aload_n 0, 1) := by decide +kernel
theorem dX9_lay_157 : decode cX9_lay 157 = .ok (.getfield 40, 3) := by decide +kernel
theorem dX9_lay_160 : decode cX9_lay 160 = .ok (.bipush 24, 2) := by decide +kernel
theorem dX9_lay_162 : decode cX9_lay 162 = .ok (.iload_n 1, 1) := by decide +kernel
theorem dX9_lay_163 : decode cX9_lay 163 = .ok (.imul, 1) := by decide +kernel
theorem dX9_lay_164 : decode cX9_lay 164 = .ok (.iload 6, 2) := by decide +kernel
theorem dX9_lay_166 : decode cX9_lay 166 = .ok (.iadd, 1) := by decide +kernel
theorem dX9_lay_167 : decode cX9_lay 167 = .ok (.aload_n 0, 1) := by decide +kernel
theorem dX9_lay_168 : decode cX9_lay 168 = .ok (.getfield 25, 3) := by decide +kernel
theorem dX9_lay_171 : decode cX9_lay 171 = .ok (.bipush 24, 2) := by decide +kernel
theorem dX9_lay_173 : decode cX9_lay 173 = .ok (.iload_n 3, 1) := by decide +kernel
theorem dX9_lay_174 : decode cX9_lay 174 = .ok (.imul, 1) := by decide +kernel
theorem dX9_lay_175 : decode cX9_lay 175 = .ok (.iload 6, 2) := by decide +kernel
theorem dX9_lay_177 : decode cX9_lay 177 = .ok (.iadd, 1) := by decide +kernel
theorem dX9_lay_178 : decode cX9_lay 178 = .ok (.iaload, 1) := by decide +kernel
theorem dX9_lay_179 : decode cX9_lay 179 = .ok (.iastore, 1) := by decide +kernel
theorem dX9_lay_180 : decode cX9_lay 180 = .ok (.iinc 6 1, 3) := by decide +kernel
theorem dX9_lay_183 : decode cX9_lay 183 = .ok (.goto (-34), 3) := by decide +kernel
theorem dX9_lay_186 : decode cX9_lay 186 = .ok (.iload 5, 2) := by decide +kernel
theorem dX9_lay_188 : decode cX9_lay 188 = .ok (.ireturn, 1) := by decide +kernel
theorem dX9_ask_0 : decode cX9_ask 0 = .ok (.iload_n 1, 1) := by decide +kernel
theorem dX9_ask_1 : decode cX9_ask 1 = .ok (.invokestatic 309, 3) := by decide +kernel
theorem dX9_ask_4 : decode cX9_ask 4 = .ok (.ifCond .eq 15, 3) := by decide +kernel
theorem dX9_ask_7 : decode cX9_ask 7 = .ok (.iload_n 2, 1) := by decide +kernel
theorem dX9_ask_8 : decode cX9_ask 8 = .ok (.i2l, 1) := by decide +kernel
theorem dX9_ask_9 : decode cX9_ask 9 = .ok (.lconst 0, 1) := by decide +kernel
theorem dX9_ask_10 : decode cX9_ask 10 = .ok (.ldc2_w 77, 3) := by decide +kernel
theorem dX9_ask_13 : decode cX9_ask 13 = .ok (.invokestatic 68, 3) := by decide +kernel
theorem dX9_ask_16 : decode cX9_ask 16 = .ok (.ifCond .ne 6, 3) := by decide +kernel
theorem dX9_ask_19 : decode cX9_ask 19 = .ok (.ldc 83, 2) := by decide +kernel
theorem dX9_ask_21 : decode cX9_ask 21 = .ok (.ireturn, 1) := by decide +kernel
theorem dX9_ask_22 : decode cX9_ask 22 = .ok (.aload_n 0, 1) := by decide +kernel
theorem dX9_ask_23 : decode cX9_ask 23 = .ok (.getfield 28, 3) := by decide +kernel
theorem dX9_ask_26 : decode cX9_ask 26 = .ok (.iload_n 1, 1) := by decide +kernel
theorem dX9_ask_27 : decode cX9_ask 27 = .ok (.iaload, 1) := by decide +kernel
theorem dX9_ask_28 : decode cX9_ask 28 = .ok (.ifCond .ne 6, 3) := by decide +kernel
theorem dX9_ask_31 : decode cX9_ask 31 = .ok (.ldc 181, 2) := by decide +kernel
theorem dX9_ask_33 : decode cX9_ask 33 = .ok (.ireturn, 1) := by decide +kernel
theorem dX9_ask_34 : decode cX9_ask 34 = .ok (.aload_n 0, 1) := by decide +kernel
theorem dX9_ask_35 : decode cX9_ask 35 = .ok (.getfield 28, 3) := by decide +kernel
theorem dX9_ask_38 : decode cX9_ask 38 = .ok (.iload_n 1, 1) := by decide +kernel
theorem dX9_ask_39 : decode cX9_ask 39 = .ok (.iaload, 1) := by decide +kernel
theorem dX9_ask_40 : decode cX9_ask 40 = .ok (.iconst 1, 1) := by decide +kernel
theorem dX9_ask_41 : decode cX9_ask 41 = .ok (.if_icmp .ne 25, 3) := by decide +kernel
theorem dX9_ask_44 : decode cX9_ask 44 = .ok (.aload_n 0, 1) := by decide +kernel
theorem dX9_ask_45 : decode cX9_ask 45 = .ok (.getfield 31, 3) := by decide +kernel
theorem dX9_ask_48 : decode cX9_ask 48 = .ok (.iload_n 1, 1) := by decide +kernel
theorem dX9_ask_49 : decode cX9_ask 49 = .ok (.iaload, 1) := by decide +kernel
theorem dX9_ask_50 : decode cX9_ask 50 = .ok (.iload_n 2, 1) := by decide +kernel
theorem dX9_ask_51 : decode cX9_ask 51 = .ok (.invokestatic 121, 3) := by decide +kernel
theorem dX9_ask_54 : decode cX9_ask 54 = .ok (.ifCond .eq 12, 3) := by decide +kernel
theorem dX9_ask_57 : decode cX9_ask 57 = .ok (.aload_n 0, 1) := by decide +kernel
theorem dX9_ask_58 : decode cX9_ask 58 = .ok (.getfield 34, 3) := by decide +kernel
theorem dX9_ask_61 : decode cX9_ask 61 = .ok (.iload_n 1, 1) := by decide +kernel
theorem dX9_ask_62 : decode cX9_ask 62 = .ok (.iaload, 1) := by decide +kernel
theorem dX9_ask_63 : decode cX9_ask 63 = .ok (.goto 5, 3) := by decide +kernel
theorem dX9_ask_66 : decode cX9_ask 66 = .ok (.ldc 125, 2) := by decide +kernel
theorem dX9_ask_68 : decode cX9_ask 68 = .ok (.ireturn, 1) := by decide +kernel
theorem dX9_item_0 : decode cX9_item 0 = .ok (.iload_n 1, 1) := by decide +kernel
theorem dX9_item_1 : decode cX9_item 1 = .ok (.invokestatic 309, 3) := by decide +kernel
theorem dX9_item_4 : decode cX9_item 4 = .ok (.ifCond .ne 6, 3) := by decide +kernel
theorem dX9_item_7 : decode cX9_item 7 = .ok (.ldc 83, 2) := by decide +kernel
theorem dX9_item_9 : decode cX9_item 9 = .ok (.ireturn, 1) := by decide +kernel
theorem dX9_item_10 : decode cX9_item 10 = .ok (.aload_n 0, 1) := by decide +kernel
theorem dX9_item_11 : decode cX9_item 11 = .ok (.getfield 28, 3) := by decide +kernel
theorem dX9_item_14 : decode cX9_item 14 = .ok (.iload_n 1, 1) := by decide +kernel
theorem dX9_item_15 : decode cX9_item 15 = .ok (.iaload, 1) := by decide +kernel
theorem dX9_item_16 : decode cX9_item 16 = .ok (.iconst 2, 1) := by decide +kernel
theorem dX9_item_17 : decode cX9_item 17 = .ok (.if_icmp .eq 20, 3) := by decide +kernel
theorem dX9_item_20 : decode cX9_item 20 = .ok (.aload_n 0, 1) := by decide +kernel
theorem dX9_item_21 : decode cX9_item 21 = .ok (.getfield 28, 3) := by decide +kernel
theorem dX9_item_24 : decode cX9_item 24 = .ok (.iload_n 1, 1) := by decide +kernel
theorem dX9_item_25 : decode cX9_item 25 = .ok (.iaload, 1) := by decide +kernel
theorem dX9_item_26 : decode cX9_item 26 = .ok (.ifCond .ne 8, 3) := by decide +kernel
theorem dX9_item_29 : decode cX9_item 29 = .ok (.ldc 181, 2) := by decide +kernel
theorem dX9_item_31 : decode cX9_item 31 = .ok (.goto 5, 3) := by decide +kernel
theorem dX9_item_34 : decode cX9_item 34 = .ok (.ldc 125, 2) := by decide +kernel
theorem dX9_item_36 : decode cX9_item 36 = .ok (.ireturn, 1) := by decide +kernel
theorem dX9_item_37 : decode cX9_item 37 = .ok (.iload_n 2, 1) := by decide +kernel
theorem dX9_item_38 : decode cX9_item 38 = .ok (.i2l, 1) := by decide +kernel
theorem dX9_item_39 : decode cX9_item 39 = .ok (.lconst 0, 1) := by decide +kernel
theorem dX9_item_40 : decode cX9_item 40 = .ok (.aload_n 0, 1) := by decide +kernel
theorem dX9_item_41 : decode cX9_item 41 = .ok (.getfield 37, 3) := by decide +kernel
theorem dX9_item_44 : decode cX9_item 44 = .ok (.iload_n 1, 1) := by decide +kernel
theorem dX9_item_45 : decode cX9_item 45 = .ok (.iaload, 1) := by decide +kernel
theorem dX9_item_46 : decode cX9_item 46 = .ok (.iconst 1, 1) := by decide +kernel
theorem dX9_item_47 : decode cX9_item 47 = .ok (.isub, 1) := by decide +kernel
theorem dX9_item_48 : decode cX9_item 48 = .ok (.i2l, 1) := by decide +kernel
theorem dX9_item_49 : decode cX9_item 49 = .ok (.invokestatic 68, 3) := by decide +kernel
theorem dX9_item_52 : decode cX9_item 52 = .ok (.ifCond .ne 7, 3) := by decide +kernel
theorem dX9_item_55 : decode cX9_item 55 = .ok (.ldc_w 299, 3) := by decide +kernel
theorem dX9_item_58 : decode cX9_item 58 = .ok (.ireturn, 1) := by decide +kernel
theorem dX9_item_59 : decode cX9_item 59 = .ok (.aload_n 0, 1) := by decide +kernel
theorem dX9_item_60 : decode cX9_item 60 = .ok (.getfield 40, 3) := by decide +kernel
theorem dX9_item_63 : decode cX9_item 63 = .ok (.bipush 24, 2) := by decide +kernel
theorem dX9_item_65 : decode cX9_item 65 = .ok (.iload_n 1, 1) := by decide +kernel
theorem dX9_item_66 : decode cX9_item 66 = .ok (.imul, 1) := by decide +kernel
theorem dX9_item_67 : decode cX9_item 67 = .ok (.iload_n 2, 1) := by decide +kernel
theorem dX9_item_68 : decode cX9_item 68 = .ok (.iadd, 1) := by decide +kernel
theorem dX9_item_69 : decode cX9_item 69 = .ok (.iaload, 1) := by decide +kernel
theorem dX9_item_70 : decode cX9_item 70 = .ok (.istore_n 3, 1) := by decide +kernel
theorem dX9_item_71 : decode cX9_item 71 = .ok (.iload_n 3, 1) := by decide +kernel
theorem dX9_item_72 : decode cX9_item 72 = .ok (.ldc 67, 2) := by decide +kernel
theorem dX9_item_74 : decode cX9_item 74 = .ok (.if_icmp .ne 8, 3) := by decide +kernel
theorem dX9_item_77 : decode cX9_item 77 = .ok (.ldc 125, 2) := by decide +kernel
theorem dX9_item_79 : decode cX9_item 79 = .ok (.goto 4, 3) := by decide +kernel
theorem dX9_item_82 : decode cX9_item 82 = .ok (.iload_n 3, 1) := by decide +kernel
theorem dX9_item_83 : decode cX9_item 83 = .ok (.ireturn, 1) := by decide +kernel
theorem dX9_rest_0 : decode cX9_rest 0 = .ok (.iload_n 1, 1) := by decide +kernel
theorem dX9_rest_1 : decode cX9_rest 1 = .ok (.invokestatic 309, 3) := by decide +kernel
theorem dX9_rest_4 : decode cX9_rest 4 = .ok (.ifCond .ne 6, 3) := by decide +kernel
theorem dX9_rest_7 : decode cX9_rest 7 = .ok (.ldc 83, 2) := by decide +kernel
theorem dX9_rest_9 : decode cX9_rest 9 = .ok (.ireturn, 1) := by decide +kernel
theorem dX9_rest_10 : decode cX9_rest 10 = .ok (.aload_n 0, 1) := by decide +kernel
theorem dX9_rest_11 : decode cX9_rest 11 = .ok (.getfield 28, 3) := by decide +kernel
theorem dX9_rest_14 : decode cX9_rest 14 = .ok (.iload_n 1, 1) := by decide +kernel
theorem dX9_rest_15 : decode cX9_rest 15 = .ok (.iaload, 1) := by decide +kernel
theorem dX9_rest_16 : decode cX9_rest 16 = .ok (.iconst 3, 1) := by decide +kernel
theorem dX9_rest_17 : decode cX9_rest 17 = .ok (.if_icmp .eq 20, 3) := by decide +kernel
theorem dX9_rest_20 : decode cX9_rest 20 = .ok (.aload_n 0, 1) := by decide +kernel
theorem dX9_rest_21 : decode cX9_rest 21 = .ok (.getfield 28, 3) := by decide +kernel
theorem dX9_rest_24 : decode cX9_rest 24 = .ok (.iload_n 1, 1) := by decide +kernel
theorem dX9_rest_25 : decode cX9_rest 25 = .ok (.iaload, 1) := by decide +kernel
theorem dX9_rest_26 : decode cX9_rest 26 = .ok (.ifCond .ne 8, 3) := by decide +kernel
theorem dX9_rest_29 : decode cX9_rest 29 = .ok (.ldc 181, 2) := by decide +kernel
theorem dX9_rest_31 : decode cX9_rest 31 = .ok (.goto 5, 3) := by decide +kernel
theorem dX9_rest_34 : decode cX9_rest 34 = .ok (.ldc 125, 2) := by decide +kernel
theorem dX9_rest_36 : decode cX9_rest 36 = .ok (.ireturn, 1) := by decide +kernel
theorem dX9_rest_37 : decode cX9_rest 37 = .ok (.iload_n 2, 1) := by decide +kernel
theorem dX9_rest_38 : decode cX9_rest 38 = .ok (.ifCond .ne 9, 3) := by decide +kernel
theorem dX9_rest_41 : decode cX9_rest 41 = .ok (.ldc_w 312, 3) := by decide +kernel
theorem dX9_rest_44 : decode cX9_rest 44 = .ok (.goto 11, 3) := by decide +kernel
theorem dX9_rest_47 : decode cX9_rest 47 = .ok (.aload_n 0, 1) := by decide +kernel
theorem dX9_rest_48 : decode cX9_rest 48 = .ok (.getfield 31, 3) := by decide +kernel
theorem dX9_rest_51 : decode cX9_rest 51 = .ok (.iload_n 1, 1) := by decide +kernel
theorem dX9_rest_52 : decode cX9_rest 52 = .ok (.iaload, 1) := by decide +kernel
theorem dX9_rest_53 : decode cX9_rest 53 = .ok (.iload_n 2, 1) := by decide +kernel
theorem dX9_rest_54 : decode cX9_rest 54 = .ok (.irem, 1) := by decide +kernel
theorem dX9_rest_55 : decode cX9_rest 55 = .ok (.ireturn, 1) := by decide +kernel
theorem dX9_tell_0 : decode cX9_tell 0 = .ok (.aload_n 0, 1) := by decide +kernel
theorem dX9_tell_1 : decode cX9_tell 1 = .ok (.getfield 313, 3) := by decide +kernel
theorem dX9_tell_4 : decode cX9_tell 4 = .ok (.bipush 60, 2) := by decide +kernel
theorem dX9_tell_6 : decode cX9_tell 6 = .ok (.if_icmp .ne 6, 3) := by decide +kernel
theorem dX9_tell_9 : decode cX9_tell 9 = .ok (.ldc 84, 2) := by decide +kernel
theorem dX9_tell_11 : decode cX9_tell 11 = .ok (.ireturn, 1) := by decide +kernel
theorem dX9_tell_12 : decode cX9_tell 12 = .ok (.aload_n 0, 1) := by decide +kernel
theorem dX9_tell_13 : decode cX9_tell 13 = .ok (.getfield 61, 3) := by decide +kernel
theorem dX9_tell_16 : decode cX9_tell 16 = .ok (.aload_n 0, 1) := by decide +kernel
theorem dX9_tell_17 : decode cX9_tell 17 = .ok (.getfield 313, 3) := by decide +kernel
theorem dX9_tell_20 : decode cX9_tell 20 = .ok (.iload_n 1, 1) := by decide +kernel
theorem dX9_tell_21 : decode cX9_tell 21 = .ok (.iastore, 1) := by decide +kernel
theorem dX9_tell_22 : decode cX9_tell 22 = .ok (.aload_n 0, 1) := by decide +kernel
theorem dX9_tell_23 : decode cX9_tell 23 = .ok (.dup, 1) := by decide +kernel
theorem dX9_tell_24 : decode cX9_tell 24 = .ok (.getfield 313, 3) := by decide +kernel
theorem dX9_tell_27 : decode cX9_tell 27 = .ok (.iconst 1, 1) := by decide +kernel
theorem dX9_tell_28 : decode cX9_tell 28 = .ok (.iadd, 1) := by decide +kernel
theorem dX9_tell_29 : decode cX9_tell 29 = .ok (.putfield 313, 3) := by decide +kernel
theorem dX9_tell_32 : decode cX9_tell 32 = .ok (.aload_n 0, 1) := by decide +kernel
theorem dX9_tell_33 : decode cX9_tell 33 = .ok (.getfield 313, 3) := by decide +kernel
theorem dX9_tell_36 : decode cX9_tell 36 = .ok (.ireturn, 1) := by decide +kernel
theorem dX9_setAside_0 : decode cX9_setAside 0 = .ok (.iconst 0, 1) := by decide +kernel
theorem dX9_setAside_1 : decode cX9_setAside 1 = .ok (.istore_n 3, 1) := by decide +kernel
theorem dX9_setAside_2 : decode cX9_setAside 2 = .ok (.iload_n 3, 1) := by decide +kernel
theorem dX9_setAside_3 : decode cX9_setAside 3 = .ok (.sipush 2840, 3) := by decide +kernel
theorem dX9_setAside_6 : decode cX9_setAside 6 = .ok (.if_icmp .ge 15, 3) := by decide +kernel
theorem dX9_setAside_9 : decode cX9_setAside 9 = .ok (.aload_n 2, 1) := by decide +kernel
theorem dX9_setAside_10 : decode cX9_setAside 10 = .ok (.iload_n 3, 1) := by decide +kernel
theorem dX9_setAside_11 : decode cX9_setAside 11 = .ok (.aload_n 1, 1) := by decide +kernel
theorem dX9_setAside_12 : decode cX9_setAside 12 = .ok (.iload_n 3, 1) := by decide +kernel
theorem dX9_setAside_13 : decode cX9_setAside 13 = .ok (.iaload, 1) := by decide +kernel
theorem dX9_setAside_14 : decode cX9_setAside 14 = .ok (.iastore, 1) := by decide +kernel
theorem dX9_setAside_15 : decode cX9_setAside 15 = .ok (.iinc 3 1, 3) := by decide +kernel
theorem dX9_setAside_18 : decode cX9_setAside 18 = .ok (.goto (-16), 3) := by decide +kernel
theorem dX9_setAside_21 : decode cX9_setAside 21 = .ok (.return_, 1) := by decide +kernel
theorem dX9_check_0 : decode cX9_check 0 = .ok (.aload_n 0, 1) := by decide +kernel
theorem dX9_check_1 : decode cX9_check 1 = .ok (.getfield 313, 3) := by decide +kernel
theorem dX9_check_4 : decode cX9_check 4 = .ok (.istore_n 2, 1) := by decide +kernel
theorem dX9_check_5 : decode cX9_check 5 = .ok (.aload_n 0, 1) := by decide +kernel
theorem dX9_check_6 : decode cX9_check 6 = .ok (.iconst 0, 1) := by decide +kernel
theorem dX9_check_7 : decode cX9_check 7 = .ok (.putfield 313, 3) := by decide +kernel
theorem dX9_check_10 : decode cX9_check 10 = .ok (.iload_n 1, 1) := by decide +kernel
theorem dX9_check_11 : decode cX9_check 11 = .ok (.i2l, 1) := by decide +kernel
theorem dX9_check_12 : decode cX9_check 12 = .ok (.lconst 1, 1) := by decide +kernel
theorem dX9_check_13 : decode cX9_check 13 = .ok (.ldc2_w 316, 3) := by decide +kernel
theorem dX9_check_16 : decode cX9_check 16 = .ok (.invokestatic 68, 3) := by decide +kernel
theorem dX9_check_19 : decode cX9_check 19 = .ok (.ifCond .ne 6, 3) := by decide +kernel
theorem dX9_check_22 : decode cX9_check 22 = .ok (.ldc 83, 2) := by decide +kernel
theorem dX9_check_24 : decode cX9_check 24 = .ok (.ireturn, 1) := by decide +kernel
theorem dX9_check_25 : decode cX9_check 25 = .ok (.aload_n 0, 1) := by decide +kernel
theorem dX9_check_26 : decode cX9_check 26 = .ok (.getfield 318, 3) := by decide +kernel
theorem dX9_check_29 : decode cX9_check 29 = .ok (.ifCond .ne 7, 3) := by decide +kernel
theorem dX9_check_32 : decode cX9_check 32 = .ok (.ldc_w 312, 3) := by decide +kernel
theorem dX9_check_35 : decode cX9_check 35 = .ok (.ireturn, 1) := by decide +kernel
theorem dX9_check_36 : decode cX9_check 36 = .ok (.aload_n 0, 1) := by decide +kernel
theorem dX9_check_37 : decode cX9_check 37 = .ok (.aload_n 0, 1) := by decide +kernel
theorem dX9_check_38 : decode cX9_check 38 = .ok (.getfield 7, 3) := by decide +kernel
theorem dX9_check_41 : decode cX9_check 41 = .ok (.aload_n 0, 1) := by decide +kernel
theorem dX9_check_42 : decode cX9_check 42 = .ok (.getfield 16, 3) := by decide +kernel
theorem dX9_check_45 : decode cX9_check 45 = .ok (.invokevirtual 322, 3) := by decide +kernel
theorem dX9_check_48 : decode cX9_check 48 = .ok (.aload_n 0, 1) := by decide +kernel
theorem dX9_check_49 : decode cX9_check 49 = .ok (.aload_n 0, 1) := by decide +kernel
theorem dX9_check_50 : decode cX9_check 50 = .ok (.getfield 13, 3) := by decide +kernel
theorem dX9_check_53 : decode cX9_check 53 = .ok (.aload_n 0, 1) := by decide +kernel
theorem dX9_check_54 : decode cX9_check 54 = .ok (.getfield 7, 3) := by decide +kernel
theorem dX9_check_57 : decode cX9_check 57 = .ok (.invokevirtual 322, 3) := by decide +kernel
theorem dX9_check_60 : decode cX9_check 60 = .ok (.iconst 0, 1) := by decide +kernel
theorem dX9_check_61 : decode cX9_check 61 = .ok (.istore_n 3, 1) := by decide +kernel
theorem dX9_check_62 : decode cX9_check 62 = .ok (.iconst 0, 1) := by decide +kernel
theorem dX9_check_63 : decode cX9_check 63 = .ok (.istore 4, 2) := by decide +kernel
theorem dX9_check_65 : decode cX9_check 65 = .ok (.iload 4, 2) := by decide +kernel
theorem dX9_check_67 : decode cX9_check 67 = .ok (.iload_n 1, 1) := by decide +kernel
theorem dX9_check_68 : decode cX9_check 68 = .ok (.if_icmp .ge 55, 3) := by decide +kernel
theorem dX9_check_71 : decode cX9_check 71 = .ok (.aload_n 0, 1) := by decide +kernel
theorem dX9_check_72 : decode cX9_check 72 = .ok (.getfield 7, 3) := by decide +kernel
theorem dX9_check_75 : decode cX9_check 75 = .ok (.iconst 2, 1) := by decide +kernel
theorem dX9_check_76 : decode cX9_check 76 = .ok (.iaload, 1) := by decide +kernel
theorem dX9_check_77 : decode cX9_check 77 = .ok (.sipush 9999, 3) := by decide +kernel
theorem dX9_check_80 : decode cX9_check 80 = .ok (.if_icmp .ge 43, 3) := by decide +kernel
theorem dX9_check_83 : decode cX9_check 83 = .ok (.aload_n 0, 1) := by decide +kernel
theorem dX9_check_84 : decode cX9_check 84 = .ok (.invokevirtual 144, 3) := by decide +kernel
theorem dX9_check_87 : decode cX9_check 87 = .ok (.aload_n 0, 1) := by decide +kernel
theorem dX9_check_88 : decode cX9_check 88 = .ok (.getfield 64, 3) := by decide +kernel
theorem dX9_check_91 : decode cX9_check 91 = .ok (.iload_n 3, 1) := by decide +kernel
theorem dX9_check_92 : decode cX9_check 92 = .ok (.aload_n 0, 1) := by decide +kernel
theorem dX9_check_93 : decode cX9_check 93 = .ok (.getfield 7, 3) := by decide +kernel
theorem dX9_check_96 : decode cX9_check 96 = .ok (.iconst 3, 1) := by decide +kernel
theorem dX9_check_97 : decode cX9_check 97 = .ok (.iaload, 1) := by decide +kernel
theorem dX9_check_98 : decode cX9_check 98 = .ok (.iastore, 1) := by decide +kernel
theorem dX9_check_99 : decode cX9_check 99 = .ok (.aload_n 0, 1) := by decide +kernel
theorem dX9_check_100 : decode cX9_check 100 = .ok (.getfield 64, 3) := by decide +kernel
theorem dX9_check_103 : decode cX9_check 103 = .ok (.iload_n 3, 1) := by decide +kernel
theorem dX9_check_104 : decode cX9_check 104 = .ok (.iconst 1, 1) := by decide +kernel
theorem dX9_check_105 : decode cX9_check 105 = .ok (.iadd, 1) := by decide +kernel
theorem dX9_check_106 : decode cX9_check 106 = .ok (.aload_n 0, 1) := by decide +kernel
theorem dX9_check_107 : decode cX9_check 107 = .ok (.getfield 7, 3) := by decide +kernel
theorem dX9_check_110 : decode cX9_check 110 = .ok (.bipush 28, 2) := by decide +kernel
theorem dX9_check_112 : decode cX9_check 112 = .ok (.iaload, 1) := by decide +kernel
theorem dX9_check_113 : decode cX9_check 113 = .ok (.iastore, 1) := by decide +kernel
theorem dX9_check_114 : decode cX9_check 114 = .ok (.iinc 3 2, 3) := by decide +kernel
theorem dX9_check_117 : decode cX9_check 117 = .ok (.iinc 4 1, 3) := by decide +kernel
theorem dX9_check_120 : decode cX9_check 120 = .ok (.goto (-55), 3) := by decide +kernel
theorem dX9_check_123 : decode cX9_check 123 = .ok (.aload_n 0, 1) := by decide +kernel
theorem dX9_check_124 : decode cX9_check 124 = .ok (.aload_n 0, 1) := by decide +kernel
theorem dX9_check_125 : decode cX9_check 125 = .ok (.getfield 16, 3) := by decide +kernel
theorem dX9_check_128 : decode cX9_check 128 = .ok (.aload_n 0, 1) := by decide +kernel
theorem dX9_check_129 : decode cX9_check 129 = .ok (.getfield 7, 3) := by decide +kernel
theorem dX9_check_132 : decode cX9_check 132 = .ok (.invokevirtual 322, 3) := by decide +kernel
theorem dX9_check_135 : decode cX9_check 135 = .ok (.iconst 0, 1) := by decide +kernel
theorem dX9_check_136 : decode cX9_check 136 = .ok (.istore 4, 2) := by decide +kernel
theorem dX9_check_138 : decode cX9_check 138 = .ok (.iload 4, 2) := by decide +kernel
theorem dX9_check_140 : decode cX9_check 140 = .ok (.iload_n 2, 1) := by decide +kernel
theorem dX9_check_141 : decode cX9_check 141 = .ok (.if_icmp .ge 32, 3) := by decide +kernel
theorem dX9_check_144 : decode cX9_check 144 = .ok (.iload 4, 2) := by decide +kernel
theorem dX9_check_146 : decode cX9_check 146 = .ok (.iload_n 3, 1) := by decide +kernel
theorem dX9_check_147 : decode cX9_check 147 = .ok (.if_icmp .ge 26, 3) := by decide +kernel
theorem dX9_check_150 : decode cX9_check 150 = .ok (.aload_n 0, 1) := by decide +kernel
theorem dX9_check_151 : decode cX9_check 151 = .ok (.getfield 61, 3) := by decide +kernel
theorem dX9_check_154 : decode cX9_check 154 = .ok (.iload 4, 2) := by decide +kernel
theorem dX9_check_156 : decode cX9_check 156 = .ok (.iaload, 1) := by decide +kernel
theorem dX9_check_157 : decode cX9_check 157 = .ok (.aload_n 0, 1) := by decide +kernel
theorem dX9_check_158 : decode cX9_check 158 = .ok (.getfield 64, 3) := by decide +kernel
theorem dX9_check_161 : decode cX9_check 161 = .ok (.iload 4, 2) := by decide +kernel
theorem dX9_check_163 : decode cX9_check 163 = .ok (.iaload, 1) := by decide +kernel
theorem dX9_check_164 : decode cX9_check 164 = .ok (.if_icmp .ne 9, 3) := by decide +kernel
theorem dX9_check_167 : decode cX9_check 167 = .ok (.iinc 4 1, 3) := by decide +kernel
theorem dX9_check_170 : decode cX9_check 170 = .ok (.goto (-32), 3) := by decide +kernel
theorem dX9_check_173 : decode cX9_check 173 = .ok (.iload 4, 2) := by decide +kernel
theorem dX9_check_175 : decode cX9_check 175 = .ok (.iload_n 2, 1) := by decide +kernel
theorem dX9_check_176 : decode cX9_check 176 = .ok (.if_icmp .ne 13, 3) := by decide +kernel
theorem dX9_check_179 : decode cX9_check 179 = .ok (.iload 4, 2) := by decide +kernel
theorem dX9_check_181 : decode cX9_check 181 = .ok (.iload_n 3, 1) := by decide +kernel
theorem dX9_check_182 : decode cX9_check 182 = .ok (.if_icmp .ne 7, 3) := by decide +kernel
theorem dX9_check_185 : decode cX9_check 185 = .ok (.iconst 0, 1) := by decide +kernel
theorem dX9_check_186 : decode cX9_check 186 = .ok (.goto 7, 3) := by decide +kernel
theorem dX9_check_189 : decode cX9_check 189 = .ok (.iconst 1, 1) := by decide +kernel
theorem dX9_check_190 : decode cX9_check 190 = .ok (.iload 4, 2) := by decide +kernel
theorem dX9_check_192 : decode cX9_check 192 = .ok (.iadd, 1) := by decide +kernel
theorem dX9_check_193 : decode cX9_check 193 = .ok (.ireturn, 1) := by decide +kernel
theorem dX9_keep_0 : decode cX9_keep 0 = .ok (.aload_n 0, 1) := by decide +kernel
theorem dX9_keep_1 : decode cX9_keep 1 = .ok (.iconst 1, 1) := by decide +kernel
theorem dX9_keep_2 : decode cX9_keep 2 = .ok (.putfield 318, 3) := by decide +kernel
theorem dX9_keep_5 : decode cX9_keep 5 = .ok (.aload_n 0, 1) := by decide +kernel
theorem dX9_keep_6 : decode cX9_keep 6 = .ok (.aload_n 0, 1) := by decide +kernel
theorem dX9_keep_7 : decode cX9_keep 7 = .ok (.getfield 7, 3) := by decide +kernel
theorem dX9_keep_10 : decode cX9_keep 10 = .ok (.aload_n 0, 1) := by decide +kernel
theorem dX9_keep_11 : decode cX9_keep 11 = .ok (.getfield 13, 3) := by decide +kernel
theorem dX9_keep_14 : decode cX9_keep 14 = .ok (.invokevirtual 322, 3) := by decide +kernel
theorem dX9_keep_17 : decode cX9_keep 17 = .ok (.aload_n 0, 1) := by decide +kernel
theorem dX9_keep_18 : decode cX9_keep 18 = .ok (.getfield 7, 3) := by decide +kernel
theorem dX9_keep_21 : decode cX9_keep 21 = .ok (.iconst 0, 1) := by decide +kernel
theorem dX9_keep_22 : decode cX9_keep 22 = .ok (.iaload, 1) := by decide +kernel
theorem dX9_keep_23 : decode cX9_keep 23 = .ok (.ireturn, 1) := by decide +kernel
theorem dX9_back_0 : decode cX9_back 0 = .ok (.aload_n 0, 1) := by decide +kernel
theorem dX9_back_1 : decode cX9_back 1 = .ok (.getfield 318, 3) := by decide +kernel
theorem dX9_back_4 : decode cX9_back 4 = .ok (.ifCond .ne 7, 3) := by decide +kernel
theorem dX9_back_7 : decode cX9_back 7 = .ok (.ldc_w 312, 3) := by decide +kernel
theorem dX9_back_10 : decode cX9_back 10 = .ok (.ireturn, 1) := by decide +kernel
theorem dX9_back_11 : decode cX9_back 11 = .ok (.aload_n 0, 1) := by decide +kernel
theorem dX9_back_12 : decode cX9_back 12 = .ok (.aload_n 0, 1) := by decide +kernel
theorem dX9_back_13 : decode cX9_back 13 = .ok (.getfield 13, 3) := by decide +kernel
theorem dX9_back_16 : decode cX9_back 16 = .ok (.aload_n 0, 1) := by decide +kernel
theorem dX9_back_17 : decode cX9_back 17 = .ok (.getfield 7, 3) := by decide +kernel
theorem dX9_back_20 : decode cX9_back 20 = .ok (.invokevirtual 322, 3) := by decide +kernel
theorem dX9_back_23 : decode cX9_back 23 = .ok (.aload_n 0, 1) := by decide +kernel
theorem dX9_back_24 : decode cX9_back 24 = .ok (.getfield 7, 3) := by decide +kernel
theorem dX9_back_27 : decode cX9_back 27 = .ok (.iconst 0, 1) := by decide +kernel
theorem dX9_back_28 : decode cX9_back 28 = .ok (.iaload, 1) := by decide +kernel
theorem dX9_back_29 : decode cX9_back 29 = .ok (.ireturn, 1) := by decide +kernel
theorem dX9_count_0 : decode cX9_count 0 = .ok (.iload_n 1, 1) := by decide +kernel
theorem dX9_count_1 : decode cX9_count 1 = .ok (.tableswitch 102 0 7 #[47, 54, 61, 69, 77, 84, 89, 94], 47) := by decide +kernel
theorem dX9_count_48 : decode cX9_count 48 = .ok (.aload_n 0, 1) := by decide +kernel
theorem dX9_count_49 : decode cX9_count 49 = .ok (.getfield 7, 3) := by decide +kernel
theorem dX9_count_52 : decode cX9_count 52 = .ok (.iconst 0, 1) := by decide +kernel
theorem dX9_count_53 : decode cX9_count 53 = .ok (.iaload, 1) := by decide +kernel
theorem dX9_count_54 : decode cX9_count 54 = .ok (.ireturn, 1) := by decide +kernel
theorem dX9_count_55 : decode cX9_count 55 = .ok (.aload_n 0, 1) := by decide +kernel
theorem dX9_count_56 : decode cX9_count 56 = .ok (.getfield 7, 3) := by decide +kernel
theorem dX9_count_59 : decode cX9_count 59 = .ok (.iconst 2, 1) := by decide +kernel
theorem dX9_count_60 : decode cX9_count 60 = .ok (.iaload, 1) := by decide +kernel
theorem dX9_count_61 : decode cX9_count 61 = .ok (.ireturn, 1) := by decide +kernel
theorem dX9_count_62 : decode cX9_count 62 = .ok (.aload_n 0, 1) := by decide +kernel
theorem dX9_count_63 : decode cX9_count 63 = .ok (.getfield 7, 3) := by decide +kernel
theorem dX9_count_66 : decode cX9_count 66 = .ok (.bipush 6, 2) := by decide +kernel
theorem dX9_count_68 : decode cX9_count 68 = .ok (.iaload, 1) := by decide +kernel
theorem dX9_count_69 : decode cX9_count 69 = .ok (.ireturn, 1) := by decide +kernel
theorem dX9_count_70 : decode cX9_count 70 = .ok (.aload_n 0, 1) := by decide +kernel
theorem dX9_count_71 : decode cX9_count 71 = .ok (.getfield 7, 3) := by decide +kernel
theorem dX9_count_74 : decode cX9_count 74 = .ok (.bipush 7, 2) := by decide +kernel
theorem dX9_count_76 : decode cX9_count 76 = .ok (.iaload, 1) := by decide +kernel
theorem dX9_count_77 : decode cX9_count 77 = .ok (.ireturn, 1) := by decide +kernel
theorem dX9_count_78 : decode cX9_count 78 = .ok (.aload_n 0, 1) := by decide +kernel
theorem dX9_count_79 : decode cX9_count 79 = .ok (.getfield 7, 3) := by decide +kernel
theorem dX9_count_82 : decode cX9_count 82 = .ok (.iconst 1, 1) := by decide +kernel
theorem dX9_count_83 : decode cX9_count 83 = .ok (.iaload, 1) := by decide +kernel
theorem dX9_count_84 : decode cX9_count 84 = .ok (.ireturn, 1) := by decide +kernel
theorem dX9_count_85 : decode cX9_count 85 = .ok (.aload_n 0, 1) := by decide +kernel
theorem dX9_count_86 : decode cX9_count 86 = .ok (.getfield 313, 3) := by decide +kernel
theorem dX9_count_89 : decode cX9_count 89 = .ok (.ireturn, 1) := by decide +kernel
theorem dX9_count_90 : decode cX9_count 90 = .ok (.aload_n 0, 1) := by decide +kernel
theorem dX9_count_91 : decode cX9_count 91 = .ok (.getfield 191, 3) := by decide +kernel
theorem dX9_count_94 : decode cX9_count 94 = .ok (.ireturn, 1) := by decide +kernel
theorem dX9_count_95 : decode cX9_count 95 = .ok (.aload_n 0, 1) := by decide +kernel
theorem dX9_count_96 : decode cX9_count 96 = .ok (.getfield 7, 3) := by decide +kernel
theorem dX9_count_99 : decode cX9_count 99 = .ok (.bipush 9, 2) := by decide +kernel
theorem dX9_count_101 : decode cX9_count 101 = .ok (.iaload, 1) := by decide +kernel
theorem dX9_count_102 : decode cX9_count 102 = .ok (.ireturn, 1) := by decide +kernel
theorem dX9_count_103 : decode cX9_count 103 = .ok (.ldc 83, 2) := by decide +kernel
theorem dX9_count_105 : decode cX9_count 105 = .ok (.ireturn, 1) := by decide +kernel
