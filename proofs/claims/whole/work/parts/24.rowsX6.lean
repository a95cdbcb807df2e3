theorem dX6_fogs_84 : decode cX6_fogs 84 = .ok (.getfield 36, 3) := by decide +kernel
theorem dX6_fogs_87 : decode cX6_fogs 87 = .ok (.aload_n 0, 1) := by decide +kernel
theorem dX6_fogs_88 : decode cX6_fogs 88 = .ok (.getfield 12, 3) := by decide +kernel
theorem dX6_fogs_91 : decode cX6_fogs 91 = .ok (.iload_n 1, 1) := by decide +kernel
theorem dX6_fogs_92 : decode cX6_fogs 92 = .ok (.iconst 0, 1) := by decide +kernel
theorem dX6_fogs_93 : decode cX6_fogs 93 = .ok (.invokevirtual 149, 3) := by decide +kernel
theorem dX6_fogs_96 : decode cX6_fogs 96 = .ok (.lconst 0, 1) := by decide +kernel
theorem dX6_fogs_97 : decode cX6_fogs 97 = .ok (.lstore 9, 2) := by decide +kernel
theorem dX6_fogs_99 : decode cX6_fogs 99 = .ok (.iconst 0, 1) := by decide +kernel
theorem dX6_fogs_100 : decode cX6_fogs 100 = .ok (.istore 11, 2) := by decide +kernel
theorem dX6_fogs_102 : decode cX6_fogs 102 = .ok (.iload 11, 2) := by decide +kernel
theorem dX6_fogs_104 : decode cX6_fogs 104 = .ok (.iconst 1, 1) := by decide +kernel
theorem dX6_fogs_105 : decode cX6_fogs 105 = .ok (.iload_n 2, 1) := by decide +kernel
theorem dX6_fogs_106 : decode cX6_fogs 106 = .ok (.ishl, 1) := by decide +kernel
theorem dX6_fogs_107 : decode cX6_fogs 107 = .ok (.if_icmp .ge 82, 3) := by decide +kernel
theorem dX6_fogs_110 : decode cX6_fogs 110 = .ok (.iload 11, 2) := by decide +kernel
theorem dX6_fogs_112 : decode cX6_fogs 112 = .ok (.iload_n 2, 1) := by decide +kernel
theorem dX6_fogs_113 : decode cX6_fogs 113 = .ok (.iload_n 3, 1) := by decide +kernel
theorem dX6_fogs_114 : decode cX6_fogs 114 = .ok (.invokestatic 219, 3) := by decide +kernel
theorem dX6_fogs_117 : decode cX6_fogs 117 = .ok (.lstore 12, 2) := by decide +kernel
theorem dX6_fogs_119 : decode cX6_fogs 119 = .ok (.lload 12, 2) := by decide +kernel
theorem dX6_fogs_121 : decode cX6_fogs 121 = .ok (.lconst 0, 1) := by decide +kernel
theorem dX6_fogs_122 : decode cX6_fogs 122 = .ok (.lcmp, 1) := by decide +kernel
theorem dX6_fogs_123 : decode cX6_fogs 123 = .ok (.ifCond .le 60, 3) := by decide +kernel
theorem dX6_fogs_126 : decode cX6_fogs 126 = .ok (.aload_n 0, 1) := by decide +kernel
theorem dX6_fogs_127 : decode cX6_fogs 127 = .ok (.getfield 36, 3) := by decide +kernel
theorem dX6_fogs_130 : decode cX6_fogs 130 = .ok (.aload_n 0, 1) := by decide +kernel
theorem dX6_fogs_131 : decode cX6_fogs 131 = .ok (.getfield 12, 3) := by decide +kernel
theorem dX6_fogs_134 : decode cX6_fogs 134 = .ok (.iload_n 2, 1) := by decide +kernel
theorem dX6_fogs_135 : decode cX6_fogs 135 = .ok (.iload 11, 2) := by decide +kernel
theorem dX6_fogs_137 : decode cX6_fogs 137 = .ok (.invokevirtual 153, 3) := by decide +kernel
theorem dX6_fogs_140 : decode cX6_fogs 140 = .ok (.aload_n 0, 1) := by decide +kernel
theorem dX6_fogs_141 : decode cX6_fogs 141 = .ok (.getfield 36, 3) := by decide +kernel
theorem dX6_fogs_144 : decode cX6_fogs 144 = .ok (.iload_n 2, 1) := by decide +kernel
theorem dX6_fogs_145 : decode cX6_fogs 145 = .ok (.invokevirtual 223, 3) := by decide +kernel
theorem dX6_fogs_148 : decode cX6_fogs 148 = .ok (.istore 14, 2) := by decide +kernel
theorem dX6_fogs_150 : decode cX6_fogs 150 = .ok (.lload 9, 2) := by decide +kernel
theorem dX6_fogs_152 : decode cX6_fogs 152 = .ok (.iload 5, 2) := by decide +kernel
theorem dX6_fogs_154 : decode cX6_fogs 154 = .ok (.iconst 1, 1) := by decide +kernel
theorem dX6_fogs_155 : decode cX6_fogs 155 = .ok (.if_icmp .ne 12, 3) := by decide +kernel
theorem dX6_fogs_158 : decode cX6_fogs 158 = .ok (.lload 12, 2) := by decide +kernel
theorem dX6_fogs_160 : decode cX6_fogs 160 = .ok (.iload 14, 2) := by decide +kernel
theorem dX6_fogs_162 : decode cX6_fogs 162 = .ok (.i2l, 1) := by decide +kernel
theorem dX6_fogs_163 : decode cX6_fogs 163 = .ok (.lmul, 1) := by decide +kernel
theorem dX6_fogs_164 : decode cX6_fogs 164 = .ok (.goto 16, 3) := by decide +kernel
theorem dX6_fogs_167 : decode cX6_fogs 167 = .ok (.iload 14, 2) := by decide +kernel
theorem dX6_fogs_169 : decode cX6_fogs 169 = .ok (.iload 4, 2) := by decide +kernel
theorem dX6_fogs_171 : decode cX6_fogs 171 = .ok (.if_icmp .lt 8, 3) := by decide +kernel
theorem dX6_fogs_174 : decode cX6_fogs 174 = .ok (.lload 12, 2) := by decide +kernel
theorem dX6_fogs_176 : decode cX6_fogs 176 = .ok (.goto 4, 3) := by decide +kernel
theorem dX6_fogs_179 : decode cX6_fogs 179 = .ok (.lconst 0, 1) := by decide +kernel
theorem dX6_fogs_180 : decode cX6_fogs 180 = .ok (.ladd, 1) := by decide +kernel
theorem dX6_fogs_181 : decode cX6_fogs 181 = .ok (.lstore 9, 2) := by decide +kernel
theorem dX6_fogs_183 : decode cX6_fogs 183 = .ok (.iinc 11 1, 3) := by decide +kernel
theorem dX6_fogs_186 : decode cX6_fogs 186 = .ok (.goto (-84), 3) := by decide +kernel
theorem dX6_fogs_189 : decode cX6_fogs 189 = .ok (.bipush 10, 2) := by decide +kernel
theorem dX6_fogs_191 : decode cX6_fogs 191 = .ok (.iload_n 2, 1) := by decide +kernel
theorem dX6_fogs_192 : decode cX6_fogs 192 = .ok (.invokestatic 226, 3) := by decide +kernel
theorem dX6_fogs_195 : decode cX6_fogs 195 = .ok (.lstore 11, 2) := by decide +kernel
theorem dX6_fogs_197 : decode cX6_fogs 197 = .ok (.lload 9, 2) := by decide +kernel
theorem dX6_fogs_199 : decode cX6_fogs 199 = .ok (.lload 11, 2) := by decide +kernel
theorem dX6_fogs_201 : decode cX6_fogs 201 = .ok (.invokestatic 230, 3) := by decide +kernel
theorem dX6_fogs_204 : decode cX6_fogs 204 = .ok (.lstore 13, 2) := by decide +kernel
theorem dX6_fogs_206 : decode cX6_fogs 206 = .ok (.lload 13, 2) := by decide +kernel
theorem dX6_fogs_208 : decode cX6_fogs 208 = .ok (.lconst 1, 1) := by decide +kernel
theorem dX6_fogs_209 : decode cX6_fogs 209 = .ok (.lcmp, 1) := by decide +kernel
theorem dX6_fogs_210 : decode cX6_fogs 210 = .ok (.ifCond .ge 7, 3) := by decide +kernel
theorem dX6_fogs_213 : decode cX6_fogs 213 = .ok (.ldc2_w 217, 3) := by decide +kernel
theorem dX6_fogs_216 : decode cX6_fogs 216 = .ok (.lreturn, 1) := by decide +kernel
theorem dX6_fogs_217 : decode cX6_fogs 217 = .ok (.iload 6, 2) := by decide +kernel
theorem dX6_fogs_219 : decode cX6_fogs 219 = .ok (.ifCond .ne 11, 3) := by decide +kernel
theorem dX6_fogs_222 : decode cX6_fogs 222 = .ok (.lload 9, 2) := by decide +kernel
theorem dX6_fogs_224 : decode cX6_fogs 224 = .ok (.lload 13, 2) := by decide +kernel
theorem dX6_fogs_226 : decode cX6_fogs 226 = .ok (.ldiv, 1) := by decide +kernel
theorem dX6_fogs_227 : decode cX6_fogs 227 = .ok (.goto 8, 3) := by decide +kernel
theorem dX6_fogs_230 : decode cX6_fogs 230 = .ok (.lload 11, 2) := by decide +kernel
theorem dX6_fogs_232 : decode cX6_fogs 232 = .ok (.lload 13, 2) := by decide +kernel
theorem dX6_fogs_234 : decode cX6_fogs 234 = .ok (.ldiv, 1) := by decide +kernel
theorem dX6_fogs_235 : decode cX6_fogs 235 = .ok (.lreturn, 1) := by decide +kernel
set_option maxRecDepth 20000 in
theorem ggX6_turns_X6_isSet : GoodIn wsX6_turns wsX6_isSet := goodIn_r _ [6, 7, 8, 5, 9] (by decide +kernel) (by decide +kernel)
set_option maxRecDepth 20000 in
theorem gX6_turns_X6_isSet : GoodIn wsX6_turns (va_wsS RX6 167 yX6_isSet wsX6_isSet) := goodIn_app (goodIn_of _ (by decide +kernel)) ggX6_turns_X6_isSet
set_option maxRecDepth 20000 in
theorem ggX6_turns_X6_isWithin : GoodIn wsX6_turns wsX6_isWithin := goodIn_r _ [9] (by decide +kernel) (by decide +kernel)
set_option maxRecDepth 20000 in
theorem gX6_turns_X6_isWithin : GoodIn wsX6_turns (va_wsS RX6 72 yX6_isWithin wsX6_isWithin) := goodIn_app (goodIn_of _ (by decide +kernel)) ggX6_turns_X6_isWithin
set_option maxRecDepth 20000 in
theorem ggX6_turns_X2_solve : GoodIn wsX6_turns wsX2_solve := goodIn_r _ [14, 15, 16, 17, 18, 19, 20, 13, 21, 22, 5, 23, 24, 25, 26, 27, 28, 29, 30, 31, 32, 33, 34, 35, 36, 37, 38, 39, 40, 41, 42, 43, 44, 45, 46, 47, 48, 49, 50, 51, 52, 53, 54, 74, 75, 76, 77, 78, 79, 80, 81, 82, 83, 84, 85, 86, 87, 88, 89] (by decide +kernel) (by decide +kernel)
set_option maxRecDepth 20000 in
theorem gX6_turns_X2_solve : GoodIn wsX6_turns (wsV RX6 234 RX2 yX2_solve wsX2_solve) := goodIn_app (goodIn_of _ (by decide +kernel)) ggX6_turns_X2_solve
set_option maxRecDepth 20000 in
theorem ggX6_turns_X2_winner : GoodIn wsX6_turns wsX2_winner := goodIn_r _ [58, 16, 15, 74, 75, 76] (by decide +kernel) (by decide +kernel)
set_option maxRecDepth 20000 in
theorem gX6_turns_X2_winner : GoodIn wsX6_turns (wsV RX6 238 RX2 yX2_winner wsX2_winner) := goodIn_app (goodIn_of _ (by decide +kernel)) ggX6_turns_X2_winner
set_option maxRecDepth 20000 in
theorem ggX6_turns_X2_opening : GoodIn wsX6_turns wsX2_opening := goodIn_r _ [62, 17, 15, 74, 75, 76] (by decide +kernel) (by decide +kernel)
set_option maxRecDepth 20000 in
theorem gX6_turns_X2_opening : GoodIn wsX6_turns (wsV RX6 241 RX2 yX2_opening wsX2_opening) := goodIn_app (goodIn_of _ (by decide +kernel)) ggX6_turns_X2_opening
theorem dX6_turns_0 : decode cX6_turns 0 = .ok (.iload_n 1, 1) := by decide +kernel
theorem dX6_turns_1 : decode cX6_turns 1 = .ok (.invokestatic 167, 3) := by decide +kernel
theorem dX6_turns_4 : decode cX6_turns 4 = .ok (.ifCond .ne 5, 3) := by decide +kernel
theorem dX6_turns_7 : decode cX6_turns 7 = .ok (.iconst (-1), 1) := by decide +kernel
theorem dX6_turns_8 : decode cX6_turns 8 = .ok (.ireturn, 1) := by decide +kernel
theorem dX6_turns_9 : decode cX6_turns 9 = .ok (.iload_n 2, 1) := by decide +kernel
theorem dX6_turns_10 : decode cX6_turns 10 = .ok (.iconst 0, 1) := by decide +kernel
theorem dX6_turns_11 : decode cX6_turns 11 = .ok (.iconst 1, 1) := by decide +kernel
theorem dX6_turns_12 : decode cX6_turns 12 = .ok (.invokestatic 72, 3) := by decide +kernel
theorem dX6_turns_15 : decode cX6_turns 15 = .ok (.ifCond .ne 6, 3) := by decide +kernel
theorem dX6_turns_18 : decode cX6_turns 18 = .ok (.bipush (-2), 2) := by decide +kernel
theorem dX6_turns_20 : decode cX6_turns 20 = .ok (.ireturn, 1) := by decide +kernel
theorem dX6_turns_21 : decode cX6_turns 21 = .ok (.aload_n 0, 1) := by decide +kernel
theorem dX6_turns_22 : decode cX6_turns 22 = .ok (.getfield 50, 3) := by decide +kernel
theorem dX6_turns_25 : decode cX6_turns 25 = .ok (.aload_n 0, 1) := by decide +kernel
theorem dX6_turns_26 : decode cX6_turns 26 = .ok (.getfield 12, 3) := by decide +kernel
theorem dX6_turns_29 : decode cX6_turns 29 = .ok (.iload_n 1, 1) := by decide +kernel
theorem dX6_turns_30 : decode cX6_turns 30 = .ok (.invokevirtual 234, 3) := by decide +kernel
theorem dX6_turns_33 : decode cX6_turns 33 = .ok (.iload_n 2, 1) := by decide +kernel
theorem dX6_turns_34 : decode cX6_turns 34 = .ok (.ifCond .ne 13, 3) := by decide +kernel
theorem dX6_turns_37 : decode cX6_turns 37 = .ok (.aload_n 0, 1) := by decide +kernel
theorem dX6_turns_38 : decode cX6_turns 38 = .ok (.getfield 50, 3) := by decide +kernel
theorem dX6_turns_41 : decode cX6_turns 41 = .ok (.invokevirtual 238, 3) := by decide +kernel
theorem dX6_turns_44 : decode cX6_turns 44 = .ok (.goto 10, 3) := by decide +kernel
theorem dX6_turns_47 : decode cX6_turns 47 = .ok (.aload_n 0, 1) := by decide +kernel
theorem dX6_turns_48 : decode cX6_turns 48 = .ok (.getfield 50, 3) := by decide +kernel
theorem dX6_turns_51 : decode cX6_turns 51 = .ok (.invokevirtual 241, 3) := by decide +kernel
theorem dX6_turns_54 : decode cX6_turns 54 = .ok (.ireturn, 1) := by decide +kernel
set_option maxRecDepth 20000 in
theorem ggX6_year_X6_isWithin : GoodIn wsX6_year wsX6_isWithin := goodIn_r _ [11] (by decide +kernel) (by decide +kernel)
set_option maxRecDepth 20000 in
theorem gX6_year_X6_isWithin : GoodIn wsX6_year (va_wsS RX6 72 yX6_isWithin wsX6_isWithin) := goodIn_app (goodIn_of _ (by decide +kernel)) ggX6_year_X6_isWithin
set_option maxRecDepth 20000 in
theorem ggX6_year_X3_become : GoodIn wsX6_year wsX3_become := goodIn_r _ [16, 17, 18, 19, 20, 21, 22, 23, 24, 25, 26, 27, 28, 29, 30, 31, 32, 33, 73, 74, 75, 76, 77, 78, 79, 80, 81, 82, 83, 84, 85] (by decide +kernel) (by decide +kernel)
set_option maxRecDepth 20000 in
theorem gX6_year_X3_become : GoodIn wsX6_year (wsV RX6 126 RX3 yX3_become wsX3_become) := goodIn_app (goodIn_of _ (by decide +kernel)) ggX6_year_X3_become
set_option maxRecDepth 20000 in
theorem ggX6_year_X3_endDay : GoodIn wsX6_year wsX3_endDay := goodIn_r _ [37, 24, 33, 25, 30, 31, 32, 38, 39, 40, 15, 41, 17, 22, 42, 43, 44, 45, 46, 10, 47, 73, 74, 75, 76, 77, 78, 79, 80, 81, 82, 83, 84, 85] (by decide +kernel) (by decide +kernel)
set_option maxRecDepth 20000 in
theorem gX6_year_X3_endDay : GoodIn wsX6_year (wsV RX6 245 RX3 yX3_endDay wsX3_endDay) := goodIn_app (goodIn_of _ (by decide +kernel)) ggX6_year_X3_endDay
set_option maxRecDepth 20000 in
theorem ggX6_year_X3_draw : GoodIn wsX6_year wsX3_draw := goodIn_r _ [51, 32, 33, 25, 73, 74, 75, 76, 77, 78, 79, 80, 81, 82, 83, 84, 85] (by decide +kernel) (by decide +kernel)
set_option maxRecDepth 20000 in
theorem gX6_year_X3_draw : GoodIn wsX6_year (wsV RX6 248 RX3 yX3_draw wsX3_draw) := goodIn_app (goodIn_of _ (by decide +kernel)) ggX6_year_X3_draw
set_option maxRecDepth 20000 in
theorem ggX6_year_X3_isOver : GoodIn wsX6_year wsX3_isOver := goodIn_r _ [55, 29, 38, 39, 40, 15, 41, 25, 32, 33, 17, 22, 42, 43, 44, 45, 24, 46, 10, 47, 73, 74, 75, 76, 77, 78, 79, 80, 81, 82, 83, 84, 85] (by decide +kernel) (by decide +kernel)
set_option maxRecDepth 20000 in
theorem gX6_year_X3_isOver : GoodIn wsX6_year (wsV RX6 251 RX3 yX3_isOver wsX3_isOver) := goodIn_app (goodIn_of _ (by decide +kernel)) ggX6_year_X3_isOver
set_option maxRecDepth 20000 in
theorem ggX6_year_X3_mostSeen : GoodIn wsX6_year wsX3_mostSeen := goodIn_r _ [59, 60, 5, 6, 7, 38, 39, 40, 15, 41, 25, 32, 33, 17, 22, 42, 43, 44, 45, 24, 46, 10, 47, 73, 74, 75, 76, 77, 78, 79, 80, 81, 82, 83, 84, 85] (by decide +kernel) (by decide +kernel)
set_option maxRecDepth 20000 in
theorem gX6_year_X3_mostSeen : GoodIn wsX6_year (wsV RX6 254 RX3 yX3_mostSeen wsX3_mostSeen) := goodIn_app (goodIn_of _ (by decide +kernel)) ggX6_year_X3_mostSeen
set_option maxRecDepth 20000 in
theorem ggX6_year_X3_seenToday : GoodIn wsX6_year wsX3_seenToday := goodIn_r _ [41, 25, 32, 33, 17, 22, 42, 43, 44, 15, 45, 24, 46, 10, 47, 73, 74, 75, 76, 77, 78, 79, 80, 81, 82, 83, 84, 85] (by decide +kernel) (by decide +kernel)
set_option maxRecDepth 20000 in
theorem gX6_year_X3_seenToday : GoodIn wsX6_year (wsV RX6 133 RX3 yX3_seenToday wsX3_seenToday) := goodIn_app (goodIn_of _ (by decide +kernel)) ggX6_year_X3_seenToday
theorem dX6_year_0 : decode cX6_year 0 = .ok (.iload_n 1, 1) := by decide +kernel
theorem dX6_year_1 : decode cX6_year 1 = .ok (.iconst 0, 1) := by decide +kernel
theorem dX6_year_2 : decode cX6_year 2 = .ok (.sipush 9999, 3) := by decide +kernel
theorem dX6_year_5 : decode cX6_year 5 = .ok (.invokestatic 72, 3) := by decide +kernel
theorem dX6_year_8 : decode cX6_year 8 = .ok (.ifCond .eq 22, 3) := by decide +kernel
theorem dX6_year_11 : decode cX6_year 11 = .ok (.iload_n 2, 1) := by decide +kernel
theorem dX6_year_12 : decode cX6_year 12 = .ok (.iconst 1, 1) := by decide +kernel
theorem dX6_year_13 : decode cX6_year 13 = .ok (.bipush 60, 2) := by decide +kernel
theorem dX6_year_15 : decode cX6_year 15 = .ok (.invokestatic 72, 3) := by decide +kernel
theorem dX6_year_18 : decode cX6_year 18 = .ok (.ifCond .eq 12, 3) := by decide +kernel
theorem dX6_year_21 : decode cX6_year 21 = .ok (.iload_n 3, 1) := by decide +kernel
theorem dX6_year_22 : decode cX6_year 22 = .ok (.iconst 0, 1) := by decide +kernel
theorem dX6_year_23 : decode cX6_year 23 = .ok (.iconst 2, 1) := by decide +kernel
theorem dX6_year_24 : decode cX6_year 24 = .ok (.invokestatic 72, 3) := by decide +kernel
theorem dX6_year_27 : decode cX6_year 27 = .ok (.ifCond .ne 6, 3) := by decide +kernel
theorem dX6_year_30 : decode cX6_year 30 = .ok (.bipush (-2), 2) := by decide +kernel
theorem dX6_year_32 : decode cX6_year 32 = .ok (.ireturn, 1) := by decide +kernel
theorem dX6_year_33 : decode cX6_year 33 = .ok (.aload_n 0, 1) := by decide +kernel
theorem dX6_year_34 : decode cX6_year 34 = .ok (.getfield 16, 3) := by decide +kernel
theorem dX6_year_37 : decode cX6_year 37 = .ok (.aload_n 0, 1) := by decide +kernel
theorem dX6_year_38 : decode cX6_year 38 = .ok (.getfield 12, 3) := by decide +kernel
theorem dX6_year_41 : decode cX6_year 41 = .ok (.invokevirtual 126, 3) := by decide +kernel
theorem dX6_year_44 : decode cX6_year 44 = .ok (.iload_n 1, 1) := by decide +kernel
theorem dX6_year_45 : decode cX6_year 45 = .ok (.istore 4, 2) := by decide +kernel
theorem dX6_year_47 : decode cX6_year 47 = .ok (.iconst 0, 1) := by decide +kernel
theorem dX6_year_48 : decode cX6_year 48 = .ok (.istore 5, 2) := by decide +kernel
theorem dX6_year_50 : decode cX6_year 50 = .ok (.iconst 0, 1) := by decide +kernel
theorem dX6_year_51 : decode cX6_year 51 = .ok (.istore 6, 2) := by decide +kernel
theorem dX6_year_53 : decode cX6_year 53 = .ok (.iconst 0, 1) := by decide +kernel
theorem dX6_year_54 : decode cX6_year 54 = .ok (.istore 7, 2) := by decide +kernel
theorem dX6_year_56 : decode cX6_year 56 = .ok (.iload 7, 2) := by decide +kernel
theorem dX6_year_58 : decode cX6_year 58 = .ok (.iload_n 2, 1) := by decide +kernel
theorem dX6_year_59 : decode cX6_year 59 = .ok (.if_icmp .ge 72, 3) := by decide +kernel
theorem dX6_year_62 : decode cX6_year 62 = .ok (.bipush 75, 2) := by decide +kernel
theorem dX6_year_64 : decode cX6_year 64 = .ok (.iload 4, 2) := by decide +kernel
theorem dX6_year_66 : decode cX6_year 66 = .ok (.imul, 1) := by decide +kernel
theorem dX6_year_67 : decode cX6_year 67 = .ok (.bipush 74, 2) := by decide +kernel
theorem dX6_year_69 : decode cX6_year 69 = .ok (.iadd, 1) := by decide +kernel
theorem dX6_year_70 : decode cX6_year 70 = .ok (.ldc 244, 2) := by decide +kernel
theorem dX6_year_72 : decode cX6_year 72 = .ok (.irem, 1) := by decide +kernel
theorem dX6_year_73 : decode cX6_year 73 = .ok (.istore 4, 2) := by decide +kernel
theorem dX6_year_75 : decode cX6_year 75 = .ok (.aload_n 0, 1) := by decide +kernel
theorem dX6_year_76 : decode cX6_year 76 = .ok (.getfield 16, 3) := by decide +kernel
theorem dX6_year_79 : decode cX6_year 79 = .ok (.invokevirtual 245, 3) := by decide +kernel
theorem dX6_year_82 : decode cX6_year 82 = .ok (.aload_n 0, 1) := by decide +kernel
theorem dX6_year_83 : decode cX6_year 83 = .ok (.getfield 16, 3) := by decide +kernel
theorem dX6_year_86 : decode cX6_year 86 = .ok (.iload 4, 2) := by decide +kernel
theorem dX6_year_88 : decode cX6_year 88 = .ok (.invokevirtual 248, 3) := by decide +kernel
theorem dX6_year_91 : decode cX6_year 91 = .ok (.iload 5, 2) := by decide +kernel
theorem dX6_year_93 : decode cX6_year 93 = .ok (.aload_n 0, 1) := by decide +kernel
theorem dX6_year_94 : decode cX6_year 94 = .ok (.getfield 16, 3) := by decide +kernel
theorem dX6_year_97 : decode cX6_year 97 = .ok (.invokevirtual 251, 3) := by decide +kernel
theorem dX6_year_100 : decode cX6_year 100 = .ok (.ifCond .eq 7, 3) := by decide +kernel
theorem dX6_year_103 : decode cX6_year 103 = .ok (.iconst 1, 1) := by decide +kernel
theorem dX6_year_104 : decode cX6_year 104 = .ok (.goto 4, 3) := by decide +kernel
theorem dX6_year_107 : decode cX6_year 107 = .ok (.iconst 0, 1) := by decide +kernel
theorem dX6_year_108 : decode cX6_year 108 = .ok (.iadd, 1) := by decide +kernel
theorem dX6_year_109 : decode cX6_year 109 = .ok (.istore 5, 2) := by decide +kernel
theorem dX6_year_111 : decode cX6_year 111 = .ok (.iload 6, 2) := by decide +kernel
theorem dX6_year_113 : decode cX6_year 113 = .ok (.aload_n 0, 1) := by decide +kernel
theorem dX6_year_114 : decode cX6_year 114 = .ok (.getfield 16, 3) := by decide +kernel
theorem dX6_year_117 : decode cX6_year 117 = .ok (.invokevirtual 254, 3) := by decide +kernel
theorem dX6_year_120 : decode cX6_year 120 = .ok (.invokestatic 159, 3) := by decide +kernel
theorem dX6_year_123 : decode cX6_year 123 = .ok (.istore 6, 2) := by decide +kernel
theorem dX6_year_125 : decode cX6_year 125 = .ok (.iinc 7 1, 3) := by decide +kernel
theorem dX6_year_128 : decode cX6_year 128 = .ok (.goto (-72), 3) := by decide +kernel
theorem dX6_year_131 : decode cX6_year 131 = .ok (.iload_n 3, 1) := by decide +kernel
theorem dX6_year_132 : decode cX6_year 132 = .ok (.ifCond .ne 33, 3) := by decide +kernel
theorem dX6_year_135 : decode cX6_year 135 = .ok (.aload_n 0, 1) := by decide +kernel
theorem dX6_year_136 : decode cX6_year 136 = .ok (.getfield 16, 3) := by decide +kernel
theorem dX6_year_139 : decode cX6_year 139 = .ok (.iconst 0, 1) := by decide +kernel
theorem dX6_year_140 : decode cX6_year 140 = .ok (.iconst 0, 1) := by decide +kernel
theorem dX6_year_141 : decode cX6_year 141 = .ok (.invokevirtual 133, 3) := by decide +kernel
theorem dX6_year_144 : decode cX6_year 144 = .ok (.aload_n 0, 1) := by decide +kernel
theorem dX6_year_145 : decode cX6_year 145 = .ok (.getfield 16, 3) := by decide +kernel
theorem dX6_year_148 : decode cX6_year 148 = .ok (.iconst 1, 1) := by decide +kernel
theorem dX6_year_149 : decode cX6_year 149 = .ok (.iconst 0, 1) := by decide +kernel
theorem dX6_year_150 : decode cX6_year 150 = .ok (.invokevirtual 133, 3) := by decide +kernel
theorem dX6_year_153 : decode cX6_year 153 = .ok (.iadd, 1) := by decide +kernel
theorem dX6_year_154 : decode cX6_year 154 = .ok (.aload_n 0, 1) := by decide +kernel
theorem dX6_year_155 : decode cX6_year 155 = .ok (.getfield 16, 3) := by decide +kernel
theorem dX6_year_158 : decode cX6_year 158 = .ok (.iconst 2, 1) := by decide +kernel
theorem dX6_year_159 : decode cX6_year 159 = .ok (.iconst 0, 1) := by decide +kernel
theorem dX6_year_160 : decode cX6_year 160 = .ok (.invokevirtual 133, 3) := by decide +kernel
theorem dX6_year_163 : decode cX6_year 163 = .ok (.iadd, 1) := by decide +kernel
theorem dX6_year_164 : decode cX6_year 164 = .ok (.ireturn, 1) := by decide +kernel
theorem dX6_year_165 : decode cX6_year 165 = .ok (.iload_n 3, 1) := by decide +kernel
theorem dX6_year_166 : decode cX6_year 166 = .ok (.iconst 1, 1) := by decide +kernel
theorem dX6_year_167 : decode cX6_year 167 = .ok (.if_icmp .ne 8, 3) := by decide +kernel
theorem dX6_year_170 : decode cX6_year 170 = .ok (.iload 5, 2) := by decide +kernel
theorem dX6_year_172 : decode cX6_year 172 = .ok (.goto 5, 3) := by decide +kernel
theorem dX6_year_175 : decode cX6_year 175 = .ok (.iload 6, 2) := by decide +kernel
theorem dX6_year_177 : decode cX6_year 177 = .ok (.ireturn, 1) := by decide +kernel
set_option maxRecDepth 20000 in
theorem ggX6_image_X6_isWithin : GoodIn wsX6_image wsX6_isWithin := goodIn_r _ [6] (by decide +kernel) (by decide +kernel)
set_option maxRecDepth 20000 in
theorem gX6_image_X6_isWithin : GoodIn wsX6_image (va_wsS RX6 72 yX6_isWithin wsX6_isWithin) := goodIn_app (goodIn_of _ (by decide +kernel)) ggX6_image_X6_isWithin
set_option maxRecDepth 20000 in
theorem ggX6_image_X6_imageOf : GoodIn wsX6_image wsX6_imageOf := goodIn_r _ [10, 11, 12, 35, 36, 37, 38, 39, 40, 41, 42, 43, 44, 45] (by decide +kernel) (by decide +kernel)
set_option maxRecDepth 20000 in
theorem gX6_image_X6_imageOf : GoodIn wsX6_image (wsV RX6 257 RX6 yX6_imageOf wsX6_imageOf) := goodIn_app (goodIn_of _ (by decide +kernel)) ggX6_image_X6_imageOf
set_option maxRecDepth 20000 in
theorem ggX6_image_X3_become : GoodIn wsX6_image wsX3_become := goodIn_r _ [17, 18, 19, 20, 21, 22, 23, 24, 25, 26, 27, 28, 29, 30, 31, 32, 33, 34, 46, 47, 48, 49, 50, 51, 52, 53, 54, 55, 56, 57, 58] (by decide +kernel) (by decide +kernel)
set_option maxRecDepth 20000 in
theorem gX6_image_X3_become : GoodIn wsX6_image (wsV RX6 126 RX3 yX3_become wsX3_become) := goodIn_app (goodIn_of _ (by decide +kernel)) ggX6_image_X3_become
theorem dX6_image_0 : decode cX6_image 0 = .ok (.iload_n 1, 1) := by decide +kernel
theorem dX6_image_1 : decode cX6_image 1 = .ok (.iconst 0, 1) := by decide +kernel
theorem dX6_image_2 : decode cX6_image 2 = .ok (.iconst 1, 1) := by decide +kernel
theorem dX6_image_3 : decode cX6_image 3 = .ok (.invokestatic 72, 3) := by decide +kernel
theorem dX6_image_6 : decode cX6_image 6 = .ok (.ifCond .ne 6, 3) := by decide +kernel
theorem dX6_image_9 : decode cX6_image 9 = .ok (.bipush (-2), 2) := by decide +kernel
theorem dX6_image_11 : decode cX6_image 11 = .ok (.ireturn, 1) := by decide +kernel
theorem dX6_image_12 : decode cX6_image 12 = .ok (.aload_n 0, 1) := by decide +kernel
theorem dX6_image_13 : decode cX6_image 13 = .ok (.iload_n 1, 1) := by decide +kernel
theorem dX6_image_14 : decode cX6_image 14 = .ok (.invokevirtual 257, 3) := by decide +kernel
theorem dX6_image_17 : decode cX6_image 17 = .ok (.aload_n 0, 1) := by decide +kernel
theorem dX6_image_18 : decode cX6_image 18 = .ok (.getfield 12, 3) := by decide +kernel
theorem dX6_image_21 : decode cX6_image 21 = .ok (.invokevirtual 126, 3) := by decide +kernel
theorem dX6_image_24 : decode cX6_image 24 = .ok (.aload_n 0, 1) := by decide +kernel
theorem dX6_image_25 : decode cX6_image 25 = .ok (.getfield 60, 3) := by decide +kernel
theorem dX6_image_28 : decode cX6_image 28 = .ok (.iload_n 1, 1) := by decide +kernel
theorem dX6_image_29 : decode cX6_image 29 = .ok (.iconst 1, 1) := by decide +kernel
theorem dX6_image_30 : decode cX6_image 30 = .ok (.bastore, 1) := by decide +kernel
theorem dX6_image_31 : decode cX6_image 31 = .ok (.iconst 1, 1) := by decide +kernel
theorem dX6_image_32 : decode cX6_image 32 = .ok (.ireturn, 1) := by decide +kernel
set_option maxRecDepth 20000 in
theorem ggX6_restore_X6_isWithin : GoodIn wsX6_restore wsX6_isWithin := goodIn_r _ [6] (by decide +kernel) (by decide +kernel)
set_option maxRecDepth 20000 in
theorem gX6_restore_X6_isWithin : GoodIn wsX6_restore (va_wsS RX6 72 yX6_isWithin wsX6_isWithin) := goodIn_app (goodIn_of _ (by decide +kernel)) ggX6_restore_X6_isWithin
set_option maxRecDepth 20000 in
theorem ggX6_restore_X6_imageOf : GoodIn wsX6_restore wsX6_imageOf := goodIn_r _ [10, 11, 12, 35, 36, 37, 38, 39, 40, 41, 42, 43, 44, 45] (by decide +kernel) (by decide +kernel)
set_option maxRecDepth 20000 in
theorem gX6_restore_X6_imageOf : GoodIn wsX6_restore (wsV RX6 257 RX6 yX6_imageOf wsX6_imageOf) := goodIn_app (goodIn_of _ (by decide +kernel)) ggX6_restore_X6_imageOf
set_option maxRecDepth 20000 in
theorem ggX6_restore_X3_become : GoodIn wsX6_restore wsX3_become := goodIn_r _ [17, 18, 19, 20, 21, 22, 23, 24, 25, 26, 27, 28, 29, 30, 31, 32, 33, 34, 46, 47, 48, 49, 50, 51, 52, 53, 54, 55, 56, 57, 58] (by decide +kernel) (by decide +kernel)
set_option maxRecDepth 20000 in
theorem gX6_restore_X3_become : GoodIn wsX6_restore (wsV RX6 126 RX3 yX3_become wsX3_become) := goodIn_app (goodIn_of _ (by decide +kernel)) ggX6_restore_X3_become
theorem dX6_restore_0 : decode cX6_restore 0 = .ok (.iload_n 1, 1) := by decide +kernel
theorem dX6_restore_1 : decode cX6_restore 1 = .ok (.iconst 0, 1) := by decide +kernel
theorem dX6_restore_2 : decode cX6_restore 2 = .ok (.iconst 1, 1) := by decide +kernel
theorem dX6_restore_3 : decode cX6_restore 3 = .ok (.invokestatic 72, 3) := by decide +kernel
theorem dX6_restore_6 : decode cX6_restore 6 = .ok (.ifCond .ne 6, 3) := by decide +kernel
theorem dX6_restore_9 : decode cX6_restore 9 = .ok (.bipush (-2), 2) := by decide +kernel
theorem dX6_restore_11 : decode cX6_restore 11 = .ok (.ireturn, 1) := by decide +kernel
theorem dX6_restore_12 : decode cX6_restore 12 = .ok (.aload_n 0, 1) := by decide +kernel
theorem dX6_restore_13 : decode cX6_restore 13 = .ok (.getfield 60, 3) := by decide +kernel
theorem dX6_restore_16 : decode cX6_restore 16 = .ok (.iload_n 1, 1) := by decide +kernel
theorem dX6_restore_17 : decode cX6_restore 17 = .ok (.baload, 1) := by decide +kernel
theorem dX6_restore_18 : decode cX6_restore 18 = .ok (.ifCond .ne 6, 3) := by decide +kernel
theorem dX6_restore_21 : decode cX6_restore 21 = .ok (.bipush (-3), 2) := by decide +kernel
theorem dX6_restore_23 : decode cX6_restore 23 = .ok (.ireturn, 1) := by decide +kernel
theorem dX6_restore_24 : decode cX6_restore 24 = .ok (.aload_n 0, 1) := by decide +kernel
theorem dX6_restore_25 : decode cX6_restore 25 = .ok (.getfield 12, 3) := by decide +kernel
theorem dX6_restore_28 : decode cX6_restore 28 = .ok (.aload_n 0, 1) := by decide +kernel
theorem dX6_restore_29 : decode cX6_restore 29 = .ok (.iload_n 1, 1) := by decide +kernel
theorem dX6_restore_30 : decode cX6_restore 30 = .ok (.invokevirtual 257, 3) := by decide +kernel
theorem dX6_restore_33 : decode cX6_restore 33 = .ok (.invokevirtual 126, 3) := by decide +kernel
theorem dX6_restore_36 : decode cX6_restore 36 = .ok (.iconst 1, 1) := by decide +kernel
theorem dX6_restore_37 : decode cX6_restore 37 = .ok (.ireturn, 1) := by decide +kernel
set_option maxRecDepth 20000 in
theorem ggX6_told_X6_isWithin : GoodIn wsX6_told wsX6_isWithin := goodIn_r _ [7] (by decide +kernel) (by decide +kernel)
set_option maxRecDepth 20000 in
theorem gX6_told_X6_isWithin : GoodIn wsX6_told (va_wsS RX6 72 yX6_isWithin wsX6_isWithin) := goodIn_app (goodIn_of _ (by decide +kernel)) ggX6_told_X6_isWithin
set_option maxRecDepth 20000 in
theorem ggX6_told_X6_toldOfToday : GoodIn wsX6_told wsX6_toldOfToday := goodIn_r _ [11, 12, 13, 1, 14, 15, 16, 17, 18, 19, 35, 36, 37, 38, 39, 40, 41, 42, 43, 44, 45, 59, 60, 46, 47, 48, 49, 50, 51, 52, 53, 54, 55, 56, 57, 58] (by decide +kernel) (by decide +kernel)
set_option maxRecDepth 20000 in
theorem gX6_told_X6_toldOfToday : GoodIn wsX6_told (wsV RX6 261 RX6 yX6_toldOfToday wsX6_toldOfToday) := goodIn_app (goodIn_of _ (by decide +kernel)) ggX6_told_X6_toldOfToday
set_option maxRecDepth 20000 in
theorem ggX6_told_X6_isWall : GoodIn wsX6_told wsX6_isWall := goodIn_r _ [22, 4, 5, 6, 7] (by decide +kernel) (by decide +kernel)
set_option maxRecDepth 20000 in
theorem gX6_told_X6_isWall : GoodIn wsX6_told (va_wsS RX6 68 yX6_isWall wsX6_isWall) := goodIn_app (goodIn_of _ (by decide +kernel)) ggX6_told_X6_isWall
set_option maxRecDepth 20000 in
theorem ggX6_told_X6_isDress : GoodIn wsX6_told wsX6_isDress := goodIn_r _ [25, 4, 5, 6, 7] (by decide +kernel) (by decide +kernel)
set_option maxRecDepth 20000 in
theorem gX6_told_X6_isDress : GoodIn wsX6_told (va_wsS RX6 82 yX6_isDress wsX6_isDress) := goodIn_app (goodIn_of _ (by decide +kernel)) ggX6_told_X6_isDress
set_option maxRecDepth 20000 in
theorem ggX6_told_X6_isColour : GoodIn wsX6_told wsX6_isColour := goodIn_r _ [28, 4, 5, 6, 7] (by decide +kernel) (by decide +kernel)
set_option maxRecDepth 20000 in
theorem gX6_told_X6_isColour : GoodIn wsX6_told (va_wsS RX6 139 yX6_isColour wsX6_isColour) := goodIn_app (goodIn_of _ (by decide +kernel)) ggX6_told_X6_isColour
set_option maxRecDepth 20000 in
theorem ggX6_told_X3_worth : GoodIn wsX6_told wsX3_worth := goodIn_r _ [33, 34, 46, 47, 48, 49, 50, 51, 52, 53, 54, 55, 56, 57, 58] (by decide +kernel) (by decide +kernel)
set_option maxRecDepth 20000 in
theorem gX6_told_X3_worth : GoodIn wsX6_told (wsV RX6 85 RX3 yX3_worth wsX3_worth) := goodIn_app (goodIn_of _ (by decide +kernel)) ggX6_told_X3_worth
theorem dX6_told_0 : decode cX6_told 0 = .ok (.iload_n 1, 1) := by decide +kernel
theorem dX6_told_1 : decode cX6_told 1 = .ok (.iconst 0, 1) := by decide +kernel
theorem dX6_told_2 : decode cX6_told 2 = .ok (.bipush 6, 2) := by decide +kernel
theorem dX6_told_4 : decode cX6_told 4 = .ok (.invokestatic 72, 3) := by decide +kernel
theorem dX6_told_7 : decode cX6_told 7 = .ok (.ifCond .eq 9, 3) := by decide +kernel
theorem dX6_told_10 : decode cX6_told 10 = .ok (.aload_n 0, 1) := by decide +kernel
theorem dX6_told_11 : decode cX6_told 11 = .ok (.iload_n 1, 1) := by decide +kernel
theorem dX6_told_12 : decode cX6_told 12 = .ok (.invokevirtual 261, 3) := by decide +kernel
theorem dX6_told_15 : decode cX6_told 15 = .ok (.ireturn, 1) := by decide +kernel
theorem dX6_told_16 : decode cX6_told 16 = .ok (.iload_n 1, 1) := by decide +kernel
theorem dX6_told_17 : decode cX6_told 17 = .ok (.bipush 10, 2) := by decide +kernel
theorem dX6_told_19 : decode cX6_told 19 = .ok (.idiv, 1) := by decide +kernel
theorem dX6_told_20 : decode cX6_told 20 = .ok (.iconst 1, 1) := by decide +kernel
theorem dX6_told_21 : decode cX6_told 21 = .ok (.isub, 1) := by decide +kernel
theorem dX6_told_22 : decode cX6_told 22 = .ok (.istore_n 2, 1) := by decide +kernel
theorem dX6_told_23 : decode cX6_told 23 = .ok (.iload_n 2, 1) := by decide +kernel
theorem dX6_told_24 : decode cX6_told 24 = .ok (.invokestatic 68, 3) := by decide +kernel
theorem dX6_told_27 : decode cX6_told 27 = .ok (.ifCond .eq 44, 3) := by decide +kernel
theorem dX6_told_30 : decode cX6_told 30 = .ok (.iload_n 1, 1) := by decide +kernel
theorem dX6_told_31 : decode cX6_told 31 = .ok (.bipush 10, 2) := by decide +kernel
theorem dX6_told_33 : decode cX6_told 33 = .ok (.irem, 1) := by decide +kernel
theorem dX6_told_34 : decode cX6_told 34 = .ok (.iconst 0, 1) := by decide +kernel
theorem dX6_told_35 : decode cX6_told 35 = .ok (.iconst 1, 1) := by decide +kernel
theorem dX6_told_36 : decode cX6_told 36 = .ok (.invokestatic 72, 3) := by decide +kernel
theorem dX6_told_39 : decode cX6_told 39 = .ok (.ifCond .eq 32, 3) := by decide +kernel
theorem dX6_told_42 : decode cX6_told 42 = .ok (.iload_n 1, 1) := by decide +kernel
theorem dX6_told_43 : decode cX6_told 43 = .ok (.bipush 10, 2) := by decide +kernel
theorem dX6_told_45 : decode cX6_told 45 = .ok (.irem, 1) := by decide +kernel
theorem dX6_told_46 : decode cX6_told 46 = .ok (.ifCond .ne 15, 3) := by decide +kernel
theorem dX6_told_49 : decode cX6_told 49 = .ok (.aload_n 0, 1) := by decide +kernel
theorem dX6_told_50 : decode cX6_told 50 = .ok (.getfield 12, 3) := by decide +kernel
theorem dX6_told_53 : decode cX6_told 53 = .ok (.getfield 79, 3) := by decide +kernel
theorem dX6_told_56 : decode cX6_told 56 = .ok (.iload_n 2, 1) := by decide +kernel
theorem dX6_told_57 : decode cX6_told 57 = .ok (.iaload, 1) := by decide +kernel
theorem dX6_told_58 : decode cX6_told 58 = .ok (.goto 12, 3) := by decide +kernel
theorem dX6_told_61 : decode cX6_told 61 = .ok (.aload_n 0, 1) := by decide +kernel
theorem dX6_told_62 : decode cX6_told 62 = .ok (.getfield 12, 3) := by decide +kernel
theorem dX6_told_65 : decode cX6_told 65 = .ok (.getfield 76, 3) := by decide +kernel
theorem dX6_told_68 : decode cX6_told 68 = .ok (.iload_n 2, 1) := by decide +kernel
theorem dX6_told_69 : decode cX6_told 69 = .ok (.iaload, 1) := by decide +kernel
theorem dX6_told_70 : decode cX6_told 70 = .ok (.ireturn, 1) := by decide +kernel
theorem dX6_told_71 : decode cX6_told 71 = .ok (.iload_n 1, 1) := by decide +kernel
theorem dX6_told_72 : decode cX6_told 72 = .ok (.bipush 100, 2) := by decide +kernel
theorem dX6_told_74 : decode cX6_told 74 = .ok (.idiv, 1) := by decide +kernel
theorem dX6_told_75 : decode cX6_told 75 = .ok (.iconst 1, 1) := by decide +kernel
theorem dX6_told_76 : decode cX6_told 76 = .ok (.isub, 1) := by decide +kernel
theorem dX6_told_77 : decode cX6_told 77 = .ok (.istore_n 3, 1) := by decide +kernel
theorem dX6_told_78 : decode cX6_told 78 = .ok (.iload_n 3, 1) := by decide +kernel
theorem dX6_told_79 : decode cX6_told 79 = .ok (.invokestatic 82, 3) := by decide +kernel
theorem dX6_told_82 : decode cX6_told 82 = .ok (.ifCond .eq 26, 3) := by decide +kernel
theorem dX6_told_85 : decode cX6_told 85 = .ok (.iload_n 1, 1) := by decide +kernel
theorem dX6_told_86 : decode cX6_told 86 = .ok (.bipush 100, 2) := by decide +kernel
theorem dX6_told_88 : decode cX6_told 88 = .ok (.irem, 1) := by decide +kernel
theorem dX6_told_89 : decode cX6_told 89 = .ok (.invokestatic 139, 3) := by decide +kernel
theorem dX6_told_92 : decode cX6_told 92 = .ok (.ifCond .eq 16, 3) := by decide +kernel
theorem dX6_told_95 : decode cX6_told 95 = .ok (.aload_n 0, 1) := by decide +kernel
theorem dX6_told_96 : decode cX6_told 96 = .ok (.getfield 12, 3) := by decide +kernel
theorem dX6_told_99 : decode cX6_told 99 = .ok (.iload_n 3, 1) := by decide +kernel
theorem dX6_told_100 : decode cX6_told 100 = .ok (.iload_n 1, 1) := by decide +kernel
theorem dX6_told_101 : decode cX6_told 101 = .ok (.bipush 100, 2) := by decide +kernel
theorem dX6_told_103 : decode cX6_told 103 = .ok (.irem, 1) := by decide +kernel
theorem dX6_told_104 : decode cX6_told 104 = .ok (.invokevirtual 85, 3) := by decide +kernel
theorem dX6_told_107 : decode cX6_told 107 = .ok (.ireturn, 1) := by decide +kernel
theorem dX6_told_108 : decode cX6_told 108 = .ok (.bipush (-2), 2) := by decide +kernel
theorem dX6_told_110 : decode cX6_told 110 = .ok (.ireturn, 1) := by decide +kernel
theorem dX6_isWithin_0 : decode cX6_isWithin 0 = .ok (.iload_n 0, 1) := by decide +kernel
theorem dX6_isWithin_1 : decode cX6_isWithin 1 = .ok (.iload_n 1, 1) := by decide +kernel
theorem dX6_isWithin_2 : decode cX6_isWithin 2 = .ok (.if_icmp .lt 12, 3) := by decide +kernel
theorem dX6_isWithin_5 : decode cX6_isWithin 5 = .ok (.iload_n 0, 1) := by decide +kernel
theorem dX6_isWithin_6 : decode cX6_isWithin 6 = .ok (.iload_n 2, 1) := by decide +kernel
theorem dX6_isWithin_7 : decode cX6_isWithin 7 = .ok (.if_icmp .gt 7, 3) := by decide +kernel
theorem dX6_isWithin_10 : decode cX6_isWithin 10 = .ok (.iconst 1, 1) := by decide +kernel
theorem dX6_isWithin_11 : decode cX6_isWithin 11 = .ok (.goto 4, 3) := by decide +kernel
theorem dX6_isWithin_14 : decode cX6_isWithin 14 = .ok (.iconst 0, 1) := by decide +kernel
theorem dX6_isWithin_15 : decode cX6_isWithin 15 = .ok (.ireturn, 1) := by decide +kernel
set_option maxRecDepth 20000 in
theorem ggX6_isColour_X6_isWithin : GoodIn wsX6_isColour wsX6_isWithin := goodIn_r _ [4] (by decide +kernel) (by decide +kernel)
set_option maxRecDepth 20000 in
theorem gX6_isColour_X6_isWithin : GoodIn wsX6_isColour (va_wsS RX6 72 yX6_isWithin wsX6_isWithin) := goodIn_app (goodIn_of _ (by decide +kernel)) ggX6_isColour_X6_isWithin
theorem dX6_isColour_0 : decode cX6_isColour 0 = .ok (.iload_n 0, 1) := by decide +kernel
theorem dX6_isColour_1 : decode cX6_isColour 1 = .ok (.iconst 0, 1) := by decide +kernel
theorem dX6_isColour_2 : decode cX6_isColour 2 = .ok (.iconst 2, 1) := by decide +kernel
theorem dX6_isColour_3 : decode cX6_isColour 3 = .ok (.invokestatic 72, 3) := by decide +kernel
theorem dX6_isColour_6 : decode cX6_isColour 6 = .ok (.ireturn, 1) := by decide +kernel
set_option maxRecDepth 20000 in
theorem ggX6_isWall_X6_isWithin : GoodIn wsX6_isWall wsX6_isWithin := goodIn_r _ [4] (by decide +kernel) (by decide +kernel)
set_option maxRecDepth 20000 in
theorem gX6_isWall_X6_isWithin : GoodIn wsX6_isWall (va_wsS RX6 72 yX6_isWithin wsX6_isWithin) := goodIn_app (goodIn_of _ (by decide +kernel)) ggX6_isWall_X6_isWithin
theorem dX6_isWall_0 : decode cX6_isWall 0 = .ok (.iload_n 0, 1) := by decide +kernel
theorem dX6_isWall_1 : decode cX6_isWall 1 = .ok (.iconst 0, 1) := by decide +kernel
theorem dX6_isWall_2 : decode cX6_isWall 2 = .ok (.iconst 3, 1) := by decide +kernel
theorem dX6_isWall_3 : decode cX6_isWall 3 = .ok (.invokestatic 72, 3) := by decide +kernel
theorem dX6_isWall_6 : decode cX6_isWall 6 = .ok (.ireturn, 1) := by decide +kernel
set_option maxRecDepth 20000 in
theorem ggX6_isDress_X6_isWithin : GoodIn wsX6_isDress wsX6_isWithin := goodIn_r _ [4] (by decide +kernel) (by decide +kernel)
set_option maxRecDepth 20000 in
theorem gX6_isDress_X6_isWithin : GoodIn wsX6_isDress (va_wsS RX6 72 yX6_isWithin wsX6_isWithin) := goodIn_app (goodIn_of _ (by decide +kernel)) ggX6_isDress_X6_isWithin
theorem dX6_isDress_0 : decode cX6_isDress 0 = .ok (.iload_n 0, 1) := by decide +kernel
theorem dX6_isDress_1 : decode cX6_isDress 1 = .ok (.iconst 0, 1) := by decide +kernel
theorem dX6_isDress_2 : decode cX6_isDress 2 = .ok (.iconst 5, 1) := by decide +kernel
theorem dX6_isDress_3 : decode cX6_isDress 3 = .ok (.invokestatic 72, 3) := by decide +kernel
theorem dX6_isDress_6 : decode cX6_isDress 6 = .ok (.ireturn, 1) := by decide +kernel
set_option maxRecDepth 20000 in
theorem ggX6_isSet_X6_isWithin : GoodIn wsX6_isSet wsX6_isWithin := goodIn_r _ [4] (by decide +kernel) (by decide +kernel)
set_option maxRecDepth 20000 in
theorem gX6_isSet_X6_isWithin : GoodIn wsX6_isSet (va_wsS RX6 72 yX6_isWithin wsX6_isWithin) := goodIn_app (goodIn_of _ (by decide +kernel)) ggX6_isSet_X6_isWithin
theorem dX6_isSet_0 : decode cX6_isSet 0 = .ok (.iload_n 0, 1) := by decide +kernel
theorem dX6_isSet_1 : decode cX6_isSet 1 = .ok (.iconst 0, 1) := by decide +kernel
theorem dX6_isSet_2 : decode cX6_isSet 2 = .ok (.bipush 63, 2) := by decide +kernel
theorem dX6_isSet_4 : decode cX6_isSet 4 = .ok (.invokestatic 72, 3) := by decide +kernel
theorem dX6_isSet_7 : decode cX6_isSet 7 = .ok (.ireturn, 1) := by decide +kernel
set_option maxRecDepth 20000 in
theorem ggX6_isAmount_X6_isWithin : GoodIn wsX6_isAmount wsX6_isWithin := goodIn_r _ [4] (by decide +kernel) (by decide +kernel)
set_option maxRecDepth 20000 in
theorem gX6_isAmount_X6_isWithin : GoodIn wsX6_isAmount (va_wsS RX6 72 yX6_isWithin wsX6_isWithin) := goodIn_app (goodIn_of _ (by decide +kernel)) ggX6_isAmount_X6_isWithin
theorem dX6_isAmount_0 : decode cX6_isAmount 0 = .ok (.iload_n 0, 1) := by decide +kernel
theorem dX6_isAmount_1 : decode cX6_isAmount 1 = .ok (.iconst 0, 1) := by decide +kernel
theorem dX6_isAmount_2 : decode cX6_isAmount 2 = .ok (.sipush 999, 3) := by decide +kernel
theorem dX6_isAmount_5 : decode cX6_isAmount 5 = .ok (.invokestatic 72, 3) := by decide +kernel
theorem dX6_isAmount_8 : decode cX6_isAmount 8 = .ok (.ireturn, 1) := by decide +kernel
set_option maxRecDepth 20000 in
theorem ggX6_isAhead_X6_isWithin : GoodIn wsX6_isAhead wsX6_isWithin := goodIn_r _ [4] (by decide +kernel) (by decide +kernel)
set_option maxRecDepth 20000 in
theorem gX6_isAhead_X6_isWithin : GoodIn wsX6_isAhead (va_wsS RX6 72 yX6_isWithin wsX6_isWithin) := goodIn_app (goodIn_of _ (by decide +kernel)) ggX6_isAhead_X6_isWithin
theorem dX6_isAhead_0 : decode cX6_isAhead 0 = .ok (.iload_n 0, 1) := by decide +kernel
theorem dX6_isAhead_1 : decode cX6_isAhead 1 = .ok (.iconst 0, 1) := by decide +kernel
theorem dX6_isAhead_2 : decode cX6_isAhead 2 = .ok (.bipush 60, 2) := by decide +kernel
theorem dX6_isAhead_4 : decode cX6_isAhead 4 = .ok (.invokestatic 72, 3) := by decide +kernel
theorem dX6_isAhead_7 : decode cX6_isAhead 7 = .ok (.ireturn, 1) := by decide +kernel
theorem dX6_has_0 : decode cX6_has 0 = .ok (.iload_n 0, 1) := by decide +kernel
theorem dX6_has_1 : decode cX6_has 1 = .ok (.iload_n 1, 1) := by decide +kernel
theorem dX6_has_2 : decode cX6_has 2 = .ok (.ishr, 1) := by decide +kernel
theorem dX6_has_3 : decode cX6_has 3 = .ok (.iconst 1, 1) := by decide +kernel
theorem dX6_has_4 : decode cX6_has 4 = .ok (.iand, 1) := by decide +kernel
theorem dX6_has_5 : decode cX6_has 5 = .ok (.iconst 1, 1) := by decide +kernel
theorem dX6_has_6 : decode cX6_has 6 = .ok (.if_icmp .ne 7, 3) := by decide +kernel
theorem dX6_has_9 : decode cX6_has 9 = .ok (.iconst 1, 1) := by decide +kernel
theorem dX6_has_10 : decode cX6_has 10 = .ok (.goto 4, 3) := by decide +kernel
theorem dX6_has_13 : decode cX6_has 13 = .ok (.iconst 0, 1) := by decide +kernel
theorem dX6_has_14 : decode cX6_has 14 = .ok (.ireturn, 1) := by decide +kernel
theorem dX6_capped_0 : decode cX6_capped 0 = .ok (.iload_n 0, 1) := by decide +kernel
theorem dX6_capped_1 : decode cX6_capped 1 = .ok (.sipush 999, 3) := by decide +kernel
theorem dX6_capped_4 : decode cX6_capped 4 = .ok (.if_icmp .le 9, 3) := by decide +kernel
theorem dX6_capped_7 : decode cX6_capped 7 = .ok (.sipush 999, 3) := by decide +kernel
theorem dX6_capped_10 : decode cX6_capped 10 = .ok (.goto 4, 3) := by decide +kernel
theorem dX6_capped_13 : decode cX6_capped 13 = .ok (.iload_n 0, 1) := by decide +kernel
theorem dX6_capped_14 : decode cX6_capped 14 = .ok (.ireturn, 1) := by decide +kernel
set_option maxRecDepth 20000 in
theorem ggX6_daysCanBe_X5_faultPlace : GoodIn wsX6_daysCanBe wsX5_faultPlace := goodIn_r _ [9, 10, 11, 12, 13, 8, 14, 15, 16, 17, 18, 19, 20, 21, 22, 23, 24, 25, 26, 27, 28, 29, 133, 134] (by decide +kernel) (by decide +kernel)
set_option maxRecDepth 20000 in
theorem gX6_daysCanBe_X5_faultPlace : GoodIn wsX6_daysCanBe (wsV RX6 105 RX5 yX5_faultPlace wsX5_faultPlace) := goodIn_app (goodIn_of _ (by decide +kernel)) ggX6_daysCanBe_X5_faultPlace
set_option maxRecDepth 20000 in
theorem ggX6_daysCanBe_X1_play : GoodIn wsX6_daysCanBe wsX1_play := goodIn_r _ [34, 35, 36, 37, 38, 39, 40, 41, 42, 43, 44, 45, 46, 47, 48, 49, 50, 51, 52, 53, 54, 55, 56, 57, 58, 59, 60, 61, 62, 63, 64, 65, 66, 8, 67, 11, 10, 12, 13, 14, 15, 16, 17, 68, 69, 70, 71, 72, 73, 74, 28, 29, 75, 76, 77, 78, 79, 80, 81, 82, 83, 22, 84, 85, 86, 87, 21, 23, 88, 89, 90, 33, 91, 92, 93, 94, 95, 96, 97, 98, 99, 100, 101, 102, 103, 104, 105, 106, 107, 108, 109, 110, 111, 112, 113, 114, 115, 116, 117, 129, 130, 131, 132, 133, 134, 135, 136, 137, 138, 139, 140, 141, 142, 143, 144, 145, 146, 147] (by decide +kernel) (by decide +kernel)
set_option maxRecDepth 20000 in
theorem gX6_daysCanBe_X1_play : GoodIn wsX6_daysCanBe (wsV RX6 109 RX1 yX1_play wsX1_play) := goodIn_app (goodIn_of _ (by decide +kernel)) ggX6_daysCanBe_X1_play
theorem dX6_daysCanBe_0 : decode cX6_daysCanBe 0 = .ok (.aload_n 0, 1) := by decide +kernel
theorem dX6_daysCanBe_1 : decode cX6_daysCanBe 1 = .ok (.getfield 22, 3) := by decide +kernel
theorem dX6_daysCanBe_4 : decode cX6_daysCanBe 4 = .ok (.invokevirtual 105, 3) := by decide +kernel
theorem dX6_daysCanBe_7 : decode cX6_daysCanBe 7 = .ok (.bipush (-6), 2) := by decide +kernel
theorem dX6_daysCanBe_9 : decode cX6_daysCanBe 9 = .ok (.if_icmp .eq 5, 3) := by decide +kernel
theorem dX6_daysCanBe_12 : decode cX6_daysCanBe 12 = .ok (.iconst 0, 1) := by decide +kernel
theorem dX6_daysCanBe_13 : decode cX6_daysCanBe 13 = .ok (.ireturn, 1) := by decide +kernel
theorem dX6_daysCanBe_14 : decode cX6_daysCanBe 14 = .ok (.aload_n 0, 1) := by decide +kernel
theorem dX6_daysCanBe_15 : decode cX6_daysCanBe 15 = .ok (.getfield 29, 3) := by decide +kernel
theorem dX6_daysCanBe_18 : decode cX6_daysCanBe 18 = .ok (.aload_n 0, 1) := by decide +kernel
theorem dX6_daysCanBe_19 : decode cX6_daysCanBe 19 = .ok (.getfield 12, 3) := by decide +kernel
theorem dX6_daysCanBe_22 : decode cX6_daysCanBe 22 = .ok (.aload_n 0, 1) := by decide +kernel
theorem dX6_daysCanBe_23 : decode cX6_daysCanBe 23 = .ok (.getfield 22, 3) := by decide +kernel
theorem dX6_daysCanBe_26 : decode cX6_daysCanBe 26 = .ok (.invokevirtual 109, 3) := by decide +kernel
theorem dX6_daysCanBe_29 : decode cX6_daysCanBe 29 = .ok (.aload_n 0, 1) := by decide +kernel
theorem dX6_daysCanBe_30 : decode cX6_daysCanBe 30 = .ok (.getfield 29, 3) := by decide +kernel
theorem dX6_daysCanBe_33 : decode cX6_daysCanBe 33 = .ok (.getfield 113, 3) := by decide +kernel
theorem dX6_daysCanBe_36 : decode cX6_daysCanBe 36 = .ok (.ifCond .ne 7, 3) := by decide +kernel
theorem dX6_daysCanBe_39 : decode cX6_daysCanBe 39 = .ok (.iconst 1, 1) := by decide +kernel
theorem dX6_daysCanBe_40 : decode cX6_daysCanBe 40 = .ok (.goto 4, 3) := by decide +kernel
theorem dX6_daysCanBe_43 : decode cX6_daysCanBe 43 = .ok (.iconst 0, 1) := by decide +kernel
theorem dX6_daysCanBe_44 : decode cX6_daysCanBe 44 = .ok (.ireturn, 1) := by decide +kernel
set_option maxRecDepth 20000 in
theorem ggX6_seenWith_X0_fromNow : GoodIn wsX6_seenWith wsX0_fromNow := goodIn_r _ [7, 8, 9, 10, 11, 12, 13, 14, 15, 16, 17, 18, 19, 20, 21, 22, 23, 24, 25, 26, 27, 28, 61, 62, 63, 64, 65, 66, 67, 68, 69, 70, 71, 72, 73, 74] (by decide +kernel) (by decide +kernel)
set_option maxRecDepth 20000 in
theorem gX6_seenWith_X0_fromNow : GoodIn wsX6_seenWith (wsV RX6 149 RX0 yX0_fromNow wsX0_fromNow) := goodIn_app (goodIn_of _ (by decide +kernel)) ggX6_seenWith_X0_fromNow
set_option maxRecDepth 20000 in
theorem ggX6_seenWith_X0_run : GoodIn wsX6_seenWith wsX0_run := goodIn_r _ [32, 8, 33, 27, 34, 35, 36, 37, 6, 38, 39, 40, 26, 28, 61, 62, 63, 64, 65, 66, 67, 68, 69, 70, 71, 72, 73, 74] (by decide +kernel) (by decide +kernel)
set_option maxRecDepth 20000 in
theorem gX6_seenWith_X0_run : GoodIn wsX6_seenWith (wsV RX6 153 RX0 yX0_run wsX0_run) := goodIn_app (goodIn_of _ (by decide +kernel)) ggX6_seenWith_X0_run
set_option maxRecDepth 20000 in
theorem ggX6_seenWith_X0_at : GoodIn wsX6_seenWith wsX0_at := goodIn_r _ [44, 8, 45, 27, 46, 47, 48, 49, 61] (by decide +kernel) (by decide +kernel)
set_option maxRecDepth 20000 in
theorem gX6_seenWith_X0_at : GoodIn wsX6_seenWith (wsV RX6 223 RX0 yX0_at wsX0_at) := goodIn_app (goodIn_of _ (by decide +kernel)) ggX6_seenWith_X0_at
theorem dX6_seenWith_0 : decode cX6_seenWith 0 = .ok (.aload_n 0, 1) := by decide +kernel
theorem dX6_seenWith_1 : decode cX6_seenWith 1 = .ok (.getfield 36, 3) := by decide +kernel
theorem dX6_seenWith_4 : decode cX6_seenWith 4 = .ok (.aload_n 0, 1) := by decide +kernel
theorem dX6_seenWith_5 : decode cX6_seenWith 5 = .ok (.getfield 12, 3) := by decide +kernel
theorem dX6_seenWith_8 : decode cX6_seenWith 8 = .ok (.iload_n 1, 1) := by decide +kernel
theorem dX6_seenWith_9 : decode cX6_seenWith 9 = .ok (.iload_n 3, 1) := by decide +kernel
theorem dX6_seenWith_10 : decode cX6_seenWith 10 = .ok (.invokevirtual 149, 3) := by decide +kernel
theorem dX6_seenWith_13 : decode cX6_seenWith 13 = .ok (.aload_n 0, 1) := by decide +kernel
theorem dX6_seenWith_14 : decode cX6_seenWith 14 = .ok (.getfield 36, 3) := by decide +kernel
theorem dX6_seenWith_17 : decode cX6_seenWith 17 = .ok (.aload_n 0, 1) := by decide +kernel
theorem dX6_seenWith_18 : decode cX6_seenWith 18 = .ok (.getfield 12, 3) := by decide +kernel
theorem dX6_seenWith_21 : decode cX6_seenWith 21 = .ok (.iload_n 2, 1) := by decide +kernel
theorem dX6_seenWith_22 : decode cX6_seenWith 22 = .ok (.iconst 0, 1) := by decide +kernel
theorem dX6_seenWith_23 : decode cX6_seenWith 23 = .ok (.invokevirtual 153, 3) := by decide +kernel
theorem dX6_seenWith_26 : decode cX6_seenWith 26 = .ok (.aload_n 0, 1) := by decide +kernel
theorem dX6_seenWith_27 : decode cX6_seenWith 27 = .ok (.getfield 36, 3) := by decide +kernel
theorem dX6_seenWith_30 : decode cX6_seenWith 30 = .ok (.iload_n 2, 1) := by decide +kernel
theorem dX6_seenWith_31 : decode cX6_seenWith 31 = .ok (.invokevirtual 223, 3) := by decide +kernel
theorem dX6_seenWith_34 : decode cX6_seenWith 34 = .ok (.ireturn, 1) := by decide +kernel
set_option maxRecDepth 20000 in
theorem ggX6_echoAlone_X0_fromNothing : GoodIn wsX6_echoAlone wsX0_fromNothing := goodIn_r _ [7, 8, 9, 10, 11, 44] (by decide +kernel) (by decide +kernel)
set_option maxRecDepth 20000 in
theorem gX6_echoAlone_X0_fromNothing : GoodIn wsX6_echoAlone (wsV RX6 264 RX0 yX0_fromNothing wsX0_fromNothing) := goodIn_app (goodIn_of _ (by decide +kernel)) ggX6_echoAlone_X0_fromNothing
set_option maxRecDepth 20000 in
theorem ggX6_echoAlone_X0_run : GoodIn wsX6_echoAlone wsX0_run := goodIn_r _ [15, 8, 16, 10, 17, 18, 19, 20, 6, 21, 22, 23, 9, 11, 44, 45, 46, 47, 48, 49, 50, 51, 52, 53, 54, 55, 56, 57] (by decide +kernel) (by decide +kernel)
set_option maxRecDepth 20000 in
theorem gX6_echoAlone_X0_run : GoodIn wsX6_echoAlone (wsV RX6 153 RX0 yX0_run wsX0_run) := goodIn_app (goodIn_of _ (by decide +kernel)) ggX6_echoAlone_X0_run
set_option maxRecDepth 20000 in
theorem ggX6_echoAlone_X0_at : GoodIn wsX6_echoAlone wsX0_at := goodIn_r _ [27, 8, 28, 10, 29, 30, 31, 32, 44] (by decide +kernel) (by decide +kernel)
set_option maxRecDepth 20000 in
theorem gX6_echoAlone_X0_at : GoodIn wsX6_echoAlone (wsV RX6 223 RX0 yX0_at wsX0_at) := goodIn_app (goodIn_of _ (by decide +kernel)) ggX6_echoAlone_X0_at
theorem dX6_echoAlone_0 : decode cX6_echoAlone 0 = .ok (.aload_n 0, 1) := by decide +kernel
theorem dX6_echoAlone_1 : decode cX6_echoAlone 1 = .ok (.getfield 36, 3) := by decide +kernel
theorem dX6_echoAlone_4 : decode cX6_echoAlone 4 = .ok (.iload_n 1, 1) := by decide +kernel
theorem dX6_echoAlone_5 : decode cX6_echoAlone 5 = .ok (.invokevirtual 264, 3) := by decide +kernel
theorem dX6_echoAlone_8 : decode cX6_echoAlone 8 = .ok (.aload_n 0, 1) := by decide +kernel
theorem dX6_echoAlone_9 : decode cX6_echoAlone 9 = .ok (.getfield 36, 3) := by decide +kernel
theorem dX6_echoAlone_12 : decode cX6_echoAlone 12 = .ok (.aload_n 0, 1) := by decide +kernel
theorem dX6_echoAlone_13 : decode cX6_echoAlone 13 = .ok (.getfield 12, 3) := by decide +kernel
theorem dX6_echoAlone_16 : decode cX6_echoAlone 16 = .ok (.iload_n 2, 1) := by decide +kernel
theorem dX6_echoAlone_17 : decode cX6_echoAlone 17 = .ok (.iconst 0, 1) := by decide +kernel
theorem dX6_echoAlone_18 : decode cX6_echoAlone 18 = .ok (.invokevirtual 153, 3) := by decide +kernel
theorem dX6_echoAlone_21 : decode cX6_echoAlone 21 = .ok (.aload_n 0, 1) := by decide +kernel
theorem dX6_echoAlone_22 : decode cX6_echoAlone 22 = .ok (.getfield 36, 3) := by decide +kernel
theorem dX6_echoAlone_25 : decode cX6_echoAlone 25 = .ok (.iload_n 2, 1) := by decide +kernel
theorem dX6_echoAlone_26 : decode cX6_echoAlone 26 = .ok (.invokevirtual 223, 3) := by decide +kernel
theorem dX6_echoAlone_29 : decode cX6_echoAlone 29 = .ok (.ireturn, 1) := by decide +kernel
set_option maxRecDepth 20000 in
theorem ggX6_leastShow_X6_seenWith : GoodIn wsX6_leastShow wsX6_seenWith := goodIn_r _ [5, 6, 7, 8, 9, 10, 11, 12, 13, 14, 15, 16, 17, 18, 19, 20, 21, 22, 23, 24, 25, 26, 27, 28, 29, 30, 31, 4, 32, 33, 34, 35, 36, 37, 38, 39, 40, 41, 42, 43, 44, 45, 46, 47, 48, 49, 50, 51, 52, 53, 54, 55, 56, 57, 58, 59, 60, 61, 62, 63, 64, 65, 66, 67, 68, 69, 70, 71, 72, 73, 74, 75, 76, 77, 78] (by decide +kernel) (by decide +kernel)
set_option maxRecDepth 20000 in
theorem gX6_leastShow_X6_seenWith : GoodIn wsX6_leastShow (wsV RX6 145 RX6 yX6_seenWith wsX6_seenWith) := goodIn_app (goodIn_of _ (by decide +kernel)) ggX6_leastShow_X6_seenWith
theorem dX6_leastShow_0 : decode cX6_leastShow 0 = .ok (.iconst 0, 1) := by decide +kernel
theorem dX6_leastShow_1 : decode cX6_leastShow 1 = .ok (.istore 4, 2) := by decide +kernel
theorem dX6_leastShow_3 : decode cX6_leastShow 3 = .ok (.sipush 1000, 3) := by decide +kernel
theorem dX6_leastShow_6 : decode cX6_leastShow 6 = .ok (.istore 5, 2) := by decide +kernel
theorem dX6_leastShow_8 : decode cX6_leastShow 8 = .ok (.iconst 0, 1) := by decide +kernel
theorem dX6_leastShow_9 : decode cX6_leastShow 9 = .ok (.istore 6, 2) := by decide +kernel
theorem dX6_leastShow_11 : decode cX6_leastShow 11 = .ok (.iload 6, 2) := by decide +kernel
theorem dX6_leastShow_13 : decode cX6_leastShow 13 = .ok (.bipush 20, 2) := by decide +kernel
theorem dX6_leastShow_15 : decode cX6_leastShow 15 = .ok (.if_icmp .ge 50, 3) := by decide +kernel
theorem dX6_leastShow_18 : decode cX6_leastShow 18 = .ok (.iload 4, 2) := by decide +kernel
theorem dX6_leastShow_20 : decode cX6_leastShow 20 = .ok (.iload 5, 2) := by decide +kernel
theorem dX6_leastShow_22 : decode cX6_leastShow 22 = .ok (.if_icmp .ge 43, 3) := by decide +kernel
theorem dX6_leastShow_25 : decode cX6_leastShow 25 = .ok (.iload 4, 2) := by decide +kernel
theorem dX6_leastShow_27 : decode cX6_leastShow 27 = .ok (.iload 5, 2) := by decide +kernel
theorem dX6_leastShow_29 : decode cX6_leastShow 29 = .ok (.iadd, 1) := by decide +kernel
theorem dX6_leastShow_30 : decode cX6_leastShow 30 = .ok (.iconst 2, 1) := by decide +kernel
theorem dX6_leastShow_31 : decode cX6_leastShow 31 = .ok (.idiv, 1) := by decide +kernel
theorem dX6_leastShow_32 : decode cX6_leastShow 32 = .ok (.istore 7, 2) := by decide +kernel
theorem dX6_leastShow_34 : decode cX6_leastShow 34 = .ok (.aload_n 0, 1) := by decide +kernel
theorem dX6_leastShow_35 : decode cX6_leastShow 35 = .ok (.iload_n 1, 1) := by decide +kernel
theorem dX6_leastShow_36 : decode cX6_leastShow 36 = .ok (.iload_n 2, 1) := by decide +kernel
theorem dX6_leastShow_37 : decode cX6_leastShow 37 = .ok (.iload 7, 2) := by decide +kernel
theorem dX6_leastShow_39 : decode cX6_leastShow 39 = .ok (.invokevirtual 145, 3) := by decide +kernel
theorem dX6_leastShow_42 : decode cX6_leastShow 42 = .ok (.iload_n 3, 1) := by decide +kernel
theorem dX6_leastShow_43 : decode cX6_leastShow 43 = .ok (.if_icmp .lt 10, 3) := by decide +kernel
theorem dX6_leastShow_46 : decode cX6_leastShow 46 = .ok (.iload 7, 2) := by decide +kernel
theorem dX6_leastShow_48 : decode cX6_leastShow 48 = .ok (.istore 5, 2) := by decide +kernel
theorem dX6_leastShow_50 : decode cX6_leastShow 50 = .ok (.goto 9, 3) := by decide +kernel
theorem dX6_leastShow_53 : decode cX6_leastShow 53 = .ok (.iload 7, 2) := by decide +kernel
theorem dX6_leastShow_55 : decode cX6_leastShow 55 = .ok (.iconst 1, 1) := by decide +kernel
theorem dX6_leastShow_56 : decode cX6_leastShow 56 = .ok (.iadd, 1) := by decide +kernel
theorem dX6_leastShow_57 : decode cX6_leastShow 57 = .ok (.istore 4, 2) := by decide +kernel
theorem dX6_leastShow_59 : decode cX6_leastShow 59 = .ok (.iinc 6 1, 3) := by decide +kernel
theorem dX6_leastShow_62 : decode cX6_leastShow 62 = .ok (.goto (-51), 3) := by decide +kernel
theorem dX6_leastShow_65 : decode cX6_leastShow 65 = .ok (.iload 4, 2) := by decide +kernel
theorem dX6_leastShow_67 : decode cX6_leastShow 67 = .ok (.ireturn, 1) := by decide +kernel
set_option maxRecDepth 20000 in
theorem ggX6_wishDifference_X3_worthOfSet : GoodIn wsX6_wishDifference wsX3_worthOfSet := goodIn_r _ [11, 12, 13, 14, 15, 16, 17, 10, 18, 19, 79, 80, 81, 82, 83, 84, 85, 86, 87, 88, 89, 90, 91] (by decide +kernel) (by decide +kernel)
set_option maxRecDepth 20000 in
theorem gX6_wishDifference_X3_worthOfSet : GoodIn wsX6_wishDifference (wsV RX6 267 RX3 yX3_worthOfSet wsX3_worthOfSet) := goodIn_app (goodIn_of _ (by decide +kernel)) ggX6_wishDifference_X3_worthOfSet
set_option maxRecDepth 20000 in
theorem ggX6_wishDifference_X6_seenWith : GoodIn wsX6_wishDifference wsX6_seenWith := goodIn_r _ [23, 24, 1, 25, 26, 27, 28, 29, 30, 31, 32, 33, 34, 10, 35, 36, 37, 38, 39, 40, 41, 42, 43, 44, 45, 46, 47, 13, 48, 49, 50, 51, 52, 12, 14, 53, 54, 55, 56, 57, 58, 59, 60, 61, 62, 63, 64, 65, 66, 67, 68, 69, 70, 71, 72, 73, 74, 75, 76, 77, 78, 92, 79, 80, 81, 82, 83, 84, 85, 86, 87, 88, 89, 90, 91] (by decide +kernel) (by decide +kernel)
set_option maxRecDepth 20000 in
theorem gX6_wishDifference_X6_seenWith : GoodIn wsX6_wishDifference (wsV RX6 145 RX6 yX6_seenWith wsX6_seenWith) := goodIn_app (goodIn_of _ (by decide +kernel)) ggX6_wishDifference_X6_seenWith
theorem dX6_wishDifference_0 : decode cX6_wishDifference 0 = .ok (.aload_n 0, 1) := by decide +kernel
theorem dX6_wishDifference_1 : decode cX6_wishDifference 1 = .ok (.iconst 0, 1) := by decide +kernel
theorem dX6_wishDifference_2 : decode cX6_wishDifference 2 = .ok (.iload_n 2, 1) := by decide +kernel
theorem dX6_wishDifference_3 : decode cX6_wishDifference 3 = .ok (.aload_n 0, 1) := by decide +kernel
theorem dX6_wishDifference_4 : decode cX6_wishDifference 4 = .ok (.getfield 12, 3) := by decide +kernel
theorem dX6_wishDifference_7 : decode cX6_wishDifference 7 = .ok (.iload_n 1, 1) := by decide +kernel
theorem dX6_wishDifference_8 : decode cX6_wishDifference 8 = .ok (.iconst 0, 1) := by decide +kernel
theorem dX6_wishDifference_9 : decode cX6_wishDifference 9 = .ok (.invokevirtual 267, 3) := by decide +kernel
theorem dX6_wishDifference_12 : decode cX6_wishDifference 12 = .ok (.invokevirtual 145, 3) := by decide +kernel
theorem dX6_wishDifference_15 : decode cX6_wishDifference 15 = .ok (.istore 4, 2) := by decide +kernel
theorem dX6_wishDifference_17 : decode cX6_wishDifference 17 = .ok (.aload_n 0, 1) := by decide +kernel
theorem dX6_wishDifference_18 : decode cX6_wishDifference 18 = .ok (.iconst 1, 1) := by decide +kernel
theorem dX6_wishDifference_19 : decode cX6_wishDifference 19 = .ok (.iload_n 2, 1) := by decide +kernel
theorem dX6_wishDifference_20 : decode cX6_wishDifference 20 = .ok (.aload_n 0, 1) := by decide +kernel
theorem dX6_wishDifference_21 : decode cX6_wishDifference 21 = .ok (.getfield 12, 3) := by decide +kernel
theorem dX6_wishDifference_24 : decode cX6_wishDifference 24 = .ok (.iload_n 1, 1) := by decide +kernel
theorem dX6_wishDifference_25 : decode cX6_wishDifference 25 = .ok (.iconst 1, 1) := by decide +kernel
theorem dX6_wishDifference_26 : decode cX6_wishDifference 26 = .ok (.invokevirtual 267, 3) := by decide +kernel
theorem dX6_wishDifference_29 : decode cX6_wishDifference 29 = .ok (.invokevirtual 145, 3) := by decide +kernel
theorem dX6_wishDifference_32 : decode cX6_wishDifference 32 = .ok (.istore 5, 2) := by decide +kernel
theorem dX6_wishDifference_34 : decode cX6_wishDifference 34 = .ok (.aload_n 0, 1) := by decide +kernel
theorem dX6_wishDifference_35 : decode cX6_wishDifference 35 = .ok (.iconst 2, 1) := by decide +kernel
theorem dX6_wishDifference_36 : decode cX6_wishDifference 36 = .ok (.iload_n 2, 1) := by decide +kernel
theorem dX6_wishDifference_37 : decode cX6_wishDifference 37 = .ok (.aload_n 0, 1) := by decide +kernel
theorem dX6_wishDifference_38 : decode cX6_wishDifference 38 = .ok (.getfield 12, 3) := by decide +kernel
theorem dX6_wishDifference_41 : decode cX6_wishDifference 41 = .ok (.iload_n 1, 1) := by decide +kernel
theorem dX6_wishDifference_42 : decode cX6_wishDifference 42 = .ok (.iconst 2, 1) := by decide +kernel
theorem dX6_wishDifference_43 : decode cX6_wishDifference 43 = .ok (.invokevirtual 267, 3) := by decide +kernel
theorem dX6_wishDifference_46 : decode cX6_wishDifference 46 = .ok (.invokevirtual 145, 3) := by decide +kernel
theorem dX6_wishDifference_49 : decode cX6_wishDifference 49 = .ok (.istore 6, 2) := by decide +kernel
theorem dX6_wishDifference_51 : decode cX6_wishDifference 51 = .ok (.iload 4, 2) := by decide +kernel
theorem dX6_wishDifference_53 : decode cX6_wishDifference 53 = .ok (.iload_n 3, 1) := by decide +kernel
theorem dX6_wishDifference_54 : decode cX6_wishDifference 54 = .ok (.ldc_w 270, 3) := by decide +kernel
theorem dX6_wishDifference_57 : decode cX6_wishDifference 57 = .ok (.idiv, 1) := by decide +kernel
theorem dX6_wishDifference_58 : decode cX6_wishDifference 58 = .ok (.isub, 1) := by decide +kernel
theorem dX6_wishDifference_59 : decode cX6_wishDifference 59 = .ok (.invokestatic 271, 3) := by decide +kernel
theorem dX6_wishDifference_62 : decode cX6_wishDifference 62 = .ok (.iload 5, 2) := by decide +kernel
theorem dX6_wishDifference_64 : decode cX6_wishDifference 64 = .ok (.iload_n 3, 1) := by decide +kernel
theorem dX6_wishDifference_65 : decode cX6_wishDifference 65 = .ok (.sipush 1000, 3) := by decide +kernel
theorem dX6_wishDifference_68 : decode cX6_wishDifference 68 = .ok (.idiv, 1) := by decide +kernel
theorem dX6_wishDifference_69 : decode cX6_wishDifference 69 = .ok (.sipush 1000, 3) := by decide +kernel
theorem dX6_wishDifference_72 : decode cX6_wishDifference 72 = .ok (.irem, 1) := by decide +kernel
theorem dX6_wishDifference_73 : decode cX6_wishDifference 73 = .ok (.isub, 1) := by decide +kernel
theorem dX6_wishDifference_74 : decode cX6_wishDifference 74 = .ok (.invokestatic 271, 3) := by decide +kernel
theorem dX6_wishDifference_77 : decode cX6_wishDifference 77 = .ok (.iadd, 1) := by decide +kernel
theorem dX6_wishDifference_78 : decode cX6_wishDifference 78 = .ok (.iload 6, 2) := by decide +kernel
theorem dX6_wishDifference_80 : decode cX6_wishDifference 80 = .ok (.iload_n 3, 1) := by decide +kernel
theorem dX6_wishDifference_81 : decode cX6_wishDifference 81 = .ok (.sipush 1000, 3) := by decide +kernel
theorem dX6_wishDifference_84 : decode cX6_wishDifference 84 = .ok (.irem, 1) := by decide +kernel
theorem dX6_wishDifference_85 : decode cX6_wishDifference 85 = .ok (.isub, 1) := by decide +kernel
theorem dX6_wishDifference_86 : decode cX6_wishDifference 86 = .ok (.invokestatic 271, 3) := by decide +kernel
theorem dX6_wishDifference_89 : decode cX6_wishDifference 89 = .ok (.iadd, 1) := by decide +kernel
theorem dX6_wishDifference_90 : decode cX6_wishDifference 90 = .ok (.ireturn, 1) := by decide +kernel
set_option maxRecDepth 20000 in
theorem ggX6_fadesWithout_X3_become : GoodIn wsX6_fadesWithout wsX3_become := goodIn_r _ [9, 10, 11, 12, 13, 14, 15, 16, 17, 18, 19, 20, 21, 22, 23, 24, 25, 26, 87, 88, 89, 90, 91, 92, 93, 94, 95, 96, 97, 98, 99] (by decide +kernel) (by decide +kernel)
set_option maxRecDepth 20000 in
theorem gX6_fadesWithout_X3_become : GoodIn wsX6_fadesWithout (wsV RX6 126 RX3 yX3_become wsX3_become) := goodIn_app (goodIn_of _ (by decide +kernel)) ggX6_fadesWithout_X3_become
set_option maxRecDepth 20000 in
theorem ggX6_fadesWithout_X6_has : GoodIn wsX6_fadesWithout wsX6_has := goodIn_r _ [30] (by decide +kernel) (by decide +kernel)
set_option maxRecDepth 20000 in
theorem gX6_fadesWithout_X6_has : GoodIn wsX6_fadesWithout (va_wsS RX6 187 yX6_has wsX6_has) := goodIn_app (goodIn_of _ (by decide +kernel)) ggX6_fadesWithout_X6_has
set_option maxRecDepth 20000 in
theorem ggX6_fadesWithout_X0_fromNow : GoodIn wsX6_fadesWithout wsX0_fromNow := goodIn_r _ [35, 36, 37, 38, 39, 40, 8, 41, 17, 42, 43, 44, 45, 18, 25, 26, 10, 15, 46, 47, 29, 48, 100, 87, 88, 89, 90, 91, 92, 93, 94, 95, 96, 97, 98, 99] (by decide +kernel) (by decide +kernel)
set_option maxRecDepth 20000 in
theorem gX6_fadesWithout_X0_fromNow : GoodIn wsX6_fadesWithout (wsV RX6 149 RX0 yX0_fromNow wsX0_fromNow) := goodIn_app (goodIn_of _ (by decide +kernel)) ggX6_fadesWithout_X0_fromNow
set_option maxRecDepth 20000 in
theorem ggX6_fadesWithout_X0_run : GoodIn wsX6_fadesWithout wsX0_run := goodIn_r _ [52, 36, 28, 29, 30, 53, 54, 55, 34, 56, 57, 58, 47, 48, 100, 87, 88, 89, 90, 91, 92, 93, 94, 95, 96, 97, 98, 99] (by decide +kernel) (by decide +kernel)
set_option maxRecDepth 20000 in
theorem gX6_fadesWithout_X0_run : GoodIn wsX6_fadesWithout (wsV RX6 153 RX0 yX0_run wsX0_run) := goodIn_app (goodIn_of _ (by decide +kernel)) ggX6_fadesWithout_X0_run
set_option maxRecDepth 20000 in
theorem ggX6_fadesWithout_X0_mostFrom : GoodIn wsX6_fadesWithout wsX0_mostFrom := goodIn_r _ [62, 63, 64, 65, 66, 67, 68, 69, 34, 70, 36, 71, 29, 72, 73, 74, 75, 100] (by decide +kernel) (by decide +kernel)
set_option maxRecDepth 20000 in
theorem gX6_fadesWithout_X0_mostFrom : GoodIn wsX6_fadesWithout (wsV RX6 274 RX0 yX0_mostFrom wsX0_mostFrom) := goodIn_app (goodIn_of _ (by decide +kernel)) ggX6_fadesWithout_X0_mostFrom
theorem dX6_fadesWithout_0 : decode cX6_fadesWithout 0 = .ok (.aload_n 0, 1) := by decide +kernel
theorem dX6_fadesWithout_1 : decode cX6_fadesWithout 1 = .ok (.getfield 16, 3) := by decide +kernel
theorem dX6_fadesWithout_4 : decode cX6_fadesWithout 4 = .ok (.aload_n 0, 1) := by decide +kernel
theorem dX6_fadesWithout_5 : decode cX6_fadesWithout 5 = .ok (.getfield 12, 3) := by decide +kernel
theorem dX6_fadesWithout_8 : decode cX6_fadesWithout 8 = .ok (.invokevirtual 126, 3) := by decide +kernel
theorem dX6_fadesWithout_11 : decode cX6_fadesWithout 11 = .ok (.iconst 0, 1) := by decide +kernel
theorem dX6_fadesWithout_12 : decode cX6_fadesWithout 12 = .ok (.istore 4, 2) := by decide +kernel
theorem dX6_fadesWithout_14 : decode cX6_fadesWithout 14 = .ok (.iload 4, 2) := by decide +kernel
theorem dX6_fadesWithout_16 : decode cX6_fadesWithout 16 = .ok (.iconst 4, 1) := by decide +kernel
theorem dX6_fadesWithout_17 : decode cX6_fadesWithout 17 = .ok (.if_icmp .ge 29, 3) := by decide +kernel
theorem dX6_fadesWithout_20 : decode cX6_fadesWithout 20 = .ok (.iload_n 1, 1) := by decide +kernel
theorem dX6_fadesWithout_21 : decode cX6_fadesWithout 21 = .ok (.iload 4, 2) := by decide +kernel
theorem dX6_fadesWithout_23 : decode cX6_fadesWithout 23 = .ok (.invokestatic 187, 3) := by decide +kernel
theorem dX6_fadesWithout_26 : decode cX6_fadesWithout 26 = .ok (.ifCond .eq 14, 3) := by decide +kernel
theorem dX6_fadesWithout_29 : decode cX6_fadesWithout 29 = .ok (.aload_n 0, 1) := by decide +kernel
theorem dX6_fadesWithout_30 : decode cX6_fadesWithout 30 = .ok (.getfield 16, 3) := by decide +kernel
theorem dX6_fadesWithout_33 : decode cX6_fadesWithout 33 = .ok (.getfield 76, 3) := by decide +kernel
theorem dX6_fadesWithout_36 : decode cX6_fadesWithout 36 = .ok (.iload 4, 2) := by decide +kernel
theorem dX6_fadesWithout_38 : decode cX6_fadesWithout 38 = .ok (.iconst 0, 1) := by decide +kernel
theorem dX6_fadesWithout_39 : decode cX6_fadesWithout 39 = .ok (.iastore, 1) := by decide +kernel
theorem dX6_fadesWithout_40 : decode cX6_fadesWithout 40 = .ok (.iinc 4 1, 3) := by decide +kernel
theorem dX6_fadesWithout_43 : decode cX6_fadesWithout 43 = .ok (.goto (-29), 3) := by decide +kernel
theorem dX6_fadesWithout_46 : decode cX6_fadesWithout 46 = .ok (.iconst 0, 1) := by decide +kernel
theorem dX6_fadesWithout_47 : decode cX6_fadesWithout 47 = .ok (.istore 4, 2) := by decide +kernel
theorem dX6_fadesWithout_49 : decode cX6_fadesWithout 49 = .ok (.iload 4, 2) := by decide +kernel
theorem dX6_fadesWithout_51 : decode cX6_fadesWithout 51 = .ok (.iconst 3, 1) := by decide +kernel
theorem dX6_fadesWithout_52 : decode cX6_fadesWithout 52 = .ok (.if_icmp .ge 51, 3) := by decide +kernel
theorem dX6_fadesWithout_55 : decode cX6_fadesWithout 55 = .ok (.aload_n 0, 1) := by decide +kernel
theorem dX6_fadesWithout_56 : decode cX6_fadesWithout 56 = .ok (.getfield 36, 3) := by decide +kernel
theorem dX6_fadesWithout_59 : decode cX6_fadesWithout 59 = .ok (.aload_n 0, 1) := by decide +kernel
theorem dX6_fadesWithout_60 : decode cX6_fadesWithout 60 = .ok (.getfield 16, 3) := by decide +kernel
theorem dX6_fadesWithout_63 : decode cX6_fadesWithout 63 = .ok (.iload 4, 2) := by decide +kernel
theorem dX6_fadesWithout_65 : decode cX6_fadesWithout 65 = .ok (.iconst 0, 1) := by decide +kernel
theorem dX6_fadesWithout_66 : decode cX6_fadesWithout 66 = .ok (.invokevirtual 149, 3) := by decide +kernel
theorem dX6_fadesWithout_69 : decode cX6_fadesWithout 69 = .ok (.aload_n 0, 1) := by decide +kernel
theorem dX6_fadesWithout_70 : decode cX6_fadesWithout 70 = .ok (.getfield 36, 3) := by decide +kernel
theorem dX6_fadesWithout_73 : decode cX6_fadesWithout 73 = .ok (.aload_n 0, 1) := by decide +kernel
theorem dX6_fadesWithout_74 : decode cX6_fadesWithout 74 = .ok (.getfield 16, 3) := by decide +kernel
theorem dX6_fadesWithout_77 : decode cX6_fadesWithout 77 = .ok (.bipush 60, 2) := by decide +kernel
theorem dX6_fadesWithout_79 : decode cX6_fadesWithout 79 = .ok (.iconst 0, 1) := by decide +kernel
theorem dX6_fadesWithout_80 : decode cX6_fadesWithout 80 = .ok (.invokevirtual 153, 3) := by decide +kernel
theorem dX6_fadesWithout_83 : decode cX6_fadesWithout 83 = .ok (.aload_n 0, 1) := by decide +kernel
theorem dX6_fadesWithout_84 : decode cX6_fadesWithout 84 = .ok (.getfield 36, 3) := by decide +kernel
theorem dX6_fadesWithout_87 : decode cX6_fadesWithout 87 = .ok (.iload_n 2, 1) := by decide +kernel
theorem dX6_fadesWithout_88 : decode cX6_fadesWithout 88 = .ok (.invokevirtual 274, 3) := by decide +kernel
theorem dX6_fadesWithout_91 : decode cX6_fadesWithout 91 = .ok (.iload_n 3, 1) := by decide +kernel
theorem dX6_fadesWithout_92 : decode cX6_fadesWithout 92 = .ok (.if_icmp .le 5, 3) := by decide +kernel
theorem dX6_fadesWithout_95 : decode cX6_fadesWithout 95 = .ok (.iconst 0, 1) := by decide +kernel
theorem dX6_fadesWithout_96 : decode cX6_fadesWithout 96 = .ok (.ireturn, 1) := by decide +kernel
theorem dX6_fadesWithout_97 : decode cX6_fadesWithout 97 = .ok (.iinc 4 1, 3) := by decide +kernel
theorem dX6_fadesWithout_100 : decode cX6_fadesWithout 100 = .ok (.goto (-51), 3) := by decide +kernel
theorem dX6_fadesWithout_103 : decode cX6_fadesWithout 103 = .ok (.iconst 1, 1) := by decide +kernel
theorem dX6_fadesWithout_104 : decode cX6_fadesWithout 104 = .ok (.ireturn, 1) := by decide +kernel
set_option maxRecDepth 20000 in
theorem ggX6_fillEchoes_X3_worth : GoodIn wsX6_fillEchoes wsX3_worth := goodIn_r _ [7, 8, 55, 56, 57, 58, 59, 60, 61, 62, 63, 64, 65, 66, 67] (by decide +kernel) (by decide +kernel)
set_option maxRecDepth 20000 in
theorem gX6_fillEchoes_X3_worth : GoodIn wsX6_fillEchoes (wsV RX6 85 RX3 yX3_worth wsX3_worth) := goodIn_app (goodIn_of _ (by decide +kernel)) ggX6_fillEchoes_X3_worth
set_option maxRecDepth 20000 in
theorem ggX6_fillEchoes_X6_echoAlone : GoodIn wsX6_fillEchoes wsX6_echoAlone := goodIn_r _ [13, 14, 2, 15, 16, 17, 18, 19, 20, 21, 12, 22, 23, 24, 25, 26, 27, 28, 29, 30, 31, 32, 33, 34, 35, 36, 37, 38, 39, 40, 41, 42, 43, 44, 45, 46, 47, 48, 49, 50, 51, 52, 53, 54, 68, 55, 56, 57, 58, 59, 60, 61, 62, 63, 64, 65, 66, 67] (by decide +kernel) (by decide +kernel)
set_option maxRecDepth 20000 in
theorem gX6_fillEchoes_X6_echoAlone : GoodIn wsX6_fillEchoes (wsV RX6 194 RX6 yX6_echoAlone wsX6_echoAlone) := goodIn_app (goodIn_of _ (by decide +kernel)) ggX6_fillEchoes_X6_echoAlone
theorem dX6_fillEchoes_0 : decode cX6_fillEchoes 0 = .ok (.iconst 0, 1) := by decide +kernel
theorem dX6_fillEchoes_1 : decode cX6_fillEchoes 1 = .ok (.istore_n 2, 1) := by decide +kernel
theorem dX6_fillEchoes_2 : decode cX6_fillEchoes 2 = .ok (.iload_n 2, 1) := by decide +kernel
theorem dX6_fillEchoes_3 : decode cX6_fillEchoes 3 = .ok (.bipush 6, 2) := by decide +kernel
theorem dX6_fillEchoes_5 : decode cX6_fillEchoes 5 = .ok (.if_icmp .ge 46, 3) := by decide +kernel
theorem dX6_fillEchoes_8 : decode cX6_fillEchoes 8 = .ok (.iconst 0, 1) := by decide +kernel
theorem dX6_fillEchoes_9 : decode cX6_fillEchoes 9 = .ok (.istore_n 3, 1) := by decide +kernel
theorem dX6_fillEchoes_10 : decode cX6_fillEchoes 10 = .ok (.iload_n 3, 1) := by decide +kernel
theorem dX6_fillEchoes_11 : decode cX6_fillEchoes 11 = .ok (.iconst 3, 1) := by decide +kernel
theorem dX6_fillEchoes_12 : decode cX6_fillEchoes 12 = .ok (.if_icmp .ge 33, 3) := by decide +kernel
theorem dX6_fillEchoes_15 : decode cX6_fillEchoes 15 = .ok (.aload_n 0, 1) := by decide +kernel
theorem dX6_fillEchoes_16 : decode cX6_fillEchoes 16 = .ok (.getfield 64, 3) := by decide +kernel
theorem dX6_fillEchoes_19 : decode cX6_fillEchoes 19 = .ok (.iload_n 2, 1) := by decide +kernel
theorem dX6_fillEchoes_20 : decode cX6_fillEchoes 20 = .ok (.iconst 3, 1) := by decide +kernel
theorem dX6_fillEchoes_21 : decode cX6_fillEchoes 21 = .ok (.imul, 1) := by decide +kernel
theorem dX6_fillEchoes_22 : decode cX6_fillEchoes 22 = .ok (.iload_n 3, 1) := by decide +kernel
theorem dX6_fillEchoes_23 : decode cX6_fillEchoes 23 = .ok (.iadd, 1) := by decide +kernel
theorem dX6_fillEchoes_24 : decode cX6_fillEchoes 24 = .ok (.aload_n 0, 1) := by decide +kernel
theorem dX6_fillEchoes_25 : decode cX6_fillEchoes 25 = .ok (.aload_n 0, 1) := by decide +kernel
theorem dX6_fillEchoes_26 : decode cX6_fillEchoes 26 = .ok (.getfield 12, 3) := by decide +kernel
theorem dX6_fillEchoes_29 : decode cX6_fillEchoes 29 = .ok (.iload_n 2, 1) := by decide +kernel
theorem dX6_fillEchoes_30 : decode cX6_fillEchoes 30 = .ok (.iload_n 3, 1) := by decide +kernel
theorem dX6_fillEchoes_31 : decode cX6_fillEchoes 31 = .ok (.invokevirtual 85, 3) := by decide +kernel
theorem dX6_fillEchoes_34 : decode cX6_fillEchoes 34 = .ok (.iload_n 1, 1) := by decide +kernel
theorem dX6_fillEchoes_35 : decode cX6_fillEchoes 35 = .ok (.invokevirtual 194, 3) := by decide +kernel
theorem dX6_fillEchoes_38 : decode cX6_fillEchoes 38 = .ok (.iastore, 1) := by decide +kernel
theorem dX6_fillEchoes_39 : decode cX6_fillEchoes 39 = .ok (.iinc 3 1, 3) := by decide +kernel
theorem dX6_fillEchoes_42 : decode cX6_fillEchoes 42 = .ok (.goto (-32), 3) := by decide +kernel
theorem dX6_fillEchoes_45 : decode cX6_fillEchoes 45 = .ok (.iinc 2 1, 3) := by decide +kernel
theorem dX6_fillEchoes_48 : decode cX6_fillEchoes 48 = .ok (.goto (-46), 3) := by decide +kernel
theorem dX6_fillEchoes_51 : decode cX6_fillEchoes 51 = .ok (.return_, 1) := by decide +kernel
theorem dX6_echoAlike_0 : decode cX6_echoAlike 0 = .ok (.iconst 0, 1) := by decide +kernel
theorem dX6_echoAlike_1 : decode cX6_echoAlike 1 = .ok (.istore_n 3, 1) := by decide +kernel
theorem dX6_echoAlike_2 : decode cX6_echoAlike 2 = .ok (.iload_n 3, 1) := by decide +kernel
theorem dX6_echoAlike_3 : decode cX6_echoAlike 3 = .ok (.iconst 3, 1) := by decide +kernel
theorem dX6_echoAlike_4 : decode cX6_echoAlike 4 = .ok (.if_icmp .ge 34, 3) := by decide +kernel
theorem dX6_echoAlike_7 : decode cX6_echoAlike 7 = .ok (.aload_n 0, 1) := by decide +kernel
theorem dX6_echoAlike_8 : decode cX6_echoAlike 8 = .ok (.getfield 64, 3) := by decide +kernel
theorem dX6_echoAlike_11 : decode cX6_echoAlike 11 = .ok (.iload_n 1, 1) := by decide +kernel
theorem dX6_echoAlike_12 : decode cX6_echoAlike 12 = .ok (.iconst 3, 1) := by decide +kernel
theorem dX6_echoAlike_13 : decode cX6_echoAlike 13 = .ok (.imul, 1) := by decide +kernel
theorem dX6_echoAlike_14 : decode cX6_echoAlike 14 = .ok (.iload_n 3, 1) := by decide +kernel
theorem dX6_echoAlike_15 : decode cX6_echoAlike 15 = .ok (.iadd, 1) := by decide +kernel
theorem dX6_echoAlike_16 : decode cX6_echoAlike 16 = .ok (.iaload, 1) := by decide +kernel
theorem dX6_echoAlike_17 : decode cX6_echoAlike 17 = .ok (.aload_n 0, 1) := by decide +kernel
theorem dX6_echoAlike_18 : decode cX6_echoAlike 18 = .ok (.getfield 64, 3) := by decide +kernel
theorem dX6_echoAlike_21 : decode cX6_echoAlike 21 = .ok (.iload_n 2, 1) := by decide +kernel
theorem dX6_echoAlike_22 : decode cX6_echoAlike 22 = .ok (.iconst 3, 1) := by decide +kernel
theorem dX6_echoAlike_23 : decode cX6_echoAlike 23 = .ok (.imul, 1) := by decide +kernel
theorem dX6_echoAlike_24 : decode cX6_echoAlike 24 = .ok (.iload_n 3, 1) := by decide +kernel
theorem dX6_echoAlike_25 : decode cX6_echoAlike 25 = .ok (.iadd, 1) := by decide +kernel
theorem dX6_echoAlike_26 : decode cX6_echoAlike 26 = .ok (.iaload, 1) := by decide +kernel
theorem dX6_echoAlike_27 : decode cX6_echoAlike 27 = .ok (.if_icmp .eq 5, 3) := by decide +kernel
theorem dX6_echoAlike_30 : decode cX6_echoAlike 30 = .ok (.iconst 0, 1) := by decide +kernel
theorem dX6_echoAlike_31 : decode cX6_echoAlike 31 = .ok (.ireturn, 1) := by decide +kernel
theorem dX6_echoAlike_32 : decode cX6_echoAlike 32 = .ok (.iinc 3 1, 3) := by decide +kernel
theorem dX6_echoAlike_35 : decode cX6_echoAlike 35 = .ok (.goto (-33), 3) := by decide +kernel
theorem dX6_echoAlike_38 : decode cX6_echoAlike 38 = .ok (.iconst 1, 1) := by decide +kernel
theorem dX6_echoAlike_39 : decode cX6_echoAlike 39 = .ok (.ireturn, 1) := by decide +kernel
set_option maxRecDepth 20000 in
theorem ggX6_fogWeight_J6_bitCount_0f7a4 : GoodIn wsX6_fogWeight wsJ6_bitCount_0f7a4 := goodIn_r _ [4, 5, 6, 7] (by decide +kernel) (by decide +kernel)
set_option maxRecDepth 20000 in
theorem gX6_fogWeight_J6_bitCount_0f7a4 : GoodIn wsX6_fogWeight (va_wsS RX6 174 yJ6_bitCount_0f7a4 wsJ6_bitCount_0f7a4) := goodIn_app (goodIn_of _ (by decide +kernel)) ggX6_fogWeight_J6_bitCount_0f7a4
set_option maxRecDepth 20000 in
theorem ggX6_fogWeight_X6_power : GoodIn wsX6_fogWeight wsX6_power := goodIn_r _ [11] (by decide +kernel) (by decide +kernel)
set_option maxRecDepth 20000 in
theorem gX6_fogWeight_X6_power : GoodIn wsX6_fogWeight (va_wsS RX6 226 yX6_power wsX6_power) := goodIn_app (goodIn_of _ (by decide +kernel)) ggX6_fogWeight_X6_power
theorem dX6_fogWeight_0 : decode cX6_fogWeight 0 = .ok (.iload_n 0, 1) := by decide +kernel
theorem dX6_fogWeight_1 : decode cX6_fogWeight 1 = .ok (.invokestatic 174, 3) := by decide +kernel
theorem dX6_fogWeight_4 : decode cX6_fogWeight 4 = .ok (.istore_n 3, 1) := by decide +kernel
theorem dX6_fogWeight_5 : decode cX6_fogWeight 5 = .ok (.iload_n 2, 1) := by decide +kernel
theorem dX6_fogWeight_6 : decode cX6_fogWeight 6 = .ok (.iload_n 3, 1) := by decide +kernel
theorem dX6_fogWeight_7 : decode cX6_fogWeight 7 = .ok (.invokestatic 226, 3) := by decide +kernel
theorem dX6_fogWeight_10 : decode cX6_fogWeight 10 = .ok (.bipush 10, 2) := by decide +kernel
theorem dX6_fogWeight_12 : decode cX6_fogWeight 12 = .ok (.iload_n 2, 1) := by decide +kernel
theorem dX6_fogWeight_13 : decode cX6_fogWeight 13 = .ok (.isub, 1) := by decide +kernel
theorem dX6_fogWeight_14 : decode cX6_fogWeight 14 = .ok (.iload_n 1, 1) := by decide +kernel
theorem dX6_fogWeight_15 : decode cX6_fogWeight 15 = .ok (.iload_n 3, 1) := by decide +kernel
theorem dX6_fogWeight_16 : decode cX6_fogWeight 16 = .ok (.isub, 1) := by decide +kernel
theorem dX6_fogWeight_17 : decode cX6_fogWeight 17 = .ok (.invokestatic 226, 3) := by decide +kernel
theorem dX6_fogWeight_20 : decode cX6_fogWeight 20 = .ok (.lmul, 1) := by decide +kernel
theorem dX6_fogWeight_21 : decode cX6_fogWeight 21 = .ok (.lreturn, 1) := by decide +kernel
theorem dX6_power_0 : decode cX6_power 0 = .ok (.lconst 1, 1) := by decide +kernel
theorem dX6_power_1 : decode cX6_power 1 = .ok (.lstore_n 2, 1) := by decide +kernel
theorem dX6_power_2 : decode cX6_power 2 = .ok (.iconst 0, 1) := by decide +kernel
theorem dX6_power_3 : decode cX6_power 3 = .ok (.istore 4, 2) := by decide +kernel
theorem dX6_power_5 : decode cX6_power 5 = .ok (.iload 4, 2) := by decide +kernel
theorem dX6_power_7 : decode cX6_power 7 = .ok (.iload_n 1, 1) := by decide +kernel
theorem dX6_power_8 : decode cX6_power 8 = .ok (.if_icmp .ge 14, 3) := by decide +kernel
theorem dX6_power_11 : decode cX6_power 11 = .ok (.lload_n 2, 1) := by decide +kernel
theorem dX6_power_12 : decode cX6_power 12 = .ok (.iload_n 0, 1) := by decide +kernel
theorem dX6_power_13 : decode cX6_power 13 = .ok (.i2l, 1) := by decide +kernel
theorem dX6_power_14 : decode cX6_power 14 = .ok (.lmul, 1) := by decide +kernel
theorem dX6_power_15 : decode cX6_power 15 = .ok (.lstore_n 2, 1) := by decide +kernel
theorem dX6_power_16 : decode cX6_power 16 = .ok (.iinc 4 1, 3) := by decide +kernel
theorem dX6_power_19 : decode cX6_power 19 = .ok (.goto (-14), 3) := by decide +kernel
theorem dX6_power_22 : decode cX6_power 22 = .ok (.lload_n 2, 1) := by decide +kernel
theorem dX6_power_23 : decode cX6_power 23 = .ok (.lreturn, 1) := by decide +kernel
theorem dX6_commonDivisor_0 : decode cX6_commonDivisor 0 = .ok (.lload_n 0, 1) := by decide +kernel
theorem dX6_commonDivisor_1 : decode cX6_commonDivisor 1 = .ok (.lstore 4, 2) := by decide +kernel
theorem dX6_commonDivisor_3 : decode cX6_commonDivisor 3 = .ok (.lload_n 2, 1) := by decide +kernel
theorem dX6_commonDivisor_4 : decode cX6_commonDivisor 4 = .ok (.lstore 6, 2) := by decide +kernel
theorem dX6_commonDivisor_6 : decode cX6_commonDivisor 6 = .ok (.iconst 0, 1) := by decide +kernel
theorem dX6_commonDivisor_7 : decode cX6_commonDivisor 7 = .ok (.istore 8, 2) := by decide +kernel
theorem dX6_commonDivisor_9 : decode cX6_commonDivisor 9 = .ok (.iload 8, 2) := by decide +kernel
theorem dX6_commonDivisor_11 : decode cX6_commonDivisor 11 = .ok (.sipush 200, 3) := by decide +kernel
theorem dX6_commonDivisor_14 : decode cX6_commonDivisor 14 = .ok (.if_icmp .ge 31, 3) := by decide +kernel
theorem dX6_commonDivisor_17 : decode cX6_commonDivisor 17 = .ok (.lload 6, 2) := by decide +kernel
theorem dX6_commonDivisor_19 : decode cX6_commonDivisor 19 = .ok (.lconst 0, 1) := by decide +kernel
theorem dX6_commonDivisor_20 : decode cX6_commonDivisor 20 = .ok (.lcmp, 1) := by decide +kernel
theorem dX6_commonDivisor_21 : decode cX6_commonDivisor 21 = .ok (.ifCond .eq 24, 3) := by decide +kernel
theorem dX6_commonDivisor_24 : decode cX6_commonDivisor 24 = .ok (.lload 4, 2) := by decide +kernel
theorem dX6_commonDivisor_26 : decode cX6_commonDivisor 26 = .ok (.lload 6, 2) := by decide +kernel
theorem dX6_commonDivisor_28 : decode cX6_commonDivisor 28 = .ok (.lrem, 1) := by decide +kernel
theorem dX6_commonDivisor_29 : decode cX6_commonDivisor 29 = .ok (.lstore 9, 2) := by decide +kernel
theorem dX6_commonDivisor_31 : decode cX6_commonDivisor 31 = .ok (.lload 6, 2) := by decide +kernel
theorem dX6_commonDivisor_33 : decode cX6_commonDivisor 33 = .ok (.lstore 4, 2) := by decide +kernel
theorem dX6_commonDivisor_35 : decode cX6_commonDivisor 35 = .ok (.lload 9, 2) := by decide +kernel
theorem dX6_commonDivisor_37 : decode cX6_commonDivisor 37 = .ok (.lstore 6, 2) := by decide +kernel
theorem dX6_commonDivisor_39 : decode cX6_commonDivisor 39 = .ok (.iinc 8 1, 3) := by decide +kernel
theorem dX6_commonDivisor_42 : decode cX6_commonDivisor 42 = .ok (.goto (-33), 3) := by decide +kernel
theorem dX6_commonDivisor_45 : decode cX6_commonDivisor 45 = .ok (.lload 4, 2) := by decide +kernel
theorem dX6_commonDivisor_47 : decode cX6_commonDivisor 47 = .ok (.lreturn, 1) := by decide +kernel
theorem dX6_imageOf_0 : decode cX6_imageOf 0 = .ok (.iload_n 1, 1) := by decide +kernel
theorem dX6_imageOf_1 : decode cX6_imageOf 1 = .ok (.ifCond .ne 10, 3) := by decide +kernel
theorem dX6_imageOf_4 : decode cX6_imageOf 4 = .ok (.aload_n 0, 1) := by decide +kernel
theorem dX6_imageOf_5 : decode cX6_imageOf 5 = .ok (.getfield 54, 3) := by decide +kernel
theorem dX6_imageOf_8 : decode cX6_imageOf 8 = .ok (.goto 7, 3) := by decide +kernel
theorem dX6_imageOf_11 : decode cX6_imageOf 11 = .ok (.aload_n 0, 1) := by decide +kernel
theorem dX6_imageOf_12 : decode cX6_imageOf 12 = .ok (.getfield 57, 3) := by decide +kernel
theorem dX6_imageOf_15 : decode cX6_imageOf 15 = .ok (.areturn, 1) := by decide +kernel
theorem dX6_toldOfToday_0 : decode cX6_toldOfToday 0 = .ok (.iload_n 1, 1) := by decide +kernel
theorem dX6_toldOfToday_1 : decode cX6_toldOfToday 1 = .ok (.tableswitch 103 0 5 #[39, 47, 55, 63, 71, 87], 39) := by decide +kernel
theorem dX6_toldOfToday_40 : decode cX6_toldOfToday 40 = .ok (.aload_n 0, 1) := by decide +kernel
theorem dX6_toldOfToday_41 : decode cX6_toldOfToday 41 = .ok (.getfield 22, 3) := by decide +kernel
theorem dX6_toldOfToday_44 : decode cX6_toldOfToday 44 = .ok (.getfield 99, 3) := by decide +kernel
theorem dX6_toldOfToday_47 : decode cX6_toldOfToday 47 = .ok (.ireturn, 1) := by decide +kernel
theorem dX6_toldOfToday_48 : decode cX6_toldOfToday 48 = .ok (.aload_n 0, 1) := by decide +kernel
theorem dX6_toldOfToday_49 : decode cX6_toldOfToday 49 = .ok (.getfield 12, 3) := by decide +kernel
theorem dX6_toldOfToday_52 : decode cX6_toldOfToday 52 = .ok (.getfield 130, 3) := by decide +kernel
theorem dX6_toldOfToday_55 : decode cX6_toldOfToday 55 = .ok (.ireturn, 1) := by decide +kernel
theorem dX6_toldOfToday_56 : decode cX6_toldOfToday 56 = .ok (.aload_n 0, 1) := by decide +kernel
theorem dX6_toldOfToday_57 : decode cX6_toldOfToday 57 = .ok (.getfield 12, 3) := by decide +kernel
theorem dX6_toldOfToday_60 : decode cX6_toldOfToday 60 = .ok (.getfield 95, 3) := by decide +kernel
theorem dX6_toldOfToday_63 : decode cX6_toldOfToday 63 = .ok (.ireturn, 1) := by decide +kernel
theorem dX6_toldOfToday_64 : decode cX6_toldOfToday 64 = .ok (.aload_n 0, 1) := by decide +kernel
theorem dX6_toldOfToday_65 : decode cX6_toldOfToday 65 = .ok (.getfield 12, 3) := by decide +kernel
theorem dX6_toldOfToday_68 : decode cX6_toldOfToday 68 = .ok (.getfield 197, 3) := by decide +kernel
theorem dX6_toldOfToday_71 : decode cX6_toldOfToday 71 = .ok (.ireturn, 1) := by decide +kernel
theorem dX6_toldOfToday_72 : decode cX6_toldOfToday 72 = .ok (.aload_n 0, 1) := by decide +kernel
theorem dX6_toldOfToday_73 : decode cX6_toldOfToday 73 = .ok (.getfield 12, 3) := by decide +kernel
theorem dX6_toldOfToday_76 : decode cX6_toldOfToday 76 = .ok (.getfield 277, 3) := by decide +kernel
theorem dX6_toldOfToday_79 : decode cX6_toldOfToday 79 = .ok (.ifCond .eq 7, 3) := by decide +kernel
theorem dX6_toldOfToday_82 : decode cX6_toldOfToday 82 = .ok (.iconst 1, 1) := by decide +kernel
theorem dX6_toldOfToday_83 : decode cX6_toldOfToday 83 = .ok (.goto 4, 3) := by decide +kernel
theorem dX6_toldOfToday_86 : decode cX6_toldOfToday 86 = .ok (.iconst 0, 1) := by decide +kernel
theorem dX6_toldOfToday_87 : decode cX6_toldOfToday 87 = .ok (.ireturn, 1) := by decide +kernel
theorem dX6_toldOfToday_88 : decode cX6_toldOfToday 88 = .ok (.aload_n 0, 1) := by decide +kernel
theorem dX6_toldOfToday_89 : decode cX6_toldOfToday 89 = .ok (.getfield 12, 3) := by decide +kernel
theorem dX6_toldOfToday_92 : decode cX6_toldOfToday 92 = .ok (.getfield 281, 3) := by decide +kernel
theorem dX6_toldOfToday_95 : decode cX6_toldOfToday 95 = .ok (.ifCond .eq 7, 3) := by decide +kernel
theorem dX6_toldOfToday_98 : decode cX6_toldOfToday 98 = .ok (.iconst 1, 1) := by decide +kernel
theorem dX6_toldOfToday_99 : decode cX6_toldOfToday 99 = .ok (.goto 4, 3) := by decide +kernel
theorem dX6_toldOfToday_102 : decode cX6_toldOfToday 102 = .ok (.iconst 0, 1) := by decide +kernel
theorem dX6_toldOfToday_103 : decode cX6_toldOfToday 103 = .ok (.ireturn, 1) := by decide +kernel
theorem dX6_toldOfToday_104 : decode cX6_toldOfToday 104 = .ok (.aload_n 0, 1) := by decide +kernel
theorem dX6_toldOfToday_105 : decode cX6_toldOfToday 105 = .ok (.getfield 12, 3) := by decide +kernel
theorem dX6_toldOfToday_108 : decode cX6_toldOfToday 108 = .ok (.getfield 284, 3) := by decide +kernel
theorem dX6_toldOfToday_111 : decode cX6_toldOfToday 111 = .ok (.ireturn, 1) := by decide +kernel
