theorem dX7_look_35 : decode cX7_look 35 = .ok (.iconst 0, 1) := by decide +kernel
theorem dX7_look_36 : decode cX7_look 36 = .ok (.istore 6, 2) := by decide +kernel
theorem dX7_look_38 : decode cX7_look 38 = .ok (.iload 6, 2) := by decide +kernel
theorem dX7_look_40 : decode cX7_look 40 = .ok (.sipush 1000, 3) := by decide +kernel
theorem dX7_look_43 : decode cX7_look 43 = .ok (.if_icmp .ge 17, 3) := by decide +kernel
theorem dX7_look_46 : decode cX7_look 46 = .ok (.aload_n 0, 1) := by decide +kernel
theorem dX7_look_47 : decode cX7_look 47 = .ok (.getfield 50, 3) := by decide +kernel
theorem dX7_look_50 : decode cX7_look 50 = .ok (.iload 6, 2) := by decide +kernel
theorem dX7_look_52 : decode cX7_look 52 = .ok (.iconst 0, 1) := by decide +kernel
theorem dX7_look_53 : decode cX7_look 53 = .ok (.iastore, 1) := by decide +kernel
theorem dX7_look_54 : decode cX7_look 54 = .ok (.iinc 6 1, 3) := by decide +kernel
theorem dX7_look_57 : decode cX7_look 57 = .ok (.goto (-19), 3) := by decide +kernel
theorem dX7_look_60 : decode cX7_look 60 = .ok (.iconst 0, 1) := by decide +kernel
theorem dX7_look_61 : decode cX7_look 61 = .ok (.istore 6, 2) := by decide +kernel
theorem dX7_look_63 : decode cX7_look 63 = .ok (.iload 6, 2) := by decide +kernel
theorem dX7_look_65 : decode cX7_look 65 = .ok (.bipush 100, 2) := by decide +kernel
theorem dX7_look_67 : decode cX7_look 67 = .ok (.if_icmp .ge 89, 3) := by decide +kernel
theorem dX7_look_70 : decode cX7_look 70 = .ok (.iload 6, 2) := by decide +kernel
theorem dX7_look_72 : decode cX7_look 72 = .ok (.bipush 10, 2) := by decide +kernel
theorem dX7_look_74 : decode cX7_look 74 = .ok (.irem, 1) := by decide +kernel
theorem dX7_look_75 : decode cX7_look 75 = .ok (.ifCond .le 75, 3) := by decide +kernel
theorem dX7_look_78 : decode cX7_look 78 = .ok (.aload_n 0, 1) := by decide +kernel
theorem dX7_look_79 : decode cX7_look 79 = .ok (.iload 6, 2) := by decide +kernel
theorem dX7_look_81 : decode cX7_look 81 = .ok (.bipush 10, 2) := by decide +kernel
theorem dX7_look_83 : decode cX7_look 83 = .ok (.idiv, 1) := by decide +kernel
theorem dX7_look_84 : decode cX7_look 84 = .ok (.iload 6, 2) := by decide +kernel
theorem dX7_look_86 : decode cX7_look 86 = .ok (.bipush 10, 2) := by decide +kernel
theorem dX7_look_88 : decode cX7_look 88 = .ok (.irem, 1) := by decide +kernel
theorem dX7_look_89 : decode cX7_look 89 = .ok (.invokevirtual 179, 3) := by decide +kernel
theorem dX7_look_92 : decode cX7_look 92 = .ok (.ifCond .eq 58, 3) := by decide +kernel
theorem dX7_look_95 : decode cX7_look 95 = .ok (.aload_n 0, 1) := by decide +kernel
theorem dX7_look_96 : decode cX7_look 96 = .ok (.iload 6, 2) := by decide +kernel
theorem dX7_look_98 : decode cX7_look 98 = .ok (.bipush 10, 2) := by decide +kernel
theorem dX7_look_100 : decode cX7_look 100 = .ok (.idiv, 1) := by decide +kernel
theorem dX7_look_101 : decode cX7_look 101 = .ok (.iload 6, 2) := by decide +kernel
theorem dX7_look_103 : decode cX7_look 103 = .ok (.bipush 10, 2) := by decide +kernel
theorem dX7_look_105 : decode cX7_look 105 = .ok (.irem, 1) := by decide +kernel
theorem dX7_look_106 : decode cX7_look 106 = .ok (.iload 4, 2) := by decide +kernel
theorem dX7_look_108 : decode cX7_look 108 = .ok (.invokevirtual 173, 3) := by decide +kernel
theorem dX7_look_111 : decode cX7_look 111 = .ok (.istore 7, 2) := by decide +kernel
theorem dX7_look_113 : decode cX7_look 113 = .ok (.aload_n 0, 1) := by decide +kernel
theorem dX7_look_114 : decode cX7_look 114 = .ok (.getfield 50, 3) := by decide +kernel
theorem dX7_look_117 : decode cX7_look 117 = .ok (.iload 7, 2) := by decide +kernel
theorem dX7_look_119 : decode cX7_look 119 = .ok (.dup2, 1) := by decide +kernel
theorem dX7_look_120 : decode cX7_look 120 = .ok (.iaload, 1) := by decide +kernel
theorem dX7_look_121 : decode cX7_look 121 = .ok (.iconst 1, 1) := by decide +kernel
theorem dX7_look_122 : decode cX7_look 122 = .ok (.iadd, 1) := by decide +kernel
theorem dX7_look_123 : decode cX7_look 123 = .ok (.iastore, 1) := by decide +kernel
theorem dX7_look_124 : decode cX7_look 124 = .ok (.aload_n 0, 1) := by decide +kernel
theorem dX7_look_125 : decode cX7_look 125 = .ok (.getfield 50, 3) := by decide +kernel
theorem dX7_look_128 : decode cX7_look 128 = .ok (.iload 7, 2) := by decide +kernel
theorem dX7_look_130 : decode cX7_look 130 = .ok (.iaload, 1) := by decide +kernel
theorem dX7_look_131 : decode cX7_look 131 = .ok (.iload 5, 2) := by decide +kernel
theorem dX7_look_133 : decode cX7_look 133 = .ok (.if_icmp .le 13, 3) := by decide +kernel
theorem dX7_look_136 : decode cX7_look 136 = .ok (.aload_n 0, 1) := by decide +kernel
theorem dX7_look_137 : decode cX7_look 137 = .ok (.getfield 50, 3) := by decide +kernel
theorem dX7_look_140 : decode cX7_look 140 = .ok (.iload 7, 2) := by decide +kernel
theorem dX7_look_142 : decode cX7_look 142 = .ok (.iaload, 1) := by decide +kernel
theorem dX7_look_143 : decode cX7_look 143 = .ok (.goto 5, 3) := by decide +kernel
theorem dX7_look_146 : decode cX7_look 146 = .ok (.iload 5, 2) := by decide +kernel
theorem dX7_look_148 : decode cX7_look 148 = .ok (.istore 5, 2) := by decide +kernel
theorem dX7_look_150 : decode cX7_look 150 = .ok (.iinc 6 1, 3) := by decide +kernel
theorem dX7_look_153 : decode cX7_look 153 = .ok (.goto (-90), 3) := by decide +kernel
theorem dX7_look_156 : decode cX7_look 156 = .ok (.iload 5, 2) := by decide +kernel
theorem dX7_look_158 : decode cX7_look 158 = .ok (.ifCond .le 13, 3) := by decide +kernel
theorem dX7_look_161 : decode cX7_look 161 = .ok (.iload 5, 2) := by decide +kernel
theorem dX7_look_163 : decode cX7_look 163 = .ok (.iload_n 3, 1) := by decide +kernel
theorem dX7_look_164 : decode cX7_look 164 = .ok (.if_icmp .ge 7, 3) := by decide +kernel
theorem dX7_look_167 : decode cX7_look 167 = .ok (.iconst 1, 1) := by decide +kernel
theorem dX7_look_168 : decode cX7_look 168 = .ok (.goto 4, 3) := by decide +kernel
theorem dX7_look_171 : decode cX7_look 171 = .ok (.iconst 0, 1) := by decide +kernel
theorem dX7_look_172 : decode cX7_look 172 = .ok (.istore 6, 2) := by decide +kernel
theorem dX7_look_174 : decode cX7_look 174 = .ok (.iload 6, 2) := by decide +kernel
theorem dX7_look_176 : decode cX7_look 176 = .ok (.ifCond .eq 8, 3) := by decide +kernel
theorem dX7_look_179 : decode cX7_look 179 = .ok (.iload 4, 2) := by decide +kernel
theorem dX7_look_181 : decode cX7_look 181 = .ok (.goto 4, 3) := by decide +kernel
theorem dX7_look_184 : decode cX7_look 184 = .ok (.iload_n 2, 1) := by decide +kernel
theorem dX7_look_185 : decode cX7_look 185 = .ok (.istore_n 2, 1) := by decide +kernel
theorem dX7_look_186 : decode cX7_look 186 = .ok (.iload 6, 2) := by decide +kernel
theorem dX7_look_188 : decode cX7_look 188 = .ok (.ifCond .eq 8, 3) := by decide +kernel
theorem dX7_look_191 : decode cX7_look 191 = .ok (.iload 5, 2) := by decide +kernel
theorem dX7_look_193 : decode cX7_look 193 = .ok (.goto 4, 3) := by decide +kernel
theorem dX7_look_196 : decode cX7_look 196 = .ok (.iload_n 3, 1) := by decide +kernel
theorem dX7_look_197 : decode cX7_look 197 = .ok (.istore_n 3, 1) := by decide +kernel
theorem dX7_look_198 : decode cX7_look 198 = .ok (.iinc 4 1, 3) := by decide +kernel
theorem dX7_look_201 : decode cX7_look 201 = .ok (.goto (-176), 3) := by decide +kernel
theorem dX7_look_204 : decode cX7_look 204 = .ok (.iload_n 2, 1) := by decide +kernel
theorem dX7_look_205 : decode cX7_look 205 = .ok (.ifCond .lt 7, 3) := by decide +kernel
theorem dX7_look_208 : decode cX7_look 208 = .ok (.iload_n 1, 1) := by decide +kernel
theorem dX7_look_209 : decode cX7_look 209 = .ok (.ifCond .ne 7, 3) := by decide +kernel
theorem dX7_look_212 : decode cX7_look 212 = .ok (.iload_n 2, 1) := by decide +kernel
theorem dX7_look_213 : decode cX7_look 213 = .ok (.goto 4, 3) := by decide +kernel
theorem dX7_look_216 : decode cX7_look 216 = .ok (.iload_n 3, 1) := by decide +kernel
theorem dX7_look_217 : decode cX7_look 217 = .ok (.ireturn, 1) := by decide +kernel
set_option maxRecDepth 20000 in
theorem ggX7_fogs_X7_in : GoodIn wsX7_fogs wsX7_in := goodIn_r _ [7] (by decide +kernel) (by decide +kernel)
set_option maxRecDepth 20000 in
theorem gX7_fogs_X7_in : GoodIn wsX7_fogs (va_wsS RX7 63 yX7_in wsX7_in) := goodIn_app (goodIn_of _ (by decide +kernel)) ggX7_fogs_X7_in
set_option maxRecDepth 20000 in
theorem ggX7_fogs_X7_asNow : GoodIn wsX7_fogs wsX7_asNow := goodIn_r _ [11, 12, 13, 14, 15, 16, 17, 18, 3, 19, 20, 21, 22, 23, 24, 37, 38, 39, 40, 41, 42, 43, 44, 45, 46, 47, 48, 49, 50, 51, 52, 53, 54, 55, 56, 57, 58, 59, 60, 61, 62, 63, 64, 65, 66] (by decide +kernel) (by decide +kernel)
set_option maxRecDepth 20000 in
theorem gX7_fogs_X7_asNow : GoodIn wsX7_fogs (wsV RX7 102 RX7 yX7_asNow wsX7_asNow) := goodIn_app (goodIn_of _ (by decide +kernel)) ggX7_fogs_X7_asNow
set_option maxRecDepth 20000 in
theorem ggX7_fogs_X7_pass : GoodIn wsX7_fogs wsX7_pass := goodIn_r _ [28, 14, 20, 12, 3, 22, 24, 29, 30, 31, 6, 32, 16, 33, 37, 38, 39, 40, 41, 42, 43, 44, 45, 46, 47, 48, 49, 50, 51, 52, 53, 54, 55, 56, 57, 58, 59, 60, 61, 62, 63, 64, 65, 66] (by decide +kernel) (by decide +kernel)
set_option maxRecDepth 20000 in
theorem gX7_fogs_X7_pass : GoodIn wsX7_fogs (wsV RX7 108 RX7 yX7_pass wsX7_pass) := goodIn_app (goodIn_of _ (by decide +kernel)) ggX7_fogs_X7_pass
set_option maxRecDepth 20000 in
theorem ggX7_fogs_X7_has : GoodIn wsX7_fogs wsX7_has := goodIn_r _ [36] (by decide +kernel) (by decide +kernel)
set_option maxRecDepth 20000 in
theorem gX7_fogs_X7_has : GoodIn wsX7_fogs (va_wsS RX7 111 yX7_has wsX7_has) := goodIn_app (goodIn_of _ (by decide +kernel)) ggX7_fogs_X7_has
set_option maxRecDepth 20000 in
theorem ggX7_fogs_X7_see : GoodIn wsX7_fogs wsX7_see := goodIn_r _ [32, 12, 3, 20, 16, 14, 33, 37, 38, 39, 40, 41, 42, 43, 44, 45, 46, 47, 48, 49, 50, 51, 52, 53, 54, 55, 56, 57, 58, 59, 60, 61, 62, 63, 64, 65, 66] (by decide +kernel) (by decide +kernel)
set_option maxRecDepth 20000 in
theorem gX7_fogs_X7_see : GoodIn wsX7_fogs (wsV RX7 105 RX7 yX7_see wsX7_see) := goodIn_app (goodIn_of _ (by decide +kernel)) ggX7_fogs_X7_see
theorem dX7_fogs_0 : decode cX7_fogs 0 = .ok (.iload_n 1, 1) := by decide +kernel
theorem dX7_fogs_1 : decode cX7_fogs 1 = .ok (.iconst 0, 1) := by decide +kernel
theorem dX7_fogs_2 : decode cX7_fogs 2 = .ok (.iconst 2, 1) := by decide +kernel
theorem dX7_fogs_3 : decode cX7_fogs 3 = .ok (.invokestatic 63, 3) := by decide +kernel
theorem dX7_fogs_6 : decode cX7_fogs 6 = .ok (.ifCond .eq 55, 3) := by decide +kernel
theorem dX7_fogs_9 : decode cX7_fogs 9 = .ok (.iload_n 2, 1) := by decide +kernel
theorem dX7_fogs_10 : decode cX7_fogs 10 = .ok (.iconst 0, 1) := by decide +kernel
theorem dX7_fogs_11 : decode cX7_fogs 11 = .ok (.bipush 8, 2) := by decide +kernel
theorem dX7_fogs_13 : decode cX7_fogs 13 = .ok (.invokestatic 63, 3) := by decide +kernel
theorem dX7_fogs_16 : decode cX7_fogs 16 = .ok (.ifCond .eq 45, 3) := by decide +kernel
theorem dX7_fogs_19 : decode cX7_fogs 19 = .ok (.iload_n 3, 1) := by decide +kernel
theorem dX7_fogs_20 : decode cX7_fogs 20 = .ok (.iconst 0, 1) := by decide +kernel
theorem dX7_fogs_21 : decode cX7_fogs 21 = .ok (.bipush 10, 2) := by decide +kernel
theorem dX7_fogs_23 : decode cX7_fogs 23 = .ok (.invokestatic 63, 3) := by decide +kernel
theorem dX7_fogs_26 : decode cX7_fogs 26 = .ok (.ifCond .eq 35, 3) := by decide +kernel
theorem dX7_fogs_29 : decode cX7_fogs 29 = .ok (.iload 4, 2) := by decide +kernel
theorem dX7_fogs_31 : decode cX7_fogs 31 = .ok (.iconst 0, 1) := by decide +kernel
theorem dX7_fogs_32 : decode cX7_fogs 32 = .ok (.sipush 999, 3) := by decide +kernel
theorem dX7_fogs_35 : decode cX7_fogs 35 = .ok (.invokestatic 63, 3) := by decide +kernel
theorem dX7_fogs_38 : decode cX7_fogs 38 = .ok (.ifCond .eq 23, 3) := by decide +kernel
theorem dX7_fogs_41 : decode cX7_fogs 41 = .ok (.iload 5, 2) := by decide +kernel
theorem dX7_fogs_43 : decode cX7_fogs 43 = .ok (.iconst 0, 1) := by decide +kernel
theorem dX7_fogs_44 : decode cX7_fogs 44 = .ok (.iconst 1, 1) := by decide +kernel
theorem dX7_fogs_45 : decode cX7_fogs 45 = .ok (.invokestatic 63, 3) := by decide +kernel
theorem dX7_fogs_48 : decode cX7_fogs 48 = .ok (.ifCond .eq 13, 3) := by decide +kernel
theorem dX7_fogs_51 : decode cX7_fogs 51 = .ok (.iload 6, 2) := by decide +kernel
theorem dX7_fogs_53 : decode cX7_fogs 53 = .ok (.iconst 0, 1) := by decide +kernel
theorem dX7_fogs_54 : decode cX7_fogs 54 = .ok (.iconst 1, 1) := by decide +kernel
theorem dX7_fogs_55 : decode cX7_fogs 55 = .ok (.invokestatic 63, 3) := by decide +kernel
theorem dX7_fogs_58 : decode cX7_fogs 58 = .ok (.ifCond .ne 7, 3) := by decide +kernel
theorem dX7_fogs_61 : decode cX7_fogs 61 = .ok (.ldc2_w 182, 3) := by decide +kernel
theorem dX7_fogs_64 : decode cX7_fogs 64 = .ok (.lreturn, 1) := by decide +kernel
theorem dX7_fogs_65 : decode cX7_fogs 65 = .ok (.lconst 0, 1) := by decide +kernel
theorem dX7_fogs_66 : decode cX7_fogs 66 = .ok (.lstore 7, 2) := by decide +kernel
theorem dX7_fogs_68 : decode cX7_fogs 68 = .ok (.lconst 1, 1) := by decide +kernel
theorem dX7_fogs_69 : decode cX7_fogs 69 = .ok (.lstore 9, 2) := by decide +kernel
theorem dX7_fogs_71 : decode cX7_fogs 71 = .ok (.iconst 0, 1) := by decide +kernel
theorem dX7_fogs_72 : decode cX7_fogs 72 = .ok (.istore 11, 2) := by decide +kernel
theorem dX7_fogs_74 : decode cX7_fogs 74 = .ok (.iload 11, 2) := by decide +kernel
theorem dX7_fogs_76 : decode cX7_fogs 76 = .ok (.iload_n 2, 1) := by decide +kernel
theorem dX7_fogs_77 : decode cX7_fogs 77 = .ok (.if_icmp .ge 17, 3) := by decide +kernel
theorem dX7_fogs_80 : decode cX7_fogs 80 = .ok (.lload 9, 2) := by decide +kernel
theorem dX7_fogs_82 : decode cX7_fogs 82 = .ok (.ldc2_w 184, 3) := by decide +kernel
theorem dX7_fogs_85 : decode cX7_fogs 85 = .ok (.lmul, 1) := by decide +kernel
theorem dX7_fogs_86 : decode cX7_fogs 86 = .ok (.lstore 9, 2) := by decide +kernel
theorem dX7_fogs_88 : decode cX7_fogs 88 = .ok (.iinc 11 1, 3) := by decide +kernel
theorem dX7_fogs_91 : decode cX7_fogs 91 = .ok (.goto (-17), 3) := by decide +kernel
theorem dX7_fogs_94 : decode cX7_fogs 94 = .ok (.iconst 0, 1) := by decide +kernel
theorem dX7_fogs_95 : decode cX7_fogs 95 = .ok (.istore 11, 2) := by decide +kernel
theorem dX7_fogs_97 : decode cX7_fogs 97 = .ok (.iload 11, 2) := by decide +kernel
theorem dX7_fogs_99 : decode cX7_fogs 99 = .ok (.iconst 1, 1) := by decide +kernel
theorem dX7_fogs_100 : decode cX7_fogs 100 = .ok (.iload_n 2, 1) := by decide +kernel
theorem dX7_fogs_101 : decode cX7_fogs 101 = .ok (.ishl, 1) := by decide +kernel
theorem dX7_fogs_102 : decode cX7_fogs 102 = .ok (.if_icmp .ge 118, 3) := by decide +kernel
theorem dX7_fogs_105 : decode cX7_fogs 105 = .ok (.lconst 1, 1) := by decide +kernel
theorem dX7_fogs_106 : decode cX7_fogs 106 = .ok (.lstore 12, 2) := by decide +kernel
theorem dX7_fogs_108 : decode cX7_fogs 108 = .ok (.aload_n 0, 1) := by decide +kernel
theorem dX7_fogs_109 : decode cX7_fogs 109 = .ok (.invokevirtual 102, 3) := by decide +kernel
theorem dX7_fogs_112 : decode cX7_fogs 112 = .ok (.iconst 0, 1) := by decide +kernel
theorem dX7_fogs_113 : decode cX7_fogs 113 = .ok (.istore 14, 2) := by decide +kernel
theorem dX7_fogs_115 : decode cX7_fogs 115 = .ok (.iload 14, 2) := by decide +kernel
theorem dX7_fogs_117 : decode cX7_fogs 117 = .ok (.iload_n 2, 1) := by decide +kernel
theorem dX7_fogs_118 : decode cX7_fogs 118 = .ok (.if_icmp .ge 57, 3) := by decide +kernel
theorem dX7_fogs_121 : decode cX7_fogs 121 = .ok (.aload_n 0, 1) := by decide +kernel
theorem dX7_fogs_122 : decode cX7_fogs 122 = .ok (.invokevirtual 108, 3) := by decide +kernel
theorem dX7_fogs_125 : decode cX7_fogs 125 = .ok (.lload 12, 2) := by decide +kernel
theorem dX7_fogs_127 : decode cX7_fogs 127 = .ok (.iload 11, 2) := by decide +kernel
theorem dX7_fogs_129 : decode cX7_fogs 129 = .ok (.iload 14, 2) := by decide +kernel
theorem dX7_fogs_131 : decode cX7_fogs 131 = .ok (.invokestatic 111, 3) := by decide +kernel
theorem dX7_fogs_134 : decode cX7_fogs 134 = .ok (.ifCond .eq 8, 3) := by decide +kernel
theorem dX7_fogs_137 : decode cX7_fogs 137 = .ok (.iload_n 3, 1) := by decide +kernel
theorem dX7_fogs_138 : decode cX7_fogs 138 = .ok (.i2l, 1) := by decide +kernel
theorem dX7_fogs_139 : decode cX7_fogs 139 = .ok (.goto 8, 3) := by decide +kernel
theorem dX7_fogs_142 : decode cX7_fogs 142 = .ok (.bipush 10, 2) := by decide +kernel
theorem dX7_fogs_144 : decode cX7_fogs 144 = .ok (.iload_n 3, 1) := by decide +kernel
theorem dX7_fogs_145 : decode cX7_fogs 145 = .ok (.isub, 1) := by decide +kernel
theorem dX7_fogs_146 : decode cX7_fogs 146 = .ok (.i2l, 1) := by decide +kernel
theorem dX7_fogs_147 : decode cX7_fogs 147 = .ok (.lmul, 1) := by decide +kernel
theorem dX7_fogs_148 : decode cX7_fogs 148 = .ok (.lstore 12, 2) := by decide +kernel
theorem dX7_fogs_150 : decode cX7_fogs 150 = .ok (.aload_n 0, 1) := by decide +kernel
theorem dX7_fogs_151 : decode cX7_fogs 151 = .ok (.iload 11, 2) := by decide +kernel
theorem dX7_fogs_153 : decode cX7_fogs 153 = .ok (.iload 14, 2) := by decide +kernel
theorem dX7_fogs_155 : decode cX7_fogs 155 = .ok (.invokestatic 111, 3) := by decide +kernel
theorem dX7_fogs_158 : decode cX7_fogs 158 = .ok (.ifCond .eq 7, 3) := by decide +kernel
theorem dX7_fogs_161 : decode cX7_fogs 161 = .ok (.iconst 1, 1) := by decide +kernel
theorem dX7_fogs_162 : decode cX7_fogs 162 = .ok (.goto 4, 3) := by decide +kernel
theorem dX7_fogs_165 : decode cX7_fogs 165 = .ok (.iconst 0, 1) := by decide +kernel
theorem dX7_fogs_166 : decode cX7_fogs 166 = .ok (.putfield 81, 3) := by decide +kernel
theorem dX7_fogs_169 : decode cX7_fogs 169 = .ok (.iinc 14 1, 3) := by decide +kernel
theorem dX7_fogs_172 : decode cX7_fogs 172 = .ok (.goto (-57), 3) := by decide +kernel
theorem dX7_fogs_175 : decode cX7_fogs 175 = .ok (.lload 7, 2) := by decide +kernel
theorem dX7_fogs_177 : decode cX7_fogs 177 = .ok (.iload 5, 2) := by decide +kernel
theorem dX7_fogs_179 : decode cX7_fogs 179 = .ok (.iconst 1, 1) := by decide +kernel
theorem dX7_fogs_180 : decode cX7_fogs 180 = .ok (.if_icmp .ne 15, 3) := by decide +kernel
theorem dX7_fogs_183 : decode cX7_fogs 183 = .ok (.lload 12, 2) := by decide +kernel
theorem dX7_fogs_185 : decode cX7_fogs 185 = .ok (.aload_n 0, 1) := by decide +kernel
theorem dX7_fogs_186 : decode cX7_fogs 186 = .ok (.iload_n 1, 1) := by decide +kernel
theorem dX7_fogs_187 : decode cX7_fogs 187 = .ok (.invokevirtual 105, 3) := by decide +kernel
theorem dX7_fogs_190 : decode cX7_fogs 190 = .ok (.i2l, 1) := by decide +kernel
theorem dX7_fogs_191 : decode cX7_fogs 191 = .ok (.lmul, 1) := by decide +kernel
theorem dX7_fogs_192 : decode cX7_fogs 192 = .ok (.goto 19, 3) := by decide +kernel
theorem dX7_fogs_195 : decode cX7_fogs 195 = .ok (.aload_n 0, 1) := by decide +kernel
theorem dX7_fogs_196 : decode cX7_fogs 196 = .ok (.iload_n 1, 1) := by decide +kernel
theorem dX7_fogs_197 : decode cX7_fogs 197 = .ok (.invokevirtual 105, 3) := by decide +kernel
theorem dX7_fogs_200 : decode cX7_fogs 200 = .ok (.iload 4, 2) := by decide +kernel
theorem dX7_fogs_202 : decode cX7_fogs 202 = .ok (.if_icmp .lt 8, 3) := by decide +kernel
theorem dX7_fogs_205 : decode cX7_fogs 205 = .ok (.lload 12, 2) := by decide +kernel
theorem dX7_fogs_207 : decode cX7_fogs 207 = .ok (.goto 4, 3) := by decide +kernel
theorem dX7_fogs_210 : decode cX7_fogs 210 = .ok (.lconst 0, 1) := by decide +kernel
theorem dX7_fogs_211 : decode cX7_fogs 211 = .ok (.ladd, 1) := by decide +kernel
theorem dX7_fogs_212 : decode cX7_fogs 212 = .ok (.lstore 7, 2) := by decide +kernel
theorem dX7_fogs_214 : decode cX7_fogs 214 = .ok (.iinc 11 1, 3) := by decide +kernel
theorem dX7_fogs_217 : decode cX7_fogs 217 = .ok (.goto (-120), 3) := by decide +kernel
theorem dX7_fogs_220 : decode cX7_fogs 220 = .ok (.lload 7, 2) := by decide +kernel
theorem dX7_fogs_222 : decode cX7_fogs 222 = .ok (.lstore 11, 2) := by decide +kernel
theorem dX7_fogs_224 : decode cX7_fogs 224 = .ok (.lload 9, 2) := by decide +kernel
theorem dX7_fogs_226 : decode cX7_fogs 226 = .ok (.lstore 13, 2) := by decide +kernel
theorem dX7_fogs_228 : decode cX7_fogs 228 = .ok (.lload 13, 2) := by decide +kernel
theorem dX7_fogs_230 : decode cX7_fogs 230 = .ok (.lconst 0, 1) := by decide +kernel
theorem dX7_fogs_231 : decode cX7_fogs 231 = .ok (.lcmp, 1) := by decide +kernel
theorem dX7_fogs_232 : decode cX7_fogs 232 = .ok (.ifCond .eq 21, 3) := by decide +kernel
theorem dX7_fogs_235 : decode cX7_fogs 235 = .ok (.lload 11, 2) := by decide +kernel
theorem dX7_fogs_237 : decode cX7_fogs 237 = .ok (.lload 13, 2) := by decide +kernel
theorem dX7_fogs_239 : decode cX7_fogs 239 = .ok (.lrem, 1) := by decide +kernel
theorem dX7_fogs_240 : decode cX7_fogs 240 = .ok (.lstore 15, 2) := by decide +kernel
theorem dX7_fogs_242 : decode cX7_fogs 242 = .ok (.lload 13, 2) := by decide +kernel
theorem dX7_fogs_244 : decode cX7_fogs 244 = .ok (.lstore 11, 2) := by decide +kernel
theorem dX7_fogs_246 : decode cX7_fogs 246 = .ok (.lload 15, 2) := by decide +kernel
theorem dX7_fogs_248 : decode cX7_fogs 248 = .ok (.lstore 13, 2) := by decide +kernel
theorem dX7_fogs_250 : decode cX7_fogs 250 = .ok (.goto (-22), 3) := by decide +kernel
theorem dX7_fogs_253 : decode cX7_fogs 253 = .ok (.iload 6, 2) := by decide +kernel
theorem dX7_fogs_255 : decode cX7_fogs 255 = .ok (.ifCond .ne 11, 3) := by decide +kernel
theorem dX7_fogs_258 : decode cX7_fogs 258 = .ok (.lload 7, 2) := by decide +kernel
theorem dX7_fogs_260 : decode cX7_fogs 260 = .ok (.lload 11, 2) := by decide +kernel
theorem dX7_fogs_262 : decode cX7_fogs 262 = .ok (.ldiv, 1) := by decide +kernel
theorem dX7_fogs_263 : decode cX7_fogs 263 = .ok (.goto 8, 3) := by decide +kernel
theorem dX7_fogs_266 : decode cX7_fogs 266 = .ok (.lload 9, 2) := by decide +kernel
theorem dX7_fogs_268 : decode cX7_fogs 268 = .ok (.lload 11, 2) := by decide +kernel
theorem dX7_fogs_270 : decode cX7_fogs 270 = .ok (.ldiv, 1) := by decide +kernel
theorem dX7_fogs_271 : decode cX7_fogs 271 = .ok (.lreturn, 1) := by decide +kernel
set_option maxRecDepth 20000 in
theorem ggX7_isOverBy_X7_asNow : GoodIn wsX7_isOverBy wsX7_asNow := goodIn_r _ [5, 6, 7, 8, 9, 10, 11, 12, 13, 14, 15, 16, 17, 18, 19, 38, 39, 40, 41, 42, 43, 44, 45, 46, 47, 48, 49, 50, 51, 52, 53, 54, 55, 56, 57, 58, 59, 60, 61, 62, 63, 64, 65, 66, 67] (by decide +kernel) (by decide +kernel)
set_option maxRecDepth 20000 in
theorem gX7_isOverBy_X7_asNow : GoodIn wsX7_isOverBy (wsV RX7 102 RX7 yX7_asNow wsX7_asNow) := goodIn_app (goodIn_of _ (by decide +kernel)) ggX7_isOverBy_X7_asNow
set_option maxRecDepth 20000 in
theorem ggX7_isOverBy_X7_has : GoodIn wsX7_isOverBy wsX7_has := goodIn_r _ [22] (by decide +kernel) (by decide +kernel)
set_option maxRecDepth 20000 in
theorem gX7_isOverBy_X7_has : GoodIn wsX7_isOverBy (va_wsS RX7 111 yX7_has wsX7_has) := goodIn_app (goodIn_of _ (by decide +kernel)) ggX7_isOverBy_X7_has
set_option maxRecDepth 20000 in
theorem ggX7_isOverBy_X7_wear : GoodIn wsX7_isOverBy wsX7_wear := goodIn_r _ [26, 6, 27, 38, 39, 40, 41, 42, 43, 44, 45, 46, 47, 48, 49, 50, 51, 52, 53, 54, 55, 56, 57, 58, 59, 60, 61, 62, 63, 64, 65, 66, 67] (by decide +kernel) (by decide +kernel)
set_option maxRecDepth 20000 in
theorem gX7_isOverBy_X7_wear : GoodIn wsX7_isOverBy (wsV RX7 134 RX7 yX7_wear wsX7_wear) := goodIn_app (goodIn_of _ (by decide +kernel)) ggX7_isOverBy_X7_wear
set_option maxRecDepth 20000 in
theorem ggX7_isOverBy_X7_isOver : GoodIn wsX7_isOverBy wsX7_isOver := goodIn_r _ [31, 32, 33, 34, 35, 4, 36, 6, 13, 15, 10, 8, 37, 38, 39, 40, 41, 42, 43, 44, 45, 46, 47, 48, 49, 50, 51, 52, 53, 54, 55, 56, 57, 58, 59, 60, 61, 62, 63, 64, 65, 66, 67] (by decide +kernel) (by decide +kernel)
set_option maxRecDepth 20000 in
theorem gX7_isOverBy_X7_isOver : GoodIn wsX7_isOverBy (wsV RX7 118 RX7 yX7_isOver wsX7_isOver) := goodIn_app (goodIn_of _ (by decide +kernel)) ggX7_isOverBy_X7_isOver
theorem dX7_isOverBy_0 : decode cX7_isOverBy 0 = .ok (.aload_n 0, 1) := by decide +kernel
theorem dX7_isOverBy_1 : decode cX7_isOverBy 1 = .ok (.invokevirtual 102, 3) := by decide +kernel
theorem dX7_isOverBy_4 : decode cX7_isOverBy 4 = .ok (.iconst 0, 1) := by decide +kernel
theorem dX7_isOverBy_5 : decode cX7_isOverBy 5 = .ok (.istore_n 2, 1) := by decide +kernel
theorem dX7_isOverBy_6 : decode cX7_isOverBy 6 = .ok (.iload_n 2, 1) := by decide +kernel
theorem dX7_isOverBy_7 : decode cX7_isOverBy 7 = .ok (.bipush 6, 2) := by decide +kernel
theorem dX7_isOverBy_9 : decode cX7_isOverBy 9 = .ok (.if_icmp .ge 22, 3) := by decide +kernel
theorem dX7_isOverBy_12 : decode cX7_isOverBy 12 = .ok (.iload_n 1, 1) := by decide +kernel
theorem dX7_isOverBy_13 : decode cX7_isOverBy 13 = .ok (.iload_n 2, 1) := by decide +kernel
theorem dX7_isOverBy_14 : decode cX7_isOverBy 14 = .ok (.invokestatic 111, 3) := by decide +kernel
theorem dX7_isOverBy_17 : decode cX7_isOverBy 17 = .ok (.ifCond .eq 8, 3) := by decide +kernel
theorem dX7_isOverBy_20 : decode cX7_isOverBy 20 = .ok (.aload_n 0, 1) := by decide +kernel
theorem dX7_isOverBy_21 : decode cX7_isOverBy 21 = .ok (.iload_n 2, 1) := by decide +kernel
theorem dX7_isOverBy_22 : decode cX7_isOverBy 22 = .ok (.invokevirtual 134, 3) := by decide +kernel
theorem dX7_isOverBy_25 : decode cX7_isOverBy 25 = .ok (.iinc 2 1, 3) := by decide +kernel
theorem dX7_isOverBy_28 : decode cX7_isOverBy 28 = .ok (.goto (-22), 3) := by decide +kernel
theorem dX7_isOverBy_31 : decode cX7_isOverBy 31 = .ok (.aload_n 0, 1) := by decide +kernel
theorem dX7_isOverBy_32 : decode cX7_isOverBy 32 = .ok (.invokevirtual 118, 3) := by decide +kernel
theorem dX7_isOverBy_35 : decode cX7_isOverBy 35 = .ok (.ireturn, 1) := by decide +kernel
set_option maxRecDepth 20000 in
theorem ggX7_turns_X7_in : GoodIn wsX7_turns wsX7_in := goodIn_r _ [5] (by decide +kernel) (by decide +kernel)
set_option maxRecDepth 20000 in
theorem gX7_turns_X7_in : GoodIn wsX7_turns (va_wsS RX7 63 yX7_in wsX7_in) := goodIn_app (goodIn_of _ (by decide +kernel)) ggX7_turns_X7_in
set_option maxRecDepth 20000 in
theorem ggX7_turns_X7_has : GoodIn wsX7_turns wsX7_has := goodIn_r _ [8] (by decide +kernel) (by decide +kernel)
set_option maxRecDepth 20000 in
theorem gX7_turns_X7_has : GoodIn wsX7_turns (va_wsS RX7 111 yX7_has wsX7_has) := goodIn_app (goodIn_of _ (by decide +kernel)) ggX7_turns_X7_has
set_option maxRecDepth 20000 in
theorem ggX7_turns_X7_isOverBy : GoodIn wsX7_turns wsX7_isOverBy := goodIn_r _ [12, 13, 14, 15, 4, 16, 17, 18, 19, 20, 21, 22, 23, 24, 25, 26, 27, 28, 29, 30, 6, 7, 8, 31, 32, 33, 34, 35, 36, 37, 38, 39, 40, 41, 42, 43, 44, 45, 46, 47, 48, 49, 50, 51, 52, 53, 54, 55, 56, 57, 58, 59, 60, 61, 62, 63, 64, 65, 66, 67, 68, 69, 70, 71, 72, 73, 74, 75] (by decide +kernel) (by decide +kernel)
set_option maxRecDepth 20000 in
theorem gX7_turns_X7_isOverBy : GoodIn wsX7_turns (wsV RX7 186 RX7 yX7_isOverBy wsX7_isOverBy) := goodIn_app (goodIn_of _ (by decide +kernel)) ggX7_turns_X7_isOverBy
theorem dX7_turns_0 : decode cX7_turns 0 = .ok (.iload_n 1, 1) := by decide +kernel
theorem dX7_turns_1 : decode cX7_turns 1 = .ok (.iconst 0, 1) := by decide +kernel
theorem dX7_turns_2 : decode cX7_turns 2 = .ok (.bipush 63, 2) := by decide +kernel
theorem dX7_turns_4 : decode cX7_turns 4 = .ok (.invokestatic 63, 3) := by decide +kernel
theorem dX7_turns_7 : decode cX7_turns 7 = .ok (.ifCond .ne 5, 3) := by decide +kernel
theorem dX7_turns_10 : decode cX7_turns 10 = .ok (.iconst (-1), 1) := by decide +kernel
theorem dX7_turns_11 : decode cX7_turns 11 = .ok (.ireturn, 1) := by decide +kernel
theorem dX7_turns_12 : decode cX7_turns 12 = .ok (.iload_n 2, 1) := by decide +kernel
theorem dX7_turns_13 : decode cX7_turns 13 = .ok (.iconst 0, 1) := by decide +kernel
theorem dX7_turns_14 : decode cX7_turns 14 = .ok (.iconst 1, 1) := by decide +kernel
theorem dX7_turns_15 : decode cX7_turns 15 = .ok (.invokestatic 63, 3) := by decide +kernel
theorem dX7_turns_18 : decode cX7_turns 18 = .ok (.ifCond .ne 6, 3) := by decide +kernel
theorem dX7_turns_21 : decode cX7_turns 21 = .ok (.bipush (-2), 2) := by decide +kernel
theorem dX7_turns_23 : decode cX7_turns 23 = .ok (.ireturn, 1) := by decide +kernel
theorem dX7_turns_24 : decode cX7_turns 24 = .ok (.bipush (-6), 2) := by decide +kernel
theorem dX7_turns_26 : decode cX7_turns 26 = .ok (.istore_n 3, 1) := by decide +kernel
theorem dX7_turns_27 : decode cX7_turns 27 = .ok (.bipush 63, 2) := by decide +kernel
theorem dX7_turns_29 : decode cX7_turns 29 = .ok (.istore 4, 2) := by decide +kernel
theorem dX7_turns_31 : decode cX7_turns 31 = .ok (.iload 4, 2) := by decide +kernel
theorem dX7_turns_33 : decode cX7_turns 33 = .ok (.ifCond .lt 156, 3) := by decide +kernel
theorem dX7_turns_36 : decode cX7_turns 36 = .ok (.aload_n 0, 1) := by decide +kernel
theorem dX7_turns_37 : decode cX7_turns 37 = .ok (.getfield 53, 3) := by decide +kernel
theorem dX7_turns_40 : decode cX7_turns 40 = .ok (.iload 4, 2) := by decide +kernel
theorem dX7_turns_42 : decode cX7_turns 42 = .ok (.iload 4, 2) := by decide +kernel
theorem dX7_turns_44 : decode cX7_turns 44 = .ok (.iload_n 1, 1) := by decide +kernel
theorem dX7_turns_45 : decode cX7_turns 45 = .ok (.if_icmp .ne 7, 3) := by decide +kernel
theorem dX7_turns_48 : decode cX7_turns 48 = .ok (.iconst 0, 1) := by decide +kernel
theorem dX7_turns_49 : decode cX7_turns 49 = .ok (.goto 5, 3) := by decide +kernel
theorem dX7_turns_52 : decode cX7_turns 52 = .ok (.bipush (-2), 2) := by decide +kernel
theorem dX7_turns_54 : decode cX7_turns 54 = .ok (.iastore, 1) := by decide +kernel
theorem dX7_turns_55 : decode cX7_turns 55 = .ok (.iconst 5, 1) := by decide +kernel
theorem dX7_turns_56 : decode cX7_turns 56 = .ok (.istore 5, 2) := by decide +kernel
theorem dX7_turns_58 : decode cX7_turns 58 = .ok (.iload 5, 2) := by decide +kernel
theorem dX7_turns_60 : decode cX7_turns 60 = .ok (.ifCond .lt 123, 3) := by decide +kernel
theorem dX7_turns_63 : decode cX7_turns 63 = .ok (.iload 4, 2) := by decide +kernel
theorem dX7_turns_65 : decode cX7_turns 65 = .ok (.iload_n 1, 1) := by decide +kernel
theorem dX7_turns_66 : decode cX7_turns 66 = .ok (.iconst (-1), 1) := by decide +kernel
theorem dX7_turns_67 : decode cX7_turns 67 = .ok (.ixor, 1) := by decide +kernel
theorem dX7_turns_68 : decode cX7_turns 68 = .ok (.iand, 1) := by decide +kernel
theorem dX7_turns_69 : decode cX7_turns 69 = .ok (.ifCond .ne 114, 3) := by decide +kernel
theorem dX7_turns_72 : decode cX7_turns 72 = .ok (.iload_n 1, 1) := by decide +kernel
theorem dX7_turns_73 : decode cX7_turns 73 = .ok (.iload 5, 2) := by decide +kernel
theorem dX7_turns_75 : decode cX7_turns 75 = .ok (.invokestatic 111, 3) := by decide +kernel
theorem dX7_turns_78 : decode cX7_turns 78 = .ok (.ifCond .eq 99, 3) := by decide +kernel
theorem dX7_turns_81 : decode cX7_turns 81 = .ok (.iload 4, 2) := by decide +kernel
theorem dX7_turns_83 : decode cX7_turns 83 = .ok (.iload 5, 2) := by decide +kernel
theorem dX7_turns_85 : decode cX7_turns 85 = .ok (.invokestatic 111, 3) := by decide +kernel
theorem dX7_turns_88 : decode cX7_turns 88 = .ok (.ifCond .ne 89, 3) := by decide +kernel
theorem dX7_turns_91 : decode cX7_turns 91 = .ok (.iload 4, 2) := by decide +kernel
theorem dX7_turns_93 : decode cX7_turns 93 = .ok (.iconst 1, 1) := by decide +kernel
theorem dX7_turns_94 : decode cX7_turns 94 = .ok (.iload 5, 2) := by decide +kernel
theorem dX7_turns_96 : decode cX7_turns 96 = .ok (.ishl, 1) := by decide +kernel
theorem dX7_turns_97 : decode cX7_turns 97 = .ok (.ior, 1) := by decide +kernel
theorem dX7_turns_98 : decode cX7_turns 98 = .ok (.istore 6, 2) := by decide +kernel
theorem dX7_turns_100 : decode cX7_turns 100 = .ok (.aload_n 0, 1) := by decide +kernel
theorem dX7_turns_101 : decode cX7_turns 101 = .ok (.iload 6, 2) := by decide +kernel
theorem dX7_turns_103 : decode cX7_turns 103 = .ok (.invokevirtual 186, 3) := by decide +kernel
theorem dX7_turns_106 : decode cX7_turns 106 = .ok (.ifCond .eq 7, 3) := by decide +kernel
theorem dX7_turns_109 : decode cX7_turns 109 = .ok (.iconst (-1), 1) := by decide +kernel
theorem dX7_turns_110 : decode cX7_turns 110 = .ok (.goto 11, 3) := by decide +kernel
theorem dX7_turns_113 : decode cX7_turns 113 = .ok (.aload_n 0, 1) := by decide +kernel
theorem dX7_turns_114 : decode cX7_turns 114 = .ok (.getfield 53, 3) := by decide +kernel
theorem dX7_turns_117 : decode cX7_turns 117 = .ok (.iload 6, 2) := by decide +kernel
theorem dX7_turns_119 : decode cX7_turns 119 = .ok (.iaload, 1) := by decide +kernel
theorem dX7_turns_120 : decode cX7_turns 120 = .ok (.ineg, 1) := by decide +kernel
theorem dX7_turns_121 : decode cX7_turns 121 = .ok (.istore 7, 2) := by decide +kernel
theorem dX7_turns_123 : decode cX7_turns 123 = .ok (.iload 4, 2) := by decide +kernel
theorem dX7_turns_125 : decode cX7_turns 125 = .ok (.ifCond .ne 19, 3) := by decide +kernel
theorem dX7_turns_128 : decode cX7_turns 128 = .ok (.iload 7, 2) := by decide +kernel
theorem dX7_turns_130 : decode cX7_turns 130 = .ok (.aload_n 0, 1) := by decide +kernel
theorem dX7_turns_131 : decode cX7_turns 131 = .ok (.getfield 53, 3) := by decide +kernel
theorem dX7_turns_134 : decode cX7_turns 134 = .ok (.iconst 0, 1) := by decide +kernel
theorem dX7_turns_135 : decode cX7_turns 135 = .ok (.iaload, 1) := by decide +kernel
theorem dX7_turns_136 : decode cX7_turns 136 = .ok (.if_icmp .lt 8, 3) := by decide +kernel
theorem dX7_turns_139 : decode cX7_turns 139 = .ok (.iload 5, 2) := by decide +kernel
theorem dX7_turns_141 : decode cX7_turns 141 = .ok (.goto 4, 3) := by decide +kernel
theorem dX7_turns_144 : decode cX7_turns 144 = .ok (.iload_n 3, 1) := by decide +kernel
theorem dX7_turns_145 : decode cX7_turns 145 = .ok (.istore_n 3, 1) := by decide +kernel
theorem dX7_turns_146 : decode cX7_turns 146 = .ok (.aload_n 0, 1) := by decide +kernel
theorem dX7_turns_147 : decode cX7_turns 147 = .ok (.getfield 53, 3) := by decide +kernel
theorem dX7_turns_150 : decode cX7_turns 150 = .ok (.iload 4, 2) := by decide +kernel
theorem dX7_turns_152 : decode cX7_turns 152 = .ok (.iload 7, 2) := by decide +kernel
theorem dX7_turns_154 : decode cX7_turns 154 = .ok (.aload_n 0, 1) := by decide +kernel
theorem dX7_turns_155 : decode cX7_turns 155 = .ok (.getfield 53, 3) := by decide +kernel
theorem dX7_turns_158 : decode cX7_turns 158 = .ok (.iload 4, 2) := by decide +kernel
theorem dX7_turns_160 : decode cX7_turns 160 = .ok (.iaload, 1) := by decide +kernel
theorem dX7_turns_161 : decode cX7_turns 161 = .ok (.if_icmp .le 8, 3) := by decide +kernel
theorem dX7_turns_164 : decode cX7_turns 164 = .ok (.iload 7, 2) := by decide +kernel
theorem dX7_turns_166 : decode cX7_turns 166 = .ok (.goto 10, 3) := by decide +kernel
theorem dX7_turns_169 : decode cX7_turns 169 = .ok (.aload_n 0, 1) := by decide +kernel
theorem dX7_turns_170 : decode cX7_turns 170 = .ok (.getfield 53, 3) := by decide +kernel
theorem dX7_turns_173 : decode cX7_turns 173 = .ok (.iload 4, 2) := by decide +kernel
theorem dX7_turns_175 : decode cX7_turns 175 = .ok (.iaload, 1) := by decide +kernel
theorem dX7_turns_176 : decode cX7_turns 176 = .ok (.iastore, 1) := by decide +kernel
theorem dX7_turns_177 : decode cX7_turns 177 = .ok (.iinc 5 (-1), 3) := by decide +kernel
theorem dX7_turns_180 : decode cX7_turns 180 = .ok (.goto (-122), 3) := by decide +kernel
theorem dX7_turns_183 : decode cX7_turns 183 = .ok (.iinc 4 (-1), 3) := by decide +kernel
theorem dX7_turns_186 : decode cX7_turns 186 = .ok (.goto (-155), 3) := by decide +kernel
theorem dX7_turns_189 : decode cX7_turns 189 = .ok (.iload_n 2, 1) := by decide +kernel
theorem dX7_turns_190 : decode cX7_turns 190 = .ok (.iconst 1, 1) := by decide +kernel
theorem dX7_turns_191 : decode cX7_turns 191 = .ok (.if_icmp .ne 19, 3) := by decide +kernel
theorem dX7_turns_194 : decode cX7_turns 194 = .ok (.aload_n 0, 1) := by decide +kernel
theorem dX7_turns_195 : decode cX7_turns 195 = .ok (.getfield 53, 3) := by decide +kernel
theorem dX7_turns_198 : decode cX7_turns 198 = .ok (.iconst 0, 1) := by decide +kernel
theorem dX7_turns_199 : decode cX7_turns 199 = .ok (.iaload, 1) := by decide +kernel
theorem dX7_turns_200 : decode cX7_turns 200 = .ok (.ifCond .ge 8, 3) := by decide +kernel
theorem dX7_turns_203 : decode cX7_turns 203 = .ok (.bipush (-6), 2) := by decide +kernel
theorem dX7_turns_205 : decode cX7_turns 205 = .ok (.goto 4, 3) := by decide +kernel
theorem dX7_turns_208 : decode cX7_turns 208 = .ok (.iload_n 3, 1) := by decide +kernel
theorem dX7_turns_209 : decode cX7_turns 209 = .ok (.ireturn, 1) := by decide +kernel
theorem dX7_turns_210 : decode cX7_turns 210 = .ok (.aload_n 0, 1) := by decide +kernel
theorem dX7_turns_211 : decode cX7_turns 211 = .ok (.getfield 53, 3) := by decide +kernel
theorem dX7_turns_214 : decode cX7_turns 214 = .ok (.iconst 0, 1) := by decide +kernel
theorem dX7_turns_215 : decode cX7_turns 215 = .ok (.iaload, 1) := by decide +kernel
theorem dX7_turns_216 : decode cX7_turns 216 = .ok (.ifCond .ne 8, 3) := by decide +kernel
theorem dX7_turns_219 : decode cX7_turns 219 = .ok (.bipush (-6), 2) := by decide +kernel
theorem dX7_turns_221 : decode cX7_turns 221 = .ok (.goto 17, 3) := by decide +kernel
theorem dX7_turns_224 : decode cX7_turns 224 = .ok (.aload_n 0, 1) := by decide +kernel
theorem dX7_turns_225 : decode cX7_turns 225 = .ok (.getfield 53, 3) := by decide +kernel
theorem dX7_turns_228 : decode cX7_turns 228 = .ok (.iconst 0, 1) := by decide +kernel
theorem dX7_turns_229 : decode cX7_turns 229 = .ok (.iaload, 1) := by decide +kernel
theorem dX7_turns_230 : decode cX7_turns 230 = .ok (.ifCond .le 7, 3) := by decide +kernel
theorem dX7_turns_233 : decode cX7_turns 233 = .ok (.iconst 0, 1) := by decide +kernel
theorem dX7_turns_234 : decode cX7_turns 234 = .ok (.goto 4, 3) := by decide +kernel
theorem dX7_turns_237 : decode cX7_turns 237 = .ok (.iconst 1, 1) := by decide +kernel
theorem dX7_turns_238 : decode cX7_turns 238 = .ok (.ireturn, 1) := by decide +kernel
set_option maxRecDepth 20000 in
theorem ggX7_year_X7_in : GoodIn wsX7_year wsX7_in := goodIn_r _ [8] (by decide +kernel) (by decide +kernel)
set_option maxRecDepth 20000 in
theorem gX7_year_X7_in : GoodIn wsX7_year (va_wsS RX7 63 yX7_in wsX7_in) := goodIn_app (goodIn_of _ (by decide +kernel)) ggX7_year_X7_in
set_option maxRecDepth 20000 in
theorem ggX7_year_X7_asNow : GoodIn wsX7_year wsX7_asNow := goodIn_r _ [12, 4, 13, 14, 15, 16, 17, 18, 2, 19, 3, 20, 21, 22, 23, 42, 43, 44, 45, 46, 47, 48, 49, 50, 51, 52, 53, 54, 55, 56, 57, 58, 59, 60, 61, 62, 63, 64, 65, 66, 67, 68, 69, 70, 71] (by decide +kernel) (by decide +kernel)
set_option maxRecDepth 20000 in
theorem gX7_year_X7_asNow : GoodIn wsX7_year (wsV RX7 102 RX7 yX7_asNow wsX7_asNow) := goodIn_app (goodIn_of _ (by decide +kernel)) ggX7_year_X7_asNow
set_option maxRecDepth 20000 in
theorem ggX7_year_X7_pass : GoodIn wsX7_year wsX7_pass := goodIn_r _ [27, 14, 3, 4, 2, 21, 23, 28, 29, 30, 7, 31, 16, 32, 42, 43, 44, 45, 46, 47, 48, 49, 50, 51, 52, 53, 54, 55, 56, 57, 58, 59, 60, 61, 62, 63, 64, 65, 66, 67, 68, 69, 70, 71] (by decide +kernel) (by decide +kernel)
set_option maxRecDepth 20000 in
theorem gX7_year_X7_pass : GoodIn wsX7_year (wsV RX7 108 RX7 yX7_pass wsX7_pass) := goodIn_app (goodIn_of _ (by decide +kernel)) ggX7_year_X7_pass
set_option maxRecDepth 20000 in
theorem ggX7_year_X7_isOver : GoodIn wsX7_year wsX7_isOver := goodIn_r _ [36, 37, 28, 29, 30, 7, 31, 4, 2, 3, 16, 14, 32, 42, 43, 44, 45, 46, 47, 48, 49, 50, 51, 52, 53, 54, 55, 56, 57, 58, 59, 60, 61, 62, 63, 64, 65, 66, 67, 68, 69, 70, 71] (by decide +kernel) (by decide +kernel)
set_option maxRecDepth 20000 in
theorem gX7_year_X7_isOver : GoodIn wsX7_year (wsV RX7 118 RX7 yX7_isOver wsX7_isOver) := goodIn_app (goodIn_of _ (by decide +kernel)) ggX7_year_X7_isOver
set_option maxRecDepth 20000 in
theorem ggX7_year_X7_see : GoodIn wsX7_year wsX7_see := goodIn_r _ [31, 4, 2, 3, 16, 14, 32, 42, 43, 44, 45, 46, 47, 48, 49, 50, 51, 52, 53, 54, 55, 56, 57, 58, 59, 60, 61, 62, 63, 64, 65, 66, 67, 68, 69, 70, 71] (by decide +kernel) (by decide +kernel)
set_option maxRecDepth 20000 in
theorem gX7_year_X7_see : GoodIn wsX7_year (wsV RX7 105 RX7 yX7_see wsX7_see) := goodIn_app (goodIn_of _ (by decide +kernel)) ggX7_year_X7_see
set_option maxRecDepth 20000 in
theorem ggX7_year_X7_seeAll : GoodIn wsX7_year wsX7_seeAll := goodIn_r _ [41, 28, 29, 30, 7, 31, 4, 2, 3, 16, 14, 32, 42, 43, 44, 45, 46, 47, 48, 49, 50, 51, 52, 53, 54, 55, 56, 57, 58, 59, 60, 61, 62, 63, 64, 65, 66, 67, 68, 69, 70, 71] (by decide +kernel) (by decide +kernel)
set_option maxRecDepth 20000 in
theorem gX7_year_X7_seeAll : GoodIn wsX7_year (wsV RX7 151 RX7 yX7_seeAll wsX7_seeAll) := goodIn_app (goodIn_of _ (by decide +kernel)) ggX7_year_X7_seeAll
theorem dX7_year_0 : decode cX7_year 0 = .ok (.iload_n 1, 1) := by decide +kernel
theorem dX7_year_1 : decode cX7_year 1 = .ok (.iconst 0, 1) := by decide +kernel
theorem dX7_year_2 : decode cX7_year 2 = .ok (.sipush 9999, 3) := by decide +kernel
theorem dX7_year_5 : decode cX7_year 5 = .ok (.invokestatic 63, 3) := by decide +kernel
theorem dX7_year_8 : decode cX7_year 8 = .ok (.ifCond .eq 22, 3) := by decide +kernel
theorem dX7_year_11 : decode cX7_year 11 = .ok (.iload_n 2, 1) := by decide +kernel
theorem dX7_year_12 : decode cX7_year 12 = .ok (.iconst 1, 1) := by decide +kernel
theorem dX7_year_13 : decode cX7_year 13 = .ok (.bipush 60, 2) := by decide +kernel
theorem dX7_year_15 : decode cX7_year 15 = .ok (.invokestatic 63, 3) := by decide +kernel
theorem dX7_year_18 : decode cX7_year 18 = .ok (.ifCond .eq 12, 3) := by decide +kernel
theorem dX7_year_21 : decode cX7_year 21 = .ok (.iload_n 3, 1) := by decide +kernel
theorem dX7_year_22 : decode cX7_year 22 = .ok (.iconst 0, 1) := by decide +kernel
theorem dX7_year_23 : decode cX7_year 23 = .ok (.iconst 2, 1) := by decide +kernel
theorem dX7_year_24 : decode cX7_year 24 = .ok (.invokestatic 63, 3) := by decide +kernel
theorem dX7_year_27 : decode cX7_year 27 = .ok (.ifCond .ne 6, 3) := by decide +kernel
theorem dX7_year_30 : decode cX7_year 30 = .ok (.bipush (-2), 2) := by decide +kernel
theorem dX7_year_32 : decode cX7_year 32 = .ok (.ireturn, 1) := by decide +kernel
theorem dX7_year_33 : decode cX7_year 33 = .ok (.aload_n 0, 1) := by decide +kernel
theorem dX7_year_34 : decode cX7_year 34 = .ok (.invokevirtual 102, 3) := by decide +kernel
theorem dX7_year_37 : decode cX7_year 37 = .ok (.iload_n 1, 1) := by decide +kernel
theorem dX7_year_38 : decode cX7_year 38 = .ok (.istore 4, 2) := by decide +kernel
theorem dX7_year_40 : decode cX7_year 40 = .ok (.iconst 0, 1) := by decide +kernel
theorem dX7_year_41 : decode cX7_year 41 = .ok (.istore 5, 2) := by decide +kernel
theorem dX7_year_43 : decode cX7_year 43 = .ok (.iconst 0, 1) := by decide +kernel
theorem dX7_year_44 : decode cX7_year 44 = .ok (.istore 6, 2) := by decide +kernel
theorem dX7_year_46 : decode cX7_year 46 = .ok (.iconst 0, 1) := by decide +kernel
theorem dX7_year_47 : decode cX7_year 47 = .ok (.istore 7, 2) := by decide +kernel
theorem dX7_year_49 : decode cX7_year 49 = .ok (.iload 7, 2) := by decide +kernel
theorem dX7_year_51 : decode cX7_year 51 = .ok (.iload_n 2, 1) := by decide +kernel
theorem dX7_year_52 : decode cX7_year 52 = .ok (.if_icmp .ge 136, 3) := by decide +kernel
theorem dX7_year_55 : decode cX7_year 55 = .ok (.aload_n 0, 1) := by decide +kernel
theorem dX7_year_56 : decode cX7_year 56 = .ok (.invokevirtual 108, 3) := by decide +kernel
theorem dX7_year_59 : decode cX7_year 59 = .ok (.bipush 75, 2) := by decide +kernel
theorem dX7_year_61 : decode cX7_year 61 = .ok (.iload 4, 2) := by decide +kernel
theorem dX7_year_63 : decode cX7_year 63 = .ok (.imul, 1) := by decide +kernel
theorem dX7_year_64 : decode cX7_year 64 = .ok (.bipush 74, 2) := by decide +kernel
theorem dX7_year_66 : decode cX7_year 66 = .ok (.iadd, 1) := by decide +kernel
theorem dX7_year_67 : decode cX7_year 67 = .ok (.ldc 189, 2) := by decide +kernel
theorem dX7_year_69 : decode cX7_year 69 = .ok (.irem, 1) := by decide +kernel
theorem dX7_year_70 : decode cX7_year 70 = .ok (.istore 4, 2) := by decide +kernel
theorem dX7_year_72 : decode cX7_year 72 = .ok (.aload_n 0, 1) := by decide +kernel
theorem dX7_year_73 : decode cX7_year 73 = .ok (.iload 4, 2) := by decide +kernel
theorem dX7_year_75 : decode cX7_year 75 = .ok (.bipush 7, 2) := by decide +kernel
theorem dX7_year_77 : decode cX7_year 77 = .ok (.irem, 1) := by decide +kernel
theorem dX7_year_78 : decode cX7_year 78 = .ok (.ifCond .ne 7, 3) := by decide +kernel
theorem dX7_year_81 : decode cX7_year 81 = .ok (.iconst 1, 1) := by decide +kernel
theorem dX7_year_82 : decode cX7_year 82 = .ok (.goto 4, 3) := by decide +kernel
theorem dX7_year_85 : decode cX7_year 85 = .ok (.iconst 0, 1) := by decide +kernel
theorem dX7_year_86 : decode cX7_year 86 = .ok (.putfield 81, 3) := by decide +kernel
theorem dX7_year_89 : decode cX7_year 89 = .ok (.aload_n 0, 1) := by decide +kernel
theorem dX7_year_90 : decode cX7_year 90 = .ok (.iload 4, 2) := by decide +kernel
theorem dX7_year_92 : decode cX7_year 92 = .ok (.bipush 31, 2) := by decide +kernel
theorem dX7_year_94 : decode cX7_year 94 = .ok (.irem, 1) := by decide +kernel
theorem dX7_year_95 : decode cX7_year 95 = .ok (.ifCond .ne 7, 3) := by decide +kernel
theorem dX7_year_98 : decode cX7_year 98 = .ok (.iconst 1, 1) := by decide +kernel
theorem dX7_year_99 : decode cX7_year 99 = .ok (.goto 4, 3) := by decide +kernel
theorem dX7_year_102 : decode cX7_year 102 = .ok (.iconst 0, 1) := by decide +kernel
theorem dX7_year_103 : decode cX7_year 103 = .ok (.putfield 87, 3) := by decide +kernel
theorem dX7_year_106 : decode cX7_year 106 = .ok (.aload_n 0, 1) := by decide +kernel
theorem dX7_year_107 : decode cX7_year 107 = .ok (.getfield 35, 3) := by decide +kernel
theorem dX7_year_110 : decode cX7_year 110 = .ok (.iload 4, 2) := by decide +kernel
theorem dX7_year_112 : decode cX7_year 112 = .ok (.iconst 3, 1) := by decide +kernel
theorem dX7_year_113 : decode cX7_year 113 = .ok (.irem, 1) := by decide +kernel
theorem dX7_year_114 : decode cX7_year 114 = .ok (.dup2, 1) := by decide +kernel
theorem dX7_year_115 : decode cX7_year 115 = .ok (.iaload, 1) := by decide +kernel
theorem dX7_year_116 : decode cX7_year 116 = .ok (.iload 4, 2) := by decide +kernel
theorem dX7_year_118 : decode cX7_year 118 = .ok (.bipush 7, 2) := by decide +kernel
theorem dX7_year_120 : decode cX7_year 120 = .ok (.idiv, 1) := by decide +kernel
theorem dX7_year_121 : decode cX7_year 121 = .ok (.bipush 100, 2) := by decide +kernel
theorem dX7_year_123 : decode cX7_year 123 = .ok (.irem, 1) := by decide +kernel
theorem dX7_year_124 : decode cX7_year 124 = .ok (.iadd, 1) := by decide +kernel
theorem dX7_year_125 : decode cX7_year 125 = .ok (.iastore, 1) := by decide +kernel
theorem dX7_year_126 : decode cX7_year 126 = .ok (.iload 5, 2) := by decide +kernel
theorem dX7_year_128 : decode cX7_year 128 = .ok (.aload_n 0, 1) := by decide +kernel
theorem dX7_year_129 : decode cX7_year 129 = .ok (.invokevirtual 118, 3) := by decide +kernel
theorem dX7_year_132 : decode cX7_year 132 = .ok (.ifCond .eq 7, 3) := by decide +kernel
theorem dX7_year_135 : decode cX7_year 135 = .ok (.iconst 1, 1) := by decide +kernel
theorem dX7_year_136 : decode cX7_year 136 = .ok (.goto 4, 3) := by decide +kernel
theorem dX7_year_139 : decode cX7_year 139 = .ok (.iconst 0, 1) := by decide +kernel
theorem dX7_year_140 : decode cX7_year 140 = .ok (.iadd, 1) := by decide +kernel
theorem dX7_year_141 : decode cX7_year 141 = .ok (.istore 5, 2) := by decide +kernel
theorem dX7_year_143 : decode cX7_year 143 = .ok (.iconst 0, 1) := by decide +kernel
theorem dX7_year_144 : decode cX7_year 144 = .ok (.istore 8, 2) := by decide +kernel
theorem dX7_year_146 : decode cX7_year 146 = .ok (.iload 8, 2) := by decide +kernel
theorem dX7_year_148 : decode cX7_year 148 = .ok (.iconst 3, 1) := by decide +kernel
theorem dX7_year_149 : decode cX7_year 149 = .ok (.if_icmp .ge 33, 3) := by decide +kernel
theorem dX7_year_152 : decode cX7_year 152 = .ok (.aload_n 0, 1) := by decide +kernel
theorem dX7_year_153 : decode cX7_year 153 = .ok (.iload 8, 2) := by decide +kernel
theorem dX7_year_155 : decode cX7_year 155 = .ok (.invokevirtual 105, 3) := by decide +kernel
theorem dX7_year_158 : decode cX7_year 158 = .ok (.iload 6, 2) := by decide +kernel
theorem dX7_year_160 : decode cX7_year 160 = .ok (.if_icmp .le 12, 3) := by decide +kernel
theorem dX7_year_163 : decode cX7_year 163 = .ok (.aload_n 0, 1) := by decide +kernel
theorem dX7_year_164 : decode cX7_year 164 = .ok (.iload 8, 2) := by decide +kernel
theorem dX7_year_166 : decode cX7_year 166 = .ok (.invokevirtual 105, 3) := by decide +kernel
theorem dX7_year_169 : decode cX7_year 169 = .ok (.goto 5, 3) := by decide +kernel
theorem dX7_year_172 : decode cX7_year 172 = .ok (.iload 6, 2) := by decide +kernel
theorem dX7_year_174 : decode cX7_year 174 = .ok (.istore 6, 2) := by decide +kernel
theorem dX7_year_176 : decode cX7_year 176 = .ok (.iinc 8 1, 3) := by decide +kernel
theorem dX7_year_179 : decode cX7_year 179 = .ok (.goto (-33), 3) := by decide +kernel
theorem dX7_year_182 : decode cX7_year 182 = .ok (.iinc 7 1, 3) := by decide +kernel
theorem dX7_year_185 : decode cX7_year 185 = .ok (.goto (-136), 3) := by decide +kernel
theorem dX7_year_188 : decode cX7_year 188 = .ok (.iload_n 3, 1) := by decide +kernel
theorem dX7_year_189 : decode cX7_year 189 = .ok (.ifCond .ne 10, 3) := by decide +kernel
theorem dX7_year_192 : decode cX7_year 192 = .ok (.aload_n 0, 1) := by decide +kernel
theorem dX7_year_193 : decode cX7_year 193 = .ok (.invokevirtual 151, 3) := by decide +kernel
theorem dX7_year_196 : decode cX7_year 196 = .ok (.goto 15, 3) := by decide +kernel
theorem dX7_year_199 : decode cX7_year 199 = .ok (.iload_n 3, 1) := by decide +kernel
theorem dX7_year_200 : decode cX7_year 200 = .ok (.iconst 1, 1) := by decide +kernel
theorem dX7_year_201 : decode cX7_year 201 = .ok (.if_icmp .ne 8, 3) := by decide +kernel
theorem dX7_year_204 : decode cX7_year 204 = .ok (.iload 5, 2) := by decide +kernel
theorem dX7_year_206 : decode cX7_year 206 = .ok (.goto 5, 3) := by decide +kernel
theorem dX7_year_209 : decode cX7_year 209 = .ok (.iload 6, 2) := by decide +kernel
theorem dX7_year_211 : decode cX7_year 211 = .ok (.ireturn, 1) := by decide +kernel
set_option maxRecDepth 20000 in
theorem ggX7_image_X7_in : GoodIn wsX7_image wsX7_in := goodIn_r _ [18] (by decide +kernel) (by decide +kernel)
set_option maxRecDepth 20000 in
theorem gX7_image_X7_in : GoodIn wsX7_image (va_wsS RX7 63 yX7_in wsX7_in) := goodIn_app (goodIn_of _ (by decide +kernel)) ggX7_image_X7_in
theorem dX7_image_0 : decode cX7_image 0 = .ok (.iload_n 1, 1) := by decide +kernel
theorem dX7_image_1 : decode cX7_image 1 = .ok (.iconst 0, 1) := by decide +kernel
theorem dX7_image_2 : decode cX7_image 2 = .ok (.iconst 1, 1) := by decide +kernel
theorem dX7_image_3 : decode cX7_image 3 = .ok (.invokestatic 63, 3) := by decide +kernel
theorem dX7_image_6 : decode cX7_image 6 = .ok (.ifCond .ne 6, 3) := by decide +kernel
theorem dX7_image_9 : decode cX7_image 9 = .ok (.bipush (-2), 2) := by decide +kernel
theorem dX7_image_11 : decode cX7_image 11 = .ok (.ireturn, 1) := by decide +kernel
theorem dX7_image_12 : decode cX7_image 12 = .ok (.bipush 100, 2) := by decide +kernel
theorem dX7_image_14 : decode cX7_image 14 = .ok (.iload_n 1, 1) := by decide +kernel
theorem dX7_image_15 : decode cX7_image 15 = .ok (.imul, 1) := by decide +kernel
theorem dX7_image_16 : decode cX7_image 16 = .ok (.istore_n 2, 1) := by decide +kernel
theorem dX7_image_17 : decode cX7_image 17 = .ok (.iconst 0, 1) := by decide +kernel
theorem dX7_image_18 : decode cX7_image 18 = .ok (.istore_n 3, 1) := by decide +kernel
theorem dX7_image_19 : decode cX7_image 19 = .ok (.iload_n 3, 1) := by decide +kernel
theorem dX7_image_20 : decode cX7_image 20 = .ok (.iconst 4, 1) := by decide +kernel
theorem dX7_image_21 : decode cX7_image 21 = .ok (.if_icmp .ge 39, 3) := by decide +kernel
theorem dX7_image_24 : decode cX7_image 24 = .ok (.aload_n 0, 1) := by decide +kernel
theorem dX7_image_25 : decode cX7_image 25 = .ok (.getfield 56, 3) := by decide +kernel
theorem dX7_image_28 : decode cX7_image 28 = .ok (.iload_n 2, 1) := by decide +kernel
theorem dX7_image_29 : decode cX7_image 29 = .ok (.iload_n 3, 1) := by decide +kernel
theorem dX7_image_30 : decode cX7_image 30 = .ok (.iadd, 1) := by decide +kernel
theorem dX7_image_31 : decode cX7_image 31 = .ok (.aload_n 0, 1) := by decide +kernel
theorem dX7_image_32 : decode cX7_image 32 = .ok (.getfield 7, 3) := by decide +kernel
theorem dX7_image_35 : decode cX7_image 35 = .ok (.iload_n 3, 1) := by decide +kernel
theorem dX7_image_36 : decode cX7_image 36 = .ok (.iaload, 1) := by decide +kernel
theorem dX7_image_37 : decode cX7_image 37 = .ok (.iastore, 1) := by decide +kernel
theorem dX7_image_38 : decode cX7_image 38 = .ok (.aload_n 0, 1) := by decide +kernel
theorem dX7_image_39 : decode cX7_image 39 = .ok (.getfield 56, 3) := by decide +kernel
theorem dX7_image_42 : decode cX7_image 42 = .ok (.iload_n 2, 1) := by decide +kernel
theorem dX7_image_43 : decode cX7_image 43 = .ok (.iconst 4, 1) := by decide +kernel
theorem dX7_image_44 : decode cX7_image 44 = .ok (.iadd, 1) := by decide +kernel
theorem dX7_image_45 : decode cX7_image 45 = .ok (.iload_n 3, 1) := by decide +kernel
theorem dX7_image_46 : decode cX7_image 46 = .ok (.iadd, 1) := by decide +kernel
theorem dX7_image_47 : decode cX7_image 47 = .ok (.aload_n 0, 1) := by decide +kernel
theorem dX7_image_48 : decode cX7_image 48 = .ok (.getfield 13, 3) := by decide +kernel
theorem dX7_image_51 : decode cX7_image 51 = .ok (.iload_n 3, 1) := by decide +kernel
theorem dX7_image_52 : decode cX7_image 52 = .ok (.iaload, 1) := by decide +kernel
theorem dX7_image_53 : decode cX7_image 53 = .ok (.iastore, 1) := by decide +kernel
theorem dX7_image_54 : decode cX7_image 54 = .ok (.iinc 3 1, 3) := by decide +kernel
theorem dX7_image_57 : decode cX7_image 57 = .ok (.goto (-38), 3) := by decide +kernel
theorem dX7_image_60 : decode cX7_image 60 = .ok (.iconst 0, 1) := by decide +kernel
theorem dX7_image_61 : decode cX7_image 61 = .ok (.istore_n 3, 1) := by decide +kernel
theorem dX7_image_62 : decode cX7_image 62 = .ok (.iload_n 3, 1) := by decide +kernel
theorem dX7_image_63 : decode cX7_image 63 = .ok (.bipush 18, 2) := by decide +kernel
theorem dX7_image_65 : decode cX7_image 65 = .ok (.if_icmp .ge 26, 3) := by decide +kernel
theorem dX7_image_68 : decode cX7_image 68 = .ok (.aload_n 0, 1) := by decide +kernel
theorem dX7_image_69 : decode cX7_image 69 = .ok (.getfield 56, 3) := by decide +kernel
theorem dX7_image_72 : decode cX7_image 72 = .ok (.iload_n 2, 1) := by decide +kernel
theorem dX7_image_73 : decode cX7_image 73 = .ok (.bipush 8, 2) := by decide +kernel
theorem dX7_image_75 : decode cX7_image 75 = .ok (.iadd, 1) := by decide +kernel
theorem dX7_image_76 : decode cX7_image 76 = .ok (.iload_n 3, 1) := by decide +kernel
theorem dX7_image_77 : decode cX7_image 77 = .ok (.iadd, 1) := by decide +kernel
theorem dX7_image_78 : decode cX7_image 78 = .ok (.aload_n 0, 1) := by decide +kernel
theorem dX7_image_79 : decode cX7_image 79 = .ok (.getfield 16, 3) := by decide +kernel
theorem dX7_image_82 : decode cX7_image 82 = .ok (.iload_n 3, 1) := by decide +kernel
theorem dX7_image_83 : decode cX7_image 83 = .ok (.iaload, 1) := by decide +kernel
theorem dX7_image_84 : decode cX7_image 84 = .ok (.iastore, 1) := by decide +kernel
theorem dX7_image_85 : decode cX7_image 85 = .ok (.iinc 3 1, 3) := by decide +kernel
theorem dX7_image_88 : decode cX7_image 88 = .ok (.goto (-26), 3) := by decide +kernel
theorem dX7_image_91 : decode cX7_image 91 = .ok (.iconst 0, 1) := by decide +kernel
theorem dX7_image_92 : decode cX7_image 92 = .ok (.istore_n 3, 1) := by decide +kernel
theorem dX7_image_93 : decode cX7_image 93 = .ok (.iload_n 3, 1) := by decide +kernel
theorem dX7_image_94 : decode cX7_image 94 = .ok (.bipush 27, 2) := by decide +kernel
theorem dX7_image_96 : decode cX7_image 96 = .ok (.if_icmp .ge 26, 3) := by decide +kernel
theorem dX7_image_99 : decode cX7_image 99 = .ok (.aload_n 0, 1) := by decide +kernel
theorem dX7_image_100 : decode cX7_image 100 = .ok (.getfield 56, 3) := by decide +kernel
theorem dX7_image_103 : decode cX7_image 103 = .ok (.iload_n 2, 1) := by decide +kernel
theorem dX7_image_104 : decode cX7_image 104 = .ok (.bipush 26, 2) := by decide +kernel
theorem dX7_image_106 : decode cX7_image 106 = .ok (.iadd, 1) := by decide +kernel
theorem dX7_image_107 : decode cX7_image 107 = .ok (.iload_n 3, 1) := by decide +kernel
theorem dX7_image_108 : decode cX7_image 108 = .ok (.iadd, 1) := by decide +kernel
theorem dX7_image_109 : decode cX7_image 109 = .ok (.aload_n 0, 1) := by decide +kernel
theorem dX7_image_110 : decode cX7_image 110 = .ok (.getfield 26, 3) := by decide +kernel
theorem dX7_image_113 : decode cX7_image 113 = .ok (.iload_n 3, 1) := by decide +kernel
theorem dX7_image_114 : decode cX7_image 114 = .ok (.iaload, 1) := by decide +kernel
theorem dX7_image_115 : decode cX7_image 115 = .ok (.iastore, 1) := by decide +kernel
theorem dX7_image_116 : decode cX7_image 116 = .ok (.iinc 3 1, 3) := by decide +kernel
theorem dX7_image_119 : decode cX7_image 119 = .ok (.goto (-26), 3) := by decide +kernel
theorem dX7_image_122 : decode cX7_image 122 = .ok (.iconst 0, 1) := by decide +kernel
theorem dX7_image_123 : decode cX7_image 123 = .ok (.istore_n 3, 1) := by decide +kernel
theorem dX7_image_124 : decode cX7_image 124 = .ok (.iload_n 3, 1) := by decide +kernel
theorem dX7_image_125 : decode cX7_image 125 = .ok (.bipush 16, 2) := by decide +kernel
theorem dX7_image_127 : decode cX7_image 127 = .ok (.if_icmp .ge 26, 3) := by decide +kernel
theorem dX7_image_130 : decode cX7_image 130 = .ok (.aload_n 0, 1) := by decide +kernel
theorem dX7_image_131 : decode cX7_image 131 = .ok (.getfield 56, 3) := by decide +kernel
theorem dX7_image_134 : decode cX7_image 134 = .ok (.iload_n 2, 1) := by decide +kernel
theorem dX7_image_135 : decode cX7_image 135 = .ok (.bipush 53, 2) := by decide +kernel
theorem dX7_image_137 : decode cX7_image 137 = .ok (.iadd, 1) := by decide +kernel
theorem dX7_image_138 : decode cX7_image 138 = .ok (.iload_n 3, 1) := by decide +kernel
theorem dX7_image_139 : decode cX7_image 139 = .ok (.iadd, 1) := by decide +kernel
theorem dX7_image_140 : decode cX7_image 140 = .ok (.aload_n 0, 1) := by decide +kernel
theorem dX7_image_141 : decode cX7_image 141 = .ok (.getfield 29, 3) := by decide +kernel
theorem dX7_image_144 : decode cX7_image 144 = .ok (.iload_n 3, 1) := by decide +kernel
theorem dX7_image_145 : decode cX7_image 145 = .ok (.iaload, 1) := by decide +kernel
theorem dX7_image_146 : decode cX7_image 146 = .ok (.iastore, 1) := by decide +kernel
theorem dX7_image_147 : decode cX7_image 147 = .ok (.iinc 3 1, 3) := by decide +kernel
theorem dX7_image_150 : decode cX7_image 150 = .ok (.goto (-26), 3) := by decide +kernel
theorem dX7_image_153 : decode cX7_image 153 = .ok (.iconst 0, 1) := by decide +kernel
theorem dX7_image_154 : decode cX7_image 154 = .ok (.istore_n 3, 1) := by decide +kernel
theorem dX7_image_155 : decode cX7_image 155 = .ok (.iload_n 3, 1) := by decide +kernel
theorem dX7_image_156 : decode cX7_image 156 = .ok (.iconst 3, 1) := by decide +kernel
theorem dX7_image_157 : decode cX7_image 157 = .ok (.if_icmp .ge 26, 3) := by decide +kernel
theorem dX7_image_160 : decode cX7_image 160 = .ok (.aload_n 0, 1) := by decide +kernel
theorem dX7_image_161 : decode cX7_image 161 = .ok (.getfield 56, 3) := by decide +kernel
theorem dX7_image_164 : decode cX7_image 164 = .ok (.iload_n 2, 1) := by decide +kernel
theorem dX7_image_165 : decode cX7_image 165 = .ok (.bipush 70, 2) := by decide +kernel
theorem dX7_image_167 : decode cX7_image 167 = .ok (.iadd, 1) := by decide +kernel
theorem dX7_image_168 : decode cX7_image 168 = .ok (.iload_n 3, 1) := by decide +kernel
theorem dX7_image_169 : decode cX7_image 169 = .ok (.iadd, 1) := by decide +kernel
theorem dX7_image_170 : decode cX7_image 170 = .ok (.aload_n 0, 1) := by decide +kernel
theorem dX7_image_171 : decode cX7_image 171 = .ok (.getfield 23, 3) := by decide +kernel
theorem dX7_image_174 : decode cX7_image 174 = .ok (.iload_n 3, 1) := by decide +kernel
theorem dX7_image_175 : decode cX7_image 175 = .ok (.iaload, 1) := by decide +kernel
theorem dX7_image_176 : decode cX7_image 176 = .ok (.iastore, 1) := by decide +kernel
theorem dX7_image_177 : decode cX7_image 177 = .ok (.iinc 3 1, 3) := by decide +kernel
theorem dX7_image_180 : decode cX7_image 180 = .ok (.goto (-25), 3) := by decide +kernel
theorem dX7_image_183 : decode cX7_image 183 = .ok (.aload_n 0, 1) := by decide +kernel
theorem dX7_image_184 : decode cX7_image 184 = .ok (.getfield 56, 3) := by decide +kernel
theorem dX7_image_187 : decode cX7_image 187 = .ok (.iload_n 2, 1) := by decide +kernel
theorem dX7_image_188 : decode cX7_image 188 = .ok (.bipush 80, 2) := by decide +kernel
theorem dX7_image_190 : decode cX7_image 190 = .ok (.iadd, 1) := by decide +kernel
theorem dX7_image_191 : decode cX7_image 191 = .ok (.aload_n 0, 1) := by decide +kernel
theorem dX7_image_192 : decode cX7_image 192 = .ok (.getfield 19, 3) := by decide +kernel
theorem dX7_image_195 : decode cX7_image 195 = .ok (.iastore, 1) := by decide +kernel
theorem dX7_image_196 : decode cX7_image 196 = .ok (.aload_n 0, 1) := by decide +kernel
theorem dX7_image_197 : decode cX7_image 197 = .ok (.getfield 56, 3) := by decide +kernel
theorem dX7_image_200 : decode cX7_image 200 = .ok (.iload_n 2, 1) := by decide +kernel
theorem dX7_image_201 : decode cX7_image 201 = .ok (.bipush 81, 2) := by decide +kernel
theorem dX7_image_203 : decode cX7_image 203 = .ok (.iadd, 1) := by decide +kernel
theorem dX7_image_204 : decode cX7_image 204 = .ok (.aload_n 0, 1) := by decide +kernel
theorem dX7_image_205 : decode cX7_image 205 = .ok (.getfield 96, 3) := by decide +kernel
theorem dX7_image_208 : decode cX7_image 208 = .ok (.iastore, 1) := by decide +kernel
theorem dX7_image_209 : decode cX7_image 209 = .ok (.aload_n 0, 1) := by decide +kernel
theorem dX7_image_210 : decode cX7_image 210 = .ok (.getfield 56, 3) := by decide +kernel
theorem dX7_image_213 : decode cX7_image 213 = .ok (.iload_n 2, 1) := by decide +kernel
theorem dX7_image_214 : decode cX7_image 214 = .ok (.bipush 82, 2) := by decide +kernel
theorem dX7_image_216 : decode cX7_image 216 = .ok (.iadd, 1) := by decide +kernel
theorem dX7_image_217 : decode cX7_image 217 = .ok (.aload_n 0, 1) := by decide +kernel
theorem dX7_image_218 : decode cX7_image 218 = .ok (.getfield 78, 3) := by decide +kernel
theorem dX7_image_221 : decode cX7_image 221 = .ok (.iastore, 1) := by decide +kernel
theorem dX7_image_222 : decode cX7_image 222 = .ok (.aload_n 0, 1) := by decide +kernel
theorem dX7_image_223 : decode cX7_image 223 = .ok (.getfield 56, 3) := by decide +kernel
theorem dX7_image_226 : decode cX7_image 226 = .ok (.iload_n 2, 1) := by decide +kernel
theorem dX7_image_227 : decode cX7_image 227 = .ok (.bipush 83, 2) := by decide +kernel
theorem dX7_image_229 : decode cX7_image 229 = .ok (.iadd, 1) := by decide +kernel
theorem dX7_image_230 : decode cX7_image 230 = .ok (.aload_n 0, 1) := by decide +kernel
theorem dX7_image_231 : decode cX7_image 231 = .ok (.getfield 84, 3) := by decide +kernel
theorem dX7_image_234 : decode cX7_image 234 = .ok (.iastore, 1) := by decide +kernel
theorem dX7_image_235 : decode cX7_image 235 = .ok (.aload_n 0, 1) := by decide +kernel
theorem dX7_image_236 : decode cX7_image 236 = .ok (.getfield 56, 3) := by decide +kernel
theorem dX7_image_239 : decode cX7_image 239 = .ok (.iload_n 2, 1) := by decide +kernel
theorem dX7_image_240 : decode cX7_image 240 = .ok (.bipush 84, 2) := by decide +kernel
theorem dX7_image_242 : decode cX7_image 242 = .ok (.iadd, 1) := by decide +kernel
theorem dX7_image_243 : decode cX7_image 243 = .ok (.aload_n 0, 1) := by decide +kernel
theorem dX7_image_244 : decode cX7_image 244 = .ok (.getfield 90, 3) := by decide +kernel
theorem dX7_image_247 : decode cX7_image 247 = .ok (.iastore, 1) := by decide +kernel
theorem dX7_image_248 : decode cX7_image 248 = .ok (.aload_n 0, 1) := by decide +kernel
theorem dX7_image_249 : decode cX7_image 249 = .ok (.getfield 56, 3) := by decide +kernel
theorem dX7_image_252 : decode cX7_image 252 = .ok (.iload_n 2, 1) := by decide +kernel
theorem dX7_image_253 : decode cX7_image 253 = .ok (.bipush 85, 2) := by decide +kernel
theorem dX7_image_255 : decode cX7_image 255 = .ok (.iadd, 1) := by decide +kernel
theorem dX7_image_256 : decode cX7_image 256 = .ok (.aload_n 0, 1) := by decide +kernel
theorem dX7_image_257 : decode cX7_image 257 = .ok (.getfield 170, 3) := by decide +kernel
theorem dX7_image_260 : decode cX7_image 260 = .ok (.iastore, 1) := by decide +kernel
theorem dX7_image_261 : decode cX7_image 261 = .ok (.aload_n 0, 1) := by decide +kernel
theorem dX7_image_262 : decode cX7_image 262 = .ok (.getfield 59, 3) := by decide +kernel
theorem dX7_image_265 : decode cX7_image 265 = .ok (.iload_n 1, 1) := by decide +kernel
theorem dX7_image_266 : decode cX7_image 266 = .ok (.iconst 1, 1) := by decide +kernel
theorem dX7_image_267 : decode cX7_image 267 = .ok (.bastore, 1) := by decide +kernel
theorem dX7_image_268 : decode cX7_image 268 = .ok (.iconst 1, 1) := by decide +kernel
theorem dX7_image_269 : decode cX7_image 269 = .ok (.ireturn, 1) := by decide +kernel
set_option maxRecDepth 20000 in
theorem ggX7_restore_X7_in : GoodIn wsX7_restore wsX7_in := goodIn_r _ [18] (by decide +kernel) (by decide +kernel)
set_option maxRecDepth 20000 in
theorem gX7_restore_X7_in : GoodIn wsX7_restore (va_wsS RX7 63 yX7_in wsX7_in) := goodIn_app (goodIn_of _ (by decide +kernel)) ggX7_restore_X7_in
theorem dX7_restore_0 : decode cX7_restore 0 = .ok (.iload_n 1, 1) := by decide +kernel
theorem dX7_restore_1 : decode cX7_restore 1 = .ok (.iconst 0, 1) := by decide +kernel
theorem dX7_restore_2 : decode cX7_restore 2 = .ok (.iconst 1, 1) := by decide +kernel
theorem dX7_restore_3 : decode cX7_restore 3 = .ok (.invokestatic 63, 3) := by decide +kernel
theorem dX7_restore_6 : decode cX7_restore 6 = .ok (.ifCond .ne 6, 3) := by decide +kernel
theorem dX7_restore_9 : decode cX7_restore 9 = .ok (.bipush (-2), 2) := by decide +kernel
theorem dX7_restore_11 : decode cX7_restore 11 = .ok (.ireturn, 1) := by decide +kernel
theorem dX7_restore_12 : decode cX7_restore 12 = .ok (.aload_n 0, 1) := by decide +kernel
theorem dX7_restore_13 : decode cX7_restore 13 = .ok (.getfield 59, 3) := by decide +kernel
theorem dX7_restore_16 : decode cX7_restore 16 = .ok (.iload_n 1, 1) := by decide +kernel
theorem dX7_restore_17 : decode cX7_restore 17 = .ok (.baload, 1) := by decide +kernel
theorem dX7_restore_18 : decode cX7_restore 18 = .ok (.ifCond .ne 6, 3) := by decide +kernel
theorem dX7_restore_21 : decode cX7_restore 21 = .ok (.bipush (-3), 2) := by decide +kernel
theorem dX7_restore_23 : decode cX7_restore 23 = .ok (.ireturn, 1) := by decide +kernel
theorem dX7_restore_24 : decode cX7_restore 24 = .ok (.bipush 100, 2) := by decide +kernel
theorem dX7_restore_26 : decode cX7_restore 26 = .ok (.iload_n 1, 1) := by decide +kernel
theorem dX7_restore_27 : decode cX7_restore 27 = .ok (.imul, 1) := by decide +kernel
theorem dX7_restore_28 : decode cX7_restore 28 = .ok (.istore_n 2, 1) := by decide +kernel
theorem dX7_restore_29 : decode cX7_restore 29 = .ok (.iconst 0, 1) := by decide +kernel
theorem dX7_restore_30 : decode cX7_restore 30 = .ok (.istore_n 3, 1) := by decide +kernel
theorem dX7_restore_31 : decode cX7_restore 31 = .ok (.iload_n 3, 1) := by decide +kernel
theorem dX7_restore_32 : decode cX7_restore 32 = .ok (.iconst 4, 1) := by decide +kernel
theorem dX7_restore_33 : decode cX7_restore 33 = .ok (.if_icmp .ge 39, 3) := by decide +kernel
theorem dX7_restore_36 : decode cX7_restore 36 = .ok (.aload_n 0, 1) := by decide +kernel
theorem dX7_restore_37 : decode cX7_restore 37 = .ok (.getfield 7, 3) := by decide +kernel
theorem dX7_restore_40 : decode cX7_restore 40 = .ok (.iload_n 3, 1) := by decide +kernel
theorem dX7_restore_41 : decode cX7_restore 41 = .ok (.aload_n 0, 1) := by decide +kernel
theorem dX7_restore_42 : decode cX7_restore 42 = .ok (.getfield 56, 3) := by decide +kernel
theorem dX7_restore_45 : decode cX7_restore 45 = .ok (.iload_n 2, 1) := by decide +kernel
theorem dX7_restore_46 : decode cX7_restore 46 = .ok (.iload_n 3, 1) := by decide +kernel
theorem dX7_restore_47 : decode cX7_restore 47 = .ok (.iadd, 1) := by decide +kernel
theorem dX7_restore_48 : decode cX7_restore 48 = .ok (.iaload, 1) := by decide +kernel
theorem dX7_restore_49 : decode cX7_restore 49 = .ok (.iastore, 1) := by decide +kernel
theorem dX7_restore_50 : decode cX7_restore 50 = .ok (.aload_n 0, 1) := by decide +kernel
theorem dX7_restore_51 : decode cX7_restore 51 = .ok (.getfield 13, 3) := by decide +kernel
theorem dX7_restore_54 : decode cX7_restore 54 = .ok (.iload_n 3, 1) := by decide +kernel
theorem dX7_restore_55 : decode cX7_restore 55 = .ok (.aload_n 0, 1) := by decide +kernel
theorem dX7_restore_56 : decode cX7_restore 56 = .ok (.getfield 56, 3) := by decide +kernel
theorem dX7_restore_59 : decode cX7_restore 59 = .ok (.iload_n 2, 1) := by decide +kernel
theorem dX7_restore_60 : decode cX7_restore 60 = .ok (.iconst 4, 1) := by decide +kernel
theorem dX7_restore_61 : decode cX7_restore 61 = .ok (.iadd, 1) := by decide +kernel
theorem dX7_restore_62 : decode cX7_restore 62 = .ok (.iload_n 3, 1) := by decide +kernel
theorem dX7_restore_63 : decode cX7_restore 63 = .ok (.iadd, 1) := by decide +kernel
theorem dX7_restore_64 : decode cX7_restore 64 = .ok (.iaload, 1) := by decide +kernel
theorem dX7_restore_65 : decode cX7_restore 65 = .ok (.iastore, 1) := by decide +kernel
theorem dX7_restore_66 : decode cX7_restore 66 = .ok (.iinc 3 1, 3) := by decide +kernel
theorem dX7_restore_69 : decode cX7_restore 69 = .ok (.goto (-38), 3) := by decide +kernel
theorem dX7_restore_72 : decode cX7_restore 72 = .ok (.iconst 0, 1) := by decide +kernel
theorem dX7_restore_73 : decode cX7_restore 73 = .ok (.istore_n 3, 1) := by decide +kernel
theorem dX7_restore_74 : decode cX7_restore 74 = .ok (.iload_n 3, 1) := by decide +kernel
theorem dX7_restore_75 : decode cX7_restore 75 = .ok (.bipush 18, 2) := by decide +kernel
theorem dX7_restore_77 : decode cX7_restore 77 = .ok (.if_icmp .ge 26, 3) := by decide +kernel
theorem dX7_restore_80 : decode cX7_restore 80 = .ok (.aload_n 0, 1) := by decide +kernel
theorem dX7_restore_81 : decode cX7_restore 81 = .ok (.getfield 16, 3) := by decide +kernel
theorem dX7_restore_84 : decode cX7_restore 84 = .ok (.iload_n 3, 1) := by decide +kernel
theorem dX7_restore_85 : decode cX7_restore 85 = .ok (.aload_n 0, 1) := by decide +kernel
theorem dX7_restore_86 : decode cX7_restore 86 = .ok (.getfield 56, 3) := by decide +kernel
theorem dX7_restore_89 : decode cX7_restore 89 = .ok (.iload_n 2, 1) := by decide +kernel
theorem dX7_restore_90 : decode cX7_restore 90 = .ok (.bipush 8, 2) := by decide +kernel
theorem dX7_restore_92 : decode cX7_restore 92 = .ok (.iadd, 1) := by decide +kernel
theorem dX7_restore_93 : decode cX7_restore 93 = .ok (.iload_n 3, 1) := by decide +kernel
theorem dX7_restore_94 : decode cX7_restore 94 = .ok (.iadd, 1) := by decide +kernel
theorem dX7_restore_95 : decode cX7_restore 95 = .ok (.iaload, 1) := by decide +kernel
theorem dX7_restore_96 : decode cX7_restore 96 = .ok (.iastore, 1) := by decide +kernel
theorem dX7_restore_97 : decode cX7_restore 97 = .ok (.iinc 3 1, 3) := by decide +kernel
theorem dX7_restore_100 : decode cX7_restore 100 = .ok (.goto (-26), 3) := by decide +kernel
theorem dX7_restore_103 : decode cX7_restore 103 = .ok (.iconst 0, 1) := by decide +kernel
theorem dX7_restore_104 : decode cX7_restore 104 = .ok (.istore_n 3, 1) := by decide +kernel
theorem dX7_restore_105 : decode cX7_restore 105 = .ok (.iload_n 3, 1) := by decide +kernel
theorem dX7_restore_106 : decode cX7_restore 106 = .ok (.bipush 27, 2) := by decide +kernel
theorem dX7_restore_108 : decode cX7_restore 108 = .ok (.if_icmp .ge 26, 3) := by decide +kernel
theorem dX7_restore_111 : decode cX7_restore 111 = .ok (.aload_n 0, 1) := by decide +kernel
theorem dX7_restore_112 : decode cX7_restore 112 = .ok (.getfield 26, 3) := by decide +kernel
theorem dX7_restore_115 : decode cX7_restore 115 = .ok (.iload_n 3, 1) := by decide +kernel
theorem dX7_restore_116 : decode cX7_restore 116 = .ok (.aload_n 0, 1) := by decide +kernel
theorem dX7_restore_117 : decode cX7_restore 117 = .ok (.getfield 56, 3) := by decide +kernel
theorem dX7_restore_120 : decode cX7_restore 120 = .ok (.iload_n 2, 1) := by decide +kernel
theorem dX7_restore_121 : decode cX7_restore 121 = .ok (.bipush 26, 2) := by decide +kernel
theorem dX7_restore_123 : decode cX7_restore 123 = .ok (.iadd, 1) := by decide +kernel
theorem dX7_restore_124 : decode cX7_restore 124 = .ok (.iload_n 3, 1) := by decide +kernel
theorem dX7_restore_125 : decode cX7_restore 125 = .ok (.iadd, 1) := by decide +kernel
theorem dX7_restore_126 : decode cX7_restore 126 = .ok (.iaload, 1) := by decide +kernel
theorem dX7_restore_127 : decode cX7_restore 127 = .ok (.iastore, 1) := by decide +kernel
theorem dX7_restore_128 : decode cX7_restore 128 = .ok (.iinc 3 1, 3) := by decide +kernel
theorem dX7_restore_131 : decode cX7_restore 131 = .ok (.goto (-26), 3) := by decide +kernel
theorem dX7_restore_134 : decode cX7_restore 134 = .ok (.iconst 0, 1) := by decide +kernel
theorem dX7_restore_135 : decode cX7_restore 135 = .ok (.istore_n 3, 1) := by decide +kernel
theorem dX7_restore_136 : decode cX7_restore 136 = .ok (.iload_n 3, 1) := by decide +kernel
theorem dX7_restore_137 : decode cX7_restore 137 = .ok (.bipush 16, 2) := by decide +kernel
theorem dX7_restore_139 : decode cX7_restore 139 = .ok (.if_icmp .ge 26, 3) := by decide +kernel
theorem dX7_restore_142 : decode cX7_restore 142 = .ok (.aload_n 0, 1) := by decide +kernel
theorem dX7_restore_143 : decode cX7_restore 143 = .ok (.getfield 29, 3) := by decide +kernel
theorem dX7_restore_146 : decode cX7_restore 146 = .ok (.iload_n 3, 1) := by decide +kernel
theorem dX7_restore_147 : decode cX7_restore 147 = .ok (.aload_n 0, 1) := by decide +kernel
theorem dX7_restore_148 : decode cX7_restore 148 = .ok (.getfield 56, 3) := by decide +kernel
theorem dX7_restore_151 : decode cX7_restore 151 = .ok (.iload_n 2, 1) := by decide +kernel
theorem dX7_restore_152 : decode cX7_restore 152 = .ok (.bipush 53, 2) := by decide +kernel
theorem dX7_restore_154 : decode cX7_restore 154 = .ok (.iadd, 1) := by decide +kernel
theorem dX7_restore_155 : decode cX7_restore 155 = .ok (.iload_n 3, 1) := by decide +kernel
theorem dX7_restore_156 : decode cX7_restore 156 = .ok (.iadd, 1) := by decide +kernel
theorem dX7_restore_157 : decode cX7_restore 157 = .ok (.iaload, 1) := by decide +kernel
theorem dX7_restore_158 : decode cX7_restore 158 = .ok (.iastore, 1) := by decide +kernel
theorem dX7_restore_159 : decode cX7_restore 159 = .ok (.iinc 3 1, 3) := by decide +kernel
theorem dX7_restore_162 : decode cX7_restore 162 = .ok (.goto (-26), 3) := by decide +kernel
theorem dX7_restore_165 : decode cX7_restore 165 = .ok (.iconst 0, 1) := by decide +kernel
theorem dX7_restore_166 : decode cX7_restore 166 = .ok (.istore_n 3, 1) := by decide +kernel
theorem dX7_restore_167 : decode cX7_restore 167 = .ok (.iload_n 3, 1) := by decide +kernel
theorem dX7_restore_168 : decode cX7_restore 168 = .ok (.iconst 3, 1) := by decide +kernel
theorem dX7_restore_169 : decode cX7_restore 169 = .ok (.if_icmp .ge 26, 3) := by decide +kernel
theorem dX7_restore_172 : decode cX7_restore 172 = .ok (.aload_n 0, 1) := by decide +kernel
theorem dX7_restore_173 : decode cX7_restore 173 = .ok (.getfield 23, 3) := by decide +kernel
theorem dX7_restore_176 : decode cX7_restore 176 = .ok (.iload_n 3, 1) := by decide +kernel
theorem dX7_restore_177 : decode cX7_restore 177 = .ok (.aload_n 0, 1) := by decide +kernel
theorem dX7_restore_178 : decode cX7_restore 178 = .ok (.getfield 56, 3) := by decide +kernel
theorem dX7_restore_181 : decode cX7_restore 181 = .ok (.iload_n 2, 1) := by decide +kernel
theorem dX7_restore_182 : decode cX7_restore 182 = .ok (.bipush 70, 2) := by decide +kernel
theorem dX7_restore_184 : decode cX7_restore 184 = .ok (.iadd, 1) := by decide +kernel
theorem dX7_restore_185 : decode cX7_restore 185 = .ok (.iload_n 3, 1) := by decide +kernel
theorem dX7_restore_186 : decode cX7_restore 186 = .ok (.iadd, 1) := by decide +kernel
theorem dX7_restore_187 : decode cX7_restore 187 = .ok (.iaload, 1) := by decide +kernel
theorem dX7_restore_188 : decode cX7_restore 188 = .ok (.iastore, 1) := by decide +kernel
theorem dX7_restore_189 : decode cX7_restore 189 = .ok (.iinc 3 1, 3) := by decide +kernel
theorem dX7_restore_192 : decode cX7_restore 192 = .ok (.goto (-25), 3) := by decide +kernel
theorem dX7_restore_195 : decode cX7_restore 195 = .ok (.aload_n 0, 1) := by decide +kernel
theorem dX7_restore_196 : decode cX7_restore 196 = .ok (.aload_n 0, 1) := by decide +kernel
theorem dX7_restore_197 : decode cX7_restore 197 = .ok (.getfield 56, 3) := by decide +kernel
theorem dX7_restore_200 : decode cX7_restore 200 = .ok (.iload_n 2, 1) := by decide +kernel
theorem dX7_restore_201 : decode cX7_restore 201 = .ok (.bipush 80, 2) := by decide +kernel
theorem dX7_restore_203 : decode cX7_restore 203 = .ok (.iadd, 1) := by decide +kernel
theorem dX7_restore_204 : decode cX7_restore 204 = .ok (.iaload, 1) := by decide +kernel
theorem dX7_restore_205 : decode cX7_restore 205 = .ok (.putfield 19, 3) := by decide +kernel
theorem dX7_restore_208 : decode cX7_restore 208 = .ok (.aload_n 0, 1) := by decide +kernel
theorem dX7_restore_209 : decode cX7_restore 209 = .ok (.aload_n 0, 1) := by decide +kernel
theorem dX7_restore_210 : decode cX7_restore 210 = .ok (.getfield 56, 3) := by decide +kernel
theorem dX7_restore_213 : decode cX7_restore 213 = .ok (.iload_n 2, 1) := by decide +kernel
theorem dX7_restore_214 : decode cX7_restore 214 = .ok (.bipush 81, 2) := by decide +kernel
theorem dX7_restore_216 : decode cX7_restore 216 = .ok (.iadd, 1) := by decide +kernel
theorem dX7_restore_217 : decode cX7_restore 217 = .ok (.iaload, 1) := by decide +kernel
theorem dX7_restore_218 : decode cX7_restore 218 = .ok (.putfield 96, 3) := by decide +kernel
theorem dX7_restore_221 : decode cX7_restore 221 = .ok (.aload_n 0, 1) := by decide +kernel
theorem dX7_restore_222 : decode cX7_restore 222 = .ok (.aload_n 0, 1) := by decide +kernel
theorem dX7_restore_223 : decode cX7_restore 223 = .ok (.getfield 56, 3) := by decide +kernel
theorem dX7_restore_226 : decode cX7_restore 226 = .ok (.iload_n 2, 1) := by decide +kernel
theorem dX7_restore_227 : decode cX7_restore 227 = .ok (.bipush 82, 2) := by decide +kernel
theorem dX7_restore_229 : decode cX7_restore 229 = .ok (.iadd, 1) := by decide +kernel
theorem dX7_restore_230 : decode cX7_restore 230 = .ok (.iaload, 1) := by decide +kernel
theorem dX7_restore_231 : decode cX7_restore 231 = .ok (.putfield 78, 3) := by decide +kernel
theorem dX7_restore_234 : decode cX7_restore 234 = .ok (.aload_n 0, 1) := by decide +kernel
theorem dX7_restore_235 : decode cX7_restore 235 = .ok (.aload_n 0, 1) := by decide +kernel
theorem dX7_restore_236 : decode cX7_restore 236 = .ok (.getfield 56, 3) := by decide +kernel
theorem dX7_restore_239 : decode cX7_restore 239 = .ok (.iload_n 2, 1) := by decide +kernel
theorem dX7_restore_240 : decode cX7_restore 240 = .ok (.bipush 83, 2) := by decide +kernel
theorem dX7_restore_242 : decode cX7_restore 242 = .ok (.iadd, 1) := by decide +kernel
theorem dX7_restore_243 : decode cX7_restore 243 = .ok (.iaload, 1) := by decide +kernel
theorem dX7_restore_244 : decode cX7_restore 244 = .ok (.putfield 84, 3) := by decide +kernel
theorem dX7_restore_247 : decode cX7_restore 247 = .ok (.aload_n 0, 1) := by decide +kernel
theorem dX7_restore_248 : decode cX7_restore 248 = .ok (.aload_n 0, 1) := by decide +kernel
theorem dX7_restore_249 : decode cX7_restore 249 = .ok (.getfield 56, 3) := by decide +kernel
theorem dX7_restore_252 : decode cX7_restore 252 = .ok (.iload_n 2, 1) := by decide +kernel
theorem dX7_restore_253 : decode cX7_restore 253 = .ok (.bipush 84, 2) := by decide +kernel
theorem dX7_restore_255 : decode cX7_restore 255 = .ok (.iadd, 1) := by decide +kernel
theorem dX7_restore_256 : decode cX7_restore 256 = .ok (.iaload, 1) := by decide +kernel
theorem dX7_restore_257 : decode cX7_restore 257 = .ok (.putfield 90, 3) := by decide +kernel
theorem dX7_restore_260 : decode cX7_restore 260 = .ok (.aload_n 0, 1) := by decide +kernel
theorem dX7_restore_261 : decode cX7_restore 261 = .ok (.aload_n 0, 1) := by decide +kernel
theorem dX7_restore_262 : decode cX7_restore 262 = .ok (.getfield 56, 3) := by decide +kernel
theorem dX7_restore_265 : decode cX7_restore 265 = .ok (.iload_n 2, 1) := by decide +kernel
theorem dX7_restore_266 : decode cX7_restore 266 = .ok (.bipush 85, 2) := by decide +kernel
theorem dX7_restore_268 : decode cX7_restore 268 = .ok (.iadd, 1) := by decide +kernel
theorem dX7_restore_269 : decode cX7_restore 269 = .ok (.iaload, 1) := by decide +kernel
theorem dX7_restore_270 : decode cX7_restore 270 = .ok (.putfield 170, 3) := by decide +kernel
theorem dX7_restore_273 : decode cX7_restore 273 = .ok (.iconst 1, 1) := by decide +kernel
theorem dX7_restore_274 : decode cX7_restore 274 = .ok (.ireturn, 1) := by decide +kernel
set_option maxRecDepth 20000 in
theorem ggX7_told_X7_in : GoodIn wsX7_told wsX7_in := goodIn_r _ [14] (by decide +kernel) (by decide +kernel)
set_option maxRecDepth 20000 in
theorem gX7_told_X7_in : GoodIn wsX7_told (va_wsS RX7 63 yX7_in wsX7_in) := goodIn_app (goodIn_of _ (by decide +kernel)) ggX7_told_X7_in
theorem dX7_told_0 : decode cX7_told 0 = .ok (.iload_n 1, 1) := by decide +kernel
theorem dX7_told_1 : decode cX7_told 1 = .ok (.bipush 100, 2) := by decide +kernel
theorem dX7_told_3 : decode cX7_told 3 = .ok (.if_icmp .lt 46, 3) := by decide +kernel
theorem dX7_told_6 : decode cX7_told 6 = .ok (.iload_n 1, 1) := by decide +kernel
theorem dX7_told_7 : decode cX7_told 7 = .ok (.bipush 100, 2) := by decide +kernel
theorem dX7_told_9 : decode cX7_told 9 = .ok (.idiv, 1) := by decide +kernel
theorem dX7_told_10 : decode cX7_told 10 = .ok (.iconst 1, 1) := by decide +kernel
theorem dX7_told_11 : decode cX7_told 11 = .ok (.isub, 1) := by decide +kernel
theorem dX7_told_12 : decode cX7_told 12 = .ok (.istore_n 2, 1) := by decide +kernel
theorem dX7_told_13 : decode cX7_told 13 = .ok (.iload_n 2, 1) := by decide +kernel
theorem dX7_told_14 : decode cX7_told 14 = .ok (.iconst 0, 1) := by decide +kernel
theorem dX7_told_15 : decode cX7_told 15 = .ok (.iconst 5, 1) := by decide +kernel
theorem dX7_told_16 : decode cX7_told 16 = .ok (.invokestatic 63, 3) := by decide +kernel
theorem dX7_told_19 : decode cX7_told 19 = .ok (.ifCond .eq 27, 3) := by decide +kernel
theorem dX7_told_22 : decode cX7_told 22 = .ok (.iload_n 1, 1) := by decide +kernel
theorem dX7_told_23 : decode cX7_told 23 = .ok (.bipush 100, 2) := by decide +kernel
theorem dX7_told_25 : decode cX7_told 25 = .ok (.irem, 1) := by decide +kernel
theorem dX7_told_26 : decode cX7_told 26 = .ok (.iconst 3, 1) := by decide +kernel
theorem dX7_told_27 : decode cX7_told 27 = .ok (.if_icmp .ge 19, 3) := by decide +kernel
theorem dX7_told_30 : decode cX7_told 30 = .ok (.aload_n 0, 1) := by decide +kernel
theorem dX7_told_31 : decode cX7_told 31 = .ok (.getfield 16, 3) := by decide +kernel
theorem dX7_told_34 : decode cX7_told 34 = .ok (.iconst 3, 1) := by decide +kernel
theorem dX7_told_35 : decode cX7_told 35 = .ok (.iload_n 2, 1) := by decide +kernel
theorem dX7_told_36 : decode cX7_told 36 = .ok (.imul, 1) := by decide +kernel
theorem dX7_told_37 : decode cX7_told 37 = .ok (.iload_n 1, 1) := by decide +kernel
theorem dX7_told_38 : decode cX7_told 38 = .ok (.bipush 100, 2) := by decide +kernel
theorem dX7_told_40 : decode cX7_told 40 = .ok (.irem, 1) := by decide +kernel
theorem dX7_told_41 : decode cX7_told 41 = .ok (.iadd, 1) := by decide +kernel
theorem dX7_told_42 : decode cX7_told 42 = .ok (.iaload, 1) := by decide +kernel
theorem dX7_told_43 : decode cX7_told 43 = .ok (.goto 5, 3) := by decide +kernel
theorem dX7_told_46 : decode cX7_told 46 = .ok (.bipush (-2), 2) := by decide +kernel
theorem dX7_told_48 : decode cX7_told 48 = .ok (.ireturn, 1) := by decide +kernel
theorem dX7_told_49 : decode cX7_told 49 = .ok (.iload_n 1, 1) := by decide +kernel
theorem dX7_told_50 : decode cX7_told 50 = .ok (.bipush 10, 2) := by decide +kernel
theorem dX7_told_52 : decode cX7_told 52 = .ok (.if_icmp .lt 55, 3) := by decide +kernel
theorem dX7_told_55 : decode cX7_told 55 = .ok (.iload_n 1, 1) := by decide +kernel
theorem dX7_told_56 : decode cX7_told 56 = .ok (.bipush 10, 2) := by decide +kernel
theorem dX7_told_58 : decode cX7_told 58 = .ok (.idiv, 1) := by decide +kernel
theorem dX7_told_59 : decode cX7_told 59 = .ok (.iconst 1, 1) := by decide +kernel
theorem dX7_told_60 : decode cX7_told 60 = .ok (.isub, 1) := by decide +kernel
theorem dX7_told_61 : decode cX7_told 61 = .ok (.istore_n 2, 1) := by decide +kernel
theorem dX7_told_62 : decode cX7_told 62 = .ok (.iload_n 2, 1) := by decide +kernel
theorem dX7_told_63 : decode cX7_told 63 = .ok (.iconst 0, 1) := by decide +kernel
theorem dX7_told_64 : decode cX7_told 64 = .ok (.iconst 3, 1) := by decide +kernel
theorem dX7_told_65 : decode cX7_told 65 = .ok (.invokestatic 63, 3) := by decide +kernel
theorem dX7_told_68 : decode cX7_told 68 = .ok (.ifCond .eq 11, 3) := by decide +kernel
theorem dX7_told_71 : decode cX7_told 71 = .ok (.iload_n 1, 1) := by decide +kernel
theorem dX7_told_72 : decode cX7_told 72 = .ok (.bipush 10, 2) := by decide +kernel
theorem dX7_told_74 : decode cX7_told 74 = .ok (.irem, 1) := by decide +kernel
theorem dX7_told_75 : decode cX7_told 75 = .ok (.iconst 1, 1) := by decide +kernel
theorem dX7_told_76 : decode cX7_told 76 = .ok (.if_icmp .le 8, 3) := by decide +kernel
theorem dX7_told_79 : decode cX7_told 79 = .ok (.bipush (-2), 2) := by decide +kernel
theorem dX7_told_81 : decode cX7_told 81 = .ok (.goto 25, 3) := by decide +kernel
theorem dX7_told_84 : decode cX7_told 84 = .ok (.iload_n 1, 1) := by decide +kernel
theorem dX7_told_85 : decode cX7_told 85 = .ok (.bipush 10, 2) := by decide +kernel
theorem dX7_told_87 : decode cX7_told 87 = .ok (.irem, 1) := by decide +kernel
theorem dX7_told_88 : decode cX7_told 88 = .ok (.ifCond .ne 12, 3) := by decide +kernel
theorem dX7_told_91 : decode cX7_told 91 = .ok (.aload_n 0, 1) := by decide +kernel
theorem dX7_told_92 : decode cX7_told 92 = .ok (.getfield 7, 3) := by decide +kernel
theorem dX7_told_95 : decode cX7_told 95 = .ok (.iload_n 2, 1) := by decide +kernel
theorem dX7_told_96 : decode cX7_told 96 = .ok (.iaload, 1) := by decide +kernel
theorem dX7_told_97 : decode cX7_told 97 = .ok (.goto 9, 3) := by decide +kernel
theorem dX7_told_100 : decode cX7_told 100 = .ok (.aload_n 0, 1) := by decide +kernel
theorem dX7_told_101 : decode cX7_told 101 = .ok (.getfield 13, 3) := by decide +kernel
theorem dX7_told_104 : decode cX7_told 104 = .ok (.iload_n 2, 1) := by decide +kernel
theorem dX7_told_105 : decode cX7_told 105 = .ok (.iaload, 1) := by decide +kernel
theorem dX7_told_106 : decode cX7_told 106 = .ok (.ireturn, 1) := by decide +kernel
theorem dX7_told_107 : decode cX7_told 107 = .ok (.iload_n 1, 1) := by decide +kernel
theorem dX7_told_108 : decode cX7_told 108 = .ok (.tableswitch 70 0 5 #[40, 45, 50, 55, 60, 65], 40) := by decide +kernel
theorem dX7_told_148 : decode cX7_told 148 = .ok (.aload_n 0, 1) := by decide +kernel
theorem dX7_told_149 : decode cX7_told 149 = .ok (.getfield 67, 3) := by decide +kernel
theorem dX7_told_152 : decode cX7_told 152 = .ok (.ireturn, 1) := by decide +kernel
theorem dX7_told_153 : decode cX7_told 153 = .ok (.aload_n 0, 1) := by decide +kernel
theorem dX7_told_154 : decode cX7_told 154 = .ok (.getfield 96, 3) := by decide +kernel
theorem dX7_told_157 : decode cX7_told 157 = .ok (.ireturn, 1) := by decide +kernel
theorem dX7_told_158 : decode cX7_told 158 = .ok (.aload_n 0, 1) := by decide +kernel
theorem dX7_told_159 : decode cX7_told 159 = .ok (.getfield 19, 3) := by decide +kernel
theorem dX7_told_162 : decode cX7_told 162 = .ok (.ireturn, 1) := by decide +kernel
theorem dX7_told_163 : decode cX7_told 163 = .ok (.aload_n 0, 1) := by decide +kernel
theorem dX7_told_164 : decode cX7_told 164 = .ok (.getfield 170, 3) := by decide +kernel
theorem dX7_told_167 : decode cX7_told 167 = .ok (.ireturn, 1) := by decide +kernel
theorem dX7_told_168 : decode cX7_told 168 = .ok (.aload_n 0, 1) := by decide +kernel
theorem dX7_told_169 : decode cX7_told 169 = .ok (.getfield 78, 3) := by decide +kernel
theorem dX7_told_172 : decode cX7_told 172 = .ok (.ireturn, 1) := by decide +kernel
theorem dX7_told_173 : decode cX7_told 173 = .ok (.aload_n 0, 1) := by decide +kernel
theorem dX7_told_174 : decode cX7_told 174 = .ok (.getfield 84, 3) := by decide +kernel
theorem dX7_told_177 : decode cX7_told 177 = .ok (.ireturn, 1) := by decide +kernel
theorem dX7_told_178 : decode cX7_told 178 = .ok (.iload_n 1, 1) := by decide +kernel
theorem dX7_told_179 : decode cX7_told 179 = .ok (.bipush 6, 2) := by decide +kernel
theorem dX7_told_181 : decode cX7_told 181 = .ok (.if_icmp .ne 10, 3) := by decide +kernel
theorem dX7_told_184 : decode cX7_told 184 = .ok (.aload_n 0, 1) := by decide +kernel
theorem dX7_told_185 : decode cX7_told 185 = .ok (.getfield 90, 3) := by decide +kernel
theorem dX7_told_188 : decode cX7_told 188 = .ok (.goto 5, 3) := by decide +kernel
theorem dX7_told_191 : decode cX7_told 191 = .ok (.bipush (-2), 2) := by decide +kernel
theorem dX7_told_193 : decode cX7_told 193 = .ok (.ireturn, 1) := by decide +kernel
