theorem dX7_init_0 : decode cX7_init 0 = .ok (.aload_n 0, 1) := by decide +kernel
theorem dX7_init_1 : decode cX7_init 1 = .ok (.invokespecial 1, 3) := by decide +kernel
theorem dX7_init_4 : decode cX7_init 4 = .ok (.aload_n 0, 1) := by decide +kernel
theorem dX7_init_5 : decode cX7_init 5 = .ok (.iconst 4, 1) := by decide +kernel
theorem dX7_init_6 : decode cX7_init 6 = .ok (.newarray .int, 2) := by decide +kernel
theorem dX7_init_8 : decode cX7_init 8 = .ok (.putfield 7, 3) := by decide +kernel
theorem dX7_init_11 : decode cX7_init 11 = .ok (.aload_n 0, 1) := by decide +kernel
theorem dX7_init_12 : decode cX7_init 12 = .ok (.iconst 4, 1) := by decide +kernel
theorem dX7_init_13 : decode cX7_init 13 = .ok (.newarray .int, 2) := by decide +kernel
theorem dX7_init_15 : decode cX7_init 15 = .ok (.putfield 13, 3) := by decide +kernel
theorem dX7_init_18 : decode cX7_init 18 = .ok (.aload_n 0, 1) := by decide +kernel
theorem dX7_init_19 : decode cX7_init 19 = .ok (.bipush 18, 2) := by decide +kernel
theorem dX7_init_21 : decode cX7_init 21 = .ok (.newarray .int, 2) := by decide +kernel
theorem dX7_init_23 : decode cX7_init 23 = .ok (.putfield 16, 3) := by decide +kernel
theorem dX7_init_26 : decode cX7_init 26 = .ok (.aload_n 0, 1) := by decide +kernel
theorem dX7_init_27 : decode cX7_init 27 = .ok (.sipush 500, 3) := by decide +kernel
theorem dX7_init_30 : decode cX7_init 30 = .ok (.putfield 19, 3) := by decide +kernel
theorem dX7_init_33 : decode cX7_init 33 = .ok (.aload_n 0, 1) := by decide +kernel
theorem dX7_init_34 : decode cX7_init 34 = .ok (.iconst 3, 1) := by decide +kernel
theorem dX7_init_35 : decode cX7_init 35 = .ok (.newarray .int, 2) := by decide +kernel
theorem dX7_init_37 : decode cX7_init 37 = .ok (.putfield 23, 3) := by decide +kernel
theorem dX7_init_40 : decode cX7_init 40 = .ok (.aload_n 0, 1) := by decide +kernel
theorem dX7_init_41 : decode cX7_init 41 = .ok (.bipush 27, 2) := by decide +kernel
theorem dX7_init_43 : decode cX7_init 43 = .ok (.newarray .int, 2) := by decide +kernel
theorem dX7_init_45 : decode cX7_init 45 = .ok (.putfield 26, 3) := by decide +kernel
theorem dX7_init_48 : decode cX7_init 48 = .ok (.aload_n 0, 1) := by decide +kernel
theorem dX7_init_49 : decode cX7_init 49 = .ok (.bipush 16, 2) := by decide +kernel
theorem dX7_init_51 : decode cX7_init 51 = .ok (.newarray .int, 2) := by decide +kernel
theorem dX7_init_53 : decode cX7_init 53 = .ok (.putfield 29, 3) := by decide +kernel
theorem dX7_init_56 : decode cX7_init 56 = .ok (.aload_n 0, 1) := by decide +kernel
theorem dX7_init_57 : decode cX7_init 57 = .ok (.bipush 60, 2) := by decide +kernel
theorem dX7_init_59 : decode cX7_init 59 = .ok (.newarray .int, 2) := by decide +kernel
theorem dX7_init_61 : decode cX7_init 61 = .ok (.putfield 32, 3) := by decide +kernel
theorem dX7_init_64 : decode cX7_init 64 = .ok (.aload_n 0, 1) := by decide +kernel
theorem dX7_init_65 : decode cX7_init 65 = .ok (.iconst 3, 1) := by decide +kernel
theorem dX7_init_66 : decode cX7_init 66 = .ok (.newarray .int, 2) := by decide +kernel
theorem dX7_init_68 : decode cX7_init 68 = .ok (.putfield 35, 3) := by decide +kernel
theorem dX7_init_71 : decode cX7_init 71 = .ok (.aload_n 0, 1) := by decide +kernel
theorem dX7_init_72 : decode cX7_init 72 = .ok (.bipush 27, 2) := by decide +kernel
theorem dX7_init_74 : decode cX7_init 74 = .ok (.newarray .int, 2) := by decide +kernel
theorem dX7_init_76 : decode cX7_init 76 = .ok (.putfield 38, 3) := by decide +kernel
theorem dX7_init_79 : decode cX7_init 79 = .ok (.aload_n 0, 1) := by decide +kernel
theorem dX7_init_80 : decode cX7_init 80 = .ok (.iconst 4, 1) := by decide +kernel
theorem dX7_init_81 : decode cX7_init 81 = .ok (.newarray .int, 2) := by decide +kernel
theorem dX7_init_83 : decode cX7_init 83 = .ok (.putfield 41, 3) := by decide +kernel
theorem dX7_init_86 : decode cX7_init 86 = .ok (.aload_n 0, 1) := by decide +kernel
theorem dX7_init_87 : decode cX7_init 87 = .ok (.bipush 18, 2) := by decide +kernel
theorem dX7_init_89 : decode cX7_init 89 = .ok (.newarray .int, 2) := by decide +kernel
theorem dX7_init_91 : decode cX7_init 91 = .ok (.putfield 44, 3) := by decide +kernel
theorem dX7_init_94 : decode cX7_init 94 = .ok (.aload_n 0, 1) := by decide +kernel
theorem dX7_init_95 : decode cX7_init 95 = .ok (.sipush 610, 3) := by decide +kernel
theorem dX7_init_98 : decode cX7_init 98 = .ok (.newarray .int, 2) := by decide +kernel
theorem dX7_init_100 : decode cX7_init 100 = .ok (.putfield 47, 3) := by decide +kernel
theorem dX7_init_103 : decode cX7_init 103 = .ok (.aload_n 0, 1) := by decide +kernel
theorem dX7_init_104 : decode cX7_init 104 = .ok (.sipush 1000, 3) := by decide +kernel
theorem dX7_init_107 : decode cX7_init 107 = .ok (.newarray .int, 2) := by decide +kernel
theorem dX7_init_109 : decode cX7_init 109 = .ok (.putfield 50, 3) := by decide +kernel
theorem dX7_init_112 : decode cX7_init 112 = .ok (.aload_n 0, 1) := by decide +kernel
theorem dX7_init_113 : decode cX7_init 113 = .ok (.bipush 64, 2) := by decide +kernel
theorem dX7_init_115 : decode cX7_init 115 = .ok (.newarray .int, 2) := by decide +kernel
theorem dX7_init_117 : decode cX7_init 117 = .ok (.putfield 53, 3) := by decide +kernel
theorem dX7_init_120 : decode cX7_init 120 = .ok (.aload_n 0, 1) := by decide +kernel
theorem dX7_init_121 : decode cX7_init 121 = .ok (.sipush 200, 3) := by decide +kernel
theorem dX7_init_124 : decode cX7_init 124 = .ok (.newarray .int, 2) := by decide +kernel
theorem dX7_init_126 : decode cX7_init 126 = .ok (.putfield 56, 3) := by decide +kernel
theorem dX7_init_129 : decode cX7_init 129 = .ok (.aload_n 0, 1) := by decide +kernel
theorem dX7_init_130 : decode cX7_init 130 = .ok (.iconst 2, 1) := by decide +kernel
theorem dX7_init_131 : decode cX7_init 131 = .ok (.newarray .boolean, 2) := by decide +kernel
theorem dX7_init_133 : decode cX7_init 133 = .ok (.putfield 59, 3) := by decide +kernel
theorem dX7_init_136 : decode cX7_init 136 = .ok (.iconst 0, 1) := by decide +kernel
theorem dX7_init_137 : decode cX7_init 137 = .ok (.istore_n 1, 1) := by decide +kernel
theorem dX7_init_138 : decode cX7_init 138 = .ok (.iload_n 1, 1) := by decide +kernel
theorem dX7_init_139 : decode cX7_init 139 = .ok (.iconst 4, 1) := by decide +kernel
theorem dX7_init_140 : decode cX7_init 140 = .ok (.if_icmp .ge 18, 3) := by decide +kernel
theorem dX7_init_143 : decode cX7_init 143 = .ok (.aload_n 0, 1) := by decide +kernel
theorem dX7_init_144 : decode cX7_init 144 = .ok (.getfield 7, 3) := by decide +kernel
theorem dX7_init_147 : decode cX7_init 147 = .ok (.iload_n 1, 1) := by decide +kernel
theorem dX7_init_148 : decode cX7_init 148 = .ok (.iload_n 1, 1) := by decide +kernel
theorem dX7_init_149 : decode cX7_init 149 = .ok (.iconst 1, 1) := by decide +kernel
theorem dX7_init_150 : decode cX7_init 150 = .ok (.iadd, 1) := by decide +kernel
theorem dX7_init_151 : decode cX7_init 151 = .ok (.iastore, 1) := by decide +kernel
theorem dX7_init_152 : decode cX7_init 152 = .ok (.iinc 1 1, 3) := by decide +kernel
theorem dX7_init_155 : decode cX7_init 155 = .ok (.goto (-17), 3) := by decide +kernel
theorem dX7_init_158 : decode cX7_init 158 = .ok (.return_, 1) := by decide +kernel
theorem dX7_in_0 : decode cX7_in 0 = .ok (.iload_n 0, 1) := by decide +kernel
theorem dX7_in_1 : decode cX7_in 1 = .ok (.iload_n 1, 1) := by decide +kernel
theorem dX7_in_2 : decode cX7_in 2 = .ok (.if_icmp .lt 12, 3) := by decide +kernel
theorem dX7_in_5 : decode cX7_in 5 = .ok (.iload_n 0, 1) := by decide +kernel
theorem dX7_in_6 : decode cX7_in 6 = .ok (.iload_n 2, 1) := by decide +kernel
theorem dX7_in_7 : decode cX7_in 7 = .ok (.if_icmp .gt 7, 3) := by decide +kernel
theorem dX7_in_10 : decode cX7_in 10 = .ok (.iconst 1, 1) := by decide +kernel
theorem dX7_in_11 : decode cX7_in 11 = .ok (.goto 4, 3) := by decide +kernel
theorem dX7_in_14 : decode cX7_in 14 = .ok (.iconst 0, 1) := by decide +kernel
theorem dX7_in_15 : decode cX7_in 15 = .ok (.ireturn, 1) := by decide +kernel
theorem dX7_has_0 : decode cX7_has 0 = .ok (.iload_n 0, 1) := by decide +kernel
theorem dX7_has_1 : decode cX7_has 1 = .ok (.iload_n 1, 1) := by decide +kernel
theorem dX7_has_2 : decode cX7_has 2 = .ok (.ishr, 1) := by decide +kernel
theorem dX7_has_3 : decode cX7_has 3 = .ok (.iconst 1, 1) := by decide +kernel
theorem dX7_has_4 : decode cX7_has 4 = .ok (.iand, 1) := by decide +kernel
theorem dX7_has_5 : decode cX7_has 5 = .ok (.iconst 1, 1) := by decide +kernel
theorem dX7_has_6 : decode cX7_has 6 = .ok (.if_icmp .ne 7, 3) := by decide +kernel
theorem dX7_has_9 : decode cX7_has 9 = .ok (.iconst 1, 1) := by decide +kernel
theorem dX7_has_10 : decode cX7_has 10 = .ok (.goto 4, 3) := by decide +kernel
theorem dX7_has_13 : decode cX7_has 13 = .ok (.iconst 0, 1) := by decide +kernel
theorem dX7_has_14 : decode cX7_has 14 = .ok (.ireturn, 1) := by decide +kernel
theorem dX7_bits_0 : decode cX7_bits 0 = .ok (.iconst 0, 1) := by decide +kernel
theorem dX7_bits_1 : decode cX7_bits 1 = .ok (.istore_n 1, 1) := by decide +kernel
theorem dX7_bits_2 : decode cX7_bits 2 = .ok (.iconst 0, 1) := by decide +kernel
theorem dX7_bits_3 : decode cX7_bits 3 = .ok (.istore_n 2, 1) := by decide +kernel
theorem dX7_bits_4 : decode cX7_bits 4 = .ok (.iload_n 2, 1) := by decide +kernel
theorem dX7_bits_5 : decode cX7_bits 5 = .ok (.bipush 6, 2) := by decide +kernel
theorem dX7_bits_7 : decode cX7_bits 7 = .ok (.if_icmp .ge 17, 3) := by decide +kernel
theorem dX7_bits_10 : decode cX7_bits 10 = .ok (.iload_n 1, 1) := by decide +kernel
theorem dX7_bits_11 : decode cX7_bits 11 = .ok (.iload_n 0, 1) := by decide +kernel
theorem dX7_bits_12 : decode cX7_bits 12 = .ok (.iload_n 2, 1) := by decide +kernel
theorem dX7_bits_13 : decode cX7_bits 13 = .ok (.ishr, 1) := by decide +kernel
theorem dX7_bits_14 : decode cX7_bits 14 = .ok (.iconst 1, 1) := by decide +kernel
theorem dX7_bits_15 : decode cX7_bits 15 = .ok (.iand, 1) := by decide +kernel
theorem dX7_bits_16 : decode cX7_bits 16 = .ok (.iadd, 1) := by decide +kernel
theorem dX7_bits_17 : decode cX7_bits 17 = .ok (.istore_n 1, 1) := by decide +kernel
theorem dX7_bits_18 : decode cX7_bits 18 = .ok (.iinc 2 1, 3) := by decide +kernel
theorem dX7_bits_21 : decode cX7_bits 21 = .ok (.goto (-17), 3) := by decide +kernel
theorem dX7_bits_24 : decode cX7_bits 24 = .ok (.iload_n 1, 1) := by decide +kernel
theorem dX7_bits_25 : decode cX7_bits 25 = .ok (.ireturn, 1) := by decide +kernel
set_option maxRecDepth 20000 in
theorem ggX7_wall_X7_in : GoodIn wsX7_wall wsX7_in := goodIn_r _ [6] (by decide +kernel) (by decide +kernel)
set_option maxRecDepth 20000 in
theorem gX7_wall_X7_in : GoodIn wsX7_wall (va_wsS RX7 63 yX7_in wsX7_in) := goodIn_app (goodIn_of _ (by decide +kernel)) ggX7_wall_X7_in
theorem dX7_wall_0 : decode cX7_wall 0 = .ok (.iload_n 1, 1) := by decide +kernel
theorem dX7_wall_1 : decode cX7_wall 1 = .ok (.iconst 0, 1) := by decide +kernel
theorem dX7_wall_2 : decode cX7_wall 2 = .ok (.iconst 3, 1) := by decide +kernel
theorem dX7_wall_3 : decode cX7_wall 3 = .ok (.invokestatic 63, 3) := by decide +kernel
theorem dX7_wall_6 : decode cX7_wall 6 = .ok (.ifCond .ne 5, 3) := by decide +kernel
theorem dX7_wall_9 : decode cX7_wall 9 = .ok (.iconst (-1), 1) := by decide +kernel
theorem dX7_wall_10 : decode cX7_wall 10 = .ok (.ireturn, 1) := by decide +kernel
theorem dX7_wall_11 : decode cX7_wall 11 = .ok (.iload_n 2, 1) := by decide +kernel
theorem dX7_wall_12 : decode cX7_wall 12 = .ok (.iconst 1, 1) := by decide +kernel
theorem dX7_wall_13 : decode cX7_wall 13 = .ok (.bipush 9, 2) := by decide +kernel
theorem dX7_wall_15 : decode cX7_wall 15 = .ok (.invokestatic 63, 3) := by decide +kernel
theorem dX7_wall_18 : decode cX7_wall 18 = .ok (.ifCond .eq 13, 3) := by decide +kernel
theorem dX7_wall_21 : decode cX7_wall 21 = .ok (.iload_n 3, 1) := by decide +kernel
theorem dX7_wall_22 : decode cX7_wall 22 = .ok (.iconst 0, 1) := by decide +kernel
theorem dX7_wall_23 : decode cX7_wall 23 = .ok (.bipush 9, 2) := by decide +kernel
theorem dX7_wall_25 : decode cX7_wall 25 = .ok (.invokestatic 63, 3) := by decide +kernel
theorem dX7_wall_28 : decode cX7_wall 28 = .ok (.ifCond .ne 6, 3) := by decide +kernel
theorem dX7_wall_31 : decode cX7_wall 31 = .ok (.bipush (-2), 2) := by decide +kernel
theorem dX7_wall_33 : decode cX7_wall 33 = .ok (.ireturn, 1) := by decide +kernel
theorem dX7_wall_34 : decode cX7_wall 34 = .ok (.aload_n 0, 1) := by decide +kernel
theorem dX7_wall_35 : decode cX7_wall 35 = .ok (.getfield 13, 3) := by decide +kernel
theorem dX7_wall_38 : decode cX7_wall 38 = .ok (.iload_n 1, 1) := by decide +kernel
theorem dX7_wall_39 : decode cX7_wall 39 = .ok (.iaload, 1) := by decide +kernel
theorem dX7_wall_40 : decode cX7_wall 40 = .ok (.istore 4, 2) := by decide +kernel
theorem dX7_wall_42 : decode cX7_wall 42 = .ok (.aload_n 0, 1) := by decide +kernel
theorem dX7_wall_43 : decode cX7_wall 43 = .ok (.getfield 7, 3) := by decide +kernel
theorem dX7_wall_46 : decode cX7_wall 46 = .ok (.iload_n 1, 1) := by decide +kernel
theorem dX7_wall_47 : decode cX7_wall 47 = .ok (.iload_n 2, 1) := by decide +kernel
theorem dX7_wall_48 : decode cX7_wall 48 = .ok (.iastore, 1) := by decide +kernel
theorem dX7_wall_49 : decode cX7_wall 49 = .ok (.aload_n 0, 1) := by decide +kernel
theorem dX7_wall_50 : decode cX7_wall 50 = .ok (.getfield 13, 3) := by decide +kernel
theorem dX7_wall_53 : decode cX7_wall 53 = .ok (.iload_n 1, 1) := by decide +kernel
theorem dX7_wall_54 : decode cX7_wall 54 = .ok (.iload_n 3, 1) := by decide +kernel
theorem dX7_wall_55 : decode cX7_wall 55 = .ok (.iastore, 1) := by decide +kernel
theorem dX7_wall_56 : decode cX7_wall 56 = .ok (.iload 4, 2) := by decide +kernel
theorem dX7_wall_58 : decode cX7_wall 58 = .ok (.ireturn, 1) := by decide +kernel
set_option maxRecDepth 20000 in
theorem ggX7_dress_X7_in : GoodIn wsX7_dress wsX7_in := goodIn_r _ [5] (by decide +kernel) (by decide +kernel)
set_option maxRecDepth 20000 in
theorem gX7_dress_X7_in : GoodIn wsX7_dress (va_wsS RX7 63 yX7_in wsX7_in) := goodIn_app (goodIn_of _ (by decide +kernel)) ggX7_dress_X7_in
theorem dX7_dress_0 : decode cX7_dress 0 = .ok (.iload_n 1, 1) := by decide +kernel
theorem dX7_dress_1 : decode cX7_dress 1 = .ok (.iconst 0, 1) := by decide +kernel
theorem dX7_dress_2 : decode cX7_dress 2 = .ok (.iconst 5, 1) := by decide +kernel
theorem dX7_dress_3 : decode cX7_dress 3 = .ok (.invokestatic 63, 3) := by decide +kernel
theorem dX7_dress_6 : decode cX7_dress 6 = .ok (.ifCond .ne 5, 3) := by decide +kernel
theorem dX7_dress_9 : decode cX7_dress 9 = .ok (.iconst (-1), 1) := by decide +kernel
theorem dX7_dress_10 : decode cX7_dress 10 = .ok (.ireturn, 1) := by decide +kernel
theorem dX7_dress_11 : decode cX7_dress 11 = .ok (.iload_n 2, 1) := by decide +kernel
theorem dX7_dress_12 : decode cX7_dress 12 = .ok (.iconst 0, 1) := by decide +kernel
theorem dX7_dress_13 : decode cX7_dress 13 = .ok (.bipush 99, 2) := by decide +kernel
theorem dX7_dress_15 : decode cX7_dress 15 = .ok (.invokestatic 63, 3) := by decide +kernel
theorem dX7_dress_18 : decode cX7_dress 18 = .ok (.ifCond .eq 24, 3) := by decide +kernel
theorem dX7_dress_21 : decode cX7_dress 21 = .ok (.iload_n 3, 1) := by decide +kernel
theorem dX7_dress_22 : decode cX7_dress 22 = .ok (.iconst 0, 1) := by decide +kernel
theorem dX7_dress_23 : decode cX7_dress 23 = .ok (.bipush 99, 2) := by decide +kernel
theorem dX7_dress_25 : decode cX7_dress 25 = .ok (.invokestatic 63, 3) := by decide +kernel
theorem dX7_dress_28 : decode cX7_dress 28 = .ok (.ifCond .eq 14, 3) := by decide +kernel
theorem dX7_dress_31 : decode cX7_dress 31 = .ok (.iload 4, 2) := by decide +kernel
theorem dX7_dress_33 : decode cX7_dress 33 = .ok (.iconst 0, 1) := by decide +kernel
theorem dX7_dress_34 : decode cX7_dress 34 = .ok (.bipush 99, 2) := by decide +kernel
theorem dX7_dress_36 : decode cX7_dress 36 = .ok (.invokestatic 63, 3) := by decide +kernel
theorem dX7_dress_39 : decode cX7_dress 39 = .ok (.ifCond .ne 6, 3) := by decide +kernel
theorem dX7_dress_42 : decode cX7_dress 42 = .ok (.bipush (-2), 2) := by decide +kernel
theorem dX7_dress_44 : decode cX7_dress 44 = .ok (.ireturn, 1) := by decide +kernel
theorem dX7_dress_45 : decode cX7_dress 45 = .ok (.aload_n 0, 1) := by decide +kernel
theorem dX7_dress_46 : decode cX7_dress 46 = .ok (.getfield 16, 3) := by decide +kernel
theorem dX7_dress_49 : decode cX7_dress 49 = .ok (.iconst 3, 1) := by decide +kernel
theorem dX7_dress_50 : decode cX7_dress 50 = .ok (.iload_n 1, 1) := by decide +kernel
theorem dX7_dress_51 : decode cX7_dress 51 = .ok (.imul, 1) := by decide +kernel
theorem dX7_dress_52 : decode cX7_dress 52 = .ok (.iaload, 1) := by decide +kernel
theorem dX7_dress_53 : decode cX7_dress 53 = .ok (.aload_n 0, 1) := by decide +kernel
theorem dX7_dress_54 : decode cX7_dress 54 = .ok (.getfield 16, 3) := by decide +kernel
theorem dX7_dress_57 : decode cX7_dress 57 = .ok (.iconst 3, 1) := by decide +kernel
theorem dX7_dress_58 : decode cX7_dress 58 = .ok (.iload_n 1, 1) := by decide +kernel
theorem dX7_dress_59 : decode cX7_dress 59 = .ok (.imul, 1) := by decide +kernel
theorem dX7_dress_60 : decode cX7_dress 60 = .ok (.iconst 1, 1) := by decide +kernel
theorem dX7_dress_61 : decode cX7_dress 61 = .ok (.iadd, 1) := by decide +kernel
theorem dX7_dress_62 : decode cX7_dress 62 = .ok (.iaload, 1) := by decide +kernel
theorem dX7_dress_63 : decode cX7_dress 63 = .ok (.iadd, 1) := by decide +kernel
theorem dX7_dress_64 : decode cX7_dress 64 = .ok (.aload_n 0, 1) := by decide +kernel
theorem dX7_dress_65 : decode cX7_dress 65 = .ok (.getfield 16, 3) := by decide +kernel
theorem dX7_dress_68 : decode cX7_dress 68 = .ok (.iconst 3, 1) := by decide +kernel
theorem dX7_dress_69 : decode cX7_dress 69 = .ok (.iload_n 1, 1) := by decide +kernel
theorem dX7_dress_70 : decode cX7_dress 70 = .ok (.imul, 1) := by decide +kernel
theorem dX7_dress_71 : decode cX7_dress 71 = .ok (.iconst 2, 1) := by decide +kernel
theorem dX7_dress_72 : decode cX7_dress 72 = .ok (.iadd, 1) := by decide +kernel
theorem dX7_dress_73 : decode cX7_dress 73 = .ok (.iaload, 1) := by decide +kernel
theorem dX7_dress_74 : decode cX7_dress 74 = .ok (.iadd, 1) := by decide +kernel
theorem dX7_dress_75 : decode cX7_dress 75 = .ok (.istore 5, 2) := by decide +kernel
theorem dX7_dress_77 : decode cX7_dress 77 = .ok (.aload_n 0, 1) := by decide +kernel
theorem dX7_dress_78 : decode cX7_dress 78 = .ok (.getfield 16, 3) := by decide +kernel
theorem dX7_dress_81 : decode cX7_dress 81 = .ok (.iconst 3, 1) := by decide +kernel
theorem dX7_dress_82 : decode cX7_dress 82 = .ok (.iload_n 1, 1) := by decide +kernel
theorem dX7_dress_83 : decode cX7_dress 83 = .ok (.imul, 1) := by decide +kernel
theorem dX7_dress_84 : decode cX7_dress 84 = .ok (.iload_n 2, 1) := by decide +kernel
theorem dX7_dress_85 : decode cX7_dress 85 = .ok (.iastore, 1) := by decide +kernel
theorem dX7_dress_86 : decode cX7_dress 86 = .ok (.aload_n 0, 1) := by decide +kernel
theorem dX7_dress_87 : decode cX7_dress 87 = .ok (.getfield 16, 3) := by decide +kernel
theorem dX7_dress_90 : decode cX7_dress 90 = .ok (.iconst 3, 1) := by decide +kernel
theorem dX7_dress_91 : decode cX7_dress 91 = .ok (.iload_n 1, 1) := by decide +kernel
theorem dX7_dress_92 : decode cX7_dress 92 = .ok (.imul, 1) := by decide +kernel
theorem dX7_dress_93 : decode cX7_dress 93 = .ok (.iconst 1, 1) := by decide +kernel
theorem dX7_dress_94 : decode cX7_dress 94 = .ok (.iadd, 1) := by decide +kernel
theorem dX7_dress_95 : decode cX7_dress 95 = .ok (.iload_n 3, 1) := by decide +kernel
theorem dX7_dress_96 : decode cX7_dress 96 = .ok (.iastore, 1) := by decide +kernel
theorem dX7_dress_97 : decode cX7_dress 97 = .ok (.aload_n 0, 1) := by decide +kernel
theorem dX7_dress_98 : decode cX7_dress 98 = .ok (.getfield 16, 3) := by decide +kernel
theorem dX7_dress_101 : decode cX7_dress 101 = .ok (.iconst 3, 1) := by decide +kernel
theorem dX7_dress_102 : decode cX7_dress 102 = .ok (.iload_n 1, 1) := by decide +kernel
theorem dX7_dress_103 : decode cX7_dress 103 = .ok (.imul, 1) := by decide +kernel
theorem dX7_dress_104 : decode cX7_dress 104 = .ok (.iconst 2, 1) := by decide +kernel
theorem dX7_dress_105 : decode cX7_dress 105 = .ok (.iadd, 1) := by decide +kernel
theorem dX7_dress_106 : decode cX7_dress 106 = .ok (.iload 4, 2) := by decide +kernel
theorem dX7_dress_108 : decode cX7_dress 108 = .ok (.iastore, 1) := by decide +kernel
theorem dX7_dress_109 : decode cX7_dress 109 = .ok (.iload 5, 2) := by decide +kernel
theorem dX7_dress_111 : decode cX7_dress 111 = .ok (.ireturn, 1) := by decide +kernel
set_option maxRecDepth 20000 in
theorem ggX7_limit_X7_in : GoodIn wsX7_limit wsX7_in := goodIn_r _ [5] (by decide +kernel) (by decide +kernel)
set_option maxRecDepth 20000 in
theorem gX7_limit_X7_in : GoodIn wsX7_limit (va_wsS RX7 63 yX7_in wsX7_in) := goodIn_app (goodIn_of _ (by decide +kernel)) ggX7_limit_X7_in
theorem dX7_limit_0 : decode cX7_limit 0 = .ok (.iload_n 1, 1) := by decide +kernel
theorem dX7_limit_1 : decode cX7_limit 1 = .ok (.iconst 0, 1) := by decide +kernel
theorem dX7_limit_2 : decode cX7_limit 2 = .ok (.sipush 999, 3) := by decide +kernel
theorem dX7_limit_5 : decode cX7_limit 5 = .ok (.invokestatic 63, 3) := by decide +kernel
theorem dX7_limit_8 : decode cX7_limit 8 = .ok (.ifCond .ne 6, 3) := by decide +kernel
theorem dX7_limit_11 : decode cX7_limit 11 = .ok (.bipush (-2), 2) := by decide +kernel
theorem dX7_limit_13 : decode cX7_limit 13 = .ok (.ireturn, 1) := by decide +kernel
theorem dX7_limit_14 : decode cX7_limit 14 = .ok (.aload_n 0, 1) := by decide +kernel
theorem dX7_limit_15 : decode cX7_limit 15 = .ok (.getfield 19, 3) := by decide +kernel
theorem dX7_limit_18 : decode cX7_limit 18 = .ok (.istore_n 2, 1) := by decide +kernel
theorem dX7_limit_19 : decode cX7_limit 19 = .ok (.aload_n 0, 1) := by decide +kernel
theorem dX7_limit_20 : decode cX7_limit 20 = .ok (.iload_n 1, 1) := by decide +kernel
theorem dX7_limit_21 : decode cX7_limit 21 = .ok (.putfield 19, 3) := by decide +kernel
theorem dX7_limit_24 : decode cX7_limit 24 = .ok (.iload_n 2, 1) := by decide +kernel
theorem dX7_limit_25 : decode cX7_limit 25 = .ok (.ireturn, 1) := by decide +kernel
set_option maxRecDepth 20000 in
theorem ggX7_say_X7_in : GoodIn wsX7_say wsX7_in := goodIn_r _ [6] (by decide +kernel) (by decide +kernel)
set_option maxRecDepth 20000 in
theorem gX7_say_X7_in : GoodIn wsX7_say (va_wsS RX7 63 yX7_in wsX7_in) := goodIn_app (goodIn_of _ (by decide +kernel)) ggX7_say_X7_in
theorem dX7_say_0 : decode cX7_say 0 = .ok (.iload_n 1, 1) := by decide +kernel
theorem dX7_say_1 : decode cX7_say 1 = .ok (.bipush 33, 2) := by decide +kernel
theorem dX7_say_3 : decode cX7_say 3 = .ok (.bipush 126, 2) := by decide +kernel
theorem dX7_say_5 : decode cX7_say 5 = .ok (.invokestatic 63, 3) := by decide +kernel
theorem dX7_say_8 : decode cX7_say 8 = .ok (.ifCond .ne 6, 3) := by decide +kernel
theorem dX7_say_11 : decode cX7_say 11 = .ok (.bipush (-2), 2) := by decide +kernel
theorem dX7_say_13 : decode cX7_say 13 = .ok (.ireturn, 1) := by decide +kernel
theorem dX7_say_14 : decode cX7_say 14 = .ok (.aload_n 0, 1) := by decide +kernel
theorem dX7_say_15 : decode cX7_say 15 = .ok (.getfield 67, 3) := by decide +kernel
theorem dX7_say_18 : decode cX7_say 18 = .ok (.bipush 60, 2) := by decide +kernel
theorem dX7_say_20 : decode cX7_say 20 = .ok (.if_icmp .ne 6, 3) := by decide +kernel
theorem dX7_say_23 : decode cX7_say 23 = .ok (.bipush (-4), 2) := by decide +kernel
theorem dX7_say_25 : decode cX7_say 25 = .ok (.ireturn, 1) := by decide +kernel
theorem dX7_say_26 : decode cX7_say 26 = .ok (.aload_n 0, 1) := by decide +kernel
theorem dX7_say_27 : decode cX7_say 27 = .ok (.getfield 32, 3) := by decide +kernel
theorem dX7_say_30 : decode cX7_say 30 = .ok (.aload_n 0, 1) := by decide +kernel
theorem dX7_say_31 : decode cX7_say 31 = .ok (.getfield 67, 3) := by decide +kernel
theorem dX7_say_34 : decode cX7_say 34 = .ok (.iload_n 1, 1) := by decide +kernel
theorem dX7_say_35 : decode cX7_say 35 = .ok (.iastore, 1) := by decide +kernel
theorem dX7_say_36 : decode cX7_say 36 = .ok (.aload_n 0, 1) := by decide +kernel
theorem dX7_say_37 : decode cX7_say 37 = .ok (.dup, 1) := by decide +kernel
theorem dX7_say_38 : decode cX7_say 38 = .ok (.getfield 67, 3) := by decide +kernel
theorem dX7_say_41 : decode cX7_say 41 = .ok (.iconst 1, 1) := by decide +kernel
theorem dX7_say_42 : decode cX7_say 42 = .ok (.iadd, 1) := by decide +kernel
theorem dX7_say_43 : decode cX7_say 43 = .ok (.putfield 67, 3) := by decide +kernel
theorem dX7_say_46 : decode cX7_say 46 = .ok (.aload_n 0, 1) := by decide +kernel
theorem dX7_say_47 : decode cX7_say 47 = .ok (.getfield 67, 3) := by decide +kernel
theorem dX7_say_50 : decode cX7_say 50 = .ok (.ireturn, 1) := by decide +kernel
theorem dX7_wipe_0 : decode cX7_wipe 0 = .ok (.aload_n 0, 1) := by decide +kernel
theorem dX7_wipe_1 : decode cX7_wipe 1 = .ok (.getfield 67, 3) := by decide +kernel
theorem dX7_wipe_4 : decode cX7_wipe 4 = .ok (.istore_n 1, 1) := by decide +kernel
theorem dX7_wipe_5 : decode cX7_wipe 5 = .ok (.aload_n 0, 1) := by decide +kernel
theorem dX7_wipe_6 : decode cX7_wipe 6 = .ok (.iconst 0, 1) := by decide +kernel
theorem dX7_wipe_7 : decode cX7_wipe 7 = .ok (.putfield 67, 3) := by decide +kernel
theorem dX7_wipe_10 : decode cX7_wipe 10 = .ok (.iload_n 1, 1) := by decide +kernel
theorem dX7_wipe_11 : decode cX7_wipe 11 = .ok (.ireturn, 1) := by decide +kernel
theorem dX7_colourOf_0 : decode cX7_colourOf 0 = .ok (.iload_n 0, 1) := by decide +kernel
theorem dX7_colourOf_1 : decode cX7_colourOf 1 = .ok (.bipush 114, 2) := by decide +kernel
theorem dX7_colourOf_3 : decode cX7_colourOf 3 = .ok (.if_icmp .ne 7, 3) := by decide +kernel
theorem dX7_colourOf_6 : decode cX7_colourOf 6 = .ok (.iconst 0, 1) := by decide +kernel
theorem dX7_colourOf_7 : decode cX7_colourOf 7 = .ok (.goto 25, 3) := by decide +kernel
theorem dX7_colourOf_10 : decode cX7_colourOf 10 = .ok (.iload_n 0, 1) := by decide +kernel
theorem dX7_colourOf_11 : decode cX7_colourOf 11 = .ok (.bipush 121, 2) := by decide +kernel
theorem dX7_colourOf_13 : decode cX7_colourOf 13 = .ok (.if_icmp .ne 7, 3) := by decide +kernel
theorem dX7_colourOf_16 : decode cX7_colourOf 16 = .ok (.iconst 1, 1) := by decide +kernel
theorem dX7_colourOf_17 : decode cX7_colourOf 17 = .ok (.goto 15, 3) := by decide +kernel
theorem dX7_colourOf_20 : decode cX7_colourOf 20 = .ok (.iload_n 0, 1) := by decide +kernel
theorem dX7_colourOf_21 : decode cX7_colourOf 21 = .ok (.bipush 98, 2) := by decide +kernel
theorem dX7_colourOf_23 : decode cX7_colourOf 23 = .ok (.if_icmp .ne 7, 3) := by decide +kernel
theorem dX7_colourOf_26 : decode cX7_colourOf 26 = .ok (.iconst 2, 1) := by decide +kernel
theorem dX7_colourOf_27 : decode cX7_colourOf 27 = .ok (.goto 5, 3) := by decide +kernel
theorem dX7_colourOf_30 : decode cX7_colourOf 30 = .ok (.bipush (-6), 2) := by decide +kernel
theorem dX7_colourOf_32 : decode cX7_colourOf 32 = .ok (.ireturn, 1) := by decide +kernel
set_option maxRecDepth 20000 in
theorem ggX7_faultOf_X7_colourOf : GoodIn wsX7_faultOf wsX7_colourOf := goodIn_r _ [6] (by decide +kernel) (by decide +kernel)
set_option maxRecDepth 20000 in
theorem gX7_faultOf_X7_colourOf : GoodIn wsX7_faultOf (va_wsS RX7 70 yX7_colourOf wsX7_colourOf) := goodIn_app (goodIn_of _ (by decide +kernel)) ggX7_faultOf_X7_colourOf
set_option maxRecDepth 20000 in
theorem ggX7_faultOf_X7_in : GoodIn wsX7_faultOf wsX7_in := goodIn_r _ [9] (by decide +kernel) (by decide +kernel)
set_option maxRecDepth 20000 in
theorem gX7_faultOf_X7_in : GoodIn wsX7_faultOf (va_wsS RX7 63 yX7_in wsX7_in) := goodIn_app (goodIn_of _ (by decide +kernel)) ggX7_faultOf_X7_in
theorem dX7_faultOf_0 : decode cX7_faultOf 0 = .ok (.iconst 0, 1) := by decide +kernel
theorem dX7_faultOf_1 : decode cX7_faultOf 1 = .ok (.istore_n 1, 1) := by decide +kernel
theorem dX7_faultOf_2 : decode cX7_faultOf 2 = .ok (.iconst 0, 1) := by decide +kernel
theorem dX7_faultOf_3 : decode cX7_faultOf 3 = .ok (.istore_n 2, 1) := by decide +kernel
theorem dX7_faultOf_4 : decode cX7_faultOf 4 = .ok (.iload_n 2, 1) := by decide +kernel
theorem dX7_faultOf_5 : decode cX7_faultOf 5 = .ok (.aload_n 0, 1) := by decide +kernel
theorem dX7_faultOf_6 : decode cX7_faultOf 6 = .ok (.getfield 67, 3) := by decide +kernel
theorem dX7_faultOf_9 : decode cX7_faultOf 9 = .ok (.if_icmp .ge 138, 3) := by decide +kernel
theorem dX7_faultOf_12 : decode cX7_faultOf 12 = .ok (.aload_n 0, 1) := by decide +kernel
theorem dX7_faultOf_13 : decode cX7_faultOf 13 = .ok (.getfield 32, 3) := by decide +kernel
theorem dX7_faultOf_16 : decode cX7_faultOf 16 = .ok (.iload_n 2, 1) := by decide +kernel
theorem dX7_faultOf_17 : decode cX7_faultOf 17 = .ok (.iaload, 1) := by decide +kernel
theorem dX7_faultOf_18 : decode cX7_faultOf 18 = .ok (.istore_n 3, 1) := by decide +kernel
theorem dX7_faultOf_19 : decode cX7_faultOf 19 = .ok (.iload_n 3, 1) := by decide +kernel
theorem dX7_faultOf_20 : decode cX7_faultOf 20 = .ok (.invokestatic 70, 3) := by decide +kernel
theorem dX7_faultOf_23 : decode cX7_faultOf 23 = .ok (.ifCond .ge 38, 3) := by decide +kernel
theorem dX7_faultOf_26 : decode cX7_faultOf 26 = .ok (.iload_n 3, 1) := by decide +kernel
theorem dX7_faultOf_27 : decode cX7_faultOf 27 = .ok (.bipush 65, 2) := by decide +kernel
theorem dX7_faultOf_29 : decode cX7_faultOf 29 = .ok (.bipush 70, 2) := by decide +kernel
theorem dX7_faultOf_31 : decode cX7_faultOf 31 = .ok (.invokestatic 63, 3) := by decide +kernel
theorem dX7_faultOf_34 : decode cX7_faultOf 34 = .ok (.ifCond .ne 27, 3) := by decide +kernel
theorem dX7_faultOf_37 : decode cX7_faultOf 37 = .ok (.iload_n 3, 1) := by decide +kernel
theorem dX7_faultOf_38 : decode cX7_faultOf 38 = .ok (.bipush 102, 2) := by decide +kernel
theorem dX7_faultOf_40 : decode cX7_faultOf 40 = .ok (.if_icmp .eq 21, 3) := by decide +kernel
theorem dX7_faultOf_43 : decode cX7_faultOf 43 = .ok (.iload_n 3, 1) := by decide +kernel
theorem dX7_faultOf_44 : decode cX7_faultOf 44 = .ok (.bipush 115, 2) := by decide +kernel
theorem dX7_faultOf_46 : decode cX7_faultOf 46 = .ok (.if_icmp .eq 15, 3) := by decide +kernel
theorem dX7_faultOf_49 : decode cX7_faultOf 49 = .ok (.iload_n 3, 1) := by decide +kernel
theorem dX7_faultOf_50 : decode cX7_faultOf 50 = .ok (.bipush 119, 2) := by decide +kernel
theorem dX7_faultOf_52 : decode cX7_faultOf 52 = .ok (.if_icmp .eq 9, 3) := by decide +kernel
theorem dX7_faultOf_55 : decode cX7_faultOf 55 = .ok (.iload_n 3, 1) := by decide +kernel
theorem dX7_faultOf_56 : decode cX7_faultOf 56 = .ok (.bipush 46, 2) := by decide +kernel
theorem dX7_faultOf_58 : decode cX7_faultOf 58 = .ok (.if_icmp .ne 7, 3) := by decide +kernel
theorem dX7_faultOf_61 : decode cX7_faultOf 61 = .ok (.iconst 1, 1) := by decide +kernel
theorem dX7_faultOf_62 : decode cX7_faultOf 62 = .ok (.goto 4, 3) := by decide +kernel
theorem dX7_faultOf_65 : decode cX7_faultOf 65 = .ok (.iconst 0, 1) := by decide +kernel
theorem dX7_faultOf_66 : decode cX7_faultOf 66 = .ok (.istore 4, 2) := by decide +kernel
theorem dX7_faultOf_68 : decode cX7_faultOf 68 = .ok (.iload_n 1, 1) := by decide +kernel
theorem dX7_faultOf_69 : decode cX7_faultOf 69 = .ok (.ifCond .ne 8, 3) := by decide +kernel
theorem dX7_faultOf_72 : decode cX7_faultOf 72 = .ok (.iload 4, 2) := by decide +kernel
theorem dX7_faultOf_74 : decode cX7_faultOf 74 = .ok (.goto 27, 3) := by decide +kernel
theorem dX7_faultOf_77 : decode cX7_faultOf 77 = .ok (.iload_n 1, 1) := by decide +kernel
theorem dX7_faultOf_78 : decode cX7_faultOf 78 = .ok (.iconst 1, 1) := by decide +kernel
theorem dX7_faultOf_79 : decode cX7_faultOf 79 = .ok (.if_icmp .ne 14, 3) := by decide +kernel
theorem dX7_faultOf_82 : decode cX7_faultOf 82 = .ok (.iload_n 3, 1) := by decide +kernel
theorem dX7_faultOf_83 : decode cX7_faultOf 83 = .ok (.bipush 49, 2) := by decide +kernel
theorem dX7_faultOf_85 : decode cX7_faultOf 85 = .ok (.bipush 57, 2) := by decide +kernel
theorem dX7_faultOf_87 : decode cX7_faultOf 87 = .ok (.invokestatic 63, 3) := by decide +kernel
theorem dX7_faultOf_90 : decode cX7_faultOf 90 = .ok (.goto 11, 3) := by decide +kernel
theorem dX7_faultOf_93 : decode cX7_faultOf 93 = .ok (.iload_n 3, 1) := by decide +kernel
theorem dX7_faultOf_94 : decode cX7_faultOf 94 = .ok (.bipush 48, 2) := by decide +kernel
theorem dX7_faultOf_96 : decode cX7_faultOf 96 = .ok (.bipush 51, 2) := by decide +kernel
theorem dX7_faultOf_98 : decode cX7_faultOf 98 = .ok (.invokestatic 63, 3) := by decide +kernel
theorem dX7_faultOf_101 : decode cX7_faultOf 101 = .ok (.istore 5, 2) := by decide +kernel
theorem dX7_faultOf_103 : decode cX7_faultOf 103 = .ok (.iload 5, 2) := by decide +kernel
theorem dX7_faultOf_105 : decode cX7_faultOf 105 = .ok (.ifCond .ne 5, 3) := by decide +kernel
theorem dX7_faultOf_108 : decode cX7_faultOf 108 = .ok (.iload_n 2, 1) := by decide +kernel
theorem dX7_faultOf_109 : decode cX7_faultOf 109 = .ok (.ireturn, 1) := by decide +kernel
theorem dX7_faultOf_110 : decode cX7_faultOf 110 = .ok (.iload_n 1, 1) := by decide +kernel
theorem dX7_faultOf_111 : decode cX7_faultOf 111 = .ok (.ifCond .eq 7, 3) := by decide +kernel
theorem dX7_faultOf_114 : decode cX7_faultOf 114 = .ok (.iconst 0, 1) := by decide +kernel
theorem dX7_faultOf_115 : decode cX7_faultOf 115 = .ok (.goto 25, 3) := by decide +kernel
theorem dX7_faultOf_118 : decode cX7_faultOf 118 = .ok (.iload_n 3, 1) := by decide +kernel
theorem dX7_faultOf_119 : decode cX7_faultOf 119 = .ok (.invokestatic 70, 3) := by decide +kernel
theorem dX7_faultOf_122 : decode cX7_faultOf 122 = .ok (.ifCond .lt 7, 3) := by decide +kernel
theorem dX7_faultOf_125 : decode cX7_faultOf 125 = .ok (.iconst 1, 1) := by decide +kernel
theorem dX7_faultOf_126 : decode cX7_faultOf 126 = .ok (.goto 14, 3) := by decide +kernel
theorem dX7_faultOf_129 : decode cX7_faultOf 129 = .ok (.iload_n 3, 1) := by decide +kernel
theorem dX7_faultOf_130 : decode cX7_faultOf 130 = .ok (.bipush 119, 2) := by decide +kernel
theorem dX7_faultOf_132 : decode cX7_faultOf 132 = .ok (.if_icmp .ne 7, 3) := by decide +kernel
theorem dX7_faultOf_135 : decode cX7_faultOf 135 = .ok (.iconst 2, 1) := by decide +kernel
theorem dX7_faultOf_136 : decode cX7_faultOf 136 = .ok (.goto 4, 3) := by decide +kernel
theorem dX7_faultOf_139 : decode cX7_faultOf 139 = .ok (.iconst 0, 1) := by decide +kernel
theorem dX7_faultOf_140 : decode cX7_faultOf 140 = .ok (.istore_n 1, 1) := by decide +kernel
theorem dX7_faultOf_141 : decode cX7_faultOf 141 = .ok (.iinc 2 1, 3) := by decide +kernel
theorem dX7_faultOf_144 : decode cX7_faultOf 144 = .ok (.goto (-140), 3) := by decide +kernel
theorem dX7_faultOf_147 : decode cX7_faultOf 147 = .ok (.iload_n 1, 1) := by decide +kernel
theorem dX7_faultOf_148 : decode cX7_faultOf 148 = .ok (.ifCond .ne 8, 3) := by decide +kernel
theorem dX7_faultOf_151 : decode cX7_faultOf 151 = .ok (.bipush (-6), 2) := by decide +kernel
theorem dX7_faultOf_153 : decode cX7_faultOf 153 = .ok (.goto 7, 3) := by decide +kernel
theorem dX7_faultOf_156 : decode cX7_faultOf 156 = .ok (.aload_n 0, 1) := by decide +kernel
theorem dX7_faultOf_157 : decode cX7_faultOf 157 = .ok (.getfield 67, 3) := by decide +kernel
theorem dX7_faultOf_160 : decode cX7_faultOf 160 = .ok (.ireturn, 1) := by decide +kernel
set_option maxRecDepth 20000 in
theorem ggX7_fault_X7_faultOf : GoodIn wsX7_fault wsX7_faultOf := goodIn_r _ [5, 6, 7, 8, 9, 4, 10, 11, 12, 13, 14, 15, 16, 17, 18, 19, 20, 21, 22, 23, 24, 25, 26, 27, 28, 29, 30, 31, 32, 33, 34, 35, 36, 37, 38, 39, 40, 41, 42, 43] (by decide +kernel) (by decide +kernel)
set_option maxRecDepth 20000 in
theorem gX7_fault_X7_faultOf : GoodIn wsX7_fault (wsV RX7 74 RX7 yX7_faultOf wsX7_faultOf) := goodIn_app (goodIn_of _ (by decide +kernel)) ggX7_fault_X7_faultOf
theorem dX7_fault_0 : decode cX7_fault 0 = .ok (.aload_n 0, 1) := by decide +kernel
theorem dX7_fault_1 : decode cX7_fault 1 = .ok (.invokevirtual 74, 3) := by decide +kernel
theorem dX7_fault_4 : decode cX7_fault 4 = .ok (.ireturn, 1) := by decide +kernel
theorem dX7_asNow_0 : decode cX7_asNow 0 = .ok (.iconst 0, 1) := by decide +kernel
theorem dX7_asNow_1 : decode cX7_asNow 1 = .ok (.istore_n 1, 1) := by decide +kernel
theorem dX7_asNow_2 : decode cX7_asNow 2 = .ok (.iload_n 1, 1) := by decide +kernel
theorem dX7_asNow_3 : decode cX7_asNow 3 = .ok (.iconst 3, 1) := by decide +kernel
theorem dX7_asNow_4 : decode cX7_asNow 4 = .ok (.if_icmp .ge 21, 3) := by decide +kernel
theorem dX7_asNow_7 : decode cX7_asNow 7 = .ok (.aload_n 0, 1) := by decide +kernel
theorem dX7_asNow_8 : decode cX7_asNow 8 = .ok (.getfield 35, 3) := by decide +kernel
theorem dX7_asNow_11 : decode cX7_asNow 11 = .ok (.iload_n 1, 1) := by decide +kernel
theorem dX7_asNow_12 : decode cX7_asNow 12 = .ok (.aload_n 0, 1) := by decide +kernel
theorem dX7_asNow_13 : decode cX7_asNow 13 = .ok (.getfield 23, 3) := by decide +kernel
theorem dX7_asNow_16 : decode cX7_asNow 16 = .ok (.iload_n 1, 1) := by decide +kernel
theorem dX7_asNow_17 : decode cX7_asNow 17 = .ok (.iaload, 1) := by decide +kernel
theorem dX7_asNow_18 : decode cX7_asNow 18 = .ok (.iastore, 1) := by decide +kernel
theorem dX7_asNow_19 : decode cX7_asNow 19 = .ok (.iinc 1 1, 3) := by decide +kernel
theorem dX7_asNow_22 : decode cX7_asNow 22 = .ok (.goto (-20), 3) := by decide +kernel
theorem dX7_asNow_25 : decode cX7_asNow 25 = .ok (.iconst 0, 1) := by decide +kernel
theorem dX7_asNow_26 : decode cX7_asNow 26 = .ok (.istore_n 1, 1) := by decide +kernel
theorem dX7_asNow_27 : decode cX7_asNow 27 = .ok (.iload_n 1, 1) := by decide +kernel
theorem dX7_asNow_28 : decode cX7_asNow 28 = .ok (.bipush 27, 2) := by decide +kernel
theorem dX7_asNow_30 : decode cX7_asNow 30 = .ok (.if_icmp .ge 21, 3) := by decide +kernel
theorem dX7_asNow_33 : decode cX7_asNow 33 = .ok (.aload_n 0, 1) := by decide +kernel
theorem dX7_asNow_34 : decode cX7_asNow 34 = .ok (.getfield 38, 3) := by decide +kernel
theorem dX7_asNow_37 : decode cX7_asNow 37 = .ok (.iload_n 1, 1) := by decide +kernel
theorem dX7_asNow_38 : decode cX7_asNow 38 = .ok (.aload_n 0, 1) := by decide +kernel
theorem dX7_asNow_39 : decode cX7_asNow 39 = .ok (.getfield 26, 3) := by decide +kernel
theorem dX7_asNow_42 : decode cX7_asNow 42 = .ok (.iload_n 1, 1) := by decide +kernel
theorem dX7_asNow_43 : decode cX7_asNow 43 = .ok (.iaload, 1) := by decide +kernel
theorem dX7_asNow_44 : decode cX7_asNow 44 = .ok (.iastore, 1) := by decide +kernel
theorem dX7_asNow_45 : decode cX7_asNow 45 = .ok (.iinc 1 1, 3) := by decide +kernel
theorem dX7_asNow_48 : decode cX7_asNow 48 = .ok (.goto (-21), 3) := by decide +kernel
theorem dX7_asNow_51 : decode cX7_asNow 51 = .ok (.iconst 0, 1) := by decide +kernel
theorem dX7_asNow_52 : decode cX7_asNow 52 = .ok (.istore_n 1, 1) := by decide +kernel
theorem dX7_asNow_53 : decode cX7_asNow 53 = .ok (.iload_n 1, 1) := by decide +kernel
theorem dX7_asNow_54 : decode cX7_asNow 54 = .ok (.iconst 4, 1) := by decide +kernel
theorem dX7_asNow_55 : decode cX7_asNow 55 = .ok (.if_icmp .ge 21, 3) := by decide +kernel
theorem dX7_asNow_58 : decode cX7_asNow 58 = .ok (.aload_n 0, 1) := by decide +kernel
theorem dX7_asNow_59 : decode cX7_asNow 59 = .ok (.getfield 41, 3) := by decide +kernel
theorem dX7_asNow_62 : decode cX7_asNow 62 = .ok (.iload_n 1, 1) := by decide +kernel
theorem dX7_asNow_63 : decode cX7_asNow 63 = .ok (.aload_n 0, 1) := by decide +kernel
theorem dX7_asNow_64 : decode cX7_asNow 64 = .ok (.getfield 13, 3) := by decide +kernel
theorem dX7_asNow_67 : decode cX7_asNow 67 = .ok (.iload_n 1, 1) := by decide +kernel
theorem dX7_asNow_68 : decode cX7_asNow 68 = .ok (.iaload, 1) := by decide +kernel
theorem dX7_asNow_69 : decode cX7_asNow 69 = .ok (.iastore, 1) := by decide +kernel
theorem dX7_asNow_70 : decode cX7_asNow 70 = .ok (.iinc 1 1, 3) := by decide +kernel
theorem dX7_asNow_73 : decode cX7_asNow 73 = .ok (.goto (-20), 3) := by decide +kernel
theorem dX7_asNow_76 : decode cX7_asNow 76 = .ok (.aload_n 0, 1) := by decide +kernel
theorem dX7_asNow_77 : decode cX7_asNow 77 = .ok (.aload_n 0, 1) := by decide +kernel
theorem dX7_asNow_78 : decode cX7_asNow 78 = .ok (.getfield 78, 3) := by decide +kernel
theorem dX7_asNow_81 : decode cX7_asNow 81 = .ok (.putfield 81, 3) := by decide +kernel
theorem dX7_asNow_84 : decode cX7_asNow 84 = .ok (.aload_n 0, 1) := by decide +kernel
theorem dX7_asNow_85 : decode cX7_asNow 85 = .ok (.aload_n 0, 1) := by decide +kernel
theorem dX7_asNow_86 : decode cX7_asNow 86 = .ok (.getfield 84, 3) := by decide +kernel
theorem dX7_asNow_89 : decode cX7_asNow 89 = .ok (.putfield 87, 3) := by decide +kernel
theorem dX7_asNow_92 : decode cX7_asNow 92 = .ok (.aload_n 0, 1) := by decide +kernel
theorem dX7_asNow_93 : decode cX7_asNow 93 = .ok (.aload_n 0, 1) := by decide +kernel
theorem dX7_asNow_94 : decode cX7_asNow 94 = .ok (.getfield 90, 3) := by decide +kernel
theorem dX7_asNow_97 : decode cX7_asNow 97 = .ok (.putfield 93, 3) := by decide +kernel
theorem dX7_asNow_100 : decode cX7_asNow 100 = .ok (.aload_n 0, 1) := by decide +kernel
theorem dX7_asNow_101 : decode cX7_asNow 101 = .ok (.aload_n 0, 1) := by decide +kernel
theorem dX7_asNow_102 : decode cX7_asNow 102 = .ok (.getfield 96, 3) := by decide +kernel
theorem dX7_asNow_105 : decode cX7_asNow 105 = .ok (.putfield 99, 3) := by decide +kernel
theorem dX7_asNow_108 : decode cX7_asNow 108 = .ok (.return_, 1) := by decide +kernel
set_option maxRecDepth 20000 in
theorem ggX7_empty_X7_asNow : GoodIn wsX7_empty wsX7_asNow := goodIn_r _ [9, 1, 10, 2, 11, 12, 13, 14, 3, 15, 4, 16, 17, 18, 19, 20, 21, 22, 23, 24, 25, 26, 27, 28, 29, 30, 31, 32, 33, 34, 35, 36, 37, 38, 39, 40, 41, 42, 43, 44, 45, 46, 47, 48, 49] (by decide +kernel) (by decide +kernel)
set_option maxRecDepth 20000 in
theorem gX7_empty_X7_asNow : GoodIn wsX7_empty (wsV RX7 102 RX7 yX7_asNow wsX7_asNow) := goodIn_app (goodIn_of _ (by decide +kernel)) ggX7_empty_X7_asNow
theorem dX7_empty_0 : decode cX7_empty 0 = .ok (.aload_n 0, 1) := by decide +kernel
theorem dX7_empty_1 : decode cX7_empty 1 = .ok (.invokevirtual 102, 3) := by decide +kernel
theorem dX7_empty_4 : decode cX7_empty 4 = .ok (.iconst 0, 1) := by decide +kernel
theorem dX7_empty_5 : decode cX7_empty 5 = .ok (.istore_n 1, 1) := by decide +kernel
theorem dX7_empty_6 : decode cX7_empty 6 = .ok (.iload_n 1, 1) := by decide +kernel
theorem dX7_empty_7 : decode cX7_empty 7 = .ok (.iconst 3, 1) := by decide +kernel
theorem dX7_empty_8 : decode cX7_empty 8 = .ok (.if_icmp .ge 16, 3) := by decide +kernel
theorem dX7_empty_11 : decode cX7_empty 11 = .ok (.aload_n 0, 1) := by decide +kernel
theorem dX7_empty_12 : decode cX7_empty 12 = .ok (.getfield 35, 3) := by decide +kernel
theorem dX7_empty_15 : decode cX7_empty 15 = .ok (.iload_n 1, 1) := by decide +kernel
theorem dX7_empty_16 : decode cX7_empty 16 = .ok (.iconst 0, 1) := by decide +kernel
theorem dX7_empty_17 : decode cX7_empty 17 = .ok (.iastore, 1) := by decide +kernel
theorem dX7_empty_18 : decode cX7_empty 18 = .ok (.iinc 1 1, 3) := by decide +kernel
theorem dX7_empty_21 : decode cX7_empty 21 = .ok (.goto (-15), 3) := by decide +kernel
theorem dX7_empty_24 : decode cX7_empty 24 = .ok (.iconst 0, 1) := by decide +kernel
theorem dX7_empty_25 : decode cX7_empty 25 = .ok (.istore_n 1, 1) := by decide +kernel
theorem dX7_empty_26 : decode cX7_empty 26 = .ok (.iload_n 1, 1) := by decide +kernel
theorem dX7_empty_27 : decode cX7_empty 27 = .ok (.bipush 27, 2) := by decide +kernel
theorem dX7_empty_29 : decode cX7_empty 29 = .ok (.if_icmp .ge 16, 3) := by decide +kernel
theorem dX7_empty_32 : decode cX7_empty 32 = .ok (.aload_n 0, 1) := by decide +kernel
theorem dX7_empty_33 : decode cX7_empty 33 = .ok (.getfield 38, 3) := by decide +kernel
theorem dX7_empty_36 : decode cX7_empty 36 = .ok (.iload_n 1, 1) := by decide +kernel
theorem dX7_empty_37 : decode cX7_empty 37 = .ok (.iconst 0, 1) := by decide +kernel
theorem dX7_empty_38 : decode cX7_empty 38 = .ok (.iastore, 1) := by decide +kernel
theorem dX7_empty_39 : decode cX7_empty 39 = .ok (.iinc 1 1, 3) := by decide +kernel
theorem dX7_empty_42 : decode cX7_empty 42 = .ok (.goto (-16), 3) := by decide +kernel
theorem dX7_empty_45 : decode cX7_empty 45 = .ok (.aload_n 0, 1) := by decide +kernel
theorem dX7_empty_46 : decode cX7_empty 46 = .ok (.iconst 0, 1) := by decide +kernel
theorem dX7_empty_47 : decode cX7_empty 47 = .ok (.putfield 81, 3) := by decide +kernel
theorem dX7_empty_50 : decode cX7_empty 50 = .ok (.aload_n 0, 1) := by decide +kernel
theorem dX7_empty_51 : decode cX7_empty 51 = .ok (.iconst 0, 1) := by decide +kernel
theorem dX7_empty_52 : decode cX7_empty 52 = .ok (.putfield 87, 3) := by decide +kernel
theorem dX7_empty_55 : decode cX7_empty 55 = .ok (.return_, 1) := by decide +kernel
theorem dX7_see_0 : decode cX7_see 0 = .ok (.aload_n 0, 1) := by decide +kernel
theorem dX7_see_1 : decode cX7_see 1 = .ok (.getfield 35, 3) := by decide +kernel
theorem dX7_see_4 : decode cX7_see 4 = .ok (.iload_n 1, 1) := by decide +kernel
theorem dX7_see_5 : decode cX7_see 5 = .ok (.iaload, 1) := by decide +kernel
theorem dX7_see_6 : decode cX7_see 6 = .ok (.istore_n 2, 1) := by decide +kernel
theorem dX7_see_7 : decode cX7_see 7 = .ok (.iconst 0, 1) := by decide +kernel
theorem dX7_see_8 : decode cX7_see 8 = .ok (.istore_n 3, 1) := by decide +kernel
theorem dX7_see_9 : decode cX7_see 9 = .ok (.iload_n 3, 1) := by decide +kernel
theorem dX7_see_10 : decode cX7_see 10 = .ok (.iconst 4, 1) := by decide +kernel
theorem dX7_see_11 : decode cX7_see 11 = .ok (.if_icmp .ge 52, 3) := by decide +kernel
theorem dX7_see_14 : decode cX7_see 14 = .ok (.aload_n 0, 1) := by decide +kernel
theorem dX7_see_15 : decode cX7_see 15 = .ok (.getfield 81, 3) := by decide +kernel
theorem dX7_see_18 : decode cX7_see 18 = .ok (.aload_n 0, 1) := by decide +kernel
theorem dX7_see_19 : decode cX7_see 19 = .ok (.getfield 87, 3) := by decide +kernel
theorem dX7_see_22 : decode cX7_see 22 = .ok (.iadd, 1) := by decide +kernel
theorem dX7_see_23 : decode cX7_see 23 = .ok (.ifCond .ne 40, 3) := by decide +kernel
theorem dX7_see_26 : decode cX7_see 26 = .ok (.iload_n 2, 1) := by decide +kernel
theorem dX7_see_27 : decode cX7_see 27 = .ok (.aload_n 0, 1) := by decide +kernel
theorem dX7_see_28 : decode cX7_see 28 = .ok (.getfield 41, 3) := by decide +kernel
theorem dX7_see_31 : decode cX7_see 31 = .ok (.iload_n 3, 1) := by decide +kernel
theorem dX7_see_32 : decode cX7_see 32 = .ok (.iaload, 1) := by decide +kernel
theorem dX7_see_33 : decode cX7_see 33 = .ok (.aload_n 0, 1) := by decide +kernel
theorem dX7_see_34 : decode cX7_see 34 = .ok (.getfield 38, 3) := by decide +kernel
theorem dX7_see_37 : decode cX7_see 37 = .ok (.bipush 9, 2) := by decide +kernel
theorem dX7_see_39 : decode cX7_see 39 = .ok (.iload_n 1, 1) := by decide +kernel
theorem dX7_see_40 : decode cX7_see 40 = .ok (.imul, 1) := by decide +kernel
theorem dX7_see_41 : decode cX7_see 41 = .ok (.aload_n 0, 1) := by decide +kernel
theorem dX7_see_42 : decode cX7_see 42 = .ok (.getfield 7, 3) := by decide +kernel
theorem dX7_see_45 : decode cX7_see 45 = .ok (.iload_n 3, 1) := by decide +kernel
theorem dX7_see_46 : decode cX7_see 46 = .ok (.iaload, 1) := by decide +kernel
theorem dX7_see_47 : decode cX7_see 47 = .ok (.iadd, 1) := by decide +kernel
theorem dX7_see_48 : decode cX7_see 48 = .ok (.iconst 1, 1) := by decide +kernel
theorem dX7_see_49 : decode cX7_see 49 = .ok (.isub, 1) := by decide +kernel
theorem dX7_see_50 : decode cX7_see 50 = .ok (.iaload, 1) := by decide +kernel
theorem dX7_see_51 : decode cX7_see 51 = .ok (.imul, 1) := by decide +kernel
theorem dX7_see_52 : decode cX7_see 52 = .ok (.bipush 10, 2) := by decide +kernel
theorem dX7_see_54 : decode cX7_see 54 = .ok (.idiv, 1) := by decide +kernel
theorem dX7_see_55 : decode cX7_see 55 = .ok (.iadd, 1) := by decide +kernel
theorem dX7_see_56 : decode cX7_see 56 = .ok (.istore_n 2, 1) := by decide +kernel
theorem dX7_see_57 : decode cX7_see 57 = .ok (.iinc 3 1, 3) := by decide +kernel
theorem dX7_see_60 : decode cX7_see 60 = .ok (.goto (-51), 3) := by decide +kernel
theorem dX7_see_63 : decode cX7_see 63 = .ok (.iload_n 2, 1) := by decide +kernel
theorem dX7_see_64 : decode cX7_see 64 = .ok (.sipush 999, 3) := by decide +kernel
theorem dX7_see_67 : decode cX7_see 67 = .ok (.if_icmp .le 9, 3) := by decide +kernel
theorem dX7_see_70 : decode cX7_see 70 = .ok (.sipush 999, 3) := by decide +kernel
theorem dX7_see_73 : decode cX7_see 73 = .ok (.goto 4, 3) := by decide +kernel
theorem dX7_see_76 : decode cX7_see 76 = .ok (.iload_n 2, 1) := by decide +kernel
theorem dX7_see_77 : decode cX7_see 77 = .ok (.ireturn, 1) := by decide +kernel
set_option maxRecDepth 20000 in
theorem ggX7_seeAll_X7_see : GoodIn wsX7_seeAll wsX7_see := goodIn_r _ [5, 6, 7, 8, 9, 10, 11, 12, 13, 14, 15, 16, 17, 18, 19, 20, 21, 22, 23, 24, 25, 26, 27, 28, 29, 30, 31, 32, 33, 34, 35, 36, 37, 38, 39, 40, 41] (by decide +kernel) (by decide +kernel)
set_option maxRecDepth 20000 in
theorem gX7_seeAll_X7_see : GoodIn wsX7_seeAll (wsV RX7 105 RX7 yX7_see wsX7_see) := goodIn_app (goodIn_of _ (by decide +kernel)) ggX7_seeAll_X7_see
theorem dX7_seeAll_0 : decode cX7_seeAll 0 = .ok (.aload_n 0, 1) := by decide +kernel
theorem dX7_seeAll_1 : decode cX7_seeAll 1 = .ok (.iconst 0, 1) := by decide +kernel
theorem dX7_seeAll_2 : decode cX7_seeAll 2 = .ok (.invokevirtual 105, 3) := by decide +kernel
theorem dX7_seeAll_5 : decode cX7_seeAll 5 = .ok (.aload_n 0, 1) := by decide +kernel
theorem dX7_seeAll_6 : decode cX7_seeAll 6 = .ok (.iconst 1, 1) := by decide +kernel
theorem dX7_seeAll_7 : decode cX7_seeAll 7 = .ok (.invokevirtual 105, 3) := by decide +kernel
theorem dX7_seeAll_10 : decode cX7_seeAll 10 = .ok (.iadd, 1) := by decide +kernel
theorem dX7_seeAll_11 : decode cX7_seeAll 11 = .ok (.aload_n 0, 1) := by decide +kernel
theorem dX7_seeAll_12 : decode cX7_seeAll 12 = .ok (.iconst 2, 1) := by decide +kernel
theorem dX7_seeAll_13 : decode cX7_seeAll 13 = .ok (.invokevirtual 105, 3) := by decide +kernel
theorem dX7_seeAll_16 : decode cX7_seeAll 16 = .ok (.iadd, 1) := by decide +kernel
theorem dX7_seeAll_17 : decode cX7_seeAll 17 = .ok (.ireturn, 1) := by decide +kernel
set_option maxRecDepth 20000 in
theorem ggX7_isOver_X7_see : GoodIn wsX7_isOver wsX7_see := goodIn_r _ [6, 7, 8, 9, 10, 11, 12, 13, 14, 15, 16, 17, 18, 19, 20, 21, 22, 23, 24, 25, 26, 27, 28, 29, 30, 31, 32, 33, 34, 35, 36, 37, 38, 39, 40, 41, 42] (by decide +kernel) (by decide +kernel)
set_option maxRecDepth 20000 in
theorem gX7_isOver_X7_see : GoodIn wsX7_isOver (wsV RX7 105 RX7 yX7_see wsX7_see) := goodIn_app (goodIn_of _ (by decide +kernel)) ggX7_isOver_X7_see
theorem dX7_isOver_0 : decode cX7_isOver 0 = .ok (.aload_n 0, 1) := by decide +kernel
theorem dX7_isOver_1 : decode cX7_isOver 1 = .ok (.iconst 0, 1) := by decide +kernel
theorem dX7_isOver_2 : decode cX7_isOver 2 = .ok (.invokevirtual 105, 3) := by decide +kernel
theorem dX7_isOver_5 : decode cX7_isOver 5 = .ok (.aload_n 0, 1) := by decide +kernel
theorem dX7_isOver_6 : decode cX7_isOver 6 = .ok (.getfield 19, 3) := by decide +kernel
theorem dX7_isOver_9 : decode cX7_isOver 9 = .ok (.if_icmp .gt 27, 3) := by decide +kernel
theorem dX7_isOver_12 : decode cX7_isOver 12 = .ok (.aload_n 0, 1) := by decide +kernel
theorem dX7_isOver_13 : decode cX7_isOver 13 = .ok (.iconst 1, 1) := by decide +kernel
theorem dX7_isOver_14 : decode cX7_isOver 14 = .ok (.invokevirtual 105, 3) := by decide +kernel
theorem dX7_isOver_17 : decode cX7_isOver 17 = .ok (.aload_n 0, 1) := by decide +kernel
theorem dX7_isOver_18 : decode cX7_isOver 18 = .ok (.getfield 19, 3) := by decide +kernel
theorem dX7_isOver_21 : decode cX7_isOver 21 = .ok (.if_icmp .gt 15, 3) := by decide +kernel
theorem dX7_isOver_24 : decode cX7_isOver 24 = .ok (.aload_n 0, 1) := by decide +kernel
theorem dX7_isOver_25 : decode cX7_isOver 25 = .ok (.iconst 2, 1) := by decide +kernel
theorem dX7_isOver_26 : decode cX7_isOver 26 = .ok (.invokevirtual 105, 3) := by decide +kernel
theorem dX7_isOver_29 : decode cX7_isOver 29 = .ok (.aload_n 0, 1) := by decide +kernel
theorem dX7_isOver_30 : decode cX7_isOver 30 = .ok (.getfield 19, 3) := by decide +kernel
theorem dX7_isOver_33 : decode cX7_isOver 33 = .ok (.if_icmp .le 7, 3) := by decide +kernel
theorem dX7_isOver_36 : decode cX7_isOver 36 = .ok (.iconst 1, 1) := by decide +kernel
theorem dX7_isOver_37 : decode cX7_isOver 37 = .ok (.goto 4, 3) := by decide +kernel
theorem dX7_isOver_40 : decode cX7_isOver 40 = .ok (.iconst 0, 1) := by decide +kernel
theorem dX7_isOver_41 : decode cX7_isOver 41 = .ok (.ireturn, 1) := by decide +kernel
set_option maxRecDepth 20000 in
theorem ggX7_pass_X7_see : GoodIn wsX7_pass wsX7_see := goodIn_r _ [11, 3, 4, 2, 12, 1, 13, 14, 15, 16, 17, 18, 19, 20, 21, 22, 23, 24, 25, 26, 27, 28, 29, 30, 31, 32, 33, 34, 35, 36, 37, 38, 39, 40, 41, 42, 43] (by decide +kernel) (by decide +kernel)
set_option maxRecDepth 20000 in
theorem gX7_pass_X7_see : GoodIn wsX7_pass (wsV RX7 105 RX7 yX7_see wsX7_see) := goodIn_app (goodIn_of _ (by decide +kernel)) ggX7_pass_X7_see
theorem dX7_pass_0 : decode cX7_pass 0 = .ok (.aload_n 0, 1) := by decide +kernel
theorem dX7_pass_1 : decode cX7_pass 1 = .ok (.iconst 0, 1) := by decide +kernel
theorem dX7_pass_2 : decode cX7_pass 2 = .ok (.invokevirtual 105, 3) := by decide +kernel
theorem dX7_pass_5 : decode cX7_pass 5 = .ok (.istore_n 1, 1) := by decide +kernel
theorem dX7_pass_6 : decode cX7_pass 6 = .ok (.aload_n 0, 1) := by decide +kernel
theorem dX7_pass_7 : decode cX7_pass 7 = .ok (.iconst 1, 1) := by decide +kernel
theorem dX7_pass_8 : decode cX7_pass 8 = .ok (.invokevirtual 105, 3) := by decide +kernel
theorem dX7_pass_11 : decode cX7_pass 11 = .ok (.istore_n 2, 1) := by decide +kernel
theorem dX7_pass_12 : decode cX7_pass 12 = .ok (.aload_n 0, 1) := by decide +kernel
theorem dX7_pass_13 : decode cX7_pass 13 = .ok (.iconst 2, 1) := by decide +kernel
theorem dX7_pass_14 : decode cX7_pass 14 = .ok (.invokevirtual 105, 3) := by decide +kernel
theorem dX7_pass_17 : decode cX7_pass 17 = .ok (.istore_n 3, 1) := by decide +kernel
theorem dX7_pass_18 : decode cX7_pass 18 = .ok (.bipush 26, 2) := by decide +kernel
theorem dX7_pass_20 : decode cX7_pass 20 = .ok (.istore 4, 2) := by decide +kernel
theorem dX7_pass_22 : decode cX7_pass 22 = .ok (.iload 4, 2) := by decide +kernel
theorem dX7_pass_24 : decode cX7_pass 24 = .ok (.ifCond .lt 82, 3) := by decide +kernel
theorem dX7_pass_27 : decode cX7_pass 27 = .ok (.iload 4, 2) := by decide +kernel
theorem dX7_pass_29 : decode cX7_pass 29 = .ok (.bipush 9, 2) := by decide +kernel
theorem dX7_pass_31 : decode cX7_pass 31 = .ok (.irem, 1) := by decide +kernel
theorem dX7_pass_32 : decode cX7_pass 32 = .ok (.istore 5, 2) := by decide +kernel
theorem dX7_pass_34 : decode cX7_pass 34 = .ok (.iload 4, 2) := by decide +kernel
theorem dX7_pass_36 : decode cX7_pass 36 = .ok (.bipush 9, 2) := by decide +kernel
theorem dX7_pass_38 : decode cX7_pass 38 = .ok (.idiv, 1) := by decide +kernel
theorem dX7_pass_39 : decode cX7_pass 39 = .ok (.ifCond .ne 7, 3) := by decide +kernel
theorem dX7_pass_42 : decode cX7_pass 42 = .ok (.iload_n 1, 1) := by decide +kernel
theorem dX7_pass_43 : decode cX7_pass 43 = .ok (.goto 17, 3) := by decide +kernel
theorem dX7_pass_46 : decode cX7_pass 46 = .ok (.iload 4, 2) := by decide +kernel
theorem dX7_pass_48 : decode cX7_pass 48 = .ok (.bipush 9, 2) := by decide +kernel
theorem dX7_pass_50 : decode cX7_pass 50 = .ok (.idiv, 1) := by decide +kernel
theorem dX7_pass_51 : decode cX7_pass 51 = .ok (.iconst 1, 1) := by decide +kernel
theorem dX7_pass_52 : decode cX7_pass 52 = .ok (.if_icmp .ne 7, 3) := by decide +kernel
theorem dX7_pass_55 : decode cX7_pass 55 = .ok (.iload_n 2, 1) := by decide +kernel
theorem dX7_pass_56 : decode cX7_pass 56 = .ok (.goto 4, 3) := by decide +kernel
theorem dX7_pass_59 : decode cX7_pass 59 = .ok (.iload_n 3, 1) := by decide +kernel
theorem dX7_pass_60 : decode cX7_pass 60 = .ok (.istore 6, 2) := by decide +kernel
theorem dX7_pass_62 : decode cX7_pass 62 = .ok (.aload_n 0, 1) := by decide +kernel
theorem dX7_pass_63 : decode cX7_pass 63 = .ok (.getfield 38, 3) := by decide +kernel
theorem dX7_pass_66 : decode cX7_pass 66 = .ok (.iload 4, 2) := by decide +kernel
theorem dX7_pass_68 : decode cX7_pass 68 = .ok (.iload 5, 2) := by decide +kernel
theorem dX7_pass_70 : decode cX7_pass 70 = .ok (.ifCond .ne 8, 3) := by decide +kernel
theorem dX7_pass_73 : decode cX7_pass 73 = .ok (.iload 6, 2) := by decide +kernel
theorem dX7_pass_75 : decode cX7_pass 75 = .ok (.goto 24, 3) := by decide +kernel
theorem dX7_pass_78 : decode cX7_pass 78 = .ok (.aload_n 0, 1) := by decide +kernel
theorem dX7_pass_79 : decode cX7_pass 79 = .ok (.getfield 87, 3) := by decide +kernel
theorem dX7_pass_82 : decode cX7_pass 82 = .ok (.iconst 1, 1) := by decide +kernel
theorem dX7_pass_83 : decode cX7_pass 83 = .ok (.if_icmp .ne 7, 3) := by decide +kernel
theorem dX7_pass_86 : decode cX7_pass 86 = .ok (.iconst 0, 1) := by decide +kernel
theorem dX7_pass_87 : decode cX7_pass 87 = .ok (.goto 12, 3) := by decide +kernel
theorem dX7_pass_90 : decode cX7_pass 90 = .ok (.aload_n 0, 1) := by decide +kernel
theorem dX7_pass_91 : decode cX7_pass 91 = .ok (.getfield 38, 3) := by decide +kernel
theorem dX7_pass_94 : decode cX7_pass 94 = .ok (.iload 4, 2) := by decide +kernel
theorem dX7_pass_96 : decode cX7_pass 96 = .ok (.iconst 1, 1) := by decide +kernel
theorem dX7_pass_97 : decode cX7_pass 97 = .ok (.isub, 1) := by decide +kernel
theorem dX7_pass_98 : decode cX7_pass 98 = .ok (.iaload, 1) := by decide +kernel
theorem dX7_pass_99 : decode cX7_pass 99 = .ok (.iastore, 1) := by decide +kernel
theorem dX7_pass_100 : decode cX7_pass 100 = .ok (.iinc 4 (-1), 3) := by decide +kernel
theorem dX7_pass_103 : decode cX7_pass 103 = .ok (.goto (-81), 3) := by decide +kernel
theorem dX7_pass_106 : decode cX7_pass 106 = .ok (.iconst 0, 1) := by decide +kernel
theorem dX7_pass_107 : decode cX7_pass 107 = .ok (.istore 4, 2) := by decide +kernel
theorem dX7_pass_109 : decode cX7_pass 109 = .ok (.iload 4, 2) := by decide +kernel
theorem dX7_pass_111 : decode cX7_pass 111 = .ok (.iconst 3, 1) := by decide +kernel
theorem dX7_pass_112 : decode cX7_pass 112 = .ok (.if_icmp .ge 17, 3) := by decide +kernel
theorem dX7_pass_115 : decode cX7_pass 115 = .ok (.aload_n 0, 1) := by decide +kernel
theorem dX7_pass_116 : decode cX7_pass 116 = .ok (.getfield 35, 3) := by decide +kernel
theorem dX7_pass_119 : decode cX7_pass 119 = .ok (.iload 4, 2) := by decide +kernel
theorem dX7_pass_121 : decode cX7_pass 121 = .ok (.iconst 0, 1) := by decide +kernel
theorem dX7_pass_122 : decode cX7_pass 122 = .ok (.iastore, 1) := by decide +kernel
theorem dX7_pass_123 : decode cX7_pass 123 = .ok (.iinc 4 1, 3) := by decide +kernel
theorem dX7_pass_126 : decode cX7_pass 126 = .ok (.goto (-17), 3) := by decide +kernel
theorem dX7_pass_129 : decode cX7_pass 129 = .ok (.aload_n 0, 1) := by decide +kernel
theorem dX7_pass_130 : decode cX7_pass 130 = .ok (.iconst 0, 1) := by decide +kernel
theorem dX7_pass_131 : decode cX7_pass 131 = .ok (.putfield 81, 3) := by decide +kernel
theorem dX7_pass_134 : decode cX7_pass 134 = .ok (.aload_n 0, 1) := by decide +kernel
theorem dX7_pass_135 : decode cX7_pass 135 = .ok (.iconst 0, 1) := by decide +kernel
theorem dX7_pass_136 : decode cX7_pass 136 = .ok (.putfield 87, 3) := by decide +kernel
theorem dX7_pass_139 : decode cX7_pass 139 = .ok (.aload_n 0, 1) := by decide +kernel
theorem dX7_pass_140 : decode cX7_pass 140 = .ok (.iconst 0, 1) := by decide +kernel
theorem dX7_pass_141 : decode cX7_pass 141 = .ok (.putfield 93, 3) := by decide +kernel
theorem dX7_pass_144 : decode cX7_pass 144 = .ok (.aload_n 0, 1) := by decide +kernel
theorem dX7_pass_145 : decode cX7_pass 145 = .ok (.dup, 1) := by decide +kernel
theorem dX7_pass_146 : decode cX7_pass 146 = .ok (.getfield 99, 3) := by decide +kernel
theorem dX7_pass_149 : decode cX7_pass 149 = .ok (.iconst 1, 1) := by decide +kernel
theorem dX7_pass_150 : decode cX7_pass 150 = .ok (.iadd, 1) := by decide +kernel
theorem dX7_pass_151 : decode cX7_pass 151 = .ok (.putfield 99, 3) := by decide +kernel
theorem dX7_pass_154 : decode cX7_pass 154 = .ok (.return_, 1) := by decide +kernel
set_option maxRecDepth 20000 in
theorem ggX7_waits_X7_pass : GoodIn wsX7_waits wsX7_pass := goodIn_r _ [5, 6, 7, 8, 9, 10, 11, 12, 13, 14, 4, 15, 16, 17, 18, 19, 20, 21, 22, 23, 24, 25, 26, 27, 28, 29, 30, 31, 32, 33, 34, 35, 36, 37, 38, 39, 40, 41, 42, 43, 44, 45, 46, 47] (by decide +kernel) (by decide +kernel)
set_option maxRecDepth 20000 in
theorem gX7_waits_X7_pass : GoodIn wsX7_waits (wsV RX7 108 RX7 yX7_pass wsX7_pass) := goodIn_app (goodIn_of _ (by decide +kernel)) ggX7_waits_X7_pass
theorem dX7_waits_0 : decode cX7_waits 0 = .ok (.iconst 0, 1) := by decide +kernel
theorem dX7_waits_1 : decode cX7_waits 1 = .ok (.istore_n 2, 1) := by decide +kernel
theorem dX7_waits_2 : decode cX7_waits 2 = .ok (.iload_n 2, 1) := by decide +kernel
theorem dX7_waits_3 : decode cX7_waits 3 = .ok (.iload_n 1, 1) := by decide +kernel
theorem dX7_waits_4 : decode cX7_waits 4 = .ok (.if_icmp .ge 13, 3) := by decide +kernel
theorem dX7_waits_7 : decode cX7_waits 7 = .ok (.aload_n 0, 1) := by decide +kernel
theorem dX7_waits_8 : decode cX7_waits 8 = .ok (.invokevirtual 108, 3) := by decide +kernel
theorem dX7_waits_11 : decode cX7_waits 11 = .ok (.iinc 2 1, 3) := by decide +kernel
theorem dX7_waits_14 : decode cX7_waits 14 = .ok (.goto (-12), 3) := by decide +kernel
theorem dX7_waits_17 : decode cX7_waits 17 = .ok (.return_, 1) := by decide +kernel
theorem dX7_wear_0 : decode cX7_wear 0 = .ok (.iconst 0, 1) := by decide +kernel
theorem dX7_wear_1 : decode cX7_wear 1 = .ok (.istore_n 2, 1) := by decide +kernel
theorem dX7_wear_2 : decode cX7_wear 2 = .ok (.iload_n 2, 1) := by decide +kernel
theorem dX7_wear_3 : decode cX7_wear 3 = .ok (.iconst 3, 1) := by decide +kernel
theorem dX7_wear_4 : decode cX7_wear 4 = .ok (.if_icmp .ge 28, 3) := by decide +kernel
theorem dX7_wear_7 : decode cX7_wear 7 = .ok (.aload_n 0, 1) := by decide +kernel
theorem dX7_wear_8 : decode cX7_wear 8 = .ok (.getfield 35, 3) := by decide +kernel
theorem dX7_wear_11 : decode cX7_wear 11 = .ok (.iload_n 2, 1) := by decide +kernel
theorem dX7_wear_12 : decode cX7_wear 12 = .ok (.dup2, 1) := by decide +kernel
theorem dX7_wear_13 : decode cX7_wear 13 = .ok (.iaload, 1) := by decide +kernel
theorem dX7_wear_14 : decode cX7_wear 14 = .ok (.aload_n 0, 1) := by decide +kernel
theorem dX7_wear_15 : decode cX7_wear 15 = .ok (.getfield 16, 3) := by decide +kernel
theorem dX7_wear_18 : decode cX7_wear 18 = .ok (.iconst 3, 1) := by decide +kernel
theorem dX7_wear_19 : decode cX7_wear 19 = .ok (.iload_n 1, 1) := by decide +kernel
theorem dX7_wear_20 : decode cX7_wear 20 = .ok (.imul, 1) := by decide +kernel
theorem dX7_wear_21 : decode cX7_wear 21 = .ok (.iload_n 2, 1) := by decide +kernel
theorem dX7_wear_22 : decode cX7_wear 22 = .ok (.iadd, 1) := by decide +kernel
theorem dX7_wear_23 : decode cX7_wear 23 = .ok (.iaload, 1) := by decide +kernel
theorem dX7_wear_24 : decode cX7_wear 24 = .ok (.iadd, 1) := by decide +kernel
theorem dX7_wear_25 : decode cX7_wear 25 = .ok (.iastore, 1) := by decide +kernel
theorem dX7_wear_26 : decode cX7_wear 26 = .ok (.iinc 2 1, 3) := by decide +kernel
theorem dX7_wear_29 : decode cX7_wear 29 = .ok (.goto (-27), 3) := by decide +kernel
theorem dX7_wear_32 : decode cX7_wear 32 = .ok (.return_, 1) := by decide +kernel
set_option maxRecDepth 20000 in
theorem ggX7_whyNotWear_X7_has : GoodIn wsX7_whyNotWear wsX7_has := goodIn_r _ [7] (by decide +kernel) (by decide +kernel)
set_option maxRecDepth 20000 in
theorem gX7_whyNotWear_X7_has : GoodIn wsX7_whyNotWear (va_wsS RX7 111 yX7_has wsX7_has) := goodIn_app (goodIn_of _ (by decide +kernel)) ggX7_whyNotWear_X7_has
theorem dX7_whyNotWear_0 : decode cX7_whyNotWear 0 = .ok (.iconst 0, 1) := by decide +kernel
theorem dX7_whyNotWear_1 : decode cX7_whyNotWear 1 = .ok (.istore_n 2, 1) := by decide +kernel
theorem dX7_whyNotWear_2 : decode cX7_whyNotWear 2 = .ok (.iconst 0, 1) := by decide +kernel
theorem dX7_whyNotWear_3 : decode cX7_whyNotWear 3 = .ok (.istore_n 3, 1) := by decide +kernel
theorem dX7_whyNotWear_4 : decode cX7_whyNotWear 4 = .ok (.iload_n 3, 1) := by decide +kernel
theorem dX7_whyNotWear_5 : decode cX7_whyNotWear 5 = .ok (.iconst 3, 1) := by decide +kernel
theorem dX7_whyNotWear_6 : decode cX7_whyNotWear 6 = .ok (.if_icmp .ge 42, 3) := by decide +kernel
theorem dX7_whyNotWear_9 : decode cX7_whyNotWear 9 = .ok (.iload_n 2, 1) := by decide +kernel
theorem dX7_whyNotWear_10 : decode cX7_whyNotWear 10 = .ok (.ifCond .ne 26, 3) := by decide +kernel
theorem dX7_whyNotWear_13 : decode cX7_whyNotWear 13 = .ok (.aload_n 0, 1) := by decide +kernel
theorem dX7_whyNotWear_14 : decode cX7_whyNotWear 14 = .ok (.getfield 35, 3) := by decide +kernel
theorem dX7_whyNotWear_17 : decode cX7_whyNotWear 17 = .ok (.iload_n 3, 1) := by decide +kernel
theorem dX7_whyNotWear_18 : decode cX7_whyNotWear 18 = .ok (.iaload, 1) := by decide +kernel
theorem dX7_whyNotWear_19 : decode cX7_whyNotWear 19 = .ok (.aload_n 0, 1) := by decide +kernel
theorem dX7_whyNotWear_20 : decode cX7_whyNotWear 20 = .ok (.getfield 16, 3) := by decide +kernel
theorem dX7_whyNotWear_23 : decode cX7_whyNotWear 23 = .ok (.iconst 3, 1) := by decide +kernel
theorem dX7_whyNotWear_24 : decode cX7_whyNotWear 24 = .ok (.iload_n 1, 1) := by decide +kernel
theorem dX7_whyNotWear_25 : decode cX7_whyNotWear 25 = .ok (.imul, 1) := by decide +kernel
theorem dX7_whyNotWear_26 : decode cX7_whyNotWear 26 = .ok (.iload_n 3, 1) := by decide +kernel
theorem dX7_whyNotWear_27 : decode cX7_whyNotWear 27 = .ok (.iadd, 1) := by decide +kernel
theorem dX7_whyNotWear_28 : decode cX7_whyNotWear 28 = .ok (.iaload, 1) := by decide +kernel
theorem dX7_whyNotWear_29 : decode cX7_whyNotWear 29 = .ok (.iadd, 1) := by decide +kernel
theorem dX7_whyNotWear_30 : decode cX7_whyNotWear 30 = .ok (.sipush 999, 3) := by decide +kernel
theorem dX7_whyNotWear_33 : decode cX7_whyNotWear 33 = .ok (.if_icmp .le 7, 3) := by decide +kernel
theorem dX7_whyNotWear_36 : decode cX7_whyNotWear 36 = .ok (.iconst 1, 1) := by decide +kernel
theorem dX7_whyNotWear_37 : decode cX7_whyNotWear 37 = .ok (.goto 4, 3) := by decide +kernel
theorem dX7_whyNotWear_40 : decode cX7_whyNotWear 40 = .ok (.iconst 0, 1) := by decide +kernel
theorem dX7_whyNotWear_41 : decode cX7_whyNotWear 41 = .ok (.istore_n 2, 1) := by decide +kernel
theorem dX7_whyNotWear_42 : decode cX7_whyNotWear 42 = .ok (.iinc 3 1, 3) := by decide +kernel
theorem dX7_whyNotWear_45 : decode cX7_whyNotWear 45 = .ok (.goto (-41), 3) := by decide +kernel
theorem dX7_whyNotWear_48 : decode cX7_whyNotWear 48 = .ok (.iload_n 2, 1) := by decide +kernel
theorem dX7_whyNotWear_49 : decode cX7_whyNotWear 49 = .ok (.ifCond .eq 7, 3) := by decide +kernel
theorem dX7_whyNotWear_52 : decode cX7_whyNotWear 52 = .ok (.iconst 1, 1) := by decide +kernel
theorem dX7_whyNotWear_53 : decode cX7_whyNotWear 53 = .ok (.goto 19, 3) := by decide +kernel
theorem dX7_whyNotWear_56 : decode cX7_whyNotWear 56 = .ok (.aload_n 0, 1) := by decide +kernel
theorem dX7_whyNotWear_57 : decode cX7_whyNotWear 57 = .ok (.getfield 93, 3) := by decide +kernel
theorem dX7_whyNotWear_60 : decode cX7_whyNotWear 60 = .ok (.iload_n 1, 1) := by decide +kernel
theorem dX7_whyNotWear_61 : decode cX7_whyNotWear 61 = .ok (.invokestatic 111, 3) := by decide +kernel
theorem dX7_whyNotWear_64 : decode cX7_whyNotWear 64 = .ok (.ifCond .eq 7, 3) := by decide +kernel
theorem dX7_whyNotWear_67 : decode cX7_whyNotWear 67 = .ok (.iconst 2, 1) := by decide +kernel
theorem dX7_whyNotWear_68 : decode cX7_whyNotWear 68 = .ok (.goto 4, 3) := by decide +kernel
theorem dX7_whyNotWear_71 : decode cX7_whyNotWear 71 = .ok (.iconst 0, 1) := by decide +kernel
theorem dX7_whyNotWear_72 : decode cX7_whyNotWear 72 = .ok (.ireturn, 1) := by decide +kernel
set_option maxRecDepth 20000 in
theorem ggX7_note_X7_isOver : GoodIn wsX7_note wsX7_isOver := goodIn_r _ [8, 9, 10, 11, 12, 7, 13, 14, 15, 16, 17, 18, 19, 20, 21, 22, 23, 24, 25, 26, 27, 28, 29, 30, 31, 32, 33, 34, 35, 36, 37, 38, 39, 40, 41, 42, 43, 44, 45, 46, 47, 48, 49] (by decide +kernel) (by decide +kernel)
set_option maxRecDepth 20000 in
theorem gX7_note_X7_isOver : GoodIn wsX7_note (wsV RX7 118 RX7 yX7_isOver wsX7_isOver) := goodIn_app (goodIn_of _ (by decide +kernel)) ggX7_note_X7_isOver
theorem dX7_note_0 : decode cX7_note 0 = .ok (.aload_n 0, 1) := by decide +kernel
theorem dX7_note_1 : decode cX7_note 1 = .ok (.aload_n 0, 1) := by decide +kernel
theorem dX7_note_2 : decode cX7_note 2 = .ok (.getfield 115, 3) := by decide +kernel
theorem dX7_note_5 : decode cX7_note 5 = .ok (.ifCond .ge 22, 3) := by decide +kernel
theorem dX7_note_8 : decode cX7_note 8 = .ok (.aload_n 0, 1) := by decide +kernel
theorem dX7_note_9 : decode cX7_note 9 = .ok (.invokevirtual 118, 3) := by decide +kernel
theorem dX7_note_12 : decode cX7_note 12 = .ok (.ifCond .eq 15, 3) := by decide +kernel
theorem dX7_note_15 : decode cX7_note 15 = .ok (.aload_n 0, 1) := by decide +kernel
theorem dX7_note_16 : decode cX7_note 16 = .ok (.getfield 99, 3) := by decide +kernel
theorem dX7_note_19 : decode cX7_note 19 = .ok (.aload_n 0, 1) := by decide +kernel
theorem dX7_note_20 : decode cX7_note 20 = .ok (.getfield 96, 3) := by decide +kernel
theorem dX7_note_23 : decode cX7_note 23 = .ok (.isub, 1) := by decide +kernel
theorem dX7_note_24 : decode cX7_note 24 = .ok (.goto 7, 3) := by decide +kernel
theorem dX7_note_27 : decode cX7_note 27 = .ok (.aload_n 0, 1) := by decide +kernel
theorem dX7_note_28 : decode cX7_note 28 = .ok (.getfield 115, 3) := by decide +kernel
theorem dX7_note_31 : decode cX7_note 31 = .ok (.putfield 115, 3) := by decide +kernel
theorem dX7_note_34 : decode cX7_note 34 = .ok (.return_, 1) := by decide +kernel
set_option maxRecDepth 20000 in
theorem ggX7_goDays_X7_asNow : GoodIn wsX7_goDays wsX7_asNow := goodIn_r _ [16, 6, 17, 18, 19, 7, 20, 21, 8, 22, 9, 23, 11, 24, 10, 58, 59, 60, 61, 62, 63, 64, 65, 66, 67, 68, 69, 70, 71, 72, 73, 74, 75, 76, 77, 78, 79, 80, 81, 82, 83, 84, 85, 86, 87] (by decide +kernel) (by decide +kernel)
set_option maxRecDepth 20000 in
theorem gX7_goDays_X7_asNow : GoodIn wsX7_goDays (wsV RX7 102 RX7 yX7_asNow wsX7_asNow) := goodIn_app (goodIn_of _ (by decide +kernel)) ggX7_goDays_X7_asNow
set_option maxRecDepth 20000 in
theorem ggX7_goDays_X7_colourOf : GoodIn wsX7_goDays wsX7_colourOf := goodIn_r _ [27] (by decide +kernel) (by decide +kernel)
set_option maxRecDepth 20000 in
theorem gX7_goDays_X7_colourOf : GoodIn wsX7_goDays (va_wsS RX7 70 yX7_colourOf wsX7_colourOf) := goodIn_app (goodIn_of _ (by decide +kernel)) ggX7_goDays_X7_colourOf
set_option maxRecDepth 20000 in
theorem ggX7_goDays_X7_note : GoodIn wsX7_goDays wsX7_note := goodIn_r _ [31, 2, 10, 24, 32, 33, 34, 15, 35, 36, 37, 38, 39, 40, 6, 8, 9, 7, 18, 41, 58, 59, 60, 61, 62, 63, 64, 65, 66, 67, 68, 69, 70, 71, 72, 73, 74, 75, 76, 77, 78, 79, 80, 81, 82, 83, 84, 85, 86, 87] (by decide +kernel) (by decide +kernel)
set_option maxRecDepth 20000 in
theorem gX7_goDays_X7_note : GoodIn wsX7_goDays (wsV RX7 128 RX7 yX7_note wsX7_note) := goodIn_app (goodIn_of _ (by decide +kernel)) ggX7_goDays_X7_note
set_option maxRecDepth 20000 in
theorem ggX7_goDays_X7_pass : GoodIn wsX7_goDays wsX7_pass := goodIn_r _ [45, 18, 9, 6, 8, 11, 10, 37, 38, 39, 15, 40, 7, 41, 58, 59, 60, 61, 62, 63, 64, 65, 66, 67, 68, 69, 70, 71, 72, 73, 74, 75, 76, 77, 78, 79, 80, 81, 82, 83, 84, 85, 86, 87] (by decide +kernel) (by decide +kernel)
set_option maxRecDepth 20000 in
theorem gX7_goDays_X7_pass : GoodIn wsX7_goDays (wsV RX7 108 RX7 yX7_pass wsX7_pass) := goodIn_app (goodIn_of _ (by decide +kernel)) ggX7_goDays_X7_pass
set_option maxRecDepth 20000 in
theorem ggX7_goDays_X7_whyNotWear : GoodIn wsX7_goDays wsX7_whyNotWear := goodIn_r _ [49, 6, 50, 11, 51, 52, 15, 53, 58, 59, 60, 61, 62, 63, 64, 65, 66, 67, 68, 69, 70, 71, 72, 73, 74, 75, 76, 77, 78, 79, 80, 81, 82, 83, 84, 85, 86, 87] (by decide +kernel) (by decide +kernel)
set_option maxRecDepth 20000 in
theorem gX7_goDays_X7_whyNotWear : GoodIn wsX7_goDays (wsV RX7 131 RX7 yX7_whyNotWear wsX7_whyNotWear) := goodIn_app (goodIn_of _ (by decide +kernel)) ggX7_goDays_X7_whyNotWear
set_option maxRecDepth 20000 in
theorem ggX7_goDays_X7_wear : GoodIn wsX7_goDays wsX7_wear := goodIn_r _ [57, 6, 50, 58, 59, 60, 61, 62, 63, 64, 65, 66, 67, 68, 69, 70, 71, 72, 73, 74, 75, 76, 77, 78, 79, 80, 81, 82, 83, 84, 85, 86, 87] (by decide +kernel) (by decide +kernel)
set_option maxRecDepth 20000 in
theorem gX7_goDays_X7_wear : GoodIn wsX7_goDays (wsV RX7 134 RX7 yX7_wear wsX7_wear) := goodIn_app (goodIn_of _ (by decide +kernel)) ggX7_goDays_X7_wear
theorem dX7_goDays_0 : decode cX7_goDays 0 = .ok (.aload_n 0, 1) := by decide +kernel
theorem dX7_goDays_1 : decode cX7_goDays 1 = .ok (.invokevirtual 102, 3) := by decide +kernel
theorem dX7_goDays_4 : decode cX7_goDays 4 = .ok (.aload_n 0, 1) := by decide +kernel
theorem dX7_goDays_5 : decode cX7_goDays 5 = .ok (.iconst 0, 1) := by decide +kernel
theorem dX7_goDays_6 : decode cX7_goDays 6 = .ok (.putfield 122, 3) := by decide +kernel
theorem dX7_goDays_9 : decode cX7_goDays 9 = .ok (.aload_n 0, 1) := by decide +kernel
theorem dX7_goDays_10 : decode cX7_goDays 10 = .ok (.bipush (-6), 2) := by decide +kernel
theorem dX7_goDays_12 : decode cX7_goDays 12 = .ok (.putfield 115, 3) := by decide +kernel
theorem dX7_goDays_15 : decode cX7_goDays 15 = .ok (.iconst 0, 1) := by decide +kernel
theorem dX7_goDays_16 : decode cX7_goDays 16 = .ok (.istore_n 1, 1) := by decide +kernel
theorem dX7_goDays_17 : decode cX7_goDays 17 = .ok (.iload_n 1, 1) := by decide +kernel
theorem dX7_goDays_18 : decode cX7_goDays 18 = .ok (.aload_n 0, 1) := by decide +kernel
theorem dX7_goDays_19 : decode cX7_goDays 19 = .ok (.getfield 67, 3) := by decide +kernel
theorem dX7_goDays_22 : decode cX7_goDays 22 = .ok (.if_icmp .ge 293, 3) := by decide +kernel
theorem dX7_goDays_25 : decode cX7_goDays 25 = .ok (.aload_n 0, 1) := by decide +kernel
theorem dX7_goDays_26 : decode cX7_goDays 26 = .ok (.getfield 32, 3) := by decide +kernel
theorem dX7_goDays_29 : decode cX7_goDays 29 = .ok (.iload_n 1, 1) := by decide +kernel
theorem dX7_goDays_30 : decode cX7_goDays 30 = .ok (.iaload, 1) := by decide +kernel
theorem dX7_goDays_31 : decode cX7_goDays 31 = .ok (.istore_n 2, 1) := by decide +kernel
theorem dX7_goDays_32 : decode cX7_goDays 32 = .ok (.iload_n 2, 1) := by decide +kernel
theorem dX7_goDays_33 : decode cX7_goDays 33 = .ok (.invokestatic 70, 3) := by decide +kernel
theorem dX7_goDays_36 : decode cX7_goDays 36 = .ok (.istore_n 3, 1) := by decide +kernel
theorem dX7_goDays_37 : decode cX7_goDays 37 = .ok (.aload_n 0, 1) := by decide +kernel
theorem dX7_goDays_38 : decode cX7_goDays 38 = .ok (.iconst 0, 1) := by decide +kernel
theorem dX7_goDays_39 : decode cX7_goDays 39 = .ok (.putfield 125, 3) := by decide +kernel
theorem dX7_goDays_42 : decode cX7_goDays 42 = .ok (.iload_n 3, 1) := by decide +kernel
theorem dX7_goDays_43 : decode cX7_goDays 43 = .ok (.ifCond .lt 69, 3) := by decide +kernel
theorem dX7_goDays_46 : decode cX7_goDays 46 = .ok (.iinc 1 1, 3) := by decide +kernel
theorem dX7_goDays_49 : decode cX7_goDays 49 = .ok (.bipush 10, 2) := by decide +kernel
theorem dX7_goDays_51 : decode cX7_goDays 51 = .ok (.aload_n 0, 1) := by decide +kernel
theorem dX7_goDays_52 : decode cX7_goDays 52 = .ok (.getfield 32, 3) := by decide +kernel
theorem dX7_goDays_55 : decode cX7_goDays 55 = .ok (.iload_n 1, 1) := by decide +kernel
theorem dX7_goDays_56 : decode cX7_goDays 56 = .ok (.iaload, 1) := by decide +kernel
theorem dX7_goDays_57 : decode cX7_goDays 57 = .ok (.bipush 48, 2) := by decide +kernel
theorem dX7_goDays_59 : decode cX7_goDays 59 = .ok (.isub, 1) := by decide +kernel
theorem dX7_goDays_60 : decode cX7_goDays 60 = .ok (.imul, 1) := by decide +kernel
theorem dX7_goDays_61 : decode cX7_goDays 61 = .ok (.istore 4, 2) := by decide +kernel
theorem dX7_goDays_63 : decode cX7_goDays 63 = .ok (.aload_n 0, 1) := by decide +kernel
theorem dX7_goDays_64 : decode cX7_goDays 64 = .ok (.aload_n 0, 1) := by decide +kernel
theorem dX7_goDays_65 : decode cX7_goDays 65 = .ok (.getfield 35, 3) := by decide +kernel
theorem dX7_goDays_68 : decode cX7_goDays 68 = .ok (.iload_n 3, 1) := by decide +kernel
theorem dX7_goDays_69 : decode cX7_goDays 69 = .ok (.iaload, 1) := by decide +kernel
theorem dX7_goDays_70 : decode cX7_goDays 70 = .ok (.iload 4, 2) := by decide +kernel
theorem dX7_goDays_72 : decode cX7_goDays 72 = .ok (.iadd, 1) := by decide +kernel
theorem dX7_goDays_73 : decode cX7_goDays 73 = .ok (.sipush 999, 3) := by decide +kernel
theorem dX7_goDays_76 : decode cX7_goDays 76 = .ok (.if_icmp .le 7, 3) := by decide +kernel
theorem dX7_goDays_79 : decode cX7_goDays 79 = .ok (.iconst 1, 1) := by decide +kernel
theorem dX7_goDays_80 : decode cX7_goDays 80 = .ok (.goto 4, 3) := by decide +kernel
theorem dX7_goDays_83 : decode cX7_goDays 83 = .ok (.iconst 0, 1) := by decide +kernel
theorem dX7_goDays_84 : decode cX7_goDays 84 = .ok (.putfield 125, 3) := by decide +kernel
theorem dX7_goDays_87 : decode cX7_goDays 87 = .ok (.aload_n 0, 1) := by decide +kernel
theorem dX7_goDays_88 : decode cX7_goDays 88 = .ok (.getfield 35, 3) := by decide +kernel
theorem dX7_goDays_91 : decode cX7_goDays 91 = .ok (.iload_n 3, 1) := by decide +kernel
theorem dX7_goDays_92 : decode cX7_goDays 92 = .ok (.dup2, 1) := by decide +kernel
theorem dX7_goDays_93 : decode cX7_goDays 93 = .ok (.iaload, 1) := by decide +kernel
theorem dX7_goDays_94 : decode cX7_goDays 94 = .ok (.aload_n 0, 1) := by decide +kernel
theorem dX7_goDays_95 : decode cX7_goDays 95 = .ok (.getfield 125, 3) := by decide +kernel
theorem dX7_goDays_98 : decode cX7_goDays 98 = .ok (.ifCond .ne 8, 3) := by decide +kernel
theorem dX7_goDays_101 : decode cX7_goDays 101 = .ok (.iload 4, 2) := by decide +kernel
theorem dX7_goDays_103 : decode cX7_goDays 103 = .ok (.goto 4, 3) := by decide +kernel
theorem dX7_goDays_106 : decode cX7_goDays 106 = .ok (.iconst 0, 1) := by decide +kernel
theorem dX7_goDays_107 : decode cX7_goDays 107 = .ok (.iadd, 1) := by decide +kernel
theorem dX7_goDays_108 : decode cX7_goDays 108 = .ok (.iastore, 1) := by decide +kernel
theorem dX7_goDays_109 : decode cX7_goDays 109 = .ok (.goto 178, 3) := by decide +kernel
theorem dX7_goDays_112 : decode cX7_goDays 112 = .ok (.iload_n 2, 1) := by decide +kernel
theorem dX7_goDays_113 : decode cX7_goDays 113 = .ok (.bipush 119, 2) := by decide +kernel
theorem dX7_goDays_115 : decode cX7_goDays 115 = .ok (.if_icmp .ne 50, 3) := by decide +kernel
theorem dX7_goDays_118 : decode cX7_goDays 118 = .ok (.iinc 1 1, 3) := by decide +kernel
theorem dX7_goDays_121 : decode cX7_goDays 121 = .ok (.aload_n 0, 1) := by decide +kernel
theorem dX7_goDays_122 : decode cX7_goDays 122 = .ok (.aload_n 0, 1) := by decide +kernel
theorem dX7_goDays_123 : decode cX7_goDays 123 = .ok (.getfield 41, 3) := by decide +kernel
theorem dX7_goDays_126 : decode cX7_goDays 126 = .ok (.aload_n 0, 1) := by decide +kernel
theorem dX7_goDays_127 : decode cX7_goDays 127 = .ok (.getfield 32, 3) := by decide +kernel
theorem dX7_goDays_130 : decode cX7_goDays 130 = .ok (.iload_n 1, 1) := by decide +kernel
theorem dX7_goDays_131 : decode cX7_goDays 131 = .ok (.iaload, 1) := by decide +kernel
theorem dX7_goDays_132 : decode cX7_goDays 132 = .ok (.bipush 48, 2) := by decide +kernel
theorem dX7_goDays_134 : decode cX7_goDays 134 = .ok (.isub, 1) := by decide +kernel
theorem dX7_goDays_135 : decode cX7_goDays 135 = .ok (.iaload, 1) := by decide +kernel
theorem dX7_goDays_136 : decode cX7_goDays 136 = .ok (.ifCond .ne 7, 3) := by decide +kernel
theorem dX7_goDays_139 : decode cX7_goDays 139 = .ok (.iconst 3, 1) := by decide +kernel
theorem dX7_goDays_140 : decode cX7_goDays 140 = .ok (.goto 4, 3) := by decide +kernel
theorem dX7_goDays_143 : decode cX7_goDays 143 = .ok (.iconst 0, 1) := by decide +kernel
theorem dX7_goDays_144 : decode cX7_goDays 144 = .ok (.putfield 125, 3) := by decide +kernel
theorem dX7_goDays_147 : decode cX7_goDays 147 = .ok (.aload_n 0, 1) := by decide +kernel
theorem dX7_goDays_148 : decode cX7_goDays 148 = .ok (.getfield 41, 3) := by decide +kernel
theorem dX7_goDays_151 : decode cX7_goDays 151 = .ok (.aload_n 0, 1) := by decide +kernel
theorem dX7_goDays_152 : decode cX7_goDays 152 = .ok (.getfield 32, 3) := by decide +kernel
theorem dX7_goDays_155 : decode cX7_goDays 155 = .ok (.iload_n 1, 1) := by decide +kernel
theorem dX7_goDays_156 : decode cX7_goDays 156 = .ok (.iaload, 1) := by decide +kernel
theorem dX7_goDays_157 : decode cX7_goDays 157 = .ok (.bipush 48, 2) := by decide +kernel
theorem dX7_goDays_159 : decode cX7_goDays 159 = .ok (.isub, 1) := by decide +kernel
theorem dX7_goDays_160 : decode cX7_goDays 160 = .ok (.iconst 0, 1) := by decide +kernel
theorem dX7_goDays_161 : decode cX7_goDays 161 = .ok (.iastore, 1) := by decide +kernel
theorem dX7_goDays_162 : decode cX7_goDays 162 = .ok (.goto 125, 3) := by decide +kernel
theorem dX7_goDays_165 : decode cX7_goDays 165 = .ok (.iload_n 2, 1) := by decide +kernel
theorem dX7_goDays_166 : decode cX7_goDays 166 = .ok (.bipush 102, 2) := by decide +kernel
theorem dX7_goDays_168 : decode cX7_goDays 168 = .ok (.if_icmp .ne 16, 3) := by decide +kernel
theorem dX7_goDays_171 : decode cX7_goDays 171 = .ok (.aload_n 0, 1) := by decide +kernel
theorem dX7_goDays_172 : decode cX7_goDays 172 = .ok (.iconst 1, 1) := by decide +kernel
theorem dX7_goDays_173 : decode cX7_goDays 173 = .ok (.aload_n 0, 1) := by decide +kernel
theorem dX7_goDays_174 : decode cX7_goDays 174 = .ok (.getfield 81, 3) := by decide +kernel
theorem dX7_goDays_177 : decode cX7_goDays 177 = .ok (.isub, 1) := by decide +kernel
theorem dX7_goDays_178 : decode cX7_goDays 178 = .ok (.putfield 81, 3) := by decide +kernel
theorem dX7_goDays_181 : decode cX7_goDays 181 = .ok (.goto 106, 3) := by decide +kernel
theorem dX7_goDays_184 : decode cX7_goDays 184 = .ok (.iload_n 2, 1) := by decide +kernel
theorem dX7_goDays_185 : decode cX7_goDays 185 = .ok (.bipush 115, 2) := by decide +kernel
theorem dX7_goDays_187 : decode cX7_goDays 187 = .ok (.if_icmp .ne 16, 3) := by decide +kernel
theorem dX7_goDays_190 : decode cX7_goDays 190 = .ok (.aload_n 0, 1) := by decide +kernel
theorem dX7_goDays_191 : decode cX7_goDays 191 = .ok (.iconst 1, 1) := by decide +kernel
theorem dX7_goDays_192 : decode cX7_goDays 192 = .ok (.aload_n 0, 1) := by decide +kernel
theorem dX7_goDays_193 : decode cX7_goDays 193 = .ok (.getfield 87, 3) := by decide +kernel
theorem dX7_goDays_196 : decode cX7_goDays 196 = .ok (.isub, 1) := by decide +kernel
theorem dX7_goDays_197 : decode cX7_goDays 197 = .ok (.putfield 87, 3) := by decide +kernel
theorem dX7_goDays_200 : decode cX7_goDays 200 = .ok (.goto 87, 3) := by decide +kernel
theorem dX7_goDays_203 : decode cX7_goDays 203 = .ok (.iload_n 2, 1) := by decide +kernel
theorem dX7_goDays_204 : decode cX7_goDays 204 = .ok (.bipush 46, 2) := by decide +kernel
theorem dX7_goDays_206 : decode cX7_goDays 206 = .ok (.if_icmp .ne 39, 3) := by decide +kernel
theorem dX7_goDays_209 : decode cX7_goDays 209 = .ok (.aload_n 0, 1) := by decide +kernel
theorem dX7_goDays_210 : decode cX7_goDays 210 = .ok (.aload_n 0, 1) := by decide +kernel
theorem dX7_goDays_211 : decode cX7_goDays 211 = .ok (.getfield 99, 3) := by decide +kernel
theorem dX7_goDays_214 : decode cX7_goDays 214 = .ok (.bipush 99, 2) := by decide +kernel
theorem dX7_goDays_216 : decode cX7_goDays 216 = .ok (.if_icmp .ne 7, 3) := by decide +kernel
theorem dX7_goDays_219 : decode cX7_goDays 219 = .ok (.iconst 4, 1) := by decide +kernel
theorem dX7_goDays_220 : decode cX7_goDays 220 = .ok (.goto 4, 3) := by decide +kernel
theorem dX7_goDays_223 : decode cX7_goDays 223 = .ok (.iconst 0, 1) := by decide +kernel
theorem dX7_goDays_224 : decode cX7_goDays 224 = .ok (.putfield 125, 3) := by decide +kernel
theorem dX7_goDays_227 : decode cX7_goDays 227 = .ok (.aload_n 0, 1) := by decide +kernel
theorem dX7_goDays_228 : decode cX7_goDays 228 = .ok (.getfield 125, 3) := by decide +kernel
theorem dX7_goDays_231 : decode cX7_goDays 231 = .ok (.ifCond .ne 56, 3) := by decide +kernel
theorem dX7_goDays_234 : decode cX7_goDays 234 = .ok (.aload_n 0, 1) := by decide +kernel
theorem dX7_goDays_235 : decode cX7_goDays 235 = .ok (.invokevirtual 128, 3) := by decide +kernel
theorem dX7_goDays_238 : decode cX7_goDays 238 = .ok (.aload_n 0, 1) := by decide +kernel
theorem dX7_goDays_239 : decode cX7_goDays 239 = .ok (.invokevirtual 108, 3) := by decide +kernel
theorem dX7_goDays_242 : decode cX7_goDays 242 = .ok (.goto 45, 3) := by decide +kernel
theorem dX7_goDays_245 : decode cX7_goDays 245 = .ok (.aload_n 0, 1) := by decide +kernel
theorem dX7_goDays_246 : decode cX7_goDays 246 = .ok (.aload_n 0, 1) := by decide +kernel
theorem dX7_goDays_247 : decode cX7_goDays 247 = .ok (.iload_n 2, 1) := by decide +kernel
theorem dX7_goDays_248 : decode cX7_goDays 248 = .ok (.bipush 65, 2) := by decide +kernel
theorem dX7_goDays_250 : decode cX7_goDays 250 = .ok (.isub, 1) := by decide +kernel
theorem dX7_goDays_251 : decode cX7_goDays 251 = .ok (.invokevirtual 131, 3) := by decide +kernel
theorem dX7_goDays_254 : decode cX7_goDays 254 = .ok (.putfield 125, 3) := by decide +kernel
theorem dX7_goDays_257 : decode cX7_goDays 257 = .ok (.aload_n 0, 1) := by decide +kernel
theorem dX7_goDays_258 : decode cX7_goDays 258 = .ok (.getfield 125, 3) := by decide +kernel
theorem dX7_goDays_261 : decode cX7_goDays 261 = .ok (.ifCond .ne 26, 3) := by decide +kernel
theorem dX7_goDays_264 : decode cX7_goDays 264 = .ok (.aload_n 0, 1) := by decide +kernel
theorem dX7_goDays_265 : decode cX7_goDays 265 = .ok (.iload_n 2, 1) := by decide +kernel
theorem dX7_goDays_266 : decode cX7_goDays 266 = .ok (.bipush 65, 2) := by decide +kernel
theorem dX7_goDays_268 : decode cX7_goDays 268 = .ok (.isub, 1) := by decide +kernel
theorem dX7_goDays_269 : decode cX7_goDays 269 = .ok (.invokevirtual 134, 3) := by decide +kernel
theorem dX7_goDays_272 : decode cX7_goDays 272 = .ok (.aload_n 0, 1) := by decide +kernel
theorem dX7_goDays_273 : decode cX7_goDays 273 = .ok (.dup, 1) := by decide +kernel
theorem dX7_goDays_274 : decode cX7_goDays 274 = .ok (.getfield 93, 3) := by decide +kernel
theorem dX7_goDays_277 : decode cX7_goDays 277 = .ok (.iconst 1, 1) := by decide +kernel
theorem dX7_goDays_278 : decode cX7_goDays 278 = .ok (.iload_n 2, 1) := by decide +kernel
theorem dX7_goDays_279 : decode cX7_goDays 279 = .ok (.bipush 65, 2) := by decide +kernel
theorem dX7_goDays_281 : decode cX7_goDays 281 = .ok (.isub, 1) := by decide +kernel
theorem dX7_goDays_282 : decode cX7_goDays 282 = .ok (.ishl, 1) := by decide +kernel
theorem dX7_goDays_283 : decode cX7_goDays 283 = .ok (.ior, 1) := by decide +kernel
theorem dX7_goDays_284 : decode cX7_goDays 284 = .ok (.putfield 93, 3) := by decide +kernel
theorem dX7_goDays_287 : decode cX7_goDays 287 = .ok (.aload_n 0, 1) := by decide +kernel
theorem dX7_goDays_288 : decode cX7_goDays 288 = .ok (.getfield 125, 3) := by decide +kernel
theorem dX7_goDays_291 : decode cX7_goDays 291 = .ok (.ifCond .le 8, 3) := by decide +kernel
theorem dX7_goDays_294 : decode cX7_goDays 294 = .ok (.aload_n 0, 1) := by decide +kernel
theorem dX7_goDays_295 : decode cX7_goDays 295 = .ok (.getfield 122, 3) := by decide +kernel
theorem dX7_goDays_298 : decode cX7_goDays 298 = .ok (.ireturn, 1) := by decide +kernel
theorem dX7_goDays_299 : decode cX7_goDays 299 = .ok (.iinc 1 1, 3) := by decide +kernel
theorem dX7_goDays_302 : decode cX7_goDays 302 = .ok (.aload_n 0, 1) := by decide +kernel
theorem dX7_goDays_303 : decode cX7_goDays 303 = .ok (.dup, 1) := by decide +kernel
theorem dX7_goDays_304 : decode cX7_goDays 304 = .ok (.getfield 122, 3) := by decide +kernel
theorem dX7_goDays_307 : decode cX7_goDays 307 = .ok (.iconst 1, 1) := by decide +kernel
theorem dX7_goDays_308 : decode cX7_goDays 308 = .ok (.iadd, 1) := by decide +kernel
theorem dX7_goDays_309 : decode cX7_goDays 309 = .ok (.putfield 122, 3) := by decide +kernel
theorem dX7_goDays_312 : decode cX7_goDays 312 = .ok (.goto (-295), 3) := by decide +kernel
theorem dX7_goDays_315 : decode cX7_goDays 315 = .ok (.aload_n 0, 1) := by decide +kernel
theorem dX7_goDays_316 : decode cX7_goDays 316 = .ok (.invokevirtual 128, 3) := by decide +kernel
theorem dX7_goDays_319 : decode cX7_goDays 319 = .ok (.bipush (-6), 2) := by decide +kernel
theorem dX7_goDays_321 : decode cX7_goDays 321 = .ok (.ireturn, 1) := by decide +kernel
set_option maxRecDepth 20000 in
theorem ggX7_judge_X7_in : GoodIn wsX7_judge wsX7_in := goodIn_r _ [5] (by decide +kernel) (by decide +kernel)
set_option maxRecDepth 20000 in
theorem gX7_judge_X7_in : GoodIn wsX7_judge (va_wsS RX7 63 yX7_in wsX7_in) := goodIn_app (goodIn_of _ (by decide +kernel)) ggX7_judge_X7_in
set_option maxRecDepth 20000 in
theorem ggX7_judge_X7_faultOf : GoodIn wsX7_judge wsX7_faultOf := goodIn_r _ [9, 10, 11, 12, 13, 4, 14, 2, 3, 5, 69, 70, 71, 72, 73, 74, 75, 76, 77, 78, 79, 80, 81, 82, 83, 84, 85, 86, 87, 88, 89, 90, 91, 92, 93, 94, 95, 96, 97, 98] (by decide +kernel) (by decide +kernel)
set_option maxRecDepth 20000 in
theorem gX7_judge_X7_faultOf : GoodIn wsX7_judge (wsV RX7 74 RX7 yX7_faultOf wsX7_faultOf) := goodIn_app (goodIn_of _ (by decide +kernel)) ggX7_judge_X7_faultOf
set_option maxRecDepth 20000 in
theorem ggX7_judge_X7_goDays : GoodIn wsX7_judge wsX7_goDays := goodIn_r _ [18, 19, 20, 10, 11, 1, 21, 22, 23, 24, 25, 26, 27, 28, 29, 4, 30, 31, 32, 33, 34, 35, 36, 37, 38, 12, 13, 14, 39, 40, 41, 42, 43, 44, 45, 46, 47, 48, 49, 50, 51, 52, 53, 54, 55, 56, 57, 58, 59, 60, 61, 62, 63, 64, 65, 66, 67, 68, 69, 70, 71, 72, 73, 74, 75, 76, 77, 78, 79, 80, 81, 82, 83, 84, 85, 86, 87, 88, 89, 90, 91, 92, 93, 94, 95, 96, 97, 98] (by decide +kernel) (by decide +kernel)
set_option maxRecDepth 20000 in
theorem gX7_judge_X7_goDays : GoodIn wsX7_judge (wsV RX7 138 RX7 yX7_goDays wsX7_goDays) := goodIn_app (goodIn_of _ (by decide +kernel)) ggX7_judge_X7_goDays
theorem dX7_judge_0 : decode cX7_judge 0 = .ok (.iload_n 1, 1) := by decide +kernel
theorem dX7_judge_1 : decode cX7_judge 1 = .ok (.iconst 0, 1) := by decide +kernel
theorem dX7_judge_2 : decode cX7_judge 2 = .ok (.iconst 1, 1) := by decide +kernel
theorem dX7_judge_3 : decode cX7_judge 3 = .ok (.invokestatic 63, 3) := by decide +kernel
theorem dX7_judge_6 : decode cX7_judge 6 = .ok (.ifCond .ne 6, 3) := by decide +kernel
theorem dX7_judge_9 : decode cX7_judge 9 = .ok (.bipush (-2), 2) := by decide +kernel
theorem dX7_judge_11 : decode cX7_judge 11 = .ok (.ireturn, 1) := by decide +kernel
theorem dX7_judge_12 : decode cX7_judge 12 = .ok (.aload_n 0, 1) := by decide +kernel
theorem dX7_judge_13 : decode cX7_judge 13 = .ok (.invokevirtual 74, 3) := by decide +kernel
theorem dX7_judge_16 : decode cX7_judge 16 = .ok (.ifCond .lt 6, 3) := by decide +kernel
theorem dX7_judge_19 : decode cX7_judge 19 = .ok (.bipush (-5), 2) := by decide +kernel
theorem dX7_judge_21 : decode cX7_judge 21 = .ok (.ireturn, 1) := by decide +kernel
theorem dX7_judge_22 : decode cX7_judge 22 = .ok (.aload_n 0, 1) := by decide +kernel
theorem dX7_judge_23 : decode cX7_judge 23 = .ok (.invokevirtual 138, 3) := by decide +kernel
theorem dX7_judge_26 : decode cX7_judge 26 = .ok (.istore_n 2, 1) := by decide +kernel
theorem dX7_judge_27 : decode cX7_judge 27 = .ok (.iload_n 2, 1) := by decide +kernel
theorem dX7_judge_28 : decode cX7_judge 28 = .ok (.ifCond .lt 7, 3) := by decide +kernel
theorem dX7_judge_31 : decode cX7_judge 31 = .ok (.iload_n 1, 1) := by decide +kernel
theorem dX7_judge_32 : decode cX7_judge 32 = .ok (.ifCond .ne 7, 3) := by decide +kernel
theorem dX7_judge_35 : decode cX7_judge 35 = .ok (.iload_n 2, 1) := by decide +kernel
theorem dX7_judge_36 : decode cX7_judge 36 = .ok (.goto 7, 3) := by decide +kernel
theorem dX7_judge_39 : decode cX7_judge 39 = .ok (.aload_n 0, 1) := by decide +kernel
theorem dX7_judge_40 : decode cX7_judge 40 = .ok (.getfield 125, 3) := by decide +kernel
theorem dX7_judge_43 : decode cX7_judge 43 = .ok (.ireturn, 1) := by decide +kernel
set_option maxRecDepth 20000 in
theorem ggX7_barOfDays_X7_faultOf : GoodIn wsX7_barOfDays wsX7_faultOf := goodIn_r _ [5, 6, 7, 8, 9, 4, 10, 11, 12, 13, 69, 70, 71, 72, 73, 74, 75, 76, 77, 78, 79, 80, 81, 82, 83, 84, 85, 86, 87, 88, 89, 90, 91, 92, 93, 94, 95, 96, 97, 98] (by decide +kernel) (by decide +kernel)
set_option maxRecDepth 20000 in
theorem gX7_barOfDays_X7_faultOf : GoodIn wsX7_barOfDays (wsV RX7 74 RX7 yX7_faultOf wsX7_faultOf) := goodIn_app (goodIn_of _ (by decide +kernel)) ggX7_barOfDays_X7_faultOf
set_option maxRecDepth 20000 in
theorem ggX7_barOfDays_X7_goDays : GoodIn wsX7_barOfDays wsX7_goDays := goodIn_r _ [17, 18, 19, 6, 7, 20, 21, 22, 23, 24, 25, 26, 27, 28, 29, 4, 30, 31, 32, 33, 34, 35, 36, 37, 38, 8, 9, 10, 39, 40, 41, 42, 43, 44, 45, 46, 47, 48, 49, 50, 51, 52, 53, 54, 55, 56, 57, 58, 59, 60, 61, 62, 63, 64, 65, 66, 67, 68, 69, 70, 71, 72, 73, 74, 75, 76, 77, 78, 79, 80, 81, 82, 83, 84, 85, 86, 87, 88, 89, 90, 91, 92, 93, 94, 95, 96, 97, 98] (by decide +kernel) (by decide +kernel)
set_option maxRecDepth 20000 in
theorem gX7_barOfDays_X7_goDays : GoodIn wsX7_barOfDays (wsV RX7 138 RX7 yX7_goDays wsX7_goDays) := goodIn_app (goodIn_of _ (by decide +kernel)) ggX7_barOfDays_X7_goDays
theorem dX7_barOfDays_0 : decode cX7_barOfDays 0 = .ok (.aload_n 0, 1) := by decide +kernel
theorem dX7_barOfDays_1 : decode cX7_barOfDays 1 = .ok (.invokevirtual 74, 3) := by decide +kernel
theorem dX7_barOfDays_4 : decode cX7_barOfDays 4 = .ok (.ifCond .ge 10, 3) := by decide +kernel
theorem dX7_barOfDays_7 : decode cX7_barOfDays 7 = .ok (.aload_n 0, 1) := by decide +kernel
