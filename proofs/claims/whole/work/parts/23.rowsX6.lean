set_option maxRecDepth 20000 in
theorem ggX6_init_X3_init : GoodIn wsX6_init wsX3_init := goodIn_r _ [36, 37, 2, 3, 33, 38, 39, 40, 41, 42, 43, 44, 45, 46, 47, 48, 49, 50, 81, 82, 83, 84, 85, 86, 87, 88, 89, 90, 91, 92, 93] (by decide +kernel) (by decide +kernel)
set_option maxRecDepth 20000 in
theorem gX6_init_X3_init_n11 : GoodIn wsX6_init (wsX3_init) := ggX6_init_X3_init
set_option maxRecDepth 20000 in
theorem ggX6_init_X5_init : GoodIn wsX6_init wsX5_init := goodIn_r _ [52, 53, 2, 3, 33, 54, 55, 105, 106] (by decide +kernel) (by decide +kernel)
set_option maxRecDepth 20000 in
theorem gX6_init_X5_init_n21 : GoodIn wsX6_init (wsX5_init) := ggX6_init_X5_init
set_option maxRecDepth 20000 in
theorem ggX6_init_X1_init : GoodIn wsX6_init wsX1_init := goodIn_r _ [57, 58, 2, 3, 59, 5, 6, 60, 61, 62, 63, 35, 36, 37, 33, 38, 39, 40, 41, 42, 43, 44, 45, 46, 47, 48, 49, 50, 81, 82, 83, 84, 85, 86, 87, 88, 89, 90, 91, 92, 93, 107, 108, 109, 110] (by decide +kernel) (by decide +kernel)
set_option maxRecDepth 20000 in
theorem gX6_init_X1_init_n28 : GoodIn wsX6_init (wsX1_init) := ggX6_init_X1_init
set_option maxRecDepth 20000 in
theorem ggX6_init_X0_init : GoodIn wsX6_init wsX0_init := goodIn_r _ [65, 66, 2, 3, 33, 67, 111] (by decide +kernel) (by decide +kernel)
set_option maxRecDepth 20000 in
theorem gX6_init_X0_init_n35 : GoodIn wsX6_init (wsX0_init) := ggX6_init_X0_init
set_option maxRecDepth 20000 in
theorem ggX6_init_X4_init : GoodIn wsX6_init wsX4_init := goodIn_r _ [69, 70, 2, 3, 33, 71, 72, 73, 74, 112, 113, 114, 115] (by decide +kernel) (by decide +kernel)
set_option maxRecDepth 20000 in
theorem gX6_init_X4_init_n42 : GoodIn wsX6_init (wsX4_init) := ggX6_init_X4_init
set_option maxRecDepth 20000 in
theorem ggX6_init_X2_init : GoodIn wsX6_init wsX2_init := goodIn_r _ [76, 77, 2, 3, 33, 78, 79, 80, 116, 117, 118] (by decide +kernel) (by decide +kernel)
set_option maxRecDepth 20000 in
theorem gX6_init_X2_init_n49 : GoodIn wsX6_init (wsX2_init) := ggX6_init_X2_init
theorem dX6_init_0 : decode cX6_init 0 = .ok (.aload_n 0, 1) := by decide +kernel
theorem dX6_init_1 : decode cX6_init 1 = .ok (.invokespecial 3, 3) := by decide +kernel
theorem dX6_init_4 : decode cX6_init 4 = .ok (.aload_n 0, 1) := by decide +kernel
theorem dX6_init_5 : decode cX6_init 5 = .ok (.new 9, 3) := by decide +kernel
theorem dX6_init_8 : decode cX6_init 8 = .ok (.dup, 1) := by decide +kernel
theorem dX6_init_9 : decode cX6_init 9 = .ok (.invokespecial 11, 3) := by decide +kernel
theorem dX6_init_12 : decode cX6_init 12 = .ok (.putfield 12, 3) := by decide +kernel
theorem dX6_init_15 : decode cX6_init 15 = .ok (.aload_n 0, 1) := by decide +kernel
theorem dX6_init_16 : decode cX6_init 16 = .ok (.new 9, 3) := by decide +kernel
theorem dX6_init_19 : decode cX6_init 19 = .ok (.dup, 1) := by decide +kernel
theorem dX6_init_20 : decode cX6_init 20 = .ok (.invokespecial 11, 3) := by decide +kernel
theorem dX6_init_23 : decode cX6_init 23 = .ok (.putfield 16, 3) := by decide +kernel
theorem dX6_init_26 : decode cX6_init 26 = .ok (.aload_n 0, 1) := by decide +kernel
theorem dX6_init_27 : decode cX6_init 27 = .ok (.new 19, 3) := by decide +kernel
theorem dX6_init_30 : decode cX6_init 30 = .ok (.dup, 1) := by decide +kernel
theorem dX6_init_31 : decode cX6_init 31 = .ok (.invokespecial 21, 3) := by decide +kernel
theorem dX6_init_34 : decode cX6_init 34 = .ok (.putfield 22, 3) := by decide +kernel
theorem dX6_init_37 : decode cX6_init 37 = .ok (.aload_n 0, 1) := by decide +kernel
theorem dX6_init_38 : decode cX6_init 38 = .ok (.new 26, 3) := by decide +kernel
theorem dX6_init_41 : decode cX6_init 41 = .ok (.dup, 1) := by decide +kernel
theorem dX6_init_42 : decode cX6_init 42 = .ok (.invokespecial 28, 3) := by decide +kernel
theorem dX6_init_45 : decode cX6_init 45 = .ok (.putfield 29, 3) := by decide +kernel
theorem dX6_init_48 : decode cX6_init 48 = .ok (.aload_n 0, 1) := by decide +kernel
theorem dX6_init_49 : decode cX6_init 49 = .ok (.new 33, 3) := by decide +kernel
theorem dX6_init_52 : decode cX6_init 52 = .ok (.dup, 1) := by decide +kernel
theorem dX6_init_53 : decode cX6_init 53 = .ok (.invokespecial 35, 3) := by decide +kernel
theorem dX6_init_56 : decode cX6_init 56 = .ok (.putfield 36, 3) := by decide +kernel
theorem dX6_init_59 : decode cX6_init 59 = .ok (.aload_n 0, 1) := by decide +kernel
theorem dX6_init_60 : decode cX6_init 60 = .ok (.new 40, 3) := by decide +kernel
theorem dX6_init_63 : decode cX6_init 63 = .ok (.dup, 1) := by decide +kernel
theorem dX6_init_64 : decode cX6_init 64 = .ok (.invokespecial 42, 3) := by decide +kernel
theorem dX6_init_67 : decode cX6_init 67 = .ok (.putfield 43, 3) := by decide +kernel
theorem dX6_init_70 : decode cX6_init 70 = .ok (.aload_n 0, 1) := by decide +kernel
theorem dX6_init_71 : decode cX6_init 71 = .ok (.new 47, 3) := by decide +kernel
theorem dX6_init_74 : decode cX6_init 74 = .ok (.dup, 1) := by decide +kernel
theorem dX6_init_75 : decode cX6_init 75 = .ok (.invokespecial 49, 3) := by decide +kernel
theorem dX6_init_78 : decode cX6_init 78 = .ok (.putfield 50, 3) := by decide +kernel
theorem dX6_init_81 : decode cX6_init 81 = .ok (.aload_n 0, 1) := by decide +kernel
theorem dX6_init_82 : decode cX6_init 82 = .ok (.new 9, 3) := by decide +kernel
theorem dX6_init_85 : decode cX6_init 85 = .ok (.dup, 1) := by decide +kernel
theorem dX6_init_86 : decode cX6_init 86 = .ok (.invokespecial 11, 3) := by decide +kernel
theorem dX6_init_89 : decode cX6_init 89 = .ok (.putfield 54, 3) := by decide +kernel
theorem dX6_init_92 : decode cX6_init 92 = .ok (.aload_n 0, 1) := by decide +kernel
theorem dX6_init_93 : decode cX6_init 93 = .ok (.new 9, 3) := by decide +kernel
theorem dX6_init_96 : decode cX6_init 96 = .ok (.dup, 1) := by decide +kernel
theorem dX6_init_97 : decode cX6_init 97 = .ok (.invokespecial 11, 3) := by decide +kernel
theorem dX6_init_100 : decode cX6_init 100 = .ok (.putfield 57, 3) := by decide +kernel
theorem dX6_init_103 : decode cX6_init 103 = .ok (.aload_n 0, 1) := by decide +kernel
theorem dX6_init_104 : decode cX6_init 104 = .ok (.iconst 2, 1) := by decide +kernel
theorem dX6_init_105 : decode cX6_init 105 = .ok (.newarray .boolean, 2) := by decide +kernel
theorem dX6_init_107 : decode cX6_init 107 = .ok (.putfield 60, 3) := by decide +kernel
theorem dX6_init_110 : decode cX6_init 110 = .ok (.aload_n 0, 1) := by decide +kernel
theorem dX6_init_111 : decode cX6_init 111 = .ok (.bipush 18, 2) := by decide +kernel
theorem dX6_init_113 : decode cX6_init 113 = .ok (.newarray .int, 2) := by decide +kernel
theorem dX6_init_115 : decode cX6_init 115 = .ok (.putfield 64, 3) := by decide +kernel
theorem dX6_init_118 : decode cX6_init 118 = .ok (.return_, 1) := by decide +kernel
set_option maxRecDepth 20000 in
theorem ggX6_wall_X6_isWall : GoodIn wsX6_wall wsX6_isWall := goodIn_r _ [7, 8, 9, 6, 10] (by decide +kernel) (by decide +kernel)
set_option maxRecDepth 20000 in
theorem gX6_wall_X6_isWall : GoodIn wsX6_wall (va_wsS RX6 68 yX6_isWall wsX6_isWall) := goodIn_app (goodIn_of _ (by decide +kernel)) ggX6_wall_X6_isWall
set_option maxRecDepth 20000 in
theorem ggX6_wall_X6_isWithin : GoodIn wsX6_wall wsX6_isWithin := goodIn_r _ [10] (by decide +kernel) (by decide +kernel)
set_option maxRecDepth 20000 in
theorem gX6_wall_X6_isWithin : GoodIn wsX6_wall (va_wsS RX6 72 yX6_isWithin wsX6_isWithin) := goodIn_app (goodIn_of _ (by decide +kernel)) ggX6_wall_X6_isWithin
theorem dX6_wall_0 : decode cX6_wall 0 = .ok (.iload_n 1, 1) := by decide +kernel
theorem dX6_wall_1 : decode cX6_wall 1 = .ok (.invokestatic 68, 3) := by decide +kernel
theorem dX6_wall_4 : decode cX6_wall 4 = .ok (.ifCond .ne 5, 3) := by decide +kernel
theorem dX6_wall_7 : decode cX6_wall 7 = .ok (.iconst (-1), 1) := by decide +kernel
theorem dX6_wall_8 : decode cX6_wall 8 = .ok (.ireturn, 1) := by decide +kernel
theorem dX6_wall_9 : decode cX6_wall 9 = .ok (.iload_n 2, 1) := by decide +kernel
theorem dX6_wall_10 : decode cX6_wall 10 = .ok (.iconst 1, 1) := by decide +kernel
theorem dX6_wall_11 : decode cX6_wall 11 = .ok (.bipush 9, 2) := by decide +kernel
theorem dX6_wall_13 : decode cX6_wall 13 = .ok (.invokestatic 72, 3) := by decide +kernel
theorem dX6_wall_16 : decode cX6_wall 16 = .ok (.ifCond .eq 13, 3) := by decide +kernel
theorem dX6_wall_19 : decode cX6_wall 19 = .ok (.iload_n 3, 1) := by decide +kernel
theorem dX6_wall_20 : decode cX6_wall 20 = .ok (.iconst 0, 1) := by decide +kernel
theorem dX6_wall_21 : decode cX6_wall 21 = .ok (.bipush 9, 2) := by decide +kernel
theorem dX6_wall_23 : decode cX6_wall 23 = .ok (.invokestatic 72, 3) := by decide +kernel
theorem dX6_wall_26 : decode cX6_wall 26 = .ok (.ifCond .ne 6, 3) := by decide +kernel
theorem dX6_wall_29 : decode cX6_wall 29 = .ok (.bipush (-2), 2) := by decide +kernel
theorem dX6_wall_31 : decode cX6_wall 31 = .ok (.ireturn, 1) := by decide +kernel
theorem dX6_wall_32 : decode cX6_wall 32 = .ok (.aload_n 0, 1) := by decide +kernel
theorem dX6_wall_33 : decode cX6_wall 33 = .ok (.getfield 12, 3) := by decide +kernel
theorem dX6_wall_36 : decode cX6_wall 36 = .ok (.getfield 76, 3) := by decide +kernel
theorem dX6_wall_39 : decode cX6_wall 39 = .ok (.iload_n 1, 1) := by decide +kernel
theorem dX6_wall_40 : decode cX6_wall 40 = .ok (.iaload, 1) := by decide +kernel
theorem dX6_wall_41 : decode cX6_wall 41 = .ok (.istore 4, 2) := by decide +kernel
theorem dX6_wall_43 : decode cX6_wall 43 = .ok (.aload_n 0, 1) := by decide +kernel
theorem dX6_wall_44 : decode cX6_wall 44 = .ok (.getfield 12, 3) := by decide +kernel
theorem dX6_wall_47 : decode cX6_wall 47 = .ok (.getfield 79, 3) := by decide +kernel
theorem dX6_wall_50 : decode cX6_wall 50 = .ok (.iload_n 1, 1) := by decide +kernel
theorem dX6_wall_51 : decode cX6_wall 51 = .ok (.iload_n 2, 1) := by decide +kernel
theorem dX6_wall_52 : decode cX6_wall 52 = .ok (.iastore, 1) := by decide +kernel
theorem dX6_wall_53 : decode cX6_wall 53 = .ok (.aload_n 0, 1) := by decide +kernel
theorem dX6_wall_54 : decode cX6_wall 54 = .ok (.getfield 12, 3) := by decide +kernel
theorem dX6_wall_57 : decode cX6_wall 57 = .ok (.getfield 76, 3) := by decide +kernel
theorem dX6_wall_60 : decode cX6_wall 60 = .ok (.iload_n 1, 1) := by decide +kernel
theorem dX6_wall_61 : decode cX6_wall 61 = .ok (.iload_n 3, 1) := by decide +kernel
theorem dX6_wall_62 : decode cX6_wall 62 = .ok (.iastore, 1) := by decide +kernel
theorem dX6_wall_63 : decode cX6_wall 63 = .ok (.iload 4, 2) := by decide +kernel
theorem dX6_wall_65 : decode cX6_wall 65 = .ok (.ireturn, 1) := by decide +kernel
set_option maxRecDepth 20000 in
theorem ggX6_dress_X6_isDress : GoodIn wsX6_dress wsX6_isDress := goodIn_r _ [6, 7, 8, 5, 9] (by decide +kernel) (by decide +kernel)
set_option maxRecDepth 20000 in
theorem gX6_dress_X6_isDress : GoodIn wsX6_dress (va_wsS RX6 82 yX6_isDress wsX6_isDress) := goodIn_app (goodIn_of _ (by decide +kernel)) ggX6_dress_X6_isDress
set_option maxRecDepth 20000 in
theorem ggX6_dress_X6_isWithin : GoodIn wsX6_dress wsX6_isWithin := goodIn_r _ [9] (by decide +kernel) (by decide +kernel)
set_option maxRecDepth 20000 in
theorem gX6_dress_X6_isWithin : GoodIn wsX6_dress (va_wsS RX6 72 yX6_isWithin wsX6_isWithin) := goodIn_app (goodIn_of _ (by decide +kernel)) ggX6_dress_X6_isWithin
set_option maxRecDepth 20000 in
theorem ggX6_dress_X3_worth : GoodIn wsX6_dress wsX3_worth := goodIn_r _ [14, 15, 27, 28, 29, 30, 31, 32, 33, 34, 35, 36, 37, 38, 39] (by decide +kernel) (by decide +kernel)
set_option maxRecDepth 20000 in
theorem gX6_dress_X3_worth : GoodIn wsX6_dress (wsV RX6 85 RX3 yX3_worth wsX3_worth) := goodIn_app (goodIn_of _ (by decide +kernel)) ggX6_dress_X3_worth
theorem dX6_dress_0 : decode cX6_dress 0 = .ok (.iload_n 1, 1) := by decide +kernel
theorem dX6_dress_1 : decode cX6_dress 1 = .ok (.invokestatic 82, 3) := by decide +kernel
theorem dX6_dress_4 : decode cX6_dress 4 = .ok (.ifCond .ne 5, 3) := by decide +kernel
theorem dX6_dress_7 : decode cX6_dress 7 = .ok (.iconst (-1), 1) := by decide +kernel
theorem dX6_dress_8 : decode cX6_dress 8 = .ok (.ireturn, 1) := by decide +kernel
theorem dX6_dress_9 : decode cX6_dress 9 = .ok (.iload_n 2, 1) := by decide +kernel
theorem dX6_dress_10 : decode cX6_dress 10 = .ok (.iconst 0, 1) := by decide +kernel
theorem dX6_dress_11 : decode cX6_dress 11 = .ok (.bipush 99, 2) := by decide +kernel
theorem dX6_dress_13 : decode cX6_dress 13 = .ok (.invokestatic 72, 3) := by decide +kernel
theorem dX6_dress_16 : decode cX6_dress 16 = .ok (.ifCond .eq 24, 3) := by decide +kernel
theorem dX6_dress_19 : decode cX6_dress 19 = .ok (.iload_n 3, 1) := by decide +kernel
theorem dX6_dress_20 : decode cX6_dress 20 = .ok (.iconst 0, 1) := by decide +kernel
theorem dX6_dress_21 : decode cX6_dress 21 = .ok (.bipush 99, 2) := by decide +kernel
theorem dX6_dress_23 : decode cX6_dress 23 = .ok (.invokestatic 72, 3) := by decide +kernel
theorem dX6_dress_26 : decode cX6_dress 26 = .ok (.ifCond .eq 14, 3) := by decide +kernel
theorem dX6_dress_29 : decode cX6_dress 29 = .ok (.iload 4, 2) := by decide +kernel
theorem dX6_dress_31 : decode cX6_dress 31 = .ok (.iconst 0, 1) := by decide +kernel
theorem dX6_dress_32 : decode cX6_dress 32 = .ok (.bipush 99, 2) := by decide +kernel
theorem dX6_dress_34 : decode cX6_dress 34 = .ok (.invokestatic 72, 3) := by decide +kernel
theorem dX6_dress_37 : decode cX6_dress 37 = .ok (.ifCond .ne 6, 3) := by decide +kernel
theorem dX6_dress_40 : decode cX6_dress 40 = .ok (.bipush (-2), 2) := by decide +kernel
theorem dX6_dress_42 : decode cX6_dress 42 = .ok (.ireturn, 1) := by decide +kernel
theorem dX6_dress_43 : decode cX6_dress 43 = .ok (.aload_n 0, 1) := by decide +kernel
theorem dX6_dress_44 : decode cX6_dress 44 = .ok (.getfield 12, 3) := by decide +kernel
theorem dX6_dress_47 : decode cX6_dress 47 = .ok (.iload_n 1, 1) := by decide +kernel
theorem dX6_dress_48 : decode cX6_dress 48 = .ok (.iconst 0, 1) := by decide +kernel
theorem dX6_dress_49 : decode cX6_dress 49 = .ok (.invokevirtual 85, 3) := by decide +kernel
theorem dX6_dress_52 : decode cX6_dress 52 = .ok (.aload_n 0, 1) := by decide +kernel
theorem dX6_dress_53 : decode cX6_dress 53 = .ok (.getfield 12, 3) := by decide +kernel
theorem dX6_dress_56 : decode cX6_dress 56 = .ok (.iload_n 1, 1) := by decide +kernel
theorem dX6_dress_57 : decode cX6_dress 57 = .ok (.iconst 1, 1) := by decide +kernel
theorem dX6_dress_58 : decode cX6_dress 58 = .ok (.invokevirtual 85, 3) := by decide +kernel
theorem dX6_dress_61 : decode cX6_dress 61 = .ok (.iadd, 1) := by decide +kernel
theorem dX6_dress_62 : decode cX6_dress 62 = .ok (.aload_n 0, 1) := by decide +kernel
theorem dX6_dress_63 : decode cX6_dress 63 = .ok (.getfield 12, 3) := by decide +kernel
theorem dX6_dress_66 : decode cX6_dress 66 = .ok (.iload_n 1, 1) := by decide +kernel
theorem dX6_dress_67 : decode cX6_dress 67 = .ok (.iconst 2, 1) := by decide +kernel
theorem dX6_dress_68 : decode cX6_dress 68 = .ok (.invokevirtual 85, 3) := by decide +kernel
theorem dX6_dress_71 : decode cX6_dress 71 = .ok (.iadd, 1) := by decide +kernel
theorem dX6_dress_72 : decode cX6_dress 72 = .ok (.istore 5, 2) := by decide +kernel
theorem dX6_dress_74 : decode cX6_dress 74 = .ok (.aload_n 0, 1) := by decide +kernel
theorem dX6_dress_75 : decode cX6_dress 75 = .ok (.getfield 12, 3) := by decide +kernel
theorem dX6_dress_78 : decode cX6_dress 78 = .ok (.getfield 89, 3) := by decide +kernel
theorem dX6_dress_81 : decode cX6_dress 81 = .ok (.iload_n 1, 1) := by decide +kernel
theorem dX6_dress_82 : decode cX6_dress 82 = .ok (.iconst 3, 1) := by decide +kernel
theorem dX6_dress_83 : decode cX6_dress 83 = .ok (.imul, 1) := by decide +kernel
theorem dX6_dress_84 : decode cX6_dress 84 = .ok (.iload_n 2, 1) := by decide +kernel
theorem dX6_dress_85 : decode cX6_dress 85 = .ok (.iastore, 1) := by decide +kernel
theorem dX6_dress_86 : decode cX6_dress 86 = .ok (.aload_n 0, 1) := by decide +kernel
theorem dX6_dress_87 : decode cX6_dress 87 = .ok (.getfield 12, 3) := by decide +kernel
theorem dX6_dress_90 : decode cX6_dress 90 = .ok (.getfield 89, 3) := by decide +kernel
theorem dX6_dress_93 : decode cX6_dress 93 = .ok (.iload_n 1, 1) := by decide +kernel
theorem dX6_dress_94 : decode cX6_dress 94 = .ok (.iconst 3, 1) := by decide +kernel
theorem dX6_dress_95 : decode cX6_dress 95 = .ok (.imul, 1) := by decide +kernel
theorem dX6_dress_96 : decode cX6_dress 96 = .ok (.iconst 1, 1) := by decide +kernel
theorem dX6_dress_97 : decode cX6_dress 97 = .ok (.iadd, 1) := by decide +kernel
theorem dX6_dress_98 : decode cX6_dress 98 = .ok (.iload_n 3, 1) := by decide +kernel
theorem dX6_dress_99 : decode cX6_dress 99 = .ok (.iastore, 1) := by decide +kernel
theorem dX6_dress_100 : decode cX6_dress 100 = .ok (.aload_n 0, 1) := by decide +kernel
theorem dX6_dress_101 : decode cX6_dress 101 = .ok (.getfield 12, 3) := by decide +kernel
theorem dX6_dress_104 : decode cX6_dress 104 = .ok (.getfield 89, 3) := by decide +kernel
theorem dX6_dress_107 : decode cX6_dress 107 = .ok (.iload_n 1, 1) := by decide +kernel
theorem dX6_dress_108 : decode cX6_dress 108 = .ok (.iconst 3, 1) := by decide +kernel
theorem dX6_dress_109 : decode cX6_dress 109 = .ok (.imul, 1) := by decide +kernel
theorem dX6_dress_110 : decode cX6_dress 110 = .ok (.iconst 2, 1) := by decide +kernel
theorem dX6_dress_111 : decode cX6_dress 111 = .ok (.iadd, 1) := by decide +kernel
theorem dX6_dress_112 : decode cX6_dress 112 = .ok (.iload 4, 2) := by decide +kernel
theorem dX6_dress_114 : decode cX6_dress 114 = .ok (.iastore, 1) := by decide +kernel
theorem dX6_dress_115 : decode cX6_dress 115 = .ok (.iload 5, 2) := by decide +kernel
theorem dX6_dress_117 : decode cX6_dress 117 = .ok (.ireturn, 1) := by decide +kernel
set_option maxRecDepth 20000 in
theorem ggX6_limit_X6_isAmount : GoodIn wsX6_limit wsX6_isAmount := goodIn_r _ [6, 7, 8, 5, 9] (by decide +kernel) (by decide +kernel)
set_option maxRecDepth 20000 in
theorem gX6_limit_X6_isAmount : GoodIn wsX6_limit (va_wsS RX6 92 yX6_isAmount wsX6_isAmount) := goodIn_app (goodIn_of _ (by decide +kernel)) ggX6_limit_X6_isAmount
theorem dX6_limit_0 : decode cX6_limit 0 = .ok (.iload_n 1, 1) := by decide +kernel
theorem dX6_limit_1 : decode cX6_limit 1 = .ok (.invokestatic 92, 3) := by decide +kernel
theorem dX6_limit_4 : decode cX6_limit 4 = .ok (.ifCond .ne 6, 3) := by decide +kernel
theorem dX6_limit_7 : decode cX6_limit 7 = .ok (.bipush (-2), 2) := by decide +kernel
theorem dX6_limit_9 : decode cX6_limit 9 = .ok (.ireturn, 1) := by decide +kernel
theorem dX6_limit_10 : decode cX6_limit 10 = .ok (.aload_n 0, 1) := by decide +kernel
theorem dX6_limit_11 : decode cX6_limit 11 = .ok (.getfield 12, 3) := by decide +kernel
theorem dX6_limit_14 : decode cX6_limit 14 = .ok (.getfield 95, 3) := by decide +kernel
theorem dX6_limit_17 : decode cX6_limit 17 = .ok (.istore_n 2, 1) := by decide +kernel
theorem dX6_limit_18 : decode cX6_limit 18 = .ok (.aload_n 0, 1) := by decide +kernel
theorem dX6_limit_19 : decode cX6_limit 19 = .ok (.getfield 12, 3) := by decide +kernel
theorem dX6_limit_22 : decode cX6_limit 22 = .ok (.iload_n 1, 1) := by decide +kernel
theorem dX6_limit_23 : decode cX6_limit 23 = .ok (.putfield 95, 3) := by decide +kernel
theorem dX6_limit_26 : decode cX6_limit 26 = .ok (.iload_n 2, 1) := by decide +kernel
theorem dX6_limit_27 : decode cX6_limit 27 = .ok (.ireturn, 1) := by decide +kernel
set_option maxRecDepth 20000 in
theorem ggX6_say_X6_isWithin : GoodIn wsX6_say wsX6_isWithin := goodIn_r _ [7] (by decide +kernel) (by decide +kernel)
set_option maxRecDepth 20000 in
theorem gX6_say_X6_isWithin : GoodIn wsX6_say (va_wsS RX6 72 yX6_isWithin wsX6_isWithin) := goodIn_app (goodIn_of _ (by decide +kernel)) ggX6_say_X6_isWithin
theorem dX6_say_0 : decode cX6_say 0 = .ok (.iload_n 1, 1) := by decide +kernel
theorem dX6_say_1 : decode cX6_say 1 = .ok (.bipush 33, 2) := by decide +kernel
theorem dX6_say_3 : decode cX6_say 3 = .ok (.bipush 126, 2) := by decide +kernel
theorem dX6_say_5 : decode cX6_say 5 = .ok (.invokestatic 72, 3) := by decide +kernel
theorem dX6_say_8 : decode cX6_say 8 = .ok (.ifCond .ne 6, 3) := by decide +kernel
theorem dX6_say_11 : decode cX6_say 11 = .ok (.bipush (-2), 2) := by decide +kernel
theorem dX6_say_13 : decode cX6_say 13 = .ok (.ireturn, 1) := by decide +kernel
theorem dX6_say_14 : decode cX6_say 14 = .ok (.aload_n 0, 1) := by decide +kernel
theorem dX6_say_15 : decode cX6_say 15 = .ok (.getfield 22, 3) := by decide +kernel
theorem dX6_say_18 : decode cX6_say 18 = .ok (.getfield 99, 3) := by decide +kernel
theorem dX6_say_21 : decode cX6_say 21 = .ok (.bipush 60, 2) := by decide +kernel
theorem dX6_say_23 : decode cX6_say 23 = .ok (.if_icmp .lt 6, 3) := by decide +kernel
theorem dX6_say_26 : decode cX6_say 26 = .ok (.bipush (-4), 2) := by decide +kernel
theorem dX6_say_28 : decode cX6_say 28 = .ok (.ireturn, 1) := by decide +kernel
theorem dX6_say_29 : decode cX6_say 29 = .ok (.aload_n 0, 1) := by decide +kernel
theorem dX6_say_30 : decode cX6_say 30 = .ok (.getfield 22, 3) := by decide +kernel
theorem dX6_say_33 : decode cX6_say 33 = .ok (.getfield 102, 3) := by decide +kernel
theorem dX6_say_36 : decode cX6_say 36 = .ok (.aload_n 0, 1) := by decide +kernel
theorem dX6_say_37 : decode cX6_say 37 = .ok (.getfield 22, 3) := by decide +kernel
theorem dX6_say_40 : decode cX6_say 40 = .ok (.getfield 99, 3) := by decide +kernel
theorem dX6_say_43 : decode cX6_say 43 = .ok (.iload_n 1, 1) := by decide +kernel
theorem dX6_say_44 : decode cX6_say 44 = .ok (.iastore, 1) := by decide +kernel
theorem dX6_say_45 : decode cX6_say 45 = .ok (.aload_n 0, 1) := by decide +kernel
theorem dX6_say_46 : decode cX6_say 46 = .ok (.getfield 22, 3) := by decide +kernel
theorem dX6_say_49 : decode cX6_say 49 = .ok (.dup, 1) := by decide +kernel
theorem dX6_say_50 : decode cX6_say 50 = .ok (.getfield 99, 3) := by decide +kernel
theorem dX6_say_53 : decode cX6_say 53 = .ok (.iconst 1, 1) := by decide +kernel
theorem dX6_say_54 : decode cX6_say 54 = .ok (.iadd, 1) := by decide +kernel
theorem dX6_say_55 : decode cX6_say 55 = .ok (.putfield 99, 3) := by decide +kernel
theorem dX6_say_58 : decode cX6_say 58 = .ok (.aload_n 0, 1) := by decide +kernel
theorem dX6_say_59 : decode cX6_say 59 = .ok (.getfield 22, 3) := by decide +kernel
theorem dX6_say_62 : decode cX6_say 62 = .ok (.getfield 99, 3) := by decide +kernel
theorem dX6_say_65 : decode cX6_say 65 = .ok (.ireturn, 1) := by decide +kernel
theorem dX6_wipe_0 : decode cX6_wipe 0 = .ok (.aload_n 0, 1) := by decide +kernel
theorem dX6_wipe_1 : decode cX6_wipe 1 = .ok (.getfield 22, 3) := by decide +kernel
theorem dX6_wipe_4 : decode cX6_wipe 4 = .ok (.getfield 99, 3) := by decide +kernel
theorem dX6_wipe_7 : decode cX6_wipe 7 = .ok (.istore_n 1, 1) := by decide +kernel
theorem dX6_wipe_8 : decode cX6_wipe 8 = .ok (.aload_n 0, 1) := by decide +kernel
theorem dX6_wipe_9 : decode cX6_wipe 9 = .ok (.getfield 22, 3) := by decide +kernel
theorem dX6_wipe_12 : decode cX6_wipe 12 = .ok (.iconst 0, 1) := by decide +kernel
theorem dX6_wipe_13 : decode cX6_wipe 13 = .ok (.putfield 99, 3) := by decide +kernel
theorem dX6_wipe_16 : decode cX6_wipe 16 = .ok (.iload_n 1, 1) := by decide +kernel
theorem dX6_wipe_17 : decode cX6_wipe 17 = .ok (.ireturn, 1) := by decide +kernel
set_option maxRecDepth 20000 in
theorem ggX6_fault_X5_faultPlace : GoodIn wsX6_fault wsX5_faultPlace := goodIn_r _ [6, 7, 8, 9, 10, 5, 11, 12, 13, 14, 15, 16, 17, 18, 19, 20, 21, 22, 23, 24, 25, 26, 38, 39] (by decide +kernel) (by decide +kernel)
set_option maxRecDepth 20000 in
theorem gX6_fault_X5_faultPlace : GoodIn wsX6_fault (wsV RX6 105 RX5 yX5_faultPlace wsX5_faultPlace) := goodIn_app (goodIn_of _ (by decide +kernel)) ggX6_fault_X5_faultPlace
theorem dX6_fault_0 : decode cX6_fault 0 = .ok (.aload_n 0, 1) := by decide +kernel
theorem dX6_fault_1 : decode cX6_fault 1 = .ok (.getfield 22, 3) := by decide +kernel
theorem dX6_fault_4 : decode cX6_fault 4 = .ok (.invokevirtual 105, 3) := by decide +kernel
theorem dX6_fault_7 : decode cX6_fault 7 = .ok (.ireturn, 1) := by decide +kernel
set_option maxRecDepth 20000 in
theorem ggX6_judge_X6_isWithin : GoodIn wsX6_judge wsX6_isWithin := goodIn_r _ [9] (by decide +kernel) (by decide +kernel)
set_option maxRecDepth 20000 in
theorem gX6_judge_X6_isWithin : GoodIn wsX6_judge (va_wsS RX6 72 yX6_isWithin wsX6_isWithin) := goodIn_app (goodIn_of _ (by decide +kernel)) ggX6_judge_X6_isWithin
set_option maxRecDepth 20000 in
theorem ggX6_judge_X5_faultPlace : GoodIn wsX6_judge wsX5_faultPlace := goodIn_r _ [14, 15, 16, 17, 18, 13, 19, 20, 21, 22, 23, 24, 25, 7, 8, 9, 26, 27, 28, 29, 30, 31, 134, 135] (by decide +kernel) (by decide +kernel)
set_option maxRecDepth 20000 in
theorem gX6_judge_X5_faultPlace : GoodIn wsX6_judge (wsV RX6 105 RX5 yX5_faultPlace wsX5_faultPlace) := goodIn_app (goodIn_of _ (by decide +kernel)) ggX6_judge_X5_faultPlace
set_option maxRecDepth 20000 in
theorem ggX6_judge_X1_play : GoodIn wsX6_judge wsX1_play := goodIn_r _ [36, 37, 38, 39, 40, 41, 42, 43, 44, 45, 46, 47, 48, 49, 50, 51, 52, 53, 54, 55, 56, 57, 58, 59, 60, 61, 62, 63, 64, 65, 66, 67, 68, 13, 69, 16, 15, 17, 18, 19, 20, 21, 22, 70, 71, 72, 73, 74, 75, 76, 30, 31, 77, 78, 79, 80, 81, 82, 83, 84, 85, 8, 86, 87, 88, 6, 7, 9, 89, 90, 91, 35, 92, 93, 94, 95, 96, 97, 98, 99, 100, 101, 102, 103, 104, 105, 106, 107, 108, 109, 110, 111, 112, 113, 114, 115, 116, 117, 118, 130, 131, 132, 133, 134, 135, 136, 137, 138, 139, 140, 141, 142, 143, 144, 145, 146, 147, 148] (by decide +kernel) (by decide +kernel)
set_option maxRecDepth 20000 in
theorem gX6_judge_X1_play : GoodIn wsX6_judge (wsV RX6 109 RX1 yX1_play wsX1_play) := goodIn_app (goodIn_of _ (by decide +kernel)) ggX6_judge_X1_play
theorem dX6_judge_0 : decode cX6_judge 0 = .ok (.iload_n 1, 1) := by decide +kernel
theorem dX6_judge_1 : decode cX6_judge 1 = .ok (.iconst 0, 1) := by decide +kernel
theorem dX6_judge_2 : decode cX6_judge 2 = .ok (.iconst 1, 1) := by decide +kernel
theorem dX6_judge_3 : decode cX6_judge 3 = .ok (.invokestatic 72, 3) := by decide +kernel
theorem dX6_judge_6 : decode cX6_judge 6 = .ok (.ifCond .ne 6, 3) := by decide +kernel
theorem dX6_judge_9 : decode cX6_judge 9 = .ok (.bipush (-2), 2) := by decide +kernel
theorem dX6_judge_11 : decode cX6_judge 11 = .ok (.ireturn, 1) := by decide +kernel
theorem dX6_judge_12 : decode cX6_judge 12 = .ok (.aload_n 0, 1) := by decide +kernel
theorem dX6_judge_13 : decode cX6_judge 13 = .ok (.getfield 22, 3) := by decide +kernel
theorem dX6_judge_16 : decode cX6_judge 16 = .ok (.invokevirtual 105, 3) := by decide +kernel
theorem dX6_judge_19 : decode cX6_judge 19 = .ok (.bipush (-6), 2) := by decide +kernel
theorem dX6_judge_21 : decode cX6_judge 21 = .ok (.if_icmp .eq 6, 3) := by decide +kernel
theorem dX6_judge_24 : decode cX6_judge 24 = .ok (.bipush (-5), 2) := by decide +kernel
theorem dX6_judge_26 : decode cX6_judge 26 = .ok (.ireturn, 1) := by decide +kernel
theorem dX6_judge_27 : decode cX6_judge 27 = .ok (.aload_n 0, 1) := by decide +kernel
theorem dX6_judge_28 : decode cX6_judge 28 = .ok (.getfield 29, 3) := by decide +kernel
theorem dX6_judge_31 : decode cX6_judge 31 = .ok (.aload_n 0, 1) := by decide +kernel
theorem dX6_judge_32 : decode cX6_judge 32 = .ok (.getfield 12, 3) := by decide +kernel
theorem dX6_judge_35 : decode cX6_judge 35 = .ok (.aload_n 0, 1) := by decide +kernel
theorem dX6_judge_36 : decode cX6_judge 36 = .ok (.getfield 22, 3) := by decide +kernel
theorem dX6_judge_39 : decode cX6_judge 39 = .ok (.invokevirtual 109, 3) := by decide +kernel
theorem dX6_judge_42 : decode cX6_judge 42 = .ok (.aload_n 0, 1) := by decide +kernel
theorem dX6_judge_43 : decode cX6_judge 43 = .ok (.getfield 29, 3) := by decide +kernel
theorem dX6_judge_46 : decode cX6_judge 46 = .ok (.getfield 113, 3) := by decide +kernel
theorem dX6_judge_49 : decode cX6_judge 49 = .ok (.ifCond .ne 6, 3) := by decide +kernel
theorem dX6_judge_52 : decode cX6_judge 52 = .ok (.bipush (-6), 2) := by decide +kernel
theorem dX6_judge_54 : decode cX6_judge 54 = .ok (.ireturn, 1) := by decide +kernel
theorem dX6_judge_55 : decode cX6_judge 55 = .ok (.iload_n 1, 1) := by decide +kernel
theorem dX6_judge_56 : decode cX6_judge 56 = .ok (.ifCond .ne 13, 3) := by decide +kernel
theorem dX6_judge_59 : decode cX6_judge 59 = .ok (.aload_n 0, 1) := by decide +kernel
theorem dX6_judge_60 : decode cX6_judge 60 = .ok (.getfield 29, 3) := by decide +kernel
theorem dX6_judge_63 : decode cX6_judge 63 = .ok (.getfield 116, 3) := by decide +kernel
theorem dX6_judge_66 : decode cX6_judge 66 = .ok (.goto 10, 3) := by decide +kernel
theorem dX6_judge_69 : decode cX6_judge 69 = .ok (.aload_n 0, 1) := by decide +kernel
theorem dX6_judge_70 : decode cX6_judge 70 = .ok (.getfield 29, 3) := by decide +kernel
theorem dX6_judge_73 : decode cX6_judge 73 = .ok (.getfield 113, 3) := by decide +kernel
theorem dX6_judge_76 : decode cX6_judge 76 = .ok (.ireturn, 1) := by decide +kernel
set_option maxRecDepth 20000 in
theorem ggX6_done_X6_daysCanBe : GoodIn wsX6_done wsX6_daysCanBe := goodIn_r _ [11, 4, 2, 1, 12, 13, 14, 15, 16, 17, 18, 19, 20, 21, 22, 23, 24, 25, 26, 27, 28, 29, 10, 30, 31, 32, 33, 34, 35, 36, 37, 38, 39, 40, 41, 42, 43, 44, 45, 46, 47, 48, 49, 50, 51, 52, 53, 54, 55, 56, 57, 58, 59, 60, 61, 62, 63, 64, 65, 66, 67, 68, 69, 70, 71, 72, 73, 74, 75, 76, 77, 78, 79, 80, 81, 82, 83, 84, 85, 86, 87, 88, 89, 90, 91, 92, 93, 94, 95, 96, 97, 98, 99, 100, 101, 102, 103, 104, 105, 106, 107, 108, 109, 110, 111, 112, 113, 114, 115, 116, 117, 118, 119, 120, 121, 122, 123, 124, 126, 127, 128, 129, 130, 131, 132, 133, 134, 135, 136, 137, 138, 139, 140, 141, 142, 143, 144, 145, 146, 147, 148, 149, 150, 151, 152, 153, 154, 155] (by decide +kernel) (by decide +kernel)
set_option maxRecDepth 20000 in
theorem gX6_done_X6_daysCanBe : GoodIn wsX6_done (wsV RX6 119 RX6 yX6_daysCanBe wsX6_daysCanBe) := goodIn_app (goodIn_of _ (by decide +kernel)) ggX6_done_X6_daysCanBe
set_option maxRecDepth 20000 in
theorem ggX6_done_X3_become : GoodIn wsX6_done wsX3_become := goodIn_r _ [53, 54, 55, 56, 57, 58, 59, 60, 61, 62, 63, 64, 65, 66, 67, 68, 69, 70, 143, 144, 145, 146, 147, 148, 149, 150, 151, 152, 153, 154, 155] (by decide +kernel) (by decide +kernel)
set_option maxRecDepth 20000 in
theorem gX6_done_X3_become : GoodIn wsX6_done (wsV RX6 126 RX3 yX3_become wsX3_become) := goodIn_app (goodIn_of _ (by decide +kernel)) ggX6_done_X3_become
theorem dX6_done_0 : decode cX6_done 0 = .ok (.aload_n 0, 1) := by decide +kernel
theorem dX6_done_1 : decode cX6_done 1 = .ok (.invokevirtual 119, 3) := by decide +kernel
theorem dX6_done_4 : decode cX6_done 4 = .ok (.ifCond .ne 6, 3) := by decide +kernel
theorem dX6_done_7 : decode cX6_done 7 = .ok (.bipush (-5), 2) := by decide +kernel
theorem dX6_done_9 : decode cX6_done 9 = .ok (.ireturn, 1) := by decide +kernel
theorem dX6_done_10 : decode cX6_done 10 = .ok (.aload_n 0, 1) := by decide +kernel
theorem dX6_done_11 : decode cX6_done 11 = .ok (.getfield 12, 3) := by decide +kernel
theorem dX6_done_14 : decode cX6_done 14 = .ok (.aload_n 0, 1) := by decide +kernel
theorem dX6_done_15 : decode cX6_done 15 = .ok (.getfield 29, 3) := by decide +kernel
theorem dX6_done_18 : decode cX6_done 18 = .ok (.getfield 123, 3) := by decide +kernel
theorem dX6_done_21 : decode cX6_done 21 = .ok (.invokevirtual 126, 3) := by decide +kernel
theorem dX6_done_24 : decode cX6_done 24 = .ok (.aload_n 0, 1) := by decide +kernel
theorem dX6_done_25 : decode cX6_done 25 = .ok (.getfield 22, 3) := by decide +kernel
theorem dX6_done_28 : decode cX6_done 28 = .ok (.iconst 0, 1) := by decide +kernel
theorem dX6_done_29 : decode cX6_done 29 = .ok (.putfield 99, 3) := by decide +kernel
theorem dX6_done_32 : decode cX6_done 32 = .ok (.aload_n 0, 1) := by decide +kernel
theorem dX6_done_33 : decode cX6_done 33 = .ok (.getfield 29, 3) := by decide +kernel
theorem dX6_done_36 : decode cX6_done 36 = .ok (.getfield 116, 3) := by decide +kernel
theorem dX6_done_39 : decode cX6_done 39 = .ok (.ireturn, 1) := by decide +kernel
set_option maxRecDepth 20000 in
theorem ggX6_behind_X6_isWithin : GoodIn wsX6_behind wsX6_isWithin := goodIn_r _ [7] (by decide +kernel) (by decide +kernel)
set_option maxRecDepth 20000 in
theorem gX6_behind_X6_isWithin : GoodIn wsX6_behind (va_wsS RX6 72 yX6_isWithin wsX6_isWithin) := goodIn_app (goodIn_of _ (by decide +kernel)) ggX6_behind_X6_isWithin
set_option maxRecDepth 20000 in
theorem ggX6_behind_X6_daysCanBe : GoodIn wsX6_behind wsX6_daysCanBe := goodIn_r _ [11, 12, 1, 13, 14, 15, 16, 17, 18, 19, 20, 21, 22, 23, 24, 25, 26, 27, 28, 29, 30, 5, 6, 7, 31, 32, 33, 34, 35, 36, 37, 38, 39, 40, 41, 42, 43, 44, 45, 46, 47, 48, 49, 50, 51, 52, 53, 54, 55, 56, 57, 58, 59, 60, 61, 62, 63, 64, 65, 66, 67, 68, 69, 70, 71, 72, 73, 74, 75, 76, 77, 78, 79, 80, 81, 82, 83, 84, 85, 86, 87, 88, 89, 90, 91, 92, 93, 4, 94, 95, 96, 97, 98, 99, 100, 101, 102, 103, 104, 105, 106, 107, 108, 109, 110, 111, 112, 113, 114, 115, 116, 117, 118, 119, 120, 121, 122, 123, 125, 126, 127, 128, 129, 130, 131, 132, 133, 134, 135, 136, 137, 138, 139, 153, 154, 140, 141, 142, 143, 144, 145, 146, 147, 148, 149, 150, 151, 152] (by decide +kernel) (by decide +kernel)
set_option maxRecDepth 20000 in
theorem gX6_behind_X6_daysCanBe : GoodIn wsX6_behind (wsV RX6 119 RX6 yX6_daysCanBe wsX6_daysCanBe) := goodIn_app (goodIn_of _ (by decide +kernel)) ggX6_behind_X6_daysCanBe
set_option maxRecDepth 20000 in
theorem ggX6_behind_X3_seenToday : GoodIn wsX6_behind wsX3_seenToday := goodIn_r _ [105, 62, 69, 70, 54, 59, 106, 107, 108, 52, 109, 61, 110, 6, 111, 140, 141, 142, 143, 144, 145, 146, 147, 148, 149, 150, 151, 152] (by decide +kernel) (by decide +kernel)
set_option maxRecDepth 20000 in
theorem gX6_behind_X3_seenToday : GoodIn wsX6_behind (wsV RX6 133 RX3 yX3_seenToday wsX3_seenToday) := goodIn_app (goodIn_of _ (by decide +kernel)) ggX6_behind_X3_seenToday
theorem dX6_behind_0 : decode cX6_behind 0 = .ok (.iload_n 1, 1) := by decide +kernel
theorem dX6_behind_1 : decode cX6_behind 1 = .ok (.iconst 0, 1) := by decide +kernel
theorem dX6_behind_2 : decode cX6_behind 2 = .ok (.iconst 3, 1) := by decide +kernel
theorem dX6_behind_3 : decode cX6_behind 3 = .ok (.invokestatic 72, 3) := by decide +kernel
theorem dX6_behind_6 : decode cX6_behind 6 = .ok (.ifCond .ne 6, 3) := by decide +kernel
theorem dX6_behind_9 : decode cX6_behind 9 = .ok (.bipush (-2), 2) := by decide +kernel
theorem dX6_behind_11 : decode cX6_behind 11 = .ok (.ireturn, 1) := by decide +kernel
theorem dX6_behind_12 : decode cX6_behind 12 = .ok (.aload_n 0, 1) := by decide +kernel
theorem dX6_behind_13 : decode cX6_behind 13 = .ok (.invokevirtual 119, 3) := by decide +kernel
theorem dX6_behind_16 : decode cX6_behind 16 = .ok (.ifCond .ne 6, 3) := by decide +kernel
theorem dX6_behind_19 : decode cX6_behind 19 = .ok (.bipush (-5), 2) := by decide +kernel
theorem dX6_behind_21 : decode cX6_behind 21 = .ok (.ireturn, 1) := by decide +kernel
theorem dX6_behind_22 : decode cX6_behind 22 = .ok (.iload_n 1, 1) := by decide +kernel
theorem dX6_behind_23 : decode cX6_behind 23 = .ok (.iconst 3, 1) := by decide +kernel
theorem dX6_behind_24 : decode cX6_behind 24 = .ok (.if_icmp .ne 16, 3) := by decide +kernel
theorem dX6_behind_27 : decode cX6_behind 27 = .ok (.aload_n 0, 1) := by decide +kernel
theorem dX6_behind_28 : decode cX6_behind 28 = .ok (.getfield 29, 3) := by decide +kernel
theorem dX6_behind_31 : decode cX6_behind 31 = .ok (.getfield 123, 3) := by decide +kernel
theorem dX6_behind_34 : decode cX6_behind 34 = .ok (.getfield 130, 3) := by decide +kernel
theorem dX6_behind_37 : decode cX6_behind 37 = .ok (.goto 15, 3) := by decide +kernel
theorem dX6_behind_40 : decode cX6_behind 40 = .ok (.aload_n 0, 1) := by decide +kernel
theorem dX6_behind_41 : decode cX6_behind 41 = .ok (.getfield 29, 3) := by decide +kernel
theorem dX6_behind_44 : decode cX6_behind 44 = .ok (.getfield 123, 3) := by decide +kernel
theorem dX6_behind_47 : decode cX6_behind 47 = .ok (.iload_n 1, 1) := by decide +kernel
theorem dX6_behind_48 : decode cX6_behind 48 = .ok (.iconst 0, 1) := by decide +kernel
theorem dX6_behind_49 : decode cX6_behind 49 = .ok (.invokevirtual 133, 3) := by decide +kernel
theorem dX6_behind_52 : decode cX6_behind 52 = .ok (.ireturn, 1) := by decide +kernel
set_option maxRecDepth 20000 in
theorem ggX6_broken_X6_daysCanBe : GoodIn wsX6_broken wsX6_daysCanBe := goodIn_r _ [7, 8, 1, 9, 10, 11, 12, 13, 14, 15, 16, 17, 18, 19, 20, 21, 22, 23, 24, 25, 26, 27, 6, 28, 29, 30, 31, 32, 33, 34, 35, 36, 37, 38, 39, 40, 41, 42, 43, 44, 45, 46, 47, 48, 49, 50, 51, 52, 53, 54, 55, 56, 57, 58, 59, 60, 61, 62, 63, 64, 65, 66, 67, 68, 69, 70, 71, 72, 73, 74, 75, 76, 77, 78, 79, 80, 81, 82, 83, 84, 85, 86, 87, 88, 89, 90, 91, 92, 93, 94, 95, 96, 97, 98, 99, 100, 101, 102, 103, 104, 105, 106, 107, 108, 109, 110, 111, 112, 113, 114, 115, 116, 117, 118, 119, 120, 121, 122, 123, 124, 125, 126, 127, 128, 129, 130, 131, 132, 133, 134, 135, 136, 137, 138, 139, 140, 141, 142, 143, 144, 145, 146, 147, 148, 149, 150, 151, 152] (by decide +kernel) (by decide +kernel)
set_option maxRecDepth 20000 in
theorem gX6_broken_X6_daysCanBe : GoodIn wsX6_broken (wsV RX6 119 RX6 yX6_daysCanBe wsX6_daysCanBe) := goodIn_app (goodIn_of _ (by decide +kernel)) ggX6_broken_X6_daysCanBe
theorem dX6_broken_0 : decode cX6_broken 0 = .ok (.aload_n 0, 1) := by decide +kernel
theorem dX6_broken_1 : decode cX6_broken 1 = .ok (.invokevirtual 119, 3) := by decide +kernel
theorem dX6_broken_4 : decode cX6_broken 4 = .ok (.ifCond .eq 13, 3) := by decide +kernel
theorem dX6_broken_7 : decode cX6_broken 7 = .ok (.aload_n 0, 1) := by decide +kernel
theorem dX6_broken_8 : decode cX6_broken 8 = .ok (.getfield 29, 3) := by decide +kernel
theorem dX6_broken_11 : decode cX6_broken 11 = .ok (.getfield 136, 3) := by decide +kernel
theorem dX6_broken_14 : decode cX6_broken 14 = .ok (.goto 5, 3) := by decide +kernel
theorem dX6_broken_17 : decode cX6_broken 17 = .ok (.bipush (-5), 2) := by decide +kernel
theorem dX6_broken_19 : decode cX6_broken 19 = .ok (.ireturn, 1) := by decide +kernel
set_option maxRecDepth 20000 in
theorem ggX6_sees_X6_isColour : GoodIn wsX6_sees wsX6_isColour := goodIn_r _ [5, 6, 7, 4, 8] (by decide +kernel) (by decide +kernel)
set_option maxRecDepth 20000 in
theorem gX6_sees_X6_isColour : GoodIn wsX6_sees (va_wsS RX6 139 yX6_isColour wsX6_isColour) := goodIn_app (goodIn_of _ (by decide +kernel)) ggX6_sees_X6_isColour
set_option maxRecDepth 20000 in
theorem ggX6_sees_X3_seenToday : GoodIn wsX6_sees wsX3_seenToday := goodIn_r _ [13, 14, 15, 16, 17, 18, 19, 20, 21, 12, 22, 23, 24, 4, 25, 37, 38, 39, 40, 41, 42, 43, 44, 45, 46, 47, 48, 49] (by decide +kernel) (by decide +kernel)
set_option maxRecDepth 20000 in
theorem gX6_sees_X3_seenToday : GoodIn wsX6_sees (wsV RX6 133 RX3 yX3_seenToday wsX3_seenToday) := goodIn_app (goodIn_of _ (by decide +kernel)) ggX6_sees_X3_seenToday
theorem dX6_sees_0 : decode cX6_sees 0 = .ok (.iload_n 1, 1) := by decide +kernel
theorem dX6_sees_1 : decode cX6_sees 1 = .ok (.invokestatic 139, 3) := by decide +kernel
theorem dX6_sees_4 : decode cX6_sees 4 = .ok (.ifCond .eq 15, 3) := by decide +kernel
theorem dX6_sees_7 : decode cX6_sees 7 = .ok (.aload_n 0, 1) := by decide +kernel
theorem dX6_sees_8 : decode cX6_sees 8 = .ok (.getfield 12, 3) := by decide +kernel
theorem dX6_sees_11 : decode cX6_sees 11 = .ok (.iload_n 1, 1) := by decide +kernel
theorem dX6_sees_12 : decode cX6_sees 12 = .ok (.iconst 0, 1) := by decide +kernel
theorem dX6_sees_13 : decode cX6_sees 13 = .ok (.invokevirtual 133, 3) := by decide +kernel
theorem dX6_sees_16 : decode cX6_sees 16 = .ok (.goto 5, 3) := by decide +kernel
theorem dX6_sees_19 : decode cX6_sees 19 = .ok (.bipush (-2), 2) := by decide +kernel
theorem dX6_sees_21 : decode cX6_sees 21 = .ok (.ireturn, 1) := by decide +kernel
set_option maxRecDepth 20000 in
theorem ggX6_forecast_X6_isColour : GoodIn wsX6_forecast wsX6_isColour := goodIn_r _ [4, 5, 6, 3, 7] (by decide +kernel) (by decide +kernel)
set_option maxRecDepth 20000 in
theorem gX6_forecast_X6_isColour : GoodIn wsX6_forecast (va_wsS RX6 139 yX6_isColour wsX6_isColour) := goodIn_app (goodIn_of _ (by decide +kernel)) ggX6_forecast_X6_isColour
set_option maxRecDepth 20000 in
theorem ggX6_forecast_X6_isAhead : GoodIn wsX6_forecast wsX6_isAhead := goodIn_r _ [10, 5, 6, 3, 7] (by decide +kernel) (by decide +kernel)
set_option maxRecDepth 20000 in
theorem gX6_forecast_X6_isAhead : GoodIn wsX6_forecast (va_wsS RX6 142 yX6_isAhead wsX6_isAhead) := goodIn_app (goodIn_of _ (by decide +kernel)) ggX6_forecast_X6_isAhead
set_option maxRecDepth 20000 in
theorem ggX6_forecast_X6_seenWith : GoodIn wsX6_forecast wsX6_seenWith := goodIn_r _ [14, 15, 16, 17, 18, 19, 20, 21, 22, 23, 24, 25, 26, 27, 28, 29, 30, 31, 32, 33, 34, 35, 36, 37, 38, 39, 40, 3, 41, 42, 43, 44, 45, 46, 47, 48, 49, 50, 51, 52, 53, 54, 55, 56, 57, 9, 10, 5, 6, 7, 58, 59, 60, 61, 62, 63, 64, 65, 66, 67, 68, 69, 70, 71, 72, 73, 74, 75, 76, 77, 78, 79, 80, 81, 82] (by decide +kernel) (by decide +kernel)
set_option maxRecDepth 20000 in
theorem gX6_forecast_X6_seenWith : GoodIn wsX6_forecast (wsV RX6 145 RX6 yX6_seenWith wsX6_seenWith) := goodIn_app (goodIn_of _ (by decide +kernel)) ggX6_forecast_X6_seenWith
theorem dX6_forecast_0 : decode cX6_forecast 0 = .ok (.iload_n 1, 1) := by decide +kernel
theorem dX6_forecast_1 : decode cX6_forecast 1 = .ok (.invokestatic 139, 3) := by decide +kernel
theorem dX6_forecast_4 : decode cX6_forecast 4 = .ok (.ifCond .eq 10, 3) := by decide +kernel
theorem dX6_forecast_7 : decode cX6_forecast 7 = .ok (.iload_n 2, 1) := by decide +kernel
theorem dX6_forecast_8 : decode cX6_forecast 8 = .ok (.invokestatic 142, 3) := by decide +kernel
theorem dX6_forecast_11 : decode cX6_forecast 11 = .ok (.ifCond .ne 6, 3) := by decide +kernel
theorem dX6_forecast_14 : decode cX6_forecast 14 = .ok (.bipush (-2), 2) := by decide +kernel
theorem dX6_forecast_16 : decode cX6_forecast 16 = .ok (.ireturn, 1) := by decide +kernel
theorem dX6_forecast_17 : decode cX6_forecast 17 = .ok (.aload_n 0, 1) := by decide +kernel
theorem dX6_forecast_18 : decode cX6_forecast 18 = .ok (.iload_n 1, 1) := by decide +kernel
theorem dX6_forecast_19 : decode cX6_forecast 19 = .ok (.iload_n 2, 1) := by decide +kernel
theorem dX6_forecast_20 : decode cX6_forecast 20 = .ok (.iconst 0, 1) := by decide +kernel
theorem dX6_forecast_21 : decode cX6_forecast 21 = .ok (.invokevirtual 145, 3) := by decide +kernel
theorem dX6_forecast_24 : decode cX6_forecast 24 = .ok (.ireturn, 1) := by decide +kernel
set_option maxRecDepth 20000 in
theorem ggX6_gone_X0_fromNow : GoodIn wsX6_gone wsX0_fromNow := goodIn_r _ [11, 12, 13, 14, 15, 16, 17, 18, 19, 20, 21, 22, 23, 24, 25, 26, 27, 28, 29, 30, 31, 32, 69, 70, 71, 72, 73, 74, 75, 76, 77, 78, 79, 80, 81, 82] (by decide +kernel) (by decide +kernel)
set_option maxRecDepth 20000 in
theorem gX6_gone_X0_fromNow : GoodIn wsX6_gone (wsV RX6 149 RX0 yX0_fromNow wsX0_fromNow) := goodIn_app (goodIn_of _ (by decide +kernel)) ggX6_gone_X0_fromNow
set_option maxRecDepth 20000 in
theorem ggX6_gone_X0_run : GoodIn wsX6_gone wsX0_run := goodIn_r _ [36, 12, 37, 31, 38, 39, 40, 41, 10, 42, 43, 44, 30, 32, 69, 70, 71, 72, 73, 74, 75, 76, 77, 78, 79, 80, 81, 82] (by decide +kernel) (by decide +kernel)
set_option maxRecDepth 20000 in
theorem gX6_gone_X0_run : GoodIn wsX6_gone (wsV RX6 153 RX0 yX0_run wsX0_run) := goodIn_app (goodIn_of _ (by decide +kernel)) ggX6_gone_X0_run
set_option maxRecDepth 20000 in
theorem ggX6_gone_X0_lastSeen : GoodIn wsX6_gone wsX0_lastSeen := goodIn_r _ [48, 49, 50, 51, 10, 52, 12, 53, 31, 54, 55, 56, 57, 69] (by decide +kernel) (by decide +kernel)
set_option maxRecDepth 20000 in
theorem gX6_gone_X0_lastSeen : GoodIn wsX6_gone (wsV RX6 156 RX0 yX0_lastSeen wsX0_lastSeen) := goodIn_app (goodIn_of _ (by decide +kernel)) ggX6_gone_X0_lastSeen
theorem dX6_gone_0 : decode cX6_gone 0 = .ok (.iconst 0, 1) := by decide +kernel
theorem dX6_gone_1 : decode cX6_gone 1 = .ok (.istore_n 1, 1) := by decide +kernel
theorem dX6_gone_2 : decode cX6_gone 2 = .ok (.iconst 0, 1) := by decide +kernel
theorem dX6_gone_3 : decode cX6_gone 3 = .ok (.istore_n 2, 1) := by decide +kernel
theorem dX6_gone_4 : decode cX6_gone 4 = .ok (.iload_n 2, 1) := by decide +kernel
theorem dX6_gone_5 : decode cX6_gone 5 = .ok (.iconst 3, 1) := by decide +kernel
theorem dX6_gone_6 : decode cX6_gone 6 = .ok (.if_icmp .ge 50, 3) := by decide +kernel
theorem dX6_gone_9 : decode cX6_gone 9 = .ok (.aload_n 0, 1) := by decide +kernel
theorem dX6_gone_10 : decode cX6_gone 10 = .ok (.getfield 36, 3) := by decide +kernel
theorem dX6_gone_13 : decode cX6_gone 13 = .ok (.aload_n 0, 1) := by decide +kernel
theorem dX6_gone_14 : decode cX6_gone 14 = .ok (.getfield 12, 3) := by decide +kernel
theorem dX6_gone_17 : decode cX6_gone 17 = .ok (.iload_n 2, 1) := by decide +kernel
theorem dX6_gone_18 : decode cX6_gone 18 = .ok (.iconst 0, 1) := by decide +kernel
theorem dX6_gone_19 : decode cX6_gone 19 = .ok (.invokevirtual 149, 3) := by decide +kernel
theorem dX6_gone_22 : decode cX6_gone 22 = .ok (.aload_n 0, 1) := by decide +kernel
theorem dX6_gone_23 : decode cX6_gone 23 = .ok (.getfield 36, 3) := by decide +kernel
theorem dX6_gone_26 : decode cX6_gone 26 = .ok (.aload_n 0, 1) := by decide +kernel
theorem dX6_gone_27 : decode cX6_gone 27 = .ok (.getfield 12, 3) := by decide +kernel
theorem dX6_gone_30 : decode cX6_gone 30 = .ok (.bipush 60, 2) := by decide +kernel
theorem dX6_gone_32 : decode cX6_gone 32 = .ok (.iconst 0, 1) := by decide +kernel
theorem dX6_gone_33 : decode cX6_gone 33 = .ok (.invokevirtual 153, 3) := by decide +kernel
theorem dX6_gone_36 : decode cX6_gone 36 = .ok (.iload_n 1, 1) := by decide +kernel
theorem dX6_gone_37 : decode cX6_gone 37 = .ok (.aload_n 0, 1) := by decide +kernel
theorem dX6_gone_38 : decode cX6_gone 38 = .ok (.getfield 36, 3) := by decide +kernel
theorem dX6_gone_41 : decode cX6_gone 41 = .ok (.invokevirtual 156, 3) := by decide +kernel
theorem dX6_gone_44 : decode cX6_gone 44 = .ok (.iconst 1, 1) := by decide +kernel
theorem dX6_gone_45 : decode cX6_gone 45 = .ok (.iadd, 1) := by decide +kernel
theorem dX6_gone_46 : decode cX6_gone 46 = .ok (.invokestatic 159, 3) := by decide +kernel
theorem dX6_gone_49 : decode cX6_gone 49 = .ok (.istore_n 1, 1) := by decide +kernel
theorem dX6_gone_50 : decode cX6_gone 50 = .ok (.iinc 2 1, 3) := by decide +kernel
theorem dX6_gone_53 : decode cX6_gone 53 = .ok (.goto (-49), 3) := by decide +kernel
theorem dX6_gone_56 : decode cX6_gone 56 = .ok (.iload_n 1, 1) := by decide +kernel
theorem dX6_gone_57 : decode cX6_gone 57 = .ok (.bipush 60, 2) := by decide +kernel
theorem dX6_gone_59 : decode cX6_gone 59 = .ok (.if_icmp .le 8, 3) := by decide +kernel
theorem dX6_gone_62 : decode cX6_gone 62 = .ok (.bipush (-6), 2) := by decide +kernel
theorem dX6_gone_64 : decode cX6_gone 64 = .ok (.goto 4, 3) := by decide +kernel
theorem dX6_gone_67 : decode cX6_gone 67 = .ok (.iload_n 1, 1) := by decide +kernel
theorem dX6_gone_68 : decode cX6_gone 68 = .ok (.ireturn, 1) := by decide +kernel
set_option maxRecDepth 20000 in
theorem ggX6_hue_X6_isAhead : GoodIn wsX6_hue wsX6_isAhead := goodIn_r _ [4, 5, 6, 3, 7] (by decide +kernel) (by decide +kernel)
set_option maxRecDepth 20000 in
theorem gX6_hue_X6_isAhead : GoodIn wsX6_hue (va_wsS RX6 142 yX6_isAhead wsX6_isAhead) := goodIn_app (goodIn_of _ (by decide +kernel)) ggX6_hue_X6_isAhead
set_option maxRecDepth 20000 in
theorem ggX6_hue_X6_seenWith : GoodIn wsX6_hue wsX6_seenWith := goodIn_r _ [11, 12, 13, 14, 15, 16, 17, 18, 19, 20, 21, 22, 23, 24, 25, 26, 27, 28, 29, 30, 31, 32, 33, 34, 35, 36, 37, 3, 38, 39, 40, 41, 42, 43, 44, 45, 46, 47, 48, 49, 50, 51, 52, 53, 54, 2, 4, 5, 6, 7, 55, 56, 57, 58, 59, 60, 61, 62, 63, 64, 65, 66, 67, 68, 69, 70, 71, 72, 73, 74, 75, 76, 77, 78, 79] (by decide +kernel) (by decide +kernel)
set_option maxRecDepth 20000 in
theorem gX6_hue_X6_seenWith : GoodIn wsX6_hue (wsV RX6 145 RX6 yX6_seenWith wsX6_seenWith) := goodIn_app (goodIn_of _ (by decide +kernel)) ggX6_hue_X6_seenWith
theorem dX6_hue_0 : decode cX6_hue 0 = .ok (.iload_n 1, 1) := by decide +kernel
theorem dX6_hue_1 : decode cX6_hue 1 = .ok (.invokestatic 142, 3) := by decide +kernel
theorem dX6_hue_4 : decode cX6_hue 4 = .ok (.ifCond .ne 6, 3) := by decide +kernel
theorem dX6_hue_7 : decode cX6_hue 7 = .ok (.bipush (-2), 2) := by decide +kernel
theorem dX6_hue_9 : decode cX6_hue 9 = .ok (.ireturn, 1) := by decide +kernel
theorem dX6_hue_10 : decode cX6_hue 10 = .ok (.bipush (-6), 2) := by decide +kernel
theorem dX6_hue_12 : decode cX6_hue 12 = .ok (.istore_n 2, 1) := by decide +kernel
theorem dX6_hue_13 : decode cX6_hue 13 = .ok (.iconst 0, 1) := by decide +kernel
theorem dX6_hue_14 : decode cX6_hue 14 = .ok (.istore_n 3, 1) := by decide +kernel
theorem dX6_hue_15 : decode cX6_hue 15 = .ok (.iconst 0, 1) := by decide +kernel
theorem dX6_hue_16 : decode cX6_hue 16 = .ok (.istore 4, 2) := by decide +kernel
theorem dX6_hue_18 : decode cX6_hue 18 = .ok (.iload 4, 2) := by decide +kernel
theorem dX6_hue_20 : decode cX6_hue 20 = .ok (.iconst 3, 1) := by decide +kernel
theorem dX6_hue_21 : decode cX6_hue 21 = .ok (.if_icmp .ge 31, 3) := by decide +kernel
theorem dX6_hue_24 : decode cX6_hue 24 = .ok (.aload_n 0, 1) := by decide +kernel
theorem dX6_hue_25 : decode cX6_hue 25 = .ok (.iload 4, 2) := by decide +kernel
theorem dX6_hue_27 : decode cX6_hue 27 = .ok (.iload_n 1, 1) := by decide +kernel
theorem dX6_hue_28 : decode cX6_hue 28 = .ok (.iconst 0, 1) := by decide +kernel
theorem dX6_hue_29 : decode cX6_hue 29 = .ok (.invokevirtual 145, 3) := by decide +kernel
theorem dX6_hue_32 : decode cX6_hue 32 = .ok (.istore 5, 2) := by decide +kernel
theorem dX6_hue_34 : decode cX6_hue 34 = .ok (.iload 5, 2) := by decide +kernel
theorem dX6_hue_36 : decode cX6_hue 36 = .ok (.iload_n 3, 1) := by decide +kernel
theorem dX6_hue_37 : decode cX6_hue 37 = .ok (.if_icmp .le 9, 3) := by decide +kernel
theorem dX6_hue_40 : decode cX6_hue 40 = .ok (.iload 5, 2) := by decide +kernel
theorem dX6_hue_42 : decode cX6_hue 42 = .ok (.istore_n 3, 1) := by decide +kernel
theorem dX6_hue_43 : decode cX6_hue 43 = .ok (.iload 4, 2) := by decide +kernel
theorem dX6_hue_45 : decode cX6_hue 45 = .ok (.istore_n 2, 1) := by decide +kernel
theorem dX6_hue_46 : decode cX6_hue 46 = .ok (.iinc 4 1, 3) := by decide +kernel
theorem dX6_hue_49 : decode cX6_hue 49 = .ok (.goto (-31), 3) := by decide +kernel
theorem dX6_hue_52 : decode cX6_hue 52 = .ok (.iload_n 2, 1) := by decide +kernel
theorem dX6_hue_53 : decode cX6_hue 53 = .ok (.ireturn, 1) := by decide +kernel
set_option maxRecDepth 20000 in
theorem ggX6_make_X6_isColour : GoodIn wsX6_make wsX6_isColour := goodIn_r _ [4, 5, 6, 3, 7] (by decide +kernel) (by decide +kernel)
set_option maxRecDepth 20000 in
theorem gX6_make_X6_isColour : GoodIn wsX6_make (va_wsS RX6 139 yX6_isColour wsX6_isColour) := goodIn_app (goodIn_of _ (by decide +kernel)) ggX6_make_X6_isColour
set_option maxRecDepth 20000 in
theorem ggX6_make_X6_isAhead : GoodIn wsX6_make wsX6_isAhead := goodIn_r _ [10, 5, 6, 3, 7] (by decide +kernel) (by decide +kernel)
set_option maxRecDepth 20000 in
theorem gX6_make_X6_isAhead : GoodIn wsX6_make (va_wsS RX6 142 yX6_isAhead wsX6_isAhead) := goodIn_app (goodIn_of _ (by decide +kernel)) ggX6_make_X6_isAhead
set_option maxRecDepth 20000 in
theorem ggX6_make_X6_isAmount : GoodIn wsX6_make wsX6_isAmount := goodIn_r _ [13, 5, 6, 3, 7] (by decide +kernel) (by decide +kernel)
set_option maxRecDepth 20000 in
theorem gX6_make_X6_isAmount : GoodIn wsX6_make (va_wsS RX6 92 yX6_isAmount wsX6_isAmount) := goodIn_app (goodIn_of _ (by decide +kernel)) ggX6_make_X6_isAmount
set_option maxRecDepth 20000 in
theorem ggX6_make_X6_isWithin : GoodIn wsX6_make wsX6_isWithin := goodIn_r _ [7] (by decide +kernel) (by decide +kernel)
set_option maxRecDepth 20000 in
theorem gX6_make_X6_isWithin : GoodIn wsX6_make (va_wsS RX6 72 yX6_isWithin wsX6_isWithin) := goodIn_app (goodIn_of _ (by decide +kernel)) ggX6_make_X6_isWithin
set_option maxRecDepth 20000 in
theorem ggX6_make_X6_leastShow : GoodIn wsX6_make wsX6_leastShow := goodIn_r _ [17, 18, 19, 20, 3, 21, 22, 23, 24, 25, 26, 27, 28, 29, 30, 31, 32, 33, 34, 35, 36, 37, 38, 39, 40, 41, 42, 43, 44, 45, 46, 47, 48, 49, 50, 51, 52, 53, 54, 55, 56, 57, 58, 59, 60, 61, 62, 63, 64, 9, 10, 5, 6, 7, 65, 66, 67, 68, 69, 70, 71, 72, 73, 74, 75, 76, 77, 78, 79, 80, 81, 82, 83, 84, 85, 86, 87, 88, 89] (by decide +kernel) (by decide +kernel)
set_option maxRecDepth 20000 in
theorem gX6_make_X6_leastShow : GoodIn wsX6_make (wsV RX6 164 RX6 yX6_leastShow wsX6_leastShow) := goodIn_app (goodIn_of _ (by decide +kernel)) ggX6_make_X6_leastShow
set_option maxRecDepth 20000 in
theorem ggX6_make_X6_seenWith : GoodIn wsX6_make wsX6_seenWith := goodIn_r _ [21, 22, 23, 24, 25, 26, 27, 28, 29, 30, 31, 32, 33, 34, 35, 36, 37, 38, 39, 40, 41, 42, 43, 44, 45, 46, 47, 3, 48, 49, 50, 51, 52, 53, 54, 55, 56, 57, 58, 59, 60, 61, 62, 63, 64, 9, 10, 5, 6, 7, 65, 66, 67, 68, 69, 70, 71, 72, 73, 74, 75, 76, 77, 78, 79, 80, 81, 82, 83, 84, 85, 86, 87, 88, 89] (by decide +kernel) (by decide +kernel)
set_option maxRecDepth 20000 in
theorem gX6_make_X6_seenWith : GoodIn wsX6_make (wsV RX6 145 RX6 yX6_seenWith wsX6_seenWith) := goodIn_app (goodIn_of _ (by decide +kernel)) ggX6_make_X6_seenWith
theorem dX6_make_0 : decode cX6_make 0 = .ok (.iload_n 1, 1) := by decide +kernel
theorem dX6_make_1 : decode cX6_make 1 = .ok (.invokestatic 139, 3) := by decide +kernel
theorem dX6_make_4 : decode cX6_make 4 = .ok (.ifCond .eq 27, 3) := by decide +kernel
theorem dX6_make_7 : decode cX6_make 7 = .ok (.iload_n 2, 1) := by decide +kernel
theorem dX6_make_8 : decode cX6_make 8 = .ok (.invokestatic 142, 3) := by decide +kernel
theorem dX6_make_11 : decode cX6_make 11 = .ok (.ifCond .eq 20, 3) := by decide +kernel
theorem dX6_make_14 : decode cX6_make 14 = .ok (.iload_n 3, 1) := by decide +kernel
theorem dX6_make_15 : decode cX6_make 15 = .ok (.invokestatic 92, 3) := by decide +kernel
theorem dX6_make_18 : decode cX6_make 18 = .ok (.ifCond .eq 13, 3) := by decide +kernel
theorem dX6_make_21 : decode cX6_make 21 = .ok (.iload 4, 2) := by decide +kernel
theorem dX6_make_23 : decode cX6_make 23 = .ok (.iconst 0, 1) := by decide +kernel
theorem dX6_make_24 : decode cX6_make 24 = .ok (.iconst 1, 1) := by decide +kernel
theorem dX6_make_25 : decode cX6_make 25 = .ok (.invokestatic 72, 3) := by decide +kernel
theorem dX6_make_28 : decode cX6_make 28 = .ok (.ifCond .ne 6, 3) := by decide +kernel
theorem dX6_make_31 : decode cX6_make 31 = .ok (.bipush (-2), 2) := by decide +kernel
theorem dX6_make_33 : decode cX6_make 33 = .ok (.ireturn, 1) := by decide +kernel
theorem dX6_make_34 : decode cX6_make 34 = .ok (.aload_n 0, 1) := by decide +kernel
theorem dX6_make_35 : decode cX6_make 35 = .ok (.iload_n 1, 1) := by decide +kernel
theorem dX6_make_36 : decode cX6_make 36 = .ok (.iload_n 2, 1) := by decide +kernel
theorem dX6_make_37 : decode cX6_make 37 = .ok (.iload_n 3, 1) := by decide +kernel
theorem dX6_make_38 : decode cX6_make 38 = .ok (.invokevirtual 164, 3) := by decide +kernel
theorem dX6_make_41 : decode cX6_make 41 = .ok (.istore 5, 2) := by decide +kernel
theorem dX6_make_43 : decode cX6_make 43 = .ok (.iload 5, 2) := by decide +kernel
theorem dX6_make_45 : decode cX6_make 45 = .ok (.sipush 999, 3) := by decide +kernel
theorem dX6_make_48 : decode cX6_make 48 = .ok (.if_icmp .le 6, 3) := by decide +kernel
theorem dX6_make_51 : decode cX6_make 51 = .ok (.bipush (-6), 2) := by decide +kernel
theorem dX6_make_53 : decode cX6_make 53 = .ok (.ireturn, 1) := by decide +kernel
theorem dX6_make_54 : decode cX6_make 54 = .ok (.iload 4, 2) := by decide +kernel
theorem dX6_make_56 : decode cX6_make 56 = .ok (.ifCond .ne 8, 3) := by decide +kernel
theorem dX6_make_59 : decode cX6_make 59 = .ok (.iload 5, 2) := by decide +kernel
theorem dX6_make_61 : decode cX6_make 61 = .ok (.goto 11, 3) := by decide +kernel
theorem dX6_make_64 : decode cX6_make 64 = .ok (.aload_n 0, 1) := by decide +kernel
theorem dX6_make_65 : decode cX6_make 65 = .ok (.iload_n 1, 1) := by decide +kernel
theorem dX6_make_66 : decode cX6_make 66 = .ok (.iload_n 2, 1) := by decide +kernel
theorem dX6_make_67 : decode cX6_make 67 = .ok (.iload 5, 2) := by decide +kernel
theorem dX6_make_69 : decode cX6_make 69 = .ok (.invokevirtual 145, 3) := by decide +kernel
theorem dX6_make_72 : decode cX6_make 72 = .ok (.ireturn, 1) := by decide +kernel
set_option maxRecDepth 20000 in
theorem ggX6_wish_X6_isSet : GoodIn wsX6_wish wsX6_isSet := goodIn_r _ [5, 6, 7, 4, 8] (by decide +kernel) (by decide +kernel)
set_option maxRecDepth 20000 in
theorem gX6_wish_X6_isSet : GoodIn wsX6_wish (va_wsS RX6 167 yX6_isSet wsX6_isSet) := goodIn_app (goodIn_of _ (by decide +kernel)) ggX6_wish_X6_isSet
set_option maxRecDepth 20000 in
theorem ggX6_wish_X6_isAhead : GoodIn wsX6_wish wsX6_isAhead := goodIn_r _ [11, 6, 7, 4, 8] (by decide +kernel) (by decide +kernel)
set_option maxRecDepth 20000 in
theorem gX6_wish_X6_isAhead : GoodIn wsX6_wish (va_wsS RX6 142 yX6_isAhead wsX6_isAhead) := goodIn_app (goodIn_of _ (by decide +kernel)) ggX6_wish_X6_isAhead
set_option maxRecDepth 20000 in
theorem ggX6_wish_X6_isWithin : GoodIn wsX6_wish wsX6_isWithin := goodIn_r _ [8] (by decide +kernel) (by decide +kernel)
set_option maxRecDepth 20000 in
theorem gX6_wish_X6_isWithin : GoodIn wsX6_wish (va_wsS RX6 72 yX6_isWithin wsX6_isWithin) := goodIn_app (goodIn_of _ (by decide +kernel)) ggX6_wish_X6_isWithin
set_option maxRecDepth 20000 in
theorem ggX6_wish_X6_wishDifference : GoodIn wsX6_wish wsX6_wishDifference := goodIn_r _ [15, 16, 17, 18, 19, 20, 21, 22, 23, 24, 25, 26, 27, 4, 28, 29, 30, 31, 32, 33, 34, 35, 36, 37, 38, 39, 40, 41, 42, 43, 44, 45, 46, 47, 48, 49, 50, 51, 52, 53, 54, 55, 56, 57, 58, 59, 60, 61, 62, 63, 64, 65, 66, 67, 68, 69, 70, 71, 72, 73, 74, 75, 76, 10, 11, 6, 7, 8, 77, 78, 79, 80, 81, 82, 83, 84, 85, 86, 87, 88, 89, 90, 91, 92, 93, 94, 95, 96, 97, 98, 99, 100, 101] (by decide +kernel) (by decide +kernel)
set_option maxRecDepth 20000 in
theorem gX6_wish_X6_wishDifference : GoodIn wsX6_wish (wsV RX6 171 RX6 yX6_wishDifference wsX6_wishDifference) := goodIn_app (goodIn_of _ (by decide +kernel)) ggX6_wish_X6_wishDifference
theorem dX6_wish_0 : decode cX6_wish 0 = .ok (.iload_n 1, 1) := by decide +kernel
theorem dX6_wish_1 : decode cX6_wish 1 = .ok (.invokestatic 167, 3) := by decide +kernel
theorem dX6_wish_4 : decode cX6_wish 4 = .ok (.ifCond .ne 5, 3) := by decide +kernel
theorem dX6_wish_7 : decode cX6_wish 7 = .ok (.iconst (-1), 1) := by decide +kernel
theorem dX6_wish_8 : decode cX6_wish 8 = .ok (.ireturn, 1) := by decide +kernel
theorem dX6_wish_9 : decode cX6_wish 9 = .ok (.iload_n 2, 1) := by decide +kernel
theorem dX6_wish_10 : decode cX6_wish 10 = .ok (.invokestatic 142, 3) := by decide +kernel
theorem dX6_wish_13 : decode cX6_wish 13 = .ok (.ifCond .eq 23, 3) := by decide +kernel
theorem dX6_wish_16 : decode cX6_wish 16 = .ok (.iload_n 3, 1) := by decide +kernel
theorem dX6_wish_17 : decode cX6_wish 17 = .ok (.iconst 0, 1) := by decide +kernel
theorem dX6_wish_18 : decode cX6_wish 18 = .ok (.ldc 170, 2) := by decide +kernel
theorem dX6_wish_20 : decode cX6_wish 20 = .ok (.invokestatic 72, 3) := by decide +kernel
theorem dX6_wish_23 : decode cX6_wish 23 = .ok (.ifCond .eq 13, 3) := by decide +kernel
theorem dX6_wish_26 : decode cX6_wish 26 = .ok (.iload 4, 2) := by decide +kernel
theorem dX6_wish_28 : decode cX6_wish 28 = .ok (.iconst 0, 1) := by decide +kernel
theorem dX6_wish_29 : decode cX6_wish 29 = .ok (.iconst 1, 1) := by decide +kernel
theorem dX6_wish_30 : decode cX6_wish 30 = .ok (.invokestatic 72, 3) := by decide +kernel
theorem dX6_wish_33 : decode cX6_wish 33 = .ok (.ifCond .ne 6, 3) := by decide +kernel
theorem dX6_wish_36 : decode cX6_wish 36 = .ok (.bipush (-2), 2) := by decide +kernel
theorem dX6_wish_38 : decode cX6_wish 38 = .ok (.ireturn, 1) := by decide +kernel
theorem dX6_wish_39 : decode cX6_wish 39 = .ok (.iconst 0, 1) := by decide +kernel
theorem dX6_wish_40 : decode cX6_wish 40 = .ok (.istore 5, 2) := by decide +kernel
theorem dX6_wish_42 : decode cX6_wish 42 = .ok (.aload_n 0, 1) := by decide +kernel
theorem dX6_wish_43 : decode cX6_wish 43 = .ok (.iconst 0, 1) := by decide +kernel
theorem dX6_wish_44 : decode cX6_wish 44 = .ok (.iload_n 2, 1) := by decide +kernel
theorem dX6_wish_45 : decode cX6_wish 45 = .ok (.iload_n 3, 1) := by decide +kernel
theorem dX6_wish_46 : decode cX6_wish 46 = .ok (.invokevirtual 171, 3) := by decide +kernel
theorem dX6_wish_49 : decode cX6_wish 49 = .ok (.istore 6, 2) := by decide +kernel
theorem dX6_wish_51 : decode cX6_wish 51 = .ok (.iconst 1, 1) := by decide +kernel
theorem dX6_wish_52 : decode cX6_wish 52 = .ok (.istore 7, 2) := by decide +kernel
theorem dX6_wish_54 : decode cX6_wish 54 = .ok (.iload 7, 2) := by decide +kernel
theorem dX6_wish_56 : decode cX6_wish 56 = .ok (.iload_n 1, 1) := by decide +kernel
theorem dX6_wish_57 : decode cX6_wish 57 = .ok (.if_icmp .gt 43, 3) := by decide +kernel
theorem dX6_wish_60 : decode cX6_wish 60 = .ok (.iload 7, 2) := by decide +kernel
theorem dX6_wish_62 : decode cX6_wish 62 = .ok (.iload_n 1, 1) := by decide +kernel
theorem dX6_wish_63 : decode cX6_wish 63 = .ok (.iconst (-1), 1) := by decide +kernel
theorem dX6_wish_64 : decode cX6_wish 64 = .ok (.ixor, 1) := by decide +kernel
theorem dX6_wish_65 : decode cX6_wish 65 = .ok (.iand, 1) := by decide +kernel
theorem dX6_wish_66 : decode cX6_wish 66 = .ok (.ifCond .ne 28, 3) := by decide +kernel
theorem dX6_wish_69 : decode cX6_wish 69 = .ok (.aload_n 0, 1) := by decide +kernel
theorem dX6_wish_70 : decode cX6_wish 70 = .ok (.iload 7, 2) := by decide +kernel
theorem dX6_wish_72 : decode cX6_wish 72 = .ok (.iload_n 2, 1) := by decide +kernel
theorem dX6_wish_73 : decode cX6_wish 73 = .ok (.iload_n 3, 1) := by decide +kernel
theorem dX6_wish_74 : decode cX6_wish 74 = .ok (.invokevirtual 171, 3) := by decide +kernel
theorem dX6_wish_77 : decode cX6_wish 77 = .ok (.istore 8, 2) := by decide +kernel
theorem dX6_wish_79 : decode cX6_wish 79 = .ok (.iload 8, 2) := by decide +kernel
theorem dX6_wish_81 : decode cX6_wish 81 = .ok (.iload 6, 2) := by decide +kernel
theorem dX6_wish_83 : decode cX6_wish 83 = .ok (.if_icmp .ge 11, 3) := by decide +kernel
theorem dX6_wish_86 : decode cX6_wish 86 = .ok (.iload 8, 2) := by decide +kernel
theorem dX6_wish_88 : decode cX6_wish 88 = .ok (.istore 6, 2) := by decide +kernel
theorem dX6_wish_90 : decode cX6_wish 90 = .ok (.iload 7, 2) := by decide +kernel
theorem dX6_wish_92 : decode cX6_wish 92 = .ok (.istore 5, 2) := by decide +kernel
theorem dX6_wish_94 : decode cX6_wish 94 = .ok (.iinc 7 1, 3) := by decide +kernel
theorem dX6_wish_97 : decode cX6_wish 97 = .ok (.goto (-43), 3) := by decide +kernel
theorem dX6_wish_100 : decode cX6_wish 100 = .ok (.iload 4, 2) := by decide +kernel
theorem dX6_wish_102 : decode cX6_wish 102 = .ok (.ifCond .ne 8, 3) := by decide +kernel
theorem dX6_wish_105 : decode cX6_wish 105 = .ok (.iload 6, 2) := by decide +kernel
theorem dX6_wish_107 : decode cX6_wish 107 = .ok (.goto 5, 3) := by decide +kernel
theorem dX6_wish_110 : decode cX6_wish 110 = .ok (.iload 5, 2) := by decide +kernel
theorem dX6_wish_112 : decode cX6_wish 112 = .ok (.ireturn, 1) := by decide +kernel
set_option maxRecDepth 20000 in
theorem ggX6_whiten_X6_isAhead : GoodIn wsX6_whiten wsX6_isAhead := goodIn_r _ [4, 5, 6, 3, 7] (by decide +kernel) (by decide +kernel)
set_option maxRecDepth 20000 in
theorem gX6_whiten_X6_isAhead : GoodIn wsX6_whiten (va_wsS RX6 142 yX6_isAhead wsX6_isAhead) := goodIn_app (goodIn_of _ (by decide +kernel)) ggX6_whiten_X6_isAhead
set_option maxRecDepth 20000 in
theorem ggX6_whiten_X6_isAmount : GoodIn wsX6_whiten wsX6_isAmount := goodIn_r _ [10, 5, 6, 3, 7] (by decide +kernel) (by decide +kernel)
set_option maxRecDepth 20000 in
theorem gX6_whiten_X6_isAmount : GoodIn wsX6_whiten (va_wsS RX6 92 yX6_isAmount wsX6_isAmount) := goodIn_app (goodIn_of _ (by decide +kernel)) ggX6_whiten_X6_isAmount
set_option maxRecDepth 20000 in
theorem ggX6_whiten_X6_isWithin : GoodIn wsX6_whiten wsX6_isWithin := goodIn_r _ [7] (by decide +kernel) (by decide +kernel)
set_option maxRecDepth 20000 in
theorem gX6_whiten_X6_isWithin : GoodIn wsX6_whiten (va_wsS RX6 72 yX6_isWithin wsX6_isWithin) := goodIn_app (goodIn_of _ (by decide +kernel)) ggX6_whiten_X6_isWithin
set_option maxRecDepth 20000 in
theorem ggX6_whiten_J6_bitCount_0f7a4 : GoodIn wsX6_whiten wsJ6_bitCount_0f7a4 := goodIn_r _ [14, 15, 16, 17] (by decide +kernel) (by decide +kernel)
set_option maxRecDepth 20000 in
theorem gX6_whiten_J6_bitCount_0f7a4 : GoodIn wsX6_whiten (va_wsS RX6 174 yJ6_bitCount_0f7a4 wsJ6_bitCount_0f7a4) := goodIn_app (goodIn_of _ (by decide +kernel)) ggX6_whiten_J6_bitCount_0f7a4
set_option maxRecDepth 20000 in
theorem ggX6_whiten_X6_fadesWithout : GoodIn wsX6_whiten wsX6_fadesWithout := goodIn_r _ [21, 22, 23, 24, 25, 26, 27, 28, 29, 30, 31, 32, 33, 34, 35, 36, 37, 38, 39, 40, 41, 42, 43, 44, 45, 46, 47, 48, 49, 3, 50, 51, 52, 53, 54, 55, 56, 57, 58, 59, 60, 61, 62, 63, 64, 65, 66, 67, 68, 69, 70, 71, 72, 73, 74, 75, 76, 77, 78, 79, 80, 81, 82, 83, 84, 85, 86, 87, 88, 89, 90, 2, 4, 5, 6, 7, 91, 92, 93, 94, 95, 96, 97, 98, 99, 100, 101, 102, 103, 104, 105, 106, 107, 108, 109, 110, 111, 112, 113, 114, 115] (by decide +kernel) (by decide +kernel)
set_option maxRecDepth 20000 in
theorem gX6_whiten_X6_fadesWithout : GoodIn wsX6_whiten (wsV RX6 180 RX6 yX6_fadesWithout wsX6_fadesWithout) := goodIn_app (goodIn_of _ (by decide +kernel)) ggX6_whiten_X6_fadesWithout
theorem dX6_whiten_0 : decode cX6_whiten 0 = .ok (.iload_n 1, 1) := by decide +kernel
theorem dX6_whiten_1 : decode cX6_whiten 1 = .ok (.invokestatic 142, 3) := by decide +kernel
theorem dX6_whiten_4 : decode cX6_whiten 4 = .ok (.ifCond .eq 19, 3) := by decide +kernel
theorem dX6_whiten_7 : decode cX6_whiten 7 = .ok (.iload_n 2, 1) := by decide +kernel
theorem dX6_whiten_8 : decode cX6_whiten 8 = .ok (.invokestatic 92, 3) := by decide +kernel
theorem dX6_whiten_11 : decode cX6_whiten 11 = .ok (.ifCond .eq 12, 3) := by decide +kernel
theorem dX6_whiten_14 : decode cX6_whiten 14 = .ok (.iload_n 3, 1) := by decide +kernel
theorem dX6_whiten_15 : decode cX6_whiten 15 = .ok (.iconst 0, 1) := by decide +kernel
theorem dX6_whiten_16 : decode cX6_whiten 16 = .ok (.iconst 1, 1) := by decide +kernel
theorem dX6_whiten_17 : decode cX6_whiten 17 = .ok (.invokestatic 72, 3) := by decide +kernel
theorem dX6_whiten_20 : decode cX6_whiten 20 = .ok (.ifCond .ne 6, 3) := by decide +kernel
theorem dX6_whiten_23 : decode cX6_whiten 23 = .ok (.bipush (-2), 2) := by decide +kernel
theorem dX6_whiten_25 : decode cX6_whiten 25 = .ok (.ireturn, 1) := by decide +kernel
theorem dX6_whiten_26 : decode cX6_whiten 26 = .ok (.bipush (-6), 2) := by decide +kernel
theorem dX6_whiten_28 : decode cX6_whiten 28 = .ok (.istore 4, 2) := by decide +kernel
theorem dX6_whiten_30 : decode cX6_whiten 30 = .ok (.iconst 5, 1) := by decide +kernel
theorem dX6_whiten_31 : decode cX6_whiten 31 = .ok (.istore 5, 2) := by decide +kernel
theorem dX6_whiten_33 : decode cX6_whiten 33 = .ok (.iconst 0, 1) := by decide +kernel
theorem dX6_whiten_34 : decode cX6_whiten 34 = .ok (.istore 6, 2) := by decide +kernel
theorem dX6_whiten_36 : decode cX6_whiten 36 = .ok (.iload 6, 2) := by decide +kernel
theorem dX6_whiten_38 : decode cX6_whiten 38 = .ok (.bipush 15, 2) := by decide +kernel
theorem dX6_whiten_40 : decode cX6_whiten 40 = .ok (.if_icmp .gt 42, 3) := by decide +kernel
theorem dX6_whiten_43 : decode cX6_whiten 43 = .ok (.iload 6, 2) := by decide +kernel
theorem dX6_whiten_45 : decode cX6_whiten 45 = .ok (.invokestatic 174, 3) := by decide +kernel
theorem dX6_whiten_48 : decode cX6_whiten 48 = .ok (.istore 7, 2) := by decide +kernel
theorem dX6_whiten_50 : decode cX6_whiten 50 = .ok (.iload 7, 2) := by decide +kernel
theorem dX6_whiten_52 : decode cX6_whiten 52 = .ok (.iload 5, 2) := by decide +kernel
theorem dX6_whiten_54 : decode cX6_whiten 54 = .ok (.if_icmp .ge 22, 3) := by decide +kernel
theorem dX6_whiten_57 : decode cX6_whiten 57 = .ok (.aload_n 0, 1) := by decide +kernel
theorem dX6_whiten_58 : decode cX6_whiten 58 = .ok (.iload 6, 2) := by decide +kernel
theorem dX6_whiten_60 : decode cX6_whiten 60 = .ok (.iload_n 1, 1) := by decide +kernel
theorem dX6_whiten_61 : decode cX6_whiten 61 = .ok (.iload_n 2, 1) := by decide +kernel
theorem dX6_whiten_62 : decode cX6_whiten 62 = .ok (.invokevirtual 180, 3) := by decide +kernel
theorem dX6_whiten_65 : decode cX6_whiten 65 = .ok (.ifCond .eq 11, 3) := by decide +kernel
theorem dX6_whiten_68 : decode cX6_whiten 68 = .ok (.iload 7, 2) := by decide +kernel
theorem dX6_whiten_70 : decode cX6_whiten 70 = .ok (.istore 5, 2) := by decide +kernel
theorem dX6_whiten_72 : decode cX6_whiten 72 = .ok (.iload 6, 2) := by decide +kernel
theorem dX6_whiten_74 : decode cX6_whiten 74 = .ok (.istore 4, 2) := by decide +kernel
theorem dX6_whiten_76 : decode cX6_whiten 76 = .ok (.iinc 6 1, 3) := by decide +kernel
theorem dX6_whiten_79 : decode cX6_whiten 79 = .ok (.goto (-43), 3) := by decide +kernel
theorem dX6_whiten_82 : decode cX6_whiten 82 = .ok (.iload 4, 2) := by decide +kernel
theorem dX6_whiten_84 : decode cX6_whiten 84 = .ok (.bipush (-6), 2) := by decide +kernel
theorem dX6_whiten_86 : decode cX6_whiten 86 = .ok (.if_icmp .ne 6, 3) := by decide +kernel
theorem dX6_whiten_89 : decode cX6_whiten 89 = .ok (.bipush (-6), 2) := by decide +kernel
theorem dX6_whiten_91 : decode cX6_whiten 91 = .ok (.ireturn, 1) := by decide +kernel
theorem dX6_whiten_92 : decode cX6_whiten 92 = .ok (.iload_n 3, 1) := by decide +kernel
theorem dX6_whiten_93 : decode cX6_whiten 93 = .ok (.ifCond .ne 8, 3) := by decide +kernel
theorem dX6_whiten_96 : decode cX6_whiten 96 = .ok (.iload 5, 2) := by decide +kernel
theorem dX6_whiten_98 : decode cX6_whiten 98 = .ok (.goto 5, 3) := by decide +kernel
theorem dX6_whiten_101 : decode cX6_whiten 101 = .ok (.iload 4, 2) := by decide +kernel
theorem dX6_whiten_103 : decode cX6_whiten 103 = .ok (.ireturn, 1) := by decide +kernel
set_option maxRecDepth 20000 in
theorem ggX6_apart_X6_isSet : GoodIn wsX6_apart wsX6_isSet := goodIn_r _ [4, 5, 6, 3, 7] (by decide +kernel) (by decide +kernel)
set_option maxRecDepth 20000 in
theorem gX6_apart_X6_isSet : GoodIn wsX6_apart (va_wsS RX6 167 yX6_isSet wsX6_isSet) := goodIn_app (goodIn_of _ (by decide +kernel)) ggX6_apart_X6_isSet
set_option maxRecDepth 20000 in
theorem ggX6_apart_X6_isAhead : GoodIn wsX6_apart wsX6_isAhead := goodIn_r _ [10, 5, 6, 3, 7] (by decide +kernel) (by decide +kernel)
set_option maxRecDepth 20000 in
theorem gX6_apart_X6_isAhead : GoodIn wsX6_apart (va_wsS RX6 142 yX6_isAhead wsX6_isAhead) := goodIn_app (goodIn_of _ (by decide +kernel)) ggX6_apart_X6_isAhead
set_option maxRecDepth 20000 in
theorem ggX6_apart_X6_fillEchoes : GoodIn wsX6_apart wsX6_fillEchoes := goodIn_r _ [14, 15, 16, 17, 18, 19, 20, 21, 22, 23, 24, 25, 3, 26, 27, 28, 29, 30, 31, 32, 33, 34, 35, 36, 37, 38, 39, 40, 41, 42, 43, 44, 45, 46, 47, 48, 49, 50, 51, 9, 10, 5, 6, 7, 57, 58, 59, 60, 61, 62, 63, 64, 65, 66, 67, 68, 69, 70, 71, 72, 73, 74, 75, 76, 77, 78, 79, 80, 81] (by decide +kernel) (by decide +kernel)
set_option maxRecDepth 20000 in
theorem gX6_apart_X6_fillEchoes : GoodIn wsX6_apart (wsV RX6 183 RX6 yX6_fillEchoes wsX6_fillEchoes) := goodIn_app (goodIn_of _ (by decide +kernel)) ggX6_apart_X6_fillEchoes
set_option maxRecDepth 20000 in
theorem ggX6_apart_X6_has : GoodIn wsX6_apart wsX6_has := goodIn_r _ [41] (by decide +kernel) (by decide +kernel)
set_option maxRecDepth 20000 in
theorem gX6_apart_X6_has : GoodIn wsX6_apart (va_wsS RX6 187 yX6_has wsX6_has) := goodIn_app (goodIn_of _ (by decide +kernel)) ggX6_apart_X6_has
set_option maxRecDepth 20000 in
theorem ggX6_apart_X6_echoAlike : GoodIn wsX6_apart wsX6_echoAlike := goodIn_r _ [56, 15, 57, 58, 59, 60, 61, 62, 63, 64, 65, 66, 67] (by decide +kernel) (by decide +kernel)
set_option maxRecDepth 20000 in
theorem gX6_apart_X6_echoAlike : GoodIn wsX6_apart (wsV RX6 191 RX6 yX6_echoAlike wsX6_echoAlike) := goodIn_app (goodIn_of _ (by decide +kernel)) ggX6_apart_X6_echoAlike
theorem dX6_apart_0 : decode cX6_apart 0 = .ok (.iload_n 1, 1) := by decide +kernel
theorem dX6_apart_1 : decode cX6_apart 1 = .ok (.invokestatic 167, 3) := by decide +kernel
theorem dX6_apart_4 : decode cX6_apart 4 = .ok (.ifCond .ne 5, 3) := by decide +kernel
theorem dX6_apart_7 : decode cX6_apart 7 = .ok (.iconst (-1), 1) := by decide +kernel
theorem dX6_apart_8 : decode cX6_apart 8 = .ok (.ireturn, 1) := by decide +kernel
theorem dX6_apart_9 : decode cX6_apart 9 = .ok (.iload_n 2, 1) := by decide +kernel
theorem dX6_apart_10 : decode cX6_apart 10 = .ok (.invokestatic 142, 3) := by decide +kernel
theorem dX6_apart_13 : decode cX6_apart 13 = .ok (.ifCond .ne 6, 3) := by decide +kernel
theorem dX6_apart_16 : decode cX6_apart 16 = .ok (.bipush (-2), 2) := by decide +kernel
theorem dX6_apart_18 : decode cX6_apart 18 = .ok (.ireturn, 1) := by decide +kernel
theorem dX6_apart_19 : decode cX6_apart 19 = .ok (.aload_n 0, 1) := by decide +kernel
theorem dX6_apart_20 : decode cX6_apart 20 = .ok (.iload_n 2, 1) := by decide +kernel
theorem dX6_apart_21 : decode cX6_apart 21 = .ok (.invokevirtual 183, 3) := by decide +kernel
theorem dX6_apart_24 : decode cX6_apart 24 = .ok (.iconst 0, 1) := by decide +kernel
theorem dX6_apart_25 : decode cX6_apart 25 = .ok (.istore 4, 2) := by decide +kernel
theorem dX6_apart_27 : decode cX6_apart 27 = .ok (.iconst 0, 1) := by decide +kernel
theorem dX6_apart_28 : decode cX6_apart 28 = .ok (.istore 5, 2) := by decide +kernel
theorem dX6_apart_30 : decode cX6_apart 30 = .ok (.iload 5, 2) := by decide +kernel
theorem dX6_apart_32 : decode cX6_apart 32 = .ok (.bipush 6, 2) := by decide +kernel
theorem dX6_apart_34 : decode cX6_apart 34 = .ok (.if_icmp .ge 75, 3) := by decide +kernel
theorem dX6_apart_37 : decode cX6_apart 37 = .ok (.iload 5, 2) := by decide +kernel
theorem dX6_apart_39 : decode cX6_apart 39 = .ok (.iconst 1, 1) := by decide +kernel
theorem dX6_apart_40 : decode cX6_apart 40 = .ok (.iadd, 1) := by decide +kernel
theorem dX6_apart_41 : decode cX6_apart 41 = .ok (.istore 6, 2) := by decide +kernel
theorem dX6_apart_43 : decode cX6_apart 43 = .ok (.iload 6, 2) := by decide +kernel
theorem dX6_apart_45 : decode cX6_apart 45 = .ok (.bipush 6, 2) := by decide +kernel
theorem dX6_apart_47 : decode cX6_apart 47 = .ok (.if_icmp .ge 56, 3) := by decide +kernel
theorem dX6_apart_50 : decode cX6_apart 50 = .ok (.iload_n 1, 1) := by decide +kernel
theorem dX6_apart_51 : decode cX6_apart 51 = .ok (.iload 5, 2) := by decide +kernel
theorem dX6_apart_53 : decode cX6_apart 53 = .ok (.invokestatic 187, 3) := by decide +kernel
theorem dX6_apart_56 : decode cX6_apart 56 = .ok (.ifCond .eq 41, 3) := by decide +kernel
theorem dX6_apart_59 : decode cX6_apart 59 = .ok (.iload_n 1, 1) := by decide +kernel
theorem dX6_apart_60 : decode cX6_apart 60 = .ok (.iload 6, 2) := by decide +kernel
theorem dX6_apart_62 : decode cX6_apart 62 = .ok (.invokestatic 187, 3) := by decide +kernel
theorem dX6_apart_65 : decode cX6_apart 65 = .ok (.ifCond .eq 32, 3) := by decide +kernel
theorem dX6_apart_68 : decode cX6_apart 68 = .ok (.aload_n 0, 1) := by decide +kernel
theorem dX6_apart_69 : decode cX6_apart 69 = .ok (.iload 5, 2) := by decide +kernel
theorem dX6_apart_71 : decode cX6_apart 71 = .ok (.iload 6, 2) := by decide +kernel
theorem dX6_apart_73 : decode cX6_apart 73 = .ok (.invokevirtual 191, 3) := by decide +kernel
theorem dX6_apart_76 : decode cX6_apart 76 = .ok (.ifCond .eq 21, 3) := by decide +kernel
theorem dX6_apart_79 : decode cX6_apart 79 = .ok (.iload 4, 2) := by decide +kernel
theorem dX6_apart_81 : decode cX6_apart 81 = .ok (.iload_n 3, 1) := by decide +kernel
theorem dX6_apart_82 : decode cX6_apart 82 = .ok (.if_icmp .ne 12, 3) := by decide +kernel
theorem dX6_apart_85 : decode cX6_apart 85 = .ok (.bipush 10, 2) := by decide +kernel
theorem dX6_apart_87 : decode cX6_apart 87 = .ok (.iload 5, 2) := by decide +kernel
theorem dX6_apart_89 : decode cX6_apart 89 = .ok (.imul, 1) := by decide +kernel
theorem dX6_apart_90 : decode cX6_apart 90 = .ok (.iload 6, 2) := by decide +kernel
theorem dX6_apart_92 : decode cX6_apart 92 = .ok (.iadd, 1) := by decide +kernel
theorem dX6_apart_93 : decode cX6_apart 93 = .ok (.ireturn, 1) := by decide +kernel
theorem dX6_apart_94 : decode cX6_apart 94 = .ok (.iinc 4 1, 3) := by decide +kernel
theorem dX6_apart_97 : decode cX6_apart 97 = .ok (.iinc 6 1, 3) := by decide +kernel
theorem dX6_apart_100 : decode cX6_apart 100 = .ok (.goto (-57), 3) := by decide +kernel
theorem dX6_apart_103 : decode cX6_apart 103 = .ok (.iinc 5 1, 3) := by decide +kernel
theorem dX6_apart_106 : decode cX6_apart 106 = .ok (.goto (-76), 3) := by decide +kernel
theorem dX6_apart_109 : decode cX6_apart 109 = .ok (.iload_n 3, 1) := by decide +kernel
theorem dX6_apart_110 : decode cX6_apart 110 = .ok (.iconst (-1), 1) := by decide +kernel
theorem dX6_apart_111 : decode cX6_apart 111 = .ok (.if_icmp .ne 8, 3) := by decide +kernel
theorem dX6_apart_114 : decode cX6_apart 114 = .ok (.iload 4, 2) := by decide +kernel
theorem dX6_apart_116 : decode cX6_apart 116 = .ok (.goto 5, 3) := by decide +kernel
theorem dX6_apart_119 : decode cX6_apart 119 = .ok (.bipush (-6), 2) := by decide +kernel
theorem dX6_apart_121 : decode cX6_apart 121 = .ok (.ireturn, 1) := by decide +kernel
set_option maxRecDepth 20000 in
theorem ggX6_spoil_X6_isDress : GoodIn wsX6_spoil wsX6_isDress := goodIn_r _ [5, 6, 7, 4, 8] (by decide +kernel) (by decide +kernel)
set_option maxRecDepth 20000 in
theorem gX6_spoil_X6_isDress : GoodIn wsX6_spoil (va_wsS RX6 82 yX6_isDress wsX6_isDress) := goodIn_app (goodIn_of _ (by decide +kernel)) ggX6_spoil_X6_isDress
set_option maxRecDepth 20000 in
theorem ggX6_spoil_X6_isAhead : GoodIn wsX6_spoil wsX6_isAhead := goodIn_r _ [11, 6, 7, 4, 8] (by decide +kernel) (by decide +kernel)
set_option maxRecDepth 20000 in
theorem gX6_spoil_X6_isAhead : GoodIn wsX6_spoil (va_wsS RX6 142 yX6_isAhead wsX6_isAhead) := goodIn_app (goodIn_of _ (by decide +kernel)) ggX6_spoil_X6_isAhead
set_option maxRecDepth 20000 in
theorem ggX6_spoil_X3_worth : GoodIn wsX6_spoil wsX3_worth := goodIn_r _ [16, 17, 58, 59, 60, 61, 62, 63, 64, 65, 66, 67, 68, 69, 70] (by decide +kernel) (by decide +kernel)
set_option maxRecDepth 20000 in
theorem gX6_spoil_X3_worth : GoodIn wsX6_spoil (wsV RX6 85 RX3 yX3_worth wsX3_worth) := goodIn_app (goodIn_of _ (by decide +kernel)) ggX6_spoil_X3_worth
set_option maxRecDepth 20000 in
theorem ggX6_spoil_X6_echoAlone : GoodIn wsX6_spoil wsX6_echoAlone := goodIn_r _ [21, 22, 1, 23, 24, 25, 26, 27, 28, 29, 4, 30, 31, 32, 33, 34, 35, 36, 37, 38, 39, 40, 41, 42, 43, 44, 45, 46, 10, 11, 6, 7, 8, 47, 48, 49, 50, 51, 52, 53, 54, 55, 56, 57, 71, 58, 59, 60, 61, 62, 63, 64, 65, 66, 67, 68, 69, 70] (by decide +kernel) (by decide +kernel)
set_option maxRecDepth 20000 in
theorem gX6_spoil_X6_echoAlone : GoodIn wsX6_spoil (wsV RX6 194 RX6 yX6_echoAlone wsX6_echoAlone) := goodIn_app (goodIn_of _ (by decide +kernel)) ggX6_spoil_X6_echoAlone
theorem dX6_spoil_0 : decode cX6_spoil 0 = .ok (.iload_n 1, 1) := by decide +kernel
theorem dX6_spoil_1 : decode cX6_spoil 1 = .ok (.invokestatic 82, 3) := by decide +kernel
theorem dX6_spoil_4 : decode cX6_spoil 4 = .ok (.ifCond .eq 15, 3) := by decide +kernel
theorem dX6_spoil_7 : decode cX6_spoil 7 = .ok (.iload_n 2, 1) := by decide +kernel
theorem dX6_spoil_8 : decode cX6_spoil 8 = .ok (.invokestatic 82, 3) := by decide +kernel
theorem dX6_spoil_11 : decode cX6_spoil 11 = .ok (.ifCond .eq 8, 3) := by decide +kernel
theorem dX6_spoil_14 : decode cX6_spoil 14 = .ok (.iload_n 1, 1) := by decide +kernel
theorem dX6_spoil_15 : decode cX6_spoil 15 = .ok (.iload_n 2, 1) := by decide +kernel
theorem dX6_spoil_16 : decode cX6_spoil 16 = .ok (.if_icmp .ne 5, 3) := by decide +kernel
theorem dX6_spoil_19 : decode cX6_spoil 19 = .ok (.iconst (-1), 1) := by decide +kernel
theorem dX6_spoil_20 : decode cX6_spoil 20 = .ok (.ireturn, 1) := by decide +kernel
theorem dX6_spoil_21 : decode cX6_spoil 21 = .ok (.iload_n 3, 1) := by decide +kernel
theorem dX6_spoil_22 : decode cX6_spoil 22 = .ok (.invokestatic 142, 3) := by decide +kernel
theorem dX6_spoil_25 : decode cX6_spoil 25 = .ok (.ifCond .ne 6, 3) := by decide +kernel
theorem dX6_spoil_28 : decode cX6_spoil 28 = .ok (.bipush (-2), 2) := by decide +kernel
theorem dX6_spoil_30 : decode cX6_spoil 30 = .ok (.ireturn, 1) := by decide +kernel
theorem dX6_spoil_31 : decode cX6_spoil 31 = .ok (.sipush 3000, 3) := by decide +kernel
theorem dX6_spoil_34 : decode cX6_spoil 34 = .ok (.istore 4, 2) := by decide +kernel
theorem dX6_spoil_36 : decode cX6_spoil 36 = .ok (.iconst 0, 1) := by decide +kernel
theorem dX6_spoil_37 : decode cX6_spoil 37 = .ok (.istore 5, 2) := by decide +kernel
theorem dX6_spoil_39 : decode cX6_spoil 39 = .ok (.iload 5, 2) := by decide +kernel
theorem dX6_spoil_41 : decode cX6_spoil 41 = .ok (.iconst 3, 1) := by decide +kernel
theorem dX6_spoil_42 : decode cX6_spoil 42 = .ok (.if_icmp .ge 64, 3) := by decide +kernel
theorem dX6_spoil_45 : decode cX6_spoil 45 = .ok (.aload_n 0, 1) := by decide +kernel
theorem dX6_spoil_46 : decode cX6_spoil 46 = .ok (.getfield 12, 3) := by decide +kernel
theorem dX6_spoil_49 : decode cX6_spoil 49 = .ok (.iload_n 1, 1) := by decide +kernel
theorem dX6_spoil_50 : decode cX6_spoil 50 = .ok (.iload 5, 2) := by decide +kernel
theorem dX6_spoil_52 : decode cX6_spoil 52 = .ok (.invokevirtual 85, 3) := by decide +kernel
theorem dX6_spoil_55 : decode cX6_spoil 55 = .ok (.istore 6, 2) := by decide +kernel
theorem dX6_spoil_57 : decode cX6_spoil 57 = .ok (.aload_n 0, 1) := by decide +kernel
theorem dX6_spoil_58 : decode cX6_spoil 58 = .ok (.getfield 12, 3) := by decide +kernel
theorem dX6_spoil_61 : decode cX6_spoil 61 = .ok (.iload_n 2, 1) := by decide +kernel
theorem dX6_spoil_62 : decode cX6_spoil 62 = .ok (.iload 5, 2) := by decide +kernel
theorem dX6_spoil_64 : decode cX6_spoil 64 = .ok (.invokevirtual 85, 3) := by decide +kernel
theorem dX6_spoil_67 : decode cX6_spoil 67 = .ok (.istore 7, 2) := by decide +kernel
theorem dX6_spoil_69 : decode cX6_spoil 69 = .ok (.iload 4, 2) := by decide +kernel
theorem dX6_spoil_71 : decode cX6_spoil 71 = .ok (.aload_n 0, 1) := by decide +kernel
theorem dX6_spoil_72 : decode cX6_spoil 72 = .ok (.iload 6, 2) := by decide +kernel
theorem dX6_spoil_74 : decode cX6_spoil 74 = .ok (.iload 7, 2) := by decide +kernel
theorem dX6_spoil_76 : decode cX6_spoil 76 = .ok (.iadd, 1) := by decide +kernel
theorem dX6_spoil_77 : decode cX6_spoil 77 = .ok (.iload_n 3, 1) := by decide +kernel
theorem dX6_spoil_78 : decode cX6_spoil 78 = .ok (.invokevirtual 194, 3) := by decide +kernel
theorem dX6_spoil_81 : decode cX6_spoil 81 = .ok (.aload_n 0, 1) := by decide +kernel
theorem dX6_spoil_82 : decode cX6_spoil 82 = .ok (.iload 6, 2) := by decide +kernel
theorem dX6_spoil_84 : decode cX6_spoil 84 = .ok (.iload_n 3, 1) := by decide +kernel
theorem dX6_spoil_85 : decode cX6_spoil 85 = .ok (.invokevirtual 194, 3) := by decide +kernel
theorem dX6_spoil_88 : decode cX6_spoil 88 = .ok (.isub, 1) := by decide +kernel
theorem dX6_spoil_89 : decode cX6_spoil 89 = .ok (.aload_n 0, 1) := by decide +kernel
theorem dX6_spoil_90 : decode cX6_spoil 90 = .ok (.iload 7, 2) := by decide +kernel
theorem dX6_spoil_92 : decode cX6_spoil 92 = .ok (.iload_n 3, 1) := by decide +kernel
theorem dX6_spoil_93 : decode cX6_spoil 93 = .ok (.invokevirtual 194, 3) := by decide +kernel
theorem dX6_spoil_96 : decode cX6_spoil 96 = .ok (.isub, 1) := by decide +kernel
theorem dX6_spoil_97 : decode cX6_spoil 97 = .ok (.iadd, 1) := by decide +kernel
theorem dX6_spoil_98 : decode cX6_spoil 98 = .ok (.istore 4, 2) := by decide +kernel
theorem dX6_spoil_100 : decode cX6_spoil 100 = .ok (.iinc 5 1, 3) := by decide +kernel
theorem dX6_spoil_103 : decode cX6_spoil 103 = .ok (.goto (-64), 3) := by decide +kernel
theorem dX6_spoil_106 : decode cX6_spoil 106 = .ok (.iload 4, 2) := by decide +kernel
theorem dX6_spoil_108 : decode cX6_spoil 108 = .ok (.ireturn, 1) := by decide +kernel
set_option maxRecDepth 20000 in
theorem ggX6_seen_X6_isAhead : GoodIn wsX6_seen wsX6_isAhead := goodIn_r _ [8, 9, 10, 7, 11] (by decide +kernel) (by decide +kernel)
set_option maxRecDepth 20000 in
theorem gX6_seen_X6_isAhead : GoodIn wsX6_seen (va_wsS RX6 142 yX6_isAhead wsX6_isAhead) := goodIn_app (goodIn_of _ (by decide +kernel)) ggX6_seen_X6_isAhead
set_option maxRecDepth 20000 in
theorem ggX6_seen_X6_isAmount : GoodIn wsX6_seen wsX6_isAmount := goodIn_r _ [14, 9, 10, 7, 11] (by decide +kernel) (by decide +kernel)
set_option maxRecDepth 20000 in
theorem gX6_seen_X6_isAmount : GoodIn wsX6_seen (va_wsS RX6 92 yX6_isAmount wsX6_isAmount) := goodIn_app (goodIn_of _ (by decide +kernel)) ggX6_seen_X6_isAmount
theorem dX6_seen_0 : decode cX6_seen 0 = .ok (.iload_n 1, 1) := by decide +kernel
theorem dX6_seen_1 : decode cX6_seen 1 = .ok (.invokestatic 142, 3) := by decide +kernel
theorem dX6_seen_4 : decode cX6_seen 4 = .ok (.ifCond .eq 10, 3) := by decide +kernel
theorem dX6_seen_7 : decode cX6_seen 7 = .ok (.iload_n 2, 1) := by decide +kernel
theorem dX6_seen_8 : decode cX6_seen 8 = .ok (.invokestatic 92, 3) := by decide +kernel
theorem dX6_seen_11 : decode cX6_seen 11 = .ok (.ifCond .ne 6, 3) := by decide +kernel
theorem dX6_seen_14 : decode cX6_seen 14 = .ok (.bipush (-2), 2) := by decide +kernel
theorem dX6_seen_16 : decode cX6_seen 16 = .ok (.ireturn, 1) := by decide +kernel
theorem dX6_seen_17 : decode cX6_seen 17 = .ok (.aload_n 0, 1) := by decide +kernel
theorem dX6_seen_18 : decode cX6_seen 18 = .ok (.getfield 12, 3) := by decide +kernel
theorem dX6_seen_21 : decode cX6_seen 21 = .ok (.getfield 197, 3) := by decide +kernel
theorem dX6_seen_24 : decode cX6_seen 24 = .ok (.bipush 8, 2) := by decide +kernel
theorem dX6_seen_26 : decode cX6_seen 26 = .ok (.if_icmp .lt 6, 3) := by decide +kernel
theorem dX6_seen_29 : decode cX6_seen 29 = .ok (.bipush (-4), 2) := by decide +kernel
theorem dX6_seen_31 : decode cX6_seen 31 = .ok (.ireturn, 1) := by decide +kernel
theorem dX6_seen_32 : decode cX6_seen 32 = .ok (.aload_n 0, 1) := by decide +kernel
theorem dX6_seen_33 : decode cX6_seen 33 = .ok (.getfield 12, 3) := by decide +kernel
theorem dX6_seen_36 : decode cX6_seen 36 = .ok (.getfield 200, 3) := by decide +kernel
theorem dX6_seen_39 : decode cX6_seen 39 = .ok (.aload_n 0, 1) := by decide +kernel
theorem dX6_seen_40 : decode cX6_seen 40 = .ok (.getfield 12, 3) := by decide +kernel
theorem dX6_seen_43 : decode cX6_seen 43 = .ok (.getfield 197, 3) := by decide +kernel
theorem dX6_seen_46 : decode cX6_seen 46 = .ok (.iload_n 1, 1) := by decide +kernel
theorem dX6_seen_47 : decode cX6_seen 47 = .ok (.iastore, 1) := by decide +kernel
theorem dX6_seen_48 : decode cX6_seen 48 = .ok (.aload_n 0, 1) := by decide +kernel
theorem dX6_seen_49 : decode cX6_seen 49 = .ok (.getfield 12, 3) := by decide +kernel
theorem dX6_seen_52 : decode cX6_seen 52 = .ok (.getfield 203, 3) := by decide +kernel
theorem dX6_seen_55 : decode cX6_seen 55 = .ok (.aload_n 0, 1) := by decide +kernel
theorem dX6_seen_56 : decode cX6_seen 56 = .ok (.getfield 12, 3) := by decide +kernel
theorem dX6_seen_59 : decode cX6_seen 59 = .ok (.getfield 197, 3) := by decide +kernel
theorem dX6_seen_62 : decode cX6_seen 62 = .ok (.iload_n 2, 1) := by decide +kernel
theorem dX6_seen_63 : decode cX6_seen 63 = .ok (.iastore, 1) := by decide +kernel
theorem dX6_seen_64 : decode cX6_seen 64 = .ok (.aload_n 0, 1) := by decide +kernel
theorem dX6_seen_65 : decode cX6_seen 65 = .ok (.getfield 12, 3) := by decide +kernel
theorem dX6_seen_68 : decode cX6_seen 68 = .ok (.dup, 1) := by decide +kernel
theorem dX6_seen_69 : decode cX6_seen 69 = .ok (.getfield 197, 3) := by decide +kernel
theorem dX6_seen_72 : decode cX6_seen 72 = .ok (.iconst 1, 1) := by decide +kernel
theorem dX6_seen_73 : decode cX6_seen 73 = .ok (.iadd, 1) := by decide +kernel
theorem dX6_seen_74 : decode cX6_seen 74 = .ok (.putfield 197, 3) := by decide +kernel
theorem dX6_seen_77 : decode cX6_seen 77 = .ok (.aload_n 0, 1) := by decide +kernel
theorem dX6_seen_78 : decode cX6_seen 78 = .ok (.getfield 12, 3) := by decide +kernel
theorem dX6_seen_81 : decode cX6_seen 81 = .ok (.getfield 197, 3) := by decide +kernel
theorem dX6_seen_84 : decode cX6_seen 84 = .ok (.ireturn, 1) := by decide +kernel
theorem dX6_forget_0 : decode cX6_forget 0 = .ok (.aload_n 0, 1) := by decide +kernel
theorem dX6_forget_1 : decode cX6_forget 1 = .ok (.getfield 12, 3) := by decide +kernel
theorem dX6_forget_4 : decode cX6_forget 4 = .ok (.getfield 197, 3) := by decide +kernel
theorem dX6_forget_7 : decode cX6_forget 7 = .ok (.istore_n 1, 1) := by decide +kernel
theorem dX6_forget_8 : decode cX6_forget 8 = .ok (.aload_n 0, 1) := by decide +kernel
theorem dX6_forget_9 : decode cX6_forget 9 = .ok (.getfield 12, 3) := by decide +kernel
theorem dX6_forget_12 : decode cX6_forget 12 = .ok (.iconst 0, 1) := by decide +kernel
theorem dX6_forget_13 : decode cX6_forget 13 = .ok (.putfield 197, 3) := by decide +kernel
theorem dX6_forget_16 : decode cX6_forget 16 = .ok (.iload_n 1, 1) := by decide +kernel
theorem dX6_forget_17 : decode cX6_forget 17 = .ok (.ireturn, 1) := by decide +kernel
set_option maxRecDepth 20000 in
theorem ggX6_shown_X4_gather : GoodIn wsX6_shown wsX4_gather := goodIn_r _ [10, 11, 12, 13, 14, 15, 9, 16, 17, 18, 19, 20, 21, 22, 23, 24, 25, 26, 27, 28, 29, 30, 31, 32, 33, 34, 35, 36, 37, 38, 39, 40, 41, 42, 43, 44, 45, 46, 47, 48, 49, 50, 51, 52, 53, 54, 55, 56, 57, 58, 70, 71, 72, 73, 74, 75, 76, 77, 78, 79, 80, 81, 82, 83, 84, 85, 86, 87] (by decide +kernel) (by decide +kernel)
set_option maxRecDepth 20000 in
theorem gX6_shown_X4_gather : GoodIn wsX6_shown (wsV RX6 206 RX4 yX4_gather wsX4_gather) := goodIn_app (goodIn_of _ (by decide +kernel)) ggX6_shown_X4_gather
set_option maxRecDepth 20000 in
theorem ggX6_shown_X6_isWithin : GoodIn wsX6_shown wsX6_isWithin := goodIn_r _ [47] (by decide +kernel) (by decide +kernel)
set_option maxRecDepth 20000 in
theorem gX6_shown_X6_isWithin : GoodIn wsX6_shown (va_wsS RX6 72 yX6_isWithin wsX6_isWithin) := goodIn_app (goodIn_of _ (by decide +kernel)) ggX6_shown_X6_isWithin
theorem dX6_shown_0 : decode cX6_shown 0 = .ok (.aload_n 0, 1) := by decide +kernel
theorem dX6_shown_1 : decode cX6_shown 1 = .ok (.getfield 43, 3) := by decide +kernel
theorem dX6_shown_4 : decode cX6_shown 4 = .ok (.aload_n 0, 1) := by decide +kernel
theorem dX6_shown_5 : decode cX6_shown 5 = .ok (.getfield 12, 3) := by decide +kernel
theorem dX6_shown_8 : decode cX6_shown 8 = .ok (.aload_n 0, 1) := by decide +kernel
theorem dX6_shown_9 : decode cX6_shown 9 = .ok (.getfield 36, 3) := by decide +kernel
theorem dX6_shown_12 : decode cX6_shown 12 = .ok (.invokevirtual 206, 3) := by decide +kernel
theorem dX6_shown_15 : decode cX6_shown 15 = .ok (.iload_n 1, 1) := by decide +kernel
theorem dX6_shown_16 : decode cX6_shown 16 = .ok (.iconst (-1), 1) := by decide +kernel
theorem dX6_shown_17 : decode cX6_shown 17 = .ok (.if_icmp .ne 11, 3) := by decide +kernel
theorem dX6_shown_20 : decode cX6_shown 20 = .ok (.aload_n 0, 1) := by decide +kernel
theorem dX6_shown_21 : decode cX6_shown 21 = .ok (.getfield 43, 3) := by decide +kernel
theorem dX6_shown_24 : decode cX6_shown 24 = .ok (.getfield 210, 3) := by decide +kernel
theorem dX6_shown_27 : decode cX6_shown 27 = .ok (.ireturn, 1) := by decide +kernel
theorem dX6_shown_28 : decode cX6_shown 28 = .ok (.iload_n 1, 1) := by decide +kernel
theorem dX6_shown_29 : decode cX6_shown 29 = .ok (.iconst 0, 1) := by decide +kernel
theorem dX6_shown_30 : decode cX6_shown 30 = .ok (.aload_n 0, 1) := by decide +kernel
theorem dX6_shown_31 : decode cX6_shown 31 = .ok (.getfield 43, 3) := by decide +kernel
theorem dX6_shown_34 : decode cX6_shown 34 = .ok (.getfield 210, 3) := by decide +kernel
theorem dX6_shown_37 : decode cX6_shown 37 = .ok (.iconst 1, 1) := by decide +kernel
theorem dX6_shown_38 : decode cX6_shown 38 = .ok (.isub, 1) := by decide +kernel
theorem dX6_shown_39 : decode cX6_shown 39 = .ok (.invokestatic 72, 3) := by decide +kernel
theorem dX6_shown_42 : decode cX6_shown 42 = .ok (.ifCond .eq 15, 3) := by decide +kernel
theorem dX6_shown_45 : decode cX6_shown 45 = .ok (.aload_n 0, 1) := by decide +kernel
theorem dX6_shown_46 : decode cX6_shown 46 = .ok (.getfield 43, 3) := by decide +kernel
theorem dX6_shown_49 : decode cX6_shown 49 = .ok (.getfield 211, 3) := by decide +kernel
theorem dX6_shown_52 : decode cX6_shown 52 = .ok (.iload_n 1, 1) := by decide +kernel
theorem dX6_shown_53 : decode cX6_shown 53 = .ok (.iaload, 1) := by decide +kernel
theorem dX6_shown_54 : decode cX6_shown 54 = .ok (.goto 5, 3) := by decide +kernel
theorem dX6_shown_57 : decode cX6_shown 57 = .ok (.bipush (-6), 2) := by decide +kernel
theorem dX6_shown_59 : decode cX6_shown 59 = .ok (.ireturn, 1) := by decide +kernel
set_option maxRecDepth 20000 in
theorem ggX6_look_X6_isWithin : GoodIn wsX6_look wsX6_isWithin := goodIn_r _ [8] (by decide +kernel) (by decide +kernel)
set_option maxRecDepth 20000 in
theorem gX6_look_X6_isWithin : GoodIn wsX6_look (va_wsS RX6 72 yX6_isWithin wsX6_isWithin) := goodIn_app (goodIn_of _ (by decide +kernel)) ggX6_look_X6_isWithin
set_option maxRecDepth 20000 in
theorem ggX6_look_X4_gather : GoodIn wsX6_look wsX4_gather := goodIn_r _ [13, 14, 15, 16, 17, 18, 12, 19, 20, 21, 22, 23, 24, 25, 26, 27, 7, 28, 29, 30, 31, 32, 33, 34, 35, 36, 37, 38, 39, 40, 41, 42, 43, 44, 45, 46, 5, 6, 8, 47, 48, 49, 50, 51, 52, 53, 54, 55, 56, 57, 80, 81, 82, 83, 84, 85, 86, 87, 88, 89, 90, 91, 92, 93, 94, 95, 96, 97] (by decide +kernel) (by decide +kernel)
set_option maxRecDepth 20000 in
theorem gX6_look_X4_gather : GoodIn wsX6_look (wsV RX6 206 RX4 yX4_gather wsX4_gather) := goodIn_app (goodIn_of _ (by decide +kernel)) ggX6_look_X4_gather
set_option maxRecDepth 20000 in
theorem ggX6_look_X4_mostLeft : GoodIn wsX6_look wsX4_mostLeft := goodIn_r _ [61, 14, 15, 62, 63, 64, 65, 66, 54, 55, 56, 12, 57, 20, 45, 7, 46, 5, 6, 8, 67, 68, 80, 81, 82, 83] (by decide +kernel) (by decide +kernel)
set_option maxRecDepth 20000 in
theorem gX6_look_X4_mostLeft : GoodIn wsX6_look (wsV RX6 214 RX4 yX4_mostLeft wsX4_mostLeft) := goodIn_app (goodIn_of _ (by decide +kernel)) ggX6_look_X4_mostLeft
theorem dX6_look_0 : decode cX6_look 0 = .ok (.iload_n 1, 1) := by decide +kernel
theorem dX6_look_1 : decode cX6_look 1 = .ok (.iconst 0, 1) := by decide +kernel
theorem dX6_look_2 : decode cX6_look 2 = .ok (.iconst 1, 1) := by decide +kernel
theorem dX6_look_3 : decode cX6_look 3 = .ok (.invokestatic 72, 3) := by decide +kernel
theorem dX6_look_6 : decode cX6_look 6 = .ok (.ifCond .ne 6, 3) := by decide +kernel
theorem dX6_look_9 : decode cX6_look 9 = .ok (.bipush (-2), 2) := by decide +kernel
theorem dX6_look_11 : decode cX6_look 11 = .ok (.ireturn, 1) := by decide +kernel
theorem dX6_look_12 : decode cX6_look 12 = .ok (.aload_n 0, 1) := by decide +kernel
theorem dX6_look_13 : decode cX6_look 13 = .ok (.getfield 43, 3) := by decide +kernel
theorem dX6_look_16 : decode cX6_look 16 = .ok (.aload_n 0, 1) := by decide +kernel
theorem dX6_look_17 : decode cX6_look 17 = .ok (.getfield 12, 3) := by decide +kernel
theorem dX6_look_20 : decode cX6_look 20 = .ok (.aload_n 0, 1) := by decide +kernel
theorem dX6_look_21 : decode cX6_look 21 = .ok (.getfield 36, 3) := by decide +kernel
theorem dX6_look_24 : decode cX6_look 24 = .ok (.invokevirtual 206, 3) := by decide +kernel
theorem dX6_look_27 : decode cX6_look 27 = .ok (.aload_n 0, 1) := by decide +kernel
theorem dX6_look_28 : decode cX6_look 28 = .ok (.getfield 43, 3) := by decide +kernel
theorem dX6_look_31 : decode cX6_look 31 = .ok (.getfield 210, 3) := by decide +kernel
theorem dX6_look_34 : decode cX6_look 34 = .ok (.ifCond .ne 6, 3) := by decide +kernel
theorem dX6_look_37 : decode cX6_look 37 = .ok (.bipush (-6), 2) := by decide +kernel
theorem dX6_look_39 : decode cX6_look 39 = .ok (.ireturn, 1) := by decide +kernel
theorem dX6_look_40 : decode cX6_look 40 = .ok (.iconst 0, 1) := by decide +kernel
theorem dX6_look_41 : decode cX6_look 41 = .ok (.istore_n 2, 1) := by decide +kernel
theorem dX6_look_42 : decode cX6_look 42 = .ok (.aload_n 0, 1) := by decide +kernel
theorem dX6_look_43 : decode cX6_look 43 = .ok (.getfield 43, 3) := by decide +kernel
theorem dX6_look_46 : decode cX6_look 46 = .ok (.iconst 0, 1) := by decide +kernel
theorem dX6_look_47 : decode cX6_look 47 = .ok (.invokevirtual 214, 3) := by decide +kernel
theorem dX6_look_50 : decode cX6_look 50 = .ok (.istore_n 3, 1) := by decide +kernel
theorem dX6_look_51 : decode cX6_look 51 = .ok (.iconst 1, 1) := by decide +kernel
theorem dX6_look_52 : decode cX6_look 52 = .ok (.istore 4, 2) := by decide +kernel
theorem dX6_look_54 : decode cX6_look 54 = .ok (.iload 4, 2) := by decide +kernel
theorem dX6_look_56 : decode cX6_look 56 = .ok (.bipush 60, 2) := by decide +kernel
theorem dX6_look_58 : decode cX6_look 58 = .ok (.if_icmp .gt 32, 3) := by decide +kernel
theorem dX6_look_61 : decode cX6_look 61 = .ok (.aload_n 0, 1) := by decide +kernel
theorem dX6_look_62 : decode cX6_look 62 = .ok (.getfield 43, 3) := by decide +kernel
theorem dX6_look_65 : decode cX6_look 65 = .ok (.iload 4, 2) := by decide +kernel
theorem dX6_look_67 : decode cX6_look 67 = .ok (.invokevirtual 214, 3) := by decide +kernel
theorem dX6_look_70 : decode cX6_look 70 = .ok (.istore 5, 2) := by decide +kernel
theorem dX6_look_72 : decode cX6_look 72 = .ok (.iload 5, 2) := by decide +kernel
theorem dX6_look_74 : decode cX6_look 74 = .ok (.iload_n 3, 1) := by decide +kernel
theorem dX6_look_75 : decode cX6_look 75 = .ok (.if_icmp .ge 9, 3) := by decide +kernel
theorem dX6_look_78 : decode cX6_look 78 = .ok (.iload 5, 2) := by decide +kernel
theorem dX6_look_80 : decode cX6_look 80 = .ok (.istore_n 3, 1) := by decide +kernel
theorem dX6_look_81 : decode cX6_look 81 = .ok (.iload 4, 2) := by decide +kernel
theorem dX6_look_83 : decode cX6_look 83 = .ok (.istore_n 2, 1) := by decide +kernel
theorem dX6_look_84 : decode cX6_look 84 = .ok (.iinc 4 1, 3) := by decide +kernel
theorem dX6_look_87 : decode cX6_look 87 = .ok (.goto (-33), 3) := by decide +kernel
theorem dX6_look_90 : decode cX6_look 90 = .ok (.iload_n 1, 1) := by decide +kernel
theorem dX6_look_91 : decode cX6_look 91 = .ok (.ifCond .ne 7, 3) := by decide +kernel
theorem dX6_look_94 : decode cX6_look 94 = .ok (.iload_n 2, 1) := by decide +kernel
theorem dX6_look_95 : decode cX6_look 95 = .ok (.goto 4, 3) := by decide +kernel
theorem dX6_look_98 : decode cX6_look 98 = .ok (.iload_n 3, 1) := by decide +kernel
theorem dX6_look_99 : decode cX6_look 99 = .ok (.ireturn, 1) := by decide +kernel
set_option maxRecDepth 20000 in
theorem ggX6_fogs_X6_isWithin : GoodIn wsX6_fogs wsX6_isWithin := goodIn_r _ [7] (by decide +kernel) (by decide +kernel)
set_option maxRecDepth 20000 in
theorem gX6_fogs_X6_isWithin : GoodIn wsX6_fogs (va_wsS RX6 72 yX6_isWithin wsX6_isWithin) := goodIn_app (goodIn_of _ (by decide +kernel)) ggX6_fogs_X6_isWithin
set_option maxRecDepth 20000 in
theorem ggX6_fogs_X6_isColour : GoodIn wsX6_fogs wsX6_isColour := goodIn_r _ [10, 4, 5, 6, 7] (by decide +kernel) (by decide +kernel)
set_option maxRecDepth 20000 in
theorem gX6_fogs_X6_isColour : GoodIn wsX6_fogs (va_wsS RX6 139 yX6_isColour wsX6_isColour) := goodIn_app (goodIn_of _ (by decide +kernel)) ggX6_fogs_X6_isColour
set_option maxRecDepth 20000 in
theorem ggX6_fogs_X6_isAmount : GoodIn wsX6_fogs wsX6_isAmount := goodIn_r _ [13, 4, 5, 6, 7] (by decide +kernel) (by decide +kernel)
set_option maxRecDepth 20000 in
theorem gX6_fogs_X6_isAmount : GoodIn wsX6_fogs (va_wsS RX6 92 yX6_isAmount wsX6_isAmount) := goodIn_app (goodIn_of _ (by decide +kernel)) ggX6_fogs_X6_isAmount
set_option maxRecDepth 20000 in
theorem ggX6_fogs_X0_fromNow : GoodIn wsX6_fogs wsX0_fromNow := goodIn_r _ [18, 19, 20, 21, 22, 23, 24, 25, 26, 27, 28, 29, 30, 31, 32, 33, 34, 35, 36, 37, 6, 38, 84, 85, 86, 87, 88, 89, 90, 91, 92, 93, 94, 95, 96, 97] (by decide +kernel) (by decide +kernel)
set_option maxRecDepth 20000 in
theorem gX6_fogs_X0_fromNow : GoodIn wsX6_fogs (wsV RX6 149 RX0 yX0_fromNow wsX0_fromNow) := goodIn_app (goodIn_of _ (by decide +kernel)) ggX6_fogs_X0_fromNow
set_option maxRecDepth 20000 in
theorem ggX6_fogs_X6_fogWeight : GoodIn wsX6_fogs wsX6_fogWeight := goodIn_r _ [41, 42, 43, 44, 45, 46, 47, 48, 49, 50, 6, 51] (by decide +kernel) (by decide +kernel)
set_option maxRecDepth 20000 in
theorem gX6_fogs_X6_fogWeight : GoodIn wsX6_fogs (va_wsS RX6 219 yX6_fogWeight wsX6_fogWeight) := goodIn_app (goodIn_of _ (by decide +kernel)) ggX6_fogs_X6_fogWeight
set_option maxRecDepth 20000 in
theorem ggX6_fogs_X0_run : GoodIn wsX6_fogs wsX0_run := goodIn_r _ [55, 19, 56, 6, 57, 58, 59, 60, 17, 61, 62, 63, 37, 38, 84, 85, 86, 87, 88, 89, 90, 91, 92, 93, 94, 95, 96, 97] (by decide +kernel) (by decide +kernel)
set_option maxRecDepth 20000 in
theorem gX6_fogs_X0_run : GoodIn wsX6_fogs (wsV RX6 153 RX0 yX0_run wsX0_run) := goodIn_app (goodIn_of _ (by decide +kernel)) ggX6_fogs_X0_run
set_option maxRecDepth 20000 in
theorem ggX6_fogs_X0_at : GoodIn wsX6_fogs wsX0_at := goodIn_r _ [67, 19, 68, 6, 69, 4, 5, 7, 84] (by decide +kernel) (by decide +kernel)
set_option maxRecDepth 20000 in
theorem gX6_fogs_X0_at : GoodIn wsX6_fogs (wsV RX6 223 RX0 yX0_at wsX0_at) := goodIn_app (goodIn_of _ (by decide +kernel)) ggX6_fogs_X0_at
set_option maxRecDepth 20000 in
theorem ggX6_fogs_X6_power : GoodIn wsX6_fogs wsX6_power := goodIn_r _ [51] (by decide +kernel) (by decide +kernel)
set_option maxRecDepth 20000 in
theorem gX6_fogs_X6_power : GoodIn wsX6_fogs (va_wsS RX6 226 yX6_power wsX6_power) := goodIn_app (goodIn_of _ (by decide +kernel)) ggX6_fogs_X6_power
set_option maxRecDepth 20000 in
theorem ggX6_fogs_X6_commonDivisor : GoodIn wsX6_fogs wsX6_commonDivisor := goodIn_r _ [72] (by decide +kernel) (by decide +kernel)
set_option maxRecDepth 20000 in
theorem gX6_fogs_X6_commonDivisor : GoodIn wsX6_fogs (va_wsS RX6 230 yX6_commonDivisor wsX6_commonDivisor) := goodIn_app (goodIn_of _ (by decide +kernel)) ggX6_fogs_X6_commonDivisor
theorem dX6_fogs_0 : decode cX6_fogs 0 = .ok (.iload_n 2, 1) := by decide +kernel
theorem dX6_fogs_1 : decode cX6_fogs 1 = .ok (.iconst 0, 1) := by decide +kernel
theorem dX6_fogs_2 : decode cX6_fogs 2 = .ok (.bipush 8, 2) := by decide +kernel
theorem dX6_fogs_4 : decode cX6_fogs 4 = .ok (.invokestatic 72, 3) := by decide +kernel
theorem dX6_fogs_7 : decode cX6_fogs 7 = .ok (.ifCond .eq 17, 3) := by decide +kernel
theorem dX6_fogs_10 : decode cX6_fogs 10 = .ok (.iload_n 3, 1) := by decide +kernel
theorem dX6_fogs_11 : decode cX6_fogs 11 = .ok (.iconst 0, 1) := by decide +kernel
theorem dX6_fogs_12 : decode cX6_fogs 12 = .ok (.bipush 10, 2) := by decide +kernel
theorem dX6_fogs_14 : decode cX6_fogs 14 = .ok (.invokestatic 72, 3) := by decide +kernel
theorem dX6_fogs_17 : decode cX6_fogs 17 = .ok (.ifCond .eq 7, 3) := by decide +kernel
theorem dX6_fogs_20 : decode cX6_fogs 20 = .ok (.iconst 1, 1) := by decide +kernel
theorem dX6_fogs_21 : decode cX6_fogs 21 = .ok (.goto 4, 3) := by decide +kernel
theorem dX6_fogs_24 : decode cX6_fogs 24 = .ok (.iconst 0, 1) := by decide +kernel
theorem dX6_fogs_25 : decode cX6_fogs 25 = .ok (.istore 7, 2) := by decide +kernel
theorem dX6_fogs_27 : decode cX6_fogs 27 = .ok (.iload 5, 2) := by decide +kernel
theorem dX6_fogs_29 : decode cX6_fogs 29 = .ok (.iconst 0, 1) := by decide +kernel
theorem dX6_fogs_30 : decode cX6_fogs 30 = .ok (.iconst 1, 1) := by decide +kernel
theorem dX6_fogs_31 : decode cX6_fogs 31 = .ok (.invokestatic 72, 3) := by decide +kernel
theorem dX6_fogs_34 : decode cX6_fogs 34 = .ok (.ifCond .eq 17, 3) := by decide +kernel
theorem dX6_fogs_37 : decode cX6_fogs 37 = .ok (.iload 6, 2) := by decide +kernel
theorem dX6_fogs_39 : decode cX6_fogs 39 = .ok (.iconst 0, 1) := by decide +kernel
theorem dX6_fogs_40 : decode cX6_fogs 40 = .ok (.iconst 1, 1) := by decide +kernel
theorem dX6_fogs_41 : decode cX6_fogs 41 = .ok (.invokestatic 72, 3) := by decide +kernel
theorem dX6_fogs_44 : decode cX6_fogs 44 = .ok (.ifCond .eq 7, 3) := by decide +kernel
theorem dX6_fogs_47 : decode cX6_fogs 47 = .ok (.iconst 1, 1) := by decide +kernel
theorem dX6_fogs_48 : decode cX6_fogs 48 = .ok (.goto 4, 3) := by decide +kernel
theorem dX6_fogs_51 : decode cX6_fogs 51 = .ok (.iconst 0, 1) := by decide +kernel
theorem dX6_fogs_52 : decode cX6_fogs 52 = .ok (.istore 8, 2) := by decide +kernel
theorem dX6_fogs_54 : decode cX6_fogs 54 = .ok (.iload_n 1, 1) := by decide +kernel
theorem dX6_fogs_55 : decode cX6_fogs 55 = .ok (.invokestatic 139, 3) := by decide +kernel
theorem dX6_fogs_58 : decode cX6_fogs 58 = .ok (.ifCond .eq 21, 3) := by decide +kernel
theorem dX6_fogs_61 : decode cX6_fogs 61 = .ok (.iload 7, 2) := by decide +kernel
theorem dX6_fogs_63 : decode cX6_fogs 63 = .ok (.ifCond .eq 16, 3) := by decide +kernel
theorem dX6_fogs_66 : decode cX6_fogs 66 = .ok (.iload 4, 2) := by decide +kernel
theorem dX6_fogs_68 : decode cX6_fogs 68 = .ok (.invokestatic 92, 3) := by decide +kernel
theorem dX6_fogs_71 : decode cX6_fogs 71 = .ok (.ifCond .eq 8, 3) := by decide +kernel
theorem dX6_fogs_74 : decode cX6_fogs 74 = .ok (.iload 8, 2) := by decide +kernel
theorem dX6_fogs_76 : decode cX6_fogs 76 = .ok (.ifCond .ne 7, 3) := by decide +kernel
theorem dX6_fogs_79 : decode cX6_fogs 79 = .ok (.ldc2_w 217, 3) := by decide +kernel
theorem dX6_fogs_82 : decode cX6_fogs 82 = .ok (.lreturn, 1) := by decide +kernel
theorem dX6_fogs_83 : decode cX6_fogs 83 = .ok (.aload_n 0, 1) := by decide +kernel
