theorem dX3_act_30 : decode cX3_act 30 = .ok (.goto 102, 3) := by decide +kernel
theorem dX3_act_33 : decode cX3_act 33 = .ok (.iload 4, 2) := by decide +kernel
theorem dX3_act_35 : decode cX3_act 35 = .ok (.bipush (-6), 2) := by decide +kernel
theorem dX3_act_37 : decode cX3_act 37 = .ok (.if_icmp .eq 12, 3) := by decide +kernel
theorem dX3_act_40 : decode cX3_act 40 = .ok (.aload_n 0, 1) := by decide +kernel
theorem dX3_act_41 : decode cX3_act 41 = .ok (.iload 4, 2) := by decide +kernel
theorem dX3_act_43 : decode cX3_act 43 = .ok (.invokevirtual 97, 3) := by decide +kernel
theorem dX3_act_46 : decode cX3_act 46 = .ok (.goto 86, 3) := by decide +kernel
theorem dX3_act_49 : decode cX3_act 49 = .ok (.iload_n 1, 1) := by decide +kernel
theorem dX3_act_50 : decode cX3_act 50 = .ok (.bipush 102, 2) := by decide +kernel
theorem dX3_act_52 : decode cX3_act 52 = .ok (.if_icmp .ne 22, 3) := by decide +kernel
theorem dX3_act_55 : decode cX3_act 55 = .ok (.aload_n 0, 1) := by decide +kernel
theorem dX3_act_56 : decode cX3_act 56 = .ok (.aload_n 0, 1) := by decide +kernel
theorem dX3_act_57 : decode cX3_act 57 = .ok (.getfield 46, 3) := by decide +kernel
theorem dX3_act_60 : decode cX3_act 60 = .ok (.ifCond .ne 7, 3) := by decide +kernel
theorem dX3_act_63 : decode cX3_act 63 = .ok (.iconst 1, 1) := by decide +kernel
theorem dX3_act_64 : decode cX3_act 64 = .ok (.goto 4, 3) := by decide +kernel
theorem dX3_act_67 : decode cX3_act 67 = .ok (.iconst 0, 1) := by decide +kernel
theorem dX3_act_68 : decode cX3_act 68 = .ok (.putfield 46, 3) := by decide +kernel
theorem dX3_act_71 : decode cX3_act 71 = .ok (.goto 61, 3) := by decide +kernel
theorem dX3_act_74 : decode cX3_act 74 = .ok (.iload_n 1, 1) := by decide +kernel
theorem dX3_act_75 : decode cX3_act 75 = .ok (.bipush 115, 2) := by decide +kernel
theorem dX3_act_77 : decode cX3_act 77 = .ok (.if_icmp .ne 22, 3) := by decide +kernel
theorem dX3_act_80 : decode cX3_act 80 = .ok (.aload_n 0, 1) := by decide +kernel
theorem dX3_act_81 : decode cX3_act 81 = .ok (.aload_n 0, 1) := by decide +kernel
theorem dX3_act_82 : decode cX3_act 82 = .ok (.getfield 50, 3) := by decide +kernel
theorem dX3_act_85 : decode cX3_act 85 = .ok (.ifCond .ne 7, 3) := by decide +kernel
theorem dX3_act_88 : decode cX3_act 88 = .ok (.iconst 1, 1) := by decide +kernel
theorem dX3_act_89 : decode cX3_act 89 = .ok (.goto 4, 3) := by decide +kernel
theorem dX3_act_92 : decode cX3_act 92 = .ok (.iconst 0, 1) := by decide +kernel
theorem dX3_act_93 : decode cX3_act 93 = .ok (.putfield 50, 3) := by decide +kernel
theorem dX3_act_96 : decode cX3_act 96 = .ok (.goto 36, 3) := by decide +kernel
theorem dX3_act_99 : decode cX3_act 99 = .ok (.iload_n 1, 1) := by decide +kernel
theorem dX3_act_100 : decode cX3_act 100 = .ok (.bipush 46, 2) := by decide +kernel
theorem dX3_act_102 : decode cX3_act 102 = .ok (.if_icmp .ne 10, 3) := by decide +kernel
theorem dX3_act_105 : decode cX3_act 105 = .ok (.aload_n 0, 1) := by decide +kernel
theorem dX3_act_106 : decode cX3_act 106 = .ok (.invokevirtual 101, 3) := by decide +kernel
theorem dX3_act_109 : decode cX3_act 109 = .ok (.goto 23, 3) := by decide +kernel
theorem dX3_act_112 : decode cX3_act 112 = .ok (.iload_n 1, 1) := by decide +kernel
theorem dX3_act_113 : decode cX3_act 113 = .ok (.bipush 119, 2) := by decide +kernel
theorem dX3_act_115 : decode cX3_act 115 = .ok (.if_icmp .ne 17, 3) := by decide +kernel
theorem dX3_act_118 : decode cX3_act 118 = .ok (.iload_n 2, 1) := by decide +kernel
theorem dX3_act_119 : decode cX3_act 119 = .ok (.invokestatic 93, 3) := by decide +kernel
theorem dX3_act_122 : decode cX3_act 122 = .ok (.ifCond .eq 10, 3) := by decide +kernel
theorem dX3_act_125 : decode cX3_act 125 = .ok (.aload_n 0, 1) := by decide +kernel
theorem dX3_act_126 : decode cX3_act 126 = .ok (.getfield 15, 3) := by decide +kernel
theorem dX3_act_129 : decode cX3_act 129 = .ok (.iload_n 2, 1) := by decide +kernel
theorem dX3_act_130 : decode cX3_act 130 = .ok (.iconst 0, 1) := by decide +kernel
theorem dX3_act_131 : decode cX3_act 131 = .ok (.iastore, 1) := by decide +kernel
theorem dX3_act_132 : decode cX3_act 132 = .ok (.return_, 1) := by decide +kernel
set_option maxRecDepth 20000 in
theorem ggX3_wear_X3_worth : GoodIn wsX3_wear wsX3_worth := goodIn_r _ [7, 8, 9, 10, 11, 12, 13, 14, 15, 16, 17, 18, 19, 20, 21] (by decide +kernel) (by decide +kernel)
set_option maxRecDepth 20000 in
theorem gX3_wear_X3_worth : GoodIn wsX3_wear (wsV RX3 63 RX3 yX3_worth wsX3_worth) := goodIn_app (goodIn_of _ (by decide +kernel)) ggX3_wear_X3_worth
theorem dX3_wear_0 : decode cX3_wear 0 = .ok (.iconst 0, 1) := by decide +kernel
theorem dX3_wear_1 : decode cX3_wear 1 = .ok (.istore_n 2, 1) := by decide +kernel
theorem dX3_wear_2 : decode cX3_wear 2 = .ok (.iload_n 2, 1) := by decide +kernel
theorem dX3_wear_3 : decode cX3_wear 3 = .ok (.iconst 3, 1) := by decide +kernel
theorem dX3_wear_4 : decode cX3_wear 4 = .ok (.if_icmp .ge 24, 3) := by decide +kernel
theorem dX3_wear_7 : decode cX3_wear 7 = .ok (.aload_n 0, 1) := by decide +kernel
theorem dX3_wear_8 : decode cX3_wear 8 = .ok (.getfield 24, 3) := by decide +kernel
theorem dX3_wear_11 : decode cX3_wear 11 = .ok (.iload_n 2, 1) := by decide +kernel
theorem dX3_wear_12 : decode cX3_wear 12 = .ok (.dup2, 1) := by decide +kernel
theorem dX3_wear_13 : decode cX3_wear 13 = .ok (.iaload, 1) := by decide +kernel
theorem dX3_wear_14 : decode cX3_wear 14 = .ok (.aload_n 0, 1) := by decide +kernel
theorem dX3_wear_15 : decode cX3_wear 15 = .ok (.iload_n 1, 1) := by decide +kernel
theorem dX3_wear_16 : decode cX3_wear 16 = .ok (.iload_n 2, 1) := by decide +kernel
theorem dX3_wear_17 : decode cX3_wear 17 = .ok (.invokevirtual 63, 3) := by decide +kernel
theorem dX3_wear_20 : decode cX3_wear 20 = .ok (.iadd, 1) := by decide +kernel
theorem dX3_wear_21 : decode cX3_wear 21 = .ok (.iastore, 1) := by decide +kernel
theorem dX3_wear_22 : decode cX3_wear 22 = .ok (.iinc 2 1, 3) := by decide +kernel
theorem dX3_wear_25 : decode cX3_wear 25 = .ok (.goto (-23), 3) := by decide +kernel
theorem dX3_wear_28 : decode cX3_wear 28 = .ok (.aload_n 0, 1) := by decide +kernel
theorem dX3_wear_29 : decode cX3_wear 29 = .ok (.dup, 1) := by decide +kernel
theorem dX3_wear_30 : decode cX3_wear 30 = .ok (.getfield 43, 3) := by decide +kernel
theorem dX3_wear_33 : decode cX3_wear 33 = .ok (.iconst 1, 1) := by decide +kernel
theorem dX3_wear_34 : decode cX3_wear 34 = .ok (.iload_n 1, 1) := by decide +kernel
theorem dX3_wear_35 : decode cX3_wear 35 = .ok (.ishl, 1) := by decide +kernel
theorem dX3_wear_36 : decode cX3_wear 36 = .ok (.ior, 1) := by decide +kernel
theorem dX3_wear_37 : decode cX3_wear 37 = .ok (.putfield 43, 3) := by decide +kernel
theorem dX3_wear_40 : decode cX3_wear 40 = .ok (.return_, 1) := by decide +kernel
theorem dX4_init_0 : decode cX4_init 0 = .ok (.aload_n 0, 1) := by decide +kernel
theorem dX4_init_1 : decode cX4_init 1 = .ok (.invokespecial 3, 3) := by decide +kernel
theorem dX4_init_4 : decode cX4_init 4 = .ok (.aload_n 0, 1) := by decide +kernel
theorem dX4_init_5 : decode cX4_init 5 = .ok (.sipush 549, 3) := by decide +kernel
theorem dX4_init_8 : decode cX4_init 8 = .ok (.newarray .int, 2) := by decide +kernel
theorem dX4_init_10 : decode cX4_init 10 = .ok (.putfield 9, 3) := by decide +kernel
theorem dX4_init_13 : decode cX4_init 13 = .ok (.aload_n 0, 1) := by decide +kernel
theorem dX4_init_14 : decode cX4_init 14 = .ok (.bipush 90, 2) := by decide +kernel
theorem dX4_init_16 : decode cX4_init 16 = .ok (.newarray .int, 2) := by decide +kernel
theorem dX4_init_18 : decode cX4_init 18 = .ok (.putfield 15, 3) := by decide +kernel
theorem dX4_init_21 : decode cX4_init 21 = .ok (.aload_n 0, 1) := by decide +kernel
theorem dX4_init_22 : decode cX4_init 22 = .ok (.sipush 1000, 3) := by decide +kernel
theorem dX4_init_25 : decode cX4_init 25 = .ok (.newarray .int, 2) := by decide +kernel
theorem dX4_init_27 : decode cX4_init 27 = .ok (.putfield 18, 3) := by decide +kernel
theorem dX4_init_30 : decode cX4_init 30 = .ok (.aload_n 0, 1) := by decide +kernel
theorem dX4_init_31 : decode cX4_init 31 = .ok (.iconst 0, 1) := by decide +kernel
theorem dX4_init_32 : decode cX4_init 32 = .ok (.putfield 21, 3) := by decide +kernel
theorem dX4_init_35 : decode cX4_init 35 = .ok (.return_, 1) := by decide +kernel
set_option maxRecDepth 20000 in
theorem ggX4_gather_X4_fillEcho : GoodIn wsX4_gather wsX4_fillEcho := goodIn_r _ [7, 8, 9, 10, 11, 12, 13, 14, 15, 16, 17, 18, 19, 20, 21, 22, 23, 24, 25, 26, 27, 28, 29, 30, 31, 32, 33, 34, 35, 36, 37, 38, 50, 51, 52, 53, 54, 55, 56, 57, 58, 59, 60, 61, 62, 63, 64, 65, 66, 67] (by decide +kernel) (by decide +kernel)
set_option maxRecDepth 20000 in
theorem gX4_gather_X4_fillEcho : GoodIn wsX4_gather (wsV RX4 25 RX4 yX4_fillEcho wsX4_fillEcho) := goodIn_app (goodIn_of _ (by decide +kernel)) ggX4_gather_X4_fillEcho
set_option maxRecDepth 20000 in
theorem ggX4_gather_X4_fits : GoodIn wsX4_gather wsX4_fits := goodIn_r _ [42, 43, 44, 45, 46, 47, 48, 6, 49, 8, 34, 16, 35, 36, 37, 38, 55, 56, 57, 58, 59, 60, 61, 62, 63, 64, 65, 66, 67, 50, 51, 52, 53] (by decide +kernel) (by decide +kernel)
set_option maxRecDepth 20000 in
theorem gX4_gather_X4_fits : GoodIn wsX4_gather (wsV RX4 29 RX4 yX4_fits wsX4_fits) := goodIn_app (goodIn_of _ (by decide +kernel)) ggX4_gather_X4_fits
theorem dX4_gather_0 : decode cX4_gather 0 = .ok (.aload_n 0, 1) := by decide +kernel
theorem dX4_gather_1 : decode cX4_gather 1 = .ok (.aload_n 1, 1) := by decide +kernel
theorem dX4_gather_2 : decode cX4_gather 2 = .ok (.aload_n 2, 1) := by decide +kernel
theorem dX4_gather_3 : decode cX4_gather 3 = .ok (.invokevirtual 25, 3) := by decide +kernel
theorem dX4_gather_6 : decode cX4_gather 6 = .ok (.aload_n 0, 1) := by decide +kernel
theorem dX4_gather_7 : decode cX4_gather 7 = .ok (.iconst 0, 1) := by decide +kernel
theorem dX4_gather_8 : decode cX4_gather 8 = .ok (.putfield 21, 3) := by decide +kernel
theorem dX4_gather_11 : decode cX4_gather 11 = .ok (.iconst 0, 1) := by decide +kernel
theorem dX4_gather_12 : decode cX4_gather 12 = .ok (.istore_n 3, 1) := by decide +kernel
theorem dX4_gather_13 : decode cX4_gather 13 = .ok (.iload_n 3, 1) := by decide +kernel
theorem dX4_gather_14 : decode cX4_gather 14 = .ok (.bipush 10, 2) := by decide +kernel
theorem dX4_gather_16 : decode cX4_gather 16 = .ok (.if_icmp .ge 66, 3) := by decide +kernel
theorem dX4_gather_19 : decode cX4_gather 19 = .ok (.iconst 1, 1) := by decide +kernel
theorem dX4_gather_20 : decode cX4_gather 20 = .ok (.istore 4, 2) := by decide +kernel
theorem dX4_gather_22 : decode cX4_gather 22 = .ok (.iload 4, 2) := by decide +kernel
theorem dX4_gather_24 : decode cX4_gather 24 = .ok (.bipush 9, 2) := by decide +kernel
theorem dX4_gather_26 : decode cX4_gather 26 = .ok (.if_icmp .gt 50, 3) := by decide +kernel
theorem dX4_gather_29 : decode cX4_gather 29 = .ok (.aload_n 0, 1) := by decide +kernel
theorem dX4_gather_30 : decode cX4_gather 30 = .ok (.aload_n 1, 1) := by decide +kernel
theorem dX4_gather_31 : decode cX4_gather 31 = .ok (.bipush 10, 2) := by decide +kernel
theorem dX4_gather_33 : decode cX4_gather 33 = .ok (.iload_n 3, 1) := by decide +kernel
theorem dX4_gather_34 : decode cX4_gather 34 = .ok (.imul, 1) := by decide +kernel
theorem dX4_gather_35 : decode cX4_gather 35 = .ok (.iload 4, 2) := by decide +kernel
theorem dX4_gather_37 : decode cX4_gather 37 = .ok (.iadd, 1) := by decide +kernel
theorem dX4_gather_38 : decode cX4_gather 38 = .ok (.invokevirtual 29, 3) := by decide +kernel
theorem dX4_gather_41 : decode cX4_gather 41 = .ok (.ifCond .eq 29, 3) := by decide +kernel
theorem dX4_gather_44 : decode cX4_gather 44 = .ok (.aload_n 0, 1) := by decide +kernel
theorem dX4_gather_45 : decode cX4_gather 45 = .ok (.getfield 15, 3) := by decide +kernel
theorem dX4_gather_48 : decode cX4_gather 48 = .ok (.aload_n 0, 1) := by decide +kernel
theorem dX4_gather_49 : decode cX4_gather 49 = .ok (.getfield 21, 3) := by decide +kernel
theorem dX4_gather_52 : decode cX4_gather 52 = .ok (.bipush 10, 2) := by decide +kernel
theorem dX4_gather_54 : decode cX4_gather 54 = .ok (.iload_n 3, 1) := by decide +kernel
theorem dX4_gather_55 : decode cX4_gather 55 = .ok (.imul, 1) := by decide +kernel
theorem dX4_gather_56 : decode cX4_gather 56 = .ok (.iload 4, 2) := by decide +kernel
theorem dX4_gather_58 : decode cX4_gather 58 = .ok (.iadd, 1) := by decide +kernel
theorem dX4_gather_59 : decode cX4_gather 59 = .ok (.iastore, 1) := by decide +kernel
theorem dX4_gather_60 : decode cX4_gather 60 = .ok (.aload_n 0, 1) := by decide +kernel
theorem dX4_gather_61 : decode cX4_gather 61 = .ok (.dup, 1) := by decide +kernel
theorem dX4_gather_62 : decode cX4_gather 62 = .ok (.getfield 21, 3) := by decide +kernel
theorem dX4_gather_65 : decode cX4_gather 65 = .ok (.iconst 1, 1) := by decide +kernel
theorem dX4_gather_66 : decode cX4_gather 66 = .ok (.iadd, 1) := by decide +kernel
theorem dX4_gather_67 : decode cX4_gather 67 = .ok (.putfield 21, 3) := by decide +kernel
theorem dX4_gather_70 : decode cX4_gather 70 = .ok (.iinc 4 1, 3) := by decide +kernel
theorem dX4_gather_73 : decode cX4_gather 73 = .ok (.goto (-51), 3) := by decide +kernel
theorem dX4_gather_76 : decode cX4_gather 76 = .ok (.iinc 3 1, 3) := by decide +kernel
theorem dX4_gather_79 : decode cX4_gather 79 = .ok (.goto (-66), 3) := by decide +kernel
theorem dX4_gather_82 : decode cX4_gather 82 = .ok (.return_, 1) := by decide +kernel
set_option maxRecDepth 20000 in
theorem ggX4_fillEcho_X0_fromNothing : GoodIn wsX4_fillEcho wsX0_fromNothing := goodIn_r _ [6, 7, 8, 9, 10, 36] (by decide +kernel) (by decide +kernel)
set_option maxRecDepth 20000 in
theorem gX4_fillEcho_X0_fromNothing : GoodIn wsX4_fillEcho (wsV RX4 33 RX0 yX0_fromNothing wsX0_fromNothing) := goodIn_app (goodIn_of _ (by decide +kernel)) ggX4_fillEcho_X0_fromNothing
set_option maxRecDepth 20000 in
theorem ggX4_fillEcho_X0_run : GoodIn wsX4_fillEcho wsX0_run := goodIn_r _ [14, 7, 15, 9, 16, 17, 18, 19, 5, 20, 21, 22, 8, 10, 36, 37, 38, 39, 40, 41, 42, 43, 44, 45, 46, 47, 48, 49] (by decide +kernel) (by decide +kernel)
set_option maxRecDepth 20000 in
theorem gX4_fillEcho_X0_run : GoodIn wsX4_fillEcho (wsV RX4 39 RX0 yX0_run wsX0_run) := goodIn_app (goodIn_of _ (by decide +kernel)) ggX4_fillEcho_X0_run
set_option maxRecDepth 20000 in
theorem ggX4_fillEcho_X0_at : GoodIn wsX4_fillEcho wsX0_at := goodIn_r _ [26, 7, 27, 9, 28, 29, 30, 31, 36] (by decide +kernel) (by decide +kernel)
set_option maxRecDepth 20000 in
theorem gX4_fillEcho_X0_at : GoodIn wsX4_fillEcho (wsV RX4 43 RX0 yX0_at wsX0_at) := goodIn_app (goodIn_of _ (by decide +kernel)) ggX4_fillEcho_X0_at
theorem dX4_fillEcho_0 : decode cX4_fillEcho 0 = .ok (.iconst 1, 1) := by decide +kernel
theorem dX4_fillEcho_1 : decode cX4_fillEcho 1 = .ok (.istore_n 3, 1) := by decide +kernel
theorem dX4_fillEcho_2 : decode cX4_fillEcho 2 = .ok (.iload_n 3, 1) := by decide +kernel
theorem dX4_fillEcho_3 : decode cX4_fillEcho 3 = .ok (.bipush 9, 2) := by decide +kernel
theorem dX4_fillEcho_5 : decode cX4_fillEcho 5 = .ok (.if_icmp .gt 61, 3) := by decide +kernel
theorem dX4_fillEcho_8 : decode cX4_fillEcho 8 = .ok (.aload_n 2, 1) := by decide +kernel
theorem dX4_fillEcho_9 : decode cX4_fillEcho 9 = .ok (.bipush 10, 2) := by decide +kernel
theorem dX4_fillEcho_11 : decode cX4_fillEcho 11 = .ok (.iload_n 3, 1) := by decide +kernel
theorem dX4_fillEcho_12 : decode cX4_fillEcho 12 = .ok (.imul, 1) := by decide +kernel
theorem dX4_fillEcho_13 : decode cX4_fillEcho 13 = .ok (.invokevirtual 33, 3) := by decide +kernel
theorem dX4_fillEcho_16 : decode cX4_fillEcho 16 = .ok (.aload_n 2, 1) := by decide +kernel
theorem dX4_fillEcho_17 : decode cX4_fillEcho 17 = .ok (.aload_n 1, 1) := by decide +kernel
theorem dX4_fillEcho_18 : decode cX4_fillEcho 18 = .ok (.bipush 60, 2) := by decide +kernel
theorem dX4_fillEcho_20 : decode cX4_fillEcho 20 = .ok (.iconst 0, 1) := by decide +kernel
theorem dX4_fillEcho_21 : decode cX4_fillEcho 21 = .ok (.invokevirtual 39, 3) := by decide +kernel
theorem dX4_fillEcho_24 : decode cX4_fillEcho 24 = .ok (.iconst 0, 1) := by decide +kernel
theorem dX4_fillEcho_25 : decode cX4_fillEcho 25 = .ok (.istore 4, 2) := by decide +kernel
theorem dX4_fillEcho_27 : decode cX4_fillEcho 27 = .ok (.iload 4, 2) := by decide +kernel
theorem dX4_fillEcho_29 : decode cX4_fillEcho 29 = .ok (.bipush 60, 2) := by decide +kernel
theorem dX4_fillEcho_31 : decode cX4_fillEcho 31 = .ok (.if_icmp .gt 29, 3) := by decide +kernel
theorem dX4_fillEcho_34 : decode cX4_fillEcho 34 = .ok (.aload_n 0, 1) := by decide +kernel
theorem dX4_fillEcho_35 : decode cX4_fillEcho 35 = .ok (.getfield 9, 3) := by decide +kernel
theorem dX4_fillEcho_38 : decode cX4_fillEcho 38 = .ok (.iload_n 3, 1) := by decide +kernel
theorem dX4_fillEcho_39 : decode cX4_fillEcho 39 = .ok (.iconst 1, 1) := by decide +kernel
theorem dX4_fillEcho_40 : decode cX4_fillEcho 40 = .ok (.isub, 1) := by decide +kernel
theorem dX4_fillEcho_41 : decode cX4_fillEcho 41 = .ok (.bipush 61, 2) := by decide +kernel
theorem dX4_fillEcho_43 : decode cX4_fillEcho 43 = .ok (.imul, 1) := by decide +kernel
theorem dX4_fillEcho_44 : decode cX4_fillEcho 44 = .ok (.iload 4, 2) := by decide +kernel
theorem dX4_fillEcho_46 : decode cX4_fillEcho 46 = .ok (.iadd, 1) := by decide +kernel
theorem dX4_fillEcho_47 : decode cX4_fillEcho 47 = .ok (.aload_n 2, 1) := by decide +kernel
theorem dX4_fillEcho_48 : decode cX4_fillEcho 48 = .ok (.iload 4, 2) := by decide +kernel
theorem dX4_fillEcho_50 : decode cX4_fillEcho 50 = .ok (.invokevirtual 43, 3) := by decide +kernel
theorem dX4_fillEcho_53 : decode cX4_fillEcho 53 = .ok (.iastore, 1) := by decide +kernel
theorem dX4_fillEcho_54 : decode cX4_fillEcho 54 = .ok (.iinc 4 1, 3) := by decide +kernel
theorem dX4_fillEcho_57 : decode cX4_fillEcho 57 = .ok (.goto (-30), 3) := by decide +kernel
theorem dX4_fillEcho_60 : decode cX4_fillEcho 60 = .ok (.iinc 3 1, 3) := by decide +kernel
theorem dX4_fillEcho_63 : decode cX4_fillEcho 63 = .ok (.goto (-61), 3) := by decide +kernel
theorem dX4_fillEcho_66 : decode cX4_fillEcho 66 = .ok (.return_, 1) := by decide +kernel
set_option maxRecDepth 20000 in
theorem ggX4_fits_X4_seenBy : GoodIn wsX4_fits wsX4_seenBy := goodIn_r _ [8, 9, 10, 11, 12, 13, 14, 15, 29, 30, 31, 32] (by decide +kernel) (by decide +kernel)
set_option maxRecDepth 20000 in
theorem gX4_fits_X4_seenBy : GoodIn wsX4_fits (wsV RX4 55 RX4 yX4_seenBy wsX4_seenBy) := goodIn_app (goodIn_of _ (by decide +kernel)) ggX4_fits_X4_seenBy
theorem dX4_fits_0 : decode cX4_fits 0 = .ok (.iconst 0, 1) := by decide +kernel
theorem dX4_fits_1 : decode cX4_fits 1 = .ok (.istore_n 3, 1) := by decide +kernel
theorem dX4_fits_2 : decode cX4_fits 2 = .ok (.iload_n 3, 1) := by decide +kernel
theorem dX4_fits_3 : decode cX4_fits 3 = .ok (.aload_n 1, 1) := by decide +kernel
theorem dX4_fits_4 : decode cX4_fits 4 = .ok (.getfield 47, 3) := by decide +kernel
theorem dX4_fits_7 : decode cX4_fits 7 = .ok (.if_icmp .ge 31, 3) := by decide +kernel
theorem dX4_fits_10 : decode cX4_fits 10 = .ok (.aload_n 0, 1) := by decide +kernel
theorem dX4_fits_11 : decode cX4_fits 11 = .ok (.iload_n 2, 1) := by decide +kernel
theorem dX4_fits_12 : decode cX4_fits 12 = .ok (.aload_n 1, 1) := by decide +kernel
theorem dX4_fits_13 : decode cX4_fits 13 = .ok (.getfield 52, 3) := by decide +kernel
theorem dX4_fits_16 : decode cX4_fits 16 = .ok (.iload_n 3, 1) := by decide +kernel
theorem dX4_fits_17 : decode cX4_fits 17 = .ok (.iaload, 1) := by decide +kernel
theorem dX4_fits_18 : decode cX4_fits 18 = .ok (.invokevirtual 55, 3) := by decide +kernel
theorem dX4_fits_21 : decode cX4_fits 21 = .ok (.aload_n 1, 1) := by decide +kernel
theorem dX4_fits_22 : decode cX4_fits 22 = .ok (.getfield 59, 3) := by decide +kernel
theorem dX4_fits_25 : decode cX4_fits 25 = .ok (.iload_n 3, 1) := by decide +kernel
theorem dX4_fits_26 : decode cX4_fits 26 = .ok (.iaload, 1) := by decide +kernel
theorem dX4_fits_27 : decode cX4_fits 27 = .ok (.if_icmp .eq 5, 3) := by decide +kernel
theorem dX4_fits_30 : decode cX4_fits 30 = .ok (.iconst 0, 1) := by decide +kernel
theorem dX4_fits_31 : decode cX4_fits 31 = .ok (.ireturn, 1) := by decide +kernel
theorem dX4_fits_32 : decode cX4_fits 32 = .ok (.iinc 3 1, 3) := by decide +kernel
theorem dX4_fits_35 : decode cX4_fits 35 = .ok (.goto (-33), 3) := by decide +kernel
theorem dX4_fits_38 : decode cX4_fits 38 = .ok (.iconst 1, 1) := by decide +kernel
theorem dX4_fits_39 : decode cX4_fits 39 = .ok (.ireturn, 1) := by decide +kernel
set_option maxRecDepth 20000 in
theorem ggX4_seenBy_X6_isAhead : GoodIn wsX4_seenBy wsX6_isAhead := goodIn_r _ [4, 5, 6, 3, 7] (by decide +kernel) (by decide +kernel)
set_option maxRecDepth 20000 in
theorem gX4_seenBy_X6_isAhead_n62 : GoodIn wsX4_seenBy (wsX6_isAhead) := ggX4_seenBy_X6_isAhead
theorem dX4_seenBy_0 : decode cX4_seenBy 0 = .ok (.iload_n 2, 1) := by decide +kernel
theorem dX4_seenBy_1 : decode cX4_seenBy 1 = .ok (.iload_n 1, 1) := by decide +kernel
theorem dX4_seenBy_2 : decode cX4_seenBy 2 = .ok (.bipush 10, 2) := by decide +kernel
theorem dX4_seenBy_4 : decode cX4_seenBy 4 = .ok (.idiv, 1) := by decide +kernel
theorem dX4_seenBy_5 : decode cX4_seenBy 5 = .ok (.isub, 1) := by decide +kernel
theorem dX4_seenBy_6 : decode cX4_seenBy 6 = .ok (.istore_n 3, 1) := by decide +kernel
theorem dX4_seenBy_7 : decode cX4_seenBy 7 = .ok (.iload_n 3, 1) := by decide +kernel
theorem dX4_seenBy_8 : decode cX4_seenBy 8 = .ok (.invokestatic 62, 3) := by decide +kernel
theorem dX4_seenBy_11 : decode cX4_seenBy 11 = .ok (.ifCond .eq 22, 3) := by decide +kernel
theorem dX4_seenBy_14 : decode cX4_seenBy 14 = .ok (.aload_n 0, 1) := by decide +kernel
theorem dX4_seenBy_15 : decode cX4_seenBy 15 = .ok (.getfield 9, 3) := by decide +kernel
theorem dX4_seenBy_18 : decode cX4_seenBy 18 = .ok (.iload_n 1, 1) := by decide +kernel
theorem dX4_seenBy_19 : decode cX4_seenBy 19 = .ok (.bipush 10, 2) := by decide +kernel
theorem dX4_seenBy_21 : decode cX4_seenBy 21 = .ok (.irem, 1) := by decide +kernel
theorem dX4_seenBy_22 : decode cX4_seenBy 22 = .ok (.iconst 1, 1) := by decide +kernel
theorem dX4_seenBy_23 : decode cX4_seenBy 23 = .ok (.isub, 1) := by decide +kernel
theorem dX4_seenBy_24 : decode cX4_seenBy 24 = .ok (.bipush 61, 2) := by decide +kernel
theorem dX4_seenBy_26 : decode cX4_seenBy 26 = .ok (.imul, 1) := by decide +kernel
theorem dX4_seenBy_27 : decode cX4_seenBy 27 = .ok (.iload_n 3, 1) := by decide +kernel
theorem dX4_seenBy_28 : decode cX4_seenBy 28 = .ok (.iadd, 1) := by decide +kernel
theorem dX4_seenBy_29 : decode cX4_seenBy 29 = .ok (.iaload, 1) := by decide +kernel
theorem dX4_seenBy_30 : decode cX4_seenBy 30 = .ok (.goto 4, 3) := by decide +kernel
theorem dX4_seenBy_33 : decode cX4_seenBy 33 = .ok (.iconst 0, 1) := by decide +kernel
theorem dX4_seenBy_34 : decode cX4_seenBy 34 = .ok (.ireturn, 1) := by decide +kernel
set_option maxRecDepth 20000 in
theorem ggX4_mostLeft_X4_seenBy : GoodIn wsX4_mostLeft wsX4_seenBy := goodIn_r _ [12, 13, 14, 15, 16, 17, 18, 19, 22, 23, 24, 25] (by decide +kernel) (by decide +kernel)
set_option maxRecDepth 20000 in
theorem gX4_mostLeft_X4_seenBy : GoodIn wsX4_mostLeft (wsV RX4 55 RX4 yX4_seenBy wsX4_seenBy) := goodIn_app (goodIn_of _ (by decide +kernel)) ggX4_mostLeft_X4_seenBy
set_option maxRecDepth 20000 in
theorem ggX4_mostLeft_X6_isAmount : GoodIn wsX4_mostLeft wsX6_isAmount := goodIn_r _ [21, 17, 18, 15, 19] (by decide +kernel) (by decide +kernel)
set_option maxRecDepth 20000 in
theorem gX4_mostLeft_X6_isAmount_n66 : GoodIn wsX4_mostLeft (wsX6_isAmount) := ggX4_mostLeft_X6_isAmount
theorem dX4_mostLeft_0 : decode cX4_mostLeft 0 = .ok (.iconst 0, 1) := by decide +kernel
theorem dX4_mostLeft_1 : decode cX4_mostLeft 1 = .ok (.istore_n 2, 1) := by decide +kernel
theorem dX4_mostLeft_2 : decode cX4_mostLeft 2 = .ok (.iconst 0, 1) := by decide +kernel
theorem dX4_mostLeft_3 : decode cX4_mostLeft 3 = .ok (.istore_n 3, 1) := by decide +kernel
theorem dX4_mostLeft_4 : decode cX4_mostLeft 4 = .ok (.iload_n 3, 1) := by decide +kernel
theorem dX4_mostLeft_5 : decode cX4_mostLeft 5 = .ok (.aload_n 0, 1) := by decide +kernel
theorem dX4_mostLeft_6 : decode cX4_mostLeft 6 = .ok (.getfield 21, 3) := by decide +kernel
theorem dX4_mostLeft_9 : decode cX4_mostLeft 9 = .ok (.if_icmp .ge 53, 3) := by decide +kernel
theorem dX4_mostLeft_12 : decode cX4_mostLeft 12 = .ok (.aload_n 0, 1) := by decide +kernel
theorem dX4_mostLeft_13 : decode cX4_mostLeft 13 = .ok (.aload_n 0, 1) := by decide +kernel
theorem dX4_mostLeft_14 : decode cX4_mostLeft 14 = .ok (.getfield 15, 3) := by decide +kernel
theorem dX4_mostLeft_17 : decode cX4_mostLeft 17 = .ok (.iload_n 3, 1) := by decide +kernel
theorem dX4_mostLeft_18 : decode cX4_mostLeft 18 = .ok (.iaload, 1) := by decide +kernel
theorem dX4_mostLeft_19 : decode cX4_mostLeft 19 = .ok (.iload_n 1, 1) := by decide +kernel
theorem dX4_mostLeft_20 : decode cX4_mostLeft 20 = .ok (.invokevirtual 55, 3) := by decide +kernel
theorem dX4_mostLeft_23 : decode cX4_mostLeft 23 = .ok (.istore 4, 2) := by decide +kernel
theorem dX4_mostLeft_25 : decode cX4_mostLeft 25 = .ok (.iload 4, 2) := by decide +kernel
theorem dX4_mostLeft_27 : decode cX4_mostLeft 27 = .ok (.invokestatic 66, 3) := by decide +kernel
theorem dX4_mostLeft_30 : decode cX4_mostLeft 30 = .ok (.ifCond .eq 26, 3) := by decide +kernel
theorem dX4_mostLeft_33 : decode cX4_mostLeft 33 = .ok (.aload_n 0, 1) := by decide +kernel
theorem dX4_mostLeft_34 : decode cX4_mostLeft 34 = .ok (.getfield 18, 3) := by decide +kernel
theorem dX4_mostLeft_37 : decode cX4_mostLeft 37 = .ok (.iload 4, 2) := by decide +kernel
theorem dX4_mostLeft_39 : decode cX4_mostLeft 39 = .ok (.dup2, 1) := by decide +kernel
theorem dX4_mostLeft_40 : decode cX4_mostLeft 40 = .ok (.iaload, 1) := by decide +kernel
theorem dX4_mostLeft_41 : decode cX4_mostLeft 41 = .ok (.iconst 1, 1) := by decide +kernel
theorem dX4_mostLeft_42 : decode cX4_mostLeft 42 = .ok (.iadd, 1) := by decide +kernel
theorem dX4_mostLeft_43 : decode cX4_mostLeft 43 = .ok (.iastore, 1) := by decide +kernel
theorem dX4_mostLeft_44 : decode cX4_mostLeft 44 = .ok (.iload_n 2, 1) := by decide +kernel
theorem dX4_mostLeft_45 : decode cX4_mostLeft 45 = .ok (.aload_n 0, 1) := by decide +kernel
theorem dX4_mostLeft_46 : decode cX4_mostLeft 46 = .ok (.getfield 18, 3) := by decide +kernel
theorem dX4_mostLeft_49 : decode cX4_mostLeft 49 = .ok (.iload 4, 2) := by decide +kernel
theorem dX4_mostLeft_51 : decode cX4_mostLeft 51 = .ok (.iaload, 1) := by decide +kernel
theorem dX4_mostLeft_52 : decode cX4_mostLeft 52 = .ok (.invokestatic 69, 3) := by decide +kernel
theorem dX4_mostLeft_55 : decode cX4_mostLeft 55 = .ok (.istore_n 2, 1) := by decide +kernel
theorem dX4_mostLeft_56 : decode cX4_mostLeft 56 = .ok (.iinc 3 1, 3) := by decide +kernel
theorem dX4_mostLeft_59 : decode cX4_mostLeft 59 = .ok (.goto (-55), 3) := by decide +kernel
theorem dX4_mostLeft_62 : decode cX4_mostLeft 62 = .ok (.iconst 0, 1) := by decide +kernel
theorem dX4_mostLeft_63 : decode cX4_mostLeft 63 = .ok (.istore_n 3, 1) := by decide +kernel
theorem dX4_mostLeft_64 : decode cX4_mostLeft 64 = .ok (.iload_n 3, 1) := by decide +kernel
theorem dX4_mostLeft_65 : decode cX4_mostLeft 65 = .ok (.aload_n 0, 1) := by decide +kernel
theorem dX4_mostLeft_66 : decode cX4_mostLeft 66 = .ok (.getfield 21, 3) := by decide +kernel
theorem dX4_mostLeft_69 : decode cX4_mostLeft 69 = .ok (.if_icmp .ge 38, 3) := by decide +kernel
theorem dX4_mostLeft_72 : decode cX4_mostLeft 72 = .ok (.aload_n 0, 1) := by decide +kernel
theorem dX4_mostLeft_73 : decode cX4_mostLeft 73 = .ok (.aload_n 0, 1) := by decide +kernel
theorem dX4_mostLeft_74 : decode cX4_mostLeft 74 = .ok (.getfield 15, 3) := by decide +kernel
theorem dX4_mostLeft_77 : decode cX4_mostLeft 77 = .ok (.iload_n 3, 1) := by decide +kernel
theorem dX4_mostLeft_78 : decode cX4_mostLeft 78 = .ok (.iaload, 1) := by decide +kernel
theorem dX4_mostLeft_79 : decode cX4_mostLeft 79 = .ok (.iload_n 1, 1) := by decide +kernel
theorem dX4_mostLeft_80 : decode cX4_mostLeft 80 = .ok (.invokevirtual 55, 3) := by decide +kernel
theorem dX4_mostLeft_83 : decode cX4_mostLeft 83 = .ok (.istore 4, 2) := by decide +kernel
theorem dX4_mostLeft_85 : decode cX4_mostLeft 85 = .ok (.iload 4, 2) := by decide +kernel
theorem dX4_mostLeft_87 : decode cX4_mostLeft 87 = .ok (.invokestatic 66, 3) := by decide +kernel
theorem dX4_mostLeft_90 : decode cX4_mostLeft 90 = .ok (.ifCond .eq 11, 3) := by decide +kernel
theorem dX4_mostLeft_93 : decode cX4_mostLeft 93 = .ok (.aload_n 0, 1) := by decide +kernel
theorem dX4_mostLeft_94 : decode cX4_mostLeft 94 = .ok (.getfield 18, 3) := by decide +kernel
theorem dX4_mostLeft_97 : decode cX4_mostLeft 97 = .ok (.iload 4, 2) := by decide +kernel
theorem dX4_mostLeft_99 : decode cX4_mostLeft 99 = .ok (.iconst 0, 1) := by decide +kernel
theorem dX4_mostLeft_100 : decode cX4_mostLeft 100 = .ok (.iastore, 1) := by decide +kernel
theorem dX4_mostLeft_101 : decode cX4_mostLeft 101 = .ok (.iinc 3 1, 3) := by decide +kernel
theorem dX4_mostLeft_104 : decode cX4_mostLeft 104 = .ok (.goto (-40), 3) := by decide +kernel
theorem dX4_mostLeft_107 : decode cX4_mostLeft 107 = .ok (.iload_n 2, 1) := by decide +kernel
theorem dX4_mostLeft_108 : decode cX4_mostLeft 108 = .ok (.ireturn, 1) := by decide +kernel
theorem dX5_init_0 : decode cX5_init 0 = .ok (.aload_n 0, 1) := by decide +kernel
theorem dX5_init_1 : decode cX5_init 1 = .ok (.invokespecial 3, 3) := by decide +kernel
theorem dX5_init_4 : decode cX5_init 4 = .ok (.aload_n 0, 1) := by decide +kernel
theorem dX5_init_5 : decode cX5_init 5 = .ok (.bipush 60, 2) := by decide +kernel
theorem dX5_init_7 : decode cX5_init 7 = .ok (.newarray .int, 2) := by decide +kernel
theorem dX5_init_9 : decode cX5_init 9 = .ok (.putfield 9, 3) := by decide +kernel
theorem dX5_init_12 : decode cX5_init 12 = .ok (.aload_n 0, 1) := by decide +kernel
theorem dX5_init_13 : decode cX5_init 13 = .ok (.iconst 0, 1) := by decide +kernel
theorem dX5_init_14 : decode cX5_init 14 = .ok (.putfield 15, 3) := by decide +kernel
theorem dX5_init_17 : decode cX5_init 17 = .ok (.return_, 1) := by decide +kernel
theorem dX5_colourOf_0 : decode cX5_colourOf 0 = .ok (.iload_n 0, 1) := by decide +kernel
theorem dX5_colourOf_1 : decode cX5_colourOf 1 = .ok (.lookupswitch 41 #[(98, 39), (114, 35), (121, 37)], 35) := by decide +kernel
theorem dX5_colourOf_36 : decode cX5_colourOf 36 = .ok (.iconst 0, 1) := by decide +kernel
theorem dX5_colourOf_37 : decode cX5_colourOf 37 = .ok (.ireturn, 1) := by decide +kernel
theorem dX5_colourOf_38 : decode cX5_colourOf 38 = .ok (.iconst 1, 1) := by decide +kernel
theorem dX5_colourOf_39 : decode cX5_colourOf 39 = .ok (.ireturn, 1) := by decide +kernel
theorem dX5_colourOf_40 : decode cX5_colourOf 40 = .ok (.iconst 2, 1) := by decide +kernel
theorem dX5_colourOf_41 : decode cX5_colourOf 41 = .ok (.ireturn, 1) := by decide +kernel
theorem dX5_colourOf_42 : decode cX5_colourOf 42 = .ok (.bipush (-6), 2) := by decide +kernel
theorem dX5_colourOf_44 : decode cX5_colourOf 44 = .ok (.ireturn, 1) := by decide +kernel
theorem dX5_dressOf_0 : decode cX5_dressOf 0 = .ok (.iload_n 0, 1) := by decide +kernel
theorem dX5_dressOf_1 : decode cX5_dressOf 1 = .ok (.bipush 65, 2) := by decide +kernel
theorem dX5_dressOf_3 : decode cX5_dressOf 3 = .ok (.if_icmp .lt 16, 3) := by decide +kernel
theorem dX5_dressOf_6 : decode cX5_dressOf 6 = .ok (.iload_n 0, 1) := by decide +kernel
theorem dX5_dressOf_7 : decode cX5_dressOf 7 = .ok (.bipush 71, 2) := by decide +kernel
theorem dX5_dressOf_9 : decode cX5_dressOf 9 = .ok (.if_icmp .ge 10, 3) := by decide +kernel
theorem dX5_dressOf_12 : decode cX5_dressOf 12 = .ok (.iload_n 0, 1) := by decide +kernel
theorem dX5_dressOf_13 : decode cX5_dressOf 13 = .ok (.bipush 65, 2) := by decide +kernel
theorem dX5_dressOf_15 : decode cX5_dressOf 15 = .ok (.isub, 1) := by decide +kernel
theorem dX5_dressOf_16 : decode cX5_dressOf 16 = .ok (.goto 5, 3) := by decide +kernel
theorem dX5_dressOf_19 : decode cX5_dressOf 19 = .ok (.bipush (-6), 2) := by decide +kernel
theorem dX5_dressOf_21 : decode cX5_dressOf 21 = .ok (.ireturn, 1) := by decide +kernel
set_option maxRecDepth 20000 in
theorem ggX5_takesDigit_X5_colourOf : GoodIn wsX5_takesDigit wsX5_colourOf := goodIn_r _ [4] (by decide +kernel) (by decide +kernel)
set_option maxRecDepth 20000 in
theorem gX5_takesDigit_X5_colourOf : GoodIn wsX5_takesDigit (va_wsS RX5 19 yX5_colourOf wsX5_colourOf) := goodIn_app (goodIn_of _ (by decide +kernel)) ggX5_takesDigit_X5_colourOf
theorem dX5_takesDigit_0 : decode cX5_takesDigit 0 = .ok (.iload_n 0, 1) := by decide +kernel
theorem dX5_takesDigit_1 : decode cX5_takesDigit 1 = .ok (.invokestatic 19, 3) := by decide +kernel
theorem dX5_takesDigit_4 : decode cX5_takesDigit 4 = .ok (.bipush (-6), 2) := by decide +kernel
theorem dX5_takesDigit_6 : decode cX5_takesDigit 6 = .ok (.if_icmp .ne 9, 3) := by decide +kernel
theorem dX5_takesDigit_9 : decode cX5_takesDigit 9 = .ok (.iload_n 0, 1) := by decide +kernel
theorem dX5_takesDigit_10 : decode cX5_takesDigit 10 = .ok (.bipush 119, 2) := by decide +kernel
theorem dX5_takesDigit_12 : decode cX5_takesDigit 12 = .ok (.if_icmp .ne 7, 3) := by decide +kernel
theorem dX5_takesDigit_15 : decode cX5_takesDigit 15 = .ok (.iconst 1, 1) := by decide +kernel
theorem dX5_takesDigit_16 : decode cX5_takesDigit 16 = .ok (.goto 4, 3) := by decide +kernel
theorem dX5_takesDigit_19 : decode cX5_takesDigit 19 = .ok (.iconst 0, 1) := by decide +kernel
theorem dX5_takesDigit_20 : decode cX5_takesDigit 20 = .ok (.ireturn, 1) := by decide +kernel
set_option maxRecDepth 20000 in
theorem ggX5_standsAlone_X5_dressOf : GoodIn wsX5_standsAlone wsX5_dressOf := goodIn_r _ [4] (by decide +kernel) (by decide +kernel)
set_option maxRecDepth 20000 in
theorem gX5_standsAlone_X5_dressOf : GoodIn wsX5_standsAlone (va_wsS RX5 23 yX5_dressOf wsX5_dressOf) := goodIn_app (goodIn_of _ (by decide +kernel)) ggX5_standsAlone_X5_dressOf
theorem dX5_standsAlone_0 : decode cX5_standsAlone 0 = .ok (.iload_n 0, 1) := by decide +kernel
theorem dX5_standsAlone_1 : decode cX5_standsAlone 1 = .ok (.invokestatic 23, 3) := by decide +kernel
theorem dX5_standsAlone_4 : decode cX5_standsAlone 4 = .ok (.bipush (-6), 2) := by decide +kernel
theorem dX5_standsAlone_6 : decode cX5_standsAlone 6 = .ok (.if_icmp .ne 21, 3) := by decide +kernel
theorem dX5_standsAlone_9 : decode cX5_standsAlone 9 = .ok (.iload_n 0, 1) := by decide +kernel
theorem dX5_standsAlone_10 : decode cX5_standsAlone 10 = .ok (.bipush 102, 2) := by decide +kernel
theorem dX5_standsAlone_12 : decode cX5_standsAlone 12 = .ok (.if_icmp .eq 15, 3) := by decide +kernel
theorem dX5_standsAlone_15 : decode cX5_standsAlone 15 = .ok (.iload_n 0, 1) := by decide +kernel
theorem dX5_standsAlone_16 : decode cX5_standsAlone 16 = .ok (.bipush 115, 2) := by decide +kernel
theorem dX5_standsAlone_18 : decode cX5_standsAlone 18 = .ok (.if_icmp .eq 9, 3) := by decide +kernel
theorem dX5_standsAlone_21 : decode cX5_standsAlone 21 = .ok (.iload_n 0, 1) := by decide +kernel
theorem dX5_standsAlone_22 : decode cX5_standsAlone 22 = .ok (.bipush 46, 2) := by decide +kernel
theorem dX5_standsAlone_24 : decode cX5_standsAlone 24 = .ok (.if_icmp .ne 7, 3) := by decide +kernel
theorem dX5_standsAlone_27 : decode cX5_standsAlone 27 = .ok (.iconst 1, 1) := by decide +kernel
theorem dX5_standsAlone_28 : decode cX5_standsAlone 28 = .ok (.goto 4, 3) := by decide +kernel
theorem dX5_standsAlone_31 : decode cX5_standsAlone 31 = .ok (.iconst 0, 1) := by decide +kernel
theorem dX5_standsAlone_32 : decode cX5_standsAlone 32 = .ok (.ireturn, 1) := by decide +kernel
set_option maxRecDepth 20000 in
theorem ggX5_isDigitOf_X6_isWithin : GoodIn wsX5_isDigitOf wsX6_isWithin := goodIn_r _ [3] (by decide +kernel) (by decide +kernel)
set_option maxRecDepth 20000 in
theorem gX5_isDigitOf_X6_isWithin_n26 : GoodIn wsX5_isDigitOf (wsX6_isWithin) := ggX5_isDigitOf_X6_isWithin
theorem dX5_isDigitOf_0 : decode cX5_isDigitOf 0 = .ok (.iload_n 0, 1) := by decide +kernel
theorem dX5_isDigitOf_1 : decode cX5_isDigitOf 1 = .ok (.bipush 119, 2) := by decide +kernel
theorem dX5_isDigitOf_3 : decode cX5_isDigitOf 3 = .ok (.if_icmp .ne 14, 3) := by decide +kernel
theorem dX5_isDigitOf_6 : decode cX5_isDigitOf 6 = .ok (.iload_n 1, 1) := by decide +kernel
theorem dX5_isDigitOf_7 : decode cX5_isDigitOf 7 = .ok (.bipush 48, 2) := by decide +kernel
theorem dX5_isDigitOf_9 : decode cX5_isDigitOf 9 = .ok (.bipush 51, 2) := by decide +kernel
theorem dX5_isDigitOf_11 : decode cX5_isDigitOf 11 = .ok (.invokestatic 26, 3) := by decide +kernel
theorem dX5_isDigitOf_14 : decode cX5_isDigitOf 14 = .ok (.goto 11, 3) := by decide +kernel
theorem dX5_isDigitOf_17 : decode cX5_isDigitOf 17 = .ok (.iload_n 1, 1) := by decide +kernel
theorem dX5_isDigitOf_18 : decode cX5_isDigitOf 18 = .ok (.bipush 49, 2) := by decide +kernel
theorem dX5_isDigitOf_20 : decode cX5_isDigitOf 20 = .ok (.bipush 57, 2) := by decide +kernel
theorem dX5_isDigitOf_22 : decode cX5_isDigitOf 22 = .ok (.invokestatic 26, 3) := by decide +kernel
theorem dX5_isDigitOf_25 : decode cX5_isDigitOf 25 = .ok (.ireturn, 1) := by decide +kernel
set_option maxRecDepth 20000 in
theorem ggX5_digitAt_X5_takesDigit : GoodIn wsX5_digitAt wsX5_takesDigit := goodIn_r _ [6, 7, 8, 5, 9] (by decide +kernel) (by decide +kernel)
set_option maxRecDepth 20000 in
theorem gX5_digitAt_X5_takesDigit : GoodIn wsX5_digitAt (va_wsS RX5 30 yX5_takesDigit wsX5_takesDigit) := goodIn_app (goodIn_of _ (by decide +kernel)) ggX5_digitAt_X5_takesDigit
theorem dX5_digitAt_0 : decode cX5_digitAt 0 = .ok (.aload_n 0, 1) := by decide +kernel
theorem dX5_digitAt_1 : decode cX5_digitAt 1 = .ok (.getfield 9, 3) := by decide +kernel
theorem dX5_digitAt_4 : decode cX5_digitAt 4 = .ok (.iload_n 1, 1) := by decide +kernel
theorem dX5_digitAt_5 : decode cX5_digitAt 5 = .ok (.iaload, 1) := by decide +kernel
theorem dX5_digitAt_6 : decode cX5_digitAt 6 = .ok (.invokestatic 30, 3) := by decide +kernel
theorem dX5_digitAt_9 : decode cX5_digitAt 9 = .ok (.ifCond .eq 27, 3) := by decide +kernel
theorem dX5_digitAt_12 : decode cX5_digitAt 12 = .ok (.iload_n 1, 1) := by decide +kernel
theorem dX5_digitAt_13 : decode cX5_digitAt 13 = .ok (.iconst 1, 1) := by decide +kernel
theorem dX5_digitAt_14 : decode cX5_digitAt 14 = .ok (.iadd, 1) := by decide +kernel
theorem dX5_digitAt_15 : decode cX5_digitAt 15 = .ok (.aload_n 0, 1) := by decide +kernel
theorem dX5_digitAt_16 : decode cX5_digitAt 16 = .ok (.getfield 15, 3) := by decide +kernel
theorem dX5_digitAt_19 : decode cX5_digitAt 19 = .ok (.if_icmp .ge 17, 3) := by decide +kernel
theorem dX5_digitAt_22 : decode cX5_digitAt 22 = .ok (.aload_n 0, 1) := by decide +kernel
theorem dX5_digitAt_23 : decode cX5_digitAt 23 = .ok (.getfield 9, 3) := by decide +kernel
theorem dX5_digitAt_26 : decode cX5_digitAt 26 = .ok (.iload_n 1, 1) := by decide +kernel
theorem dX5_digitAt_27 : decode cX5_digitAt 27 = .ok (.iconst 1, 1) := by decide +kernel
theorem dX5_digitAt_28 : decode cX5_digitAt 28 = .ok (.iadd, 1) := by decide +kernel
theorem dX5_digitAt_29 : decode cX5_digitAt 29 = .ok (.iaload, 1) := by decide +kernel
theorem dX5_digitAt_30 : decode cX5_digitAt 30 = .ok (.bipush 48, 2) := by decide +kernel
theorem dX5_digitAt_32 : decode cX5_digitAt 32 = .ok (.isub, 1) := by decide +kernel
theorem dX5_digitAt_33 : decode cX5_digitAt 33 = .ok (.goto 4, 3) := by decide +kernel
theorem dX5_digitAt_36 : decode cX5_digitAt 36 = .ok (.iconst 0, 1) := by decide +kernel
theorem dX5_digitAt_37 : decode cX5_digitAt 37 = .ok (.ireturn, 1) := by decide +kernel
set_option maxRecDepth 20000 in
theorem ggX5_faultPlace_X5_takesDigit : GoodIn wsX5_faultPlace wsX5_takesDigit := goodIn_r _ [6, 7, 8, 5, 9] (by decide +kernel) (by decide +kernel)
set_option maxRecDepth 20000 in
theorem gX5_faultPlace_X5_takesDigit : GoodIn wsX5_faultPlace (va_wsS RX5 30 yX5_takesDigit wsX5_takesDigit) := goodIn_app (goodIn_of _ (by decide +kernel)) ggX5_faultPlace_X5_takesDigit
set_option maxRecDepth 20000 in
theorem ggX5_faultPlace_X5_isDigitOf : GoodIn wsX5_faultPlace wsX5_isDigitOf := goodIn_r _ [12, 13, 14, 15] (by decide +kernel) (by decide +kernel)
set_option maxRecDepth 20000 in
theorem gX5_faultPlace_X5_isDigitOf : GoodIn wsX5_faultPlace (va_wsS RX5 34 yX5_isDigitOf wsX5_isDigitOf) := goodIn_app (goodIn_of _ (by decide +kernel)) ggX5_faultPlace_X5_isDigitOf
set_option maxRecDepth 20000 in
theorem ggX5_faultPlace_X5_standsAlone : GoodIn wsX5_faultPlace wsX5_standsAlone := goodIn_r _ [18, 19, 20, 5, 21] (by decide +kernel) (by decide +kernel)
set_option maxRecDepth 20000 in
theorem gX5_faultPlace_X5_standsAlone : GoodIn wsX5_faultPlace (va_wsS RX5 38 yX5_standsAlone wsX5_standsAlone) := goodIn_app (goodIn_of _ (by decide +kernel)) ggX5_faultPlace_X5_standsAlone
theorem dX5_faultPlace_0 : decode cX5_faultPlace 0 = .ok (.iconst 0, 1) := by decide +kernel
theorem dX5_faultPlace_1 : decode cX5_faultPlace 1 = .ok (.istore_n 1, 1) := by decide +kernel
theorem dX5_faultPlace_2 : decode cX5_faultPlace 2 = .ok (.iload_n 1, 1) := by decide +kernel
theorem dX5_faultPlace_3 : decode cX5_faultPlace 3 = .ok (.aload_n 0, 1) := by decide +kernel
theorem dX5_faultPlace_4 : decode cX5_faultPlace 4 = .ok (.getfield 15, 3) := by decide +kernel
theorem dX5_faultPlace_7 : decode cX5_faultPlace 7 = .ok (.if_icmp .ge 63, 3) := by decide +kernel
theorem dX5_faultPlace_10 : decode cX5_faultPlace 10 = .ok (.aload_n 0, 1) := by decide +kernel
theorem dX5_faultPlace_11 : decode cX5_faultPlace 11 = .ok (.getfield 9, 3) := by decide +kernel
theorem dX5_faultPlace_14 : decode cX5_faultPlace 14 = .ok (.iload_n 1, 1) := by decide +kernel
theorem dX5_faultPlace_15 : decode cX5_faultPlace 15 = .ok (.iaload, 1) := by decide +kernel
theorem dX5_faultPlace_16 : decode cX5_faultPlace 16 = .ok (.istore_n 2, 1) := by decide +kernel
theorem dX5_faultPlace_17 : decode cX5_faultPlace 17 = .ok (.iload_n 2, 1) := by decide +kernel
theorem dX5_faultPlace_18 : decode cX5_faultPlace 18 = .ok (.invokestatic 30, 3) := by decide +kernel
theorem dX5_faultPlace_21 : decode cX5_faultPlace 21 = .ok (.ifCond .eq 34, 3) := by decide +kernel
theorem dX5_faultPlace_24 : decode cX5_faultPlace 24 = .ok (.iinc 1 1, 3) := by decide +kernel
theorem dX5_faultPlace_27 : decode cX5_faultPlace 27 = .ok (.iload_n 1, 1) := by decide +kernel
theorem dX5_faultPlace_28 : decode cX5_faultPlace 28 = .ok (.aload_n 0, 1) := by decide +kernel
theorem dX5_faultPlace_29 : decode cX5_faultPlace 29 = .ok (.getfield 15, 3) := by decide +kernel
theorem dX5_faultPlace_32 : decode cX5_faultPlace 32 = .ok (.if_icmp .lt 8, 3) := by decide +kernel
theorem dX5_faultPlace_35 : decode cX5_faultPlace 35 = .ok (.aload_n 0, 1) := by decide +kernel
theorem dX5_faultPlace_36 : decode cX5_faultPlace 36 = .ok (.getfield 15, 3) := by decide +kernel
theorem dX5_faultPlace_39 : decode cX5_faultPlace 39 = .ok (.ireturn, 1) := by decide +kernel
theorem dX5_faultPlace_40 : decode cX5_faultPlace 40 = .ok (.iload_n 2, 1) := by decide +kernel
theorem dX5_faultPlace_41 : decode cX5_faultPlace 41 = .ok (.aload_n 0, 1) := by decide +kernel
theorem dX5_faultPlace_42 : decode cX5_faultPlace 42 = .ok (.getfield 9, 3) := by decide +kernel
theorem dX5_faultPlace_45 : decode cX5_faultPlace 45 = .ok (.iload_n 1, 1) := by decide +kernel
theorem dX5_faultPlace_46 : decode cX5_faultPlace 46 = .ok (.iaload, 1) := by decide +kernel
theorem dX5_faultPlace_47 : decode cX5_faultPlace 47 = .ok (.invokestatic 34, 3) := by decide +kernel
theorem dX5_faultPlace_50 : decode cX5_faultPlace 50 = .ok (.ifCond .ne 14, 3) := by decide +kernel
theorem dX5_faultPlace_53 : decode cX5_faultPlace 53 = .ok (.iload_n 1, 1) := by decide +kernel
theorem dX5_faultPlace_54 : decode cX5_faultPlace 54 = .ok (.ireturn, 1) := by decide +kernel
theorem dX5_faultPlace_55 : decode cX5_faultPlace 55 = .ok (.iload_n 2, 1) := by decide +kernel
theorem dX5_faultPlace_56 : decode cX5_faultPlace 56 = .ok (.invokestatic 38, 3) := by decide +kernel
theorem dX5_faultPlace_59 : decode cX5_faultPlace 59 = .ok (.ifCond .ne 5, 3) := by decide +kernel
theorem dX5_faultPlace_62 : decode cX5_faultPlace 62 = .ok (.iload_n 1, 1) := by decide +kernel
theorem dX5_faultPlace_63 : decode cX5_faultPlace 63 = .ok (.ireturn, 1) := by decide +kernel
theorem dX5_faultPlace_64 : decode cX5_faultPlace 64 = .ok (.iinc 1 1, 3) := by decide +kernel
theorem dX5_faultPlace_67 : decode cX5_faultPlace 67 = .ok (.goto (-65), 3) := by decide +kernel
theorem dX5_faultPlace_70 : decode cX5_faultPlace 70 = .ok (.bipush (-6), 2) := by decide +kernel
theorem dX5_faultPlace_72 : decode cX5_faultPlace 72 = .ok (.ireturn, 1) := by decide +kernel
