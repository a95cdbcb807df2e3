theorem dX0_init_0 : decode cX0_init 0 = .ok (.aload_n 0, 1) := by decide +kernel
theorem dX0_init_1 : decode cX0_init 1 = .ok (.invokespecial 3, 3) := by decide +kernel
theorem dX0_init_4 : decode cX0_init 4 = .ok (.aload_n 0, 1) := by decide +kernel
theorem dX0_init_5 : decode cX0_init 5 = .ok (.bipush 70, 2) := by decide +kernel
theorem dX0_init_7 : decode cX0_init 7 = .ok (.newarray .int, 2) := by decide +kernel
theorem dX0_init_9 : decode cX0_init 9 = .ok (.putfield 11, 3) := by decide +kernel
theorem dX0_init_12 : decode cX0_init 12 = .ok (.return_, 1) := by decide +kernel
set_option maxRecDepth 20000 in
theorem ggX0_fromNow_X3_seenAgo : GoodIn wsX0_fromNow wsX3_seenAgo := goodIn_r _ [7, 8, 23, 24, 25, 26, 27, 28, 29, 30, 31, 32, 33, 34, 35] (by decide +kernel) (by decide +kernel)
set_option maxRecDepth 20000 in
theorem gX0_fromNow_X3_seenAgo : GoodIn wsX0_fromNow (wsV RX0 21 RX3 yX3_seenAgo wsX3_seenAgo) := goodIn_app (goodIn_of _ (by decide +kernel)) ggX0_fromNow_X3_seenAgo
set_option maxRecDepth 20000 in
theorem ggX0_fromNow_X3_seenToday : GoodIn wsX0_fromNow wsX3_seenToday := goodIn_r _ [12, 13, 14, 15, 16, 17, 18, 4, 5, 6, 7, 8, 19, 20, 21, 23, 24, 25, 26, 27, 28, 29, 30, 31, 32, 33, 34, 35] (by decide +kernel) (by decide +kernel)
set_option maxRecDepth 20000 in
theorem gX0_fromNow_X3_seenToday : GoodIn wsX0_fromNow (wsV RX0 25 RX3 yX3_seenToday wsX3_seenToday) := goodIn_app (goodIn_of _ (by decide +kernel)) ggX0_fromNow_X3_seenToday
theorem dX0_fromNow_0 : decode cX0_fromNow 0 = .ok (.iconst 1, 1) := by decide +kernel
theorem dX0_fromNow_1 : decode cX0_fromNow 1 = .ok (.istore 4, 2) := by decide +kernel
theorem dX0_fromNow_3 : decode cX0_fromNow 3 = .ok (.iload 4, 2) := by decide +kernel
theorem dX0_fromNow_5 : decode cX0_fromNow 5 = .ok (.bipush 9, 2) := by decide +kernel
theorem dX0_fromNow_7 : decode cX0_fromNow 7 = .ok (.if_icmp .gt 37, 3) := by decide +kernel
theorem dX0_fromNow_10 : decode cX0_fromNow 10 = .ok (.aload_n 0, 1) := by decide +kernel
theorem dX0_fromNow_11 : decode cX0_fromNow 11 = .ok (.getfield 11, 3) := by decide +kernel
theorem dX0_fromNow_14 : decode cX0_fromNow 14 = .ok (.bipush 9, 2) := by decide +kernel
theorem dX0_fromNow_16 : decode cX0_fromNow 16 = .ok (.iload 4, 2) := by decide +kernel
theorem dX0_fromNow_18 : decode cX0_fromNow 18 = .ok (.isub, 1) := by decide +kernel
theorem dX0_fromNow_19 : decode cX0_fromNow 19 = .ok (.aload_n 1, 1) := by decide +kernel
theorem dX0_fromNow_20 : decode cX0_fromNow 20 = .ok (.getfield 15, 3) := by decide +kernel
theorem dX0_fromNow_23 : decode cX0_fromNow 23 = .ok (.ifCond .eq 7, 3) := by decide +kernel
theorem dX0_fromNow_26 : decode cX0_fromNow 26 = .ok (.iconst 0, 1) := by decide +kernel
theorem dX0_fromNow_27 : decode cX0_fromNow 27 = .ok (.goto 10, 3) := by decide +kernel
theorem dX0_fromNow_30 : decode cX0_fromNow 30 = .ok (.aload_n 1, 1) := by decide +kernel
theorem dX0_fromNow_31 : decode cX0_fromNow 31 = .ok (.iload_n 2, 1) := by decide +kernel
theorem dX0_fromNow_32 : decode cX0_fromNow 32 = .ok (.iload 4, 2) := by decide +kernel
theorem dX0_fromNow_34 : decode cX0_fromNow 34 = .ok (.invokevirtual 21, 3) := by decide +kernel
theorem dX0_fromNow_37 : decode cX0_fromNow 37 = .ok (.iastore, 1) := by decide +kernel
theorem dX0_fromNow_38 : decode cX0_fromNow 38 = .ok (.iinc 4 1, 3) := by decide +kernel
theorem dX0_fromNow_41 : decode cX0_fromNow 41 = .ok (.goto (-38), 3) := by decide +kernel
theorem dX0_fromNow_44 : decode cX0_fromNow 44 = .ok (.aload_n 0, 1) := by decide +kernel
theorem dX0_fromNow_45 : decode cX0_fromNow 45 = .ok (.getfield 11, 3) := by decide +kernel
theorem dX0_fromNow_48 : decode cX0_fromNow 48 = .ok (.bipush 9, 2) := by decide +kernel
theorem dX0_fromNow_50 : decode cX0_fromNow 50 = .ok (.aload_n 1, 1) := by decide +kernel
theorem dX0_fromNow_51 : decode cX0_fromNow 51 = .ok (.iload_n 2, 1) := by decide +kernel
theorem dX0_fromNow_52 : decode cX0_fromNow 52 = .ok (.iload_n 3, 1) := by decide +kernel
theorem dX0_fromNow_53 : decode cX0_fromNow 53 = .ok (.invokevirtual 25, 3) := by decide +kernel
theorem dX0_fromNow_56 : decode cX0_fromNow 56 = .ok (.iastore, 1) := by decide +kernel
theorem dX0_fromNow_57 : decode cX0_fromNow 57 = .ok (.return_, 1) := by decide +kernel
set_option maxRecDepth 20000 in
theorem ggX0_fromNothing_X6_capped : GoodIn wsX0_fromNothing wsX6_capped := goodIn_r _ [4] (by decide +kernel) (by decide +kernel)
set_option maxRecDepth 20000 in
theorem gX0_fromNothing_X6_capped_n28 : GoodIn wsX0_fromNothing (wsX6_capped) := ggX0_fromNothing_X6_capped
theorem dX0_fromNothing_0 : decode cX0_fromNothing 0 = .ok (.iconst 1, 1) := by decide +kernel
theorem dX0_fromNothing_1 : decode cX0_fromNothing 1 = .ok (.istore_n 2, 1) := by decide +kernel
theorem dX0_fromNothing_2 : decode cX0_fromNothing 2 = .ok (.iload_n 2, 1) := by decide +kernel
theorem dX0_fromNothing_3 : decode cX0_fromNothing 3 = .ok (.bipush 9, 2) := by decide +kernel
theorem dX0_fromNothing_5 : decode cX0_fromNothing 5 = .ok (.if_icmp .gt 19, 3) := by decide +kernel
theorem dX0_fromNothing_8 : decode cX0_fromNothing 8 = .ok (.aload_n 0, 1) := by decide +kernel
theorem dX0_fromNothing_9 : decode cX0_fromNothing 9 = .ok (.getfield 11, 3) := by decide +kernel
theorem dX0_fromNothing_12 : decode cX0_fromNothing 12 = .ok (.bipush 9, 2) := by decide +kernel
theorem dX0_fromNothing_14 : decode cX0_fromNothing 14 = .ok (.iload_n 2, 1) := by decide +kernel
theorem dX0_fromNothing_15 : decode cX0_fromNothing 15 = .ok (.isub, 1) := by decide +kernel
theorem dX0_fromNothing_16 : decode cX0_fromNothing 16 = .ok (.iconst 0, 1) := by decide +kernel
theorem dX0_fromNothing_17 : decode cX0_fromNothing 17 = .ok (.iastore, 1) := by decide +kernel
theorem dX0_fromNothing_18 : decode cX0_fromNothing 18 = .ok (.iinc 2 1, 3) := by decide +kernel
theorem dX0_fromNothing_21 : decode cX0_fromNothing 21 = .ok (.goto (-19), 3) := by decide +kernel
theorem dX0_fromNothing_24 : decode cX0_fromNothing 24 = .ok (.aload_n 0, 1) := by decide +kernel
theorem dX0_fromNothing_25 : decode cX0_fromNothing 25 = .ok (.getfield 11, 3) := by decide +kernel
theorem dX0_fromNothing_28 : decode cX0_fromNothing 28 = .ok (.bipush 9, 2) := by decide +kernel
theorem dX0_fromNothing_30 : decode cX0_fromNothing 30 = .ok (.iload_n 1, 1) := by decide +kernel
theorem dX0_fromNothing_31 : decode cX0_fromNothing 31 = .ok (.invokestatic 28, 3) := by decide +kernel
theorem dX0_fromNothing_34 : decode cX0_fromNothing 34 = .ok (.iastore, 1) := by decide +kernel
theorem dX0_fromNothing_35 : decode cX0_fromNothing 35 = .ok (.return_, 1) := by decide +kernel
set_option maxRecDepth 20000 in
theorem ggX0_run_X6_has : GoodIn wsX0_run wsX6_has := goodIn_r _ [4] (by decide +kernel) (by decide +kernel)
set_option maxRecDepth 20000 in
theorem gX0_run_X6_has_n32 : GoodIn wsX0_run (wsX6_has) := ggX0_run_X6_has
set_option maxRecDepth 20000 in
theorem ggX0_run_X0_offWalls : GoodIn wsX0_run wsX0_offWalls := goodIn_r _ [9, 10, 1, 11, 12, 3, 13, 15, 16, 17, 18, 19, 20, 21, 22, 23, 24, 25, 26, 27, 14] (by decide +kernel) (by decide +kernel)
set_option maxRecDepth 20000 in
theorem gX0_run_X0_offWalls : GoodIn wsX0_run (wsV RX0 36 RX0 yX0_offWalls wsX0_offWalls) := goodIn_app (goodIn_of _ (by decide +kernel)) ggX0_run_X0_offWalls
theorem dX0_run_0 : decode cX0_run 0 = .ok (.iconst 1, 1) := by decide +kernel
theorem dX0_run_1 : decode cX0_run 1 = .ok (.istore 4, 2) := by decide +kernel
theorem dX0_run_3 : decode cX0_run 3 = .ok (.iload 4, 2) := by decide +kernel
theorem dX0_run_5 : decode cX0_run 5 = .ok (.iload_n 2, 1) := by decide +kernel
theorem dX0_run_6 : decode cX0_run 6 = .ok (.if_icmp .gt 70, 3) := by decide +kernel
theorem dX0_run_9 : decode cX0_run 9 = .ok (.iload 4, 2) := by decide +kernel
theorem dX0_run_11 : decode cX0_run 11 = .ok (.bipush 60, 2) := by decide +kernel
theorem dX0_run_13 : decode cX0_run 13 = .ok (.if_icmp .gt 63, 3) := by decide +kernel
theorem dX0_run_16 : decode cX0_run 16 = .ok (.iload 4, 2) := by decide +kernel
theorem dX0_run_18 : decode cX0_run 18 = .ok (.bipush 8, 2) := by decide +kernel
theorem dX0_run_20 : decode cX0_run 20 = .ok (.if_icmp .gt 18, 3) := by decide +kernel
theorem dX0_run_23 : decode cX0_run 23 = .ok (.iload_n 3, 1) := by decide +kernel
theorem dX0_run_24 : decode cX0_run 24 = .ok (.iload 4, 2) := by decide +kernel
theorem dX0_run_26 : decode cX0_run 26 = .ok (.iconst 1, 1) := by decide +kernel
theorem dX0_run_27 : decode cX0_run 27 = .ok (.isub, 1) := by decide +kernel
theorem dX0_run_28 : decode cX0_run 28 = .ok (.invokestatic 32, 3) := by decide +kernel
theorem dX0_run_31 : decode cX0_run 31 = .ok (.ifCond .eq 7, 3) := by decide +kernel
theorem dX0_run_34 : decode cX0_run 34 = .ok (.iconst 1, 1) := by decide +kernel
theorem dX0_run_35 : decode cX0_run 35 = .ok (.goto 4, 3) := by decide +kernel
theorem dX0_run_38 : decode cX0_run 38 = .ok (.iconst 0, 1) := by decide +kernel
theorem dX0_run_39 : decode cX0_run 39 = .ok (.istore 5, 2) := by decide +kernel
theorem dX0_run_41 : decode cX0_run 41 = .ok (.aload_n 0, 1) := by decide +kernel
theorem dX0_run_42 : decode cX0_run 42 = .ok (.getfield 11, 3) := by decide +kernel
theorem dX0_run_45 : decode cX0_run 45 = .ok (.bipush 9, 2) := by decide +kernel
theorem dX0_run_47 : decode cX0_run 47 = .ok (.iload 4, 2) := by decide +kernel
theorem dX0_run_49 : decode cX0_run 49 = .ok (.iadd, 1) := by decide +kernel
theorem dX0_run_50 : decode cX0_run 50 = .ok (.iload 5, 2) := by decide +kernel
theorem dX0_run_52 : decode cX0_run 52 = .ok (.ifCond .eq 7, 3) := by decide +kernel
theorem dX0_run_55 : decode cX0_run 55 = .ok (.iconst 0, 1) := by decide +kernel
theorem dX0_run_56 : decode cX0_run 56 = .ok (.goto 13, 3) := by decide +kernel
theorem dX0_run_59 : decode cX0_run 59 = .ok (.aload_n 0, 1) := by decide +kernel
theorem dX0_run_60 : decode cX0_run 60 = .ok (.aload_n 1, 1) := by decide +kernel
theorem dX0_run_61 : decode cX0_run 61 = .ok (.bipush 9, 2) := by decide +kernel
theorem dX0_run_63 : decode cX0_run 63 = .ok (.iload 4, 2) := by decide +kernel
theorem dX0_run_65 : decode cX0_run 65 = .ok (.iadd, 1) := by decide +kernel
theorem dX0_run_66 : decode cX0_run 66 = .ok (.invokevirtual 36, 3) := by decide +kernel
theorem dX0_run_69 : decode cX0_run 69 = .ok (.iastore, 1) := by decide +kernel
theorem dX0_run_70 : decode cX0_run 70 = .ok (.iinc 4 1, 3) := by decide +kernel
theorem dX0_run_73 : decode cX0_run 73 = .ok (.goto (-70), 3) := by decide +kernel
theorem dX0_run_76 : decode cX0_run 76 = .ok (.return_, 1) := by decide +kernel
set_option maxRecDepth 20000 in
theorem ggX0_offWalls_X6_capped : GoodIn wsX0_offWalls wsX6_capped := goodIn_r _ [6] (by decide +kernel) (by decide +kernel)
set_option maxRecDepth 20000 in
theorem gX0_offWalls_X6_capped_n28 : GoodIn wsX0_offWalls (wsX6_capped) := ggX0_offWalls_X6_capped
theorem dX0_offWalls_0 : decode cX0_offWalls 0 = .ok (.iconst 0, 1) := by decide +kernel
theorem dX0_offWalls_1 : decode cX0_offWalls 1 = .ok (.istore_n 3, 1) := by decide +kernel
theorem dX0_offWalls_2 : decode cX0_offWalls 2 = .ok (.iconst 0, 1) := by decide +kernel
theorem dX0_offWalls_3 : decode cX0_offWalls 3 = .ok (.istore 4, 2) := by decide +kernel
theorem dX0_offWalls_5 : decode cX0_offWalls 5 = .ok (.iload 4, 2) := by decide +kernel
theorem dX0_offWalls_7 : decode cX0_offWalls 7 = .ok (.iconst 4, 1) := by decide +kernel
theorem dX0_offWalls_8 : decode cX0_offWalls 8 = .ok (.if_icmp .ge 56, 3) := by decide +kernel
theorem dX0_offWalls_11 : decode cX0_offWalls 11 = .ok (.iload_n 2, 1) := by decide +kernel
theorem dX0_offWalls_12 : decode cX0_offWalls 12 = .ok (.aload_n 1, 1) := by decide +kernel
theorem dX0_offWalls_13 : decode cX0_offWalls 13 = .ok (.getfield 40, 3) := by decide +kernel
theorem dX0_offWalls_16 : decode cX0_offWalls 16 = .ok (.iload 4, 2) := by decide +kernel
theorem dX0_offWalls_18 : decode cX0_offWalls 18 = .ok (.iaload, 1) := by decide +kernel
theorem dX0_offWalls_19 : decode cX0_offWalls 19 = .ok (.isub, 1) := by decide +kernel
theorem dX0_offWalls_20 : decode cX0_offWalls 20 = .ok (.istore 5, 2) := by decide +kernel
theorem dX0_offWalls_22 : decode cX0_offWalls 22 = .ok (.iload_n 3, 1) := by decide +kernel
theorem dX0_offWalls_23 : decode cX0_offWalls 23 = .ok (.iload 5, 2) := by decide +kernel
theorem dX0_offWalls_25 : decode cX0_offWalls 25 = .ok (.ifCond .lt 30, 3) := by decide +kernel
theorem dX0_offWalls_28 : decode cX0_offWalls 28 = .ok (.iload 5, 2) := by decide +kernel
theorem dX0_offWalls_30 : decode cX0_offWalls 30 = .ok (.iload_n 2, 1) := by decide +kernel
theorem dX0_offWalls_31 : decode cX0_offWalls 31 = .ok (.if_icmp .ge 24, 3) := by decide +kernel
theorem dX0_offWalls_34 : decode cX0_offWalls 34 = .ok (.aload_n 0, 1) := by decide +kernel
theorem dX0_offWalls_35 : decode cX0_offWalls 35 = .ok (.getfield 11, 3) := by decide +kernel
theorem dX0_offWalls_38 : decode cX0_offWalls 38 = .ok (.iload 5, 2) := by decide +kernel
theorem dX0_offWalls_40 : decode cX0_offWalls 40 = .ok (.iaload, 1) := by decide +kernel
theorem dX0_offWalls_41 : decode cX0_offWalls 41 = .ok (.aload_n 1, 1) := by decide +kernel
theorem dX0_offWalls_42 : decode cX0_offWalls 42 = .ok (.getfield 43, 3) := by decide +kernel
theorem dX0_offWalls_45 : decode cX0_offWalls 45 = .ok (.iload 4, 2) := by decide +kernel
theorem dX0_offWalls_47 : decode cX0_offWalls 47 = .ok (.iaload, 1) := by decide +kernel
theorem dX0_offWalls_48 : decode cX0_offWalls 48 = .ok (.imul, 1) := by decide +kernel
theorem dX0_offWalls_49 : decode cX0_offWalls 49 = .ok (.bipush 10, 2) := by decide +kernel
theorem dX0_offWalls_51 : decode cX0_offWalls 51 = .ok (.idiv, 1) := by decide +kernel
theorem dX0_offWalls_52 : decode cX0_offWalls 52 = .ok (.goto 4, 3) := by decide +kernel
theorem dX0_offWalls_55 : decode cX0_offWalls 55 = .ok (.iconst 0, 1) := by decide +kernel
theorem dX0_offWalls_56 : decode cX0_offWalls 56 = .ok (.iadd, 1) := by decide +kernel
theorem dX0_offWalls_57 : decode cX0_offWalls 57 = .ok (.istore_n 3, 1) := by decide +kernel
theorem dX0_offWalls_58 : decode cX0_offWalls 58 = .ok (.iinc 4 1, 3) := by decide +kernel
theorem dX0_offWalls_61 : decode cX0_offWalls 61 = .ok (.goto (-56), 3) := by decide +kernel
theorem dX0_offWalls_64 : decode cX0_offWalls 64 = .ok (.iload_n 3, 1) := by decide +kernel
theorem dX0_offWalls_65 : decode cX0_offWalls 65 = .ok (.invokestatic 28, 3) := by decide +kernel
theorem dX0_offWalls_68 : decode cX0_offWalls 68 = .ok (.ireturn, 1) := by decide +kernel
set_option maxRecDepth 20000 in
theorem ggX0_at_X6_isAhead : GoodIn wsX0_at wsX6_isAhead := goodIn_r _ [4, 5, 6, 3, 7] (by decide +kernel) (by decide +kernel)
set_option maxRecDepth 20000 in
theorem gX0_at_X6_isAhead_n46 : GoodIn wsX0_at (wsX6_isAhead) := ggX0_at_X6_isAhead
theorem dX0_at_0 : decode cX0_at 0 = .ok (.iload_n 1, 1) := by decide +kernel
theorem dX0_at_1 : decode cX0_at 1 = .ok (.invokestatic 46, 3) := by decide +kernel
theorem dX0_at_4 : decode cX0_at 4 = .ok (.ifCond .eq 15, 3) := by decide +kernel
theorem dX0_at_7 : decode cX0_at 7 = .ok (.aload_n 0, 1) := by decide +kernel
theorem dX0_at_8 : decode cX0_at 8 = .ok (.getfield 11, 3) := by decide +kernel
theorem dX0_at_11 : decode cX0_at 11 = .ok (.bipush 9, 2) := by decide +kernel
theorem dX0_at_13 : decode cX0_at 13 = .ok (.iload_n 1, 1) := by decide +kernel
theorem dX0_at_14 : decode cX0_at 14 = .ok (.iadd, 1) := by decide +kernel
theorem dX0_at_15 : decode cX0_at 15 = .ok (.iaload, 1) := by decide +kernel
theorem dX0_at_16 : decode cX0_at 16 = .ok (.goto 4, 3) := by decide +kernel
theorem dX0_at_19 : decode cX0_at 19 = .ok (.iconst 0, 1) := by decide +kernel
theorem dX0_at_20 : decode cX0_at 20 = .ok (.ireturn, 1) := by decide +kernel
set_option maxRecDepth 20000 in
theorem ggX0_mostFrom_X0_at : GoodIn wsX0_mostFrom wsX0_at := goodIn_r _ [9, 10, 11, 12, 13, 14, 15, 16, 17] (by decide +kernel) (by decide +kernel)
set_option maxRecDepth 20000 in
theorem gX0_mostFrom_X0_at : GoodIn wsX0_mostFrom (wsV RX0 50 RX0 yX0_at wsX0_at) := goodIn_app (goodIn_of _ (by decide +kernel)) ggX0_mostFrom_X0_at
theorem dX0_mostFrom_0 : decode cX0_mostFrom 0 = .ok (.iconst 0, 1) := by decide +kernel
theorem dX0_mostFrom_1 : decode cX0_mostFrom 1 = .ok (.istore_n 2, 1) := by decide +kernel
theorem dX0_mostFrom_2 : decode cX0_mostFrom 2 = .ok (.iload_n 1, 1) := by decide +kernel
theorem dX0_mostFrom_3 : decode cX0_mostFrom 3 = .ok (.istore_n 3, 1) := by decide +kernel
theorem dX0_mostFrom_4 : decode cX0_mostFrom 4 = .ok (.iload_n 3, 1) := by decide +kernel
theorem dX0_mostFrom_5 : decode cX0_mostFrom 5 = .ok (.bipush 60, 2) := by decide +kernel
theorem dX0_mostFrom_7 : decode cX0_mostFrom 7 = .ok (.if_icmp .gt 19, 3) := by decide +kernel
theorem dX0_mostFrom_10 : decode cX0_mostFrom 10 = .ok (.iload_n 2, 1) := by decide +kernel
theorem dX0_mostFrom_11 : decode cX0_mostFrom 11 = .ok (.aload_n 0, 1) := by decide +kernel
theorem dX0_mostFrom_12 : decode cX0_mostFrom 12 = .ok (.iload_n 3, 1) := by decide +kernel
theorem dX0_mostFrom_13 : decode cX0_mostFrom 13 = .ok (.invokevirtual 50, 3) := by decide +kernel
theorem dX0_mostFrom_16 : decode cX0_mostFrom 16 = .ok (.invokestatic 53, 3) := by decide +kernel
theorem dX0_mostFrom_19 : decode cX0_mostFrom 19 = .ok (.istore_n 2, 1) := by decide +kernel
theorem dX0_mostFrom_20 : decode cX0_mostFrom 20 = .ok (.iinc 3 1, 3) := by decide +kernel
theorem dX0_mostFrom_23 : decode cX0_mostFrom 23 = .ok (.goto (-19), 3) := by decide +kernel
theorem dX0_mostFrom_26 : decode cX0_mostFrom 26 = .ok (.iload_n 2, 1) := by decide +kernel
theorem dX0_mostFrom_27 : decode cX0_mostFrom 27 = .ok (.ireturn, 1) := by decide +kernel
set_option maxRecDepth 20000 in
theorem ggX0_lastSeen_X0_at : GoodIn wsX0_lastSeen wsX0_at := goodIn_r _ [5, 6, 7, 8, 9, 10, 11, 12, 13] (by decide +kernel) (by decide +kernel)
set_option maxRecDepth 20000 in
theorem gX0_lastSeen_X0_at : GoodIn wsX0_lastSeen (wsV RX0 50 RX0 yX0_at wsX0_at) := goodIn_app (goodIn_of _ (by decide +kernel)) ggX0_lastSeen_X0_at
theorem dX0_lastSeen_0 : decode cX0_lastSeen 0 = .ok (.bipush 60, 2) := by decide +kernel
theorem dX0_lastSeen_2 : decode cX0_lastSeen 2 = .ok (.istore_n 1, 1) := by decide +kernel
theorem dX0_lastSeen_3 : decode cX0_lastSeen 3 = .ok (.iload_n 1, 1) := by decide +kernel
theorem dX0_lastSeen_4 : decode cX0_lastSeen 4 = .ok (.ifCond .lt 19, 3) := by decide +kernel
theorem dX0_lastSeen_7 : decode cX0_lastSeen 7 = .ok (.aload_n 0, 1) := by decide +kernel
theorem dX0_lastSeen_8 : decode cX0_lastSeen 8 = .ok (.iload_n 1, 1) := by decide +kernel
theorem dX0_lastSeen_9 : decode cX0_lastSeen 9 = .ok (.invokevirtual 50, 3) := by decide +kernel
theorem dX0_lastSeen_12 : decode cX0_lastSeen 12 = .ok (.ifCond .le 5, 3) := by decide +kernel
theorem dX0_lastSeen_15 : decode cX0_lastSeen 15 = .ok (.iload_n 1, 1) := by decide +kernel
theorem dX0_lastSeen_16 : decode cX0_lastSeen 16 = .ok (.ireturn, 1) := by decide +kernel
theorem dX0_lastSeen_17 : decode cX0_lastSeen 17 = .ok (.iinc 1 (-1), 3) := by decide +kernel
theorem dX0_lastSeen_20 : decode cX0_lastSeen 20 = .ok (.goto (-17), 3) := by decide +kernel
theorem dX0_lastSeen_23 : decode cX0_lastSeen 23 = .ok (.iconst (-1), 1) := by decide +kernel
theorem dX0_lastSeen_24 : decode cX0_lastSeen 24 = .ok (.ireturn, 1) := by decide +kernel
set_option maxRecDepth 20000 in
theorem ggX1_init_X3_init : GoodIn wsX1_init wsX3_init := goodIn_r _ [12, 13, 2, 3, 14, 15, 16, 17, 18, 19, 20, 21, 22, 23, 24, 25, 26, 27, 28, 29, 30, 31, 32, 33, 34, 35, 36, 37, 38, 39, 40] (by decide +kernel) (by decide +kernel)
set_option maxRecDepth 20000 in
theorem gX1_init_X3_init_n11 : GoodIn wsX1_init (wsX3_init) := ggX1_init_X3_init
theorem dX1_init_0 : decode cX1_init 0 = .ok (.aload_n 0, 1) := by decide +kernel
theorem dX1_init_1 : decode cX1_init 1 = .ok (.invokespecial 3, 3) := by decide +kernel
theorem dX1_init_4 : decode cX1_init 4 = .ok (.aload_n 0, 1) := by decide +kernel
theorem dX1_init_5 : decode cX1_init 5 = .ok (.new 9, 3) := by decide +kernel
theorem dX1_init_8 : decode cX1_init 8 = .ok (.dup, 1) := by decide +kernel
theorem dX1_init_9 : decode cX1_init 9 = .ok (.invokespecial 11, 3) := by decide +kernel
theorem dX1_init_12 : decode cX1_init 12 = .ok (.putfield 12, 3) := by decide +kernel
theorem dX1_init_15 : decode cX1_init 15 = .ok (.aload_n 0, 1) := by decide +kernel
theorem dX1_init_16 : decode cX1_init 16 = .ok (.iconst 0, 1) := by decide +kernel
theorem dX1_init_17 : decode cX1_init 17 = .ok (.putfield 18, 3) := by decide +kernel
theorem dX1_init_20 : decode cX1_init 20 = .ok (.aload_n 0, 1) := by decide +kernel
theorem dX1_init_21 : decode cX1_init 21 = .ok (.iconst 0, 1) := by decide +kernel
theorem dX1_init_22 : decode cX1_init 22 = .ok (.putfield 22, 3) := by decide +kernel
theorem dX1_init_25 : decode cX1_init 25 = .ok (.aload_n 0, 1) := by decide +kernel
theorem dX1_init_26 : decode cX1_init 26 = .ok (.bipush (-6), 2) := by decide +kernel
theorem dX1_init_28 : decode cX1_init 28 = .ok (.putfield 25, 3) := by decide +kernel
theorem dX1_init_31 : decode cX1_init 31 = .ok (.return_, 1) := by decide +kernel
set_option maxRecDepth 20000 in
theorem ggX1_play_X3_become : GoodIn wsX1_play wsX3_become := goodIn_r _ [12, 13, 14, 15, 16, 17, 18, 19, 20, 21, 22, 23, 24, 25, 26, 27, 28, 29, 105, 106, 107, 108, 109, 110, 111, 112, 113, 114, 115, 116, 117] (by decide +kernel) (by decide +kernel)
set_option maxRecDepth 20000 in
theorem gX1_play_X3_become : GoodIn wsX1_play (wsV RX1 28 RX3 yX3_become wsX3_become) := goodIn_app (goodIn_of _ (by decide +kernel)) ggX1_play_X3_become
set_option maxRecDepth 20000 in
theorem ggX1_play_X5_digitAt : GoodIn wsX1_play wsX5_digitAt := goodIn_r _ [34, 35, 36, 37, 38, 33, 39, 40, 41, 42, 103, 104] (by decide +kernel) (by decide +kernel)
set_option maxRecDepth 20000 in
theorem gX1_play_X5_digitAt : GoodIn wsX1_play (wsV RX1 41 RX5 yX5_digitAt wsX5_digitAt) := goodIn_app (goodIn_of _ (by decide +kernel)) ggX1_play_X5_digitAt
set_option maxRecDepth 20000 in
theorem ggX1_play_X5_takesDigit : GoodIn wsX1_play wsX5_takesDigit := goodIn_r _ [39, 40, 41, 33, 42] (by decide +kernel) (by decide +kernel)
set_option maxRecDepth 20000 in
theorem gX1_play_X5_takesDigit : GoodIn wsX1_play (va_wsS RX1 45 yX5_takesDigit wsX5_takesDigit) := goodIn_app (goodIn_of _ (by decide +kernel)) ggX1_play_X5_takesDigit
set_option maxRecDepth 20000 in
theorem ggX1_play_X3_hindrance : GoodIn wsX1_play wsX3_hindrance := goodIn_r _ [47, 21, 18, 26, 48, 41, 33, 42, 49, 50, 51, 52, 53, 54, 11, 55, 27, 56, 57, 58, 59, 19, 60, 61, 62, 63, 64, 65, 66, 67, 105, 106, 107, 108, 109, 110, 111, 112, 113, 114, 115, 116, 117] (by decide +kernel) (by decide +kernel)
set_option maxRecDepth 20000 in
theorem gX1_play_X3_hindrance : GoodIn wsX1_play (wsV RX1 49 RX3 yX3_hindrance wsX3_hindrance) := goodIn_app (goodIn_of _ (by decide +kernel)) ggX1_play_X3_hindrance
set_option maxRecDepth 20000 in
theorem ggX1_play_X1_noteOver : GoodIn wsX1_play wsX1_noteOver := goodIn_r _ [72, 4, 1, 7, 73, 74, 75, 11, 76, 25, 77, 78, 79, 80, 21, 28, 29, 13, 18, 81, 82, 83, 84, 20, 85, 61, 86, 99, 100, 101, 102, 105, 106, 107, 108, 109, 110, 111, 112, 113, 114, 115, 116, 117] (by decide +kernel) (by decide +kernel)
set_option maxRecDepth 20000 in
theorem gX1_play_X1_noteOver : GoodIn wsX1_play (wsV RX1 56 RX1 yX1_noteOver wsX1_noteOver) := goodIn_app (goodIn_of _ (by decide +kernel)) ggX1_play_X1_noteOver
set_option maxRecDepth 20000 in
theorem ggX1_play_X3_act : GoodIn wsX1_play wsX3_act := goodIn_r _ [90, 21, 28, 29, 18, 48, 41, 33, 42, 49, 50, 51, 91, 92, 93, 11, 94, 27, 56, 57, 58, 59, 19, 95, 96, 97, 98, 20, 26, 77, 78, 79, 80, 13, 81, 82, 83, 84, 85, 61, 86, 63, 64, 65, 66, 67, 105, 106, 107, 108, 109, 110, 111, 112, 113, 114, 115, 116, 117] (by decide +kernel) (by decide +kernel)
set_option maxRecDepth 20000 in
theorem gX1_play_X3_act : GoodIn wsX1_play (wsV RX1 60 RX3 yX3_act wsX3_act) := goodIn_app (goodIn_of _ (by decide +kernel)) ggX1_play_X3_act
theorem dX1_play_0 : decode cX1_play 0 = .ok (.aload_n 0, 1) := by decide +kernel
theorem dX1_play_1 : decode cX1_play 1 = .ok (.getfield 12, 3) := by decide +kernel
theorem dX1_play_4 : decode cX1_play 4 = .ok (.aload_n 1, 1) := by decide +kernel
theorem dX1_play_5 : decode cX1_play 5 = .ok (.invokevirtual 28, 3) := by decide +kernel
theorem dX1_play_8 : decode cX1_play 8 = .ok (.aload_n 0, 1) := by decide +kernel
theorem dX1_play_9 : decode cX1_play 9 = .ok (.iconst 0, 1) := by decide +kernel
theorem dX1_play_10 : decode cX1_play 10 = .ok (.putfield 18, 3) := by decide +kernel
theorem dX1_play_13 : decode cX1_play 13 = .ok (.aload_n 0, 1) := by decide +kernel
theorem dX1_play_14 : decode cX1_play 14 = .ok (.iconst 0, 1) := by decide +kernel
theorem dX1_play_15 : decode cX1_play 15 = .ok (.putfield 22, 3) := by decide +kernel
theorem dX1_play_18 : decode cX1_play 18 = .ok (.aload_n 0, 1) := by decide +kernel
theorem dX1_play_19 : decode cX1_play 19 = .ok (.bipush (-6), 2) := by decide +kernel
theorem dX1_play_21 : decode cX1_play 21 = .ok (.putfield 25, 3) := by decide +kernel
theorem dX1_play_24 : decode cX1_play 24 = .ok (.iconst 0, 1) := by decide +kernel
theorem dX1_play_25 : decode cX1_play 25 = .ok (.istore_n 3, 1) := by decide +kernel
theorem dX1_play_26 : decode cX1_play 26 = .ok (.iload_n 3, 1) := by decide +kernel
theorem dX1_play_27 : decode cX1_play 27 = .ok (.aload_n 2, 1) := by decide +kernel
theorem dX1_play_28 : decode cX1_play 28 = .ok (.getfield 32, 3) := by decide +kernel
theorem dX1_play_31 : decode cX1_play 31 = .ok (.if_icmp .ge 99, 3) := by decide +kernel
theorem dX1_play_34 : decode cX1_play 34 = .ok (.aload_n 2, 1) := by decide +kernel
theorem dX1_play_35 : decode cX1_play 35 = .ok (.getfield 37, 3) := by decide +kernel
theorem dX1_play_38 : decode cX1_play 38 = .ok (.iload_n 3, 1) := by decide +kernel
theorem dX1_play_39 : decode cX1_play 39 = .ok (.iaload, 1) := by decide +kernel
theorem dX1_play_40 : decode cX1_play 40 = .ok (.istore 4, 2) := by decide +kernel
theorem dX1_play_42 : decode cX1_play 42 = .ok (.aload_n 2, 1) := by decide +kernel
theorem dX1_play_43 : decode cX1_play 43 = .ok (.iload_n 3, 1) := by decide +kernel
theorem dX1_play_44 : decode cX1_play 44 = .ok (.invokevirtual 41, 3) := by decide +kernel
theorem dX1_play_47 : decode cX1_play 47 = .ok (.istore 5, 2) := by decide +kernel
theorem dX1_play_49 : decode cX1_play 49 = .ok (.iload_n 3, 1) := by decide +kernel
theorem dX1_play_50 : decode cX1_play 50 = .ok (.iload 4, 2) := by decide +kernel
theorem dX1_play_52 : decode cX1_play 52 = .ok (.invokestatic 45, 3) := by decide +kernel
theorem dX1_play_55 : decode cX1_play 55 = .ok (.ifCond .eq 7, 3) := by decide +kernel
theorem dX1_play_58 : decode cX1_play 58 = .ok (.iconst 1, 1) := by decide +kernel
theorem dX1_play_59 : decode cX1_play 59 = .ok (.goto 4, 3) := by decide +kernel
theorem dX1_play_62 : decode cX1_play 62 = .ok (.iconst 0, 1) := by decide +kernel
theorem dX1_play_63 : decode cX1_play 63 = .ok (.iadd, 1) := by decide +kernel
theorem dX1_play_64 : decode cX1_play 64 = .ok (.istore_n 3, 1) := by decide +kernel
theorem dX1_play_65 : decode cX1_play 65 = .ok (.aload_n 0, 1) := by decide +kernel
theorem dX1_play_66 : decode cX1_play 66 = .ok (.aload_n 0, 1) := by decide +kernel
theorem dX1_play_67 : decode cX1_play 67 = .ok (.getfield 12, 3) := by decide +kernel
theorem dX1_play_70 : decode cX1_play 70 = .ok (.iload 4, 2) := by decide +kernel
theorem dX1_play_72 : decode cX1_play 72 = .ok (.iload 5, 2) := by decide +kernel
theorem dX1_play_74 : decode cX1_play 74 = .ok (.invokevirtual 49, 3) := by decide +kernel
theorem dX1_play_77 : decode cX1_play 77 = .ok (.putfield 22, 3) := by decide +kernel
theorem dX1_play_80 : decode cX1_play 80 = .ok (.aload_n 0, 1) := by decide +kernel
theorem dX1_play_81 : decode cX1_play 81 = .ok (.getfield 22, 3) := by decide +kernel
theorem dX1_play_84 : decode cX1_play 84 = .ok (.ifCond .eq 4, 3) := by decide +kernel
theorem dX1_play_87 : decode cX1_play 87 = .ok (.return_, 1) := by decide +kernel
theorem dX1_play_88 : decode cX1_play 88 = .ok (.iload 4, 2) := by decide +kernel
theorem dX1_play_90 : decode cX1_play 90 = .ok (.bipush 46, 2) := by decide +kernel
theorem dX1_play_92 : decode cX1_play 92 = .ok (.if_icmp .ne 11, 3) := by decide +kernel
theorem dX1_play_95 : decode cX1_play 95 = .ok (.aload_n 0, 1) := by decide +kernel
theorem dX1_play_96 : decode cX1_play 96 = .ok (.aload_n 1, 1) := by decide +kernel
theorem dX1_play_97 : decode cX1_play 97 = .ok (.getfield 53, 3) := by decide +kernel
theorem dX1_play_100 : decode cX1_play 100 = .ok (.invokevirtual 56, 3) := by decide +kernel
theorem dX1_play_103 : decode cX1_play 103 = .ok (.aload_n 0, 1) := by decide +kernel
theorem dX1_play_104 : decode cX1_play 104 = .ok (.getfield 12, 3) := by decide +kernel
theorem dX1_play_107 : decode cX1_play 107 = .ok (.iload 4, 2) := by decide +kernel
theorem dX1_play_109 : decode cX1_play 109 = .ok (.iload 5, 2) := by decide +kernel
theorem dX1_play_111 : decode cX1_play 111 = .ok (.invokevirtual 60, 3) := by decide +kernel
theorem dX1_play_114 : decode cX1_play 114 = .ok (.aload_n 0, 1) := by decide +kernel
theorem dX1_play_115 : decode cX1_play 115 = .ok (.dup, 1) := by decide +kernel
theorem dX1_play_116 : decode cX1_play 116 = .ok (.getfield 18, 3) := by decide +kernel
theorem dX1_play_119 : decode cX1_play 119 = .ok (.iconst 1, 1) := by decide +kernel
theorem dX1_play_120 : decode cX1_play 120 = .ok (.iadd, 1) := by decide +kernel
theorem dX1_play_121 : decode cX1_play 121 = .ok (.putfield 18, 3) := by decide +kernel
theorem dX1_play_124 : decode cX1_play 124 = .ok (.iinc 3 1, 3) := by decide +kernel
theorem dX1_play_127 : decode cX1_play 127 = .ok (.goto (-101), 3) := by decide +kernel
theorem dX1_play_130 : decode cX1_play 130 = .ok (.aload_n 0, 1) := by decide +kernel
theorem dX1_play_131 : decode cX1_play 131 = .ok (.aload_n 1, 1) := by decide +kernel
theorem dX1_play_132 : decode cX1_play 132 = .ok (.getfield 53, 3) := by decide +kernel
theorem dX1_play_135 : decode cX1_play 135 = .ok (.invokevirtual 56, 3) := by decide +kernel
theorem dX1_play_138 : decode cX1_play 138 = .ok (.return_, 1) := by decide +kernel
set_option maxRecDepth 20000 in
theorem ggX1_noteOver_X3_isOver : GoodIn wsX1_noteOver wsX3_isOver := goodIn_r _ [8, 9, 10, 11, 12, 7, 13, 14, 15, 16, 17, 18, 19, 20, 21, 22, 23, 24, 25, 26, 31, 32, 33, 34, 35, 36, 37, 38, 39, 40, 41, 42, 43] (by decide +kernel) (by decide +kernel)
set_option maxRecDepth 20000 in
theorem gX1_noteOver_X3_isOver : GoodIn wsX1_noteOver (wsV RX1 64 RX3 yX3_isOver wsX3_isOver) := goodIn_app (goodIn_of _ (by decide +kernel)) ggX1_noteOver_X3_isOver
theorem dX1_noteOver_0 : decode cX1_noteOver 0 = .ok (.aload_n 0, 1) := by decide +kernel
theorem dX1_noteOver_1 : decode cX1_noteOver 1 = .ok (.getfield 25, 3) := by decide +kernel
theorem dX1_noteOver_4 : decode cX1_noteOver 4 = .ok (.bipush (-6), 2) := by decide +kernel
theorem dX1_noteOver_6 : decode cX1_noteOver 6 = .ok (.if_icmp .ne 26, 3) := by decide +kernel
theorem dX1_noteOver_9 : decode cX1_noteOver 9 = .ok (.aload_n 0, 1) := by decide +kernel
theorem dX1_noteOver_10 : decode cX1_noteOver 10 = .ok (.getfield 12, 3) := by decide +kernel
theorem dX1_noteOver_13 : decode cX1_noteOver 13 = .ok (.invokevirtual 64, 3) := by decide +kernel
theorem dX1_noteOver_16 : decode cX1_noteOver 16 = .ok (.ifCond .eq 16, 3) := by decide +kernel
theorem dX1_noteOver_19 : decode cX1_noteOver 19 = .ok (.aload_n 0, 1) := by decide +kernel
theorem dX1_noteOver_20 : decode cX1_noteOver 20 = .ok (.aload_n 0, 1) := by decide +kernel
theorem dX1_noteOver_21 : decode cX1_noteOver 21 = .ok (.getfield 12, 3) := by decide +kernel
theorem dX1_noteOver_24 : decode cX1_noteOver 24 = .ok (.getfield 53, 3) := by decide +kernel
theorem dX1_noteOver_27 : decode cX1_noteOver 27 = .ok (.iload_n 1, 1) := by decide +kernel
theorem dX1_noteOver_28 : decode cX1_noteOver 28 = .ok (.isub, 1) := by decide +kernel
theorem dX1_noteOver_29 : decode cX1_noteOver 29 = .ok (.putfield 25, 3) := by decide +kernel
theorem dX1_noteOver_32 : decode cX1_noteOver 32 = .ok (.return_, 1) := by decide +kernel
theorem dX2_init_0 : decode cX2_init 0 = .ok (.aload_n 0, 1) := by decide +kernel
theorem dX2_init_1 : decode cX2_init 1 = .ok (.invokespecial 3, 3) := by decide +kernel
theorem dX2_init_4 : decode cX2_init 4 = .ok (.aload_n 0, 1) := by decide +kernel
theorem dX2_init_5 : decode cX2_init 5 = .ok (.bipush 64, 2) := by decide +kernel
theorem dX2_init_7 : decode cX2_init 7 = .ok (.newarray .int, 2) := by decide +kernel
theorem dX2_init_9 : decode cX2_init 9 = .ok (.putfield 9, 3) := by decide +kernel
theorem dX2_init_12 : decode cX2_init 12 = .ok (.aload_n 0, 1) := by decide +kernel
theorem dX2_init_13 : decode cX2_init 13 = .ok (.bipush 64, 2) := by decide +kernel
theorem dX2_init_15 : decode cX2_init 15 = .ok (.newarray .int, 2) := by decide +kernel
theorem dX2_init_17 : decode cX2_init 17 = .ok (.putfield 15, 3) := by decide +kernel
theorem dX2_init_20 : decode cX2_init 20 = .ok (.aload_n 0, 1) := by decide +kernel
theorem dX2_init_21 : decode cX2_init 21 = .ok (.iconst 0, 1) := by decide +kernel
theorem dX2_init_22 : decode cX2_init 22 = .ok (.putfield 18, 3) := by decide +kernel
theorem dX2_init_25 : decode cX2_init 25 = .ok (.return_, 1) := by decide +kernel
set_option maxRecDepth 20000 in
theorem ggX2_solve_X2_solveLeft : GoodIn wsX2_solve wsX2_solveLeft := goodIn_r _ [8, 2, 3, 1, 9, 10, 11, 12, 13, 14, 7, 15, 16, 17, 18, 19, 20, 21, 22, 23, 24, 25, 26, 27, 28, 29, 30, 31, 32, 33, 34, 35, 36, 37, 38, 39, 40, 41, 42, 43, 44, 45, 46, 47, 48, 49, 50, 51, 52, 53, 54, 55, 56, 57, 58] (by decide +kernel) (by decide +kernel)
set_option maxRecDepth 20000 in
theorem gX2_solve_X2_solveLeft : GoodIn wsX2_solve (wsV RX2 22 RX2 yX2_solveLeft wsX2_solveLeft) := goodIn_app (goodIn_of _ (by decide +kernel)) ggX2_solve_X2_solveLeft
theorem dX2_solve_0 : decode cX2_solve 0 = .ok (.aload_n 0, 1) := by decide +kernel
theorem dX2_solve_1 : decode cX2_solve 1 = .ok (.iload_n 2, 1) := by decide +kernel
theorem dX2_solve_2 : decode cX2_solve 2 = .ok (.putfield 18, 3) := by decide +kernel
theorem dX2_solve_5 : decode cX2_solve 5 = .ok (.aload_n 0, 1) := by decide +kernel
theorem dX2_solve_6 : decode cX2_solve 6 = .ok (.getfield 9, 3) := by decide +kernel
theorem dX2_solve_9 : decode cX2_solve 9 = .ok (.iconst 0, 1) := by decide +kernel
theorem dX2_solve_10 : decode cX2_solve 10 = .ok (.iconst 0, 1) := by decide +kernel
theorem dX2_solve_11 : decode cX2_solve 11 = .ok (.iastore, 1) := by decide +kernel
theorem dX2_solve_12 : decode cX2_solve 12 = .ok (.aload_n 0, 1) := by decide +kernel
theorem dX2_solve_13 : decode cX2_solve 13 = .ok (.getfield 15, 3) := by decide +kernel
theorem dX2_solve_16 : decode cX2_solve 16 = .ok (.iconst 0, 1) := by decide +kernel
theorem dX2_solve_17 : decode cX2_solve 17 = .ok (.bipush (-6), 2) := by decide +kernel
theorem dX2_solve_19 : decode cX2_solve 19 = .ok (.iastore, 1) := by decide +kernel
theorem dX2_solve_20 : decode cX2_solve 20 = .ok (.iconst 1, 1) := by decide +kernel
theorem dX2_solve_21 : decode cX2_solve 21 = .ok (.istore_n 3, 1) := by decide +kernel
theorem dX2_solve_22 : decode cX2_solve 22 = .ok (.iload_n 3, 1) := by decide +kernel
theorem dX2_solve_23 : decode cX2_solve 23 = .ok (.iload_n 2, 1) := by decide +kernel
theorem dX2_solve_24 : decode cX2_solve 24 = .ok (.if_icmp .gt 23, 3) := by decide +kernel
theorem dX2_solve_27 : decode cX2_solve 27 = .ok (.iload_n 3, 1) := by decide +kernel
theorem dX2_solve_28 : decode cX2_solve 28 = .ok (.iload_n 2, 1) := by decide +kernel
theorem dX2_solve_29 : decode cX2_solve 29 = .ok (.iconst (-1), 1) := by decide +kernel
theorem dX2_solve_30 : decode cX2_solve 30 = .ok (.ixor, 1) := by decide +kernel
theorem dX2_solve_31 : decode cX2_solve 31 = .ok (.iand, 1) := by decide +kernel
theorem dX2_solve_32 : decode cX2_solve 32 = .ok (.ifCond .ne 9, 3) := by decide +kernel
theorem dX2_solve_35 : decode cX2_solve 35 = .ok (.aload_n 0, 1) := by decide +kernel
theorem dX2_solve_36 : decode cX2_solve 36 = .ok (.aload_n 1, 1) := by decide +kernel
theorem dX2_solve_37 : decode cX2_solve 37 = .ok (.iload_n 3, 1) := by decide +kernel
theorem dX2_solve_38 : decode cX2_solve 38 = .ok (.invokevirtual 22, 3) := by decide +kernel
theorem dX2_solve_41 : decode cX2_solve 41 = .ok (.iinc 3 1, 3) := by decide +kernel
theorem dX2_solve_44 : decode cX2_solve 44 = .ok (.goto (-22), 3) := by decide +kernel
theorem dX2_solve_47 : decode cX2_solve 47 = .ok (.return_, 1) := by decide +kernel
set_option maxRecDepth 20000 in
theorem ggX2_solveLeft_X6_has : GoodIn wsX2_solveLeft wsX6_has := goodIn_r _ [6] (by decide +kernel) (by decide +kernel)
set_option maxRecDepth 20000 in
theorem gX2_solveLeft_X6_has_n26 : GoodIn wsX2_solveLeft (wsX6_has) := ggX2_solveLeft_X6_has
set_option maxRecDepth 20000 in
theorem ggX2_solveLeft_X2_loses : GoodIn wsX2_solveLeft wsX2_loses := goodIn_r _ [11, 12, 13, 14, 15, 16, 17, 4, 5, 6, 18, 19, 20, 21, 22, 23, 24, 25, 26, 27, 28, 29, 30, 31, 32, 33, 34, 35, 36, 37, 38, 42, 43, 44, 45, 46, 47, 48, 49, 50, 51, 52, 53, 54] (by decide +kernel) (by decide +kernel)
set_option maxRecDepth 20000 in
theorem gX2_solveLeft_X2_loses : GoodIn wsX2_solveLeft (wsV RX2 30 RX2 yX2_loses wsX2_loses) := goodIn_app (goodIn_of _ (by decide +kernel)) ggX2_solveLeft_X2_loses
theorem dX2_solveLeft_0 : decode cX2_solveLeft 0 = .ok (.aload_n 0, 1) := by decide +kernel
theorem dX2_solveLeft_1 : decode cX2_solveLeft 1 = .ok (.getfield 9, 3) := by decide +kernel
theorem dX2_solveLeft_4 : decode cX2_solveLeft 4 = .ok (.iload_n 2, 1) := by decide +kernel
theorem dX2_solveLeft_5 : decode cX2_solveLeft 5 = .ok (.iconst (-1), 1) := by decide +kernel
theorem dX2_solveLeft_6 : decode cX2_solveLeft 6 = .ok (.iastore, 1) := by decide +kernel
theorem dX2_solveLeft_7 : decode cX2_solveLeft 7 = .ok (.aload_n 0, 1) := by decide +kernel
theorem dX2_solveLeft_8 : decode cX2_solveLeft 8 = .ok (.getfield 15, 3) := by decide +kernel
theorem dX2_solveLeft_11 : decode cX2_solveLeft 11 = .ok (.iload_n 2, 1) := by decide +kernel
theorem dX2_solveLeft_12 : decode cX2_solveLeft 12 = .ok (.bipush (-6), 2) := by decide +kernel
theorem dX2_solveLeft_14 : decode cX2_solveLeft 14 = .ok (.iastore, 1) := by decide +kernel
theorem dX2_solveLeft_15 : decode cX2_solveLeft 15 = .ok (.iconst 0, 1) := by decide +kernel
theorem dX2_solveLeft_16 : decode cX2_solveLeft 16 = .ok (.istore_n 3, 1) := by decide +kernel
theorem dX2_solveLeft_17 : decode cX2_solveLeft 17 = .ok (.iload_n 3, 1) := by decide +kernel
theorem dX2_solveLeft_18 : decode cX2_solveLeft 18 = .ok (.bipush 6, 2) := by decide +kernel
theorem dX2_solveLeft_20 : decode cX2_solveLeft 20 = .ok (.if_icmp .ge 83, 3) := by decide +kernel
theorem dX2_solveLeft_23 : decode cX2_solveLeft 23 = .ok (.iload_n 2, 1) := by decide +kernel
theorem dX2_solveLeft_24 : decode cX2_solveLeft 24 = .ok (.iload_n 3, 1) := by decide +kernel
theorem dX2_solveLeft_25 : decode cX2_solveLeft 25 = .ok (.invokestatic 26, 3) := by decide +kernel
theorem dX2_solveLeft_28 : decode cX2_solveLeft 28 = .ok (.ifCond .eq 69, 3) := by decide +kernel
theorem dX2_solveLeft_31 : decode cX2_solveLeft 31 = .ok (.iload_n 2, 1) := by decide +kernel
theorem dX2_solveLeft_32 : decode cX2_solveLeft 32 = .ok (.iconst 1, 1) := by decide +kernel
theorem dX2_solveLeft_33 : decode cX2_solveLeft 33 = .ok (.iload_n 3, 1) := by decide +kernel
theorem dX2_solveLeft_34 : decode cX2_solveLeft 34 = .ok (.ishl, 1) := by decide +kernel
theorem dX2_solveLeft_35 : decode cX2_solveLeft 35 = .ok (.iconst (-1), 1) := by decide +kernel
theorem dX2_solveLeft_36 : decode cX2_solveLeft 36 = .ok (.ixor, 1) := by decide +kernel
theorem dX2_solveLeft_37 : decode cX2_solveLeft 37 = .ok (.iand, 1) := by decide +kernel
theorem dX2_solveLeft_38 : decode cX2_solveLeft 38 = .ok (.istore 4, 2) := by decide +kernel
theorem dX2_solveLeft_40 : decode cX2_solveLeft 40 = .ok (.aload_n 0, 1) := by decide +kernel
theorem dX2_solveLeft_41 : decode cX2_solveLeft 41 = .ok (.aload_n 1, 1) := by decide +kernel
theorem dX2_solveLeft_42 : decode cX2_solveLeft 42 = .ok (.aload_n 0, 1) := by decide +kernel
theorem dX2_solveLeft_43 : decode cX2_solveLeft 43 = .ok (.getfield 18, 3) := by decide +kernel
theorem dX2_solveLeft_46 : decode cX2_solveLeft 46 = .ok (.iload 4, 2) := by decide +kernel
theorem dX2_solveLeft_48 : decode cX2_solveLeft 48 = .ok (.iconst (-1), 1) := by decide +kernel
theorem dX2_solveLeft_49 : decode cX2_solveLeft 49 = .ok (.ixor, 1) := by decide +kernel
theorem dX2_solveLeft_50 : decode cX2_solveLeft 50 = .ok (.iand, 1) := by decide +kernel
theorem dX2_solveLeft_51 : decode cX2_solveLeft 51 = .ok (.invokevirtual 30, 3) := by decide +kernel
theorem dX2_solveLeft_54 : decode cX2_solveLeft 54 = .ok (.ifCond .eq 7, 3) := by decide +kernel
theorem dX2_solveLeft_57 : decode cX2_solveLeft 57 = .ok (.iconst (-1), 1) := by decide +kernel
theorem dX2_solveLeft_58 : decode cX2_solveLeft 58 = .ok (.goto 11, 3) := by decide +kernel
theorem dX2_solveLeft_61 : decode cX2_solveLeft 61 = .ok (.aload_n 0, 1) := by decide +kernel
theorem dX2_solveLeft_62 : decode cX2_solveLeft 62 = .ok (.getfield 9, 3) := by decide +kernel
theorem dX2_solveLeft_65 : decode cX2_solveLeft 65 = .ok (.iload 4, 2) := by decide +kernel
theorem dX2_solveLeft_67 : decode cX2_solveLeft 67 = .ok (.iaload, 1) := by decide +kernel
theorem dX2_solveLeft_68 : decode cX2_solveLeft 68 = .ok (.ineg, 1) := by decide +kernel
theorem dX2_solveLeft_69 : decode cX2_solveLeft 69 = .ok (.istore 5, 2) := by decide +kernel
theorem dX2_solveLeft_71 : decode cX2_solveLeft 71 = .ok (.iload 5, 2) := by decide +kernel
theorem dX2_solveLeft_73 : decode cX2_solveLeft 73 = .ok (.aload_n 0, 1) := by decide +kernel
theorem dX2_solveLeft_74 : decode cX2_solveLeft 74 = .ok (.getfield 9, 3) := by decide +kernel
theorem dX2_solveLeft_77 : decode cX2_solveLeft 77 = .ok (.iload_n 2, 1) := by decide +kernel
theorem dX2_solveLeft_78 : decode cX2_solveLeft 78 = .ok (.iaload, 1) := by decide +kernel
theorem dX2_solveLeft_79 : decode cX2_solveLeft 79 = .ok (.if_icmp .le 18, 3) := by decide +kernel
theorem dX2_solveLeft_82 : decode cX2_solveLeft 82 = .ok (.aload_n 0, 1) := by decide +kernel
theorem dX2_solveLeft_83 : decode cX2_solveLeft 83 = .ok (.getfield 9, 3) := by decide +kernel
theorem dX2_solveLeft_86 : decode cX2_solveLeft 86 = .ok (.iload_n 2, 1) := by decide +kernel
theorem dX2_solveLeft_87 : decode cX2_solveLeft 87 = .ok (.iload 5, 2) := by decide +kernel
theorem dX2_solveLeft_89 : decode cX2_solveLeft 89 = .ok (.iastore, 1) := by decide +kernel
theorem dX2_solveLeft_90 : decode cX2_solveLeft 90 = .ok (.aload_n 0, 1) := by decide +kernel
theorem dX2_solveLeft_91 : decode cX2_solveLeft 91 = .ok (.getfield 15, 3) := by decide +kernel
theorem dX2_solveLeft_94 : decode cX2_solveLeft 94 = .ok (.iload_n 2, 1) := by decide +kernel
theorem dX2_solveLeft_95 : decode cX2_solveLeft 95 = .ok (.iload_n 3, 1) := by decide +kernel
theorem dX2_solveLeft_96 : decode cX2_solveLeft 96 = .ok (.iastore, 1) := by decide +kernel
theorem dX2_solveLeft_97 : decode cX2_solveLeft 97 = .ok (.iinc 3 1, 3) := by decide +kernel
theorem dX2_solveLeft_100 : decode cX2_solveLeft 100 = .ok (.goto (-83), 3) := by decide +kernel
theorem dX2_solveLeft_103 : decode cX2_solveLeft 103 = .ok (.return_, 1) := by decide +kernel
set_option maxRecDepth 20000 in
theorem ggX2_loses_X3_worthOfSet : GoodIn wsX2_loses wsX3_worthOfSet := goodIn_r _ [6, 7, 8, 9, 10, 11, 12, 5, 13, 14, 31, 32, 33, 34, 35, 36, 37, 38, 39, 40, 41, 42, 43] (by decide +kernel) (by decide +kernel)
set_option maxRecDepth 20000 in
theorem gX2_loses_X3_worthOfSet : GoodIn wsX2_loses (wsV RX2 34 RX3 yX3_worthOfSet wsX3_worthOfSet) := goodIn_app (goodIn_of _ (by decide +kernel)) ggX2_loses_X3_worthOfSet
set_option maxRecDepth 20000 in
theorem ggX2_loses_X3_seenToday : GoodIn wsX2_loses wsX3_seenToday := goodIn_r _ [18, 19, 20, 21, 22, 23, 24, 25, 26, 5, 27, 28, 29, 8, 30, 31, 32, 33, 34, 35, 36, 37, 38, 39, 40, 41, 42, 43] (by decide +kernel) (by decide +kernel)
set_option maxRecDepth 20000 in
theorem gX2_loses_X3_seenToday : GoodIn wsX2_loses (wsV RX2 40 RX3 yX3_seenToday wsX3_seenToday) := goodIn_app (goodIn_of _ (by decide +kernel)) ggX2_loses_X3_seenToday
theorem dX2_loses_0 : decode cX2_loses 0 = .ok (.iconst 0, 1) := by decide +kernel
theorem dX2_loses_1 : decode cX2_loses 1 = .ok (.istore_n 3, 1) := by decide +kernel
theorem dX2_loses_2 : decode cX2_loses 2 = .ok (.iload_n 3, 1) := by decide +kernel
theorem dX2_loses_3 : decode cX2_loses 3 = .ok (.iconst 3, 1) := by decide +kernel
theorem dX2_loses_4 : decode cX2_loses 4 = .ok (.if_icmp .ge 29, 3) := by decide +kernel
theorem dX2_loses_7 : decode cX2_loses 7 = .ok (.aload_n 1, 1) := by decide +kernel
theorem dX2_loses_8 : decode cX2_loses 8 = .ok (.iload_n 3, 1) := by decide +kernel
theorem dX2_loses_9 : decode cX2_loses 9 = .ok (.aload_n 1, 1) := by decide +kernel
theorem dX2_loses_10 : decode cX2_loses 10 = .ok (.iload_n 2, 1) := by decide +kernel
theorem dX2_loses_11 : decode cX2_loses 11 = .ok (.iload_n 3, 1) := by decide +kernel
theorem dX2_loses_12 : decode cX2_loses 12 = .ok (.invokevirtual 34, 3) := by decide +kernel
theorem dX2_loses_15 : decode cX2_loses 15 = .ok (.invokevirtual 40, 3) := by decide +kernel
theorem dX2_loses_18 : decode cX2_loses 18 = .ok (.aload_n 1, 1) := by decide +kernel
theorem dX2_loses_19 : decode cX2_loses 19 = .ok (.getfield 43, 3) := by decide +kernel
theorem dX2_loses_22 : decode cX2_loses 22 = .ok (.if_icmp .le 5, 3) := by decide +kernel
theorem dX2_loses_25 : decode cX2_loses 25 = .ok (.iconst 1, 1) := by decide +kernel
theorem dX2_loses_26 : decode cX2_loses 26 = .ok (.ireturn, 1) := by decide +kernel
theorem dX2_loses_27 : decode cX2_loses 27 = .ok (.iinc 3 1, 3) := by decide +kernel
theorem dX2_loses_30 : decode cX2_loses 30 = .ok (.goto (-28), 3) := by decide +kernel
theorem dX2_loses_33 : decode cX2_loses 33 = .ok (.iconst 0, 1) := by decide +kernel
theorem dX2_loses_34 : decode cX2_loses 34 = .ok (.ireturn, 1) := by decide +kernel
theorem dX2_winner_0 : decode cX2_winner 0 = .ok (.aload_n 0, 1) := by decide +kernel
theorem dX2_winner_1 : decode cX2_winner 1 = .ok (.getfield 9, 3) := by decide +kernel
theorem dX2_winner_4 : decode cX2_winner 4 = .ok (.aload_n 0, 1) := by decide +kernel
theorem dX2_winner_5 : decode cX2_winner 5 = .ok (.getfield 18, 3) := by decide +kernel
theorem dX2_winner_8 : decode cX2_winner 8 = .ok (.iaload, 1) := by decide +kernel
theorem dX2_winner_9 : decode cX2_winner 9 = .ok (.ifCond .ne 6, 3) := by decide +kernel
theorem dX2_winner_12 : decode cX2_winner 12 = .ok (.bipush (-6), 2) := by decide +kernel
theorem dX2_winner_14 : decode cX2_winner 14 = .ok (.ireturn, 1) := by decide +kernel
theorem dX2_winner_15 : decode cX2_winner 15 = .ok (.aload_n 0, 1) := by decide +kernel
theorem dX2_winner_16 : decode cX2_winner 16 = .ok (.getfield 9, 3) := by decide +kernel
theorem dX2_winner_19 : decode cX2_winner 19 = .ok (.aload_n 0, 1) := by decide +kernel
theorem dX2_winner_20 : decode cX2_winner 20 = .ok (.getfield 18, 3) := by decide +kernel
theorem dX2_winner_23 : decode cX2_winner 23 = .ok (.iaload, 1) := by decide +kernel
theorem dX2_winner_24 : decode cX2_winner 24 = .ok (.iconst 1, 1) := by decide +kernel
theorem dX2_winner_25 : decode cX2_winner 25 = .ok (.if_icmp .ne 7, 3) := by decide +kernel
theorem dX2_winner_28 : decode cX2_winner 28 = .ok (.iconst 0, 1) := by decide +kernel
theorem dX2_winner_29 : decode cX2_winner 29 = .ok (.goto 4, 3) := by decide +kernel
theorem dX2_winner_32 : decode cX2_winner 32 = .ok (.iconst 1, 1) := by decide +kernel
theorem dX2_winner_33 : decode cX2_winner 33 = .ok (.ireturn, 1) := by decide +kernel
theorem dX2_opening_0 : decode cX2_opening 0 = .ok (.aload_n 0, 1) := by decide +kernel
theorem dX2_opening_1 : decode cX2_opening 1 = .ok (.getfield 15, 3) := by decide +kernel
theorem dX2_opening_4 : decode cX2_opening 4 = .ok (.aload_n 0, 1) := by decide +kernel
theorem dX2_opening_5 : decode cX2_opening 5 = .ok (.getfield 18, 3) := by decide +kernel
theorem dX2_opening_8 : decode cX2_opening 8 = .ok (.iaload, 1) := by decide +kernel
theorem dX2_opening_9 : decode cX2_opening 9 = .ok (.ireturn, 1) := by decide +kernel
theorem dX3_init_0 : decode cX3_init 0 = .ok (.aload_n 0, 1) := by decide +kernel
theorem dX3_init_1 : decode cX3_init 1 = .ok (.invokespecial 3, 3) := by decide +kernel
theorem dX3_init_4 : decode cX3_init 4 = .ok (.aload_n 0, 1) := by decide +kernel
theorem dX3_init_5 : decode cX3_init 5 = .ok (.iconst 4, 1) := by decide +kernel
theorem dX3_init_6 : decode cX3_init 6 = .ok (.newarray .int, 2) := by decide +kernel
theorem dX3_init_8 : decode cX3_init 8 = .ok (.dup, 1) := by decide +kernel
theorem dX3_init_9 : decode cX3_init 9 = .ok (.iconst 0, 1) := by decide +kernel
theorem dX3_init_10 : decode cX3_init 10 = .ok (.iconst 1, 1) := by decide +kernel
theorem dX3_init_11 : decode cX3_init 11 = .ok (.iastore, 1) := by decide +kernel
theorem dX3_init_12 : decode cX3_init 12 = .ok (.dup, 1) := by decide +kernel
theorem dX3_init_13 : decode cX3_init 13 = .ok (.iconst 1, 1) := by decide +kernel
theorem dX3_init_14 : decode cX3_init 14 = .ok (.iconst 2, 1) := by decide +kernel
theorem dX3_init_15 : decode cX3_init 15 = .ok (.iastore, 1) := by decide +kernel
theorem dX3_init_16 : decode cX3_init 16 = .ok (.dup, 1) := by decide +kernel
theorem dX3_init_17 : decode cX3_init 17 = .ok (.iconst 2, 1) := by decide +kernel
theorem dX3_init_18 : decode cX3_init 18 = .ok (.iconst 3, 1) := by decide +kernel
theorem dX3_init_19 : decode cX3_init 19 = .ok (.iastore, 1) := by decide +kernel
theorem dX3_init_20 : decode cX3_init 20 = .ok (.dup, 1) := by decide +kernel
theorem dX3_init_21 : decode cX3_init 21 = .ok (.iconst 3, 1) := by decide +kernel
theorem dX3_init_22 : decode cX3_init 22 = .ok (.iconst 4, 1) := by decide +kernel
theorem dX3_init_23 : decode cX3_init 23 = .ok (.iastore, 1) := by decide +kernel
theorem dX3_init_24 : decode cX3_init 24 = .ok (.putfield 9, 3) := by decide +kernel
theorem dX3_init_27 : decode cX3_init 27 = .ok (.aload_n 0, 1) := by decide +kernel
theorem dX3_init_28 : decode cX3_init 28 = .ok (.iconst 4, 1) := by decide +kernel
theorem dX3_init_29 : decode cX3_init 29 = .ok (.newarray .int, 2) := by decide +kernel
theorem dX3_init_31 : decode cX3_init 31 = .ok (.putfield 15, 3) := by decide +kernel
theorem dX3_init_34 : decode cX3_init 34 = .ok (.aload_n 0, 1) := by decide +kernel
theorem dX3_init_35 : decode cX3_init 35 = .ok (.bipush 18, 2) := by decide +kernel
theorem dX3_init_37 : decode cX3_init 37 = .ok (.newarray .int, 2) := by decide +kernel
theorem dX3_init_39 : decode cX3_init 39 = .ok (.putfield 18, 3) := by decide +kernel
theorem dX3_init_42 : decode cX3_init 42 = .ok (.aload_n 0, 1) := by decide +kernel
theorem dX3_init_43 : decode cX3_init 43 = .ok (.bipush 27, 2) := by decide +kernel
theorem dX3_init_45 : decode cX3_init 45 = .ok (.newarray .int, 2) := by decide +kernel
theorem dX3_init_47 : decode cX3_init 47 = .ok (.putfield 21, 3) := by decide +kernel
theorem dX3_init_50 : decode cX3_init 50 = .ok (.aload_n 0, 1) := by decide +kernel
theorem dX3_init_51 : decode cX3_init 51 = .ok (.iconst 3, 1) := by decide +kernel
theorem dX3_init_52 : decode cX3_init 52 = .ok (.newarray .int, 2) := by decide +kernel
theorem dX3_init_54 : decode cX3_init 54 = .ok (.putfield 24, 3) := by decide +kernel
theorem dX3_init_57 : decode cX3_init 57 = .ok (.aload_n 0, 1) := by decide +kernel
theorem dX3_init_58 : decode cX3_init 58 = .ok (.bipush 8, 2) := by decide +kernel
theorem dX3_init_60 : decode cX3_init 60 = .ok (.newarray .int, 2) := by decide +kernel
theorem dX3_init_62 : decode cX3_init 62 = .ok (.putfield 27, 3) := by decide +kernel
theorem dX3_init_65 : decode cX3_init 65 = .ok (.aload_n 0, 1) := by decide +kernel
theorem dX3_init_66 : decode cX3_init 66 = .ok (.bipush 8, 2) := by decide +kernel
theorem dX3_init_68 : decode cX3_init 68 = .ok (.newarray .int, 2) := by decide +kernel
theorem dX3_init_70 : decode cX3_init 70 = .ok (.putfield 30, 3) := by decide +kernel
theorem dX3_init_73 : decode cX3_init 73 = .ok (.aload_n 0, 1) := by decide +kernel
theorem dX3_init_74 : decode cX3_init 74 = .ok (.iconst 0, 1) := by decide +kernel
theorem dX3_init_75 : decode cX3_init 75 = .ok (.putfield 33, 3) := by decide +kernel
theorem dX3_init_78 : decode cX3_init 78 = .ok (.aload_n 0, 1) := by decide +kernel
theorem dX3_init_79 : decode cX3_init 79 = .ok (.sipush 500, 3) := by decide +kernel
theorem dX3_init_82 : decode cX3_init 82 = .ok (.putfield 37, 3) := by decide +kernel
theorem dX3_init_85 : decode cX3_init 85 = .ok (.aload_n 0, 1) := by decide +kernel
theorem dX3_init_86 : decode cX3_init 86 = .ok (.iconst 0, 1) := by decide +kernel
theorem dX3_init_87 : decode cX3_init 87 = .ok (.putfield 40, 3) := by decide +kernel
theorem dX3_init_90 : decode cX3_init 90 = .ok (.aload_n 0, 1) := by decide +kernel
theorem dX3_init_91 : decode cX3_init 91 = .ok (.iconst 0, 1) := by decide +kernel
theorem dX3_init_92 : decode cX3_init 92 = .ok (.putfield 43, 3) := by decide +kernel
theorem dX3_init_95 : decode cX3_init 95 = .ok (.aload_n 0, 1) := by decide +kernel
theorem dX3_init_96 : decode cX3_init 96 = .ok (.iconst 0, 1) := by decide +kernel
theorem dX3_init_97 : decode cX3_init 97 = .ok (.putfield 46, 3) := by decide +kernel
theorem dX3_init_100 : decode cX3_init 100 = .ok (.aload_n 0, 1) := by decide +kernel
theorem dX3_init_101 : decode cX3_init 101 = .ok (.iconst 0, 1) := by decide +kernel
theorem dX3_init_102 : decode cX3_init 102 = .ok (.putfield 50, 3) := by decide +kernel
theorem dX3_init_105 : decode cX3_init 105 = .ok (.return_, 1) := by decide +kernel
theorem dX3_become_0 : decode cX3_become 0 = .ok (.aload_n 1, 1) := by decide +kernel
theorem dX3_become_1 : decode cX3_become 1 = .ok (.getfield 9, 3) := by decide +kernel
theorem dX3_become_4 : decode cX3_become 4 = .ok (.iconst 0, 1) := by decide +kernel
theorem dX3_become_5 : decode cX3_become 5 = .ok (.aload_n 0, 1) := by decide +kernel
theorem dX3_become_6 : decode cX3_become 6 = .ok (.getfield 9, 3) := by decide +kernel
theorem dX3_become_9 : decode cX3_become 9 = .ok (.iconst 0, 1) := by decide +kernel
theorem dX3_become_10 : decode cX3_become 10 = .ok (.iconst 4, 1) := by decide +kernel
theorem dX3_become_11 : decode cX3_become 11 = .ok (.invokestatic 53, 3) := by decide +kernel
theorem dX3_become_14 : decode cX3_become 14 = .ok (.aload_n 1, 1) := by decide +kernel
theorem dX3_become_15 : decode cX3_become 15 = .ok (.getfield 15, 3) := by decide +kernel
theorem dX3_become_18 : decode cX3_become 18 = .ok (.iconst 0, 1) := by decide +kernel
theorem dX3_become_19 : decode cX3_become 19 = .ok (.aload_n 0, 1) := by decide +kernel
theorem dX3_become_20 : decode cX3_become 20 = .ok (.getfield 15, 3) := by decide +kernel
theorem dX3_become_23 : decode cX3_become 23 = .ok (.iconst 0, 1) := by decide +kernel
theorem dX3_become_24 : decode cX3_become 24 = .ok (.iconst 4, 1) := by decide +kernel
theorem dX3_become_25 : decode cX3_become 25 = .ok (.invokestatic 53, 3) := by decide +kernel
theorem dX3_become_28 : decode cX3_become 28 = .ok (.aload_n 1, 1) := by decide +kernel
theorem dX3_become_29 : decode cX3_become 29 = .ok (.getfield 18, 3) := by decide +kernel
theorem dX3_become_32 : decode cX3_become 32 = .ok (.iconst 0, 1) := by decide +kernel
theorem dX3_become_33 : decode cX3_become 33 = .ok (.aload_n 0, 1) := by decide +kernel
theorem dX3_become_34 : decode cX3_become 34 = .ok (.getfield 18, 3) := by decide +kernel
theorem dX3_become_37 : decode cX3_become 37 = .ok (.iconst 0, 1) := by decide +kernel
theorem dX3_become_38 : decode cX3_become 38 = .ok (.bipush 18, 2) := by decide +kernel
theorem dX3_become_40 : decode cX3_become 40 = .ok (.invokestatic 53, 3) := by decide +kernel
theorem dX3_become_43 : decode cX3_become 43 = .ok (.aload_n 1, 1) := by decide +kernel
theorem dX3_become_44 : decode cX3_become 44 = .ok (.getfield 21, 3) := by decide +kernel
theorem dX3_become_47 : decode cX3_become 47 = .ok (.iconst 0, 1) := by decide +kernel
theorem dX3_become_48 : decode cX3_become 48 = .ok (.aload_n 0, 1) := by decide +kernel
theorem dX3_become_49 : decode cX3_become 49 = .ok (.getfield 21, 3) := by decide +kernel
theorem dX3_become_52 : decode cX3_become 52 = .ok (.iconst 0, 1) := by decide +kernel
theorem dX3_become_53 : decode cX3_become 53 = .ok (.bipush 27, 2) := by decide +kernel
theorem dX3_become_55 : decode cX3_become 55 = .ok (.invokestatic 53, 3) := by decide +kernel
theorem dX3_become_58 : decode cX3_become 58 = .ok (.aload_n 1, 1) := by decide +kernel
theorem dX3_become_59 : decode cX3_become 59 = .ok (.getfield 24, 3) := by decide +kernel
theorem dX3_become_62 : decode cX3_become 62 = .ok (.iconst 0, 1) := by decide +kernel
theorem dX3_become_63 : decode cX3_become 63 = .ok (.aload_n 0, 1) := by decide +kernel
theorem dX3_become_64 : decode cX3_become 64 = .ok (.getfield 24, 3) := by decide +kernel
theorem dX3_become_67 : decode cX3_become 67 = .ok (.iconst 0, 1) := by decide +kernel
theorem dX3_become_68 : decode cX3_become 68 = .ok (.iconst 3, 1) := by decide +kernel
theorem dX3_become_69 : decode cX3_become 69 = .ok (.invokestatic 53, 3) := by decide +kernel
theorem dX3_become_72 : decode cX3_become 72 = .ok (.aload_n 1, 1) := by decide +kernel
theorem dX3_become_73 : decode cX3_become 73 = .ok (.getfield 27, 3) := by decide +kernel
theorem dX3_become_76 : decode cX3_become 76 = .ok (.iconst 0, 1) := by decide +kernel
theorem dX3_become_77 : decode cX3_become 77 = .ok (.aload_n 0, 1) := by decide +kernel
theorem dX3_become_78 : decode cX3_become 78 = .ok (.getfield 27, 3) := by decide +kernel
theorem dX3_become_81 : decode cX3_become 81 = .ok (.iconst 0, 1) := by decide +kernel
theorem dX3_become_82 : decode cX3_become 82 = .ok (.bipush 8, 2) := by decide +kernel
theorem dX3_become_84 : decode cX3_become 84 = .ok (.invokestatic 53, 3) := by decide +kernel
theorem dX3_become_87 : decode cX3_become 87 = .ok (.aload_n 1, 1) := by decide +kernel
theorem dX3_become_88 : decode cX3_become 88 = .ok (.getfield 30, 3) := by decide +kernel
theorem dX3_become_91 : decode cX3_become 91 = .ok (.iconst 0, 1) := by decide +kernel
theorem dX3_become_92 : decode cX3_become 92 = .ok (.aload_n 0, 1) := by decide +kernel
theorem dX3_become_93 : decode cX3_become 93 = .ok (.getfield 30, 3) := by decide +kernel
theorem dX3_become_96 : decode cX3_become 96 = .ok (.iconst 0, 1) := by decide +kernel
theorem dX3_become_97 : decode cX3_become 97 = .ok (.bipush 8, 2) := by decide +kernel
theorem dX3_become_99 : decode cX3_become 99 = .ok (.invokestatic 53, 3) := by decide +kernel
theorem dX3_become_102 : decode cX3_become 102 = .ok (.aload_n 0, 1) := by decide +kernel
theorem dX3_become_103 : decode cX3_become 103 = .ok (.aload_n 1, 1) := by decide +kernel
theorem dX3_become_104 : decode cX3_become 104 = .ok (.getfield 33, 3) := by decide +kernel
theorem dX3_become_107 : decode cX3_become 107 = .ok (.putfield 33, 3) := by decide +kernel
theorem dX3_become_110 : decode cX3_become 110 = .ok (.aload_n 0, 1) := by decide +kernel
theorem dX3_become_111 : decode cX3_become 111 = .ok (.aload_n 1, 1) := by decide +kernel
theorem dX3_become_112 : decode cX3_become 112 = .ok (.getfield 37, 3) := by decide +kernel
theorem dX3_become_115 : decode cX3_become 115 = .ok (.putfield 37, 3) := by decide +kernel
theorem dX3_become_118 : decode cX3_become 118 = .ok (.aload_n 0, 1) := by decide +kernel
theorem dX3_become_119 : decode cX3_become 119 = .ok (.aload_n 1, 1) := by decide +kernel
theorem dX3_become_120 : decode cX3_become 120 = .ok (.getfield 40, 3) := by decide +kernel
theorem dX3_become_123 : decode cX3_become 123 = .ok (.putfield 40, 3) := by decide +kernel
theorem dX3_become_126 : decode cX3_become 126 = .ok (.aload_n 0, 1) := by decide +kernel
theorem dX3_become_127 : decode cX3_become 127 = .ok (.aload_n 1, 1) := by decide +kernel
theorem dX3_become_128 : decode cX3_become 128 = .ok (.getfield 43, 3) := by decide +kernel
theorem dX3_become_131 : decode cX3_become 131 = .ok (.putfield 43, 3) := by decide +kernel
theorem dX3_become_134 : decode cX3_become 134 = .ok (.aload_n 0, 1) := by decide +kernel
theorem dX3_become_135 : decode cX3_become 135 = .ok (.aload_n 1, 1) := by decide +kernel
theorem dX3_become_136 : decode cX3_become 136 = .ok (.getfield 46, 3) := by decide +kernel
theorem dX3_become_139 : decode cX3_become 139 = .ok (.putfield 46, 3) := by decide +kernel
theorem dX3_become_142 : decode cX3_become 142 = .ok (.aload_n 0, 1) := by decide +kernel
theorem dX3_become_143 : decode cX3_become 143 = .ok (.aload_n 1, 1) := by decide +kernel
theorem dX3_become_144 : decode cX3_become 144 = .ok (.getfield 50, 3) := by decide +kernel
theorem dX3_become_147 : decode cX3_become 147 = .ok (.putfield 50, 3) := by decide +kernel
theorem dX3_become_150 : decode cX3_become 150 = .ok (.return_, 1) := by decide +kernel
theorem dX3_worth_0 : decode cX3_worth 0 = .ok (.aload_n 0, 1) := by decide +kernel
theorem dX3_worth_1 : decode cX3_worth 1 = .ok (.getfield 18, 3) := by decide +kernel
theorem dX3_worth_4 : decode cX3_worth 4 = .ok (.iload_n 1, 1) := by decide +kernel
theorem dX3_worth_5 : decode cX3_worth 5 = .ok (.iconst 3, 1) := by decide +kernel
theorem dX3_worth_6 : decode cX3_worth 6 = .ok (.imul, 1) := by decide +kernel
theorem dX3_worth_7 : decode cX3_worth 7 = .ok (.iload_n 2, 1) := by decide +kernel
theorem dX3_worth_8 : decode cX3_worth 8 = .ok (.iadd, 1) := by decide +kernel
theorem dX3_worth_9 : decode cX3_worth 9 = .ok (.iaload, 1) := by decide +kernel
theorem dX3_worth_10 : decode cX3_worth 10 = .ok (.ireturn, 1) := by decide +kernel
set_option maxRecDepth 20000 in
theorem ggX3_worthOfSet_X6_has : GoodIn wsX3_worthOfSet wsX6_has := goodIn_r _ [3] (by decide +kernel) (by decide +kernel)
set_option maxRecDepth 20000 in
theorem gX3_worthOfSet_X6_has_n59 : GoodIn wsX3_worthOfSet (wsX6_has) := ggX3_worthOfSet_X6_has
set_option maxRecDepth 20000 in
theorem ggX3_worthOfSet_X3_worth : GoodIn wsX3_worthOfSet wsX3_worth := goodIn_r _ [8, 9, 10, 11, 12, 13, 14, 15, 16, 17, 18, 19, 20, 21, 22] (by decide +kernel) (by decide +kernel)
set_option maxRecDepth 20000 in
theorem gX3_worthOfSet_X3_worth : GoodIn wsX3_worthOfSet (wsV RX3 63 RX3 yX3_worth wsX3_worth) := goodIn_app (goodIn_of _ (by decide +kernel)) ggX3_worthOfSet_X3_worth
theorem dX3_worthOfSet_0 : decode cX3_worthOfSet 0 = .ok (.iconst 0, 1) := by decide +kernel
theorem dX3_worthOfSet_1 : decode cX3_worthOfSet 1 = .ok (.istore_n 3, 1) := by decide +kernel
theorem dX3_worthOfSet_2 : decode cX3_worthOfSet 2 = .ok (.iconst 0, 1) := by decide +kernel
theorem dX3_worthOfSet_3 : decode cX3_worthOfSet 3 = .ok (.istore 4, 2) := by decide +kernel
theorem dX3_worthOfSet_5 : decode cX3_worthOfSet 5 = .ok (.iload 4, 2) := by decide +kernel
theorem dX3_worthOfSet_7 : decode cX3_worthOfSet 7 = .ok (.bipush 6, 2) := by decide +kernel
theorem dX3_worthOfSet_9 : decode cX3_worthOfSet 9 = .ok (.if_icmp .ge 28, 3) := by decide +kernel
theorem dX3_worthOfSet_12 : decode cX3_worthOfSet 12 = .ok (.iload_n 1, 1) := by decide +kernel
theorem dX3_worthOfSet_13 : decode cX3_worthOfSet 13 = .ok (.iload 4, 2) := by decide +kernel
theorem dX3_worthOfSet_15 : decode cX3_worthOfSet 15 = .ok (.invokestatic 59, 3) := by decide +kernel
theorem dX3_worthOfSet_18 : decode cX3_worthOfSet 18 = .ok (.ifCond .eq 13, 3) := by decide +kernel
theorem dX3_worthOfSet_21 : decode cX3_worthOfSet 21 = .ok (.iload_n 3, 1) := by decide +kernel
theorem dX3_worthOfSet_22 : decode cX3_worthOfSet 22 = .ok (.aload_n 0, 1) := by decide +kernel
theorem dX3_worthOfSet_23 : decode cX3_worthOfSet 23 = .ok (.iload 4, 2) := by decide +kernel
theorem dX3_worthOfSet_25 : decode cX3_worthOfSet 25 = .ok (.iload_n 2, 1) := by decide +kernel
theorem dX3_worthOfSet_26 : decode cX3_worthOfSet 26 = .ok (.invokevirtual 63, 3) := by decide +kernel
theorem dX3_worthOfSet_29 : decode cX3_worthOfSet 29 = .ok (.iadd, 1) := by decide +kernel
theorem dX3_worthOfSet_30 : decode cX3_worthOfSet 30 = .ok (.istore_n 3, 1) := by decide +kernel
theorem dX3_worthOfSet_31 : decode cX3_worthOfSet 31 = .ok (.iinc 4 1, 3) := by decide +kernel
theorem dX3_worthOfSet_34 : decode cX3_worthOfSet 34 = .ok (.goto (-29), 3) := by decide +kernel
theorem dX3_worthOfSet_37 : decode cX3_worthOfSet 37 = .ok (.iload_n 3, 1) := by decide +kernel
theorem dX3_worthOfSet_38 : decode cX3_worthOfSet 38 = .ok (.ireturn, 1) := by decide +kernel
theorem dX3_seenAgo_0 : decode cX3_seenAgo 0 = .ok (.iload_n 2, 1) := by decide +kernel
theorem dX3_seenAgo_1 : decode cX3_seenAgo 1 = .ok (.iconst 1, 1) := by decide +kernel
theorem dX3_seenAgo_2 : decode cX3_seenAgo 2 = .ok (.if_icmp .lt 25, 3) := by decide +kernel
theorem dX3_seenAgo_5 : decode cX3_seenAgo 5 = .ok (.iload_n 2, 1) := by decide +kernel
theorem dX3_seenAgo_6 : decode cX3_seenAgo 6 = .ok (.bipush 9, 2) := by decide +kernel
theorem dX3_seenAgo_8 : decode cX3_seenAgo 8 = .ok (.if_icmp .gt 19, 3) := by decide +kernel
theorem dX3_seenAgo_11 : decode cX3_seenAgo 11 = .ok (.aload_n 0, 1) := by decide +kernel
theorem dX3_seenAgo_12 : decode cX3_seenAgo 12 = .ok (.getfield 21, 3) := by decide +kernel
theorem dX3_seenAgo_15 : decode cX3_seenAgo 15 = .ok (.iload_n 1, 1) := by decide +kernel
theorem dX3_seenAgo_16 : decode cX3_seenAgo 16 = .ok (.bipush 9, 2) := by decide +kernel
theorem dX3_seenAgo_18 : decode cX3_seenAgo 18 = .ok (.imul, 1) := by decide +kernel
theorem dX3_seenAgo_19 : decode cX3_seenAgo 19 = .ok (.iload_n 2, 1) := by decide +kernel
theorem dX3_seenAgo_20 : decode cX3_seenAgo 20 = .ok (.iadd, 1) := by decide +kernel
theorem dX3_seenAgo_21 : decode cX3_seenAgo 21 = .ok (.iconst 1, 1) := by decide +kernel
theorem dX3_seenAgo_22 : decode cX3_seenAgo 22 = .ok (.isub, 1) := by decide +kernel
theorem dX3_seenAgo_23 : decode cX3_seenAgo 23 = .ok (.iaload, 1) := by decide +kernel
theorem dX3_seenAgo_24 : decode cX3_seenAgo 24 = .ok (.goto 4, 3) := by decide +kernel
theorem dX3_seenAgo_27 : decode cX3_seenAgo 27 = .ok (.iconst 0, 1) := by decide +kernel
theorem dX3_seenAgo_28 : decode cX3_seenAgo 28 = .ok (.ireturn, 1) := by decide +kernel
set_option maxRecDepth 20000 in
theorem ggX3_seenToday_X3_seenAgo : GoodIn wsX3_seenToday wsX3_seenAgo := goodIn_r _ [10, 11, 15, 16, 17, 18, 19, 20, 21, 22, 23, 24, 25, 26, 27] (by decide +kernel) (by decide +kernel)
set_option maxRecDepth 20000 in
theorem gX3_seenToday_X3_seenAgo : GoodIn wsX3_seenToday (wsV RX3 67 RX3 yX3_seenAgo wsX3_seenAgo) := goodIn_app (goodIn_of _ (by decide +kernel)) ggX3_seenToday_X3_seenAgo
set_option maxRecDepth 20000 in
theorem ggX3_seenToday_X6_capped : GoodIn wsX3_seenToday wsX6_capped := goodIn_r _ [14] (by decide +kernel) (by decide +kernel)
set_option maxRecDepth 20000 in
theorem gX3_seenToday_X6_capped_n70 : GoodIn wsX3_seenToday (wsX6_capped) := ggX3_seenToday_X6_capped
theorem dX3_seenToday_0 : decode cX3_seenToday 0 = .ok (.aload_n 0, 1) := by decide +kernel
theorem dX3_seenToday_1 : decode cX3_seenToday 1 = .ok (.getfield 24, 3) := by decide +kernel
theorem dX3_seenToday_4 : decode cX3_seenToday 4 = .ok (.iload_n 1, 1) := by decide +kernel
theorem dX3_seenToday_5 : decode cX3_seenToday 5 = .ok (.iaload, 1) := by decide +kernel
theorem dX3_seenToday_6 : decode cX3_seenToday 6 = .ok (.iload_n 2, 1) := by decide +kernel
theorem dX3_seenToday_7 : decode cX3_seenToday 7 = .ok (.iadd, 1) := by decide +kernel
theorem dX3_seenToday_8 : decode cX3_seenToday 8 = .ok (.istore_n 3, 1) := by decide +kernel
theorem dX3_seenToday_9 : decode cX3_seenToday 9 = .ok (.aload_n 0, 1) := by decide +kernel
theorem dX3_seenToday_10 : decode cX3_seenToday 10 = .ok (.getfield 46, 3) := by decide +kernel
theorem dX3_seenToday_13 : decode cX3_seenToday 13 = .ok (.ifCond .ne 51, 3) := by decide +kernel
theorem dX3_seenToday_16 : decode cX3_seenToday 16 = .ok (.aload_n 0, 1) := by decide +kernel
theorem dX3_seenToday_17 : decode cX3_seenToday 17 = .ok (.getfield 50, 3) := by decide +kernel
theorem dX3_seenToday_20 : decode cX3_seenToday 20 = .ok (.ifCond .ne 44, 3) := by decide +kernel
theorem dX3_seenToday_23 : decode cX3_seenToday 23 = .ok (.iconst 0, 1) := by decide +kernel
theorem dX3_seenToday_24 : decode cX3_seenToday 24 = .ok (.istore 4, 2) := by decide +kernel
theorem dX3_seenToday_26 : decode cX3_seenToday 26 = .ok (.iload 4, 2) := by decide +kernel
theorem dX3_seenToday_28 : decode cX3_seenToday 28 = .ok (.iconst 4, 1) := by decide +kernel
theorem dX3_seenToday_29 : decode cX3_seenToday 29 = .ok (.if_icmp .ge 35, 3) := by decide +kernel
theorem dX3_seenToday_32 : decode cX3_seenToday 32 = .ok (.iload_n 3, 1) := by decide +kernel
theorem dX3_seenToday_33 : decode cX3_seenToday 33 = .ok (.aload_n 0, 1) := by decide +kernel
theorem dX3_seenToday_34 : decode cX3_seenToday 34 = .ok (.iload_n 1, 1) := by decide +kernel
theorem dX3_seenToday_35 : decode cX3_seenToday 35 = .ok (.aload_n 0, 1) := by decide +kernel
theorem dX3_seenToday_36 : decode cX3_seenToday 36 = .ok (.getfield 9, 3) := by decide +kernel
theorem dX3_seenToday_39 : decode cX3_seenToday 39 = .ok (.iload 4, 2) := by decide +kernel
theorem dX3_seenToday_41 : decode cX3_seenToday 41 = .ok (.iaload, 1) := by decide +kernel
theorem dX3_seenToday_42 : decode cX3_seenToday 42 = .ok (.invokevirtual 67, 3) := by decide +kernel
theorem dX3_seenToday_45 : decode cX3_seenToday 45 = .ok (.aload_n 0, 1) := by decide +kernel
theorem dX3_seenToday_46 : decode cX3_seenToday 46 = .ok (.getfield 15, 3) := by decide +kernel
theorem dX3_seenToday_49 : decode cX3_seenToday 49 = .ok (.iload 4, 2) := by decide +kernel
theorem dX3_seenToday_51 : decode cX3_seenToday 51 = .ok (.iaload, 1) := by decide +kernel
theorem dX3_seenToday_52 : decode cX3_seenToday 52 = .ok (.imul, 1) := by decide +kernel
theorem dX3_seenToday_53 : decode cX3_seenToday 53 = .ok (.bipush 10, 2) := by decide +kernel
theorem dX3_seenToday_55 : decode cX3_seenToday 55 = .ok (.idiv, 1) := by decide +kernel
theorem dX3_seenToday_56 : decode cX3_seenToday 56 = .ok (.iadd, 1) := by decide +kernel
theorem dX3_seenToday_57 : decode cX3_seenToday 57 = .ok (.istore_n 3, 1) := by decide +kernel
theorem dX3_seenToday_58 : decode cX3_seenToday 58 = .ok (.iinc 4 1, 3) := by decide +kernel
theorem dX3_seenToday_61 : decode cX3_seenToday 61 = .ok (.goto (-35), 3) := by decide +kernel
theorem dX3_seenToday_64 : decode cX3_seenToday 64 = .ok (.iload_n 3, 1) := by decide +kernel
theorem dX3_seenToday_65 : decode cX3_seenToday 65 = .ok (.invokestatic 70, 3) := by decide +kernel
theorem dX3_seenToday_68 : decode cX3_seenToday 68 = .ok (.ireturn, 1) := by decide +kernel
set_option maxRecDepth 20000 in
theorem ggX3_mostSeen_X3_seenToday : GoodIn wsX3_mostSeen wsX3_seenToday := goodIn_r _ [9, 10, 11, 12, 13, 14, 15, 16, 17, 8, 18, 19, 20, 21, 22, 23, 24, 25, 26, 27, 28, 29, 30, 31, 32, 33, 34, 35] (by decide +kernel) (by decide +kernel)
set_option maxRecDepth 20000 in
theorem gX3_mostSeen_X3_seenToday : GoodIn wsX3_mostSeen (wsV RX3 74 RX3 yX3_seenToday wsX3_seenToday) := goodIn_app (goodIn_of _ (by decide +kernel)) ggX3_mostSeen_X3_seenToday
theorem dX3_mostSeen_0 : decode cX3_mostSeen 0 = .ok (.aload_n 0, 1) := by decide +kernel
theorem dX3_mostSeen_1 : decode cX3_mostSeen 1 = .ok (.iconst 0, 1) := by decide +kernel
theorem dX3_mostSeen_2 : decode cX3_mostSeen 2 = .ok (.iconst 0, 1) := by decide +kernel
theorem dX3_mostSeen_3 : decode cX3_mostSeen 3 = .ok (.invokevirtual 74, 3) := by decide +kernel
theorem dX3_mostSeen_6 : decode cX3_mostSeen 6 = .ok (.aload_n 0, 1) := by decide +kernel
theorem dX3_mostSeen_7 : decode cX3_mostSeen 7 = .ok (.iconst 1, 1) := by decide +kernel
theorem dX3_mostSeen_8 : decode cX3_mostSeen 8 = .ok (.iconst 0, 1) := by decide +kernel
theorem dX3_mostSeen_9 : decode cX3_mostSeen 9 = .ok (.invokevirtual 74, 3) := by decide +kernel
theorem dX3_mostSeen_12 : decode cX3_mostSeen 12 = .ok (.aload_n 0, 1) := by decide +kernel
theorem dX3_mostSeen_13 : decode cX3_mostSeen 13 = .ok (.iconst 2, 1) := by decide +kernel
theorem dX3_mostSeen_14 : decode cX3_mostSeen 14 = .ok (.iconst 0, 1) := by decide +kernel
theorem dX3_mostSeen_15 : decode cX3_mostSeen 15 = .ok (.invokevirtual 74, 3) := by decide +kernel
theorem dX3_mostSeen_18 : decode cX3_mostSeen 18 = .ok (.invokestatic 77, 3) := by decide +kernel
theorem dX3_mostSeen_21 : decode cX3_mostSeen 21 = .ok (.invokestatic 77, 3) := by decide +kernel
theorem dX3_mostSeen_24 : decode cX3_mostSeen 24 = .ok (.ireturn, 1) := by decide +kernel
set_option maxRecDepth 20000 in
theorem ggX3_isOver_X3_seenToday : GoodIn wsX3_isOver wsX3_seenToday := goodIn_r _ [6, 7, 8, 9, 10, 11, 12, 13, 14, 5, 15, 16, 17, 18, 19, 20, 21, 22, 23, 24, 25, 26, 27, 28, 29, 30, 31, 32] (by decide +kernel) (by decide +kernel)
set_option maxRecDepth 20000 in
theorem gX3_isOver_X3_seenToday : GoodIn wsX3_isOver (wsV RX3 74 RX3 yX3_seenToday wsX3_seenToday) := goodIn_app (goodIn_of _ (by decide +kernel)) ggX3_isOver_X3_seenToday
theorem dX3_isOver_0 : decode cX3_isOver 0 = .ok (.aload_n 0, 1) := by decide +kernel
theorem dX3_isOver_1 : decode cX3_isOver 1 = .ok (.iconst 0, 1) := by decide +kernel
theorem dX3_isOver_2 : decode cX3_isOver 2 = .ok (.iconst 0, 1) := by decide +kernel
theorem dX3_isOver_3 : decode cX3_isOver 3 = .ok (.invokevirtual 74, 3) := by decide +kernel
theorem dX3_isOver_6 : decode cX3_isOver 6 = .ok (.aload_n 0, 1) := by decide +kernel
theorem dX3_isOver_7 : decode cX3_isOver 7 = .ok (.getfield 37, 3) := by decide +kernel
theorem dX3_isOver_10 : decode cX3_isOver 10 = .ok (.if_icmp .gt 29, 3) := by decide +kernel
theorem dX3_isOver_13 : decode cX3_isOver 13 = .ok (.aload_n 0, 1) := by decide +kernel
theorem dX3_isOver_14 : decode cX3_isOver 14 = .ok (.iconst 1, 1) := by decide +kernel
theorem dX3_isOver_15 : decode cX3_isOver 15 = .ok (.iconst 0, 1) := by decide +kernel
theorem dX3_isOver_16 : decode cX3_isOver 16 = .ok (.invokevirtual 74, 3) := by decide +kernel
theorem dX3_isOver_19 : decode cX3_isOver 19 = .ok (.aload_n 0, 1) := by decide +kernel
theorem dX3_isOver_20 : decode cX3_isOver 20 = .ok (.getfield 37, 3) := by decide +kernel
theorem dX3_isOver_23 : decode cX3_isOver 23 = .ok (.if_icmp .gt 16, 3) := by decide +kernel
theorem dX3_isOver_26 : decode cX3_isOver 26 = .ok (.aload_n 0, 1) := by decide +kernel
theorem dX3_isOver_27 : decode cX3_isOver 27 = .ok (.iconst 2, 1) := by decide +kernel
theorem dX3_isOver_28 : decode cX3_isOver 28 = .ok (.iconst 0, 1) := by decide +kernel
theorem dX3_isOver_29 : decode cX3_isOver 29 = .ok (.invokevirtual 74, 3) := by decide +kernel
theorem dX3_isOver_32 : decode cX3_isOver 32 = .ok (.aload_n 0, 1) := by decide +kernel
theorem dX3_isOver_33 : decode cX3_isOver 33 = .ok (.getfield 37, 3) := by decide +kernel
theorem dX3_isOver_36 : decode cX3_isOver 36 = .ok (.if_icmp .le 7, 3) := by decide +kernel
theorem dX3_isOver_39 : decode cX3_isOver 39 = .ok (.iconst 1, 1) := by decide +kernel
theorem dX3_isOver_40 : decode cX3_isOver 40 = .ok (.goto 4, 3) := by decide +kernel
theorem dX3_isOver_43 : decode cX3_isOver 43 = .ok (.iconst 0, 1) := by decide +kernel
theorem dX3_isOver_44 : decode cX3_isOver 44 = .ok (.ireturn, 1) := by decide +kernel
set_option maxRecDepth 20000 in
theorem ggX3_endDay_X3_seenToday : GoodIn wsX3_endDay wsX3_seenToday := goodIn_r _ [11, 3, 6, 2, 12, 13, 14, 15, 16, 10, 17, 1, 18, 19, 20, 21, 22, 23, 24, 25, 26, 27, 28, 29, 30, 31, 32, 33] (by decide +kernel) (by decide +kernel)
set_option maxRecDepth 20000 in
theorem gX3_endDay_X3_seenToday : GoodIn wsX3_endDay (wsV RX3 74 RX3 yX3_seenToday wsX3_seenToday) := goodIn_app (goodIn_of _ (by decide +kernel)) ggX3_endDay_X3_seenToday
theorem dX3_endDay_0 : decode cX3_endDay 0 = .ok (.iconst 0, 1) := by decide +kernel
theorem dX3_endDay_1 : decode cX3_endDay 1 = .ok (.istore_n 1, 1) := by decide +kernel
theorem dX3_endDay_2 : decode cX3_endDay 2 = .ok (.iload_n 1, 1) := by decide +kernel
theorem dX3_endDay_3 : decode cX3_endDay 3 = .ok (.iconst 3, 1) := by decide +kernel
theorem dX3_endDay_4 : decode cX3_endDay 4 = .ok (.if_icmp .ge 81, 3) := by decide +kernel
theorem dX3_endDay_7 : decode cX3_endDay 7 = .ok (.aload_n 0, 1) := by decide +kernel
theorem dX3_endDay_8 : decode cX3_endDay 8 = .ok (.iload_n 1, 1) := by decide +kernel
theorem dX3_endDay_9 : decode cX3_endDay 9 = .ok (.iconst 0, 1) := by decide +kernel
theorem dX3_endDay_10 : decode cX3_endDay 10 = .ok (.invokevirtual 74, 3) := by decide +kernel
theorem dX3_endDay_13 : decode cX3_endDay 13 = .ok (.istore_n 2, 1) := by decide +kernel
theorem dX3_endDay_14 : decode cX3_endDay 14 = .ok (.iload_n 1, 1) := by decide +kernel
theorem dX3_endDay_15 : decode cX3_endDay 15 = .ok (.bipush 9, 2) := by decide +kernel
theorem dX3_endDay_17 : decode cX3_endDay 17 = .ok (.imul, 1) := by decide +kernel
theorem dX3_endDay_18 : decode cX3_endDay 18 = .ok (.istore_n 3, 1) := by decide +kernel
theorem dX3_endDay_19 : decode cX3_endDay 19 = .ok (.bipush 8, 2) := by decide +kernel
theorem dX3_endDay_21 : decode cX3_endDay 21 = .ok (.istore 4, 2) := by decide +kernel
theorem dX3_endDay_23 : decode cX3_endDay 23 = .ok (.iload 4, 2) := by decide +kernel
theorem dX3_endDay_25 : decode cX3_endDay 25 = .ok (.ifCond .le 40, 3) := by decide +kernel
theorem dX3_endDay_28 : decode cX3_endDay 28 = .ok (.aload_n 0, 1) := by decide +kernel
theorem dX3_endDay_29 : decode cX3_endDay 29 = .ok (.getfield 21, 3) := by decide +kernel
theorem dX3_endDay_32 : decode cX3_endDay 32 = .ok (.iload_n 3, 1) := by decide +kernel
theorem dX3_endDay_33 : decode cX3_endDay 33 = .ok (.iload 4, 2) := by decide +kernel
theorem dX3_endDay_35 : decode cX3_endDay 35 = .ok (.iadd, 1) := by decide +kernel
theorem dX3_endDay_36 : decode cX3_endDay 36 = .ok (.aload_n 0, 1) := by decide +kernel
theorem dX3_endDay_37 : decode cX3_endDay 37 = .ok (.getfield 50, 3) := by decide +kernel
theorem dX3_endDay_40 : decode cX3_endDay 40 = .ok (.ifCond .eq 7, 3) := by decide +kernel
theorem dX3_endDay_43 : decode cX3_endDay 43 = .ok (.iconst 0, 1) := by decide +kernel
theorem dX3_endDay_44 : decode cX3_endDay 44 = .ok (.goto 14, 3) := by decide +kernel
theorem dX3_endDay_47 : decode cX3_endDay 47 = .ok (.aload_n 0, 1) := by decide +kernel
theorem dX3_endDay_48 : decode cX3_endDay 48 = .ok (.getfield 21, 3) := by decide +kernel
theorem dX3_endDay_51 : decode cX3_endDay 51 = .ok (.iload_n 3, 1) := by decide +kernel
theorem dX3_endDay_52 : decode cX3_endDay 52 = .ok (.iload 4, 2) := by decide +kernel
theorem dX3_endDay_54 : decode cX3_endDay 54 = .ok (.iadd, 1) := by decide +kernel
theorem dX3_endDay_55 : decode cX3_endDay 55 = .ok (.iconst 1, 1) := by decide +kernel
theorem dX3_endDay_56 : decode cX3_endDay 56 = .ok (.isub, 1) := by decide +kernel
theorem dX3_endDay_57 : decode cX3_endDay 57 = .ok (.iaload, 1) := by decide +kernel
theorem dX3_endDay_58 : decode cX3_endDay 58 = .ok (.iastore, 1) := by decide +kernel
theorem dX3_endDay_59 : decode cX3_endDay 59 = .ok (.iinc 4 (-1), 3) := by decide +kernel
theorem dX3_endDay_62 : decode cX3_endDay 62 = .ok (.goto (-39), 3) := by decide +kernel
theorem dX3_endDay_65 : decode cX3_endDay 65 = .ok (.aload_n 0, 1) := by decide +kernel
theorem dX3_endDay_66 : decode cX3_endDay 66 = .ok (.getfield 21, 3) := by decide +kernel
theorem dX3_endDay_69 : decode cX3_endDay 69 = .ok (.iload_n 3, 1) := by decide +kernel
theorem dX3_endDay_70 : decode cX3_endDay 70 = .ok (.iload_n 2, 1) := by decide +kernel
theorem dX3_endDay_71 : decode cX3_endDay 71 = .ok (.iastore, 1) := by decide +kernel
theorem dX3_endDay_72 : decode cX3_endDay 72 = .ok (.aload_n 0, 1) := by decide +kernel
theorem dX3_endDay_73 : decode cX3_endDay 73 = .ok (.getfield 24, 3) := by decide +kernel
theorem dX3_endDay_76 : decode cX3_endDay 76 = .ok (.iload_n 1, 1) := by decide +kernel
theorem dX3_endDay_77 : decode cX3_endDay 77 = .ok (.iconst 0, 1) := by decide +kernel
theorem dX3_endDay_78 : decode cX3_endDay 78 = .ok (.iastore, 1) := by decide +kernel
theorem dX3_endDay_79 : decode cX3_endDay 79 = .ok (.iinc 1 1, 3) := by decide +kernel
theorem dX3_endDay_82 : decode cX3_endDay 82 = .ok (.goto (-80), 3) := by decide +kernel
theorem dX3_endDay_85 : decode cX3_endDay 85 = .ok (.aload_n 0, 1) := by decide +kernel
theorem dX3_endDay_86 : decode cX3_endDay 86 = .ok (.dup, 1) := by decide +kernel
theorem dX3_endDay_87 : decode cX3_endDay 87 = .ok (.getfield 40, 3) := by decide +kernel
theorem dX3_endDay_90 : decode cX3_endDay 90 = .ok (.iconst 1, 1) := by decide +kernel
theorem dX3_endDay_91 : decode cX3_endDay 91 = .ok (.iadd, 1) := by decide +kernel
theorem dX3_endDay_92 : decode cX3_endDay 92 = .ok (.putfield 40, 3) := by decide +kernel
theorem dX3_endDay_95 : decode cX3_endDay 95 = .ok (.aload_n 0, 1) := by decide +kernel
theorem dX3_endDay_96 : decode cX3_endDay 96 = .ok (.iconst 0, 1) := by decide +kernel
theorem dX3_endDay_97 : decode cX3_endDay 97 = .ok (.putfield 43, 3) := by decide +kernel
theorem dX3_endDay_100 : decode cX3_endDay 100 = .ok (.aload_n 0, 1) := by decide +kernel
theorem dX3_endDay_101 : decode cX3_endDay 101 = .ok (.iconst 0, 1) := by decide +kernel
theorem dX3_endDay_102 : decode cX3_endDay 102 = .ok (.putfield 46, 3) := by decide +kernel
theorem dX3_endDay_105 : decode cX3_endDay 105 = .ok (.aload_n 0, 1) := by decide +kernel
theorem dX3_endDay_106 : decode cX3_endDay 106 = .ok (.iconst 0, 1) := by decide +kernel
theorem dX3_endDay_107 : decode cX3_endDay 107 = .ok (.putfield 50, 3) := by decide +kernel
theorem dX3_endDay_110 : decode cX3_endDay 110 = .ok (.return_, 1) := by decide +kernel
theorem dX3_draw_0 : decode cX3_draw 0 = .ok (.aload_n 0, 1) := by decide +kernel
theorem dX3_draw_1 : decode cX3_draw 1 = .ok (.iload_n 1, 1) := by decide +kernel
theorem dX3_draw_2 : decode cX3_draw 2 = .ok (.bipush 7, 2) := by decide +kernel
theorem dX3_draw_4 : decode cX3_draw 4 = .ok (.irem, 1) := by decide +kernel
theorem dX3_draw_5 : decode cX3_draw 5 = .ok (.ifCond .ne 7, 3) := by decide +kernel
theorem dX3_draw_8 : decode cX3_draw 8 = .ok (.iconst 1, 1) := by decide +kernel
theorem dX3_draw_9 : decode cX3_draw 9 = .ok (.goto 4, 3) := by decide +kernel
theorem dX3_draw_12 : decode cX3_draw 12 = .ok (.iconst 0, 1) := by decide +kernel
theorem dX3_draw_13 : decode cX3_draw 13 = .ok (.putfield 46, 3) := by decide +kernel
theorem dX3_draw_16 : decode cX3_draw 16 = .ok (.aload_n 0, 1) := by decide +kernel
theorem dX3_draw_17 : decode cX3_draw 17 = .ok (.iload_n 1, 1) := by decide +kernel
theorem dX3_draw_18 : decode cX3_draw 18 = .ok (.bipush 31, 2) := by decide +kernel
theorem dX3_draw_20 : decode cX3_draw 20 = .ok (.irem, 1) := by decide +kernel
theorem dX3_draw_21 : decode cX3_draw 21 = .ok (.ifCond .ne 7, 3) := by decide +kernel
theorem dX3_draw_24 : decode cX3_draw 24 = .ok (.iconst 1, 1) := by decide +kernel
theorem dX3_draw_25 : decode cX3_draw 25 = .ok (.goto 4, 3) := by decide +kernel
theorem dX3_draw_28 : decode cX3_draw 28 = .ok (.iconst 0, 1) := by decide +kernel
theorem dX3_draw_29 : decode cX3_draw 29 = .ok (.putfield 50, 3) := by decide +kernel
theorem dX3_draw_32 : decode cX3_draw 32 = .ok (.aload_n 0, 1) := by decide +kernel
theorem dX3_draw_33 : decode cX3_draw 33 = .ok (.getfield 24, 3) := by decide +kernel
theorem dX3_draw_36 : decode cX3_draw 36 = .ok (.iload_n 1, 1) := by decide +kernel
theorem dX3_draw_37 : decode cX3_draw 37 = .ok (.iconst 3, 1) := by decide +kernel
theorem dX3_draw_38 : decode cX3_draw 38 = .ok (.irem, 1) := by decide +kernel
theorem dX3_draw_39 : decode cX3_draw 39 = .ok (.iload_n 1, 1) := by decide +kernel
theorem dX3_draw_40 : decode cX3_draw 40 = .ok (.bipush 7, 2) := by decide +kernel
theorem dX3_draw_42 : decode cX3_draw 42 = .ok (.idiv, 1) := by decide +kernel
theorem dX3_draw_43 : decode cX3_draw 43 = .ok (.bipush 100, 2) := by decide +kernel
theorem dX3_draw_45 : decode cX3_draw 45 = .ok (.irem, 1) := by decide +kernel
theorem dX3_draw_46 : decode cX3_draw 46 = .ok (.iastore, 1) := by decide +kernel
theorem dX3_draw_47 : decode cX3_draw 47 = .ok (.return_, 1) := by decide +kernel
set_option maxRecDepth 20000 in
theorem ggX3_hindrance_X5_colourOf : GoodIn wsX3_hindrance wsX5_colourOf := goodIn_r _ [7] (by decide +kernel) (by decide +kernel)
set_option maxRecDepth 20000 in
theorem gX3_hindrance_X5_colourOf : GoodIn wsX3_hindrance (va_wsS RX3 82 yX5_colourOf wsX5_colourOf) := goodIn_app (goodIn_of _ (by decide +kernel)) ggX3_hindrance_X5_colourOf
set_option maxRecDepth 20000 in
theorem ggX3_hindrance_X5_dressOf : GoodIn wsX3_hindrance wsX5_dressOf := goodIn_r _ [10] (by decide +kernel) (by decide +kernel)
set_option maxRecDepth 20000 in
theorem gX3_hindrance_X5_dressOf : GoodIn wsX3_hindrance (va_wsS RX3 87 yX5_dressOf wsX5_dressOf) := goodIn_app (goodIn_of _ (by decide +kernel)) ggX3_hindrance_X5_dressOf
set_option maxRecDepth 20000 in
theorem ggX3_hindrance_X3_hindranceOfDress : GoodIn wsX3_hindrance wsX3_hindranceOfDress := goodIn_r _ [15, 1, 16, 17, 18, 19, 14, 20, 21, 22, 23, 24, 30, 31, 32, 33, 34, 35, 36, 37, 38, 39, 40, 41, 42] (by decide +kernel) (by decide +kernel)
set_option maxRecDepth 20000 in
theorem gX3_hindrance_X3_hindranceOfDress : GoodIn wsX3_hindrance (wsV RX3 90 RX3 yX3_hindranceOfDress wsX3_hindranceOfDress) := goodIn_app (goodIn_of _ (by decide +kernel)) ggX3_hindrance_X3_hindranceOfDress
set_option maxRecDepth 20000 in
theorem ggX3_hindrance_X6_isWall : GoodIn wsX3_hindrance wsX6_isWall := goodIn_r _ [26, 27, 28, 23, 29] (by decide +kernel) (by decide +kernel)
set_option maxRecDepth 20000 in
theorem gX3_hindrance_X6_isWall_n93 : GoodIn wsX3_hindrance (wsX6_isWall) := ggX3_hindrance_X6_isWall
theorem dX3_hindrance_0 : decode cX3_hindrance 0 = .ok (.iload_n 1, 1) := by decide +kernel
theorem dX3_hindrance_1 : decode cX3_hindrance 1 = .ok (.invokestatic 82, 3) := by decide +kernel
theorem dX3_hindrance_4 : decode cX3_hindrance 4 = .ok (.istore_n 3, 1) := by decide +kernel
theorem dX3_hindrance_5 : decode cX3_hindrance 5 = .ok (.iload_n 3, 1) := by decide +kernel
theorem dX3_hindrance_6 : decode cX3_hindrance 6 = .ok (.bipush (-6), 2) := by decide +kernel
theorem dX3_hindrance_8 : decode cX3_hindrance 8 = .ok (.if_icmp .eq 26, 3) := by decide +kernel
theorem dX3_hindrance_11 : decode cX3_hindrance 11 = .ok (.aload_n 0, 1) := by decide +kernel
theorem dX3_hindrance_12 : decode cX3_hindrance 12 = .ok (.getfield 24, 3) := by decide +kernel
theorem dX3_hindrance_15 : decode cX3_hindrance 15 = .ok (.iload_n 3, 1) := by decide +kernel
theorem dX3_hindrance_16 : decode cX3_hindrance 16 = .ok (.iaload, 1) := by decide +kernel
theorem dX3_hindrance_17 : decode cX3_hindrance 17 = .ok (.bipush 10, 2) := by decide +kernel
theorem dX3_hindrance_19 : decode cX3_hindrance 19 = .ok (.iload_n 2, 1) := by decide +kernel
theorem dX3_hindrance_20 : decode cX3_hindrance 20 = .ok (.imul, 1) := by decide +kernel
theorem dX3_hindrance_21 : decode cX3_hindrance 21 = .ok (.iadd, 1) := by decide +kernel
theorem dX3_hindrance_22 : decode cX3_hindrance 22 = .ok (.sipush 999, 3) := by decide +kernel
theorem dX3_hindrance_25 : decode cX3_hindrance 25 = .ok (.if_icmp .le 7, 3) := by decide +kernel
theorem dX3_hindrance_28 : decode cX3_hindrance 28 = .ok (.iconst 1, 1) := by decide +kernel
theorem dX3_hindrance_29 : decode cX3_hindrance 29 = .ok (.goto 4, 3) := by decide +kernel
theorem dX3_hindrance_32 : decode cX3_hindrance 32 = .ok (.iconst 0, 1) := by decide +kernel
theorem dX3_hindrance_33 : decode cX3_hindrance 33 = .ok (.ireturn, 1) := by decide +kernel
theorem dX3_hindrance_34 : decode cX3_hindrance 34 = .ok (.iload_n 1, 1) := by decide +kernel
theorem dX3_hindrance_35 : decode cX3_hindrance 35 = .ok (.invokestatic 87, 3) := by decide +kernel
theorem dX3_hindrance_38 : decode cX3_hindrance 38 = .ok (.istore 4, 2) := by decide +kernel
theorem dX3_hindrance_40 : decode cX3_hindrance 40 = .ok (.iload 4, 2) := by decide +kernel
theorem dX3_hindrance_42 : decode cX3_hindrance 42 = .ok (.bipush (-6), 2) := by decide +kernel
theorem dX3_hindrance_44 : decode cX3_hindrance 44 = .ok (.if_icmp .eq 10, 3) := by decide +kernel
theorem dX3_hindrance_47 : decode cX3_hindrance 47 = .ok (.aload_n 0, 1) := by decide +kernel
theorem dX3_hindrance_48 : decode cX3_hindrance 48 = .ok (.iload 4, 2) := by decide +kernel
theorem dX3_hindrance_50 : decode cX3_hindrance 50 = .ok (.invokevirtual 90, 3) := by decide +kernel
theorem dX3_hindrance_53 : decode cX3_hindrance 53 = .ok (.ireturn, 1) := by decide +kernel
theorem dX3_hindrance_54 : decode cX3_hindrance 54 = .ok (.iload_n 1, 1) := by decide +kernel
theorem dX3_hindrance_55 : decode cX3_hindrance 55 = .ok (.bipush 119, 2) := by decide +kernel
theorem dX3_hindrance_57 : decode cX3_hindrance 57 = .ok (.if_icmp .ne 25, 3) := by decide +kernel
theorem dX3_hindrance_60 : decode cX3_hindrance 60 = .ok (.iload_n 2, 1) := by decide +kernel
theorem dX3_hindrance_61 : decode cX3_hindrance 61 = .ok (.invokestatic 93, 3) := by decide +kernel
theorem dX3_hindrance_64 : decode cX3_hindrance 64 = .ok (.ifCond .eq 16, 3) := by decide +kernel
theorem dX3_hindrance_67 : decode cX3_hindrance 67 = .ok (.aload_n 0, 1) := by decide +kernel
theorem dX3_hindrance_68 : decode cX3_hindrance 68 = .ok (.getfield 15, 3) := by decide +kernel
theorem dX3_hindrance_71 : decode cX3_hindrance 71 = .ok (.iload_n 2, 1) := by decide +kernel
theorem dX3_hindrance_72 : decode cX3_hindrance 72 = .ok (.iaload, 1) := by decide +kernel
theorem dX3_hindrance_73 : decode cX3_hindrance 73 = .ok (.ifCond .le 7, 3) := by decide +kernel
theorem dX3_hindrance_76 : decode cX3_hindrance 76 = .ok (.iconst 0, 1) := by decide +kernel
theorem dX3_hindrance_77 : decode cX3_hindrance 77 = .ok (.goto 4, 3) := by decide +kernel
theorem dX3_hindrance_80 : decode cX3_hindrance 80 = .ok (.iconst 3, 1) := by decide +kernel
theorem dX3_hindrance_81 : decode cX3_hindrance 81 = .ok (.ireturn, 1) := by decide +kernel
theorem dX3_hindrance_82 : decode cX3_hindrance 82 = .ok (.iload_n 1, 1) := by decide +kernel
theorem dX3_hindrance_83 : decode cX3_hindrance 83 = .ok (.bipush 46, 2) := by decide +kernel
theorem dX3_hindrance_85 : decode cX3_hindrance 85 = .ok (.if_icmp .ne 16, 3) := by decide +kernel
theorem dX3_hindrance_88 : decode cX3_hindrance 88 = .ok (.aload_n 0, 1) := by decide +kernel
theorem dX3_hindrance_89 : decode cX3_hindrance 89 = .ok (.getfield 40, 3) := by decide +kernel
theorem dX3_hindrance_92 : decode cX3_hindrance 92 = .ok (.bipush 99, 2) := by decide +kernel
theorem dX3_hindrance_94 : decode cX3_hindrance 94 = .ok (.if_icmp .lt 7, 3) := by decide +kernel
theorem dX3_hindrance_97 : decode cX3_hindrance 97 = .ok (.iconst 4, 1) := by decide +kernel
theorem dX3_hindrance_98 : decode cX3_hindrance 98 = .ok (.goto 4, 3) := by decide +kernel
theorem dX3_hindrance_101 : decode cX3_hindrance 101 = .ok (.iconst 0, 1) := by decide +kernel
theorem dX3_hindrance_102 : decode cX3_hindrance 102 = .ok (.ireturn, 1) := by decide +kernel
set_option maxRecDepth 20000 in
theorem ggX3_hindranceOfDress_X3_worth : GoodIn wsX3_hindranceOfDress wsX3_worth := goodIn_r _ [7, 8, 12, 13, 14, 15, 16, 17, 18, 19, 20, 21, 22, 23, 24] (by decide +kernel) (by decide +kernel)
set_option maxRecDepth 20000 in
theorem gX3_hindranceOfDress_X3_worth : GoodIn wsX3_hindranceOfDress (wsV RX3 63 RX3 yX3_worth wsX3_worth) := goodIn_app (goodIn_of _ (by decide +kernel)) ggX3_hindranceOfDress_X3_worth
set_option maxRecDepth 20000 in
theorem ggX3_hindranceOfDress_X6_has : GoodIn wsX3_hindranceOfDress wsX6_has := goodIn_r _ [11] (by decide +kernel) (by decide +kernel)
set_option maxRecDepth 20000 in
theorem gX3_hindranceOfDress_X6_has_n59 : GoodIn wsX3_hindranceOfDress (wsX6_has) := ggX3_hindranceOfDress_X6_has
theorem dX3_hindranceOfDress_0 : decode cX3_hindranceOfDress 0 = .ok (.iconst 0, 1) := by decide +kernel
theorem dX3_hindranceOfDress_1 : decode cX3_hindranceOfDress 1 = .ok (.istore_n 2, 1) := by decide +kernel
theorem dX3_hindranceOfDress_2 : decode cX3_hindranceOfDress 2 = .ok (.iload_n 2, 1) := by decide +kernel
theorem dX3_hindranceOfDress_3 : decode cX3_hindranceOfDress 3 = .ok (.iconst 3, 1) := by decide +kernel
theorem dX3_hindranceOfDress_4 : decode cX3_hindranceOfDress 4 = .ok (.if_icmp .ge 30, 3) := by decide +kernel
theorem dX3_hindranceOfDress_7 : decode cX3_hindranceOfDress 7 = .ok (.aload_n 0, 1) := by decide +kernel
theorem dX3_hindranceOfDress_8 : decode cX3_hindranceOfDress 8 = .ok (.getfield 24, 3) := by decide +kernel
theorem dX3_hindranceOfDress_11 : decode cX3_hindranceOfDress 11 = .ok (.iload_n 2, 1) := by decide +kernel
theorem dX3_hindranceOfDress_12 : decode cX3_hindranceOfDress 12 = .ok (.iaload, 1) := by decide +kernel
theorem dX3_hindranceOfDress_13 : decode cX3_hindranceOfDress 13 = .ok (.aload_n 0, 1) := by decide +kernel
theorem dX3_hindranceOfDress_14 : decode cX3_hindranceOfDress 14 = .ok (.iload_n 1, 1) := by decide +kernel
theorem dX3_hindranceOfDress_15 : decode cX3_hindranceOfDress 15 = .ok (.iload_n 2, 1) := by decide +kernel
theorem dX3_hindranceOfDress_16 : decode cX3_hindranceOfDress 16 = .ok (.invokevirtual 63, 3) := by decide +kernel
theorem dX3_hindranceOfDress_19 : decode cX3_hindranceOfDress 19 = .ok (.iadd, 1) := by decide +kernel
theorem dX3_hindranceOfDress_20 : decode cX3_hindranceOfDress 20 = .ok (.sipush 999, 3) := by decide +kernel
theorem dX3_hindranceOfDress_23 : decode cX3_hindranceOfDress 23 = .ok (.if_icmp .le 5, 3) := by decide +kernel
theorem dX3_hindranceOfDress_26 : decode cX3_hindranceOfDress 26 = .ok (.iconst 1, 1) := by decide +kernel
theorem dX3_hindranceOfDress_27 : decode cX3_hindranceOfDress 27 = .ok (.ireturn, 1) := by decide +kernel
theorem dX3_hindranceOfDress_28 : decode cX3_hindranceOfDress 28 = .ok (.iinc 2 1, 3) := by decide +kernel
theorem dX3_hindranceOfDress_31 : decode cX3_hindranceOfDress 31 = .ok (.goto (-29), 3) := by decide +kernel
theorem dX3_hindranceOfDress_34 : decode cX3_hindranceOfDress 34 = .ok (.aload_n 0, 1) := by decide +kernel
theorem dX3_hindranceOfDress_35 : decode cX3_hindranceOfDress 35 = .ok (.getfield 43, 3) := by decide +kernel
theorem dX3_hindranceOfDress_38 : decode cX3_hindranceOfDress 38 = .ok (.iload_n 1, 1) := by decide +kernel
theorem dX3_hindranceOfDress_39 : decode cX3_hindranceOfDress 39 = .ok (.invokestatic 59, 3) := by decide +kernel
theorem dX3_hindranceOfDress_42 : decode cX3_hindranceOfDress 42 = .ok (.ifCond .eq 7, 3) := by decide +kernel
theorem dX3_hindranceOfDress_45 : decode cX3_hindranceOfDress 45 = .ok (.iconst 2, 1) := by decide +kernel
theorem dX3_hindranceOfDress_46 : decode cX3_hindranceOfDress 46 = .ok (.goto 4, 3) := by decide +kernel
theorem dX3_hindranceOfDress_49 : decode cX3_hindranceOfDress 49 = .ok (.iconst 0, 1) := by decide +kernel
theorem dX3_hindranceOfDress_50 : decode cX3_hindranceOfDress 50 = .ok (.ireturn, 1) := by decide +kernel
set_option maxRecDepth 20000 in
theorem ggX3_act_X5_colourOf : GoodIn wsX3_act wsX5_colourOf := goodIn_r _ [8] (by decide +kernel) (by decide +kernel)
set_option maxRecDepth 20000 in
theorem gX3_act_X5_colourOf : GoodIn wsX3_act (va_wsS RX3 82 yX5_colourOf wsX5_colourOf) := goodIn_app (goodIn_of _ (by decide +kernel)) ggX3_act_X5_colourOf
set_option maxRecDepth 20000 in
theorem ggX3_act_X5_dressOf : GoodIn wsX3_act wsX5_dressOf := goodIn_r _ [11] (by decide +kernel) (by decide +kernel)
set_option maxRecDepth 20000 in
theorem gX3_act_X5_dressOf : GoodIn wsX3_act (va_wsS RX3 87 yX5_dressOf wsX5_dressOf) := goodIn_app (goodIn_of _ (by decide +kernel)) ggX3_act_X5_dressOf
set_option maxRecDepth 20000 in
theorem ggX3_act_X3_wear : GoodIn wsX3_act wsX3_wear := goodIn_r _ [16, 1, 17, 18, 19, 20, 15, 21, 22, 46, 47, 48, 49, 50, 51, 52, 53, 54, 55, 56, 57, 58] (by decide +kernel) (by decide +kernel)
set_option maxRecDepth 20000 in
theorem gX3_act_X3_wear : GoodIn wsX3_act (wsV RX3 97 RX3 yX3_wear wsX3_wear) := goodIn_app (goodIn_of _ (by decide +kernel)) ggX3_act_X3_wear
set_option maxRecDepth 20000 in
theorem ggX3_act_X3_endDay : GoodIn wsX3_act wsX3_endDay := goodIn_r _ [26, 27, 3, 1, 28, 17, 2, 29, 30, 31, 15, 32, 33, 4, 34, 35, 36, 37, 38, 39, 40, 46, 47, 48, 49, 50, 51, 52, 53, 54, 55, 56, 57, 58] (by decide +kernel) (by decide +kernel)
set_option maxRecDepth 20000 in
theorem gX3_act_X3_endDay : GoodIn wsX3_act (wsV RX3 101 RX3 yX3_endDay wsX3_endDay) := goodIn_app (goodIn_of _ (by decide +kernel)) ggX3_act_X3_endDay
set_option maxRecDepth 20000 in
theorem ggX3_act_X6_isWall : GoodIn wsX3_act wsX6_isWall := goodIn_r _ [42, 43, 44, 39, 45] (by decide +kernel) (by decide +kernel)
set_option maxRecDepth 20000 in
theorem gX3_act_X6_isWall_n93 : GoodIn wsX3_act (wsX6_isWall) := ggX3_act_X6_isWall
theorem dX3_act_0 : decode cX3_act 0 = .ok (.iload_n 1, 1) := by decide +kernel
theorem dX3_act_1 : decode cX3_act 1 = .ok (.invokestatic 82, 3) := by decide +kernel
theorem dX3_act_4 : decode cX3_act 4 = .ok (.istore_n 3, 1) := by decide +kernel
theorem dX3_act_5 : decode cX3_act 5 = .ok (.iload_n 1, 1) := by decide +kernel
theorem dX3_act_6 : decode cX3_act 6 = .ok (.invokestatic 87, 3) := by decide +kernel
theorem dX3_act_9 : decode cX3_act 9 = .ok (.istore 4, 2) := by decide +kernel
theorem dX3_act_11 : decode cX3_act 11 = .ok (.iload_n 3, 1) := by decide +kernel
theorem dX3_act_12 : decode cX3_act 12 = .ok (.bipush (-6), 2) := by decide +kernel
theorem dX3_act_14 : decode cX3_act 14 = .ok (.if_icmp .eq 19, 3) := by decide +kernel
theorem dX3_act_17 : decode cX3_act 17 = .ok (.aload_n 0, 1) := by decide +kernel
theorem dX3_act_18 : decode cX3_act 18 = .ok (.getfield 24, 3) := by decide +kernel
theorem dX3_act_21 : decode cX3_act 21 = .ok (.iload_n 3, 1) := by decide +kernel
theorem dX3_act_22 : decode cX3_act 22 = .ok (.dup2, 1) := by decide +kernel
theorem dX3_act_23 : decode cX3_act 23 = .ok (.iaload, 1) := by decide +kernel
theorem dX3_act_24 : decode cX3_act 24 = .ok (.bipush 10, 2) := by decide +kernel
theorem dX3_act_26 : decode cX3_act 26 = .ok (.iload_n 2, 1) := by decide +kernel
theorem dX3_act_27 : decode cX3_act 27 = .ok (.imul, 1) := by decide +kernel
theorem dX3_act_28 : decode cX3_act 28 = .ok (.iadd, 1) := by decide +kernel
theorem dX3_act_29 : decode cX3_act 29 = .ok (.iastore, 1) := by decide +kernel
