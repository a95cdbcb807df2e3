theorem dX7_barOfDays_8 : decode cX7_barOfDays 8 = .ok (.invokevirtual 138, 3) := by decide +kernel
theorem dX7_barOfDays_11 : decode cX7_barOfDays 11 = .ok (.ifCond .lt 8, 3) := by decide +kernel
theorem dX7_barOfDays_14 : decode cX7_barOfDays 14 = .ok (.bipush (-5), 2) := by decide +kernel
theorem dX7_barOfDays_16 : decode cX7_barOfDays 16 = .ok (.goto 4, 3) := by decide +kernel
theorem dX7_barOfDays_19 : decode cX7_barOfDays 19 = .ok (.iconst 0, 1) := by decide +kernel
theorem dX7_barOfDays_20 : decode cX7_barOfDays 20 = .ok (.ireturn, 1) := by decide +kernel
set_option maxRecDepth 20000 in
theorem ggX7_done_X7_barOfDays : GoodIn wsX7_done wsX7_barOfDays := goodIn_r _ [21, 22, 23, 24, 20, 25, 15, 26, 27, 28, 29, 30, 31, 32, 33, 34, 35, 36, 16, 37, 38, 2, 6, 7, 9, 13, 11, 39, 40, 41, 42, 1, 4, 3, 5, 8, 10, 12, 14, 43, 44, 45, 46, 47, 48, 49, 50, 51, 52, 53, 54, 55, 56, 57, 58, 59, 60, 61, 62, 63, 64, 65, 66, 67, 68, 69, 70, 71, 72, 73, 74, 75, 76, 77, 78, 79, 80, 81, 82, 83, 84, 85, 86, 87, 88, 89, 90, 91, 92, 93, 94, 95, 96, 97, 98, 99, 100, 101, 102] (by decide +kernel) (by decide +kernel)
set_option maxRecDepth 20000 in
theorem gX7_done_X7_barOfDays : GoodIn wsX7_done (wsV RX7 141 RX7 yX7_barOfDays wsX7_barOfDays) := goodIn_app (goodIn_of _ (by decide +kernel)) ggX7_done_X7_barOfDays
theorem dX7_done_0 : decode cX7_done 0 = .ok (.aload_n 0, 1) := by decide +kernel
theorem dX7_done_1 : decode cX7_done 1 = .ok (.invokevirtual 141, 3) := by decide +kernel
theorem dX7_done_4 : decode cX7_done 4 = .ok (.ifCond .ge 6, 3) := by decide +kernel
theorem dX7_done_7 : decode cX7_done 7 = .ok (.bipush (-5), 2) := by decide +kernel
theorem dX7_done_9 : decode cX7_done 9 = .ok (.ireturn, 1) := by decide +kernel
theorem dX7_done_10 : decode cX7_done 10 = .ok (.iconst 0, 1) := by decide +kernel
theorem dX7_done_11 : decode cX7_done 11 = .ok (.istore_n 1, 1) := by decide +kernel
theorem dX7_done_12 : decode cX7_done 12 = .ok (.iload_n 1, 1) := by decide +kernel
theorem dX7_done_13 : decode cX7_done 13 = .ok (.iconst 3, 1) := by decide +kernel
theorem dX7_done_14 : decode cX7_done 14 = .ok (.if_icmp .ge 21, 3) := by decide +kernel
theorem dX7_done_17 : decode cX7_done 17 = .ok (.aload_n 0, 1) := by decide +kernel
theorem dX7_done_18 : decode cX7_done 18 = .ok (.getfield 23, 3) := by decide +kernel
theorem dX7_done_21 : decode cX7_done 21 = .ok (.iload_n 1, 1) := by decide +kernel
theorem dX7_done_22 : decode cX7_done 22 = .ok (.aload_n 0, 1) := by decide +kernel
theorem dX7_done_23 : decode cX7_done 23 = .ok (.getfield 35, 3) := by decide +kernel
theorem dX7_done_26 : decode cX7_done 26 = .ok (.iload_n 1, 1) := by decide +kernel
theorem dX7_done_27 : decode cX7_done 27 = .ok (.iaload, 1) := by decide +kernel
theorem dX7_done_28 : decode cX7_done 28 = .ok (.iastore, 1) := by decide +kernel
theorem dX7_done_29 : decode cX7_done 29 = .ok (.iinc 1 1, 3) := by decide +kernel
theorem dX7_done_32 : decode cX7_done 32 = .ok (.goto (-20), 3) := by decide +kernel
theorem dX7_done_35 : decode cX7_done 35 = .ok (.iconst 0, 1) := by decide +kernel
theorem dX7_done_36 : decode cX7_done 36 = .ok (.istore_n 1, 1) := by decide +kernel
theorem dX7_done_37 : decode cX7_done 37 = .ok (.iload_n 1, 1) := by decide +kernel
theorem dX7_done_38 : decode cX7_done 38 = .ok (.bipush 27, 2) := by decide +kernel
theorem dX7_done_40 : decode cX7_done 40 = .ok (.if_icmp .ge 21, 3) := by decide +kernel
theorem dX7_done_43 : decode cX7_done 43 = .ok (.aload_n 0, 1) := by decide +kernel
theorem dX7_done_44 : decode cX7_done 44 = .ok (.getfield 26, 3) := by decide +kernel
theorem dX7_done_47 : decode cX7_done 47 = .ok (.iload_n 1, 1) := by decide +kernel
theorem dX7_done_48 : decode cX7_done 48 = .ok (.aload_n 0, 1) := by decide +kernel
theorem dX7_done_49 : decode cX7_done 49 = .ok (.getfield 38, 3) := by decide +kernel
theorem dX7_done_52 : decode cX7_done 52 = .ok (.iload_n 1, 1) := by decide +kernel
theorem dX7_done_53 : decode cX7_done 53 = .ok (.iaload, 1) := by decide +kernel
theorem dX7_done_54 : decode cX7_done 54 = .ok (.iastore, 1) := by decide +kernel
theorem dX7_done_55 : decode cX7_done 55 = .ok (.iinc 1 1, 3) := by decide +kernel
theorem dX7_done_58 : decode cX7_done 58 = .ok (.goto (-21), 3) := by decide +kernel
theorem dX7_done_61 : decode cX7_done 61 = .ok (.iconst 0, 1) := by decide +kernel
theorem dX7_done_62 : decode cX7_done 62 = .ok (.istore_n 1, 1) := by decide +kernel
theorem dX7_done_63 : decode cX7_done 63 = .ok (.iload_n 1, 1) := by decide +kernel
theorem dX7_done_64 : decode cX7_done 64 = .ok (.iconst 4, 1) := by decide +kernel
theorem dX7_done_65 : decode cX7_done 65 = .ok (.if_icmp .ge 21, 3) := by decide +kernel
theorem dX7_done_68 : decode cX7_done 68 = .ok (.aload_n 0, 1) := by decide +kernel
theorem dX7_done_69 : decode cX7_done 69 = .ok (.getfield 13, 3) := by decide +kernel
theorem dX7_done_72 : decode cX7_done 72 = .ok (.iload_n 1, 1) := by decide +kernel
theorem dX7_done_73 : decode cX7_done 73 = .ok (.aload_n 0, 1) := by decide +kernel
theorem dX7_done_74 : decode cX7_done 74 = .ok (.getfield 41, 3) := by decide +kernel
theorem dX7_done_77 : decode cX7_done 77 = .ok (.iload_n 1, 1) := by decide +kernel
theorem dX7_done_78 : decode cX7_done 78 = .ok (.iaload, 1) := by decide +kernel
theorem dX7_done_79 : decode cX7_done 79 = .ok (.iastore, 1) := by decide +kernel
theorem dX7_done_80 : decode cX7_done 80 = .ok (.iinc 1 1, 3) := by decide +kernel
theorem dX7_done_83 : decode cX7_done 83 = .ok (.goto (-20), 3) := by decide +kernel
theorem dX7_done_86 : decode cX7_done 86 = .ok (.aload_n 0, 1) := by decide +kernel
theorem dX7_done_87 : decode cX7_done 87 = .ok (.aload_n 0, 1) := by decide +kernel
theorem dX7_done_88 : decode cX7_done 88 = .ok (.getfield 81, 3) := by decide +kernel
theorem dX7_done_91 : decode cX7_done 91 = .ok (.putfield 78, 3) := by decide +kernel
theorem dX7_done_94 : decode cX7_done 94 = .ok (.aload_n 0, 1) := by decide +kernel
theorem dX7_done_95 : decode cX7_done 95 = .ok (.aload_n 0, 1) := by decide +kernel
theorem dX7_done_96 : decode cX7_done 96 = .ok (.getfield 87, 3) := by decide +kernel
theorem dX7_done_99 : decode cX7_done 99 = .ok (.putfield 84, 3) := by decide +kernel
theorem dX7_done_102 : decode cX7_done 102 = .ok (.aload_n 0, 1) := by decide +kernel
theorem dX7_done_103 : decode cX7_done 103 = .ok (.aload_n 0, 1) := by decide +kernel
theorem dX7_done_104 : decode cX7_done 104 = .ok (.getfield 93, 3) := by decide +kernel
theorem dX7_done_107 : decode cX7_done 107 = .ok (.putfield 90, 3) := by decide +kernel
theorem dX7_done_110 : decode cX7_done 110 = .ok (.aload_n 0, 1) := by decide +kernel
theorem dX7_done_111 : decode cX7_done 111 = .ok (.aload_n 0, 1) := by decide +kernel
theorem dX7_done_112 : decode cX7_done 112 = .ok (.getfield 99, 3) := by decide +kernel
theorem dX7_done_115 : decode cX7_done 115 = .ok (.putfield 96, 3) := by decide +kernel
theorem dX7_done_118 : decode cX7_done 118 = .ok (.aload_n 0, 1) := by decide +kernel
theorem dX7_done_119 : decode cX7_done 119 = .ok (.iconst 0, 1) := by decide +kernel
theorem dX7_done_120 : decode cX7_done 120 = .ok (.putfield 67, 3) := by decide +kernel
theorem dX7_done_123 : decode cX7_done 123 = .ok (.aload_n 0, 1) := by decide +kernel
theorem dX7_done_124 : decode cX7_done 124 = .ok (.getfield 122, 3) := by decide +kernel
theorem dX7_done_127 : decode cX7_done 127 = .ok (.ireturn, 1) := by decide +kernel
set_option maxRecDepth 20000 in
theorem ggX7_behind_X7_in : GoodIn wsX7_behind wsX7_in := goodIn_r _ [5] (by decide +kernel) (by decide +kernel)
set_option maxRecDepth 20000 in
theorem gX7_behind_X7_in : GoodIn wsX7_behind (va_wsS RX7 63 yX7_in wsX7_in) := goodIn_app (goodIn_of _ (by decide +kernel)) ggX7_behind_X7_in
set_option maxRecDepth 20000 in
theorem ggX7_behind_X7_barOfDays : GoodIn wsX7_behind wsX7_barOfDays := goodIn_r _ [9, 10, 11, 12, 4, 13, 14, 15, 16, 17, 18, 2, 3, 5, 19, 20, 21, 22, 23, 24, 25, 26, 27, 28, 29, 1, 30, 31, 32, 33, 34, 35, 36, 37, 38, 39, 40, 41, 42, 43, 44, 45, 46, 47, 48, 49, 50, 51, 52, 53, 54, 55, 56, 57, 58, 59, 60, 61, 62, 63, 64, 65, 66, 67, 68, 69, 70, 71, 72, 73, 74, 75, 76, 77, 78, 79, 80, 81, 82, 83, 84, 85, 86, 87, 88, 89, 90, 91, 92, 93, 94, 95, 96, 97, 98, 99, 100, 101, 102] (by decide +kernel) (by decide +kernel)
set_option maxRecDepth 20000 in
theorem gX7_behind_X7_barOfDays : GoodIn wsX7_behind (wsV RX7 141 RX7 yX7_barOfDays wsX7_barOfDays) := goodIn_app (goodIn_of _ (by decide +kernel)) ggX7_behind_X7_barOfDays
set_option maxRecDepth 20000 in
theorem ggX7_behind_X7_see : GoodIn wsX7_behind wsX7_see := goodIn_r _ [55, 26, 28, 29, 27, 36, 56, 73, 74, 75, 76, 77, 78, 79, 80, 81, 82, 83, 84, 85, 86, 87, 88, 89, 90, 91, 92, 93, 94, 95, 96, 97, 98, 99, 100, 101, 102] (by decide +kernel) (by decide +kernel)
set_option maxRecDepth 20000 in
theorem gX7_behind_X7_see : GoodIn wsX7_behind (wsV RX7 105 RX7 yX7_see wsX7_see) := goodIn_app (goodIn_of _ (by decide +kernel)) ggX7_behind_X7_see
theorem dX7_behind_0 : decode cX7_behind 0 = .ok (.iload_n 1, 1) := by decide +kernel
theorem dX7_behind_1 : decode cX7_behind 1 = .ok (.iconst 0, 1) := by decide +kernel
theorem dX7_behind_2 : decode cX7_behind 2 = .ok (.iconst 3, 1) := by decide +kernel
theorem dX7_behind_3 : decode cX7_behind 3 = .ok (.invokestatic 63, 3) := by decide +kernel
theorem dX7_behind_6 : decode cX7_behind 6 = .ok (.ifCond .ne 6, 3) := by decide +kernel
theorem dX7_behind_9 : decode cX7_behind 9 = .ok (.bipush (-2), 2) := by decide +kernel
theorem dX7_behind_11 : decode cX7_behind 11 = .ok (.ireturn, 1) := by decide +kernel
theorem dX7_behind_12 : decode cX7_behind 12 = .ok (.aload_n 0, 1) := by decide +kernel
theorem dX7_behind_13 : decode cX7_behind 13 = .ok (.invokevirtual 141, 3) := by decide +kernel
theorem dX7_behind_16 : decode cX7_behind 16 = .ok (.ifCond .ge 6, 3) := by decide +kernel
theorem dX7_behind_19 : decode cX7_behind 19 = .ok (.bipush (-5), 2) := by decide +kernel
theorem dX7_behind_21 : decode cX7_behind 21 = .ok (.ireturn, 1) := by decide +kernel
theorem dX7_behind_22 : decode cX7_behind 22 = .ok (.iload_n 1, 1) := by decide +kernel
theorem dX7_behind_23 : decode cX7_behind 23 = .ok (.iconst 3, 1) := by decide +kernel
theorem dX7_behind_24 : decode cX7_behind 24 = .ok (.if_icmp .ne 10, 3) := by decide +kernel
theorem dX7_behind_27 : decode cX7_behind 27 = .ok (.aload_n 0, 1) := by decide +kernel
theorem dX7_behind_28 : decode cX7_behind 28 = .ok (.getfield 99, 3) := by decide +kernel
theorem dX7_behind_31 : decode cX7_behind 31 = .ok (.goto 8, 3) := by decide +kernel
theorem dX7_behind_34 : decode cX7_behind 34 = .ok (.aload_n 0, 1) := by decide +kernel
theorem dX7_behind_35 : decode cX7_behind 35 = .ok (.iload_n 1, 1) := by decide +kernel
theorem dX7_behind_36 : decode cX7_behind 36 = .ok (.invokevirtual 105, 3) := by decide +kernel
theorem dX7_behind_39 : decode cX7_behind 39 = .ok (.ireturn, 1) := by decide +kernel
set_option maxRecDepth 20000 in
theorem ggX7_broken_X7_barOfDays : GoodIn wsX7_broken wsX7_barOfDays := goodIn_r _ [6, 7, 8, 9, 5, 10, 11, 12, 13, 14, 15, 16, 17, 18, 19, 20, 21, 22, 23, 1, 24, 25, 26, 27, 28, 29, 30, 31, 32, 33, 34, 35, 36, 37, 38, 39, 40, 41, 42, 43, 44, 45, 46, 47, 48, 49, 50, 51, 52, 53, 54, 55, 56, 57, 58, 59, 60, 61, 62, 63, 64, 65, 66, 67, 68, 69, 70, 71, 72, 73, 74, 75, 76, 77, 78, 79, 80, 81, 82, 83, 84, 85, 86, 87, 88, 89, 90, 91, 92, 93, 94, 95, 96, 97, 98, 99, 100, 101, 102] (by decide +kernel) (by decide +kernel)
set_option maxRecDepth 20000 in
theorem gX7_broken_X7_barOfDays : GoodIn wsX7_broken (wsV RX7 141 RX7 yX7_barOfDays wsX7_barOfDays) := goodIn_app (goodIn_of _ (by decide +kernel)) ggX7_broken_X7_barOfDays
theorem dX7_broken_0 : decode cX7_broken 0 = .ok (.aload_n 0, 1) := by decide +kernel
theorem dX7_broken_1 : decode cX7_broken 1 = .ok (.invokevirtual 141, 3) := by decide +kernel
theorem dX7_broken_4 : decode cX7_broken 4 = .ok (.ifCond .ge 8, 3) := by decide +kernel
theorem dX7_broken_7 : decode cX7_broken 7 = .ok (.bipush (-5), 2) := by decide +kernel
theorem dX7_broken_9 : decode cX7_broken 9 = .ok (.goto 7, 3) := by decide +kernel
theorem dX7_broken_12 : decode cX7_broken 12 = .ok (.aload_n 0, 1) := by decide +kernel
theorem dX7_broken_13 : decode cX7_broken 13 = .ok (.getfield 115, 3) := by decide +kernel
theorem dX7_broken_16 : decode cX7_broken 16 = .ok (.ireturn, 1) := by decide +kernel
set_option maxRecDepth 20000 in
theorem ggX7_sees_X7_in : GoodIn wsX7_sees wsX7_in := goodIn_r _ [4] (by decide +kernel) (by decide +kernel)
set_option maxRecDepth 20000 in
theorem gX7_sees_X7_in : GoodIn wsX7_sees (va_wsS RX7 63 yX7_in wsX7_in) := goodIn_app (goodIn_of _ (by decide +kernel)) ggX7_sees_X7_in
set_option maxRecDepth 20000 in
theorem ggX7_sees_X7_asNow : GoodIn wsX7_sees wsX7_asNow := goodIn_r _ [8, 9, 10, 11, 12, 13, 14, 15, 16, 17, 18, 19, 20, 21, 22, 28, 29, 30, 31, 32, 33, 34, 35, 36, 37, 38, 39, 40, 41, 42, 43, 44, 45, 46, 47, 48, 49, 50, 51, 52, 53, 54, 55, 56, 57] (by decide +kernel) (by decide +kernel)
set_option maxRecDepth 20000 in
theorem gX7_sees_X7_asNow : GoodIn wsX7_sees (wsV RX7 102 RX7 yX7_asNow wsX7_asNow) := goodIn_app (goodIn_of _ (by decide +kernel)) ggX7_sees_X7_asNow
set_option maxRecDepth 20000 in
theorem ggX7_sees_X7_see : GoodIn wsX7_sees wsX7_see := goodIn_r _ [26, 9, 16, 18, 13, 11, 27, 28, 29, 30, 31, 32, 33, 34, 35, 36, 37, 38, 39, 40, 41, 42, 43, 44, 45, 46, 47, 48, 49, 50, 51, 52, 53, 54, 55, 56, 57] (by decide +kernel) (by decide +kernel)
set_option maxRecDepth 20000 in
theorem gX7_sees_X7_see : GoodIn wsX7_sees (wsV RX7 105 RX7 yX7_see wsX7_see) := goodIn_app (goodIn_of _ (by decide +kernel)) ggX7_sees_X7_see
theorem dX7_sees_0 : decode cX7_sees 0 = .ok (.iload_n 1, 1) := by decide +kernel
theorem dX7_sees_1 : decode cX7_sees 1 = .ok (.iconst 0, 1) := by decide +kernel
theorem dX7_sees_2 : decode cX7_sees 2 = .ok (.iconst 2, 1) := by decide +kernel
theorem dX7_sees_3 : decode cX7_sees 3 = .ok (.invokestatic 63, 3) := by decide +kernel
theorem dX7_sees_6 : decode cX7_sees 6 = .ok (.ifCond .ne 6, 3) := by decide +kernel
theorem dX7_sees_9 : decode cX7_sees 9 = .ok (.bipush (-2), 2) := by decide +kernel
theorem dX7_sees_11 : decode cX7_sees 11 = .ok (.ireturn, 1) := by decide +kernel
theorem dX7_sees_12 : decode cX7_sees 12 = .ok (.aload_n 0, 1) := by decide +kernel
theorem dX7_sees_13 : decode cX7_sees 13 = .ok (.invokevirtual 102, 3) := by decide +kernel
theorem dX7_sees_16 : decode cX7_sees 16 = .ok (.aload_n 0, 1) := by decide +kernel
theorem dX7_sees_17 : decode cX7_sees 17 = .ok (.iload_n 1, 1) := by decide +kernel
theorem dX7_sees_18 : decode cX7_sees 18 = .ok (.invokevirtual 105, 3) := by decide +kernel
theorem dX7_sees_21 : decode cX7_sees 21 = .ok (.ireturn, 1) := by decide +kernel
set_option maxRecDepth 20000 in
theorem ggX7_isDay_X7_in : GoodIn wsX7_isDay wsX7_in := goodIn_r _ [4] (by decide +kernel) (by decide +kernel)
set_option maxRecDepth 20000 in
theorem gX7_isDay_X7_in : GoodIn wsX7_isDay (va_wsS RX7 63 yX7_in wsX7_in) := goodIn_app (goodIn_of _ (by decide +kernel)) ggX7_isDay_X7_in
theorem dX7_isDay_0 : decode cX7_isDay 0 = .ok (.iload_n 0, 1) := by decide +kernel
theorem dX7_isDay_1 : decode cX7_isDay 1 = .ok (.iconst 0, 1) := by decide +kernel
theorem dX7_isDay_2 : decode cX7_isDay 2 = .ok (.bipush 60, 2) := by decide +kernel
theorem dX7_isDay_4 : decode cX7_isDay 4 = .ok (.invokestatic 63, 3) := by decide +kernel
theorem dX7_isDay_7 : decode cX7_isDay 7 = .ok (.ireturn, 1) := by decide +kernel
set_option maxRecDepth 20000 in
theorem ggX7_forecast_X7_in : GoodIn wsX7_forecast wsX7_in := goodIn_r _ [4] (by decide +kernel) (by decide +kernel)
set_option maxRecDepth 20000 in
theorem gX7_forecast_X7_in : GoodIn wsX7_forecast (va_wsS RX7 63 yX7_in wsX7_in) := goodIn_app (goodIn_of _ (by decide +kernel)) ggX7_forecast_X7_in
set_option maxRecDepth 20000 in
theorem ggX7_forecast_X7_isDay : GoodIn wsX7_forecast wsX7_isDay := goodIn_r _ [7, 1, 2, 3, 4] (by decide +kernel) (by decide +kernel)
set_option maxRecDepth 20000 in
theorem gX7_forecast_X7_isDay : GoodIn wsX7_forecast (va_wsS RX7 144 yX7_isDay wsX7_isDay) := goodIn_app (goodIn_of _ (by decide +kernel)) ggX7_forecast_X7_isDay
set_option maxRecDepth 20000 in
theorem ggX7_forecast_X7_asNow : GoodIn wsX7_forecast wsX7_asNow := goodIn_r _ [11, 12, 13, 14, 15, 16, 17, 18, 19, 20, 21, 22, 23, 24, 25, 39, 40, 41, 42, 43, 44, 45, 46, 47, 48, 49, 50, 51, 52, 53, 54, 55, 56, 57, 58, 59, 60, 61, 62, 63, 64, 65, 66, 67, 68] (by decide +kernel) (by decide +kernel)
set_option maxRecDepth 20000 in
theorem gX7_forecast_X7_asNow : GoodIn wsX7_forecast (wsV RX7 102 RX7 yX7_asNow wsX7_asNow) := goodIn_app (goodIn_of _ (by decide +kernel)) ggX7_forecast_X7_asNow
set_option maxRecDepth 20000 in
theorem ggX7_forecast_X7_waits : GoodIn wsX7_forecast wsX7_waits := goodIn_r _ [29, 30, 31, 32, 3, 33, 14, 21, 12, 19, 23, 25, 34, 35, 36, 37, 16, 38, 39, 40, 41, 42, 43, 44, 45, 46, 47, 48, 49, 50, 51, 52, 53, 54, 55, 56, 57, 58, 59, 60, 61, 62, 63, 64, 65, 66, 67, 68] (by decide +kernel) (by decide +kernel)
set_option maxRecDepth 20000 in
theorem gX7_forecast_X7_waits : GoodIn wsX7_forecast (wsV RX7 148 RX7 yX7_waits wsX7_waits) := goodIn_app (goodIn_of _ (by decide +kernel)) ggX7_forecast_X7_waits
set_option maxRecDepth 20000 in
theorem ggX7_forecast_X7_see : GoodIn wsX7_forecast wsX7_see := goodIn_r _ [37, 12, 19, 21, 16, 14, 38, 39, 40, 41, 42, 43, 44, 45, 46, 47, 48, 49, 50, 51, 52, 53, 54, 55, 56, 57, 58, 59, 60, 61, 62, 63, 64, 65, 66, 67, 68] (by decide +kernel) (by decide +kernel)
set_option maxRecDepth 20000 in
theorem gX7_forecast_X7_see : GoodIn wsX7_forecast (wsV RX7 105 RX7 yX7_see wsX7_see) := goodIn_app (goodIn_of _ (by decide +kernel)) ggX7_forecast_X7_see
theorem dX7_forecast_0 : decode cX7_forecast 0 = .ok (.iload_n 1, 1) := by decide +kernel
theorem dX7_forecast_1 : decode cX7_forecast 1 = .ok (.iconst 0, 1) := by decide +kernel
theorem dX7_forecast_2 : decode cX7_forecast 2 = .ok (.iconst 2, 1) := by decide +kernel
theorem dX7_forecast_3 : decode cX7_forecast 3 = .ok (.invokestatic 63, 3) := by decide +kernel
theorem dX7_forecast_6 : decode cX7_forecast 6 = .ok (.ifCond .eq 10, 3) := by decide +kernel
theorem dX7_forecast_9 : decode cX7_forecast 9 = .ok (.iload_n 2, 1) := by decide +kernel
theorem dX7_forecast_10 : decode cX7_forecast 10 = .ok (.invokestatic 144, 3) := by decide +kernel
theorem dX7_forecast_13 : decode cX7_forecast 13 = .ok (.ifCond .ne 6, 3) := by decide +kernel
theorem dX7_forecast_16 : decode cX7_forecast 16 = .ok (.bipush (-2), 2) := by decide +kernel
theorem dX7_forecast_18 : decode cX7_forecast 18 = .ok (.ireturn, 1) := by decide +kernel
theorem dX7_forecast_19 : decode cX7_forecast 19 = .ok (.aload_n 0, 1) := by decide +kernel
theorem dX7_forecast_20 : decode cX7_forecast 20 = .ok (.invokevirtual 102, 3) := by decide +kernel
theorem dX7_forecast_23 : decode cX7_forecast 23 = .ok (.aload_n 0, 1) := by decide +kernel
theorem dX7_forecast_24 : decode cX7_forecast 24 = .ok (.iload_n 2, 1) := by decide +kernel
theorem dX7_forecast_25 : decode cX7_forecast 25 = .ok (.invokevirtual 148, 3) := by decide +kernel
theorem dX7_forecast_28 : decode cX7_forecast 28 = .ok (.aload_n 0, 1) := by decide +kernel
theorem dX7_forecast_29 : decode cX7_forecast 29 = .ok (.iload_n 1, 1) := by decide +kernel
theorem dX7_forecast_30 : decode cX7_forecast 30 = .ok (.invokevirtual 105, 3) := by decide +kernel
theorem dX7_forecast_33 : decode cX7_forecast 33 = .ok (.ireturn, 1) := by decide +kernel
set_option maxRecDepth 20000 in
theorem ggX7_gone_X7_asNow : GoodIn wsX7_gone wsX7_asNow := goodIn_r _ [5, 6, 7, 8, 9, 10, 11, 12, 13, 14, 15, 16, 17, 18, 19, 33, 34, 35, 36, 37, 38, 39, 40, 41, 42, 43, 44, 45, 46, 47, 48, 49, 50, 51, 52, 53, 54, 55, 56, 57, 58, 59, 60, 61, 62] (by decide +kernel) (by decide +kernel)
set_option maxRecDepth 20000 in
theorem gX7_gone_X7_asNow : GoodIn wsX7_gone (wsV RX7 102 RX7 yX7_asNow wsX7_asNow) := goodIn_app (goodIn_of _ (by decide +kernel)) ggX7_gone_X7_asNow
set_option maxRecDepth 20000 in
theorem ggX7_gone_X7_seeAll : GoodIn wsX7_gone wsX7_seeAll := goodIn_r _ [23, 24, 25, 26, 4, 27, 6, 13, 15, 10, 8, 28, 33, 34, 35, 36, 37, 38, 39, 40, 41, 42, 43, 44, 45, 46, 47, 48, 49, 50, 51, 52, 53, 54, 55, 56, 57, 58, 59, 60, 61, 62] (by decide +kernel) (by decide +kernel)
set_option maxRecDepth 20000 in
theorem gX7_gone_X7_seeAll : GoodIn wsX7_gone (wsV RX7 151 RX7 yX7_seeAll wsX7_seeAll) := goodIn_app (goodIn_of _ (by decide +kernel)) ggX7_gone_X7_seeAll
set_option maxRecDepth 20000 in
theorem ggX7_gone_X7_pass : GoodIn wsX7_gone wsX7_pass := goodIn_r _ [32, 8, 15, 6, 13, 17, 19, 24, 25, 26, 4, 27, 10, 28, 33, 34, 35, 36, 37, 38, 39, 40, 41, 42, 43, 44, 45, 46, 47, 48, 49, 50, 51, 52, 53, 54, 55, 56, 57, 58, 59, 60, 61, 62] (by decide +kernel) (by decide +kernel)
set_option maxRecDepth 20000 in
theorem gX7_gone_X7_pass : GoodIn wsX7_gone (wsV RX7 108 RX7 yX7_pass wsX7_pass) := goodIn_app (goodIn_of _ (by decide +kernel)) ggX7_gone_X7_pass
theorem dX7_gone_0 : decode cX7_gone 0 = .ok (.aload_n 0, 1) := by decide +kernel
theorem dX7_gone_1 : decode cX7_gone 1 = .ok (.invokevirtual 102, 3) := by decide +kernel
theorem dX7_gone_4 : decode cX7_gone 4 = .ok (.iconst 0, 1) := by decide +kernel
theorem dX7_gone_5 : decode cX7_gone 5 = .ok (.istore_n 1, 1) := by decide +kernel
theorem dX7_gone_6 : decode cX7_gone 6 = .ok (.iconst 0, 1) := by decide +kernel
theorem dX7_gone_7 : decode cX7_gone 7 = .ok (.istore_n 2, 1) := by decide +kernel
theorem dX7_gone_8 : decode cX7_gone 8 = .ok (.iload_n 2, 1) := by decide +kernel
theorem dX7_gone_9 : decode cX7_gone 9 = .ok (.bipush 61, 2) := by decide +kernel
theorem dX7_gone_11 : decode cX7_gone 11 = .ok (.if_icmp .ge 28, 3) := by decide +kernel
theorem dX7_gone_14 : decode cX7_gone 14 = .ok (.aload_n 0, 1) := by decide +kernel
theorem dX7_gone_15 : decode cX7_gone 15 = .ok (.invokevirtual 151, 3) := by decide +kernel
theorem dX7_gone_18 : decode cX7_gone 18 = .ok (.ifCond .le 9, 3) := by decide +kernel
theorem dX7_gone_21 : decode cX7_gone 21 = .ok (.iload_n 2, 1) := by decide +kernel
theorem dX7_gone_22 : decode cX7_gone 22 = .ok (.iconst 1, 1) := by decide +kernel
theorem dX7_gone_23 : decode cX7_gone 23 = .ok (.iadd, 1) := by decide +kernel
theorem dX7_gone_24 : decode cX7_gone 24 = .ok (.goto 4, 3) := by decide +kernel
theorem dX7_gone_27 : decode cX7_gone 27 = .ok (.iload_n 1, 1) := by decide +kernel
theorem dX7_gone_28 : decode cX7_gone 28 = .ok (.istore_n 1, 1) := by decide +kernel
theorem dX7_gone_29 : decode cX7_gone 29 = .ok (.aload_n 0, 1) := by decide +kernel
theorem dX7_gone_30 : decode cX7_gone 30 = .ok (.invokevirtual 108, 3) := by decide +kernel
theorem dX7_gone_33 : decode cX7_gone 33 = .ok (.iinc 2 1, 3) := by decide +kernel
theorem dX7_gone_36 : decode cX7_gone 36 = .ok (.goto (-28), 3) := by decide +kernel
theorem dX7_gone_39 : decode cX7_gone 39 = .ok (.iload_n 1, 1) := by decide +kernel
theorem dX7_gone_40 : decode cX7_gone 40 = .ok (.bipush 60, 2) := by decide +kernel
theorem dX7_gone_42 : decode cX7_gone 42 = .ok (.if_icmp .le 8, 3) := by decide +kernel
theorem dX7_gone_45 : decode cX7_gone 45 = .ok (.bipush (-6), 2) := by decide +kernel
theorem dX7_gone_47 : decode cX7_gone 47 = .ok (.goto 4, 3) := by decide +kernel
theorem dX7_gone_50 : decode cX7_gone 50 = .ok (.iload_n 1, 1) := by decide +kernel
theorem dX7_gone_51 : decode cX7_gone 51 = .ok (.ireturn, 1) := by decide +kernel
set_option maxRecDepth 20000 in
theorem ggX7_hue_X7_isDay : GoodIn wsX7_hue wsX7_isDay := goodIn_r _ [4, 5, 6, 3, 7] (by decide +kernel) (by decide +kernel)
set_option maxRecDepth 20000 in
theorem gX7_hue_X7_isDay : GoodIn wsX7_hue (va_wsS RX7 144 yX7_isDay wsX7_isDay) := goodIn_app (goodIn_of _ (by decide +kernel)) ggX7_hue_X7_isDay
set_option maxRecDepth 20000 in
theorem ggX7_hue_X7_asNow : GoodIn wsX7_hue wsX7_asNow := goodIn_r _ [11, 12, 13, 14, 15, 16, 17, 18, 19, 20, 21, 22, 23, 24, 25, 39, 40, 41, 42, 43, 44, 45, 46, 47, 48, 49, 50, 51, 52, 53, 54, 55, 56, 57, 58, 59, 60, 61, 62, 63, 64, 65, 66, 67, 68] (by decide +kernel) (by decide +kernel)
set_option maxRecDepth 20000 in
theorem gX7_hue_X7_asNow : GoodIn wsX7_hue (wsV RX7 102 RX7 yX7_asNow wsX7_asNow) := goodIn_app (goodIn_of _ (by decide +kernel)) ggX7_hue_X7_asNow
set_option maxRecDepth 20000 in
theorem ggX7_hue_X7_waits : GoodIn wsX7_hue wsX7_waits := goodIn_r _ [29, 30, 31, 32, 3, 33, 14, 21, 12, 19, 23, 25, 34, 35, 36, 37, 16, 38, 39, 40, 41, 42, 43, 44, 45, 46, 47, 48, 49, 50, 51, 52, 53, 54, 55, 56, 57, 58, 59, 60, 61, 62, 63, 64, 65, 66, 67, 68] (by decide +kernel) (by decide +kernel)
set_option maxRecDepth 20000 in
theorem gX7_hue_X7_waits : GoodIn wsX7_hue (wsV RX7 148 RX7 yX7_waits wsX7_waits) := goodIn_app (goodIn_of _ (by decide +kernel)) ggX7_hue_X7_waits
set_option maxRecDepth 20000 in
theorem ggX7_hue_X7_see : GoodIn wsX7_hue wsX7_see := goodIn_r _ [37, 12, 19, 21, 16, 14, 38, 39, 40, 41, 42, 43, 44, 45, 46, 47, 48, 49, 50, 51, 52, 53, 54, 55, 56, 57, 58, 59, 60, 61, 62, 63, 64, 65, 66, 67, 68] (by decide +kernel) (by decide +kernel)
set_option maxRecDepth 20000 in
theorem gX7_hue_X7_see : GoodIn wsX7_hue (wsV RX7 105 RX7 yX7_see wsX7_see) := goodIn_app (goodIn_of _ (by decide +kernel)) ggX7_hue_X7_see
theorem dX7_hue_0 : decode cX7_hue 0 = .ok (.iload_n 1, 1) := by decide +kernel
theorem dX7_hue_1 : decode cX7_hue 1 = .ok (.invokestatic 144, 3) := by decide +kernel
theorem dX7_hue_4 : decode cX7_hue 4 = .ok (.ifCond .ne 6, 3) := by decide +kernel
theorem dX7_hue_7 : decode cX7_hue 7 = .ok (.bipush (-2), 2) := by decide +kernel
theorem dX7_hue_9 : decode cX7_hue 9 = .ok (.ireturn, 1) := by decide +kernel
theorem dX7_hue_10 : decode cX7_hue 10 = .ok (.aload_n 0, 1) := by decide +kernel
theorem dX7_hue_11 : decode cX7_hue 11 = .ok (.invokevirtual 102, 3) := by decide +kernel
theorem dX7_hue_14 : decode cX7_hue 14 = .ok (.aload_n 0, 1) := by decide +kernel
theorem dX7_hue_15 : decode cX7_hue 15 = .ok (.iload_n 1, 1) := by decide +kernel
theorem dX7_hue_16 : decode cX7_hue 16 = .ok (.invokevirtual 148, 3) := by decide +kernel
theorem dX7_hue_19 : decode cX7_hue 19 = .ok (.bipush (-6), 2) := by decide +kernel
theorem dX7_hue_21 : decode cX7_hue 21 = .ok (.istore_n 2, 1) := by decide +kernel
theorem dX7_hue_22 : decode cX7_hue 22 = .ok (.iconst 0, 1) := by decide +kernel
theorem dX7_hue_23 : decode cX7_hue 23 = .ok (.istore_n 3, 1) := by decide +kernel
theorem dX7_hue_24 : decode cX7_hue 24 = .ok (.iload_n 3, 1) := by decide +kernel
theorem dX7_hue_25 : decode cX7_hue 25 = .ok (.iconst 3, 1) := by decide +kernel
theorem dX7_hue_26 : decode cX7_hue 26 = .ok (.if_icmp .ge 36, 3) := by decide +kernel
theorem dX7_hue_29 : decode cX7_hue 29 = .ok (.aload_n 0, 1) := by decide +kernel
theorem dX7_hue_30 : decode cX7_hue 30 = .ok (.iload_n 3, 1) := by decide +kernel
theorem dX7_hue_31 : decode cX7_hue 31 = .ok (.invokevirtual 105, 3) := by decide +kernel
theorem dX7_hue_34 : decode cX7_hue 34 = .ok (.iload_n 2, 1) := by decide +kernel
theorem dX7_hue_35 : decode cX7_hue 35 = .ok (.ifCond .ge 7, 3) := by decide +kernel
theorem dX7_hue_38 : decode cX7_hue 38 = .ok (.iconst 0, 1) := by decide +kernel
theorem dX7_hue_39 : decode cX7_hue 39 = .ok (.goto 8, 3) := by decide +kernel
theorem dX7_hue_42 : decode cX7_hue 42 = .ok (.aload_n 0, 1) := by decide +kernel
theorem dX7_hue_43 : decode cX7_hue 43 = .ok (.iload_n 2, 1) := by decide +kernel
theorem dX7_hue_44 : decode cX7_hue 44 = .ok (.invokevirtual 105, 3) := by decide +kernel
theorem dX7_hue_47 : decode cX7_hue 47 = .ok (.if_icmp .le 7, 3) := by decide +kernel
theorem dX7_hue_50 : decode cX7_hue 50 = .ok (.iload_n 3, 1) := by decide +kernel
theorem dX7_hue_51 : decode cX7_hue 51 = .ok (.goto 4, 3) := by decide +kernel
theorem dX7_hue_54 : decode cX7_hue 54 = .ok (.iload_n 2, 1) := by decide +kernel
theorem dX7_hue_55 : decode cX7_hue 55 = .ok (.istore_n 2, 1) := by decide +kernel
theorem dX7_hue_56 : decode cX7_hue 56 = .ok (.iinc 3 1, 3) := by decide +kernel
theorem dX7_hue_59 : decode cX7_hue 59 = .ok (.goto (-35), 3) := by decide +kernel
theorem dX7_hue_62 : decode cX7_hue 62 = .ok (.iload_n 2, 1) := by decide +kernel
theorem dX7_hue_63 : decode cX7_hue 63 = .ok (.ireturn, 1) := by decide +kernel
set_option maxRecDepth 20000 in
theorem ggX7_make_X7_in : GoodIn wsX7_make wsX7_in := goodIn_r _ [5] (by decide +kernel) (by decide +kernel)
set_option maxRecDepth 20000 in
theorem gX7_make_X7_in : GoodIn wsX7_make (va_wsS RX7 63 yX7_in wsX7_in) := goodIn_app (goodIn_of _ (by decide +kernel)) ggX7_make_X7_in
set_option maxRecDepth 20000 in
theorem ggX7_make_X7_isDay : GoodIn wsX7_make wsX7_isDay := goodIn_r _ [8, 2, 3, 4, 5] (by decide +kernel) (by decide +kernel)
set_option maxRecDepth 20000 in
theorem gX7_make_X7_isDay : GoodIn wsX7_make (va_wsS RX7 144 yX7_isDay wsX7_isDay) := goodIn_app (goodIn_of _ (by decide +kernel)) ggX7_make_X7_isDay
set_option maxRecDepth 20000 in
theorem ggX7_make_X7_asNow : GoodIn wsX7_make wsX7_asNow := goodIn_r _ [12, 1, 13, 14, 15, 16, 17, 18, 19, 20, 21, 22, 23, 24, 25, 39, 40, 41, 42, 43, 44, 45, 46, 47, 48, 49, 50, 51, 52, 53, 54, 55, 56, 57, 58, 59, 60, 61, 62, 63, 64, 65, 66, 67, 68] (by decide +kernel) (by decide +kernel)
set_option maxRecDepth 20000 in
theorem gX7_make_X7_asNow : GoodIn wsX7_make (wsV RX7 102 RX7 yX7_asNow wsX7_asNow) := goodIn_app (goodIn_of _ (by decide +kernel)) ggX7_make_X7_asNow
set_option maxRecDepth 20000 in
theorem ggX7_make_X7_waits : GoodIn wsX7_make wsX7_waits := goodIn_r _ [29, 30, 31, 32, 4, 33, 14, 21, 1, 19, 23, 25, 34, 35, 36, 37, 16, 38, 39, 40, 41, 42, 43, 44, 45, 46, 47, 48, 49, 50, 51, 52, 53, 54, 55, 56, 57, 58, 59, 60, 61, 62, 63, 64, 65, 66, 67, 68] (by decide +kernel) (by decide +kernel)
set_option maxRecDepth 20000 in
theorem gX7_make_X7_waits : GoodIn wsX7_make (wsV RX7 148 RX7 yX7_waits wsX7_waits) := goodIn_app (goodIn_of _ (by decide +kernel)) ggX7_make_X7_waits
set_option maxRecDepth 20000 in
theorem ggX7_make_X7_see : GoodIn wsX7_make wsX7_see := goodIn_r _ [37, 1, 19, 21, 16, 14, 38, 39, 40, 41, 42, 43, 44, 45, 46, 47, 48, 49, 50, 51, 52, 53, 54, 55, 56, 57, 58, 59, 60, 61, 62, 63, 64, 65, 66, 67, 68] (by decide +kernel) (by decide +kernel)
set_option maxRecDepth 20000 in
theorem gX7_make_X7_see : GoodIn wsX7_make (wsV RX7 105 RX7 yX7_see wsX7_see) := goodIn_app (goodIn_of _ (by decide +kernel)) ggX7_make_X7_see
theorem dX7_make_0 : decode cX7_make 0 = .ok (.iload_n 1, 1) := by decide +kernel
theorem dX7_make_1 : decode cX7_make 1 = .ok (.iconst 0, 1) := by decide +kernel
theorem dX7_make_2 : decode cX7_make 2 = .ok (.iconst 2, 1) := by decide +kernel
theorem dX7_make_3 : decode cX7_make 3 = .ok (.invokestatic 63, 3) := by decide +kernel
theorem dX7_make_6 : decode cX7_make 6 = .ok (.ifCond .eq 31, 3) := by decide +kernel
theorem dX7_make_9 : decode cX7_make 9 = .ok (.iload_n 2, 1) := by decide +kernel
theorem dX7_make_10 : decode cX7_make 10 = .ok (.invokestatic 144, 3) := by decide +kernel
theorem dX7_make_13 : decode cX7_make 13 = .ok (.ifCond .eq 24, 3) := by decide +kernel
theorem dX7_make_16 : decode cX7_make 16 = .ok (.iload_n 3, 1) := by decide +kernel
theorem dX7_make_17 : decode cX7_make 17 = .ok (.iconst 0, 1) := by decide +kernel
theorem dX7_make_18 : decode cX7_make 18 = .ok (.sipush 999, 3) := by decide +kernel
theorem dX7_make_21 : decode cX7_make 21 = .ok (.invokestatic 63, 3) := by decide +kernel
theorem dX7_make_24 : decode cX7_make 24 = .ok (.ifCond .eq 13, 3) := by decide +kernel
theorem dX7_make_27 : decode cX7_make 27 = .ok (.iload 4, 2) := by decide +kernel
theorem dX7_make_29 : decode cX7_make 29 = .ok (.iconst 0, 1) := by decide +kernel
theorem dX7_make_30 : decode cX7_make 30 = .ok (.iconst 1, 1) := by decide +kernel
theorem dX7_make_31 : decode cX7_make 31 = .ok (.invokestatic 63, 3) := by decide +kernel
theorem dX7_make_34 : decode cX7_make 34 = .ok (.ifCond .ne 6, 3) := by decide +kernel
theorem dX7_make_37 : decode cX7_make 37 = .ok (.bipush (-2), 2) := by decide +kernel
theorem dX7_make_39 : decode cX7_make 39 = .ok (.ireturn, 1) := by decide +kernel
theorem dX7_make_40 : decode cX7_make 40 = .ok (.iconst 0, 1) := by decide +kernel
theorem dX7_make_41 : decode cX7_make 41 = .ok (.istore 5, 2) := by decide +kernel
theorem dX7_make_43 : decode cX7_make 43 = .ok (.iload 5, 2) := by decide +kernel
theorem dX7_make_45 : decode cX7_make 45 = .ok (.sipush 1000, 3) := by decide +kernel
theorem dX7_make_48 : decode cX7_make 48 = .ok (.if_icmp .ge 54, 3) := by decide +kernel
theorem dX7_make_51 : decode cX7_make 51 = .ok (.aload_n 0, 1) := by decide +kernel
theorem dX7_make_52 : decode cX7_make 52 = .ok (.invokevirtual 102, 3) := by decide +kernel
theorem dX7_make_55 : decode cX7_make 55 = .ok (.aload_n 0, 1) := by decide +kernel
theorem dX7_make_56 : decode cX7_make 56 = .ok (.getfield 35, 3) := by decide +kernel
theorem dX7_make_59 : decode cX7_make 59 = .ok (.iload_n 1, 1) := by decide +kernel
theorem dX7_make_60 : decode cX7_make 60 = .ok (.dup2, 1) := by decide +kernel
theorem dX7_make_61 : decode cX7_make 61 = .ok (.iaload, 1) := by decide +kernel
theorem dX7_make_62 : decode cX7_make 62 = .ok (.iload 5, 2) := by decide +kernel
theorem dX7_make_64 : decode cX7_make 64 = .ok (.iadd, 1) := by decide +kernel
theorem dX7_make_65 : decode cX7_make 65 = .ok (.iastore, 1) := by decide +kernel
theorem dX7_make_66 : decode cX7_make 66 = .ok (.aload_n 0, 1) := by decide +kernel
theorem dX7_make_67 : decode cX7_make 67 = .ok (.iload_n 2, 1) := by decide +kernel
theorem dX7_make_68 : decode cX7_make 68 = .ok (.invokevirtual 148, 3) := by decide +kernel
theorem dX7_make_71 : decode cX7_make 71 = .ok (.aload_n 0, 1) := by decide +kernel
theorem dX7_make_72 : decode cX7_make 72 = .ok (.iload_n 1, 1) := by decide +kernel
theorem dX7_make_73 : decode cX7_make 73 = .ok (.invokevirtual 105, 3) := by decide +kernel
theorem dX7_make_76 : decode cX7_make 76 = .ok (.iload_n 3, 1) := by decide +kernel
theorem dX7_make_77 : decode cX7_make 77 = .ok (.if_icmp .lt 19, 3) := by decide +kernel
theorem dX7_make_80 : decode cX7_make 80 = .ok (.iload 4, 2) := by decide +kernel
theorem dX7_make_82 : decode cX7_make 82 = .ok (.ifCond .ne 8, 3) := by decide +kernel
theorem dX7_make_85 : decode cX7_make 85 = .ok (.iload 5, 2) := by decide +kernel
theorem dX7_make_87 : decode cX7_make 87 = .ok (.goto 8, 3) := by decide +kernel
theorem dX7_make_90 : decode cX7_make 90 = .ok (.aload_n 0, 1) := by decide +kernel
theorem dX7_make_91 : decode cX7_make 91 = .ok (.iload_n 1, 1) := by decide +kernel
theorem dX7_make_92 : decode cX7_make 92 = .ok (.invokevirtual 105, 3) := by decide +kernel
theorem dX7_make_95 : decode cX7_make 95 = .ok (.ireturn, 1) := by decide +kernel
theorem dX7_make_96 : decode cX7_make 96 = .ok (.iinc 5 1, 3) := by decide +kernel
theorem dX7_make_99 : decode cX7_make 99 = .ok (.goto (-56), 3) := by decide +kernel
theorem dX7_make_102 : decode cX7_make 102 = .ok (.bipush (-6), 2) := by decide +kernel
theorem dX7_make_104 : decode cX7_make 104 = .ok (.ireturn, 1) := by decide +kernel
theorem dX7_apartBy_0 : decode cX7_apartBy 0 = .ok (.iload_n 0, 1) := by decide +kernel
theorem dX7_apartBy_1 : decode cX7_apartBy 1 = .ok (.iload_n 1, 1) := by decide +kernel
theorem dX7_apartBy_2 : decode cX7_apartBy 2 = .ok (.if_icmp .le 9, 3) := by decide +kernel
theorem dX7_apartBy_5 : decode cX7_apartBy 5 = .ok (.iload_n 0, 1) := by decide +kernel
theorem dX7_apartBy_6 : decode cX7_apartBy 6 = .ok (.iload_n 1, 1) := by decide +kernel
theorem dX7_apartBy_7 : decode cX7_apartBy 7 = .ok (.isub, 1) := by decide +kernel
theorem dX7_apartBy_8 : decode cX7_apartBy 8 = .ok (.goto 6, 3) := by decide +kernel
theorem dX7_apartBy_11 : decode cX7_apartBy 11 = .ok (.iload_n 1, 1) := by decide +kernel
theorem dX7_apartBy_12 : decode cX7_apartBy 12 = .ok (.iload_n 0, 1) := by decide +kernel
theorem dX7_apartBy_13 : decode cX7_apartBy 13 = .ok (.isub, 1) := by decide +kernel
theorem dX7_apartBy_14 : decode cX7_apartBy 14 = .ok (.ireturn, 1) := by decide +kernel
set_option maxRecDepth 20000 in
theorem ggX7_wish_X7_in : GoodIn wsX7_wish wsX7_in := goodIn_r _ [6] (by decide +kernel) (by decide +kernel)
set_option maxRecDepth 20000 in
theorem gX7_wish_X7_in : GoodIn wsX7_wish (va_wsS RX7 63 yX7_in wsX7_in) := goodIn_app (goodIn_of _ (by decide +kernel)) ggX7_wish_X7_in
set_option maxRecDepth 20000 in
theorem ggX7_wish_X7_isDay : GoodIn wsX7_wish wsX7_isDay := goodIn_r _ [9, 3, 4, 5, 6] (by decide +kernel) (by decide +kernel)
set_option maxRecDepth 20000 in
theorem gX7_wish_X7_isDay : GoodIn wsX7_wish (va_wsS RX7 144 yX7_isDay wsX7_isDay) := goodIn_app (goodIn_of _ (by decide +kernel)) ggX7_wish_X7_isDay
set_option maxRecDepth 20000 in
theorem ggX7_wish_X7_asNow : GoodIn wsX7_wish wsX7_asNow := goodIn_r _ [13, 14, 15, 16, 17, 18, 19, 20, 21, 22, 23, 24, 25, 26, 27, 52, 53, 54, 55, 56, 57, 58, 59, 60, 61, 62, 63, 64, 65, 66, 67, 68, 69, 70, 71, 72, 73, 74, 75, 76, 77, 78, 79, 80, 81] (by decide +kernel) (by decide +kernel)
set_option maxRecDepth 20000 in
theorem gX7_wish_X7_asNow : GoodIn wsX7_wish (wsV RX7 102 RX7 yX7_asNow wsX7_asNow) := goodIn_app (goodIn_of _ (by decide +kernel)) ggX7_wish_X7_asNow
set_option maxRecDepth 20000 in
theorem ggX7_wish_X7_has : GoodIn wsX7_wish wsX7_has := goodIn_r _ [30] (by decide +kernel) (by decide +kernel)
set_option maxRecDepth 20000 in
theorem gX7_wish_X7_has : GoodIn wsX7_wish (va_wsS RX7 111 yX7_has wsX7_has) := goodIn_app (goodIn_of _ (by decide +kernel)) ggX7_wish_X7_has
set_option maxRecDepth 20000 in
theorem ggX7_wish_X7_wear : GoodIn wsX7_wish wsX7_wear := goodIn_r _ [34, 14, 35, 52, 53, 54, 55, 56, 57, 58, 59, 60, 61, 62, 63, 64, 65, 66, 67, 68, 69, 70, 71, 72, 73, 74, 75, 76, 77, 78, 79, 80, 81] (by decide +kernel) (by decide +kernel)
set_option maxRecDepth 20000 in
theorem gX7_wish_X7_wear : GoodIn wsX7_wish (wsV RX7 134 RX7 yX7_wear wsX7_wear) := goodIn_app (goodIn_of _ (by decide +kernel)) ggX7_wish_X7_wear
set_option maxRecDepth 20000 in
theorem ggX7_wish_X7_waits : GoodIn wsX7_wish wsX7_waits := goodIn_r _ [39, 40, 41, 42, 5, 43, 16, 23, 14, 21, 25, 27, 44, 45, 46, 47, 18, 48, 52, 53, 54, 55, 56, 57, 58, 59, 60, 61, 62, 63, 64, 65, 66, 67, 68, 69, 70, 71, 72, 73, 74, 75, 76, 77, 78, 79, 80, 81] (by decide +kernel) (by decide +kernel)
set_option maxRecDepth 20000 in
theorem gX7_wish_X7_waits : GoodIn wsX7_wish (wsV RX7 148 RX7 yX7_waits wsX7_waits) := goodIn_app (goodIn_of _ (by decide +kernel)) ggX7_wish_X7_waits
set_option maxRecDepth 20000 in
theorem ggX7_wish_X7_see : GoodIn wsX7_wish wsX7_see := goodIn_r _ [47, 14, 21, 23, 18, 16, 48, 52, 53, 54, 55, 56, 57, 58, 59, 60, 61, 62, 63, 64, 65, 66, 67, 68, 69, 70, 71, 72, 73, 74, 75, 76, 77, 78, 79, 80, 81] (by decide +kernel) (by decide +kernel)
set_option maxRecDepth 20000 in
theorem gX7_wish_X7_see : GoodIn wsX7_wish (wsV RX7 105 RX7 yX7_see wsX7_see) := goodIn_app (goodIn_of _ (by decide +kernel)) ggX7_wish_X7_see
set_option maxRecDepth 20000 in
theorem ggX7_wish_X7_apartBy : GoodIn wsX7_wish wsX7_apartBy := goodIn_r _ [51] (by decide +kernel) (by decide +kernel)
set_option maxRecDepth 20000 in
theorem gX7_wish_X7_apartBy : GoodIn wsX7_wish (va_wsS RX7 156 yX7_apartBy wsX7_apartBy) := goodIn_app (goodIn_of _ (by decide +kernel)) ggX7_wish_X7_apartBy
theorem dX7_wish_0 : decode cX7_wish 0 = .ok (.iload_n 1, 1) := by decide +kernel
theorem dX7_wish_1 : decode cX7_wish 1 = .ok (.iconst 0, 1) := by decide +kernel
theorem dX7_wish_2 : decode cX7_wish 2 = .ok (.bipush 63, 2) := by decide +kernel
theorem dX7_wish_4 : decode cX7_wish 4 = .ok (.invokestatic 63, 3) := by decide +kernel
theorem dX7_wish_7 : decode cX7_wish 7 = .ok (.ifCond .ne 5, 3) := by decide +kernel
theorem dX7_wish_10 : decode cX7_wish 10 = .ok (.iconst (-1), 1) := by decide +kernel
theorem dX7_wish_11 : decode cX7_wish 11 = .ok (.ireturn, 1) := by decide +kernel
theorem dX7_wish_12 : decode cX7_wish 12 = .ok (.iload_n 2, 1) := by decide +kernel
theorem dX7_wish_13 : decode cX7_wish 13 = .ok (.invokestatic 144, 3) := by decide +kernel
theorem dX7_wish_16 : decode cX7_wish 16 = .ok (.ifCond .eq 23, 3) := by decide +kernel
theorem dX7_wish_19 : decode cX7_wish 19 = .ok (.iload_n 3, 1) := by decide +kernel
theorem dX7_wish_20 : decode cX7_wish 20 = .ok (.iconst 0, 1) := by decide +kernel
theorem dX7_wish_21 : decode cX7_wish 21 = .ok (.ldc 154, 2) := by decide +kernel
theorem dX7_wish_23 : decode cX7_wish 23 = .ok (.invokestatic 63, 3) := by decide +kernel
theorem dX7_wish_26 : decode cX7_wish 26 = .ok (.ifCond .eq 13, 3) := by decide +kernel
theorem dX7_wish_29 : decode cX7_wish 29 = .ok (.iload 4, 2) := by decide +kernel
theorem dX7_wish_31 : decode cX7_wish 31 = .ok (.iconst 0, 1) := by decide +kernel
theorem dX7_wish_32 : decode cX7_wish 32 = .ok (.iconst 1, 1) := by decide +kernel
theorem dX7_wish_33 : decode cX7_wish 33 = .ok (.invokestatic 63, 3) := by decide +kernel
theorem dX7_wish_36 : decode cX7_wish 36 = .ok (.ifCond .ne 6, 3) := by decide +kernel
theorem dX7_wish_39 : decode cX7_wish 39 = .ok (.bipush (-2), 2) := by decide +kernel
theorem dX7_wish_41 : decode cX7_wish 41 = .ok (.ireturn, 1) := by decide +kernel
theorem dX7_wish_42 : decode cX7_wish 42 = .ok (.iconst 0, 1) := by decide +kernel
theorem dX7_wish_43 : decode cX7_wish 43 = .ok (.istore 5, 2) := by decide +kernel
theorem dX7_wish_45 : decode cX7_wish 45 = .ok (.ldc 155, 2) := by decide +kernel
theorem dX7_wish_47 : decode cX7_wish 47 = .ok (.istore 6, 2) := by decide +kernel
theorem dX7_wish_49 : decode cX7_wish 49 = .ok (.iconst 0, 1) := by decide +kernel
theorem dX7_wish_50 : decode cX7_wish 50 = .ok (.istore 7, 2) := by decide +kernel
theorem dX7_wish_52 : decode cX7_wish 52 = .ok (.iload 7, 2) := by decide +kernel
theorem dX7_wish_54 : decode cX7_wish 54 = .ok (.bipush 64, 2) := by decide +kernel
theorem dX7_wish_56 : decode cX7_wish 56 = .ok (.if_icmp .ge 137, 3) := by decide +kernel
theorem dX7_wish_59 : decode cX7_wish 59 = .ok (.iload 7, 2) := by decide +kernel
theorem dX7_wish_61 : decode cX7_wish 61 = .ok (.iload_n 1, 1) := by decide +kernel
theorem dX7_wish_62 : decode cX7_wish 62 = .ok (.iconst (-1), 1) := by decide +kernel
theorem dX7_wish_63 : decode cX7_wish 63 = .ok (.ixor, 1) := by decide +kernel
theorem dX7_wish_64 : decode cX7_wish 64 = .ok (.iand, 1) := by decide +kernel
theorem dX7_wish_65 : decode cX7_wish 65 = .ok (.ifCond .ne 122, 3) := by decide +kernel
theorem dX7_wish_68 : decode cX7_wish 68 = .ok (.aload_n 0, 1) := by decide +kernel
theorem dX7_wish_69 : decode cX7_wish 69 = .ok (.invokevirtual 102, 3) := by decide +kernel
theorem dX7_wish_72 : decode cX7_wish 72 = .ok (.iconst 0, 1) := by decide +kernel
theorem dX7_wish_73 : decode cX7_wish 73 = .ok (.istore 8, 2) := by decide +kernel
theorem dX7_wish_75 : decode cX7_wish 75 = .ok (.iload 8, 2) := by decide +kernel
theorem dX7_wish_77 : decode cX7_wish 77 = .ok (.bipush 6, 2) := by decide +kernel
theorem dX7_wish_79 : decode cX7_wish 79 = .ok (.if_icmp .ge 25, 3) := by decide +kernel
theorem dX7_wish_82 : decode cX7_wish 82 = .ok (.iload 7, 2) := by decide +kernel
theorem dX7_wish_84 : decode cX7_wish 84 = .ok (.iload 8, 2) := by decide +kernel
theorem dX7_wish_86 : decode cX7_wish 86 = .ok (.invokestatic 111, 3) := by decide +kernel
theorem dX7_wish_89 : decode cX7_wish 89 = .ok (.ifCond .eq 9, 3) := by decide +kernel
theorem dX7_wish_92 : decode cX7_wish 92 = .ok (.aload_n 0, 1) := by decide +kernel
theorem dX7_wish_93 : decode cX7_wish 93 = .ok (.iload 8, 2) := by decide +kernel
theorem dX7_wish_95 : decode cX7_wish 95 = .ok (.invokevirtual 134, 3) := by decide +kernel
theorem dX7_wish_98 : decode cX7_wish 98 = .ok (.iinc 8 1, 3) := by decide +kernel
theorem dX7_wish_101 : decode cX7_wish 101 = .ok (.goto (-26), 3) := by decide +kernel
theorem dX7_wish_104 : decode cX7_wish 104 = .ok (.aload_n 0, 1) := by decide +kernel
theorem dX7_wish_105 : decode cX7_wish 105 = .ok (.iload_n 2, 1) := by decide +kernel
theorem dX7_wish_106 : decode cX7_wish 106 = .ok (.invokevirtual 148, 3) := by decide +kernel
theorem dX7_wish_109 : decode cX7_wish 109 = .ok (.aload_n 0, 1) := by decide +kernel
theorem dX7_wish_110 : decode cX7_wish 110 = .ok (.iconst 0, 1) := by decide +kernel
theorem dX7_wish_111 : decode cX7_wish 111 = .ok (.invokevirtual 105, 3) := by decide +kernel
theorem dX7_wish_114 : decode cX7_wish 114 = .ok (.iload_n 3, 1) := by decide +kernel
theorem dX7_wish_115 : decode cX7_wish 115 = .ok (.ldc 155, 2) := by decide +kernel
theorem dX7_wish_117 : decode cX7_wish 117 = .ok (.idiv, 1) := by decide +kernel
theorem dX7_wish_118 : decode cX7_wish 118 = .ok (.invokestatic 156, 3) := by decide +kernel
theorem dX7_wish_121 : decode cX7_wish 121 = .ok (.aload_n 0, 1) := by decide +kernel
theorem dX7_wish_122 : decode cX7_wish 122 = .ok (.iconst 1, 1) := by decide +kernel
theorem dX7_wish_123 : decode cX7_wish 123 = .ok (.invokevirtual 105, 3) := by decide +kernel
theorem dX7_wish_126 : decode cX7_wish 126 = .ok (.iload_n 3, 1) := by decide +kernel
theorem dX7_wish_127 : decode cX7_wish 127 = .ok (.sipush 1000, 3) := by decide +kernel
theorem dX7_wish_130 : decode cX7_wish 130 = .ok (.idiv, 1) := by decide +kernel
theorem dX7_wish_131 : decode cX7_wish 131 = .ok (.sipush 1000, 3) := by decide +kernel
theorem dX7_wish_134 : decode cX7_wish 134 = .ok (.irem, 1) := by decide +kernel
theorem dX7_wish_135 : decode cX7_wish 135 = .ok (.invokestatic 156, 3) := by decide +kernel
theorem dX7_wish_138 : decode cX7_wish 138 = .ok (.iadd, 1) := by decide +kernel
theorem dX7_wish_139 : decode cX7_wish 139 = .ok (.aload_n 0, 1) := by decide +kernel
theorem dX7_wish_140 : decode cX7_wish 140 = .ok (.iconst 2, 1) := by decide +kernel
theorem dX7_wish_141 : decode cX7_wish 141 = .ok (.invokevirtual 105, 3) := by decide +kernel
theorem dX7_wish_144 : decode cX7_wish 144 = .ok (.iload_n 3, 1) := by decide +kernel
theorem dX7_wish_145 : decode cX7_wish 145 = .ok (.sipush 1000, 3) := by decide +kernel
theorem dX7_wish_148 : decode cX7_wish 148 = .ok (.irem, 1) := by decide +kernel
theorem dX7_wish_149 : decode cX7_wish 149 = .ok (.invokestatic 156, 3) := by decide +kernel
theorem dX7_wish_152 : decode cX7_wish 152 = .ok (.iadd, 1) := by decide +kernel
theorem dX7_wish_153 : decode cX7_wish 153 = .ok (.istore 8, 2) := by decide +kernel
theorem dX7_wish_155 : decode cX7_wish 155 = .ok (.iload 8, 2) := by decide +kernel
theorem dX7_wish_157 : decode cX7_wish 157 = .ok (.iload 6, 2) := by decide +kernel
theorem dX7_wish_159 : decode cX7_wish 159 = .ok (.if_icmp .ge 8, 3) := by decide +kernel
theorem dX7_wish_162 : decode cX7_wish 162 = .ok (.iload 7, 2) := by decide +kernel
theorem dX7_wish_164 : decode cX7_wish 164 = .ok (.goto 5, 3) := by decide +kernel
theorem dX7_wish_167 : decode cX7_wish 167 = .ok (.iload 5, 2) := by decide +kernel
theorem dX7_wish_169 : decode cX7_wish 169 = .ok (.istore 5, 2) := by decide +kernel
theorem dX7_wish_171 : decode cX7_wish 171 = .ok (.iload 8, 2) := by decide +kernel
theorem dX7_wish_173 : decode cX7_wish 173 = .ok (.iload 6, 2) := by decide +kernel
theorem dX7_wish_175 : decode cX7_wish 175 = .ok (.if_icmp .ge 8, 3) := by decide +kernel
theorem dX7_wish_178 : decode cX7_wish 178 = .ok (.iload 8, 2) := by decide +kernel
theorem dX7_wish_180 : decode cX7_wish 180 = .ok (.goto 5, 3) := by decide +kernel
theorem dX7_wish_183 : decode cX7_wish 183 = .ok (.iload 6, 2) := by decide +kernel
theorem dX7_wish_185 : decode cX7_wish 185 = .ok (.istore 6, 2) := by decide +kernel
theorem dX7_wish_187 : decode cX7_wish 187 = .ok (.iinc 7 1, 3) := by decide +kernel
theorem dX7_wish_190 : decode cX7_wish 190 = .ok (.goto (-138), 3) := by decide +kernel
theorem dX7_wish_193 : decode cX7_wish 193 = .ok (.iload 4, 2) := by decide +kernel
theorem dX7_wish_195 : decode cX7_wish 195 = .ok (.ifCond .ne 8, 3) := by decide +kernel
theorem dX7_wish_198 : decode cX7_wish 198 = .ok (.iload 6, 2) := by decide +kernel
theorem dX7_wish_200 : decode cX7_wish 200 = .ok (.goto 5, 3) := by decide +kernel
theorem dX7_wish_203 : decode cX7_wish 203 = .ok (.iload 5, 2) := by decide +kernel
theorem dX7_wish_205 : decode cX7_wish 205 = .ok (.ireturn, 1) := by decide +kernel
set_option maxRecDepth 20000 in
theorem ggX7_whiten_X7_isDay : GoodIn wsX7_whiten wsX7_isDay := goodIn_r _ [5, 6, 7, 4, 8] (by decide +kernel) (by decide +kernel)
set_option maxRecDepth 20000 in
theorem gX7_whiten_X7_isDay : GoodIn wsX7_whiten (va_wsS RX7 144 yX7_isDay wsX7_isDay) := goodIn_app (goodIn_of _ (by decide +kernel)) ggX7_whiten_X7_isDay
set_option maxRecDepth 20000 in
theorem ggX7_whiten_X7_in : GoodIn wsX7_whiten wsX7_in := goodIn_r _ [8] (by decide +kernel) (by decide +kernel)
set_option maxRecDepth 20000 in
theorem gX7_whiten_X7_in : GoodIn wsX7_whiten (va_wsS RX7 63 yX7_in wsX7_in) := goodIn_app (goodIn_of _ (by decide +kernel)) ggX7_whiten_X7_in
set_option maxRecDepth 20000 in
theorem ggX7_whiten_X7_bits : GoodIn wsX7_whiten wsX7_bits := goodIn_r _ [11] (by decide +kernel) (by decide +kernel)
set_option maxRecDepth 20000 in
theorem gX7_whiten_X7_bits : GoodIn wsX7_whiten (va_wsS RX7 160 yX7_bits wsX7_bits) := goodIn_app (goodIn_of _ (by decide +kernel)) ggX7_whiten_X7_bits
set_option maxRecDepth 20000 in
theorem ggX7_whiten_X7_asNow : GoodIn wsX7_whiten wsX7_asNow := goodIn_r _ [15, 16, 17, 18, 19, 1, 20, 21, 22, 23, 24, 25, 26, 27, 28, 41, 42, 43, 44, 45, 46, 47, 48, 49, 50, 51, 52, 53, 54, 55, 56, 57, 58, 59, 60, 61, 62, 63, 64, 65, 66, 67, 68, 69, 70] (by decide +kernel) (by decide +kernel)
set_option maxRecDepth 20000 in
theorem gX7_whiten_X7_asNow : GoodIn wsX7_whiten (wsV RX7 102 RX7 yX7_asNow wsX7_asNow) := goodIn_app (goodIn_of _ (by decide +kernel)) ggX7_whiten_X7_asNow
set_option maxRecDepth 20000 in
theorem ggX7_whiten_X7_has : GoodIn wsX7_whiten wsX7_has := goodIn_r _ [31] (by decide +kernel) (by decide +kernel)
set_option maxRecDepth 20000 in
theorem gX7_whiten_X7_has : GoodIn wsX7_whiten (va_wsS RX7 111 yX7_has wsX7_has) := goodIn_app (goodIn_of _ (by decide +kernel)) ggX7_whiten_X7_has
set_option maxRecDepth 20000 in
theorem ggX7_whiten_X7_see : GoodIn wsX7_whiten wsX7_see := goodIn_r _ [35, 16, 22, 24, 1, 18, 36, 41, 42, 43, 44, 45, 46, 47, 48, 49, 50, 51, 52, 53, 54, 55, 56, 57, 58, 59, 60, 61, 62, 63, 64, 65, 66, 67, 68, 69, 70] (by decide +kernel) (by decide +kernel)
set_option maxRecDepth 20000 in
theorem gX7_whiten_X7_see : GoodIn wsX7_whiten (wsV RX7 105 RX7 yX7_see wsX7_see) := goodIn_app (goodIn_of _ (by decide +kernel)) ggX7_whiten_X7_see
set_option maxRecDepth 20000 in
theorem ggX7_whiten_X7_pass : GoodIn wsX7_whiten wsX7_pass := goodIn_r _ [40, 18, 24, 16, 22, 26, 28, 32, 33, 34, 4, 35, 1, 36, 41, 42, 43, 44, 45, 46, 47, 48, 49, 50, 51, 52, 53, 54, 55, 56, 57, 58, 59, 60, 61, 62, 63, 64, 65, 66, 67, 68, 69, 70] (by decide +kernel) (by decide +kernel)
set_option maxRecDepth 20000 in
theorem gX7_whiten_X7_pass : GoodIn wsX7_whiten (wsV RX7 108 RX7 yX7_pass wsX7_pass) := goodIn_app (goodIn_of _ (by decide +kernel)) ggX7_whiten_X7_pass
theorem dX7_whiten_0 : decode cX7_whiten 0 = .ok (.iload_n 1, 1) := by decide +kernel
theorem dX7_whiten_1 : decode cX7_whiten 1 = .ok (.invokestatic 144, 3) := by decide +kernel
theorem dX7_whiten_4 : decode cX7_whiten 4 = .ok (.ifCond .eq 23, 3) := by decide +kernel
theorem dX7_whiten_7 : decode cX7_whiten 7 = .ok (.iload_n 2, 1) := by decide +kernel
theorem dX7_whiten_8 : decode cX7_whiten 8 = .ok (.iconst 0, 1) := by decide +kernel
theorem dX7_whiten_9 : decode cX7_whiten 9 = .ok (.sipush 999, 3) := by decide +kernel
theorem dX7_whiten_12 : decode cX7_whiten 12 = .ok (.invokestatic 63, 3) := by decide +kernel
theorem dX7_whiten_15 : decode cX7_whiten 15 = .ok (.ifCond .eq 12, 3) := by decide +kernel
theorem dX7_whiten_18 : decode cX7_whiten 18 = .ok (.iload_n 3, 1) := by decide +kernel
theorem dX7_whiten_19 : decode cX7_whiten 19 = .ok (.iconst 0, 1) := by decide +kernel
theorem dX7_whiten_20 : decode cX7_whiten 20 = .ok (.iconst 1, 1) := by decide +kernel
theorem dX7_whiten_21 : decode cX7_whiten 21 = .ok (.invokestatic 63, 3) := by decide +kernel
theorem dX7_whiten_24 : decode cX7_whiten 24 = .ok (.ifCond .ne 6, 3) := by decide +kernel
theorem dX7_whiten_27 : decode cX7_whiten 27 = .ok (.bipush (-2), 2) := by decide +kernel
theorem dX7_whiten_29 : decode cX7_whiten 29 = .ok (.ireturn, 1) := by decide +kernel
theorem dX7_whiten_30 : decode cX7_whiten 30 = .ok (.bipush (-6), 2) := by decide +kernel
theorem dX7_whiten_32 : decode cX7_whiten 32 = .ok (.istore 4, 2) := by decide +kernel
theorem dX7_whiten_34 : decode cX7_whiten 34 = .ok (.iconst 0, 1) := by decide +kernel
theorem dX7_whiten_35 : decode cX7_whiten 35 = .ok (.istore 5, 2) := by decide +kernel
theorem dX7_whiten_37 : decode cX7_whiten 37 = .ok (.iload 5, 2) := by decide +kernel
theorem dX7_whiten_39 : decode cX7_whiten 39 = .ok (.bipush 16, 2) := by decide +kernel
theorem dX7_whiten_41 : decode cX7_whiten 41 = .ok (.if_icmp .ge 156, 3) := by decide +kernel
theorem dX7_whiten_44 : decode cX7_whiten 44 = .ok (.iload 4, 2) := by decide +kernel
theorem dX7_whiten_46 : decode cX7_whiten 46 = .ok (.ifCond .lt 16, 3) := by decide +kernel
theorem dX7_whiten_49 : decode cX7_whiten 49 = .ok (.iload 5, 2) := by decide +kernel
theorem dX7_whiten_51 : decode cX7_whiten 51 = .ok (.invokestatic 160, 3) := by decide +kernel
theorem dX7_whiten_54 : decode cX7_whiten 54 = .ok (.iload 4, 2) := by decide +kernel
theorem dX7_whiten_56 : decode cX7_whiten 56 = .ok (.invokestatic 160, 3) := by decide +kernel
theorem dX7_whiten_59 : decode cX7_whiten 59 = .ok (.if_icmp .ge 132, 3) := by decide +kernel
theorem dX7_whiten_62 : decode cX7_whiten 62 = .ok (.aload_n 0, 1) := by decide +kernel
theorem dX7_whiten_63 : decode cX7_whiten 63 = .ok (.invokevirtual 102, 3) := by decide +kernel
theorem dX7_whiten_66 : decode cX7_whiten 66 = .ok (.iconst 0, 1) := by decide +kernel
theorem dX7_whiten_67 : decode cX7_whiten 67 = .ok (.istore 6, 2) := by decide +kernel
theorem dX7_whiten_69 : decode cX7_whiten 69 = .ok (.iload 6, 2) := by decide +kernel
theorem dX7_whiten_71 : decode cX7_whiten 71 = .ok (.iconst 4, 1) := by decide +kernel
theorem dX7_whiten_72 : decode cX7_whiten 72 = .ok (.if_icmp .ge 37, 3) := by decide +kernel
theorem dX7_whiten_75 : decode cX7_whiten 75 = .ok (.aload_n 0, 1) := by decide +kernel
theorem dX7_whiten_76 : decode cX7_whiten 76 = .ok (.getfield 41, 3) := by decide +kernel
theorem dX7_whiten_79 : decode cX7_whiten 79 = .ok (.iload 6, 2) := by decide +kernel
theorem dX7_whiten_81 : decode cX7_whiten 81 = .ok (.iload 5, 2) := by decide +kernel
theorem dX7_whiten_83 : decode cX7_whiten 83 = .ok (.iload 6, 2) := by decide +kernel
theorem dX7_whiten_85 : decode cX7_whiten 85 = .ok (.invokestatic 111, 3) := by decide +kernel
theorem dX7_whiten_88 : decode cX7_whiten 88 = .ok (.ifCond .eq 7, 3) := by decide +kernel
theorem dX7_whiten_91 : decode cX7_whiten 91 = .ok (.iconst 0, 1) := by decide +kernel
theorem dX7_whiten_92 : decode cX7_whiten 92 = .ok (.goto 10, 3) := by decide +kernel
theorem dX7_whiten_95 : decode cX7_whiten 95 = .ok (.aload_n 0, 1) := by decide +kernel
theorem dX7_whiten_96 : decode cX7_whiten 96 = .ok (.getfield 41, 3) := by decide +kernel
theorem dX7_whiten_99 : decode cX7_whiten 99 = .ok (.iload 6, 2) := by decide +kernel
theorem dX7_whiten_101 : decode cX7_whiten 101 = .ok (.iaload, 1) := by decide +kernel
theorem dX7_whiten_102 : decode cX7_whiten 102 = .ok (.iastore, 1) := by decide +kernel
theorem dX7_whiten_103 : decode cX7_whiten 103 = .ok (.iinc 6 1, 3) := by decide +kernel
theorem dX7_whiten_106 : decode cX7_whiten 106 = .ok (.goto (-37), 3) := by decide +kernel
theorem dX7_whiten_109 : decode cX7_whiten 109 = .ok (.iconst 1, 1) := by decide +kernel
theorem dX7_whiten_110 : decode cX7_whiten 110 = .ok (.istore 6, 2) := by decide +kernel
theorem dX7_whiten_112 : decode cX7_whiten 112 = .ok (.iconst 0, 1) := by decide +kernel
theorem dX7_whiten_113 : decode cX7_whiten 113 = .ok (.istore 7, 2) := by decide +kernel
theorem dX7_whiten_115 : decode cX7_whiten 115 = .ok (.iload 7, 2) := by decide +kernel
theorem dX7_whiten_117 : decode cX7_whiten 117 = .ok (.bipush 61, 2) := by decide +kernel
theorem dX7_whiten_119 : decode cX7_whiten 119 = .ok (.if_icmp .ge 58, 3) := by decide +kernel
theorem dX7_whiten_122 : decode cX7_whiten 122 = .ok (.iload 6, 2) := by decide +kernel
theorem dX7_whiten_124 : decode cX7_whiten 124 = .ok (.ifCond .eq 40, 3) := by decide +kernel
theorem dX7_whiten_127 : decode cX7_whiten 127 = .ok (.iload 7, 2) := by decide +kernel
theorem dX7_whiten_129 : decode cX7_whiten 129 = .ok (.iload_n 1, 1) := by decide +kernel
theorem dX7_whiten_130 : decode cX7_whiten 130 = .ok (.if_icmp .lt 30, 3) := by decide +kernel
theorem dX7_whiten_133 : decode cX7_whiten 133 = .ok (.aload_n 0, 1) := by decide +kernel
theorem dX7_whiten_134 : decode cX7_whiten 134 = .ok (.iconst 0, 1) := by decide +kernel
theorem dX7_whiten_135 : decode cX7_whiten 135 = .ok (.invokevirtual 105, 3) := by decide +kernel
theorem dX7_whiten_138 : decode cX7_whiten 138 = .ok (.iload_n 2, 1) := by decide +kernel
theorem dX7_whiten_139 : decode cX7_whiten 139 = .ok (.if_icmp .gt 25, 3) := by decide +kernel
theorem dX7_whiten_142 : decode cX7_whiten 142 = .ok (.aload_n 0, 1) := by decide +kernel
theorem dX7_whiten_143 : decode cX7_whiten 143 = .ok (.iconst 1, 1) := by decide +kernel
theorem dX7_whiten_144 : decode cX7_whiten 144 = .ok (.invokevirtual 105, 3) := by decide +kernel
theorem dX7_whiten_147 : decode cX7_whiten 147 = .ok (.iload_n 2, 1) := by decide +kernel
theorem dX7_whiten_148 : decode cX7_whiten 148 = .ok (.if_icmp .gt 16, 3) := by decide +kernel
theorem dX7_whiten_151 : decode cX7_whiten 151 = .ok (.aload_n 0, 1) := by decide +kernel
theorem dX7_whiten_152 : decode cX7_whiten 152 = .ok (.iconst 2, 1) := by decide +kernel
theorem dX7_whiten_153 : decode cX7_whiten 153 = .ok (.invokevirtual 105, 3) := by decide +kernel
theorem dX7_whiten_156 : decode cX7_whiten 156 = .ok (.iload_n 2, 1) := by decide +kernel
theorem dX7_whiten_157 : decode cX7_whiten 157 = .ok (.if_icmp .gt 7, 3) := by decide +kernel
theorem dX7_whiten_160 : decode cX7_whiten 160 = .ok (.iconst 1, 1) := by decide +kernel
theorem dX7_whiten_161 : decode cX7_whiten 161 = .ok (.goto 4, 3) := by decide +kernel
theorem dX7_whiten_164 : decode cX7_whiten 164 = .ok (.iconst 0, 1) := by decide +kernel
theorem dX7_whiten_165 : decode cX7_whiten 165 = .ok (.istore 6, 2) := by decide +kernel
theorem dX7_whiten_167 : decode cX7_whiten 167 = .ok (.aload_n 0, 1) := by decide +kernel
theorem dX7_whiten_168 : decode cX7_whiten 168 = .ok (.invokevirtual 108, 3) := by decide +kernel
theorem dX7_whiten_171 : decode cX7_whiten 171 = .ok (.iinc 7 1, 3) := by decide +kernel
theorem dX7_whiten_174 : decode cX7_whiten 174 = .ok (.goto (-59), 3) := by decide +kernel
theorem dX7_whiten_177 : decode cX7_whiten 177 = .ok (.iload 6, 2) := by decide +kernel
theorem dX7_whiten_179 : decode cX7_whiten 179 = .ok (.ifCond .eq 8, 3) := by decide +kernel
theorem dX7_whiten_182 : decode cX7_whiten 182 = .ok (.iload 5, 2) := by decide +kernel
theorem dX7_whiten_184 : decode cX7_whiten 184 = .ok (.goto 5, 3) := by decide +kernel
theorem dX7_whiten_187 : decode cX7_whiten 187 = .ok (.iload 4, 2) := by decide +kernel
theorem dX7_whiten_189 : decode cX7_whiten 189 = .ok (.istore 4, 2) := by decide +kernel
theorem dX7_whiten_191 : decode cX7_whiten 191 = .ok (.iinc 5 1, 3) := by decide +kernel
theorem dX7_whiten_194 : decode cX7_whiten 194 = .ok (.goto (-157), 3) := by decide +kernel
theorem dX7_whiten_197 : decode cX7_whiten 197 = .ok (.iload 4, 2) := by decide +kernel
theorem dX7_whiten_199 : decode cX7_whiten 199 = .ok (.ifCond .lt 8, 3) := by decide +kernel
theorem dX7_whiten_202 : decode cX7_whiten 202 = .ok (.iload_n 3, 1) := by decide +kernel
theorem dX7_whiten_203 : decode cX7_whiten 203 = .ok (.iconst 1, 1) := by decide +kernel
theorem dX7_whiten_204 : decode cX7_whiten 204 = .ok (.if_icmp .ne 8, 3) := by decide +kernel
theorem dX7_whiten_207 : decode cX7_whiten 207 = .ok (.iload 4, 2) := by decide +kernel
theorem dX7_whiten_209 : decode cX7_whiten 209 = .ok (.goto 8, 3) := by decide +kernel
theorem dX7_whiten_212 : decode cX7_whiten 212 = .ok (.iload 4, 2) := by decide +kernel
theorem dX7_whiten_214 : decode cX7_whiten 214 = .ok (.invokestatic 160, 3) := by decide +kernel
theorem dX7_whiten_217 : decode cX7_whiten 217 = .ok (.ireturn, 1) := by decide +kernel
set_option maxRecDepth 20000 in
theorem ggX7_apart_X7_in : GoodIn wsX7_apart wsX7_in := goodIn_r _ [5] (by decide +kernel) (by decide +kernel)
set_option maxRecDepth 20000 in
theorem gX7_apart_X7_in : GoodIn wsX7_apart (va_wsS RX7 63 yX7_in wsX7_in) := goodIn_app (goodIn_of _ (by decide +kernel)) ggX7_apart_X7_in
set_option maxRecDepth 20000 in
theorem ggX7_apart_X7_isDay : GoodIn wsX7_apart wsX7_isDay := goodIn_r _ [8, 2, 3, 4, 5] (by decide +kernel) (by decide +kernel)
set_option maxRecDepth 20000 in
theorem gX7_apart_X7_isDay : GoodIn wsX7_apart (va_wsS RX7 144 yX7_isDay wsX7_isDay) := goodIn_app (goodIn_of _ (by decide +kernel)) ggX7_apart_X7_isDay
set_option maxRecDepth 20000 in
theorem ggX7_apart_X7_empty : GoodIn wsX7_apart wsX7_empty := goodIn_r _ [12, 13, 14, 15, 16, 17, 18, 19, 4, 20, 21, 22, 23, 24, 25, 26, 27, 28, 29, 30, 52, 53, 54, 55, 56, 57, 58, 59, 60, 61, 62, 63, 64, 65, 66, 67, 68, 69, 70, 71, 72, 73, 74, 75, 76, 77, 78, 79, 80, 81] (by decide +kernel) (by decide +kernel)
set_option maxRecDepth 20000 in
theorem gX7_apart_X7_empty : GoodIn wsX7_apart (wsV RX7 163 RX7 yX7_empty wsX7_empty) := goodIn_app (goodIn_of _ (by decide +kernel)) ggX7_apart_X7_empty
set_option maxRecDepth 20000 in
theorem ggX7_apart_X7_wear : GoodIn wsX7_apart wsX7_wear := goodIn_r _ [34, 13, 35, 52, 53, 54, 55, 56, 57, 58, 59, 60, 61, 62, 63, 64, 65, 66, 67, 68, 69, 70, 71, 72, 73, 74, 75, 76, 77, 78, 79, 80, 81] (by decide +kernel) (by decide +kernel)
set_option maxRecDepth 20000 in
theorem gX7_apart_X7_wear : GoodIn wsX7_apart (wsV RX7 134 RX7 yX7_wear wsX7_wear) := goodIn_app (goodIn_of _ (by decide +kernel)) ggX7_apart_X7_wear
set_option maxRecDepth 20000 in
theorem ggX7_apart_X7_waits : GoodIn wsX7_apart wsX7_waits := goodIn_r _ [39, 40, 41, 42, 4, 43, 14, 16, 13, 15, 28, 30, 44, 45, 46, 47, 23, 48, 52, 53, 54, 55, 56, 57, 58, 59, 60, 61, 62, 63, 64, 65, 66, 67, 68, 69, 70, 71, 72, 73, 74, 75, 76, 77, 78, 79, 80, 81] (by decide +kernel) (by decide +kernel)
set_option maxRecDepth 20000 in
theorem gX7_apart_X7_waits : GoodIn wsX7_apart (wsV RX7 148 RX7 yX7_waits wsX7_waits) := goodIn_app (goodIn_of _ (by decide +kernel)) ggX7_apart_X7_waits
set_option maxRecDepth 20000 in
theorem ggX7_apart_X7_see : GoodIn wsX7_apart wsX7_see := goodIn_r _ [47, 13, 15, 16, 23, 14, 48, 52, 53, 54, 55, 56, 57, 58, 59, 60, 61, 62, 63, 64, 65, 66, 67, 68, 69, 70, 71, 72, 73, 74, 75, 76, 77, 78, 79, 80, 81] (by decide +kernel) (by decide +kernel)
set_option maxRecDepth 20000 in
theorem gX7_apart_X7_see : GoodIn wsX7_apart (wsV RX7 105 RX7 yX7_see wsX7_see) := goodIn_app (goodIn_of _ (by decide +kernel)) ggX7_apart_X7_see
set_option maxRecDepth 20000 in
theorem ggX7_apart_X7_has : GoodIn wsX7_apart wsX7_has := goodIn_r _ [51] (by decide +kernel) (by decide +kernel)
set_option maxRecDepth 20000 in
theorem gX7_apart_X7_has : GoodIn wsX7_apart (va_wsS RX7 111 yX7_has wsX7_has) := goodIn_app (goodIn_of _ (by decide +kernel)) ggX7_apart_X7_has
theorem dX7_apart_0 : decode cX7_apart 0 = .ok (.iload_n 1, 1) := by decide +kernel
theorem dX7_apart_1 : decode cX7_apart 1 = .ok (.iconst 0, 1) := by decide +kernel
theorem dX7_apart_2 : decode cX7_apart 2 = .ok (.bipush 63, 2) := by decide +kernel
theorem dX7_apart_4 : decode cX7_apart 4 = .ok (.invokestatic 63, 3) := by decide +kernel
theorem dX7_apart_7 : decode cX7_apart 7 = .ok (.ifCond .ne 5, 3) := by decide +kernel
theorem dX7_apart_10 : decode cX7_apart 10 = .ok (.iconst (-1), 1) := by decide +kernel
theorem dX7_apart_11 : decode cX7_apart 11 = .ok (.ireturn, 1) := by decide +kernel
theorem dX7_apart_12 : decode cX7_apart 12 = .ok (.iload_n 2, 1) := by decide +kernel
theorem dX7_apart_13 : decode cX7_apart 13 = .ok (.invokestatic 144, 3) := by decide +kernel
theorem dX7_apart_16 : decode cX7_apart 16 = .ok (.ifCond .ne 6, 3) := by decide +kernel
theorem dX7_apart_19 : decode cX7_apart 19 = .ok (.bipush (-2), 2) := by decide +kernel
theorem dX7_apart_21 : decode cX7_apart 21 = .ok (.ireturn, 1) := by decide +kernel
theorem dX7_apart_22 : decode cX7_apart 22 = .ok (.iconst 0, 1) := by decide +kernel
theorem dX7_apart_23 : decode cX7_apart 23 = .ok (.istore 4, 2) := by decide +kernel
theorem dX7_apart_25 : decode cX7_apart 25 = .ok (.iload 4, 2) := by decide +kernel
theorem dX7_apart_27 : decode cX7_apart 27 = .ok (.bipush 6, 2) := by decide +kernel
theorem dX7_apart_29 : decode cX7_apart 29 = .ok (.if_icmp .ge 57, 3) := by decide +kernel
theorem dX7_apart_32 : decode cX7_apart 32 = .ok (.aload_n 0, 1) := by decide +kernel
theorem dX7_apart_33 : decode cX7_apart 33 = .ok (.invokevirtual 163, 3) := by decide +kernel
theorem dX7_apart_36 : decode cX7_apart 36 = .ok (.aload_n 0, 1) := by decide +kernel
theorem dX7_apart_37 : decode cX7_apart 37 = .ok (.iload 4, 2) := by decide +kernel
theorem dX7_apart_39 : decode cX7_apart 39 = .ok (.invokevirtual 134, 3) := by decide +kernel
theorem dX7_apart_42 : decode cX7_apart 42 = .ok (.aload_n 0, 1) := by decide +kernel
theorem dX7_apart_43 : decode cX7_apart 43 = .ok (.iload_n 2, 1) := by decide +kernel
theorem dX7_apart_44 : decode cX7_apart 44 = .ok (.invokevirtual 148, 3) := by decide +kernel
theorem dX7_apart_47 : decode cX7_apart 47 = .ok (.iconst 0, 1) := by decide +kernel
theorem dX7_apart_48 : decode cX7_apart 48 = .ok (.istore 5, 2) := by decide +kernel
theorem dX7_apart_50 : decode cX7_apart 50 = .ok (.iload 5, 2) := by decide +kernel
theorem dX7_apart_52 : decode cX7_apart 52 = .ok (.iconst 3, 1) := by decide +kernel
theorem dX7_apart_53 : decode cX7_apart 53 = .ok (.if_icmp .ge 27, 3) := by decide +kernel
theorem dX7_apart_56 : decode cX7_apart 56 = .ok (.aload_n 0, 1) := by decide +kernel
theorem dX7_apart_57 : decode cX7_apart 57 = .ok (.getfield 44, 3) := by decide +kernel
theorem dX7_apart_60 : decode cX7_apart 60 = .ok (.iconst 3, 1) := by decide +kernel
theorem dX7_apart_61 : decode cX7_apart 61 = .ok (.iload 4, 2) := by decide +kernel
theorem dX7_apart_63 : decode cX7_apart 63 = .ok (.imul, 1) := by decide +kernel
theorem dX7_apart_64 : decode cX7_apart 64 = .ok (.iload 5, 2) := by decide +kernel
theorem dX7_apart_66 : decode cX7_apart 66 = .ok (.iadd, 1) := by decide +kernel
theorem dX7_apart_67 : decode cX7_apart 67 = .ok (.aload_n 0, 1) := by decide +kernel
theorem dX7_apart_68 : decode cX7_apart 68 = .ok (.iload 5, 2) := by decide +kernel
theorem dX7_apart_70 : decode cX7_apart 70 = .ok (.invokevirtual 105, 3) := by decide +kernel
theorem dX7_apart_73 : decode cX7_apart 73 = .ok (.iastore, 1) := by decide +kernel
theorem dX7_apart_74 : decode cX7_apart 74 = .ok (.iinc 5 1, 3) := by decide +kernel
theorem dX7_apart_77 : decode cX7_apart 77 = .ok (.goto (-27), 3) := by decide +kernel
theorem dX7_apart_80 : decode cX7_apart 80 = .ok (.iinc 4 1, 3) := by decide +kernel
theorem dX7_apart_83 : decode cX7_apart 83 = .ok (.goto (-58), 3) := by decide +kernel
theorem dX7_apart_86 : decode cX7_apart 86 = .ok (.iconst 0, 1) := by decide +kernel
theorem dX7_apart_87 : decode cX7_apart 87 = .ok (.istore 4, 2) := by decide +kernel
theorem dX7_apart_89 : decode cX7_apart 89 = .ok (.iconst 0, 1) := by decide +kernel
theorem dX7_apart_90 : decode cX7_apart 90 = .ok (.istore 5, 2) := by decide +kernel
theorem dX7_apart_92 : decode cX7_apart 92 = .ok (.iload 5, 2) := by decide +kernel
theorem dX7_apart_94 : decode cX7_apart 94 = .ok (.bipush 6, 2) := by decide +kernel
theorem dX7_apart_96 : decode cX7_apart 96 = .ok (.if_icmp .ge 130, 3) := by decide +kernel
theorem dX7_apart_99 : decode cX7_apart 99 = .ok (.iload 5, 2) := by decide +kernel
theorem dX7_apart_101 : decode cX7_apart 101 = .ok (.iconst 1, 1) := by decide +kernel
theorem dX7_apart_102 : decode cX7_apart 102 = .ok (.iadd, 1) := by decide +kernel
theorem dX7_apart_103 : decode cX7_apart 103 = .ok (.istore 6, 2) := by decide +kernel
theorem dX7_apart_105 : decode cX7_apart 105 = .ok (.iload 6, 2) := by decide +kernel
theorem dX7_apart_107 : decode cX7_apart 107 = .ok (.bipush 6, 2) := by decide +kernel
theorem dX7_apart_109 : decode cX7_apart 109 = .ok (.if_icmp .ge 111, 3) := by decide +kernel
theorem dX7_apart_112 : decode cX7_apart 112 = .ok (.iload_n 1, 1) := by decide +kernel
theorem dX7_apart_113 : decode cX7_apart 113 = .ok (.iload 5, 2) := by decide +kernel
theorem dX7_apart_115 : decode cX7_apart 115 = .ok (.invokestatic 111, 3) := by decide +kernel
theorem dX7_apart_118 : decode cX7_apart 118 = .ok (.ifCond .eq 16, 3) := by decide +kernel
theorem dX7_apart_121 : decode cX7_apart 121 = .ok (.iload_n 1, 1) := by decide +kernel
theorem dX7_apart_122 : decode cX7_apart 122 = .ok (.iload 6, 2) := by decide +kernel
theorem dX7_apart_124 : decode cX7_apart 124 = .ok (.invokestatic 111, 3) := by decide +kernel
theorem dX7_apart_127 : decode cX7_apart 127 = .ok (.ifCond .eq 7, 3) := by decide +kernel
theorem dX7_apart_130 : decode cX7_apart 130 = .ok (.iconst 1, 1) := by decide +kernel
theorem dX7_apart_131 : decode cX7_apart 131 = .ok (.goto 4, 3) := by decide +kernel
theorem dX7_apart_134 : decode cX7_apart 134 = .ok (.iconst 0, 1) := by decide +kernel
theorem dX7_apart_135 : decode cX7_apart 135 = .ok (.istore 7, 2) := by decide +kernel
theorem dX7_apart_137 : decode cX7_apart 137 = .ok (.iconst 0, 1) := by decide +kernel
theorem dX7_apart_138 : decode cX7_apart 138 = .ok (.istore 8, 2) := by decide +kernel
theorem dX7_apart_140 : decode cX7_apart 140 = .ok (.iload 8, 2) := by decide +kernel
theorem dX7_apart_142 : decode cX7_apart 142 = .ok (.iconst 3, 1) := by decide +kernel
theorem dX7_apart_143 : decode cX7_apart 143 = .ok (.if_icmp .ge 48, 3) := by decide +kernel
theorem dX7_apart_146 : decode cX7_apart 146 = .ok (.iload 7, 2) := by decide +kernel
theorem dX7_apart_148 : decode cX7_apart 148 = .ok (.ifCond .eq 34, 3) := by decide +kernel
theorem dX7_apart_151 : decode cX7_apart 151 = .ok (.aload_n 0, 1) := by decide +kernel
theorem dX7_apart_152 : decode cX7_apart 152 = .ok (.getfield 44, 3) := by decide +kernel
theorem dX7_apart_155 : decode cX7_apart 155 = .ok (.iconst 3, 1) := by decide +kernel
theorem dX7_apart_156 : decode cX7_apart 156 = .ok (.iload 5, 2) := by decide +kernel
theorem dX7_apart_158 : decode cX7_apart 158 = .ok (.imul, 1) := by decide +kernel
theorem dX7_apart_159 : decode cX7_apart 159 = .ok (.iload 8, 2) := by decide +kernel
theorem dX7_apart_161 : decode cX7_apart 161 = .ok (.iadd, 1) := by decide +kernel
theorem dX7_apart_162 : decode cX7_apart 162 = .ok (.iaload, 1) := by decide +kernel
theorem dX7_apart_163 : decode cX7_apart 163 = .ok (.aload_n 0, 1) := by decide +kernel
theorem dX7_apart_164 : decode cX7_apart 164 = .ok (.getfield 44, 3) := by decide +kernel
theorem dX7_apart_167 : decode cX7_apart 167 = .ok (.iconst 3, 1) := by decide +kernel
theorem dX7_apart_168 : decode cX7_apart 168 = .ok (.iload 6, 2) := by decide +kernel
theorem dX7_apart_170 : decode cX7_apart 170 = .ok (.imul, 1) := by decide +kernel
theorem dX7_apart_171 : decode cX7_apart 171 = .ok (.iload 8, 2) := by decide +kernel
theorem dX7_apart_173 : decode cX7_apart 173 = .ok (.iadd, 1) := by decide +kernel
theorem dX7_apart_174 : decode cX7_apart 174 = .ok (.iaload, 1) := by decide +kernel
theorem dX7_apart_175 : decode cX7_apart 175 = .ok (.if_icmp .ne 7, 3) := by decide +kernel
theorem dX7_apart_178 : decode cX7_apart 178 = .ok (.iconst 1, 1) := by decide +kernel
theorem dX7_apart_179 : decode cX7_apart 179 = .ok (.goto 4, 3) := by decide +kernel
theorem dX7_apart_182 : decode cX7_apart 182 = .ok (.iconst 0, 1) := by decide +kernel
theorem dX7_apart_183 : decode cX7_apart 183 = .ok (.istore 7, 2) := by decide +kernel
theorem dX7_apart_185 : decode cX7_apart 185 = .ok (.iinc 8 1, 3) := by decide +kernel
theorem dX7_apart_188 : decode cX7_apart 188 = .ok (.goto (-48), 3) := by decide +kernel
theorem dX7_apart_191 : decode cX7_apart 191 = .ok (.iload 7, 2) := by decide +kernel
theorem dX7_apart_193 : decode cX7_apart 193 = .ok (.ifCond .eq 21, 3) := by decide +kernel
theorem dX7_apart_196 : decode cX7_apart 196 = .ok (.iload 4, 2) := by decide +kernel
theorem dX7_apart_198 : decode cX7_apart 198 = .ok (.iload_n 3, 1) := by decide +kernel
theorem dX7_apart_199 : decode cX7_apart 199 = .ok (.if_icmp .ne 12, 3) := by decide +kernel
theorem dX7_apart_202 : decode cX7_apart 202 = .ok (.bipush 10, 2) := by decide +kernel
theorem dX7_apart_204 : decode cX7_apart 204 = .ok (.iload 5, 2) := by decide +kernel
theorem dX7_apart_206 : decode cX7_apart 206 = .ok (.imul, 1) := by decide +kernel
theorem dX7_apart_207 : decode cX7_apart 207 = .ok (.iload 6, 2) := by decide +kernel
theorem dX7_apart_209 : decode cX7_apart 209 = .ok (.iadd, 1) := by decide +kernel
theorem dX7_apart_210 : decode cX7_apart 210 = .ok (.ireturn, 1) := by decide +kernel
theorem dX7_apart_211 : decode cX7_apart 211 = .ok (.iinc 4 1, 3) := by decide +kernel
theorem dX7_apart_214 : decode cX7_apart 214 = .ok (.iinc 6 1, 3) := by decide +kernel
theorem dX7_apart_217 : decode cX7_apart 217 = .ok (.goto (-112), 3) := by decide +kernel
theorem dX7_apart_220 : decode cX7_apart 220 = .ok (.iinc 5 1, 3) := by decide +kernel
theorem dX7_apart_223 : decode cX7_apart 223 = .ok (.goto (-131), 3) := by decide +kernel
theorem dX7_apart_226 : decode cX7_apart 226 = .ok (.iload_n 3, 1) := by decide +kernel
theorem dX7_apart_227 : decode cX7_apart 227 = .ok (.iconst (-1), 1) := by decide +kernel
theorem dX7_apart_228 : decode cX7_apart 228 = .ok (.if_icmp .ne 8, 3) := by decide +kernel
theorem dX7_apart_231 : decode cX7_apart 231 = .ok (.iload 4, 2) := by decide +kernel
theorem dX7_apart_233 : decode cX7_apart 233 = .ok (.goto 5, 3) := by decide +kernel
theorem dX7_apart_236 : decode cX7_apart 236 = .ok (.bipush (-6), 2) := by decide +kernel
theorem dX7_apart_238 : decode cX7_apart 238 = .ok (.ireturn, 1) := by decide +kernel
set_option maxRecDepth 20000 in
theorem ggX7_allBehind_X7_empty : GoodIn wsX7_allBehind wsX7_empty := goodIn_r _ [5, 6, 7, 8, 9, 10, 11, 12, 4, 13, 14, 15, 16, 17, 18, 19, 20, 21, 22, 23, 46, 47, 48, 49, 50, 51, 52, 53, 54, 55, 56, 57, 58, 59, 60, 61, 62, 63, 64, 65, 66, 67, 68, 69, 70, 71, 72, 73, 74, 75] (by decide +kernel) (by decide +kernel)
set_option maxRecDepth 20000 in
theorem gX7_allBehind_X7_empty : GoodIn wsX7_allBehind (wsV RX7 163 RX7 yX7_empty wsX7_empty) := goodIn_app (goodIn_of _ (by decide +kernel)) ggX7_allBehind_X7_empty
set_option maxRecDepth 20000 in
theorem ggX7_allBehind_X7_wear : GoodIn wsX7_allBehind wsX7_wear := goodIn_r _ [27, 6, 28, 46, 47, 48, 49, 50, 51, 52, 53, 54, 55, 56, 57, 58, 59, 60, 61, 62, 63, 64, 65, 66, 67, 68, 69, 70, 71, 72, 73, 74, 75] (by decide +kernel) (by decide +kernel)
set_option maxRecDepth 20000 in
theorem gX7_allBehind_X7_wear : GoodIn wsX7_allBehind (wsV RX7 134 RX7 yX7_wear wsX7_wear) := goodIn_app (goodIn_of _ (by decide +kernel)) ggX7_allBehind_X7_wear
set_option maxRecDepth 20000 in
theorem ggX7_allBehind_X7_waits : GoodIn wsX7_allBehind wsX7_waits := goodIn_r _ [32, 33, 34, 35, 4, 36, 7, 9, 6, 8, 21, 23, 37, 38, 39, 40, 16, 41, 46, 47, 48, 49, 50, 51, 52, 53, 54, 55, 56, 57, 58, 59, 60, 61, 62, 63, 64, 65, 66, 67, 68, 69, 70, 71, 72, 73, 74, 75] (by decide +kernel) (by decide +kernel)
set_option maxRecDepth 20000 in
theorem gX7_allBehind_X7_waits : GoodIn wsX7_allBehind (wsV RX7 148 RX7 yX7_waits wsX7_waits) := goodIn_app (goodIn_of _ (by decide +kernel)) ggX7_allBehind_X7_waits
set_option maxRecDepth 20000 in
theorem ggX7_allBehind_X7_seeAll : GoodIn wsX7_allBehind wsX7_seeAll := goodIn_r _ [45, 37, 38, 39, 4, 40, 6, 8, 9, 16, 7, 41, 46, 47, 48, 49, 50, 51, 52, 53, 54, 55, 56, 57, 58, 59, 60, 61, 62, 63, 64, 65, 66, 67, 68, 69, 70, 71, 72, 73, 74, 75] (by decide +kernel) (by decide +kernel)
set_option maxRecDepth 20000 in
theorem gX7_allBehind_X7_seeAll : GoodIn wsX7_allBehind (wsV RX7 151 RX7 yX7_seeAll wsX7_seeAll) := goodIn_app (goodIn_of _ (by decide +kernel)) ggX7_allBehind_X7_seeAll
theorem dX7_allBehind_0 : decode cX7_allBehind 0 = .ok (.aload_n 0, 1) := by decide +kernel
theorem dX7_allBehind_1 : decode cX7_allBehind 1 = .ok (.invokevirtual 163, 3) := by decide +kernel
theorem dX7_allBehind_4 : decode cX7_allBehind 4 = .ok (.aload_n 0, 1) := by decide +kernel
theorem dX7_allBehind_5 : decode cX7_allBehind 5 = .ok (.iload_n 1, 1) := by decide +kernel
theorem dX7_allBehind_6 : decode cX7_allBehind 6 = .ok (.invokevirtual 134, 3) := by decide +kernel
theorem dX7_allBehind_9 : decode cX7_allBehind 9 = .ok (.iload_n 2, 1) := by decide +kernel
theorem dX7_allBehind_10 : decode cX7_allBehind 10 = .ok (.ifCond .lt 8, 3) := by decide +kernel
theorem dX7_allBehind_13 : decode cX7_allBehind 13 = .ok (.aload_n 0, 1) := by decide +kernel
theorem dX7_allBehind_14 : decode cX7_allBehind 14 = .ok (.iload_n 2, 1) := by decide +kernel
theorem dX7_allBehind_15 : decode cX7_allBehind 15 = .ok (.invokevirtual 134, 3) := by decide +kernel
theorem dX7_allBehind_18 : decode cX7_allBehind 18 = .ok (.aload_n 0, 1) := by decide +kernel
theorem dX7_allBehind_19 : decode cX7_allBehind 19 = .ok (.iload_n 3, 1) := by decide +kernel
theorem dX7_allBehind_20 : decode cX7_allBehind 20 = .ok (.invokevirtual 148, 3) := by decide +kernel
theorem dX7_allBehind_23 : decode cX7_allBehind 23 = .ok (.aload_n 0, 1) := by decide +kernel
theorem dX7_allBehind_24 : decode cX7_allBehind 24 = .ok (.invokevirtual 151, 3) := by decide +kernel
theorem dX7_allBehind_27 : decode cX7_allBehind 27 = .ok (.ireturn, 1) := by decide +kernel
set_option maxRecDepth 20000 in
theorem ggX7_spoil_X7_in : GoodIn wsX7_spoil wsX7_in := goodIn_r _ [4] (by decide +kernel) (by decide +kernel)
set_option maxRecDepth 20000 in
theorem gX7_spoil_X7_in : GoodIn wsX7_spoil (va_wsS RX7 63 yX7_in wsX7_in) := goodIn_app (goodIn_of _ (by decide +kernel)) ggX7_spoil_X7_in
set_option maxRecDepth 20000 in
theorem ggX7_spoil_X7_isDay : GoodIn wsX7_spoil wsX7_isDay := goodIn_r _ [7, 1, 2, 3, 4] (by decide +kernel) (by decide +kernel)
set_option maxRecDepth 20000 in
theorem gX7_spoil_X7_isDay : GoodIn wsX7_spoil (va_wsS RX7 144 yX7_isDay wsX7_isDay) := goodIn_app (goodIn_of _ (by decide +kernel)) ggX7_spoil_X7_isDay
set_option maxRecDepth 20000 in
theorem ggX7_spoil_X7_allBehind : GoodIn wsX7_spoil wsX7_allBehind := goodIn_r _ [11, 12, 13, 14, 3, 15, 16, 17, 18, 19, 20, 21, 22, 23, 24, 25, 26, 27, 28, 29, 30, 31, 32, 33, 34, 35, 36, 37, 38, 39, 40, 41, 42, 43, 44, 45, 46, 47, 48, 49, 50, 51, 52, 53, 54, 55, 56, 57, 58, 59, 60, 61, 62, 63, 64, 65, 66, 67, 68, 69, 70, 71, 72, 73, 74, 75, 76, 77, 78, 79, 80, 81, 82, 83, 84, 85] (by decide +kernel) (by decide +kernel)
set_option maxRecDepth 20000 in
theorem gX7_spoil_X7_allBehind : GoodIn wsX7_spoil (wsV RX7 166 RX7 yX7_allBehind wsX7_allBehind) := goodIn_app (goodIn_of _ (by decide +kernel)) ggX7_spoil_X7_allBehind
theorem dX7_spoil_0 : decode cX7_spoil 0 = .ok (.iload_n 1, 1) := by decide +kernel
theorem dX7_spoil_1 : decode cX7_spoil 1 = .ok (.iconst 0, 1) := by decide +kernel
theorem dX7_spoil_2 : decode cX7_spoil 2 = .ok (.iconst 5, 1) := by decide +kernel
theorem dX7_spoil_3 : decode cX7_spoil 3 = .ok (.invokestatic 63, 3) := by decide +kernel
theorem dX7_spoil_6 : decode cX7_spoil 6 = .ok (.ifCond .eq 17, 3) := by decide +kernel
theorem dX7_spoil_9 : decode cX7_spoil 9 = .ok (.iload_n 2, 1) := by decide +kernel
theorem dX7_spoil_10 : decode cX7_spoil 10 = .ok (.iconst 0, 1) := by decide +kernel
theorem dX7_spoil_11 : decode cX7_spoil 11 = .ok (.iconst 5, 1) := by decide +kernel
theorem dX7_spoil_12 : decode cX7_spoil 12 = .ok (.invokestatic 63, 3) := by decide +kernel
theorem dX7_spoil_15 : decode cX7_spoil 15 = .ok (.ifCond .eq 8, 3) := by decide +kernel
theorem dX7_spoil_18 : decode cX7_spoil 18 = .ok (.iload_n 1, 1) := by decide +kernel
theorem dX7_spoil_19 : decode cX7_spoil 19 = .ok (.iload_n 2, 1) := by decide +kernel
theorem dX7_spoil_20 : decode cX7_spoil 20 = .ok (.if_icmp .ne 5, 3) := by decide +kernel
theorem dX7_spoil_23 : decode cX7_spoil 23 = .ok (.iconst (-1), 1) := by decide +kernel
theorem dX7_spoil_24 : decode cX7_spoil 24 = .ok (.ireturn, 1) := by decide +kernel
theorem dX7_spoil_25 : decode cX7_spoil 25 = .ok (.iload_n 3, 1) := by decide +kernel
theorem dX7_spoil_26 : decode cX7_spoil 26 = .ok (.invokestatic 144, 3) := by decide +kernel
theorem dX7_spoil_29 : decode cX7_spoil 29 = .ok (.ifCond .ne 6, 3) := by decide +kernel
theorem dX7_spoil_32 : decode cX7_spoil 32 = .ok (.bipush (-2), 2) := by decide +kernel
theorem dX7_spoil_34 : decode cX7_spoil 34 = .ok (.ireturn, 1) := by decide +kernel
theorem dX7_spoil_35 : decode cX7_spoil 35 = .ok (.aload_n 0, 1) := by decide +kernel
theorem dX7_spoil_36 : decode cX7_spoil 36 = .ok (.iload_n 1, 1) := by decide +kernel
theorem dX7_spoil_37 : decode cX7_spoil 37 = .ok (.iload_n 2, 1) := by decide +kernel
theorem dX7_spoil_38 : decode cX7_spoil 38 = .ok (.iload_n 3, 1) := by decide +kernel
theorem dX7_spoil_39 : decode cX7_spoil 39 = .ok (.invokevirtual 166, 3) := by decide +kernel
theorem dX7_spoil_42 : decode cX7_spoil 42 = .ok (.aload_n 0, 1) := by decide +kernel
theorem dX7_spoil_43 : decode cX7_spoil 43 = .ok (.iload_n 1, 1) := by decide +kernel
theorem dX7_spoil_44 : decode cX7_spoil 44 = .ok (.bipush (-6), 2) := by decide +kernel
theorem dX7_spoil_46 : decode cX7_spoil 46 = .ok (.iload_n 3, 1) := by decide +kernel
theorem dX7_spoil_47 : decode cX7_spoil 47 = .ok (.invokevirtual 166, 3) := by decide +kernel
theorem dX7_spoil_50 : decode cX7_spoil 50 = .ok (.isub, 1) := by decide +kernel
theorem dX7_spoil_51 : decode cX7_spoil 51 = .ok (.aload_n 0, 1) := by decide +kernel
theorem dX7_spoil_52 : decode cX7_spoil 52 = .ok (.iload_n 2, 1) := by decide +kernel
theorem dX7_spoil_53 : decode cX7_spoil 53 = .ok (.bipush (-6), 2) := by decide +kernel
theorem dX7_spoil_55 : decode cX7_spoil 55 = .ok (.iload_n 3, 1) := by decide +kernel
theorem dX7_spoil_56 : decode cX7_spoil 56 = .ok (.invokevirtual 166, 3) := by decide +kernel
theorem dX7_spoil_59 : decode cX7_spoil 59 = .ok (.isub, 1) := by decide +kernel
theorem dX7_spoil_60 : decode cX7_spoil 60 = .ok (.sipush 3000, 3) := by decide +kernel
theorem dX7_spoil_63 : decode cX7_spoil 63 = .ok (.iadd, 1) := by decide +kernel
theorem dX7_spoil_64 : decode cX7_spoil 64 = .ok (.ireturn, 1) := by decide +kernel
set_option maxRecDepth 20000 in
theorem ggX7_seen_X7_isDay : GoodIn wsX7_seen wsX7_isDay := goodIn_r _ [6, 7, 8, 5, 9] (by decide +kernel) (by decide +kernel)
set_option maxRecDepth 20000 in
theorem gX7_seen_X7_isDay : GoodIn wsX7_seen (va_wsS RX7 144 yX7_isDay wsX7_isDay) := goodIn_app (goodIn_of _ (by decide +kernel)) ggX7_seen_X7_isDay
set_option maxRecDepth 20000 in
theorem ggX7_seen_X7_in : GoodIn wsX7_seen wsX7_in := goodIn_r _ [9] (by decide +kernel) (by decide +kernel)
set_option maxRecDepth 20000 in
theorem gX7_seen_X7_in : GoodIn wsX7_seen (va_wsS RX7 63 yX7_in wsX7_in) := goodIn_app (goodIn_of _ (by decide +kernel)) ggX7_seen_X7_in
theorem dX7_seen_0 : decode cX7_seen 0 = .ok (.iload_n 1, 1) := by decide +kernel
theorem dX7_seen_1 : decode cX7_seen 1 = .ok (.invokestatic 144, 3) := by decide +kernel
theorem dX7_seen_4 : decode cX7_seen 4 = .ok (.ifCond .eq 14, 3) := by decide +kernel
theorem dX7_seen_7 : decode cX7_seen 7 = .ok (.iload_n 2, 1) := by decide +kernel
theorem dX7_seen_8 : decode cX7_seen 8 = .ok (.iconst 0, 1) := by decide +kernel
theorem dX7_seen_9 : decode cX7_seen 9 = .ok (.sipush 999, 3) := by decide +kernel
theorem dX7_seen_12 : decode cX7_seen 12 = .ok (.invokestatic 63, 3) := by decide +kernel
theorem dX7_seen_15 : decode cX7_seen 15 = .ok (.ifCond .ne 6, 3) := by decide +kernel
theorem dX7_seen_18 : decode cX7_seen 18 = .ok (.bipush (-2), 2) := by decide +kernel
theorem dX7_seen_20 : decode cX7_seen 20 = .ok (.ireturn, 1) := by decide +kernel
theorem dX7_seen_21 : decode cX7_seen 21 = .ok (.aload_n 0, 1) := by decide +kernel
theorem dX7_seen_22 : decode cX7_seen 22 = .ok (.getfield 170, 3) := by decide +kernel
theorem dX7_seen_25 : decode cX7_seen 25 = .ok (.bipush 8, 2) := by decide +kernel
theorem dX7_seen_27 : decode cX7_seen 27 = .ok (.if_icmp .ne 6, 3) := by decide +kernel
theorem dX7_seen_30 : decode cX7_seen 30 = .ok (.bipush (-4), 2) := by decide +kernel
theorem dX7_seen_32 : decode cX7_seen 32 = .ok (.ireturn, 1) := by decide +kernel
theorem dX7_seen_33 : decode cX7_seen 33 = .ok (.aload_n 0, 1) := by decide +kernel
theorem dX7_seen_34 : decode cX7_seen 34 = .ok (.getfield 29, 3) := by decide +kernel
theorem dX7_seen_37 : decode cX7_seen 37 = .ok (.iconst 2, 1) := by decide +kernel
theorem dX7_seen_38 : decode cX7_seen 38 = .ok (.aload_n 0, 1) := by decide +kernel
theorem dX7_seen_39 : decode cX7_seen 39 = .ok (.getfield 170, 3) := by decide +kernel
theorem dX7_seen_42 : decode cX7_seen 42 = .ok (.imul, 1) := by decide +kernel
theorem dX7_seen_43 : decode cX7_seen 43 = .ok (.iload_n 1, 1) := by decide +kernel
theorem dX7_seen_44 : decode cX7_seen 44 = .ok (.iastore, 1) := by decide +kernel
theorem dX7_seen_45 : decode cX7_seen 45 = .ok (.aload_n 0, 1) := by decide +kernel
theorem dX7_seen_46 : decode cX7_seen 46 = .ok (.getfield 29, 3) := by decide +kernel
theorem dX7_seen_49 : decode cX7_seen 49 = .ok (.iconst 2, 1) := by decide +kernel
theorem dX7_seen_50 : decode cX7_seen 50 = .ok (.aload_n 0, 1) := by decide +kernel
theorem dX7_seen_51 : decode cX7_seen 51 = .ok (.getfield 170, 3) := by decide +kernel
theorem dX7_seen_54 : decode cX7_seen 54 = .ok (.imul, 1) := by decide +kernel
theorem dX7_seen_55 : decode cX7_seen 55 = .ok (.iconst 1, 1) := by decide +kernel
theorem dX7_seen_56 : decode cX7_seen 56 = .ok (.iadd, 1) := by decide +kernel
theorem dX7_seen_57 : decode cX7_seen 57 = .ok (.iload_n 2, 1) := by decide +kernel
theorem dX7_seen_58 : decode cX7_seen 58 = .ok (.iastore, 1) := by decide +kernel
theorem dX7_seen_59 : decode cX7_seen 59 = .ok (.aload_n 0, 1) := by decide +kernel
theorem dX7_seen_60 : decode cX7_seen 60 = .ok (.dup, 1) := by decide +kernel
theorem dX7_seen_61 : decode cX7_seen 61 = .ok (.getfield 170, 3) := by decide +kernel
theorem dX7_seen_64 : decode cX7_seen 64 = .ok (.iconst 1, 1) := by decide +kernel
theorem dX7_seen_65 : decode cX7_seen 65 = .ok (.iadd, 1) := by decide +kernel
theorem dX7_seen_66 : decode cX7_seen 66 = .ok (.putfield 170, 3) := by decide +kernel
theorem dX7_seen_69 : decode cX7_seen 69 = .ok (.aload_n 0, 1) := by decide +kernel
theorem dX7_seen_70 : decode cX7_seen 70 = .ok (.getfield 170, 3) := by decide +kernel
theorem dX7_seen_73 : decode cX7_seen 73 = .ok (.ireturn, 1) := by decide +kernel
theorem dX7_forget_0 : decode cX7_forget 0 = .ok (.aload_n 0, 1) := by decide +kernel
theorem dX7_forget_1 : decode cX7_forget 1 = .ok (.getfield 170, 3) := by decide +kernel
theorem dX7_forget_4 : decode cX7_forget 4 = .ok (.istore_n 1, 1) := by decide +kernel
theorem dX7_forget_5 : decode cX7_forget 5 = .ok (.aload_n 0, 1) := by decide +kernel
theorem dX7_forget_6 : decode cX7_forget 6 = .ok (.iconst 0, 1) := by decide +kernel
theorem dX7_forget_7 : decode cX7_forget 7 = .ok (.putfield 170, 3) := by decide +kernel
theorem dX7_forget_10 : decode cX7_forget 10 = .ok (.iload_n 1, 1) := by decide +kernel
theorem dX7_forget_11 : decode cX7_forget 11 = .ok (.ireturn, 1) := by decide +kernel
set_option maxRecDepth 20000 in
theorem ggX7_layShown_X7_empty : GoodIn wsX7_layShown wsX7_empty := goodIn_r _ [7, 1, 8, 9, 10, 11, 12, 13, 6, 14, 15, 16, 17, 18, 19, 20, 21, 22, 23, 24, 34, 35, 36, 37, 38, 39, 40, 41, 42, 43, 44, 45, 46, 47, 48, 49, 50, 51, 52, 53, 54, 55, 56, 57, 58, 59, 60, 61, 62, 63] (by decide +kernel) (by decide +kernel)
set_option maxRecDepth 20000 in
theorem gX7_layShown_X7_empty : GoodIn wsX7_layShown (wsV RX7 163 RX7 yX7_empty wsX7_empty) := goodIn_app (goodIn_of _ (by decide +kernel)) ggX7_layShown_X7_empty
set_option maxRecDepth 20000 in
theorem ggX7_layShown_X7_see : GoodIn wsX7_layShown wsX7_see := goodIn_r _ [28, 1, 9, 10, 17, 8, 29, 34, 35, 36, 37, 38, 39, 40, 41, 42, 43, 44, 45, 46, 47, 48, 49, 50, 51, 52, 53, 54, 55, 56, 57, 58, 59, 60, 61, 62, 63] (by decide +kernel) (by decide +kernel)
set_option maxRecDepth 20000 in
theorem gX7_layShown_X7_see : GoodIn wsX7_layShown (wsV RX7 105 RX7 yX7_see wsX7_see) := goodIn_app (goodIn_of _ (by decide +kernel)) ggX7_layShown_X7_see
set_option maxRecDepth 20000 in
theorem ggX7_layShown_X7_pass : GoodIn wsX7_layShown wsX7_pass := goodIn_r _ [33, 8, 10, 1, 9, 22, 24, 25, 26, 27, 6, 28, 17, 29, 34, 35, 36, 37, 38, 39, 40, 41, 42, 43, 44, 45, 46, 47, 48, 49, 50, 51, 52, 53, 54, 55, 56, 57, 58, 59, 60, 61, 62, 63] (by decide +kernel) (by decide +kernel)
set_option maxRecDepth 20000 in
theorem gX7_layShown_X7_pass : GoodIn wsX7_layShown (wsV RX7 108 RX7 yX7_pass wsX7_pass) := goodIn_app (goodIn_of _ (by decide +kernel)) ggX7_layShown_X7_pass
theorem dX7_layShown_0 : decode cX7_layShown 0 = .ok (.iconst 1, 1) := by decide +kernel
theorem dX7_layShown_1 : decode cX7_layShown 1 = .ok (.istore_n 1, 1) := by decide +kernel
theorem dX7_layShown_2 : decode cX7_layShown 2 = .ok (.iload_n 1, 1) := by decide +kernel
theorem dX7_layShown_3 : decode cX7_layShown 3 = .ok (.bipush 10, 2) := by decide +kernel
theorem dX7_layShown_5 : decode cX7_layShown 5 = .ok (.if_icmp .ge 57, 3) := by decide +kernel
theorem dX7_layShown_8 : decode cX7_layShown 8 = .ok (.aload_n 0, 1) := by decide +kernel
theorem dX7_layShown_9 : decode cX7_layShown 9 = .ok (.invokevirtual 163, 3) := by decide +kernel
theorem dX7_layShown_12 : decode cX7_layShown 12 = .ok (.aload_n 0, 1) := by decide +kernel
theorem dX7_layShown_13 : decode cX7_layShown 13 = .ok (.getfield 35, 3) := by decide +kernel
theorem dX7_layShown_16 : decode cX7_layShown 16 = .ok (.iconst 0, 1) := by decide +kernel
theorem dX7_layShown_17 : decode cX7_layShown 17 = .ok (.bipush 10, 2) := by decide +kernel
theorem dX7_layShown_19 : decode cX7_layShown 19 = .ok (.iload_n 1, 1) := by decide +kernel
theorem dX7_layShown_20 : decode cX7_layShown 20 = .ok (.imul, 1) := by decide +kernel
theorem dX7_layShown_21 : decode cX7_layShown 21 = .ok (.iastore, 1) := by decide +kernel
theorem dX7_layShown_22 : decode cX7_layShown 22 = .ok (.iconst 0, 1) := by decide +kernel
theorem dX7_layShown_23 : decode cX7_layShown 23 = .ok (.istore_n 2, 1) := by decide +kernel
theorem dX7_layShown_24 : decode cX7_layShown 24 = .ok (.iload_n 2, 1) := by decide +kernel
theorem dX7_layShown_25 : decode cX7_layShown 25 = .ok (.bipush 61, 2) := by decide +kernel
theorem dX7_layShown_27 : decode cX7_layShown 27 = .ok (.if_icmp .ge 29, 3) := by decide +kernel
theorem dX7_layShown_30 : decode cX7_layShown 30 = .ok (.aload_n 0, 1) := by decide +kernel
theorem dX7_layShown_31 : decode cX7_layShown 31 = .ok (.getfield 47, 3) := by decide +kernel
theorem dX7_layShown_34 : decode cX7_layShown 34 = .ok (.bipush 61, 2) := by decide +kernel
theorem dX7_layShown_36 : decode cX7_layShown 36 = .ok (.iload_n 1, 1) := by decide +kernel
theorem dX7_layShown_37 : decode cX7_layShown 37 = .ok (.imul, 1) := by decide +kernel
theorem dX7_layShown_38 : decode cX7_layShown 38 = .ok (.iload_n 2, 1) := by decide +kernel
theorem dX7_layShown_39 : decode cX7_layShown 39 = .ok (.iadd, 1) := by decide +kernel
theorem dX7_layShown_40 : decode cX7_layShown 40 = .ok (.aload_n 0, 1) := by decide +kernel
theorem dX7_layShown_41 : decode cX7_layShown 41 = .ok (.iconst 0, 1) := by decide +kernel
theorem dX7_layShown_42 : decode cX7_layShown 42 = .ok (.invokevirtual 105, 3) := by decide +kernel
theorem dX7_layShown_45 : decode cX7_layShown 45 = .ok (.iastore, 1) := by decide +kernel
theorem dX7_layShown_46 : decode cX7_layShown 46 = .ok (.aload_n 0, 1) := by decide +kernel
theorem dX7_layShown_47 : decode cX7_layShown 47 = .ok (.invokevirtual 108, 3) := by decide +kernel
theorem dX7_layShown_50 : decode cX7_layShown 50 = .ok (.iinc 2 1, 3) := by decide +kernel
theorem dX7_layShown_53 : decode cX7_layShown 53 = .ok (.goto (-29), 3) := by decide +kernel
theorem dX7_layShown_56 : decode cX7_layShown 56 = .ok (.iinc 1 1, 3) := by decide +kernel
theorem dX7_layShown_59 : decode cX7_layShown 59 = .ok (.goto (-57), 3) := by decide +kernel
theorem dX7_layShown_62 : decode cX7_layShown 62 = .ok (.return_, 1) := by decide +kernel
theorem dX7_seenOn_0 : decode cX7_seenOn 0 = .ok (.iload_n 3, 1) := by decide +kernel
theorem dX7_seenOn_1 : decode cX7_seenOn 1 = .ok (.iload_n 1, 1) := by decide +kernel
theorem dX7_seenOn_2 : decode cX7_seenOn 2 = .ok (.if_icmp .ge 7, 3) := by decide +kernel
theorem dX7_seenOn_5 : decode cX7_seenOn 5 = .ok (.iconst 0, 1) := by decide +kernel
theorem dX7_seenOn_6 : decode cX7_seenOn 6 = .ok (.goto 16, 3) := by decide +kernel
theorem dX7_seenOn_9 : decode cX7_seenOn 9 = .ok (.aload_n 0, 1) := by decide +kernel
theorem dX7_seenOn_10 : decode cX7_seenOn 10 = .ok (.getfield 47, 3) := by decide +kernel
theorem dX7_seenOn_13 : decode cX7_seenOn 13 = .ok (.bipush 61, 2) := by decide +kernel
theorem dX7_seenOn_15 : decode cX7_seenOn 15 = .ok (.iload_n 2, 1) := by decide +kernel
theorem dX7_seenOn_16 : decode cX7_seenOn 16 = .ok (.imul, 1) := by decide +kernel
theorem dX7_seenOn_17 : decode cX7_seenOn 17 = .ok (.iload_n 3, 1) := by decide +kernel
theorem dX7_seenOn_18 : decode cX7_seenOn 18 = .ok (.iadd, 1) := by decide +kernel
theorem dX7_seenOn_19 : decode cX7_seenOn 19 = .ok (.iload_n 1, 1) := by decide +kernel
theorem dX7_seenOn_20 : decode cX7_seenOn 20 = .ok (.isub, 1) := by decide +kernel
theorem dX7_seenOn_21 : decode cX7_seenOn 21 = .ok (.iaload, 1) := by decide +kernel
theorem dX7_seenOn_22 : decode cX7_seenOn 22 = .ok (.ireturn, 1) := by decide +kernel
set_option maxRecDepth 20000 in
theorem ggX7_fits_X7_seenOn : GoodIn wsX7_fits wsX7_seenOn := goodIn_r _ [7, 8, 9, 10, 11, 12, 13, 14, 15, 16, 17, 18, 19, 20, 21, 22, 23, 24, 25, 26, 27, 28, 29, 30, 31, 32, 33, 34, 35, 36, 37, 38] (by decide +kernel) (by decide +kernel)
set_option maxRecDepth 20000 in
theorem gX7_fits_X7_seenOn : GoodIn wsX7_fits (wsV RX7 173 RX7 yX7_seenOn wsX7_seenOn) := goodIn_app (goodIn_of _ (by decide +kernel)) ggX7_fits_X7_seenOn
theorem dX7_fits_0 : decode cX7_fits 0 = .ok (.iconst 1, 1) := by decide +kernel
theorem dX7_fits_1 : decode cX7_fits 1 = .ok (.istore_n 3, 1) := by decide +kernel
theorem dX7_fits_2 : decode cX7_fits 2 = .ok (.iconst 0, 1) := by decide +kernel
theorem dX7_fits_3 : decode cX7_fits 3 = .ok (.istore 4, 2) := by decide +kernel
theorem dX7_fits_5 : decode cX7_fits 5 = .ok (.iload 4, 2) := by decide +kernel
theorem dX7_fits_7 : decode cX7_fits 7 = .ok (.aload_n 0, 1) := by decide +kernel
theorem dX7_fits_8 : decode cX7_fits 8 = .ok (.getfield 170, 3) := by decide +kernel
theorem dX7_fits_11 : decode cX7_fits 11 = .ok (.if_icmp .ge 48, 3) := by decide +kernel
theorem dX7_fits_14 : decode cX7_fits 14 = .ok (.iload_n 3, 1) := by decide +kernel
theorem dX7_fits_15 : decode cX7_fits 15 = .ok (.ifCond .eq 36, 3) := by decide +kernel
theorem dX7_fits_18 : decode cX7_fits 18 = .ok (.aload_n 0, 1) := by decide +kernel
theorem dX7_fits_19 : decode cX7_fits 19 = .ok (.iload_n 1, 1) := by decide +kernel
theorem dX7_fits_20 : decode cX7_fits 20 = .ok (.iload_n 2, 1) := by decide +kernel
theorem dX7_fits_21 : decode cX7_fits 21 = .ok (.aload_n 0, 1) := by decide +kernel
theorem dX7_fits_22 : decode cX7_fits 22 = .ok (.getfield 29, 3) := by decide +kernel
theorem dX7_fits_25 : decode cX7_fits 25 = .ok (.iconst 2, 1) := by decide +kernel
theorem dX7_fits_26 : decode cX7_fits 26 = .ok (.iload 4, 2) := by decide +kernel
theorem dX7_fits_28 : decode cX7_fits 28 = .ok (.imul, 1) := by decide +kernel
theorem dX7_fits_29 : decode cX7_fits 29 = .ok (.iaload, 1) := by decide +kernel
theorem dX7_fits_30 : decode cX7_fits 30 = .ok (.invokevirtual 173, 3) := by decide +kernel
theorem dX7_fits_33 : decode cX7_fits 33 = .ok (.aload_n 0, 1) := by decide +kernel
theorem dX7_fits_34 : decode cX7_fits 34 = .ok (.getfield 29, 3) := by decide +kernel
theorem dX7_fits_37 : decode cX7_fits 37 = .ok (.iconst 2, 1) := by decide +kernel
theorem dX7_fits_38 : decode cX7_fits 38 = .ok (.iload 4, 2) := by decide +kernel
theorem dX7_fits_40 : decode cX7_fits 40 = .ok (.imul, 1) := by decide +kernel
theorem dX7_fits_41 : decode cX7_fits 41 = .ok (.iconst 1, 1) := by decide +kernel
theorem dX7_fits_42 : decode cX7_fits 42 = .ok (.iadd, 1) := by decide +kernel
theorem dX7_fits_43 : decode cX7_fits 43 = .ok (.iaload, 1) := by decide +kernel
theorem dX7_fits_44 : decode cX7_fits 44 = .ok (.if_icmp .ne 7, 3) := by decide +kernel
theorem dX7_fits_47 : decode cX7_fits 47 = .ok (.iconst 1, 1) := by decide +kernel
theorem dX7_fits_48 : decode cX7_fits 48 = .ok (.goto 4, 3) := by decide +kernel
theorem dX7_fits_51 : decode cX7_fits 51 = .ok (.iconst 0, 1) := by decide +kernel
theorem dX7_fits_52 : decode cX7_fits 52 = .ok (.istore_n 3, 1) := by decide +kernel
theorem dX7_fits_53 : decode cX7_fits 53 = .ok (.iinc 4 1, 3) := by decide +kernel
theorem dX7_fits_56 : decode cX7_fits 56 = .ok (.goto (-51), 3) := by decide +kernel
theorem dX7_fits_59 : decode cX7_fits 59 = .ok (.iload_n 3, 1) := by decide +kernel
theorem dX7_fits_60 : decode cX7_fits 60 = .ok (.ireturn, 1) := by decide +kernel
set_option maxRecDepth 20000 in
theorem ggX7_shown_X7_layShown : GoodIn wsX7_shown wsX7_layShown := goodIn_r _ [5, 6, 7, 8, 9, 10, 4, 11, 12, 13, 14, 15, 16, 17, 18, 19, 20, 21, 22, 23, 24, 25, 26, 27, 28, 29, 30, 31, 32, 33, 34, 35, 36, 37, 48, 49, 50, 51, 52, 53, 54, 55, 56, 57, 58, 59, 60, 61, 62, 63, 64, 65, 66, 67, 68, 69, 70, 71, 72, 73, 74, 75, 76, 77] (by decide +kernel) (by decide +kernel)
set_option maxRecDepth 20000 in
theorem gX7_shown_X7_layShown : GoodIn wsX7_shown (wsV RX7 176 RX7 yX7_layShown wsX7_layShown) := goodIn_app (goodIn_of _ (by decide +kernel)) ggX7_shown_X7_layShown
set_option maxRecDepth 20000 in
theorem ggX7_shown_X7_fits : GoodIn wsX7_shown wsX7_fits := goodIn_r _ [41, 42, 43, 44, 45, 46, 4, 47, 7, 48, 49, 50, 51, 52, 53, 54, 55, 56, 57, 58, 59, 60, 61, 62, 63, 64, 65, 66, 67, 68, 69, 70, 71, 72, 73, 74, 75, 76, 77] (by decide +kernel) (by decide +kernel)
set_option maxRecDepth 20000 in
theorem gX7_shown_X7_fits : GoodIn wsX7_shown (wsV RX7 179 RX7 yX7_fits wsX7_fits) := goodIn_app (goodIn_of _ (by decide +kernel)) ggX7_shown_X7_fits
theorem dX7_shown_0 : decode cX7_shown 0 = .ok (.aload_n 0, 1) := by decide +kernel
theorem dX7_shown_1 : decode cX7_shown 1 = .ok (.invokevirtual 176, 3) := by decide +kernel
theorem dX7_shown_4 : decode cX7_shown 4 = .ok (.iconst 0, 1) := by decide +kernel
theorem dX7_shown_5 : decode cX7_shown 5 = .ok (.istore_n 2, 1) := by decide +kernel
theorem dX7_shown_6 : decode cX7_shown 6 = .ok (.iconst 0, 1) := by decide +kernel
theorem dX7_shown_7 : decode cX7_shown 7 = .ok (.istore_n 3, 1) := by decide +kernel
theorem dX7_shown_8 : decode cX7_shown 8 = .ok (.iload_n 3, 1) := by decide +kernel
theorem dX7_shown_9 : decode cX7_shown 9 = .ok (.bipush 10, 2) := by decide +kernel
theorem dX7_shown_11 : decode cX7_shown 11 = .ok (.if_icmp .ge 51, 3) := by decide +kernel
theorem dX7_shown_14 : decode cX7_shown 14 = .ok (.iconst 1, 1) := by decide +kernel
theorem dX7_shown_15 : decode cX7_shown 15 = .ok (.istore 4, 2) := by decide +kernel
theorem dX7_shown_17 : decode cX7_shown 17 = .ok (.iload 4, 2) := by decide +kernel
theorem dX7_shown_19 : decode cX7_shown 19 = .ok (.bipush 10, 2) := by decide +kernel
theorem dX7_shown_21 : decode cX7_shown 21 = .ok (.if_icmp .ge 35, 3) := by decide +kernel
theorem dX7_shown_24 : decode cX7_shown 24 = .ok (.aload_n 0, 1) := by decide +kernel
theorem dX7_shown_25 : decode cX7_shown 25 = .ok (.iload_n 3, 1) := by decide +kernel
theorem dX7_shown_26 : decode cX7_shown 26 = .ok (.iload 4, 2) := by decide +kernel
theorem dX7_shown_28 : decode cX7_shown 28 = .ok (.invokevirtual 179, 3) := by decide +kernel
theorem dX7_shown_31 : decode cX7_shown 31 = .ok (.ifCond .eq 19, 3) := by decide +kernel
theorem dX7_shown_34 : decode cX7_shown 34 = .ok (.iload_n 2, 1) := by decide +kernel
theorem dX7_shown_35 : decode cX7_shown 35 = .ok (.iload_n 1, 1) := by decide +kernel
theorem dX7_shown_36 : decode cX7_shown 36 = .ok (.if_icmp .ne 11, 3) := by decide +kernel
theorem dX7_shown_39 : decode cX7_shown 39 = .ok (.bipush 10, 2) := by decide +kernel
theorem dX7_shown_41 : decode cX7_shown 41 = .ok (.iload_n 3, 1) := by decide +kernel
theorem dX7_shown_42 : decode cX7_shown 42 = .ok (.imul, 1) := by decide +kernel
theorem dX7_shown_43 : decode cX7_shown 43 = .ok (.iload 4, 2) := by decide +kernel
theorem dX7_shown_45 : decode cX7_shown 45 = .ok (.iadd, 1) := by decide +kernel
theorem dX7_shown_46 : decode cX7_shown 46 = .ok (.ireturn, 1) := by decide +kernel
theorem dX7_shown_47 : decode cX7_shown 47 = .ok (.iinc 2 1, 3) := by decide +kernel
theorem dX7_shown_50 : decode cX7_shown 50 = .ok (.iinc 4 1, 3) := by decide +kernel
theorem dX7_shown_53 : decode cX7_shown 53 = .ok (.goto (-36), 3) := by decide +kernel
theorem dX7_shown_56 : decode cX7_shown 56 = .ok (.iinc 3 1, 3) := by decide +kernel
theorem dX7_shown_59 : decode cX7_shown 59 = .ok (.goto (-51), 3) := by decide +kernel
theorem dX7_shown_62 : decode cX7_shown 62 = .ok (.iload_n 1, 1) := by decide +kernel
theorem dX7_shown_63 : decode cX7_shown 63 = .ok (.iconst (-1), 1) := by decide +kernel
theorem dX7_shown_64 : decode cX7_shown 64 = .ok (.if_icmp .ne 7, 3) := by decide +kernel
theorem dX7_shown_67 : decode cX7_shown 67 = .ok (.iload_n 2, 1) := by decide +kernel
theorem dX7_shown_68 : decode cX7_shown 68 = .ok (.goto 5, 3) := by decide +kernel
theorem dX7_shown_71 : decode cX7_shown 71 = .ok (.bipush (-6), 2) := by decide +kernel
theorem dX7_shown_73 : decode cX7_shown 73 = .ok (.ireturn, 1) := by decide +kernel
set_option maxRecDepth 20000 in
theorem ggX7_look_X7_in : GoodIn wsX7_look wsX7_in := goodIn_r _ [6] (by decide +kernel) (by decide +kernel)
set_option maxRecDepth 20000 in
theorem gX7_look_X7_in : GoodIn wsX7_look (va_wsS RX7 63 yX7_in wsX7_in) := goodIn_app (goodIn_of _ (by decide +kernel)) ggX7_look_X7_in
set_option maxRecDepth 20000 in
theorem ggX7_look_X7_layShown : GoodIn wsX7_look wsX7_layShown := goodIn_r _ [10, 11, 12, 13, 14, 15, 5, 16, 17, 18, 19, 20, 21, 22, 23, 24, 25, 26, 27, 28, 29, 30, 31, 32, 33, 34, 35, 36, 37, 38, 39, 40, 41, 42, 53, 54, 55, 56, 57, 58, 59, 60, 61, 62, 63, 64, 65, 66, 67, 68, 69, 70, 71, 72, 73, 74, 75, 76, 77, 78, 79, 80, 81, 82] (by decide +kernel) (by decide +kernel)
set_option maxRecDepth 20000 in
theorem gX7_look_X7_layShown : GoodIn wsX7_look (wsV RX7 176 RX7 yX7_layShown wsX7_layShown) := goodIn_app (goodIn_of _ (by decide +kernel)) ggX7_look_X7_layShown
set_option maxRecDepth 20000 in
theorem ggX7_look_X7_fits : GoodIn wsX7_look wsX7_fits := goodIn_r _ [46, 47, 48, 49, 50, 51, 5, 52, 12, 53, 54, 55, 56, 57, 58, 59, 60, 61, 62, 63, 64, 65, 66, 67, 68, 69, 70, 71, 72, 73, 74, 75, 76, 77, 78, 79, 80, 81, 82] (by decide +kernel) (by decide +kernel)
set_option maxRecDepth 20000 in
theorem gX7_look_X7_fits : GoodIn wsX7_look (wsV RX7 179 RX7 yX7_fits wsX7_fits) := goodIn_app (goodIn_of _ (by decide +kernel)) ggX7_look_X7_fits
set_option maxRecDepth 20000 in
theorem ggX7_look_X7_seenOn : GoodIn wsX7_look wsX7_seenOn := goodIn_r _ [52, 12, 53, 54, 55, 56, 57, 58, 59, 60, 61, 62, 63, 64, 65, 66, 67, 68, 69, 70, 71, 72, 73, 74, 75, 76, 77, 78, 79, 80, 81, 82] (by decide +kernel) (by decide +kernel)
set_option maxRecDepth 20000 in
theorem gX7_look_X7_seenOn : GoodIn wsX7_look (wsV RX7 173 RX7 yX7_seenOn wsX7_seenOn) := goodIn_app (goodIn_of _ (by decide +kernel)) ggX7_look_X7_seenOn
theorem dX7_look_0 : decode cX7_look 0 = .ok (.iload_n 1, 1) := by decide +kernel
theorem dX7_look_1 : decode cX7_look 1 = .ok (.iconst 0, 1) := by decide +kernel
theorem dX7_look_2 : decode cX7_look 2 = .ok (.iconst 1, 1) := by decide +kernel
theorem dX7_look_3 : decode cX7_look 3 = .ok (.invokestatic 63, 3) := by decide +kernel
theorem dX7_look_6 : decode cX7_look 6 = .ok (.ifCond .ne 6, 3) := by decide +kernel
theorem dX7_look_9 : decode cX7_look 9 = .ok (.bipush (-2), 2) := by decide +kernel
theorem dX7_look_11 : decode cX7_look 11 = .ok (.ireturn, 1) := by decide +kernel
theorem dX7_look_12 : decode cX7_look 12 = .ok (.aload_n 0, 1) := by decide +kernel
theorem dX7_look_13 : decode cX7_look 13 = .ok (.invokevirtual 176, 3) := by decide +kernel
theorem dX7_look_16 : decode cX7_look 16 = .ok (.bipush (-6), 2) := by decide +kernel
theorem dX7_look_18 : decode cX7_look 18 = .ok (.istore_n 2, 1) := by decide +kernel
theorem dX7_look_19 : decode cX7_look 19 = .ok (.ldc 155, 2) := by decide +kernel
theorem dX7_look_21 : decode cX7_look 21 = .ok (.istore_n 3, 1) := by decide +kernel
theorem dX7_look_22 : decode cX7_look 22 = .ok (.iconst 0, 1) := by decide +kernel
theorem dX7_look_23 : decode cX7_look 23 = .ok (.istore 4, 2) := by decide +kernel
theorem dX7_look_25 : decode cX7_look 25 = .ok (.iload 4, 2) := by decide +kernel
theorem dX7_look_27 : decode cX7_look 27 = .ok (.bipush 61, 2) := by decide +kernel
theorem dX7_look_29 : decode cX7_look 29 = .ok (.if_icmp .ge 175, 3) := by decide +kernel
theorem dX7_look_32 : decode cX7_look 32 = .ok (.iconst 0, 1) := by decide +kernel
theorem dX7_look_33 : decode cX7_look 33 = .ok (.istore 5, 2) := by decide +kernel
