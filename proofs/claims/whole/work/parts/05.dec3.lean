theorem dX8_told_95 : decode cX8_told 95 = .ok (.iload 5, 2) := by decide +kernel
theorem dX8_told_97 : decode cX8_told 97 = .ok (.iadd, 1) := by decide +kernel
theorem dX8_told_98 : decode cX8_told 98 = .ok (.istore_n 2, 1) := by decide +kernel
theorem dX8_told_99 : decode cX8_told 99 = .ok (.iload 5, 2) := by decide +kernel
theorem dX8_told_101 : decode cX8_told 101 = .ok (.aload_n 0, 1) := by decide +kernel
theorem dX8_told_102 : decode cX8_told 102 = .ok (.iload 4, 2) := by decide +kernel
theorem dX8_told_104 : decode cX8_told 104 = .ok (.iconst 1, 1) := by decide +kernel
theorem dX8_told_105 : decode cX8_told 105 = .ok (.invokevirtual 37, 3) := by decide +kernel
theorem dX8_told_108 : decode cX8_told 108 = .ok (.if_icmp .ne 7, 3) := by decide +kernel
theorem dX8_told_111 : decode cX8_told 111 = .ok (.iconst 1, 1) := by decide +kernel
theorem dX8_told_112 : decode cX8_told 112 = .ok (.goto 4, 3) := by decide +kernel
theorem dX8_told_115 : decode cX8_told 115 = .ok (.iconst 0, 1) := by decide +kernel
theorem dX8_told_116 : decode cX8_told 116 = .ok (.istore_n 3, 1) := by decide +kernel
theorem dX8_told_117 : decode cX8_told 117 = .ok (.iinc 4 1, 3) := by decide +kernel
theorem dX8_told_120 : decode cX8_told 120 = .ok (.goto (-97), 3) := by decide +kernel
theorem dX8_told_123 : decode cX8_told 123 = .ok (.iload_n 2, 1) := by decide +kernel
theorem dX8_told_124 : decode cX8_told 124 = .ok (.aload_n 0, 1) := by decide +kernel
theorem dX8_told_125 : decode cX8_told 125 = .ok (.getfield 7, 3) := by decide +kernel
theorem dX8_told_128 : decode cX8_told 128 = .ok (.bipush 9, 2) := by decide +kernel
theorem dX8_told_130 : decode cX8_told 130 = .ok (.iaload, 1) := by decide +kernel
theorem dX8_told_131 : decode cX8_told 131 = .ok (.invokestatic 59, 3) := by decide +kernel
theorem dX8_told_134 : decode cX8_told 134 = .ok (.ireturn, 1) := by decide +kernel
set_option maxRecDepth 20000 in
theorem ggX8_seals_X8_told : GoodIn wsX8_seals wsX8_told := goodIn_r _ [6, 1, 7, 8, 9, 5, 10, 11, 12, 13, 14, 15, 16, 17, 18, 19, 20, 21, 22, 23, 24] (by decide +kernel) (by decide +kernel)
set_option maxRecDepth 20000 in
theorem gX8_seals_X8_told : GoodIn wsX8_seals (wsV RX8 92 RX8 yX8_told wsX8_told) := goodIn_app (goodIn_of _ (by decide +kernel)) ggX8_seals_X8_told
theorem dX8_seals_0 : decode cX8_seals 0 = .ok (.aload_n 0, 1) := by decide +kernel
theorem dX8_seals_1 : decode cX8_seals 1 = .ok (.getfield 7, 3) := by decide +kernel
theorem dX8_seals_4 : decode cX8_seals 4 = .ok (.bipush 15, 2) := by decide +kernel
theorem dX8_seals_6 : decode cX8_seals 6 = .ok (.iaload, 1) := by decide +kernel
theorem dX8_seals_7 : decode cX8_seals 7 = .ok (.aload_n 0, 1) := by decide +kernel
theorem dX8_seals_8 : decode cX8_seals 8 = .ok (.getfield 7, 3) := by decide +kernel
theorem dX8_seals_11 : decode cX8_seals 11 = .ok (.bipush 6, 2) := by decide +kernel
theorem dX8_seals_13 : decode cX8_seals 13 = .ok (.iaload, 1) := by decide +kernel
theorem dX8_seals_14 : decode cX8_seals 14 = .ok (.if_icmp .lt 15, 3) := by decide +kernel
theorem dX8_seals_17 : decode cX8_seals 17 = .ok (.aload_n 0, 1) := by decide +kernel
theorem dX8_seals_18 : decode cX8_seals 18 = .ok (.getfield 7, 3) := by decide +kernel
theorem dX8_seals_21 : decode cX8_seals 21 = .ok (.bipush 14, 2) := by decide +kernel
theorem dX8_seals_23 : decode cX8_seals 23 = .ok (.iaload, 1) := by decide +kernel
theorem dX8_seals_24 : decode cX8_seals 24 = .ok (.bipush 40, 2) := by decide +kernel
theorem dX8_seals_26 : decode cX8_seals 26 = .ok (.if_icmp .ne 4, 3) := by decide +kernel
theorem dX8_seals_29 : decode cX8_seals 29 = .ok (.return_, 1) := by decide +kernel
theorem dX8_seals_30 : decode cX8_seals 30 = .ok (.bipush 126, 2) := by decide +kernel
theorem dX8_seals_32 : decode cX8_seals 32 = .ok (.iconst 3, 1) := by decide +kernel
theorem dX8_seals_33 : decode cX8_seals 33 = .ok (.aload_n 0, 1) := by decide +kernel
theorem dX8_seals_34 : decode cX8_seals 34 = .ok (.getfield 7, 3) := by decide +kernel
theorem dX8_seals_37 : decode cX8_seals 37 = .ok (.bipush 14, 2) := by decide +kernel
theorem dX8_seals_39 : decode cX8_seals 39 = .ok (.iaload, 1) := by decide +kernel
theorem dX8_seals_40 : decode cX8_seals 40 = .ok (.imul, 1) := by decide +kernel
theorem dX8_seals_41 : decode cX8_seals 41 = .ok (.iadd, 1) := by decide +kernel
theorem dX8_seals_42 : decode cX8_seals 42 = .ok (.istore_n 1, 1) := by decide +kernel
theorem dX8_seals_43 : decode cX8_seals 43 = .ok (.aload_n 0, 1) := by decide +kernel
theorem dX8_seals_44 : decode cX8_seals 44 = .ok (.getfield 7, 3) := by decide +kernel
theorem dX8_seals_47 : decode cX8_seals 47 = .ok (.iload_n 1, 1) := by decide +kernel
theorem dX8_seals_48 : decode cX8_seals 48 = .ok (.aload_n 0, 1) := by decide +kernel
theorem dX8_seals_49 : decode cX8_seals 49 = .ok (.getfield 7, 3) := by decide +kernel
theorem dX8_seals_52 : decode cX8_seals 52 = .ok (.bipush 15, 2) := by decide +kernel
theorem dX8_seals_54 : decode cX8_seals 54 = .ok (.iaload, 1) := by decide +kernel
theorem dX8_seals_55 : decode cX8_seals 55 = .ok (.iastore, 1) := by decide +kernel
theorem dX8_seals_56 : decode cX8_seals 56 = .ok (.aload_n 0, 1) := by decide +kernel
theorem dX8_seals_57 : decode cX8_seals 57 = .ok (.getfield 7, 3) := by decide +kernel
theorem dX8_seals_60 : decode cX8_seals 60 = .ok (.iload_n 1, 1) := by decide +kernel
theorem dX8_seals_61 : decode cX8_seals 61 = .ok (.iconst 1, 1) := by decide +kernel
theorem dX8_seals_62 : decode cX8_seals 62 = .ok (.iadd, 1) := by decide +kernel
theorem dX8_seals_63 : decode cX8_seals 63 = .ok (.aload_n 0, 1) := by decide +kernel
theorem dX8_seals_64 : decode cX8_seals 64 = .ok (.invokevirtual 92, 3) := by decide +kernel
theorem dX8_seals_67 : decode cX8_seals 67 = .ok (.iastore, 1) := by decide +kernel
theorem dX8_seals_68 : decode cX8_seals 68 = .ok (.aload_n 0, 1) := by decide +kernel
theorem dX8_seals_69 : decode cX8_seals 69 = .ok (.getfield 7, 3) := by decide +kernel
theorem dX8_seals_72 : decode cX8_seals 72 = .ok (.iload_n 1, 1) := by decide +kernel
theorem dX8_seals_73 : decode cX8_seals 73 = .ok (.iconst 2, 1) := by decide +kernel
theorem dX8_seals_74 : decode cX8_seals 74 = .ok (.iadd, 1) := by decide +kernel
theorem dX8_seals_75 : decode cX8_seals 75 = .ok (.aload_n 0, 1) := by decide +kernel
theorem dX8_seals_76 : decode cX8_seals 76 = .ok (.getfield 7, 3) := by decide +kernel
theorem dX8_seals_79 : decode cX8_seals 79 = .ok (.bipush 16, 2) := by decide +kernel
theorem dX8_seals_81 : decode cX8_seals 81 = .ok (.iaload, 1) := by decide +kernel
theorem dX8_seals_82 : decode cX8_seals 82 = .ok (.iastore, 1) := by decide +kernel
theorem dX8_seals_83 : decode cX8_seals 83 = .ok (.aload_n 0, 1) := by decide +kernel
theorem dX8_seals_84 : decode cX8_seals 84 = .ok (.getfield 7, 3) := by decide +kernel
theorem dX8_seals_87 : decode cX8_seals 87 = .ok (.bipush 14, 2) := by decide +kernel
theorem dX8_seals_89 : decode cX8_seals 89 = .ok (.dup2, 1) := by decide +kernel
theorem dX8_seals_90 : decode cX8_seals 90 = .ok (.iaload, 1) := by decide +kernel
theorem dX8_seals_91 : decode cX8_seals 91 = .ok (.iconst 1, 1) := by decide +kernel
theorem dX8_seals_92 : decode cX8_seals 92 = .ok (.iadd, 1) := by decide +kernel
theorem dX8_seals_93 : decode cX8_seals 93 = .ok (.iastore, 1) := by decide +kernel
theorem dX8_seals_94 : decode cX8_seals 94 = .ok (.aload_n 0, 1) := by decide +kernel
theorem dX8_seals_95 : decode cX8_seals 95 = .ok (.getfield 7, 3) := by decide +kernel
theorem dX8_seals_98 : decode cX8_seals 98 = .ok (.bipush 15, 2) := by decide +kernel
theorem dX8_seals_100 : decode cX8_seals 100 = .ok (.iconst 0, 1) := by decide +kernel
theorem dX8_seals_101 : decode cX8_seals 101 = .ok (.iastore, 1) := by decide +kernel
theorem dX8_seals_102 : decode cX8_seals 102 = .ok (.return_, 1) := by decide +kernel
set_option maxRecDepth 20000 in
theorem ggX8_tick_X8_length : GoodIn wsX8_tick wsX8_length := goodIn_r _ [6, 1, 7, 8, 9, 5, 10, 11, 12, 13, 14, 54, 55, 56, 57, 58, 59, 60, 61, 62, 63, 64] (by decide +kernel) (by decide +kernel)
set_option maxRecDepth 20000 in
theorem gX8_tick_X8_length : GoodIn wsX8_tick (wsV RX8 71 RX8 yX8_length wsX8_length) := goodIn_app (goodIn_of _ (by decide +kernel)) ggX8_tick_X8_length
set_option maxRecDepth 20000 in
theorem ggX8_tick_X8_reasonNow : GoodIn wsX8_tick wsX8_reasonNow := goodIn_r _ [18, 1, 19, 20, 21, 5, 22, 23, 24, 25, 26, 54, 55, 56, 57, 58, 59, 60, 61, 62, 63, 64] (by decide +kernel) (by decide +kernel)
set_option maxRecDepth 20000 in
theorem gX8_tick_X8_reasonNow : GoodIn wsX8_tick (wsV RX8 95 RX8 yX8_reasonNow wsX8_reasonNow) := goodIn_app (goodIn_of _ (by decide +kernel)) ggX8_tick_X8_reasonNow
set_option maxRecDepth 20000 in
theorem ggX8_tick_X8_melts : GoodIn wsX8_tick wsX8_melts := goodIn_r _ [30, 1, 31, 32, 33, 5, 34, 7, 8, 9, 10, 11, 12, 13, 14, 35, 36, 37, 38, 54, 55, 56, 57, 58, 59, 60, 61, 62, 63, 64] (by decide +kernel) (by decide +kernel)
set_option maxRecDepth 20000 in
theorem gX8_tick_X8_melts : GoodIn wsX8_tick (wsV RX8 98 RX8 yX8_melts wsX8_melts) := goodIn_app (goodIn_of _ (by decide +kernel)) ggX8_tick_X8_melts
set_option maxRecDepth 20000 in
theorem ggX8_tick_X8_ofLine : GoodIn wsX8_tick wsX8_ofLine := goodIn_r _ [26, 1, 54, 55, 56, 57, 58, 59, 60, 61, 62, 63, 64] (by decide +kernel) (by decide +kernel)
set_option maxRecDepth 20000 in
theorem gX8_tick_X8_ofLine : GoodIn wsX8_tick (wsV RX8 82 RX8 yX8_ofLine wsX8_ofLine) := goodIn_app (goodIn_of _ (by decide +kernel)) ggX8_tick_X8_ofLine
set_option maxRecDepth 20000 in
theorem ggX8_tick_X8_draws : GoodIn wsX8_tick wsX8_draws := goodIn_r _ [42, 1, 43, 44, 5, 45, 54, 55, 56, 57, 58, 59, 60, 61, 62, 63, 64] (by decide +kernel) (by decide +kernel)
set_option maxRecDepth 20000 in
theorem gX8_tick_X8_draws : GoodIn wsX8_tick (wsV RX8 101 RX8 yX8_draws wsX8_draws) := goodIn_app (goodIn_of _ (by decide +kernel)) ggX8_tick_X8_draws
set_option maxRecDepth 20000 in
theorem ggX8_tick_X8_seals : GoodIn wsX8_tick wsX8_seals := goodIn_r _ [49, 1, 50, 51, 52, 5, 53, 11, 12, 13, 14, 43, 44, 45, 54, 55, 56, 57, 58, 59, 60, 61, 62, 63, 64] (by decide +kernel) (by decide +kernel)
set_option maxRecDepth 20000 in
theorem gX8_tick_X8_seals : GoodIn wsX8_tick (wsV RX8 104 RX8 yX8_seals wsX8_seals) := goodIn_app (goodIn_of _ (by decide +kernel)) ggX8_tick_X8_seals
theorem dX8_tick_0 : decode cX8_tick 0 = .ok (.aload_n 0, 1) := by decide +kernel
theorem dX8_tick_1 : decode cX8_tick 1 = .ok (.invokevirtual 71, 3) := by decide +kernel
theorem dX8_tick_4 : decode cX8_tick 4 = .ok (.istore_n 1, 1) := by decide +kernel
theorem dX8_tick_5 : decode cX8_tick 5 = .ok (.aload_n 0, 1) := by decide +kernel
theorem dX8_tick_6 : decode cX8_tick 6 = .ok (.getfield 7, 3) := by decide +kernel
theorem dX8_tick_9 : decode cX8_tick 9 = .ok (.bipush 17, 2) := by decide +kernel
theorem dX8_tick_11 : decode cX8_tick 11 = .ok (.aload_n 0, 1) := by decide +kernel
theorem dX8_tick_12 : decode cX8_tick 12 = .ok (.iload_n 1, 1) := by decide +kernel
theorem dX8_tick_13 : decode cX8_tick 13 = .ok (.invokevirtual 95, 3) := by decide +kernel
theorem dX8_tick_16 : decode cX8_tick 16 = .ok (.iastore, 1) := by decide +kernel
theorem dX8_tick_17 : decode cX8_tick 17 = .ok (.aload_n 0, 1) := by decide +kernel
theorem dX8_tick_18 : decode cX8_tick 18 = .ok (.getfield 7, 3) := by decide +kernel
theorem dX8_tick_21 : decode cX8_tick 21 = .ok (.bipush 18, 2) := by decide +kernel
theorem dX8_tick_23 : decode cX8_tick 23 = .ok (.dup2, 1) := by decide +kernel
theorem dX8_tick_24 : decode cX8_tick 24 = .ok (.iaload, 1) := by decide +kernel
theorem dX8_tick_25 : decode cX8_tick 25 = .ok (.aload_n 0, 1) := by decide +kernel
theorem dX8_tick_26 : decode cX8_tick 26 = .ok (.getfield 7, 3) := by decide +kernel
theorem dX8_tick_29 : decode cX8_tick 29 = .ok (.bipush 17, 2) := by decide +kernel
theorem dX8_tick_31 : decode cX8_tick 31 = .ok (.iaload, 1) := by decide +kernel
theorem dX8_tick_32 : decode cX8_tick 32 = .ok (.ifCond .le 7, 3) := by decide +kernel
theorem dX8_tick_35 : decode cX8_tick 35 = .ok (.iconst 1, 1) := by decide +kernel
theorem dX8_tick_36 : decode cX8_tick 36 = .ok (.goto 4, 3) := by decide +kernel
theorem dX8_tick_39 : decode cX8_tick 39 = .ok (.iconst 0, 1) := by decide +kernel
theorem dX8_tick_40 : decode cX8_tick 40 = .ok (.iadd, 1) := by decide +kernel
theorem dX8_tick_41 : decode cX8_tick 41 = .ok (.iastore, 1) := by decide +kernel
theorem dX8_tick_42 : decode cX8_tick 42 = .ok (.aload_n 0, 1) := by decide +kernel
theorem dX8_tick_43 : decode cX8_tick 43 = .ok (.getfield 7, 3) := by decide +kernel
theorem dX8_tick_46 : decode cX8_tick 46 = .ok (.bipush 17, 2) := by decide +kernel
theorem dX8_tick_48 : decode cX8_tick 48 = .ok (.iaload, 1) := by decide +kernel
theorem dX8_tick_49 : decode cX8_tick 49 = .ok (.ifCond .ne 8, 3) := by decide +kernel
theorem dX8_tick_52 : decode cX8_tick 52 = .ok (.aload_n 0, 1) := by decide +kernel
theorem dX8_tick_53 : decode cX8_tick 53 = .ok (.iload_n 1, 1) := by decide +kernel
theorem dX8_tick_54 : decode cX8_tick 54 = .ok (.invokevirtual 98, 3) := by decide +kernel
theorem dX8_tick_57 : decode cX8_tick 57 = .ok (.iconst 0, 1) := by decide +kernel
theorem dX8_tick_58 : decode cX8_tick 58 = .ok (.istore_n 2, 1) := by decide +kernel
theorem dX8_tick_59 : decode cX8_tick 59 = .ok (.iload_n 2, 1) := by decide +kernel
theorem dX8_tick_60 : decode cX8_tick 60 = .ok (.iconst 4, 1) := by decide +kernel
theorem dX8_tick_61 : decode cX8_tick 61 = .ok (.if_icmp .ge 23, 3) := by decide +kernel
theorem dX8_tick_64 : decode cX8_tick 64 = .ok (.aload_n 0, 1) := by decide +kernel
theorem dX8_tick_65 : decode cX8_tick 65 = .ok (.iload_n 2, 1) := by decide +kernel
theorem dX8_tick_66 : decode cX8_tick 66 = .ok (.iconst 0, 1) := by decide +kernel
theorem dX8_tick_67 : decode cX8_tick 67 = .ok (.invokevirtual 82, 3) := by decide +kernel
theorem dX8_tick_70 : decode cX8_tick 70 = .ok (.ifCond .ne 8, 3) := by decide +kernel
theorem dX8_tick_73 : decode cX8_tick 73 = .ok (.aload_n 0, 1) := by decide +kernel
theorem dX8_tick_74 : decode cX8_tick 74 = .ok (.iload_n 2, 1) := by decide +kernel
theorem dX8_tick_75 : decode cX8_tick 75 = .ok (.invokevirtual 101, 3) := by decide +kernel
theorem dX8_tick_78 : decode cX8_tick 78 = .ok (.iinc 2 1, 3) := by decide +kernel
theorem dX8_tick_81 : decode cX8_tick 81 = .ok (.goto (-22), 3) := by decide +kernel
theorem dX8_tick_84 : decode cX8_tick 84 = .ok (.aload_n 0, 1) := by decide +kernel
theorem dX8_tick_85 : decode cX8_tick 85 = .ok (.getfield 7, 3) := by decide +kernel
theorem dX8_tick_88 : decode cX8_tick 88 = .ok (.bipush 16, 2) := by decide +kernel
theorem dX8_tick_90 : decode cX8_tick 90 = .ok (.dup2, 1) := by decide +kernel
theorem dX8_tick_91 : decode cX8_tick 91 = .ok (.iaload, 1) := by decide +kernel
theorem dX8_tick_92 : decode cX8_tick 92 = .ok (.iconst 1, 1) := by decide +kernel
theorem dX8_tick_93 : decode cX8_tick 93 = .ok (.iadd, 1) := by decide +kernel
theorem dX8_tick_94 : decode cX8_tick 94 = .ok (.iastore, 1) := by decide +kernel
theorem dX8_tick_95 : decode cX8_tick 95 = .ok (.aload_n 0, 1) := by decide +kernel
theorem dX8_tick_96 : decode cX8_tick 96 = .ok (.invokevirtual 104, 3) := by decide +kernel
theorem dX8_tick_99 : decode cX8_tick 99 = .ok (.return_, 1) := by decide +kernel
set_option maxRecDepth 20000 in
theorem ggX8_goBy_X8_tick : GoodIn wsX8_goBy wsX8_tick := goodIn_r _ [5, 6, 7, 8, 9, 4, 10, 11, 12, 13, 14, 15, 16, 17, 18, 19, 20, 21, 22, 23, 24, 25, 26, 27, 28, 29, 30, 31, 32, 33, 34, 35, 36, 37, 38, 39, 40, 41, 42, 43, 44, 45, 46, 47, 48, 49, 50, 51, 52, 53, 54, 55, 56, 57, 58, 59, 60, 61, 62, 63, 64, 65, 66, 67, 68] (by decide +kernel) (by decide +kernel)
set_option maxRecDepth 20000 in
theorem gX8_goBy_X8_tick : GoodIn wsX8_goBy (wsV RX8 107 RX8 yX8_tick wsX8_tick) := goodIn_app (goodIn_of _ (by decide +kernel)) ggX8_goBy_X8_tick
theorem dX8_goBy_0 : decode cX8_goBy 0 = .ok (.iconst 0, 1) := by decide +kernel
theorem dX8_goBy_1 : decode cX8_goBy 1 = .ok (.istore_n 2, 1) := by decide +kernel
theorem dX8_goBy_2 : decode cX8_goBy 2 = .ok (.iload_n 2, 1) := by decide +kernel
theorem dX8_goBy_3 : decode cX8_goBy 3 = .ok (.iload_n 1, 1) := by decide +kernel
theorem dX8_goBy_4 : decode cX8_goBy 4 = .ok (.if_icmp .ge 13, 3) := by decide +kernel
theorem dX8_goBy_7 : decode cX8_goBy 7 = .ok (.aload_n 0, 1) := by decide +kernel
theorem dX8_goBy_8 : decode cX8_goBy 8 = .ok (.invokevirtual 107, 3) := by decide +kernel
theorem dX8_goBy_11 : decode cX8_goBy 11 = .ok (.iinc 2 1, 3) := by decide +kernel
theorem dX8_goBy_14 : decode cX8_goBy 14 = .ok (.goto (-12), 3) := by decide +kernel
theorem dX8_goBy_17 : decode cX8_goBy 17 = .ok (.return_, 1) := by decide +kernel
set_option maxRecDepth 20000 in
theorem ggX8_run_X8_in : GoodIn wsX8_run wsX8_in := goodIn_r _ [5] (by decide +kernel) (by decide +kernel)
set_option maxRecDepth 20000 in
theorem gX8_run_X8_in : GoodIn wsX8_run (va_wsS RX8 33 yX8_in wsX8_in) := goodIn_app (goodIn_of _ (by decide +kernel)) ggX8_run_X8_in
set_option maxRecDepth 20000 in
theorem ggX8_run_X8_record : GoodIn wsX8_run wsX8_record := goodIn_r _ [9, 10, 11, 1, 12, 13, 4, 14, 74, 75, 76, 77, 78, 79, 80, 81, 82, 83, 84] (by decide +kernel) (by decide +kernel)
set_option maxRecDepth 20000 in
theorem gX8_run_X8_record : GoodIn wsX8_run (wsV RX8 52 RX8 yX8_record wsX8_record) := goodIn_app (goodIn_of _ (by decide +kernel)) ggX8_run_X8_record
set_option maxRecDepth 20000 in
theorem ggX8_run_X8_goBy : GoodIn wsX8_run wsX8_goBy := goodIn_r _ [18, 19, 20, 21, 4, 22, 1, 23, 24, 25, 26, 27, 28, 29, 30, 31, 32, 33, 34, 35, 36, 37, 38, 39, 40, 41, 42, 43, 44, 45, 46, 47, 48, 49, 50, 51, 52, 53, 54, 55, 56, 57, 58, 59, 60, 61, 62, 63, 64, 65, 66, 67, 68, 69, 70, 71, 72, 73, 74, 75, 76, 77, 78, 79, 80, 81, 82, 83, 84] (by decide +kernel) (by decide +kernel)
set_option maxRecDepth 20000 in
theorem gX8_run_X8_goBy : GoodIn wsX8_run (wsV RX8 110 RX8 yX8_goBy wsX8_goBy) := goodIn_app (goodIn_of _ (by decide +kernel)) ggX8_run_X8_goBy
set_option maxRecDepth 20000 in
theorem ggX8_run_X8_told : GoodIn wsX8_run wsX8_told := goodIn_r _ [73, 1, 31, 32, 33, 4, 34, 63, 64, 65, 74, 75, 76, 77, 78, 79, 80, 81, 82, 83, 84] (by decide +kernel) (by decide +kernel)
set_option maxRecDepth 20000 in
theorem gX8_run_X8_told : GoodIn wsX8_run (wsV RX8 92 RX8 yX8_told wsX8_told) := goodIn_app (goodIn_of _ (by decide +kernel)) ggX8_run_X8_told
theorem dX8_run_0 : decode cX8_run 0 = .ok (.iload_n 1, 1) := by decide +kernel
theorem dX8_run_1 : decode cX8_run 1 = .ok (.iconst 1, 1) := by decide +kernel
theorem dX8_run_2 : decode cX8_run 2 = .ok (.sipush 1000, 3) := by decide +kernel
theorem dX8_run_5 : decode cX8_run 5 = .ok (.invokestatic 33, 3) := by decide +kernel
theorem dX8_run_8 : decode cX8_run 8 = .ok (.ifCond .ne 5, 3) := by decide +kernel
theorem dX8_run_11 : decode cX8_run 11 = .ok (.iconst (-1), 1) := by decide +kernel
theorem dX8_run_12 : decode cX8_run 12 = .ok (.ireturn, 1) := by decide +kernel
theorem dX8_run_13 : decode cX8_run 13 = .ok (.aload_n 0, 1) := by decide +kernel
theorem dX8_run_14 : decode cX8_run 14 = .ok (.getfield 7, 3) := by decide +kernel
theorem dX8_run_17 : decode cX8_run 17 = .ok (.bipush 16, 2) := by decide +kernel
theorem dX8_run_19 : decode cX8_run 19 = .ok (.iaload, 1) := by decide +kernel
theorem dX8_run_20 : decode cX8_run 20 = .ok (.iload_n 1, 1) := by decide +kernel
theorem dX8_run_21 : decode cX8_run 21 = .ok (.iadd, 1) := by decide +kernel
theorem dX8_run_22 : decode cX8_run 22 = .ok (.sipush 20000, 3) := by decide +kernel
theorem dX8_run_25 : decode cX8_run 25 = .ok (.if_icmp .le 6, 3) := by decide +kernel
theorem dX8_run_28 : decode cX8_run 28 = .ok (.bipush (-3), 2) := by decide +kernel
theorem dX8_run_30 : decode cX8_run 30 = .ok (.ireturn, 1) := by decide +kernel
theorem dX8_run_31 : decode cX8_run 31 = .ok (.aload_n 0, 1) := by decide +kernel
theorem dX8_run_32 : decode cX8_run 32 = .ok (.invokevirtual 52, 3) := by decide +kernel
theorem dX8_run_35 : decode cX8_run 35 = .ok (.aload_n 0, 1) := by decide +kernel
theorem dX8_run_36 : decode cX8_run 36 = .ok (.iload_n 1, 1) := by decide +kernel
theorem dX8_run_37 : decode cX8_run 37 = .ok (.invokevirtual 110, 3) := by decide +kernel
theorem dX8_run_40 : decode cX8_run 40 = .ok (.aload_n 0, 1) := by decide +kernel
theorem dX8_run_41 : decode cX8_run 41 = .ok (.invokevirtual 92, 3) := by decide +kernel
theorem dX8_run_44 : decode cX8_run 44 = .ok (.ireturn, 1) := by decide +kernel
set_option maxRecDepth 20000 in
theorem ggX8_count_X8_length : GoodIn wsX8_count wsX8_length := goodIn_r _ [8, 1, 9, 10, 11, 7, 12, 13, 14, 15, 16, 35, 36, 37, 38, 39, 40, 41, 42, 43, 44, 45] (by decide +kernel) (by decide +kernel)
set_option maxRecDepth 20000 in
theorem gX8_count_X8_length : GoodIn wsX8_count (wsV RX8 71 RX8 yX8_length wsX8_length) := goodIn_app (goodIn_of _ (by decide +kernel)) ggX8_count_X8_length
set_option maxRecDepth 20000 in
theorem ggX8_count_X8_told : GoodIn wsX8_count wsX8_told := goodIn_r _ [20, 1, 13, 14, 15, 7, 16, 21, 22, 23, 35, 36, 37, 38, 39, 40, 41, 42, 43, 44, 45] (by decide +kernel) (by decide +kernel)
set_option maxRecDepth 20000 in
theorem gX8_count_X8_told : GoodIn wsX8_count (wsV RX8 92 RX8 yX8_told wsX8_told) := goodIn_app (goodIn_of _ (by decide +kernel)) ggX8_count_X8_told
set_option maxRecDepth 20000 in
theorem ggX8_count_X8_stuck : GoodIn wsX8_count wsX8_stuck := goodIn_r _ [27, 28, 29, 30, 7, 31, 1, 35, 36, 37, 38, 39, 40, 41, 42, 43, 44, 45] (by decide +kernel) (by decide +kernel)
set_option maxRecDepth 20000 in
theorem gX8_count_X8_stuck : GoodIn wsX8_count (wsV RX8 85 RX8 yX8_stuck wsX8_stuck) := goodIn_app (goodIn_of _ (by decide +kernel)) ggX8_count_X8_stuck
set_option maxRecDepth 20000 in
theorem ggX8_count_X8_in : GoodIn wsX8_count wsX8_in := goodIn_r _ [34] (by decide +kernel) (by decide +kernel)
set_option maxRecDepth 20000 in
theorem gX8_count_X8_in : GoodIn wsX8_count (va_wsS RX8 33 yX8_in wsX8_in) := goodIn_app (goodIn_of _ (by decide +kernel)) ggX8_count_X8_in
theorem dX8_count_0 : decode cX8_count 0 = .ok (.iload_n 1, 1) := by decide +kernel
theorem dX8_count_1 : decode cX8_count 1 = .ok (.tableswitch 161 8 23 #[79, 87, 92, 92, 92, 92, 92, 101, 106, 114, 122, 130, 138, 146, 151, 156], 79) := by decide +kernel
theorem dX8_count_80 : decode cX8_count 80 = .ok (.aload_n 0, 1) := by decide +kernel
theorem dX8_count_81 : decode cX8_count 81 = .ok (.getfield 7, 3) := by decide +kernel
theorem dX8_count_84 : decode cX8_count 84 = .ok (.bipush 8, 2) := by decide +kernel
theorem dX8_count_86 : decode cX8_count 86 = .ok (.iaload, 1) := by decide +kernel
theorem dX8_count_87 : decode cX8_count 87 = .ok (.ireturn, 1) := by decide +kernel
theorem dX8_count_88 : decode cX8_count 88 = .ok (.aload_n 0, 1) := by decide +kernel
theorem dX8_count_89 : decode cX8_count 89 = .ok (.invokevirtual 71, 3) := by decide +kernel
theorem dX8_count_92 : decode cX8_count 92 = .ok (.ireturn, 1) := by decide +kernel
theorem dX8_count_93 : decode cX8_count 93 = .ok (.aload_n 0, 1) := by decide +kernel
theorem dX8_count_94 : decode cX8_count 94 = .ok (.getfield 7, 3) := by decide +kernel
theorem dX8_count_97 : decode cX8_count 97 = .ok (.iload_n 1, 1) := by decide +kernel
theorem dX8_count_98 : decode cX8_count 98 = .ok (.iconst 1, 1) := by decide +kernel
theorem dX8_count_99 : decode cX8_count 99 = .ok (.isub, 1) := by decide +kernel
theorem dX8_count_100 : decode cX8_count 100 = .ok (.iaload, 1) := by decide +kernel
theorem dX8_count_101 : decode cX8_count 101 = .ok (.ireturn, 1) := by decide +kernel
theorem dX8_count_102 : decode cX8_count 102 = .ok (.aload_n 0, 1) := by decide +kernel
theorem dX8_count_103 : decode cX8_count 103 = .ok (.invokevirtual 92, 3) := by decide +kernel
theorem dX8_count_106 : decode cX8_count 106 = .ok (.ireturn, 1) := by decide +kernel
theorem dX8_count_107 : decode cX8_count 107 = .ok (.aload_n 0, 1) := by decide +kernel
theorem dX8_count_108 : decode cX8_count 108 = .ok (.getfield 7, 3) := by decide +kernel
theorem dX8_count_111 : decode cX8_count 111 = .ok (.bipush 14, 2) := by decide +kernel
theorem dX8_count_113 : decode cX8_count 113 = .ok (.iaload, 1) := by decide +kernel
theorem dX8_count_114 : decode cX8_count 114 = .ok (.ireturn, 1) := by decide +kernel
theorem dX8_count_115 : decode cX8_count 115 = .ok (.aload_n 0, 1) := by decide +kernel
theorem dX8_count_116 : decode cX8_count 116 = .ok (.getfield 7, 3) := by decide +kernel
theorem dX8_count_119 : decode cX8_count 119 = .ok (.bipush 15, 2) := by decide +kernel
theorem dX8_count_121 : decode cX8_count 121 = .ok (.iaload, 1) := by decide +kernel
theorem dX8_count_122 : decode cX8_count 122 = .ok (.ireturn, 1) := by decide +kernel
theorem dX8_count_123 : decode cX8_count 123 = .ok (.aload_n 0, 1) := by decide +kernel
theorem dX8_count_124 : decode cX8_count 124 = .ok (.getfield 7, 3) := by decide +kernel
theorem dX8_count_127 : decode cX8_count 127 = .ok (.bipush 16, 2) := by decide +kernel
theorem dX8_count_129 : decode cX8_count 129 = .ok (.iaload, 1) := by decide +kernel
theorem dX8_count_130 : decode cX8_count 130 = .ok (.ireturn, 1) := by decide +kernel
theorem dX8_count_131 : decode cX8_count 131 = .ok (.aload_n 0, 1) := by decide +kernel
theorem dX8_count_132 : decode cX8_count 132 = .ok (.getfield 7, 3) := by decide +kernel
theorem dX8_count_135 : decode cX8_count 135 = .ok (.bipush 17, 2) := by decide +kernel
theorem dX8_count_137 : decode cX8_count 137 = .ok (.iaload, 1) := by decide +kernel
theorem dX8_count_138 : decode cX8_count 138 = .ok (.ireturn, 1) := by decide +kernel
theorem dX8_count_139 : decode cX8_count 139 = .ok (.aload_n 0, 1) := by decide +kernel
theorem dX8_count_140 : decode cX8_count 140 = .ok (.getfield 7, 3) := by decide +kernel
theorem dX8_count_143 : decode cX8_count 143 = .ok (.bipush 18, 2) := by decide +kernel
theorem dX8_count_145 : decode cX8_count 145 = .ok (.iaload, 1) := by decide +kernel
theorem dX8_count_146 : decode cX8_count 146 = .ok (.ireturn, 1) := by decide +kernel
theorem dX8_count_147 : decode cX8_count 147 = .ok (.aload_n 0, 1) := by decide +kernel
theorem dX8_count_148 : decode cX8_count 148 = .ok (.invokevirtual 85, 3) := by decide +kernel
theorem dX8_count_151 : decode cX8_count 151 = .ok (.ireturn, 1) := by decide +kernel
theorem dX8_count_152 : decode cX8_count 152 = .ok (.aload_n 0, 1) := by decide +kernel
theorem dX8_count_153 : decode cX8_count 153 = .ok (.getfield 25, 3) := by decide +kernel
theorem dX8_count_156 : decode cX8_count 156 = .ok (.ireturn, 1) := by decide +kernel
theorem dX8_count_157 : decode cX8_count 157 = .ok (.aload_n 0, 1) := by decide +kernel
theorem dX8_count_158 : decode cX8_count 158 = .ok (.getfield 113, 3) := by decide +kernel
theorem dX8_count_161 : decode cX8_count 161 = .ok (.ireturn, 1) := by decide +kernel
theorem dX8_count_162 : decode cX8_count 162 = .ok (.iload_n 1, 1) := by decide +kernel
theorem dX8_count_163 : decode cX8_count 163 = .ok (.iconst 0, 1) := by decide +kernel
theorem dX8_count_164 : decode cX8_count 164 = .ok (.bipush 7, 2) := by decide +kernel
theorem dX8_count_166 : decode cX8_count 166 = .ok (.invokestatic 33, 3) := by decide +kernel
theorem dX8_count_169 : decode cX8_count 169 = .ok (.ifCond .eq 12, 3) := by decide +kernel
theorem dX8_count_172 : decode cX8_count 172 = .ok (.aload_n 0, 1) := by decide +kernel
theorem dX8_count_173 : decode cX8_count 173 = .ok (.getfield 7, 3) := by decide +kernel
theorem dX8_count_176 : decode cX8_count 176 = .ok (.iload_n 1, 1) := by decide +kernel
theorem dX8_count_177 : decode cX8_count 177 = .ok (.iaload, 1) := by decide +kernel
theorem dX8_count_178 : decode cX8_count 178 = .ok (.goto 4, 3) := by decide +kernel
theorem dX8_count_181 : decode cX8_count 181 = .ok (.iconst (-1), 1) := by decide +kernel
theorem dX8_count_182 : decode cX8_count 182 = .ok (.ireturn, 1) := by decide +kernel
set_option maxRecDepth 20000 in
theorem ggX8_account_X8_in : GoodIn wsX8_account wsX8_in := goodIn_r _ [5] (by decide +kernel) (by decide +kernel)
set_option maxRecDepth 20000 in
theorem gX8_account_X8_in : GoodIn wsX8_account (va_wsS RX8 33 yX8_in wsX8_in) := goodIn_app (goodIn_of _ (by decide +kernel)) ggX8_account_X8_in
theorem dX8_account_0 : decode cX8_account 0 = .ok (.iload_n 1, 1) := by decide +kernel
theorem dX8_account_1 : decode cX8_account 1 = .ok (.iconst 0, 1) := by decide +kernel
theorem dX8_account_2 : decode cX8_account 2 = .ok (.bipush 6, 2) := by decide +kernel
theorem dX8_account_4 : decode cX8_account 4 = .ok (.invokestatic 33, 3) := by decide +kernel
theorem dX8_account_7 : decode cX8_account 7 = .ok (.ifCond .eq 15, 3) := by decide +kernel
theorem dX8_account_10 : decode cX8_account 10 = .ok (.aload_n 0, 1) := by decide +kernel
theorem dX8_account_11 : decode cX8_account 11 = .ok (.getfield 7, 3) := by decide +kernel
theorem dX8_account_14 : decode cX8_account 14 = .ok (.bipush 19, 2) := by decide +kernel
theorem dX8_account_16 : decode cX8_account 16 = .ok (.iload_n 1, 1) := by decide +kernel
theorem dX8_account_17 : decode cX8_account 17 = .ok (.iadd, 1) := by decide +kernel
theorem dX8_account_18 : decode cX8_account 18 = .ok (.iaload, 1) := by decide +kernel
theorem dX8_account_19 : decode cX8_account 19 = .ok (.goto 4, 3) := by decide +kernel
theorem dX8_account_22 : decode cX8_account 22 = .ok (.iconst (-1), 1) := by decide +kernel
theorem dX8_account_23 : decode cX8_account 23 = .ok (.ireturn, 1) := by decide +kernel
set_option maxRecDepth 20000 in
theorem ggX8_line_X8_in : GoodIn wsX8_line wsX8_in := goodIn_r _ [4] (by decide +kernel) (by decide +kernel)
set_option maxRecDepth 20000 in
theorem gX8_line_X8_in : GoodIn wsX8_line (va_wsS RX8 33 yX8_in wsX8_in) := goodIn_app (goodIn_of _ (by decide +kernel)) ggX8_line_X8_in
set_option maxRecDepth 20000 in
theorem ggX8_line_X8_ofLine : GoodIn wsX8_line wsX8_ofLine := goodIn_r _ [8, 9, 10, 11, 12, 13, 14, 15, 16, 17, 18, 19, 20] (by decide +kernel) (by decide +kernel)
set_option maxRecDepth 20000 in
theorem gX8_line_X8_ofLine : GoodIn wsX8_line (wsV RX8 82 RX8 yX8_ofLine wsX8_ofLine) := goodIn_app (goodIn_of _ (by decide +kernel)) ggX8_line_X8_ofLine
theorem dX8_line_0 : decode cX8_line 0 = .ok (.iload_n 1, 1) := by decide +kernel
theorem dX8_line_1 : decode cX8_line 1 = .ok (.iconst 0, 1) := by decide +kernel
theorem dX8_line_2 : decode cX8_line 2 = .ok (.iconst 3, 1) := by decide +kernel
theorem dX8_line_3 : decode cX8_line 3 = .ok (.invokestatic 33, 3) := by decide +kernel
theorem dX8_line_6 : decode cX8_line 6 = .ok (.ifCond .eq 21, 3) := by decide +kernel
theorem dX8_line_9 : decode cX8_line 9 = .ok (.iload_n 2, 1) := by decide +kernel
theorem dX8_line_10 : decode cX8_line 10 = .ok (.iconst 0, 1) := by decide +kernel
theorem dX8_line_11 : decode cX8_line 11 = .ok (.iconst 4, 1) := by decide +kernel
theorem dX8_line_12 : decode cX8_line 12 = .ok (.invokestatic 33, 3) := by decide +kernel
theorem dX8_line_15 : decode cX8_line 15 = .ok (.ifCond .eq 12, 3) := by decide +kernel
theorem dX8_line_18 : decode cX8_line 18 = .ok (.aload_n 0, 1) := by decide +kernel
theorem dX8_line_19 : decode cX8_line 19 = .ok (.iload_n 1, 1) := by decide +kernel
theorem dX8_line_20 : decode cX8_line 20 = .ok (.iload_n 2, 1) := by decide +kernel
theorem dX8_line_21 : decode cX8_line 21 = .ok (.invokevirtual 82, 3) := by decide +kernel
theorem dX8_line_24 : decode cX8_line 24 = .ok (.goto 4, 3) := by decide +kernel
theorem dX8_line_27 : decode cX8_line 27 = .ok (.iconst (-1), 1) := by decide +kernel
theorem dX8_line_28 : decode cX8_line 28 = .ok (.ireturn, 1) := by decide +kernel
set_option maxRecDepth 20000 in
theorem ggX8_again_X8_water : GoodIn wsX8_again wsX8_water := goodIn_r _ [6, 1, 7, 8, 9, 5, 10, 11, 12, 13, 14, 15, 16, 17, 18, 19, 20, 21, 22, 23, 24] (by decide +kernel) (by decide +kernel)
set_option maxRecDepth 20000 in
theorem gX8_again_X8_water : GoodIn wsX8_again (wsV RX8 75 RX8 yX8_water wsX8_water) := goodIn_app (goodIn_of _ (by decide +kernel)) ggX8_again_X8_water
theorem dX8_again_0 : decode cX8_again 0 = .ok (.aload_n 0, 1) := by decide +kernel
theorem dX8_again_1 : decode cX8_again 1 = .ok (.getfield 7, 3) := by decide +kernel
theorem dX8_again_4 : decode cX8_again 4 = .ok (.bipush 20, 2) := by decide +kernel
theorem dX8_again_6 : decode cX8_again 6 = .ok (.iaload, 1) := by decide +kernel
theorem dX8_again_7 : decode cX8_again 7 = .ok (.aload_n 0, 1) := by decide +kernel
theorem dX8_again_8 : decode cX8_again 8 = .ok (.getfield 7, 3) := by decide +kernel
theorem dX8_again_11 : decode cX8_again 11 = .ok (.bipush 21, 2) := by decide +kernel
theorem dX8_again_13 : decode cX8_again 13 = .ok (.iaload, 1) := by decide +kernel
theorem dX8_again_14 : decode cX8_again 14 = .ok (.iadd, 1) := by decide +kernel
theorem dX8_again_15 : decode cX8_again 15 = .ok (.istore_n 1, 1) := by decide +kernel
theorem dX8_again_16 : decode cX8_again 16 = .ok (.aload_n 0, 1) := by decide +kernel
theorem dX8_again_17 : decode cX8_again 17 = .ok (.getfield 7, 3) := by decide +kernel
theorem dX8_again_20 : decode cX8_again 20 = .ok (.bipush 9, 2) := by decide +kernel
theorem dX8_again_22 : decode cX8_again 22 = .ok (.iaload, 1) := by decide +kernel
theorem dX8_again_23 : decode cX8_again 23 = .ok (.istore_n 2, 1) := by decide +kernel
theorem dX8_again_24 : decode cX8_again 24 = .ok (.aload_n 0, 1) := by decide +kernel
theorem dX8_again_25 : decode cX8_again 25 = .ok (.iload_n 2, 1) := by decide +kernel
theorem dX8_again_26 : decode cX8_again 26 = .ok (.invokevirtual 75, 3) := by decide +kernel
theorem dX8_again_29 : decode cX8_again 29 = .ok (.iload_n 1, 1) := by decide +kernel
theorem dX8_again_30 : decode cX8_again 30 = .ok (.if_icmp .le 9, 3) := by decide +kernel
theorem dX8_again_33 : decode cX8_again 33 = .ok (.iinc 2 (-1), 3) := by decide +kernel
theorem dX8_again_36 : decode cX8_again 36 = .ok (.goto (-12), 3) := by decide +kernel
theorem dX8_again_39 : decode cX8_again 39 = .ok (.iload_n 2, 1) := by decide +kernel
theorem dX8_again_40 : decode cX8_again 40 = .ok (.ireturn, 1) := by decide +kernel
set_option maxRecDepth 20000 in
theorem ggX8_isVial_X8_in : GoodIn wsX8_isVial wsX8_in := goodIn_r _ [5] (by decide +kernel) (by decide +kernel)
set_option maxRecDepth 20000 in
theorem gX8_isVial_X8_in : GoodIn wsX8_isVial (va_wsS RX8 33 yX8_in wsX8_in) := goodIn_app (goodIn_of _ (by decide +kernel)) ggX8_isVial_X8_in
theorem dX8_isVial_0 : decode cX8_isVial 0 = .ok (.iload_n 1, 1) := by decide +kernel
theorem dX8_isVial_1 : decode cX8_isVial 1 = .ok (.iconst 0, 1) := by decide +kernel
theorem dX8_isVial_2 : decode cX8_isVial 2 = .ok (.aload_n 0, 1) := by decide +kernel
theorem dX8_isVial_3 : decode cX8_isVial 3 = .ok (.getfield 7, 3) := by decide +kernel
theorem dX8_isVial_6 : decode cX8_isVial 6 = .ok (.bipush 14, 2) := by decide +kernel
theorem dX8_isVial_8 : decode cX8_isVial 8 = .ok (.iaload, 1) := by decide +kernel
theorem dX8_isVial_9 : decode cX8_isVial 9 = .ok (.iconst 1, 1) := by decide +kernel
theorem dX8_isVial_10 : decode cX8_isVial 10 = .ok (.isub, 1) := by decide +kernel
theorem dX8_isVial_11 : decode cX8_isVial 11 = .ok (.invokestatic 33, 3) := by decide +kernel
theorem dX8_isVial_14 : decode cX8_isVial 14 = .ok (.ireturn, 1) := by decide +kernel
set_option maxRecDepth 20000 in
theorem ggX8_vial_X8_isVial : GoodIn wsX8_vial wsX8_isVial := goodIn_r _ [6, 1, 7, 8, 5, 9, 10, 11, 12, 13, 14, 15, 16, 17, 18, 19, 20] (by decide +kernel) (by decide +kernel)
set_option maxRecDepth 20000 in
theorem gX8_vial_X8_isVial : GoodIn wsX8_vial (wsV RX8 116 RX8 yX8_isVial wsX8_isVial) := goodIn_app (goodIn_of _ (by decide +kernel)) ggX8_vial_X8_isVial
set_option maxRecDepth 20000 in
theorem ggX8_vial_X8_in : GoodIn wsX8_vial wsX8_in := goodIn_r _ [9] (by decide +kernel) (by decide +kernel)
set_option maxRecDepth 20000 in
theorem gX8_vial_X8_in : GoodIn wsX8_vial (va_wsS RX8 33 yX8_in wsX8_in) := goodIn_app (goodIn_of _ (by decide +kernel)) ggX8_vial_X8_in
theorem dX8_vial_0 : decode cX8_vial 0 = .ok (.aload_n 0, 1) := by decide +kernel
theorem dX8_vial_1 : decode cX8_vial 1 = .ok (.iload_n 1, 1) := by decide +kernel
theorem dX8_vial_2 : decode cX8_vial 2 = .ok (.invokevirtual 116, 3) := by decide +kernel
theorem dX8_vial_5 : decode cX8_vial 5 = .ok (.ifCond .eq 12, 3) := by decide +kernel
theorem dX8_vial_8 : decode cX8_vial 8 = .ok (.iload_n 2, 1) := by decide +kernel
theorem dX8_vial_9 : decode cX8_vial 9 = .ok (.iconst 0, 1) := by decide +kernel
theorem dX8_vial_10 : decode cX8_vial 10 = .ok (.iconst 3, 1) := by decide +kernel
theorem dX8_vial_11 : decode cX8_vial 11 = .ok (.invokestatic 33, 3) := by decide +kernel
theorem dX8_vial_14 : decode cX8_vial 14 = .ok (.ifCond .ne 5, 3) := by decide +kernel
theorem dX8_vial_17 : decode cX8_vial 17 = .ok (.iconst (-1), 1) := by decide +kernel
theorem dX8_vial_18 : decode cX8_vial 18 = .ok (.ireturn, 1) := by decide +kernel
theorem dX8_vial_19 : decode cX8_vial 19 = .ok (.iload_n 2, 1) := by decide +kernel
theorem dX8_vial_20 : decode cX8_vial 20 = .ok (.iconst 2, 1) := by decide +kernel
theorem dX8_vial_21 : decode cX8_vial 21 = .ok (.if_icmp .ne 27, 3) := by decide +kernel
theorem dX8_vial_24 : decode cX8_vial 24 = .ok (.iload_n 1, 1) := by decide +kernel
theorem dX8_vial_25 : decode cX8_vial 25 = .ok (.ifCond .ne 7, 3) := by decide +kernel
theorem dX8_vial_28 : decode cX8_vial 28 = .ok (.iconst 0, 1) := by decide +kernel
theorem dX8_vial_29 : decode cX8_vial 29 = .ok (.goto 18, 3) := by decide +kernel
theorem dX8_vial_32 : decode cX8_vial 32 = .ok (.aload_n 0, 1) := by decide +kernel
theorem dX8_vial_33 : decode cX8_vial 33 = .ok (.getfield 7, 3) := by decide +kernel
theorem dX8_vial_36 : decode cX8_vial 36 = .ok (.bipush 126, 2) := by decide +kernel
theorem dX8_vial_38 : decode cX8_vial 38 = .ok (.iconst 3, 1) := by decide +kernel
theorem dX8_vial_39 : decode cX8_vial 39 = .ok (.iload_n 1, 1) := by decide +kernel
theorem dX8_vial_40 : decode cX8_vial 40 = .ok (.iconst 1, 1) := by decide +kernel
theorem dX8_vial_41 : decode cX8_vial 41 = .ok (.isub, 1) := by decide +kernel
theorem dX8_vial_42 : decode cX8_vial 42 = .ok (.imul, 1) := by decide +kernel
theorem dX8_vial_43 : decode cX8_vial 43 = .ok (.iadd, 1) := by decide +kernel
theorem dX8_vial_44 : decode cX8_vial 44 = .ok (.iconst 1, 1) := by decide +kernel
theorem dX8_vial_45 : decode cX8_vial 45 = .ok (.iadd, 1) := by decide +kernel
theorem dX8_vial_46 : decode cX8_vial 46 = .ok (.iaload, 1) := by decide +kernel
theorem dX8_vial_47 : decode cX8_vial 47 = .ok (.ireturn, 1) := by decide +kernel
theorem dX8_vial_48 : decode cX8_vial 48 = .ok (.aload_n 0, 1) := by decide +kernel
theorem dX8_vial_49 : decode cX8_vial 49 = .ok (.getfield 7, 3) := by decide +kernel
theorem dX8_vial_52 : decode cX8_vial 52 = .ok (.bipush 126, 2) := by decide +kernel
theorem dX8_vial_54 : decode cX8_vial 54 = .ok (.iconst 3, 1) := by decide +kernel
theorem dX8_vial_55 : decode cX8_vial 55 = .ok (.iload_n 1, 1) := by decide +kernel
theorem dX8_vial_56 : decode cX8_vial 56 = .ok (.imul, 1) := by decide +kernel
theorem dX8_vial_57 : decode cX8_vial 57 = .ok (.iadd, 1) := by decide +kernel
theorem dX8_vial_58 : decode cX8_vial 58 = .ok (.iload_n 2, 1) := by decide +kernel
theorem dX8_vial_59 : decode cX8_vial 59 = .ok (.iconst 3, 1) := by decide +kernel
theorem dX8_vial_60 : decode cX8_vial 60 = .ok (.if_icmp .ne 7, 3) := by decide +kernel
theorem dX8_vial_63 : decode cX8_vial 63 = .ok (.iconst 2, 1) := by decide +kernel
theorem dX8_vial_64 : decode cX8_vial 64 = .ok (.goto 4, 3) := by decide +kernel
theorem dX8_vial_67 : decode cX8_vial 67 = .ok (.iload_n 2, 1) := by decide +kernel
theorem dX8_vial_68 : decode cX8_vial 68 = .ok (.iadd, 1) := by decide +kernel
theorem dX8_vial_69 : decode cX8_vial 69 = .ok (.iaload, 1) := by decide +kernel
theorem dX8_vial_70 : decode cX8_vial 70 = .ok (.ireturn, 1) := by decide +kernel
theorem dX8_vialAt_0 : decode cX8_vialAt 0 = .ok (.iload_n 1, 1) := by decide +kernel
theorem dX8_vialAt_1 : decode cX8_vialAt 1 = .ok (.ifCond .ge 5, 3) := by decide +kernel
theorem dX8_vialAt_4 : decode cX8_vialAt 4 = .ok (.iconst (-1), 1) := by decide +kernel
theorem dX8_vialAt_5 : decode cX8_vialAt 5 = .ok (.ireturn, 1) := by decide +kernel
theorem dX8_vialAt_6 : decode cX8_vialAt 6 = .ok (.iconst 0, 1) := by decide +kernel
theorem dX8_vialAt_7 : decode cX8_vialAt 7 = .ok (.istore_n 2, 1) := by decide +kernel
theorem dX8_vialAt_8 : decode cX8_vialAt 8 = .ok (.iload_n 2, 1) := by decide +kernel
theorem dX8_vialAt_9 : decode cX8_vialAt 9 = .ok (.aload_n 0, 1) := by decide +kernel
theorem dX8_vialAt_10 : decode cX8_vialAt 10 = .ok (.getfield 7, 3) := by decide +kernel
theorem dX8_vialAt_13 : decode cX8_vialAt 13 = .ok (.bipush 14, 2) := by decide +kernel
theorem dX8_vialAt_15 : decode cX8_vialAt 15 = .ok (.iaload, 1) := by decide +kernel
theorem dX8_vialAt_16 : decode cX8_vialAt 16 = .ok (.if_icmp .ge 28, 3) := by decide +kernel
theorem dX8_vialAt_19 : decode cX8_vialAt 19 = .ok (.aload_n 0, 1) := by decide +kernel
theorem dX8_vialAt_20 : decode cX8_vialAt 20 = .ok (.getfield 7, 3) := by decide +kernel
theorem dX8_vialAt_23 : decode cX8_vialAt 23 = .ok (.bipush 126, 2) := by decide +kernel
theorem dX8_vialAt_25 : decode cX8_vialAt 25 = .ok (.iconst 3, 1) := by decide +kernel
theorem dX8_vialAt_26 : decode cX8_vialAt 26 = .ok (.iload_n 2, 1) := by decide +kernel
theorem dX8_vialAt_27 : decode cX8_vialAt 27 = .ok (.imul, 1) := by decide +kernel
theorem dX8_vialAt_28 : decode cX8_vialAt 28 = .ok (.iadd, 1) := by decide +kernel
theorem dX8_vialAt_29 : decode cX8_vialAt 29 = .ok (.iconst 1, 1) := by decide +kernel
theorem dX8_vialAt_30 : decode cX8_vialAt 30 = .ok (.iadd, 1) := by decide +kernel
theorem dX8_vialAt_31 : decode cX8_vialAt 31 = .ok (.iaload, 1) := by decide +kernel
theorem dX8_vialAt_32 : decode cX8_vialAt 32 = .ok (.iload_n 1, 1) := by decide +kernel
theorem dX8_vialAt_33 : decode cX8_vialAt 33 = .ok (.if_icmp .le 5, 3) := by decide +kernel
theorem dX8_vialAt_36 : decode cX8_vialAt 36 = .ok (.iload_n 2, 1) := by decide +kernel
theorem dX8_vialAt_37 : decode cX8_vialAt 37 = .ok (.ireturn, 1) := by decide +kernel
theorem dX8_vialAt_38 : decode cX8_vialAt 38 = .ok (.iinc 2 1, 3) := by decide +kernel
theorem dX8_vialAt_41 : decode cX8_vialAt 41 = .ok (.goto (-33), 3) := by decide +kernel
theorem dX8_vialAt_44 : decode cX8_vialAt 44 = .ok (.bipush (-4), 2) := by decide +kernel
theorem dX8_vialAt_46 : decode cX8_vialAt 46 = .ok (.ireturn, 1) := by decide +kernel
set_option maxRecDepth 20000 in
theorem ggX8_differs_X8_told : GoodIn wsX8_differs wsX8_told := goodIn_r _ [7, 1, 8, 9, 10, 6, 11, 12, 13, 14, 23, 24, 25, 26, 27, 28, 29, 30, 31, 32, 33] (by decide +kernel) (by decide +kernel)
set_option maxRecDepth 20000 in
theorem gX8_differs_X8_told : GoodIn wsX8_differs (wsV RX8 92 RX8 yX8_told wsX8_told) := goodIn_app (goodIn_of _ (by decide +kernel)) ggX8_differs_X8_told
set_option maxRecDepth 20000 in
theorem ggX8_differs_X8_stuck : GoodIn wsX8_differs wsX8_stuck := goodIn_r _ [18, 19, 20, 21, 6, 22, 1, 23, 24, 25, 26, 27, 28, 29, 30, 31, 32, 33] (by decide +kernel) (by decide +kernel)
set_option maxRecDepth 20000 in
theorem gX8_differs_X8_stuck : GoodIn wsX8_differs (wsV RX8 85 RX8 yX8_stuck wsX8_stuck) := goodIn_app (goodIn_of _ (by decide +kernel)) ggX8_differs_X8_stuck
theorem dX8_differs_0 : decode cX8_differs 0 = .ok (.iload_n 1, 1) := by decide +kernel
theorem dX8_differs_1 : decode cX8_differs 1 = .ok (.tableswitch 105 0 5 #[39, 44, 52, 68, 84, 100], 39) := by decide +kernel
theorem dX8_differs_40 : decode cX8_differs 40 = .ok (.aload_n 0, 1) := by decide +kernel
theorem dX8_differs_41 : decode cX8_differs 41 = .ok (.invokevirtual 92, 3) := by decide +kernel
theorem dX8_differs_44 : decode cX8_differs 44 = .ok (.ireturn, 1) := by decide +kernel
theorem dX8_differs_45 : decode cX8_differs 45 = .ok (.aload_n 0, 1) := by decide +kernel
theorem dX8_differs_46 : decode cX8_differs 46 = .ok (.getfield 7, 3) := by decide +kernel
theorem dX8_differs_49 : decode cX8_differs 49 = .ok (.bipush 9, 2) := by decide +kernel
theorem dX8_differs_51 : decode cX8_differs 51 = .ok (.iaload, 1) := by decide +kernel
theorem dX8_differs_52 : decode cX8_differs 52 = .ok (.ireturn, 1) := by decide +kernel
theorem dX8_differs_53 : decode cX8_differs 53 = .ok (.aload_n 0, 1) := by decide +kernel
theorem dX8_differs_54 : decode cX8_differs 54 = .ok (.getfield 7, 3) := by decide +kernel
theorem dX8_differs_57 : decode cX8_differs 57 = .ok (.bipush 20, 2) := by decide +kernel
theorem dX8_differs_59 : decode cX8_differs 59 = .ok (.iaload, 1) := by decide +kernel
theorem dX8_differs_60 : decode cX8_differs 60 = .ok (.aload_n 0, 1) := by decide +kernel
theorem dX8_differs_61 : decode cX8_differs 61 = .ok (.getfield 13, 3) := by decide +kernel
theorem dX8_differs_64 : decode cX8_differs 64 = .ok (.bipush 20, 2) := by decide +kernel
theorem dX8_differs_66 : decode cX8_differs 66 = .ok (.iaload, 1) := by decide +kernel
theorem dX8_differs_67 : decode cX8_differs 67 = .ok (.isub, 1) := by decide +kernel
theorem dX8_differs_68 : decode cX8_differs 68 = .ok (.ireturn, 1) := by decide +kernel
theorem dX8_differs_69 : decode cX8_differs 69 = .ok (.aload_n 0, 1) := by decide +kernel
theorem dX8_differs_70 : decode cX8_differs 70 = .ok (.getfield 7, 3) := by decide +kernel
theorem dX8_differs_73 : decode cX8_differs 73 = .ok (.bipush 21, 2) := by decide +kernel
theorem dX8_differs_75 : decode cX8_differs 75 = .ok (.iaload, 1) := by decide +kernel
theorem dX8_differs_76 : decode cX8_differs 76 = .ok (.aload_n 0, 1) := by decide +kernel
theorem dX8_differs_77 : decode cX8_differs 77 = .ok (.getfield 13, 3) := by decide +kernel
theorem dX8_differs_80 : decode cX8_differs 80 = .ok (.bipush 21, 2) := by decide +kernel
theorem dX8_differs_82 : decode cX8_differs 82 = .ok (.iaload, 1) := by decide +kernel
theorem dX8_differs_83 : decode cX8_differs 83 = .ok (.isub, 1) := by decide +kernel
theorem dX8_differs_84 : decode cX8_differs 84 = .ok (.ireturn, 1) := by decide +kernel
theorem dX8_differs_85 : decode cX8_differs 85 = .ok (.aload_n 0, 1) := by decide +kernel
theorem dX8_differs_86 : decode cX8_differs 86 = .ok (.getfield 7, 3) := by decide +kernel
theorem dX8_differs_89 : decode cX8_differs 89 = .ok (.bipush 14, 2) := by decide +kernel
theorem dX8_differs_91 : decode cX8_differs 91 = .ok (.iaload, 1) := by decide +kernel
theorem dX8_differs_92 : decode cX8_differs 92 = .ok (.aload_n 0, 1) := by decide +kernel
theorem dX8_differs_93 : decode cX8_differs 93 = .ok (.getfield 13, 3) := by decide +kernel
theorem dX8_differs_96 : decode cX8_differs 96 = .ok (.bipush 14, 2) := by decide +kernel
theorem dX8_differs_98 : decode cX8_differs 98 = .ok (.iaload, 1) := by decide +kernel
theorem dX8_differs_99 : decode cX8_differs 99 = .ok (.isub, 1) := by decide +kernel
theorem dX8_differs_100 : decode cX8_differs 100 = .ok (.ireturn, 1) := by decide +kernel
theorem dX8_differs_101 : decode cX8_differs 101 = .ok (.aload_n 0, 1) := by decide +kernel
theorem dX8_differs_102 : decode cX8_differs 102 = .ok (.invokevirtual 85, 3) := by decide +kernel
theorem dX8_differs_105 : decode cX8_differs 105 = .ok (.ireturn, 1) := by decide +kernel
theorem dX8_differs_106 : decode cX8_differs 106 = .ok (.aload_n 0, 1) := by decide +kernel
theorem dX8_differs_107 : decode cX8_differs 107 = .ok (.getfield 7, 3) := by decide +kernel
theorem dX8_differs_110 : decode cX8_differs 110 = .ok (.bipush 18, 2) := by decide +kernel
theorem dX8_differs_112 : decode cX8_differs 112 = .ok (.iaload, 1) := by decide +kernel
theorem dX8_differs_113 : decode cX8_differs 113 = .ok (.aload_n 0, 1) := by decide +kernel
theorem dX8_differs_114 : decode cX8_differs 114 = .ok (.getfield 13, 3) := by decide +kernel
theorem dX8_differs_117 : decode cX8_differs 117 = .ok (.bipush 18, 2) := by decide +kernel
theorem dX8_differs_119 : decode cX8_differs 119 = .ok (.iaload, 1) := by decide +kernel
theorem dX8_differs_120 : decode cX8_differs 120 = .ok (.isub, 1) := by decide +kernel
theorem dX8_differs_121 : decode cX8_differs 121 = .ok (.ireturn, 1) := by decide +kernel
set_option maxRecDepth 20000 in
theorem ggX8_ifRun_X8_in : GoodIn wsX8_ifRun wsX8_in := goodIn_r _ [6] (by decide +kernel) (by decide +kernel)
set_option maxRecDepth 20000 in
theorem gX8_ifRun_X8_in : GoodIn wsX8_ifRun (va_wsS RX8 33 yX8_in wsX8_in) := goodIn_app (goodIn_of _ (by decide +kernel)) ggX8_ifRun_X8_in
set_option maxRecDepth 20000 in
theorem ggX8_ifRun_X8_bring : GoodIn wsX8_ifRun wsX8_bring := goodIn_r _ [9] (by decide +kernel) (by decide +kernel)
set_option maxRecDepth 20000 in
theorem gX8_ifRun_X8_bring : GoodIn wsX8_ifRun (va_wsS RX8 29 yX8_bring wsX8_bring) := goodIn_app (goodIn_of _ (by decide +kernel)) ggX8_ifRun_X8_bring
set_option maxRecDepth 20000 in
theorem ggX8_ifRun_X8_goBy : GoodIn wsX8_ifRun wsX8_goBy := goodIn_r _ [13, 14, 15, 16, 5, 17, 1, 18, 19, 20, 21, 22, 23, 24, 25, 26, 27, 28, 29, 30, 31, 32, 33, 34, 35, 36, 37, 38, 39, 40, 41, 42, 43, 44, 45, 46, 47, 48, 49, 50, 51, 52, 53, 54, 55, 56, 57, 58, 59, 60, 61, 62, 63, 64, 65, 66, 67, 68, 73, 74, 75, 76, 77, 78, 79, 80, 81, 82, 83] (by decide +kernel) (by decide +kernel)
set_option maxRecDepth 20000 in
theorem gX8_ifRun_X8_goBy : GoodIn wsX8_ifRun (wsV RX8 110 RX8 yX8_goBy wsX8_goBy) := goodIn_app (goodIn_of _ (by decide +kernel)) ggX8_ifRun_X8_goBy
set_option maxRecDepth 20000 in
theorem ggX8_ifRun_X8_differs : GoodIn wsX8_ifRun wsX8_differs := goodIn_r _ [72, 1, 2, 65, 66, 67, 5, 68, 26, 27, 28, 29, 58, 59, 60, 34, 35, 36, 37, 38, 39, 40, 41, 73, 74, 75, 76, 77, 78, 79, 80, 81, 82, 83] (by decide +kernel) (by decide +kernel)
set_option maxRecDepth 20000 in
theorem gX8_ifRun_X8_differs : GoodIn wsX8_ifRun (wsV RX8 119 RX8 yX8_differs wsX8_differs) := goodIn_app (goodIn_of _ (by decide +kernel)) ggX8_ifRun_X8_differs
theorem dX8_ifRun_0 : decode cX8_ifRun 0 = .ok (.iload_n 1, 1) := by decide +kernel
theorem dX8_ifRun_1 : decode cX8_ifRun 1 = .ok (.iconst 1, 1) := by decide +kernel
theorem dX8_ifRun_2 : decode cX8_ifRun 2 = .ok (.sipush 1000, 3) := by decide +kernel
theorem dX8_ifRun_5 : decode cX8_ifRun 5 = .ok (.invokestatic 33, 3) := by decide +kernel
theorem dX8_ifRun_8 : decode cX8_ifRun 8 = .ok (.ifCond .eq 13, 3) := by decide +kernel
theorem dX8_ifRun_11 : decode cX8_ifRun 11 = .ok (.iload_n 2, 1) := by decide +kernel
theorem dX8_ifRun_12 : decode cX8_ifRun 12 = .ok (.iconst 0, 1) := by decide +kernel
theorem dX8_ifRun_13 : decode cX8_ifRun 13 = .ok (.bipush 6, 2) := by decide +kernel
theorem dX8_ifRun_15 : decode cX8_ifRun 15 = .ok (.invokestatic 33, 3) := by decide +kernel
theorem dX8_ifRun_18 : decode cX8_ifRun 18 = .ok (.ifCond .ne 5, 3) := by decide +kernel
theorem dX8_ifRun_21 : decode cX8_ifRun 21 = .ok (.iconst (-1), 1) := by decide +kernel
theorem dX8_ifRun_22 : decode cX8_ifRun 22 = .ok (.ireturn, 1) := by decide +kernel
theorem dX8_ifRun_23 : decode cX8_ifRun 23 = .ok (.aload_n 0, 1) := by decide +kernel
theorem dX8_ifRun_24 : decode cX8_ifRun 24 = .ok (.getfield 7, 3) := by decide +kernel
theorem dX8_ifRun_27 : decode cX8_ifRun 27 = .ok (.bipush 16, 2) := by decide +kernel
theorem dX8_ifRun_29 : decode cX8_ifRun 29 = .ok (.iaload, 1) := by decide +kernel
theorem dX8_ifRun_30 : decode cX8_ifRun 30 = .ok (.iload_n 1, 1) := by decide +kernel
theorem dX8_ifRun_31 : decode cX8_ifRun 31 = .ok (.iadd, 1) := by decide +kernel
theorem dX8_ifRun_32 : decode cX8_ifRun 32 = .ok (.sipush 20000, 3) := by decide +kernel
theorem dX8_ifRun_35 : decode cX8_ifRun 35 = .ok (.if_icmp .le 6, 3) := by decide +kernel
theorem dX8_ifRun_38 : decode cX8_ifRun 38 = .ok (.bipush (-3), 2) := by decide +kernel
theorem dX8_ifRun_40 : decode cX8_ifRun 40 = .ok (.ireturn, 1) := by decide +kernel
theorem dX8_ifRun_41 : decode cX8_ifRun 41 = .ok (.aload_n 0, 1) := by decide +kernel
theorem dX8_ifRun_42 : decode cX8_ifRun 42 = .ok (.getfield 7, 3) := by decide +kernel
theorem dX8_ifRun_45 : decode cX8_ifRun 45 = .ok (.iconst 0, 1) := by decide +kernel
theorem dX8_ifRun_46 : decode cX8_ifRun 46 = .ok (.aload_n 0, 1) := by decide +kernel
theorem dX8_ifRun_47 : decode cX8_ifRun 47 = .ok (.getfield 13, 3) := by decide +kernel
theorem dX8_ifRun_50 : decode cX8_ifRun 50 = .ok (.iconst 0, 1) := by decide +kernel
theorem dX8_ifRun_51 : decode cX8_ifRun 51 = .ok (.invokestatic 29, 3) := by decide +kernel
theorem dX8_ifRun_54 : decode cX8_ifRun 54 = .ok (.aload_n 0, 1) := by decide +kernel
theorem dX8_ifRun_55 : decode cX8_ifRun 55 = .ok (.iload_n 1, 1) := by decide +kernel
theorem dX8_ifRun_56 : decode cX8_ifRun 56 = .ok (.invokevirtual 110, 3) := by decide +kernel
theorem dX8_ifRun_59 : decode cX8_ifRun 59 = .ok (.aload_n 0, 1) := by decide +kernel
theorem dX8_ifRun_60 : decode cX8_ifRun 60 = .ok (.iload_n 2, 1) := by decide +kernel
theorem dX8_ifRun_61 : decode cX8_ifRun 61 = .ok (.invokevirtual 119, 3) := by decide +kernel
theorem dX8_ifRun_64 : decode cX8_ifRun 64 = .ok (.istore_n 3, 1) := by decide +kernel
theorem dX8_ifRun_65 : decode cX8_ifRun 65 = .ok (.aload_n 0, 1) := by decide +kernel
theorem dX8_ifRun_66 : decode cX8_ifRun 66 = .ok (.getfield 13, 3) := by decide +kernel
theorem dX8_ifRun_69 : decode cX8_ifRun 69 = .ok (.iconst 0, 1) := by decide +kernel
theorem dX8_ifRun_70 : decode cX8_ifRun 70 = .ok (.aload_n 0, 1) := by decide +kernel
theorem dX8_ifRun_71 : decode cX8_ifRun 71 = .ok (.getfield 7, 3) := by decide +kernel
theorem dX8_ifRun_74 : decode cX8_ifRun 74 = .ok (.iconst 0, 1) := by decide +kernel
theorem dX8_ifRun_75 : decode cX8_ifRun 75 = .ok (.invokestatic 29, 3) := by decide +kernel
theorem dX8_ifRun_78 : decode cX8_ifRun 78 = .ok (.iload_n 3, 1) := by decide +kernel
theorem dX8_ifRun_79 : decode cX8_ifRun 79 = .ok (.ireturn, 1) := by decide +kernel
set_option maxRecDepth 20000 in
theorem ggX8_ticksTo_X8_bring : GoodIn wsX8_ticksTo wsX8_bring := goodIn_r _ [6] (by decide +kernel) (by decide +kernel)
set_option maxRecDepth 20000 in
theorem gX8_ticksTo_X8_bring : GoodIn wsX8_ticksTo (va_wsS RX8 29 yX8_bring wsX8_bring) := goodIn_app (goodIn_of _ (by decide +kernel)) ggX8_ticksTo_X8_bring
set_option maxRecDepth 20000 in
theorem ggX8_ticksTo_X8_told : GoodIn wsX8_ticksTo wsX8_told := goodIn_r _ [10, 1, 11, 12, 13, 5, 14, 15, 16, 17, 62, 63, 64, 65, 66, 67, 68, 69, 70, 71, 72] (by decide +kernel) (by decide +kernel)
set_option maxRecDepth 20000 in
theorem gX8_ticksTo_X8_told : GoodIn wsX8_ticksTo (wsV RX8 92 RX8 yX8_told wsX8_told) := goodIn_app (goodIn_of _ (by decide +kernel)) ggX8_ticksTo_X8_told
set_option maxRecDepth 20000 in
theorem ggX8_ticksTo_X8_tick : GoodIn wsX8_ticksTo wsX8_tick := goodIn_r _ [21, 1, 22, 23, 24, 5, 25, 26, 27, 28, 29, 11, 12, 13, 14, 30, 31, 32, 33, 34, 35, 36, 37, 38, 39, 40, 41, 42, 43, 44, 45, 46, 47, 48, 49, 50, 51, 52, 53, 54, 55, 56, 57, 15, 16, 17, 58, 59, 60, 61, 7, 8, 9, 10, 62, 63, 64, 65, 66, 67, 68, 69, 70, 71, 72] (by decide +kernel) (by decide +kernel)
set_option maxRecDepth 20000 in
theorem gX8_ticksTo_X8_tick : GoodIn wsX8_ticksTo (wsV RX8 107 RX8 yX8_tick wsX8_tick) := goodIn_app (goodIn_of _ (by decide +kernel)) ggX8_ticksTo_X8_tick
theorem dX8_ticksTo_0 : decode cX8_ticksTo 0 = .ok (.iload_n 1, 1) := by decide +kernel
theorem dX8_ticksTo_1 : decode cX8_ticksTo 1 = .ok (.ifCond .ge 5, 3) := by decide +kernel
theorem dX8_ticksTo_4 : decode cX8_ticksTo 4 = .ok (.iconst (-1), 1) := by decide +kernel
theorem dX8_ticksTo_5 : decode cX8_ticksTo 5 = .ok (.ireturn, 1) := by decide +kernel
theorem dX8_ticksTo_6 : decode cX8_ticksTo 6 = .ok (.aload_n 0, 1) := by decide +kernel
theorem dX8_ticksTo_7 : decode cX8_ticksTo 7 = .ok (.getfield 7, 3) := by decide +kernel
theorem dX8_ticksTo_10 : decode cX8_ticksTo 10 = .ok (.iconst 0, 1) := by decide +kernel
theorem dX8_ticksTo_11 : decode cX8_ticksTo 11 = .ok (.aload_n 0, 1) := by decide +kernel
theorem dX8_ticksTo_12 : decode cX8_ticksTo 12 = .ok (.getfield 13, 3) := by decide +kernel
theorem dX8_ticksTo_15 : decode cX8_ticksTo 15 = .ok (.iconst 0, 1) := by decide +kernel
theorem dX8_ticksTo_16 : decode cX8_ticksTo 16 = .ok (.invokestatic 29, 3) := by decide +kernel
theorem dX8_ticksTo_19 : decode cX8_ticksTo 19 = .ok (.iconst 0, 1) := by decide +kernel
theorem dX8_ticksTo_20 : decode cX8_ticksTo 20 = .ok (.istore_n 2, 1) := by decide +kernel
theorem dX8_ticksTo_21 : decode cX8_ticksTo 21 = .ok (.aload_n 0, 1) := by decide +kernel
theorem dX8_ticksTo_22 : decode cX8_ticksTo 22 = .ok (.invokevirtual 92, 3) := by decide +kernel
theorem dX8_ticksTo_25 : decode cX8_ticksTo 25 = .ok (.iload_n 1, 1) := by decide +kernel
theorem dX8_ticksTo_26 : decode cX8_ticksTo 26 = .ok (.if_icmp .ge 33, 3) := by decide +kernel
theorem dX8_ticksTo_29 : decode cX8_ticksTo 29 = .ok (.iload_n 2, 1) := by decide +kernel
theorem dX8_ticksTo_30 : decode cX8_ticksTo 30 = .ok (.sipush 2000, 3) := by decide +kernel
theorem dX8_ticksTo_33 : decode cX8_ticksTo 33 = .ok (.if_icmp .ge 26, 3) := by decide +kernel
theorem dX8_ticksTo_36 : decode cX8_ticksTo 36 = .ok (.aload_n 0, 1) := by decide +kernel
theorem dX8_ticksTo_37 : decode cX8_ticksTo 37 = .ok (.getfield 7, 3) := by decide +kernel
theorem dX8_ticksTo_40 : decode cX8_ticksTo 40 = .ok (.bipush 16, 2) := by decide +kernel
theorem dX8_ticksTo_42 : decode cX8_ticksTo 42 = .ok (.iaload, 1) := by decide +kernel
theorem dX8_ticksTo_43 : decode cX8_ticksTo 43 = .ok (.sipush 20000, 3) := by decide +kernel
theorem dX8_ticksTo_46 : decode cX8_ticksTo 46 = .ok (.if_icmp .ge 13, 3) := by decide +kernel
theorem dX8_ticksTo_49 : decode cX8_ticksTo 49 = .ok (.aload_n 0, 1) := by decide +kernel
theorem dX8_ticksTo_50 : decode cX8_ticksTo 50 = .ok (.invokevirtual 107, 3) := by decide +kernel
theorem dX8_ticksTo_53 : decode cX8_ticksTo 53 = .ok (.iinc 2 1, 3) := by decide +kernel
theorem dX8_ticksTo_56 : decode cX8_ticksTo 56 = .ok (.goto (-35), 3) := by decide +kernel
theorem dX8_ticksTo_59 : decode cX8_ticksTo 59 = .ok (.aload_n 0, 1) := by decide +kernel
theorem dX8_ticksTo_60 : decode cX8_ticksTo 60 = .ok (.invokevirtual 92, 3) := by decide +kernel
theorem dX8_ticksTo_63 : decode cX8_ticksTo 63 = .ok (.iload_n 1, 1) := by decide +kernel
theorem dX8_ticksTo_64 : decode cX8_ticksTo 64 = .ok (.if_icmp .ge 8, 3) := by decide +kernel
theorem dX8_ticksTo_67 : decode cX8_ticksTo 67 = .ok (.bipush (-4), 2) := by decide +kernel
theorem dX8_ticksTo_69 : decode cX8_ticksTo 69 = .ok (.goto 4, 3) := by decide +kernel
theorem dX8_ticksTo_72 : decode cX8_ticksTo 72 = .ok (.iload_n 2, 1) := by decide +kernel
theorem dX8_ticksTo_73 : decode cX8_ticksTo 73 = .ok (.istore_n 3, 1) := by decide +kernel
theorem dX8_ticksTo_74 : decode cX8_ticksTo 74 = .ok (.aload_n 0, 1) := by decide +kernel
theorem dX8_ticksTo_75 : decode cX8_ticksTo 75 = .ok (.getfield 13, 3) := by decide +kernel
theorem dX8_ticksTo_78 : decode cX8_ticksTo 78 = .ok (.iconst 0, 1) := by decide +kernel
theorem dX8_ticksTo_79 : decode cX8_ticksTo 79 = .ok (.aload_n 0, 1) := by decide +kernel
theorem dX8_ticksTo_80 : decode cX8_ticksTo 80 = .ok (.getfield 7, 3) := by decide +kernel
theorem dX8_ticksTo_83 : decode cX8_ticksTo 83 = .ok (.iconst 0, 1) := by decide +kernel
theorem dX8_ticksTo_84 : decode cX8_ticksTo 84 = .ok (.invokestatic 29, 3) := by decide +kernel
theorem dX8_ticksTo_87 : decode cX8_ticksTo 87 = .ok (.iload_n 3, 1) := by decide +kernel
theorem dX8_ticksTo_88 : decode cX8_ticksTo 88 = .ok (.ireturn, 1) := by decide +kernel
set_option maxRecDepth 20000 in
theorem ggX8_flowFor_X8_in : GoodIn wsX8_flowFor wsX8_in := goodIn_r _ [6] (by decide +kernel) (by decide +kernel)
set_option maxRecDepth 20000 in
theorem gX8_flowFor_X8_in : GoodIn wsX8_flowFor (va_wsS RX8 33 yX8_in wsX8_in) := goodIn_app (goodIn_of _ (by decide +kernel)) ggX8_flowFor_X8_in
set_option maxRecDepth 20000 in
theorem ggX8_flowFor_X8_bring : GoodIn wsX8_flowFor wsX8_bring := goodIn_r _ [9] (by decide +kernel) (by decide +kernel)
set_option maxRecDepth 20000 in
theorem gX8_flowFor_X8_bring : GoodIn wsX8_flowFor (va_wsS RX8 29 yX8_bring wsX8_bring) := goodIn_app (goodIn_of _ (by decide +kernel)) ggX8_flowFor_X8_bring
set_option maxRecDepth 20000 in
theorem ggX8_flowFor_X8_goBy : GoodIn wsX8_flowFor wsX8_goBy := goodIn_r _ [13, 14, 15, 16, 5, 17, 1, 18, 19, 20, 21, 22, 23, 24, 25, 26, 27, 28, 29, 30, 31, 32, 33, 34, 35, 36, 37, 38, 39, 40, 41, 42, 43, 44, 45, 46, 47, 48, 49, 50, 51, 52, 53, 54, 55, 56, 57, 58, 59, 60, 61, 62, 63, 64, 65, 66, 67, 68, 69, 70, 71, 72, 73, 74, 75, 76, 77, 78, 79] (by decide +kernel) (by decide +kernel)
set_option maxRecDepth 20000 in
theorem gX8_flowFor_X8_goBy : GoodIn wsX8_flowFor (wsV RX8 110 RX8 yX8_goBy wsX8_goBy) := goodIn_app (goodIn_of _ (by decide +kernel)) ggX8_flowFor_X8_goBy
theorem dX8_flowFor_0 : decode cX8_flowFor 0 = .ok (.iload_n 1, 1) := by decide +kernel
theorem dX8_flowFor_1 : decode cX8_flowFor 1 = .ok (.iconst 1, 1) := by decide +kernel
theorem dX8_flowFor_2 : decode cX8_flowFor 2 = .ok (.sipush 300, 3) := by decide +kernel
theorem dX8_flowFor_5 : decode cX8_flowFor 5 = .ok (.invokestatic 33, 3) := by decide +kernel
theorem dX8_flowFor_8 : decode cX8_flowFor 8 = .ok (.ifCond .ne 5, 3) := by decide +kernel
theorem dX8_flowFor_11 : decode cX8_flowFor 11 = .ok (.iconst (-1), 1) := by decide +kernel
theorem dX8_flowFor_12 : decode cX8_flowFor 12 = .ok (.ireturn, 1) := by decide +kernel
theorem dX8_flowFor_13 : decode cX8_flowFor 13 = .ok (.aload_n 0, 1) := by decide +kernel
theorem dX8_flowFor_14 : decode cX8_flowFor 14 = .ok (.getfield 7, 3) := by decide +kernel
theorem dX8_flowFor_17 : decode cX8_flowFor 17 = .ok (.bipush 16, 2) := by decide +kernel
theorem dX8_flowFor_19 : decode cX8_flowFor 19 = .ok (.iaload, 1) := by decide +kernel
theorem dX8_flowFor_20 : decode cX8_flowFor 20 = .ok (.iload_n 1, 1) := by decide +kernel
theorem dX8_flowFor_21 : decode cX8_flowFor 21 = .ok (.iadd, 1) := by decide +kernel
theorem dX8_flowFor_22 : decode cX8_flowFor 22 = .ok (.sipush 20000, 3) := by decide +kernel
theorem dX8_flowFor_25 : decode cX8_flowFor 25 = .ok (.if_icmp .le 6, 3) := by decide +kernel
theorem dX8_flowFor_28 : decode cX8_flowFor 28 = .ok (.bipush (-3), 2) := by decide +kernel
theorem dX8_flowFor_30 : decode cX8_flowFor 30 = .ok (.ireturn, 1) := by decide +kernel
theorem dX8_flowFor_31 : decode cX8_flowFor 31 = .ok (.aload_n 0, 1) := by decide +kernel
theorem dX8_flowFor_32 : decode cX8_flowFor 32 = .ok (.getfield 7, 3) := by decide +kernel
theorem dX8_flowFor_35 : decode cX8_flowFor 35 = .ok (.iconst 0, 1) := by decide +kernel
theorem dX8_flowFor_36 : decode cX8_flowFor 36 = .ok (.aload_n 0, 1) := by decide +kernel
theorem dX8_flowFor_37 : decode cX8_flowFor 37 = .ok (.getfield 13, 3) := by decide +kernel
theorem dX8_flowFor_40 : decode cX8_flowFor 40 = .ok (.iconst 0, 1) := by decide +kernel
theorem dX8_flowFor_41 : decode cX8_flowFor 41 = .ok (.invokestatic 29, 3) := by decide +kernel
theorem dX8_flowFor_44 : decode cX8_flowFor 44 = .ok (.iconst 0, 1) := by decide +kernel
theorem dX8_flowFor_45 : decode cX8_flowFor 45 = .ok (.istore_n 2, 1) := by decide +kernel
theorem dX8_flowFor_46 : decode cX8_flowFor 46 = .ok (.iconst (-1), 1) := by decide +kernel
theorem dX8_flowFor_47 : decode cX8_flowFor 47 = .ok (.istore_n 3, 1) := by decide +kernel
theorem dX8_flowFor_48 : decode cX8_flowFor 48 = .ok (.bipush 10, 2) := by decide +kernel
theorem dX8_flowFor_50 : decode cX8_flowFor 50 = .ok (.istore 4, 2) := by decide +kernel
theorem dX8_flowFor_52 : decode cX8_flowFor 52 = .ok (.iload 4, 2) := by decide +kernel
theorem dX8_flowFor_54 : decode cX8_flowFor 54 = .ok (.sipush 500, 3) := by decide +kernel
theorem dX8_flowFor_57 : decode cX8_flowFor 57 = .ok (.if_icmp .gt 70, 3) := by decide +kernel
theorem dX8_flowFor_60 : decode cX8_flowFor 60 = .ok (.aload_n 0, 1) := by decide +kernel
theorem dX8_flowFor_61 : decode cX8_flowFor 61 = .ok (.getfield 7, 3) := by decide +kernel
theorem dX8_flowFor_64 : decode cX8_flowFor 64 = .ok (.iconst 3, 1) := by decide +kernel
theorem dX8_flowFor_65 : decode cX8_flowFor 65 = .ok (.iload 4, 2) := by decide +kernel
theorem dX8_flowFor_67 : decode cX8_flowFor 67 = .ok (.iastore, 1) := by decide +kernel
theorem dX8_flowFor_68 : decode cX8_flowFor 68 = .ok (.aload_n 0, 1) := by decide +kernel
theorem dX8_flowFor_69 : decode cX8_flowFor 69 = .ok (.iload_n 1, 1) := by decide +kernel
theorem dX8_flowFor_70 : decode cX8_flowFor 70 = .ok (.invokevirtual 110, 3) := by decide +kernel
theorem dX8_flowFor_73 : decode cX8_flowFor 73 = .ok (.aload_n 0, 1) := by decide +kernel
theorem dX8_flowFor_74 : decode cX8_flowFor 74 = .ok (.getfield 7, 3) := by decide +kernel
theorem dX8_flowFor_77 : decode cX8_flowFor 77 = .ok (.bipush 20, 2) := by decide +kernel
theorem dX8_flowFor_79 : decode cX8_flowFor 79 = .ok (.iaload, 1) := by decide +kernel
theorem dX8_flowFor_80 : decode cX8_flowFor 80 = .ok (.istore 5, 2) := by decide +kernel
theorem dX8_flowFor_82 : decode cX8_flowFor 82 = .ok (.iload 5, 2) := by decide +kernel
theorem dX8_flowFor_84 : decode cX8_flowFor 84 = .ok (.iload_n 3, 1) := by decide +kernel
theorem dX8_flowFor_85 : decode cX8_flowFor 85 = .ok (.if_icmp .le 8, 3) := by decide +kernel
theorem dX8_flowFor_88 : decode cX8_flowFor 88 = .ok (.iload 4, 2) := by decide +kernel
theorem dX8_flowFor_90 : decode cX8_flowFor 90 = .ok (.goto 4, 3) := by decide +kernel
theorem dX8_flowFor_93 : decode cX8_flowFor 93 = .ok (.iload_n 2, 1) := by decide +kernel
theorem dX8_flowFor_94 : decode cX8_flowFor 94 = .ok (.istore_n 2, 1) := by decide +kernel
theorem dX8_flowFor_95 : decode cX8_flowFor 95 = .ok (.iload 5, 2) := by decide +kernel
theorem dX8_flowFor_97 : decode cX8_flowFor 97 = .ok (.iload_n 3, 1) := by decide +kernel
theorem dX8_flowFor_98 : decode cX8_flowFor 98 = .ok (.if_icmp .le 8, 3) := by decide +kernel
theorem dX8_flowFor_101 : decode cX8_flowFor 101 = .ok (.iload 5, 2) := by decide +kernel
theorem dX8_flowFor_103 : decode cX8_flowFor 103 = .ok (.goto 4, 3) := by decide +kernel
theorem dX8_flowFor_106 : decode cX8_flowFor 106 = .ok (.iload_n 3, 1) := by decide +kernel
theorem dX8_flowFor_107 : decode cX8_flowFor 107 = .ok (.istore_n 3, 1) := by decide +kernel
theorem dX8_flowFor_108 : decode cX8_flowFor 108 = .ok (.aload_n 0, 1) := by decide +kernel
theorem dX8_flowFor_109 : decode cX8_flowFor 109 = .ok (.getfield 13, 3) := by decide +kernel
theorem dX8_flowFor_112 : decode cX8_flowFor 112 = .ok (.iconst 0, 1) := by decide +kernel
theorem dX8_flowFor_113 : decode cX8_flowFor 113 = .ok (.aload_n 0, 1) := by decide +kernel
theorem dX8_flowFor_114 : decode cX8_flowFor 114 = .ok (.getfield 7, 3) := by decide +kernel
theorem dX8_flowFor_117 : decode cX8_flowFor 117 = .ok (.iconst 0, 1) := by decide +kernel
theorem dX8_flowFor_118 : decode cX8_flowFor 118 = .ok (.invokestatic 29, 3) := by decide +kernel
theorem dX8_flowFor_121 : decode cX8_flowFor 121 = .ok (.iinc 4 10, 3) := by decide +kernel
theorem dX8_flowFor_124 : decode cX8_flowFor 124 = .ok (.goto (-72), 3) := by decide +kernel
theorem dX8_flowFor_127 : decode cX8_flowFor 127 = .ok (.iload_n 2, 1) := by decide +kernel
theorem dX8_flowFor_128 : decode cX8_flowFor 128 = .ok (.ireturn, 1) := by decide +kernel
set_option maxRecDepth 20000 in
theorem ggX8_type_X8_in : GoodIn wsX8_type wsX8_in := goodIn_r _ [6] (by decide +kernel) (by decide +kernel)
set_option maxRecDepth 20000 in
theorem gX8_type_X8_in : GoodIn wsX8_type (va_wsS RX8 33 yX8_in wsX8_in) := goodIn_app (goodIn_of _ (by decide +kernel)) ggX8_type_X8_in
theorem dX8_type_0 : decode cX8_type 0 = .ok (.iload_n 1, 1) := by decide +kernel
theorem dX8_type_1 : decode cX8_type 1 = .ok (.bipush 32, 2) := by decide +kernel
theorem dX8_type_3 : decode cX8_type 3 = .ok (.bipush 126, 2) := by decide +kernel
theorem dX8_type_5 : decode cX8_type 5 = .ok (.invokestatic 33, 3) := by decide +kernel
theorem dX8_type_8 : decode cX8_type 8 = .ok (.ifCond .ne 5, 3) := by decide +kernel
theorem dX8_type_11 : decode cX8_type 11 = .ok (.iconst (-1), 1) := by decide +kernel
theorem dX8_type_12 : decode cX8_type 12 = .ok (.ireturn, 1) := by decide +kernel
theorem dX8_type_13 : decode cX8_type 13 = .ok (.aload_n 0, 1) := by decide +kernel
theorem dX8_type_14 : decode cX8_type 14 = .ok (.getfield 113, 3) := by decide +kernel
theorem dX8_type_17 : decode cX8_type 17 = .ok (.bipush 100, 2) := by decide +kernel
theorem dX8_type_19 : decode cX8_type 19 = .ok (.if_icmp .ne 6, 3) := by decide +kernel
theorem dX8_type_22 : decode cX8_type 22 = .ok (.bipush (-3), 2) := by decide +kernel
theorem dX8_type_24 : decode cX8_type 24 = .ok (.ireturn, 1) := by decide +kernel
theorem dX8_type_25 : decode cX8_type 25 = .ok (.aload_n 0, 1) := by decide +kernel
theorem dX8_type_26 : decode cX8_type 26 = .ok (.getfield 19, 3) := by decide +kernel
theorem dX8_type_29 : decode cX8_type 29 = .ok (.aload_n 0, 1) := by decide +kernel
theorem dX8_type_30 : decode cX8_type 30 = .ok (.getfield 113, 3) := by decide +kernel
theorem dX8_type_33 : decode cX8_type 33 = .ok (.iload_n 1, 1) := by decide +kernel
theorem dX8_type_34 : decode cX8_type 34 = .ok (.iastore, 1) := by decide +kernel
theorem dX8_type_35 : decode cX8_type 35 = .ok (.aload_n 0, 1) := by decide +kernel
theorem dX8_type_36 : decode cX8_type 36 = .ok (.dup, 1) := by decide +kernel
theorem dX8_type_37 : decode cX8_type 37 = .ok (.getfield 113, 3) := by decide +kernel
theorem dX8_type_40 : decode cX8_type 40 = .ok (.iconst 1, 1) := by decide +kernel
theorem dX8_type_41 : decode cX8_type 41 = .ok (.iadd, 1) := by decide +kernel
theorem dX8_type_42 : decode cX8_type 42 = .ok (.putfield 113, 3) := by decide +kernel
theorem dX8_type_45 : decode cX8_type 45 = .ok (.aload_n 0, 1) := by decide +kernel
theorem dX8_type_46 : decode cX8_type 46 = .ok (.getfield 113, 3) := by decide +kernel
theorem dX8_type_49 : decode cX8_type 49 = .ok (.ireturn, 1) := by decide +kernel
theorem dX8_clearText_0 : decode cX8_clearText 0 = .ok (.aload_n 0, 1) := by decide +kernel
theorem dX8_clearText_1 : decode cX8_clearText 1 = .ok (.getfield 113, 3) := by decide +kernel
theorem dX8_clearText_4 : decode cX8_clearText 4 = .ok (.istore_n 1, 1) := by decide +kernel
theorem dX8_clearText_5 : decode cX8_clearText 5 = .ok (.aload_n 0, 1) := by decide +kernel
theorem dX8_clearText_6 : decode cX8_clearText 6 = .ok (.iconst 0, 1) := by decide +kernel
theorem dX8_clearText_7 : decode cX8_clearText 7 = .ok (.putfield 113, 3) := by decide +kernel
theorem dX8_clearText_10 : decode cX8_clearText 10 = .ok (.iload_n 1, 1) := by decide +kernel
theorem dX8_clearText_11 : decode cX8_clearText 11 = .ok (.ireturn, 1) := by decide +kernel
theorem dX8_here_0 : decode cX8_here 0 = .ok (.aload_n 0, 1) := by decide +kernel
theorem dX8_here_1 : decode cX8_here 1 = .ok (.getfield 122, 3) := by decide +kernel
theorem dX8_here_4 : decode cX8_here 4 = .ok (.aload_n 0, 1) := by decide +kernel
theorem dX8_here_5 : decode cX8_here 5 = .ok (.getfield 113, 3) := by decide +kernel
theorem dX8_here_8 : decode cX8_here 8 = .ok (.if_icmp .ge 15, 3) := by decide +kernel
theorem dX8_here_11 : decode cX8_here 11 = .ok (.aload_n 0, 1) := by decide +kernel
theorem dX8_here_12 : decode cX8_here 12 = .ok (.getfield 19, 3) := by decide +kernel
theorem dX8_here_15 : decode cX8_here 15 = .ok (.aload_n 0, 1) := by decide +kernel
theorem dX8_here_16 : decode cX8_here 16 = .ok (.getfield 122, 3) := by decide +kernel
theorem dX8_here_19 : decode cX8_here 19 = .ok (.iaload, 1) := by decide +kernel
theorem dX8_here_20 : decode cX8_here 20 = .ok (.goto 4, 3) := by decide +kernel
theorem dX8_here_23 : decode cX8_here 23 = .ok (.iconst 0, 1) := by decide +kernel
theorem dX8_here_24 : decode cX8_here 24 = .ok (.ireturn, 1) := by decide +kernel
set_option maxRecDepth 20000 in
theorem ggX8_readKind_X8_here : GoodIn wsX8_readKind wsX8_here := goodIn_r _ [12, 4, 13, 14, 18, 19, 20, 21, 22, 23, 24, 25, 26, 27, 28] (by decide +kernel) (by decide +kernel)
set_option maxRecDepth 20000 in
theorem gX8_readKind_X8_here : GoodIn wsX8_readKind (wsV RX8 125 RX8 yX8_here wsX8_here) := goodIn_app (goodIn_of _ (by decide +kernel)) ggX8_readKind_X8_here
set_option maxRecDepth 20000 in
theorem ggX8_readKind_X8_in : GoodIn wsX8_readKind wsX8_in := goodIn_r _ [17] (by decide +kernel) (by decide +kernel)
set_option maxRecDepth 20000 in
theorem gX8_readKind_X8_in : GoodIn wsX8_readKind (va_wsS RX8 33 yX8_in wsX8_in) := goodIn_app (goodIn_of _ (by decide +kernel)) ggX8_readKind_X8_in
theorem dX8_readKind_0 : decode cX8_readKind 0 = .ok (.lconst 0, 1) := by decide +kernel
theorem dX8_readKind_1 : decode cX8_readKind 1 = .ok (.lstore_n 1, 1) := by decide +kernel
theorem dX8_readKind_2 : decode cX8_readKind 2 = .ok (.aload_n 0, 1) := by decide +kernel
theorem dX8_readKind_3 : decode cX8_readKind 3 = .ok (.invokevirtual 125, 3) := by decide +kernel
theorem dX8_readKind_6 : decode cX8_readKind 6 = .ok (.bipush 97, 2) := by decide +kernel
theorem dX8_readKind_8 : decode cX8_readKind 8 = .ok (.bipush 122, 2) := by decide +kernel
theorem dX8_readKind_10 : decode cX8_readKind 10 = .ok (.invokestatic 33, 3) := by decide +kernel
theorem dX8_readKind_13 : decode cX8_readKind 13 = .ok (.ifCond .eq 44, 3) := by decide +kernel
theorem dX8_readKind_16 : decode cX8_readKind 16 = .ok (.lload_n 1, 1) := by decide +kernel
theorem dX8_readKind_17 : decode cX8_readKind 17 = .ok (.ldc2_w 128, 3) := by decide +kernel
theorem dX8_readKind_20 : decode cX8_readKind 20 = .ok (.lcmp, 1) := by decide +kernel
theorem dX8_readKind_21 : decode cX8_readKind 21 = .ok (.ifCond .le 7, 3) := by decide +kernel
theorem dX8_readKind_24 : decode cX8_readKind 24 = .ok (.lload_n 1, 1) := by decide +kernel
theorem dX8_readKind_25 : decode cX8_readKind 25 = .ok (.goto 18, 3) := by decide +kernel
theorem dX8_readKind_28 : decode cX8_readKind 28 = .ok (.lload_n 1, 1) := by decide +kernel
theorem dX8_readKind_29 : decode cX8_readKind 29 = .ok (.ldc2_w 130, 3) := by decide +kernel
theorem dX8_readKind_32 : decode cX8_readKind 32 = .ok (.lmul, 1) := by decide +kernel
theorem dX8_readKind_33 : decode cX8_readKind 33 = .ok (.aload_n 0, 1) := by decide +kernel
theorem dX8_readKind_34 : decode cX8_readKind 34 = .ok (.invokevirtual 125, 3) := by decide +kernel
theorem dX8_readKind_37 : decode cX8_readKind 37 = .ok (.i2l, 1) := by decide +kernel
theorem dX8_readKind_38 : decode cX8_readKind 38 = .ok (.ladd, 1) := by decide +kernel
theorem dX8_readKind_39 : decode cX8_readKind 39 = .ok (.ldc2_w 132, 3) := by decide +kernel
theorem dX8_readKind_42 : decode cX8_readKind 42 = .ok (.lsub, 1) := by decide +kernel
theorem dX8_readKind_43 : decode cX8_readKind 43 = .ok (.lstore_n 1, 1) := by decide +kernel
theorem dX8_readKind_44 : decode cX8_readKind 44 = .ok (.aload_n 0, 1) := by decide +kernel
theorem dX8_readKind_45 : decode cX8_readKind 45 = .ok (.dup, 1) := by decide +kernel
theorem dX8_readKind_46 : decode cX8_readKind 46 = .ok (.getfield 122, 3) := by decide +kernel
theorem dX8_readKind_49 : decode cX8_readKind 49 = .ok (.iconst 1, 1) := by decide +kernel
theorem dX8_readKind_50 : decode cX8_readKind 50 = .ok (.iadd, 1) := by decide +kernel
theorem dX8_readKind_51 : decode cX8_readKind 51 = .ok (.putfield 122, 3) := by decide +kernel
theorem dX8_readKind_54 : decode cX8_readKind 54 = .ok (.goto (-52), 3) := by decide +kernel
theorem dX8_readKind_57 : decode cX8_readKind 57 = .ok (.lload_n 1, 1) := by decide +kernel
theorem dX8_readKind_58 : decode cX8_readKind 58 = .ok (.ldc2_w 134, 3) := by decide +kernel
theorem dX8_readKind_61 : decode cX8_readKind 61 = .ok (.lcmp, 1) := by decide +kernel
theorem dX8_readKind_62 : decode cX8_readKind 62 = .ok (.ifCond .ne 7, 3) := by decide +kernel
theorem dX8_readKind_65 : decode cX8_readKind 65 = .ok (.iconst 0, 1) := by decide +kernel
theorem dX8_readKind_66 : decode cX8_readKind 66 = .ok (.goto 29, 3) := by decide +kernel
theorem dX8_readKind_69 : decode cX8_readKind 69 = .ok (.lload_n 1, 1) := by decide +kernel
theorem dX8_readKind_70 : decode cX8_readKind 70 = .ok (.ldc2_w 136, 3) := by decide +kernel
theorem dX8_readKind_73 : decode cX8_readKind 73 = .ok (.lcmp, 1) := by decide +kernel
theorem dX8_readKind_74 : decode cX8_readKind 74 = .ok (.ifCond .ne 7, 3) := by decide +kernel
theorem dX8_readKind_77 : decode cX8_readKind 77 = .ok (.iconst 1, 1) := by decide +kernel
theorem dX8_readKind_78 : decode cX8_readKind 78 = .ok (.goto 17, 3) := by decide +kernel
theorem dX8_readKind_81 : decode cX8_readKind 81 = .ok (.lload_n 1, 1) := by decide +kernel
theorem dX8_readKind_82 : decode cX8_readKind 82 = .ok (.ldc2_w 138, 3) := by decide +kernel
theorem dX8_readKind_85 : decode cX8_readKind 85 = .ok (.lcmp, 1) := by decide +kernel
theorem dX8_readKind_86 : decode cX8_readKind 86 = .ok (.ifCond .ne 7, 3) := by decide +kernel
theorem dX8_readKind_89 : decode cX8_readKind 89 = .ok (.iconst 2, 1) := by decide +kernel
theorem dX8_readKind_90 : decode cX8_readKind 90 = .ok (.goto 5, 3) := by decide +kernel
theorem dX8_readKind_93 : decode cX8_readKind 93 = .ok (.bipush (-4), 2) := by decide +kernel
theorem dX8_readKind_95 : decode cX8_readKind 95 = .ok (.ireturn, 1) := by decide +kernel
set_option maxRecDepth 20000 in
theorem ggX8_readNumber_X8_here : GoodIn wsX8_readNumber wsX8_here := goodIn_r _ [7, 1, 8, 9, 13, 14, 15, 16, 17, 18, 19, 20, 21, 22, 23] (by decide +kernel) (by decide +kernel)
set_option maxRecDepth 20000 in
theorem gX8_readNumber_X8_here : GoodIn wsX8_readNumber (wsV RX8 125 RX8 yX8_here wsX8_here) := goodIn_app (goodIn_of _ (by decide +kernel)) ggX8_readNumber_X8_here
set_option maxRecDepth 20000 in
theorem ggX8_readNumber_X8_in : GoodIn wsX8_readNumber wsX8_in := goodIn_r _ [12] (by decide +kernel) (by decide +kernel)
set_option maxRecDepth 20000 in
theorem gX8_readNumber_X8_in : GoodIn wsX8_readNumber (va_wsS RX8 33 yX8_in wsX8_in) := goodIn_app (goodIn_of _ (by decide +kernel)) ggX8_readNumber_X8_in
theorem dX8_readNumber_0 : decode cX8_readNumber 0 = .ok (.aload_n 0, 1) := by decide +kernel
theorem dX8_readNumber_1 : decode cX8_readNumber 1 = .ok (.invokevirtual 125, 3) := by decide +kernel
theorem dX8_readNumber_4 : decode cX8_readNumber 4 = .ok (.bipush 32, 2) := by decide +kernel
theorem dX8_readNumber_6 : decode cX8_readNumber 6 = .ok (.if_icmp .eq 5, 3) := by decide +kernel
theorem dX8_readNumber_9 : decode cX8_readNumber 9 = .ok (.iconst 0, 1) := by decide +kernel
theorem dX8_readNumber_10 : decode cX8_readNumber 10 = .ok (.ireturn, 1) := by decide +kernel
theorem dX8_readNumber_11 : decode cX8_readNumber 11 = .ok (.aload_n 0, 1) := by decide +kernel
theorem dX8_readNumber_12 : decode cX8_readNumber 12 = .ok (.dup, 1) := by decide +kernel
theorem dX8_readNumber_13 : decode cX8_readNumber 13 = .ok (.getfield 122, 3) := by decide +kernel
theorem dX8_readNumber_16 : decode cX8_readNumber 16 = .ok (.iconst 1, 1) := by decide +kernel
theorem dX8_readNumber_17 : decode cX8_readNumber 17 = .ok (.iadd, 1) := by decide +kernel
theorem dX8_readNumber_18 : decode cX8_readNumber 18 = .ok (.putfield 122, 3) := by decide +kernel
theorem dX8_readNumber_21 : decode cX8_readNumber 21 = .ok (.aload_n 0, 1) := by decide +kernel
theorem dX8_readNumber_22 : decode cX8_readNumber 22 = .ok (.getfield 122, 3) := by decide +kernel
theorem dX8_readNumber_25 : decode cX8_readNumber 25 = .ok (.istore_n 2, 1) := by decide +kernel
theorem dX8_readNumber_26 : decode cX8_readNumber 26 = .ok (.iconst 0, 1) := by decide +kernel
theorem dX8_readNumber_27 : decode cX8_readNumber 27 = .ok (.istore_n 3, 1) := by decide +kernel
theorem dX8_readNumber_28 : decode cX8_readNumber 28 = .ok (.aload_n 0, 1) := by decide +kernel
theorem dX8_readNumber_29 : decode cX8_readNumber 29 = .ok (.getfield 122, 3) := by decide +kernel
theorem dX8_readNumber_32 : decode cX8_readNumber 32 = .ok (.iload_n 2, 1) := by decide +kernel
theorem dX8_readNumber_33 : decode cX8_readNumber 33 = .ok (.iconst 3, 1) := by decide +kernel
theorem dX8_readNumber_34 : decode cX8_readNumber 34 = .ok (.iadd, 1) := by decide +kernel
theorem dX8_readNumber_35 : decode cX8_readNumber 35 = .ok (.if_icmp .ge 43, 3) := by decide +kernel
theorem dX8_readNumber_38 : decode cX8_readNumber 38 = .ok (.aload_n 0, 1) := by decide +kernel
theorem dX8_readNumber_39 : decode cX8_readNumber 39 = .ok (.invokevirtual 125, 3) := by decide +kernel
theorem dX8_readNumber_42 : decode cX8_readNumber 42 = .ok (.bipush 48, 2) := by decide +kernel
theorem dX8_readNumber_44 : decode cX8_readNumber 44 = .ok (.bipush 57, 2) := by decide +kernel
theorem dX8_readNumber_46 : decode cX8_readNumber 46 = .ok (.invokestatic 33, 3) := by decide +kernel
theorem dX8_readNumber_49 : decode cX8_readNumber 49 = .ok (.ifCond .eq 29, 3) := by decide +kernel
theorem dX8_readNumber_52 : decode cX8_readNumber 52 = .ok (.bipush 10, 2) := by decide +kernel
theorem dX8_readNumber_54 : decode cX8_readNumber 54 = .ok (.iload_n 3, 1) := by decide +kernel
theorem dX8_readNumber_55 : decode cX8_readNumber 55 = .ok (.imul, 1) := by decide +kernel
theorem dX8_readNumber_56 : decode cX8_readNumber 56 = .ok (.aload_n 0, 1) := by decide +kernel
theorem dX8_readNumber_57 : decode cX8_readNumber 57 = .ok (.invokevirtual 125, 3) := by decide +kernel
theorem dX8_readNumber_60 : decode cX8_readNumber 60 = .ok (.iadd, 1) := by decide +kernel
theorem dX8_readNumber_61 : decode cX8_readNumber 61 = .ok (.bipush 48, 2) := by decide +kernel
theorem dX8_readNumber_63 : decode cX8_readNumber 63 = .ok (.isub, 1) := by decide +kernel
theorem dX8_readNumber_64 : decode cX8_readNumber 64 = .ok (.istore_n 3, 1) := by decide +kernel
theorem dX8_readNumber_65 : decode cX8_readNumber 65 = .ok (.aload_n 0, 1) := by decide +kernel
theorem dX8_readNumber_66 : decode cX8_readNumber 66 = .ok (.dup, 1) := by decide +kernel
theorem dX8_readNumber_67 : decode cX8_readNumber 67 = .ok (.getfield 122, 3) := by decide +kernel
theorem dX8_readNumber_70 : decode cX8_readNumber 70 = .ok (.iconst 1, 1) := by decide +kernel
theorem dX8_readNumber_71 : decode cX8_readNumber 71 = .ok (.iadd, 1) := by decide +kernel
theorem dX8_readNumber_72 : decode cX8_readNumber 72 = .ok (.putfield 122, 3) := by decide +kernel
theorem dX8_readNumber_75 : decode cX8_readNumber 75 = .ok (.goto (-47), 3) := by decide +kernel
theorem dX8_readNumber_78 : decode cX8_readNumber 78 = .ok (.aload_n 0, 1) := by decide +kernel
theorem dX8_readNumber_79 : decode cX8_readNumber 79 = .ok (.getfield 22, 3) := by decide +kernel
theorem dX8_readNumber_82 : decode cX8_readNumber 82 = .ok (.iload_n 1, 1) := by decide +kernel
theorem dX8_readNumber_83 : decode cX8_readNumber 83 = .ok (.iload_n 3, 1) := by decide +kernel
theorem dX8_readNumber_84 : decode cX8_readNumber 84 = .ok (.iastore, 1) := by decide +kernel
theorem dX8_readNumber_85 : decode cX8_readNumber 85 = .ok (.aload_n 0, 1) := by decide +kernel
theorem dX8_readNumber_86 : decode cX8_readNumber 86 = .ok (.getfield 122, 3) := by decide +kernel
theorem dX8_readNumber_89 : decode cX8_readNumber 89 = .ok (.iload_n 2, 1) := by decide +kernel
theorem dX8_readNumber_90 : decode cX8_readNumber 90 = .ok (.if_icmp .le 7, 3) := by decide +kernel
theorem dX8_readNumber_93 : decode cX8_readNumber 93 = .ok (.iconst 1, 1) := by decide +kernel
theorem dX8_readNumber_94 : decode cX8_readNumber 94 = .ok (.goto 4, 3) := by decide +kernel
theorem dX8_readNumber_97 : decode cX8_readNumber 97 = .ok (.iconst 0, 1) := by decide +kernel
theorem dX8_readNumber_98 : decode cX8_readNumber 98 = .ok (.ireturn, 1) := by decide +kernel
set_option maxRecDepth 20000 in
theorem ggX8_isRanged_X8_in : GoodIn wsX8_isRanged wsX8_in := goodIn_r _ [4] (by decide +kernel) (by decide +kernel)
set_option maxRecDepth 20000 in
theorem gX8_isRanged_X8_in : GoodIn wsX8_isRanged (va_wsS RX8 33 yX8_in wsX8_in) := goodIn_app (goodIn_of _ (by decide +kernel)) ggX8_isRanged_X8_in
set_option maxRecDepth 20000 in
theorem ggX8_isRanged_X8_isDensity : GoodIn wsX8_isRanged wsX8_isDensity := goodIn_r _ [7, 1, 2, 3, 4] (by decide +kernel) (by decide +kernel)
set_option maxRecDepth 20000 in
theorem gX8_isRanged_X8_isDensity : GoodIn wsX8_isRanged (va_wsS RX8 45 yX8_isDensity wsX8_isDensity) := goodIn_app (goodIn_of _ (by decide +kernel)) ggX8_isRanged_X8_isDensity
theorem dX8_isRanged_0 : decode cX8_isRanged 0 = .ok (.iload_n 1, 1) := by decide +kernel
theorem dX8_isRanged_1 : decode cX8_isRanged 1 = .ok (.lookupswitch 41 #[(0, 27), (1, 36)], 27) := by decide +kernel
theorem dX8_isRanged_28 : decode cX8_isRanged 28 = .ok (.iload_n 2, 1) := by decide +kernel
theorem dX8_isRanged_29 : decode cX8_isRanged 29 = .ok (.iconst 1, 1) := by decide +kernel
theorem dX8_isRanged_30 : decode cX8_isRanged 30 = .ok (.sipush 300, 3) := by decide +kernel
theorem dX8_isRanged_33 : decode cX8_isRanged 33 = .ok (.invokestatic 33, 3) := by decide +kernel
theorem dX8_isRanged_36 : decode cX8_isRanged 36 = .ok (.ireturn, 1) := by decide +kernel
theorem dX8_isRanged_37 : decode cX8_isRanged 37 = .ok (.iload_n 2, 1) := by decide +kernel
theorem dX8_isRanged_38 : decode cX8_isRanged 38 = .ok (.invokestatic 45, 3) := by decide +kernel
theorem dX8_isRanged_41 : decode cX8_isRanged 41 = .ok (.ireturn, 1) := by decide +kernel
theorem dX8_isRanged_42 : decode cX8_isRanged 42 = .ok (.iload_n 2, 1) := by decide +kernel
theorem dX8_isRanged_43 : decode cX8_isRanged 43 = .ok (.iload_n 0, 1) := by decide +kernel
theorem dX8_isRanged_44 : decode cX8_isRanged 44 = .ok (.ifCond .ne 7, 3) := by decide +kernel
theorem dX8_isRanged_47 : decode cX8_isRanged 47 = .ok (.iconst 0, 1) := by decide +kernel
theorem dX8_isRanged_48 : decode cX8_isRanged 48 = .ok (.goto 4, 3) := by decide +kernel
theorem dX8_isRanged_51 : decode cX8_isRanged 51 = .ok (.iconst 1, 1) := by decide +kernel
theorem dX8_isRanged_52 : decode cX8_isRanged 52 = .ok (.iload_n 0, 1) := by decide +kernel
theorem dX8_isRanged_53 : decode cX8_isRanged 53 = .ok (.ifCond .ne 8, 3) := by decide +kernel
theorem dX8_isRanged_56 : decode cX8_isRanged 56 = .ok (.bipush 50, 2) := by decide +kernel
theorem dX8_isRanged_58 : decode cX8_isRanged 58 = .ok (.goto 5, 3) := by decide +kernel
theorem dX8_isRanged_61 : decode cX8_isRanged 61 = .ok (.bipush 100, 2) := by decide +kernel
theorem dX8_isRanged_63 : decode cX8_isRanged 63 = .ok (.invokestatic 33, 3) := by decide +kernel
theorem dX8_isRanged_66 : decode cX8_isRanged 66 = .ok (.ireturn, 1) := by decide +kernel
theorem dX8_fails_0 : decode cX8_fails 0 = .ok (.aload_n 0, 1) := by decide +kernel
theorem dX8_fails_1 : decode cX8_fails 1 = .ok (.iload_n 1, 1) := by decide +kernel
theorem dX8_fails_2 : decode cX8_fails 2 = .ok (.putfield 140, 3) := by decide +kernel
theorem dX8_fails_5 : decode cX8_fails 5 = .ok (.aload_n 0, 1) := by decide +kernel
theorem dX8_fails_6 : decode cX8_fails 6 = .ok (.iload_n 2, 1) := by decide +kernel
theorem dX8_fails_7 : decode cX8_fails 7 = .ok (.putfield 143, 3) := by decide +kernel
theorem dX8_fails_10 : decode cX8_fails 10 = .ok (.bipush (-4), 2) := by decide +kernel
theorem dX8_fails_12 : decode cX8_fails 12 = .ok (.ireturn, 1) := by decide +kernel
set_option maxRecDepth 20000 in
theorem ggX8_readSegment_X8_readKind : GoodIn wsX8_readSegment wsX8_readKind := goodIn_r _ [8, 9, 10, 11, 1, 12, 13, 14, 15, 16, 17, 7, 18, 19, 20, 21, 22, 23, 40, 41, 42, 43, 44, 45, 46, 47, 48, 49, 50] (by decide +kernel) (by decide +kernel)
set_option maxRecDepth 20000 in
theorem gX8_readSegment_X8_readKind : GoodIn wsX8_readSegment (wsV RX8 149 RX8 yX8_readKind wsX8_readKind) := goodIn_app (goodIn_of _ (by decide +kernel)) ggX8_readSegment_X8_readKind
set_option maxRecDepth 20000 in
theorem ggX8_readSegment_X8_fails : GoodIn wsX8_readSegment wsX8_fails := goodIn_r _ [27, 28, 29, 40, 41, 42, 43, 44, 45, 46, 47, 48, 49, 50] (by decide +kernel) (by decide +kernel)
set_option maxRecDepth 20000 in
theorem gX8_readSegment_X8_fails : GoodIn wsX8_readSegment (wsV RX8 152 RX8 yX8_fails wsX8_fails) := goodIn_app (goodIn_of _ (by decide +kernel)) ggX8_readSegment_X8_fails
set_option maxRecDepth 20000 in
theorem ggX8_readSegment_X8_readNumber : GoodIn wsX8_readSegment wsX8_readNumber := goodIn_r _ [33, 1, 3, 15, 16, 17, 7, 18, 19, 20, 21, 22, 23, 40, 41, 42, 43, 44, 45, 46, 47, 48, 49, 50] (by decide +kernel) (by decide +kernel)
set_option maxRecDepth 20000 in
theorem gX8_readSegment_X8_readNumber : GoodIn wsX8_readSegment (wsV RX8 155 RX8 yX8_readNumber wsX8_readNumber) := goodIn_app (goodIn_of _ (by decide +kernel)) ggX8_readSegment_X8_readNumber
set_option maxRecDepth 20000 in
theorem ggX8_readSegment_X8_isRanged : GoodIn wsX8_readSegment wsX8_isRanged := goodIn_r _ [36, 21, 22, 7, 23, 37, 38, 39] (by decide +kernel) (by decide +kernel)
set_option maxRecDepth 20000 in
theorem gX8_readSegment_X8_isRanged : GoodIn wsX8_readSegment (va_wsS RX8 158 yX8_isRanged wsX8_isRanged) := goodIn_app (goodIn_of _ (by decide +kernel)) ggX8_readSegment_X8_isRanged
set_option maxRecDepth 20000 in
theorem ggX8_readSegment_X8_here : GoodIn wsX8_readSegment wsX8_here := goodIn_r _ [18, 1, 19, 20, 40, 41, 42, 43, 44, 45, 46, 47, 48, 49, 50] (by decide +kernel) (by decide +kernel)
set_option maxRecDepth 20000 in
theorem gX8_readSegment_X8_here : GoodIn wsX8_readSegment (wsV RX8 125 RX8 yX8_here wsX8_here) := goodIn_app (goodIn_of _ (by decide +kernel)) ggX8_readSegment_X8_here
theorem dX8_readSegment_0 : decode cX8_readSegment 0 = .ok (.aload_n 0, 1) := by decide +kernel
theorem dX8_readSegment_1 : decode cX8_readSegment 1 = .ok (.aload_n 0, 1) := by decide +kernel
theorem dX8_readSegment_2 : decode cX8_readSegment 2 = .ok (.getfield 122, 3) := by decide +kernel
theorem dX8_readSegment_5 : decode cX8_readSegment 5 = .ok (.putfield 146, 3) := by decide +kernel
theorem dX8_readSegment_8 : decode cX8_readSegment 8 = .ok (.aload_n 0, 1) := by decide +kernel
theorem dX8_readSegment_9 : decode cX8_readSegment 9 = .ok (.invokevirtual 149, 3) := by decide +kernel
theorem dX8_readSegment_12 : decode cX8_readSegment 12 = .ok (.istore_n 2, 1) := by decide +kernel
theorem dX8_readSegment_13 : decode cX8_readSegment 13 = .ok (.iload_n 2, 1) := by decide +kernel
theorem dX8_readSegment_14 : decode cX8_readSegment 14 = .ok (.bipush (-4), 2) := by decide +kernel
theorem dX8_readSegment_16 : decode cX8_readSegment 16 = .ok (.if_icmp .ne 10, 3) := by decide +kernel
theorem dX8_readSegment_19 : decode cX8_readSegment 19 = .ok (.aload_n 0, 1) := by decide +kernel
theorem dX8_readSegment_20 : decode cX8_readSegment 20 = .ok (.iconst 1, 1) := by decide +kernel
theorem dX8_readSegment_21 : decode cX8_readSegment 21 = .ok (.iconst 0, 1) := by decide +kernel
theorem dX8_readSegment_22 : decode cX8_readSegment 22 = .ok (.invokevirtual 152, 3) := by decide +kernel
theorem dX8_readSegment_25 : decode cX8_readSegment 25 = .ok (.ireturn, 1) := by decide +kernel
theorem dX8_readSegment_26 : decode cX8_readSegment 26 = .ok (.iload_n 2, 1) := by decide +kernel
theorem dX8_readSegment_27 : decode cX8_readSegment 27 = .ok (.iconst 1, 1) := by decide +kernel
theorem dX8_readSegment_28 : decode cX8_readSegment 28 = .ok (.if_icmp .ne 7, 3) := by decide +kernel
theorem dX8_readSegment_31 : decode cX8_readSegment 31 = .ok (.iconst 1, 1) := by decide +kernel
theorem dX8_readSegment_32 : decode cX8_readSegment 32 = .ok (.goto 4, 3) := by decide +kernel
theorem dX8_readSegment_35 : decode cX8_readSegment 35 = .ok (.iconst 3, 1) := by decide +kernel
theorem dX8_readSegment_36 : decode cX8_readSegment 36 = .ok (.istore_n 3, 1) := by decide +kernel
theorem dX8_readSegment_37 : decode cX8_readSegment 37 = .ok (.aload_n 0, 1) := by decide +kernel
theorem dX8_readSegment_38 : decode cX8_readSegment 38 = .ok (.getfield 22, 3) := by decide +kernel
theorem dX8_readSegment_41 : decode cX8_readSegment 41 = .ok (.iconst 1, 1) := by decide +kernel
theorem dX8_readSegment_42 : decode cX8_readSegment 42 = .ok (.iconst 0, 1) := by decide +kernel
theorem dX8_readSegment_43 : decode cX8_readSegment 43 = .ok (.iastore, 1) := by decide +kernel
theorem dX8_readSegment_44 : decode cX8_readSegment 44 = .ok (.aload_n 0, 1) := by decide +kernel
theorem dX8_readSegment_45 : decode cX8_readSegment 45 = .ok (.getfield 22, 3) := by decide +kernel
theorem dX8_readSegment_48 : decode cX8_readSegment 48 = .ok (.iconst 2, 1) := by decide +kernel
theorem dX8_readSegment_49 : decode cX8_readSegment 49 = .ok (.iconst 0, 1) := by decide +kernel
theorem dX8_readSegment_50 : decode cX8_readSegment 50 = .ok (.iastore, 1) := by decide +kernel
theorem dX8_readSegment_51 : decode cX8_readSegment 51 = .ok (.iconst 0, 1) := by decide +kernel
theorem dX8_readSegment_52 : decode cX8_readSegment 52 = .ok (.istore 4, 2) := by decide +kernel
theorem dX8_readSegment_54 : decode cX8_readSegment 54 = .ok (.iload 4, 2) := by decide +kernel
theorem dX8_readSegment_56 : decode cX8_readSegment 56 = .ok (.iload_n 3, 1) := by decide +kernel
theorem dX8_readSegment_57 : decode cX8_readSegment 57 = .ok (.if_icmp .ge 28, 3) := by decide +kernel
theorem dX8_readSegment_60 : decode cX8_readSegment 60 = .ok (.aload_n 0, 1) := by decide +kernel
theorem dX8_readSegment_61 : decode cX8_readSegment 61 = .ok (.iload 4, 2) := by decide +kernel
theorem dX8_readSegment_63 : decode cX8_readSegment 63 = .ok (.invokevirtual 155, 3) := by decide +kernel
theorem dX8_readSegment_66 : decode cX8_readSegment 66 = .ok (.ifCond .ne 13, 3) := by decide +kernel
theorem dX8_readSegment_69 : decode cX8_readSegment 69 = .ok (.aload_n 0, 1) := by decide +kernel
theorem dX8_readSegment_70 : decode cX8_readSegment 70 = .ok (.iconst 2, 1) := by decide +kernel
theorem dX8_readSegment_71 : decode cX8_readSegment 71 = .ok (.iload 4, 2) := by decide +kernel
theorem dX8_readSegment_73 : decode cX8_readSegment 73 = .ok (.iconst 1, 1) := by decide +kernel
theorem dX8_readSegment_74 : decode cX8_readSegment 74 = .ok (.iadd, 1) := by decide +kernel
theorem dX8_readSegment_75 : decode cX8_readSegment 75 = .ok (.invokevirtual 152, 3) := by decide +kernel
theorem dX8_readSegment_78 : decode cX8_readSegment 78 = .ok (.ireturn, 1) := by decide +kernel
theorem dX8_readSegment_79 : decode cX8_readSegment 79 = .ok (.iinc 4 1, 3) := by decide +kernel
theorem dX8_readSegment_82 : decode cX8_readSegment 82 = .ok (.goto (-28), 3) := by decide +kernel
theorem dX8_readSegment_85 : decode cX8_readSegment 85 = .ok (.iconst 0, 1) := by decide +kernel
theorem dX8_readSegment_86 : decode cX8_readSegment 86 = .ok (.istore 4, 2) := by decide +kernel
theorem dX8_readSegment_88 : decode cX8_readSegment 88 = .ok (.iload 4, 2) := by decide +kernel
theorem dX8_readSegment_90 : decode cX8_readSegment 90 = .ok (.iload_n 3, 1) := by decide +kernel
theorem dX8_readSegment_91 : decode cX8_readSegment 91 = .ok (.if_icmp .ge 35, 3) := by decide +kernel
theorem dX8_readSegment_94 : decode cX8_readSegment 94 = .ok (.iload_n 2, 1) := by decide +kernel
theorem dX8_readSegment_95 : decode cX8_readSegment 95 = .ok (.iload 4, 2) := by decide +kernel
theorem dX8_readSegment_97 : decode cX8_readSegment 97 = .ok (.aload_n 0, 1) := by decide +kernel
theorem dX8_readSegment_98 : decode cX8_readSegment 98 = .ok (.getfield 22, 3) := by decide +kernel
theorem dX8_readSegment_101 : decode cX8_readSegment 101 = .ok (.iload 4, 2) := by decide +kernel
theorem dX8_readSegment_103 : decode cX8_readSegment 103 = .ok (.iaload, 1) := by decide +kernel
theorem dX8_readSegment_104 : decode cX8_readSegment 104 = .ok (.invokestatic 158, 3) := by decide +kernel
theorem dX8_readSegment_107 : decode cX8_readSegment 107 = .ok (.ifCond .ne 13, 3) := by decide +kernel
theorem dX8_readSegment_110 : decode cX8_readSegment 110 = .ok (.aload_n 0, 1) := by decide +kernel
theorem dX8_readSegment_111 : decode cX8_readSegment 111 = .ok (.iconst 3, 1) := by decide +kernel
theorem dX8_readSegment_112 : decode cX8_readSegment 112 = .ok (.iload 4, 2) := by decide +kernel
theorem dX8_readSegment_114 : decode cX8_readSegment 114 = .ok (.iconst 1, 1) := by decide +kernel
theorem dX8_readSegment_115 : decode cX8_readSegment 115 = .ok (.iadd, 1) := by decide +kernel
theorem dX8_readSegment_116 : decode cX8_readSegment 116 = .ok (.invokevirtual 152, 3) := by decide +kernel
theorem dX8_readSegment_119 : decode cX8_readSegment 119 = .ok (.ireturn, 1) := by decide +kernel
theorem dX8_readSegment_120 : decode cX8_readSegment 120 = .ok (.iinc 4 1, 3) := by decide +kernel
theorem dX8_readSegment_123 : decode cX8_readSegment 123 = .ok (.goto (-35), 3) := by decide +kernel
theorem dX8_readSegment_126 : decode cX8_readSegment 126 = .ok (.iload_n 1, 1) := by decide +kernel
theorem dX8_readSegment_127 : decode cX8_readSegment 127 = .ok (.bipush 20, 2) := by decide +kernel
theorem dX8_readSegment_129 : decode cX8_readSegment 129 = .ok (.if_icmp .lt 10, 3) := by decide +kernel
theorem dX8_readSegment_132 : decode cX8_readSegment 132 = .ok (.aload_n 0, 1) := by decide +kernel
theorem dX8_readSegment_133 : decode cX8_readSegment 133 = .ok (.iconst 4, 1) := by decide +kernel
theorem dX8_readSegment_134 : decode cX8_readSegment 134 = .ok (.iconst 0, 1) := by decide +kernel
theorem dX8_readSegment_135 : decode cX8_readSegment 135 = .ok (.invokevirtual 152, 3) := by decide +kernel
theorem dX8_readSegment_138 : decode cX8_readSegment 138 = .ok (.ireturn, 1) := by decide +kernel
theorem dX8_readSegment_139 : decode cX8_readSegment 139 = .ok (.aload_n 0, 1) := by decide +kernel
theorem dX8_readSegment_140 : decode cX8_readSegment 140 = .ok (.invokevirtual 125, 3) := by decide +kernel
theorem dX8_readSegment_143 : decode cX8_readSegment 143 = .ok (.bipush 59, 2) := by decide +kernel
theorem dX8_readSegment_145 : decode cX8_readSegment 145 = .ok (.if_icmp .eq 10, 3) := by decide +kernel
theorem dX8_readSegment_148 : decode cX8_readSegment 148 = .ok (.aload_n 0, 1) := by decide +kernel
theorem dX8_readSegment_149 : decode cX8_readSegment 149 = .ok (.iconst 5, 1) := by decide +kernel
theorem dX8_readSegment_150 : decode cX8_readSegment 150 = .ok (.iconst 0, 1) := by decide +kernel
theorem dX8_readSegment_151 : decode cX8_readSegment 151 = .ok (.invokevirtual 152, 3) := by decide +kernel
theorem dX8_readSegment_154 : decode cX8_readSegment 154 = .ok (.ireturn, 1) := by decide +kernel
theorem dX8_readSegment_155 : decode cX8_readSegment 155 = .ok (.aload_n 0, 1) := by decide +kernel
theorem dX8_readSegment_156 : decode cX8_readSegment 156 = .ok (.dup, 1) := by decide +kernel
theorem dX8_readSegment_157 : decode cX8_readSegment 157 = .ok (.getfield 122, 3) := by decide +kernel
theorem dX8_readSegment_160 : decode cX8_readSegment 160 = .ok (.iconst 1, 1) := by decide +kernel
theorem dX8_readSegment_161 : decode cX8_readSegment 161 = .ok (.iadd, 1) := by decide +kernel
theorem dX8_readSegment_162 : decode cX8_readSegment 162 = .ok (.putfield 122, 3) := by decide +kernel
theorem dX8_readSegment_165 : decode cX8_readSegment 165 = .ok (.iload_n 2, 1) := by decide +kernel
theorem dX8_readSegment_166 : decode cX8_readSegment 166 = .ok (.ireturn, 1) := by decide +kernel
set_option maxRecDepth 20000 in
theorem ggX8_reads_X8_readSegment : GoodIn wsX8_reads wsX8_readSegment := goodIn_r _ [8, 1, 9, 10, 11, 12, 13, 7, 14, 15, 16, 17, 18, 19, 20, 21, 22, 23, 24, 2, 25, 26, 27, 28, 29, 30, 31, 32, 33, 34, 35, 36, 37, 38, 39, 40, 41, 42, 43, 44, 45, 46, 47, 48, 49, 50, 51, 52, 53, 54, 55] (by decide +kernel) (by decide +kernel)
set_option maxRecDepth 20000 in
theorem gX8_reads_X8_readSegment : GoodIn wsX8_reads (wsV RX8 161 RX8 yX8_readSegment wsX8_readSegment) := goodIn_app (goodIn_of _ (by decide +kernel)) ggX8_reads_X8_readSegment
theorem dX8_reads_0 : decode cX8_reads 0 = .ok (.aload_n 0, 1) := by decide +kernel
theorem dX8_reads_1 : decode cX8_reads 1 = .ok (.iconst 0, 1) := by decide +kernel
theorem dX8_reads_2 : decode cX8_reads 2 = .ok (.putfield 122, 3) := by decide +kernel
theorem dX8_reads_5 : decode cX8_reads 5 = .ok (.iconst 0, 1) := by decide +kernel
theorem dX8_reads_6 : decode cX8_reads 6 = .ok (.istore_n 1, 1) := by decide +kernel
theorem dX8_reads_7 : decode cX8_reads 7 = .ok (.aload_n 0, 1) := by decide +kernel
theorem dX8_reads_8 : decode cX8_reads 8 = .ok (.getfield 122, 3) := by decide +kernel
theorem dX8_reads_11 : decode cX8_reads 11 = .ok (.aload_n 0, 1) := by decide +kernel
theorem dX8_reads_12 : decode cX8_reads 12 = .ok (.getfield 113, 3) := by decide +kernel
theorem dX8_reads_15 : decode cX8_reads 15 = .ok (.if_icmp .ge 32, 3) := by decide +kernel
theorem dX8_reads_18 : decode cX8_reads 18 = .ok (.aload_n 0, 1) := by decide +kernel
theorem dX8_reads_19 : decode cX8_reads 19 = .ok (.aload_n 0, 1) := by decide +kernel
theorem dX8_reads_20 : decode cX8_reads 20 = .ok (.getfield 7, 3) := by decide +kernel
theorem dX8_reads_23 : decode cX8_reads 23 = .ok (.bipush 8, 2) := by decide +kernel
theorem dX8_reads_25 : decode cX8_reads 25 = .ok (.iaload, 1) := by decide +kernel
theorem dX8_reads_26 : decode cX8_reads 26 = .ok (.iload_n 1, 1) := by decide +kernel
theorem dX8_reads_27 : decode cX8_reads 27 = .ok (.iadd, 1) := by decide +kernel
theorem dX8_reads_28 : decode cX8_reads 28 = .ok (.invokevirtual 161, 3) := by decide +kernel
theorem dX8_reads_31 : decode cX8_reads 31 = .ok (.istore_n 2, 1) := by decide +kernel
theorem dX8_reads_32 : decode cX8_reads 32 = .ok (.iload_n 2, 1) := by decide +kernel
theorem dX8_reads_33 : decode cX8_reads 33 = .ok (.bipush (-4), 2) := by decide +kernel
theorem dX8_reads_35 : decode cX8_reads 35 = .ok (.if_icmp .ne 6, 3) := by decide +kernel
theorem dX8_reads_38 : decode cX8_reads 38 = .ok (.bipush (-4), 2) := by decide +kernel
theorem dX8_reads_40 : decode cX8_reads 40 = .ok (.ireturn, 1) := by decide +kernel
theorem dX8_reads_41 : decode cX8_reads 41 = .ok (.iinc 1 1, 3) := by decide +kernel
theorem dX8_reads_44 : decode cX8_reads 44 = .ok (.goto (-37), 3) := by decide +kernel
theorem dX8_reads_47 : decode cX8_reads 47 = .ok (.iload_n 1, 1) := by decide +kernel
theorem dX8_reads_48 : decode cX8_reads 48 = .ok (.ireturn, 1) := by decide +kernel
set_option maxRecDepth 20000 in
theorem ggX8_fault_X8_in : GoodIn wsX8_fault wsX8_in := goodIn_r _ [7] (by decide +kernel) (by decide +kernel)
set_option maxRecDepth 20000 in
theorem gX8_fault_X8_in : GoodIn wsX8_fault (va_wsS RX8 33 yX8_in wsX8_in) := goodIn_app (goodIn_of _ (by decide +kernel)) ggX8_fault_X8_in
set_option maxRecDepth 20000 in
theorem ggX8_fault_X8_reads : GoodIn wsX8_fault wsX8_reads := goodIn_r _ [11, 12, 13, 14, 15, 16, 17, 6, 18, 1, 19, 20, 21, 22, 23, 24, 25, 26, 27, 28, 29, 30, 31, 32, 33, 34, 4, 5, 7, 35, 36, 37, 38, 2, 3, 39, 40, 41, 42, 43, 44, 45, 46, 47, 48, 49, 50, 51, 52, 53, 54, 55, 56, 57, 58, 59] (by decide +kernel) (by decide +kernel)
set_option maxRecDepth 20000 in
theorem gX8_fault_X8_reads : GoodIn wsX8_fault (wsV RX8 164 RX8 yX8_reads wsX8_reads) := goodIn_app (goodIn_of _ (by decide +kernel)) ggX8_fault_X8_reads
theorem dX8_fault_0 : decode cX8_fault 0 = .ok (.iload_n 1, 1) := by decide +kernel
theorem dX8_fault_1 : decode cX8_fault 1 = .ok (.iconst 0, 1) := by decide +kernel
theorem dX8_fault_2 : decode cX8_fault 2 = .ok (.iconst 2, 1) := by decide +kernel
theorem dX8_fault_3 : decode cX8_fault 3 = .ok (.invokestatic 33, 3) := by decide +kernel
theorem dX8_fault_6 : decode cX8_fault 6 = .ok (.ifCond .ne 5, 3) := by decide +kernel
theorem dX8_fault_9 : decode cX8_fault 9 = .ok (.iconst (-1), 1) := by decide +kernel
theorem dX8_fault_10 : decode cX8_fault 10 = .ok (.ireturn, 1) := by decide +kernel
theorem dX8_fault_11 : decode cX8_fault 11 = .ok (.aload_n 0, 1) := by decide +kernel
theorem dX8_fault_12 : decode cX8_fault 12 = .ok (.invokevirtual 164, 3) := by decide +kernel
theorem dX8_fault_15 : decode cX8_fault 15 = .ok (.bipush (-4), 2) := by decide +kernel
theorem dX8_fault_17 : decode cX8_fault 17 = .ok (.if_icmp .eq 6, 3) := by decide +kernel
theorem dX8_fault_20 : decode cX8_fault 20 = .ok (.bipush (-4), 2) := by decide +kernel
theorem dX8_fault_22 : decode cX8_fault 22 = .ok (.ireturn, 1) := by decide +kernel
theorem dX8_fault_23 : decode cX8_fault 23 = .ok (.iload_n 1, 1) := by decide +kernel
theorem dX8_fault_24 : decode cX8_fault 24 = .ok (.ifCond .ne 10, 3) := by decide +kernel
theorem dX8_fault_27 : decode cX8_fault 27 = .ok (.aload_n 0, 1) := by decide +kernel
theorem dX8_fault_28 : decode cX8_fault 28 = .ok (.getfield 146, 3) := by decide +kernel
theorem dX8_fault_31 : decode cX8_fault 31 = .ok (.goto 19, 3) := by decide +kernel
theorem dX8_fault_34 : decode cX8_fault 34 = .ok (.iload_n 1, 1) := by decide +kernel
theorem dX8_fault_35 : decode cX8_fault 35 = .ok (.iconst 1, 1) := by decide +kernel
theorem dX8_fault_36 : decode cX8_fault 36 = .ok (.if_icmp .ne 10, 3) := by decide +kernel
theorem dX8_fault_39 : decode cX8_fault 39 = .ok (.aload_n 0, 1) := by decide +kernel
theorem dX8_fault_40 : decode cX8_fault 40 = .ok (.getfield 140, 3) := by decide +kernel
theorem dX8_fault_43 : decode cX8_fault 43 = .ok (.goto 7, 3) := by decide +kernel
theorem dX8_fault_46 : decode cX8_fault 46 = .ok (.aload_n 0, 1) := by decide +kernel
theorem dX8_fault_47 : decode cX8_fault 47 = .ok (.getfield 143, 3) := by decide +kernel
theorem dX8_fault_50 : decode cX8_fault 50 = .ok (.ireturn, 1) := by decide +kernel
set_option maxRecDepth 20000 in
theorem ggX8_lay_X8_reads : GoodIn wsX8_lay wsX8_reads := goodIn_r _ [8, 1, 9, 2, 10, 11, 12, 7, 13, 14, 3, 15, 16, 17, 18, 19, 20, 21, 22, 23, 24, 25, 26, 27, 28, 29, 30, 31, 32, 33, 34, 35, 36, 37, 38, 39, 40, 41, 42, 43, 44, 45, 46, 47, 48, 62, 63, 64, 65, 66, 67, 68, 69, 70, 71, 72] (by decide +kernel) (by decide +kernel)
set_option maxRecDepth 20000 in
theorem gX8_lay_X8_reads : GoodIn wsX8_lay (wsV RX8 164 RX8 yX8_reads wsX8_reads) := goodIn_app (goodIn_of _ (by decide +kernel)) ggX8_lay_X8_reads
set_option maxRecDepth 20000 in
theorem ggX8_lay_X8_record : GoodIn wsX8_lay wsX8_record := goodIn_r _ [52, 53, 54, 2, 55, 56, 7, 57, 62, 63, 64, 65, 66, 67, 68, 69, 70, 71, 72] (by decide +kernel) (by decide +kernel)
set_option maxRecDepth 20000 in
theorem gX8_lay_X8_record : GoodIn wsX8_lay (wsV RX8 52 RX8 yX8_record wsX8_record) := goodIn_app (goodIn_of _ (by decide +kernel)) ggX8_lay_X8_record
set_option maxRecDepth 20000 in
theorem ggX8_lay_X8_readSegment : GoodIn wsX8_lay wsX8_readSegment := goodIn_r _ [13, 1, 14, 3, 15, 16, 17, 7, 18, 19, 20, 21, 22, 23, 24, 25, 26, 27, 28, 9, 29, 30, 31, 32, 33, 34, 35, 36, 37, 38, 39, 40, 41, 42, 43, 44, 45, 46, 47, 48, 62, 63, 64, 65, 66, 67, 68, 69, 70, 71, 72] (by decide +kernel) (by decide +kernel)
set_option maxRecDepth 20000 in
theorem gX8_lay_X8_readSegment : GoodIn wsX8_lay (wsV RX8 161 RX8 yX8_readSegment wsX8_readSegment) := goodIn_app (goodIn_of _ (by decide +kernel)) ggX8_lay_X8_readSegment
set_option maxRecDepth 20000 in
theorem ggX8_lay_X8_puts : GoodIn wsX8_lay wsX8_puts := goodIn_r _ [61, 2, 62, 63, 64, 65, 66, 67, 68, 69, 70, 71, 72] (by decide +kernel) (by decide +kernel)
set_option maxRecDepth 20000 in
theorem gX8_lay_X8_puts : GoodIn wsX8_lay (wsV RX8 55 RX8 yX8_puts wsX8_puts) := goodIn_app (goodIn_of _ (by decide +kernel)) ggX8_lay_X8_puts
theorem dX8_lay_0 : decode cX8_lay 0 = .ok (.aload_n 0, 1) := by decide +kernel
theorem dX8_lay_1 : decode cX8_lay 1 = .ok (.invokevirtual 164, 3) := by decide +kernel
theorem dX8_lay_4 : decode cX8_lay 4 = .ok (.istore_n 1, 1) := by decide +kernel
theorem dX8_lay_5 : decode cX8_lay 5 = .ok (.iload_n 1, 1) := by decide +kernel
theorem dX8_lay_6 : decode cX8_lay 6 = .ok (.bipush (-4), 2) := by decide +kernel
theorem dX8_lay_8 : decode cX8_lay 8 = .ok (.if_icmp .ne 6, 3) := by decide +kernel
theorem dX8_lay_11 : decode cX8_lay 11 = .ok (.bipush (-2), 2) := by decide +kernel
theorem dX8_lay_13 : decode cX8_lay 13 = .ok (.ireturn, 1) := by decide +kernel
theorem dX8_lay_14 : decode cX8_lay 14 = .ok (.aload_n 0, 1) := by decide +kernel
theorem dX8_lay_15 : decode cX8_lay 15 = .ok (.invokevirtual 52, 3) := by decide +kernel
theorem dX8_lay_18 : decode cX8_lay 18 = .ok (.aload_n 0, 1) := by decide +kernel
theorem dX8_lay_19 : decode cX8_lay 19 = .ok (.iconst 0, 1) := by decide +kernel
theorem dX8_lay_20 : decode cX8_lay 20 = .ok (.putfield 122, 3) := by decide +kernel
theorem dX8_lay_23 : decode cX8_lay 23 = .ok (.iconst 0, 1) := by decide +kernel
theorem dX8_lay_24 : decode cX8_lay 24 = .ok (.istore_n 2, 1) := by decide +kernel
theorem dX8_lay_25 : decode cX8_lay 25 = .ok (.iload_n 2, 1) := by decide +kernel
theorem dX8_lay_26 : decode cX8_lay 26 = .ok (.iload_n 1, 1) := by decide +kernel
theorem dX8_lay_27 : decode cX8_lay 27 = .ok (.if_icmp .ge 44, 3) := by decide +kernel
theorem dX8_lay_30 : decode cX8_lay 30 = .ok (.aload_n 0, 1) := by decide +kernel
theorem dX8_lay_31 : decode cX8_lay 31 = .ok (.aload_n 0, 1) := by decide +kernel
theorem dX8_lay_32 : decode cX8_lay 32 = .ok (.getfield 7, 3) := by decide +kernel
theorem dX8_lay_35 : decode cX8_lay 35 = .ok (.bipush 8, 2) := by decide +kernel
theorem dX8_lay_37 : decode cX8_lay 37 = .ok (.iaload, 1) := by decide +kernel
theorem dX8_lay_38 : decode cX8_lay 38 = .ok (.invokevirtual 161, 3) := by decide +kernel
theorem dX8_lay_41 : decode cX8_lay 41 = .ok (.istore_n 3, 1) := by decide +kernel
theorem dX8_lay_42 : decode cX8_lay 42 = .ok (.aload_n 0, 1) := by decide +kernel
theorem dX8_lay_43 : decode cX8_lay 43 = .ok (.iload_n 3, 1) := by decide +kernel
theorem dX8_lay_44 : decode cX8_lay 44 = .ok (.aload_n 0, 1) := by decide +kernel
theorem dX8_lay_45 : decode cX8_lay 45 = .ok (.getfield 22, 3) := by decide +kernel
theorem dX8_lay_48 : decode cX8_lay 48 = .ok (.iconst 0, 1) := by decide +kernel
theorem dX8_lay_49 : decode cX8_lay 49 = .ok (.iaload, 1) := by decide +kernel
theorem dX8_lay_50 : decode cX8_lay 50 = .ok (.aload_n 0, 1) := by decide +kernel
theorem dX8_lay_51 : decode cX8_lay 51 = .ok (.getfield 22, 3) := by decide +kernel
theorem dX8_lay_54 : decode cX8_lay 54 = .ok (.iconst 1, 1) := by decide +kernel
theorem dX8_lay_55 : decode cX8_lay 55 = .ok (.iaload, 1) := by decide +kernel
theorem dX8_lay_56 : decode cX8_lay 56 = .ok (.aload_n 0, 1) := by decide +kernel
theorem dX8_lay_57 : decode cX8_lay 57 = .ok (.getfield 22, 3) := by decide +kernel
theorem dX8_lay_60 : decode cX8_lay 60 = .ok (.iconst 2, 1) := by decide +kernel
theorem dX8_lay_61 : decode cX8_lay 61 = .ok (.iaload, 1) := by decide +kernel
theorem dX8_lay_62 : decode cX8_lay 62 = .ok (.invokevirtual 55, 3) := by decide +kernel
theorem dX8_lay_65 : decode cX8_lay 65 = .ok (.iinc 2 1, 3) := by decide +kernel
theorem dX8_lay_68 : decode cX8_lay 68 = .ok (.goto (-43), 3) := by decide +kernel
theorem dX8_lay_71 : decode cX8_lay 71 = .ok (.iload_n 1, 1) := by decide +kernel
theorem dX8_lay_72 : decode cX8_lay 72 = .ok (.ireturn, 1) := by decide +kernel
theorem dJ9_max_7cf53_0 : decode cJ9_max_7cf53 0 = .ok (.iload_n 0, 1) := by decide +kernel
theorem dJ9_max_7cf53_1 : decode cJ9_max_7cf53 1 = .ok (.iload_n 1, 1) := by decide +kernel
theorem dJ9_max_7cf53_2 : decode cJ9_max_7cf53 2 = .ok (.if_icmp .lt 7, 3) := by decide +kernel
theorem dJ9_max_7cf53_5 : decode cJ9_max_7cf53 5 = .ok (.iload_n 0, 1) := by decide +kernel
theorem dJ9_max_7cf53_6 : decode cJ9_max_7cf53 6 = .ok (.goto 4, 3) := by decide +kernel
theorem dJ9_max_7cf53_9 : decode cJ9_max_7cf53 9 = .ok (.iload_n 1, 1) := by decide +kernel
theorem dJ9_max_7cf53_10 : decode cJ9_max_7cf53 10 = .ok (.ireturn, 1) := by decide +kernel
theorem dJ9_min_7cf53_0 : decode cJ9_min_7cf53 0 = .ok (.iload_n 0, 1) := by decide +kernel
theorem dJ9_min_7cf53_1 : decode cJ9_min_7cf53 1 = .ok (.iload_n 1, 1) := by decide +kernel
theorem dJ9_min_7cf53_2 : decode cJ9_min_7cf53 2 = .ok (.if_icmp .gt 7, 3) := by decide +kernel
theorem dJ9_min_7cf53_5 : decode cJ9_min_7cf53 5 = .ok (.iload_n 0, 1) := by decide +kernel
theorem dJ9_min_7cf53_6 : decode cJ9_min_7cf53 6 = .ok (.goto 4, 3) := by decide +kernel
theorem dJ9_min_7cf53_9 : decode cJ9_min_7cf53 9 = .ok (.iload_n 1, 1) := by decide +kernel
theorem dJ9_min_7cf53_10 : decode cJ9_min_7cf53 10 = .ok (.ireturn, 1) := by decide +kernel
set_option maxRecDepth 20000 in
theorem ggJ0_length_8abf5_J0_coder_7d493 : GoodIn wsJ0_length_8abf5 wsJ0_coder_7d493 := goodIn_r _ [6, 7, 8] (by decide +kernel) (by decide +kernel)
set_option maxRecDepth 20000 in
theorem gJ0_length_8abf5_J0_coder_7d493 : GoodIn wsJ0_length_8abf5 (wsV RJ0 335 RJ0 yJ0_coder_7d493 wsJ0_coder_7d493) := goodIn_app (goodIn_of _ (by decide +kernel)) ggJ0_length_8abf5_J0_coder_7d493
theorem dJ0_length_8abf5_0 : decode cJ0_length_8abf5 0 = .ok (.aload_n 0, 1) := by decide +kernel
theorem dJ0_length_8abf5_1 : decode cJ0_length_8abf5 1 = .ok (.getfield 9, 3) := by decide +kernel
theorem dJ0_length_8abf5_4 : decode cJ0_length_8abf5 4 = .ok (.arraylength, 1) := by decide +kernel
theorem dJ0_length_8abf5_5 : decode cJ0_length_8abf5 5 = .ok (.aload_n 0, 1) := by decide +kernel
theorem dJ0_length_8abf5_6 : decode cJ0_length_8abf5 6 = .ok (.invokevirtual 335, 3) := by decide +kernel
theorem dJ0_length_8abf5_9 : decode cJ0_length_8abf5 9 = .ok (.ishr, 1) := by decide +kernel
theorem dJ0_length_8abf5_10 : decode cJ0_length_8abf5 10 = .ok (.ireturn, 1) := by decide +kernel
set_option maxRecDepth 20000 in
theorem ggJ0_charAt_5068e_J0_isLatin1_aae02 : GoodIn wsJ0_charAt_5068e wsJ0_isLatin1_aae02 := goodIn_r _ [6, 7, 8] (by decide +kernel) (by decide +kernel)
set_option maxRecDepth 20000 in
theorem gJ0_charAt_5068e_J0_isLatin1_aae02 : GoodIn wsJ0_charAt_5068e (wsV RJ0 492 RJ0 yJ0_isLatin1_aae02 wsJ0_isLatin1_aae02) := goodIn_app (goodIn_of _ (by decide +kernel)) ggJ0_charAt_5068e_J0_isLatin1_aae02
set_option maxRecDepth 20000 in
theorem ggJ0_charAt_5068e_J1_charAt_3b067 : GoodIn wsJ0_charAt_5068e wsJ1_charAt_3b067 := goodIn_r _ [12, 13, 14, 5, 15, 16, 17, 18, 19, 20] (by decide +kernel) (by decide +kernel)
set_option maxRecDepth 20000 in
theorem gJ0_charAt_5068e_J1_charAt_3b067 : GoodIn wsJ0_charAt_5068e (va_wsS RJ0 495 yJ1_charAt_3b067 wsJ1_charAt_3b067) := goodIn_app (goodIn_of _ (by decide +kernel)) ggJ0_charAt_5068e_J1_charAt_3b067
set_option maxRecDepth 20000 in
theorem ggJ0_charAt_5068e_J2_charAt_3b067 : GoodIn wsJ0_charAt_5068e wsJ2_charAt_3b067 := goodIn_r _ [24, 25, 26, 23, 27, 28, 29, 30, 31, 14, 5, 15, 16, 17, 18, 19, 20, 32, 33, 34, 35, 36, 37] (by decide +kernel) (by decide +kernel)
set_option maxRecDepth 20000 in
theorem gJ0_charAt_5068e_J2_charAt_3b067 : GoodIn wsJ0_charAt_5068e (va_wsS RJ0 498 yJ2_charAt_3b067 wsJ2_charAt_3b067) := goodIn_app (goodIn_of _ (by decide +kernel)) ggJ0_charAt_5068e_J2_charAt_3b067
theorem dJ0_charAt_5068e_0 : decode cJ0_charAt_5068e 0 = .ok (.aload_n 0, 1) := by decide +kernel
theorem dJ0_charAt_5068e_1 : decode cJ0_charAt_5068e 1 = .ok (.invokevirtual 492, 3) := by decide +kernel
theorem dJ0_charAt_5068e_4 : decode cJ0_charAt_5068e 4 = .ok (.ifCond .eq 12, 3) := by decide +kernel
theorem dJ0_charAt_5068e_7 : decode cJ0_charAt_5068e 7 = .ok (.aload_n 0, 1) := by decide +kernel
theorem dJ0_charAt_5068e_8 : decode cJ0_charAt_5068e 8 = .ok (.getfield 9, 3) := by decide +kernel
theorem dJ0_charAt_5068e_11 : decode cJ0_charAt_5068e 11 = .ok (.iload_n 1, 1) := by decide +kernel
theorem dJ0_charAt_5068e_12 : decode cJ0_charAt_5068e 12 = .ok (.invokestatic 495, 3) := by decide +kernel
theorem dJ0_charAt_5068e_15 : decode cJ0_charAt_5068e 15 = .ok (.ireturn, 1) := by decide +kernel
theorem dJ0_charAt_5068e_16 : decode cJ0_charAt_5068e 16 = .ok (.aload_n 0, 1) := by decide +kernel
theorem dJ0_charAt_5068e_17 : decode cJ0_charAt_5068e 17 = .ok (.getfield 9, 3) := by decide +kernel
theorem dJ0_charAt_5068e_20 : decode cJ0_charAt_5068e 20 = .ok (.iload_n 1, 1) := by decide +kernel
theorem dJ0_charAt_5068e_21 : decode cJ0_charAt_5068e 21 = .ok (.invokestatic 498, 3) := by decide +kernel
theorem dJ0_charAt_5068e_24 : decode cJ0_charAt_5068e 24 = .ok (.ireturn, 1) := by decide +kernel
theorem dJ0_coder_7d493_0 : decode cJ0_coder_7d493 0 = .ok (.getstatic 38, 3) := by decide +kernel
theorem dJ0_coder_7d493_3 : decode cJ0_coder_7d493 3 = .ok (.ifCond .eq 10, 3) := by decide +kernel
theorem dJ0_coder_7d493_6 : decode cJ0_coder_7d493 6 = .ok (.aload_n 0, 1) := by decide +kernel
theorem dJ0_coder_7d493_7 : decode cJ0_coder_7d493 7 = .ok (.getfield 15, 3) := by decide +kernel
theorem dJ0_coder_7d493_10 : decode cJ0_coder_7d493 10 = .ok (.goto 4, 3) := by decide +kernel
theorem dJ0_coder_7d493_13 : decode cJ0_coder_7d493 13 = .ok (.iconst 1, 1) := by decide +kernel
theorem dJ0_coder_7d493_14 : decode cJ0_coder_7d493 14 = .ok (.ireturn, 1) := by decide +kernel
theorem dJ0_isLatin1_aae02_0 : decode cJ0_isLatin1_aae02 0 = .ok (.getstatic 38, 3) := by decide +kernel
theorem dJ0_isLatin1_aae02_3 : decode cJ0_isLatin1_aae02 3 = .ok (.ifCond .eq 14, 3) := by decide +kernel
theorem dJ0_isLatin1_aae02_6 : decode cJ0_isLatin1_aae02 6 = .ok (.aload_n 0, 1) := by decide +kernel
theorem dJ0_isLatin1_aae02_7 : decode cJ0_isLatin1_aae02 7 = .ok (.getfield 15, 3) := by decide +kernel
theorem dJ0_isLatin1_aae02_10 : decode cJ0_isLatin1_aae02 10 = .ok (.ifCond .ne 7, 3) := by decide +kernel
theorem dJ0_isLatin1_aae02_13 : decode cJ0_isLatin1_aae02 13 = .ok (.iconst 1, 1) := by decide +kernel
theorem dJ0_isLatin1_aae02_14 : decode cJ0_isLatin1_aae02 14 = .ok (.goto 4, 3) := by decide +kernel
theorem dJ0_isLatin1_aae02_17 : decode cJ0_isLatin1_aae02 17 = .ok (.iconst 0, 1) := by decide +kernel
theorem dJ0_isLatin1_aae02_18 : decode cJ0_isLatin1_aae02 18 = .ok (.ireturn, 1) := by decide +kernel
set_option maxRecDepth 20000 in
theorem ggJ0_checkIndex_df160_J3_checkIndex_8e157 : GoodIn wsJ0_checkIndex_df160 wsJ3_checkIndex_8e157 := goodIn_r _ [5] (by decide +kernel) (by decide +kernel)
set_option maxRecDepth 20000 in
theorem gJ0_checkIndex_df160_J3_checkIndex_8e157 : GoodIn wsJ0_checkIndex_df160 (va_wsS RJ0 1059 yJ3_checkIndex_8e157 wsJ3_checkIndex_8e157) := goodIn_app (goodIn_of _ (by decide +kernel)) ggJ0_checkIndex_df160_J3_checkIndex_8e157
theorem dJ0_checkIndex_df160_0 : decode cJ0_checkIndex_df160 0 = .ok (.iload_n 0, 1) := by decide +kernel
theorem dJ0_checkIndex_df160_1 : decode cJ0_checkIndex_df160 1 = .ok (.iload_n 1, 1) := by decide +kernel
theorem dJ0_checkIndex_df160_2 : decode cJ0_checkIndex_df160 2 = .ok (.getstatic 1053, 3) := by decide +kernel
theorem dJ0_checkIndex_df160_5 : decode cJ0_checkIndex_df160 5 = .ok (.invokestatic 1059, 3) := by decide +kernel
theorem dJ0_checkIndex_df160_8 : decode cJ0_checkIndex_df160 8 = .ok (.pop, 1) := by decide +kernel
theorem dJ0_checkIndex_df160_9 : decode cJ0_checkIndex_df160 9 = .ok (.return_, 1) := by decide +kernel
set_option maxRecDepth 20000 in
theorem ggJ1_charAt_3b067_J0_checkIndex_df160 : GoodIn wsJ1_charAt_3b067 wsJ0_checkIndex_df160 := goodIn_r _ [4, 5, 6, 7, 8, 9] (by decide +kernel) (by decide +kernel)
set_option maxRecDepth 20000 in
theorem gJ1_charAt_3b067_J0_checkIndex_df160 : GoodIn wsJ1_charAt_3b067 (va_wsS RJ1 9 yJ0_checkIndex_df160 wsJ0_checkIndex_df160) := goodIn_app (goodIn_of _ (by decide +kernel)) ggJ1_charAt_3b067_J0_checkIndex_df160
theorem dJ1_charAt_3b067_0 : decode cJ1_charAt_3b067 0 = .ok (.iload_n 1, 1) := by decide +kernel
theorem dJ1_charAt_3b067_1 : decode cJ1_charAt_3b067 1 = .ok (.aload_n 0, 1) := by decide +kernel
theorem dJ1_charAt_3b067_2 : decode cJ1_charAt_3b067 2 = .ok (.arraylength, 1) := by decide +kernel
theorem dJ1_charAt_3b067_3 : decode cJ1_charAt_3b067 3 = .ok (.invokestatic 9, 3) := by decide +kernel
theorem dJ1_charAt_3b067_6 : decode cJ1_charAt_3b067 6 = .ok (.aload_n 0, 1) := by decide +kernel
theorem dJ1_charAt_3b067_7 : decode cJ1_charAt_3b067 7 = .ok (.iload_n 1, 1) := by decide +kernel
theorem dJ1_charAt_3b067_8 : decode cJ1_charAt_3b067 8 = .ok (.baload, 1) := by decide +kernel
theorem dJ1_charAt_3b067_9 : decode cJ1_charAt_3b067 9 = .ok (.sipush 255, 3) := by decide +kernel
theorem dJ1_charAt_3b067_12 : decode cJ1_charAt_3b067 12 = .ok (.iand, 1) := by decide +kernel
theorem dJ1_charAt_3b067_13 : decode cJ1_charAt_3b067 13 = .ok (.i2c, 1) := by decide +kernel
theorem dJ1_charAt_3b067_14 : decode cJ1_charAt_3b067 14 = .ok (.ireturn, 1) := by decide +kernel
set_option maxRecDepth 20000 in
theorem ggJ2_getChar_3b067_J2_length_9d52b : GoodIn wsJ2_getChar_3b067 wsJ2_length_9d52b := goodIn_r _ [7] (by decide +kernel) (by decide +kernel)
set_option maxRecDepth 20000 in
theorem gJ2_getChar_3b067_J2_length_9d52b : GoodIn wsJ2_getChar_3b067 (va_wsS RJ2 48 yJ2_length_9d52b wsJ2_length_9d52b) := goodIn_app (goodIn_of _ (by decide +kernel)) ggJ2_getChar_3b067_J2_length_9d52b
theorem dJ2_getChar_3b067_0 : decode cJ2_getChar_3b067 0 = .ok (.getstatic 44, 3) := by decide +kernel
theorem dJ2_getChar_3b067_3 : decode cJ2_getChar_3b067 3 = .ok (.ifCond .ne 25, 3) := by decide +kernel
theorem dJ2_getChar_3b067_6 : decode cJ2_getChar_3b067 6 = .ok (.iload_n 1, 1) := by decide +kernel
theorem dJ2_getChar_3b067_7 : decode cJ2_getChar_3b067 7 = .ok (.ifCond .lt 11, 3) := by decide +kernel
theorem dJ2_getChar_3b067_10 : decode cJ2_getChar_3b067 10 = .ok (.iload_n 1, 1) := by decide +kernel
theorem dJ2_getChar_3b067_11 : decode cJ2_getChar_3b067 11 = .ok (.aload_n 0, 1) := by decide +kernel
theorem dJ2_getChar_3b067_12 : decode cJ2_getChar_3b067 12 = .ok (.invokestatic 48, 3) := by decide +kernel
theorem dJ2_getChar_3b067_15 : decode cJ2_getChar_3b067 15 = .ok (.if_icmp .lt 13, 3) := by decide +kernel
theorem dJ2_getChar_3b067_18 : decode cJ2_getChar_3b067 18 = .ok (.new 52, 3) := by decide +kernel
theorem dJ2_getChar_3b067_21 : decode cJ2_getChar_3b067 21 = .ok (.dup, 1) := by decide +kernel
theorem dJ2_getChar_3b067_22 : decode cJ2_getChar_3b067 22 = .ok (.ldc 54, 2) := by decide +kernel
theorem dJ2_getChar_3b067_24 : decode cJ2_getChar_3b067 24 = .ok (.invokespecial 56, 3) := by decide +kernel
theorem dJ2_getChar_3b067_27 : decode cJ2_getChar_3b067 27 = .ok (.athrow, 1) := by decide +kernel
theorem dJ2_getChar_3b067_28 : decode cJ2_getChar_3b067 28 = .ok (.iload_n 1, 1) := by decide +kernel
theorem dJ2_getChar_3b067_29 : decode cJ2_getChar_3b067 29 = .ok (.iconst 1, 1) := by decide +kernel
theorem dJ2_getChar_3b067_30 : decode cJ2_getChar_3b067 30 = .ok (.ishl, 1) := by decide +kernel
theorem dJ2_getChar_3b067_31 : decode cJ2_getChar_3b067 31 = .ok (.istore_n 1, 1) := by decide +kernel
theorem dJ2_getChar_3b067_32 : decode cJ2_getChar_3b067 32 = .ok (.aload_n 0, 1) := by decide +kernel
theorem dJ2_getChar_3b067_33 : decode cJ2_getChar_3b067 33 = .ok (.iload_n 1, 1) := by decide +kernel
theorem dJ2_getChar_3b067_34 : decode cJ2_getChar_3b067 34 = .ok (.iinc 1 1, 3) := by decide +kernel
theorem dJ2_getChar_3b067_37 : decode cJ2_getChar_3b067 37 = .ok (.baload, 1) := by decide +kernel
theorem dJ2_getChar_3b067_38 : decode cJ2_getChar_3b067 38 = .ok (.sipush 255, 3) := by decide +kernel
theorem dJ2_getChar_3b067_41 : decode cJ2_getChar_3b067 41 = .ok (.iand, 1) := by decide +kernel
theorem dJ2_getChar_3b067_42 : decode cJ2_getChar_3b067 42 = .ok (.getstatic 59, 3) := by decide +kernel
theorem dJ2_getChar_3b067_45 : decode cJ2_getChar_3b067 45 = .ok (.ishl, 1) := by decide +kernel
theorem dJ2_getChar_3b067_46 : decode cJ2_getChar_3b067 46 = .ok (.aload_n 0, 1) := by decide +kernel
theorem dJ2_getChar_3b067_47 : decode cJ2_getChar_3b067 47 = .ok (.iload_n 1, 1) := by decide +kernel
theorem dJ2_getChar_3b067_48 : decode cJ2_getChar_3b067 48 = .ok (.baload, 1) := by decide +kernel
theorem dJ2_getChar_3b067_49 : decode cJ2_getChar_3b067 49 = .ok (.sipush 255, 3) := by decide +kernel
theorem dJ2_getChar_3b067_52 : decode cJ2_getChar_3b067 52 = .ok (.iand, 1) := by decide +kernel
theorem dJ2_getChar_3b067_53 : decode cJ2_getChar_3b067 53 = .ok (.getstatic 63, 3) := by decide +kernel
theorem dJ2_getChar_3b067_56 : decode cJ2_getChar_3b067 56 = .ok (.ishl, 1) := by decide +kernel
theorem dJ2_getChar_3b067_57 : decode cJ2_getChar_3b067 57 = .ok (.ior, 1) := by decide +kernel
theorem dJ2_getChar_3b067_58 : decode cJ2_getChar_3b067 58 = .ok (.i2c, 1) := by decide +kernel
theorem dJ2_getChar_3b067_59 : decode cJ2_getChar_3b067 59 = .ok (.ireturn, 1) := by decide +kernel
theorem dJ2_length_9d52b_0 : decode cJ2_length_9d52b 0 = .ok (.aload_n 0, 1) := by decide +kernel
theorem dJ2_length_9d52b_1 : decode cJ2_length_9d52b 1 = .ok (.arraylength, 1) := by decide +kernel
theorem dJ2_length_9d52b_2 : decode cJ2_length_9d52b 2 = .ok (.iconst 1, 1) := by decide +kernel
theorem dJ2_length_9d52b_3 : decode cJ2_length_9d52b 3 = .ok (.ishr, 1) := by decide +kernel
theorem dJ2_length_9d52b_4 : decode cJ2_length_9d52b 4 = .ok (.ireturn, 1) := by decide +kernel
set_option maxRecDepth 20000 in
theorem ggJ2_charAt_3b067_J2_checkIndex_2214a : GoodIn wsJ2_charAt_3b067 wsJ2_checkIndex_2214a := goodIn_r _ [4, 5, 6, 3, 7, 8, 9, 10, 11, 12, 13, 14, 15, 16] (by decide +kernel) (by decide +kernel)
set_option maxRecDepth 20000 in
theorem gJ2_charAt_3b067_J2_checkIndex_2214a : GoodIn wsJ2_charAt_3b067 (va_wsS RJ2 67 yJ2_checkIndex_2214a wsJ2_checkIndex_2214a) := goodIn_app (goodIn_of _ (by decide +kernel)) ggJ2_charAt_3b067_J2_checkIndex_2214a
set_option maxRecDepth 20000 in
theorem ggJ2_charAt_3b067_J2_getChar_3b067 : GoodIn wsJ2_charAt_3b067 wsJ2_getChar_3b067 := goodIn_r _ [19, 20, 21, 22, 5, 6, 3, 7] (by decide +kernel) (by decide +kernel)
set_option maxRecDepth 20000 in
theorem gJ2_charAt_3b067_J2_getChar_3b067 : GoodIn wsJ2_charAt_3b067 (va_wsS RJ2 71 yJ2_getChar_3b067 wsJ2_getChar_3b067) := goodIn_app (goodIn_of _ (by decide +kernel)) ggJ2_charAt_3b067_J2_getChar_3b067
theorem dJ2_charAt_3b067_0 : decode cJ2_charAt_3b067 0 = .ok (.iload_n 1, 1) := by decide +kernel
theorem dJ2_charAt_3b067_1 : decode cJ2_charAt_3b067 1 = .ok (.aload_n 0, 1) := by decide +kernel
theorem dJ2_charAt_3b067_2 : decode cJ2_charAt_3b067 2 = .ok (.invokestatic 67, 3) := by decide +kernel
theorem dJ2_charAt_3b067_5 : decode cJ2_charAt_3b067 5 = .ok (.aload_n 0, 1) := by decide +kernel
theorem dJ2_charAt_3b067_6 : decode cJ2_charAt_3b067 6 = .ok (.iload_n 1, 1) := by decide +kernel
theorem dJ2_charAt_3b067_7 : decode cJ2_charAt_3b067 7 = .ok (.invokestatic 71, 3) := by decide +kernel
theorem dJ2_charAt_3b067_10 : decode cJ2_charAt_3b067 10 = .ok (.ireturn, 1) := by decide +kernel
set_option maxRecDepth 20000 in
theorem ggJ2_checkIndex_2214a_J2_length_9d52b : GoodIn wsJ2_checkIndex_2214a wsJ2_length_9d52b := goodIn_r _ [4] (by decide +kernel) (by decide +kernel)
set_option maxRecDepth 20000 in
theorem gJ2_checkIndex_2214a_J2_length_9d52b : GoodIn wsJ2_checkIndex_2214a (va_wsS RJ2 48 yJ2_length_9d52b wsJ2_length_9d52b) := goodIn_app (goodIn_of _ (by decide +kernel)) ggJ2_checkIndex_2214a_J2_length_9d52b
set_option maxRecDepth 20000 in
theorem ggJ2_checkIndex_2214a_J0_checkIndex_df160 : GoodIn wsJ2_checkIndex_2214a wsJ0_checkIndex_df160 := goodIn_r _ [8, 9, 10, 11, 12, 13] (by decide +kernel) (by decide +kernel)
set_option maxRecDepth 20000 in
theorem gJ2_checkIndex_2214a_J0_checkIndex_df160 : GoodIn wsJ2_checkIndex_2214a (va_wsS RJ2 414 yJ0_checkIndex_df160 wsJ0_checkIndex_df160) := goodIn_app (goodIn_of _ (by decide +kernel)) ggJ2_checkIndex_2214a_J0_checkIndex_df160
theorem dJ2_checkIndex_2214a_0 : decode cJ2_checkIndex_2214a 0 = .ok (.iload_n 0, 1) := by decide +kernel
theorem dJ2_checkIndex_2214a_1 : decode cJ2_checkIndex_2214a 1 = .ok (.aload_n 1, 1) := by decide +kernel
theorem dJ2_checkIndex_2214a_2 : decode cJ2_checkIndex_2214a 2 = .ok (.invokestatic 48, 3) := by decide +kernel
theorem dJ2_checkIndex_2214a_5 : decode cJ2_checkIndex_2214a 5 = .ok (.invokestatic 414, 3) := by decide +kernel
theorem dJ2_checkIndex_2214a_8 : decode cJ2_checkIndex_2214a 8 = .ok (.return_, 1) := by decide +kernel
theorem dJ7_fill_53178_0 : decode cJ7_fill_53178 0 = .ok (.iconst 0, 1) := by decide +kernel
theorem dJ7_fill_53178_1 : decode cJ7_fill_53178 1 = .ok (.istore_n 2, 1) := by decide +kernel
theorem dJ7_fill_53178_2 : decode cJ7_fill_53178 2 = .ok (.aload_n 0, 1) := by decide +kernel
theorem dJ7_fill_53178_3 : decode cJ7_fill_53178 3 = .ok (.arraylength, 1) := by decide +kernel
theorem dJ7_fill_53178_4 : decode cJ7_fill_53178 4 = .ok (.istore_n 3, 1) := by decide +kernel
theorem dJ7_fill_53178_5 : decode cJ7_fill_53178 5 = .ok (.iload_n 2, 1) := by decide +kernel
theorem dJ7_fill_53178_6 : decode cJ7_fill_53178 6 = .ok (.iload_n 3, 1) := by decide +kernel
theorem dJ7_fill_53178_7 : decode cJ7_fill_53178 7 = .ok (.if_icmp .ge 13, 3) := by decide +kernel
theorem dJ7_fill_53178_10 : decode cJ7_fill_53178 10 = .ok (.aload_n 0, 1) := by decide +kernel
theorem dJ7_fill_53178_11 : decode cJ7_fill_53178 11 = .ok (.iload_n 2, 1) := by decide +kernel
theorem dJ7_fill_53178_12 : decode cJ7_fill_53178 12 = .ok (.iload_n 1, 1) := by decide +kernel
theorem dJ7_fill_53178_13 : decode cJ7_fill_53178 13 = .ok (.iastore, 1) := by decide +kernel
theorem dJ7_fill_53178_14 : decode cJ7_fill_53178 14 = .ok (.iinc 2 1, 3) := by decide +kernel
theorem dJ7_fill_53178_17 : decode cJ7_fill_53178 17 = .ok (.goto (-12), 3) := by decide +kernel
theorem dJ7_fill_53178_20 : decode cJ7_fill_53178 20 = .ok (.return_, 1) := by decide +kernel
theorem dJ3_checkIndex_8e157_0 : decode cJ3_checkIndex_8e157 0 = .ok (.iload_n 0, 1) := by decide +kernel
theorem dJ3_checkIndex_8e157_1 : decode cJ3_checkIndex_8e157 1 = .ok (.ifCond .lt 8, 3) := by decide +kernel
theorem dJ3_checkIndex_8e157_4 : decode cJ3_checkIndex_8e157 4 = .ok (.iload_n 0, 1) := by decide +kernel
theorem dJ3_checkIndex_8e157_5 : decode cJ3_checkIndex_8e157 5 = .ok (.iload_n 1, 1) := by decide +kernel
theorem dJ3_checkIndex_8e157_6 : decode cJ3_checkIndex_8e157 6 = .ok (.if_icmp .lt 10, 3) := by decide +kernel
theorem dJ3_checkIndex_8e157_9 : decode cJ3_checkIndex_8e157 9 = .ok (.aload_n 2, 1) := by decide +kernel
theorem dJ3_checkIndex_8e157_10 : decode cJ3_checkIndex_8e157 10 = .ok (.iload_n 0, 1) := by decide +kernel
theorem dJ3_checkIndex_8e157_11 : decode cJ3_checkIndex_8e157 11 = .ok (.iload_n 1, 1) := by decide +kernel
theorem dJ3_checkIndex_8e157_12 : decode cJ3_checkIndex_8e157 12 = .ok (.invokestatic 95, 3) := by decide +kernel
theorem dJ3_checkIndex_8e157_15 : decode cJ3_checkIndex_8e157 15 = .ok (.athrow, 1) := by decide +kernel
theorem dJ3_checkIndex_8e157_16 : decode cJ3_checkIndex_8e157 16 = .ok (.iload_n 0, 1) := by decide +kernel
theorem dJ3_checkIndex_8e157_17 : decode cJ3_checkIndex_8e157 17 = .ok (.ireturn, 1) := by decide +kernel
