theorem dX4_readSegment_144 : decode cX4_readSegment 144 = .ok (.aload_n 0, 1) := by decide +kernel
theorem dX4_readSegment_145 : decode cX4_readSegment 145 = .ok (.getfield 16, 3) := by decide +kernel
theorem dX4_readSegment_148 : decode cX4_readSegment 148 = .ok (.iconst 0, 1) := by decide +kernel
theorem dX4_readSegment_149 : decode cX4_readSegment 149 = .ok (.iaload, 1) := by decide +kernel
theorem dX4_readSegment_150 : decode cX4_readSegment 150 = .ok (.aload_n 0, 1) := by decide +kernel
theorem dX4_readSegment_151 : decode cX4_readSegment 151 = .ok (.getfield 16, 3) := by decide +kernel
theorem dX4_readSegment_154 : decode cX4_readSegment 154 = .ok (.iconst 1, 1) := by decide +kernel
theorem dX4_readSegment_155 : decode cX4_readSegment 155 = .ok (.iaload, 1) := by decide +kernel
theorem dX4_readSegment_156 : decode cX4_readSegment 156 = .ok (.aload_n 0, 1) := by decide +kernel
theorem dX4_readSegment_157 : decode cX4_readSegment 157 = .ok (.getfield 16, 3) := by decide +kernel
theorem dX4_readSegment_160 : decode cX4_readSegment 160 = .ok (.iconst 2, 1) := by decide +kernel
theorem dX4_readSegment_161 : decode cX4_readSegment 161 = .ok (.iaload, 1) := by decide +kernel
theorem dX4_readSegment_162 : decode cX4_readSegment 162 = .ok (.invokevirtual 66, 3) := by decide +kernel
theorem dX4_readSegment_165 : decode cX4_readSegment 165 = .ok (.return_, 1) := by decide +kernel
set_option maxRecDepth 20000 in
theorem ggX4_readWord_X5_isSmallLetter : GoodIn wsX4_readWord wsX5_isSmallLetter := goodIn_r _ [7, 8, 9, 10, 6, 11, 12, 13, 73, 74] (by decide +kernel) (by decide +kernel)
set_option maxRecDepth 20000 in
theorem gX4_readWord_X5_isSmallLetter : GoodIn wsX4_readWord (wsV RX4 70 RX5 yX5_isSmallLetter wsX5_isSmallLetter) := goodIn_app (goodIn_of _ (by decide +kernel)) ggX4_readWord_X5_isSmallLetter
set_option maxRecDepth 20000 in
theorem ggX4_readWord_X5_holds : GoodIn wsX4_readWord wsX5_holds := goodIn_r _ [17, 18, 19, 20, 21, 22, 23, 24, 25, 26, 27, 28, 29, 8, 9, 10, 6, 11, 12, 13, 30, 31, 32, 33, 34, 35, 36, 37, 38, 39, 40, 41, 42, 43, 44, 45, 46, 47, 48, 49, 50, 51, 52, 53, 54, 55, 56, 57, 58, 59, 60, 61, 62, 63, 64, 65, 66, 73, 74] (by decide +kernel) (by decide +kernel)
set_option maxRecDepth 20000 in
theorem gX4_readWord_X5_holds : GoodIn wsX4_readWord (wsV RX4 76 RX5 yX5_holds wsX5_holds) := goodIn_app (goodIn_of _ (by decide +kernel)) ggX4_readWord_X5_holds
theorem dX4_readWord_0 : decode cX4_readWord 0 = .ok (.aload_n 0, 1) := by decide +kernel
theorem dX4_readWord_1 : decode cX4_readWord 1 = .ok (.getfield 31, 3) := by decide +kernel
theorem dX4_readWord_4 : decode cX4_readWord 4 = .ok (.istore_n 2, 1) := by decide +kernel
theorem dX4_readWord_5 : decode cX4_readWord 5 = .ok (.aload_n 0, 1) := by decide +kernel
theorem dX4_readWord_6 : decode cX4_readWord 6 = .ok (.getfield 31, 3) := by decide +kernel
theorem dX4_readWord_9 : decode cX4_readWord 9 = .ok (.aload_n 1, 1) := by decide +kernel
theorem dX4_readWord_10 : decode cX4_readWord 10 = .ok (.getfield 34, 3) := by decide +kernel
theorem dX4_readWord_13 : decode cX4_readWord 13 = .ok (.if_icmp .ge 27, 3) := by decide +kernel
theorem dX4_readWord_16 : decode cX4_readWord 16 = .ok (.aload_n 1, 1) := by decide +kernel
theorem dX4_readWord_17 : decode cX4_readWord 17 = .ok (.aload_n 0, 1) := by decide +kernel
theorem dX4_readWord_18 : decode cX4_readWord 18 = .ok (.getfield 31, 3) := by decide +kernel
theorem dX4_readWord_21 : decode cX4_readWord 21 = .ok (.invokevirtual 70, 3) := by decide +kernel
theorem dX4_readWord_24 : decode cX4_readWord 24 = .ok (.ifCond .eq 16, 3) := by decide +kernel
theorem dX4_readWord_27 : decode cX4_readWord 27 = .ok (.aload_n 0, 1) := by decide +kernel
theorem dX4_readWord_28 : decode cX4_readWord 28 = .ok (.dup, 1) := by decide +kernel
theorem dX4_readWord_29 : decode cX4_readWord 29 = .ok (.getfield 31, 3) := by decide +kernel
theorem dX4_readWord_32 : decode cX4_readWord 32 = .ok (.iconst 1, 1) := by decide +kernel
theorem dX4_readWord_33 : decode cX4_readWord 33 = .ok (.iadd, 1) := by decide +kernel
theorem dX4_readWord_34 : decode cX4_readWord 34 = .ok (.putfield 31, 3) := by decide +kernel
theorem dX4_readWord_37 : decode cX4_readWord 37 = .ok (.goto (-32), 3) := by decide +kernel
theorem dX4_readWord_40 : decode cX4_readWord 40 = .ok (.aload_n 1, 1) := by decide +kernel
theorem dX4_readWord_41 : decode cX4_readWord 41 = .ok (.ldc 74, 2) := by decide +kernel
theorem dX4_readWord_43 : decode cX4_readWord 43 = .ok (.iload_n 2, 1) := by decide +kernel
theorem dX4_readWord_44 : decode cX4_readWord 44 = .ok (.aload_n 0, 1) := by decide +kernel
theorem dX4_readWord_45 : decode cX4_readWord 45 = .ok (.getfield 31, 3) := by decide +kernel
theorem dX4_readWord_48 : decode cX4_readWord 48 = .ok (.invokevirtual 76, 3) := by decide +kernel
theorem dX4_readWord_51 : decode cX4_readWord 51 = .ok (.ifCond .eq 5, 3) := by decide +kernel
theorem dX4_readWord_54 : decode cX4_readWord 54 = .ok (.iconst 0, 1) := by decide +kernel
theorem dX4_readWord_55 : decode cX4_readWord 55 = .ok (.ireturn, 1) := by decide +kernel
theorem dX4_readWord_56 : decode cX4_readWord 56 = .ok (.aload_n 1, 1) := by decide +kernel
theorem dX4_readWord_57 : decode cX4_readWord 57 = .ok (.ldc 80, 2) := by decide +kernel
theorem dX4_readWord_59 : decode cX4_readWord 59 = .ok (.iload_n 2, 1) := by decide +kernel
theorem dX4_readWord_60 : decode cX4_readWord 60 = .ok (.aload_n 0, 1) := by decide +kernel
theorem dX4_readWord_61 : decode cX4_readWord 61 = .ok (.getfield 31, 3) := by decide +kernel
theorem dX4_readWord_64 : decode cX4_readWord 64 = .ok (.invokevirtual 76, 3) := by decide +kernel
theorem dX4_readWord_67 : decode cX4_readWord 67 = .ok (.ifCond .eq 5, 3) := by decide +kernel
theorem dX4_readWord_70 : decode cX4_readWord 70 = .ok (.iconst 1, 1) := by decide +kernel
theorem dX4_readWord_71 : decode cX4_readWord 71 = .ok (.ireturn, 1) := by decide +kernel
theorem dX4_readWord_72 : decode cX4_readWord 72 = .ok (.aload_n 1, 1) := by decide +kernel
theorem dX4_readWord_73 : decode cX4_readWord 73 = .ok (.ldc 82, 2) := by decide +kernel
theorem dX4_readWord_75 : decode cX4_readWord 75 = .ok (.iload_n 2, 1) := by decide +kernel
theorem dX4_readWord_76 : decode cX4_readWord 76 = .ok (.aload_n 0, 1) := by decide +kernel
theorem dX4_readWord_77 : decode cX4_readWord 77 = .ok (.getfield 31, 3) := by decide +kernel
theorem dX4_readWord_80 : decode cX4_readWord 80 = .ok (.invokevirtual 76, 3) := by decide +kernel
theorem dX4_readWord_83 : decode cX4_readWord 83 = .ok (.ifCond .eq 7, 3) := by decide +kernel
theorem dX4_readWord_86 : decode cX4_readWord 86 = .ok (.iconst 2, 1) := by decide +kernel
theorem dX4_readWord_87 : decode cX4_readWord 87 = .ok (.goto 4, 3) := by decide +kernel
theorem dX4_readWord_90 : decode cX4_readWord 90 = .ok (.iconst (-1), 1) := by decide +kernel
theorem dX4_readWord_91 : decode cX4_readWord 91 = .ok (.ireturn, 1) := by decide +kernel
set_option maxRecDepth 20000 in
theorem ggX4_readNumbers_J7_fill_53178 : GoodIn wsX4_readNumbers wsJ7_fill_53178 := goodIn_r _ [6] (by decide +kernel) (by decide +kernel)
set_option maxRecDepth 20000 in
theorem gX4_readNumbers_J7_fill_53178 : GoodIn wsX4_readNumbers (va_wsS RX4 84 yJ7_fill_53178 wsJ7_fill_53178) := goodIn_app (goodIn_of _ (by decide +kernel)) ggX4_readNumbers_J7_fill_53178
set_option maxRecDepth 20000 in
theorem ggX4_readNumbers_X5_at : GoodIn wsX4_readNumbers wsX5_at := goodIn_r _ [11, 12, 13, 30, 31] (by decide +kernel) (by decide +kernel)
set_option maxRecDepth 20000 in
theorem gX4_readNumbers_X5_at : GoodIn wsX4_readNumbers (wsV RX4 62 RX5 yX5_at wsX5_at) := goodIn_app (goodIn_of _ (by decide +kernel)) ggX4_readNumbers_X5_at
set_option maxRecDepth 20000 in
theorem ggX4_readNumbers_X5_isDigit : GoodIn wsX4_readNumbers wsX5_isDigit := goodIn_r _ [17, 18, 8, 9, 10, 11, 12, 13, 30, 31] (by decide +kernel) (by decide +kernel)
set_option maxRecDepth 20000 in
theorem gX4_readNumbers_X5_isDigit : GoodIn wsX4_readNumbers (wsV RX4 90 RX5 yX5_isDigit wsX5_isDigit) := goodIn_app (goodIn_of _ (by decide +kernel)) ggX4_readNumbers_X5_isDigit
set_option maxRecDepth 20000 in
theorem ggX4_readNumbers_X4_readNumber : GoodIn wsX4_readNumbers wsX4_readNumber := goodIn_r _ [23, 2, 14, 15, 16, 10, 17, 18, 8, 9, 11, 12, 13, 7, 24, 25, 26, 27, 28, 29, 30, 31] (by decide +kernel) (by decide +kernel)
set_option maxRecDepth 20000 in
theorem gX4_readNumbers_X4_readNumber : GoodIn wsX4_readNumbers (wsV RX4 93 RX4 yX4_readNumber wsX4_readNumber) := goodIn_app (goodIn_of _ (by decide +kernel)) ggX4_readNumbers_X4_readNumber
theorem dX4_readNumbers_0 : decode cX4_readNumbers 0 = .ok (.aload_n 0, 1) := by decide +kernel
theorem dX4_readNumbers_1 : decode cX4_readNumbers 1 = .ok (.getfield 16, 3) := by decide +kernel
theorem dX4_readNumbers_4 : decode cX4_readNumbers 4 = .ok (.iconst 0, 1) := by decide +kernel
theorem dX4_readNumbers_5 : decode cX4_readNumbers 5 = .ok (.invokestatic 84, 3) := by decide +kernel
theorem dX4_readNumbers_8 : decode cX4_readNumbers 8 = .ok (.iconst 0, 1) := by decide +kernel
theorem dX4_readNumbers_9 : decode cX4_readNumbers 9 = .ok (.istore_n 3, 1) := by decide +kernel
theorem dX4_readNumbers_10 : decode cX4_readNumbers 10 = .ok (.iload_n 3, 1) := by decide +kernel
theorem dX4_readNumbers_11 : decode cX4_readNumbers 11 = .ok (.iload_n 2, 1) := by decide +kernel
theorem dX4_readNumbers_12 : decode cX4_readNumbers 12 = .ok (.if_icmp .ge 65, 3) := by decide +kernel
theorem dX4_readNumbers_15 : decode cX4_readNumbers 15 = .ok (.iload_n 3, 1) := by decide +kernel
theorem dX4_readNumbers_16 : decode cX4_readNumbers 16 = .ok (.iconst 3, 1) := by decide +kernel
theorem dX4_readNumbers_17 : decode cX4_readNumbers 17 = .ok (.if_icmp .ge 60, 3) := by decide +kernel
theorem dX4_readNumbers_20 : decode cX4_readNumbers 20 = .ok (.aload_n 1, 1) := by decide +kernel
theorem dX4_readNumbers_21 : decode cX4_readNumbers 21 = .ok (.aload_n 0, 1) := by decide +kernel
theorem dX4_readNumbers_22 : decode cX4_readNumbers 22 = .ok (.getfield 31, 3) := by decide +kernel
theorem dX4_readNumbers_25 : decode cX4_readNumbers 25 = .ok (.invokevirtual 62, 3) := by decide +kernel
theorem dX4_readNumbers_28 : decode cX4_readNumbers 28 = .ok (.bipush 32, 2) := by decide +kernel
theorem dX4_readNumbers_30 : decode cX4_readNumbers 30 = .ok (.if_icmp .ne 16, 3) := by decide +kernel
theorem dX4_readNumbers_33 : decode cX4_readNumbers 33 = .ok (.aload_n 1, 1) := by decide +kernel
theorem dX4_readNumbers_34 : decode cX4_readNumbers 34 = .ok (.aload_n 0, 1) := by decide +kernel
theorem dX4_readNumbers_35 : decode cX4_readNumbers 35 = .ok (.getfield 31, 3) := by decide +kernel
theorem dX4_readNumbers_38 : decode cX4_readNumbers 38 = .ok (.iconst 1, 1) := by decide +kernel
theorem dX4_readNumbers_39 : decode cX4_readNumbers 39 = .ok (.iadd, 1) := by decide +kernel
theorem dX4_readNumbers_40 : decode cX4_readNumbers 40 = .ok (.invokevirtual 90, 3) := by decide +kernel
theorem dX4_readNumbers_43 : decode cX4_readNumbers 43 = .ok (.ifCond .ne 7, 3) := by decide +kernel
theorem dX4_readNumbers_46 : decode cX4_readNumbers 46 = .ok (.iload_n 3, 1) := by decide +kernel
theorem dX4_readNumbers_47 : decode cX4_readNumbers 47 = .ok (.iconst 1, 1) := by decide +kernel
theorem dX4_readNumbers_48 : decode cX4_readNumbers 48 = .ok (.iadd, 1) := by decide +kernel
theorem dX4_readNumbers_49 : decode cX4_readNumbers 49 = .ok (.ireturn, 1) := by decide +kernel
theorem dX4_readNumbers_50 : decode cX4_readNumbers 50 = .ok (.aload_n 0, 1) := by decide +kernel
theorem dX4_readNumbers_51 : decode cX4_readNumbers 51 = .ok (.dup, 1) := by decide +kernel
theorem dX4_readNumbers_52 : decode cX4_readNumbers 52 = .ok (.getfield 31, 3) := by decide +kernel
theorem dX4_readNumbers_55 : decode cX4_readNumbers 55 = .ok (.iconst 1, 1) := by decide +kernel
theorem dX4_readNumbers_56 : decode cX4_readNumbers 56 = .ok (.iadd, 1) := by decide +kernel
theorem dX4_readNumbers_57 : decode cX4_readNumbers 57 = .ok (.putfield 31, 3) := by decide +kernel
theorem dX4_readNumbers_60 : decode cX4_readNumbers 60 = .ok (.aload_n 0, 1) := by decide +kernel
theorem dX4_readNumbers_61 : decode cX4_readNumbers 61 = .ok (.getfield 16, 3) := by decide +kernel
theorem dX4_readNumbers_64 : decode cX4_readNumbers 64 = .ok (.iload_n 3, 1) := by decide +kernel
theorem dX4_readNumbers_65 : decode cX4_readNumbers 65 = .ok (.aload_n 0, 1) := by decide +kernel
theorem dX4_readNumbers_66 : decode cX4_readNumbers 66 = .ok (.aload_n 1, 1) := by decide +kernel
theorem dX4_readNumbers_67 : decode cX4_readNumbers 67 = .ok (.invokevirtual 93, 3) := by decide +kernel
theorem dX4_readNumbers_70 : decode cX4_readNumbers 70 = .ok (.iastore, 1) := by decide +kernel
theorem dX4_readNumbers_71 : decode cX4_readNumbers 71 = .ok (.iinc 3 1, 3) := by decide +kernel
theorem dX4_readNumbers_74 : decode cX4_readNumbers 74 = .ok (.goto (-64), 3) := by decide +kernel
theorem dX4_readNumbers_77 : decode cX4_readNumbers 77 = .ok (.iconst 0, 1) := by decide +kernel
theorem dX4_readNumbers_78 : decode cX4_readNumbers 78 = .ok (.ireturn, 1) := by decide +kernel
set_option maxRecDepth 20000 in
theorem ggX4_readNumber_X5_isDigit : GoodIn wsX4_readNumber wsX5_isDigit := goodIn_r _ [6, 7, 8, 9, 5, 10, 11, 12, 20, 21] (by decide +kernel) (by decide +kernel)
set_option maxRecDepth 20000 in
theorem gX4_readNumber_X5_isDigit : GoodIn wsX4_readNumber (wsV RX4 90 RX5 yX5_isDigit wsX5_isDigit) := goodIn_app (goodIn_of _ (by decide +kernel)) ggX4_readNumber_X5_isDigit
set_option maxRecDepth 20000 in
theorem ggX4_readNumber_X5_at : GoodIn wsX4_readNumber wsX5_at := goodIn_r _ [10, 11, 12, 20, 21] (by decide +kernel) (by decide +kernel)
set_option maxRecDepth 20000 in
theorem gX4_readNumber_X5_at : GoodIn wsX4_readNumber (wsV RX4 62 RX5 yX5_at wsX5_at) := goodIn_app (goodIn_of _ (by decide +kernel)) ggX4_readNumber_X5_at
theorem dX4_readNumber_0 : decode cX4_readNumber 0 = .ok (.iconst 0, 1) := by decide +kernel
theorem dX4_readNumber_1 : decode cX4_readNumber 1 = .ok (.istore_n 2, 1) := by decide +kernel
theorem dX4_readNumber_2 : decode cX4_readNumber 2 = .ok (.iconst 0, 1) := by decide +kernel
theorem dX4_readNumber_3 : decode cX4_readNumber 3 = .ok (.istore_n 3, 1) := by decide +kernel
theorem dX4_readNumber_4 : decode cX4_readNumber 4 = .ok (.iload_n 3, 1) := by decide +kernel
theorem dX4_readNumber_5 : decode cX4_readNumber 5 = .ok (.iconst 3, 1) := by decide +kernel
theorem dX4_readNumber_6 : decode cX4_readNumber 6 = .ok (.if_icmp .ge 47, 3) := by decide +kernel
theorem dX4_readNumber_9 : decode cX4_readNumber 9 = .ok (.aload_n 1, 1) := by decide +kernel
theorem dX4_readNumber_10 : decode cX4_readNumber 10 = .ok (.aload_n 0, 1) := by decide +kernel
theorem dX4_readNumber_11 : decode cX4_readNumber 11 = .ok (.getfield 31, 3) := by decide +kernel
theorem dX4_readNumber_14 : decode cX4_readNumber 14 = .ok (.invokevirtual 90, 3) := by decide +kernel
theorem dX4_readNumber_17 : decode cX4_readNumber 17 = .ok (.ifCond .eq 36, 3) := by decide +kernel
theorem dX4_readNumber_20 : decode cX4_readNumber 20 = .ok (.bipush 10, 2) := by decide +kernel
theorem dX4_readNumber_22 : decode cX4_readNumber 22 = .ok (.iload_n 2, 1) := by decide +kernel
theorem dX4_readNumber_23 : decode cX4_readNumber 23 = .ok (.imul, 1) := by decide +kernel
theorem dX4_readNumber_24 : decode cX4_readNumber 24 = .ok (.aload_n 1, 1) := by decide +kernel
theorem dX4_readNumber_25 : decode cX4_readNumber 25 = .ok (.aload_n 0, 1) := by decide +kernel
theorem dX4_readNumber_26 : decode cX4_readNumber 26 = .ok (.getfield 31, 3) := by decide +kernel
theorem dX4_readNumber_29 : decode cX4_readNumber 29 = .ok (.invokevirtual 62, 3) := by decide +kernel
theorem dX4_readNumber_32 : decode cX4_readNumber 32 = .ok (.iadd, 1) := by decide +kernel
theorem dX4_readNumber_33 : decode cX4_readNumber 33 = .ok (.bipush 48, 2) := by decide +kernel
theorem dX4_readNumber_35 : decode cX4_readNumber 35 = .ok (.isub, 1) := by decide +kernel
theorem dX4_readNumber_36 : decode cX4_readNumber 36 = .ok (.istore_n 2, 1) := by decide +kernel
theorem dX4_readNumber_37 : decode cX4_readNumber 37 = .ok (.aload_n 0, 1) := by decide +kernel
theorem dX4_readNumber_38 : decode cX4_readNumber 38 = .ok (.dup, 1) := by decide +kernel
theorem dX4_readNumber_39 : decode cX4_readNumber 39 = .ok (.getfield 31, 3) := by decide +kernel
theorem dX4_readNumber_42 : decode cX4_readNumber 42 = .ok (.iconst 1, 1) := by decide +kernel
theorem dX4_readNumber_43 : decode cX4_readNumber 43 = .ok (.iadd, 1) := by decide +kernel
theorem dX4_readNumber_44 : decode cX4_readNumber 44 = .ok (.putfield 31, 3) := by decide +kernel
theorem dX4_readNumber_47 : decode cX4_readNumber 47 = .ok (.iinc 3 1, 3) := by decide +kernel
theorem dX4_readNumber_50 : decode cX4_readNumber 50 = .ok (.goto (-46), 3) := by decide +kernel
theorem dX4_readNumber_53 : decode cX4_readNumber 53 = .ok (.iload_n 2, 1) := by decide +kernel
theorem dX4_readNumber_54 : decode cX4_readNumber 54 = .ok (.ireturn, 1) := by decide +kernel
theorem dX5_init_0 : decode cX5_init 0 = .ok (.aload_n 0, 1) := by decide +kernel
theorem dX5_init_1 : decode cX5_init 1 = .ok (.invokespecial 1, 3) := by decide +kernel
theorem dX5_init_4 : decode cX5_init 4 = .ok (.aload_n 0, 1) := by decide +kernel
theorem dX5_init_5 : decode cX5_init 5 = .ok (.bipush 100, 2) := by decide +kernel
theorem dX5_init_7 : decode cX5_init 7 = .ok (.newarray .char, 2) := by decide +kernel
theorem dX5_init_9 : decode cX5_init 9 = .ok (.putfield 9, 3) := by decide +kernel
theorem dX5_init_12 : decode cX5_init 12 = .ok (.return_, 1) := by decide +kernel
theorem dX5_isFull_0 : decode cX5_isFull 0 = .ok (.aload_n 0, 1) := by decide +kernel
theorem dX5_isFull_1 : decode cX5_isFull 1 = .ok (.getfield 13, 3) := by decide +kernel
theorem dX5_isFull_4 : decode cX5_isFull 4 = .ok (.bipush 100, 2) := by decide +kernel
theorem dX5_isFull_6 : decode cX5_isFull 6 = .ok (.if_icmp .lt 7, 3) := by decide +kernel
theorem dX5_isFull_9 : decode cX5_isFull 9 = .ok (.iconst 1, 1) := by decide +kernel
theorem dX5_isFull_10 : decode cX5_isFull 10 = .ok (.goto 4, 3) := by decide +kernel
theorem dX5_isFull_13 : decode cX5_isFull 13 = .ok (.iconst 0, 1) := by decide +kernel
theorem dX5_isFull_14 : decode cX5_isFull 14 = .ok (.ireturn, 1) := by decide +kernel
set_option maxRecDepth 20000 in
theorem ggX5_append_X5_isFull : GoodIn wsX5_append wsX5_isFull := goodIn_r _ [7, 2, 8, 9] (by decide +kernel) (by decide +kernel)
set_option maxRecDepth 20000 in
theorem gX5_append_X5_isFull : GoodIn wsX5_append (wsV RX5 17 RX5 yX5_isFull wsX5_isFull) := goodIn_app (goodIn_of _ (by decide +kernel)) ggX5_append_X5_isFull
theorem dX5_append_0 : decode cX5_append 0 = .ok (.aload_n 0, 1) := by decide +kernel
theorem dX5_append_1 : decode cX5_append 1 = .ok (.invokevirtual 17, 3) := by decide +kernel
theorem dX5_append_4 : decode cX5_append 4 = .ok (.ifCond .eq 4, 3) := by decide +kernel
theorem dX5_append_7 : decode cX5_append 7 = .ok (.return_, 1) := by decide +kernel
theorem dX5_append_8 : decode cX5_append 8 = .ok (.aload_n 0, 1) := by decide +kernel
theorem dX5_append_9 : decode cX5_append 9 = .ok (.getfield 9, 3) := by decide +kernel
theorem dX5_append_12 : decode cX5_append 12 = .ok (.aload_n 0, 1) := by decide +kernel
theorem dX5_append_13 : decode cX5_append 13 = .ok (.getfield 13, 3) := by decide +kernel
theorem dX5_append_16 : decode cX5_append 16 = .ok (.iload_n 1, 1) := by decide +kernel
theorem dX5_append_17 : decode cX5_append 17 = .ok (.castore, 1) := by decide +kernel
theorem dX5_append_18 : decode cX5_append 18 = .ok (.aload_n 0, 1) := by decide +kernel
theorem dX5_append_19 : decode cX5_append 19 = .ok (.dup, 1) := by decide +kernel
theorem dX5_append_20 : decode cX5_append 20 = .ok (.getfield 13, 3) := by decide +kernel
theorem dX5_append_23 : decode cX5_append 23 = .ok (.iconst 1, 1) := by decide +kernel
theorem dX5_append_24 : decode cX5_append 24 = .ok (.iadd, 1) := by decide +kernel
theorem dX5_append_25 : decode cX5_append 25 = .ok (.putfield 13, 3) := by decide +kernel
theorem dX5_append_28 : decode cX5_append 28 = .ok (.return_, 1) := by decide +kernel
theorem dX5_at_0 : decode cX5_at 0 = .ok (.iload_n 1, 1) := by decide +kernel
theorem dX5_at_1 : decode cX5_at 1 = .ok (.ifCond .lt 20, 3) := by decide +kernel
theorem dX5_at_4 : decode cX5_at 4 = .ok (.iload_n 1, 1) := by decide +kernel
theorem dX5_at_5 : decode cX5_at 5 = .ok (.aload_n 0, 1) := by decide +kernel
theorem dX5_at_6 : decode cX5_at 6 = .ok (.getfield 13, 3) := by decide +kernel
theorem dX5_at_9 : decode cX5_at 9 = .ok (.if_icmp .ge 12, 3) := by decide +kernel
theorem dX5_at_12 : decode cX5_at 12 = .ok (.aload_n 0, 1) := by decide +kernel
theorem dX5_at_13 : decode cX5_at 13 = .ok (.getfield 9, 3) := by decide +kernel
theorem dX5_at_16 : decode cX5_at 16 = .ok (.iload_n 1, 1) := by decide +kernel
theorem dX5_at_17 : decode cX5_at 17 = .ok (.caload, 1) := by decide +kernel
theorem dX5_at_18 : decode cX5_at 18 = .ok (.goto 4, 3) := by decide +kernel
theorem dX5_at_21 : decode cX5_at 21 = .ok (.iconst 0, 1) := by decide +kernel
theorem dX5_at_22 : decode cX5_at 22 = .ok (.ireturn, 1) := by decide +kernel
set_option maxRecDepth 20000 in
theorem ggX5_isSmallLetter_X5_at : GoodIn wsX5_isSmallLetter wsX5_at := goodIn_r _ [5, 6, 7, 8, 9] (by decide +kernel) (by decide +kernel)
set_option maxRecDepth 20000 in
theorem gX5_isSmallLetter_X5_at : GoodIn wsX5_isSmallLetter (wsV RX5 21 RX5 yX5_at wsX5_at) := goodIn_app (goodIn_of _ (by decide +kernel)) ggX5_isSmallLetter_X5_at
theorem dX5_isSmallLetter_0 : decode cX5_isSmallLetter 0 = .ok (.aload_n 0, 1) := by decide +kernel
theorem dX5_isSmallLetter_1 : decode cX5_isSmallLetter 1 = .ok (.iload_n 1, 1) := by decide +kernel
theorem dX5_isSmallLetter_2 : decode cX5_isSmallLetter 2 = .ok (.invokevirtual 21, 3) := by decide +kernel
theorem dX5_isSmallLetter_5 : decode cX5_isSmallLetter 5 = .ok (.bipush 97, 2) := by decide +kernel
theorem dX5_isSmallLetter_7 : decode cX5_isSmallLetter 7 = .ok (.if_icmp .lt 17, 3) := by decide +kernel
theorem dX5_isSmallLetter_10 : decode cX5_isSmallLetter 10 = .ok (.aload_n 0, 1) := by decide +kernel
theorem dX5_isSmallLetter_11 : decode cX5_isSmallLetter 11 = .ok (.iload_n 1, 1) := by decide +kernel
theorem dX5_isSmallLetter_12 : decode cX5_isSmallLetter 12 = .ok (.invokevirtual 21, 3) := by decide +kernel
theorem dX5_isSmallLetter_15 : decode cX5_isSmallLetter 15 = .ok (.bipush 122, 2) := by decide +kernel
theorem dX5_isSmallLetter_17 : decode cX5_isSmallLetter 17 = .ok (.if_icmp .gt 7, 3) := by decide +kernel
theorem dX5_isSmallLetter_20 : decode cX5_isSmallLetter 20 = .ok (.iconst 1, 1) := by decide +kernel
theorem dX5_isSmallLetter_21 : decode cX5_isSmallLetter 21 = .ok (.goto 4, 3) := by decide +kernel
theorem dX5_isSmallLetter_24 : decode cX5_isSmallLetter 24 = .ok (.iconst 0, 1) := by decide +kernel
theorem dX5_isSmallLetter_25 : decode cX5_isSmallLetter 25 = .ok (.ireturn, 1) := by decide +kernel
set_option maxRecDepth 20000 in
theorem ggX5_isDigit_X5_at : GoodIn wsX5_isDigit wsX5_at := goodIn_r _ [5, 6, 7, 8, 9] (by decide +kernel) (by decide +kernel)
set_option maxRecDepth 20000 in
theorem gX5_isDigit_X5_at : GoodIn wsX5_isDigit (wsV RX5 21 RX5 yX5_at wsX5_at) := goodIn_app (goodIn_of _ (by decide +kernel)) ggX5_isDigit_X5_at
theorem dX5_isDigit_0 : decode cX5_isDigit 0 = .ok (.aload_n 0, 1) := by decide +kernel
theorem dX5_isDigit_1 : decode cX5_isDigit 1 = .ok (.iload_n 1, 1) := by decide +kernel
theorem dX5_isDigit_2 : decode cX5_isDigit 2 = .ok (.invokevirtual 21, 3) := by decide +kernel
theorem dX5_isDigit_5 : decode cX5_isDigit 5 = .ok (.bipush 48, 2) := by decide +kernel
theorem dX5_isDigit_7 : decode cX5_isDigit 7 = .ok (.if_icmp .lt 17, 3) := by decide +kernel
theorem dX5_isDigit_10 : decode cX5_isDigit 10 = .ok (.aload_n 0, 1) := by decide +kernel
theorem dX5_isDigit_11 : decode cX5_isDigit 11 = .ok (.iload_n 1, 1) := by decide +kernel
theorem dX5_isDigit_12 : decode cX5_isDigit 12 = .ok (.invokevirtual 21, 3) := by decide +kernel
theorem dX5_isDigit_15 : decode cX5_isDigit 15 = .ok (.bipush 57, 2) := by decide +kernel
theorem dX5_isDigit_17 : decode cX5_isDigit 17 = .ok (.if_icmp .gt 7, 3) := by decide +kernel
theorem dX5_isDigit_20 : decode cX5_isDigit 20 = .ok (.iconst 1, 1) := by decide +kernel
theorem dX5_isDigit_21 : decode cX5_isDigit 21 = .ok (.goto 4, 3) := by decide +kernel
theorem dX5_isDigit_24 : decode cX5_isDigit 24 = .ok (.iconst 0, 1) := by decide +kernel
theorem dX5_isDigit_25 : decode cX5_isDigit 25 = .ok (.ireturn, 1) := by decide +kernel
set_option maxRecDepth 20000 in
theorem ggX5_holds_J0_length_8abf5 : GoodIn wsX5_holds wsJ0_length_8abf5 := goodIn_r _ [5, 6, 7, 8, 9, 4, 10, 11, 12] (by decide +kernel) (by decide +kernel)
set_option maxRecDepth 20000 in
theorem gX5_holds_J0_length_8abf5 : GoodIn wsX5_holds (wsV RX5 25 RJ0 yJ0_length_8abf5 wsJ0_length_8abf5) := goodIn_app (goodIn_of _ (by decide +kernel)) ggX5_holds_J0_length_8abf5
set_option maxRecDepth 20000 in
theorem ggX5_holds_X5_at : GoodIn wsX5_holds wsX5_at := goodIn_r _ [17, 18, 19, 57, 58] (by decide +kernel) (by decide +kernel)
set_option maxRecDepth 20000 in
theorem gX5_holds_X5_at : GoodIn wsX5_holds (wsV RX5 21 RX5 yX5_at wsX5_at) := goodIn_app (goodIn_of _ (by decide +kernel)) ggX5_holds_X5_at
set_option maxRecDepth 20000 in
theorem ggX5_holds_J0_charAt_5068e : GoodIn wsX5_holds wsJ0_charAt_5068e := goodIn_r _ [23, 6, 24, 25, 26, 4, 27, 11, 12, 28, 29, 30, 31, 32, 33, 34, 35, 36, 37, 38, 39, 40, 41, 42, 43, 44, 45, 46, 47, 48, 49, 50, 51, 52, 53, 54, 55, 56] (by decide +kernel) (by decide +kernel)
set_option maxRecDepth 20000 in
theorem gX5_holds_J0_charAt_5068e : GoodIn wsX5_holds (wsV RX5 30 RJ0 yJ0_charAt_5068e wsJ0_charAt_5068e) := goodIn_app (goodIn_of _ (by decide +kernel)) ggX5_holds_J0_charAt_5068e
theorem dX5_holds_0 : decode cX5_holds 0 = .ok (.iload_n 3, 1) := by decide +kernel
theorem dX5_holds_1 : decode cX5_holds 1 = .ok (.iload_n 2, 1) := by decide +kernel
theorem dX5_holds_2 : decode cX5_holds 2 = .ok (.isub, 1) := by decide +kernel
theorem dX5_holds_3 : decode cX5_holds 3 = .ok (.aload_n 1, 1) := by decide +kernel
theorem dX5_holds_4 : decode cX5_holds 4 = .ok (.invokevirtual 25, 3) := by decide +kernel
theorem dX5_holds_7 : decode cX5_holds 7 = .ok (.if_icmp .eq 5, 3) := by decide +kernel
theorem dX5_holds_10 : decode cX5_holds 10 = .ok (.iconst 0, 1) := by decide +kernel
theorem dX5_holds_11 : decode cX5_holds 11 = .ok (.ireturn, 1) := by decide +kernel
theorem dX5_holds_12 : decode cX5_holds 12 = .ok (.iconst 0, 1) := by decide +kernel
theorem dX5_holds_13 : decode cX5_holds 13 = .ok (.istore 4, 2) := by decide +kernel
theorem dX5_holds_15 : decode cX5_holds 15 = .ok (.iload 4, 2) := by decide +kernel
theorem dX5_holds_17 : decode cX5_holds 17 = .ok (.aload_n 1, 1) := by decide +kernel
theorem dX5_holds_18 : decode cX5_holds 18 = .ok (.invokevirtual 25, 3) := by decide +kernel
theorem dX5_holds_21 : decode cX5_holds 21 = .ok (.if_icmp .ge 28, 3) := by decide +kernel
theorem dX5_holds_24 : decode cX5_holds 24 = .ok (.aload_n 0, 1) := by decide +kernel
theorem dX5_holds_25 : decode cX5_holds 25 = .ok (.iload_n 2, 1) := by decide +kernel
theorem dX5_holds_26 : decode cX5_holds 26 = .ok (.iload 4, 2) := by decide +kernel
theorem dX5_holds_28 : decode cX5_holds 28 = .ok (.iadd, 1) := by decide +kernel
theorem dX5_holds_29 : decode cX5_holds 29 = .ok (.invokevirtual 21, 3) := by decide +kernel
theorem dX5_holds_32 : decode cX5_holds 32 = .ok (.aload_n 1, 1) := by decide +kernel
theorem dX5_holds_33 : decode cX5_holds 33 = .ok (.iload 4, 2) := by decide +kernel
theorem dX5_holds_35 : decode cX5_holds 35 = .ok (.invokevirtual 30, 3) := by decide +kernel
theorem dX5_holds_38 : decode cX5_holds 38 = .ok (.if_icmp .eq 5, 3) := by decide +kernel
theorem dX5_holds_41 : decode cX5_holds 41 = .ok (.iconst 0, 1) := by decide +kernel
theorem dX5_holds_42 : decode cX5_holds 42 = .ok (.ireturn, 1) := by decide +kernel
theorem dX5_holds_43 : decode cX5_holds 43 = .ok (.iinc 4 1, 3) := by decide +kernel
theorem dX5_holds_46 : decode cX5_holds 46 = .ok (.goto (-31), 3) := by decide +kernel
theorem dX5_holds_49 : decode cX5_holds 49 = .ok (.iconst 1, 1) := by decide +kernel
theorem dX5_holds_50 : decode cX5_holds 50 = .ok (.ireturn, 1) := by decide +kernel
theorem dX6_init_0 : decode cX6_init 0 = .ok (.aload_n 0, 1) := by decide +kernel
theorem dX6_init_1 : decode cX6_init 1 = .ok (.invokespecial 1, 3) := by decide +kernel
theorem dX6_init_4 : decode cX6_init 4 = .ok (.aload_n 0, 1) := by decide +kernel
theorem dX6_init_5 : decode cX6_init 5 = .ok (.bipush 40, 2) := by decide +kernel
theorem dX6_init_7 : decode cX6_init 7 = .ok (.newarray .int, 2) := by decide +kernel
theorem dX6_init_9 : decode cX6_init 9 = .ok (.putfield 9, 3) := by decide +kernel
theorem dX6_init_12 : decode cX6_init 12 = .ok (.aload_n 0, 1) := by decide +kernel
theorem dX6_init_13 : decode cX6_init 13 = .ok (.bipush 40, 2) := by decide +kernel
theorem dX6_init_15 : decode cX6_init 15 = .ok (.newarray .int, 2) := by decide +kernel
theorem dX6_init_17 : decode cX6_init 17 = .ok (.putfield 13, 3) := by decide +kernel
theorem dX6_init_20 : decode cX6_init 20 = .ok (.aload_n 0, 1) := by decide +kernel
theorem dX6_init_21 : decode cX6_init 21 = .ok (.bipush 40, 2) := by decide +kernel
theorem dX6_init_23 : decode cX6_init 23 = .ok (.newarray .int, 2) := by decide +kernel
theorem dX6_init_25 : decode cX6_init 25 = .ok (.putfield 16, 3) := by decide +kernel
theorem dX6_init_28 : decode cX6_init 28 = .ok (.return_, 1) := by decide +kernel
theorem dX6_copyFrom_0 : decode cX6_copyFrom 0 = .ok (.aload_n 0, 1) := by decide +kernel
theorem dX6_copyFrom_1 : decode cX6_copyFrom 1 = .ok (.aload_n 1, 1) := by decide +kernel
theorem dX6_copyFrom_2 : decode cX6_copyFrom 2 = .ok (.getfield 19, 3) := by decide +kernel
theorem dX6_copyFrom_5 : decode cX6_copyFrom 5 = .ok (.putfield 19, 3) := by decide +kernel
theorem dX6_copyFrom_8 : decode cX6_copyFrom 8 = .ok (.aload_n 0, 1) := by decide +kernel
theorem dX6_copyFrom_9 : decode cX6_copyFrom 9 = .ok (.aload_n 1, 1) := by decide +kernel
theorem dX6_copyFrom_10 : decode cX6_copyFrom 10 = .ok (.getfield 23, 3) := by decide +kernel
theorem dX6_copyFrom_13 : decode cX6_copyFrom 13 = .ok (.putfield 23, 3) := by decide +kernel
theorem dX6_copyFrom_16 : decode cX6_copyFrom 16 = .ok (.aload_n 1, 1) := by decide +kernel
theorem dX6_copyFrom_17 : decode cX6_copyFrom 17 = .ok (.getfield 9, 3) := by decide +kernel
theorem dX6_copyFrom_20 : decode cX6_copyFrom 20 = .ok (.iconst 0, 1) := by decide +kernel
theorem dX6_copyFrom_21 : decode cX6_copyFrom 21 = .ok (.aload_n 0, 1) := by decide +kernel
theorem dX6_copyFrom_22 : decode cX6_copyFrom 22 = .ok (.getfield 9, 3) := by decide +kernel
theorem dX6_copyFrom_25 : decode cX6_copyFrom 25 = .ok (.iconst 0, 1) := by decide +kernel
theorem dX6_copyFrom_26 : decode cX6_copyFrom 26 = .ok (.bipush 40, 2) := by decide +kernel
theorem dX6_copyFrom_28 : decode cX6_copyFrom 28 = .ok (.invokestatic 26, 3) := by decide +kernel
theorem dX6_copyFrom_31 : decode cX6_copyFrom 31 = .ok (.aload_n 1, 1) := by decide +kernel
theorem dX6_copyFrom_32 : decode cX6_copyFrom 32 = .ok (.getfield 13, 3) := by decide +kernel
theorem dX6_copyFrom_35 : decode cX6_copyFrom 35 = .ok (.iconst 0, 1) := by decide +kernel
theorem dX6_copyFrom_36 : decode cX6_copyFrom 36 = .ok (.aload_n 0, 1) := by decide +kernel
theorem dX6_copyFrom_37 : decode cX6_copyFrom 37 = .ok (.getfield 13, 3) := by decide +kernel
theorem dX6_copyFrom_40 : decode cX6_copyFrom 40 = .ok (.iconst 0, 1) := by decide +kernel
theorem dX6_copyFrom_41 : decode cX6_copyFrom 41 = .ok (.bipush 40, 2) := by decide +kernel
theorem dX6_copyFrom_43 : decode cX6_copyFrom 43 = .ok (.invokestatic 26, 3) := by decide +kernel
theorem dX6_copyFrom_46 : decode cX6_copyFrom 46 = .ok (.aload_n 1, 1) := by decide +kernel
theorem dX6_copyFrom_47 : decode cX6_copyFrom 47 = .ok (.getfield 16, 3) := by decide +kernel
theorem dX6_copyFrom_50 : decode cX6_copyFrom 50 = .ok (.iconst 0, 1) := by decide +kernel
theorem dX6_copyFrom_51 : decode cX6_copyFrom 51 = .ok (.aload_n 0, 1) := by decide +kernel
theorem dX6_copyFrom_52 : decode cX6_copyFrom 52 = .ok (.getfield 16, 3) := by decide +kernel
theorem dX6_copyFrom_55 : decode cX6_copyFrom 55 = .ok (.iconst 0, 1) := by decide +kernel
theorem dX6_copyFrom_56 : decode cX6_copyFrom 56 = .ok (.bipush 40, 2) := by decide +kernel
theorem dX6_copyFrom_58 : decode cX6_copyFrom 58 = .ok (.invokestatic 26, 3) := by decide +kernel
theorem dX6_copyFrom_61 : decode cX6_copyFrom 61 = .ok (.return_, 1) := by decide +kernel
theorem dX6_beginAnew_0 : decode cX6_beginAnew 0 = .ok (.aload_n 0, 1) := by decide +kernel
theorem dX6_beginAnew_1 : decode cX6_beginAnew 1 = .ok (.iconst 0, 1) := by decide +kernel
theorem dX6_beginAnew_2 : decode cX6_beginAnew 2 = .ok (.putfield 19, 3) := by decide +kernel
theorem dX6_beginAnew_5 : decode cX6_beginAnew 5 = .ok (.aload_n 0, 1) := by decide +kernel
theorem dX6_beginAnew_6 : decode cX6_beginAnew 6 = .ok (.iconst 0, 1) := by decide +kernel
theorem dX6_beginAnew_7 : decode cX6_beginAnew 7 = .ok (.putfield 23, 3) := by decide +kernel
theorem dX6_beginAnew_10 : decode cX6_beginAnew 10 = .ok (.return_, 1) := by decide +kernel
theorem dX6_sealIfFull_0 : decode cX6_sealIfFull 0 = .ok (.aload_n 0, 1) := by decide +kernel
theorem dX6_sealIfFull_1 : decode cX6_sealIfFull 1 = .ok (.getfield 23, 3) := by decide +kernel
theorem dX6_sealIfFull_4 : decode cX6_sealIfFull 4 = .ok (.iload_n 1, 1) := by decide +kernel
theorem dX6_sealIfFull_5 : decode cX6_sealIfFull 5 = .ok (.if_icmp .lt 12, 3) := by decide +kernel
theorem dX6_sealIfFull_8 : decode cX6_sealIfFull 8 = .ok (.aload_n 0, 1) := by decide +kernel
theorem dX6_sealIfFull_9 : decode cX6_sealIfFull 9 = .ok (.getfield 19, 3) := by decide +kernel
theorem dX6_sealIfFull_12 : decode cX6_sealIfFull 12 = .ok (.bipush 40, 2) := by decide +kernel
theorem dX6_sealIfFull_14 : decode cX6_sealIfFull 14 = .ok (.if_icmp .lt 4, 3) := by decide +kernel
theorem dX6_sealIfFull_17 : decode cX6_sealIfFull 17 = .ok (.return_, 1) := by decide +kernel
theorem dX6_sealIfFull_18 : decode cX6_sealIfFull 18 = .ok (.aload_n 0, 1) := by decide +kernel
theorem dX6_sealIfFull_19 : decode cX6_sealIfFull 19 = .ok (.getfield 9, 3) := by decide +kernel
theorem dX6_sealIfFull_22 : decode cX6_sealIfFull 22 = .ok (.aload_n 0, 1) := by decide +kernel
theorem dX6_sealIfFull_23 : decode cX6_sealIfFull 23 = .ok (.getfield 19, 3) := by decide +kernel
theorem dX6_sealIfFull_26 : decode cX6_sealIfFull 26 = .ok (.aload_n 0, 1) := by decide +kernel
theorem dX6_sealIfFull_27 : decode cX6_sealIfFull 27 = .ok (.getfield 23, 3) := by decide +kernel
theorem dX6_sealIfFull_30 : decode cX6_sealIfFull 30 = .ok (.iastore, 1) := by decide +kernel
theorem dX6_sealIfFull_31 : decode cX6_sealIfFull 31 = .ok (.aload_n 0, 1) := by decide +kernel
theorem dX6_sealIfFull_32 : decode cX6_sealIfFull 32 = .ok (.getfield 13, 3) := by decide +kernel
theorem dX6_sealIfFull_35 : decode cX6_sealIfFull 35 = .ok (.aload_n 0, 1) := by decide +kernel
theorem dX6_sealIfFull_36 : decode cX6_sealIfFull 36 = .ok (.getfield 19, 3) := by decide +kernel
theorem dX6_sealIfFull_39 : decode cX6_sealIfFull 39 = .ok (.iload_n 2, 1) := by decide +kernel
theorem dX6_sealIfFull_40 : decode cX6_sealIfFull 40 = .ok (.iastore, 1) := by decide +kernel
theorem dX6_sealIfFull_41 : decode cX6_sealIfFull 41 = .ok (.aload_n 0, 1) := by decide +kernel
theorem dX6_sealIfFull_42 : decode cX6_sealIfFull 42 = .ok (.getfield 16, 3) := by decide +kernel
theorem dX6_sealIfFull_45 : decode cX6_sealIfFull 45 = .ok (.aload_n 0, 1) := by decide +kernel
theorem dX6_sealIfFull_46 : decode cX6_sealIfFull 46 = .ok (.getfield 19, 3) := by decide +kernel
theorem dX6_sealIfFull_49 : decode cX6_sealIfFull 49 = .ok (.iload_n 3, 1) := by decide +kernel
theorem dX6_sealIfFull_50 : decode cX6_sealIfFull 50 = .ok (.iastore, 1) := by decide +kernel
theorem dX6_sealIfFull_51 : decode cX6_sealIfFull 51 = .ok (.aload_n 0, 1) := by decide +kernel
theorem dX6_sealIfFull_52 : decode cX6_sealIfFull 52 = .ok (.dup, 1) := by decide +kernel
theorem dX6_sealIfFull_53 : decode cX6_sealIfFull 53 = .ok (.getfield 19, 3) := by decide +kernel
theorem dX6_sealIfFull_56 : decode cX6_sealIfFull 56 = .ok (.iconst 1, 1) := by decide +kernel
theorem dX6_sealIfFull_57 : decode cX6_sealIfFull 57 = .ok (.iadd, 1) := by decide +kernel
theorem dX6_sealIfFull_58 : decode cX6_sealIfFull 58 = .ok (.putfield 19, 3) := by decide +kernel
theorem dX6_sealIfFull_61 : decode cX6_sealIfFull 61 = .ok (.aload_n 0, 1) := by decide +kernel
theorem dX6_sealIfFull_62 : decode cX6_sealIfFull 62 = .ok (.iconst 0, 1) := by decide +kernel
theorem dX6_sealIfFull_63 : decode cX6_sealIfFull 63 = .ok (.putfield 23, 3) := by decide +kernel
theorem dX6_sealIfFull_66 : decode cX6_sealIfFull 66 = .ok (.return_, 1) := by decide +kernel
theorem dX6_firstBeyond_0 : decode cX6_firstBeyond 0 = .ok (.iconst 0, 1) := by decide +kernel
theorem dX6_firstBeyond_1 : decode cX6_firstBeyond 1 = .ok (.istore_n 2, 1) := by decide +kernel
theorem dX6_firstBeyond_2 : decode cX6_firstBeyond 2 = .ok (.iload_n 2, 1) := by decide +kernel
theorem dX6_firstBeyond_3 : decode cX6_firstBeyond 3 = .ok (.aload_n 0, 1) := by decide +kernel
theorem dX6_firstBeyond_4 : decode cX6_firstBeyond 4 = .ok (.getfield 19, 3) := by decide +kernel
theorem dX6_firstBeyond_7 : decode cX6_firstBeyond 7 = .ok (.if_icmp .ge 19, 3) := by decide +kernel
theorem dX6_firstBeyond_10 : decode cX6_firstBeyond 10 = .ok (.aload_n 0, 1) := by decide +kernel
theorem dX6_firstBeyond_11 : decode cX6_firstBeyond 11 = .ok (.getfield 13, 3) := by decide +kernel
theorem dX6_firstBeyond_14 : decode cX6_firstBeyond 14 = .ok (.iload_n 2, 1) := by decide +kernel
theorem dX6_firstBeyond_15 : decode cX6_firstBeyond 15 = .ok (.iaload, 1) := by decide +kernel
theorem dX6_firstBeyond_16 : decode cX6_firstBeyond 16 = .ok (.iload_n 1, 1) := by decide +kernel
theorem dX6_firstBeyond_17 : decode cX6_firstBeyond 17 = .ok (.if_icmp .gt 9, 3) := by decide +kernel
theorem dX6_firstBeyond_20 : decode cX6_firstBeyond 20 = .ok (.iinc 2 1, 3) := by decide +kernel
theorem dX6_firstBeyond_23 : decode cX6_firstBeyond 23 = .ok (.goto (-21), 3) := by decide +kernel
theorem dX6_firstBeyond_26 : decode cX6_firstBeyond 26 = .ok (.iload_n 2, 1) := by decide +kernel
theorem dX6_firstBeyond_27 : decode cX6_firstBeyond 27 = .ok (.ireturn, 1) := by decide +kernel
set_option maxRecDepth 20000 in
theorem ggX7_init_X3_init : GoodIn wsX7_init wsX3_init := goodIn_r _ [23, 24, 2, 3, 25, 26, 27, 28, 29, 30, 31, 32, 33, 34, 35, 36, 37, 38, 39, 40, 41, 42, 43, 44, 45, 46, 47, 48, 49, 50, 51, 52, 53, 54, 55, 56, 57, 58, 59, 60, 61, 62, 63, 64, 65, 66, 116, 117, 118, 119, 120, 121, 122, 85, 86, 87, 88, 89, 90, 91, 92, 93, 94, 95, 96, 97, 98, 99, 123, 124, 125, 126, 127, 128, 129, 130, 131, 132] (by decide +kernel) (by decide +kernel)
set_option maxRecDepth 20000 in
theorem gX7_init_X3_init : GoodIn wsX7_init (wsX3_init) := ggX7_init_X3_init
set_option maxRecDepth 20000 in
theorem ggX7_init_X1_init : GoodIn wsX7_init wsX1_init := goodIn_r _ [69, 70, 2, 3, 71, 72, 5, 6, 73, 22, 23, 24, 25, 26, 27, 28, 29, 30, 31, 32, 33, 34, 35, 36, 37, 38, 39, 40, 41, 42, 43, 44, 45, 46, 47, 48, 49, 50, 51, 52, 53, 54, 55, 56, 57, 58, 59, 60, 61, 62, 63, 64, 65, 66, 105, 106, 107, 85, 86, 87, 88, 89, 90, 91, 92, 93, 94, 95, 96, 97, 98, 99, 116, 117, 118, 119, 120, 121, 122, 123, 124, 125, 126, 127, 128, 129, 130, 131, 132] (by decide +kernel) (by decide +kernel)
set_option maxRecDepth 20000 in
theorem gX7_init_X1_init : GoodIn wsX7_init (wsX1_init) := ggX7_init_X1_init
set_option maxRecDepth 20000 in
theorem ggX7_init_X5_init : GoodIn wsX7_init wsX5_init := goodIn_r _ [75, 76, 2, 3, 77, 78, 108, 109] (by decide +kernel) (by decide +kernel)
set_option maxRecDepth 20000 in
theorem gX7_init_X5_init_n28 : GoodIn wsX7_init (wsX5_init) := ggX7_init_X5_init
set_option maxRecDepth 20000 in
theorem ggX7_init_X4_init : GoodIn wsX7_init wsX4_init := goodIn_r _ [80, 81, 2, 3, 82, 26, 27, 83, 37, 84, 45, 46, 47, 48, 49, 50, 51, 52, 116, 117, 118, 119, 120, 121, 122, 110, 111, 112, 113, 114, 115] (by decide +kernel) (by decide +kernel)
set_option maxRecDepth 20000 in
theorem gX7_init_X4_init_n35 : GoodIn wsX7_init (wsX4_init) := ggX7_init_X4_init
theorem dX7_init_0 : decode cX7_init 0 = .ok (.aload_n 0, 1) := by decide +kernel
theorem dX7_init_1 : decode cX7_init 1 = .ok (.invokespecial 1, 3) := by decide +kernel
theorem dX7_init_4 : decode cX7_init 4 = .ok (.aload_n 0, 1) := by decide +kernel
theorem dX7_init_5 : decode cX7_init 5 = .ok (.new 7, 3) := by decide +kernel
theorem dX7_init_8 : decode cX7_init 8 = .ok (.dup, 1) := by decide +kernel
theorem dX7_init_9 : decode cX7_init 9 = .ok (.invokespecial 9, 3) := by decide +kernel
theorem dX7_init_12 : decode cX7_init 12 = .ok (.putfield 10, 3) := by decide +kernel
theorem dX7_init_15 : decode cX7_init 15 = .ok (.aload_n 0, 1) := by decide +kernel
theorem dX7_init_16 : decode cX7_init 16 = .ok (.new 7, 3) := by decide +kernel
theorem dX7_init_19 : decode cX7_init 19 = .ok (.dup, 1) := by decide +kernel
theorem dX7_init_20 : decode cX7_init 20 = .ok (.invokespecial 9, 3) := by decide +kernel
theorem dX7_init_23 : decode cX7_init 23 = .ok (.putfield 16, 3) := by decide +kernel
theorem dX7_init_26 : decode cX7_init 26 = .ok (.aload_n 0, 1) := by decide +kernel
theorem dX7_init_27 : decode cX7_init 27 = .ok (.new 19, 3) := by decide +kernel
theorem dX7_init_30 : decode cX7_init 30 = .ok (.dup, 1) := by decide +kernel
theorem dX7_init_31 : decode cX7_init 31 = .ok (.invokespecial 21, 3) := by decide +kernel
theorem dX7_init_34 : decode cX7_init 34 = .ok (.putfield 22, 3) := by decide +kernel
theorem dX7_init_37 : decode cX7_init 37 = .ok (.aload_n 0, 1) := by decide +kernel
theorem dX7_init_38 : decode cX7_init 38 = .ok (.new 26, 3) := by decide +kernel
theorem dX7_init_41 : decode cX7_init 41 = .ok (.dup, 1) := by decide +kernel
theorem dX7_init_42 : decode cX7_init 42 = .ok (.invokespecial 28, 3) := by decide +kernel
theorem dX7_init_45 : decode cX7_init 45 = .ok (.putfield 29, 3) := by decide +kernel
theorem dX7_init_48 : decode cX7_init 48 = .ok (.aload_n 0, 1) := by decide +kernel
theorem dX7_init_49 : decode cX7_init 49 = .ok (.new 33, 3) := by decide +kernel
theorem dX7_init_52 : decode cX7_init 52 = .ok (.dup, 1) := by decide +kernel
theorem dX7_init_53 : decode cX7_init 53 = .ok (.invokespecial 35, 3) := by decide +kernel
theorem dX7_init_56 : decode cX7_init 56 = .ok (.putfield 36, 3) := by decide +kernel
theorem dX7_init_59 : decode cX7_init 59 = .ok (.return_, 1) := by decide +kernel
set_option maxRecDepth 20000 in
theorem ggX7_addSegment_X0_firstWrong : GoodIn wsX7_addSegment wsX0_firstWrong := goodIn_r _ [8, 9, 10, 7, 11, 12, 13, 14, 15, 16, 17, 18, 19, 20] (by decide +kernel) (by decide +kernel)
set_option maxRecDepth 20000 in
theorem gX7_addSegment_X0_firstWrong : GoodIn wsX7_addSegment (va_wsS RX7 42 yX0_firstWrong wsX0_firstWrong) := goodIn_app (goodIn_of _ (by decide +kernel)) ggX7_addSegment_X0_firstWrong
set_option maxRecDepth 20000 in
theorem ggX7_addSegment_X0_isFull : GoodIn wsX7_addSegment wsX0_isFull := goodIn_r _ [24, 25, 116, 117, 118, 119, 120, 121, 122] (by decide +kernel) (by decide +kernel)
set_option maxRecDepth 20000 in
theorem gX7_addSegment_X0_isFull : GoodIn wsX7_addSegment (wsV RX7 50 RX0 yX0_isFull wsX0_isFull) := goodIn_app (goodIn_of _ (by decide +kernel)) ggX7_addSegment_X0_isFull
set_option maxRecDepth 20000 in
theorem ggX7_addSegment_X1_keep : GoodIn wsX7_addSegment wsX1_keep := goodIn_r _ [30, 31, 32, 33, 34, 35, 36, 37, 38, 39, 40, 41, 42, 43, 44, 45, 46, 47, 48, 49, 50, 51, 52, 53, 54, 55, 56, 57, 58, 59, 60, 7, 61, 25, 62, 63, 64, 65, 66, 67, 68, 69, 70, 71, 72, 73, 74, 75, 76, 77, 78, 79, 80, 81, 82, 83, 84, 85, 86, 87, 88, 89, 90, 123, 124, 125, 101, 102, 103, 104, 105, 106, 107, 108, 109, 110, 111, 112, 113, 114, 115, 116, 117, 118, 119, 120, 121, 122, 126, 127, 128, 129, 130, 131, 132, 133, 134, 135] (by decide +kernel) (by decide +kernel)
set_option maxRecDepth 20000 in
theorem gX7_addSegment_X1_keep : GoodIn wsX7_addSegment (wsV RX7 54 RX1 yX1_keep wsX1_keep) := goodIn_app (goodIn_of _ (by decide +kernel)) ggX7_addSegment_X1_keep
set_option maxRecDepth 20000 in
theorem ggX7_addSegment_X0_put : GoodIn wsX7_addSegment wsX0_put := goodIn_r _ [94, 63, 25, 65, 66, 67, 68, 62, 95, 22, 23, 7, 24, 116, 117, 118, 119, 120, 121, 122] (by decide +kernel) (by decide +kernel)
set_option maxRecDepth 20000 in
theorem gX7_addSegment_X0_put : GoodIn wsX7_addSegment (wsV RX7 58 RX0 yX0_put wsX0_put) := goodIn_app (goodIn_of _ (by decide +kernel)) ggX7_addSegment_X0_put
theorem dX7_addSegment_0 : decode cX7_addSegment 0 = .ok (.iload_n 1, 1) := by decide +kernel
theorem dX7_addSegment_1 : decode cX7_addSegment 1 = .ok (.ifCond .lt 19, 3) := by decide +kernel
theorem dX7_addSegment_4 : decode cX7_addSegment 4 = .ok (.iload_n 1, 1) := by decide +kernel
theorem dX7_addSegment_5 : decode cX7_addSegment 5 = .ok (.iconst 2, 1) := by decide +kernel
theorem dX7_addSegment_6 : decode cX7_addSegment 6 = .ok (.if_icmp .gt 14, 3) := by decide +kernel
theorem dX7_addSegment_9 : decode cX7_addSegment 9 = .ok (.iload_n 1, 1) := by decide +kernel
theorem dX7_addSegment_10 : decode cX7_addSegment 10 = .ok (.iload_n 2, 1) := by decide +kernel
theorem dX7_addSegment_11 : decode cX7_addSegment 11 = .ok (.iload_n 3, 1) := by decide +kernel
theorem dX7_addSegment_12 : decode cX7_addSegment 12 = .ok (.iload 4, 2) := by decide +kernel
theorem dX7_addSegment_14 : decode cX7_addSegment 14 = .ok (.invokestatic 42, 3) := by decide +kernel
theorem dX7_addSegment_17 : decode cX7_addSegment 17 = .ok (.ifCond .eq 5, 3) := by decide +kernel
theorem dX7_addSegment_20 : decode cX7_addSegment 20 = .ok (.iconst (-1), 1) := by decide +kernel
theorem dX7_addSegment_21 : decode cX7_addSegment 21 = .ok (.ireturn, 1) := by decide +kernel
theorem dX7_addSegment_22 : decode cX7_addSegment 22 = .ok (.aload_n 0, 1) := by decide +kernel
theorem dX7_addSegment_23 : decode cX7_addSegment 23 = .ok (.getfield 10, 3) := by decide +kernel
theorem dX7_addSegment_26 : decode cX7_addSegment 26 = .ok (.getfield 46, 3) := by decide +kernel
theorem dX7_addSegment_29 : decode cX7_addSegment 29 = .ok (.invokevirtual 50, 3) := by decide +kernel
theorem dX7_addSegment_32 : decode cX7_addSegment 32 = .ok (.ifCond .eq 6, 3) := by decide +kernel
theorem dX7_addSegment_35 : decode cX7_addSegment 35 = .ok (.bipush (-3), 2) := by decide +kernel
theorem dX7_addSegment_37 : decode cX7_addSegment 37 = .ok (.ireturn, 1) := by decide +kernel
theorem dX7_addSegment_38 : decode cX7_addSegment 38 = .ok (.aload_n 0, 1) := by decide +kernel
theorem dX7_addSegment_39 : decode cX7_addSegment 39 = .ok (.getfield 22, 3) := by decide +kernel
theorem dX7_addSegment_42 : decode cX7_addSegment 42 = .ok (.aload_n 0, 1) := by decide +kernel
theorem dX7_addSegment_43 : decode cX7_addSegment 43 = .ok (.getfield 10, 3) := by decide +kernel
theorem dX7_addSegment_46 : decode cX7_addSegment 46 = .ok (.invokevirtual 54, 3) := by decide +kernel
theorem dX7_addSegment_49 : decode cX7_addSegment 49 = .ok (.aload_n 0, 1) := by decide +kernel
theorem dX7_addSegment_50 : decode cX7_addSegment 50 = .ok (.getfield 10, 3) := by decide +kernel
theorem dX7_addSegment_53 : decode cX7_addSegment 53 = .ok (.getfield 46, 3) := by decide +kernel
theorem dX7_addSegment_56 : decode cX7_addSegment 56 = .ok (.iload_n 1, 1) := by decide +kernel
theorem dX7_addSegment_57 : decode cX7_addSegment 57 = .ok (.iload_n 2, 1) := by decide +kernel
theorem dX7_addSegment_58 : decode cX7_addSegment 58 = .ok (.iload_n 3, 1) := by decide +kernel
theorem dX7_addSegment_59 : decode cX7_addSegment 59 = .ok (.iload 4, 2) := by decide +kernel
theorem dX7_addSegment_61 : decode cX7_addSegment 61 = .ok (.invokevirtual 58, 3) := by decide +kernel
theorem dX7_addSegment_64 : decode cX7_addSegment 64 = .ok (.aload_n 0, 1) := by decide +kernel
theorem dX7_addSegment_65 : decode cX7_addSegment 65 = .ok (.getfield 10, 3) := by decide +kernel
theorem dX7_addSegment_68 : decode cX7_addSegment 68 = .ok (.getfield 46, 3) := by decide +kernel
theorem dX7_addSegment_71 : decode cX7_addSegment 71 = .ok (.getfield 62, 3) := by decide +kernel
theorem dX7_addSegment_74 : decode cX7_addSegment 74 = .ok (.iconst 1, 1) := by decide +kernel
theorem dX7_addSegment_75 : decode cX7_addSegment 75 = .ok (.isub, 1) := by decide +kernel
theorem dX7_addSegment_76 : decode cX7_addSegment 76 = .ok (.ireturn, 1) := by decide +kernel
set_option maxRecDepth 20000 in
theorem ggX7_segment_X0_partBelow : GoodIn wsX7_segment wsX0_partBelow := goodIn_r _ [14, 15, 16, 17, 18, 19, 20, 21, 22, 23, 44, 45, 46, 47, 48, 49, 50] (by decide +kernel) (by decide +kernel)
set_option maxRecDepth 20000 in
theorem gX7_segment_X0_partBelow : GoodIn wsX7_segment (wsV RX7 85 RX0 yX0_partBelow wsX0_partBelow) := goodIn_app (goodIn_of _ (by decide +kernel)) ggX7_segment_X0_partBelow
theorem dX7_segment_0 : decode cX7_segment 0 = .ok (.iload_n 1, 1) := by decide +kernel
theorem dX7_segment_1 : decode cX7_segment 1 = .ok (.ifCond .lt 17, 3) := by decide +kernel
theorem dX7_segment_4 : decode cX7_segment 4 = .ok (.iload_n 1, 1) := by decide +kernel
theorem dX7_segment_5 : decode cX7_segment 5 = .ok (.aload_n 0, 1) := by decide +kernel
theorem dX7_segment_6 : decode cX7_segment 6 = .ok (.getfield 10, 3) := by decide +kernel
theorem dX7_segment_9 : decode cX7_segment 9 = .ok (.getfield 46, 3) := by decide +kernel
theorem dX7_segment_12 : decode cX7_segment 12 = .ok (.getfield 62, 3) := by decide +kernel
theorem dX7_segment_15 : decode cX7_segment 15 = .ok (.if_icmp .lt 5, 3) := by decide +kernel
theorem dX7_segment_18 : decode cX7_segment 18 = .ok (.iconst (-1), 1) := by decide +kernel
theorem dX7_segment_19 : decode cX7_segment 19 = .ok (.ireturn, 1) := by decide +kernel
theorem dX7_segment_20 : decode cX7_segment 20 = .ok (.iload_n 2, 1) := by decide +kernel
theorem dX7_segment_21 : decode cX7_segment 21 = .ok (.tableswitch 123 0 5 #[39, 52, 65, 78, 91, 104], 39) := by decide +kernel
theorem dX7_segment_60 : decode cX7_segment 60 = .ok (.aload_n 0, 1) := by decide +kernel
theorem dX7_segment_61 : decode cX7_segment 61 = .ok (.getfield 10, 3) := by decide +kernel
theorem dX7_segment_64 : decode cX7_segment 64 = .ok (.getfield 46, 3) := by decide +kernel
theorem dX7_segment_67 : decode cX7_segment 67 = .ok (.getfield 66, 3) := by decide +kernel
theorem dX7_segment_70 : decode cX7_segment 70 = .ok (.iload_n 1, 1) := by decide +kernel
theorem dX7_segment_71 : decode cX7_segment 71 = .ok (.iaload, 1) := by decide +kernel
theorem dX7_segment_72 : decode cX7_segment 72 = .ok (.ireturn, 1) := by decide +kernel
theorem dX7_segment_73 : decode cX7_segment 73 = .ok (.aload_n 0, 1) := by decide +kernel
theorem dX7_segment_74 : decode cX7_segment 74 = .ok (.getfield 10, 3) := by decide +kernel
theorem dX7_segment_77 : decode cX7_segment 77 = .ok (.getfield 46, 3) := by decide +kernel
theorem dX7_segment_80 : decode cX7_segment 80 = .ok (.getfield 70, 3) := by decide +kernel
theorem dX7_segment_83 : decode cX7_segment 83 = .ok (.iload_n 1, 1) := by decide +kernel
theorem dX7_segment_84 : decode cX7_segment 84 = .ok (.iaload, 1) := by decide +kernel
theorem dX7_segment_85 : decode cX7_segment 85 = .ok (.ireturn, 1) := by decide +kernel
theorem dX7_segment_86 : decode cX7_segment 86 = .ok (.aload_n 0, 1) := by decide +kernel
theorem dX7_segment_87 : decode cX7_segment 87 = .ok (.getfield 10, 3) := by decide +kernel
theorem dX7_segment_90 : decode cX7_segment 90 = .ok (.getfield 46, 3) := by decide +kernel
theorem dX7_segment_93 : decode cX7_segment 93 = .ok (.getfield 73, 3) := by decide +kernel
theorem dX7_segment_96 : decode cX7_segment 96 = .ok (.iload_n 1, 1) := by decide +kernel
theorem dX7_segment_97 : decode cX7_segment 97 = .ok (.iaload, 1) := by decide +kernel
theorem dX7_segment_98 : decode cX7_segment 98 = .ok (.ireturn, 1) := by decide +kernel
theorem dX7_segment_99 : decode cX7_segment 99 = .ok (.aload_n 0, 1) := by decide +kernel
theorem dX7_segment_100 : decode cX7_segment 100 = .ok (.getfield 10, 3) := by decide +kernel
theorem dX7_segment_103 : decode cX7_segment 103 = .ok (.getfield 46, 3) := by decide +kernel
theorem dX7_segment_106 : decode cX7_segment 106 = .ok (.getfield 76, 3) := by decide +kernel
theorem dX7_segment_109 : decode cX7_segment 109 = .ok (.iload_n 1, 1) := by decide +kernel
theorem dX7_segment_110 : decode cX7_segment 110 = .ok (.iaload, 1) := by decide +kernel
theorem dX7_segment_111 : decode cX7_segment 111 = .ok (.ireturn, 1) := by decide +kernel
theorem dX7_segment_112 : decode cX7_segment 112 = .ok (.aload_n 0, 1) := by decide +kernel
theorem dX7_segment_113 : decode cX7_segment 113 = .ok (.getfield 10, 3) := by decide +kernel
theorem dX7_segment_116 : decode cX7_segment 116 = .ok (.getfield 46, 3) := by decide +kernel
theorem dX7_segment_119 : decode cX7_segment 119 = .ok (.getfield 79, 3) := by decide +kernel
theorem dX7_segment_122 : decode cX7_segment 122 = .ok (.iload_n 1, 1) := by decide +kernel
theorem dX7_segment_123 : decode cX7_segment 123 = .ok (.iaload, 1) := by decide +kernel
theorem dX7_segment_124 : decode cX7_segment 124 = .ok (.ireturn, 1) := by decide +kernel
theorem dX7_segment_125 : decode cX7_segment 125 = .ok (.aload_n 0, 1) := by decide +kernel
theorem dX7_segment_126 : decode cX7_segment 126 = .ok (.getfield 10, 3) := by decide +kernel
theorem dX7_segment_129 : decode cX7_segment 129 = .ok (.getfield 46, 3) := by decide +kernel
theorem dX7_segment_132 : decode cX7_segment 132 = .ok (.aload_n 0, 1) := by decide +kernel
theorem dX7_segment_133 : decode cX7_segment 133 = .ok (.getfield 10, 3) := by decide +kernel
theorem dX7_segment_136 : decode cX7_segment 136 = .ok (.getfield 82, 3) := by decide +kernel
theorem dX7_segment_139 : decode cX7_segment 139 = .ok (.iload_n 1, 1) := by decide +kernel
theorem dX7_segment_140 : decode cX7_segment 140 = .ok (.invokevirtual 85, 3) := by decide +kernel
theorem dX7_segment_143 : decode cX7_segment 143 = .ok (.ireturn, 1) := by decide +kernel
theorem dX7_segment_144 : decode cX7_segment 144 = .ok (.iconst (-1), 1) := by decide +kernel
theorem dX7_segment_145 : decode cX7_segment 145 = .ok (.ireturn, 1) := by decide +kernel
set_option maxRecDepth 20000 in
theorem ggX7_segmentAt_X0_holding : GoodIn wsX7_segmentAt wsX0_holding := goodIn_r _ [8, 9, 10, 11, 12, 7, 13, 14, 15, 36, 37, 38, 39, 40, 41, 42] (by decide +kernel) (by decide +kernel)
set_option maxRecDepth 20000 in
theorem gX7_segmentAt_X0_holding : GoodIn wsX7_segmentAt (wsV RX7 92 RX0 yX0_holding wsX0_holding) := goodIn_app (goodIn_of _ (by decide +kernel)) ggX7_segmentAt_X0_holding
theorem dX7_segmentAt_0 : decode cX7_segmentAt 0 = .ok (.iload_n 1, 1) := by decide +kernel
theorem dX7_segmentAt_1 : decode cX7_segmentAt 1 = .ok (.ifCond .ge 5, 3) := by decide +kernel
theorem dX7_segmentAt_4 : decode cX7_segmentAt 4 = .ok (.iconst (-1), 1) := by decide +kernel
theorem dX7_segmentAt_5 : decode cX7_segmentAt 5 = .ok (.ireturn, 1) := by decide +kernel
theorem dX7_segmentAt_6 : decode cX7_segmentAt 6 = .ok (.iload_n 1, 1) := by decide +kernel
theorem dX7_segmentAt_7 : decode cX7_segmentAt 7 = .ok (.aload_n 0, 1) := by decide +kernel
theorem dX7_segmentAt_8 : decode cX7_segmentAt 8 = .ok (.getfield 10, 3) := by decide +kernel
theorem dX7_segmentAt_11 : decode cX7_segmentAt 11 = .ok (.getfield 46, 3) := by decide +kernel
theorem dX7_segmentAt_14 : decode cX7_segmentAt 14 = .ok (.getfield 89, 3) := by decide +kernel
theorem dX7_segmentAt_17 : decode cX7_segmentAt 17 = .ok (.if_icmp .lt 6, 3) := by decide +kernel
theorem dX7_segmentAt_20 : decode cX7_segmentAt 20 = .ok (.bipush (-4), 2) := by decide +kernel
theorem dX7_segmentAt_22 : decode cX7_segmentAt 22 = .ok (.ireturn, 1) := by decide +kernel
theorem dX7_segmentAt_23 : decode cX7_segmentAt 23 = .ok (.aload_n 0, 1) := by decide +kernel
theorem dX7_segmentAt_24 : decode cX7_segmentAt 24 = .ok (.getfield 10, 3) := by decide +kernel
theorem dX7_segmentAt_27 : decode cX7_segmentAt 27 = .ok (.getfield 46, 3) := by decide +kernel
theorem dX7_segmentAt_30 : decode cX7_segmentAt 30 = .ok (.iload_n 1, 1) := by decide +kernel
theorem dX7_segmentAt_31 : decode cX7_segmentAt 31 = .ok (.invokevirtual 92, 3) := by decide +kernel
theorem dX7_segmentAt_34 : decode cX7_segmentAt 34 = .ok (.ireturn, 1) := by decide +kernel
set_option maxRecDepth 20000 in
theorem ggX7_waterBelow_X0_waterUpTo : GoodIn wsX7_waterBelow wsX0_waterUpTo := goodIn_r _ [8, 9, 10, 11, 12, 13, 7, 14, 15, 16, 17, 18, 19, 20, 21, 22, 23, 44, 45, 46, 47, 48, 49, 50] (by decide +kernel) (by decide +kernel)
set_option maxRecDepth 20000 in
theorem gX7_waterBelow_X0_waterUpTo : GoodIn wsX7_waterBelow (wsV RX7 96 RX0 yX0_waterUpTo wsX0_waterUpTo) := goodIn_app (goodIn_of _ (by decide +kernel)) ggX7_waterBelow_X0_waterUpTo
theorem dX7_waterBelow_0 : decode cX7_waterBelow 0 = .ok (.iload_n 1, 1) := by decide +kernel
theorem dX7_waterBelow_1 : decode cX7_waterBelow 1 = .ok (.ifCond .lt 17, 3) := by decide +kernel
theorem dX7_waterBelow_4 : decode cX7_waterBelow 4 = .ok (.iload_n 1, 1) := by decide +kernel
theorem dX7_waterBelow_5 : decode cX7_waterBelow 5 = .ok (.aload_n 0, 1) := by decide +kernel
theorem dX7_waterBelow_6 : decode cX7_waterBelow 6 = .ok (.getfield 10, 3) := by decide +kernel
theorem dX7_waterBelow_9 : decode cX7_waterBelow 9 = .ok (.getfield 46, 3) := by decide +kernel
theorem dX7_waterBelow_12 : decode cX7_waterBelow 12 = .ok (.getfield 89, 3) := by decide +kernel
theorem dX7_waterBelow_15 : decode cX7_waterBelow 15 = .ok (.if_icmp .le 5, 3) := by decide +kernel
theorem dX7_waterBelow_18 : decode cX7_waterBelow 18 = .ok (.iconst (-1), 1) := by decide +kernel
theorem dX7_waterBelow_19 : decode cX7_waterBelow 19 = .ok (.ireturn, 1) := by decide +kernel
theorem dX7_waterBelow_20 : decode cX7_waterBelow 20 = .ok (.aload_n 0, 1) := by decide +kernel
theorem dX7_waterBelow_21 : decode cX7_waterBelow 21 = .ok (.getfield 10, 3) := by decide +kernel
theorem dX7_waterBelow_24 : decode cX7_waterBelow 24 = .ok (.getfield 46, 3) := by decide +kernel
theorem dX7_waterBelow_27 : decode cX7_waterBelow 27 = .ok (.iload_n 1, 1) := by decide +kernel
theorem dX7_waterBelow_28 : decode cX7_waterBelow 28 = .ok (.invokevirtual 96, 3) := by decide +kernel
theorem dX7_waterBelow_31 : decode cX7_waterBelow 31 = .ok (.ireturn, 1) := by decide +kernel
set_option maxRecDepth 20000 in
theorem ggX7_renew_X1_keep : GoodIn wsX7_renew wsX1_keep := goodIn_r _ [8, 9, 10, 11, 12, 13, 14, 15, 16, 17, 18, 19, 20, 21, 22, 23, 24, 25, 26, 27, 28, 29, 30, 31, 32, 33, 34, 35, 36, 37, 38, 39, 40, 41, 42, 43, 44, 45, 46, 47, 48, 49, 50, 51, 52, 53, 54, 55, 56, 57, 58, 59, 60, 61, 62, 63, 64, 65, 66, 67, 68, 69, 70, 108, 109, 110, 93, 94, 95, 96, 97, 98, 99, 100, 101, 102, 103, 104, 105, 106, 107, 111, 112, 113, 114, 115, 116, 117, 118, 119, 120, 121, 122, 123, 124, 125, 126, 127] (by decide +kernel) (by decide +kernel)
set_option maxRecDepth 20000 in
theorem gX7_renew_X1_keep : GoodIn wsX7_renew (wsV RX7 54 RX1 yX1_keep wsX1_keep) := goodIn_app (goodIn_of _ (by decide +kernel)) ggX7_renew_X1_keep
set_option maxRecDepth 20000 in
theorem ggX7_renew_X3_beginAnew : GoodIn wsX7_renew wsX3_beginAnew := goodIn_r _ [74, 18, 19, 25, 26, 27, 28, 29, 30, 31, 32, 33, 34, 35, 75, 76, 77, 52, 78, 54, 56, 57, 58, 59, 79, 80, 81, 82, 83, 84, 85, 63, 86, 65, 66, 87, 93, 94, 95, 96, 97, 98, 99, 100, 101, 102, 103, 104, 105, 106, 107, 118, 119, 120, 121, 122, 123, 124, 125, 126, 127] (by decide +kernel) (by decide +kernel)
set_option maxRecDepth 20000 in
theorem gX7_renew_X3_beginAnew : GoodIn wsX7_renew (wsV RX7 99 RX3 yX3_beginAnew wsX3_beginAnew) := goodIn_app (goodIn_of _ (by decide +kernel)) ggX7_renew_X3_beginAnew
theorem dX7_renew_0 : decode cX7_renew 0 = .ok (.aload_n 0, 1) := by decide +kernel
theorem dX7_renew_1 : decode cX7_renew 1 = .ok (.getfield 10, 3) := by decide +kernel
theorem dX7_renew_4 : decode cX7_renew 4 = .ok (.getfield 82, 3) := by decide +kernel
theorem dX7_renew_7 : decode cX7_renew 7 = .ok (.istore_n 1, 1) := by decide +kernel
theorem dX7_renew_8 : decode cX7_renew 8 = .ok (.aload_n 0, 1) := by decide +kernel
theorem dX7_renew_9 : decode cX7_renew 9 = .ok (.getfield 22, 3) := by decide +kernel
theorem dX7_renew_12 : decode cX7_renew 12 = .ok (.aload_n 0, 1) := by decide +kernel
theorem dX7_renew_13 : decode cX7_renew 13 = .ok (.getfield 10, 3) := by decide +kernel
theorem dX7_renew_16 : decode cX7_renew 16 = .ok (.invokevirtual 54, 3) := by decide +kernel
theorem dX7_renew_19 : decode cX7_renew 19 = .ok (.aload_n 0, 1) := by decide +kernel
theorem dX7_renew_20 : decode cX7_renew 20 = .ok (.getfield 10, 3) := by decide +kernel
theorem dX7_renew_23 : decode cX7_renew 23 = .ok (.invokevirtual 99, 3) := by decide +kernel
theorem dX7_renew_26 : decode cX7_renew 26 = .ok (.iload_n 1, 1) := by decide +kernel
theorem dX7_renew_27 : decode cX7_renew 27 = .ok (.ireturn, 1) := by decide +kernel
set_option maxRecDepth 20000 in
theorem ggX7_undo_X1_giveBack : GoodIn wsX7_undo wsX1_giveBack := goodIn_r _ [8, 9, 10, 11, 12, 13, 14, 15, 16, 17, 18, 19, 20, 21, 22, 23, 24, 25, 26, 27, 28, 29, 30, 31, 32, 33, 34, 35, 36, 37, 38, 39, 40, 41, 42, 43, 44, 45, 46, 47, 48, 49, 50, 51, 52, 53, 54, 55, 56, 57, 58, 59, 60, 61, 62, 63, 64, 65, 66, 67, 68, 69, 70, 76, 77, 78, 79, 80, 81, 82, 83, 84, 85, 86, 87, 88, 89, 90, 91, 92, 93, 94, 95, 96, 97, 98, 99, 100, 101, 102, 103, 104, 105, 106, 107, 108, 109, 110] (by decide +kernel) (by decide +kernel)
set_option maxRecDepth 20000 in
theorem gX7_undo_X1_giveBack : GoodIn wsX7_undo (wsV RX7 103 RX1 yX1_giveBack wsX1_giveBack) := goodIn_app (goodIn_of _ (by decide +kernel)) ggX7_undo_X1_giveBack
theorem dX7_undo_0 : decode cX7_undo 0 = .ok (.aload_n 0, 1) := by decide +kernel
theorem dX7_undo_1 : decode cX7_undo 1 = .ok (.getfield 22, 3) := by decide +kernel
theorem dX7_undo_4 : decode cX7_undo 4 = .ok (.getfield 102, 3) := by decide +kernel
theorem dX7_undo_7 : decode cX7_undo 7 = .ok (.ifCond .gt 6, 3) := by decide +kernel
theorem dX7_undo_10 : decode cX7_undo 10 = .ok (.bipush (-2), 2) := by decide +kernel
theorem dX7_undo_12 : decode cX7_undo 12 = .ok (.ireturn, 1) := by decide +kernel
theorem dX7_undo_13 : decode cX7_undo 13 = .ok (.aload_n 0, 1) := by decide +kernel
theorem dX7_undo_14 : decode cX7_undo 14 = .ok (.getfield 22, 3) := by decide +kernel
theorem dX7_undo_17 : decode cX7_undo 17 = .ok (.aload_n 0, 1) := by decide +kernel
theorem dX7_undo_18 : decode cX7_undo 18 = .ok (.getfield 10, 3) := by decide +kernel
theorem dX7_undo_21 : decode cX7_undo 21 = .ok (.invokevirtual 103, 3) := by decide +kernel
theorem dX7_undo_24 : decode cX7_undo 24 = .ok (.aload_n 0, 1) := by decide +kernel
theorem dX7_undo_25 : decode cX7_undo 25 = .ok (.getfield 22, 3) := by decide +kernel
theorem dX7_undo_28 : decode cX7_undo 28 = .ok (.getfield 102, 3) := by decide +kernel
theorem dX7_undo_31 : decode cX7_undo 31 = .ok (.ireturn, 1) := by decide +kernel
set_option maxRecDepth 20000 in
theorem ggX7_set_X1_keep : GoodIn wsX7_set wsX1_keep := goodIn_r _ [10, 11, 12, 13, 14, 15, 16, 17, 18, 19, 20, 21, 22, 23, 24, 25, 26, 27, 28, 29, 30, 31, 32, 33, 34, 35, 36, 37, 38, 39, 40, 41, 42, 43, 44, 45, 46, 47, 48, 49, 50, 51, 52, 53, 54, 55, 56, 57, 58, 59, 60, 61, 62, 63, 64, 65, 66, 67, 68, 69, 70, 71, 72, 93, 94, 95, 78, 79, 80, 81, 82, 83, 84, 85, 86, 87, 88, 89, 90, 91, 92, 96, 97, 98, 99, 100, 101, 102, 103, 104, 105, 106, 107, 108, 109, 110, 111, 112] (by decide +kernel) (by decide +kernel)
set_option maxRecDepth 20000 in
theorem gX7_set_X1_keep : GoodIn wsX7_set (wsV RX7 54 RX1 yX1_keep wsX1_keep) := goodIn_app (goodIn_of _ (by decide +kernel)) ggX7_set_X1_keep
theorem dX7_set_0 : decode cX7_set 0 = .ok (.iload_n 1, 1) := by decide +kernel
theorem dX7_set_1 : decode cX7_set 1 = .ok (.ifCond .lt 27, 3) := by decide +kernel
theorem dX7_set_4 : decode cX7_set 4 = .ok (.iload_n 1, 1) := by decide +kernel
theorem dX7_set_5 : decode cX7_set 5 = .ok (.bipush 8, 2) := by decide +kernel
theorem dX7_set_7 : decode cX7_set 7 = .ok (.if_icmp .ge 21, 3) := by decide +kernel
theorem dX7_set_10 : decode cX7_set 10 = .ok (.iload_n 2, 1) := by decide +kernel
theorem dX7_set_11 : decode cX7_set 11 = .ok (.getstatic 106, 3) := by decide +kernel
theorem dX7_set_14 : decode cX7_set 14 = .ok (.iload_n 1, 1) := by decide +kernel
theorem dX7_set_15 : decode cX7_set 15 = .ok (.iaload, 1) := by decide +kernel
theorem dX7_set_16 : decode cX7_set 16 = .ok (.if_icmp .lt 12, 3) := by decide +kernel
theorem dX7_set_19 : decode cX7_set 19 = .ok (.iload_n 2, 1) := by decide +kernel
theorem dX7_set_20 : decode cX7_set 20 = .ok (.getstatic 109, 3) := by decide +kernel
theorem dX7_set_23 : decode cX7_set 23 = .ok (.iload_n 1, 1) := by decide +kernel
theorem dX7_set_24 : decode cX7_set 24 = .ok (.iaload, 1) := by decide +kernel
theorem dX7_set_25 : decode cX7_set 25 = .ok (.if_icmp .le 5, 3) := by decide +kernel
theorem dX7_set_28 : decode cX7_set 28 = .ok (.iconst (-1), 1) := by decide +kernel
theorem dX7_set_29 : decode cX7_set 29 = .ok (.ireturn, 1) := by decide +kernel
theorem dX7_set_30 : decode cX7_set 30 = .ok (.aload_n 0, 1) := by decide +kernel
theorem dX7_set_31 : decode cX7_set 31 = .ok (.getfield 10, 3) := by decide +kernel
theorem dX7_set_34 : decode cX7_set 34 = .ok (.getfield 112, 3) := by decide +kernel
theorem dX7_set_37 : decode cX7_set 37 = .ok (.iload_n 1, 1) := by decide +kernel
theorem dX7_set_38 : decode cX7_set 38 = .ok (.iaload, 1) := by decide +kernel
theorem dX7_set_39 : decode cX7_set 39 = .ok (.istore_n 3, 1) := by decide +kernel
theorem dX7_set_40 : decode cX7_set 40 = .ok (.aload_n 0, 1) := by decide +kernel
theorem dX7_set_41 : decode cX7_set 41 = .ok (.getfield 22, 3) := by decide +kernel
theorem dX7_set_44 : decode cX7_set 44 = .ok (.aload_n 0, 1) := by decide +kernel
theorem dX7_set_45 : decode cX7_set 45 = .ok (.getfield 10, 3) := by decide +kernel
theorem dX7_set_48 : decode cX7_set 48 = .ok (.invokevirtual 54, 3) := by decide +kernel
theorem dX7_set_51 : decode cX7_set 51 = .ok (.aload_n 0, 1) := by decide +kernel
theorem dX7_set_52 : decode cX7_set 52 = .ok (.getfield 10, 3) := by decide +kernel
theorem dX7_set_55 : decode cX7_set 55 = .ok (.getfield 112, 3) := by decide +kernel
theorem dX7_set_58 : decode cX7_set 58 = .ok (.iload_n 1, 1) := by decide +kernel
theorem dX7_set_59 : decode cX7_set 59 = .ok (.iload_n 2, 1) := by decide +kernel
theorem dX7_set_60 : decode cX7_set 60 = .ok (.iastore, 1) := by decide +kernel
theorem dX7_set_61 : decode cX7_set 61 = .ok (.iload_n 3, 1) := by decide +kernel
theorem dX7_set_62 : decode cX7_set 62 = .ok (.ireturn, 1) := by decide +kernel
set_option maxRecDepth 20000 in
theorem ggX7_clean_X1_keep : GoodIn wsX7_clean wsX1_keep := goodIn_r _ [10, 11, 12, 13, 14, 15, 16, 17, 18, 19, 20, 21, 22, 23, 24, 25, 26, 27, 28, 29, 30, 31, 32, 33, 34, 35, 36, 37, 38, 39, 40, 41, 42, 43, 44, 45, 46, 47, 48, 49, 50, 51, 52, 53, 54, 55, 56, 57, 58, 59, 60, 61, 62, 63, 64, 65, 66, 67, 68, 69, 70, 71, 72, 102, 103, 104, 82, 83, 84, 85, 86, 87, 88, 89, 90, 91, 92, 93, 94, 95, 96, 105, 106, 107, 108, 109, 110, 111, 97, 98, 99, 100, 101, 112, 113, 114, 115, 116] (by decide +kernel) (by decide +kernel)
set_option maxRecDepth 20000 in
theorem gX7_clean_X1_keep : GoodIn wsX7_clean (wsV RX7 54 RX1 yX1_keep wsX1_keep) := goodIn_app (goodIn_of _ (by decide +kernel)) ggX7_clean_X1_keep
set_option maxRecDepth 20000 in
theorem ggX7_clean_X2_open : GoodIn wsX7_clean wsX2_open := goodIn_r _ [76, 56, 58, 59, 97, 98, 99, 100, 101] (by decide +kernel) (by decide +kernel)
set_option maxRecDepth 20000 in
theorem gX7_clean_X2_open : GoodIn wsX7_clean (wsV RX7 127 RX2 yX2_open wsX2_open) := goodIn_app (goodIn_of _ (by decide +kernel)) ggX7_clean_X2_open
theorem dX7_clean_0 : decode cX7_clean 0 = .ok (.iload_n 1, 1) := by decide +kernel
theorem dX7_clean_1 : decode cX7_clean 1 = .ok (.ifCond .lt 8, 3) := by decide +kernel
theorem dX7_clean_4 : decode cX7_clean 4 = .ok (.iload_n 1, 1) := by decide +kernel
theorem dX7_clean_5 : decode cX7_clean 5 = .ok (.iconst 4, 1) := by decide +kernel
theorem dX7_clean_6 : decode cX7_clean 6 = .ok (.if_icmp .lt 5, 3) := by decide +kernel
theorem dX7_clean_9 : decode cX7_clean 9 = .ok (.iconst (-1), 1) := by decide +kernel
theorem dX7_clean_10 : decode cX7_clean 10 = .ok (.ireturn, 1) := by decide +kernel
theorem dX7_clean_11 : decode cX7_clean 11 = .ok (.aload_n 0, 1) := by decide +kernel
theorem dX7_clean_12 : decode cX7_clean 12 = .ok (.getfield 10, 3) := by decide +kernel
theorem dX7_clean_15 : decode cX7_clean 15 = .ok (.getfield 117, 3) := by decide +kernel
theorem dX7_clean_18 : decode cX7_clean 18 = .ok (.getfield 121, 3) := by decide +kernel
theorem dX7_clean_21 : decode cX7_clean 21 = .ok (.iload_n 1, 1) := by decide +kernel
theorem dX7_clean_22 : decode cX7_clean 22 = .ok (.iaload, 1) := by decide +kernel
theorem dX7_clean_23 : decode cX7_clean 23 = .ok (.ifCond .ne 6, 3) := by decide +kernel
theorem dX7_clean_26 : decode cX7_clean 26 = .ok (.bipush (-2), 2) := by decide +kernel
theorem dX7_clean_28 : decode cX7_clean 28 = .ok (.ireturn, 1) := by decide +kernel
theorem dX7_clean_29 : decode cX7_clean 29 = .ok (.aload_n 0, 1) := by decide +kernel
theorem dX7_clean_30 : decode cX7_clean 30 = .ok (.getfield 10, 3) := by decide +kernel
theorem dX7_clean_33 : decode cX7_clean 33 = .ok (.getfield 117, 3) := by decide +kernel
theorem dX7_clean_36 : decode cX7_clean 36 = .ok (.getfield 124, 3) := by decide +kernel
theorem dX7_clean_39 : decode cX7_clean 39 = .ok (.iload_n 1, 1) := by decide +kernel
theorem dX7_clean_40 : decode cX7_clean 40 = .ok (.iaload, 1) := by decide +kernel
theorem dX7_clean_41 : decode cX7_clean 41 = .ok (.istore_n 2, 1) := by decide +kernel
theorem dX7_clean_42 : decode cX7_clean 42 = .ok (.aload_n 0, 1) := by decide +kernel
theorem dX7_clean_43 : decode cX7_clean 43 = .ok (.getfield 22, 3) := by decide +kernel
theorem dX7_clean_46 : decode cX7_clean 46 = .ok (.aload_n 0, 1) := by decide +kernel
theorem dX7_clean_47 : decode cX7_clean 47 = .ok (.getfield 10, 3) := by decide +kernel
theorem dX7_clean_50 : decode cX7_clean 50 = .ok (.invokevirtual 54, 3) := by decide +kernel
theorem dX7_clean_53 : decode cX7_clean 53 = .ok (.aload_n 0, 1) := by decide +kernel
theorem dX7_clean_54 : decode cX7_clean 54 = .ok (.getfield 10, 3) := by decide +kernel
theorem dX7_clean_57 : decode cX7_clean 57 = .ok (.getfield 117, 3) := by decide +kernel
theorem dX7_clean_60 : decode cX7_clean 60 = .ok (.iload_n 1, 1) := by decide +kernel
theorem dX7_clean_61 : decode cX7_clean 61 = .ok (.invokevirtual 127, 3) := by decide +kernel
theorem dX7_clean_64 : decode cX7_clean 64 = .ok (.iload_n 2, 1) := by decide +kernel
theorem dX7_clean_65 : decode cX7_clean 65 = .ok (.ireturn, 1) := by decide +kernel
set_option maxRecDepth 20000 in
theorem ggX7_run_X3_ticksLeft : GoodIn wsX7_run wsX3_ticksLeft := goodIn_r _ [8, 9, 157, 158, 159, 160, 161, 162, 163, 164, 165, 166, 167, 168, 169, 170, 171] (by decide +kernel) (by decide +kernel)
set_option maxRecDepth 20000 in
theorem gX7_run_X3_ticksLeft : GoodIn wsX7_run (wsV RX7 131 RX3 yX3_ticksLeft wsX3_ticksLeft) := goodIn_app (goodIn_of _ (by decide +kernel)) ggX7_run_X3_ticksLeft
set_option maxRecDepth 20000 in
theorem ggX7_run_X1_keep : GoodIn wsX7_run wsX1_keep := goodIn_r _ [14, 15, 16, 17, 18, 19, 20, 7, 21, 22, 23, 24, 25, 26, 27, 28, 29, 30, 31, 32, 33, 34, 35, 36, 37, 9, 38, 39, 40, 41, 42, 43, 44, 45, 46, 47, 48, 49, 50, 51, 52, 53, 54, 55, 56, 57, 58, 59, 60, 61, 62, 63, 64, 65, 66, 67, 68, 69, 70, 71, 72, 73, 74, 172, 173, 174, 157, 158, 159, 160, 161, 162, 163, 164, 165, 166, 167, 168, 169, 170, 171, 175, 176, 177, 178, 179, 180, 181, 182, 183, 184, 185, 186, 187, 188, 189, 190, 191] (by decide +kernel) (by decide +kernel)
set_option maxRecDepth 20000 in
theorem gX7_run_X1_keep : GoodIn wsX7_run (wsV RX7 54 RX1 yX1_keep wsX1_keep) := goodIn_app (goodIn_of _ (by decide +kernel)) ggX7_run_X1_keep
set_option maxRecDepth 20000 in
theorem ggX7_run_X3_pass : GoodIn wsX7_run wsX3_pass := goodIn_r _ [78, 79, 80, 81, 7, 82, 9, 38, 39, 24, 25, 36, 83, 84, 85, 86, 31, 22, 87, 23, 33, 88, 89, 90, 56, 91, 58, 92, 93, 94, 95, 32, 96, 97, 98, 99, 100, 43, 101, 45, 102, 103, 104, 105, 52, 49, 106, 107, 108, 109, 110, 111, 34, 35, 30, 112, 113, 114, 115, 47, 50, 51, 116, 117, 118, 119, 120, 121, 122, 123, 124, 125, 126, 127, 128, 129, 130, 131, 132, 133, 134, 135, 61, 136, 137, 138, 139, 60, 140, 141, 142, 143, 37, 144, 145, 146, 147, 148, 149, 150, 67, 151, 70, 69, 71, 73, 74, 157, 158, 159, 160, 161, 162, 163, 164, 165, 166, 167, 168, 169, 170, 171, 175, 176, 177, 178, 179, 180, 181, 182, 183, 184, 185, 186, 187, 188, 189, 190, 191] (by decide +kernel) (by decide +kernel)
set_option maxRecDepth 20000 in
theorem gX7_run_X3_pass : GoodIn wsX7_run (wsV RX7 135 RX3 yX3_pass wsX3_pass) := goodIn_app (goodIn_of _ (by decide +kernel)) ggX7_run_X3_pass
theorem dX7_run_0 : decode cX7_run 0 = .ok (.iload_n 1, 1) := by decide +kernel
theorem dX7_run_1 : decode cX7_run 1 = .ok (.iconst 1, 1) := by decide +kernel
theorem dX7_run_2 : decode cX7_run 2 = .ok (.if_icmp .lt 10, 3) := by decide +kernel
theorem dX7_run_5 : decode cX7_run 5 = .ok (.iload_n 1, 1) := by decide +kernel
theorem dX7_run_6 : decode cX7_run 6 = .ok (.sipush 1000, 3) := by decide +kernel
theorem dX7_run_9 : decode cX7_run 9 = .ok (.if_icmp .le 5, 3) := by decide +kernel
theorem dX7_run_12 : decode cX7_run 12 = .ok (.iconst (-1), 1) := by decide +kernel
theorem dX7_run_13 : decode cX7_run 13 = .ok (.ireturn, 1) := by decide +kernel
theorem dX7_run_14 : decode cX7_run 14 = .ok (.iload_n 1, 1) := by decide +kernel
theorem dX7_run_15 : decode cX7_run 15 = .ok (.aload_n 0, 1) := by decide +kernel
theorem dX7_run_16 : decode cX7_run 16 = .ok (.getfield 10, 3) := by decide +kernel
theorem dX7_run_19 : decode cX7_run 19 = .ok (.invokevirtual 131, 3) := by decide +kernel
theorem dX7_run_22 : decode cX7_run 22 = .ok (.if_icmp .le 6, 3) := by decide +kernel
theorem dX7_run_25 : decode cX7_run 25 = .ok (.bipush (-3), 2) := by decide +kernel
theorem dX7_run_27 : decode cX7_run 27 = .ok (.ireturn, 1) := by decide +kernel
theorem dX7_run_28 : decode cX7_run 28 = .ok (.aload_n 0, 1) := by decide +kernel
theorem dX7_run_29 : decode cX7_run 29 = .ok (.getfield 22, 3) := by decide +kernel
theorem dX7_run_32 : decode cX7_run 32 = .ok (.aload_n 0, 1) := by decide +kernel
theorem dX7_run_33 : decode cX7_run 33 = .ok (.getfield 10, 3) := by decide +kernel
theorem dX7_run_36 : decode cX7_run 36 = .ok (.invokevirtual 54, 3) := by decide +kernel
theorem dX7_run_39 : decode cX7_run 39 = .ok (.aload_n 0, 1) := by decide +kernel
theorem dX7_run_40 : decode cX7_run 40 = .ok (.getfield 10, 3) := by decide +kernel
theorem dX7_run_43 : decode cX7_run 43 = .ok (.iload_n 1, 1) := by decide +kernel
theorem dX7_run_44 : decode cX7_run 44 = .ok (.invokevirtual 135, 3) := by decide +kernel
theorem dX7_run_47 : decode cX7_run 47 = .ok (.aload_n 0, 1) := by decide +kernel
theorem dX7_run_48 : decode cX7_run 48 = .ok (.getfield 10, 3) := by decide +kernel
theorem dX7_run_51 : decode cX7_run 51 = .ok (.getfield 138, 3) := by decide +kernel
theorem dX7_run_54 : decode cX7_run 54 = .ok (.ireturn, 1) := by decide +kernel
set_option maxRecDepth 20000 in
theorem ggX7_count_X2_stuckOnes : GoodIn wsX7_count wsX2_stuckOnes := goodIn_r _ [27, 28, 66, 67, 68, 69, 70] (by decide +kernel) (by decide +kernel)
set_option maxRecDepth 20000 in
theorem gX7_count_X2_stuckOnes : GoodIn wsX7_count (wsV RX7 174 RX2 yX2_stuckOnes wsX2_stuckOnes) := goodIn_app (goodIn_of _ (by decide +kernel)) ggX7_count_X2_stuckOnes
theorem dX7_count_0 : decode cX7_count 0 = .ok (.iload_n 1, 1) := by decide +kernel
theorem dX7_count_1 : decode cX7_count 1 = .ok (.ifCond .lt 19, 3) := by decide +kernel
theorem dX7_count_4 : decode cX7_count 4 = .ok (.iload_n 1, 1) := by decide +kernel
theorem dX7_count_5 : decode cX7_count 5 = .ok (.bipush 8, 2) := by decide +kernel
theorem dX7_count_7 : decode cX7_count 7 = .ok (.if_icmp .ge 13, 3) := by decide +kernel
theorem dX7_count_10 : decode cX7_count 10 = .ok (.aload_n 0, 1) := by decide +kernel
theorem dX7_count_11 : decode cX7_count 11 = .ok (.getfield 10, 3) := by decide +kernel
theorem dX7_count_14 : decode cX7_count 14 = .ok (.getfield 112, 3) := by decide +kernel
theorem dX7_count_17 : decode cX7_count 17 = .ok (.iload_n 1, 1) := by decide +kernel
theorem dX7_count_18 : decode cX7_count 18 = .ok (.iaload, 1) := by decide +kernel
theorem dX7_count_19 : decode cX7_count 19 = .ok (.ireturn, 1) := by decide +kernel
theorem dX7_count_20 : decode cX7_count 20 = .ok (.iload_n 1, 1) := by decide +kernel
theorem dX7_count_21 : decode cX7_count 21 = .ok (.tableswitch 222 8 23 #[79, 90, 101, 109, 117, 125, 133, 141, 149, 160, 171, 179, 187, 195, 206, 214], 79) := by decide +kernel
theorem dX7_count_100 : decode cX7_count 100 = .ok (.aload_n 0, 1) := by decide +kernel
theorem dX7_count_101 : decode cX7_count 101 = .ok (.getfield 10, 3) := by decide +kernel
theorem dX7_count_104 : decode cX7_count 104 = .ok (.getfield 46, 3) := by decide +kernel
theorem dX7_count_107 : decode cX7_count 107 = .ok (.getfield 62, 3) := by decide +kernel
theorem dX7_count_110 : decode cX7_count 110 = .ok (.ireturn, 1) := by decide +kernel
theorem dX7_count_111 : decode cX7_count 111 = .ok (.aload_n 0, 1) := by decide +kernel
theorem dX7_count_112 : decode cX7_count 112 = .ok (.getfield 10, 3) := by decide +kernel
theorem dX7_count_115 : decode cX7_count 115 = .ok (.getfield 46, 3) := by decide +kernel
theorem dX7_count_118 : decode cX7_count 118 = .ok (.getfield 89, 3) := by decide +kernel
theorem dX7_count_121 : decode cX7_count 121 = .ok (.ireturn, 1) := by decide +kernel
theorem dX7_count_122 : decode cX7_count 122 = .ok (.aload_n 0, 1) := by decide +kernel
theorem dX7_count_123 : decode cX7_count 123 = .ok (.getfield 10, 3) := by decide +kernel
theorem dX7_count_126 : decode cX7_count 126 = .ok (.getfield 82, 3) := by decide +kernel
theorem dX7_count_129 : decode cX7_count 129 = .ok (.ireturn, 1) := by decide +kernel
theorem dX7_count_130 : decode cX7_count 130 = .ok (.aload_n 0, 1) := by decide +kernel
theorem dX7_count_131 : decode cX7_count 131 = .ok (.getfield 10, 3) := by decide +kernel
theorem dX7_count_134 : decode cX7_count 134 = .ok (.getfield 141, 3) := by decide +kernel
theorem dX7_count_137 : decode cX7_count 137 = .ok (.ireturn, 1) := by decide +kernel
theorem dX7_count_138 : decode cX7_count 138 = .ok (.aload_n 0, 1) := by decide +kernel
theorem dX7_count_139 : decode cX7_count 139 = .ok (.getfield 10, 3) := by decide +kernel
theorem dX7_count_142 : decode cX7_count 142 = .ok (.getfield 144, 3) := by decide +kernel
theorem dX7_count_145 : decode cX7_count 145 = .ok (.ireturn, 1) := by decide +kernel
theorem dX7_count_146 : decode cX7_count 146 = .ok (.aload_n 0, 1) := by decide +kernel
theorem dX7_count_147 : decode cX7_count 147 = .ok (.getfield 10, 3) := by decide +kernel
theorem dX7_count_150 : decode cX7_count 150 = .ok (.getfield 147, 3) := by decide +kernel
theorem dX7_count_153 : decode cX7_count 153 = .ok (.ireturn, 1) := by decide +kernel
theorem dX7_count_154 : decode cX7_count 154 = .ok (.aload_n 0, 1) := by decide +kernel
theorem dX7_count_155 : decode cX7_count 155 = .ok (.getfield 10, 3) := by decide +kernel
theorem dX7_count_158 : decode cX7_count 158 = .ok (.getfield 150, 3) := by decide +kernel
theorem dX7_count_161 : decode cX7_count 161 = .ok (.ireturn, 1) := by decide +kernel
theorem dX7_count_162 : decode cX7_count 162 = .ok (.aload_n 0, 1) := by decide +kernel
theorem dX7_count_163 : decode cX7_count 163 = .ok (.getfield 10, 3) := by decide +kernel
theorem dX7_count_166 : decode cX7_count 166 = .ok (.getfield 138, 3) := by decide +kernel
theorem dX7_count_169 : decode cX7_count 169 = .ok (.ireturn, 1) := by decide +kernel
theorem dX7_count_170 : decode cX7_count 170 = .ok (.aload_n 0, 1) := by decide +kernel
theorem dX7_count_171 : decode cX7_count 171 = .ok (.getfield 10, 3) := by decide +kernel
theorem dX7_count_174 : decode cX7_count 174 = .ok (.getfield 153, 3) := by decide +kernel
theorem dX7_count_177 : decode cX7_count 177 = .ok (.getfield 157, 3) := by decide +kernel
theorem dX7_count_180 : decode cX7_count 180 = .ok (.ireturn, 1) := by decide +kernel
theorem dX7_count_181 : decode cX7_count 181 = .ok (.aload_n 0, 1) := by decide +kernel
theorem dX7_count_182 : decode cX7_count 182 = .ok (.getfield 10, 3) := by decide +kernel
theorem dX7_count_185 : decode cX7_count 185 = .ok (.getfield 153, 3) := by decide +kernel
theorem dX7_count_188 : decode cX7_count 188 = .ok (.getfield 162, 3) := by decide +kernel
theorem dX7_count_191 : decode cX7_count 191 = .ok (.ireturn, 1) := by decide +kernel
theorem dX7_count_192 : decode cX7_count 192 = .ok (.aload_n 0, 1) := by decide +kernel
theorem dX7_count_193 : decode cX7_count 193 = .ok (.getfield 10, 3) := by decide +kernel
theorem dX7_count_196 : decode cX7_count 196 = .ok (.getfield 165, 3) := by decide +kernel
theorem dX7_count_199 : decode cX7_count 199 = .ok (.ireturn, 1) := by decide +kernel
theorem dX7_count_200 : decode cX7_count 200 = .ok (.aload_n 0, 1) := by decide +kernel
theorem dX7_count_201 : decode cX7_count 201 = .ok (.getfield 10, 3) := by decide +kernel
theorem dX7_count_204 : decode cX7_count 204 = .ok (.getfield 168, 3) := by decide +kernel
theorem dX7_count_207 : decode cX7_count 207 = .ok (.ireturn, 1) := by decide +kernel
theorem dX7_count_208 : decode cX7_count 208 = .ok (.aload_n 0, 1) := by decide +kernel
theorem dX7_count_209 : decode cX7_count 209 = .ok (.getfield 10, 3) := by decide +kernel
theorem dX7_count_212 : decode cX7_count 212 = .ok (.getfield 171, 3) := by decide +kernel
theorem dX7_count_215 : decode cX7_count 215 = .ok (.ireturn, 1) := by decide +kernel
theorem dX7_count_216 : decode cX7_count 216 = .ok (.aload_n 0, 1) := by decide +kernel
theorem dX7_count_217 : decode cX7_count 217 = .ok (.getfield 10, 3) := by decide +kernel
theorem dX7_count_220 : decode cX7_count 220 = .ok (.getfield 117, 3) := by decide +kernel
theorem dX7_count_223 : decode cX7_count 223 = .ok (.invokevirtual 174, 3) := by decide +kernel
theorem dX7_count_226 : decode cX7_count 226 = .ok (.ireturn, 1) := by decide +kernel
theorem dX7_count_227 : decode cX7_count 227 = .ok (.aload_n 0, 1) := by decide +kernel
theorem dX7_count_228 : decode cX7_count 228 = .ok (.getfield 22, 3) := by decide +kernel
theorem dX7_count_231 : decode cX7_count 231 = .ok (.getfield 102, 3) := by decide +kernel
theorem dX7_count_234 : decode cX7_count 234 = .ok (.ireturn, 1) := by decide +kernel
theorem dX7_count_235 : decode cX7_count 235 = .ok (.aload_n 0, 1) := by decide +kernel
theorem dX7_count_236 : decode cX7_count 236 = .ok (.getfield 29, 3) := by decide +kernel
theorem dX7_count_239 : decode cX7_count 239 = .ok (.getfield 177, 3) := by decide +kernel
theorem dX7_count_242 : decode cX7_count 242 = .ok (.ireturn, 1) := by decide +kernel
theorem dX7_count_243 : decode cX7_count 243 = .ok (.iconst (-1), 1) := by decide +kernel
theorem dX7_count_244 : decode cX7_count 244 = .ok (.ireturn, 1) := by decide +kernel
theorem dX7_account_0 : decode cX7_account 0 = .ok (.iload_n 1, 1) := by decide +kernel
theorem dX7_account_1 : decode cX7_account 1 = .ok (.ifCond .lt 9, 3) := by decide +kernel
theorem dX7_account_4 : decode cX7_account 4 = .ok (.iload_n 1, 1) := by decide +kernel
theorem dX7_account_5 : decode cX7_account 5 = .ok (.bipush 7, 2) := by decide +kernel
theorem dX7_account_7 : decode cX7_account 7 = .ok (.if_icmp .lt 5, 3) := by decide +kernel
theorem dX7_account_10 : decode cX7_account 10 = .ok (.iconst (-1), 1) := by decide +kernel
theorem dX7_account_11 : decode cX7_account 11 = .ok (.ireturn, 1) := by decide +kernel
theorem dX7_account_12 : decode cX7_account 12 = .ok (.aload_n 0, 1) := by decide +kernel
theorem dX7_account_13 : decode cX7_account 13 = .ok (.getfield 10, 3) := by decide +kernel
theorem dX7_account_16 : decode cX7_account 16 = .ok (.getfield 180, 3) := by decide +kernel
theorem dX7_account_19 : decode cX7_account 19 = .ok (.iload_n 1, 1) := by decide +kernel
theorem dX7_account_20 : decode cX7_account 20 = .ok (.iaload, 1) := by decide +kernel
theorem dX7_account_21 : decode cX7_account 21 = .ok (.ireturn, 1) := by decide +kernel
theorem dX7_line_0 : decode cX7_line 0 = .ok (.iload_n 1, 1) := by decide +kernel
theorem dX7_line_1 : decode cX7_line 1 = .ok (.ifCond .lt 8, 3) := by decide +kernel
theorem dX7_line_4 : decode cX7_line 4 = .ok (.iload_n 1, 1) := by decide +kernel
theorem dX7_line_5 : decode cX7_line 5 = .ok (.iconst 4, 1) := by decide +kernel
theorem dX7_line_6 : decode cX7_line 6 = .ok (.if_icmp .lt 5, 3) := by decide +kernel
theorem dX7_line_9 : decode cX7_line 9 = .ok (.iconst (-1), 1) := by decide +kernel
theorem dX7_line_10 : decode cX7_line 10 = .ok (.ireturn, 1) := by decide +kernel
theorem dX7_line_11 : decode cX7_line 11 = .ok (.iload_n 2, 1) := by decide +kernel
theorem dX7_line_12 : decode cX7_line 12 = .ok (.tableswitch 101 0 4 #[36, 49, 62, 75, 88], 36) := by decide +kernel
theorem dX7_line_48 : decode cX7_line 48 = .ok (.aload_n 0, 1) := by decide +kernel
theorem dX7_line_49 : decode cX7_line 49 = .ok (.getfield 10, 3) := by decide +kernel
theorem dX7_line_52 : decode cX7_line 52 = .ok (.getfield 117, 3) := by decide +kernel
theorem dX7_line_55 : decode cX7_line 55 = .ok (.getfield 121, 3) := by decide +kernel
theorem dX7_line_58 : decode cX7_line 58 = .ok (.iload_n 1, 1) := by decide +kernel
theorem dX7_line_59 : decode cX7_line 59 = .ok (.iaload, 1) := by decide +kernel
theorem dX7_line_60 : decode cX7_line 60 = .ok (.ireturn, 1) := by decide +kernel
theorem dX7_line_61 : decode cX7_line 61 = .ok (.aload_n 0, 1) := by decide +kernel
theorem dX7_line_62 : decode cX7_line 62 = .ok (.getfield 10, 3) := by decide +kernel
theorem dX7_line_65 : decode cX7_line 65 = .ok (.getfield 117, 3) := by decide +kernel
theorem dX7_line_68 : decode cX7_line 68 = .ok (.getfield 124, 3) := by decide +kernel
theorem dX7_line_71 : decode cX7_line 71 = .ok (.iload_n 1, 1) := by decide +kernel
theorem dX7_line_72 : decode cX7_line 72 = .ok (.iaload, 1) := by decide +kernel
theorem dX7_line_73 : decode cX7_line 73 = .ok (.ireturn, 1) := by decide +kernel
theorem dX7_line_74 : decode cX7_line 74 = .ok (.aload_n 0, 1) := by decide +kernel
theorem dX7_line_75 : decode cX7_line 75 = .ok (.getfield 10, 3) := by decide +kernel
theorem dX7_line_78 : decode cX7_line 78 = .ok (.getfield 117, 3) := by decide +kernel
theorem dX7_line_81 : decode cX7_line 81 = .ok (.getfield 183, 3) := by decide +kernel
theorem dX7_line_84 : decode cX7_line 84 = .ok (.iload_n 1, 1) := by decide +kernel
theorem dX7_line_85 : decode cX7_line 85 = .ok (.iaload, 1) := by decide +kernel
theorem dX7_line_86 : decode cX7_line 86 = .ok (.ireturn, 1) := by decide +kernel
theorem dX7_line_87 : decode cX7_line 87 = .ok (.aload_n 0, 1) := by decide +kernel
theorem dX7_line_88 : decode cX7_line 88 = .ok (.getfield 10, 3) := by decide +kernel
theorem dX7_line_91 : decode cX7_line 91 = .ok (.getfield 117, 3) := by decide +kernel
theorem dX7_line_94 : decode cX7_line 94 = .ok (.getfield 186, 3) := by decide +kernel
theorem dX7_line_97 : decode cX7_line 97 = .ok (.iload_n 1, 1) := by decide +kernel
theorem dX7_line_98 : decode cX7_line 98 = .ok (.iaload, 1) := by decide +kernel
theorem dX7_line_99 : decode cX7_line 99 = .ok (.ireturn, 1) := by decide +kernel
theorem dX7_line_100 : decode cX7_line 100 = .ok (.aload_n 0, 1) := by decide +kernel
theorem dX7_line_101 : decode cX7_line 101 = .ok (.getfield 10, 3) := by decide +kernel
theorem dX7_line_104 : decode cX7_line 104 = .ok (.getfield 117, 3) := by decide +kernel
theorem dX7_line_107 : decode cX7_line 107 = .ok (.getfield 189, 3) := by decide +kernel
theorem dX7_line_110 : decode cX7_line 110 = .ok (.iload_n 1, 1) := by decide +kernel
theorem dX7_line_111 : decode cX7_line 111 = .ok (.iaload, 1) := by decide +kernel
theorem dX7_line_112 : decode cX7_line 112 = .ok (.ireturn, 1) := by decide +kernel
theorem dX7_line_113 : decode cX7_line 113 = .ok (.iconst (-1), 1) := by decide +kernel
theorem dX7_line_114 : decode cX7_line 114 = .ok (.ireturn, 1) := by decide +kernel
set_option maxRecDepth 20000 in
theorem ggX7_again_X3_drawn : GoodIn wsX7_again wsX3_drawn := goodIn_r _ [12, 13, 28, 29, 30, 31, 32, 33, 34, 35, 36, 37, 38, 39, 40, 41, 42] (by decide +kernel) (by decide +kernel)
set_option maxRecDepth 20000 in
theorem gX7_again_X3_drawn : GoodIn wsX7_again (wsV RX7 192 RX3 yX3_drawn wsX3_drawn) := goodIn_app (goodIn_of _ (by decide +kernel)) ggX7_again_X3_drawn
set_option maxRecDepth 20000 in
theorem ggX7_again_X0_depthOf : GoodIn wsX7_again wsX0_depthOf := goodIn_r _ [18, 19, 20, 21, 22, 5, 6, 7, 43, 44, 45, 46, 47, 48, 49] (by decide +kernel) (by decide +kernel)
set_option maxRecDepth 20000 in
theorem gX7_again_X0_depthOf : GoodIn wsX7_again (wsV RX7 194 RX0 yX0_depthOf wsX0_depthOf) := goodIn_app (goodIn_of _ (by decide +kernel)) ggX7_again_X0_depthOf
theorem dX7_again_0 : decode cX7_again 0 = .ok (.aload_n 0, 1) := by decide +kernel
theorem dX7_again_1 : decode cX7_again 1 = .ok (.getfield 10, 3) := by decide +kernel
theorem dX7_again_4 : decode cX7_again 4 = .ok (.getfield 46, 3) := by decide +kernel
theorem dX7_again_7 : decode cX7_again 7 = .ok (.aload_n 0, 1) := by decide +kernel
theorem dX7_again_8 : decode cX7_again 8 = .ok (.getfield 10, 3) := by decide +kernel
theorem dX7_again_11 : decode cX7_again 11 = .ok (.invokevirtual 192, 3) := by decide +kernel
theorem dX7_again_14 : decode cX7_again 14 = .ok (.invokevirtual 194, 3) := by decide +kernel
theorem dX7_again_17 : decode cX7_again 17 = .ok (.aload_n 0, 1) := by decide +kernel
theorem dX7_again_18 : decode cX7_again 18 = .ok (.getfield 10, 3) := by decide +kernel
theorem dX7_again_21 : decode cX7_again 21 = .ok (.getfield 82, 3) := by decide +kernel
theorem dX7_again_24 : decode cX7_again 24 = .ok (.invokestatic 197, 3) := by decide +kernel
theorem dX7_again_27 : decode cX7_again 27 = .ok (.ireturn, 1) := by decide +kernel
theorem dX7_vial_0 : decode cX7_vial 0 = .ok (.iload_n 1, 1) := by decide +kernel
theorem dX7_vial_1 : decode cX7_vial 1 = .ok (.ifCond .lt 17, 3) := by decide +kernel
theorem dX7_vial_4 : decode cX7_vial 4 = .ok (.iload_n 1, 1) := by decide +kernel
theorem dX7_vial_5 : decode cX7_vial 5 = .ok (.aload_n 0, 1) := by decide +kernel
theorem dX7_vial_6 : decode cX7_vial 6 = .ok (.getfield 10, 3) := by decide +kernel
theorem dX7_vial_9 : decode cX7_vial 9 = .ok (.getfield 153, 3) := by decide +kernel
theorem dX7_vial_12 : decode cX7_vial 12 = .ok (.getfield 157, 3) := by decide +kernel
theorem dX7_vial_15 : decode cX7_vial 15 = .ok (.if_icmp .lt 5, 3) := by decide +kernel
theorem dX7_vial_18 : decode cX7_vial 18 = .ok (.iconst (-1), 1) := by decide +kernel
theorem dX7_vial_19 : decode cX7_vial 19 = .ok (.ireturn, 1) := by decide +kernel
theorem dX7_vial_20 : decode cX7_vial 20 = .ok (.iload_n 2, 1) := by decide +kernel
theorem dX7_vial_21 : decode cX7_vial 21 = .ok (.tableswitch 93 0 3 #[31, 44, 57, 80], 31) := by decide +kernel
theorem dX7_vial_52 : decode cX7_vial 52 = .ok (.aload_n 0, 1) := by decide +kernel
theorem dX7_vial_53 : decode cX7_vial 53 = .ok (.getfield 10, 3) := by decide +kernel
theorem dX7_vial_56 : decode cX7_vial 56 = .ok (.getfield 153, 3) := by decide +kernel
theorem dX7_vial_59 : decode cX7_vial 59 = .ok (.getfield 202, 3) := by decide +kernel
theorem dX7_vial_62 : decode cX7_vial 62 = .ok (.iload_n 1, 1) := by decide +kernel
theorem dX7_vial_63 : decode cX7_vial 63 = .ok (.iaload, 1) := by decide +kernel
theorem dX7_vial_64 : decode cX7_vial 64 = .ok (.ireturn, 1) := by decide +kernel
theorem dX7_vial_65 : decode cX7_vial 65 = .ok (.aload_n 0, 1) := by decide +kernel
theorem dX7_vial_66 : decode cX7_vial 66 = .ok (.getfield 10, 3) := by decide +kernel
theorem dX7_vial_69 : decode cX7_vial 69 = .ok (.getfield 153, 3) := by decide +kernel
theorem dX7_vial_72 : decode cX7_vial 72 = .ok (.getfield 205, 3) := by decide +kernel
theorem dX7_vial_75 : decode cX7_vial 75 = .ok (.iload_n 1, 1) := by decide +kernel
theorem dX7_vial_76 : decode cX7_vial 76 = .ok (.iaload, 1) := by decide +kernel
theorem dX7_vial_77 : decode cX7_vial 77 = .ok (.ireturn, 1) := by decide +kernel
theorem dX7_vial_78 : decode cX7_vial 78 = .ok (.iload_n 1, 1) := by decide +kernel
theorem dX7_vial_79 : decode cX7_vial 79 = .ok (.ifCond .ne 7, 3) := by decide +kernel
theorem dX7_vial_82 : decode cX7_vial 82 = .ok (.iconst 0, 1) := by decide +kernel
theorem dX7_vial_83 : decode cX7_vial 83 = .ok (.goto 17, 3) := by decide +kernel
theorem dX7_vial_86 : decode cX7_vial 86 = .ok (.aload_n 0, 1) := by decide +kernel
theorem dX7_vial_87 : decode cX7_vial 87 = .ok (.getfield 10, 3) := by decide +kernel
theorem dX7_vial_90 : decode cX7_vial 90 = .ok (.getfield 153, 3) := by decide +kernel
theorem dX7_vial_93 : decode cX7_vial 93 = .ok (.getfield 205, 3) := by decide +kernel
theorem dX7_vial_96 : decode cX7_vial 96 = .ok (.iload_n 1, 1) := by decide +kernel
theorem dX7_vial_97 : decode cX7_vial 97 = .ok (.iconst 1, 1) := by decide +kernel
theorem dX7_vial_98 : decode cX7_vial 98 = .ok (.isub, 1) := by decide +kernel
theorem dX7_vial_99 : decode cX7_vial 99 = .ok (.iaload, 1) := by decide +kernel
theorem dX7_vial_100 : decode cX7_vial 100 = .ok (.ireturn, 1) := by decide +kernel
theorem dX7_vial_101 : decode cX7_vial 101 = .ok (.aload_n 0, 1) := by decide +kernel
theorem dX7_vial_102 : decode cX7_vial 102 = .ok (.getfield 10, 3) := by decide +kernel
theorem dX7_vial_105 : decode cX7_vial 105 = .ok (.getfield 153, 3) := by decide +kernel
theorem dX7_vial_108 : decode cX7_vial 108 = .ok (.getfield 208, 3) := by decide +kernel
theorem dX7_vial_111 : decode cX7_vial 111 = .ok (.iload_n 1, 1) := by decide +kernel
theorem dX7_vial_112 : decode cX7_vial 112 = .ok (.iaload, 1) := by decide +kernel
theorem dX7_vial_113 : decode cX7_vial 113 = .ok (.ireturn, 1) := by decide +kernel
theorem dX7_vial_114 : decode cX7_vial 114 = .ok (.iconst (-1), 1) := by decide +kernel
theorem dX7_vial_115 : decode cX7_vial 115 = .ok (.ireturn, 1) := by decide +kernel
set_option maxRecDepth 20000 in
theorem ggX7_vialAt_X6_firstBeyond : GoodIn wsX7_vialAt wsX6_firstBeyond := goodIn_r _ [8, 9, 10, 31, 32, 33, 34, 35] (by decide +kernel) (by decide +kernel)
set_option maxRecDepth 20000 in
theorem gX7_vialAt_X6_firstBeyond : GoodIn wsX7_vialAt (wsV RX7 210 RX6 yX6_firstBeyond wsX6_firstBeyond) := goodIn_app (goodIn_of _ (by decide +kernel)) ggX7_vialAt_X6_firstBeyond
theorem dX7_vialAt_0 : decode cX7_vialAt 0 = .ok (.iload_n 1, 1) := by decide +kernel
theorem dX7_vialAt_1 : decode cX7_vialAt 1 = .ok (.ifCond .ge 5, 3) := by decide +kernel
theorem dX7_vialAt_4 : decode cX7_vialAt 4 = .ok (.iconst (-1), 1) := by decide +kernel
theorem dX7_vialAt_5 : decode cX7_vialAt 5 = .ok (.ireturn, 1) := by decide +kernel
theorem dX7_vialAt_6 : decode cX7_vialAt 6 = .ok (.aload_n 0, 1) := by decide +kernel
theorem dX7_vialAt_7 : decode cX7_vialAt 7 = .ok (.getfield 10, 3) := by decide +kernel
theorem dX7_vialAt_10 : decode cX7_vialAt 10 = .ok (.getfield 153, 3) := by decide +kernel
theorem dX7_vialAt_13 : decode cX7_vialAt 13 = .ok (.iload_n 1, 1) := by decide +kernel
theorem dX7_vialAt_14 : decode cX7_vialAt 14 = .ok (.invokevirtual 210, 3) := by decide +kernel
theorem dX7_vialAt_17 : decode cX7_vialAt 17 = .ok (.istore_n 2, 1) := by decide +kernel
theorem dX7_vialAt_18 : decode cX7_vialAt 18 = .ok (.iload_n 2, 1) := by decide +kernel
theorem dX7_vialAt_19 : decode cX7_vialAt 19 = .ok (.aload_n 0, 1) := by decide +kernel
theorem dX7_vialAt_20 : decode cX7_vialAt 20 = .ok (.getfield 10, 3) := by decide +kernel
theorem dX7_vialAt_23 : decode cX7_vialAt 23 = .ok (.getfield 153, 3) := by decide +kernel
theorem dX7_vialAt_26 : decode cX7_vialAt 26 = .ok (.getfield 157, 3) := by decide +kernel
theorem dX7_vialAt_29 : decode cX7_vialAt 29 = .ok (.if_icmp .ge 7, 3) := by decide +kernel
theorem dX7_vialAt_32 : decode cX7_vialAt 32 = .ok (.iload_n 2, 1) := by decide +kernel
theorem dX7_vialAt_33 : decode cX7_vialAt 33 = .ok (.goto 5, 3) := by decide +kernel
theorem dX7_vialAt_36 : decode cX7_vialAt 36 = .ok (.bipush (-4), 2) := by decide +kernel
theorem dX7_vialAt_38 : decode cX7_vialAt 38 = .ok (.ireturn, 1) := by decide +kernel
set_option maxRecDepth 20000 in
theorem ggX7_ifRun_X3_ticksLeft : GoodIn wsX7_ifRun wsX3_ticksLeft := goodIn_r _ [14, 15, 156, 157, 158, 159, 160, 161, 162, 163, 164, 165, 166, 167, 168, 169, 170] (by decide +kernel) (by decide +kernel)
set_option maxRecDepth 20000 in
theorem gX7_ifRun_X3_ticksLeft : GoodIn wsX7_ifRun (wsV RX7 131 RX3 yX3_ticksLeft wsX3_ticksLeft) := goodIn_app (goodIn_of _ (by decide +kernel)) ggX7_ifRun_X3_ticksLeft
set_option maxRecDepth 20000 in
theorem ggX7_ifRun_X3_copyFrom : GoodIn wsX7_ifRun wsX3_copyFrom := goodIn_r _ [19, 20, 21, 22, 23, 24, 25, 26, 27, 28, 29, 30, 31, 32, 33, 34, 35, 15, 36, 37, 38, 39, 40, 41, 42, 43, 44, 45, 46, 47, 48, 49, 50, 51, 52, 53, 54, 55, 56, 57, 58, 59, 60, 61, 62, 63, 64, 65, 66, 67, 68, 69, 70, 71, 72, 156, 157, 158, 159, 160, 161, 162, 163, 164, 165, 166, 167, 168, 169, 170, 176, 177, 178, 179, 180, 181, 182, 183, 184, 185, 186, 187, 171, 172, 173, 174, 175] (by decide +kernel) (by decide +kernel)
set_option maxRecDepth 20000 in
theorem gX7_ifRun_X3_copyFrom : GoodIn wsX7_ifRun (wsV RX7 213 RX3 yX3_copyFrom wsX3_copyFrom) := goodIn_app (goodIn_of _ (by decide +kernel)) ggX7_ifRun_X3_copyFrom
set_option maxRecDepth 20000 in
theorem ggX7_ifRun_X3_pass : GoodIn wsX7_ifRun wsX3_pass := goodIn_r _ [76, 77, 78, 79, 13, 80, 15, 36, 37, 22, 23, 34, 81, 82, 83, 84, 29, 20, 85, 21, 31, 86, 87, 88, 54, 89, 56, 90, 91, 92, 93, 30, 94, 95, 96, 97, 98, 41, 99, 43, 100, 101, 102, 103, 50, 47, 104, 105, 106, 107, 108, 109, 32, 33, 28, 110, 111, 112, 113, 45, 48, 49, 114, 115, 116, 117, 118, 119, 120, 121, 122, 123, 124, 125, 126, 127, 128, 129, 130, 131, 132, 133, 59, 134, 135, 136, 137, 58, 138, 139, 140, 141, 35, 142, 143, 144, 145, 146, 147, 148, 65, 149, 68, 67, 69, 71, 72, 156, 157, 158, 159, 160, 161, 162, 163, 164, 165, 166, 167, 168, 169, 170, 176, 177, 178, 179, 180, 181, 182, 183, 184, 185, 186, 187, 171, 172, 173, 174, 175] (by decide +kernel) (by decide +kernel)
set_option maxRecDepth 20000 in
theorem gX7_ifRun_X3_pass : GoodIn wsX7_ifRun (wsV RX7 135 RX3 yX3_pass wsX3_pass) := goodIn_app (goodIn_of _ (by decide +kernel)) ggX7_ifRun_X3_pass
set_option maxRecDepth 20000 in
theorem ggX7_ifRun_X2_stuckOnes : GoodIn wsX7_ifRun wsX2_stuckOnes := goodIn_r _ [89, 56, 183, 184, 185, 186, 187] (by decide +kernel) (by decide +kernel)
set_option maxRecDepth 20000 in
theorem gX7_ifRun_X2_stuckOnes : GoodIn wsX7_ifRun (wsV RX7 174 RX2 yX2_stuckOnes wsX2_stuckOnes) := goodIn_app (goodIn_of _ (by decide +kernel)) ggX7_ifRun_X2_stuckOnes
theorem dX7_ifRun_0 : decode cX7_ifRun 0 = .ok (.iload_n 1, 1) := by decide +kernel
theorem dX7_ifRun_1 : decode cX7_ifRun 1 = .ok (.iconst 1, 1) := by decide +kernel
theorem dX7_ifRun_2 : decode cX7_ifRun 2 = .ok (.if_icmp .lt 20, 3) := by decide +kernel
theorem dX7_ifRun_5 : decode cX7_ifRun 5 = .ok (.iload_n 1, 1) := by decide +kernel
theorem dX7_ifRun_6 : decode cX7_ifRun 6 = .ok (.sipush 1000, 3) := by decide +kernel
theorem dX7_ifRun_9 : decode cX7_ifRun 9 = .ok (.if_icmp .gt 13, 3) := by decide +kernel
theorem dX7_ifRun_12 : decode cX7_ifRun 12 = .ok (.iload_n 2, 1) := by decide +kernel
theorem dX7_ifRun_13 : decode cX7_ifRun 13 = .ok (.ifCond .lt 9, 3) := by decide +kernel
theorem dX7_ifRun_16 : decode cX7_ifRun 16 = .ok (.iload_n 2, 1) := by decide +kernel
theorem dX7_ifRun_17 : decode cX7_ifRun 17 = .ok (.bipush 6, 2) := by decide +kernel
theorem dX7_ifRun_19 : decode cX7_ifRun 19 = .ok (.if_icmp .le 5, 3) := by decide +kernel
theorem dX7_ifRun_22 : decode cX7_ifRun 22 = .ok (.iconst (-1), 1) := by decide +kernel
theorem dX7_ifRun_23 : decode cX7_ifRun 23 = .ok (.ireturn, 1) := by decide +kernel
theorem dX7_ifRun_24 : decode cX7_ifRun 24 = .ok (.iload_n 1, 1) := by decide +kernel
theorem dX7_ifRun_25 : decode cX7_ifRun 25 = .ok (.aload_n 0, 1) := by decide +kernel
theorem dX7_ifRun_26 : decode cX7_ifRun 26 = .ok (.getfield 10, 3) := by decide +kernel
theorem dX7_ifRun_29 : decode cX7_ifRun 29 = .ok (.invokevirtual 131, 3) := by decide +kernel
theorem dX7_ifRun_32 : decode cX7_ifRun 32 = .ok (.if_icmp .le 6, 3) := by decide +kernel
theorem dX7_ifRun_35 : decode cX7_ifRun 35 = .ok (.bipush (-3), 2) := by decide +kernel
theorem dX7_ifRun_37 : decode cX7_ifRun 37 = .ok (.ireturn, 1) := by decide +kernel
theorem dX7_ifRun_38 : decode cX7_ifRun 38 = .ok (.aload_n 0, 1) := by decide +kernel
theorem dX7_ifRun_39 : decode cX7_ifRun 39 = .ok (.getfield 16, 3) := by decide +kernel
theorem dX7_ifRun_42 : decode cX7_ifRun 42 = .ok (.aload_n 0, 1) := by decide +kernel
theorem dX7_ifRun_43 : decode cX7_ifRun 43 = .ok (.getfield 10, 3) := by decide +kernel
theorem dX7_ifRun_46 : decode cX7_ifRun 46 = .ok (.invokevirtual 213, 3) := by decide +kernel
theorem dX7_ifRun_49 : decode cX7_ifRun 49 = .ok (.aload_n 0, 1) := by decide +kernel
theorem dX7_ifRun_50 : decode cX7_ifRun 50 = .ok (.getfield 16, 3) := by decide +kernel
theorem dX7_ifRun_53 : decode cX7_ifRun 53 = .ok (.iload_n 1, 1) := by decide +kernel
theorem dX7_ifRun_54 : decode cX7_ifRun 54 = .ok (.invokevirtual 135, 3) := by decide +kernel
theorem dX7_ifRun_57 : decode cX7_ifRun 57 = .ok (.iload_n 2, 1) := by decide +kernel
theorem dX7_ifRun_58 : decode cX7_ifRun 58 = .ok (.tableswitch 127 0 5 #[38, 46, 54, 74, 94, 116], 38) := by decide +kernel
theorem dX7_ifRun_96 : decode cX7_ifRun 96 = .ok (.aload_n 0, 1) := by decide +kernel
theorem dX7_ifRun_97 : decode cX7_ifRun 97 = .ok (.getfield 16, 3) := by decide +kernel
theorem dX7_ifRun_100 : decode cX7_ifRun 100 = .ok (.getfield 138, 3) := by decide +kernel
theorem dX7_ifRun_103 : decode cX7_ifRun 103 = .ok (.ireturn, 1) := by decide +kernel
theorem dX7_ifRun_104 : decode cX7_ifRun 104 = .ok (.aload_n 0, 1) := by decide +kernel
theorem dX7_ifRun_105 : decode cX7_ifRun 105 = .ok (.getfield 16, 3) := by decide +kernel
theorem dX7_ifRun_108 : decode cX7_ifRun 108 = .ok (.getfield 82, 3) := by decide +kernel
theorem dX7_ifRun_111 : decode cX7_ifRun 111 = .ok (.ireturn, 1) := by decide +kernel
theorem dX7_ifRun_112 : decode cX7_ifRun 112 = .ok (.aload_n 0, 1) := by decide +kernel
theorem dX7_ifRun_113 : decode cX7_ifRun 113 = .ok (.getfield 16, 3) := by decide +kernel
theorem dX7_ifRun_116 : decode cX7_ifRun 116 = .ok (.getfield 180, 3) := by decide +kernel
theorem dX7_ifRun_119 : decode cX7_ifRun 119 = .ok (.iconst 1, 1) := by decide +kernel
theorem dX7_ifRun_120 : decode cX7_ifRun 120 = .ok (.iaload, 1) := by decide +kernel
theorem dX7_ifRun_121 : decode cX7_ifRun 121 = .ok (.aload_n 0, 1) := by decide +kernel
theorem dX7_ifRun_122 : decode cX7_ifRun 122 = .ok (.getfield 10, 3) := by decide +kernel
theorem dX7_ifRun_125 : decode cX7_ifRun 125 = .ok (.getfield 180, 3) := by decide +kernel
theorem dX7_ifRun_128 : decode cX7_ifRun 128 = .ok (.iconst 1, 1) := by decide +kernel
theorem dX7_ifRun_129 : decode cX7_ifRun 129 = .ok (.iaload, 1) := by decide +kernel
theorem dX7_ifRun_130 : decode cX7_ifRun 130 = .ok (.isub, 1) := by decide +kernel
theorem dX7_ifRun_131 : decode cX7_ifRun 131 = .ok (.ireturn, 1) := by decide +kernel
theorem dX7_ifRun_132 : decode cX7_ifRun 132 = .ok (.aload_n 0, 1) := by decide +kernel
theorem dX7_ifRun_133 : decode cX7_ifRun 133 = .ok (.getfield 16, 3) := by decide +kernel
theorem dX7_ifRun_136 : decode cX7_ifRun 136 = .ok (.getfield 180, 3) := by decide +kernel
theorem dX7_ifRun_139 : decode cX7_ifRun 139 = .ok (.iconst 2, 1) := by decide +kernel
theorem dX7_ifRun_140 : decode cX7_ifRun 140 = .ok (.iaload, 1) := by decide +kernel
theorem dX7_ifRun_141 : decode cX7_ifRun 141 = .ok (.aload_n 0, 1) := by decide +kernel
theorem dX7_ifRun_142 : decode cX7_ifRun 142 = .ok (.getfield 10, 3) := by decide +kernel
theorem dX7_ifRun_145 : decode cX7_ifRun 145 = .ok (.getfield 180, 3) := by decide +kernel
theorem dX7_ifRun_148 : decode cX7_ifRun 148 = .ok (.iconst 2, 1) := by decide +kernel
theorem dX7_ifRun_149 : decode cX7_ifRun 149 = .ok (.iaload, 1) := by decide +kernel
theorem dX7_ifRun_150 : decode cX7_ifRun 150 = .ok (.isub, 1) := by decide +kernel
theorem dX7_ifRun_151 : decode cX7_ifRun 151 = .ok (.ireturn, 1) := by decide +kernel
theorem dX7_ifRun_152 : decode cX7_ifRun 152 = .ok (.aload_n 0, 1) := by decide +kernel
theorem dX7_ifRun_153 : decode cX7_ifRun 153 = .ok (.getfield 16, 3) := by decide +kernel
theorem dX7_ifRun_156 : decode cX7_ifRun 156 = .ok (.getfield 153, 3) := by decide +kernel
theorem dX7_ifRun_159 : decode cX7_ifRun 159 = .ok (.getfield 157, 3) := by decide +kernel
theorem dX7_ifRun_162 : decode cX7_ifRun 162 = .ok (.aload_n 0, 1) := by decide +kernel
theorem dX7_ifRun_163 : decode cX7_ifRun 163 = .ok (.getfield 10, 3) := by decide +kernel
theorem dX7_ifRun_166 : decode cX7_ifRun 166 = .ok (.getfield 153, 3) := by decide +kernel
theorem dX7_ifRun_169 : decode cX7_ifRun 169 = .ok (.getfield 157, 3) := by decide +kernel
theorem dX7_ifRun_172 : decode cX7_ifRun 172 = .ok (.isub, 1) := by decide +kernel
theorem dX7_ifRun_173 : decode cX7_ifRun 173 = .ok (.ireturn, 1) := by decide +kernel
theorem dX7_ifRun_174 : decode cX7_ifRun 174 = .ok (.aload_n 0, 1) := by decide +kernel
theorem dX7_ifRun_175 : decode cX7_ifRun 175 = .ok (.getfield 16, 3) := by decide +kernel
theorem dX7_ifRun_178 : decode cX7_ifRun 178 = .ok (.getfield 117, 3) := by decide +kernel
theorem dX7_ifRun_181 : decode cX7_ifRun 181 = .ok (.invokevirtual 174, 3) := by decide +kernel
theorem dX7_ifRun_184 : decode cX7_ifRun 184 = .ok (.ireturn, 1) := by decide +kernel
theorem dX7_ifRun_185 : decode cX7_ifRun 185 = .ok (.aload_n 0, 1) := by decide +kernel
theorem dX7_ifRun_186 : decode cX7_ifRun 186 = .ok (.getfield 16, 3) := by decide +kernel
theorem dX7_ifRun_189 : decode cX7_ifRun 189 = .ok (.getfield 171, 3) := by decide +kernel
theorem dX7_ifRun_192 : decode cX7_ifRun 192 = .ok (.aload_n 0, 1) := by decide +kernel
theorem dX7_ifRun_193 : decode cX7_ifRun 193 = .ok (.getfield 10, 3) := by decide +kernel
theorem dX7_ifRun_196 : decode cX7_ifRun 196 = .ok (.getfield 171, 3) := by decide +kernel
theorem dX7_ifRun_199 : decode cX7_ifRun 199 = .ok (.isub, 1) := by decide +kernel
theorem dX7_ifRun_200 : decode cX7_ifRun 200 = .ok (.ireturn, 1) := by decide +kernel
set_option maxRecDepth 20000 in
theorem ggX7_ticksTo_X3_ticksLeft : GoodIn wsX7_ticksTo wsX3_ticksLeft := goodIn_r _ [13, 14, 147, 148, 149, 150, 151, 152, 153, 154, 155, 156, 157, 158, 159, 160, 161] (by decide +kernel) (by decide +kernel)
set_option maxRecDepth 20000 in
theorem gX7_ticksTo_X3_ticksLeft : GoodIn wsX7_ticksTo (wsV RX7 131 RX3 yX3_ticksLeft wsX3_ticksLeft) := goodIn_app (goodIn_of _ (by decide +kernel)) ggX7_ticksTo_X3_ticksLeft
set_option maxRecDepth 20000 in
theorem ggX7_ticksTo_X3_copyFrom : GoodIn wsX7_ticksTo wsX3_copyFrom := goodIn_r _ [18, 19, 20, 21, 22, 23, 24, 25, 26, 27, 28, 29, 30, 31, 32, 33, 34, 14, 35, 36, 37, 38, 39, 40, 41, 42, 43, 44, 45, 46, 47, 48, 49, 50, 51, 52, 53, 54, 55, 56, 57, 58, 59, 60, 61, 62, 63, 64, 65, 66, 67, 68, 69, 70, 71, 147, 148, 149, 150, 151, 152, 153, 154, 155, 156, 157, 158, 159, 160, 161, 162, 163, 164, 165, 166, 167, 168, 169, 170, 171, 172, 173, 174, 175, 176, 177, 178] (by decide +kernel) (by decide +kernel)
set_option maxRecDepth 20000 in
theorem gX7_ticksTo_X3_copyFrom : GoodIn wsX7_ticksTo (wsV RX7 213 RX3 yX3_copyFrom wsX3_copyFrom) := goodIn_app (goodIn_of _ (by decide +kernel)) ggX7_ticksTo_X3_copyFrom
set_option maxRecDepth 20000 in
theorem ggX7_ticksTo_X3_tick : GoodIn wsX7_ticksTo wsX3_tick := goodIn_r _ [75, 14, 35, 36, 21, 22, 33, 76, 77, 78, 12, 79, 28, 19, 80, 20, 30, 81, 82, 83, 53, 84, 55, 85, 86, 87, 88, 29, 89, 90, 91, 92, 93, 40, 94, 42, 95, 96, 97, 98, 49, 46, 99, 100, 101, 102, 103, 104, 31, 32, 27, 105, 106, 107, 108, 44, 47, 48, 109, 110, 111, 112, 113, 114, 115, 116, 117, 3, 4, 5, 118, 119, 120, 121, 122, 123, 124, 125, 58, 126, 127, 128, 129, 57, 130, 131, 132, 133, 34, 134, 135, 136, 137, 138, 139, 140, 64, 141, 67, 66, 68, 70, 71, 147, 148, 149, 150, 151, 152, 153, 154, 155, 156, 157, 158, 159, 160, 161, 162, 163, 164, 165, 166, 167, 168, 169, 170, 171, 172, 173, 174, 175, 176, 177, 178] (by decide +kernel) (by decide +kernel)
set_option maxRecDepth 20000 in
theorem gX7_ticksTo_X3_tick : GoodIn wsX7_ticksTo (wsV RX7 216 RX3 yX3_tick wsX3_tick) := goodIn_app (goodIn_of _ (by decide +kernel)) ggX7_ticksTo_X3_tick
theorem dX7_ticksTo_0 : decode cX7_ticksTo 0 = .ok (.iload_n 1, 1) := by decide +kernel
theorem dX7_ticksTo_1 : decode cX7_ticksTo 1 = .ok (.ifCond .ge 5, 3) := by decide +kernel
theorem dX7_ticksTo_4 : decode cX7_ticksTo 4 = .ok (.iconst (-1), 1) := by decide +kernel
theorem dX7_ticksTo_5 : decode cX7_ticksTo 5 = .ok (.ireturn, 1) := by decide +kernel
theorem dX7_ticksTo_6 : decode cX7_ticksTo 6 = .ok (.sipush 2000, 3) := by decide +kernel
theorem dX7_ticksTo_9 : decode cX7_ticksTo 9 = .ok (.aload_n 0, 1) := by decide +kernel
theorem dX7_ticksTo_10 : decode cX7_ticksTo 10 = .ok (.getfield 10, 3) := by decide +kernel
theorem dX7_ticksTo_13 : decode cX7_ticksTo 13 = .ok (.invokevirtual 131, 3) := by decide +kernel
theorem dX7_ticksTo_16 : decode cX7_ticksTo 16 = .ok (.invokestatic 197, 3) := by decide +kernel
theorem dX7_ticksTo_19 : decode cX7_ticksTo 19 = .ok (.istore_n 2, 1) := by decide +kernel
theorem dX7_ticksTo_20 : decode cX7_ticksTo 20 = .ok (.aload_n 0, 1) := by decide +kernel
theorem dX7_ticksTo_21 : decode cX7_ticksTo 21 = .ok (.getfield 16, 3) := by decide +kernel
theorem dX7_ticksTo_24 : decode cX7_ticksTo 24 = .ok (.aload_n 0, 1) := by decide +kernel
theorem dX7_ticksTo_25 : decode cX7_ticksTo 25 = .ok (.getfield 10, 3) := by decide +kernel
theorem dX7_ticksTo_28 : decode cX7_ticksTo 28 = .ok (.invokevirtual 213, 3) := by decide +kernel
theorem dX7_ticksTo_31 : decode cX7_ticksTo 31 = .ok (.iconst 0, 1) := by decide +kernel
theorem dX7_ticksTo_32 : decode cX7_ticksTo 32 = .ok (.istore_n 3, 1) := by decide +kernel
theorem dX7_ticksTo_33 : decode cX7_ticksTo 33 = .ok (.iload_n 3, 1) := by decide +kernel
theorem dX7_ticksTo_34 : decode cX7_ticksTo 34 = .ok (.iload_n 2, 1) := by decide +kernel
theorem dX7_ticksTo_35 : decode cX7_ticksTo 35 = .ok (.if_icmp .ge 27, 3) := by decide +kernel
theorem dX7_ticksTo_38 : decode cX7_ticksTo 38 = .ok (.aload_n 0, 1) := by decide +kernel
theorem dX7_ticksTo_39 : decode cX7_ticksTo 39 = .ok (.getfield 16, 3) := by decide +kernel
theorem dX7_ticksTo_42 : decode cX7_ticksTo 42 = .ok (.getfield 138, 3) := by decide +kernel
theorem dX7_ticksTo_45 : decode cX7_ticksTo 45 = .ok (.iload_n 1, 1) := by decide +kernel
theorem dX7_ticksTo_46 : decode cX7_ticksTo 46 = .ok (.if_icmp .ge 16, 3) := by decide +kernel
theorem dX7_ticksTo_49 : decode cX7_ticksTo 49 = .ok (.aload_n 0, 1) := by decide +kernel
theorem dX7_ticksTo_50 : decode cX7_ticksTo 50 = .ok (.getfield 16, 3) := by decide +kernel
theorem dX7_ticksTo_53 : decode cX7_ticksTo 53 = .ok (.invokevirtual 216, 3) := by decide +kernel
theorem dX7_ticksTo_56 : decode cX7_ticksTo 56 = .ok (.iinc 3 1, 3) := by decide +kernel
theorem dX7_ticksTo_59 : decode cX7_ticksTo 59 = .ok (.goto (-26), 3) := by decide +kernel
theorem dX7_ticksTo_62 : decode cX7_ticksTo 62 = .ok (.aload_n 0, 1) := by decide +kernel
theorem dX7_ticksTo_63 : decode cX7_ticksTo 63 = .ok (.getfield 16, 3) := by decide +kernel
theorem dX7_ticksTo_66 : decode cX7_ticksTo 66 = .ok (.getfield 138, 3) := by decide +kernel
theorem dX7_ticksTo_69 : decode cX7_ticksTo 69 = .ok (.iload_n 1, 1) := by decide +kernel
theorem dX7_ticksTo_70 : decode cX7_ticksTo 70 = .ok (.if_icmp .ge 8, 3) := by decide +kernel
theorem dX7_ticksTo_73 : decode cX7_ticksTo 73 = .ok (.bipush (-4), 2) := by decide +kernel
theorem dX7_ticksTo_75 : decode cX7_ticksTo 75 = .ok (.goto 18, 3) := by decide +kernel
theorem dX7_ticksTo_78 : decode cX7_ticksTo 78 = .ok (.aload_n 0, 1) := by decide +kernel
theorem dX7_ticksTo_79 : decode cX7_ticksTo 79 = .ok (.getfield 16, 3) := by decide +kernel
theorem dX7_ticksTo_82 : decode cX7_ticksTo 82 = .ok (.getfield 165, 3) := by decide +kernel
theorem dX7_ticksTo_85 : decode cX7_ticksTo 85 = .ok (.aload_n 0, 1) := by decide +kernel
theorem dX7_ticksTo_86 : decode cX7_ticksTo 86 = .ok (.getfield 10, 3) := by decide +kernel
theorem dX7_ticksTo_89 : decode cX7_ticksTo 89 = .ok (.getfield 165, 3) := by decide +kernel
theorem dX7_ticksTo_92 : decode cX7_ticksTo 92 = .ok (.isub, 1) := by decide +kernel
theorem dX7_ticksTo_93 : decode cX7_ticksTo 93 = .ok (.ireturn, 1) := by decide +kernel
set_option maxRecDepth 20000 in
theorem ggX7_flowFor_X3_ticksLeft : GoodIn wsX7_flowFor wsX3_ticksLeft := goodIn_r _ [10, 11, 151, 152, 153, 154, 155, 156, 157, 158, 159, 160, 161, 162, 163, 164, 165] (by decide +kernel) (by decide +kernel)
set_option maxRecDepth 20000 in
theorem gX7_flowFor_X3_ticksLeft : GoodIn wsX7_flowFor (wsV RX7 131 RX3 yX3_ticksLeft wsX3_ticksLeft) := goodIn_app (goodIn_of _ (by decide +kernel)) ggX7_flowFor_X3_ticksLeft
set_option maxRecDepth 20000 in
theorem ggX7_flowFor_X3_copyFrom : GoodIn wsX7_flowFor wsX3_copyFrom := goodIn_r _ [15, 16, 17, 18, 19, 20, 21, 22, 23, 24, 25, 26, 27, 28, 29, 30, 31, 11, 32, 33, 34, 35, 36, 37, 38, 39, 40, 41, 42, 43, 44, 45, 46, 47, 48, 49, 50, 51, 52, 53, 54, 55, 56, 57, 58, 59, 60, 61, 62, 63, 64, 65, 66, 67, 68, 151, 152, 153, 154, 155, 156, 157, 158, 159, 160, 161, 162, 163, 164, 165, 166, 167, 168, 169, 170, 171, 172, 173, 174, 175, 176, 177, 178, 179, 180, 181, 182] (by decide +kernel) (by decide +kernel)
set_option maxRecDepth 20000 in
theorem gX7_flowFor_X3_copyFrom : GoodIn wsX7_flowFor (wsV RX7 213 RX3 yX3_copyFrom wsX3_copyFrom) := goodIn_app (goodIn_of _ (by decide +kernel)) ggX7_flowFor_X3_copyFrom
set_option maxRecDepth 20000 in
theorem ggX7_flowFor_X3_pass : GoodIn wsX7_flowFor wsX3_pass := goodIn_r _ [72, 73, 74, 75, 9, 76, 11, 32, 33, 18, 19, 30, 77, 78, 79, 80, 25, 16, 81, 17, 27, 82, 83, 84, 50, 85, 52, 86, 87, 88, 89, 26, 90, 91, 92, 93, 94, 37, 95, 39, 96, 97, 98, 99, 46, 43, 100, 101, 102, 103, 104, 105, 28, 29, 24, 106, 107, 108, 109, 41, 44, 45, 110, 111, 112, 113, 114, 115, 116, 117, 118, 119, 120, 121, 122, 123, 124, 125, 126, 127, 128, 129, 55, 130, 131, 132, 133, 54, 134, 135, 136, 137, 31, 138, 139, 140, 141, 142, 143, 144, 61, 145, 64, 63, 65, 67, 68, 151, 152, 153, 154, 155, 156, 157, 158, 159, 160, 161, 162, 163, 164, 165, 166, 167, 168, 169, 170, 171, 172, 173, 174, 175, 176, 177, 178, 179, 180, 181, 182] (by decide +kernel) (by decide +kernel)
set_option maxRecDepth 20000 in
theorem gX7_flowFor_X3_pass : GoodIn wsX7_flowFor (wsV RX7 135 RX3 yX3_pass wsX3_pass) := goodIn_app (goodIn_of _ (by decide +kernel)) ggX7_flowFor_X3_pass
theorem dX7_flowFor_0 : decode cX7_flowFor 0 = .ok (.iload_n 1, 1) := by decide +kernel
theorem dX7_flowFor_1 : decode cX7_flowFor 1 = .ok (.iconst 1, 1) := by decide +kernel
theorem dX7_flowFor_2 : decode cX7_flowFor 2 = .ok (.if_icmp .lt 10, 3) := by decide +kernel
theorem dX7_flowFor_5 : decode cX7_flowFor 5 = .ok (.iload_n 1, 1) := by decide +kernel
theorem dX7_flowFor_6 : decode cX7_flowFor 6 = .ok (.sipush 300, 3) := by decide +kernel
theorem dX7_flowFor_9 : decode cX7_flowFor 9 = .ok (.if_icmp .le 5, 3) := by decide +kernel
theorem dX7_flowFor_12 : decode cX7_flowFor 12 = .ok (.iconst (-1), 1) := by decide +kernel
theorem dX7_flowFor_13 : decode cX7_flowFor 13 = .ok (.ireturn, 1) := by decide +kernel
theorem dX7_flowFor_14 : decode cX7_flowFor 14 = .ok (.iload_n 1, 1) := by decide +kernel
theorem dX7_flowFor_15 : decode cX7_flowFor 15 = .ok (.aload_n 0, 1) := by decide +kernel
theorem dX7_flowFor_16 : decode cX7_flowFor 16 = .ok (.getfield 10, 3) := by decide +kernel
theorem dX7_flowFor_19 : decode cX7_flowFor 19 = .ok (.invokevirtual 131, 3) := by decide +kernel
theorem dX7_flowFor_22 : decode cX7_flowFor 22 = .ok (.if_icmp .le 6, 3) := by decide +kernel
theorem dX7_flowFor_25 : decode cX7_flowFor 25 = .ok (.bipush (-3), 2) := by decide +kernel
theorem dX7_flowFor_27 : decode cX7_flowFor 27 = .ok (.ireturn, 1) := by decide +kernel
theorem dX7_flowFor_28 : decode cX7_flowFor 28 = .ok (.bipush 10, 2) := by decide +kernel
theorem dX7_flowFor_30 : decode cX7_flowFor 30 = .ok (.istore_n 2, 1) := by decide +kernel
theorem dX7_flowFor_31 : decode cX7_flowFor 31 = .ok (.iconst (-1), 1) := by decide +kernel
theorem dX7_flowFor_32 : decode cX7_flowFor 32 = .ok (.istore_n 3, 1) := by decide +kernel
theorem dX7_flowFor_33 : decode cX7_flowFor 33 = .ok (.bipush 10, 2) := by decide +kernel
theorem dX7_flowFor_35 : decode cX7_flowFor 35 = .ok (.istore 4, 2) := by decide +kernel
theorem dX7_flowFor_37 : decode cX7_flowFor 37 = .ok (.iload 4, 2) := by decide +kernel
theorem dX7_flowFor_39 : decode cX7_flowFor 39 = .ok (.getstatic 109, 3) := by decide +kernel
theorem dX7_flowFor_42 : decode cX7_flowFor 42 = .ok (.iconst 3, 1) := by decide +kernel
theorem dX7_flowFor_43 : decode cX7_flowFor 43 = .ok (.iaload, 1) := by decide +kernel
theorem dX7_flowFor_44 : decode cX7_flowFor 44 = .ok (.if_icmp .gt 65, 3) := by decide +kernel
theorem dX7_flowFor_47 : decode cX7_flowFor 47 = .ok (.aload_n 0, 1) := by decide +kernel
theorem dX7_flowFor_48 : decode cX7_flowFor 48 = .ok (.getfield 16, 3) := by decide +kernel
theorem dX7_flowFor_51 : decode cX7_flowFor 51 = .ok (.aload_n 0, 1) := by decide +kernel
theorem dX7_flowFor_52 : decode cX7_flowFor 52 = .ok (.getfield 10, 3) := by decide +kernel
theorem dX7_flowFor_55 : decode cX7_flowFor 55 = .ok (.invokevirtual 213, 3) := by decide +kernel
theorem dX7_flowFor_58 : decode cX7_flowFor 58 = .ok (.aload_n 0, 1) := by decide +kernel
theorem dX7_flowFor_59 : decode cX7_flowFor 59 = .ok (.getfield 16, 3) := by decide +kernel
theorem dX7_flowFor_62 : decode cX7_flowFor 62 = .ok (.getfield 112, 3) := by decide +kernel
theorem dX7_flowFor_65 : decode cX7_flowFor 65 = .ok (.iconst 3, 1) := by decide +kernel
theorem dX7_flowFor_66 : decode cX7_flowFor 66 = .ok (.iload 4, 2) := by decide +kernel
theorem dX7_flowFor_68 : decode cX7_flowFor 68 = .ok (.iastore, 1) := by decide +kernel
theorem dX7_flowFor_69 : decode cX7_flowFor 69 = .ok (.aload_n 0, 1) := by decide +kernel
theorem dX7_flowFor_70 : decode cX7_flowFor 70 = .ok (.getfield 16, 3) := by decide +kernel
theorem dX7_flowFor_73 : decode cX7_flowFor 73 = .ok (.iload_n 1, 1) := by decide +kernel
theorem dX7_flowFor_74 : decode cX7_flowFor 74 = .ok (.invokevirtual 135, 3) := by decide +kernel
theorem dX7_flowFor_77 : decode cX7_flowFor 77 = .ok (.aload_n 0, 1) := by decide +kernel
theorem dX7_flowFor_78 : decode cX7_flowFor 78 = .ok (.getfield 16, 3) := by decide +kernel
theorem dX7_flowFor_81 : decode cX7_flowFor 81 = .ok (.getfield 180, 3) := by decide +kernel
theorem dX7_flowFor_84 : decode cX7_flowFor 84 = .ok (.iconst 1, 1) := by decide +kernel
theorem dX7_flowFor_85 : decode cX7_flowFor 85 = .ok (.iaload, 1) := by decide +kernel
theorem dX7_flowFor_86 : decode cX7_flowFor 86 = .ok (.iload_n 3, 1) := by decide +kernel
theorem dX7_flowFor_87 : decode cX7_flowFor 87 = .ok (.if_icmp .le 16, 3) := by decide +kernel
theorem dX7_flowFor_90 : decode cX7_flowFor 90 = .ok (.aload_n 0, 1) := by decide +kernel
theorem dX7_flowFor_91 : decode cX7_flowFor 91 = .ok (.getfield 16, 3) := by decide +kernel
theorem dX7_flowFor_94 : decode cX7_flowFor 94 = .ok (.getfield 180, 3) := by decide +kernel
theorem dX7_flowFor_97 : decode cX7_flowFor 97 = .ok (.iconst 1, 1) := by decide +kernel
theorem dX7_flowFor_98 : decode cX7_flowFor 98 = .ok (.iaload, 1) := by decide +kernel
theorem dX7_flowFor_99 : decode cX7_flowFor 99 = .ok (.istore_n 3, 1) := by decide +kernel
theorem dX7_flowFor_100 : decode cX7_flowFor 100 = .ok (.iload 4, 2) := by decide +kernel
theorem dX7_flowFor_102 : decode cX7_flowFor 102 = .ok (.istore_n 2, 1) := by decide +kernel
theorem dX7_flowFor_103 : decode cX7_flowFor 103 = .ok (.iinc 4 10, 3) := by decide +kernel
theorem dX7_flowFor_106 : decode cX7_flowFor 106 = .ok (.goto (-69), 3) := by decide +kernel
theorem dX7_flowFor_109 : decode cX7_flowFor 109 = .ok (.iload_n 2, 1) := by decide +kernel
theorem dX7_flowFor_110 : decode cX7_flowFor 110 = .ok (.ireturn, 1) := by decide +kernel
set_option maxRecDepth 20000 in
theorem ggX7_type_X5_isFull : GoodIn wsX7_type wsX5_isFull := goodIn_r _ [7, 8, 20, 21] (by decide +kernel) (by decide +kernel)
set_option maxRecDepth 20000 in
theorem gX7_type_X5_isFull : GoodIn wsX7_type (wsV RX7 219 RX5 yX5_isFull wsX5_isFull) := goodIn_app (goodIn_of _ (by decide +kernel)) ggX7_type_X5_isFull
set_option maxRecDepth 20000 in
theorem ggX7_type_X5_append : GoodIn wsX7_type wsX5_append := goodIn_r _ [12, 13, 8, 14, 4, 5, 6, 7, 20, 21] (by decide +kernel) (by decide +kernel)
set_option maxRecDepth 20000 in
theorem gX7_type_X5_append : GoodIn wsX7_type (wsV RX7 220 RX5 yX5_append wsX5_append) := goodIn_app (goodIn_of _ (by decide +kernel)) ggX7_type_X5_append
theorem dX7_type_0 : decode cX7_type 0 = .ok (.iload_n 1, 1) := by decide +kernel
theorem dX7_type_1 : decode cX7_type 1 = .ok (.bipush 32, 2) := by decide +kernel
theorem dX7_type_3 : decode cX7_type 3 = .ok (.if_icmp .lt 9, 3) := by decide +kernel
theorem dX7_type_6 : decode cX7_type 6 = .ok (.iload_n 1, 1) := by decide +kernel
theorem dX7_type_7 : decode cX7_type 7 = .ok (.bipush 126, 2) := by decide +kernel
theorem dX7_type_9 : decode cX7_type 9 = .ok (.if_icmp .le 5, 3) := by decide +kernel
theorem dX7_type_12 : decode cX7_type 12 = .ok (.iconst (-1), 1) := by decide +kernel
theorem dX7_type_13 : decode cX7_type 13 = .ok (.ireturn, 1) := by decide +kernel
theorem dX7_type_14 : decode cX7_type 14 = .ok (.aload_n 0, 1) := by decide +kernel
theorem dX7_type_15 : decode cX7_type 15 = .ok (.getfield 29, 3) := by decide +kernel
theorem dX7_type_18 : decode cX7_type 18 = .ok (.invokevirtual 219, 3) := by decide +kernel
theorem dX7_type_21 : decode cX7_type 21 = .ok (.ifCond .eq 6, 3) := by decide +kernel
theorem dX7_type_24 : decode cX7_type 24 = .ok (.bipush (-3), 2) := by decide +kernel
theorem dX7_type_26 : decode cX7_type 26 = .ok (.ireturn, 1) := by decide +kernel
theorem dX7_type_27 : decode cX7_type 27 = .ok (.aload_n 0, 1) := by decide +kernel
theorem dX7_type_28 : decode cX7_type 28 = .ok (.getfield 29, 3) := by decide +kernel
theorem dX7_type_31 : decode cX7_type 31 = .ok (.iload_n 1, 1) := by decide +kernel
theorem dX7_type_32 : decode cX7_type 32 = .ok (.i2c, 1) := by decide +kernel
theorem dX7_type_33 : decode cX7_type 33 = .ok (.invokevirtual 220, 3) := by decide +kernel
theorem dX7_type_36 : decode cX7_type 36 = .ok (.aload_n 0, 1) := by decide +kernel
theorem dX7_type_37 : decode cX7_type 37 = .ok (.getfield 29, 3) := by decide +kernel
theorem dX7_type_40 : decode cX7_type 40 = .ok (.getfield 177, 3) := by decide +kernel
theorem dX7_type_43 : decode cX7_type 43 = .ok (.ireturn, 1) := by decide +kernel
set_option maxRecDepth 20000 in
theorem ggX7_fault_X4_read : GoodIn wsX7_fault wsX4_read := goodIn_r _ [12, 13, 14, 15, 16, 17, 18, 19, 20, 21, 22, 23, 24, 25, 26, 27, 28, 29, 30, 31, 32, 33, 34, 35, 36, 37, 11, 38, 39, 40, 41, 42, 43, 44, 45, 46, 47, 48, 49, 50, 51, 52, 53, 54, 55, 56, 57, 58, 59, 60, 61, 62, 63, 64, 65, 66, 67, 68, 69, 70, 71, 72, 73, 74, 75, 76, 77, 78, 79, 80, 81, 82, 83, 84, 85, 86, 87, 88, 89, 90, 91, 92, 93, 94, 95, 96, 97, 98, 99, 100, 101, 102, 103, 104, 105, 106, 107, 108, 109, 110, 111, 112, 113, 114, 115, 116, 117, 118, 119, 120, 121, 122, 123, 124, 125, 126, 127, 128, 129, 130, 131, 132, 133, 134, 135, 136, 137, 138, 139, 140, 141, 142, 143, 144, 145, 146, 147, 148, 169, 170, 171, 172, 173, 174, 175, 176, 177, 178, 179, 180, 181, 182, 183] (by decide +kernel) (by decide +kernel)
set_option maxRecDepth 20000 in
theorem gX7_fault_X4_read : GoodIn wsX7_fault (wsV RX7 224 RX4 yX4_read wsX4_read) := goodIn_app (goodIn_of _ (by decide +kernel)) ggX7_fault_X4_read
theorem dX7_fault_0 : decode cX7_fault 0 = .ok (.iload_n 1, 1) := by decide +kernel
theorem dX7_fault_1 : decode cX7_fault 1 = .ok (.ifCond .lt 8, 3) := by decide +kernel
theorem dX7_fault_4 : decode cX7_fault 4 = .ok (.iload_n 1, 1) := by decide +kernel
theorem dX7_fault_5 : decode cX7_fault 5 = .ok (.iconst 2, 1) := by decide +kernel
theorem dX7_fault_6 : decode cX7_fault 6 = .ok (.if_icmp .le 5, 3) := by decide +kernel
theorem dX7_fault_9 : decode cX7_fault 9 = .ok (.iconst (-1), 1) := by decide +kernel
theorem dX7_fault_10 : decode cX7_fault 10 = .ok (.ireturn, 1) := by decide +kernel
theorem dX7_fault_11 : decode cX7_fault 11 = .ok (.aload_n 0, 1) := by decide +kernel
theorem dX7_fault_12 : decode cX7_fault 12 = .ok (.getfield 36, 3) := by decide +kernel
theorem dX7_fault_15 : decode cX7_fault 15 = .ok (.aload_n 0, 1) := by decide +kernel
theorem dX7_fault_16 : decode cX7_fault 16 = .ok (.getfield 29, 3) := by decide +kernel
theorem dX7_fault_19 : decode cX7_fault 19 = .ok (.aload_n 0, 1) := by decide +kernel
theorem dX7_fault_20 : decode cX7_fault 20 = .ok (.getfield 10, 3) := by decide +kernel
theorem dX7_fault_23 : decode cX7_fault 23 = .ok (.getfield 46, 3) := by decide +kernel
theorem dX7_fault_26 : decode cX7_fault 26 = .ok (.invokevirtual 224, 3) := by decide +kernel
theorem dX7_fault_29 : decode cX7_fault 29 = .ok (.aload_n 0, 1) := by decide +kernel
theorem dX7_fault_30 : decode cX7_fault 30 = .ok (.getfield 36, 3) := by decide +kernel
theorem dX7_fault_33 : decode cX7_fault 33 = .ok (.getfield 228, 3) := by decide +kernel
theorem dX7_fault_36 : decode cX7_fault 36 = .ok (.ifCond .ne 6, 3) := by decide +kernel
theorem dX7_fault_39 : decode cX7_fault 39 = .ok (.bipush (-4), 2) := by decide +kernel
theorem dX7_fault_41 : decode cX7_fault 41 = .ok (.ireturn, 1) := by decide +kernel
theorem dX7_fault_42 : decode cX7_fault 42 = .ok (.iload_n 1, 1) := by decide +kernel
theorem dX7_fault_43 : decode cX7_fault 43 = .ok (.lookupswitch 41 #[(0, 25), (1, 33)], 25) := by decide +kernel
theorem dX7_fault_68 : decode cX7_fault 68 = .ok (.aload_n 0, 1) := by decide +kernel
theorem dX7_fault_69 : decode cX7_fault 69 = .ok (.getfield 36, 3) := by decide +kernel
theorem dX7_fault_72 : decode cX7_fault 72 = .ok (.getfield 229, 3) := by decide +kernel
theorem dX7_fault_75 : decode cX7_fault 75 = .ok (.ireturn, 1) := by decide +kernel
theorem dX7_fault_76 : decode cX7_fault 76 = .ok (.aload_n 0, 1) := by decide +kernel
theorem dX7_fault_77 : decode cX7_fault 77 = .ok (.getfield 36, 3) := by decide +kernel
theorem dX7_fault_80 : decode cX7_fault 80 = .ok (.getfield 228, 3) := by decide +kernel
theorem dX7_fault_83 : decode cX7_fault 83 = .ok (.ireturn, 1) := by decide +kernel
theorem dX7_fault_84 : decode cX7_fault 84 = .ok (.aload_n 0, 1) := by decide +kernel
theorem dX7_fault_85 : decode cX7_fault 85 = .ok (.getfield 36, 3) := by decide +kernel
theorem dX7_fault_88 : decode cX7_fault 88 = .ok (.getfield 232, 3) := by decide +kernel
theorem dX7_fault_91 : decode cX7_fault 91 = .ok (.ireturn, 1) := by decide +kernel
set_option maxRecDepth 20000 in
theorem ggX7_lay_X4_read : GoodIn wsX7_lay wsX4_read := goodIn_r _ [13, 14, 15, 16, 17, 18, 19, 20, 21, 22, 23, 24, 25, 26, 27, 28, 29, 30, 31, 32, 33, 34, 35, 36, 37, 38, 12, 39, 40, 41, 42, 43, 44, 45, 46, 47, 48, 49, 50, 51, 52, 53, 54, 55, 56, 57, 58, 59, 60, 61, 62, 63, 64, 65, 66, 67, 68, 69, 70, 71, 72, 73, 74, 75, 76, 77, 78, 79, 80, 81, 82, 83, 84, 85, 86, 87, 88, 89, 90, 91, 92, 93, 94, 95, 96, 97, 98, 99, 100, 101, 102, 103, 104, 105, 106, 107, 108, 109, 110, 111, 112, 113, 114, 115, 116, 117, 118, 119, 120, 121, 122, 123, 124, 125, 126, 127, 128, 129, 130, 131, 132, 133, 134, 135, 136, 137, 138, 139, 140, 141, 142, 143, 144, 145, 146, 147, 148, 149, 223, 224, 225, 226, 227, 228, 236, 237, 229, 230, 231, 232, 233, 234, 235] (by decide +kernel) (by decide +kernel)
set_option maxRecDepth 20000 in
theorem gX7_lay_X4_read : GoodIn wsX7_lay (wsV RX7 224 RX4 yX4_read wsX4_read) := goodIn_app (goodIn_of _ (by decide +kernel)) ggX7_lay_X4_read
set_option maxRecDepth 20000 in
theorem ggX7_lay_X1_keep : GoodIn wsX7_lay wsX1_keep := goodIn_r _ [154, 155, 156, 157, 158, 159, 160, 161, 162, 163, 164, 165, 166, 167, 29, 30, 31, 168, 169, 170, 171, 172, 173, 174, 175, 176, 177, 178, 179, 21, 22, 23, 24, 25, 26, 27, 28, 32, 33, 34, 35, 180, 181, 182, 183, 184, 185, 186, 187, 188, 189, 190, 191, 192, 193, 194, 195, 196, 197, 198, 199, 200, 201, 238, 239, 240, 208, 209, 210, 211, 212, 213, 214, 215, 216, 217, 218, 219, 220, 221, 222, 229, 230, 231, 232, 233, 234, 235, 241, 242, 243, 244, 245, 246, 247, 248, 249, 250] (by decide +kernel) (by decide +kernel)
set_option maxRecDepth 20000 in
theorem gX7_lay_X1_keep : GoodIn wsX7_lay (wsV RX7 54 RX1 yX1_keep wsX1_keep) := goodIn_app (goodIn_of _ (by decide +kernel)) ggX7_lay_X1_keep
set_option maxRecDepth 20000 in
theorem ggX7_lay_X0_copyFrom : GoodIn wsX7_lay wsX0_copyFrom := goodIn_r _ [24, 25, 26, 27, 28, 29, 30, 31, 32, 33, 34, 35, 229, 230, 231, 232, 233, 234, 235] (by decide +kernel) (by decide +kernel)
set_option maxRecDepth 20000 in
theorem gX7_lay_X0_copyFrom : GoodIn wsX7_lay (wsV RX7 236 RX0 yX0_copyFrom wsX0_copyFrom) := goodIn_app (goodIn_of _ (by decide +kernel)) ggX7_lay_X0_copyFrom
theorem dX7_lay_0 : decode cX7_lay 0 = .ok (.aload_n 0, 1) := by decide +kernel
theorem dX7_lay_1 : decode cX7_lay 1 = .ok (.getfield 36, 3) := by decide +kernel
theorem dX7_lay_4 : decode cX7_lay 4 = .ok (.aload_n 0, 1) := by decide +kernel
theorem dX7_lay_5 : decode cX7_lay 5 = .ok (.getfield 29, 3) := by decide +kernel
theorem dX7_lay_8 : decode cX7_lay 8 = .ok (.aload_n 0, 1) := by decide +kernel
theorem dX7_lay_9 : decode cX7_lay 9 = .ok (.getfield 10, 3) := by decide +kernel
theorem dX7_lay_12 : decode cX7_lay 12 = .ok (.getfield 46, 3) := by decide +kernel
theorem dX7_lay_15 : decode cX7_lay 15 = .ok (.invokevirtual 224, 3) := by decide +kernel
theorem dX7_lay_18 : decode cX7_lay 18 = .ok (.aload_n 0, 1) := by decide +kernel
theorem dX7_lay_19 : decode cX7_lay 19 = .ok (.getfield 36, 3) := by decide +kernel
theorem dX7_lay_22 : decode cX7_lay 22 = .ok (.getfield 228, 3) := by decide +kernel
theorem dX7_lay_25 : decode cX7_lay 25 = .ok (.ifCond .eq 6, 3) := by decide +kernel
theorem dX7_lay_28 : decode cX7_lay 28 = .ok (.bipush (-2), 2) := by decide +kernel
theorem dX7_lay_30 : decode cX7_lay 30 = .ok (.ireturn, 1) := by decide +kernel
theorem dX7_lay_31 : decode cX7_lay 31 = .ok (.aload_n 0, 1) := by decide +kernel
theorem dX7_lay_32 : decode cX7_lay 32 = .ok (.getfield 36, 3) := by decide +kernel
theorem dX7_lay_35 : decode cX7_lay 35 = .ok (.getfield 235, 3) := by decide +kernel
theorem dX7_lay_38 : decode cX7_lay 38 = .ok (.getfield 62, 3) := by decide +kernel
theorem dX7_lay_41 : decode cX7_lay 41 = .ok (.aload_n 0, 1) := by decide +kernel
theorem dX7_lay_42 : decode cX7_lay 42 = .ok (.getfield 10, 3) := by decide +kernel
theorem dX7_lay_45 : decode cX7_lay 45 = .ok (.getfield 46, 3) := by decide +kernel
theorem dX7_lay_48 : decode cX7_lay 48 = .ok (.getfield 62, 3) := by decide +kernel
theorem dX7_lay_51 : decode cX7_lay 51 = .ok (.isub, 1) := by decide +kernel
theorem dX7_lay_52 : decode cX7_lay 52 = .ok (.istore_n 1, 1) := by decide +kernel
theorem dX7_lay_53 : decode cX7_lay 53 = .ok (.aload_n 0, 1) := by decide +kernel
theorem dX7_lay_54 : decode cX7_lay 54 = .ok (.getfield 22, 3) := by decide +kernel
theorem dX7_lay_57 : decode cX7_lay 57 = .ok (.aload_n 0, 1) := by decide +kernel
theorem dX7_lay_58 : decode cX7_lay 58 = .ok (.getfield 10, 3) := by decide +kernel
theorem dX7_lay_61 : decode cX7_lay 61 = .ok (.invokevirtual 54, 3) := by decide +kernel
theorem dX7_lay_64 : decode cX7_lay 64 = .ok (.aload_n 0, 1) := by decide +kernel
theorem dX7_lay_65 : decode cX7_lay 65 = .ok (.getfield 10, 3) := by decide +kernel
theorem dX7_lay_68 : decode cX7_lay 68 = .ok (.getfield 46, 3) := by decide +kernel
theorem dX7_lay_71 : decode cX7_lay 71 = .ok (.aload_n 0, 1) := by decide +kernel
theorem dX7_lay_72 : decode cX7_lay 72 = .ok (.getfield 36, 3) := by decide +kernel
theorem dX7_lay_75 : decode cX7_lay 75 = .ok (.getfield 235, 3) := by decide +kernel
theorem dX7_lay_78 : decode cX7_lay 78 = .ok (.invokevirtual 236, 3) := by decide +kernel
theorem dX7_lay_81 : decode cX7_lay 81 = .ok (.iload_n 1, 1) := by decide +kernel
theorem dX7_lay_82 : decode cX7_lay 82 = .ok (.ireturn, 1) := by decide +kernel
theorem dJ9_max_7cf53_0 : decode cJ9_max_7cf53 0 = .ok (.iload_n 0, 1) := by decide +kernel
theorem dJ9_max_7cf53_1 : decode cJ9_max_7cf53 1 = .ok (.iload_n 1, 1) := by decide +kernel
theorem dJ9_max_7cf53_2 : decode cJ9_max_7cf53 2 = .ok (.if_icmp .lt 7, 3) := by decide +kernel
theorem dJ9_max_7cf53_5 : decode cJ9_max_7cf53 5 = .ok (.iload_n 0, 1) := by decide +kernel
theorem dJ9_max_7cf53_6 : decode cJ9_max_7cf53 6 = .ok (.goto 4, 3) := by decide +kernel
theorem dJ9_max_7cf53_9 : decode cJ9_max_7cf53 9 = .ok (.iload_n 1, 1) := by decide +kernel
theorem dJ9_max_7cf53_10 : decode cJ9_max_7cf53 10 = .ok (.ireturn, 1) := by decide +kernel
theorem dJ9_min_7cf53_0 : decode cJ9_min_7cf53 0 = .ok (.iload_n 0, 1) := by decide +kernel
theorem dJ9_min_7cf53_1 : decode cJ9_min_7cf53 1 = .ok (.iload_n 1, 1) := by decide +kernel
theorem dJ9_min_7cf53_2 : decode cJ9_min_7cf53 2 = .ok (.if_icmp .gt 7, 3) := by decide +kernel
theorem dJ9_min_7cf53_5 : decode cJ9_min_7cf53 5 = .ok (.iload_n 0, 1) := by decide +kernel
theorem dJ9_min_7cf53_6 : decode cJ9_min_7cf53 6 = .ok (.goto 4, 3) := by decide +kernel
theorem dJ9_min_7cf53_9 : decode cJ9_min_7cf53 9 = .ok (.iload_n 1, 1) := by decide +kernel
theorem dJ9_min_7cf53_10 : decode cJ9_min_7cf53 10 = .ok (.ireturn, 1) := by decide +kernel
set_option maxRecDepth 20000 in
theorem ggJ0_length_8abf5_J0_coder_7d493 : GoodIn wsJ0_length_8abf5 wsJ0_coder_7d493 := goodIn_r _ [6, 7, 8] (by decide +kernel) (by decide +kernel)
set_option maxRecDepth 20000 in
theorem gJ0_length_8abf5_J0_coder_7d493 : GoodIn wsJ0_length_8abf5 (wsV RJ0 335 RJ0 yJ0_coder_7d493 wsJ0_coder_7d493) := goodIn_app (goodIn_of _ (by decide +kernel)) ggJ0_length_8abf5_J0_coder_7d493
theorem dJ0_length_8abf5_0 : decode cJ0_length_8abf5 0 = .ok (.aload_n 0, 1) := by decide +kernel
theorem dJ0_length_8abf5_1 : decode cJ0_length_8abf5 1 = .ok (.getfield 9, 3) := by decide +kernel
theorem dJ0_length_8abf5_4 : decode cJ0_length_8abf5 4 = .ok (.arraylength, 1) := by decide +kernel
theorem dJ0_length_8abf5_5 : decode cJ0_length_8abf5 5 = .ok (.aload_n 0, 1) := by decide +kernel
theorem dJ0_length_8abf5_6 : decode cJ0_length_8abf5 6 = .ok (.invokevirtual 335, 3) := by decide +kernel
theorem dJ0_length_8abf5_9 : decode cJ0_length_8abf5 9 = .ok (.ishr, 1) := by decide +kernel
theorem dJ0_length_8abf5_10 : decode cJ0_length_8abf5 10 = .ok (.ireturn, 1) := by decide +kernel
set_option maxRecDepth 20000 in
theorem ggJ0_charAt_5068e_J0_isLatin1_aae02 : GoodIn wsJ0_charAt_5068e wsJ0_isLatin1_aae02 := goodIn_r _ [6, 7, 8] (by decide +kernel) (by decide +kernel)
set_option maxRecDepth 20000 in
theorem gJ0_charAt_5068e_J0_isLatin1_aae02 : GoodIn wsJ0_charAt_5068e (wsV RJ0 492 RJ0 yJ0_isLatin1_aae02 wsJ0_isLatin1_aae02) := goodIn_app (goodIn_of _ (by decide +kernel)) ggJ0_charAt_5068e_J0_isLatin1_aae02
set_option maxRecDepth 20000 in
theorem ggJ0_charAt_5068e_J1_charAt_3b067 : GoodIn wsJ0_charAt_5068e wsJ1_charAt_3b067 := goodIn_r _ [12, 13, 14, 5, 15, 16, 17, 18, 19, 20] (by decide +kernel) (by decide +kernel)
set_option maxRecDepth 20000 in
theorem gJ0_charAt_5068e_J1_charAt_3b067 : GoodIn wsJ0_charAt_5068e (va_wsS RJ0 495 yJ1_charAt_3b067 wsJ1_charAt_3b067) := goodIn_app (goodIn_of _ (by decide +kernel)) ggJ0_charAt_5068e_J1_charAt_3b067
set_option maxRecDepth 20000 in
theorem ggJ0_charAt_5068e_J2_charAt_3b067 : GoodIn wsJ0_charAt_5068e wsJ2_charAt_3b067 := goodIn_r _ [24, 25, 26, 23, 27, 28, 29, 30, 31, 14, 5, 15, 16, 17, 18, 19, 20, 32, 33, 34, 35, 36, 37] (by decide +kernel) (by decide +kernel)
set_option maxRecDepth 20000 in
theorem gJ0_charAt_5068e_J2_charAt_3b067 : GoodIn wsJ0_charAt_5068e (va_wsS RJ0 498 yJ2_charAt_3b067 wsJ2_charAt_3b067) := goodIn_app (goodIn_of _ (by decide +kernel)) ggJ0_charAt_5068e_J2_charAt_3b067
theorem dJ0_charAt_5068e_0 : decode cJ0_charAt_5068e 0 = .ok (.aload_n 0, 1) := by decide +kernel
theorem dJ0_charAt_5068e_1 : decode cJ0_charAt_5068e 1 = .ok (.invokevirtual 492, 3) := by decide +kernel
theorem dJ0_charAt_5068e_4 : decode cJ0_charAt_5068e 4 = .ok (.ifCond .eq 12, 3) := by decide +kernel
theorem dJ0_charAt_5068e_7 : decode cJ0_charAt_5068e 7 = .ok (.aload_n 0, 1) := by decide +kernel
theorem dJ0_charAt_5068e_8 : decode cJ0_charAt_5068e 8 = .ok (.getfield 9, 3) := by decide +kernel
theorem dJ0_charAt_5068e_11 : decode cJ0_charAt_5068e 11 = .ok (.iload_n 1, 1) := by decide +kernel
theorem dJ0_charAt_5068e_12 : decode cJ0_charAt_5068e 12 = .ok (.invokestatic 495, 3) := by decide +kernel
theorem dJ0_charAt_5068e_15 : decode cJ0_charAt_5068e 15 = .ok (.ireturn, 1) := by decide +kernel
theorem dJ0_charAt_5068e_16 : decode cJ0_charAt_5068e 16 = .ok (.aload_n 0, 1) := by decide +kernel
theorem dJ0_charAt_5068e_17 : decode cJ0_charAt_5068e 17 = .ok (.getfield 9, 3) := by decide +kernel
theorem dJ0_charAt_5068e_20 : decode cJ0_charAt_5068e 20 = .ok (.iload_n 1, 1) := by decide +kernel
theorem dJ0_charAt_5068e_21 : decode cJ0_charAt_5068e 21 = .ok (.invokestatic 498, 3) := by decide +kernel
theorem dJ0_charAt_5068e_24 : decode cJ0_charAt_5068e 24 = .ok (.ireturn, 1) := by decide +kernel
theorem dJ0_coder_7d493_0 : decode cJ0_coder_7d493 0 = .ok (.getstatic 38, 3) := by decide +kernel
theorem dJ0_coder_7d493_3 : decode cJ0_coder_7d493 3 = .ok (.ifCond .eq 10, 3) := by decide +kernel
theorem dJ0_coder_7d493_6 : decode cJ0_coder_7d493 6 = .ok (.aload_n 0, 1) := by decide +kernel
theorem dJ0_coder_7d493_7 : decode cJ0_coder_7d493 7 = .ok (.getfield 15, 3) := by decide +kernel
theorem dJ0_coder_7d493_10 : decode cJ0_coder_7d493 10 = .ok (.goto 4, 3) := by decide +kernel
theorem dJ0_coder_7d493_13 : decode cJ0_coder_7d493 13 = .ok (.iconst 1, 1) := by decide +kernel
theorem dJ0_coder_7d493_14 : decode cJ0_coder_7d493 14 = .ok (.ireturn, 1) := by decide +kernel
theorem dJ0_isLatin1_aae02_0 : decode cJ0_isLatin1_aae02 0 = .ok (.getstatic 38, 3) := by decide +kernel
theorem dJ0_isLatin1_aae02_3 : decode cJ0_isLatin1_aae02 3 = .ok (.ifCond .eq 14, 3) := by decide +kernel
theorem dJ0_isLatin1_aae02_6 : decode cJ0_isLatin1_aae02 6 = .ok (.aload_n 0, 1) := by decide +kernel
theorem dJ0_isLatin1_aae02_7 : decode cJ0_isLatin1_aae02 7 = .ok (.getfield 15, 3) := by decide +kernel
theorem dJ0_isLatin1_aae02_10 : decode cJ0_isLatin1_aae02 10 = .ok (.ifCond .ne 7, 3) := by decide +kernel
theorem dJ0_isLatin1_aae02_13 : decode cJ0_isLatin1_aae02 13 = .ok (.iconst 1, 1) := by decide +kernel
theorem dJ0_isLatin1_aae02_14 : decode cJ0_isLatin1_aae02 14 = .ok (.goto 4, 3) := by decide +kernel
theorem dJ0_isLatin1_aae02_17 : decode cJ0_isLatin1_aae02 17 = .ok (.iconst 0, 1) := by decide +kernel
theorem dJ0_isLatin1_aae02_18 : decode cJ0_isLatin1_aae02 18 = .ok (.ireturn, 1) := by decide +kernel
set_option maxRecDepth 20000 in
theorem ggJ0_checkIndex_df160_J3_checkIndex_8e157 : GoodIn wsJ0_checkIndex_df160 wsJ3_checkIndex_8e157 := goodIn_r _ [5] (by decide +kernel) (by decide +kernel)
set_option maxRecDepth 20000 in
theorem gJ0_checkIndex_df160_J3_checkIndex_8e157 : GoodIn wsJ0_checkIndex_df160 (va_wsS RJ0 1059 yJ3_checkIndex_8e157 wsJ3_checkIndex_8e157) := goodIn_app (goodIn_of _ (by decide +kernel)) ggJ0_checkIndex_df160_J3_checkIndex_8e157
theorem dJ0_checkIndex_df160_0 : decode cJ0_checkIndex_df160 0 = .ok (.iload_n 0, 1) := by decide +kernel
theorem dJ0_checkIndex_df160_1 : decode cJ0_checkIndex_df160 1 = .ok (.iload_n 1, 1) := by decide +kernel
theorem dJ0_checkIndex_df160_2 : decode cJ0_checkIndex_df160 2 = .ok (.getstatic 1053, 3) := by decide +kernel
theorem dJ0_checkIndex_df160_5 : decode cJ0_checkIndex_df160 5 = .ok (.invokestatic 1059, 3) := by decide +kernel
theorem dJ0_checkIndex_df160_8 : decode cJ0_checkIndex_df160 8 = .ok (.pop, 1) := by decide +kernel
theorem dJ0_checkIndex_df160_9 : decode cJ0_checkIndex_df160 9 = .ok (.return_, 1) := by decide +kernel
set_option maxRecDepth 20000 in
theorem ggJ1_charAt_3b067_J0_checkIndex_df160 : GoodIn wsJ1_charAt_3b067 wsJ0_checkIndex_df160 := goodIn_r _ [4, 5, 6, 7, 8, 9] (by decide +kernel) (by decide +kernel)
set_option maxRecDepth 20000 in
theorem gJ1_charAt_3b067_J0_checkIndex_df160 : GoodIn wsJ1_charAt_3b067 (va_wsS RJ1 9 yJ0_checkIndex_df160 wsJ0_checkIndex_df160) := goodIn_app (goodIn_of _ (by decide +kernel)) ggJ1_charAt_3b067_J0_checkIndex_df160
theorem dJ1_charAt_3b067_0 : decode cJ1_charAt_3b067 0 = .ok (.iload_n 1, 1) := by decide +kernel
theorem dJ1_charAt_3b067_1 : decode cJ1_charAt_3b067 1 = .ok (.aload_n 0, 1) := by decide +kernel
theorem dJ1_charAt_3b067_2 : decode cJ1_charAt_3b067 2 = .ok (.arraylength, 1) := by decide +kernel
theorem dJ1_charAt_3b067_3 : decode cJ1_charAt_3b067 3 = .ok (.invokestatic 9, 3) := by decide +kernel
theorem dJ1_charAt_3b067_6 : decode cJ1_charAt_3b067 6 = .ok (.aload_n 0, 1) := by decide +kernel
theorem dJ1_charAt_3b067_7 : decode cJ1_charAt_3b067 7 = .ok (.iload_n 1, 1) := by decide +kernel
theorem dJ1_charAt_3b067_8 : decode cJ1_charAt_3b067 8 = .ok (.baload, 1) := by decide +kernel
theorem dJ1_charAt_3b067_9 : decode cJ1_charAt_3b067 9 = .ok (.sipush 255, 3) := by decide +kernel
theorem dJ1_charAt_3b067_12 : decode cJ1_charAt_3b067 12 = .ok (.iand, 1) := by decide +kernel
theorem dJ1_charAt_3b067_13 : decode cJ1_charAt_3b067 13 = .ok (.i2c, 1) := by decide +kernel
theorem dJ1_charAt_3b067_14 : decode cJ1_charAt_3b067 14 = .ok (.ireturn, 1) := by decide +kernel
set_option maxRecDepth 20000 in
theorem ggJ2_getChar_3b067_J2_length_9d52b : GoodIn wsJ2_getChar_3b067 wsJ2_length_9d52b := goodIn_r _ [7] (by decide +kernel) (by decide +kernel)
set_option maxRecDepth 20000 in
theorem gJ2_getChar_3b067_J2_length_9d52b : GoodIn wsJ2_getChar_3b067 (va_wsS RJ2 48 yJ2_length_9d52b wsJ2_length_9d52b) := goodIn_app (goodIn_of _ (by decide +kernel)) ggJ2_getChar_3b067_J2_length_9d52b
theorem dJ2_getChar_3b067_0 : decode cJ2_getChar_3b067 0 = .ok (.getstatic 44, 3) := by decide +kernel
theorem dJ2_getChar_3b067_3 : decode cJ2_getChar_3b067 3 = .ok (.ifCond .ne 25, 3) := by decide +kernel
theorem dJ2_getChar_3b067_6 : decode cJ2_getChar_3b067 6 = .ok (.iload_n 1, 1) := by decide +kernel
theorem dJ2_getChar_3b067_7 : decode cJ2_getChar_3b067 7 = .ok (.ifCond .lt 11, 3) := by decide +kernel
theorem dJ2_getChar_3b067_10 : decode cJ2_getChar_3b067 10 = .ok (.iload_n 1, 1) := by decide +kernel
theorem dJ2_getChar_3b067_11 : decode cJ2_getChar_3b067 11 = .ok (.aload_n 0, 1) := by decide +kernel
theorem dJ2_getChar_3b067_12 : decode cJ2_getChar_3b067 12 = .ok (.invokestatic 48, 3) := by decide +kernel
theorem dJ2_getChar_3b067_15 : decode cJ2_getChar_3b067 15 = .ok (.if_icmp .lt 13, 3) := by decide +kernel
theorem dJ2_getChar_3b067_18 : decode cJ2_getChar_3b067 18 = .ok (.new 52, 3) := by decide +kernel
theorem dJ2_getChar_3b067_21 : decode cJ2_getChar_3b067 21 = .ok (.dup, 1) := by decide +kernel
theorem dJ2_getChar_3b067_22 : decode cJ2_getChar_3b067 22 = .ok (.ldc 54, 2) := by decide +kernel
theorem dJ2_getChar_3b067_24 : decode cJ2_getChar_3b067 24 = .ok (.invokespecial 56, 3) := by decide +kernel
theorem dJ2_getChar_3b067_27 : decode cJ2_getChar_3b067 27 = .ok (.athrow, 1) := by decide +kernel
theorem dJ2_getChar_3b067_28 : decode cJ2_getChar_3b067 28 = .ok (.iload_n 1, 1) := by decide +kernel
theorem dJ2_getChar_3b067_29 : decode cJ2_getChar_3b067 29 = .ok (.iconst 1, 1) := by decide +kernel
theorem dJ2_getChar_3b067_30 : decode cJ2_getChar_3b067 30 = .ok (.ishl, 1) := by decide +kernel
theorem dJ2_getChar_3b067_31 : decode cJ2_getChar_3b067 31 = .ok (.istore_n 1, 1) := by decide +kernel
theorem dJ2_getChar_3b067_32 : decode cJ2_getChar_3b067 32 = .ok (.aload_n 0, 1) := by decide +kernel
theorem dJ2_getChar_3b067_33 : decode cJ2_getChar_3b067 33 = .ok (.iload_n 1, 1) := by decide +kernel
theorem dJ2_getChar_3b067_34 : decode cJ2_getChar_3b067 34 = .ok (.iinc 1 1, 3) := by decide +kernel
theorem dJ2_getChar_3b067_37 : decode cJ2_getChar_3b067 37 = .ok (.baload, 1) := by decide +kernel
theorem dJ2_getChar_3b067_38 : decode cJ2_getChar_3b067 38 = .ok (.sipush 255, 3) := by decide +kernel
theorem dJ2_getChar_3b067_41 : decode cJ2_getChar_3b067 41 = .ok (.iand, 1) := by decide +kernel
theorem dJ2_getChar_3b067_42 : decode cJ2_getChar_3b067 42 = .ok (.getstatic 59, 3) := by decide +kernel
theorem dJ2_getChar_3b067_45 : decode cJ2_getChar_3b067 45 = .ok (.ishl, 1) := by decide +kernel
theorem dJ2_getChar_3b067_46 : decode cJ2_getChar_3b067 46 = .ok (.aload_n 0, 1) := by decide +kernel
theorem dJ2_getChar_3b067_47 : decode cJ2_getChar_3b067 47 = .ok (.iload_n 1, 1) := by decide +kernel
theorem dJ2_getChar_3b067_48 : decode cJ2_getChar_3b067 48 = .ok (.baload, 1) := by decide +kernel
theorem dJ2_getChar_3b067_49 : decode cJ2_getChar_3b067 49 = .ok (.sipush 255, 3) := by decide +kernel
theorem dJ2_getChar_3b067_52 : decode cJ2_getChar_3b067 52 = .ok (.iand, 1) := by decide +kernel
theorem dJ2_getChar_3b067_53 : decode cJ2_getChar_3b067 53 = .ok (.getstatic 63, 3) := by decide +kernel
theorem dJ2_getChar_3b067_56 : decode cJ2_getChar_3b067 56 = .ok (.ishl, 1) := by decide +kernel
theorem dJ2_getChar_3b067_57 : decode cJ2_getChar_3b067 57 = .ok (.ior, 1) := by decide +kernel
theorem dJ2_getChar_3b067_58 : decode cJ2_getChar_3b067 58 = .ok (.i2c, 1) := by decide +kernel
theorem dJ2_getChar_3b067_59 : decode cJ2_getChar_3b067 59 = .ok (.ireturn, 1) := by decide +kernel
theorem dJ2_length_9d52b_0 : decode cJ2_length_9d52b 0 = .ok (.aload_n 0, 1) := by decide +kernel
theorem dJ2_length_9d52b_1 : decode cJ2_length_9d52b 1 = .ok (.arraylength, 1) := by decide +kernel
theorem dJ2_length_9d52b_2 : decode cJ2_length_9d52b 2 = .ok (.iconst 1, 1) := by decide +kernel
theorem dJ2_length_9d52b_3 : decode cJ2_length_9d52b 3 = .ok (.ishr, 1) := by decide +kernel
theorem dJ2_length_9d52b_4 : decode cJ2_length_9d52b 4 = .ok (.ireturn, 1) := by decide +kernel
set_option maxRecDepth 20000 in
theorem ggJ2_charAt_3b067_J2_checkIndex_2214a : GoodIn wsJ2_charAt_3b067 wsJ2_checkIndex_2214a := goodIn_r _ [4, 5, 6, 3, 7, 8, 9, 10, 11, 12, 13, 14, 15, 16] (by decide +kernel) (by decide +kernel)
set_option maxRecDepth 20000 in
theorem gJ2_charAt_3b067_J2_checkIndex_2214a : GoodIn wsJ2_charAt_3b067 (va_wsS RJ2 67 yJ2_checkIndex_2214a wsJ2_checkIndex_2214a) := goodIn_app (goodIn_of _ (by decide +kernel)) ggJ2_charAt_3b067_J2_checkIndex_2214a
set_option maxRecDepth 20000 in
theorem ggJ2_charAt_3b067_J2_getChar_3b067 : GoodIn wsJ2_charAt_3b067 wsJ2_getChar_3b067 := goodIn_r _ [19, 20, 21, 22, 5, 6, 3, 7] (by decide +kernel) (by decide +kernel)
set_option maxRecDepth 20000 in
theorem gJ2_charAt_3b067_J2_getChar_3b067 : GoodIn wsJ2_charAt_3b067 (va_wsS RJ2 71 yJ2_getChar_3b067 wsJ2_getChar_3b067) := goodIn_app (goodIn_of _ (by decide +kernel)) ggJ2_charAt_3b067_J2_getChar_3b067
theorem dJ2_charAt_3b067_0 : decode cJ2_charAt_3b067 0 = .ok (.iload_n 1, 1) := by decide +kernel
theorem dJ2_charAt_3b067_1 : decode cJ2_charAt_3b067 1 = .ok (.aload_n 0, 1) := by decide +kernel
theorem dJ2_charAt_3b067_2 : decode cJ2_charAt_3b067 2 = .ok (.invokestatic 67, 3) := by decide +kernel
theorem dJ2_charAt_3b067_5 : decode cJ2_charAt_3b067 5 = .ok (.aload_n 0, 1) := by decide +kernel
theorem dJ2_charAt_3b067_6 : decode cJ2_charAt_3b067 6 = .ok (.iload_n 1, 1) := by decide +kernel
theorem dJ2_charAt_3b067_7 : decode cJ2_charAt_3b067 7 = .ok (.invokestatic 71, 3) := by decide +kernel
theorem dJ2_charAt_3b067_10 : decode cJ2_charAt_3b067 10 = .ok (.ireturn, 1) := by decide +kernel
set_option maxRecDepth 20000 in
theorem ggJ2_checkIndex_2214a_J2_length_9d52b : GoodIn wsJ2_checkIndex_2214a wsJ2_length_9d52b := goodIn_r _ [4] (by decide +kernel) (by decide +kernel)
set_option maxRecDepth 20000 in
theorem gJ2_checkIndex_2214a_J2_length_9d52b : GoodIn wsJ2_checkIndex_2214a (va_wsS RJ2 48 yJ2_length_9d52b wsJ2_length_9d52b) := goodIn_app (goodIn_of _ (by decide +kernel)) ggJ2_checkIndex_2214a_J2_length_9d52b
set_option maxRecDepth 20000 in
theorem ggJ2_checkIndex_2214a_J0_checkIndex_df160 : GoodIn wsJ2_checkIndex_2214a wsJ0_checkIndex_df160 := goodIn_r _ [8, 9, 10, 11, 12, 13] (by decide +kernel) (by decide +kernel)
set_option maxRecDepth 20000 in
theorem gJ2_checkIndex_2214a_J0_checkIndex_df160 : GoodIn wsJ2_checkIndex_2214a (va_wsS RJ2 414 yJ0_checkIndex_df160 wsJ0_checkIndex_df160) := goodIn_app (goodIn_of _ (by decide +kernel)) ggJ2_checkIndex_2214a_J0_checkIndex_df160
theorem dJ2_checkIndex_2214a_0 : decode cJ2_checkIndex_2214a 0 = .ok (.iload_n 0, 1) := by decide +kernel
theorem dJ2_checkIndex_2214a_1 : decode cJ2_checkIndex_2214a 1 = .ok (.aload_n 1, 1) := by decide +kernel
theorem dJ2_checkIndex_2214a_2 : decode cJ2_checkIndex_2214a 2 = .ok (.invokestatic 48, 3) := by decide +kernel
theorem dJ2_checkIndex_2214a_5 : decode cJ2_checkIndex_2214a 5 = .ok (.invokestatic 414, 3) := by decide +kernel
theorem dJ2_checkIndex_2214a_8 : decode cJ2_checkIndex_2214a 8 = .ok (.return_, 1) := by decide +kernel
theorem dJ7_fill_53178_0 : decode cJ7_fill_53178 0 = .ok (.iconst 0, 1) := by decide +kernel
theorem dJ7_fill_53178_1 : decode cJ7_fill_53178 1 = .ok (.istore_n 2, 1) := by decide +kernel
theorem dJ7_fill_53178_2 : decode cJ7_fill_53178 2 = .ok (.aload_n 0, 1) := by decide +kernel
theorem dJ7_fill_53178_3 : decode cJ7_fill_53178 3 = .ok (.arraylength, 1) := by decide +kernel
theorem dJ7_fill_53178_4 : decode cJ7_fill_53178 4 = .ok (.istore_n 3, 1) := by decide +kernel
theorem dJ7_fill_53178_5 : decode cJ7_fill_53178 5 = .ok (.iload_n 2, 1) := by decide +kernel
theorem dJ7_fill_53178_6 : decode cJ7_fill_53178 6 = .ok (.iload_n 3, 1) := by decide +kernel
theorem dJ7_fill_53178_7 : decode cJ7_fill_53178 7 = .ok (.if_icmp .ge 13, 3) := by decide +kernel
theorem dJ7_fill_53178_10 : decode cJ7_fill_53178 10 = .ok (.aload_n 0, 1) := by decide +kernel
theorem dJ7_fill_53178_11 : decode cJ7_fill_53178 11 = .ok (.iload_n 2, 1) := by decide +kernel
theorem dJ7_fill_53178_12 : decode cJ7_fill_53178 12 = .ok (.iload_n 1, 1) := by decide +kernel
theorem dJ7_fill_53178_13 : decode cJ7_fill_53178 13 = .ok (.iastore, 1) := by decide +kernel
theorem dJ7_fill_53178_14 : decode cJ7_fill_53178 14 = .ok (.iinc 2 1, 3) := by decide +kernel
theorem dJ7_fill_53178_17 : decode cJ7_fill_53178 17 = .ok (.goto (-12), 3) := by decide +kernel
theorem dJ7_fill_53178_20 : decode cJ7_fill_53178 20 = .ok (.return_, 1) := by decide +kernel
theorem dJ3_checkIndex_8e157_0 : decode cJ3_checkIndex_8e157 0 = .ok (.iload_n 0, 1) := by decide +kernel
theorem dJ3_checkIndex_8e157_1 : decode cJ3_checkIndex_8e157 1 = .ok (.ifCond .lt 8, 3) := by decide +kernel
theorem dJ3_checkIndex_8e157_4 : decode cJ3_checkIndex_8e157 4 = .ok (.iload_n 0, 1) := by decide +kernel
theorem dJ3_checkIndex_8e157_5 : decode cJ3_checkIndex_8e157 5 = .ok (.iload_n 1, 1) := by decide +kernel
theorem dJ3_checkIndex_8e157_6 : decode cJ3_checkIndex_8e157 6 = .ok (.if_icmp .lt 10, 3) := by decide +kernel
theorem dJ3_checkIndex_8e157_9 : decode cJ3_checkIndex_8e157 9 = .ok (.aload_n 2, 1) := by decide +kernel
theorem dJ3_checkIndex_8e157_10 : decode cJ3_checkIndex_8e157 10 = .ok (.iload_n 0, 1) := by decide +kernel
theorem dJ3_checkIndex_8e157_11 : decode cJ3_checkIndex_8e157 11 = .ok (.iload_n 1, 1) := by decide +kernel
theorem dJ3_checkIndex_8e157_12 : decode cJ3_checkIndex_8e157 12 = .ok (.invokestatic 95, 3) := by decide +kernel
theorem dJ3_checkIndex_8e157_15 : decode cJ3_checkIndex_8e157 15 = .ok (.athrow, 1) := by decide +kernel
theorem dJ3_checkIndex_8e157_16 : decode cJ3_checkIndex_8e157 16 = .ok (.iload_n 0, 1) := by decide +kernel
theorem dJ3_checkIndex_8e157_17 : decode cJ3_checkIndex_8e157 17 = .ok (.ireturn, 1) := by decide +kernel
