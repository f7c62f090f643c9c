theorem dX0_init_0 : decode cX0_init 0 = .ok (.aload_n 0, 1) := by decide +kernel
theorem dX0_init_1 : decode cX0_init 1 = .ok (.invokespecial 1, 3) := by decide +kernel
theorem dX0_init_4 : decode cX0_init 4 = .ok (.aload_n 0, 1) := by decide +kernel
theorem dX0_init_5 : decode cX0_init 5 = .ok (.bipush 20, 2) := by decide +kernel
theorem dX0_init_7 : decode cX0_init 7 = .ok (.newarray .int, 2) := by decide +kernel
theorem dX0_init_9 : decode cX0_init 9 = .ok (.putfield 9, 3) := by decide +kernel
theorem dX0_init_12 : decode cX0_init 12 = .ok (.aload_n 0, 1) := by decide +kernel
theorem dX0_init_13 : decode cX0_init 13 = .ok (.bipush 20, 2) := by decide +kernel
theorem dX0_init_15 : decode cX0_init 15 = .ok (.newarray .int, 2) := by decide +kernel
theorem dX0_init_17 : decode cX0_init 17 = .ok (.putfield 13, 3) := by decide +kernel
theorem dX0_init_20 : decode cX0_init 20 = .ok (.aload_n 0, 1) := by decide +kernel
theorem dX0_init_21 : decode cX0_init 21 = .ok (.bipush 20, 2) := by decide +kernel
theorem dX0_init_23 : decode cX0_init 23 = .ok (.newarray .int, 2) := by decide +kernel
theorem dX0_init_25 : decode cX0_init 25 = .ok (.putfield 16, 3) := by decide +kernel
theorem dX0_init_28 : decode cX0_init 28 = .ok (.aload_n 0, 1) := by decide +kernel
theorem dX0_init_29 : decode cX0_init 29 = .ok (.bipush 20, 2) := by decide +kernel
theorem dX0_init_31 : decode cX0_init 31 = .ok (.newarray .int, 2) := by decide +kernel
theorem dX0_init_33 : decode cX0_init 33 = .ok (.putfield 19, 3) := by decide +kernel
theorem dX0_init_36 : decode cX0_init 36 = .ok (.aload_n 0, 1) := by decide +kernel
theorem dX0_init_37 : decode cX0_init 37 = .ok (.bipush 20, 2) := by decide +kernel
theorem dX0_init_39 : decode cX0_init 39 = .ok (.newarray .int, 2) := by decide +kernel
theorem dX0_init_41 : decode cX0_init 41 = .ok (.putfield 22, 3) := by decide +kernel
theorem dX0_init_44 : decode cX0_init 44 = .ok (.return_, 1) := by decide +kernel
theorem dX0_copyFrom_0 : decode cX0_copyFrom 0 = .ok (.aload_n 0, 1) := by decide +kernel
theorem dX0_copyFrom_1 : decode cX0_copyFrom 1 = .ok (.aload_n 1, 1) := by decide +kernel
theorem dX0_copyFrom_2 : decode cX0_copyFrom 2 = .ok (.getfield 25, 3) := by decide +kernel
theorem dX0_copyFrom_5 : decode cX0_copyFrom 5 = .ok (.putfield 25, 3) := by decide +kernel
theorem dX0_copyFrom_8 : decode cX0_copyFrom 8 = .ok (.aload_n 0, 1) := by decide +kernel
theorem dX0_copyFrom_9 : decode cX0_copyFrom 9 = .ok (.aload_n 1, 1) := by decide +kernel
theorem dX0_copyFrom_10 : decode cX0_copyFrom 10 = .ok (.getfield 29, 3) := by decide +kernel
theorem dX0_copyFrom_13 : decode cX0_copyFrom 13 = .ok (.putfield 29, 3) := by decide +kernel
theorem dX0_copyFrom_16 : decode cX0_copyFrom 16 = .ok (.aload_n 1, 1) := by decide +kernel
theorem dX0_copyFrom_17 : decode cX0_copyFrom 17 = .ok (.getfield 9, 3) := by decide +kernel
theorem dX0_copyFrom_20 : decode cX0_copyFrom 20 = .ok (.iconst 0, 1) := by decide +kernel
theorem dX0_copyFrom_21 : decode cX0_copyFrom 21 = .ok (.aload_n 0, 1) := by decide +kernel
theorem dX0_copyFrom_22 : decode cX0_copyFrom 22 = .ok (.getfield 9, 3) := by decide +kernel
theorem dX0_copyFrom_25 : decode cX0_copyFrom 25 = .ok (.iconst 0, 1) := by decide +kernel
theorem dX0_copyFrom_26 : decode cX0_copyFrom 26 = .ok (.bipush 20, 2) := by decide +kernel
theorem dX0_copyFrom_28 : decode cX0_copyFrom 28 = .ok (.invokestatic 32, 3) := by decide +kernel
theorem dX0_copyFrom_31 : decode cX0_copyFrom 31 = .ok (.aload_n 1, 1) := by decide +kernel
theorem dX0_copyFrom_32 : decode cX0_copyFrom 32 = .ok (.getfield 13, 3) := by decide +kernel
theorem dX0_copyFrom_35 : decode cX0_copyFrom 35 = .ok (.iconst 0, 1) := by decide +kernel
theorem dX0_copyFrom_36 : decode cX0_copyFrom 36 = .ok (.aload_n 0, 1) := by decide +kernel
theorem dX0_copyFrom_37 : decode cX0_copyFrom 37 = .ok (.getfield 13, 3) := by decide +kernel
theorem dX0_copyFrom_40 : decode cX0_copyFrom 40 = .ok (.iconst 0, 1) := by decide +kernel
theorem dX0_copyFrom_41 : decode cX0_copyFrom 41 = .ok (.bipush 20, 2) := by decide +kernel
theorem dX0_copyFrom_43 : decode cX0_copyFrom 43 = .ok (.invokestatic 32, 3) := by decide +kernel
theorem dX0_copyFrom_46 : decode cX0_copyFrom 46 = .ok (.aload_n 1, 1) := by decide +kernel
theorem dX0_copyFrom_47 : decode cX0_copyFrom 47 = .ok (.getfield 16, 3) := by decide +kernel
theorem dX0_copyFrom_50 : decode cX0_copyFrom 50 = .ok (.iconst 0, 1) := by decide +kernel
theorem dX0_copyFrom_51 : decode cX0_copyFrom 51 = .ok (.aload_n 0, 1) := by decide +kernel
theorem dX0_copyFrom_52 : decode cX0_copyFrom 52 = .ok (.getfield 16, 3) := by decide +kernel
theorem dX0_copyFrom_55 : decode cX0_copyFrom 55 = .ok (.iconst 0, 1) := by decide +kernel
theorem dX0_copyFrom_56 : decode cX0_copyFrom 56 = .ok (.bipush 20, 2) := by decide +kernel
theorem dX0_copyFrom_58 : decode cX0_copyFrom 58 = .ok (.invokestatic 32, 3) := by decide +kernel
theorem dX0_copyFrom_61 : decode cX0_copyFrom 61 = .ok (.aload_n 1, 1) := by decide +kernel
theorem dX0_copyFrom_62 : decode cX0_copyFrom 62 = .ok (.getfield 19, 3) := by decide +kernel
theorem dX0_copyFrom_65 : decode cX0_copyFrom 65 = .ok (.iconst 0, 1) := by decide +kernel
theorem dX0_copyFrom_66 : decode cX0_copyFrom 66 = .ok (.aload_n 0, 1) := by decide +kernel
theorem dX0_copyFrom_67 : decode cX0_copyFrom 67 = .ok (.getfield 19, 3) := by decide +kernel
theorem dX0_copyFrom_70 : decode cX0_copyFrom 70 = .ok (.iconst 0, 1) := by decide +kernel
theorem dX0_copyFrom_71 : decode cX0_copyFrom 71 = .ok (.bipush 20, 2) := by decide +kernel
theorem dX0_copyFrom_73 : decode cX0_copyFrom 73 = .ok (.invokestatic 32, 3) := by decide +kernel
theorem dX0_copyFrom_76 : decode cX0_copyFrom 76 = .ok (.aload_n 1, 1) := by decide +kernel
theorem dX0_copyFrom_77 : decode cX0_copyFrom 77 = .ok (.getfield 22, 3) := by decide +kernel
theorem dX0_copyFrom_80 : decode cX0_copyFrom 80 = .ok (.iconst 0, 1) := by decide +kernel
theorem dX0_copyFrom_81 : decode cX0_copyFrom 81 = .ok (.aload_n 0, 1) := by decide +kernel
theorem dX0_copyFrom_82 : decode cX0_copyFrom 82 = .ok (.getfield 22, 3) := by decide +kernel
theorem dX0_copyFrom_85 : decode cX0_copyFrom 85 = .ok (.iconst 0, 1) := by decide +kernel
theorem dX0_copyFrom_86 : decode cX0_copyFrom 86 = .ok (.bipush 20, 2) := by decide +kernel
theorem dX0_copyFrom_88 : decode cX0_copyFrom 88 = .ok (.invokestatic 32, 3) := by decide +kernel
theorem dX0_copyFrom_91 : decode cX0_copyFrom 91 = .ok (.return_, 1) := by decide +kernel
set_option maxRecDepth 20000 in
theorem ggX0_firstWrong_X0_leastDensity : GoodIn wsX0_firstWrong wsX0_leastDensity := goodIn_r _ [4] (by decide +kernel) (by decide +kernel)
set_option maxRecDepth 20000 in
theorem gX0_firstWrong_X0_leastDensity : GoodIn wsX0_firstWrong (va_wsS RX0 38 yX0_leastDensity wsX0_leastDensity) := goodIn_app (goodIn_of _ (by decide +kernel)) ggX0_firstWrong_X0_leastDensity
set_option maxRecDepth 20000 in
theorem ggX0_firstWrong_X0_mostDensity : GoodIn wsX0_firstWrong wsX0_mostDensity := goodIn_r _ [7] (by decide +kernel) (by decide +kernel)
set_option maxRecDepth 20000 in
theorem gX0_firstWrong_X0_mostDensity : GoodIn wsX0_firstWrong (va_wsS RX0 42 yX0_mostDensity wsX0_mostDensity) := goodIn_app (goodIn_of _ (by decide +kernel)) ggX0_firstWrong_X0_mostDensity
set_option maxRecDepth 20000 in
theorem ggX0_firstWrong_X0_leastMore : GoodIn wsX0_firstWrong wsX0_leastMore := goodIn_r _ [10] (by decide +kernel) (by decide +kernel)
set_option maxRecDepth 20000 in
theorem gX0_firstWrong_X0_leastMore : GoodIn wsX0_firstWrong (va_wsS RX0 45 yX0_leastMore wsX0_leastMore) := goodIn_app (goodIn_of _ (by decide +kernel)) ggX0_firstWrong_X0_leastMore
set_option maxRecDepth 20000 in
theorem ggX0_firstWrong_X0_mostMore : GoodIn wsX0_firstWrong wsX0_mostMore := goodIn_r _ [13] (by decide +kernel) (by decide +kernel)
set_option maxRecDepth 20000 in
theorem gX0_firstWrong_X0_mostMore : GoodIn wsX0_firstWrong (va_wsS RX0 48 yX0_mostMore wsX0_mostMore) := goodIn_app (goodIn_of _ (by decide +kernel)) ggX0_firstWrong_X0_mostMore
theorem dX0_firstWrong_0 : decode cX0_firstWrong 0 = .ok (.iload_n 1, 1) := by decide +kernel
theorem dX0_firstWrong_1 : decode cX0_firstWrong 1 = .ok (.iconst 1, 1) := by decide +kernel
theorem dX0_firstWrong_2 : decode cX0_firstWrong 2 = .ok (.if_icmp .lt 10, 3) := by decide +kernel
theorem dX0_firstWrong_5 : decode cX0_firstWrong 5 = .ok (.iload_n 1, 1) := by decide +kernel
theorem dX0_firstWrong_6 : decode cX0_firstWrong 6 = .ok (.sipush 300, 3) := by decide +kernel
theorem dX0_firstWrong_9 : decode cX0_firstWrong 9 = .ok (.if_icmp .le 5, 3) := by decide +kernel
theorem dX0_firstWrong_12 : decode cX0_firstWrong 12 = .ok (.iconst 1, 1) := by decide +kernel
theorem dX0_firstWrong_13 : decode cX0_firstWrong 13 = .ok (.ireturn, 1) := by decide +kernel
theorem dX0_firstWrong_14 : decode cX0_firstWrong 14 = .ok (.iload_n 2, 1) := by decide +kernel
theorem dX0_firstWrong_15 : decode cX0_firstWrong 15 = .ok (.iload_n 0, 1) := by decide +kernel
theorem dX0_firstWrong_16 : decode cX0_firstWrong 16 = .ok (.invokestatic 38, 3) := by decide +kernel
theorem dX0_firstWrong_19 : decode cX0_firstWrong 19 = .ok (.if_icmp .lt 11, 3) := by decide +kernel
theorem dX0_firstWrong_22 : decode cX0_firstWrong 22 = .ok (.iload_n 2, 1) := by decide +kernel
theorem dX0_firstWrong_23 : decode cX0_firstWrong 23 = .ok (.iload_n 0, 1) := by decide +kernel
theorem dX0_firstWrong_24 : decode cX0_firstWrong 24 = .ok (.invokestatic 42, 3) := by decide +kernel
theorem dX0_firstWrong_27 : decode cX0_firstWrong 27 = .ok (.if_icmp .le 5, 3) := by decide +kernel
theorem dX0_firstWrong_30 : decode cX0_firstWrong 30 = .ok (.iconst 2, 1) := by decide +kernel
theorem dX0_firstWrong_31 : decode cX0_firstWrong 31 = .ok (.ireturn, 1) := by decide +kernel
theorem dX0_firstWrong_32 : decode cX0_firstWrong 32 = .ok (.iload_n 3, 1) := by decide +kernel
theorem dX0_firstWrong_33 : decode cX0_firstWrong 33 = .ok (.iload_n 0, 1) := by decide +kernel
theorem dX0_firstWrong_34 : decode cX0_firstWrong 34 = .ok (.invokestatic 45, 3) := by decide +kernel
theorem dX0_firstWrong_37 : decode cX0_firstWrong 37 = .ok (.if_icmp .lt 11, 3) := by decide +kernel
theorem dX0_firstWrong_40 : decode cX0_firstWrong 40 = .ok (.iload_n 3, 1) := by decide +kernel
theorem dX0_firstWrong_41 : decode cX0_firstWrong 41 = .ok (.iload_n 0, 1) := by decide +kernel
theorem dX0_firstWrong_42 : decode cX0_firstWrong 42 = .ok (.invokestatic 48, 3) := by decide +kernel
theorem dX0_firstWrong_45 : decode cX0_firstWrong 45 = .ok (.if_icmp .le 7, 3) := by decide +kernel
theorem dX0_firstWrong_48 : decode cX0_firstWrong 48 = .ok (.iconst 3, 1) := by decide +kernel
theorem dX0_firstWrong_49 : decode cX0_firstWrong 49 = .ok (.goto 4, 3) := by decide +kernel
theorem dX0_firstWrong_52 : decode cX0_firstWrong 52 = .ok (.iconst 0, 1) := by decide +kernel
theorem dX0_firstWrong_53 : decode cX0_firstWrong 53 = .ok (.ireturn, 1) := by decide +kernel
theorem dX0_leastDensity_0 : decode cX0_leastDensity 0 = .ok (.iload_n 0, 1) := by decide +kernel
theorem dX0_leastDensity_1 : decode cX0_leastDensity 1 = .ok (.iconst 1, 1) := by decide +kernel
theorem dX0_leastDensity_2 : decode cX0_leastDensity 2 = .ok (.if_icmp .ne 7, 3) := by decide +kernel
theorem dX0_leastDensity_5 : decode cX0_leastDensity 5 = .ok (.iconst 0, 1) := by decide +kernel
theorem dX0_leastDensity_6 : decode cX0_leastDensity 6 = .ok (.goto 5, 3) := by decide +kernel
theorem dX0_leastDensity_9 : decode cX0_leastDensity 9 = .ok (.bipush 60, 2) := by decide +kernel
theorem dX0_leastDensity_11 : decode cX0_leastDensity 11 = .ok (.ireturn, 1) := by decide +kernel
theorem dX0_mostDensity_0 : decode cX0_mostDensity 0 = .ok (.iload_n 0, 1) := by decide +kernel
theorem dX0_mostDensity_1 : decode cX0_mostDensity 1 = .ok (.iconst 1, 1) := by decide +kernel
theorem dX0_mostDensity_2 : decode cX0_mostDensity 2 = .ok (.if_icmp .ne 7, 3) := by decide +kernel
theorem dX0_mostDensity_5 : decode cX0_mostDensity 5 = .ok (.iconst 0, 1) := by decide +kernel
theorem dX0_mostDensity_6 : decode cX0_mostDensity 6 = .ok (.goto 5, 3) := by decide +kernel
theorem dX0_mostDensity_9 : decode cX0_mostDensity 9 = .ok (.bipush 92, 2) := by decide +kernel
theorem dX0_mostDensity_11 : decode cX0_mostDensity 11 = .ok (.ireturn, 1) := by decide +kernel
theorem dX0_leastMore_0 : decode cX0_leastMore 0 = .ok (.iload_n 0, 1) := by decide +kernel
theorem dX0_leastMore_1 : decode cX0_leastMore 1 = .ok (.iconst 2, 1) := by decide +kernel
theorem dX0_leastMore_2 : decode cX0_leastMore 2 = .ok (.if_icmp .ne 7, 3) := by decide +kernel
theorem dX0_leastMore_5 : decode cX0_leastMore 5 = .ok (.iconst 1, 1) := by decide +kernel
theorem dX0_leastMore_6 : decode cX0_leastMore 6 = .ok (.goto 4, 3) := by decide +kernel
theorem dX0_leastMore_9 : decode cX0_leastMore 9 = .ok (.iconst 0, 1) := by decide +kernel
theorem dX0_leastMore_10 : decode cX0_leastMore 10 = .ok (.ireturn, 1) := by decide +kernel
theorem dX0_mostMore_0 : decode cX0_mostMore 0 = .ok (.iload_n 0, 1) := by decide +kernel
theorem dX0_mostMore_1 : decode cX0_mostMore 1 = .ok (.lookupswitch 33 #[(0, 27), (2, 30)], 27) := by decide +kernel
theorem dX0_mostMore_28 : decode cX0_mostMore 28 = .ok (.bipush 50, 2) := by decide +kernel
theorem dX0_mostMore_30 : decode cX0_mostMore 30 = .ok (.ireturn, 1) := by decide +kernel
theorem dX0_mostMore_31 : decode cX0_mostMore 31 = .ok (.bipush 100, 2) := by decide +kernel
theorem dX0_mostMore_33 : decode cX0_mostMore 33 = .ok (.ireturn, 1) := by decide +kernel
theorem dX0_mostMore_34 : decode cX0_mostMore 34 = .ok (.iconst 0, 1) := by decide +kernel
theorem dX0_mostMore_35 : decode cX0_mostMore 35 = .ok (.ireturn, 1) := by decide +kernel
theorem dX0_isFull_0 : decode cX0_isFull 0 = .ok (.aload_n 0, 1) := by decide +kernel
theorem dX0_isFull_1 : decode cX0_isFull 1 = .ok (.getfield 25, 3) := by decide +kernel
theorem dX0_isFull_4 : decode cX0_isFull 4 = .ok (.bipush 20, 2) := by decide +kernel
theorem dX0_isFull_6 : decode cX0_isFull 6 = .ok (.if_icmp .lt 7, 3) := by decide +kernel
theorem dX0_isFull_9 : decode cX0_isFull 9 = .ok (.iconst 1, 1) := by decide +kernel
theorem dX0_isFull_10 : decode cX0_isFull 10 = .ok (.goto 4, 3) := by decide +kernel
theorem dX0_isFull_13 : decode cX0_isFull 13 = .ok (.iconst 0, 1) := by decide +kernel
theorem dX0_isFull_14 : decode cX0_isFull 14 = .ok (.ireturn, 1) := by decide +kernel
set_option maxRecDepth 20000 in
theorem ggX0_put_X0_isFull : GoodIn wsX0_put wsX0_isFull := goodIn_r _ [12, 2, 13, 14, 15, 16, 17, 18, 19] (by decide +kernel) (by decide +kernel)
set_option maxRecDepth 20000 in
theorem gX0_put_X0_isFull : GoodIn wsX0_put (wsV RX0 51 RX0 yX0_isFull wsX0_isFull) := goodIn_app (goodIn_of _ (by decide +kernel)) ggX0_put_X0_isFull
theorem dX0_put_0 : decode cX0_put 0 = .ok (.aload_n 0, 1) := by decide +kernel
theorem dX0_put_1 : decode cX0_put 1 = .ok (.invokevirtual 51, 3) := by decide +kernel
theorem dX0_put_4 : decode cX0_put 4 = .ok (.ifCond .eq 4, 3) := by decide +kernel
theorem dX0_put_7 : decode cX0_put 7 = .ok (.return_, 1) := by decide +kernel
theorem dX0_put_8 : decode cX0_put 8 = .ok (.aload_n 0, 1) := by decide +kernel
theorem dX0_put_9 : decode cX0_put 9 = .ok (.getfield 9, 3) := by decide +kernel
theorem dX0_put_12 : decode cX0_put 12 = .ok (.aload_n 0, 1) := by decide +kernel
theorem dX0_put_13 : decode cX0_put 13 = .ok (.getfield 25, 3) := by decide +kernel
theorem dX0_put_16 : decode cX0_put 16 = .ok (.iload_n 1, 1) := by decide +kernel
theorem dX0_put_17 : decode cX0_put 17 = .ok (.iastore, 1) := by decide +kernel
theorem dX0_put_18 : decode cX0_put 18 = .ok (.aload_n 0, 1) := by decide +kernel
theorem dX0_put_19 : decode cX0_put 19 = .ok (.getfield 13, 3) := by decide +kernel
theorem dX0_put_22 : decode cX0_put 22 = .ok (.aload_n 0, 1) := by decide +kernel
theorem dX0_put_23 : decode cX0_put 23 = .ok (.getfield 25, 3) := by decide +kernel
theorem dX0_put_26 : decode cX0_put 26 = .ok (.iload_n 2, 1) := by decide +kernel
theorem dX0_put_27 : decode cX0_put 27 = .ok (.iastore, 1) := by decide +kernel
theorem dX0_put_28 : decode cX0_put 28 = .ok (.aload_n 0, 1) := by decide +kernel
theorem dX0_put_29 : decode cX0_put 29 = .ok (.getfield 16, 3) := by decide +kernel
theorem dX0_put_32 : decode cX0_put 32 = .ok (.aload_n 0, 1) := by decide +kernel
theorem dX0_put_33 : decode cX0_put 33 = .ok (.getfield 25, 3) := by decide +kernel
theorem dX0_put_36 : decode cX0_put 36 = .ok (.iload_n 3, 1) := by decide +kernel
theorem dX0_put_37 : decode cX0_put 37 = .ok (.iastore, 1) := by decide +kernel
theorem dX0_put_38 : decode cX0_put 38 = .ok (.aload_n 0, 1) := by decide +kernel
theorem dX0_put_39 : decode cX0_put 39 = .ok (.getfield 19, 3) := by decide +kernel
theorem dX0_put_42 : decode cX0_put 42 = .ok (.aload_n 0, 1) := by decide +kernel
theorem dX0_put_43 : decode cX0_put 43 = .ok (.getfield 25, 3) := by decide +kernel
theorem dX0_put_46 : decode cX0_put 46 = .ok (.iload 4, 2) := by decide +kernel
theorem dX0_put_48 : decode cX0_put 48 = .ok (.iastore, 1) := by decide +kernel
theorem dX0_put_49 : decode cX0_put 49 = .ok (.aload_n 0, 1) := by decide +kernel
theorem dX0_put_50 : decode cX0_put 50 = .ok (.getfield 22, 3) := by decide +kernel
theorem dX0_put_53 : decode cX0_put 53 = .ok (.aload_n 0, 1) := by decide +kernel
theorem dX0_put_54 : decode cX0_put 54 = .ok (.getfield 25, 3) := by decide +kernel
theorem dX0_put_57 : decode cX0_put 57 = .ok (.aload_n 0, 1) := by decide +kernel
theorem dX0_put_58 : decode cX0_put 58 = .ok (.getfield 29, 3) := by decide +kernel
theorem dX0_put_61 : decode cX0_put 61 = .ok (.iastore, 1) := by decide +kernel
theorem dX0_put_62 : decode cX0_put 62 = .ok (.aload_n 0, 1) := by decide +kernel
theorem dX0_put_63 : decode cX0_put 63 = .ok (.dup, 1) := by decide +kernel
theorem dX0_put_64 : decode cX0_put 64 = .ok (.getfield 29, 3) := by decide +kernel
theorem dX0_put_67 : decode cX0_put 67 = .ok (.iload_n 2, 1) := by decide +kernel
theorem dX0_put_68 : decode cX0_put 68 = .ok (.iadd, 1) := by decide +kernel
theorem dX0_put_69 : decode cX0_put 69 = .ok (.putfield 29, 3) := by decide +kernel
theorem dX0_put_72 : decode cX0_put 72 = .ok (.aload_n 0, 1) := by decide +kernel
theorem dX0_put_73 : decode cX0_put 73 = .ok (.dup, 1) := by decide +kernel
theorem dX0_put_74 : decode cX0_put 74 = .ok (.getfield 25, 3) := by decide +kernel
theorem dX0_put_77 : decode cX0_put 77 = .ok (.iconst 1, 1) := by decide +kernel
theorem dX0_put_78 : decode cX0_put 78 = .ok (.iadd, 1) := by decide +kernel
theorem dX0_put_79 : decode cX0_put 79 = .ok (.putfield 25, 3) := by decide +kernel
theorem dX0_put_82 : decode cX0_put 82 = .ok (.return_, 1) := by decide +kernel
theorem dX0_end_0 : decode cX0_end 0 = .ok (.aload_n 0, 1) := by decide +kernel
theorem dX0_end_1 : decode cX0_end 1 = .ok (.getfield 22, 3) := by decide +kernel
theorem dX0_end_4 : decode cX0_end 4 = .ok (.iload_n 1, 1) := by decide +kernel
theorem dX0_end_5 : decode cX0_end 5 = .ok (.iaload, 1) := by decide +kernel
theorem dX0_end_6 : decode cX0_end 6 = .ok (.aload_n 0, 1) := by decide +kernel
theorem dX0_end_7 : decode cX0_end 7 = .ok (.getfield 13, 3) := by decide +kernel
theorem dX0_end_10 : decode cX0_end 10 = .ok (.iload_n 1, 1) := by decide +kernel
theorem dX0_end_11 : decode cX0_end 11 = .ok (.iaload, 1) := by decide +kernel
theorem dX0_end_12 : decode cX0_end 12 = .ok (.iadd, 1) := by decide +kernel
theorem dX0_end_13 : decode cX0_end 13 = .ok (.ireturn, 1) := by decide +kernel
set_option maxRecDepth 20000 in
theorem ggX0_holding_X0_end : GoodIn wsX0_holding wsX0_end := goodIn_r _ [6, 7, 8, 9, 10, 11, 12, 13, 14, 15] (by decide +kernel) (by decide +kernel)
set_option maxRecDepth 20000 in
theorem gX0_holding_X0_end : GoodIn wsX0_holding (wsV RX0 55 RX0 yX0_end wsX0_end) := goodIn_app (goodIn_of _ (by decide +kernel)) ggX0_holding_X0_end
theorem dX0_holding_0 : decode cX0_holding 0 = .ok (.iconst 0, 1) := by decide +kernel
theorem dX0_holding_1 : decode cX0_holding 1 = .ok (.istore_n 2, 1) := by decide +kernel
theorem dX0_holding_2 : decode cX0_holding 2 = .ok (.iload_n 2, 1) := by decide +kernel
theorem dX0_holding_3 : decode cX0_holding 3 = .ok (.aload_n 0, 1) := by decide +kernel
theorem dX0_holding_4 : decode cX0_holding 4 = .ok (.getfield 25, 3) := by decide +kernel
theorem dX0_holding_7 : decode cX0_holding 7 = .ok (.if_icmp .ge 18, 3) := by decide +kernel
theorem dX0_holding_10 : decode cX0_holding 10 = .ok (.iload_n 1, 1) := by decide +kernel
theorem dX0_holding_11 : decode cX0_holding 11 = .ok (.aload_n 0, 1) := by decide +kernel
theorem dX0_holding_12 : decode cX0_holding 12 = .ok (.iload_n 2, 1) := by decide +kernel
theorem dX0_holding_13 : decode cX0_holding 13 = .ok (.invokevirtual 55, 3) := by decide +kernel
theorem dX0_holding_16 : decode cX0_holding 16 = .ok (.if_icmp .lt 9, 3) := by decide +kernel
theorem dX0_holding_19 : decode cX0_holding 19 = .ok (.iinc 2 1, 3) := by decide +kernel
theorem dX0_holding_22 : decode cX0_holding 22 = .ok (.goto (-20), 3) := by decide +kernel
theorem dX0_holding_25 : decode cX0_holding 25 = .ok (.iload_n 2, 1) := by decide +kernel
theorem dX0_holding_26 : decode cX0_holding 26 = .ok (.ireturn, 1) := by decide +kernel
theorem dX0_gasOfUnit_0 : decode cX0_gasOfUnit 0 = .ok (.aload_n 0, 1) := by decide +kernel
theorem dX0_gasOfUnit_1 : decode cX0_gasOfUnit 1 = .ok (.getfield 9, 3) := by decide +kernel
theorem dX0_gasOfUnit_4 : decode cX0_gasOfUnit 4 = .ok (.iload_n 1, 1) := by decide +kernel
theorem dX0_gasOfUnit_5 : decode cX0_gasOfUnit 5 = .ok (.iaload, 1) := by decide +kernel
theorem dX0_gasOfUnit_6 : decode cX0_gasOfUnit 6 = .ok (.ifCond .ne 22, 3) := by decide +kernel
theorem dX0_gasOfUnit_9 : decode cX0_gasOfUnit 9 = .ok (.aload_n 0, 1) := by decide +kernel
theorem dX0_gasOfUnit_10 : decode cX0_gasOfUnit 10 = .ok (.getfield 16, 3) := by decide +kernel
theorem dX0_gasOfUnit_13 : decode cX0_gasOfUnit 13 = .ok (.iload_n 1, 1) := by decide +kernel
theorem dX0_gasOfUnit_14 : decode cX0_gasOfUnit 14 = .ok (.iaload, 1) := by decide +kernel
theorem dX0_gasOfUnit_15 : decode cX0_gasOfUnit 15 = .ok (.aload_n 0, 1) := by decide +kernel
theorem dX0_gasOfUnit_16 : decode cX0_gasOfUnit 16 = .ok (.getfield 19, 3) := by decide +kernel
theorem dX0_gasOfUnit_19 : decode cX0_gasOfUnit 19 = .ok (.iload_n 1, 1) := by decide +kernel
theorem dX0_gasOfUnit_20 : decode cX0_gasOfUnit 20 = .ok (.iaload, 1) := by decide +kernel
theorem dX0_gasOfUnit_21 : decode cX0_gasOfUnit 21 = .ok (.imul, 1) := by decide +kernel
theorem dX0_gasOfUnit_22 : decode cX0_gasOfUnit 22 = .ok (.bipush 100, 2) := by decide +kernel
theorem dX0_gasOfUnit_24 : decode cX0_gasOfUnit 24 = .ok (.idiv, 1) := by decide +kernel
theorem dX0_gasOfUnit_25 : decode cX0_gasOfUnit 25 = .ok (.goto 4, 3) := by decide +kernel
theorem dX0_gasOfUnit_28 : decode cX0_gasOfUnit 28 = .ok (.iconst 0, 1) := by decide +kernel
theorem dX0_gasOfUnit_29 : decode cX0_gasOfUnit 29 = .ok (.ireturn, 1) := by decide +kernel
theorem dX0_dirtOfUnit_0 : decode cX0_dirtOfUnit 0 = .ok (.aload_n 0, 1) := by decide +kernel
theorem dX0_dirtOfUnit_1 : decode cX0_dirtOfUnit 1 = .ok (.getfield 9, 3) := by decide +kernel
theorem dX0_dirtOfUnit_4 : decode cX0_dirtOfUnit 4 = .ok (.iload_n 1, 1) := by decide +kernel
theorem dX0_dirtOfUnit_5 : decode cX0_dirtOfUnit 5 = .ok (.iaload, 1) := by decide +kernel
theorem dX0_dirtOfUnit_6 : decode cX0_dirtOfUnit 6 = .ok (.iconst 2, 1) := by decide +kernel
theorem dX0_dirtOfUnit_7 : decode cX0_dirtOfUnit 7 = .ok (.if_icmp .ne 12, 3) := by decide +kernel
theorem dX0_dirtOfUnit_10 : decode cX0_dirtOfUnit 10 = .ok (.aload_n 0, 1) := by decide +kernel
theorem dX0_dirtOfUnit_11 : decode cX0_dirtOfUnit 11 = .ok (.getfield 19, 3) := by decide +kernel
theorem dX0_dirtOfUnit_14 : decode cX0_dirtOfUnit 14 = .ok (.iload_n 1, 1) := by decide +kernel
theorem dX0_dirtOfUnit_15 : decode cX0_dirtOfUnit 15 = .ok (.iaload, 1) := by decide +kernel
theorem dX0_dirtOfUnit_16 : decode cX0_dirtOfUnit 16 = .ok (.goto 4, 3) := by decide +kernel
theorem dX0_dirtOfUnit_19 : decode cX0_dirtOfUnit 19 = .ok (.iconst 0, 1) := by decide +kernel
theorem dX0_dirtOfUnit_20 : decode cX0_dirtOfUnit 20 = .ok (.ireturn, 1) := by decide +kernel
theorem dX0_partBelow_0 : decode cX0_partBelow 0 = .ok (.iconst 0, 1) := by decide +kernel
theorem dX0_partBelow_1 : decode cX0_partBelow 1 = .ok (.iload_n 1, 1) := by decide +kernel
theorem dX0_partBelow_2 : decode cX0_partBelow 2 = .ok (.aload_n 0, 1) := by decide +kernel
theorem dX0_partBelow_3 : decode cX0_partBelow 3 = .ok (.getfield 22, 3) := by decide +kernel
theorem dX0_partBelow_6 : decode cX0_partBelow 6 = .ok (.iload_n 2, 1) := by decide +kernel
theorem dX0_partBelow_7 : decode cX0_partBelow 7 = .ok (.iaload, 1) := by decide +kernel
theorem dX0_partBelow_8 : decode cX0_partBelow 8 = .ok (.isub, 1) := by decide +kernel
theorem dX0_partBelow_9 : decode cX0_partBelow 9 = .ok (.aload_n 0, 1) := by decide +kernel
theorem dX0_partBelow_10 : decode cX0_partBelow 10 = .ok (.getfield 13, 3) := by decide +kernel
theorem dX0_partBelow_13 : decode cX0_partBelow 13 = .ok (.iload_n 2, 1) := by decide +kernel
theorem dX0_partBelow_14 : decode cX0_partBelow 14 = .ok (.iaload, 1) := by decide +kernel
theorem dX0_partBelow_15 : decode cX0_partBelow 15 = .ok (.invokestatic 58, 3) := by decide +kernel
theorem dX0_partBelow_18 : decode cX0_partBelow 18 = .ok (.invokestatic 64, 3) := by decide +kernel
theorem dX0_partBelow_21 : decode cX0_partBelow 21 = .ok (.ireturn, 1) := by decide +kernel
set_option maxRecDepth 20000 in
theorem ggX0_waterUpTo_X0_partBelow : GoodIn wsX0_waterUpTo wsX0_partBelow := goodIn_r _ [7, 8, 9, 10, 11, 12, 13, 14, 15, 16, 17, 18, 19, 20, 21, 22, 23] (by decide +kernel) (by decide +kernel)
set_option maxRecDepth 20000 in
theorem gX0_waterUpTo_X0_partBelow : GoodIn wsX0_waterUpTo (wsV RX0 67 RX0 yX0_partBelow wsX0_partBelow) := goodIn_app (goodIn_of _ (by decide +kernel)) ggX0_waterUpTo_X0_partBelow
theorem dX0_waterUpTo_0 : decode cX0_waterUpTo 0 = .ok (.iconst 0, 1) := by decide +kernel
theorem dX0_waterUpTo_1 : decode cX0_waterUpTo 1 = .ok (.istore_n 2, 1) := by decide +kernel
theorem dX0_waterUpTo_2 : decode cX0_waterUpTo 2 = .ok (.iconst 0, 1) := by decide +kernel
theorem dX0_waterUpTo_3 : decode cX0_waterUpTo 3 = .ok (.istore_n 3, 1) := by decide +kernel
theorem dX0_waterUpTo_4 : decode cX0_waterUpTo 4 = .ok (.iload_n 3, 1) := by decide +kernel
theorem dX0_waterUpTo_5 : decode cX0_waterUpTo 5 = .ok (.aload_n 0, 1) := by decide +kernel
theorem dX0_waterUpTo_6 : decode cX0_waterUpTo 6 = .ok (.getfield 25, 3) := by decide +kernel
theorem dX0_waterUpTo_9 : decode cX0_waterUpTo 9 = .ok (.if_icmp .ge 25, 3) := by decide +kernel
theorem dX0_waterUpTo_12 : decode cX0_waterUpTo 12 = .ok (.iload_n 2, 1) := by decide +kernel
theorem dX0_waterUpTo_13 : decode cX0_waterUpTo 13 = .ok (.aload_n 0, 1) := by decide +kernel
theorem dX0_waterUpTo_14 : decode cX0_waterUpTo 14 = .ok (.getfield 16, 3) := by decide +kernel
theorem dX0_waterUpTo_17 : decode cX0_waterUpTo 17 = .ok (.iload_n 3, 1) := by decide +kernel
theorem dX0_waterUpTo_18 : decode cX0_waterUpTo 18 = .ok (.iaload, 1) := by decide +kernel
theorem dX0_waterUpTo_19 : decode cX0_waterUpTo 19 = .ok (.aload_n 0, 1) := by decide +kernel
theorem dX0_waterUpTo_20 : decode cX0_waterUpTo 20 = .ok (.iload_n 1, 1) := by decide +kernel
theorem dX0_waterUpTo_21 : decode cX0_waterUpTo 21 = .ok (.iload_n 3, 1) := by decide +kernel
theorem dX0_waterUpTo_22 : decode cX0_waterUpTo 22 = .ok (.invokevirtual 67, 3) := by decide +kernel
theorem dX0_waterUpTo_25 : decode cX0_waterUpTo 25 = .ok (.imul, 1) := by decide +kernel
theorem dX0_waterUpTo_26 : decode cX0_waterUpTo 26 = .ok (.iadd, 1) := by decide +kernel
theorem dX0_waterUpTo_27 : decode cX0_waterUpTo 27 = .ok (.istore_n 2, 1) := by decide +kernel
theorem dX0_waterUpTo_28 : decode cX0_waterUpTo 28 = .ok (.iinc 3 1, 3) := by decide +kernel
theorem dX0_waterUpTo_31 : decode cX0_waterUpTo 31 = .ok (.goto (-27), 3) := by decide +kernel
theorem dX0_waterUpTo_34 : decode cX0_waterUpTo 34 = .ok (.iload_n 2, 1) := by decide +kernel
theorem dX0_waterUpTo_35 : decode cX0_waterUpTo 35 = .ok (.ireturn, 1) := by decide +kernel
theorem dX0_depthOf_0 : decode cX0_depthOf 0 = .ok (.iload_n 1, 1) := by decide +kernel
theorem dX0_depthOf_1 : decode cX0_depthOf 1 = .ok (.istore_n 2, 1) := by decide +kernel
theorem dX0_depthOf_2 : decode cX0_depthOf 2 = .ok (.iconst 0, 1) := by decide +kernel
theorem dX0_depthOf_3 : decode cX0_depthOf 3 = .ok (.istore_n 3, 1) := by decide +kernel
theorem dX0_depthOf_4 : decode cX0_depthOf 4 = .ok (.iconst 0, 1) := by decide +kernel
theorem dX0_depthOf_5 : decode cX0_depthOf 5 = .ok (.istore 4, 2) := by decide +kernel
theorem dX0_depthOf_7 : decode cX0_depthOf 7 = .ok (.iload 4, 2) := by decide +kernel
theorem dX0_depthOf_9 : decode cX0_depthOf 9 = .ok (.aload_n 0, 1) := by decide +kernel
theorem dX0_depthOf_10 : decode cX0_depthOf 10 = .ok (.getfield 25, 3) := by decide +kernel
theorem dX0_depthOf_13 : decode cX0_depthOf 13 = .ok (.if_icmp .ge 77, 3) := by decide +kernel
theorem dX0_depthOf_16 : decode cX0_depthOf 16 = .ok (.aload_n 0, 1) := by decide +kernel
theorem dX0_depthOf_17 : decode cX0_depthOf 17 = .ok (.getfield 16, 3) := by decide +kernel
theorem dX0_depthOf_20 : decode cX0_depthOf 20 = .ok (.iload 4, 2) := by decide +kernel
theorem dX0_depthOf_22 : decode cX0_depthOf 22 = .ok (.iaload, 1) := by decide +kernel
theorem dX0_depthOf_23 : decode cX0_depthOf 23 = .ok (.istore 5, 2) := by decide +kernel
theorem dX0_depthOf_25 : decode cX0_depthOf 25 = .ok (.iload 5, 2) := by decide +kernel
theorem dX0_depthOf_27 : decode cX0_depthOf 27 = .ok (.ifCond .le 20, 3) := by decide +kernel
theorem dX0_depthOf_30 : decode cX0_depthOf 30 = .ok (.aload_n 0, 1) := by decide +kernel
theorem dX0_depthOf_31 : decode cX0_depthOf 31 = .ok (.getfield 13, 3) := by decide +kernel
theorem dX0_depthOf_34 : decode cX0_depthOf 34 = .ok (.iload 4, 2) := by decide +kernel
theorem dX0_depthOf_36 : decode cX0_depthOf 36 = .ok (.iaload, 1) := by decide +kernel
theorem dX0_depthOf_37 : decode cX0_depthOf 37 = .ok (.iload_n 2, 1) := by decide +kernel
theorem dX0_depthOf_38 : decode cX0_depthOf 38 = .ok (.iload 5, 2) := by decide +kernel
theorem dX0_depthOf_40 : decode cX0_depthOf 40 = .ok (.idiv, 1) := by decide +kernel
theorem dX0_depthOf_41 : decode cX0_depthOf 41 = .ok (.invokestatic 58, 3) := by decide +kernel
theorem dX0_depthOf_44 : decode cX0_depthOf 44 = .ok (.goto 10, 3) := by decide +kernel
theorem dX0_depthOf_47 : decode cX0_depthOf 47 = .ok (.aload_n 0, 1) := by decide +kernel
theorem dX0_depthOf_48 : decode cX0_depthOf 48 = .ok (.getfield 13, 3) := by decide +kernel
theorem dX0_depthOf_51 : decode cX0_depthOf 51 = .ok (.iload 4, 2) := by decide +kernel
theorem dX0_depthOf_53 : decode cX0_depthOf 53 = .ok (.iaload, 1) := by decide +kernel
theorem dX0_depthOf_54 : decode cX0_depthOf 54 = .ok (.istore 6, 2) := by decide +kernel
theorem dX0_depthOf_56 : decode cX0_depthOf 56 = .ok (.iload_n 3, 1) := by decide +kernel
theorem dX0_depthOf_57 : decode cX0_depthOf 57 = .ok (.iload 6, 2) := by decide +kernel
theorem dX0_depthOf_59 : decode cX0_depthOf 59 = .ok (.iadd, 1) := by decide +kernel
theorem dX0_depthOf_60 : decode cX0_depthOf 60 = .ok (.istore_n 3, 1) := by decide +kernel
theorem dX0_depthOf_61 : decode cX0_depthOf 61 = .ok (.iload_n 2, 1) := by decide +kernel
theorem dX0_depthOf_62 : decode cX0_depthOf 62 = .ok (.iload 6, 2) := by decide +kernel
theorem dX0_depthOf_64 : decode cX0_depthOf 64 = .ok (.iload 5, 2) := by decide +kernel
theorem dX0_depthOf_66 : decode cX0_depthOf 66 = .ok (.imul, 1) := by decide +kernel
theorem dX0_depthOf_67 : decode cX0_depthOf 67 = .ok (.isub, 1) := by decide +kernel
theorem dX0_depthOf_68 : decode cX0_depthOf 68 = .ok (.istore_n 2, 1) := by decide +kernel
theorem dX0_depthOf_69 : decode cX0_depthOf 69 = .ok (.iload 6, 2) := by decide +kernel
theorem dX0_depthOf_71 : decode cX0_depthOf 71 = .ok (.aload_n 0, 1) := by decide +kernel
theorem dX0_depthOf_72 : decode cX0_depthOf 72 = .ok (.getfield 13, 3) := by decide +kernel
theorem dX0_depthOf_75 : decode cX0_depthOf 75 = .ok (.iload 4, 2) := by decide +kernel
theorem dX0_depthOf_77 : decode cX0_depthOf 77 = .ok (.iaload, 1) := by decide +kernel
theorem dX0_depthOf_78 : decode cX0_depthOf 78 = .ok (.if_icmp .ge 6, 3) := by decide +kernel
theorem dX0_depthOf_81 : decode cX0_depthOf 81 = .ok (.goto 9, 3) := by decide +kernel
theorem dX0_depthOf_84 : decode cX0_depthOf 84 = .ok (.iinc 4 1, 3) := by decide +kernel
theorem dX0_depthOf_87 : decode cX0_depthOf 87 = .ok (.goto (-80), 3) := by decide +kernel
theorem dX0_depthOf_90 : decode cX0_depthOf 90 = .ok (.iload_n 3, 1) := by decide +kernel
theorem dX0_depthOf_91 : decode cX0_depthOf 91 = .ok (.ireturn, 1) := by decide +kernel
set_option maxRecDepth 20000 in
theorem ggX1_init_X3_init : GoodIn wsX1_init wsX3_init := goodIn_r _ [10, 11, 2, 3, 12, 13, 14, 15, 16, 17, 18, 19, 20, 21, 22, 23, 24, 25, 26, 27, 28, 29, 30, 31, 32, 33, 34, 35, 36, 37, 38, 39, 40, 41, 42, 43, 44, 45, 46, 47, 48, 49, 50, 51, 52, 53, 72, 73, 74, 75, 76, 77, 78, 57, 58, 59, 60, 61, 62, 63, 64, 65, 66, 67, 68, 69, 70, 71, 79, 80, 81, 82, 83, 84, 85, 86, 87, 88] (by decide +kernel) (by decide +kernel)
set_option maxRecDepth 20000 in
theorem gX1_init_X3_init : GoodIn wsX1_init (wsX3_init) := ggX1_init_X3_init
theorem dX1_init_0 : decode cX1_init 0 = .ok (.aload_n 0, 1) := by decide +kernel
theorem dX1_init_1 : decode cX1_init 1 = .ok (.invokespecial 1, 3) := by decide +kernel
theorem dX1_init_4 : decode cX1_init 4 = .ok (.aload_n 0, 1) := by decide +kernel
theorem dX1_init_5 : decode cX1_init 5 = .ok (.iconst 5, 1) := by decide +kernel
theorem dX1_init_6 : decode cX1_init 6 = .ok (.anewarray 9, 3) := by decide +kernel
theorem dX1_init_9 : decode cX1_init 9 = .ok (.putfield 11, 3) := by decide +kernel
theorem dX1_init_12 : decode cX1_init 12 = .ok (.iconst 0, 1) := by decide +kernel
theorem dX1_init_13 : decode cX1_init 13 = .ok (.istore_n 1, 1) := by decide +kernel
theorem dX1_init_14 : decode cX1_init 14 = .ok (.iload_n 1, 1) := by decide +kernel
theorem dX1_init_15 : decode cX1_init 15 = .ok (.iconst 5, 1) := by decide +kernel
theorem dX1_init_16 : decode cX1_init 16 = .ok (.if_icmp .ge 22, 3) := by decide +kernel
theorem dX1_init_19 : decode cX1_init 19 = .ok (.aload_n 0, 1) := by decide +kernel
theorem dX1_init_20 : decode cX1_init 20 = .ok (.getfield 11, 3) := by decide +kernel
theorem dX1_init_23 : decode cX1_init 23 = .ok (.iload_n 1, 1) := by decide +kernel
theorem dX1_init_24 : decode cX1_init 24 = .ok (.new 9, 3) := by decide +kernel
theorem dX1_init_27 : decode cX1_init 27 = .ok (.dup, 1) := by decide +kernel
theorem dX1_init_28 : decode cX1_init 28 = .ok (.invokespecial 15, 3) := by decide +kernel
theorem dX1_init_31 : decode cX1_init 31 = .ok (.aastore, 1) := by decide +kernel
theorem dX1_init_32 : decode cX1_init 32 = .ok (.iinc 1 1, 3) := by decide +kernel
theorem dX1_init_35 : decode cX1_init 35 = .ok (.goto (-21), 3) := by decide +kernel
theorem dX1_init_38 : decode cX1_init 38 = .ok (.return_, 1) := by decide +kernel
set_option maxRecDepth 20000 in
theorem ggX1_keep_X3_copyFrom : GoodIn wsX1_keep wsX3_copyFrom := goodIn_r _ [8, 9, 10, 11, 12, 13, 14, 15, 16, 17, 18, 19, 20, 21, 22, 23, 24, 25, 26, 27, 28, 29, 30, 31, 32, 33, 34, 35, 36, 37, 38, 39, 40, 41, 42, 43, 44, 45, 46, 47, 48, 49, 50, 51, 52, 53, 54, 55, 56, 57, 58, 59, 60, 61, 62, 66, 67, 68, 69, 70, 71, 72, 73, 74, 75, 76, 77, 78, 79, 80, 81, 82, 83, 84, 85, 86, 87, 88, 89, 90, 91, 92, 93, 94, 95, 96, 97] (by decide +kernel) (by decide +kernel)
set_option maxRecDepth 20000 in
theorem gX1_keep_X3_copyFrom : GoodIn wsX1_keep (wsV RX1 23 RX3 yX3_copyFrom wsX3_copyFrom) := goodIn_app (goodIn_of _ (by decide +kernel)) ggX1_keep_X3_copyFrom
theorem dX1_keep_0 : decode cX1_keep 0 = .ok (.aload_n 0, 1) := by decide +kernel
theorem dX1_keep_1 : decode cX1_keep 1 = .ok (.getfield 16, 3) := by decide +kernel
theorem dX1_keep_4 : decode cX1_keep 4 = .ok (.iconst 5, 1) := by decide +kernel
theorem dX1_keep_5 : decode cX1_keep 5 = .ok (.if_icmp .lt 20, 3) := by decide +kernel
theorem dX1_keep_8 : decode cX1_keep 8 = .ok (.aload_n 0, 1) := by decide +kernel
theorem dX1_keep_9 : decode cX1_keep 9 = .ok (.aload_n 0, 1) := by decide +kernel
theorem dX1_keep_10 : decode cX1_keep 10 = .ok (.getfield 20, 3) := by decide +kernel
theorem dX1_keep_13 : decode cX1_keep 13 = .ok (.iconst 1, 1) := by decide +kernel
theorem dX1_keep_14 : decode cX1_keep 14 = .ok (.iadd, 1) := by decide +kernel
theorem dX1_keep_15 : decode cX1_keep 15 = .ok (.iconst 5, 1) := by decide +kernel
theorem dX1_keep_16 : decode cX1_keep 16 = .ok (.irem, 1) := by decide +kernel
theorem dX1_keep_17 : decode cX1_keep 17 = .ok (.putfield 20, 3) := by decide +kernel
theorem dX1_keep_20 : decode cX1_keep 20 = .ok (.aload_n 0, 1) := by decide +kernel
theorem dX1_keep_21 : decode cX1_keep 21 = .ok (.iconst 4, 1) := by decide +kernel
theorem dX1_keep_22 : decode cX1_keep 22 = .ok (.putfield 16, 3) := by decide +kernel
theorem dX1_keep_25 : decode cX1_keep 25 = .ok (.aload_n 0, 1) := by decide +kernel
theorem dX1_keep_26 : decode cX1_keep 26 = .ok (.getfield 11, 3) := by decide +kernel
theorem dX1_keep_29 : decode cX1_keep 29 = .ok (.aload_n 0, 1) := by decide +kernel
theorem dX1_keep_30 : decode cX1_keep 30 = .ok (.getfield 20, 3) := by decide +kernel
theorem dX1_keep_33 : decode cX1_keep 33 = .ok (.aload_n 0, 1) := by decide +kernel
theorem dX1_keep_34 : decode cX1_keep 34 = .ok (.getfield 16, 3) := by decide +kernel
theorem dX1_keep_37 : decode cX1_keep 37 = .ok (.iadd, 1) := by decide +kernel
theorem dX1_keep_38 : decode cX1_keep 38 = .ok (.iconst 5, 1) := by decide +kernel
theorem dX1_keep_39 : decode cX1_keep 39 = .ok (.irem, 1) := by decide +kernel
theorem dX1_keep_40 : decode cX1_keep 40 = .ok (.aaload, 1) := by decide +kernel
theorem dX1_keep_41 : decode cX1_keep 41 = .ok (.aload_n 1, 1) := by decide +kernel
theorem dX1_keep_42 : decode cX1_keep 42 = .ok (.invokevirtual 23, 3) := by decide +kernel
theorem dX1_keep_45 : decode cX1_keep 45 = .ok (.aload_n 0, 1) := by decide +kernel
theorem dX1_keep_46 : decode cX1_keep 46 = .ok (.dup, 1) := by decide +kernel
theorem dX1_keep_47 : decode cX1_keep 47 = .ok (.getfield 16, 3) := by decide +kernel
theorem dX1_keep_50 : decode cX1_keep 50 = .ok (.iconst 1, 1) := by decide +kernel
theorem dX1_keep_51 : decode cX1_keep 51 = .ok (.iadd, 1) := by decide +kernel
theorem dX1_keep_52 : decode cX1_keep 52 = .ok (.putfield 16, 3) := by decide +kernel
theorem dX1_keep_55 : decode cX1_keep 55 = .ok (.return_, 1) := by decide +kernel
set_option maxRecDepth 20000 in
theorem ggX1_giveBack_X3_copyFrom : GoodIn wsX1_giveBack wsX3_copyFrom := goodIn_r _ [8, 9, 10, 11, 12, 13, 14, 15, 16, 17, 18, 19, 20, 21, 22, 23, 24, 25, 26, 27, 28, 29, 30, 31, 32, 33, 34, 35, 36, 37, 38, 39, 40, 41, 42, 43, 44, 45, 46, 47, 48, 49, 50, 51, 52, 53, 54, 55, 56, 57, 58, 59, 60, 61, 62, 66, 67, 68, 69, 70, 71, 72, 73, 74, 75, 76, 77, 78, 79, 80, 81, 82, 83, 84, 85, 86, 87, 88, 89, 90, 91, 92, 93, 94, 95, 96, 97] (by decide +kernel) (by decide +kernel)
set_option maxRecDepth 20000 in
theorem gX1_giveBack_X3_copyFrom : GoodIn wsX1_giveBack (wsV RX1 23 RX3 yX3_copyFrom wsX3_copyFrom) := goodIn_app (goodIn_of _ (by decide +kernel)) ggX1_giveBack_X3_copyFrom
theorem dX1_giveBack_0 : decode cX1_giveBack 0 = .ok (.aload_n 0, 1) := by decide +kernel
theorem dX1_giveBack_1 : decode cX1_giveBack 1 = .ok (.getfield 16, 3) := by decide +kernel
theorem dX1_giveBack_4 : decode cX1_giveBack 4 = .ok (.ifCond .gt 4, 3) := by decide +kernel
theorem dX1_giveBack_7 : decode cX1_giveBack 7 = .ok (.return_, 1) := by decide +kernel
theorem dX1_giveBack_8 : decode cX1_giveBack 8 = .ok (.aload_n 0, 1) := by decide +kernel
theorem dX1_giveBack_9 : decode cX1_giveBack 9 = .ok (.dup, 1) := by decide +kernel
theorem dX1_giveBack_10 : decode cX1_giveBack 10 = .ok (.getfield 16, 3) := by decide +kernel
theorem dX1_giveBack_13 : decode cX1_giveBack 13 = .ok (.iconst 1, 1) := by decide +kernel
theorem dX1_giveBack_14 : decode cX1_giveBack 14 = .ok (.isub, 1) := by decide +kernel
theorem dX1_giveBack_15 : decode cX1_giveBack 15 = .ok (.putfield 16, 3) := by decide +kernel
theorem dX1_giveBack_18 : decode cX1_giveBack 18 = .ok (.aload_n 1, 1) := by decide +kernel
theorem dX1_giveBack_19 : decode cX1_giveBack 19 = .ok (.aload_n 0, 1) := by decide +kernel
theorem dX1_giveBack_20 : decode cX1_giveBack 20 = .ok (.getfield 11, 3) := by decide +kernel
theorem dX1_giveBack_23 : decode cX1_giveBack 23 = .ok (.aload_n 0, 1) := by decide +kernel
theorem dX1_giveBack_24 : decode cX1_giveBack 24 = .ok (.getfield 20, 3) := by decide +kernel
theorem dX1_giveBack_27 : decode cX1_giveBack 27 = .ok (.aload_n 0, 1) := by decide +kernel
theorem dX1_giveBack_28 : decode cX1_giveBack 28 = .ok (.getfield 16, 3) := by decide +kernel
theorem dX1_giveBack_31 : decode cX1_giveBack 31 = .ok (.iadd, 1) := by decide +kernel
theorem dX1_giveBack_32 : decode cX1_giveBack 32 = .ok (.iconst 5, 1) := by decide +kernel
theorem dX1_giveBack_33 : decode cX1_giveBack 33 = .ok (.irem, 1) := by decide +kernel
theorem dX1_giveBack_34 : decode cX1_giveBack 34 = .ok (.aaload, 1) := by decide +kernel
theorem dX1_giveBack_35 : decode cX1_giveBack 35 = .ok (.invokevirtual 23, 3) := by decide +kernel
theorem dX1_giveBack_38 : decode cX1_giveBack 38 = .ok (.return_, 1) := by decide +kernel
theorem dX2_init_0 : decode cX2_init 0 = .ok (.aload_n 0, 1) := by decide +kernel
theorem dX2_init_1 : decode cX2_init 1 = .ok (.invokespecial 1, 3) := by decide +kernel
theorem dX2_init_4 : decode cX2_init 4 = .ok (.aload_n 0, 1) := by decide +kernel
theorem dX2_init_5 : decode cX2_init 5 = .ok (.iconst 4, 1) := by decide +kernel
theorem dX2_init_6 : decode cX2_init 6 = .ok (.newarray .int, 2) := by decide +kernel
theorem dX2_init_8 : decode cX2_init 8 = .ok (.putfield 9, 3) := by decide +kernel
theorem dX2_init_11 : decode cX2_init 11 = .ok (.aload_n 0, 1) := by decide +kernel
theorem dX2_init_12 : decode cX2_init 12 = .ok (.iconst 4, 1) := by decide +kernel
theorem dX2_init_13 : decode cX2_init 13 = .ok (.newarray .int, 2) := by decide +kernel
theorem dX2_init_15 : decode cX2_init 15 = .ok (.putfield 13, 3) := by decide +kernel
theorem dX2_init_18 : decode cX2_init 18 = .ok (.aload_n 0, 1) := by decide +kernel
theorem dX2_init_19 : decode cX2_init 19 = .ok (.iconst 4, 1) := by decide +kernel
theorem dX2_init_20 : decode cX2_init 20 = .ok (.newarray .int, 2) := by decide +kernel
theorem dX2_init_22 : decode cX2_init 22 = .ok (.putfield 16, 3) := by decide +kernel
theorem dX2_init_25 : decode cX2_init 25 = .ok (.aload_n 0, 1) := by decide +kernel
theorem dX2_init_26 : decode cX2_init 26 = .ok (.iconst 4, 1) := by decide +kernel
theorem dX2_init_27 : decode cX2_init 27 = .ok (.newarray .int, 2) := by decide +kernel
theorem dX2_init_29 : decode cX2_init 29 = .ok (.putfield 19, 3) := by decide +kernel
theorem dX2_init_32 : decode cX2_init 32 = .ok (.aload_n 0, 1) := by decide +kernel
theorem dX2_init_33 : decode cX2_init 33 = .ok (.iconst 4, 1) := by decide +kernel
theorem dX2_init_34 : decode cX2_init 34 = .ok (.newarray .int, 2) := by decide +kernel
theorem dX2_init_36 : decode cX2_init 36 = .ok (.putfield 22, 3) := by decide +kernel
theorem dX2_init_39 : decode cX2_init 39 = .ok (.return_, 1) := by decide +kernel
theorem dX2_copyFrom_0 : decode cX2_copyFrom 0 = .ok (.aload_n 1, 1) := by decide +kernel
theorem dX2_copyFrom_1 : decode cX2_copyFrom 1 = .ok (.getfield 9, 3) := by decide +kernel
theorem dX2_copyFrom_4 : decode cX2_copyFrom 4 = .ok (.iconst 0, 1) := by decide +kernel
theorem dX2_copyFrom_5 : decode cX2_copyFrom 5 = .ok (.aload_n 0, 1) := by decide +kernel
theorem dX2_copyFrom_6 : decode cX2_copyFrom 6 = .ok (.getfield 9, 3) := by decide +kernel
theorem dX2_copyFrom_9 : decode cX2_copyFrom 9 = .ok (.iconst 0, 1) := by decide +kernel
theorem dX2_copyFrom_10 : decode cX2_copyFrom 10 = .ok (.iconst 4, 1) := by decide +kernel
theorem dX2_copyFrom_11 : decode cX2_copyFrom 11 = .ok (.invokestatic 25, 3) := by decide +kernel
theorem dX2_copyFrom_14 : decode cX2_copyFrom 14 = .ok (.aload_n 1, 1) := by decide +kernel
theorem dX2_copyFrom_15 : decode cX2_copyFrom 15 = .ok (.getfield 13, 3) := by decide +kernel
theorem dX2_copyFrom_18 : decode cX2_copyFrom 18 = .ok (.iconst 0, 1) := by decide +kernel
theorem dX2_copyFrom_19 : decode cX2_copyFrom 19 = .ok (.aload_n 0, 1) := by decide +kernel
theorem dX2_copyFrom_20 : decode cX2_copyFrom 20 = .ok (.getfield 13, 3) := by decide +kernel
theorem dX2_copyFrom_23 : decode cX2_copyFrom 23 = .ok (.iconst 0, 1) := by decide +kernel
theorem dX2_copyFrom_24 : decode cX2_copyFrom 24 = .ok (.iconst 4, 1) := by decide +kernel
theorem dX2_copyFrom_25 : decode cX2_copyFrom 25 = .ok (.invokestatic 25, 3) := by decide +kernel
theorem dX2_copyFrom_28 : decode cX2_copyFrom 28 = .ok (.aload_n 1, 1) := by decide +kernel
theorem dX2_copyFrom_29 : decode cX2_copyFrom 29 = .ok (.getfield 16, 3) := by decide +kernel
theorem dX2_copyFrom_32 : decode cX2_copyFrom 32 = .ok (.iconst 0, 1) := by decide +kernel
theorem dX2_copyFrom_33 : decode cX2_copyFrom 33 = .ok (.aload_n 0, 1) := by decide +kernel
theorem dX2_copyFrom_34 : decode cX2_copyFrom 34 = .ok (.getfield 16, 3) := by decide +kernel
theorem dX2_copyFrom_37 : decode cX2_copyFrom 37 = .ok (.iconst 0, 1) := by decide +kernel
theorem dX2_copyFrom_38 : decode cX2_copyFrom 38 = .ok (.iconst 4, 1) := by decide +kernel
theorem dX2_copyFrom_39 : decode cX2_copyFrom 39 = .ok (.invokestatic 25, 3) := by decide +kernel
theorem dX2_copyFrom_42 : decode cX2_copyFrom 42 = .ok (.aload_n 1, 1) := by decide +kernel
theorem dX2_copyFrom_43 : decode cX2_copyFrom 43 = .ok (.getfield 19, 3) := by decide +kernel
theorem dX2_copyFrom_46 : decode cX2_copyFrom 46 = .ok (.iconst 0, 1) := by decide +kernel
theorem dX2_copyFrom_47 : decode cX2_copyFrom 47 = .ok (.aload_n 0, 1) := by decide +kernel
theorem dX2_copyFrom_48 : decode cX2_copyFrom 48 = .ok (.getfield 19, 3) := by decide +kernel
theorem dX2_copyFrom_51 : decode cX2_copyFrom 51 = .ok (.iconst 0, 1) := by decide +kernel
theorem dX2_copyFrom_52 : decode cX2_copyFrom 52 = .ok (.iconst 4, 1) := by decide +kernel
theorem dX2_copyFrom_53 : decode cX2_copyFrom 53 = .ok (.invokestatic 25, 3) := by decide +kernel
theorem dX2_copyFrom_56 : decode cX2_copyFrom 56 = .ok (.aload_n 1, 1) := by decide +kernel
theorem dX2_copyFrom_57 : decode cX2_copyFrom 57 = .ok (.getfield 22, 3) := by decide +kernel
theorem dX2_copyFrom_60 : decode cX2_copyFrom 60 = .ok (.iconst 0, 1) := by decide +kernel
theorem dX2_copyFrom_61 : decode cX2_copyFrom 61 = .ok (.aload_n 0, 1) := by decide +kernel
theorem dX2_copyFrom_62 : decode cX2_copyFrom 62 = .ok (.getfield 22, 3) := by decide +kernel
theorem dX2_copyFrom_65 : decode cX2_copyFrom 65 = .ok (.iconst 0, 1) := by decide +kernel
theorem dX2_copyFrom_66 : decode cX2_copyFrom 66 = .ok (.iconst 4, 1) := by decide +kernel
theorem dX2_copyFrom_67 : decode cX2_copyFrom 67 = .ok (.invokestatic 25, 3) := by decide +kernel
theorem dX2_copyFrom_70 : decode cX2_copyFrom 70 = .ok (.return_, 1) := by decide +kernel
set_option maxRecDepth 20000 in
theorem ggX2_beginAnew_J7_fill_53178 : GoodIn wsX2_beginAnew wsJ7_fill_53178 := goodIn_r _ [9] (by decide +kernel) (by decide +kernel)
set_option maxRecDepth 20000 in
theorem gX2_beginAnew_J7_fill_53178 : GoodIn wsX2_beginAnew (va_wsS RX2 31 yJ7_fill_53178 wsJ7_fill_53178) := goodIn_app (goodIn_of _ (by decide +kernel)) ggX2_beginAnew_J7_fill_53178
theorem dX2_beginAnew_0 : decode cX2_beginAnew 0 = .ok (.aload_n 0, 1) := by decide +kernel
theorem dX2_beginAnew_1 : decode cX2_beginAnew 1 = .ok (.getfield 9, 3) := by decide +kernel
theorem dX2_beginAnew_4 : decode cX2_beginAnew 4 = .ok (.iconst 0, 1) := by decide +kernel
theorem dX2_beginAnew_5 : decode cX2_beginAnew 5 = .ok (.invokestatic 31, 3) := by decide +kernel
theorem dX2_beginAnew_8 : decode cX2_beginAnew 8 = .ok (.aload_n 0, 1) := by decide +kernel
theorem dX2_beginAnew_9 : decode cX2_beginAnew 9 = .ok (.getfield 13, 3) := by decide +kernel
theorem dX2_beginAnew_12 : decode cX2_beginAnew 12 = .ok (.iconst 0, 1) := by decide +kernel
theorem dX2_beginAnew_13 : decode cX2_beginAnew 13 = .ok (.invokestatic 31, 3) := by decide +kernel
theorem dX2_beginAnew_16 : decode cX2_beginAnew 16 = .ok (.aload_n 0, 1) := by decide +kernel
theorem dX2_beginAnew_17 : decode cX2_beginAnew 17 = .ok (.getfield 16, 3) := by decide +kernel
theorem dX2_beginAnew_20 : decode cX2_beginAnew 20 = .ok (.iconst 0, 1) := by decide +kernel
theorem dX2_beginAnew_21 : decode cX2_beginAnew 21 = .ok (.invokestatic 31, 3) := by decide +kernel
theorem dX2_beginAnew_24 : decode cX2_beginAnew 24 = .ok (.aload_n 0, 1) := by decide +kernel
theorem dX2_beginAnew_25 : decode cX2_beginAnew 25 = .ok (.getfield 19, 3) := by decide +kernel
theorem dX2_beginAnew_28 : decode cX2_beginAnew 28 = .ok (.iconst 0, 1) := by decide +kernel
theorem dX2_beginAnew_29 : decode cX2_beginAnew 29 = .ok (.invokestatic 31, 3) := by decide +kernel
theorem dX2_beginAnew_32 : decode cX2_beginAnew 32 = .ok (.aload_n 0, 1) := by decide +kernel
theorem dX2_beginAnew_33 : decode cX2_beginAnew 33 = .ok (.getfield 22, 3) := by decide +kernel
theorem dX2_beginAnew_36 : decode cX2_beginAnew 36 = .ok (.iconst 0, 1) := by decide +kernel
theorem dX2_beginAnew_37 : decode cX2_beginAnew 37 = .ok (.invokestatic 31, 3) := by decide +kernel
theorem dX2_beginAnew_40 : decode cX2_beginAnew 40 = .ok (.return_, 1) := by decide +kernel
theorem dX2_open_0 : decode cX2_open 0 = .ok (.aload_n 0, 1) := by decide +kernel
theorem dX2_open_1 : decode cX2_open 1 = .ok (.getfield 9, 3) := by decide +kernel
theorem dX2_open_4 : decode cX2_open 4 = .ok (.iload_n 1, 1) := by decide +kernel
theorem dX2_open_5 : decode cX2_open 5 = .ok (.iconst 0, 1) := by decide +kernel
theorem dX2_open_6 : decode cX2_open 6 = .ok (.iastore, 1) := by decide +kernel
theorem dX2_open_7 : decode cX2_open 7 = .ok (.aload_n 0, 1) := by decide +kernel
theorem dX2_open_8 : decode cX2_open 8 = .ok (.getfield 13, 3) := by decide +kernel
theorem dX2_open_11 : decode cX2_open 11 = .ok (.iload_n 1, 1) := by decide +kernel
theorem dX2_open_12 : decode cX2_open 12 = .ok (.iconst 0, 1) := by decide +kernel
theorem dX2_open_13 : decode cX2_open 13 = .ok (.iastore, 1) := by decide +kernel
theorem dX2_open_14 : decode cX2_open 14 = .ok (.aload_n 0, 1) := by decide +kernel
theorem dX2_open_15 : decode cX2_open 15 = .ok (.getfield 16, 3) := by decide +kernel
theorem dX2_open_18 : decode cX2_open 18 = .ok (.iload_n 1, 1) := by decide +kernel
theorem dX2_open_19 : decode cX2_open 19 = .ok (.iconst 0, 1) := by decide +kernel
theorem dX2_open_20 : decode cX2_open 20 = .ok (.iastore, 1) := by decide +kernel
theorem dX2_open_21 : decode cX2_open 21 = .ok (.return_, 1) := by decide +kernel
theorem dX2_stuckOnes_0 : decode cX2_stuckOnes 0 = .ok (.iconst 0, 1) := by decide +kernel
theorem dX2_stuckOnes_1 : decode cX2_stuckOnes 1 = .ok (.istore_n 1, 1) := by decide +kernel
theorem dX2_stuckOnes_2 : decode cX2_stuckOnes 2 = .ok (.iconst 0, 1) := by decide +kernel
theorem dX2_stuckOnes_3 : decode cX2_stuckOnes 3 = .ok (.istore_n 2, 1) := by decide +kernel
theorem dX2_stuckOnes_4 : decode cX2_stuckOnes 4 = .ok (.iload_n 2, 1) := by decide +kernel
theorem dX2_stuckOnes_5 : decode cX2_stuckOnes 5 = .ok (.iconst 4, 1) := by decide +kernel
theorem dX2_stuckOnes_6 : decode cX2_stuckOnes 6 = .ok (.if_icmp .ge 18, 3) := by decide +kernel
theorem dX2_stuckOnes_9 : decode cX2_stuckOnes 9 = .ok (.iload_n 1, 1) := by decide +kernel
theorem dX2_stuckOnes_10 : decode cX2_stuckOnes 10 = .ok (.aload_n 0, 1) := by decide +kernel
theorem dX2_stuckOnes_11 : decode cX2_stuckOnes 11 = .ok (.getfield 9, 3) := by decide +kernel
theorem dX2_stuckOnes_14 : decode cX2_stuckOnes 14 = .ok (.iload_n 2, 1) := by decide +kernel
theorem dX2_stuckOnes_15 : decode cX2_stuckOnes 15 = .ok (.iaload, 1) := by decide +kernel
theorem dX2_stuckOnes_16 : decode cX2_stuckOnes 16 = .ok (.iadd, 1) := by decide +kernel
theorem dX2_stuckOnes_17 : decode cX2_stuckOnes 17 = .ok (.istore_n 1, 1) := by decide +kernel
theorem dX2_stuckOnes_18 : decode cX2_stuckOnes 18 = .ok (.iinc 2 1, 3) := by decide +kernel
theorem dX2_stuckOnes_21 : decode cX2_stuckOnes 21 = .ok (.goto (-17), 3) := by decide +kernel
theorem dX2_stuckOnes_24 : decode cX2_stuckOnes 24 = .ok (.iload_n 1, 1) := by decide +kernel
theorem dX2_stuckOnes_25 : decode cX2_stuckOnes 25 = .ok (.ireturn, 1) := by decide +kernel
theorem dX2_breaks_0 : decode cX2_breaks 0 = .ok (.iload_n 2, 1) := by decide +kernel
theorem dX2_breaks_1 : decode cX2_breaks 1 = .ok (.ifCond .eq 12, 3) := by decide +kernel
theorem dX2_breaks_4 : decode cX2_breaks 4 = .ok (.aload_n 0, 1) := by decide +kernel
theorem dX2_breaks_5 : decode cX2_breaks 5 = .ok (.getfield 16, 3) := by decide +kernel
theorem dX2_breaks_8 : decode cX2_breaks 8 = .ok (.iload_n 1, 1) := by decide +kernel
theorem dX2_breaks_9 : decode cX2_breaks 9 = .ok (.iconst 1, 1) := by decide +kernel
theorem dX2_breaks_10 : decode cX2_breaks 10 = .ok (.iastore, 1) := by decide +kernel
theorem dX2_breaks_11 : decode cX2_breaks 11 = .ok (.iconst 1, 1) := by decide +kernel
theorem dX2_breaks_12 : decode cX2_breaks 12 = .ok (.ireturn, 1) := by decide +kernel
theorem dX2_breaks_13 : decode cX2_breaks 13 = .ok (.aload_n 0, 1) := by decide +kernel
theorem dX2_breaks_14 : decode cX2_breaks 14 = .ok (.getfield 16, 3) := by decide +kernel
theorem dX2_breaks_17 : decode cX2_breaks 17 = .ok (.iload_n 1, 1) := by decide +kernel
theorem dX2_breaks_18 : decode cX2_breaks 18 = .ok (.iaload, 1) := by decide +kernel
theorem dX2_breaks_19 : decode cX2_breaks 19 = .ok (.ifCond .ne 5, 3) := by decide +kernel
theorem dX2_breaks_22 : decode cX2_breaks 22 = .ok (.iconst 0, 1) := by decide +kernel
theorem dX2_breaks_23 : decode cX2_breaks 23 = .ok (.ireturn, 1) := by decide +kernel
theorem dX2_breaks_24 : decode cX2_breaks 24 = .ok (.aload_n 0, 1) := by decide +kernel
theorem dX2_breaks_25 : decode cX2_breaks 25 = .ok (.getfield 16, 3) := by decide +kernel
theorem dX2_breaks_28 : decode cX2_breaks 28 = .ok (.iload_n 1, 1) := by decide +kernel
theorem dX2_breaks_29 : decode cX2_breaks 29 = .ok (.dup2, 1) := by decide +kernel
theorem dX2_breaks_30 : decode cX2_breaks 30 = .ok (.iaload, 1) := by decide +kernel
theorem dX2_breaks_31 : decode cX2_breaks 31 = .ok (.iconst 1, 1) := by decide +kernel
theorem dX2_breaks_32 : decode cX2_breaks 32 = .ok (.iadd, 1) := by decide +kernel
theorem dX2_breaks_33 : decode cX2_breaks 33 = .ok (.iastore, 1) := by decide +kernel
theorem dX2_breaks_34 : decode cX2_breaks 34 = .ok (.aload_n 0, 1) := by decide +kernel
theorem dX2_breaks_35 : decode cX2_breaks 35 = .ok (.getfield 16, 3) := by decide +kernel
theorem dX2_breaks_38 : decode cX2_breaks 38 = .ok (.iload_n 1, 1) := by decide +kernel
theorem dX2_breaks_39 : decode cX2_breaks 39 = .ok (.iaload, 1) := by decide +kernel
theorem dX2_breaks_40 : decode cX2_breaks 40 = .ok (.iload_n 3, 1) := by decide +kernel
theorem dX2_breaks_41 : decode cX2_breaks 41 = .ok (.if_icmp .le 10, 3) := by decide +kernel
theorem dX2_breaks_44 : decode cX2_breaks 44 = .ok (.aload_n 0, 1) := by decide +kernel
theorem dX2_breaks_45 : decode cX2_breaks 45 = .ok (.getfield 16, 3) := by decide +kernel
theorem dX2_breaks_48 : decode cX2_breaks 48 = .ok (.iload_n 1, 1) := by decide +kernel
theorem dX2_breaks_49 : decode cX2_breaks 49 = .ok (.iconst 0, 1) := by decide +kernel
theorem dX2_breaks_50 : decode cX2_breaks 50 = .ok (.iastore, 1) := by decide +kernel
theorem dX2_breaks_51 : decode cX2_breaks 51 = .ok (.iconst 1, 1) := by decide +kernel
theorem dX2_breaks_52 : decode cX2_breaks 52 = .ok (.ireturn, 1) := by decide +kernel
theorem dX2_soil_0 : decode cX2_soil 0 = .ok (.aload_n 0, 1) := by decide +kernel
theorem dX2_soil_1 : decode cX2_soil 1 = .ok (.getfield 13, 3) := by decide +kernel
theorem dX2_soil_4 : decode cX2_soil 4 = .ok (.iload_n 1, 1) := by decide +kernel
theorem dX2_soil_5 : decode cX2_soil 5 = .ok (.dup2, 1) := by decide +kernel
theorem dX2_soil_6 : decode cX2_soil 6 = .ok (.iaload, 1) := by decide +kernel
theorem dX2_soil_7 : decode cX2_soil 7 = .ok (.iload_n 2, 1) := by decide +kernel
theorem dX2_soil_8 : decode cX2_soil 8 = .ok (.iadd, 1) := by decide +kernel
theorem dX2_soil_9 : decode cX2_soil 9 = .ok (.iastore, 1) := by decide +kernel
theorem dX2_soil_10 : decode cX2_soil 10 = .ok (.aload_n 0, 1) := by decide +kernel
theorem dX2_soil_11 : decode cX2_soil 11 = .ok (.getfield 13, 3) := by decide +kernel
theorem dX2_soil_14 : decode cX2_soil 14 = .ok (.iload_n 1, 1) := by decide +kernel
theorem dX2_soil_15 : decode cX2_soil 15 = .ok (.iaload, 1) := by decide +kernel
theorem dX2_soil_16 : decode cX2_soil 16 = .ok (.iload_n 3, 1) := by decide +kernel
theorem dX2_soil_17 : decode cX2_soil 17 = .ok (.if_icmp .lt 10, 3) := by decide +kernel
theorem dX2_soil_20 : decode cX2_soil 20 = .ok (.aload_n 0, 1) := by decide +kernel
theorem dX2_soil_21 : decode cX2_soil 21 = .ok (.getfield 9, 3) := by decide +kernel
theorem dX2_soil_24 : decode cX2_soil 24 = .ok (.iload_n 1, 1) := by decide +kernel
theorem dX2_soil_25 : decode cX2_soil 25 = .ok (.iconst 1, 1) := by decide +kernel
theorem dX2_soil_26 : decode cX2_soil 26 = .ok (.iastore, 1) := by decide +kernel
theorem dX2_soil_27 : decode cX2_soil 27 = .ok (.return_, 1) := by decide +kernel
set_option maxRecDepth 20000 in
theorem ggX3_init_X0_init : GoodIn wsX3_init wsX0_init := goodIn_r _ [25, 26, 2, 3, 16, 27, 28, 29, 30, 31, 46, 47, 48, 49, 50, 51, 52] (by decide +kernel) (by decide +kernel)
set_option maxRecDepth 20000 in
theorem gX3_init_X0_init_n9 : GoodIn wsX3_init (wsX0_init) := ggX3_init_X0_init
set_option maxRecDepth 20000 in
theorem ggX3_init_X2_init : GoodIn wsX3_init wsX2_init := goodIn_r _ [33, 34, 2, 3, 16, 35, 36, 37, 38, 39, 68, 69, 70, 71, 72] (by decide +kernel) (by decide +kernel)
set_option maxRecDepth 20000 in
theorem gX3_init_X2_init_n18 : GoodIn wsX3_init (wsX2_init) := ggX3_init_X2_init
set_option maxRecDepth 20000 in
theorem ggX3_init_X6_init : GoodIn wsX3_init wsX6_init := goodIn_r _ [41, 42, 2, 3, 16, 43, 44, 45, 73, 74, 75, 76, 77] (by decide +kernel) (by decide +kernel)
set_option maxRecDepth 20000 in
theorem gX3_init_X6_init_n25 : GoodIn wsX3_init (wsX6_init) := ggX3_init_X6_init
theorem dX3_init_0 : decode cX3_init 0 = .ok (.aload_n 0, 1) := by decide +kernel
theorem dX3_init_1 : decode cX3_init 1 = .ok (.invokespecial 1, 3) := by decide +kernel
theorem dX3_init_4 : decode cX3_init 4 = .ok (.aload_n 0, 1) := by decide +kernel
theorem dX3_init_5 : decode cX3_init 5 = .ok (.new 7, 3) := by decide +kernel
theorem dX3_init_8 : decode cX3_init 8 = .ok (.dup, 1) := by decide +kernel
theorem dX3_init_9 : decode cX3_init 9 = .ok (.invokespecial 9, 3) := by decide +kernel
theorem dX3_init_12 : decode cX3_init 12 = .ok (.putfield 10, 3) := by decide +kernel
theorem dX3_init_15 : decode cX3_init 15 = .ok (.aload_n 0, 1) := by decide +kernel
theorem dX3_init_16 : decode cX3_init 16 = .ok (.new 16, 3) := by decide +kernel
theorem dX3_init_19 : decode cX3_init 19 = .ok (.dup, 1) := by decide +kernel
theorem dX3_init_20 : decode cX3_init 20 = .ok (.invokespecial 18, 3) := by decide +kernel
theorem dX3_init_23 : decode cX3_init 23 = .ok (.putfield 19, 3) := by decide +kernel
theorem dX3_init_26 : decode cX3_init 26 = .ok (.aload_n 0, 1) := by decide +kernel
theorem dX3_init_27 : decode cX3_init 27 = .ok (.new 23, 3) := by decide +kernel
theorem dX3_init_30 : decode cX3_init 30 = .ok (.dup, 1) := by decide +kernel
theorem dX3_init_31 : decode cX3_init 31 = .ok (.invokespecial 25, 3) := by decide +kernel
theorem dX3_init_34 : decode cX3_init 34 = .ok (.putfield 26, 3) := by decide +kernel
theorem dX3_init_37 : decode cX3_init 37 = .ok (.aload_n 0, 1) := by decide +kernel
theorem dX3_init_38 : decode cX3_init 38 = .ok (.bipush 8, 2) := by decide +kernel
theorem dX3_init_40 : decode cX3_init 40 = .ok (.newarray .int, 2) := by decide +kernel
theorem dX3_init_42 : decode cX3_init 42 = .ok (.putfield 30, 3) := by decide +kernel
theorem dX3_init_45 : decode cX3_init 45 = .ok (.aload_n 0, 1) := by decide +kernel
theorem dX3_init_46 : decode cX3_init 46 = .ok (.bipush 7, 2) := by decide +kernel
theorem dX3_init_48 : decode cX3_init 48 = .ok (.newarray .int, 2) := by decide +kernel
theorem dX3_init_50 : decode cX3_init 50 = .ok (.putfield 34, 3) := by decide +kernel
theorem dX3_init_53 : decode cX3_init 53 = .ok (.getstatic 37, 3) := by decide +kernel
theorem dX3_init_56 : decode cX3_init 56 = .ok (.iconst 0, 1) := by decide +kernel
theorem dX3_init_57 : decode cX3_init 57 = .ok (.aload_n 0, 1) := by decide +kernel
theorem dX3_init_58 : decode cX3_init 58 = .ok (.getfield 30, 3) := by decide +kernel
theorem dX3_init_61 : decode cX3_init 61 = .ok (.iconst 0, 1) := by decide +kernel
theorem dX3_init_62 : decode cX3_init 62 = .ok (.bipush 8, 2) := by decide +kernel
theorem dX3_init_64 : decode cX3_init 64 = .ok (.invokestatic 40, 3) := by decide +kernel
theorem dX3_init_67 : decode cX3_init 67 = .ok (.return_, 1) := by decide +kernel
set_option maxRecDepth 20000 in
theorem ggX3_copyFrom_X0_copyFrom : GoodIn wsX3_copyFrom wsX0_copyFrom := goodIn_r _ [24, 25, 26, 27, 28, 6, 7, 8, 29, 30, 31, 32, 70, 71, 72, 73, 74, 75, 76] (by decide +kernel) (by decide +kernel)
set_option maxRecDepth 20000 in
theorem gX3_copyFrom_X0_copyFrom : GoodIn wsX3_copyFrom (wsV RX3 46 RX0 yX0_copyFrom wsX0_copyFrom) := goodIn_app (goodIn_of _ (by decide +kernel)) ggX3_copyFrom_X0_copyFrom
set_option maxRecDepth 20000 in
theorem ggX3_copyFrom_X2_copyFrom : GoodIn wsX3_copyFrom wsX2_copyFrom := goodIn_r _ [37, 38, 39, 6, 7, 8, 40, 41, 42, 43, 77, 78, 79, 80, 81] (by decide +kernel) (by decide +kernel)
set_option maxRecDepth 20000 in
theorem gX3_copyFrom_X2_copyFrom : GoodIn wsX3_copyFrom (wsV RX3 50 RX2 yX2_copyFrom wsX2_copyFrom) := goodIn_app (goodIn_of _ (by decide +kernel)) ggX3_copyFrom_X2_copyFrom
set_option maxRecDepth 20000 in
theorem ggX3_copyFrom_X6_copyFrom : GoodIn wsX3_copyFrom wsX6_copyFrom := goodIn_r _ [48, 49, 50, 51, 52, 6, 7, 8, 53, 54, 82, 83, 84, 85, 86] (by decide +kernel) (by decide +kernel)
set_option maxRecDepth 20000 in
theorem gX3_copyFrom_X6_copyFrom : GoodIn wsX3_copyFrom (wsV RX3 53 RX6 yX6_copyFrom wsX6_copyFrom) := goodIn_app (goodIn_of _ (by decide +kernel)) ggX3_copyFrom_X6_copyFrom
theorem dX3_copyFrom_0 : decode cX3_copyFrom 0 = .ok (.aload_n 0, 1) := by decide +kernel
theorem dX3_copyFrom_1 : decode cX3_copyFrom 1 = .ok (.getfield 10, 3) := by decide +kernel
theorem dX3_copyFrom_4 : decode cX3_copyFrom 4 = .ok (.aload_n 1, 1) := by decide +kernel
theorem dX3_copyFrom_5 : decode cX3_copyFrom 5 = .ok (.getfield 10, 3) := by decide +kernel
theorem dX3_copyFrom_8 : decode cX3_copyFrom 8 = .ok (.invokevirtual 46, 3) := by decide +kernel
theorem dX3_copyFrom_11 : decode cX3_copyFrom 11 = .ok (.aload_n 0, 1) := by decide +kernel
theorem dX3_copyFrom_12 : decode cX3_copyFrom 12 = .ok (.getfield 19, 3) := by decide +kernel
theorem dX3_copyFrom_15 : decode cX3_copyFrom 15 = .ok (.aload_n 1, 1) := by decide +kernel
theorem dX3_copyFrom_16 : decode cX3_copyFrom 16 = .ok (.getfield 19, 3) := by decide +kernel
theorem dX3_copyFrom_19 : decode cX3_copyFrom 19 = .ok (.invokevirtual 50, 3) := by decide +kernel
theorem dX3_copyFrom_22 : decode cX3_copyFrom 22 = .ok (.aload_n 0, 1) := by decide +kernel
theorem dX3_copyFrom_23 : decode cX3_copyFrom 23 = .ok (.getfield 26, 3) := by decide +kernel
theorem dX3_copyFrom_26 : decode cX3_copyFrom 26 = .ok (.aload_n 1, 1) := by decide +kernel
theorem dX3_copyFrom_27 : decode cX3_copyFrom 27 = .ok (.getfield 26, 3) := by decide +kernel
theorem dX3_copyFrom_30 : decode cX3_copyFrom 30 = .ok (.invokevirtual 53, 3) := by decide +kernel
theorem dX3_copyFrom_33 : decode cX3_copyFrom 33 = .ok (.aload_n 1, 1) := by decide +kernel
theorem dX3_copyFrom_34 : decode cX3_copyFrom 34 = .ok (.getfield 30, 3) := by decide +kernel
theorem dX3_copyFrom_37 : decode cX3_copyFrom 37 = .ok (.iconst 0, 1) := by decide +kernel
theorem dX3_copyFrom_38 : decode cX3_copyFrom 38 = .ok (.aload_n 0, 1) := by decide +kernel
theorem dX3_copyFrom_39 : decode cX3_copyFrom 39 = .ok (.getfield 30, 3) := by decide +kernel
theorem dX3_copyFrom_42 : decode cX3_copyFrom 42 = .ok (.iconst 0, 1) := by decide +kernel
theorem dX3_copyFrom_43 : decode cX3_copyFrom 43 = .ok (.bipush 8, 2) := by decide +kernel
theorem dX3_copyFrom_45 : decode cX3_copyFrom 45 = .ok (.invokestatic 40, 3) := by decide +kernel
theorem dX3_copyFrom_48 : decode cX3_copyFrom 48 = .ok (.aload_n 1, 1) := by decide +kernel
theorem dX3_copyFrom_49 : decode cX3_copyFrom 49 = .ok (.getfield 34, 3) := by decide +kernel
theorem dX3_copyFrom_52 : decode cX3_copyFrom 52 = .ok (.iconst 0, 1) := by decide +kernel
theorem dX3_copyFrom_53 : decode cX3_copyFrom 53 = .ok (.aload_n 0, 1) := by decide +kernel
theorem dX3_copyFrom_54 : decode cX3_copyFrom 54 = .ok (.getfield 34, 3) := by decide +kernel
theorem dX3_copyFrom_57 : decode cX3_copyFrom 57 = .ok (.iconst 0, 1) := by decide +kernel
theorem dX3_copyFrom_58 : decode cX3_copyFrom 58 = .ok (.bipush 7, 2) := by decide +kernel
theorem dX3_copyFrom_60 : decode cX3_copyFrom 60 = .ok (.invokestatic 40, 3) := by decide +kernel
theorem dX3_copyFrom_63 : decode cX3_copyFrom 63 = .ok (.aload_n 0, 1) := by decide +kernel
theorem dX3_copyFrom_64 : decode cX3_copyFrom 64 = .ok (.aload_n 1, 1) := by decide +kernel
theorem dX3_copyFrom_65 : decode cX3_copyFrom 65 = .ok (.getfield 56, 3) := by decide +kernel
theorem dX3_copyFrom_68 : decode cX3_copyFrom 68 = .ok (.putfield 56, 3) := by decide +kernel
theorem dX3_copyFrom_71 : decode cX3_copyFrom 71 = .ok (.aload_n 0, 1) := by decide +kernel
theorem dX3_copyFrom_72 : decode cX3_copyFrom 72 = .ok (.aload_n 1, 1) := by decide +kernel
theorem dX3_copyFrom_73 : decode cX3_copyFrom 73 = .ok (.getfield 60, 3) := by decide +kernel
theorem dX3_copyFrom_76 : decode cX3_copyFrom 76 = .ok (.putfield 60, 3) := by decide +kernel
theorem dX3_copyFrom_79 : decode cX3_copyFrom 79 = .ok (.aload_n 0, 1) := by decide +kernel
theorem dX3_copyFrom_80 : decode cX3_copyFrom 80 = .ok (.aload_n 1, 1) := by decide +kernel
theorem dX3_copyFrom_81 : decode cX3_copyFrom 81 = .ok (.getfield 63, 3) := by decide +kernel
theorem dX3_copyFrom_84 : decode cX3_copyFrom 84 = .ok (.putfield 63, 3) := by decide +kernel
theorem dX3_copyFrom_87 : decode cX3_copyFrom 87 = .ok (.aload_n 0, 1) := by decide +kernel
theorem dX3_copyFrom_88 : decode cX3_copyFrom 88 = .ok (.aload_n 1, 1) := by decide +kernel
theorem dX3_copyFrom_89 : decode cX3_copyFrom 89 = .ok (.getfield 66, 3) := by decide +kernel
theorem dX3_copyFrom_92 : decode cX3_copyFrom 92 = .ok (.putfield 66, 3) := by decide +kernel
theorem dX3_copyFrom_95 : decode cX3_copyFrom 95 = .ok (.aload_n 0, 1) := by decide +kernel
theorem dX3_copyFrom_96 : decode cX3_copyFrom 96 = .ok (.aload_n 1, 1) := by decide +kernel
theorem dX3_copyFrom_97 : decode cX3_copyFrom 97 = .ok (.getfield 69, 3) := by decide +kernel
theorem dX3_copyFrom_100 : decode cX3_copyFrom 100 = .ok (.putfield 69, 3) := by decide +kernel
theorem dX3_copyFrom_103 : decode cX3_copyFrom 103 = .ok (.aload_n 0, 1) := by decide +kernel
theorem dX3_copyFrom_104 : decode cX3_copyFrom 104 = .ok (.aload_n 1, 1) := by decide +kernel
theorem dX3_copyFrom_105 : decode cX3_copyFrom 105 = .ok (.getfield 72, 3) := by decide +kernel
theorem dX3_copyFrom_108 : decode cX3_copyFrom 108 = .ok (.putfield 72, 3) := by decide +kernel
theorem dX3_copyFrom_111 : decode cX3_copyFrom 111 = .ok (.aload_n 0, 1) := by decide +kernel
theorem dX3_copyFrom_112 : decode cX3_copyFrom 112 = .ok (.aload_n 1, 1) := by decide +kernel
theorem dX3_copyFrom_113 : decode cX3_copyFrom 113 = .ok (.getfield 75, 3) := by decide +kernel
theorem dX3_copyFrom_116 : decode cX3_copyFrom 116 = .ok (.putfield 75, 3) := by decide +kernel
theorem dX3_copyFrom_119 : decode cX3_copyFrom 119 = .ok (.aload_n 0, 1) := by decide +kernel
theorem dX3_copyFrom_120 : decode cX3_copyFrom 120 = .ok (.aload_n 1, 1) := by decide +kernel
theorem dX3_copyFrom_121 : decode cX3_copyFrom 121 = .ok (.getfield 78, 3) := by decide +kernel
theorem dX3_copyFrom_124 : decode cX3_copyFrom 124 = .ok (.putfield 78, 3) := by decide +kernel
theorem dX3_copyFrom_127 : decode cX3_copyFrom 127 = .ok (.aload_n 0, 1) := by decide +kernel
theorem dX3_copyFrom_128 : decode cX3_copyFrom 128 = .ok (.aload_n 1, 1) := by decide +kernel
theorem dX3_copyFrom_129 : decode cX3_copyFrom 129 = .ok (.getfield 81, 3) := by decide +kernel
theorem dX3_copyFrom_132 : decode cX3_copyFrom 132 = .ok (.putfield 81, 3) := by decide +kernel
theorem dX3_copyFrom_135 : decode cX3_copyFrom 135 = .ok (.aload_n 0, 1) := by decide +kernel
theorem dX3_copyFrom_136 : decode cX3_copyFrom 136 = .ok (.aload_n 1, 1) := by decide +kernel
theorem dX3_copyFrom_137 : decode cX3_copyFrom 137 = .ok (.getfield 84, 3) := by decide +kernel
theorem dX3_copyFrom_140 : decode cX3_copyFrom 140 = .ok (.putfield 84, 3) := by decide +kernel
theorem dX3_copyFrom_143 : decode cX3_copyFrom 143 = .ok (.return_, 1) := by decide +kernel
set_option maxRecDepth 20000 in
theorem ggX3_beginAnew_X2_beginAnew : GoodIn wsX3_beginAnew wsX2_beginAnew := goodIn_r _ [18, 19, 20, 21, 22, 23, 24, 25, 26, 27, 51, 52, 53, 54, 55] (by decide +kernel) (by decide +kernel)
set_option maxRecDepth 20000 in
theorem gX3_beginAnew_X2_beginAnew : GoodIn wsX3_beginAnew (wsV RX3 87 RX2 yX2_beginAnew wsX2_beginAnew) := goodIn_app (goodIn_of _ (by decide +kernel)) ggX3_beginAnew_X2_beginAnew
set_option maxRecDepth 20000 in
theorem ggX3_beginAnew_X6_beginAnew : GoodIn wsX3_beginAnew wsX6_beginAnew := goodIn_r _ [32, 33, 34, 56, 57, 58, 59, 60] (by decide +kernel) (by decide +kernel)
set_option maxRecDepth 20000 in
theorem gX3_beginAnew_X6_beginAnew : GoodIn wsX3_beginAnew (wsV RX3 90 RX6 yX6_beginAnew wsX6_beginAnew) := goodIn_app (goodIn_of _ (by decide +kernel)) ggX3_beginAnew_X6_beginAnew
set_option maxRecDepth 20000 in
theorem ggX3_beginAnew_J7_fill_53178 : GoodIn wsX3_beginAnew wsJ7_fill_53178 := goodIn_r _ [27] (by decide +kernel) (by decide +kernel)
set_option maxRecDepth 20000 in
theorem gX3_beginAnew_J7_fill_53178 : GoodIn wsX3_beginAnew (va_wsS RX3 91 yJ7_fill_53178 wsJ7_fill_53178) := goodIn_app (goodIn_of _ (by decide +kernel)) ggX3_beginAnew_J7_fill_53178
theorem dX3_beginAnew_0 : decode cX3_beginAnew 0 = .ok (.aload_n 0, 1) := by decide +kernel
theorem dX3_beginAnew_1 : decode cX3_beginAnew 1 = .ok (.getfield 19, 3) := by decide +kernel
theorem dX3_beginAnew_4 : decode cX3_beginAnew 4 = .ok (.invokevirtual 87, 3) := by decide +kernel
theorem dX3_beginAnew_7 : decode cX3_beginAnew 7 = .ok (.aload_n 0, 1) := by decide +kernel
theorem dX3_beginAnew_8 : decode cX3_beginAnew 8 = .ok (.getfield 26, 3) := by decide +kernel
theorem dX3_beginAnew_11 : decode cX3_beginAnew 11 = .ok (.invokevirtual 90, 3) := by decide +kernel
theorem dX3_beginAnew_14 : decode cX3_beginAnew 14 = .ok (.aload_n 0, 1) := by decide +kernel
theorem dX3_beginAnew_15 : decode cX3_beginAnew 15 = .ok (.getfield 34, 3) := by decide +kernel
theorem dX3_beginAnew_18 : decode cX3_beginAnew 18 = .ok (.iconst 0, 1) := by decide +kernel
theorem dX3_beginAnew_19 : decode cX3_beginAnew 19 = .ok (.invokestatic 91, 3) := by decide +kernel
theorem dX3_beginAnew_22 : decode cX3_beginAnew 22 = .ok (.aload_n 0, 1) := by decide +kernel
theorem dX3_beginAnew_23 : decode cX3_beginAnew 23 = .ok (.iconst 0, 1) := by decide +kernel
theorem dX3_beginAnew_24 : decode cX3_beginAnew 24 = .ok (.putfield 56, 3) := by decide +kernel
theorem dX3_beginAnew_27 : decode cX3_beginAnew 27 = .ok (.aload_n 0, 1) := by decide +kernel
theorem dX3_beginAnew_28 : decode cX3_beginAnew 28 = .ok (.iconst 0, 1) := by decide +kernel
theorem dX3_beginAnew_29 : decode cX3_beginAnew 29 = .ok (.putfield 60, 3) := by decide +kernel
theorem dX3_beginAnew_32 : decode cX3_beginAnew 32 = .ok (.aload_n 0, 1) := by decide +kernel
theorem dX3_beginAnew_33 : decode cX3_beginAnew 33 = .ok (.iconst 0, 1) := by decide +kernel
theorem dX3_beginAnew_34 : decode cX3_beginAnew 34 = .ok (.putfield 63, 3) := by decide +kernel
theorem dX3_beginAnew_37 : decode cX3_beginAnew 37 = .ok (.aload_n 0, 1) := by decide +kernel
theorem dX3_beginAnew_38 : decode cX3_beginAnew 38 = .ok (.iconst 0, 1) := by decide +kernel
theorem dX3_beginAnew_39 : decode cX3_beginAnew 39 = .ok (.putfield 66, 3) := by decide +kernel
theorem dX3_beginAnew_42 : decode cX3_beginAnew 42 = .ok (.aload_n 0, 1) := by decide +kernel
theorem dX3_beginAnew_43 : decode cX3_beginAnew 43 = .ok (.iconst 0, 1) := by decide +kernel
theorem dX3_beginAnew_44 : decode cX3_beginAnew 44 = .ok (.putfield 69, 3) := by decide +kernel
theorem dX3_beginAnew_47 : decode cX3_beginAnew 47 = .ok (.aload_n 0, 1) := by decide +kernel
theorem dX3_beginAnew_48 : decode cX3_beginAnew 48 = .ok (.iconst 0, 1) := by decide +kernel
theorem dX3_beginAnew_49 : decode cX3_beginAnew 49 = .ok (.putfield 72, 3) := by decide +kernel
theorem dX3_beginAnew_52 : decode cX3_beginAnew 52 = .ok (.aload_n 0, 1) := by decide +kernel
theorem dX3_beginAnew_53 : decode cX3_beginAnew 53 = .ok (.iconst 0, 1) := by decide +kernel
theorem dX3_beginAnew_54 : decode cX3_beginAnew 54 = .ok (.putfield 75, 3) := by decide +kernel
theorem dX3_beginAnew_57 : decode cX3_beginAnew 57 = .ok (.aload_n 0, 1) := by decide +kernel
theorem dX3_beginAnew_58 : decode cX3_beginAnew 58 = .ok (.iconst 0, 1) := by decide +kernel
theorem dX3_beginAnew_59 : decode cX3_beginAnew 59 = .ok (.putfield 78, 3) := by decide +kernel
theorem dX3_beginAnew_62 : decode cX3_beginAnew 62 = .ok (.aload_n 0, 1) := by decide +kernel
theorem dX3_beginAnew_63 : decode cX3_beginAnew 63 = .ok (.iconst 0, 1) := by decide +kernel
theorem dX3_beginAnew_64 : decode cX3_beginAnew 64 = .ok (.putfield 81, 3) := by decide +kernel
theorem dX3_beginAnew_67 : decode cX3_beginAnew 67 = .ok (.aload_n 0, 1) := by decide +kernel
theorem dX3_beginAnew_68 : decode cX3_beginAnew 68 = .ok (.iconst 0, 1) := by decide +kernel
theorem dX3_beginAnew_69 : decode cX3_beginAnew 69 = .ok (.putfield 84, 3) := by decide +kernel
theorem dX3_beginAnew_72 : decode cX3_beginAnew 72 = .ok (.return_, 1) := by decide +kernel
theorem dX3_ticksLeft_0 : decode cX3_ticksLeft 0 = .ok (.sipush 20000, 3) := by decide +kernel
theorem dX3_ticksLeft_3 : decode cX3_ticksLeft 3 = .ok (.aload_n 0, 1) := by decide +kernel
theorem dX3_ticksLeft_4 : decode cX3_ticksLeft 4 = .ok (.getfield 78, 3) := by decide +kernel
theorem dX3_ticksLeft_7 : decode cX3_ticksLeft 7 = .ok (.isub, 1) := by decide +kernel
theorem dX3_ticksLeft_8 : decode cX3_ticksLeft 8 = .ok (.ireturn, 1) := by decide +kernel
theorem dX3_drawn_0 : decode cX3_drawn 0 = .ok (.aload_n 0, 1) := by decide +kernel
theorem dX3_drawn_1 : decode cX3_drawn 1 = .ok (.getfield 34, 3) := by decide +kernel
theorem dX3_drawn_4 : decode cX3_drawn 4 = .ok (.iconst 1, 1) := by decide +kernel
theorem dX3_drawn_5 : decode cX3_drawn 5 = .ok (.iaload, 1) := by decide +kernel
theorem dX3_drawn_6 : decode cX3_drawn 6 = .ok (.aload_n 0, 1) := by decide +kernel
theorem dX3_drawn_7 : decode cX3_drawn 7 = .ok (.getfield 34, 3) := by decide +kernel
theorem dX3_drawn_10 : decode cX3_drawn 10 = .ok (.iconst 2, 1) := by decide +kernel
theorem dX3_drawn_11 : decode cX3_drawn 11 = .ok (.iaload, 1) := by decide +kernel
theorem dX3_drawn_12 : decode cX3_drawn 12 = .ok (.iadd, 1) := by decide +kernel
theorem dX3_drawn_13 : decode cX3_drawn 13 = .ok (.ireturn, 1) := by decide +kernel
set_option maxRecDepth 20000 in
theorem ggX3_pass_X3_tick : GoodIn wsX3_pass wsX3_tick := goodIn_r _ [5, 6, 7, 8, 9, 10, 11, 12, 13, 14, 4, 15, 16, 17, 18, 19, 20, 21, 22, 23, 24, 25, 26, 27, 28, 29, 30, 31, 32, 33, 34, 35, 36, 37, 38, 39, 40, 41, 42, 43, 44, 45, 46, 47, 48, 49, 50, 51, 52, 53, 54, 55, 56, 57, 58, 59, 60, 61, 62, 63, 64, 65, 66, 67, 68, 69, 70, 71, 72, 73, 74, 75, 76, 77, 78, 79, 80, 81, 82, 83, 84, 85, 86, 87, 88, 89, 90, 91, 92, 93, 94, 95, 96, 97, 98, 99, 100, 101, 102, 103, 104, 105, 106, 107, 108, 109, 110, 111, 112, 113, 114, 115, 116, 117, 118, 119, 120, 121, 122, 123, 124, 125, 126, 127, 128, 129, 130, 131, 132, 133, 134, 135, 136, 137, 138] (by decide +kernel) (by decide +kernel)
set_option maxRecDepth 20000 in
theorem gX3_pass_X3_tick : GoodIn wsX3_pass (wsV RX3 97 RX3 yX3_tick wsX3_tick) := goodIn_app (goodIn_of _ (by decide +kernel)) ggX3_pass_X3_tick
theorem dX3_pass_0 : decode cX3_pass 0 = .ok (.iconst 0, 1) := by decide +kernel
theorem dX3_pass_1 : decode cX3_pass 1 = .ok (.istore_n 2, 1) := by decide +kernel
theorem dX3_pass_2 : decode cX3_pass 2 = .ok (.iload_n 2, 1) := by decide +kernel
theorem dX3_pass_3 : decode cX3_pass 3 = .ok (.iload_n 1, 1) := by decide +kernel
theorem dX3_pass_4 : decode cX3_pass 4 = .ok (.if_icmp .ge 13, 3) := by decide +kernel
theorem dX3_pass_7 : decode cX3_pass 7 = .ok (.aload_n 0, 1) := by decide +kernel
theorem dX3_pass_8 : decode cX3_pass 8 = .ok (.invokevirtual 97, 3) := by decide +kernel
theorem dX3_pass_11 : decode cX3_pass 11 = .ok (.iinc 2 1, 3) := by decide +kernel
theorem dX3_pass_14 : decode cX3_pass 14 = .ok (.goto (-12), 3) := by decide +kernel
theorem dX3_pass_17 : decode cX3_pass 17 = .ok (.return_, 1) := by decide +kernel
set_option maxRecDepth 20000 in
theorem ggX3_tick_X3_reasonToStop : GoodIn wsX3_tick wsX3_reasonToStop := goodIn_r _ [11, 12, 13, 14, 15, 16, 5, 17, 18, 19, 20, 21, 22, 103, 104, 105, 106, 107, 108, 109, 110, 111, 112, 113, 114, 115, 116, 117, 118, 119, 120, 121, 122, 123, 124, 125, 126, 127, 128, 129] (by decide +kernel) (by decide +kernel)
set_option maxRecDepth 20000 in
theorem gX3_tick_X3_reasonToStop : GoodIn wsX3_tick (wsV RX3 100 RX3 yX3_reasonToStop wsX3_reasonToStop) := goodIn_app (goodIn_of _ (by decide +kernel)) ggX3_tick_X3_reasonToStop
set_option maxRecDepth 20000 in
theorem ggX3_tick_X3_melt : GoodIn wsX3_tick wsX3_melt := goodIn_r _ [26, 27, 5, 13, 12, 28, 16, 29, 14, 30, 31, 32, 33, 34, 35, 36, 37, 38, 39, 40, 41, 42, 43, 44, 45, 10, 46, 47, 48, 49, 50, 51, 52, 53, 54, 55, 56, 57, 58, 59, 60, 61, 103, 104, 105, 106, 107, 108, 109, 110, 111, 112, 113, 114, 115, 116, 117, 118, 119, 120, 121, 122, 123, 124] (by decide +kernel) (by decide +kernel)
set_option maxRecDepth 20000 in
theorem gX3_tick_X3_melt : GoodIn wsX3_tick (wsV RX3 104 RX3 yX3_melt wsX3_melt) := goodIn_app (goodIn_of _ (by decide +kernel)) ggX3_tick_X3_melt
set_option maxRecDepth 20000 in
theorem ggX3_tick_X3_draw : GoodIn wsX3_tick wsX3_draw := goodIn_r _ [65, 5, 16, 66, 67, 68, 69, 15, 70, 48, 49, 50, 71, 72, 4, 73, 74, 75, 76, 20, 77, 78, 79, 80, 81, 82, 83, 22, 103, 104, 105, 106, 107, 108, 109, 110, 111, 112, 113, 114, 115, 116, 117, 125, 126, 127, 128, 129, 130, 131, 132, 133, 134] (by decide +kernel) (by decide +kernel)
set_option maxRecDepth 20000 in
theorem gX3_tick_X3_draw : GoodIn wsX3_tick (wsV RX3 107 RX3 yX3_draw wsX3_draw) := goodIn_app (goodIn_of _ (by decide +kernel)) ggX3_tick_X3_draw
set_option maxRecDepth 20000 in
theorem ggX3_tick_X3_raiseTold : GoodIn wsX3_tick wsX3_raiseTold := goodIn_r _ [87, 13, 6, 28, 12, 66, 67, 68, 69, 47, 88, 89, 90, 91, 10, 92, 50, 30, 31, 32, 33, 34, 35, 36, 37, 38, 39, 40, 41, 42, 103, 104, 105, 106, 107, 108, 109, 110, 111, 112, 113, 114, 115, 116, 117, 118, 119, 120, 121, 122, 123, 124] (by decide +kernel) (by decide +kernel)
set_option maxRecDepth 20000 in
theorem gX3_tick_X3_raiseTold : GoodIn wsX3_tick (wsV RX3 111 RX3 yX3_raiseTold wsX3_raiseTold) := goodIn_app (goodIn_of _ (by decide +kernel)) ggX3_tick_X3_raiseTold
set_option maxRecDepth 20000 in
theorem ggX3_tick_X6_sealIfFull : GoodIn wsX3_tick wsX6_sealIfFull := goodIn_r _ [97, 98, 99, 100, 101, 102, 130, 131, 132, 133, 134] (by decide +kernel) (by decide +kernel)
set_option maxRecDepth 20000 in
theorem gX3_tick_X6_sealIfFull : GoodIn wsX3_tick (wsV RX3 114 RX6 yX6_sealIfFull wsX6_sealIfFull) := goodIn_app (goodIn_of _ (by decide +kernel)) ggX3_tick_X6_sealIfFull
theorem dX3_tick_0 : decode cX3_tick 0 = .ok (.aload_n 0, 1) := by decide +kernel
theorem dX3_tick_1 : decode cX3_tick 1 = .ok (.dup, 1) := by decide +kernel
theorem dX3_tick_2 : decode cX3_tick 2 = .ok (.getfield 78, 3) := by decide +kernel
theorem dX3_tick_5 : decode cX3_tick 5 = .ok (.iconst 1, 1) := by decide +kernel
theorem dX3_tick_6 : decode cX3_tick 6 = .ok (.iadd, 1) := by decide +kernel
theorem dX3_tick_7 : decode cX3_tick 7 = .ok (.putfield 78, 3) := by decide +kernel
theorem dX3_tick_10 : decode cX3_tick 10 = .ok (.aload_n 0, 1) := by decide +kernel
theorem dX3_tick_11 : decode cX3_tick 11 = .ok (.aload_n 0, 1) := by decide +kernel
theorem dX3_tick_12 : decode cX3_tick 12 = .ok (.invokevirtual 100, 3) := by decide +kernel
theorem dX3_tick_15 : decode cX3_tick 15 = .ok (.putfield 81, 3) := by decide +kernel
theorem dX3_tick_18 : decode cX3_tick 18 = .ok (.aload_n 0, 1) := by decide +kernel
theorem dX3_tick_19 : decode cX3_tick 19 = .ok (.getfield 81, 3) := by decide +kernel
theorem dX3_tick_22 : decode cX3_tick 22 = .ok (.ifCond .ne 10, 3) := by decide +kernel
theorem dX3_tick_25 : decode cX3_tick 25 = .ok (.aload_n 0, 1) := by decide +kernel
theorem dX3_tick_26 : decode cX3_tick 26 = .ok (.invokevirtual 104, 3) := by decide +kernel
theorem dX3_tick_29 : decode cX3_tick 29 = .ok (.goto 13, 3) := by decide +kernel
theorem dX3_tick_32 : decode cX3_tick 32 = .ok (.aload_n 0, 1) := by decide +kernel
theorem dX3_tick_33 : decode cX3_tick 33 = .ok (.dup, 1) := by decide +kernel
theorem dX3_tick_34 : decode cX3_tick 34 = .ok (.getfield 84, 3) := by decide +kernel
theorem dX3_tick_37 : decode cX3_tick 37 = .ok (.iconst 1, 1) := by decide +kernel
theorem dX3_tick_38 : decode cX3_tick 38 = .ok (.iadd, 1) := by decide +kernel
theorem dX3_tick_39 : decode cX3_tick 39 = .ok (.putfield 84, 3) := by decide +kernel
theorem dX3_tick_42 : decode cX3_tick 42 = .ok (.iconst 0, 1) := by decide +kernel
theorem dX3_tick_43 : decode cX3_tick 43 = .ok (.istore_n 1, 1) := by decide +kernel
theorem dX3_tick_44 : decode cX3_tick 44 = .ok (.iload_n 1, 1) := by decide +kernel
theorem dX3_tick_45 : decode cX3_tick 45 = .ok (.iconst 4, 1) := by decide +kernel
theorem dX3_tick_46 : decode cX3_tick 46 = .ok (.if_icmp .ge 14, 3) := by decide +kernel
theorem dX3_tick_49 : decode cX3_tick 49 = .ok (.aload_n 0, 1) := by decide +kernel
theorem dX3_tick_50 : decode cX3_tick 50 = .ok (.iload_n 1, 1) := by decide +kernel
theorem dX3_tick_51 : decode cX3_tick 51 = .ok (.invokevirtual 107, 3) := by decide +kernel
theorem dX3_tick_54 : decode cX3_tick 54 = .ok (.iinc 1 1, 3) := by decide +kernel
theorem dX3_tick_57 : decode cX3_tick 57 = .ok (.goto (-13), 3) := by decide +kernel
theorem dX3_tick_60 : decode cX3_tick 60 = .ok (.aload_n 0, 1) := by decide +kernel
theorem dX3_tick_61 : decode cX3_tick 61 = .ok (.invokevirtual 111, 3) := by decide +kernel
theorem dX3_tick_64 : decode cX3_tick 64 = .ok (.aload_n 0, 1) := by decide +kernel
theorem dX3_tick_65 : decode cX3_tick 65 = .ok (.getfield 26, 3) := by decide +kernel
theorem dX3_tick_68 : decode cX3_tick 68 = .ok (.aload_n 0, 1) := by decide +kernel
theorem dX3_tick_69 : decode cX3_tick 69 = .ok (.getfield 30, 3) := by decide +kernel
theorem dX3_tick_72 : decode cX3_tick 72 = .ok (.bipush 6, 2) := by decide +kernel
theorem dX3_tick_74 : decode cX3_tick 74 = .ok (.iaload, 1) := by decide +kernel
theorem dX3_tick_75 : decode cX3_tick 75 = .ok (.aload_n 0, 1) := by decide +kernel
theorem dX3_tick_76 : decode cX3_tick 76 = .ok (.getfield 72, 3) := by decide +kernel
theorem dX3_tick_79 : decode cX3_tick 79 = .ok (.aload_n 0, 1) := by decide +kernel
theorem dX3_tick_80 : decode cX3_tick 80 = .ok (.getfield 78, 3) := by decide +kernel
theorem dX3_tick_83 : decode cX3_tick 83 = .ok (.invokevirtual 114, 3) := by decide +kernel
theorem dX3_tick_86 : decode cX3_tick 86 = .ok (.return_, 1) := by decide +kernel
set_option maxRecDepth 20000 in
theorem ggX3_reasonToStop_X2_stuckOnes : GoodIn wsX3_reasonToStop wsX2_stuckOnes := goodIn_r _ [11, 12, 35, 36, 37, 38, 39] (by decide +kernel) (by decide +kernel)
set_option maxRecDepth 20000 in
theorem gX3_reasonToStop_X2_stuckOnes : GoodIn wsX3_reasonToStop (wsV RX3 121 RX2 yX2_stuckOnes wsX2_stuckOnes) := goodIn_app (goodIn_of _ (by decide +kernel)) ggX3_reasonToStop_X2_stuckOnes
theorem dX3_reasonToStop_0 : decode cX3_reasonToStop 0 = .ok (.aload_n 0, 1) := by decide +kernel
theorem dX3_reasonToStop_1 : decode cX3_reasonToStop 1 = .ok (.getfield 56, 3) := by decide +kernel
theorem dX3_reasonToStop_4 : decode cX3_reasonToStop 4 = .ok (.aload_n 0, 1) := by decide +kernel
theorem dX3_reasonToStop_5 : decode cX3_reasonToStop 5 = .ok (.getfield 10, 3) := by decide +kernel
theorem dX3_reasonToStop_8 : decode cX3_reasonToStop 8 = .ok (.getfield 118, 3) := by decide +kernel
theorem dX3_reasonToStop_11 : decode cX3_reasonToStop 11 = .ok (.if_icmp .lt 5, 3) := by decide +kernel
theorem dX3_reasonToStop_14 : decode cX3_reasonToStop 14 = .ok (.iconst 1, 1) := by decide +kernel
theorem dX3_reasonToStop_15 : decode cX3_reasonToStop 15 = .ok (.ireturn, 1) := by decide +kernel
theorem dX3_reasonToStop_16 : decode cX3_reasonToStop 16 = .ok (.aload_n 0, 1) := by decide +kernel
theorem dX3_reasonToStop_17 : decode cX3_reasonToStop 17 = .ok (.getfield 19, 3) := by decide +kernel
theorem dX3_reasonToStop_20 : decode cX3_reasonToStop 20 = .ok (.invokevirtual 121, 3) := by decide +kernel
theorem dX3_reasonToStop_23 : decode cX3_reasonToStop 23 = .ok (.iconst 4, 1) := by decide +kernel
theorem dX3_reasonToStop_24 : decode cX3_reasonToStop 24 = .ok (.if_icmp .ne 5, 3) := by decide +kernel
theorem dX3_reasonToStop_27 : decode cX3_reasonToStop 27 = .ok (.iconst 2, 1) := by decide +kernel
theorem dX3_reasonToStop_28 : decode cX3_reasonToStop 28 = .ok (.ireturn, 1) := by decide +kernel
theorem dX3_reasonToStop_29 : decode cX3_reasonToStop 29 = .ok (.aload_n 0, 1) := by decide +kernel
theorem dX3_reasonToStop_30 : decode cX3_reasonToStop 30 = .ok (.getfield 63, 3) := by decide +kernel
theorem dX3_reasonToStop_33 : decode cX3_reasonToStop 33 = .ok (.aload_n 0, 1) := by decide +kernel
theorem dX3_reasonToStop_34 : decode cX3_reasonToStop 34 = .ok (.getfield 30, 3) := by decide +kernel
theorem dX3_reasonToStop_37 : decode cX3_reasonToStop 37 = .ok (.iconst 2, 1) := by decide +kernel
theorem dX3_reasonToStop_38 : decode cX3_reasonToStop 38 = .ok (.iaload, 1) := by decide +kernel
theorem dX3_reasonToStop_39 : decode cX3_reasonToStop 39 = .ok (.if_icmp .lt 7, 3) := by decide +kernel
theorem dX3_reasonToStop_42 : decode cX3_reasonToStop 42 = .ok (.iconst 3, 1) := by decide +kernel
theorem dX3_reasonToStop_43 : decode cX3_reasonToStop 43 = .ok (.goto 4, 3) := by decide +kernel
theorem dX3_reasonToStop_46 : decode cX3_reasonToStop 46 = .ok (.iconst 0, 1) := by decide +kernel
theorem dX3_reasonToStop_47 : decode cX3_reasonToStop 47 = .ok (.ireturn, 1) := by decide +kernel
set_option maxRecDepth 20000 in
theorem ggX3_melt_X0_holding : GoodIn wsX3_melt wsX0_holding := goodIn_r _ [13, 14, 15, 16, 17, 12, 18, 19, 20, 57, 58, 59, 60, 61, 62, 63] (by decide +kernel) (by decide +kernel)
set_option maxRecDepth 20000 in
theorem gX3_melt_X0_holding : GoodIn wsX3_melt (wsV RX3 124 RX0 yX0_holding wsX0_holding) := goodIn_app (goodIn_of _ (by decide +kernel)) ggX3_melt_X0_holding
set_option maxRecDepth 20000 in
theorem ggX3_melt_X0_end : GoodIn wsX3_melt wsX0_end := goodIn_r _ [18, 19, 20, 57, 58, 59, 60, 61, 62, 63] (by decide +kernel) (by decide +kernel)
set_option maxRecDepth 20000 in
theorem gX3_melt_X0_end : GoodIn wsX3_melt (wsV RX3 134 RX0 yX0_end wsX0_end) := goodIn_app (goodIn_of _ (by decide +kernel)) ggX3_melt_X0_end
set_option maxRecDepth 20000 in
theorem ggX3_melt_X3_meltIn : GoodIn wsX3_melt wsX3_meltIn := goodIn_r _ [26, 3, 27, 2, 4, 6, 1, 28, 29, 30, 21, 16, 17, 12, 18, 19, 20, 31, 32, 33, 34, 35, 36, 37, 38, 39, 40, 41, 42, 43, 44, 45, 46, 47, 48, 49, 50, 51, 52, 53, 54, 55, 56, 57, 58, 59, 60, 61, 62, 63] (by decide +kernel) (by decide +kernel)
set_option maxRecDepth 20000 in
theorem gX3_melt_X3_meltIn : GoodIn wsX3_melt (wsV RX3 137 RX3 yX3_meltIn wsX3_meltIn) := goodIn_app (goodIn_of _ (by decide +kernel)) ggX3_melt_X3_meltIn
theorem dX3_melt_0 : decode cX3_melt 0 = .ok (.aload_n 0, 1) := by decide +kernel
theorem dX3_melt_1 : decode cX3_melt 1 = .ok (.dup, 1) := by decide +kernel
theorem dX3_melt_2 : decode cX3_melt 2 = .ok (.getfield 60, 3) := by decide +kernel
theorem dX3_melt_5 : decode cX3_melt 5 = .ok (.aload_n 0, 1) := by decide +kernel
theorem dX3_melt_6 : decode cX3_melt 6 = .ok (.getfield 30, 3) := by decide +kernel
theorem dX3_melt_9 : decode cX3_melt 9 = .ok (.iconst 0, 1) := by decide +kernel
theorem dX3_melt_10 : decode cX3_melt 10 = .ok (.iaload, 1) := by decide +kernel
theorem dX3_melt_11 : decode cX3_melt 11 = .ok (.iadd, 1) := by decide +kernel
theorem dX3_melt_12 : decode cX3_melt 12 = .ok (.putfield 60, 3) := by decide +kernel
theorem dX3_melt_15 : decode cX3_melt 15 = .ok (.aload_n 0, 1) := by decide +kernel
theorem dX3_melt_16 : decode cX3_melt 16 = .ok (.getfield 10, 3) := by decide +kernel
theorem dX3_melt_19 : decode cX3_melt 19 = .ok (.aload_n 0, 1) := by decide +kernel
theorem dX3_melt_20 : decode cX3_melt 20 = .ok (.getfield 56, 3) := by decide +kernel
theorem dX3_melt_23 : decode cX3_melt 23 = .ok (.invokevirtual 124, 3) := by decide +kernel
theorem dX3_melt_26 : decode cX3_melt 26 = .ok (.istore_n 1, 1) := by decide +kernel
theorem dX3_melt_27 : decode cX3_melt 27 = .ok (.iload_n 1, 1) := by decide +kernel
theorem dX3_melt_28 : decode cX3_melt 28 = .ok (.aload_n 0, 1) := by decide +kernel
theorem dX3_melt_29 : decode cX3_melt 29 = .ok (.getfield 10, 3) := by decide +kernel
theorem dX3_melt_32 : decode cX3_melt 32 = .ok (.getfield 128, 3) := by decide +kernel
theorem dX3_melt_35 : decode cX3_melt 35 = .ok (.if_icmp .ge 73, 3) := by decide +kernel
theorem dX3_melt_38 : decode cX3_melt 38 = .ok (.aload_n 0, 1) := by decide +kernel
theorem dX3_melt_39 : decode cX3_melt 39 = .ok (.getfield 63, 3) := by decide +kernel
theorem dX3_melt_42 : decode cX3_melt 42 = .ok (.aload_n 0, 1) := by decide +kernel
theorem dX3_melt_43 : decode cX3_melt 43 = .ok (.getfield 30, 3) := by decide +kernel
theorem dX3_melt_46 : decode cX3_melt 46 = .ok (.iconst 2, 1) := by decide +kernel
theorem dX3_melt_47 : decode cX3_melt 47 = .ok (.iaload, 1) := by decide +kernel
theorem dX3_melt_48 : decode cX3_melt 48 = .ok (.if_icmp .ge 60, 3) := by decide +kernel
theorem dX3_melt_51 : decode cX3_melt 51 = .ok (.aload_n 0, 1) := by decide +kernel
theorem dX3_melt_52 : decode cX3_melt 52 = .ok (.getfield 10, 3) := by decide +kernel
theorem dX3_melt_55 : decode cX3_melt 55 = .ok (.getfield 131, 3) := by decide +kernel
theorem dX3_melt_58 : decode cX3_melt 58 = .ok (.iload_n 1, 1) := by decide +kernel
theorem dX3_melt_59 : decode cX3_melt 59 = .ok (.iaload, 1) := by decide +kernel
theorem dX3_melt_60 : decode cX3_melt 60 = .ok (.iconst 1, 1) := by decide +kernel
theorem dX3_melt_61 : decode cX3_melt 61 = .ok (.if_icmp .ne 18, 3) := by decide +kernel
theorem dX3_melt_64 : decode cX3_melt 64 = .ok (.aload_n 0, 1) := by decide +kernel
theorem dX3_melt_65 : decode cX3_melt 65 = .ok (.aload_n 0, 1) := by decide +kernel
theorem dX3_melt_66 : decode cX3_melt 66 = .ok (.getfield 10, 3) := by decide +kernel
theorem dX3_melt_69 : decode cX3_melt 69 = .ok (.iload_n 1, 1) := by decide +kernel
theorem dX3_melt_70 : decode cX3_melt 70 = .ok (.invokevirtual 134, 3) := by decide +kernel
theorem dX3_melt_73 : decode cX3_melt 73 = .ok (.putfield 56, 3) := by decide +kernel
theorem dX3_melt_76 : decode cX3_melt 76 = .ok (.goto 8, 3) := by decide +kernel
theorem dX3_melt_79 : decode cX3_melt 79 = .ok (.aload_n 0, 1) := by decide +kernel
theorem dX3_melt_80 : decode cX3_melt 80 = .ok (.iload_n 1, 1) := by decide +kernel
theorem dX3_melt_81 : decode cX3_melt 81 = .ok (.invokevirtual 137, 3) := by decide +kernel
theorem dX3_melt_84 : decode cX3_melt 84 = .ok (.aload_n 0, 1) := by decide +kernel
theorem dX3_melt_85 : decode cX3_melt 85 = .ok (.getfield 56, 3) := by decide +kernel
theorem dX3_melt_88 : decode cX3_melt 88 = .ok (.aload_n 0, 1) := by decide +kernel
theorem dX3_melt_89 : decode cX3_melt 89 = .ok (.getfield 10, 3) := by decide +kernel
theorem dX3_melt_92 : decode cX3_melt 92 = .ok (.iload_n 1, 1) := by decide +kernel
theorem dX3_melt_93 : decode cX3_melt 93 = .ok (.invokevirtual 134, 3) := by decide +kernel
theorem dX3_melt_96 : decode cX3_melt 96 = .ok (.if_icmp .ge 6, 3) := by decide +kernel
theorem dX3_melt_99 : decode cX3_melt 99 = .ok (.goto 9, 3) := by decide +kernel
theorem dX3_melt_102 : decode cX3_melt 102 = .ok (.iinc 1 1, 3) := by decide +kernel
theorem dX3_melt_105 : decode cX3_melt 105 = .ok (.goto (-78), 3) := by decide +kernel
theorem dX3_melt_108 : decode cX3_melt 108 = .ok (.aload_n 0, 1) := by decide +kernel
theorem dX3_melt_109 : decode cX3_melt 109 = .ok (.getfield 56, 3) := by decide +kernel
theorem dX3_melt_112 : decode cX3_melt 112 = .ok (.aload_n 0, 1) := by decide +kernel
theorem dX3_melt_113 : decode cX3_melt 113 = .ok (.getfield 10, 3) := by decide +kernel
theorem dX3_melt_116 : decode cX3_melt 116 = .ok (.getfield 118, 3) := by decide +kernel
theorem dX3_melt_119 : decode cX3_melt 119 = .ok (.if_icmp .lt 8, 3) := by decide +kernel
theorem dX3_melt_122 : decode cX3_melt 122 = .ok (.aload_n 0, 1) := by decide +kernel
theorem dX3_melt_123 : decode cX3_melt 123 = .ok (.iconst 0, 1) := by decide +kernel
theorem dX3_melt_124 : decode cX3_melt 124 = .ok (.putfield 60, 3) := by decide +kernel
theorem dX3_melt_127 : decode cX3_melt 127 = .ok (.return_, 1) := by decide +kernel
set_option maxRecDepth 20000 in
theorem ggX3_meltIn_X0_end : GoodIn wsX3_meltIn wsX0_end := goodIn_r _ [14, 15, 16, 43, 44, 45, 46, 47, 48, 49] (by decide +kernel) (by decide +kernel)
set_option maxRecDepth 20000 in
theorem gX3_meltIn_X0_end : GoodIn wsX3_meltIn (wsV RX3 134 RX0 yX0_end wsX0_end) := goodIn_app (goodIn_of _ (by decide +kernel)) ggX3_meltIn_X0_end
set_option maxRecDepth 20000 in
theorem ggX3_meltIn_X0_gasOfUnit : GoodIn wsX3_meltIn wsX0_gasOfUnit := goodIn_r _ [20, 21, 22, 23, 43, 44, 45, 46, 47, 48, 49] (by decide +kernel) (by decide +kernel)
set_option maxRecDepth 20000 in
theorem gX3_meltIn_X0_gasOfUnit : GoodIn wsX3_meltIn (wsV RX3 143 RX0 yX0_gasOfUnit wsX0_gasOfUnit) := goodIn_app (goodIn_of _ (by decide +kernel)) ggX3_meltIn_X0_gasOfUnit
set_option maxRecDepth 20000 in
theorem ggX3_meltIn_X0_dirtOfUnit : GoodIn wsX3_meltIn wsX0_dirtOfUnit := goodIn_r _ [27, 21, 23, 43, 44, 45, 46, 47, 48, 49] (by decide +kernel) (by decide +kernel)
set_option maxRecDepth 20000 in
theorem gX3_meltIn_X0_dirtOfUnit : GoodIn wsX3_meltIn (wsV RX3 146 RX0 yX0_dirtOfUnit wsX0_dirtOfUnit) := goodIn_app (goodIn_of _ (by decide +kernel)) ggX3_meltIn_X0_dirtOfUnit
theorem dX3_meltIn_0 : decode cX3_meltIn 0 = .ok (.aload_n 0, 1) := by decide +kernel
theorem dX3_meltIn_1 : decode cX3_meltIn 1 = .ok (.getfield 10, 3) := by decide +kernel
theorem dX3_meltIn_4 : decode cX3_meltIn 4 = .ok (.iload_n 1, 1) := by decide +kernel
theorem dX3_meltIn_5 : decode cX3_meltIn 5 = .ok (.invokevirtual 134, 3) := by decide +kernel
theorem dX3_meltIn_8 : decode cX3_meltIn 8 = .ok (.istore_n 2, 1) := by decide +kernel
theorem dX3_meltIn_9 : decode cX3_meltIn 9 = .ok (.aload_n 0, 1) := by decide +kernel
theorem dX3_meltIn_10 : decode cX3_meltIn 10 = .ok (.getfield 10, 3) := by decide +kernel
theorem dX3_meltIn_13 : decode cX3_meltIn 13 = .ok (.getfield 140, 3) := by decide +kernel
theorem dX3_meltIn_16 : decode cX3_meltIn 16 = .ok (.iload_n 1, 1) := by decide +kernel
theorem dX3_meltIn_17 : decode cX3_meltIn 17 = .ok (.iaload, 1) := by decide +kernel
theorem dX3_meltIn_18 : decode cX3_meltIn 18 = .ok (.istore_n 3, 1) := by decide +kernel
theorem dX3_meltIn_19 : decode cX3_meltIn 19 = .ok (.aload_n 0, 1) := by decide +kernel
theorem dX3_meltIn_20 : decode cX3_meltIn 20 = .ok (.getfield 10, 3) := by decide +kernel
theorem dX3_meltIn_23 : decode cX3_meltIn 23 = .ok (.iload_n 1, 1) := by decide +kernel
theorem dX3_meltIn_24 : decode cX3_meltIn 24 = .ok (.invokevirtual 143, 3) := by decide +kernel
theorem dX3_meltIn_27 : decode cX3_meltIn 27 = .ok (.istore 4, 2) := by decide +kernel
theorem dX3_meltIn_29 : decode cX3_meltIn 29 = .ok (.aload_n 0, 1) := by decide +kernel
theorem dX3_meltIn_30 : decode cX3_meltIn 30 = .ok (.getfield 10, 3) := by decide +kernel
theorem dX3_meltIn_33 : decode cX3_meltIn 33 = .ok (.iload_n 1, 1) := by decide +kernel
theorem dX3_meltIn_34 : decode cX3_meltIn 34 = .ok (.invokevirtual 146, 3) := by decide +kernel
theorem dX3_meltIn_37 : decode cX3_meltIn 37 = .ok (.istore 5, 2) := by decide +kernel
theorem dX3_meltIn_39 : decode cX3_meltIn 39 = .ok (.aload_n 0, 1) := by decide +kernel
theorem dX3_meltIn_40 : decode cX3_meltIn 40 = .ok (.getfield 30, 3) := by decide +kernel
theorem dX3_meltIn_43 : decode cX3_meltIn 43 = .ok (.iconst 1, 1) := by decide +kernel
theorem dX3_meltIn_44 : decode cX3_meltIn 44 = .ok (.iaload, 1) := by decide +kernel
theorem dX3_meltIn_45 : decode cX3_meltIn 45 = .ok (.iload_n 3, 1) := by decide +kernel
theorem dX3_meltIn_46 : decode cX3_meltIn 46 = .ok (.imul, 1) := by decide +kernel
theorem dX3_meltIn_47 : decode cX3_meltIn 47 = .ok (.bipush 100, 2) := by decide +kernel
theorem dX3_meltIn_49 : decode cX3_meltIn 49 = .ok (.idiv, 1) := by decide +kernel
theorem dX3_meltIn_50 : decode cX3_meltIn 50 = .ok (.istore 6, 2) := by decide +kernel
theorem dX3_meltIn_52 : decode cX3_meltIn 52 = .ok (.aload_n 0, 1) := by decide +kernel
theorem dX3_meltIn_53 : decode cX3_meltIn 53 = .ok (.getfield 56, 3) := by decide +kernel
theorem dX3_meltIn_56 : decode cX3_meltIn 56 = .ok (.iload_n 2, 1) := by decide +kernel
theorem dX3_meltIn_57 : decode cX3_meltIn 57 = .ok (.if_icmp .ge 113, 3) := by decide +kernel
theorem dX3_meltIn_60 : decode cX3_meltIn 60 = .ok (.aload_n 0, 1) := by decide +kernel
theorem dX3_meltIn_61 : decode cX3_meltIn 61 = .ok (.getfield 63, 3) := by decide +kernel
theorem dX3_meltIn_64 : decode cX3_meltIn 64 = .ok (.aload_n 0, 1) := by decide +kernel
theorem dX3_meltIn_65 : decode cX3_meltIn 65 = .ok (.getfield 30, 3) := by decide +kernel
theorem dX3_meltIn_68 : decode cX3_meltIn 68 = .ok (.iconst 2, 1) := by decide +kernel
theorem dX3_meltIn_69 : decode cX3_meltIn 69 = .ok (.iaload, 1) := by decide +kernel
theorem dX3_meltIn_70 : decode cX3_meltIn 70 = .ok (.if_icmp .ge 100, 3) := by decide +kernel
theorem dX3_meltIn_73 : decode cX3_meltIn 73 = .ok (.aload_n 0, 1) := by decide +kernel
theorem dX3_meltIn_74 : decode cX3_meltIn 74 = .ok (.getfield 60, 3) := by decide +kernel
theorem dX3_meltIn_77 : decode cX3_meltIn 77 = .ok (.iload 6, 2) := by decide +kernel
theorem dX3_meltIn_79 : decode cX3_meltIn 79 = .ok (.if_icmp .lt 91, 3) := by decide +kernel
theorem dX3_meltIn_82 : decode cX3_meltIn 82 = .ok (.aload_n 0, 1) := by decide +kernel
theorem dX3_meltIn_83 : decode cX3_meltIn 83 = .ok (.dup, 1) := by decide +kernel
theorem dX3_meltIn_84 : decode cX3_meltIn 84 = .ok (.getfield 56, 3) := by decide +kernel
theorem dX3_meltIn_87 : decode cX3_meltIn 87 = .ok (.iconst 1, 1) := by decide +kernel
theorem dX3_meltIn_88 : decode cX3_meltIn 88 = .ok (.iadd, 1) := by decide +kernel
theorem dX3_meltIn_89 : decode cX3_meltIn 89 = .ok (.putfield 56, 3) := by decide +kernel
theorem dX3_meltIn_92 : decode cX3_meltIn 92 = .ok (.aload_n 0, 1) := by decide +kernel
theorem dX3_meltIn_93 : decode cX3_meltIn 93 = .ok (.dup, 1) := by decide +kernel
theorem dX3_meltIn_94 : decode cX3_meltIn 94 = .ok (.getfield 60, 3) := by decide +kernel
theorem dX3_meltIn_97 : decode cX3_meltIn 97 = .ok (.iload 6, 2) := by decide +kernel
theorem dX3_meltIn_99 : decode cX3_meltIn 99 = .ok (.isub, 1) := by decide +kernel
theorem dX3_meltIn_100 : decode cX3_meltIn 100 = .ok (.putfield 60, 3) := by decide +kernel
theorem dX3_meltIn_103 : decode cX3_meltIn 103 = .ok (.aload_n 0, 1) := by decide +kernel
theorem dX3_meltIn_104 : decode cX3_meltIn 104 = .ok (.dup, 1) := by decide +kernel
theorem dX3_meltIn_105 : decode cX3_meltIn 105 = .ok (.getfield 63, 3) := by decide +kernel
theorem dX3_meltIn_108 : decode cX3_meltIn 108 = .ok (.iload_n 3, 1) := by decide +kernel
theorem dX3_meltIn_109 : decode cX3_meltIn 109 = .ok (.iadd, 1) := by decide +kernel
theorem dX3_meltIn_110 : decode cX3_meltIn 110 = .ok (.putfield 63, 3) := by decide +kernel
theorem dX3_meltIn_113 : decode cX3_meltIn 113 = .ok (.aload_n 0, 1) := by decide +kernel
theorem dX3_meltIn_114 : decode cX3_meltIn 114 = .ok (.dup, 1) := by decide +kernel
theorem dX3_meltIn_115 : decode cX3_meltIn 115 = .ok (.getfield 66, 3) := by decide +kernel
theorem dX3_meltIn_118 : decode cX3_meltIn 118 = .ok (.iload 4, 2) := by decide +kernel
theorem dX3_meltIn_120 : decode cX3_meltIn 120 = .ok (.iadd, 1) := by decide +kernel
theorem dX3_meltIn_121 : decode cX3_meltIn 121 = .ok (.putfield 66, 3) := by decide +kernel
theorem dX3_meltIn_124 : decode cX3_meltIn 124 = .ok (.aload_n 0, 1) := by decide +kernel
theorem dX3_meltIn_125 : decode cX3_meltIn 125 = .ok (.dup, 1) := by decide +kernel
theorem dX3_meltIn_126 : decode cX3_meltIn 126 = .ok (.getfield 69, 3) := by decide +kernel
theorem dX3_meltIn_129 : decode cX3_meltIn 129 = .ok (.iload 5, 2) := by decide +kernel
theorem dX3_meltIn_131 : decode cX3_meltIn 131 = .ok (.iadd, 1) := by decide +kernel
theorem dX3_meltIn_132 : decode cX3_meltIn 132 = .ok (.putfield 69, 3) := by decide +kernel
theorem dX3_meltIn_135 : decode cX3_meltIn 135 = .ok (.aload_n 0, 1) := by decide +kernel
theorem dX3_meltIn_136 : decode cX3_meltIn 136 = .ok (.getfield 34, 3) := by decide +kernel
theorem dX3_meltIn_139 : decode cX3_meltIn 139 = .ok (.iconst 0, 1) := by decide +kernel
theorem dX3_meltIn_140 : decode cX3_meltIn 140 = .ok (.dup2, 1) := by decide +kernel
theorem dX3_meltIn_141 : decode cX3_meltIn 141 = .ok (.iaload, 1) := by decide +kernel
theorem dX3_meltIn_142 : decode cX3_meltIn 142 = .ok (.iload_n 3, 1) := by decide +kernel
theorem dX3_meltIn_143 : decode cX3_meltIn 143 = .ok (.iadd, 1) := by decide +kernel
theorem dX3_meltIn_144 : decode cX3_meltIn 144 = .ok (.iastore, 1) := by decide +kernel
theorem dX3_meltIn_145 : decode cX3_meltIn 145 = .ok (.aload_n 0, 1) := by decide +kernel
theorem dX3_meltIn_146 : decode cX3_meltIn 146 = .ok (.getfield 34, 3) := by decide +kernel
theorem dX3_meltIn_149 : decode cX3_meltIn 149 = .ok (.iconst 3, 1) := by decide +kernel
theorem dX3_meltIn_150 : decode cX3_meltIn 150 = .ok (.dup2, 1) := by decide +kernel
theorem dX3_meltIn_151 : decode cX3_meltIn 151 = .ok (.iaload, 1) := by decide +kernel
theorem dX3_meltIn_152 : decode cX3_meltIn 152 = .ok (.iload 4, 2) := by decide +kernel
theorem dX3_meltIn_154 : decode cX3_meltIn 154 = .ok (.iadd, 1) := by decide +kernel
theorem dX3_meltIn_155 : decode cX3_meltIn 155 = .ok (.iastore, 1) := by decide +kernel
theorem dX3_meltIn_156 : decode cX3_meltIn 156 = .ok (.aload_n 0, 1) := by decide +kernel
theorem dX3_meltIn_157 : decode cX3_meltIn 157 = .ok (.getfield 34, 3) := by decide +kernel
theorem dX3_meltIn_160 : decode cX3_meltIn 160 = .ok (.iconst 5, 1) := by decide +kernel
theorem dX3_meltIn_161 : decode cX3_meltIn 161 = .ok (.dup2, 1) := by decide +kernel
theorem dX3_meltIn_162 : decode cX3_meltIn 162 = .ok (.iaload, 1) := by decide +kernel
theorem dX3_meltIn_163 : decode cX3_meltIn 163 = .ok (.iload 5, 2) := by decide +kernel
theorem dX3_meltIn_165 : decode cX3_meltIn 165 = .ok (.iadd, 1) := by decide +kernel
theorem dX3_meltIn_166 : decode cX3_meltIn 166 = .ok (.iastore, 1) := by decide +kernel
theorem dX3_meltIn_167 : decode cX3_meltIn 167 = .ok (.goto (-115), 3) := by decide +kernel
theorem dX3_meltIn_170 : decode cX3_meltIn 170 = .ok (.return_, 1) := by decide +kernel
set_option maxRecDepth 20000 in
theorem ggX3_draw_X2_breaks : GoodIn wsX3_draw wsX2_breaks := goodIn_r _ [20, 21, 43, 44, 45, 46, 47] (by decide +kernel) (by decide +kernel)
set_option maxRecDepth 20000 in
theorem gX3_draw_X2_breaks : GoodIn wsX3_draw (wsV RX3 161 RX2 yX2_breaks wsX2_breaks) := goodIn_app (goodIn_of _ (by decide +kernel)) ggX3_draw_X2_breaks
set_option maxRecDepth 20000 in
theorem ggX3_draw_X2_soil : GoodIn wsX3_draw wsX2_soil := goodIn_r _ [25, 26, 27, 43, 44, 45, 46, 47] (by decide +kernel) (by decide +kernel)
set_option maxRecDepth 20000 in
theorem gX3_draw_X2_soil : GoodIn wsX3_draw (wsV RX3 171 RX2 yX2_soil wsX2_soil) := goodIn_app (goodIn_of _ (by decide +kernel)) ggX3_draw_X2_soil
theorem dX3_draw_0 : decode cX3_draw 0 = .ok (.aload_n 0, 1) := by decide +kernel
theorem dX3_draw_1 : decode cX3_draw 1 = .ok (.getfield 30, 3) := by decide +kernel
theorem dX3_draw_4 : decode cX3_draw 4 = .ok (.iconst 3, 1) := by decide +kernel
theorem dX3_draw_5 : decode cX3_draw 5 = .ok (.iaload, 1) := by decide +kernel
theorem dX3_draw_6 : decode cX3_draw 6 = .ok (.aload_n 0, 1) := by decide +kernel
theorem dX3_draw_7 : decode cX3_draw 7 = .ok (.getfield 63, 3) := by decide +kernel
theorem dX3_draw_10 : decode cX3_draw 10 = .ok (.invokestatic 149, 3) := by decide +kernel
theorem dX3_draw_13 : decode cX3_draw 13 = .ok (.istore_n 2, 1) := by decide +kernel
theorem dX3_draw_14 : decode cX3_draw 14 = .ok (.aload_n 0, 1) := by decide +kernel
theorem dX3_draw_15 : decode cX3_draw 15 = .ok (.getfield 19, 3) := by decide +kernel
theorem dX3_draw_18 : decode cX3_draw 18 = .ok (.getfield 155, 3) := by decide +kernel
theorem dX3_draw_21 : decode cX3_draw 21 = .ok (.iload_n 1, 1) := by decide +kernel
theorem dX3_draw_22 : decode cX3_draw 22 = .ok (.iaload, 1) := by decide +kernel
theorem dX3_draw_23 : decode cX3_draw 23 = .ok (.ifCond .ne 14, 3) := by decide +kernel
theorem dX3_draw_26 : decode cX3_draw 26 = .ok (.aload_n 0, 1) := by decide +kernel
theorem dX3_draw_27 : decode cX3_draw 27 = .ok (.getfield 63, 3) := by decide +kernel
theorem dX3_draw_30 : decode cX3_draw 30 = .ok (.ifCond .le 7, 3) := by decide +kernel
theorem dX3_draw_33 : decode cX3_draw 33 = .ok (.iload_n 2, 1) := by decide +kernel
theorem dX3_draw_34 : decode cX3_draw 34 = .ok (.ifCond .gt 4, 3) := by decide +kernel
theorem dX3_draw_37 : decode cX3_draw 37 = .ok (.return_, 1) := by decide +kernel
theorem dX3_draw_38 : decode cX3_draw 38 = .ok (.aload_n 0, 1) := by decide +kernel
theorem dX3_draw_39 : decode cX3_draw 39 = .ok (.getfield 66, 3) := by decide +kernel
theorem dX3_draw_42 : decode cX3_draw 42 = .ok (.iload_n 2, 1) := by decide +kernel
theorem dX3_draw_43 : decode cX3_draw 43 = .ok (.imul, 1) := by decide +kernel
theorem dX3_draw_44 : decode cX3_draw 44 = .ok (.aload_n 0, 1) := by decide +kernel
theorem dX3_draw_45 : decode cX3_draw 45 = .ok (.getfield 63, 3) := by decide +kernel
theorem dX3_draw_48 : decode cX3_draw 48 = .ok (.idiv, 1) := by decide +kernel
theorem dX3_draw_49 : decode cX3_draw 49 = .ok (.istore_n 3, 1) := by decide +kernel
theorem dX3_draw_50 : decode cX3_draw 50 = .ok (.aload_n 0, 1) := by decide +kernel
theorem dX3_draw_51 : decode cX3_draw 51 = .ok (.getfield 69, 3) := by decide +kernel
theorem dX3_draw_54 : decode cX3_draw 54 = .ok (.iload_n 2, 1) := by decide +kernel
theorem dX3_draw_55 : decode cX3_draw 55 = .ok (.imul, 1) := by decide +kernel
theorem dX3_draw_56 : decode cX3_draw 56 = .ok (.aload_n 0, 1) := by decide +kernel
theorem dX3_draw_57 : decode cX3_draw 57 = .ok (.getfield 63, 3) := by decide +kernel
theorem dX3_draw_60 : decode cX3_draw 60 = .ok (.idiv, 1) := by decide +kernel
theorem dX3_draw_61 : decode cX3_draw 61 = .ok (.istore 4, 2) := by decide +kernel
theorem dX3_draw_63 : decode cX3_draw 63 = .ok (.aload_n 0, 1) := by decide +kernel
theorem dX3_draw_64 : decode cX3_draw 64 = .ok (.dup, 1) := by decide +kernel
theorem dX3_draw_65 : decode cX3_draw 65 = .ok (.getfield 63, 3) := by decide +kernel
theorem dX3_draw_68 : decode cX3_draw 68 = .ok (.iload_n 2, 1) := by decide +kernel
theorem dX3_draw_69 : decode cX3_draw 69 = .ok (.isub, 1) := by decide +kernel
theorem dX3_draw_70 : decode cX3_draw 70 = .ok (.putfield 63, 3) := by decide +kernel
theorem dX3_draw_73 : decode cX3_draw 73 = .ok (.aload_n 0, 1) := by decide +kernel
theorem dX3_draw_74 : decode cX3_draw 74 = .ok (.dup, 1) := by decide +kernel
theorem dX3_draw_75 : decode cX3_draw 75 = .ok (.getfield 66, 3) := by decide +kernel
theorem dX3_draw_78 : decode cX3_draw 78 = .ok (.iload_n 3, 1) := by decide +kernel
theorem dX3_draw_79 : decode cX3_draw 79 = .ok (.isub, 1) := by decide +kernel
theorem dX3_draw_80 : decode cX3_draw 80 = .ok (.putfield 66, 3) := by decide +kernel
theorem dX3_draw_83 : decode cX3_draw 83 = .ok (.aload_n 0, 1) := by decide +kernel
theorem dX3_draw_84 : decode cX3_draw 84 = .ok (.dup, 1) := by decide +kernel
theorem dX3_draw_85 : decode cX3_draw 85 = .ok (.getfield 69, 3) := by decide +kernel
theorem dX3_draw_88 : decode cX3_draw 88 = .ok (.iload 4, 2) := by decide +kernel
theorem dX3_draw_90 : decode cX3_draw 90 = .ok (.isub, 1) := by decide +kernel
theorem dX3_draw_91 : decode cX3_draw 91 = .ok (.putfield 69, 3) := by decide +kernel
theorem dX3_draw_94 : decode cX3_draw 94 = .ok (.aload_n 0, 1) := by decide +kernel
theorem dX3_draw_95 : decode cX3_draw 95 = .ok (.getfield 34, 3) := by decide +kernel
theorem dX3_draw_98 : decode cX3_draw 98 = .ok (.iconst 4, 1) := by decide +kernel
theorem dX3_draw_99 : decode cX3_draw 99 = .ok (.dup2, 1) := by decide +kernel
theorem dX3_draw_100 : decode cX3_draw 100 = .ok (.iaload, 1) := by decide +kernel
theorem dX3_draw_101 : decode cX3_draw 101 = .ok (.iload_n 3, 1) := by decide +kernel
theorem dX3_draw_102 : decode cX3_draw 102 = .ok (.iadd, 1) := by decide +kernel
theorem dX3_draw_103 : decode cX3_draw 103 = .ok (.iastore, 1) := by decide +kernel
theorem dX3_draw_104 : decode cX3_draw 104 = .ok (.aload_n 0, 1) := by decide +kernel
theorem dX3_draw_105 : decode cX3_draw 105 = .ok (.getfield 34, 3) := by decide +kernel
theorem dX3_draw_108 : decode cX3_draw 108 = .ok (.bipush 6, 2) := by decide +kernel
theorem dX3_draw_110 : decode cX3_draw 110 = .ok (.dup2, 1) := by decide +kernel
theorem dX3_draw_111 : decode cX3_draw 111 = .ok (.iaload, 1) := by decide +kernel
theorem dX3_draw_112 : decode cX3_draw 112 = .ok (.iload 4, 2) := by decide +kernel
theorem dX3_draw_114 : decode cX3_draw 114 = .ok (.iadd, 1) := by decide +kernel
theorem dX3_draw_115 : decode cX3_draw 115 = .ok (.iastore, 1) := by decide +kernel
theorem dX3_draw_116 : decode cX3_draw 116 = .ok (.aload_n 0, 1) := by decide +kernel
theorem dX3_draw_117 : decode cX3_draw 117 = .ok (.getfield 19, 3) := by decide +kernel
theorem dX3_draw_120 : decode cX3_draw 120 = .ok (.getfield 158, 3) := by decide +kernel
theorem dX3_draw_123 : decode cX3_draw 123 = .ok (.iload_n 1, 1) := by decide +kernel
theorem dX3_draw_124 : decode cX3_draw 124 = .ok (.dup2, 1) := by decide +kernel
theorem dX3_draw_125 : decode cX3_draw 125 = .ok (.iaload, 1) := by decide +kernel
theorem dX3_draw_126 : decode cX3_draw 126 = .ok (.iload_n 2, 1) := by decide +kernel
theorem dX3_draw_127 : decode cX3_draw 127 = .ok (.iadd, 1) := by decide +kernel
theorem dX3_draw_128 : decode cX3_draw 128 = .ok (.iastore, 1) := by decide +kernel
theorem dX3_draw_129 : decode cX3_draw 129 = .ok (.bipush 100, 2) := by decide +kernel
theorem dX3_draw_131 : decode cX3_draw 131 = .ok (.iload_n 3, 1) := by decide +kernel
theorem dX3_draw_132 : decode cX3_draw 132 = .ok (.imul, 1) := by decide +kernel
theorem dX3_draw_133 : decode cX3_draw 133 = .ok (.iload_n 2, 1) := by decide +kernel
theorem dX3_draw_134 : decode cX3_draw 134 = .ok (.idiv, 1) := by decide +kernel
theorem dX3_draw_135 : decode cX3_draw 135 = .ok (.aload_n 0, 1) := by decide +kernel
theorem dX3_draw_136 : decode cX3_draw 136 = .ok (.getfield 30, 3) := by decide +kernel
theorem dX3_draw_139 : decode cX3_draw 139 = .ok (.iconst 5, 1) := by decide +kernel
theorem dX3_draw_140 : decode cX3_draw 140 = .ok (.iaload, 1) := by decide +kernel
theorem dX3_draw_141 : decode cX3_draw 141 = .ok (.if_icmp .le 7, 3) := by decide +kernel
theorem dX3_draw_144 : decode cX3_draw 144 = .ok (.iconst 1, 1) := by decide +kernel
theorem dX3_draw_145 : decode cX3_draw 145 = .ok (.goto 4, 3) := by decide +kernel
theorem dX3_draw_148 : decode cX3_draw 148 = .ok (.iconst 0, 1) := by decide +kernel
theorem dX3_draw_149 : decode cX3_draw 149 = .ok (.istore 5, 2) := by decide +kernel
theorem dX3_draw_151 : decode cX3_draw 151 = .ok (.aload_n 0, 1) := by decide +kernel
theorem dX3_draw_152 : decode cX3_draw 152 = .ok (.getfield 19, 3) := by decide +kernel
theorem dX3_draw_155 : decode cX3_draw 155 = .ok (.iload_n 1, 1) := by decide +kernel
theorem dX3_draw_156 : decode cX3_draw 156 = .ok (.iload 5, 2) := by decide +kernel
theorem dX3_draw_158 : decode cX3_draw 158 = .ok (.aload_n 0, 1) := by decide +kernel
theorem dX3_draw_159 : decode cX3_draw 159 = .ok (.getfield 30, 3) := by decide +kernel
theorem dX3_draw_162 : decode cX3_draw 162 = .ok (.bipush 7, 2) := by decide +kernel
theorem dX3_draw_164 : decode cX3_draw 164 = .ok (.iaload, 1) := by decide +kernel
theorem dX3_draw_165 : decode cX3_draw 165 = .ok (.invokevirtual 161, 3) := by decide +kernel
theorem dX3_draw_168 : decode cX3_draw 168 = .ok (.ifCond .eq 29, 3) := by decide +kernel
theorem dX3_draw_171 : decode cX3_draw 171 = .ok (.aload_n 0, 1) := by decide +kernel
theorem dX3_draw_172 : decode cX3_draw 172 = .ok (.getfield 19, 3) := by decide +kernel
theorem dX3_draw_175 : decode cX3_draw 175 = .ok (.getfield 165, 3) := by decide +kernel
theorem dX3_draw_178 : decode cX3_draw 178 = .ok (.iload_n 1, 1) := by decide +kernel
theorem dX3_draw_179 : decode cX3_draw 179 = .ok (.dup2, 1) := by decide +kernel
theorem dX3_draw_180 : decode cX3_draw 180 = .ok (.iaload, 1) := by decide +kernel
theorem dX3_draw_181 : decode cX3_draw 181 = .ok (.iload_n 2, 1) := by decide +kernel
theorem dX3_draw_182 : decode cX3_draw 182 = .ok (.iadd, 1) := by decide +kernel
theorem dX3_draw_183 : decode cX3_draw 183 = .ok (.iastore, 1) := by decide +kernel
theorem dX3_draw_184 : decode cX3_draw 184 = .ok (.aload_n 0, 1) := by decide +kernel
theorem dX3_draw_185 : decode cX3_draw 185 = .ok (.getfield 34, 3) := by decide +kernel
theorem dX3_draw_188 : decode cX3_draw 188 = .ok (.iconst 2, 1) := by decide +kernel
theorem dX3_draw_189 : decode cX3_draw 189 = .ok (.dup2, 1) := by decide +kernel
theorem dX3_draw_190 : decode cX3_draw 190 = .ok (.iaload, 1) := by decide +kernel
theorem dX3_draw_191 : decode cX3_draw 191 = .ok (.iload_n 2, 1) := by decide +kernel
theorem dX3_draw_192 : decode cX3_draw 192 = .ok (.iadd, 1) := by decide +kernel
theorem dX3_draw_193 : decode cX3_draw 193 = .ok (.iastore, 1) := by decide +kernel
theorem dX3_draw_194 : decode cX3_draw 194 = .ok (.goto 26, 3) := by decide +kernel
theorem dX3_draw_197 : decode cX3_draw 197 = .ok (.aload_n 0, 1) := by decide +kernel
theorem dX3_draw_198 : decode cX3_draw 198 = .ok (.getfield 26, 3) := by decide +kernel
theorem dX3_draw_201 : decode cX3_draw 201 = .ok (.dup, 1) := by decide +kernel
theorem dX3_draw_202 : decode cX3_draw 202 = .ok (.getfield 168, 3) := by decide +kernel
theorem dX3_draw_205 : decode cX3_draw 205 = .ok (.iload_n 2, 1) := by decide +kernel
theorem dX3_draw_206 : decode cX3_draw 206 = .ok (.iadd, 1) := by decide +kernel
theorem dX3_draw_207 : decode cX3_draw 207 = .ok (.putfield 168, 3) := by decide +kernel
theorem dX3_draw_210 : decode cX3_draw 210 = .ok (.aload_n 0, 1) := by decide +kernel
theorem dX3_draw_211 : decode cX3_draw 211 = .ok (.getfield 34, 3) := by decide +kernel
theorem dX3_draw_214 : decode cX3_draw 214 = .ok (.iconst 1, 1) := by decide +kernel
theorem dX3_draw_215 : decode cX3_draw 215 = .ok (.dup2, 1) := by decide +kernel
theorem dX3_draw_216 : decode cX3_draw 216 = .ok (.iaload, 1) := by decide +kernel
theorem dX3_draw_217 : decode cX3_draw 217 = .ok (.iload_n 2, 1) := by decide +kernel
theorem dX3_draw_218 : decode cX3_draw 218 = .ok (.iadd, 1) := by decide +kernel
theorem dX3_draw_219 : decode cX3_draw 219 = .ok (.iastore, 1) := by decide +kernel
theorem dX3_draw_220 : decode cX3_draw 220 = .ok (.aload_n 0, 1) := by decide +kernel
theorem dX3_draw_221 : decode cX3_draw 221 = .ok (.getfield 19, 3) := by decide +kernel
theorem dX3_draw_224 : decode cX3_draw 224 = .ok (.iload_n 1, 1) := by decide +kernel
theorem dX3_draw_225 : decode cX3_draw 225 = .ok (.iload 4, 2) := by decide +kernel
theorem dX3_draw_227 : decode cX3_draw 227 = .ok (.aload_n 0, 1) := by decide +kernel
theorem dX3_draw_228 : decode cX3_draw 228 = .ok (.getfield 30, 3) := by decide +kernel
theorem dX3_draw_231 : decode cX3_draw 231 = .ok (.iconst 4, 1) := by decide +kernel
theorem dX3_draw_232 : decode cX3_draw 232 = .ok (.iaload, 1) := by decide +kernel
theorem dX3_draw_233 : decode cX3_draw 233 = .ok (.invokevirtual 171, 3) := by decide +kernel
theorem dX3_draw_236 : decode cX3_draw 236 = .ok (.return_, 1) := by decide +kernel
set_option maxRecDepth 20000 in
theorem ggX3_raiseTold_X3_drawn : GoodIn wsX3_raiseTold wsX3_drawn := goodIn_r _ [15, 16, 30, 31, 32, 33, 34, 35, 36, 37, 38, 39, 40, 41, 42, 43, 44] (by decide +kernel) (by decide +kernel)
set_option maxRecDepth 20000 in
theorem gX3_raiseTold_X3_drawn : GoodIn wsX3_raiseTold (wsV RX3 174 RX3 yX3_drawn wsX3_drawn) := goodIn_app (goodIn_of _ (by decide +kernel)) ggX3_raiseTold_X3_drawn
set_option maxRecDepth 20000 in
theorem ggX3_raiseTold_X0_holding : GoodIn wsX3_raiseTold wsX0_holding := goodIn_r _ [21, 22, 23, 24, 25, 20, 26, 27, 28, 45, 46, 47, 48, 49, 50, 51] (by decide +kernel) (by decide +kernel)
set_option maxRecDepth 20000 in
theorem gX3_raiseTold_X0_holding : GoodIn wsX3_raiseTold (wsV RX3 124 RX0 yX0_holding wsX0_holding) := goodIn_app (goodIn_of _ (by decide +kernel)) ggX3_raiseTold_X0_holding
set_option maxRecDepth 20000 in
theorem ggX3_raiseTold_X0_end : GoodIn wsX3_raiseTold wsX0_end := goodIn_r _ [26, 27, 28, 45, 46, 47, 48, 49, 50, 51] (by decide +kernel) (by decide +kernel)
set_option maxRecDepth 20000 in
theorem gX3_raiseTold_X0_end : GoodIn wsX3_raiseTold (wsV RX3 134 RX0 yX0_end wsX0_end) := goodIn_app (goodIn_of _ (by decide +kernel)) ggX3_raiseTold_X0_end
theorem dX3_raiseTold_0 : decode cX3_raiseTold 0 = .ok (.aload_n 0, 1) := by decide +kernel
theorem dX3_raiseTold_1 : decode cX3_raiseTold 1 = .ok (.invokevirtual 174, 3) := by decide +kernel
theorem dX3_raiseTold_4 : decode cX3_raiseTold 4 = .ok (.istore_n 1, 1) := by decide +kernel
theorem dX3_raiseTold_5 : decode cX3_raiseTold 5 = .ok (.aload_n 0, 1) := by decide +kernel
theorem dX3_raiseTold_6 : decode cX3_raiseTold 6 = .ok (.getfield 10, 3) := by decide +kernel
theorem dX3_raiseTold_9 : decode cX3_raiseTold 9 = .ok (.aload_n 0, 1) := by decide +kernel
theorem dX3_raiseTold_10 : decode cX3_raiseTold 10 = .ok (.getfield 72, 3) := by decide +kernel
theorem dX3_raiseTold_13 : decode cX3_raiseTold 13 = .ok (.invokevirtual 124, 3) := by decide +kernel
theorem dX3_raiseTold_16 : decode cX3_raiseTold 16 = .ok (.istore_n 2, 1) := by decide +kernel
theorem dX3_raiseTold_17 : decode cX3_raiseTold 17 = .ok (.iload_n 2, 1) := by decide +kernel
theorem dX3_raiseTold_18 : decode cX3_raiseTold 18 = .ok (.aload_n 0, 1) := by decide +kernel
theorem dX3_raiseTold_19 : decode cX3_raiseTold 19 = .ok (.getfield 10, 3) := by decide +kernel
theorem dX3_raiseTold_22 : decode cX3_raiseTold 22 = .ok (.getfield 128, 3) := by decide +kernel
theorem dX3_raiseTold_25 : decode cX3_raiseTold 25 = .ok (.if_icmp .ge 101, 3) := by decide +kernel
theorem dX3_raiseTold_28 : decode cX3_raiseTold 28 = .ok (.aload_n 0, 1) := by decide +kernel
theorem dX3_raiseTold_29 : decode cX3_raiseTold 29 = .ok (.getfield 72, 3) := by decide +kernel
theorem dX3_raiseTold_32 : decode cX3_raiseTold 32 = .ok (.aload_n 0, 1) := by decide +kernel
theorem dX3_raiseTold_33 : decode cX3_raiseTold 33 = .ok (.getfield 56, 3) := by decide +kernel
theorem dX3_raiseTold_36 : decode cX3_raiseTold 36 = .ok (.if_icmp .ge 90, 3) := by decide +kernel
theorem dX3_raiseTold_39 : decode cX3_raiseTold 39 = .ok (.aload_n 0, 1) := by decide +kernel
theorem dX3_raiseTold_40 : decode cX3_raiseTold 40 = .ok (.getfield 10, 3) := by decide +kernel
theorem dX3_raiseTold_43 : decode cX3_raiseTold 43 = .ok (.iload_n 2, 1) := by decide +kernel
theorem dX3_raiseTold_44 : decode cX3_raiseTold 44 = .ok (.invokevirtual 134, 3) := by decide +kernel
theorem dX3_raiseTold_47 : decode cX3_raiseTold 47 = .ok (.aload_n 0, 1) := by decide +kernel
theorem dX3_raiseTold_48 : decode cX3_raiseTold 48 = .ok (.getfield 56, 3) := by decide +kernel
theorem dX3_raiseTold_51 : decode cX3_raiseTold 51 = .ok (.invokestatic 149, 3) := by decide +kernel
theorem dX3_raiseTold_54 : decode cX3_raiseTold 54 = .ok (.istore_n 3, 1) := by decide +kernel
theorem dX3_raiseTold_55 : decode cX3_raiseTold 55 = .ok (.aload_n 0, 1) := by decide +kernel
theorem dX3_raiseTold_56 : decode cX3_raiseTold 56 = .ok (.getfield 10, 3) := by decide +kernel
theorem dX3_raiseTold_59 : decode cX3_raiseTold 59 = .ok (.getfield 140, 3) := by decide +kernel
theorem dX3_raiseTold_62 : decode cX3_raiseTold 62 = .ok (.iload_n 2, 1) := by decide +kernel
theorem dX3_raiseTold_63 : decode cX3_raiseTold 63 = .ok (.iaload, 1) := by decide +kernel
theorem dX3_raiseTold_64 : decode cX3_raiseTold 64 = .ok (.istore 4, 2) := by decide +kernel
theorem dX3_raiseTold_66 : decode cX3_raiseTold 66 = .ok (.aload_n 0, 1) := by decide +kernel
theorem dX3_raiseTold_67 : decode cX3_raiseTold 67 = .ok (.getfield 72, 3) := by decide +kernel
theorem dX3_raiseTold_70 : decode cX3_raiseTold 70 = .ok (.iload_n 3, 1) := by decide +kernel
theorem dX3_raiseTold_71 : decode cX3_raiseTold 71 = .ok (.if_icmp .ge 38, 3) := by decide +kernel
theorem dX3_raiseTold_74 : decode cX3_raiseTold 74 = .ok (.aload_n 0, 1) := by decide +kernel
theorem dX3_raiseTold_75 : decode cX3_raiseTold 75 = .ok (.getfield 75, 3) := by decide +kernel
theorem dX3_raiseTold_78 : decode cX3_raiseTold 78 = .ok (.iload 4, 2) := by decide +kernel
theorem dX3_raiseTold_80 : decode cX3_raiseTold 80 = .ok (.iadd, 1) := by decide +kernel
theorem dX3_raiseTold_81 : decode cX3_raiseTold 81 = .ok (.iload_n 1, 1) := by decide +kernel
theorem dX3_raiseTold_82 : decode cX3_raiseTold 82 = .ok (.if_icmp .gt 27, 3) := by decide +kernel
theorem dX3_raiseTold_85 : decode cX3_raiseTold 85 = .ok (.aload_n 0, 1) := by decide +kernel
theorem dX3_raiseTold_86 : decode cX3_raiseTold 86 = .ok (.dup, 1) := by decide +kernel
theorem dX3_raiseTold_87 : decode cX3_raiseTold 87 = .ok (.getfield 72, 3) := by decide +kernel
theorem dX3_raiseTold_90 : decode cX3_raiseTold 90 = .ok (.iconst 1, 1) := by decide +kernel
theorem dX3_raiseTold_91 : decode cX3_raiseTold 91 = .ok (.iadd, 1) := by decide +kernel
theorem dX3_raiseTold_92 : decode cX3_raiseTold 92 = .ok (.putfield 72, 3) := by decide +kernel
theorem dX3_raiseTold_95 : decode cX3_raiseTold 95 = .ok (.aload_n 0, 1) := by decide +kernel
theorem dX3_raiseTold_96 : decode cX3_raiseTold 96 = .ok (.dup, 1) := by decide +kernel
theorem dX3_raiseTold_97 : decode cX3_raiseTold 97 = .ok (.getfield 75, 3) := by decide +kernel
theorem dX3_raiseTold_100 : decode cX3_raiseTold 100 = .ok (.iload 4, 2) := by decide +kernel
theorem dX3_raiseTold_102 : decode cX3_raiseTold 102 = .ok (.iadd, 1) := by decide +kernel
theorem dX3_raiseTold_103 : decode cX3_raiseTold 103 = .ok (.putfield 75, 3) := by decide +kernel
theorem dX3_raiseTold_106 : decode cX3_raiseTold 106 = .ok (.goto (-40), 3) := by decide +kernel
theorem dX3_raiseTold_109 : decode cX3_raiseTold 109 = .ok (.aload_n 0, 1) := by decide +kernel
theorem dX3_raiseTold_110 : decode cX3_raiseTold 110 = .ok (.getfield 72, 3) := by decide +kernel
theorem dX3_raiseTold_113 : decode cX3_raiseTold 113 = .ok (.iload_n 3, 1) := by decide +kernel
theorem dX3_raiseTold_114 : decode cX3_raiseTold 114 = .ok (.if_icmp .ge 6, 3) := by decide +kernel
theorem dX3_raiseTold_117 : decode cX3_raiseTold 117 = .ok (.goto 9, 3) := by decide +kernel
theorem dX3_raiseTold_120 : decode cX3_raiseTold 120 = .ok (.iinc 2 1, 3) := by decide +kernel
theorem dX3_raiseTold_123 : decode cX3_raiseTold 123 = .ok (.goto (-106), 3) := by decide +kernel
theorem dX3_raiseTold_126 : decode cX3_raiseTold 126 = .ok (.return_, 1) := by decide +kernel
set_option maxRecDepth 20000 in
theorem ggX4_init_X0_init : GoodIn wsX4_init wsX0_init := goodIn_r _ [11, 12, 2, 3, 8, 13, 14, 15, 16, 17, 18, 19, 20, 21, 22, 23, 24] (by decide +kernel) (by decide +kernel)
set_option maxRecDepth 20000 in
theorem gX4_init_X0_init_n9 : GoodIn wsX4_init (wsX0_init) := ggX4_init_X0_init
theorem dX4_init_0 : decode cX4_init 0 = .ok (.aload_n 0, 1) := by decide +kernel
theorem dX4_init_1 : decode cX4_init 1 = .ok (.invokespecial 1, 3) := by decide +kernel
theorem dX4_init_4 : decode cX4_init 4 = .ok (.aload_n 0, 1) := by decide +kernel
theorem dX4_init_5 : decode cX4_init 5 = .ok (.new 7, 3) := by decide +kernel
theorem dX4_init_8 : decode cX4_init 8 = .ok (.dup, 1) := by decide +kernel
theorem dX4_init_9 : decode cX4_init 9 = .ok (.invokespecial 9, 3) := by decide +kernel
theorem dX4_init_12 : decode cX4_init 12 = .ok (.putfield 10, 3) := by decide +kernel
theorem dX4_init_15 : decode cX4_init 15 = .ok (.aload_n 0, 1) := by decide +kernel
theorem dX4_init_16 : decode cX4_init 16 = .ok (.iconst 3, 1) := by decide +kernel
theorem dX4_init_17 : decode cX4_init 17 = .ok (.newarray .int, 2) := by decide +kernel
theorem dX4_init_19 : decode cX4_init 19 = .ok (.putfield 16, 3) := by decide +kernel
theorem dX4_init_22 : decode cX4_init 22 = .ok (.return_, 1) := by decide +kernel
set_option maxRecDepth 20000 in
theorem ggX4_read_X0_copyFrom : GoodIn wsX4_read wsX0_copyFrom := goodIn_r _ [11, 12, 13, 14, 15, 16, 17, 18, 19, 20, 21, 22, 146, 147, 148, 149, 150, 151, 152] (by decide +kernel) (by decide +kernel)
set_option maxRecDepth 20000 in
theorem gX4_read_X0_copyFrom : GoodIn wsX4_read (wsV RX4 20 RX0 yX0_copyFrom wsX0_copyFrom) := goodIn_app (goodIn_of _ (by decide +kernel)) ggX4_read_X0_copyFrom
set_option maxRecDepth 20000 in
theorem ggX4_read_X4_readSegment : GoodIn wsX4_read wsX4_readSegment := goodIn_r _ [27, 2, 3, 28, 1, 4, 29, 30, 31, 26, 32, 5, 33, 34, 35, 36, 37, 38, 39, 40, 41, 42, 43, 44, 45, 46, 47, 48, 49, 50, 51, 52, 53, 54, 55, 56, 57, 58, 59, 60, 61, 62, 63, 64, 65, 66, 67, 68, 69, 70, 71, 72, 73, 74, 75, 76, 77, 78, 79, 80, 81, 82, 83, 84, 85, 86, 87, 88, 89, 90, 91, 92, 93, 94, 95, 96, 97, 98, 99, 100, 101, 102, 103, 104, 105, 106, 107, 108, 109, 110, 111, 112, 113, 114, 115, 10, 116, 117, 118, 119, 120, 121, 122, 123, 124, 125, 126, 127, 128, 129, 130, 131, 132, 12, 133, 134, 135, 136, 14, 19, 20, 21, 22, 13, 137, 138, 139, 140, 141, 142, 143, 144, 145, 146, 147, 148, 149, 150, 151, 152] (by decide +kernel) (by decide +kernel)
set_option maxRecDepth 20000 in
theorem gX4_read_X4_readSegment : GoodIn wsX4_read (wsV RX4 42 RX4 yX4_readSegment wsX4_readSegment) := goodIn_app (goodIn_of _ (by decide +kernel)) ggX4_read_X4_readSegment
theorem dX4_read_0 : decode cX4_read 0 = .ok (.aload_n 0, 1) := by decide +kernel
theorem dX4_read_1 : decode cX4_read 1 = .ok (.getfield 10, 3) := by decide +kernel
theorem dX4_read_4 : decode cX4_read 4 = .ok (.aload_n 2, 1) := by decide +kernel
theorem dX4_read_5 : decode cX4_read 5 = .ok (.invokevirtual 20, 3) := by decide +kernel
theorem dX4_read_8 : decode cX4_read 8 = .ok (.aload_n 0, 1) := by decide +kernel
theorem dX4_read_9 : decode cX4_read 9 = .ok (.iconst 0, 1) := by decide +kernel
theorem dX4_read_10 : decode cX4_read 10 = .ok (.putfield 24, 3) := by decide +kernel
theorem dX4_read_13 : decode cX4_read 13 = .ok (.aload_n 0, 1) := by decide +kernel
theorem dX4_read_14 : decode cX4_read 14 = .ok (.iconst 0, 1) := by decide +kernel
theorem dX4_read_15 : decode cX4_read 15 = .ok (.putfield 28, 3) := by decide +kernel
theorem dX4_read_18 : decode cX4_read 18 = .ok (.aload_n 0, 1) := by decide +kernel
theorem dX4_read_19 : decode cX4_read 19 = .ok (.iconst 0, 1) := by decide +kernel
theorem dX4_read_20 : decode cX4_read 20 = .ok (.putfield 31, 3) := by decide +kernel
theorem dX4_read_23 : decode cX4_read 23 = .ok (.iconst 0, 1) := by decide +kernel
theorem dX4_read_24 : decode cX4_read 24 = .ok (.istore_n 3, 1) := by decide +kernel
theorem dX4_read_25 : decode cX4_read 25 = .ok (.iload_n 3, 1) := by decide +kernel
theorem dX4_read_26 : decode cX4_read 26 = .ok (.bipush 20, 2) := by decide +kernel
theorem dX4_read_28 : decode cX4_read 28 = .ok (.if_icmp .gt 40, 3) := by decide +kernel
theorem dX4_read_31 : decode cX4_read 31 = .ok (.aload_n 0, 1) := by decide +kernel
theorem dX4_read_32 : decode cX4_read 32 = .ok (.getfield 31, 3) := by decide +kernel
theorem dX4_read_35 : decode cX4_read 35 = .ok (.aload_n 1, 1) := by decide +kernel
theorem dX4_read_36 : decode cX4_read 36 = .ok (.getfield 34, 3) := by decide +kernel
theorem dX4_read_39 : decode cX4_read 39 = .ok (.if_icmp .ge 29, 3) := by decide +kernel
theorem dX4_read_42 : decode cX4_read 42 = .ok (.aload_n 0, 1) := by decide +kernel
theorem dX4_read_43 : decode cX4_read 43 = .ok (.getfield 24, 3) := by decide +kernel
theorem dX4_read_46 : decode cX4_read 46 = .ok (.ifCond .ne 22, 3) := by decide +kernel
theorem dX4_read_49 : decode cX4_read 49 = .ok (.aload_n 0, 1) := by decide +kernel
theorem dX4_read_50 : decode cX4_read 50 = .ok (.aload_n 0, 1) := by decide +kernel
theorem dX4_read_51 : decode cX4_read 51 = .ok (.getfield 31, 3) := by decide +kernel
theorem dX4_read_54 : decode cX4_read 54 = .ok (.putfield 39, 3) := by decide +kernel
theorem dX4_read_57 : decode cX4_read 57 = .ok (.aload_n 0, 1) := by decide +kernel
theorem dX4_read_58 : decode cX4_read 58 = .ok (.aload_n 1, 1) := by decide +kernel
theorem dX4_read_59 : decode cX4_read 59 = .ok (.invokevirtual 42, 3) := by decide +kernel
theorem dX4_read_62 : decode cX4_read 62 = .ok (.iinc 3 1, 3) := by decide +kernel
theorem dX4_read_65 : decode cX4_read 65 = .ok (.goto (-40), 3) := by decide +kernel
theorem dX4_read_68 : decode cX4_read 68 = .ok (.return_, 1) := by decide +kernel
set_option maxRecDepth 20000 in
theorem ggX4_readSegment_X4_readWord : GoodIn wsX4_readSegment wsX4_readWord := goodIn_r _ [10, 5, 11, 12, 13, 14, 15, 16, 17, 18, 19, 20, 21, 22, 23, 24, 25, 26, 27, 28, 29, 30, 31, 32, 33, 34, 35, 36, 37, 38, 39, 40, 41, 42, 43, 44, 45, 46, 47, 48, 49, 50, 51, 52, 53, 54, 55, 56, 57, 58, 59, 60, 61, 62, 63, 64, 65, 66, 67, 68, 69, 70, 71, 72, 73, 74, 75, 125, 126, 127, 128, 129, 130, 131, 132] (by decide +kernel) (by decide +kernel)
set_option maxRecDepth 20000 in
theorem gX4_readSegment_X4_readWord : GoodIn wsX4_readSegment (wsV RX4 46 RX4 yX4_readWord wsX4_readWord) := goodIn_app (goodIn_of _ (by decide +kernel)) ggX4_readSegment_X4_readWord
set_option maxRecDepth 20000 in
theorem ggX4_readSegment_X4_readNumbers : GoodIn wsX4_readSegment wsX4_readNumbers := goodIn_r _ [79, 3, 5, 80, 81, 82, 83, 84, 18, 19, 15, 20, 21, 22, 85, 86, 87, 88, 17, 89, 90, 91, 9, 92, 125, 126, 127, 128, 129, 130, 131, 132] (by decide +kernel) (by decide +kernel)
set_option maxRecDepth 20000 in
theorem gX4_readSegment_X4_readNumbers : GoodIn wsX4_readSegment (wsV RX4 50 RX4 yX4_readNumbers wsX4_readNumbers) := goodIn_app (goodIn_of _ (by decide +kernel)) ggX4_readSegment_X4_readNumbers
set_option maxRecDepth 20000 in
theorem ggX4_readSegment_X0_firstWrong : GoodIn wsX4_readSegment wsX0_firstWrong := goodIn_r _ [96, 97, 98, 95, 99, 100, 101, 102, 103, 104, 105, 106, 107, 108] (by decide +kernel) (by decide +kernel)
set_option maxRecDepth 20000 in
theorem gX4_readSegment_X0_firstWrong : GoodIn wsX4_readSegment (va_wsS RX4 54 yX0_firstWrong wsX0_firstWrong) := goodIn_app (goodIn_of _ (by decide +kernel)) ggX4_readSegment_X0_firstWrong
set_option maxRecDepth 20000 in
theorem ggX4_readSegment_X0_isFull : GoodIn wsX4_readSegment wsX0_isFull := goodIn_r _ [112, 113, 133, 134, 135, 136, 137, 138, 139] (by decide +kernel) (by decide +kernel)
set_option maxRecDepth 20000 in
theorem gX4_readSegment_X0_isFull : GoodIn wsX4_readSegment (wsV RX4 58 RX0 yX0_isFull wsX0_isFull) := goodIn_app (goodIn_of _ (by decide +kernel)) ggX4_readSegment_X0_isFull
set_option maxRecDepth 20000 in
theorem ggX4_readSegment_X5_at : GoodIn wsX4_readSegment wsX5_at := goodIn_r _ [20, 21, 22, 131, 132] (by decide +kernel) (by decide +kernel)
set_option maxRecDepth 20000 in
theorem gX4_readSegment_X5_at : GoodIn wsX4_readSegment (wsV RX4 62 RX5 yX5_at wsX5_at) := goodIn_app (goodIn_of _ (by decide +kernel)) ggX4_readSegment_X5_at
set_option maxRecDepth 20000 in
theorem ggX4_readSegment_X0_put : GoodIn wsX4_readSegment wsX0_put := goodIn_r _ [117, 118, 113, 119, 120, 121, 122, 123, 124, 110, 111, 95, 112, 133, 134, 135, 136, 137, 138, 139] (by decide +kernel) (by decide +kernel)
set_option maxRecDepth 20000 in
theorem gX4_readSegment_X0_put : GoodIn wsX4_readSegment (wsV RX4 66 RX0 yX0_put wsX0_put) := goodIn_app (goodIn_of _ (by decide +kernel)) ggX4_readSegment_X0_put
theorem dX4_readSegment_0 : decode cX4_readSegment 0 = .ok (.aload_n 0, 1) := by decide +kernel
theorem dX4_readSegment_1 : decode cX4_readSegment 1 = .ok (.aload_n 1, 1) := by decide +kernel
theorem dX4_readSegment_2 : decode cX4_readSegment 2 = .ok (.invokevirtual 46, 3) := by decide +kernel
theorem dX4_readSegment_5 : decode cX4_readSegment 5 = .ok (.istore_n 2, 1) := by decide +kernel
theorem dX4_readSegment_6 : decode cX4_readSegment 6 = .ok (.iload_n 2, 1) := by decide +kernel
theorem dX4_readSegment_7 : decode cX4_readSegment 7 = .ok (.iconst (-1), 1) := by decide +kernel
theorem dX4_readSegment_8 : decode cX4_readSegment 8 = .ok (.if_icmp .ne 9, 3) := by decide +kernel
theorem dX4_readSegment_11 : decode cX4_readSegment 11 = .ok (.aload_n 0, 1) := by decide +kernel
theorem dX4_readSegment_12 : decode cX4_readSegment 12 = .ok (.iconst 1, 1) := by decide +kernel
theorem dX4_readSegment_13 : decode cX4_readSegment 13 = .ok (.putfield 24, 3) := by decide +kernel
theorem dX4_readSegment_16 : decode cX4_readSegment 16 = .ok (.return_, 1) := by decide +kernel
theorem dX4_readSegment_17 : decode cX4_readSegment 17 = .ok (.aload_n 0, 1) := by decide +kernel
theorem dX4_readSegment_18 : decode cX4_readSegment 18 = .ok (.aload_n 0, 1) := by decide +kernel
theorem dX4_readSegment_19 : decode cX4_readSegment 19 = .ok (.aload_n 1, 1) := by decide +kernel
theorem dX4_readSegment_20 : decode cX4_readSegment 20 = .ok (.iload_n 2, 1) := by decide +kernel
theorem dX4_readSegment_21 : decode cX4_readSegment 21 = .ok (.iconst 1, 1) := by decide +kernel
theorem dX4_readSegment_22 : decode cX4_readSegment 22 = .ok (.if_icmp .ne 7, 3) := by decide +kernel
theorem dX4_readSegment_25 : decode cX4_readSegment 25 = .ok (.iconst 1, 1) := by decide +kernel
theorem dX4_readSegment_26 : decode cX4_readSegment 26 = .ok (.goto 4, 3) := by decide +kernel
theorem dX4_readSegment_29 : decode cX4_readSegment 29 = .ok (.iconst 3, 1) := by decide +kernel
theorem dX4_readSegment_30 : decode cX4_readSegment 30 = .ok (.invokevirtual 50, 3) := by decide +kernel
theorem dX4_readSegment_33 : decode cX4_readSegment 33 = .ok (.putfield 28, 3) := by decide +kernel
theorem dX4_readSegment_36 : decode cX4_readSegment 36 = .ok (.aload_n 0, 1) := by decide +kernel
theorem dX4_readSegment_37 : decode cX4_readSegment 37 = .ok (.getfield 28, 3) := by decide +kernel
theorem dX4_readSegment_40 : decode cX4_readSegment 40 = .ok (.ifCond .eq 9, 3) := by decide +kernel
theorem dX4_readSegment_43 : decode cX4_readSegment 43 = .ok (.aload_n 0, 1) := by decide +kernel
theorem dX4_readSegment_44 : decode cX4_readSegment 44 = .ok (.iconst 2, 1) := by decide +kernel
theorem dX4_readSegment_45 : decode cX4_readSegment 45 = .ok (.putfield 24, 3) := by decide +kernel
theorem dX4_readSegment_48 : decode cX4_readSegment 48 = .ok (.return_, 1) := by decide +kernel
theorem dX4_readSegment_49 : decode cX4_readSegment 49 = .ok (.aload_n 0, 1) := by decide +kernel
theorem dX4_readSegment_50 : decode cX4_readSegment 50 = .ok (.iload_n 2, 1) := by decide +kernel
theorem dX4_readSegment_51 : decode cX4_readSegment 51 = .ok (.aload_n 0, 1) := by decide +kernel
theorem dX4_readSegment_52 : decode cX4_readSegment 52 = .ok (.getfield 16, 3) := by decide +kernel
theorem dX4_readSegment_55 : decode cX4_readSegment 55 = .ok (.iconst 0, 1) := by decide +kernel
theorem dX4_readSegment_56 : decode cX4_readSegment 56 = .ok (.iaload, 1) := by decide +kernel
theorem dX4_readSegment_57 : decode cX4_readSegment 57 = .ok (.aload_n 0, 1) := by decide +kernel
theorem dX4_readSegment_58 : decode cX4_readSegment 58 = .ok (.getfield 16, 3) := by decide +kernel
theorem dX4_readSegment_61 : decode cX4_readSegment 61 = .ok (.iconst 1, 1) := by decide +kernel
theorem dX4_readSegment_62 : decode cX4_readSegment 62 = .ok (.iaload, 1) := by decide +kernel
theorem dX4_readSegment_63 : decode cX4_readSegment 63 = .ok (.aload_n 0, 1) := by decide +kernel
theorem dX4_readSegment_64 : decode cX4_readSegment 64 = .ok (.getfield 16, 3) := by decide +kernel
theorem dX4_readSegment_67 : decode cX4_readSegment 67 = .ok (.iconst 2, 1) := by decide +kernel
theorem dX4_readSegment_68 : decode cX4_readSegment 68 = .ok (.iaload, 1) := by decide +kernel
theorem dX4_readSegment_69 : decode cX4_readSegment 69 = .ok (.invokestatic 54, 3) := by decide +kernel
theorem dX4_readSegment_72 : decode cX4_readSegment 72 = .ok (.putfield 28, 3) := by decide +kernel
theorem dX4_readSegment_75 : decode cX4_readSegment 75 = .ok (.aload_n 0, 1) := by decide +kernel
theorem dX4_readSegment_76 : decode cX4_readSegment 76 = .ok (.getfield 28, 3) := by decide +kernel
theorem dX4_readSegment_79 : decode cX4_readSegment 79 = .ok (.ifCond .eq 11, 3) := by decide +kernel
theorem dX4_readSegment_82 : decode cX4_readSegment 82 = .ok (.aload_n 0, 1) := by decide +kernel
theorem dX4_readSegment_83 : decode cX4_readSegment 83 = .ok (.iconst 3, 1) := by decide +kernel
theorem dX4_readSegment_84 : decode cX4_readSegment 84 = .ok (.putfield 24, 3) := by decide +kernel
theorem dX4_readSegment_87 : decode cX4_readSegment 87 = .ok (.goto 78, 3) := by decide +kernel
theorem dX4_readSegment_90 : decode cX4_readSegment 90 = .ok (.aload_n 0, 1) := by decide +kernel
theorem dX4_readSegment_91 : decode cX4_readSegment 91 = .ok (.getfield 10, 3) := by decide +kernel
theorem dX4_readSegment_94 : decode cX4_readSegment 94 = .ok (.invokevirtual 58, 3) := by decide +kernel
theorem dX4_readSegment_97 : decode cX4_readSegment 97 = .ok (.ifCond .eq 11, 3) := by decide +kernel
theorem dX4_readSegment_100 : decode cX4_readSegment 100 = .ok (.aload_n 0, 1) := by decide +kernel
theorem dX4_readSegment_101 : decode cX4_readSegment 101 = .ok (.iconst 4, 1) := by decide +kernel
theorem dX4_readSegment_102 : decode cX4_readSegment 102 = .ok (.putfield 24, 3) := by decide +kernel
theorem dX4_readSegment_105 : decode cX4_readSegment 105 = .ok (.goto 60, 3) := by decide +kernel
theorem dX4_readSegment_108 : decode cX4_readSegment 108 = .ok (.aload_n 1, 1) := by decide +kernel
theorem dX4_readSegment_109 : decode cX4_readSegment 109 = .ok (.aload_n 0, 1) := by decide +kernel
theorem dX4_readSegment_110 : decode cX4_readSegment 110 = .ok (.getfield 31, 3) := by decide +kernel
theorem dX4_readSegment_113 : decode cX4_readSegment 113 = .ok (.invokevirtual 62, 3) := by decide +kernel
theorem dX4_readSegment_116 : decode cX4_readSegment 116 = .ok (.bipush 59, 2) := by decide +kernel
theorem dX4_readSegment_118 : decode cX4_readSegment 118 = .ok (.if_icmp .eq 11, 3) := by decide +kernel
theorem dX4_readSegment_121 : decode cX4_readSegment 121 = .ok (.aload_n 0, 1) := by decide +kernel
theorem dX4_readSegment_122 : decode cX4_readSegment 122 = .ok (.iconst 5, 1) := by decide +kernel
theorem dX4_readSegment_123 : decode cX4_readSegment 123 = .ok (.putfield 24, 3) := by decide +kernel
theorem dX4_readSegment_126 : decode cX4_readSegment 126 = .ok (.goto 39, 3) := by decide +kernel
theorem dX4_readSegment_129 : decode cX4_readSegment 129 = .ok (.aload_n 0, 1) := by decide +kernel
theorem dX4_readSegment_130 : decode cX4_readSegment 130 = .ok (.dup, 1) := by decide +kernel
theorem dX4_readSegment_131 : decode cX4_readSegment 131 = .ok (.getfield 31, 3) := by decide +kernel
theorem dX4_readSegment_134 : decode cX4_readSegment 134 = .ok (.iconst 1, 1) := by decide +kernel
theorem dX4_readSegment_135 : decode cX4_readSegment 135 = .ok (.iadd, 1) := by decide +kernel
theorem dX4_readSegment_136 : decode cX4_readSegment 136 = .ok (.putfield 31, 3) := by decide +kernel
theorem dX4_readSegment_139 : decode cX4_readSegment 139 = .ok (.aload_n 0, 1) := by decide +kernel
theorem dX4_readSegment_140 : decode cX4_readSegment 140 = .ok (.getfield 10, 3) := by decide +kernel
theorem dX4_readSegment_143 : decode cX4_readSegment 143 = .ok (.iload_n 2, 1) := by decide +kernel
