theorem dX7_segmentAt_6 : decode cX7_segmentAt 6 = .ok (.iload_n 1, 1) := by decide +kernel
theorem dX7_segmentAt_7 : decode cX7_segmentAt 7 = .ok (.aload_n 0, 1) := by decide +kernel
theorem dX7_segmentAt_8 : decode cX7_segmentAt 8 = .ok (.getfield 10, 3) := by decide +kernel
theorem dX7_segmentAt_11 : decode cX7_segmentAt 11 = .ok (.getfield 46, 3) := by decide +kernel
theorem dX7_segmentAt_14 : decode cX7_segmentAt 14 = .ok (.getfield 89, 3) := by decide +kernel
theorem dX7_segmentAt_17 : decode cX7_segmentAt 17 = .ok (.if_icmp .lt 6, 3) := by decide +kernel
theorem dX7_segmentAt_20 : decode cX7_segmentAt 20 = .ok (.bipush (-4), 2) := by decide +kernel
theorem dX7_segmentAt_22 : decode cX7_segmentAt 22 = .ok (.ireturn, 1) := by decide +kernel
theorem dX7_segmentAt_23 : decode cX7_segmentAt 23 = .ok (.aload_n 0, 1) := by decide +kernel
theorem dX7_segmentAt_24 : decode cX7_segmentAt 24 = .ok (.getfield 10, 3) := by decide +kernel
theorem dX7_segmentAt_27 : decode cX7_segmentAt 27 = .ok (.getfield 46, 3) := by decide +kernel
theorem dX7_segmentAt_30 : decode cX7_segmentAt 30 = .ok (.iload_n 1, 1) := by decide +kernel
theorem dX7_segmentAt_31 : decode cX7_segmentAt 31 = .ok (.invokevirtual 92, 3) := by decide +kernel
theorem dX7_segmentAt_34 : decode cX7_segmentAt 34 = .ok (.ireturn, 1) := by decide +kernel
set_option maxRecDepth 20000 in
theorem ggX7_waterBelow_X0_waterUpTo : GoodIn wsX7_waterBelow wsX0_waterUpTo := goodIn_r _ [8, 9, 10, 11, 12, 13, 7, 14, 15, 16, 17, 18, 19, 20, 21, 22, 23, 44, 45, 46, 47, 48, 49, 50] (by decide +kernel) (by decide +kernel)
set_option maxRecDepth 20000 in
theorem gX7_waterBelow_X0_waterUpTo : GoodIn wsX7_waterBelow (wsV RX7 96 RX0 yX0_waterUpTo wsX0_waterUpTo) := goodIn_app (goodIn_of _ (by decide +kernel)) ggX7_waterBelow_X0_waterUpTo
theorem dX7_waterBelow_0 : decode cX7_waterBelow 0 = .ok (.iload_n 1, 1) := by decide +kernel
theorem dX7_waterBelow_1 : decode cX7_waterBelow 1 = .ok (.ifCond .lt 17, 3) := by decide +kernel
theorem dX7_waterBelow_4 : decode cX7_waterBelow 4 = .ok (.iload_n 1, 1) := by decide +kernel
theorem dX7_waterBelow_5 : decode cX7_waterBelow 5 = .ok (.aload_n 0, 1) := by decide +kernel
theorem dX7_waterBelow_6 : decode cX7_waterBelow 6 = .ok (.getfield 10, 3) := by decide +kernel
theorem dX7_waterBelow_9 : decode cX7_waterBelow 9 = .ok (.getfield 46, 3) := by decide +kernel
theorem dX7_waterBelow_12 : decode cX7_waterBelow 12 = .ok (.getfield 89, 3) := by decide +kernel
theorem dX7_waterBelow_15 : decode cX7_waterBelow 15 = .ok (.if_icmp .le 5, 3) := by decide +kernel
theorem dX7_waterBelow_18 : decode cX7_waterBelow 18 = .ok (.iconst (-1), 1) := by decide +kernel
theorem dX7_waterBelow_19 : decode cX7_waterBelow 19 = .ok (.ireturn, 1) := by decide +kernel
theorem dX7_waterBelow_20 : decode cX7_waterBelow 20 = .ok (.aload_n 0, 1) := by decide +kernel
theorem dX7_waterBelow_21 : decode cX7_waterBelow 21 = .ok (.getfield 10, 3) := by decide +kernel
theorem dX7_waterBelow_24 : decode cX7_waterBelow 24 = .ok (.getfield 46, 3) := by decide +kernel
theorem dX7_waterBelow_27 : decode cX7_waterBelow 27 = .ok (.iload_n 1, 1) := by decide +kernel
theorem dX7_waterBelow_28 : decode cX7_waterBelow 28 = .ok (.invokevirtual 96, 3) := by decide +kernel
theorem dX7_waterBelow_31 : decode cX7_waterBelow 31 = .ok (.ireturn, 1) := by decide +kernel
set_option maxRecDepth 20000 in
theorem ggX7_renew_X1_keep : GoodIn wsX7_renew wsX1_keep := goodIn_r _ [8, 9, 10, 11, 12, 13, 14, 15, 16, 17, 18, 19, 20, 21, 22, 23, 24, 25, 26, 27, 28, 29, 30, 31, 32, 33, 34, 35, 36, 37, 38, 39, 40, 41, 42, 43, 44, 45, 46, 47, 48, 49, 50, 51, 52, 53, 54, 55, 56, 57, 58, 59, 60, 61, 62, 63, 64, 65, 66, 67, 68, 69, 70, 108, 109, 110, 93, 94, 95, 96, 97, 98, 99, 100, 101, 102, 103, 104, 105, 106, 107, 111, 112, 113, 114, 115, 116, 117, 118, 119, 120, 121, 122, 123, 124, 125, 126, 127] (by decide +kernel) (by decide +kernel)
set_option maxRecDepth 20000 in
theorem gX7_renew_X1_keep : GoodIn wsX7_renew (wsV RX7 54 RX1 yX1_keep wsX1_keep) := goodIn_app (goodIn_of _ (by decide +kernel)) ggX7_renew_X1_keep
set_option maxRecDepth 20000 in
theorem ggX7_renew_X3_beginAnew : GoodIn wsX7_renew wsX3_beginAnew := goodIn_r _ [74, 18, 19, 25, 26, 27, 28, 29, 30, 31, 32, 33, 34, 35, 75, 76, 77, 52, 78, 54, 56, 57, 58, 59, 79, 80, 81, 82, 83, 84, 85, 63, 86, 65, 66, 87, 93, 94, 95, 96, 97, 98, 99, 100, 101, 102, 103, 104, 105, 106, 107, 118, 119, 120, 121, 122, 123, 124, 125, 126, 127] (by decide +kernel) (by decide +kernel)
set_option maxRecDepth 20000 in
theorem gX7_renew_X3_beginAnew : GoodIn wsX7_renew (wsV RX7 99 RX3 yX3_beginAnew wsX3_beginAnew) := goodIn_app (goodIn_of _ (by decide +kernel)) ggX7_renew_X3_beginAnew
theorem dX7_renew_0 : decode cX7_renew 0 = .ok (.aload_n 0, 1) := by decide +kernel
theorem dX7_renew_1 : decode cX7_renew 1 = .ok (.getfield 10, 3) := by decide +kernel
theorem dX7_renew_4 : decode cX7_renew 4 = .ok (.getfield 82, 3) := by decide +kernel
theorem dX7_renew_7 : decode cX7_renew 7 = .ok (.istore_n 1, 1) := by decide +kernel
theorem dX7_renew_8 : decode cX7_renew 8 = .ok (.aload_n 0, 1) := by decide +kernel
theorem dX7_renew_9 : decode cX7_renew 9 = .ok (.getfield 22, 3) := by decide +kernel
theorem dX7_renew_12 : decode cX7_renew 12 = .ok (.aload_n 0, 1) := by decide +kernel
theorem dX7_renew_13 : decode cX7_renew 13 = .ok (.getfield 10, 3) := by decide +kernel
theorem dX7_renew_16 : decode cX7_renew 16 = .ok (.invokevirtual 54, 3) := by decide +kernel
theorem dX7_renew_19 : decode cX7_renew 19 = .ok (.aload_n 0, 1) := by decide +kernel
theorem dX7_renew_20 : decode cX7_renew 20 = .ok (.getfield 10, 3) := by decide +kernel
theorem dX7_renew_23 : decode cX7_renew 23 = .ok (.invokevirtual 99, 3) := by decide +kernel
theorem dX7_renew_26 : decode cX7_renew 26 = .ok (.iload_n 1, 1) := by decide +kernel
theorem dX7_renew_27 : decode cX7_renew 27 = .ok (.ireturn, 1) := by decide +kernel
set_option maxRecDepth 20000 in
theorem ggX7_undo_X1_giveBack : GoodIn wsX7_undo wsX1_giveBack := goodIn_r _ [8, 9, 10, 11, 12, 13, 14, 15, 16, 17, 18, 19, 20, 21, 22, 23, 24, 25, 26, 27, 28, 29, 30, 31, 32, 33, 34, 35, 36, 37, 38, 39, 40, 41, 42, 43, 44, 45, 46, 47, 48, 49, 50, 51, 52, 53, 54, 55, 56, 57, 58, 59, 60, 61, 62, 63, 64, 65, 66, 67, 68, 69, 70, 76, 77, 78, 79, 80, 81, 82, 83, 84, 85, 86, 87, 88, 89, 90, 91, 92, 93, 94, 95, 96, 97, 98, 99, 100, 101, 102, 103, 104, 105, 106, 107, 108, 109, 110] (by decide +kernel) (by decide +kernel)
set_option maxRecDepth 20000 in
theorem gX7_undo_X1_giveBack : GoodIn wsX7_undo (wsV RX7 103 RX1 yX1_giveBack wsX1_giveBack) := goodIn_app (goodIn_of _ (by decide +kernel)) ggX7_undo_X1_giveBack
theorem dX7_undo_0 : decode cX7_undo 0 = .ok (.aload_n 0, 1) := by decide +kernel
theorem dX7_undo_1 : decode cX7_undo 1 = .ok (.getfield 22, 3) := by decide +kernel
theorem dX7_undo_4 : decode cX7_undo 4 = .ok (.getfield 102, 3) := by decide +kernel
theorem dX7_undo_7 : decode cX7_undo 7 = .ok (.ifCond .gt 6, 3) := by decide +kernel
theorem dX7_undo_10 : decode cX7_undo 10 = .ok (.bipush (-2), 2) := by decide +kernel
theorem dX7_undo_12 : decode cX7_undo 12 = .ok (.ireturn, 1) := by decide +kernel
theorem dX7_undo_13 : decode cX7_undo 13 = .ok (.aload_n 0, 1) := by decide +kernel
theorem dX7_undo_14 : decode cX7_undo 14 = .ok (.getfield 22, 3) := by decide +kernel
theorem dX7_undo_17 : decode cX7_undo 17 = .ok (.aload_n 0, 1) := by decide +kernel
theorem dX7_undo_18 : decode cX7_undo 18 = .ok (.getfield 10, 3) := by decide +kernel
theorem dX7_undo_21 : decode cX7_undo 21 = .ok (.invokevirtual 103, 3) := by decide +kernel
theorem dX7_undo_24 : decode cX7_undo 24 = .ok (.aload_n 0, 1) := by decide +kernel
theorem dX7_undo_25 : decode cX7_undo 25 = .ok (.getfield 22, 3) := by decide +kernel
theorem dX7_undo_28 : decode cX7_undo 28 = .ok (.getfield 102, 3) := by decide +kernel
theorem dX7_undo_31 : decode cX7_undo 31 = .ok (.ireturn, 1) := by decide +kernel
set_option maxRecDepth 20000 in
theorem ggX7_set_X1_keep : GoodIn wsX7_set wsX1_keep := goodIn_r _ [10, 11, 12, 13, 14, 15, 16, 17, 18, 19, 20, 21, 22, 23, 24, 25, 26, 27, 28, 29, 30, 31, 32, 33, 34, 35, 36, 37, 38, 39, 40, 41, 42, 43, 44, 45, 46, 47, 48, 49, 50, 51, 52, 53, 54, 55, 56, 57, 58, 59, 60, 61, 62, 63, 64, 65, 66, 67, 68, 69, 70, 71, 72, 93, 94, 95, 78, 79, 80, 81, 82, 83, 84, 85, 86, 87, 88, 89, 90, 91, 92, 96, 97, 98, 99, 100, 101, 102, 103, 104, 105, 106, 107, 108, 109, 110, 111, 112] (by decide +kernel) (by decide +kernel)
set_option maxRecDepth 20000 in
theorem gX7_set_X1_keep : GoodIn wsX7_set (wsV RX7 54 RX1 yX1_keep wsX1_keep) := goodIn_app (goodIn_of _ (by decide +kernel)) ggX7_set_X1_keep
theorem dX7_set_0 : decode cX7_set 0 = .ok (.iload_n 1, 1) := by decide +kernel
theorem dX7_set_1 : decode cX7_set 1 = .ok (.ifCond .lt 27, 3) := by decide +kernel
theorem dX7_set_4 : decode cX7_set 4 = .ok (.iload_n 1, 1) := by decide +kernel
theorem dX7_set_5 : decode cX7_set 5 = .ok (.bipush 8, 2) := by decide +kernel
theorem dX7_set_7 : decode cX7_set 7 = .ok (.if_icmp .ge 21, 3) := by decide +kernel
theorem dX7_set_10 : decode cX7_set 10 = .ok (.iload_n 2, 1) := by decide +kernel
theorem dX7_set_11 : decode cX7_set 11 = .ok (.getstatic 106, 3) := by decide +kernel
theorem dX7_set_14 : decode cX7_set 14 = .ok (.iload_n 1, 1) := by decide +kernel
theorem dX7_set_15 : decode cX7_set 15 = .ok (.iaload, 1) := by decide +kernel
theorem dX7_set_16 : decode cX7_set 16 = .ok (.if_icmp .lt 12, 3) := by decide +kernel
theorem dX7_set_19 : decode cX7_set 19 = .ok (.iload_n 2, 1) := by decide +kernel
theorem dX7_set_20 : decode cX7_set 20 = .ok (.getstatic 109, 3) := by decide +kernel
theorem dX7_set_23 : decode cX7_set 23 = .ok (.iload_n 1, 1) := by decide +kernel
theorem dX7_set_24 : decode cX7_set 24 = .ok (.iaload, 1) := by decide +kernel
theorem dX7_set_25 : decode cX7_set 25 = .ok (.if_icmp .le 5, 3) := by decide +kernel
theorem dX7_set_28 : decode cX7_set 28 = .ok (.iconst (-1), 1) := by decide +kernel
theorem dX7_set_29 : decode cX7_set 29 = .ok (.ireturn, 1) := by decide +kernel
theorem dX7_set_30 : decode cX7_set 30 = .ok (.aload_n 0, 1) := by decide +kernel
theorem dX7_set_31 : decode cX7_set 31 = .ok (.getfield 10, 3) := by decide +kernel
theorem dX7_set_34 : decode cX7_set 34 = .ok (.getfield 112, 3) := by decide +kernel
theorem dX7_set_37 : decode cX7_set 37 = .ok (.iload_n 1, 1) := by decide +kernel
theorem dX7_set_38 : decode cX7_set 38 = .ok (.iaload, 1) := by decide +kernel
theorem dX7_set_39 : decode cX7_set 39 = .ok (.istore_n 3, 1) := by decide +kernel
theorem dX7_set_40 : decode cX7_set 40 = .ok (.aload_n 0, 1) := by decide +kernel
theorem dX7_set_41 : decode cX7_set 41 = .ok (.getfield 22, 3) := by decide +kernel
theorem dX7_set_44 : decode cX7_set 44 = .ok (.aload_n 0, 1) := by decide +kernel
theorem dX7_set_45 : decode cX7_set 45 = .ok (.getfield 10, 3) := by decide +kernel
theorem dX7_set_48 : decode cX7_set 48 = .ok (.invokevirtual 54, 3) := by decide +kernel
theorem dX7_set_51 : decode cX7_set 51 = .ok (.aload_n 0, 1) := by decide +kernel
theorem dX7_set_52 : decode cX7_set 52 = .ok (.getfield 10, 3) := by decide +kernel
theorem dX7_set_55 : decode cX7_set 55 = .ok (.getfield 112, 3) := by decide +kernel
theorem dX7_set_58 : decode cX7_set 58 = .ok (.iload_n 1, 1) := by decide +kernel
theorem dX7_set_59 : decode cX7_set 59 = .ok (.iload_n 2, 1) := by decide +kernel
theorem dX7_set_60 : decode cX7_set 60 = .ok (.iastore, 1) := by decide +kernel
theorem dX7_set_61 : decode cX7_set 61 = .ok (.iload_n 3, 1) := by decide +kernel
theorem dX7_set_62 : decode cX7_set 62 = .ok (.ireturn, 1) := by decide +kernel
set_option maxRecDepth 20000 in
theorem ggX7_clean_X1_keep : GoodIn wsX7_clean wsX1_keep := goodIn_r _ [10, 11, 12, 13, 14, 15, 16, 17, 18, 19, 20, 21, 22, 23, 24, 25, 26, 27, 28, 29, 30, 31, 32, 33, 34, 35, 36, 37, 38, 39, 40, 41, 42, 43, 44, 45, 46, 47, 48, 49, 50, 51, 52, 53, 54, 55, 56, 57, 58, 59, 60, 61, 62, 63, 64, 65, 66, 67, 68, 69, 70, 71, 72, 102, 103, 104, 82, 83, 84, 85, 86, 87, 88, 89, 90, 91, 92, 93, 94, 95, 96, 105, 106, 107, 108, 109, 110, 111, 97, 98, 99, 100, 101, 112, 113, 114, 115, 116] (by decide +kernel) (by decide +kernel)
set_option maxRecDepth 20000 in
theorem gX7_clean_X1_keep : GoodIn wsX7_clean (wsV RX7 54 RX1 yX1_keep wsX1_keep) := goodIn_app (goodIn_of _ (by decide +kernel)) ggX7_clean_X1_keep
set_option maxRecDepth 20000 in
theorem ggX7_clean_X2_open : GoodIn wsX7_clean wsX2_open := goodIn_r _ [76, 56, 58, 59, 97, 98, 99, 100, 101] (by decide +kernel) (by decide +kernel)
set_option maxRecDepth 20000 in
theorem gX7_clean_X2_open : GoodIn wsX7_clean (wsV RX7 127 RX2 yX2_open wsX2_open) := goodIn_app (goodIn_of _ (by decide +kernel)) ggX7_clean_X2_open
theorem dX7_clean_0 : decode cX7_clean 0 = .ok (.iload_n 1, 1) := by decide +kernel
theorem dX7_clean_1 : decode cX7_clean 1 = .ok (.ifCond .lt 8, 3) := by decide +kernel
theorem dX7_clean_4 : decode cX7_clean 4 = .ok (.iload_n 1, 1) := by decide +kernel
theorem dX7_clean_5 : decode cX7_clean 5 = .ok (.iconst 4, 1) := by decide +kernel
theorem dX7_clean_6 : decode cX7_clean 6 = .ok (.if_icmp .lt 5, 3) := by decide +kernel
theorem dX7_clean_9 : decode cX7_clean 9 = .ok (.iconst (-1), 1) := by decide +kernel
theorem dX7_clean_10 : decode cX7_clean 10 = .ok (.ireturn, 1) := by decide +kernel
theorem dX7_clean_11 : decode cX7_clean 11 = .ok (.aload_n 0, 1) := by decide +kernel
theorem dX7_clean_12 : decode cX7_clean 12 = .ok (.getfield 10, 3) := by decide +kernel
theorem dX7_clean_15 : decode cX7_clean 15 = .ok (.getfield 117, 3) := by decide +kernel
theorem dX7_clean_18 : decode cX7_clean 18 = .ok (.getfield 121, 3) := by decide +kernel
theorem dX7_clean_21 : decode cX7_clean 21 = .ok (.iload_n 1, 1) := by decide +kernel
theorem dX7_clean_22 : decode cX7_clean 22 = .ok (.iaload, 1) := by decide +kernel
theorem dX7_clean_23 : decode cX7_clean 23 = .ok (.ifCond .ne 6, 3) := by decide +kernel
theorem dX7_clean_26 : decode cX7_clean 26 = .ok (.bipush (-2), 2) := by decide +kernel
theorem dX7_clean_28 : decode cX7_clean 28 = .ok (.ireturn, 1) := by decide +kernel
theorem dX7_clean_29 : decode cX7_clean 29 = .ok (.aload_n 0, 1) := by decide +kernel
theorem dX7_clean_30 : decode cX7_clean 30 = .ok (.getfield 10, 3) := by decide +kernel
theorem dX7_clean_33 : decode cX7_clean 33 = .ok (.getfield 117, 3) := by decide +kernel
theorem dX7_clean_36 : decode cX7_clean 36 = .ok (.getfield 124, 3) := by decide +kernel
theorem dX7_clean_39 : decode cX7_clean 39 = .ok (.iload_n 1, 1) := by decide +kernel
theorem dX7_clean_40 : decode cX7_clean 40 = .ok (.iaload, 1) := by decide +kernel
theorem dX7_clean_41 : decode cX7_clean 41 = .ok (.istore_n 2, 1) := by decide +kernel
theorem dX7_clean_42 : decode cX7_clean 42 = .ok (.aload_n 0, 1) := by decide +kernel
theorem dX7_clean_43 : decode cX7_clean 43 = .ok (.getfield 22, 3) := by decide +kernel
theorem dX7_clean_46 : decode cX7_clean 46 = .ok (.aload_n 0, 1) := by decide +kernel
theorem dX7_clean_47 : decode cX7_clean 47 = .ok (.getfield 10, 3) := by decide +kernel
theorem dX7_clean_50 : decode cX7_clean 50 = .ok (.invokevirtual 54, 3) := by decide +kernel
theorem dX7_clean_53 : decode cX7_clean 53 = .ok (.aload_n 0, 1) := by decide +kernel
theorem dX7_clean_54 : decode cX7_clean 54 = .ok (.getfield 10, 3) := by decide +kernel
theorem dX7_clean_57 : decode cX7_clean 57 = .ok (.getfield 117, 3) := by decide +kernel
theorem dX7_clean_60 : decode cX7_clean 60 = .ok (.iload_n 1, 1) := by decide +kernel
theorem dX7_clean_61 : decode cX7_clean 61 = .ok (.invokevirtual 127, 3) := by decide +kernel
theorem dX7_clean_64 : decode cX7_clean 64 = .ok (.iload_n 2, 1) := by decide +kernel
theorem dX7_clean_65 : decode cX7_clean 65 = .ok (.ireturn, 1) := by decide +kernel
set_option maxRecDepth 20000 in
theorem ggX7_run_X3_ticksLeft : GoodIn wsX7_run wsX3_ticksLeft := goodIn_r _ [8, 9, 157, 158, 159, 160, 161, 162, 163, 164, 165, 166, 167, 168, 169, 170, 171] (by decide +kernel) (by decide +kernel)
set_option maxRecDepth 20000 in
theorem gX7_run_X3_ticksLeft : GoodIn wsX7_run (wsV RX7 131 RX3 yX3_ticksLeft wsX3_ticksLeft) := goodIn_app (goodIn_of _ (by decide +kernel)) ggX7_run_X3_ticksLeft
set_option maxRecDepth 20000 in
theorem ggX7_run_X1_keep : GoodIn wsX7_run wsX1_keep := goodIn_r _ [14, 15, 16, 17, 18, 19, 20, 7, 21, 22, 23, 24, 25, 26, 27, 28, 29, 30, 31, 32, 33, 34, 35, 36, 37, 9, 38, 39, 40, 41, 42, 43, 44, 45, 46, 47, 48, 49, 50, 51, 52, 53, 54, 55, 56, 57, 58, 59, 60, 61, 62, 63, 64, 65, 66, 67, 68, 69, 70, 71, 72, 73, 74, 172, 173, 174, 157, 158, 159, 160, 161, 162, 163, 164, 165, 166, 167, 168, 169, 170, 171, 175, 176, 177, 178, 179, 180, 181, 182, 183, 184, 185, 186, 187, 188, 189, 190, 191] (by decide +kernel) (by decide +kernel)
set_option maxRecDepth 20000 in
theorem gX7_run_X1_keep : GoodIn wsX7_run (wsV RX7 54 RX1 yX1_keep wsX1_keep) := goodIn_app (goodIn_of _ (by decide +kernel)) ggX7_run_X1_keep
set_option maxRecDepth 20000 in
theorem ggX7_run_X3_pass : GoodIn wsX7_run wsX3_pass := goodIn_r _ [78, 79, 80, 81, 7, 82, 9, 38, 39, 24, 25, 36, 83, 84, 85, 86, 31, 22, 87, 23, 33, 88, 89, 90, 56, 91, 58, 92, 93, 94, 95, 32, 96, 97, 98, 99, 100, 43, 101, 45, 102, 103, 104, 105, 52, 49, 106, 107, 108, 109, 110, 111, 34, 35, 30, 112, 113, 114, 115, 47, 50, 51, 116, 117, 118, 119, 120, 121, 122, 123, 124, 125, 126, 127, 128, 129, 130, 131, 132, 133, 134, 135, 61, 136, 137, 138, 139, 60, 140, 141, 142, 143, 37, 144, 145, 146, 147, 148, 149, 150, 67, 151, 70, 69, 71, 73, 74, 157, 158, 159, 160, 161, 162, 163, 164, 165, 166, 167, 168, 169, 170, 171, 175, 176, 177, 178, 179, 180, 181, 182, 183, 184, 185, 186, 187, 188, 189, 190, 191] (by decide +kernel) (by decide +kernel)
set_option maxRecDepth 20000 in
theorem gX7_run_X3_pass : GoodIn wsX7_run (wsV RX7 135 RX3 yX3_pass wsX3_pass) := goodIn_app (goodIn_of _ (by decide +kernel)) ggX7_run_X3_pass
theorem dX7_run_0 : decode cX7_run 0 = .ok (.iload_n 1, 1) := by decide +kernel
theorem dX7_run_1 : decode cX7_run 1 = .ok (.iconst 1, 1) := by decide +kernel
theorem dX7_run_2 : decode cX7_run 2 = .ok (.if_icmp .lt 10, 3) := by decide +kernel
theorem dX7_run_5 : decode cX7_run 5 = .ok (.iload_n 1, 1) := by decide +kernel
theorem dX7_run_6 : decode cX7_run 6 = .ok (.sipush 1000, 3) := by decide +kernel
theorem dX7_run_9 : decode cX7_run 9 = .ok (.if_icmp .le 5, 3) := by decide +kernel
theorem dX7_run_12 : decode cX7_run 12 = .ok (.iconst (-1), 1) := by decide +kernel
theorem dX7_run_13 : decode cX7_run 13 = .ok (.ireturn, 1) := by decide +kernel
theorem dX7_run_14 : decode cX7_run 14 = .ok (.iload_n 1, 1) := by decide +kernel
theorem dX7_run_15 : decode cX7_run 15 = .ok (.aload_n 0, 1) := by decide +kernel
theorem dX7_run_16 : decode cX7_run 16 = .ok (.getfield 10, 3) := by decide +kernel
theorem dX7_run_19 : decode cX7_run 19 = .ok (.invokevirtual 131, 3) := by decide +kernel
theorem dX7_run_22 : decode cX7_run 22 = .ok (.if_icmp .le 6, 3) := by decide +kernel
theorem dX7_run_25 : decode cX7_run 25 = .ok (.bipush (-3), 2) := by decide +kernel
theorem dX7_run_27 : decode cX7_run 27 = .ok (.ireturn, 1) := by decide +kernel
theorem dX7_run_28 : decode cX7_run 28 = .ok (.aload_n 0, 1) := by decide +kernel
theorem dX7_run_29 : decode cX7_run 29 = .ok (.getfield 22, 3) := by decide +kernel
theorem dX7_run_32 : decode cX7_run 32 = .ok (.aload_n 0, 1) := by decide +kernel
theorem dX7_run_33 : decode cX7_run 33 = .ok (.getfield 10, 3) := by decide +kernel
theorem dX7_run_36 : decode cX7_run 36 = .ok (.invokevirtual 54, 3) := by decide +kernel
theorem dX7_run_39 : decode cX7_run 39 = .ok (.aload_n 0, 1) := by decide +kernel
theorem dX7_run_40 : decode cX7_run 40 = .ok (.getfield 10, 3) := by decide +kernel
theorem dX7_run_43 : decode cX7_run 43 = .ok (.iload_n 1, 1) := by decide +kernel
theorem dX7_run_44 : decode cX7_run 44 = .ok (.invokevirtual 135, 3) := by decide +kernel
theorem dX7_run_47 : decode cX7_run 47 = .ok (.aload_n 0, 1) := by decide +kernel
theorem dX7_run_48 : decode cX7_run 48 = .ok (.getfield 10, 3) := by decide +kernel
theorem dX7_run_51 : decode cX7_run 51 = .ok (.getfield 138, 3) := by decide +kernel
theorem dX7_run_54 : decode cX7_run 54 = .ok (.ireturn, 1) := by decide +kernel
set_option maxRecDepth 20000 in
theorem ggX7_count_X2_stuckOnes : GoodIn wsX7_count wsX2_stuckOnes := goodIn_r _ [27, 28, 66, 67, 68, 69, 70] (by decide +kernel) (by decide +kernel)
set_option maxRecDepth 20000 in
theorem gX7_count_X2_stuckOnes : GoodIn wsX7_count (wsV RX7 174 RX2 yX2_stuckOnes wsX2_stuckOnes) := goodIn_app (goodIn_of _ (by decide +kernel)) ggX7_count_X2_stuckOnes
theorem dX7_count_0 : decode cX7_count 0 = .ok (.iload_n 1, 1) := by decide +kernel
theorem dX7_count_1 : decode cX7_count 1 = .ok (.ifCond .lt 19, 3) := by decide +kernel
theorem dX7_count_4 : decode cX7_count 4 = .ok (.iload_n 1, 1) := by decide +kernel
theorem dX7_count_5 : decode cX7_count 5 = .ok (.bipush 8, 2) := by decide +kernel
theorem dX7_count_7 : decode cX7_count 7 = .ok (.if_icmp .ge 13, 3) := by decide +kernel
theorem dX7_count_10 : decode cX7_count 10 = .ok (.aload_n 0, 1) := by decide +kernel
theorem dX7_count_11 : decode cX7_count 11 = .ok (.getfield 10, 3) := by decide +kernel
theorem dX7_count_14 : decode cX7_count 14 = .ok (.getfield 112, 3) := by decide +kernel
theorem dX7_count_17 : decode cX7_count 17 = .ok (.iload_n 1, 1) := by decide +kernel
theorem dX7_count_18 : decode cX7_count 18 = .ok (.iaload, 1) := by decide +kernel
theorem dX7_count_19 : decode cX7_count 19 = .ok (.ireturn, 1) := by decide +kernel
theorem dX7_count_20 : decode cX7_count 20 = .ok (.iload_n 1, 1) := by decide +kernel
theorem dX7_count_21 : decode cX7_count 21 = .ok (.tableswitch 222 8 23 #[79, 90, 101, 109, 117, 125, 133, 141, 149, 160, 171, 179, 187, 195, 206, 214], 79) := by decide +kernel
theorem dX7_count_100 : decode cX7_count 100 = .ok (.aload_n 0, 1) := by decide +kernel
theorem dX7_count_101 : decode cX7_count 101 = .ok (.getfield 10, 3) := by decide +kernel
theorem dX7_count_104 : decode cX7_count 104 = .ok (.getfield 46, 3) := by decide +kernel
theorem dX7_count_107 : decode cX7_count 107 = .ok (.getfield 62, 3) := by decide +kernel
theorem dX7_count_110 : decode cX7_count 110 = .ok (.ireturn, 1) := by decide +kernel
theorem dX7_count_111 : decode cX7_count 111 = .ok (.aload_n 0, 1) := by decide +kernel
theorem dX7_count_112 : decode cX7_count 112 = .ok (.getfield 10, 3) := by decide +kernel
theorem dX7_count_115 : decode cX7_count 115 = .ok (.getfield 46, 3) := by decide +kernel
theorem dX7_count_118 : decode cX7_count 118 = .ok (.getfield 89, 3) := by decide +kernel
theorem dX7_count_121 : decode cX7_count 121 = .ok (.ireturn, 1) := by decide +kernel
theorem dX7_count_122 : decode cX7_count 122 = .ok (.aload_n 0, 1) := by decide +kernel
theorem dX7_count_123 : decode cX7_count 123 = .ok (.getfield 10, 3) := by decide +kernel
theorem dX7_count_126 : decode cX7_count 126 = .ok (.getfield 82, 3) := by decide +kernel
theorem dX7_count_129 : decode cX7_count 129 = .ok (.ireturn, 1) := by decide +kernel
theorem dX7_count_130 : decode cX7_count 130 = .ok (.aload_n 0, 1) := by decide +kernel
theorem dX7_count_131 : decode cX7_count 131 = .ok (.getfield 10, 3) := by decide +kernel
theorem dX7_count_134 : decode cX7_count 134 = .ok (.getfield 141, 3) := by decide +kernel
theorem dX7_count_137 : decode cX7_count 137 = .ok (.ireturn, 1) := by decide +kernel
theorem dX7_count_138 : decode cX7_count 138 = .ok (.aload_n 0, 1) := by decide +kernel
theorem dX7_count_139 : decode cX7_count 139 = .ok (.getfield 10, 3) := by decide +kernel
theorem dX7_count_142 : decode cX7_count 142 = .ok (.getfield 144, 3) := by decide +kernel
theorem dX7_count_145 : decode cX7_count 145 = .ok (.ireturn, 1) := by decide +kernel
theorem dX7_count_146 : decode cX7_count 146 = .ok (.aload_n 0, 1) := by decide +kernel
theorem dX7_count_147 : decode cX7_count 147 = .ok (.getfield 10, 3) := by decide +kernel
theorem dX7_count_150 : decode cX7_count 150 = .ok (.getfield 147, 3) := by decide +kernel
theorem dX7_count_153 : decode cX7_count 153 = .ok (.ireturn, 1) := by decide +kernel
theorem dX7_count_154 : decode cX7_count 154 = .ok (.aload_n 0, 1) := by decide +kernel
theorem dX7_count_155 : decode cX7_count 155 = .ok (.getfield 10, 3) := by decide +kernel
theorem dX7_count_158 : decode cX7_count 158 = .ok (.getfield 150, 3) := by decide +kernel
theorem dX7_count_161 : decode cX7_count 161 = .ok (.ireturn, 1) := by decide +kernel
theorem dX7_count_162 : decode cX7_count 162 = .ok (.aload_n 0, 1) := by decide +kernel
theorem dX7_count_163 : decode cX7_count 163 = .ok (.getfield 10, 3) := by decide +kernel
theorem dX7_count_166 : decode cX7_count 166 = .ok (.getfield 138, 3) := by decide +kernel
theorem dX7_count_169 : decode cX7_count 169 = .ok (.ireturn, 1) := by decide +kernel
theorem dX7_count_170 : decode cX7_count 170 = .ok (.aload_n 0, 1) := by decide +kernel
theorem dX7_count_171 : decode cX7_count 171 = .ok (.getfield 10, 3) := by decide +kernel
theorem dX7_count_174 : decode cX7_count 174 = .ok (.getfield 153, 3) := by decide +kernel
theorem dX7_count_177 : decode cX7_count 177 = .ok (.getfield 157, 3) := by decide +kernel
theorem dX7_count_180 : decode cX7_count 180 = .ok (.ireturn, 1) := by decide +kernel
theorem dX7_count_181 : decode cX7_count 181 = .ok (.aload_n 0, 1) := by decide +kernel
theorem dX7_count_182 : decode cX7_count 182 = .ok (.getfield 10, 3) := by decide +kernel
theorem dX7_count_185 : decode cX7_count 185 = .ok (.getfield 153, 3) := by decide +kernel
theorem dX7_count_188 : decode cX7_count 188 = .ok (.getfield 162, 3) := by decide +kernel
theorem dX7_count_191 : decode cX7_count 191 = .ok (.ireturn, 1) := by decide +kernel
theorem dX7_count_192 : decode cX7_count 192 = .ok (.aload_n 0, 1) := by decide +kernel
theorem dX7_count_193 : decode cX7_count 193 = .ok (.getfield 10, 3) := by decide +kernel
theorem dX7_count_196 : decode cX7_count 196 = .ok (.getfield 165, 3) := by decide +kernel
theorem dX7_count_199 : decode cX7_count 199 = .ok (.ireturn, 1) := by decide +kernel
theorem dX7_count_200 : decode cX7_count 200 = .ok (.aload_n 0, 1) := by decide +kernel
theorem dX7_count_201 : decode cX7_count 201 = .ok (.getfield 10, 3) := by decide +kernel
theorem dX7_count_204 : decode cX7_count 204 = .ok (.getfield 168, 3) := by decide +kernel
theorem dX7_count_207 : decode cX7_count 207 = .ok (.ireturn, 1) := by decide +kernel
theorem dX7_count_208 : decode cX7_count 208 = .ok (.aload_n 0, 1) := by decide +kernel
theorem dX7_count_209 : decode cX7_count 209 = .ok (.getfield 10, 3) := by decide +kernel
theorem dX7_count_212 : decode cX7_count 212 = .ok (.getfield 171, 3) := by decide +kernel
theorem dX7_count_215 : decode cX7_count 215 = .ok (.ireturn, 1) := by decide +kernel
theorem dX7_count_216 : decode cX7_count 216 = .ok (.aload_n 0, 1) := by decide +kernel
theorem dX7_count_217 : decode cX7_count 217 = .ok (.getfield 10, 3) := by decide +kernel
theorem dX7_count_220 : decode cX7_count 220 = .ok (.getfield 117, 3) := by decide +kernel
theorem dX7_count_223 : decode cX7_count 223 = .ok (.invokevirtual 174, 3) := by decide +kernel
theorem dX7_count_226 : decode cX7_count 226 = .ok (.ireturn, 1) := by decide +kernel
theorem dX7_count_227 : decode cX7_count 227 = .ok (.aload_n 0, 1) := by decide +kernel
theorem dX7_count_228 : decode cX7_count 228 = .ok (.getfield 22, 3) := by decide +kernel
theorem dX7_count_231 : decode cX7_count 231 = .ok (.getfield 102, 3) := by decide +kernel
theorem dX7_count_234 : decode cX7_count 234 = .ok (.ireturn, 1) := by decide +kernel
theorem dX7_count_235 : decode cX7_count 235 = .ok (.aload_n 0, 1) := by decide +kernel
theorem dX7_count_236 : decode cX7_count 236 = .ok (.getfield 29, 3) := by decide +kernel
theorem dX7_count_239 : decode cX7_count 239 = .ok (.getfield 177, 3) := by decide +kernel
theorem dX7_count_242 : decode cX7_count 242 = .ok (.ireturn, 1) := by decide +kernel
theorem dX7_count_243 : decode cX7_count 243 = .ok (.iconst (-1), 1) := by decide +kernel
theorem dX7_count_244 : decode cX7_count 244 = .ok (.ireturn, 1) := by decide +kernel
theorem dX7_account_0 : decode cX7_account 0 = .ok (.iload_n 1, 1) := by decide +kernel
theorem dX7_account_1 : decode cX7_account 1 = .ok (.ifCond .lt 9, 3) := by decide +kernel
theorem dX7_account_4 : decode cX7_account 4 = .ok (.iload_n 1, 1) := by decide +kernel
theorem dX7_account_5 : decode cX7_account 5 = .ok (.bipush 7, 2) := by decide +kernel
theorem dX7_account_7 : decode cX7_account 7 = .ok (.if_icmp .lt 5, 3) := by decide +kernel
theorem dX7_account_10 : decode cX7_account 10 = .ok (.iconst (-1), 1) := by decide +kernel
theorem dX7_account_11 : decode cX7_account 11 = .ok (.ireturn, 1) := by decide +kernel
theorem dX7_account_12 : decode cX7_account 12 = .ok (.aload_n 0, 1) := by decide +kernel
theorem dX7_account_13 : decode cX7_account 13 = .ok (.getfield 10, 3) := by decide +kernel
theorem dX7_account_16 : decode cX7_account 16 = .ok (.getfield 180, 3) := by decide +kernel
theorem dX7_account_19 : decode cX7_account 19 = .ok (.iload_n 1, 1) := by decide +kernel
theorem dX7_account_20 : decode cX7_account 20 = .ok (.iaload, 1) := by decide +kernel
theorem dX7_account_21 : decode cX7_account 21 = .ok (.ireturn, 1) := by decide +kernel
theorem dX7_line_0 : decode cX7_line 0 = .ok (.iload_n 1, 1) := by decide +kernel
theorem dX7_line_1 : decode cX7_line 1 = .ok (.ifCond .lt 8, 3) := by decide +kernel
theorem dX7_line_4 : decode cX7_line 4 = .ok (.iload_n 1, 1) := by decide +kernel
theorem dX7_line_5 : decode cX7_line 5 = .ok (.iconst 4, 1) := by decide +kernel
theorem dX7_line_6 : decode cX7_line 6 = .ok (.if_icmp .lt 5, 3) := by decide +kernel
theorem dX7_line_9 : decode cX7_line 9 = .ok (.iconst (-1), 1) := by decide +kernel
theorem dX7_line_10 : decode cX7_line 10 = .ok (.ireturn, 1) := by decide +kernel
theorem dX7_line_11 : decode cX7_line 11 = .ok (.iload_n 2, 1) := by decide +kernel
theorem dX7_line_12 : decode cX7_line 12 = .ok (.tableswitch 101 0 4 #[36, 49, 62, 75, 88], 36) := by decide +kernel
theorem dX7_line_48 : decode cX7_line 48 = .ok (.aload_n 0, 1) := by decide +kernel
theorem dX7_line_49 : decode cX7_line 49 = .ok (.getfield 10, 3) := by decide +kernel
theorem dX7_line_52 : decode cX7_line 52 = .ok (.getfield 117, 3) := by decide +kernel
theorem dX7_line_55 : decode cX7_line 55 = .ok (.getfield 121, 3) := by decide +kernel
theorem dX7_line_58 : decode cX7_line 58 = .ok (.iload_n 1, 1) := by decide +kernel
theorem dX7_line_59 : decode cX7_line 59 = .ok (.iaload, 1) := by decide +kernel
theorem dX7_line_60 : decode cX7_line 60 = .ok (.ireturn, 1) := by decide +kernel
theorem dX7_line_61 : decode cX7_line 61 = .ok (.aload_n 0, 1) := by decide +kernel
theorem dX7_line_62 : decode cX7_line 62 = .ok (.getfield 10, 3) := by decide +kernel
theorem dX7_line_65 : decode cX7_line 65 = .ok (.getfield 117, 3) := by decide +kernel
theorem dX7_line_68 : decode cX7_line 68 = .ok (.getfield 124, 3) := by decide +kernel
theorem dX7_line_71 : decode cX7_line 71 = .ok (.iload_n 1, 1) := by decide +kernel
theorem dX7_line_72 : decode cX7_line 72 = .ok (.iaload, 1) := by decide +kernel
theorem dX7_line_73 : decode cX7_line 73 = .ok (.ireturn, 1) := by decide +kernel
theorem dX7_line_74 : decode cX7_line 74 = .ok (.aload_n 0, 1) := by decide +kernel
theorem dX7_line_75 : decode cX7_line 75 = .ok (.getfield 10, 3) := by decide +kernel
theorem dX7_line_78 : decode cX7_line 78 = .ok (.getfield 117, 3) := by decide +kernel
theorem dX7_line_81 : decode cX7_line 81 = .ok (.getfield 183, 3) := by decide +kernel
theorem dX7_line_84 : decode cX7_line 84 = .ok (.iload_n 1, 1) := by decide +kernel
theorem dX7_line_85 : decode cX7_line 85 = .ok (.iaload, 1) := by decide +kernel
theorem dX7_line_86 : decode cX7_line 86 = .ok (.ireturn, 1) := by decide +kernel
theorem dX7_line_87 : decode cX7_line 87 = .ok (.aload_n 0, 1) := by decide +kernel
theorem dX7_line_88 : decode cX7_line 88 = .ok (.getfield 10, 3) := by decide +kernel
theorem dX7_line_91 : decode cX7_line 91 = .ok (.getfield 117, 3) := by decide +kernel
theorem dX7_line_94 : decode cX7_line 94 = .ok (.getfield 186, 3) := by decide +kernel
theorem dX7_line_97 : decode cX7_line 97 = .ok (.iload_n 1, 1) := by decide +kernel
theorem dX7_line_98 : decode cX7_line 98 = .ok (.iaload, 1) := by decide +kernel
theorem dX7_line_99 : decode cX7_line 99 = .ok (.ireturn, 1) := by decide +kernel
theorem dX7_line_100 : decode cX7_line 100 = .ok (.aload_n 0, 1) := by decide +kernel
theorem dX7_line_101 : decode cX7_line 101 = .ok (.getfield 10, 3) := by decide +kernel
theorem dX7_line_104 : decode cX7_line 104 = .ok (.getfield 117, 3) := by decide +kernel
theorem dX7_line_107 : decode cX7_line 107 = .ok (.getfield 189, 3) := by decide +kernel
theorem dX7_line_110 : decode cX7_line 110 = .ok (.iload_n 1, 1) := by decide +kernel
theorem dX7_line_111 : decode cX7_line 111 = .ok (.iaload, 1) := by decide +kernel
theorem dX7_line_112 : decode cX7_line 112 = .ok (.ireturn, 1) := by decide +kernel
theorem dX7_line_113 : decode cX7_line 113 = .ok (.iconst (-1), 1) := by decide +kernel
theorem dX7_line_114 : decode cX7_line 114 = .ok (.ireturn, 1) := by decide +kernel
set_option maxRecDepth 20000 in
theorem ggX7_again_X3_drawn : GoodIn wsX7_again wsX3_drawn := goodIn_r _ [12, 13, 28, 29, 30, 31, 32, 33, 34, 35, 36, 37, 38, 39, 40, 41, 42] (by decide +kernel) (by decide +kernel)
set_option maxRecDepth 20000 in
theorem gX7_again_X3_drawn : GoodIn wsX7_again (wsV RX7 192 RX3 yX3_drawn wsX3_drawn) := goodIn_app (goodIn_of _ (by decide +kernel)) ggX7_again_X3_drawn
set_option maxRecDepth 20000 in
theorem ggX7_again_X0_depthOf : GoodIn wsX7_again wsX0_depthOf := goodIn_r _ [18, 19, 20, 21, 22, 5, 6, 7, 43, 44, 45, 46, 47, 48, 49] (by decide +kernel) (by decide +kernel)
set_option maxRecDepth 20000 in
theorem gX7_again_X0_depthOf : GoodIn wsX7_again (wsV RX7 194 RX0 yX0_depthOf wsX0_depthOf) := goodIn_app (goodIn_of _ (by decide +kernel)) ggX7_again_X0_depthOf
theorem dX7_again_0 : decode cX7_again 0 = .ok (.aload_n 0, 1) := by decide +kernel
theorem dX7_again_1 : decode cX7_again 1 = .ok (.getfield 10, 3) := by decide +kernel
theorem dX7_again_4 : decode cX7_again 4 = .ok (.getfield 46, 3) := by decide +kernel
theorem dX7_again_7 : decode cX7_again 7 = .ok (.aload_n 0, 1) := by decide +kernel
theorem dX7_again_8 : decode cX7_again 8 = .ok (.getfield 10, 3) := by decide +kernel
theorem dX7_again_11 : decode cX7_again 11 = .ok (.invokevirtual 192, 3) := by decide +kernel
theorem dX7_again_14 : decode cX7_again 14 = .ok (.invokevirtual 194, 3) := by decide +kernel
theorem dX7_again_17 : decode cX7_again 17 = .ok (.aload_n 0, 1) := by decide +kernel
theorem dX7_again_18 : decode cX7_again 18 = .ok (.getfield 10, 3) := by decide +kernel
theorem dX7_again_21 : decode cX7_again 21 = .ok (.getfield 82, 3) := by decide +kernel
theorem dX7_again_24 : decode cX7_again 24 = .ok (.invokestatic 197, 3) := by decide +kernel
theorem dX7_again_27 : decode cX7_again 27 = .ok (.ireturn, 1) := by decide +kernel
theorem dX7_vial_0 : decode cX7_vial 0 = .ok (.iload_n 1, 1) := by decide +kernel
theorem dX7_vial_1 : decode cX7_vial 1 = .ok (.ifCond .lt 17, 3) := by decide +kernel
theorem dX7_vial_4 : decode cX7_vial 4 = .ok (.iload_n 1, 1) := by decide +kernel
theorem dX7_vial_5 : decode cX7_vial 5 = .ok (.aload_n 0, 1) := by decide +kernel
theorem dX7_vial_6 : decode cX7_vial 6 = .ok (.getfield 10, 3) := by decide +kernel
theorem dX7_vial_9 : decode cX7_vial 9 = .ok (.getfield 153, 3) := by decide +kernel
theorem dX7_vial_12 : decode cX7_vial 12 = .ok (.getfield 157, 3) := by decide +kernel
theorem dX7_vial_15 : decode cX7_vial 15 = .ok (.if_icmp .lt 5, 3) := by decide +kernel
theorem dX7_vial_18 : decode cX7_vial 18 = .ok (.iconst (-1), 1) := by decide +kernel
theorem dX7_vial_19 : decode cX7_vial 19 = .ok (.ireturn, 1) := by decide +kernel
theorem dX7_vial_20 : decode cX7_vial 20 = .ok (.iload_n 2, 1) := by decide +kernel
theorem dX7_vial_21 : decode cX7_vial 21 = .ok (.tableswitch 93 0 3 #[31, 44, 57, 80], 31) := by decide +kernel
theorem dX7_vial_52 : decode cX7_vial 52 = .ok (.aload_n 0, 1) := by decide +kernel
theorem dX7_vial_53 : decode cX7_vial 53 = .ok (.getfield 10, 3) := by decide +kernel
theorem dX7_vial_56 : decode cX7_vial 56 = .ok (.getfield 153, 3) := by decide +kernel
theorem dX7_vial_59 : decode cX7_vial 59 = .ok (.getfield 202, 3) := by decide +kernel
theorem dX7_vial_62 : decode cX7_vial 62 = .ok (.iload_n 1, 1) := by decide +kernel
theorem dX7_vial_63 : decode cX7_vial 63 = .ok (.iaload, 1) := by decide +kernel
theorem dX7_vial_64 : decode cX7_vial 64 = .ok (.ireturn, 1) := by decide +kernel
theorem dX7_vial_65 : decode cX7_vial 65 = .ok (.aload_n 0, 1) := by decide +kernel
theorem dX7_vial_66 : decode cX7_vial 66 = .ok (.getfield 10, 3) := by decide +kernel
theorem dX7_vial_69 : decode cX7_vial 69 = .ok (.getfield 153, 3) := by decide +kernel
theorem dX7_vial_72 : decode cX7_vial 72 = .ok (.getfield 205, 3) := by decide +kernel
theorem dX7_vial_75 : decode cX7_vial 75 = .ok (.iload_n 1, 1) := by decide +kernel
theorem dX7_vial_76 : decode cX7_vial 76 = .ok (.iaload, 1) := by decide +kernel
theorem dX7_vial_77 : decode cX7_vial 77 = .ok (.ireturn, 1) := by decide +kernel
theorem dX7_vial_78 : decode cX7_vial 78 = .ok (.iload_n 1, 1) := by decide +kernel
theorem dX7_vial_79 : decode cX7_vial 79 = .ok (.ifCond .ne 7, 3) := by decide +kernel
theorem dX7_vial_82 : decode cX7_vial 82 = .ok (.iconst 0, 1) := by decide +kernel
theorem dX7_vial_83 : decode cX7_vial 83 = .ok (.goto 17, 3) := by decide +kernel
theorem dX7_vial_86 : decode cX7_vial 86 = .ok (.aload_n 0, 1) := by decide +kernel
theorem dX7_vial_87 : decode cX7_vial 87 = .ok (.getfield 10, 3) := by decide +kernel
theorem dX7_vial_90 : decode cX7_vial 90 = .ok (.getfield 153, 3) := by decide +kernel
theorem dX7_vial_93 : decode cX7_vial 93 = .ok (.getfield 205, 3) := by decide +kernel
theorem dX7_vial_96 : decode cX7_vial 96 = .ok (.iload_n 1, 1) := by decide +kernel
theorem dX7_vial_97 : decode cX7_vial 97 = .ok (.iconst 1, 1) := by decide +kernel
theorem dX7_vial_98 : decode cX7_vial 98 = .ok (.isub, 1) := by decide +kernel
theorem dX7_vial_99 : decode cX7_vial 99 = .ok (.iaload, 1) := by decide +kernel
theorem dX7_vial_100 : decode cX7_vial 100 = .ok (.ireturn, 1) := by decide +kernel
theorem dX7_vial_101 : decode cX7_vial 101 = .ok (.aload_n 0, 1) := by decide +kernel
theorem dX7_vial_102 : decode cX7_vial 102 = .ok (.getfield 10, 3) := by decide +kernel
theorem dX7_vial_105 : decode cX7_vial 105 = .ok (.getfield 153, 3) := by decide +kernel
theorem dX7_vial_108 : decode cX7_vial 108 = .ok (.getfield 208, 3) := by decide +kernel
theorem dX7_vial_111 : decode cX7_vial 111 = .ok (.iload_n 1, 1) := by decide +kernel
theorem dX7_vial_112 : decode cX7_vial 112 = .ok (.iaload, 1) := by decide +kernel
theorem dX7_vial_113 : decode cX7_vial 113 = .ok (.ireturn, 1) := by decide +kernel
theorem dX7_vial_114 : decode cX7_vial 114 = .ok (.iconst (-1), 1) := by decide +kernel
theorem dX7_vial_115 : decode cX7_vial 115 = .ok (.ireturn, 1) := by decide +kernel
set_option maxRecDepth 20000 in
theorem ggX7_vialAt_X6_firstBeyond : GoodIn wsX7_vialAt wsX6_firstBeyond := goodIn_r _ [8, 9, 10, 31, 32, 33, 34, 35] (by decide +kernel) (by decide +kernel)
set_option maxRecDepth 20000 in
theorem gX7_vialAt_X6_firstBeyond : GoodIn wsX7_vialAt (wsV RX7 210 RX6 yX6_firstBeyond wsX6_firstBeyond) := goodIn_app (goodIn_of _ (by decide +kernel)) ggX7_vialAt_X6_firstBeyond
theorem dX7_vialAt_0 : decode cX7_vialAt 0 = .ok (.iload_n 1, 1) := by decide +kernel
theorem dX7_vialAt_1 : decode cX7_vialAt 1 = .ok (.ifCond .ge 5, 3) := by decide +kernel
theorem dX7_vialAt_4 : decode cX7_vialAt 4 = .ok (.iconst (-1), 1) := by decide +kernel
theorem dX7_vialAt_5 : decode cX7_vialAt 5 = .ok (.ireturn, 1) := by decide +kernel
theorem dX7_vialAt_6 : decode cX7_vialAt 6 = .ok (.aload_n 0, 1) := by decide +kernel
theorem dX7_vialAt_7 : decode cX7_vialAt 7 = .ok (.getfield 10, 3) := by decide +kernel
theorem dX7_vialAt_10 : decode cX7_vialAt 10 = .ok (.getfield 153, 3) := by decide +kernel
theorem dX7_vialAt_13 : decode cX7_vialAt 13 = .ok (.iload_n 1, 1) := by decide +kernel
theorem dX7_vialAt_14 : decode cX7_vialAt 14 = .ok (.invokevirtual 210, 3) := by decide +kernel
theorem dX7_vialAt_17 : decode cX7_vialAt 17 = .ok (.istore_n 2, 1) := by decide +kernel
theorem dX7_vialAt_18 : decode cX7_vialAt 18 = .ok (.iload_n 2, 1) := by decide +kernel
theorem dX7_vialAt_19 : decode cX7_vialAt 19 = .ok (.aload_n 0, 1) := by decide +kernel
theorem dX7_vialAt_20 : decode cX7_vialAt 20 = .ok (.getfield 10, 3) := by decide +kernel
theorem dX7_vialAt_23 : decode cX7_vialAt 23 = .ok (.getfield 153, 3) := by decide +kernel
theorem dX7_vialAt_26 : decode cX7_vialAt 26 = .ok (.getfield 157, 3) := by decide +kernel
theorem dX7_vialAt_29 : decode cX7_vialAt 29 = .ok (.if_icmp .ge 7, 3) := by decide +kernel
theorem dX7_vialAt_32 : decode cX7_vialAt 32 = .ok (.iload_n 2, 1) := by decide +kernel
theorem dX7_vialAt_33 : decode cX7_vialAt 33 = .ok (.goto 5, 3) := by decide +kernel
theorem dX7_vialAt_36 : decode cX7_vialAt 36 = .ok (.bipush (-4), 2) := by decide +kernel
theorem dX7_vialAt_38 : decode cX7_vialAt 38 = .ok (.ireturn, 1) := by decide +kernel
set_option maxRecDepth 20000 in
theorem ggX7_ifRun_X3_ticksLeft : GoodIn wsX7_ifRun wsX3_ticksLeft := goodIn_r _ [14, 15, 156, 157, 158, 159, 160, 161, 162, 163, 164, 165, 166, 167, 168, 169, 170] (by decide +kernel) (by decide +kernel)
set_option maxRecDepth 20000 in
theorem gX7_ifRun_X3_ticksLeft : GoodIn wsX7_ifRun (wsV RX7 131 RX3 yX3_ticksLeft wsX3_ticksLeft) := goodIn_app (goodIn_of _ (by decide +kernel)) ggX7_ifRun_X3_ticksLeft
set_option maxRecDepth 20000 in
theorem ggX7_ifRun_X3_copyFrom : GoodIn wsX7_ifRun wsX3_copyFrom := goodIn_r _ [19, 20, 21, 22, 23, 24, 25, 26, 27, 28, 29, 30, 31, 32, 33, 34, 35, 15, 36, 37, 38, 39, 40, 41, 42, 43, 44, 45, 46, 47, 48, 49, 50, 51, 52, 53, 54, 55, 56, 57, 58, 59, 60, 61, 62, 63, 64, 65, 66, 67, 68, 69, 70, 71, 72, 156, 157, 158, 159, 160, 161, 162, 163, 164, 165, 166, 167, 168, 169, 170, 176, 177, 178, 179, 180, 181, 182, 183, 184, 185, 186, 187, 171, 172, 173, 174, 175] (by decide +kernel) (by decide +kernel)
set_option maxRecDepth 20000 in
theorem gX7_ifRun_X3_copyFrom : GoodIn wsX7_ifRun (wsV RX7 213 RX3 yX3_copyFrom wsX3_copyFrom) := goodIn_app (goodIn_of _ (by decide +kernel)) ggX7_ifRun_X3_copyFrom
set_option maxRecDepth 20000 in
theorem ggX7_ifRun_X3_pass : GoodIn wsX7_ifRun wsX3_pass := goodIn_r _ [76, 77, 78, 79, 13, 80, 15, 36, 37, 22, 23, 34, 81, 82, 83, 84, 29, 20, 85, 21, 31, 86, 87, 88, 54, 89, 56, 90, 91, 92, 93, 30, 94, 95, 96, 97, 98, 41, 99, 43, 100, 101, 102, 103, 50, 47, 104, 105, 106, 107, 108, 109, 32, 33, 28, 110, 111, 112, 113, 45, 48, 49, 114, 115, 116, 117, 118, 119, 120, 121, 122, 123, 124, 125, 126, 127, 128, 129, 130, 131, 132, 133, 59, 134, 135, 136, 137, 58, 138, 139, 140, 141, 35, 142, 143, 144, 145, 146, 147, 148, 65, 149, 68, 67, 69, 71, 72, 156, 157, 158, 159, 160, 161, 162, 163, 164, 165, 166, 167, 168, 169, 170, 176, 177, 178, 179, 180, 181, 182, 183, 184, 185, 186, 187, 171, 172, 173, 174, 175] (by decide +kernel) (by decide +kernel)
set_option maxRecDepth 20000 in
theorem gX7_ifRun_X3_pass : GoodIn wsX7_ifRun (wsV RX7 135 RX3 yX3_pass wsX3_pass) := goodIn_app (goodIn_of _ (by decide +kernel)) ggX7_ifRun_X3_pass
set_option maxRecDepth 20000 in
theorem ggX7_ifRun_X2_stuckOnes : GoodIn wsX7_ifRun wsX2_stuckOnes := goodIn_r _ [89, 56, 183, 184, 185, 186, 187] (by decide +kernel) (by decide +kernel)
set_option maxRecDepth 20000 in
theorem gX7_ifRun_X2_stuckOnes : GoodIn wsX7_ifRun (wsV RX7 174 RX2 yX2_stuckOnes wsX2_stuckOnes) := goodIn_app (goodIn_of _ (by decide +kernel)) ggX7_ifRun_X2_stuckOnes
theorem dX7_ifRun_0 : decode cX7_ifRun 0 = .ok (.iload_n 1, 1) := by decide +kernel
theorem dX7_ifRun_1 : decode cX7_ifRun 1 = .ok (.iconst 1, 1) := by decide +kernel
theorem dX7_ifRun_2 : decode cX7_ifRun 2 = .ok (.if_icmp .lt 20, 3) := by decide +kernel
theorem dX7_ifRun_5 : decode cX7_ifRun 5 = .ok (.iload_n 1, 1) := by decide +kernel
theorem dX7_ifRun_6 : decode cX7_ifRun 6 = .ok (.sipush 1000, 3) := by decide +kernel
theorem dX7_ifRun_9 : decode cX7_ifRun 9 = .ok (.if_icmp .gt 13, 3) := by decide +kernel
theorem dX7_ifRun_12 : decode cX7_ifRun 12 = .ok (.iload_n 2, 1) := by decide +kernel
theorem dX7_ifRun_13 : decode cX7_ifRun 13 = .ok (.ifCond .lt 9, 3) := by decide +kernel
theorem dX7_ifRun_16 : decode cX7_ifRun 16 = .ok (.iload_n 2, 1) := by decide +kernel
theorem dX7_ifRun_17 : decode cX7_ifRun 17 = .ok (.bipush 6, 2) := by decide +kernel
theorem dX7_ifRun_19 : decode cX7_ifRun 19 = .ok (.if_icmp .le 5, 3) := by decide +kernel
theorem dX7_ifRun_22 : decode cX7_ifRun 22 = .ok (.iconst (-1), 1) := by decide +kernel
theorem dX7_ifRun_23 : decode cX7_ifRun 23 = .ok (.ireturn, 1) := by decide +kernel
theorem dX7_ifRun_24 : decode cX7_ifRun 24 = .ok (.iload_n 1, 1) := by decide +kernel
theorem dX7_ifRun_25 : decode cX7_ifRun 25 = .ok (.aload_n 0, 1) := by decide +kernel
theorem dX7_ifRun_26 : decode cX7_ifRun 26 = .ok (.getfield 10, 3) := by decide +kernel
theorem dX7_ifRun_29 : decode cX7_ifRun 29 = .ok (.invokevirtual 131, 3) := by decide +kernel
theorem dX7_ifRun_32 : decode cX7_ifRun 32 = .ok (.if_icmp .le 6, 3) := by decide +kernel
theorem dX7_ifRun_35 : decode cX7_ifRun 35 = .ok (.bipush (-3), 2) := by decide +kernel
theorem dX7_ifRun_37 : decode cX7_ifRun 37 = .ok (.ireturn, 1) := by decide +kernel
theorem dX7_ifRun_38 : decode cX7_ifRun 38 = .ok (.aload_n 0, 1) := by decide +kernel
theorem dX7_ifRun_39 : decode cX7_ifRun 39 = .ok (.getfield 16, 3) := by decide +kernel
theorem dX7_ifRun_42 : decode cX7_ifRun 42 = .ok (.aload_n 0, 1) := by decide +kernel
theorem dX7_ifRun_43 : decode cX7_ifRun 43 = .ok (.getfield 10, 3) := by decide +kernel
theorem dX7_ifRun_46 : decode cX7_ifRun 46 = .ok (.invokevirtual 213, 3) := by decide +kernel
theorem dX7_ifRun_49 : decode cX7_ifRun 49 = .ok (.aload_n 0, 1) := by decide +kernel
theorem dX7_ifRun_50 : decode cX7_ifRun 50 = .ok (.getfield 16, 3) := by decide +kernel
theorem dX7_ifRun_53 : decode cX7_ifRun 53 = .ok (.iload_n 1, 1) := by decide +kernel
theorem dX7_ifRun_54 : decode cX7_ifRun 54 = .ok (.invokevirtual 135, 3) := by decide +kernel
theorem dX7_ifRun_57 : decode cX7_ifRun 57 = .ok (.iload_n 2, 1) := by decide +kernel
theorem dX7_ifRun_58 : decode cX7_ifRun 58 = .ok (.tableswitch 127 0 5 #[38, 46, 54, 74, 94, 116], 38) := by decide +kernel
theorem dX7_ifRun_96 : decode cX7_ifRun 96 = .ok (.aload_n 0, 1) := by decide +kernel
theorem dX7_ifRun_97 : decode cX7_ifRun 97 = .ok (.getfield 16, 3) := by decide +kernel
theorem dX7_ifRun_100 : decode cX7_ifRun 100 = .ok (.getfield 138, 3) := by decide +kernel
theorem dX7_ifRun_103 : decode cX7_ifRun 103 = .ok (.ireturn, 1) := by decide +kernel
theorem dX7_ifRun_104 : decode cX7_ifRun 104 = .ok (.aload_n 0, 1) := by decide +kernel
theorem dX7_ifRun_105 : decode cX7_ifRun 105 = .ok (.getfield 16, 3) := by decide +kernel
theorem dX7_ifRun_108 : decode cX7_ifRun 108 = .ok (.getfield 82, 3) := by decide +kernel
theorem dX7_ifRun_111 : decode cX7_ifRun 111 = .ok (.ireturn, 1) := by decide +kernel
theorem dX7_ifRun_112 : decode cX7_ifRun 112 = .ok (.aload_n 0, 1) := by decide +kernel
theorem dX7_ifRun_113 : decode cX7_ifRun 113 = .ok (.getfield 16, 3) := by decide +kernel
theorem dX7_ifRun_116 : decode cX7_ifRun 116 = .ok (.getfield 180, 3) := by decide +kernel
theorem dX7_ifRun_119 : decode cX7_ifRun 119 = .ok (.iconst 1, 1) := by decide +kernel
theorem dX7_ifRun_120 : decode cX7_ifRun 120 = .ok (.iaload, 1) := by decide +kernel
theorem dX7_ifRun_121 : decode cX7_ifRun 121 = .ok (.aload_n 0, 1) := by decide +kernel
theorem dX7_ifRun_122 : decode cX7_ifRun 122 = .ok (.getfield 10, 3) := by decide +kernel
theorem dX7_ifRun_125 : decode cX7_ifRun 125 = .ok (.getfield 180, 3) := by decide +kernel
theorem dX7_ifRun_128 : decode cX7_ifRun 128 = .ok (.iconst 1, 1) := by decide +kernel
theorem dX7_ifRun_129 : decode cX7_ifRun 129 = .ok (.iaload, 1) := by decide +kernel
theorem dX7_ifRun_130 : decode cX7_ifRun 130 = .ok (.isub, 1) := by decide +kernel
theorem dX7_ifRun_131 : decode cX7_ifRun 131 = .ok (.ireturn, 1) := by decide +kernel
theorem dX7_ifRun_132 : decode cX7_ifRun 132 = .ok (.aload_n 0, 1) := by decide +kernel
theorem dX7_ifRun_133 : decode cX7_ifRun 133 = .ok (.getfield 16, 3) := by decide +kernel
theorem dX7_ifRun_136 : decode cX7_ifRun 136 = .ok (.getfield 180, 3) := by decide +kernel
theorem dX7_ifRun_139 : decode cX7_ifRun 139 = .ok (.iconst 2, 1) := by decide +kernel
theorem dX7_ifRun_140 : decode cX7_ifRun 140 = .ok (.iaload, 1) := by decide +kernel
theorem dX7_ifRun_141 : decode cX7_ifRun 141 = .ok (.aload_n 0, 1) := by decide +kernel
theorem dX7_ifRun_142 : decode cX7_ifRun 142 = .ok (.getfield 10, 3) := by decide +kernel
theorem dX7_ifRun_145 : decode cX7_ifRun 145 = .ok (.getfield 180, 3) := by decide +kernel
theorem dX7_ifRun_148 : decode cX7_ifRun 148 = .ok (.iconst 2, 1) := by decide +kernel
theorem dX7_ifRun_149 : decode cX7_ifRun 149 = .ok (.iaload, 1) := by decide +kernel
theorem dX7_ifRun_150 : decode cX7_ifRun 150 = .ok (.isub, 1) := by decide +kernel
theorem dX7_ifRun_151 : decode cX7_ifRun 151 = .ok (.ireturn, 1) := by decide +kernel
theorem dX7_ifRun_152 : decode cX7_ifRun 152 = .ok (.aload_n 0, 1) := by decide +kernel
theorem dX7_ifRun_153 : decode cX7_ifRun 153 = .ok (.getfield 16, 3) := by decide +kernel
theorem dX7_ifRun_156 : decode cX7_ifRun 156 = .ok (.getfield 153, 3) := by decide +kernel
theorem dX7_ifRun_159 : decode cX7_ifRun 159 = .ok (.getfield 157, 3) := by decide +kernel
theorem dX7_ifRun_162 : decode cX7_ifRun 162 = .ok (.aload_n 0, 1) := by decide +kernel
theorem dX7_ifRun_163 : decode cX7_ifRun 163 = .ok (.getfield 10, 3) := by decide +kernel
theorem dX7_ifRun_166 : decode cX7_ifRun 166 = .ok (.getfield 153, 3) := by decide +kernel
theorem dX7_ifRun_169 : decode cX7_ifRun 169 = .ok (.getfield 157, 3) := by decide +kernel
theorem dX7_ifRun_172 : decode cX7_ifRun 172 = .ok (.isub, 1) := by decide +kernel
theorem dX7_ifRun_173 : decode cX7_ifRun 173 = .ok (.ireturn, 1) := by decide +kernel
theorem dX7_ifRun_174 : decode cX7_ifRun 174 = .ok (.aload_n 0, 1) := by decide +kernel
theorem dX7_ifRun_175 : decode cX7_ifRun 175 = .ok (.getfield 16, 3) := by decide +kernel
theorem dX7_ifRun_178 : decode cX7_ifRun 178 = .ok (.getfield 117, 3) := by decide +kernel
theorem dX7_ifRun_181 : decode cX7_ifRun 181 = .ok (.invokevirtual 174, 3) := by decide +kernel
theorem dX7_ifRun_184 : decode cX7_ifRun 184 = .ok (.ireturn, 1) := by decide +kernel
theorem dX7_ifRun_185 : decode cX7_ifRun 185 = .ok (.aload_n 0, 1) := by decide +kernel
theorem dX7_ifRun_186 : decode cX7_ifRun 186 = .ok (.getfield 16, 3) := by decide +kernel
theorem dX7_ifRun_189 : decode cX7_ifRun 189 = .ok (.getfield 171, 3) := by decide +kernel
theorem dX7_ifRun_192 : decode cX7_ifRun 192 = .ok (.aload_n 0, 1) := by decide +kernel
theorem dX7_ifRun_193 : decode cX7_ifRun 193 = .ok (.getfield 10, 3) := by decide +kernel
theorem dX7_ifRun_196 : decode cX7_ifRun 196 = .ok (.getfield 171, 3) := by decide +kernel
theorem dX7_ifRun_199 : decode cX7_ifRun 199 = .ok (.isub, 1) := by decide +kernel
theorem dX7_ifRun_200 : decode cX7_ifRun 200 = .ok (.ireturn, 1) := by decide +kernel
set_option maxRecDepth 20000 in
theorem ggX7_ticksTo_X3_ticksLeft : GoodIn wsX7_ticksTo wsX3_ticksLeft := goodIn_r _ [13, 14, 147, 148, 149, 150, 151, 152, 153, 154, 155, 156, 157, 158, 159, 160, 161] (by decide +kernel) (by decide +kernel)
set_option maxRecDepth 20000 in
theorem gX7_ticksTo_X3_ticksLeft : GoodIn wsX7_ticksTo (wsV RX7 131 RX3 yX3_ticksLeft wsX3_ticksLeft) := goodIn_app (goodIn_of _ (by decide +kernel)) ggX7_ticksTo_X3_ticksLeft
set_option maxRecDepth 20000 in
theorem ggX7_ticksTo_X3_copyFrom : GoodIn wsX7_ticksTo wsX3_copyFrom := goodIn_r _ [18, 19, 20, 21, 22, 23, 24, 25, 26, 27, 28, 29, 30, 31, 32, 33, 34, 14, 35, 36, 37, 38, 39, 40, 41, 42, 43, 44, 45, 46, 47, 48, 49, 50, 51, 52, 53, 54, 55, 56, 57, 58, 59, 60, 61, 62, 63, 64, 65, 66, 67, 68, 69, 70, 71, 147, 148, 149, 150, 151, 152, 153, 154, 155, 156, 157, 158, 159, 160, 161, 162, 163, 164, 165, 166, 167, 168, 169, 170, 171, 172, 173, 174, 175, 176, 177, 178] (by decide +kernel) (by decide +kernel)
set_option maxRecDepth 20000 in
theorem gX7_ticksTo_X3_copyFrom : GoodIn wsX7_ticksTo (wsV RX7 213 RX3 yX3_copyFrom wsX3_copyFrom) := goodIn_app (goodIn_of _ (by decide +kernel)) ggX7_ticksTo_X3_copyFrom
set_option maxRecDepth 20000 in
theorem ggX7_ticksTo_X3_tick : GoodIn wsX7_ticksTo wsX3_tick := goodIn_r _ [75, 14, 35, 36, 21, 22, 33, 76, 77, 78, 12, 79, 28, 19, 80, 20, 30, 81, 82, 83, 53, 84, 55, 85, 86, 87, 88, 29, 89, 90, 91, 92, 93, 40, 94, 42, 95, 96, 97, 98, 49, 46, 99, 100, 101, 102, 103, 104, 31, 32, 27, 105, 106, 107, 108, 44, 47, 48, 109, 110, 111, 112, 113, 114, 115, 116, 117, 3, 4, 5, 118, 119, 120, 121, 122, 123, 124, 125, 58, 126, 127, 128, 129, 57, 130, 131, 132, 133, 34, 134, 135, 136, 137, 138, 139, 140, 64, 141, 67, 66, 68, 70, 71, 147, 148, 149, 150, 151, 152, 153, 154, 155, 156, 157, 158, 159, 160, 161, 162, 163, 164, 165, 166, 167, 168, 169, 170, 171, 172, 173, 174, 175, 176, 177, 178] (by decide +kernel) (by decide +kernel)
set_option maxRecDepth 20000 in
theorem gX7_ticksTo_X3_tick : GoodIn wsX7_ticksTo (wsV RX7 216 RX3 yX3_tick wsX3_tick) := goodIn_app (goodIn_of _ (by decide +kernel)) ggX7_ticksTo_X3_tick
theorem dX7_ticksTo_0 : decode cX7_ticksTo 0 = .ok (.iload_n 1, 1) := by decide +kernel
theorem dX7_ticksTo_1 : decode cX7_ticksTo 1 = .ok (.ifCond .ge 5, 3) := by decide +kernel
theorem dX7_ticksTo_4 : decode cX7_ticksTo 4 = .ok (.iconst (-1), 1) := by decide +kernel
theorem dX7_ticksTo_5 : decode cX7_ticksTo 5 = .ok (.ireturn, 1) := by decide +kernel
theorem dX7_ticksTo_6 : decode cX7_ticksTo 6 = .ok (.sipush 2000, 3) := by decide +kernel
theorem dX7_ticksTo_9 : decode cX7_ticksTo 9 = .ok (.aload_n 0, 1) := by decide +kernel
theorem dX7_ticksTo_10 : decode cX7_ticksTo 10 = .ok (.getfield 10, 3) := by decide +kernel
theorem dX7_ticksTo_13 : decode cX7_ticksTo 13 = .ok (.invokevirtual 131, 3) := by decide +kernel
theorem dX7_ticksTo_16 : decode cX7_ticksTo 16 = .ok (.invokestatic 197, 3) := by decide +kernel
theorem dX7_ticksTo_19 : decode cX7_ticksTo 19 = .ok (.istore_n 2, 1) := by decide +kernel
theorem dX7_ticksTo_20 : decode cX7_ticksTo 20 = .ok (.aload_n 0, 1) := by decide +kernel
theorem dX7_ticksTo_21 : decode cX7_ticksTo 21 = .ok (.getfield 16, 3) := by decide +kernel
theorem dX7_ticksTo_24 : decode cX7_ticksTo 24 = .ok (.aload_n 0, 1) := by decide +kernel
theorem dX7_ticksTo_25 : decode cX7_ticksTo 25 = .ok (.getfield 10, 3) := by decide +kernel
theorem dX7_ticksTo_28 : decode cX7_ticksTo 28 = .ok (.invokevirtual 213, 3) := by decide +kernel
theorem dX7_ticksTo_31 : decode cX7_ticksTo 31 = .ok (.iconst 0, 1) := by decide +kernel
theorem dX7_ticksTo_32 : decode cX7_ticksTo 32 = .ok (.istore_n 3, 1) := by decide +kernel
theorem dX7_ticksTo_33 : decode cX7_ticksTo 33 = .ok (.iload_n 3, 1) := by decide +kernel
theorem dX7_ticksTo_34 : decode cX7_ticksTo 34 = .ok (.iload_n 2, 1) := by decide +kernel
theorem dX7_ticksTo_35 : decode cX7_ticksTo 35 = .ok (.if_icmp .ge 27, 3) := by decide +kernel
theorem dX7_ticksTo_38 : decode cX7_ticksTo 38 = .ok (.aload_n 0, 1) := by decide +kernel
theorem dX7_ticksTo_39 : decode cX7_ticksTo 39 = .ok (.getfield 16, 3) := by decide +kernel
theorem dX7_ticksTo_42 : decode cX7_ticksTo 42 = .ok (.getfield 138, 3) := by decide +kernel
theorem dX7_ticksTo_45 : decode cX7_ticksTo 45 = .ok (.iload_n 1, 1) := by decide +kernel
theorem dX7_ticksTo_46 : decode cX7_ticksTo 46 = .ok (.if_icmp .ge 16, 3) := by decide +kernel
theorem dX7_ticksTo_49 : decode cX7_ticksTo 49 = .ok (.aload_n 0, 1) := by decide +kernel
theorem dX7_ticksTo_50 : decode cX7_ticksTo 50 = .ok (.getfield 16, 3) := by decide +kernel
theorem dX7_ticksTo_53 : decode cX7_ticksTo 53 = .ok (.invokevirtual 216, 3) := by decide +kernel
theorem dX7_ticksTo_56 : decode cX7_ticksTo 56 = .ok (.iinc 3 1, 3) := by decide +kernel
theorem dX7_ticksTo_59 : decode cX7_ticksTo 59 = .ok (.goto (-26), 3) := by decide +kernel
theorem dX7_ticksTo_62 : decode cX7_ticksTo 62 = .ok (.aload_n 0, 1) := by decide +kernel
theorem dX7_ticksTo_63 : decode cX7_ticksTo 63 = .ok (.getfield 16, 3) := by decide +kernel
theorem dX7_ticksTo_66 : decode cX7_ticksTo 66 = .ok (.getfield 138, 3) := by decide +kernel
theorem dX7_ticksTo_69 : decode cX7_ticksTo 69 = .ok (.iload_n 1, 1) := by decide +kernel
theorem dX7_ticksTo_70 : decode cX7_ticksTo 70 = .ok (.if_icmp .ge 8, 3) := by decide +kernel
theorem dX7_ticksTo_73 : decode cX7_ticksTo 73 = .ok (.bipush (-4), 2) := by decide +kernel
theorem dX7_ticksTo_75 : decode cX7_ticksTo 75 = .ok (.goto 18, 3) := by decide +kernel
theorem dX7_ticksTo_78 : decode cX7_ticksTo 78 = .ok (.aload_n 0, 1) := by decide +kernel
theorem dX7_ticksTo_79 : decode cX7_ticksTo 79 = .ok (.getfield 16, 3) := by decide +kernel
theorem dX7_ticksTo_82 : decode cX7_ticksTo 82 = .ok (.getfield 165, 3) := by decide +kernel
theorem dX7_ticksTo_85 : decode cX7_ticksTo 85 = .ok (.aload_n 0, 1) := by decide +kernel
theorem dX7_ticksTo_86 : decode cX7_ticksTo 86 = .ok (.getfield 10, 3) := by decide +kernel
theorem dX7_ticksTo_89 : decode cX7_ticksTo 89 = .ok (.getfield 165, 3) := by decide +kernel
theorem dX7_ticksTo_92 : decode cX7_ticksTo 92 = .ok (.isub, 1) := by decide +kernel
theorem dX7_ticksTo_93 : decode cX7_ticksTo 93 = .ok (.ireturn, 1) := by decide +kernel
set_option maxRecDepth 20000 in
theorem ggX7_flowFor_X3_ticksLeft : GoodIn wsX7_flowFor wsX3_ticksLeft := goodIn_r _ [10, 11, 151, 152, 153, 154, 155, 156, 157, 158, 159, 160, 161, 162, 163, 164, 165] (by decide +kernel) (by decide +kernel)
set_option maxRecDepth 20000 in
theorem gX7_flowFor_X3_ticksLeft : GoodIn wsX7_flowFor (wsV RX7 131 RX3 yX3_ticksLeft wsX3_ticksLeft) := goodIn_app (goodIn_of _ (by decide +kernel)) ggX7_flowFor_X3_ticksLeft
set_option maxRecDepth 20000 in
theorem ggX7_flowFor_X3_copyFrom : GoodIn wsX7_flowFor wsX3_copyFrom := goodIn_r _ [15, 16, 17, 18, 19, 20, 21, 22, 23, 24, 25, 26, 27, 28, 29, 30, 31, 11, 32, 33, 34, 35, 36, 37, 38, 39, 40, 41, 42, 43, 44, 45, 46, 47, 48, 49, 50, 51, 52, 53, 54, 55, 56, 57, 58, 59, 60, 61, 62, 63, 64, 65, 66, 67, 68, 151, 152, 153, 154, 155, 156, 157, 158, 159, 160, 161, 162, 163, 164, 165, 166, 167, 168, 169, 170, 171, 172, 173, 174, 175, 176, 177, 178, 179, 180, 181, 182] (by decide +kernel) (by decide +kernel)
set_option maxRecDepth 20000 in
theorem gX7_flowFor_X3_copyFrom : GoodIn wsX7_flowFor (wsV RX7 213 RX3 yX3_copyFrom wsX3_copyFrom) := goodIn_app (goodIn_of _ (by decide +kernel)) ggX7_flowFor_X3_copyFrom
set_option maxRecDepth 20000 in
theorem ggX7_flowFor_X3_pass : GoodIn wsX7_flowFor wsX3_pass := goodIn_r _ [72, 73, 74, 75, 9, 76, 11, 32, 33, 18, 19, 30, 77, 78, 79, 80, 25, 16, 81, 17, 27, 82, 83, 84, 50, 85, 52, 86, 87, 88, 89, 26, 90, 91, 92, 93, 94, 37, 95, 39, 96, 97, 98, 99, 46, 43, 100, 101, 102, 103, 104, 105, 28, 29, 24, 106, 107, 108, 109, 41, 44, 45, 110, 111, 112, 113, 114, 115, 116, 117, 118, 119, 120, 121, 122, 123, 124, 125, 126, 127, 128, 129, 55, 130, 131, 132, 133, 54, 134, 135, 136, 137, 31, 138, 139, 140, 141, 142, 143, 144, 61, 145, 64, 63, 65, 67, 68, 151, 152, 153, 154, 155, 156, 157, 158, 159, 160, 161, 162, 163, 164, 165, 166, 167, 168, 169, 170, 171, 172, 173, 174, 175, 176, 177, 178, 179, 180, 181, 182] (by decide +kernel) (by decide +kernel)
set_option maxRecDepth 20000 in
theorem gX7_flowFor_X3_pass : GoodIn wsX7_flowFor (wsV RX7 135 RX3 yX3_pass wsX3_pass) := goodIn_app (goodIn_of _ (by decide +kernel)) ggX7_flowFor_X3_pass
theorem dX7_flowFor_0 : decode cX7_flowFor 0 = .ok (.iload_n 1, 1) := by decide +kernel
theorem dX7_flowFor_1 : decode cX7_flowFor 1 = .ok (.iconst 1, 1) := by decide +kernel
theorem dX7_flowFor_2 : decode cX7_flowFor 2 = .ok (.if_icmp .lt 10, 3) := by decide +kernel
theorem dX7_flowFor_5 : decode cX7_flowFor 5 = .ok (.iload_n 1, 1) := by decide +kernel
theorem dX7_flowFor_6 : decode cX7_flowFor 6 = .ok (.sipush 300, 3) := by decide +kernel
theorem dX7_flowFor_9 : decode cX7_flowFor 9 = .ok (.if_icmp .le 5, 3) := by decide +kernel
theorem dX7_flowFor_12 : decode cX7_flowFor 12 = .ok (.iconst (-1), 1) := by decide +kernel
theorem dX7_flowFor_13 : decode cX7_flowFor 13 = .ok (.ireturn, 1) := by decide +kernel
theorem dX7_flowFor_14 : decode cX7_flowFor 14 = .ok (.iload_n 1, 1) := by decide +kernel
theorem dX7_flowFor_15 : decode cX7_flowFor 15 = .ok (.aload_n 0, 1) := by decide +kernel
theorem dX7_flowFor_16 : decode cX7_flowFor 16 = .ok (.getfield 10, 3) := by decide +kernel
theorem dX7_flowFor_19 : decode cX7_flowFor 19 = .ok (.invokevirtual 131, 3) := by decide +kernel
theorem dX7_flowFor_22 : decode cX7_flowFor 22 = .ok (.if_icmp .le 6, 3) := by decide +kernel
theorem dX7_flowFor_25 : decode cX7_flowFor 25 = .ok (.bipush (-3), 2) := by decide +kernel
theorem dX7_flowFor_27 : decode cX7_flowFor 27 = .ok (.ireturn, 1) := by decide +kernel
theorem dX7_flowFor_28 : decode cX7_flowFor 28 = .ok (.bipush 10, 2) := by decide +kernel
theorem dX7_flowFor_30 : decode cX7_flowFor 30 = .ok (.istore_n 2, 1) := by decide +kernel
theorem dX7_flowFor_31 : decode cX7_flowFor 31 = .ok (.iconst (-1), 1) := by decide +kernel
theorem dX7_flowFor_32 : decode cX7_flowFor 32 = .ok (.istore_n 3, 1) := by decide +kernel
theorem dX7_flowFor_33 : decode cX7_flowFor 33 = .ok (.bipush 10, 2) := by decide +kernel
theorem dX7_flowFor_35 : decode cX7_flowFor 35 = .ok (.istore 4, 2) := by decide +kernel
theorem dX7_flowFor_37 : decode cX7_flowFor 37 = .ok (.iload 4, 2) := by decide +kernel
theorem dX7_flowFor_39 : decode cX7_flowFor 39 = .ok (.getstatic 109, 3) := by decide +kernel
theorem dX7_flowFor_42 : decode cX7_flowFor 42 = .ok (.iconst 3, 1) := by decide +kernel
theorem dX7_flowFor_43 : decode cX7_flowFor 43 = .ok (.iaload, 1) := by decide +kernel
theorem dX7_flowFor_44 : decode cX7_flowFor 44 = .ok (.if_icmp .gt 65, 3) := by decide +kernel
theorem dX7_flowFor_47 : decode cX7_flowFor 47 = .ok (.aload_n 0, 1) := by decide +kernel
theorem dX7_flowFor_48 : decode cX7_flowFor 48 = .ok (.getfield 16, 3) := by decide +kernel
theorem dX7_flowFor_51 : decode cX7_flowFor 51 = .ok (.aload_n 0, 1) := by decide +kernel
theorem dX7_flowFor_52 : decode cX7_flowFor 52 = .ok (.getfield 10, 3) := by decide +kernel
theorem dX7_flowFor_55 : decode cX7_flowFor 55 = .ok (.invokevirtual 213, 3) := by decide +kernel
theorem dX7_flowFor_58 : decode cX7_flowFor 58 = .ok (.aload_n 0, 1) := by decide +kernel
theorem dX7_flowFor_59 : decode cX7_flowFor 59 = .ok (.getfield 16, 3) := by decide +kernel
theorem dX7_flowFor_62 : decode cX7_flowFor 62 = .ok (.getfield 112, 3) := by decide +kernel
theorem dX7_flowFor_65 : decode cX7_flowFor 65 = .ok (.iconst 3, 1) := by decide +kernel
theorem dX7_flowFor_66 : decode cX7_flowFor 66 = .ok (.iload 4, 2) := by decide +kernel
theorem dX7_flowFor_68 : decode cX7_flowFor 68 = .ok (.iastore, 1) := by decide +kernel
theorem dX7_flowFor_69 : decode cX7_flowFor 69 = .ok (.aload_n 0, 1) := by decide +kernel
theorem dX7_flowFor_70 : decode cX7_flowFor 70 = .ok (.getfield 16, 3) := by decide +kernel
theorem dX7_flowFor_73 : decode cX7_flowFor 73 = .ok (.iload_n 1, 1) := by decide +kernel
theorem dX7_flowFor_74 : decode cX7_flowFor 74 = .ok (.invokevirtual 135, 3) := by decide +kernel
theorem dX7_flowFor_77 : decode cX7_flowFor 77 = .ok (.aload_n 0, 1) := by decide +kernel
theorem dX7_flowFor_78 : decode cX7_flowFor 78 = .ok (.getfield 16, 3) := by decide +kernel
theorem dX7_flowFor_81 : decode cX7_flowFor 81 = .ok (.getfield 180, 3) := by decide +kernel
theorem dX7_flowFor_84 : decode cX7_flowFor 84 = .ok (.iconst 1, 1) := by decide +kernel
theorem dX7_flowFor_85 : decode cX7_flowFor 85 = .ok (.iaload, 1) := by decide +kernel
theorem dX7_flowFor_86 : decode cX7_flowFor 86 = .ok (.iload_n 3, 1) := by decide +kernel
theorem dX7_flowFor_87 : decode cX7_flowFor 87 = .ok (.if_icmp .le 16, 3) := by decide +kernel
theorem dX7_flowFor_90 : decode cX7_flowFor 90 = .ok (.aload_n 0, 1) := by decide +kernel
theorem dX7_flowFor_91 : decode cX7_flowFor 91 = .ok (.getfield 16, 3) := by decide +kernel
theorem dX7_flowFor_94 : decode cX7_flowFor 94 = .ok (.getfield 180, 3) := by decide +kernel
theorem dX7_flowFor_97 : decode cX7_flowFor 97 = .ok (.iconst 1, 1) := by decide +kernel
theorem dX7_flowFor_98 : decode cX7_flowFor 98 = .ok (.iaload, 1) := by decide +kernel
theorem dX7_flowFor_99 : decode cX7_flowFor 99 = .ok (.istore_n 3, 1) := by decide +kernel
theorem dX7_flowFor_100 : decode cX7_flowFor 100 = .ok (.iload 4, 2) := by decide +kernel
theorem dX7_flowFor_102 : decode cX7_flowFor 102 = .ok (.istore_n 2, 1) := by decide +kernel
theorem dX7_flowFor_103 : decode cX7_flowFor 103 = .ok (.iinc 4 10, 3) := by decide +kernel
theorem dX7_flowFor_106 : decode cX7_flowFor 106 = .ok (.goto (-69), 3) := by decide +kernel
theorem dX7_flowFor_109 : decode cX7_flowFor 109 = .ok (.iload_n 2, 1) := by decide +kernel
theorem dX7_flowFor_110 : decode cX7_flowFor 110 = .ok (.ireturn, 1) := by decide +kernel
set_option maxRecDepth 20000 in
theorem ggX7_type_X5_isFull : GoodIn wsX7_type wsX5_isFull := goodIn_r _ [7, 8, 20, 21] (by decide +kernel) (by decide +kernel)
set_option maxRecDepth 20000 in
theorem gX7_type_X5_isFull : GoodIn wsX7_type (wsV RX7 219 RX5 yX5_isFull wsX5_isFull) := goodIn_app (goodIn_of _ (by decide +kernel)) ggX7_type_X5_isFull
set_option maxRecDepth 20000 in
theorem ggX7_type_X5_append : GoodIn wsX7_type wsX5_append := goodIn_r _ [12, 13, 8, 14, 4, 5, 6, 7, 20, 21] (by decide +kernel) (by decide +kernel)
set_option maxRecDepth 20000 in
theorem gX7_type_X5_append : GoodIn wsX7_type (wsV RX7 220 RX5 yX5_append wsX5_append) := goodIn_app (goodIn_of _ (by decide +kernel)) ggX7_type_X5_append
theorem dX7_type_0 : decode cX7_type 0 = .ok (.iload_n 1, 1) := by decide +kernel
theorem dX7_type_1 : decode cX7_type 1 = .ok (.bipush 32, 2) := by decide +kernel
theorem dX7_type_3 : decode cX7_type 3 = .ok (.if_icmp .lt 9, 3) := by decide +kernel
theorem dX7_type_6 : decode cX7_type 6 = .ok (.iload_n 1, 1) := by decide +kernel
theorem dX7_type_7 : decode cX7_type 7 = .ok (.bipush 126, 2) := by decide +kernel
theorem dX7_type_9 : decode cX7_type 9 = .ok (.if_icmp .le 5, 3) := by decide +kernel
theorem dX7_type_12 : decode cX7_type 12 = .ok (.iconst (-1), 1) := by decide +kernel
theorem dX7_type_13 : decode cX7_type 13 = .ok (.ireturn, 1) := by decide +kernel
theorem dX7_type_14 : decode cX7_type 14 = .ok (.aload_n 0, 1) := by decide +kernel
theorem dX7_type_15 : decode cX7_type 15 = .ok (.getfield 29, 3) := by decide +kernel
theorem dX7_type_18 : decode cX7_type 18 = .ok (.invokevirtual 219, 3) := by decide +kernel
theorem dX7_type_21 : decode cX7_type 21 = .ok (.ifCond .eq 6, 3) := by decide +kernel
theorem dX7_type_24 : decode cX7_type 24 = .ok (.bipush (-3), 2) := by decide +kernel
theorem dX7_type_26 : decode cX7_type 26 = .ok (.ireturn, 1) := by decide +kernel
theorem dX7_type_27 : decode cX7_type 27 = .ok (.aload_n 0, 1) := by decide +kernel
theorem dX7_type_28 : decode cX7_type 28 = .ok (.getfield 29, 3) := by decide +kernel
theorem dX7_type_31 : decode cX7_type 31 = .ok (.iload_n 1, 1) := by decide +kernel
theorem dX7_type_32 : decode cX7_type 32 = .ok (.i2c, 1) := by decide +kernel
theorem dX7_type_33 : decode cX7_type 33 = .ok (.invokevirtual 220, 3) := by decide +kernel
theorem dX7_type_36 : decode cX7_type 36 = .ok (.aload_n 0, 1) := by decide +kernel
theorem dX7_type_37 : decode cX7_type 37 = .ok (.getfield 29, 3) := by decide +kernel
theorem dX7_type_40 : decode cX7_type 40 = .ok (.getfield 177, 3) := by decide +kernel
theorem dX7_type_43 : decode cX7_type 43 = .ok (.ireturn, 1) := by decide +kernel
theorem dX7_clearText_0 : decode cX7_clearText 0 = .ok (.aload_n 0, 1) := by decide +kernel
theorem dX7_clearText_1 : decode cX7_clearText 1 = .ok (.getfield 29, 3) := by decide +kernel
theorem dX7_clearText_4 : decode cX7_clearText 4 = .ok (.getfield 177, 3) := by decide +kernel
theorem dX7_clearText_7 : decode cX7_clearText 7 = .ok (.istore_n 1, 1) := by decide +kernel
theorem dX7_clearText_8 : decode cX7_clearText 8 = .ok (.aload_n 0, 1) := by decide +kernel
theorem dX7_clearText_9 : decode cX7_clearText 9 = .ok (.getfield 29, 3) := by decide +kernel
theorem dX7_clearText_12 : decode cX7_clearText 12 = .ok (.iconst 0, 1) := by decide +kernel
theorem dX7_clearText_13 : decode cX7_clearText 13 = .ok (.putfield 177, 3) := by decide +kernel
theorem dX7_clearText_16 : decode cX7_clearText 16 = .ok (.iload_n 1, 1) := by decide +kernel
theorem dX7_clearText_17 : decode cX7_clearText 17 = .ok (.ireturn, 1) := by decide +kernel
set_option maxRecDepth 20000 in
theorem ggX7_fault_X4_read : GoodIn wsX7_fault wsX4_read := goodIn_r _ [12, 13, 14, 15, 16, 17, 18, 19, 20, 21, 22, 23, 24, 25, 26, 27, 28, 29, 30, 31, 32, 33, 34, 35, 36, 37, 11, 38, 39, 40, 41, 42, 43, 44, 45, 46, 47, 48, 49, 50, 51, 52, 53, 54, 55, 56, 57, 58, 59, 60, 61, 62, 63, 64, 65, 66, 67, 68, 69, 70, 71, 72, 73, 74, 75, 76, 77, 78, 79, 80, 81, 82, 83, 84, 85, 86, 87, 88, 89, 90, 91, 92, 93, 94, 95, 96, 97, 98, 99, 100, 101, 102, 103, 104, 105, 106, 107, 108, 109, 110, 111, 112, 113, 114, 115, 116, 117, 118, 119, 120, 121, 122, 123, 124, 125, 126, 127, 128, 129, 130, 131, 132, 133, 134, 135, 136, 137, 138, 139, 140, 141, 142, 143, 144, 145, 146, 147, 148, 169, 170, 171, 172, 173, 174, 175, 176, 177, 178, 179, 180, 181, 182, 183] (by decide +kernel) (by decide +kernel)
set_option maxRecDepth 20000 in
theorem gX7_fault_X4_read : GoodIn wsX7_fault (wsV RX7 224 RX4 yX4_read wsX4_read) := goodIn_app (goodIn_of _ (by decide +kernel)) ggX7_fault_X4_read
theorem dX7_fault_0 : decode cX7_fault 0 = .ok (.iload_n 1, 1) := by decide +kernel
theorem dX7_fault_1 : decode cX7_fault 1 = .ok (.ifCond .lt 8, 3) := by decide +kernel
theorem dX7_fault_4 : decode cX7_fault 4 = .ok (.iload_n 1, 1) := by decide +kernel
theorem dX7_fault_5 : decode cX7_fault 5 = .ok (.iconst 2, 1) := by decide +kernel
theorem dX7_fault_6 : decode cX7_fault 6 = .ok (.if_icmp .le 5, 3) := by decide +kernel
theorem dX7_fault_9 : decode cX7_fault 9 = .ok (.iconst (-1), 1) := by decide +kernel
theorem dX7_fault_10 : decode cX7_fault 10 = .ok (.ireturn, 1) := by decide +kernel
theorem dX7_fault_11 : decode cX7_fault 11 = .ok (.aload_n 0, 1) := by decide +kernel
theorem dX7_fault_12 : decode cX7_fault 12 = .ok (.getfield 36, 3) := by decide +kernel
theorem dX7_fault_15 : decode cX7_fault 15 = .ok (.aload_n 0, 1) := by decide +kernel
theorem dX7_fault_16 : decode cX7_fault 16 = .ok (.getfield 29, 3) := by decide +kernel
theorem dX7_fault_19 : decode cX7_fault 19 = .ok (.aload_n 0, 1) := by decide +kernel
theorem dX7_fault_20 : decode cX7_fault 20 = .ok (.getfield 10, 3) := by decide +kernel
theorem dX7_fault_23 : decode cX7_fault 23 = .ok (.getfield 46, 3) := by decide +kernel
theorem dX7_fault_26 : decode cX7_fault 26 = .ok (.invokevirtual 224, 3) := by decide +kernel
theorem dX7_fault_29 : decode cX7_fault 29 = .ok (.aload_n 0, 1) := by decide +kernel
theorem dX7_fault_30 : decode cX7_fault 30 = .ok (.getfield 36, 3) := by decide +kernel
theorem dX7_fault_33 : decode cX7_fault 33 = .ok (.getfield 228, 3) := by decide +kernel
theorem dX7_fault_36 : decode cX7_fault 36 = .ok (.ifCond .ne 6, 3) := by decide +kernel
theorem dX7_fault_39 : decode cX7_fault 39 = .ok (.bipush (-4), 2) := by decide +kernel
theorem dX7_fault_41 : decode cX7_fault 41 = .ok (.ireturn, 1) := by decide +kernel
theorem dX7_fault_42 : decode cX7_fault 42 = .ok (.iload_n 1, 1) := by decide +kernel
theorem dX7_fault_43 : decode cX7_fault 43 = .ok (.lookupswitch 41 #[(0, 25), (1, 33)], 25) := by decide +kernel
theorem dX7_fault_68 : decode cX7_fault 68 = .ok (.aload_n 0, 1) := by decide +kernel
theorem dX7_fault_69 : decode cX7_fault 69 = .ok (.getfield 36, 3) := by decide +kernel
theorem dX7_fault_72 : decode cX7_fault 72 = .ok (.getfield 229, 3) := by decide +kernel
theorem dX7_fault_75 : decode cX7_fault 75 = .ok (.ireturn, 1) := by decide +kernel
theorem dX7_fault_76 : decode cX7_fault 76 = .ok (.aload_n 0, 1) := by decide +kernel
theorem dX7_fault_77 : decode cX7_fault 77 = .ok (.getfield 36, 3) := by decide +kernel
theorem dX7_fault_80 : decode cX7_fault 80 = .ok (.getfield 228, 3) := by decide +kernel
theorem dX7_fault_83 : decode cX7_fault 83 = .ok (.ireturn, 1) := by decide +kernel
theorem dX7_fault_84 : decode cX7_fault 84 = .ok (.aload_n 0, 1) := by decide +kernel
theorem dX7_fault_85 : decode cX7_fault 85 = .ok (.getfield 36, 3) := by decide +kernel
theorem dX7_fault_88 : decode cX7_fault 88 = .ok (.getfield 232, 3) := by decide +kernel
theorem dX7_fault_91 : decode cX7_fault 91 = .ok (.ireturn, 1) := by decide +kernel
set_option maxRecDepth 20000 in
theorem ggX7_lay_X4_read : GoodIn wsX7_lay wsX4_read := goodIn_r _ [13, 14, 15, 16, 17, 18, 19, 20, 21, 22, 23, 24, 25, 26, 27, 28, 29, 30, 31, 32, 33, 34, 35, 36, 37, 38, 12, 39, 40, 41, 42, 43, 44, 45, 46, 47, 48, 49, 50, 51, 52, 53, 54, 55, 56, 57, 58, 59, 60, 61, 62, 63, 64, 65, 66, 67, 68, 69, 70, 71, 72, 73, 74, 75, 76, 77, 78, 79, 80, 81, 82, 83, 84, 85, 86, 87, 88, 89, 90, 91, 92, 93, 94, 95, 96, 97, 98, 99, 100, 101, 102, 103, 104, 105, 106, 107, 108, 109, 110, 111, 112, 113, 114, 115, 116, 117, 118, 119, 120, 121, 122, 123, 124, 125, 126, 127, 128, 129, 130, 131, 132, 133, 134, 135, 136, 137, 138, 139, 140, 141, 142, 143, 144, 145, 146, 147, 148, 149, 223, 224, 225, 226, 227, 228, 236, 237, 229, 230, 231, 232, 233, 234, 235] (by decide +kernel) (by decide +kernel)
set_option maxRecDepth 20000 in
theorem gX7_lay_X4_read : GoodIn wsX7_lay (wsV RX7 224 RX4 yX4_read wsX4_read) := goodIn_app (goodIn_of _ (by decide +kernel)) ggX7_lay_X4_read
set_option maxRecDepth 20000 in
theorem ggX7_lay_X1_keep : GoodIn wsX7_lay wsX1_keep := goodIn_r _ [154, 155, 156, 157, 158, 159, 160, 161, 162, 163, 164, 165, 166, 167, 29, 30, 31, 168, 169, 170, 171, 172, 173, 174, 175, 176, 177, 178, 179, 21, 22, 23, 24, 25, 26, 27, 28, 32, 33, 34, 35, 180, 181, 182, 183, 184, 185, 186, 187, 188, 189, 190, 191, 192, 193, 194, 195, 196, 197, 198, 199, 200, 201, 238, 239, 240, 208, 209, 210, 211, 212, 213, 214, 215, 216, 217, 218, 219, 220, 221, 222, 229, 230, 231, 232, 233, 234, 235, 241, 242, 243, 244, 245, 246, 247, 248, 249, 250] (by decide +kernel) (by decide +kernel)
set_option maxRecDepth 20000 in
theorem gX7_lay_X1_keep : GoodIn wsX7_lay (wsV RX7 54 RX1 yX1_keep wsX1_keep) := goodIn_app (goodIn_of _ (by decide +kernel)) ggX7_lay_X1_keep
set_option maxRecDepth 20000 in
theorem ggX7_lay_X0_copyFrom : GoodIn wsX7_lay wsX0_copyFrom := goodIn_r _ [24, 25, 26, 27, 28, 29, 30, 31, 32, 33, 34, 35, 229, 230, 231, 232, 233, 234, 235] (by decide +kernel) (by decide +kernel)
set_option maxRecDepth 20000 in
theorem gX7_lay_X0_copyFrom : GoodIn wsX7_lay (wsV RX7 236 RX0 yX0_copyFrom wsX0_copyFrom) := goodIn_app (goodIn_of _ (by decide +kernel)) ggX7_lay_X0_copyFrom
theorem dX7_lay_0 : decode cX7_lay 0 = .ok (.aload_n 0, 1) := by decide +kernel
theorem dX7_lay_1 : decode cX7_lay 1 = .ok (.getfield 36, 3) := by decide +kernel
theorem dX7_lay_4 : decode cX7_lay 4 = .ok (.aload_n 0, 1) := by decide +kernel
theorem dX7_lay_5 : decode cX7_lay 5 = .ok (.getfield 29, 3) := by decide +kernel
theorem dX7_lay_8 : decode cX7_lay 8 = .ok (.aload_n 0, 1) := by decide +kernel
theorem dX7_lay_9 : decode cX7_lay 9 = .ok (.getfield 10, 3) := by decide +kernel
theorem dX7_lay_12 : decode cX7_lay 12 = .ok (.getfield 46, 3) := by decide +kernel
theorem dX7_lay_15 : decode cX7_lay 15 = .ok (.invokevirtual 224, 3) := by decide +kernel
theorem dX7_lay_18 : decode cX7_lay 18 = .ok (.aload_n 0, 1) := by decide +kernel
theorem dX7_lay_19 : decode cX7_lay 19 = .ok (.getfield 36, 3) := by decide +kernel
theorem dX7_lay_22 : decode cX7_lay 22 = .ok (.getfield 228, 3) := by decide +kernel
theorem dX7_lay_25 : decode cX7_lay 25 = .ok (.ifCond .eq 6, 3) := by decide +kernel
theorem dX7_lay_28 : decode cX7_lay 28 = .ok (.bipush (-2), 2) := by decide +kernel
theorem dX7_lay_30 : decode cX7_lay 30 = .ok (.ireturn, 1) := by decide +kernel
theorem dX7_lay_31 : decode cX7_lay 31 = .ok (.aload_n 0, 1) := by decide +kernel
theorem dX7_lay_32 : decode cX7_lay 32 = .ok (.getfield 36, 3) := by decide +kernel
theorem dX7_lay_35 : decode cX7_lay 35 = .ok (.getfield 235, 3) := by decide +kernel
theorem dX7_lay_38 : decode cX7_lay 38 = .ok (.getfield 62, 3) := by decide +kernel
theorem dX7_lay_41 : decode cX7_lay 41 = .ok (.aload_n 0, 1) := by decide +kernel
theorem dX7_lay_42 : decode cX7_lay 42 = .ok (.getfield 10, 3) := by decide +kernel
theorem dX7_lay_45 : decode cX7_lay 45 = .ok (.getfield 46, 3) := by decide +kernel
theorem dX7_lay_48 : decode cX7_lay 48 = .ok (.getfield 62, 3) := by decide +kernel
theorem dX7_lay_51 : decode cX7_lay 51 = .ok (.isub, 1) := by decide +kernel
theorem dX7_lay_52 : decode cX7_lay 52 = .ok (.istore_n 1, 1) := by decide +kernel
theorem dX7_lay_53 : decode cX7_lay 53 = .ok (.aload_n 0, 1) := by decide +kernel
theorem dX7_lay_54 : decode cX7_lay 54 = .ok (.getfield 22, 3) := by decide +kernel
theorem dX7_lay_57 : decode cX7_lay 57 = .ok (.aload_n 0, 1) := by decide +kernel
theorem dX7_lay_58 : decode cX7_lay 58 = .ok (.getfield 10, 3) := by decide +kernel
theorem dX7_lay_61 : decode cX7_lay 61 = .ok (.invokevirtual 54, 3) := by decide +kernel
theorem dX7_lay_64 : decode cX7_lay 64 = .ok (.aload_n 0, 1) := by decide +kernel
theorem dX7_lay_65 : decode cX7_lay 65 = .ok (.getfield 10, 3) := by decide +kernel
theorem dX7_lay_68 : decode cX7_lay 68 = .ok (.getfield 46, 3) := by decide +kernel
theorem dX7_lay_71 : decode cX7_lay 71 = .ok (.aload_n 0, 1) := by decide +kernel
theorem dX7_lay_72 : decode cX7_lay 72 = .ok (.getfield 36, 3) := by decide +kernel
theorem dX7_lay_75 : decode cX7_lay 75 = .ok (.getfield 235, 3) := by decide +kernel
theorem dX7_lay_78 : decode cX7_lay 78 = .ok (.invokevirtual 236, 3) := by decide +kernel
theorem dX7_lay_81 : decode cX7_lay 81 = .ok (.iload_n 1, 1) := by decide +kernel
theorem dX7_lay_82 : decode cX7_lay 82 = .ok (.ireturn, 1) := by decide +kernel
theorem dX8_init_0 : decode cX8_init 0 = .ok (.aload_n 0, 1) := by decide +kernel
theorem dX8_init_1 : decode cX8_init 1 = .ok (.invokespecial 1, 3) := by decide +kernel
theorem dX8_init_4 : decode cX8_init 4 = .ok (.aload_n 0, 1) := by decide +kernel
theorem dX8_init_5 : decode cX8_init 5 = .ok (.sipush 246, 3) := by decide +kernel
theorem dX8_init_8 : decode cX8_init 8 = .ok (.newarray .int, 2) := by decide +kernel
theorem dX8_init_10 : decode cX8_init 10 = .ok (.putfield 7, 3) := by decide +kernel
theorem dX8_init_13 : decode cX8_init 13 = .ok (.aload_n 0, 1) := by decide +kernel
theorem dX8_init_14 : decode cX8_init 14 = .ok (.sipush 246, 3) := by decide +kernel
theorem dX8_init_17 : decode cX8_init 17 = .ok (.newarray .int, 2) := by decide +kernel
theorem dX8_init_19 : decode cX8_init 19 = .ok (.putfield 13, 3) := by decide +kernel
theorem dX8_init_22 : decode cX8_init 22 = .ok (.aload_n 0, 1) := by decide +kernel
theorem dX8_init_23 : decode cX8_init 23 = .ok (.sipush 1230, 3) := by decide +kernel
theorem dX8_init_26 : decode cX8_init 26 = .ok (.newarray .int, 2) := by decide +kernel
theorem dX8_init_28 : decode cX8_init 28 = .ok (.putfield 16, 3) := by decide +kernel
theorem dX8_init_31 : decode cX8_init 31 = .ok (.aload_n 0, 1) := by decide +kernel
theorem dX8_init_32 : decode cX8_init 32 = .ok (.bipush 100, 2) := by decide +kernel
theorem dX8_init_34 : decode cX8_init 34 = .ok (.newarray .int, 2) := by decide +kernel
theorem dX8_init_36 : decode cX8_init 36 = .ok (.putfield 19, 3) := by decide +kernel
theorem dX8_init_39 : decode cX8_init 39 = .ok (.aload_n 0, 1) := by decide +kernel
theorem dX8_init_40 : decode cX8_init 40 = .ok (.iconst 3, 1) := by decide +kernel
theorem dX8_init_41 : decode cX8_init 41 = .ok (.newarray .int, 2) := by decide +kernel
theorem dX8_init_43 : decode cX8_init 43 = .ok (.putfield 22, 3) := by decide +kernel
theorem dX8_init_46 : decode cX8_init 46 = .ok (.aload_n 0, 1) := by decide +kernel
theorem dX8_init_47 : decode cX8_init 47 = .ok (.getfield 7, 3) := by decide +kernel
theorem dX8_init_50 : decode cX8_init 50 = .ok (.iconst 0, 1) := by decide +kernel
theorem dX8_init_51 : decode cX8_init 51 = .ok (.bipush 100, 2) := by decide +kernel
theorem dX8_init_53 : decode cX8_init 53 = .ok (.iastore, 1) := by decide +kernel
theorem dX8_init_54 : decode cX8_init 54 = .ok (.aload_n 0, 1) := by decide +kernel
theorem dX8_init_55 : decode cX8_init 55 = .ok (.getfield 7, 3) := by decide +kernel
theorem dX8_init_58 : decode cX8_init 58 = .ok (.iconst 1, 1) := by decide +kernel
theorem dX8_init_59 : decode cX8_init 59 = .ok (.bipush 50, 2) := by decide +kernel
theorem dX8_init_61 : decode cX8_init 61 = .ok (.iastore, 1) := by decide +kernel
theorem dX8_init_62 : decode cX8_init 62 = .ok (.aload_n 0, 1) := by decide +kernel
theorem dX8_init_63 : decode cX8_init 63 = .ok (.getfield 7, 3) := by decide +kernel
theorem dX8_init_66 : decode cX8_init 66 = .ok (.iconst 2, 1) := by decide +kernel
theorem dX8_init_67 : decode cX8_init 67 = .ok (.sipush 2000, 3) := by decide +kernel
theorem dX8_init_70 : decode cX8_init 70 = .ok (.iastore, 1) := by decide +kernel
theorem dX8_init_71 : decode cX8_init 71 = .ok (.aload_n 0, 1) := by decide +kernel
theorem dX8_init_72 : decode cX8_init 72 = .ok (.getfield 7, 3) := by decide +kernel
theorem dX8_init_75 : decode cX8_init 75 = .ok (.iconst 3, 1) := by decide +kernel
theorem dX8_init_76 : decode cX8_init 76 = .ok (.bipush 60, 2) := by decide +kernel
theorem dX8_init_78 : decode cX8_init 78 = .ok (.iastore, 1) := by decide +kernel
theorem dX8_init_79 : decode cX8_init 79 = .ok (.aload_n 0, 1) := by decide +kernel
theorem dX8_init_80 : decode cX8_init 80 = .ok (.getfield 7, 3) := by decide +kernel
theorem dX8_init_83 : decode cX8_init 83 = .ok (.iconst 4, 1) := by decide +kernel
theorem dX8_init_84 : decode cX8_init 84 = .ok (.sipush 500, 3) := by decide +kernel
theorem dX8_init_87 : decode cX8_init 87 = .ok (.iastore, 1) := by decide +kernel
theorem dX8_init_88 : decode cX8_init 88 = .ok (.aload_n 0, 1) := by decide +kernel
theorem dX8_init_89 : decode cX8_init 89 = .ok (.getfield 7, 3) := by decide +kernel
theorem dX8_init_92 : decode cX8_init 92 = .ok (.iconst 5, 1) := by decide +kernel
theorem dX8_init_93 : decode cX8_init 93 = .ok (.bipush 40, 2) := by decide +kernel
theorem dX8_init_95 : decode cX8_init 95 = .ok (.iastore, 1) := by decide +kernel
theorem dX8_init_96 : decode cX8_init 96 = .ok (.aload_n 0, 1) := by decide +kernel
theorem dX8_init_97 : decode cX8_init 97 = .ok (.getfield 7, 3) := by decide +kernel
theorem dX8_init_100 : decode cX8_init 100 = .ok (.bipush 6, 2) := by decide +kernel
theorem dX8_init_102 : decode cX8_init 102 = .ok (.sipush 500, 3) := by decide +kernel
theorem dX8_init_105 : decode cX8_init 105 = .ok (.iastore, 1) := by decide +kernel
theorem dX8_init_106 : decode cX8_init 106 = .ok (.aload_n 0, 1) := by decide +kernel
theorem dX8_init_107 : decode cX8_init 107 = .ok (.getfield 7, 3) := by decide +kernel
theorem dX8_init_110 : decode cX8_init 110 = .ok (.bipush 7, 2) := by decide +kernel
theorem dX8_init_112 : decode cX8_init 112 = .ok (.iconst 5, 1) := by decide +kernel
theorem dX8_init_113 : decode cX8_init 113 = .ok (.iastore, 1) := by decide +kernel
theorem dX8_init_114 : decode cX8_init 114 = .ok (.return_, 1) := by decide +kernel
theorem dX8_in_0 : decode cX8_in 0 = .ok (.iload_n 0, 1) := by decide +kernel
theorem dX8_in_1 : decode cX8_in 1 = .ok (.iload_n 1, 1) := by decide +kernel
theorem dX8_in_2 : decode cX8_in 2 = .ok (.if_icmp .lt 12, 3) := by decide +kernel
theorem dX8_in_5 : decode cX8_in 5 = .ok (.iload_n 0, 1) := by decide +kernel
theorem dX8_in_6 : decode cX8_in 6 = .ok (.iload_n 2, 1) := by decide +kernel
theorem dX8_in_7 : decode cX8_in 7 = .ok (.if_icmp .gt 7, 3) := by decide +kernel
theorem dX8_in_10 : decode cX8_in 10 = .ok (.iconst 1, 1) := by decide +kernel
theorem dX8_in_11 : decode cX8_in 11 = .ok (.goto 4, 3) := by decide +kernel
theorem dX8_in_14 : decode cX8_in 14 = .ok (.iconst 0, 1) := by decide +kernel
theorem dX8_in_15 : decode cX8_in 15 = .ok (.ireturn, 1) := by decide +kernel
theorem dX8_lesser_0 : decode cX8_lesser 0 = .ok (.iload_n 0, 1) := by decide +kernel
theorem dX8_lesser_1 : decode cX8_lesser 1 = .ok (.iload_n 1, 1) := by decide +kernel
theorem dX8_lesser_2 : decode cX8_lesser 2 = .ok (.if_icmp .ge 7, 3) := by decide +kernel
theorem dX8_lesser_5 : decode cX8_lesser 5 = .ok (.iload_n 0, 1) := by decide +kernel
theorem dX8_lesser_6 : decode cX8_lesser 6 = .ok (.goto 4, 3) := by decide +kernel
theorem dX8_lesser_9 : decode cX8_lesser 9 = .ok (.iload_n 1, 1) := by decide +kernel
theorem dX8_lesser_10 : decode cX8_lesser 10 = .ok (.ireturn, 1) := by decide +kernel
theorem dX8_bring_0 : decode cX8_bring 0 = .ok (.iconst 0, 1) := by decide +kernel
theorem dX8_bring_1 : decode cX8_bring 1 = .ok (.istore 4, 2) := by decide +kernel
theorem dX8_bring_3 : decode cX8_bring 3 = .ok (.iload 4, 2) := by decide +kernel
theorem dX8_bring_5 : decode cX8_bring 5 = .ok (.sipush 246, 3) := by decide +kernel
theorem dX8_bring_8 : decode cX8_bring 8 = .ok (.if_icmp .ge 21, 3) := by decide +kernel
theorem dX8_bring_11 : decode cX8_bring 11 = .ok (.aload_n 2, 1) := by decide +kernel
theorem dX8_bring_12 : decode cX8_bring 12 = .ok (.iload_n 3, 1) := by decide +kernel
theorem dX8_bring_13 : decode cX8_bring 13 = .ok (.iload 4, 2) := by decide +kernel
theorem dX8_bring_15 : decode cX8_bring 15 = .ok (.iadd, 1) := by decide +kernel
theorem dX8_bring_16 : decode cX8_bring 16 = .ok (.aload_n 0, 1) := by decide +kernel
theorem dX8_bring_17 : decode cX8_bring 17 = .ok (.iload_n 1, 1) := by decide +kernel
theorem dX8_bring_18 : decode cX8_bring 18 = .ok (.iload 4, 2) := by decide +kernel
theorem dX8_bring_20 : decode cX8_bring 20 = .ok (.iadd, 1) := by decide +kernel
theorem dX8_bring_21 : decode cX8_bring 21 = .ok (.iaload, 1) := by decide +kernel
theorem dX8_bring_22 : decode cX8_bring 22 = .ok (.iastore, 1) := by decide +kernel
theorem dX8_bring_23 : decode cX8_bring 23 = .ok (.iinc 4 1, 3) := by decide +kernel
theorem dX8_bring_26 : decode cX8_bring 26 = .ok (.goto (-23), 3) := by decide +kernel
theorem dX8_bring_29 : decode cX8_bring 29 = .ok (.return_, 1) := by decide +kernel
set_option maxRecDepth 20000 in
theorem ggX8_record_X8_bring : GoodIn wsX8_record wsX8_bring := goodIn_r _ [7] (by decide +kernel) (by decide +kernel)
set_option maxRecDepth 20000 in
theorem gX8_record_X8_bring : GoodIn wsX8_record (va_wsS RX8 29 yX8_bring wsX8_bring) := goodIn_app (goodIn_of _ (by decide +kernel)) ggX8_record_X8_bring
theorem dX8_record_0 : decode cX8_record 0 = .ok (.aload_n 0, 1) := by decide +kernel
theorem dX8_record_1 : decode cX8_record 1 = .ok (.getfield 25, 3) := by decide +kernel
theorem dX8_record_4 : decode cX8_record 4 = .ok (.iconst 5, 1) := by decide +kernel
theorem dX8_record_5 : decode cX8_record 5 = .ok (.if_icmp .ne 44, 3) := by decide +kernel
theorem dX8_record_8 : decode cX8_record 8 = .ok (.iconst 0, 1) := by decide +kernel
theorem dX8_record_9 : decode cX8_record 9 = .ok (.istore_n 1, 1) := by decide +kernel
theorem dX8_record_10 : decode cX8_record 10 = .ok (.iload_n 1, 1) := by decide +kernel
theorem dX8_record_11 : decode cX8_record 11 = .ok (.sipush 984, 3) := by decide +kernel
theorem dX8_record_14 : decode cX8_record 14 = .ok (.if_icmp .ge 25, 3) := by decide +kernel
theorem dX8_record_17 : decode cX8_record 17 = .ok (.aload_n 0, 1) := by decide +kernel
theorem dX8_record_18 : decode cX8_record 18 = .ok (.getfield 16, 3) := by decide +kernel
theorem dX8_record_21 : decode cX8_record 21 = .ok (.iload_n 1, 1) := by decide +kernel
theorem dX8_record_22 : decode cX8_record 22 = .ok (.aload_n 0, 1) := by decide +kernel
theorem dX8_record_23 : decode cX8_record 23 = .ok (.getfield 16, 3) := by decide +kernel
theorem dX8_record_26 : decode cX8_record 26 = .ok (.iload_n 1, 1) := by decide +kernel
theorem dX8_record_27 : decode cX8_record 27 = .ok (.sipush 246, 3) := by decide +kernel
theorem dX8_record_30 : decode cX8_record 30 = .ok (.iadd, 1) := by decide +kernel
theorem dX8_record_31 : decode cX8_record 31 = .ok (.iaload, 1) := by decide +kernel
theorem dX8_record_32 : decode cX8_record 32 = .ok (.iastore, 1) := by decide +kernel
theorem dX8_record_33 : decode cX8_record 33 = .ok (.iinc 1 1, 3) := by decide +kernel
theorem dX8_record_36 : decode cX8_record 36 = .ok (.goto (-26), 3) := by decide +kernel
theorem dX8_record_39 : decode cX8_record 39 = .ok (.aload_n 0, 1) := by decide +kernel
theorem dX8_record_40 : decode cX8_record 40 = .ok (.dup, 1) := by decide +kernel
theorem dX8_record_41 : decode cX8_record 41 = .ok (.getfield 25, 3) := by decide +kernel
theorem dX8_record_44 : decode cX8_record 44 = .ok (.iconst 1, 1) := by decide +kernel
theorem dX8_record_45 : decode cX8_record 45 = .ok (.isub, 1) := by decide +kernel
theorem dX8_record_46 : decode cX8_record 46 = .ok (.putfield 25, 3) := by decide +kernel
theorem dX8_record_49 : decode cX8_record 49 = .ok (.aload_n 0, 1) := by decide +kernel
theorem dX8_record_50 : decode cX8_record 50 = .ok (.getfield 7, 3) := by decide +kernel
theorem dX8_record_53 : decode cX8_record 53 = .ok (.iconst 0, 1) := by decide +kernel
theorem dX8_record_54 : decode cX8_record 54 = .ok (.aload_n 0, 1) := by decide +kernel
theorem dX8_record_55 : decode cX8_record 55 = .ok (.getfield 16, 3) := by decide +kernel
theorem dX8_record_58 : decode cX8_record 58 = .ok (.sipush 246, 3) := by decide +kernel
theorem dX8_record_61 : decode cX8_record 61 = .ok (.aload_n 0, 1) := by decide +kernel
theorem dX8_record_62 : decode cX8_record 62 = .ok (.getfield 25, 3) := by decide +kernel
theorem dX8_record_65 : decode cX8_record 65 = .ok (.imul, 1) := by decide +kernel
theorem dX8_record_66 : decode cX8_record 66 = .ok (.invokestatic 29, 3) := by decide +kernel
theorem dX8_record_69 : decode cX8_record 69 = .ok (.aload_n 0, 1) := by decide +kernel
theorem dX8_record_70 : decode cX8_record 70 = .ok (.dup, 1) := by decide +kernel
theorem dX8_record_71 : decode cX8_record 71 = .ok (.getfield 25, 3) := by decide +kernel
theorem dX8_record_74 : decode cX8_record 74 = .ok (.iconst 1, 1) := by decide +kernel
theorem dX8_record_75 : decode cX8_record 75 = .ok (.iadd, 1) := by decide +kernel
theorem dX8_record_76 : decode cX8_record 76 = .ok (.putfield 25, 3) := by decide +kernel
theorem dX8_record_79 : decode cX8_record 79 = .ok (.return_, 1) := by decide +kernel
set_option maxRecDepth 20000 in
theorem ggX8_isSegment_X8_in : GoodIn wsX8_isSegment wsX8_in := goodIn_r _ [5] (by decide +kernel) (by decide +kernel)
set_option maxRecDepth 20000 in
theorem gX8_isSegment_X8_in : GoodIn wsX8_isSegment (va_wsS RX8 33 yX8_in wsX8_in) := goodIn_app (goodIn_of _ (by decide +kernel)) ggX8_isSegment_X8_in
theorem dX8_isSegment_0 : decode cX8_isSegment 0 = .ok (.iload_n 1, 1) := by decide +kernel
theorem dX8_isSegment_1 : decode cX8_isSegment 1 = .ok (.iconst 0, 1) := by decide +kernel
theorem dX8_isSegment_2 : decode cX8_isSegment 2 = .ok (.aload_n 0, 1) := by decide +kernel
theorem dX8_isSegment_3 : decode cX8_isSegment 3 = .ok (.getfield 7, 3) := by decide +kernel
theorem dX8_isSegment_6 : decode cX8_isSegment 6 = .ok (.bipush 8, 2) := by decide +kernel
theorem dX8_isSegment_8 : decode cX8_isSegment 8 = .ok (.iaload, 1) := by decide +kernel
theorem dX8_isSegment_9 : decode cX8_isSegment 9 = .ok (.iconst 1, 1) := by decide +kernel
theorem dX8_isSegment_10 : decode cX8_isSegment 10 = .ok (.isub, 1) := by decide +kernel
theorem dX8_isSegment_11 : decode cX8_isSegment 11 = .ok (.invokestatic 33, 3) := by decide +kernel
theorem dX8_isSegment_14 : decode cX8_isSegment 14 = .ok (.ireturn, 1) := by decide +kernel
theorem dX8_of_0 : decode cX8_of 0 = .ok (.aload_n 0, 1) := by decide +kernel
theorem dX8_of_1 : decode cX8_of 1 = .ok (.getfield 7, 3) := by decide +kernel
theorem dX8_of_4 : decode cX8_of 4 = .ok (.bipush 46, 2) := by decide +kernel
theorem dX8_of_6 : decode cX8_of 6 = .ok (.iconst 4, 1) := by decide +kernel
theorem dX8_of_7 : decode cX8_of 7 = .ok (.iload_n 1, 1) := by decide +kernel
theorem dX8_of_8 : decode cX8_of 8 = .ok (.imul, 1) := by decide +kernel
theorem dX8_of_9 : decode cX8_of 9 = .ok (.iadd, 1) := by decide +kernel
theorem dX8_of_10 : decode cX8_of 10 = .ok (.iload_n 2, 1) := by decide +kernel
theorem dX8_of_11 : decode cX8_of 11 = .ok (.iadd, 1) := by decide +kernel
theorem dX8_of_12 : decode cX8_of 12 = .ok (.iaload, 1) := by decide +kernel
theorem dX8_of_13 : decode cX8_of 13 = .ok (.ireturn, 1) := by decide +kernel
theorem dX8_ofLine_0 : decode cX8_ofLine 0 = .ok (.aload_n 0, 1) := by decide +kernel
theorem dX8_ofLine_1 : decode cX8_ofLine 1 = .ok (.getfield 7, 3) := by decide +kernel
theorem dX8_ofLine_4 : decode cX8_ofLine 4 = .ok (.bipush 26, 2) := by decide +kernel
theorem dX8_ofLine_6 : decode cX8_ofLine 6 = .ok (.iconst 5, 1) := by decide +kernel
theorem dX8_ofLine_7 : decode cX8_ofLine 7 = .ok (.iload_n 1, 1) := by decide +kernel
theorem dX8_ofLine_8 : decode cX8_ofLine 8 = .ok (.imul, 1) := by decide +kernel
theorem dX8_ofLine_9 : decode cX8_ofLine 9 = .ok (.iadd, 1) := by decide +kernel
theorem dX8_ofLine_10 : decode cX8_ofLine 10 = .ok (.iload_n 2, 1) := by decide +kernel
theorem dX8_ofLine_11 : decode cX8_ofLine 11 = .ok (.iadd, 1) := by decide +kernel
theorem dX8_ofLine_12 : decode cX8_ofLine 12 = .ok (.iaload, 1) := by decide +kernel
theorem dX8_ofLine_13 : decode cX8_ofLine 13 = .ok (.ireturn, 1) := by decide +kernel
set_option maxRecDepth 20000 in
theorem ggX8_lower_X8_of : GoodIn wsX8_lower wsX8_of := goodIn_r _ [5, 6, 7, 8, 9, 10, 11, 12, 13, 14, 15, 16, 17] (by decide +kernel) (by decide +kernel)
set_option maxRecDepth 20000 in
theorem gX8_lower_X8_of : GoodIn wsX8_lower (wsV RX8 37 RX8 yX8_of wsX8_of) := goodIn_app (goodIn_of _ (by decide +kernel)) ggX8_lower_X8_of
theorem dX8_lower_0 : decode cX8_lower 0 = .ok (.iconst 0, 1) := by decide +kernel
theorem dX8_lower_1 : decode cX8_lower 1 = .ok (.istore_n 2, 1) := by decide +kernel
theorem dX8_lower_2 : decode cX8_lower 2 = .ok (.iconst 0, 1) := by decide +kernel
theorem dX8_lower_3 : decode cX8_lower 3 = .ok (.istore_n 3, 1) := by decide +kernel
theorem dX8_lower_4 : decode cX8_lower 4 = .ok (.iload_n 3, 1) := by decide +kernel
theorem dX8_lower_5 : decode cX8_lower 5 = .ok (.iload_n 1, 1) := by decide +kernel
theorem dX8_lower_6 : decode cX8_lower 6 = .ok (.if_icmp .ge 18, 3) := by decide +kernel
theorem dX8_lower_9 : decode cX8_lower 9 = .ok (.iload_n 2, 1) := by decide +kernel
theorem dX8_lower_10 : decode cX8_lower 10 = .ok (.aload_n 0, 1) := by decide +kernel
theorem dX8_lower_11 : decode cX8_lower 11 = .ok (.iload_n 3, 1) := by decide +kernel
theorem dX8_lower_12 : decode cX8_lower 12 = .ok (.iconst 1, 1) := by decide +kernel
theorem dX8_lower_13 : decode cX8_lower 13 = .ok (.invokevirtual 37, 3) := by decide +kernel
theorem dX8_lower_16 : decode cX8_lower 16 = .ok (.iadd, 1) := by decide +kernel
theorem dX8_lower_17 : decode cX8_lower 17 = .ok (.istore_n 2, 1) := by decide +kernel
theorem dX8_lower_18 : decode cX8_lower 18 = .ok (.iinc 3 1, 3) := by decide +kernel
theorem dX8_lower_21 : decode cX8_lower 21 = .ok (.goto (-17), 3) := by decide +kernel
theorem dX8_lower_24 : decode cX8_lower 24 = .ok (.iload_n 2, 1) := by decide +kernel
theorem dX8_lower_25 : decode cX8_lower 25 = .ok (.ireturn, 1) := by decide +kernel
set_option maxRecDepth 20000 in
theorem ggX8_length_X8_lower : GoodIn wsX8_length wsX8_lower := goodIn_r _ [6, 7, 8, 9, 5, 10, 1, 11, 12, 13, 14, 15, 16, 17, 18, 19, 20, 21] (by decide +kernel) (by decide +kernel)
set_option maxRecDepth 20000 in
theorem gX8_length_X8_lower : GoodIn wsX8_length (wsV RX8 41 RX8 yX8_lower wsX8_lower) := goodIn_app (goodIn_of _ (by decide +kernel)) ggX8_length_X8_lower
theorem dX8_length_0 : decode cX8_length 0 = .ok (.aload_n 0, 1) := by decide +kernel
theorem dX8_length_1 : decode cX8_length 1 = .ok (.aload_n 0, 1) := by decide +kernel
theorem dX8_length_2 : decode cX8_length 2 = .ok (.getfield 7, 3) := by decide +kernel
theorem dX8_length_5 : decode cX8_length 5 = .ok (.bipush 8, 2) := by decide +kernel
theorem dX8_length_7 : decode cX8_length 7 = .ok (.iaload, 1) := by decide +kernel
theorem dX8_length_8 : decode cX8_length 8 = .ok (.invokevirtual 41, 3) := by decide +kernel
theorem dX8_length_11 : decode cX8_length 11 = .ok (.ireturn, 1) := by decide +kernel
set_option maxRecDepth 20000 in
theorem ggX8_segmentOf_X8_lower : GoodIn wsX8_segmentOf wsX8_lower := goodIn_r _ [6, 7, 8, 9, 5, 10, 1, 11, 12, 13, 14, 15, 16, 17, 18, 19, 20, 21] (by decide +kernel) (by decide +kernel)
set_option maxRecDepth 20000 in
theorem gX8_segmentOf_X8_lower : GoodIn wsX8_segmentOf (wsV RX8 41 RX8 yX8_lower wsX8_lower) := goodIn_app (goodIn_of _ (by decide +kernel)) ggX8_segmentOf_X8_lower
theorem dX8_segmentOf_0 : decode cX8_segmentOf 0 = .ok (.iconst 0, 1) := by decide +kernel
theorem dX8_segmentOf_1 : decode cX8_segmentOf 1 = .ok (.istore_n 2, 1) := by decide +kernel
theorem dX8_segmentOf_2 : decode cX8_segmentOf 2 = .ok (.iload_n 2, 1) := by decide +kernel
theorem dX8_segmentOf_3 : decode cX8_segmentOf 3 = .ok (.aload_n 0, 1) := by decide +kernel
theorem dX8_segmentOf_4 : decode cX8_segmentOf 4 = .ok (.getfield 7, 3) := by decide +kernel
theorem dX8_segmentOf_7 : decode cX8_segmentOf 7 = .ok (.bipush 8, 2) := by decide +kernel
theorem dX8_segmentOf_9 : decode cX8_segmentOf 9 = .ok (.iaload, 1) := by decide +kernel
theorem dX8_segmentOf_10 : decode cX8_segmentOf 10 = .ok (.if_icmp .ge 22, 3) := by decide +kernel
theorem dX8_segmentOf_13 : decode cX8_segmentOf 13 = .ok (.iload_n 1, 1) := by decide +kernel
theorem dX8_segmentOf_14 : decode cX8_segmentOf 14 = .ok (.aload_n 0, 1) := by decide +kernel
theorem dX8_segmentOf_15 : decode cX8_segmentOf 15 = .ok (.iload_n 2, 1) := by decide +kernel
theorem dX8_segmentOf_16 : decode cX8_segmentOf 16 = .ok (.iconst 1, 1) := by decide +kernel
theorem dX8_segmentOf_17 : decode cX8_segmentOf 17 = .ok (.iadd, 1) := by decide +kernel
theorem dX8_segmentOf_18 : decode cX8_segmentOf 18 = .ok (.invokevirtual 41, 3) := by decide +kernel
theorem dX8_segmentOf_21 : decode cX8_segmentOf 21 = .ok (.if_icmp .ge 5, 3) := by decide +kernel
theorem dX8_segmentOf_24 : decode cX8_segmentOf 24 = .ok (.iload_n 2, 1) := by decide +kernel
theorem dX8_segmentOf_25 : decode cX8_segmentOf 25 = .ok (.ireturn, 1) := by decide +kernel
theorem dX8_segmentOf_26 : decode cX8_segmentOf 26 = .ok (.iinc 2 1, 3) := by decide +kernel
theorem dX8_segmentOf_29 : decode cX8_segmentOf 29 = .ok (.goto (-27), 3) := by decide +kernel
theorem dX8_segmentOf_32 : decode cX8_segmentOf 32 = .ok (.bipush (-4), 2) := by decide +kernel
theorem dX8_segmentOf_34 : decode cX8_segmentOf 34 = .ok (.ireturn, 1) := by decide +kernel
set_option maxRecDepth 20000 in
theorem ggX8_isDensity_X8_in : GoodIn wsX8_isDensity wsX8_in := goodIn_r _ [4] (by decide +kernel) (by decide +kernel)
set_option maxRecDepth 20000 in
theorem gX8_isDensity_X8_in : GoodIn wsX8_isDensity (va_wsS RX8 33 yX8_in wsX8_in) := goodIn_app (goodIn_of _ (by decide +kernel)) ggX8_isDensity_X8_in
theorem dX8_isDensity_0 : decode cX8_isDensity 0 = .ok (.iload_n 0, 1) := by decide +kernel
theorem dX8_isDensity_1 : decode cX8_isDensity 1 = .ok (.bipush 60, 2) := by decide +kernel
theorem dX8_isDensity_3 : decode cX8_isDensity 3 = .ok (.bipush 92, 2) := by decide +kernel
theorem dX8_isDensity_5 : decode cX8_isDensity 5 = .ok (.invokestatic 33, 3) := by decide +kernel
theorem dX8_isDensity_8 : decode cX8_isDensity 8 = .ok (.ireturn, 1) := by decide +kernel
set_option maxRecDepth 20000 in
theorem ggX8_isKind_X8_isDensity : GoodIn wsX8_isKind wsX8_isDensity := goodIn_r _ [4, 5, 6, 3, 7] (by decide +kernel) (by decide +kernel)
set_option maxRecDepth 20000 in
theorem gX8_isKind_X8_isDensity : GoodIn wsX8_isKind (va_wsS RX8 45 yX8_isDensity wsX8_isDensity) := goodIn_app (goodIn_of _ (by decide +kernel)) ggX8_isKind_X8_isDensity
set_option maxRecDepth 20000 in
theorem ggX8_isKind_X8_in : GoodIn wsX8_isKind wsX8_in := goodIn_r _ [7] (by decide +kernel) (by decide +kernel)
set_option maxRecDepth 20000 in
theorem gX8_isKind_X8_in : GoodIn wsX8_isKind (va_wsS RX8 33 yX8_in wsX8_in) := goodIn_app (goodIn_of _ (by decide +kernel)) ggX8_isKind_X8_in
theorem dX8_isKind_0 : decode cX8_isKind 0 = .ok (.iload_n 0, 1) := by decide +kernel
theorem dX8_isKind_1 : decode cX8_isKind 1 = .ok (.tableswitch 87 0 2 #[27, 50, 64], 27) := by decide +kernel
theorem dX8_isKind_28 : decode cX8_isKind 28 = .ok (.iload_n 1, 1) := by decide +kernel
theorem dX8_isKind_29 : decode cX8_isKind 29 = .ok (.invokestatic 45, 3) := by decide +kernel
theorem dX8_isKind_32 : decode cX8_isKind 32 = .ok (.ifCond .eq 17, 3) := by decide +kernel
theorem dX8_isKind_35 : decode cX8_isKind 35 = .ok (.iload_n 2, 1) := by decide +kernel
theorem dX8_isKind_36 : decode cX8_isKind 36 = .ok (.iconst 0, 1) := by decide +kernel
theorem dX8_isKind_37 : decode cX8_isKind 37 = .ok (.bipush 50, 2) := by decide +kernel
theorem dX8_isKind_39 : decode cX8_isKind 39 = .ok (.invokestatic 33, 3) := by decide +kernel
theorem dX8_isKind_42 : decode cX8_isKind 42 = .ok (.ifCond .eq 7, 3) := by decide +kernel
theorem dX8_isKind_45 : decode cX8_isKind 45 = .ok (.iconst 1, 1) := by decide +kernel
theorem dX8_isKind_46 : decode cX8_isKind 46 = .ok (.goto 4, 3) := by decide +kernel
theorem dX8_isKind_49 : decode cX8_isKind 49 = .ok (.iconst 0, 1) := by decide +kernel
theorem dX8_isKind_50 : decode cX8_isKind 50 = .ok (.ireturn, 1) := by decide +kernel
theorem dX8_isKind_51 : decode cX8_isKind 51 = .ok (.iload_n 1, 1) := by decide +kernel
theorem dX8_isKind_52 : decode cX8_isKind 52 = .ok (.ifCond .ne 11, 3) := by decide +kernel
theorem dX8_isKind_55 : decode cX8_isKind 55 = .ok (.iload_n 2, 1) := by decide +kernel
theorem dX8_isKind_56 : decode cX8_isKind 56 = .ok (.ifCond .ne 7, 3) := by decide +kernel
theorem dX8_isKind_59 : decode cX8_isKind 59 = .ok (.iconst 1, 1) := by decide +kernel
theorem dX8_isKind_60 : decode cX8_isKind 60 = .ok (.goto 4, 3) := by decide +kernel
theorem dX8_isKind_63 : decode cX8_isKind 63 = .ok (.iconst 0, 1) := by decide +kernel
theorem dX8_isKind_64 : decode cX8_isKind 64 = .ok (.ireturn, 1) := by decide +kernel
theorem dX8_isKind_65 : decode cX8_isKind 65 = .ok (.iload_n 1, 1) := by decide +kernel
theorem dX8_isKind_66 : decode cX8_isKind 66 = .ok (.invokestatic 45, 3) := by decide +kernel
theorem dX8_isKind_69 : decode cX8_isKind 69 = .ok (.ifCond .eq 17, 3) := by decide +kernel
theorem dX8_isKind_72 : decode cX8_isKind 72 = .ok (.iload_n 2, 1) := by decide +kernel
theorem dX8_isKind_73 : decode cX8_isKind 73 = .ok (.iconst 1, 1) := by decide +kernel
theorem dX8_isKind_74 : decode cX8_isKind 74 = .ok (.bipush 100, 2) := by decide +kernel
theorem dX8_isKind_76 : decode cX8_isKind 76 = .ok (.invokestatic 33, 3) := by decide +kernel
theorem dX8_isKind_79 : decode cX8_isKind 79 = .ok (.ifCond .eq 7, 3) := by decide +kernel
theorem dX8_isKind_82 : decode cX8_isKind 82 = .ok (.iconst 1, 1) := by decide +kernel
theorem dX8_isKind_83 : decode cX8_isKind 83 = .ok (.goto 4, 3) := by decide +kernel
theorem dX8_isKind_86 : decode cX8_isKind 86 = .ok (.iconst 0, 1) := by decide +kernel
theorem dX8_isKind_87 : decode cX8_isKind 87 = .ok (.ireturn, 1) := by decide +kernel
theorem dX8_isKind_88 : decode cX8_isKind 88 = .ok (.iconst 0, 1) := by decide +kernel
theorem dX8_isKind_89 : decode cX8_isKind 89 = .ok (.ireturn, 1) := by decide +kernel
theorem dX8_puts_0 : decode cX8_puts 0 = .ok (.bipush 46, 2) := by decide +kernel
theorem dX8_puts_2 : decode cX8_puts 2 = .ok (.iconst 4, 1) := by decide +kernel
theorem dX8_puts_3 : decode cX8_puts 3 = .ok (.aload_n 0, 1) := by decide +kernel
theorem dX8_puts_4 : decode cX8_puts 4 = .ok (.getfield 7, 3) := by decide +kernel
theorem dX8_puts_7 : decode cX8_puts 7 = .ok (.bipush 8, 2) := by decide +kernel
theorem dX8_puts_9 : decode cX8_puts 9 = .ok (.iaload, 1) := by decide +kernel
theorem dX8_puts_10 : decode cX8_puts 10 = .ok (.imul, 1) := by decide +kernel
theorem dX8_puts_11 : decode cX8_puts 11 = .ok (.iadd, 1) := by decide +kernel
theorem dX8_puts_12 : decode cX8_puts 12 = .ok (.istore 5, 2) := by decide +kernel
theorem dX8_puts_14 : decode cX8_puts 14 = .ok (.aload_n 0, 1) := by decide +kernel
theorem dX8_puts_15 : decode cX8_puts 15 = .ok (.getfield 7, 3) := by decide +kernel
theorem dX8_puts_18 : decode cX8_puts 18 = .ok (.iload 5, 2) := by decide +kernel
theorem dX8_puts_20 : decode cX8_puts 20 = .ok (.iload_n 1, 1) := by decide +kernel
theorem dX8_puts_21 : decode cX8_puts 21 = .ok (.iastore, 1) := by decide +kernel
theorem dX8_puts_22 : decode cX8_puts 22 = .ok (.aload_n 0, 1) := by decide +kernel
theorem dX8_puts_23 : decode cX8_puts 23 = .ok (.getfield 7, 3) := by decide +kernel
theorem dX8_puts_26 : decode cX8_puts 26 = .ok (.iload 5, 2) := by decide +kernel
theorem dX8_puts_28 : decode cX8_puts 28 = .ok (.iconst 1, 1) := by decide +kernel
theorem dX8_puts_29 : decode cX8_puts 29 = .ok (.iadd, 1) := by decide +kernel
theorem dX8_puts_30 : decode cX8_puts 30 = .ok (.iload_n 2, 1) := by decide +kernel
theorem dX8_puts_31 : decode cX8_puts 31 = .ok (.iastore, 1) := by decide +kernel
theorem dX8_puts_32 : decode cX8_puts 32 = .ok (.aload_n 0, 1) := by decide +kernel
theorem dX8_puts_33 : decode cX8_puts 33 = .ok (.getfield 7, 3) := by decide +kernel
theorem dX8_puts_36 : decode cX8_puts 36 = .ok (.iload 5, 2) := by decide +kernel
theorem dX8_puts_38 : decode cX8_puts 38 = .ok (.iconst 2, 1) := by decide +kernel
theorem dX8_puts_39 : decode cX8_puts 39 = .ok (.iadd, 1) := by decide +kernel
theorem dX8_puts_40 : decode cX8_puts 40 = .ok (.iload_n 3, 1) := by decide +kernel
theorem dX8_puts_41 : decode cX8_puts 41 = .ok (.iastore, 1) := by decide +kernel
theorem dX8_puts_42 : decode cX8_puts 42 = .ok (.aload_n 0, 1) := by decide +kernel
theorem dX8_puts_43 : decode cX8_puts 43 = .ok (.getfield 7, 3) := by decide +kernel
theorem dX8_puts_46 : decode cX8_puts 46 = .ok (.iload 5, 2) := by decide +kernel
theorem dX8_puts_48 : decode cX8_puts 48 = .ok (.iconst 3, 1) := by decide +kernel
theorem dX8_puts_49 : decode cX8_puts 49 = .ok (.iadd, 1) := by decide +kernel
theorem dX8_puts_50 : decode cX8_puts 50 = .ok (.iload 4, 2) := by decide +kernel
theorem dX8_puts_52 : decode cX8_puts 52 = .ok (.iastore, 1) := by decide +kernel
theorem dX8_puts_53 : decode cX8_puts 53 = .ok (.aload_n 0, 1) := by decide +kernel
theorem dX8_puts_54 : decode cX8_puts 54 = .ok (.getfield 7, 3) := by decide +kernel
theorem dX8_puts_57 : decode cX8_puts 57 = .ok (.bipush 8, 2) := by decide +kernel
theorem dX8_puts_59 : decode cX8_puts 59 = .ok (.dup2, 1) := by decide +kernel
theorem dX8_puts_60 : decode cX8_puts 60 = .ok (.iaload, 1) := by decide +kernel
theorem dX8_puts_61 : decode cX8_puts 61 = .ok (.iconst 1, 1) := by decide +kernel
theorem dX8_puts_62 : decode cX8_puts 62 = .ok (.iadd, 1) := by decide +kernel
theorem dX8_puts_63 : decode cX8_puts 63 = .ok (.iastore, 1) := by decide +kernel
theorem dX8_puts_64 : decode cX8_puts 64 = .ok (.return_, 1) := by decide +kernel
set_option maxRecDepth 20000 in
theorem ggX8_addSegment_X8_in : GoodIn wsX8_addSegment wsX8_in := goodIn_r _ [5] (by decide +kernel) (by decide +kernel)
set_option maxRecDepth 20000 in
theorem gX8_addSegment_X8_in : GoodIn wsX8_addSegment (va_wsS RX8 33 yX8_in wsX8_in) := goodIn_app (goodIn_of _ (by decide +kernel)) ggX8_addSegment_X8_in
set_option maxRecDepth 20000 in
theorem ggX8_addSegment_X8_isKind : GoodIn wsX8_addSegment wsX8_isKind := goodIn_r _ [8, 9, 10, 4, 11, 2, 3, 5] (by decide +kernel) (by decide +kernel)
set_option maxRecDepth 20000 in
theorem gX8_addSegment_X8_isKind : GoodIn wsX8_addSegment (va_wsS RX8 49 yX8_isKind wsX8_isKind) := goodIn_app (goodIn_of _ (by decide +kernel)) ggX8_addSegment_X8_isKind
set_option maxRecDepth 20000 in
theorem ggX8_addSegment_X8_record : GoodIn wsX8_addSegment wsX8_record := goodIn_r _ [15, 16, 17, 1, 18, 19, 4, 20, 25, 26, 27, 28, 29, 30, 31, 32, 33, 34, 35] (by decide +kernel) (by decide +kernel)
set_option maxRecDepth 20000 in
theorem gX8_addSegment_X8_record : GoodIn wsX8_addSegment (wsV RX8 52 RX8 yX8_record wsX8_record) := goodIn_app (goodIn_of _ (by decide +kernel)) ggX8_addSegment_X8_record
set_option maxRecDepth 20000 in
theorem ggX8_addSegment_X8_puts : GoodIn wsX8_addSegment wsX8_puts := goodIn_r _ [24, 1, 25, 26, 27, 28, 29, 30, 31, 32, 33, 34, 35] (by decide +kernel) (by decide +kernel)
set_option maxRecDepth 20000 in
theorem gX8_addSegment_X8_puts : GoodIn wsX8_addSegment (wsV RX8 55 RX8 yX8_puts wsX8_puts) := goodIn_app (goodIn_of _ (by decide +kernel)) ggX8_addSegment_X8_puts
theorem dX8_addSegment_0 : decode cX8_addSegment 0 = .ok (.iload_n 2, 1) := by decide +kernel
theorem dX8_addSegment_1 : decode cX8_addSegment 1 = .ok (.iconst 1, 1) := by decide +kernel
theorem dX8_addSegment_2 : decode cX8_addSegment 2 = .ok (.sipush 300, 3) := by decide +kernel
theorem dX8_addSegment_5 : decode cX8_addSegment 5 = .ok (.invokestatic 33, 3) := by decide +kernel
theorem dX8_addSegment_8 : decode cX8_addSegment 8 = .ok (.ifCond .eq 13, 3) := by decide +kernel
theorem dX8_addSegment_11 : decode cX8_addSegment 11 = .ok (.iload_n 1, 1) := by decide +kernel
theorem dX8_addSegment_12 : decode cX8_addSegment 12 = .ok (.iload_n 3, 1) := by decide +kernel
theorem dX8_addSegment_13 : decode cX8_addSegment 13 = .ok (.iload 4, 2) := by decide +kernel
theorem dX8_addSegment_15 : decode cX8_addSegment 15 = .ok (.invokestatic 49, 3) := by decide +kernel
theorem dX8_addSegment_18 : decode cX8_addSegment 18 = .ok (.ifCond .ne 5, 3) := by decide +kernel
theorem dX8_addSegment_21 : decode cX8_addSegment 21 = .ok (.iconst (-1), 1) := by decide +kernel
theorem dX8_addSegment_22 : decode cX8_addSegment 22 = .ok (.ireturn, 1) := by decide +kernel
theorem dX8_addSegment_23 : decode cX8_addSegment 23 = .ok (.aload_n 0, 1) := by decide +kernel
theorem dX8_addSegment_24 : decode cX8_addSegment 24 = .ok (.getfield 7, 3) := by decide +kernel
theorem dX8_addSegment_27 : decode cX8_addSegment 27 = .ok (.bipush 8, 2) := by decide +kernel
theorem dX8_addSegment_29 : decode cX8_addSegment 29 = .ok (.iaload, 1) := by decide +kernel
theorem dX8_addSegment_30 : decode cX8_addSegment 30 = .ok (.bipush 20, 2) := by decide +kernel
theorem dX8_addSegment_32 : decode cX8_addSegment 32 = .ok (.if_icmp .ne 6, 3) := by decide +kernel
theorem dX8_addSegment_35 : decode cX8_addSegment 35 = .ok (.bipush (-3), 2) := by decide +kernel
theorem dX8_addSegment_37 : decode cX8_addSegment 37 = .ok (.ireturn, 1) := by decide +kernel
theorem dX8_addSegment_38 : decode cX8_addSegment 38 = .ok (.aload_n 0, 1) := by decide +kernel
theorem dX8_addSegment_39 : decode cX8_addSegment 39 = .ok (.invokevirtual 52, 3) := by decide +kernel
theorem dX8_addSegment_42 : decode cX8_addSegment 42 = .ok (.aload_n 0, 1) := by decide +kernel
theorem dX8_addSegment_43 : decode cX8_addSegment 43 = .ok (.iload_n 1, 1) := by decide +kernel
theorem dX8_addSegment_44 : decode cX8_addSegment 44 = .ok (.iload_n 2, 1) := by decide +kernel
theorem dX8_addSegment_45 : decode cX8_addSegment 45 = .ok (.iload_n 3, 1) := by decide +kernel
theorem dX8_addSegment_46 : decode cX8_addSegment 46 = .ok (.iload 4, 2) := by decide +kernel
theorem dX8_addSegment_48 : decode cX8_addSegment 48 = .ok (.invokevirtual 55, 3) := by decide +kernel
theorem dX8_addSegment_51 : decode cX8_addSegment 51 = .ok (.aload_n 0, 1) := by decide +kernel
theorem dX8_addSegment_52 : decode cX8_addSegment 52 = .ok (.getfield 7, 3) := by decide +kernel
theorem dX8_addSegment_55 : decode cX8_addSegment 55 = .ok (.bipush 8, 2) := by decide +kernel
theorem dX8_addSegment_57 : decode cX8_addSegment 57 = .ok (.iaload, 1) := by decide +kernel
theorem dX8_addSegment_58 : decode cX8_addSegment 58 = .ok (.iconst 1, 1) := by decide +kernel
theorem dX8_addSegment_59 : decode cX8_addSegment 59 = .ok (.isub, 1) := by decide +kernel
theorem dX8_addSegment_60 : decode cX8_addSegment 60 = .ok (.ireturn, 1) := by decide +kernel
set_option maxRecDepth 20000 in
theorem ggX8_melted_X8_lower : GoodIn wsX8_melted wsX8_lower := goodIn_r _ [6, 7, 8, 9, 5, 10, 1, 14, 15, 16, 17, 18, 19, 20, 21, 22, 23, 24] (by decide +kernel) (by decide +kernel)
set_option maxRecDepth 20000 in
theorem gX8_melted_X8_lower : GoodIn wsX8_melted (wsV RX8 41 RX8 yX8_lower wsX8_lower) := goodIn_app (goodIn_of _ (by decide +kernel)) ggX8_melted_X8_lower
set_option maxRecDepth 20000 in
theorem ggX8_melted_X8_of : GoodIn wsX8_melted wsX8_of := goodIn_r _ [10, 1, 14, 15, 16, 17, 18, 19, 20, 21, 22, 23, 24] (by decide +kernel) (by decide +kernel)
set_option maxRecDepth 20000 in
theorem gX8_melted_X8_of : GoodIn wsX8_melted (wsV RX8 37 RX8 yX8_of wsX8_of) := goodIn_app (goodIn_of _ (by decide +kernel)) ggX8_melted_X8_of
set_option maxRecDepth 20000 in
theorem ggX8_melted_X8_lesser : GoodIn wsX8_melted wsX8_lesser := goodIn_r _ [13] (by decide +kernel) (by decide +kernel)
set_option maxRecDepth 20000 in
theorem gX8_melted_X8_lesser : GoodIn wsX8_melted (va_wsS RX8 59 yX8_lesser wsX8_lesser) := goodIn_app (goodIn_of _ (by decide +kernel)) ggX8_melted_X8_lesser
theorem dX8_melted_0 : decode cX8_melted 0 = .ok (.aload_n 0, 1) := by decide +kernel
theorem dX8_melted_1 : decode cX8_melted 1 = .ok (.getfield 7, 3) := by decide +kernel
theorem dX8_melted_4 : decode cX8_melted 4 = .ok (.bipush 9, 2) := by decide +kernel
theorem dX8_melted_6 : decode cX8_melted 6 = .ok (.iaload, 1) := by decide +kernel
theorem dX8_melted_7 : decode cX8_melted 7 = .ok (.aload_n 0, 1) := by decide +kernel
theorem dX8_melted_8 : decode cX8_melted 8 = .ok (.iload_n 1, 1) := by decide +kernel
theorem dX8_melted_9 : decode cX8_melted 9 = .ok (.invokevirtual 41, 3) := by decide +kernel
theorem dX8_melted_12 : decode cX8_melted 12 = .ok (.isub, 1) := by decide +kernel
theorem dX8_melted_13 : decode cX8_melted 13 = .ok (.istore_n 2, 1) := by decide +kernel
theorem dX8_melted_14 : decode cX8_melted 14 = .ok (.iload_n 2, 1) := by decide +kernel
theorem dX8_melted_15 : decode cX8_melted 15 = .ok (.ifCond .ge 7, 3) := by decide +kernel
theorem dX8_melted_18 : decode cX8_melted 18 = .ok (.iconst 0, 1) := by decide +kernel
theorem dX8_melted_19 : decode cX8_melted 19 = .ok (.goto 13, 3) := by decide +kernel
theorem dX8_melted_22 : decode cX8_melted 22 = .ok (.iload_n 2, 1) := by decide +kernel
theorem dX8_melted_23 : decode cX8_melted 23 = .ok (.aload_n 0, 1) := by decide +kernel
theorem dX8_melted_24 : decode cX8_melted 24 = .ok (.iload_n 1, 1) := by decide +kernel
theorem dX8_melted_25 : decode cX8_melted 25 = .ok (.iconst 1, 1) := by decide +kernel
theorem dX8_melted_26 : decode cX8_melted 26 = .ok (.invokevirtual 37, 3) := by decide +kernel
theorem dX8_melted_29 : decode cX8_melted 29 = .ok (.invokestatic 59, 3) := by decide +kernel
theorem dX8_melted_32 : decode cX8_melted 32 = .ok (.ireturn, 1) := by decide +kernel
set_option maxRecDepth 20000 in
theorem ggX8_segment_X8_isSegment : GoodIn wsX8_segment wsX8_isSegment := goodIn_r _ [5, 6, 7, 8, 4, 9, 25, 26, 27, 28, 29, 30, 31, 32, 33, 34, 35] (by decide +kernel) (by decide +kernel)
set_option maxRecDepth 20000 in
theorem gX8_segment_X8_isSegment : GoodIn wsX8_segment (wsV RX8 62 RX8 yX8_isSegment wsX8_isSegment) := goodIn_app (goodIn_of _ (by decide +kernel)) ggX8_segment_X8_isSegment
set_option maxRecDepth 20000 in
theorem ggX8_segment_X8_in : GoodIn wsX8_segment wsX8_in := goodIn_r _ [9] (by decide +kernel) (by decide +kernel)
set_option maxRecDepth 20000 in
theorem gX8_segment_X8_in : GoodIn wsX8_segment (va_wsS RX8 33 yX8_in wsX8_in) := goodIn_app (goodIn_of _ (by decide +kernel)) ggX8_segment_X8_in
set_option maxRecDepth 20000 in
theorem ggX8_segment_X8_of : GoodIn wsX8_segment wsX8_of := goodIn_r _ [13, 6, 25, 26, 27, 28, 29, 30, 31, 32, 33, 34, 35] (by decide +kernel) (by decide +kernel)
set_option maxRecDepth 20000 in
theorem gX8_segment_X8_of : GoodIn wsX8_segment (wsV RX8 37 RX8 yX8_of wsX8_of) := goodIn_app (goodIn_of _ (by decide +kernel)) ggX8_segment_X8_of
set_option maxRecDepth 20000 in
theorem ggX8_segment_X8_lower : GoodIn wsX8_segment wsX8_lower := goodIn_r _ [17, 10, 11, 12, 4, 13, 6, 25, 26, 27, 28, 29, 30, 31, 32, 33, 34, 35] (by decide +kernel) (by decide +kernel)
set_option maxRecDepth 20000 in
theorem gX8_segment_X8_lower : GoodIn wsX8_segment (wsV RX8 41 RX8 yX8_lower wsX8_lower) := goodIn_app (goodIn_of _ (by decide +kernel)) ggX8_segment_X8_lower
set_option maxRecDepth 20000 in
theorem ggX8_segment_X8_melted : GoodIn wsX8_segment wsX8_melted := goodIn_r _ [21, 6, 14, 15, 16, 4, 17, 10, 11, 12, 13, 22, 23, 24, 25, 26, 27, 28, 29, 30, 31, 32, 33, 34, 35] (by decide +kernel) (by decide +kernel)
set_option maxRecDepth 20000 in
theorem gX8_segment_X8_melted : GoodIn wsX8_segment (wsV RX8 65 RX8 yX8_melted wsX8_melted) := goodIn_app (goodIn_of _ (by decide +kernel)) ggX8_segment_X8_melted
theorem dX8_segment_0 : decode cX8_segment 0 = .ok (.aload_n 0, 1) := by decide +kernel
theorem dX8_segment_1 : decode cX8_segment 1 = .ok (.iload_n 1, 1) := by decide +kernel
theorem dX8_segment_2 : decode cX8_segment 2 = .ok (.invokevirtual 62, 3) := by decide +kernel
theorem dX8_segment_5 : decode cX8_segment 5 = .ok (.ifCond .eq 12, 3) := by decide +kernel
theorem dX8_segment_8 : decode cX8_segment 8 = .ok (.iload_n 2, 1) := by decide +kernel
theorem dX8_segment_9 : decode cX8_segment 9 = .ok (.iconst 0, 1) := by decide +kernel
theorem dX8_segment_10 : decode cX8_segment 10 = .ok (.iconst 5, 1) := by decide +kernel
theorem dX8_segment_11 : decode cX8_segment 11 = .ok (.invokestatic 33, 3) := by decide +kernel
theorem dX8_segment_14 : decode cX8_segment 14 = .ok (.ifCond .ne 5, 3) := by decide +kernel
theorem dX8_segment_17 : decode cX8_segment 17 = .ok (.iconst (-1), 1) := by decide +kernel
theorem dX8_segment_18 : decode cX8_segment 18 = .ok (.ireturn, 1) := by decide +kernel
theorem dX8_segment_19 : decode cX8_segment 19 = .ok (.iload_n 2, 1) := by decide +kernel
theorem dX8_segment_20 : decode cX8_segment 20 = .ok (.iconst 4, 1) := by decide +kernel
theorem dX8_segment_21 : decode cX8_segment 21 = .ok (.if_icmp .ge 12, 3) := by decide +kernel
theorem dX8_segment_24 : decode cX8_segment 24 = .ok (.aload_n 0, 1) := by decide +kernel
theorem dX8_segment_25 : decode cX8_segment 25 = .ok (.iload_n 1, 1) := by decide +kernel
theorem dX8_segment_26 : decode cX8_segment 26 = .ok (.iload_n 2, 1) := by decide +kernel
theorem dX8_segment_27 : decode cX8_segment 27 = .ok (.invokevirtual 37, 3) := by decide +kernel
theorem dX8_segment_30 : decode cX8_segment 30 = .ok (.goto 21, 3) := by decide +kernel
theorem dX8_segment_33 : decode cX8_segment 33 = .ok (.iload_n 2, 1) := by decide +kernel
theorem dX8_segment_34 : decode cX8_segment 34 = .ok (.iconst 4, 1) := by decide +kernel
theorem dX8_segment_35 : decode cX8_segment 35 = .ok (.if_icmp .ne 11, 3) := by decide +kernel
theorem dX8_segment_38 : decode cX8_segment 38 = .ok (.aload_n 0, 1) := by decide +kernel
theorem dX8_segment_39 : decode cX8_segment 39 = .ok (.iload_n 1, 1) := by decide +kernel
theorem dX8_segment_40 : decode cX8_segment 40 = .ok (.invokevirtual 41, 3) := by decide +kernel
theorem dX8_segment_43 : decode cX8_segment 43 = .ok (.goto 8, 3) := by decide +kernel
theorem dX8_segment_46 : decode cX8_segment 46 = .ok (.aload_n 0, 1) := by decide +kernel
theorem dX8_segment_47 : decode cX8_segment 47 = .ok (.iload_n 1, 1) := by decide +kernel
theorem dX8_segment_48 : decode cX8_segment 48 = .ok (.invokevirtual 65, 3) := by decide +kernel
theorem dX8_segment_51 : decode cX8_segment 51 = .ok (.ireturn, 1) := by decide +kernel
set_option maxRecDepth 20000 in
theorem ggX8_segmentAt_X8_segmentOf : GoodIn wsX8_segmentAt wsX8_segmentOf := goodIn_r _ [5, 6, 7, 8, 9, 4, 10, 11, 12, 13, 14, 15, 16, 17, 18, 19, 20, 21, 22, 23, 24, 25] (by decide +kernel) (by decide +kernel)
set_option maxRecDepth 20000 in
theorem gX8_segmentAt_X8_segmentOf : GoodIn wsX8_segmentAt (wsV RX8 68 RX8 yX8_segmentOf wsX8_segmentOf) := goodIn_app (goodIn_of _ (by decide +kernel)) ggX8_segmentAt_X8_segmentOf
theorem dX8_segmentAt_0 : decode cX8_segmentAt 0 = .ok (.iload_n 1, 1) := by decide +kernel
theorem dX8_segmentAt_1 : decode cX8_segmentAt 1 = .ok (.ifCond .ge 7, 3) := by decide +kernel
theorem dX8_segmentAt_4 : decode cX8_segmentAt 4 = .ok (.iconst (-1), 1) := by decide +kernel
theorem dX8_segmentAt_5 : decode cX8_segmentAt 5 = .ok (.goto 8, 3) := by decide +kernel
theorem dX8_segmentAt_8 : decode cX8_segmentAt 8 = .ok (.aload_n 0, 1) := by decide +kernel
theorem dX8_segmentAt_9 : decode cX8_segmentAt 9 = .ok (.iload_n 1, 1) := by decide +kernel
theorem dX8_segmentAt_10 : decode cX8_segmentAt 10 = .ok (.invokevirtual 68, 3) := by decide +kernel
theorem dX8_segmentAt_13 : decode cX8_segmentAt 13 = .ok (.ireturn, 1) := by decide +kernel
set_option maxRecDepth 20000 in
theorem ggX8_water_X8_of : GoodIn wsX8_water wsX8_of := goodIn_r _ [6, 1, 10, 11, 12, 13, 14, 15, 16, 17, 18, 19, 20] (by decide +kernel) (by decide +kernel)
set_option maxRecDepth 20000 in
theorem gX8_water_X8_of : GoodIn wsX8_water (wsV RX8 37 RX8 yX8_of wsX8_of) := goodIn_app (goodIn_of _ (by decide +kernel)) ggX8_water_X8_of
set_option maxRecDepth 20000 in
theorem ggX8_water_X8_lesser : GoodIn wsX8_water wsX8_lesser := goodIn_r _ [9] (by decide +kernel) (by decide +kernel)
set_option maxRecDepth 20000 in
theorem gX8_water_X8_lesser : GoodIn wsX8_water (va_wsS RX8 59 yX8_lesser wsX8_lesser) := goodIn_app (goodIn_of _ (by decide +kernel)) ggX8_water_X8_lesser
theorem dX8_water_0 : decode cX8_water 0 = .ok (.iconst 0, 1) := by decide +kernel
theorem dX8_water_1 : decode cX8_water 1 = .ok (.istore_n 2, 1) := by decide +kernel
theorem dX8_water_2 : decode cX8_water 2 = .ok (.iconst 0, 1) := by decide +kernel
theorem dX8_water_3 : decode cX8_water 3 = .ok (.istore_n 3, 1) := by decide +kernel
theorem dX8_water_4 : decode cX8_water 4 = .ok (.iconst 0, 1) := by decide +kernel
theorem dX8_water_5 : decode cX8_water 5 = .ok (.istore 4, 2) := by decide +kernel
theorem dX8_water_7 : decode cX8_water 7 = .ok (.iload 4, 2) := by decide +kernel
theorem dX8_water_9 : decode cX8_water 9 = .ok (.aload_n 0, 1) := by decide +kernel
theorem dX8_water_10 : decode cX8_water 10 = .ok (.getfield 7, 3) := by decide +kernel
theorem dX8_water_13 : decode cX8_water 13 = .ok (.bipush 8, 2) := by decide +kernel
theorem dX8_water_15 : decode cX8_water 15 = .ok (.iaload, 1) := by decide +kernel
theorem dX8_water_16 : decode cX8_water 16 = .ok (.if_icmp .ge 48, 3) := by decide +kernel
theorem dX8_water_19 : decode cX8_water 19 = .ok (.iload_n 3, 1) := by decide +kernel
theorem dX8_water_20 : decode cX8_water 20 = .ok (.iload_n 1, 1) := by decide +kernel
theorem dX8_water_21 : decode cX8_water 21 = .ok (.if_icmp .ge 43, 3) := by decide +kernel
theorem dX8_water_24 : decode cX8_water 24 = .ok (.iload_n 2, 1) := by decide +kernel
theorem dX8_water_25 : decode cX8_water 25 = .ok (.aload_n 0, 1) := by decide +kernel
theorem dX8_water_26 : decode cX8_water 26 = .ok (.iload 4, 2) := by decide +kernel
theorem dX8_water_28 : decode cX8_water 28 = .ok (.iconst 1, 1) := by decide +kernel
theorem dX8_water_29 : decode cX8_water 29 = .ok (.invokevirtual 37, 3) := by decide +kernel
theorem dX8_water_32 : decode cX8_water 32 = .ok (.iload_n 1, 1) := by decide +kernel
theorem dX8_water_33 : decode cX8_water 33 = .ok (.iload_n 3, 1) := by decide +kernel
theorem dX8_water_34 : decode cX8_water 34 = .ok (.isub, 1) := by decide +kernel
theorem dX8_water_35 : decode cX8_water 35 = .ok (.invokestatic 59, 3) := by decide +kernel
theorem dX8_water_38 : decode cX8_water 38 = .ok (.aload_n 0, 1) := by decide +kernel
theorem dX8_water_39 : decode cX8_water 39 = .ok (.iload 4, 2) := by decide +kernel
theorem dX8_water_41 : decode cX8_water 41 = .ok (.iconst 2, 1) := by decide +kernel
theorem dX8_water_42 : decode cX8_water 42 = .ok (.invokevirtual 37, 3) := by decide +kernel
theorem dX8_water_45 : decode cX8_water 45 = .ok (.imul, 1) := by decide +kernel
theorem dX8_water_46 : decode cX8_water 46 = .ok (.iadd, 1) := by decide +kernel
theorem dX8_water_47 : decode cX8_water 47 = .ok (.istore_n 2, 1) := by decide +kernel
theorem dX8_water_48 : decode cX8_water 48 = .ok (.iload_n 3, 1) := by decide +kernel
theorem dX8_water_49 : decode cX8_water 49 = .ok (.aload_n 0, 1) := by decide +kernel
theorem dX8_water_50 : decode cX8_water 50 = .ok (.iload 4, 2) := by decide +kernel
theorem dX8_water_52 : decode cX8_water 52 = .ok (.iconst 1, 1) := by decide +kernel
theorem dX8_water_53 : decode cX8_water 53 = .ok (.invokevirtual 37, 3) := by decide +kernel
theorem dX8_water_56 : decode cX8_water 56 = .ok (.iadd, 1) := by decide +kernel
theorem dX8_water_57 : decode cX8_water 57 = .ok (.istore_n 3, 1) := by decide +kernel
theorem dX8_water_58 : decode cX8_water 58 = .ok (.iinc 4 1, 3) := by decide +kernel
theorem dX8_water_61 : decode cX8_water 61 = .ok (.goto (-54), 3) := by decide +kernel
theorem dX8_water_64 : decode cX8_water 64 = .ok (.iload_n 2, 1) := by decide +kernel
theorem dX8_water_65 : decode cX8_water 65 = .ok (.ireturn, 1) := by decide +kernel
set_option maxRecDepth 20000 in
theorem ggX8_waterBelow_X8_length : GoodIn wsX8_waterBelow wsX8_length := goodIn_r _ [5, 6, 7, 8, 9, 4, 10, 11, 12, 13, 14, 25, 26, 27, 28, 29, 30, 31, 32, 33, 34, 35] (by decide +kernel) (by decide +kernel)
set_option maxRecDepth 20000 in
theorem gX8_waterBelow_X8_length : GoodIn wsX8_waterBelow (wsV RX8 71 RX8 yX8_length wsX8_length) := goodIn_app (goodIn_of _ (by decide +kernel)) ggX8_waterBelow_X8_length
set_option maxRecDepth 20000 in
theorem ggX8_waterBelow_X8_in : GoodIn wsX8_waterBelow wsX8_in := goodIn_r _ [17] (by decide +kernel) (by decide +kernel)
set_option maxRecDepth 20000 in
theorem gX8_waterBelow_X8_in : GoodIn wsX8_waterBelow (va_wsS RX8 33 yX8_in wsX8_in) := goodIn_app (goodIn_of _ (by decide +kernel)) ggX8_waterBelow_X8_in
set_option maxRecDepth 20000 in
theorem ggX8_waterBelow_X8_water : GoodIn wsX8_waterBelow wsX8_water := goodIn_r _ [21, 6, 11, 12, 13, 4, 14, 22, 23, 24, 25, 26, 27, 28, 29, 30, 31, 32, 33, 34, 35] (by decide +kernel) (by decide +kernel)
set_option maxRecDepth 20000 in
theorem gX8_waterBelow_X8_water : GoodIn wsX8_waterBelow (wsV RX8 75 RX8 yX8_water wsX8_water) := goodIn_app (goodIn_of _ (by decide +kernel)) ggX8_waterBelow_X8_water
theorem dX8_waterBelow_0 : decode cX8_waterBelow 0 = .ok (.iload_n 1, 1) := by decide +kernel
theorem dX8_waterBelow_1 : decode cX8_waterBelow 1 = .ok (.iconst 0, 1) := by decide +kernel
theorem dX8_waterBelow_2 : decode cX8_waterBelow 2 = .ok (.aload_n 0, 1) := by decide +kernel
theorem dX8_waterBelow_3 : decode cX8_waterBelow 3 = .ok (.invokevirtual 71, 3) := by decide +kernel
theorem dX8_waterBelow_6 : decode cX8_waterBelow 6 = .ok (.invokestatic 33, 3) := by decide +kernel
theorem dX8_waterBelow_9 : decode cX8_waterBelow 9 = .ok (.ifCond .eq 11, 3) := by decide +kernel
theorem dX8_waterBelow_12 : decode cX8_waterBelow 12 = .ok (.aload_n 0, 1) := by decide +kernel
theorem dX8_waterBelow_13 : decode cX8_waterBelow 13 = .ok (.iload_n 1, 1) := by decide +kernel
theorem dX8_waterBelow_14 : decode cX8_waterBelow 14 = .ok (.invokevirtual 75, 3) := by decide +kernel
theorem dX8_waterBelow_17 : decode cX8_waterBelow 17 = .ok (.goto 4, 3) := by decide +kernel
theorem dX8_waterBelow_20 : decode cX8_waterBelow 20 = .ok (.iconst (-1), 1) := by decide +kernel
theorem dX8_waterBelow_21 : decode cX8_waterBelow 21 = .ok (.ireturn, 1) := by decide +kernel
set_option maxRecDepth 20000 in
theorem ggX8_renew_X8_record : GoodIn wsX8_renew wsX8_record := goodIn_r _ [6, 7, 8, 1, 9, 10, 5, 11, 12, 13, 14, 15, 16, 17, 18, 19, 20, 21, 22] (by decide +kernel) (by decide +kernel)
set_option maxRecDepth 20000 in
theorem gX8_renew_X8_record : GoodIn wsX8_renew (wsV RX8 52 RX8 yX8_record wsX8_record) := goodIn_app (goodIn_of _ (by decide +kernel)) ggX8_renew_X8_record
theorem dX8_renew_0 : decode cX8_renew 0 = .ok (.aload_n 0, 1) := by decide +kernel
theorem dX8_renew_1 : decode cX8_renew 1 = .ok (.invokevirtual 52, 3) := by decide +kernel
theorem dX8_renew_4 : decode cX8_renew 4 = .ok (.aload_n 0, 1) := by decide +kernel
theorem dX8_renew_5 : decode cX8_renew 5 = .ok (.getfield 7, 3) := by decide +kernel
theorem dX8_renew_8 : decode cX8_renew 8 = .ok (.bipush 9, 2) := by decide +kernel
theorem dX8_renew_10 : decode cX8_renew 10 = .ok (.iaload, 1) := by decide +kernel
theorem dX8_renew_11 : decode cX8_renew 11 = .ok (.istore_n 1, 1) := by decide +kernel
theorem dX8_renew_12 : decode cX8_renew 12 = .ok (.bipush 9, 2) := by decide +kernel
theorem dX8_renew_14 : decode cX8_renew 14 = .ok (.istore_n 2, 1) := by decide +kernel
theorem dX8_renew_15 : decode cX8_renew 15 = .ok (.iload_n 2, 1) := by decide +kernel
theorem dX8_renew_16 : decode cX8_renew 16 = .ok (.bipush 46, 2) := by decide +kernel
theorem dX8_renew_18 : decode cX8_renew 18 = .ok (.if_icmp .ge 16, 3) := by decide +kernel
theorem dX8_renew_21 : decode cX8_renew 21 = .ok (.aload_n 0, 1) := by decide +kernel
theorem dX8_renew_22 : decode cX8_renew 22 = .ok (.getfield 7, 3) := by decide +kernel
theorem dX8_renew_25 : decode cX8_renew 25 = .ok (.iload_n 2, 1) := by decide +kernel
theorem dX8_renew_26 : decode cX8_renew 26 = .ok (.iconst 0, 1) := by decide +kernel
theorem dX8_renew_27 : decode cX8_renew 27 = .ok (.iastore, 1) := by decide +kernel
theorem dX8_renew_28 : decode cX8_renew 28 = .ok (.iinc 2 1, 3) := by decide +kernel
theorem dX8_renew_31 : decode cX8_renew 31 = .ok (.goto (-16), 3) := by decide +kernel
theorem dX8_renew_34 : decode cX8_renew 34 = .ok (.iload_n 1, 1) := by decide +kernel
theorem dX8_renew_35 : decode cX8_renew 35 = .ok (.ireturn, 1) := by decide +kernel
set_option maxRecDepth 20000 in
theorem ggX8_undo_X8_bring : GoodIn wsX8_undo wsX8_bring := goodIn_r _ [7] (by decide +kernel) (by decide +kernel)
set_option maxRecDepth 20000 in
theorem gX8_undo_X8_bring : GoodIn wsX8_undo (va_wsS RX8 29 yX8_bring wsX8_bring) := goodIn_app (goodIn_of _ (by decide +kernel)) ggX8_undo_X8_bring
theorem dX8_undo_0 : decode cX8_undo 0 = .ok (.aload_n 0, 1) := by decide +kernel
theorem dX8_undo_1 : decode cX8_undo 1 = .ok (.getfield 25, 3) := by decide +kernel
theorem dX8_undo_4 : decode cX8_undo 4 = .ok (.ifCond .ne 6, 3) := by decide +kernel
theorem dX8_undo_7 : decode cX8_undo 7 = .ok (.bipush (-2), 2) := by decide +kernel
theorem dX8_undo_9 : decode cX8_undo 9 = .ok (.ireturn, 1) := by decide +kernel
theorem dX8_undo_10 : decode cX8_undo 10 = .ok (.aload_n 0, 1) := by decide +kernel
theorem dX8_undo_11 : decode cX8_undo 11 = .ok (.dup, 1) := by decide +kernel
theorem dX8_undo_12 : decode cX8_undo 12 = .ok (.getfield 25, 3) := by decide +kernel
theorem dX8_undo_15 : decode cX8_undo 15 = .ok (.iconst 1, 1) := by decide +kernel
theorem dX8_undo_16 : decode cX8_undo 16 = .ok (.isub, 1) := by decide +kernel
theorem dX8_undo_17 : decode cX8_undo 17 = .ok (.putfield 25, 3) := by decide +kernel
theorem dX8_undo_20 : decode cX8_undo 20 = .ok (.aload_n 0, 1) := by decide +kernel
theorem dX8_undo_21 : decode cX8_undo 21 = .ok (.getfield 16, 3) := by decide +kernel
theorem dX8_undo_24 : decode cX8_undo 24 = .ok (.sipush 246, 3) := by decide +kernel
theorem dX8_undo_27 : decode cX8_undo 27 = .ok (.aload_n 0, 1) := by decide +kernel
theorem dX8_undo_28 : decode cX8_undo 28 = .ok (.getfield 25, 3) := by decide +kernel
theorem dX8_undo_31 : decode cX8_undo 31 = .ok (.imul, 1) := by decide +kernel
theorem dX8_undo_32 : decode cX8_undo 32 = .ok (.aload_n 0, 1) := by decide +kernel
theorem dX8_undo_33 : decode cX8_undo 33 = .ok (.getfield 7, 3) := by decide +kernel
theorem dX8_undo_36 : decode cX8_undo 36 = .ok (.iconst 0, 1) := by decide +kernel
theorem dX8_undo_37 : decode cX8_undo 37 = .ok (.invokestatic 29, 3) := by decide +kernel
theorem dX8_undo_40 : decode cX8_undo 40 = .ok (.aload_n 0, 1) := by decide +kernel
theorem dX8_undo_41 : decode cX8_undo 41 = .ok (.getfield 25, 3) := by decide +kernel
theorem dX8_undo_44 : decode cX8_undo 44 = .ok (.ireturn, 1) := by decide +kernel
set_option maxRecDepth 20000 in
theorem ggX8_isSetting_X8_in : GoodIn wsX8_isSetting wsX8_in := goodIn_r _ [4] (by decide +kernel) (by decide +kernel)
set_option maxRecDepth 20000 in
theorem gX8_isSetting_X8_in : GoodIn wsX8_isSetting (va_wsS RX8 33 yX8_in wsX8_in) := goodIn_app (goodIn_of _ (by decide +kernel)) ggX8_isSetting_X8_in
theorem dX8_isSetting_0 : decode cX8_isSetting 0 = .ok (.iload_n 0, 1) := by decide +kernel
theorem dX8_isSetting_1 : decode cX8_isSetting 1 = .ok (.tableswitch 112 0 7 #[47, 56, 66, 76, 85, 95, 85, 104], 47) := by decide +kernel
theorem dX8_isSetting_48 : decode cX8_isSetting 48 = .ok (.iload_n 1, 1) := by decide +kernel
theorem dX8_isSetting_49 : decode cX8_isSetting 49 = .ok (.iconst 0, 1) := by decide +kernel
theorem dX8_isSetting_50 : decode cX8_isSetting 50 = .ok (.sipush 200, 3) := by decide +kernel
theorem dX8_isSetting_53 : decode cX8_isSetting 53 = .ok (.invokestatic 33, 3) := by decide +kernel
theorem dX8_isSetting_56 : decode cX8_isSetting 56 = .ok (.ireturn, 1) := by decide +kernel
theorem dX8_isSetting_57 : decode cX8_isSetting 57 = .ok (.iload_n 1, 1) := by decide +kernel
theorem dX8_isSetting_58 : decode cX8_isSetting 58 = .ok (.bipush 10, 2) := by decide +kernel
theorem dX8_isSetting_60 : decode cX8_isSetting 60 = .ok (.sipush 200, 3) := by decide +kernel
theorem dX8_isSetting_63 : decode cX8_isSetting 63 = .ok (.invokestatic 33, 3) := by decide +kernel
theorem dX8_isSetting_66 : decode cX8_isSetting 66 = .ok (.ireturn, 1) := by decide +kernel
theorem dX8_isSetting_67 : decode cX8_isSetting 67 = .ok (.iload_n 1, 1) := by decide +kernel
theorem dX8_isSetting_68 : decode cX8_isSetting 68 = .ok (.bipush 100, 2) := by decide +kernel
theorem dX8_isSetting_70 : decode cX8_isSetting 70 = .ok (.sipush 20000, 3) := by decide +kernel
theorem dX8_isSetting_73 : decode cX8_isSetting 73 = .ok (.invokestatic 33, 3) := by decide +kernel
theorem dX8_isSetting_76 : decode cX8_isSetting 76 = .ok (.ireturn, 1) := by decide +kernel
theorem dX8_isSetting_77 : decode cX8_isSetting 77 = .ok (.iload_n 1, 1) := by decide +kernel
theorem dX8_isSetting_78 : decode cX8_isSetting 78 = .ok (.iconst 1, 1) := by decide +kernel
theorem dX8_isSetting_79 : decode cX8_isSetting 79 = .ok (.sipush 500, 3) := by decide +kernel
theorem dX8_isSetting_82 : decode cX8_isSetting 82 = .ok (.invokestatic 33, 3) := by decide +kernel
theorem dX8_isSetting_85 : decode cX8_isSetting 85 = .ok (.ireturn, 1) := by decide +kernel
theorem dX8_isSetting_86 : decode cX8_isSetting 86 = .ok (.iload_n 1, 1) := by decide +kernel
theorem dX8_isSetting_87 : decode cX8_isSetting 87 = .ok (.bipush 50, 2) := by decide +kernel
theorem dX8_isSetting_89 : decode cX8_isSetting 89 = .ok (.sipush 5000, 3) := by decide +kernel
theorem dX8_isSetting_92 : decode cX8_isSetting 92 = .ok (.invokestatic 33, 3) := by decide +kernel
theorem dX8_isSetting_95 : decode cX8_isSetting 95 = .ok (.ireturn, 1) := by decide +kernel
theorem dX8_isSetting_96 : decode cX8_isSetting 96 = .ok (.iload_n 1, 1) := by decide +kernel
theorem dX8_isSetting_97 : decode cX8_isSetting 97 = .ok (.iconst 5, 1) := by decide +kernel
theorem dX8_isSetting_98 : decode cX8_isSetting 98 = .ok (.sipush 200, 3) := by decide +kernel
theorem dX8_isSetting_101 : decode cX8_isSetting 101 = .ok (.invokestatic 33, 3) := by decide +kernel
theorem dX8_isSetting_104 : decode cX8_isSetting 104 = .ok (.ireturn, 1) := by decide +kernel
theorem dX8_isSetting_105 : decode cX8_isSetting 105 = .ok (.iload_n 1, 1) := by decide +kernel
theorem dX8_isSetting_106 : decode cX8_isSetting 106 = .ok (.iconst 0, 1) := by decide +kernel
theorem dX8_isSetting_107 : decode cX8_isSetting 107 = .ok (.bipush 50, 2) := by decide +kernel
theorem dX8_isSetting_109 : decode cX8_isSetting 109 = .ok (.invokestatic 33, 3) := by decide +kernel
theorem dX8_isSetting_112 : decode cX8_isSetting 112 = .ok (.ireturn, 1) := by decide +kernel
theorem dX8_isSetting_113 : decode cX8_isSetting 113 = .ok (.iconst 0, 1) := by decide +kernel
theorem dX8_isSetting_114 : decode cX8_isSetting 114 = .ok (.ireturn, 1) := by decide +kernel
set_option maxRecDepth 20000 in
theorem ggX8_set_X8_isSetting : GoodIn wsX8_set wsX8_isSetting := goodIn_r _ [5, 6, 7, 4, 8] (by decide +kernel) (by decide +kernel)
set_option maxRecDepth 20000 in
theorem gX8_set_X8_isSetting : GoodIn wsX8_set (va_wsS RX8 78 yX8_isSetting wsX8_isSetting) := goodIn_app (goodIn_of _ (by decide +kernel)) ggX8_set_X8_isSetting
set_option maxRecDepth 20000 in
theorem ggX8_set_X8_record : GoodIn wsX8_set wsX8_record := goodIn_r _ [12, 13, 14, 1, 15, 16, 4, 17, 18, 19, 20, 21, 22, 23, 24, 25, 26, 27, 28] (by decide +kernel) (by decide +kernel)
set_option maxRecDepth 20000 in
theorem gX8_set_X8_record : GoodIn wsX8_set (wsV RX8 52 RX8 yX8_record wsX8_record) := goodIn_app (goodIn_of _ (by decide +kernel)) ggX8_set_X8_record
theorem dX8_set_0 : decode cX8_set 0 = .ok (.iload_n 1, 1) := by decide +kernel
theorem dX8_set_1 : decode cX8_set 1 = .ok (.iload_n 2, 1) := by decide +kernel
theorem dX8_set_2 : decode cX8_set 2 = .ok (.invokestatic 78, 3) := by decide +kernel
theorem dX8_set_5 : decode cX8_set 5 = .ok (.ifCond .ne 5, 3) := by decide +kernel
theorem dX8_set_8 : decode cX8_set 8 = .ok (.iconst (-1), 1) := by decide +kernel
theorem dX8_set_9 : decode cX8_set 9 = .ok (.ireturn, 1) := by decide +kernel
theorem dX8_set_10 : decode cX8_set 10 = .ok (.aload_n 0, 1) := by decide +kernel
theorem dX8_set_11 : decode cX8_set 11 = .ok (.invokevirtual 52, 3) := by decide +kernel
theorem dX8_set_14 : decode cX8_set 14 = .ok (.aload_n 0, 1) := by decide +kernel
theorem dX8_set_15 : decode cX8_set 15 = .ok (.getfield 7, 3) := by decide +kernel
theorem dX8_set_18 : decode cX8_set 18 = .ok (.iload_n 1, 1) := by decide +kernel
theorem dX8_set_19 : decode cX8_set 19 = .ok (.iaload, 1) := by decide +kernel
theorem dX8_set_20 : decode cX8_set 20 = .ok (.istore_n 3, 1) := by decide +kernel
theorem dX8_set_21 : decode cX8_set 21 = .ok (.aload_n 0, 1) := by decide +kernel
theorem dX8_set_22 : decode cX8_set 22 = .ok (.getfield 7, 3) := by decide +kernel
theorem dX8_set_25 : decode cX8_set 25 = .ok (.iload_n 1, 1) := by decide +kernel
theorem dX8_set_26 : decode cX8_set 26 = .ok (.iload_n 2, 1) := by decide +kernel
theorem dX8_set_27 : decode cX8_set 27 = .ok (.iastore, 1) := by decide +kernel
theorem dX8_set_28 : decode cX8_set 28 = .ok (.iload_n 3, 1) := by decide +kernel
theorem dX8_set_29 : decode cX8_set 29 = .ok (.ireturn, 1) := by decide +kernel
set_option maxRecDepth 20000 in
theorem ggX8_clean_X8_in : GoodIn wsX8_clean wsX8_in := goodIn_r _ [5] (by decide +kernel) (by decide +kernel)
set_option maxRecDepth 20000 in
theorem gX8_clean_X8_in : GoodIn wsX8_clean (va_wsS RX8 33 yX8_in wsX8_in) := goodIn_app (goodIn_of _ (by decide +kernel)) ggX8_clean_X8_in
set_option maxRecDepth 20000 in
theorem ggX8_clean_X8_ofLine : GoodIn wsX8_clean wsX8_ofLine := goodIn_r _ [9, 1, 19, 20, 21, 22, 23, 24, 25, 26, 27, 28, 29] (by decide +kernel) (by decide +kernel)
set_option maxRecDepth 20000 in
theorem gX8_clean_X8_ofLine : GoodIn wsX8_clean (wsV RX8 82 RX8 yX8_ofLine wsX8_ofLine) := goodIn_app (goodIn_of _ (by decide +kernel)) ggX8_clean_X8_ofLine
set_option maxRecDepth 20000 in
theorem ggX8_clean_X8_record : GoodIn wsX8_clean wsX8_record := goodIn_r _ [13, 14, 15, 1, 16, 17, 4, 18, 19, 20, 21, 22, 23, 24, 25, 26, 27, 28, 29] (by decide +kernel) (by decide +kernel)
set_option maxRecDepth 20000 in
theorem gX8_clean_X8_record : GoodIn wsX8_clean (wsV RX8 52 RX8 yX8_record wsX8_record) := goodIn_app (goodIn_of _ (by decide +kernel)) ggX8_clean_X8_record
theorem dX8_clean_0 : decode cX8_clean 0 = .ok (.iload_n 1, 1) := by decide +kernel
theorem dX8_clean_1 : decode cX8_clean 1 = .ok (.iconst 0, 1) := by decide +kernel
theorem dX8_clean_2 : decode cX8_clean 2 = .ok (.iconst 3, 1) := by decide +kernel
theorem dX8_clean_3 : decode cX8_clean 3 = .ok (.invokestatic 33, 3) := by decide +kernel
theorem dX8_clean_6 : decode cX8_clean 6 = .ok (.ifCond .ne 5, 3) := by decide +kernel
theorem dX8_clean_9 : decode cX8_clean 9 = .ok (.iconst (-1), 1) := by decide +kernel
theorem dX8_clean_10 : decode cX8_clean 10 = .ok (.ireturn, 1) := by decide +kernel
theorem dX8_clean_11 : decode cX8_clean 11 = .ok (.aload_n 0, 1) := by decide +kernel
theorem dX8_clean_12 : decode cX8_clean 12 = .ok (.iload_n 1, 1) := by decide +kernel
theorem dX8_clean_13 : decode cX8_clean 13 = .ok (.iconst 0, 1) := by decide +kernel
theorem dX8_clean_14 : decode cX8_clean 14 = .ok (.invokevirtual 82, 3) := by decide +kernel
theorem dX8_clean_17 : decode cX8_clean 17 = .ok (.ifCond .ne 6, 3) := by decide +kernel
theorem dX8_clean_20 : decode cX8_clean 20 = .ok (.bipush (-2), 2) := by decide +kernel
theorem dX8_clean_22 : decode cX8_clean 22 = .ok (.ireturn, 1) := by decide +kernel
theorem dX8_clean_23 : decode cX8_clean 23 = .ok (.aload_n 0, 1) := by decide +kernel
theorem dX8_clean_24 : decode cX8_clean 24 = .ok (.invokevirtual 52, 3) := by decide +kernel
theorem dX8_clean_27 : decode cX8_clean 27 = .ok (.aload_n 0, 1) := by decide +kernel
theorem dX8_clean_28 : decode cX8_clean 28 = .ok (.iload_n 1, 1) := by decide +kernel
theorem dX8_clean_29 : decode cX8_clean 29 = .ok (.iconst 1, 1) := by decide +kernel
theorem dX8_clean_30 : decode cX8_clean 30 = .ok (.invokevirtual 82, 3) := by decide +kernel
theorem dX8_clean_33 : decode cX8_clean 33 = .ok (.istore_n 2, 1) := by decide +kernel
theorem dX8_clean_34 : decode cX8_clean 34 = .ok (.iconst 0, 1) := by decide +kernel
theorem dX8_clean_35 : decode cX8_clean 35 = .ok (.istore_n 3, 1) := by decide +kernel
theorem dX8_clean_36 : decode cX8_clean 36 = .ok (.iload_n 3, 1) := by decide +kernel
theorem dX8_clean_37 : decode cX8_clean 37 = .ok (.iconst 3, 1) := by decide +kernel
theorem dX8_clean_38 : decode cX8_clean 38 = .ok (.if_icmp .ge 23, 3) := by decide +kernel
theorem dX8_clean_41 : decode cX8_clean 41 = .ok (.aload_n 0, 1) := by decide +kernel
theorem dX8_clean_42 : decode cX8_clean 42 = .ok (.getfield 7, 3) := by decide +kernel
theorem dX8_clean_45 : decode cX8_clean 45 = .ok (.bipush 26, 2) := by decide +kernel
theorem dX8_clean_47 : decode cX8_clean 47 = .ok (.iconst 5, 1) := by decide +kernel
theorem dX8_clean_48 : decode cX8_clean 48 = .ok (.iload_n 1, 1) := by decide +kernel
theorem dX8_clean_49 : decode cX8_clean 49 = .ok (.imul, 1) := by decide +kernel
theorem dX8_clean_50 : decode cX8_clean 50 = .ok (.iadd, 1) := by decide +kernel
theorem dX8_clean_51 : decode cX8_clean 51 = .ok (.iload_n 3, 1) := by decide +kernel
theorem dX8_clean_52 : decode cX8_clean 52 = .ok (.iadd, 1) := by decide +kernel
theorem dX8_clean_53 : decode cX8_clean 53 = .ok (.iconst 0, 1) := by decide +kernel
theorem dX8_clean_54 : decode cX8_clean 54 = .ok (.iastore, 1) := by decide +kernel
theorem dX8_clean_55 : decode cX8_clean 55 = .ok (.iinc 3 1, 3) := by decide +kernel
theorem dX8_clean_58 : decode cX8_clean 58 = .ok (.goto (-22), 3) := by decide +kernel
theorem dX8_clean_61 : decode cX8_clean 61 = .ok (.iload_n 2, 1) := by decide +kernel
theorem dX8_clean_62 : decode cX8_clean 62 = .ok (.ireturn, 1) := by decide +kernel
set_option maxRecDepth 20000 in
theorem ggX8_stuck_X8_ofLine : GoodIn wsX8_stuck wsX8_ofLine := goodIn_r _ [5, 6, 7, 8, 9, 10, 11, 12, 13, 14, 15, 16, 17] (by decide +kernel) (by decide +kernel)
set_option maxRecDepth 20000 in
theorem gX8_stuck_X8_ofLine : GoodIn wsX8_stuck (wsV RX8 82 RX8 yX8_ofLine wsX8_ofLine) := goodIn_app (goodIn_of _ (by decide +kernel)) ggX8_stuck_X8_ofLine
theorem dX8_stuck_0 : decode cX8_stuck 0 = .ok (.iconst 0, 1) := by decide +kernel
theorem dX8_stuck_1 : decode cX8_stuck 1 = .ok (.istore_n 1, 1) := by decide +kernel
theorem dX8_stuck_2 : decode cX8_stuck 2 = .ok (.iconst 0, 1) := by decide +kernel
theorem dX8_stuck_3 : decode cX8_stuck 3 = .ok (.istore_n 2, 1) := by decide +kernel
theorem dX8_stuck_4 : decode cX8_stuck 4 = .ok (.iload_n 2, 1) := by decide +kernel
theorem dX8_stuck_5 : decode cX8_stuck 5 = .ok (.iconst 4, 1) := by decide +kernel
theorem dX8_stuck_6 : decode cX8_stuck 6 = .ok (.if_icmp .ge 18, 3) := by decide +kernel
theorem dX8_stuck_9 : decode cX8_stuck 9 = .ok (.iload_n 1, 1) := by decide +kernel
theorem dX8_stuck_10 : decode cX8_stuck 10 = .ok (.aload_n 0, 1) := by decide +kernel
theorem dX8_stuck_11 : decode cX8_stuck 11 = .ok (.iload_n 2, 1) := by decide +kernel
theorem dX8_stuck_12 : decode cX8_stuck 12 = .ok (.iconst 0, 1) := by decide +kernel
theorem dX8_stuck_13 : decode cX8_stuck 13 = .ok (.invokevirtual 82, 3) := by decide +kernel
theorem dX8_stuck_16 : decode cX8_stuck 16 = .ok (.iadd, 1) := by decide +kernel
theorem dX8_stuck_17 : decode cX8_stuck 17 = .ok (.istore_n 1, 1) := by decide +kernel
theorem dX8_stuck_18 : decode cX8_stuck 18 = .ok (.iinc 2 1, 3) := by decide +kernel
theorem dX8_stuck_21 : decode cX8_stuck 21 = .ok (.goto (-17), 3) := by decide +kernel
theorem dX8_stuck_24 : decode cX8_stuck 24 = .ok (.iload_n 1, 1) := by decide +kernel
theorem dX8_stuck_25 : decode cX8_stuck 25 = .ok (.ireturn, 1) := by decide +kernel
set_option maxRecDepth 20000 in
theorem ggX8_reasonNow_X8_stuck : GoodIn wsX8_reasonNow wsX8_stuck := goodIn_r _ [6, 7, 8, 9, 5, 10, 1, 11, 12, 13, 14, 15, 16, 17, 18, 19, 20, 21] (by decide +kernel) (by decide +kernel)
set_option maxRecDepth 20000 in
theorem gX8_reasonNow_X8_stuck : GoodIn wsX8_reasonNow (wsV RX8 85 RX8 yX8_stuck wsX8_stuck) := goodIn_app (goodIn_of _ (by decide +kernel)) ggX8_reasonNow_X8_stuck
theorem dX8_reasonNow_0 : decode cX8_reasonNow 0 = .ok (.aload_n 0, 1) := by decide +kernel
theorem dX8_reasonNow_1 : decode cX8_reasonNow 1 = .ok (.getfield 7, 3) := by decide +kernel
theorem dX8_reasonNow_4 : decode cX8_reasonNow 4 = .ok (.bipush 9, 2) := by decide +kernel
theorem dX8_reasonNow_6 : decode cX8_reasonNow 6 = .ok (.iaload, 1) := by decide +kernel
theorem dX8_reasonNow_7 : decode cX8_reasonNow 7 = .ok (.iload_n 1, 1) := by decide +kernel
theorem dX8_reasonNow_8 : decode cX8_reasonNow 8 = .ok (.if_icmp .ne 7, 3) := by decide +kernel
theorem dX8_reasonNow_11 : decode cX8_reasonNow 11 = .ok (.iconst 1, 1) := by decide +kernel
theorem dX8_reasonNow_12 : decode cX8_reasonNow 12 = .ok (.goto 36, 3) := by decide +kernel
theorem dX8_reasonNow_15 : decode cX8_reasonNow 15 = .ok (.aload_n 0, 1) := by decide +kernel
theorem dX8_reasonNow_16 : decode cX8_reasonNow 16 = .ok (.invokevirtual 85, 3) := by decide +kernel
theorem dX8_reasonNow_19 : decode cX8_reasonNow 19 = .ok (.iconst 4, 1) := by decide +kernel
theorem dX8_reasonNow_20 : decode cX8_reasonNow 20 = .ok (.if_icmp .ne 7, 3) := by decide +kernel
theorem dX8_reasonNow_23 : decode cX8_reasonNow 23 = .ok (.iconst 2, 1) := by decide +kernel
theorem dX8_reasonNow_24 : decode cX8_reasonNow 24 = .ok (.goto 24, 3) := by decide +kernel
theorem dX8_reasonNow_27 : decode cX8_reasonNow 27 = .ok (.aload_n 0, 1) := by decide +kernel
theorem dX8_reasonNow_28 : decode cX8_reasonNow 28 = .ok (.getfield 7, 3) := by decide +kernel
theorem dX8_reasonNow_31 : decode cX8_reasonNow 31 = .ok (.bipush 11, 2) := by decide +kernel
theorem dX8_reasonNow_33 : decode cX8_reasonNow 33 = .ok (.iaload, 1) := by decide +kernel
theorem dX8_reasonNow_34 : decode cX8_reasonNow 34 = .ok (.aload_n 0, 1) := by decide +kernel
theorem dX8_reasonNow_35 : decode cX8_reasonNow 35 = .ok (.getfield 7, 3) := by decide +kernel
theorem dX8_reasonNow_38 : decode cX8_reasonNow 38 = .ok (.iconst 2, 1) := by decide +kernel
theorem dX8_reasonNow_39 : decode cX8_reasonNow 39 = .ok (.iaload, 1) := by decide +kernel
theorem dX8_reasonNow_40 : decode cX8_reasonNow 40 = .ok (.if_icmp .lt 7, 3) := by decide +kernel
theorem dX8_reasonNow_43 : decode cX8_reasonNow 43 = .ok (.iconst 3, 1) := by decide +kernel
theorem dX8_reasonNow_44 : decode cX8_reasonNow 44 = .ok (.goto 4, 3) := by decide +kernel
theorem dX8_reasonNow_47 : decode cX8_reasonNow 47 = .ok (.iconst 0, 1) := by decide +kernel
theorem dX8_reasonNow_48 : decode cX8_reasonNow 48 = .ok (.ireturn, 1) := by decide +kernel
set_option maxRecDepth 20000 in
theorem ggX8_unit_X8_of : GoodIn wsX8_unit wsX8_of := goodIn_r _ [6, 1, 7, 8, 9, 10, 11, 12, 13, 14, 15, 16, 17] (by decide +kernel) (by decide +kernel)
set_option maxRecDepth 20000 in
theorem gX8_unit_X8_of : GoodIn wsX8_unit (wsV RX8 37 RX8 yX8_of wsX8_of) := goodIn_app (goodIn_of _ (by decide +kernel)) ggX8_unit_X8_of
theorem dX8_unit_0 : decode cX8_unit 0 = .ok (.aload_n 0, 1) := by decide +kernel
theorem dX8_unit_1 : decode cX8_unit 1 = .ok (.iload_n 1, 1) := by decide +kernel
theorem dX8_unit_2 : decode cX8_unit 2 = .ok (.iconst 2, 1) := by decide +kernel
theorem dX8_unit_3 : decode cX8_unit 3 = .ok (.invokevirtual 37, 3) := by decide +kernel
theorem dX8_unit_6 : decode cX8_unit 6 = .ok (.istore_n 2, 1) := by decide +kernel
theorem dX8_unit_7 : decode cX8_unit 7 = .ok (.aload_n 0, 1) := by decide +kernel
theorem dX8_unit_8 : decode cX8_unit 8 = .ok (.iload_n 1, 1) := by decide +kernel
theorem dX8_unit_9 : decode cX8_unit 9 = .ok (.iconst 0, 1) := by decide +kernel
theorem dX8_unit_10 : decode cX8_unit 10 = .ok (.invokevirtual 37, 3) := by decide +kernel
theorem dX8_unit_13 : decode cX8_unit 13 = .ok (.ifCond .ne 17, 3) := by decide +kernel
theorem dX8_unit_16 : decode cX8_unit 16 = .ok (.iload_n 2, 1) := by decide +kernel
theorem dX8_unit_17 : decode cX8_unit 17 = .ok (.aload_n 0, 1) := by decide +kernel
theorem dX8_unit_18 : decode cX8_unit 18 = .ok (.iload_n 1, 1) := by decide +kernel
theorem dX8_unit_19 : decode cX8_unit 19 = .ok (.iconst 3, 1) := by decide +kernel
theorem dX8_unit_20 : decode cX8_unit 20 = .ok (.invokevirtual 37, 3) := by decide +kernel
theorem dX8_unit_23 : decode cX8_unit 23 = .ok (.imul, 1) := by decide +kernel
theorem dX8_unit_24 : decode cX8_unit 24 = .ok (.bipush 100, 2) := by decide +kernel
theorem dX8_unit_26 : decode cX8_unit 26 = .ok (.idiv, 1) := by decide +kernel
theorem dX8_unit_27 : decode cX8_unit 27 = .ok (.goto 4, 3) := by decide +kernel
theorem dX8_unit_30 : decode cX8_unit 30 = .ok (.iconst 0, 1) := by decide +kernel
theorem dX8_unit_31 : decode cX8_unit 31 = .ok (.istore_n 3, 1) := by decide +kernel
theorem dX8_unit_32 : decode cX8_unit 32 = .ok (.aload_n 0, 1) := by decide +kernel
theorem dX8_unit_33 : decode cX8_unit 33 = .ok (.iload_n 1, 1) := by decide +kernel
theorem dX8_unit_34 : decode cX8_unit 34 = .ok (.iconst 0, 1) := by decide +kernel
theorem dX8_unit_35 : decode cX8_unit 35 = .ok (.invokevirtual 37, 3) := by decide +kernel
theorem dX8_unit_38 : decode cX8_unit 38 = .ok (.iconst 2, 1) := by decide +kernel
theorem dX8_unit_39 : decode cX8_unit 39 = .ok (.if_icmp .ne 12, 3) := by decide +kernel
theorem dX8_unit_42 : decode cX8_unit 42 = .ok (.aload_n 0, 1) := by decide +kernel
theorem dX8_unit_43 : decode cX8_unit 43 = .ok (.iload_n 1, 1) := by decide +kernel
theorem dX8_unit_44 : decode cX8_unit 44 = .ok (.iconst 3, 1) := by decide +kernel
theorem dX8_unit_45 : decode cX8_unit 45 = .ok (.invokevirtual 37, 3) := by decide +kernel
theorem dX8_unit_48 : decode cX8_unit 48 = .ok (.goto 4, 3) := by decide +kernel
theorem dX8_unit_51 : decode cX8_unit 51 = .ok (.iconst 0, 1) := by decide +kernel
theorem dX8_unit_52 : decode cX8_unit 52 = .ok (.istore 4, 2) := by decide +kernel
theorem dX8_unit_54 : decode cX8_unit 54 = .ok (.aload_n 0, 1) := by decide +kernel
theorem dX8_unit_55 : decode cX8_unit 55 = .ok (.getfield 7, 3) := by decide +kernel
theorem dX8_unit_58 : decode cX8_unit 58 = .ok (.bipush 10, 2) := by decide +kernel
theorem dX8_unit_60 : decode cX8_unit 60 = .ok (.dup2, 1) := by decide +kernel
theorem dX8_unit_61 : decode cX8_unit 61 = .ok (.iaload, 1) := by decide +kernel
theorem dX8_unit_62 : decode cX8_unit 62 = .ok (.aload_n 0, 1) := by decide +kernel
theorem dX8_unit_63 : decode cX8_unit 63 = .ok (.getfield 7, 3) := by decide +kernel
theorem dX8_unit_66 : decode cX8_unit 66 = .ok (.iconst 1, 1) := by decide +kernel
theorem dX8_unit_67 : decode cX8_unit 67 = .ok (.iaload, 1) := by decide +kernel
theorem dX8_unit_68 : decode cX8_unit 68 = .ok (.iload_n 2, 1) := by decide +kernel
theorem dX8_unit_69 : decode cX8_unit 69 = .ok (.imul, 1) := by decide +kernel
theorem dX8_unit_70 : decode cX8_unit 70 = .ok (.bipush 100, 2) := by decide +kernel
theorem dX8_unit_72 : decode cX8_unit 72 = .ok (.idiv, 1) := by decide +kernel
theorem dX8_unit_73 : decode cX8_unit 73 = .ok (.isub, 1) := by decide +kernel
theorem dX8_unit_74 : decode cX8_unit 74 = .ok (.iastore, 1) := by decide +kernel
theorem dX8_unit_75 : decode cX8_unit 75 = .ok (.aload_n 0, 1) := by decide +kernel
theorem dX8_unit_76 : decode cX8_unit 76 = .ok (.getfield 7, 3) := by decide +kernel
theorem dX8_unit_79 : decode cX8_unit 79 = .ok (.bipush 9, 2) := by decide +kernel
theorem dX8_unit_81 : decode cX8_unit 81 = .ok (.dup2, 1) := by decide +kernel
theorem dX8_unit_82 : decode cX8_unit 82 = .ok (.iaload, 1) := by decide +kernel
theorem dX8_unit_83 : decode cX8_unit 83 = .ok (.iconst 1, 1) := by decide +kernel
theorem dX8_unit_84 : decode cX8_unit 84 = .ok (.iadd, 1) := by decide +kernel
theorem dX8_unit_85 : decode cX8_unit 85 = .ok (.iastore, 1) := by decide +kernel
theorem dX8_unit_86 : decode cX8_unit 86 = .ok (.aload_n 0, 1) := by decide +kernel
theorem dX8_unit_87 : decode cX8_unit 87 = .ok (.getfield 7, 3) := by decide +kernel
theorem dX8_unit_90 : decode cX8_unit 90 = .ok (.bipush 11, 2) := by decide +kernel
theorem dX8_unit_92 : decode cX8_unit 92 = .ok (.dup2, 1) := by decide +kernel
theorem dX8_unit_93 : decode cX8_unit 93 = .ok (.iaload, 1) := by decide +kernel
theorem dX8_unit_94 : decode cX8_unit 94 = .ok (.iload_n 2, 1) := by decide +kernel
theorem dX8_unit_95 : decode cX8_unit 95 = .ok (.iadd, 1) := by decide +kernel
theorem dX8_unit_96 : decode cX8_unit 96 = .ok (.iastore, 1) := by decide +kernel
theorem dX8_unit_97 : decode cX8_unit 97 = .ok (.aload_n 0, 1) := by decide +kernel
theorem dX8_unit_98 : decode cX8_unit 98 = .ok (.getfield 7, 3) := by decide +kernel
theorem dX8_unit_101 : decode cX8_unit 101 = .ok (.bipush 12, 2) := by decide +kernel
theorem dX8_unit_103 : decode cX8_unit 103 = .ok (.dup2, 1) := by decide +kernel
theorem dX8_unit_104 : decode cX8_unit 104 = .ok (.iaload, 1) := by decide +kernel
theorem dX8_unit_105 : decode cX8_unit 105 = .ok (.iload_n 3, 1) := by decide +kernel
theorem dX8_unit_106 : decode cX8_unit 106 = .ok (.iadd, 1) := by decide +kernel
theorem dX8_unit_107 : decode cX8_unit 107 = .ok (.iastore, 1) := by decide +kernel
theorem dX8_unit_108 : decode cX8_unit 108 = .ok (.aload_n 0, 1) := by decide +kernel
theorem dX8_unit_109 : decode cX8_unit 109 = .ok (.getfield 7, 3) := by decide +kernel
theorem dX8_unit_112 : decode cX8_unit 112 = .ok (.bipush 13, 2) := by decide +kernel
theorem dX8_unit_114 : decode cX8_unit 114 = .ok (.dup2, 1) := by decide +kernel
theorem dX8_unit_115 : decode cX8_unit 115 = .ok (.iaload, 1) := by decide +kernel
theorem dX8_unit_116 : decode cX8_unit 116 = .ok (.iload 4, 2) := by decide +kernel
theorem dX8_unit_118 : decode cX8_unit 118 = .ok (.iadd, 1) := by decide +kernel
theorem dX8_unit_119 : decode cX8_unit 119 = .ok (.iastore, 1) := by decide +kernel
theorem dX8_unit_120 : decode cX8_unit 120 = .ok (.aload_n 0, 1) := by decide +kernel
theorem dX8_unit_121 : decode cX8_unit 121 = .ok (.getfield 7, 3) := by decide +kernel
theorem dX8_unit_124 : decode cX8_unit 124 = .ok (.bipush 19, 2) := by decide +kernel
theorem dX8_unit_126 : decode cX8_unit 126 = .ok (.dup2, 1) := by decide +kernel
theorem dX8_unit_127 : decode cX8_unit 127 = .ok (.iaload, 1) := by decide +kernel
theorem dX8_unit_128 : decode cX8_unit 128 = .ok (.iload_n 2, 1) := by decide +kernel
theorem dX8_unit_129 : decode cX8_unit 129 = .ok (.iadd, 1) := by decide +kernel
theorem dX8_unit_130 : decode cX8_unit 130 = .ok (.iastore, 1) := by decide +kernel
theorem dX8_unit_131 : decode cX8_unit 131 = .ok (.aload_n 0, 1) := by decide +kernel
theorem dX8_unit_132 : decode cX8_unit 132 = .ok (.getfield 7, 3) := by decide +kernel
theorem dX8_unit_135 : decode cX8_unit 135 = .ok (.bipush 22, 2) := by decide +kernel
theorem dX8_unit_137 : decode cX8_unit 137 = .ok (.dup2, 1) := by decide +kernel
theorem dX8_unit_138 : decode cX8_unit 138 = .ok (.iaload, 1) := by decide +kernel
theorem dX8_unit_139 : decode cX8_unit 139 = .ok (.iload_n 3, 1) := by decide +kernel
theorem dX8_unit_140 : decode cX8_unit 140 = .ok (.iadd, 1) := by decide +kernel
theorem dX8_unit_141 : decode cX8_unit 141 = .ok (.iastore, 1) := by decide +kernel
theorem dX8_unit_142 : decode cX8_unit 142 = .ok (.aload_n 0, 1) := by decide +kernel
theorem dX8_unit_143 : decode cX8_unit 143 = .ok (.getfield 7, 3) := by decide +kernel
theorem dX8_unit_146 : decode cX8_unit 146 = .ok (.bipush 24, 2) := by decide +kernel
theorem dX8_unit_148 : decode cX8_unit 148 = .ok (.dup2, 1) := by decide +kernel
theorem dX8_unit_149 : decode cX8_unit 149 = .ok (.iaload, 1) := by decide +kernel
theorem dX8_unit_150 : decode cX8_unit 150 = .ok (.iload 4, 2) := by decide +kernel
theorem dX8_unit_152 : decode cX8_unit 152 = .ok (.iadd, 1) := by decide +kernel
theorem dX8_unit_153 : decode cX8_unit 153 = .ok (.iastore, 1) := by decide +kernel
theorem dX8_unit_154 : decode cX8_unit 154 = .ok (.return_, 1) := by decide +kernel
set_option maxRecDepth 20000 in
theorem ggX8_melts_X8_segmentOf : GoodIn wsX8_melts wsX8_segmentOf := goodIn_r _ [6, 1, 7, 8, 9, 5, 10, 11, 12, 13, 14, 19, 20, 21, 22, 23, 24, 25, 26, 27, 28, 29] (by decide +kernel) (by decide +kernel)
set_option maxRecDepth 20000 in
theorem gX8_melts_X8_segmentOf : GoodIn wsX8_melts (wsV RX8 68 RX8 yX8_segmentOf wsX8_segmentOf) := goodIn_app (goodIn_of _ (by decide +kernel)) ggX8_melts_X8_segmentOf
set_option maxRecDepth 20000 in
theorem ggX8_melts_X8_of : GoodIn wsX8_melts wsX8_of := goodIn_r _ [14, 1, 19, 20, 21, 22, 23, 24, 25, 26, 27, 28, 29] (by decide +kernel) (by decide +kernel)
set_option maxRecDepth 20000 in
theorem gX8_melts_X8_of : GoodIn wsX8_melts (wsV RX8 37 RX8 yX8_of wsX8_of) := goodIn_app (goodIn_of _ (by decide +kernel)) ggX8_melts_X8_of
set_option maxRecDepth 20000 in
theorem ggX8_melts_X8_lower : GoodIn wsX8_melts wsX8_lower := goodIn_r _ [10, 11, 12, 13, 5, 14, 1, 19, 20, 21, 22, 23, 24, 25, 26, 27, 28, 29] (by decide +kernel) (by decide +kernel)
set_option maxRecDepth 20000 in
theorem gX8_melts_X8_lower : GoodIn wsX8_melts (wsV RX8 41 RX8 yX8_lower wsX8_lower) := goodIn_app (goodIn_of _ (by decide +kernel)) ggX8_melts_X8_lower
set_option maxRecDepth 20000 in
theorem ggX8_melts_X8_unit : GoodIn wsX8_melts wsX8_unit := goodIn_r _ [18, 1, 11, 12, 13, 5, 14, 19, 20, 21, 22, 23, 24, 25, 26, 27, 28, 29] (by decide +kernel) (by decide +kernel)
set_option maxRecDepth 20000 in
theorem gX8_melts_X8_unit : GoodIn wsX8_melts (wsV RX8 88 RX8 yX8_unit wsX8_unit) := goodIn_app (goodIn_of _ (by decide +kernel)) ggX8_melts_X8_unit
theorem dX8_melts_0 : decode cX8_melts 0 = .ok (.aload_n 0, 1) := by decide +kernel
theorem dX8_melts_1 : decode cX8_melts 1 = .ok (.getfield 7, 3) := by decide +kernel
theorem dX8_melts_4 : decode cX8_melts 4 = .ok (.bipush 10, 2) := by decide +kernel
theorem dX8_melts_6 : decode cX8_melts 6 = .ok (.dup2, 1) := by decide +kernel
theorem dX8_melts_7 : decode cX8_melts 7 = .ok (.iaload, 1) := by decide +kernel
theorem dX8_melts_8 : decode cX8_melts 8 = .ok (.aload_n 0, 1) := by decide +kernel
theorem dX8_melts_9 : decode cX8_melts 9 = .ok (.getfield 7, 3) := by decide +kernel
theorem dX8_melts_12 : decode cX8_melts 12 = .ok (.iconst 0, 1) := by decide +kernel
theorem dX8_melts_13 : decode cX8_melts 13 = .ok (.iaload, 1) := by decide +kernel
theorem dX8_melts_14 : decode cX8_melts 14 = .ok (.iadd, 1) := by decide +kernel
theorem dX8_melts_15 : decode cX8_melts 15 = .ok (.iastore, 1) := by decide +kernel
theorem dX8_melts_16 : decode cX8_melts 16 = .ok (.iconst 1, 1) := by decide +kernel
theorem dX8_melts_17 : decode cX8_melts 17 = .ok (.istore_n 2, 1) := by decide +kernel
theorem dX8_melts_18 : decode cX8_melts 18 = .ok (.iload_n 2, 1) := by decide +kernel
theorem dX8_melts_19 : decode cX8_melts 19 = .ok (.ifCond .eq 108, 3) := by decide +kernel
theorem dX8_melts_22 : decode cX8_melts 22 = .ok (.aload_n 0, 1) := by decide +kernel
theorem dX8_melts_23 : decode cX8_melts 23 = .ok (.getfield 7, 3) := by decide +kernel
theorem dX8_melts_26 : decode cX8_melts 26 = .ok (.bipush 9, 2) := by decide +kernel
theorem dX8_melts_28 : decode cX8_melts 28 = .ok (.iaload, 1) := by decide +kernel
theorem dX8_melts_29 : decode cX8_melts 29 = .ok (.iload_n 1, 1) := by decide +kernel
theorem dX8_melts_30 : decode cX8_melts 30 = .ok (.if_icmp .ge 97, 3) := by decide +kernel
theorem dX8_melts_33 : decode cX8_melts 33 = .ok (.aload_n 0, 1) := by decide +kernel
theorem dX8_melts_34 : decode cX8_melts 34 = .ok (.getfield 7, 3) := by decide +kernel
theorem dX8_melts_37 : decode cX8_melts 37 = .ok (.bipush 11, 2) := by decide +kernel
theorem dX8_melts_39 : decode cX8_melts 39 = .ok (.iaload, 1) := by decide +kernel
theorem dX8_melts_40 : decode cX8_melts 40 = .ok (.aload_n 0, 1) := by decide +kernel
theorem dX8_melts_41 : decode cX8_melts 41 = .ok (.getfield 7, 3) := by decide +kernel
theorem dX8_melts_44 : decode cX8_melts 44 = .ok (.iconst 2, 1) := by decide +kernel
theorem dX8_melts_45 : decode cX8_melts 45 = .ok (.iaload, 1) := by decide +kernel
theorem dX8_melts_46 : decode cX8_melts 46 = .ok (.if_icmp .ge 81, 3) := by decide +kernel
theorem dX8_melts_49 : decode cX8_melts 49 = .ok (.aload_n 0, 1) := by decide +kernel
theorem dX8_melts_50 : decode cX8_melts 50 = .ok (.aload_n 0, 1) := by decide +kernel
theorem dX8_melts_51 : decode cX8_melts 51 = .ok (.getfield 7, 3) := by decide +kernel
theorem dX8_melts_54 : decode cX8_melts 54 = .ok (.bipush 9, 2) := by decide +kernel
theorem dX8_melts_56 : decode cX8_melts 56 = .ok (.iaload, 1) := by decide +kernel
theorem dX8_melts_57 : decode cX8_melts 57 = .ok (.invokevirtual 68, 3) := by decide +kernel
theorem dX8_melts_60 : decode cX8_melts 60 = .ok (.istore_n 3, 1) := by decide +kernel
theorem dX8_melts_61 : decode cX8_melts 61 = .ok (.aload_n 0, 1) := by decide +kernel
theorem dX8_melts_62 : decode cX8_melts 62 = .ok (.iload_n 3, 1) := by decide +kernel
theorem dX8_melts_63 : decode cX8_melts 63 = .ok (.iconst 0, 1) := by decide +kernel
theorem dX8_melts_64 : decode cX8_melts 64 = .ok (.invokevirtual 37, 3) := by decide +kernel
theorem dX8_melts_67 : decode cX8_melts 67 = .ok (.iconst 1, 1) := by decide +kernel
theorem dX8_melts_68 : decode cX8_melts 68 = .ok (.if_icmp .ne 20, 3) := by decide +kernel
theorem dX8_melts_71 : decode cX8_melts 71 = .ok (.aload_n 0, 1) := by decide +kernel
theorem dX8_melts_72 : decode cX8_melts 72 = .ok (.getfield 7, 3) := by decide +kernel
theorem dX8_melts_75 : decode cX8_melts 75 = .ok (.bipush 9, 2) := by decide +kernel
theorem dX8_melts_77 : decode cX8_melts 77 = .ok (.aload_n 0, 1) := by decide +kernel
theorem dX8_melts_78 : decode cX8_melts 78 = .ok (.iload_n 3, 1) := by decide +kernel
theorem dX8_melts_79 : decode cX8_melts 79 = .ok (.iconst 1, 1) := by decide +kernel
theorem dX8_melts_80 : decode cX8_melts 80 = .ok (.iadd, 1) := by decide +kernel
theorem dX8_melts_81 : decode cX8_melts 81 = .ok (.invokevirtual 41, 3) := by decide +kernel
theorem dX8_melts_84 : decode cX8_melts 84 = .ok (.iastore, 1) := by decide +kernel
theorem dX8_melts_85 : decode cX8_melts 85 = .ok (.goto 39, 3) := by decide +kernel
theorem dX8_melts_88 : decode cX8_melts 88 = .ok (.aload_n 0, 1) := by decide +kernel
theorem dX8_melts_89 : decode cX8_melts 89 = .ok (.getfield 7, 3) := by decide +kernel
theorem dX8_melts_92 : decode cX8_melts 92 = .ok (.bipush 10, 2) := by decide +kernel
theorem dX8_melts_94 : decode cX8_melts 94 = .ok (.iaload, 1) := by decide +kernel
theorem dX8_melts_95 : decode cX8_melts 95 = .ok (.aload_n 0, 1) := by decide +kernel
theorem dX8_melts_96 : decode cX8_melts 96 = .ok (.getfield 7, 3) := by decide +kernel
theorem dX8_melts_99 : decode cX8_melts 99 = .ok (.iconst 1, 1) := by decide +kernel
theorem dX8_melts_100 : decode cX8_melts 100 = .ok (.iaload, 1) := by decide +kernel
theorem dX8_melts_101 : decode cX8_melts 101 = .ok (.aload_n 0, 1) := by decide +kernel
theorem dX8_melts_102 : decode cX8_melts 102 = .ok (.iload_n 3, 1) := by decide +kernel
theorem dX8_melts_103 : decode cX8_melts 103 = .ok (.iconst 2, 1) := by decide +kernel
theorem dX8_melts_104 : decode cX8_melts 104 = .ok (.invokevirtual 37, 3) := by decide +kernel
theorem dX8_melts_107 : decode cX8_melts 107 = .ok (.imul, 1) := by decide +kernel
theorem dX8_melts_108 : decode cX8_melts 108 = .ok (.bipush 100, 2) := by decide +kernel
theorem dX8_melts_110 : decode cX8_melts 110 = .ok (.idiv, 1) := by decide +kernel
theorem dX8_melts_111 : decode cX8_melts 111 = .ok (.if_icmp .lt 11, 3) := by decide +kernel
theorem dX8_melts_114 : decode cX8_melts 114 = .ok (.aload_n 0, 1) := by decide +kernel
theorem dX8_melts_115 : decode cX8_melts 115 = .ok (.iload_n 3, 1) := by decide +kernel
theorem dX8_melts_116 : decode cX8_melts 116 = .ok (.invokevirtual 88, 3) := by decide +kernel
theorem dX8_melts_119 : decode cX8_melts 119 = .ok (.goto 5, 3) := by decide +kernel
theorem dX8_melts_122 : decode cX8_melts 122 = .ok (.iconst 0, 1) := by decide +kernel
theorem dX8_melts_123 : decode cX8_melts 123 = .ok (.istore_n 2, 1) := by decide +kernel
theorem dX8_melts_124 : decode cX8_melts 124 = .ok (.goto (-106), 3) := by decide +kernel
theorem dX8_melts_127 : decode cX8_melts 127 = .ok (.aload_n 0, 1) := by decide +kernel
theorem dX8_melts_128 : decode cX8_melts 128 = .ok (.getfield 7, 3) := by decide +kernel
theorem dX8_melts_131 : decode cX8_melts 131 = .ok (.bipush 10, 2) := by decide +kernel
theorem dX8_melts_133 : decode cX8_melts 133 = .ok (.aload_n 0, 1) := by decide +kernel
theorem dX8_melts_134 : decode cX8_melts 134 = .ok (.getfield 7, 3) := by decide +kernel
theorem dX8_melts_137 : decode cX8_melts 137 = .ok (.bipush 9, 2) := by decide +kernel
theorem dX8_melts_139 : decode cX8_melts 139 = .ok (.iaload, 1) := by decide +kernel
theorem dX8_melts_140 : decode cX8_melts 140 = .ok (.iload_n 1, 1) := by decide +kernel
theorem dX8_melts_141 : decode cX8_melts 141 = .ok (.if_icmp .ne 7, 3) := by decide +kernel
theorem dX8_melts_144 : decode cX8_melts 144 = .ok (.iconst 0, 1) := by decide +kernel
theorem dX8_melts_145 : decode cX8_melts 145 = .ok (.goto 10, 3) := by decide +kernel
theorem dX8_melts_148 : decode cX8_melts 148 = .ok (.aload_n 0, 1) := by decide +kernel
theorem dX8_melts_149 : decode cX8_melts 149 = .ok (.getfield 7, 3) := by decide +kernel
theorem dX8_melts_152 : decode cX8_melts 152 = .ok (.bipush 10, 2) := by decide +kernel
theorem dX8_melts_154 : decode cX8_melts 154 = .ok (.iaload, 1) := by decide +kernel
theorem dX8_melts_155 : decode cX8_melts 155 = .ok (.iastore, 1) := by decide +kernel
theorem dX8_melts_156 : decode cX8_melts 156 = .ok (.return_, 1) := by decide +kernel
set_option maxRecDepth 20000 in
theorem ggX8_draws_X8_lesser : GoodIn wsX8_draws wsX8_lesser := goodIn_r _ [5] (by decide +kernel) (by decide +kernel)
set_option maxRecDepth 20000 in
theorem gX8_draws_X8_lesser : GoodIn wsX8_draws (va_wsS RX8 59 yX8_lesser wsX8_lesser) := goodIn_app (goodIn_of _ (by decide +kernel)) ggX8_draws_X8_lesser
theorem dX8_draws_0 : decode cX8_draws 0 = .ok (.bipush 26, 2) := by decide +kernel
theorem dX8_draws_2 : decode cX8_draws 2 = .ok (.iconst 5, 1) := by decide +kernel
theorem dX8_draws_3 : decode cX8_draws 3 = .ok (.iload_n 1, 1) := by decide +kernel
theorem dX8_draws_4 : decode cX8_draws 4 = .ok (.imul, 1) := by decide +kernel
theorem dX8_draws_5 : decode cX8_draws 5 = .ok (.iadd, 1) := by decide +kernel
theorem dX8_draws_6 : decode cX8_draws 6 = .ok (.istore_n 2, 1) := by decide +kernel
theorem dX8_draws_7 : decode cX8_draws 7 = .ok (.aload_n 0, 1) := by decide +kernel
theorem dX8_draws_8 : decode cX8_draws 8 = .ok (.getfield 7, 3) := by decide +kernel
theorem dX8_draws_11 : decode cX8_draws 11 = .ok (.iconst 3, 1) := by decide +kernel
theorem dX8_draws_12 : decode cX8_draws 12 = .ok (.iaload, 1) := by decide +kernel
theorem dX8_draws_13 : decode cX8_draws 13 = .ok (.aload_n 0, 1) := by decide +kernel
theorem dX8_draws_14 : decode cX8_draws 14 = .ok (.getfield 7, 3) := by decide +kernel
theorem dX8_draws_17 : decode cX8_draws 17 = .ok (.bipush 11, 2) := by decide +kernel
theorem dX8_draws_19 : decode cX8_draws 19 = .ok (.iaload, 1) := by decide +kernel
theorem dX8_draws_20 : decode cX8_draws 20 = .ok (.invokestatic 59, 3) := by decide +kernel
theorem dX8_draws_23 : decode cX8_draws 23 = .ok (.istore_n 3, 1) := by decide +kernel
theorem dX8_draws_24 : decode cX8_draws 24 = .ok (.iload_n 3, 1) := by decide +kernel
theorem dX8_draws_25 : decode cX8_draws 25 = .ok (.ifCond .ne 4, 3) := by decide +kernel
theorem dX8_draws_28 : decode cX8_draws 28 = .ok (.return_, 1) := by decide +kernel
theorem dX8_draws_29 : decode cX8_draws 29 = .ok (.aload_n 0, 1) := by decide +kernel
theorem dX8_draws_30 : decode cX8_draws 30 = .ok (.getfield 7, 3) := by decide +kernel
theorem dX8_draws_33 : decode cX8_draws 33 = .ok (.bipush 12, 2) := by decide +kernel
theorem dX8_draws_35 : decode cX8_draws 35 = .ok (.iaload, 1) := by decide +kernel
theorem dX8_draws_36 : decode cX8_draws 36 = .ok (.iload_n 3, 1) := by decide +kernel
theorem dX8_draws_37 : decode cX8_draws 37 = .ok (.imul, 1) := by decide +kernel
theorem dX8_draws_38 : decode cX8_draws 38 = .ok (.aload_n 0, 1) := by decide +kernel
theorem dX8_draws_39 : decode cX8_draws 39 = .ok (.getfield 7, 3) := by decide +kernel
theorem dX8_draws_42 : decode cX8_draws 42 = .ok (.bipush 11, 2) := by decide +kernel
theorem dX8_draws_44 : decode cX8_draws 44 = .ok (.iaload, 1) := by decide +kernel
theorem dX8_draws_45 : decode cX8_draws 45 = .ok (.idiv, 1) := by decide +kernel
theorem dX8_draws_46 : decode cX8_draws 46 = .ok (.istore 4, 2) := by decide +kernel
theorem dX8_draws_48 : decode cX8_draws 48 = .ok (.aload_n 0, 1) := by decide +kernel
theorem dX8_draws_49 : decode cX8_draws 49 = .ok (.getfield 7, 3) := by decide +kernel
theorem dX8_draws_52 : decode cX8_draws 52 = .ok (.bipush 13, 2) := by decide +kernel
theorem dX8_draws_54 : decode cX8_draws 54 = .ok (.iaload, 1) := by decide +kernel
theorem dX8_draws_55 : decode cX8_draws 55 = .ok (.iload_n 3, 1) := by decide +kernel
theorem dX8_draws_56 : decode cX8_draws 56 = .ok (.imul, 1) := by decide +kernel
theorem dX8_draws_57 : decode cX8_draws 57 = .ok (.aload_n 0, 1) := by decide +kernel
theorem dX8_draws_58 : decode cX8_draws 58 = .ok (.getfield 7, 3) := by decide +kernel
theorem dX8_draws_61 : decode cX8_draws 61 = .ok (.bipush 11, 2) := by decide +kernel
theorem dX8_draws_63 : decode cX8_draws 63 = .ok (.iaload, 1) := by decide +kernel
theorem dX8_draws_64 : decode cX8_draws 64 = .ok (.idiv, 1) := by decide +kernel
theorem dX8_draws_65 : decode cX8_draws 65 = .ok (.istore 5, 2) := by decide +kernel
theorem dX8_draws_67 : decode cX8_draws 67 = .ok (.aload_n 0, 1) := by decide +kernel
theorem dX8_draws_68 : decode cX8_draws 68 = .ok (.getfield 7, 3) := by decide +kernel
theorem dX8_draws_71 : decode cX8_draws 71 = .ok (.bipush 11, 2) := by decide +kernel
theorem dX8_draws_73 : decode cX8_draws 73 = .ok (.dup2, 1) := by decide +kernel
theorem dX8_draws_74 : decode cX8_draws 74 = .ok (.iaload, 1) := by decide +kernel
theorem dX8_draws_75 : decode cX8_draws 75 = .ok (.iload_n 3, 1) := by decide +kernel
theorem dX8_draws_76 : decode cX8_draws 76 = .ok (.isub, 1) := by decide +kernel
theorem dX8_draws_77 : decode cX8_draws 77 = .ok (.iastore, 1) := by decide +kernel
theorem dX8_draws_78 : decode cX8_draws 78 = .ok (.aload_n 0, 1) := by decide +kernel
theorem dX8_draws_79 : decode cX8_draws 79 = .ok (.getfield 7, 3) := by decide +kernel
theorem dX8_draws_82 : decode cX8_draws 82 = .ok (.bipush 12, 2) := by decide +kernel
theorem dX8_draws_84 : decode cX8_draws 84 = .ok (.dup2, 1) := by decide +kernel
theorem dX8_draws_85 : decode cX8_draws 85 = .ok (.iaload, 1) := by decide +kernel
theorem dX8_draws_86 : decode cX8_draws 86 = .ok (.iload 4, 2) := by decide +kernel
theorem dX8_draws_88 : decode cX8_draws 88 = .ok (.isub, 1) := by decide +kernel
theorem dX8_draws_89 : decode cX8_draws 89 = .ok (.iastore, 1) := by decide +kernel
theorem dX8_draws_90 : decode cX8_draws 90 = .ok (.aload_n 0, 1) := by decide +kernel
theorem dX8_draws_91 : decode cX8_draws 91 = .ok (.getfield 7, 3) := by decide +kernel
theorem dX8_draws_94 : decode cX8_draws 94 = .ok (.bipush 13, 2) := by decide +kernel
theorem dX8_draws_96 : decode cX8_draws 96 = .ok (.dup2, 1) := by decide +kernel
theorem dX8_draws_97 : decode cX8_draws 97 = .ok (.iaload, 1) := by decide +kernel
theorem dX8_draws_98 : decode cX8_draws 98 = .ok (.iload 5, 2) := by decide +kernel
theorem dX8_draws_100 : decode cX8_draws 100 = .ok (.isub, 1) := by decide +kernel
theorem dX8_draws_101 : decode cX8_draws 101 = .ok (.iastore, 1) := by decide +kernel
theorem dX8_draws_102 : decode cX8_draws 102 = .ok (.aload_n 0, 1) := by decide +kernel
theorem dX8_draws_103 : decode cX8_draws 103 = .ok (.getfield 7, 3) := by decide +kernel
theorem dX8_draws_106 : decode cX8_draws 106 = .ok (.bipush 23, 2) := by decide +kernel
theorem dX8_draws_108 : decode cX8_draws 108 = .ok (.dup2, 1) := by decide +kernel
theorem dX8_draws_109 : decode cX8_draws 109 = .ok (.iaload, 1) := by decide +kernel
theorem dX8_draws_110 : decode cX8_draws 110 = .ok (.iload 4, 2) := by decide +kernel
theorem dX8_draws_112 : decode cX8_draws 112 = .ok (.iadd, 1) := by decide +kernel
theorem dX8_draws_113 : decode cX8_draws 113 = .ok (.iastore, 1) := by decide +kernel
theorem dX8_draws_114 : decode cX8_draws 114 = .ok (.aload_n 0, 1) := by decide +kernel
theorem dX8_draws_115 : decode cX8_draws 115 = .ok (.getfield 7, 3) := by decide +kernel
theorem dX8_draws_118 : decode cX8_draws 118 = .ok (.bipush 25, 2) := by decide +kernel
theorem dX8_draws_120 : decode cX8_draws 120 = .ok (.dup2, 1) := by decide +kernel
theorem dX8_draws_121 : decode cX8_draws 121 = .ok (.iaload, 1) := by decide +kernel
theorem dX8_draws_122 : decode cX8_draws 122 = .ok (.iload 5, 2) := by decide +kernel
theorem dX8_draws_124 : decode cX8_draws 124 = .ok (.iadd, 1) := by decide +kernel
theorem dX8_draws_125 : decode cX8_draws 125 = .ok (.iastore, 1) := by decide +kernel
theorem dX8_draws_126 : decode cX8_draws 126 = .ok (.bipush 100, 2) := by decide +kernel
theorem dX8_draws_128 : decode cX8_draws 128 = .ok (.iload 4, 2) := by decide +kernel
theorem dX8_draws_130 : decode cX8_draws 130 = .ok (.imul, 1) := by decide +kernel
theorem dX8_draws_131 : decode cX8_draws 131 = .ok (.iload_n 3, 1) := by decide +kernel
theorem dX8_draws_132 : decode cX8_draws 132 = .ok (.idiv, 1) := by decide +kernel
theorem dX8_draws_133 : decode cX8_draws 133 = .ok (.aload_n 0, 1) := by decide +kernel
theorem dX8_draws_134 : decode cX8_draws 134 = .ok (.getfield 7, 3) := by decide +kernel
theorem dX8_draws_137 : decode cX8_draws 137 = .ok (.iconst 5, 1) := by decide +kernel
theorem dX8_draws_138 : decode cX8_draws 138 = .ok (.iaload, 1) := by decide +kernel
theorem dX8_draws_139 : decode cX8_draws 139 = .ok (.if_icmp .le 7, 3) := by decide +kernel
theorem dX8_draws_142 : decode cX8_draws 142 = .ok (.iconst 1, 1) := by decide +kernel
theorem dX8_draws_143 : decode cX8_draws 143 = .ok (.goto 4, 3) := by decide +kernel
theorem dX8_draws_146 : decode cX8_draws 146 = .ok (.iconst 0, 1) := by decide +kernel
theorem dX8_draws_147 : decode cX8_draws 147 = .ok (.istore 6, 2) := by decide +kernel
theorem dX8_draws_149 : decode cX8_draws 149 = .ok (.iload 6, 2) := by decide +kernel
theorem dX8_draws_151 : decode cX8_draws 151 = .ok (.ifCond .ne 14, 3) := by decide +kernel
theorem dX8_draws_154 : decode cX8_draws 154 = .ok (.aload_n 0, 1) := by decide +kernel
theorem dX8_draws_155 : decode cX8_draws 155 = .ok (.getfield 7, 3) := by decide +kernel
theorem dX8_draws_158 : decode cX8_draws 158 = .ok (.iload_n 2, 1) := by decide +kernel
theorem dX8_draws_159 : decode cX8_draws 159 = .ok (.iconst 2, 1) := by decide +kernel
theorem dX8_draws_160 : decode cX8_draws 160 = .ok (.iadd, 1) := by decide +kernel
theorem dX8_draws_161 : decode cX8_draws 161 = .ok (.iaload, 1) := by decide +kernel
theorem dX8_draws_162 : decode cX8_draws 162 = .ok (.ifCond .le 7, 3) := by decide +kernel
theorem dX8_draws_165 : decode cX8_draws 165 = .ok (.iconst 1, 1) := by decide +kernel
theorem dX8_draws_166 : decode cX8_draws 166 = .ok (.goto 4, 3) := by decide +kernel
theorem dX8_draws_169 : decode cX8_draws 169 = .ok (.iconst 0, 1) := by decide +kernel
theorem dX8_draws_170 : decode cX8_draws 170 = .ok (.istore 7, 2) := by decide +kernel
theorem dX8_draws_172 : decode cX8_draws 172 = .ok (.iload 6, 2) := by decide +kernel
theorem dX8_draws_174 : decode cX8_draws 174 = .ok (.ifCond .eq 7, 3) := by decide +kernel
theorem dX8_draws_177 : decode cX8_draws 177 = .ok (.iconst 1, 1) := by decide +kernel
theorem dX8_draws_178 : decode cX8_draws 178 = .ok (.goto 28, 3) := by decide +kernel
theorem dX8_draws_181 : decode cX8_draws 181 = .ok (.aload_n 0, 1) := by decide +kernel
theorem dX8_draws_182 : decode cX8_draws 182 = .ok (.getfield 7, 3) := by decide +kernel
theorem dX8_draws_185 : decode cX8_draws 185 = .ok (.iload_n 2, 1) := by decide +kernel
theorem dX8_draws_186 : decode cX8_draws 186 = .ok (.iconst 2, 1) := by decide +kernel
theorem dX8_draws_187 : decode cX8_draws 187 = .ok (.iadd, 1) := by decide +kernel
theorem dX8_draws_188 : decode cX8_draws 188 = .ok (.iaload, 1) := by decide +kernel
theorem dX8_draws_189 : decode cX8_draws 189 = .ok (.ifCond .le 16, 3) := by decide +kernel
theorem dX8_draws_192 : decode cX8_draws 192 = .ok (.aload_n 0, 1) := by decide +kernel
theorem dX8_draws_193 : decode cX8_draws 193 = .ok (.getfield 7, 3) := by decide +kernel
theorem dX8_draws_196 : decode cX8_draws 196 = .ok (.iload_n 2, 1) := by decide +kernel
theorem dX8_draws_197 : decode cX8_draws 197 = .ok (.iconst 2, 1) := by decide +kernel
theorem dX8_draws_198 : decode cX8_draws 198 = .ok (.iadd, 1) := by decide +kernel
theorem dX8_draws_199 : decode cX8_draws 199 = .ok (.iaload, 1) := by decide +kernel
theorem dX8_draws_200 : decode cX8_draws 200 = .ok (.iconst 1, 1) := by decide +kernel
theorem dX8_draws_201 : decode cX8_draws 201 = .ok (.iadd, 1) := by decide +kernel
theorem dX8_draws_202 : decode cX8_draws 202 = .ok (.goto 4, 3) := by decide +kernel
theorem dX8_draws_205 : decode cX8_draws 205 = .ok (.iconst 0, 1) := by decide +kernel
theorem dX8_draws_206 : decode cX8_draws 206 = .ok (.istore 8, 2) := by decide +kernel
theorem dX8_draws_208 : decode cX8_draws 208 = .ok (.aload_n 0, 1) := by decide +kernel
theorem dX8_draws_209 : decode cX8_draws 209 = .ok (.getfield 7, 3) := by decide +kernel
theorem dX8_draws_212 : decode cX8_draws 212 = .ok (.iload_n 2, 1) := by decide +kernel
theorem dX8_draws_213 : decode cX8_draws 213 = .ok (.iconst 2, 1) := by decide +kernel
theorem dX8_draws_214 : decode cX8_draws 214 = .ok (.iadd, 1) := by decide +kernel
theorem dX8_draws_215 : decode cX8_draws 215 = .ok (.iload 6, 2) := by decide +kernel
theorem dX8_draws_217 : decode cX8_draws 217 = .ok (.ifCond .ne 19, 3) := by decide +kernel
theorem dX8_draws_220 : decode cX8_draws 220 = .ok (.iload 8, 2) := by decide +kernel
theorem dX8_draws_222 : decode cX8_draws 222 = .ok (.aload_n 0, 1) := by decide +kernel
theorem dX8_draws_223 : decode cX8_draws 223 = .ok (.getfield 7, 3) := by decide +kernel
theorem dX8_draws_226 : decode cX8_draws 226 = .ok (.bipush 7, 2) := by decide +kernel
theorem dX8_draws_228 : decode cX8_draws 228 = .ok (.iaload, 1) := by decide +kernel
theorem dX8_draws_229 : decode cX8_draws 229 = .ok (.if_icmp .le 7, 3) := by decide +kernel
theorem dX8_draws_232 : decode cX8_draws 232 = .ok (.iconst 0, 1) := by decide +kernel
theorem dX8_draws_233 : decode cX8_draws 233 = .ok (.goto 5, 3) := by decide +kernel
theorem dX8_draws_236 : decode cX8_draws 236 = .ok (.iload 8, 2) := by decide +kernel
theorem dX8_draws_238 : decode cX8_draws 238 = .ok (.iastore, 1) := by decide +kernel
theorem dX8_draws_239 : decode cX8_draws 239 = .ok (.aload_n 0, 1) := by decide +kernel
theorem dX8_draws_240 : decode cX8_draws 240 = .ok (.getfield 7, 3) := by decide +kernel
theorem dX8_draws_243 : decode cX8_draws 243 = .ok (.iload_n 2, 1) := by decide +kernel
theorem dX8_draws_244 : decode cX8_draws 244 = .ok (.iconst 3, 1) := by decide +kernel
theorem dX8_draws_245 : decode cX8_draws 245 = .ok (.iadd, 1) := by decide +kernel
theorem dX8_draws_246 : decode cX8_draws 246 = .ok (.dup2, 1) := by decide +kernel
theorem dX8_draws_247 : decode cX8_draws 247 = .ok (.iaload, 1) := by decide +kernel
theorem dX8_draws_248 : decode cX8_draws 248 = .ok (.iload_n 3, 1) := by decide +kernel
theorem dX8_draws_249 : decode cX8_draws 249 = .ok (.iadd, 1) := by decide +kernel
theorem dX8_draws_250 : decode cX8_draws 250 = .ok (.iastore, 1) := by decide +kernel
theorem dX8_draws_251 : decode cX8_draws 251 = .ok (.aload_n 0, 1) := by decide +kernel
theorem dX8_draws_252 : decode cX8_draws 252 = .ok (.getfield 7, 3) := by decide +kernel
theorem dX8_draws_255 : decode cX8_draws 255 = .ok (.iload_n 2, 1) := by decide +kernel
theorem dX8_draws_256 : decode cX8_draws 256 = .ok (.iconst 4, 1) := by decide +kernel
theorem dX8_draws_257 : decode cX8_draws 257 = .ok (.iadd, 1) := by decide +kernel
theorem dX8_draws_258 : decode cX8_draws 258 = .ok (.dup2, 1) := by decide +kernel
theorem dX8_draws_259 : decode cX8_draws 259 = .ok (.iaload, 1) := by decide +kernel
theorem dX8_draws_260 : decode cX8_draws 260 = .ok (.iload 7, 2) := by decide +kernel
theorem dX8_draws_262 : decode cX8_draws 262 = .ok (.ifCond .eq 7, 3) := by decide +kernel
theorem dX8_draws_265 : decode cX8_draws 265 = .ok (.iload_n 3, 1) := by decide +kernel
theorem dX8_draws_266 : decode cX8_draws 266 = .ok (.goto 4, 3) := by decide +kernel
theorem dX8_draws_269 : decode cX8_draws 269 = .ok (.iconst 0, 1) := by decide +kernel
theorem dX8_draws_270 : decode cX8_draws 270 = .ok (.iadd, 1) := by decide +kernel
theorem dX8_draws_271 : decode cX8_draws 271 = .ok (.iastore, 1) := by decide +kernel
theorem dX8_draws_272 : decode cX8_draws 272 = .ok (.aload_n 0, 1) := by decide +kernel
theorem dX8_draws_273 : decode cX8_draws 273 = .ok (.getfield 7, 3) := by decide +kernel
theorem dX8_draws_276 : decode cX8_draws 276 = .ok (.bipush 19, 2) := by decide +kernel
theorem dX8_draws_278 : decode cX8_draws 278 = .ok (.iload 7, 2) := by decide +kernel
theorem dX8_draws_280 : decode cX8_draws 280 = .ok (.ifCond .eq 7, 3) := by decide +kernel
theorem dX8_draws_283 : decode cX8_draws 283 = .ok (.iconst 2, 1) := by decide +kernel
theorem dX8_draws_284 : decode cX8_draws 284 = .ok (.goto 4, 3) := by decide +kernel
theorem dX8_draws_287 : decode cX8_draws 287 = .ok (.iconst 1, 1) := by decide +kernel
theorem dX8_draws_288 : decode cX8_draws 288 = .ok (.iadd, 1) := by decide +kernel
theorem dX8_draws_289 : decode cX8_draws 289 = .ok (.dup2, 1) := by decide +kernel
theorem dX8_draws_290 : decode cX8_draws 290 = .ok (.iaload, 1) := by decide +kernel
theorem dX8_draws_291 : decode cX8_draws 291 = .ok (.iload_n 3, 1) := by decide +kernel
theorem dX8_draws_292 : decode cX8_draws 292 = .ok (.iadd, 1) := by decide +kernel
theorem dX8_draws_293 : decode cX8_draws 293 = .ok (.iastore, 1) := by decide +kernel
theorem dX8_draws_294 : decode cX8_draws 294 = .ok (.aload_n 0, 1) := by decide +kernel
theorem dX8_draws_295 : decode cX8_draws 295 = .ok (.getfield 7, 3) := by decide +kernel
theorem dX8_draws_298 : decode cX8_draws 298 = .ok (.bipush 15, 2) := by decide +kernel
theorem dX8_draws_300 : decode cX8_draws 300 = .ok (.dup2, 1) := by decide +kernel
theorem dX8_draws_301 : decode cX8_draws 301 = .ok (.iaload, 1) := by decide +kernel
theorem dX8_draws_302 : decode cX8_draws 302 = .ok (.iload 7, 2) := by decide +kernel
theorem dX8_draws_304 : decode cX8_draws 304 = .ok (.ifCond .eq 7, 3) := by decide +kernel
theorem dX8_draws_307 : decode cX8_draws 307 = .ok (.iconst 0, 1) := by decide +kernel
theorem dX8_draws_308 : decode cX8_draws 308 = .ok (.goto 4, 3) := by decide +kernel
theorem dX8_draws_311 : decode cX8_draws 311 = .ok (.iload_n 3, 1) := by decide +kernel
theorem dX8_draws_312 : decode cX8_draws 312 = .ok (.iadd, 1) := by decide +kernel
theorem dX8_draws_313 : decode cX8_draws 313 = .ok (.iastore, 1) := by decide +kernel
theorem dX8_draws_314 : decode cX8_draws 314 = .ok (.aload_n 0, 1) := by decide +kernel
theorem dX8_draws_315 : decode cX8_draws 315 = .ok (.getfield 7, 3) := by decide +kernel
theorem dX8_draws_318 : decode cX8_draws 318 = .ok (.iload_n 2, 1) := by decide +kernel
theorem dX8_draws_319 : decode cX8_draws 319 = .ok (.iconst 1, 1) := by decide +kernel
theorem dX8_draws_320 : decode cX8_draws 320 = .ok (.iadd, 1) := by decide +kernel
theorem dX8_draws_321 : decode cX8_draws 321 = .ok (.dup2, 1) := by decide +kernel
theorem dX8_draws_322 : decode cX8_draws 322 = .ok (.iaload, 1) := by decide +kernel
theorem dX8_draws_323 : decode cX8_draws 323 = .ok (.iload 5, 2) := by decide +kernel
theorem dX8_draws_325 : decode cX8_draws 325 = .ok (.iadd, 1) := by decide +kernel
theorem dX8_draws_326 : decode cX8_draws 326 = .ok (.iastore, 1) := by decide +kernel
theorem dX8_draws_327 : decode cX8_draws 327 = .ok (.aload_n 0, 1) := by decide +kernel
theorem dX8_draws_328 : decode cX8_draws 328 = .ok (.getfield 7, 3) := by decide +kernel
theorem dX8_draws_331 : decode cX8_draws 331 = .ok (.iload_n 2, 1) := by decide +kernel
theorem dX8_draws_332 : decode cX8_draws 332 = .ok (.aload_n 0, 1) := by decide +kernel
theorem dX8_draws_333 : decode cX8_draws 333 = .ok (.getfield 7, 3) := by decide +kernel
theorem dX8_draws_336 : decode cX8_draws 336 = .ok (.iload_n 2, 1) := by decide +kernel
theorem dX8_draws_337 : decode cX8_draws 337 = .ok (.iconst 1, 1) := by decide +kernel
theorem dX8_draws_338 : decode cX8_draws 338 = .ok (.iadd, 1) := by decide +kernel
theorem dX8_draws_339 : decode cX8_draws 339 = .ok (.iaload, 1) := by decide +kernel
theorem dX8_draws_340 : decode cX8_draws 340 = .ok (.aload_n 0, 1) := by decide +kernel
theorem dX8_draws_341 : decode cX8_draws 341 = .ok (.getfield 7, 3) := by decide +kernel
theorem dX8_draws_344 : decode cX8_draws 344 = .ok (.iconst 4, 1) := by decide +kernel
theorem dX8_draws_345 : decode cX8_draws 345 = .ok (.iaload, 1) := by decide +kernel
theorem dX8_draws_346 : decode cX8_draws 346 = .ok (.if_icmp .lt 7, 3) := by decide +kernel
theorem dX8_draws_349 : decode cX8_draws 349 = .ok (.iconst 1, 1) := by decide +kernel
theorem dX8_draws_350 : decode cX8_draws 350 = .ok (.goto 4, 3) := by decide +kernel
theorem dX8_draws_353 : decode cX8_draws 353 = .ok (.iconst 0, 1) := by decide +kernel
theorem dX8_draws_354 : decode cX8_draws 354 = .ok (.iastore, 1) := by decide +kernel
theorem dX8_draws_355 : decode cX8_draws 355 = .ok (.return_, 1) := by decide +kernel
set_option maxRecDepth 20000 in
theorem ggX8_told_X8_of : GoodIn wsX8_told wsX8_of := goodIn_r _ [6, 1, 10, 11, 12, 13, 14, 15, 16, 17, 18, 19, 20] (by decide +kernel) (by decide +kernel)
set_option maxRecDepth 20000 in
theorem gX8_told_X8_of : GoodIn wsX8_told (wsV RX8 37 RX8 yX8_of wsX8_of) := goodIn_app (goodIn_of _ (by decide +kernel)) ggX8_told_X8_of
set_option maxRecDepth 20000 in
theorem ggX8_told_X8_lesser : GoodIn wsX8_told wsX8_lesser := goodIn_r _ [9] (by decide +kernel) (by decide +kernel)
set_option maxRecDepth 20000 in
theorem gX8_told_X8_lesser : GoodIn wsX8_told (va_wsS RX8 59 yX8_lesser wsX8_lesser) := goodIn_app (goodIn_of _ (by decide +kernel)) ggX8_told_X8_lesser
theorem dX8_told_0 : decode cX8_told 0 = .ok (.aload_n 0, 1) := by decide +kernel
theorem dX8_told_1 : decode cX8_told 1 = .ok (.getfield 7, 3) := by decide +kernel
theorem dX8_told_4 : decode cX8_told 4 = .ok (.bipush 20, 2) := by decide +kernel
theorem dX8_told_6 : decode cX8_told 6 = .ok (.iaload, 1) := by decide +kernel
theorem dX8_told_7 : decode cX8_told 7 = .ok (.aload_n 0, 1) := by decide +kernel
theorem dX8_told_8 : decode cX8_told 8 = .ok (.getfield 7, 3) := by decide +kernel
theorem dX8_told_11 : decode cX8_told 11 = .ok (.bipush 21, 2) := by decide +kernel
theorem dX8_told_13 : decode cX8_told 13 = .ok (.iaload, 1) := by decide +kernel
theorem dX8_told_14 : decode cX8_told 14 = .ok (.iadd, 1) := by decide +kernel
theorem dX8_told_15 : decode cX8_told 15 = .ok (.istore_n 1, 1) := by decide +kernel
theorem dX8_told_16 : decode cX8_told 16 = .ok (.iconst 0, 1) := by decide +kernel
theorem dX8_told_17 : decode cX8_told 17 = .ok (.istore_n 2, 1) := by decide +kernel
theorem dX8_told_18 : decode cX8_told 18 = .ok (.iconst 1, 1) := by decide +kernel
theorem dX8_told_19 : decode cX8_told 19 = .ok (.istore_n 3, 1) := by decide +kernel
theorem dX8_told_20 : decode cX8_told 20 = .ok (.iconst 0, 1) := by decide +kernel
theorem dX8_told_21 : decode cX8_told 21 = .ok (.istore 4, 2) := by decide +kernel
theorem dX8_told_23 : decode cX8_told 23 = .ok (.iload 4, 2) := by decide +kernel
theorem dX8_told_25 : decode cX8_told 25 = .ok (.aload_n 0, 1) := by decide +kernel
theorem dX8_told_26 : decode cX8_told 26 = .ok (.getfield 7, 3) := by decide +kernel
theorem dX8_told_29 : decode cX8_told 29 = .ok (.bipush 8, 2) := by decide +kernel
theorem dX8_told_31 : decode cX8_told 31 = .ok (.iaload, 1) := by decide +kernel
theorem dX8_told_32 : decode cX8_told 32 = .ok (.if_icmp .ge 91, 3) := by decide +kernel
theorem dX8_told_35 : decode cX8_told 35 = .ok (.iload_n 3, 1) := by decide +kernel
theorem dX8_told_36 : decode cX8_told 36 = .ok (.ifCond .eq 87, 3) := by decide +kernel
theorem dX8_told_39 : decode cX8_told 39 = .ok (.aload_n 0, 1) := by decide +kernel
theorem dX8_told_40 : decode cX8_told 40 = .ok (.iload 4, 2) := by decide +kernel
theorem dX8_told_42 : decode cX8_told 42 = .ok (.iconst 0, 1) := by decide +kernel
theorem dX8_told_43 : decode cX8_told 43 = .ok (.invokevirtual 37, 3) := by decide +kernel
theorem dX8_told_46 : decode cX8_told 46 = .ok (.iconst 1, 1) := by decide +kernel
theorem dX8_told_47 : decode cX8_told 47 = .ok (.if_icmp .ne 13, 3) := by decide +kernel
theorem dX8_told_50 : decode cX8_told 50 = .ok (.aload_n 0, 1) := by decide +kernel
theorem dX8_told_51 : decode cX8_told 51 = .ok (.iload 4, 2) := by decide +kernel
theorem dX8_told_53 : decode cX8_told 53 = .ok (.iconst 1, 1) := by decide +kernel
theorem dX8_told_54 : decode cX8_told 54 = .ok (.invokevirtual 37, 3) := by decide +kernel
theorem dX8_told_57 : decode cX8_told 57 = .ok (.goto 22, 3) := by decide +kernel
theorem dX8_told_60 : decode cX8_told 60 = .ok (.aload_n 0, 1) := by decide +kernel
theorem dX8_told_61 : decode cX8_told 61 = .ok (.iload 4, 2) := by decide +kernel
theorem dX8_told_63 : decode cX8_told 63 = .ok (.iconst 1, 1) := by decide +kernel
theorem dX8_told_64 : decode cX8_told 64 = .ok (.invokevirtual 37, 3) := by decide +kernel
theorem dX8_told_67 : decode cX8_told 67 = .ok (.iload_n 1, 1) := by decide +kernel
theorem dX8_told_68 : decode cX8_told 68 = .ok (.aload_n 0, 1) := by decide +kernel
theorem dX8_told_69 : decode cX8_told 69 = .ok (.iload 4, 2) := by decide +kernel
theorem dX8_told_71 : decode cX8_told 71 = .ok (.iconst 2, 1) := by decide +kernel
theorem dX8_told_72 : decode cX8_told 72 = .ok (.invokevirtual 37, 3) := by decide +kernel
theorem dX8_told_75 : decode cX8_told 75 = .ok (.idiv, 1) := by decide +kernel
theorem dX8_told_76 : decode cX8_told 76 = .ok (.invokestatic 59, 3) := by decide +kernel
theorem dX8_told_79 : decode cX8_told 79 = .ok (.istore 5, 2) := by decide +kernel
theorem dX8_told_81 : decode cX8_told 81 = .ok (.iload_n 1, 1) := by decide +kernel
theorem dX8_told_82 : decode cX8_told 82 = .ok (.iload 5, 2) := by decide +kernel
theorem dX8_told_84 : decode cX8_told 84 = .ok (.aload_n 0, 1) := by decide +kernel
theorem dX8_told_85 : decode cX8_told 85 = .ok (.iload 4, 2) := by decide +kernel
theorem dX8_told_87 : decode cX8_told 87 = .ok (.iconst 2, 1) := by decide +kernel
theorem dX8_told_88 : decode cX8_told 88 = .ok (.invokevirtual 37, 3) := by decide +kernel
theorem dX8_told_91 : decode cX8_told 91 = .ok (.imul, 1) := by decide +kernel
theorem dX8_told_92 : decode cX8_told 92 = .ok (.isub, 1) := by decide +kernel
theorem dX8_told_93 : decode cX8_told 93 = .ok (.istore_n 1, 1) := by decide +kernel
theorem dX8_told_94 : decode cX8_told 94 = .ok (.iload_n 2, 1) := by decide +kernel
