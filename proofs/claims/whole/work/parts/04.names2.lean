theorem dX2_rod_49 : decode cX2_rod 49 = .ok (.iastore, 1) := by decide +kernel
theorem dX2_rod_50 : decode cX2_rod 50 = .ok (.aload_n 0, 1) := by decide +kernel
theorem dX2_rod_51 : decode cX2_rod 51 = .ok (.dup, 1) := by decide +kernel
theorem dX2_rod_52 : decode cX2_rod 52 = .ok (.getfield 64, 3) := by decide +kernel
theorem dX2_rod_55 : decode cX2_rod 55 = .ok (.iconst 1, 1) := by decide +kernel
theorem dX2_rod_56 : decode cX2_rod 56 = .ok (.iadd, 1) := by decide +kernel
theorem dX2_rod_57 : decode cX2_rod 57 = .ok (.putfield 64, 3) := by decide +kernel
theorem dX2_rod_60 : decode cX2_rod 60 = .ok (.iload 4, 2) := by decide +kernel
theorem dX2_rod_62 : decode cX2_rod 62 = .ok (.ireturn, 1) := by decide +kernel
set_option maxRecDepth 20000 in
theorem ggX2_set_X2_faultOfSet : GoodIn wsX2_set wsX2_faultOfSet := goodIn_r _ [6, 7, 8, 9, 10, 5, 11, 12, 13, 14, 15, 16, 17, 18, 19, 20, 98, 99, 100, 101, 102, 103, 104, 105, 106, 107, 108, 109, 110, 111] (by decide +kernel) (by decide +kernel)
set_option maxRecDepth 20000 in
theorem gX2_set_X2_faultOfSet : GoodIn wsX2_set (wsV RX2 67 RX2 yX2_faultOfSet wsX2_faultOfSet) := goodIn_app (goodIn_of _ (by decide +kernel)) ggX2_set_X2_faultOfSet
set_option maxRecDepth 20000 in
theorem ggX2_set_X2_movesWhenGiven : GoodIn wsX2_set wsX2_movesWhenGiven := goodIn_r _ [24, 25, 26, 27, 28, 29, 30, 5, 31, 7, 32, 33, 34, 35, 36, 37, 38, 39, 15, 40, 41, 42, 43, 44, 45, 46, 47, 48, 49, 50, 51, 52, 53, 54, 55, 17, 19, 56, 57, 58, 59, 60, 61, 62, 63, 12, 64, 65, 66, 67, 68, 69, 70, 71, 72, 73, 74, 75, 76, 77, 78, 79, 80, 81, 82, 83, 84, 85, 86, 87, 88, 89, 90, 91, 92, 93, 94, 95, 96, 97, 98, 99, 100, 101, 102, 103, 104, 105, 106, 107, 108, 109, 110, 111, 112, 113, 114, 115] (by decide +kernel) (by decide +kernel)
set_option maxRecDepth 20000 in
theorem gX2_set_X2_movesWhenGiven : GoodIn wsX2_set (wsV RX2 71 RX2 yX2_movesWhenGiven wsX2_movesWhenGiven) := goodIn_app (goodIn_of _ (by decide +kernel)) ggX2_set_X2_movesWhenGiven
theorem dX2_set_0 : decode cX2_set 0 = .ok (.aload_n 0, 1) := by decide +kernel
theorem dX2_set_1 : decode cX2_set 1 = .ok (.aload_n 0, 1) := by decide +kernel
theorem dX2_set_2 : decode cX2_set 2 = .ok (.iload_n 1, 1) := by decide +kernel
theorem dX2_set_3 : decode cX2_set 3 = .ok (.lload_n 2, 1) := by decide +kernel
theorem dX2_set_4 : decode cX2_set 4 = .ok (.invokevirtual 67, 3) := by decide +kernel
theorem dX2_set_7 : decode cX2_set 7 = .ok (.putfield 47, 3) := by decide +kernel
theorem dX2_set_10 : decode cX2_set 10 = .ok (.aload_n 0, 1) := by decide +kernel
theorem dX2_set_11 : decode cX2_set 11 = .ok (.getfield 47, 3) := by decide +kernel
theorem dX2_set_14 : decode cX2_set 14 = .ok (.ifCond .eq 5, 3) := by decide +kernel
theorem dX2_set_17 : decode cX2_set 17 = .ok (.iconst (-1), 1) := by decide +kernel
theorem dX2_set_18 : decode cX2_set 18 = .ok (.ireturn, 1) := by decide +kernel
theorem dX2_set_19 : decode cX2_set 19 = .ok (.aload_n 0, 1) := by decide +kernel
theorem dX2_set_20 : decode cX2_set 20 = .ok (.iload_n 1, 1) := by decide +kernel
theorem dX2_set_21 : decode cX2_set 21 = .ok (.lload_n 2, 1) := by decide +kernel
theorem dX2_set_22 : decode cX2_set 22 = .ok (.invokevirtual 71, 3) := by decide +kernel
theorem dX2_set_25 : decode cX2_set 25 = .ok (.ireturn, 1) := by decide +kernel
set_option maxRecDepth 20000 in
theorem ggX2_turn_X2_faultOfTurn : GoodIn wsX2_turn wsX2_faultOfTurn := goodIn_r _ [8, 2, 9, 10, 11, 7, 12, 13, 14, 15, 16, 17, 113, 114, 115, 116, 117, 118, 119, 120, 121, 122, 123, 124, 125, 126] (by decide +kernel) (by decide +kernel)
set_option maxRecDepth 20000 in
theorem gX2_turn_X2_faultOfTurn : GoodIn wsX2_turn (wsV RX2 74 RX2 yX2_faultOfTurn wsX2_faultOfTurn) := goodIn_app (goodIn_of _ (by decide +kernel)) ggX2_turn_X2_faultOfTurn
set_option maxRecDepth 20000 in
theorem ggX2_turn_X0_turned : GoodIn wsX2_turn wsX0_turned := goodIn_r _ [20, 21, 22, 16, 23, 24, 25, 26, 27, 28, 29, 30, 31, 32, 33, 34, 35, 36, 37, 38, 39, 40, 41, 42, 43, 44, 45, 46, 47, 48, 49, 50, 51, 52, 53] (by decide +kernel) (by decide +kernel)
set_option maxRecDepth 20000 in
theorem gX2_turn_X0_turned : GoodIn wsX2_turn (va_wsS RX2 78 yX0_turned wsX0_turned) := goodIn_app (goodIn_of _ (by decide +kernel)) ggX2_turn_X0_turned
set_option maxRecDepth 20000 in
theorem ggX2_turn_X2_movesWhenGiven : GoodIn wsX2_turn wsX2_movesWhenGiven := goodIn_r _ [57, 58, 59, 60, 61, 62, 63, 7, 64, 2, 65, 66, 3, 67, 68, 69, 70, 71, 16, 72, 73, 74, 75, 76, 77, 78, 79, 80, 81, 82, 15, 17, 31, 32, 33, 34, 35, 83, 84, 85, 86, 87, 88, 89, 90, 13, 91, 92, 93, 94, 95, 96, 97, 98, 99, 100, 101, 102, 103, 104, 105, 106, 107, 108, 109, 110, 111, 45, 46, 47, 112, 22, 23, 24, 25, 26, 27, 28, 29, 30, 113, 114, 115, 116, 117, 118, 119, 120, 121, 122, 123, 124, 125, 126, 127, 128, 129, 130] (by decide +kernel) (by decide +kernel)
set_option maxRecDepth 20000 in
theorem gX2_turn_X2_movesWhenGiven : GoodIn wsX2_turn (wsV RX2 71 RX2 yX2_movesWhenGiven wsX2_movesWhenGiven) := goodIn_app (goodIn_of _ (by decide +kernel)) ggX2_turn_X2_movesWhenGiven
theorem dX2_turn_0 : decode cX2_turn 0 = .ok (.aload_n 0, 1) := by decide +kernel
theorem dX2_turn_1 : decode cX2_turn 1 = .ok (.aload_n 0, 1) := by decide +kernel
theorem dX2_turn_2 : decode cX2_turn 2 = .ok (.iload_n 1, 1) := by decide +kernel
theorem dX2_turn_3 : decode cX2_turn 3 = .ok (.iload_n 2, 1) := by decide +kernel
theorem dX2_turn_4 : decode cX2_turn 4 = .ok (.invokevirtual 74, 3) := by decide +kernel
theorem dX2_turn_7 : decode cX2_turn 7 = .ok (.putfield 47, 3) := by decide +kernel
theorem dX2_turn_10 : decode cX2_turn 10 = .ok (.aload_n 0, 1) := by decide +kernel
theorem dX2_turn_11 : decode cX2_turn 11 = .ok (.getfield 47, 3) := by decide +kernel
theorem dX2_turn_14 : decode cX2_turn 14 = .ok (.ifCond .eq 5, 3) := by decide +kernel
theorem dX2_turn_17 : decode cX2_turn 17 = .ok (.iconst (-1), 1) := by decide +kernel
theorem dX2_turn_18 : decode cX2_turn 18 = .ok (.ireturn, 1) := by decide +kernel
theorem dX2_turn_19 : decode cX2_turn 19 = .ok (.aload_n 0, 1) := by decide +kernel
theorem dX2_turn_20 : decode cX2_turn 20 = .ok (.iload_n 1, 1) := by decide +kernel
theorem dX2_turn_21 : decode cX2_turn 21 = .ok (.aload_n 0, 1) := by decide +kernel
theorem dX2_turn_22 : decode cX2_turn 22 = .ok (.getfield 9, 3) := by decide +kernel
theorem dX2_turn_25 : decode cX2_turn 25 = .ok (.iload_n 1, 1) := by decide +kernel
theorem dX2_turn_26 : decode cX2_turn 26 = .ok (.iaload, 1) := by decide +kernel
theorem dX2_turn_27 : decode cX2_turn 27 = .ok (.aload_n 0, 1) := by decide +kernel
theorem dX2_turn_28 : decode cX2_turn 28 = .ok (.getfield 20, 3) := by decide +kernel
theorem dX2_turn_31 : decode cX2_turn 31 = .ok (.iload_n 1, 1) := by decide +kernel
theorem dX2_turn_32 : decode cX2_turn 32 = .ok (.laload, 1) := by decide +kernel
theorem dX2_turn_33 : decode cX2_turn 33 = .ok (.iload_n 2, 1) := by decide +kernel
theorem dX2_turn_34 : decode cX2_turn 34 = .ok (.invokestatic 78, 3) := by decide +kernel
theorem dX2_turn_37 : decode cX2_turn 37 = .ok (.invokevirtual 71, 3) := by decide +kernel
theorem dX2_turn_40 : decode cX2_turn 40 = .ok (.ireturn, 1) := by decide +kernel
set_option maxRecDepth 20000 in
theorem ggX2_take_X2_faultOfTake : GoodIn wsX2_take wsX2_faultOfTake := goodIn_r _ [6, 7, 8, 9, 5, 10, 11, 12, 13, 14, 15, 16, 17, 18, 19, 20, 21, 22, 23, 101, 102, 103, 104, 105, 106, 107, 108, 109, 110, 111, 112, 113, 114] (by decide +kernel) (by decide +kernel)
set_option maxRecDepth 20000 in
theorem gX2_take_X2_faultOfTake : GoodIn wsX2_take (wsV RX2 82 RX2 yX2_faultOfTake wsX2_faultOfTake) := goodIn_app (goodIn_of _ (by decide +kernel)) ggX2_take_X2_faultOfTake
set_option maxRecDepth 20000 in
theorem ggX2_take_X2_gift : GoodIn wsX2_take wsX2_gift := goodIn_r _ [27, 19, 28, 29, 30, 22, 31, 32, 33, 34, 35, 36, 37, 38, 21, 23, 39, 40, 41, 42, 43, 44, 45, 46, 47, 48, 49, 50, 51, 52, 53, 54, 55, 56, 57, 58, 59, 60, 101, 102, 103, 104, 105, 106, 107, 108, 109, 110, 111, 112, 113, 114] (by decide +kernel) (by decide +kernel)
set_option maxRecDepth 20000 in
theorem gX2_take_X2_gift : GoodIn wsX2_take (wsV RX2 85 RX2 yX2_gift wsX2_gift) := goodIn_app (goodIn_of _ (by decide +kernel)) ggX2_take_X2_gift
set_option maxRecDepth 20000 in
theorem ggX2_take_X2_movesWhenGiven : GoodIn wsX2_take wsX2_movesWhenGiven := goodIn_r _ [64, 65, 66, 67, 68, 69, 70, 5, 71, 19, 72, 73, 28, 74, 75, 76, 77, 78, 22, 79, 80, 45, 46, 32, 33, 34, 35, 36, 37, 38, 21, 23, 39, 40, 41, 42, 43, 81, 30, 31, 82, 83, 84, 85, 86, 11, 87, 88, 89, 90, 91, 92, 93, 94, 95, 96, 97, 98, 99, 100, 24, 25, 26, 27, 29, 44, 47, 48, 49, 50, 51, 52, 53, 54, 55, 56, 57, 58, 59, 60, 101, 102, 103, 104, 105, 106, 107, 108, 109, 110, 111, 112, 113, 114, 115, 116, 117, 118] (by decide +kernel) (by decide +kernel)
set_option maxRecDepth 20000 in
theorem gX2_take_X2_movesWhenGiven : GoodIn wsX2_take (wsV RX2 71 RX2 yX2_movesWhenGiven wsX2_movesWhenGiven) := goodIn_app (goodIn_of _ (by decide +kernel)) ggX2_take_X2_movesWhenGiven
theorem dX2_take_0 : decode cX2_take 0 = .ok (.aload_n 0, 1) := by decide +kernel
theorem dX2_take_1 : decode cX2_take 1 = .ok (.aload_n 0, 1) := by decide +kernel
theorem dX2_take_2 : decode cX2_take 2 = .ok (.iload_n 1, 1) := by decide +kernel
theorem dX2_take_3 : decode cX2_take 3 = .ok (.iload_n 2, 1) := by decide +kernel
theorem dX2_take_4 : decode cX2_take 4 = .ok (.iload_n 3, 1) := by decide +kernel
theorem dX2_take_5 : decode cX2_take 5 = .ok (.invokevirtual 82, 3) := by decide +kernel
theorem dX2_take_8 : decode cX2_take 8 = .ok (.putfield 47, 3) := by decide +kernel
theorem dX2_take_11 : decode cX2_take 11 = .ok (.aload_n 0, 1) := by decide +kernel
theorem dX2_take_12 : decode cX2_take 12 = .ok (.getfield 47, 3) := by decide +kernel
theorem dX2_take_15 : decode cX2_take 15 = .ok (.ifCond .eq 5, 3) := by decide +kernel
theorem dX2_take_18 : decode cX2_take 18 = .ok (.iconst (-1), 1) := by decide +kernel
theorem dX2_take_19 : decode cX2_take 19 = .ok (.ireturn, 1) := by decide +kernel
theorem dX2_take_20 : decode cX2_take 20 = .ok (.aload_n 0, 1) := by decide +kernel
theorem dX2_take_21 : decode cX2_take 21 = .ok (.iload_n 1, 1) := by decide +kernel
theorem dX2_take_22 : decode cX2_take 22 = .ok (.aload_n 0, 1) := by decide +kernel
theorem dX2_take_23 : decode cX2_take 23 = .ok (.iload_n 3, 1) := by decide +kernel
theorem dX2_take_24 : decode cX2_take 24 = .ok (.iload_n 2, 1) := by decide +kernel
theorem dX2_take_25 : decode cX2_take 25 = .ok (.iload_n 1, 1) := by decide +kernel
theorem dX2_take_26 : decode cX2_take 26 = .ok (.invokevirtual 85, 3) := by decide +kernel
theorem dX2_take_29 : decode cX2_take 29 = .ok (.invokevirtual 71, 3) := by decide +kernel
theorem dX2_take_32 : decode cX2_take 32 = .ok (.ireturn, 1) := by decide +kernel
set_option maxRecDepth 20000 in
theorem ggX2_back_X1_held : GoodIn wsX2_back wsX1_held := goodIn_r _ [8, 9, 31, 32, 33, 34] (by decide +kernel) (by decide +kernel)
set_option maxRecDepth 20000 in
theorem gX2_back_X1_held : GoodIn wsX2_back (wsV RX2 89 RX1 yX1_held wsX1_held) := goodIn_app (goodIn_of _ (by decide +kernel)) ggX2_back_X1_held
set_option maxRecDepth 20000 in
theorem ggX2_back_X1_restoreLatest : GoodIn wsX2_back wsX1_restoreLatest := goodIn_r _ [13, 9, 14, 15, 16, 31, 32, 33, 34] (by decide +kernel) (by decide +kernel)
set_option maxRecDepth 20000 in
theorem gX2_back_X1_restoreLatest : GoodIn wsX2_back (wsV RX2 93 RX1 yX1_restoreLatest wsX1_restoreLatest) := goodIn_app (goodIn_of _ (by decide +kernel)) ggX2_back_X1_restoreLatest
theorem dX2_back_0 : decode cX2_back 0 = .ok (.aload_n 0, 1) := by decide +kernel
theorem dX2_back_1 : decode cX2_back 1 = .ok (.aload_n 0, 1) := by decide +kernel
theorem dX2_back_2 : decode cX2_back 2 = .ok (.getfield 39, 3) := by decide +kernel
theorem dX2_back_5 : decode cX2_back 5 = .ok (.invokevirtual 89, 3) := by decide +kernel
theorem dX2_back_8 : decode cX2_back 8 = .ok (.ifCond .ne 8, 3) := by decide +kernel
theorem dX2_back_11 : decode cX2_back 11 = .ok (.bipush 7, 2) := by decide +kernel
theorem dX2_back_13 : decode cX2_back 13 = .ok (.goto 4, 3) := by decide +kernel
theorem dX2_back_16 : decode cX2_back 16 = .ok (.iconst 0, 1) := by decide +kernel
theorem dX2_back_17 : decode cX2_back 17 = .ok (.putfield 47, 3) := by decide +kernel
theorem dX2_back_20 : decode cX2_back 20 = .ok (.aload_n 0, 1) := by decide +kernel
theorem dX2_back_21 : decode cX2_back 21 = .ok (.getfield 47, 3) := by decide +kernel
theorem dX2_back_24 : decode cX2_back 24 = .ok (.ifCond .eq 5, 3) := by decide +kernel
theorem dX2_back_27 : decode cX2_back 27 = .ok (.iconst (-1), 1) := by decide +kernel
theorem dX2_back_28 : decode cX2_back 28 = .ok (.ireturn, 1) := by decide +kernel
theorem dX2_back_29 : decode cX2_back 29 = .ok (.aload_n 0, 1) := by decide +kernel
theorem dX2_back_30 : decode cX2_back 30 = .ok (.getfield 39, 3) := by decide +kernel
theorem dX2_back_33 : decode cX2_back 33 = .ok (.aload_n 0, 1) := by decide +kernel
theorem dX2_back_34 : decode cX2_back 34 = .ok (.getfield 20, 3) := by decide +kernel
theorem dX2_back_37 : decode cX2_back 37 = .ok (.invokevirtual 93, 3) := by decide +kernel
theorem dX2_back_40 : decode cX2_back 40 = .ok (.ireturn, 1) := by decide +kernel
set_option maxRecDepth 20000 in
theorem ggX2_order_X2_faultOfOrder : GoodIn wsX2_order wsX2_faultOfOrder := goodIn_r _ [8, 2, 9, 10, 11, 7, 12, 13, 29, 30, 31, 32, 33, 34, 35, 36, 37, 38, 39, 40, 41, 42] (by decide +kernel) (by decide +kernel)
set_option maxRecDepth 20000 in
theorem gX2_order_X2_faultOfOrder : GoodIn wsX2_order (wsV RX2 97 RX2 yX2_faultOfOrder wsX2_faultOfOrder) := goodIn_app (goodIn_of _ (by decide +kernel)) ggX2_order_X2_faultOfOrder
set_option maxRecDepth 20000 in
theorem ggX2_order_X0_compared : GoodIn wsX2_order wsX0_compared := goodIn_r _ [17, 18, 19, 16, 20, 21, 22, 23, 24, 25, 26, 27, 28] (by decide +kernel) (by decide +kernel)
set_option maxRecDepth 20000 in
theorem gX2_order_X0_compared : GoodIn wsX2_order (va_wsS RX2 100 yX0_compared wsX0_compared) := goodIn_app (goodIn_of _ (by decide +kernel)) ggX2_order_X0_compared
theorem dX2_order_0 : decode cX2_order 0 = .ok (.aload_n 0, 1) := by decide +kernel
theorem dX2_order_1 : decode cX2_order 1 = .ok (.aload_n 0, 1) := by decide +kernel
theorem dX2_order_2 : decode cX2_order 2 = .ok (.iload_n 1, 1) := by decide +kernel
theorem dX2_order_3 : decode cX2_order 3 = .ok (.iload_n 2, 1) := by decide +kernel
theorem dX2_order_4 : decode cX2_order 4 = .ok (.invokevirtual 97, 3) := by decide +kernel
theorem dX2_order_7 : decode cX2_order 7 = .ok (.putfield 47, 3) := by decide +kernel
theorem dX2_order_10 : decode cX2_order 10 = .ok (.aload_n 0, 1) := by decide +kernel
theorem dX2_order_11 : decode cX2_order 11 = .ok (.getfield 47, 3) := by decide +kernel
theorem dX2_order_14 : decode cX2_order 14 = .ok (.ifCond .eq 6, 3) := by decide +kernel
theorem dX2_order_17 : decode cX2_order 17 = .ok (.bipush (-2), 2) := by decide +kernel
theorem dX2_order_19 : decode cX2_order 19 = .ok (.ireturn, 1) := by decide +kernel
theorem dX2_order_20 : decode cX2_order 20 = .ok (.aload_n 0, 1) := by decide +kernel
theorem dX2_order_21 : decode cX2_order 21 = .ok (.getfield 9, 3) := by decide +kernel
theorem dX2_order_24 : decode cX2_order 24 = .ok (.iload_n 1, 1) := by decide +kernel
theorem dX2_order_25 : decode cX2_order 25 = .ok (.iaload, 1) := by decide +kernel
theorem dX2_order_26 : decode cX2_order 26 = .ok (.aload_n 0, 1) := by decide +kernel
theorem dX2_order_27 : decode cX2_order 27 = .ok (.getfield 20, 3) := by decide +kernel
theorem dX2_order_30 : decode cX2_order 30 = .ok (.iload_n 1, 1) := by decide +kernel
theorem dX2_order_31 : decode cX2_order 31 = .ok (.laload, 1) := by decide +kernel
theorem dX2_order_32 : decode cX2_order 32 = .ok (.aload_n 0, 1) := by decide +kernel
theorem dX2_order_33 : decode cX2_order 33 = .ok (.getfield 20, 3) := by decide +kernel
theorem dX2_order_36 : decode cX2_order 36 = .ok (.iload_n 2, 1) := by decide +kernel
theorem dX2_order_37 : decode cX2_order 37 = .ok (.laload, 1) := by decide +kernel
theorem dX2_order_38 : decode cX2_order 38 = .ok (.invokestatic 100, 3) := by decide +kernel
theorem dX2_order_41 : decode cX2_order 41 = .ok (.ireturn, 1) := by decide +kernel
set_option maxRecDepth 20000 in
theorem ggX2_look_X2_isDial : GoodIn wsX2_look wsX2_isDial := goodIn_r _ [9, 10, 11, 12, 13, 14, 15, 16, 17, 18, 19, 20, 21, 22, 23, 24] (by decide +kernel) (by decide +kernel)
set_option maxRecDepth 20000 in
theorem gX2_look_X2_isDial : GoodIn wsX2_look (wsV RX2 103 RX2 yX2_isDial wsX2_isDial) := goodIn_app (goodIn_of _ (by decide +kernel)) ggX2_look_X2_isDial
theorem dX2_look_0 : decode cX2_look 0 = .ok (.aload_n 0, 1) := by decide +kernel
theorem dX2_look_1 : decode cX2_look 1 = .ok (.iload_n 1, 1) := by decide +kernel
theorem dX2_look_2 : decode cX2_look 2 = .ok (.invokevirtual 103, 3) := by decide +kernel
theorem dX2_look_5 : decode cX2_look 5 = .ok (.ifCond .ne 5, 3) := by decide +kernel
theorem dX2_look_8 : decode cX2_look 8 = .ok (.lconst 0, 1) := by decide +kernel
theorem dX2_look_9 : decode cX2_look 9 = .ok (.lreturn, 1) := by decide +kernel
theorem dX2_look_10 : decode cX2_look 10 = .ok (.iload_n 2, 1) := by decide +kernel
theorem dX2_look_11 : decode cX2_look 11 = .ok (.tableswitch 58 0 3 #[29, 36, 43, 50], 29) := by decide +kernel
theorem dX2_look_40 : decode cX2_look 40 = .ok (.aload_n 0, 1) := by decide +kernel
theorem dX2_look_41 : decode cX2_look 41 = .ok (.getfield 20, 3) := by decide +kernel
theorem dX2_look_44 : decode cX2_look 44 = .ok (.iload_n 1, 1) := by decide +kernel
theorem dX2_look_45 : decode cX2_look 45 = .ok (.laload, 1) := by decide +kernel
theorem dX2_look_46 : decode cX2_look 46 = .ok (.lreturn, 1) := by decide +kernel
theorem dX2_look_47 : decode cX2_look 47 = .ok (.aload_n 0, 1) := by decide +kernel
theorem dX2_look_48 : decode cX2_look 48 = .ok (.getfield 13, 3) := by decide +kernel
theorem dX2_look_51 : decode cX2_look 51 = .ok (.iload_n 1, 1) := by decide +kernel
theorem dX2_look_52 : decode cX2_look 52 = .ok (.laload, 1) := by decide +kernel
theorem dX2_look_53 : decode cX2_look 53 = .ok (.lreturn, 1) := by decide +kernel
theorem dX2_look_54 : decode cX2_look 54 = .ok (.aload_n 0, 1) := by decide +kernel
theorem dX2_look_55 : decode cX2_look 55 = .ok (.getfield 17, 3) := by decide +kernel
theorem dX2_look_58 : decode cX2_look 58 = .ok (.iload_n 1, 1) := by decide +kernel
theorem dX2_look_59 : decode cX2_look 59 = .ok (.laload, 1) := by decide +kernel
theorem dX2_look_60 : decode cX2_look 60 = .ok (.lreturn, 1) := by decide +kernel
theorem dX2_look_61 : decode cX2_look 61 = .ok (.aload_n 0, 1) := by decide +kernel
theorem dX2_look_62 : decode cX2_look 62 = .ok (.getfield 9, 3) := by decide +kernel
theorem dX2_look_65 : decode cX2_look 65 = .ok (.iload_n 1, 1) := by decide +kernel
theorem dX2_look_66 : decode cX2_look 66 = .ok (.iaload, 1) := by decide +kernel
theorem dX2_look_67 : decode cX2_look 67 = .ok (.i2l, 1) := by decide +kernel
theorem dX2_look_68 : decode cX2_look 68 = .ok (.lreturn, 1) := by decide +kernel
theorem dX2_look_69 : decode cX2_look 69 = .ok (.lconst 0, 1) := by decide +kernel
theorem dX2_look_70 : decode cX2_look 70 = .ok (.lreturn, 1) := by decide +kernel
set_option maxRecDepth 20000 in
theorem ggX2_count_X1_held : GoodIn wsX2_count wsX1_held := goodIn_r _ [10, 11, 26, 27, 28, 29] (by decide +kernel) (by decide +kernel)
set_option maxRecDepth 20000 in
theorem gX2_count_X1_held : GoodIn wsX2_count (wsV RX2 89 RX1 yX1_held wsX1_held) := goodIn_app (goodIn_of _ (by decide +kernel)) ggX2_count_X1_held
theorem dX2_count_0 : decode cX2_count 0 = .ok (.iload_n 1, 1) := by decide +kernel
theorem dX2_count_1 : decode cX2_count 1 = .ok (.tableswitch 63 0 4 #[35, 40, 45, 53, 58], 35) := by decide +kernel
theorem dX2_count_36 : decode cX2_count 36 = .ok (.aload_n 0, 1) := by decide +kernel
theorem dX2_count_37 : decode cX2_count 37 = .ok (.getfield 51, 3) := by decide +kernel
theorem dX2_count_40 : decode cX2_count 40 = .ok (.ireturn, 1) := by decide +kernel
theorem dX2_count_41 : decode cX2_count 41 = .ok (.aload_n 0, 1) := by decide +kernel
theorem dX2_count_42 : decode cX2_count 42 = .ok (.getfield 64, 3) := by decide +kernel
theorem dX2_count_45 : decode cX2_count 45 = .ok (.ireturn, 1) := by decide +kernel
theorem dX2_count_46 : decode cX2_count 46 = .ok (.aload_n 0, 1) := by decide +kernel
theorem dX2_count_47 : decode cX2_count 47 = .ok (.getfield 39, 3) := by decide +kernel
theorem dX2_count_50 : decode cX2_count 50 = .ok (.invokevirtual 89, 3) := by decide +kernel
theorem dX2_count_53 : decode cX2_count 53 = .ok (.ireturn, 1) := by decide +kernel
theorem dX2_count_54 : decode cX2_count 54 = .ok (.aload_n 0, 1) := by decide +kernel
theorem dX2_count_55 : decode cX2_count 55 = .ok (.getfield 107, 3) := by decide +kernel
theorem dX2_count_58 : decode cX2_count 58 = .ok (.ireturn, 1) := by decide +kernel
theorem dX2_count_59 : decode cX2_count 59 = .ok (.aload_n 0, 1) := by decide +kernel
theorem dX2_count_60 : decode cX2_count 60 = .ok (.getfield 47, 3) := by decide +kernel
theorem dX2_count_63 : decode cX2_count 63 = .ok (.ireturn, 1) := by decide +kernel
theorem dX2_count_64 : decode cX2_count 64 = .ok (.iconst (-1), 1) := by decide +kernel
theorem dX2_count_65 : decode cX2_count 65 = .ok (.ireturn, 1) := by decide +kernel
set_option maxRecDepth 20000 in
theorem ggX2_faultOfDial_X0_isOfKind : GoodIn wsX2_faultOfDial wsX0_isOfKind := goodIn_r _ [5, 6, 7, 8, 9] (by decide +kernel) (by decide +kernel)
set_option maxRecDepth 20000 in
theorem gX2_faultOfDial_X0_isOfKind : GoodIn wsX2_faultOfDial (va_wsS RX2 110 yX0_isOfKind wsX0_isOfKind) := goodIn_app (goodIn_of _ (by decide +kernel)) ggX2_faultOfDial_X0_isOfKind
set_option maxRecDepth 20000 in
theorem ggX2_faultOfDial_X0_compared : GoodIn wsX2_faultOfDial wsX0_compared := goodIn_r _ [12, 13, 14, 4, 15, 16, 17, 18, 19, 20, 21, 6, 8] (by decide +kernel) (by decide +kernel)
set_option maxRecDepth 20000 in
theorem gX2_faultOfDial_X0_compared : GoodIn wsX2_faultOfDial (va_wsS RX2 100 yX0_compared wsX0_compared) := goodIn_app (goodIn_of _ (by decide +kernel)) ggX2_faultOfDial_X0_compared
theorem dX2_faultOfDial_0 : decode cX2_faultOfDial 0 = .ok (.iload_n 1, 1) := by decide +kernel
theorem dX2_faultOfDial_1 : decode cX2_faultOfDial 1 = .ok (.ifCond .lt 8, 3) := by decide +kernel
theorem dX2_faultOfDial_4 : decode cX2_faultOfDial 4 = .ok (.iload_n 1, 1) := by decide +kernel
theorem dX2_faultOfDial_5 : decode cX2_faultOfDial 5 = .ok (.iconst 3, 1) := by decide +kernel
theorem dX2_faultOfDial_6 : decode cX2_faultOfDial 6 = .ok (.if_icmp .le 5, 3) := by decide +kernel
theorem dX2_faultOfDial_9 : decode cX2_faultOfDial 9 = .ok (.iconst 2, 1) := by decide +kernel
theorem dX2_faultOfDial_10 : decode cX2_faultOfDial 10 = .ok (.ireturn, 1) := by decide +kernel
theorem dX2_faultOfDial_11 : decode cX2_faultOfDial 11 = .ok (.aload_n 0, 1) := by decide +kernel
theorem dX2_faultOfDial_12 : decode cX2_faultOfDial 12 = .ok (.getfield 51, 3) := by decide +kernel
theorem dX2_faultOfDial_15 : decode cX2_faultOfDial 15 = .ok (.bipush 16, 2) := by decide +kernel
theorem dX2_faultOfDial_17 : decode cX2_faultOfDial 17 = .ok (.if_icmp .lt 5, 3) := by decide +kernel
theorem dX2_faultOfDial_20 : decode cX2_faultOfDial 20 = .ok (.iconst 5, 1) := by decide +kernel
theorem dX2_faultOfDial_21 : decode cX2_faultOfDial 21 = .ok (.ireturn, 1) := by decide +kernel
theorem dX2_faultOfDial_22 : decode cX2_faultOfDial 22 = .ok (.iload_n 1, 1) := by decide +kernel
theorem dX2_faultOfDial_23 : decode cX2_faultOfDial 23 = .ok (.lload_n 2, 1) := by decide +kernel
theorem dX2_faultOfDial_24 : decode cX2_faultOfDial 24 = .ok (.invokestatic 110, 3) := by decide +kernel
theorem dX2_faultOfDial_27 : decode cX2_faultOfDial 27 = .ok (.ifCond .eq 12, 3) := by decide +kernel
theorem dX2_faultOfDial_30 : decode cX2_faultOfDial 30 = .ok (.iload_n 1, 1) := by decide +kernel
theorem dX2_faultOfDial_31 : decode cX2_faultOfDial 31 = .ok (.lload 4, 2) := by decide +kernel
theorem dX2_faultOfDial_33 : decode cX2_faultOfDial 33 = .ok (.invokestatic 110, 3) := by decide +kernel
theorem dX2_faultOfDial_36 : decode cX2_faultOfDial 36 = .ok (.ifCond .ne 5, 3) := by decide +kernel
theorem dX2_faultOfDial_39 : decode cX2_faultOfDial 39 = .ok (.iconst 3, 1) := by decide +kernel
theorem dX2_faultOfDial_40 : decode cX2_faultOfDial 40 = .ok (.ireturn, 1) := by decide +kernel
theorem dX2_faultOfDial_41 : decode cX2_faultOfDial 41 = .ok (.iload_n 1, 1) := by decide +kernel
theorem dX2_faultOfDial_42 : decode cX2_faultOfDial 42 = .ok (.lload_n 2, 1) := by decide +kernel
theorem dX2_faultOfDial_43 : decode cX2_faultOfDial 43 = .ok (.lload 4, 2) := by decide +kernel
theorem dX2_faultOfDial_45 : decode cX2_faultOfDial 45 = .ok (.invokestatic 100, 3) := by decide +kernel
theorem dX2_faultOfDial_48 : decode cX2_faultOfDial 48 = .ok (.ifCond .le 7, 3) := by decide +kernel
theorem dX2_faultOfDial_51 : decode cX2_faultOfDial 51 = .ok (.iconst 4, 1) := by decide +kernel
theorem dX2_faultOfDial_52 : decode cX2_faultOfDial 52 = .ok (.goto 4, 3) := by decide +kernel
theorem dX2_faultOfDial_55 : decode cX2_faultOfDial 55 = .ok (.iconst 0, 1) := by decide +kernel
theorem dX2_faultOfDial_56 : decode cX2_faultOfDial 56 = .ok (.ireturn, 1) := by decide +kernel
set_option maxRecDepth 20000 in
theorem ggX2_faultOfRod_X2_isSort : GoodIn wsX2_faultOfRod wsX2_isSort := goodIn_r _ [5] (by decide +kernel) (by decide +kernel)
set_option maxRecDepth 20000 in
theorem gX2_faultOfRod_X2_isSort : GoodIn wsX2_faultOfRod (va_wsS RX2 114 yX2_isSort wsX2_isSort) := goodIn_app (goodIn_of _ (by decide +kernel)) ggX2_faultOfRod_X2_isSort
set_option maxRecDepth 20000 in
theorem ggX2_faultOfRod_X2_isDial : GoodIn wsX2_faultOfRod wsX2_isDial := goodIn_r _ [9, 10, 20, 21, 22, 23, 24, 25, 26, 27, 28, 29, 30, 31, 32, 33] (by decide +kernel) (by decide +kernel)
set_option maxRecDepth 20000 in
theorem gX2_faultOfRod_X2_isDial : GoodIn wsX2_faultOfRod (wsV RX2 103 RX2 yX2_isDial wsX2_isDial) := goodIn_app (goodIn_of _ (by decide +kernel)) ggX2_faultOfRod_X2_isDial
set_option maxRecDepth 20000 in
theorem ggX2_faultOfRod_X2_faultOfPair : GoodIn wsX2_faultOfRod wsX2_faultOfPair := goodIn_r _ [14, 15, 16, 17, 18, 19, 20, 21, 22, 23, 24, 25, 26, 27, 28, 29, 30, 31, 32, 33] (by decide +kernel) (by decide +kernel)
set_option maxRecDepth 20000 in
theorem gX2_faultOfRod_X2_faultOfPair : GoodIn wsX2_faultOfRod (wsV RX2 117 RX2 yX2_faultOfPair wsX2_faultOfPair) := goodIn_app (goodIn_of _ (by decide +kernel)) ggX2_faultOfRod_X2_faultOfPair
theorem dX2_faultOfRod_0 : decode cX2_faultOfRod 0 = .ok (.iload_n 1, 1) := by decide +kernel
theorem dX2_faultOfRod_1 : decode cX2_faultOfRod 1 = .ok (.invokestatic 114, 3) := by decide +kernel
theorem dX2_faultOfRod_4 : decode cX2_faultOfRod 4 = .ok (.ifCond .ne 5, 3) := by decide +kernel
theorem dX2_faultOfRod_7 : decode cX2_faultOfRod 7 = .ok (.iconst 2, 1) := by decide +kernel
theorem dX2_faultOfRod_8 : decode cX2_faultOfRod 8 = .ok (.ireturn, 1) := by decide +kernel
theorem dX2_faultOfRod_9 : decode cX2_faultOfRod 9 = .ok (.aload_n 0, 1) := by decide +kernel
theorem dX2_faultOfRod_10 : decode cX2_faultOfRod 10 = .ok (.iload_n 2, 1) := by decide +kernel
theorem dX2_faultOfRod_11 : decode cX2_faultOfRod 11 = .ok (.invokevirtual 103, 3) := by decide +kernel
theorem dX2_faultOfRod_14 : decode cX2_faultOfRod 14 = .ok (.ifCond .eq 11, 3) := by decide +kernel
theorem dX2_faultOfRod_17 : decode cX2_faultOfRod 17 = .ok (.aload_n 0, 1) := by decide +kernel
theorem dX2_faultOfRod_18 : decode cX2_faultOfRod 18 = .ok (.iload_n 3, 1) := by decide +kernel
theorem dX2_faultOfRod_19 : decode cX2_faultOfRod 19 = .ok (.invokevirtual 103, 3) := by decide +kernel
theorem dX2_faultOfRod_22 : decode cX2_faultOfRod 22 = .ok (.ifCond .ne 5, 3) := by decide +kernel
theorem dX2_faultOfRod_25 : decode cX2_faultOfRod 25 = .ok (.iconst 1, 1) := by decide +kernel
theorem dX2_faultOfRod_26 : decode cX2_faultOfRod 26 = .ok (.ireturn, 1) := by decide +kernel
theorem dX2_faultOfRod_27 : decode cX2_faultOfRod 27 = .ok (.aload_n 0, 1) := by decide +kernel
theorem dX2_faultOfRod_28 : decode cX2_faultOfRod 28 = .ok (.iload_n 1, 1) := by decide +kernel
theorem dX2_faultOfRod_29 : decode cX2_faultOfRod 29 = .ok (.iload_n 2, 1) := by decide +kernel
theorem dX2_faultOfRod_30 : decode cX2_faultOfRod 30 = .ok (.iload_n 3, 1) := by decide +kernel
theorem dX2_faultOfRod_31 : decode cX2_faultOfRod 31 = .ok (.invokevirtual 117, 3) := by decide +kernel
theorem dX2_faultOfRod_34 : decode cX2_faultOfRod 34 = .ok (.istore 4, 2) := by decide +kernel
theorem dX2_faultOfRod_36 : decode cX2_faultOfRod 36 = .ok (.iload 4, 2) := by decide +kernel
theorem dX2_faultOfRod_38 : decode cX2_faultOfRod 38 = .ok (.ifCond .eq 6, 3) := by decide +kernel
theorem dX2_faultOfRod_41 : decode cX2_faultOfRod 41 = .ok (.iload 4, 2) := by decide +kernel
theorem dX2_faultOfRod_43 : decode cX2_faultOfRod 43 = .ok (.ireturn, 1) := by decide +kernel
theorem dX2_faultOfRod_44 : decode cX2_faultOfRod 44 = .ok (.aload_n 0, 1) := by decide +kernel
theorem dX2_faultOfRod_45 : decode cX2_faultOfRod 45 = .ok (.getfield 64, 3) := by decide +kernel
theorem dX2_faultOfRod_48 : decode cX2_faultOfRod 48 = .ok (.bipush 24, 2) := by decide +kernel
theorem dX2_faultOfRod_50 : decode cX2_faultOfRod 50 = .ok (.if_icmp .lt 7, 3) := by decide +kernel
theorem dX2_faultOfRod_53 : decode cX2_faultOfRod 53 = .ok (.iconst 5, 1) := by decide +kernel
theorem dX2_faultOfRod_54 : decode cX2_faultOfRod 54 = .ok (.goto 4, 3) := by decide +kernel
theorem dX2_faultOfRod_57 : decode cX2_faultOfRod 57 = .ok (.iconst 0, 1) := by decide +kernel
theorem dX2_faultOfRod_58 : decode cX2_faultOfRod 58 = .ok (.ireturn, 1) := by decide +kernel
set_option maxRecDepth 20000 in
theorem ggX2_faultOfSet_X2_isDial : GoodIn wsX2_faultOfSet wsX2_isDial := goodIn_r _ [6, 7, 16, 17, 18, 19, 20, 21, 22, 23, 24, 25, 26, 27, 28, 29] (by decide +kernel) (by decide +kernel)
set_option maxRecDepth 20000 in
theorem gX2_faultOfSet_X2_isDial : GoodIn wsX2_faultOfSet (wsV RX2 103 RX2 yX2_isDial wsX2_isDial) := goodIn_app (goodIn_of _ (by decide +kernel)) ggX2_faultOfSet_X2_isDial
set_option maxRecDepth 20000 in
theorem ggX2_faultOfSet_X0_isOfKind : GoodIn wsX2_faultOfSet wsX0_isOfKind := goodIn_r _ [11, 12, 13, 14, 15] (by decide +kernel) (by decide +kernel)
set_option maxRecDepth 20000 in
theorem gX2_faultOfSet_X0_isOfKind : GoodIn wsX2_faultOfSet (va_wsS RX2 110 yX0_isOfKind wsX0_isOfKind) := goodIn_app (goodIn_of _ (by decide +kernel)) ggX2_faultOfSet_X0_isOfKind
theorem dX2_faultOfSet_0 : decode cX2_faultOfSet 0 = .ok (.aload_n 0, 1) := by decide +kernel
theorem dX2_faultOfSet_1 : decode cX2_faultOfSet 1 = .ok (.iload_n 1, 1) := by decide +kernel
theorem dX2_faultOfSet_2 : decode cX2_faultOfSet 2 = .ok (.invokevirtual 103, 3) := by decide +kernel
theorem dX2_faultOfSet_5 : decode cX2_faultOfSet 5 = .ok (.ifCond .ne 5, 3) := by decide +kernel
theorem dX2_faultOfSet_8 : decode cX2_faultOfSet 8 = .ok (.iconst 1, 1) := by decide +kernel
theorem dX2_faultOfSet_9 : decode cX2_faultOfSet 9 = .ok (.ireturn, 1) := by decide +kernel
theorem dX2_faultOfSet_10 : decode cX2_faultOfSet 10 = .ok (.aload_n 0, 1) := by decide +kernel
theorem dX2_faultOfSet_11 : decode cX2_faultOfSet 11 = .ok (.getfield 9, 3) := by decide +kernel
theorem dX2_faultOfSet_14 : decode cX2_faultOfSet 14 = .ok (.iload_n 1, 1) := by decide +kernel
theorem dX2_faultOfSet_15 : decode cX2_faultOfSet 15 = .ok (.iaload, 1) := by decide +kernel
theorem dX2_faultOfSet_16 : decode cX2_faultOfSet 16 = .ok (.lload_n 2, 1) := by decide +kernel
theorem dX2_faultOfSet_17 : decode cX2_faultOfSet 17 = .ok (.invokestatic 110, 3) := by decide +kernel
theorem dX2_faultOfSet_20 : decode cX2_faultOfSet 20 = .ok (.ifCond .eq 7, 3) := by decide +kernel
theorem dX2_faultOfSet_23 : decode cX2_faultOfSet 23 = .ok (.iconst 0, 1) := by decide +kernel
theorem dX2_faultOfSet_24 : decode cX2_faultOfSet 24 = .ok (.goto 4, 3) := by decide +kernel
theorem dX2_faultOfSet_27 : decode cX2_faultOfSet 27 = .ok (.iconst 3, 1) := by decide +kernel
theorem dX2_faultOfSet_28 : decode cX2_faultOfSet 28 = .ok (.ireturn, 1) := by decide +kernel
set_option maxRecDepth 20000 in
theorem ggX2_faultOfTurn_X2_isDial : GoodIn wsX2_faultOfTurn wsX2_isDial := goodIn_r _ [6, 7, 12, 13, 14, 15, 16, 17, 18, 19, 20, 21, 22, 23, 24, 25] (by decide +kernel) (by decide +kernel)
set_option maxRecDepth 20000 in
theorem gX2_faultOfTurn_X2_isDial : GoodIn wsX2_faultOfTurn (wsV RX2 103 RX2 yX2_isDial wsX2_isDial) := goodIn_app (goodIn_of _ (by decide +kernel)) ggX2_faultOfTurn_X2_isDial
set_option maxRecDepth 20000 in
theorem ggX2_faultOfTurn_X0_isReal : GoodIn wsX2_faultOfTurn wsX0_isReal := goodIn_r _ [11] (by decide +kernel) (by decide +kernel)
set_option maxRecDepth 20000 in
theorem gX2_faultOfTurn_X0_isReal : GoodIn wsX2_faultOfTurn (va_wsS RX2 120 yX0_isReal wsX0_isReal) := goodIn_app (goodIn_of _ (by decide +kernel)) ggX2_faultOfTurn_X0_isReal
theorem dX2_faultOfTurn_0 : decode cX2_faultOfTurn 0 = .ok (.aload_n 0, 1) := by decide +kernel
theorem dX2_faultOfTurn_1 : decode cX2_faultOfTurn 1 = .ok (.iload_n 1, 1) := by decide +kernel
theorem dX2_faultOfTurn_2 : decode cX2_faultOfTurn 2 = .ok (.invokevirtual 103, 3) := by decide +kernel
theorem dX2_faultOfTurn_5 : decode cX2_faultOfTurn 5 = .ok (.ifCond .ne 5, 3) := by decide +kernel
theorem dX2_faultOfTurn_8 : decode cX2_faultOfTurn 8 = .ok (.iconst 1, 1) := by decide +kernel
theorem dX2_faultOfTurn_9 : decode cX2_faultOfTurn 9 = .ok (.ireturn, 1) := by decide +kernel
theorem dX2_faultOfTurn_10 : decode cX2_faultOfTurn 10 = .ok (.aload_n 0, 1) := by decide +kernel
theorem dX2_faultOfTurn_11 : decode cX2_faultOfTurn 11 = .ok (.getfield 9, 3) := by decide +kernel
theorem dX2_faultOfTurn_14 : decode cX2_faultOfTurn 14 = .ok (.iload_n 1, 1) := by decide +kernel
theorem dX2_faultOfTurn_15 : decode cX2_faultOfTurn 15 = .ok (.iaload, 1) := by decide +kernel
theorem dX2_faultOfTurn_16 : decode cX2_faultOfTurn 16 = .ok (.invokestatic 120, 3) := by decide +kernel
theorem dX2_faultOfTurn_19 : decode cX2_faultOfTurn 19 = .ok (.ifCond .eq 7, 3) := by decide +kernel
theorem dX2_faultOfTurn_22 : decode cX2_faultOfTurn 22 = .ok (.iconst 4, 1) := by decide +kernel
theorem dX2_faultOfTurn_23 : decode cX2_faultOfTurn 23 = .ok (.goto 4, 3) := by decide +kernel
theorem dX2_faultOfTurn_26 : decode cX2_faultOfTurn 26 = .ok (.iconst 0, 1) := by decide +kernel
theorem dX2_faultOfTurn_27 : decode cX2_faultOfTurn 27 = .ok (.istore_n 3, 1) := by decide +kernel
theorem dX2_faultOfTurn_28 : decode cX2_faultOfTurn 28 = .ok (.iload_n 2, 1) := by decide +kernel
theorem dX2_faultOfTurn_29 : decode cX2_faultOfTurn 29 = .ok (.ifCond .lt 8, 3) := by decide +kernel
theorem dX2_faultOfTurn_32 : decode cX2_faultOfTurn 32 = .ok (.iload_n 2, 1) := by decide +kernel
theorem dX2_faultOfTurn_33 : decode cX2_faultOfTurn 33 = .ok (.iload_n 3, 1) := by decide +kernel
theorem dX2_faultOfTurn_34 : decode cX2_faultOfTurn 34 = .ok (.if_icmp .le 7, 3) := by decide +kernel
theorem dX2_faultOfTurn_37 : decode cX2_faultOfTurn 37 = .ok (.iconst 2, 1) := by decide +kernel
theorem dX2_faultOfTurn_38 : decode cX2_faultOfTurn 38 = .ok (.goto 4, 3) := by decide +kernel
theorem dX2_faultOfTurn_41 : decode cX2_faultOfTurn 41 = .ok (.iconst 0, 1) := by decide +kernel
theorem dX2_faultOfTurn_42 : decode cX2_faultOfTurn 42 = .ok (.ireturn, 1) := by decide +kernel
set_option maxRecDepth 20000 in
theorem ggX2_faultOfTake_X2_isDial : GoodIn wsX2_faultOfTake wsX2_isDial := goodIn_r _ [5, 6, 19, 20, 21, 22, 23, 24, 25, 26, 27, 28, 29, 30, 31, 32] (by decide +kernel) (by decide +kernel)
set_option maxRecDepth 20000 in
theorem gX2_faultOfTake_X2_isDial : GoodIn wsX2_faultOfTake (wsV RX2 103 RX2 yX2_isDial wsX2_isDial) := goodIn_app (goodIn_of _ (by decide +kernel)) ggX2_faultOfTake_X2_isDial
set_option maxRecDepth 20000 in
theorem ggX2_faultOfTake_X2_isSort : GoodIn wsX2_faultOfTake wsX2_isSort := goodIn_r _ [9] (by decide +kernel) (by decide +kernel)
set_option maxRecDepth 20000 in
theorem gX2_faultOfTake_X2_isSort : GoodIn wsX2_faultOfTake (va_wsS RX2 114 yX2_isSort wsX2_isSort) := goodIn_app (goodIn_of _ (by decide +kernel)) ggX2_faultOfTake_X2_isSort
set_option maxRecDepth 20000 in
theorem ggX2_faultOfTake_X2_faultOfPair : GoodIn wsX2_faultOfTake wsX2_faultOfPair := goodIn_r _ [13, 14, 15, 16, 17, 18, 19, 20, 21, 22, 23, 24, 25, 26, 27, 28, 29, 30, 31, 32] (by decide +kernel) (by decide +kernel)
set_option maxRecDepth 20000 in
theorem gX2_faultOfTake_X2_faultOfPair : GoodIn wsX2_faultOfTake (wsV RX2 117 RX2 yX2_faultOfPair wsX2_faultOfPair) := goodIn_app (goodIn_of _ (by decide +kernel)) ggX2_faultOfTake_X2_faultOfPair
theorem dX2_faultOfTake_0 : decode cX2_faultOfTake 0 = .ok (.aload_n 0, 1) := by decide +kernel
theorem dX2_faultOfTake_1 : decode cX2_faultOfTake 1 = .ok (.iload_n 1, 1) := by decide +kernel
theorem dX2_faultOfTake_2 : decode cX2_faultOfTake 2 = .ok (.invokevirtual 103, 3) := by decide +kernel
theorem dX2_faultOfTake_5 : decode cX2_faultOfTake 5 = .ok (.ifCond .eq 11, 3) := by decide +kernel
theorem dX2_faultOfTake_8 : decode cX2_faultOfTake 8 = .ok (.aload_n 0, 1) := by decide +kernel
theorem dX2_faultOfTake_9 : decode cX2_faultOfTake 9 = .ok (.iload_n 2, 1) := by decide +kernel
theorem dX2_faultOfTake_10 : decode cX2_faultOfTake 10 = .ok (.invokevirtual 103, 3) := by decide +kernel
theorem dX2_faultOfTake_13 : decode cX2_faultOfTake 13 = .ok (.ifCond .ne 5, 3) := by decide +kernel
theorem dX2_faultOfTake_16 : decode cX2_faultOfTake 16 = .ok (.iconst 1, 1) := by decide +kernel
theorem dX2_faultOfTake_17 : decode cX2_faultOfTake 17 = .ok (.ireturn, 1) := by decide +kernel
theorem dX2_faultOfTake_18 : decode cX2_faultOfTake 18 = .ok (.iload_n 3, 1) := by decide +kernel
theorem dX2_faultOfTake_19 : decode cX2_faultOfTake 19 = .ok (.invokestatic 114, 3) := by decide +kernel
theorem dX2_faultOfTake_22 : decode cX2_faultOfTake 22 = .ok (.ifCond .ne 5, 3) := by decide +kernel
theorem dX2_faultOfTake_25 : decode cX2_faultOfTake 25 = .ok (.iconst 2, 1) := by decide +kernel
theorem dX2_faultOfTake_26 : decode cX2_faultOfTake 26 = .ok (.ireturn, 1) := by decide +kernel
theorem dX2_faultOfTake_27 : decode cX2_faultOfTake 27 = .ok (.aload_n 0, 1) := by decide +kernel
theorem dX2_faultOfTake_28 : decode cX2_faultOfTake 28 = .ok (.iload_n 3, 1) := by decide +kernel
theorem dX2_faultOfTake_29 : decode cX2_faultOfTake 29 = .ok (.iload_n 2, 1) := by decide +kernel
theorem dX2_faultOfTake_30 : decode cX2_faultOfTake 30 = .ok (.iload_n 1, 1) := by decide +kernel
theorem dX2_faultOfTake_31 : decode cX2_faultOfTake 31 = .ok (.invokevirtual 117, 3) := by decide +kernel
theorem dX2_faultOfTake_34 : decode cX2_faultOfTake 34 = .ok (.ireturn, 1) := by decide +kernel
set_option maxRecDepth 20000 in
theorem ggX2_faultOfOrder_X2_isDial : GoodIn wsX2_faultOfOrder wsX2_isDial := goodIn_r _ [6, 7, 8, 9, 10, 11, 12, 13, 14, 15, 16, 17, 18, 19, 20, 21] (by decide +kernel) (by decide +kernel)
set_option maxRecDepth 20000 in
theorem gX2_faultOfOrder_X2_isDial : GoodIn wsX2_faultOfOrder (wsV RX2 103 RX2 yX2_isDial wsX2_isDial) := goodIn_app (goodIn_of _ (by decide +kernel)) ggX2_faultOfOrder_X2_isDial
theorem dX2_faultOfOrder_0 : decode cX2_faultOfOrder 0 = .ok (.aload_n 0, 1) := by decide +kernel
theorem dX2_faultOfOrder_1 : decode cX2_faultOfOrder 1 = .ok (.iload_n 1, 1) := by decide +kernel
theorem dX2_faultOfOrder_2 : decode cX2_faultOfOrder 2 = .ok (.invokevirtual 103, 3) := by decide +kernel
theorem dX2_faultOfOrder_5 : decode cX2_faultOfOrder 5 = .ok (.ifCond .eq 11, 3) := by decide +kernel
theorem dX2_faultOfOrder_8 : decode cX2_faultOfOrder 8 = .ok (.aload_n 0, 1) := by decide +kernel
theorem dX2_faultOfOrder_9 : decode cX2_faultOfOrder 9 = .ok (.iload_n 2, 1) := by decide +kernel
theorem dX2_faultOfOrder_10 : decode cX2_faultOfOrder 10 = .ok (.invokevirtual 103, 3) := by decide +kernel
theorem dX2_faultOfOrder_13 : decode cX2_faultOfOrder 13 = .ok (.ifCond .ne 5, 3) := by decide +kernel
theorem dX2_faultOfOrder_16 : decode cX2_faultOfOrder 16 = .ok (.iconst 1, 1) := by decide +kernel
theorem dX2_faultOfOrder_17 : decode cX2_faultOfOrder 17 = .ok (.ireturn, 1) := by decide +kernel
theorem dX2_faultOfOrder_18 : decode cX2_faultOfOrder 18 = .ok (.aload_n 0, 1) := by decide +kernel
theorem dX2_faultOfOrder_19 : decode cX2_faultOfOrder 19 = .ok (.getfield 9, 3) := by decide +kernel
theorem dX2_faultOfOrder_22 : decode cX2_faultOfOrder 22 = .ok (.iload_n 1, 1) := by decide +kernel
theorem dX2_faultOfOrder_23 : decode cX2_faultOfOrder 23 = .ok (.iaload, 1) := by decide +kernel
theorem dX2_faultOfOrder_24 : decode cX2_faultOfOrder 24 = .ok (.aload_n 0, 1) := by decide +kernel
theorem dX2_faultOfOrder_25 : decode cX2_faultOfOrder 25 = .ok (.getfield 9, 3) := by decide +kernel
theorem dX2_faultOfOrder_28 : decode cX2_faultOfOrder 28 = .ok (.iload_n 2, 1) := by decide +kernel
theorem dX2_faultOfOrder_29 : decode cX2_faultOfOrder 29 = .ok (.iaload, 1) := by decide +kernel
theorem dX2_faultOfOrder_30 : decode cX2_faultOfOrder 30 = .ok (.if_icmp .eq 8, 3) := by decide +kernel
theorem dX2_faultOfOrder_33 : decode cX2_faultOfOrder 33 = .ok (.bipush 6, 2) := by decide +kernel
theorem dX2_faultOfOrder_35 : decode cX2_faultOfOrder 35 = .ok (.goto 4, 3) := by decide +kernel
theorem dX2_faultOfOrder_38 : decode cX2_faultOfOrder 38 = .ok (.iconst 0, 1) := by decide +kernel
theorem dX2_faultOfOrder_39 : decode cX2_faultOfOrder 39 = .ok (.ireturn, 1) := by decide +kernel
set_option maxRecDepth 20000 in
theorem ggX2_faultOfPair_X0_isReal : GoodIn wsX2_faultOfPair wsX0_isReal := goodIn_r _ [5] (by decide +kernel) (by decide +kernel)
set_option maxRecDepth 20000 in
theorem gX2_faultOfPair_X0_isReal : GoodIn wsX2_faultOfPair (va_wsS RX2 120 yX0_isReal wsX0_isReal) := goodIn_app (goodIn_of _ (by decide +kernel)) ggX2_faultOfPair_X0_isReal
theorem dX2_faultOfPair_0 : decode cX2_faultOfPair 0 = .ok (.iload_n 2, 1) := by decide +kernel
theorem dX2_faultOfPair_1 : decode cX2_faultOfPair 1 = .ok (.iload_n 3, 1) := by decide +kernel
theorem dX2_faultOfPair_2 : decode cX2_faultOfPair 2 = .ok (.if_icmp .eq 18, 3) := by decide +kernel
theorem dX2_faultOfPair_5 : decode cX2_faultOfPair 5 = .ok (.aload_n 0, 1) := by decide +kernel
theorem dX2_faultOfPair_6 : decode cX2_faultOfPair 6 = .ok (.getfield 9, 3) := by decide +kernel
theorem dX2_faultOfPair_9 : decode cX2_faultOfPair 9 = .ok (.iload_n 2, 1) := by decide +kernel
theorem dX2_faultOfPair_10 : decode cX2_faultOfPair 10 = .ok (.iaload, 1) := by decide +kernel
theorem dX2_faultOfPair_11 : decode cX2_faultOfPair 11 = .ok (.aload_n 0, 1) := by decide +kernel
theorem dX2_faultOfPair_12 : decode cX2_faultOfPair 12 = .ok (.getfield 9, 3) := by decide +kernel
theorem dX2_faultOfPair_15 : decode cX2_faultOfPair 15 = .ok (.iload_n 3, 1) := by decide +kernel
theorem dX2_faultOfPair_16 : decode cX2_faultOfPair 16 = .ok (.iaload, 1) := by decide +kernel
theorem dX2_faultOfPair_17 : decode cX2_faultOfPair 17 = .ok (.if_icmp .eq 6, 3) := by decide +kernel
theorem dX2_faultOfPair_20 : decode cX2_faultOfPair 20 = .ok (.bipush 6, 2) := by decide +kernel
theorem dX2_faultOfPair_22 : decode cX2_faultOfPair 22 = .ok (.ireturn, 1) := by decide +kernel
theorem dX2_faultOfPair_23 : decode cX2_faultOfPair 23 = .ok (.iload_n 1, 1) := by decide +kernel
theorem dX2_faultOfPair_24 : decode cX2_faultOfPair 24 = .ok (.iconst 2, 1) := by decide +kernel
theorem dX2_faultOfPair_25 : decode cX2_faultOfPair 25 = .ok (.if_icmp .ne 19, 3) := by decide +kernel
theorem dX2_faultOfPair_28 : decode cX2_faultOfPair 28 = .ok (.aload_n 0, 1) := by decide +kernel
theorem dX2_faultOfPair_29 : decode cX2_faultOfPair 29 = .ok (.getfield 9, 3) := by decide +kernel
theorem dX2_faultOfPair_32 : decode cX2_faultOfPair 32 = .ok (.iload_n 2, 1) := by decide +kernel
theorem dX2_faultOfPair_33 : decode cX2_faultOfPair 33 = .ok (.iaload, 1) := by decide +kernel
theorem dX2_faultOfPair_34 : decode cX2_faultOfPair 34 = .ok (.invokestatic 120, 3) := by decide +kernel
theorem dX2_faultOfPair_37 : decode cX2_faultOfPair 37 = .ok (.ifCond .ne 7, 3) := by decide +kernel
theorem dX2_faultOfPair_40 : decode cX2_faultOfPair 40 = .ok (.iconst 2, 1) := by decide +kernel
theorem dX2_faultOfPair_41 : decode cX2_faultOfPair 41 = .ok (.goto 4, 3) := by decide +kernel
theorem dX2_faultOfPair_44 : decode cX2_faultOfPair 44 = .ok (.iconst 0, 1) := by decide +kernel
theorem dX2_faultOfPair_45 : decode cX2_faultOfPair 45 = .ok (.ireturn, 1) := by decide +kernel
theorem dX2_isDial_0 : decode cX2_isDial 0 = .ok (.iload_n 1, 1) := by decide +kernel
theorem dX2_isDial_1 : decode cX2_isDial 1 = .ok (.ifCond .lt 15, 3) := by decide +kernel
theorem dX2_isDial_4 : decode cX2_isDial 4 = .ok (.iload_n 1, 1) := by decide +kernel
theorem dX2_isDial_5 : decode cX2_isDial 5 = .ok (.aload_n 0, 1) := by decide +kernel
theorem dX2_isDial_6 : decode cX2_isDial 6 = .ok (.getfield 51, 3) := by decide +kernel
theorem dX2_isDial_9 : decode cX2_isDial 9 = .ok (.if_icmp .ge 7, 3) := by decide +kernel
theorem dX2_isDial_12 : decode cX2_isDial 12 = .ok (.iconst 1, 1) := by decide +kernel
theorem dX2_isDial_13 : decode cX2_isDial 13 = .ok (.goto 4, 3) := by decide +kernel
theorem dX2_isDial_16 : decode cX2_isDial 16 = .ok (.iconst 0, 1) := by decide +kernel
theorem dX2_isDial_17 : decode cX2_isDial 17 = .ok (.ireturn, 1) := by decide +kernel
theorem dX2_isSort_0 : decode cX2_isSort 0 = .ok (.iload_n 0, 1) := by decide +kernel
theorem dX2_isSort_1 : decode cX2_isSort 1 = .ok (.ifCond .lt 12, 3) := by decide +kernel
theorem dX2_isSort_4 : decode cX2_isSort 4 = .ok (.iload_n 0, 1) := by decide +kernel
theorem dX2_isSort_5 : decode cX2_isSort 5 = .ok (.iconst 3, 1) := by decide +kernel
theorem dX2_isSort_6 : decode cX2_isSort 6 = .ok (.if_icmp .gt 7, 3) := by decide +kernel
theorem dX2_isSort_9 : decode cX2_isSort 9 = .ok (.iconst 1, 1) := by decide +kernel
theorem dX2_isSort_10 : decode cX2_isSort 10 = .ok (.goto 4, 3) := by decide +kernel
theorem dX2_isSort_13 : decode cX2_isSort 13 = .ok (.iconst 0, 1) := by decide +kernel
theorem dX2_isSort_14 : decode cX2_isSort 14 = .ok (.ireturn, 1) := by decide +kernel
set_option maxRecDepth 20000 in
theorem ggX2_movesWhenGiven_X2_gets : GoodIn wsX2_movesWhenGiven wsX2_gets := goodIn_r _ [8, 9, 10, 11, 12, 1, 13, 2, 14, 15, 16, 17, 18, 19, 20, 21, 22, 23, 24, 25, 26, 27, 28, 29, 30, 31, 32, 33, 34, 35, 36, 37, 38, 39, 40, 41, 42, 7, 43, 3, 44, 45, 46, 47, 48, 49, 50, 51, 52, 53, 54, 55, 56, 57, 58, 59, 60, 61, 62, 63, 64, 65, 66, 67, 68, 69, 70, 71, 72, 73, 74, 75, 76, 77, 78, 79, 4, 5, 6, 80, 81, 82, 83, 84, 85, 86, 87, 88, 89, 90, 91, 92, 93, 94, 95, 96, 97] (by decide +kernel) (by decide +kernel)
set_option maxRecDepth 20000 in
theorem gX2_movesWhenGiven_X2_gets : GoodIn wsX2_movesWhenGiven (wsV RX2 126 RX2 yX2_gets wsX2_gets) := goodIn_app (goodIn_of _ (by decide +kernel)) ggX2_movesWhenGiven_X2_gets
theorem dX2_movesWhenGiven_0 : decode cX2_movesWhenGiven 0 = .ok (.iconst 0, 1) := by decide +kernel
theorem dX2_movesWhenGiven_1 : decode cX2_movesWhenGiven 1 = .ok (.istore 4, 2) := by decide +kernel
theorem dX2_movesWhenGiven_3 : decode cX2_movesWhenGiven 3 = .ok (.iload 4, 2) := by decide +kernel
theorem dX2_movesWhenGiven_5 : decode cX2_movesWhenGiven 5 = .ok (.aload_n 0, 1) := by decide +kernel
theorem dX2_movesWhenGiven_6 : decode cX2_movesWhenGiven 6 = .ok (.getfield 64, 3) := by decide +kernel
theorem dX2_movesWhenGiven_9 : decode cX2_movesWhenGiven 9 = .ok (.if_icmp .ge 17, 3) := by decide +kernel
theorem dX2_movesWhenGiven_12 : decode cX2_movesWhenGiven 12 = .ok (.aload_n 0, 1) := by decide +kernel
theorem dX2_movesWhenGiven_13 : decode cX2_movesWhenGiven 13 = .ok (.getfield 32, 3) := by decide +kernel
theorem dX2_movesWhenGiven_16 : decode cX2_movesWhenGiven 16 = .ok (.iload 4, 2) := by decide +kernel
theorem dX2_movesWhenGiven_18 : decode cX2_movesWhenGiven 18 = .ok (.iconst 0, 1) := by decide +kernel
theorem dX2_movesWhenGiven_19 : decode cX2_movesWhenGiven 19 = .ok (.bastore, 1) := by decide +kernel
theorem dX2_movesWhenGiven_20 : decode cX2_movesWhenGiven 20 = .ok (.iinc 4 1, 3) := by decide +kernel
theorem dX2_movesWhenGiven_23 : decode cX2_movesWhenGiven 23 = .ok (.goto (-20), 3) := by decide +kernel
theorem dX2_movesWhenGiven_26 : decode cX2_movesWhenGiven 26 = .ok (.aload_n 0, 1) := by decide +kernel
theorem dX2_movesWhenGiven_27 : decode cX2_movesWhenGiven 27 = .ok (.iconst 0, 1) := by decide +kernel
theorem dX2_movesWhenGiven_28 : decode cX2_movesWhenGiven 28 = .ok (.putfield 123, 3) := by decide +kernel
theorem dX2_movesWhenGiven_31 : decode cX2_movesWhenGiven 31 = .ok (.aload_n 0, 1) := by decide +kernel
theorem dX2_movesWhenGiven_32 : decode cX2_movesWhenGiven 32 = .ok (.iload_n 1, 1) := by decide +kernel
theorem dX2_movesWhenGiven_33 : decode cX2_movesWhenGiven 33 = .ok (.lload_n 2, 1) := by decide +kernel
theorem dX2_movesWhenGiven_34 : decode cX2_movesWhenGiven 34 = .ok (.iconst 0, 1) := by decide +kernel
theorem dX2_movesWhenGiven_35 : decode cX2_movesWhenGiven 35 = .ok (.invokevirtual 126, 3) := by decide +kernel
theorem dX2_movesWhenGiven_38 : decode cX2_movesWhenGiven 38 = .ok (.aload_n 0, 1) := by decide +kernel
theorem dX2_movesWhenGiven_39 : decode cX2_movesWhenGiven 39 = .ok (.getfield 123, 3) := by decide +kernel
theorem dX2_movesWhenGiven_42 : decode cX2_movesWhenGiven 42 = .ok (.ireturn, 1) := by decide +kernel
set_option maxRecDepth 20000 in
theorem ggX2_gets_X0_fitted : GoodIn wsX2_gets wsX0_fitted := goodIn_r _ [13, 14, 15, 12, 16, 17, 18, 19, 20, 21, 22, 23, 24, 25, 26, 27, 28, 29, 30, 31, 32, 33] (by decide +kernel) (by decide +kernel)
set_option maxRecDepth 20000 in
theorem gX2_gets_X0_fitted : GoodIn wsX2_gets (va_wsS RX2 54 yX0_fitted wsX0_fitted) := goodIn_app (goodIn_of _ (by decide +kernel)) ggX2_gets_X0_fitted
set_option maxRecDepth 20000 in
theorem ggX2_gets_X2_move : GoodIn wsX2_gets wsX2_move := goodIn_r _ [38, 39, 40, 4, 41, 42, 43, 44, 45, 46, 47, 48, 49, 50, 51, 52, 53, 54, 55, 79, 80, 81, 82, 83, 84, 85, 86, 87, 88, 89, 90, 91, 92, 93, 94, 95, 96] (by decide +kernel) (by decide +kernel)
set_option maxRecDepth 20000 in
theorem gX2_gets_X2_move : GoodIn wsX2_gets (wsV RX2 130 RX2 yX2_move wsX2_move) := goodIn_app (goodIn_of _ (by decide +kernel)) ggX2_gets_X2_move
set_option maxRecDepth 20000 in
theorem ggX2_gets_X2_gift : GoodIn wsX2_gets wsX2_gift := goodIn_r _ [59, 1, 4, 60, 32, 12, 33, 17, 18, 19, 20, 21, 22, 23, 24, 25, 26, 27, 28, 29, 30, 61, 15, 16, 62, 63, 64, 65, 66, 67, 68, 69, 70, 71, 72, 73, 74, 75, 79, 80, 81, 82, 83, 84, 85, 86, 87, 88, 89, 90, 91, 92] (by decide +kernel) (by decide +kernel)
set_option maxRecDepth 20000 in
theorem gX2_gets_X2_gift : GoodIn wsX2_gets (wsV RX2 85 RX2 yX2_gift wsX2_gift) := goodIn_app (goodIn_of _ (by decide +kernel)) ggX2_gets_X2_gift
set_option maxRecDepth 20000 in
theorem ggX2_gets_X2_gets : GoodIn wsX2_gets wsX2_gets := goodIn_r _ [0, 1, 2, 3, 4, 5, 6, 7, 8, 9, 10, 11, 12, 13, 14, 15, 16, 17, 18, 19, 20, 21, 22, 23, 24, 25, 26, 27, 28, 29, 30, 31, 32, 33, 34, 35, 36, 37, 38, 39, 40, 41, 42, 43, 44, 45, 46, 47, 48, 49, 50, 51, 52, 53, 54, 55, 56, 57, 58, 59, 60, 61, 62, 63, 64, 65, 66, 67, 68, 69, 70, 71, 72, 73, 74, 75, 76, 77, 78, 79, 80, 81, 82, 83, 84, 85, 86, 87, 88, 89, 90, 91, 92, 93, 94, 95, 96] (by decide +kernel) (by decide +kernel)
set_option maxRecDepth 20000 in
theorem gX2_gets_X2_gets : GoodIn wsX2_gets (wsV RX2 126 RX2 yX2_gets wsX2_gets) := goodIn_app (goodIn_of _ (by decide +kernel)) ggX2_gets_X2_gets
theorem dX2_gets_0 : decode cX2_gets 0 = .ok (.aload_n 0, 1) := by decide +kernel
theorem dX2_gets_1 : decode cX2_gets 1 = .ok (.getfield 9, 3) := by decide +kernel
theorem dX2_gets_4 : decode cX2_gets 4 = .ok (.iload_n 1, 1) := by decide +kernel
theorem dX2_gets_5 : decode cX2_gets 5 = .ok (.iaload, 1) := by decide +kernel
theorem dX2_gets_6 : decode cX2_gets 6 = .ok (.aload_n 0, 1) := by decide +kernel
theorem dX2_gets_7 : decode cX2_gets 7 = .ok (.getfield 13, 3) := by decide +kernel
theorem dX2_gets_10 : decode cX2_gets 10 = .ok (.iload_n 1, 1) := by decide +kernel
theorem dX2_gets_11 : decode cX2_gets 11 = .ok (.laload, 1) := by decide +kernel
theorem dX2_gets_12 : decode cX2_gets 12 = .ok (.aload_n 0, 1) := by decide +kernel
theorem dX2_gets_13 : decode cX2_gets 13 = .ok (.getfield 17, 3) := by decide +kernel
theorem dX2_gets_16 : decode cX2_gets 16 = .ok (.iload_n 1, 1) := by decide +kernel
theorem dX2_gets_17 : decode cX2_gets 17 = .ok (.laload, 1) := by decide +kernel
theorem dX2_gets_18 : decode cX2_gets 18 = .ok (.lload_n 2, 1) := by decide +kernel
theorem dX2_gets_19 : decode cX2_gets 19 = .ok (.invokestatic 54, 3) := by decide +kernel
theorem dX2_gets_22 : decode cX2_gets 22 = .ok (.lstore 5, 2) := by decide +kernel
theorem dX2_gets_24 : decode cX2_gets 24 = .ok (.lload 5, 2) := by decide +kernel
theorem dX2_gets_26 : decode cX2_gets 26 = .ok (.aload_n 0, 1) := by decide +kernel
theorem dX2_gets_27 : decode cX2_gets 27 = .ok (.getfield 20, 3) := by decide +kernel
theorem dX2_gets_30 : decode cX2_gets 30 = .ok (.iload_n 1, 1) := by decide +kernel
theorem dX2_gets_31 : decode cX2_gets 31 = .ok (.laload, 1) := by decide +kernel
theorem dX2_gets_32 : decode cX2_gets 32 = .ok (.lcmp, 1) := by decide +kernel
theorem dX2_gets_33 : decode cX2_gets 33 = .ok (.ifCond .ne 4, 3) := by decide +kernel
theorem dX2_gets_36 : decode cX2_gets 36 = .ok (.return_, 1) := by decide +kernel
theorem dX2_gets_37 : decode cX2_gets 37 = .ok (.aload_n 0, 1) := by decide +kernel
theorem dX2_gets_38 : decode cX2_gets 38 = .ok (.iload_n 1, 1) := by decide +kernel
theorem dX2_gets_39 : decode cX2_gets 39 = .ok (.lload 5, 2) := by decide +kernel
theorem dX2_gets_41 : decode cX2_gets 41 = .ok (.invokevirtual 130, 3) := by decide +kernel
theorem dX2_gets_44 : decode cX2_gets 44 = .ok (.iload 4, 2) := by decide +kernel
theorem dX2_gets_46 : decode cX2_gets 46 = .ok (.bipush 24, 2) := by decide +kernel
theorem dX2_gets_48 : decode cX2_gets 48 = .ok (.if_icmp .lt 4, 3) := by decide +kernel
theorem dX2_gets_51 : decode cX2_gets 51 = .ok (.return_, 1) := by decide +kernel
theorem dX2_gets_52 : decode cX2_gets 52 = .ok (.iconst 0, 1) := by decide +kernel
theorem dX2_gets_53 : decode cX2_gets 53 = .ok (.istore 7, 2) := by decide +kernel
theorem dX2_gets_55 : decode cX2_gets 55 = .ok (.iload 7, 2) := by decide +kernel
theorem dX2_gets_57 : decode cX2_gets 57 = .ok (.aload_n 0, 1) := by decide +kernel
theorem dX2_gets_58 : decode cX2_gets 58 = .ok (.getfield 64, 3) := by decide +kernel
theorem dX2_gets_61 : decode cX2_gets 61 = .ok (.if_icmp .ge 72, 3) := by decide +kernel
theorem dX2_gets_64 : decode cX2_gets 64 = .ok (.aload_n 0, 1) := by decide +kernel
theorem dX2_gets_65 : decode cX2_gets 65 = .ok (.getfield 26, 3) := by decide +kernel
theorem dX2_gets_68 : decode cX2_gets 68 = .ok (.iload 7, 2) := by decide +kernel
theorem dX2_gets_70 : decode cX2_gets 70 = .ok (.iaload, 1) := by decide +kernel
theorem dX2_gets_71 : decode cX2_gets 71 = .ok (.iload_n 1, 1) := by decide +kernel
theorem dX2_gets_72 : decode cX2_gets 72 = .ok (.if_icmp .ne 55, 3) := by decide +kernel
theorem dX2_gets_75 : decode cX2_gets 75 = .ok (.aload_n 0, 1) := by decide +kernel
theorem dX2_gets_76 : decode cX2_gets 76 = .ok (.getfield 32, 3) := by decide +kernel
theorem dX2_gets_79 : decode cX2_gets 79 = .ok (.iload 7, 2) := by decide +kernel
theorem dX2_gets_81 : decode cX2_gets 81 = .ok (.baload, 1) := by decide +kernel
theorem dX2_gets_82 : decode cX2_gets 82 = .ok (.ifCond .ne 45, 3) := by decide +kernel
theorem dX2_gets_85 : decode cX2_gets 85 = .ok (.aload_n 0, 1) := by decide +kernel
theorem dX2_gets_86 : decode cX2_gets 86 = .ok (.getfield 32, 3) := by decide +kernel
theorem dX2_gets_89 : decode cX2_gets 89 = .ok (.iload 7, 2) := by decide +kernel
theorem dX2_gets_91 : decode cX2_gets 91 = .ok (.iconst 1, 1) := by decide +kernel
theorem dX2_gets_92 : decode cX2_gets 92 = .ok (.bastore, 1) := by decide +kernel
theorem dX2_gets_93 : decode cX2_gets 93 = .ok (.aload_n 0, 1) := by decide +kernel
theorem dX2_gets_94 : decode cX2_gets 94 = .ok (.aload_n 0, 1) := by decide +kernel
theorem dX2_gets_95 : decode cX2_gets 95 = .ok (.getfield 29, 3) := by decide +kernel
theorem dX2_gets_98 : decode cX2_gets 98 = .ok (.iload 7, 2) := by decide +kernel
theorem dX2_gets_100 : decode cX2_gets 100 = .ok (.iaload, 1) := by decide +kernel
theorem dX2_gets_101 : decode cX2_gets 101 = .ok (.aload_n 0, 1) := by decide +kernel
theorem dX2_gets_102 : decode cX2_gets 102 = .ok (.aload_n 0, 1) := by decide +kernel
theorem dX2_gets_103 : decode cX2_gets 103 = .ok (.getfield 23, 3) := by decide +kernel
theorem dX2_gets_106 : decode cX2_gets 106 = .ok (.iload 7, 2) := by decide +kernel
theorem dX2_gets_108 : decode cX2_gets 108 = .ok (.iaload, 1) := by decide +kernel
theorem dX2_gets_109 : decode cX2_gets 109 = .ok (.iload_n 1, 1) := by decide +kernel
theorem dX2_gets_110 : decode cX2_gets 110 = .ok (.aload_n 0, 1) := by decide +kernel
theorem dX2_gets_111 : decode cX2_gets 111 = .ok (.getfield 29, 3) := by decide +kernel
theorem dX2_gets_114 : decode cX2_gets 114 = .ok (.iload 7, 2) := by decide +kernel
theorem dX2_gets_116 : decode cX2_gets 116 = .ok (.iaload, 1) := by decide +kernel
theorem dX2_gets_117 : decode cX2_gets 117 = .ok (.invokevirtual 85, 3) := by decide +kernel
theorem dX2_gets_120 : decode cX2_gets 120 = .ok (.iload 4, 2) := by decide +kernel
theorem dX2_gets_122 : decode cX2_gets 122 = .ok (.iconst 1, 1) := by decide +kernel
theorem dX2_gets_123 : decode cX2_gets 123 = .ok (.iadd, 1) := by decide +kernel
theorem dX2_gets_124 : decode cX2_gets 124 = .ok (.invokevirtual 126, 3) := by decide +kernel
theorem dX2_gets_127 : decode cX2_gets 127 = .ok (.iinc 7 1, 3) := by decide +kernel
theorem dX2_gets_130 : decode cX2_gets 130 = .ok (.goto (-75), 3) := by decide +kernel
theorem dX2_gets_133 : decode cX2_gets 133 = .ok (.return_, 1) := by decide +kernel
set_option maxRecDepth 20000 in
theorem ggX2_move_X1_keep : GoodIn wsX2_move wsX1_keep := goodIn_r _ [10, 11, 12, 13, 14, 15, 16, 17, 18, 33, 34, 35, 36] (by decide +kernel) (by decide +kernel)
set_option maxRecDepth 20000 in
theorem gX2_move_X1_keep : GoodIn wsX2_move (wsV RX2 134 RX1 yX1_keep wsX1_keep) := goodIn_app (goodIn_of _ (by decide +kernel)) ggX2_move_X1_keep
theorem dX2_move_0 : decode cX2_move 0 = .ok (.aload_n 0, 1) := by decide +kernel
theorem dX2_move_1 : decode cX2_move 1 = .ok (.getfield 123, 3) := by decide +kernel
theorem dX2_move_4 : decode cX2_move 4 = .ok (.ifCond .ne 18, 3) := by decide +kernel
theorem dX2_move_7 : decode cX2_move 7 = .ok (.aload_n 0, 1) := by decide +kernel
theorem dX2_move_8 : decode cX2_move 8 = .ok (.getfield 39, 3) := by decide +kernel
theorem dX2_move_11 : decode cX2_move 11 = .ok (.aload_n 0, 1) := by decide +kernel
theorem dX2_move_12 : decode cX2_move 12 = .ok (.getfield 20, 3) := by decide +kernel
theorem dX2_move_15 : decode cX2_move 15 = .ok (.aload_n 0, 1) := by decide +kernel
theorem dX2_move_16 : decode cX2_move 16 = .ok (.getfield 51, 3) := by decide +kernel
theorem dX2_move_19 : decode cX2_move 19 = .ok (.invokevirtual 134, 3) := by decide +kernel
theorem dX2_move_22 : decode cX2_move 22 = .ok (.aload_n 0, 1) := by decide +kernel
theorem dX2_move_23 : decode cX2_move 23 = .ok (.getfield 20, 3) := by decide +kernel
theorem dX2_move_26 : decode cX2_move 26 = .ok (.iload_n 1, 1) := by decide +kernel
theorem dX2_move_27 : decode cX2_move 27 = .ok (.lload_n 2, 1) := by decide +kernel
theorem dX2_move_28 : decode cX2_move 28 = .ok (.lastore, 1) := by decide +kernel
theorem dX2_move_29 : decode cX2_move 29 = .ok (.aload_n 0, 1) := by decide +kernel
theorem dX2_move_30 : decode cX2_move 30 = .ok (.dup, 1) := by decide +kernel
theorem dX2_move_31 : decode cX2_move 31 = .ok (.getfield 123, 3) := by decide +kernel
theorem dX2_move_34 : decode cX2_move 34 = .ok (.iconst 1, 1) := by decide +kernel
theorem dX2_move_35 : decode cX2_move 35 = .ok (.iadd, 1) := by decide +kernel
theorem dX2_move_36 : decode cX2_move 36 = .ok (.putfield 123, 3) := by decide +kernel
theorem dX2_move_39 : decode cX2_move 39 = .ok (.aload_n 0, 1) := by decide +kernel
theorem dX2_move_40 : decode cX2_move 40 = .ok (.dup, 1) := by decide +kernel
theorem dX2_move_41 : decode cX2_move 41 = .ok (.getfield 107, 3) := by decide +kernel
theorem dX2_move_44 : decode cX2_move 44 = .ok (.iconst 1, 1) := by decide +kernel
theorem dX2_move_45 : decode cX2_move 45 = .ok (.iadd, 1) := by decide +kernel
theorem dX2_move_46 : decode cX2_move 46 = .ok (.putfield 107, 3) := by decide +kernel
theorem dX2_move_49 : decode cX2_move 49 = .ok (.return_, 1) := by decide +kernel
set_option maxRecDepth 20000 in
theorem ggX2_gift_X0_greater : GoodIn wsX2_gift wsX0_greater := goodIn_r _ [6, 7, 8, 5, 9, 10, 11, 12, 13, 14, 15, 16, 17, 18, 19, 20] (by decide +kernel) (by decide +kernel)
set_option maxRecDepth 20000 in
theorem gX2_gift_X0_greater : GoodIn wsX2_gift (va_wsS RX2 138 yX0_greater wsX0_greater) := goodIn_app (goodIn_of _ (by decide +kernel)) ggX2_gift_X0_greater
set_option maxRecDepth 20000 in
theorem ggX2_gift_X0_less : GoodIn wsX2_gift wsX0_less := goodIn_r _ [23, 7, 8, 5, 9, 10, 11, 12, 13, 14, 15, 16, 17, 18, 19, 20] (by decide +kernel) (by decide +kernel)
set_option maxRecDepth 20000 in
theorem gX2_gift_X0_less : GoodIn wsX2_gift (va_wsS RX2 142 yX0_less wsX0_less) := goodIn_app (goodIn_of _ (by decide +kernel)) ggX2_gift_X0_less
set_option maxRecDepth 20000 in
theorem ggX2_gift_X0_signed : GoodIn wsX2_gift wsX0_signed := goodIn_r _ [26, 27, 16, 17, 5, 18, 19, 20] (by decide +kernel) (by decide +kernel)
set_option maxRecDepth 20000 in
theorem gX2_gift_X0_signed : GoodIn wsX2_gift (va_wsS RX2 145 yX0_signed wsX0_signed) := goodIn_app (goodIn_of _ (by decide +kernel)) ggX2_gift_X0_signed
