theorem dX5_init_36 : decode cX5_init 36 = .ok (.getfield 10, 3) := by decide +kernel
theorem dX5_init_39 : decode cX5_init 39 = .ok (.invokespecial 27, 3) := by decide +kernel
theorem dX5_init_42 : decode cX5_init 42 = .ok (.putfield 28, 3) := by decide +kernel
theorem dX5_init_45 : decode cX5_init 45 = .ok (.return_, 1) := by decide +kernel
set_option maxRecDepth 20000 in
theorem ggX5_begin_X1_clearFor : GoodIn wsX5_begin wsX1_clearFor := goodIn_r _ [8, 9, 10, 11, 12, 13, 14, 18, 19, 20, 21, 22, 23, 24, 25] (by decide +kernel) (by decide +kernel)
set_option maxRecDepth 20000 in
theorem gX5_begin_X1_clearFor : GoodIn wsX5_begin (wsV RX5 41 RX1 yX1_clearFor wsX1_clearFor) := goodIn_app (goodIn_of _ (by decide +kernel)) ggX5_begin_X1_clearFor
theorem dX5_begin_0 : decode cX5_begin 0 = .ok (.iload_n 1, 1) := by decide +kernel
theorem dX5_begin_1 : decode cX5_begin 1 = .ok (.iconst (-1), 1) := by decide +kernel
theorem dX5_begin_2 : decode cX5_begin 2 = .ok (.if_icmp .lt 8, 3) := by decide +kernel
theorem dX5_begin_5 : decode cX5_begin 5 = .ok (.iload_n 1, 1) := by decide +kernel
theorem dX5_begin_6 : decode cX5_begin 6 = .ok (.iconst 4, 1) := by decide +kernel
theorem dX5_begin_7 : decode cX5_begin 7 = .ok (.if_icmp .lt 13, 3) := by decide +kernel
theorem dX5_begin_10 : decode cX5_begin 10 = .ok (.new 34, 3) := by decide +kernel
theorem dX5_begin_13 : decode cX5_begin 13 = .ok (.dup, 1) := by decide +kernel
theorem dX5_begin_14 : decode cX5_begin 14 = .ok (.ldc 36, 2) := by decide +kernel
theorem dX5_begin_16 : decode cX5_begin 16 = .ok (.invokespecial 38, 3) := by decide +kernel
theorem dX5_begin_19 : decode cX5_begin 19 = .ok (.athrow, 1) := by decide +kernel
theorem dX5_begin_20 : decode cX5_begin 20 = .ok (.aload_n 0, 1) := by decide +kernel
theorem dX5_begin_21 : decode cX5_begin 21 = .ok (.getfield 10, 3) := by decide +kernel
theorem dX5_begin_24 : decode cX5_begin 24 = .ok (.iload_n 1, 1) := by decide +kernel
theorem dX5_begin_25 : decode cX5_begin 25 = .ok (.invokevirtual 41, 3) := by decide +kernel
theorem dX5_begin_28 : decode cX5_begin 28 = .ok (.ireturn, 1) := by decide +kernel
set_option maxRecDepth 20000 in
theorem ggX5_give_X5_needPlayer : GoodIn wsX5_give wsX5_needPlayer := goodIn_ca (goodIn_r _ [7, 8, 9] (by decide +kernel) (by decide +kernel)) (goodIn_sub (fun _ h => List.mem_cons_of_mem _ (List.mem_append_right _ h)) (by decide +kernel))
set_option maxRecDepth 20000 in
theorem gX5_give_X5_needPlayer : GoodIn wsX5_give (va_wsS RX5 45 yX5_needPlayer wsX5_needPlayer) := goodIn_app (goodIn_of _ (by decide +kernel)) ggX5_give_X5_needPlayer
set_option maxRecDepth 20000 in
theorem ggX5_give_X5_needCard : GoodIn wsX5_give wsX5_needCard := goodIn_ca (goodIn_r _ [12, 8, 9] (by decide +kernel) (by decide +kernel)) (goodIn_sub (fun _ h => List.mem_cons_of_mem _ (List.mem_append_right _ h)) (by decide +kernel))
set_option maxRecDepth 20000 in
theorem gX5_give_X5_needCard : GoodIn wsX5_give (va_wsS RX5 49 yX5_needCard wsX5_needCard) := goodIn_app (goodIn_of _ (by decide +kernel)) ggX5_give_X5_needCard
set_option maxRecDepth 20000 in
theorem ggX5_give_X1_canDeal : GoodIn wsX5_give wsX1_canDeal := goodIn_r _ [17, 18, 19, 20, 21, 22, 23, 24, 25, 26, 16, 27, 28, 29, 30, 31, 32, 33, 34, 35, 47, 48, 49, 50, 51, 52, 53, 54] (by decide +kernel) (by decide +kernel)
set_option maxRecDepth 20000 in
theorem gX5_give_X1_canDeal : GoodIn wsX5_give (wsV RX5 52 RX1 yX1_canDeal wsX1_canDeal) := goodIn_app (goodIn_of _ (by decide +kernel)) ggX5_give_X1_canDeal
set_option maxRecDepth 20000 in
theorem ggX5_give_X1_deal : GoodIn wsX5_give wsX1_deal := goodIn_r _ [39, 19, 40, 41, 42, 16, 43, 28, 24, 25, 26, 27, 29, 30, 31, 32, 33, 34, 35, 47, 48, 49, 50, 51, 52, 53, 54] (by decide +kernel) (by decide +kernel)
set_option maxRecDepth 20000 in
theorem gX5_give_X1_deal : GoodIn wsX5_give (wsV RX5 61 RX1 yX1_deal wsX1_deal) := goodIn_app (goodIn_of _ (by decide +kernel)) ggX5_give_X1_deal
theorem dX5_give_0 : decode cX5_give 0 = .ok (.iload_n 1, 1) := by decide +kernel
theorem dX5_give_1 : decode cX5_give 1 = .ok (.invokestatic 45, 3) := by decide +kernel
theorem dX5_give_4 : decode cX5_give 4 = .ok (.iload_n 2, 1) := by decide +kernel
theorem dX5_give_5 : decode cX5_give 5 = .ok (.invokestatic 49, 3) := by decide +kernel
theorem dX5_give_8 : decode cX5_give 8 = .ok (.aload_n 0, 1) := by decide +kernel
theorem dX5_give_9 : decode cX5_give 9 = .ok (.getfield 10, 3) := by decide +kernel
theorem dX5_give_12 : decode cX5_give 12 = .ok (.iload_n 1, 1) := by decide +kernel
theorem dX5_give_13 : decode cX5_give 13 = .ok (.iload_n 2, 1) := by decide +kernel
theorem dX5_give_14 : decode cX5_give 14 = .ok (.invokevirtual 52, 3) := by decide +kernel
theorem dX5_give_17 : decode cX5_give 17 = .ok (.ifCond .ne 13, 3) := by decide +kernel
theorem dX5_give_20 : decode cX5_give 20 = .ok (.new 56, 3) := by decide +kernel
theorem dX5_give_23 : decode cX5_give 23 = .ok (.dup, 1) := by decide +kernel
theorem dX5_give_24 : decode cX5_give 24 = .ok (.ldc 58, 2) := by decide +kernel
theorem dX5_give_26 : decode cX5_give 26 = .ok (.invokespecial 60, 3) := by decide +kernel
theorem dX5_give_29 : decode cX5_give 29 = .ok (.athrow, 1) := by decide +kernel
theorem dX5_give_30 : decode cX5_give 30 = .ok (.aload_n 0, 1) := by decide +kernel
theorem dX5_give_31 : decode cX5_give 31 = .ok (.getfield 10, 3) := by decide +kernel
theorem dX5_give_34 : decode cX5_give 34 = .ok (.iload_n 1, 1) := by decide +kernel
theorem dX5_give_35 : decode cX5_give 35 = .ok (.iload_n 2, 1) := by decide +kernel
theorem dX5_give_36 : decode cX5_give 36 = .ok (.invokevirtual 61, 3) := by decide +kernel
theorem dX5_give_39 : decode cX5_give 39 = .ok (.ireturn, 1) := by decide +kernel
set_option maxRecDepth 20000 in
theorem ggX5_start_X5_needPlayer : GoodIn wsX5_start wsX5_needPlayer := goodIn_ca (goodIn_r _ [8, 9, 10] (by decide +kernel) (by decide +kernel)) (goodIn_sub (fun _ h => List.mem_cons_of_mem _ (List.mem_append_right _ h)) (by decide +kernel))
set_option maxRecDepth 20000 in
theorem gX5_start_X5_needPlayer : GoodIn wsX5_start (va_wsS RX5 45 yX5_needPlayer wsX5_needPlayer) := goodIn_app (goodIn_of _ (by decide +kernel)) ggX5_start_X5_needPlayer
set_option maxRecDepth 20000 in
theorem ggX5_start_X1_canOpen : GoodIn wsX5_start wsX1_canOpen := goodIn_r _ [15, 16, 17, 18, 19, 14, 20, 21, 22, 23, 24, 25, 26, 27, 28, 50, 51, 52, 53, 54, 55, 56, 57] (by decide +kernel) (by decide +kernel)
set_option maxRecDepth 20000 in
theorem gX5_start_X1_canOpen : GoodIn wsX5_start (wsV RX5 65 RX1 yX1_canOpen wsX1_canOpen) := goodIn_app (goodIn_of _ (by decide +kernel)) ggX5_start_X1_canOpen
set_option maxRecDepth 20000 in
theorem ggX5_start_X4_forget : GoodIn wsX5_start wsX4_forget := goodIn_r _ [33, 34, 35, 36, 37, 38, 39, 40, 58, 59, 60] (by decide +kernel) (by decide +kernel)
set_option maxRecDepth 20000 in
theorem gX5_start_X4_forget : GoodIn wsX5_start (wsV RX5 71 RX4 yX4_forget wsX4_forget) := goodIn_app (goodIn_of _ (by decide +kernel)) ggX5_start_X4_forget
set_option maxRecDepth 20000 in
theorem ggX5_start_X1_open : GoodIn wsX5_start wsX1_open := goodIn_r _ [44, 16, 45, 46, 17, 18, 19, 14, 20, 21, 22, 23, 24, 25, 26, 27, 28, 50, 51, 52, 53, 54, 55, 56, 57] (by decide +kernel) (by decide +kernel)
set_option maxRecDepth 20000 in
theorem gX5_start_X1_open : GoodIn wsX5_start (wsV RX5 74 RX1 yX1_open wsX1_open) := goodIn_app (goodIn_of _ (by decide +kernel)) ggX5_start_X1_open
theorem dX5_start_0 : decode cX5_start 0 = .ok (.iload_n 1, 1) := by decide +kernel
theorem dX5_start_1 : decode cX5_start 1 = .ok (.invokestatic 45, 3) := by decide +kernel
theorem dX5_start_4 : decode cX5_start 4 = .ok (.aload_n 0, 1) := by decide +kernel
theorem dX5_start_5 : decode cX5_start 5 = .ok (.getfield 10, 3) := by decide +kernel
theorem dX5_start_8 : decode cX5_start 8 = .ok (.invokevirtual 65, 3) := by decide +kernel
theorem dX5_start_11 : decode cX5_start 11 = .ok (.ifCond .ne 13, 3) := by decide +kernel
theorem dX5_start_14 : decode cX5_start 14 = .ok (.new 56, 3) := by decide +kernel
theorem dX5_start_17 : decode cX5_start 17 = .ok (.dup, 1) := by decide +kernel
theorem dX5_start_18 : decode cX5_start 18 = .ok (.ldc 69, 2) := by decide +kernel
theorem dX5_start_20 : decode cX5_start 20 = .ok (.invokespecial 60, 3) := by decide +kernel
theorem dX5_start_23 : decode cX5_start 23 = .ok (.athrow, 1) := by decide +kernel
theorem dX5_start_24 : decode cX5_start 24 = .ok (.aload_n 0, 1) := by decide +kernel
theorem dX5_start_25 : decode cX5_start 25 = .ok (.getfield 21, 3) := by decide +kernel
theorem dX5_start_28 : decode cX5_start 28 = .ok (.invokevirtual 71, 3) := by decide +kernel
theorem dX5_start_31 : decode cX5_start 31 = .ok (.aload_n 0, 1) := by decide +kernel
theorem dX5_start_32 : decode cX5_start 32 = .ok (.getfield 10, 3) := by decide +kernel
theorem dX5_start_35 : decode cX5_start 35 = .ok (.iload_n 1, 1) := by decide +kernel
theorem dX5_start_36 : decode cX5_start 36 = .ok (.invokevirtual 74, 3) := by decide +kernel
theorem dX5_start_39 : decode cX5_start 39 = .ok (.ireturn, 1) := by decide +kernel
set_option maxRecDepth 20000 in
theorem ggX5_isStarted_X1_isOpen : GoodIn wsX5_isStarted wsX1_isOpen := goodIn_r _ [6, 7, 11, 12, 13, 14, 15, 16, 17, 18] (by decide +kernel) (by decide +kernel)
set_option maxRecDepth 20000 in
theorem gX5_isStarted_X1_isOpen : GoodIn wsX5_isStarted (wsV RX5 77 RX1 yX1_isOpen wsX1_isOpen) := goodIn_app (goodIn_of _ (by decide +kernel)) ggX5_isStarted_X1_isOpen
theorem dX5_isStarted_0 : decode cX5_isStarted 0 = .ok (.aload_n 0, 1) := by decide +kernel
theorem dX5_isStarted_1 : decode cX5_isStarted 1 = .ok (.getfield 10, 3) := by decide +kernel
theorem dX5_isStarted_4 : decode cX5_isStarted 4 = .ok (.invokevirtual 77, 3) := by decide +kernel
theorem dX5_isStarted_7 : decode cX5_isStarted 7 = .ok (.ireturn, 1) := by decide +kernel
set_option maxRecDepth 20000 in
theorem ggX5_play_X5_needCard : GoodIn wsX5_play wsX5_needCard := goodIn_ca (goodIn_r _ [5, 6, 7] (by decide +kernel) (by decide +kernel)) (goodIn_sub (fun _ h => List.mem_cons_of_mem _ (List.mem_append_left _ (List.mem_append_right _ h))) (by decide +kernel))
set_option maxRecDepth 20000 in
theorem gX5_play_X5_needCard : GoodIn wsX5_play (va_wsS RX5 49 yX5_needCard wsX5_needCard) := goodIn_app (goodIn_of _ (by decide +kernel)) ggX5_play_X5_needCard
set_option maxRecDepth 20000 in
theorem ggX5_play_X5_needPlayable : GoodIn wsX5_play wsX5_needPlayable := goodIn_ca (goodIn_r _ [11, 12, 13, 1, 14, 15, 16, 17, 18, 19, 20, 21, 22, 23, 24, 25, 26, 27, 28, 29, 30, 31, 32, 33, 34, 35, 36, 37, 38, 39, 40, 41, 42, 43, 44, 45, 46, 47, 48, 49, 50, 51, 52, 53, 54, 55, 56, 57, 58, 59, 60, 61, 62, 63, 64, 65, 66, 84, 85, 86, 87, 88, 89, 90, 91, 92, 93, 94] (by decide +kernel) (by decide +kernel)) (goodIn_sub (fun _ h => List.mem_cons_of_mem _ (List.mem_append_right _ h)) (by decide +kernel))
set_option maxRecDepth 20000 in
theorem gX5_play_X5_needPlayable : GoodIn wsX5_play (wsV RX5 80 RX5 yX5_needPlayable wsX5_needPlayable) := goodIn_app (goodIn_of _ (by decide +kernel)) ggX5_play_X5_needPlayable
set_option maxRecDepth 20000 in
theorem ggX5_play_X1_lay : GoodIn wsX5_play wsX1_lay := goodIn_r _ [70, 29, 56, 19, 20, 21, 17, 22, 23, 24, 25, 26, 27, 28, 30, 31, 32, 33, 34, 35, 36, 37, 38, 39, 40, 41, 42, 71, 72, 73, 74, 47, 75, 76, 77, 78, 52, 53, 54, 55, 79, 80, 81, 82, 83, 87, 88, 89, 90, 91, 92, 93, 94] (by decide +kernel) (by decide +kernel)
set_option maxRecDepth 20000 in
theorem gX5_play_X1_lay : GoodIn wsX5_play (wsV RX5 83 RX1 yX1_lay wsX1_lay) := goodIn_app (goodIn_of _ (by decide +kernel)) ggX5_play_X1_lay
theorem dX5_play_0 : decode cX5_play 0 = .ok (.iload_n 1, 1) := by decide +kernel
theorem dX5_play_1 : decode cX5_play 1 = .ok (.invokestatic 49, 3) := by decide +kernel
theorem dX5_play_4 : decode cX5_play 4 = .ok (.aload_n 0, 1) := by decide +kernel
theorem dX5_play_5 : decode cX5_play 5 = .ok (.iload_n 1, 1) := by decide +kernel
theorem dX5_play_6 : decode cX5_play 6 = .ok (.invokevirtual 80, 3) := by decide +kernel
theorem dX5_play_9 : decode cX5_play 9 = .ok (.aload_n 0, 1) := by decide +kernel
theorem dX5_play_10 : decode cX5_play 10 = .ok (.getfield 10, 3) := by decide +kernel
theorem dX5_play_13 : decode cX5_play 13 = .ok (.iload_n 1, 1) := by decide +kernel
theorem dX5_play_14 : decode cX5_play 14 = .ok (.invokevirtual 83, 3) := by decide +kernel
theorem dX5_play_17 : decode cX5_play 17 = .ok (.ireturn, 1) := by decide +kernel
set_option maxRecDepth 20000 in
theorem ggX5_takeBack_X1_laidCount : GoodIn wsX5_takeBack wsX1_laidCount := goodIn_r _ [8, 9, 50, 51, 52, 53, 54, 55, 56, 57] (by decide +kernel) (by decide +kernel)
set_option maxRecDepth 20000 in
theorem gX5_takeBack_X1_laidCount : GoodIn wsX5_takeBack (wsV RX5 86 RX1 yX1_laidCount wsX1_laidCount) := goodIn_app (goodIn_of _ (by decide +kernel)) ggX5_takeBack_X1_laidCount
set_option maxRecDepth 20000 in
theorem ggX5_takeBack_X1_lift : GoodIn wsX5_takeBack wsX1_lift := goodIn_r _ [13, 9, 14, 15, 16, 7, 17, 18, 19, 20, 21, 22, 23, 24, 25, 26, 27, 28, 29, 30, 31, 32, 33, 34, 35, 36, 37, 38, 39, 40, 41, 42, 43, 44, 45, 46, 50, 51, 52, 53, 54, 55, 56, 57] (by decide +kernel) (by decide +kernel)
set_option maxRecDepth 20000 in
theorem gX5_takeBack_X1_lift : GoodIn wsX5_takeBack (wsV RX5 92 RX1 yX1_lift wsX1_lift) := goodIn_app (goodIn_of _ (by decide +kernel)) ggX5_takeBack_X1_lift
theorem dX5_takeBack_0 : decode cX5_takeBack 0 = .ok (.aload_n 0, 1) := by decide +kernel
theorem dX5_takeBack_1 : decode cX5_takeBack 1 = .ok (.getfield 10, 3) := by decide +kernel
theorem dX5_takeBack_4 : decode cX5_takeBack 4 = .ok (.invokevirtual 86, 3) := by decide +kernel
theorem dX5_takeBack_7 : decode cX5_takeBack 7 = .ok (.ifCond .ne 13, 3) := by decide +kernel
theorem dX5_takeBack_10 : decode cX5_takeBack 10 = .ok (.new 56, 3) := by decide +kernel
theorem dX5_takeBack_13 : decode cX5_takeBack 13 = .ok (.dup, 1) := by decide +kernel
theorem dX5_takeBack_14 : decode cX5_takeBack 14 = .ok (.ldc 90, 2) := by decide +kernel
theorem dX5_takeBack_16 : decode cX5_takeBack 16 = .ok (.invokespecial 60, 3) := by decide +kernel
theorem dX5_takeBack_19 : decode cX5_takeBack 19 = .ok (.athrow, 1) := by decide +kernel
theorem dX5_takeBack_20 : decode cX5_takeBack 20 = .ok (.aload_n 0, 1) := by decide +kernel
theorem dX5_takeBack_21 : decode cX5_takeBack 21 = .ok (.getfield 10, 3) := by decide +kernel
theorem dX5_takeBack_24 : decode cX5_takeBack 24 = .ok (.invokevirtual 92, 3) := by decide +kernel
theorem dX5_takeBack_27 : decode cX5_takeBack 27 = .ok (.ireturn, 1) := by decide +kernel
set_option maxRecDepth 20000 in
theorem ggX5_canPlay_X5_needCard : GoodIn wsX5_canPlay wsX5_needCard := goodIn_ca (goodIn_r _ [5, 6, 7] (by decide +kernel) (by decide +kernel)) (goodIn_sub (fun _ h => List.mem_cons_of_mem _ (List.mem_append_right _ h)) (by decide +kernel))
set_option maxRecDepth 20000 in
theorem gX5_canPlay_X5_needCard : GoodIn wsX5_canPlay (va_wsS RX5 49 yX5_needCard wsX5_needCard) := goodIn_app (goodIn_of _ (by decide +kernel)) ggX5_canPlay_X5_needCard
set_option maxRecDepth 20000 in
theorem ggX5_canPlay_X1_playable : GoodIn wsX5_canPlay wsX1_playable := goodIn_r _ [12, 13, 14, 15, 11, 16, 17, 18, 19, 20, 21, 22, 23, 24, 25, 26, 27, 28, 29, 30, 31, 32, 33, 34, 35, 36, 37, 38, 39, 40, 41, 42, 43, 44, 45, 46, 47, 48, 49, 50, 51, 52, 53, 54, 55, 56, 57, 64, 65, 66, 67, 68, 69, 70, 71] (by decide +kernel) (by decide +kernel)
set_option maxRecDepth 20000 in
theorem gX5_canPlay_X1_playable : GoodIn wsX5_canPlay (wsV RX5 95 RX1 yX1_playable wsX1_playable) := goodIn_app (goodIn_of _ (by decide +kernel)) ggX5_canPlay_X1_playable
set_option maxRecDepth 20000 in
theorem ggX5_canPlay_X0_holds : GoodIn wsX5_canPlay wsX0_holds := goodIn_r _ [60] (by decide +kernel) (by decide +kernel)
set_option maxRecDepth 20000 in
theorem gX5_canPlay_X0_holds : GoodIn wsX5_canPlay (va_wsS RX5 98 yX0_holds wsX0_holds) := goodIn_app (goodIn_of _ (by decide +kernel)) ggX5_canPlay_X0_holds
theorem dX5_canPlay_0 : decode cX5_canPlay 0 = .ok (.iload_n 1, 1) := by decide +kernel
theorem dX5_canPlay_1 : decode cX5_canPlay 1 = .ok (.invokestatic 49, 3) := by decide +kernel
theorem dX5_canPlay_4 : decode cX5_canPlay 4 = .ok (.aload_n 0, 1) := by decide +kernel
theorem dX5_canPlay_5 : decode cX5_canPlay 5 = .ok (.getfield 10, 3) := by decide +kernel
theorem dX5_canPlay_8 : decode cX5_canPlay 8 = .ok (.invokevirtual 95, 3) := by decide +kernel
theorem dX5_canPlay_11 : decode cX5_canPlay 11 = .ok (.iload_n 1, 1) := by decide +kernel
theorem dX5_canPlay_12 : decode cX5_canPlay 12 = .ok (.invokestatic 98, 3) := by decide +kernel
theorem dX5_canPlay_15 : decode cX5_canPlay 15 = .ok (.ireturn, 1) := by decide +kernel
set_option maxRecDepth 20000 in
theorem ggX5_turn_X1_mover : GoodIn wsX5_turn wsX1_mover := goodIn_r _ [6, 7, 8, 9, 10, 5, 11, 12, 13, 14, 15, 16, 17, 18, 19, 20, 21, 22, 23, 24, 25, 26, 30, 31, 32, 33, 34, 35, 36, 37] (by decide +kernel) (by decide +kernel)
set_option maxRecDepth 20000 in
theorem gX5_turn_X1_mover : GoodIn wsX5_turn (wsV RX5 101 RX1 yX1_mover wsX1_mover) := goodIn_app (goodIn_of _ (by decide +kernel)) ggX5_turn_X1_mover
theorem dX5_turn_0 : decode cX5_turn 0 = .ok (.aload_n 0, 1) := by decide +kernel
theorem dX5_turn_1 : decode cX5_turn 1 = .ok (.getfield 10, 3) := by decide +kernel
theorem dX5_turn_4 : decode cX5_turn 4 = .ok (.invokevirtual 101, 3) := by decide +kernel
theorem dX5_turn_7 : decode cX5_turn 7 = .ok (.ireturn, 1) := by decide +kernel
set_option maxRecDepth 20000 in
theorem ggX5_hand_X5_needPlayer : GoodIn wsX5_hand wsX5_needPlayer := goodIn_ca (goodIn_r _ [5, 6, 7] (by decide +kernel) (by decide +kernel)) (goodIn_sub (fun _ h => List.mem_cons_of_mem _ (List.mem_append_right _ h)) (by decide +kernel))
set_option maxRecDepth 20000 in
theorem gX5_hand_X5_needPlayer : GoodIn wsX5_hand (va_wsS RX5 45 yX5_needPlayer wsX5_needPlayer) := goodIn_app (goodIn_of _ (by decide +kernel)) ggX5_hand_X5_needPlayer
set_option maxRecDepth 20000 in
theorem ggX5_hand_X1_handOf : GoodIn wsX5_hand wsX1_handOf := goodIn_r _ [12, 13, 17, 18, 19, 20, 21, 22, 23, 24] (by decide +kernel) (by decide +kernel)
set_option maxRecDepth 20000 in
theorem gX5_hand_X1_handOf : GoodIn wsX5_hand (wsV RX5 104 RX1 yX1_handOf wsX1_handOf) := goodIn_app (goodIn_of _ (by decide +kernel)) ggX5_hand_X1_handOf
theorem dX5_hand_0 : decode cX5_hand 0 = .ok (.iload_n 1, 1) := by decide +kernel
theorem dX5_hand_1 : decode cX5_hand 1 = .ok (.invokestatic 45, 3) := by decide +kernel
theorem dX5_hand_4 : decode cX5_hand 4 = .ok (.aload_n 0, 1) := by decide +kernel
theorem dX5_hand_5 : decode cX5_hand 5 = .ok (.getfield 10, 3) := by decide +kernel
theorem dX5_hand_8 : decode cX5_hand 8 = .ok (.iload_n 1, 1) := by decide +kernel
theorem dX5_hand_9 : decode cX5_hand 9 = .ok (.invokevirtual 104, 3) := by decide +kernel
theorem dX5_hand_12 : decode cX5_hand 12 = .ok (.ireturn, 1) := by decide +kernel
set_option maxRecDepth 20000 in
theorem ggX5_inTrick_X1_trickSize : GoodIn wsX5_inTrick wsX1_trickSize := goodIn_r _ [6, 7, 11, 12, 13, 14, 15, 16, 17, 18] (by decide +kernel) (by decide +kernel)
set_option maxRecDepth 20000 in
theorem gX5_inTrick_X1_trickSize : GoodIn wsX5_inTrick (wsV RX5 107 RX1 yX1_trickSize wsX1_trickSize) := goodIn_app (goodIn_of _ (by decide +kernel)) ggX5_inTrick_X1_trickSize
theorem dX5_inTrick_0 : decode cX5_inTrick 0 = .ok (.aload_n 0, 1) := by decide +kernel
theorem dX5_inTrick_1 : decode cX5_inTrick 1 = .ok (.getfield 10, 3) := by decide +kernel
theorem dX5_inTrick_4 : decode cX5_inTrick 4 = .ok (.invokevirtual 107, 3) := by decide +kernel
theorem dX5_inTrick_7 : decode cX5_inTrick 7 = .ok (.ireturn, 1) := by decide +kernel
set_option maxRecDepth 20000 in
theorem ggX5_cardIn_X1_trickSize : GoodIn wsX5_cardIn wsX1_trickSize := goodIn_r _ [8, 9, 23, 24, 25, 26, 27, 28, 29, 30] (by decide +kernel) (by decide +kernel)
set_option maxRecDepth 20000 in
theorem gX5_cardIn_X1_trickSize : GoodIn wsX5_cardIn (wsV RX5 107 RX1 yX1_trickSize wsX1_trickSize) := goodIn_app (goodIn_of _ (by decide +kernel)) ggX5_cardIn_X1_trickSize
set_option maxRecDepth 20000 in
theorem ggX5_cardIn_X1_trickCard : GoodIn wsX5_cardIn wsX1_trickCard := goodIn_r _ [13, 9, 14, 5, 6, 7, 8, 15, 16, 17, 18, 19, 23, 24, 25, 26, 27, 28, 29, 30] (by decide +kernel) (by decide +kernel)
set_option maxRecDepth 20000 in
theorem gX5_cardIn_X1_trickCard : GoodIn wsX5_cardIn (wsV RX5 115 RX1 yX1_trickCard wsX1_trickCard) := goodIn_app (goodIn_of _ (by decide +kernel)) ggX5_cardIn_X1_trickCard
theorem dX5_cardIn_0 : decode cX5_cardIn 0 = .ok (.iload_n 1, 1) := by decide +kernel
theorem dX5_cardIn_1 : decode cX5_cardIn 1 = .ok (.ifCond .lt 14, 3) := by decide +kernel
theorem dX5_cardIn_4 : decode cX5_cardIn 4 = .ok (.iload_n 1, 1) := by decide +kernel
theorem dX5_cardIn_5 : decode cX5_cardIn 5 = .ok (.aload_n 0, 1) := by decide +kernel
theorem dX5_cardIn_6 : decode cX5_cardIn 6 = .ok (.getfield 10, 3) := by decide +kernel
theorem dX5_cardIn_9 : decode cX5_cardIn 9 = .ok (.invokevirtual 107, 3) := by decide +kernel
theorem dX5_cardIn_12 : decode cX5_cardIn 12 = .ok (.if_icmp .lt 13, 3) := by decide +kernel
theorem dX5_cardIn_15 : decode cX5_cardIn 15 = .ok (.new 110, 3) := by decide +kernel
theorem dX5_cardIn_18 : decode cX5_cardIn 18 = .ok (.dup, 1) := by decide +kernel
theorem dX5_cardIn_19 : decode cX5_cardIn 19 = .ok (.ldc 112, 2) := by decide +kernel
theorem dX5_cardIn_21 : decode cX5_cardIn 21 = .ok (.invokespecial 114, 3) := by decide +kernel
theorem dX5_cardIn_24 : decode cX5_cardIn 24 = .ok (.athrow, 1) := by decide +kernel
theorem dX5_cardIn_25 : decode cX5_cardIn 25 = .ok (.aload_n 0, 1) := by decide +kernel
theorem dX5_cardIn_26 : decode cX5_cardIn 26 = .ok (.getfield 10, 3) := by decide +kernel
theorem dX5_cardIn_29 : decode cX5_cardIn 29 = .ok (.iload_n 1, 1) := by decide +kernel
theorem dX5_cardIn_30 : decode cX5_cardIn 30 = .ok (.invokevirtual 115, 3) := by decide +kernel
theorem dX5_cardIn_33 : decode cX5_cardIn 33 = .ok (.ireturn, 1) := by decide +kernel
set_option maxRecDepth 20000 in
theorem ggX5_won_X1_tricksOf : GoodIn wsX5_won wsX1_tricksOf := goodIn_r _ [8, 9, 10, 11, 7, 12, 13, 14, 15, 16, 17, 18, 19, 20, 21, 22, 26, 27, 28, 29, 30, 31, 32, 33] (by decide +kernel) (by decide +kernel)
set_option maxRecDepth 20000 in
theorem gX5_won_X1_tricksOf : GoodIn wsX5_won (wsV RX5 120 RX1 yX1_tricksOf wsX1_tricksOf) := goodIn_app (goodIn_of _ (by decide +kernel)) ggX5_won_X1_tricksOf
theorem dX5_won_0 : decode cX5_won 0 = .ok (.iload_n 1, 1) := by decide +kernel
theorem dX5_won_1 : decode cX5_won 1 = .ok (.ifCond .lt 8, 3) := by decide +kernel
theorem dX5_won_4 : decode cX5_won 4 = .ok (.iload_n 1, 1) := by decide +kernel
theorem dX5_won_5 : decode cX5_won 5 = .ok (.iconst 2, 1) := by decide +kernel
theorem dX5_won_6 : decode cX5_won 6 = .ok (.if_icmp .lt 13, 3) := by decide +kernel
theorem dX5_won_9 : decode cX5_won 9 = .ok (.new 34, 3) := by decide +kernel
theorem dX5_won_12 : decode cX5_won 12 = .ok (.dup, 1) := by decide +kernel
theorem dX5_won_13 : decode cX5_won 13 = .ok (.ldc 118, 2) := by decide +kernel
theorem dX5_won_15 : decode cX5_won 15 = .ok (.invokespecial 38, 3) := by decide +kernel
theorem dX5_won_18 : decode cX5_won 18 = .ok (.athrow, 1) := by decide +kernel
theorem dX5_won_19 : decode cX5_won 19 = .ok (.aload_n 0, 1) := by decide +kernel
theorem dX5_won_20 : decode cX5_won 20 = .ok (.getfield 10, 3) := by decide +kernel
theorem dX5_won_23 : decode cX5_won 23 = .ok (.iload_n 1, 1) := by decide +kernel
theorem dX5_won_24 : decode cX5_won 24 = .ok (.invokevirtual 120, 3) := by decide +kernel
theorem dX5_won_27 : decode cX5_won 27 = .ok (.ireturn, 1) := by decide +kernel
set_option maxRecDepth 20000 in
theorem ggX5_solve_X5_needStarted : GoodIn wsX5_solve wsX5_needStarted := goodIn_ca (goodIn_r _ [6, 7, 8, 9, 10, 11, 12, 13, 14, 15, 187, 188, 189, 190, 191, 192, 193, 194, 195, 196, 197] (by decide +kernel) (by decide +kernel)) (goodIn_sub (fun _ h => List.mem_cons_of_mem _ (List.mem_append_right _ h)) (by decide +kernel))
set_option maxRecDepth 20000 in
theorem gX5_solve_X5_needStarted : GoodIn wsX5_solve (wsV RX5 123 RX5 yX5_needStarted wsX5_needStarted) := goodIn_app (goodIn_of _ (by decide +kernel)) ggX5_solve_X5_needStarted
set_option maxRecDepth 20000 in
theorem ggX5_solve_X4_mostOfSide0 : GoodIn wsX5_solve wsX4_mostOfSide0 := goodIn_r _ [20, 21, 22, 23, 24, 13, 25, 26, 27, 28, 29, 30, 31, 32, 33, 34, 35, 36, 37, 38, 19, 39, 40, 41, 42, 43, 44, 45, 46, 47, 48, 49, 50, 51, 52, 53, 54, 55, 56, 57, 58, 59, 60, 61, 62, 63, 64, 65, 66, 67, 68, 69, 70, 71, 72, 73, 74, 75, 76, 77, 78, 79, 80, 81, 82, 83, 84, 85, 86, 87, 88, 89, 90, 91, 92, 93, 94, 95, 15, 96, 97, 98, 99, 100, 101, 102, 103, 104, 105, 106, 107, 108, 109, 110, 111, 112, 113, 114, 115, 116, 117, 118, 119, 120, 121, 122, 123, 124, 125, 126, 127, 128, 129, 130, 131, 132, 133, 134, 135, 136, 137, 138, 139, 140, 141, 142, 143, 144, 145, 146, 147, 148, 149, 150, 151, 152, 153, 154, 155, 156, 157, 158, 159, 160, 161, 162, 163, 164, 165, 166, 167, 168, 169, 170, 171, 172, 173, 174, 175, 176, 177, 178, 179, 180, 181, 182, 183, 184, 185, 186, 198, 199, 190, 191, 192, 193, 194, 195, 196, 197, 200] (by decide +kernel) (by decide +kernel)
set_option maxRecDepth 20000 in
theorem gX5_solve_X4_mostOfSide0 : GoodIn wsX5_solve (wsV RX5 126 RX4 yX4_mostOfSide0 wsX4_mostOfSide0) := goodIn_app (goodIn_of _ (by decide +kernel)) ggX5_solve_X4_mostOfSide0
theorem dX5_solve_0 : decode cX5_solve 0 = .ok (.aload_n 0, 1) := by decide +kernel
theorem dX5_solve_1 : decode cX5_solve 1 = .ok (.invokevirtual 123, 3) := by decide +kernel
theorem dX5_solve_4 : decode cX5_solve 4 = .ok (.aload_n 0, 1) := by decide +kernel
theorem dX5_solve_5 : decode cX5_solve 5 = .ok (.getfield 21, 3) := by decide +kernel
theorem dX5_solve_8 : decode cX5_solve 8 = .ok (.invokevirtual 126, 3) := by decide +kernel
theorem dX5_solve_11 : decode cX5_solve 11 = .ok (.ireturn, 1) := by decide +kernel
set_option maxRecDepth 20000 in
theorem ggX5_solveByAll_X5_needStarted : GoodIn wsX5_solveByAll wsX5_needStarted := goodIn_ca (goodIn_r _ [8, 1, 2, 3, 9, 10, 11, 12, 13, 14, 115, 116, 117, 118, 119, 120, 121, 122, 123, 124, 125] (by decide +kernel) (by decide +kernel)) (goodIn_sub (fun _ h => List.mem_cons_of_mem _ (List.mem_append_right _ h)) (by decide +kernel))
set_option maxRecDepth 20000 in
theorem gX5_solveByAll_X5_needStarted : GoodIn wsX5_solveByAll (wsV RX5 123 RX5 yX5_needStarted wsX5_needStarted) := goodIn_app (goodIn_of _ (by decide +kernel)) ggX5_solveByAll_X5_needStarted
set_option maxRecDepth 20000 in
theorem ggX5_solveByAll_X1_cardsLeft : GoodIn wsX5_solveByAll wsX1_cardsLeft := goodIn_r _ [18, 19, 20, 118, 119, 120, 121, 122, 123, 124, 125] (by decide +kernel) (by decide +kernel)
set_option maxRecDepth 20000 in
theorem gX5_solveByAll_X1_cardsLeft : GoodIn wsX5_solveByAll (wsV RX5 129 RX1 yX1_cardsLeft wsX1_cardsLeft) := goodIn_app (goodIn_of _ (by decide +kernel)) ggX5_solveByAll_X1_cardsLeft
set_option maxRecDepth 20000 in
theorem ggX5_solveByAll_X4_byAllPlays : GoodIn wsX5_solveByAll wsX4_byAllPlays := goodIn_r _ [23, 24, 25, 26, 27, 28, 29, 30, 31, 32, 33, 12, 34, 14, 35, 16, 17, 18, 19, 20, 36, 37, 38, 39, 40, 41, 42, 43, 44, 45, 46, 47, 48, 49, 50, 51, 52, 53, 54, 55, 56, 57, 58, 59, 60, 61, 62, 63, 64, 65, 66, 67, 68, 69, 70, 71, 72, 73, 74, 75, 76, 77, 78, 79, 80, 81, 82, 83, 84, 85, 86, 87, 88, 89, 90, 91, 92, 93, 94, 95, 96, 97, 98, 99, 100, 101, 102, 103, 104, 22, 105, 106, 21, 107, 108, 109, 110, 111, 112, 113, 114, 118, 119, 120, 121, 122, 123, 124, 125] (by decide +kernel) (by decide +kernel)
set_option maxRecDepth 20000 in
theorem gX5_solveByAll_X4_byAllPlays_n134 : GoodIn wsX5_solveByAll (wsX4_byAllPlays) := ggX5_solveByAll_X4_byAllPlays
theorem dX5_solveByAll_0 : decode cX5_solveByAll 0 = .ok (.aload_n 0, 1) := by decide +kernel
theorem dX5_solveByAll_1 : decode cX5_solveByAll 1 = .ok (.invokevirtual 123, 3) := by decide +kernel
theorem dX5_solveByAll_4 : decode cX5_solveByAll 4 = .ok (.aload_n 0, 1) := by decide +kernel
theorem dX5_solveByAll_5 : decode cX5_solveByAll 5 = .ok (.getfield 10, 3) := by decide +kernel
theorem dX5_solveByAll_8 : decode cX5_solveByAll 8 = .ok (.invokevirtual 129, 3) := by decide +kernel
theorem dX5_solveByAll_11 : decode cX5_solveByAll 11 = .ok (.bipush 12, 2) := by decide +kernel
theorem dX5_solveByAll_13 : decode cX5_solveByAll 13 = .ok (.if_icmp .le 13, 3) := by decide +kernel
theorem dX5_solveByAll_16 : decode cX5_solveByAll 16 = .ok (.new 56, 3) := by decide +kernel
theorem dX5_solveByAll_19 : decode cX5_solveByAll 19 = .ok (.dup, 1) := by decide +kernel
theorem dX5_solveByAll_20 : decode cX5_solveByAll 20 = .ok (.ldc 132, 2) := by decide +kernel
theorem dX5_solveByAll_22 : decode cX5_solveByAll 22 = .ok (.invokespecial 60, 3) := by decide +kernel
theorem dX5_solveByAll_25 : decode cX5_solveByAll 25 = .ok (.athrow, 1) := by decide +kernel
theorem dX5_solveByAll_26 : decode cX5_solveByAll 26 = .ok (.aload_n 0, 1) := by decide +kernel
theorem dX5_solveByAll_27 : decode cX5_solveByAll 27 = .ok (.getfield 10, 3) := by decide +kernel
theorem dX5_solveByAll_30 : decode cX5_solveByAll 30 = .ok (.aload_n 0, 1) := by decide +kernel
theorem dX5_solveByAll_31 : decode cX5_solveByAll 31 = .ok (.getfield 10, 3) := by decide +kernel
theorem dX5_solveByAll_34 : decode cX5_solveByAll 34 = .ok (.invokevirtual 129, 3) := by decide +kernel
theorem dX5_solveByAll_37 : decode cX5_solveByAll 37 = .ok (.invokestatic 134, 3) := by decide +kernel
theorem dX5_solveByAll_40 : decode cX5_solveByAll 40 = .ok (.ireturn, 1) := by decide +kernel
set_option maxRecDepth 20000 in
theorem ggX5_value_X5_needCard : GoodIn wsX5_value wsX5_needCard := goodIn_ca (goodIn_r _ [5, 6, 7] (by decide +kernel) (by decide +kernel)) (goodIn_sub (fun _ h => List.mem_cons_of_mem _ (List.mem_append_left _ (List.mem_append_right _ h))) (by decide +kernel))
set_option maxRecDepth 20000 in
theorem gX5_value_X5_needCard : GoodIn wsX5_value (va_wsS RX5 49 yX5_needCard wsX5_needCard) := goodIn_app (goodIn_of _ (by decide +kernel)) ggX5_value_X5_needCard
set_option maxRecDepth 20000 in
theorem ggX5_value_X5_needPlayable : GoodIn wsX5_value wsX5_needPlayable := goodIn_ca (goodIn_r _ [11, 12, 13, 14, 15, 16, 17, 18, 19, 20, 21, 22, 23, 24, 25, 26, 27, 28, 29, 30, 31, 32, 33, 34, 35, 36, 37, 38, 39, 40, 41, 42, 43, 44, 45, 46, 47, 48, 49, 50, 51, 52, 53, 54, 55, 56, 57, 58, 59, 60, 61, 62, 63, 64, 65, 66, 67, 190, 191, 192, 193, 194, 195, 196, 197, 198, 199, 200] (by decide +kernel) (by decide +kernel)) (goodIn_sub (fun _ h => List.mem_cons_of_mem _ (List.mem_append_right _ h)) (by decide +kernel))
set_option maxRecDepth 20000 in
theorem gX5_value_X5_needPlayable : GoodIn wsX5_value (wsV RX5 80 RX5 yX5_needPlayable wsX5_needPlayable) := goodIn_app (goodIn_of _ (by decide +kernel)) ggX5_value_X5_needPlayable
set_option maxRecDepth 20000 in
theorem ggX5_value_X4_worthOf : GoodIn wsX5_value wsX4_worthOf := goodIn_r _ [72, 73, 74, 75, 76, 18, 77, 29, 31, 32, 33, 34, 30, 78, 21, 22, 23, 24, 25, 26, 27, 28, 35, 36, 37, 38, 39, 40, 41, 42, 43, 79, 80, 60, 81, 82, 83, 84, 85, 57, 20, 86, 87, 88, 89, 48, 90, 91, 92, 93, 53, 54, 55, 56, 94, 95, 96, 97, 98, 99, 100, 71, 101, 102, 103, 104, 105, 106, 107, 108, 109, 110, 111, 112, 113, 114, 115, 116, 117, 118, 119, 120, 121, 122, 123, 124, 125, 126, 127, 128, 129, 130, 131, 132, 133, 134, 135, 136, 137, 138, 139, 140, 141, 142, 143, 144, 145, 146, 147, 148, 149, 150, 16, 17, 19, 44, 45, 46, 47, 49, 50, 51, 52, 58, 59, 61, 62, 63, 64, 151, 152, 153, 154, 155, 156, 157, 158, 159, 160, 161, 162, 163, 164, 165, 166, 167, 168, 169, 170, 171, 172, 173, 174, 175, 66, 67, 176, 177, 178, 179, 180, 181, 182, 183, 184, 185, 186, 187, 188, 189, 201, 202, 193, 194, 195, 196, 197, 198, 199, 200, 203] (by decide +kernel) (by decide +kernel)
set_option maxRecDepth 20000 in
theorem gX5_value_X4_worthOf : GoodIn wsX5_value (wsV RX5 138 RX4 yX4_worthOf wsX4_worthOf) := goodIn_app (goodIn_of _ (by decide +kernel)) ggX5_value_X4_worthOf
theorem dX5_value_0 : decode cX5_value 0 = .ok (.iload_n 1, 1) := by decide +kernel
theorem dX5_value_1 : decode cX5_value 1 = .ok (.invokestatic 49, 3) := by decide +kernel
theorem dX5_value_4 : decode cX5_value 4 = .ok (.aload_n 0, 1) := by decide +kernel
theorem dX5_value_5 : decode cX5_value 5 = .ok (.iload_n 1, 1) := by decide +kernel
theorem dX5_value_6 : decode cX5_value 6 = .ok (.invokevirtual 80, 3) := by decide +kernel
theorem dX5_value_9 : decode cX5_value 9 = .ok (.aload_n 0, 1) := by decide +kernel
theorem dX5_value_10 : decode cX5_value 10 = .ok (.getfield 21, 3) := by decide +kernel
theorem dX5_value_13 : decode cX5_value 13 = .ok (.iload_n 1, 1) := by decide +kernel
theorem dX5_value_14 : decode cX5_value 14 = .ok (.invokevirtual 138, 3) := by decide +kernel
theorem dX5_value_17 : decode cX5_value 17 = .ok (.ireturn, 1) := by decide +kernel
set_option maxRecDepth 20000 in
theorem ggX5_bestCard_X1_mover : GoodIn wsX5_bestCard wsX1_mover := goodIn_r _ [9, 10, 11, 12, 13, 8, 14, 15, 16, 17, 18, 19, 20, 21, 22, 23, 24, 25, 26, 27, 28, 29, 187, 188, 189, 190, 191, 192, 193, 194] (by decide +kernel) (by decide +kernel)
set_option maxRecDepth 20000 in
theorem gX5_bestCard_X1_mover : GoodIn wsX5_bestCard (wsV RX5 101 RX1 yX1_mover wsX1_mover) := goodIn_app (goodIn_of _ (by decide +kernel)) ggX5_bestCard_X1_mover
set_option maxRecDepth 20000 in
theorem ggX5_bestCard_X4_bestPlay : GoodIn wsX5_bestCard wsX4_bestPlay := goodIn_r _ [34, 35, 36, 37, 38, 8, 39, 40, 6, 7, 9, 10, 11, 12, 13, 14, 15, 16, 17, 18, 19, 20, 21, 22, 23, 24, 25, 26, 27, 28, 29, 41, 42, 43, 44, 45, 46, 47, 48, 49, 50, 51, 52, 53, 54, 55, 56, 57, 58, 59, 60, 61, 62, 63, 64, 65, 66, 67, 68, 69, 70, 71, 72, 73, 74, 75, 76, 77, 78, 79, 80, 81, 82, 83, 84, 85, 86, 87, 88, 89, 90, 91, 92, 93, 94, 95, 96, 33, 97, 98, 99, 100, 101, 102, 103, 104, 105, 106, 107, 108, 109, 110, 111, 112, 113, 114, 115, 116, 117, 118, 119, 120, 121, 122, 123, 124, 125, 126, 127, 128, 129, 130, 131, 132, 133, 134, 135, 136, 137, 138, 139, 140, 141, 142, 143, 144, 145, 146, 147, 148, 149, 150, 151, 152, 153, 154, 155, 156, 157, 158, 159, 160, 161, 162, 163, 164, 165, 166, 167, 168, 169, 170, 171, 172, 173, 174, 175, 176, 177, 178, 179, 180, 181, 182, 183, 195, 196, 187, 188, 189, 190, 191, 192, 193, 194, 197] (by decide +kernel) (by decide +kernel)
set_option maxRecDepth 20000 in
theorem gX5_bestCard_X4_bestPlay : GoodIn wsX5_bestCard (wsV RX5 143 RX4 yX4_bestPlay wsX4_bestPlay) := goodIn_app (goodIn_of _ (by decide +kernel)) ggX5_bestCard_X4_bestPlay
theorem dX5_bestCard_0 : decode cX5_bestCard 0 = .ok (.aload_n 0, 1) := by decide +kernel
theorem dX5_bestCard_1 : decode cX5_bestCard 1 = .ok (.getfield 10, 3) := by decide +kernel
theorem dX5_bestCard_4 : decode cX5_bestCard 4 = .ok (.invokevirtual 101, 3) := by decide +kernel
theorem dX5_bestCard_7 : decode cX5_bestCard 7 = .ok (.iconst (-1), 1) := by decide +kernel
theorem dX5_bestCard_8 : decode cX5_bestCard 8 = .ok (.if_icmp .ne 13, 3) := by decide +kernel
theorem dX5_bestCard_11 : decode cX5_bestCard 11 = .ok (.new 56, 3) := by decide +kernel
theorem dX5_bestCard_14 : decode cX5_bestCard 14 = .ok (.dup, 1) := by decide +kernel
theorem dX5_bestCard_15 : decode cX5_bestCard 15 = .ok (.ldc 141, 2) := by decide +kernel
theorem dX5_bestCard_17 : decode cX5_bestCard 17 = .ok (.invokespecial 60, 3) := by decide +kernel
theorem dX5_bestCard_20 : decode cX5_bestCard 20 = .ok (.athrow, 1) := by decide +kernel
theorem dX5_bestCard_21 : decode cX5_bestCard 21 = .ok (.aload_n 0, 1) := by decide +kernel
theorem dX5_bestCard_22 : decode cX5_bestCard 22 = .ok (.getfield 21, 3) := by decide +kernel
theorem dX5_bestCard_25 : decode cX5_bestCard 25 = .ok (.invokevirtual 143, 3) := by decide +kernel
theorem dX5_bestCard_28 : decode cX5_bestCard 28 = .ok (.ireturn, 1) := by decide +kernel
set_option maxRecDepth 20000 in
theorem ggX5_lowestEqual_X5_needCard : GoodIn wsX5_lowestEqual wsX5_needCard := goodIn_ca (goodIn_r _ [5, 6, 7] (by decide +kernel) (by decide +kernel)) (goodIn_sub (fun _ h => List.mem_cons_of_mem _ (List.mem_append_left _ (List.mem_append_right _ h))) (by decide +kernel))
set_option maxRecDepth 20000 in
theorem gX5_lowestEqual_X5_needCard : GoodIn wsX5_lowestEqual (va_wsS RX5 49 yX5_needCard wsX5_needCard) := goodIn_app (goodIn_of _ (by decide +kernel)) ggX5_lowestEqual_X5_needCard
set_option maxRecDepth 20000 in
theorem ggX5_lowestEqual_X5_needInHand : GoodIn wsX5_lowestEqual wsX5_needInHand := goodIn_ca (goodIn_r _ [11, 12, 13, 14, 15, 16, 17, 18, 19, 20, 21, 22, 23, 24, 66, 67, 68, 69, 70, 71, 72, 73, 74, 75, 76] (by decide +kernel) (by decide +kernel)) (goodIn_sub (fun _ h => List.mem_cons_of_mem _ (List.mem_append_right _ h)) (by decide +kernel))
set_option maxRecDepth 20000 in
theorem gX5_lowestEqual_X5_needInHand : GoodIn wsX5_lowestEqual (wsV RX5 146 RX5 yX5_needInHand wsX5_needInHand) := goodIn_app (goodIn_of _ (by decide +kernel)) ggX5_lowestEqual_X5_needInHand
set_option maxRecDepth 20000 in
theorem ggX5_lowestEqual_X3_lowestLike : GoodIn wsX5_lowestEqual wsX3_lowestLike := goodIn_r _ [29, 30, 31, 16, 17, 18, 19, 20, 21, 22, 23, 24, 32, 33, 34, 35, 36, 37, 38, 39, 40, 41, 42, 43, 44, 45, 46, 47, 48, 49, 50, 51, 52, 53, 54, 55, 56, 57, 58, 59, 60, 61, 62, 63, 64, 65, 77, 69, 70, 71, 72, 73, 74, 75, 76] (by decide +kernel) (by decide +kernel)
set_option maxRecDepth 20000 in
theorem gX5_lowestEqual_X3_lowestLike : GoodIn wsX5_lowestEqual (wsV RX5 149 RX3 yX3_lowestLike wsX3_lowestLike) := goodIn_app (goodIn_of _ (by decide +kernel)) ggX5_lowestEqual_X3_lowestLike
theorem dX5_lowestEqual_0 : decode cX5_lowestEqual 0 = .ok (.iload_n 1, 1) := by decide +kernel
theorem dX5_lowestEqual_1 : decode cX5_lowestEqual 1 = .ok (.invokestatic 49, 3) := by decide +kernel
theorem dX5_lowestEqual_4 : decode cX5_lowestEqual 4 = .ok (.aload_n 0, 1) := by decide +kernel
theorem dX5_lowestEqual_5 : decode cX5_lowestEqual 5 = .ok (.iload_n 1, 1) := by decide +kernel
theorem dX5_lowestEqual_6 : decode cX5_lowestEqual 6 = .ok (.invokevirtual 146, 3) := by decide +kernel
theorem dX5_lowestEqual_9 : decode cX5_lowestEqual 9 = .ok (.aload_n 0, 1) := by decide +kernel
theorem dX5_lowestEqual_10 : decode cX5_lowestEqual 10 = .ok (.getfield 28, 3) := by decide +kernel
theorem dX5_lowestEqual_13 : decode cX5_lowestEqual 13 = .ok (.iload_n 1, 1) := by decide +kernel
theorem dX5_lowestEqual_14 : decode cX5_lowestEqual 14 = .ok (.invokevirtual 149, 3) := by decide +kernel
theorem dX5_lowestEqual_17 : decode cX5_lowestEqual 17 = .ok (.ireturn, 1) := by decide +kernel
set_option maxRecDepth 20000 in
theorem ggX5_unlike_X5_needPlayer : GoodIn wsX5_unlike wsX5_needPlayer := goodIn_ca (goodIn_r _ [5, 6, 7] (by decide +kernel) (by decide +kernel)) (goodIn_sub (fun _ h => List.mem_cons_of_mem _ (List.mem_append_right _ h)) (by decide +kernel))
set_option maxRecDepth 20000 in
theorem gX5_unlike_X5_needPlayer : GoodIn wsX5_unlike (va_wsS RX5 45 yX5_needPlayer wsX5_needPlayer) := goodIn_app (goodIn_of _ (by decide +kernel)) ggX5_unlike_X5_needPlayer
set_option maxRecDepth 20000 in
theorem ggX5_unlike_X1_handOf : GoodIn wsX5_unlike wsX1_handOf := goodIn_r _ [12, 13, 67, 68, 69, 70, 71, 72, 73, 74] (by decide +kernel) (by decide +kernel)
set_option maxRecDepth 20000 in
theorem gX5_unlike_X1_handOf : GoodIn wsX5_unlike (wsV RX5 104 RX1 yX1_handOf wsX1_handOf) := goodIn_app (goodIn_of _ (by decide +kernel)) ggX5_unlike_X1_handOf
set_option maxRecDepth 20000 in
theorem ggX5_unlike_X1_out : GoodIn wsX5_unlike wsX1_out := goodIn_r _ [17, 18, 19, 20, 21, 11, 22, 13, 23, 24, 25, 26, 27, 28, 29, 30, 31, 32, 33, 34, 35, 36, 67, 68, 69, 70, 71, 72, 73, 74] (by decide +kernel) (by decide +kernel)
set_option maxRecDepth 20000 in
theorem gX5_unlike_X1_out : GoodIn wsX5_unlike (wsV RX5 152 RX1 yX1_out wsX1_out) := goodIn_app (goodIn_of _ (by decide +kernel)) ggX5_unlike_X1_out
set_option maxRecDepth 20000 in
theorem ggX5_unlike_X0_lowestOfEquals : GoodIn wsX5_unlike wsX0_lowestOfEquals := goodIn_r _ [40, 41, 42, 39, 43, 44, 45, 46, 47, 48, 49, 50, 51, 52, 53, 54, 55, 56, 57] (by decide +kernel) (by decide +kernel)
set_option maxRecDepth 20000 in
theorem gX5_unlike_X0_lowestOfEquals : GoodIn wsX5_unlike (va_wsS RX5 155 yX0_lowestOfEquals wsX0_lowestOfEquals) := goodIn_app (goodIn_of _ (by decide +kernel)) ggX5_unlike_X0_lowestOfEquals
set_option maxRecDepth 20000 in
theorem ggX5_unlike_J6_bitCount_0f7a4 : GoodIn wsX5_unlike wsJ6_bitCount_0f7a4 := goodIn_r _ [60, 61, 62, 63] (by decide +kernel) (by decide +kernel)
set_option maxRecDepth 20000 in
theorem gX5_unlike_J6_bitCount_0f7a4 : GoodIn wsX5_unlike (va_wsS RX5 158 yJ6_bitCount_0f7a4 wsJ6_bitCount_0f7a4) := goodIn_app (goodIn_of _ (by decide +kernel)) ggX5_unlike_J6_bitCount_0f7a4
theorem dX5_unlike_0 : decode cX5_unlike 0 = .ok (.iload_n 1, 1) := by decide +kernel
theorem dX5_unlike_1 : decode cX5_unlike 1 = .ok (.invokestatic 45, 3) := by decide +kernel
theorem dX5_unlike_4 : decode cX5_unlike 4 = .ok (.aload_n 0, 1) := by decide +kernel
theorem dX5_unlike_5 : decode cX5_unlike 5 = .ok (.getfield 10, 3) := by decide +kernel
theorem dX5_unlike_8 : decode cX5_unlike 8 = .ok (.iload_n 1, 1) := by decide +kernel
theorem dX5_unlike_9 : decode cX5_unlike 9 = .ok (.invokevirtual 104, 3) := by decide +kernel
theorem dX5_unlike_12 : decode cX5_unlike 12 = .ok (.aload_n 0, 1) := by decide +kernel
theorem dX5_unlike_13 : decode cX5_unlike 13 = .ok (.getfield 10, 3) := by decide +kernel
theorem dX5_unlike_16 : decode cX5_unlike 16 = .ok (.invokevirtual 152, 3) := by decide +kernel
theorem dX5_unlike_19 : decode cX5_unlike 19 = .ok (.invokestatic 155, 3) := by decide +kernel
theorem dX5_unlike_22 : decode cX5_unlike 22 = .ok (.invokestatic 158, 3) := by decide +kernel
theorem dX5_unlike_25 : decode cX5_unlike 25 = .ok (.ireturn, 1) := by decide +kernel
set_option maxRecDepth 20000 in
theorem ggX5_isTop_X5_needCard : GoodIn wsX5_isTop wsX5_needCard := goodIn_ca (goodIn_r _ [6, 7, 8] (by decide +kernel) (by decide +kernel)) (goodIn_sub (fun _ h => List.mem_cons_of_mem _ (List.mem_append_left _ (List.mem_append_right _ h))) (by decide +kernel))
set_option maxRecDepth 20000 in
theorem gX5_isTop_X5_needCard : GoodIn wsX5_isTop (va_wsS RX5 49 yX5_needCard wsX5_needCard) := goodIn_app (goodIn_of _ (by decide +kernel)) ggX5_isTop_X5_needCard
set_option maxRecDepth 20000 in
theorem ggX5_isTop_X5_needInHand : GoodIn wsX5_isTop wsX5_needInHand := goodIn_ca (goodIn_r _ [12, 13, 14, 2, 15, 16, 17, 18, 19, 20, 21, 22, 23, 24, 67, 68, 69, 70, 71, 72, 73, 74, 75, 76, 77] (by decide +kernel) (by decide +kernel)) (goodIn_sub (fun _ h => List.mem_cons_of_mem _ (List.mem_append_right _ h)) (by decide +kernel))
set_option maxRecDepth 20000 in
theorem gX5_isTop_X5_needInHand : GoodIn wsX5_isTop (wsV RX5 146 RX5 yX5_needInHand wsX5_needInHand) := goodIn_app (goodIn_of _ (by decide +kernel)) ggX5_isTop_X5_needInHand
set_option maxRecDepth 20000 in
theorem ggX5_isTop_X1_ownerOf : GoodIn wsX5_isTop wsX1_ownerOf := goodIn_r _ [19, 20, 21, 22, 23, 24, 70, 71, 72, 73, 74, 75, 76, 77] (by decide +kernel) (by decide +kernel)
set_option maxRecDepth 20000 in
theorem gX5_isTop_X1_ownerOf : GoodIn wsX5_isTop (wsV RX5 163 RX1 yX1_ownerOf wsX1_ownerOf) := goodIn_app (goodIn_of _ (by decide +kernel)) ggX5_isTop_X1_ownerOf
set_option maxRecDepth 20000 in
theorem ggX5_isTop_X3_isHighest : GoodIn wsX5_isTop wsX3_isHighest := goodIn_r _ [29, 30, 31, 32, 33, 18, 34, 20, 35, 36, 37, 38, 39, 40, 41, 42, 43, 44, 45, 46, 47, 48, 49, 50, 51, 52, 53, 54, 23, 55, 56, 57, 58, 59, 60, 61, 62, 63, 64, 65, 66, 78, 70, 71, 72, 73, 74, 75, 76, 77] (by decide +kernel) (by decide +kernel)
set_option maxRecDepth 20000 in
theorem gX5_isTop_X3_isHighest : GoodIn wsX5_isTop (wsV RX5 166 RX3 yX3_isHighest wsX3_isHighest) := goodIn_app (goodIn_of _ (by decide +kernel)) ggX5_isTop_X3_isHighest
theorem dX5_isTop_0 : decode cX5_isTop 0 = .ok (.iload_n 1, 1) := by decide +kernel
theorem dX5_isTop_1 : decode cX5_isTop 1 = .ok (.invokestatic 49, 3) := by decide +kernel
theorem dX5_isTop_4 : decode cX5_isTop 4 = .ok (.aload_n 0, 1) := by decide +kernel
theorem dX5_isTop_5 : decode cX5_isTop 5 = .ok (.iload_n 1, 1) := by decide +kernel
theorem dX5_isTop_6 : decode cX5_isTop 6 = .ok (.invokevirtual 146, 3) := by decide +kernel
theorem dX5_isTop_9 : decode cX5_isTop 9 = .ok (.aload_n 0, 1) := by decide +kernel
theorem dX5_isTop_10 : decode cX5_isTop 10 = .ok (.getfield 28, 3) := by decide +kernel
theorem dX5_isTop_13 : decode cX5_isTop 13 = .ok (.iload_n 1, 1) := by decide +kernel
theorem dX5_isTop_14 : decode cX5_isTop 14 = .ok (.aload_n 0, 1) := by decide +kernel
theorem dX5_isTop_15 : decode cX5_isTop 15 = .ok (.getfield 10, 3) := by decide +kernel
theorem dX5_isTop_18 : decode cX5_isTop 18 = .ok (.iload_n 1, 1) := by decide +kernel
theorem dX5_isTop_19 : decode cX5_isTop 19 = .ok (.invokevirtual 163, 3) := by decide +kernel
theorem dX5_isTop_22 : decode cX5_isTop 22 = .ok (.invokevirtual 166, 3) := by decide +kernel
theorem dX5_isTop_25 : decode cX5_isTop 25 = .ok (.ireturn, 1) := by decide +kernel
set_option maxRecDepth 20000 in
theorem ggX5_quick_X5_needPlayer : GoodIn wsX5_quick wsX5_needPlayer := goodIn_ca (goodIn_r _ [5, 6, 7] (by decide +kernel) (by decide +kernel)) (goodIn_sub (fun _ h => List.mem_cons_of_mem _ (List.mem_append_right _ h)) (by decide +kernel))
set_option maxRecDepth 20000 in
theorem gX5_quick_X5_needPlayer : GoodIn wsX5_quick (va_wsS RX5 45 yX5_needPlayer wsX5_needPlayer) := goodIn_app (goodIn_of _ (by decide +kernel)) ggX5_quick_X5_needPlayer
set_option maxRecDepth 20000 in
theorem ggX5_quick_X3_quickTricks : GoodIn wsX5_quick wsX3_quickTricks := goodIn_r _ [12, 13, 14, 15, 16, 17, 18, 19, 20, 21, 22, 23, 24, 25, 26, 11, 27, 28, 29, 30, 31, 32, 33, 34, 35, 36, 37, 38, 39, 40, 41, 42, 43, 44, 45, 46, 47, 48, 49, 50, 51, 52, 53, 54, 55, 56, 57, 58, 59, 63, 64, 65, 66, 67, 68, 69, 70, 71] (by decide +kernel) (by decide +kernel)
set_option maxRecDepth 20000 in
theorem gX5_quick_X3_quickTricks : GoodIn wsX5_quick (wsV RX5 169 RX3 yX3_quickTricks wsX3_quickTricks) := goodIn_app (goodIn_of _ (by decide +kernel)) ggX5_quick_X3_quickTricks
theorem dX5_quick_0 : decode cX5_quick 0 = .ok (.iload_n 1, 1) := by decide +kernel
theorem dX5_quick_1 : decode cX5_quick 1 = .ok (.invokestatic 45, 3) := by decide +kernel
theorem dX5_quick_4 : decode cX5_quick 4 = .ok (.aload_n 0, 1) := by decide +kernel
theorem dX5_quick_5 : decode cX5_quick 5 = .ok (.getfield 28, 3) := by decide +kernel
theorem dX5_quick_8 : decode cX5_quick 8 = .ok (.iload_n 1, 1) := by decide +kernel
theorem dX5_quick_9 : decode cX5_quick 9 = .ok (.invokevirtual 169, 3) := by decide +kernel
theorem dX5_quick_12 : decode cX5_quick 12 = .ok (.ireturn, 1) := by decide +kernel
set_option maxRecDepth 20000 in
theorem ggX5_fork_X5_needPlayer : GoodIn wsX5_fork wsX5_needPlayer := goodIn_ca (goodIn_r _ [7, 1, 2] (by decide +kernel) (by decide +kernel)) (goodIn_sub (fun _ h => List.mem_cons_of_mem _ (List.mem_append_right _ h)) (by decide +kernel))
set_option maxRecDepth 20000 in
theorem gX5_fork_X5_needPlayer : GoodIn wsX5_fork (va_wsS RX5 45 yX5_needPlayer wsX5_needPlayer) := goodIn_app (goodIn_of _ (by decide +kernel)) ggX5_fork_X5_needPlayer
set_option maxRecDepth 20000 in
theorem ggX5_fork_X3_forkKind : GoodIn wsX5_fork wsX3_forkKind := goodIn_r _ [12, 13, 14, 15, 16, 17, 18, 19, 20, 21, 22, 23, 24, 25, 26, 27, 28, 29, 30, 31, 32, 33, 34, 35, 36, 37, 38, 39, 40, 41, 42, 43, 44, 45, 46, 47, 51, 52, 53, 54, 55, 56, 57, 58, 59] (by decide +kernel) (by decide +kernel)
set_option maxRecDepth 20000 in
theorem gX5_fork_X3_forkKind : GoodIn wsX5_fork (wsV RX5 174 RX3 yX3_forkKind wsX3_forkKind) := goodIn_app (goodIn_of _ (by decide +kernel)) ggX5_fork_X3_forkKind
theorem dX5_fork_0 : decode cX5_fork 0 = .ok (.iload_n 1, 1) := by decide +kernel
theorem dX5_fork_1 : decode cX5_fork 1 = .ok (.invokestatic 45, 3) := by decide +kernel
theorem dX5_fork_4 : decode cX5_fork 4 = .ok (.iload_n 2, 1) := by decide +kernel
theorem dX5_fork_5 : decode cX5_fork 5 = .ok (.ifCond .lt 8, 3) := by decide +kernel
theorem dX5_fork_8 : decode cX5_fork 8 = .ok (.iload_n 2, 1) := by decide +kernel
theorem dX5_fork_9 : decode cX5_fork 9 = .ok (.iconst 4, 1) := by decide +kernel
theorem dX5_fork_10 : decode cX5_fork 10 = .ok (.if_icmp .lt 13, 3) := by decide +kernel
theorem dX5_fork_13 : decode cX5_fork 13 = .ok (.new 34, 3) := by decide +kernel
theorem dX5_fork_16 : decode cX5_fork 16 = .ok (.dup, 1) := by decide +kernel
theorem dX5_fork_17 : decode cX5_fork 17 = .ok (.ldc 172, 2) := by decide +kernel
theorem dX5_fork_19 : decode cX5_fork 19 = .ok (.invokespecial 38, 3) := by decide +kernel
theorem dX5_fork_22 : decode cX5_fork 22 = .ok (.athrow, 1) := by decide +kernel
