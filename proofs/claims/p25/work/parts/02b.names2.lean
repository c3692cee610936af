theorem dX1_dropFrom_19 : decode cX1_dropFrom 19 = .ok (.iaload, 1) := by decide +kernel
theorem dX1_dropFrom_20 : decode cX1_dropFrom 20 = .ok (.iconst 1, 1) := by decide +kernel
theorem dX1_dropFrom_21 : decode cX1_dropFrom 21 = .ok (.iload_n 2, 1) := by decide +kernel
theorem dX1_dropFrom_22 : decode cX1_dropFrom 22 = .ok (.ishl, 1) := by decide +kernel
theorem dX1_dropFrom_23 : decode cX1_dropFrom 23 = .ok (.iconst (-1), 1) := by decide +kernel
theorem dX1_dropFrom_24 : decode cX1_dropFrom 24 = .ok (.ixor, 1) := by decide +kernel
theorem dX1_dropFrom_25 : decode cX1_dropFrom 25 = .ok (.iand, 1) := by decide +kernel
theorem dX1_dropFrom_26 : decode cX1_dropFrom 26 = .ok (.iastore, 1) := by decide +kernel
theorem dX1_dropFrom_27 : decode cX1_dropFrom 27 = .ok (.return_, 1) := by decide +kernel
set_option maxRecDepth 20000 in
theorem ggX1_trickCard_X1_trickSize : GoodIn wsX1_trickCard wsX1_trickSize := goodIn_r _ [6, 1, 12, 13, 14, 15, 16, 17, 18, 19] (by decide +kernel) (by decide +kernel)
set_option maxRecDepth 20000 in
theorem gX1_trickCard_X1_trickSize : GoodIn wsX1_trickCard (wsV RX1 65 RX1 yX1_trickSize wsX1_trickSize) := goodIn_app (goodIn_of _ (by decide +kernel)) ggX1_trickCard_X1_trickSize
set_option maxRecDepth 20000 in
theorem ggX1_trickCard_X1_laidAt : GoodIn wsX1_trickCard wsX1_laidAt := goodIn_r _ [10, 11, 12, 13, 14, 15, 16, 17, 18, 19] (by decide +kernel) (by decide +kernel)
set_option maxRecDepth 20000 in
theorem gX1_trickCard_X1_laidAt : GoodIn wsX1_trickCard (wsV RX1 68 RX1 yX1_laidAt wsX1_laidAt) := goodIn_app (goodIn_of _ (by decide +kernel)) ggX1_trickCard_X1_laidAt
theorem dX1_trickCard_0 : decode cX1_trickCard 0 = .ok (.aload_n 0, 1) := by decide +kernel
theorem dX1_trickCard_1 : decode cX1_trickCard 1 = .ok (.aload_n 0, 1) := by decide +kernel
theorem dX1_trickCard_2 : decode cX1_trickCard 2 = .ok (.getfield 35, 3) := by decide +kernel
theorem dX1_trickCard_5 : decode cX1_trickCard 5 = .ok (.aload_n 0, 1) := by decide +kernel
theorem dX1_trickCard_6 : decode cX1_trickCard 6 = .ok (.invokevirtual 65, 3) := by decide +kernel
theorem dX1_trickCard_9 : decode cX1_trickCard 9 = .ok (.isub, 1) := by decide +kernel
theorem dX1_trickCard_10 : decode cX1_trickCard 10 = .ok (.iload_n 1, 1) := by decide +kernel
theorem dX1_trickCard_11 : decode cX1_trickCard 11 = .ok (.iadd, 1) := by decide +kernel
theorem dX1_trickCard_12 : decode cX1_trickCard 12 = .ok (.invokevirtual 68, 3) := by decide +kernel
theorem dX1_trickCard_15 : decode cX1_trickCard 15 = .ok (.ireturn, 1) := by decide +kernel
set_option maxRecDepth 20000 in
theorem ggX1_playable_X1_mover : GoodIn wsX1_playable wsX1_mover := goodIn_r _ [5, 6, 7, 8, 9, 4, 10, 11, 12, 13, 14, 15, 16, 17, 18, 19, 20, 21, 22, 23, 24, 25, 47, 48, 49, 50, 51, 52, 53, 54] (by decide +kernel) (by decide +kernel)
set_option maxRecDepth 20000 in
theorem gX1_playable_X1_mover : GoodIn wsX1_playable (wsV RX1 71 RX1 yX1_mover wsX1_mover) := goodIn_app (goodIn_of _ (by decide +kernel)) ggX1_playable_X1_mover
set_option maxRecDepth 20000 in
theorem ggX1_playable_X1_handOf : GoodIn wsX1_playable wsX1_handOf := goodIn_r _ [29, 30, 47, 48, 49, 50, 51, 52, 53, 54] (by decide +kernel) (by decide +kernel)
set_option maxRecDepth 20000 in
theorem gX1_playable_X1_handOf : GoodIn wsX1_playable (wsV RX1 42 RX1 yX1_handOf wsX1_handOf) := goodIn_app (goodIn_of _ (by decide +kernel)) ggX1_playable_X1_handOf
set_option maxRecDepth 20000 in
theorem ggX1_playable_X1_trickSize : GoodIn wsX1_playable wsX1_trickSize := goodIn_r _ [25, 12, 47, 48, 49, 50, 51, 52, 53, 54] (by decide +kernel) (by decide +kernel)
set_option maxRecDepth 20000 in
theorem gX1_playable_X1_trickSize : GoodIn wsX1_playable (wsV RX1 65 RX1 yX1_trickSize wsX1_trickSize) := goodIn_app (goodIn_of _ (by decide +kernel)) ggX1_playable_X1_trickSize
set_option maxRecDepth 20000 in
theorem ggX1_playable_X1_trickCard : GoodIn wsX1_playable wsX1_trickCard := goodIn_r _ [34, 12, 22, 23, 24, 4, 25, 35, 36, 37, 38, 39, 47, 48, 49, 50, 51, 52, 53, 54] (by decide +kernel) (by decide +kernel)
set_option maxRecDepth 20000 in
theorem gX1_playable_X1_trickCard : GoodIn wsX1_playable (wsV RX1 74 RX1 yX1_trickCard wsX1_trickCard) := goodIn_app (goodIn_of _ (by decide +kernel)) ggX1_playable_X1_trickCard
set_option maxRecDepth 20000 in
theorem ggX1_playable_X0_suitOf : GoodIn wsX1_playable wsX0_suitOf := goodIn_r _ [43] (by decide +kernel) (by decide +kernel)
set_option maxRecDepth 20000 in
theorem gX1_playable_X0_suitOf : GoodIn wsX1_playable (va_wsS RX1 77 yX0_suitOf wsX0_suitOf) := goodIn_app (goodIn_of _ (by decide +kernel)) ggX1_playable_X0_suitOf
set_option maxRecDepth 20000 in
theorem ggX1_playable_X0_suitSet : GoodIn wsX1_playable wsX0_suitSet := goodIn_r _ [46] (by decide +kernel) (by decide +kernel)
set_option maxRecDepth 20000 in
theorem gX1_playable_X0_suitSet : GoodIn wsX1_playable (va_wsS RX1 80 yX0_suitSet wsX0_suitSet) := goodIn_app (goodIn_of _ (by decide +kernel)) ggX1_playable_X0_suitSet
theorem dX1_playable_0 : decode cX1_playable 0 = .ok (.aload_n 0, 1) := by decide +kernel
theorem dX1_playable_1 : decode cX1_playable 1 = .ok (.aload_n 0, 1) := by decide +kernel
theorem dX1_playable_2 : decode cX1_playable 2 = .ok (.invokevirtual 71, 3) := by decide +kernel
theorem dX1_playable_5 : decode cX1_playable 5 = .ok (.invokevirtual 42, 3) := by decide +kernel
theorem dX1_playable_8 : decode cX1_playable 8 = .ok (.istore_n 1, 1) := by decide +kernel
theorem dX1_playable_9 : decode cX1_playable 9 = .ok (.aload_n 0, 1) := by decide +kernel
theorem dX1_playable_10 : decode cX1_playable 10 = .ok (.invokevirtual 65, 3) := by decide +kernel
theorem dX1_playable_13 : decode cX1_playable 13 = .ok (.ifCond .ne 5, 3) := by decide +kernel
theorem dX1_playable_16 : decode cX1_playable 16 = .ok (.iload_n 1, 1) := by decide +kernel
theorem dX1_playable_17 : decode cX1_playable 17 = .ok (.ireturn, 1) := by decide +kernel
theorem dX1_playable_18 : decode cX1_playable 18 = .ok (.iload_n 1, 1) := by decide +kernel
theorem dX1_playable_19 : decode cX1_playable 19 = .ok (.aload_n 0, 1) := by decide +kernel
theorem dX1_playable_20 : decode cX1_playable 20 = .ok (.iconst 0, 1) := by decide +kernel
theorem dX1_playable_21 : decode cX1_playable 21 = .ok (.invokevirtual 74, 3) := by decide +kernel
theorem dX1_playable_24 : decode cX1_playable 24 = .ok (.invokestatic 77, 3) := by decide +kernel
theorem dX1_playable_27 : decode cX1_playable 27 = .ok (.invokestatic 80, 3) := by decide +kernel
theorem dX1_playable_30 : decode cX1_playable 30 = .ok (.iand, 1) := by decide +kernel
theorem dX1_playable_31 : decode cX1_playable 31 = .ok (.istore_n 2, 1) := by decide +kernel
theorem dX1_playable_32 : decode cX1_playable 32 = .ok (.iload_n 2, 1) := by decide +kernel
theorem dX1_playable_33 : decode cX1_playable 33 = .ok (.ifCond .ne 7, 3) := by decide +kernel
theorem dX1_playable_36 : decode cX1_playable 36 = .ok (.iload_n 1, 1) := by decide +kernel
theorem dX1_playable_37 : decode cX1_playable 37 = .ok (.goto 4, 3) := by decide +kernel
theorem dX1_playable_40 : decode cX1_playable 40 = .ok (.iload_n 2, 1) := by decide +kernel
theorem dX1_playable_41 : decode cX1_playable 41 = .ok (.ireturn, 1) := by decide +kernel
set_option maxRecDepth 20000 in
theorem ggX1_lay_X1_mover : GoodIn wsX1_lay wsX1_mover := goodIn_r _ [7, 8, 9, 10, 11, 6, 12, 13, 1, 14, 15, 16, 17, 18, 19, 20, 21, 22, 23, 24, 25, 26, 45, 46, 47, 48, 49, 50, 51, 52] (by decide +kernel) (by decide +kernel)
set_option maxRecDepth 20000 in
theorem gX1_lay_X1_mover : GoodIn wsX1_lay (wsV RX1 71 RX1 yX1_mover wsX1_mover) := goodIn_app (goodIn_of _ (by decide +kernel)) ggX1_lay_X1_mover
set_option maxRecDepth 20000 in
theorem ggX1_lay_X1_dropFrom : GoodIn wsX1_lay wsX1_dropFrom := goodIn_r _ [30, 31, 45, 46, 47, 48, 49, 50, 51, 52] (by decide +kernel) (by decide +kernel)
set_option maxRecDepth 20000 in
theorem gX1_lay_X1_dropFrom : GoodIn wsX1_lay (wsV RX1 83 RX1 yX1_dropFrom wsX1_dropFrom) := goodIn_app (goodIn_of _ (by decide +kernel)) ggX1_lay_X1_dropFrom
set_option maxRecDepth 20000 in
theorem ggX1_lay_X1_trickSize : GoodIn wsX1_lay wsX1_trickSize := goodIn_r _ [26, 1, 45, 46, 47, 48, 49, 50, 51, 52] (by decide +kernel) (by decide +kernel)
set_option maxRecDepth 20000 in
theorem gX1_lay_X1_trickSize : GoodIn wsX1_lay (wsV RX1 65 RX1 yX1_trickSize wsX1_trickSize) := goodIn_app (goodIn_of _ (by decide +kernel)) ggX1_lay_X1_trickSize
set_option maxRecDepth 20000 in
theorem ggX1_lay_X1_endTrick : GoodIn wsX1_lay wsX1_endTrick := goodIn_r _ [35, 1, 22, 36, 37, 38, 6, 39, 2, 40, 41, 42, 43, 44, 14, 15, 16, 17, 18, 19, 20, 21, 45, 46, 47, 48, 49, 50, 51, 52] (by decide +kernel) (by decide +kernel)
set_option maxRecDepth 20000 in
theorem gX1_lay_X1_endTrick : GoodIn wsX1_lay (wsV RX1 86 RX1 yX1_endTrick wsX1_endTrick) := goodIn_app (goodIn_of _ (by decide +kernel)) ggX1_lay_X1_endTrick
theorem dX1_lay_0 : decode cX1_lay 0 = .ok (.aload_n 0, 1) := by decide +kernel
theorem dX1_lay_1 : decode cX1_lay 1 = .ok (.getfield 35, 3) := by decide +kernel
theorem dX1_lay_4 : decode cX1_lay 4 = .ok (.ifCond .lt 15, 3) := by decide +kernel
theorem dX1_lay_7 : decode cX1_lay 7 = .ok (.aload_n 0, 1) := by decide +kernel
theorem dX1_lay_8 : decode cX1_lay 8 = .ok (.getfield 35, 3) := by decide +kernel
theorem dX1_lay_11 : decode cX1_lay 11 = .ok (.aload_n 0, 1) := by decide +kernel
theorem dX1_lay_12 : decode cX1_lay 12 = .ok (.getfield 15, 3) := by decide +kernel
theorem dX1_lay_15 : decode cX1_lay 15 = .ok (.arraylength, 1) := by decide +kernel
theorem dX1_lay_16 : decode cX1_lay 16 = .ok (.if_icmp .lt 5, 3) := by decide +kernel
theorem dX1_lay_19 : decode cX1_lay 19 = .ok (.iconst (-1), 1) := by decide +kernel
theorem dX1_lay_20 : decode cX1_lay 20 = .ok (.ireturn, 1) := by decide +kernel
theorem dX1_lay_21 : decode cX1_lay 21 = .ok (.aload_n 0, 1) := by decide +kernel
theorem dX1_lay_22 : decode cX1_lay 22 = .ok (.aload_n 0, 1) := by decide +kernel
theorem dX1_lay_23 : decode cX1_lay 23 = .ok (.invokevirtual 71, 3) := by decide +kernel
theorem dX1_lay_26 : decode cX1_lay 26 = .ok (.iload_n 1, 1) := by decide +kernel
theorem dX1_lay_27 : decode cX1_lay 27 = .ok (.invokevirtual 83, 3) := by decide +kernel
theorem dX1_lay_30 : decode cX1_lay 30 = .ok (.aload_n 0, 1) := by decide +kernel
theorem dX1_lay_31 : decode cX1_lay 31 = .ok (.getfield 15, 3) := by decide +kernel
theorem dX1_lay_34 : decode cX1_lay 34 = .ok (.aload_n 0, 1) := by decide +kernel
theorem dX1_lay_35 : decode cX1_lay 35 = .ok (.getfield 35, 3) := by decide +kernel
theorem dX1_lay_38 : decode cX1_lay 38 = .ok (.iload_n 1, 1) := by decide +kernel
theorem dX1_lay_39 : decode cX1_lay 39 = .ok (.iastore, 1) := by decide +kernel
theorem dX1_lay_40 : decode cX1_lay 40 = .ok (.aload_n 0, 1) := by decide +kernel
theorem dX1_lay_41 : decode cX1_lay 41 = .ok (.dup, 1) := by decide +kernel
theorem dX1_lay_42 : decode cX1_lay 42 = .ok (.getfield 35, 3) := by decide +kernel
theorem dX1_lay_45 : decode cX1_lay 45 = .ok (.iconst 1, 1) := by decide +kernel
theorem dX1_lay_46 : decode cX1_lay 46 = .ok (.iadd, 1) := by decide +kernel
theorem dX1_lay_47 : decode cX1_lay 47 = .ok (.putfield 35, 3) := by decide +kernel
theorem dX1_lay_50 : decode cX1_lay 50 = .ok (.aload_n 0, 1) := by decide +kernel
theorem dX1_lay_51 : decode cX1_lay 51 = .ok (.invokevirtual 65, 3) := by decide +kernel
theorem dX1_lay_54 : decode cX1_lay 54 = .ok (.ifCond .eq 5, 3) := by decide +kernel
theorem dX1_lay_57 : decode cX1_lay 57 = .ok (.iconst (-1), 1) := by decide +kernel
theorem dX1_lay_58 : decode cX1_lay 58 = .ok (.ireturn, 1) := by decide +kernel
theorem dX1_lay_59 : decode cX1_lay 59 = .ok (.aload_n 0, 1) := by decide +kernel
theorem dX1_lay_60 : decode cX1_lay 60 = .ok (.invokevirtual 86, 3) := by decide +kernel
theorem dX1_lay_63 : decode cX1_lay 63 = .ok (.ireturn, 1) := by decide +kernel
set_option maxRecDepth 20000 in
theorem ggX1_endTrick_X1_laidAt : GoodIn wsX1_endTrick wsX1_laidAt := goodIn_r _ [7, 8, 22, 23, 24, 25, 26, 27, 28, 29] (by decide +kernel) (by decide +kernel)
set_option maxRecDepth 20000 in
theorem gX1_endTrick_X1_laidAt : GoodIn wsX1_endTrick (wsV RX1 68 RX1 yX1_laidAt wsX1_laidAt) := goodIn_app (goodIn_of _ (by decide +kernel)) ggX1_endTrick_X1_laidAt
set_option maxRecDepth 20000 in
theorem ggX1_endTrick_X1_beats : GoodIn wsX1_endTrick wsX1_beats := goodIn_r _ [12, 13, 22, 23, 24, 25, 26, 27, 28, 29] (by decide +kernel) (by decide +kernel)
set_option maxRecDepth 20000 in
theorem gX1_endTrick_X1_beats : GoodIn wsX1_endTrick (wsV RX1 89 RX1 yX1_beats wsX1_beats) := goodIn_app (goodIn_of _ (by decide +kernel)) ggX1_endTrick_X1_beats
set_option maxRecDepth 20000 in
theorem ggX1_endTrick_X1_tricksOver : GoodIn wsX1_endTrick wsX1_tricksOver := goodIn_r _ [17, 1, 22, 23, 24, 25, 26, 27, 28, 29] (by decide +kernel) (by decide +kernel)
set_option maxRecDepth 20000 in
theorem gX1_endTrick_X1_tricksOver : GoodIn wsX1_endTrick (wsV RX1 55 RX1 yX1_tricksOver wsX1_tricksOver) := goodIn_app (goodIn_of _ (by decide +kernel)) ggX1_endTrick_X1_tricksOver
set_option maxRecDepth 20000 in
theorem ggX1_endTrick_X1_leaderOf : GoodIn wsX1_endTrick wsX1_leaderOf := goodIn_r _ [21, 2, 22, 23, 24, 25, 26, 27, 28, 29] (by decide +kernel) (by decide +kernel)
set_option maxRecDepth 20000 in
theorem gX1_endTrick_X1_leaderOf : GoodIn wsX1_endTrick (wsV RX1 62 RX1 yX1_leaderOf wsX1_leaderOf) := goodIn_app (goodIn_of _ (by decide +kernel)) ggX1_endTrick_X1_leaderOf
theorem dX1_endTrick_0 : decode cX1_endTrick 0 = .ok (.aload_n 0, 1) := by decide +kernel
theorem dX1_endTrick_1 : decode cX1_endTrick 1 = .ok (.getfield 35, 3) := by decide +kernel
theorem dX1_endTrick_4 : decode cX1_endTrick 4 = .ok (.iconst 4, 1) := by decide +kernel
theorem dX1_endTrick_5 : decode cX1_endTrick 5 = .ok (.isub, 1) := by decide +kernel
theorem dX1_endTrick_6 : decode cX1_endTrick 6 = .ok (.istore_n 1, 1) := by decide +kernel
theorem dX1_endTrick_7 : decode cX1_endTrick 7 = .ok (.iconst 0, 1) := by decide +kernel
theorem dX1_endTrick_8 : decode cX1_endTrick 8 = .ok (.istore_n 2, 1) := by decide +kernel
theorem dX1_endTrick_9 : decode cX1_endTrick 9 = .ok (.iconst 1, 1) := by decide +kernel
theorem dX1_endTrick_10 : decode cX1_endTrick 10 = .ok (.istore_n 3, 1) := by decide +kernel
theorem dX1_endTrick_11 : decode cX1_endTrick 11 = .ok (.iload_n 3, 1) := by decide +kernel
theorem dX1_endTrick_12 : decode cX1_endTrick 12 = .ok (.iconst 4, 1) := by decide +kernel
theorem dX1_endTrick_13 : decode cX1_endTrick 13 = .ok (.if_icmp .ge 32, 3) := by decide +kernel
theorem dX1_endTrick_16 : decode cX1_endTrick 16 = .ok (.aload_n 0, 1) := by decide +kernel
theorem dX1_endTrick_17 : decode cX1_endTrick 17 = .ok (.aload_n 0, 1) := by decide +kernel
theorem dX1_endTrick_18 : decode cX1_endTrick 18 = .ok (.iload_n 1, 1) := by decide +kernel
theorem dX1_endTrick_19 : decode cX1_endTrick 19 = .ok (.iload_n 3, 1) := by decide +kernel
theorem dX1_endTrick_20 : decode cX1_endTrick 20 = .ok (.iadd, 1) := by decide +kernel
theorem dX1_endTrick_21 : decode cX1_endTrick 21 = .ok (.invokevirtual 68, 3) := by decide +kernel
theorem dX1_endTrick_24 : decode cX1_endTrick 24 = .ok (.aload_n 0, 1) := by decide +kernel
theorem dX1_endTrick_25 : decode cX1_endTrick 25 = .ok (.iload_n 1, 1) := by decide +kernel
theorem dX1_endTrick_26 : decode cX1_endTrick 26 = .ok (.iload_n 2, 1) := by decide +kernel
theorem dX1_endTrick_27 : decode cX1_endTrick 27 = .ok (.iadd, 1) := by decide +kernel
theorem dX1_endTrick_28 : decode cX1_endTrick 28 = .ok (.invokevirtual 68, 3) := by decide +kernel
theorem dX1_endTrick_31 : decode cX1_endTrick 31 = .ok (.invokevirtual 89, 3) := by decide +kernel
theorem dX1_endTrick_34 : decode cX1_endTrick 34 = .ok (.ifCond .eq 5, 3) := by decide +kernel
theorem dX1_endTrick_37 : decode cX1_endTrick 37 = .ok (.iload_n 3, 1) := by decide +kernel
theorem dX1_endTrick_38 : decode cX1_endTrick 38 = .ok (.istore_n 2, 1) := by decide +kernel
theorem dX1_endTrick_39 : decode cX1_endTrick 39 = .ok (.iinc 3 1, 3) := by decide +kernel
theorem dX1_endTrick_42 : decode cX1_endTrick 42 = .ok (.goto (-31), 3) := by decide +kernel
theorem dX1_endTrick_45 : decode cX1_endTrick 45 = .ok (.aload_n 0, 1) := by decide +kernel
theorem dX1_endTrick_46 : decode cX1_endTrick 46 = .ok (.invokevirtual 55, 3) := by decide +kernel
theorem dX1_endTrick_49 : decode cX1_endTrick 49 = .ok (.istore_n 3, 1) := by decide +kernel
theorem dX1_endTrick_50 : decode cX1_endTrick 50 = .ok (.aload_n 0, 1) := by decide +kernel
theorem dX1_endTrick_51 : decode cX1_endTrick 51 = .ok (.iload_n 3, 1) := by decide +kernel
theorem dX1_endTrick_52 : decode cX1_endTrick 52 = .ok (.iconst 1, 1) := by decide +kernel
theorem dX1_endTrick_53 : decode cX1_endTrick 53 = .ok (.isub, 1) := by decide +kernel
theorem dX1_endTrick_54 : decode cX1_endTrick 54 = .ok (.invokevirtual 62, 3) := by decide +kernel
theorem dX1_endTrick_57 : decode cX1_endTrick 57 = .ok (.iload_n 2, 1) := by decide +kernel
theorem dX1_endTrick_58 : decode cX1_endTrick 58 = .ok (.iadd, 1) := by decide +kernel
theorem dX1_endTrick_59 : decode cX1_endTrick 59 = .ok (.iconst 4, 1) := by decide +kernel
theorem dX1_endTrick_60 : decode cX1_endTrick 60 = .ok (.irem, 1) := by decide +kernel
theorem dX1_endTrick_61 : decode cX1_endTrick 61 = .ok (.istore 4, 2) := by decide +kernel
theorem dX1_endTrick_63 : decode cX1_endTrick 63 = .ok (.iload_n 3, 1) := by decide +kernel
theorem dX1_endTrick_64 : decode cX1_endTrick 64 = .ok (.ifCond .lt 20, 3) := by decide +kernel
theorem dX1_endTrick_67 : decode cX1_endTrick 67 = .ok (.iload_n 3, 1) := by decide +kernel
theorem dX1_endTrick_68 : decode cX1_endTrick 68 = .ok (.aload_n 0, 1) := by decide +kernel
theorem dX1_endTrick_69 : decode cX1_endTrick 69 = .ok (.getfield 18, 3) := by decide +kernel
theorem dX1_endTrick_72 : decode cX1_endTrick 72 = .ok (.arraylength, 1) := by decide +kernel
theorem dX1_endTrick_73 : decode cX1_endTrick 73 = .ok (.if_icmp .ge 11, 3) := by decide +kernel
theorem dX1_endTrick_76 : decode cX1_endTrick 76 = .ok (.aload_n 0, 1) := by decide +kernel
theorem dX1_endTrick_77 : decode cX1_endTrick 77 = .ok (.getfield 18, 3) := by decide +kernel
theorem dX1_endTrick_80 : decode cX1_endTrick 80 = .ok (.iload_n 3, 1) := by decide +kernel
theorem dX1_endTrick_81 : decode cX1_endTrick 81 = .ok (.iload 4, 2) := by decide +kernel
theorem dX1_endTrick_83 : decode cX1_endTrick 83 = .ok (.iastore, 1) := by decide +kernel
theorem dX1_endTrick_84 : decode cX1_endTrick 84 = .ok (.iload 4, 2) := by decide +kernel
theorem dX1_endTrick_86 : decode cX1_endTrick 86 = .ok (.ireturn, 1) := by decide +kernel
theorem dX1_beats_0 : decode cX1_beats 0 = .ok (.iload_n 1, 1) := by decide +kernel
theorem dX1_beats_1 : decode cX1_beats 1 = .ok (.bipush 6, 2) := by decide +kernel
theorem dX1_beats_3 : decode cX1_beats 3 = .ok (.idiv, 1) := by decide +kernel
theorem dX1_beats_4 : decode cX1_beats 4 = .ok (.istore_n 3, 1) := by decide +kernel
theorem dX1_beats_5 : decode cX1_beats 5 = .ok (.iload_n 3, 1) := by decide +kernel
theorem dX1_beats_6 : decode cX1_beats 6 = .ok (.iload_n 2, 1) := by decide +kernel
theorem dX1_beats_7 : decode cX1_beats 7 = .ok (.bipush 6, 2) := by decide +kernel
theorem dX1_beats_9 : decode cX1_beats 9 = .ok (.idiv, 1) := by decide +kernel
theorem dX1_beats_10 : decode cX1_beats 10 = .ok (.if_icmp .ne 16, 3) := by decide +kernel
theorem dX1_beats_13 : decode cX1_beats 13 = .ok (.iload_n 1, 1) := by decide +kernel
theorem dX1_beats_14 : decode cX1_beats 14 = .ok (.iload_n 2, 1) := by decide +kernel
theorem dX1_beats_15 : decode cX1_beats 15 = .ok (.if_icmp .le 7, 3) := by decide +kernel
theorem dX1_beats_18 : decode cX1_beats 18 = .ok (.iconst 1, 1) := by decide +kernel
theorem dX1_beats_19 : decode cX1_beats 19 = .ok (.goto 20, 3) := by decide +kernel
theorem dX1_beats_22 : decode cX1_beats 22 = .ok (.iconst 0, 1) := by decide +kernel
theorem dX1_beats_23 : decode cX1_beats 23 = .ok (.goto 16, 3) := by decide +kernel
theorem dX1_beats_26 : decode cX1_beats 26 = .ok (.iload_n 3, 1) := by decide +kernel
theorem dX1_beats_27 : decode cX1_beats 27 = .ok (.aload_n 0, 1) := by decide +kernel
theorem dX1_beats_28 : decode cX1_beats 28 = .ok (.getfield 21, 3) := by decide +kernel
theorem dX1_beats_31 : decode cX1_beats 31 = .ok (.if_icmp .ne 7, 3) := by decide +kernel
theorem dX1_beats_34 : decode cX1_beats 34 = .ok (.iconst 1, 1) := by decide +kernel
theorem dX1_beats_35 : decode cX1_beats 35 = .ok (.goto 4, 3) := by decide +kernel
theorem dX1_beats_38 : decode cX1_beats 38 = .ok (.iconst 0, 1) := by decide +kernel
theorem dX1_beats_39 : decode cX1_beats 39 = .ok (.ireturn, 1) := by decide +kernel
set_option maxRecDepth 20000 in
theorem ggX1_lift_X1_laidAt : GoodIn wsX1_lift wsX1_laidAt := goodIn_r _ [6, 7, 36, 37, 38, 39, 40, 41, 42, 43] (by decide +kernel) (by decide +kernel)
set_option maxRecDepth 20000 in
theorem gX1_lift_X1_laidAt : GoodIn wsX1_lift (wsV RX1 68 RX1 yX1_laidAt wsX1_laidAt) := goodIn_app (goodIn_of _ (by decide +kernel)) ggX1_lift_X1_laidAt
set_option maxRecDepth 20000 in
theorem ggX1_lift_X1_mover : GoodIn wsX1_lift wsX1_mover := goodIn_r _ [11, 12, 13, 14, 15, 5, 16, 17, 1, 18, 19, 20, 21, 22, 23, 24, 25, 26, 27, 28, 29, 30, 36, 37, 38, 39, 40, 41, 42, 43] (by decide +kernel) (by decide +kernel)
set_option maxRecDepth 20000 in
theorem gX1_lift_X1_mover : GoodIn wsX1_lift (wsV RX1 71 RX1 yX1_mover wsX1_mover) := goodIn_app (goodIn_of _ (by decide +kernel)) ggX1_lift_X1_mover
set_option maxRecDepth 20000 in
theorem ggX1_lift_X1_addTo : GoodIn wsX1_lift wsX1_addTo := goodIn_r _ [34, 35, 36, 37, 38, 39, 40, 41, 42, 43] (by decide +kernel) (by decide +kernel)
set_option maxRecDepth 20000 in
theorem gX1_lift_X1_addTo : GoodIn wsX1_lift (wsV RX1 51 RX1 yX1_addTo wsX1_addTo) := goodIn_app (goodIn_of _ (by decide +kernel)) ggX1_lift_X1_addTo
theorem dX1_lift_0 : decode cX1_lift 0 = .ok (.aload_n 0, 1) := by decide +kernel
theorem dX1_lift_1 : decode cX1_lift 1 = .ok (.getfield 35, 3) := by decide +kernel
theorem dX1_lift_4 : decode cX1_lift 4 = .ok (.ifCond .gt 5, 3) := by decide +kernel
theorem dX1_lift_7 : decode cX1_lift 7 = .ok (.iconst (-1), 1) := by decide +kernel
theorem dX1_lift_8 : decode cX1_lift 8 = .ok (.ireturn, 1) := by decide +kernel
theorem dX1_lift_9 : decode cX1_lift 9 = .ok (.aload_n 0, 1) := by decide +kernel
theorem dX1_lift_10 : decode cX1_lift 10 = .ok (.dup, 1) := by decide +kernel
theorem dX1_lift_11 : decode cX1_lift 11 = .ok (.getfield 35, 3) := by decide +kernel
theorem dX1_lift_14 : decode cX1_lift 14 = .ok (.iconst 1, 1) := by decide +kernel
theorem dX1_lift_15 : decode cX1_lift 15 = .ok (.isub, 1) := by decide +kernel
theorem dX1_lift_16 : decode cX1_lift 16 = .ok (.putfield 35, 3) := by decide +kernel
theorem dX1_lift_19 : decode cX1_lift 19 = .ok (.aload_n 0, 1) := by decide +kernel
theorem dX1_lift_20 : decode cX1_lift 20 = .ok (.aload_n 0, 1) := by decide +kernel
theorem dX1_lift_21 : decode cX1_lift 21 = .ok (.getfield 35, 3) := by decide +kernel
theorem dX1_lift_24 : decode cX1_lift 24 = .ok (.invokevirtual 68, 3) := by decide +kernel
theorem dX1_lift_27 : decode cX1_lift 27 = .ok (.istore_n 1, 1) := by decide +kernel
theorem dX1_lift_28 : decode cX1_lift 28 = .ok (.aload_n 0, 1) := by decide +kernel
theorem dX1_lift_29 : decode cX1_lift 29 = .ok (.aload_n 0, 1) := by decide +kernel
theorem dX1_lift_30 : decode cX1_lift 30 = .ok (.invokevirtual 71, 3) := by decide +kernel
theorem dX1_lift_33 : decode cX1_lift 33 = .ok (.iload_n 1, 1) := by decide +kernel
theorem dX1_lift_34 : decode cX1_lift 34 = .ok (.invokevirtual 51, 3) := by decide +kernel
theorem dX1_lift_37 : decode cX1_lift 37 = .ok (.iload_n 1, 1) := by decide +kernel
theorem dX1_lift_38 : decode cX1_lift 38 = .ok (.ireturn, 1) := by decide +kernel
set_option maxRecDepth 20000 in
theorem ggX1_tricksOf_X1_tricksOver : GoodIn wsX1_tricksOf wsX1_tricksOver := goodIn_r _ [5, 6, 16, 17, 18, 19, 20, 21, 22, 23] (by decide +kernel) (by decide +kernel)
set_option maxRecDepth 20000 in
theorem gX1_tricksOf_X1_tricksOver : GoodIn wsX1_tricksOf (wsV RX1 55 RX1 yX1_tricksOver wsX1_tricksOver) := goodIn_app (goodIn_of _ (by decide +kernel)) ggX1_tricksOf_X1_tricksOver
set_option maxRecDepth 20000 in
theorem ggX1_tricksOf_X1_leaderOf : GoodIn wsX1_tricksOf wsX1_leaderOf := goodIn_r _ [10, 11, 16, 17, 18, 19, 20, 21, 22, 23] (by decide +kernel) (by decide +kernel)
set_option maxRecDepth 20000 in
theorem gX1_tricksOf_X1_leaderOf : GoodIn wsX1_tricksOf (wsV RX1 62 RX1 yX1_leaderOf wsX1_leaderOf) := goodIn_app (goodIn_of _ (by decide +kernel)) ggX1_tricksOf_X1_leaderOf
set_option maxRecDepth 20000 in
theorem ggX1_tricksOf_X0_sideOf : GoodIn wsX1_tricksOf wsX0_sideOf := goodIn_r _ [15] (by decide +kernel) (by decide +kernel)
set_option maxRecDepth 20000 in
theorem gX1_tricksOf_X0_sideOf : GoodIn wsX1_tricksOf (va_wsS RX1 92 yX0_sideOf wsX0_sideOf) := goodIn_app (goodIn_of _ (by decide +kernel)) ggX1_tricksOf_X0_sideOf
theorem dX1_tricksOf_0 : decode cX1_tricksOf 0 = .ok (.iconst 0, 1) := by decide +kernel
theorem dX1_tricksOf_1 : decode cX1_tricksOf 1 = .ok (.istore_n 2, 1) := by decide +kernel
theorem dX1_tricksOf_2 : decode cX1_tricksOf 2 = .ok (.iconst 1, 1) := by decide +kernel
theorem dX1_tricksOf_3 : decode cX1_tricksOf 3 = .ok (.istore_n 3, 1) := by decide +kernel
theorem dX1_tricksOf_4 : decode cX1_tricksOf 4 = .ok (.iload_n 3, 1) := by decide +kernel
theorem dX1_tricksOf_5 : decode cX1_tricksOf 5 = .ok (.aload_n 0, 1) := by decide +kernel
theorem dX1_tricksOf_6 : decode cX1_tricksOf 6 = .ok (.invokevirtual 55, 3) := by decide +kernel
theorem dX1_tricksOf_9 : decode cX1_tricksOf 9 = .ok (.if_icmp .gt 24, 3) := by decide +kernel
theorem dX1_tricksOf_12 : decode cX1_tricksOf 12 = .ok (.aload_n 0, 1) := by decide +kernel
theorem dX1_tricksOf_13 : decode cX1_tricksOf 13 = .ok (.iload_n 3, 1) := by decide +kernel
theorem dX1_tricksOf_14 : decode cX1_tricksOf 14 = .ok (.invokevirtual 62, 3) := by decide +kernel
theorem dX1_tricksOf_17 : decode cX1_tricksOf 17 = .ok (.invokestatic 92, 3) := by decide +kernel
theorem dX1_tricksOf_20 : decode cX1_tricksOf 20 = .ok (.iload_n 1, 1) := by decide +kernel
theorem dX1_tricksOf_21 : decode cX1_tricksOf 21 = .ok (.if_icmp .ne 6, 3) := by decide +kernel
theorem dX1_tricksOf_24 : decode cX1_tricksOf 24 = .ok (.iinc 2 1, 3) := by decide +kernel
theorem dX1_tricksOf_27 : decode cX1_tricksOf 27 = .ok (.iinc 3 1, 3) := by decide +kernel
theorem dX1_tricksOf_30 : decode cX1_tricksOf 30 = .ok (.goto (-26), 3) := by decide +kernel
theorem dX1_tricksOf_33 : decode cX1_tricksOf 33 = .ok (.iload_n 2, 1) := by decide +kernel
theorem dX1_tricksOf_34 : decode cX1_tricksOf 34 = .ok (.ireturn, 1) := by decide +kernel
theorem dX1_inHands_0 : decode cX1_inHands 0 = .ok (.iconst 0, 1) := by decide +kernel
theorem dX1_inHands_1 : decode cX1_inHands 1 = .ok (.istore_n 1, 1) := by decide +kernel
theorem dX1_inHands_2 : decode cX1_inHands 2 = .ok (.iconst 0, 1) := by decide +kernel
theorem dX1_inHands_3 : decode cX1_inHands 3 = .ok (.istore_n 2, 1) := by decide +kernel
theorem dX1_inHands_4 : decode cX1_inHands 4 = .ok (.iload_n 2, 1) := by decide +kernel
theorem dX1_inHands_5 : decode cX1_inHands 5 = .ok (.aload_n 0, 1) := by decide +kernel
theorem dX1_inHands_6 : decode cX1_inHands 6 = .ok (.getfield 9, 3) := by decide +kernel
theorem dX1_inHands_9 : decode cX1_inHands 9 = .ok (.arraylength, 1) := by decide +kernel
theorem dX1_inHands_10 : decode cX1_inHands 10 = .ok (.if_icmp .ge 18, 3) := by decide +kernel
theorem dX1_inHands_13 : decode cX1_inHands 13 = .ok (.iload_n 1, 1) := by decide +kernel
theorem dX1_inHands_14 : decode cX1_inHands 14 = .ok (.aload_n 0, 1) := by decide +kernel
theorem dX1_inHands_15 : decode cX1_inHands 15 = .ok (.getfield 9, 3) := by decide +kernel
theorem dX1_inHands_18 : decode cX1_inHands 18 = .ok (.iload_n 2, 1) := by decide +kernel
theorem dX1_inHands_19 : decode cX1_inHands 19 = .ok (.iaload, 1) := by decide +kernel
theorem dX1_inHands_20 : decode cX1_inHands 20 = .ok (.ior, 1) := by decide +kernel
theorem dX1_inHands_21 : decode cX1_inHands 21 = .ok (.istore_n 1, 1) := by decide +kernel
theorem dX1_inHands_22 : decode cX1_inHands 22 = .ok (.iinc 2 1, 3) := by decide +kernel
theorem dX1_inHands_25 : decode cX1_inHands 25 = .ok (.goto (-21), 3) := by decide +kernel
theorem dX1_inHands_28 : decode cX1_inHands 28 = .ok (.iload_n 1, 1) := by decide +kernel
theorem dX1_inHands_29 : decode cX1_inHands 29 = .ok (.ireturn, 1) := by decide +kernel
set_option maxRecDepth 20000 in
theorem ggX1_inTrickSet_X1_trickSize : GoodIn wsX1_inTrickSet wsX1_trickSize := goodIn_r _ [6, 1, 12, 13, 14, 15, 16, 17, 18, 19] (by decide +kernel) (by decide +kernel)
set_option maxRecDepth 20000 in
theorem gX1_inTrickSet_X1_trickSize : GoodIn wsX1_inTrickSet (wsV RX1 65 RX1 yX1_trickSize wsX1_trickSize) := goodIn_app (goodIn_of _ (by decide +kernel)) ggX1_inTrickSet_X1_trickSize
set_option maxRecDepth 20000 in
theorem ggX1_inTrickSet_X1_laidAt : GoodIn wsX1_inTrickSet wsX1_laidAt := goodIn_r _ [10, 11, 12, 13, 14, 15, 16, 17, 18, 19] (by decide +kernel) (by decide +kernel)
set_option maxRecDepth 20000 in
theorem gX1_inTrickSet_X1_laidAt : GoodIn wsX1_inTrickSet (wsV RX1 68 RX1 yX1_laidAt wsX1_laidAt) := goodIn_app (goodIn_of _ (by decide +kernel)) ggX1_inTrickSet_X1_laidAt
theorem dX1_inTrickSet_0 : decode cX1_inTrickSet 0 = .ok (.iconst 0, 1) := by decide +kernel
theorem dX1_inTrickSet_1 : decode cX1_inTrickSet 1 = .ok (.istore_n 1, 1) := by decide +kernel
theorem dX1_inTrickSet_2 : decode cX1_inTrickSet 2 = .ok (.aload_n 0, 1) := by decide +kernel
theorem dX1_inTrickSet_3 : decode cX1_inTrickSet 3 = .ok (.getfield 35, 3) := by decide +kernel
theorem dX1_inTrickSet_6 : decode cX1_inTrickSet 6 = .ok (.aload_n 0, 1) := by decide +kernel
theorem dX1_inTrickSet_7 : decode cX1_inTrickSet 7 = .ok (.invokevirtual 65, 3) := by decide +kernel
theorem dX1_inTrickSet_10 : decode cX1_inTrickSet 10 = .ok (.isub, 1) := by decide +kernel
theorem dX1_inTrickSet_11 : decode cX1_inTrickSet 11 = .ok (.istore_n 2, 1) := by decide +kernel
theorem dX1_inTrickSet_12 : decode cX1_inTrickSet 12 = .ok (.iload_n 2, 1) := by decide +kernel
theorem dX1_inTrickSet_13 : decode cX1_inTrickSet 13 = .ok (.aload_n 0, 1) := by decide +kernel
theorem dX1_inTrickSet_14 : decode cX1_inTrickSet 14 = .ok (.getfield 35, 3) := by decide +kernel
theorem dX1_inTrickSet_17 : decode cX1_inTrickSet 17 = .ok (.if_icmp .ge 19, 3) := by decide +kernel
theorem dX1_inTrickSet_20 : decode cX1_inTrickSet 20 = .ok (.iload_n 1, 1) := by decide +kernel
theorem dX1_inTrickSet_21 : decode cX1_inTrickSet 21 = .ok (.iconst 1, 1) := by decide +kernel
theorem dX1_inTrickSet_22 : decode cX1_inTrickSet 22 = .ok (.aload_n 0, 1) := by decide +kernel
theorem dX1_inTrickSet_23 : decode cX1_inTrickSet 23 = .ok (.iload_n 2, 1) := by decide +kernel
theorem dX1_inTrickSet_24 : decode cX1_inTrickSet 24 = .ok (.invokevirtual 68, 3) := by decide +kernel
theorem dX1_inTrickSet_27 : decode cX1_inTrickSet 27 = .ok (.ishl, 1) := by decide +kernel
theorem dX1_inTrickSet_28 : decode cX1_inTrickSet 28 = .ok (.ior, 1) := by decide +kernel
theorem dX1_inTrickSet_29 : decode cX1_inTrickSet 29 = .ok (.istore_n 1, 1) := by decide +kernel
theorem dX1_inTrickSet_30 : decode cX1_inTrickSet 30 = .ok (.iinc 2 1, 3) := by decide +kernel
theorem dX1_inTrickSet_33 : decode cX1_inTrickSet 33 = .ok (.goto (-21), 3) := by decide +kernel
theorem dX1_inTrickSet_36 : decode cX1_inTrickSet 36 = .ok (.iload_n 1, 1) := by decide +kernel
theorem dX1_inTrickSet_37 : decode cX1_inTrickSet 37 = .ok (.ireturn, 1) := by decide +kernel
set_option maxRecDepth 20000 in
theorem ggX1_out_X1_inHands : GoodIn wsX1_out wsX1_inHands := goodIn_r _ [6, 7, 22, 23, 24, 25, 26, 27, 28, 29] (by decide +kernel) (by decide +kernel)
set_option maxRecDepth 20000 in
theorem gX1_out_X1_inHands : GoodIn wsX1_out (wsV RX1 96 RX1 yX1_inHands wsX1_inHands) := goodIn_app (goodIn_of _ (by decide +kernel)) ggX1_out_X1_inHands
set_option maxRecDepth 20000 in
theorem ggX1_out_X1_inTrickSet : GoodIn wsX1_out wsX1_inTrickSet := goodIn_r _ [11, 12, 13, 14, 15, 5, 16, 17, 18, 19, 20, 21, 22, 23, 24, 25, 26, 27, 28, 29] (by decide +kernel) (by decide +kernel)
set_option maxRecDepth 20000 in
theorem gX1_out_X1_inTrickSet : GoodIn wsX1_out (wsV RX1 99 RX1 yX1_inTrickSet wsX1_inTrickSet) := goodIn_app (goodIn_of _ (by decide +kernel)) ggX1_out_X1_inTrickSet
theorem dX1_out_0 : decode cX1_out 0 = .ok (.ldc 95, 2) := by decide +kernel
theorem dX1_out_2 : decode cX1_out 2 = .ok (.aload_n 0, 1) := by decide +kernel
theorem dX1_out_3 : decode cX1_out 3 = .ok (.invokevirtual 96, 3) := by decide +kernel
theorem dX1_out_6 : decode cX1_out 6 = .ok (.aload_n 0, 1) := by decide +kernel
theorem dX1_out_7 : decode cX1_out 7 = .ok (.invokevirtual 99, 3) := by decide +kernel
theorem dX1_out_10 : decode cX1_out 10 = .ok (.ior, 1) := by decide +kernel
theorem dX1_out_11 : decode cX1_out 11 = .ok (.iconst (-1), 1) := by decide +kernel
theorem dX1_out_12 : decode cX1_out 12 = .ok (.ixor, 1) := by decide +kernel
theorem dX1_out_13 : decode cX1_out 13 = .ok (.iand, 1) := by decide +kernel
theorem dX1_out_14 : decode cX1_out 14 = .ok (.ireturn, 1) := by decide +kernel
set_option maxRecDepth 20000 in
theorem ggX1_ownerOf_X0_holds : GoodIn wsX1_ownerOf wsX0_holds := goodIn_r _ [5] (by decide +kernel) (by decide +kernel)
set_option maxRecDepth 20000 in
theorem gX1_ownerOf_X0_holds : GoodIn wsX1_ownerOf (va_wsS RX1 38 yX0_holds wsX0_holds) := goodIn_app (goodIn_of _ (by decide +kernel)) ggX1_ownerOf_X0_holds
theorem dX1_ownerOf_0 : decode cX1_ownerOf 0 = .ok (.iconst 0, 1) := by decide +kernel
theorem dX1_ownerOf_1 : decode cX1_ownerOf 1 = .ok (.istore_n 2, 1) := by decide +kernel
theorem dX1_ownerOf_2 : decode cX1_ownerOf 2 = .ok (.iload_n 2, 1) := by decide +kernel
theorem dX1_ownerOf_3 : decode cX1_ownerOf 3 = .ok (.aload_n 0, 1) := by decide +kernel
theorem dX1_ownerOf_4 : decode cX1_ownerOf 4 = .ok (.getfield 9, 3) := by decide +kernel
theorem dX1_ownerOf_7 : decode cX1_ownerOf 7 = .ok (.arraylength, 1) := by decide +kernel
theorem dX1_ownerOf_8 : decode cX1_ownerOf 8 = .ok (.if_icmp .ge 24, 3) := by decide +kernel
theorem dX1_ownerOf_11 : decode cX1_ownerOf 11 = .ok (.aload_n 0, 1) := by decide +kernel
theorem dX1_ownerOf_12 : decode cX1_ownerOf 12 = .ok (.getfield 9, 3) := by decide +kernel
theorem dX1_ownerOf_15 : decode cX1_ownerOf 15 = .ok (.iload_n 2, 1) := by decide +kernel
theorem dX1_ownerOf_16 : decode cX1_ownerOf 16 = .ok (.iaload, 1) := by decide +kernel
theorem dX1_ownerOf_17 : decode cX1_ownerOf 17 = .ok (.iload_n 1, 1) := by decide +kernel
theorem dX1_ownerOf_18 : decode cX1_ownerOf 18 = .ok (.invokestatic 38, 3) := by decide +kernel
theorem dX1_ownerOf_21 : decode cX1_ownerOf 21 = .ok (.ifCond .eq 5, 3) := by decide +kernel
theorem dX1_ownerOf_24 : decode cX1_ownerOf 24 = .ok (.iload_n 2, 1) := by decide +kernel
theorem dX1_ownerOf_25 : decode cX1_ownerOf 25 = .ok (.ireturn, 1) := by decide +kernel
theorem dX1_ownerOf_26 : decode cX1_ownerOf 26 = .ok (.iinc 2 1, 3) := by decide +kernel
theorem dX1_ownerOf_29 : decode cX1_ownerOf 29 = .ok (.goto (-27), 3) := by decide +kernel
theorem dX1_ownerOf_32 : decode cX1_ownerOf 32 = .ok (.iconst (-1), 1) := by decide +kernel
theorem dX1_ownerOf_33 : decode cX1_ownerOf 33 = .ok (.ireturn, 1) := by decide +kernel
set_option maxRecDepth 20000 in
theorem ggX1_betweenTricks_X1_inHands : GoodIn wsX1_betweenTricks wsX1_inHands := goodIn_r _ [5, 6, 17, 18, 19, 20, 21, 22, 23, 24] (by decide +kernel) (by decide +kernel)
set_option maxRecDepth 20000 in
theorem gX1_betweenTricks_X1_inHands : GoodIn wsX1_betweenTricks (wsV RX1 96 RX1 yX1_inHands wsX1_inHands) := goodIn_app (goodIn_of _ (by decide +kernel)) ggX1_betweenTricks_X1_inHands
set_option maxRecDepth 20000 in
theorem ggX1_betweenTricks_X1_tricksOver : GoodIn wsX1_betweenTricks wsX1_tricksOver := goodIn_r _ [10, 11, 17, 18, 19, 20, 21, 22, 23, 24] (by decide +kernel) (by decide +kernel)
set_option maxRecDepth 20000 in
theorem gX1_betweenTricks_X1_tricksOver : GoodIn wsX1_betweenTricks (wsV RX1 55 RX1 yX1_tricksOver wsX1_tricksOver) := goodIn_app (goodIn_of _ (by decide +kernel)) ggX1_betweenTricks_X1_tricksOver
set_option maxRecDepth 20000 in
theorem ggX1_betweenTricks_X1_leaderOf : GoodIn wsX1_betweenTricks wsX1_leaderOf := goodIn_r _ [15, 16, 17, 18, 19, 20, 21, 22, 23, 24] (by decide +kernel) (by decide +kernel)
set_option maxRecDepth 20000 in
theorem gX1_betweenTricks_X1_leaderOf : GoodIn wsX1_betweenTricks (wsV RX1 62 RX1 yX1_leaderOf wsX1_leaderOf) := goodIn_app (goodIn_of _ (by decide +kernel)) ggX1_betweenTricks_X1_leaderOf
theorem dX1_betweenTricks_0 : decode cX1_betweenTricks 0 = .ok (.aload_n 0, 1) := by decide +kernel
theorem dX1_betweenTricks_1 : decode cX1_betweenTricks 1 = .ok (.invokevirtual 96, 3) := by decide +kernel
theorem dX1_betweenTricks_4 : decode cX1_betweenTricks 4 = .ok (.aload_n 0, 1) := by decide +kernel
theorem dX1_betweenTricks_5 : decode cX1_betweenTricks 5 = .ok (.aload_n 0, 1) := by decide +kernel
theorem dX1_betweenTricks_6 : decode cX1_betweenTricks 6 = .ok (.invokevirtual 55, 3) := by decide +kernel
theorem dX1_betweenTricks_9 : decode cX1_betweenTricks 9 = .ok (.invokevirtual 62, 3) := by decide +kernel
theorem dX1_betweenTricks_12 : decode cX1_betweenTricks 12 = .ok (.bipush 24, 2) := by decide +kernel
theorem dX1_betweenTricks_14 : decode cX1_betweenTricks 14 = .ok (.ishl, 1) := by decide +kernel
theorem dX1_betweenTricks_15 : decode cX1_betweenTricks 15 = .ok (.ior, 1) := by decide +kernel
theorem dX1_betweenTricks_16 : decode cX1_betweenTricks 16 = .ok (.ireturn, 1) := by decide +kernel
theorem dX2_init_0 : decode cX2_init 0 = .ok (.aload_n 0, 1) := by decide +kernel
theorem dX2_init_1 : decode cX2_init 1 = .ok (.invokespecial 3, 3) := by decide +kernel
theorem dX2_init_4 : decode cX2_init 4 = .ok (.aload_n 0, 1) := by decide +kernel
theorem dX2_init_5 : decode cX2_init 5 = .ok (.sipush 1024, 3) := by decide +kernel
theorem dX2_init_8 : decode cX2_init 8 = .ok (.newarray .int, 2) := by decide +kernel
theorem dX2_init_10 : decode cX2_init 10 = .ok (.putfield 9, 3) := by decide +kernel
theorem dX2_init_13 : decode cX2_init 13 = .ok (.return_, 1) := by decide +kernel
theorem dX2_clear_0 : decode cX2_clear 0 = .ok (.iconst 0, 1) := by decide +kernel
theorem dX2_clear_1 : decode cX2_clear 1 = .ok (.istore_n 1, 1) := by decide +kernel
theorem dX2_clear_2 : decode cX2_clear 2 = .ok (.iload_n 1, 1) := by decide +kernel
theorem dX2_clear_3 : decode cX2_clear 3 = .ok (.aload_n 0, 1) := by decide +kernel
theorem dX2_clear_4 : decode cX2_clear 4 = .ok (.getfield 9, 3) := by decide +kernel
theorem dX2_clear_7 : decode cX2_clear 7 = .ok (.arraylength, 1) := by decide +kernel
theorem dX2_clear_8 : decode cX2_clear 8 = .ok (.if_icmp .ge 16, 3) := by decide +kernel
theorem dX2_clear_11 : decode cX2_clear 11 = .ok (.aload_n 0, 1) := by decide +kernel
theorem dX2_clear_12 : decode cX2_clear 12 = .ok (.getfield 9, 3) := by decide +kernel
theorem dX2_clear_15 : decode cX2_clear 15 = .ok (.iload_n 1, 1) := by decide +kernel
theorem dX2_clear_16 : decode cX2_clear 16 = .ok (.iconst 0, 1) := by decide +kernel
theorem dX2_clear_17 : decode cX2_clear 17 = .ok (.iastore, 1) := by decide +kernel
theorem dX2_clear_18 : decode cX2_clear 18 = .ok (.iinc 1 1, 3) := by decide +kernel
theorem dX2_clear_21 : decode cX2_clear 21 = .ok (.goto (-19), 3) := by decide +kernel
theorem dX2_clear_24 : decode cX2_clear 24 = .ok (.return_, 1) := by decide +kernel
set_option maxRecDepth 20000 in
theorem ggX2_leastAt_X2_entryOf : GoodIn wsX2_leastAt wsX2_entryOf := goodIn_r _ [5, 6, 7, 8, 4, 9, 10, 11] (by decide +kernel) (by decide +kernel)
set_option maxRecDepth 20000 in
theorem gX2_leastAt_X2_entryOf : GoodIn wsX2_leastAt (wsV RX2 13 RX2 yX2_entryOf wsX2_entryOf) := goodIn_app (goodIn_of _ (by decide +kernel)) ggX2_leastAt_X2_entryOf
theorem dX2_leastAt_0 : decode cX2_leastAt 0 = .ok (.aload_n 0, 1) := by decide +kernel
theorem dX2_leastAt_1 : decode cX2_leastAt 1 = .ok (.iload_n 1, 1) := by decide +kernel
theorem dX2_leastAt_2 : decode cX2_leastAt 2 = .ok (.invokevirtual 13, 3) := by decide +kernel
theorem dX2_leastAt_5 : decode cX2_leastAt 5 = .ok (.bipush 7, 2) := by decide +kernel
theorem dX2_leastAt_7 : decode cX2_leastAt 7 = .ok (.iand, 1) := by decide +kernel
theorem dX2_leastAt_8 : decode cX2_leastAt 8 = .ok (.ireturn, 1) := by decide +kernel
set_option maxRecDepth 20000 in
theorem ggX2_mostAt_X2_entryOf : GoodIn wsX2_mostAt wsX2_entryOf := goodIn_r _ [5, 6, 7, 8, 4, 9, 10, 11] (by decide +kernel) (by decide +kernel)
set_option maxRecDepth 20000 in
theorem gX2_mostAt_X2_entryOf : GoodIn wsX2_mostAt (wsV RX2 13 RX2 yX2_entryOf wsX2_entryOf) := goodIn_app (goodIn_of _ (by decide +kernel)) ggX2_mostAt_X2_entryOf
theorem dX2_mostAt_0 : decode cX2_mostAt 0 = .ok (.aload_n 0, 1) := by decide +kernel
theorem dX2_mostAt_1 : decode cX2_mostAt 1 = .ok (.iload_n 1, 1) := by decide +kernel
theorem dX2_mostAt_2 : decode cX2_mostAt 2 = .ok (.invokevirtual 13, 3) := by decide +kernel
theorem dX2_mostAt_5 : decode cX2_mostAt 5 = .ok (.istore_n 3, 1) := by decide +kernel
theorem dX2_mostAt_6 : decode cX2_mostAt 6 = .ok (.iload_n 3, 1) := by decide +kernel
theorem dX2_mostAt_7 : decode cX2_mostAt 7 = .ok (.ifCond .ne 7, 3) := by decide +kernel
theorem dX2_mostAt_10 : decode cX2_mostAt 10 = .ok (.iload_n 2, 1) := by decide +kernel
theorem dX2_mostAt_11 : decode cX2_mostAt 11 = .ok (.goto 9, 3) := by decide +kernel
theorem dX2_mostAt_14 : decode cX2_mostAt 14 = .ok (.iload_n 3, 1) := by decide +kernel
