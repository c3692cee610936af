theorem dX4_worthOf_59 : decode cX4_worthOf 59 = .ok (.ifCond .ne 8, 3) := by decide +kernel
theorem dX4_worthOf_62 : decode cX4_worthOf 62 = .ok (.iload 5, 2) := by decide +kernel
theorem dX4_worthOf_64 : decode cX4_worthOf 64 = .ok (.goto 7, 3) := by decide +kernel
theorem dX4_worthOf_67 : decode cX4_worthOf 67 = .ok (.iload_n 2, 1) := by decide +kernel
theorem dX4_worthOf_68 : decode cX4_worthOf 68 = .ok (.iload 5, 2) := by decide +kernel
theorem dX4_worthOf_70 : decode cX4_worthOf 70 = .ok (.isub, 1) := by decide +kernel
theorem dX4_worthOf_71 : decode cX4_worthOf 71 = .ok (.ireturn, 1) := by decide +kernel
set_option maxRecDepth 20000 in
theorem ggX4_bestPlay_X1_playable : GoodIn wsX4_bestPlay wsX1_playable := goodIn_r _ [6, 7, 8, 9, 5, 10, 11, 12, 13, 14, 15, 16, 17, 18, 19, 20, 21, 22, 23, 24, 25, 26, 27, 28, 29, 30, 31, 32, 33, 34, 35, 36, 37, 38, 39, 40, 41, 42, 43, 44, 45, 46, 47, 48, 49, 50, 51, 177, 178, 179, 180, 181, 182, 183, 184] (by decide +kernel) (by decide +kernel)
set_option maxRecDepth 20000 in
theorem gX4_bestPlay_X1_playable : GoodIn wsX4_bestPlay (wsV RX4 54 RX1 yX1_playable wsX1_playable) := goodIn_app (goodIn_of _ (by decide +kernel)) ggX4_bestPlay_X1_playable
set_option maxRecDepth 20000 in
theorem ggX4_bestPlay_X1_out : GoodIn wsX4_bestPlay wsX1_out := goodIn_r _ [55, 56, 57, 58, 59, 5, 60, 35, 61, 62, 63, 64, 17, 27, 28, 29, 30, 40, 41, 42, 43, 44, 177, 178, 179, 180, 181, 182, 183, 184] (by decide +kernel) (by decide +kernel)
set_option maxRecDepth 20000 in
theorem gX4_bestPlay_X1_out : GoodIn wsX4_bestPlay (wsV RX4 57 RX1 yX1_out wsX1_out) := goodIn_app (goodIn_of _ (by decide +kernel)) ggX4_bestPlay_X1_out
set_option maxRecDepth 20000 in
theorem ggX4_bestPlay_X0_lowestOfEquals : GoodIn wsX4_bestPlay wsX0_lowestOfEquals := goodIn_r _ [67, 68, 69, 47, 70, 71, 72, 73, 74, 75, 76, 77, 78, 79, 46, 48, 80, 81, 82] (by decide +kernel) (by decide +kernel)
set_option maxRecDepth 20000 in
theorem gX4_bestPlay_X0_lowestOfEquals : GoodIn wsX4_bestPlay (va_wsS RX4 60 yX0_lowestOfEquals wsX0_lowestOfEquals) := goodIn_app (goodIn_of _ (by decide +kernel)) ggX4_bestPlay_X0_lowestOfEquals
set_option maxRecDepth 20000 in
theorem ggX4_bestPlay_X0_lowest : GoodIn wsX4_bestPlay wsX0_lowest := goodIn_r _ [70, 71, 72, 73, 74, 75] (by decide +kernel) (by decide +kernel)
set_option maxRecDepth 20000 in
theorem gX4_bestPlay_X0_lowest : GoodIn wsX4_bestPlay (va_wsS RX4 64 yX0_lowest wsX0_lowest) := goodIn_app (goodIn_of _ (by decide +kernel)) ggX4_bestPlay_X0_lowest
set_option maxRecDepth 20000 in
theorem ggX4_bestPlay_X4_worthOf : GoodIn wsX4_bestPlay wsX4_worthOf := goodIn_r _ [88, 1, 89, 90, 91, 5, 92, 16, 18, 19, 20, 21, 17, 93, 8, 9, 10, 11, 12, 13, 14, 15, 22, 23, 24, 25, 26, 27, 28, 29, 30, 94, 95, 47, 96, 97, 98, 99, 100, 44, 7, 101, 102, 103, 104, 35, 105, 106, 107, 108, 40, 41, 42, 43, 109, 110, 111, 112, 113, 114, 115, 87, 116, 117, 118, 119, 120, 121, 122, 123, 124, 125, 126, 127, 128, 129, 130, 131, 132, 133, 134, 135, 136, 137, 57, 58, 59, 60, 138, 139, 140, 141, 142, 143, 144, 145, 146, 147, 148, 149, 150, 151, 152, 153, 154, 155, 156, 157, 158, 159, 160, 2, 3, 4, 6, 31, 32, 33, 34, 36, 37, 38, 39, 45, 46, 48, 49, 50, 51, 52, 53, 54, 55, 56, 61, 62, 63, 64, 65, 66, 67, 68, 69, 70, 71, 72, 73, 74, 75, 76, 77, 78, 79, 80, 81, 82, 161, 162, 163, 164, 165, 166, 167, 168, 169, 170, 171, 172, 173, 174, 175, 176, 177, 178, 179, 180, 181, 182, 183, 184, 185] (by decide +kernel) (by decide +kernel)
set_option maxRecDepth 20000 in
theorem gX4_bestPlay_X4_worthOf : GoodIn wsX4_bestPlay (wsV RX4 67 RX4 yX4_worthOf wsX4_worthOf) := goodIn_app (goodIn_of _ (by decide +kernel)) ggX4_bestPlay_X4_worthOf
theorem dX4_bestPlay_0 : decode cX4_bestPlay 0 = .ok (.aload_n 0, 1) := by decide +kernel
theorem dX4_bestPlay_1 : decode cX4_bestPlay 1 = .ok (.getfield 7, 3) := by decide +kernel
theorem dX4_bestPlay_4 : decode cX4_bestPlay 4 = .ok (.invokevirtual 54, 3) := by decide +kernel
theorem dX4_bestPlay_7 : decode cX4_bestPlay 7 = .ok (.aload_n 0, 1) := by decide +kernel
theorem dX4_bestPlay_8 : decode cX4_bestPlay 8 = .ok (.getfield 7, 3) := by decide +kernel
theorem dX4_bestPlay_11 : decode cX4_bestPlay 11 = .ok (.invokevirtual 57, 3) := by decide +kernel
theorem dX4_bestPlay_14 : decode cX4_bestPlay 14 = .ok (.invokestatic 60, 3) := by decide +kernel
theorem dX4_bestPlay_17 : decode cX4_bestPlay 17 = .ok (.istore_n 1, 1) := by decide +kernel
theorem dX4_bestPlay_18 : decode cX4_bestPlay 18 = .ok (.iconst (-1), 1) := by decide +kernel
theorem dX4_bestPlay_19 : decode cX4_bestPlay 19 = .ok (.istore_n 2, 1) := by decide +kernel
theorem dX4_bestPlay_20 : decode cX4_bestPlay 20 = .ok (.iconst (-1), 1) := by decide +kernel
theorem dX4_bestPlay_21 : decode cX4_bestPlay 21 = .ok (.istore_n 3, 1) := by decide +kernel
theorem dX4_bestPlay_22 : decode cX4_bestPlay 22 = .ok (.iconst 0, 1) := by decide +kernel
theorem dX4_bestPlay_23 : decode cX4_bestPlay 23 = .ok (.istore 4, 2) := by decide +kernel
theorem dX4_bestPlay_25 : decode cX4_bestPlay 25 = .ok (.iload 4, 2) := by decide +kernel
theorem dX4_bestPlay_27 : decode cX4_bestPlay 27 = .ok (.iconst 4, 1) := by decide +kernel
theorem dX4_bestPlay_28 : decode cX4_bestPlay 28 = .ok (.if_icmp .ge 48, 3) := by decide +kernel
theorem dX4_bestPlay_31 : decode cX4_bestPlay 31 = .ok (.iload_n 1, 1) := by decide +kernel
theorem dX4_bestPlay_32 : decode cX4_bestPlay 32 = .ok (.ifCond .eq 44, 3) := by decide +kernel
theorem dX4_bestPlay_35 : decode cX4_bestPlay 35 = .ok (.iload_n 1, 1) := by decide +kernel
theorem dX4_bestPlay_36 : decode cX4_bestPlay 36 = .ok (.invokestatic 64, 3) := by decide +kernel
theorem dX4_bestPlay_39 : decode cX4_bestPlay 39 = .ok (.istore 5, 2) := by decide +kernel
theorem dX4_bestPlay_41 : decode cX4_bestPlay 41 = .ok (.iload_n 1, 1) := by decide +kernel
theorem dX4_bestPlay_42 : decode cX4_bestPlay 42 = .ok (.iconst 1, 1) := by decide +kernel
theorem dX4_bestPlay_43 : decode cX4_bestPlay 43 = .ok (.iload 5, 2) := by decide +kernel
theorem dX4_bestPlay_45 : decode cX4_bestPlay 45 = .ok (.ishl, 1) := by decide +kernel
theorem dX4_bestPlay_46 : decode cX4_bestPlay 46 = .ok (.iconst (-1), 1) := by decide +kernel
theorem dX4_bestPlay_47 : decode cX4_bestPlay 47 = .ok (.ixor, 1) := by decide +kernel
theorem dX4_bestPlay_48 : decode cX4_bestPlay 48 = .ok (.iand, 1) := by decide +kernel
theorem dX4_bestPlay_49 : decode cX4_bestPlay 49 = .ok (.istore_n 1, 1) := by decide +kernel
theorem dX4_bestPlay_50 : decode cX4_bestPlay 50 = .ok (.aload_n 0, 1) := by decide +kernel
theorem dX4_bestPlay_51 : decode cX4_bestPlay 51 = .ok (.iload 5, 2) := by decide +kernel
theorem dX4_bestPlay_53 : decode cX4_bestPlay 53 = .ok (.invokevirtual 67, 3) := by decide +kernel
theorem dX4_bestPlay_56 : decode cX4_bestPlay 56 = .ok (.istore 6, 2) := by decide +kernel
theorem dX4_bestPlay_58 : decode cX4_bestPlay 58 = .ok (.iload 6, 2) := by decide +kernel
theorem dX4_bestPlay_60 : decode cX4_bestPlay 60 = .ok (.iload_n 3, 1) := by decide +kernel
theorem dX4_bestPlay_61 : decode cX4_bestPlay 61 = .ok (.if_icmp .le 9, 3) := by decide +kernel
theorem dX4_bestPlay_64 : decode cX4_bestPlay 64 = .ok (.iload 6, 2) := by decide +kernel
theorem dX4_bestPlay_66 : decode cX4_bestPlay 66 = .ok (.istore_n 3, 1) := by decide +kernel
theorem dX4_bestPlay_67 : decode cX4_bestPlay 67 = .ok (.iload 5, 2) := by decide +kernel
theorem dX4_bestPlay_69 : decode cX4_bestPlay 69 = .ok (.istore_n 2, 1) := by decide +kernel
theorem dX4_bestPlay_70 : decode cX4_bestPlay 70 = .ok (.iinc 4 1, 3) := by decide +kernel
theorem dX4_bestPlay_73 : decode cX4_bestPlay 73 = .ok (.goto (-48), 3) := by decide +kernel
theorem dX4_bestPlay_76 : decode cX4_bestPlay 76 = .ok (.iload_n 2, 1) := by decide +kernel
theorem dX4_bestPlay_77 : decode cX4_bestPlay 77 = .ok (.ireturn, 1) := by decide +kernel
set_option maxRecDepth 20000 in
theorem ggX4_gainOf_X0_sideOf : GoodIn wsX4_gainOf wsX0_sideOf := goodIn_r _ [4] (by decide +kernel) (by decide +kernel)
set_option maxRecDepth 20000 in
theorem gX4_gainOf_X0_sideOf : GoodIn wsX4_gainOf (va_wsS RX4 39 yX0_sideOf wsX0_sideOf) := goodIn_app (goodIn_of _ (by decide +kernel)) ggX4_gainOf_X0_sideOf
theorem dX4_gainOf_0 : decode cX4_gainOf 0 = .ok (.iload_n 0, 1) := by decide +kernel
theorem dX4_gainOf_1 : decode cX4_gainOf 1 = .ok (.iconst (-1), 1) := by decide +kernel
theorem dX4_gainOf_2 : decode cX4_gainOf 2 = .ok (.if_icmp .eq 14, 3) := by decide +kernel
theorem dX4_gainOf_5 : decode cX4_gainOf 5 = .ok (.iload_n 0, 1) := by decide +kernel
theorem dX4_gainOf_6 : decode cX4_gainOf 6 = .ok (.invokestatic 39, 3) := by decide +kernel
theorem dX4_gainOf_9 : decode cX4_gainOf 9 = .ok (.ifCond .ne 7, 3) := by decide +kernel
theorem dX4_gainOf_12 : decode cX4_gainOf 12 = .ok (.iconst 1, 1) := by decide +kernel
theorem dX4_gainOf_13 : decode cX4_gainOf 13 = .ok (.goto 4, 3) := by decide +kernel
theorem dX4_gainOf_16 : decode cX4_gainOf 16 = .ok (.iconst 0, 1) := by decide +kernel
theorem dX4_gainOf_17 : decode cX4_gainOf 17 = .ok (.ireturn, 1) := by decide +kernel
set_option maxRecDepth 20000 in
theorem ggX4_search_X1_trickSize : GoodIn wsX4_search wsX1_trickSize := goodIn_r _ [14, 15, 166, 167, 168, 169, 170, 171, 172, 173] (by decide +kernel) (by decide +kernel)
set_option maxRecDepth 20000 in
theorem gX4_search_X1_trickSize : GoodIn wsX4_search (wsV RX4 70 RX1 yX1_trickSize wsX1_trickSize) := goodIn_app (goodIn_of _ (by decide +kernel)) ggX4_search_X1_trickSize
set_option maxRecDepth 20000 in
theorem ggX4_search_X4_tryPlays : GoodIn wsX4_search wsX4_tryPlays := goodIn_r _ [60, 1, 3, 4, 5, 6, 7, 8, 9, 61, 62, 63, 13, 64, 65, 66, 67, 68, 69, 70, 15, 29, 30, 31, 32, 33, 34, 35, 36, 37, 71, 11, 12, 14, 72, 73, 74, 75, 76, 77, 78, 79, 80, 81, 82, 83, 84, 28, 85, 86, 87, 88, 89, 90, 91, 92, 93, 94, 95, 96, 97, 98, 99, 100, 101, 102, 103, 104, 24, 25, 26, 27, 105, 106, 107, 108, 109, 110, 111, 112, 113, 114, 115, 116, 117, 118, 119, 120, 121, 122, 123, 124, 125, 126, 127, 128, 129, 130, 131, 132, 133, 134, 135, 136, 137, 138, 139, 140, 141, 142, 143, 144, 145, 146, 147, 148, 149, 150, 151, 19, 152, 153, 154, 155, 156, 157, 158, 159, 160, 161, 162, 163, 0, 2, 10, 16, 17, 18, 20, 21, 22, 23, 38, 39, 40, 41, 42, 43, 44, 45, 46, 47, 48, 49, 50, 51, 52, 53, 54, 55, 56, 57, 58, 59, 164, 165, 166, 167, 168, 169, 170, 171, 172, 173, 174] (by decide +kernel) (by decide +kernel)
set_option maxRecDepth 20000 in
theorem gX4_search_X4_tryPlays : GoodIn wsX4_search (wsV RX4 73 RX4 yX4_tryPlays wsX4_tryPlays) := goodIn_app (goodIn_of _ (by decide +kernel)) ggX4_search_X4_tryPlays
set_option maxRecDepth 20000 in
theorem ggX4_search_X1_betweenTricks : GoodIn wsX4_search wsX1_betweenTricks := goodIn_r _ [23, 24, 25, 26, 13, 27, 28, 29, 30, 31, 32, 15, 33, 34, 35, 36, 37, 166, 167, 168, 169, 170, 171, 172, 173] (by decide +kernel) (by decide +kernel)
set_option maxRecDepth 20000 in
theorem gX4_search_X1_betweenTricks : GoodIn wsX4_search (wsV RX4 76 RX1 yX1_betweenTricks wsX1_betweenTricks) := goodIn_app (goodIn_of _ (by decide +kernel)) ggX4_search_X1_betweenTricks
set_option maxRecDepth 20000 in
theorem ggX4_search_X2_leastAt : GoodIn wsX4_search wsX2_leastAt := goodIn_r _ [42, 43, 44, 45, 41, 46, 47, 48, 49, 50, 51, 174] (by decide +kernel) (by decide +kernel)
set_option maxRecDepth 20000 in
theorem gX4_search_X2_leastAt : GoodIn wsX4_search (wsV RX4 79 RX2 yX2_leastAt wsX2_leastAt) := goodIn_app (goodIn_of _ (by decide +kernel)) ggX4_search_X2_leastAt
set_option maxRecDepth 20000 in
theorem ggX4_search_X2_mostAt : GoodIn wsX4_search wsX2_mostAt := goodIn_r _ [55, 43, 44, 45, 41, 46, 47, 48, 49, 50, 51, 174] (by decide +kernel) (by decide +kernel)
set_option maxRecDepth 20000 in
theorem gX4_search_X2_mostAt : GoodIn wsX4_search (wsV RX4 82 RX2 yX2_mostAt wsX2_mostAt) := goodIn_app (goodIn_of _ (by decide +kernel)) ggX4_search_X2_mostAt
set_option maxRecDepth 20000 in
theorem ggX4_search_X2_put : GoodIn wsX4_search wsX2_put := goodIn_r _ [59, 47, 48, 49, 41, 50, 51, 174] (by decide +kernel) (by decide +kernel)
set_option maxRecDepth 20000 in
theorem gX4_search_X2_put : GoodIn wsX4_search (wsV RX4 93 RX2 yX2_put wsX2_put) := goodIn_app (goodIn_of _ (by decide +kernel)) ggX4_search_X2_put
theorem dX4_search_0 : decode cX4_search 0 = .ok (.iload_n 1, 1) := by decide +kernel
theorem dX4_search_1 : decode cX4_search 1 = .ok (.ifCond .gt 5, 3) := by decide +kernel
theorem dX4_search_4 : decode cX4_search 4 = .ok (.iconst 0, 1) := by decide +kernel
theorem dX4_search_5 : decode cX4_search 5 = .ok (.ireturn, 1) := by decide +kernel
theorem dX4_search_6 : decode cX4_search 6 = .ok (.aload_n 0, 1) := by decide +kernel
theorem dX4_search_7 : decode cX4_search 7 = .ok (.getfield 7, 3) := by decide +kernel
theorem dX4_search_10 : decode cX4_search 10 = .ok (.invokevirtual 70, 3) := by decide +kernel
theorem dX4_search_13 : decode cX4_search 13 = .ok (.ifCond .eq 11, 3) := by decide +kernel
theorem dX4_search_16 : decode cX4_search 16 = .ok (.aload_n 0, 1) := by decide +kernel
theorem dX4_search_17 : decode cX4_search 17 = .ok (.iload_n 1, 1) := by decide +kernel
theorem dX4_search_18 : decode cX4_search 18 = .ok (.iload_n 2, 1) := by decide +kernel
theorem dX4_search_19 : decode cX4_search 19 = .ok (.iload_n 3, 1) := by decide +kernel
theorem dX4_search_20 : decode cX4_search 20 = .ok (.invokevirtual 73, 3) := by decide +kernel
theorem dX4_search_23 : decode cX4_search 23 = .ok (.ireturn, 1) := by decide +kernel
theorem dX4_search_24 : decode cX4_search 24 = .ok (.aload_n 0, 1) := by decide +kernel
theorem dX4_search_25 : decode cX4_search 25 = .ok (.getfield 7, 3) := by decide +kernel
theorem dX4_search_28 : decode cX4_search 28 = .ok (.invokevirtual 76, 3) := by decide +kernel
theorem dX4_search_31 : decode cX4_search 31 = .ok (.istore 4, 2) := by decide +kernel
theorem dX4_search_33 : decode cX4_search 33 = .ok (.aload_n 0, 1) := by decide +kernel
theorem dX4_search_34 : decode cX4_search 34 = .ok (.getfield 16, 3) := by decide +kernel
theorem dX4_search_37 : decode cX4_search 37 = .ok (.iload 4, 2) := by decide +kernel
theorem dX4_search_39 : decode cX4_search 39 = .ok (.invokevirtual 79, 3) := by decide +kernel
theorem dX4_search_42 : decode cX4_search 42 = .ok (.istore 5, 2) := by decide +kernel
theorem dX4_search_44 : decode cX4_search 44 = .ok (.aload_n 0, 1) := by decide +kernel
theorem dX4_search_45 : decode cX4_search 45 = .ok (.getfield 16, 3) := by decide +kernel
theorem dX4_search_48 : decode cX4_search 48 = .ok (.iload 4, 2) := by decide +kernel
theorem dX4_search_50 : decode cX4_search 50 = .ok (.iload_n 1, 1) := by decide +kernel
theorem dX4_search_51 : decode cX4_search 51 = .ok (.iconst 4, 1) := by decide +kernel
theorem dX4_search_52 : decode cX4_search 52 = .ok (.idiv, 1) := by decide +kernel
theorem dX4_search_53 : decode cX4_search 53 = .ok (.invokevirtual 82, 3) := by decide +kernel
theorem dX4_search_56 : decode cX4_search 56 = .ok (.istore 6, 2) := by decide +kernel
theorem dX4_search_58 : decode cX4_search 58 = .ok (.iload 5, 2) := by decide +kernel
theorem dX4_search_60 : decode cX4_search 60 = .ok (.iload_n 3, 1) := by decide +kernel
theorem dX4_search_61 : decode cX4_search 61 = .ok (.if_icmp .ge 10, 3) := by decide +kernel
theorem dX4_search_64 : decode cX4_search 64 = .ok (.iload 5, 2) := by decide +kernel
theorem dX4_search_66 : decode cX4_search 66 = .ok (.iload 6, 2) := by decide +kernel
theorem dX4_search_68 : decode cX4_search 68 = .ok (.if_icmp .ne 6, 3) := by decide +kernel
theorem dX4_search_71 : decode cX4_search 71 = .ok (.iload 5, 2) := by decide +kernel
theorem dX4_search_73 : decode cX4_search 73 = .ok (.ireturn, 1) := by decide +kernel
theorem dX4_search_74 : decode cX4_search 74 = .ok (.iload 6, 2) := by decide +kernel
theorem dX4_search_76 : decode cX4_search 76 = .ok (.iload_n 2, 1) := by decide +kernel
theorem dX4_search_77 : decode cX4_search 77 = .ok (.if_icmp .gt 6, 3) := by decide +kernel
theorem dX4_search_80 : decode cX4_search 80 = .ok (.iload 6, 2) := by decide +kernel
theorem dX4_search_82 : decode cX4_search 82 = .ok (.ireturn, 1) := by decide +kernel
theorem dX4_search_83 : decode cX4_search 83 = .ok (.iload_n 2, 1) := by decide +kernel
theorem dX4_search_84 : decode cX4_search 84 = .ok (.iload 5, 2) := by decide +kernel
theorem dX4_search_86 : decode cX4_search 86 = .ok (.invokestatic 85, 3) := by decide +kernel
theorem dX4_search_89 : decode cX4_search 89 = .ok (.istore 7, 2) := by decide +kernel
theorem dX4_search_91 : decode cX4_search 91 = .ok (.iload_n 3, 1) := by decide +kernel
theorem dX4_search_92 : decode cX4_search 92 = .ok (.iload 6, 2) := by decide +kernel
theorem dX4_search_94 : decode cX4_search 94 = .ok (.invokestatic 90, 3) := by decide +kernel
theorem dX4_search_97 : decode cX4_search 97 = .ok (.istore 8, 2) := by decide +kernel
theorem dX4_search_99 : decode cX4_search 99 = .ok (.aload_n 0, 1) := by decide +kernel
theorem dX4_search_100 : decode cX4_search 100 = .ok (.iload_n 1, 1) := by decide +kernel
theorem dX4_search_101 : decode cX4_search 101 = .ok (.iload 7, 2) := by decide +kernel
theorem dX4_search_103 : decode cX4_search 103 = .ok (.iload 8, 2) := by decide +kernel
theorem dX4_search_105 : decode cX4_search 105 = .ok (.invokevirtual 73, 3) := by decide +kernel
theorem dX4_search_108 : decode cX4_search 108 = .ok (.istore 9, 2) := by decide +kernel
theorem dX4_search_110 : decode cX4_search 110 = .ok (.aload_n 0, 1) := by decide +kernel
theorem dX4_search_111 : decode cX4_search 111 = .ok (.getfield 16, 3) := by decide +kernel
theorem dX4_search_114 : decode cX4_search 114 = .ok (.iload 4, 2) := by decide +kernel
theorem dX4_search_116 : decode cX4_search 116 = .ok (.iload 9, 2) := by decide +kernel
theorem dX4_search_118 : decode cX4_search 118 = .ok (.iload 7, 2) := by decide +kernel
theorem dX4_search_120 : decode cX4_search 120 = .ok (.if_icmp .le 8, 3) := by decide +kernel
theorem dX4_search_123 : decode cX4_search 123 = .ok (.iload 9, 2) := by decide +kernel
theorem dX4_search_125 : decode cX4_search 125 = .ok (.goto 5, 3) := by decide +kernel
theorem dX4_search_128 : decode cX4_search 128 = .ok (.iload 5, 2) := by decide +kernel
theorem dX4_search_130 : decode cX4_search 130 = .ok (.iload 9, 2) := by decide +kernel
theorem dX4_search_132 : decode cX4_search 132 = .ok (.iload 8, 2) := by decide +kernel
theorem dX4_search_134 : decode cX4_search 134 = .ok (.if_icmp .ge 8, 3) := by decide +kernel
theorem dX4_search_137 : decode cX4_search 137 = .ok (.iload 9, 2) := by decide +kernel
theorem dX4_search_139 : decode cX4_search 139 = .ok (.goto 5, 3) := by decide +kernel
theorem dX4_search_142 : decode cX4_search 142 = .ok (.iload 6, 2) := by decide +kernel
theorem dX4_search_144 : decode cX4_search 144 = .ok (.invokevirtual 93, 3) := by decide +kernel
theorem dX4_search_147 : decode cX4_search 147 = .ok (.iload 9, 2) := by decide +kernel
theorem dX4_search_149 : decode cX4_search 149 = .ok (.ireturn, 1) := by decide +kernel
set_option maxRecDepth 20000 in
theorem ggX4_tryPlays_X1_mover : GoodIn wsX4_tryPlays wsX1_mover := goodIn_r _ [13, 14, 15, 16, 17, 12, 18, 19, 20, 21, 22, 23, 24, 25, 26, 27, 28, 29, 30, 31, 32, 33, 166, 167, 168, 169, 170, 171, 172, 173] (by decide +kernel) (by decide +kernel)
set_option maxRecDepth 20000 in
theorem gX4_tryPlays_X1_mover : GoodIn wsX4_tryPlays (wsV RX4 36 RX1 yX1_mover wsX1_mover) := goodIn_app (goodIn_of _ (by decide +kernel)) ggX4_tryPlays_X1_mover
set_option maxRecDepth 20000 in
theorem ggX4_tryPlays_X0_sideOf : GoodIn wsX4_tryPlays wsX0_sideOf := goodIn_r _ [37] (by decide +kernel) (by decide +kernel)
set_option maxRecDepth 20000 in
theorem gX4_tryPlays_X0_sideOf : GoodIn wsX4_tryPlays (va_wsS RX4 39 yX0_sideOf wsX0_sideOf) := goodIn_app (goodIn_of _ (by decide +kernel)) ggX4_tryPlays_X0_sideOf
set_option maxRecDepth 20000 in
theorem ggX4_tryPlays_X1_playable : GoodIn wsX4_tryPlays wsX1_playable := goodIn_r _ [41, 42, 10, 11, 12, 13, 14, 15, 16, 17, 18, 19, 20, 21, 22, 23, 24, 25, 26, 27, 28, 29, 30, 31, 32, 33, 43, 44, 45, 46, 47, 48, 49, 50, 51, 52, 53, 54, 55, 56, 57, 58, 36, 59, 60, 61, 62, 166, 167, 168, 169, 170, 171, 172, 173] (by decide +kernel) (by decide +kernel)
set_option maxRecDepth 20000 in
theorem gX4_tryPlays_X1_playable : GoodIn wsX4_tryPlays (wsV RX4 54 RX1 yX1_playable wsX1_playable) := goodIn_app (goodIn_of _ (by decide +kernel)) ggX4_tryPlays_X1_playable
set_option maxRecDepth 20000 in
theorem ggX4_tryPlays_X1_out : GoodIn wsX4_tryPlays wsX1_out := goodIn_r _ [66, 67, 68, 69, 70, 12, 71, 47, 72, 73, 74, 75, 20, 30, 31, 32, 33, 52, 53, 54, 55, 56, 166, 167, 168, 169, 170, 171, 172, 173] (by decide +kernel) (by decide +kernel)
set_option maxRecDepth 20000 in
theorem gX4_tryPlays_X1_out : GoodIn wsX4_tryPlays (wsV RX4 57 RX1 yX1_out wsX1_out) := goodIn_app (goodIn_of _ (by decide +kernel)) ggX4_tryPlays_X1_out
set_option maxRecDepth 20000 in
theorem ggX4_tryPlays_X0_lowestOfEquals : GoodIn wsX4_tryPlays wsX0_lowestOfEquals := goodIn_r _ [78, 79, 80, 36, 81, 82, 83, 84, 85, 86, 87, 88, 89, 90, 58, 59, 91, 92, 93] (by decide +kernel) (by decide +kernel)
set_option maxRecDepth 20000 in
theorem gX4_tryPlays_X0_lowestOfEquals : GoodIn wsX4_tryPlays (va_wsS RX4 60 yX0_lowestOfEquals wsX0_lowestOfEquals) := goodIn_app (goodIn_of _ (by decide +kernel)) ggX4_tryPlays_X0_lowestOfEquals
set_option maxRecDepth 20000 in
theorem ggX4_tryPlays_X0_highest : GoodIn wsX4_tryPlays wsX0_highest := goodIn_r _ [96, 97, 98, 84, 99, 86] (by decide +kernel) (by decide +kernel)
set_option maxRecDepth 20000 in
theorem gX4_tryPlays_X0_highest : GoodIn wsX4_tryPlays (va_wsS RX4 97 yX0_highest wsX0_highest) := goodIn_app (goodIn_of _ (by decide +kernel)) ggX4_tryPlays_X0_highest
set_option maxRecDepth 20000 in
theorem ggX4_tryPlays_X1_lay : GoodIn wsX4_tryPlays wsX1_lay := goodIn_r _ [103, 20, 56, 42, 10, 11, 12, 13, 14, 15, 16, 17, 18, 19, 21, 22, 23, 24, 25, 26, 27, 28, 29, 30, 31, 32, 33, 104, 105, 106, 107, 47, 108, 109, 110, 111, 52, 53, 54, 55, 112, 113, 114, 115, 116, 166, 167, 168, 169, 170, 171, 172, 173] (by decide +kernel) (by decide +kernel)
set_option maxRecDepth 20000 in
theorem gX4_tryPlays_X1_lay : GoodIn wsX4_tryPlays (wsV RX4 45 RX1 yX1_lay wsX1_lay) := goodIn_app (goodIn_of _ (by decide +kernel)) ggX4_tryPlays_X1_lay
set_option maxRecDepth 20000 in
theorem ggX4_tryPlays_X4_gainOf : GoodIn wsX4_tryPlays wsX4_gainOf := goodIn_r _ [120, 34, 35, 36, 37] (by decide +kernel) (by decide +kernel)
set_option maxRecDepth 20000 in
theorem gX4_tryPlays_X4_gainOf : GoodIn wsX4_tryPlays (va_wsS RX4 48 yX4_gainOf wsX4_gainOf) := goodIn_app (goodIn_of _ (by decide +kernel)) ggX4_tryPlays_X4_gainOf
set_option maxRecDepth 20000 in
theorem ggX4_tryPlays_X4_search : GoodIn wsX4_tryPlays wsX4_search := goodIn_r _ [132, 1, 133, 2, 3, 4, 5, 6, 7, 8, 134, 31, 32, 12, 33, 20, 135, 136, 137, 119, 138, 139, 140, 141, 68, 69, 70, 71, 47, 21, 22, 23, 24, 25, 26, 27, 28, 29, 142, 143, 144, 145, 146, 147, 148, 149, 150, 151, 152, 153, 154, 155, 156, 157, 158, 159, 160, 161, 162, 163, 0, 9, 10, 11, 13, 14, 15, 16, 17, 18, 19, 30, 34, 35, 36, 37, 38, 39, 40, 41, 42, 43, 44, 45, 46, 48, 49, 50, 51, 52, 53, 54, 55, 56, 57, 58, 59, 60, 61, 62, 63, 64, 65, 66, 67, 72, 73, 74, 75, 76, 77, 78, 79, 80, 81, 82, 83, 84, 85, 86, 87, 88, 89, 90, 91, 92, 93, 94, 95, 96, 97, 98, 99, 100, 101, 102, 103, 104, 105, 106, 107, 108, 109, 110, 111, 112, 113, 114, 115, 116, 117, 118, 120, 121, 122, 123, 124, 125, 126, 127, 128, 129, 130, 131, 164, 165, 166, 167, 168, 169, 170, 171, 172, 173, 174] (by decide +kernel) (by decide +kernel)
set_option maxRecDepth 20000 in
theorem gX4_tryPlays_X4_search : GoodIn wsX4_tryPlays (wsV RX4 32 RX4 yX4_search wsX4_search) := goodIn_app (goodIn_of _ (by decide +kernel)) ggX4_tryPlays_X4_search
set_option maxRecDepth 20000 in
theorem ggX4_tryPlays_X1_lift : GoodIn wsX4_tryPlays wsX1_lift := goodIn_r _ [127, 20, 52, 53, 54, 12, 55, 56, 42, 10, 11, 13, 14, 15, 16, 17, 18, 19, 21, 22, 23, 24, 25, 26, 27, 28, 29, 30, 31, 32, 33, 128, 129, 130, 131, 47, 166, 167, 168, 169, 170, 171, 172, 173] (by decide +kernel) (by decide +kernel)
set_option maxRecDepth 20000 in
theorem gX4_tryPlays_X1_lift : GoodIn wsX4_tryPlays (wsV RX4 51 RX1 yX1_lift wsX1_lift) := goodIn_app (goodIn_of _ (by decide +kernel)) ggX4_tryPlays_X1_lift
theorem dX4_tryPlays_0 : decode cX4_tryPlays 0 = .ok (.aload_n 0, 1) := by decide +kernel
theorem dX4_tryPlays_1 : decode cX4_tryPlays 1 = .ok (.getfield 7, 3) := by decide +kernel
theorem dX4_tryPlays_4 : decode cX4_tryPlays 4 = .ok (.invokevirtual 36, 3) := by decide +kernel
theorem dX4_tryPlays_7 : decode cX4_tryPlays 7 = .ok (.invokestatic 39, 3) := by decide +kernel
theorem dX4_tryPlays_10 : decode cX4_tryPlays 10 = .ok (.ifCond .ne 7, 3) := by decide +kernel
theorem dX4_tryPlays_13 : decode cX4_tryPlays 13 = .ok (.iconst 1, 1) := by decide +kernel
theorem dX4_tryPlays_14 : decode cX4_tryPlays 14 = .ok (.goto 4, 3) := by decide +kernel
theorem dX4_tryPlays_17 : decode cX4_tryPlays 17 = .ok (.iconst 0, 1) := by decide +kernel
theorem dX4_tryPlays_18 : decode cX4_tryPlays 18 = .ok (.istore 4, 2) := by decide +kernel
theorem dX4_tryPlays_20 : decode cX4_tryPlays 20 = .ok (.aload_n 0, 1) := by decide +kernel
theorem dX4_tryPlays_21 : decode cX4_tryPlays 21 = .ok (.getfield 7, 3) := by decide +kernel
theorem dX4_tryPlays_24 : decode cX4_tryPlays 24 = .ok (.invokevirtual 54, 3) := by decide +kernel
theorem dX4_tryPlays_27 : decode cX4_tryPlays 27 = .ok (.aload_n 0, 1) := by decide +kernel
theorem dX4_tryPlays_28 : decode cX4_tryPlays 28 = .ok (.getfield 7, 3) := by decide +kernel
theorem dX4_tryPlays_31 : decode cX4_tryPlays 31 = .ok (.invokevirtual 57, 3) := by decide +kernel
theorem dX4_tryPlays_34 : decode cX4_tryPlays 34 = .ok (.invokestatic 60, 3) := by decide +kernel
theorem dX4_tryPlays_37 : decode cX4_tryPlays 37 = .ok (.istore 5, 2) := by decide +kernel
theorem dX4_tryPlays_39 : decode cX4_tryPlays 39 = .ok (.iload_n 2, 1) := by decide +kernel
theorem dX4_tryPlays_40 : decode cX4_tryPlays 40 = .ok (.istore 6, 2) := by decide +kernel
theorem dX4_tryPlays_42 : decode cX4_tryPlays 42 = .ok (.iload_n 3, 1) := by decide +kernel
theorem dX4_tryPlays_43 : decode cX4_tryPlays 43 = .ok (.istore 7, 2) := by decide +kernel
theorem dX4_tryPlays_45 : decode cX4_tryPlays 45 = .ok (.iload 4, 2) := by decide +kernel
theorem dX4_tryPlays_47 : decode cX4_tryPlays 47 = .ok (.ifCond .eq 7, 3) := by decide +kernel
theorem dX4_tryPlays_50 : decode cX4_tryPlays 50 = .ok (.iconst (-1), 1) := by decide +kernel
theorem dX4_tryPlays_51 : decode cX4_tryPlays 51 = .ok (.goto 4, 3) := by decide +kernel
theorem dX4_tryPlays_54 : decode cX4_tryPlays 54 = .ok (.iconst 5, 1) := by decide +kernel
theorem dX4_tryPlays_55 : decode cX4_tryPlays 55 = .ok (.istore 8, 2) := by decide +kernel
theorem dX4_tryPlays_57 : decode cX4_tryPlays 57 = .ok (.iconst 0, 1) := by decide +kernel
theorem dX4_tryPlays_58 : decode cX4_tryPlays 58 = .ok (.istore 9, 2) := by decide +kernel
theorem dX4_tryPlays_60 : decode cX4_tryPlays 60 = .ok (.iload 9, 2) := by decide +kernel
theorem dX4_tryPlays_62 : decode cX4_tryPlays 62 = .ok (.iconst 4, 1) := by decide +kernel
theorem dX4_tryPlays_63 : decode cX4_tryPlays 63 = .ok (.if_icmp .ge 127, 3) := by decide +kernel
theorem dX4_tryPlays_66 : decode cX4_tryPlays 66 = .ok (.iload 5, 2) := by decide +kernel
theorem dX4_tryPlays_68 : decode cX4_tryPlays 68 = .ok (.ifCond .eq 122, 3) := by decide +kernel
theorem dX4_tryPlays_71 : decode cX4_tryPlays 71 = .ok (.iload 6, 2) := by decide +kernel
theorem dX4_tryPlays_73 : decode cX4_tryPlays 73 = .ok (.iload 7, 2) := by decide +kernel
theorem dX4_tryPlays_75 : decode cX4_tryPlays 75 = .ok (.if_icmp .ge 115, 3) := by decide +kernel
theorem dX4_tryPlays_78 : decode cX4_tryPlays 78 = .ok (.iload 5, 2) := by decide +kernel
theorem dX4_tryPlays_80 : decode cX4_tryPlays 80 = .ok (.invokestatic 97, 3) := by decide +kernel
theorem dX4_tryPlays_83 : decode cX4_tryPlays 83 = .ok (.istore 10, 2) := by decide +kernel
theorem dX4_tryPlays_85 : decode cX4_tryPlays 85 = .ok (.iload 5, 2) := by decide +kernel
theorem dX4_tryPlays_87 : decode cX4_tryPlays 87 = .ok (.iconst 1, 1) := by decide +kernel
theorem dX4_tryPlays_88 : decode cX4_tryPlays 88 = .ok (.iload 10, 2) := by decide +kernel
theorem dX4_tryPlays_90 : decode cX4_tryPlays 90 = .ok (.ishl, 1) := by decide +kernel
theorem dX4_tryPlays_91 : decode cX4_tryPlays 91 = .ok (.iconst (-1), 1) := by decide +kernel
theorem dX4_tryPlays_92 : decode cX4_tryPlays 92 = .ok (.ixor, 1) := by decide +kernel
theorem dX4_tryPlays_93 : decode cX4_tryPlays 93 = .ok (.iand, 1) := by decide +kernel
theorem dX4_tryPlays_94 : decode cX4_tryPlays 94 = .ok (.istore 5, 2) := by decide +kernel
theorem dX4_tryPlays_96 : decode cX4_tryPlays 96 = .ok (.aload_n 0, 1) := by decide +kernel
theorem dX4_tryPlays_97 : decode cX4_tryPlays 97 = .ok (.getfield 7, 3) := by decide +kernel
theorem dX4_tryPlays_100 : decode cX4_tryPlays 100 = .ok (.iload 10, 2) := by decide +kernel
theorem dX4_tryPlays_102 : decode cX4_tryPlays 102 = .ok (.invokevirtual 45, 3) := by decide +kernel
theorem dX4_tryPlays_105 : decode cX4_tryPlays 105 = .ok (.invokestatic 48, 3) := by decide +kernel
theorem dX4_tryPlays_108 : decode cX4_tryPlays 108 = .ok (.istore 11, 2) := by decide +kernel
theorem dX4_tryPlays_110 : decode cX4_tryPlays 110 = .ok (.iload 11, 2) := by decide +kernel
theorem dX4_tryPlays_112 : decode cX4_tryPlays 112 = .ok (.aload_n 0, 1) := by decide +kernel
theorem dX4_tryPlays_113 : decode cX4_tryPlays 113 = .ok (.iload_n 1, 1) := by decide +kernel
theorem dX4_tryPlays_114 : decode cX4_tryPlays 114 = .ok (.iconst 1, 1) := by decide +kernel
theorem dX4_tryPlays_115 : decode cX4_tryPlays 115 = .ok (.isub, 1) := by decide +kernel
theorem dX4_tryPlays_116 : decode cX4_tryPlays 116 = .ok (.iload 6, 2) := by decide +kernel
theorem dX4_tryPlays_118 : decode cX4_tryPlays 118 = .ok (.iload 11, 2) := by decide +kernel
theorem dX4_tryPlays_120 : decode cX4_tryPlays 120 = .ok (.isub, 1) := by decide +kernel
theorem dX4_tryPlays_121 : decode cX4_tryPlays 121 = .ok (.iload 7, 2) := by decide +kernel
theorem dX4_tryPlays_123 : decode cX4_tryPlays 123 = .ok (.iload 11, 2) := by decide +kernel
theorem dX4_tryPlays_125 : decode cX4_tryPlays 125 = .ok (.isub, 1) := by decide +kernel
theorem dX4_tryPlays_126 : decode cX4_tryPlays 126 = .ok (.invokevirtual 32, 3) := by decide +kernel
theorem dX4_tryPlays_129 : decode cX4_tryPlays 129 = .ok (.iadd, 1) := by decide +kernel
theorem dX4_tryPlays_130 : decode cX4_tryPlays 130 = .ok (.istore 12, 2) := by decide +kernel
theorem dX4_tryPlays_132 : decode cX4_tryPlays 132 = .ok (.aload_n 0, 1) := by decide +kernel
theorem dX4_tryPlays_133 : decode cX4_tryPlays 133 = .ok (.getfield 7, 3) := by decide +kernel
theorem dX4_tryPlays_136 : decode cX4_tryPlays 136 = .ok (.invokevirtual 51, 3) := by decide +kernel
theorem dX4_tryPlays_139 : decode cX4_tryPlays 139 = .ok (.pop, 1) := by decide +kernel
theorem dX4_tryPlays_140 : decode cX4_tryPlays 140 = .ok (.iload 4, 2) := by decide +kernel
theorem dX4_tryPlays_142 : decode cX4_tryPlays 142 = .ok (.ifCond .eq 24, 3) := by decide +kernel
theorem dX4_tryPlays_145 : decode cX4_tryPlays 145 = .ok (.iload 8, 2) := by decide +kernel
theorem dX4_tryPlays_147 : decode cX4_tryPlays 147 = .ok (.iload 12, 2) := by decide +kernel
theorem dX4_tryPlays_149 : decode cX4_tryPlays 149 = .ok (.invokestatic 85, 3) := by decide +kernel
theorem dX4_tryPlays_152 : decode cX4_tryPlays 152 = .ok (.istore 8, 2) := by decide +kernel
theorem dX4_tryPlays_154 : decode cX4_tryPlays 154 = .ok (.iload 6, 2) := by decide +kernel
theorem dX4_tryPlays_156 : decode cX4_tryPlays 156 = .ok (.iload 8, 2) := by decide +kernel
theorem dX4_tryPlays_158 : decode cX4_tryPlays 158 = .ok (.invokestatic 85, 3) := by decide +kernel
theorem dX4_tryPlays_161 : decode cX4_tryPlays 161 = .ok (.istore 6, 2) := by decide +kernel
theorem dX4_tryPlays_163 : decode cX4_tryPlays 163 = .ok (.goto 21, 3) := by decide +kernel
theorem dX4_tryPlays_166 : decode cX4_tryPlays 166 = .ok (.iload 8, 2) := by decide +kernel
theorem dX4_tryPlays_168 : decode cX4_tryPlays 168 = .ok (.iload 12, 2) := by decide +kernel
theorem dX4_tryPlays_170 : decode cX4_tryPlays 170 = .ok (.invokestatic 90, 3) := by decide +kernel
theorem dX4_tryPlays_173 : decode cX4_tryPlays 173 = .ok (.istore 8, 2) := by decide +kernel
theorem dX4_tryPlays_175 : decode cX4_tryPlays 175 = .ok (.iload 7, 2) := by decide +kernel
theorem dX4_tryPlays_177 : decode cX4_tryPlays 177 = .ok (.iload 8, 2) := by decide +kernel
theorem dX4_tryPlays_179 : decode cX4_tryPlays 179 = .ok (.invokestatic 90, 3) := by decide +kernel
theorem dX4_tryPlays_182 : decode cX4_tryPlays 182 = .ok (.istore 7, 2) := by decide +kernel
theorem dX4_tryPlays_184 : decode cX4_tryPlays 184 = .ok (.iinc 9 1, 3) := by decide +kernel
theorem dX4_tryPlays_187 : decode cX4_tryPlays 187 = .ok (.goto (-127), 3) := by decide +kernel
theorem dX4_tryPlays_190 : decode cX4_tryPlays 190 = .ok (.iload 8, 2) := by decide +kernel
theorem dX4_tryPlays_192 : decode cX4_tryPlays 192 = .ok (.ireturn, 1) := by decide +kernel
set_option maxRecDepth 20000 in
theorem ggX4_byAllPlays_X1_mover : GoodIn wsX4_byAllPlays wsX1_mover := goodIn_r _ [12, 13, 14, 15, 16, 11, 17, 18, 19, 20, 21, 22, 23, 24, 25, 26, 27, 28, 29, 30, 31, 32, 101, 102, 103, 104, 105, 106, 107, 108] (by decide +kernel) (by decide +kernel)
set_option maxRecDepth 20000 in
theorem gX4_byAllPlays_X1_mover : GoodIn wsX4_byAllPlays (wsV RX4 36 RX1 yX1_mover wsX1_mover) := goodIn_app (goodIn_of _ (by decide +kernel)) ggX4_byAllPlays_X1_mover
set_option maxRecDepth 20000 in
theorem ggX4_byAllPlays_X0_sideOf : GoodIn wsX4_byAllPlays wsX0_sideOf := goodIn_r _ [36] (by decide +kernel) (by decide +kernel)
set_option maxRecDepth 20000 in
theorem gX4_byAllPlays_X0_sideOf : GoodIn wsX4_byAllPlays (va_wsS RX4 39 yX0_sideOf wsX0_sideOf) := goodIn_app (goodIn_of _ (by decide +kernel)) ggX4_byAllPlays_X0_sideOf
set_option maxRecDepth 20000 in
theorem ggX4_byAllPlays_X1_playable : GoodIn wsX4_byAllPlays wsX1_playable := goodIn_r _ [40, 41, 9, 10, 11, 12, 13, 14, 15, 16, 17, 18, 19, 20, 21, 22, 23, 24, 25, 26, 27, 28, 29, 30, 31, 32, 42, 43, 44, 45, 46, 47, 48, 49, 50, 51, 52, 53, 54, 55, 56, 57, 35, 58, 59, 60, 61, 101, 102, 103, 104, 105, 106, 107, 108] (by decide +kernel) (by decide +kernel)
set_option maxRecDepth 20000 in
theorem gX4_byAllPlays_X1_playable : GoodIn wsX4_byAllPlays (wsV RX4 54 RX1 yX1_playable wsX1_playable) := goodIn_app (goodIn_of _ (by decide +kernel)) ggX4_byAllPlays_X1_playable
set_option maxRecDepth 20000 in
theorem ggX4_byAllPlays_X0_lowest : GoodIn wsX4_byAllPlays wsX0_lowest := goodIn_r _ [64, 65, 66, 67, 68, 69] (by decide +kernel) (by decide +kernel)
set_option maxRecDepth 20000 in
theorem gX4_byAllPlays_X0_lowest : GoodIn wsX4_byAllPlays (va_wsS RX4 64 yX0_lowest wsX0_lowest) := goodIn_app (goodIn_of _ (by decide +kernel)) ggX4_byAllPlays_X0_lowest
set_option maxRecDepth 20000 in
theorem ggX4_byAllPlays_X1_lay : GoodIn wsX4_byAllPlays wsX1_lay := goodIn_r _ [73, 19, 55, 41, 9, 10, 11, 12, 13, 14, 15, 16, 17, 18, 20, 21, 22, 23, 24, 25, 26, 27, 28, 29, 30, 31, 32, 74, 75, 76, 77, 46, 78, 79, 80, 81, 51, 52, 53, 54, 82, 83, 84, 85, 86, 101, 102, 103, 104, 105, 106, 107, 108] (by decide +kernel) (by decide +kernel)
set_option maxRecDepth 20000 in
theorem gX4_byAllPlays_X1_lay : GoodIn wsX4_byAllPlays (wsV RX4 45 RX1 yX1_lay wsX1_lay) := goodIn_app (goodIn_of _ (by decide +kernel)) ggX4_byAllPlays_X1_lay
set_option maxRecDepth 20000 in
theorem ggX4_byAllPlays_X4_gainOf : GoodIn wsX4_byAllPlays wsX4_gainOf := goodIn_r _ [90, 33, 34, 35, 36] (by decide +kernel) (by decide +kernel)
set_option maxRecDepth 20000 in
theorem gX4_byAllPlays_X4_gainOf : GoodIn wsX4_byAllPlays (va_wsS RX4 48 yX4_gainOf wsX4_gainOf) := goodIn_app (goodIn_of _ (by decide +kernel)) ggX4_byAllPlays_X4_gainOf
set_option maxRecDepth 20000 in
theorem ggX4_byAllPlays_X4_byAllPlays : GoodIn wsX4_byAllPlays wsX4_byAllPlays := goodIn_r _ [0, 1, 2, 3, 4, 5, 6, 7, 8, 9, 10, 11, 12, 13, 14, 15, 16, 17, 18, 19, 20, 21, 22, 23, 24, 25, 26, 27, 28, 29, 30, 31, 32, 33, 34, 35, 36, 37, 38, 39, 40, 41, 42, 43, 44, 45, 46, 47, 48, 49, 50, 51, 52, 53, 54, 55, 56, 57, 58, 59, 60, 61, 62, 63, 64, 65, 66, 67, 68, 69, 70, 71, 72, 73, 74, 75, 76, 77, 78, 79, 80, 81, 82, 83, 84, 85, 86, 87, 88, 89, 90, 91, 92, 93, 94, 95, 96, 97, 98, 99, 100, 101, 102, 103, 104, 105, 106, 107, 108] (by decide +kernel) (by decide +kernel)
set_option maxRecDepth 20000 in
theorem gX4_byAllPlays_X4_byAllPlays : GoodIn wsX4_byAllPlays (va_wsS RX4 100 yX4_byAllPlays wsX4_byAllPlays) := goodIn_app (goodIn_of _ (by decide +kernel)) ggX4_byAllPlays_X4_byAllPlays
set_option maxRecDepth 20000 in
theorem ggX4_byAllPlays_X1_lift : GoodIn wsX4_byAllPlays wsX1_lift := goodIn_r _ [96, 19, 51, 52, 53, 11, 54, 55, 41, 9, 10, 12, 13, 14, 15, 16, 17, 18, 20, 21, 22, 23, 24, 25, 26, 27, 28, 29, 30, 31, 32, 97, 98, 99, 100, 46, 101, 102, 103, 104, 105, 106, 107, 108] (by decide +kernel) (by decide +kernel)
set_option maxRecDepth 20000 in
theorem gX4_byAllPlays_X1_lift : GoodIn wsX4_byAllPlays (wsV RX4 51 RX1 yX1_lift wsX1_lift) := goodIn_app (goodIn_of _ (by decide +kernel)) ggX4_byAllPlays_X1_lift
theorem dX4_byAllPlays_0 : decode cX4_byAllPlays 0 = .ok (.iload_n 1, 1) := by decide +kernel
theorem dX4_byAllPlays_1 : decode cX4_byAllPlays 1 = .ok (.ifCond .gt 5, 3) := by decide +kernel
theorem dX4_byAllPlays_4 : decode cX4_byAllPlays 4 = .ok (.iconst 0, 1) := by decide +kernel
theorem dX4_byAllPlays_5 : decode cX4_byAllPlays 5 = .ok (.ireturn, 1) := by decide +kernel
theorem dX4_byAllPlays_6 : decode cX4_byAllPlays 6 = .ok (.aload_n 0, 1) := by decide +kernel
theorem dX4_byAllPlays_7 : decode cX4_byAllPlays 7 = .ok (.invokevirtual 36, 3) := by decide +kernel
theorem dX4_byAllPlays_10 : decode cX4_byAllPlays 10 = .ok (.invokestatic 39, 3) := by decide +kernel
theorem dX4_byAllPlays_13 : decode cX4_byAllPlays 13 = .ok (.ifCond .ne 7, 3) := by decide +kernel
theorem dX4_byAllPlays_16 : decode cX4_byAllPlays 16 = .ok (.iconst 1, 1) := by decide +kernel
theorem dX4_byAllPlays_17 : decode cX4_byAllPlays 17 = .ok (.goto 4, 3) := by decide +kernel
theorem dX4_byAllPlays_20 : decode cX4_byAllPlays 20 = .ok (.iconst 0, 1) := by decide +kernel
theorem dX4_byAllPlays_21 : decode cX4_byAllPlays 21 = .ok (.istore_n 2, 1) := by decide +kernel
theorem dX4_byAllPlays_22 : decode cX4_byAllPlays 22 = .ok (.aload_n 0, 1) := by decide +kernel
theorem dX4_byAllPlays_23 : decode cX4_byAllPlays 23 = .ok (.invokevirtual 54, 3) := by decide +kernel
theorem dX4_byAllPlays_26 : decode cX4_byAllPlays 26 = .ok (.istore_n 3, 1) := by decide +kernel
theorem dX4_byAllPlays_27 : decode cX4_byAllPlays 27 = .ok (.iload_n 2, 1) := by decide +kernel
theorem dX4_byAllPlays_28 : decode cX4_byAllPlays 28 = .ok (.ifCond .eq 7, 3) := by decide +kernel
theorem dX4_byAllPlays_31 : decode cX4_byAllPlays 31 = .ok (.iconst (-1), 1) := by decide +kernel
theorem dX4_byAllPlays_32 : decode cX4_byAllPlays 32 = .ok (.goto 4, 3) := by decide +kernel
theorem dX4_byAllPlays_35 : decode cX4_byAllPlays 35 = .ok (.iconst 5, 1) := by decide +kernel
theorem dX4_byAllPlays_36 : decode cX4_byAllPlays 36 = .ok (.istore 4, 2) := by decide +kernel
theorem dX4_byAllPlays_38 : decode cX4_byAllPlays 38 = .ok (.iconst 0, 1) := by decide +kernel
theorem dX4_byAllPlays_39 : decode cX4_byAllPlays 39 = .ok (.istore 5, 2) := by decide +kernel
theorem dX4_byAllPlays_41 : decode cX4_byAllPlays 41 = .ok (.iload 5, 2) := by decide +kernel
theorem dX4_byAllPlays_43 : decode cX4_byAllPlays 43 = .ok (.iconst 4, 1) := by decide +kernel
theorem dX4_byAllPlays_44 : decode cX4_byAllPlays 44 = .ok (.if_icmp .ge 75, 3) := by decide +kernel
theorem dX4_byAllPlays_47 : decode cX4_byAllPlays 47 = .ok (.iload_n 3, 1) := by decide +kernel
theorem dX4_byAllPlays_48 : decode cX4_byAllPlays 48 = .ok (.ifCond .eq 71, 3) := by decide +kernel
theorem dX4_byAllPlays_51 : decode cX4_byAllPlays 51 = .ok (.iload_n 3, 1) := by decide +kernel
theorem dX4_byAllPlays_52 : decode cX4_byAllPlays 52 = .ok (.invokestatic 64, 3) := by decide +kernel
theorem dX4_byAllPlays_55 : decode cX4_byAllPlays 55 = .ok (.istore 6, 2) := by decide +kernel
theorem dX4_byAllPlays_57 : decode cX4_byAllPlays 57 = .ok (.iload_n 3, 1) := by decide +kernel
theorem dX4_byAllPlays_58 : decode cX4_byAllPlays 58 = .ok (.iconst 1, 1) := by decide +kernel
theorem dX4_byAllPlays_59 : decode cX4_byAllPlays 59 = .ok (.iload 6, 2) := by decide +kernel
theorem dX4_byAllPlays_61 : decode cX4_byAllPlays 61 = .ok (.ishl, 1) := by decide +kernel
theorem dX4_byAllPlays_62 : decode cX4_byAllPlays 62 = .ok (.iconst (-1), 1) := by decide +kernel
theorem dX4_byAllPlays_63 : decode cX4_byAllPlays 63 = .ok (.ixor, 1) := by decide +kernel
theorem dX4_byAllPlays_64 : decode cX4_byAllPlays 64 = .ok (.iand, 1) := by decide +kernel
theorem dX4_byAllPlays_65 : decode cX4_byAllPlays 65 = .ok (.istore_n 3, 1) := by decide +kernel
theorem dX4_byAllPlays_66 : decode cX4_byAllPlays 66 = .ok (.aload_n 0, 1) := by decide +kernel
theorem dX4_byAllPlays_67 : decode cX4_byAllPlays 67 = .ok (.iload 6, 2) := by decide +kernel
theorem dX4_byAllPlays_69 : decode cX4_byAllPlays 69 = .ok (.invokevirtual 45, 3) := by decide +kernel
theorem dX4_byAllPlays_72 : decode cX4_byAllPlays 72 = .ok (.invokestatic 48, 3) := by decide +kernel
theorem dX4_byAllPlays_75 : decode cX4_byAllPlays 75 = .ok (.aload_n 0, 1) := by decide +kernel
theorem dX4_byAllPlays_76 : decode cX4_byAllPlays 76 = .ok (.iload_n 1, 1) := by decide +kernel
theorem dX4_byAllPlays_77 : decode cX4_byAllPlays 77 = .ok (.iconst 1, 1) := by decide +kernel
theorem dX4_byAllPlays_78 : decode cX4_byAllPlays 78 = .ok (.isub, 1) := by decide +kernel
theorem dX4_byAllPlays_79 : decode cX4_byAllPlays 79 = .ok (.invokestatic 100, 3) := by decide +kernel
theorem dX4_byAllPlays_82 : decode cX4_byAllPlays 82 = .ok (.iadd, 1) := by decide +kernel
theorem dX4_byAllPlays_83 : decode cX4_byAllPlays 83 = .ok (.istore 7, 2) := by decide +kernel
theorem dX4_byAllPlays_85 : decode cX4_byAllPlays 85 = .ok (.aload_n 0, 1) := by decide +kernel
theorem dX4_byAllPlays_86 : decode cX4_byAllPlays 86 = .ok (.invokevirtual 51, 3) := by decide +kernel
theorem dX4_byAllPlays_89 : decode cX4_byAllPlays 89 = .ok (.pop, 1) := by decide +kernel
theorem dX4_byAllPlays_90 : decode cX4_byAllPlays 90 = .ok (.iload_n 2, 1) := by decide +kernel
theorem dX4_byAllPlays_91 : decode cX4_byAllPlays 91 = .ok (.ifCond .eq 13, 3) := by decide +kernel
theorem dX4_byAllPlays_94 : decode cX4_byAllPlays 94 = .ok (.iload 4, 2) := by decide +kernel
theorem dX4_byAllPlays_96 : decode cX4_byAllPlays 96 = .ok (.iload 7, 2) := by decide +kernel
theorem dX4_byAllPlays_98 : decode cX4_byAllPlays 98 = .ok (.invokestatic 85, 3) := by decide +kernel
theorem dX4_byAllPlays_101 : decode cX4_byAllPlays 101 = .ok (.goto 10, 3) := by decide +kernel
theorem dX4_byAllPlays_104 : decode cX4_byAllPlays 104 = .ok (.iload 4, 2) := by decide +kernel
theorem dX4_byAllPlays_106 : decode cX4_byAllPlays 106 = .ok (.iload 7, 2) := by decide +kernel
theorem dX4_byAllPlays_108 : decode cX4_byAllPlays 108 = .ok (.invokestatic 90, 3) := by decide +kernel
theorem dX4_byAllPlays_111 : decode cX4_byAllPlays 111 = .ok (.istore 4, 2) := by decide +kernel
theorem dX4_byAllPlays_113 : decode cX4_byAllPlays 113 = .ok (.iinc 5 1, 3) := by decide +kernel
theorem dX4_byAllPlays_116 : decode cX4_byAllPlays 116 = .ok (.goto (-75), 3) := by decide +kernel
theorem dX4_byAllPlays_119 : decode cX4_byAllPlays 119 = .ok (.iload 4, 2) := by decide +kernel
theorem dX4_byAllPlays_121 : decode cX4_byAllPlays 121 = .ok (.ireturn, 1) := by decide +kernel
set_option maxRecDepth 20000 in
theorem ggX5_init_X1_init : GoodIn wsX5_init wsX1_init := goodIn_r _ [18, 19, 2, 3, 20, 21, 22, 23, 24, 44, 45, 46, 47, 48, 49, 50, 51] (by decide +kernel) (by decide +kernel)
set_option maxRecDepth 20000 in
theorem gX5_init_X1_init : GoodIn wsX5_init (wsX1_init) := ggX5_init_X1_init
set_option maxRecDepth 20000 in
theorem ggX5_init_X4_init : GoodIn wsX5_init wsX4_init := goodIn_r _ [27, 28, 2, 3, 29, 30, 31, 32, 33, 34, 35, 36, 37, 20, 38, 55, 56, 58] (by decide +kernel) (by decide +kernel)
set_option maxRecDepth 20000 in
theorem gX5_init_X4_init : GoodIn wsX5_init (wsX4_init) := ggX5_init_X4_init
set_option maxRecDepth 20000 in
theorem ggX5_init_X3_init : GoodIn wsX5_init wsX3_init := goodIn_r _ [41, 42, 2, 3, 43, 57] (by decide +kernel) (by decide +kernel)
set_option maxRecDepth 20000 in
theorem gX5_init_X3_init : GoodIn wsX5_init (wsX3_init) := ggX5_init_X3_init
theorem dX5_init_0 : decode cX5_init 0 = .ok (.aload_n 0, 1) := by decide +kernel
theorem dX5_init_1 : decode cX5_init 1 = .ok (.invokespecial 1, 3) := by decide +kernel
theorem dX5_init_4 : decode cX5_init 4 = .ok (.aload_n 0, 1) := by decide +kernel
theorem dX5_init_5 : decode cX5_init 5 = .ok (.new 7, 3) := by decide +kernel
theorem dX5_init_8 : decode cX5_init 8 = .ok (.dup, 1) := by decide +kernel
theorem dX5_init_9 : decode cX5_init 9 = .ok (.invokespecial 9, 3) := by decide +kernel
theorem dX5_init_12 : decode cX5_init 12 = .ok (.putfield 10, 3) := by decide +kernel
theorem dX5_init_15 : decode cX5_init 15 = .ok (.aload_n 0, 1) := by decide +kernel
theorem dX5_init_16 : decode cX5_init 16 = .ok (.new 16, 3) := by decide +kernel
theorem dX5_init_19 : decode cX5_init 19 = .ok (.dup, 1) := by decide +kernel
theorem dX5_init_20 : decode cX5_init 20 = .ok (.aload_n 0, 1) := by decide +kernel
theorem dX5_init_21 : decode cX5_init 21 = .ok (.getfield 10, 3) := by decide +kernel
theorem dX5_init_24 : decode cX5_init 24 = .ok (.invokespecial 18, 3) := by decide +kernel
theorem dX5_init_27 : decode cX5_init 27 = .ok (.putfield 21, 3) := by decide +kernel
theorem dX5_init_30 : decode cX5_init 30 = .ok (.aload_n 0, 1) := by decide +kernel
theorem dX5_init_31 : decode cX5_init 31 = .ok (.new 25, 3) := by decide +kernel
theorem dX5_init_34 : decode cX5_init 34 = .ok (.dup, 1) := by decide +kernel
theorem dX5_init_35 : decode cX5_init 35 = .ok (.aload_n 0, 1) := by decide +kernel
