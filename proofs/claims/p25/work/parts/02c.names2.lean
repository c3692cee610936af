theorem dX2_mostAt_15 : decode cX2_mostAt 15 = .ok (.iconst 3, 1) := by decide +kernel
theorem dX2_mostAt_16 : decode cX2_mostAt 16 = .ok (.iushr, 1) := by decide +kernel
theorem dX2_mostAt_17 : decode cX2_mostAt 17 = .ok (.bipush 7, 2) := by decide +kernel
theorem dX2_mostAt_19 : decode cX2_mostAt 19 = .ok (.iand, 1) := by decide +kernel
theorem dX2_mostAt_20 : decode cX2_mostAt 20 = .ok (.ireturn, 1) := by decide +kernel
set_option maxRecDepth 20000 in
theorem ggX2_put_X2_slotOf : GoodIn wsX2_put wsX2_slotOf := goodIn_r _ [5, 6] (by decide +kernel) (by decide +kernel)
set_option maxRecDepth 20000 in
theorem gX2_put_X2_slotOf : GoodIn wsX2_put (va_wsS RX2 17 yX2_slotOf wsX2_slotOf) := goodIn_app (goodIn_of _ (by decide +kernel)) ggX2_put_X2_slotOf
theorem dX2_put_0 : decode cX2_put 0 = .ok (.iload_n 1, 1) := by decide +kernel
theorem dX2_put_1 : decode cX2_put 1 = .ok (.invokestatic 17, 3) := by decide +kernel
theorem dX2_put_4 : decode cX2_put 4 = .ok (.istore 4, 2) := by decide +kernel
theorem dX2_put_6 : decode cX2_put 6 = .ok (.iload 4, 2) := by decide +kernel
theorem dX2_put_8 : decode cX2_put 8 = .ok (.ifCond .lt 30, 3) := by decide +kernel
theorem dX2_put_11 : decode cX2_put 11 = .ok (.iload 4, 2) := by decide +kernel
theorem dX2_put_13 : decode cX2_put 13 = .ok (.aload_n 0, 1) := by decide +kernel
theorem dX2_put_14 : decode cX2_put 14 = .ok (.getfield 9, 3) := by decide +kernel
theorem dX2_put_17 : decode cX2_put 17 = .ok (.arraylength, 1) := by decide +kernel
theorem dX2_put_18 : decode cX2_put 18 = .ok (.if_icmp .ge 20, 3) := by decide +kernel
theorem dX2_put_21 : decode cX2_put 21 = .ok (.aload_n 0, 1) := by decide +kernel
theorem dX2_put_22 : decode cX2_put 22 = .ok (.getfield 9, 3) := by decide +kernel
theorem dX2_put_25 : decode cX2_put 25 = .ok (.iload 4, 2) := by decide +kernel
theorem dX2_put_27 : decode cX2_put 27 = .ok (.iload_n 1, 1) := by decide +kernel
theorem dX2_put_28 : decode cX2_put 28 = .ok (.bipush 6, 2) := by decide +kernel
theorem dX2_put_30 : decode cX2_put 30 = .ok (.ishl, 1) := by decide +kernel
theorem dX2_put_31 : decode cX2_put 31 = .ok (.iload_n 3, 1) := by decide +kernel
theorem dX2_put_32 : decode cX2_put 32 = .ok (.iconst 3, 1) := by decide +kernel
theorem dX2_put_33 : decode cX2_put 33 = .ok (.ishl, 1) := by decide +kernel
theorem dX2_put_34 : decode cX2_put 34 = .ok (.ior, 1) := by decide +kernel
theorem dX2_put_35 : decode cX2_put 35 = .ok (.iload_n 2, 1) := by decide +kernel
theorem dX2_put_36 : decode cX2_put 36 = .ok (.ior, 1) := by decide +kernel
theorem dX2_put_37 : decode cX2_put 37 = .ok (.iastore, 1) := by decide +kernel
theorem dX2_put_38 : decode cX2_put 38 = .ok (.return_, 1) := by decide +kernel
set_option maxRecDepth 20000 in
theorem ggX2_entryOf_X2_slotOf : GoodIn wsX2_entryOf wsX2_slotOf := goodIn_r _ [5, 6] (by decide +kernel) (by decide +kernel)
set_option maxRecDepth 20000 in
theorem gX2_entryOf_X2_slotOf : GoodIn wsX2_entryOf (va_wsS RX2 17 yX2_slotOf wsX2_slotOf) := goodIn_app (goodIn_of _ (by decide +kernel)) ggX2_entryOf_X2_slotOf
theorem dX2_entryOf_0 : decode cX2_entryOf 0 = .ok (.iload_n 1, 1) := by decide +kernel
theorem dX2_entryOf_1 : decode cX2_entryOf 1 = .ok (.invokestatic 17, 3) := by decide +kernel
theorem dX2_entryOf_4 : decode cX2_entryOf 4 = .ok (.istore_n 2, 1) := by decide +kernel
theorem dX2_entryOf_5 : decode cX2_entryOf 5 = .ok (.iload_n 2, 1) := by decide +kernel
theorem dX2_entryOf_6 : decode cX2_entryOf 6 = .ok (.ifCond .lt 12, 3) := by decide +kernel
theorem dX2_entryOf_9 : decode cX2_entryOf 9 = .ok (.iload_n 2, 1) := by decide +kernel
theorem dX2_entryOf_10 : decode cX2_entryOf 10 = .ok (.aload_n 0, 1) := by decide +kernel
theorem dX2_entryOf_11 : decode cX2_entryOf 11 = .ok (.getfield 9, 3) := by decide +kernel
theorem dX2_entryOf_14 : decode cX2_entryOf 14 = .ok (.arraylength, 1) := by decide +kernel
theorem dX2_entryOf_15 : decode cX2_entryOf 15 = .ok (.if_icmp .lt 5, 3) := by decide +kernel
theorem dX2_entryOf_18 : decode cX2_entryOf 18 = .ok (.iconst 0, 1) := by decide +kernel
theorem dX2_entryOf_19 : decode cX2_entryOf 19 = .ok (.ireturn, 1) := by decide +kernel
theorem dX2_entryOf_20 : decode cX2_entryOf 20 = .ok (.aload_n 0, 1) := by decide +kernel
theorem dX2_entryOf_21 : decode cX2_entryOf 21 = .ok (.getfield 9, 3) := by decide +kernel
theorem dX2_entryOf_24 : decode cX2_entryOf 24 = .ok (.iload_n 2, 1) := by decide +kernel
theorem dX2_entryOf_25 : decode cX2_entryOf 25 = .ok (.iaload, 1) := by decide +kernel
theorem dX2_entryOf_26 : decode cX2_entryOf 26 = .ok (.istore_n 3, 1) := by decide +kernel
theorem dX2_entryOf_27 : decode cX2_entryOf 27 = .ok (.iload_n 3, 1) := by decide +kernel
theorem dX2_entryOf_28 : decode cX2_entryOf 28 = .ok (.bipush 6, 2) := by decide +kernel
theorem dX2_entryOf_30 : decode cX2_entryOf 30 = .ok (.iushr, 1) := by decide +kernel
theorem dX2_entryOf_31 : decode cX2_entryOf 31 = .ok (.iload_n 1, 1) := by decide +kernel
theorem dX2_entryOf_32 : decode cX2_entryOf 32 = .ok (.if_icmp .ne 7, 3) := by decide +kernel
theorem dX2_entryOf_35 : decode cX2_entryOf 35 = .ok (.iload_n 3, 1) := by decide +kernel
theorem dX2_entryOf_36 : decode cX2_entryOf 36 = .ok (.goto 4, 3) := by decide +kernel
theorem dX2_entryOf_39 : decode cX2_entryOf 39 = .ok (.iconst 0, 1) := by decide +kernel
theorem dX2_entryOf_40 : decode cX2_entryOf 40 = .ok (.ireturn, 1) := by decide +kernel
theorem dX2_slotOf_0 : decode cX2_slotOf 0 = .ok (.iload_n 0, 1) := by decide +kernel
theorem dX2_slotOf_1 : decode cX2_slotOf 1 = .ok (.ldc 20, 2) := by decide +kernel
theorem dX2_slotOf_3 : decode cX2_slotOf 3 = .ok (.imul, 1) := by decide +kernel
theorem dX2_slotOf_4 : decode cX2_slotOf 4 = .ok (.bipush 22, 2) := by decide +kernel
theorem dX2_slotOf_6 : decode cX2_slotOf 6 = .ok (.iushr, 1) := by decide +kernel
theorem dX2_slotOf_7 : decode cX2_slotOf 7 = .ok (.ireturn, 1) := by decide +kernel
theorem dX3_init_0 : decode cX3_init 0 = .ok (.aload_n 0, 1) := by decide +kernel
theorem dX3_init_1 : decode cX3_init 1 = .ok (.invokespecial 1, 3) := by decide +kernel
theorem dX3_init_4 : decode cX3_init 4 = .ok (.aload_n 0, 1) := by decide +kernel
theorem dX3_init_5 : decode cX3_init 5 = .ok (.aload_n 1, 1) := by decide +kernel
theorem dX3_init_6 : decode cX3_init 6 = .ok (.putfield 7, 3) := by decide +kernel
theorem dX3_init_9 : decode cX3_init 9 = .ok (.return_, 1) := by decide +kernel
set_option maxRecDepth 20000 in
theorem ggX3_lowestLike_X1_ownerOf : GoodIn wsX3_lowestLike wsX1_ownerOf := goodIn_r _ [6, 7, 8, 9, 10, 11, 47, 48, 49, 50, 51, 52, 53, 54] (by decide +kernel) (by decide +kernel)
set_option maxRecDepth 20000 in
theorem gX3_lowestLike_X1_ownerOf : GoodIn wsX3_lowestLike (wsV RX3 13 RX1 yX1_ownerOf wsX1_ownerOf) := goodIn_app (goodIn_of _ (by decide +kernel)) ggX3_lowestLike_X1_ownerOf
set_option maxRecDepth 20000 in
theorem ggX3_lowestLike_X1_handOf : GoodIn wsX3_lowestLike wsX1_handOf := goodIn_r _ [15, 7, 47, 48, 49, 50, 51, 52, 53, 54] (by decide +kernel) (by decide +kernel)
set_option maxRecDepth 20000 in
theorem gX3_lowestLike_X1_handOf : GoodIn wsX3_lowestLike (wsV RX3 19 RX1 yX1_handOf wsX1_handOf) := goodIn_app (goodIn_of _ (by decide +kernel)) ggX3_lowestLike_X1_handOf
set_option maxRecDepth 20000 in
theorem ggX3_lowestLike_X1_out : GoodIn wsX3_lowestLike wsX1_out := goodIn_r _ [19, 20, 21, 22, 23, 5, 24, 7, 25, 26, 27, 28, 29, 30, 31, 32, 33, 34, 35, 36, 37, 38, 47, 48, 49, 50, 51, 52, 53, 54] (by decide +kernel) (by decide +kernel)
set_option maxRecDepth 20000 in
theorem gX3_lowestLike_X1_out : GoodIn wsX3_lowestLike (wsV RX3 22 RX1 yX1_out wsX1_out) := goodIn_app (goodIn_of _ (by decide +kernel)) ggX3_lowestLike_X1_out
set_option maxRecDepth 20000 in
theorem ggX3_lowestLike_X0_equalBelow : GoodIn wsX3_lowestLike wsX0_equalBelow := goodIn_r _ [41, 42, 43, 10, 44, 45, 9, 11] (by decide +kernel) (by decide +kernel)
set_option maxRecDepth 20000 in
theorem gX3_lowestLike_X0_equalBelow : GoodIn wsX3_lowestLike (va_wsS RX3 28 yX0_equalBelow wsX0_equalBelow) := goodIn_app (goodIn_of _ (by decide +kernel)) ggX3_lowestLike_X0_equalBelow
theorem dX3_lowestLike_0 : decode cX3_lowestLike 0 = .ok (.aload_n 0, 1) := by decide +kernel
theorem dX3_lowestLike_1 : decode cX3_lowestLike 1 = .ok (.getfield 7, 3) := by decide +kernel
theorem dX3_lowestLike_4 : decode cX3_lowestLike 4 = .ok (.aload_n 0, 1) := by decide +kernel
theorem dX3_lowestLike_5 : decode cX3_lowestLike 5 = .ok (.getfield 7, 3) := by decide +kernel
theorem dX3_lowestLike_8 : decode cX3_lowestLike 8 = .ok (.iload_n 1, 1) := by decide +kernel
theorem dX3_lowestLike_9 : decode cX3_lowestLike 9 = .ok (.invokevirtual 13, 3) := by decide +kernel
theorem dX3_lowestLike_12 : decode cX3_lowestLike 12 = .ok (.invokevirtual 19, 3) := by decide +kernel
theorem dX3_lowestLike_15 : decode cX3_lowestLike 15 = .ok (.istore_n 2, 1) := by decide +kernel
theorem dX3_lowestLike_16 : decode cX3_lowestLike 16 = .ok (.aload_n 0, 1) := by decide +kernel
theorem dX3_lowestLike_17 : decode cX3_lowestLike 17 = .ok (.getfield 7, 3) := by decide +kernel
theorem dX3_lowestLike_20 : decode cX3_lowestLike 20 = .ok (.invokevirtual 22, 3) := by decide +kernel
theorem dX3_lowestLike_23 : decode cX3_lowestLike 23 = .ok (.istore_n 3, 1) := by decide +kernel
theorem dX3_lowestLike_24 : decode cX3_lowestLike 24 = .ok (.iload_n 1, 1) := by decide +kernel
theorem dX3_lowestLike_25 : decode cX3_lowestLike 25 = .ok (.istore 4, 2) := by decide +kernel
theorem dX3_lowestLike_27 : decode cX3_lowestLike 27 = .ok (.iconst 0, 1) := by decide +kernel
theorem dX3_lowestLike_28 : decode cX3_lowestLike 28 = .ok (.istore 5, 2) := by decide +kernel
theorem dX3_lowestLike_30 : decode cX3_lowestLike 30 = .ok (.iload 5, 2) := by decide +kernel
theorem dX3_lowestLike_32 : decode cX3_lowestLike 32 = .ok (.bipush 6, 2) := by decide +kernel
theorem dX3_lowestLike_34 : decode cX3_lowestLike 34 = .ok (.if_icmp .ge 31, 3) := by decide +kernel
theorem dX3_lowestLike_37 : decode cX3_lowestLike 37 = .ok (.iload 4, 2) := by decide +kernel
theorem dX3_lowestLike_39 : decode cX3_lowestLike 39 = .ok (.iload_n 2, 1) := by decide +kernel
theorem dX3_lowestLike_40 : decode cX3_lowestLike 40 = .ok (.iload_n 3, 1) := by decide +kernel
theorem dX3_lowestLike_41 : decode cX3_lowestLike 41 = .ok (.invokestatic 28, 3) := by decide +kernel
theorem dX3_lowestLike_44 : decode cX3_lowestLike 44 = .ok (.istore 6, 2) := by decide +kernel
theorem dX3_lowestLike_46 : decode cX3_lowestLike 46 = .ok (.iload 6, 2) := by decide +kernel
theorem dX3_lowestLike_48 : decode cX3_lowestLike 48 = .ok (.iconst (-1), 1) := by decide +kernel
theorem dX3_lowestLike_49 : decode cX3_lowestLike 49 = .ok (.if_icmp .ne 6, 3) := by decide +kernel
theorem dX3_lowestLike_52 : decode cX3_lowestLike 52 = .ok (.iload 4, 2) := by decide +kernel
theorem dX3_lowestLike_54 : decode cX3_lowestLike 54 = .ok (.ireturn, 1) := by decide +kernel
theorem dX3_lowestLike_55 : decode cX3_lowestLike 55 = .ok (.iload 6, 2) := by decide +kernel
theorem dX3_lowestLike_57 : decode cX3_lowestLike 57 = .ok (.istore 4, 2) := by decide +kernel
theorem dX3_lowestLike_59 : decode cX3_lowestLike 59 = .ok (.iinc 5 1, 3) := by decide +kernel
theorem dX3_lowestLike_62 : decode cX3_lowestLike 62 = .ok (.goto (-32), 3) := by decide +kernel
theorem dX3_lowestLike_65 : decode cX3_lowestLike 65 = .ok (.iload 4, 2) := by decide +kernel
theorem dX3_lowestLike_67 : decode cX3_lowestLike 67 = .ok (.ireturn, 1) := by decide +kernel
set_option maxRecDepth 20000 in
theorem ggX3_isHighest_X1_inHands : GoodIn wsX3_isHighest wsX1_inHands := goodIn_r _ [6, 7, 42, 43, 44, 45, 46, 47, 48, 49] (by decide +kernel) (by decide +kernel)
set_option maxRecDepth 20000 in
theorem gX3_isHighest_X1_inHands : GoodIn wsX3_isHighest (wsV RX3 32 RX1 yX1_inHands wsX1_inHands) := goodIn_app (goodIn_of _ (by decide +kernel)) ggX3_isHighest_X1_inHands
set_option maxRecDepth 20000 in
theorem ggX3_isHighest_X1_handOf : GoodIn wsX3_isHighest wsX1_handOf := goodIn_r _ [11, 7, 42, 43, 44, 45, 46, 47, 48, 49] (by decide +kernel) (by decide +kernel)
set_option maxRecDepth 20000 in
theorem gX3_isHighest_X1_handOf : GoodIn wsX3_isHighest (wsV RX3 19 RX1 yX1_handOf wsX1_handOf) := goodIn_app (goodIn_of _ (by decide +kernel)) ggX3_isHighest_X1_handOf
set_option maxRecDepth 20000 in
theorem ggX3_isHighest_X1_inTrickSet : GoodIn wsX3_isHighest wsX1_inTrickSet := goodIn_r _ [15, 16, 17, 18, 19, 5, 20, 21, 22, 23, 24, 25, 42, 43, 44, 45, 46, 47, 48, 49] (by decide +kernel) (by decide +kernel)
set_option maxRecDepth 20000 in
theorem gX3_isHighest_X1_inTrickSet : GoodIn wsX3_isHighest (wsV RX3 35 RX1 yX1_inTrickSet wsX1_inTrickSet) := goodIn_app (goodIn_of _ (by decide +kernel)) ggX3_isHighest_X1_inTrickSet
set_option maxRecDepth 20000 in
theorem ggX3_isHighest_X0_suitOf : GoodIn wsX3_isHighest wsX0_suitOf := goodIn_r _ [29] (by decide +kernel) (by decide +kernel)
set_option maxRecDepth 20000 in
theorem gX3_isHighest_X0_suitOf : GoodIn wsX3_isHighest (va_wsS RX3 38 yX0_suitOf wsX0_suitOf) := goodIn_app (goodIn_of _ (by decide +kernel)) ggX3_isHighest_X0_suitOf
set_option maxRecDepth 20000 in
theorem ggX3_isHighest_X0_suitSet : GoodIn wsX3_isHighest wsX0_suitSet := goodIn_r _ [32] (by decide +kernel) (by decide +kernel)
set_option maxRecDepth 20000 in
theorem gX3_isHighest_X0_suitSet : GoodIn wsX3_isHighest (va_wsS RX3 41 yX0_suitSet wsX0_suitSet) := goodIn_app (goodIn_of _ (by decide +kernel)) ggX3_isHighest_X0_suitSet
set_option maxRecDepth 20000 in
theorem ggX3_isHighest_X0_highest : GoodIn wsX3_isHighest wsX0_highest := goodIn_r _ [35, 36, 37, 38, 39, 40] (by decide +kernel) (by decide +kernel)
set_option maxRecDepth 20000 in
theorem gX3_isHighest_X0_highest : GoodIn wsX3_isHighest (va_wsS RX3 44 yX0_highest wsX0_highest) := goodIn_app (goodIn_of _ (by decide +kernel)) ggX3_isHighest_X0_highest
theorem dX3_isHighest_0 : decode cX3_isHighest 0 = .ok (.aload_n 0, 1) := by decide +kernel
theorem dX3_isHighest_1 : decode cX3_isHighest 1 = .ok (.getfield 7, 3) := by decide +kernel
theorem dX3_isHighest_4 : decode cX3_isHighest 4 = .ok (.invokevirtual 32, 3) := by decide +kernel
theorem dX3_isHighest_7 : decode cX3_isHighest 7 = .ok (.aload_n 0, 1) := by decide +kernel
theorem dX3_isHighest_8 : decode cX3_isHighest 8 = .ok (.getfield 7, 3) := by decide +kernel
theorem dX3_isHighest_11 : decode cX3_isHighest 11 = .ok (.iload_n 2, 1) := by decide +kernel
theorem dX3_isHighest_12 : decode cX3_isHighest 12 = .ok (.invokevirtual 19, 3) := by decide +kernel
theorem dX3_isHighest_15 : decode cX3_isHighest 15 = .ok (.iconst (-1), 1) := by decide +kernel
theorem dX3_isHighest_16 : decode cX3_isHighest 16 = .ok (.ixor, 1) := by decide +kernel
theorem dX3_isHighest_17 : decode cX3_isHighest 17 = .ok (.iand, 1) := by decide +kernel
theorem dX3_isHighest_18 : decode cX3_isHighest 18 = .ok (.aload_n 0, 1) := by decide +kernel
theorem dX3_isHighest_19 : decode cX3_isHighest 19 = .ok (.getfield 7, 3) := by decide +kernel
theorem dX3_isHighest_22 : decode cX3_isHighest 22 = .ok (.invokevirtual 35, 3) := by decide +kernel
theorem dX3_isHighest_25 : decode cX3_isHighest 25 = .ok (.ior, 1) := by decide +kernel
theorem dX3_isHighest_26 : decode cX3_isHighest 26 = .ok (.istore_n 3, 1) := by decide +kernel
theorem dX3_isHighest_27 : decode cX3_isHighest 27 = .ok (.iload_n 3, 1) := by decide +kernel
theorem dX3_isHighest_28 : decode cX3_isHighest 28 = .ok (.iload_n 1, 1) := by decide +kernel
theorem dX3_isHighest_29 : decode cX3_isHighest 29 = .ok (.invokestatic 38, 3) := by decide +kernel
theorem dX3_isHighest_32 : decode cX3_isHighest 32 = .ok (.invokestatic 41, 3) := by decide +kernel
theorem dX3_isHighest_35 : decode cX3_isHighest 35 = .ok (.iand, 1) := by decide +kernel
theorem dX3_isHighest_36 : decode cX3_isHighest 36 = .ok (.invokestatic 44, 3) := by decide +kernel
theorem dX3_isHighest_39 : decode cX3_isHighest 39 = .ok (.iload_n 1, 1) := by decide +kernel
theorem dX3_isHighest_40 : decode cX3_isHighest 40 = .ok (.if_icmp .ge 7, 3) := by decide +kernel
theorem dX3_isHighest_43 : decode cX3_isHighest 43 = .ok (.iconst 1, 1) := by decide +kernel
theorem dX3_isHighest_44 : decode cX3_isHighest 44 = .ok (.goto 4, 3) := by decide +kernel
theorem dX3_isHighest_47 : decode cX3_isHighest 47 = .ok (.iconst 0, 1) := by decide +kernel
theorem dX3_isHighest_48 : decode cX3_isHighest 48 = .ok (.ireturn, 1) := by decide +kernel
set_option maxRecDepth 20000 in
theorem ggX3_quickTricks_X1_handOf : GoodIn wsX3_quickTricks wsX1_handOf := goodIn_r _ [6, 7, 50, 51, 52, 53, 54, 55, 56, 57] (by decide +kernel) (by decide +kernel)
set_option maxRecDepth 20000 in
theorem gX3_quickTricks_X1_handOf : GoodIn wsX3_quickTricks (wsV RX3 19 RX1 yX1_handOf wsX1_handOf) := goodIn_app (goodIn_of _ (by decide +kernel)) ggX3_quickTricks_X1_handOf
set_option maxRecDepth 20000 in
theorem ggX3_quickTricks_X0_holds : GoodIn wsX3_quickTricks wsX0_holds := goodIn_r _ [11] (by decide +kernel) (by decide +kernel)
set_option maxRecDepth 20000 in
theorem gX3_quickTricks_X0_holds : GoodIn wsX3_quickTricks (va_wsS RX3 47 yX0_holds wsX0_holds) := goodIn_app (goodIn_of _ (by decide +kernel)) ggX3_quickTricks_X0_holds
set_option maxRecDepth 20000 in
theorem ggX3_quickTricks_X3_isHighest : GoodIn wsX3_quickTricks wsX3_isHighest := goodIn_r _ [16, 1, 17, 18, 19, 5, 20, 7, 2, 3, 4, 6, 21, 22, 23, 24, 25, 26, 27, 28, 29, 30, 31, 32, 33, 34, 35, 36, 10, 37, 38, 39, 40, 41, 42, 43, 44, 45, 46, 47, 48, 49, 50, 51, 52, 53, 54, 55, 56, 57] (by decide +kernel) (by decide +kernel)
set_option maxRecDepth 20000 in
theorem gX3_quickTricks_X3_isHighest : GoodIn wsX3_quickTricks (wsV RX3 51 RX3 yX3_isHighest wsX3_isHighest) := goodIn_app (goodIn_of _ (by decide +kernel)) ggX3_quickTricks_X3_isHighest
theorem dX3_quickTricks_0 : decode cX3_quickTricks 0 = .ok (.aload_n 0, 1) := by decide +kernel
theorem dX3_quickTricks_1 : decode cX3_quickTricks 1 = .ok (.getfield 7, 3) := by decide +kernel
theorem dX3_quickTricks_4 : decode cX3_quickTricks 4 = .ok (.iload_n 1, 1) := by decide +kernel
theorem dX3_quickTricks_5 : decode cX3_quickTricks 5 = .ok (.invokevirtual 19, 3) := by decide +kernel
theorem dX3_quickTricks_8 : decode cX3_quickTricks 8 = .ok (.istore_n 2, 1) := by decide +kernel
theorem dX3_quickTricks_9 : decode cX3_quickTricks 9 = .ok (.iconst 0, 1) := by decide +kernel
theorem dX3_quickTricks_10 : decode cX3_quickTricks 10 = .ok (.istore_n 3, 1) := by decide +kernel
theorem dX3_quickTricks_11 : decode cX3_quickTricks 11 = .ok (.iconst 0, 1) := by decide +kernel
theorem dX3_quickTricks_12 : decode cX3_quickTricks 12 = .ok (.istore 4, 2) := by decide +kernel
theorem dX3_quickTricks_14 : decode cX3_quickTricks 14 = .ok (.iload 4, 2) := by decide +kernel
theorem dX3_quickTricks_16 : decode cX3_quickTricks 16 = .ok (.bipush 24, 2) := by decide +kernel
theorem dX3_quickTricks_18 : decode cX3_quickTricks 18 = .ok (.if_icmp .ge 31, 3) := by decide +kernel
theorem dX3_quickTricks_21 : decode cX3_quickTricks 21 = .ok (.iload_n 2, 1) := by decide +kernel
theorem dX3_quickTricks_22 : decode cX3_quickTricks 22 = .ok (.iload 4, 2) := by decide +kernel
theorem dX3_quickTricks_24 : decode cX3_quickTricks 24 = .ok (.invokestatic 47, 3) := by decide +kernel
theorem dX3_quickTricks_27 : decode cX3_quickTricks 27 = .ok (.ifCond .eq 16, 3) := by decide +kernel
theorem dX3_quickTricks_30 : decode cX3_quickTricks 30 = .ok (.aload_n 0, 1) := by decide +kernel
theorem dX3_quickTricks_31 : decode cX3_quickTricks 31 = .ok (.iload 4, 2) := by decide +kernel
theorem dX3_quickTricks_33 : decode cX3_quickTricks 33 = .ok (.iload_n 1, 1) := by decide +kernel
theorem dX3_quickTricks_34 : decode cX3_quickTricks 34 = .ok (.invokevirtual 51, 3) := by decide +kernel
theorem dX3_quickTricks_37 : decode cX3_quickTricks 37 = .ok (.ifCond .eq 6, 3) := by decide +kernel
theorem dX3_quickTricks_40 : decode cX3_quickTricks 40 = .ok (.iinc 3 1, 3) := by decide +kernel
theorem dX3_quickTricks_43 : decode cX3_quickTricks 43 = .ok (.iinc 4 1, 3) := by decide +kernel
theorem dX3_quickTricks_46 : decode cX3_quickTricks 46 = .ok (.goto (-32), 3) := by decide +kernel
theorem dX3_quickTricks_49 : decode cX3_quickTricks 49 = .ok (.iload_n 3, 1) := by decide +kernel
theorem dX3_quickTricks_50 : decode cX3_quickTricks 50 = .ok (.ireturn, 1) := by decide +kernel
set_option maxRecDepth 20000 in
theorem ggX3_forkKind_X1_inHands : GoodIn wsX3_forkKind wsX1_inHands := goodIn_r _ [6, 7, 37, 38, 39, 40, 41, 42, 43, 44] (by decide +kernel) (by decide +kernel)
set_option maxRecDepth 20000 in
theorem gX3_forkKind_X1_inHands : GoodIn wsX3_forkKind (wsV RX3 32 RX1 yX1_inHands wsX1_inHands) := goodIn_app (goodIn_of _ (by decide +kernel)) ggX3_forkKind_X1_inHands
set_option maxRecDepth 20000 in
theorem ggX3_forkKind_X0_suitSet : GoodIn wsX3_forkKind wsX0_suitSet := goodIn_r _ [11] (by decide +kernel) (by decide +kernel)
set_option maxRecDepth 20000 in
theorem gX3_forkKind_X0_suitSet : GoodIn wsX3_forkKind (va_wsS RX3 41 yX0_suitSet wsX0_suitSet) := goodIn_app (goodIn_of _ (by decide +kernel)) ggX3_forkKind_X0_suitSet
set_option maxRecDepth 20000 in
theorem ggX3_forkKind_J6_bitCount_0f7a4 : GoodIn wsX3_forkKind wsJ6_bitCount_0f7a4 := goodIn_r _ [15, 16, 17, 18] (by decide +kernel) (by decide +kernel)
set_option maxRecDepth 20000 in
theorem gX3_forkKind_J6_bitCount_0f7a4 : GoodIn wsX3_forkKind (va_wsS RX3 54 yJ6_bitCount_0f7a4 wsJ6_bitCount_0f7a4) := goodIn_app (goodIn_of _ (by decide +kernel)) ggX3_forkKind_J6_bitCount_0f7a4
set_option maxRecDepth 20000 in
theorem ggX3_forkKind_X0_highest : GoodIn wsX3_forkKind wsX0_highest := goodIn_r _ [21, 22, 23, 14, 24, 25] (by decide +kernel) (by decide +kernel)
set_option maxRecDepth 20000 in
theorem gX3_forkKind_X0_highest : GoodIn wsX3_forkKind (va_wsS RX3 44 yX0_highest wsX0_highest) := goodIn_app (goodIn_of _ (by decide +kernel)) ggX3_forkKind_X0_highest
set_option maxRecDepth 20000 in
theorem ggX3_forkKind_X1_ownerOf : GoodIn wsX3_forkKind wsX1_ownerOf := goodIn_r _ [29, 7, 30, 31, 10, 32, 37, 38, 39, 40, 41, 42, 43, 44] (by decide +kernel) (by decide +kernel)
set_option maxRecDepth 20000 in
theorem gX3_forkKind_X1_ownerOf : GoodIn wsX3_forkKind (wsV RX3 13 RX1 yX1_ownerOf wsX1_ownerOf) := goodIn_app (goodIn_of _ (by decide +kernel)) ggX3_forkKind_X1_ownerOf
set_option maxRecDepth 20000 in
theorem ggX3_forkKind_X0_sideOf : GoodIn wsX3_forkKind wsX0_sideOf := goodIn_r _ [35] (by decide +kernel) (by decide +kernel)
set_option maxRecDepth 20000 in
theorem gX3_forkKind_X0_sideOf : GoodIn wsX3_forkKind (va_wsS RX3 59 yX0_sideOf wsX0_sideOf) := goodIn_app (goodIn_of _ (by decide +kernel)) ggX3_forkKind_X0_sideOf
theorem dX3_forkKind_0 : decode cX3_forkKind 0 = .ok (.aload_n 0, 1) := by decide +kernel
theorem dX3_forkKind_1 : decode cX3_forkKind 1 = .ok (.getfield 7, 3) := by decide +kernel
theorem dX3_forkKind_4 : decode cX3_forkKind 4 = .ok (.invokevirtual 32, 3) := by decide +kernel
theorem dX3_forkKind_7 : decode cX3_forkKind 7 = .ok (.iload_n 2, 1) := by decide +kernel
theorem dX3_forkKind_8 : decode cX3_forkKind 8 = .ok (.invokestatic 41, 3) := by decide +kernel
theorem dX3_forkKind_11 : decode cX3_forkKind 11 = .ok (.iand, 1) := by decide +kernel
theorem dX3_forkKind_12 : decode cX3_forkKind 12 = .ok (.istore_n 3, 1) := by decide +kernel
theorem dX3_forkKind_13 : decode cX3_forkKind 13 = .ok (.iload_n 3, 1) := by decide +kernel
theorem dX3_forkKind_14 : decode cX3_forkKind 14 = .ok (.invokestatic 54, 3) := by decide +kernel
theorem dX3_forkKind_17 : decode cX3_forkKind 17 = .ok (.iconst 3, 1) := by decide +kernel
theorem dX3_forkKind_18 : decode cX3_forkKind 18 = .ok (.if_icmp .ge 5, 3) := by decide +kernel
theorem dX3_forkKind_21 : decode cX3_forkKind 21 = .ok (.iconst 0, 1) := by decide +kernel
theorem dX3_forkKind_22 : decode cX3_forkKind 22 = .ok (.ireturn, 1) := by decide +kernel
theorem dX3_forkKind_23 : decode cX3_forkKind 23 = .ok (.iload_n 3, 1) := by decide +kernel
theorem dX3_forkKind_24 : decode cX3_forkKind 24 = .ok (.invokestatic 44, 3) := by decide +kernel
theorem dX3_forkKind_27 : decode cX3_forkKind 27 = .ok (.istore 4, 2) := by decide +kernel
theorem dX3_forkKind_29 : decode cX3_forkKind 29 = .ok (.iload_n 3, 1) := by decide +kernel
theorem dX3_forkKind_30 : decode cX3_forkKind 30 = .ok (.iconst 1, 1) := by decide +kernel
theorem dX3_forkKind_31 : decode cX3_forkKind 31 = .ok (.iload 4, 2) := by decide +kernel
theorem dX3_forkKind_33 : decode cX3_forkKind 33 = .ok (.ishl, 1) := by decide +kernel
theorem dX3_forkKind_34 : decode cX3_forkKind 34 = .ok (.iconst (-1), 1) := by decide +kernel
theorem dX3_forkKind_35 : decode cX3_forkKind 35 = .ok (.ixor, 1) := by decide +kernel
theorem dX3_forkKind_36 : decode cX3_forkKind 36 = .ok (.iand, 1) := by decide +kernel
theorem dX3_forkKind_37 : decode cX3_forkKind 37 = .ok (.invokestatic 44, 3) := by decide +kernel
theorem dX3_forkKind_40 : decode cX3_forkKind 40 = .ok (.istore 5, 2) := by decide +kernel
theorem dX3_forkKind_42 : decode cX3_forkKind 42 = .ok (.iload_n 3, 1) := by decide +kernel
theorem dX3_forkKind_43 : decode cX3_forkKind 43 = .ok (.iconst 1, 1) := by decide +kernel
theorem dX3_forkKind_44 : decode cX3_forkKind 44 = .ok (.iload 4, 2) := by decide +kernel
theorem dX3_forkKind_46 : decode cX3_forkKind 46 = .ok (.ishl, 1) := by decide +kernel
theorem dX3_forkKind_47 : decode cX3_forkKind 47 = .ok (.iconst (-1), 1) := by decide +kernel
theorem dX3_forkKind_48 : decode cX3_forkKind 48 = .ok (.ixor, 1) := by decide +kernel
theorem dX3_forkKind_49 : decode cX3_forkKind 49 = .ok (.iand, 1) := by decide +kernel
theorem dX3_forkKind_50 : decode cX3_forkKind 50 = .ok (.iconst 1, 1) := by decide +kernel
theorem dX3_forkKind_51 : decode cX3_forkKind 51 = .ok (.iload 5, 2) := by decide +kernel
theorem dX3_forkKind_53 : decode cX3_forkKind 53 = .ok (.ishl, 1) := by decide +kernel
theorem dX3_forkKind_54 : decode cX3_forkKind 54 = .ok (.iconst (-1), 1) := by decide +kernel
theorem dX3_forkKind_55 : decode cX3_forkKind 55 = .ok (.ixor, 1) := by decide +kernel
theorem dX3_forkKind_56 : decode cX3_forkKind 56 = .ok (.iand, 1) := by decide +kernel
theorem dX3_forkKind_57 : decode cX3_forkKind 57 = .ok (.invokestatic 44, 3) := by decide +kernel
theorem dX3_forkKind_60 : decode cX3_forkKind 60 = .ok (.istore 6, 2) := by decide +kernel
theorem dX3_forkKind_62 : decode cX3_forkKind 62 = .ok (.aload_n 0, 1) := by decide +kernel
theorem dX3_forkKind_63 : decode cX3_forkKind 63 = .ok (.getfield 7, 3) := by decide +kernel
theorem dX3_forkKind_66 : decode cX3_forkKind 66 = .ok (.iload 5, 2) := by decide +kernel
theorem dX3_forkKind_68 : decode cX3_forkKind 68 = .ok (.invokevirtual 13, 3) := by decide +kernel
theorem dX3_forkKind_71 : decode cX3_forkKind 71 = .ok (.istore 7, 2) := by decide +kernel
theorem dX3_forkKind_73 : decode cX3_forkKind 73 = .ok (.aload_n 0, 1) := by decide +kernel
theorem dX3_forkKind_74 : decode cX3_forkKind 74 = .ok (.getfield 7, 3) := by decide +kernel
theorem dX3_forkKind_77 : decode cX3_forkKind 77 = .ok (.iload 4, 2) := by decide +kernel
theorem dX3_forkKind_79 : decode cX3_forkKind 79 = .ok (.invokevirtual 13, 3) := by decide +kernel
theorem dX3_forkKind_82 : decode cX3_forkKind 82 = .ok (.iload_n 1, 1) := by decide +kernel
theorem dX3_forkKind_83 : decode cX3_forkKind 83 = .ok (.if_icmp .ne 28, 3) := by decide +kernel
theorem dX3_forkKind_86 : decode cX3_forkKind 86 = .ok (.aload_n 0, 1) := by decide +kernel
theorem dX3_forkKind_87 : decode cX3_forkKind 87 = .ok (.getfield 7, 3) := by decide +kernel
theorem dX3_forkKind_90 : decode cX3_forkKind 90 = .ok (.iload 6, 2) := by decide +kernel
theorem dX3_forkKind_92 : decode cX3_forkKind 92 = .ok (.invokevirtual 13, 3) := by decide +kernel
theorem dX3_forkKind_95 : decode cX3_forkKind 95 = .ok (.iload_n 1, 1) := by decide +kernel
theorem dX3_forkKind_96 : decode cX3_forkKind 96 = .ok (.if_icmp .ne 15, 3) := by decide +kernel
theorem dX3_forkKind_99 : decode cX3_forkKind 99 = .ok (.iload 7, 2) := by decide +kernel
theorem dX3_forkKind_101 : decode cX3_forkKind 101 = .ok (.invokestatic 59, 3) := by decide +kernel
theorem dX3_forkKind_104 : decode cX3_forkKind 104 = .ok (.iload_n 1, 1) := by decide +kernel
theorem dX3_forkKind_105 : decode cX3_forkKind 105 = .ok (.invokestatic 59, 3) := by decide +kernel
theorem dX3_forkKind_108 : decode cX3_forkKind 108 = .ok (.if_icmp .ne 5, 3) := by decide +kernel
theorem dX3_forkKind_111 : decode cX3_forkKind 111 = .ok (.iconst 0, 1) := by decide +kernel
theorem dX3_forkKind_112 : decode cX3_forkKind 112 = .ok (.ireturn, 1) := by decide +kernel
theorem dX3_forkKind_113 : decode cX3_forkKind 113 = .ok (.iload 7, 2) := by decide +kernel
theorem dX3_forkKind_115 : decode cX3_forkKind 115 = .ok (.iconst 1, 1) := by decide +kernel
theorem dX3_forkKind_116 : decode cX3_forkKind 116 = .ok (.iadd, 1) := by decide +kernel
theorem dX3_forkKind_117 : decode cX3_forkKind 117 = .ok (.iconst 4, 1) := by decide +kernel
theorem dX3_forkKind_118 : decode cX3_forkKind 118 = .ok (.irem, 1) := by decide +kernel
theorem dX3_forkKind_119 : decode cX3_forkKind 119 = .ok (.iload_n 1, 1) := by decide +kernel
theorem dX3_forkKind_120 : decode cX3_forkKind 120 = .ok (.if_icmp .ne 7, 3) := by decide +kernel
theorem dX3_forkKind_123 : decode cX3_forkKind 123 = .ok (.iconst 2, 1) := by decide +kernel
theorem dX3_forkKind_124 : decode cX3_forkKind 124 = .ok (.goto 4, 3) := by decide +kernel
theorem dX3_forkKind_127 : decode cX3_forkKind 127 = .ok (.iconst 1, 1) := by decide +kernel
theorem dX3_forkKind_128 : decode cX3_forkKind 128 = .ok (.ireturn, 1) := by decide +kernel
set_option maxRecDepth 20000 in
theorem ggX3_goodForksOf_X3_forkKind : GoodIn wsX3_goodForksOf wsX3_forkKind := goodIn_r _ [5, 6, 7, 8, 9, 10, 11, 12, 13, 14, 15, 16, 17, 18, 19, 20, 21, 22, 23, 24, 25, 26, 27, 28, 29, 30, 31, 32, 33, 34, 35, 36, 37, 38, 39, 40, 41, 42, 43, 44, 45, 46, 47, 48, 49] (by decide +kernel) (by decide +kernel)
set_option maxRecDepth 20000 in
theorem gX3_goodForksOf_X3_forkKind : GoodIn wsX3_goodForksOf (wsV RX3 62 RX3 yX3_forkKind wsX3_forkKind) := goodIn_app (goodIn_of _ (by decide +kernel)) ggX3_goodForksOf_X3_forkKind
theorem dX3_goodForksOf_0 : decode cX3_goodForksOf 0 = .ok (.iconst 0, 1) := by decide +kernel
theorem dX3_goodForksOf_1 : decode cX3_goodForksOf 1 = .ok (.istore_n 2, 1) := by decide +kernel
theorem dX3_goodForksOf_2 : decode cX3_goodForksOf 2 = .ok (.iload_n 1, 1) := by decide +kernel
theorem dX3_goodForksOf_3 : decode cX3_goodForksOf 3 = .ok (.istore_n 3, 1) := by decide +kernel
theorem dX3_goodForksOf_4 : decode cX3_goodForksOf 4 = .ok (.iload_n 3, 1) := by decide +kernel
theorem dX3_goodForksOf_5 : decode cX3_goodForksOf 5 = .ok (.iconst 4, 1) := by decide +kernel
theorem dX3_goodForksOf_6 : decode cX3_goodForksOf 6 = .ok (.if_icmp .ge 38, 3) := by decide +kernel
theorem dX3_goodForksOf_9 : decode cX3_goodForksOf 9 = .ok (.iconst 0, 1) := by decide +kernel
theorem dX3_goodForksOf_10 : decode cX3_goodForksOf 10 = .ok (.istore 4, 2) := by decide +kernel
theorem dX3_goodForksOf_12 : decode cX3_goodForksOf 12 = .ok (.iload 4, 2) := by decide +kernel
theorem dX3_goodForksOf_14 : decode cX3_goodForksOf 14 = .ok (.iconst 4, 1) := by decide +kernel
theorem dX3_goodForksOf_15 : decode cX3_goodForksOf 15 = .ok (.if_icmp .ge 23, 3) := by decide +kernel
theorem dX3_goodForksOf_18 : decode cX3_goodForksOf 18 = .ok (.aload_n 0, 1) := by decide +kernel
theorem dX3_goodForksOf_19 : decode cX3_goodForksOf 19 = .ok (.iload_n 3, 1) := by decide +kernel
theorem dX3_goodForksOf_20 : decode cX3_goodForksOf 20 = .ok (.iload 4, 2) := by decide +kernel
theorem dX3_goodForksOf_22 : decode cX3_goodForksOf 22 = .ok (.invokevirtual 62, 3) := by decide +kernel
theorem dX3_goodForksOf_25 : decode cX3_goodForksOf 25 = .ok (.iconst 2, 1) := by decide +kernel
theorem dX3_goodForksOf_26 : decode cX3_goodForksOf 26 = .ok (.if_icmp .ne 6, 3) := by decide +kernel
theorem dX3_goodForksOf_29 : decode cX3_goodForksOf 29 = .ok (.iinc 2 1, 3) := by decide +kernel
theorem dX3_goodForksOf_32 : decode cX3_goodForksOf 32 = .ok (.iinc 4 1, 3) := by decide +kernel
theorem dX3_goodForksOf_35 : decode cX3_goodForksOf 35 = .ok (.goto (-23), 3) := by decide +kernel
theorem dX3_goodForksOf_38 : decode cX3_goodForksOf 38 = .ok (.iinc 3 2, 3) := by decide +kernel
theorem dX3_goodForksOf_41 : decode cX3_goodForksOf 41 = .ok (.goto (-37), 3) := by decide +kernel
theorem dX3_goodForksOf_44 : decode cX3_goodForksOf 44 = .ok (.iload_n 2, 1) := by decide +kernel
theorem dX3_goodForksOf_45 : decode cX3_goodForksOf 45 = .ok (.ireturn, 1) := by decide +kernel
set_option maxRecDepth 20000 in
theorem ggX4_init_X2_init : GoodIn wsX4_init wsX2_init := goodIn_r _ [11, 12, 2, 3, 13, 14, 17] (by decide +kernel) (by decide +kernel)
set_option maxRecDepth 20000 in
theorem gX4_init_X2_init : GoodIn wsX4_init (wsX2_init) := ggX4_init_X2_init
theorem dX4_init_0 : decode cX4_init 0 = .ok (.aload_n 0, 1) := by decide +kernel
theorem dX4_init_1 : decode cX4_init 1 = .ok (.invokespecial 1, 3) := by decide +kernel
theorem dX4_init_4 : decode cX4_init 4 = .ok (.aload_n 0, 1) := by decide +kernel
theorem dX4_init_5 : decode cX4_init 5 = .ok (.aload_n 1, 1) := by decide +kernel
theorem dX4_init_6 : decode cX4_init 6 = .ok (.putfield 7, 3) := by decide +kernel
theorem dX4_init_9 : decode cX4_init 9 = .ok (.aload_n 0, 1) := by decide +kernel
theorem dX4_init_10 : decode cX4_init 10 = .ok (.new 13, 3) := by decide +kernel
theorem dX4_init_13 : decode cX4_init 13 = .ok (.dup, 1) := by decide +kernel
theorem dX4_init_14 : decode cX4_init 14 = .ok (.invokespecial 15, 3) := by decide +kernel
theorem dX4_init_17 : decode cX4_init 17 = .ok (.putfield 16, 3) := by decide +kernel
theorem dX4_init_20 : decode cX4_init 20 = .ok (.return_, 1) := by decide +kernel
set_option maxRecDepth 20000 in
theorem ggX4_forget_X2_clear : GoodIn wsX4_forget wsX2_clear := goodIn_r _ [6, 7, 10] (by decide +kernel) (by decide +kernel)
set_option maxRecDepth 20000 in
theorem gX4_forget_X2_clear : GoodIn wsX4_forget (wsV RX4 20 RX2 yX2_clear wsX2_clear) := goodIn_app (goodIn_of _ (by decide +kernel)) ggX4_forget_X2_clear
theorem dX4_forget_0 : decode cX4_forget 0 = .ok (.aload_n 0, 1) := by decide +kernel
theorem dX4_forget_1 : decode cX4_forget 1 = .ok (.getfield 16, 3) := by decide +kernel
theorem dX4_forget_4 : decode cX4_forget 4 = .ok (.invokevirtual 20, 3) := by decide +kernel
theorem dX4_forget_7 : decode cX4_forget 7 = .ok (.return_, 1) := by decide +kernel
set_option maxRecDepth 20000 in
theorem ggX4_mostOfSide0_X1_cardsLeft : GoodIn wsX4_mostOfSide0 wsX1_cardsLeft := goodIn_r _ [6, 7, 8, 172, 173, 174, 175, 176, 177, 178, 179] (by decide +kernel) (by decide +kernel)
set_option maxRecDepth 20000 in
theorem gX4_mostOfSide0_X1_cardsLeft : GoodIn wsX4_mostOfSide0 (wsV RX4 23 RX1 yX1_cardsLeft wsX1_cardsLeft) := goodIn_app (goodIn_of _ (by decide +kernel)) ggX4_mostOfSide0_X1_cardsLeft
set_option maxRecDepth 20000 in
theorem ggX4_mostOfSide0_X1_tricksLeft : GoodIn wsX4_mostOfSide0 wsX1_tricksLeft := goodIn_r _ [12, 7, 13, 14, 15, 5, 16, 8, 172, 173, 174, 175, 176, 177, 178, 179] (by decide +kernel) (by decide +kernel)
set_option maxRecDepth 20000 in
theorem gX4_mostOfSide0_X1_tricksLeft : GoodIn wsX4_mostOfSide0 (wsV RX4 29 RX1 yX1_tricksLeft wsX1_tricksLeft) := goodIn_app (goodIn_of _ (by decide +kernel)) ggX4_mostOfSide0_X1_tricksLeft
set_option maxRecDepth 20000 in
theorem ggX4_mostOfSide0_X4_search : GoodIn wsX4_mostOfSide0 wsX4_search := goodIn_r _ [21, 1, 22, 23, 24, 25, 26, 27, 28, 29, 30, 31, 32, 5, 33, 8, 34, 35, 36, 20, 37, 38, 39, 40, 41, 42, 43, 44, 45, 13, 14, 15, 16, 46, 47, 48, 49, 50, 51, 52, 53, 54, 55, 56, 57, 58, 59, 60, 61, 62, 63, 64, 65, 66, 67, 68, 69, 70, 71, 72, 73, 74, 75, 76, 77, 78, 79, 3, 4, 6, 7, 80, 81, 82, 83, 84, 85, 86, 87, 88, 89, 90, 91, 92, 93, 94, 95, 96, 97, 98, 99, 100, 101, 102, 103, 104, 105, 106, 107, 108, 109, 110, 111, 112, 113, 114, 115, 116, 117, 118, 119, 120, 121, 122, 123, 124, 125, 126, 127, 128, 129, 130, 131, 132, 133, 134, 135, 136, 137, 138, 139, 140, 141, 142, 143, 144, 145, 146, 147, 148, 149, 150, 151, 152, 153, 154, 155, 156, 157, 158, 159, 160, 161, 17, 18, 19, 162, 163, 164, 165, 166, 167, 168, 169, 170, 171, 172, 173, 174, 175, 176, 177, 178, 179, 180] (by decide +kernel) (by decide +kernel)
set_option maxRecDepth 20000 in
theorem gX4_mostOfSide0_X4_search : GoodIn wsX4_mostOfSide0 (wsV RX4 32 RX4 yX4_search wsX4_search) := goodIn_app (goodIn_of _ (by decide +kernel)) ggX4_mostOfSide0_X4_search
theorem dX4_mostOfSide0_0 : decode cX4_mostOfSide0 0 = .ok (.aload_n 0, 1) := by decide +kernel
theorem dX4_mostOfSide0_1 : decode cX4_mostOfSide0 1 = .ok (.aload_n 0, 1) := by decide +kernel
theorem dX4_mostOfSide0_2 : decode cX4_mostOfSide0 2 = .ok (.getfield 7, 3) := by decide +kernel
theorem dX4_mostOfSide0_5 : decode cX4_mostOfSide0 5 = .ok (.invokevirtual 23, 3) := by decide +kernel
theorem dX4_mostOfSide0_8 : decode cX4_mostOfSide0 8 = .ok (.iconst 0, 1) := by decide +kernel
theorem dX4_mostOfSide0_9 : decode cX4_mostOfSide0 9 = .ok (.aload_n 0, 1) := by decide +kernel
theorem dX4_mostOfSide0_10 : decode cX4_mostOfSide0 10 = .ok (.getfield 7, 3) := by decide +kernel
theorem dX4_mostOfSide0_13 : decode cX4_mostOfSide0 13 = .ok (.invokevirtual 29, 3) := by decide +kernel
theorem dX4_mostOfSide0_16 : decode cX4_mostOfSide0 16 = .ok (.invokevirtual 32, 3) := by decide +kernel
theorem dX4_mostOfSide0_19 : decode cX4_mostOfSide0 19 = .ok (.ireturn, 1) := by decide +kernel
set_option maxRecDepth 20000 in
theorem ggX4_worthOf_X1_tricksLeft : GoodIn wsX4_worthOf wsX1_tricksLeft := goodIn_r _ [6, 7, 8, 9, 10, 5, 11, 12, 172, 173, 174, 175, 176, 177, 178, 179] (by decide +kernel) (by decide +kernel)
set_option maxRecDepth 20000 in
theorem gX4_worthOf_X1_tricksLeft : GoodIn wsX4_worthOf (wsV RX4 29 RX1 yX1_tricksLeft wsX1_tricksLeft) := goodIn_app (goodIn_of _ (by decide +kernel)) ggX4_worthOf_X1_tricksLeft
set_option maxRecDepth 20000 in
theorem ggX4_worthOf_X1_mover : GoodIn wsX4_worthOf wsX1_mover := goodIn_r _ [16, 17, 18, 19, 20, 5, 21, 7, 12, 8, 9, 10, 11, 22, 23, 24, 25, 26, 27, 28, 29, 30, 172, 173, 174, 175, 176, 177, 178, 179] (by decide +kernel) (by decide +kernel)
set_option maxRecDepth 20000 in
theorem gX4_worthOf_X1_mover : GoodIn wsX4_worthOf (wsV RX4 36 RX1 yX1_mover wsX1_mover) := goodIn_app (goodIn_of _ (by decide +kernel)) ggX4_worthOf_X1_mover
set_option maxRecDepth 20000 in
theorem ggX4_worthOf_X0_sideOf : GoodIn wsX4_worthOf wsX0_sideOf := goodIn_r _ [34] (by decide +kernel) (by decide +kernel)
set_option maxRecDepth 20000 in
theorem gX4_worthOf_X0_sideOf : GoodIn wsX4_worthOf (va_wsS RX4 39 yX0_sideOf wsX0_sideOf) := goodIn_app (goodIn_of _ (by decide +kernel)) ggX4_worthOf_X0_sideOf
set_option maxRecDepth 20000 in
theorem ggX4_worthOf_X1_lay : GoodIn wsX4_worthOf wsX1_lay := goodIn_r _ [38, 12, 39, 40, 14, 15, 5, 16, 17, 18, 19, 20, 21, 7, 8, 9, 10, 11, 22, 23, 24, 25, 26, 27, 28, 29, 30, 41, 42, 43, 44, 45, 46, 47, 48, 49, 50, 51, 52, 53, 54, 55, 56, 57, 58, 172, 173, 174, 175, 176, 177, 178, 179] (by decide +kernel) (by decide +kernel)
set_option maxRecDepth 20000 in
theorem gX4_worthOf_X1_lay : GoodIn wsX4_worthOf (wsV RX4 45 RX1 yX1_lay wsX1_lay) := goodIn_app (goodIn_of _ (by decide +kernel)) ggX4_worthOf_X1_lay
set_option maxRecDepth 20000 in
theorem ggX4_worthOf_X4_gainOf : GoodIn wsX4_worthOf wsX4_gainOf := goodIn_r _ [62, 31, 32, 33, 34] (by decide +kernel) (by decide +kernel)
set_option maxRecDepth 20000 in
theorem gX4_worthOf_X4_gainOf : GoodIn wsX4_worthOf (va_wsS RX4 48 yX4_gainOf wsX4_gainOf) := goodIn_app (goodIn_of _ (by decide +kernel)) ggX4_worthOf_X4_gainOf
set_option maxRecDepth 20000 in
theorem ggX4_worthOf_X1_cardsLeft : GoodIn wsX4_worthOf wsX1_cardsLeft := goodIn_r _ [21, 7, 12, 172, 173, 174, 175, 176, 177, 178, 179] (by decide +kernel) (by decide +kernel)
set_option maxRecDepth 20000 in
theorem gX4_worthOf_X1_cardsLeft : GoodIn wsX4_worthOf (wsV RX4 23 RX1 yX1_cardsLeft wsX1_cardsLeft) := goodIn_app (goodIn_of _ (by decide +kernel)) ggX4_worthOf_X1_cardsLeft
set_option maxRecDepth 20000 in
theorem ggX4_worthOf_X4_search : GoodIn wsX4_worthOf wsX4_search := goodIn_r _ [67, 1, 68, 69, 70, 71, 72, 73, 74, 75, 76, 28, 29, 5, 30, 12, 77, 78, 79, 61, 80, 81, 82, 83, 84, 85, 86, 87, 45, 8, 9, 10, 11, 22, 23, 24, 25, 26, 88, 89, 90, 91, 92, 93, 94, 95, 96, 97, 98, 99, 100, 101, 102, 103, 104, 105, 106, 107, 108, 109, 110, 13, 14, 15, 16, 17, 18, 19, 20, 21, 7, 27, 31, 32, 33, 34, 111, 112, 113, 114, 40, 115, 116, 117, 118, 119, 120, 121, 122, 50, 51, 52, 53, 39, 123, 124, 125, 126, 127, 128, 129, 130, 131, 132, 133, 134, 135, 136, 137, 138, 139, 140, 141, 142, 143, 144, 145, 146, 147, 148, 149, 150, 151, 152, 153, 154, 155, 156, 157, 158, 159, 160, 161, 35, 36, 37, 38, 41, 42, 43, 44, 46, 47, 48, 49, 54, 55, 56, 57, 58, 59, 60, 62, 64, 65, 66, 162, 163, 164, 165, 166, 167, 168, 169, 170, 171, 172, 173, 174, 175, 176, 177, 178, 179, 180] (by decide +kernel) (by decide +kernel)
set_option maxRecDepth 20000 in
theorem gX4_worthOf_X4_search : GoodIn wsX4_worthOf (wsV RX4 32 RX4 yX4_search wsX4_search) := goodIn_app (goodIn_of _ (by decide +kernel)) ggX4_worthOf_X4_search
set_option maxRecDepth 20000 in
theorem ggX4_worthOf_X1_lift : GoodIn wsX4_worthOf wsX1_lift := goodIn_r _ [165, 12, 50, 51, 52, 5, 53, 39, 40, 14, 15, 16, 17, 18, 19, 20, 21, 7, 8, 9, 10, 11, 22, 23, 24, 25, 26, 27, 28, 29, 30, 166, 167, 168, 169, 45, 172, 173, 174, 175, 176, 177, 178, 179] (by decide +kernel) (by decide +kernel)
set_option maxRecDepth 20000 in
theorem gX4_worthOf_X1_lift : GoodIn wsX4_worthOf (wsV RX4 51 RX1 yX1_lift wsX1_lift) := goodIn_app (goodIn_of _ (by decide +kernel)) ggX4_worthOf_X1_lift
theorem dX4_worthOf_0 : decode cX4_worthOf 0 = .ok (.aload_n 0, 1) := by decide +kernel
theorem dX4_worthOf_1 : decode cX4_worthOf 1 = .ok (.getfield 7, 3) := by decide +kernel
theorem dX4_worthOf_4 : decode cX4_worthOf 4 = .ok (.invokevirtual 29, 3) := by decide +kernel
theorem dX4_worthOf_7 : decode cX4_worthOf 7 = .ok (.istore_n 2, 1) := by decide +kernel
theorem dX4_worthOf_8 : decode cX4_worthOf 8 = .ok (.aload_n 0, 1) := by decide +kernel
theorem dX4_worthOf_9 : decode cX4_worthOf 9 = .ok (.getfield 7, 3) := by decide +kernel
theorem dX4_worthOf_12 : decode cX4_worthOf 12 = .ok (.invokevirtual 36, 3) := by decide +kernel
theorem dX4_worthOf_15 : decode cX4_worthOf 15 = .ok (.invokestatic 39, 3) := by decide +kernel
theorem dX4_worthOf_18 : decode cX4_worthOf 18 = .ok (.istore_n 3, 1) := by decide +kernel
theorem dX4_worthOf_19 : decode cX4_worthOf 19 = .ok (.aload_n 0, 1) := by decide +kernel
theorem dX4_worthOf_20 : decode cX4_worthOf 20 = .ok (.getfield 7, 3) := by decide +kernel
theorem dX4_worthOf_23 : decode cX4_worthOf 23 = .ok (.iload_n 1, 1) := by decide +kernel
theorem dX4_worthOf_24 : decode cX4_worthOf 24 = .ok (.invokevirtual 45, 3) := by decide +kernel
theorem dX4_worthOf_27 : decode cX4_worthOf 27 = .ok (.invokestatic 48, 3) := by decide +kernel
theorem dX4_worthOf_30 : decode cX4_worthOf 30 = .ok (.istore 4, 2) := by decide +kernel
theorem dX4_worthOf_32 : decode cX4_worthOf 32 = .ok (.iload 4, 2) := by decide +kernel
theorem dX4_worthOf_34 : decode cX4_worthOf 34 = .ok (.aload_n 0, 1) := by decide +kernel
theorem dX4_worthOf_35 : decode cX4_worthOf 35 = .ok (.aload_n 0, 1) := by decide +kernel
theorem dX4_worthOf_36 : decode cX4_worthOf 36 = .ok (.getfield 7, 3) := by decide +kernel
theorem dX4_worthOf_39 : decode cX4_worthOf 39 = .ok (.invokevirtual 23, 3) := by decide +kernel
theorem dX4_worthOf_42 : decode cX4_worthOf 42 = .ok (.iconst 0, 1) := by decide +kernel
theorem dX4_worthOf_43 : decode cX4_worthOf 43 = .ok (.iload_n 2, 1) := by decide +kernel
theorem dX4_worthOf_44 : decode cX4_worthOf 44 = .ok (.invokevirtual 32, 3) := by decide +kernel
theorem dX4_worthOf_47 : decode cX4_worthOf 47 = .ok (.iadd, 1) := by decide +kernel
theorem dX4_worthOf_48 : decode cX4_worthOf 48 = .ok (.istore 5, 2) := by decide +kernel
theorem dX4_worthOf_50 : decode cX4_worthOf 50 = .ok (.aload_n 0, 1) := by decide +kernel
theorem dX4_worthOf_51 : decode cX4_worthOf 51 = .ok (.getfield 7, 3) := by decide +kernel
theorem dX4_worthOf_54 : decode cX4_worthOf 54 = .ok (.invokevirtual 51, 3) := by decide +kernel
theorem dX4_worthOf_57 : decode cX4_worthOf 57 = .ok (.pop, 1) := by decide +kernel
theorem dX4_worthOf_58 : decode cX4_worthOf 58 = .ok (.iload_n 3, 1) := by decide +kernel
