theorem gi_cons {big a : List Cond} {c : Cond} (hc : GoodIn big [c]) (ha : GoodIn big a) : GoodIn big (c :: a) := fun w h => (List.mem_cons.mp h).elim (fun e => hc w (List.mem_singleton.mpr e)) (ha w)
theorem inX0 : ∀ w ∈ wsX00, w ∈ lw_tbl := by decide +kernel
theorem inlX1 : ∀ w ∈ wsX10, w ∈ wsL_law := fun _ h => List.mem_append_left _ (List.mem_append_left _ (List.mem_append_left _ (List.mem_append_left _ (List.mem_append_left _ (List.mem_append_left _ (List.mem_append_left _ (List.mem_append_right _ h)))))))
theorem inX1 : ∀ w ∈ wsX10, w ∈ lw_tbl := fun w h => wsL_law_in w (inlX1 w h)
theorem inlX2 : ∀ w ∈ wsX20, w ∈ wsL_law := fun _ h => List.mem_append_left _ (List.mem_append_left _ (List.mem_append_left _ (List.mem_append_left _ (List.mem_append_right _ h))))
theorem inX2 : ∀ w ∈ wsX20, w ∈ lw_tbl := fun w h => wsL_law_in w (inlX2 w h)
theorem inlX3 : ∀ w ∈ wsX30, w ∈ wsL_law := fun _ h => List.mem_append_left _ (List.mem_append_left _ (List.mem_append_left _ (List.mem_append_left _ (List.mem_append_left _ (List.mem_append_right _ h)))))
theorem inX3 : ∀ w ∈ wsX30, w ∈ lw_tbl := fun w h => wsL_law_in w (inlX3 w h)
theorem inlX4 : ∀ w ∈ wsX40, w ∈ wsL_law := fun _ h => List.mem_append_left _ (List.mem_append_left _ (List.mem_append_left _ (List.mem_append_left _ (List.mem_append_left _ (List.mem_append_left _ (List.mem_append_right _ h))))))
theorem inX4 : ∀ w ∈ wsX40, w ∈ lw_tbl := fun w h => wsL_law_in w (inlX4 w h)
theorem inlX5 : ∀ w ∈ wsX50, w ∈ wsL_law := fun _ h => List.mem_append_left _ (List.mem_append_left _ (List.mem_append_left _ (List.mem_append_left _ (List.mem_append_left _ (List.mem_append_left _ (List.mem_append_left _ (List.mem_append_left _ (List.mem_append_right _ h))))))))
theorem inX5 : ∀ w ∈ wsX50, w ∈ lw_tbl := fun w h => wsL_law_in w (inlX5 w h)
theorem inX6 : ∀ w ∈ wsX60, w ∈ lw_tbl := by decide +kernel
theorem inJ6 : ∀ w ∈ wsJ60, w ∈ lw_tbl := by decide +kernel
theorem inJ9 : ∀ w ∈ wsJ90, w ∈ lw_tbl := by decide +kernel
theorem inJ0 : ∀ w ∈ wsJ00, w ∈ lw_tbl := by decide +kernel
theorem dX0_holds_0 : decode cX0_holds 0 = .ok (.iload_n 0, 1) := by decide +kernel
theorem dX0_holds_1 : decode cX0_holds 1 = .ok (.iconst 1, 1) := by decide +kernel
theorem dX0_holds_2 : decode cX0_holds 2 = .ok (.iload_n 1, 1) := by decide +kernel
theorem dX0_holds_3 : decode cX0_holds 3 = .ok (.ishl, 1) := by decide +kernel
theorem dX0_holds_4 : decode cX0_holds 4 = .ok (.iand, 1) := by decide +kernel
theorem dX0_holds_5 : decode cX0_holds 5 = .ok (.ifCond .eq 7, 3) := by decide +kernel
theorem dX0_holds_8 : decode cX0_holds 8 = .ok (.iconst 1, 1) := by decide +kernel
theorem dX0_holds_9 : decode cX0_holds 9 = .ok (.goto 4, 3) := by decide +kernel
theorem dX0_holds_12 : decode cX0_holds 12 = .ok (.iconst 0, 1) := by decide +kernel
theorem dX0_holds_13 : decode cX0_holds 13 = .ok (.ireturn, 1) := by decide +kernel
theorem dX0_suitOf_0 : decode cX0_suitOf 0 = .ok (.iload_n 0, 1) := by decide +kernel
theorem dX0_suitOf_1 : decode cX0_suitOf 1 = .ok (.bipush 6, 2) := by decide +kernel
theorem dX0_suitOf_3 : decode cX0_suitOf 3 = .ok (.idiv, 1) := by decide +kernel
theorem dX0_suitOf_4 : decode cX0_suitOf 4 = .ok (.ireturn, 1) := by decide +kernel
theorem dX0_suitSet_0 : decode cX0_suitSet 0 = .ok (.bipush 63, 2) := by decide +kernel
theorem dX0_suitSet_2 : decode cX0_suitSet 2 = .ok (.iload_n 0, 1) := by decide +kernel
theorem dX0_suitSet_3 : decode cX0_suitSet 3 = .ok (.bipush 6, 2) := by decide +kernel
theorem dX0_suitSet_5 : decode cX0_suitSet 5 = .ok (.imul, 1) := by decide +kernel
theorem dX0_suitSet_6 : decode cX0_suitSet 6 = .ok (.ishl, 1) := by decide +kernel
theorem dX0_suitSet_7 : decode cX0_suitSet 7 = .ok (.ireturn, 1) := by decide +kernel
set_option maxRecDepth 20000 in
theorem ggX0_lowest_J6_numberOfTrailingZeros_0f7a4 : GoodIn wsX0_lowest wsJ6_numberOfTrailingZeros_0f7a4 := goodIn_r _ [4, 5] (by decide +kernel) (by decide +kernel)
set_option maxRecDepth 20000 in
theorem gX0_lowest_J6_numberOfTrailingZeros_0f7a4 : GoodIn wsX0_lowest (va_wsS RX0 9 yJ6_numberOfTrailingZeros_0f7a4 wsJ6_numberOfTrailingZeros_0f7a4) := goodIn_app (goodIn_of _ (by decide +kernel)) ggX0_lowest_J6_numberOfTrailingZeros_0f7a4
theorem dX0_lowest_0 : decode cX0_lowest 0 = .ok (.iload_n 0, 1) := by decide +kernel
theorem dX0_lowest_1 : decode cX0_lowest 1 = .ok (.invokestatic 9, 3) := by decide +kernel
theorem dX0_lowest_4 : decode cX0_lowest 4 = .ok (.ireturn, 1) := by decide +kernel
set_option maxRecDepth 20000 in
theorem ggX0_highest_J6_numberOfLeadingZeros_0f7a4 : GoodIn wsX0_highest wsJ6_numberOfLeadingZeros_0f7a4 := goodIn_r _ [4, 5] (by decide +kernel) (by decide +kernel)
set_option maxRecDepth 20000 in
theorem gX0_highest_J6_numberOfLeadingZeros_0f7a4 : GoodIn wsX0_highest (va_wsS RX0 15 yJ6_numberOfLeadingZeros_0f7a4 wsJ6_numberOfLeadingZeros_0f7a4) := goodIn_app (goodIn_of _ (by decide +kernel)) ggX0_highest_J6_numberOfLeadingZeros_0f7a4
theorem dX0_highest_0 : decode cX0_highest 0 = .ok (.bipush 31, 2) := by decide +kernel
theorem dX0_highest_2 : decode cX0_highest 2 = .ok (.iload_n 0, 1) := by decide +kernel
theorem dX0_highest_3 : decode cX0_highest 3 = .ok (.invokestatic 15, 3) := by decide +kernel
theorem dX0_highest_6 : decode cX0_highest 6 = .ok (.isub, 1) := by decide +kernel
theorem dX0_highest_7 : decode cX0_highest 7 = .ok (.ireturn, 1) := by decide +kernel
theorem dX0_sideOf_0 : decode cX0_sideOf 0 = .ok (.iload_n 0, 1) := by decide +kernel
theorem dX0_sideOf_1 : decode cX0_sideOf 1 = .ok (.iconst 2, 1) := by decide +kernel
theorem dX0_sideOf_2 : decode cX0_sideOf 2 = .ok (.irem, 1) := by decide +kernel
theorem dX0_sideOf_3 : decode cX0_sideOf 3 = .ok (.ireturn, 1) := by decide +kernel
set_option maxRecDepth 20000 in
theorem ggX0_equalBelow_X0_suitOf : GoodIn wsX0_equalBelow wsX0_suitOf := goodIn_r _ [4] (by decide +kernel) (by decide +kernel)
set_option maxRecDepth 20000 in
theorem gX0_equalBelow_X0_suitOf : GoodIn wsX0_equalBelow (va_wsS RX0 18 yX0_suitOf wsX0_suitOf) := goodIn_app (goodIn_of _ (by decide +kernel)) ggX0_equalBelow_X0_suitOf
set_option maxRecDepth 20000 in
theorem ggX0_equalBelow_X0_holds : GoodIn wsX0_equalBelow wsX0_holds := goodIn_r _ [7] (by decide +kernel) (by decide +kernel)
set_option maxRecDepth 20000 in
theorem gX0_equalBelow_X0_holds : GoodIn wsX0_equalBelow (va_wsS RX0 21 yX0_holds wsX0_holds) := goodIn_app (goodIn_of _ (by decide +kernel)) ggX0_equalBelow_X0_holds
theorem dX0_equalBelow_0 : decode cX0_equalBelow 0 = .ok (.iload_n 0, 1) := by decide +kernel
theorem dX0_equalBelow_1 : decode cX0_equalBelow 1 = .ok (.invokestatic 18, 3) := by decide +kernel
theorem dX0_equalBelow_4 : decode cX0_equalBelow 4 = .ok (.bipush 6, 2) := by decide +kernel
theorem dX0_equalBelow_6 : decode cX0_equalBelow 6 = .ok (.imul, 1) := by decide +kernel
theorem dX0_equalBelow_7 : decode cX0_equalBelow 7 = .ok (.istore_n 3, 1) := by decide +kernel
theorem dX0_equalBelow_8 : decode cX0_equalBelow 8 = .ok (.iload_n 0, 1) := by decide +kernel
theorem dX0_equalBelow_9 : decode cX0_equalBelow 9 = .ok (.iconst 1, 1) := by decide +kernel
theorem dX0_equalBelow_10 : decode cX0_equalBelow 10 = .ok (.isub, 1) := by decide +kernel
theorem dX0_equalBelow_11 : decode cX0_equalBelow 11 = .ok (.istore 4, 2) := by decide +kernel
theorem dX0_equalBelow_13 : decode cX0_equalBelow 13 = .ok (.iload 4, 2) := by decide +kernel
theorem dX0_equalBelow_15 : decode cX0_equalBelow 15 = .ok (.iload_n 3, 1) := by decide +kernel
theorem dX0_equalBelow_16 : decode cX0_equalBelow 16 = .ok (.if_icmp .lt 32, 3) := by decide +kernel
theorem dX0_equalBelow_19 : decode cX0_equalBelow 19 = .ok (.iload_n 1, 1) := by decide +kernel
theorem dX0_equalBelow_20 : decode cX0_equalBelow 20 = .ok (.iload 4, 2) := by decide +kernel
theorem dX0_equalBelow_22 : decode cX0_equalBelow 22 = .ok (.invokestatic 21, 3) := by decide +kernel
theorem dX0_equalBelow_25 : decode cX0_equalBelow 25 = .ok (.ifCond .eq 6, 3) := by decide +kernel
theorem dX0_equalBelow_28 : decode cX0_equalBelow 28 = .ok (.iload 4, 2) := by decide +kernel
theorem dX0_equalBelow_30 : decode cX0_equalBelow 30 = .ok (.ireturn, 1) := by decide +kernel
theorem dX0_equalBelow_31 : decode cX0_equalBelow 31 = .ok (.iload_n 2, 1) := by decide +kernel
theorem dX0_equalBelow_32 : decode cX0_equalBelow 32 = .ok (.iload 4, 2) := by decide +kernel
theorem dX0_equalBelow_34 : decode cX0_equalBelow 34 = .ok (.invokestatic 21, 3) := by decide +kernel
theorem dX0_equalBelow_37 : decode cX0_equalBelow 37 = .ok (.ifCond .ne 5, 3) := by decide +kernel
theorem dX0_equalBelow_40 : decode cX0_equalBelow 40 = .ok (.iconst (-1), 1) := by decide +kernel
theorem dX0_equalBelow_41 : decode cX0_equalBelow 41 = .ok (.ireturn, 1) := by decide +kernel
theorem dX0_equalBelow_42 : decode cX0_equalBelow 42 = .ok (.iinc 4 (-1), 3) := by decide +kernel
theorem dX0_equalBelow_45 : decode cX0_equalBelow 45 = .ok (.goto (-32), 3) := by decide +kernel
theorem dX0_equalBelow_48 : decode cX0_equalBelow 48 = .ok (.iconst (-1), 1) := by decide +kernel
theorem dX0_equalBelow_49 : decode cX0_equalBelow 49 = .ok (.ireturn, 1) := by decide +kernel
set_option maxRecDepth 20000 in
theorem ggX0_lowestOfEquals_X0_lowest : GoodIn wsX0_lowestOfEquals wsX0_lowest := goodIn_r _ [4, 5, 6, 7, 8, 9] (by decide +kernel) (by decide +kernel)
set_option maxRecDepth 20000 in
theorem gX0_lowestOfEquals_X0_lowest : GoodIn wsX0_lowestOfEquals (va_wsS RX0 25 yX0_lowest wsX0_lowest) := goodIn_app (goodIn_of _ (by decide +kernel)) ggX0_lowestOfEquals_X0_lowest
set_option maxRecDepth 20000 in
theorem ggX0_lowestOfEquals_X0_equalBelow : GoodIn wsX0_lowestOfEquals wsX0_equalBelow := goodIn_r _ [12, 13, 14, 3, 15, 16, 17, 18] (by decide +kernel) (by decide +kernel)
set_option maxRecDepth 20000 in
theorem gX0_lowestOfEquals_X0_equalBelow : GoodIn wsX0_lowestOfEquals (va_wsS RX0 28 yX0_equalBelow wsX0_equalBelow) := goodIn_app (goodIn_of _ (by decide +kernel)) ggX0_lowestOfEquals_X0_equalBelow
theorem dX0_lowestOfEquals_0 : decode cX0_lowestOfEquals 0 = .ok (.iconst 0, 1) := by decide +kernel
theorem dX0_lowestOfEquals_1 : decode cX0_lowestOfEquals 1 = .ok (.istore_n 2, 1) := by decide +kernel
theorem dX0_lowestOfEquals_2 : decode cX0_lowestOfEquals 2 = .ok (.iload_n 0, 1) := by decide +kernel
theorem dX0_lowestOfEquals_3 : decode cX0_lowestOfEquals 3 = .ok (.istore_n 3, 1) := by decide +kernel
theorem dX0_lowestOfEquals_4 : decode cX0_lowestOfEquals 4 = .ok (.iconst 0, 1) := by decide +kernel
theorem dX0_lowestOfEquals_5 : decode cX0_lowestOfEquals 5 = .ok (.istore 4, 2) := by decide +kernel
theorem dX0_lowestOfEquals_7 : decode cX0_lowestOfEquals 7 = .ok (.iload 4, 2) := by decide +kernel
theorem dX0_lowestOfEquals_9 : decode cX0_lowestOfEquals 9 = .ok (.iconst 4, 1) := by decide +kernel
theorem dX0_lowestOfEquals_10 : decode cX0_lowestOfEquals 10 = .ok (.if_icmp .ge 46, 3) := by decide +kernel
theorem dX0_lowestOfEquals_13 : decode cX0_lowestOfEquals 13 = .ok (.iload_n 3, 1) := by decide +kernel
theorem dX0_lowestOfEquals_14 : decode cX0_lowestOfEquals 14 = .ok (.ifCond .eq 42, 3) := by decide +kernel
theorem dX0_lowestOfEquals_17 : decode cX0_lowestOfEquals 17 = .ok (.iload_n 3, 1) := by decide +kernel
theorem dX0_lowestOfEquals_18 : decode cX0_lowestOfEquals 18 = .ok (.invokestatic 25, 3) := by decide +kernel
theorem dX0_lowestOfEquals_21 : decode cX0_lowestOfEquals 21 = .ok (.istore 5, 2) := by decide +kernel
theorem dX0_lowestOfEquals_23 : decode cX0_lowestOfEquals 23 = .ok (.iload_n 3, 1) := by decide +kernel
theorem dX0_lowestOfEquals_24 : decode cX0_lowestOfEquals 24 = .ok (.iconst 1, 1) := by decide +kernel
theorem dX0_lowestOfEquals_25 : decode cX0_lowestOfEquals 25 = .ok (.iload 5, 2) := by decide +kernel
theorem dX0_lowestOfEquals_27 : decode cX0_lowestOfEquals 27 = .ok (.ishl, 1) := by decide +kernel
theorem dX0_lowestOfEquals_28 : decode cX0_lowestOfEquals 28 = .ok (.iconst (-1), 1) := by decide +kernel
theorem dX0_lowestOfEquals_29 : decode cX0_lowestOfEquals 29 = .ok (.ixor, 1) := by decide +kernel
theorem dX0_lowestOfEquals_30 : decode cX0_lowestOfEquals 30 = .ok (.iand, 1) := by decide +kernel
theorem dX0_lowestOfEquals_31 : decode cX0_lowestOfEquals 31 = .ok (.istore_n 3, 1) := by decide +kernel
theorem dX0_lowestOfEquals_32 : decode cX0_lowestOfEquals 32 = .ok (.iload 5, 2) := by decide +kernel
theorem dX0_lowestOfEquals_34 : decode cX0_lowestOfEquals 34 = .ok (.iload_n 0, 1) := by decide +kernel
theorem dX0_lowestOfEquals_35 : decode cX0_lowestOfEquals 35 = .ok (.iload_n 1, 1) := by decide +kernel
theorem dX0_lowestOfEquals_36 : decode cX0_lowestOfEquals 36 = .ok (.invokestatic 28, 3) := by decide +kernel
theorem dX0_lowestOfEquals_39 : decode cX0_lowestOfEquals 39 = .ok (.iconst (-1), 1) := by decide +kernel
theorem dX0_lowestOfEquals_40 : decode cX0_lowestOfEquals 40 = .ok (.if_icmp .ne 10, 3) := by decide +kernel
theorem dX0_lowestOfEquals_43 : decode cX0_lowestOfEquals 43 = .ok (.iload_n 2, 1) := by decide +kernel
theorem dX0_lowestOfEquals_44 : decode cX0_lowestOfEquals 44 = .ok (.iconst 1, 1) := by decide +kernel
theorem dX0_lowestOfEquals_45 : decode cX0_lowestOfEquals 45 = .ok (.iload 5, 2) := by decide +kernel
theorem dX0_lowestOfEquals_47 : decode cX0_lowestOfEquals 47 = .ok (.ishl, 1) := by decide +kernel
theorem dX0_lowestOfEquals_48 : decode cX0_lowestOfEquals 48 = .ok (.ior, 1) := by decide +kernel
theorem dX0_lowestOfEquals_49 : decode cX0_lowestOfEquals 49 = .ok (.istore_n 2, 1) := by decide +kernel
theorem dX0_lowestOfEquals_50 : decode cX0_lowestOfEquals 50 = .ok (.iinc 4 1, 3) := by decide +kernel
theorem dX0_lowestOfEquals_53 : decode cX0_lowestOfEquals 53 = .ok (.goto (-46), 3) := by decide +kernel
theorem dX0_lowestOfEquals_56 : decode cX0_lowestOfEquals 56 = .ok (.iload_n 2, 1) := by decide +kernel
theorem dX0_lowestOfEquals_57 : decode cX0_lowestOfEquals 57 = .ok (.ireturn, 1) := by decide +kernel
theorem dX1_init_0 : decode cX1_init 0 = .ok (.aload_n 0, 1) := by decide +kernel
theorem dX1_init_1 : decode cX1_init 1 = .ok (.invokespecial 1, 3) := by decide +kernel
theorem dX1_init_4 : decode cX1_init 4 = .ok (.aload_n 0, 1) := by decide +kernel
theorem dX1_init_5 : decode cX1_init 5 = .ok (.iconst 4, 1) := by decide +kernel
theorem dX1_init_6 : decode cX1_init 6 = .ok (.newarray .int, 2) := by decide +kernel
theorem dX1_init_8 : decode cX1_init 8 = .ok (.putfield 9, 3) := by decide +kernel
theorem dX1_init_11 : decode cX1_init 11 = .ok (.aload_n 0, 1) := by decide +kernel
theorem dX1_init_12 : decode cX1_init 12 = .ok (.bipush 16, 2) := by decide +kernel
theorem dX1_init_14 : decode cX1_init 14 = .ok (.newarray .int, 2) := by decide +kernel
theorem dX1_init_16 : decode cX1_init 16 = .ok (.putfield 15, 3) := by decide +kernel
theorem dX1_init_19 : decode cX1_init 19 = .ok (.aload_n 0, 1) := by decide +kernel
theorem dX1_init_20 : decode cX1_init 20 = .ok (.iconst 5, 1) := by decide +kernel
theorem dX1_init_21 : decode cX1_init 21 = .ok (.newarray .int, 2) := by decide +kernel
theorem dX1_init_23 : decode cX1_init 23 = .ok (.putfield 18, 3) := by decide +kernel
theorem dX1_init_26 : decode cX1_init 26 = .ok (.aload_n 0, 1) := by decide +kernel
theorem dX1_init_27 : decode cX1_init 27 = .ok (.iconst (-1), 1) := by decide +kernel
theorem dX1_init_28 : decode cX1_init 28 = .ok (.putfield 21, 3) := by decide +kernel
theorem dX1_init_31 : decode cX1_init 31 = .ok (.return_, 1) := by decide +kernel
theorem dX1_clearFor_0 : decode cX1_clearFor 0 = .ok (.aload_n 0, 1) := by decide +kernel
theorem dX1_clearFor_1 : decode cX1_clearFor 1 = .ok (.getfield 21, 3) := by decide +kernel
theorem dX1_clearFor_4 : decode cX1_clearFor 4 = .ok (.istore_n 2, 1) := by decide +kernel
theorem dX1_clearFor_5 : decode cX1_clearFor 5 = .ok (.aload_n 0, 1) := by decide +kernel
theorem dX1_clearFor_6 : decode cX1_clearFor 6 = .ok (.iload_n 1, 1) := by decide +kernel
theorem dX1_clearFor_7 : decode cX1_clearFor 7 = .ok (.putfield 21, 3) := by decide +kernel
theorem dX1_clearFor_10 : decode cX1_clearFor 10 = .ok (.iconst 0, 1) := by decide +kernel
theorem dX1_clearFor_11 : decode cX1_clearFor 11 = .ok (.istore_n 3, 1) := by decide +kernel
theorem dX1_clearFor_12 : decode cX1_clearFor 12 = .ok (.iload_n 3, 1) := by decide +kernel
theorem dX1_clearFor_13 : decode cX1_clearFor 13 = .ok (.aload_n 0, 1) := by decide +kernel
theorem dX1_clearFor_14 : decode cX1_clearFor 14 = .ok (.getfield 9, 3) := by decide +kernel
theorem dX1_clearFor_17 : decode cX1_clearFor 17 = .ok (.arraylength, 1) := by decide +kernel
theorem dX1_clearFor_18 : decode cX1_clearFor 18 = .ok (.if_icmp .ge 16, 3) := by decide +kernel
theorem dX1_clearFor_21 : decode cX1_clearFor 21 = .ok (.aload_n 0, 1) := by decide +kernel
theorem dX1_clearFor_22 : decode cX1_clearFor 22 = .ok (.getfield 9, 3) := by decide +kernel
theorem dX1_clearFor_25 : decode cX1_clearFor 25 = .ok (.iload_n 3, 1) := by decide +kernel
theorem dX1_clearFor_26 : decode cX1_clearFor 26 = .ok (.iconst 0, 1) := by decide +kernel
theorem dX1_clearFor_27 : decode cX1_clearFor 27 = .ok (.iastore, 1) := by decide +kernel
theorem dX1_clearFor_28 : decode cX1_clearFor 28 = .ok (.iinc 3 1, 3) := by decide +kernel
theorem dX1_clearFor_31 : decode cX1_clearFor 31 = .ok (.goto (-19), 3) := by decide +kernel
theorem dX1_clearFor_34 : decode cX1_clearFor 34 = .ok (.aload_n 0, 1) := by decide +kernel
theorem dX1_clearFor_35 : decode cX1_clearFor 35 = .ok (.iconst 0, 1) := by decide +kernel
theorem dX1_clearFor_36 : decode cX1_clearFor 36 = .ok (.putfield 25, 3) := by decide +kernel
theorem dX1_clearFor_39 : decode cX1_clearFor 39 = .ok (.aload_n 0, 1) := by decide +kernel
theorem dX1_clearFor_40 : decode cX1_clearFor 40 = .ok (.iconst 0, 1) := by decide +kernel
theorem dX1_clearFor_41 : decode cX1_clearFor 41 = .ok (.putfield 28, 3) := by decide +kernel
theorem dX1_clearFor_44 : decode cX1_clearFor 44 = .ok (.aload_n 0, 1) := by decide +kernel
theorem dX1_clearFor_45 : decode cX1_clearFor 45 = .ok (.iconst 0, 1) := by decide +kernel
theorem dX1_clearFor_46 : decode cX1_clearFor 46 = .ok (.putfield 32, 3) := by decide +kernel
theorem dX1_clearFor_49 : decode cX1_clearFor 49 = .ok (.aload_n 0, 1) := by decide +kernel
theorem dX1_clearFor_50 : decode cX1_clearFor 50 = .ok (.iconst 0, 1) := by decide +kernel
theorem dX1_clearFor_51 : decode cX1_clearFor 51 = .ok (.putfield 35, 3) := by decide +kernel
theorem dX1_clearFor_54 : decode cX1_clearFor 54 = .ok (.iload_n 2, 1) := by decide +kernel
theorem dX1_clearFor_55 : decode cX1_clearFor 55 = .ok (.ireturn, 1) := by decide +kernel
set_option maxRecDepth 20000 in
theorem ggX1_canDeal_X0_holds : GoodIn wsX1_canDeal wsX0_holds := goodIn_r _ [6] (by decide +kernel) (by decide +kernel)
set_option maxRecDepth 20000 in
theorem gX1_canDeal_X0_holds : GoodIn wsX1_canDeal (va_wsS RX1 38 yX0_holds wsX0_holds) := goodIn_app (goodIn_of _ (by decide +kernel)) ggX1_canDeal_X0_holds
set_option maxRecDepth 20000 in
theorem ggX1_canDeal_X1_handOf : GoodIn wsX1_canDeal wsX1_handOf := goodIn_r _ [11, 12, 20, 21, 22, 23, 24, 25, 26, 27] (by decide +kernel) (by decide +kernel)
set_option maxRecDepth 20000 in
theorem gX1_canDeal_X1_handOf : GoodIn wsX1_canDeal (wsV RX1 42 RX1 yX1_handOf wsX1_handOf) := goodIn_app (goodIn_of _ (by decide +kernel)) ggX1_canDeal_X1_handOf
set_option maxRecDepth 20000 in
theorem ggX1_canDeal_J6_bitCount_0f7a4 : GoodIn wsX1_canDeal wsJ6_bitCount_0f7a4 := goodIn_r _ [16, 17, 18, 19] (by decide +kernel) (by decide +kernel)
set_option maxRecDepth 20000 in
theorem gX1_canDeal_J6_bitCount_0f7a4 : GoodIn wsX1_canDeal (va_wsS RX1 46 yJ6_bitCount_0f7a4 wsJ6_bitCount_0f7a4) := goodIn_app (goodIn_of _ (by decide +kernel)) ggX1_canDeal_J6_bitCount_0f7a4
theorem dX1_canDeal_0 : decode cX1_canDeal 0 = .ok (.aload_n 0, 1) := by decide +kernel
theorem dX1_canDeal_1 : decode cX1_canDeal 1 = .ok (.getfield 28, 3) := by decide +kernel
theorem dX1_canDeal_4 : decode cX1_canDeal 4 = .ok (.ifCond .ne 30, 3) := by decide +kernel
theorem dX1_canDeal_7 : decode cX1_canDeal 7 = .ok (.aload_n 0, 1) := by decide +kernel
theorem dX1_canDeal_8 : decode cX1_canDeal 8 = .ok (.getfield 25, 3) := by decide +kernel
theorem dX1_canDeal_11 : decode cX1_canDeal 11 = .ok (.iload_n 2, 1) := by decide +kernel
theorem dX1_canDeal_12 : decode cX1_canDeal 12 = .ok (.invokestatic 38, 3) := by decide +kernel
theorem dX1_canDeal_15 : decode cX1_canDeal 15 = .ok (.ifCond .ne 19, 3) := by decide +kernel
theorem dX1_canDeal_18 : decode cX1_canDeal 18 = .ok (.aload_n 0, 1) := by decide +kernel
theorem dX1_canDeal_19 : decode cX1_canDeal 19 = .ok (.iload_n 1, 1) := by decide +kernel
theorem dX1_canDeal_20 : decode cX1_canDeal 20 = .ok (.invokevirtual 42, 3) := by decide +kernel
theorem dX1_canDeal_23 : decode cX1_canDeal 23 = .ok (.invokestatic 46, 3) := by decide +kernel
theorem dX1_canDeal_26 : decode cX1_canDeal 26 = .ok (.iconst 4, 1) := by decide +kernel
theorem dX1_canDeal_27 : decode cX1_canDeal 27 = .ok (.if_icmp .ge 7, 3) := by decide +kernel
theorem dX1_canDeal_30 : decode cX1_canDeal 30 = .ok (.iconst 1, 1) := by decide +kernel
theorem dX1_canDeal_31 : decode cX1_canDeal 31 = .ok (.goto 4, 3) := by decide +kernel
theorem dX1_canDeal_34 : decode cX1_canDeal 34 = .ok (.iconst 0, 1) := by decide +kernel
theorem dX1_canDeal_35 : decode cX1_canDeal 35 = .ok (.ireturn, 1) := by decide +kernel
set_option maxRecDepth 20000 in
theorem ggX1_deal_X1_addTo : GoodIn wsX1_deal wsX1_addTo := goodIn_r _ [6, 7, 19, 20, 21, 22, 23, 24, 25, 26] (by decide +kernel) (by decide +kernel)
set_option maxRecDepth 20000 in
theorem gX1_deal_X1_addTo : GoodIn wsX1_deal (wsV RX1 51 RX1 yX1_addTo wsX1_addTo) := goodIn_app (goodIn_of _ (by decide +kernel)) ggX1_deal_X1_addTo
set_option maxRecDepth 20000 in
theorem ggX1_deal_X1_handOf : GoodIn wsX1_deal wsX1_handOf := goodIn_r _ [11, 7, 19, 20, 21, 22, 23, 24, 25, 26] (by decide +kernel) (by decide +kernel)
set_option maxRecDepth 20000 in
theorem gX1_deal_X1_handOf : GoodIn wsX1_deal (wsV RX1 42 RX1 yX1_handOf wsX1_handOf) := goodIn_app (goodIn_of _ (by decide +kernel)) ggX1_deal_X1_handOf
set_option maxRecDepth 20000 in
theorem ggX1_deal_J6_bitCount_0f7a4 : GoodIn wsX1_deal wsJ6_bitCount_0f7a4 := goodIn_r _ [15, 16, 17, 18] (by decide +kernel) (by decide +kernel)
set_option maxRecDepth 20000 in
theorem gX1_deal_J6_bitCount_0f7a4 : GoodIn wsX1_deal (va_wsS RX1 46 yJ6_bitCount_0f7a4 wsJ6_bitCount_0f7a4) := goodIn_app (goodIn_of _ (by decide +kernel)) ggX1_deal_J6_bitCount_0f7a4
theorem dX1_deal_0 : decode cX1_deal 0 = .ok (.aload_n 0, 1) := by decide +kernel
theorem dX1_deal_1 : decode cX1_deal 1 = .ok (.dup, 1) := by decide +kernel
theorem dX1_deal_2 : decode cX1_deal 2 = .ok (.getfield 25, 3) := by decide +kernel
theorem dX1_deal_5 : decode cX1_deal 5 = .ok (.iconst 1, 1) := by decide +kernel
theorem dX1_deal_6 : decode cX1_deal 6 = .ok (.iload_n 2, 1) := by decide +kernel
theorem dX1_deal_7 : decode cX1_deal 7 = .ok (.ishl, 1) := by decide +kernel
theorem dX1_deal_8 : decode cX1_deal 8 = .ok (.ior, 1) := by decide +kernel
theorem dX1_deal_9 : decode cX1_deal 9 = .ok (.putfield 25, 3) := by decide +kernel
theorem dX1_deal_12 : decode cX1_deal 12 = .ok (.aload_n 0, 1) := by decide +kernel
theorem dX1_deal_13 : decode cX1_deal 13 = .ok (.iload_n 1, 1) := by decide +kernel
theorem dX1_deal_14 : decode cX1_deal 14 = .ok (.iload_n 2, 1) := by decide +kernel
theorem dX1_deal_15 : decode cX1_deal 15 = .ok (.invokevirtual 51, 3) := by decide +kernel
theorem dX1_deal_18 : decode cX1_deal 18 = .ok (.aload_n 0, 1) := by decide +kernel
theorem dX1_deal_19 : decode cX1_deal 19 = .ok (.iload_n 1, 1) := by decide +kernel
theorem dX1_deal_20 : decode cX1_deal 20 = .ok (.invokevirtual 42, 3) := by decide +kernel
theorem dX1_deal_23 : decode cX1_deal 23 = .ok (.invokestatic 46, 3) := by decide +kernel
theorem dX1_deal_26 : decode cX1_deal 26 = .ok (.ireturn, 1) := by decide +kernel
set_option maxRecDepth 20000 in
theorem ggX1_canOpen_X1_handOf : GoodIn wsX1_canOpen wsX1_handOf := goodIn_r _ [6, 7, 15, 16, 17, 18, 19, 20, 21, 22] (by decide +kernel) (by decide +kernel)
set_option maxRecDepth 20000 in
theorem gX1_canOpen_X1_handOf : GoodIn wsX1_canOpen (wsV RX1 42 RX1 yX1_handOf wsX1_handOf) := goodIn_app (goodIn_of _ (by decide +kernel)) ggX1_canOpen_X1_handOf
set_option maxRecDepth 20000 in
theorem ggX1_canOpen_J6_bitCount_0f7a4 : GoodIn wsX1_canOpen wsJ6_bitCount_0f7a4 := goodIn_r _ [11, 12, 13, 14] (by decide +kernel) (by decide +kernel)
set_option maxRecDepth 20000 in
theorem gX1_canOpen_J6_bitCount_0f7a4 : GoodIn wsX1_canOpen (va_wsS RX1 46 yJ6_bitCount_0f7a4 wsJ6_bitCount_0f7a4) := goodIn_app (goodIn_of _ (by decide +kernel)) ggX1_canOpen_J6_bitCount_0f7a4
theorem dX1_canOpen_0 : decode cX1_canOpen 0 = .ok (.aload_n 0, 1) := by decide +kernel
theorem dX1_canOpen_1 : decode cX1_canOpen 1 = .ok (.iconst 0, 1) := by decide +kernel
theorem dX1_canOpen_2 : decode cX1_canOpen 2 = .ok (.invokevirtual 42, 3) := by decide +kernel
theorem dX1_canOpen_5 : decode cX1_canOpen 5 = .ok (.invokestatic 46, 3) := by decide +kernel
theorem dX1_canOpen_8 : decode cX1_canOpen 8 = .ok (.istore_n 1, 1) := by decide +kernel
theorem dX1_canOpen_9 : decode cX1_canOpen 9 = .ok (.aload_n 0, 1) := by decide +kernel
theorem dX1_canOpen_10 : decode cX1_canOpen 10 = .ok (.getfield 28, 3) := by decide +kernel
theorem dX1_canOpen_13 : decode cX1_canOpen 13 = .ok (.ifCond .ne 7, 3) := by decide +kernel
theorem dX1_canOpen_16 : decode cX1_canOpen 16 = .ok (.iload_n 1, 1) := by decide +kernel
theorem dX1_canOpen_17 : decode cX1_canOpen 17 = .ok (.ifCond .ne 5, 3) := by decide +kernel
theorem dX1_canOpen_20 : decode cX1_canOpen 20 = .ok (.iconst 0, 1) := by decide +kernel
theorem dX1_canOpen_21 : decode cX1_canOpen 21 = .ok (.ireturn, 1) := by decide +kernel
theorem dX1_canOpen_22 : decode cX1_canOpen 22 = .ok (.iconst 1, 1) := by decide +kernel
theorem dX1_canOpen_23 : decode cX1_canOpen 23 = .ok (.istore_n 2, 1) := by decide +kernel
theorem dX1_canOpen_24 : decode cX1_canOpen 24 = .ok (.iload_n 2, 1) := by decide +kernel
theorem dX1_canOpen_25 : decode cX1_canOpen 25 = .ok (.iconst 4, 1) := by decide +kernel
theorem dX1_canOpen_26 : decode cX1_canOpen 26 = .ok (.if_icmp .ge 23, 3) := by decide +kernel
theorem dX1_canOpen_29 : decode cX1_canOpen 29 = .ok (.aload_n 0, 1) := by decide +kernel
theorem dX1_canOpen_30 : decode cX1_canOpen 30 = .ok (.iload_n 2, 1) := by decide +kernel
theorem dX1_canOpen_31 : decode cX1_canOpen 31 = .ok (.invokevirtual 42, 3) := by decide +kernel
theorem dX1_canOpen_34 : decode cX1_canOpen 34 = .ok (.invokestatic 46, 3) := by decide +kernel
theorem dX1_canOpen_37 : decode cX1_canOpen 37 = .ok (.iload_n 1, 1) := by decide +kernel
theorem dX1_canOpen_38 : decode cX1_canOpen 38 = .ok (.if_icmp .eq 5, 3) := by decide +kernel
theorem dX1_canOpen_41 : decode cX1_canOpen 41 = .ok (.iconst 0, 1) := by decide +kernel
theorem dX1_canOpen_42 : decode cX1_canOpen 42 = .ok (.ireturn, 1) := by decide +kernel
theorem dX1_canOpen_43 : decode cX1_canOpen 43 = .ok (.iinc 2 1, 3) := by decide +kernel
theorem dX1_canOpen_46 : decode cX1_canOpen 46 = .ok (.goto (-22), 3) := by decide +kernel
theorem dX1_canOpen_49 : decode cX1_canOpen 49 = .ok (.iconst 1, 1) := by decide +kernel
theorem dX1_canOpen_50 : decode cX1_canOpen 50 = .ok (.ireturn, 1) := by decide +kernel
set_option maxRecDepth 20000 in
theorem ggX1_open_X1_handOf : GoodIn wsX1_open wsX1_handOf := goodIn_r _ [8, 9, 17, 18, 19, 20, 21, 22, 23, 24] (by decide +kernel) (by decide +kernel)
set_option maxRecDepth 20000 in
theorem gX1_open_X1_handOf : GoodIn wsX1_open (wsV RX1 42 RX1 yX1_handOf wsX1_handOf) := goodIn_app (goodIn_of _ (by decide +kernel)) ggX1_open_X1_handOf
set_option maxRecDepth 20000 in
theorem ggX1_open_J6_bitCount_0f7a4 : GoodIn wsX1_open wsJ6_bitCount_0f7a4 := goodIn_r _ [13, 14, 15, 16] (by decide +kernel) (by decide +kernel)
set_option maxRecDepth 20000 in
theorem gX1_open_J6_bitCount_0f7a4 : GoodIn wsX1_open (va_wsS RX1 46 yJ6_bitCount_0f7a4 wsJ6_bitCount_0f7a4) := goodIn_app (goodIn_of _ (by decide +kernel)) ggX1_open_J6_bitCount_0f7a4
theorem dX1_open_0 : decode cX1_open 0 = .ok (.aload_n 0, 1) := by decide +kernel
theorem dX1_open_1 : decode cX1_open 1 = .ok (.iconst 1, 1) := by decide +kernel
theorem dX1_open_2 : decode cX1_open 2 = .ok (.putfield 28, 3) := by decide +kernel
theorem dX1_open_5 : decode cX1_open 5 = .ok (.aload_n 0, 1) := by decide +kernel
theorem dX1_open_6 : decode cX1_open 6 = .ok (.aload_n 0, 1) := by decide +kernel
theorem dX1_open_7 : decode cX1_open 7 = .ok (.iconst 0, 1) := by decide +kernel
theorem dX1_open_8 : decode cX1_open 8 = .ok (.invokevirtual 42, 3) := by decide +kernel
theorem dX1_open_11 : decode cX1_open 11 = .ok (.invokestatic 46, 3) := by decide +kernel
theorem dX1_open_14 : decode cX1_open 14 = .ok (.putfield 32, 3) := by decide +kernel
theorem dX1_open_17 : decode cX1_open 17 = .ok (.aload_n 0, 1) := by decide +kernel
theorem dX1_open_18 : decode cX1_open 18 = .ok (.getfield 18, 3) := by decide +kernel
theorem dX1_open_21 : decode cX1_open 21 = .ok (.iconst 0, 1) := by decide +kernel
theorem dX1_open_22 : decode cX1_open 22 = .ok (.iload_n 1, 1) := by decide +kernel
theorem dX1_open_23 : decode cX1_open 23 = .ok (.iastore, 1) := by decide +kernel
theorem dX1_open_24 : decode cX1_open 24 = .ok (.aload_n 0, 1) := by decide +kernel
theorem dX1_open_25 : decode cX1_open 25 = .ok (.getfield 32, 3) := by decide +kernel
theorem dX1_open_28 : decode cX1_open 28 = .ok (.ireturn, 1) := by decide +kernel
theorem dX1_isOpen_0 : decode cX1_isOpen 0 = .ok (.aload_n 0, 1) := by decide +kernel
theorem dX1_isOpen_1 : decode cX1_isOpen 1 = .ok (.getfield 28, 3) := by decide +kernel
theorem dX1_isOpen_4 : decode cX1_isOpen 4 = .ok (.ireturn, 1) := by decide +kernel
theorem dX1_laidCount_0 : decode cX1_laidCount 0 = .ok (.aload_n 0, 1) := by decide +kernel
theorem dX1_laidCount_1 : decode cX1_laidCount 1 = .ok (.getfield 35, 3) := by decide +kernel
theorem dX1_laidCount_4 : decode cX1_laidCount 4 = .ok (.ireturn, 1) := by decide +kernel
theorem dX1_cardsLeft_0 : decode cX1_cardsLeft 0 = .ok (.aload_n 0, 1) := by decide +kernel
theorem dX1_cardsLeft_1 : decode cX1_cardsLeft 1 = .ok (.getfield 32, 3) := by decide +kernel
theorem dX1_cardsLeft_4 : decode cX1_cardsLeft 4 = .ok (.iconst 4, 1) := by decide +kernel
theorem dX1_cardsLeft_5 : decode cX1_cardsLeft 5 = .ok (.imul, 1) := by decide +kernel
theorem dX1_cardsLeft_6 : decode cX1_cardsLeft 6 = .ok (.aload_n 0, 1) := by decide +kernel
theorem dX1_cardsLeft_7 : decode cX1_cardsLeft 7 = .ok (.getfield 35, 3) := by decide +kernel
theorem dX1_cardsLeft_10 : decode cX1_cardsLeft 10 = .ok (.isub, 1) := by decide +kernel
theorem dX1_cardsLeft_11 : decode cX1_cardsLeft 11 = .ok (.ireturn, 1) := by decide +kernel
set_option maxRecDepth 20000 in
theorem ggX1_tricksLeft_X1_tricksOver : GoodIn wsX1_tricksLeft wsX1_tricksOver := goodIn_r _ [6, 7, 8, 9, 10, 11, 12, 13, 14, 15] (by decide +kernel) (by decide +kernel)
set_option maxRecDepth 20000 in
theorem gX1_tricksLeft_X1_tricksOver : GoodIn wsX1_tricksLeft (wsV RX1 55 RX1 yX1_tricksOver wsX1_tricksOver) := goodIn_app (goodIn_of _ (by decide +kernel)) ggX1_tricksLeft_X1_tricksOver
theorem dX1_tricksLeft_0 : decode cX1_tricksLeft 0 = .ok (.aload_n 0, 1) := by decide +kernel
theorem dX1_tricksLeft_1 : decode cX1_tricksLeft 1 = .ok (.getfield 32, 3) := by decide +kernel
theorem dX1_tricksLeft_4 : decode cX1_tricksLeft 4 = .ok (.aload_n 0, 1) := by decide +kernel
theorem dX1_tricksLeft_5 : decode cX1_tricksLeft 5 = .ok (.invokevirtual 55, 3) := by decide +kernel
theorem dX1_tricksLeft_8 : decode cX1_tricksLeft 8 = .ok (.isub, 1) := by decide +kernel
theorem dX1_tricksLeft_9 : decode cX1_tricksLeft 9 = .ok (.ireturn, 1) := by decide +kernel
theorem dX1_tricksOver_0 : decode cX1_tricksOver 0 = .ok (.aload_n 0, 1) := by decide +kernel
theorem dX1_tricksOver_1 : decode cX1_tricksOver 1 = .ok (.getfield 35, 3) := by decide +kernel
theorem dX1_tricksOver_4 : decode cX1_tricksOver 4 = .ok (.iconst 4, 1) := by decide +kernel
theorem dX1_tricksOver_5 : decode cX1_tricksOver 5 = .ok (.idiv, 1) := by decide +kernel
theorem dX1_tricksOver_6 : decode cX1_tricksOver 6 = .ok (.ireturn, 1) := by decide +kernel
theorem dX1_trickSize_0 : decode cX1_trickSize 0 = .ok (.aload_n 0, 1) := by decide +kernel
theorem dX1_trickSize_1 : decode cX1_trickSize 1 = .ok (.getfield 35, 3) := by decide +kernel
theorem dX1_trickSize_4 : decode cX1_trickSize 4 = .ok (.iconst 4, 1) := by decide +kernel
theorem dX1_trickSize_5 : decode cX1_trickSize 5 = .ok (.irem, 1) := by decide +kernel
theorem dX1_trickSize_6 : decode cX1_trickSize 6 = .ok (.ireturn, 1) := by decide +kernel
set_option maxRecDepth 20000 in
theorem ggX1_mover_X1_cardsLeft : GoodIn wsX1_mover wsX1_cardsLeft := goodIn_r _ [6, 7, 8, 22, 23, 24, 25, 26, 27, 28, 29] (by decide +kernel) (by decide +kernel)
set_option maxRecDepth 20000 in
theorem gX1_mover_X1_cardsLeft : GoodIn wsX1_mover (wsV RX1 59 RX1 yX1_cardsLeft wsX1_cardsLeft) := goodIn_app (goodIn_of _ (by decide +kernel)) ggX1_mover_X1_cardsLeft
set_option maxRecDepth 20000 in
theorem ggX1_mover_X1_tricksOver : GoodIn wsX1_mover wsX1_tricksOver := goodIn_r _ [12, 8, 22, 23, 24, 25, 26, 27, 28, 29] (by decide +kernel) (by decide +kernel)
set_option maxRecDepth 20000 in
theorem gX1_mover_X1_tricksOver : GoodIn wsX1_mover (wsV RX1 55 RX1 yX1_tricksOver wsX1_tricksOver) := goodIn_app (goodIn_of _ (by decide +kernel)) ggX1_mover_X1_tricksOver
set_option maxRecDepth 20000 in
theorem ggX1_mover_X1_leaderOf : GoodIn wsX1_mover wsX1_leaderOf := goodIn_r _ [16, 17, 22, 23, 24, 25, 26, 27, 28, 29] (by decide +kernel) (by decide +kernel)
set_option maxRecDepth 20000 in
theorem gX1_mover_X1_leaderOf : GoodIn wsX1_mover (wsV RX1 62 RX1 yX1_leaderOf wsX1_leaderOf) := goodIn_app (goodIn_of _ (by decide +kernel)) ggX1_mover_X1_leaderOf
set_option maxRecDepth 20000 in
theorem ggX1_mover_X1_trickSize : GoodIn wsX1_mover wsX1_trickSize := goodIn_r _ [21, 8, 22, 23, 24, 25, 26, 27, 28, 29] (by decide +kernel) (by decide +kernel)
set_option maxRecDepth 20000 in
theorem gX1_mover_X1_trickSize : GoodIn wsX1_mover (wsV RX1 65 RX1 yX1_trickSize wsX1_trickSize) := goodIn_app (goodIn_of _ (by decide +kernel)) ggX1_mover_X1_trickSize
theorem dX1_mover_0 : decode cX1_mover 0 = .ok (.aload_n 0, 1) := by decide +kernel
theorem dX1_mover_1 : decode cX1_mover 1 = .ok (.getfield 28, 3) := by decide +kernel
theorem dX1_mover_4 : decode cX1_mover 4 = .ok (.ifCond .eq 10, 3) := by decide +kernel
theorem dX1_mover_7 : decode cX1_mover 7 = .ok (.aload_n 0, 1) := by decide +kernel
theorem dX1_mover_8 : decode cX1_mover 8 = .ok (.invokevirtual 59, 3) := by decide +kernel
theorem dX1_mover_11 : decode cX1_mover 11 = .ok (.ifCond .gt 5, 3) := by decide +kernel
theorem dX1_mover_14 : decode cX1_mover 14 = .ok (.iconst (-1), 1) := by decide +kernel
theorem dX1_mover_15 : decode cX1_mover 15 = .ok (.ireturn, 1) := by decide +kernel
theorem dX1_mover_16 : decode cX1_mover 16 = .ok (.aload_n 0, 1) := by decide +kernel
theorem dX1_mover_17 : decode cX1_mover 17 = .ok (.aload_n 0, 1) := by decide +kernel
theorem dX1_mover_18 : decode cX1_mover 18 = .ok (.invokevirtual 55, 3) := by decide +kernel
theorem dX1_mover_21 : decode cX1_mover 21 = .ok (.invokevirtual 62, 3) := by decide +kernel
theorem dX1_mover_24 : decode cX1_mover 24 = .ok (.aload_n 0, 1) := by decide +kernel
theorem dX1_mover_25 : decode cX1_mover 25 = .ok (.invokevirtual 65, 3) := by decide +kernel
theorem dX1_mover_28 : decode cX1_mover 28 = .ok (.iadd, 1) := by decide +kernel
theorem dX1_mover_29 : decode cX1_mover 29 = .ok (.iconst 4, 1) := by decide +kernel
theorem dX1_mover_30 : decode cX1_mover 30 = .ok (.irem, 1) := by decide +kernel
theorem dX1_mover_31 : decode cX1_mover 31 = .ok (.ireturn, 1) := by decide +kernel
theorem dX1_leaderOf_0 : decode cX1_leaderOf 0 = .ok (.iload_n 1, 1) := by decide +kernel
theorem dX1_leaderOf_1 : decode cX1_leaderOf 1 = .ok (.ifCond .lt 21, 3) := by decide +kernel
theorem dX1_leaderOf_4 : decode cX1_leaderOf 4 = .ok (.iload_n 1, 1) := by decide +kernel
theorem dX1_leaderOf_5 : decode cX1_leaderOf 5 = .ok (.aload_n 0, 1) := by decide +kernel
theorem dX1_leaderOf_6 : decode cX1_leaderOf 6 = .ok (.getfield 18, 3) := by decide +kernel
theorem dX1_leaderOf_9 : decode cX1_leaderOf 9 = .ok (.arraylength, 1) := by decide +kernel
theorem dX1_leaderOf_10 : decode cX1_leaderOf 10 = .ok (.if_icmp .ge 12, 3) := by decide +kernel
theorem dX1_leaderOf_13 : decode cX1_leaderOf 13 = .ok (.aload_n 0, 1) := by decide +kernel
theorem dX1_leaderOf_14 : decode cX1_leaderOf 14 = .ok (.getfield 18, 3) := by decide +kernel
theorem dX1_leaderOf_17 : decode cX1_leaderOf 17 = .ok (.iload_n 1, 1) := by decide +kernel
theorem dX1_leaderOf_18 : decode cX1_leaderOf 18 = .ok (.iaload, 1) := by decide +kernel
theorem dX1_leaderOf_19 : decode cX1_leaderOf 19 = .ok (.goto 4, 3) := by decide +kernel
theorem dX1_leaderOf_22 : decode cX1_leaderOf 22 = .ok (.iconst 0, 1) := by decide +kernel
theorem dX1_leaderOf_23 : decode cX1_leaderOf 23 = .ok (.ireturn, 1) := by decide +kernel
theorem dX1_laidAt_0 : decode cX1_laidAt 0 = .ok (.iload_n 1, 1) := by decide +kernel
theorem dX1_laidAt_1 : decode cX1_laidAt 1 = .ok (.ifCond .lt 21, 3) := by decide +kernel
theorem dX1_laidAt_4 : decode cX1_laidAt 4 = .ok (.iload_n 1, 1) := by decide +kernel
theorem dX1_laidAt_5 : decode cX1_laidAt 5 = .ok (.aload_n 0, 1) := by decide +kernel
theorem dX1_laidAt_6 : decode cX1_laidAt 6 = .ok (.getfield 15, 3) := by decide +kernel
theorem dX1_laidAt_9 : decode cX1_laidAt 9 = .ok (.arraylength, 1) := by decide +kernel
theorem dX1_laidAt_10 : decode cX1_laidAt 10 = .ok (.if_icmp .ge 12, 3) := by decide +kernel
theorem dX1_laidAt_13 : decode cX1_laidAt 13 = .ok (.aload_n 0, 1) := by decide +kernel
theorem dX1_laidAt_14 : decode cX1_laidAt 14 = .ok (.getfield 15, 3) := by decide +kernel
theorem dX1_laidAt_17 : decode cX1_laidAt 17 = .ok (.iload_n 1, 1) := by decide +kernel
theorem dX1_laidAt_18 : decode cX1_laidAt 18 = .ok (.iaload, 1) := by decide +kernel
theorem dX1_laidAt_19 : decode cX1_laidAt 19 = .ok (.goto 4, 3) := by decide +kernel
theorem dX1_laidAt_22 : decode cX1_laidAt 22 = .ok (.iconst 0, 1) := by decide +kernel
theorem dX1_laidAt_23 : decode cX1_laidAt 23 = .ok (.ireturn, 1) := by decide +kernel
theorem dX1_handOf_0 : decode cX1_handOf 0 = .ok (.iload_n 1, 1) := by decide +kernel
theorem dX1_handOf_1 : decode cX1_handOf 1 = .ok (.ifCond .lt 21, 3) := by decide +kernel
theorem dX1_handOf_4 : decode cX1_handOf 4 = .ok (.iload_n 1, 1) := by decide +kernel
theorem dX1_handOf_5 : decode cX1_handOf 5 = .ok (.aload_n 0, 1) := by decide +kernel
theorem dX1_handOf_6 : decode cX1_handOf 6 = .ok (.getfield 9, 3) := by decide +kernel
theorem dX1_handOf_9 : decode cX1_handOf 9 = .ok (.arraylength, 1) := by decide +kernel
theorem dX1_handOf_10 : decode cX1_handOf 10 = .ok (.if_icmp .ge 12, 3) := by decide +kernel
theorem dX1_handOf_13 : decode cX1_handOf 13 = .ok (.aload_n 0, 1) := by decide +kernel
theorem dX1_handOf_14 : decode cX1_handOf 14 = .ok (.getfield 9, 3) := by decide +kernel
theorem dX1_handOf_17 : decode cX1_handOf 17 = .ok (.iload_n 1, 1) := by decide +kernel
theorem dX1_handOf_18 : decode cX1_handOf 18 = .ok (.iaload, 1) := by decide +kernel
theorem dX1_handOf_19 : decode cX1_handOf 19 = .ok (.goto 4, 3) := by decide +kernel
theorem dX1_handOf_22 : decode cX1_handOf 22 = .ok (.iconst 0, 1) := by decide +kernel
theorem dX1_handOf_23 : decode cX1_handOf 23 = .ok (.ireturn, 1) := by decide +kernel
theorem dX1_addTo_0 : decode cX1_addTo 0 = .ok (.iload_n 1, 1) := by decide +kernel
theorem dX1_addTo_1 : decode cX1_addTo 1 = .ok (.ifCond .lt 24, 3) := by decide +kernel
theorem dX1_addTo_4 : decode cX1_addTo 4 = .ok (.iload_n 1, 1) := by decide +kernel
theorem dX1_addTo_5 : decode cX1_addTo 5 = .ok (.aload_n 0, 1) := by decide +kernel
theorem dX1_addTo_6 : decode cX1_addTo 6 = .ok (.getfield 9, 3) := by decide +kernel
theorem dX1_addTo_9 : decode cX1_addTo 9 = .ok (.arraylength, 1) := by decide +kernel
theorem dX1_addTo_10 : decode cX1_addTo 10 = .ok (.if_icmp .ge 15, 3) := by decide +kernel
theorem dX1_addTo_13 : decode cX1_addTo 13 = .ok (.aload_n 0, 1) := by decide +kernel
theorem dX1_addTo_14 : decode cX1_addTo 14 = .ok (.getfield 9, 3) := by decide +kernel
theorem dX1_addTo_17 : decode cX1_addTo 17 = .ok (.iload_n 1, 1) := by decide +kernel
theorem dX1_addTo_18 : decode cX1_addTo 18 = .ok (.dup2, 1) := by decide +kernel
theorem dX1_addTo_19 : decode cX1_addTo 19 = .ok (.iaload, 1) := by decide +kernel
theorem dX1_addTo_20 : decode cX1_addTo 20 = .ok (.iconst 1, 1) := by decide +kernel
theorem dX1_addTo_21 : decode cX1_addTo 21 = .ok (.iload_n 2, 1) := by decide +kernel
theorem dX1_addTo_22 : decode cX1_addTo 22 = .ok (.ishl, 1) := by decide +kernel
theorem dX1_addTo_23 : decode cX1_addTo 23 = .ok (.ior, 1) := by decide +kernel
theorem dX1_addTo_24 : decode cX1_addTo 24 = .ok (.iastore, 1) := by decide +kernel
theorem dX1_addTo_25 : decode cX1_addTo 25 = .ok (.return_, 1) := by decide +kernel
theorem dX1_dropFrom_0 : decode cX1_dropFrom 0 = .ok (.iload_n 1, 1) := by decide +kernel
theorem dX1_dropFrom_1 : decode cX1_dropFrom 1 = .ok (.ifCond .lt 26, 3) := by decide +kernel
theorem dX1_dropFrom_4 : decode cX1_dropFrom 4 = .ok (.iload_n 1, 1) := by decide +kernel
theorem dX1_dropFrom_5 : decode cX1_dropFrom 5 = .ok (.aload_n 0, 1) := by decide +kernel
theorem dX1_dropFrom_6 : decode cX1_dropFrom 6 = .ok (.getfield 9, 3) := by decide +kernel
theorem dX1_dropFrom_9 : decode cX1_dropFrom 9 = .ok (.arraylength, 1) := by decide +kernel
theorem dX1_dropFrom_10 : decode cX1_dropFrom 10 = .ok (.if_icmp .ge 17, 3) := by decide +kernel
theorem dX1_dropFrom_13 : decode cX1_dropFrom 13 = .ok (.aload_n 0, 1) := by decide +kernel
theorem dX1_dropFrom_14 : decode cX1_dropFrom 14 = .ok (.getfield 9, 3) := by decide +kernel
theorem dX1_dropFrom_17 : decode cX1_dropFrom 17 = .ok (.iload_n 1, 1) := by decide +kernel
theorem dX1_dropFrom_18 : decode cX1_dropFrom 18 = .ok (.dup2, 1) := by decide +kernel
