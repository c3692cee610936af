theorem inX0 : ∀ w ∈ wsX00, w ∈ lw_tbl := by decide +kernel
theorem inlX1 : ∀ w ∈ wsX10, w ∈ wsL_law := fun _ h => List.mem_append_left _ (List.mem_append_left _ (List.mem_append_left _ (List.mem_append_left _ (List.mem_append_left _ (List.mem_append_left _ (List.mem_append_left _ (List.mem_append_right _ h)))))))
theorem inX1 : ∀ w ∈ wsX10, w ∈ lw_tbl := fun w h => wsL_law_in w (inlX1 w h)
theorem inlX2 : ∀ w ∈ wsX20, w ∈ wsL_law := fun _ h => List.mem_append_left _ (List.mem_append_left _ (List.mem_append_left _ (List.mem_append_left _ (List.mem_append_right _ h))))
theorem inX2 : ∀ w ∈ wsX20, w ∈ lw_tbl := fun w h => wsL_law_in w (inlX2 w h)
theorem inlX3 : ∀ w ∈ wsX30, w ∈ wsL_law := fun _ h => List.mem_append_left _ (List.mem_append_left _ (List.mem_append_left _ (List.mem_append_left _ (List.mem_append_left _ (List.mem_append_right _ h)))))
theorem inX3 : ∀ w ∈ wsX30, w ∈ lw_tbl := fun w h => wsL_law_in w (inlX3 w h)
theorem inlX4 : ∀ w ∈ wsX40, w ∈ wsL_law := fun _ h => List.mem_append_left _ (List.mem_append_left _ (List.mem_append_left _ (List.mem_append_left _ (List.mem_append_left _ (List.mem_append_left _ (List.mem_append_right _ h))))))
theorem inX4 : ∀ w ∈ wsX40, w ∈ lw_tbl := fun w h => wsL_law_in w (inlX4 w h)
theorem inlX5 : ∀ w ∈ wsX50, w ∈ wsL_law := fun _ h => List.mem_append_left _ (List.mem_append_left _ (List.mem_append_left _ (List.mem_append_left _ (List.mem_append_left _ (List.mem_append_left _ (List.mem_append_left _ (List.mem_append_left _ (List.mem_append_left _ (List.mem_append_right _ h)))))))))
theorem inX5 : ∀ w ∈ wsX50, w ∈ lw_tbl := fun w h => wsL_law_in w (inlX5 w h)
theorem inlX6 : ∀ w ∈ wsX60, w ∈ wsL_law := fun _ h => List.mem_append_left _ (List.mem_append_left _ (List.mem_append_left _ (List.mem_append_left _ (List.mem_append_left _ (List.mem_append_left _ (List.mem_append_left _ (List.mem_append_left _ (List.mem_append_right _ h))))))))
theorem inX6 : ∀ w ∈ wsX60, w ∈ lw_tbl := fun w h => wsL_law_in w (inlX6 w h)
theorem inJ6 : ∀ w ∈ wsJ60, w ∈ lw_tbl := by decide +kernel
theorem inJ9 : ∀ w ∈ wsJ90, w ∈ lw_tbl := by decide +kernel
theorem inJ0 : ∀ w ∈ wsJ00, w ∈ lw_tbl := by decide +kernel
theorem dX0_holds_0 : decode cX0_holds 0 = .ok (.iload_n 0, 1) := by decide +kernel
theorem dX0_holds_1 : decode cX0_holds 1 = .ok (.iconst 1, 1) := by decide +kernel
theorem dX0_holds_2 : decode cX0_holds 2 = .ok (.iload_n 1, 1) := by decide +kernel
theorem dX0_holds_3 : decode cX0_holds 3 = .ok (.ishl, 1) := by decide +kernel
theorem dX0_holds_4 : decode cX0_holds 4 = .ok (.iand, 1) := by decide +kernel
theorem dX0_holds_5 : decode cX0_holds 5 = .ok (.ifCond .eq 7, 3) := by decide +kernel
theorem dX0_holds_8 : decode cX0_holds 8 = .ok (.iconst 1, 1) := by decide +kernel
theorem dX0_holds_9 : decode cX0_holds 9 = .ok (.goto 4, 3) := by decide +kernel
theorem dX0_holds_12 : decode cX0_holds 12 = .ok (.iconst 0, 1) := by decide +kernel
theorem dX0_holds_13 : decode cX0_holds 13 = .ok (.ireturn, 1) := by decide +kernel
theorem dX0_suitOf_0 : decode cX0_suitOf 0 = .ok (.iload_n 0, 1) := by decide +kernel
theorem dX0_suitOf_1 : decode cX0_suitOf 1 = .ok (.bipush 6, 2) := by decide +kernel
theorem dX0_suitOf_3 : decode cX0_suitOf 3 = .ok (.idiv, 1) := by decide +kernel
theorem dX0_suitOf_4 : decode cX0_suitOf 4 = .ok (.ireturn, 1) := by decide +kernel
theorem dX0_suitSet_0 : decode cX0_suitSet 0 = .ok (.bipush 63, 2) := by decide +kernel
theorem dX0_suitSet_2 : decode cX0_suitSet 2 = .ok (.iload_n 0, 1) := by decide +kernel
theorem dX0_suitSet_3 : decode cX0_suitSet 3 = .ok (.bipush 6, 2) := by decide +kernel
theorem dX0_suitSet_5 : decode cX0_suitSet 5 = .ok (.imul, 1) := by decide +kernel
theorem dX0_suitSet_6 : decode cX0_suitSet 6 = .ok (.ishl, 1) := by decide +kernel
theorem dX0_suitSet_7 : decode cX0_suitSet 7 = .ok (.ireturn, 1) := by decide +kernel
set_option maxRecDepth 20000 in
theorem ggX0_lowest_J6_numberOfTrailingZeros_0f7a4 : GoodIn wsX0_lowest wsJ6_numberOfTrailingZeros_0f7a4 := goodIn_r _ [4, 5] (by decide +kernel) (by decide +kernel)
set_option maxRecDepth 20000 in
theorem gX0_lowest_J6_numberOfTrailingZeros_0f7a4 : GoodIn wsX0_lowest (va_wsS RX0 9 yJ6_numberOfTrailingZeros_0f7a4 wsJ6_numberOfTrailingZeros_0f7a4) := goodIn_app (goodIn_of _ (by decide +kernel)) ggX0_lowest_J6_numberOfTrailingZeros_0f7a4
theorem dX0_lowest_0 : decode cX0_lowest 0 = .ok (.iload_n 0, 1) := by decide +kernel
theorem dX0_lowest_1 : decode cX0_lowest 1 = .ok (.invokestatic 9, 3) := by decide +kernel
theorem dX0_lowest_4 : decode cX0_lowest 4 = .ok (.ireturn, 1) := by decide +kernel
set_option maxRecDepth 20000 in
theorem ggX0_highest_J6_numberOfLeadingZeros_0f7a4 : GoodIn wsX0_highest wsJ6_numberOfLeadingZeros_0f7a4 := goodIn_r _ [4, 5] (by decide +kernel) (by decide +kernel)
set_option maxRecDepth 20000 in
theorem gX0_highest_J6_numberOfLeadingZeros_0f7a4 : GoodIn wsX0_highest (va_wsS RX0 15 yJ6_numberOfLeadingZeros_0f7a4 wsJ6_numberOfLeadingZeros_0f7a4) := goodIn_app (goodIn_of _ (by decide +kernel)) ggX0_highest_J6_numberOfLeadingZeros_0f7a4
theorem dX0_highest_0 : decode cX0_highest 0 = .ok (.bipush 31, 2) := by decide +kernel
theorem dX0_highest_2 : decode cX0_highest 2 = .ok (.iload_n 0, 1) := by decide +kernel
theorem dX0_highest_3 : decode cX0_highest 3 = .ok (.invokestatic 15, 3) := by decide +kernel
theorem dX0_highest_6 : decode cX0_highest 6 = .ok (.isub, 1) := by decide +kernel
theorem dX0_highest_7 : decode cX0_highest 7 = .ok (.ireturn, 1) := by decide +kernel
theorem dX0_sideOf_0 : decode cX0_sideOf 0 = .ok (.iload_n 0, 1) := by decide +kernel
theorem dX0_sideOf_1 : decode cX0_sideOf 1 = .ok (.iconst 2, 1) := by decide +kernel
theorem dX0_sideOf_2 : decode cX0_sideOf 2 = .ok (.irem, 1) := by decide +kernel
theorem dX0_sideOf_3 : decode cX0_sideOf 3 = .ok (.ireturn, 1) := by decide +kernel
set_option maxRecDepth 20000 in
theorem ggX0_equalBelow_X0_suitOf : GoodIn wsX0_equalBelow wsX0_suitOf := goodIn_r _ [4] (by decide +kernel) (by decide +kernel)
set_option maxRecDepth 20000 in
theorem gX0_equalBelow_X0_suitOf : GoodIn wsX0_equalBelow (va_wsS RX0 18 yX0_suitOf wsX0_suitOf) := goodIn_app (goodIn_of _ (by decide +kernel)) ggX0_equalBelow_X0_suitOf
set_option maxRecDepth 20000 in
theorem ggX0_equalBelow_X0_holds : GoodIn wsX0_equalBelow wsX0_holds := goodIn_r _ [7] (by decide +kernel) (by decide +kernel)
set_option maxRecDepth 20000 in
theorem gX0_equalBelow_X0_holds : GoodIn wsX0_equalBelow (va_wsS RX0 21 yX0_holds wsX0_holds) := goodIn_app (goodIn_of _ (by decide +kernel)) ggX0_equalBelow_X0_holds
theorem dX0_equalBelow_0 : decode cX0_equalBelow 0 = .ok (.iload_n 0, 1) := by decide +kernel
theorem dX0_equalBelow_1 : decode cX0_equalBelow 1 = .ok (.invokestatic 18, 3) := by decide +kernel
theorem dX0_equalBelow_4 : decode cX0_equalBelow 4 = .ok (.bipush 6, 2) := by decide +kernel
theorem dX0_equalBelow_6 : decode cX0_equalBelow 6 = .ok (.imul, 1) := by decide +kernel
theorem dX0_equalBelow_7 : decode cX0_equalBelow 7 = .ok (.istore_n 3, 1) := by decide +kernel
theorem dX0_equalBelow_8 : decode cX0_equalBelow 8 = .ok (.iload_n 0, 1) := by decide +kernel
theorem dX0_equalBelow_9 : decode cX0_equalBelow 9 = .ok (.iconst 1, 1) := by decide +kernel
theorem dX0_equalBelow_10 : decode cX0_equalBelow 10 = .ok (.isub, 1) := by decide +kernel
theorem dX0_equalBelow_11 : decode cX0_equalBelow 11 = .ok (.istore 4, 2) := by decide +kernel
theorem dX0_equalBelow_13 : decode cX0_equalBelow 13 = .ok (.iload 4, 2) := by decide +kernel
theorem dX0_equalBelow_15 : decode cX0_equalBelow 15 = .ok (.iload_n 3, 1) := by decide +kernel
theorem dX0_equalBelow_16 : decode cX0_equalBelow 16 = .ok (.if_icmp .lt 32, 3) := by decide +kernel
theorem dX0_equalBelow_19 : decode cX0_equalBelow 19 = .ok (.iload_n 1, 1) := by decide +kernel
theorem dX0_equalBelow_20 : decode cX0_equalBelow 20 = .ok (.iload 4, 2) := by decide +kernel
theorem dX0_equalBelow_22 : decode cX0_equalBelow 22 = .ok (.invokestatic 21, 3) := by decide +kernel
theorem dX0_equalBelow_25 : decode cX0_equalBelow 25 = .ok (.ifCond .eq 6, 3) := by decide +kernel
theorem dX0_equalBelow_28 : decode cX0_equalBelow 28 = .ok (.iload 4, 2) := by decide +kernel
theorem dX0_equalBelow_30 : decode cX0_equalBelow 30 = .ok (.ireturn, 1) := by decide +kernel
theorem dX0_equalBelow_31 : decode cX0_equalBelow 31 = .ok (.iload_n 2, 1) := by decide +kernel
theorem dX0_equalBelow_32 : decode cX0_equalBelow 32 = .ok (.iload 4, 2) := by decide +kernel
theorem dX0_equalBelow_34 : decode cX0_equalBelow 34 = .ok (.invokestatic 21, 3) := by decide +kernel
theorem dX0_equalBelow_37 : decode cX0_equalBelow 37 = .ok (.ifCond .ne 5, 3) := by decide +kernel
theorem dX0_equalBelow_40 : decode cX0_equalBelow 40 = .ok (.iconst (-1), 1) := by decide +kernel
theorem dX0_equalBelow_41 : decode cX0_equalBelow 41 = .ok (.ireturn, 1) := by decide +kernel
theorem dX0_equalBelow_42 : decode cX0_equalBelow 42 = .ok (.iinc 4 (-1), 3) := by decide +kernel
theorem dX0_equalBelow_45 : decode cX0_equalBelow 45 = .ok (.goto (-32), 3) := by decide +kernel
theorem dX0_equalBelow_48 : decode cX0_equalBelow 48 = .ok (.iconst (-1), 1) := by decide +kernel
theorem dX0_equalBelow_49 : decode cX0_equalBelow 49 = .ok (.ireturn, 1) := by decide +kernel
set_option maxRecDepth 20000 in
theorem ggX0_lowestOfEquals_X0_lowest : GoodIn wsX0_lowestOfEquals wsX0_lowest := goodIn_r _ [4, 5, 6, 7, 8, 9] (by decide +kernel) (by decide +kernel)
set_option maxRecDepth 20000 in
theorem gX0_lowestOfEquals_X0_lowest : GoodIn wsX0_lowestOfEquals (va_wsS RX0 25 yX0_lowest wsX0_lowest) := goodIn_app (goodIn_of _ (by decide +kernel)) ggX0_lowestOfEquals_X0_lowest
set_option maxRecDepth 20000 in
theorem ggX0_lowestOfEquals_X0_equalBelow : GoodIn wsX0_lowestOfEquals wsX0_equalBelow := goodIn_r _ [12, 13, 14, 3, 15, 16, 17, 18] (by decide +kernel) (by decide +kernel)
set_option maxRecDepth 20000 in
theorem gX0_lowestOfEquals_X0_equalBelow : GoodIn wsX0_lowestOfEquals (va_wsS RX0 28 yX0_equalBelow wsX0_equalBelow) := goodIn_app (goodIn_of _ (by decide +kernel)) ggX0_lowestOfEquals_X0_equalBelow
theorem dX0_lowestOfEquals_0 : decode cX0_lowestOfEquals 0 = .ok (.iconst 0, 1) := by decide +kernel
theorem dX0_lowestOfEquals_1 : decode cX0_lowestOfEquals 1 = .ok (.istore_n 2, 1) := by decide +kernel
theorem dX0_lowestOfEquals_2 : decode cX0_lowestOfEquals 2 = .ok (.iload_n 0, 1) := by decide +kernel
theorem dX0_lowestOfEquals_3 : decode cX0_lowestOfEquals 3 = .ok (.istore_n 3, 1) := by decide +kernel
theorem dX0_lowestOfEquals_4 : decode cX0_lowestOfEquals 4 = .ok (.iconst 0, 1) := by decide +kernel
theorem dX0_lowestOfEquals_5 : decode cX0_lowestOfEquals 5 = .ok (.istore 4, 2) := by decide +kernel
theorem dX0_lowestOfEquals_7 : decode cX0_lowestOfEquals 7 = .ok (.iload 4, 2) := by decide +kernel
theorem dX0_lowestOfEquals_9 : decode cX0_lowestOfEquals 9 = .ok (.iconst 4, 1) := by decide +kernel
theorem dX0_lowestOfEquals_10 : decode cX0_lowestOfEquals 10 = .ok (.if_icmp .ge 46, 3) := by decide +kernel
theorem dX0_lowestOfEquals_13 : decode cX0_lowestOfEquals 13 = .ok (.iload_n 3, 1) := by decide +kernel
theorem dX0_lowestOfEquals_14 : decode cX0_lowestOfEquals 14 = .ok (.ifCond .eq 42, 3) := by decide +kernel
theorem dX0_lowestOfEquals_17 : decode cX0_lowestOfEquals 17 = .ok (.iload_n 3, 1) := by decide +kernel
theorem dX0_lowestOfEquals_18 : decode cX0_lowestOfEquals 18 = .ok (.invokestatic 25, 3) := by decide +kernel
theorem dX0_lowestOfEquals_21 : decode cX0_lowestOfEquals 21 = .ok (.istore 5, 2) := by decide +kernel
theorem dX0_lowestOfEquals_23 : decode cX0_lowestOfEquals 23 = .ok (.iload_n 3, 1) := by decide +kernel
theorem dX0_lowestOfEquals_24 : decode cX0_lowestOfEquals 24 = .ok (.iconst 1, 1) := by decide +kernel
theorem dX0_lowestOfEquals_25 : decode cX0_lowestOfEquals 25 = .ok (.iload 5, 2) := by decide +kernel
theorem dX0_lowestOfEquals_27 : decode cX0_lowestOfEquals 27 = .ok (.ishl, 1) := by decide +kernel
theorem dX0_lowestOfEquals_28 : decode cX0_lowestOfEquals 28 = .ok (.iconst (-1), 1) := by decide +kernel
theorem dX0_lowestOfEquals_29 : decode cX0_lowestOfEquals 29 = .ok (.ixor, 1) := by decide +kernel
theorem dX0_lowestOfEquals_30 : decode cX0_lowestOfEquals 30 = .ok (.iand, 1) := by decide +kernel
theorem dX0_lowestOfEquals_31 : decode cX0_lowestOfEquals 31 = .ok (.istore_n 3, 1) := by decide +kernel
theorem dX0_lowestOfEquals_32 : decode cX0_lowestOfEquals 32 = .ok (.iload 5, 2) := by decide +kernel
theorem dX0_lowestOfEquals_34 : decode cX0_lowestOfEquals 34 = .ok (.iload_n 0, 1) := by decide +kernel
theorem dX0_lowestOfEquals_35 : decode cX0_lowestOfEquals 35 = .ok (.iload_n 1, 1) := by decide +kernel
theorem dX0_lowestOfEquals_36 : decode cX0_lowestOfEquals 36 = .ok (.invokestatic 28, 3) := by decide +kernel
theorem dX0_lowestOfEquals_39 : decode cX0_lowestOfEquals 39 = .ok (.iconst (-1), 1) := by decide +kernel
theorem dX0_lowestOfEquals_40 : decode cX0_lowestOfEquals 40 = .ok (.if_icmp .ne 10, 3) := by decide +kernel
theorem dX0_lowestOfEquals_43 : decode cX0_lowestOfEquals 43 = .ok (.iload_n 2, 1) := by decide +kernel
theorem dX0_lowestOfEquals_44 : decode cX0_lowestOfEquals 44 = .ok (.iconst 1, 1) := by decide +kernel
theorem dX0_lowestOfEquals_45 : decode cX0_lowestOfEquals 45 = .ok (.iload 5, 2) := by decide +kernel
theorem dX0_lowestOfEquals_47 : decode cX0_lowestOfEquals 47 = .ok (.ishl, 1) := by decide +kernel
theorem dX0_lowestOfEquals_48 : decode cX0_lowestOfEquals 48 = .ok (.ior, 1) := by decide +kernel
theorem dX0_lowestOfEquals_49 : decode cX0_lowestOfEquals 49 = .ok (.istore_n 2, 1) := by decide +kernel
theorem dX0_lowestOfEquals_50 : decode cX0_lowestOfEquals 50 = .ok (.iinc 4 1, 3) := by decide +kernel
theorem dX0_lowestOfEquals_53 : decode cX0_lowestOfEquals 53 = .ok (.goto (-46), 3) := by decide +kernel
theorem dX0_lowestOfEquals_56 : decode cX0_lowestOfEquals 56 = .ok (.iload_n 2, 1) := by decide +kernel
theorem dX0_lowestOfEquals_57 : decode cX0_lowestOfEquals 57 = .ok (.ireturn, 1) := by decide +kernel
theorem dX1_init_0 : decode cX1_init 0 = .ok (.aload_n 0, 1) := by decide +kernel
theorem dX1_init_1 : decode cX1_init 1 = .ok (.invokespecial 1, 3) := by decide +kernel
theorem dX1_init_4 : decode cX1_init 4 = .ok (.aload_n 0, 1) := by decide +kernel
theorem dX1_init_5 : decode cX1_init 5 = .ok (.iconst 4, 1) := by decide +kernel
theorem dX1_init_6 : decode cX1_init 6 = .ok (.newarray .int, 2) := by decide +kernel
theorem dX1_init_8 : decode cX1_init 8 = .ok (.putfield 9, 3) := by decide +kernel
theorem dX1_init_11 : decode cX1_init 11 = .ok (.aload_n 0, 1) := by decide +kernel
theorem dX1_init_12 : decode cX1_init 12 = .ok (.bipush 16, 2) := by decide +kernel
theorem dX1_init_14 : decode cX1_init 14 = .ok (.newarray .int, 2) := by decide +kernel
theorem dX1_init_16 : decode cX1_init 16 = .ok (.putfield 15, 3) := by decide +kernel
theorem dX1_init_19 : decode cX1_init 19 = .ok (.aload_n 0, 1) := by decide +kernel
theorem dX1_init_20 : decode cX1_init 20 = .ok (.iconst 5, 1) := by decide +kernel
theorem dX1_init_21 : decode cX1_init 21 = .ok (.newarray .int, 2) := by decide +kernel
theorem dX1_init_23 : decode cX1_init 23 = .ok (.putfield 18, 3) := by decide +kernel
theorem dX1_init_26 : decode cX1_init 26 = .ok (.aload_n 0, 1) := by decide +kernel
theorem dX1_init_27 : decode cX1_init 27 = .ok (.iconst (-1), 1) := by decide +kernel
theorem dX1_init_28 : decode cX1_init 28 = .ok (.putfield 21, 3) := by decide +kernel
theorem dX1_init_31 : decode cX1_init 31 = .ok (.return_, 1) := by decide +kernel
theorem dX1_clearFor_0 : decode cX1_clearFor 0 = .ok (.aload_n 0, 1) := by decide +kernel
theorem dX1_clearFor_1 : decode cX1_clearFor 1 = .ok (.getfield 21, 3) := by decide +kernel
theorem dX1_clearFor_4 : decode cX1_clearFor 4 = .ok (.istore_n 2, 1) := by decide +kernel
theorem dX1_clearFor_5 : decode cX1_clearFor 5 = .ok (.aload_n 0, 1) := by decide +kernel
theorem dX1_clearFor_6 : decode cX1_clearFor 6 = .ok (.iload_n 1, 1) := by decide +kernel
theorem dX1_clearFor_7 : decode cX1_clearFor 7 = .ok (.putfield 21, 3) := by decide +kernel
theorem dX1_clearFor_10 : decode cX1_clearFor 10 = .ok (.iconst 0, 1) := by decide +kernel
theorem dX1_clearFor_11 : decode cX1_clearFor 11 = .ok (.istore_n 3, 1) := by decide +kernel
theorem dX1_clearFor_12 : decode cX1_clearFor 12 = .ok (.iload_n 3, 1) := by decide +kernel
theorem dX1_clearFor_13 : decode cX1_clearFor 13 = .ok (.aload_n 0, 1) := by decide +kernel
theorem dX1_clearFor_14 : decode cX1_clearFor 14 = .ok (.getfield 9, 3) := by decide +kernel
theorem dX1_clearFor_17 : decode cX1_clearFor 17 = .ok (.arraylength, 1) := by decide +kernel
theorem dX1_clearFor_18 : decode cX1_clearFor 18 = .ok (.if_icmp .ge 16, 3) := by decide +kernel
theorem dX1_clearFor_21 : decode cX1_clearFor 21 = .ok (.aload_n 0, 1) := by decide +kernel
theorem dX1_clearFor_22 : decode cX1_clearFor 22 = .ok (.getfield 9, 3) := by decide +kernel
theorem dX1_clearFor_25 : decode cX1_clearFor 25 = .ok (.iload_n 3, 1) := by decide +kernel
theorem dX1_clearFor_26 : decode cX1_clearFor 26 = .ok (.iconst 0, 1) := by decide +kernel
theorem dX1_clearFor_27 : decode cX1_clearFor 27 = .ok (.iastore, 1) := by decide +kernel
theorem dX1_clearFor_28 : decode cX1_clearFor 28 = .ok (.iinc 3 1, 3) := by decide +kernel
theorem dX1_clearFor_31 : decode cX1_clearFor 31 = .ok (.goto (-19), 3) := by decide +kernel
theorem dX1_clearFor_34 : decode cX1_clearFor 34 = .ok (.aload_n 0, 1) := by decide +kernel
theorem dX1_clearFor_35 : decode cX1_clearFor 35 = .ok (.iconst 0, 1) := by decide +kernel
theorem dX1_clearFor_36 : decode cX1_clearFor 36 = .ok (.putfield 25, 3) := by decide +kernel
theorem dX1_clearFor_39 : decode cX1_clearFor 39 = .ok (.aload_n 0, 1) := by decide +kernel
theorem dX1_clearFor_40 : decode cX1_clearFor 40 = .ok (.iconst 0, 1) := by decide +kernel
theorem dX1_clearFor_41 : decode cX1_clearFor 41 = .ok (.putfield 28, 3) := by decide +kernel
theorem dX1_clearFor_44 : decode cX1_clearFor 44 = .ok (.aload_n 0, 1) := by decide +kernel
theorem dX1_clearFor_45 : decode cX1_clearFor 45 = .ok (.iconst 0, 1) := by decide +kernel
theorem dX1_clearFor_46 : decode cX1_clearFor 46 = .ok (.putfield 32, 3) := by decide +kernel
theorem dX1_clearFor_49 : decode cX1_clearFor 49 = .ok (.aload_n 0, 1) := by decide +kernel
theorem dX1_clearFor_50 : decode cX1_clearFor 50 = .ok (.iconst 0, 1) := by decide +kernel
theorem dX1_clearFor_51 : decode cX1_clearFor 51 = .ok (.putfield 35, 3) := by decide +kernel
theorem dX1_clearFor_54 : decode cX1_clearFor 54 = .ok (.iload_n 2, 1) := by decide +kernel
theorem dX1_clearFor_55 : decode cX1_clearFor 55 = .ok (.ireturn, 1) := by decide +kernel
set_option maxRecDepth 20000 in
theorem ggX1_canDeal_X0_holds : GoodIn wsX1_canDeal wsX0_holds := goodIn_r _ [6] (by decide +kernel) (by decide +kernel)
set_option maxRecDepth 20000 in
theorem gX1_canDeal_X0_holds : GoodIn wsX1_canDeal (va_wsS RX1 38 yX0_holds wsX0_holds) := goodIn_app (goodIn_of _ (by decide +kernel)) ggX1_canDeal_X0_holds
set_option maxRecDepth 20000 in
theorem ggX1_canDeal_X1_handOf : GoodIn wsX1_canDeal wsX1_handOf := goodIn_r _ [11, 12, 20, 21, 22, 23, 24, 25, 26, 27] (by decide +kernel) (by decide +kernel)
set_option maxRecDepth 20000 in
theorem gX1_canDeal_X1_handOf : GoodIn wsX1_canDeal (wsV RX1 42 RX1 yX1_handOf wsX1_handOf) := goodIn_app (goodIn_of _ (by decide +kernel)) ggX1_canDeal_X1_handOf
set_option maxRecDepth 20000 in
theorem ggX1_canDeal_J6_bitCount_0f7a4 : GoodIn wsX1_canDeal wsJ6_bitCount_0f7a4 := goodIn_r _ [16, 17, 18, 19] (by decide +kernel) (by decide +kernel)
set_option maxRecDepth 20000 in
theorem gX1_canDeal_J6_bitCount_0f7a4 : GoodIn wsX1_canDeal (va_wsS RX1 46 yJ6_bitCount_0f7a4 wsJ6_bitCount_0f7a4) := goodIn_app (goodIn_of _ (by decide +kernel)) ggX1_canDeal_J6_bitCount_0f7a4
theorem dX1_canDeal_0 : decode cX1_canDeal 0 = .ok (.aload_n 0, 1) := by decide +kernel
theorem dX1_canDeal_1 : decode cX1_canDeal 1 = .ok (.getfield 28, 3) := by decide +kernel
theorem dX1_canDeal_4 : decode cX1_canDeal 4 = .ok (.ifCond .ne 30, 3) := by decide +kernel
theorem dX1_canDeal_7 : decode cX1_canDeal 7 = .ok (.aload_n 0, 1) := by decide +kernel
theorem dX1_canDeal_8 : decode cX1_canDeal 8 = .ok (.getfield 25, 3) := by decide +kernel
theorem dX1_canDeal_11 : decode cX1_canDeal 11 = .ok (.iload_n 2, 1) := by decide +kernel
theorem dX1_canDeal_12 : decode cX1_canDeal 12 = .ok (.invokestatic 38, 3) := by decide +kernel
theorem dX1_canDeal_15 : decode cX1_canDeal 15 = .ok (.ifCond .ne 19, 3) := by decide +kernel
theorem dX1_canDeal_18 : decode cX1_canDeal 18 = .ok (.aload_n 0, 1) := by decide +kernel
theorem dX1_canDeal_19 : decode cX1_canDeal 19 = .ok (.iload_n 1, 1) := by decide +kernel
theorem dX1_canDeal_20 : decode cX1_canDeal 20 = .ok (.invokevirtual 42, 3) := by decide +kernel
theorem dX1_canDeal_23 : decode cX1_canDeal 23 = .ok (.invokestatic 46, 3) := by decide +kernel
theorem dX1_canDeal_26 : decode cX1_canDeal 26 = .ok (.iconst 4, 1) := by decide +kernel
theorem dX1_canDeal_27 : decode cX1_canDeal 27 = .ok (.if_icmp .ge 7, 3) := by decide +kernel
theorem dX1_canDeal_30 : decode cX1_canDeal 30 = .ok (.iconst 1, 1) := by decide +kernel
theorem dX1_canDeal_31 : decode cX1_canDeal 31 = .ok (.goto 4, 3) := by decide +kernel
theorem dX1_canDeal_34 : decode cX1_canDeal 34 = .ok (.iconst 0, 1) := by decide +kernel
theorem dX1_canDeal_35 : decode cX1_canDeal 35 = .ok (.ireturn, 1) := by decide +kernel
set_option maxRecDepth 20000 in
theorem ggX1_deal_X1_addTo : GoodIn wsX1_deal wsX1_addTo := goodIn_r _ [6, 7, 19, 20, 21, 22, 23, 24, 25, 26] (by decide +kernel) (by decide +kernel)
set_option maxRecDepth 20000 in
theorem gX1_deal_X1_addTo : GoodIn wsX1_deal (wsV RX1 51 RX1 yX1_addTo wsX1_addTo) := goodIn_app (goodIn_of _ (by decide +kernel)) ggX1_deal_X1_addTo
set_option maxRecDepth 20000 in
theorem ggX1_deal_X1_handOf : GoodIn wsX1_deal wsX1_handOf := goodIn_r _ [11, 7, 19, 20, 21, 22, 23, 24, 25, 26] (by decide +kernel) (by decide +kernel)
set_option maxRecDepth 20000 in
theorem gX1_deal_X1_handOf : GoodIn wsX1_deal (wsV RX1 42 RX1 yX1_handOf wsX1_handOf) := goodIn_app (goodIn_of _ (by decide +kernel)) ggX1_deal_X1_handOf
set_option maxRecDepth 20000 in
theorem ggX1_deal_J6_bitCount_0f7a4 : GoodIn wsX1_deal wsJ6_bitCount_0f7a4 := goodIn_r _ [15, 16, 17, 18] (by decide +kernel) (by decide +kernel)
set_option maxRecDepth 20000 in
theorem gX1_deal_J6_bitCount_0f7a4 : GoodIn wsX1_deal (va_wsS RX1 46 yJ6_bitCount_0f7a4 wsJ6_bitCount_0f7a4) := goodIn_app (goodIn_of _ (by decide +kernel)) ggX1_deal_J6_bitCount_0f7a4
theorem dX1_deal_0 : decode cX1_deal 0 = .ok (.aload_n 0, 1) := by decide +kernel
theorem dX1_deal_1 : decode cX1_deal 1 = .ok (.dup, 1) := by decide +kernel
theorem dX1_deal_2 : decode cX1_deal 2 = .ok (.getfield 25, 3) := by decide +kernel
theorem dX1_deal_5 : decode cX1_deal 5 = .ok (.iconst 1, 1) := by decide +kernel
theorem dX1_deal_6 : decode cX1_deal 6 = .ok (.iload_n 2, 1) := by decide +kernel
theorem dX1_deal_7 : decode cX1_deal 7 = .ok (.ishl, 1) := by decide +kernel
theorem dX1_deal_8 : decode cX1_deal 8 = .ok (.ior, 1) := by decide +kernel
theorem dX1_deal_9 : decode cX1_deal 9 = .ok (.putfield 25, 3) := by decide +kernel
theorem dX1_deal_12 : decode cX1_deal 12 = .ok (.aload_n 0, 1) := by decide +kernel
theorem dX1_deal_13 : decode cX1_deal 13 = .ok (.iload_n 1, 1) := by decide +kernel
theorem dX1_deal_14 : decode cX1_deal 14 = .ok (.iload_n 2, 1) := by decide +kernel
theorem dX1_deal_15 : decode cX1_deal 15 = .ok (.invokevirtual 51, 3) := by decide +kernel
theorem dX1_deal_18 : decode cX1_deal 18 = .ok (.aload_n 0, 1) := by decide +kernel
theorem dX1_deal_19 : decode cX1_deal 19 = .ok (.iload_n 1, 1) := by decide +kernel
theorem dX1_deal_20 : decode cX1_deal 20 = .ok (.invokevirtual 42, 3) := by decide +kernel
theorem dX1_deal_23 : decode cX1_deal 23 = .ok (.invokestatic 46, 3) := by decide +kernel
theorem dX1_deal_26 : decode cX1_deal 26 = .ok (.ireturn, 1) := by decide +kernel
set_option maxRecDepth 20000 in
theorem ggX1_canOpen_X1_handOf : GoodIn wsX1_canOpen wsX1_handOf := goodIn_r _ [6, 7, 15, 16, 17, 18, 19, 20, 21, 22] (by decide +kernel) (by decide +kernel)
set_option maxRecDepth 20000 in
theorem gX1_canOpen_X1_handOf : GoodIn wsX1_canOpen (wsV RX1 42 RX1 yX1_handOf wsX1_handOf) := goodIn_app (goodIn_of _ (by decide +kernel)) ggX1_canOpen_X1_handOf
set_option maxRecDepth 20000 in
theorem ggX1_canOpen_J6_bitCount_0f7a4 : GoodIn wsX1_canOpen wsJ6_bitCount_0f7a4 := goodIn_r _ [11, 12, 13, 14] (by decide +kernel) (by decide +kernel)
set_option maxRecDepth 20000 in
theorem gX1_canOpen_J6_bitCount_0f7a4 : GoodIn wsX1_canOpen (va_wsS RX1 46 yJ6_bitCount_0f7a4 wsJ6_bitCount_0f7a4) := goodIn_app (goodIn_of _ (by decide +kernel)) ggX1_canOpen_J6_bitCount_0f7a4
theorem dX1_canOpen_0 : decode cX1_canOpen 0 = .ok (.aload_n 0, 1) := by decide +kernel
theorem dX1_canOpen_1 : decode cX1_canOpen 1 = .ok (.iconst 0, 1) := by decide +kernel
theorem dX1_canOpen_2 : decode cX1_canOpen 2 = .ok (.invokevirtual 42, 3) := by decide +kernel
theorem dX1_canOpen_5 : decode cX1_canOpen 5 = .ok (.invokestatic 46, 3) := by decide +kernel
theorem dX1_canOpen_8 : decode cX1_canOpen 8 = .ok (.istore_n 1, 1) := by decide +kernel
theorem dX1_canOpen_9 : decode cX1_canOpen 9 = .ok (.aload_n 0, 1) := by decide +kernel
theorem dX1_canOpen_10 : decode cX1_canOpen 10 = .ok (.getfield 28, 3) := by decide +kernel
theorem dX1_canOpen_13 : decode cX1_canOpen 13 = .ok (.ifCond .ne 7, 3) := by decide +kernel
theorem dX1_canOpen_16 : decode cX1_canOpen 16 = .ok (.iload_n 1, 1) := by decide +kernel
theorem dX1_canOpen_17 : decode cX1_canOpen 17 = .ok (.ifCond .ne 5, 3) := by decide +kernel
theorem dX1_canOpen_20 : decode cX1_canOpen 20 = .ok (.iconst 0, 1) := by decide +kernel
theorem dX1_canOpen_21 : decode cX1_canOpen 21 = .ok (.ireturn, 1) := by decide +kernel
theorem dX1_canOpen_22 : decode cX1_canOpen 22 = .ok (.iconst 1, 1) := by decide +kernel
theorem dX1_canOpen_23 : decode cX1_canOpen 23 = .ok (.istore_n 2, 1) := by decide +kernel
theorem dX1_canOpen_24 : decode cX1_canOpen 24 = .ok (.iload_n 2, 1) := by decide +kernel
theorem dX1_canOpen_25 : decode cX1_canOpen 25 = .ok (.iconst 4, 1) := by decide +kernel
theorem dX1_canOpen_26 : decode cX1_canOpen 26 = .ok (.if_icmp .ge 23, 3) := by decide +kernel
theorem dX1_canOpen_29 : decode cX1_canOpen 29 = .ok (.aload_n 0, 1) := by decide +kernel
theorem dX1_canOpen_30 : decode cX1_canOpen 30 = .ok (.iload_n 2, 1) := by decide +kernel
theorem dX1_canOpen_31 : decode cX1_canOpen 31 = .ok (.invokevirtual 42, 3) := by decide +kernel
theorem dX1_canOpen_34 : decode cX1_canOpen 34 = .ok (.invokestatic 46, 3) := by decide +kernel
theorem dX1_canOpen_37 : decode cX1_canOpen 37 = .ok (.iload_n 1, 1) := by decide +kernel
theorem dX1_canOpen_38 : decode cX1_canOpen 38 = .ok (.if_icmp .eq 5, 3) := by decide +kernel
theorem dX1_canOpen_41 : decode cX1_canOpen 41 = .ok (.iconst 0, 1) := by decide +kernel
theorem dX1_canOpen_42 : decode cX1_canOpen 42 = .ok (.ireturn, 1) := by decide +kernel
theorem dX1_canOpen_43 : decode cX1_canOpen 43 = .ok (.iinc 2 1, 3) := by decide +kernel
theorem dX1_canOpen_46 : decode cX1_canOpen 46 = .ok (.goto (-22), 3) := by decide +kernel
theorem dX1_canOpen_49 : decode cX1_canOpen 49 = .ok (.iconst 1, 1) := by decide +kernel
theorem dX1_canOpen_50 : decode cX1_canOpen 50 = .ok (.ireturn, 1) := by decide +kernel
set_option maxRecDepth 20000 in
theorem ggX1_open_X1_handOf : GoodIn wsX1_open wsX1_handOf := goodIn_r _ [8, 9, 17, 18, 19, 20, 21, 22, 23, 24] (by decide +kernel) (by decide +kernel)
set_option maxRecDepth 20000 in
theorem gX1_open_X1_handOf : GoodIn wsX1_open (wsV RX1 42 RX1 yX1_handOf wsX1_handOf) := goodIn_app (goodIn_of _ (by decide +kernel)) ggX1_open_X1_handOf
set_option maxRecDepth 20000 in
theorem ggX1_open_J6_bitCount_0f7a4 : GoodIn wsX1_open wsJ6_bitCount_0f7a4 := goodIn_r _ [13, 14, 15, 16] (by decide +kernel) (by decide +kernel)
set_option maxRecDepth 20000 in
theorem gX1_open_J6_bitCount_0f7a4 : GoodIn wsX1_open (va_wsS RX1 46 yJ6_bitCount_0f7a4 wsJ6_bitCount_0f7a4) := goodIn_app (goodIn_of _ (by decide +kernel)) ggX1_open_J6_bitCount_0f7a4
theorem dX1_open_0 : decode cX1_open 0 = .ok (.aload_n 0, 1) := by decide +kernel
theorem dX1_open_1 : decode cX1_open 1 = .ok (.iconst 1, 1) := by decide +kernel
theorem dX1_open_2 : decode cX1_open 2 = .ok (.putfield 28, 3) := by decide +kernel
theorem dX1_open_5 : decode cX1_open 5 = .ok (.aload_n 0, 1) := by decide +kernel
theorem dX1_open_6 : decode cX1_open 6 = .ok (.aload_n 0, 1) := by decide +kernel
theorem dX1_open_7 : decode cX1_open 7 = .ok (.iconst 0, 1) := by decide +kernel
theorem dX1_open_8 : decode cX1_open 8 = .ok (.invokevirtual 42, 3) := by decide +kernel
theorem dX1_open_11 : decode cX1_open 11 = .ok (.invokestatic 46, 3) := by decide +kernel
theorem dX1_open_14 : decode cX1_open 14 = .ok (.putfield 32, 3) := by decide +kernel
theorem dX1_open_17 : decode cX1_open 17 = .ok (.aload_n 0, 1) := by decide +kernel
theorem dX1_open_18 : decode cX1_open 18 = .ok (.getfield 18, 3) := by decide +kernel
theorem dX1_open_21 : decode cX1_open 21 = .ok (.iconst 0, 1) := by decide +kernel
theorem dX1_open_22 : decode cX1_open 22 = .ok (.iload_n 1, 1) := by decide +kernel
theorem dX1_open_23 : decode cX1_open 23 = .ok (.iastore, 1) := by decide +kernel
theorem dX1_open_24 : decode cX1_open 24 = .ok (.aload_n 0, 1) := by decide +kernel
theorem dX1_open_25 : decode cX1_open 25 = .ok (.getfield 32, 3) := by decide +kernel
theorem dX1_open_28 : decode cX1_open 28 = .ok (.ireturn, 1) := by decide +kernel
theorem dX1_isOpen_0 : decode cX1_isOpen 0 = .ok (.aload_n 0, 1) := by decide +kernel
theorem dX1_isOpen_1 : decode cX1_isOpen 1 = .ok (.getfield 28, 3) := by decide +kernel
theorem dX1_isOpen_4 : decode cX1_isOpen 4 = .ok (.ireturn, 1) := by decide +kernel
theorem dX1_laidCount_0 : decode cX1_laidCount 0 = .ok (.aload_n 0, 1) := by decide +kernel
theorem dX1_laidCount_1 : decode cX1_laidCount 1 = .ok (.getfield 35, 3) := by decide +kernel
theorem dX1_laidCount_4 : decode cX1_laidCount 4 = .ok (.ireturn, 1) := by decide +kernel
theorem dX1_cardsLeft_0 : decode cX1_cardsLeft 0 = .ok (.aload_n 0, 1) := by decide +kernel
theorem dX1_cardsLeft_1 : decode cX1_cardsLeft 1 = .ok (.getfield 32, 3) := by decide +kernel
theorem dX1_cardsLeft_4 : decode cX1_cardsLeft 4 = .ok (.iconst 4, 1) := by decide +kernel
theorem dX1_cardsLeft_5 : decode cX1_cardsLeft 5 = .ok (.imul, 1) := by decide +kernel
theorem dX1_cardsLeft_6 : decode cX1_cardsLeft 6 = .ok (.aload_n 0, 1) := by decide +kernel
theorem dX1_cardsLeft_7 : decode cX1_cardsLeft 7 = .ok (.getfield 35, 3) := by decide +kernel
theorem dX1_cardsLeft_10 : decode cX1_cardsLeft 10 = .ok (.isub, 1) := by decide +kernel
theorem dX1_cardsLeft_11 : decode cX1_cardsLeft 11 = .ok (.ireturn, 1) := by decide +kernel
set_option maxRecDepth 20000 in
theorem ggX1_tricksLeft_X1_tricksOver : GoodIn wsX1_tricksLeft wsX1_tricksOver := goodIn_r _ [6, 7, 8, 9, 10, 11, 12, 13, 14, 15] (by decide +kernel) (by decide +kernel)
set_option maxRecDepth 20000 in
theorem gX1_tricksLeft_X1_tricksOver : GoodIn wsX1_tricksLeft (wsV RX1 55 RX1 yX1_tricksOver wsX1_tricksOver) := goodIn_app (goodIn_of _ (by decide +kernel)) ggX1_tricksLeft_X1_tricksOver
theorem dX1_tricksLeft_0 : decode cX1_tricksLeft 0 = .ok (.aload_n 0, 1) := by decide +kernel
theorem dX1_tricksLeft_1 : decode cX1_tricksLeft 1 = .ok (.getfield 32, 3) := by decide +kernel
theorem dX1_tricksLeft_4 : decode cX1_tricksLeft 4 = .ok (.aload_n 0, 1) := by decide +kernel
theorem dX1_tricksLeft_5 : decode cX1_tricksLeft 5 = .ok (.invokevirtual 55, 3) := by decide +kernel
theorem dX1_tricksLeft_8 : decode cX1_tricksLeft 8 = .ok (.isub, 1) := by decide +kernel
theorem dX1_tricksLeft_9 : decode cX1_tricksLeft 9 = .ok (.ireturn, 1) := by decide +kernel
theorem dX1_tricksOver_0 : decode cX1_tricksOver 0 = .ok (.aload_n 0, 1) := by decide +kernel
theorem dX1_tricksOver_1 : decode cX1_tricksOver 1 = .ok (.getfield 35, 3) := by decide +kernel
theorem dX1_tricksOver_4 : decode cX1_tricksOver 4 = .ok (.iconst 4, 1) := by decide +kernel
theorem dX1_tricksOver_5 : decode cX1_tricksOver 5 = .ok (.idiv, 1) := by decide +kernel
theorem dX1_tricksOver_6 : decode cX1_tricksOver 6 = .ok (.ireturn, 1) := by decide +kernel
theorem dX1_trickSize_0 : decode cX1_trickSize 0 = .ok (.aload_n 0, 1) := by decide +kernel
theorem dX1_trickSize_1 : decode cX1_trickSize 1 = .ok (.getfield 35, 3) := by decide +kernel
theorem dX1_trickSize_4 : decode cX1_trickSize 4 = .ok (.iconst 4, 1) := by decide +kernel
theorem dX1_trickSize_5 : decode cX1_trickSize 5 = .ok (.irem, 1) := by decide +kernel
theorem dX1_trickSize_6 : decode cX1_trickSize 6 = .ok (.ireturn, 1) := by decide +kernel
set_option maxRecDepth 20000 in
theorem ggX1_mover_X1_cardsLeft : GoodIn wsX1_mover wsX1_cardsLeft := goodIn_r _ [6, 7, 8, 22, 23, 24, 25, 26, 27, 28, 29] (by decide +kernel) (by decide +kernel)
set_option maxRecDepth 20000 in
theorem gX1_mover_X1_cardsLeft : GoodIn wsX1_mover (wsV RX1 59 RX1 yX1_cardsLeft wsX1_cardsLeft) := goodIn_app (goodIn_of _ (by decide +kernel)) ggX1_mover_X1_cardsLeft
set_option maxRecDepth 20000 in
theorem ggX1_mover_X1_tricksOver : GoodIn wsX1_mover wsX1_tricksOver := goodIn_r _ [12, 8, 22, 23, 24, 25, 26, 27, 28, 29] (by decide +kernel) (by decide +kernel)
set_option maxRecDepth 20000 in
theorem gX1_mover_X1_tricksOver : GoodIn wsX1_mover (wsV RX1 55 RX1 yX1_tricksOver wsX1_tricksOver) := goodIn_app (goodIn_of _ (by decide +kernel)) ggX1_mover_X1_tricksOver
set_option maxRecDepth 20000 in
theorem ggX1_mover_X1_leaderOf : GoodIn wsX1_mover wsX1_leaderOf := goodIn_r _ [16, 17, 22, 23, 24, 25, 26, 27, 28, 29] (by decide +kernel) (by decide +kernel)
set_option maxRecDepth 20000 in
theorem gX1_mover_X1_leaderOf : GoodIn wsX1_mover (wsV RX1 62 RX1 yX1_leaderOf wsX1_leaderOf) := goodIn_app (goodIn_of _ (by decide +kernel)) ggX1_mover_X1_leaderOf
set_option maxRecDepth 20000 in
theorem ggX1_mover_X1_trickSize : GoodIn wsX1_mover wsX1_trickSize := goodIn_r _ [21, 8, 22, 23, 24, 25, 26, 27, 28, 29] (by decide +kernel) (by decide +kernel)
set_option maxRecDepth 20000 in
theorem gX1_mover_X1_trickSize : GoodIn wsX1_mover (wsV RX1 65 RX1 yX1_trickSize wsX1_trickSize) := goodIn_app (goodIn_of _ (by decide +kernel)) ggX1_mover_X1_trickSize
theorem dX1_mover_0 : decode cX1_mover 0 = .ok (.aload_n 0, 1) := by decide +kernel
theorem dX1_mover_1 : decode cX1_mover 1 = .ok (.getfield 28, 3) := by decide +kernel
theorem dX1_mover_4 : decode cX1_mover 4 = .ok (.ifCond .eq 10, 3) := by decide +kernel
theorem dX1_mover_7 : decode cX1_mover 7 = .ok (.aload_n 0, 1) := by decide +kernel
theorem dX1_mover_8 : decode cX1_mover 8 = .ok (.invokevirtual 59, 3) := by decide +kernel
theorem dX1_mover_11 : decode cX1_mover 11 = .ok (.ifCond .gt 5, 3) := by decide +kernel
theorem dX1_mover_14 : decode cX1_mover 14 = .ok (.iconst (-1), 1) := by decide +kernel
theorem dX1_mover_15 : decode cX1_mover 15 = .ok (.ireturn, 1) := by decide +kernel
theorem dX1_mover_16 : decode cX1_mover 16 = .ok (.aload_n 0, 1) := by decide +kernel
theorem dX1_mover_17 : decode cX1_mover 17 = .ok (.aload_n 0, 1) := by decide +kernel
theorem dX1_mover_18 : decode cX1_mover 18 = .ok (.invokevirtual 55, 3) := by decide +kernel
theorem dX1_mover_21 : decode cX1_mover 21 = .ok (.invokevirtual 62, 3) := by decide +kernel
theorem dX1_mover_24 : decode cX1_mover 24 = .ok (.aload_n 0, 1) := by decide +kernel
theorem dX1_mover_25 : decode cX1_mover 25 = .ok (.invokevirtual 65, 3) := by decide +kernel
theorem dX1_mover_28 : decode cX1_mover 28 = .ok (.iadd, 1) := by decide +kernel
theorem dX1_mover_29 : decode cX1_mover 29 = .ok (.iconst 4, 1) := by decide +kernel
theorem dX1_mover_30 : decode cX1_mover 30 = .ok (.irem, 1) := by decide +kernel
theorem dX1_mover_31 : decode cX1_mover 31 = .ok (.ireturn, 1) := by decide +kernel
theorem dX1_leaderOf_0 : decode cX1_leaderOf 0 = .ok (.iload_n 1, 1) := by decide +kernel
theorem dX1_leaderOf_1 : decode cX1_leaderOf 1 = .ok (.ifCond .lt 21, 3) := by decide +kernel
theorem dX1_leaderOf_4 : decode cX1_leaderOf 4 = .ok (.iload_n 1, 1) := by decide +kernel
theorem dX1_leaderOf_5 : decode cX1_leaderOf 5 = .ok (.aload_n 0, 1) := by decide +kernel
theorem dX1_leaderOf_6 : decode cX1_leaderOf 6 = .ok (.getfield 18, 3) := by decide +kernel
theorem dX1_leaderOf_9 : decode cX1_leaderOf 9 = .ok (.arraylength, 1) := by decide +kernel
theorem dX1_leaderOf_10 : decode cX1_leaderOf 10 = .ok (.if_icmp .ge 12, 3) := by decide +kernel
theorem dX1_leaderOf_13 : decode cX1_leaderOf 13 = .ok (.aload_n 0, 1) := by decide +kernel
theorem dX1_leaderOf_14 : decode cX1_leaderOf 14 = .ok (.getfield 18, 3) := by decide +kernel
theorem dX1_leaderOf_17 : decode cX1_leaderOf 17 = .ok (.iload_n 1, 1) := by decide +kernel
theorem dX1_leaderOf_18 : decode cX1_leaderOf 18 = .ok (.iaload, 1) := by decide +kernel
theorem dX1_leaderOf_19 : decode cX1_leaderOf 19 = .ok (.goto 4, 3) := by decide +kernel
theorem dX1_leaderOf_22 : decode cX1_leaderOf 22 = .ok (.iconst 0, 1) := by decide +kernel
theorem dX1_leaderOf_23 : decode cX1_leaderOf 23 = .ok (.ireturn, 1) := by decide +kernel
theorem dX1_laidAt_0 : decode cX1_laidAt 0 = .ok (.iload_n 1, 1) := by decide +kernel
theorem dX1_laidAt_1 : decode cX1_laidAt 1 = .ok (.ifCond .lt 21, 3) := by decide +kernel
theorem dX1_laidAt_4 : decode cX1_laidAt 4 = .ok (.iload_n 1, 1) := by decide +kernel
theorem dX1_laidAt_5 : decode cX1_laidAt 5 = .ok (.aload_n 0, 1) := by decide +kernel
theorem dX1_laidAt_6 : decode cX1_laidAt 6 = .ok (.getfield 15, 3) := by decide +kernel
theorem dX1_laidAt_9 : decode cX1_laidAt 9 = .ok (.arraylength, 1) := by decide +kernel
theorem dX1_laidAt_10 : decode cX1_laidAt 10 = .ok (.if_icmp .ge 12, 3) := by decide +kernel
theorem dX1_laidAt_13 : decode cX1_laidAt 13 = .ok (.aload_n 0, 1) := by decide +kernel
theorem dX1_laidAt_14 : decode cX1_laidAt 14 = .ok (.getfield 15, 3) := by decide +kernel
theorem dX1_laidAt_17 : decode cX1_laidAt 17 = .ok (.iload_n 1, 1) := by decide +kernel
theorem dX1_laidAt_18 : decode cX1_laidAt 18 = .ok (.iaload, 1) := by decide +kernel
theorem dX1_laidAt_19 : decode cX1_laidAt 19 = .ok (.goto 4, 3) := by decide +kernel
theorem dX1_laidAt_22 : decode cX1_laidAt 22 = .ok (.iconst 0, 1) := by decide +kernel
theorem dX1_laidAt_23 : decode cX1_laidAt 23 = .ok (.ireturn, 1) := by decide +kernel
theorem dX1_handOf_0 : decode cX1_handOf 0 = .ok (.iload_n 1, 1) := by decide +kernel
theorem dX1_handOf_1 : decode cX1_handOf 1 = .ok (.ifCond .lt 21, 3) := by decide +kernel
theorem dX1_handOf_4 : decode cX1_handOf 4 = .ok (.iload_n 1, 1) := by decide +kernel
theorem dX1_handOf_5 : decode cX1_handOf 5 = .ok (.aload_n 0, 1) := by decide +kernel
theorem dX1_handOf_6 : decode cX1_handOf 6 = .ok (.getfield 9, 3) := by decide +kernel
theorem dX1_handOf_9 : decode cX1_handOf 9 = .ok (.arraylength, 1) := by decide +kernel
theorem dX1_handOf_10 : decode cX1_handOf 10 = .ok (.if_icmp .ge 12, 3) := by decide +kernel
theorem dX1_handOf_13 : decode cX1_handOf 13 = .ok (.aload_n 0, 1) := by decide +kernel
theorem dX1_handOf_14 : decode cX1_handOf 14 = .ok (.getfield 9, 3) := by decide +kernel
theorem dX1_handOf_17 : decode cX1_handOf 17 = .ok (.iload_n 1, 1) := by decide +kernel
theorem dX1_handOf_18 : decode cX1_handOf 18 = .ok (.iaload, 1) := by decide +kernel
theorem dX1_handOf_19 : decode cX1_handOf 19 = .ok (.goto 4, 3) := by decide +kernel
theorem dX1_handOf_22 : decode cX1_handOf 22 = .ok (.iconst 0, 1) := by decide +kernel
theorem dX1_handOf_23 : decode cX1_handOf 23 = .ok (.ireturn, 1) := by decide +kernel
theorem dX1_addTo_0 : decode cX1_addTo 0 = .ok (.iload_n 1, 1) := by decide +kernel
theorem dX1_addTo_1 : decode cX1_addTo 1 = .ok (.ifCond .lt 24, 3) := by decide +kernel
theorem dX1_addTo_4 : decode cX1_addTo 4 = .ok (.iload_n 1, 1) := by decide +kernel
theorem dX1_addTo_5 : decode cX1_addTo 5 = .ok (.aload_n 0, 1) := by decide +kernel
theorem dX1_addTo_6 : decode cX1_addTo 6 = .ok (.getfield 9, 3) := by decide +kernel
theorem dX1_addTo_9 : decode cX1_addTo 9 = .ok (.arraylength, 1) := by decide +kernel
theorem dX1_addTo_10 : decode cX1_addTo 10 = .ok (.if_icmp .ge 15, 3) := by decide +kernel
theorem dX1_addTo_13 : decode cX1_addTo 13 = .ok (.aload_n 0, 1) := by decide +kernel
theorem dX1_addTo_14 : decode cX1_addTo 14 = .ok (.getfield 9, 3) := by decide +kernel
theorem dX1_addTo_17 : decode cX1_addTo 17 = .ok (.iload_n 1, 1) := by decide +kernel
theorem dX1_addTo_18 : decode cX1_addTo 18 = .ok (.dup2, 1) := by decide +kernel
theorem dX1_addTo_19 : decode cX1_addTo 19 = .ok (.iaload, 1) := by decide +kernel
theorem dX1_addTo_20 : decode cX1_addTo 20 = .ok (.iconst 1, 1) := by decide +kernel
theorem dX1_addTo_21 : decode cX1_addTo 21 = .ok (.iload_n 2, 1) := by decide +kernel
theorem dX1_addTo_22 : decode cX1_addTo 22 = .ok (.ishl, 1) := by decide +kernel
theorem dX1_addTo_23 : decode cX1_addTo 23 = .ok (.ior, 1) := by decide +kernel
theorem dX1_addTo_24 : decode cX1_addTo 24 = .ok (.iastore, 1) := by decide +kernel
theorem dX1_addTo_25 : decode cX1_addTo 25 = .ok (.return_, 1) := by decide +kernel
theorem dX1_dropFrom_0 : decode cX1_dropFrom 0 = .ok (.iload_n 1, 1) := by decide +kernel
theorem dX1_dropFrom_1 : decode cX1_dropFrom 1 = .ok (.ifCond .lt 26, 3) := by decide +kernel
theorem dX1_dropFrom_4 : decode cX1_dropFrom 4 = .ok (.iload_n 1, 1) := by decide +kernel
theorem dX1_dropFrom_5 : decode cX1_dropFrom 5 = .ok (.aload_n 0, 1) := by decide +kernel
theorem dX1_dropFrom_6 : decode cX1_dropFrom 6 = .ok (.getfield 9, 3) := by decide +kernel
theorem dX1_dropFrom_9 : decode cX1_dropFrom 9 = .ok (.arraylength, 1) := by decide +kernel
theorem dX1_dropFrom_10 : decode cX1_dropFrom 10 = .ok (.if_icmp .ge 17, 3) := by decide +kernel
theorem dX1_dropFrom_13 : decode cX1_dropFrom 13 = .ok (.aload_n 0, 1) := by decide +kernel
theorem dX1_dropFrom_14 : decode cX1_dropFrom 14 = .ok (.getfield 9, 3) := by decide +kernel
theorem dX1_dropFrom_17 : decode cX1_dropFrom 17 = .ok (.iload_n 1, 1) := by decide +kernel
theorem dX1_dropFrom_18 : decode cX1_dropFrom 18 = .ok (.dup2, 1) := by decide +kernel
theorem dX1_dropFrom_19 : decode cX1_dropFrom 19 = .ok (.iaload, 1) := by decide +kernel
theorem dX1_dropFrom_20 : decode cX1_dropFrom 20 = .ok (.iconst 1, 1) := by decide +kernel
theorem dX1_dropFrom_21 : decode cX1_dropFrom 21 = .ok (.iload_n 2, 1) := by decide +kernel
theorem dX1_dropFrom_22 : decode cX1_dropFrom 22 = .ok (.ishl, 1) := by decide +kernel
theorem dX1_dropFrom_23 : decode cX1_dropFrom 23 = .ok (.iconst (-1), 1) := by decide +kernel
theorem dX1_dropFrom_24 : decode cX1_dropFrom 24 = .ok (.ixor, 1) := by decide +kernel
theorem dX1_dropFrom_25 : decode cX1_dropFrom 25 = .ok (.iand, 1) := by decide +kernel
theorem dX1_dropFrom_26 : decode cX1_dropFrom 26 = .ok (.iastore, 1) := by decide +kernel
theorem dX1_dropFrom_27 : decode cX1_dropFrom 27 = .ok (.return_, 1) := by decide +kernel
set_option maxRecDepth 20000 in
theorem ggX1_trickCard_X1_trickSize : GoodIn wsX1_trickCard wsX1_trickSize := goodIn_r _ [6, 1, 12, 13, 14, 15, 16, 17, 18, 19] (by decide +kernel) (by decide +kernel)
set_option maxRecDepth 20000 in
theorem gX1_trickCard_X1_trickSize : GoodIn wsX1_trickCard (wsV RX1 65 RX1 yX1_trickSize wsX1_trickSize) := goodIn_app (goodIn_of _ (by decide +kernel)) ggX1_trickCard_X1_trickSize
set_option maxRecDepth 20000 in
theorem ggX1_trickCard_X1_laidAt : GoodIn wsX1_trickCard wsX1_laidAt := goodIn_r _ [10, 11, 12, 13, 14, 15, 16, 17, 18, 19] (by decide +kernel) (by decide +kernel)
set_option maxRecDepth 20000 in
theorem gX1_trickCard_X1_laidAt : GoodIn wsX1_trickCard (wsV RX1 68 RX1 yX1_laidAt wsX1_laidAt) := goodIn_app (goodIn_of _ (by decide +kernel)) ggX1_trickCard_X1_laidAt
theorem dX1_trickCard_0 : decode cX1_trickCard 0 = .ok (.aload_n 0, 1) := by decide +kernel
theorem dX1_trickCard_1 : decode cX1_trickCard 1 = .ok (.aload_n 0, 1) := by decide +kernel
theorem dX1_trickCard_2 : decode cX1_trickCard 2 = .ok (.getfield 35, 3) := by decide +kernel
theorem dX1_trickCard_5 : decode cX1_trickCard 5 = .ok (.aload_n 0, 1) := by decide +kernel
theorem dX1_trickCard_6 : decode cX1_trickCard 6 = .ok (.invokevirtual 65, 3) := by decide +kernel
theorem dX1_trickCard_9 : decode cX1_trickCard 9 = .ok (.isub, 1) := by decide +kernel
theorem dX1_trickCard_10 : decode cX1_trickCard 10 = .ok (.iload_n 1, 1) := by decide +kernel
theorem dX1_trickCard_11 : decode cX1_trickCard 11 = .ok (.iadd, 1) := by decide +kernel
theorem dX1_trickCard_12 : decode cX1_trickCard 12 = .ok (.invokevirtual 68, 3) := by decide +kernel
theorem dX1_trickCard_15 : decode cX1_trickCard 15 = .ok (.ireturn, 1) := by decide +kernel
set_option maxRecDepth 20000 in
theorem ggX1_playable_X1_mover : GoodIn wsX1_playable wsX1_mover := goodIn_r _ [5, 6, 7, 8, 9, 4, 10, 11, 12, 13, 14, 15, 16, 17, 18, 19, 20, 21, 22, 23, 24, 25, 47, 48, 49, 50, 51, 52, 53, 54] (by decide +kernel) (by decide +kernel)
set_option maxRecDepth 20000 in
theorem gX1_playable_X1_mover : GoodIn wsX1_playable (wsV RX1 71 RX1 yX1_mover wsX1_mover) := goodIn_app (goodIn_of _ (by decide +kernel)) ggX1_playable_X1_mover
set_option maxRecDepth 20000 in
theorem ggX1_playable_X1_handOf : GoodIn wsX1_playable wsX1_handOf := goodIn_r _ [29, 30, 47, 48, 49, 50, 51, 52, 53, 54] (by decide +kernel) (by decide +kernel)
set_option maxRecDepth 20000 in
theorem gX1_playable_X1_handOf : GoodIn wsX1_playable (wsV RX1 42 RX1 yX1_handOf wsX1_handOf) := goodIn_app (goodIn_of _ (by decide +kernel)) ggX1_playable_X1_handOf
set_option maxRecDepth 20000 in
theorem ggX1_playable_X1_trickSize : GoodIn wsX1_playable wsX1_trickSize := goodIn_r _ [25, 12, 47, 48, 49, 50, 51, 52, 53, 54] (by decide +kernel) (by decide +kernel)
set_option maxRecDepth 20000 in
theorem gX1_playable_X1_trickSize : GoodIn wsX1_playable (wsV RX1 65 RX1 yX1_trickSize wsX1_trickSize) := goodIn_app (goodIn_of _ (by decide +kernel)) ggX1_playable_X1_trickSize
set_option maxRecDepth 20000 in
theorem ggX1_playable_X1_trickCard : GoodIn wsX1_playable wsX1_trickCard := goodIn_r _ [34, 12, 22, 23, 24, 4, 25, 35, 36, 37, 38, 39, 47, 48, 49, 50, 51, 52, 53, 54] (by decide +kernel) (by decide +kernel)
set_option maxRecDepth 20000 in
theorem gX1_playable_X1_trickCard : GoodIn wsX1_playable (wsV RX1 74 RX1 yX1_trickCard wsX1_trickCard) := goodIn_app (goodIn_of _ (by decide +kernel)) ggX1_playable_X1_trickCard
set_option maxRecDepth 20000 in
theorem ggX1_playable_X0_suitOf : GoodIn wsX1_playable wsX0_suitOf := goodIn_r _ [43] (by decide +kernel) (by decide +kernel)
set_option maxRecDepth 20000 in
theorem gX1_playable_X0_suitOf : GoodIn wsX1_playable (va_wsS RX1 77 yX0_suitOf wsX0_suitOf) := goodIn_app (goodIn_of _ (by decide +kernel)) ggX1_playable_X0_suitOf
set_option maxRecDepth 20000 in
theorem ggX1_playable_X0_suitSet : GoodIn wsX1_playable wsX0_suitSet := goodIn_r _ [46] (by decide +kernel) (by decide +kernel)
set_option maxRecDepth 20000 in
theorem gX1_playable_X0_suitSet : GoodIn wsX1_playable (va_wsS RX1 80 yX0_suitSet wsX0_suitSet) := goodIn_app (goodIn_of _ (by decide +kernel)) ggX1_playable_X0_suitSet
theorem dX1_playable_0 : decode cX1_playable 0 = .ok (.aload_n 0, 1) := by decide +kernel
theorem dX1_playable_1 : decode cX1_playable 1 = .ok (.aload_n 0, 1) := by decide +kernel
theorem dX1_playable_2 : decode cX1_playable 2 = .ok (.invokevirtual 71, 3) := by decide +kernel
theorem dX1_playable_5 : decode cX1_playable 5 = .ok (.invokevirtual 42, 3) := by decide +kernel
theorem dX1_playable_8 : decode cX1_playable 8 = .ok (.istore_n 1, 1) := by decide +kernel
theorem dX1_playable_9 : decode cX1_playable 9 = .ok (.aload_n 0, 1) := by decide +kernel
theorem dX1_playable_10 : decode cX1_playable 10 = .ok (.invokevirtual 65, 3) := by decide +kernel
theorem dX1_playable_13 : decode cX1_playable 13 = .ok (.ifCond .ne 5, 3) := by decide +kernel
theorem dX1_playable_16 : decode cX1_playable 16 = .ok (.iload_n 1, 1) := by decide +kernel
theorem dX1_playable_17 : decode cX1_playable 17 = .ok (.ireturn, 1) := by decide +kernel
theorem dX1_playable_18 : decode cX1_playable 18 = .ok (.iload_n 1, 1) := by decide +kernel
theorem dX1_playable_19 : decode cX1_playable 19 = .ok (.aload_n 0, 1) := by decide +kernel
theorem dX1_playable_20 : decode cX1_playable 20 = .ok (.iconst 0, 1) := by decide +kernel
theorem dX1_playable_21 : decode cX1_playable 21 = .ok (.invokevirtual 74, 3) := by decide +kernel
theorem dX1_playable_24 : decode cX1_playable 24 = .ok (.invokestatic 77, 3) := by decide +kernel
theorem dX1_playable_27 : decode cX1_playable 27 = .ok (.invokestatic 80, 3) := by decide +kernel
theorem dX1_playable_30 : decode cX1_playable 30 = .ok (.iand, 1) := by decide +kernel
theorem dX1_playable_31 : decode cX1_playable 31 = .ok (.istore_n 2, 1) := by decide +kernel
theorem dX1_playable_32 : decode cX1_playable 32 = .ok (.iload_n 2, 1) := by decide +kernel
theorem dX1_playable_33 : decode cX1_playable 33 = .ok (.ifCond .ne 7, 3) := by decide +kernel
theorem dX1_playable_36 : decode cX1_playable 36 = .ok (.iload_n 1, 1) := by decide +kernel
theorem dX1_playable_37 : decode cX1_playable 37 = .ok (.goto 4, 3) := by decide +kernel
theorem dX1_playable_40 : decode cX1_playable 40 = .ok (.iload_n 2, 1) := by decide +kernel
theorem dX1_playable_41 : decode cX1_playable 41 = .ok (.ireturn, 1) := by decide +kernel
set_option maxRecDepth 20000 in
theorem ggX1_lay_X1_mover : GoodIn wsX1_lay wsX1_mover := goodIn_r _ [7, 8, 9, 10, 11, 6, 12, 13, 1, 14, 15, 16, 17, 18, 19, 20, 21, 22, 23, 24, 25, 26, 45, 46, 47, 48, 49, 50, 51, 52] (by decide +kernel) (by decide +kernel)
set_option maxRecDepth 20000 in
theorem gX1_lay_X1_mover : GoodIn wsX1_lay (wsV RX1 71 RX1 yX1_mover wsX1_mover) := goodIn_app (goodIn_of _ (by decide +kernel)) ggX1_lay_X1_mover
set_option maxRecDepth 20000 in
theorem ggX1_lay_X1_dropFrom : GoodIn wsX1_lay wsX1_dropFrom := goodIn_r _ [30, 31, 45, 46, 47, 48, 49, 50, 51, 52] (by decide +kernel) (by decide +kernel)
set_option maxRecDepth 20000 in
theorem gX1_lay_X1_dropFrom : GoodIn wsX1_lay (wsV RX1 83 RX1 yX1_dropFrom wsX1_dropFrom) := goodIn_app (goodIn_of _ (by decide +kernel)) ggX1_lay_X1_dropFrom
set_option maxRecDepth 20000 in
theorem ggX1_lay_X1_trickSize : GoodIn wsX1_lay wsX1_trickSize := goodIn_r _ [26, 1, 45, 46, 47, 48, 49, 50, 51, 52] (by decide +kernel) (by decide +kernel)
set_option maxRecDepth 20000 in
theorem gX1_lay_X1_trickSize : GoodIn wsX1_lay (wsV RX1 65 RX1 yX1_trickSize wsX1_trickSize) := goodIn_app (goodIn_of _ (by decide +kernel)) ggX1_lay_X1_trickSize
set_option maxRecDepth 20000 in
theorem ggX1_lay_X1_endTrick : GoodIn wsX1_lay wsX1_endTrick := goodIn_r _ [35, 1, 22, 36, 37, 38, 6, 39, 2, 40, 41, 42, 43, 44, 14, 15, 16, 17, 18, 19, 20, 21, 45, 46, 47, 48, 49, 50, 51, 52] (by decide +kernel) (by decide +kernel)
set_option maxRecDepth 20000 in
theorem gX1_lay_X1_endTrick : GoodIn wsX1_lay (wsV RX1 86 RX1 yX1_endTrick wsX1_endTrick) := goodIn_app (goodIn_of _ (by decide +kernel)) ggX1_lay_X1_endTrick
theorem dX1_lay_0 : decode cX1_lay 0 = .ok (.aload_n 0, 1) := by decide +kernel
theorem dX1_lay_1 : decode cX1_lay 1 = .ok (.getfield 35, 3) := by decide +kernel
theorem dX1_lay_4 : decode cX1_lay 4 = .ok (.ifCond .lt 15, 3) := by decide +kernel
theorem dX1_lay_7 : decode cX1_lay 7 = .ok (.aload_n 0, 1) := by decide +kernel
theorem dX1_lay_8 : decode cX1_lay 8 = .ok (.getfield 35, 3) := by decide +kernel
theorem dX1_lay_11 : decode cX1_lay 11 = .ok (.aload_n 0, 1) := by decide +kernel
theorem dX1_lay_12 : decode cX1_lay 12 = .ok (.getfield 15, 3) := by decide +kernel
theorem dX1_lay_15 : decode cX1_lay 15 = .ok (.arraylength, 1) := by decide +kernel
theorem dX1_lay_16 : decode cX1_lay 16 = .ok (.if_icmp .lt 5, 3) := by decide +kernel
theorem dX1_lay_19 : decode cX1_lay 19 = .ok (.iconst (-1), 1) := by decide +kernel
theorem dX1_lay_20 : decode cX1_lay 20 = .ok (.ireturn, 1) := by decide +kernel
theorem dX1_lay_21 : decode cX1_lay 21 = .ok (.aload_n 0, 1) := by decide +kernel
theorem dX1_lay_22 : decode cX1_lay 22 = .ok (.aload_n 0, 1) := by decide +kernel
theorem dX1_lay_23 : decode cX1_lay 23 = .ok (.invokevirtual 71, 3) := by decide +kernel
theorem dX1_lay_26 : decode cX1_lay 26 = .ok (.iload_n 1, 1) := by decide +kernel
theorem dX1_lay_27 : decode cX1_lay 27 = .ok (.invokevirtual 83, 3) := by decide +kernel
theorem dX1_lay_30 : decode cX1_lay 30 = .ok (.aload_n 0, 1) := by decide +kernel
theorem dX1_lay_31 : decode cX1_lay 31 = .ok (.getfield 15, 3) := by decide +kernel
theorem dX1_lay_34 : decode cX1_lay 34 = .ok (.aload_n 0, 1) := by decide +kernel
theorem dX1_lay_35 : decode cX1_lay 35 = .ok (.getfield 35, 3) := by decide +kernel
theorem dX1_lay_38 : decode cX1_lay 38 = .ok (.iload_n 1, 1) := by decide +kernel
theorem dX1_lay_39 : decode cX1_lay 39 = .ok (.iastore, 1) := by decide +kernel
theorem dX1_lay_40 : decode cX1_lay 40 = .ok (.aload_n 0, 1) := by decide +kernel
theorem dX1_lay_41 : decode cX1_lay 41 = .ok (.dup, 1) := by decide +kernel
theorem dX1_lay_42 : decode cX1_lay 42 = .ok (.getfield 35, 3) := by decide +kernel
theorem dX1_lay_45 : decode cX1_lay 45 = .ok (.iconst 1, 1) := by decide +kernel
theorem dX1_lay_46 : decode cX1_lay 46 = .ok (.iadd, 1) := by decide +kernel
theorem dX1_lay_47 : decode cX1_lay 47 = .ok (.putfield 35, 3) := by decide +kernel
theorem dX1_lay_50 : decode cX1_lay 50 = .ok (.aload_n 0, 1) := by decide +kernel
theorem dX1_lay_51 : decode cX1_lay 51 = .ok (.invokevirtual 65, 3) := by decide +kernel
theorem dX1_lay_54 : decode cX1_lay 54 = .ok (.ifCond .eq 5, 3) := by decide +kernel
theorem dX1_lay_57 : decode cX1_lay 57 = .ok (.iconst (-1), 1) := by decide +kernel
theorem dX1_lay_58 : decode cX1_lay 58 = .ok (.ireturn, 1) := by decide +kernel
theorem dX1_lay_59 : decode cX1_lay 59 = .ok (.aload_n 0, 1) := by decide +kernel
theorem dX1_lay_60 : decode cX1_lay 60 = .ok (.invokevirtual 86, 3) := by decide +kernel
theorem dX1_lay_63 : decode cX1_lay 63 = .ok (.ireturn, 1) := by decide +kernel
set_option maxRecDepth 20000 in
theorem ggX1_endTrick_X1_laidAt : GoodIn wsX1_endTrick wsX1_laidAt := goodIn_r _ [7, 8, 22, 23, 24, 25, 26, 27, 28, 29] (by decide +kernel) (by decide +kernel)
set_option maxRecDepth 20000 in
theorem gX1_endTrick_X1_laidAt : GoodIn wsX1_endTrick (wsV RX1 68 RX1 yX1_laidAt wsX1_laidAt) := goodIn_app (goodIn_of _ (by decide +kernel)) ggX1_endTrick_X1_laidAt
set_option maxRecDepth 20000 in
theorem ggX1_endTrick_X1_beats : GoodIn wsX1_endTrick wsX1_beats := goodIn_r _ [12, 13, 22, 23, 24, 25, 26, 27, 28, 29] (by decide +kernel) (by decide +kernel)
set_option maxRecDepth 20000 in
theorem gX1_endTrick_X1_beats : GoodIn wsX1_endTrick (wsV RX1 89 RX1 yX1_beats wsX1_beats) := goodIn_app (goodIn_of _ (by decide +kernel)) ggX1_endTrick_X1_beats
set_option maxRecDepth 20000 in
theorem ggX1_endTrick_X1_tricksOver : GoodIn wsX1_endTrick wsX1_tricksOver := goodIn_r _ [17, 1, 22, 23, 24, 25, 26, 27, 28, 29] (by decide +kernel) (by decide +kernel)
set_option maxRecDepth 20000 in
theorem gX1_endTrick_X1_tricksOver : GoodIn wsX1_endTrick (wsV RX1 55 RX1 yX1_tricksOver wsX1_tricksOver) := goodIn_app (goodIn_of _ (by decide +kernel)) ggX1_endTrick_X1_tricksOver
set_option maxRecDepth 20000 in
theorem ggX1_endTrick_X1_leaderOf : GoodIn wsX1_endTrick wsX1_leaderOf := goodIn_r _ [21, 2, 22, 23, 24, 25, 26, 27, 28, 29] (by decide +kernel) (by decide +kernel)
set_option maxRecDepth 20000 in
theorem gX1_endTrick_X1_leaderOf : GoodIn wsX1_endTrick (wsV RX1 62 RX1 yX1_leaderOf wsX1_leaderOf) := goodIn_app (goodIn_of _ (by decide +kernel)) ggX1_endTrick_X1_leaderOf
theorem dX1_endTrick_0 : decode cX1_endTrick 0 = .ok (.aload_n 0, 1) := by decide +kernel
theorem dX1_endTrick_1 : decode cX1_endTrick 1 = .ok (.getfield 35, 3) := by decide +kernel
theorem dX1_endTrick_4 : decode cX1_endTrick 4 = .ok (.iconst 4, 1) := by decide +kernel
theorem dX1_endTrick_5 : decode cX1_endTrick 5 = .ok (.isub, 1) := by decide +kernel
theorem dX1_endTrick_6 : decode cX1_endTrick 6 = .ok (.istore_n 1, 1) := by decide +kernel
theorem dX1_endTrick_7 : decode cX1_endTrick 7 = .ok (.iconst 0, 1) := by decide +kernel
theorem dX1_endTrick_8 : decode cX1_endTrick 8 = .ok (.istore_n 2, 1) := by decide +kernel
theorem dX1_endTrick_9 : decode cX1_endTrick 9 = .ok (.iconst 1, 1) := by decide +kernel
theorem dX1_endTrick_10 : decode cX1_endTrick 10 = .ok (.istore_n 3, 1) := by decide +kernel
theorem dX1_endTrick_11 : decode cX1_endTrick 11 = .ok (.iload_n 3, 1) := by decide +kernel
theorem dX1_endTrick_12 : decode cX1_endTrick 12 = .ok (.iconst 4, 1) := by decide +kernel
theorem dX1_endTrick_13 : decode cX1_endTrick 13 = .ok (.if_icmp .ge 32, 3) := by decide +kernel
theorem dX1_endTrick_16 : decode cX1_endTrick 16 = .ok (.aload_n 0, 1) := by decide +kernel
theorem dX1_endTrick_17 : decode cX1_endTrick 17 = .ok (.aload_n 0, 1) := by decide +kernel
theorem dX1_endTrick_18 : decode cX1_endTrick 18 = .ok (.iload_n 1, 1) := by decide +kernel
theorem dX1_endTrick_19 : decode cX1_endTrick 19 = .ok (.iload_n 3, 1) := by decide +kernel
theorem dX1_endTrick_20 : decode cX1_endTrick 20 = .ok (.iadd, 1) := by decide +kernel
theorem dX1_endTrick_21 : decode cX1_endTrick 21 = .ok (.invokevirtual 68, 3) := by decide +kernel
theorem dX1_endTrick_24 : decode cX1_endTrick 24 = .ok (.aload_n 0, 1) := by decide +kernel
theorem dX1_endTrick_25 : decode cX1_endTrick 25 = .ok (.iload_n 1, 1) := by decide +kernel
theorem dX1_endTrick_26 : decode cX1_endTrick 26 = .ok (.iload_n 2, 1) := by decide +kernel
theorem dX1_endTrick_27 : decode cX1_endTrick 27 = .ok (.iadd, 1) := by decide +kernel
theorem dX1_endTrick_28 : decode cX1_endTrick 28 = .ok (.invokevirtual 68, 3) := by decide +kernel
theorem dX1_endTrick_31 : decode cX1_endTrick 31 = .ok (.invokevirtual 89, 3) := by decide +kernel
theorem dX1_endTrick_34 : decode cX1_endTrick 34 = .ok (.ifCond .eq 5, 3) := by decide +kernel
theorem dX1_endTrick_37 : decode cX1_endTrick 37 = .ok (.iload_n 3, 1) := by decide +kernel
theorem dX1_endTrick_38 : decode cX1_endTrick 38 = .ok (.istore_n 2, 1) := by decide +kernel
theorem dX1_endTrick_39 : decode cX1_endTrick 39 = .ok (.iinc 3 1, 3) := by decide +kernel
theorem dX1_endTrick_42 : decode cX1_endTrick 42 = .ok (.goto (-31), 3) := by decide +kernel
theorem dX1_endTrick_45 : decode cX1_endTrick 45 = .ok (.aload_n 0, 1) := by decide +kernel
theorem dX1_endTrick_46 : decode cX1_endTrick 46 = .ok (.invokevirtual 55, 3) := by decide +kernel
theorem dX1_endTrick_49 : decode cX1_endTrick 49 = .ok (.istore_n 3, 1) := by decide +kernel
theorem dX1_endTrick_50 : decode cX1_endTrick 50 = .ok (.aload_n 0, 1) := by decide +kernel
theorem dX1_endTrick_51 : decode cX1_endTrick 51 = .ok (.iload_n 3, 1) := by decide +kernel
theorem dX1_endTrick_52 : decode cX1_endTrick 52 = .ok (.iconst 1, 1) := by decide +kernel
theorem dX1_endTrick_53 : decode cX1_endTrick 53 = .ok (.isub, 1) := by decide +kernel
theorem dX1_endTrick_54 : decode cX1_endTrick 54 = .ok (.invokevirtual 62, 3) := by decide +kernel
theorem dX1_endTrick_57 : decode cX1_endTrick 57 = .ok (.iload_n 2, 1) := by decide +kernel
theorem dX1_endTrick_58 : decode cX1_endTrick 58 = .ok (.iadd, 1) := by decide +kernel
theorem dX1_endTrick_59 : decode cX1_endTrick 59 = .ok (.iconst 4, 1) := by decide +kernel
theorem dX1_endTrick_60 : decode cX1_endTrick 60 = .ok (.irem, 1) := by decide +kernel
theorem dX1_endTrick_61 : decode cX1_endTrick 61 = .ok (.istore 4, 2) := by decide +kernel
theorem dX1_endTrick_63 : decode cX1_endTrick 63 = .ok (.iload_n 3, 1) := by decide +kernel
theorem dX1_endTrick_64 : decode cX1_endTrick 64 = .ok (.ifCond .lt 20, 3) := by decide +kernel
theorem dX1_endTrick_67 : decode cX1_endTrick 67 = .ok (.iload_n 3, 1) := by decide +kernel
theorem dX1_endTrick_68 : decode cX1_endTrick 68 = .ok (.aload_n 0, 1) := by decide +kernel
theorem dX1_endTrick_69 : decode cX1_endTrick 69 = .ok (.getfield 18, 3) := by decide +kernel
theorem dX1_endTrick_72 : decode cX1_endTrick 72 = .ok (.arraylength, 1) := by decide +kernel
theorem dX1_endTrick_73 : decode cX1_endTrick 73 = .ok (.if_icmp .ge 11, 3) := by decide +kernel
theorem dX1_endTrick_76 : decode cX1_endTrick 76 = .ok (.aload_n 0, 1) := by decide +kernel
theorem dX1_endTrick_77 : decode cX1_endTrick 77 = .ok (.getfield 18, 3) := by decide +kernel
theorem dX1_endTrick_80 : decode cX1_endTrick 80 = .ok (.iload_n 3, 1) := by decide +kernel
theorem dX1_endTrick_81 : decode cX1_endTrick 81 = .ok (.iload 4, 2) := by decide +kernel
theorem dX1_endTrick_83 : decode cX1_endTrick 83 = .ok (.iastore, 1) := by decide +kernel
theorem dX1_endTrick_84 : decode cX1_endTrick 84 = .ok (.iload 4, 2) := by decide +kernel
theorem dX1_endTrick_86 : decode cX1_endTrick 86 = .ok (.ireturn, 1) := by decide +kernel
theorem dX1_beats_0 : decode cX1_beats 0 = .ok (.iload_n 1, 1) := by decide +kernel
theorem dX1_beats_1 : decode cX1_beats 1 = .ok (.bipush 6, 2) := by decide +kernel
theorem dX1_beats_3 : decode cX1_beats 3 = .ok (.idiv, 1) := by decide +kernel
theorem dX1_beats_4 : decode cX1_beats 4 = .ok (.istore_n 3, 1) := by decide +kernel
theorem dX1_beats_5 : decode cX1_beats 5 = .ok (.iload_n 3, 1) := by decide +kernel
theorem dX1_beats_6 : decode cX1_beats 6 = .ok (.iload_n 2, 1) := by decide +kernel
theorem dX1_beats_7 : decode cX1_beats 7 = .ok (.bipush 6, 2) := by decide +kernel
theorem dX1_beats_9 : decode cX1_beats 9 = .ok (.idiv, 1) := by decide +kernel
theorem dX1_beats_10 : decode cX1_beats 10 = .ok (.if_icmp .ne 16, 3) := by decide +kernel
theorem dX1_beats_13 : decode cX1_beats 13 = .ok (.iload_n 1, 1) := by decide +kernel
theorem dX1_beats_14 : decode cX1_beats 14 = .ok (.iload_n 2, 1) := by decide +kernel
theorem dX1_beats_15 : decode cX1_beats 15 = .ok (.if_icmp .le 7, 3) := by decide +kernel
theorem dX1_beats_18 : decode cX1_beats 18 = .ok (.iconst 1, 1) := by decide +kernel
theorem dX1_beats_19 : decode cX1_beats 19 = .ok (.goto 20, 3) := by decide +kernel
theorem dX1_beats_22 : decode cX1_beats 22 = .ok (.iconst 0, 1) := by decide +kernel
theorem dX1_beats_23 : decode cX1_beats 23 = .ok (.goto 16, 3) := by decide +kernel
theorem dX1_beats_26 : decode cX1_beats 26 = .ok (.iload_n 3, 1) := by decide +kernel
theorem dX1_beats_27 : decode cX1_beats 27 = .ok (.aload_n 0, 1) := by decide +kernel
theorem dX1_beats_28 : decode cX1_beats 28 = .ok (.getfield 21, 3) := by decide +kernel
theorem dX1_beats_31 : decode cX1_beats 31 = .ok (.if_icmp .ne 7, 3) := by decide +kernel
theorem dX1_beats_34 : decode cX1_beats 34 = .ok (.iconst 1, 1) := by decide +kernel
theorem dX1_beats_35 : decode cX1_beats 35 = .ok (.goto 4, 3) := by decide +kernel
theorem dX1_beats_38 : decode cX1_beats 38 = .ok (.iconst 0, 1) := by decide +kernel
theorem dX1_beats_39 : decode cX1_beats 39 = .ok (.ireturn, 1) := by decide +kernel
set_option maxRecDepth 20000 in
theorem ggX1_lift_X1_laidAt : GoodIn wsX1_lift wsX1_laidAt := goodIn_r _ [6, 7, 36, 37, 38, 39, 40, 41, 42, 43] (by decide +kernel) (by decide +kernel)
set_option maxRecDepth 20000 in
theorem gX1_lift_X1_laidAt : GoodIn wsX1_lift (wsV RX1 68 RX1 yX1_laidAt wsX1_laidAt) := goodIn_app (goodIn_of _ (by decide +kernel)) ggX1_lift_X1_laidAt
set_option maxRecDepth 20000 in
theorem ggX1_lift_X1_mover : GoodIn wsX1_lift wsX1_mover := goodIn_r _ [11, 12, 13, 14, 15, 5, 16, 17, 1, 18, 19, 20, 21, 22, 23, 24, 25, 26, 27, 28, 29, 30, 36, 37, 38, 39, 40, 41, 42, 43] (by decide +kernel) (by decide +kernel)
set_option maxRecDepth 20000 in
theorem gX1_lift_X1_mover : GoodIn wsX1_lift (wsV RX1 71 RX1 yX1_mover wsX1_mover) := goodIn_app (goodIn_of _ (by decide +kernel)) ggX1_lift_X1_mover
set_option maxRecDepth 20000 in
theorem ggX1_lift_X1_addTo : GoodIn wsX1_lift wsX1_addTo := goodIn_r _ [34, 35, 36, 37, 38, 39, 40, 41, 42, 43] (by decide +kernel) (by decide +kernel)
set_option maxRecDepth 20000 in
theorem gX1_lift_X1_addTo : GoodIn wsX1_lift (wsV RX1 51 RX1 yX1_addTo wsX1_addTo) := goodIn_app (goodIn_of _ (by decide +kernel)) ggX1_lift_X1_addTo
theorem dX1_lift_0 : decode cX1_lift 0 = .ok (.aload_n 0, 1) := by decide +kernel
theorem dX1_lift_1 : decode cX1_lift 1 = .ok (.getfield 35, 3) := by decide +kernel
theorem dX1_lift_4 : decode cX1_lift 4 = .ok (.ifCond .gt 5, 3) := by decide +kernel
theorem dX1_lift_7 : decode cX1_lift 7 = .ok (.iconst (-1), 1) := by decide +kernel
theorem dX1_lift_8 : decode cX1_lift 8 = .ok (.ireturn, 1) := by decide +kernel
theorem dX1_lift_9 : decode cX1_lift 9 = .ok (.aload_n 0, 1) := by decide +kernel
theorem dX1_lift_10 : decode cX1_lift 10 = .ok (.dup, 1) := by decide +kernel
theorem dX1_lift_11 : decode cX1_lift 11 = .ok (.getfield 35, 3) := by decide +kernel
theorem dX1_lift_14 : decode cX1_lift 14 = .ok (.iconst 1, 1) := by decide +kernel
theorem dX1_lift_15 : decode cX1_lift 15 = .ok (.isub, 1) := by decide +kernel
theorem dX1_lift_16 : decode cX1_lift 16 = .ok (.putfield 35, 3) := by decide +kernel
theorem dX1_lift_19 : decode cX1_lift 19 = .ok (.aload_n 0, 1) := by decide +kernel
theorem dX1_lift_20 : decode cX1_lift 20 = .ok (.aload_n 0, 1) := by decide +kernel
theorem dX1_lift_21 : decode cX1_lift 21 = .ok (.getfield 35, 3) := by decide +kernel
theorem dX1_lift_24 : decode cX1_lift 24 = .ok (.invokevirtual 68, 3) := by decide +kernel
theorem dX1_lift_27 : decode cX1_lift 27 = .ok (.istore_n 1, 1) := by decide +kernel
theorem dX1_lift_28 : decode cX1_lift 28 = .ok (.aload_n 0, 1) := by decide +kernel
theorem dX1_lift_29 : decode cX1_lift 29 = .ok (.aload_n 0, 1) := by decide +kernel
theorem dX1_lift_30 : decode cX1_lift 30 = .ok (.invokevirtual 71, 3) := by decide +kernel
theorem dX1_lift_33 : decode cX1_lift 33 = .ok (.iload_n 1, 1) := by decide +kernel
theorem dX1_lift_34 : decode cX1_lift 34 = .ok (.invokevirtual 51, 3) := by decide +kernel
theorem dX1_lift_37 : decode cX1_lift 37 = .ok (.iload_n 1, 1) := by decide +kernel
theorem dX1_lift_38 : decode cX1_lift 38 = .ok (.ireturn, 1) := by decide +kernel
set_option maxRecDepth 20000 in
theorem ggX1_tricksOf_X1_tricksOver : GoodIn wsX1_tricksOf wsX1_tricksOver := goodIn_r _ [5, 6, 16, 17, 18, 19, 20, 21, 22, 23] (by decide +kernel) (by decide +kernel)
set_option maxRecDepth 20000 in
theorem gX1_tricksOf_X1_tricksOver : GoodIn wsX1_tricksOf (wsV RX1 55 RX1 yX1_tricksOver wsX1_tricksOver) := goodIn_app (goodIn_of _ (by decide +kernel)) ggX1_tricksOf_X1_tricksOver
set_option maxRecDepth 20000 in
theorem ggX1_tricksOf_X1_leaderOf : GoodIn wsX1_tricksOf wsX1_leaderOf := goodIn_r _ [10, 11, 16, 17, 18, 19, 20, 21, 22, 23] (by decide +kernel) (by decide +kernel)
set_option maxRecDepth 20000 in
theorem gX1_tricksOf_X1_leaderOf : GoodIn wsX1_tricksOf (wsV RX1 62 RX1 yX1_leaderOf wsX1_leaderOf) := goodIn_app (goodIn_of _ (by decide +kernel)) ggX1_tricksOf_X1_leaderOf
set_option maxRecDepth 20000 in
theorem ggX1_tricksOf_X0_sideOf : GoodIn wsX1_tricksOf wsX0_sideOf := goodIn_r _ [15] (by decide +kernel) (by decide +kernel)
set_option maxRecDepth 20000 in
theorem gX1_tricksOf_X0_sideOf : GoodIn wsX1_tricksOf (va_wsS RX1 92 yX0_sideOf wsX0_sideOf) := goodIn_app (goodIn_of _ (by decide +kernel)) ggX1_tricksOf_X0_sideOf
theorem dX1_tricksOf_0 : decode cX1_tricksOf 0 = .ok (.iconst 0, 1) := by decide +kernel
theorem dX1_tricksOf_1 : decode cX1_tricksOf 1 = .ok (.istore_n 2, 1) := by decide +kernel
theorem dX1_tricksOf_2 : decode cX1_tricksOf 2 = .ok (.iconst 1, 1) := by decide +kernel
theorem dX1_tricksOf_3 : decode cX1_tricksOf 3 = .ok (.istore_n 3, 1) := by decide +kernel
theorem dX1_tricksOf_4 : decode cX1_tricksOf 4 = .ok (.iload_n 3, 1) := by decide +kernel
theorem dX1_tricksOf_5 : decode cX1_tricksOf 5 = .ok (.aload_n 0, 1) := by decide +kernel
theorem dX1_tricksOf_6 : decode cX1_tricksOf 6 = .ok (.invokevirtual 55, 3) := by decide +kernel
theorem dX1_tricksOf_9 : decode cX1_tricksOf 9 = .ok (.if_icmp .gt 24, 3) := by decide +kernel
theorem dX1_tricksOf_12 : decode cX1_tricksOf 12 = .ok (.aload_n 0, 1) := by decide +kernel
theorem dX1_tricksOf_13 : decode cX1_tricksOf 13 = .ok (.iload_n 3, 1) := by decide +kernel
theorem dX1_tricksOf_14 : decode cX1_tricksOf 14 = .ok (.invokevirtual 62, 3) := by decide +kernel
theorem dX1_tricksOf_17 : decode cX1_tricksOf 17 = .ok (.invokestatic 92, 3) := by decide +kernel
theorem dX1_tricksOf_20 : decode cX1_tricksOf 20 = .ok (.iload_n 1, 1) := by decide +kernel
theorem dX1_tricksOf_21 : decode cX1_tricksOf 21 = .ok (.if_icmp .ne 6, 3) := by decide +kernel
theorem dX1_tricksOf_24 : decode cX1_tricksOf 24 = .ok (.iinc 2 1, 3) := by decide +kernel
theorem dX1_tricksOf_27 : decode cX1_tricksOf 27 = .ok (.iinc 3 1, 3) := by decide +kernel
theorem dX1_tricksOf_30 : decode cX1_tricksOf 30 = .ok (.goto (-26), 3) := by decide +kernel
theorem dX1_tricksOf_33 : decode cX1_tricksOf 33 = .ok (.iload_n 2, 1) := by decide +kernel
theorem dX1_tricksOf_34 : decode cX1_tricksOf 34 = .ok (.ireturn, 1) := by decide +kernel
theorem dX1_inHands_0 : decode cX1_inHands 0 = .ok (.iconst 0, 1) := by decide +kernel
theorem dX1_inHands_1 : decode cX1_inHands 1 = .ok (.istore_n 1, 1) := by decide +kernel
theorem dX1_inHands_2 : decode cX1_inHands 2 = .ok (.iconst 0, 1) := by decide +kernel
theorem dX1_inHands_3 : decode cX1_inHands 3 = .ok (.istore_n 2, 1) := by decide +kernel
theorem dX1_inHands_4 : decode cX1_inHands 4 = .ok (.iload_n 2, 1) := by decide +kernel
theorem dX1_inHands_5 : decode cX1_inHands 5 = .ok (.aload_n 0, 1) := by decide +kernel
theorem dX1_inHands_6 : decode cX1_inHands 6 = .ok (.getfield 9, 3) := by decide +kernel
theorem dX1_inHands_9 : decode cX1_inHands 9 = .ok (.arraylength, 1) := by decide +kernel
theorem dX1_inHands_10 : decode cX1_inHands 10 = .ok (.if_icmp .ge 18, 3) := by decide +kernel
theorem dX1_inHands_13 : decode cX1_inHands 13 = .ok (.iload_n 1, 1) := by decide +kernel
theorem dX1_inHands_14 : decode cX1_inHands 14 = .ok (.aload_n 0, 1) := by decide +kernel
theorem dX1_inHands_15 : decode cX1_inHands 15 = .ok (.getfield 9, 3) := by decide +kernel
theorem dX1_inHands_18 : decode cX1_inHands 18 = .ok (.iload_n 2, 1) := by decide +kernel
theorem dX1_inHands_19 : decode cX1_inHands 19 = .ok (.iaload, 1) := by decide +kernel
theorem dX1_inHands_20 : decode cX1_inHands 20 = .ok (.ior, 1) := by decide +kernel
theorem dX1_inHands_21 : decode cX1_inHands 21 = .ok (.istore_n 1, 1) := by decide +kernel
theorem dX1_inHands_22 : decode cX1_inHands 22 = .ok (.iinc 2 1, 3) := by decide +kernel
theorem dX1_inHands_25 : decode cX1_inHands 25 = .ok (.goto (-21), 3) := by decide +kernel
theorem dX1_inHands_28 : decode cX1_inHands 28 = .ok (.iload_n 1, 1) := by decide +kernel
theorem dX1_inHands_29 : decode cX1_inHands 29 = .ok (.ireturn, 1) := by decide +kernel
set_option maxRecDepth 20000 in
theorem ggX1_inTrickSet_X1_trickSize : GoodIn wsX1_inTrickSet wsX1_trickSize := goodIn_r _ [6, 1, 12, 13, 14, 15, 16, 17, 18, 19] (by decide +kernel) (by decide +kernel)
set_option maxRecDepth 20000 in
theorem gX1_inTrickSet_X1_trickSize : GoodIn wsX1_inTrickSet (wsV RX1 65 RX1 yX1_trickSize wsX1_trickSize) := goodIn_app (goodIn_of _ (by decide +kernel)) ggX1_inTrickSet_X1_trickSize
set_option maxRecDepth 20000 in
theorem ggX1_inTrickSet_X1_laidAt : GoodIn wsX1_inTrickSet wsX1_laidAt := goodIn_r _ [10, 11, 12, 13, 14, 15, 16, 17, 18, 19] (by decide +kernel) (by decide +kernel)
set_option maxRecDepth 20000 in
theorem gX1_inTrickSet_X1_laidAt : GoodIn wsX1_inTrickSet (wsV RX1 68 RX1 yX1_laidAt wsX1_laidAt) := goodIn_app (goodIn_of _ (by decide +kernel)) ggX1_inTrickSet_X1_laidAt
theorem dX1_inTrickSet_0 : decode cX1_inTrickSet 0 = .ok (.iconst 0, 1) := by decide +kernel
theorem dX1_inTrickSet_1 : decode cX1_inTrickSet 1 = .ok (.istore_n 1, 1) := by decide +kernel
theorem dX1_inTrickSet_2 : decode cX1_inTrickSet 2 = .ok (.aload_n 0, 1) := by decide +kernel
theorem dX1_inTrickSet_3 : decode cX1_inTrickSet 3 = .ok (.getfield 35, 3) := by decide +kernel
theorem dX1_inTrickSet_6 : decode cX1_inTrickSet 6 = .ok (.aload_n 0, 1) := by decide +kernel
theorem dX1_inTrickSet_7 : decode cX1_inTrickSet 7 = .ok (.invokevirtual 65, 3) := by decide +kernel
theorem dX1_inTrickSet_10 : decode cX1_inTrickSet 10 = .ok (.isub, 1) := by decide +kernel
theorem dX1_inTrickSet_11 : decode cX1_inTrickSet 11 = .ok (.istore_n 2, 1) := by decide +kernel
theorem dX1_inTrickSet_12 : decode cX1_inTrickSet 12 = .ok (.iload_n 2, 1) := by decide +kernel
theorem dX1_inTrickSet_13 : decode cX1_inTrickSet 13 = .ok (.aload_n 0, 1) := by decide +kernel
theorem dX1_inTrickSet_14 : decode cX1_inTrickSet 14 = .ok (.getfield 35, 3) := by decide +kernel
theorem dX1_inTrickSet_17 : decode cX1_inTrickSet 17 = .ok (.if_icmp .ge 19, 3) := by decide +kernel
theorem dX1_inTrickSet_20 : decode cX1_inTrickSet 20 = .ok (.iload_n 1, 1) := by decide +kernel
theorem dX1_inTrickSet_21 : decode cX1_inTrickSet 21 = .ok (.iconst 1, 1) := by decide +kernel
theorem dX1_inTrickSet_22 : decode cX1_inTrickSet 22 = .ok (.aload_n 0, 1) := by decide +kernel
theorem dX1_inTrickSet_23 : decode cX1_inTrickSet 23 = .ok (.iload_n 2, 1) := by decide +kernel
theorem dX1_inTrickSet_24 : decode cX1_inTrickSet 24 = .ok (.invokevirtual 68, 3) := by decide +kernel
theorem dX1_inTrickSet_27 : decode cX1_inTrickSet 27 = .ok (.ishl, 1) := by decide +kernel
theorem dX1_inTrickSet_28 : decode cX1_inTrickSet 28 = .ok (.ior, 1) := by decide +kernel
theorem dX1_inTrickSet_29 : decode cX1_inTrickSet 29 = .ok (.istore_n 1, 1) := by decide +kernel
theorem dX1_inTrickSet_30 : decode cX1_inTrickSet 30 = .ok (.iinc 2 1, 3) := by decide +kernel
theorem dX1_inTrickSet_33 : decode cX1_inTrickSet 33 = .ok (.goto (-21), 3) := by decide +kernel
theorem dX1_inTrickSet_36 : decode cX1_inTrickSet 36 = .ok (.iload_n 1, 1) := by decide +kernel
theorem dX1_inTrickSet_37 : decode cX1_inTrickSet 37 = .ok (.ireturn, 1) := by decide +kernel
set_option maxRecDepth 20000 in
theorem ggX1_out_X1_inHands : GoodIn wsX1_out wsX1_inHands := goodIn_r _ [6, 7, 22, 23, 24, 25, 26, 27, 28, 29] (by decide +kernel) (by decide +kernel)
set_option maxRecDepth 20000 in
theorem gX1_out_X1_inHands : GoodIn wsX1_out (wsV RX1 96 RX1 yX1_inHands wsX1_inHands) := goodIn_app (goodIn_of _ (by decide +kernel)) ggX1_out_X1_inHands
set_option maxRecDepth 20000 in
theorem ggX1_out_X1_inTrickSet : GoodIn wsX1_out wsX1_inTrickSet := goodIn_r _ [11, 12, 13, 14, 15, 5, 16, 17, 18, 19, 20, 21, 22, 23, 24, 25, 26, 27, 28, 29] (by decide +kernel) (by decide +kernel)
set_option maxRecDepth 20000 in
theorem gX1_out_X1_inTrickSet : GoodIn wsX1_out (wsV RX1 99 RX1 yX1_inTrickSet wsX1_inTrickSet) := goodIn_app (goodIn_of _ (by decide +kernel)) ggX1_out_X1_inTrickSet
theorem dX1_out_0 : decode cX1_out 0 = .ok (.ldc 95, 2) := by decide +kernel
theorem dX1_out_2 : decode cX1_out 2 = .ok (.aload_n 0, 1) := by decide +kernel
theorem dX1_out_3 : decode cX1_out 3 = .ok (.invokevirtual 96, 3) := by decide +kernel
theorem dX1_out_6 : decode cX1_out 6 = .ok (.aload_n 0, 1) := by decide +kernel
theorem dX1_out_7 : decode cX1_out 7 = .ok (.invokevirtual 99, 3) := by decide +kernel
theorem dX1_out_10 : decode cX1_out 10 = .ok (.ior, 1) := by decide +kernel
theorem dX1_out_11 : decode cX1_out 11 = .ok (.iconst (-1), 1) := by decide +kernel
theorem dX1_out_12 : decode cX1_out 12 = .ok (.ixor, 1) := by decide +kernel
theorem dX1_out_13 : decode cX1_out 13 = .ok (.iand, 1) := by decide +kernel
theorem dX1_out_14 : decode cX1_out 14 = .ok (.ireturn, 1) := by decide +kernel
set_option maxRecDepth 20000 in
theorem ggX1_ownerOf_X0_holds : GoodIn wsX1_ownerOf wsX0_holds := goodIn_r _ [5] (by decide +kernel) (by decide +kernel)
set_option maxRecDepth 20000 in
theorem gX1_ownerOf_X0_holds : GoodIn wsX1_ownerOf (va_wsS RX1 38 yX0_holds wsX0_holds) := goodIn_app (goodIn_of _ (by decide +kernel)) ggX1_ownerOf_X0_holds
theorem dX1_ownerOf_0 : decode cX1_ownerOf 0 = .ok (.iconst 0, 1) := by decide +kernel
theorem dX1_ownerOf_1 : decode cX1_ownerOf 1 = .ok (.istore_n 2, 1) := by decide +kernel
theorem dX1_ownerOf_2 : decode cX1_ownerOf 2 = .ok (.iload_n 2, 1) := by decide +kernel
theorem dX1_ownerOf_3 : decode cX1_ownerOf 3 = .ok (.aload_n 0, 1) := by decide +kernel
theorem dX1_ownerOf_4 : decode cX1_ownerOf 4 = .ok (.getfield 9, 3) := by decide +kernel
theorem dX1_ownerOf_7 : decode cX1_ownerOf 7 = .ok (.arraylength, 1) := by decide +kernel
theorem dX1_ownerOf_8 : decode cX1_ownerOf 8 = .ok (.if_icmp .ge 24, 3) := by decide +kernel
theorem dX1_ownerOf_11 : decode cX1_ownerOf 11 = .ok (.aload_n 0, 1) := by decide +kernel
theorem dX1_ownerOf_12 : decode cX1_ownerOf 12 = .ok (.getfield 9, 3) := by decide +kernel
theorem dX1_ownerOf_15 : decode cX1_ownerOf 15 = .ok (.iload_n 2, 1) := by decide +kernel
theorem dX1_ownerOf_16 : decode cX1_ownerOf 16 = .ok (.iaload, 1) := by decide +kernel
theorem dX1_ownerOf_17 : decode cX1_ownerOf 17 = .ok (.iload_n 1, 1) := by decide +kernel
theorem dX1_ownerOf_18 : decode cX1_ownerOf 18 = .ok (.invokestatic 38, 3) := by decide +kernel
theorem dX1_ownerOf_21 : decode cX1_ownerOf 21 = .ok (.ifCond .eq 5, 3) := by decide +kernel
theorem dX1_ownerOf_24 : decode cX1_ownerOf 24 = .ok (.iload_n 2, 1) := by decide +kernel
theorem dX1_ownerOf_25 : decode cX1_ownerOf 25 = .ok (.ireturn, 1) := by decide +kernel
theorem dX1_ownerOf_26 : decode cX1_ownerOf 26 = .ok (.iinc 2 1, 3) := by decide +kernel
theorem dX1_ownerOf_29 : decode cX1_ownerOf 29 = .ok (.goto (-27), 3) := by decide +kernel
theorem dX1_ownerOf_32 : decode cX1_ownerOf 32 = .ok (.iconst (-1), 1) := by decide +kernel
theorem dX1_ownerOf_33 : decode cX1_ownerOf 33 = .ok (.ireturn, 1) := by decide +kernel
set_option maxRecDepth 20000 in
theorem ggX1_betweenTricks_X1_inHands : GoodIn wsX1_betweenTricks wsX1_inHands := goodIn_r _ [5, 6, 17, 18, 19, 20, 21, 22, 23, 24] (by decide +kernel) (by decide +kernel)
set_option maxRecDepth 20000 in
theorem gX1_betweenTricks_X1_inHands : GoodIn wsX1_betweenTricks (wsV RX1 96 RX1 yX1_inHands wsX1_inHands) := goodIn_app (goodIn_of _ (by decide +kernel)) ggX1_betweenTricks_X1_inHands
set_option maxRecDepth 20000 in
theorem ggX1_betweenTricks_X1_tricksOver : GoodIn wsX1_betweenTricks wsX1_tricksOver := goodIn_r _ [10, 11, 17, 18, 19, 20, 21, 22, 23, 24] (by decide +kernel) (by decide +kernel)
set_option maxRecDepth 20000 in
theorem gX1_betweenTricks_X1_tricksOver : GoodIn wsX1_betweenTricks (wsV RX1 55 RX1 yX1_tricksOver wsX1_tricksOver) := goodIn_app (goodIn_of _ (by decide +kernel)) ggX1_betweenTricks_X1_tricksOver
set_option maxRecDepth 20000 in
theorem ggX1_betweenTricks_X1_leaderOf : GoodIn wsX1_betweenTricks wsX1_leaderOf := goodIn_r _ [15, 16, 17, 18, 19, 20, 21, 22, 23, 24] (by decide +kernel) (by decide +kernel)
set_option maxRecDepth 20000 in
theorem gX1_betweenTricks_X1_leaderOf : GoodIn wsX1_betweenTricks (wsV RX1 62 RX1 yX1_leaderOf wsX1_leaderOf) := goodIn_app (goodIn_of _ (by decide +kernel)) ggX1_betweenTricks_X1_leaderOf
theorem dX1_betweenTricks_0 : decode cX1_betweenTricks 0 = .ok (.aload_n 0, 1) := by decide +kernel
theorem dX1_betweenTricks_1 : decode cX1_betweenTricks 1 = .ok (.invokevirtual 96, 3) := by decide +kernel
theorem dX1_betweenTricks_4 : decode cX1_betweenTricks 4 = .ok (.aload_n 0, 1) := by decide +kernel
theorem dX1_betweenTricks_5 : decode cX1_betweenTricks 5 = .ok (.aload_n 0, 1) := by decide +kernel
theorem dX1_betweenTricks_6 : decode cX1_betweenTricks 6 = .ok (.invokevirtual 55, 3) := by decide +kernel
theorem dX1_betweenTricks_9 : decode cX1_betweenTricks 9 = .ok (.invokevirtual 62, 3) := by decide +kernel
theorem dX1_betweenTricks_12 : decode cX1_betweenTricks 12 = .ok (.bipush 24, 2) := by decide +kernel
theorem dX1_betweenTricks_14 : decode cX1_betweenTricks 14 = .ok (.ishl, 1) := by decide +kernel
theorem dX1_betweenTricks_15 : decode cX1_betweenTricks 15 = .ok (.ior, 1) := by decide +kernel
theorem dX1_betweenTricks_16 : decode cX1_betweenTricks 16 = .ok (.ireturn, 1) := by decide +kernel
theorem dX2_init_0 : decode cX2_init 0 = .ok (.aload_n 0, 1) := by decide +kernel
theorem dX2_init_1 : decode cX2_init 1 = .ok (.invokespecial 3, 3) := by decide +kernel
theorem dX2_init_4 : decode cX2_init 4 = .ok (.aload_n 0, 1) := by decide +kernel
theorem dX2_init_5 : decode cX2_init 5 = .ok (.sipush 1024, 3) := by decide +kernel
theorem dX2_init_8 : decode cX2_init 8 = .ok (.newarray .int, 2) := by decide +kernel
theorem dX2_init_10 : decode cX2_init 10 = .ok (.putfield 9, 3) := by decide +kernel
theorem dX2_init_13 : decode cX2_init 13 = .ok (.return_, 1) := by decide +kernel
theorem dX2_clear_0 : decode cX2_clear 0 = .ok (.iconst 0, 1) := by decide +kernel
theorem dX2_clear_1 : decode cX2_clear 1 = .ok (.istore_n 1, 1) := by decide +kernel
theorem dX2_clear_2 : decode cX2_clear 2 = .ok (.iload_n 1, 1) := by decide +kernel
theorem dX2_clear_3 : decode cX2_clear 3 = .ok (.aload_n 0, 1) := by decide +kernel
theorem dX2_clear_4 : decode cX2_clear 4 = .ok (.getfield 9, 3) := by decide +kernel
theorem dX2_clear_7 : decode cX2_clear 7 = .ok (.arraylength, 1) := by decide +kernel
theorem dX2_clear_8 : decode cX2_clear 8 = .ok (.if_icmp .ge 16, 3) := by decide +kernel
theorem dX2_clear_11 : decode cX2_clear 11 = .ok (.aload_n 0, 1) := by decide +kernel
theorem dX2_clear_12 : decode cX2_clear 12 = .ok (.getfield 9, 3) := by decide +kernel
theorem dX2_clear_15 : decode cX2_clear 15 = .ok (.iload_n 1, 1) := by decide +kernel
theorem dX2_clear_16 : decode cX2_clear 16 = .ok (.iconst 0, 1) := by decide +kernel
theorem dX2_clear_17 : decode cX2_clear 17 = .ok (.iastore, 1) := by decide +kernel
theorem dX2_clear_18 : decode cX2_clear 18 = .ok (.iinc 1 1, 3) := by decide +kernel
theorem dX2_clear_21 : decode cX2_clear 21 = .ok (.goto (-19), 3) := by decide +kernel
theorem dX2_clear_24 : decode cX2_clear 24 = .ok (.return_, 1) := by decide +kernel
set_option maxRecDepth 20000 in
theorem ggX2_leastAt_X2_entryOf : GoodIn wsX2_leastAt wsX2_entryOf := goodIn_r _ [5, 6, 7, 8, 4, 9, 10, 11] (by decide +kernel) (by decide +kernel)
set_option maxRecDepth 20000 in
theorem gX2_leastAt_X2_entryOf : GoodIn wsX2_leastAt (wsV RX2 13 RX2 yX2_entryOf wsX2_entryOf) := goodIn_app (goodIn_of _ (by decide +kernel)) ggX2_leastAt_X2_entryOf
theorem dX2_leastAt_0 : decode cX2_leastAt 0 = .ok (.aload_n 0, 1) := by decide +kernel
theorem dX2_leastAt_1 : decode cX2_leastAt 1 = .ok (.iload_n 1, 1) := by decide +kernel
theorem dX2_leastAt_2 : decode cX2_leastAt 2 = .ok (.invokevirtual 13, 3) := by decide +kernel
theorem dX2_leastAt_5 : decode cX2_leastAt 5 = .ok (.bipush 7, 2) := by decide +kernel
theorem dX2_leastAt_7 : decode cX2_leastAt 7 = .ok (.iand, 1) := by decide +kernel
theorem dX2_leastAt_8 : decode cX2_leastAt 8 = .ok (.ireturn, 1) := by decide +kernel
set_option maxRecDepth 20000 in
theorem ggX2_mostAt_X2_entryOf : GoodIn wsX2_mostAt wsX2_entryOf := goodIn_r _ [5, 6, 7, 8, 4, 9, 10, 11] (by decide +kernel) (by decide +kernel)
set_option maxRecDepth 20000 in
theorem gX2_mostAt_X2_entryOf : GoodIn wsX2_mostAt (wsV RX2 13 RX2 yX2_entryOf wsX2_entryOf) := goodIn_app (goodIn_of _ (by decide +kernel)) ggX2_mostAt_X2_entryOf
theorem dX2_mostAt_0 : decode cX2_mostAt 0 = .ok (.aload_n 0, 1) := by decide +kernel
theorem dX2_mostAt_1 : decode cX2_mostAt 1 = .ok (.iload_n 1, 1) := by decide +kernel
theorem dX2_mostAt_2 : decode cX2_mostAt 2 = .ok (.invokevirtual 13, 3) := by decide +kernel
theorem dX2_mostAt_5 : decode cX2_mostAt 5 = .ok (.istore_n 3, 1) := by decide +kernel
theorem dX2_mostAt_6 : decode cX2_mostAt 6 = .ok (.iload_n 3, 1) := by decide +kernel
theorem dX2_mostAt_7 : decode cX2_mostAt 7 = .ok (.ifCond .ne 7, 3) := by decide +kernel
theorem dX2_mostAt_10 : decode cX2_mostAt 10 = .ok (.iload_n 2, 1) := by decide +kernel
theorem dX2_mostAt_11 : decode cX2_mostAt 11 = .ok (.goto 9, 3) := by decide +kernel
theorem dX2_mostAt_14 : decode cX2_mostAt 14 = .ok (.iload_n 3, 1) := by decide +kernel
theorem dX2_mostAt_15 : decode cX2_mostAt 15 = .ok (.iconst 3, 1) := by decide +kernel
theorem dX2_mostAt_16 : decode cX2_mostAt 16 = .ok (.iushr, 1) := by decide +kernel
theorem dX2_mostAt_17 : decode cX2_mostAt 17 = .ok (.bipush 7, 2) := by decide +kernel
theorem dX2_mostAt_19 : decode cX2_mostAt 19 = .ok (.iand, 1) := by decide +kernel
theorem dX2_mostAt_20 : decode cX2_mostAt 20 = .ok (.ireturn, 1) := by decide +kernel
set_option maxRecDepth 20000 in
theorem ggX2_put_X2_slotOf : GoodIn wsX2_put wsX2_slotOf := goodIn_r _ [5, 6] (by decide +kernel) (by decide +kernel)
set_option maxRecDepth 20000 in
theorem gX2_put_X2_slotOf : GoodIn wsX2_put (va_wsS RX2 17 yX2_slotOf wsX2_slotOf) := goodIn_app (goodIn_of _ (by decide +kernel)) ggX2_put_X2_slotOf
theorem dX2_put_0 : decode cX2_put 0 = .ok (.iload_n 1, 1) := by decide +kernel
theorem dX2_put_1 : decode cX2_put 1 = .ok (.invokestatic 17, 3) := by decide +kernel
theorem dX2_put_4 : decode cX2_put 4 = .ok (.istore 4, 2) := by decide +kernel
theorem dX2_put_6 : decode cX2_put 6 = .ok (.iload 4, 2) := by decide +kernel
theorem dX2_put_8 : decode cX2_put 8 = .ok (.ifCond .lt 30, 3) := by decide +kernel
theorem dX2_put_11 : decode cX2_put 11 = .ok (.iload 4, 2) := by decide +kernel
theorem dX2_put_13 : decode cX2_put 13 = .ok (.aload_n 0, 1) := by decide +kernel
theorem dX2_put_14 : decode cX2_put 14 = .ok (.getfield 9, 3) := by decide +kernel
theorem dX2_put_17 : decode cX2_put 17 = .ok (.arraylength, 1) := by decide +kernel
theorem dX2_put_18 : decode cX2_put 18 = .ok (.if_icmp .ge 20, 3) := by decide +kernel
theorem dX2_put_21 : decode cX2_put 21 = .ok (.aload_n 0, 1) := by decide +kernel
theorem dX2_put_22 : decode cX2_put 22 = .ok (.getfield 9, 3) := by decide +kernel
theorem dX2_put_25 : decode cX2_put 25 = .ok (.iload 4, 2) := by decide +kernel
theorem dX2_put_27 : decode cX2_put 27 = .ok (.iload_n 1, 1) := by decide +kernel
theorem dX2_put_28 : decode cX2_put 28 = .ok (.bipush 6, 2) := by decide +kernel
theorem dX2_put_30 : decode cX2_put 30 = .ok (.ishl, 1) := by decide +kernel
theorem dX2_put_31 : decode cX2_put 31 = .ok (.iload_n 3, 1) := by decide +kernel
theorem dX2_put_32 : decode cX2_put 32 = .ok (.iconst 3, 1) := by decide +kernel
theorem dX2_put_33 : decode cX2_put 33 = .ok (.ishl, 1) := by decide +kernel
theorem dX2_put_34 : decode cX2_put 34 = .ok (.ior, 1) := by decide +kernel
theorem dX2_put_35 : decode cX2_put 35 = .ok (.iload_n 2, 1) := by decide +kernel
theorem dX2_put_36 : decode cX2_put 36 = .ok (.ior, 1) := by decide +kernel
theorem dX2_put_37 : decode cX2_put 37 = .ok (.iastore, 1) := by decide +kernel
theorem dX2_put_38 : decode cX2_put 38 = .ok (.return_, 1) := by decide +kernel
set_option maxRecDepth 20000 in
theorem ggX2_entryOf_X2_slotOf : GoodIn wsX2_entryOf wsX2_slotOf := goodIn_r _ [5, 6] (by decide +kernel) (by decide +kernel)
set_option maxRecDepth 20000 in
theorem gX2_entryOf_X2_slotOf : GoodIn wsX2_entryOf (va_wsS RX2 17 yX2_slotOf wsX2_slotOf) := goodIn_app (goodIn_of _ (by decide +kernel)) ggX2_entryOf_X2_slotOf
theorem dX2_entryOf_0 : decode cX2_entryOf 0 = .ok (.iload_n 1, 1) := by decide +kernel
theorem dX2_entryOf_1 : decode cX2_entryOf 1 = .ok (.invokestatic 17, 3) := by decide +kernel
theorem dX2_entryOf_4 : decode cX2_entryOf 4 = .ok (.istore_n 2, 1) := by decide +kernel
theorem dX2_entryOf_5 : decode cX2_entryOf 5 = .ok (.iload_n 2, 1) := by decide +kernel
theorem dX2_entryOf_6 : decode cX2_entryOf 6 = .ok (.ifCond .lt 12, 3) := by decide +kernel
theorem dX2_entryOf_9 : decode cX2_entryOf 9 = .ok (.iload_n 2, 1) := by decide +kernel
theorem dX2_entryOf_10 : decode cX2_entryOf 10 = .ok (.aload_n 0, 1) := by decide +kernel
theorem dX2_entryOf_11 : decode cX2_entryOf 11 = .ok (.getfield 9, 3) := by decide +kernel
theorem dX2_entryOf_14 : decode cX2_entryOf 14 = .ok (.arraylength, 1) := by decide +kernel
theorem dX2_entryOf_15 : decode cX2_entryOf 15 = .ok (.if_icmp .lt 5, 3) := by decide +kernel
theorem dX2_entryOf_18 : decode cX2_entryOf 18 = .ok (.iconst 0, 1) := by decide +kernel
theorem dX2_entryOf_19 : decode cX2_entryOf 19 = .ok (.ireturn, 1) := by decide +kernel
theorem dX2_entryOf_20 : decode cX2_entryOf 20 = .ok (.aload_n 0, 1) := by decide +kernel
theorem dX2_entryOf_21 : decode cX2_entryOf 21 = .ok (.getfield 9, 3) := by decide +kernel
theorem dX2_entryOf_24 : decode cX2_entryOf 24 = .ok (.iload_n 2, 1) := by decide +kernel
theorem dX2_entryOf_25 : decode cX2_entryOf 25 = .ok (.iaload, 1) := by decide +kernel
theorem dX2_entryOf_26 : decode cX2_entryOf 26 = .ok (.istore_n 3, 1) := by decide +kernel
theorem dX2_entryOf_27 : decode cX2_entryOf 27 = .ok (.iload_n 3, 1) := by decide +kernel
theorem dX2_entryOf_28 : decode cX2_entryOf 28 = .ok (.bipush 6, 2) := by decide +kernel
theorem dX2_entryOf_30 : decode cX2_entryOf 30 = .ok (.iushr, 1) := by decide +kernel
theorem dX2_entryOf_31 : decode cX2_entryOf 31 = .ok (.iload_n 1, 1) := by decide +kernel
theorem dX2_entryOf_32 : decode cX2_entryOf 32 = .ok (.if_icmp .ne 7, 3) := by decide +kernel
theorem dX2_entryOf_35 : decode cX2_entryOf 35 = .ok (.iload_n 3, 1) := by decide +kernel
theorem dX2_entryOf_36 : decode cX2_entryOf 36 = .ok (.goto 4, 3) := by decide +kernel
theorem dX2_entryOf_39 : decode cX2_entryOf 39 = .ok (.iconst 0, 1) := by decide +kernel
theorem dX2_entryOf_40 : decode cX2_entryOf 40 = .ok (.ireturn, 1) := by decide +kernel
theorem dX2_slotOf_0 : decode cX2_slotOf 0 = .ok (.iload_n 0, 1) := by decide +kernel
theorem dX2_slotOf_1 : decode cX2_slotOf 1 = .ok (.ldc 20, 2) := by decide +kernel
theorem dX2_slotOf_3 : decode cX2_slotOf 3 = .ok (.imul, 1) := by decide +kernel
theorem dX2_slotOf_4 : decode cX2_slotOf 4 = .ok (.bipush 22, 2) := by decide +kernel
theorem dX2_slotOf_6 : decode cX2_slotOf 6 = .ok (.iushr, 1) := by decide +kernel
theorem dX2_slotOf_7 : decode cX2_slotOf 7 = .ok (.ireturn, 1) := by decide +kernel
theorem dX3_init_0 : decode cX3_init 0 = .ok (.aload_n 0, 1) := by decide +kernel
theorem dX3_init_1 : decode cX3_init 1 = .ok (.invokespecial 1, 3) := by decide +kernel
theorem dX3_init_4 : decode cX3_init 4 = .ok (.aload_n 0, 1) := by decide +kernel
theorem dX3_init_5 : decode cX3_init 5 = .ok (.aload_n 1, 1) := by decide +kernel
theorem dX3_init_6 : decode cX3_init 6 = .ok (.putfield 7, 3) := by decide +kernel
theorem dX3_init_9 : decode cX3_init 9 = .ok (.return_, 1) := by decide +kernel
set_option maxRecDepth 20000 in
theorem ggX3_lowestLike_X1_ownerOf : GoodIn wsX3_lowestLike wsX1_ownerOf := goodIn_r _ [6, 7, 8, 9, 10, 11, 47, 48, 49, 50, 51, 52, 53, 54] (by decide +kernel) (by decide +kernel)
set_option maxRecDepth 20000 in
theorem gX3_lowestLike_X1_ownerOf : GoodIn wsX3_lowestLike (wsV RX3 13 RX1 yX1_ownerOf wsX1_ownerOf) := goodIn_app (goodIn_of _ (by decide +kernel)) ggX3_lowestLike_X1_ownerOf
set_option maxRecDepth 20000 in
theorem ggX3_lowestLike_X1_handOf : GoodIn wsX3_lowestLike wsX1_handOf := goodIn_r _ [15, 7, 47, 48, 49, 50, 51, 52, 53, 54] (by decide +kernel) (by decide +kernel)
set_option maxRecDepth 20000 in
theorem gX3_lowestLike_X1_handOf : GoodIn wsX3_lowestLike (wsV RX3 19 RX1 yX1_handOf wsX1_handOf) := goodIn_app (goodIn_of _ (by decide +kernel)) ggX3_lowestLike_X1_handOf
set_option maxRecDepth 20000 in
theorem ggX3_lowestLike_X1_out : GoodIn wsX3_lowestLike wsX1_out := goodIn_r _ [19, 20, 21, 22, 23, 5, 24, 7, 25, 26, 27, 28, 29, 30, 31, 32, 33, 34, 35, 36, 37, 38, 47, 48, 49, 50, 51, 52, 53, 54] (by decide +kernel) (by decide +kernel)
set_option maxRecDepth 20000 in
theorem gX3_lowestLike_X1_out : GoodIn wsX3_lowestLike (wsV RX3 22 RX1 yX1_out wsX1_out) := goodIn_app (goodIn_of _ (by decide +kernel)) ggX3_lowestLike_X1_out
set_option maxRecDepth 20000 in
theorem ggX3_lowestLike_X0_equalBelow : GoodIn wsX3_lowestLike wsX0_equalBelow := goodIn_r _ [41, 42, 43, 10, 44, 45, 9, 11] (by decide +kernel) (by decide +kernel)
set_option maxRecDepth 20000 in
theorem gX3_lowestLike_X0_equalBelow : GoodIn wsX3_lowestLike (va_wsS RX3 28 yX0_equalBelow wsX0_equalBelow) := goodIn_app (goodIn_of _ (by decide +kernel)) ggX3_lowestLike_X0_equalBelow
theorem dX3_lowestLike_0 : decode cX3_lowestLike 0 = .ok (.aload_n 0, 1) := by decide +kernel
theorem dX3_lowestLike_1 : decode cX3_lowestLike 1 = .ok (.getfield 7, 3) := by decide +kernel
theorem dX3_lowestLike_4 : decode cX3_lowestLike 4 = .ok (.aload_n 0, 1) := by decide +kernel
theorem dX3_lowestLike_5 : decode cX3_lowestLike 5 = .ok (.getfield 7, 3) := by decide +kernel
theorem dX3_lowestLike_8 : decode cX3_lowestLike 8 = .ok (.iload_n 1, 1) := by decide +kernel
theorem dX3_lowestLike_9 : decode cX3_lowestLike 9 = .ok (.invokevirtual 13, 3) := by decide +kernel
theorem dX3_lowestLike_12 : decode cX3_lowestLike 12 = .ok (.invokevirtual 19, 3) := by decide +kernel
theorem dX3_lowestLike_15 : decode cX3_lowestLike 15 = .ok (.istore_n 2, 1) := by decide +kernel
theorem dX3_lowestLike_16 : decode cX3_lowestLike 16 = .ok (.aload_n 0, 1) := by decide +kernel
theorem dX3_lowestLike_17 : decode cX3_lowestLike 17 = .ok (.getfield 7, 3) := by decide +kernel
theorem dX3_lowestLike_20 : decode cX3_lowestLike 20 = .ok (.invokevirtual 22, 3) := by decide +kernel
theorem dX3_lowestLike_23 : decode cX3_lowestLike 23 = .ok (.istore_n 3, 1) := by decide +kernel
theorem dX3_lowestLike_24 : decode cX3_lowestLike 24 = .ok (.iload_n 1, 1) := by decide +kernel
theorem dX3_lowestLike_25 : decode cX3_lowestLike 25 = .ok (.istore 4, 2) := by decide +kernel
theorem dX3_lowestLike_27 : decode cX3_lowestLike 27 = .ok (.iconst 0, 1) := by decide +kernel
theorem dX3_lowestLike_28 : decode cX3_lowestLike 28 = .ok (.istore 5, 2) := by decide +kernel
theorem dX3_lowestLike_30 : decode cX3_lowestLike 30 = .ok (.iload 5, 2) := by decide +kernel
theorem dX3_lowestLike_32 : decode cX3_lowestLike 32 = .ok (.bipush 6, 2) := by decide +kernel
theorem dX3_lowestLike_34 : decode cX3_lowestLike 34 = .ok (.if_icmp .ge 31, 3) := by decide +kernel
theorem dX3_lowestLike_37 : decode cX3_lowestLike 37 = .ok (.iload 4, 2) := by decide +kernel
theorem dX3_lowestLike_39 : decode cX3_lowestLike 39 = .ok (.iload_n 2, 1) := by decide +kernel
theorem dX3_lowestLike_40 : decode cX3_lowestLike 40 = .ok (.iload_n 3, 1) := by decide +kernel
theorem dX3_lowestLike_41 : decode cX3_lowestLike 41 = .ok (.invokestatic 28, 3) := by decide +kernel
theorem dX3_lowestLike_44 : decode cX3_lowestLike 44 = .ok (.istore 6, 2) := by decide +kernel
theorem dX3_lowestLike_46 : decode cX3_lowestLike 46 = .ok (.iload 6, 2) := by decide +kernel
theorem dX3_lowestLike_48 : decode cX3_lowestLike 48 = .ok (.iconst (-1), 1) := by decide +kernel
theorem dX3_lowestLike_49 : decode cX3_lowestLike 49 = .ok (.if_icmp .ne 6, 3) := by decide +kernel
theorem dX3_lowestLike_52 : decode cX3_lowestLike 52 = .ok (.iload 4, 2) := by decide +kernel
theorem dX3_lowestLike_54 : decode cX3_lowestLike 54 = .ok (.ireturn, 1) := by decide +kernel
theorem dX3_lowestLike_55 : decode cX3_lowestLike 55 = .ok (.iload 6, 2) := by decide +kernel
theorem dX3_lowestLike_57 : decode cX3_lowestLike 57 = .ok (.istore 4, 2) := by decide +kernel
theorem dX3_lowestLike_59 : decode cX3_lowestLike 59 = .ok (.iinc 5 1, 3) := by decide +kernel
theorem dX3_lowestLike_62 : decode cX3_lowestLike 62 = .ok (.goto (-32), 3) := by decide +kernel
theorem dX3_lowestLike_65 : decode cX3_lowestLike 65 = .ok (.iload 4, 2) := by decide +kernel
theorem dX3_lowestLike_67 : decode cX3_lowestLike 67 = .ok (.ireturn, 1) := by decide +kernel
set_option maxRecDepth 20000 in
theorem ggX3_isHighest_X1_inHands : GoodIn wsX3_isHighest wsX1_inHands := goodIn_r _ [6, 7, 42, 43, 44, 45, 46, 47, 48, 49] (by decide +kernel) (by decide +kernel)
set_option maxRecDepth 20000 in
theorem gX3_isHighest_X1_inHands : GoodIn wsX3_isHighest (wsV RX3 32 RX1 yX1_inHands wsX1_inHands) := goodIn_app (goodIn_of _ (by decide +kernel)) ggX3_isHighest_X1_inHands
set_option maxRecDepth 20000 in
theorem ggX3_isHighest_X1_handOf : GoodIn wsX3_isHighest wsX1_handOf := goodIn_r _ [11, 7, 42, 43, 44, 45, 46, 47, 48, 49] (by decide +kernel) (by decide +kernel)
set_option maxRecDepth 20000 in
theorem gX3_isHighest_X1_handOf : GoodIn wsX3_isHighest (wsV RX3 19 RX1 yX1_handOf wsX1_handOf) := goodIn_app (goodIn_of _ (by decide +kernel)) ggX3_isHighest_X1_handOf
set_option maxRecDepth 20000 in
theorem ggX3_isHighest_X1_inTrickSet : GoodIn wsX3_isHighest wsX1_inTrickSet := goodIn_r _ [15, 16, 17, 18, 19, 5, 20, 21, 22, 23, 24, 25, 42, 43, 44, 45, 46, 47, 48, 49] (by decide +kernel) (by decide +kernel)
set_option maxRecDepth 20000 in
theorem gX3_isHighest_X1_inTrickSet : GoodIn wsX3_isHighest (wsV RX3 35 RX1 yX1_inTrickSet wsX1_inTrickSet) := goodIn_app (goodIn_of _ (by decide +kernel)) ggX3_isHighest_X1_inTrickSet
set_option maxRecDepth 20000 in
theorem ggX3_isHighest_X0_suitOf : GoodIn wsX3_isHighest wsX0_suitOf := goodIn_r _ [29] (by decide +kernel) (by decide +kernel)
set_option maxRecDepth 20000 in
theorem gX3_isHighest_X0_suitOf : GoodIn wsX3_isHighest (va_wsS RX3 38 yX0_suitOf wsX0_suitOf) := goodIn_app (goodIn_of _ (by decide +kernel)) ggX3_isHighest_X0_suitOf
set_option maxRecDepth 20000 in
theorem ggX3_isHighest_X0_suitSet : GoodIn wsX3_isHighest wsX0_suitSet := goodIn_r _ [32] (by decide +kernel) (by decide +kernel)
set_option maxRecDepth 20000 in
theorem gX3_isHighest_X0_suitSet : GoodIn wsX3_isHighest (va_wsS RX3 41 yX0_suitSet wsX0_suitSet) := goodIn_app (goodIn_of _ (by decide +kernel)) ggX3_isHighest_X0_suitSet
set_option maxRecDepth 20000 in
theorem ggX3_isHighest_X0_highest : GoodIn wsX3_isHighest wsX0_highest := goodIn_r _ [35, 36, 37, 38, 39, 40] (by decide +kernel) (by decide +kernel)
set_option maxRecDepth 20000 in
theorem gX3_isHighest_X0_highest : GoodIn wsX3_isHighest (va_wsS RX3 44 yX0_highest wsX0_highest) := goodIn_app (goodIn_of _ (by decide +kernel)) ggX3_isHighest_X0_highest
theorem dX3_isHighest_0 : decode cX3_isHighest 0 = .ok (.aload_n 0, 1) := by decide +kernel
theorem dX3_isHighest_1 : decode cX3_isHighest 1 = .ok (.getfield 7, 3) := by decide +kernel
theorem dX3_isHighest_4 : decode cX3_isHighest 4 = .ok (.invokevirtual 32, 3) := by decide +kernel
theorem dX3_isHighest_7 : decode cX3_isHighest 7 = .ok (.aload_n 0, 1) := by decide +kernel
theorem dX3_isHighest_8 : decode cX3_isHighest 8 = .ok (.getfield 7, 3) := by decide +kernel
theorem dX3_isHighest_11 : decode cX3_isHighest 11 = .ok (.iload_n 2, 1) := by decide +kernel
theorem dX3_isHighest_12 : decode cX3_isHighest 12 = .ok (.invokevirtual 19, 3) := by decide +kernel
theorem dX3_isHighest_15 : decode cX3_isHighest 15 = .ok (.iconst (-1), 1) := by decide +kernel
theorem dX3_isHighest_16 : decode cX3_isHighest 16 = .ok (.ixor, 1) := by decide +kernel
theorem dX3_isHighest_17 : decode cX3_isHighest 17 = .ok (.iand, 1) := by decide +kernel
theorem dX3_isHighest_18 : decode cX3_isHighest 18 = .ok (.aload_n 0, 1) := by decide +kernel
theorem dX3_isHighest_19 : decode cX3_isHighest 19 = .ok (.getfield 7, 3) := by decide +kernel
theorem dX3_isHighest_22 : decode cX3_isHighest 22 = .ok (.invokevirtual 35, 3) := by decide +kernel
theorem dX3_isHighest_25 : decode cX3_isHighest 25 = .ok (.ior, 1) := by decide +kernel
theorem dX3_isHighest_26 : decode cX3_isHighest 26 = .ok (.istore_n 3, 1) := by decide +kernel
theorem dX3_isHighest_27 : decode cX3_isHighest 27 = .ok (.iload_n 3, 1) := by decide +kernel
theorem dX3_isHighest_28 : decode cX3_isHighest 28 = .ok (.iload_n 1, 1) := by decide +kernel
theorem dX3_isHighest_29 : decode cX3_isHighest 29 = .ok (.invokestatic 38, 3) := by decide +kernel
theorem dX3_isHighest_32 : decode cX3_isHighest 32 = .ok (.invokestatic 41, 3) := by decide +kernel
theorem dX3_isHighest_35 : decode cX3_isHighest 35 = .ok (.iand, 1) := by decide +kernel
theorem dX3_isHighest_36 : decode cX3_isHighest 36 = .ok (.invokestatic 44, 3) := by decide +kernel
theorem dX3_isHighest_39 : decode cX3_isHighest 39 = .ok (.iload_n 1, 1) := by decide +kernel
theorem dX3_isHighest_40 : decode cX3_isHighest 40 = .ok (.if_icmp .ge 7, 3) := by decide +kernel
theorem dX3_isHighest_43 : decode cX3_isHighest 43 = .ok (.iconst 1, 1) := by decide +kernel
theorem dX3_isHighest_44 : decode cX3_isHighest 44 = .ok (.goto 4, 3) := by decide +kernel
theorem dX3_isHighest_47 : decode cX3_isHighest 47 = .ok (.iconst 0, 1) := by decide +kernel
theorem dX3_isHighest_48 : decode cX3_isHighest 48 = .ok (.ireturn, 1) := by decide +kernel
set_option maxRecDepth 20000 in
theorem ggX3_quickTricks_X1_handOf : GoodIn wsX3_quickTricks wsX1_handOf := goodIn_r _ [6, 7, 50, 51, 52, 53, 54, 55, 56, 57] (by decide +kernel) (by decide +kernel)
set_option maxRecDepth 20000 in
theorem gX3_quickTricks_X1_handOf : GoodIn wsX3_quickTricks (wsV RX3 19 RX1 yX1_handOf wsX1_handOf) := goodIn_app (goodIn_of _ (by decide +kernel)) ggX3_quickTricks_X1_handOf
set_option maxRecDepth 20000 in
theorem ggX3_quickTricks_X0_holds : GoodIn wsX3_quickTricks wsX0_holds := goodIn_r _ [11] (by decide +kernel) (by decide +kernel)
set_option maxRecDepth 20000 in
theorem gX3_quickTricks_X0_holds : GoodIn wsX3_quickTricks (va_wsS RX3 47 yX0_holds wsX0_holds) := goodIn_app (goodIn_of _ (by decide +kernel)) ggX3_quickTricks_X0_holds
set_option maxRecDepth 20000 in
theorem ggX3_quickTricks_X3_isHighest : GoodIn wsX3_quickTricks wsX3_isHighest := goodIn_r _ [16, 1, 17, 18, 19, 5, 20, 7, 2, 3, 4, 6, 21, 22, 23, 24, 25, 26, 27, 28, 29, 30, 31, 32, 33, 34, 35, 36, 10, 37, 38, 39, 40, 41, 42, 43, 44, 45, 46, 47, 48, 49, 50, 51, 52, 53, 54, 55, 56, 57] (by decide +kernel) (by decide +kernel)
set_option maxRecDepth 20000 in
theorem gX3_quickTricks_X3_isHighest : GoodIn wsX3_quickTricks (wsV RX3 51 RX3 yX3_isHighest wsX3_isHighest) := goodIn_app (goodIn_of _ (by decide +kernel)) ggX3_quickTricks_X3_isHighest
theorem dX3_quickTricks_0 : decode cX3_quickTricks 0 = .ok (.aload_n 0, 1) := by decide +kernel
theorem dX3_quickTricks_1 : decode cX3_quickTricks 1 = .ok (.getfield 7, 3) := by decide +kernel
theorem dX3_quickTricks_4 : decode cX3_quickTricks 4 = .ok (.iload_n 1, 1) := by decide +kernel
theorem dX3_quickTricks_5 : decode cX3_quickTricks 5 = .ok (.invokevirtual 19, 3) := by decide +kernel
theorem dX3_quickTricks_8 : decode cX3_quickTricks 8 = .ok (.istore_n 2, 1) := by decide +kernel
theorem dX3_quickTricks_9 : decode cX3_quickTricks 9 = .ok (.iconst 0, 1) := by decide +kernel
theorem dX3_quickTricks_10 : decode cX3_quickTricks 10 = .ok (.istore_n 3, 1) := by decide +kernel
theorem dX3_quickTricks_11 : decode cX3_quickTricks 11 = .ok (.iconst 0, 1) := by decide +kernel
theorem dX3_quickTricks_12 : decode cX3_quickTricks 12 = .ok (.istore 4, 2) := by decide +kernel
theorem dX3_quickTricks_14 : decode cX3_quickTricks 14 = .ok (.iload 4, 2) := by decide +kernel
theorem dX3_quickTricks_16 : decode cX3_quickTricks 16 = .ok (.bipush 24, 2) := by decide +kernel
theorem dX3_quickTricks_18 : decode cX3_quickTricks 18 = .ok (.if_icmp .ge 31, 3) := by decide +kernel
theorem dX3_quickTricks_21 : decode cX3_quickTricks 21 = .ok (.iload_n 2, 1) := by decide +kernel
theorem dX3_quickTricks_22 : decode cX3_quickTricks 22 = .ok (.iload 4, 2) := by decide +kernel
theorem dX3_quickTricks_24 : decode cX3_quickTricks 24 = .ok (.invokestatic 47, 3) := by decide +kernel
theorem dX3_quickTricks_27 : decode cX3_quickTricks 27 = .ok (.ifCond .eq 16, 3) := by decide +kernel
theorem dX3_quickTricks_30 : decode cX3_quickTricks 30 = .ok (.aload_n 0, 1) := by decide +kernel
theorem dX3_quickTricks_31 : decode cX3_quickTricks 31 = .ok (.iload 4, 2) := by decide +kernel
theorem dX3_quickTricks_33 : decode cX3_quickTricks 33 = .ok (.iload_n 1, 1) := by decide +kernel
theorem dX3_quickTricks_34 : decode cX3_quickTricks 34 = .ok (.invokevirtual 51, 3) := by decide +kernel
theorem dX3_quickTricks_37 : decode cX3_quickTricks 37 = .ok (.ifCond .eq 6, 3) := by decide +kernel
theorem dX3_quickTricks_40 : decode cX3_quickTricks 40 = .ok (.iinc 3 1, 3) := by decide +kernel
theorem dX3_quickTricks_43 : decode cX3_quickTricks 43 = .ok (.iinc 4 1, 3) := by decide +kernel
theorem dX3_quickTricks_46 : decode cX3_quickTricks 46 = .ok (.goto (-32), 3) := by decide +kernel
theorem dX3_quickTricks_49 : decode cX3_quickTricks 49 = .ok (.iload_n 3, 1) := by decide +kernel
theorem dX3_quickTricks_50 : decode cX3_quickTricks 50 = .ok (.ireturn, 1) := by decide +kernel
set_option maxRecDepth 20000 in
theorem ggX3_forkKind_X1_inHands : GoodIn wsX3_forkKind wsX1_inHands := goodIn_r _ [6, 7, 37, 38, 39, 40, 41, 42, 43, 44] (by decide +kernel) (by decide +kernel)
set_option maxRecDepth 20000 in
theorem gX3_forkKind_X1_inHands : GoodIn wsX3_forkKind (wsV RX3 32 RX1 yX1_inHands wsX1_inHands) := goodIn_app (goodIn_of _ (by decide +kernel)) ggX3_forkKind_X1_inHands
set_option maxRecDepth 20000 in
theorem ggX3_forkKind_X0_suitSet : GoodIn wsX3_forkKind wsX0_suitSet := goodIn_r _ [11] (by decide +kernel) (by decide +kernel)
set_option maxRecDepth 20000 in
theorem gX3_forkKind_X0_suitSet : GoodIn wsX3_forkKind (va_wsS RX3 41 yX0_suitSet wsX0_suitSet) := goodIn_app (goodIn_of _ (by decide +kernel)) ggX3_forkKind_X0_suitSet
set_option maxRecDepth 20000 in
theorem ggX3_forkKind_J6_bitCount_0f7a4 : GoodIn wsX3_forkKind wsJ6_bitCount_0f7a4 := goodIn_r _ [15, 16, 17, 18] (by decide +kernel) (by decide +kernel)
set_option maxRecDepth 20000 in
theorem gX3_forkKind_J6_bitCount_0f7a4 : GoodIn wsX3_forkKind (va_wsS RX3 54 yJ6_bitCount_0f7a4 wsJ6_bitCount_0f7a4) := goodIn_app (goodIn_of _ (by decide +kernel)) ggX3_forkKind_J6_bitCount_0f7a4
set_option maxRecDepth 20000 in
theorem ggX3_forkKind_X0_highest : GoodIn wsX3_forkKind wsX0_highest := goodIn_r _ [21, 22, 23, 14, 24, 25] (by decide +kernel) (by decide +kernel)
set_option maxRecDepth 20000 in
theorem gX3_forkKind_X0_highest : GoodIn wsX3_forkKind (va_wsS RX3 44 yX0_highest wsX0_highest) := goodIn_app (goodIn_of _ (by decide +kernel)) ggX3_forkKind_X0_highest
set_option maxRecDepth 20000 in
theorem ggX3_forkKind_X1_ownerOf : GoodIn wsX3_forkKind wsX1_ownerOf := goodIn_r _ [29, 7, 30, 31, 10, 32, 37, 38, 39, 40, 41, 42, 43, 44] (by decide +kernel) (by decide +kernel)
set_option maxRecDepth 20000 in
theorem gX3_forkKind_X1_ownerOf : GoodIn wsX3_forkKind (wsV RX3 13 RX1 yX1_ownerOf wsX1_ownerOf) := goodIn_app (goodIn_of _ (by decide +kernel)) ggX3_forkKind_X1_ownerOf
set_option maxRecDepth 20000 in
theorem ggX3_forkKind_X0_sideOf : GoodIn wsX3_forkKind wsX0_sideOf := goodIn_r _ [35] (by decide +kernel) (by decide +kernel)
set_option maxRecDepth 20000 in
theorem gX3_forkKind_X0_sideOf : GoodIn wsX3_forkKind (va_wsS RX3 59 yX0_sideOf wsX0_sideOf) := goodIn_app (goodIn_of _ (by decide +kernel)) ggX3_forkKind_X0_sideOf
theorem dX3_forkKind_0 : decode cX3_forkKind 0 = .ok (.aload_n 0, 1) := by decide +kernel
theorem dX3_forkKind_1 : decode cX3_forkKind 1 = .ok (.getfield 7, 3) := by decide +kernel
theorem dX3_forkKind_4 : decode cX3_forkKind 4 = .ok (.invokevirtual 32, 3) := by decide +kernel
theorem dX3_forkKind_7 : decode cX3_forkKind 7 = .ok (.iload_n 2, 1) := by decide +kernel
theorem dX3_forkKind_8 : decode cX3_forkKind 8 = .ok (.invokestatic 41, 3) := by decide +kernel
theorem dX3_forkKind_11 : decode cX3_forkKind 11 = .ok (.iand, 1) := by decide +kernel
theorem dX3_forkKind_12 : decode cX3_forkKind 12 = .ok (.istore_n 3, 1) := by decide +kernel
theorem dX3_forkKind_13 : decode cX3_forkKind 13 = .ok (.iload_n 3, 1) := by decide +kernel
theorem dX3_forkKind_14 : decode cX3_forkKind 14 = .ok (.invokestatic 54, 3) := by decide +kernel
theorem dX3_forkKind_17 : decode cX3_forkKind 17 = .ok (.iconst 3, 1) := by decide +kernel
theorem dX3_forkKind_18 : decode cX3_forkKind 18 = .ok (.if_icmp .ge 5, 3) := by decide +kernel
theorem dX3_forkKind_21 : decode cX3_forkKind 21 = .ok (.iconst 0, 1) := by decide +kernel
theorem dX3_forkKind_22 : decode cX3_forkKind 22 = .ok (.ireturn, 1) := by decide +kernel
theorem dX3_forkKind_23 : decode cX3_forkKind 23 = .ok (.iload_n 3, 1) := by decide +kernel
theorem dX3_forkKind_24 : decode cX3_forkKind 24 = .ok (.invokestatic 44, 3) := by decide +kernel
theorem dX3_forkKind_27 : decode cX3_forkKind 27 = .ok (.istore 4, 2) := by decide +kernel
theorem dX3_forkKind_29 : decode cX3_forkKind 29 = .ok (.iload_n 3, 1) := by decide +kernel
theorem dX3_forkKind_30 : decode cX3_forkKind 30 = .ok (.iconst 1, 1) := by decide +kernel
theorem dX3_forkKind_31 : decode cX3_forkKind 31 = .ok (.iload 4, 2) := by decide +kernel
theorem dX3_forkKind_33 : decode cX3_forkKind 33 = .ok (.ishl, 1) := by decide +kernel
theorem dX3_forkKind_34 : decode cX3_forkKind 34 = .ok (.iconst (-1), 1) := by decide +kernel
theorem dX3_forkKind_35 : decode cX3_forkKind 35 = .ok (.ixor, 1) := by decide +kernel
theorem dX3_forkKind_36 : decode cX3_forkKind 36 = .ok (.iand, 1) := by decide +kernel
theorem dX3_forkKind_37 : decode cX3_forkKind 37 = .ok (.invokestatic 44, 3) := by decide +kernel
theorem dX3_forkKind_40 : decode cX3_forkKind 40 = .ok (.istore 5, 2) := by decide +kernel
theorem dX3_forkKind_42 : decode cX3_forkKind 42 = .ok (.iload_n 3, 1) := by decide +kernel
theorem dX3_forkKind_43 : decode cX3_forkKind 43 = .ok (.iconst 1, 1) := by decide +kernel
theorem dX3_forkKind_44 : decode cX3_forkKind 44 = .ok (.iload 4, 2) := by decide +kernel
theorem dX3_forkKind_46 : decode cX3_forkKind 46 = .ok (.ishl, 1) := by decide +kernel
theorem dX3_forkKind_47 : decode cX3_forkKind 47 = .ok (.iconst (-1), 1) := by decide +kernel
theorem dX3_forkKind_48 : decode cX3_forkKind 48 = .ok (.ixor, 1) := by decide +kernel
theorem dX3_forkKind_49 : decode cX3_forkKind 49 = .ok (.iand, 1) := by decide +kernel
theorem dX3_forkKind_50 : decode cX3_forkKind 50 = .ok (.iconst 1, 1) := by decide +kernel
theorem dX3_forkKind_51 : decode cX3_forkKind 51 = .ok (.iload 5, 2) := by decide +kernel
theorem dX3_forkKind_53 : decode cX3_forkKind 53 = .ok (.ishl, 1) := by decide +kernel
theorem dX3_forkKind_54 : decode cX3_forkKind 54 = .ok (.iconst (-1), 1) := by decide +kernel
theorem dX3_forkKind_55 : decode cX3_forkKind 55 = .ok (.ixor, 1) := by decide +kernel
theorem dX3_forkKind_56 : decode cX3_forkKind 56 = .ok (.iand, 1) := by decide +kernel
theorem dX3_forkKind_57 : decode cX3_forkKind 57 = .ok (.invokestatic 44, 3) := by decide +kernel
theorem dX3_forkKind_60 : decode cX3_forkKind 60 = .ok (.istore 6, 2) := by decide +kernel
theorem dX3_forkKind_62 : decode cX3_forkKind 62 = .ok (.aload_n 0, 1) := by decide +kernel
theorem dX3_forkKind_63 : decode cX3_forkKind 63 = .ok (.getfield 7, 3) := by decide +kernel
theorem dX3_forkKind_66 : decode cX3_forkKind 66 = .ok (.iload 5, 2) := by decide +kernel
theorem dX3_forkKind_68 : decode cX3_forkKind 68 = .ok (.invokevirtual 13, 3) := by decide +kernel
theorem dX3_forkKind_71 : decode cX3_forkKind 71 = .ok (.istore 7, 2) := by decide +kernel
theorem dX3_forkKind_73 : decode cX3_forkKind 73 = .ok (.aload_n 0, 1) := by decide +kernel
theorem dX3_forkKind_74 : decode cX3_forkKind 74 = .ok (.getfield 7, 3) := by decide +kernel
theorem dX3_forkKind_77 : decode cX3_forkKind 77 = .ok (.iload 4, 2) := by decide +kernel
theorem dX3_forkKind_79 : decode cX3_forkKind 79 = .ok (.invokevirtual 13, 3) := by decide +kernel
theorem dX3_forkKind_82 : decode cX3_forkKind 82 = .ok (.iload_n 1, 1) := by decide +kernel
theorem dX3_forkKind_83 : decode cX3_forkKind 83 = .ok (.if_icmp .ne 28, 3) := by decide +kernel
theorem dX3_forkKind_86 : decode cX3_forkKind 86 = .ok (.aload_n 0, 1) := by decide +kernel
theorem dX3_forkKind_87 : decode cX3_forkKind 87 = .ok (.getfield 7, 3) := by decide +kernel
theorem dX3_forkKind_90 : decode cX3_forkKind 90 = .ok (.iload 6, 2) := by decide +kernel
theorem dX3_forkKind_92 : decode cX3_forkKind 92 = .ok (.invokevirtual 13, 3) := by decide +kernel
theorem dX3_forkKind_95 : decode cX3_forkKind 95 = .ok (.iload_n 1, 1) := by decide +kernel
theorem dX3_forkKind_96 : decode cX3_forkKind 96 = .ok (.if_icmp .ne 15, 3) := by decide +kernel
theorem dX3_forkKind_99 : decode cX3_forkKind 99 = .ok (.iload 7, 2) := by decide +kernel
theorem dX3_forkKind_101 : decode cX3_forkKind 101 = .ok (.invokestatic 59, 3) := by decide +kernel
theorem dX3_forkKind_104 : decode cX3_forkKind 104 = .ok (.iload_n 1, 1) := by decide +kernel
theorem dX3_forkKind_105 : decode cX3_forkKind 105 = .ok (.invokestatic 59, 3) := by decide +kernel
theorem dX3_forkKind_108 : decode cX3_forkKind 108 = .ok (.if_icmp .ne 5, 3) := by decide +kernel
theorem dX3_forkKind_111 : decode cX3_forkKind 111 = .ok (.iconst 0, 1) := by decide +kernel
theorem dX3_forkKind_112 : decode cX3_forkKind 112 = .ok (.ireturn, 1) := by decide +kernel
theorem dX3_forkKind_113 : decode cX3_forkKind 113 = .ok (.iload 7, 2) := by decide +kernel
theorem dX3_forkKind_115 : decode cX3_forkKind 115 = .ok (.iconst 1, 1) := by decide +kernel
theorem dX3_forkKind_116 : decode cX3_forkKind 116 = .ok (.iadd, 1) := by decide +kernel
theorem dX3_forkKind_117 : decode cX3_forkKind 117 = .ok (.iconst 4, 1) := by decide +kernel
theorem dX3_forkKind_118 : decode cX3_forkKind 118 = .ok (.irem, 1) := by decide +kernel
theorem dX3_forkKind_119 : decode cX3_forkKind 119 = .ok (.iload_n 1, 1) := by decide +kernel
theorem dX3_forkKind_120 : decode cX3_forkKind 120 = .ok (.if_icmp .ne 7, 3) := by decide +kernel
theorem dX3_forkKind_123 : decode cX3_forkKind 123 = .ok (.iconst 2, 1) := by decide +kernel
theorem dX3_forkKind_124 : decode cX3_forkKind 124 = .ok (.goto 4, 3) := by decide +kernel
theorem dX3_forkKind_127 : decode cX3_forkKind 127 = .ok (.iconst 1, 1) := by decide +kernel
theorem dX3_forkKind_128 : decode cX3_forkKind 128 = .ok (.ireturn, 1) := by decide +kernel
set_option maxRecDepth 20000 in
theorem ggX3_goodForksOf_X3_forkKind : GoodIn wsX3_goodForksOf wsX3_forkKind := goodIn_r _ [5, 6, 7, 8, 9, 10, 11, 12, 13, 14, 15, 16, 17, 18, 19, 20, 21, 22, 23, 24, 25, 26, 27, 28, 29, 30, 31, 32, 33, 34, 35, 36, 37, 38, 39, 40, 41, 42, 43, 44, 45, 46, 47, 48, 49] (by decide +kernel) (by decide +kernel)
set_option maxRecDepth 20000 in
theorem gX3_goodForksOf_X3_forkKind : GoodIn wsX3_goodForksOf (wsV RX3 62 RX3 yX3_forkKind wsX3_forkKind) := goodIn_app (goodIn_of _ (by decide +kernel)) ggX3_goodForksOf_X3_forkKind
theorem dX3_goodForksOf_0 : decode cX3_goodForksOf 0 = .ok (.iconst 0, 1) := by decide +kernel
theorem dX3_goodForksOf_1 : decode cX3_goodForksOf 1 = .ok (.istore_n 2, 1) := by decide +kernel
theorem dX3_goodForksOf_2 : decode cX3_goodForksOf 2 = .ok (.iload_n 1, 1) := by decide +kernel
theorem dX3_goodForksOf_3 : decode cX3_goodForksOf 3 = .ok (.istore_n 3, 1) := by decide +kernel
theorem dX3_goodForksOf_4 : decode cX3_goodForksOf 4 = .ok (.iload_n 3, 1) := by decide +kernel
theorem dX3_goodForksOf_5 : decode cX3_goodForksOf 5 = .ok (.iconst 4, 1) := by decide +kernel
theorem dX3_goodForksOf_6 : decode cX3_goodForksOf 6 = .ok (.if_icmp .ge 38, 3) := by decide +kernel
theorem dX3_goodForksOf_9 : decode cX3_goodForksOf 9 = .ok (.iconst 0, 1) := by decide +kernel
theorem dX3_goodForksOf_10 : decode cX3_goodForksOf 10 = .ok (.istore 4, 2) := by decide +kernel
theorem dX3_goodForksOf_12 : decode cX3_goodForksOf 12 = .ok (.iload 4, 2) := by decide +kernel
theorem dX3_goodForksOf_14 : decode cX3_goodForksOf 14 = .ok (.iconst 4, 1) := by decide +kernel
theorem dX3_goodForksOf_15 : decode cX3_goodForksOf 15 = .ok (.if_icmp .ge 23, 3) := by decide +kernel
theorem dX3_goodForksOf_18 : decode cX3_goodForksOf 18 = .ok (.aload_n 0, 1) := by decide +kernel
theorem dX3_goodForksOf_19 : decode cX3_goodForksOf 19 = .ok (.iload_n 3, 1) := by decide +kernel
theorem dX3_goodForksOf_20 : decode cX3_goodForksOf 20 = .ok (.iload 4, 2) := by decide +kernel
theorem dX3_goodForksOf_22 : decode cX3_goodForksOf 22 = .ok (.invokevirtual 62, 3) := by decide +kernel
theorem dX3_goodForksOf_25 : decode cX3_goodForksOf 25 = .ok (.iconst 2, 1) := by decide +kernel
theorem dX3_goodForksOf_26 : decode cX3_goodForksOf 26 = .ok (.if_icmp .ne 6, 3) := by decide +kernel
theorem dX3_goodForksOf_29 : decode cX3_goodForksOf 29 = .ok (.iinc 2 1, 3) := by decide +kernel
theorem dX3_goodForksOf_32 : decode cX3_goodForksOf 32 = .ok (.iinc 4 1, 3) := by decide +kernel
theorem dX3_goodForksOf_35 : decode cX3_goodForksOf 35 = .ok (.goto (-23), 3) := by decide +kernel
theorem dX3_goodForksOf_38 : decode cX3_goodForksOf 38 = .ok (.iinc 3 2, 3) := by decide +kernel
theorem dX3_goodForksOf_41 : decode cX3_goodForksOf 41 = .ok (.goto (-37), 3) := by decide +kernel
theorem dX3_goodForksOf_44 : decode cX3_goodForksOf 44 = .ok (.iload_n 2, 1) := by decide +kernel
theorem dX3_goodForksOf_45 : decode cX3_goodForksOf 45 = .ok (.ireturn, 1) := by decide +kernel
set_option maxRecDepth 20000 in
theorem ggX4_init_X2_init : GoodIn wsX4_init wsX2_init := goodIn_r _ [11, 12, 2, 3, 13, 14, 17] (by decide +kernel) (by decide +kernel)
set_option maxRecDepth 20000 in
theorem gX4_init_X2_init : GoodIn wsX4_init (wsX2_init) := ggX4_init_X2_init
theorem dX4_init_0 : decode cX4_init 0 = .ok (.aload_n 0, 1) := by decide +kernel
theorem dX4_init_1 : decode cX4_init 1 = .ok (.invokespecial 1, 3) := by decide +kernel
theorem dX4_init_4 : decode cX4_init 4 = .ok (.aload_n 0, 1) := by decide +kernel
theorem dX4_init_5 : decode cX4_init 5 = .ok (.aload_n 1, 1) := by decide +kernel
theorem dX4_init_6 : decode cX4_init 6 = .ok (.putfield 7, 3) := by decide +kernel
theorem dX4_init_9 : decode cX4_init 9 = .ok (.aload_n 0, 1) := by decide +kernel
theorem dX4_init_10 : decode cX4_init 10 = .ok (.new 13, 3) := by decide +kernel
theorem dX4_init_13 : decode cX4_init 13 = .ok (.dup, 1) := by decide +kernel
theorem dX4_init_14 : decode cX4_init 14 = .ok (.invokespecial 15, 3) := by decide +kernel
theorem dX4_init_17 : decode cX4_init 17 = .ok (.putfield 16, 3) := by decide +kernel
theorem dX4_init_20 : decode cX4_init 20 = .ok (.return_, 1) := by decide +kernel
set_option maxRecDepth 20000 in
theorem ggX4_forget_X2_clear : GoodIn wsX4_forget wsX2_clear := goodIn_r _ [6, 7, 10] (by decide +kernel) (by decide +kernel)
set_option maxRecDepth 20000 in
theorem gX4_forget_X2_clear : GoodIn wsX4_forget (wsV RX4 20 RX2 yX2_clear wsX2_clear) := goodIn_app (goodIn_of _ (by decide +kernel)) ggX4_forget_X2_clear
theorem dX4_forget_0 : decode cX4_forget 0 = .ok (.aload_n 0, 1) := by decide +kernel
theorem dX4_forget_1 : decode cX4_forget 1 = .ok (.getfield 16, 3) := by decide +kernel
theorem dX4_forget_4 : decode cX4_forget 4 = .ok (.invokevirtual 20, 3) := by decide +kernel
theorem dX4_forget_7 : decode cX4_forget 7 = .ok (.return_, 1) := by decide +kernel
set_option maxRecDepth 20000 in
theorem ggX4_mostOfSide0_X1_cardsLeft : GoodIn wsX4_mostOfSide0 wsX1_cardsLeft := goodIn_r _ [6, 7, 8, 172, 173, 174, 175, 176, 177, 178, 179] (by decide +kernel) (by decide +kernel)
set_option maxRecDepth 20000 in
theorem gX4_mostOfSide0_X1_cardsLeft : GoodIn wsX4_mostOfSide0 (wsV RX4 23 RX1 yX1_cardsLeft wsX1_cardsLeft) := goodIn_app (goodIn_of _ (by decide +kernel)) ggX4_mostOfSide0_X1_cardsLeft
set_option maxRecDepth 20000 in
theorem ggX4_mostOfSide0_X1_tricksLeft : GoodIn wsX4_mostOfSide0 wsX1_tricksLeft := goodIn_r _ [12, 7, 13, 14, 15, 5, 16, 8, 172, 173, 174, 175, 176, 177, 178, 179] (by decide +kernel) (by decide +kernel)
set_option maxRecDepth 20000 in
theorem gX4_mostOfSide0_X1_tricksLeft : GoodIn wsX4_mostOfSide0 (wsV RX4 29 RX1 yX1_tricksLeft wsX1_tricksLeft) := goodIn_app (goodIn_of _ (by decide +kernel)) ggX4_mostOfSide0_X1_tricksLeft
set_option maxRecDepth 20000 in
theorem ggX4_mostOfSide0_X4_search : GoodIn wsX4_mostOfSide0 wsX4_search := goodIn_r _ [21, 1, 22, 23, 24, 25, 26, 27, 28, 29, 30, 31, 32, 5, 33, 8, 34, 35, 36, 20, 37, 38, 39, 40, 41, 42, 43, 44, 45, 13, 14, 15, 16, 46, 47, 48, 49, 50, 51, 52, 53, 54, 55, 56, 57, 58, 59, 60, 61, 62, 63, 64, 65, 66, 67, 68, 69, 70, 71, 72, 73, 74, 75, 76, 77, 78, 79, 3, 4, 6, 7, 80, 81, 82, 83, 84, 85, 86, 87, 88, 89, 90, 91, 92, 93, 94, 95, 96, 97, 98, 99, 100, 101, 102, 103, 104, 105, 106, 107, 108, 109, 110, 111, 112, 113, 114, 115, 116, 117, 118, 119, 120, 121, 122, 123, 124, 125, 126, 127, 128, 129, 130, 131, 132, 133, 134, 135, 136, 137, 138, 139, 140, 141, 142, 143, 144, 145, 146, 147, 148, 149, 150, 151, 152, 153, 154, 155, 156, 157, 158, 159, 160, 161, 17, 18, 19, 162, 163, 164, 165, 166, 167, 168, 169, 170, 171, 172, 173, 174, 175, 176, 177, 178, 179, 180] (by decide +kernel) (by decide +kernel)
set_option maxRecDepth 20000 in
theorem gX4_mostOfSide0_X4_search : GoodIn wsX4_mostOfSide0 (wsV RX4 32 RX4 yX4_search wsX4_search) := goodIn_app (goodIn_of _ (by decide +kernel)) ggX4_mostOfSide0_X4_search
theorem dX4_mostOfSide0_0 : decode cX4_mostOfSide0 0 = .ok (.aload_n 0, 1) := by decide +kernel
theorem dX4_mostOfSide0_1 : decode cX4_mostOfSide0 1 = .ok (.aload_n 0, 1) := by decide +kernel
theorem dX4_mostOfSide0_2 : decode cX4_mostOfSide0 2 = .ok (.getfield 7, 3) := by decide +kernel
theorem dX4_mostOfSide0_5 : decode cX4_mostOfSide0 5 = .ok (.invokevirtual 23, 3) := by decide +kernel
theorem dX4_mostOfSide0_8 : decode cX4_mostOfSide0 8 = .ok (.iconst 0, 1) := by decide +kernel
theorem dX4_mostOfSide0_9 : decode cX4_mostOfSide0 9 = .ok (.aload_n 0, 1) := by decide +kernel
theorem dX4_mostOfSide0_10 : decode cX4_mostOfSide0 10 = .ok (.getfield 7, 3) := by decide +kernel
theorem dX4_mostOfSide0_13 : decode cX4_mostOfSide0 13 = .ok (.invokevirtual 29, 3) := by decide +kernel
theorem dX4_mostOfSide0_16 : decode cX4_mostOfSide0 16 = .ok (.invokevirtual 32, 3) := by decide +kernel
theorem dX4_mostOfSide0_19 : decode cX4_mostOfSide0 19 = .ok (.ireturn, 1) := by decide +kernel
set_option maxRecDepth 20000 in
theorem ggX4_worthOf_X1_tricksLeft : GoodIn wsX4_worthOf wsX1_tricksLeft := goodIn_r _ [6, 7, 8, 9, 10, 5, 11, 12, 172, 173, 174, 175, 176, 177, 178, 179] (by decide +kernel) (by decide +kernel)
set_option maxRecDepth 20000 in
theorem gX4_worthOf_X1_tricksLeft : GoodIn wsX4_worthOf (wsV RX4 29 RX1 yX1_tricksLeft wsX1_tricksLeft) := goodIn_app (goodIn_of _ (by decide +kernel)) ggX4_worthOf_X1_tricksLeft
set_option maxRecDepth 20000 in
theorem ggX4_worthOf_X1_mover : GoodIn wsX4_worthOf wsX1_mover := goodIn_r _ [16, 17, 18, 19, 20, 5, 21, 7, 12, 8, 9, 10, 11, 22, 23, 24, 25, 26, 27, 28, 29, 30, 172, 173, 174, 175, 176, 177, 178, 179] (by decide +kernel) (by decide +kernel)
set_option maxRecDepth 20000 in
theorem gX4_worthOf_X1_mover : GoodIn wsX4_worthOf (wsV RX4 36 RX1 yX1_mover wsX1_mover) := goodIn_app (goodIn_of _ (by decide +kernel)) ggX4_worthOf_X1_mover
set_option maxRecDepth 20000 in
theorem ggX4_worthOf_X0_sideOf : GoodIn wsX4_worthOf wsX0_sideOf := goodIn_r _ [34] (by decide +kernel) (by decide +kernel)
set_option maxRecDepth 20000 in
theorem gX4_worthOf_X0_sideOf : GoodIn wsX4_worthOf (va_wsS RX4 39 yX0_sideOf wsX0_sideOf) := goodIn_app (goodIn_of _ (by decide +kernel)) ggX4_worthOf_X0_sideOf
set_option maxRecDepth 20000 in
theorem ggX4_worthOf_X1_lay : GoodIn wsX4_worthOf wsX1_lay := goodIn_r _ [38, 12, 39, 40, 14, 15, 5, 16, 17, 18, 19, 20, 21, 7, 8, 9, 10, 11, 22, 23, 24, 25, 26, 27, 28, 29, 30, 41, 42, 43, 44, 45, 46, 47, 48, 49, 50, 51, 52, 53, 54, 55, 56, 57, 58, 172, 173, 174, 175, 176, 177, 178, 179] (by decide +kernel) (by decide +kernel)
set_option maxRecDepth 20000 in
theorem gX4_worthOf_X1_lay : GoodIn wsX4_worthOf (wsV RX4 45 RX1 yX1_lay wsX1_lay) := goodIn_app (goodIn_of _ (by decide +kernel)) ggX4_worthOf_X1_lay
set_option maxRecDepth 20000 in
theorem ggX4_worthOf_X4_gainOf : GoodIn wsX4_worthOf wsX4_gainOf := goodIn_r _ [62, 31, 32, 33, 34] (by decide +kernel) (by decide +kernel)
set_option maxRecDepth 20000 in
theorem gX4_worthOf_X4_gainOf : GoodIn wsX4_worthOf (va_wsS RX4 48 yX4_gainOf wsX4_gainOf) := goodIn_app (goodIn_of _ (by decide +kernel)) ggX4_worthOf_X4_gainOf
set_option maxRecDepth 20000 in
theorem ggX4_worthOf_X1_cardsLeft : GoodIn wsX4_worthOf wsX1_cardsLeft := goodIn_r _ [21, 7, 12, 172, 173, 174, 175, 176, 177, 178, 179] (by decide +kernel) (by decide +kernel)
set_option maxRecDepth 20000 in
theorem gX4_worthOf_X1_cardsLeft : GoodIn wsX4_worthOf (wsV RX4 23 RX1 yX1_cardsLeft wsX1_cardsLeft) := goodIn_app (goodIn_of _ (by decide +kernel)) ggX4_worthOf_X1_cardsLeft
set_option maxRecDepth 20000 in
theorem ggX4_worthOf_X4_search : GoodIn wsX4_worthOf wsX4_search := goodIn_r _ [67, 1, 68, 69, 70, 71, 72, 73, 74, 75, 76, 28, 29, 5, 30, 12, 77, 78, 79, 61, 80, 81, 82, 83, 84, 85, 86, 87, 45, 8, 9, 10, 11, 22, 23, 24, 25, 26, 88, 89, 90, 91, 92, 93, 94, 95, 96, 97, 98, 99, 100, 101, 102, 103, 104, 105, 106, 107, 108, 109, 110, 13, 14, 15, 16, 17, 18, 19, 20, 21, 7, 27, 31, 32, 33, 34, 111, 112, 113, 114, 40, 115, 116, 117, 118, 119, 120, 121, 122, 50, 51, 52, 53, 39, 123, 124, 125, 126, 127, 128, 129, 130, 131, 132, 133, 134, 135, 136, 137, 138, 139, 140, 141, 142, 143, 144, 145, 146, 147, 148, 149, 150, 151, 152, 153, 154, 155, 156, 157, 158, 159, 160, 161, 35, 36, 37, 38, 41, 42, 43, 44, 46, 47, 48, 49, 54, 55, 56, 57, 58, 59, 60, 62, 64, 65, 66, 162, 163, 164, 165, 166, 167, 168, 169, 170, 171, 172, 173, 174, 175, 176, 177, 178, 179, 180] (by decide +kernel) (by decide +kernel)
set_option maxRecDepth 20000 in
theorem gX4_worthOf_X4_search : GoodIn wsX4_worthOf (wsV RX4 32 RX4 yX4_search wsX4_search) := goodIn_app (goodIn_of _ (by decide +kernel)) ggX4_worthOf_X4_search
set_option maxRecDepth 20000 in
theorem ggX4_worthOf_X1_lift : GoodIn wsX4_worthOf wsX1_lift := goodIn_r _ [165, 12, 50, 51, 52, 5, 53, 39, 40, 14, 15, 16, 17, 18, 19, 20, 21, 7, 8, 9, 10, 11, 22, 23, 24, 25, 26, 27, 28, 29, 30, 166, 167, 168, 169, 45, 172, 173, 174, 175, 176, 177, 178, 179] (by decide +kernel) (by decide +kernel)
set_option maxRecDepth 20000 in
theorem gX4_worthOf_X1_lift : GoodIn wsX4_worthOf (wsV RX4 51 RX1 yX1_lift wsX1_lift) := goodIn_app (goodIn_of _ (by decide +kernel)) ggX4_worthOf_X1_lift
theorem dX4_worthOf_0 : decode cX4_worthOf 0 = .ok (.aload_n 0, 1) := by decide +kernel
theorem dX4_worthOf_1 : decode cX4_worthOf 1 = .ok (.getfield 7, 3) := by decide +kernel
theorem dX4_worthOf_4 : decode cX4_worthOf 4 = .ok (.invokevirtual 29, 3) := by decide +kernel
theorem dX4_worthOf_7 : decode cX4_worthOf 7 = .ok (.istore_n 2, 1) := by decide +kernel
theorem dX4_worthOf_8 : decode cX4_worthOf 8 = .ok (.aload_n 0, 1) := by decide +kernel
theorem dX4_worthOf_9 : decode cX4_worthOf 9 = .ok (.getfield 7, 3) := by decide +kernel
theorem dX4_worthOf_12 : decode cX4_worthOf 12 = .ok (.invokevirtual 36, 3) := by decide +kernel
theorem dX4_worthOf_15 : decode cX4_worthOf 15 = .ok (.invokestatic 39, 3) := by decide +kernel
theorem dX4_worthOf_18 : decode cX4_worthOf 18 = .ok (.istore_n 3, 1) := by decide +kernel
theorem dX4_worthOf_19 : decode cX4_worthOf 19 = .ok (.aload_n 0, 1) := by decide +kernel
theorem dX4_worthOf_20 : decode cX4_worthOf 20 = .ok (.getfield 7, 3) := by decide +kernel
theorem dX4_worthOf_23 : decode cX4_worthOf 23 = .ok (.iload_n 1, 1) := by decide +kernel
theorem dX4_worthOf_24 : decode cX4_worthOf 24 = .ok (.invokevirtual 45, 3) := by decide +kernel
theorem dX4_worthOf_27 : decode cX4_worthOf 27 = .ok (.invokestatic 48, 3) := by decide +kernel
theorem dX4_worthOf_30 : decode cX4_worthOf 30 = .ok (.istore 4, 2) := by decide +kernel
theorem dX4_worthOf_32 : decode cX4_worthOf 32 = .ok (.iload 4, 2) := by decide +kernel
theorem dX4_worthOf_34 : decode cX4_worthOf 34 = .ok (.aload_n 0, 1) := by decide +kernel
theorem dX4_worthOf_35 : decode cX4_worthOf 35 = .ok (.aload_n 0, 1) := by decide +kernel
theorem dX4_worthOf_36 : decode cX4_worthOf 36 = .ok (.getfield 7, 3) := by decide +kernel
theorem dX4_worthOf_39 : decode cX4_worthOf 39 = .ok (.invokevirtual 23, 3) := by decide +kernel
theorem dX4_worthOf_42 : decode cX4_worthOf 42 = .ok (.iconst 0, 1) := by decide +kernel
theorem dX4_worthOf_43 : decode cX4_worthOf 43 = .ok (.iload_n 2, 1) := by decide +kernel
theorem dX4_worthOf_44 : decode cX4_worthOf 44 = .ok (.invokevirtual 32, 3) := by decide +kernel
theorem dX4_worthOf_47 : decode cX4_worthOf 47 = .ok (.iadd, 1) := by decide +kernel
theorem dX4_worthOf_48 : decode cX4_worthOf 48 = .ok (.istore 5, 2) := by decide +kernel
theorem dX4_worthOf_50 : decode cX4_worthOf 50 = .ok (.aload_n 0, 1) := by decide +kernel
theorem dX4_worthOf_51 : decode cX4_worthOf 51 = .ok (.getfield 7, 3) := by decide +kernel
theorem dX4_worthOf_54 : decode cX4_worthOf 54 = .ok (.invokevirtual 51, 3) := by decide +kernel
theorem dX4_worthOf_57 : decode cX4_worthOf 57 = .ok (.pop, 1) := by decide +kernel
theorem dX4_worthOf_58 : decode cX4_worthOf 58 = .ok (.iload_n 3, 1) := by decide +kernel
theorem dX4_worthOf_59 : decode cX4_worthOf 59 = .ok (.ifCond .ne 8, 3) := by decide +kernel
theorem dX4_worthOf_62 : decode cX4_worthOf 62 = .ok (.iload 5, 2) := by decide +kernel
theorem dX4_worthOf_64 : decode cX4_worthOf 64 = .ok (.goto 7, 3) := by decide +kernel
theorem dX4_worthOf_67 : decode cX4_worthOf 67 = .ok (.iload_n 2, 1) := by decide +kernel
theorem dX4_worthOf_68 : decode cX4_worthOf 68 = .ok (.iload 5, 2) := by decide +kernel
theorem dX4_worthOf_70 : decode cX4_worthOf 70 = .ok (.isub, 1) := by decide +kernel
theorem dX4_worthOf_71 : decode cX4_worthOf 71 = .ok (.ireturn, 1) := by decide +kernel
set_option maxRecDepth 20000 in
theorem ggX4_bestPlay_X1_playable : GoodIn wsX4_bestPlay wsX1_playable := goodIn_r _ [6, 7, 8, 9, 5, 10, 11, 12, 13, 14, 15, 16, 17, 18, 19, 20, 21, 22, 23, 24, 25, 26, 27, 28, 29, 30, 31, 32, 33, 34, 35, 36, 37, 38, 39, 40, 41, 42, 43, 44, 45, 46, 47, 48, 49, 50, 51, 177, 178, 179, 180, 181, 182, 183, 184] (by decide +kernel) (by decide +kernel)
set_option maxRecDepth 20000 in
theorem gX4_bestPlay_X1_playable : GoodIn wsX4_bestPlay (wsV RX4 54 RX1 yX1_playable wsX1_playable) := goodIn_app (goodIn_of _ (by decide +kernel)) ggX4_bestPlay_X1_playable
set_option maxRecDepth 20000 in
theorem ggX4_bestPlay_X1_out : GoodIn wsX4_bestPlay wsX1_out := goodIn_r _ [55, 56, 57, 58, 59, 5, 60, 35, 61, 62, 63, 64, 17, 27, 28, 29, 30, 40, 41, 42, 43, 44, 177, 178, 179, 180, 181, 182, 183, 184] (by decide +kernel) (by decide +kernel)
set_option maxRecDepth 20000 in
theorem gX4_bestPlay_X1_out : GoodIn wsX4_bestPlay (wsV RX4 57 RX1 yX1_out wsX1_out) := goodIn_app (goodIn_of _ (by decide +kernel)) ggX4_bestPlay_X1_out
set_option maxRecDepth 20000 in
theorem ggX4_bestPlay_X0_lowestOfEquals : GoodIn wsX4_bestPlay wsX0_lowestOfEquals := goodIn_r _ [67, 68, 69, 47, 70, 71, 72, 73, 74, 75, 76, 77, 78, 79, 46, 48, 80, 81, 82] (by decide +kernel) (by decide +kernel)
set_option maxRecDepth 20000 in
theorem gX4_bestPlay_X0_lowestOfEquals : GoodIn wsX4_bestPlay (va_wsS RX4 60 yX0_lowestOfEquals wsX0_lowestOfEquals) := goodIn_app (goodIn_of _ (by decide +kernel)) ggX4_bestPlay_X0_lowestOfEquals
set_option maxRecDepth 20000 in
theorem ggX4_bestPlay_X0_lowest : GoodIn wsX4_bestPlay wsX0_lowest := goodIn_r _ [70, 71, 72, 73, 74, 75] (by decide +kernel) (by decide +kernel)
set_option maxRecDepth 20000 in
theorem gX4_bestPlay_X0_lowest : GoodIn wsX4_bestPlay (va_wsS RX4 64 yX0_lowest wsX0_lowest) := goodIn_app (goodIn_of _ (by decide +kernel)) ggX4_bestPlay_X0_lowest
set_option maxRecDepth 20000 in
theorem ggX4_bestPlay_X4_worthOf : GoodIn wsX4_bestPlay wsX4_worthOf := goodIn_r _ [88, 1, 89, 90, 91, 5, 92, 16, 18, 19, 20, 21, 17, 93, 8, 9, 10, 11, 12, 13, 14, 15, 22, 23, 24, 25, 26, 27, 28, 29, 30, 94, 95, 47, 96, 97, 98, 99, 100, 44, 7, 101, 102, 103, 104, 35, 105, 106, 107, 108, 40, 41, 42, 43, 109, 110, 111, 112, 113, 114, 115, 87, 116, 117, 118, 119, 120, 121, 122, 123, 124, 125, 126, 127, 128, 129, 130, 131, 132, 133, 134, 135, 136, 137, 57, 58, 59, 60, 138, 139, 140, 141, 142, 143, 144, 145, 146, 147, 148, 149, 150, 151, 152, 153, 154, 155, 156, 157, 158, 159, 160, 2, 3, 4, 6, 31, 32, 33, 34, 36, 37, 38, 39, 45, 46, 48, 49, 50, 51, 52, 53, 54, 55, 56, 61, 62, 63, 64, 65, 66, 67, 68, 69, 70, 71, 72, 73, 74, 75, 76, 77, 78, 79, 80, 81, 82, 161, 162, 163, 164, 165, 166, 167, 168, 169, 170, 171, 172, 173, 174, 175, 176, 177, 178, 179, 180, 181, 182, 183, 184, 185] (by decide +kernel) (by decide +kernel)
set_option maxRecDepth 20000 in
theorem gX4_bestPlay_X4_worthOf : GoodIn wsX4_bestPlay (wsV RX4 67 RX4 yX4_worthOf wsX4_worthOf) := goodIn_app (goodIn_of _ (by decide +kernel)) ggX4_bestPlay_X4_worthOf
theorem dX4_bestPlay_0 : decode cX4_bestPlay 0 = .ok (.aload_n 0, 1) := by decide +kernel
theorem dX4_bestPlay_1 : decode cX4_bestPlay 1 = .ok (.getfield 7, 3) := by decide +kernel
theorem dX4_bestPlay_4 : decode cX4_bestPlay 4 = .ok (.invokevirtual 54, 3) := by decide +kernel
theorem dX4_bestPlay_7 : decode cX4_bestPlay 7 = .ok (.aload_n 0, 1) := by decide +kernel
theorem dX4_bestPlay_8 : decode cX4_bestPlay 8 = .ok (.getfield 7, 3) := by decide +kernel
theorem dX4_bestPlay_11 : decode cX4_bestPlay 11 = .ok (.invokevirtual 57, 3) := by decide +kernel
theorem dX4_bestPlay_14 : decode cX4_bestPlay 14 = .ok (.invokestatic 60, 3) := by decide +kernel
theorem dX4_bestPlay_17 : decode cX4_bestPlay 17 = .ok (.istore_n 1, 1) := by decide +kernel
theorem dX4_bestPlay_18 : decode cX4_bestPlay 18 = .ok (.iconst (-1), 1) := by decide +kernel
theorem dX4_bestPlay_19 : decode cX4_bestPlay 19 = .ok (.istore_n 2, 1) := by decide +kernel
theorem dX4_bestPlay_20 : decode cX4_bestPlay 20 = .ok (.iconst (-1), 1) := by decide +kernel
theorem dX4_bestPlay_21 : decode cX4_bestPlay 21 = .ok (.istore_n 3, 1) := by decide +kernel
theorem dX4_bestPlay_22 : decode cX4_bestPlay 22 = .ok (.iconst 0, 1) := by decide +kernel
theorem dX4_bestPlay_23 : decode cX4_bestPlay 23 = .ok (.istore 4, 2) := by decide +kernel
theorem dX4_bestPlay_25 : decode cX4_bestPlay 25 = .ok (.iload 4, 2) := by decide +kernel
theorem dX4_bestPlay_27 : decode cX4_bestPlay 27 = .ok (.iconst 4, 1) := by decide +kernel
theorem dX4_bestPlay_28 : decode cX4_bestPlay 28 = .ok (.if_icmp .ge 48, 3) := by decide +kernel
theorem dX4_bestPlay_31 : decode cX4_bestPlay 31 = .ok (.iload_n 1, 1) := by decide +kernel
theorem dX4_bestPlay_32 : decode cX4_bestPlay 32 = .ok (.ifCond .eq 44, 3) := by decide +kernel
theorem dX4_bestPlay_35 : decode cX4_bestPlay 35 = .ok (.iload_n 1, 1) := by decide +kernel
theorem dX4_bestPlay_36 : decode cX4_bestPlay 36 = .ok (.invokestatic 64, 3) := by decide +kernel
theorem dX4_bestPlay_39 : decode cX4_bestPlay 39 = .ok (.istore 5, 2) := by decide +kernel
theorem dX4_bestPlay_41 : decode cX4_bestPlay 41 = .ok (.iload_n 1, 1) := by decide +kernel
theorem dX4_bestPlay_42 : decode cX4_bestPlay 42 = .ok (.iconst 1, 1) := by decide +kernel
theorem dX4_bestPlay_43 : decode cX4_bestPlay 43 = .ok (.iload 5, 2) := by decide +kernel
theorem dX4_bestPlay_45 : decode cX4_bestPlay 45 = .ok (.ishl, 1) := by decide +kernel
theorem dX4_bestPlay_46 : decode cX4_bestPlay 46 = .ok (.iconst (-1), 1) := by decide +kernel
theorem dX4_bestPlay_47 : decode cX4_bestPlay 47 = .ok (.ixor, 1) := by decide +kernel
theorem dX4_bestPlay_48 : decode cX4_bestPlay 48 = .ok (.iand, 1) := by decide +kernel
theorem dX4_bestPlay_49 : decode cX4_bestPlay 49 = .ok (.istore_n 1, 1) := by decide +kernel
theorem dX4_bestPlay_50 : decode cX4_bestPlay 50 = .ok (.aload_n 0, 1) := by decide +kernel
theorem dX4_bestPlay_51 : decode cX4_bestPlay 51 = .ok (.iload 5, 2) := by decide +kernel
theorem dX4_bestPlay_53 : decode cX4_bestPlay 53 = .ok (.invokevirtual 67, 3) := by decide +kernel
theorem dX4_bestPlay_56 : decode cX4_bestPlay 56 = .ok (.istore 6, 2) := by decide +kernel
theorem dX4_bestPlay_58 : decode cX4_bestPlay 58 = .ok (.iload 6, 2) := by decide +kernel
theorem dX4_bestPlay_60 : decode cX4_bestPlay 60 = .ok (.iload_n 3, 1) := by decide +kernel
theorem dX4_bestPlay_61 : decode cX4_bestPlay 61 = .ok (.if_icmp .le 9, 3) := by decide +kernel
theorem dX4_bestPlay_64 : decode cX4_bestPlay 64 = .ok (.iload 6, 2) := by decide +kernel
theorem dX4_bestPlay_66 : decode cX4_bestPlay 66 = .ok (.istore_n 3, 1) := by decide +kernel
theorem dX4_bestPlay_67 : decode cX4_bestPlay 67 = .ok (.iload 5, 2) := by decide +kernel
theorem dX4_bestPlay_69 : decode cX4_bestPlay 69 = .ok (.istore_n 2, 1) := by decide +kernel
theorem dX4_bestPlay_70 : decode cX4_bestPlay 70 = .ok (.iinc 4 1, 3) := by decide +kernel
theorem dX4_bestPlay_73 : decode cX4_bestPlay 73 = .ok (.goto (-48), 3) := by decide +kernel
theorem dX4_bestPlay_76 : decode cX4_bestPlay 76 = .ok (.iload_n 2, 1) := by decide +kernel
theorem dX4_bestPlay_77 : decode cX4_bestPlay 77 = .ok (.ireturn, 1) := by decide +kernel
set_option maxRecDepth 20000 in
theorem ggX4_gainOf_X0_sideOf : GoodIn wsX4_gainOf wsX0_sideOf := goodIn_r _ [4] (by decide +kernel) (by decide +kernel)
set_option maxRecDepth 20000 in
theorem gX4_gainOf_X0_sideOf : GoodIn wsX4_gainOf (va_wsS RX4 39 yX0_sideOf wsX0_sideOf) := goodIn_app (goodIn_of _ (by decide +kernel)) ggX4_gainOf_X0_sideOf
theorem dX4_gainOf_0 : decode cX4_gainOf 0 = .ok (.iload_n 0, 1) := by decide +kernel
theorem dX4_gainOf_1 : decode cX4_gainOf 1 = .ok (.iconst (-1), 1) := by decide +kernel
theorem dX4_gainOf_2 : decode cX4_gainOf 2 = .ok (.if_icmp .eq 14, 3) := by decide +kernel
theorem dX4_gainOf_5 : decode cX4_gainOf 5 = .ok (.iload_n 0, 1) := by decide +kernel
theorem dX4_gainOf_6 : decode cX4_gainOf 6 = .ok (.invokestatic 39, 3) := by decide +kernel
theorem dX4_gainOf_9 : decode cX4_gainOf 9 = .ok (.ifCond .ne 7, 3) := by decide +kernel
theorem dX4_gainOf_12 : decode cX4_gainOf 12 = .ok (.iconst 1, 1) := by decide +kernel
theorem dX4_gainOf_13 : decode cX4_gainOf 13 = .ok (.goto 4, 3) := by decide +kernel
theorem dX4_gainOf_16 : decode cX4_gainOf 16 = .ok (.iconst 0, 1) := by decide +kernel
theorem dX4_gainOf_17 : decode cX4_gainOf 17 = .ok (.ireturn, 1) := by decide +kernel
set_option maxRecDepth 20000 in
theorem ggX4_search_X1_trickSize : GoodIn wsX4_search wsX1_trickSize := goodIn_r _ [14, 15, 166, 167, 168, 169, 170, 171, 172, 173] (by decide +kernel) (by decide +kernel)
set_option maxRecDepth 20000 in
theorem gX4_search_X1_trickSize : GoodIn wsX4_search (wsV RX4 70 RX1 yX1_trickSize wsX1_trickSize) := goodIn_app (goodIn_of _ (by decide +kernel)) ggX4_search_X1_trickSize
set_option maxRecDepth 20000 in
theorem ggX4_search_X4_tryPlays : GoodIn wsX4_search wsX4_tryPlays := goodIn_r _ [60, 1, 3, 4, 5, 6, 7, 8, 9, 61, 62, 63, 13, 64, 65, 66, 67, 68, 69, 70, 15, 29, 30, 31, 32, 33, 34, 35, 36, 37, 71, 11, 12, 14, 72, 73, 74, 75, 76, 77, 78, 79, 80, 81, 82, 83, 84, 28, 85, 86, 87, 88, 89, 90, 91, 92, 93, 94, 95, 96, 97, 98, 99, 100, 101, 102, 103, 104, 24, 25, 26, 27, 105, 106, 107, 108, 109, 110, 111, 112, 113, 114, 115, 116, 117, 118, 119, 120, 121, 122, 123, 124, 125, 126, 127, 128, 129, 130, 131, 132, 133, 134, 135, 136, 137, 138, 139, 140, 141, 142, 143, 144, 145, 146, 147, 148, 149, 150, 151, 19, 152, 153, 154, 155, 156, 157, 158, 159, 160, 161, 162, 163, 0, 2, 10, 16, 17, 18, 20, 21, 22, 23, 38, 39, 40, 41, 42, 43, 44, 45, 46, 47, 48, 49, 50, 51, 52, 53, 54, 55, 56, 57, 58, 59, 164, 165, 166, 167, 168, 169, 170, 171, 172, 173, 174] (by decide +kernel) (by decide +kernel)
set_option maxRecDepth 20000 in
theorem gX4_search_X4_tryPlays : GoodIn wsX4_search (wsV RX4 73 RX4 yX4_tryPlays wsX4_tryPlays) := goodIn_app (goodIn_of _ (by decide +kernel)) ggX4_search_X4_tryPlays
set_option maxRecDepth 20000 in
theorem ggX4_search_X1_betweenTricks : GoodIn wsX4_search wsX1_betweenTricks := goodIn_r _ [23, 24, 25, 26, 13, 27, 28, 29, 30, 31, 32, 15, 33, 34, 35, 36, 37, 166, 167, 168, 169, 170, 171, 172, 173] (by decide +kernel) (by decide +kernel)
set_option maxRecDepth 20000 in
theorem gX4_search_X1_betweenTricks : GoodIn wsX4_search (wsV RX4 76 RX1 yX1_betweenTricks wsX1_betweenTricks) := goodIn_app (goodIn_of _ (by decide +kernel)) ggX4_search_X1_betweenTricks
set_option maxRecDepth 20000 in
theorem ggX4_search_X2_leastAt : GoodIn wsX4_search wsX2_leastAt := goodIn_r _ [42, 43, 44, 45, 41, 46, 47, 48, 49, 50, 51, 174] (by decide +kernel) (by decide +kernel)
set_option maxRecDepth 20000 in
theorem gX4_search_X2_leastAt : GoodIn wsX4_search (wsV RX4 79 RX2 yX2_leastAt wsX2_leastAt) := goodIn_app (goodIn_of _ (by decide +kernel)) ggX4_search_X2_leastAt
set_option maxRecDepth 20000 in
theorem ggX4_search_X2_mostAt : GoodIn wsX4_search wsX2_mostAt := goodIn_r _ [55, 43, 44, 45, 41, 46, 47, 48, 49, 50, 51, 174] (by decide +kernel) (by decide +kernel)
set_option maxRecDepth 20000 in
theorem gX4_search_X2_mostAt : GoodIn wsX4_search (wsV RX4 82 RX2 yX2_mostAt wsX2_mostAt) := goodIn_app (goodIn_of _ (by decide +kernel)) ggX4_search_X2_mostAt
set_option maxRecDepth 20000 in
theorem ggX4_search_X2_put : GoodIn wsX4_search wsX2_put := goodIn_r _ [59, 47, 48, 49, 41, 50, 51, 174] (by decide +kernel) (by decide +kernel)
set_option maxRecDepth 20000 in
theorem gX4_search_X2_put : GoodIn wsX4_search (wsV RX4 93 RX2 yX2_put wsX2_put) := goodIn_app (goodIn_of _ (by decide +kernel)) ggX4_search_X2_put
theorem dX4_search_0 : decode cX4_search 0 = .ok (.iload_n 1, 1) := by decide +kernel
theorem dX4_search_1 : decode cX4_search 1 = .ok (.ifCond .gt 5, 3) := by decide +kernel
theorem dX4_search_4 : decode cX4_search 4 = .ok (.iconst 0, 1) := by decide +kernel
theorem dX4_search_5 : decode cX4_search 5 = .ok (.ireturn, 1) := by decide +kernel
theorem dX4_search_6 : decode cX4_search 6 = .ok (.aload_n 0, 1) := by decide +kernel
theorem dX4_search_7 : decode cX4_search 7 = .ok (.getfield 7, 3) := by decide +kernel
theorem dX4_search_10 : decode cX4_search 10 = .ok (.invokevirtual 70, 3) := by decide +kernel
theorem dX4_search_13 : decode cX4_search 13 = .ok (.ifCond .eq 11, 3) := by decide +kernel
theorem dX4_search_16 : decode cX4_search 16 = .ok (.aload_n 0, 1) := by decide +kernel
theorem dX4_search_17 : decode cX4_search 17 = .ok (.iload_n 1, 1) := by decide +kernel
theorem dX4_search_18 : decode cX4_search 18 = .ok (.iload_n 2, 1) := by decide +kernel
theorem dX4_search_19 : decode cX4_search 19 = .ok (.iload_n 3, 1) := by decide +kernel
theorem dX4_search_20 : decode cX4_search 20 = .ok (.invokevirtual 73, 3) := by decide +kernel
theorem dX4_search_23 : decode cX4_search 23 = .ok (.ireturn, 1) := by decide +kernel
theorem dX4_search_24 : decode cX4_search 24 = .ok (.aload_n 0, 1) := by decide +kernel
theorem dX4_search_25 : decode cX4_search 25 = .ok (.getfield 7, 3) := by decide +kernel
theorem dX4_search_28 : decode cX4_search 28 = .ok (.invokevirtual 76, 3) := by decide +kernel
theorem dX4_search_31 : decode cX4_search 31 = .ok (.istore 4, 2) := by decide +kernel
theorem dX4_search_33 : decode cX4_search 33 = .ok (.aload_n 0, 1) := by decide +kernel
theorem dX4_search_34 : decode cX4_search 34 = .ok (.getfield 16, 3) := by decide +kernel
theorem dX4_search_37 : decode cX4_search 37 = .ok (.iload 4, 2) := by decide +kernel
theorem dX4_search_39 : decode cX4_search 39 = .ok (.invokevirtual 79, 3) := by decide +kernel
theorem dX4_search_42 : decode cX4_search 42 = .ok (.istore 5, 2) := by decide +kernel
theorem dX4_search_44 : decode cX4_search 44 = .ok (.aload_n 0, 1) := by decide +kernel
theorem dX4_search_45 : decode cX4_search 45 = .ok (.getfield 16, 3) := by decide +kernel
theorem dX4_search_48 : decode cX4_search 48 = .ok (.iload 4, 2) := by decide +kernel
theorem dX4_search_50 : decode cX4_search 50 = .ok (.iload_n 1, 1) := by decide +kernel
theorem dX4_search_51 : decode cX4_search 51 = .ok (.iconst 4, 1) := by decide +kernel
theorem dX4_search_52 : decode cX4_search 52 = .ok (.idiv, 1) := by decide +kernel
theorem dX4_search_53 : decode cX4_search 53 = .ok (.invokevirtual 82, 3) := by decide +kernel
theorem dX4_search_56 : decode cX4_search 56 = .ok (.istore 6, 2) := by decide +kernel
theorem dX4_search_58 : decode cX4_search 58 = .ok (.iload 5, 2) := by decide +kernel
theorem dX4_search_60 : decode cX4_search 60 = .ok (.iload_n 3, 1) := by decide +kernel
theorem dX4_search_61 : decode cX4_search 61 = .ok (.if_icmp .ge 10, 3) := by decide +kernel
theorem dX4_search_64 : decode cX4_search 64 = .ok (.iload 5, 2) := by decide +kernel
theorem dX4_search_66 : decode cX4_search 66 = .ok (.iload 6, 2) := by decide +kernel
theorem dX4_search_68 : decode cX4_search 68 = .ok (.if_icmp .ne 6, 3) := by decide +kernel
theorem dX4_search_71 : decode cX4_search 71 = .ok (.iload 5, 2) := by decide +kernel
theorem dX4_search_73 : decode cX4_search 73 = .ok (.ireturn, 1) := by decide +kernel
theorem dX4_search_74 : decode cX4_search 74 = .ok (.iload 6, 2) := by decide +kernel
theorem dX4_search_76 : decode cX4_search 76 = .ok (.iload_n 2, 1) := by decide +kernel
theorem dX4_search_77 : decode cX4_search 77 = .ok (.if_icmp .gt 6, 3) := by decide +kernel
theorem dX4_search_80 : decode cX4_search 80 = .ok (.iload 6, 2) := by decide +kernel
theorem dX4_search_82 : decode cX4_search 82 = .ok (.ireturn, 1) := by decide +kernel
theorem dX4_search_83 : decode cX4_search 83 = .ok (.iload_n 2, 1) := by decide +kernel
theorem dX4_search_84 : decode cX4_search 84 = .ok (.iload 5, 2) := by decide +kernel
theorem dX4_search_86 : decode cX4_search 86 = .ok (.invokestatic 85, 3) := by decide +kernel
theorem dX4_search_89 : decode cX4_search 89 = .ok (.istore 7, 2) := by decide +kernel
theorem dX4_search_91 : decode cX4_search 91 = .ok (.iload_n 3, 1) := by decide +kernel
theorem dX4_search_92 : decode cX4_search 92 = .ok (.iload 6, 2) := by decide +kernel
theorem dX4_search_94 : decode cX4_search 94 = .ok (.invokestatic 90, 3) := by decide +kernel
theorem dX4_search_97 : decode cX4_search 97 = .ok (.istore 8, 2) := by decide +kernel
theorem dX4_search_99 : decode cX4_search 99 = .ok (.aload_n 0, 1) := by decide +kernel
theorem dX4_search_100 : decode cX4_search 100 = .ok (.iload_n 1, 1) := by decide +kernel
theorem dX4_search_101 : decode cX4_search 101 = .ok (.iload 7, 2) := by decide +kernel
theorem dX4_search_103 : decode cX4_search 103 = .ok (.iload 8, 2) := by decide +kernel
theorem dX4_search_105 : decode cX4_search 105 = .ok (.invokevirtual 73, 3) := by decide +kernel
theorem dX4_search_108 : decode cX4_search 108 = .ok (.istore 9, 2) := by decide +kernel
theorem dX4_search_110 : decode cX4_search 110 = .ok (.aload_n 0, 1) := by decide +kernel
theorem dX4_search_111 : decode cX4_search 111 = .ok (.getfield 16, 3) := by decide +kernel
theorem dX4_search_114 : decode cX4_search 114 = .ok (.iload 4, 2) := by decide +kernel
theorem dX4_search_116 : decode cX4_search 116 = .ok (.iload 9, 2) := by decide +kernel
theorem dX4_search_118 : decode cX4_search 118 = .ok (.iload 7, 2) := by decide +kernel
theorem dX4_search_120 : decode cX4_search 120 = .ok (.if_icmp .le 8, 3) := by decide +kernel
theorem dX4_search_123 : decode cX4_search 123 = .ok (.iload 9, 2) := by decide +kernel
theorem dX4_search_125 : decode cX4_search 125 = .ok (.goto 5, 3) := by decide +kernel
theorem dX4_search_128 : decode cX4_search 128 = .ok (.iload 5, 2) := by decide +kernel
theorem dX4_search_130 : decode cX4_search 130 = .ok (.iload 9, 2) := by decide +kernel
theorem dX4_search_132 : decode cX4_search 132 = .ok (.iload 8, 2) := by decide +kernel
theorem dX4_search_134 : decode cX4_search 134 = .ok (.if_icmp .ge 8, 3) := by decide +kernel
theorem dX4_search_137 : decode cX4_search 137 = .ok (.iload 9, 2) := by decide +kernel
theorem dX4_search_139 : decode cX4_search 139 = .ok (.goto 5, 3) := by decide +kernel
theorem dX4_search_142 : decode cX4_search 142 = .ok (.iload 6, 2) := by decide +kernel
theorem dX4_search_144 : decode cX4_search 144 = .ok (.invokevirtual 93, 3) := by decide +kernel
theorem dX4_search_147 : decode cX4_search 147 = .ok (.iload 9, 2) := by decide +kernel
theorem dX4_search_149 : decode cX4_search 149 = .ok (.ireturn, 1) := by decide +kernel
set_option maxRecDepth 20000 in
theorem ggX4_tryPlays_X1_mover : GoodIn wsX4_tryPlays wsX1_mover := goodIn_r _ [13, 14, 15, 16, 17, 12, 18, 19, 20, 21, 22, 23, 24, 25, 26, 27, 28, 29, 30, 31, 32, 33, 166, 167, 168, 169, 170, 171, 172, 173] (by decide +kernel) (by decide +kernel)
set_option maxRecDepth 20000 in
theorem gX4_tryPlays_X1_mover : GoodIn wsX4_tryPlays (wsV RX4 36 RX1 yX1_mover wsX1_mover) := goodIn_app (goodIn_of _ (by decide +kernel)) ggX4_tryPlays_X1_mover
set_option maxRecDepth 20000 in
theorem ggX4_tryPlays_X0_sideOf : GoodIn wsX4_tryPlays wsX0_sideOf := goodIn_r _ [37] (by decide +kernel) (by decide +kernel)
set_option maxRecDepth 20000 in
theorem gX4_tryPlays_X0_sideOf : GoodIn wsX4_tryPlays (va_wsS RX4 39 yX0_sideOf wsX0_sideOf) := goodIn_app (goodIn_of _ (by decide +kernel)) ggX4_tryPlays_X0_sideOf
set_option maxRecDepth 20000 in
theorem ggX4_tryPlays_X1_playable : GoodIn wsX4_tryPlays wsX1_playable := goodIn_r _ [41, 42, 10, 11, 12, 13, 14, 15, 16, 17, 18, 19, 20, 21, 22, 23, 24, 25, 26, 27, 28, 29, 30, 31, 32, 33, 43, 44, 45, 46, 47, 48, 49, 50, 51, 52, 53, 54, 55, 56, 57, 58, 36, 59, 60, 61, 62, 166, 167, 168, 169, 170, 171, 172, 173] (by decide +kernel) (by decide +kernel)
set_option maxRecDepth 20000 in
theorem gX4_tryPlays_X1_playable : GoodIn wsX4_tryPlays (wsV RX4 54 RX1 yX1_playable wsX1_playable) := goodIn_app (goodIn_of _ (by decide +kernel)) ggX4_tryPlays_X1_playable
set_option maxRecDepth 20000 in
theorem ggX4_tryPlays_X1_out : GoodIn wsX4_tryPlays wsX1_out := goodIn_r _ [66, 67, 68, 69, 70, 12, 71, 47, 72, 73, 74, 75, 20, 30, 31, 32, 33, 52, 53, 54, 55, 56, 166, 167, 168, 169, 170, 171, 172, 173] (by decide +kernel) (by decide +kernel)
set_option maxRecDepth 20000 in
theorem gX4_tryPlays_X1_out : GoodIn wsX4_tryPlays (wsV RX4 57 RX1 yX1_out wsX1_out) := goodIn_app (goodIn_of _ (by decide +kernel)) ggX4_tryPlays_X1_out
set_option maxRecDepth 20000 in
theorem ggX4_tryPlays_X0_lowestOfEquals : GoodIn wsX4_tryPlays wsX0_lowestOfEquals := goodIn_r _ [78, 79, 80, 36, 81, 82, 83, 84, 85, 86, 87, 88, 89, 90, 58, 59, 91, 92, 93] (by decide +kernel) (by decide +kernel)
set_option maxRecDepth 20000 in
theorem gX4_tryPlays_X0_lowestOfEquals : GoodIn wsX4_tryPlays (va_wsS RX4 60 yX0_lowestOfEquals wsX0_lowestOfEquals) := goodIn_app (goodIn_of _ (by decide +kernel)) ggX4_tryPlays_X0_lowestOfEquals
set_option maxRecDepth 20000 in
theorem ggX4_tryPlays_X0_highest : GoodIn wsX4_tryPlays wsX0_highest := goodIn_r _ [96, 97, 98, 84, 99, 86] (by decide +kernel) (by decide +kernel)
set_option maxRecDepth 20000 in
theorem gX4_tryPlays_X0_highest : GoodIn wsX4_tryPlays (va_wsS RX4 97 yX0_highest wsX0_highest) := goodIn_app (goodIn_of _ (by decide +kernel)) ggX4_tryPlays_X0_highest
set_option maxRecDepth 20000 in
theorem ggX4_tryPlays_X1_lay : GoodIn wsX4_tryPlays wsX1_lay := goodIn_r _ [103, 20, 56, 42, 10, 11, 12, 13, 14, 15, 16, 17, 18, 19, 21, 22, 23, 24, 25, 26, 27, 28, 29, 30, 31, 32, 33, 104, 105, 106, 107, 47, 108, 109, 110, 111, 52, 53, 54, 55, 112, 113, 114, 115, 116, 166, 167, 168, 169, 170, 171, 172, 173] (by decide +kernel) (by decide +kernel)
set_option maxRecDepth 20000 in
theorem gX4_tryPlays_X1_lay : GoodIn wsX4_tryPlays (wsV RX4 45 RX1 yX1_lay wsX1_lay) := goodIn_app (goodIn_of _ (by decide +kernel)) ggX4_tryPlays_X1_lay
set_option maxRecDepth 20000 in
theorem ggX4_tryPlays_X4_gainOf : GoodIn wsX4_tryPlays wsX4_gainOf := goodIn_r _ [120, 34, 35, 36, 37] (by decide +kernel) (by decide +kernel)
set_option maxRecDepth 20000 in
theorem gX4_tryPlays_X4_gainOf : GoodIn wsX4_tryPlays (va_wsS RX4 48 yX4_gainOf wsX4_gainOf) := goodIn_app (goodIn_of _ (by decide +kernel)) ggX4_tryPlays_X4_gainOf
set_option maxRecDepth 20000 in
theorem ggX4_tryPlays_X4_search : GoodIn wsX4_tryPlays wsX4_search := goodIn_r _ [132, 1, 133, 2, 3, 4, 5, 6, 7, 8, 134, 31, 32, 12, 33, 20, 135, 136, 137, 119, 138, 139, 140, 141, 68, 69, 70, 71, 47, 21, 22, 23, 24, 25, 26, 27, 28, 29, 142, 143, 144, 145, 146, 147, 148, 149, 150, 151, 152, 153, 154, 155, 156, 157, 158, 159, 160, 161, 162, 163, 0, 9, 10, 11, 13, 14, 15, 16, 17, 18, 19, 30, 34, 35, 36, 37, 38, 39, 40, 41, 42, 43, 44, 45, 46, 48, 49, 50, 51, 52, 53, 54, 55, 56, 57, 58, 59, 60, 61, 62, 63, 64, 65, 66, 67, 72, 73, 74, 75, 76, 77, 78, 79, 80, 81, 82, 83, 84, 85, 86, 87, 88, 89, 90, 91, 92, 93, 94, 95, 96, 97, 98, 99, 100, 101, 102, 103, 104, 105, 106, 107, 108, 109, 110, 111, 112, 113, 114, 115, 116, 117, 118, 120, 121, 122, 123, 124, 125, 126, 127, 128, 129, 130, 131, 164, 165, 166, 167, 168, 169, 170, 171, 172, 173, 174] (by decide +kernel) (by decide +kernel)
set_option maxRecDepth 20000 in
theorem gX4_tryPlays_X4_search : GoodIn wsX4_tryPlays (wsV RX4 32 RX4 yX4_search wsX4_search) := goodIn_app (goodIn_of _ (by decide +kernel)) ggX4_tryPlays_X4_search
set_option maxRecDepth 20000 in
theorem ggX4_tryPlays_X1_lift : GoodIn wsX4_tryPlays wsX1_lift := goodIn_r _ [127, 20, 52, 53, 54, 12, 55, 56, 42, 10, 11, 13, 14, 15, 16, 17, 18, 19, 21, 22, 23, 24, 25, 26, 27, 28, 29, 30, 31, 32, 33, 128, 129, 130, 131, 47, 166, 167, 168, 169, 170, 171, 172, 173] (by decide +kernel) (by decide +kernel)
set_option maxRecDepth 20000 in
theorem gX4_tryPlays_X1_lift : GoodIn wsX4_tryPlays (wsV RX4 51 RX1 yX1_lift wsX1_lift) := goodIn_app (goodIn_of _ (by decide +kernel)) ggX4_tryPlays_X1_lift
theorem dX4_tryPlays_0 : decode cX4_tryPlays 0 = .ok (.aload_n 0, 1) := by decide +kernel
theorem dX4_tryPlays_1 : decode cX4_tryPlays 1 = .ok (.getfield 7, 3) := by decide +kernel
theorem dX4_tryPlays_4 : decode cX4_tryPlays 4 = .ok (.invokevirtual 36, 3) := by decide +kernel
theorem dX4_tryPlays_7 : decode cX4_tryPlays 7 = .ok (.invokestatic 39, 3) := by decide +kernel
theorem dX4_tryPlays_10 : decode cX4_tryPlays 10 = .ok (.ifCond .ne 7, 3) := by decide +kernel
theorem dX4_tryPlays_13 : decode cX4_tryPlays 13 = .ok (.iconst 1, 1) := by decide +kernel
theorem dX4_tryPlays_14 : decode cX4_tryPlays 14 = .ok (.goto 4, 3) := by decide +kernel
theorem dX4_tryPlays_17 : decode cX4_tryPlays 17 = .ok (.iconst 0, 1) := by decide +kernel
theorem dX4_tryPlays_18 : decode cX4_tryPlays 18 = .ok (.istore 4, 2) := by decide +kernel
theorem dX4_tryPlays_20 : decode cX4_tryPlays 20 = .ok (.aload_n 0, 1) := by decide +kernel
theorem dX4_tryPlays_21 : decode cX4_tryPlays 21 = .ok (.getfield 7, 3) := by decide +kernel
theorem dX4_tryPlays_24 : decode cX4_tryPlays 24 = .ok (.invokevirtual 54, 3) := by decide +kernel
theorem dX4_tryPlays_27 : decode cX4_tryPlays 27 = .ok (.aload_n 0, 1) := by decide +kernel
theorem dX4_tryPlays_28 : decode cX4_tryPlays 28 = .ok (.getfield 7, 3) := by decide +kernel
theorem dX4_tryPlays_31 : decode cX4_tryPlays 31 = .ok (.invokevirtual 57, 3) := by decide +kernel
theorem dX4_tryPlays_34 : decode cX4_tryPlays 34 = .ok (.invokestatic 60, 3) := by decide +kernel
theorem dX4_tryPlays_37 : decode cX4_tryPlays 37 = .ok (.istore 5, 2) := by decide +kernel
theorem dX4_tryPlays_39 : decode cX4_tryPlays 39 = .ok (.iload_n 2, 1) := by decide +kernel
theorem dX4_tryPlays_40 : decode cX4_tryPlays 40 = .ok (.istore 6, 2) := by decide +kernel
theorem dX4_tryPlays_42 : decode cX4_tryPlays 42 = .ok (.iload_n 3, 1) := by decide +kernel
theorem dX4_tryPlays_43 : decode cX4_tryPlays 43 = .ok (.istore 7, 2) := by decide +kernel
theorem dX4_tryPlays_45 : decode cX4_tryPlays 45 = .ok (.iload 4, 2) := by decide +kernel
theorem dX4_tryPlays_47 : decode cX4_tryPlays 47 = .ok (.ifCond .eq 7, 3) := by decide +kernel
theorem dX4_tryPlays_50 : decode cX4_tryPlays 50 = .ok (.iconst (-1), 1) := by decide +kernel
theorem dX4_tryPlays_51 : decode cX4_tryPlays 51 = .ok (.goto 4, 3) := by decide +kernel
theorem dX4_tryPlays_54 : decode cX4_tryPlays 54 = .ok (.iconst 5, 1) := by decide +kernel
theorem dX4_tryPlays_55 : decode cX4_tryPlays 55 = .ok (.istore 8, 2) := by decide +kernel
theorem dX4_tryPlays_57 : decode cX4_tryPlays 57 = .ok (.iconst 0, 1) := by decide +kernel
theorem dX4_tryPlays_58 : decode cX4_tryPlays 58 = .ok (.istore 9, 2) := by decide +kernel
theorem dX4_tryPlays_60 : decode cX4_tryPlays 60 = .ok (.iload 9, 2) := by decide +kernel
theorem dX4_tryPlays_62 : decode cX4_tryPlays 62 = .ok (.iconst 4, 1) := by decide +kernel
theorem dX4_tryPlays_63 : decode cX4_tryPlays 63 = .ok (.if_icmp .ge 127, 3) := by decide +kernel
theorem dX4_tryPlays_66 : decode cX4_tryPlays 66 = .ok (.iload 5, 2) := by decide +kernel
theorem dX4_tryPlays_68 : decode cX4_tryPlays 68 = .ok (.ifCond .eq 122, 3) := by decide +kernel
theorem dX4_tryPlays_71 : decode cX4_tryPlays 71 = .ok (.iload 6, 2) := by decide +kernel
theorem dX4_tryPlays_73 : decode cX4_tryPlays 73 = .ok (.iload 7, 2) := by decide +kernel
theorem dX4_tryPlays_75 : decode cX4_tryPlays 75 = .ok (.if_icmp .ge 115, 3) := by decide +kernel
theorem dX4_tryPlays_78 : decode cX4_tryPlays 78 = .ok (.iload 5, 2) := by decide +kernel
theorem dX4_tryPlays_80 : decode cX4_tryPlays 80 = .ok (.invokestatic 97, 3) := by decide +kernel
theorem dX4_tryPlays_83 : decode cX4_tryPlays 83 = .ok (.istore 10, 2) := by decide +kernel
theorem dX4_tryPlays_85 : decode cX4_tryPlays 85 = .ok (.iload 5, 2) := by decide +kernel
theorem dX4_tryPlays_87 : decode cX4_tryPlays 87 = .ok (.iconst 1, 1) := by decide +kernel
theorem dX4_tryPlays_88 : decode cX4_tryPlays 88 = .ok (.iload 10, 2) := by decide +kernel
theorem dX4_tryPlays_90 : decode cX4_tryPlays 90 = .ok (.ishl, 1) := by decide +kernel
theorem dX4_tryPlays_91 : decode cX4_tryPlays 91 = .ok (.iconst (-1), 1) := by decide +kernel
theorem dX4_tryPlays_92 : decode cX4_tryPlays 92 = .ok (.ixor, 1) := by decide +kernel
theorem dX4_tryPlays_93 : decode cX4_tryPlays 93 = .ok (.iand, 1) := by decide +kernel
theorem dX4_tryPlays_94 : decode cX4_tryPlays 94 = .ok (.istore 5, 2) := by decide +kernel
theorem dX4_tryPlays_96 : decode cX4_tryPlays 96 = .ok (.aload_n 0, 1) := by decide +kernel
theorem dX4_tryPlays_97 : decode cX4_tryPlays 97 = .ok (.getfield 7, 3) := by decide +kernel
theorem dX4_tryPlays_100 : decode cX4_tryPlays 100 = .ok (.iload 10, 2) := by decide +kernel
theorem dX4_tryPlays_102 : decode cX4_tryPlays 102 = .ok (.invokevirtual 45, 3) := by decide +kernel
theorem dX4_tryPlays_105 : decode cX4_tryPlays 105 = .ok (.invokestatic 48, 3) := by decide +kernel
theorem dX4_tryPlays_108 : decode cX4_tryPlays 108 = .ok (.istore 11, 2) := by decide +kernel
theorem dX4_tryPlays_110 : decode cX4_tryPlays 110 = .ok (.iload 11, 2) := by decide +kernel
theorem dX4_tryPlays_112 : decode cX4_tryPlays 112 = .ok (.aload_n 0, 1) := by decide +kernel
theorem dX4_tryPlays_113 : decode cX4_tryPlays 113 = .ok (.iload_n 1, 1) := by decide +kernel
theorem dX4_tryPlays_114 : decode cX4_tryPlays 114 = .ok (.iconst 1, 1) := by decide +kernel
theorem dX4_tryPlays_115 : decode cX4_tryPlays 115 = .ok (.isub, 1) := by decide +kernel
theorem dX4_tryPlays_116 : decode cX4_tryPlays 116 = .ok (.iload 6, 2) := by decide +kernel
theorem dX4_tryPlays_118 : decode cX4_tryPlays 118 = .ok (.iload 11, 2) := by decide +kernel
theorem dX4_tryPlays_120 : decode cX4_tryPlays 120 = .ok (.isub, 1) := by decide +kernel
theorem dX4_tryPlays_121 : decode cX4_tryPlays 121 = .ok (.iload 7, 2) := by decide +kernel
theorem dX4_tryPlays_123 : decode cX4_tryPlays 123 = .ok (.iload 11, 2) := by decide +kernel
theorem dX4_tryPlays_125 : decode cX4_tryPlays 125 = .ok (.isub, 1) := by decide +kernel
theorem dX4_tryPlays_126 : decode cX4_tryPlays 126 = .ok (.invokevirtual 32, 3) := by decide +kernel
theorem dX4_tryPlays_129 : decode cX4_tryPlays 129 = .ok (.iadd, 1) := by decide +kernel
theorem dX4_tryPlays_130 : decode cX4_tryPlays 130 = .ok (.istore 12, 2) := by decide +kernel
theorem dX4_tryPlays_132 : decode cX4_tryPlays 132 = .ok (.aload_n 0, 1) := by decide +kernel
theorem dX4_tryPlays_133 : decode cX4_tryPlays 133 = .ok (.getfield 7, 3) := by decide +kernel
theorem dX4_tryPlays_136 : decode cX4_tryPlays 136 = .ok (.invokevirtual 51, 3) := by decide +kernel
theorem dX4_tryPlays_139 : decode cX4_tryPlays 139 = .ok (.pop, 1) := by decide +kernel
theorem dX4_tryPlays_140 : decode cX4_tryPlays 140 = .ok (.iload 4, 2) := by decide +kernel
theorem dX4_tryPlays_142 : decode cX4_tryPlays 142 = .ok (.ifCond .eq 24, 3) := by decide +kernel
theorem dX4_tryPlays_145 : decode cX4_tryPlays 145 = .ok (.iload 8, 2) := by decide +kernel
theorem dX4_tryPlays_147 : decode cX4_tryPlays 147 = .ok (.iload 12, 2) := by decide +kernel
theorem dX4_tryPlays_149 : decode cX4_tryPlays 149 = .ok (.invokestatic 85, 3) := by decide +kernel
theorem dX4_tryPlays_152 : decode cX4_tryPlays 152 = .ok (.istore 8, 2) := by decide +kernel
theorem dX4_tryPlays_154 : decode cX4_tryPlays 154 = .ok (.iload 6, 2) := by decide +kernel
theorem dX4_tryPlays_156 : decode cX4_tryPlays 156 = .ok (.iload 8, 2) := by decide +kernel
theorem dX4_tryPlays_158 : decode cX4_tryPlays 158 = .ok (.invokestatic 85, 3) := by decide +kernel
theorem dX4_tryPlays_161 : decode cX4_tryPlays 161 = .ok (.istore 6, 2) := by decide +kernel
theorem dX4_tryPlays_163 : decode cX4_tryPlays 163 = .ok (.goto 21, 3) := by decide +kernel
theorem dX4_tryPlays_166 : decode cX4_tryPlays 166 = .ok (.iload 8, 2) := by decide +kernel
theorem dX4_tryPlays_168 : decode cX4_tryPlays 168 = .ok (.iload 12, 2) := by decide +kernel
theorem dX4_tryPlays_170 : decode cX4_tryPlays 170 = .ok (.invokestatic 90, 3) := by decide +kernel
theorem dX4_tryPlays_173 : decode cX4_tryPlays 173 = .ok (.istore 8, 2) := by decide +kernel
theorem dX4_tryPlays_175 : decode cX4_tryPlays 175 = .ok (.iload 7, 2) := by decide +kernel
theorem dX4_tryPlays_177 : decode cX4_tryPlays 177 = .ok (.iload 8, 2) := by decide +kernel
theorem dX4_tryPlays_179 : decode cX4_tryPlays 179 = .ok (.invokestatic 90, 3) := by decide +kernel
theorem dX4_tryPlays_182 : decode cX4_tryPlays 182 = .ok (.istore 7, 2) := by decide +kernel
theorem dX4_tryPlays_184 : decode cX4_tryPlays 184 = .ok (.iinc 9 1, 3) := by decide +kernel
theorem dX4_tryPlays_187 : decode cX4_tryPlays 187 = .ok (.goto (-127), 3) := by decide +kernel
theorem dX4_tryPlays_190 : decode cX4_tryPlays 190 = .ok (.iload 8, 2) := by decide +kernel
theorem dX4_tryPlays_192 : decode cX4_tryPlays 192 = .ok (.ireturn, 1) := by decide +kernel
set_option maxRecDepth 20000 in
theorem ggX4_byAllPlays_X1_mover : GoodIn wsX4_byAllPlays wsX1_mover := goodIn_r _ [12, 13, 14, 15, 16, 11, 17, 18, 19, 20, 21, 22, 23, 24, 25, 26, 27, 28, 29, 30, 31, 32, 101, 102, 103, 104, 105, 106, 107, 108] (by decide +kernel) (by decide +kernel)
set_option maxRecDepth 20000 in
theorem gX4_byAllPlays_X1_mover : GoodIn wsX4_byAllPlays (wsV RX4 36 RX1 yX1_mover wsX1_mover) := goodIn_app (goodIn_of _ (by decide +kernel)) ggX4_byAllPlays_X1_mover
set_option maxRecDepth 20000 in
theorem ggX4_byAllPlays_X0_sideOf : GoodIn wsX4_byAllPlays wsX0_sideOf := goodIn_r _ [36] (by decide +kernel) (by decide +kernel)
set_option maxRecDepth 20000 in
theorem gX4_byAllPlays_X0_sideOf : GoodIn wsX4_byAllPlays (va_wsS RX4 39 yX0_sideOf wsX0_sideOf) := goodIn_app (goodIn_of _ (by decide +kernel)) ggX4_byAllPlays_X0_sideOf
set_option maxRecDepth 20000 in
theorem ggX4_byAllPlays_X1_playable : GoodIn wsX4_byAllPlays wsX1_playable := goodIn_r _ [40, 41, 9, 10, 11, 12, 13, 14, 15, 16, 17, 18, 19, 20, 21, 22, 23, 24, 25, 26, 27, 28, 29, 30, 31, 32, 42, 43, 44, 45, 46, 47, 48, 49, 50, 51, 52, 53, 54, 55, 56, 57, 35, 58, 59, 60, 61, 101, 102, 103, 104, 105, 106, 107, 108] (by decide +kernel) (by decide +kernel)
set_option maxRecDepth 20000 in
theorem gX4_byAllPlays_X1_playable : GoodIn wsX4_byAllPlays (wsV RX4 54 RX1 yX1_playable wsX1_playable) := goodIn_app (goodIn_of _ (by decide +kernel)) ggX4_byAllPlays_X1_playable
set_option maxRecDepth 20000 in
theorem ggX4_byAllPlays_X0_lowest : GoodIn wsX4_byAllPlays wsX0_lowest := goodIn_r _ [64, 65, 66, 67, 68, 69] (by decide +kernel) (by decide +kernel)
set_option maxRecDepth 20000 in
theorem gX4_byAllPlays_X0_lowest : GoodIn wsX4_byAllPlays (va_wsS RX4 64 yX0_lowest wsX0_lowest) := goodIn_app (goodIn_of _ (by decide +kernel)) ggX4_byAllPlays_X0_lowest
set_option maxRecDepth 20000 in
theorem ggX4_byAllPlays_X1_lay : GoodIn wsX4_byAllPlays wsX1_lay := goodIn_r _ [73, 19, 55, 41, 9, 10, 11, 12, 13, 14, 15, 16, 17, 18, 20, 21, 22, 23, 24, 25, 26, 27, 28, 29, 30, 31, 32, 74, 75, 76, 77, 46, 78, 79, 80, 81, 51, 52, 53, 54, 82, 83, 84, 85, 86, 101, 102, 103, 104, 105, 106, 107, 108] (by decide +kernel) (by decide +kernel)
set_option maxRecDepth 20000 in
theorem gX4_byAllPlays_X1_lay : GoodIn wsX4_byAllPlays (wsV RX4 45 RX1 yX1_lay wsX1_lay) := goodIn_app (goodIn_of _ (by decide +kernel)) ggX4_byAllPlays_X1_lay
set_option maxRecDepth 20000 in
theorem ggX4_byAllPlays_X4_gainOf : GoodIn wsX4_byAllPlays wsX4_gainOf := goodIn_r _ [90, 33, 34, 35, 36] (by decide +kernel) (by decide +kernel)
set_option maxRecDepth 20000 in
theorem gX4_byAllPlays_X4_gainOf : GoodIn wsX4_byAllPlays (va_wsS RX4 48 yX4_gainOf wsX4_gainOf) := goodIn_app (goodIn_of _ (by decide +kernel)) ggX4_byAllPlays_X4_gainOf
set_option maxRecDepth 20000 in
theorem ggX4_byAllPlays_X4_byAllPlays : GoodIn wsX4_byAllPlays wsX4_byAllPlays := goodIn_r _ [0, 1, 2, 3, 4, 5, 6, 7, 8, 9, 10, 11, 12, 13, 14, 15, 16, 17, 18, 19, 20, 21, 22, 23, 24, 25, 26, 27, 28, 29, 30, 31, 32, 33, 34, 35, 36, 37, 38, 39, 40, 41, 42, 43, 44, 45, 46, 47, 48, 49, 50, 51, 52, 53, 54, 55, 56, 57, 58, 59, 60, 61, 62, 63, 64, 65, 66, 67, 68, 69, 70, 71, 72, 73, 74, 75, 76, 77, 78, 79, 80, 81, 82, 83, 84, 85, 86, 87, 88, 89, 90, 91, 92, 93, 94, 95, 96, 97, 98, 99, 100, 101, 102, 103, 104, 105, 106, 107, 108] (by decide +kernel) (by decide +kernel)
set_option maxRecDepth 20000 in
theorem gX4_byAllPlays_X4_byAllPlays : GoodIn wsX4_byAllPlays (va_wsS RX4 100 yX4_byAllPlays wsX4_byAllPlays) := goodIn_app (goodIn_of _ (by decide +kernel)) ggX4_byAllPlays_X4_byAllPlays
set_option maxRecDepth 20000 in
theorem ggX4_byAllPlays_X1_lift : GoodIn wsX4_byAllPlays wsX1_lift := goodIn_r _ [96, 19, 51, 52, 53, 11, 54, 55, 41, 9, 10, 12, 13, 14, 15, 16, 17, 18, 20, 21, 22, 23, 24, 25, 26, 27, 28, 29, 30, 31, 32, 97, 98, 99, 100, 46, 101, 102, 103, 104, 105, 106, 107, 108] (by decide +kernel) (by decide +kernel)
set_option maxRecDepth 20000 in
theorem gX4_byAllPlays_X1_lift : GoodIn wsX4_byAllPlays (wsV RX4 51 RX1 yX1_lift wsX1_lift) := goodIn_app (goodIn_of _ (by decide +kernel)) ggX4_byAllPlays_X1_lift
theorem dX4_byAllPlays_0 : decode cX4_byAllPlays 0 = .ok (.iload_n 1, 1) := by decide +kernel
theorem dX4_byAllPlays_1 : decode cX4_byAllPlays 1 = .ok (.ifCond .gt 5, 3) := by decide +kernel
theorem dX4_byAllPlays_4 : decode cX4_byAllPlays 4 = .ok (.iconst 0, 1) := by decide +kernel
theorem dX4_byAllPlays_5 : decode cX4_byAllPlays 5 = .ok (.ireturn, 1) := by decide +kernel
theorem dX4_byAllPlays_6 : decode cX4_byAllPlays 6 = .ok (.aload_n 0, 1) := by decide +kernel
theorem dX4_byAllPlays_7 : decode cX4_byAllPlays 7 = .ok (.invokevirtual 36, 3) := by decide +kernel
theorem dX4_byAllPlays_10 : decode cX4_byAllPlays 10 = .ok (.invokestatic 39, 3) := by decide +kernel
theorem dX4_byAllPlays_13 : decode cX4_byAllPlays 13 = .ok (.ifCond .ne 7, 3) := by decide +kernel
theorem dX4_byAllPlays_16 : decode cX4_byAllPlays 16 = .ok (.iconst 1, 1) := by decide +kernel
theorem dX4_byAllPlays_17 : decode cX4_byAllPlays 17 = .ok (.goto 4, 3) := by decide +kernel
theorem dX4_byAllPlays_20 : decode cX4_byAllPlays 20 = .ok (.iconst 0, 1) := by decide +kernel
theorem dX4_byAllPlays_21 : decode cX4_byAllPlays 21 = .ok (.istore_n 2, 1) := by decide +kernel
theorem dX4_byAllPlays_22 : decode cX4_byAllPlays 22 = .ok (.aload_n 0, 1) := by decide +kernel
theorem dX4_byAllPlays_23 : decode cX4_byAllPlays 23 = .ok (.invokevirtual 54, 3) := by decide +kernel
theorem dX4_byAllPlays_26 : decode cX4_byAllPlays 26 = .ok (.istore_n 3, 1) := by decide +kernel
theorem dX4_byAllPlays_27 : decode cX4_byAllPlays 27 = .ok (.iload_n 2, 1) := by decide +kernel
theorem dX4_byAllPlays_28 : decode cX4_byAllPlays 28 = .ok (.ifCond .eq 7, 3) := by decide +kernel
theorem dX4_byAllPlays_31 : decode cX4_byAllPlays 31 = .ok (.iconst (-1), 1) := by decide +kernel
theorem dX4_byAllPlays_32 : decode cX4_byAllPlays 32 = .ok (.goto 4, 3) := by decide +kernel
theorem dX4_byAllPlays_35 : decode cX4_byAllPlays 35 = .ok (.iconst 5, 1) := by decide +kernel
theorem dX4_byAllPlays_36 : decode cX4_byAllPlays 36 = .ok (.istore 4, 2) := by decide +kernel
theorem dX4_byAllPlays_38 : decode cX4_byAllPlays 38 = .ok (.iconst 0, 1) := by decide +kernel
theorem dX4_byAllPlays_39 : decode cX4_byAllPlays 39 = .ok (.istore 5, 2) := by decide +kernel
theorem dX4_byAllPlays_41 : decode cX4_byAllPlays 41 = .ok (.iload 5, 2) := by decide +kernel
theorem dX4_byAllPlays_43 : decode cX4_byAllPlays 43 = .ok (.iconst 4, 1) := by decide +kernel
theorem dX4_byAllPlays_44 : decode cX4_byAllPlays 44 = .ok (.if_icmp .ge 75, 3) := by decide +kernel
theorem dX4_byAllPlays_47 : decode cX4_byAllPlays 47 = .ok (.iload_n 3, 1) := by decide +kernel
theorem dX4_byAllPlays_48 : decode cX4_byAllPlays 48 = .ok (.ifCond .eq 71, 3) := by decide +kernel
theorem dX4_byAllPlays_51 : decode cX4_byAllPlays 51 = .ok (.iload_n 3, 1) := by decide +kernel
theorem dX4_byAllPlays_52 : decode cX4_byAllPlays 52 = .ok (.invokestatic 64, 3) := by decide +kernel
theorem dX4_byAllPlays_55 : decode cX4_byAllPlays 55 = .ok (.istore 6, 2) := by decide +kernel
theorem dX4_byAllPlays_57 : decode cX4_byAllPlays 57 = .ok (.iload_n 3, 1) := by decide +kernel
theorem dX4_byAllPlays_58 : decode cX4_byAllPlays 58 = .ok (.iconst 1, 1) := by decide +kernel
theorem dX4_byAllPlays_59 : decode cX4_byAllPlays 59 = .ok (.iload 6, 2) := by decide +kernel
theorem dX4_byAllPlays_61 : decode cX4_byAllPlays 61 = .ok (.ishl, 1) := by decide +kernel
theorem dX4_byAllPlays_62 : decode cX4_byAllPlays 62 = .ok (.iconst (-1), 1) := by decide +kernel
theorem dX4_byAllPlays_63 : decode cX4_byAllPlays 63 = .ok (.ixor, 1) := by decide +kernel
theorem dX4_byAllPlays_64 : decode cX4_byAllPlays 64 = .ok (.iand, 1) := by decide +kernel
theorem dX4_byAllPlays_65 : decode cX4_byAllPlays 65 = .ok (.istore_n 3, 1) := by decide +kernel
theorem dX4_byAllPlays_66 : decode cX4_byAllPlays 66 = .ok (.aload_n 0, 1) := by decide +kernel
theorem dX4_byAllPlays_67 : decode cX4_byAllPlays 67 = .ok (.iload 6, 2) := by decide +kernel
theorem dX4_byAllPlays_69 : decode cX4_byAllPlays 69 = .ok (.invokevirtual 45, 3) := by decide +kernel
theorem dX4_byAllPlays_72 : decode cX4_byAllPlays 72 = .ok (.invokestatic 48, 3) := by decide +kernel
theorem dX4_byAllPlays_75 : decode cX4_byAllPlays 75 = .ok (.aload_n 0, 1) := by decide +kernel
theorem dX4_byAllPlays_76 : decode cX4_byAllPlays 76 = .ok (.iload_n 1, 1) := by decide +kernel
theorem dX4_byAllPlays_77 : decode cX4_byAllPlays 77 = .ok (.iconst 1, 1) := by decide +kernel
theorem dX4_byAllPlays_78 : decode cX4_byAllPlays 78 = .ok (.isub, 1) := by decide +kernel
theorem dX4_byAllPlays_79 : decode cX4_byAllPlays 79 = .ok (.invokestatic 100, 3) := by decide +kernel
theorem dX4_byAllPlays_82 : decode cX4_byAllPlays 82 = .ok (.iadd, 1) := by decide +kernel
theorem dX4_byAllPlays_83 : decode cX4_byAllPlays 83 = .ok (.istore 7, 2) := by decide +kernel
theorem dX4_byAllPlays_85 : decode cX4_byAllPlays 85 = .ok (.aload_n 0, 1) := by decide +kernel
theorem dX4_byAllPlays_86 : decode cX4_byAllPlays 86 = .ok (.invokevirtual 51, 3) := by decide +kernel
theorem dX4_byAllPlays_89 : decode cX4_byAllPlays 89 = .ok (.pop, 1) := by decide +kernel
theorem dX4_byAllPlays_90 : decode cX4_byAllPlays 90 = .ok (.iload_n 2, 1) := by decide +kernel
theorem dX4_byAllPlays_91 : decode cX4_byAllPlays 91 = .ok (.ifCond .eq 13, 3) := by decide +kernel
theorem dX4_byAllPlays_94 : decode cX4_byAllPlays 94 = .ok (.iload 4, 2) := by decide +kernel
theorem dX4_byAllPlays_96 : decode cX4_byAllPlays 96 = .ok (.iload 7, 2) := by decide +kernel
theorem dX4_byAllPlays_98 : decode cX4_byAllPlays 98 = .ok (.invokestatic 85, 3) := by decide +kernel
theorem dX4_byAllPlays_101 : decode cX4_byAllPlays 101 = .ok (.goto 10, 3) := by decide +kernel
theorem dX4_byAllPlays_104 : decode cX4_byAllPlays 104 = .ok (.iload 4, 2) := by decide +kernel
theorem dX4_byAllPlays_106 : decode cX4_byAllPlays 106 = .ok (.iload 7, 2) := by decide +kernel
theorem dX4_byAllPlays_108 : decode cX4_byAllPlays 108 = .ok (.invokestatic 90, 3) := by decide +kernel
theorem dX4_byAllPlays_111 : decode cX4_byAllPlays 111 = .ok (.istore 4, 2) := by decide +kernel
theorem dX4_byAllPlays_113 : decode cX4_byAllPlays 113 = .ok (.iinc 5 1, 3) := by decide +kernel
theorem dX4_byAllPlays_116 : decode cX4_byAllPlays 116 = .ok (.goto (-75), 3) := by decide +kernel
theorem dX4_byAllPlays_119 : decode cX4_byAllPlays 119 = .ok (.iload 4, 2) := by decide +kernel
theorem dX4_byAllPlays_121 : decode cX4_byAllPlays 121 = .ok (.ireturn, 1) := by decide +kernel
set_option maxRecDepth 20000 in
theorem ggX5_init_X1_init : GoodIn wsX5_init wsX1_init := goodIn_r _ [18, 19, 2, 3, 20, 21, 22, 23, 24, 44, 45, 46, 47, 48, 49, 50, 51] (by decide +kernel) (by decide +kernel)
set_option maxRecDepth 20000 in
theorem gX5_init_X1_init : GoodIn wsX5_init (wsX1_init) := ggX5_init_X1_init
set_option maxRecDepth 20000 in
theorem ggX5_init_X4_init : GoodIn wsX5_init wsX4_init := goodIn_r _ [27, 28, 2, 3, 29, 30, 31, 32, 33, 34, 35, 36, 37, 20, 38, 55, 56, 58] (by decide +kernel) (by decide +kernel)
set_option maxRecDepth 20000 in
theorem gX5_init_X4_init : GoodIn wsX5_init (wsX4_init) := ggX5_init_X4_init
set_option maxRecDepth 20000 in
theorem ggX5_init_X3_init : GoodIn wsX5_init wsX3_init := goodIn_r _ [41, 42, 2, 3, 43, 57] (by decide +kernel) (by decide +kernel)
set_option maxRecDepth 20000 in
theorem gX5_init_X3_init : GoodIn wsX5_init (wsX3_init) := ggX5_init_X3_init
theorem dX5_init_0 : decode cX5_init 0 = .ok (.aload_n 0, 1) := by decide +kernel
theorem dX5_init_1 : decode cX5_init 1 = .ok (.invokespecial 1, 3) := by decide +kernel
theorem dX5_init_4 : decode cX5_init 4 = .ok (.aload_n 0, 1) := by decide +kernel
theorem dX5_init_5 : decode cX5_init 5 = .ok (.new 7, 3) := by decide +kernel
theorem dX5_init_8 : decode cX5_init 8 = .ok (.dup, 1) := by decide +kernel
theorem dX5_init_9 : decode cX5_init 9 = .ok (.invokespecial 9, 3) := by decide +kernel
theorem dX5_init_12 : decode cX5_init 12 = .ok (.putfield 10, 3) := by decide +kernel
theorem dX5_init_15 : decode cX5_init 15 = .ok (.aload_n 0, 1) := by decide +kernel
theorem dX5_init_16 : decode cX5_init 16 = .ok (.new 16, 3) := by decide +kernel
theorem dX5_init_19 : decode cX5_init 19 = .ok (.dup, 1) := by decide +kernel
theorem dX5_init_20 : decode cX5_init 20 = .ok (.aload_n 0, 1) := by decide +kernel
theorem dX5_init_21 : decode cX5_init 21 = .ok (.getfield 10, 3) := by decide +kernel
theorem dX5_init_24 : decode cX5_init 24 = .ok (.invokespecial 18, 3) := by decide +kernel
theorem dX5_init_27 : decode cX5_init 27 = .ok (.putfield 21, 3) := by decide +kernel
theorem dX5_init_30 : decode cX5_init 30 = .ok (.aload_n 0, 1) := by decide +kernel
theorem dX5_init_31 : decode cX5_init 31 = .ok (.new 25, 3) := by decide +kernel
theorem dX5_init_34 : decode cX5_init 34 = .ok (.dup, 1) := by decide +kernel
theorem dX5_init_35 : decode cX5_init 35 = .ok (.aload_n 0, 1) := by decide +kernel
theorem dX5_init_36 : decode cX5_init 36 = .ok (.getfield 10, 3) := by decide +kernel
theorem dX5_init_39 : decode cX5_init 39 = .ok (.invokespecial 27, 3) := by decide +kernel
theorem dX5_init_42 : decode cX5_init 42 = .ok (.putfield 28, 3) := by decide +kernel
theorem dX5_init_45 : decode cX5_init 45 = .ok (.return_, 1) := by decide +kernel
set_option maxRecDepth 20000 in
theorem ggX5_begin_X1_clearFor : GoodIn wsX5_begin wsX1_clearFor := goodIn_r _ [8, 9, 10, 11, 12, 13, 14, 18, 19, 20, 21, 22, 23, 24, 25] (by decide +kernel) (by decide +kernel)
set_option maxRecDepth 20000 in
theorem gX5_begin_X1_clearFor : GoodIn wsX5_begin (wsV RX5 41 RX1 yX1_clearFor wsX1_clearFor) := goodIn_app (goodIn_of _ (by decide +kernel)) ggX5_begin_X1_clearFor
theorem dX5_begin_0 : decode cX5_begin 0 = .ok (.iload_n 1, 1) := by decide +kernel
theorem dX5_begin_1 : decode cX5_begin 1 = .ok (.iconst (-1), 1) := by decide +kernel
theorem dX5_begin_2 : decode cX5_begin 2 = .ok (.if_icmp .lt 8, 3) := by decide +kernel
theorem dX5_begin_5 : decode cX5_begin 5 = .ok (.iload_n 1, 1) := by decide +kernel
theorem dX5_begin_6 : decode cX5_begin 6 = .ok (.iconst 4, 1) := by decide +kernel
theorem dX5_begin_7 : decode cX5_begin 7 = .ok (.if_icmp .lt 13, 3) := by decide +kernel
theorem dX5_begin_10 : decode cX5_begin 10 = .ok (.new 34, 3) := by decide +kernel
theorem dX5_begin_13 : decode cX5_begin 13 = .ok (.dup, 1) := by decide +kernel
theorem dX5_begin_14 : decode cX5_begin 14 = .ok (.ldc 36, 2) := by decide +kernel
theorem dX5_begin_16 : decode cX5_begin 16 = .ok (.invokespecial 38, 3) := by decide +kernel
theorem dX5_begin_19 : decode cX5_begin 19 = .ok (.athrow, 1) := by decide +kernel
theorem dX5_begin_20 : decode cX5_begin 20 = .ok (.aload_n 0, 1) := by decide +kernel
theorem dX5_begin_21 : decode cX5_begin 21 = .ok (.getfield 10, 3) := by decide +kernel
theorem dX5_begin_24 : decode cX5_begin 24 = .ok (.iload_n 1, 1) := by decide +kernel
theorem dX5_begin_25 : decode cX5_begin 25 = .ok (.invokevirtual 41, 3) := by decide +kernel
theorem dX5_begin_28 : decode cX5_begin 28 = .ok (.ireturn, 1) := by decide +kernel
set_option maxRecDepth 20000 in
theorem ggX5_give_X5_needPlayer : GoodIn wsX5_give wsX5_needPlayer := goodIn_ca (goodIn_r _ [7, 8, 9] (by decide +kernel) (by decide +kernel)) (goodIn_sub (fun _ h => List.mem_cons_of_mem _ (List.mem_append_right _ h)) (by decide +kernel))
set_option maxRecDepth 20000 in
theorem gX5_give_X5_needPlayer : GoodIn wsX5_give (va_wsS RX5 45 yX5_needPlayer wsX5_needPlayer) := goodIn_app (goodIn_of _ (by decide +kernel)) ggX5_give_X5_needPlayer
set_option maxRecDepth 20000 in
theorem ggX5_give_X5_needCard : GoodIn wsX5_give wsX5_needCard := goodIn_ca (goodIn_r _ [12, 8, 9] (by decide +kernel) (by decide +kernel)) (goodIn_sub (fun _ h => List.mem_cons_of_mem _ (List.mem_append_right _ h)) (by decide +kernel))
set_option maxRecDepth 20000 in
theorem gX5_give_X5_needCard : GoodIn wsX5_give (va_wsS RX5 49 yX5_needCard wsX5_needCard) := goodIn_app (goodIn_of _ (by decide +kernel)) ggX5_give_X5_needCard
set_option maxRecDepth 20000 in
theorem ggX5_give_X1_canDeal : GoodIn wsX5_give wsX1_canDeal := goodIn_r _ [17, 18, 19, 20, 21, 22, 23, 24, 25, 26, 16, 27, 28, 29, 30, 31, 32, 33, 34, 35, 47, 48, 49, 50, 51, 52, 53, 54] (by decide +kernel) (by decide +kernel)
set_option maxRecDepth 20000 in
theorem gX5_give_X1_canDeal : GoodIn wsX5_give (wsV RX5 52 RX1 yX1_canDeal wsX1_canDeal) := goodIn_app (goodIn_of _ (by decide +kernel)) ggX5_give_X1_canDeal
set_option maxRecDepth 20000 in
theorem ggX5_give_X1_deal : GoodIn wsX5_give wsX1_deal := goodIn_r _ [39, 19, 40, 41, 42, 16, 43, 28, 24, 25, 26, 27, 29, 30, 31, 32, 33, 34, 35, 47, 48, 49, 50, 51, 52, 53, 54] (by decide +kernel) (by decide +kernel)
set_option maxRecDepth 20000 in
theorem gX5_give_X1_deal : GoodIn wsX5_give (wsV RX5 61 RX1 yX1_deal wsX1_deal) := goodIn_app (goodIn_of _ (by decide +kernel)) ggX5_give_X1_deal
theorem dX5_give_0 : decode cX5_give 0 = .ok (.iload_n 1, 1) := by decide +kernel
theorem dX5_give_1 : decode cX5_give 1 = .ok (.invokestatic 45, 3) := by decide +kernel
theorem dX5_give_4 : decode cX5_give 4 = .ok (.iload_n 2, 1) := by decide +kernel
theorem dX5_give_5 : decode cX5_give 5 = .ok (.invokestatic 49, 3) := by decide +kernel
theorem dX5_give_8 : decode cX5_give 8 = .ok (.aload_n 0, 1) := by decide +kernel
theorem dX5_give_9 : decode cX5_give 9 = .ok (.getfield 10, 3) := by decide +kernel
theorem dX5_give_12 : decode cX5_give 12 = .ok (.iload_n 1, 1) := by decide +kernel
theorem dX5_give_13 : decode cX5_give 13 = .ok (.iload_n 2, 1) := by decide +kernel
theorem dX5_give_14 : decode cX5_give 14 = .ok (.invokevirtual 52, 3) := by decide +kernel
theorem dX5_give_17 : decode cX5_give 17 = .ok (.ifCond .ne 13, 3) := by decide +kernel
theorem dX5_give_20 : decode cX5_give 20 = .ok (.new 56, 3) := by decide +kernel
theorem dX5_give_23 : decode cX5_give 23 = .ok (.dup, 1) := by decide +kernel
theorem dX5_give_24 : decode cX5_give 24 = .ok (.ldc 58, 2) := by decide +kernel
theorem dX5_give_26 : decode cX5_give 26 = .ok (.invokespecial 60, 3) := by decide +kernel
theorem dX5_give_29 : decode cX5_give 29 = .ok (.athrow, 1) := by decide +kernel
theorem dX5_give_30 : decode cX5_give 30 = .ok (.aload_n 0, 1) := by decide +kernel
theorem dX5_give_31 : decode cX5_give 31 = .ok (.getfield 10, 3) := by decide +kernel
theorem dX5_give_34 : decode cX5_give 34 = .ok (.iload_n 1, 1) := by decide +kernel
theorem dX5_give_35 : decode cX5_give 35 = .ok (.iload_n 2, 1) := by decide +kernel
theorem dX5_give_36 : decode cX5_give 36 = .ok (.invokevirtual 61, 3) := by decide +kernel
theorem dX5_give_39 : decode cX5_give 39 = .ok (.ireturn, 1) := by decide +kernel
set_option maxRecDepth 20000 in
theorem ggX5_start_X5_needPlayer : GoodIn wsX5_start wsX5_needPlayer := goodIn_ca (goodIn_r _ [8, 9, 10] (by decide +kernel) (by decide +kernel)) (goodIn_sub (fun _ h => List.mem_cons_of_mem _ (List.mem_append_right _ h)) (by decide +kernel))
set_option maxRecDepth 20000 in
theorem gX5_start_X5_needPlayer : GoodIn wsX5_start (va_wsS RX5 45 yX5_needPlayer wsX5_needPlayer) := goodIn_app (goodIn_of _ (by decide +kernel)) ggX5_start_X5_needPlayer
set_option maxRecDepth 20000 in
theorem ggX5_start_X1_canOpen : GoodIn wsX5_start wsX1_canOpen := goodIn_r _ [15, 16, 17, 18, 19, 14, 20, 21, 22, 23, 24, 25, 26, 27, 28, 50, 51, 52, 53, 54, 55, 56, 57] (by decide +kernel) (by decide +kernel)
set_option maxRecDepth 20000 in
theorem gX5_start_X1_canOpen : GoodIn wsX5_start (wsV RX5 65 RX1 yX1_canOpen wsX1_canOpen) := goodIn_app (goodIn_of _ (by decide +kernel)) ggX5_start_X1_canOpen
set_option maxRecDepth 20000 in
theorem ggX5_start_X4_forget : GoodIn wsX5_start wsX4_forget := goodIn_r _ [33, 34, 35, 36, 37, 38, 39, 40, 58, 59, 60] (by decide +kernel) (by decide +kernel)
set_option maxRecDepth 20000 in
theorem gX5_start_X4_forget : GoodIn wsX5_start (wsV RX5 71 RX4 yX4_forget wsX4_forget) := goodIn_app (goodIn_of _ (by decide +kernel)) ggX5_start_X4_forget
set_option maxRecDepth 20000 in
theorem ggX5_start_X1_open : GoodIn wsX5_start wsX1_open := goodIn_r _ [44, 16, 45, 46, 17, 18, 19, 14, 20, 21, 22, 23, 24, 25, 26, 27, 28, 50, 51, 52, 53, 54, 55, 56, 57] (by decide +kernel) (by decide +kernel)
set_option maxRecDepth 20000 in
theorem gX5_start_X1_open : GoodIn wsX5_start (wsV RX5 74 RX1 yX1_open wsX1_open) := goodIn_app (goodIn_of _ (by decide +kernel)) ggX5_start_X1_open
theorem dX5_start_0 : decode cX5_start 0 = .ok (.iload_n 1, 1) := by decide +kernel
theorem dX5_start_1 : decode cX5_start 1 = .ok (.invokestatic 45, 3) := by decide +kernel
theorem dX5_start_4 : decode cX5_start 4 = .ok (.aload_n 0, 1) := by decide +kernel
theorem dX5_start_5 : decode cX5_start 5 = .ok (.getfield 10, 3) := by decide +kernel
theorem dX5_start_8 : decode cX5_start 8 = .ok (.invokevirtual 65, 3) := by decide +kernel
theorem dX5_start_11 : decode cX5_start 11 = .ok (.ifCond .ne 13, 3) := by decide +kernel
theorem dX5_start_14 : decode cX5_start 14 = .ok (.new 56, 3) := by decide +kernel
theorem dX5_start_17 : decode cX5_start 17 = .ok (.dup, 1) := by decide +kernel
theorem dX5_start_18 : decode cX5_start 18 = .ok (.ldc 69, 2) := by decide +kernel
theorem dX5_start_20 : decode cX5_start 20 = .ok (.invokespecial 60, 3) := by decide +kernel
theorem dX5_start_23 : decode cX5_start 23 = .ok (.athrow, 1) := by decide +kernel
theorem dX5_start_24 : decode cX5_start 24 = .ok (.aload_n 0, 1) := by decide +kernel
theorem dX5_start_25 : decode cX5_start 25 = .ok (.getfield 21, 3) := by decide +kernel
theorem dX5_start_28 : decode cX5_start 28 = .ok (.invokevirtual 71, 3) := by decide +kernel
theorem dX5_start_31 : decode cX5_start 31 = .ok (.aload_n 0, 1) := by decide +kernel
theorem dX5_start_32 : decode cX5_start 32 = .ok (.getfield 10, 3) := by decide +kernel
theorem dX5_start_35 : decode cX5_start 35 = .ok (.iload_n 1, 1) := by decide +kernel
theorem dX5_start_36 : decode cX5_start 36 = .ok (.invokevirtual 74, 3) := by decide +kernel
theorem dX5_start_39 : decode cX5_start 39 = .ok (.ireturn, 1) := by decide +kernel
set_option maxRecDepth 20000 in
theorem ggX5_isStarted_X1_isOpen : GoodIn wsX5_isStarted wsX1_isOpen := goodIn_r _ [6, 7, 11, 12, 13, 14, 15, 16, 17, 18] (by decide +kernel) (by decide +kernel)
set_option maxRecDepth 20000 in
theorem gX5_isStarted_X1_isOpen : GoodIn wsX5_isStarted (wsV RX5 77 RX1 yX1_isOpen wsX1_isOpen) := goodIn_app (goodIn_of _ (by decide +kernel)) ggX5_isStarted_X1_isOpen
theorem dX5_isStarted_0 : decode cX5_isStarted 0 = .ok (.aload_n 0, 1) := by decide +kernel
theorem dX5_isStarted_1 : decode cX5_isStarted 1 = .ok (.getfield 10, 3) := by decide +kernel
theorem dX5_isStarted_4 : decode cX5_isStarted 4 = .ok (.invokevirtual 77, 3) := by decide +kernel
theorem dX5_isStarted_7 : decode cX5_isStarted 7 = .ok (.ireturn, 1) := by decide +kernel
set_option maxRecDepth 20000 in
theorem ggX5_play_X5_needCard : GoodIn wsX5_play wsX5_needCard := goodIn_ca (goodIn_r _ [5, 6, 7] (by decide +kernel) (by decide +kernel)) (goodIn_sub (fun _ h => List.mem_cons_of_mem _ (List.mem_append_left _ (List.mem_append_right _ h))) (by decide +kernel))
set_option maxRecDepth 20000 in
theorem gX5_play_X5_needCard : GoodIn wsX5_play (va_wsS RX5 49 yX5_needCard wsX5_needCard) := goodIn_app (goodIn_of _ (by decide +kernel)) ggX5_play_X5_needCard
set_option maxRecDepth 20000 in
theorem ggX5_play_X5_needPlayable : GoodIn wsX5_play wsX5_needPlayable := goodIn_ca (goodIn_r _ [11, 12, 13, 1, 14, 15, 16, 17, 18, 19, 20, 21, 22, 23, 24, 25, 26, 27, 28, 29, 30, 31, 32, 33, 34, 35, 36, 37, 38, 39, 40, 41, 42, 43, 44, 45, 46, 47, 48, 49, 50, 51, 52, 53, 54, 55, 56, 57, 58, 59, 60, 61, 62, 63, 64, 65, 66, 84, 85, 86, 87, 88, 89, 90, 91, 92, 93, 94] (by decide +kernel) (by decide +kernel)) (goodIn_sub (fun _ h => List.mem_cons_of_mem _ (List.mem_append_right _ h)) (by decide +kernel))
set_option maxRecDepth 20000 in
theorem gX5_play_X5_needPlayable : GoodIn wsX5_play (wsV RX5 80 RX5 yX5_needPlayable wsX5_needPlayable) := goodIn_app (goodIn_of _ (by decide +kernel)) ggX5_play_X5_needPlayable
set_option maxRecDepth 20000 in
theorem ggX5_play_X1_lay : GoodIn wsX5_play wsX1_lay := goodIn_r _ [70, 29, 56, 19, 20, 21, 17, 22, 23, 24, 25, 26, 27, 28, 30, 31, 32, 33, 34, 35, 36, 37, 38, 39, 40, 41, 42, 71, 72, 73, 74, 47, 75, 76, 77, 78, 52, 53, 54, 55, 79, 80, 81, 82, 83, 87, 88, 89, 90, 91, 92, 93, 94] (by decide +kernel) (by decide +kernel)
set_option maxRecDepth 20000 in
theorem gX5_play_X1_lay : GoodIn wsX5_play (wsV RX5 83 RX1 yX1_lay wsX1_lay) := goodIn_app (goodIn_of _ (by decide +kernel)) ggX5_play_X1_lay
theorem dX5_play_0 : decode cX5_play 0 = .ok (.iload_n 1, 1) := by decide +kernel
theorem dX5_play_1 : decode cX5_play 1 = .ok (.invokestatic 49, 3) := by decide +kernel
theorem dX5_play_4 : decode cX5_play 4 = .ok (.aload_n 0, 1) := by decide +kernel
theorem dX5_play_5 : decode cX5_play 5 = .ok (.iload_n 1, 1) := by decide +kernel
theorem dX5_play_6 : decode cX5_play 6 = .ok (.invokevirtual 80, 3) := by decide +kernel
theorem dX5_play_9 : decode cX5_play 9 = .ok (.aload_n 0, 1) := by decide +kernel
theorem dX5_play_10 : decode cX5_play 10 = .ok (.getfield 10, 3) := by decide +kernel
theorem dX5_play_13 : decode cX5_play 13 = .ok (.iload_n 1, 1) := by decide +kernel
theorem dX5_play_14 : decode cX5_play 14 = .ok (.invokevirtual 83, 3) := by decide +kernel
theorem dX5_play_17 : decode cX5_play 17 = .ok (.ireturn, 1) := by decide +kernel
set_option maxRecDepth 20000 in
theorem ggX5_takeBack_X1_laidCount : GoodIn wsX5_takeBack wsX1_laidCount := goodIn_r _ [8, 9, 50, 51, 52, 53, 54, 55, 56, 57] (by decide +kernel) (by decide +kernel)
set_option maxRecDepth 20000 in
theorem gX5_takeBack_X1_laidCount : GoodIn wsX5_takeBack (wsV RX5 86 RX1 yX1_laidCount wsX1_laidCount) := goodIn_app (goodIn_of _ (by decide +kernel)) ggX5_takeBack_X1_laidCount
set_option maxRecDepth 20000 in
theorem ggX5_takeBack_X1_lift : GoodIn wsX5_takeBack wsX1_lift := goodIn_r _ [13, 9, 14, 15, 16, 7, 17, 18, 19, 20, 21, 22, 23, 24, 25, 26, 27, 28, 29, 30, 31, 32, 33, 34, 35, 36, 37, 38, 39, 40, 41, 42, 43, 44, 45, 46, 50, 51, 52, 53, 54, 55, 56, 57] (by decide +kernel) (by decide +kernel)
set_option maxRecDepth 20000 in
theorem gX5_takeBack_X1_lift : GoodIn wsX5_takeBack (wsV RX5 92 RX1 yX1_lift wsX1_lift) := goodIn_app (goodIn_of _ (by decide +kernel)) ggX5_takeBack_X1_lift
theorem dX5_takeBack_0 : decode cX5_takeBack 0 = .ok (.aload_n 0, 1) := by decide +kernel
theorem dX5_takeBack_1 : decode cX5_takeBack 1 = .ok (.getfield 10, 3) := by decide +kernel
theorem dX5_takeBack_4 : decode cX5_takeBack 4 = .ok (.invokevirtual 86, 3) := by decide +kernel
theorem dX5_takeBack_7 : decode cX5_takeBack 7 = .ok (.ifCond .ne 13, 3) := by decide +kernel
theorem dX5_takeBack_10 : decode cX5_takeBack 10 = .ok (.new 56, 3) := by decide +kernel
theorem dX5_takeBack_13 : decode cX5_takeBack 13 = .ok (.dup, 1) := by decide +kernel
theorem dX5_takeBack_14 : decode cX5_takeBack 14 = .ok (.ldc 90, 2) := by decide +kernel
theorem dX5_takeBack_16 : decode cX5_takeBack 16 = .ok (.invokespecial 60, 3) := by decide +kernel
theorem dX5_takeBack_19 : decode cX5_takeBack 19 = .ok (.athrow, 1) := by decide +kernel
theorem dX5_takeBack_20 : decode cX5_takeBack 20 = .ok (.aload_n 0, 1) := by decide +kernel
theorem dX5_takeBack_21 : decode cX5_takeBack 21 = .ok (.getfield 10, 3) := by decide +kernel
theorem dX5_takeBack_24 : decode cX5_takeBack 24 = .ok (.invokevirtual 92, 3) := by decide +kernel
theorem dX5_takeBack_27 : decode cX5_takeBack 27 = .ok (.ireturn, 1) := by decide +kernel
set_option maxRecDepth 20000 in
theorem ggX5_canPlay_X5_needCard : GoodIn wsX5_canPlay wsX5_needCard := goodIn_ca (goodIn_r _ [5, 6, 7] (by decide +kernel) (by decide +kernel)) (goodIn_sub (fun _ h => List.mem_cons_of_mem _ (List.mem_append_right _ h)) (by decide +kernel))
set_option maxRecDepth 20000 in
theorem gX5_canPlay_X5_needCard : GoodIn wsX5_canPlay (va_wsS RX5 49 yX5_needCard wsX5_needCard) := goodIn_app (goodIn_of _ (by decide +kernel)) ggX5_canPlay_X5_needCard
set_option maxRecDepth 20000 in
theorem ggX5_canPlay_X1_playable : GoodIn wsX5_canPlay wsX1_playable := goodIn_r _ [12, 13, 14, 15, 11, 16, 17, 18, 19, 20, 21, 22, 23, 24, 25, 26, 27, 28, 29, 30, 31, 32, 33, 34, 35, 36, 37, 38, 39, 40, 41, 42, 43, 44, 45, 46, 47, 48, 49, 50, 51, 52, 53, 54, 55, 56, 57, 64, 65, 66, 67, 68, 69, 70, 71] (by decide +kernel) (by decide +kernel)
set_option maxRecDepth 20000 in
theorem gX5_canPlay_X1_playable : GoodIn wsX5_canPlay (wsV RX5 95 RX1 yX1_playable wsX1_playable) := goodIn_app (goodIn_of _ (by decide +kernel)) ggX5_canPlay_X1_playable
set_option maxRecDepth 20000 in
theorem ggX5_canPlay_X0_holds : GoodIn wsX5_canPlay wsX0_holds := goodIn_r _ [60] (by decide +kernel) (by decide +kernel)
set_option maxRecDepth 20000 in
theorem gX5_canPlay_X0_holds : GoodIn wsX5_canPlay (va_wsS RX5 98 yX0_holds wsX0_holds) := goodIn_app (goodIn_of _ (by decide +kernel)) ggX5_canPlay_X0_holds
theorem dX5_canPlay_0 : decode cX5_canPlay 0 = .ok (.iload_n 1, 1) := by decide +kernel
theorem dX5_canPlay_1 : decode cX5_canPlay 1 = .ok (.invokestatic 49, 3) := by decide +kernel
theorem dX5_canPlay_4 : decode cX5_canPlay 4 = .ok (.aload_n 0, 1) := by decide +kernel
theorem dX5_canPlay_5 : decode cX5_canPlay 5 = .ok (.getfield 10, 3) := by decide +kernel
theorem dX5_canPlay_8 : decode cX5_canPlay 8 = .ok (.invokevirtual 95, 3) := by decide +kernel
theorem dX5_canPlay_11 : decode cX5_canPlay 11 = .ok (.iload_n 1, 1) := by decide +kernel
theorem dX5_canPlay_12 : decode cX5_canPlay 12 = .ok (.invokestatic 98, 3) := by decide +kernel
theorem dX5_canPlay_15 : decode cX5_canPlay 15 = .ok (.ireturn, 1) := by decide +kernel
set_option maxRecDepth 20000 in
theorem ggX5_turn_X1_mover : GoodIn wsX5_turn wsX1_mover := goodIn_r _ [6, 7, 8, 9, 10, 5, 11, 12, 13, 14, 15, 16, 17, 18, 19, 20, 21, 22, 23, 24, 25, 26, 30, 31, 32, 33, 34, 35, 36, 37] (by decide +kernel) (by decide +kernel)
set_option maxRecDepth 20000 in
theorem gX5_turn_X1_mover : GoodIn wsX5_turn (wsV RX5 101 RX1 yX1_mover wsX1_mover) := goodIn_app (goodIn_of _ (by decide +kernel)) ggX5_turn_X1_mover
theorem dX5_turn_0 : decode cX5_turn 0 = .ok (.aload_n 0, 1) := by decide +kernel
theorem dX5_turn_1 : decode cX5_turn 1 = .ok (.getfield 10, 3) := by decide +kernel
theorem dX5_turn_4 : decode cX5_turn 4 = .ok (.invokevirtual 101, 3) := by decide +kernel
theorem dX5_turn_7 : decode cX5_turn 7 = .ok (.ireturn, 1) := by decide +kernel
set_option maxRecDepth 20000 in
theorem ggX5_hand_X5_needPlayer : GoodIn wsX5_hand wsX5_needPlayer := goodIn_ca (goodIn_r _ [5, 6, 7] (by decide +kernel) (by decide +kernel)) (goodIn_sub (fun _ h => List.mem_cons_of_mem _ (List.mem_append_right _ h)) (by decide +kernel))
set_option maxRecDepth 20000 in
theorem gX5_hand_X5_needPlayer : GoodIn wsX5_hand (va_wsS RX5 45 yX5_needPlayer wsX5_needPlayer) := goodIn_app (goodIn_of _ (by decide +kernel)) ggX5_hand_X5_needPlayer
set_option maxRecDepth 20000 in
theorem ggX5_hand_X1_handOf : GoodIn wsX5_hand wsX1_handOf := goodIn_r _ [12, 13, 17, 18, 19, 20, 21, 22, 23, 24] (by decide +kernel) (by decide +kernel)
set_option maxRecDepth 20000 in
theorem gX5_hand_X1_handOf : GoodIn wsX5_hand (wsV RX5 104 RX1 yX1_handOf wsX1_handOf) := goodIn_app (goodIn_of _ (by decide +kernel)) ggX5_hand_X1_handOf
theorem dX5_hand_0 : decode cX5_hand 0 = .ok (.iload_n 1, 1) := by decide +kernel
theorem dX5_hand_1 : decode cX5_hand 1 = .ok (.invokestatic 45, 3) := by decide +kernel
theorem dX5_hand_4 : decode cX5_hand 4 = .ok (.aload_n 0, 1) := by decide +kernel
theorem dX5_hand_5 : decode cX5_hand 5 = .ok (.getfield 10, 3) := by decide +kernel
theorem dX5_hand_8 : decode cX5_hand 8 = .ok (.iload_n 1, 1) := by decide +kernel
theorem dX5_hand_9 : decode cX5_hand 9 = .ok (.invokevirtual 104, 3) := by decide +kernel
theorem dX5_hand_12 : decode cX5_hand 12 = .ok (.ireturn, 1) := by decide +kernel
set_option maxRecDepth 20000 in
theorem ggX5_inTrick_X1_trickSize : GoodIn wsX5_inTrick wsX1_trickSize := goodIn_r _ [6, 7, 11, 12, 13, 14, 15, 16, 17, 18] (by decide +kernel) (by decide +kernel)
set_option maxRecDepth 20000 in
theorem gX5_inTrick_X1_trickSize : GoodIn wsX5_inTrick (wsV RX5 107 RX1 yX1_trickSize wsX1_trickSize) := goodIn_app (goodIn_of _ (by decide +kernel)) ggX5_inTrick_X1_trickSize
theorem dX5_inTrick_0 : decode cX5_inTrick 0 = .ok (.aload_n 0, 1) := by decide +kernel
theorem dX5_inTrick_1 : decode cX5_inTrick 1 = .ok (.getfield 10, 3) := by decide +kernel
theorem dX5_inTrick_4 : decode cX5_inTrick 4 = .ok (.invokevirtual 107, 3) := by decide +kernel
theorem dX5_inTrick_7 : decode cX5_inTrick 7 = .ok (.ireturn, 1) := by decide +kernel
set_option maxRecDepth 20000 in
theorem ggX5_cardIn_X1_trickSize : GoodIn wsX5_cardIn wsX1_trickSize := goodIn_r _ [8, 9, 23, 24, 25, 26, 27, 28, 29, 30] (by decide +kernel) (by decide +kernel)
set_option maxRecDepth 20000 in
theorem gX5_cardIn_X1_trickSize : GoodIn wsX5_cardIn (wsV RX5 107 RX1 yX1_trickSize wsX1_trickSize) := goodIn_app (goodIn_of _ (by decide +kernel)) ggX5_cardIn_X1_trickSize
set_option maxRecDepth 20000 in
theorem ggX5_cardIn_X1_trickCard : GoodIn wsX5_cardIn wsX1_trickCard := goodIn_r _ [13, 9, 14, 5, 6, 7, 8, 15, 16, 17, 18, 19, 23, 24, 25, 26, 27, 28, 29, 30] (by decide +kernel) (by decide +kernel)
set_option maxRecDepth 20000 in
theorem gX5_cardIn_X1_trickCard : GoodIn wsX5_cardIn (wsV RX5 115 RX1 yX1_trickCard wsX1_trickCard) := goodIn_app (goodIn_of _ (by decide +kernel)) ggX5_cardIn_X1_trickCard
theorem dX5_cardIn_0 : decode cX5_cardIn 0 = .ok (.iload_n 1, 1) := by decide +kernel
theorem dX5_cardIn_1 : decode cX5_cardIn 1 = .ok (.ifCond .lt 14, 3) := by decide +kernel
theorem dX5_cardIn_4 : decode cX5_cardIn 4 = .ok (.iload_n 1, 1) := by decide +kernel
theorem dX5_cardIn_5 : decode cX5_cardIn 5 = .ok (.aload_n 0, 1) := by decide +kernel
theorem dX5_cardIn_6 : decode cX5_cardIn 6 = .ok (.getfield 10, 3) := by decide +kernel
theorem dX5_cardIn_9 : decode cX5_cardIn 9 = .ok (.invokevirtual 107, 3) := by decide +kernel
theorem dX5_cardIn_12 : decode cX5_cardIn 12 = .ok (.if_icmp .lt 13, 3) := by decide +kernel
theorem dX5_cardIn_15 : decode cX5_cardIn 15 = .ok (.new 110, 3) := by decide +kernel
theorem dX5_cardIn_18 : decode cX5_cardIn 18 = .ok (.dup, 1) := by decide +kernel
theorem dX5_cardIn_19 : decode cX5_cardIn 19 = .ok (.ldc 112, 2) := by decide +kernel
theorem dX5_cardIn_21 : decode cX5_cardIn 21 = .ok (.invokespecial 114, 3) := by decide +kernel
theorem dX5_cardIn_24 : decode cX5_cardIn 24 = .ok (.athrow, 1) := by decide +kernel
theorem dX5_cardIn_25 : decode cX5_cardIn 25 = .ok (.aload_n 0, 1) := by decide +kernel
theorem dX5_cardIn_26 : decode cX5_cardIn 26 = .ok (.getfield 10, 3) := by decide +kernel
theorem dX5_cardIn_29 : decode cX5_cardIn 29 = .ok (.iload_n 1, 1) := by decide +kernel
theorem dX5_cardIn_30 : decode cX5_cardIn 30 = .ok (.invokevirtual 115, 3) := by decide +kernel
theorem dX5_cardIn_33 : decode cX5_cardIn 33 = .ok (.ireturn, 1) := by decide +kernel
set_option maxRecDepth 20000 in
theorem ggX5_won_X1_tricksOf : GoodIn wsX5_won wsX1_tricksOf := goodIn_r _ [8, 9, 10, 11, 7, 12, 13, 14, 15, 16, 17, 18, 19, 20, 21, 22, 26, 27, 28, 29, 30, 31, 32, 33] (by decide +kernel) (by decide +kernel)
set_option maxRecDepth 20000 in
theorem gX5_won_X1_tricksOf : GoodIn wsX5_won (wsV RX5 120 RX1 yX1_tricksOf wsX1_tricksOf) := goodIn_app (goodIn_of _ (by decide +kernel)) ggX5_won_X1_tricksOf
theorem dX5_won_0 : decode cX5_won 0 = .ok (.iload_n 1, 1) := by decide +kernel
theorem dX5_won_1 : decode cX5_won 1 = .ok (.ifCond .lt 8, 3) := by decide +kernel
theorem dX5_won_4 : decode cX5_won 4 = .ok (.iload_n 1, 1) := by decide +kernel
theorem dX5_won_5 : decode cX5_won 5 = .ok (.iconst 2, 1) := by decide +kernel
theorem dX5_won_6 : decode cX5_won 6 = .ok (.if_icmp .lt 13, 3) := by decide +kernel
theorem dX5_won_9 : decode cX5_won 9 = .ok (.new 34, 3) := by decide +kernel
theorem dX5_won_12 : decode cX5_won 12 = .ok (.dup, 1) := by decide +kernel
theorem dX5_won_13 : decode cX5_won 13 = .ok (.ldc 118, 2) := by decide +kernel
theorem dX5_won_15 : decode cX5_won 15 = .ok (.invokespecial 38, 3) := by decide +kernel
theorem dX5_won_18 : decode cX5_won 18 = .ok (.athrow, 1) := by decide +kernel
theorem dX5_won_19 : decode cX5_won 19 = .ok (.aload_n 0, 1) := by decide +kernel
theorem dX5_won_20 : decode cX5_won 20 = .ok (.getfield 10, 3) := by decide +kernel
theorem dX5_won_23 : decode cX5_won 23 = .ok (.iload_n 1, 1) := by decide +kernel
theorem dX5_won_24 : decode cX5_won 24 = .ok (.invokevirtual 120, 3) := by decide +kernel
theorem dX5_won_27 : decode cX5_won 27 = .ok (.ireturn, 1) := by decide +kernel
set_option maxRecDepth 20000 in
theorem ggX5_solve_X5_needStarted : GoodIn wsX5_solve wsX5_needStarted := goodIn_ca (goodIn_r _ [6, 7, 8, 9, 10, 11, 12, 13, 14, 15, 187, 188, 189, 190, 191, 192, 193, 194, 195, 196, 197] (by decide +kernel) (by decide +kernel)) (goodIn_sub (fun _ h => List.mem_cons_of_mem _ (List.mem_append_right _ h)) (by decide +kernel))
set_option maxRecDepth 20000 in
theorem gX5_solve_X5_needStarted : GoodIn wsX5_solve (wsV RX5 123 RX5 yX5_needStarted wsX5_needStarted) := goodIn_app (goodIn_of _ (by decide +kernel)) ggX5_solve_X5_needStarted
set_option maxRecDepth 20000 in
theorem ggX5_solve_X4_mostOfSide0 : GoodIn wsX5_solve wsX4_mostOfSide0 := goodIn_r _ [20, 21, 22, 23, 24, 13, 25, 26, 27, 28, 29, 30, 31, 32, 33, 34, 35, 36, 37, 38, 19, 39, 40, 41, 42, 43, 44, 45, 46, 47, 48, 49, 50, 51, 52, 53, 54, 55, 56, 57, 58, 59, 60, 61, 62, 63, 64, 65, 66, 67, 68, 69, 70, 71, 72, 73, 74, 75, 76, 77, 78, 79, 80, 81, 82, 83, 84, 85, 86, 87, 88, 89, 90, 91, 92, 93, 94, 95, 15, 96, 97, 98, 99, 100, 101, 102, 103, 104, 105, 106, 107, 108, 109, 110, 111, 112, 113, 114, 115, 116, 117, 118, 119, 120, 121, 122, 123, 124, 125, 126, 127, 128, 129, 130, 131, 132, 133, 134, 135, 136, 137, 138, 139, 140, 141, 142, 143, 144, 145, 146, 147, 148, 149, 150, 151, 152, 153, 154, 155, 156, 157, 158, 159, 160, 161, 162, 163, 164, 165, 166, 167, 168, 169, 170, 171, 172, 173, 174, 175, 176, 177, 178, 179, 180, 181, 182, 183, 184, 185, 186, 198, 199, 190, 191, 192, 193, 194, 195, 196, 197, 200] (by decide +kernel) (by decide +kernel)
set_option maxRecDepth 20000 in
theorem gX5_solve_X4_mostOfSide0 : GoodIn wsX5_solve (wsV RX5 126 RX4 yX4_mostOfSide0 wsX4_mostOfSide0) := goodIn_app (goodIn_of _ (by decide +kernel)) ggX5_solve_X4_mostOfSide0
theorem dX5_solve_0 : decode cX5_solve 0 = .ok (.aload_n 0, 1) := by decide +kernel
theorem dX5_solve_1 : decode cX5_solve 1 = .ok (.invokevirtual 123, 3) := by decide +kernel
theorem dX5_solve_4 : decode cX5_solve 4 = .ok (.aload_n 0, 1) := by decide +kernel
theorem dX5_solve_5 : decode cX5_solve 5 = .ok (.getfield 21, 3) := by decide +kernel
theorem dX5_solve_8 : decode cX5_solve 8 = .ok (.invokevirtual 126, 3) := by decide +kernel
theorem dX5_solve_11 : decode cX5_solve 11 = .ok (.ireturn, 1) := by decide +kernel
set_option maxRecDepth 20000 in
theorem ggX5_solveByAll_X5_needStarted : GoodIn wsX5_solveByAll wsX5_needStarted := goodIn_ca (goodIn_r _ [8, 1, 2, 3, 9, 10, 11, 12, 13, 14, 115, 116, 117, 118, 119, 120, 121, 122, 123, 124, 125] (by decide +kernel) (by decide +kernel)) (goodIn_sub (fun _ h => List.mem_cons_of_mem _ (List.mem_append_right _ h)) (by decide +kernel))
set_option maxRecDepth 20000 in
theorem gX5_solveByAll_X5_needStarted : GoodIn wsX5_solveByAll (wsV RX5 123 RX5 yX5_needStarted wsX5_needStarted) := goodIn_app (goodIn_of _ (by decide +kernel)) ggX5_solveByAll_X5_needStarted
set_option maxRecDepth 20000 in
theorem ggX5_solveByAll_X1_cardsLeft : GoodIn wsX5_solveByAll wsX1_cardsLeft := goodIn_r _ [18, 19, 20, 118, 119, 120, 121, 122, 123, 124, 125] (by decide +kernel) (by decide +kernel)
set_option maxRecDepth 20000 in
theorem gX5_solveByAll_X1_cardsLeft : GoodIn wsX5_solveByAll (wsV RX5 129 RX1 yX1_cardsLeft wsX1_cardsLeft) := goodIn_app (goodIn_of _ (by decide +kernel)) ggX5_solveByAll_X1_cardsLeft
set_option maxRecDepth 20000 in
theorem ggX5_solveByAll_X4_byAllPlays : GoodIn wsX5_solveByAll wsX4_byAllPlays := goodIn_r _ [23, 24, 25, 26, 27, 28, 29, 30, 31, 32, 33, 12, 34, 14, 35, 16, 17, 18, 19, 20, 36, 37, 38, 39, 40, 41, 42, 43, 44, 45, 46, 47, 48, 49, 50, 51, 52, 53, 54, 55, 56, 57, 58, 59, 60, 61, 62, 63, 64, 65, 66, 67, 68, 69, 70, 71, 72, 73, 74, 75, 76, 77, 78, 79, 80, 81, 82, 83, 84, 85, 86, 87, 88, 89, 90, 91, 92, 93, 94, 95, 96, 97, 98, 99, 100, 101, 102, 103, 104, 22, 105, 106, 21, 107, 108, 109, 110, 111, 112, 113, 114, 118, 119, 120, 121, 122, 123, 124, 125] (by decide +kernel) (by decide +kernel)
set_option maxRecDepth 20000 in
theorem gX5_solveByAll_X4_byAllPlays_n134 : GoodIn wsX5_solveByAll (wsX4_byAllPlays) := ggX5_solveByAll_X4_byAllPlays
theorem dX5_solveByAll_0 : decode cX5_solveByAll 0 = .ok (.aload_n 0, 1) := by decide +kernel
theorem dX5_solveByAll_1 : decode cX5_solveByAll 1 = .ok (.invokevirtual 123, 3) := by decide +kernel
theorem dX5_solveByAll_4 : decode cX5_solveByAll 4 = .ok (.aload_n 0, 1) := by decide +kernel
theorem dX5_solveByAll_5 : decode cX5_solveByAll 5 = .ok (.getfield 10, 3) := by decide +kernel
theorem dX5_solveByAll_8 : decode cX5_solveByAll 8 = .ok (.invokevirtual 129, 3) := by decide +kernel
theorem dX5_solveByAll_11 : decode cX5_solveByAll 11 = .ok (.bipush 12, 2) := by decide +kernel
theorem dX5_solveByAll_13 : decode cX5_solveByAll 13 = .ok (.if_icmp .le 13, 3) := by decide +kernel
theorem dX5_solveByAll_16 : decode cX5_solveByAll 16 = .ok (.new 56, 3) := by decide +kernel
theorem dX5_solveByAll_19 : decode cX5_solveByAll 19 = .ok (.dup, 1) := by decide +kernel
theorem dX5_solveByAll_20 : decode cX5_solveByAll 20 = .ok (.ldc 132, 2) := by decide +kernel
theorem dX5_solveByAll_22 : decode cX5_solveByAll 22 = .ok (.invokespecial 60, 3) := by decide +kernel
theorem dX5_solveByAll_25 : decode cX5_solveByAll 25 = .ok (.athrow, 1) := by decide +kernel
theorem dX5_solveByAll_26 : decode cX5_solveByAll 26 = .ok (.aload_n 0, 1) := by decide +kernel
theorem dX5_solveByAll_27 : decode cX5_solveByAll 27 = .ok (.getfield 10, 3) := by decide +kernel
theorem dX5_solveByAll_30 : decode cX5_solveByAll 30 = .ok (.aload_n 0, 1) := by decide +kernel
theorem dX5_solveByAll_31 : decode cX5_solveByAll 31 = .ok (.getfield 10, 3) := by decide +kernel
theorem dX5_solveByAll_34 : decode cX5_solveByAll 34 = .ok (.invokevirtual 129, 3) := by decide +kernel
theorem dX5_solveByAll_37 : decode cX5_solveByAll 37 = .ok (.invokestatic 134, 3) := by decide +kernel
theorem dX5_solveByAll_40 : decode cX5_solveByAll 40 = .ok (.ireturn, 1) := by decide +kernel
set_option maxRecDepth 20000 in
theorem ggX5_value_X5_needCard : GoodIn wsX5_value wsX5_needCard := goodIn_ca (goodIn_r _ [5, 6, 7] (by decide +kernel) (by decide +kernel)) (goodIn_sub (fun _ h => List.mem_cons_of_mem _ (List.mem_append_left _ (List.mem_append_right _ h))) (by decide +kernel))
set_option maxRecDepth 20000 in
theorem gX5_value_X5_needCard : GoodIn wsX5_value (va_wsS RX5 49 yX5_needCard wsX5_needCard) := goodIn_app (goodIn_of _ (by decide +kernel)) ggX5_value_X5_needCard
set_option maxRecDepth 20000 in
theorem ggX5_value_X5_needPlayable : GoodIn wsX5_value wsX5_needPlayable := goodIn_ca (goodIn_r _ [11, 12, 13, 14, 15, 16, 17, 18, 19, 20, 21, 22, 23, 24, 25, 26, 27, 28, 29, 30, 31, 32, 33, 34, 35, 36, 37, 38, 39, 40, 41, 42, 43, 44, 45, 46, 47, 48, 49, 50, 51, 52, 53, 54, 55, 56, 57, 58, 59, 60, 61, 62, 63, 64, 65, 66, 67, 190, 191, 192, 193, 194, 195, 196, 197, 198, 199, 200] (by decide +kernel) (by decide +kernel)) (goodIn_sub (fun _ h => List.mem_cons_of_mem _ (List.mem_append_right _ h)) (by decide +kernel))
set_option maxRecDepth 20000 in
theorem gX5_value_X5_needPlayable : GoodIn wsX5_value (wsV RX5 80 RX5 yX5_needPlayable wsX5_needPlayable) := goodIn_app (goodIn_of _ (by decide +kernel)) ggX5_value_X5_needPlayable
set_option maxRecDepth 20000 in
theorem ggX5_value_X4_worthOf : GoodIn wsX5_value wsX4_worthOf := goodIn_r _ [72, 73, 74, 75, 76, 18, 77, 29, 31, 32, 33, 34, 30, 78, 21, 22, 23, 24, 25, 26, 27, 28, 35, 36, 37, 38, 39, 40, 41, 42, 43, 79, 80, 60, 81, 82, 83, 84, 85, 57, 20, 86, 87, 88, 89, 48, 90, 91, 92, 93, 53, 54, 55, 56, 94, 95, 96, 97, 98, 99, 100, 71, 101, 102, 103, 104, 105, 106, 107, 108, 109, 110, 111, 112, 113, 114, 115, 116, 117, 118, 119, 120, 121, 122, 123, 124, 125, 126, 127, 128, 129, 130, 131, 132, 133, 134, 135, 136, 137, 138, 139, 140, 141, 142, 143, 144, 145, 146, 147, 148, 149, 150, 16, 17, 19, 44, 45, 46, 47, 49, 50, 51, 52, 58, 59, 61, 62, 63, 64, 151, 152, 153, 154, 155, 156, 157, 158, 159, 160, 161, 162, 163, 164, 165, 166, 167, 168, 169, 170, 171, 172, 173, 174, 175, 66, 67, 176, 177, 178, 179, 180, 181, 182, 183, 184, 185, 186, 187, 188, 189, 201, 202, 193, 194, 195, 196, 197, 198, 199, 200, 203] (by decide +kernel) (by decide +kernel)
set_option maxRecDepth 20000 in
theorem gX5_value_X4_worthOf : GoodIn wsX5_value (wsV RX5 138 RX4 yX4_worthOf wsX4_worthOf) := goodIn_app (goodIn_of _ (by decide +kernel)) ggX5_value_X4_worthOf
theorem dX5_value_0 : decode cX5_value 0 = .ok (.iload_n 1, 1) := by decide +kernel
theorem dX5_value_1 : decode cX5_value 1 = .ok (.invokestatic 49, 3) := by decide +kernel
theorem dX5_value_4 : decode cX5_value 4 = .ok (.aload_n 0, 1) := by decide +kernel
theorem dX5_value_5 : decode cX5_value 5 = .ok (.iload_n 1, 1) := by decide +kernel
theorem dX5_value_6 : decode cX5_value 6 = .ok (.invokevirtual 80, 3) := by decide +kernel
theorem dX5_value_9 : decode cX5_value 9 = .ok (.aload_n 0, 1) := by decide +kernel
theorem dX5_value_10 : decode cX5_value 10 = .ok (.getfield 21, 3) := by decide +kernel
theorem dX5_value_13 : decode cX5_value 13 = .ok (.iload_n 1, 1) := by decide +kernel
theorem dX5_value_14 : decode cX5_value 14 = .ok (.invokevirtual 138, 3) := by decide +kernel
theorem dX5_value_17 : decode cX5_value 17 = .ok (.ireturn, 1) := by decide +kernel
set_option maxRecDepth 20000 in
theorem ggX5_bestCard_X1_mover : GoodIn wsX5_bestCard wsX1_mover := goodIn_r _ [9, 10, 11, 12, 13, 8, 14, 15, 16, 17, 18, 19, 20, 21, 22, 23, 24, 25, 26, 27, 28, 29, 187, 188, 189, 190, 191, 192, 193, 194] (by decide +kernel) (by decide +kernel)
set_option maxRecDepth 20000 in
theorem gX5_bestCard_X1_mover : GoodIn wsX5_bestCard (wsV RX5 101 RX1 yX1_mover wsX1_mover) := goodIn_app (goodIn_of _ (by decide +kernel)) ggX5_bestCard_X1_mover
set_option maxRecDepth 20000 in
theorem ggX5_bestCard_X4_bestPlay : GoodIn wsX5_bestCard wsX4_bestPlay := goodIn_r _ [34, 35, 36, 37, 38, 8, 39, 40, 6, 7, 9, 10, 11, 12, 13, 14, 15, 16, 17, 18, 19, 20, 21, 22, 23, 24, 25, 26, 27, 28, 29, 41, 42, 43, 44, 45, 46, 47, 48, 49, 50, 51, 52, 53, 54, 55, 56, 57, 58, 59, 60, 61, 62, 63, 64, 65, 66, 67, 68, 69, 70, 71, 72, 73, 74, 75, 76, 77, 78, 79, 80, 81, 82, 83, 84, 85, 86, 87, 88, 89, 90, 91, 92, 93, 94, 95, 96, 33, 97, 98, 99, 100, 101, 102, 103, 104, 105, 106, 107, 108, 109, 110, 111, 112, 113, 114, 115, 116, 117, 118, 119, 120, 121, 122, 123, 124, 125, 126, 127, 128, 129, 130, 131, 132, 133, 134, 135, 136, 137, 138, 139, 140, 141, 142, 143, 144, 145, 146, 147, 148, 149, 150, 151, 152, 153, 154, 155, 156, 157, 158, 159, 160, 161, 162, 163, 164, 165, 166, 167, 168, 169, 170, 171, 172, 173, 174, 175, 176, 177, 178, 179, 180, 181, 182, 183, 195, 196, 187, 188, 189, 190, 191, 192, 193, 194, 197] (by decide +kernel) (by decide +kernel)
set_option maxRecDepth 20000 in
theorem gX5_bestCard_X4_bestPlay : GoodIn wsX5_bestCard (wsV RX5 143 RX4 yX4_bestPlay wsX4_bestPlay) := goodIn_app (goodIn_of _ (by decide +kernel)) ggX5_bestCard_X4_bestPlay
theorem dX5_bestCard_0 : decode cX5_bestCard 0 = .ok (.aload_n 0, 1) := by decide +kernel
theorem dX5_bestCard_1 : decode cX5_bestCard 1 = .ok (.getfield 10, 3) := by decide +kernel
theorem dX5_bestCard_4 : decode cX5_bestCard 4 = .ok (.invokevirtual 101, 3) := by decide +kernel
theorem dX5_bestCard_7 : decode cX5_bestCard 7 = .ok (.iconst (-1), 1) := by decide +kernel
theorem dX5_bestCard_8 : decode cX5_bestCard 8 = .ok (.if_icmp .ne 13, 3) := by decide +kernel
theorem dX5_bestCard_11 : decode cX5_bestCard 11 = .ok (.new 56, 3) := by decide +kernel
theorem dX5_bestCard_14 : decode cX5_bestCard 14 = .ok (.dup, 1) := by decide +kernel
theorem dX5_bestCard_15 : decode cX5_bestCard 15 = .ok (.ldc 141, 2) := by decide +kernel
theorem dX5_bestCard_17 : decode cX5_bestCard 17 = .ok (.invokespecial 60, 3) := by decide +kernel
theorem dX5_bestCard_20 : decode cX5_bestCard 20 = .ok (.athrow, 1) := by decide +kernel
theorem dX5_bestCard_21 : decode cX5_bestCard 21 = .ok (.aload_n 0, 1) := by decide +kernel
theorem dX5_bestCard_22 : decode cX5_bestCard 22 = .ok (.getfield 21, 3) := by decide +kernel
theorem dX5_bestCard_25 : decode cX5_bestCard 25 = .ok (.invokevirtual 143, 3) := by decide +kernel
theorem dX5_bestCard_28 : decode cX5_bestCard 28 = .ok (.ireturn, 1) := by decide +kernel
set_option maxRecDepth 20000 in
theorem ggX5_lowestEqual_X5_needCard : GoodIn wsX5_lowestEqual wsX5_needCard := goodIn_ca (goodIn_r _ [5, 6, 7] (by decide +kernel) (by decide +kernel)) (goodIn_sub (fun _ h => List.mem_cons_of_mem _ (List.mem_append_left _ (List.mem_append_right _ h))) (by decide +kernel))
set_option maxRecDepth 20000 in
theorem gX5_lowestEqual_X5_needCard : GoodIn wsX5_lowestEqual (va_wsS RX5 49 yX5_needCard wsX5_needCard) := goodIn_app (goodIn_of _ (by decide +kernel)) ggX5_lowestEqual_X5_needCard
set_option maxRecDepth 20000 in
theorem ggX5_lowestEqual_X5_needInHand : GoodIn wsX5_lowestEqual wsX5_needInHand := goodIn_ca (goodIn_r _ [11, 12, 13, 14, 15, 16, 17, 18, 19, 20, 21, 22, 23, 24, 66, 67, 68, 69, 70, 71, 72, 73, 74, 75, 76] (by decide +kernel) (by decide +kernel)) (goodIn_sub (fun _ h => List.mem_cons_of_mem _ (List.mem_append_right _ h)) (by decide +kernel))
set_option maxRecDepth 20000 in
theorem gX5_lowestEqual_X5_needInHand : GoodIn wsX5_lowestEqual (wsV RX5 146 RX5 yX5_needInHand wsX5_needInHand) := goodIn_app (goodIn_of _ (by decide +kernel)) ggX5_lowestEqual_X5_needInHand
set_option maxRecDepth 20000 in
theorem ggX5_lowestEqual_X3_lowestLike : GoodIn wsX5_lowestEqual wsX3_lowestLike := goodIn_r _ [29, 30, 31, 16, 17, 18, 19, 20, 21, 22, 23, 24, 32, 33, 34, 35, 36, 37, 38, 39, 40, 41, 42, 43, 44, 45, 46, 47, 48, 49, 50, 51, 52, 53, 54, 55, 56, 57, 58, 59, 60, 61, 62, 63, 64, 65, 77, 69, 70, 71, 72, 73, 74, 75, 76] (by decide +kernel) (by decide +kernel)
set_option maxRecDepth 20000 in
theorem gX5_lowestEqual_X3_lowestLike : GoodIn wsX5_lowestEqual (wsV RX5 149 RX3 yX3_lowestLike wsX3_lowestLike) := goodIn_app (goodIn_of _ (by decide +kernel)) ggX5_lowestEqual_X3_lowestLike
theorem dX5_lowestEqual_0 : decode cX5_lowestEqual 0 = .ok (.iload_n 1, 1) := by decide +kernel
theorem dX5_lowestEqual_1 : decode cX5_lowestEqual 1 = .ok (.invokestatic 49, 3) := by decide +kernel
theorem dX5_lowestEqual_4 : decode cX5_lowestEqual 4 = .ok (.aload_n 0, 1) := by decide +kernel
theorem dX5_lowestEqual_5 : decode cX5_lowestEqual 5 = .ok (.iload_n 1, 1) := by decide +kernel
theorem dX5_lowestEqual_6 : decode cX5_lowestEqual 6 = .ok (.invokevirtual 146, 3) := by decide +kernel
theorem dX5_lowestEqual_9 : decode cX5_lowestEqual 9 = .ok (.aload_n 0, 1) := by decide +kernel
theorem dX5_lowestEqual_10 : decode cX5_lowestEqual 10 = .ok (.getfield 28, 3) := by decide +kernel
theorem dX5_lowestEqual_13 : decode cX5_lowestEqual 13 = .ok (.iload_n 1, 1) := by decide +kernel
theorem dX5_lowestEqual_14 : decode cX5_lowestEqual 14 = .ok (.invokevirtual 149, 3) := by decide +kernel
theorem dX5_lowestEqual_17 : decode cX5_lowestEqual 17 = .ok (.ireturn, 1) := by decide +kernel
set_option maxRecDepth 20000 in
theorem ggX5_unlike_X5_needPlayer : GoodIn wsX5_unlike wsX5_needPlayer := goodIn_ca (goodIn_r _ [5, 6, 7] (by decide +kernel) (by decide +kernel)) (goodIn_sub (fun _ h => List.mem_cons_of_mem _ (List.mem_append_right _ h)) (by decide +kernel))
set_option maxRecDepth 20000 in
theorem gX5_unlike_X5_needPlayer : GoodIn wsX5_unlike (va_wsS RX5 45 yX5_needPlayer wsX5_needPlayer) := goodIn_app (goodIn_of _ (by decide +kernel)) ggX5_unlike_X5_needPlayer
set_option maxRecDepth 20000 in
theorem ggX5_unlike_X1_handOf : GoodIn wsX5_unlike wsX1_handOf := goodIn_r _ [12, 13, 67, 68, 69, 70, 71, 72, 73, 74] (by decide +kernel) (by decide +kernel)
set_option maxRecDepth 20000 in
theorem gX5_unlike_X1_handOf : GoodIn wsX5_unlike (wsV RX5 104 RX1 yX1_handOf wsX1_handOf) := goodIn_app (goodIn_of _ (by decide +kernel)) ggX5_unlike_X1_handOf
set_option maxRecDepth 20000 in
theorem ggX5_unlike_X1_out : GoodIn wsX5_unlike wsX1_out := goodIn_r _ [17, 18, 19, 20, 21, 11, 22, 13, 23, 24, 25, 26, 27, 28, 29, 30, 31, 32, 33, 34, 35, 36, 67, 68, 69, 70, 71, 72, 73, 74] (by decide +kernel) (by decide +kernel)
set_option maxRecDepth 20000 in
theorem gX5_unlike_X1_out : GoodIn wsX5_unlike (wsV RX5 152 RX1 yX1_out wsX1_out) := goodIn_app (goodIn_of _ (by decide +kernel)) ggX5_unlike_X1_out
set_option maxRecDepth 20000 in
theorem ggX5_unlike_X0_lowestOfEquals : GoodIn wsX5_unlike wsX0_lowestOfEquals := goodIn_r _ [40, 41, 42, 39, 43, 44, 45, 46, 47, 48, 49, 50, 51, 52, 53, 54, 55, 56, 57] (by decide +kernel) (by decide +kernel)
set_option maxRecDepth 20000 in
theorem gX5_unlike_X0_lowestOfEquals : GoodIn wsX5_unlike (va_wsS RX5 155 yX0_lowestOfEquals wsX0_lowestOfEquals) := goodIn_app (goodIn_of _ (by decide +kernel)) ggX5_unlike_X0_lowestOfEquals
set_option maxRecDepth 20000 in
theorem ggX5_unlike_J6_bitCount_0f7a4 : GoodIn wsX5_unlike wsJ6_bitCount_0f7a4 := goodIn_r _ [60, 61, 62, 63] (by decide +kernel) (by decide +kernel)
set_option maxRecDepth 20000 in
theorem gX5_unlike_J6_bitCount_0f7a4 : GoodIn wsX5_unlike (va_wsS RX5 158 yJ6_bitCount_0f7a4 wsJ6_bitCount_0f7a4) := goodIn_app (goodIn_of _ (by decide +kernel)) ggX5_unlike_J6_bitCount_0f7a4
theorem dX5_unlike_0 : decode cX5_unlike 0 = .ok (.iload_n 1, 1) := by decide +kernel
theorem dX5_unlike_1 : decode cX5_unlike 1 = .ok (.invokestatic 45, 3) := by decide +kernel
theorem dX5_unlike_4 : decode cX5_unlike 4 = .ok (.aload_n 0, 1) := by decide +kernel
theorem dX5_unlike_5 : decode cX5_unlike 5 = .ok (.getfield 10, 3) := by decide +kernel
theorem dX5_unlike_8 : decode cX5_unlike 8 = .ok (.iload_n 1, 1) := by decide +kernel
theorem dX5_unlike_9 : decode cX5_unlike 9 = .ok (.invokevirtual 104, 3) := by decide +kernel
theorem dX5_unlike_12 : decode cX5_unlike 12 = .ok (.aload_n 0, 1) := by decide +kernel
theorem dX5_unlike_13 : decode cX5_unlike 13 = .ok (.getfield 10, 3) := by decide +kernel
theorem dX5_unlike_16 : decode cX5_unlike 16 = .ok (.invokevirtual 152, 3) := by decide +kernel
theorem dX5_unlike_19 : decode cX5_unlike 19 = .ok (.invokestatic 155, 3) := by decide +kernel
theorem dX5_unlike_22 : decode cX5_unlike 22 = .ok (.invokestatic 158, 3) := by decide +kernel
theorem dX5_unlike_25 : decode cX5_unlike 25 = .ok (.ireturn, 1) := by decide +kernel
set_option maxRecDepth 20000 in
theorem ggX5_isTop_X5_needCard : GoodIn wsX5_isTop wsX5_needCard := goodIn_ca (goodIn_r _ [6, 7, 8] (by decide +kernel) (by decide +kernel)) (goodIn_sub (fun _ h => List.mem_cons_of_mem _ (List.mem_append_left _ (List.mem_append_right _ h))) (by decide +kernel))
set_option maxRecDepth 20000 in
theorem gX5_isTop_X5_needCard : GoodIn wsX5_isTop (va_wsS RX5 49 yX5_needCard wsX5_needCard) := goodIn_app (goodIn_of _ (by decide +kernel)) ggX5_isTop_X5_needCard
set_option maxRecDepth 20000 in
theorem ggX5_isTop_X5_needInHand : GoodIn wsX5_isTop wsX5_needInHand := goodIn_ca (goodIn_r _ [12, 13, 14, 2, 15, 16, 17, 18, 19, 20, 21, 22, 23, 24, 67, 68, 69, 70, 71, 72, 73, 74, 75, 76, 77] (by decide +kernel) (by decide +kernel)) (goodIn_sub (fun _ h => List.mem_cons_of_mem _ (List.mem_append_right _ h)) (by decide +kernel))
set_option maxRecDepth 20000 in
theorem gX5_isTop_X5_needInHand : GoodIn wsX5_isTop (wsV RX5 146 RX5 yX5_needInHand wsX5_needInHand) := goodIn_app (goodIn_of _ (by decide +kernel)) ggX5_isTop_X5_needInHand
set_option maxRecDepth 20000 in
theorem ggX5_isTop_X1_ownerOf : GoodIn wsX5_isTop wsX1_ownerOf := goodIn_r _ [19, 20, 21, 22, 23, 24, 70, 71, 72, 73, 74, 75, 76, 77] (by decide +kernel) (by decide +kernel)
set_option maxRecDepth 20000 in
theorem gX5_isTop_X1_ownerOf : GoodIn wsX5_isTop (wsV RX5 163 RX1 yX1_ownerOf wsX1_ownerOf) := goodIn_app (goodIn_of _ (by decide +kernel)) ggX5_isTop_X1_ownerOf
set_option maxRecDepth 20000 in
theorem ggX5_isTop_X3_isHighest : GoodIn wsX5_isTop wsX3_isHighest := goodIn_r _ [29, 30, 31, 32, 33, 18, 34, 20, 35, 36, 37, 38, 39, 40, 41, 42, 43, 44, 45, 46, 47, 48, 49, 50, 51, 52, 53, 54, 23, 55, 56, 57, 58, 59, 60, 61, 62, 63, 64, 65, 66, 78, 70, 71, 72, 73, 74, 75, 76, 77] (by decide +kernel) (by decide +kernel)
set_option maxRecDepth 20000 in
theorem gX5_isTop_X3_isHighest : GoodIn wsX5_isTop (wsV RX5 166 RX3 yX3_isHighest wsX3_isHighest) := goodIn_app (goodIn_of _ (by decide +kernel)) ggX5_isTop_X3_isHighest
theorem dX5_isTop_0 : decode cX5_isTop 0 = .ok (.iload_n 1, 1) := by decide +kernel
theorem dX5_isTop_1 : decode cX5_isTop 1 = .ok (.invokestatic 49, 3) := by decide +kernel
theorem dX5_isTop_4 : decode cX5_isTop 4 = .ok (.aload_n 0, 1) := by decide +kernel
theorem dX5_isTop_5 : decode cX5_isTop 5 = .ok (.iload_n 1, 1) := by decide +kernel
theorem dX5_isTop_6 : decode cX5_isTop 6 = .ok (.invokevirtual 146, 3) := by decide +kernel
theorem dX5_isTop_9 : decode cX5_isTop 9 = .ok (.aload_n 0, 1) := by decide +kernel
theorem dX5_isTop_10 : decode cX5_isTop 10 = .ok (.getfield 28, 3) := by decide +kernel
theorem dX5_isTop_13 : decode cX5_isTop 13 = .ok (.iload_n 1, 1) := by decide +kernel
theorem dX5_isTop_14 : decode cX5_isTop 14 = .ok (.aload_n 0, 1) := by decide +kernel
theorem dX5_isTop_15 : decode cX5_isTop 15 = .ok (.getfield 10, 3) := by decide +kernel
theorem dX5_isTop_18 : decode cX5_isTop 18 = .ok (.iload_n 1, 1) := by decide +kernel
theorem dX5_isTop_19 : decode cX5_isTop 19 = .ok (.invokevirtual 163, 3) := by decide +kernel
theorem dX5_isTop_22 : decode cX5_isTop 22 = .ok (.invokevirtual 166, 3) := by decide +kernel
theorem dX5_isTop_25 : decode cX5_isTop 25 = .ok (.ireturn, 1) := by decide +kernel
set_option maxRecDepth 20000 in
theorem ggX5_quick_X5_needPlayer : GoodIn wsX5_quick wsX5_needPlayer := goodIn_ca (goodIn_r _ [5, 6, 7] (by decide +kernel) (by decide +kernel)) (goodIn_sub (fun _ h => List.mem_cons_of_mem _ (List.mem_append_right _ h)) (by decide +kernel))
set_option maxRecDepth 20000 in
theorem gX5_quick_X5_needPlayer : GoodIn wsX5_quick (va_wsS RX5 45 yX5_needPlayer wsX5_needPlayer) := goodIn_app (goodIn_of _ (by decide +kernel)) ggX5_quick_X5_needPlayer
set_option maxRecDepth 20000 in
theorem ggX5_quick_X3_quickTricks : GoodIn wsX5_quick wsX3_quickTricks := goodIn_r _ [12, 13, 14, 15, 16, 17, 18, 19, 20, 21, 22, 23, 24, 25, 26, 11, 27, 28, 29, 30, 31, 32, 33, 34, 35, 36, 37, 38, 39, 40, 41, 42, 43, 44, 45, 46, 47, 48, 49, 50, 51, 52, 53, 54, 55, 56, 57, 58, 59, 63, 64, 65, 66, 67, 68, 69, 70, 71] (by decide +kernel) (by decide +kernel)
set_option maxRecDepth 20000 in
theorem gX5_quick_X3_quickTricks : GoodIn wsX5_quick (wsV RX5 169 RX3 yX3_quickTricks wsX3_quickTricks) := goodIn_app (goodIn_of _ (by decide +kernel)) ggX5_quick_X3_quickTricks
theorem dX5_quick_0 : decode cX5_quick 0 = .ok (.iload_n 1, 1) := by decide +kernel
theorem dX5_quick_1 : decode cX5_quick 1 = .ok (.invokestatic 45, 3) := by decide +kernel
theorem dX5_quick_4 : decode cX5_quick 4 = .ok (.aload_n 0, 1) := by decide +kernel
theorem dX5_quick_5 : decode cX5_quick 5 = .ok (.getfield 28, 3) := by decide +kernel
theorem dX5_quick_8 : decode cX5_quick 8 = .ok (.iload_n 1, 1) := by decide +kernel
theorem dX5_quick_9 : decode cX5_quick 9 = .ok (.invokevirtual 169, 3) := by decide +kernel
theorem dX5_quick_12 : decode cX5_quick 12 = .ok (.ireturn, 1) := by decide +kernel
set_option maxRecDepth 20000 in
theorem ggX5_fork_X5_needPlayer : GoodIn wsX5_fork wsX5_needPlayer := goodIn_ca (goodIn_r _ [7, 1, 2] (by decide +kernel) (by decide +kernel)) (goodIn_sub (fun _ h => List.mem_cons_of_mem _ (List.mem_append_right _ h)) (by decide +kernel))
set_option maxRecDepth 20000 in
theorem gX5_fork_X5_needPlayer : GoodIn wsX5_fork (va_wsS RX5 45 yX5_needPlayer wsX5_needPlayer) := goodIn_app (goodIn_of _ (by decide +kernel)) ggX5_fork_X5_needPlayer
set_option maxRecDepth 20000 in
theorem ggX5_fork_X3_forkKind : GoodIn wsX5_fork wsX3_forkKind := goodIn_r _ [12, 13, 14, 15, 16, 17, 18, 19, 20, 21, 22, 23, 24, 25, 26, 27, 28, 29, 30, 31, 32, 33, 34, 35, 36, 37, 38, 39, 40, 41, 42, 43, 44, 45, 46, 47, 51, 52, 53, 54, 55, 56, 57, 58, 59] (by decide +kernel) (by decide +kernel)
set_option maxRecDepth 20000 in
theorem gX5_fork_X3_forkKind : GoodIn wsX5_fork (wsV RX5 174 RX3 yX3_forkKind wsX3_forkKind) := goodIn_app (goodIn_of _ (by decide +kernel)) ggX5_fork_X3_forkKind
theorem dX5_fork_0 : decode cX5_fork 0 = .ok (.iload_n 1, 1) := by decide +kernel
theorem dX5_fork_1 : decode cX5_fork 1 = .ok (.invokestatic 45, 3) := by decide +kernel
theorem dX5_fork_4 : decode cX5_fork 4 = .ok (.iload_n 2, 1) := by decide +kernel
theorem dX5_fork_5 : decode cX5_fork 5 = .ok (.ifCond .lt 8, 3) := by decide +kernel
theorem dX5_fork_8 : decode cX5_fork 8 = .ok (.iload_n 2, 1) := by decide +kernel
theorem dX5_fork_9 : decode cX5_fork 9 = .ok (.iconst 4, 1) := by decide +kernel
theorem dX5_fork_10 : decode cX5_fork 10 = .ok (.if_icmp .lt 13, 3) := by decide +kernel
theorem dX5_fork_13 : decode cX5_fork 13 = .ok (.new 34, 3) := by decide +kernel
theorem dX5_fork_16 : decode cX5_fork 16 = .ok (.dup, 1) := by decide +kernel
theorem dX5_fork_17 : decode cX5_fork 17 = .ok (.ldc 172, 2) := by decide +kernel
theorem dX5_fork_19 : decode cX5_fork 19 = .ok (.invokespecial 38, 3) := by decide +kernel
theorem dX5_fork_22 : decode cX5_fork 22 = .ok (.athrow, 1) := by decide +kernel
theorem dX5_fork_23 : decode cX5_fork 23 = .ok (.aload_n 0, 1) := by decide +kernel
theorem dX5_fork_24 : decode cX5_fork 24 = .ok (.getfield 28, 3) := by decide +kernel
theorem dX5_fork_27 : decode cX5_fork 27 = .ok (.iload_n 1, 1) := by decide +kernel
theorem dX5_fork_28 : decode cX5_fork 28 = .ok (.iload_n 2, 1) := by decide +kernel
theorem dX5_fork_29 : decode cX5_fork 29 = .ok (.invokevirtual 174, 3) := by decide +kernel
theorem dX5_fork_32 : decode cX5_fork 32 = .ok (.ireturn, 1) := by decide +kernel
set_option maxRecDepth 20000 in
theorem ggX5_goodForks_X3_goodForksOf : GoodIn wsX5_goodForks wsX3_goodForksOf := goodIn_r _ [6, 7, 8, 9, 5, 10, 11, 12, 13, 14, 15, 16, 17, 18, 19, 20, 21, 22, 23, 24, 25, 26, 27, 28, 29, 30, 31, 32, 33, 34, 35, 36, 37, 38, 39, 40, 41, 42, 43, 44, 45, 49, 50, 51, 52, 53, 54, 55, 56, 57] (by decide +kernel) (by decide +kernel)
set_option maxRecDepth 20000 in
theorem gX5_goodForks_X3_goodForksOf : GoodIn wsX5_goodForks (wsV RX5 177 RX3 yX3_goodForksOf wsX3_goodForksOf) := goodIn_app (goodIn_of _ (by decide +kernel)) ggX5_goodForks_X3_goodForksOf
theorem dX5_goodForks_0 : decode cX5_goodForks 0 = .ok (.aload_n 0, 1) := by decide +kernel
theorem dX5_goodForks_1 : decode cX5_goodForks 1 = .ok (.getfield 28, 3) := by decide +kernel
theorem dX5_goodForks_4 : decode cX5_goodForks 4 = .ok (.iconst 0, 1) := by decide +kernel
theorem dX5_goodForks_5 : decode cX5_goodForks 5 = .ok (.invokevirtual 177, 3) := by decide +kernel
theorem dX5_goodForks_8 : decode cX5_goodForks 8 = .ok (.aload_n 0, 1) := by decide +kernel
theorem dX5_goodForks_9 : decode cX5_goodForks 9 = .ok (.getfield 28, 3) := by decide +kernel
theorem dX5_goodForks_12 : decode cX5_goodForks 12 = .ok (.iconst 1, 1) := by decide +kernel
theorem dX5_goodForks_13 : decode cX5_goodForks 13 = .ok (.invokevirtual 177, 3) := by decide +kernel
theorem dX5_goodForks_16 : decode cX5_goodForks 16 = .ok (.isub, 1) := by decide +kernel
theorem dX5_goodForks_17 : decode cX5_goodForks 17 = .ok (.ireturn, 1) := by decide +kernel
theorem dX5_needPlayer_0 : decode cX5_needPlayer 0 = .ok (.iload_n 0, 1) := by decide +kernel
theorem dX5_needPlayer_1 : decode cX5_needPlayer 1 = .ok (.ifCond .lt 8, 3) := by decide +kernel
theorem dX5_needPlayer_4 : decode cX5_needPlayer 4 = .ok (.iload_n 0, 1) := by decide +kernel
theorem dX5_needPlayer_5 : decode cX5_needPlayer 5 = .ok (.iconst 4, 1) := by decide +kernel
theorem dX5_needPlayer_6 : decode cX5_needPlayer 6 = .ok (.if_icmp .lt 13, 3) := by decide +kernel
theorem dX5_needPlayer_9 : decode cX5_needPlayer 9 = .ok (.new 34, 3) := by decide +kernel
theorem dX5_needPlayer_12 : decode cX5_needPlayer 12 = .ok (.dup, 1) := by decide +kernel
theorem dX5_needPlayer_13 : decode cX5_needPlayer 13 = .ok (.ldc 180, 2) := by decide +kernel
theorem dX5_needPlayer_15 : decode cX5_needPlayer 15 = .ok (.invokespecial 38, 3) := by decide +kernel
theorem dX5_needPlayer_18 : decode cX5_needPlayer 18 = .ok (.athrow, 1) := by decide +kernel
theorem dX5_needPlayer_19 : decode cX5_needPlayer 19 = .ok (.return_, 1) := by decide +kernel
theorem dX5_needCard_0 : decode cX5_needCard 0 = .ok (.iload_n 0, 1) := by decide +kernel
theorem dX5_needCard_1 : decode cX5_needCard 1 = .ok (.ifCond .lt 9, 3) := by decide +kernel
theorem dX5_needCard_4 : decode cX5_needCard 4 = .ok (.iload_n 0, 1) := by decide +kernel
theorem dX5_needCard_5 : decode cX5_needCard 5 = .ok (.bipush 24, 2) := by decide +kernel
theorem dX5_needCard_7 : decode cX5_needCard 7 = .ok (.if_icmp .lt 13, 3) := by decide +kernel
theorem dX5_needCard_10 : decode cX5_needCard 10 = .ok (.new 34, 3) := by decide +kernel
theorem dX5_needCard_13 : decode cX5_needCard 13 = .ok (.dup, 1) := by decide +kernel
theorem dX5_needCard_14 : decode cX5_needCard 14 = .ok (.ldc 182, 2) := by decide +kernel
theorem dX5_needCard_16 : decode cX5_needCard 16 = .ok (.invokespecial 38, 3) := by decide +kernel
theorem dX5_needCard_19 : decode cX5_needCard 19 = .ok (.athrow, 1) := by decide +kernel
theorem dX5_needCard_20 : decode cX5_needCard 20 = .ok (.return_, 1) := by decide +kernel
set_option maxRecDepth 20000 in
theorem ggX5_needPlayable_X1_playable : GoodIn wsX5_needPlayable wsX1_playable := goodIn_r _ [8, 9, 10, 11, 7, 12, 13, 14, 15, 16, 17, 18, 19, 20, 21, 22, 23, 24, 25, 26, 27, 28, 29, 30, 31, 32, 33, 34, 35, 36, 37, 38, 39, 40, 41, 42, 43, 44, 45, 46, 47, 48, 49, 50, 51, 52, 53, 60, 61, 62, 63, 64, 65, 66, 67] (by decide +kernel) (by decide +kernel)
set_option maxRecDepth 20000 in
theorem gX5_needPlayable_X1_playable : GoodIn wsX5_needPlayable (wsV RX5 95 RX1 yX1_playable wsX1_playable) := goodIn_app (goodIn_of _ (by decide +kernel)) ggX5_needPlayable_X1_playable
set_option maxRecDepth 20000 in
theorem ggX5_needPlayable_X0_holds : GoodIn wsX5_needPlayable wsX0_holds := goodIn_r _ [56] (by decide +kernel) (by decide +kernel)
set_option maxRecDepth 20000 in
theorem gX5_needPlayable_X0_holds : GoodIn wsX5_needPlayable (va_wsS RX5 98 yX0_holds wsX0_holds) := goodIn_app (goodIn_of _ (by decide +kernel)) ggX5_needPlayable_X0_holds
theorem dX5_needPlayable_0 : decode cX5_needPlayable 0 = .ok (.aload_n 0, 1) := by decide +kernel
theorem dX5_needPlayable_1 : decode cX5_needPlayable 1 = .ok (.getfield 10, 3) := by decide +kernel
theorem dX5_needPlayable_4 : decode cX5_needPlayable 4 = .ok (.invokevirtual 95, 3) := by decide +kernel
theorem dX5_needPlayable_7 : decode cX5_needPlayable 7 = .ok (.iload_n 1, 1) := by decide +kernel
theorem dX5_needPlayable_8 : decode cX5_needPlayable 8 = .ok (.invokestatic 98, 3) := by decide +kernel
theorem dX5_needPlayable_11 : decode cX5_needPlayable 11 = .ok (.ifCond .ne 13, 3) := by decide +kernel
theorem dX5_needPlayable_14 : decode cX5_needPlayable 14 = .ok (.new 56, 3) := by decide +kernel
theorem dX5_needPlayable_17 : decode cX5_needPlayable 17 = .ok (.dup, 1) := by decide +kernel
theorem dX5_needPlayable_18 : decode cX5_needPlayable 18 = .ok (.ldc 184, 2) := by decide +kernel
theorem dX5_needPlayable_20 : decode cX5_needPlayable 20 = .ok (.invokespecial 60, 3) := by decide +kernel
theorem dX5_needPlayable_23 : decode cX5_needPlayable 23 = .ok (.athrow, 1) := by decide +kernel
theorem dX5_needPlayable_24 : decode cX5_needPlayable 24 = .ok (.return_, 1) := by decide +kernel
set_option maxRecDepth 20000 in
theorem ggX5_needStarted_X1_isOpen : GoodIn wsX5_needStarted wsX1_isOpen := goodIn_r _ [8, 9, 13, 14, 15, 16, 17, 18, 19, 20] (by decide +kernel) (by decide +kernel)
set_option maxRecDepth 20000 in
theorem gX5_needStarted_X1_isOpen : GoodIn wsX5_needStarted (wsV RX5 77 RX1 yX1_isOpen wsX1_isOpen) := goodIn_app (goodIn_of _ (by decide +kernel)) ggX5_needStarted_X1_isOpen
theorem dX5_needStarted_0 : decode cX5_needStarted 0 = .ok (.aload_n 0, 1) := by decide +kernel
theorem dX5_needStarted_1 : decode cX5_needStarted 1 = .ok (.getfield 10, 3) := by decide +kernel
theorem dX5_needStarted_4 : decode cX5_needStarted 4 = .ok (.invokevirtual 77, 3) := by decide +kernel
theorem dX5_needStarted_7 : decode cX5_needStarted 7 = .ok (.ifCond .ne 13, 3) := by decide +kernel
theorem dX5_needStarted_10 : decode cX5_needStarted 10 = .ok (.new 56, 3) := by decide +kernel
theorem dX5_needStarted_13 : decode cX5_needStarted 13 = .ok (.dup, 1) := by decide +kernel
theorem dX5_needStarted_14 : decode cX5_needStarted 14 = .ok (.ldc 186, 2) := by decide +kernel
theorem dX5_needStarted_16 : decode cX5_needStarted 16 = .ok (.invokespecial 60, 3) := by decide +kernel
theorem dX5_needStarted_19 : decode cX5_needStarted 19 = .ok (.athrow, 1) := by decide +kernel
theorem dX5_needStarted_20 : decode cX5_needStarted 20 = .ok (.return_, 1) := by decide +kernel
set_option maxRecDepth 20000 in
theorem ggX5_needInHand_X1_ownerOf : GoodIn wsX5_needInHand wsX1_ownerOf := goodIn_r _ [8, 9, 10, 11, 12, 13, 17, 18, 19, 20, 21, 22, 23, 24] (by decide +kernel) (by decide +kernel)
set_option maxRecDepth 20000 in
theorem gX5_needInHand_X1_ownerOf : GoodIn wsX5_needInHand (wsV RX5 163 RX1 yX1_ownerOf wsX1_ownerOf) := goodIn_app (goodIn_of _ (by decide +kernel)) ggX5_needInHand_X1_ownerOf
theorem dX5_needInHand_0 : decode cX5_needInHand 0 = .ok (.aload_n 0, 1) := by decide +kernel
theorem dX5_needInHand_1 : decode cX5_needInHand 1 = .ok (.getfield 10, 3) := by decide +kernel
theorem dX5_needInHand_4 : decode cX5_needInHand 4 = .ok (.iload_n 1, 1) := by decide +kernel
theorem dX5_needInHand_5 : decode cX5_needInHand 5 = .ok (.invokevirtual 163, 3) := by decide +kernel
theorem dX5_needInHand_8 : decode cX5_needInHand 8 = .ok (.iconst (-1), 1) := by decide +kernel
theorem dX5_needInHand_9 : decode cX5_needInHand 9 = .ok (.if_icmp .ne 13, 3) := by decide +kernel
theorem dX5_needInHand_12 : decode cX5_needInHand 12 = .ok (.new 56, 3) := by decide +kernel
theorem dX5_needInHand_15 : decode cX5_needInHand 15 = .ok (.dup, 1) := by decide +kernel
theorem dX5_needInHand_16 : decode cX5_needInHand 16 = .ok (.ldc 188, 2) := by decide +kernel
theorem dX5_needInHand_18 : decode cX5_needInHand 18 = .ok (.invokespecial 60, 3) := by decide +kernel
theorem dX5_needInHand_21 : decode cX5_needInHand 21 = .ok (.athrow, 1) := by decide +kernel
theorem dX5_needInHand_22 : decode cX5_needInHand 22 = .ok (.return_, 1) := by decide +kernel
theorem dX6_init_0 : decode cX6_init 0 = .ok (.aload_n 0, 1) := by decide +kernel
theorem dX6_init_1 : decode cX6_init 1 = .ok (.invokespecial 1, 3) := by decide +kernel
theorem dX6_init_4 : decode cX6_init 4 = .ok (.aload_n 0, 1) := by decide +kernel
theorem dX6_init_5 : decode cX6_init 5 = .ok (.iconst 4, 1) := by decide +kernel
theorem dX6_init_6 : decode cX6_init 6 = .ok (.newarray .int, 2) := by decide +kernel
theorem dX6_init_8 : decode cX6_init 8 = .ok (.putfield 7, 3) := by decide +kernel
theorem dX6_init_11 : decode cX6_init 11 = .ok (.aload_n 0, 1) := by decide +kernel
theorem dX6_init_12 : decode cX6_init 12 = .ok (.bipush 16, 2) := by decide +kernel
theorem dX6_init_14 : decode cX6_init 14 = .ok (.newarray .int, 2) := by decide +kernel
theorem dX6_init_16 : decode cX6_init 16 = .ok (.putfield 13, 3) := by decide +kernel
theorem dX6_init_19 : decode cX6_init 19 = .ok (.aload_n 0, 1) := by decide +kernel
theorem dX6_init_20 : decode cX6_init 20 = .ok (.iconst 4, 1) := by decide +kernel
theorem dX6_init_21 : decode cX6_init 21 = .ok (.newarray .int, 2) := by decide +kernel
theorem dX6_init_23 : decode cX6_init 23 = .ok (.putfield 16, 3) := by decide +kernel
theorem dX6_init_26 : decode cX6_init 26 = .ok (.aload_n 0, 1) := by decide +kernel
theorem dX6_init_27 : decode cX6_init 27 = .ok (.iconst 4, 1) := by decide +kernel
theorem dX6_init_28 : decode cX6_init 28 = .ok (.newarray .int, 2) := by decide +kernel
theorem dX6_init_30 : decode cX6_init 30 = .ok (.putfield 19, 3) := by decide +kernel
theorem dX6_init_33 : decode cX6_init 33 = .ok (.aload_n 0, 1) := by decide +kernel
theorem dX6_init_34 : decode cX6_init 34 = .ok (.iconst 2, 1) := by decide +kernel
theorem dX6_init_35 : decode cX6_init 35 = .ok (.newarray .int, 2) := by decide +kernel
theorem dX6_init_37 : decode cX6_init 37 = .ok (.putfield 22, 3) := by decide +kernel
theorem dX6_init_40 : decode cX6_init 40 = .ok (.aload_n 0, 1) := by decide +kernel
theorem dX6_init_41 : decode cX6_init 41 = .ok (.bipush 16, 2) := by decide +kernel
theorem dX6_init_43 : decode cX6_init 43 = .ok (.newarray .int, 2) := by decide +kernel
theorem dX6_init_45 : decode cX6_init 45 = .ok (.putfield 25, 3) := by decide +kernel
theorem dX6_init_48 : decode cX6_init 48 = .ok (.aload_n 0, 1) := by decide +kernel
theorem dX6_init_49 : decode cX6_init 49 = .ok (.ldc 28, 2) := by decide +kernel
theorem dX6_init_51 : decode cX6_init 51 = .ok (.newarray .int, 2) := by decide +kernel
theorem dX6_init_53 : decode cX6_init 53 = .ok (.putfield 29, 3) := by decide +kernel
theorem dX6_init_56 : decode cX6_init 56 = .ok (.aload_n 0, 1) := by decide +kernel
theorem dX6_init_57 : decode cX6_init 57 = .ok (.iconst 4, 1) := by decide +kernel
theorem dX6_init_58 : decode cX6_init 58 = .ok (.newarray .int, 2) := by decide +kernel
theorem dX6_init_60 : decode cX6_init 60 = .ok (.putfield 32, 3) := by decide +kernel
theorem dX6_init_63 : decode cX6_init 63 = .ok (.aload_n 0, 1) := by decide +kernel
theorem dX6_init_64 : decode cX6_init 64 = .ok (.iconst (-1), 1) := by decide +kernel
theorem dX6_init_65 : decode cX6_init 65 = .ok (.putfield 35, 3) := by decide +kernel
theorem dX6_init_68 : decode cX6_init 68 = .ok (.return_, 1) := by decide +kernel
theorem dX6_thrown_0 : decode cX6_thrown 0 = .ok (.aload_n 0, 1) := by decide +kernel
theorem dX6_thrown_1 : decode cX6_thrown 1 = .ok (.getfield 39, 3) := by decide +kernel
theorem dX6_thrown_4 : decode cX6_thrown 4 = .ok (.ireturn, 1) := by decide +kernel
theorem dX6_in_0 : decode cX6_in 0 = .ok (.iload_n 0, 1) := by decide +kernel
theorem dX6_in_1 : decode cX6_in 1 = .ok (.iload_n 1, 1) := by decide +kernel
theorem dX6_in_2 : decode cX6_in 2 = .ok (.if_icmp .lt 12, 3) := by decide +kernel
theorem dX6_in_5 : decode cX6_in 5 = .ok (.iload_n 0, 1) := by decide +kernel
theorem dX6_in_6 : decode cX6_in 6 = .ok (.iload_n 2, 1) := by decide +kernel
theorem dX6_in_7 : decode cX6_in 7 = .ok (.if_icmp .gt 7, 3) := by decide +kernel
theorem dX6_in_10 : decode cX6_in 10 = .ok (.iconst 1, 1) := by decide +kernel
theorem dX6_in_11 : decode cX6_in 11 = .ok (.goto 4, 3) := by decide +kernel
theorem dX6_in_14 : decode cX6_in 14 = .ok (.iconst 0, 1) := by decide +kernel
theorem dX6_in_15 : decode cX6_in 15 = .ok (.ireturn, 1) := by decide +kernel
theorem dX6_has_0 : decode cX6_has 0 = .ok (.iload_n 0, 1) := by decide +kernel
theorem dX6_has_1 : decode cX6_has 1 = .ok (.iload_n 1, 1) := by decide +kernel
theorem dX6_has_2 : decode cX6_has 2 = .ok (.ishr, 1) := by decide +kernel
theorem dX6_has_3 : decode cX6_has 3 = .ok (.iconst 1, 1) := by decide +kernel
theorem dX6_has_4 : decode cX6_has 4 = .ok (.iand, 1) := by decide +kernel
theorem dX6_has_5 : decode cX6_has 5 = .ok (.iconst 1, 1) := by decide +kernel
theorem dX6_has_6 : decode cX6_has 6 = .ok (.if_icmp .ne 7, 3) := by decide +kernel
theorem dX6_has_9 : decode cX6_has 9 = .ok (.iconst 1, 1) := by decide +kernel
theorem dX6_has_10 : decode cX6_has 10 = .ok (.goto 4, 3) := by decide +kernel
theorem dX6_has_13 : decode cX6_has 13 = .ok (.iconst 0, 1) := by decide +kernel
theorem dX6_has_14 : decode cX6_has 14 = .ok (.ireturn, 1) := by decide +kernel
set_option maxRecDepth 20000 in
theorem ggX6_size_X6_has : GoodIn wsX6_size wsX6_has := goodIn_r _ [4] (by decide +kernel) (by decide +kernel)
set_option maxRecDepth 20000 in
theorem gX6_size_X6_has : GoodIn wsX6_size (va_wsS RX6 42 yX6_has wsX6_has) := goodIn_app (goodIn_of _ (by decide +kernel)) ggX6_size_X6_has
theorem dX6_size_0 : decode cX6_size 0 = .ok (.iconst 0, 1) := by decide +kernel
theorem dX6_size_1 : decode cX6_size 1 = .ok (.istore_n 1, 1) := by decide +kernel
theorem dX6_size_2 : decode cX6_size 2 = .ok (.iconst 0, 1) := by decide +kernel
theorem dX6_size_3 : decode cX6_size 3 = .ok (.istore_n 2, 1) := by decide +kernel
theorem dX6_size_4 : decode cX6_size 4 = .ok (.iload_n 2, 1) := by decide +kernel
theorem dX6_size_5 : decode cX6_size 5 = .ok (.bipush 24, 2) := by decide +kernel
theorem dX6_size_7 : decode cX6_size 7 = .ok (.if_icmp .ge 25, 3) := by decide +kernel
theorem dX6_size_10 : decode cX6_size 10 = .ok (.iload_n 1, 1) := by decide +kernel
theorem dX6_size_11 : decode cX6_size 11 = .ok (.iload_n 0, 1) := by decide +kernel
theorem dX6_size_12 : decode cX6_size 12 = .ok (.iload_n 2, 1) := by decide +kernel
theorem dX6_size_13 : decode cX6_size 13 = .ok (.invokestatic 42, 3) := by decide +kernel
theorem dX6_size_16 : decode cX6_size 16 = .ok (.ifCond .eq 7, 3) := by decide +kernel
theorem dX6_size_19 : decode cX6_size 19 = .ok (.iconst 1, 1) := by decide +kernel
theorem dX6_size_20 : decode cX6_size 20 = .ok (.goto 4, 3) := by decide +kernel
theorem dX6_size_23 : decode cX6_size 23 = .ok (.iconst 0, 1) := by decide +kernel
theorem dX6_size_24 : decode cX6_size 24 = .ok (.iadd, 1) := by decide +kernel
theorem dX6_size_25 : decode cX6_size 25 = .ok (.istore_n 1, 1) := by decide +kernel
theorem dX6_size_26 : decode cX6_size 26 = .ok (.iinc 2 1, 3) := by decide +kernel
theorem dX6_size_29 : decode cX6_size 29 = .ok (.goto (-25), 3) := by decide +kernel
theorem dX6_size_32 : decode cX6_size 32 = .ok (.iload_n 1, 1) := by decide +kernel
theorem dX6_size_33 : decode cX6_size 33 = .ok (.ireturn, 1) := by decide +kernel
theorem dX6_weight_0 : decode cX6_weight 0 = .ok (.iload_n 1, 1) := by decide +kernel
theorem dX6_weight_1 : decode cX6_weight 1 = .ok (.bipush 6, 2) := by decide +kernel
theorem dX6_weight_3 : decode cX6_weight 3 = .ok (.idiv, 1) := by decide +kernel
theorem dX6_weight_4 : decode cX6_weight 4 = .ok (.aload_n 0, 1) := by decide +kernel
theorem dX6_weight_5 : decode cX6_weight 5 = .ok (.getfield 35, 3) := by decide +kernel
theorem dX6_weight_8 : decode cX6_weight 8 = .ok (.if_icmp .ne 13, 3) := by decide +kernel
theorem dX6_weight_11 : decode cX6_weight 11 = .ok (.bipush 20, 2) := by decide +kernel
theorem dX6_weight_13 : decode cX6_weight 13 = .ok (.iload_n 1, 1) := by decide +kernel
theorem dX6_weight_14 : decode cX6_weight 14 = .ok (.bipush 6, 2) := by decide +kernel
theorem dX6_weight_16 : decode cX6_weight 16 = .ok (.irem, 1) := by decide +kernel
theorem dX6_weight_17 : decode cX6_weight 17 = .ok (.iadd, 1) := by decide +kernel
theorem dX6_weight_18 : decode cX6_weight 18 = .ok (.goto 22, 3) := by decide +kernel
theorem dX6_weight_21 : decode cX6_weight 21 = .ok (.iload_n 1, 1) := by decide +kernel
theorem dX6_weight_22 : decode cX6_weight 22 = .ok (.bipush 6, 2) := by decide +kernel
theorem dX6_weight_24 : decode cX6_weight 24 = .ok (.idiv, 1) := by decide +kernel
theorem dX6_weight_25 : decode cX6_weight 25 = .ok (.iload_n 2, 1) := by decide +kernel
theorem dX6_weight_26 : decode cX6_weight 26 = .ok (.if_icmp .ne 13, 3) := by decide +kernel
theorem dX6_weight_29 : decode cX6_weight 29 = .ok (.bipush 10, 2) := by decide +kernel
theorem dX6_weight_31 : decode cX6_weight 31 = .ok (.iload_n 1, 1) := by decide +kernel
theorem dX6_weight_32 : decode cX6_weight 32 = .ok (.bipush 6, 2) := by decide +kernel
theorem dX6_weight_34 : decode cX6_weight 34 = .ok (.irem, 1) := by decide +kernel
theorem dX6_weight_35 : decode cX6_weight 35 = .ok (.iadd, 1) := by decide +kernel
theorem dX6_weight_36 : decode cX6_weight 36 = .ok (.goto 4, 3) := by decide +kernel
theorem dX6_weight_39 : decode cX6_weight 39 = .ok (.iconst 0, 1) := by decide +kernel
theorem dX6_weight_40 : decode cX6_weight 40 = .ok (.ireturn, 1) := by decide +kernel
set_option maxRecDepth 20000 in
theorem ggX6_winner_X6_weight : GoodIn wsX6_winner wsX6_weight := goodIn_r _ [6, 7, 8, 9, 10, 11, 12, 13, 14, 15, 16, 17, 18, 19, 20, 21, 22, 23] (by decide +kernel) (by decide +kernel)
set_option maxRecDepth 20000 in
theorem gX6_winner_X6_weight : GoodIn wsX6_winner (wsV RX6 46 RX6 yX6_weight wsX6_weight) := goodIn_app (goodIn_of _ (by decide +kernel)) ggX6_winner_X6_weight
theorem dX6_winner_0 : decode cX6_winner 0 = .ok (.aload_n 0, 1) := by decide +kernel
theorem dX6_winner_1 : decode cX6_winner 1 = .ok (.getfield 19, 3) := by decide +kernel
theorem dX6_winner_4 : decode cX6_winner 4 = .ok (.iconst 0, 1) := by decide +kernel
theorem dX6_winner_5 : decode cX6_winner 5 = .ok (.iaload, 1) := by decide +kernel
theorem dX6_winner_6 : decode cX6_winner 6 = .ok (.bipush 6, 2) := by decide +kernel
theorem dX6_winner_8 : decode cX6_winner 8 = .ok (.idiv, 1) := by decide +kernel
theorem dX6_winner_9 : decode cX6_winner 9 = .ok (.istore_n 2, 1) := by decide +kernel
theorem dX6_winner_10 : decode cX6_winner 10 = .ok (.iconst 0, 1) := by decide +kernel
theorem dX6_winner_11 : decode cX6_winner 11 = .ok (.istore_n 3, 1) := by decide +kernel
theorem dX6_winner_12 : decode cX6_winner 12 = .ok (.iconst 1, 1) := by decide +kernel
theorem dX6_winner_13 : decode cX6_winner 13 = .ok (.istore 4, 2) := by decide +kernel
theorem dX6_winner_15 : decode cX6_winner 15 = .ok (.iload 4, 2) := by decide +kernel
theorem dX6_winner_17 : decode cX6_winner 17 = .ok (.iconst 4, 1) := by decide +kernel
theorem dX6_winner_18 : decode cX6_winner 18 = .ok (.if_icmp .ge 42, 3) := by decide +kernel
theorem dX6_winner_21 : decode cX6_winner 21 = .ok (.aload_n 0, 1) := by decide +kernel
theorem dX6_winner_22 : decode cX6_winner 22 = .ok (.aload_n 0, 1) := by decide +kernel
theorem dX6_winner_23 : decode cX6_winner 23 = .ok (.getfield 19, 3) := by decide +kernel
theorem dX6_winner_26 : decode cX6_winner 26 = .ok (.iload 4, 2) := by decide +kernel
theorem dX6_winner_28 : decode cX6_winner 28 = .ok (.iaload, 1) := by decide +kernel
theorem dX6_winner_29 : decode cX6_winner 29 = .ok (.iload_n 2, 1) := by decide +kernel
theorem dX6_winner_30 : decode cX6_winner 30 = .ok (.invokevirtual 46, 3) := by decide +kernel
theorem dX6_winner_33 : decode cX6_winner 33 = .ok (.aload_n 0, 1) := by decide +kernel
theorem dX6_winner_34 : decode cX6_winner 34 = .ok (.aload_n 0, 1) := by decide +kernel
theorem dX6_winner_35 : decode cX6_winner 35 = .ok (.getfield 19, 3) := by decide +kernel
theorem dX6_winner_38 : decode cX6_winner 38 = .ok (.iload_n 3, 1) := by decide +kernel
theorem dX6_winner_39 : decode cX6_winner 39 = .ok (.iaload, 1) := by decide +kernel
theorem dX6_winner_40 : decode cX6_winner 40 = .ok (.iload_n 2, 1) := by decide +kernel
theorem dX6_winner_41 : decode cX6_winner 41 = .ok (.invokevirtual 46, 3) := by decide +kernel
theorem dX6_winner_44 : decode cX6_winner 44 = .ok (.if_icmp .le 8, 3) := by decide +kernel
theorem dX6_winner_47 : decode cX6_winner 47 = .ok (.iload 4, 2) := by decide +kernel
theorem dX6_winner_49 : decode cX6_winner 49 = .ok (.goto 4, 3) := by decide +kernel
theorem dX6_winner_52 : decode cX6_winner 52 = .ok (.iload_n 3, 1) := by decide +kernel
theorem dX6_winner_53 : decode cX6_winner 53 = .ok (.istore_n 3, 1) := by decide +kernel
theorem dX6_winner_54 : decode cX6_winner 54 = .ok (.iinc 4 1, 3) := by decide +kernel
theorem dX6_winner_57 : decode cX6_winner 57 = .ok (.goto (-42), 3) := by decide +kernel
theorem dX6_winner_60 : decode cX6_winner 60 = .ok (.iload_n 1, 1) := by decide +kernel
theorem dX6_winner_61 : decode cX6_winner 61 = .ok (.iload_n 3, 1) := by decide +kernel
theorem dX6_winner_62 : decode cX6_winner 62 = .ok (.iadd, 1) := by decide +kernel
theorem dX6_winner_63 : decode cX6_winner 63 = .ok (.iconst 4, 1) := by decide +kernel
theorem dX6_winner_64 : decode cX6_winner 64 = .ok (.irem, 1) := by decide +kernel
theorem dX6_winner_65 : decode cX6_winner 65 = .ok (.ireturn, 1) := by decide +kernel
set_option maxRecDepth 20000 in
theorem ggX6_replay_X6_winner : GoodIn wsX6_replay wsX6_winner := goodIn_r _ [14, 9, 15, 16, 17, 13, 18, 19, 20, 21, 22, 23, 24, 25, 26, 27, 28, 29, 30, 31, 32, 33, 34, 35] (by decide +kernel) (by decide +kernel)
set_option maxRecDepth 20000 in
theorem gX6_replay_X6_winner : GoodIn wsX6_replay (wsV RX6 62 RX6 yX6_winner wsX6_winner) := goodIn_app (goodIn_of _ (by decide +kernel)) ggX6_replay_X6_winner
theorem dX6_replay_0 : decode cX6_replay 0 = .ok (.iconst 0, 1) := by decide +kernel
theorem dX6_replay_1 : decode cX6_replay 1 = .ok (.istore_n 1, 1) := by decide +kernel
theorem dX6_replay_2 : decode cX6_replay 2 = .ok (.iload_n 1, 1) := by decide +kernel
theorem dX6_replay_3 : decode cX6_replay 3 = .ok (.iconst 4, 1) := by decide +kernel
theorem dX6_replay_4 : decode cX6_replay 4 = .ok (.if_icmp .ge 21, 3) := by decide +kernel
theorem dX6_replay_7 : decode cX6_replay 7 = .ok (.aload_n 0, 1) := by decide +kernel
theorem dX6_replay_8 : decode cX6_replay 8 = .ok (.getfield 16, 3) := by decide +kernel
theorem dX6_replay_11 : decode cX6_replay 11 = .ok (.iload_n 1, 1) := by decide +kernel
theorem dX6_replay_12 : decode cX6_replay 12 = .ok (.aload_n 0, 1) := by decide +kernel
theorem dX6_replay_13 : decode cX6_replay 13 = .ok (.getfield 7, 3) := by decide +kernel
theorem dX6_replay_16 : decode cX6_replay 16 = .ok (.iload_n 1, 1) := by decide +kernel
theorem dX6_replay_17 : decode cX6_replay 17 = .ok (.iaload, 1) := by decide +kernel
theorem dX6_replay_18 : decode cX6_replay 18 = .ok (.iastore, 1) := by decide +kernel
theorem dX6_replay_19 : decode cX6_replay 19 = .ok (.iinc 1 1, 3) := by decide +kernel
theorem dX6_replay_22 : decode cX6_replay 22 = .ok (.goto (-20), 3) := by decide +kernel
theorem dX6_replay_25 : decode cX6_replay 25 = .ok (.aload_n 0, 1) := by decide +kernel
theorem dX6_replay_26 : decode cX6_replay 26 = .ok (.getfield 22, 3) := by decide +kernel
theorem dX6_replay_29 : decode cX6_replay 29 = .ok (.iconst 0, 1) := by decide +kernel
theorem dX6_replay_30 : decode cX6_replay 30 = .ok (.iconst 0, 1) := by decide +kernel
theorem dX6_replay_31 : decode cX6_replay 31 = .ok (.iastore, 1) := by decide +kernel
theorem dX6_replay_32 : decode cX6_replay 32 = .ok (.aload_n 0, 1) := by decide +kernel
theorem dX6_replay_33 : decode cX6_replay 33 = .ok (.getfield 22, 3) := by decide +kernel
theorem dX6_replay_36 : decode cX6_replay 36 = .ok (.iconst 1, 1) := by decide +kernel
theorem dX6_replay_37 : decode cX6_replay 37 = .ok (.iconst 0, 1) := by decide +kernel
theorem dX6_replay_38 : decode cX6_replay 38 = .ok (.iastore, 1) := by decide +kernel
theorem dX6_replay_39 : decode cX6_replay 39 = .ok (.aload_n 0, 1) := by decide +kernel
theorem dX6_replay_40 : decode cX6_replay 40 = .ok (.aload_n 0, 1) := by decide +kernel
theorem dX6_replay_41 : decode cX6_replay 41 = .ok (.getfield 50, 3) := by decide +kernel
theorem dX6_replay_44 : decode cX6_replay 44 = .ok (.putfield 53, 3) := by decide +kernel
theorem dX6_replay_47 : decode cX6_replay 47 = .ok (.aload_n 0, 1) := by decide +kernel
theorem dX6_replay_48 : decode cX6_replay 48 = .ok (.iconst 0, 1) := by decide +kernel
theorem dX6_replay_49 : decode cX6_replay 49 = .ok (.putfield 56, 3) := by decide +kernel
theorem dX6_replay_52 : decode cX6_replay 52 = .ok (.iconst 0, 1) := by decide +kernel
theorem dX6_replay_53 : decode cX6_replay 53 = .ok (.istore_n 1, 1) := by decide +kernel
theorem dX6_replay_54 : decode cX6_replay 54 = .ok (.iload_n 1, 1) := by decide +kernel
theorem dX6_replay_55 : decode cX6_replay 55 = .ok (.aload_n 0, 1) := by decide +kernel
theorem dX6_replay_56 : decode cX6_replay 56 = .ok (.getfield 59, 3) := by decide +kernel
theorem dX6_replay_59 : decode cX6_replay 59 = .ok (.if_icmp .ge 103, 3) := by decide +kernel
theorem dX6_replay_62 : decode cX6_replay 62 = .ok (.aload_n 0, 1) := by decide +kernel
theorem dX6_replay_63 : decode cX6_replay 63 = .ok (.getfield 16, 3) := by decide +kernel
theorem dX6_replay_66 : decode cX6_replay 66 = .ok (.aload_n 0, 1) := by decide +kernel
theorem dX6_replay_67 : decode cX6_replay 67 = .ok (.getfield 53, 3) := by decide +kernel
theorem dX6_replay_70 : decode cX6_replay 70 = .ok (.aload_n 0, 1) := by decide +kernel
theorem dX6_replay_71 : decode cX6_replay 71 = .ok (.getfield 56, 3) := by decide +kernel
theorem dX6_replay_74 : decode cX6_replay 74 = .ok (.iadd, 1) := by decide +kernel
theorem dX6_replay_75 : decode cX6_replay 75 = .ok (.iconst 4, 1) := by decide +kernel
theorem dX6_replay_76 : decode cX6_replay 76 = .ok (.irem, 1) := by decide +kernel
theorem dX6_replay_77 : decode cX6_replay 77 = .ok (.dup2, 1) := by decide +kernel
theorem dX6_replay_78 : decode cX6_replay 78 = .ok (.iaload, 1) := by decide +kernel
theorem dX6_replay_79 : decode cX6_replay 79 = .ok (.iconst 1, 1) := by decide +kernel
theorem dX6_replay_80 : decode cX6_replay 80 = .ok (.aload_n 0, 1) := by decide +kernel
theorem dX6_replay_81 : decode cX6_replay 81 = .ok (.getfield 13, 3) := by decide +kernel
theorem dX6_replay_84 : decode cX6_replay 84 = .ok (.iload_n 1, 1) := by decide +kernel
theorem dX6_replay_85 : decode cX6_replay 85 = .ok (.iaload, 1) := by decide +kernel
theorem dX6_replay_86 : decode cX6_replay 86 = .ok (.ishl, 1) := by decide +kernel
theorem dX6_replay_87 : decode cX6_replay 87 = .ok (.iconst (-1), 1) := by decide +kernel
theorem dX6_replay_88 : decode cX6_replay 88 = .ok (.ixor, 1) := by decide +kernel
theorem dX6_replay_89 : decode cX6_replay 89 = .ok (.iand, 1) := by decide +kernel
theorem dX6_replay_90 : decode cX6_replay 90 = .ok (.iastore, 1) := by decide +kernel
theorem dX6_replay_91 : decode cX6_replay 91 = .ok (.aload_n 0, 1) := by decide +kernel
theorem dX6_replay_92 : decode cX6_replay 92 = .ok (.getfield 19, 3) := by decide +kernel
theorem dX6_replay_95 : decode cX6_replay 95 = .ok (.aload_n 0, 1) := by decide +kernel
theorem dX6_replay_96 : decode cX6_replay 96 = .ok (.getfield 56, 3) := by decide +kernel
theorem dX6_replay_99 : decode cX6_replay 99 = .ok (.aload_n 0, 1) := by decide +kernel
theorem dX6_replay_100 : decode cX6_replay 100 = .ok (.getfield 13, 3) := by decide +kernel
theorem dX6_replay_103 : decode cX6_replay 103 = .ok (.iload_n 1, 1) := by decide +kernel
theorem dX6_replay_104 : decode cX6_replay 104 = .ok (.iaload, 1) := by decide +kernel
theorem dX6_replay_105 : decode cX6_replay 105 = .ok (.iastore, 1) := by decide +kernel
theorem dX6_replay_106 : decode cX6_replay 106 = .ok (.aload_n 0, 1) := by decide +kernel
theorem dX6_replay_107 : decode cX6_replay 107 = .ok (.dup, 1) := by decide +kernel
theorem dX6_replay_108 : decode cX6_replay 108 = .ok (.getfield 56, 3) := by decide +kernel
theorem dX6_replay_111 : decode cX6_replay 111 = .ok (.iconst 1, 1) := by decide +kernel
theorem dX6_replay_112 : decode cX6_replay 112 = .ok (.iadd, 1) := by decide +kernel
theorem dX6_replay_113 : decode cX6_replay 113 = .ok (.putfield 56, 3) := by decide +kernel
theorem dX6_replay_116 : decode cX6_replay 116 = .ok (.aload_n 0, 1) := by decide +kernel
theorem dX6_replay_117 : decode cX6_replay 117 = .ok (.getfield 56, 3) := by decide +kernel
theorem dX6_replay_120 : decode cX6_replay 120 = .ok (.iconst 4, 1) := by decide +kernel
theorem dX6_replay_121 : decode cX6_replay 121 = .ok (.if_icmp .ne 35, 3) := by decide +kernel
theorem dX6_replay_124 : decode cX6_replay 124 = .ok (.aload_n 0, 1) := by decide +kernel
theorem dX6_replay_125 : decode cX6_replay 125 = .ok (.aload_n 0, 1) := by decide +kernel
theorem dX6_replay_126 : decode cX6_replay 126 = .ok (.aload_n 0, 1) := by decide +kernel
theorem dX6_replay_127 : decode cX6_replay 127 = .ok (.getfield 53, 3) := by decide +kernel
theorem dX6_replay_130 : decode cX6_replay 130 = .ok (.invokevirtual 62, 3) := by decide +kernel
theorem dX6_replay_133 : decode cX6_replay 133 = .ok (.putfield 53, 3) := by decide +kernel
theorem dX6_replay_136 : decode cX6_replay 136 = .ok (.aload_n 0, 1) := by decide +kernel
theorem dX6_replay_137 : decode cX6_replay 137 = .ok (.getfield 22, 3) := by decide +kernel
theorem dX6_replay_140 : decode cX6_replay 140 = .ok (.aload_n 0, 1) := by decide +kernel
theorem dX6_replay_141 : decode cX6_replay 141 = .ok (.getfield 53, 3) := by decide +kernel
theorem dX6_replay_144 : decode cX6_replay 144 = .ok (.iconst 2, 1) := by decide +kernel
theorem dX6_replay_145 : decode cX6_replay 145 = .ok (.irem, 1) := by decide +kernel
theorem dX6_replay_146 : decode cX6_replay 146 = .ok (.dup2, 1) := by decide +kernel
theorem dX6_replay_147 : decode cX6_replay 147 = .ok (.iaload, 1) := by decide +kernel
theorem dX6_replay_148 : decode cX6_replay 148 = .ok (.iconst 1, 1) := by decide +kernel
theorem dX6_replay_149 : decode cX6_replay 149 = .ok (.iadd, 1) := by decide +kernel
theorem dX6_replay_150 : decode cX6_replay 150 = .ok (.iastore, 1) := by decide +kernel
theorem dX6_replay_151 : decode cX6_replay 151 = .ok (.aload_n 0, 1) := by decide +kernel
theorem dX6_replay_152 : decode cX6_replay 152 = .ok (.iconst 0, 1) := by decide +kernel
theorem dX6_replay_153 : decode cX6_replay 153 = .ok (.putfield 56, 3) := by decide +kernel
theorem dX6_replay_156 : decode cX6_replay 156 = .ok (.iinc 1 1, 3) := by decide +kernel
theorem dX6_replay_159 : decode cX6_replay 159 = .ok (.goto (-105), 3) := by decide +kernel
theorem dX6_replay_162 : decode cX6_replay 162 = .ok (.return_, 1) := by decide +kernel
theorem dX6_all_0 : decode cX6_all 0 = .ok (.aload_n 0, 1) := by decide +kernel
theorem dX6_all_1 : decode cX6_all 1 = .ok (.getfield 16, 3) := by decide +kernel
theorem dX6_all_4 : decode cX6_all 4 = .ok (.iconst 0, 1) := by decide +kernel
theorem dX6_all_5 : decode cX6_all 5 = .ok (.iaload, 1) := by decide +kernel
theorem dX6_all_6 : decode cX6_all 6 = .ok (.aload_n 0, 1) := by decide +kernel
theorem dX6_all_7 : decode cX6_all 7 = .ok (.getfield 16, 3) := by decide +kernel
theorem dX6_all_10 : decode cX6_all 10 = .ok (.iconst 1, 1) := by decide +kernel
theorem dX6_all_11 : decode cX6_all 11 = .ok (.iaload, 1) := by decide +kernel
theorem dX6_all_12 : decode cX6_all 12 = .ok (.ior, 1) := by decide +kernel
theorem dX6_all_13 : decode cX6_all 13 = .ok (.aload_n 0, 1) := by decide +kernel
theorem dX6_all_14 : decode cX6_all 14 = .ok (.getfield 16, 3) := by decide +kernel
theorem dX6_all_17 : decode cX6_all 17 = .ok (.iconst 2, 1) := by decide +kernel
theorem dX6_all_18 : decode cX6_all 18 = .ok (.iaload, 1) := by decide +kernel
theorem dX6_all_19 : decode cX6_all 19 = .ok (.ior, 1) := by decide +kernel
theorem dX6_all_20 : decode cX6_all 20 = .ok (.aload_n 0, 1) := by decide +kernel
theorem dX6_all_21 : decode cX6_all 21 = .ok (.getfield 16, 3) := by decide +kernel
theorem dX6_all_24 : decode cX6_all 24 = .ok (.iconst 3, 1) := by decide +kernel
theorem dX6_all_25 : decode cX6_all 25 = .ok (.iaload, 1) := by decide +kernel
theorem dX6_all_26 : decode cX6_all 26 = .ok (.ior, 1) := by decide +kernel
theorem dX6_all_27 : decode cX6_all 27 = .ok (.ireturn, 1) := by decide +kernel
set_option maxRecDepth 20000 in
theorem ggX6_player_X6_all : GoodIn wsX6_player wsX6_all := goodIn_r _ [8, 9, 10, 11, 12, 13, 14, 15, 16, 17, 18, 19, 20, 21, 22, 23, 24, 25] (by decide +kernel) (by decide +kernel)
set_option maxRecDepth 20000 in
theorem gX6_player_X6_all : GoodIn wsX6_player (wsV RX6 70 RX6 yX6_all wsX6_all) := goodIn_app (goodIn_of _ (by decide +kernel)) ggX6_player_X6_all
theorem dX6_player_0 : decode cX6_player 0 = .ok (.aload_n 0, 1) := by decide +kernel
theorem dX6_player_1 : decode cX6_player 1 = .ok (.getfield 66, 3) := by decide +kernel
theorem dX6_player_4 : decode cX6_player 4 = .ok (.ifCond .eq 10, 3) := by decide +kernel
theorem dX6_player_7 : decode cX6_player 7 = .ok (.aload_n 0, 1) := by decide +kernel
theorem dX6_player_8 : decode cX6_player 8 = .ok (.invokevirtual 70, 3) := by decide +kernel
theorem dX6_player_11 : decode cX6_player 11 = .ok (.ifCond .ne 7, 3) := by decide +kernel
theorem dX6_player_14 : decode cX6_player 14 = .ok (.iconst (-1), 1) := by decide +kernel
theorem dX6_player_15 : decode cX6_player 15 = .ok (.goto 14, 3) := by decide +kernel
theorem dX6_player_18 : decode cX6_player 18 = .ok (.aload_n 0, 1) := by decide +kernel
theorem dX6_player_19 : decode cX6_player 19 = .ok (.getfield 53, 3) := by decide +kernel
theorem dX6_player_22 : decode cX6_player 22 = .ok (.aload_n 0, 1) := by decide +kernel
theorem dX6_player_23 : decode cX6_player 23 = .ok (.getfield 56, 3) := by decide +kernel
theorem dX6_player_26 : decode cX6_player 26 = .ok (.iadd, 1) := by decide +kernel
theorem dX6_player_27 : decode cX6_player 27 = .ok (.iconst 4, 1) := by decide +kernel
theorem dX6_player_28 : decode cX6_player 28 = .ok (.irem, 1) := by decide +kernel
theorem dX6_player_29 : decode cX6_player 29 = .ok (.ireturn, 1) := by decide +kernel
set_option maxRecDepth 20000 in
theorem ggX6_fits_X6_player : GoodIn wsX6_fits wsX6_player := goodIn_r _ [8, 9, 10, 2, 11, 12, 13, 7, 14, 1, 18, 19, 20, 21, 22, 23, 24, 25, 26, 27, 28, 29, 30, 31, 32, 33] (by decide +kernel) (by decide +kernel)
set_option maxRecDepth 20000 in
theorem gX6_fits_X6_player : GoodIn wsX6_fits (wsV RX6 74 RX6 yX6_player wsX6_player) := goodIn_app (goodIn_of _ (by decide +kernel)) ggX6_fits_X6_player
set_option maxRecDepth 20000 in
theorem ggX6_fits_X6_has : GoodIn wsX6_fits wsX6_has := goodIn_r _ [17] (by decide +kernel) (by decide +kernel)
set_option maxRecDepth 20000 in
theorem gX6_fits_X6_has : GoodIn wsX6_fits (va_wsS RX6 42 yX6_has wsX6_has) := goodIn_app (goodIn_of _ (by decide +kernel)) ggX6_fits_X6_has
theorem dX6_fits_0 : decode cX6_fits 0 = .ok (.aload_n 0, 1) := by decide +kernel
theorem dX6_fits_1 : decode cX6_fits 1 = .ok (.invokevirtual 74, 3) := by decide +kernel
theorem dX6_fits_4 : decode cX6_fits 4 = .ok (.istore_n 2, 1) := by decide +kernel
theorem dX6_fits_5 : decode cX6_fits 5 = .ok (.iload_n 2, 1) := by decide +kernel
theorem dX6_fits_6 : decode cX6_fits 6 = .ok (.iconst (-1), 1) := by decide +kernel
theorem dX6_fits_7 : decode cX6_fits 7 = .ok (.if_icmp .eq 16, 3) := by decide +kernel
theorem dX6_fits_10 : decode cX6_fits 10 = .ok (.aload_n 0, 1) := by decide +kernel
theorem dX6_fits_11 : decode cX6_fits 11 = .ok (.getfield 16, 3) := by decide +kernel
theorem dX6_fits_14 : decode cX6_fits 14 = .ok (.iload_n 2, 1) := by decide +kernel
theorem dX6_fits_15 : decode cX6_fits 15 = .ok (.iaload, 1) := by decide +kernel
theorem dX6_fits_16 : decode cX6_fits 16 = .ok (.iload_n 1, 1) := by decide +kernel
theorem dX6_fits_17 : decode cX6_fits 17 = .ok (.invokestatic 42, 3) := by decide +kernel
theorem dX6_fits_20 : decode cX6_fits 20 = .ok (.ifCond .ne 5, 3) := by decide +kernel
theorem dX6_fits_23 : decode cX6_fits 23 = .ok (.iconst 0, 1) := by decide +kernel
theorem dX6_fits_24 : decode cX6_fits 24 = .ok (.ireturn, 1) := by decide +kernel
theorem dX6_fits_25 : decode cX6_fits 25 = .ok (.aload_n 0, 1) := by decide +kernel
theorem dX6_fits_26 : decode cX6_fits 26 = .ok (.getfield 56, 3) := by decide +kernel
theorem dX6_fits_29 : decode cX6_fits 29 = .ok (.ifCond .ne 10, 3) := by decide +kernel
theorem dX6_fits_32 : decode cX6_fits 32 = .ok (.iload_n 1, 1) := by decide +kernel
theorem dX6_fits_33 : decode cX6_fits 33 = .ok (.bipush 6, 2) := by decide +kernel
theorem dX6_fits_35 : decode cX6_fits 35 = .ok (.idiv, 1) := by decide +kernel
theorem dX6_fits_36 : decode cX6_fits 36 = .ok (.goto 12, 3) := by decide +kernel
theorem dX6_fits_39 : decode cX6_fits 39 = .ok (.aload_n 0, 1) := by decide +kernel
theorem dX6_fits_40 : decode cX6_fits 40 = .ok (.getfield 19, 3) := by decide +kernel
theorem dX6_fits_43 : decode cX6_fits 43 = .ok (.iconst 0, 1) := by decide +kernel
theorem dX6_fits_44 : decode cX6_fits 44 = .ok (.iaload, 1) := by decide +kernel
theorem dX6_fits_45 : decode cX6_fits 45 = .ok (.bipush 6, 2) := by decide +kernel
theorem dX6_fits_47 : decode cX6_fits 47 = .ok (.idiv, 1) := by decide +kernel
theorem dX6_fits_48 : decode cX6_fits 48 = .ok (.istore_n 3, 1) := by decide +kernel
theorem dX6_fits_49 : decode cX6_fits 49 = .ok (.iload_n 1, 1) := by decide +kernel
theorem dX6_fits_50 : decode cX6_fits 50 = .ok (.bipush 6, 2) := by decide +kernel
theorem dX6_fits_52 : decode cX6_fits 52 = .ok (.idiv, 1) := by decide +kernel
theorem dX6_fits_53 : decode cX6_fits 53 = .ok (.iload_n 3, 1) := by decide +kernel
theorem dX6_fits_54 : decode cX6_fits 54 = .ok (.if_icmp .eq 20, 3) := by decide +kernel
theorem dX6_fits_57 : decode cX6_fits 57 = .ok (.aload_n 0, 1) := by decide +kernel
theorem dX6_fits_58 : decode cX6_fits 58 = .ok (.getfield 16, 3) := by decide +kernel
theorem dX6_fits_61 : decode cX6_fits 61 = .ok (.iload_n 2, 1) := by decide +kernel
theorem dX6_fits_62 : decode cX6_fits 62 = .ok (.iaload, 1) := by decide +kernel
theorem dX6_fits_63 : decode cX6_fits 63 = .ok (.bipush 6, 2) := by decide +kernel
theorem dX6_fits_65 : decode cX6_fits 65 = .ok (.iload_n 3, 1) := by decide +kernel
theorem dX6_fits_66 : decode cX6_fits 66 = .ok (.imul, 1) := by decide +kernel
theorem dX6_fits_67 : decode cX6_fits 67 = .ok (.ishr, 1) := by decide +kernel
theorem dX6_fits_68 : decode cX6_fits 68 = .ok (.bipush 63, 2) := by decide +kernel
theorem dX6_fits_70 : decode cX6_fits 70 = .ok (.iand, 1) := by decide +kernel
theorem dX6_fits_71 : decode cX6_fits 71 = .ok (.ifCond .ne 7, 3) := by decide +kernel
theorem dX6_fits_74 : decode cX6_fits 74 = .ok (.iconst 1, 1) := by decide +kernel
theorem dX6_fits_75 : decode cX6_fits 75 = .ok (.goto 4, 3) := by decide +kernel
theorem dX6_fits_78 : decode cX6_fits 78 = .ok (.iconst 0, 1) := by decide +kernel
theorem dX6_fits_79 : decode cX6_fits 79 = .ok (.ireturn, 1) := by decide +kernel
set_option maxRecDepth 20000 in
theorem ggX6_begin_X6_in : GoodIn wsX6_begin wsX6_in := goodIn_r _ [10] (by decide +kernel) (by decide +kernel)
set_option maxRecDepth 20000 in
theorem gX6_begin_X6_in : GoodIn wsX6_begin (va_wsS RX6 77 yX6_in wsX6_in) := goodIn_app (goodIn_of _ (by decide +kernel)) ggX6_begin_X6_in
set_option maxRecDepth 20000 in
theorem ggX6_begin_X6_replay : GoodIn wsX6_begin wsX6_replay := goodIn_r _ [14, 15, 6, 16, 5, 17, 18, 4, 19, 20, 21, 22, 23, 9, 24, 25, 26, 27, 28, 2, 29, 30, 31, 32, 33, 34, 35, 36, 37, 38, 39, 40, 41, 42, 43, 44] (by decide +kernel) (by decide +kernel)
set_option maxRecDepth 20000 in
theorem gX6_begin_X6_replay : GoodIn wsX6_begin (wsV RX6 81 RX6 yX6_replay wsX6_replay) := goodIn_app (goodIn_of _ (by decide +kernel)) ggX6_begin_X6_replay
theorem dX6_begin_0 : decode cX6_begin 0 = .ok (.aload_n 0, 1) := by decide +kernel
theorem dX6_begin_1 : decode cX6_begin 1 = .ok (.iload_n 1, 1) := by decide +kernel
theorem dX6_begin_2 : decode cX6_begin 2 = .ok (.iconst (-1), 1) := by decide +kernel
theorem dX6_begin_3 : decode cX6_begin 3 = .ok (.iconst 3, 1) := by decide +kernel
theorem dX6_begin_4 : decode cX6_begin 4 = .ok (.invokestatic 77, 3) := by decide +kernel
theorem dX6_begin_7 : decode cX6_begin 7 = .ok (.ifCond .eq 7, 3) := by decide +kernel
theorem dX6_begin_10 : decode cX6_begin 10 = .ok (.iconst 0, 1) := by decide +kernel
theorem dX6_begin_11 : decode cX6_begin 11 = .ok (.goto 4, 3) := by decide +kernel
theorem dX6_begin_14 : decode cX6_begin 14 = .ok (.iconst 1, 1) := by decide +kernel
theorem dX6_begin_15 : decode cX6_begin 15 = .ok (.putfield 39, 3) := by decide +kernel
theorem dX6_begin_18 : decode cX6_begin 18 = .ok (.aload_n 0, 1) := by decide +kernel
theorem dX6_begin_19 : decode cX6_begin 19 = .ok (.getfield 39, 3) := by decide +kernel
theorem dX6_begin_22 : decode cX6_begin 22 = .ok (.ifCond .le 5, 3) := by decide +kernel
theorem dX6_begin_25 : decode cX6_begin 25 = .ok (.iconst 0, 1) := by decide +kernel
theorem dX6_begin_26 : decode cX6_begin 26 = .ok (.ireturn, 1) := by decide +kernel
theorem dX6_begin_27 : decode cX6_begin 27 = .ok (.aload_n 0, 1) := by decide +kernel
theorem dX6_begin_28 : decode cX6_begin 28 = .ok (.getfield 35, 3) := by decide +kernel
theorem dX6_begin_31 : decode cX6_begin 31 = .ok (.istore_n 2, 1) := by decide +kernel
theorem dX6_begin_32 : decode cX6_begin 32 = .ok (.aload_n 0, 1) := by decide +kernel
theorem dX6_begin_33 : decode cX6_begin 33 = .ok (.iload_n 1, 1) := by decide +kernel
theorem dX6_begin_34 : decode cX6_begin 34 = .ok (.putfield 35, 3) := by decide +kernel
theorem dX6_begin_37 : decode cX6_begin 37 = .ok (.aload_n 0, 1) := by decide +kernel
theorem dX6_begin_38 : decode cX6_begin 38 = .ok (.iconst 0, 1) := by decide +kernel
theorem dX6_begin_39 : decode cX6_begin 39 = .ok (.putfield 66, 3) := by decide +kernel
theorem dX6_begin_42 : decode cX6_begin 42 = .ok (.aload_n 0, 1) := by decide +kernel
theorem dX6_begin_43 : decode cX6_begin 43 = .ok (.iconst 0, 1) := by decide +kernel
theorem dX6_begin_44 : decode cX6_begin 44 = .ok (.putfield 59, 3) := by decide +kernel
theorem dX6_begin_47 : decode cX6_begin 47 = .ok (.aload_n 0, 1) := by decide +kernel
theorem dX6_begin_48 : decode cX6_begin 48 = .ok (.iconst 0, 1) := by decide +kernel
theorem dX6_begin_49 : decode cX6_begin 49 = .ok (.putfield 50, 3) := by decide +kernel
theorem dX6_begin_52 : decode cX6_begin 52 = .ok (.iconst 0, 1) := by decide +kernel
theorem dX6_begin_53 : decode cX6_begin 53 = .ok (.istore_n 3, 1) := by decide +kernel
theorem dX6_begin_54 : decode cX6_begin 54 = .ok (.iload_n 3, 1) := by decide +kernel
theorem dX6_begin_55 : decode cX6_begin 55 = .ok (.iconst 4, 1) := by decide +kernel
theorem dX6_begin_56 : decode cX6_begin 56 = .ok (.if_icmp .ge 16, 3) := by decide +kernel
theorem dX6_begin_59 : decode cX6_begin 59 = .ok (.aload_n 0, 1) := by decide +kernel
theorem dX6_begin_60 : decode cX6_begin 60 = .ok (.getfield 7, 3) := by decide +kernel
theorem dX6_begin_63 : decode cX6_begin 63 = .ok (.iload_n 3, 1) := by decide +kernel
theorem dX6_begin_64 : decode cX6_begin 64 = .ok (.iconst 0, 1) := by decide +kernel
theorem dX6_begin_65 : decode cX6_begin 65 = .ok (.iastore, 1) := by decide +kernel
theorem dX6_begin_66 : decode cX6_begin 66 = .ok (.iinc 3 1, 3) := by decide +kernel
theorem dX6_begin_69 : decode cX6_begin 69 = .ok (.goto (-15), 3) := by decide +kernel
theorem dX6_begin_72 : decode cX6_begin 72 = .ok (.aload_n 0, 1) := by decide +kernel
theorem dX6_begin_73 : decode cX6_begin 73 = .ok (.invokevirtual 81, 3) := by decide +kernel
theorem dX6_begin_76 : decode cX6_begin 76 = .ok (.iload_n 2, 1) := by decide +kernel
theorem dX6_begin_77 : decode cX6_begin 77 = .ok (.ireturn, 1) := by decide +kernel
set_option maxRecDepth 20000 in
theorem ggX6_give_X6_in : GoodIn wsX6_give wsX6_in := goodIn_r _ [7] (by decide +kernel) (by decide +kernel)
set_option maxRecDepth 20000 in
theorem gX6_give_X6_in : GoodIn wsX6_give (va_wsS RX6 77 yX6_in wsX6_in) := goodIn_app (goodIn_of _ (by decide +kernel)) ggX6_give_X6_in
set_option maxRecDepth 20000 in
theorem ggX6_give_X6_all : GoodIn wsX6_give wsX6_all := goodIn_r _ [11, 12, 39, 40, 41, 42, 43, 44, 45, 46, 47, 48, 49, 50, 51, 52, 53, 54] (by decide +kernel) (by decide +kernel)
set_option maxRecDepth 20000 in
theorem gX6_give_X6_all : GoodIn wsX6_give (wsV RX6 70 RX6 yX6_all wsX6_all) := goodIn_app (goodIn_of _ (by decide +kernel)) ggX6_give_X6_all
set_option maxRecDepth 20000 in
theorem ggX6_give_X6_has : GoodIn wsX6_give wsX6_has := goodIn_r _ [15] (by decide +kernel) (by decide +kernel)
set_option maxRecDepth 20000 in
theorem gX6_give_X6_has : GoodIn wsX6_give (va_wsS RX6 42 yX6_has wsX6_has) := goodIn_app (goodIn_of _ (by decide +kernel)) ggX6_give_X6_has
set_option maxRecDepth 20000 in
theorem ggX6_give_X6_size : GoodIn wsX6_give wsX6_size := goodIn_r _ [18, 13, 14, 6, 15] (by decide +kernel) (by decide +kernel)
set_option maxRecDepth 20000 in
theorem gX6_give_X6_size : GoodIn wsX6_give (va_wsS RX6 84 yX6_size wsX6_size) := goodIn_app (goodIn_of _ (by decide +kernel)) ggX6_give_X6_size
set_option maxRecDepth 20000 in
theorem ggX6_give_X6_replay : GoodIn wsX6_give wsX6_replay := goodIn_r _ [22, 12, 3, 23, 24, 25, 26, 27, 28, 29, 30, 31, 32, 6, 33, 34, 35, 36, 37, 38, 39, 40, 41, 42, 43, 44, 45, 46, 47, 48, 49, 50, 51, 52, 53, 54] (by decide +kernel) (by decide +kernel)
set_option maxRecDepth 20000 in
theorem gX6_give_X6_replay : GoodIn wsX6_give (wsV RX6 81 RX6 yX6_replay wsX6_replay) := goodIn_app (goodIn_of _ (by decide +kernel)) ggX6_give_X6_replay
theorem dX6_give_0 : decode cX6_give 0 = .ok (.aload_n 0, 1) := by decide +kernel
theorem dX6_give_1 : decode cX6_give 1 = .ok (.iload_n 1, 1) := by decide +kernel
theorem dX6_give_2 : decode cX6_give 2 = .ok (.iconst 0, 1) := by decide +kernel
theorem dX6_give_3 : decode cX6_give 3 = .ok (.iconst 3, 1) := by decide +kernel
theorem dX6_give_4 : decode cX6_give 4 = .ok (.invokestatic 77, 3) := by decide +kernel
theorem dX6_give_7 : decode cX6_give 7 = .ok (.ifCond .eq 13, 3) := by decide +kernel
theorem dX6_give_10 : decode cX6_give 10 = .ok (.iload_n 2, 1) := by decide +kernel
theorem dX6_give_11 : decode cX6_give 11 = .ok (.iconst 0, 1) := by decide +kernel
theorem dX6_give_12 : decode cX6_give 12 = .ok (.bipush 23, 2) := by decide +kernel
theorem dX6_give_14 : decode cX6_give 14 = .ok (.invokestatic 77, 3) := by decide +kernel
theorem dX6_give_17 : decode cX6_give 17 = .ok (.ifCond .ne 7, 3) := by decide +kernel
theorem dX6_give_20 : decode cX6_give 20 = .ok (.iconst 1, 1) := by decide +kernel
theorem dX6_give_21 : decode cX6_give 21 = .ok (.goto 4, 3) := by decide +kernel
theorem dX6_give_24 : decode cX6_give 24 = .ok (.iconst 0, 1) := by decide +kernel
theorem dX6_give_25 : decode cX6_give 25 = .ok (.putfield 39, 3) := by decide +kernel
theorem dX6_give_28 : decode cX6_give 28 = .ok (.aload_n 0, 1) := by decide +kernel
theorem dX6_give_29 : decode cX6_give 29 = .ok (.getfield 39, 3) := by decide +kernel
theorem dX6_give_32 : decode cX6_give 32 = .ok (.ifCond .ne 39, 3) := by decide +kernel
theorem dX6_give_35 : decode cX6_give 35 = .ok (.aload_n 0, 1) := by decide +kernel
theorem dX6_give_36 : decode cX6_give 36 = .ok (.getfield 66, 3) := by decide +kernel
theorem dX6_give_39 : decode cX6_give 39 = .ok (.ifCond .ne 27, 3) := by decide +kernel
theorem dX6_give_42 : decode cX6_give 42 = .ok (.aload_n 0, 1) := by decide +kernel
theorem dX6_give_43 : decode cX6_give 43 = .ok (.invokevirtual 70, 3) := by decide +kernel
theorem dX6_give_46 : decode cX6_give 46 = .ok (.iload_n 2, 1) := by decide +kernel
theorem dX6_give_47 : decode cX6_give 47 = .ok (.invokestatic 42, 3) := by decide +kernel
theorem dX6_give_50 : decode cX6_give 50 = .ok (.ifCond .ne 16, 3) := by decide +kernel
theorem dX6_give_53 : decode cX6_give 53 = .ok (.aload_n 0, 1) := by decide +kernel
theorem dX6_give_54 : decode cX6_give 54 = .ok (.getfield 7, 3) := by decide +kernel
theorem dX6_give_57 : decode cX6_give 57 = .ok (.iload_n 1, 1) := by decide +kernel
theorem dX6_give_58 : decode cX6_give 58 = .ok (.iaload, 1) := by decide +kernel
theorem dX6_give_59 : decode cX6_give 59 = .ok (.invokestatic 84, 3) := by decide +kernel
theorem dX6_give_62 : decode cX6_give 62 = .ok (.iconst 4, 1) := by decide +kernel
theorem dX6_give_63 : decode cX6_give 63 = .ok (.if_icmp .ne 8, 3) := by decide +kernel
theorem dX6_give_66 : decode cX6_give 66 = .ok (.aload_n 0, 1) := by decide +kernel
theorem dX6_give_67 : decode cX6_give 67 = .ok (.iconst 2, 1) := by decide +kernel
theorem dX6_give_68 : decode cX6_give 68 = .ok (.putfield 39, 3) := by decide +kernel
theorem dX6_give_71 : decode cX6_give 71 = .ok (.aload_n 0, 1) := by decide +kernel
theorem dX6_give_72 : decode cX6_give 72 = .ok (.getfield 39, 3) := by decide +kernel
theorem dX6_give_75 : decode cX6_give 75 = .ok (.ifCond .le 5, 3) := by decide +kernel
theorem dX6_give_78 : decode cX6_give 78 = .ok (.iconst 0, 1) := by decide +kernel
theorem dX6_give_79 : decode cX6_give 79 = .ok (.ireturn, 1) := by decide +kernel
theorem dX6_give_80 : decode cX6_give 80 = .ok (.aload_n 0, 1) := by decide +kernel
theorem dX6_give_81 : decode cX6_give 81 = .ok (.getfield 7, 3) := by decide +kernel
theorem dX6_give_84 : decode cX6_give 84 = .ok (.iload_n 1, 1) := by decide +kernel
theorem dX6_give_85 : decode cX6_give 85 = .ok (.dup2, 1) := by decide +kernel
theorem dX6_give_86 : decode cX6_give 86 = .ok (.iaload, 1) := by decide +kernel
theorem dX6_give_87 : decode cX6_give 87 = .ok (.iconst 1, 1) := by decide +kernel
theorem dX6_give_88 : decode cX6_give 88 = .ok (.iload_n 2, 1) := by decide +kernel
theorem dX6_give_89 : decode cX6_give 89 = .ok (.ishl, 1) := by decide +kernel
theorem dX6_give_90 : decode cX6_give 90 = .ok (.ior, 1) := by decide +kernel
theorem dX6_give_91 : decode cX6_give 91 = .ok (.iastore, 1) := by decide +kernel
theorem dX6_give_92 : decode cX6_give 92 = .ok (.aload_n 0, 1) := by decide +kernel
theorem dX6_give_93 : decode cX6_give 93 = .ok (.invokevirtual 81, 3) := by decide +kernel
theorem dX6_give_96 : decode cX6_give 96 = .ok (.aload_n 0, 1) := by decide +kernel
theorem dX6_give_97 : decode cX6_give 97 = .ok (.getfield 7, 3) := by decide +kernel
theorem dX6_give_100 : decode cX6_give 100 = .ok (.iload_n 1, 1) := by decide +kernel
theorem dX6_give_101 : decode cX6_give 101 = .ok (.iaload, 1) := by decide +kernel
theorem dX6_give_102 : decode cX6_give 102 = .ok (.invokestatic 84, 3) := by decide +kernel
theorem dX6_give_105 : decode cX6_give 105 = .ok (.ireturn, 1) := by decide +kernel
set_option maxRecDepth 20000 in
theorem ggX6_start_X6_in : GoodIn wsX6_start wsX6_in := goodIn_r _ [8] (by decide +kernel) (by decide +kernel)
set_option maxRecDepth 20000 in
theorem gX6_start_X6_in : GoodIn wsX6_start (va_wsS RX6 77 yX6_in wsX6_in) := goodIn_app (goodIn_of _ (by decide +kernel)) ggX6_start_X6_in
set_option maxRecDepth 20000 in
theorem ggX6_start_X6_size : GoodIn wsX6_start wsX6_size := goodIn_r _ [11, 12, 13, 7, 14] (by decide +kernel) (by decide +kernel)
set_option maxRecDepth 20000 in
theorem gX6_start_X6_size : GoodIn wsX6_start (va_wsS RX6 84 yX6_size wsX6_size) := goodIn_app (goodIn_of _ (by decide +kernel)) ggX6_start_X6_size
set_option maxRecDepth 20000 in
theorem ggX6_start_X6_replay : GoodIn wsX6_start wsX6_replay := goodIn_r _ [18, 19, 2, 20, 4, 21, 22, 23, 24, 25, 26, 27, 28, 7, 29, 30, 31, 32, 33, 34, 35, 36, 37, 38, 39, 40, 41, 42, 43, 44, 45, 46, 47, 48, 49, 50] (by decide +kernel) (by decide +kernel)
set_option maxRecDepth 20000 in
theorem gX6_start_X6_replay : GoodIn wsX6_start (wsV RX6 81 RX6 yX6_replay wsX6_replay) := goodIn_app (goodIn_of _ (by decide +kernel)) ggX6_start_X6_replay
theorem dX6_start_0 : decode cX6_start 0 = .ok (.aload_n 0, 1) := by decide +kernel
theorem dX6_start_1 : decode cX6_start 1 = .ok (.iload_n 1, 1) := by decide +kernel
theorem dX6_start_2 : decode cX6_start 2 = .ok (.iconst 0, 1) := by decide +kernel
theorem dX6_start_3 : decode cX6_start 3 = .ok (.iconst 3, 1) := by decide +kernel
theorem dX6_start_4 : decode cX6_start 4 = .ok (.invokestatic 77, 3) := by decide +kernel
theorem dX6_start_7 : decode cX6_start 7 = .ok (.ifCond .eq 7, 3) := by decide +kernel
theorem dX6_start_10 : decode cX6_start 10 = .ok (.iconst 0, 1) := by decide +kernel
theorem dX6_start_11 : decode cX6_start 11 = .ok (.goto 4, 3) := by decide +kernel
theorem dX6_start_14 : decode cX6_start 14 = .ok (.iconst 1, 1) := by decide +kernel
theorem dX6_start_15 : decode cX6_start 15 = .ok (.putfield 39, 3) := by decide +kernel
theorem dX6_start_18 : decode cX6_start 18 = .ok (.aload_n 0, 1) := by decide +kernel
theorem dX6_start_19 : decode cX6_start 19 = .ok (.getfield 7, 3) := by decide +kernel
theorem dX6_start_22 : decode cX6_start 22 = .ok (.iconst 0, 1) := by decide +kernel
theorem dX6_start_23 : decode cX6_start 23 = .ok (.iaload, 1) := by decide +kernel
theorem dX6_start_24 : decode cX6_start 24 = .ok (.invokestatic 84, 3) := by decide +kernel
theorem dX6_start_27 : decode cX6_start 27 = .ok (.istore_n 2, 1) := by decide +kernel
theorem dX6_start_28 : decode cX6_start 28 = .ok (.aload_n 0, 1) := by decide +kernel
theorem dX6_start_29 : decode cX6_start 29 = .ok (.getfield 39, 3) := by decide +kernel
theorem dX6_start_32 : decode cX6_start 32 = .ok (.ifCond .ne 58, 3) := by decide +kernel
theorem dX6_start_35 : decode cX6_start 35 = .ok (.aload_n 0, 1) := by decide +kernel
theorem dX6_start_36 : decode cX6_start 36 = .ok (.getfield 66, 3) := by decide +kernel
theorem dX6_start_39 : decode cX6_start 39 = .ok (.ifCond .ne 46, 3) := by decide +kernel
theorem dX6_start_42 : decode cX6_start 42 = .ok (.iload_n 2, 1) := by decide +kernel
theorem dX6_start_43 : decode cX6_start 43 = .ok (.ifCond .eq 42, 3) := by decide +kernel
theorem dX6_start_46 : decode cX6_start 46 = .ok (.aload_n 0, 1) := by decide +kernel
theorem dX6_start_47 : decode cX6_start 47 = .ok (.getfield 7, 3) := by decide +kernel
theorem dX6_start_50 : decode cX6_start 50 = .ok (.iconst 1, 1) := by decide +kernel
theorem dX6_start_51 : decode cX6_start 51 = .ok (.iaload, 1) := by decide +kernel
theorem dX6_start_52 : decode cX6_start 52 = .ok (.invokestatic 84, 3) := by decide +kernel
theorem dX6_start_55 : decode cX6_start 55 = .ok (.iload_n 2, 1) := by decide +kernel
theorem dX6_start_56 : decode cX6_start 56 = .ok (.if_icmp .ne 29, 3) := by decide +kernel
theorem dX6_start_59 : decode cX6_start 59 = .ok (.aload_n 0, 1) := by decide +kernel
theorem dX6_start_60 : decode cX6_start 60 = .ok (.getfield 7, 3) := by decide +kernel
theorem dX6_start_63 : decode cX6_start 63 = .ok (.iconst 2, 1) := by decide +kernel
theorem dX6_start_64 : decode cX6_start 64 = .ok (.iaload, 1) := by decide +kernel
theorem dX6_start_65 : decode cX6_start 65 = .ok (.invokestatic 84, 3) := by decide +kernel
theorem dX6_start_68 : decode cX6_start 68 = .ok (.iload_n 2, 1) := by decide +kernel
theorem dX6_start_69 : decode cX6_start 69 = .ok (.if_icmp .ne 16, 3) := by decide +kernel
theorem dX6_start_72 : decode cX6_start 72 = .ok (.aload_n 0, 1) := by decide +kernel
theorem dX6_start_73 : decode cX6_start 73 = .ok (.getfield 7, 3) := by decide +kernel
theorem dX6_start_76 : decode cX6_start 76 = .ok (.iconst 3, 1) := by decide +kernel
theorem dX6_start_77 : decode cX6_start 77 = .ok (.iaload, 1) := by decide +kernel
theorem dX6_start_78 : decode cX6_start 78 = .ok (.invokestatic 84, 3) := by decide +kernel
theorem dX6_start_81 : decode cX6_start 81 = .ok (.iload_n 2, 1) := by decide +kernel
theorem dX6_start_82 : decode cX6_start 82 = .ok (.if_icmp .eq 8, 3) := by decide +kernel
theorem dX6_start_85 : decode cX6_start 85 = .ok (.aload_n 0, 1) := by decide +kernel
theorem dX6_start_86 : decode cX6_start 86 = .ok (.iconst 2, 1) := by decide +kernel
theorem dX6_start_87 : decode cX6_start 87 = .ok (.putfield 39, 3) := by decide +kernel
theorem dX6_start_90 : decode cX6_start 90 = .ok (.aload_n 0, 1) := by decide +kernel
theorem dX6_start_91 : decode cX6_start 91 = .ok (.getfield 39, 3) := by decide +kernel
theorem dX6_start_94 : decode cX6_start 94 = .ok (.ifCond .le 5, 3) := by decide +kernel
theorem dX6_start_97 : decode cX6_start 97 = .ok (.iconst 0, 1) := by decide +kernel
theorem dX6_start_98 : decode cX6_start 98 = .ok (.ireturn, 1) := by decide +kernel
theorem dX6_start_99 : decode cX6_start 99 = .ok (.aload_n 0, 1) := by decide +kernel
theorem dX6_start_100 : decode cX6_start 100 = .ok (.iconst 1, 1) := by decide +kernel
theorem dX6_start_101 : decode cX6_start 101 = .ok (.putfield 66, 3) := by decide +kernel
theorem dX6_start_104 : decode cX6_start 104 = .ok (.aload_n 0, 1) := by decide +kernel
theorem dX6_start_105 : decode cX6_start 105 = .ok (.iload_n 1, 1) := by decide +kernel
theorem dX6_start_106 : decode cX6_start 106 = .ok (.putfield 50, 3) := by decide +kernel
theorem dX6_start_109 : decode cX6_start 109 = .ok (.aload_n 0, 1) := by decide +kernel
theorem dX6_start_110 : decode cX6_start 110 = .ok (.invokevirtual 81, 3) := by decide +kernel
theorem dX6_start_113 : decode cX6_start 113 = .ok (.iload_n 2, 1) := by decide +kernel
theorem dX6_start_114 : decode cX6_start 114 = .ok (.ireturn, 1) := by decide +kernel
theorem dX6_isStarted_0 : decode cX6_isStarted 0 = .ok (.aload_n 0, 1) := by decide +kernel
theorem dX6_isStarted_1 : decode cX6_isStarted 1 = .ok (.iconst 0, 1) := by decide +kernel
theorem dX6_isStarted_2 : decode cX6_isStarted 2 = .ok (.putfield 39, 3) := by decide +kernel
theorem dX6_isStarted_5 : decode cX6_isStarted 5 = .ok (.aload_n 0, 1) := by decide +kernel
theorem dX6_isStarted_6 : decode cX6_isStarted 6 = .ok (.getfield 66, 3) := by decide +kernel
theorem dX6_isStarted_9 : decode cX6_isStarted 9 = .ok (.ireturn, 1) := by decide +kernel
set_option maxRecDepth 20000 in
theorem ggX6_play_X6_in : GoodIn wsX6_play wsX6_in := goodIn_r _ [9] (by decide +kernel) (by decide +kernel)
set_option maxRecDepth 20000 in
theorem gX6_play_X6_in : GoodIn wsX6_play (va_wsS RX6 77 yX6_in wsX6_in) := goodIn_app (goodIn_of _ (by decide +kernel)) ggX6_play_X6_in
set_option maxRecDepth 20000 in
theorem ggX6_play_X6_fits : GoodIn wsX6_play wsX6_fits := goodIn_r _ [13, 14, 4, 15, 16, 17, 18, 8, 19, 20, 5, 21, 22, 23, 24, 25, 26, 27, 44, 45, 46, 47, 48, 49, 50, 51, 52, 53, 54, 55, 56, 57, 58, 59] (by decide +kernel) (by decide +kernel)
set_option maxRecDepth 20000 in
theorem gX6_play_X6_fits : GoodIn wsX6_play (wsV RX6 87 RX6 yX6_fits wsX6_fits) := goodIn_app (goodIn_of _ (by decide +kernel)) ggX6_play_X6_fits
set_option maxRecDepth 20000 in
theorem ggX6_play_X6_replay : GoodIn wsX6_play wsX6_replay := goodIn_r _ [31, 14, 32, 33, 34, 5, 4, 3, 2, 15, 35, 36, 37, 8, 38, 39, 40, 41, 42, 43, 44, 45, 46, 47, 48, 49, 50, 51, 52, 53, 54, 55, 56, 57, 58, 59] (by decide +kernel) (by decide +kernel)
set_option maxRecDepth 20000 in
theorem gX6_play_X6_replay : GoodIn wsX6_play (wsV RX6 81 RX6 yX6_replay wsX6_replay) := goodIn_app (goodIn_of _ (by decide +kernel)) ggX6_play_X6_replay
theorem dX6_play_0 : decode cX6_play 0 = .ok (.aload_n 0, 1) := by decide +kernel
theorem dX6_play_1 : decode cX6_play 1 = .ok (.iload_n 1, 1) := by decide +kernel
theorem dX6_play_2 : decode cX6_play 2 = .ok (.iconst 0, 1) := by decide +kernel
theorem dX6_play_3 : decode cX6_play 3 = .ok (.bipush 23, 2) := by decide +kernel
theorem dX6_play_5 : decode cX6_play 5 = .ok (.invokestatic 77, 3) := by decide +kernel
theorem dX6_play_8 : decode cX6_play 8 = .ok (.ifCond .ne 7, 3) := by decide +kernel
theorem dX6_play_11 : decode cX6_play 11 = .ok (.iconst 1, 1) := by decide +kernel
theorem dX6_play_12 : decode cX6_play 12 = .ok (.goto 16, 3) := by decide +kernel
theorem dX6_play_15 : decode cX6_play 15 = .ok (.aload_n 0, 1) := by decide +kernel
theorem dX6_play_16 : decode cX6_play 16 = .ok (.iload_n 1, 1) := by decide +kernel
theorem dX6_play_17 : decode cX6_play 17 = .ok (.invokevirtual 87, 3) := by decide +kernel
theorem dX6_play_20 : decode cX6_play 20 = .ok (.ifCond .ne 7, 3) := by decide +kernel
theorem dX6_play_23 : decode cX6_play 23 = .ok (.iconst 2, 1) := by decide +kernel
theorem dX6_play_24 : decode cX6_play 24 = .ok (.goto 4, 3) := by decide +kernel
theorem dX6_play_27 : decode cX6_play 27 = .ok (.iconst 0, 1) := by decide +kernel
theorem dX6_play_28 : decode cX6_play 28 = .ok (.putfield 39, 3) := by decide +kernel
theorem dX6_play_31 : decode cX6_play 31 = .ok (.aload_n 0, 1) := by decide +kernel
theorem dX6_play_32 : decode cX6_play 32 = .ok (.getfield 39, 3) := by decide +kernel
theorem dX6_play_35 : decode cX6_play 35 = .ok (.ifCond .le 5, 3) := by decide +kernel
theorem dX6_play_38 : decode cX6_play 38 = .ok (.iconst 0, 1) := by decide +kernel
theorem dX6_play_39 : decode cX6_play 39 = .ok (.ireturn, 1) := by decide +kernel
theorem dX6_play_40 : decode cX6_play 40 = .ok (.aload_n 0, 1) := by decide +kernel
theorem dX6_play_41 : decode cX6_play 41 = .ok (.getfield 13, 3) := by decide +kernel
theorem dX6_play_44 : decode cX6_play 44 = .ok (.aload_n 0, 1) := by decide +kernel
theorem dX6_play_45 : decode cX6_play 45 = .ok (.getfield 59, 3) := by decide +kernel
theorem dX6_play_48 : decode cX6_play 48 = .ok (.iload_n 1, 1) := by decide +kernel
theorem dX6_play_49 : decode cX6_play 49 = .ok (.iastore, 1) := by decide +kernel
theorem dX6_play_50 : decode cX6_play 50 = .ok (.aload_n 0, 1) := by decide +kernel
theorem dX6_play_51 : decode cX6_play 51 = .ok (.dup, 1) := by decide +kernel
theorem dX6_play_52 : decode cX6_play 52 = .ok (.getfield 59, 3) := by decide +kernel
theorem dX6_play_55 : decode cX6_play 55 = .ok (.iconst 1, 1) := by decide +kernel
theorem dX6_play_56 : decode cX6_play 56 = .ok (.iadd, 1) := by decide +kernel
theorem dX6_play_57 : decode cX6_play 57 = .ok (.putfield 59, 3) := by decide +kernel
theorem dX6_play_60 : decode cX6_play 60 = .ok (.aload_n 0, 1) := by decide +kernel
theorem dX6_play_61 : decode cX6_play 61 = .ok (.invokevirtual 81, 3) := by decide +kernel
theorem dX6_play_64 : decode cX6_play 64 = .ok (.aload_n 0, 1) := by decide +kernel
theorem dX6_play_65 : decode cX6_play 65 = .ok (.getfield 56, 3) := by decide +kernel
theorem dX6_play_68 : decode cX6_play 68 = .ok (.ifCond .ne 10, 3) := by decide +kernel
theorem dX6_play_71 : decode cX6_play 71 = .ok (.aload_n 0, 1) := by decide +kernel
theorem dX6_play_72 : decode cX6_play 72 = .ok (.getfield 53, 3) := by decide +kernel
theorem dX6_play_75 : decode cX6_play 75 = .ok (.goto 4, 3) := by decide +kernel
theorem dX6_play_78 : decode cX6_play 78 = .ok (.iconst (-1), 1) := by decide +kernel
theorem dX6_play_79 : decode cX6_play 79 = .ok (.ireturn, 1) := by decide +kernel
set_option maxRecDepth 20000 in
theorem ggX6_takeBack_X6_replay : GoodIn wsX6_takeBack wsX6_replay := goodIn_r _ [8, 9, 10, 11, 12, 13, 14, 1, 3, 15, 16, 17, 18, 7, 19, 20, 21, 22, 23, 24, 25, 26, 27, 28, 29, 30, 31, 32, 33, 34, 35, 36, 37, 38, 39, 40] (by decide +kernel) (by decide +kernel)
set_option maxRecDepth 20000 in
theorem gX6_takeBack_X6_replay : GoodIn wsX6_takeBack (wsV RX6 81 RX6 yX6_replay wsX6_replay) := goodIn_app (goodIn_of _ (by decide +kernel)) ggX6_takeBack_X6_replay
theorem dX6_takeBack_0 : decode cX6_takeBack 0 = .ok (.aload_n 0, 1) := by decide +kernel
theorem dX6_takeBack_1 : decode cX6_takeBack 1 = .ok (.aload_n 0, 1) := by decide +kernel
theorem dX6_takeBack_2 : decode cX6_takeBack 2 = .ok (.getfield 59, 3) := by decide +kernel
theorem dX6_takeBack_5 : decode cX6_takeBack 5 = .ok (.ifCond .ne 7, 3) := by decide +kernel
theorem dX6_takeBack_8 : decode cX6_takeBack 8 = .ok (.iconst 1, 1) := by decide +kernel
theorem dX6_takeBack_9 : decode cX6_takeBack 9 = .ok (.goto 4, 3) := by decide +kernel
theorem dX6_takeBack_12 : decode cX6_takeBack 12 = .ok (.iconst 0, 1) := by decide +kernel
theorem dX6_takeBack_13 : decode cX6_takeBack 13 = .ok (.putfield 39, 3) := by decide +kernel
theorem dX6_takeBack_16 : decode cX6_takeBack 16 = .ok (.aload_n 0, 1) := by decide +kernel
theorem dX6_takeBack_17 : decode cX6_takeBack 17 = .ok (.getfield 39, 3) := by decide +kernel
theorem dX6_takeBack_20 : decode cX6_takeBack 20 = .ok (.ifCond .le 5, 3) := by decide +kernel
theorem dX6_takeBack_23 : decode cX6_takeBack 23 = .ok (.iconst 0, 1) := by decide +kernel
theorem dX6_takeBack_24 : decode cX6_takeBack 24 = .ok (.ireturn, 1) := by decide +kernel
theorem dX6_takeBack_25 : decode cX6_takeBack 25 = .ok (.aload_n 0, 1) := by decide +kernel
theorem dX6_takeBack_26 : decode cX6_takeBack 26 = .ok (.dup, 1) := by decide +kernel
theorem dX6_takeBack_27 : decode cX6_takeBack 27 = .ok (.getfield 59, 3) := by decide +kernel
theorem dX6_takeBack_30 : decode cX6_takeBack 30 = .ok (.iconst 1, 1) := by decide +kernel
theorem dX6_takeBack_31 : decode cX6_takeBack 31 = .ok (.isub, 1) := by decide +kernel
theorem dX6_takeBack_32 : decode cX6_takeBack 32 = .ok (.putfield 59, 3) := by decide +kernel
theorem dX6_takeBack_35 : decode cX6_takeBack 35 = .ok (.aload_n 0, 1) := by decide +kernel
theorem dX6_takeBack_36 : decode cX6_takeBack 36 = .ok (.invokevirtual 81, 3) := by decide +kernel
theorem dX6_takeBack_39 : decode cX6_takeBack 39 = .ok (.aload_n 0, 1) := by decide +kernel
theorem dX6_takeBack_40 : decode cX6_takeBack 40 = .ok (.getfield 13, 3) := by decide +kernel
theorem dX6_takeBack_43 : decode cX6_takeBack 43 = .ok (.aload_n 0, 1) := by decide +kernel
theorem dX6_takeBack_44 : decode cX6_takeBack 44 = .ok (.getfield 59, 3) := by decide +kernel
theorem dX6_takeBack_47 : decode cX6_takeBack 47 = .ok (.iaload, 1) := by decide +kernel
theorem dX6_takeBack_48 : decode cX6_takeBack 48 = .ok (.ireturn, 1) := by decide +kernel
set_option maxRecDepth 20000 in
theorem ggX6_canPlay_X6_in : GoodIn wsX6_canPlay wsX6_in := goodIn_r _ [5] (by decide +kernel) (by decide +kernel)
set_option maxRecDepth 20000 in
theorem gX6_canPlay_X6_in : GoodIn wsX6_canPlay (va_wsS RX6 77 yX6_in wsX6_in) := goodIn_app (goodIn_of _ (by decide +kernel)) ggX6_canPlay_X6_in
set_option maxRecDepth 20000 in
theorem ggX6_canPlay_X6_fits : GoodIn wsX6_canPlay wsX6_fits := goodIn_r _ [9, 10, 11, 12, 13, 14, 15, 4, 16, 17, 18, 19, 20, 21, 22, 23, 24, 25, 26, 27, 28, 29, 30, 31, 32, 33, 34, 35, 36, 37, 38, 39, 40, 41] (by decide +kernel) (by decide +kernel)
set_option maxRecDepth 20000 in
theorem gX6_canPlay_X6_fits : GoodIn wsX6_canPlay (wsV RX6 87 RX6 yX6_fits wsX6_fits) := goodIn_app (goodIn_of _ (by decide +kernel)) ggX6_canPlay_X6_fits
theorem dX6_canPlay_0 : decode cX6_canPlay 0 = .ok (.aload_n 0, 1) := by decide +kernel
theorem dX6_canPlay_1 : decode cX6_canPlay 1 = .ok (.iload_n 1, 1) := by decide +kernel
theorem dX6_canPlay_2 : decode cX6_canPlay 2 = .ok (.iconst 0, 1) := by decide +kernel
theorem dX6_canPlay_3 : decode cX6_canPlay 3 = .ok (.bipush 23, 2) := by decide +kernel
theorem dX6_canPlay_5 : decode cX6_canPlay 5 = .ok (.invokestatic 77, 3) := by decide +kernel
theorem dX6_canPlay_8 : decode cX6_canPlay 8 = .ok (.ifCond .eq 7, 3) := by decide +kernel
theorem dX6_canPlay_11 : decode cX6_canPlay 11 = .ok (.iconst 0, 1) := by decide +kernel
theorem dX6_canPlay_12 : decode cX6_canPlay 12 = .ok (.goto 4, 3) := by decide +kernel
theorem dX6_canPlay_15 : decode cX6_canPlay 15 = .ok (.iconst 1, 1) := by decide +kernel
theorem dX6_canPlay_16 : decode cX6_canPlay 16 = .ok (.putfield 39, 3) := by decide +kernel
theorem dX6_canPlay_19 : decode cX6_canPlay 19 = .ok (.aload_n 0, 1) := by decide +kernel
theorem dX6_canPlay_20 : decode cX6_canPlay 20 = .ok (.getfield 39, 3) := by decide +kernel
theorem dX6_canPlay_23 : decode cX6_canPlay 23 = .ok (.ifCond .ne 15, 3) := by decide +kernel
theorem dX6_canPlay_26 : decode cX6_canPlay 26 = .ok (.aload_n 0, 1) := by decide +kernel
theorem dX6_canPlay_27 : decode cX6_canPlay 27 = .ok (.iload_n 1, 1) := by decide +kernel
theorem dX6_canPlay_28 : decode cX6_canPlay 28 = .ok (.invokevirtual 87, 3) := by decide +kernel
theorem dX6_canPlay_31 : decode cX6_canPlay 31 = .ok (.ifCond .eq 7, 3) := by decide +kernel
theorem dX6_canPlay_34 : decode cX6_canPlay 34 = .ok (.iconst 1, 1) := by decide +kernel
theorem dX6_canPlay_35 : decode cX6_canPlay 35 = .ok (.goto 4, 3) := by decide +kernel
theorem dX6_canPlay_38 : decode cX6_canPlay 38 = .ok (.iconst 0, 1) := by decide +kernel
theorem dX6_canPlay_39 : decode cX6_canPlay 39 = .ok (.ireturn, 1) := by decide +kernel
set_option maxRecDepth 20000 in
theorem ggX6_turn_X6_player : GoodIn wsX6_turn wsX6_player := goodIn_r _ [6, 7, 8, 9, 10, 11, 12, 5, 13, 14, 15, 16, 17, 18, 19, 20, 21, 22, 23, 24, 25, 26, 27, 28, 29, 30] (by decide +kernel) (by decide +kernel)
set_option maxRecDepth 20000 in
theorem gX6_turn_X6_player : GoodIn wsX6_turn (wsV RX6 74 RX6 yX6_player wsX6_player) := goodIn_app (goodIn_of _ (by decide +kernel)) ggX6_turn_X6_player
theorem dX6_turn_0 : decode cX6_turn 0 = .ok (.aload_n 0, 1) := by decide +kernel
theorem dX6_turn_1 : decode cX6_turn 1 = .ok (.iconst 0, 1) := by decide +kernel
theorem dX6_turn_2 : decode cX6_turn 2 = .ok (.putfield 39, 3) := by decide +kernel
theorem dX6_turn_5 : decode cX6_turn 5 = .ok (.aload_n 0, 1) := by decide +kernel
theorem dX6_turn_6 : decode cX6_turn 6 = .ok (.invokevirtual 74, 3) := by decide +kernel
theorem dX6_turn_9 : decode cX6_turn 9 = .ok (.ireturn, 1) := by decide +kernel
set_option maxRecDepth 20000 in
theorem ggX6_hand_X6_in : GoodIn wsX6_hand wsX6_in := goodIn_r _ [6] (by decide +kernel) (by decide +kernel)
set_option maxRecDepth 20000 in
theorem gX6_hand_X6_in : GoodIn wsX6_hand (va_wsS RX6 77 yX6_in wsX6_in) := goodIn_app (goodIn_of _ (by decide +kernel)) ggX6_hand_X6_in
theorem dX6_hand_0 : decode cX6_hand 0 = .ok (.aload_n 0, 1) := by decide +kernel
theorem dX6_hand_1 : decode cX6_hand 1 = .ok (.iload_n 1, 1) := by decide +kernel
theorem dX6_hand_2 : decode cX6_hand 2 = .ok (.iconst 0, 1) := by decide +kernel
theorem dX6_hand_3 : decode cX6_hand 3 = .ok (.iconst 3, 1) := by decide +kernel
theorem dX6_hand_4 : decode cX6_hand 4 = .ok (.invokestatic 77, 3) := by decide +kernel
theorem dX6_hand_7 : decode cX6_hand 7 = .ok (.ifCond .eq 7, 3) := by decide +kernel
theorem dX6_hand_10 : decode cX6_hand 10 = .ok (.iconst 0, 1) := by decide +kernel
theorem dX6_hand_11 : decode cX6_hand 11 = .ok (.goto 4, 3) := by decide +kernel
theorem dX6_hand_14 : decode cX6_hand 14 = .ok (.iconst 1, 1) := by decide +kernel
theorem dX6_hand_15 : decode cX6_hand 15 = .ok (.putfield 39, 3) := by decide +kernel
theorem dX6_hand_18 : decode cX6_hand 18 = .ok (.aload_n 0, 1) := by decide +kernel
theorem dX6_hand_19 : decode cX6_hand 19 = .ok (.getfield 39, 3) := by decide +kernel
theorem dX6_hand_22 : decode cX6_hand 22 = .ok (.ifCond .ne 12, 3) := by decide +kernel
theorem dX6_hand_25 : decode cX6_hand 25 = .ok (.aload_n 0, 1) := by decide +kernel
theorem dX6_hand_26 : decode cX6_hand 26 = .ok (.getfield 16, 3) := by decide +kernel
theorem dX6_hand_29 : decode cX6_hand 29 = .ok (.iload_n 1, 1) := by decide +kernel
theorem dX6_hand_30 : decode cX6_hand 30 = .ok (.iaload, 1) := by decide +kernel
theorem dX6_hand_31 : decode cX6_hand 31 = .ok (.goto 4, 3) := by decide +kernel
theorem dX6_hand_34 : decode cX6_hand 34 = .ok (.iconst 0, 1) := by decide +kernel
theorem dX6_hand_35 : decode cX6_hand 35 = .ok (.ireturn, 1) := by decide +kernel
theorem dX6_inTrick_0 : decode cX6_inTrick 0 = .ok (.aload_n 0, 1) := by decide +kernel
theorem dX6_inTrick_1 : decode cX6_inTrick 1 = .ok (.iconst 0, 1) := by decide +kernel
theorem dX6_inTrick_2 : decode cX6_inTrick 2 = .ok (.putfield 39, 3) := by decide +kernel
theorem dX6_inTrick_5 : decode cX6_inTrick 5 = .ok (.aload_n 0, 1) := by decide +kernel
theorem dX6_inTrick_6 : decode cX6_inTrick 6 = .ok (.getfield 56, 3) := by decide +kernel
theorem dX6_inTrick_9 : decode cX6_inTrick 9 = .ok (.ireturn, 1) := by decide +kernel
set_option maxRecDepth 20000 in
theorem ggX6_cardIn_X6_in : GoodIn wsX6_cardIn wsX6_in := goodIn_r _ [7] (by decide +kernel) (by decide +kernel)
set_option maxRecDepth 20000 in
theorem gX6_cardIn_X6_in : GoodIn wsX6_cardIn (va_wsS RX6 77 yX6_in wsX6_in) := goodIn_app (goodIn_of _ (by decide +kernel)) ggX6_cardIn_X6_in
theorem dX6_cardIn_0 : decode cX6_cardIn 0 = .ok (.aload_n 0, 1) := by decide +kernel
theorem dX6_cardIn_1 : decode cX6_cardIn 1 = .ok (.iload_n 1, 1) := by decide +kernel
theorem dX6_cardIn_2 : decode cX6_cardIn 2 = .ok (.iconst 0, 1) := by decide +kernel
theorem dX6_cardIn_3 : decode cX6_cardIn 3 = .ok (.aload_n 0, 1) := by decide +kernel
theorem dX6_cardIn_4 : decode cX6_cardIn 4 = .ok (.getfield 56, 3) := by decide +kernel
theorem dX6_cardIn_7 : decode cX6_cardIn 7 = .ok (.iconst 1, 1) := by decide +kernel
theorem dX6_cardIn_8 : decode cX6_cardIn 8 = .ok (.isub, 1) := by decide +kernel
theorem dX6_cardIn_9 : decode cX6_cardIn 9 = .ok (.invokestatic 77, 3) := by decide +kernel
theorem dX6_cardIn_12 : decode cX6_cardIn 12 = .ok (.ifCond .eq 7, 3) := by decide +kernel
theorem dX6_cardIn_15 : decode cX6_cardIn 15 = .ok (.iconst 0, 1) := by decide +kernel
theorem dX6_cardIn_16 : decode cX6_cardIn 16 = .ok (.goto 4, 3) := by decide +kernel
theorem dX6_cardIn_19 : decode cX6_cardIn 19 = .ok (.iconst 1, 1) := by decide +kernel
theorem dX6_cardIn_20 : decode cX6_cardIn 20 = .ok (.putfield 39, 3) := by decide +kernel
theorem dX6_cardIn_23 : decode cX6_cardIn 23 = .ok (.aload_n 0, 1) := by decide +kernel
theorem dX6_cardIn_24 : decode cX6_cardIn 24 = .ok (.getfield 39, 3) := by decide +kernel
theorem dX6_cardIn_27 : decode cX6_cardIn 27 = .ok (.ifCond .ne 12, 3) := by decide +kernel
theorem dX6_cardIn_30 : decode cX6_cardIn 30 = .ok (.aload_n 0, 1) := by decide +kernel
theorem dX6_cardIn_31 : decode cX6_cardIn 31 = .ok (.getfield 19, 3) := by decide +kernel
theorem dX6_cardIn_34 : decode cX6_cardIn 34 = .ok (.iload_n 1, 1) := by decide +kernel
theorem dX6_cardIn_35 : decode cX6_cardIn 35 = .ok (.iaload, 1) := by decide +kernel
theorem dX6_cardIn_36 : decode cX6_cardIn 36 = .ok (.goto 4, 3) := by decide +kernel
theorem dX6_cardIn_39 : decode cX6_cardIn 39 = .ok (.iconst 0, 1) := by decide +kernel
theorem dX6_cardIn_40 : decode cX6_cardIn 40 = .ok (.ireturn, 1) := by decide +kernel
set_option maxRecDepth 20000 in
theorem ggX6_won_X6_in : GoodIn wsX6_won wsX6_in := goodIn_r _ [6] (by decide +kernel) (by decide +kernel)
set_option maxRecDepth 20000 in
theorem gX6_won_X6_in : GoodIn wsX6_won (va_wsS RX6 77 yX6_in wsX6_in) := goodIn_app (goodIn_of _ (by decide +kernel)) ggX6_won_X6_in
theorem dX6_won_0 : decode cX6_won 0 = .ok (.aload_n 0, 1) := by decide +kernel
theorem dX6_won_1 : decode cX6_won 1 = .ok (.iload_n 1, 1) := by decide +kernel
theorem dX6_won_2 : decode cX6_won 2 = .ok (.iconst 0, 1) := by decide +kernel
theorem dX6_won_3 : decode cX6_won 3 = .ok (.iconst 1, 1) := by decide +kernel
theorem dX6_won_4 : decode cX6_won 4 = .ok (.invokestatic 77, 3) := by decide +kernel
theorem dX6_won_7 : decode cX6_won 7 = .ok (.ifCond .eq 7, 3) := by decide +kernel
theorem dX6_won_10 : decode cX6_won 10 = .ok (.iconst 0, 1) := by decide +kernel
theorem dX6_won_11 : decode cX6_won 11 = .ok (.goto 4, 3) := by decide +kernel
theorem dX6_won_14 : decode cX6_won 14 = .ok (.iconst 1, 1) := by decide +kernel
theorem dX6_won_15 : decode cX6_won 15 = .ok (.putfield 39, 3) := by decide +kernel
theorem dX6_won_18 : decode cX6_won 18 = .ok (.aload_n 0, 1) := by decide +kernel
theorem dX6_won_19 : decode cX6_won 19 = .ok (.getfield 39, 3) := by decide +kernel
theorem dX6_won_22 : decode cX6_won 22 = .ok (.ifCond .ne 12, 3) := by decide +kernel
theorem dX6_won_25 : decode cX6_won 25 = .ok (.aload_n 0, 1) := by decide +kernel
theorem dX6_won_26 : decode cX6_won 26 = .ok (.getfield 22, 3) := by decide +kernel
theorem dX6_won_29 : decode cX6_won 29 = .ok (.iload_n 1, 1) := by decide +kernel
theorem dX6_won_30 : decode cX6_won 30 = .ok (.iaload, 1) := by decide +kernel
theorem dX6_won_31 : decode cX6_won 31 = .ok (.goto 4, 3) := by decide +kernel
theorem dX6_won_34 : decode cX6_won 34 = .ok (.iconst 0, 1) := by decide +kernel
theorem dX6_won_35 : decode cX6_won 35 = .ok (.ireturn, 1) := by decide +kernel
set_option maxRecDepth 20000 in
theorem ggX6_layList_X6_has : GoodIn wsX6_layList wsX6_has := goodIn_r _ [6] (by decide +kernel) (by decide +kernel)
set_option maxRecDepth 20000 in
theorem gX6_layList_X6_has : GoodIn wsX6_layList (va_wsS RX6 42 yX6_has wsX6_has) := goodIn_app (goodIn_of _ (by decide +kernel)) ggX6_layList_X6_has
theorem dX6_layList_0 : decode cX6_layList 0 = .ok (.iconst 0, 1) := by decide +kernel
theorem dX6_layList_1 : decode cX6_layList 1 = .ok (.istore_n 1, 1) := by decide +kernel
theorem dX6_layList_2 : decode cX6_layList 2 = .ok (.iconst 0, 1) := by decide +kernel
theorem dX6_layList_3 : decode cX6_layList 3 = .ok (.istore_n 2, 1) := by decide +kernel
theorem dX6_layList_4 : decode cX6_layList 4 = .ok (.iload_n 2, 1) := by decide +kernel
theorem dX6_layList_5 : decode cX6_layList 5 = .ok (.iconst 4, 1) := by decide +kernel
theorem dX6_layList_6 : decode cX6_layList 6 = .ok (.if_icmp .ge 66, 3) := by decide +kernel
theorem dX6_layList_9 : decode cX6_layList 9 = .ok (.iconst 0, 1) := by decide +kernel
theorem dX6_layList_10 : decode cX6_layList 10 = .ok (.istore_n 3, 1) := by decide +kernel
theorem dX6_layList_11 : decode cX6_layList 11 = .ok (.iconst 0, 1) := by decide +kernel
theorem dX6_layList_12 : decode cX6_layList 12 = .ok (.istore 4, 2) := by decide +kernel
theorem dX6_layList_14 : decode cX6_layList 14 = .ok (.iload 4, 2) := by decide +kernel
theorem dX6_layList_16 : decode cX6_layList 16 = .ok (.bipush 24, 2) := by decide +kernel
theorem dX6_layList_18 : decode cX6_layList 18 = .ok (.if_icmp .ge 48, 3) := by decide +kernel
theorem dX6_layList_21 : decode cX6_layList 21 = .ok (.aload_n 0, 1) := by decide +kernel
theorem dX6_layList_22 : decode cX6_layList 22 = .ok (.getfield 16, 3) := by decide +kernel
theorem dX6_layList_25 : decode cX6_layList 25 = .ok (.iload_n 2, 1) := by decide +kernel
theorem dX6_layList_26 : decode cX6_layList 26 = .ok (.iaload, 1) := by decide +kernel
theorem dX6_layList_27 : decode cX6_layList 27 = .ok (.iload 4, 2) := by decide +kernel
theorem dX6_layList_29 : decode cX6_layList 29 = .ok (.invokestatic 42, 3) := by decide +kernel
theorem dX6_layList_32 : decode cX6_layList 32 = .ok (.ifCond .eq 28, 3) := by decide +kernel
theorem dX6_layList_35 : decode cX6_layList 35 = .ok (.aload_n 0, 1) := by decide +kernel
theorem dX6_layList_36 : decode cX6_layList 36 = .ok (.getfield 25, 3) := by decide +kernel
theorem dX6_layList_39 : decode cX6_layList 39 = .ok (.iconst 4, 1) := by decide +kernel
theorem dX6_layList_40 : decode cX6_layList 40 = .ok (.iload_n 2, 1) := by decide +kernel
theorem dX6_layList_41 : decode cX6_layList 41 = .ok (.imul, 1) := by decide +kernel
theorem dX6_layList_42 : decode cX6_layList 42 = .ok (.iload_n 3, 1) := by decide +kernel
theorem dX6_layList_43 : decode cX6_layList 43 = .ok (.iadd, 1) := by decide +kernel
theorem dX6_layList_44 : decode cX6_layList 44 = .ok (.iload 4, 2) := by decide +kernel
theorem dX6_layList_46 : decode cX6_layList 46 = .ok (.iastore, 1) := by decide +kernel
theorem dX6_layList_47 : decode cX6_layList 47 = .ok (.iload_n 1, 1) := by decide +kernel
theorem dX6_layList_48 : decode cX6_layList 48 = .ok (.iconst 1, 1) := by decide +kernel
theorem dX6_layList_49 : decode cX6_layList 49 = .ok (.iconst 4, 1) := by decide +kernel
theorem dX6_layList_50 : decode cX6_layList 50 = .ok (.iload_n 2, 1) := by decide +kernel
theorem dX6_layList_51 : decode cX6_layList 51 = .ok (.imul, 1) := by decide +kernel
theorem dX6_layList_52 : decode cX6_layList 52 = .ok (.iload_n 3, 1) := by decide +kernel
theorem dX6_layList_53 : decode cX6_layList 53 = .ok (.iadd, 1) := by decide +kernel
theorem dX6_layList_54 : decode cX6_layList 54 = .ok (.ishl, 1) := by decide +kernel
theorem dX6_layList_55 : decode cX6_layList 55 = .ok (.ior, 1) := by decide +kernel
theorem dX6_layList_56 : decode cX6_layList 56 = .ok (.istore_n 1, 1) := by decide +kernel
theorem dX6_layList_57 : decode cX6_layList 57 = .ok (.iinc 3 1, 3) := by decide +kernel
theorem dX6_layList_60 : decode cX6_layList 60 = .ok (.iinc 4 1, 3) := by decide +kernel
theorem dX6_layList_63 : decode cX6_layList 63 = .ok (.goto (-49), 3) := by decide +kernel
theorem dX6_layList_66 : decode cX6_layList 66 = .ok (.iinc 2 1, 3) := by decide +kernel
theorem dX6_layList_69 : decode cX6_layList 69 = .ok (.goto (-65), 3) := by decide +kernel
theorem dX6_layList_72 : decode cX6_layList 72 = .ok (.iload_n 1, 1) := by decide +kernel
theorem dX6_layList_73 : decode cX6_layList 73 = .ok (.ireturn, 1) := by decide +kernel
theorem dX6_countOf_0 : decode cX6_countOf 0 = .ok (.iload_n 0, 1) := by decide +kernel
theorem dX6_countOf_1 : decode cX6_countOf 1 = .ok (.iconst 4, 1) := by decide +kernel
theorem dX6_countOf_2 : decode cX6_countOf 2 = .ok (.iload_n 1, 1) := by decide +kernel
theorem dX6_countOf_3 : decode cX6_countOf 3 = .ok (.imul, 1) := by decide +kernel
theorem dX6_countOf_4 : decode cX6_countOf 4 = .ok (.ishr, 1) := by decide +kernel
theorem dX6_countOf_5 : decode cX6_countOf 5 = .ok (.bipush 15, 2) := by decide +kernel
theorem dX6_countOf_7 : decode cX6_countOf 7 = .ok (.iand, 1) := by decide +kernel
theorem dX6_countOf_8 : decode cX6_countOf 8 = .ok (.istore_n 2, 1) := by decide +kernel
theorem dX6_countOf_9 : decode cX6_countOf 9 = .ok (.iload_n 2, 1) := by decide +kernel
theorem dX6_countOf_10 : decode cX6_countOf 10 = .ok (.iconst 1, 1) := by decide +kernel
theorem dX6_countOf_11 : decode cX6_countOf 11 = .ok (.iand, 1) := by decide +kernel
theorem dX6_countOf_12 : decode cX6_countOf 12 = .ok (.iload_n 2, 1) := by decide +kernel
theorem dX6_countOf_13 : decode cX6_countOf 13 = .ok (.iconst 1, 1) := by decide +kernel
theorem dX6_countOf_14 : decode cX6_countOf 14 = .ok (.ishr, 1) := by decide +kernel
theorem dX6_countOf_15 : decode cX6_countOf 15 = .ok (.iconst 1, 1) := by decide +kernel
theorem dX6_countOf_16 : decode cX6_countOf 16 = .ok (.iand, 1) := by decide +kernel
theorem dX6_countOf_17 : decode cX6_countOf 17 = .ok (.iadd, 1) := by decide +kernel
theorem dX6_countOf_18 : decode cX6_countOf 18 = .ok (.iload_n 2, 1) := by decide +kernel
theorem dX6_countOf_19 : decode cX6_countOf 19 = .ok (.iconst 2, 1) := by decide +kernel
theorem dX6_countOf_20 : decode cX6_countOf 20 = .ok (.ishr, 1) := by decide +kernel
theorem dX6_countOf_21 : decode cX6_countOf 21 = .ok (.iconst 1, 1) := by decide +kernel
theorem dX6_countOf_22 : decode cX6_countOf 22 = .ok (.iand, 1) := by decide +kernel
theorem dX6_countOf_23 : decode cX6_countOf 23 = .ok (.iadd, 1) := by decide +kernel
theorem dX6_countOf_24 : decode cX6_countOf 24 = .ok (.iload_n 2, 1) := by decide +kernel
theorem dX6_countOf_25 : decode cX6_countOf 25 = .ok (.iconst 3, 1) := by decide +kernel
theorem dX6_countOf_26 : decode cX6_countOf 26 = .ok (.ishr, 1) := by decide +kernel
theorem dX6_countOf_27 : decode cX6_countOf 27 = .ok (.iadd, 1) := by decide +kernel
theorem dX6_countOf_28 : decode cX6_countOf 28 = .ok (.ireturn, 1) := by decide +kernel
set_option maxRecDepth 20000 in
theorem ggX6_can_X6_has : GoodIn wsX6_can wsX6_has := goodIn_r _ [6] (by decide +kernel) (by decide +kernel)
set_option maxRecDepth 20000 in
theorem gX6_can_X6_has : GoodIn wsX6_can (va_wsS RX6 42 yX6_has wsX6_has) := goodIn_app (goodIn_of _ (by decide +kernel)) ggX6_can_X6_has
theorem dX6_can_0 : decode cX6_can 0 = .ok (.iload_n 1, 1) := by decide +kernel
theorem dX6_can_1 : decode cX6_can 1 = .ok (.iconst 4, 1) := by decide +kernel
theorem dX6_can_2 : decode cX6_can 2 = .ok (.iload_n 2, 1) := by decide +kernel
theorem dX6_can_3 : decode cX6_can 3 = .ok (.imul, 1) := by decide +kernel
theorem dX6_can_4 : decode cX6_can 4 = .ok (.iload_n 3, 1) := by decide +kernel
theorem dX6_can_5 : decode cX6_can 5 = .ok (.iadd, 1) := by decide +kernel
theorem dX6_can_6 : decode cX6_can 6 = .ok (.invokestatic 42, 3) := by decide +kernel
theorem dX6_can_9 : decode cX6_can 9 = .ok (.ifCond .ne 5, 3) := by decide +kernel
theorem dX6_can_12 : decode cX6_can 12 = .ok (.iconst 0, 1) := by decide +kernel
theorem dX6_can_13 : decode cX6_can 13 = .ok (.ireturn, 1) := by decide +kernel
theorem dX6_can_14 : decode cX6_can 14 = .ok (.iload 4, 2) := by decide +kernel
theorem dX6_can_16 : decode cX6_can 16 = .ok (.ifCond .eq 28, 3) := by decide +kernel
theorem dX6_can_19 : decode cX6_can 19 = .ok (.aload_n 0, 1) := by decide +kernel
theorem dX6_can_20 : decode cX6_can 20 = .ok (.getfield 25, 3) := by decide +kernel
theorem dX6_can_23 : decode cX6_can 23 = .ok (.iconst 4, 1) := by decide +kernel
theorem dX6_can_24 : decode cX6_can 24 = .ok (.iload_n 2, 1) := by decide +kernel
theorem dX6_can_25 : decode cX6_can 25 = .ok (.imul, 1) := by decide +kernel
theorem dX6_can_26 : decode cX6_can 26 = .ok (.iload_n 3, 1) := by decide +kernel
theorem dX6_can_27 : decode cX6_can 27 = .ok (.iadd, 1) := by decide +kernel
theorem dX6_can_28 : decode cX6_can 28 = .ok (.iaload, 1) := by decide +kernel
theorem dX6_can_29 : decode cX6_can 29 = .ok (.bipush 6, 2) := by decide +kernel
theorem dX6_can_31 : decode cX6_can 31 = .ok (.idiv, 1) := by decide +kernel
theorem dX6_can_32 : decode cX6_can 32 = .ok (.aload_n 0, 1) := by decide +kernel
theorem dX6_can_33 : decode cX6_can 33 = .ok (.getfield 32, 3) := by decide +kernel
theorem dX6_can_36 : decode cX6_can 36 = .ok (.iconst 0, 1) := by decide +kernel
theorem dX6_can_37 : decode cX6_can 37 = .ok (.iaload, 1) := by decide +kernel
theorem dX6_can_38 : decode cX6_can 38 = .ok (.bipush 6, 2) := by decide +kernel
theorem dX6_can_40 : decode cX6_can 40 = .ok (.idiv, 1) := by decide +kernel
theorem dX6_can_41 : decode cX6_can 41 = .ok (.if_icmp .ne 7, 3) := by decide +kernel
theorem dX6_can_44 : decode cX6_can 44 = .ok (.iconst 1, 1) := by decide +kernel
theorem dX6_can_45 : decode cX6_can 45 = .ok (.goto 4, 3) := by decide +kernel
theorem dX6_can_48 : decode cX6_can 48 = .ok (.iconst 0, 1) := by decide +kernel
theorem dX6_can_49 : decode cX6_can 49 = .ok (.istore 5, 2) := by decide +kernel
theorem dX6_can_51 : decode cX6_can 51 = .ok (.iload 5, 2) := by decide +kernel
theorem dX6_can_53 : decode cX6_can 53 = .ok (.ifCond .eq 5, 3) := by decide +kernel
theorem dX6_can_56 : decode cX6_can 56 = .ok (.iconst 1, 1) := by decide +kernel
theorem dX6_can_57 : decode cX6_can 57 = .ok (.ireturn, 1) := by decide +kernel
theorem dX6_can_58 : decode cX6_can 58 = .ok (.iconst 4, 1) := by decide +kernel
theorem dX6_can_59 : decode cX6_can 59 = .ok (.iload_n 2, 1) := by decide +kernel
theorem dX6_can_60 : decode cX6_can 60 = .ok (.imul, 1) := by decide +kernel
theorem dX6_can_61 : decode cX6_can 61 = .ok (.istore 6, 2) := by decide +kernel
theorem dX6_can_63 : decode cX6_can 63 = .ok (.iload 6, 2) := by decide +kernel
theorem dX6_can_65 : decode cX6_can 65 = .ok (.iconst 4, 1) := by decide +kernel
theorem dX6_can_66 : decode cX6_can 66 = .ok (.iload_n 2, 1) := by decide +kernel
theorem dX6_can_67 : decode cX6_can 67 = .ok (.imul, 1) := by decide +kernel
theorem dX6_can_68 : decode cX6_can 68 = .ok (.iconst 4, 1) := by decide +kernel
theorem dX6_can_69 : decode cX6_can 69 = .ok (.iadd, 1) := by decide +kernel
theorem dX6_can_70 : decode cX6_can 70 = .ok (.if_icmp .ge 42, 3) := by decide +kernel
theorem dX6_can_73 : decode cX6_can 73 = .ok (.iload_n 1, 1) := by decide +kernel
theorem dX6_can_74 : decode cX6_can 74 = .ok (.iload 6, 2) := by decide +kernel
theorem dX6_can_76 : decode cX6_can 76 = .ok (.invokestatic 42, 3) := by decide +kernel
theorem dX6_can_79 : decode cX6_can 79 = .ok (.ifCond .eq 27, 3) := by decide +kernel
theorem dX6_can_82 : decode cX6_can 82 = .ok (.aload_n 0, 1) := by decide +kernel
theorem dX6_can_83 : decode cX6_can 83 = .ok (.getfield 25, 3) := by decide +kernel
theorem dX6_can_86 : decode cX6_can 86 = .ok (.iload 6, 2) := by decide +kernel
theorem dX6_can_88 : decode cX6_can 88 = .ok (.iaload, 1) := by decide +kernel
theorem dX6_can_89 : decode cX6_can 89 = .ok (.bipush 6, 2) := by decide +kernel
theorem dX6_can_91 : decode cX6_can 91 = .ok (.idiv, 1) := by decide +kernel
theorem dX6_can_92 : decode cX6_can 92 = .ok (.aload_n 0, 1) := by decide +kernel
theorem dX6_can_93 : decode cX6_can 93 = .ok (.getfield 32, 3) := by decide +kernel
theorem dX6_can_96 : decode cX6_can 96 = .ok (.iconst 0, 1) := by decide +kernel
theorem dX6_can_97 : decode cX6_can 97 = .ok (.iaload, 1) := by decide +kernel
theorem dX6_can_98 : decode cX6_can 98 = .ok (.bipush 6, 2) := by decide +kernel
theorem dX6_can_100 : decode cX6_can 100 = .ok (.idiv, 1) := by decide +kernel
theorem dX6_can_101 : decode cX6_can 101 = .ok (.if_icmp .ne 5, 3) := by decide +kernel
theorem dX6_can_104 : decode cX6_can 104 = .ok (.iconst 0, 1) := by decide +kernel
theorem dX6_can_105 : decode cX6_can 105 = .ok (.ireturn, 1) := by decide +kernel
theorem dX6_can_106 : decode cX6_can 106 = .ok (.iinc 6 1, 3) := by decide +kernel
theorem dX6_can_109 : decode cX6_can 109 = .ok (.goto (-46), 3) := by decide +kernel
theorem dX6_can_112 : decode cX6_can 112 = .ok (.iconst 1, 1) := by decide +kernel
theorem dX6_can_113 : decode cX6_can 113 = .ok (.ireturn, 1) := by decide +kernel
theorem dX6_better_0 : decode cX6_better 0 = .ok (.iload_n 1, 1) := by decide +kernel
theorem dX6_better_1 : decode cX6_better 1 = .ok (.iconst (-1), 1) := by decide +kernel
theorem dX6_better_2 : decode cX6_better 2 = .ok (.if_icmp .eq 8, 3) := by decide +kernel
theorem dX6_better_5 : decode cX6_better 5 = .ok (.iload_n 2, 1) := by decide +kernel
theorem dX6_better_6 : decode cX6_better 6 = .ok (.iconst (-1), 1) := by decide +kernel
theorem dX6_better_7 : decode cX6_better 7 = .ok (.if_icmp .ne 14, 3) := by decide +kernel
theorem dX6_better_10 : decode cX6_better 10 = .ok (.iload_n 1, 1) := by decide +kernel
theorem dX6_better_11 : decode cX6_better 11 = .ok (.iconst (-1), 1) := by decide +kernel
theorem dX6_better_12 : decode cX6_better 12 = .ok (.if_icmp .ne 7, 3) := by decide +kernel
theorem dX6_better_15 : decode cX6_better 15 = .ok (.iload_n 2, 1) := by decide +kernel
theorem dX6_better_16 : decode cX6_better 16 = .ok (.goto 4, 3) := by decide +kernel
theorem dX6_better_19 : decode cX6_better 19 = .ok (.iload_n 1, 1) := by decide +kernel
theorem dX6_better_20 : decode cX6_better 20 = .ok (.ireturn, 1) := by decide +kernel
theorem dX6_better_21 : decode cX6_better 21 = .ok (.iload_n 0, 1) := by decide +kernel
theorem dX6_better_22 : decode cX6_better 22 = .ok (.iconst 2, 1) := by decide +kernel
theorem dX6_better_23 : decode cX6_better 23 = .ok (.irem, 1) := by decide +kernel
theorem dX6_better_24 : decode cX6_better 24 = .ok (.ifCond .ne 7, 3) := by decide +kernel
theorem dX6_better_27 : decode cX6_better 27 = .ok (.iconst 1, 1) := by decide +kernel
theorem dX6_better_28 : decode cX6_better 28 = .ok (.goto 4, 3) := by decide +kernel
theorem dX6_better_31 : decode cX6_better 31 = .ok (.iconst 0, 1) := by decide +kernel
theorem dX6_better_32 : decode cX6_better 32 = .ok (.iload_n 1, 1) := by decide +kernel
theorem dX6_better_33 : decode cX6_better 33 = .ok (.iload_n 2, 1) := by decide +kernel
theorem dX6_better_34 : decode cX6_better 34 = .ok (.if_icmp .le 7, 3) := by decide +kernel
theorem dX6_better_37 : decode cX6_better 37 = .ok (.iconst 1, 1) := by decide +kernel
theorem dX6_better_38 : decode cX6_better 38 = .ok (.goto 4, 3) := by decide +kernel
theorem dX6_better_41 : decode cX6_better 41 = .ok (.iconst 0, 1) := by decide +kernel
theorem dX6_better_42 : decode cX6_better 42 = .ok (.if_icmp .ne 7, 3) := by decide +kernel
theorem dX6_better_45 : decode cX6_better 45 = .ok (.iload_n 1, 1) := by decide +kernel
theorem dX6_better_46 : decode cX6_better 46 = .ok (.goto 4, 3) := by decide +kernel
theorem dX6_better_49 : decode cX6_better 49 = .ok (.iload_n 2, 1) := by decide +kernel
theorem dX6_better_50 : decode cX6_better 50 = .ok (.ireturn, 1) := by decide +kernel
set_option maxRecDepth 20000 in
theorem ggX6_finished_X6_weight : GoodIn wsX6_finished wsX6_weight := goodIn_r _ [8, 9, 10, 11, 12, 13, 14, 15, 16, 17, 18, 19, 20, 21, 22, 23, 24, 25] (by decide +kernel) (by decide +kernel)
set_option maxRecDepth 20000 in
theorem gX6_finished_X6_weight : GoodIn wsX6_finished (wsV RX6 46 RX6 yX6_weight wsX6_weight) := goodIn_app (goodIn_of _ (by decide +kernel)) ggX6_finished_X6_weight
theorem dX6_finished_0 : decode cX6_finished 0 = .ok (.aload_n 0, 1) := by decide +kernel
theorem dX6_finished_1 : decode cX6_finished 1 = .ok (.getfield 32, 3) := by decide +kernel
theorem dX6_finished_4 : decode cX6_finished 4 = .ok (.iconst 0, 1) := by decide +kernel
theorem dX6_finished_5 : decode cX6_finished 5 = .ok (.iaload, 1) := by decide +kernel
theorem dX6_finished_6 : decode cX6_finished 6 = .ok (.bipush 6, 2) := by decide +kernel
theorem dX6_finished_8 : decode cX6_finished 8 = .ok (.idiv, 1) := by decide +kernel
theorem dX6_finished_9 : decode cX6_finished 9 = .ok (.istore_n 3, 1) := by decide +kernel
theorem dX6_finished_10 : decode cX6_finished 10 = .ok (.iconst 0, 1) := by decide +kernel
theorem dX6_finished_11 : decode cX6_finished 11 = .ok (.istore 4, 2) := by decide +kernel
theorem dX6_finished_13 : decode cX6_finished 13 = .ok (.iconst 1, 1) := by decide +kernel
theorem dX6_finished_14 : decode cX6_finished 14 = .ok (.istore 5, 2) := by decide +kernel
theorem dX6_finished_16 : decode cX6_finished 16 = .ok (.iload 5, 2) := by decide +kernel
theorem dX6_finished_18 : decode cX6_finished 18 = .ok (.iconst 4, 1) := by decide +kernel
theorem dX6_finished_19 : decode cX6_finished 19 = .ok (.if_icmp .ge 45, 3) := by decide +kernel
theorem dX6_finished_22 : decode cX6_finished 22 = .ok (.aload_n 0, 1) := by decide +kernel
theorem dX6_finished_23 : decode cX6_finished 23 = .ok (.aload_n 0, 1) := by decide +kernel
theorem dX6_finished_24 : decode cX6_finished 24 = .ok (.getfield 32, 3) := by decide +kernel
theorem dX6_finished_27 : decode cX6_finished 27 = .ok (.iload 5, 2) := by decide +kernel
theorem dX6_finished_29 : decode cX6_finished 29 = .ok (.iaload, 1) := by decide +kernel
theorem dX6_finished_30 : decode cX6_finished 30 = .ok (.iload_n 3, 1) := by decide +kernel
theorem dX6_finished_31 : decode cX6_finished 31 = .ok (.invokevirtual 46, 3) := by decide +kernel
theorem dX6_finished_34 : decode cX6_finished 34 = .ok (.aload_n 0, 1) := by decide +kernel
theorem dX6_finished_35 : decode cX6_finished 35 = .ok (.aload_n 0, 1) := by decide +kernel
theorem dX6_finished_36 : decode cX6_finished 36 = .ok (.getfield 32, 3) := by decide +kernel
theorem dX6_finished_39 : decode cX6_finished 39 = .ok (.iload 4, 2) := by decide +kernel
theorem dX6_finished_41 : decode cX6_finished 41 = .ok (.iaload, 1) := by decide +kernel
theorem dX6_finished_42 : decode cX6_finished 42 = .ok (.iload_n 3, 1) := by decide +kernel
theorem dX6_finished_43 : decode cX6_finished 43 = .ok (.invokevirtual 46, 3) := by decide +kernel
theorem dX6_finished_46 : decode cX6_finished 46 = .ok (.if_icmp .le 8, 3) := by decide +kernel
theorem dX6_finished_49 : decode cX6_finished 49 = .ok (.iload 5, 2) := by decide +kernel
theorem dX6_finished_51 : decode cX6_finished 51 = .ok (.goto 5, 3) := by decide +kernel
theorem dX6_finished_54 : decode cX6_finished 54 = .ok (.iload 4, 2) := by decide +kernel
theorem dX6_finished_56 : decode cX6_finished 56 = .ok (.istore 4, 2) := by decide +kernel
theorem dX6_finished_58 : decode cX6_finished 58 = .ok (.iinc 5 1, 3) := by decide +kernel
theorem dX6_finished_61 : decode cX6_finished 61 = .ok (.goto (-45), 3) := by decide +kernel
theorem dX6_finished_64 : decode cX6_finished 64 = .ok (.iload_n 1, 1) := by decide +kernel
theorem dX6_finished_65 : decode cX6_finished 65 = .ok (.iload 4, 2) := by decide +kernel
theorem dX6_finished_67 : decode cX6_finished 67 = .ok (.iadd, 1) := by decide +kernel
theorem dX6_finished_68 : decode cX6_finished 68 = .ok (.iconst 4, 1) := by decide +kernel
theorem dX6_finished_69 : decode cX6_finished 69 = .ok (.irem, 1) := by decide +kernel
theorem dX6_finished_70 : decode cX6_finished 70 = .ok (.istore 5, 2) := by decide +kernel
theorem dX6_finished_72 : decode cX6_finished 72 = .ok (.iload 5, 2) := by decide +kernel
theorem dX6_finished_74 : decode cX6_finished 74 = .ok (.iconst 2, 1) := by decide +kernel
theorem dX6_finished_75 : decode cX6_finished 75 = .ok (.irem, 1) := by decide +kernel
theorem dX6_finished_76 : decode cX6_finished 76 = .ok (.ifCond .ne 7, 3) := by decide +kernel
theorem dX6_finished_79 : decode cX6_finished 79 = .ok (.iconst 1, 1) := by decide +kernel
theorem dX6_finished_80 : decode cX6_finished 80 = .ok (.goto 4, 3) := by decide +kernel
theorem dX6_finished_83 : decode cX6_finished 83 = .ok (.iconst 0, 1) := by decide +kernel
theorem dX6_finished_84 : decode cX6_finished 84 = .ok (.aload_n 0, 1) := by decide +kernel
theorem dX6_finished_85 : decode cX6_finished 85 = .ok (.getfield 29, 3) := by decide +kernel
theorem dX6_finished_88 : decode cX6_finished 88 = .ok (.ldc 91, 2) := by decide +kernel
theorem dX6_finished_90 : decode cX6_finished 90 = .ok (.iload 5, 2) := by decide +kernel
theorem dX6_finished_92 : decode cX6_finished 92 = .ok (.imul, 1) := by decide +kernel
theorem dX6_finished_93 : decode cX6_finished 93 = .ok (.iload_n 2, 1) := by decide +kernel
theorem dX6_finished_94 : decode cX6_finished 94 = .ok (.iadd, 1) := by decide +kernel
theorem dX6_finished_95 : decode cX6_finished 95 = .ok (.iaload, 1) := by decide +kernel
theorem dX6_finished_96 : decode cX6_finished 96 = .ok (.iadd, 1) := by decide +kernel
theorem dX6_finished_97 : decode cX6_finished 97 = .ok (.ireturn, 1) := by decide +kernel
set_option maxRecDepth 20000 in
theorem ggX6_fourth_X6_finished : GoodIn wsX6_fourth wsX6_finished := goodIn_r _ [8, 2, 9, 10, 11, 12, 13, 7, 14, 15, 26, 27, 28, 29, 30, 31, 32, 33, 34, 35, 36, 37, 38, 39, 40, 41] (by decide +kernel) (by decide +kernel)
set_option maxRecDepth 20000 in
theorem gX6_fourth_X6_finished : GoodIn wsX6_fourth (wsV RX6 95 RX6 yX6_finished wsX6_finished) := goodIn_app (goodIn_of _ (by decide +kernel)) ggX6_fourth_X6_finished
set_option maxRecDepth 20000 in
theorem ggX6_fourth_X6_can : GoodIn wsX6_fourth wsX6_can := goodIn_r _ [19, 3, 2, 20, 21, 7, 22, 26, 27, 28, 29, 30, 31, 32, 33, 34, 35, 36, 37, 38, 39, 40, 41] (by decide +kernel) (by decide +kernel)
set_option maxRecDepth 20000 in
theorem gX6_fourth_X6_can : GoodIn wsX6_fourth (wsV RX6 98 RX6 yX6_can wsX6_can) := goodIn_app (goodIn_of _ (by decide +kernel)) ggX6_fourth_X6_can
set_option maxRecDepth 20000 in
theorem ggX6_fourth_X6_better : GoodIn wsX6_fourth wsX6_better := goodIn_r _ [25] (by decide +kernel) (by decide +kernel)
set_option maxRecDepth 20000 in
theorem gX6_fourth_X6_better : GoodIn wsX6_fourth (va_wsS RX6 102 yX6_better wsX6_better) := goodIn_app (goodIn_of _ (by decide +kernel)) ggX6_fourth_X6_better
theorem dX6_fourth_0 : decode cX6_fourth 0 = .ok (.aload_n 0, 1) := by decide +kernel
theorem dX6_fourth_1 : decode cX6_fourth 1 = .ok (.getfield 92, 3) := by decide +kernel
theorem dX6_fourth_4 : decode cX6_fourth 4 = .ok (.iconst 3, 1) := by decide +kernel
theorem dX6_fourth_5 : decode cX6_fourth 5 = .ok (.if_icmp .le 10, 3) := by decide +kernel
theorem dX6_fourth_8 : decode cX6_fourth 8 = .ok (.aload_n 0, 1) := by decide +kernel
theorem dX6_fourth_9 : decode cX6_fourth 9 = .ok (.iload_n 1, 1) := by decide +kernel
theorem dX6_fourth_10 : decode cX6_fourth 10 = .ok (.iload_n 2, 1) := by decide +kernel
theorem dX6_fourth_11 : decode cX6_fourth 11 = .ok (.invokevirtual 95, 3) := by decide +kernel
theorem dX6_fourth_14 : decode cX6_fourth 14 = .ok (.ireturn, 1) := by decide +kernel
theorem dX6_fourth_15 : decode cX6_fourth 15 = .ok (.iload_n 1, 1) := by decide +kernel
theorem dX6_fourth_16 : decode cX6_fourth 16 = .ok (.iconst 3, 1) := by decide +kernel
theorem dX6_fourth_17 : decode cX6_fourth 17 = .ok (.iadd, 1) := by decide +kernel
theorem dX6_fourth_18 : decode cX6_fourth 18 = .ok (.iconst 4, 1) := by decide +kernel
theorem dX6_fourth_19 : decode cX6_fourth 19 = .ok (.irem, 1) := by decide +kernel
theorem dX6_fourth_20 : decode cX6_fourth 20 = .ok (.istore_n 3, 1) := by decide +kernel
theorem dX6_fourth_21 : decode cX6_fourth 21 = .ok (.iconst (-1), 1) := by decide +kernel
theorem dX6_fourth_22 : decode cX6_fourth 22 = .ok (.istore 4, 2) := by decide +kernel
theorem dX6_fourth_24 : decode cX6_fourth 24 = .ok (.iconst 0, 1) := by decide +kernel
theorem dX6_fourth_25 : decode cX6_fourth 25 = .ok (.istore 5, 2) := by decide +kernel
theorem dX6_fourth_27 : decode cX6_fourth 27 = .ok (.iload 5, 2) := by decide +kernel
theorem dX6_fourth_29 : decode cX6_fourth 29 = .ok (.iconst 4, 1) := by decide +kernel
theorem dX6_fourth_30 : decode cX6_fourth 30 = .ok (.if_icmp .ge 63, 3) := by decide +kernel
theorem dX6_fourth_33 : decode cX6_fourth 33 = .ok (.aload_n 0, 1) := by decide +kernel
theorem dX6_fourth_34 : decode cX6_fourth 34 = .ok (.iload_n 2, 1) := by decide +kernel
theorem dX6_fourth_35 : decode cX6_fourth 35 = .ok (.iload_n 3, 1) := by decide +kernel
theorem dX6_fourth_36 : decode cX6_fourth 36 = .ok (.iload 5, 2) := by decide +kernel
theorem dX6_fourth_38 : decode cX6_fourth 38 = .ok (.iconst 3, 1) := by decide +kernel
theorem dX6_fourth_39 : decode cX6_fourth 39 = .ok (.invokevirtual 98, 3) := by decide +kernel
theorem dX6_fourth_42 : decode cX6_fourth 42 = .ok (.ifCond .eq 45, 3) := by decide +kernel
theorem dX6_fourth_45 : decode cX6_fourth 45 = .ok (.aload_n 0, 1) := by decide +kernel
theorem dX6_fourth_46 : decode cX6_fourth 46 = .ok (.getfield 32, 3) := by decide +kernel
theorem dX6_fourth_49 : decode cX6_fourth 49 = .ok (.iconst 3, 1) := by decide +kernel
theorem dX6_fourth_50 : decode cX6_fourth 50 = .ok (.aload_n 0, 1) := by decide +kernel
theorem dX6_fourth_51 : decode cX6_fourth 51 = .ok (.getfield 25, 3) := by decide +kernel
theorem dX6_fourth_54 : decode cX6_fourth 54 = .ok (.iconst 4, 1) := by decide +kernel
theorem dX6_fourth_55 : decode cX6_fourth 55 = .ok (.iload_n 3, 1) := by decide +kernel
theorem dX6_fourth_56 : decode cX6_fourth 56 = .ok (.imul, 1) := by decide +kernel
theorem dX6_fourth_57 : decode cX6_fourth 57 = .ok (.iload 5, 2) := by decide +kernel
theorem dX6_fourth_59 : decode cX6_fourth 59 = .ok (.iadd, 1) := by decide +kernel
theorem dX6_fourth_60 : decode cX6_fourth 60 = .ok (.iaload, 1) := by decide +kernel
theorem dX6_fourth_61 : decode cX6_fourth 61 = .ok (.iastore, 1) := by decide +kernel
theorem dX6_fourth_62 : decode cX6_fourth 62 = .ok (.iload_n 3, 1) := by decide +kernel
theorem dX6_fourth_63 : decode cX6_fourth 63 = .ok (.aload_n 0, 1) := by decide +kernel
theorem dX6_fourth_64 : decode cX6_fourth 64 = .ok (.iload_n 1, 1) := by decide +kernel
theorem dX6_fourth_65 : decode cX6_fourth 65 = .ok (.iload_n 2, 1) := by decide +kernel
theorem dX6_fourth_66 : decode cX6_fourth 66 = .ok (.iconst 1, 1) := by decide +kernel
theorem dX6_fourth_67 : decode cX6_fourth 67 = .ok (.iconst 4, 1) := by decide +kernel
theorem dX6_fourth_68 : decode cX6_fourth 68 = .ok (.iload_n 3, 1) := by decide +kernel
theorem dX6_fourth_69 : decode cX6_fourth 69 = .ok (.imul, 1) := by decide +kernel
theorem dX6_fourth_70 : decode cX6_fourth 70 = .ok (.iload 5, 2) := by decide +kernel
theorem dX6_fourth_72 : decode cX6_fourth 72 = .ok (.iadd, 1) := by decide +kernel
theorem dX6_fourth_73 : decode cX6_fourth 73 = .ok (.ishl, 1) := by decide +kernel
theorem dX6_fourth_74 : decode cX6_fourth 74 = .ok (.iconst (-1), 1) := by decide +kernel
theorem dX6_fourth_75 : decode cX6_fourth 75 = .ok (.ixor, 1) := by decide +kernel
theorem dX6_fourth_76 : decode cX6_fourth 76 = .ok (.iand, 1) := by decide +kernel
theorem dX6_fourth_77 : decode cX6_fourth 77 = .ok (.invokevirtual 95, 3) := by decide +kernel
theorem dX6_fourth_80 : decode cX6_fourth 80 = .ok (.iload 4, 2) := by decide +kernel
theorem dX6_fourth_82 : decode cX6_fourth 82 = .ok (.invokestatic 102, 3) := by decide +kernel
theorem dX6_fourth_85 : decode cX6_fourth 85 = .ok (.istore 4, 2) := by decide +kernel
theorem dX6_fourth_87 : decode cX6_fourth 87 = .ok (.iinc 5 1, 3) := by decide +kernel
theorem dX6_fourth_90 : decode cX6_fourth 90 = .ok (.goto (-63), 3) := by decide +kernel
theorem dX6_fourth_93 : decode cX6_fourth 93 = .ok (.iload 4, 2) := by decide +kernel
theorem dX6_fourth_95 : decode cX6_fourth 95 = .ok (.ireturn, 1) := by decide +kernel
set_option maxRecDepth 20000 in
theorem ggX6_third_X6_fourth : GoodIn wsX6_third wsX6_fourth := goodIn_r _ [8, 1, 2, 3, 9, 10, 11, 7, 12, 13, 14, 15, 16, 17, 18, 19, 20, 21, 22, 23, 24, 25, 26, 27, 28, 29, 30, 31, 32, 33, 34, 35, 36, 37, 38, 39, 40, 41, 42, 43, 44, 45] (by decide +kernel) (by decide +kernel)
set_option maxRecDepth 20000 in
theorem gX6_third_X6_fourth : GoodIn wsX6_third (wsV RX6 106 RX6 yX6_fourth wsX6_fourth) := goodIn_app (goodIn_of _ (by decide +kernel)) ggX6_third_X6_fourth
set_option maxRecDepth 20000 in
theorem ggX6_third_X6_can : GoodIn wsX6_third wsX6_can := goodIn_r _ [23, 3, 2, 24, 25, 7, 26, 30, 31, 32, 33, 34, 35, 36, 37, 38, 39, 40, 41, 42, 43, 44, 45] (by decide +kernel) (by decide +kernel)
set_option maxRecDepth 20000 in
theorem gX6_third_X6_can : GoodIn wsX6_third (wsV RX6 98 RX6 yX6_can wsX6_can) := goodIn_app (goodIn_of _ (by decide +kernel)) ggX6_third_X6_can
set_option maxRecDepth 20000 in
theorem ggX6_third_X6_better : GoodIn wsX6_third wsX6_better := goodIn_r _ [29] (by decide +kernel) (by decide +kernel)
set_option maxRecDepth 20000 in
theorem gX6_third_X6_better : GoodIn wsX6_third (va_wsS RX6 102 yX6_better wsX6_better) := goodIn_app (goodIn_of _ (by decide +kernel)) ggX6_third_X6_better
theorem dX6_third_0 : decode cX6_third 0 = .ok (.aload_n 0, 1) := by decide +kernel
theorem dX6_third_1 : decode cX6_third 1 = .ok (.getfield 92, 3) := by decide +kernel
theorem dX6_third_4 : decode cX6_third 4 = .ok (.iconst 2, 1) := by decide +kernel
theorem dX6_third_5 : decode cX6_third 5 = .ok (.if_icmp .le 10, 3) := by decide +kernel
theorem dX6_third_8 : decode cX6_third 8 = .ok (.aload_n 0, 1) := by decide +kernel
theorem dX6_third_9 : decode cX6_third 9 = .ok (.iload_n 1, 1) := by decide +kernel
theorem dX6_third_10 : decode cX6_third 10 = .ok (.iload_n 2, 1) := by decide +kernel
theorem dX6_third_11 : decode cX6_third 11 = .ok (.invokevirtual 106, 3) := by decide +kernel
theorem dX6_third_14 : decode cX6_third 14 = .ok (.ireturn, 1) := by decide +kernel
theorem dX6_third_15 : decode cX6_third 15 = .ok (.iload_n 1, 1) := by decide +kernel
theorem dX6_third_16 : decode cX6_third 16 = .ok (.iconst 2, 1) := by decide +kernel
theorem dX6_third_17 : decode cX6_third 17 = .ok (.iadd, 1) := by decide +kernel
theorem dX6_third_18 : decode cX6_third 18 = .ok (.iconst 4, 1) := by decide +kernel
theorem dX6_third_19 : decode cX6_third 19 = .ok (.irem, 1) := by decide +kernel
theorem dX6_third_20 : decode cX6_third 20 = .ok (.istore_n 3, 1) := by decide +kernel
theorem dX6_third_21 : decode cX6_third 21 = .ok (.iconst (-1), 1) := by decide +kernel
theorem dX6_third_22 : decode cX6_third 22 = .ok (.istore 4, 2) := by decide +kernel
theorem dX6_third_24 : decode cX6_third 24 = .ok (.iconst 0, 1) := by decide +kernel
theorem dX6_third_25 : decode cX6_third 25 = .ok (.istore 5, 2) := by decide +kernel
theorem dX6_third_27 : decode cX6_third 27 = .ok (.iload 5, 2) := by decide +kernel
theorem dX6_third_29 : decode cX6_third 29 = .ok (.iconst 4, 1) := by decide +kernel
theorem dX6_third_30 : decode cX6_third 30 = .ok (.if_icmp .ge 63, 3) := by decide +kernel
theorem dX6_third_33 : decode cX6_third 33 = .ok (.aload_n 0, 1) := by decide +kernel
theorem dX6_third_34 : decode cX6_third 34 = .ok (.iload_n 2, 1) := by decide +kernel
theorem dX6_third_35 : decode cX6_third 35 = .ok (.iload_n 3, 1) := by decide +kernel
theorem dX6_third_36 : decode cX6_third 36 = .ok (.iload 5, 2) := by decide +kernel
theorem dX6_third_38 : decode cX6_third 38 = .ok (.iconst 2, 1) := by decide +kernel
theorem dX6_third_39 : decode cX6_third 39 = .ok (.invokevirtual 98, 3) := by decide +kernel
theorem dX6_third_42 : decode cX6_third 42 = .ok (.ifCond .eq 45, 3) := by decide +kernel
theorem dX6_third_45 : decode cX6_third 45 = .ok (.aload_n 0, 1) := by decide +kernel
theorem dX6_third_46 : decode cX6_third 46 = .ok (.getfield 32, 3) := by decide +kernel
theorem dX6_third_49 : decode cX6_third 49 = .ok (.iconst 2, 1) := by decide +kernel
theorem dX6_third_50 : decode cX6_third 50 = .ok (.aload_n 0, 1) := by decide +kernel
theorem dX6_third_51 : decode cX6_third 51 = .ok (.getfield 25, 3) := by decide +kernel
theorem dX6_third_54 : decode cX6_third 54 = .ok (.iconst 4, 1) := by decide +kernel
theorem dX6_third_55 : decode cX6_third 55 = .ok (.iload_n 3, 1) := by decide +kernel
theorem dX6_third_56 : decode cX6_third 56 = .ok (.imul, 1) := by decide +kernel
theorem dX6_third_57 : decode cX6_third 57 = .ok (.iload 5, 2) := by decide +kernel
theorem dX6_third_59 : decode cX6_third 59 = .ok (.iadd, 1) := by decide +kernel
theorem dX6_third_60 : decode cX6_third 60 = .ok (.iaload, 1) := by decide +kernel
theorem dX6_third_61 : decode cX6_third 61 = .ok (.iastore, 1) := by decide +kernel
theorem dX6_third_62 : decode cX6_third 62 = .ok (.iload_n 3, 1) := by decide +kernel
theorem dX6_third_63 : decode cX6_third 63 = .ok (.aload_n 0, 1) := by decide +kernel
theorem dX6_third_64 : decode cX6_third 64 = .ok (.iload_n 1, 1) := by decide +kernel
theorem dX6_third_65 : decode cX6_third 65 = .ok (.iload_n 2, 1) := by decide +kernel
theorem dX6_third_66 : decode cX6_third 66 = .ok (.iconst 1, 1) := by decide +kernel
theorem dX6_third_67 : decode cX6_third 67 = .ok (.iconst 4, 1) := by decide +kernel
theorem dX6_third_68 : decode cX6_third 68 = .ok (.iload_n 3, 1) := by decide +kernel
theorem dX6_third_69 : decode cX6_third 69 = .ok (.imul, 1) := by decide +kernel
theorem dX6_third_70 : decode cX6_third 70 = .ok (.iload 5, 2) := by decide +kernel
theorem dX6_third_72 : decode cX6_third 72 = .ok (.iadd, 1) := by decide +kernel
theorem dX6_third_73 : decode cX6_third 73 = .ok (.ishl, 1) := by decide +kernel
theorem dX6_third_74 : decode cX6_third 74 = .ok (.iconst (-1), 1) := by decide +kernel
theorem dX6_third_75 : decode cX6_third 75 = .ok (.ixor, 1) := by decide +kernel
theorem dX6_third_76 : decode cX6_third 76 = .ok (.iand, 1) := by decide +kernel
theorem dX6_third_77 : decode cX6_third 77 = .ok (.invokevirtual 106, 3) := by decide +kernel
theorem dX6_third_80 : decode cX6_third 80 = .ok (.iload 4, 2) := by decide +kernel
theorem dX6_third_82 : decode cX6_third 82 = .ok (.invokestatic 102, 3) := by decide +kernel
theorem dX6_third_85 : decode cX6_third 85 = .ok (.istore 4, 2) := by decide +kernel
theorem dX6_third_87 : decode cX6_third 87 = .ok (.iinc 5 1, 3) := by decide +kernel
theorem dX6_third_90 : decode cX6_third 90 = .ok (.goto (-63), 3) := by decide +kernel
theorem dX6_third_93 : decode cX6_third 93 = .ok (.iload 4, 2) := by decide +kernel
theorem dX6_third_95 : decode cX6_third 95 = .ok (.ireturn, 1) := by decide +kernel
set_option maxRecDepth 20000 in
theorem ggX6_second_X6_third : GoodIn wsX6_second wsX6_third := goodIn_r _ [8, 1, 2, 3, 9, 10, 11, 7, 12, 13, 14, 15, 16, 17, 18, 19, 20, 21, 22, 23, 24, 25, 26, 27, 28, 29, 30, 31, 32, 33, 34, 35, 36, 37, 38, 39, 40, 41, 42, 43, 44, 45, 46, 47, 48, 49] (by decide +kernel) (by decide +kernel)
set_option maxRecDepth 20000 in
theorem gX6_second_X6_third : GoodIn wsX6_second (wsV RX6 109 RX6 yX6_third wsX6_third) := goodIn_app (goodIn_of _ (by decide +kernel)) ggX6_second_X6_third
set_option maxRecDepth 20000 in
theorem ggX6_second_X6_can : GoodIn wsX6_second wsX6_can := goodIn_r _ [27, 3, 2, 28, 29, 7, 30, 34, 35, 36, 37, 38, 39, 40, 41, 42, 43, 44, 45, 46, 47, 48, 49] (by decide +kernel) (by decide +kernel)
set_option maxRecDepth 20000 in
theorem gX6_second_X6_can : GoodIn wsX6_second (wsV RX6 98 RX6 yX6_can wsX6_can) := goodIn_app (goodIn_of _ (by decide +kernel)) ggX6_second_X6_can
set_option maxRecDepth 20000 in
theorem ggX6_second_X6_better : GoodIn wsX6_second wsX6_better := goodIn_r _ [33] (by decide +kernel) (by decide +kernel)
set_option maxRecDepth 20000 in
theorem gX6_second_X6_better : GoodIn wsX6_second (va_wsS RX6 102 yX6_better wsX6_better) := goodIn_app (goodIn_of _ (by decide +kernel)) ggX6_second_X6_better
theorem dX6_second_0 : decode cX6_second 0 = .ok (.aload_n 0, 1) := by decide +kernel
theorem dX6_second_1 : decode cX6_second 1 = .ok (.getfield 92, 3) := by decide +kernel
theorem dX6_second_4 : decode cX6_second 4 = .ok (.iconst 1, 1) := by decide +kernel
theorem dX6_second_5 : decode cX6_second 5 = .ok (.if_icmp .le 10, 3) := by decide +kernel
theorem dX6_second_8 : decode cX6_second 8 = .ok (.aload_n 0, 1) := by decide +kernel
theorem dX6_second_9 : decode cX6_second 9 = .ok (.iload_n 1, 1) := by decide +kernel
theorem dX6_second_10 : decode cX6_second 10 = .ok (.iload_n 2, 1) := by decide +kernel
theorem dX6_second_11 : decode cX6_second 11 = .ok (.invokevirtual 109, 3) := by decide +kernel
theorem dX6_second_14 : decode cX6_second 14 = .ok (.ireturn, 1) := by decide +kernel
theorem dX6_second_15 : decode cX6_second 15 = .ok (.iload_n 1, 1) := by decide +kernel
theorem dX6_second_16 : decode cX6_second 16 = .ok (.iconst 1, 1) := by decide +kernel
theorem dX6_second_17 : decode cX6_second 17 = .ok (.iadd, 1) := by decide +kernel
theorem dX6_second_18 : decode cX6_second 18 = .ok (.iconst 4, 1) := by decide +kernel
theorem dX6_second_19 : decode cX6_second 19 = .ok (.irem, 1) := by decide +kernel
theorem dX6_second_20 : decode cX6_second 20 = .ok (.istore_n 3, 1) := by decide +kernel
theorem dX6_second_21 : decode cX6_second 21 = .ok (.iconst (-1), 1) := by decide +kernel
theorem dX6_second_22 : decode cX6_second 22 = .ok (.istore 4, 2) := by decide +kernel
theorem dX6_second_24 : decode cX6_second 24 = .ok (.iconst 0, 1) := by decide +kernel
theorem dX6_second_25 : decode cX6_second 25 = .ok (.istore 5, 2) := by decide +kernel
theorem dX6_second_27 : decode cX6_second 27 = .ok (.iload 5, 2) := by decide +kernel
theorem dX6_second_29 : decode cX6_second 29 = .ok (.iconst 4, 1) := by decide +kernel
theorem dX6_second_30 : decode cX6_second 30 = .ok (.if_icmp .ge 63, 3) := by decide +kernel
theorem dX6_second_33 : decode cX6_second 33 = .ok (.aload_n 0, 1) := by decide +kernel
theorem dX6_second_34 : decode cX6_second 34 = .ok (.iload_n 2, 1) := by decide +kernel
theorem dX6_second_35 : decode cX6_second 35 = .ok (.iload_n 3, 1) := by decide +kernel
theorem dX6_second_36 : decode cX6_second 36 = .ok (.iload 5, 2) := by decide +kernel
theorem dX6_second_38 : decode cX6_second 38 = .ok (.iconst 1, 1) := by decide +kernel
theorem dX6_second_39 : decode cX6_second 39 = .ok (.invokevirtual 98, 3) := by decide +kernel
theorem dX6_second_42 : decode cX6_second 42 = .ok (.ifCond .eq 45, 3) := by decide +kernel
theorem dX6_second_45 : decode cX6_second 45 = .ok (.aload_n 0, 1) := by decide +kernel
theorem dX6_second_46 : decode cX6_second 46 = .ok (.getfield 32, 3) := by decide +kernel
theorem dX6_second_49 : decode cX6_second 49 = .ok (.iconst 1, 1) := by decide +kernel
theorem dX6_second_50 : decode cX6_second 50 = .ok (.aload_n 0, 1) := by decide +kernel
theorem dX6_second_51 : decode cX6_second 51 = .ok (.getfield 25, 3) := by decide +kernel
theorem dX6_second_54 : decode cX6_second 54 = .ok (.iconst 4, 1) := by decide +kernel
theorem dX6_second_55 : decode cX6_second 55 = .ok (.iload_n 3, 1) := by decide +kernel
theorem dX6_second_56 : decode cX6_second 56 = .ok (.imul, 1) := by decide +kernel
theorem dX6_second_57 : decode cX6_second 57 = .ok (.iload 5, 2) := by decide +kernel
theorem dX6_second_59 : decode cX6_second 59 = .ok (.iadd, 1) := by decide +kernel
theorem dX6_second_60 : decode cX6_second 60 = .ok (.iaload, 1) := by decide +kernel
theorem dX6_second_61 : decode cX6_second 61 = .ok (.iastore, 1) := by decide +kernel
theorem dX6_second_62 : decode cX6_second 62 = .ok (.iload_n 3, 1) := by decide +kernel
theorem dX6_second_63 : decode cX6_second 63 = .ok (.aload_n 0, 1) := by decide +kernel
theorem dX6_second_64 : decode cX6_second 64 = .ok (.iload_n 1, 1) := by decide +kernel
theorem dX6_second_65 : decode cX6_second 65 = .ok (.iload_n 2, 1) := by decide +kernel
theorem dX6_second_66 : decode cX6_second 66 = .ok (.iconst 1, 1) := by decide +kernel
theorem dX6_second_67 : decode cX6_second 67 = .ok (.iconst 4, 1) := by decide +kernel
theorem dX6_second_68 : decode cX6_second 68 = .ok (.iload_n 3, 1) := by decide +kernel
theorem dX6_second_69 : decode cX6_second 69 = .ok (.imul, 1) := by decide +kernel
theorem dX6_second_70 : decode cX6_second 70 = .ok (.iload 5, 2) := by decide +kernel
theorem dX6_second_72 : decode cX6_second 72 = .ok (.iadd, 1) := by decide +kernel
theorem dX6_second_73 : decode cX6_second 73 = .ok (.ishl, 1) := by decide +kernel
theorem dX6_second_74 : decode cX6_second 74 = .ok (.iconst (-1), 1) := by decide +kernel
theorem dX6_second_75 : decode cX6_second 75 = .ok (.ixor, 1) := by decide +kernel
theorem dX6_second_76 : decode cX6_second 76 = .ok (.iand, 1) := by decide +kernel
theorem dX6_second_77 : decode cX6_second 77 = .ok (.invokevirtual 109, 3) := by decide +kernel
theorem dX6_second_80 : decode cX6_second 80 = .ok (.iload 4, 2) := by decide +kernel
theorem dX6_second_82 : decode cX6_second 82 = .ok (.invokestatic 102, 3) := by decide +kernel
theorem dX6_second_85 : decode cX6_second 85 = .ok (.istore 4, 2) := by decide +kernel
theorem dX6_second_87 : decode cX6_second 87 = .ok (.iinc 5 1, 3) := by decide +kernel
theorem dX6_second_90 : decode cX6_second 90 = .ok (.goto (-63), 3) := by decide +kernel
theorem dX6_second_93 : decode cX6_second 93 = .ok (.iload 4, 2) := by decide +kernel
theorem dX6_second_95 : decode cX6_second 95 = .ok (.ireturn, 1) := by decide +kernel
set_option maxRecDepth 20000 in
theorem ggX6_first_X6_second : GoodIn wsX6_first wsX6_second := goodIn_r _ [8, 1, 2, 3, 9, 10, 11, 7, 12, 13, 14, 15, 16, 17, 18, 19, 20, 21, 22, 23, 24, 25, 26, 27, 28, 29, 30, 31, 32, 33, 34, 35, 36, 37, 38, 39, 40, 41, 42, 43, 44, 45, 46, 47, 48, 49, 50, 51, 52, 53] (by decide +kernel) (by decide +kernel)
set_option maxRecDepth 20000 in
theorem gX6_first_X6_second : GoodIn wsX6_first (wsV RX6 112 RX6 yX6_second wsX6_second) := goodIn_app (goodIn_of _ (by decide +kernel)) ggX6_first_X6_second
set_option maxRecDepth 20000 in
theorem ggX6_first_X6_can : GoodIn wsX6_first wsX6_can := goodIn_r _ [31, 3, 2, 32, 33, 7, 34, 38, 39, 40, 41, 42, 43, 44, 45, 46, 47, 48, 49, 50, 51, 52, 53] (by decide +kernel) (by decide +kernel)
set_option maxRecDepth 20000 in
theorem gX6_first_X6_can : GoodIn wsX6_first (wsV RX6 98 RX6 yX6_can wsX6_can) := goodIn_app (goodIn_of _ (by decide +kernel)) ggX6_first_X6_can
set_option maxRecDepth 20000 in
theorem ggX6_first_X6_better : GoodIn wsX6_first wsX6_better := goodIn_r _ [37] (by decide +kernel) (by decide +kernel)
set_option maxRecDepth 20000 in
theorem gX6_first_X6_better : GoodIn wsX6_first (va_wsS RX6 102 yX6_better wsX6_better) := goodIn_app (goodIn_of _ (by decide +kernel)) ggX6_first_X6_better
theorem dX6_first_0 : decode cX6_first 0 = .ok (.aload_n 0, 1) := by decide +kernel
theorem dX6_first_1 : decode cX6_first 1 = .ok (.getfield 92, 3) := by decide +kernel
theorem dX6_first_4 : decode cX6_first 4 = .ok (.ifCond .le 10, 3) := by decide +kernel
theorem dX6_first_7 : decode cX6_first 7 = .ok (.aload_n 0, 1) := by decide +kernel
theorem dX6_first_8 : decode cX6_first 8 = .ok (.iload_n 1, 1) := by decide +kernel
theorem dX6_first_9 : decode cX6_first 9 = .ok (.iload_n 2, 1) := by decide +kernel
theorem dX6_first_10 : decode cX6_first 10 = .ok (.invokevirtual 112, 3) := by decide +kernel
theorem dX6_first_13 : decode cX6_first 13 = .ok (.ireturn, 1) := by decide +kernel
theorem dX6_first_14 : decode cX6_first 14 = .ok (.iconst (-1), 1) := by decide +kernel
theorem dX6_first_15 : decode cX6_first 15 = .ok (.istore_n 3, 1) := by decide +kernel
theorem dX6_first_16 : decode cX6_first 16 = .ok (.iconst 0, 1) := by decide +kernel
theorem dX6_first_17 : decode cX6_first 17 = .ok (.istore 4, 2) := by decide +kernel
theorem dX6_first_19 : decode cX6_first 19 = .ok (.iload 4, 2) := by decide +kernel
theorem dX6_first_21 : decode cX6_first 21 = .ok (.iconst 4, 1) := by decide +kernel
theorem dX6_first_22 : decode cX6_first 22 = .ok (.if_icmp .ge 61, 3) := by decide +kernel
theorem dX6_first_25 : decode cX6_first 25 = .ok (.aload_n 0, 1) := by decide +kernel
theorem dX6_first_26 : decode cX6_first 26 = .ok (.iload_n 2, 1) := by decide +kernel
theorem dX6_first_27 : decode cX6_first 27 = .ok (.iload_n 1, 1) := by decide +kernel
theorem dX6_first_28 : decode cX6_first 28 = .ok (.iload 4, 2) := by decide +kernel
theorem dX6_first_30 : decode cX6_first 30 = .ok (.iconst 0, 1) := by decide +kernel
theorem dX6_first_31 : decode cX6_first 31 = .ok (.invokevirtual 98, 3) := by decide +kernel
theorem dX6_first_34 : decode cX6_first 34 = .ok (.ifCond .eq 43, 3) := by decide +kernel
theorem dX6_first_37 : decode cX6_first 37 = .ok (.aload_n 0, 1) := by decide +kernel
theorem dX6_first_38 : decode cX6_first 38 = .ok (.getfield 32, 3) := by decide +kernel
theorem dX6_first_41 : decode cX6_first 41 = .ok (.iconst 0, 1) := by decide +kernel
theorem dX6_first_42 : decode cX6_first 42 = .ok (.aload_n 0, 1) := by decide +kernel
theorem dX6_first_43 : decode cX6_first 43 = .ok (.getfield 25, 3) := by decide +kernel
theorem dX6_first_46 : decode cX6_first 46 = .ok (.iconst 4, 1) := by decide +kernel
theorem dX6_first_47 : decode cX6_first 47 = .ok (.iload_n 1, 1) := by decide +kernel
theorem dX6_first_48 : decode cX6_first 48 = .ok (.imul, 1) := by decide +kernel
theorem dX6_first_49 : decode cX6_first 49 = .ok (.iload 4, 2) := by decide +kernel
theorem dX6_first_51 : decode cX6_first 51 = .ok (.iadd, 1) := by decide +kernel
theorem dX6_first_52 : decode cX6_first 52 = .ok (.iaload, 1) := by decide +kernel
theorem dX6_first_53 : decode cX6_first 53 = .ok (.iastore, 1) := by decide +kernel
theorem dX6_first_54 : decode cX6_first 54 = .ok (.iload_n 1, 1) := by decide +kernel
theorem dX6_first_55 : decode cX6_first 55 = .ok (.aload_n 0, 1) := by decide +kernel
theorem dX6_first_56 : decode cX6_first 56 = .ok (.iload_n 1, 1) := by decide +kernel
theorem dX6_first_57 : decode cX6_first 57 = .ok (.iload_n 2, 1) := by decide +kernel
theorem dX6_first_58 : decode cX6_first 58 = .ok (.iconst 1, 1) := by decide +kernel
theorem dX6_first_59 : decode cX6_first 59 = .ok (.iconst 4, 1) := by decide +kernel
theorem dX6_first_60 : decode cX6_first 60 = .ok (.iload_n 1, 1) := by decide +kernel
theorem dX6_first_61 : decode cX6_first 61 = .ok (.imul, 1) := by decide +kernel
theorem dX6_first_62 : decode cX6_first 62 = .ok (.iload 4, 2) := by decide +kernel
theorem dX6_first_64 : decode cX6_first 64 = .ok (.iadd, 1) := by decide +kernel
theorem dX6_first_65 : decode cX6_first 65 = .ok (.ishl, 1) := by decide +kernel
theorem dX6_first_66 : decode cX6_first 66 = .ok (.iconst (-1), 1) := by decide +kernel
theorem dX6_first_67 : decode cX6_first 67 = .ok (.ixor, 1) := by decide +kernel
theorem dX6_first_68 : decode cX6_first 68 = .ok (.iand, 1) := by decide +kernel
theorem dX6_first_69 : decode cX6_first 69 = .ok (.invokevirtual 112, 3) := by decide +kernel
theorem dX6_first_72 : decode cX6_first 72 = .ok (.iload_n 3, 1) := by decide +kernel
theorem dX6_first_73 : decode cX6_first 73 = .ok (.invokestatic 102, 3) := by decide +kernel
theorem dX6_first_76 : decode cX6_first 76 = .ok (.istore_n 3, 1) := by decide +kernel
theorem dX6_first_77 : decode cX6_first 77 = .ok (.iinc 4 1, 3) := by decide +kernel
theorem dX6_first_80 : decode cX6_first 80 = .ok (.goto (-61), 3) := by decide +kernel
theorem dX6_first_83 : decode cX6_first 83 = .ok (.iload_n 3, 1) := by decide +kernel
theorem dX6_first_84 : decode cX6_first 84 = .ok (.ireturn, 1) := by decide +kernel
set_option maxRecDepth 20000 in
theorem ggX6_layTable_X6_countOf : GoodIn wsX6_layTable wsX6_countOf := goodIn_r _ [7] (by decide +kernel) (by decide +kernel)
set_option maxRecDepth 20000 in
theorem gX6_layTable_X6_countOf : GoodIn wsX6_layTable (va_wsS RX6 115 yX6_countOf wsX6_countOf) := goodIn_app (goodIn_of _ (by decide +kernel)) ggX6_layTable_X6_countOf
set_option maxRecDepth 20000 in
theorem ggX6_layTable_X6_first : GoodIn wsX6_layTable wsX6_first := goodIn_r _ [11, 1, 12, 13, 14, 15, 16, 6, 17, 18, 19, 20, 21, 22, 23, 24, 25, 26, 27, 28, 29, 3, 2, 30, 31, 32, 33, 34, 35, 36, 37, 38, 39, 40, 41, 42, 43, 44, 45, 46, 47, 48, 49, 50, 51, 52, 53, 54, 55, 56, 57, 58, 59, 60] (by decide +kernel) (by decide +kernel)
set_option maxRecDepth 20000 in
theorem gX6_layTable_X6_first : GoodIn wsX6_layTable (wsV RX6 118 RX6 yX6_first wsX6_first) := goodIn_app (goodIn_of _ (by decide +kernel)) ggX6_layTable_X6_first
theorem dX6_layTable_0 : decode cX6_layTable 0 = .ok (.aload_n 0, 1) := by decide +kernel
theorem dX6_layTable_1 : decode cX6_layTable 1 = .ok (.iconst 0, 1) := by decide +kernel
theorem dX6_layTable_2 : decode cX6_layTable 2 = .ok (.putfield 92, 3) := by decide +kernel
theorem dX6_layTable_5 : decode cX6_layTable 5 = .ok (.iconst 0, 1) := by decide +kernel
theorem dX6_layTable_6 : decode cX6_layTable 6 = .ok (.istore_n 3, 1) := by decide +kernel
theorem dX6_layTable_7 : decode cX6_layTable 7 = .ok (.iload_n 3, 1) := by decide +kernel
theorem dX6_layTable_8 : decode cX6_layTable 8 = .ok (.iload_n 2, 1) := by decide +kernel
theorem dX6_layTable_9 : decode cX6_layTable 9 = .ok (.if_icmp .gt 128, 3) := by decide +kernel
theorem dX6_layTable_12 : decode cX6_layTable 12 = .ok (.iconst 0, 1) := by decide +kernel
theorem dX6_layTable_13 : decode cX6_layTable 13 = .ok (.istore 4, 2) := by decide +kernel
theorem dX6_layTable_15 : decode cX6_layTable 15 = .ok (.iload 4, 2) := by decide +kernel
theorem dX6_layTable_17 : decode cX6_layTable 17 = .ok (.ldc 91, 2) := by decide +kernel
theorem dX6_layTable_19 : decode cX6_layTable 19 = .ok (.if_icmp .ge 112, 3) := by decide +kernel
theorem dX6_layTable_22 : decode cX6_layTable 22 = .ok (.iload 4, 2) := by decide +kernel
theorem dX6_layTable_24 : decode cX6_layTable 24 = .ok (.iload_n 1, 1) := by decide +kernel
theorem dX6_layTable_25 : decode cX6_layTable 25 = .ok (.iconst (-1), 1) := by decide +kernel
theorem dX6_layTable_26 : decode cX6_layTable 26 = .ok (.ixor, 1) := by decide +kernel
theorem dX6_layTable_27 : decode cX6_layTable 27 = .ok (.iand, 1) := by decide +kernel
theorem dX6_layTable_28 : decode cX6_layTable 28 = .ok (.ifCond .ne 7, 3) := by decide +kernel
theorem dX6_layTable_31 : decode cX6_layTable 31 = .ok (.iconst 1, 1) := by decide +kernel
theorem dX6_layTable_32 : decode cX6_layTable 32 = .ok (.goto 4, 3) := by decide +kernel
theorem dX6_layTable_35 : decode cX6_layTable 35 = .ok (.iconst 0, 1) := by decide +kernel
theorem dX6_layTable_36 : decode cX6_layTable 36 = .ok (.istore 5, 2) := by decide +kernel
theorem dX6_layTable_38 : decode cX6_layTable 38 = .ok (.iconst 0, 1) := by decide +kernel
theorem dX6_layTable_39 : decode cX6_layTable 39 = .ok (.istore 6, 2) := by decide +kernel
theorem dX6_layTable_41 : decode cX6_layTable 41 = .ok (.iload 6, 2) := by decide +kernel
theorem dX6_layTable_43 : decode cX6_layTable 43 = .ok (.iconst 4, 1) := by decide +kernel
theorem dX6_layTable_44 : decode cX6_layTable 44 = .ok (.if_icmp .ge 32, 3) := by decide +kernel
theorem dX6_layTable_47 : decode cX6_layTable 47 = .ok (.iload 5, 2) := by decide +kernel
theorem dX6_layTable_49 : decode cX6_layTable 49 = .ok (.ifCond .eq 27, 3) := by decide +kernel
theorem dX6_layTable_52 : decode cX6_layTable 52 = .ok (.iload 4, 2) := by decide +kernel
theorem dX6_layTable_54 : decode cX6_layTable 54 = .ok (.iload 6, 2) := by decide +kernel
theorem dX6_layTable_56 : decode cX6_layTable 56 = .ok (.invokestatic 115, 3) := by decide +kernel
theorem dX6_layTable_59 : decode cX6_layTable 59 = .ok (.iload_n 3, 1) := by decide +kernel
theorem dX6_layTable_60 : decode cX6_layTable 60 = .ok (.if_icmp .ne 7, 3) := by decide +kernel
theorem dX6_layTable_63 : decode cX6_layTable 63 = .ok (.iconst 1, 1) := by decide +kernel
theorem dX6_layTable_64 : decode cX6_layTable 64 = .ok (.goto 4, 3) := by decide +kernel
theorem dX6_layTable_67 : decode cX6_layTable 67 = .ok (.iconst 0, 1) := by decide +kernel
theorem dX6_layTable_68 : decode cX6_layTable 68 = .ok (.istore 5, 2) := by decide +kernel
theorem dX6_layTable_70 : decode cX6_layTable 70 = .ok (.iinc 6 1, 3) := by decide +kernel
theorem dX6_layTable_73 : decode cX6_layTable 73 = .ok (.goto (-32), 3) := by decide +kernel
theorem dX6_layTable_76 : decode cX6_layTable 76 = .ok (.iconst 0, 1) := by decide +kernel
theorem dX6_layTable_77 : decode cX6_layTable 77 = .ok (.istore 6, 2) := by decide +kernel
theorem dX6_layTable_79 : decode cX6_layTable 79 = .ok (.iload 6, 2) := by decide +kernel
theorem dX6_layTable_81 : decode cX6_layTable 81 = .ok (.iconst 4, 1) := by decide +kernel
theorem dX6_layTable_82 : decode cX6_layTable 82 = .ok (.if_icmp .ge 43, 3) := by decide +kernel
theorem dX6_layTable_85 : decode cX6_layTable 85 = .ok (.iload 5, 2) := by decide +kernel
theorem dX6_layTable_87 : decode cX6_layTable 87 = .ok (.ifCond .eq 38, 3) := by decide +kernel
theorem dX6_layTable_90 : decode cX6_layTable 90 = .ok (.aload_n 0, 1) := by decide +kernel
theorem dX6_layTable_91 : decode cX6_layTable 91 = .ok (.getfield 29, 3) := by decide +kernel
theorem dX6_layTable_94 : decode cX6_layTable 94 = .ok (.ldc 91, 2) := by decide +kernel
theorem dX6_layTable_96 : decode cX6_layTable 96 = .ok (.iload 6, 2) := by decide +kernel
theorem dX6_layTable_98 : decode cX6_layTable 98 = .ok (.imul, 1) := by decide +kernel
theorem dX6_layTable_99 : decode cX6_layTable 99 = .ok (.iload 4, 2) := by decide +kernel
theorem dX6_layTable_101 : decode cX6_layTable 101 = .ok (.iadd, 1) := by decide +kernel
theorem dX6_layTable_102 : decode cX6_layTable 102 = .ok (.iload_n 3, 1) := by decide +kernel
theorem dX6_layTable_103 : decode cX6_layTable 103 = .ok (.ifCond .ne 7, 3) := by decide +kernel
theorem dX6_layTable_106 : decode cX6_layTable 106 = .ok (.iconst 0, 1) := by decide +kernel
theorem dX6_layTable_107 : decode cX6_layTable 107 = .ok (.goto 11, 3) := by decide +kernel
theorem dX6_layTable_110 : decode cX6_layTable 110 = .ok (.aload_n 0, 1) := by decide +kernel
theorem dX6_layTable_111 : decode cX6_layTable 111 = .ok (.iload 6, 2) := by decide +kernel
theorem dX6_layTable_113 : decode cX6_layTable 113 = .ok (.iload 4, 2) := by decide +kernel
theorem dX6_layTable_115 : decode cX6_layTable 115 = .ok (.invokevirtual 118, 3) := by decide +kernel
theorem dX6_layTable_118 : decode cX6_layTable 118 = .ok (.iastore, 1) := by decide +kernel
theorem dX6_layTable_119 : decode cX6_layTable 119 = .ok (.iinc 6 1, 3) := by decide +kernel
theorem dX6_layTable_122 : decode cX6_layTable 122 = .ok (.goto (-43), 3) := by decide +kernel
theorem dX6_layTable_125 : decode cX6_layTable 125 = .ok (.iinc 4 1, 3) := by decide +kernel
theorem dX6_layTable_128 : decode cX6_layTable 128 = .ok (.goto (-113), 3) := by decide +kernel
theorem dX6_layTable_131 : decode cX6_layTable 131 = .ok (.iinc 3 1, 3) := by decide +kernel
theorem dX6_layTable_134 : decode cX6_layTable 134 = .ok (.goto (-127), 3) := by decide +kernel
theorem dX6_layTable_137 : decode cX6_layTable 137 = .ok (.return_, 1) := by decide +kernel
set_option maxRecDepth 20000 in
theorem ggX6_solved_X6_all : GoodIn wsX6_solved wsX6_all := goodIn_r _ [10, 11, 60, 61, 62, 63, 64, 65, 66, 67, 68, 69, 70, 71, 72, 73, 74, 75] (by decide +kernel) (by decide +kernel)
set_option maxRecDepth 20000 in
theorem gX6_solved_X6_all : GoodIn wsX6_solved (wsV RX6 70 RX6 yX6_all wsX6_all) := goodIn_app (goodIn_of _ (by decide +kernel)) ggX6_solved_X6_all
set_option maxRecDepth 20000 in
theorem ggX6_solved_X6_size : GoodIn wsX6_solved wsX6_size := goodIn_r _ [14, 15, 16, 9, 17] (by decide +kernel) (by decide +kernel)
set_option maxRecDepth 20000 in
theorem gX6_solved_X6_size : GoodIn wsX6_solved (va_wsS RX6 84 yX6_size wsX6_size) := goodIn_app (goodIn_of _ (by decide +kernel)) ggX6_solved_X6_size
set_option maxRecDepth 20000 in
theorem ggX6_solved_X6_layTable : GoodIn wsX6_solved wsX6_layTable := goodIn_r _ [21, 4, 22, 23, 24, 25, 9, 26, 27, 28, 29, 30, 2, 31, 32, 33, 34, 35, 36, 37, 38, 39, 40, 41, 42, 43, 44, 45, 46, 47, 48, 49, 50, 51, 52, 53, 54, 55, 56, 15, 16, 17, 57, 58, 59, 60, 61, 62, 63, 64, 65, 66, 67, 68, 69, 70, 71, 72, 73, 74, 75] (by decide +kernel) (by decide +kernel)
set_option maxRecDepth 20000 in
theorem gX6_solved_X6_layTable : GoodIn wsX6_solved (wsV RX6 121 RX6 yX6_layTable wsX6_layTable) := goodIn_app (goodIn_of _ (by decide +kernel)) ggX6_solved_X6_layTable
set_option maxRecDepth 20000 in
theorem ggX6_solved_X6_first : GoodIn wsX6_solved wsX6_first := goodIn_r _ [30, 4, 2, 31, 32, 33, 34, 9, 35, 36, 37, 38, 39, 40, 41, 42, 43, 44, 45, 46, 47, 23, 22, 48, 49, 50, 51, 52, 53, 54, 55, 56, 15, 16, 17, 57, 58, 59, 60, 61, 62, 63, 64, 65, 66, 67, 68, 69, 70, 71, 72, 73, 74, 75] (by decide +kernel) (by decide +kernel)
set_option maxRecDepth 20000 in
theorem gX6_solved_X6_first : GoodIn wsX6_solved (wsV RX6 118 RX6 yX6_first wsX6_first) := goodIn_app (goodIn_of _ (by decide +kernel)) ggX6_solved_X6_first
theorem dX6_solved_0 : decode cX6_solved 0 = .ok (.aload_n 0, 1) := by decide +kernel
theorem dX6_solved_1 : decode cX6_solved 1 = .ok (.invokevirtual 70, 3) := by decide +kernel
theorem dX6_solved_4 : decode cX6_solved 4 = .ok (.invokestatic 84, 3) := by decide +kernel
theorem dX6_solved_7 : decode cX6_solved 7 = .ok (.aload_n 0, 1) := by decide +kernel
theorem dX6_solved_8 : decode cX6_solved 8 = .ok (.getfield 56, 3) := by decide +kernel
theorem dX6_solved_11 : decode cX6_solved 11 = .ok (.iadd, 1) := by decide +kernel
theorem dX6_solved_12 : decode cX6_solved 12 = .ok (.istore_n 3, 1) := by decide +kernel
theorem dX6_solved_13 : decode cX6_solved 13 = .ok (.iload_n 3, 1) := by decide +kernel
theorem dX6_solved_14 : decode cX6_solved 14 = .ok (.iconst 4, 1) := by decide +kernel
theorem dX6_solved_15 : decode cX6_solved 15 = .ok (.idiv, 1) := by decide +kernel
theorem dX6_solved_16 : decode cX6_solved 16 = .ok (.istore 4, 2) := by decide +kernel
theorem dX6_solved_18 : decode cX6_solved 18 = .ok (.iload 4, 2) := by decide +kernel
theorem dX6_solved_20 : decode cX6_solved 20 = .ok (.ifCond .ne 5, 3) := by decide +kernel
theorem dX6_solved_23 : decode cX6_solved 23 = .ok (.iconst 0, 1) := by decide +kernel
theorem dX6_solved_24 : decode cX6_solved 24 = .ok (.ireturn, 1) := by decide +kernel
theorem dX6_solved_25 : decode cX6_solved 25 = .ok (.aload_n 0, 1) := by decide +kernel
theorem dX6_solved_26 : decode cX6_solved 26 = .ok (.iload_n 1, 1) := by decide +kernel
theorem dX6_solved_27 : decode cX6_solved 27 = .ok (.iload 4, 2) := by decide +kernel
theorem dX6_solved_29 : decode cX6_solved 29 = .ok (.iconst 1, 1) := by decide +kernel
theorem dX6_solved_30 : decode cX6_solved 30 = .ok (.isub, 1) := by decide +kernel
theorem dX6_solved_31 : decode cX6_solved 31 = .ok (.invokevirtual 121, 3) := by decide +kernel
theorem dX6_solved_34 : decode cX6_solved 34 = .ok (.iconst 0, 1) := by decide +kernel
theorem dX6_solved_35 : decode cX6_solved 35 = .ok (.istore 5, 2) := by decide +kernel
theorem dX6_solved_37 : decode cX6_solved 37 = .ok (.iload 5, 2) := by decide +kernel
theorem dX6_solved_39 : decode cX6_solved 39 = .ok (.aload_n 0, 1) := by decide +kernel
theorem dX6_solved_40 : decode cX6_solved 40 = .ok (.getfield 56, 3) := by decide +kernel
theorem dX6_solved_43 : decode cX6_solved 43 = .ok (.if_icmp .ge 23, 3) := by decide +kernel
theorem dX6_solved_46 : decode cX6_solved 46 = .ok (.aload_n 0, 1) := by decide +kernel
theorem dX6_solved_47 : decode cX6_solved 47 = .ok (.getfield 32, 3) := by decide +kernel
theorem dX6_solved_50 : decode cX6_solved 50 = .ok (.iload 5, 2) := by decide +kernel
theorem dX6_solved_52 : decode cX6_solved 52 = .ok (.aload_n 0, 1) := by decide +kernel
theorem dX6_solved_53 : decode cX6_solved 53 = .ok (.getfield 19, 3) := by decide +kernel
theorem dX6_solved_56 : decode cX6_solved 56 = .ok (.iload 5, 2) := by decide +kernel
theorem dX6_solved_58 : decode cX6_solved 58 = .ok (.iaload, 1) := by decide +kernel
theorem dX6_solved_59 : decode cX6_solved 59 = .ok (.iastore, 1) := by decide +kernel
theorem dX6_solved_60 : decode cX6_solved 60 = .ok (.iinc 5 1, 3) := by decide +kernel
theorem dX6_solved_63 : decode cX6_solved 63 = .ok (.goto (-26), 3) := by decide +kernel
theorem dX6_solved_66 : decode cX6_solved 66 = .ok (.aload_n 0, 1) := by decide +kernel
theorem dX6_solved_67 : decode cX6_solved 67 = .ok (.iload_n 2, 1) := by decide +kernel
theorem dX6_solved_68 : decode cX6_solved 68 = .ok (.putfield 92, 3) := by decide +kernel
theorem dX6_solved_71 : decode cX6_solved 71 = .ok (.aload_n 0, 1) := by decide +kernel
theorem dX6_solved_72 : decode cX6_solved 72 = .ok (.aload_n 0, 1) := by decide +kernel
theorem dX6_solved_73 : decode cX6_solved 73 = .ok (.getfield 53, 3) := by decide +kernel
theorem dX6_solved_76 : decode cX6_solved 76 = .ok (.iload_n 1, 1) := by decide +kernel
theorem dX6_solved_77 : decode cX6_solved 77 = .ok (.invokevirtual 118, 3) := by decide +kernel
theorem dX6_solved_80 : decode cX6_solved 80 = .ok (.ireturn, 1) := by decide +kernel
set_option maxRecDepth 20000 in
theorem ggX6_solve_X6_layList : GoodIn wsX6_solve wsX6_layList := goodIn_r _ [8, 9, 10, 11, 12, 7, 13, 70, 71, 72, 73, 74, 75, 76, 77, 78, 79, 80, 81, 82, 83, 84, 85] (by decide +kernel) (by decide +kernel)
set_option maxRecDepth 20000 in
theorem gX6_solve_X6_layList : GoodIn wsX6_solve (wsV RX6 125 RX6 yX6_layList wsX6_layList) := goodIn_app (goodIn_of _ (by decide +kernel)) ggX6_solve_X6_layList
set_option maxRecDepth 20000 in
theorem ggX6_solve_X6_solved : GoodIn wsX6_solve wsX6_solved := goodIn_r _ [17, 3, 18, 19, 20, 21, 22, 23, 24, 7, 25, 9, 26, 27, 28, 11, 12, 13, 29, 30, 31, 32, 33, 34, 35, 36, 37, 38, 39, 40, 41, 10, 42, 43, 44, 45, 46, 47, 48, 49, 50, 51, 52, 53, 54, 55, 56, 57, 58, 59, 60, 61, 62, 63, 64, 65, 66, 67, 68, 69, 70, 71, 72, 73, 74, 75, 76, 77, 78, 79, 80, 81, 82, 83, 84, 85] (by decide +kernel) (by decide +kernel)
set_option maxRecDepth 20000 in
theorem gX6_solve_X6_solved : GoodIn wsX6_solve (wsV RX6 128 RX6 yX6_solved wsX6_solved) := goodIn_app (goodIn_of _ (by decide +kernel)) ggX6_solve_X6_solved
theorem dX6_solve_0 : decode cX6_solve 0 = .ok (.aload_n 0, 1) := by decide +kernel
theorem dX6_solve_1 : decode cX6_solve 1 = .ok (.aload_n 0, 1) := by decide +kernel
theorem dX6_solve_2 : decode cX6_solve 2 = .ok (.getfield 66, 3) := by decide +kernel
theorem dX6_solve_5 : decode cX6_solve 5 = .ok (.ifCond .eq 7, 3) := by decide +kernel
theorem dX6_solve_8 : decode cX6_solve 8 = .ok (.iconst 0, 1) := by decide +kernel
theorem dX6_solve_9 : decode cX6_solve 9 = .ok (.goto 4, 3) := by decide +kernel
theorem dX6_solve_12 : decode cX6_solve 12 = .ok (.iconst 1, 1) := by decide +kernel
theorem dX6_solve_13 : decode cX6_solve 13 = .ok (.putfield 39, 3) := by decide +kernel
theorem dX6_solve_16 : decode cX6_solve 16 = .ok (.aload_n 0, 1) := by decide +kernel
theorem dX6_solve_17 : decode cX6_solve 17 = .ok (.getfield 39, 3) := by decide +kernel
theorem dX6_solve_20 : decode cX6_solve 20 = .ok (.ifCond .ne 18, 3) := by decide +kernel
theorem dX6_solve_23 : decode cX6_solve 23 = .ok (.aload_n 0, 1) := by decide +kernel
theorem dX6_solve_24 : decode cX6_solve 24 = .ok (.aload_n 0, 1) := by decide +kernel
theorem dX6_solve_25 : decode cX6_solve 25 = .ok (.invokevirtual 125, 3) := by decide +kernel
theorem dX6_solve_28 : decode cX6_solve 28 = .ok (.aload_n 0, 1) := by decide +kernel
theorem dX6_solve_29 : decode cX6_solve 29 = .ok (.getfield 56, 3) := by decide +kernel
theorem dX6_solve_32 : decode cX6_solve 32 = .ok (.invokevirtual 128, 3) := by decide +kernel
theorem dX6_solve_35 : decode cX6_solve 35 = .ok (.goto 4, 3) := by decide +kernel
theorem dX6_solve_38 : decode cX6_solve 38 = .ok (.iconst 0, 1) := by decide +kernel
theorem dX6_solve_39 : decode cX6_solve 39 = .ok (.ireturn, 1) := by decide +kernel
set_option maxRecDepth 20000 in
theorem ggX6_solveByAll_X6_all : GoodIn wsX6_solveByAll wsX6_all := goodIn_r _ [8, 9, 70, 71, 72, 73, 74, 75, 76, 77, 78, 79, 80, 81, 82, 83, 84, 85] (by decide +kernel) (by decide +kernel)
set_option maxRecDepth 20000 in
theorem gX6_solveByAll_X6_all : GoodIn wsX6_solveByAll (wsV RX6 70 RX6 yX6_all wsX6_all) := goodIn_app (goodIn_of _ (by decide +kernel)) ggX6_solveByAll_X6_all
set_option maxRecDepth 20000 in
theorem ggX6_solveByAll_X6_size : GoodIn wsX6_solveByAll wsX6_size := goodIn_r _ [12, 13, 14, 7, 15] (by decide +kernel) (by decide +kernel)
set_option maxRecDepth 20000 in
theorem gX6_solveByAll_X6_size : GoodIn wsX6_solveByAll (va_wsS RX6 84 yX6_size wsX6_size) := goodIn_app (goodIn_of _ (by decide +kernel)) ggX6_solveByAll_X6_size
set_option maxRecDepth 20000 in
theorem ggX6_solveByAll_X6_layList : GoodIn wsX6_solveByAll wsX6_layList := goodIn_r _ [19, 9, 20, 13, 14, 7, 15, 70, 71, 72, 73, 74, 75, 76, 77, 78, 79, 80, 81, 82, 83, 84, 85] (by decide +kernel) (by decide +kernel)
set_option maxRecDepth 20000 in
theorem gX6_solveByAll_X6_layList : GoodIn wsX6_solveByAll (wsV RX6 125 RX6 yX6_layList wsX6_layList) := goodIn_app (goodIn_of _ (by decide +kernel)) ggX6_solveByAll_X6_layList
set_option maxRecDepth 20000 in
theorem ggX6_solveByAll_X6_solved : GoodIn wsX6_solveByAll wsX6_solved := goodIn_r _ [24, 3, 25, 26, 27, 28, 4, 5, 6, 7, 8, 9, 10, 11, 12, 13, 14, 15, 29, 30, 31, 32, 33, 34, 35, 36, 37, 38, 39, 40, 41, 20, 42, 43, 44, 45, 46, 47, 48, 49, 50, 51, 52, 53, 54, 55, 56, 57, 58, 59, 60, 61, 62, 63, 64, 65, 66, 67, 68, 69, 70, 71, 72, 73, 74, 75, 76, 77, 78, 79, 80, 81, 82, 83, 84, 85] (by decide +kernel) (by decide +kernel)
set_option maxRecDepth 20000 in
theorem gX6_solveByAll_X6_solved : GoodIn wsX6_solveByAll (wsV RX6 128 RX6 yX6_solved wsX6_solved) := goodIn_app (goodIn_of _ (by decide +kernel)) ggX6_solveByAll_X6_solved
theorem dX6_solveByAll_0 : decode cX6_solveByAll 0 = .ok (.aload_n 0, 1) := by decide +kernel
theorem dX6_solveByAll_1 : decode cX6_solveByAll 1 = .ok (.aload_n 0, 1) := by decide +kernel
theorem dX6_solveByAll_2 : decode cX6_solveByAll 2 = .ok (.getfield 66, 3) := by decide +kernel
theorem dX6_solveByAll_5 : decode cX6_solveByAll 5 = .ok (.ifCond .eq 19, 3) := by decide +kernel
theorem dX6_solveByAll_8 : decode cX6_solveByAll 8 = .ok (.aload_n 0, 1) := by decide +kernel
theorem dX6_solveByAll_9 : decode cX6_solveByAll 9 = .ok (.invokevirtual 70, 3) := by decide +kernel
theorem dX6_solveByAll_12 : decode cX6_solveByAll 12 = .ok (.invokestatic 84, 3) := by decide +kernel
theorem dX6_solveByAll_15 : decode cX6_solveByAll 15 = .ok (.bipush 12, 2) := by decide +kernel
theorem dX6_solveByAll_17 : decode cX6_solveByAll 17 = .ok (.if_icmp .gt 7, 3) := by decide +kernel
theorem dX6_solveByAll_20 : decode cX6_solveByAll 20 = .ok (.iconst 0, 1) := by decide +kernel
theorem dX6_solveByAll_21 : decode cX6_solveByAll 21 = .ok (.goto 4, 3) := by decide +kernel
theorem dX6_solveByAll_24 : decode cX6_solveByAll 24 = .ok (.iconst 1, 1) := by decide +kernel
theorem dX6_solveByAll_25 : decode cX6_solveByAll 25 = .ok (.putfield 39, 3) := by decide +kernel
theorem dX6_solveByAll_28 : decode cX6_solveByAll 28 = .ok (.aload_n 0, 1) := by decide +kernel
theorem dX6_solveByAll_29 : decode cX6_solveByAll 29 = .ok (.getfield 39, 3) := by decide +kernel
theorem dX6_solveByAll_32 : decode cX6_solveByAll 32 = .ok (.ifCond .ne 18, 3) := by decide +kernel
theorem dX6_solveByAll_35 : decode cX6_solveByAll 35 = .ok (.aload_n 0, 1) := by decide +kernel
theorem dX6_solveByAll_36 : decode cX6_solveByAll 36 = .ok (.aload_n 0, 1) := by decide +kernel
theorem dX6_solveByAll_37 : decode cX6_solveByAll 37 = .ok (.invokevirtual 125, 3) := by decide +kernel
theorem dX6_solveByAll_40 : decode cX6_solveByAll 40 = .ok (.aload_n 0, 1) := by decide +kernel
theorem dX6_solveByAll_41 : decode cX6_solveByAll 41 = .ok (.getfield 56, 3) := by decide +kernel
theorem dX6_solveByAll_44 : decode cX6_solveByAll 44 = .ok (.invokevirtual 128, 3) := by decide +kernel
theorem dX6_solveByAll_47 : decode cX6_solveByAll 47 = .ok (.goto 4, 3) := by decide +kernel
theorem dX6_solveByAll_50 : decode cX6_solveByAll 50 = .ok (.iconst 0, 1) := by decide +kernel
theorem dX6_solveByAll_51 : decode cX6_solveByAll 51 = .ok (.ireturn, 1) := by decide +kernel
set_option maxRecDepth 20000 in
theorem ggX6_valueOf_X6_player : GoodIn wsX6_valueOf wsX6_player := goodIn_r _ [11, 12, 6, 1, 13, 14, 15, 10, 16, 17, 69, 70, 71, 72, 73, 74, 75, 76, 77, 78, 79, 80, 81, 82, 83, 84] (by decide +kernel) (by decide +kernel)
set_option maxRecDepth 20000 in
theorem gX6_valueOf_X6_player : GoodIn wsX6_valueOf (wsV RX6 74 RX6 yX6_player wsX6_player) := goodIn_app (goodIn_of _ (by decide +kernel)) ggX6_valueOf_X6_player
set_option maxRecDepth 20000 in
theorem ggX6_valueOf_X6_layList : GoodIn wsX6_valueOf wsX6_layList := goodIn_r _ [21, 17, 2, 22, 23, 10, 24, 69, 70, 71, 72, 73, 74, 75, 76, 77, 78, 79, 80, 81, 82, 83, 84] (by decide +kernel) (by decide +kernel)
set_option maxRecDepth 20000 in
theorem gX6_valueOf_X6_layList : GoodIn wsX6_valueOf (wsV RX6 125 RX6 yX6_layList wsX6_layList) := goodIn_app (goodIn_of _ (by decide +kernel)) ggX6_valueOf_X6_layList
set_option maxRecDepth 20000 in
theorem ggX6_valueOf_X6_all : GoodIn wsX6_valueOf wsX6_all := goodIn_r _ [16, 17, 69, 70, 71, 72, 73, 74, 75, 76, 77, 78, 79, 80, 81, 82, 83, 84] (by decide +kernel) (by decide +kernel)
set_option maxRecDepth 20000 in
theorem gX6_valueOf_X6_all : GoodIn wsX6_valueOf (wsV RX6 70 RX6 yX6_all wsX6_all) := goodIn_app (goodIn_of _ (by decide +kernel)) ggX6_valueOf_X6_all
set_option maxRecDepth 20000 in
theorem ggX6_valueOf_X6_size : GoodIn wsX6_valueOf wsX6_size := goodIn_r _ [27, 22, 23, 10, 24] (by decide +kernel) (by decide +kernel)
set_option maxRecDepth 20000 in
theorem gX6_valueOf_X6_size : GoodIn wsX6_valueOf (va_wsS RX6 84 yX6_size wsX6_size) := goodIn_app (goodIn_of _ (by decide +kernel)) ggX6_valueOf_X6_size
set_option maxRecDepth 20000 in
theorem ggX6_valueOf_X6_has : GoodIn wsX6_valueOf wsX6_has := goodIn_r _ [24] (by decide +kernel) (by decide +kernel)
set_option maxRecDepth 20000 in
theorem gX6_valueOf_X6_has : GoodIn wsX6_valueOf (va_wsS RX6 42 yX6_has wsX6_has) := goodIn_app (goodIn_of _ (by decide +kernel)) ggX6_valueOf_X6_has
set_option maxRecDepth 20000 in
theorem ggX6_valueOf_X6_layTable : GoodIn wsX6_valueOf wsX6_layTable := goodIn_r _ [31, 5, 32, 33, 34, 35, 10, 36, 37, 38, 39, 40, 3, 2, 41, 42, 43, 44, 45, 46, 47, 48, 49, 50, 51, 52, 53, 54, 55, 56, 57, 58, 59, 60, 61, 62, 63, 64, 65, 22, 23, 24, 66, 67, 68, 69, 70, 71, 72, 73, 74, 75, 76, 77, 78, 79, 80, 81, 82, 83, 84] (by decide +kernel) (by decide +kernel)
set_option maxRecDepth 20000 in
theorem gX6_valueOf_X6_layTable : GoodIn wsX6_valueOf (wsV RX6 121 RX6 yX6_layTable wsX6_layTable) := goodIn_app (goodIn_of _ (by decide +kernel)) ggX6_valueOf_X6_layTable
set_option maxRecDepth 20000 in
theorem ggX6_valueOf_X6_first : GoodIn wsX6_valueOf wsX6_first := goodIn_r _ [40, 5, 3, 2, 41, 42, 43, 10, 44, 45, 46, 47, 48, 49, 50, 51, 52, 53, 54, 55, 56, 33, 32, 57, 58, 59, 60, 61, 62, 63, 64, 65, 22, 23, 24, 66, 67, 68, 69, 70, 71, 72, 73, 74, 75, 76, 77, 78, 79, 80, 81, 82, 83, 84] (by decide +kernel) (by decide +kernel)
set_option maxRecDepth 20000 in
theorem gX6_valueOf_X6_first : GoodIn wsX6_valueOf (wsV RX6 118 RX6 yX6_first wsX6_first) := goodIn_app (goodIn_of _ (by decide +kernel)) ggX6_valueOf_X6_first
theorem dX6_valueOf_0 : decode cX6_valueOf 0 = .ok (.aload_n 0, 1) := by decide +kernel
theorem dX6_valueOf_1 : decode cX6_valueOf 1 = .ok (.invokevirtual 74, 3) := by decide +kernel
theorem dX6_valueOf_4 : decode cX6_valueOf 4 = .ok (.istore_n 2, 1) := by decide +kernel
theorem dX6_valueOf_5 : decode cX6_valueOf 5 = .ok (.aload_n 0, 1) := by decide +kernel
theorem dX6_valueOf_6 : decode cX6_valueOf 6 = .ok (.invokevirtual 125, 3) := by decide +kernel
theorem dX6_valueOf_9 : decode cX6_valueOf 9 = .ok (.istore_n 3, 1) := by decide +kernel
theorem dX6_valueOf_10 : decode cX6_valueOf 10 = .ok (.aload_n 0, 1) := by decide +kernel
theorem dX6_valueOf_11 : decode cX6_valueOf 11 = .ok (.invokevirtual 70, 3) := by decide +kernel
theorem dX6_valueOf_14 : decode cX6_valueOf 14 = .ok (.invokestatic 84, 3) := by decide +kernel
theorem dX6_valueOf_17 : decode cX6_valueOf 17 = .ok (.aload_n 0, 1) := by decide +kernel
theorem dX6_valueOf_18 : decode cX6_valueOf 18 = .ok (.getfield 56, 3) := by decide +kernel
theorem dX6_valueOf_21 : decode cX6_valueOf 21 = .ok (.iadd, 1) := by decide +kernel
theorem dX6_valueOf_22 : decode cX6_valueOf 22 = .ok (.iconst 4, 1) := by decide +kernel
theorem dX6_valueOf_23 : decode cX6_valueOf 23 = .ok (.idiv, 1) := by decide +kernel
theorem dX6_valueOf_24 : decode cX6_valueOf 24 = .ok (.istore 4, 2) := by decide +kernel
theorem dX6_valueOf_26 : decode cX6_valueOf 26 = .ok (.iconst 0, 1) := by decide +kernel
theorem dX6_valueOf_27 : decode cX6_valueOf 27 = .ok (.istore 5, 2) := by decide +kernel
theorem dX6_valueOf_29 : decode cX6_valueOf 29 = .ok (.iload 5, 2) := by decide +kernel
theorem dX6_valueOf_31 : decode cX6_valueOf 31 = .ok (.iconst 4, 1) := by decide +kernel
theorem dX6_valueOf_32 : decode cX6_valueOf 32 = .ok (.if_icmp .ge 54, 3) := by decide +kernel
theorem dX6_valueOf_35 : decode cX6_valueOf 35 = .ok (.iload_n 3, 1) := by decide +kernel
theorem dX6_valueOf_36 : decode cX6_valueOf 36 = .ok (.iload_n 3, 1) := by decide +kernel
theorem dX6_valueOf_37 : decode cX6_valueOf 37 = .ok (.iconst 4, 1) := by decide +kernel
theorem dX6_valueOf_38 : decode cX6_valueOf 38 = .ok (.iload_n 2, 1) := by decide +kernel
theorem dX6_valueOf_39 : decode cX6_valueOf 39 = .ok (.imul, 1) := by decide +kernel
theorem dX6_valueOf_40 : decode cX6_valueOf 40 = .ok (.iload 5, 2) := by decide +kernel
theorem dX6_valueOf_42 : decode cX6_valueOf 42 = .ok (.iadd, 1) := by decide +kernel
theorem dX6_valueOf_43 : decode cX6_valueOf 43 = .ok (.invokestatic 42, 3) := by decide +kernel
theorem dX6_valueOf_46 : decode cX6_valueOf 46 = .ok (.ifCond .eq 31, 3) := by decide +kernel
theorem dX6_valueOf_49 : decode cX6_valueOf 49 = .ok (.aload_n 0, 1) := by decide +kernel
theorem dX6_valueOf_50 : decode cX6_valueOf 50 = .ok (.getfield 25, 3) := by decide +kernel
theorem dX6_valueOf_53 : decode cX6_valueOf 53 = .ok (.iconst 4, 1) := by decide +kernel
theorem dX6_valueOf_54 : decode cX6_valueOf 54 = .ok (.iload_n 2, 1) := by decide +kernel
theorem dX6_valueOf_55 : decode cX6_valueOf 55 = .ok (.imul, 1) := by decide +kernel
theorem dX6_valueOf_56 : decode cX6_valueOf 56 = .ok (.iload 5, 2) := by decide +kernel
theorem dX6_valueOf_58 : decode cX6_valueOf 58 = .ok (.iadd, 1) := by decide +kernel
theorem dX6_valueOf_59 : decode cX6_valueOf 59 = .ok (.iaload, 1) := by decide +kernel
theorem dX6_valueOf_60 : decode cX6_valueOf 60 = .ok (.iload_n 1, 1) := by decide +kernel
theorem dX6_valueOf_61 : decode cX6_valueOf 61 = .ok (.if_icmp .ne 16, 3) := by decide +kernel
theorem dX6_valueOf_64 : decode cX6_valueOf 64 = .ok (.iconst 1, 1) := by decide +kernel
theorem dX6_valueOf_65 : decode cX6_valueOf 65 = .ok (.iconst 4, 1) := by decide +kernel
theorem dX6_valueOf_66 : decode cX6_valueOf 66 = .ok (.iload_n 2, 1) := by decide +kernel
theorem dX6_valueOf_67 : decode cX6_valueOf 67 = .ok (.imul, 1) := by decide +kernel
theorem dX6_valueOf_68 : decode cX6_valueOf 68 = .ok (.iload 5, 2) := by decide +kernel
theorem dX6_valueOf_70 : decode cX6_valueOf 70 = .ok (.iadd, 1) := by decide +kernel
theorem dX6_valueOf_71 : decode cX6_valueOf 71 = .ok (.ishl, 1) := by decide +kernel
theorem dX6_valueOf_72 : decode cX6_valueOf 72 = .ok (.iconst (-1), 1) := by decide +kernel
theorem dX6_valueOf_73 : decode cX6_valueOf 73 = .ok (.ixor, 1) := by decide +kernel
theorem dX6_valueOf_74 : decode cX6_valueOf 74 = .ok (.goto 4, 3) := by decide +kernel
theorem dX6_valueOf_77 : decode cX6_valueOf 77 = .ok (.iconst (-1), 1) := by decide +kernel
theorem dX6_valueOf_78 : decode cX6_valueOf 78 = .ok (.iand, 1) := by decide +kernel
theorem dX6_valueOf_79 : decode cX6_valueOf 79 = .ok (.istore_n 3, 1) := by decide +kernel
theorem dX6_valueOf_80 : decode cX6_valueOf 80 = .ok (.iinc 5 1, 3) := by decide +kernel
theorem dX6_valueOf_83 : decode cX6_valueOf 83 = .ok (.goto (-54), 3) := by decide +kernel
theorem dX6_valueOf_86 : decode cX6_valueOf 86 = .ok (.aload_n 0, 1) := by decide +kernel
theorem dX6_valueOf_87 : decode cX6_valueOf 87 = .ok (.iload_n 3, 1) := by decide +kernel
theorem dX6_valueOf_88 : decode cX6_valueOf 88 = .ok (.iload 4, 2) := by decide +kernel
theorem dX6_valueOf_90 : decode cX6_valueOf 90 = .ok (.iconst 1, 1) := by decide +kernel
theorem dX6_valueOf_91 : decode cX6_valueOf 91 = .ok (.isub, 1) := by decide +kernel
theorem dX6_valueOf_92 : decode cX6_valueOf 92 = .ok (.invokevirtual 121, 3) := by decide +kernel
theorem dX6_valueOf_95 : decode cX6_valueOf 95 = .ok (.iconst 0, 1) := by decide +kernel
theorem dX6_valueOf_96 : decode cX6_valueOf 96 = .ok (.istore 5, 2) := by decide +kernel
theorem dX6_valueOf_98 : decode cX6_valueOf 98 = .ok (.iload 5, 2) := by decide +kernel
theorem dX6_valueOf_100 : decode cX6_valueOf 100 = .ok (.aload_n 0, 1) := by decide +kernel
theorem dX6_valueOf_101 : decode cX6_valueOf 101 = .ok (.getfield 56, 3) := by decide +kernel
theorem dX6_valueOf_104 : decode cX6_valueOf 104 = .ok (.if_icmp .ge 23, 3) := by decide +kernel
theorem dX6_valueOf_107 : decode cX6_valueOf 107 = .ok (.aload_n 0, 1) := by decide +kernel
theorem dX6_valueOf_108 : decode cX6_valueOf 108 = .ok (.getfield 32, 3) := by decide +kernel
theorem dX6_valueOf_111 : decode cX6_valueOf 111 = .ok (.iload 5, 2) := by decide +kernel
theorem dX6_valueOf_113 : decode cX6_valueOf 113 = .ok (.aload_n 0, 1) := by decide +kernel
theorem dX6_valueOf_114 : decode cX6_valueOf 114 = .ok (.getfield 19, 3) := by decide +kernel
theorem dX6_valueOf_117 : decode cX6_valueOf 117 = .ok (.iload 5, 2) := by decide +kernel
theorem dX6_valueOf_119 : decode cX6_valueOf 119 = .ok (.iaload, 1) := by decide +kernel
theorem dX6_valueOf_120 : decode cX6_valueOf 120 = .ok (.iastore, 1) := by decide +kernel
theorem dX6_valueOf_121 : decode cX6_valueOf 121 = .ok (.iinc 5 1, 3) := by decide +kernel
theorem dX6_valueOf_124 : decode cX6_valueOf 124 = .ok (.goto (-26), 3) := by decide +kernel
theorem dX6_valueOf_127 : decode cX6_valueOf 127 = .ok (.aload_n 0, 1) := by decide +kernel
theorem dX6_valueOf_128 : decode cX6_valueOf 128 = .ok (.getfield 32, 3) := by decide +kernel
theorem dX6_valueOf_131 : decode cX6_valueOf 131 = .ok (.aload_n 0, 1) := by decide +kernel
theorem dX6_valueOf_132 : decode cX6_valueOf 132 = .ok (.getfield 56, 3) := by decide +kernel
theorem dX6_valueOf_135 : decode cX6_valueOf 135 = .ok (.iload_n 1, 1) := by decide +kernel
theorem dX6_valueOf_136 : decode cX6_valueOf 136 = .ok (.iastore, 1) := by decide +kernel
theorem dX6_valueOf_137 : decode cX6_valueOf 137 = .ok (.aload_n 0, 1) := by decide +kernel
theorem dX6_valueOf_138 : decode cX6_valueOf 138 = .ok (.aload_n 0, 1) := by decide +kernel
theorem dX6_valueOf_139 : decode cX6_valueOf 139 = .ok (.getfield 56, 3) := by decide +kernel
theorem dX6_valueOf_142 : decode cX6_valueOf 142 = .ok (.iconst 1, 1) := by decide +kernel
theorem dX6_valueOf_143 : decode cX6_valueOf 143 = .ok (.iadd, 1) := by decide +kernel
theorem dX6_valueOf_144 : decode cX6_valueOf 144 = .ok (.putfield 92, 3) := by decide +kernel
theorem dX6_valueOf_147 : decode cX6_valueOf 147 = .ok (.aload_n 0, 1) := by decide +kernel
theorem dX6_valueOf_148 : decode cX6_valueOf 148 = .ok (.aload_n 0, 1) := by decide +kernel
theorem dX6_valueOf_149 : decode cX6_valueOf 149 = .ok (.getfield 53, 3) := by decide +kernel
theorem dX6_valueOf_152 : decode cX6_valueOf 152 = .ok (.iload_n 3, 1) := by decide +kernel
theorem dX6_valueOf_153 : decode cX6_valueOf 153 = .ok (.invokevirtual 118, 3) := by decide +kernel
theorem dX6_valueOf_156 : decode cX6_valueOf 156 = .ok (.istore 5, 2) := by decide +kernel
theorem dX6_valueOf_158 : decode cX6_valueOf 158 = .ok (.iload_n 2, 1) := by decide +kernel
theorem dX6_valueOf_159 : decode cX6_valueOf 159 = .ok (.iconst 2, 1) := by decide +kernel
theorem dX6_valueOf_160 : decode cX6_valueOf 160 = .ok (.irem, 1) := by decide +kernel
theorem dX6_valueOf_161 : decode cX6_valueOf 161 = .ok (.ifCond .ne 8, 3) := by decide +kernel
theorem dX6_valueOf_164 : decode cX6_valueOf 164 = .ok (.iload 5, 2) := by decide +kernel
theorem dX6_valueOf_166 : decode cX6_valueOf 166 = .ok (.goto 8, 3) := by decide +kernel
theorem dX6_valueOf_169 : decode cX6_valueOf 169 = .ok (.iload 4, 2) := by decide +kernel
theorem dX6_valueOf_171 : decode cX6_valueOf 171 = .ok (.iload 5, 2) := by decide +kernel
theorem dX6_valueOf_173 : decode cX6_valueOf 173 = .ok (.isub, 1) := by decide +kernel
theorem dX6_valueOf_174 : decode cX6_valueOf 174 = .ok (.ireturn, 1) := by decide +kernel
set_option maxRecDepth 20000 in
theorem ggX6_value_X6_in : GoodIn wsX6_value wsX6_in := goodIn_r _ [5] (by decide +kernel) (by decide +kernel)
set_option maxRecDepth 20000 in
theorem gX6_value_X6_in : GoodIn wsX6_value (va_wsS RX6 77 yX6_in wsX6_in) := goodIn_app (goodIn_of _ (by decide +kernel)) ggX6_value_X6_in
set_option maxRecDepth 20000 in
theorem ggX6_value_X6_fits : GoodIn wsX6_value wsX6_fits := goodIn_r _ [9, 10, 11, 12, 13, 14, 15, 4, 16, 17, 18, 19, 20, 21, 22, 23, 24, 25, 81, 82, 83, 84, 85, 86, 87, 88, 89, 90, 91, 92, 93, 94, 95, 96] (by decide +kernel) (by decide +kernel)
set_option maxRecDepth 20000 in
theorem gX6_value_X6_fits : GoodIn wsX6_value (wsV RX6 87 RX6 yX6_fits wsX6_fits) := goodIn_app (goodIn_of _ (by decide +kernel)) ggX6_value_X6_fits
set_option maxRecDepth 20000 in
theorem ggX6_value_X6_valueOf : GoodIn wsX6_value wsX6_valueOf := goodIn_r _ [29, 11, 30, 31, 12, 32, 18, 13, 14, 15, 4, 16, 17, 19, 20, 21, 22, 10, 33, 34, 35, 36, 23, 24, 25, 37, 38, 39, 40, 41, 42, 43, 44, 45, 46, 47, 48, 49, 50, 51, 52, 53, 54, 55, 56, 57, 58, 59, 60, 61, 62, 63, 64, 65, 66, 67, 68, 69, 70, 71, 72, 73, 74, 75, 76, 77, 78, 79, 80, 81, 82, 83, 84, 85, 86, 87, 88, 89, 90, 91, 92, 93, 94, 95, 96] (by decide +kernel) (by decide +kernel)
set_option maxRecDepth 20000 in
theorem gX6_value_X6_valueOf : GoodIn wsX6_value (wsV RX6 131 RX6 yX6_valueOf wsX6_valueOf) := goodIn_app (goodIn_of _ (by decide +kernel)) ggX6_value_X6_valueOf
theorem dX6_value_0 : decode cX6_value 0 = .ok (.aload_n 0, 1) := by decide +kernel
theorem dX6_value_1 : decode cX6_value 1 = .ok (.iload_n 1, 1) := by decide +kernel
theorem dX6_value_2 : decode cX6_value 2 = .ok (.iconst 0, 1) := by decide +kernel
theorem dX6_value_3 : decode cX6_value 3 = .ok (.bipush 23, 2) := by decide +kernel
theorem dX6_value_5 : decode cX6_value 5 = .ok (.invokestatic 77, 3) := by decide +kernel
theorem dX6_value_8 : decode cX6_value 8 = .ok (.ifCond .ne 7, 3) := by decide +kernel
theorem dX6_value_11 : decode cX6_value 11 = .ok (.iconst 1, 1) := by decide +kernel
theorem dX6_value_12 : decode cX6_value 12 = .ok (.goto 16, 3) := by decide +kernel
theorem dX6_value_15 : decode cX6_value 15 = .ok (.aload_n 0, 1) := by decide +kernel
theorem dX6_value_16 : decode cX6_value 16 = .ok (.iload_n 1, 1) := by decide +kernel
theorem dX6_value_17 : decode cX6_value 17 = .ok (.invokevirtual 87, 3) := by decide +kernel
theorem dX6_value_20 : decode cX6_value 20 = .ok (.ifCond .ne 7, 3) := by decide +kernel
theorem dX6_value_23 : decode cX6_value 23 = .ok (.iconst 2, 1) := by decide +kernel
theorem dX6_value_24 : decode cX6_value 24 = .ok (.goto 4, 3) := by decide +kernel
theorem dX6_value_27 : decode cX6_value 27 = .ok (.iconst 0, 1) := by decide +kernel
theorem dX6_value_28 : decode cX6_value 28 = .ok (.putfield 39, 3) := by decide +kernel
theorem dX6_value_31 : decode cX6_value 31 = .ok (.aload_n 0, 1) := by decide +kernel
theorem dX6_value_32 : decode cX6_value 32 = .ok (.getfield 39, 3) := by decide +kernel
theorem dX6_value_35 : decode cX6_value 35 = .ok (.ifCond .ne 11, 3) := by decide +kernel
theorem dX6_value_38 : decode cX6_value 38 = .ok (.aload_n 0, 1) := by decide +kernel
theorem dX6_value_39 : decode cX6_value 39 = .ok (.iload_n 1, 1) := by decide +kernel
theorem dX6_value_40 : decode cX6_value 40 = .ok (.invokevirtual 131, 3) := by decide +kernel
theorem dX6_value_43 : decode cX6_value 43 = .ok (.goto 4, 3) := by decide +kernel
theorem dX6_value_46 : decode cX6_value 46 = .ok (.iconst 0, 1) := by decide +kernel
theorem dX6_value_47 : decode cX6_value 47 = .ok (.ireturn, 1) := by decide +kernel
set_option maxRecDepth 20000 in
theorem ggX6_bestCard_X6_player : GoodIn wsX6_bestCard wsX6_player := goodIn_r _ [6, 7, 8, 9, 10, 11, 12, 5, 13, 14, 78, 79, 80, 81, 82, 83, 84, 85, 86, 87, 88, 89, 90, 91, 92, 93] (by decide +kernel) (by decide +kernel)
set_option maxRecDepth 20000 in
theorem gX6_bestCard_X6_player : GoodIn wsX6_bestCard (wsV RX6 74 RX6 yX6_player wsX6_player) := goodIn_app (goodIn_of _ (by decide +kernel)) ggX6_bestCard_X6_player
set_option maxRecDepth 20000 in
theorem ggX6_bestCard_X6_fits : GoodIn wsX6_bestCard wsX6_fits := goodIn_r _ [18, 14, 9, 19, 2, 3, 4, 5, 6, 7, 8, 10, 11, 12, 13, 20, 21, 22, 78, 79, 80, 81, 82, 83, 84, 85, 86, 87, 88, 89, 90, 91, 92, 93] (by decide +kernel) (by decide +kernel)
set_option maxRecDepth 20000 in
theorem gX6_bestCard_X6_fits : GoodIn wsX6_bestCard (wsV RX6 87 RX6 yX6_fits wsX6_fits) := goodIn_app (goodIn_of _ (by decide +kernel)) ggX6_bestCard_X6_fits
set_option maxRecDepth 20000 in
theorem ggX6_bestCard_X6_valueOf : GoodIn wsX6_bestCard wsX6_valueOf := goodIn_r _ [26, 9, 27, 28, 19, 29, 8, 2, 3, 4, 5, 6, 7, 10, 11, 12, 13, 14, 30, 31, 32, 33, 20, 21, 22, 34, 35, 36, 37, 38, 39, 40, 41, 42, 43, 44, 45, 46, 47, 48, 49, 50, 51, 52, 53, 54, 55, 56, 57, 58, 59, 60, 61, 62, 63, 64, 65, 66, 67, 68, 69, 70, 71, 72, 73, 74, 75, 76, 77, 78, 79, 80, 81, 82, 83, 84, 85, 86, 87, 88, 89, 90, 91, 92, 93] (by decide +kernel) (by decide +kernel)
set_option maxRecDepth 20000 in
theorem gX6_bestCard_X6_valueOf : GoodIn wsX6_bestCard (wsV RX6 131 RX6 yX6_valueOf wsX6_valueOf) := goodIn_app (goodIn_of _ (by decide +kernel)) ggX6_bestCard_X6_valueOf
theorem dX6_bestCard_0 : decode cX6_bestCard 0 = .ok (.aload_n 0, 1) := by decide +kernel
theorem dX6_bestCard_1 : decode cX6_bestCard 1 = .ok (.aload_n 0, 1) := by decide +kernel
theorem dX6_bestCard_2 : decode cX6_bestCard 2 = .ok (.invokevirtual 74, 3) := by decide +kernel
theorem dX6_bestCard_5 : decode cX6_bestCard 5 = .ok (.iconst (-1), 1) := by decide +kernel
theorem dX6_bestCard_6 : decode cX6_bestCard 6 = .ok (.if_icmp .ne 7, 3) := by decide +kernel
theorem dX6_bestCard_9 : decode cX6_bestCard 9 = .ok (.iconst 1, 1) := by decide +kernel
theorem dX6_bestCard_10 : decode cX6_bestCard 10 = .ok (.goto 4, 3) := by decide +kernel
theorem dX6_bestCard_13 : decode cX6_bestCard 13 = .ok (.iconst 0, 1) := by decide +kernel
theorem dX6_bestCard_14 : decode cX6_bestCard 14 = .ok (.putfield 39, 3) := by decide +kernel
theorem dX6_bestCard_17 : decode cX6_bestCard 17 = .ok (.iconst (-1), 1) := by decide +kernel
theorem dX6_bestCard_18 : decode cX6_bestCard 18 = .ok (.istore_n 1, 1) := by decide +kernel
theorem dX6_bestCard_19 : decode cX6_bestCard 19 = .ok (.iconst (-1), 1) := by decide +kernel
theorem dX6_bestCard_20 : decode cX6_bestCard 20 = .ok (.istore_n 2, 1) := by decide +kernel
theorem dX6_bestCard_21 : decode cX6_bestCard 21 = .ok (.iconst 0, 1) := by decide +kernel
theorem dX6_bestCard_22 : decode cX6_bestCard 22 = .ok (.istore_n 3, 1) := by decide +kernel
theorem dX6_bestCard_23 : decode cX6_bestCard 23 = .ok (.iload_n 3, 1) := by decide +kernel
theorem dX6_bestCard_24 : decode cX6_bestCard 24 = .ok (.bipush 24, 2) := by decide +kernel
theorem dX6_bestCard_26 : decode cX6_bestCard 26 = .ok (.if_icmp .ge 60, 3) := by decide +kernel
theorem dX6_bestCard_29 : decode cX6_bestCard 29 = .ok (.aload_n 0, 1) := by decide +kernel
theorem dX6_bestCard_30 : decode cX6_bestCard 30 = .ok (.getfield 39, 3) := by decide +kernel
theorem dX6_bestCard_33 : decode cX6_bestCard 33 = .ok (.ifCond .ne 53, 3) := by decide +kernel
theorem dX6_bestCard_36 : decode cX6_bestCard 36 = .ok (.aload_n 0, 1) := by decide +kernel
theorem dX6_bestCard_37 : decode cX6_bestCard 37 = .ok (.iload_n 3, 1) := by decide +kernel
theorem dX6_bestCard_38 : decode cX6_bestCard 38 = .ok (.invokevirtual 87, 3) := by decide +kernel
theorem dX6_bestCard_41 : decode cX6_bestCard 41 = .ok (.ifCond .eq 11, 3) := by decide +kernel
theorem dX6_bestCard_44 : decode cX6_bestCard 44 = .ok (.aload_n 0, 1) := by decide +kernel
theorem dX6_bestCard_45 : decode cX6_bestCard 45 = .ok (.iload_n 3, 1) := by decide +kernel
theorem dX6_bestCard_46 : decode cX6_bestCard 46 = .ok (.invokevirtual 131, 3) := by decide +kernel
theorem dX6_bestCard_49 : decode cX6_bestCard 49 = .ok (.goto 4, 3) := by decide +kernel
theorem dX6_bestCard_52 : decode cX6_bestCard 52 = .ok (.iconst (-1), 1) := by decide +kernel
theorem dX6_bestCard_53 : decode cX6_bestCard 53 = .ok (.istore 4, 2) := by decide +kernel
theorem dX6_bestCard_55 : decode cX6_bestCard 55 = .ok (.iload 4, 2) := by decide +kernel
theorem dX6_bestCard_57 : decode cX6_bestCard 57 = .ok (.iload_n 2, 1) := by decide +kernel
theorem dX6_bestCard_58 : decode cX6_bestCard 58 = .ok (.if_icmp .le 7, 3) := by decide +kernel
theorem dX6_bestCard_61 : decode cX6_bestCard 61 = .ok (.iload_n 3, 1) := by decide +kernel
theorem dX6_bestCard_62 : decode cX6_bestCard 62 = .ok (.goto 4, 3) := by decide +kernel
theorem dX6_bestCard_65 : decode cX6_bestCard 65 = .ok (.iload_n 1, 1) := by decide +kernel
theorem dX6_bestCard_66 : decode cX6_bestCard 66 = .ok (.istore_n 1, 1) := by decide +kernel
theorem dX6_bestCard_67 : decode cX6_bestCard 67 = .ok (.iload 4, 2) := by decide +kernel
theorem dX6_bestCard_69 : decode cX6_bestCard 69 = .ok (.iload_n 2, 1) := by decide +kernel
theorem dX6_bestCard_70 : decode cX6_bestCard 70 = .ok (.if_icmp .le 8, 3) := by decide +kernel
theorem dX6_bestCard_73 : decode cX6_bestCard 73 = .ok (.iload 4, 2) := by decide +kernel
theorem dX6_bestCard_75 : decode cX6_bestCard 75 = .ok (.goto 4, 3) := by decide +kernel
theorem dX6_bestCard_78 : decode cX6_bestCard 78 = .ok (.iload_n 2, 1) := by decide +kernel
theorem dX6_bestCard_79 : decode cX6_bestCard 79 = .ok (.istore_n 2, 1) := by decide +kernel
theorem dX6_bestCard_80 : decode cX6_bestCard 80 = .ok (.iinc 3 1, 3) := by decide +kernel
theorem dX6_bestCard_83 : decode cX6_bestCard 83 = .ok (.goto (-60), 3) := by decide +kernel
theorem dX6_bestCard_86 : decode cX6_bestCard 86 = .ok (.aload_n 0, 1) := by decide +kernel
theorem dX6_bestCard_87 : decode cX6_bestCard 87 = .ok (.getfield 39, 3) := by decide +kernel
theorem dX6_bestCard_90 : decode cX6_bestCard 90 = .ok (.ifCond .ne 7, 3) := by decide +kernel
theorem dX6_bestCard_93 : decode cX6_bestCard 93 = .ok (.iload_n 1, 1) := by decide +kernel
theorem dX6_bestCard_94 : decode cX6_bestCard 94 = .ok (.goto 4, 3) := by decide +kernel
theorem dX6_bestCard_97 : decode cX6_bestCard 97 = .ok (.iconst 0, 1) := by decide +kernel
theorem dX6_bestCard_98 : decode cX6_bestCard 98 = .ok (.ireturn, 1) := by decide +kernel
set_option maxRecDepth 20000 in
theorem ggX6_holder_X6_has : GoodIn wsX6_holder wsX6_has := goodIn_r _ [5] (by decide +kernel) (by decide +kernel)
set_option maxRecDepth 20000 in
theorem gX6_holder_X6_has : GoodIn wsX6_holder (va_wsS RX6 42 yX6_has wsX6_has) := goodIn_app (goodIn_of _ (by decide +kernel)) ggX6_holder_X6_has
theorem dX6_holder_0 : decode cX6_holder 0 = .ok (.iconst 0, 1) := by decide +kernel
theorem dX6_holder_1 : decode cX6_holder 1 = .ok (.istore_n 2, 1) := by decide +kernel
theorem dX6_holder_2 : decode cX6_holder 2 = .ok (.iload_n 2, 1) := by decide +kernel
theorem dX6_holder_3 : decode cX6_holder 3 = .ok (.iconst 4, 1) := by decide +kernel
theorem dX6_holder_4 : decode cX6_holder 4 = .ok (.if_icmp .ge 24, 3) := by decide +kernel
theorem dX6_holder_7 : decode cX6_holder 7 = .ok (.aload_n 0, 1) := by decide +kernel
theorem dX6_holder_8 : decode cX6_holder 8 = .ok (.getfield 16, 3) := by decide +kernel
theorem dX6_holder_11 : decode cX6_holder 11 = .ok (.iload_n 2, 1) := by decide +kernel
theorem dX6_holder_12 : decode cX6_holder 12 = .ok (.iaload, 1) := by decide +kernel
theorem dX6_holder_13 : decode cX6_holder 13 = .ok (.iload_n 1, 1) := by decide +kernel
theorem dX6_holder_14 : decode cX6_holder 14 = .ok (.invokestatic 42, 3) := by decide +kernel
theorem dX6_holder_17 : decode cX6_holder 17 = .ok (.ifCond .eq 5, 3) := by decide +kernel
theorem dX6_holder_20 : decode cX6_holder 20 = .ok (.iload_n 2, 1) := by decide +kernel
theorem dX6_holder_21 : decode cX6_holder 21 = .ok (.ireturn, 1) := by decide +kernel
theorem dX6_holder_22 : decode cX6_holder 22 = .ok (.iinc 2 1, 3) := by decide +kernel
theorem dX6_holder_25 : decode cX6_holder 25 = .ok (.goto (-23), 3) := by decide +kernel
theorem dX6_holder_28 : decode cX6_holder 28 = .ok (.iconst (-1), 1) := by decide +kernel
theorem dX6_holder_29 : decode cX6_holder 29 = .ok (.ireturn, 1) := by decide +kernel
set_option maxRecDepth 20000 in
theorem ggX6_others_X6_all : GoodIn wsX6_others wsX6_all := goodIn_r _ [8, 1, 9, 10, 11, 12, 13, 14, 15, 16, 17, 18, 19, 20, 21, 22, 23, 24] (by decide +kernel) (by decide +kernel)
set_option maxRecDepth 20000 in
theorem gX6_others_X6_all : GoodIn wsX6_others (wsV RX6 70 RX6 yX6_all wsX6_all) := goodIn_app (goodIn_of _ (by decide +kernel)) ggX6_others_X6_all
theorem dX6_others_0 : decode cX6_others 0 = .ok (.aload_n 0, 1) := by decide +kernel
theorem dX6_others_1 : decode cX6_others 1 = .ok (.invokevirtual 70, 3) := by decide +kernel
theorem dX6_others_4 : decode cX6_others 4 = .ok (.aload_n 0, 1) := by decide +kernel
theorem dX6_others_5 : decode cX6_others 5 = .ok (.getfield 16, 3) := by decide +kernel
theorem dX6_others_8 : decode cX6_others 8 = .ok (.iload_n 1, 1) := by decide +kernel
theorem dX6_others_9 : decode cX6_others 9 = .ok (.iaload, 1) := by decide +kernel
theorem dX6_others_10 : decode cX6_others 10 = .ok (.iconst (-1), 1) := by decide +kernel
theorem dX6_others_11 : decode cX6_others 11 = .ok (.ixor, 1) := by decide +kernel
theorem dX6_others_12 : decode cX6_others 12 = .ok (.iand, 1) := by decide +kernel
theorem dX6_others_13 : decode cX6_others 13 = .ok (.istore_n 2, 1) := by decide +kernel
theorem dX6_others_14 : decode cX6_others 14 = .ok (.iconst 0, 1) := by decide +kernel
theorem dX6_others_15 : decode cX6_others 15 = .ok (.istore_n 3, 1) := by decide +kernel
theorem dX6_others_16 : decode cX6_others 16 = .ok (.iload_n 3, 1) := by decide +kernel
theorem dX6_others_17 : decode cX6_others 17 = .ok (.aload_n 0, 1) := by decide +kernel
theorem dX6_others_18 : decode cX6_others 18 = .ok (.getfield 56, 3) := by decide +kernel
theorem dX6_others_21 : decode cX6_others 21 = .ok (.if_icmp .ge 20, 3) := by decide +kernel
theorem dX6_others_24 : decode cX6_others 24 = .ok (.iload_n 2, 1) := by decide +kernel
theorem dX6_others_25 : decode cX6_others 25 = .ok (.iconst 1, 1) := by decide +kernel
theorem dX6_others_26 : decode cX6_others 26 = .ok (.aload_n 0, 1) := by decide +kernel
theorem dX6_others_27 : decode cX6_others 27 = .ok (.getfield 19, 3) := by decide +kernel
theorem dX6_others_30 : decode cX6_others 30 = .ok (.iload_n 3, 1) := by decide +kernel
theorem dX6_others_31 : decode cX6_others 31 = .ok (.iaload, 1) := by decide +kernel
theorem dX6_others_32 : decode cX6_others 32 = .ok (.ishl, 1) := by decide +kernel
theorem dX6_others_33 : decode cX6_others 33 = .ok (.ior, 1) := by decide +kernel
theorem dX6_others_34 : decode cX6_others 34 = .ok (.istore_n 2, 1) := by decide +kernel
theorem dX6_others_35 : decode cX6_others 35 = .ok (.iinc 3 1, 3) := by decide +kernel
theorem dX6_others_38 : decode cX6_others 38 = .ok (.goto (-22), 3) := by decide +kernel
theorem dX6_others_41 : decode cX6_others 41 = .ok (.iload_n 2, 1) := by decide +kernel
theorem dX6_others_42 : decode cX6_others 42 = .ok (.ireturn, 1) := by decide +kernel
set_option maxRecDepth 20000 in
theorem ggX6_lowest_X6_holder : GoodIn wsX6_lowest wsX6_holder := goodIn_r _ [6, 1, 7, 8, 5, 9, 20, 21, 22, 23, 24, 25, 26, 27, 28, 29, 30, 31, 32, 33, 34, 35] (by decide +kernel) (by decide +kernel)
set_option maxRecDepth 20000 in
theorem gX6_lowest_X6_holder : GoodIn wsX6_lowest (wsV RX6 134 RX6 yX6_holder wsX6_holder) := goodIn_app (goodIn_of _ (by decide +kernel)) ggX6_lowest_X6_holder
set_option maxRecDepth 20000 in
theorem ggX6_lowest_X6_others : GoodIn wsX6_lowest wsX6_others := goodIn_r _ [13, 1, 14, 15, 16, 17, 18, 5, 19, 20, 21, 22, 23, 24, 25, 26, 27, 28, 29, 30, 31, 32, 33, 34, 35] (by decide +kernel) (by decide +kernel)
set_option maxRecDepth 20000 in
theorem gX6_lowest_X6_others : GoodIn wsX6_lowest (wsV RX6 137 RX6 yX6_others wsX6_others) := goodIn_app (goodIn_of _ (by decide +kernel)) ggX6_lowest_X6_others
set_option maxRecDepth 20000 in
theorem ggX6_lowest_X6_has : GoodIn wsX6_lowest wsX6_has := goodIn_r _ [9] (by decide +kernel) (by decide +kernel)
set_option maxRecDepth 20000 in
theorem gX6_lowest_X6_has : GoodIn wsX6_lowest (va_wsS RX6 42 yX6_has wsX6_has) := goodIn_app (goodIn_of _ (by decide +kernel)) ggX6_lowest_X6_has
theorem dX6_lowest_0 : decode cX6_lowest 0 = .ok (.aload_n 0, 1) := by decide +kernel
theorem dX6_lowest_1 : decode cX6_lowest 1 = .ok (.iload_n 1, 1) := by decide +kernel
theorem dX6_lowest_2 : decode cX6_lowest 2 = .ok (.invokevirtual 134, 3) := by decide +kernel
theorem dX6_lowest_5 : decode cX6_lowest 5 = .ok (.istore_n 2, 1) := by decide +kernel
theorem dX6_lowest_6 : decode cX6_lowest 6 = .ok (.aload_n 0, 1) := by decide +kernel
theorem dX6_lowest_7 : decode cX6_lowest 7 = .ok (.iload_n 2, 1) := by decide +kernel
theorem dX6_lowest_8 : decode cX6_lowest 8 = .ok (.invokevirtual 137, 3) := by decide +kernel
theorem dX6_lowest_11 : decode cX6_lowest 11 = .ok (.istore_n 3, 1) := by decide +kernel
theorem dX6_lowest_12 : decode cX6_lowest 12 = .ok (.iload_n 1, 1) := by decide +kernel
theorem dX6_lowest_13 : decode cX6_lowest 13 = .ok (.istore 4, 2) := by decide +kernel
theorem dX6_lowest_15 : decode cX6_lowest 15 = .ok (.iload_n 1, 1) := by decide +kernel
theorem dX6_lowest_16 : decode cX6_lowest 16 = .ok (.istore 5, 2) := by decide +kernel
theorem dX6_lowest_18 : decode cX6_lowest 18 = .ok (.iload 5, 2) := by decide +kernel
theorem dX6_lowest_20 : decode cX6_lowest 20 = .ok (.iload_n 1, 1) := by decide +kernel
theorem dX6_lowest_21 : decode cX6_lowest 21 = .ok (.bipush 6, 2) := by decide +kernel
theorem dX6_lowest_23 : decode cX6_lowest 23 = .ok (.idiv, 1) := by decide +kernel
theorem dX6_lowest_24 : decode cX6_lowest 24 = .ok (.bipush 6, 2) := by decide +kernel
theorem dX6_lowest_26 : decode cX6_lowest 26 = .ok (.imul, 1) := by decide +kernel
theorem dX6_lowest_27 : decode cX6_lowest 27 = .ok (.if_icmp .lt 41, 3) := by decide +kernel
theorem dX6_lowest_30 : decode cX6_lowest 30 = .ok (.iload_n 3, 1) := by decide +kernel
theorem dX6_lowest_31 : decode cX6_lowest 31 = .ok (.iload 5, 2) := by decide +kernel
theorem dX6_lowest_33 : decode cX6_lowest 33 = .ok (.invokestatic 42, 3) := by decide +kernel
theorem dX6_lowest_36 : decode cX6_lowest 36 = .ok (.ifCond .ne 32, 3) := by decide +kernel
theorem dX6_lowest_39 : decode cX6_lowest 39 = .ok (.aload_n 0, 1) := by decide +kernel
theorem dX6_lowest_40 : decode cX6_lowest 40 = .ok (.getfield 16, 3) := by decide +kernel
theorem dX6_lowest_43 : decode cX6_lowest 43 = .ok (.iload_n 2, 1) := by decide +kernel
theorem dX6_lowest_44 : decode cX6_lowest 44 = .ok (.iaload, 1) := by decide +kernel
theorem dX6_lowest_45 : decode cX6_lowest 45 = .ok (.iload 5, 2) := by decide +kernel
theorem dX6_lowest_47 : decode cX6_lowest 47 = .ok (.invokestatic 42, 3) := by decide +kernel
theorem dX6_lowest_50 : decode cX6_lowest 50 = .ok (.ifCond .eq 8, 3) := by decide +kernel
theorem dX6_lowest_53 : decode cX6_lowest 53 = .ok (.iload 5, 2) := by decide +kernel
theorem dX6_lowest_55 : decode cX6_lowest 55 = .ok (.goto 5, 3) := by decide +kernel
theorem dX6_lowest_58 : decode cX6_lowest 58 = .ok (.iload 4, 2) := by decide +kernel
theorem dX6_lowest_60 : decode cX6_lowest 60 = .ok (.istore 4, 2) := by decide +kernel
theorem dX6_lowest_62 : decode cX6_lowest 62 = .ok (.iinc 5 (-1), 3) := by decide +kernel
theorem dX6_lowest_65 : decode cX6_lowest 65 = .ok (.goto (-47), 3) := by decide +kernel
theorem dX6_lowest_68 : decode cX6_lowest 68 = .ok (.iload 4, 2) := by decide +kernel
theorem dX6_lowest_70 : decode cX6_lowest 70 = .ok (.ireturn, 1) := by decide +kernel
set_option maxRecDepth 20000 in
theorem ggX6_isHeld_X6_in : GoodIn wsX6_isHeld wsX6_in := goodIn_r _ [5] (by decide +kernel) (by decide +kernel)
set_option maxRecDepth 20000 in
theorem gX6_isHeld_X6_in : GoodIn wsX6_isHeld (va_wsS RX6 77 yX6_in wsX6_in) := goodIn_app (goodIn_of _ (by decide +kernel)) ggX6_isHeld_X6_in
set_option maxRecDepth 20000 in
theorem ggX6_isHeld_X6_holder : GoodIn wsX6_isHeld wsX6_holder := goodIn_r _ [9, 10, 11, 12, 4, 13, 14, 15, 16, 17, 18, 19, 20, 21, 22, 23, 24, 25, 26, 27, 28, 29] (by decide +kernel) (by decide +kernel)
set_option maxRecDepth 20000 in
theorem gX6_isHeld_X6_holder : GoodIn wsX6_isHeld (wsV RX6 134 RX6 yX6_holder wsX6_holder) := goodIn_app (goodIn_of _ (by decide +kernel)) ggX6_isHeld_X6_holder
theorem dX6_isHeld_0 : decode cX6_isHeld 0 = .ok (.aload_n 0, 1) := by decide +kernel
theorem dX6_isHeld_1 : decode cX6_isHeld 1 = .ok (.iload_n 1, 1) := by decide +kernel
theorem dX6_isHeld_2 : decode cX6_isHeld 2 = .ok (.iconst 0, 1) := by decide +kernel
theorem dX6_isHeld_3 : decode cX6_isHeld 3 = .ok (.bipush 23, 2) := by decide +kernel
theorem dX6_isHeld_5 : decode cX6_isHeld 5 = .ok (.invokestatic 77, 3) := by decide +kernel
theorem dX6_isHeld_8 : decode cX6_isHeld 8 = .ok (.ifCond .ne 7, 3) := by decide +kernel
theorem dX6_isHeld_11 : decode cX6_isHeld 11 = .ok (.iconst 1, 1) := by decide +kernel
theorem dX6_isHeld_12 : decode cX6_isHeld 12 = .ok (.goto 17, 3) := by decide +kernel
theorem dX6_isHeld_15 : decode cX6_isHeld 15 = .ok (.aload_n 0, 1) := by decide +kernel
theorem dX6_isHeld_16 : decode cX6_isHeld 16 = .ok (.iload_n 1, 1) := by decide +kernel
theorem dX6_isHeld_17 : decode cX6_isHeld 17 = .ok (.invokevirtual 134, 3) := by decide +kernel
theorem dX6_isHeld_20 : decode cX6_isHeld 20 = .ok (.iconst (-1), 1) := by decide +kernel
theorem dX6_isHeld_21 : decode cX6_isHeld 21 = .ok (.if_icmp .ne 7, 3) := by decide +kernel
theorem dX6_isHeld_24 : decode cX6_isHeld 24 = .ok (.iconst 2, 1) := by decide +kernel
theorem dX6_isHeld_25 : decode cX6_isHeld 25 = .ok (.goto 4, 3) := by decide +kernel
theorem dX6_isHeld_28 : decode cX6_isHeld 28 = .ok (.iconst 0, 1) := by decide +kernel
theorem dX6_isHeld_29 : decode cX6_isHeld 29 = .ok (.putfield 39, 3) := by decide +kernel
theorem dX6_isHeld_32 : decode cX6_isHeld 32 = .ok (.aload_n 0, 1) := by decide +kernel
theorem dX6_isHeld_33 : decode cX6_isHeld 33 = .ok (.getfield 39, 3) := by decide +kernel
theorem dX6_isHeld_36 : decode cX6_isHeld 36 = .ok (.ifCond .ne 7, 3) := by decide +kernel
theorem dX6_isHeld_39 : decode cX6_isHeld 39 = .ok (.iconst 1, 1) := by decide +kernel
theorem dX6_isHeld_40 : decode cX6_isHeld 40 = .ok (.goto 4, 3) := by decide +kernel
theorem dX6_isHeld_43 : decode cX6_isHeld 43 = .ok (.iconst 0, 1) := by decide +kernel
theorem dX6_isHeld_44 : decode cX6_isHeld 44 = .ok (.ireturn, 1) := by decide +kernel
set_option maxRecDepth 20000 in
theorem ggX6_lowestEqual_X6_isHeld : GoodIn wsX6_lowestEqual wsX6_isHeld := goodIn_r _ [5, 6, 7, 8, 4, 9, 10, 11, 12, 13, 14, 15, 16, 17, 32, 33, 34, 35, 36, 37, 38, 39, 40, 41, 42, 43, 44, 45, 46, 47] (by decide +kernel) (by decide +kernel)
set_option maxRecDepth 20000 in
theorem gX6_lowestEqual_X6_isHeld : GoodIn wsX6_lowestEqual (wsV RX6 140 RX6 yX6_isHeld wsX6_isHeld) := goodIn_app (goodIn_of _ (by decide +kernel)) ggX6_lowestEqual_X6_isHeld
set_option maxRecDepth 20000 in
theorem ggX6_lowestEqual_X6_lowest : GoodIn wsX6_lowestEqual wsX6_lowest := goodIn_r _ [21, 14, 10, 11, 12, 4, 13, 15, 16, 17, 22, 23, 24, 25, 26, 27, 28, 29, 30, 31, 32, 33, 34, 35, 36, 37, 38, 39, 40, 41, 42, 43, 44, 45, 46, 47] (by decide +kernel) (by decide +kernel)
set_option maxRecDepth 20000 in
theorem gX6_lowestEqual_X6_lowest : GoodIn wsX6_lowestEqual (wsV RX6 143 RX6 yX6_lowest wsX6_lowest) := goodIn_app (goodIn_of _ (by decide +kernel)) ggX6_lowestEqual_X6_lowest
theorem dX6_lowestEqual_0 : decode cX6_lowestEqual 0 = .ok (.aload_n 0, 1) := by decide +kernel
theorem dX6_lowestEqual_1 : decode cX6_lowestEqual 1 = .ok (.iload_n 1, 1) := by decide +kernel
theorem dX6_lowestEqual_2 : decode cX6_lowestEqual 2 = .ok (.invokevirtual 140, 3) := by decide +kernel
theorem dX6_lowestEqual_5 : decode cX6_lowestEqual 5 = .ok (.ifCond .eq 11, 3) := by decide +kernel
theorem dX6_lowestEqual_8 : decode cX6_lowestEqual 8 = .ok (.aload_n 0, 1) := by decide +kernel
theorem dX6_lowestEqual_9 : decode cX6_lowestEqual 9 = .ok (.iload_n 1, 1) := by decide +kernel
theorem dX6_lowestEqual_10 : decode cX6_lowestEqual 10 = .ok (.invokevirtual 143, 3) := by decide +kernel
theorem dX6_lowestEqual_13 : decode cX6_lowestEqual 13 = .ok (.goto 4, 3) := by decide +kernel
theorem dX6_lowestEqual_16 : decode cX6_lowestEqual 16 = .ok (.iconst 0, 1) := by decide +kernel
theorem dX6_lowestEqual_17 : decode cX6_lowestEqual 17 = .ok (.ireturn, 1) := by decide +kernel
set_option maxRecDepth 20000 in
theorem ggX6_unlike_X6_in : GoodIn wsX6_unlike wsX6_in := goodIn_r _ [6] (by decide +kernel) (by decide +kernel)
set_option maxRecDepth 20000 in
theorem gX6_unlike_X6_in : GoodIn wsX6_unlike (va_wsS RX6 77 yX6_in wsX6_in) := goodIn_app (goodIn_of _ (by decide +kernel)) ggX6_unlike_X6_in
set_option maxRecDepth 20000 in
theorem ggX6_unlike_X6_has : GoodIn wsX6_unlike wsX6_has := goodIn_r _ [9] (by decide +kernel) (by decide +kernel)
set_option maxRecDepth 20000 in
theorem gX6_unlike_X6_has : GoodIn wsX6_unlike (va_wsS RX6 42 yX6_has wsX6_has) := goodIn_app (goodIn_of _ (by decide +kernel)) ggX6_unlike_X6_has
set_option maxRecDepth 20000 in
theorem ggX6_unlike_X6_lowest : GoodIn wsX6_unlike wsX6_lowest := goodIn_r _ [13, 2, 14, 15, 16, 5, 17, 7, 8, 9, 18, 19, 20, 21, 22, 23, 24, 25, 26, 27, 28, 29, 30, 31, 32, 33, 34, 35, 36, 37, 38, 39, 40, 41, 42, 43] (by decide +kernel) (by decide +kernel)
set_option maxRecDepth 20000 in
theorem gX6_unlike_X6_lowest : GoodIn wsX6_unlike (wsV RX6 143 RX6 yX6_lowest wsX6_lowest) := goodIn_app (goodIn_of _ (by decide +kernel)) ggX6_unlike_X6_lowest
theorem dX6_unlike_0 : decode cX6_unlike 0 = .ok (.aload_n 0, 1) := by decide +kernel
theorem dX6_unlike_1 : decode cX6_unlike 1 = .ok (.iload_n 1, 1) := by decide +kernel
theorem dX6_unlike_2 : decode cX6_unlike 2 = .ok (.iconst 0, 1) := by decide +kernel
theorem dX6_unlike_3 : decode cX6_unlike 3 = .ok (.iconst 3, 1) := by decide +kernel
theorem dX6_unlike_4 : decode cX6_unlike 4 = .ok (.invokestatic 77, 3) := by decide +kernel
theorem dX6_unlike_7 : decode cX6_unlike 7 = .ok (.ifCond .eq 7, 3) := by decide +kernel
theorem dX6_unlike_10 : decode cX6_unlike 10 = .ok (.iconst 0, 1) := by decide +kernel
theorem dX6_unlike_11 : decode cX6_unlike 11 = .ok (.goto 4, 3) := by decide +kernel
theorem dX6_unlike_14 : decode cX6_unlike 14 = .ok (.iconst 1, 1) := by decide +kernel
theorem dX6_unlike_15 : decode cX6_unlike 15 = .ok (.putfield 39, 3) := by decide +kernel
theorem dX6_unlike_18 : decode cX6_unlike 18 = .ok (.iconst 0, 1) := by decide +kernel
theorem dX6_unlike_19 : decode cX6_unlike 19 = .ok (.istore_n 2, 1) := by decide +kernel
theorem dX6_unlike_20 : decode cX6_unlike 20 = .ok (.iconst 0, 1) := by decide +kernel
theorem dX6_unlike_21 : decode cX6_unlike 21 = .ok (.istore_n 3, 1) := by decide +kernel
theorem dX6_unlike_22 : decode cX6_unlike 22 = .ok (.iload_n 3, 1) := by decide +kernel
theorem dX6_unlike_23 : decode cX6_unlike 23 = .ok (.bipush 24, 2) := by decide +kernel
theorem dX6_unlike_25 : decode cX6_unlike 25 = .ok (.if_icmp .ge 46, 3) := by decide +kernel
theorem dX6_unlike_28 : decode cX6_unlike 28 = .ok (.aload_n 0, 1) := by decide +kernel
theorem dX6_unlike_29 : decode cX6_unlike 29 = .ok (.getfield 39, 3) := by decide +kernel
theorem dX6_unlike_32 : decode cX6_unlike 32 = .ok (.ifCond .ne 39, 3) := by decide +kernel
theorem dX6_unlike_35 : decode cX6_unlike 35 = .ok (.iload_n 2, 1) := by decide +kernel
theorem dX6_unlike_36 : decode cX6_unlike 36 = .ok (.aload_n 0, 1) := by decide +kernel
theorem dX6_unlike_37 : decode cX6_unlike 37 = .ok (.getfield 16, 3) := by decide +kernel
theorem dX6_unlike_40 : decode cX6_unlike 40 = .ok (.iload_n 1, 1) := by decide +kernel
theorem dX6_unlike_41 : decode cX6_unlike 41 = .ok (.iaload, 1) := by decide +kernel
theorem dX6_unlike_42 : decode cX6_unlike 42 = .ok (.iload_n 3, 1) := by decide +kernel
theorem dX6_unlike_43 : decode cX6_unlike 43 = .ok (.invokestatic 42, 3) := by decide +kernel
theorem dX6_unlike_46 : decode cX6_unlike 46 = .ok (.ifCond .eq 16, 3) := by decide +kernel
theorem dX6_unlike_49 : decode cX6_unlike 49 = .ok (.aload_n 0, 1) := by decide +kernel
theorem dX6_unlike_50 : decode cX6_unlike 50 = .ok (.iload_n 3, 1) := by decide +kernel
theorem dX6_unlike_51 : decode cX6_unlike 51 = .ok (.invokevirtual 143, 3) := by decide +kernel
theorem dX6_unlike_54 : decode cX6_unlike 54 = .ok (.iload_n 3, 1) := by decide +kernel
theorem dX6_unlike_55 : decode cX6_unlike 55 = .ok (.if_icmp .ne 7, 3) := by decide +kernel
theorem dX6_unlike_58 : decode cX6_unlike 58 = .ok (.iconst 1, 1) := by decide +kernel
theorem dX6_unlike_59 : decode cX6_unlike 59 = .ok (.goto 4, 3) := by decide +kernel
theorem dX6_unlike_62 : decode cX6_unlike 62 = .ok (.iconst 0, 1) := by decide +kernel
theorem dX6_unlike_63 : decode cX6_unlike 63 = .ok (.iadd, 1) := by decide +kernel
theorem dX6_unlike_64 : decode cX6_unlike 64 = .ok (.istore_n 2, 1) := by decide +kernel
theorem dX6_unlike_65 : decode cX6_unlike 65 = .ok (.iinc 3 1, 3) := by decide +kernel
theorem dX6_unlike_68 : decode cX6_unlike 68 = .ok (.goto (-46), 3) := by decide +kernel
theorem dX6_unlike_71 : decode cX6_unlike 71 = .ok (.iload_n 2, 1) := by decide +kernel
theorem dX6_unlike_72 : decode cX6_unlike 72 = .ok (.ireturn, 1) := by decide +kernel
set_option maxRecDepth 20000 in
theorem ggX6_tops_X6_holder : GoodIn wsX6_tops wsX6_holder := goodIn_r _ [5, 6, 7, 8, 4, 9, 20, 21, 22, 23, 24, 25, 26, 27, 28, 29, 30, 31, 32, 33, 34, 35] (by decide +kernel) (by decide +kernel)
set_option maxRecDepth 20000 in
theorem gX6_tops_X6_holder : GoodIn wsX6_tops (wsV RX6 134 RX6 yX6_holder wsX6_holder) := goodIn_app (goodIn_of _ (by decide +kernel)) ggX6_tops_X6_holder
set_option maxRecDepth 20000 in
theorem ggX6_tops_X6_others : GoodIn wsX6_tops wsX6_others := goodIn_r _ [13, 6, 14, 15, 16, 17, 18, 4, 19, 20, 21, 22, 23, 24, 25, 26, 27, 28, 29, 30, 31, 32, 33, 34, 35] (by decide +kernel) (by decide +kernel)
set_option maxRecDepth 20000 in
theorem gX6_tops_X6_others : GoodIn wsX6_tops (wsV RX6 137 RX6 yX6_others wsX6_others) := goodIn_app (goodIn_of _ (by decide +kernel)) ggX6_tops_X6_others
set_option maxRecDepth 20000 in
theorem ggX6_tops_X6_has : GoodIn wsX6_tops wsX6_has := goodIn_r _ [9] (by decide +kernel) (by decide +kernel)
set_option maxRecDepth 20000 in
theorem gX6_tops_X6_has : GoodIn wsX6_tops (va_wsS RX6 42 yX6_has wsX6_has) := goodIn_app (goodIn_of _ (by decide +kernel)) ggX6_tops_X6_has
theorem dX6_tops_0 : decode cX6_tops 0 = .ok (.aload_n 0, 1) := by decide +kernel
theorem dX6_tops_1 : decode cX6_tops 1 = .ok (.aload_n 0, 1) := by decide +kernel
theorem dX6_tops_2 : decode cX6_tops 2 = .ok (.iload_n 1, 1) := by decide +kernel
theorem dX6_tops_3 : decode cX6_tops 3 = .ok (.invokevirtual 134, 3) := by decide +kernel
theorem dX6_tops_6 : decode cX6_tops 6 = .ok (.invokevirtual 137, 3) := by decide +kernel
theorem dX6_tops_9 : decode cX6_tops 9 = .ok (.istore_n 2, 1) := by decide +kernel
theorem dX6_tops_10 : decode cX6_tops 10 = .ok (.iconst 1, 1) := by decide +kernel
theorem dX6_tops_11 : decode cX6_tops 11 = .ok (.istore_n 3, 1) := by decide +kernel
theorem dX6_tops_12 : decode cX6_tops 12 = .ok (.iload_n 1, 1) := by decide +kernel
theorem dX6_tops_13 : decode cX6_tops 13 = .ok (.iconst 1, 1) := by decide +kernel
theorem dX6_tops_14 : decode cX6_tops 14 = .ok (.iadd, 1) := by decide +kernel
theorem dX6_tops_15 : decode cX6_tops 15 = .ok (.istore 4, 2) := by decide +kernel
theorem dX6_tops_17 : decode cX6_tops 17 = .ok (.iload 4, 2) := by decide +kernel
theorem dX6_tops_19 : decode cX6_tops 19 = .ok (.bipush 6, 2) := by decide +kernel
theorem dX6_tops_21 : decode cX6_tops 21 = .ok (.irem, 1) := by decide +kernel
theorem dX6_tops_22 : decode cX6_tops 22 = .ok (.ifCond .le 28, 3) := by decide +kernel
theorem dX6_tops_25 : decode cX6_tops 25 = .ok (.iload_n 3, 1) := by decide +kernel
theorem dX6_tops_26 : decode cX6_tops 26 = .ok (.ifCond .eq 16, 3) := by decide +kernel
theorem dX6_tops_29 : decode cX6_tops 29 = .ok (.iload_n 2, 1) := by decide +kernel
theorem dX6_tops_30 : decode cX6_tops 30 = .ok (.iload 4, 2) := by decide +kernel
theorem dX6_tops_32 : decode cX6_tops 32 = .ok (.invokestatic 42, 3) := by decide +kernel
theorem dX6_tops_35 : decode cX6_tops 35 = .ok (.ifCond .ne 7, 3) := by decide +kernel
theorem dX6_tops_38 : decode cX6_tops 38 = .ok (.iconst 1, 1) := by decide +kernel
theorem dX6_tops_39 : decode cX6_tops 39 = .ok (.goto 4, 3) := by decide +kernel
theorem dX6_tops_42 : decode cX6_tops 42 = .ok (.iconst 0, 1) := by decide +kernel
theorem dX6_tops_43 : decode cX6_tops 43 = .ok (.istore_n 3, 1) := by decide +kernel
theorem dX6_tops_44 : decode cX6_tops 44 = .ok (.iinc 4 1, 3) := by decide +kernel
theorem dX6_tops_47 : decode cX6_tops 47 = .ok (.goto (-30), 3) := by decide +kernel
theorem dX6_tops_50 : decode cX6_tops 50 = .ok (.iload_n 3, 1) := by decide +kernel
theorem dX6_tops_51 : decode cX6_tops 51 = .ok (.ireturn, 1) := by decide +kernel
set_option maxRecDepth 20000 in
theorem ggX6_isTop_X6_isHeld : GoodIn wsX6_isTop wsX6_isHeld := goodIn_r _ [5, 6, 7, 8, 4, 9, 10, 11, 12, 13, 14, 15, 16, 17, 32, 33, 34, 35, 36, 37, 38, 39, 40, 41, 42, 43, 44, 45, 46, 47] (by decide +kernel) (by decide +kernel)
set_option maxRecDepth 20000 in
theorem gX6_isTop_X6_isHeld : GoodIn wsX6_isTop (wsV RX6 140 RX6 yX6_isHeld wsX6_isHeld) := goodIn_app (goodIn_of _ (by decide +kernel)) ggX6_isTop_X6_isHeld
set_option maxRecDepth 20000 in
theorem ggX6_isTop_X6_tops : GoodIn wsX6_isTop wsX6_tops := goodIn_r _ [21, 10, 11, 12, 4, 13, 14, 15, 16, 17, 22, 23, 24, 25, 26, 27, 28, 29, 30, 31, 32, 33, 34, 35, 36, 37, 38, 39, 40, 41, 42, 43, 44, 45, 46, 47] (by decide +kernel) (by decide +kernel)
set_option maxRecDepth 20000 in
theorem gX6_isTop_X6_tops : GoodIn wsX6_isTop (wsV RX6 146 RX6 yX6_tops wsX6_tops) := goodIn_app (goodIn_of _ (by decide +kernel)) ggX6_isTop_X6_tops
theorem dX6_isTop_0 : decode cX6_isTop 0 = .ok (.aload_n 0, 1) := by decide +kernel
theorem dX6_isTop_1 : decode cX6_isTop 1 = .ok (.iload_n 1, 1) := by decide +kernel
theorem dX6_isTop_2 : decode cX6_isTop 2 = .ok (.invokevirtual 140, 3) := by decide +kernel
theorem dX6_isTop_5 : decode cX6_isTop 5 = .ok (.ifCond .eq 15, 3) := by decide +kernel
theorem dX6_isTop_8 : decode cX6_isTop 8 = .ok (.aload_n 0, 1) := by decide +kernel
theorem dX6_isTop_9 : decode cX6_isTop 9 = .ok (.iload_n 1, 1) := by decide +kernel
theorem dX6_isTop_10 : decode cX6_isTop 10 = .ok (.invokevirtual 146, 3) := by decide +kernel
theorem dX6_isTop_13 : decode cX6_isTop 13 = .ok (.ifCond .eq 7, 3) := by decide +kernel
theorem dX6_isTop_16 : decode cX6_isTop 16 = .ok (.iconst 1, 1) := by decide +kernel
theorem dX6_isTop_17 : decode cX6_isTop 17 = .ok (.goto 4, 3) := by decide +kernel
theorem dX6_isTop_20 : decode cX6_isTop 20 = .ok (.iconst 0, 1) := by decide +kernel
theorem dX6_isTop_21 : decode cX6_isTop 21 = .ok (.ireturn, 1) := by decide +kernel
set_option maxRecDepth 20000 in
theorem ggX6_quick_X6_in : GoodIn wsX6_quick wsX6_in := goodIn_r _ [6] (by decide +kernel) (by decide +kernel)
set_option maxRecDepth 20000 in
theorem gX6_quick_X6_in : GoodIn wsX6_quick (va_wsS RX6 77 yX6_in wsX6_in) := goodIn_app (goodIn_of _ (by decide +kernel)) ggX6_quick_X6_in
set_option maxRecDepth 20000 in
theorem ggX6_quick_X6_has : GoodIn wsX6_quick wsX6_has := goodIn_r _ [9] (by decide +kernel) (by decide +kernel)
set_option maxRecDepth 20000 in
theorem gX6_quick_X6_has : GoodIn wsX6_quick (va_wsS RX6 42 yX6_has wsX6_has) := goodIn_app (goodIn_of _ (by decide +kernel)) ggX6_quick_X6_has
set_option maxRecDepth 20000 in
theorem ggX6_quick_X6_tops : GoodIn wsX6_quick wsX6_tops := goodIn_r _ [13, 14, 15, 16, 5, 17, 2, 7, 8, 9, 18, 19, 20, 21, 22, 23, 24, 25, 26, 27, 28, 29, 30, 31, 32, 33, 34, 35, 36, 37, 38, 39, 40, 41, 42, 43] (by decide +kernel) (by decide +kernel)
set_option maxRecDepth 20000 in
theorem gX6_quick_X6_tops : GoodIn wsX6_quick (wsV RX6 146 RX6 yX6_tops wsX6_tops) := goodIn_app (goodIn_of _ (by decide +kernel)) ggX6_quick_X6_tops
theorem dX6_quick_0 : decode cX6_quick 0 = .ok (.aload_n 0, 1) := by decide +kernel
theorem dX6_quick_1 : decode cX6_quick 1 = .ok (.iload_n 1, 1) := by decide +kernel
theorem dX6_quick_2 : decode cX6_quick 2 = .ok (.iconst 0, 1) := by decide +kernel
theorem dX6_quick_3 : decode cX6_quick 3 = .ok (.iconst 3, 1) := by decide +kernel
theorem dX6_quick_4 : decode cX6_quick 4 = .ok (.invokestatic 77, 3) := by decide +kernel
theorem dX6_quick_7 : decode cX6_quick 7 = .ok (.ifCond .eq 7, 3) := by decide +kernel
theorem dX6_quick_10 : decode cX6_quick 10 = .ok (.iconst 0, 1) := by decide +kernel
theorem dX6_quick_11 : decode cX6_quick 11 = .ok (.goto 4, 3) := by decide +kernel
theorem dX6_quick_14 : decode cX6_quick 14 = .ok (.iconst 1, 1) := by decide +kernel
theorem dX6_quick_15 : decode cX6_quick 15 = .ok (.putfield 39, 3) := by decide +kernel
theorem dX6_quick_18 : decode cX6_quick 18 = .ok (.iconst 0, 1) := by decide +kernel
theorem dX6_quick_19 : decode cX6_quick 19 = .ok (.istore_n 2, 1) := by decide +kernel
theorem dX6_quick_20 : decode cX6_quick 20 = .ok (.iconst 0, 1) := by decide +kernel
theorem dX6_quick_21 : decode cX6_quick 21 = .ok (.istore_n 3, 1) := by decide +kernel
theorem dX6_quick_22 : decode cX6_quick 22 = .ok (.iload_n 3, 1) := by decide +kernel
theorem dX6_quick_23 : decode cX6_quick 23 = .ok (.bipush 24, 2) := by decide +kernel
theorem dX6_quick_25 : decode cX6_quick 25 = .ok (.if_icmp .ge 45, 3) := by decide +kernel
theorem dX6_quick_28 : decode cX6_quick 28 = .ok (.aload_n 0, 1) := by decide +kernel
theorem dX6_quick_29 : decode cX6_quick 29 = .ok (.getfield 39, 3) := by decide +kernel
theorem dX6_quick_32 : decode cX6_quick 32 = .ok (.ifCond .ne 38, 3) := by decide +kernel
theorem dX6_quick_35 : decode cX6_quick 35 = .ok (.iload_n 2, 1) := by decide +kernel
theorem dX6_quick_36 : decode cX6_quick 36 = .ok (.aload_n 0, 1) := by decide +kernel
theorem dX6_quick_37 : decode cX6_quick 37 = .ok (.getfield 16, 3) := by decide +kernel
theorem dX6_quick_40 : decode cX6_quick 40 = .ok (.iload_n 1, 1) := by decide +kernel
theorem dX6_quick_41 : decode cX6_quick 41 = .ok (.iaload, 1) := by decide +kernel
theorem dX6_quick_42 : decode cX6_quick 42 = .ok (.iload_n 3, 1) := by decide +kernel
theorem dX6_quick_43 : decode cX6_quick 43 = .ok (.invokestatic 42, 3) := by decide +kernel
theorem dX6_quick_46 : decode cX6_quick 46 = .ok (.ifCond .eq 15, 3) := by decide +kernel
theorem dX6_quick_49 : decode cX6_quick 49 = .ok (.aload_n 0, 1) := by decide +kernel
theorem dX6_quick_50 : decode cX6_quick 50 = .ok (.iload_n 3, 1) := by decide +kernel
theorem dX6_quick_51 : decode cX6_quick 51 = .ok (.invokevirtual 146, 3) := by decide +kernel
theorem dX6_quick_54 : decode cX6_quick 54 = .ok (.ifCond .eq 7, 3) := by decide +kernel
theorem dX6_quick_57 : decode cX6_quick 57 = .ok (.iconst 1, 1) := by decide +kernel
theorem dX6_quick_58 : decode cX6_quick 58 = .ok (.goto 4, 3) := by decide +kernel
theorem dX6_quick_61 : decode cX6_quick 61 = .ok (.iconst 0, 1) := by decide +kernel
theorem dX6_quick_62 : decode cX6_quick 62 = .ok (.iadd, 1) := by decide +kernel
theorem dX6_quick_63 : decode cX6_quick 63 = .ok (.istore_n 2, 1) := by decide +kernel
theorem dX6_quick_64 : decode cX6_quick 64 = .ok (.iinc 3 1, 3) := by decide +kernel
theorem dX6_quick_67 : decode cX6_quick 67 = .ok (.goto (-45), 3) := by decide +kernel
theorem dX6_quick_70 : decode cX6_quick 70 = .ok (.iload_n 2, 1) := by decide +kernel
theorem dX6_quick_71 : decode cX6_quick 71 = .ok (.ireturn, 1) := by decide +kernel
set_option maxRecDepth 20000 in
theorem ggX6_forkOf_X6_holder : GoodIn wsX6_forkOf wsX6_holder := goodIn_r _ [5, 6, 7, 8, 4, 9, 10, 11, 12, 13, 14, 15, 16, 17, 18, 19, 20, 21, 22, 23, 24, 25] (by decide +kernel) (by decide +kernel)
set_option maxRecDepth 20000 in
theorem gX6_forkOf_X6_holder : GoodIn wsX6_forkOf (wsV RX6 134 RX6 yX6_holder wsX6_holder) := goodIn_app (goodIn_of _ (by decide +kernel)) ggX6_forkOf_X6_holder
theorem dX6_forkOf_0 : decode cX6_forkOf 0 = .ok (.iconst 0, 1) := by decide +kernel
theorem dX6_forkOf_1 : decode cX6_forkOf 1 = .ok (.istore_n 3, 1) := by decide +kernel
theorem dX6_forkOf_2 : decode cX6_forkOf 2 = .ok (.iconst 1, 1) := by decide +kernel
theorem dX6_forkOf_3 : decode cX6_forkOf 3 = .ok (.istore 4, 2) := by decide +kernel
theorem dX6_forkOf_5 : decode cX6_forkOf 5 = .ok (.iconst (-1), 1) := by decide +kernel
theorem dX6_forkOf_6 : decode cX6_forkOf 6 = .ok (.istore 5, 2) := by decide +kernel
theorem dX6_forkOf_8 : decode cX6_forkOf 8 = .ok (.bipush 6, 2) := by decide +kernel
theorem dX6_forkOf_10 : decode cX6_forkOf 10 = .ok (.iload_n 2, 1) := by decide +kernel
theorem dX6_forkOf_11 : decode cX6_forkOf 11 = .ok (.imul, 1) := by decide +kernel
theorem dX6_forkOf_12 : decode cX6_forkOf 12 = .ok (.bipush 6, 2) := by decide +kernel
theorem dX6_forkOf_14 : decode cX6_forkOf 14 = .ok (.iadd, 1) := by decide +kernel
theorem dX6_forkOf_15 : decode cX6_forkOf 15 = .ok (.iconst 1, 1) := by decide +kernel
theorem dX6_forkOf_16 : decode cX6_forkOf 16 = .ok (.isub, 1) := by decide +kernel
theorem dX6_forkOf_17 : decode cX6_forkOf 17 = .ok (.istore 6, 2) := by decide +kernel
theorem dX6_forkOf_19 : decode cX6_forkOf 19 = .ok (.iload 6, 2) := by decide +kernel
theorem dX6_forkOf_21 : decode cX6_forkOf 21 = .ok (.bipush 6, 2) := by decide +kernel
theorem dX6_forkOf_23 : decode cX6_forkOf 23 = .ok (.iload_n 2, 1) := by decide +kernel
theorem dX6_forkOf_24 : decode cX6_forkOf 24 = .ok (.imul, 1) := by decide +kernel
theorem dX6_forkOf_25 : decode cX6_forkOf 25 = .ok (.if_icmp .lt 81, 3) := by decide +kernel
theorem dX6_forkOf_28 : decode cX6_forkOf 28 = .ok (.iload_n 3, 1) := by decide +kernel
theorem dX6_forkOf_29 : decode cX6_forkOf 29 = .ok (.iconst 3, 1) := by decide +kernel
theorem dX6_forkOf_30 : decode cX6_forkOf 30 = .ok (.if_icmp .ge 76, 3) := by decide +kernel
theorem dX6_forkOf_33 : decode cX6_forkOf 33 = .ok (.aload_n 0, 1) := by decide +kernel
theorem dX6_forkOf_34 : decode cX6_forkOf 34 = .ok (.iload 6, 2) := by decide +kernel
theorem dX6_forkOf_36 : decode cX6_forkOf 36 = .ok (.invokevirtual 134, 3) := by decide +kernel
theorem dX6_forkOf_39 : decode cX6_forkOf 39 = .ok (.istore 7, 2) := by decide +kernel
theorem dX6_forkOf_41 : decode cX6_forkOf 41 = .ok (.iload 7, 2) := by decide +kernel
theorem dX6_forkOf_43 : decode cX6_forkOf 43 = .ok (.iconst (-1), 1) := by decide +kernel
theorem dX6_forkOf_44 : decode cX6_forkOf 44 = .ok (.if_icmp .eq 56, 3) := by decide +kernel
theorem dX6_forkOf_47 : decode cX6_forkOf 47 = .ok (.iload 4, 2) := by decide +kernel
theorem dX6_forkOf_49 : decode cX6_forkOf 49 = .ok (.ifCond .eq 31, 3) := by decide +kernel
theorem dX6_forkOf_52 : decode cX6_forkOf 52 = .ok (.iload_n 3, 1) := by decide +kernel
theorem dX6_forkOf_53 : decode cX6_forkOf 53 = .ok (.iconst 1, 1) := by decide +kernel
theorem dX6_forkOf_54 : decode cX6_forkOf 54 = .ok (.if_icmp .ne 16, 3) := by decide +kernel
theorem dX6_forkOf_57 : decode cX6_forkOf 57 = .ok (.iload 7, 2) := by decide +kernel
theorem dX6_forkOf_59 : decode cX6_forkOf 59 = .ok (.iconst 2, 1) := by decide +kernel
theorem dX6_forkOf_60 : decode cX6_forkOf 60 = .ok (.irem, 1) := by decide +kernel
theorem dX6_forkOf_61 : decode cX6_forkOf 61 = .ok (.iload_n 1, 1) := by decide +kernel
theorem dX6_forkOf_62 : decode cX6_forkOf 62 = .ok (.iconst 2, 1) := by decide +kernel
theorem dX6_forkOf_63 : decode cX6_forkOf 63 = .ok (.irem, 1) := by decide +kernel
theorem dX6_forkOf_64 : decode cX6_forkOf 64 = .ok (.if_icmp .eq 16, 3) := by decide +kernel
theorem dX6_forkOf_67 : decode cX6_forkOf 67 = .ok (.goto 9, 3) := by decide +kernel
theorem dX6_forkOf_70 : decode cX6_forkOf 70 = .ok (.iload 7, 2) := by decide +kernel
theorem dX6_forkOf_72 : decode cX6_forkOf 72 = .ok (.iload_n 1, 1) := by decide +kernel
theorem dX6_forkOf_73 : decode cX6_forkOf 73 = .ok (.if_icmp .ne 7, 3) := by decide +kernel
theorem dX6_forkOf_76 : decode cX6_forkOf 76 = .ok (.iconst 1, 1) := by decide +kernel
theorem dX6_forkOf_77 : decode cX6_forkOf 77 = .ok (.goto 4, 3) := by decide +kernel
theorem dX6_forkOf_80 : decode cX6_forkOf 80 = .ok (.iconst 0, 1) := by decide +kernel
theorem dX6_forkOf_81 : decode cX6_forkOf 81 = .ok (.istore 4, 2) := by decide +kernel
theorem dX6_forkOf_83 : decode cX6_forkOf 83 = .ok (.iload_n 3, 1) := by decide +kernel
theorem dX6_forkOf_84 : decode cX6_forkOf 84 = .ok (.iconst 1, 1) := by decide +kernel
theorem dX6_forkOf_85 : decode cX6_forkOf 85 = .ok (.if_icmp .ne 8, 3) := by decide +kernel
theorem dX6_forkOf_88 : decode cX6_forkOf 88 = .ok (.iload 7, 2) := by decide +kernel
theorem dX6_forkOf_90 : decode cX6_forkOf 90 = .ok (.goto 5, 3) := by decide +kernel
theorem dX6_forkOf_93 : decode cX6_forkOf 93 = .ok (.iload 5, 2) := by decide +kernel
theorem dX6_forkOf_95 : decode cX6_forkOf 95 = .ok (.istore 5, 2) := by decide +kernel
theorem dX6_forkOf_97 : decode cX6_forkOf 97 = .ok (.iinc 3 1, 3) := by decide +kernel
theorem dX6_forkOf_100 : decode cX6_forkOf 100 = .ok (.iinc 6 (-1), 3) := by decide +kernel
theorem dX6_forkOf_103 : decode cX6_forkOf 103 = .ok (.goto (-84), 3) := by decide +kernel
theorem dX6_forkOf_106 : decode cX6_forkOf 106 = .ok (.iload 4, 2) := by decide +kernel
theorem dX6_forkOf_108 : decode cX6_forkOf 108 = .ok (.ifCond .eq 8, 3) := by decide +kernel
theorem dX6_forkOf_111 : decode cX6_forkOf 111 = .ok (.iload_n 3, 1) := by decide +kernel
theorem dX6_forkOf_112 : decode cX6_forkOf 112 = .ok (.iconst 3, 1) := by decide +kernel
theorem dX6_forkOf_113 : decode cX6_forkOf 113 = .ok (.if_icmp .ge 7, 3) := by decide +kernel
theorem dX6_forkOf_116 : decode cX6_forkOf 116 = .ok (.iconst 0, 1) := by decide +kernel
theorem dX6_forkOf_117 : decode cX6_forkOf 117 = .ok (.goto 18, 3) := by decide +kernel
theorem dX6_forkOf_120 : decode cX6_forkOf 120 = .ok (.iload 5, 2) := by decide +kernel
theorem dX6_forkOf_122 : decode cX6_forkOf 122 = .ok (.iconst 1, 1) := by decide +kernel
theorem dX6_forkOf_123 : decode cX6_forkOf 123 = .ok (.iadd, 1) := by decide +kernel
theorem dX6_forkOf_124 : decode cX6_forkOf 124 = .ok (.iconst 4, 1) := by decide +kernel
theorem dX6_forkOf_125 : decode cX6_forkOf 125 = .ok (.irem, 1) := by decide +kernel
theorem dX6_forkOf_126 : decode cX6_forkOf 126 = .ok (.iload_n 1, 1) := by decide +kernel
theorem dX6_forkOf_127 : decode cX6_forkOf 127 = .ok (.if_icmp .ne 7, 3) := by decide +kernel
theorem dX6_forkOf_130 : decode cX6_forkOf 130 = .ok (.iconst 2, 1) := by decide +kernel
theorem dX6_forkOf_131 : decode cX6_forkOf 131 = .ok (.goto 4, 3) := by decide +kernel
theorem dX6_forkOf_134 : decode cX6_forkOf 134 = .ok (.iconst 1, 1) := by decide +kernel
theorem dX6_forkOf_135 : decode cX6_forkOf 135 = .ok (.ireturn, 1) := by decide +kernel
set_option maxRecDepth 20000 in
theorem ggX6_fork_X6_in : GoodIn wsX6_fork wsX6_in := goodIn_r _ [5] (by decide +kernel) (by decide +kernel)
set_option maxRecDepth 20000 in
theorem gX6_fork_X6_in : GoodIn wsX6_fork (va_wsS RX6 77 yX6_in wsX6_in) := goodIn_app (goodIn_of _ (by decide +kernel)) ggX6_fork_X6_in
set_option maxRecDepth 20000 in
theorem ggX6_fork_X6_forkOf : GoodIn wsX6_fork wsX6_forkOf := goodIn_r _ [9, 10, 11, 12, 4, 13, 14, 15, 16, 17, 18, 19, 20, 21, 22, 23, 24, 25, 26, 27, 28, 29, 30, 31, 32, 33] (by decide +kernel) (by decide +kernel)
set_option maxRecDepth 20000 in
theorem gX6_fork_X6_forkOf : GoodIn wsX6_fork (wsV RX6 149 RX6 yX6_forkOf wsX6_forkOf) := goodIn_app (goodIn_of _ (by decide +kernel)) ggX6_fork_X6_forkOf
theorem dX6_fork_0 : decode cX6_fork 0 = .ok (.aload_n 0, 1) := by decide +kernel
theorem dX6_fork_1 : decode cX6_fork 1 = .ok (.iload_n 1, 1) := by decide +kernel
theorem dX6_fork_2 : decode cX6_fork 2 = .ok (.iconst 0, 1) := by decide +kernel
theorem dX6_fork_3 : decode cX6_fork 3 = .ok (.iconst 3, 1) := by decide +kernel
theorem dX6_fork_4 : decode cX6_fork 4 = .ok (.invokestatic 77, 3) := by decide +kernel
theorem dX6_fork_7 : decode cX6_fork 7 = .ok (.ifCond .eq 16, 3) := by decide +kernel
theorem dX6_fork_10 : decode cX6_fork 10 = .ok (.iload_n 2, 1) := by decide +kernel
theorem dX6_fork_11 : decode cX6_fork 11 = .ok (.iconst 0, 1) := by decide +kernel
theorem dX6_fork_12 : decode cX6_fork 12 = .ok (.iconst 3, 1) := by decide +kernel
theorem dX6_fork_13 : decode cX6_fork 13 = .ok (.invokestatic 77, 3) := by decide +kernel
theorem dX6_fork_16 : decode cX6_fork 16 = .ok (.ifCond .eq 7, 3) := by decide +kernel
theorem dX6_fork_19 : decode cX6_fork 19 = .ok (.iconst 0, 1) := by decide +kernel
theorem dX6_fork_20 : decode cX6_fork 20 = .ok (.goto 4, 3) := by decide +kernel
theorem dX6_fork_23 : decode cX6_fork 23 = .ok (.iconst 1, 1) := by decide +kernel
theorem dX6_fork_24 : decode cX6_fork 24 = .ok (.putfield 39, 3) := by decide +kernel
theorem dX6_fork_27 : decode cX6_fork 27 = .ok (.aload_n 0, 1) := by decide +kernel
theorem dX6_fork_28 : decode cX6_fork 28 = .ok (.getfield 39, 3) := by decide +kernel
theorem dX6_fork_31 : decode cX6_fork 31 = .ok (.ifCond .ne 12, 3) := by decide +kernel
theorem dX6_fork_34 : decode cX6_fork 34 = .ok (.aload_n 0, 1) := by decide +kernel
theorem dX6_fork_35 : decode cX6_fork 35 = .ok (.iload_n 1, 1) := by decide +kernel
theorem dX6_fork_36 : decode cX6_fork 36 = .ok (.iload_n 2, 1) := by decide +kernel
theorem dX6_fork_37 : decode cX6_fork 37 = .ok (.invokevirtual 149, 3) := by decide +kernel
theorem dX6_fork_40 : decode cX6_fork 40 = .ok (.goto 4, 3) := by decide +kernel
theorem dX6_fork_43 : decode cX6_fork 43 = .ok (.iconst 0, 1) := by decide +kernel
theorem dX6_fork_44 : decode cX6_fork 44 = .ok (.ireturn, 1) := by decide +kernel
set_option maxRecDepth 20000 in
theorem ggX6_goodForks_X6_forkOf : GoodIn wsX6_goodForks wsX6_forkOf := goodIn_r _ [6, 7, 8, 9, 5, 10, 11, 12, 13, 14, 15, 16, 17, 18, 19, 20, 21, 22, 23, 24, 25, 26, 27, 28, 29, 30] (by decide +kernel) (by decide +kernel)
set_option maxRecDepth 20000 in
theorem gX6_goodForks_X6_forkOf : GoodIn wsX6_goodForks (wsV RX6 149 RX6 yX6_forkOf wsX6_forkOf) := goodIn_app (goodIn_of _ (by decide +kernel)) ggX6_goodForks_X6_forkOf
theorem dX6_goodForks_0 : decode cX6_goodForks 0 = .ok (.aload_n 0, 1) := by decide +kernel
theorem dX6_goodForks_1 : decode cX6_goodForks 1 = .ok (.iconst 0, 1) := by decide +kernel
theorem dX6_goodForks_2 : decode cX6_goodForks 2 = .ok (.putfield 39, 3) := by decide +kernel
theorem dX6_goodForks_5 : decode cX6_goodForks 5 = .ok (.iconst 0, 1) := by decide +kernel
theorem dX6_goodForks_6 : decode cX6_goodForks 6 = .ok (.istore_n 1, 1) := by decide +kernel
theorem dX6_goodForks_7 : decode cX6_goodForks 7 = .ok (.iconst 0, 1) := by decide +kernel
theorem dX6_goodForks_8 : decode cX6_goodForks 8 = .ok (.istore_n 2, 1) := by decide +kernel
theorem dX6_goodForks_9 : decode cX6_goodForks 9 = .ok (.iload_n 2, 1) := by decide +kernel
theorem dX6_goodForks_10 : decode cX6_goodForks 10 = .ok (.iconst 4, 1) := by decide +kernel
theorem dX6_goodForks_11 : decode cX6_goodForks 11 = .ok (.if_icmp .ge 50, 3) := by decide +kernel
theorem dX6_goodForks_14 : decode cX6_goodForks 14 = .ok (.iconst 0, 1) := by decide +kernel
theorem dX6_goodForks_15 : decode cX6_goodForks 15 = .ok (.istore_n 3, 1) := by decide +kernel
theorem dX6_goodForks_16 : decode cX6_goodForks 16 = .ok (.iload_n 3, 1) := by decide +kernel
theorem dX6_goodForks_17 : decode cX6_goodForks 17 = .ok (.iconst 4, 1) := by decide +kernel
theorem dX6_goodForks_18 : decode cX6_goodForks 18 = .ok (.if_icmp .ge 37, 3) := by decide +kernel
theorem dX6_goodForks_21 : decode cX6_goodForks 21 = .ok (.iload_n 1, 1) := by decide +kernel
theorem dX6_goodForks_22 : decode cX6_goodForks 22 = .ok (.aload_n 0, 1) := by decide +kernel
theorem dX6_goodForks_23 : decode cX6_goodForks 23 = .ok (.iload_n 2, 1) := by decide +kernel
theorem dX6_goodForks_24 : decode cX6_goodForks 24 = .ok (.iload_n 3, 1) := by decide +kernel
theorem dX6_goodForks_25 : decode cX6_goodForks 25 = .ok (.invokevirtual 149, 3) := by decide +kernel
theorem dX6_goodForks_28 : decode cX6_goodForks 28 = .ok (.iconst 2, 1) := by decide +kernel
theorem dX6_goodForks_29 : decode cX6_goodForks 29 = .ok (.if_icmp .ne 17, 3) := by decide +kernel
theorem dX6_goodForks_32 : decode cX6_goodForks 32 = .ok (.iload_n 2, 1) := by decide +kernel
theorem dX6_goodForks_33 : decode cX6_goodForks 33 = .ok (.iconst 2, 1) := by decide +kernel
theorem dX6_goodForks_34 : decode cX6_goodForks 34 = .ok (.irem, 1) := by decide +kernel
theorem dX6_goodForks_35 : decode cX6_goodForks 35 = .ok (.ifCond .ne 7, 3) := by decide +kernel
theorem dX6_goodForks_38 : decode cX6_goodForks 38 = .ok (.iconst 1, 1) := by decide +kernel
theorem dX6_goodForks_39 : decode cX6_goodForks 39 = .ok (.goto 8, 3) := by decide +kernel
theorem dX6_goodForks_42 : decode cX6_goodForks 42 = .ok (.iconst (-1), 1) := by decide +kernel
theorem dX6_goodForks_43 : decode cX6_goodForks 43 = .ok (.goto 4, 3) := by decide +kernel
theorem dX6_goodForks_46 : decode cX6_goodForks 46 = .ok (.iconst 0, 1) := by decide +kernel
theorem dX6_goodForks_47 : decode cX6_goodForks 47 = .ok (.iadd, 1) := by decide +kernel
theorem dX6_goodForks_48 : decode cX6_goodForks 48 = .ok (.istore_n 1, 1) := by decide +kernel
theorem dX6_goodForks_49 : decode cX6_goodForks 49 = .ok (.iinc 3 1, 3) := by decide +kernel
theorem dX6_goodForks_52 : decode cX6_goodForks 52 = .ok (.goto (-36), 3) := by decide +kernel
theorem dX6_goodForks_55 : decode cX6_goodForks 55 = .ok (.iinc 2 1, 3) := by decide +kernel
theorem dX6_goodForks_58 : decode cX6_goodForks 58 = .ok (.goto (-49), 3) := by decide +kernel
theorem dX6_goodForks_61 : decode cX6_goodForks 61 = .ok (.iload_n 1, 1) := by decide +kernel
theorem dX6_goodForks_62 : decode cX6_goodForks 62 = .ok (.ireturn, 1) := by decide +kernel
theorem dJ6_numberOfLeadingZeros_0f7a4_0 : decode cJ6_numberOfLeadingZeros_0f7a4 0 = .ok (.iload_n 0, 1) := by decide +kernel
theorem dJ6_numberOfLeadingZeros_0f7a4_1 : decode cJ6_numberOfLeadingZeros_0f7a4 1 = .ok (.ifCond .gt 14, 3) := by decide +kernel
theorem dJ6_numberOfLeadingZeros_0f7a4_4 : decode cJ6_numberOfLeadingZeros_0f7a4 4 = .ok (.iload_n 0, 1) := by decide +kernel
theorem dJ6_numberOfLeadingZeros_0f7a4_5 : decode cJ6_numberOfLeadingZeros_0f7a4 5 = .ok (.ifCond .ne 8, 3) := by decide +kernel
theorem dJ6_numberOfLeadingZeros_0f7a4_8 : decode cJ6_numberOfLeadingZeros_0f7a4 8 = .ok (.bipush 32, 2) := by decide +kernel
theorem dJ6_numberOfLeadingZeros_0f7a4_10 : decode cJ6_numberOfLeadingZeros_0f7a4 10 = .ok (.goto 4, 3) := by decide +kernel
theorem dJ6_numberOfLeadingZeros_0f7a4_13 : decode cJ6_numberOfLeadingZeros_0f7a4 13 = .ok (.iconst 0, 1) := by decide +kernel
theorem dJ6_numberOfLeadingZeros_0f7a4_14 : decode cJ6_numberOfLeadingZeros_0f7a4 14 = .ok (.ireturn, 1) := by decide +kernel
theorem dJ6_numberOfLeadingZeros_0f7a4_15 : decode cJ6_numberOfLeadingZeros_0f7a4 15 = .ok (.bipush 31, 2) := by decide +kernel
theorem dJ6_numberOfLeadingZeros_0f7a4_17 : decode cJ6_numberOfLeadingZeros_0f7a4 17 = .ok (.istore_n 1, 1) := by decide +kernel
theorem dJ6_numberOfLeadingZeros_0f7a4_18 : decode cJ6_numberOfLeadingZeros_0f7a4 18 = .ok (.iload_n 0, 1) := by decide +kernel
theorem dJ6_numberOfLeadingZeros_0f7a4_19 : decode cJ6_numberOfLeadingZeros_0f7a4 19 = .ok (.ldc_w 264, 3) := by decide +kernel
theorem dJ6_numberOfLeadingZeros_0f7a4_22 : decode cJ6_numberOfLeadingZeros_0f7a4 22 = .ok (.if_icmp .lt 11, 3) := by decide +kernel
theorem dJ6_numberOfLeadingZeros_0f7a4_25 : decode cJ6_numberOfLeadingZeros_0f7a4 25 = .ok (.iinc 1 (-16), 3) := by decide +kernel
theorem dJ6_numberOfLeadingZeros_0f7a4_28 : decode cJ6_numberOfLeadingZeros_0f7a4 28 = .ok (.iload_n 0, 1) := by decide +kernel
theorem dJ6_numberOfLeadingZeros_0f7a4_29 : decode cJ6_numberOfLeadingZeros_0f7a4 29 = .ok (.bipush 16, 2) := by decide +kernel
theorem dJ6_numberOfLeadingZeros_0f7a4_31 : decode cJ6_numberOfLeadingZeros_0f7a4 31 = .ok (.iushr, 1) := by decide +kernel
theorem dJ6_numberOfLeadingZeros_0f7a4_32 : decode cJ6_numberOfLeadingZeros_0f7a4 32 = .ok (.istore_n 0, 1) := by decide +kernel
theorem dJ6_numberOfLeadingZeros_0f7a4_33 : decode cJ6_numberOfLeadingZeros_0f7a4 33 = .ok (.iload_n 0, 1) := by decide +kernel
theorem dJ6_numberOfLeadingZeros_0f7a4_34 : decode cJ6_numberOfLeadingZeros_0f7a4 34 = .ok (.sipush 256, 3) := by decide +kernel
theorem dJ6_numberOfLeadingZeros_0f7a4_37 : decode cJ6_numberOfLeadingZeros_0f7a4 37 = .ok (.if_icmp .lt 11, 3) := by decide +kernel
theorem dJ6_numberOfLeadingZeros_0f7a4_40 : decode cJ6_numberOfLeadingZeros_0f7a4 40 = .ok (.iinc 1 (-8), 3) := by decide +kernel
theorem dJ6_numberOfLeadingZeros_0f7a4_43 : decode cJ6_numberOfLeadingZeros_0f7a4 43 = .ok (.iload_n 0, 1) := by decide +kernel
theorem dJ6_numberOfLeadingZeros_0f7a4_44 : decode cJ6_numberOfLeadingZeros_0f7a4 44 = .ok (.bipush 8, 2) := by decide +kernel
theorem dJ6_numberOfLeadingZeros_0f7a4_46 : decode cJ6_numberOfLeadingZeros_0f7a4 46 = .ok (.iushr, 1) := by decide +kernel
theorem dJ6_numberOfLeadingZeros_0f7a4_47 : decode cJ6_numberOfLeadingZeros_0f7a4 47 = .ok (.istore_n 0, 1) := by decide +kernel
theorem dJ6_numberOfLeadingZeros_0f7a4_48 : decode cJ6_numberOfLeadingZeros_0f7a4 48 = .ok (.iload_n 0, 1) := by decide +kernel
theorem dJ6_numberOfLeadingZeros_0f7a4_49 : decode cJ6_numberOfLeadingZeros_0f7a4 49 = .ok (.bipush 16, 2) := by decide +kernel
theorem dJ6_numberOfLeadingZeros_0f7a4_51 : decode cJ6_numberOfLeadingZeros_0f7a4 51 = .ok (.if_icmp .lt 10, 3) := by decide +kernel
theorem dJ6_numberOfLeadingZeros_0f7a4_54 : decode cJ6_numberOfLeadingZeros_0f7a4 54 = .ok (.iinc 1 (-4), 3) := by decide +kernel
theorem dJ6_numberOfLeadingZeros_0f7a4_57 : decode cJ6_numberOfLeadingZeros_0f7a4 57 = .ok (.iload_n 0, 1) := by decide +kernel
theorem dJ6_numberOfLeadingZeros_0f7a4_58 : decode cJ6_numberOfLeadingZeros_0f7a4 58 = .ok (.iconst 4, 1) := by decide +kernel
theorem dJ6_numberOfLeadingZeros_0f7a4_59 : decode cJ6_numberOfLeadingZeros_0f7a4 59 = .ok (.iushr, 1) := by decide +kernel
theorem dJ6_numberOfLeadingZeros_0f7a4_60 : decode cJ6_numberOfLeadingZeros_0f7a4 60 = .ok (.istore_n 0, 1) := by decide +kernel
theorem dJ6_numberOfLeadingZeros_0f7a4_61 : decode cJ6_numberOfLeadingZeros_0f7a4 61 = .ok (.iload_n 0, 1) := by decide +kernel
theorem dJ6_numberOfLeadingZeros_0f7a4_62 : decode cJ6_numberOfLeadingZeros_0f7a4 62 = .ok (.iconst 4, 1) := by decide +kernel
theorem dJ6_numberOfLeadingZeros_0f7a4_63 : decode cJ6_numberOfLeadingZeros_0f7a4 63 = .ok (.if_icmp .lt 10, 3) := by decide +kernel
theorem dJ6_numberOfLeadingZeros_0f7a4_66 : decode cJ6_numberOfLeadingZeros_0f7a4 66 = .ok (.iinc 1 (-2), 3) := by decide +kernel
theorem dJ6_numberOfLeadingZeros_0f7a4_69 : decode cJ6_numberOfLeadingZeros_0f7a4 69 = .ok (.iload_n 0, 1) := by decide +kernel
theorem dJ6_numberOfLeadingZeros_0f7a4_70 : decode cJ6_numberOfLeadingZeros_0f7a4 70 = .ok (.iconst 2, 1) := by decide +kernel
theorem dJ6_numberOfLeadingZeros_0f7a4_71 : decode cJ6_numberOfLeadingZeros_0f7a4 71 = .ok (.iushr, 1) := by decide +kernel
theorem dJ6_numberOfLeadingZeros_0f7a4_72 : decode cJ6_numberOfLeadingZeros_0f7a4 72 = .ok (.istore_n 0, 1) := by decide +kernel
theorem dJ6_numberOfLeadingZeros_0f7a4_73 : decode cJ6_numberOfLeadingZeros_0f7a4 73 = .ok (.iload_n 1, 1) := by decide +kernel
theorem dJ6_numberOfLeadingZeros_0f7a4_74 : decode cJ6_numberOfLeadingZeros_0f7a4 74 = .ok (.iload_n 0, 1) := by decide +kernel
theorem dJ6_numberOfLeadingZeros_0f7a4_75 : decode cJ6_numberOfLeadingZeros_0f7a4 75 = .ok (.iconst 1, 1) := by decide +kernel
theorem dJ6_numberOfLeadingZeros_0f7a4_76 : decode cJ6_numberOfLeadingZeros_0f7a4 76 = .ok (.iushr, 1) := by decide +kernel
theorem dJ6_numberOfLeadingZeros_0f7a4_77 : decode cJ6_numberOfLeadingZeros_0f7a4 77 = .ok (.isub, 1) := by decide +kernel
theorem dJ6_numberOfLeadingZeros_0f7a4_78 : decode cJ6_numberOfLeadingZeros_0f7a4 78 = .ok (.ireturn, 1) := by decide +kernel
theorem dJ6_numberOfTrailingZeros_0f7a4_0 : decode cJ6_numberOfTrailingZeros_0f7a4 0 = .ok (.iload_n 0, 1) := by decide +kernel
theorem dJ6_numberOfTrailingZeros_0f7a4_1 : decode cJ6_numberOfTrailingZeros_0f7a4 1 = .ok (.iconst (-1), 1) := by decide +kernel
theorem dJ6_numberOfTrailingZeros_0f7a4_2 : decode cJ6_numberOfTrailingZeros_0f7a4 2 = .ok (.ixor, 1) := by decide +kernel
theorem dJ6_numberOfTrailingZeros_0f7a4_3 : decode cJ6_numberOfTrailingZeros_0f7a4 3 = .ok (.iload_n 0, 1) := by decide +kernel
theorem dJ6_numberOfTrailingZeros_0f7a4_4 : decode cJ6_numberOfTrailingZeros_0f7a4 4 = .ok (.iconst 1, 1) := by decide +kernel
theorem dJ6_numberOfTrailingZeros_0f7a4_5 : decode cJ6_numberOfTrailingZeros_0f7a4 5 = .ok (.isub, 1) := by decide +kernel
theorem dJ6_numberOfTrailingZeros_0f7a4_6 : decode cJ6_numberOfTrailingZeros_0f7a4 6 = .ok (.iand, 1) := by decide +kernel
theorem dJ6_numberOfTrailingZeros_0f7a4_7 : decode cJ6_numberOfTrailingZeros_0f7a4 7 = .ok (.istore_n 0, 1) := by decide +kernel
theorem dJ6_numberOfTrailingZeros_0f7a4_8 : decode cJ6_numberOfTrailingZeros_0f7a4 8 = .ok (.iload_n 0, 1) := by decide +kernel
theorem dJ6_numberOfTrailingZeros_0f7a4_9 : decode cJ6_numberOfTrailingZeros_0f7a4 9 = .ok (.ifCond .gt 8, 3) := by decide +kernel
theorem dJ6_numberOfTrailingZeros_0f7a4_12 : decode cJ6_numberOfTrailingZeros_0f7a4 12 = .ok (.iload_n 0, 1) := by decide +kernel
theorem dJ6_numberOfTrailingZeros_0f7a4_13 : decode cJ6_numberOfTrailingZeros_0f7a4 13 = .ok (.bipush 32, 2) := by decide +kernel
theorem dJ6_numberOfTrailingZeros_0f7a4_15 : decode cJ6_numberOfTrailingZeros_0f7a4 15 = .ok (.iand, 1) := by decide +kernel
theorem dJ6_numberOfTrailingZeros_0f7a4_16 : decode cJ6_numberOfTrailingZeros_0f7a4 16 = .ok (.ireturn, 1) := by decide +kernel
theorem dJ6_numberOfTrailingZeros_0f7a4_17 : decode cJ6_numberOfTrailingZeros_0f7a4 17 = .ok (.iconst 1, 1) := by decide +kernel
theorem dJ6_numberOfTrailingZeros_0f7a4_18 : decode cJ6_numberOfTrailingZeros_0f7a4 18 = .ok (.istore_n 1, 1) := by decide +kernel
theorem dJ6_numberOfTrailingZeros_0f7a4_19 : decode cJ6_numberOfTrailingZeros_0f7a4 19 = .ok (.iload_n 0, 1) := by decide +kernel
theorem dJ6_numberOfTrailingZeros_0f7a4_20 : decode cJ6_numberOfTrailingZeros_0f7a4 20 = .ok (.ldc_w 264, 3) := by decide +kernel
theorem dJ6_numberOfTrailingZeros_0f7a4_23 : decode cJ6_numberOfTrailingZeros_0f7a4 23 = .ok (.if_icmp .le 11, 3) := by decide +kernel
theorem dJ6_numberOfTrailingZeros_0f7a4_26 : decode cJ6_numberOfTrailingZeros_0f7a4 26 = .ok (.iinc 1 16, 3) := by decide +kernel
theorem dJ6_numberOfTrailingZeros_0f7a4_29 : decode cJ6_numberOfTrailingZeros_0f7a4 29 = .ok (.iload_n 0, 1) := by decide +kernel
theorem dJ6_numberOfTrailingZeros_0f7a4_30 : decode cJ6_numberOfTrailingZeros_0f7a4 30 = .ok (.bipush 16, 2) := by decide +kernel
theorem dJ6_numberOfTrailingZeros_0f7a4_32 : decode cJ6_numberOfTrailingZeros_0f7a4 32 = .ok (.iushr, 1) := by decide +kernel
theorem dJ6_numberOfTrailingZeros_0f7a4_33 : decode cJ6_numberOfTrailingZeros_0f7a4 33 = .ok (.istore_n 0, 1) := by decide +kernel
theorem dJ6_numberOfTrailingZeros_0f7a4_34 : decode cJ6_numberOfTrailingZeros_0f7a4 34 = .ok (.iload_n 0, 1) := by decide +kernel
theorem dJ6_numberOfTrailingZeros_0f7a4_35 : decode cJ6_numberOfTrailingZeros_0f7a4 35 = .ok (.sipush 256, 3) := by decide +kernel
theorem dJ6_numberOfTrailingZeros_0f7a4_38 : decode cJ6_numberOfTrailingZeros_0f7a4 38 = .ok (.if_icmp .le 11, 3) := by decide +kernel
theorem dJ6_numberOfTrailingZeros_0f7a4_41 : decode cJ6_numberOfTrailingZeros_0f7a4 41 = .ok (.iinc 1 8, 3) := by decide +kernel
theorem dJ6_numberOfTrailingZeros_0f7a4_44 : decode cJ6_numberOfTrailingZeros_0f7a4 44 = .ok (.iload_n 0, 1) := by decide +kernel
theorem dJ6_numberOfTrailingZeros_0f7a4_45 : decode cJ6_numberOfTrailingZeros_0f7a4 45 = .ok (.bipush 8, 2) := by decide +kernel
theorem dJ6_numberOfTrailingZeros_0f7a4_47 : decode cJ6_numberOfTrailingZeros_0f7a4 47 = .ok (.iushr, 1) := by decide +kernel
theorem dJ6_numberOfTrailingZeros_0f7a4_48 : decode cJ6_numberOfTrailingZeros_0f7a4 48 = .ok (.istore_n 0, 1) := by decide +kernel
theorem dJ6_numberOfTrailingZeros_0f7a4_49 : decode cJ6_numberOfTrailingZeros_0f7a4 49 = .ok (.iload_n 0, 1) := by decide +kernel
theorem dJ6_numberOfTrailingZeros_0f7a4_50 : decode cJ6_numberOfTrailingZeros_0f7a4 50 = .ok (.bipush 16, 2) := by decide +kernel
theorem dJ6_numberOfTrailingZeros_0f7a4_52 : decode cJ6_numberOfTrailingZeros_0f7a4 52 = .ok (.if_icmp .le 10, 3) := by decide +kernel
theorem dJ6_numberOfTrailingZeros_0f7a4_55 : decode cJ6_numberOfTrailingZeros_0f7a4 55 = .ok (.iinc 1 4, 3) := by decide +kernel
theorem dJ6_numberOfTrailingZeros_0f7a4_58 : decode cJ6_numberOfTrailingZeros_0f7a4 58 = .ok (.iload_n 0, 1) := by decide +kernel
theorem dJ6_numberOfTrailingZeros_0f7a4_59 : decode cJ6_numberOfTrailingZeros_0f7a4 59 = .ok (.iconst 4, 1) := by decide +kernel
theorem dJ6_numberOfTrailingZeros_0f7a4_60 : decode cJ6_numberOfTrailingZeros_0f7a4 60 = .ok (.iushr, 1) := by decide +kernel
theorem dJ6_numberOfTrailingZeros_0f7a4_61 : decode cJ6_numberOfTrailingZeros_0f7a4 61 = .ok (.istore_n 0, 1) := by decide +kernel
theorem dJ6_numberOfTrailingZeros_0f7a4_62 : decode cJ6_numberOfTrailingZeros_0f7a4 62 = .ok (.iload_n 0, 1) := by decide +kernel
theorem dJ6_numberOfTrailingZeros_0f7a4_63 : decode cJ6_numberOfTrailingZeros_0f7a4 63 = .ok (.iconst 4, 1) := by decide +kernel
theorem dJ6_numberOfTrailingZeros_0f7a4_64 : decode cJ6_numberOfTrailingZeros_0f7a4 64 = .ok (.if_icmp .le 10, 3) := by decide +kernel
theorem dJ6_numberOfTrailingZeros_0f7a4_67 : decode cJ6_numberOfTrailingZeros_0f7a4 67 = .ok (.iinc 1 2, 3) := by decide +kernel
theorem dJ6_numberOfTrailingZeros_0f7a4_70 : decode cJ6_numberOfTrailingZeros_0f7a4 70 = .ok (.iload_n 0, 1) := by decide +kernel
theorem dJ6_numberOfTrailingZeros_0f7a4_71 : decode cJ6_numberOfTrailingZeros_0f7a4 71 = .ok (.iconst 2, 1) := by decide +kernel
theorem dJ6_numberOfTrailingZeros_0f7a4_72 : decode cJ6_numberOfTrailingZeros_0f7a4 72 = .ok (.iushr, 1) := by decide +kernel
theorem dJ6_numberOfTrailingZeros_0f7a4_73 : decode cJ6_numberOfTrailingZeros_0f7a4 73 = .ok (.istore_n 0, 1) := by decide +kernel
theorem dJ6_numberOfTrailingZeros_0f7a4_74 : decode cJ6_numberOfTrailingZeros_0f7a4 74 = .ok (.iload_n 1, 1) := by decide +kernel
theorem dJ6_numberOfTrailingZeros_0f7a4_75 : decode cJ6_numberOfTrailingZeros_0f7a4 75 = .ok (.iload_n 0, 1) := by decide +kernel
theorem dJ6_numberOfTrailingZeros_0f7a4_76 : decode cJ6_numberOfTrailingZeros_0f7a4 76 = .ok (.iconst 1, 1) := by decide +kernel
theorem dJ6_numberOfTrailingZeros_0f7a4_77 : decode cJ6_numberOfTrailingZeros_0f7a4 77 = .ok (.iushr, 1) := by decide +kernel
theorem dJ6_numberOfTrailingZeros_0f7a4_78 : decode cJ6_numberOfTrailingZeros_0f7a4 78 = .ok (.iadd, 1) := by decide +kernel
theorem dJ6_numberOfTrailingZeros_0f7a4_79 : decode cJ6_numberOfTrailingZeros_0f7a4 79 = .ok (.ireturn, 1) := by decide +kernel
theorem dJ6_bitCount_0f7a4_0 : decode cJ6_bitCount_0f7a4 0 = .ok (.iload_n 0, 1) := by decide +kernel
theorem dJ6_bitCount_0f7a4_1 : decode cJ6_bitCount_0f7a4 1 = .ok (.iload_n 0, 1) := by decide +kernel
theorem dJ6_bitCount_0f7a4_2 : decode cJ6_bitCount_0f7a4 2 = .ok (.iconst 1, 1) := by decide +kernel
theorem dJ6_bitCount_0f7a4_3 : decode cJ6_bitCount_0f7a4 3 = .ok (.iushr, 1) := by decide +kernel
theorem dJ6_bitCount_0f7a4_4 : decode cJ6_bitCount_0f7a4 4 = .ok (.ldc_w 265, 3) := by decide +kernel
theorem dJ6_bitCount_0f7a4_7 : decode cJ6_bitCount_0f7a4 7 = .ok (.iand, 1) := by decide +kernel
theorem dJ6_bitCount_0f7a4_8 : decode cJ6_bitCount_0f7a4 8 = .ok (.isub, 1) := by decide +kernel
theorem dJ6_bitCount_0f7a4_9 : decode cJ6_bitCount_0f7a4 9 = .ok (.istore_n 0, 1) := by decide +kernel
theorem dJ6_bitCount_0f7a4_10 : decode cJ6_bitCount_0f7a4 10 = .ok (.iload_n 0, 1) := by decide +kernel
theorem dJ6_bitCount_0f7a4_11 : decode cJ6_bitCount_0f7a4 11 = .ok (.ldc_w 266, 3) := by decide +kernel
theorem dJ6_bitCount_0f7a4_14 : decode cJ6_bitCount_0f7a4 14 = .ok (.iand, 1) := by decide +kernel
theorem dJ6_bitCount_0f7a4_15 : decode cJ6_bitCount_0f7a4 15 = .ok (.iload_n 0, 1) := by decide +kernel
theorem dJ6_bitCount_0f7a4_16 : decode cJ6_bitCount_0f7a4 16 = .ok (.iconst 2, 1) := by decide +kernel
theorem dJ6_bitCount_0f7a4_17 : decode cJ6_bitCount_0f7a4 17 = .ok (.iushr, 1) := by decide +kernel
theorem dJ6_bitCount_0f7a4_18 : decode cJ6_bitCount_0f7a4 18 = .ok (.ldc_w 266, 3) := by decide +kernel
theorem dJ6_bitCount_0f7a4_21 : decode cJ6_bitCount_0f7a4 21 = .ok (.iand, 1) := by decide +kernel
theorem dJ6_bitCount_0f7a4_22 : decode cJ6_bitCount_0f7a4 22 = .ok (.iadd, 1) := by decide +kernel
theorem dJ6_bitCount_0f7a4_23 : decode cJ6_bitCount_0f7a4 23 = .ok (.istore_n 0, 1) := by decide +kernel
theorem dJ6_bitCount_0f7a4_24 : decode cJ6_bitCount_0f7a4 24 = .ok (.iload_n 0, 1) := by decide +kernel
theorem dJ6_bitCount_0f7a4_25 : decode cJ6_bitCount_0f7a4 25 = .ok (.iload_n 0, 1) := by decide +kernel
theorem dJ6_bitCount_0f7a4_26 : decode cJ6_bitCount_0f7a4 26 = .ok (.iconst 4, 1) := by decide +kernel
theorem dJ6_bitCount_0f7a4_27 : decode cJ6_bitCount_0f7a4 27 = .ok (.iushr, 1) := by decide +kernel
theorem dJ6_bitCount_0f7a4_28 : decode cJ6_bitCount_0f7a4 28 = .ok (.iadd, 1) := by decide +kernel
theorem dJ6_bitCount_0f7a4_29 : decode cJ6_bitCount_0f7a4 29 = .ok (.ldc_w 267, 3) := by decide +kernel
theorem dJ6_bitCount_0f7a4_32 : decode cJ6_bitCount_0f7a4 32 = .ok (.iand, 1) := by decide +kernel
theorem dJ6_bitCount_0f7a4_33 : decode cJ6_bitCount_0f7a4 33 = .ok (.istore_n 0, 1) := by decide +kernel
theorem dJ6_bitCount_0f7a4_34 : decode cJ6_bitCount_0f7a4 34 = .ok (.iload_n 0, 1) := by decide +kernel
theorem dJ6_bitCount_0f7a4_35 : decode cJ6_bitCount_0f7a4 35 = .ok (.iload_n 0, 1) := by decide +kernel
theorem dJ6_bitCount_0f7a4_36 : decode cJ6_bitCount_0f7a4 36 = .ok (.bipush 8, 2) := by decide +kernel
theorem dJ6_bitCount_0f7a4_38 : decode cJ6_bitCount_0f7a4 38 = .ok (.iushr, 1) := by decide +kernel
theorem dJ6_bitCount_0f7a4_39 : decode cJ6_bitCount_0f7a4 39 = .ok (.iadd, 1) := by decide +kernel
theorem dJ6_bitCount_0f7a4_40 : decode cJ6_bitCount_0f7a4 40 = .ok (.istore_n 0, 1) := by decide +kernel
theorem dJ6_bitCount_0f7a4_41 : decode cJ6_bitCount_0f7a4 41 = .ok (.iload_n 0, 1) := by decide +kernel
theorem dJ6_bitCount_0f7a4_42 : decode cJ6_bitCount_0f7a4 42 = .ok (.iload_n 0, 1) := by decide +kernel
theorem dJ6_bitCount_0f7a4_43 : decode cJ6_bitCount_0f7a4 43 = .ok (.bipush 16, 2) := by decide +kernel
theorem dJ6_bitCount_0f7a4_45 : decode cJ6_bitCount_0f7a4 45 = .ok (.iushr, 1) := by decide +kernel
theorem dJ6_bitCount_0f7a4_46 : decode cJ6_bitCount_0f7a4 46 = .ok (.iadd, 1) := by decide +kernel
theorem dJ6_bitCount_0f7a4_47 : decode cJ6_bitCount_0f7a4 47 = .ok (.istore_n 0, 1) := by decide +kernel
theorem dJ6_bitCount_0f7a4_48 : decode cJ6_bitCount_0f7a4 48 = .ok (.iload_n 0, 1) := by decide +kernel
theorem dJ6_bitCount_0f7a4_49 : decode cJ6_bitCount_0f7a4 49 = .ok (.bipush 63, 2) := by decide +kernel
theorem dJ6_bitCount_0f7a4_51 : decode cJ6_bitCount_0f7a4 51 = .ok (.iand, 1) := by decide +kernel
theorem dJ6_bitCount_0f7a4_52 : decode cJ6_bitCount_0f7a4 52 = .ok (.ireturn, 1) := by decide +kernel
theorem dJ9_max_7cf53_0 : decode cJ9_max_7cf53 0 = .ok (.iload_n 0, 1) := by decide +kernel
theorem dJ9_max_7cf53_1 : decode cJ9_max_7cf53 1 = .ok (.iload_n 1, 1) := by decide +kernel
theorem dJ9_max_7cf53_2 : decode cJ9_max_7cf53 2 = .ok (.if_icmp .lt 7, 3) := by decide +kernel
theorem dJ9_max_7cf53_5 : decode cJ9_max_7cf53 5 = .ok (.iload_n 0, 1) := by decide +kernel
theorem dJ9_max_7cf53_6 : decode cJ9_max_7cf53 6 = .ok (.goto 4, 3) := by decide +kernel
theorem dJ9_max_7cf53_9 : decode cJ9_max_7cf53 9 = .ok (.iload_n 1, 1) := by decide +kernel
theorem dJ9_max_7cf53_10 : decode cJ9_max_7cf53 10 = .ok (.ireturn, 1) := by decide +kernel
theorem dJ9_min_7cf53_0 : decode cJ9_min_7cf53 0 = .ok (.iload_n 0, 1) := by decide +kernel
theorem dJ9_min_7cf53_1 : decode cJ9_min_7cf53 1 = .ok (.iload_n 1, 1) := by decide +kernel
theorem dJ9_min_7cf53_2 : decode cJ9_min_7cf53 2 = .ok (.if_icmp .gt 7, 3) := by decide +kernel
theorem dJ9_min_7cf53_5 : decode cJ9_min_7cf53 5 = .ok (.iload_n 0, 1) := by decide +kernel
theorem dJ9_min_7cf53_6 : decode cJ9_min_7cf53 6 = .ok (.goto 4, 3) := by decide +kernel
theorem dJ9_min_7cf53_9 : decode cJ9_min_7cf53 9 = .ok (.iload_n 1, 1) := by decide +kernel
theorem dJ9_min_7cf53_10 : decode cJ9_min_7cf53 10 = .ok (.ireturn, 1) := by decide +kernel
set_option maxRecDepth 20000 in
theorem ggL_begin_X5_begin : GoodIn wsL_begin wsX5_begin := goodIn_ca (goodIn_r _ [6, 7, 8, 9, 10, 11, 12, 13, 14, 15, 16, 17, 18, 19, 20, 21, 22, 23, 24, 25, 26, 27, 28, 29, 30, 31] (by decide +kernel) (by decide +kernel)) (goodIn_sub (fun _ h => List.mem_cons_of_mem _ (List.mem_append_right _ h)) (by decide +kernel))
set_option maxRecDepth 20000 in
theorem gL_begin_X5_begin : GoodIn wsL_begin (wsV RL 7 RX5 yX5_begin wsX5_begin) := goodIn_app (goodIn_of _ (by decide +kernel)) ggL_begin_X5_begin
theorem dL_begin_0 : decode cL_begin 0 = .ok (.aload_n 2, 1) := by decide +kernel
theorem dL_begin_1 : decode cL_begin 1 = .ok (.iconst 0, 1) := by decide +kernel
theorem dL_begin_2 : decode cL_begin 2 = .ok (.aload_n 0, 1) := by decide +kernel
theorem dL_begin_3 : decode cL_begin 3 = .ok (.iload_n 1, 1) := by decide +kernel
theorem dL_begin_4 : decode cL_begin 4 = .ok (.invokevirtual 7, 3) := by decide +kernel
theorem dL_begin_7 : decode cL_begin 7 = .ok (.i2l, 1) := by decide +kernel
theorem dL_begin_8 : decode cL_begin 8 = .ok (.lastore, 1) := by decide +kernel
theorem dL_begin_9 : decode cL_begin 9 = .ok (.goto 6, 3) := by decide +kernel
theorem dL_begin_12 : decode cL_begin 12 = .ok (.astore_n 3, 1) := by decide +kernel
theorem dL_begin_13 : decode cL_begin 13 = .ok (.iconst 1, 1) := by decide +kernel
theorem dL_begin_14 : decode cL_begin 14 = .ok (.ireturn, 1) := by decide +kernel
theorem dL_begin_15 : decode cL_begin 15 = .ok (.iconst 0, 1) := by decide +kernel
theorem dL_begin_16 : decode cL_begin 16 = .ok (.ireturn, 1) := by decide +kernel
set_option maxRecDepth 20000 in
theorem ggL_give_X5_give : GoodIn wsL_give wsX5_give := goodIn_ca (goodIn_ca (goodIn_r _ [7, 8, 9, 10, 11, 12, 6, 13, 14, 15, 16, 17, 18, 19, 20, 21, 22, 23, 24, 25, 26, 27, 28, 29, 30, 31, 32, 33, 34, 35, 36, 37, 38, 39, 40, 41, 42, 43, 44, 45, 46, 47, 48, 49, 50, 51, 52, 53, 54, 55, 56, 57, 58, 59, 60] (by decide +kernel) (by decide +kernel)) (goodIn_sub (fun _ h => List.mem_cons_of_mem _ (List.mem_append_left _ (List.mem_append_right _ h))) (by decide +kernel))) (goodIn_sub (fun _ h => List.mem_cons_of_mem _ (List.mem_append_right _ h)) (by decide +kernel))
set_option maxRecDepth 20000 in
theorem gL_give_X5_give : GoodIn wsL_give (wsV RL 15 RX5 yX5_give wsX5_give) := goodIn_app (goodIn_of _ (by decide +kernel)) ggL_give_X5_give
theorem dL_give_0 : decode cL_give 0 = .ok (.aload_n 3, 1) := by decide +kernel
theorem dL_give_1 : decode cL_give 1 = .ok (.iconst 0, 1) := by decide +kernel
theorem dL_give_2 : decode cL_give 2 = .ok (.aload_n 0, 1) := by decide +kernel
theorem dL_give_3 : decode cL_give 3 = .ok (.iload_n 1, 1) := by decide +kernel
theorem dL_give_4 : decode cL_give 4 = .ok (.iload_n 2, 1) := by decide +kernel
theorem dL_give_5 : decode cL_give 5 = .ok (.invokevirtual 15, 3) := by decide +kernel
theorem dL_give_8 : decode cL_give 8 = .ok (.i2l, 1) := by decide +kernel
theorem dL_give_9 : decode cL_give 9 = .ok (.lastore, 1) := by decide +kernel
theorem dL_give_10 : decode cL_give 10 = .ok (.goto 11, 3) := by decide +kernel
theorem dL_give_13 : decode cL_give 13 = .ok (.astore 4, 2) := by decide +kernel
theorem dL_give_15 : decode cL_give 15 = .ok (.iconst 1, 1) := by decide +kernel
theorem dL_give_16 : decode cL_give 16 = .ok (.ireturn, 1) := by decide +kernel
theorem dL_give_17 : decode cL_give 17 = .ok (.astore 4, 2) := by decide +kernel
theorem dL_give_19 : decode cL_give 19 = .ok (.iconst 2, 1) := by decide +kernel
theorem dL_give_20 : decode cL_give 20 = .ok (.ireturn, 1) := by decide +kernel
theorem dL_give_21 : decode cL_give 21 = .ok (.iconst 0, 1) := by decide +kernel
theorem dL_give_22 : decode cL_give 22 = .ok (.ireturn, 1) := by decide +kernel
set_option maxRecDepth 20000 in
theorem ggL_start_X5_start : GoodIn wsL_start wsX5_start := goodIn_ca (goodIn_ca (goodIn_r _ [7, 8, 9, 10, 11, 12, 13, 6, 14, 15, 16, 17, 18, 19, 20, 21, 22, 23, 24, 25, 26, 27, 28, 29, 30, 31, 32, 33, 34, 35, 36, 37, 38, 39, 40, 41, 42, 43, 44, 45, 46, 47, 48, 49, 50, 51, 52, 53, 54, 55, 56, 57, 58, 59, 60, 61, 62, 63, 64, 65, 66] (by decide +kernel) (by decide +kernel)) (goodIn_sub (fun _ h => List.mem_cons_of_mem _ (List.mem_append_left _ (List.mem_append_right _ h))) (by decide +kernel))) (goodIn_sub (fun _ h => List.mem_cons_of_mem _ (List.mem_append_right _ h)) (by decide +kernel))
set_option maxRecDepth 20000 in
theorem gL_start_X5_start : GoodIn wsL_start (wsV RL 21 RX5 yX5_start wsX5_start) := goodIn_app (goodIn_of _ (by decide +kernel)) ggL_start_X5_start
theorem dL_start_0 : decode cL_start 0 = .ok (.aload_n 2, 1) := by decide +kernel
theorem dL_start_1 : decode cL_start 1 = .ok (.iconst 0, 1) := by decide +kernel
theorem dL_start_2 : decode cL_start 2 = .ok (.aload_n 0, 1) := by decide +kernel
theorem dL_start_3 : decode cL_start 3 = .ok (.iload_n 1, 1) := by decide +kernel
theorem dL_start_4 : decode cL_start 4 = .ok (.invokevirtual 21, 3) := by decide +kernel
theorem dL_start_7 : decode cL_start 7 = .ok (.i2l, 1) := by decide +kernel
theorem dL_start_8 : decode cL_start 8 = .ok (.lastore, 1) := by decide +kernel
theorem dL_start_9 : decode cL_start 9 = .ok (.goto 9, 3) := by decide +kernel
theorem dL_start_12 : decode cL_start 12 = .ok (.astore_n 3, 1) := by decide +kernel
theorem dL_start_13 : decode cL_start 13 = .ok (.iconst 1, 1) := by decide +kernel
theorem dL_start_14 : decode cL_start 14 = .ok (.ireturn, 1) := by decide +kernel
theorem dL_start_15 : decode cL_start 15 = .ok (.astore_n 3, 1) := by decide +kernel
theorem dL_start_16 : decode cL_start 16 = .ok (.iconst 2, 1) := by decide +kernel
theorem dL_start_17 : decode cL_start 17 = .ok (.ireturn, 1) := by decide +kernel
theorem dL_start_18 : decode cL_start 18 = .ok (.iconst 0, 1) := by decide +kernel
theorem dL_start_19 : decode cL_start 19 = .ok (.ireturn, 1) := by decide +kernel
set_option maxRecDepth 20000 in
theorem ggL_play_X5_play : GoodIn wsL_play wsX5_play := goodIn_ca (goodIn_ca (goodIn_r _ [7, 8, 9, 10, 6, 11, 12, 13, 14, 15, 16, 17, 18, 19, 20, 21, 22, 23, 24, 25, 26, 27, 28, 29, 30, 31, 32, 33, 34, 35, 36, 37, 38, 39, 40, 41, 42, 43, 44, 45, 46, 47, 48, 49, 50, 51, 52, 53, 54, 55, 56, 57, 58, 59, 60, 61, 62, 63, 64, 65, 66, 67, 68, 69, 70, 71, 72, 73, 74, 75, 76, 77, 78, 79, 80, 81, 82, 83, 84, 85, 86, 87, 88, 89, 90, 91, 92, 93, 94, 95, 96, 97, 98, 99, 100] (by decide +kernel) (by decide +kernel)) (goodIn_sub (fun _ h => List.mem_cons_of_mem _ (List.mem_append_left _ (List.mem_append_right _ h))) (by decide +kernel))) (goodIn_sub (fun _ h => List.mem_cons_of_mem _ (List.mem_append_right _ h)) (by decide +kernel))
set_option maxRecDepth 20000 in
theorem gL_play_X5_play : GoodIn wsL_play (wsV RL 24 RX5 yX5_play wsX5_play) := goodIn_app (goodIn_of _ (by decide +kernel)) ggL_play_X5_play
theorem dL_play_0 : decode cL_play 0 = .ok (.aload_n 2, 1) := by decide +kernel
theorem dL_play_1 : decode cL_play 1 = .ok (.iconst 0, 1) := by decide +kernel
theorem dL_play_2 : decode cL_play 2 = .ok (.aload_n 0, 1) := by decide +kernel
theorem dL_play_3 : decode cL_play 3 = .ok (.iload_n 1, 1) := by decide +kernel
theorem dL_play_4 : decode cL_play 4 = .ok (.invokevirtual 24, 3) := by decide +kernel
theorem dL_play_7 : decode cL_play 7 = .ok (.i2l, 1) := by decide +kernel
theorem dL_play_8 : decode cL_play 8 = .ok (.lastore, 1) := by decide +kernel
theorem dL_play_9 : decode cL_play 9 = .ok (.goto 9, 3) := by decide +kernel
theorem dL_play_12 : decode cL_play 12 = .ok (.astore_n 3, 1) := by decide +kernel
theorem dL_play_13 : decode cL_play 13 = .ok (.iconst 1, 1) := by decide +kernel
theorem dL_play_14 : decode cL_play 14 = .ok (.ireturn, 1) := by decide +kernel
theorem dL_play_15 : decode cL_play 15 = .ok (.astore_n 3, 1) := by decide +kernel
theorem dL_play_16 : decode cL_play 16 = .ok (.iconst 2, 1) := by decide +kernel
theorem dL_play_17 : decode cL_play 17 = .ok (.ireturn, 1) := by decide +kernel
theorem dL_play_18 : decode cL_play 18 = .ok (.iconst 0, 1) := by decide +kernel
theorem dL_play_19 : decode cL_play 19 = .ok (.ireturn, 1) := by decide +kernel
set_option maxRecDepth 20000 in
theorem ggL_takeBack_X5_takeBack : GoodIn wsL_takeBack wsX5_takeBack := goodIn_ca (goodIn_r _ [6, 7, 8, 9, 10, 11, 12, 13, 14, 15, 16, 17, 18, 19, 20, 21, 22, 23, 24, 25, 26, 27, 28, 29, 30, 31, 32, 33, 34, 35, 36, 37, 38, 39, 40, 41, 42, 43, 44, 45, 46, 47, 48, 49, 50, 51, 52, 53, 54, 55, 56, 57, 58, 59, 60, 61, 62, 63] (by decide +kernel) (by decide +kernel)) (goodIn_sub (fun _ h => List.mem_cons_of_mem _ (List.mem_append_right _ h)) (by decide +kernel))
set_option maxRecDepth 20000 in
theorem gL_takeBack_X5_takeBack : GoodIn wsL_takeBack (wsV RL 27 RX5 yX5_takeBack wsX5_takeBack) := goodIn_app (goodIn_of _ (by decide +kernel)) ggL_takeBack_X5_takeBack
theorem dL_takeBack_0 : decode cL_takeBack 0 = .ok (.aload_n 1, 1) := by decide +kernel
theorem dL_takeBack_1 : decode cL_takeBack 1 = .ok (.iconst 0, 1) := by decide +kernel
theorem dL_takeBack_2 : decode cL_takeBack 2 = .ok (.aload_n 0, 1) := by decide +kernel
theorem dL_takeBack_3 : decode cL_takeBack 3 = .ok (.invokevirtual 27, 3) := by decide +kernel
theorem dL_takeBack_6 : decode cL_takeBack 6 = .ok (.i2l, 1) := by decide +kernel
theorem dL_takeBack_7 : decode cL_takeBack 7 = .ok (.lastore, 1) := by decide +kernel
theorem dL_takeBack_8 : decode cL_takeBack 8 = .ok (.goto 6, 3) := by decide +kernel
theorem dL_takeBack_11 : decode cL_takeBack 11 = .ok (.astore_n 2, 1) := by decide +kernel
theorem dL_takeBack_12 : decode cL_takeBack 12 = .ok (.iconst 1, 1) := by decide +kernel
theorem dL_takeBack_13 : decode cL_takeBack 13 = .ok (.ireturn, 1) := by decide +kernel
theorem dL_takeBack_14 : decode cL_takeBack 14 = .ok (.iconst 0, 1) := by decide +kernel
theorem dL_takeBack_15 : decode cL_takeBack 15 = .ok (.ireturn, 1) := by decide +kernel
set_option maxRecDepth 20000 in
theorem ggL_canPlay_X5_canPlay : GoodIn wsL_canPlay wsX5_canPlay := goodIn_ca (goodIn_r _ [6, 7, 8, 9, 5, 10, 11, 12, 13, 14, 15, 16, 17, 18, 19, 20, 21, 22, 23, 24, 25, 26, 27, 28, 29, 30, 31, 32, 33, 34, 35, 36, 37, 38, 39, 40, 41, 42, 43, 44, 45, 46, 47, 48, 49, 50, 51, 52, 53, 54, 55, 56, 57, 58, 59, 60, 61, 62, 63, 64, 65, 66, 67, 68, 69, 70, 71, 72, 73, 74, 75, 76] (by decide +kernel) (by decide +kernel)) (goodIn_sub (fun _ h => List.mem_cons_of_mem _ (List.mem_append_right _ h)) (by decide +kernel))
set_option maxRecDepth 20000 in
theorem gL_canPlay_X5_canPlay : GoodIn wsL_canPlay (wsV RL 31 RX5 yX5_canPlay wsX5_canPlay) := goodIn_app (goodIn_of _ (by decide +kernel)) ggL_canPlay_X5_canPlay
theorem dL_canPlay_0 : decode cL_canPlay 0 = .ok (.aload_n 2, 1) := by decide +kernel
theorem dL_canPlay_1 : decode cL_canPlay 1 = .ok (.iconst 0, 1) := by decide +kernel
theorem dL_canPlay_2 : decode cL_canPlay 2 = .ok (.aload_n 0, 1) := by decide +kernel
theorem dL_canPlay_3 : decode cL_canPlay 3 = .ok (.iload_n 1, 1) := by decide +kernel
theorem dL_canPlay_4 : decode cL_canPlay 4 = .ok (.invokevirtual 31, 3) := by decide +kernel
theorem dL_canPlay_7 : decode cL_canPlay 7 = .ok (.ifCond .eq 7, 3) := by decide +kernel
theorem dL_canPlay_10 : decode cL_canPlay 10 = .ok (.lconst 1, 1) := by decide +kernel
theorem dL_canPlay_11 : decode cL_canPlay 11 = .ok (.goto 4, 3) := by decide +kernel
theorem dL_canPlay_14 : decode cL_canPlay 14 = .ok (.lconst 0, 1) := by decide +kernel
theorem dL_canPlay_15 : decode cL_canPlay 15 = .ok (.lastore, 1) := by decide +kernel
theorem dL_canPlay_16 : decode cL_canPlay 16 = .ok (.goto 6, 3) := by decide +kernel
theorem dL_canPlay_19 : decode cL_canPlay 19 = .ok (.astore_n 3, 1) := by decide +kernel
theorem dL_canPlay_20 : decode cL_canPlay 20 = .ok (.iconst 1, 1) := by decide +kernel
theorem dL_canPlay_21 : decode cL_canPlay 21 = .ok (.ireturn, 1) := by decide +kernel
theorem dL_canPlay_22 : decode cL_canPlay 22 = .ok (.iconst 0, 1) := by decide +kernel
theorem dL_canPlay_23 : decode cL_canPlay 23 = .ok (.ireturn, 1) := by decide +kernel
set_option maxRecDepth 20000 in
theorem ggL_hand_X5_hand : GoodIn wsL_hand wsX5_hand := goodIn_ca (goodIn_r _ [6, 7, 8, 9, 5, 10, 11, 12, 13, 14, 15, 16, 17, 18, 19, 20, 21, 22, 23, 24, 25, 26, 27, 28, 29] (by decide +kernel) (by decide +kernel)) (goodIn_sub (fun _ h => List.mem_cons_of_mem _ (List.mem_append_right _ h)) (by decide +kernel))
set_option maxRecDepth 20000 in
theorem gL_hand_X5_hand : GoodIn wsL_hand (wsV RL 35 RX5 yX5_hand wsX5_hand) := goodIn_app (goodIn_of _ (by decide +kernel)) ggL_hand_X5_hand
theorem dL_hand_0 : decode cL_hand 0 = .ok (.aload_n 2, 1) := by decide +kernel
theorem dL_hand_1 : decode cL_hand 1 = .ok (.iconst 0, 1) := by decide +kernel
theorem dL_hand_2 : decode cL_hand 2 = .ok (.aload_n 0, 1) := by decide +kernel
theorem dL_hand_3 : decode cL_hand 3 = .ok (.iload_n 1, 1) := by decide +kernel
theorem dL_hand_4 : decode cL_hand 4 = .ok (.invokevirtual 35, 3) := by decide +kernel
theorem dL_hand_7 : decode cL_hand 7 = .ok (.i2l, 1) := by decide +kernel
theorem dL_hand_8 : decode cL_hand 8 = .ok (.lastore, 1) := by decide +kernel
theorem dL_hand_9 : decode cL_hand 9 = .ok (.goto 6, 3) := by decide +kernel
theorem dL_hand_12 : decode cL_hand 12 = .ok (.astore_n 3, 1) := by decide +kernel
theorem dL_hand_13 : decode cL_hand 13 = .ok (.iconst 1, 1) := by decide +kernel
theorem dL_hand_14 : decode cL_hand 14 = .ok (.ireturn, 1) := by decide +kernel
theorem dL_hand_15 : decode cL_hand 15 = .ok (.iconst 0, 1) := by decide +kernel
theorem dL_hand_16 : decode cL_hand 16 = .ok (.ireturn, 1) := by decide +kernel
set_option maxRecDepth 20000 in
theorem ggL_cardIn_X5_cardIn : GoodIn wsL_cardIn wsX5_cardIn := goodIn_ca (goodIn_r _ [6, 7, 8, 9, 10, 11, 12, 13, 14, 15, 16, 17, 18, 19, 20, 21, 22, 23, 24, 25, 26, 27, 28, 29, 30, 31, 32, 33, 34, 35, 36] (by decide +kernel) (by decide +kernel)) (goodIn_sub (fun _ h => List.mem_cons_of_mem _ (List.mem_append_right _ h)) (by decide +kernel))
set_option maxRecDepth 20000 in
theorem gL_cardIn_X5_cardIn : GoodIn wsL_cardIn (wsV RL 38 RX5 yX5_cardIn wsX5_cardIn) := goodIn_app (goodIn_of _ (by decide +kernel)) ggL_cardIn_X5_cardIn
theorem dL_cardIn_0 : decode cL_cardIn 0 = .ok (.aload_n 2, 1) := by decide +kernel
theorem dL_cardIn_1 : decode cL_cardIn 1 = .ok (.iconst 0, 1) := by decide +kernel
theorem dL_cardIn_2 : decode cL_cardIn 2 = .ok (.aload_n 0, 1) := by decide +kernel
theorem dL_cardIn_3 : decode cL_cardIn 3 = .ok (.iload_n 1, 1) := by decide +kernel
theorem dL_cardIn_4 : decode cL_cardIn 4 = .ok (.invokevirtual 38, 3) := by decide +kernel
theorem dL_cardIn_7 : decode cL_cardIn 7 = .ok (.i2l, 1) := by decide +kernel
theorem dL_cardIn_8 : decode cL_cardIn 8 = .ok (.lastore, 1) := by decide +kernel
theorem dL_cardIn_9 : decode cL_cardIn 9 = .ok (.goto 6, 3) := by decide +kernel
theorem dL_cardIn_12 : decode cL_cardIn 12 = .ok (.astore_n 3, 1) := by decide +kernel
theorem dL_cardIn_13 : decode cL_cardIn 13 = .ok (.iconst 1, 1) := by decide +kernel
theorem dL_cardIn_14 : decode cL_cardIn 14 = .ok (.ireturn, 1) := by decide +kernel
theorem dL_cardIn_15 : decode cL_cardIn 15 = .ok (.iconst 0, 1) := by decide +kernel
theorem dL_cardIn_16 : decode cL_cardIn 16 = .ok (.ireturn, 1) := by decide +kernel
set_option maxRecDepth 20000 in
theorem ggL_won_X5_won : GoodIn wsL_won wsX5_won := goodIn_ca (goodIn_r _ [6, 7, 8, 9, 10, 11, 12, 13, 14, 15, 16, 17, 18, 19, 20, 21, 22, 23, 24, 25, 26, 27, 28, 29, 30, 31, 32, 33, 34, 35, 36, 37, 38, 39] (by decide +kernel) (by decide +kernel)) (goodIn_sub (fun _ h => List.mem_cons_of_mem _ (List.mem_append_right _ h)) (by decide +kernel))
set_option maxRecDepth 20000 in
theorem gL_won_X5_won : GoodIn wsL_won (wsV RL 43 RX5 yX5_won wsX5_won) := goodIn_app (goodIn_of _ (by decide +kernel)) ggL_won_X5_won
theorem dL_won_0 : decode cL_won 0 = .ok (.aload_n 2, 1) := by decide +kernel
theorem dL_won_1 : decode cL_won 1 = .ok (.iconst 0, 1) := by decide +kernel
theorem dL_won_2 : decode cL_won 2 = .ok (.aload_n 0, 1) := by decide +kernel
theorem dL_won_3 : decode cL_won 3 = .ok (.iload_n 1, 1) := by decide +kernel
theorem dL_won_4 : decode cL_won 4 = .ok (.invokevirtual 43, 3) := by decide +kernel
theorem dL_won_7 : decode cL_won 7 = .ok (.i2l, 1) := by decide +kernel
theorem dL_won_8 : decode cL_won 8 = .ok (.lastore, 1) := by decide +kernel
theorem dL_won_9 : decode cL_won 9 = .ok (.goto 6, 3) := by decide +kernel
theorem dL_won_12 : decode cL_won 12 = .ok (.astore_n 3, 1) := by decide +kernel
theorem dL_won_13 : decode cL_won 13 = .ok (.iconst 1, 1) := by decide +kernel
theorem dL_won_14 : decode cL_won 14 = .ok (.ireturn, 1) := by decide +kernel
theorem dL_won_15 : decode cL_won 15 = .ok (.iconst 0, 1) := by decide +kernel
theorem dL_won_16 : decode cL_won 16 = .ok (.ireturn, 1) := by decide +kernel
set_option maxRecDepth 20000 in
theorem ggL_solve_X5_solve : GoodIn wsL_solve wsX5_solve := goodIn_ca (goodIn_r _ [6, 7, 8, 9, 10, 5, 11, 12, 13, 14, 15, 16, 17, 18, 19, 20, 21, 22, 23, 24, 25, 26, 27, 28, 29, 30, 31, 32, 33, 34, 35, 36, 37, 38, 39, 40, 41, 42, 43, 44, 45, 46, 47, 48, 49, 50, 51, 52, 53, 54, 55, 56, 57, 58, 59, 60, 61, 62, 63, 64, 65, 66, 67, 68, 69, 70, 71, 72, 73, 74, 75, 76, 77, 78, 79, 80, 81, 82, 83, 84, 85, 86, 87, 88, 89, 90, 91, 92, 93, 94, 95, 96, 97, 98, 99, 100, 101, 102, 103, 104, 105, 106, 107, 108, 109, 110, 111, 112, 113, 114, 115, 116, 117, 118, 119, 120, 121, 122, 123, 124, 125, 126, 127, 128, 129, 130, 131, 132, 133, 134, 135, 136, 137, 138, 139, 140, 141, 142, 143, 144, 145, 146, 147, 148, 149, 150, 151, 152, 153, 154, 155, 156, 157, 158, 159, 160, 161, 162, 163, 164, 165, 166, 167, 168, 169, 170, 171, 172, 173, 174, 175, 176, 177, 178, 179, 180, 181, 182, 183, 184, 185, 186, 187, 188, 189, 190, 191, 192, 193, 194, 195, 196, 197, 198, 199, 200, 201, 202, 203, 204, 205] (by decide +kernel) (by decide +kernel)) (goodIn_sub (fun _ h => List.mem_cons_of_mem _ (List.mem_append_right _ h)) (by decide +kernel))
set_option maxRecDepth 20000 in
theorem gL_solve_X5_solve : GoodIn wsL_solve (wsV RL 46 RX5 yX5_solve wsX5_solve) := goodIn_app (goodIn_of _ (by decide +kernel)) ggL_solve_X5_solve
theorem dL_solve_0 : decode cL_solve 0 = .ok (.aload_n 1, 1) := by decide +kernel
theorem dL_solve_1 : decode cL_solve 1 = .ok (.iconst 0, 1) := by decide +kernel
theorem dL_solve_2 : decode cL_solve 2 = .ok (.aload_n 0, 1) := by decide +kernel
theorem dL_solve_3 : decode cL_solve 3 = .ok (.invokevirtual 46, 3) := by decide +kernel
theorem dL_solve_6 : decode cL_solve 6 = .ok (.i2l, 1) := by decide +kernel
theorem dL_solve_7 : decode cL_solve 7 = .ok (.lastore, 1) := by decide +kernel
theorem dL_solve_8 : decode cL_solve 8 = .ok (.goto 6, 3) := by decide +kernel
theorem dL_solve_11 : decode cL_solve 11 = .ok (.astore_n 2, 1) := by decide +kernel
theorem dL_solve_12 : decode cL_solve 12 = .ok (.iconst 1, 1) := by decide +kernel
theorem dL_solve_13 : decode cL_solve 13 = .ok (.ireturn, 1) := by decide +kernel
theorem dL_solve_14 : decode cL_solve 14 = .ok (.iconst 0, 1) := by decide +kernel
theorem dL_solve_15 : decode cL_solve 15 = .ok (.ireturn, 1) := by decide +kernel
set_option maxRecDepth 20000 in
theorem ggL_solveByAll_X5_solveByAll : GoodIn wsL_solveByAll wsX5_solveByAll := goodIn_ca (goodIn_r _ [6, 7, 8, 9, 10, 11, 12, 5, 13, 14, 15, 16, 17, 18, 19, 20, 21, 22, 23, 24, 25, 26, 27, 28, 29, 30, 31, 32, 33, 34, 35, 36, 37, 38, 39, 40, 41, 42, 43, 44, 45, 46, 47, 48, 49, 50, 51, 52, 53, 54, 55, 56, 57, 58, 59, 60, 61, 62, 63, 64, 65, 66, 67, 68, 69, 70, 71, 72, 73, 74, 75, 76, 77, 78, 79, 80, 81, 82, 83, 84, 85, 86, 87, 88, 89, 90, 91, 92, 93, 94, 95, 96, 97, 98, 99, 100, 101, 102, 103, 104, 105, 106, 107, 108, 109, 110, 111, 112, 113, 114, 115, 116, 117, 118, 119, 120, 121, 122, 123, 124, 125, 126, 127, 128, 129, 130] (by decide +kernel) (by decide +kernel)) (goodIn_sub (fun _ h => List.mem_cons_of_mem _ (List.mem_append_right _ h)) (by decide +kernel))
set_option maxRecDepth 20000 in
theorem gL_solveByAll_X5_solveByAll : GoodIn wsL_solveByAll (wsV RL 49 RX5 yX5_solveByAll wsX5_solveByAll) := goodIn_app (goodIn_of _ (by decide +kernel)) ggL_solveByAll_X5_solveByAll
theorem dL_solveByAll_0 : decode cL_solveByAll 0 = .ok (.aload_n 1, 1) := by decide +kernel
theorem dL_solveByAll_1 : decode cL_solveByAll 1 = .ok (.iconst 0, 1) := by decide +kernel
theorem dL_solveByAll_2 : decode cL_solveByAll 2 = .ok (.aload_n 0, 1) := by decide +kernel
theorem dL_solveByAll_3 : decode cL_solveByAll 3 = .ok (.invokevirtual 49, 3) := by decide +kernel
theorem dL_solveByAll_6 : decode cL_solveByAll 6 = .ok (.i2l, 1) := by decide +kernel
theorem dL_solveByAll_7 : decode cL_solveByAll 7 = .ok (.lastore, 1) := by decide +kernel
theorem dL_solveByAll_8 : decode cL_solveByAll 8 = .ok (.goto 6, 3) := by decide +kernel
theorem dL_solveByAll_11 : decode cL_solveByAll 11 = .ok (.astore_n 2, 1) := by decide +kernel
theorem dL_solveByAll_12 : decode cL_solveByAll 12 = .ok (.iconst 1, 1) := by decide +kernel
theorem dL_solveByAll_13 : decode cL_solveByAll 13 = .ok (.ireturn, 1) := by decide +kernel
theorem dL_solveByAll_14 : decode cL_solveByAll 14 = .ok (.iconst 0, 1) := by decide +kernel
theorem dL_solveByAll_15 : decode cL_solveByAll 15 = .ok (.ireturn, 1) := by decide +kernel
set_option maxRecDepth 20000 in
theorem ggL_value_X5_value : GoodIn wsL_value wsX5_value := goodIn_ca (goodIn_ca (goodIn_r _ [7, 8, 9, 10, 6, 11, 12, 13, 14, 15, 16, 17, 18, 19, 20, 21, 22, 23, 24, 25, 26, 27, 28, 29, 30, 31, 32, 33, 34, 35, 36, 37, 38, 39, 40, 41, 42, 43, 44, 45, 46, 47, 48, 49, 50, 51, 52, 53, 54, 55, 56, 57, 58, 59, 60, 61, 62, 63, 64, 65, 66, 67, 68, 69, 70, 71, 72, 73, 74, 75, 76, 77, 78, 79, 80, 81, 82, 83, 84, 85, 86, 87, 88, 89, 90, 91, 92, 93, 94, 95, 96, 97, 98, 99, 100, 101, 102, 103, 104, 105, 106, 107, 108, 109, 110, 111, 112, 113, 114, 115, 116, 117, 118, 119, 120, 121, 122, 123, 124, 125, 126, 127, 128, 129, 130, 131, 132, 133, 134, 135, 136, 137, 138, 139, 140, 141, 142, 143, 144, 145, 146, 147, 148, 149, 150, 151, 152, 153, 154, 155, 156, 157, 158, 159, 160, 161, 162, 163, 164, 165, 166, 167, 168, 169, 170, 171, 172, 173, 174, 175, 176, 177, 178, 179, 180, 181, 182, 183, 184, 185, 186, 187, 188, 189, 190, 191, 192, 193, 194, 195, 196, 197, 198, 199, 200, 201, 202, 203, 204, 205, 206, 207, 208, 209] (by decide +kernel) (by decide +kernel)) (goodIn_sub (fun _ h => List.mem_cons_of_mem _ (List.mem_append_left _ (List.mem_append_right _ h))) (by decide +kernel))) (goodIn_sub (fun _ h => List.mem_cons_of_mem _ (List.mem_append_right _ h)) (by decide +kernel))
set_option maxRecDepth 20000 in
theorem gL_value_X5_value : GoodIn wsL_value (wsV RL 52 RX5 yX5_value wsX5_value) := goodIn_app (goodIn_of _ (by decide +kernel)) ggL_value_X5_value
theorem dL_value_0 : decode cL_value 0 = .ok (.aload_n 2, 1) := by decide +kernel
theorem dL_value_1 : decode cL_value 1 = .ok (.iconst 0, 1) := by decide +kernel
theorem dL_value_2 : decode cL_value 2 = .ok (.aload_n 0, 1) := by decide +kernel
theorem dL_value_3 : decode cL_value 3 = .ok (.iload_n 1, 1) := by decide +kernel
theorem dL_value_4 : decode cL_value 4 = .ok (.invokevirtual 52, 3) := by decide +kernel
theorem dL_value_7 : decode cL_value 7 = .ok (.i2l, 1) := by decide +kernel
theorem dL_value_8 : decode cL_value 8 = .ok (.lastore, 1) := by decide +kernel
theorem dL_value_9 : decode cL_value 9 = .ok (.goto 9, 3) := by decide +kernel
theorem dL_value_12 : decode cL_value 12 = .ok (.astore_n 3, 1) := by decide +kernel
theorem dL_value_13 : decode cL_value 13 = .ok (.iconst 1, 1) := by decide +kernel
theorem dL_value_14 : decode cL_value 14 = .ok (.ireturn, 1) := by decide +kernel
theorem dL_value_15 : decode cL_value 15 = .ok (.astore_n 3, 1) := by decide +kernel
theorem dL_value_16 : decode cL_value 16 = .ok (.iconst 2, 1) := by decide +kernel
theorem dL_value_17 : decode cL_value 17 = .ok (.ireturn, 1) := by decide +kernel
theorem dL_value_18 : decode cL_value 18 = .ok (.iconst 0, 1) := by decide +kernel
theorem dL_value_19 : decode cL_value 19 = .ok (.ireturn, 1) := by decide +kernel
set_option maxRecDepth 20000 in
theorem ggL_bestCard_X5_bestCard : GoodIn wsL_bestCard wsX5_bestCard := goodIn_ca (goodIn_r _ [6, 7, 8, 9, 10, 11, 12, 13, 14, 15, 16, 17, 18, 19, 20, 21, 22, 23, 24, 25, 26, 27, 28, 29, 30, 31, 32, 33, 34, 35, 36, 37, 38, 39, 40, 41, 42, 43, 44, 45, 46, 47, 48, 49, 50, 51, 52, 53, 54, 55, 56, 57, 58, 59, 60, 61, 62, 63, 64, 65, 66, 67, 68, 69, 70, 71, 72, 73, 74, 75, 76, 77, 78, 79, 80, 81, 82, 83, 84, 85, 86, 87, 88, 89, 90, 91, 92, 93, 94, 95, 96, 97, 98, 99, 100, 101, 102, 103, 104, 105, 106, 107, 108, 109, 110, 111, 112, 113, 114, 115, 116, 117, 118, 119, 120, 121, 122, 123, 124, 125, 126, 127, 128, 129, 130, 131, 132, 133, 134, 135, 136, 137, 138, 139, 140, 141, 142, 143, 144, 145, 146, 147, 148, 149, 150, 151, 152, 153, 154, 155, 156, 157, 158, 159, 160, 161, 162, 163, 164, 165, 166, 167, 168, 169, 170, 171, 172, 173, 174, 175, 176, 177, 178, 179, 180, 181, 182, 183, 184, 185, 186, 187, 188, 189, 190, 191, 192, 193, 194, 195, 196, 197, 198, 199, 200, 201, 202, 203] (by decide +kernel) (by decide +kernel)) (goodIn_sub (fun _ h => List.mem_cons_of_mem _ (List.mem_append_right _ h)) (by decide +kernel))
set_option maxRecDepth 20000 in
theorem gL_bestCard_X5_bestCard : GoodIn wsL_bestCard (wsV RL 55 RX5 yX5_bestCard wsX5_bestCard) := goodIn_app (goodIn_of _ (by decide +kernel)) ggL_bestCard_X5_bestCard
theorem dL_bestCard_0 : decode cL_bestCard 0 = .ok (.aload_n 1, 1) := by decide +kernel
theorem dL_bestCard_1 : decode cL_bestCard 1 = .ok (.iconst 0, 1) := by decide +kernel
theorem dL_bestCard_2 : decode cL_bestCard 2 = .ok (.aload_n 0, 1) := by decide +kernel
theorem dL_bestCard_3 : decode cL_bestCard 3 = .ok (.invokevirtual 55, 3) := by decide +kernel
theorem dL_bestCard_6 : decode cL_bestCard 6 = .ok (.i2l, 1) := by decide +kernel
theorem dL_bestCard_7 : decode cL_bestCard 7 = .ok (.lastore, 1) := by decide +kernel
theorem dL_bestCard_8 : decode cL_bestCard 8 = .ok (.goto 6, 3) := by decide +kernel
theorem dL_bestCard_11 : decode cL_bestCard 11 = .ok (.astore_n 2, 1) := by decide +kernel
theorem dL_bestCard_12 : decode cL_bestCard 12 = .ok (.iconst 1, 1) := by decide +kernel
theorem dL_bestCard_13 : decode cL_bestCard 13 = .ok (.ireturn, 1) := by decide +kernel
theorem dL_bestCard_14 : decode cL_bestCard 14 = .ok (.iconst 0, 1) := by decide +kernel
theorem dL_bestCard_15 : decode cL_bestCard 15 = .ok (.ireturn, 1) := by decide +kernel
set_option maxRecDepth 20000 in
theorem ggL_lowestEqual_X5_lowestEqual : GoodIn wsL_lowestEqual wsX5_lowestEqual := goodIn_ca (goodIn_ca (goodIn_r _ [7, 8, 9, 10, 6, 11, 12, 13, 14, 15, 16, 17, 18, 19, 20, 21, 22, 23, 24, 25, 26, 27, 28, 29, 30, 31, 32, 33, 34, 35, 36, 37, 38, 39, 40, 41, 42, 43, 44, 45, 46, 47, 48, 49, 50, 51, 52, 53, 54, 55, 56, 57, 58, 59, 60, 61, 62, 63, 64, 65, 66, 67, 68, 69, 70, 71, 72, 73, 74, 75, 76, 77, 78, 79, 80, 81, 82, 83] (by decide +kernel) (by decide +kernel)) (goodIn_sub (fun _ h => List.mem_cons_of_mem _ (List.mem_append_left _ (List.mem_append_right _ h))) (by decide +kernel))) (goodIn_sub (fun _ h => List.mem_cons_of_mem _ (List.mem_append_right _ h)) (by decide +kernel))
set_option maxRecDepth 20000 in
theorem gL_lowestEqual_X5_lowestEqual : GoodIn wsL_lowestEqual (wsV RL 58 RX5 yX5_lowestEqual wsX5_lowestEqual) := goodIn_app (goodIn_of _ (by decide +kernel)) ggL_lowestEqual_X5_lowestEqual
theorem dL_lowestEqual_0 : decode cL_lowestEqual 0 = .ok (.aload_n 2, 1) := by decide +kernel
theorem dL_lowestEqual_1 : decode cL_lowestEqual 1 = .ok (.iconst 0, 1) := by decide +kernel
theorem dL_lowestEqual_2 : decode cL_lowestEqual 2 = .ok (.aload_n 0, 1) := by decide +kernel
theorem dL_lowestEqual_3 : decode cL_lowestEqual 3 = .ok (.iload_n 1, 1) := by decide +kernel
theorem dL_lowestEqual_4 : decode cL_lowestEqual 4 = .ok (.invokevirtual 58, 3) := by decide +kernel
theorem dL_lowestEqual_7 : decode cL_lowestEqual 7 = .ok (.i2l, 1) := by decide +kernel
theorem dL_lowestEqual_8 : decode cL_lowestEqual 8 = .ok (.lastore, 1) := by decide +kernel
theorem dL_lowestEqual_9 : decode cL_lowestEqual 9 = .ok (.goto 9, 3) := by decide +kernel
theorem dL_lowestEqual_12 : decode cL_lowestEqual 12 = .ok (.astore_n 3, 1) := by decide +kernel
theorem dL_lowestEqual_13 : decode cL_lowestEqual 13 = .ok (.iconst 1, 1) := by decide +kernel
theorem dL_lowestEqual_14 : decode cL_lowestEqual 14 = .ok (.ireturn, 1) := by decide +kernel
theorem dL_lowestEqual_15 : decode cL_lowestEqual 15 = .ok (.astore_n 3, 1) := by decide +kernel
theorem dL_lowestEqual_16 : decode cL_lowestEqual 16 = .ok (.iconst 2, 1) := by decide +kernel
theorem dL_lowestEqual_17 : decode cL_lowestEqual 17 = .ok (.ireturn, 1) := by decide +kernel
theorem dL_lowestEqual_18 : decode cL_lowestEqual 18 = .ok (.iconst 0, 1) := by decide +kernel
theorem dL_lowestEqual_19 : decode cL_lowestEqual 19 = .ok (.ireturn, 1) := by decide +kernel
set_option maxRecDepth 20000 in
theorem ggL_unlike_X5_unlike : GoodIn wsL_unlike wsX5_unlike := goodIn_ca (goodIn_r _ [6, 7, 8, 9, 5, 10, 11, 12, 13, 14, 15, 16, 17, 18, 19, 20, 21, 22, 23, 24, 25, 26, 27, 28, 29, 30, 31, 32, 33, 34, 35, 36, 37, 38, 39, 40, 41, 42, 43, 44, 45, 46, 47, 48, 49, 50, 51, 52, 53, 54, 55, 56, 57, 58, 59, 60, 61, 62, 63, 64, 65, 66, 67, 68, 69, 70, 71, 72, 73, 74, 75, 76, 77, 78, 79] (by decide +kernel) (by decide +kernel)) (goodIn_sub (fun _ h => List.mem_cons_of_mem _ (List.mem_append_right _ h)) (by decide +kernel))
set_option maxRecDepth 20000 in
theorem gL_unlike_X5_unlike : GoodIn wsL_unlike (wsV RL 61 RX5 yX5_unlike wsX5_unlike) := goodIn_app (goodIn_of _ (by decide +kernel)) ggL_unlike_X5_unlike
theorem dL_unlike_0 : decode cL_unlike 0 = .ok (.aload_n 2, 1) := by decide +kernel
theorem dL_unlike_1 : decode cL_unlike 1 = .ok (.iconst 0, 1) := by decide +kernel
theorem dL_unlike_2 : decode cL_unlike 2 = .ok (.aload_n 0, 1) := by decide +kernel
theorem dL_unlike_3 : decode cL_unlike 3 = .ok (.iload_n 1, 1) := by decide +kernel
theorem dL_unlike_4 : decode cL_unlike 4 = .ok (.invokevirtual 61, 3) := by decide +kernel
theorem dL_unlike_7 : decode cL_unlike 7 = .ok (.i2l, 1) := by decide +kernel
theorem dL_unlike_8 : decode cL_unlike 8 = .ok (.lastore, 1) := by decide +kernel
theorem dL_unlike_9 : decode cL_unlike 9 = .ok (.goto 6, 3) := by decide +kernel
theorem dL_unlike_12 : decode cL_unlike 12 = .ok (.astore_n 3, 1) := by decide +kernel
theorem dL_unlike_13 : decode cL_unlike 13 = .ok (.iconst 1, 1) := by decide +kernel
theorem dL_unlike_14 : decode cL_unlike 14 = .ok (.ireturn, 1) := by decide +kernel
theorem dL_unlike_15 : decode cL_unlike 15 = .ok (.iconst 0, 1) := by decide +kernel
theorem dL_unlike_16 : decode cL_unlike 16 = .ok (.ireturn, 1) := by decide +kernel
set_option maxRecDepth 20000 in
theorem ggL_isTop_X5_isTop : GoodIn wsL_isTop wsX5_isTop := goodIn_ca (goodIn_ca (goodIn_r _ [7, 8, 9, 10, 11, 6, 12, 13, 14, 15, 16, 17, 18, 19, 20, 21, 22, 23, 24, 25, 26, 27, 28, 29, 30, 31, 32, 33, 34, 35, 36, 37, 38, 39, 40, 41, 42, 43, 44, 45, 46, 47, 48, 49, 50, 51, 52, 53, 54, 55, 56, 57, 58, 59, 60, 61, 62, 63, 64, 65, 66, 67, 68, 69, 70, 71, 72, 73, 74, 75, 76, 77, 78, 79, 80, 81, 82, 83, 84] (by decide +kernel) (by decide +kernel)) (goodIn_sub (fun _ h => List.mem_cons_of_mem _ (List.mem_append_left _ (List.mem_append_right _ h))) (by decide +kernel))) (goodIn_sub (fun _ h => List.mem_cons_of_mem _ (List.mem_append_right _ h)) (by decide +kernel))
set_option maxRecDepth 20000 in
theorem gL_isTop_X5_isTop : GoodIn wsL_isTop (wsV RL 64 RX5 yX5_isTop wsX5_isTop) := goodIn_app (goodIn_of _ (by decide +kernel)) ggL_isTop_X5_isTop
theorem dL_isTop_0 : decode cL_isTop 0 = .ok (.aload_n 2, 1) := by decide +kernel
theorem dL_isTop_1 : decode cL_isTop 1 = .ok (.iconst 0, 1) := by decide +kernel
theorem dL_isTop_2 : decode cL_isTop 2 = .ok (.aload_n 0, 1) := by decide +kernel
theorem dL_isTop_3 : decode cL_isTop 3 = .ok (.iload_n 1, 1) := by decide +kernel
theorem dL_isTop_4 : decode cL_isTop 4 = .ok (.invokevirtual 64, 3) := by decide +kernel
theorem dL_isTop_7 : decode cL_isTop 7 = .ok (.ifCond .eq 7, 3) := by decide +kernel
theorem dL_isTop_10 : decode cL_isTop 10 = .ok (.lconst 1, 1) := by decide +kernel
theorem dL_isTop_11 : decode cL_isTop 11 = .ok (.goto 4, 3) := by decide +kernel
theorem dL_isTop_14 : decode cL_isTop 14 = .ok (.lconst 0, 1) := by decide +kernel
theorem dL_isTop_15 : decode cL_isTop 15 = .ok (.lastore, 1) := by decide +kernel
theorem dL_isTop_16 : decode cL_isTop 16 = .ok (.goto 9, 3) := by decide +kernel
theorem dL_isTop_19 : decode cL_isTop 19 = .ok (.astore_n 3, 1) := by decide +kernel
theorem dL_isTop_20 : decode cL_isTop 20 = .ok (.iconst 1, 1) := by decide +kernel
theorem dL_isTop_21 : decode cL_isTop 21 = .ok (.ireturn, 1) := by decide +kernel
theorem dL_isTop_22 : decode cL_isTop 22 = .ok (.astore_n 3, 1) := by decide +kernel
theorem dL_isTop_23 : decode cL_isTop 23 = .ok (.iconst 2, 1) := by decide +kernel
theorem dL_isTop_24 : decode cL_isTop 24 = .ok (.ireturn, 1) := by decide +kernel
theorem dL_isTop_25 : decode cL_isTop 25 = .ok (.iconst 0, 1) := by decide +kernel
theorem dL_isTop_26 : decode cL_isTop 26 = .ok (.ireturn, 1) := by decide +kernel
set_option maxRecDepth 20000 in
theorem ggL_quick_X5_quick : GoodIn wsL_quick wsX5_quick := goodIn_ca (goodIn_r _ [6, 7, 8, 9, 5, 10, 11, 12, 13, 14, 15, 16, 17, 18, 19, 20, 21, 22, 23, 24, 25, 26, 27, 28, 29, 30, 31, 32, 33, 34, 35, 36, 37, 38, 39, 40, 41, 42, 43, 44, 45, 46, 47, 48, 49, 50, 51, 52, 53, 54, 55, 56, 57, 58, 59, 60, 61, 62, 63, 64, 65, 66, 67, 68, 69, 70, 71, 72, 73, 74, 75, 76] (by decide +kernel) (by decide +kernel)) (goodIn_sub (fun _ h => List.mem_cons_of_mem _ (List.mem_append_right _ h)) (by decide +kernel))
set_option maxRecDepth 20000 in
theorem gL_quick_X5_quick : GoodIn wsL_quick (wsV RL 67 RX5 yX5_quick wsX5_quick) := goodIn_app (goodIn_of _ (by decide +kernel)) ggL_quick_X5_quick
theorem dL_quick_0 : decode cL_quick 0 = .ok (.aload_n 2, 1) := by decide +kernel
theorem dL_quick_1 : decode cL_quick 1 = .ok (.iconst 0, 1) := by decide +kernel
theorem dL_quick_2 : decode cL_quick 2 = .ok (.aload_n 0, 1) := by decide +kernel
theorem dL_quick_3 : decode cL_quick 3 = .ok (.iload_n 1, 1) := by decide +kernel
theorem dL_quick_4 : decode cL_quick 4 = .ok (.invokevirtual 67, 3) := by decide +kernel
theorem dL_quick_7 : decode cL_quick 7 = .ok (.i2l, 1) := by decide +kernel
theorem dL_quick_8 : decode cL_quick 8 = .ok (.lastore, 1) := by decide +kernel
theorem dL_quick_9 : decode cL_quick 9 = .ok (.goto 6, 3) := by decide +kernel
theorem dL_quick_12 : decode cL_quick 12 = .ok (.astore_n 3, 1) := by decide +kernel
theorem dL_quick_13 : decode cL_quick 13 = .ok (.iconst 1, 1) := by decide +kernel
theorem dL_quick_14 : decode cL_quick 14 = .ok (.ireturn, 1) := by decide +kernel
theorem dL_quick_15 : decode cL_quick 15 = .ok (.iconst 0, 1) := by decide +kernel
theorem dL_quick_16 : decode cL_quick 16 = .ok (.ireturn, 1) := by decide +kernel
set_option maxRecDepth 20000 in
theorem ggL_fork_X5_fork : GoodIn wsL_fork wsX5_fork := goodIn_ca (goodIn_r _ [6, 7, 8, 9, 10, 11, 5, 12, 13, 14, 15, 16, 17, 18, 19, 20, 21, 22, 23, 24, 25, 26, 27, 28, 29, 30, 31, 32, 33, 34, 35, 36, 37, 38, 39, 40, 41, 42, 43, 44, 45, 46, 47, 48, 49, 50, 51, 52, 53, 54, 55, 56, 57, 58, 59, 60, 61, 62, 63, 64] (by decide +kernel) (by decide +kernel)) (goodIn_sub (fun _ h => List.mem_cons_of_mem _ (List.mem_append_right _ h)) (by decide +kernel))
set_option maxRecDepth 20000 in
theorem gL_fork_X5_fork : GoodIn wsL_fork (wsV RL 70 RX5 yX5_fork wsX5_fork) := goodIn_app (goodIn_of _ (by decide +kernel)) ggL_fork_X5_fork
theorem dL_fork_0 : decode cL_fork 0 = .ok (.aload_n 3, 1) := by decide +kernel
theorem dL_fork_1 : decode cL_fork 1 = .ok (.iconst 0, 1) := by decide +kernel
theorem dL_fork_2 : decode cL_fork 2 = .ok (.aload_n 0, 1) := by decide +kernel
theorem dL_fork_3 : decode cL_fork 3 = .ok (.iload_n 1, 1) := by decide +kernel
theorem dL_fork_4 : decode cL_fork 4 = .ok (.iload_n 2, 1) := by decide +kernel
theorem dL_fork_5 : decode cL_fork 5 = .ok (.invokevirtual 70, 3) := by decide +kernel
theorem dL_fork_8 : decode cL_fork 8 = .ok (.i2l, 1) := by decide +kernel
theorem dL_fork_9 : decode cL_fork 9 = .ok (.lastore, 1) := by decide +kernel
theorem dL_fork_10 : decode cL_fork 10 = .ok (.goto 7, 3) := by decide +kernel
theorem dL_fork_13 : decode cL_fork 13 = .ok (.astore 4, 2) := by decide +kernel
theorem dL_fork_15 : decode cL_fork 15 = .ok (.iconst 1, 1) := by decide +kernel
theorem dL_fork_16 : decode cL_fork 16 = .ok (.ireturn, 1) := by decide +kernel
theorem dL_fork_17 : decode cL_fork 17 = .ok (.iconst 0, 1) := by decide +kernel
theorem dL_fork_18 : decode cL_fork 18 = .ok (.ireturn, 1) := by decide +kernel
set_option maxRecDepth 20000 in
theorem ggL_law_X5_init : GoodIn wsL_law wsX5_init := goodIn_r _ [9, 10, 11, 12, 13, 14, 15, 16, 17, 18, 19, 20, 21, 22, 23, 24, 25, 26, 27, 28, 29, 30, 31, 32, 33, 34, 35, 36, 37, 38, 39, 40, 41, 42, 43, 44, 45, 46, 47, 48, 49, 50, 51, 52, 734, 735, 736, 737, 738, 739, 740, 741, 715, 716, 717, 742, 743, 744, 745] (by decide +kernel) (by decide +kernel)
set_option maxRecDepth 20000 in
theorem gL_law_X5_init : GoodIn wsL_law (wsX5_init) := ggL_law_X5_init
set_option maxRecDepth 20000 in
theorem ggL_law_X6_init : GoodIn wsL_law wsX6_init := goodIn_r _ [55, 56, 11, 12, 29, 57, 58, 59, 60, 61, 62, 63, 64, 65, 66, 718, 719, 720, 721, 722, 723, 724, 725, 726, 727, 728, 729, 730, 731, 732, 733] (by decide +kernel) (by decide +kernel)
set_option maxRecDepth 20000 in
theorem gL_law_X6_init : GoodIn wsL_law (wsX6_init) := ggL_law_X6_init
set_option maxRecDepth 20000 in
theorem ggL_law_L_begin : GoodIn wsL_law wsL_begin := goodIn_ca (goodIn_r _ [70, 71, 72, 73, 74, 2, 75, 76, 77, 16, 78, 79, 80, 15, 81, 33, 30, 82, 83, 84, 85, 715, 716, 717, 734, 735, 736, 737, 738, 739, 740, 741] (by decide +kernel) (by decide +kernel)) (goodIn_sub (fun _ h => List.mem_append_left _ (List.mem_append_left _ (List.mem_append_right _ h))) (by decide +kernel))
set_option maxRecDepth 20000 in
theorem gL_law_L_begin : GoodIn wsL_law (va_wsS RL 77 yL_begin wsL_begin) := goodIn_app (goodIn_of _ (by decide +kernel)) ggL_law_L_begin
set_option maxRecDepth 20000 in
theorem ggL_law_X6_begin : GoodIn wsL_law wsX6_begin := goodIn_r _ [89, 90, 66, 91, 92, 93, 57, 94, 95, 5, 96, 97, 98, 99, 100, 59, 61, 101, 102, 58, 60, 103, 104, 105, 106, 107, 108, 109, 110, 718, 719, 720, 721, 722, 723, 724, 725, 726, 727, 728, 729, 730, 731, 732, 733] (by decide +kernel) (by decide +kernel)
set_option maxRecDepth 20000 in
theorem gL_law_X6_begin : GoodIn wsL_law (wsV RL 82 RX6 yX6_begin wsX6_begin) := goodIn_app (goodIn_of _ (by decide +kernel)) ggL_law_X6_begin
set_option maxRecDepth 20000 in
theorem ggL_law_X6_thrown : GoodIn wsL_law wsX6_thrown := goodIn_r _ [114, 90, 718, 719, 720, 721, 722, 723, 724, 725, 726, 727, 728, 729, 730, 731, 732, 733] (by decide +kernel) (by decide +kernel)
set_option maxRecDepth 20000 in
theorem gL_law_X6_thrown : GoodIn wsL_law (wsV RL 83 RX6 yX6_thrown wsX6_thrown) := goodIn_app (goodIn_of _ (by decide +kernel)) ggL_law_X6_thrown
set_option maxRecDepth 20000 in
theorem ggL_law_L_give : GoodIn wsL_law wsL_give := goodIn_ca (goodIn_ca (goodIn_r _ [117, 71, 118, 119, 120, 121, 2, 122, 123, 124, 16, 125, 126, 127, 76, 77, 128, 129, 130, 131, 132, 133, 15, 134, 83, 82, 135, 136, 137, 138, 139, 140, 141, 142, 30, 143, 144, 145, 146, 147, 148, 149, 150, 151, 152, 153, 154, 155, 156, 157, 715, 716, 717, 734, 735, 736, 737, 738, 739, 740, 741] (by decide +kernel) (by decide +kernel)) (goodIn_sub (fun _ h => List.mem_append_left _ (List.mem_append_right _ h)) (by decide +kernel))) (goodIn_sub (fun _ h => List.mem_append_left _ (List.mem_append_left _ (List.mem_append_right _ h))) (by decide +kernel))
set_option maxRecDepth 20000 in
theorem gL_law_L_give : GoodIn wsL_law (va_wsS RL 86 yL_give wsL_give) := goodIn_app (goodIn_of _ (by decide +kernel)) ggL_law_L_give
set_option maxRecDepth 20000 in
theorem ggL_law_X6_give : GoodIn wsL_law wsX6_give := goodIn_r _ [161, 90, 91, 57, 94, 95, 5, 96, 162, 163, 164, 165, 59, 166, 167, 168, 169, 170, 171, 97, 98, 99, 100, 61, 93, 101, 102, 92, 58, 60, 103, 104, 105, 106, 107, 108, 109, 110, 66, 718, 719, 720, 721, 722, 723, 724, 725, 726, 727, 728, 729, 730, 731, 732, 733] (by decide +kernel) (by decide +kernel)
set_option maxRecDepth 20000 in
theorem gL_law_X6_give : GoodIn wsL_law (wsV RL 89 RX6 yX6_give wsX6_give) := goodIn_app (goodIn_of _ (by decide +kernel)) ggL_law_X6_give
set_option maxRecDepth 20000 in
theorem ggL_law_L_start : GoodIn wsL_law wsL_start := goodIn_ca (goodIn_ca (goodIn_r _ [174, 71, 118, 175, 176, 177, 2, 178, 123, 124, 16, 20, 125, 126, 127, 76, 77, 179, 180, 181, 15, 182, 83, 139, 140, 141, 142, 30, 143, 144, 145, 146, 147, 148, 149, 183, 184, 185, 19, 186, 42, 187, 188, 189, 41, 190, 47, 191, 192, 193, 194, 84, 32, 715, 716, 717, 734, 735, 736, 737, 738, 739, 740, 741, 742, 743, 745] (by decide +kernel) (by decide +kernel)) (goodIn_sub (fun _ h => List.mem_append_left _ (List.mem_append_right _ h)) (by decide +kernel))) (goodIn_sub (fun _ h => List.mem_append_left _ (List.mem_append_left _ (List.mem_append_right _ h))) (by decide +kernel))
set_option maxRecDepth 20000 in
theorem gL_law_L_start : GoodIn wsL_law (va_wsS RL 90 yL_start wsL_start) := goodIn_app (goodIn_of _ (by decide +kernel)) ggL_law_L_start
set_option maxRecDepth 20000 in
theorem ggL_law_X6_start : GoodIn wsL_law wsX6_start := goodIn_r _ [198, 90, 57, 91, 93, 94, 95, 5, 96, 169, 170, 171, 166, 167, 168, 97, 98, 99, 100, 59, 61, 101, 102, 92, 58, 60, 103, 104, 105, 106, 107, 108, 109, 110, 66, 718, 719, 720, 721, 722, 723, 724, 725, 726, 727, 728, 729, 730, 731, 732, 733] (by decide +kernel) (by decide +kernel)
set_option maxRecDepth 20000 in
theorem gL_law_X6_start : GoodIn wsL_law (wsV RL 92 RX6 yX6_start wsX6_start) := goodIn_app (goodIn_of _ (by decide +kernel)) ggL_law_X6_start
set_option maxRecDepth 20000 in
theorem ggL_law_X5_isStarted : GoodIn wsL_law wsX5_isStarted := goodIn_r _ [202, 16, 203, 204, 205, 15, 206, 83, 715, 716, 717, 734, 735, 736, 737, 738, 739, 740, 741] (by decide +kernel) (by decide +kernel)
set_option maxRecDepth 20000 in
theorem gL_law_X5_isStarted : GoodIn wsL_law (wsV RL 93 RX5 yX5_isStarted wsX5_isStarted) := goodIn_app (goodIn_of _ (by decide +kernel)) ggL_law_X5_isStarted
set_option maxRecDepth 20000 in
theorem ggL_law_X6_isStarted : GoodIn wsL_law wsX6_isStarted := goodIn_r _ [210, 90, 91, 718, 719, 720, 721, 722, 723, 724, 725, 726, 727, 728, 729, 730, 731, 732, 733] (by decide +kernel) (by decide +kernel)
set_option maxRecDepth 20000 in
theorem gL_law_X6_isStarted : GoodIn wsL_law (wsV RL 97 RX6 yX6_isStarted wsX6_isStarted) := goodIn_app (goodIn_of _ (by decide +kernel)) ggL_law_X6_isStarted
set_option maxRecDepth 20000 in
theorem ggL_law_L_play : GoodIn wsL_law wsL_play := goodIn_ca (goodIn_ca (goodIn_r _ [213, 71, 118, 214, 215, 216, 2, 217, 16, 128, 129, 130, 76, 77, 218, 219, 220, 221, 123, 124, 222, 223, 224, 15, 225, 226, 227, 228, 229, 83, 230, 231, 232, 233, 84, 85, 234, 235, 236, 237, 238, 239, 240, 241, 32, 242, 243, 244, 245, 139, 140, 141, 142, 30, 246, 247, 248, 249, 250, 251, 252, 253, 31, 254, 255, 137, 256, 257, 258, 259, 260, 136, 138, 261, 262, 263, 264, 265, 266, 267, 268, 269, 270, 271, 272, 273, 274, 275, 276, 33, 715, 716, 717, 734, 735, 736, 737, 738, 739, 740, 741] (by decide +kernel) (by decide +kernel)) (goodIn_sub (fun _ h => List.mem_append_left _ (List.mem_append_left _ (List.mem_append_right _ h))) (by decide +kernel))) (goodIn_sub (fun _ h => List.mem_append_left _ (List.mem_append_right _ h)) (by decide +kernel))
set_option maxRecDepth 20000 in
theorem gL_law_L_play : GoodIn wsL_law (va_wsS RL 98 yL_play wsL_play) := goodIn_app (goodIn_of _ (by decide +kernel)) ggL_law_L_play
set_option maxRecDepth 20000 in
theorem ggL_law_X6_play : GoodIn wsL_law wsX6_play := goodIn_r _ [280, 90, 58, 92, 102, 101, 94, 95, 5, 96, 281, 282, 283, 284, 59, 60, 285, 286, 287, 288, 91, 162, 163, 164, 165, 166, 167, 168, 97, 98, 99, 100, 57, 61, 93, 103, 104, 105, 106, 107, 108, 109, 110, 66, 718, 719, 720, 721, 722, 723, 724, 725, 726, 727, 728, 729, 730, 731, 732, 733] (by decide +kernel) (by decide +kernel)
set_option maxRecDepth 20000 in
theorem gL_law_X6_play : GoodIn wsL_law (wsV RL 100 RX6 yX6_play wsX6_play) := goodIn_app (goodIn_of _ (by decide +kernel)) ggL_law_X6_play
set_option maxRecDepth 20000 in
theorem ggL_law_L_takeBack : GoodIn wsL_law wsL_takeBack := goodIn_ca (goodIn_r _ [291, 118, 292, 293, 294, 2, 295, 123, 124, 16, 296, 297, 298, 15, 299, 85, 300, 301, 302, 303, 250, 251, 252, 253, 31, 226, 227, 228, 229, 83, 230, 231, 232, 233, 84, 234, 235, 236, 237, 238, 239, 240, 241, 32, 242, 243, 244, 245, 154, 155, 156, 157, 30, 715, 716, 717, 734, 735, 736, 737, 738, 739, 740, 741] (by decide +kernel) (by decide +kernel)) (goodIn_sub (fun _ h => List.mem_append_left _ (List.mem_append_right _ h)) (by decide +kernel))
set_option maxRecDepth 20000 in
theorem gL_law_L_takeBack : GoodIn wsL_law (va_wsS RL 101 yL_takeBack wsL_takeBack) := goodIn_app (goodIn_of _ (by decide +kernel)) ggL_law_L_takeBack
set_option maxRecDepth 20000 in
theorem ggL_law_X6_takeBack : GoodIn wsL_law wsX6_takeBack := goodIn_r _ [307, 92, 90, 58, 97, 98, 99, 5, 100, 59, 57, 61, 93, 101, 102, 60, 103, 104, 105, 106, 107, 108, 109, 110, 66, 718, 719, 720, 721, 722, 723, 724, 725, 726, 727, 728, 729, 730, 731, 732, 733] (by decide +kernel) (by decide +kernel)
set_option maxRecDepth 20000 in
theorem gL_law_X6_takeBack : GoodIn wsL_law (wsV RL 104 RX6 yX6_takeBack wsX6_takeBack) := goodIn_app (goodIn_of _ (by decide +kernel)) ggL_law_X6_takeBack
set_option maxRecDepth 20000 in
theorem ggL_law_L_canPlay : GoodIn wsL_law wsL_canPlay := goodIn_ca (goodIn_r _ [310, 71, 311, 312, 313, 2, 314, 16, 128, 129, 130, 76, 77, 222, 223, 224, 15, 225, 226, 227, 228, 229, 83, 230, 231, 232, 233, 84, 85, 234, 235, 236, 237, 238, 239, 240, 241, 32, 242, 243, 244, 245, 139, 140, 141, 142, 30, 246, 247, 248, 249, 250, 251, 252, 253, 31, 254, 255, 137, 256, 257, 258, 259, 260, 136, 138, 715, 716, 717, 734, 735, 736, 737, 738, 739, 740, 741] (by decide +kernel) (by decide +kernel)) (goodIn_sub (fun _ h => List.mem_append_left _ (List.mem_append_left _ (List.mem_append_right _ h))) (by decide +kernel))
set_option maxRecDepth 20000 in
theorem gL_law_L_canPlay : GoodIn wsL_law (va_wsS RL 105 yL_canPlay wsL_canPlay) := goodIn_app (goodIn_of _ (by decide +kernel)) ggL_law_L_canPlay
set_option maxRecDepth 20000 in
theorem ggL_law_X6_canPlay : GoodIn wsL_law wsX6_canPlay := goodIn_r _ [318, 90, 94, 95, 5, 96, 281, 282, 283, 284, 59, 102, 60, 285, 286, 287, 288, 91, 101, 162, 163, 164, 165, 166, 167, 168, 718, 719, 720, 721, 722, 723, 724, 725, 726, 727, 728, 729, 730, 731, 732, 733] (by decide +kernel) (by decide +kernel)
set_option maxRecDepth 20000 in
theorem gL_law_X6_canPlay : GoodIn wsL_law (wsV RL 107 RX6 yX6_canPlay wsX6_canPlay) := goodIn_app (goodIn_of _ (by decide +kernel)) ggL_law_X6_canPlay
set_option maxRecDepth 20000 in
theorem ggL_law_X5_turn : GoodIn wsL_law wsX5_turn := goodIn_r _ [322, 16, 323, 227, 228, 15, 229, 83, 230, 231, 232, 233, 84, 85, 234, 235, 236, 237, 238, 239, 240, 241, 32, 242, 243, 244, 245, 715, 716, 717, 734, 735, 736, 737, 738, 739, 740, 741] (by decide +kernel) (by decide +kernel)
set_option maxRecDepth 20000 in
theorem gL_law_X5_turn : GoodIn wsL_law (wsV RL 108 RX5 yX5_turn wsX5_turn) := goodIn_app (goodIn_of _ (by decide +kernel)) ggL_law_X5_turn
set_option maxRecDepth 20000 in
theorem ggL_law_X6_turn : GoodIn wsL_law wsX6_turn := goodIn_r _ [327, 90, 285, 286, 287, 5, 288, 91, 101, 102, 162, 163, 164, 165, 59, 718, 719, 720, 721, 722, 723, 724, 725, 726, 727, 728, 729, 730, 731, 732, 733] (by decide +kernel) (by decide +kernel)
set_option maxRecDepth 20000 in
theorem gL_law_X6_turn : GoodIn wsL_law (wsV RL 111 RX6 yX6_turn wsX6_turn) := goodIn_app (goodIn_of _ (by decide +kernel)) ggL_law_X6_turn
set_option maxRecDepth 20000 in
theorem ggL_law_L_hand : GoodIn wsL_law wsL_hand := goodIn_ca (goodIn_r _ [330, 71, 331, 332, 333, 2, 334, 16, 125, 126, 127, 76, 77, 335, 140, 141, 15, 142, 30, 715, 716, 717, 734, 735, 736, 737, 738, 739, 740, 741] (by decide +kernel) (by decide +kernel)) (goodIn_sub (fun _ h => List.mem_append_left _ (List.mem_append_left _ (List.mem_append_right _ h))) (by decide +kernel))
set_option maxRecDepth 20000 in
theorem gL_law_L_hand : GoodIn wsL_law (va_wsS RL 112 yL_hand wsL_hand) := goodIn_app (goodIn_of _ (by decide +kernel)) ggL_law_L_hand
set_option maxRecDepth 20000 in
theorem ggL_law_X6_hand : GoodIn wsL_law wsX6_hand := goodIn_r _ [339, 90, 59, 94, 95, 5, 96, 718, 719, 720, 721, 722, 723, 724, 725, 726, 727, 728, 729, 730, 731, 732, 733] (by decide +kernel) (by decide +kernel)
set_option maxRecDepth 20000 in
theorem gL_law_X6_hand : GoodIn wsL_law (wsV RL 114 RX6 yX6_hand wsX6_hand) := goodIn_app (goodIn_of _ (by decide +kernel)) ggL_law_X6_hand
set_option maxRecDepth 20000 in
theorem ggL_law_X5_inTrick : GoodIn wsL_law wsX5_inTrick := goodIn_r _ [343, 16, 344, 243, 244, 15, 245, 85, 715, 716, 717, 734, 735, 736, 737, 738, 739, 740, 741] (by decide +kernel) (by decide +kernel)
set_option maxRecDepth 20000 in
theorem gL_law_X5_inTrick : GoodIn wsL_law (wsV RL 115 RX5 yX5_inTrick wsX5_inTrick) := goodIn_app (goodIn_of _ (by decide +kernel)) ggL_law_X5_inTrick
set_option maxRecDepth 20000 in
theorem ggL_law_X6_inTrick : GoodIn wsL_law wsX6_inTrick := goodIn_r _ [348, 90, 102, 718, 719, 720, 721, 722, 723, 724, 725, 726, 727, 728, 729, 730, 731, 732, 733] (by decide +kernel) (by decide +kernel)
set_option maxRecDepth 20000 in
theorem gL_law_X6_inTrick : GoodIn wsL_law (wsV RL 118 RX6 yX6_inTrick wsX6_inTrick) := goodIn_app (goodIn_of _ (by decide +kernel)) ggL_law_X6_inTrick
set_option maxRecDepth 20000 in
theorem ggL_law_L_cardIn : GoodIn wsL_law wsL_cardIn := goodIn_ca (goodIn_r _ [351, 352, 353, 354, 355, 2, 356, 357, 358, 16, 344, 243, 244, 15, 245, 85, 359, 247, 248, 249, 242, 250, 251, 252, 253, 31, 715, 716, 717, 734, 735, 736, 737, 738, 739, 740, 741] (by decide +kernel) (by decide +kernel)) (goodIn_sub (fun _ h => List.mem_append_right _ h) (by decide +kernel))
set_option maxRecDepth 20000 in
theorem gL_law_L_cardIn : GoodIn wsL_law (va_wsS RL 119 yL_cardIn wsL_cardIn) := goodIn_app (goodIn_of _ (by decide +kernel)) ggL_law_L_cardIn
set_option maxRecDepth 20000 in
theorem ggL_law_X6_cardIn : GoodIn wsL_law wsX6_cardIn := goodIn_r _ [363, 102, 90, 60, 94, 95, 5, 96, 718, 719, 720, 721, 722, 723, 724, 725, 726, 727, 728, 729, 730, 731, 732, 733] (by decide +kernel) (by decide +kernel)
set_option maxRecDepth 20000 in
theorem gL_law_X6_cardIn : GoodIn wsL_law (wsV RL 121 RX6 yX6_cardIn wsX6_cardIn) := goodIn_app (goodIn_of _ (by decide +kernel)) ggL_law_X6_cardIn
set_option maxRecDepth 20000 in
theorem ggL_law_L_won : GoodIn wsL_law wsL_won := goodIn_ca (goodIn_r _ [366, 71, 367, 368, 369, 2, 370, 76, 77, 16, 371, 372, 373, 15, 374, 234, 235, 236, 237, 85, 238, 239, 240, 241, 32, 375, 376, 137, 377, 715, 716, 717, 734, 735, 736, 737, 738, 739, 740, 741] (by decide +kernel) (by decide +kernel)) (goodIn_sub (fun _ h => List.mem_append_left _ (List.mem_append_left _ (List.mem_append_right _ h))) (by decide +kernel))
set_option maxRecDepth 20000 in
theorem gL_law_L_won : GoodIn wsL_law (va_wsS RL 122 yL_won wsL_won) := goodIn_app (goodIn_of _ (by decide +kernel)) ggL_law_L_won
set_option maxRecDepth 20000 in
theorem ggL_law_X6_won : GoodIn wsL_law wsX6_won := goodIn_r _ [381, 90, 61, 94, 95, 5, 96, 718, 719, 720, 721, 722, 723, 724, 725, 726, 727, 728, 729, 730, 731, 732, 733] (by decide +kernel) (by decide +kernel)
set_option maxRecDepth 20000 in
theorem gL_law_X6_won : GoodIn wsL_law (wsV RL 124 RX6 yX6_won wsX6_won) := goodIn_app (goodIn_of _ (by decide +kernel)) ggL_law_X6_won
set_option maxRecDepth 20000 in
theorem ggL_law_L_solve : GoodIn wsL_law wsL_solve := goodIn_ca (goodIn_r _ [384, 118, 385, 386, 387, 2, 388, 20, 389, 390, 391, 392, 123, 124, 16, 203, 204, 205, 15, 206, 83, 393, 394, 395, 19, 396, 38, 397, 231, 232, 233, 84, 85, 398, 399, 400, 401, 234, 235, 236, 237, 402, 403, 404, 405, 42, 406, 407, 408, 409, 410, 411, 412, 413, 243, 244, 245, 414, 415, 416, 417, 418, 419, 420, 421, 422, 423, 424, 30, 238, 239, 240, 241, 32, 425, 426, 427, 41, 428, 429, 430, 431, 432, 47, 433, 434, 435, 436, 437, 438, 439, 440, 441, 442, 443, 444, 445, 446, 227, 228, 229, 230, 242, 447, 376, 137, 377, 448, 223, 224, 225, 226, 139, 140, 141, 142, 246, 247, 248, 249, 250, 251, 252, 253, 31, 254, 255, 256, 257, 258, 259, 449, 450, 451, 452, 453, 454, 455, 456, 457, 458, 459, 460, 461, 462, 463, 464, 465, 145, 466, 467, 468, 469, 470, 471, 472, 136, 138, 473, 474, 475, 476, 477, 478, 479, 262, 263, 264, 265, 266, 267, 268, 269, 270, 271, 272, 273, 274, 275, 276, 33, 480, 481, 482, 483, 301, 302, 303, 154, 155, 156, 157, 715, 716, 717, 734, 735, 736, 737, 738, 739, 740, 741, 742, 743, 745] (by decide +kernel) (by decide +kernel)) (goodIn_sub (fun _ h => List.mem_append_left _ (List.mem_append_right _ h)) (by decide +kernel))
set_option maxRecDepth 20000 in
theorem gL_law_L_solve : GoodIn wsL_law (va_wsS RL 125 yL_solve wsL_solve) := goodIn_app (goodIn_of _ (by decide +kernel)) ggL_law_L_solve
set_option maxRecDepth 20000 in
theorem ggL_law_X6_solve : GoodIn wsL_law wsX6_solve := goodIn_r _ [487, 91, 90, 102, 488, 489, 490, 5, 491, 59, 62, 166, 167, 168, 492, 493, 494, 495, 65, 60, 496, 101, 162, 163, 164, 165, 169, 170, 171, 497, 498, 499, 500, 501, 64, 502, 503, 504, 505, 506, 507, 508, 509, 510, 511, 512, 513, 514, 515, 516, 517, 518, 519, 520, 521, 522, 523, 524, 107, 108, 109, 110, 66, 525, 526, 527, 528, 529, 530, 531, 718, 719, 720, 721, 722, 723, 724, 725, 726, 727, 728, 729, 730, 731, 732, 733] (by decide +kernel) (by decide +kernel)
set_option maxRecDepth 20000 in
theorem gL_law_X6_solve : GoodIn wsL_law (wsV RL 127 RX6 yX6_solve wsX6_solve) := goodIn_app (goodIn_of _ (by decide +kernel)) ggL_law_X6_solve
set_option maxRecDepth 20000 in
theorem ggL_law_L_solveByAll : GoodIn wsL_law wsL_solveByAll := goodIn_ca (goodIn_r _ [534, 118, 535, 536, 537, 2, 538, 123, 124, 16, 389, 390, 391, 392, 203, 204, 205, 15, 206, 83, 539, 231, 232, 233, 84, 85, 540, 19, 541, 406, 407, 408, 409, 410, 411, 412, 446, 227, 228, 229, 230, 234, 235, 236, 237, 238, 239, 240, 241, 32, 242, 243, 244, 245, 447, 376, 137, 377, 448, 223, 224, 225, 226, 139, 140, 141, 142, 30, 246, 247, 248, 249, 250, 251, 252, 253, 31, 254, 255, 256, 257, 258, 259, 542, 462, 463, 464, 465, 145, 466, 467, 479, 262, 263, 264, 265, 266, 267, 268, 269, 270, 271, 272, 273, 274, 275, 276, 33, 480, 481, 482, 543, 483, 301, 302, 303, 154, 155, 156, 157, 715, 716, 717, 734, 735, 736, 737, 738, 739, 740, 741] (by decide +kernel) (by decide +kernel)) (goodIn_sub (fun _ h => List.mem_append_left _ (List.mem_append_right _ h)) (by decide +kernel))
set_option maxRecDepth 20000 in
theorem gL_law_L_solveByAll : GoodIn wsL_law (va_wsS RL 128 yL_solveByAll wsL_solveByAll) := goodIn_app (goodIn_of _ (by decide +kernel)) ggL_law_L_solveByAll
set_option maxRecDepth 20000 in
theorem ggL_law_X6_solveByAll : GoodIn wsL_law wsX6_solveByAll := goodIn_r _ [547, 91, 90, 102, 162, 163, 164, 5, 165, 59, 169, 170, 171, 166, 167, 168, 488, 489, 490, 491, 62, 492, 493, 494, 495, 65, 60, 496, 101, 497, 498, 499, 500, 501, 64, 502, 503, 504, 505, 506, 507, 508, 509, 510, 511, 512, 513, 514, 515, 516, 517, 518, 519, 520, 521, 522, 523, 524, 107, 108, 109, 110, 66, 525, 526, 527, 528, 529, 530, 531, 718, 719, 720, 721, 722, 723, 724, 725, 726, 727, 728, 729, 730, 731, 732, 733] (by decide +kernel) (by decide +kernel)
set_option maxRecDepth 20000 in
theorem gL_law_X6_solveByAll : GoodIn wsL_law (wsV RL 130 RX6 yX6_solveByAll wsX6_solveByAll) := goodIn_app (goodIn_of _ (by decide +kernel)) ggL_law_X6_solveByAll
set_option maxRecDepth 20000 in
theorem ggL_law_L_value : GoodIn wsL_law wsL_value := goodIn_ca (goodIn_ca (goodIn_r _ [550, 71, 118, 551, 552, 553, 2, 554, 20, 128, 129, 130, 76, 77, 218, 219, 220, 221, 123, 124, 16, 222, 223, 224, 15, 225, 226, 227, 228, 229, 83, 230, 231, 232, 233, 84, 85, 234, 235, 236, 237, 238, 239, 240, 241, 32, 242, 243, 244, 245, 139, 140, 141, 142, 30, 246, 247, 248, 249, 250, 251, 252, 253, 31, 254, 255, 137, 256, 257, 258, 259, 260, 136, 138, 555, 556, 557, 19, 558, 38, 398, 399, 400, 401, 446, 447, 376, 377, 479, 262, 263, 264, 265, 266, 267, 268, 269, 270, 271, 272, 273, 274, 275, 276, 33, 480, 481, 482, 397, 402, 403, 404, 405, 42, 406, 407, 408, 409, 410, 411, 412, 413, 414, 415, 416, 417, 418, 419, 420, 421, 422, 423, 424, 425, 426, 427, 41, 428, 429, 430, 431, 432, 47, 433, 434, 435, 436, 437, 438, 439, 440, 441, 442, 443, 444, 445, 448, 449, 450, 451, 452, 453, 454, 455, 456, 457, 458, 459, 460, 461, 462, 463, 464, 465, 145, 466, 467, 468, 469, 470, 471, 472, 473, 474, 475, 476, 477, 478, 483, 301, 302, 303, 154, 155, 156, 157, 715, 716, 717, 734, 735, 736, 737, 738, 739, 740, 741, 742, 743, 745] (by decide +kernel) (by decide +kernel)) (goodIn_sub (fun _ h => List.mem_append_left _ (List.mem_append_left _ (List.mem_append_right _ h))) (by decide +kernel))) (goodIn_sub (fun _ h => List.mem_append_left _ (List.mem_append_right _ h)) (by decide +kernel))
set_option maxRecDepth 20000 in
theorem gL_law_L_value : GoodIn wsL_law (va_wsS RL 131 yL_value wsL_value) := goodIn_app (goodIn_of _ (by decide +kernel)) ggL_law_L_value
set_option maxRecDepth 20000 in
theorem ggL_law_X6_value : GoodIn wsL_law wsX6_value := goodIn_r _ [562, 90, 94, 95, 5, 96, 281, 282, 283, 284, 59, 102, 60, 285, 286, 287, 288, 91, 101, 162, 163, 164, 165, 166, 167, 168, 563, 564, 565, 566, 62, 65, 496, 488, 489, 490, 491, 169, 170, 171, 497, 498, 499, 500, 501, 64, 502, 503, 504, 505, 506, 507, 508, 509, 510, 511, 512, 513, 514, 515, 516, 517, 518, 519, 520, 521, 522, 523, 524, 107, 108, 109, 110, 66, 525, 526, 527, 528, 529, 530, 531, 718, 719, 720, 721, 722, 723, 724, 725, 726, 727, 728, 729, 730, 731, 732, 733] (by decide +kernel) (by decide +kernel)
set_option maxRecDepth 20000 in
theorem gL_law_X6_value : GoodIn wsL_law (wsV RL 133 RX6 yX6_value wsX6_value) := goodIn_app (goodIn_of _ (by decide +kernel)) ggL_law_X6_value
set_option maxRecDepth 20000 in
theorem ggL_law_L_bestCard : GoodIn wsL_law wsL_bestCard := goodIn_ca (goodIn_r _ [569, 118, 570, 571, 572, 2, 573, 123, 124, 16, 20, 323, 227, 228, 15, 229, 83, 230, 231, 232, 233, 84, 85, 234, 235, 236, 237, 238, 239, 240, 241, 32, 242, 243, 244, 245, 574, 575, 576, 19, 577, 38, 448, 223, 224, 225, 226, 139, 140, 141, 142, 30, 246, 247, 248, 249, 250, 251, 252, 253, 31, 254, 255, 137, 256, 257, 258, 259, 449, 450, 451, 452, 453, 421, 422, 423, 424, 454, 455, 456, 457, 458, 459, 460, 461, 462, 463, 464, 465, 145, 466, 467, 468, 469, 470, 471, 472, 136, 138, 542, 578, 556, 557, 558, 398, 399, 400, 401, 446, 447, 376, 377, 479, 262, 263, 264, 265, 266, 267, 268, 269, 270, 271, 272, 273, 274, 275, 276, 33, 480, 481, 482, 397, 402, 403, 404, 405, 42, 406, 407, 408, 409, 410, 411, 412, 413, 414, 415, 416, 417, 418, 419, 420, 425, 426, 427, 41, 428, 429, 430, 431, 432, 47, 433, 434, 435, 436, 437, 438, 439, 440, 441, 442, 443, 444, 445, 473, 474, 475, 476, 477, 478, 483, 301, 302, 303, 154, 155, 156, 157, 715, 716, 717, 734, 735, 736, 737, 738, 739, 740, 741, 742, 743, 745] (by decide +kernel) (by decide +kernel)) (goodIn_sub (fun _ h => List.mem_append_left _ (List.mem_append_right _ h)) (by decide +kernel))
set_option maxRecDepth 20000 in
theorem gL_law_L_bestCard : GoodIn wsL_law (va_wsS RL 134 yL_bestCard wsL_bestCard) := goodIn_app (goodIn_of _ (by decide +kernel)) ggL_law_L_bestCard
set_option maxRecDepth 20000 in
theorem ggL_law_X6_bestCard : GoodIn wsL_law wsX6_bestCard := goodIn_r _ [582, 90, 285, 286, 287, 5, 288, 91, 101, 102, 162, 163, 164, 165, 59, 281, 282, 283, 284, 60, 166, 167, 168, 563, 564, 565, 566, 62, 65, 496, 488, 489, 490, 491, 169, 170, 171, 497, 498, 499, 500, 501, 64, 502, 503, 504, 505, 506, 507, 508, 509, 510, 511, 512, 513, 514, 515, 516, 517, 518, 519, 520, 521, 522, 523, 524, 107, 108, 109, 110, 66, 525, 526, 527, 528, 529, 530, 531, 718, 719, 720, 721, 722, 723, 724, 725, 726, 727, 728, 729, 730, 731, 732, 733] (by decide +kernel) (by decide +kernel)
set_option maxRecDepth 20000 in
theorem gL_law_X6_bestCard : GoodIn wsL_law (wsV RL 136 RX6 yX6_bestCard wsX6_bestCard) := goodIn_app (goodIn_of _ (by decide +kernel)) ggL_law_X6_bestCard
set_option maxRecDepth 20000 in
theorem ggL_law_L_lowestEqual : GoodIn wsL_law wsL_lowestEqual := goodIn_ca (goodIn_ca (goodIn_r _ [585, 71, 118, 586, 587, 588, 2, 589, 24, 128, 129, 130, 76, 77, 590, 591, 592, 593, 123, 124, 16, 594, 595, 596, 15, 597, 30, 135, 136, 137, 138, 598, 599, 600, 23, 601, 52, 602, 603, 140, 141, 142, 604, 450, 451, 452, 453, 421, 422, 423, 424, 454, 455, 456, 457, 85, 242, 243, 244, 245, 250, 251, 252, 253, 31, 605, 469, 470, 471, 255, 256, 472, 715, 716, 717, 734, 735, 736, 737, 738, 739, 740, 741, 744] (by decide +kernel) (by decide +kernel)) (goodIn_sub (fun _ h => List.mem_append_left _ (List.mem_append_left _ (List.mem_append_right _ h))) (by decide +kernel))) (goodIn_sub (fun _ h => List.mem_append_left _ (List.mem_append_right _ h)) (by decide +kernel))
set_option maxRecDepth 20000 in
theorem gL_law_L_lowestEqual : GoodIn wsL_law (va_wsS RL 137 yL_lowestEqual wsL_lowestEqual) := goodIn_app (goodIn_of _ (by decide +kernel)) ggL_law_L_lowestEqual
set_option maxRecDepth 20000 in
theorem ggL_law_X6_lowestEqual : GoodIn wsL_law wsX6_lowestEqual := goodIn_r _ [609, 610, 611, 612, 5, 613, 90, 94, 95, 96, 614, 615, 616, 617, 59, 166, 167, 168, 618, 619, 620, 621, 622, 623, 624, 625, 102, 60, 162, 163, 164, 165, 718, 719, 720, 721, 722, 723, 724, 725, 726, 727, 728, 729, 730, 731, 732, 733] (by decide +kernel) (by decide +kernel)
set_option maxRecDepth 20000 in
theorem gL_law_X6_lowestEqual : GoodIn wsL_law (wsV RL 139 RX6 yX6_lowestEqual wsX6_lowestEqual) := goodIn_app (goodIn_of _ (by decide +kernel)) ggL_law_X6_lowestEqual
set_option maxRecDepth 20000 in
theorem ggL_law_L_unlike : GoodIn wsL_law wsL_unlike := goodIn_ca (goodIn_r _ [628, 71, 629, 630, 631, 2, 632, 16, 125, 126, 127, 76, 77, 335, 140, 141, 15, 142, 30, 633, 450, 451, 452, 453, 421, 422, 423, 424, 454, 455, 456, 457, 85, 242, 243, 244, 245, 250, 251, 252, 253, 31, 634, 459, 137, 460, 461, 462, 463, 464, 465, 145, 466, 467, 468, 469, 470, 471, 255, 256, 472, 136, 138, 635, 144, 146, 147, 148, 149, 715, 716, 717, 734, 735, 736, 737, 738, 739, 740, 741] (by decide +kernel) (by decide +kernel)) (goodIn_sub (fun _ h => List.mem_append_left _ (List.mem_append_left _ (List.mem_append_right _ h))) (by decide +kernel))
set_option maxRecDepth 20000 in
theorem gL_law_L_unlike : GoodIn wsL_law (va_wsS RL 140 yL_unlike wsL_unlike) := goodIn_app (goodIn_of _ (by decide +kernel)) ggL_law_L_unlike
set_option maxRecDepth 20000 in
theorem ggL_law_X6_unlike : GoodIn wsL_law wsX6_unlike := goodIn_r _ [639, 90, 59, 94, 95, 5, 96, 166, 167, 168, 618, 619, 620, 621, 614, 615, 616, 617, 622, 623, 624, 625, 102, 60, 162, 163, 164, 165, 718, 719, 720, 721, 722, 723, 724, 725, 726, 727, 728, 729, 730, 731, 732, 733] (by decide +kernel) (by decide +kernel)
set_option maxRecDepth 20000 in
theorem gL_law_X6_unlike : GoodIn wsL_law (wsV RL 142 RX6 yX6_unlike wsX6_unlike) := goodIn_app (goodIn_of _ (by decide +kernel)) ggL_law_X6_unlike
set_option maxRecDepth 20000 in
theorem ggL_law_L_isTop : GoodIn wsL_law wsL_isTop := goodIn_ca (goodIn_ca (goodIn_r _ [642, 71, 118, 643, 644, 645, 2, 646, 24, 16, 128, 129, 130, 76, 77, 590, 591, 592, 593, 123, 124, 594, 595, 596, 15, 597, 30, 135, 136, 137, 138, 647, 648, 649, 23, 650, 52, 651, 422, 423, 424, 603, 140, 141, 142, 652, 455, 456, 457, 85, 242, 243, 244, 245, 250, 251, 252, 253, 31, 653, 255, 256, 654, 258, 259, 655, 474, 475, 476, 477, 145, 478, 467, 715, 716, 717, 734, 735, 736, 737, 738, 739, 740, 741, 744] (by decide +kernel) (by decide +kernel)) (goodIn_sub (fun _ h => List.mem_append_left _ (List.mem_append_left _ (List.mem_append_right _ h))) (by decide +kernel))) (goodIn_sub (fun _ h => List.mem_append_left _ (List.mem_append_right _ h)) (by decide +kernel))
set_option maxRecDepth 20000 in
theorem gL_law_L_isTop : GoodIn wsL_law (va_wsS RL 143 yL_isTop wsL_isTop) := goodIn_app (goodIn_of _ (by decide +kernel)) ggL_law_L_isTop
set_option maxRecDepth 20000 in
theorem ggL_law_X6_isTop : GoodIn wsL_law wsX6_isTop := goodIn_r _ [659, 610, 611, 612, 5, 613, 90, 94, 95, 96, 614, 615, 616, 617, 59, 166, 167, 168, 660, 661, 662, 663, 622, 623, 624, 625, 102, 60, 162, 163, 164, 165, 718, 719, 720, 721, 722, 723, 724, 725, 726, 727, 728, 729, 730, 731, 732, 733] (by decide +kernel) (by decide +kernel)
set_option maxRecDepth 20000 in
theorem gL_law_X6_isTop : GoodIn wsL_law (wsV RL 145 RX6 yX6_isTop wsX6_isTop) := goodIn_app (goodIn_of _ (by decide +kernel)) ggL_law_X6_isTop
set_option maxRecDepth 20000 in
theorem ggL_law_L_quick : GoodIn wsL_law wsL_quick := goodIn_ca (goodIn_r _ [666, 71, 667, 668, 669, 2, 670, 24, 125, 126, 127, 76, 77, 671, 672, 673, 23, 674, 52, 603, 140, 141, 15, 142, 30, 675, 136, 137, 138, 676, 648, 649, 650, 651, 422, 423, 424, 652, 455, 456, 457, 85, 242, 243, 244, 245, 250, 251, 252, 253, 31, 653, 255, 256, 654, 258, 259, 655, 474, 475, 476, 477, 145, 478, 467, 715, 716, 717, 744, 734, 735, 736, 737, 738, 739, 740, 741] (by decide +kernel) (by decide +kernel)) (goodIn_sub (fun _ h => List.mem_append_left _ (List.mem_append_left _ (List.mem_append_right _ h))) (by decide +kernel))
set_option maxRecDepth 20000 in
theorem gL_law_L_quick : GoodIn wsL_law (va_wsS RL 146 yL_quick wsL_quick) := goodIn_app (goodIn_of _ (by decide +kernel)) ggL_law_L_quick
set_option maxRecDepth 20000 in
theorem ggL_law_X6_quick : GoodIn wsL_law wsX6_quick := goodIn_r _ [680, 90, 59, 94, 95, 5, 96, 166, 167, 168, 660, 661, 662, 663, 614, 615, 616, 617, 622, 623, 624, 625, 102, 60, 162, 163, 164, 165, 718, 719, 720, 721, 722, 723, 724, 725, 726, 727, 728, 729, 730, 731, 732, 733] (by decide +kernel) (by decide +kernel)
set_option maxRecDepth 20000 in
theorem gL_law_X6_quick : GoodIn wsL_law (wsV RL 148 RX6 yX6_quick wsX6_quick) := goodIn_app (goodIn_of _ (by decide +kernel)) ggL_law_X6_quick
set_option maxRecDepth 20000 in
theorem ggL_law_L_fork : GoodIn wsL_law wsL_fork := goodIn_ca (goodIn_r _ [683, 71, 684, 685, 686, 2, 687, 76, 77, 24, 125, 126, 127, 688, 689, 690, 23, 691, 52, 651, 422, 423, 15, 424, 30, 654, 258, 137, 259, 692, 144, 145, 146, 147, 148, 149, 655, 474, 475, 476, 477, 478, 467, 602, 595, 596, 597, 135, 136, 138, 693, 376, 377, 715, 716, 717, 744, 734, 735, 736, 737, 738, 739, 740, 741] (by decide +kernel) (by decide +kernel)) (goodIn_sub (fun _ h => List.mem_append_left _ (List.mem_append_left _ (List.mem_append_right _ h))) (by decide +kernel))
set_option maxRecDepth 20000 in
theorem gL_law_L_fork : GoodIn wsL_law (va_wsS RL 149 yL_fork wsL_fork) := goodIn_app (goodIn_of _ (by decide +kernel)) ggL_law_L_fork
set_option maxRecDepth 20000 in
theorem ggL_law_X6_fork : GoodIn wsL_law wsX6_fork := goodIn_r _ [697, 90, 94, 95, 5, 96, 698, 699, 700, 701, 614, 615, 616, 617, 59, 166, 167, 168, 718, 719, 720, 721, 722, 723, 724, 725, 726, 727, 728, 729, 730, 731, 732, 733] (by decide +kernel) (by decide +kernel)
set_option maxRecDepth 20000 in
theorem gL_law_X6_fork : GoodIn wsL_law (wsV RL 151 RX6 yX6_fork wsX6_fork) := goodIn_app (goodIn_of _ (by decide +kernel)) ggL_law_X6_fork
set_option maxRecDepth 20000 in
theorem ggL_law_X5_goodForks : GoodIn wsL_law wsX5_goodForks := goodIn_r _ [705, 24, 706, 707, 708, 23, 709, 710, 689, 690, 691, 52, 651, 422, 423, 15, 424, 30, 654, 258, 137, 259, 692, 144, 145, 146, 147, 148, 149, 655, 474, 475, 476, 477, 478, 467, 602, 595, 596, 597, 135, 136, 138, 693, 376, 377, 715, 716, 717, 744, 734, 735, 736, 737, 738, 739, 740, 741] (by decide +kernel) (by decide +kernel)
set_option maxRecDepth 20000 in
theorem gL_law_X5_goodForks : GoodIn wsL_law (wsV RL 152 RX5 yX5_goodForks wsX5_goodForks) := goodIn_app (goodIn_of _ (by decide +kernel)) ggL_law_X5_goodForks
set_option maxRecDepth 20000 in
theorem ggL_law_X6_goodForks : GoodIn wsL_law wsX6_goodForks := goodIn_r _ [714, 90, 698, 699, 700, 5, 701, 614, 615, 616, 617, 59, 166, 167, 168, 718, 719, 720, 721, 722, 723, 724, 725, 726, 727, 728, 729, 730, 731, 732, 733] (by decide +kernel) (by decide +kernel)
set_option maxRecDepth 20000 in
theorem gL_law_X6_goodForks : GoodIn wsL_law (wsV RL 155 RX6 yX6_goodForks wsX6_goodForks) := goodIn_app (goodIn_of _ (by decide +kernel)) ggL_law_X6_goodForks
abbrev vwCl : List vw_C := [(RX1, TX1, 8), (RX2, TX2, 1), (RX3, TX3, 1), (RX4, TX4, 2), (RX5, TX5, 3), (RX6, TX6, 16)]
