theorem dX5_fork_23 : decode cX5_fork 23 = .ok (.aload_n 0, 1) := by decide +kernel
theorem dX5_fork_24 : decode cX5_fork 24 = .ok (.getfield 28, 3) := by decide +kernel
theorem dX5_fork_27 : decode cX5_fork 27 = .ok (.iload_n 1, 1) := by decide +kernel
theorem dX5_fork_28 : decode cX5_fork 28 = .ok (.iload_n 2, 1) := by decide +kernel
theorem dX5_fork_29 : decode cX5_fork 29 = .ok (.invokevirtual 174, 3) := by decide +kernel
theorem dX5_fork_32 : decode cX5_fork 32 = .ok (.ireturn, 1) := by decide +kernel
set_option maxRecDepth 20000 in
theorem ggX5_goodForks_X3_goodForksOf : GoodIn wsX5_goodForks wsX3_goodForksOf := goodIn_r _ [6, 7, 8, 9, 5, 10, 11, 12, 13, 14, 15, 16, 17, 18, 19, 20, 21, 22, 23, 24, 25, 26, 27, 28, 29, 30, 31, 32, 33, 34, 35, 36, 37, 38, 39, 40, 41, 42, 43, 44, 45, 49, 50, 51, 52, 53, 54, 55, 56, 57] (by decide +kernel) (by decide +kernel)
set_option maxRecDepth 20000 in
theorem gX5_goodForks_X3_goodForksOf : GoodIn wsX5_goodForks (wsV RX5 177 RX3 yX3_goodForksOf wsX3_goodForksOf) := goodIn_app (goodIn_of _ (by decide +kernel)) ggX5_goodForks_X3_goodForksOf
theorem dX5_goodForks_0 : decode cX5_goodForks 0 = .ok (.aload_n 0, 1) := by decide +kernel
theorem dX5_goodForks_1 : decode cX5_goodForks 1 = .ok (.getfield 28, 3) := by decide +kernel
theorem dX5_goodForks_4 : decode cX5_goodForks 4 = .ok (.iconst 0, 1) := by decide +kernel
theorem dX5_goodForks_5 : decode cX5_goodForks 5 = .ok (.invokevirtual 177, 3) := by decide +kernel
theorem dX5_goodForks_8 : decode cX5_goodForks 8 = .ok (.aload_n 0, 1) := by decide +kernel
theorem dX5_goodForks_9 : decode cX5_goodForks 9 = .ok (.getfield 28, 3) := by decide +kernel
theorem dX5_goodForks_12 : decode cX5_goodForks 12 = .ok (.iconst 1, 1) := by decide +kernel
theorem dX5_goodForks_13 : decode cX5_goodForks 13 = .ok (.invokevirtual 177, 3) := by decide +kernel
theorem dX5_goodForks_16 : decode cX5_goodForks 16 = .ok (.isub, 1) := by decide +kernel
theorem dX5_goodForks_17 : decode cX5_goodForks 17 = .ok (.ireturn, 1) := by decide +kernel
theorem dX5_needPlayer_0 : decode cX5_needPlayer 0 = .ok (.iload_n 0, 1) := by decide +kernel
theorem dX5_needPlayer_1 : decode cX5_needPlayer 1 = .ok (.ifCond .lt 8, 3) := by decide +kernel
theorem dX5_needPlayer_4 : decode cX5_needPlayer 4 = .ok (.iload_n 0, 1) := by decide +kernel
theorem dX5_needPlayer_5 : decode cX5_needPlayer 5 = .ok (.iconst 4, 1) := by decide +kernel
theorem dX5_needPlayer_6 : decode cX5_needPlayer 6 = .ok (.if_icmp .lt 13, 3) := by decide +kernel
theorem dX5_needPlayer_9 : decode cX5_needPlayer 9 = .ok (.new 34, 3) := by decide +kernel
theorem dX5_needPlayer_12 : decode cX5_needPlayer 12 = .ok (.dup, 1) := by decide +kernel
theorem dX5_needPlayer_13 : decode cX5_needPlayer 13 = .ok (.ldc 180, 2) := by decide +kernel
theorem dX5_needPlayer_15 : decode cX5_needPlayer 15 = .ok (.invokespecial 38, 3) := by decide +kernel
theorem dX5_needPlayer_18 : decode cX5_needPlayer 18 = .ok (.athrow, 1) := by decide +kernel
theorem dX5_needPlayer_19 : decode cX5_needPlayer 19 = .ok (.return_, 1) := by decide +kernel
theorem dX5_needCard_0 : decode cX5_needCard 0 = .ok (.iload_n 0, 1) := by decide +kernel
theorem dX5_needCard_1 : decode cX5_needCard 1 = .ok (.ifCond .lt 9, 3) := by decide +kernel
theorem dX5_needCard_4 : decode cX5_needCard 4 = .ok (.iload_n 0, 1) := by decide +kernel
theorem dX5_needCard_5 : decode cX5_needCard 5 = .ok (.bipush 24, 2) := by decide +kernel
theorem dX5_needCard_7 : decode cX5_needCard 7 = .ok (.if_icmp .lt 13, 3) := by decide +kernel
theorem dX5_needCard_10 : decode cX5_needCard 10 = .ok (.new 34, 3) := by decide +kernel
theorem dX5_needCard_13 : decode cX5_needCard 13 = .ok (.dup, 1) := by decide +kernel
theorem dX5_needCard_14 : decode cX5_needCard 14 = .ok (.ldc 182, 2) := by decide +kernel
theorem dX5_needCard_16 : decode cX5_needCard 16 = .ok (.invokespecial 38, 3) := by decide +kernel
theorem dX5_needCard_19 : decode cX5_needCard 19 = .ok (.athrow, 1) := by decide +kernel
theorem dX5_needCard_20 : decode cX5_needCard 20 = .ok (.return_, 1) := by decide +kernel
set_option maxRecDepth 20000 in
theorem ggX5_needPlayable_X1_playable : GoodIn wsX5_needPlayable wsX1_playable := goodIn_r _ [8, 9, 10, 11, 7, 12, 13, 14, 15, 16, 17, 18, 19, 20, 21, 22, 23, 24, 25, 26, 27, 28, 29, 30, 31, 32, 33, 34, 35, 36, 37, 38, 39, 40, 41, 42, 43, 44, 45, 46, 47, 48, 49, 50, 51, 52, 53, 60, 61, 62, 63, 64, 65, 66, 67] (by decide +kernel) (by decide +kernel)
set_option maxRecDepth 20000 in
theorem gX5_needPlayable_X1_playable : GoodIn wsX5_needPlayable (wsV RX5 95 RX1 yX1_playable wsX1_playable) := goodIn_app (goodIn_of _ (by decide +kernel)) ggX5_needPlayable_X1_playable
set_option maxRecDepth 20000 in
theorem ggX5_needPlayable_X0_holds : GoodIn wsX5_needPlayable wsX0_holds := goodIn_r _ [56] (by decide +kernel) (by decide +kernel)
set_option maxRecDepth 20000 in
theorem gX5_needPlayable_X0_holds : GoodIn wsX5_needPlayable (va_wsS RX5 98 yX0_holds wsX0_holds) := goodIn_app (goodIn_of _ (by decide +kernel)) ggX5_needPlayable_X0_holds
theorem dX5_needPlayable_0 : decode cX5_needPlayable 0 = .ok (.aload_n 0, 1) := by decide +kernel
theorem dX5_needPlayable_1 : decode cX5_needPlayable 1 = .ok (.getfield 10, 3) := by decide +kernel
theorem dX5_needPlayable_4 : decode cX5_needPlayable 4 = .ok (.invokevirtual 95, 3) := by decide +kernel
theorem dX5_needPlayable_7 : decode cX5_needPlayable 7 = .ok (.iload_n 1, 1) := by decide +kernel
theorem dX5_needPlayable_8 : decode cX5_needPlayable 8 = .ok (.invokestatic 98, 3) := by decide +kernel
theorem dX5_needPlayable_11 : decode cX5_needPlayable 11 = .ok (.ifCond .ne 13, 3) := by decide +kernel
theorem dX5_needPlayable_14 : decode cX5_needPlayable 14 = .ok (.new 56, 3) := by decide +kernel
theorem dX5_needPlayable_17 : decode cX5_needPlayable 17 = .ok (.dup, 1) := by decide +kernel
theorem dX5_needPlayable_18 : decode cX5_needPlayable 18 = .ok (.ldc 184, 2) := by decide +kernel
theorem dX5_needPlayable_20 : decode cX5_needPlayable 20 = .ok (.invokespecial 60, 3) := by decide +kernel
theorem dX5_needPlayable_23 : decode cX5_needPlayable 23 = .ok (.athrow, 1) := by decide +kernel
theorem dX5_needPlayable_24 : decode cX5_needPlayable 24 = .ok (.return_, 1) := by decide +kernel
set_option maxRecDepth 20000 in
theorem ggX5_needStarted_X1_isOpen : GoodIn wsX5_needStarted wsX1_isOpen := goodIn_r _ [8, 9, 13, 14, 15, 16, 17, 18, 19, 20] (by decide +kernel) (by decide +kernel)
set_option maxRecDepth 20000 in
theorem gX5_needStarted_X1_isOpen : GoodIn wsX5_needStarted (wsV RX5 77 RX1 yX1_isOpen wsX1_isOpen) := goodIn_app (goodIn_of _ (by decide +kernel)) ggX5_needStarted_X1_isOpen
theorem dX5_needStarted_0 : decode cX5_needStarted 0 = .ok (.aload_n 0, 1) := by decide +kernel
theorem dX5_needStarted_1 : decode cX5_needStarted 1 = .ok (.getfield 10, 3) := by decide +kernel
theorem dX5_needStarted_4 : decode cX5_needStarted 4 = .ok (.invokevirtual 77, 3) := by decide +kernel
theorem dX5_needStarted_7 : decode cX5_needStarted 7 = .ok (.ifCond .ne 13, 3) := by decide +kernel
theorem dX5_needStarted_10 : decode cX5_needStarted 10 = .ok (.new 56, 3) := by decide +kernel
theorem dX5_needStarted_13 : decode cX5_needStarted 13 = .ok (.dup, 1) := by decide +kernel
theorem dX5_needStarted_14 : decode cX5_needStarted 14 = .ok (.ldc 186, 2) := by decide +kernel
theorem dX5_needStarted_16 : decode cX5_needStarted 16 = .ok (.invokespecial 60, 3) := by decide +kernel
theorem dX5_needStarted_19 : decode cX5_needStarted 19 = .ok (.athrow, 1) := by decide +kernel
theorem dX5_needStarted_20 : decode cX5_needStarted 20 = .ok (.return_, 1) := by decide +kernel
set_option maxRecDepth 20000 in
theorem ggX5_needInHand_X1_ownerOf : GoodIn wsX5_needInHand wsX1_ownerOf := goodIn_r _ [8, 9, 10, 11, 12, 13, 17, 18, 19, 20, 21, 22, 23, 24] (by decide +kernel) (by decide +kernel)
set_option maxRecDepth 20000 in
theorem gX5_needInHand_X1_ownerOf : GoodIn wsX5_needInHand (wsV RX5 163 RX1 yX1_ownerOf wsX1_ownerOf) := goodIn_app (goodIn_of _ (by decide +kernel)) ggX5_needInHand_X1_ownerOf
theorem dX5_needInHand_0 : decode cX5_needInHand 0 = .ok (.aload_n 0, 1) := by decide +kernel
theorem dX5_needInHand_1 : decode cX5_needInHand 1 = .ok (.getfield 10, 3) := by decide +kernel
theorem dX5_needInHand_4 : decode cX5_needInHand 4 = .ok (.iload_n 1, 1) := by decide +kernel
theorem dX5_needInHand_5 : decode cX5_needInHand 5 = .ok (.invokevirtual 163, 3) := by decide +kernel
theorem dX5_needInHand_8 : decode cX5_needInHand 8 = .ok (.iconst (-1), 1) := by decide +kernel
theorem dX5_needInHand_9 : decode cX5_needInHand 9 = .ok (.if_icmp .ne 13, 3) := by decide +kernel
theorem dX5_needInHand_12 : decode cX5_needInHand 12 = .ok (.new 56, 3) := by decide +kernel
theorem dX5_needInHand_15 : decode cX5_needInHand 15 = .ok (.dup, 1) := by decide +kernel
theorem dX5_needInHand_16 : decode cX5_needInHand 16 = .ok (.ldc 188, 2) := by decide +kernel
theorem dX5_needInHand_18 : decode cX5_needInHand 18 = .ok (.invokespecial 60, 3) := by decide +kernel
theorem dX5_needInHand_21 : decode cX5_needInHand 21 = .ok (.athrow, 1) := by decide +kernel
theorem dX5_needInHand_22 : decode cX5_needInHand 22 = .ok (.return_, 1) := by decide +kernel
theorem dJ6_numberOfLeadingZeros_0f7a4_0 : decode cJ6_numberOfLeadingZeros_0f7a4 0 = .ok (.iload_n 0, 1) := by decide +kernel
theorem dJ6_numberOfLeadingZeros_0f7a4_1 : decode cJ6_numberOfLeadingZeros_0f7a4 1 = .ok (.ifCond .gt 14, 3) := by decide +kernel
theorem dJ6_numberOfLeadingZeros_0f7a4_4 : decode cJ6_numberOfLeadingZeros_0f7a4 4 = .ok (.iload_n 0, 1) := by decide +kernel
theorem dJ6_numberOfLeadingZeros_0f7a4_5 : decode cJ6_numberOfLeadingZeros_0f7a4 5 = .ok (.ifCond .ne 8, 3) := by decide +kernel
theorem dJ6_numberOfLeadingZeros_0f7a4_8 : decode cJ6_numberOfLeadingZeros_0f7a4 8 = .ok (.bipush 32, 2) := by decide +kernel
theorem dJ6_numberOfLeadingZeros_0f7a4_10 : decode cJ6_numberOfLeadingZeros_0f7a4 10 = .ok (.goto 4, 3) := by decide +kernel
theorem dJ6_numberOfLeadingZeros_0f7a4_13 : decode cJ6_numberOfLeadingZeros_0f7a4 13 = .ok (.iconst 0, 1) := by decide +kernel
theorem dJ6_numberOfLeadingZeros_0f7a4_14 : decode cJ6_numberOfLeadingZeros_0f7a4 14 = .ok (.ireturn, 1) := by decide +kernel
theorem dJ6_numberOfLeadingZeros_0f7a4_15 : decode cJ6_numberOfLeadingZeros_0f7a4 15 = .ok (.bipush 31, 2) := by decide +kernel
theorem dJ6_numberOfLeadingZeros_0f7a4_17 : decode cJ6_numberOfLeadingZeros_0f7a4 17 = .ok (.istore_n 1, 1) := by decide +kernel
theorem dJ6_numberOfLeadingZeros_0f7a4_18 : decode cJ6_numberOfLeadingZeros_0f7a4 18 = .ok (.iload_n 0, 1) := by decide +kernel
theorem dJ6_numberOfLeadingZeros_0f7a4_19 : decode cJ6_numberOfLeadingZeros_0f7a4 19 = .ok (.ldc_w 264, 3) := by decide +kernel
theorem dJ6_numberOfLeadingZeros_0f7a4_22 : decode cJ6_numberOfLeadingZeros_0f7a4 22 = .ok (.if_icmp .lt 11, 3) := by decide +kernel
theorem dJ6_numberOfLeadingZeros_0f7a4_25 : decode cJ6_numberOfLeadingZeros_0f7a4 25 = .ok (.iinc 1 (-16), 3) := by decide +kernel
theorem dJ6_numberOfLeadingZeros_0f7a4_28 : decode cJ6_numberOfLeadingZeros_0f7a4 28 = .ok (.iload_n 0, 1) := by decide +kernel
theorem dJ6_numberOfLeadingZeros_0f7a4_29 : decode cJ6_numberOfLeadingZeros_0f7a4 29 = .ok (.bipush 16, 2) := by decide +kernel
theorem dJ6_numberOfLeadingZeros_0f7a4_31 : decode cJ6_numberOfLeadingZeros_0f7a4 31 = .ok (.iushr, 1) := by decide +kernel
theorem dJ6_numberOfLeadingZeros_0f7a4_32 : decode cJ6_numberOfLeadingZeros_0f7a4 32 = .ok (.istore_n 0, 1) := by decide +kernel
theorem dJ6_numberOfLeadingZeros_0f7a4_33 : decode cJ6_numberOfLeadingZeros_0f7a4 33 = .ok (.iload_n 0, 1) := by decide +kernel
theorem dJ6_numberOfLeadingZeros_0f7a4_34 : decode cJ6_numberOfLeadingZeros_0f7a4 34 = .ok (.sipush 256, 3) := by decide +kernel
theorem dJ6_numberOfLeadingZeros_0f7a4_37 : decode cJ6_numberOfLeadingZeros_0f7a4 37 = .ok (.if_icmp .lt 11, 3) := by decide +kernel
theorem dJ6_numberOfLeadingZeros_0f7a4_40 : decode cJ6_numberOfLeadingZeros_0f7a4 40 = .ok (.iinc 1 (-8), 3) := by decide +kernel
theorem dJ6_numberOfLeadingZeros_0f7a4_43 : decode cJ6_numberOfLeadingZeros_0f7a4 43 = .ok (.iload_n 0, 1) := by decide +kernel
theorem dJ6_numberOfLeadingZeros_0f7a4_44 : decode cJ6_numberOfLeadingZeros_0f7a4 44 = .ok (.bipush 8, 2) := by decide +kernel
theorem dJ6_numberOfLeadingZeros_0f7a4_46 : decode cJ6_numberOfLeadingZeros_0f7a4 46 = .ok (.iushr, 1) := by decide +kernel
theorem dJ6_numberOfLeadingZeros_0f7a4_47 : decode cJ6_numberOfLeadingZeros_0f7a4 47 = .ok (.istore_n 0, 1) := by decide +kernel
theorem dJ6_numberOfLeadingZeros_0f7a4_48 : decode cJ6_numberOfLeadingZeros_0f7a4 48 = .ok (.iload_n 0, 1) := by decide +kernel
theorem dJ6_numberOfLeadingZeros_0f7a4_49 : decode cJ6_numberOfLeadingZeros_0f7a4 49 = .ok (.bipush 16, 2) := by decide +kernel
theorem dJ6_numberOfLeadingZeros_0f7a4_51 : decode cJ6_numberOfLeadingZeros_0f7a4 51 = .ok (.if_icmp .lt 10, 3) := by decide +kernel
theorem dJ6_numberOfLeadingZeros_0f7a4_54 : decode cJ6_numberOfLeadingZeros_0f7a4 54 = .ok (.iinc 1 (-4), 3) := by decide +kernel
theorem dJ6_numberOfLeadingZeros_0f7a4_57 : decode cJ6_numberOfLeadingZeros_0f7a4 57 = .ok (.iload_n 0, 1) := by decide +kernel
theorem dJ6_numberOfLeadingZeros_0f7a4_58 : decode cJ6_numberOfLeadingZeros_0f7a4 58 = .ok (.iconst 4, 1) := by decide +kernel
theorem dJ6_numberOfLeadingZeros_0f7a4_59 : decode cJ6_numberOfLeadingZeros_0f7a4 59 = .ok (.iushr, 1) := by decide +kernel
theorem dJ6_numberOfLeadingZeros_0f7a4_60 : decode cJ6_numberOfLeadingZeros_0f7a4 60 = .ok (.istore_n 0, 1) := by decide +kernel
theorem dJ6_numberOfLeadingZeros_0f7a4_61 : decode cJ6_numberOfLeadingZeros_0f7a4 61 = .ok (.iload_n 0, 1) := by decide +kernel
theorem dJ6_numberOfLeadingZeros_0f7a4_62 : decode cJ6_numberOfLeadingZeros_0f7a4 62 = .ok (.iconst 4, 1) := by decide +kernel
theorem dJ6_numberOfLeadingZeros_0f7a4_63 : decode cJ6_numberOfLeadingZeros_0f7a4 63 = .ok (.if_icmp .lt 10, 3) := by decide +kernel
theorem dJ6_numberOfLeadingZeros_0f7a4_66 : decode cJ6_numberOfLeadingZeros_0f7a4 66 = .ok (.iinc 1 (-2), 3) := by decide +kernel
theorem dJ6_numberOfLeadingZeros_0f7a4_69 : decode cJ6_numberOfLeadingZeros_0f7a4 69 = .ok (.iload_n 0, 1) := by decide +kernel
theorem dJ6_numberOfLeadingZeros_0f7a4_70 : decode cJ6_numberOfLeadingZeros_0f7a4 70 = .ok (.iconst 2, 1) := by decide +kernel
theorem dJ6_numberOfLeadingZeros_0f7a4_71 : decode cJ6_numberOfLeadingZeros_0f7a4 71 = .ok (.iushr, 1) := by decide +kernel
theorem dJ6_numberOfLeadingZeros_0f7a4_72 : decode cJ6_numberOfLeadingZeros_0f7a4 72 = .ok (.istore_n 0, 1) := by decide +kernel
theorem dJ6_numberOfLeadingZeros_0f7a4_73 : decode cJ6_numberOfLeadingZeros_0f7a4 73 = .ok (.iload_n 1, 1) := by decide +kernel
theorem dJ6_numberOfLeadingZeros_0f7a4_74 : decode cJ6_numberOfLeadingZeros_0f7a4 74 = .ok (.iload_n 0, 1) := by decide +kernel
theorem dJ6_numberOfLeadingZeros_0f7a4_75 : decode cJ6_numberOfLeadingZeros_0f7a4 75 = .ok (.iconst 1, 1) := by decide +kernel
theorem dJ6_numberOfLeadingZeros_0f7a4_76 : decode cJ6_numberOfLeadingZeros_0f7a4 76 = .ok (.iushr, 1) := by decide +kernel
theorem dJ6_numberOfLeadingZeros_0f7a4_77 : decode cJ6_numberOfLeadingZeros_0f7a4 77 = .ok (.isub, 1) := by decide +kernel
theorem dJ6_numberOfLeadingZeros_0f7a4_78 : decode cJ6_numberOfLeadingZeros_0f7a4 78 = .ok (.ireturn, 1) := by decide +kernel
theorem dJ6_numberOfTrailingZeros_0f7a4_0 : decode cJ6_numberOfTrailingZeros_0f7a4 0 = .ok (.iload_n 0, 1) := by decide +kernel
theorem dJ6_numberOfTrailingZeros_0f7a4_1 : decode cJ6_numberOfTrailingZeros_0f7a4 1 = .ok (.iconst (-1), 1) := by decide +kernel
theorem dJ6_numberOfTrailingZeros_0f7a4_2 : decode cJ6_numberOfTrailingZeros_0f7a4 2 = .ok (.ixor, 1) := by decide +kernel
theorem dJ6_numberOfTrailingZeros_0f7a4_3 : decode cJ6_numberOfTrailingZeros_0f7a4 3 = .ok (.iload_n 0, 1) := by decide +kernel
theorem dJ6_numberOfTrailingZeros_0f7a4_4 : decode cJ6_numberOfTrailingZeros_0f7a4 4 = .ok (.iconst 1, 1) := by decide +kernel
theorem dJ6_numberOfTrailingZeros_0f7a4_5 : decode cJ6_numberOfTrailingZeros_0f7a4 5 = .ok (.isub, 1) := by decide +kernel
theorem dJ6_numberOfTrailingZeros_0f7a4_6 : decode cJ6_numberOfTrailingZeros_0f7a4 6 = .ok (.iand, 1) := by decide +kernel
theorem dJ6_numberOfTrailingZeros_0f7a4_7 : decode cJ6_numberOfTrailingZeros_0f7a4 7 = .ok (.istore_n 0, 1) := by decide +kernel
theorem dJ6_numberOfTrailingZeros_0f7a4_8 : decode cJ6_numberOfTrailingZeros_0f7a4 8 = .ok (.iload_n 0, 1) := by decide +kernel
theorem dJ6_numberOfTrailingZeros_0f7a4_9 : decode cJ6_numberOfTrailingZeros_0f7a4 9 = .ok (.ifCond .gt 8, 3) := by decide +kernel
theorem dJ6_numberOfTrailingZeros_0f7a4_12 : decode cJ6_numberOfTrailingZeros_0f7a4 12 = .ok (.iload_n 0, 1) := by decide +kernel
theorem dJ6_numberOfTrailingZeros_0f7a4_13 : decode cJ6_numberOfTrailingZeros_0f7a4 13 = .ok (.bipush 32, 2) := by decide +kernel
theorem dJ6_numberOfTrailingZeros_0f7a4_15 : decode cJ6_numberOfTrailingZeros_0f7a4 15 = .ok (.iand, 1) := by decide +kernel
theorem dJ6_numberOfTrailingZeros_0f7a4_16 : decode cJ6_numberOfTrailingZeros_0f7a4 16 = .ok (.ireturn, 1) := by decide +kernel
theorem dJ6_numberOfTrailingZeros_0f7a4_17 : decode cJ6_numberOfTrailingZeros_0f7a4 17 = .ok (.iconst 1, 1) := by decide +kernel
theorem dJ6_numberOfTrailingZeros_0f7a4_18 : decode cJ6_numberOfTrailingZeros_0f7a4 18 = .ok (.istore_n 1, 1) := by decide +kernel
theorem dJ6_numberOfTrailingZeros_0f7a4_19 : decode cJ6_numberOfTrailingZeros_0f7a4 19 = .ok (.iload_n 0, 1) := by decide +kernel
theorem dJ6_numberOfTrailingZeros_0f7a4_20 : decode cJ6_numberOfTrailingZeros_0f7a4 20 = .ok (.ldc_w 264, 3) := by decide +kernel
theorem dJ6_numberOfTrailingZeros_0f7a4_23 : decode cJ6_numberOfTrailingZeros_0f7a4 23 = .ok (.if_icmp .le 11, 3) := by decide +kernel
theorem dJ6_numberOfTrailingZeros_0f7a4_26 : decode cJ6_numberOfTrailingZeros_0f7a4 26 = .ok (.iinc 1 16, 3) := by decide +kernel
theorem dJ6_numberOfTrailingZeros_0f7a4_29 : decode cJ6_numberOfTrailingZeros_0f7a4 29 = .ok (.iload_n 0, 1) := by decide +kernel
theorem dJ6_numberOfTrailingZeros_0f7a4_30 : decode cJ6_numberOfTrailingZeros_0f7a4 30 = .ok (.bipush 16, 2) := by decide +kernel
theorem dJ6_numberOfTrailingZeros_0f7a4_32 : decode cJ6_numberOfTrailingZeros_0f7a4 32 = .ok (.iushr, 1) := by decide +kernel
theorem dJ6_numberOfTrailingZeros_0f7a4_33 : decode cJ6_numberOfTrailingZeros_0f7a4 33 = .ok (.istore_n 0, 1) := by decide +kernel
theorem dJ6_numberOfTrailingZeros_0f7a4_34 : decode cJ6_numberOfTrailingZeros_0f7a4 34 = .ok (.iload_n 0, 1) := by decide +kernel
theorem dJ6_numberOfTrailingZeros_0f7a4_35 : decode cJ6_numberOfTrailingZeros_0f7a4 35 = .ok (.sipush 256, 3) := by decide +kernel
theorem dJ6_numberOfTrailingZeros_0f7a4_38 : decode cJ6_numberOfTrailingZeros_0f7a4 38 = .ok (.if_icmp .le 11, 3) := by decide +kernel
theorem dJ6_numberOfTrailingZeros_0f7a4_41 : decode cJ6_numberOfTrailingZeros_0f7a4 41 = .ok (.iinc 1 8, 3) := by decide +kernel
theorem dJ6_numberOfTrailingZeros_0f7a4_44 : decode cJ6_numberOfTrailingZeros_0f7a4 44 = .ok (.iload_n 0, 1) := by decide +kernel
theorem dJ6_numberOfTrailingZeros_0f7a4_45 : decode cJ6_numberOfTrailingZeros_0f7a4 45 = .ok (.bipush 8, 2) := by decide +kernel
theorem dJ6_numberOfTrailingZeros_0f7a4_47 : decode cJ6_numberOfTrailingZeros_0f7a4 47 = .ok (.iushr, 1) := by decide +kernel
theorem dJ6_numberOfTrailingZeros_0f7a4_48 : decode cJ6_numberOfTrailingZeros_0f7a4 48 = .ok (.istore_n 0, 1) := by decide +kernel
theorem dJ6_numberOfTrailingZeros_0f7a4_49 : decode cJ6_numberOfTrailingZeros_0f7a4 49 = .ok (.iload_n 0, 1) := by decide +kernel
theorem dJ6_numberOfTrailingZeros_0f7a4_50 : decode cJ6_numberOfTrailingZeros_0f7a4 50 = .ok (.bipush 16, 2) := by decide +kernel
theorem dJ6_numberOfTrailingZeros_0f7a4_52 : decode cJ6_numberOfTrailingZeros_0f7a4 52 = .ok (.if_icmp .le 10, 3) := by decide +kernel
theorem dJ6_numberOfTrailingZeros_0f7a4_55 : decode cJ6_numberOfTrailingZeros_0f7a4 55 = .ok (.iinc 1 4, 3) := by decide +kernel
theorem dJ6_numberOfTrailingZeros_0f7a4_58 : decode cJ6_numberOfTrailingZeros_0f7a4 58 = .ok (.iload_n 0, 1) := by decide +kernel
theorem dJ6_numberOfTrailingZeros_0f7a4_59 : decode cJ6_numberOfTrailingZeros_0f7a4 59 = .ok (.iconst 4, 1) := by decide +kernel
theorem dJ6_numberOfTrailingZeros_0f7a4_60 : decode cJ6_numberOfTrailingZeros_0f7a4 60 = .ok (.iushr, 1) := by decide +kernel
theorem dJ6_numberOfTrailingZeros_0f7a4_61 : decode cJ6_numberOfTrailingZeros_0f7a4 61 = .ok (.istore_n 0, 1) := by decide +kernel
theorem dJ6_numberOfTrailingZeros_0f7a4_62 : decode cJ6_numberOfTrailingZeros_0f7a4 62 = .ok (.iload_n 0, 1) := by decide +kernel
theorem dJ6_numberOfTrailingZeros_0f7a4_63 : decode cJ6_numberOfTrailingZeros_0f7a4 63 = .ok (.iconst 4, 1) := by decide +kernel
theorem dJ6_numberOfTrailingZeros_0f7a4_64 : decode cJ6_numberOfTrailingZeros_0f7a4 64 = .ok (.if_icmp .le 10, 3) := by decide +kernel
theorem dJ6_numberOfTrailingZeros_0f7a4_67 : decode cJ6_numberOfTrailingZeros_0f7a4 67 = .ok (.iinc 1 2, 3) := by decide +kernel
theorem dJ6_numberOfTrailingZeros_0f7a4_70 : decode cJ6_numberOfTrailingZeros_0f7a4 70 = .ok (.iload_n 0, 1) := by decide +kernel
theorem dJ6_numberOfTrailingZeros_0f7a4_71 : decode cJ6_numberOfTrailingZeros_0f7a4 71 = .ok (.iconst 2, 1) := by decide +kernel
theorem dJ6_numberOfTrailingZeros_0f7a4_72 : decode cJ6_numberOfTrailingZeros_0f7a4 72 = .ok (.iushr, 1) := by decide +kernel
theorem dJ6_numberOfTrailingZeros_0f7a4_73 : decode cJ6_numberOfTrailingZeros_0f7a4 73 = .ok (.istore_n 0, 1) := by decide +kernel
theorem dJ6_numberOfTrailingZeros_0f7a4_74 : decode cJ6_numberOfTrailingZeros_0f7a4 74 = .ok (.iload_n 1, 1) := by decide +kernel
theorem dJ6_numberOfTrailingZeros_0f7a4_75 : decode cJ6_numberOfTrailingZeros_0f7a4 75 = .ok (.iload_n 0, 1) := by decide +kernel
theorem dJ6_numberOfTrailingZeros_0f7a4_76 : decode cJ6_numberOfTrailingZeros_0f7a4 76 = .ok (.iconst 1, 1) := by decide +kernel
theorem dJ6_numberOfTrailingZeros_0f7a4_77 : decode cJ6_numberOfTrailingZeros_0f7a4 77 = .ok (.iushr, 1) := by decide +kernel
theorem dJ6_numberOfTrailingZeros_0f7a4_78 : decode cJ6_numberOfTrailingZeros_0f7a4 78 = .ok (.iadd, 1) := by decide +kernel
theorem dJ6_numberOfTrailingZeros_0f7a4_79 : decode cJ6_numberOfTrailingZeros_0f7a4 79 = .ok (.ireturn, 1) := by decide +kernel
theorem dJ6_bitCount_0f7a4_0 : decode cJ6_bitCount_0f7a4 0 = .ok (.iload_n 0, 1) := by decide +kernel
theorem dJ6_bitCount_0f7a4_1 : decode cJ6_bitCount_0f7a4 1 = .ok (.iload_n 0, 1) := by decide +kernel
theorem dJ6_bitCount_0f7a4_2 : decode cJ6_bitCount_0f7a4 2 = .ok (.iconst 1, 1) := by decide +kernel
theorem dJ6_bitCount_0f7a4_3 : decode cJ6_bitCount_0f7a4 3 = .ok (.iushr, 1) := by decide +kernel
theorem dJ6_bitCount_0f7a4_4 : decode cJ6_bitCount_0f7a4 4 = .ok (.ldc_w 265, 3) := by decide +kernel
theorem dJ6_bitCount_0f7a4_7 : decode cJ6_bitCount_0f7a4 7 = .ok (.iand, 1) := by decide +kernel
theorem dJ6_bitCount_0f7a4_8 : decode cJ6_bitCount_0f7a4 8 = .ok (.isub, 1) := by decide +kernel
theorem dJ6_bitCount_0f7a4_9 : decode cJ6_bitCount_0f7a4 9 = .ok (.istore_n 0, 1) := by decide +kernel
theorem dJ6_bitCount_0f7a4_10 : decode cJ6_bitCount_0f7a4 10 = .ok (.iload_n 0, 1) := by decide +kernel
theorem dJ6_bitCount_0f7a4_11 : decode cJ6_bitCount_0f7a4 11 = .ok (.ldc_w 266, 3) := by decide +kernel
theorem dJ6_bitCount_0f7a4_14 : decode cJ6_bitCount_0f7a4 14 = .ok (.iand, 1) := by decide +kernel
theorem dJ6_bitCount_0f7a4_15 : decode cJ6_bitCount_0f7a4 15 = .ok (.iload_n 0, 1) := by decide +kernel
theorem dJ6_bitCount_0f7a4_16 : decode cJ6_bitCount_0f7a4 16 = .ok (.iconst 2, 1) := by decide +kernel
theorem dJ6_bitCount_0f7a4_17 : decode cJ6_bitCount_0f7a4 17 = .ok (.iushr, 1) := by decide +kernel
theorem dJ6_bitCount_0f7a4_18 : decode cJ6_bitCount_0f7a4 18 = .ok (.ldc_w 266, 3) := by decide +kernel
theorem dJ6_bitCount_0f7a4_21 : decode cJ6_bitCount_0f7a4 21 = .ok (.iand, 1) := by decide +kernel
theorem dJ6_bitCount_0f7a4_22 : decode cJ6_bitCount_0f7a4 22 = .ok (.iadd, 1) := by decide +kernel
theorem dJ6_bitCount_0f7a4_23 : decode cJ6_bitCount_0f7a4 23 = .ok (.istore_n 0, 1) := by decide +kernel
theorem dJ6_bitCount_0f7a4_24 : decode cJ6_bitCount_0f7a4 24 = .ok (.iload_n 0, 1) := by decide +kernel
theorem dJ6_bitCount_0f7a4_25 : decode cJ6_bitCount_0f7a4 25 = .ok (.iload_n 0, 1) := by decide +kernel
theorem dJ6_bitCount_0f7a4_26 : decode cJ6_bitCount_0f7a4 26 = .ok (.iconst 4, 1) := by decide +kernel
theorem dJ6_bitCount_0f7a4_27 : decode cJ6_bitCount_0f7a4 27 = .ok (.iushr, 1) := by decide +kernel
theorem dJ6_bitCount_0f7a4_28 : decode cJ6_bitCount_0f7a4 28 = .ok (.iadd, 1) := by decide +kernel
theorem dJ6_bitCount_0f7a4_29 : decode cJ6_bitCount_0f7a4 29 = .ok (.ldc_w 267, 3) := by decide +kernel
theorem dJ6_bitCount_0f7a4_32 : decode cJ6_bitCount_0f7a4 32 = .ok (.iand, 1) := by decide +kernel
theorem dJ6_bitCount_0f7a4_33 : decode cJ6_bitCount_0f7a4 33 = .ok (.istore_n 0, 1) := by decide +kernel
theorem dJ6_bitCount_0f7a4_34 : decode cJ6_bitCount_0f7a4 34 = .ok (.iload_n 0, 1) := by decide +kernel
theorem dJ6_bitCount_0f7a4_35 : decode cJ6_bitCount_0f7a4 35 = .ok (.iload_n 0, 1) := by decide +kernel
theorem dJ6_bitCount_0f7a4_36 : decode cJ6_bitCount_0f7a4 36 = .ok (.bipush 8, 2) := by decide +kernel
theorem dJ6_bitCount_0f7a4_38 : decode cJ6_bitCount_0f7a4 38 = .ok (.iushr, 1) := by decide +kernel
theorem dJ6_bitCount_0f7a4_39 : decode cJ6_bitCount_0f7a4 39 = .ok (.iadd, 1) := by decide +kernel
theorem dJ6_bitCount_0f7a4_40 : decode cJ6_bitCount_0f7a4 40 = .ok (.istore_n 0, 1) := by decide +kernel
theorem dJ6_bitCount_0f7a4_41 : decode cJ6_bitCount_0f7a4 41 = .ok (.iload_n 0, 1) := by decide +kernel
theorem dJ6_bitCount_0f7a4_42 : decode cJ6_bitCount_0f7a4 42 = .ok (.iload_n 0, 1) := by decide +kernel
theorem dJ6_bitCount_0f7a4_43 : decode cJ6_bitCount_0f7a4 43 = .ok (.bipush 16, 2) := by decide +kernel
theorem dJ6_bitCount_0f7a4_45 : decode cJ6_bitCount_0f7a4 45 = .ok (.iushr, 1) := by decide +kernel
theorem dJ6_bitCount_0f7a4_46 : decode cJ6_bitCount_0f7a4 46 = .ok (.iadd, 1) := by decide +kernel
theorem dJ6_bitCount_0f7a4_47 : decode cJ6_bitCount_0f7a4 47 = .ok (.istore_n 0, 1) := by decide +kernel
theorem dJ6_bitCount_0f7a4_48 : decode cJ6_bitCount_0f7a4 48 = .ok (.iload_n 0, 1) := by decide +kernel
theorem dJ6_bitCount_0f7a4_49 : decode cJ6_bitCount_0f7a4 49 = .ok (.bipush 63, 2) := by decide +kernel
theorem dJ6_bitCount_0f7a4_51 : decode cJ6_bitCount_0f7a4 51 = .ok (.iand, 1) := by decide +kernel
theorem dJ6_bitCount_0f7a4_52 : decode cJ6_bitCount_0f7a4 52 = .ok (.ireturn, 1) := by decide +kernel
theorem dJ9_max_7cf53_0 : decode cJ9_max_7cf53 0 = .ok (.iload_n 0, 1) := by decide +kernel
theorem dJ9_max_7cf53_1 : decode cJ9_max_7cf53 1 = .ok (.iload_n 1, 1) := by decide +kernel
theorem dJ9_max_7cf53_2 : decode cJ9_max_7cf53 2 = .ok (.if_icmp .lt 7, 3) := by decide +kernel
theorem dJ9_max_7cf53_5 : decode cJ9_max_7cf53 5 = .ok (.iload_n 0, 1) := by decide +kernel
theorem dJ9_max_7cf53_6 : decode cJ9_max_7cf53 6 = .ok (.goto 4, 3) := by decide +kernel
theorem dJ9_max_7cf53_9 : decode cJ9_max_7cf53 9 = .ok (.iload_n 1, 1) := by decide +kernel
theorem dJ9_max_7cf53_10 : decode cJ9_max_7cf53 10 = .ok (.ireturn, 1) := by decide +kernel
theorem dJ9_min_7cf53_0 : decode cJ9_min_7cf53 0 = .ok (.iload_n 0, 1) := by decide +kernel
theorem dJ9_min_7cf53_1 : decode cJ9_min_7cf53 1 = .ok (.iload_n 1, 1) := by decide +kernel
theorem dJ9_min_7cf53_2 : decode cJ9_min_7cf53 2 = .ok (.if_icmp .gt 7, 3) := by decide +kernel
theorem dJ9_min_7cf53_5 : decode cJ9_min_7cf53 5 = .ok (.iload_n 0, 1) := by decide +kernel
theorem dJ9_min_7cf53_6 : decode cJ9_min_7cf53 6 = .ok (.goto 4, 3) := by decide +kernel
theorem dJ9_min_7cf53_9 : decode cJ9_min_7cf53 9 = .ok (.iload_n 1, 1) := by decide +kernel
theorem dJ9_min_7cf53_10 : decode cJ9_min_7cf53 10 = .ok (.ireturn, 1) := by decide +kernel
theorem dL_has_0 : decode cL_has 0 = .ok (.iload_n 0, 1) := by decide +kernel
theorem dL_has_1 : decode cL_has 1 = .ok (.iload_n 1, 1) := by decide +kernel
theorem dL_has_2 : decode cL_has 2 = .ok (.ishr, 1) := by decide +kernel
theorem dL_has_3 : decode cL_has 3 = .ok (.iconst 1, 1) := by decide +kernel
theorem dL_has_4 : decode cL_has 4 = .ok (.iand, 1) := by decide +kernel
theorem dL_has_5 : decode cL_has 5 = .ok (.iconst 1, 1) := by decide +kernel
theorem dL_has_6 : decode cL_has 6 = .ok (.if_icmp .ne 7, 3) := by decide +kernel
theorem dL_has_9 : decode cL_has 9 = .ok (.iconst 1, 1) := by decide +kernel
theorem dL_has_10 : decode cL_has 10 = .ok (.goto 4, 3) := by decide +kernel
theorem dL_has_13 : decode cL_has 13 = .ok (.iconst 0, 1) := by decide +kernel
theorem dL_has_14 : decode cL_has 14 = .ok (.ireturn, 1) := by decide +kernel
theorem dL_size_0 : decode cL_size 0 = .ok (.iconst 0, 1) := by decide +kernel
theorem dL_size_1 : decode cL_size 1 = .ok (.istore_n 1, 1) := by decide +kernel
theorem dL_size_2 : decode cL_size 2 = .ok (.iload_n 0, 1) := by decide +kernel
theorem dL_size_3 : decode cL_size 3 = .ok (.istore_n 2, 1) := by decide +kernel
theorem dL_size_4 : decode cL_size 4 = .ok (.iload_n 2, 1) := by decide +kernel
theorem dL_size_5 : decode cL_size 5 = .ok (.ifCond .eq 15, 3) := by decide +kernel
theorem dL_size_8 : decode cL_size 8 = .ok (.iinc 1 1, 3) := by decide +kernel
theorem dL_size_11 : decode cL_size 11 = .ok (.iload_n 2, 1) := by decide +kernel
theorem dL_size_12 : decode cL_size 12 = .ok (.iload_n 2, 1) := by decide +kernel
theorem dL_size_13 : decode cL_size 13 = .ok (.iconst 1, 1) := by decide +kernel
theorem dL_size_14 : decode cL_size 14 = .ok (.isub, 1) := by decide +kernel
theorem dL_size_15 : decode cL_size 15 = .ok (.iand, 1) := by decide +kernel
theorem dL_size_16 : decode cL_size 16 = .ok (.istore_n 2, 1) := by decide +kernel
theorem dL_size_17 : decode cL_size 17 = .ok (.goto (-13), 3) := by decide +kernel
theorem dL_size_20 : decode cL_size 20 = .ok (.iload_n 1, 1) := by decide +kernel
theorem dL_size_21 : decode cL_size 21 = .ok (.ireturn, 1) := by decide +kernel
theorem dL_leader_0 : decode cL_leader 0 = .ok (.aload_n 1, 1) := by decide +kernel
theorem dL_leader_1 : decode cL_leader 1 = .ok (.iconst 2, 1) := by decide +kernel
theorem dL_leader_2 : decode cL_leader 2 = .ok (.iaload, 1) := by decide +kernel
theorem dL_leader_3 : decode cL_leader 3 = .ok (.istore_n 3, 1) := by decide +kernel
theorem dL_leader_4 : decode cL_leader 4 = .ok (.iconst 0, 1) := by decide +kernel
theorem dL_leader_5 : decode cL_leader 5 = .ok (.istore 4, 2) := by decide +kernel
theorem dL_leader_7 : decode cL_leader 7 = .ok (.iload 4, 2) := by decide +kernel
theorem dL_leader_9 : decode cL_leader 9 = .ok (.iconst 4, 1) := by decide +kernel
theorem dL_leader_10 : decode cL_leader 10 = .ok (.iadd, 1) := by decide +kernel
theorem dL_leader_11 : decode cL_leader 11 = .ok (.iload_n 2, 1) := by decide +kernel
theorem dL_leader_12 : decode cL_leader 12 = .ok (.if_icmp .gt 118, 3) := by decide +kernel
theorem dL_leader_15 : decode cL_leader 15 = .ok (.iload 4, 2) := by decide +kernel
theorem dL_leader_17 : decode cL_leader 17 = .ok (.istore 5, 2) := by decide +kernel
theorem dL_leader_19 : decode cL_leader 19 = .ok (.iload 4, 2) := by decide +kernel
theorem dL_leader_21 : decode cL_leader 21 = .ok (.iconst 1, 1) := by decide +kernel
theorem dL_leader_22 : decode cL_leader 22 = .ok (.iadd, 1) := by decide +kernel
theorem dL_leader_23 : decode cL_leader 23 = .ok (.istore 6, 2) := by decide +kernel
theorem dL_leader_25 : decode cL_leader 25 = .ok (.iload 6, 2) := by decide +kernel
theorem dL_leader_27 : decode cL_leader 27 = .ok (.iload 4, 2) := by decide +kernel
theorem dL_leader_29 : decode cL_leader 29 = .ok (.iconst 4, 1) := by decide +kernel
theorem dL_leader_30 : decode cL_leader 30 = .ok (.iadd, 1) := by decide +kernel
theorem dL_leader_31 : decode cL_leader 31 = .ok (.if_icmp .ge 83, 3) := by decide +kernel
theorem dL_leader_34 : decode cL_leader 34 = .ok (.aload_n 0, 1) := by decide +kernel
theorem dL_leader_35 : decode cL_leader 35 = .ok (.iload 6, 2) := by decide +kernel
theorem dL_leader_37 : decode cL_leader 37 = .ok (.iaload, 1) := by decide +kernel
theorem dL_leader_38 : decode cL_leader 38 = .ok (.bipush 6, 2) := by decide +kernel
theorem dL_leader_40 : decode cL_leader 40 = .ok (.idiv, 1) := by decide +kernel
theorem dL_leader_41 : decode cL_leader 41 = .ok (.aload_n 1, 1) := by decide +kernel
theorem dL_leader_42 : decode cL_leader 42 = .ok (.iconst 1, 1) := by decide +kernel
theorem dL_leader_43 : decode cL_leader 43 = .ok (.iaload, 1) := by decide +kernel
theorem dL_leader_44 : decode cL_leader 44 = .ok (.if_icmp .ne 7, 3) := by decide +kernel
theorem dL_leader_47 : decode cL_leader 47 = .ok (.iconst 1, 1) := by decide +kernel
theorem dL_leader_48 : decode cL_leader 48 = .ok (.goto 4, 3) := by decide +kernel
theorem dL_leader_51 : decode cL_leader 51 = .ok (.iconst 0, 1) := by decide +kernel
theorem dL_leader_52 : decode cL_leader 52 = .ok (.istore 7, 2) := by decide +kernel
theorem dL_leader_54 : decode cL_leader 54 = .ok (.aload_n 0, 1) := by decide +kernel
theorem dL_leader_55 : decode cL_leader 55 = .ok (.iload 6, 2) := by decide +kernel
theorem dL_leader_57 : decode cL_leader 57 = .ok (.iaload, 1) := by decide +kernel
theorem dL_leader_58 : decode cL_leader 58 = .ok (.bipush 6, 2) := by decide +kernel
theorem dL_leader_60 : decode cL_leader 60 = .ok (.idiv, 1) := by decide +kernel
theorem dL_leader_61 : decode cL_leader 61 = .ok (.aload_n 0, 1) := by decide +kernel
theorem dL_leader_62 : decode cL_leader 62 = .ok (.iload 5, 2) := by decide +kernel
theorem dL_leader_64 : decode cL_leader 64 = .ok (.iaload, 1) := by decide +kernel
theorem dL_leader_65 : decode cL_leader 65 = .ok (.bipush 6, 2) := by decide +kernel
theorem dL_leader_67 : decode cL_leader 67 = .ok (.idiv, 1) := by decide +kernel
theorem dL_leader_68 : decode cL_leader 68 = .ok (.if_icmp .ne 22, 3) := by decide +kernel
theorem dL_leader_71 : decode cL_leader 71 = .ok (.aload_n 0, 1) := by decide +kernel
theorem dL_leader_72 : decode cL_leader 72 = .ok (.iload 6, 2) := by decide +kernel
theorem dL_leader_74 : decode cL_leader 74 = .ok (.iaload, 1) := by decide +kernel
theorem dL_leader_75 : decode cL_leader 75 = .ok (.aload_n 0, 1) := by decide +kernel
theorem dL_leader_76 : decode cL_leader 76 = .ok (.iload 5, 2) := by decide +kernel
theorem dL_leader_78 : decode cL_leader 78 = .ok (.iaload, 1) := by decide +kernel
theorem dL_leader_79 : decode cL_leader 79 = .ok (.if_icmp .le 7, 3) := by decide +kernel
theorem dL_leader_82 : decode cL_leader 82 = .ok (.iconst 1, 1) := by decide +kernel
theorem dL_leader_83 : decode cL_leader 83 = .ok (.goto 9, 3) := by decide +kernel
theorem dL_leader_86 : decode cL_leader 86 = .ok (.iconst 0, 1) := by decide +kernel
theorem dL_leader_87 : decode cL_leader 87 = .ok (.goto 5, 3) := by decide +kernel
theorem dL_leader_90 : decode cL_leader 90 = .ok (.iload 7, 2) := by decide +kernel
theorem dL_leader_92 : decode cL_leader 92 = .ok (.istore 8, 2) := by decide +kernel
theorem dL_leader_94 : decode cL_leader 94 = .ok (.iload 8, 2) := by decide +kernel
theorem dL_leader_96 : decode cL_leader 96 = .ok (.ifCond .eq 8, 3) := by decide +kernel
theorem dL_leader_99 : decode cL_leader 99 = .ok (.iload 6, 2) := by decide +kernel
theorem dL_leader_101 : decode cL_leader 101 = .ok (.goto 5, 3) := by decide +kernel
theorem dL_leader_104 : decode cL_leader 104 = .ok (.iload 5, 2) := by decide +kernel
theorem dL_leader_106 : decode cL_leader 106 = .ok (.istore 5, 2) := by decide +kernel
theorem dL_leader_108 : decode cL_leader 108 = .ok (.iinc 6 1, 3) := by decide +kernel
theorem dL_leader_111 : decode cL_leader 111 = .ok (.goto (-86), 3) := by decide +kernel
theorem dL_leader_114 : decode cL_leader 114 = .ok (.iload_n 3, 1) := by decide +kernel
theorem dL_leader_115 : decode cL_leader 115 = .ok (.iload 5, 2) := by decide +kernel
theorem dL_leader_117 : decode cL_leader 117 = .ok (.iadd, 1) := by decide +kernel
theorem dL_leader_118 : decode cL_leader 118 = .ok (.iload 4, 2) := by decide +kernel
theorem dL_leader_120 : decode cL_leader 120 = .ok (.isub, 1) := by decide +kernel
theorem dL_leader_121 : decode cL_leader 121 = .ok (.iconst 4, 1) := by decide +kernel
theorem dL_leader_122 : decode cL_leader 122 = .ok (.irem, 1) := by decide +kernel
theorem dL_leader_123 : decode cL_leader 123 = .ok (.istore_n 3, 1) := by decide +kernel
theorem dL_leader_124 : decode cL_leader 124 = .ok (.iinc 4 4, 3) := by decide +kernel
theorem dL_leader_127 : decode cL_leader 127 = .ok (.goto (-120), 3) := by decide +kernel
theorem dL_leader_130 : decode cL_leader 130 = .ok (.iload_n 3, 1) := by decide +kernel
theorem dL_leader_131 : decode cL_leader 131 = .ok (.ireturn, 1) := by decide +kernel
set_option maxRecDepth 20000 in
theorem ggL_tricks_L_leader : GoodIn wsL_tricks wsL_leader := goodIn_r _ [4] (by decide +kernel) (by decide +kernel)
set_option maxRecDepth 20000 in
theorem gL_tricks_L_leader : GoodIn wsL_tricks (va_wsS RL 7 yL_leader wsL_leader) := goodIn_app (goodIn_of _ (by decide +kernel)) ggL_tricks_L_leader
theorem dL_tricks_0 : decode cL_tricks 0 = .ok (.iconst 0, 1) := by decide +kernel
theorem dL_tricks_1 : decode cL_tricks 1 = .ok (.istore 4, 2) := by decide +kernel
theorem dL_tricks_3 : decode cL_tricks 3 = .ok (.iconst 4, 1) := by decide +kernel
theorem dL_tricks_4 : decode cL_tricks 4 = .ok (.istore 5, 2) := by decide +kernel
theorem dL_tricks_6 : decode cL_tricks 6 = .ok (.iload 5, 2) := by decide +kernel
theorem dL_tricks_8 : decode cL_tricks 8 = .ok (.iload_n 2, 1) := by decide +kernel
theorem dL_tricks_9 : decode cL_tricks 9 = .ok (.if_icmp .gt 32, 3) := by decide +kernel
theorem dL_tricks_12 : decode cL_tricks 12 = .ok (.iload 4, 2) := by decide +kernel
theorem dL_tricks_14 : decode cL_tricks 14 = .ok (.aload_n 0, 1) := by decide +kernel
theorem dL_tricks_15 : decode cL_tricks 15 = .ok (.aload_n 1, 1) := by decide +kernel
theorem dL_tricks_16 : decode cL_tricks 16 = .ok (.iload 5, 2) := by decide +kernel
theorem dL_tricks_18 : decode cL_tricks 18 = .ok (.invokestatic 7, 3) := by decide +kernel
theorem dL_tricks_21 : decode cL_tricks 21 = .ok (.iconst 2, 1) := by decide +kernel
theorem dL_tricks_22 : decode cL_tricks 22 = .ok (.irem, 1) := by decide +kernel
theorem dL_tricks_23 : decode cL_tricks 23 = .ok (.iload_n 3, 1) := by decide +kernel
theorem dL_tricks_24 : decode cL_tricks 24 = .ok (.if_icmp .ne 7, 3) := by decide +kernel
theorem dL_tricks_27 : decode cL_tricks 27 = .ok (.iconst 1, 1) := by decide +kernel
theorem dL_tricks_28 : decode cL_tricks 28 = .ok (.goto 4, 3) := by decide +kernel
theorem dL_tricks_31 : decode cL_tricks 31 = .ok (.iconst 0, 1) := by decide +kernel
theorem dL_tricks_32 : decode cL_tricks 32 = .ok (.iadd, 1) := by decide +kernel
theorem dL_tricks_33 : decode cL_tricks 33 = .ok (.istore 4, 2) := by decide +kernel
theorem dL_tricks_35 : decode cL_tricks 35 = .ok (.iinc 5 4, 3) := by decide +kernel
theorem dL_tricks_38 : decode cL_tricks 38 = .ok (.goto (-32), 3) := by decide +kernel
theorem dL_tricks_41 : decode cL_tricks 41 = .ok (.iload 4, 2) := by decide +kernel
theorem dL_tricks_43 : decode cL_tricks 43 = .ok (.ireturn, 1) := by decide +kernel
set_option maxRecDepth 20000 in
theorem ggL_can_L_leader : GoodIn wsL_can wsL_leader := goodIn_r _ [4] (by decide +kernel) (by decide +kernel)
set_option maxRecDepth 20000 in
theorem gL_can_L_leader : GoodIn wsL_can (va_wsS RL 7 yL_leader wsL_leader) := goodIn_app (goodIn_of _ (by decide +kernel)) ggL_can_L_leader
set_option maxRecDepth 20000 in
theorem ggL_can_L_has : GoodIn wsL_can wsL_has := goodIn_r _ [7] (by decide +kernel) (by decide +kernel)
set_option maxRecDepth 20000 in
theorem gL_can_L_has : GoodIn wsL_can (va_wsS RL 13 yL_has wsL_has) := goodIn_app (goodIn_of _ (by decide +kernel)) ggL_can_L_has
theorem dL_can_0 : decode cL_can 0 = .ok (.aload_n 1, 1) := by decide +kernel
theorem dL_can_1 : decode cL_can 1 = .ok (.aload_n 2, 1) := by decide +kernel
theorem dL_can_2 : decode cL_can 2 = .ok (.iload_n 3, 1) := by decide +kernel
theorem dL_can_3 : decode cL_can 3 = .ok (.invokestatic 7, 3) := by decide +kernel
theorem dL_can_6 : decode cL_can 6 = .ok (.iload_n 3, 1) := by decide +kernel
theorem dL_can_7 : decode cL_can 7 = .ok (.iconst 4, 1) := by decide +kernel
theorem dL_can_8 : decode cL_can 8 = .ok (.irem, 1) := by decide +kernel
theorem dL_can_9 : decode cL_can 9 = .ok (.iadd, 1) := by decide +kernel
theorem dL_can_10 : decode cL_can 10 = .ok (.iconst 4, 1) := by decide +kernel
theorem dL_can_11 : decode cL_can 11 = .ok (.irem, 1) := by decide +kernel
theorem dL_can_12 : decode cL_can 12 = .ok (.istore 5, 2) := by decide +kernel
theorem dL_can_14 : decode cL_can 14 = .ok (.aload_n 0, 1) := by decide +kernel
theorem dL_can_15 : decode cL_can 15 = .ok (.iload 5, 2) := by decide +kernel
theorem dL_can_17 : decode cL_can 17 = .ok (.iaload, 1) := by decide +kernel
theorem dL_can_18 : decode cL_can 18 = .ok (.iload 4, 2) := by decide +kernel
theorem dL_can_20 : decode cL_can 20 = .ok (.invokestatic 13, 3) := by decide +kernel
theorem dL_can_23 : decode cL_can 23 = .ok (.ifCond .ne 5, 3) := by decide +kernel
theorem dL_can_26 : decode cL_can 26 = .ok (.iconst 0, 1) := by decide +kernel
theorem dL_can_27 : decode cL_can 27 = .ok (.ireturn, 1) := by decide +kernel
theorem dL_can_28 : decode cL_can 28 = .ok (.iload_n 3, 1) := by decide +kernel
theorem dL_can_29 : decode cL_can 29 = .ok (.iconst 4, 1) := by decide +kernel
theorem dL_can_30 : decode cL_can 30 = .ok (.irem, 1) := by decide +kernel
theorem dL_can_31 : decode cL_can 31 = .ok (.ifCond .ne 11, 3) := by decide +kernel
theorem dL_can_34 : decode cL_can 34 = .ok (.iload 4, 2) := by decide +kernel
theorem dL_can_36 : decode cL_can 36 = .ok (.bipush 6, 2) := by decide +kernel
theorem dL_can_38 : decode cL_can 38 = .ok (.idiv, 1) := by decide +kernel
theorem dL_can_39 : decode cL_can 39 = .ok (.goto 13, 3) := by decide +kernel
theorem dL_can_42 : decode cL_can 42 = .ok (.aload_n 1, 1) := by decide +kernel
theorem dL_can_43 : decode cL_can 43 = .ok (.iload_n 3, 1) := by decide +kernel
theorem dL_can_44 : decode cL_can 44 = .ok (.iload_n 3, 1) := by decide +kernel
theorem dL_can_45 : decode cL_can 45 = .ok (.iconst 4, 1) := by decide +kernel
theorem dL_can_46 : decode cL_can 46 = .ok (.irem, 1) := by decide +kernel
theorem dL_can_47 : decode cL_can 47 = .ok (.isub, 1) := by decide +kernel
theorem dL_can_48 : decode cL_can 48 = .ok (.iaload, 1) := by decide +kernel
theorem dL_can_49 : decode cL_can 49 = .ok (.bipush 6, 2) := by decide +kernel
theorem dL_can_51 : decode cL_can 51 = .ok (.idiv, 1) := by decide +kernel
theorem dL_can_52 : decode cL_can 52 = .ok (.istore 6, 2) := by decide +kernel
theorem dL_can_54 : decode cL_can 54 = .ok (.iload 4, 2) := by decide +kernel
theorem dL_can_56 : decode cL_can 56 = .ok (.bipush 6, 2) := by decide +kernel
theorem dL_can_58 : decode cL_can 58 = .ok (.idiv, 1) := by decide +kernel
theorem dL_can_59 : decode cL_can 59 = .ok (.iload 6, 2) := by decide +kernel
theorem dL_can_61 : decode cL_can 61 = .ok (.if_icmp .eq 19, 3) := by decide +kernel
theorem dL_can_64 : decode cL_can 64 = .ok (.aload_n 0, 1) := by decide +kernel
theorem dL_can_65 : decode cL_can 65 = .ok (.iload 5, 2) := by decide +kernel
theorem dL_can_67 : decode cL_can 67 = .ok (.iaload, 1) := by decide +kernel
theorem dL_can_68 : decode cL_can 68 = .ok (.bipush 6, 2) := by decide +kernel
theorem dL_can_70 : decode cL_can 70 = .ok (.iload 6, 2) := by decide +kernel
theorem dL_can_72 : decode cL_can 72 = .ok (.imul, 1) := by decide +kernel
theorem dL_can_73 : decode cL_can 73 = .ok (.ishr, 1) := by decide +kernel
theorem dL_can_74 : decode cL_can 74 = .ok (.bipush 63, 2) := by decide +kernel
theorem dL_can_76 : decode cL_can 76 = .ok (.iand, 1) := by decide +kernel
theorem dL_can_77 : decode cL_can 77 = .ok (.ifCond .ne 7, 3) := by decide +kernel
theorem dL_can_80 : decode cL_can 80 = .ok (.iconst 1, 1) := by decide +kernel
theorem dL_can_81 : decode cL_can 81 = .ok (.goto 4, 3) := by decide +kernel
theorem dL_can_84 : decode cL_can 84 = .ok (.iconst 0, 1) := by decide +kernel
theorem dL_can_85 : decode cL_can 85 = .ok (.ireturn, 1) := by decide +kernel
set_option maxRecDepth 20000 in
theorem ggL_best_L_size : GoodIn wsL_best wsL_size := goodIn_r _ [5] (by decide +kernel) (by decide +kernel)
set_option maxRecDepth 20000 in
theorem gL_best_L_size : GoodIn wsL_best (va_wsS RL 17 yL_size wsL_size) := goodIn_app (goodIn_of _ (by decide +kernel)) ggL_best_L_size
set_option maxRecDepth 20000 in
theorem ggL_best_L_can : GoodIn wsL_best wsL_can := goodIn_r _ [8, 9, 10, 4, 11, 12, 13, 14] (by decide +kernel) (by decide +kernel)
set_option maxRecDepth 20000 in
theorem gL_best_L_can : GoodIn wsL_best (va_wsS RL 21 yL_can wsL_can) := goodIn_app (goodIn_of _ (by decide +kernel)) ggL_best_L_can
set_option maxRecDepth 20000 in
theorem ggL_best_L_leader : GoodIn wsL_best wsL_leader := goodIn_r _ [11] (by decide +kernel) (by decide +kernel)
set_option maxRecDepth 20000 in
theorem gL_best_L_leader : GoodIn wsL_best (va_wsS RL 7 yL_leader wsL_leader) := goodIn_app (goodIn_of _ (by decide +kernel)) ggL_best_L_leader
set_option maxRecDepth 20000 in
theorem ggL_best_L_tricks : GoodIn wsL_best wsL_tricks := goodIn_r _ [17, 9, 10, 4, 11] (by decide +kernel) (by decide +kernel)
set_option maxRecDepth 20000 in
theorem gL_best_L_tricks : GoodIn wsL_best (va_wsS RL 25 yL_tricks wsL_tricks) := goodIn_app (goodIn_of _ (by decide +kernel)) ggL_best_L_tricks
