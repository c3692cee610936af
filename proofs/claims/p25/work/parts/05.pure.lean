-- X0_holds
def fX0_holds (p0 : Int32) (p1 : Int32) : Int32 := (if (p0 &&& (sl 1 p1)) = 0 then (0) else (1))
theorem vb_X0_holds (p0 : Int32) (p1 : Int32) : vb (fX0_holds p0 p1) = true := by unfold fX0_holds; (repeat' split) <;> rfl
def rmX0_holds : Room := { frames := 0, cells := 0, slots := 0, locals := 0 }
set_option maxHeartbeats 4000000 in
set_option maxRecDepth 100000 in
theorem kX0_holds (l : Launch) (p0 : Int32) (p1 : Int32) : RdS l yX0_holds wsX0_holds rmX0_holds [.int p0, .int p1] (fX0_holds p0 p1) := by
  obtain ⟨r, h⟩ : ∃ r, fX0_holds p0 p1 = r := ⟨_, rfl⟩
  rw [h]
  unfold fX0_holds at h
  refine RdS.of RX0 rfl rfl rfl (Nat.le_of_ble_eq_true rfl) ?_
  intro p e s m args below meth c Q ls S5 hl kr
  obtain ⟨hx, hb, -, -, hts⟩ := id S5
  refine lv_iload_n hx hb dX0_holds_0 rfl (lv_at hl 0 rfl) ?_
  refine lv_iconst (v := 1) hx hb dX0_holds_1 (by decide) ?_
  refine lv_iload_n hx hb dX0_holds_2 rfl (lv_at hl 1 rfl) ?_
  refine r_ishl S5 dX0_holds_3 ?_
  refine lv_iand hx hb dX0_holds_4 ?_
  refine lv_if_eq (tgt := 12) hx hb dX0_holds_5 (by decide) (fun c1 => ?_) (fun c1 => ?_)
  · rw [if_pos c1] at h
    refine lv_iconst (v := 0) hx hb dX0_holds_12 (by decide) ?_
    subst h
    exact kr _ _ _ rfl rfl dX0_holds_13
  · rw [if_neg c1] at h
    refine lv_iconst (v := 1) hx hb dX0_holds_8 (by decide) ?_
    refine lv_goto (tgt := 13) hx hb dX0_holds_9 (by decide) ?_
    subst h
    exact kr _ _ _ rfl rfl dX0_holds_13

-- X0_suitOf
def fX0_suitOf (p0 : Int32) : Int32 := (p0 / 6)
def rmX0_suitOf : Room := { frames := 0, cells := 0, slots := 0, locals := 0 }
set_option maxHeartbeats 4000000 in
set_option maxRecDepth 100000 in
theorem kX0_suitOf (l : Launch) (p0 : Int32) : RdS l yX0_suitOf wsX0_suitOf rmX0_suitOf [.int p0] (fX0_suitOf p0) := by
  obtain ⟨r, h⟩ : ∃ r, fX0_suitOf p0 = r := ⟨_, rfl⟩
  rw [h]
  unfold fX0_suitOf at h
  refine RdS.of RX0 rfl rfl rfl (Nat.le_of_ble_eq_true rfl) ?_
  intro p e s m args below meth c Q ls S5 hl kr
  obtain ⟨hx, hb, -, -, hts⟩ := id S5
  refine lv_iload_n hx hb dX0_suitOf_0 rfl (lv_at hl 0 rfl) ?_
  refine lv_bipush (v := 6) hx hb dX0_suitOf_1 (by decide) ?_
  refine r_idiv S5 dX0_suitOf_3 (by decide) ?_
  subst h
  exact kr _ _ _ rfl rfl dX0_suitOf_4

-- X0_suitSet
def fX0_suitSet (p0 : Int32) : Int32 := (sl 63 (p0 * 6))
def rmX0_suitSet : Room := { frames := 0, cells := 0, slots := 0, locals := 0 }
set_option maxHeartbeats 4000000 in
set_option maxRecDepth 100000 in
theorem kX0_suitSet (l : Launch) (p0 : Int32) : RdS l yX0_suitSet wsX0_suitSet rmX0_suitSet [.int p0] (fX0_suitSet p0) := by
  obtain ⟨r, h⟩ : ∃ r, fX0_suitSet p0 = r := ⟨_, rfl⟩
  rw [h]
  unfold fX0_suitSet at h
  refine RdS.of RX0 rfl rfl rfl (Nat.le_of_ble_eq_true rfl) ?_
  intro p e s m args below meth c Q ls S5 hl kr
  obtain ⟨hx, hb, -, -, hts⟩ := id S5
  refine lv_bipush (v := 63) hx hb dX0_suitSet_0 (by decide) ?_
  refine lv_iload_n hx hb dX0_suitSet_2 rfl (lv_at hl 0 rfl) ?_
  refine lv_bipush (v := 6) hx hb dX0_suitSet_3 (by decide) ?_
  refine lv_imul hx hb dX0_suitSet_5 ?_
  refine r_ishl S5 dX0_suitSet_6 ?_
  subst h
  exact kr _ _ _ rfl rfl dX0_suitSet_7

-- J6_numberOfTrailingZeros_0f7a4
def fJ6_numberOfTrailingZeros_0f7a4 (p0 : Int32) : Int32 := (if 0 < ((p0 ^^^ ((-1))) &&& (p0 - 1)) then (if ((p0 ^^^ ((-1))) &&& (p0 - 1)) ≤ 65536 then (if ((p0 ^^^ ((-1))) &&& (p0 - 1)) ≤ 256 then (if ((p0 ^^^ ((-1))) &&& (p0 - 1)) ≤ 16 then (if ((p0 ^^^ ((-1))) &&& (p0 - 1)) ≤ 4 then (1 + (su ((p0 ^^^ ((-1))) &&& (p0 - 1)) 1)) else (3 + (su (su ((p0 ^^^ ((-1))) &&& (p0 - 1)) 2) 1))) else (if (su ((p0 ^^^ ((-1))) &&& (p0 - 1)) 4) ≤ 4 then (5 + (su (su ((p0 ^^^ ((-1))) &&& (p0 - 1)) 4) 1)) else (7 + (su (su (su ((p0 ^^^ ((-1))) &&& (p0 - 1)) 4) 2) 1)))) else (if (su ((p0 ^^^ ((-1))) &&& (p0 - 1)) 8) ≤ 16 then (if (su ((p0 ^^^ ((-1))) &&& (p0 - 1)) 8) ≤ 4 then (9 + (su (su ((p0 ^^^ ((-1))) &&& (p0 - 1)) 8) 1)) else (11 + (su (su (su ((p0 ^^^ ((-1))) &&& (p0 - 1)) 8) 2) 1))) else (if (su (su ((p0 ^^^ ((-1))) &&& (p0 - 1)) 8) 4) ≤ 4 then (13 + (su (su (su ((p0 ^^^ ((-1))) &&& (p0 - 1)) 8) 4) 1)) else (15 + (su (su (su (su ((p0 ^^^ ((-1))) &&& (p0 - 1)) 8) 4) 2) 1))))) else (if (su ((p0 ^^^ ((-1))) &&& (p0 - 1)) 16) ≤ 256 then (if (su ((p0 ^^^ ((-1))) &&& (p0 - 1)) 16) ≤ 16 then (if (su ((p0 ^^^ ((-1))) &&& (p0 - 1)) 16) ≤ 4 then (17 + (su (su ((p0 ^^^ ((-1))) &&& (p0 - 1)) 16) 1)) else (19 + (su (su (su ((p0 ^^^ ((-1))) &&& (p0 - 1)) 16) 2) 1))) else (if (su (su ((p0 ^^^ ((-1))) &&& (p0 - 1)) 16) 4) ≤ 4 then (21 + (su (su (su ((p0 ^^^ ((-1))) &&& (p0 - 1)) 16) 4) 1)) else (23 + (su (su (su (su ((p0 ^^^ ((-1))) &&& (p0 - 1)) 16) 4) 2) 1)))) else (if (su (su ((p0 ^^^ ((-1))) &&& (p0 - 1)) 16) 8) ≤ 16 then (if (su (su ((p0 ^^^ ((-1))) &&& (p0 - 1)) 16) 8) ≤ 4 then (25 + (su (su (su ((p0 ^^^ ((-1))) &&& (p0 - 1)) 16) 8) 1)) else (27 + (su (su (su (su ((p0 ^^^ ((-1))) &&& (p0 - 1)) 16) 8) 2) 1))) else (if (su (su (su ((p0 ^^^ ((-1))) &&& (p0 - 1)) 16) 8) 4) ≤ 4 then (29 + (su (su (su (su ((p0 ^^^ ((-1))) &&& (p0 - 1)) 16) 8) 4) 1)) else (31 + (su (su (su (su (su ((p0 ^^^ ((-1))) &&& (p0 - 1)) 16) 8) 4) 2) 1)))))) else (((p0 ^^^ ((-1))) &&& (p0 - 1)) &&& 32))
def rmJ6_numberOfTrailingZeros_0f7a4 : Room := { frames := 0, cells := 0, slots := 0, locals := 0 }
set_option maxHeartbeats 4000000 in
set_option maxRecDepth 100000 in
theorem kJ6_numberOfTrailingZeros_0f7a4 (l : Launch) (p0 : Int32) : RdS l yJ6_numberOfTrailingZeros_0f7a4 wsJ6_numberOfTrailingZeros_0f7a4 rmJ6_numberOfTrailingZeros_0f7a4 [.int p0] (fJ6_numberOfTrailingZeros_0f7a4 p0) := by
  obtain ⟨r, h⟩ : ∃ r, fJ6_numberOfTrailingZeros_0f7a4 p0 = r := ⟨_, rfl⟩
  rw [h]
  unfold fJ6_numberOfTrailingZeros_0f7a4 at h
  refine RdS.of RJ6 rfl rfl rfl (Nat.le_of_ble_eq_true rfl) ?_
  intro p e s m args below meth c Q ls S5 hl kr
  obtain ⟨hx, hb, -, -, hts⟩ := id S5
  refine lv_iload_n hx hb dJ6_numberOfTrailingZeros_0f7a4_0 rfl (lv_at hl 0 rfl) ?_
  refine lv_iconst (v := (-1)) hx hb dJ6_numberOfTrailingZeros_0f7a4_1 (by decide) ?_
  refine lv_ixor hx hb dJ6_numberOfTrailingZeros_0f7a4_2 ?_
  refine lv_iload_n hx hb dJ6_numberOfTrailingZeros_0f7a4_3 rfl (lv_at hl 0 rfl) ?_
  refine lv_iconst (v := 1) hx hb dJ6_numberOfTrailingZeros_0f7a4_4 (by decide) ?_
  refine lv_isub hx hb dJ6_numberOfTrailingZeros_0f7a4_5 ?_
  refine lv_iand hx hb dJ6_numberOfTrailingZeros_0f7a4_6 ?_
  refine lv_istore_n (lv' := [(0, .int ((p0 ^^^ ((-1))) &&& (p0 - 1)))]) hx hb dJ6_numberOfTrailingZeros_0f7a4_7 rfl hl (by decide) rfl (fun ls hl => ?_)
  refine lv_iload_n hx hb dJ6_numberOfTrailingZeros_0f7a4_8 rfl (lv_at hl 0 rfl) ?_
  refine lv_if_gt (tgt := 17) hx hb dJ6_numberOfTrailingZeros_0f7a4_9 (by decide) (fun c1 => ?_) (fun c1 => ?_)
  · rw [if_pos c1] at h
    refine lv_iconst (v := 1) hx hb dJ6_numberOfTrailingZeros_0f7a4_17 (by decide) ?_
    refine lv_istore_n (lv' := [(1, .int 1), (0, .int ((p0 ^^^ ((-1))) &&& (p0 - 1)))]) hx hb dJ6_numberOfTrailingZeros_0f7a4_18 rfl hl (by decide) rfl (fun ls hl => ?_)
    refine lv_iload_n hx hb dJ6_numberOfTrailingZeros_0f7a4_19 rfl (lv_at hl 1 rfl) ?_
    refine r_ldcw (v := 65536) S5 (List.mem_of_getElem? (i := 1) rfl) dJ6_numberOfTrailingZeros_0f7a4_20 ?_
    refine lv_icmp_le (tgt := 34) hx hb dJ6_numberOfTrailingZeros_0f7a4_23 (by decide) (fun c2 => ?_) (fun c2 => ?_)
    · rw [if_pos c2] at h
      refine lv_iload_n hx hb dJ6_numberOfTrailingZeros_0f7a4_34 rfl (lv_at hl 1 rfl) ?_
      refine lv_sipush (v := 256) hx hb dJ6_numberOfTrailingZeros_0f7a4_35 (by decide) ?_
      refine lv_icmp_le (tgt := 49) hx hb dJ6_numberOfTrailingZeros_0f7a4_38 (by decide) (fun c3 => ?_) (fun c3 => ?_)
      · rw [if_pos c3] at h
        refine lv_iload_n hx hb dJ6_numberOfTrailingZeros_0f7a4_49 rfl (lv_at hl 1 rfl) ?_
        refine lv_bipush (v := 16) hx hb dJ6_numberOfTrailingZeros_0f7a4_50 (by decide) ?_
        refine lv_icmp_le (tgt := 62) hx hb dJ6_numberOfTrailingZeros_0f7a4_52 (by decide) (fun c4 => ?_) (fun c4 => ?_)
        · rw [if_pos c4] at h
          refine lv_iload_n hx hb dJ6_numberOfTrailingZeros_0f7a4_62 rfl (lv_at hl 1 rfl) ?_
          refine lv_iconst (v := 4) hx hb dJ6_numberOfTrailingZeros_0f7a4_63 (by decide) ?_
          refine lv_icmp_le (tgt := 74) hx hb dJ6_numberOfTrailingZeros_0f7a4_64 (by decide) (fun c5 => ?_) (fun c5 => ?_)
          · rw [if_pos c5] at h
            refine lv_iload_n hx hb dJ6_numberOfTrailingZeros_0f7a4_74 rfl (lv_at hl 0 rfl) ?_
            refine lv_iload_n hx hb dJ6_numberOfTrailingZeros_0f7a4_75 rfl (lv_at hl 1 rfl) ?_
            refine lv_iconst (v := 1) hx hb dJ6_numberOfTrailingZeros_0f7a4_76 (by decide) ?_
            refine r_iushr S5 dJ6_numberOfTrailingZeros_0f7a4_77 ?_
            refine lv_iadd hx hb dJ6_numberOfTrailingZeros_0f7a4_78 ?_
            subst h
            exact kr _ _ _ rfl rfl dJ6_numberOfTrailingZeros_0f7a4_79
          · rw [if_neg c5] at h
            refine lv_iinc (v := 3) (lv' := [(1, .int 3), (0, .int ((p0 ^^^ ((-1))) &&& (p0 - 1)))]) hx hb dJ6_numberOfTrailingZeros_0f7a4_67 hl (k := 0) rfl rfl (by decide) rfl (fun ls hl => ?_)
            refine lv_iload_n hx hb dJ6_numberOfTrailingZeros_0f7a4_70 rfl (lv_at hl 1 rfl) ?_
            refine lv_iconst (v := 2) hx hb dJ6_numberOfTrailingZeros_0f7a4_71 (by decide) ?_
            refine r_iushr S5 dJ6_numberOfTrailingZeros_0f7a4_72 ?_
            refine lv_istore_n (lv' := [(0, .int (su ((p0 ^^^ ((-1))) &&& (p0 - 1)) 2)), (1, .int 3)]) hx hb dJ6_numberOfTrailingZeros_0f7a4_73 rfl hl (by decide) rfl (fun ls hl => ?_)
            refine lv_iload_n hx hb dJ6_numberOfTrailingZeros_0f7a4_74 rfl (lv_at hl 1 rfl) ?_
            refine lv_iload_n hx hb dJ6_numberOfTrailingZeros_0f7a4_75 rfl (lv_at hl 0 rfl) ?_
            refine lv_iconst (v := 1) hx hb dJ6_numberOfTrailingZeros_0f7a4_76 (by decide) ?_
            refine r_iushr S5 dJ6_numberOfTrailingZeros_0f7a4_77 ?_
            refine lv_iadd hx hb dJ6_numberOfTrailingZeros_0f7a4_78 ?_
            subst h
            exact kr _ _ _ rfl rfl dJ6_numberOfTrailingZeros_0f7a4_79
        · rw [if_neg c4] at h
          refine lv_iinc (v := 5) (lv' := [(1, .int 5), (0, .int ((p0 ^^^ ((-1))) &&& (p0 - 1)))]) hx hb dJ6_numberOfTrailingZeros_0f7a4_55 hl (k := 0) rfl rfl (by decide) rfl (fun ls hl => ?_)
          refine lv_iload_n hx hb dJ6_numberOfTrailingZeros_0f7a4_58 rfl (lv_at hl 1 rfl) ?_
          refine lv_iconst (v := 4) hx hb dJ6_numberOfTrailingZeros_0f7a4_59 (by decide) ?_
          refine r_iushr S5 dJ6_numberOfTrailingZeros_0f7a4_60 ?_
          refine lv_istore_n (lv' := [(0, .int (su ((p0 ^^^ ((-1))) &&& (p0 - 1)) 4)), (1, .int 5)]) hx hb dJ6_numberOfTrailingZeros_0f7a4_61 rfl hl (by decide) rfl (fun ls hl => ?_)
          refine lv_iload_n hx hb dJ6_numberOfTrailingZeros_0f7a4_62 rfl (lv_at hl 0 rfl) ?_
          refine lv_iconst (v := 4) hx hb dJ6_numberOfTrailingZeros_0f7a4_63 (by decide) ?_
          refine lv_icmp_le (tgt := 74) hx hb dJ6_numberOfTrailingZeros_0f7a4_64 (by decide) (fun c6 => ?_) (fun c6 => ?_)
          · rw [if_pos c6] at h
            refine lv_iload_n hx hb dJ6_numberOfTrailingZeros_0f7a4_74 rfl (lv_at hl 1 rfl) ?_
            refine lv_iload_n hx hb dJ6_numberOfTrailingZeros_0f7a4_75 rfl (lv_at hl 0 rfl) ?_
            refine lv_iconst (v := 1) hx hb dJ6_numberOfTrailingZeros_0f7a4_76 (by decide) ?_
            refine r_iushr S5 dJ6_numberOfTrailingZeros_0f7a4_77 ?_
            refine lv_iadd hx hb dJ6_numberOfTrailingZeros_0f7a4_78 ?_
            subst h
            exact kr _ _ _ rfl rfl dJ6_numberOfTrailingZeros_0f7a4_79
          · rw [if_neg c6] at h
            refine lv_iinc (v := 7) (lv' := [(1, .int 7), (0, .int (su ((p0 ^^^ ((-1))) &&& (p0 - 1)) 4))]) hx hb dJ6_numberOfTrailingZeros_0f7a4_67 hl (k := 1) rfl rfl (by decide) rfl (fun ls hl => ?_)
            refine lv_iload_n hx hb dJ6_numberOfTrailingZeros_0f7a4_70 rfl (lv_at hl 1 rfl) ?_
            refine lv_iconst (v := 2) hx hb dJ6_numberOfTrailingZeros_0f7a4_71 (by decide) ?_
            refine r_iushr S5 dJ6_numberOfTrailingZeros_0f7a4_72 ?_
            refine lv_istore_n (lv' := [(0, .int (su (su ((p0 ^^^ ((-1))) &&& (p0 - 1)) 4) 2)), (1, .int 7)]) hx hb dJ6_numberOfTrailingZeros_0f7a4_73 rfl hl (by decide) rfl (fun ls hl => ?_)
            refine lv_iload_n hx hb dJ6_numberOfTrailingZeros_0f7a4_74 rfl (lv_at hl 1 rfl) ?_
            refine lv_iload_n hx hb dJ6_numberOfTrailingZeros_0f7a4_75 rfl (lv_at hl 0 rfl) ?_
            refine lv_iconst (v := 1) hx hb dJ6_numberOfTrailingZeros_0f7a4_76 (by decide) ?_
            refine r_iushr S5 dJ6_numberOfTrailingZeros_0f7a4_77 ?_
            refine lv_iadd hx hb dJ6_numberOfTrailingZeros_0f7a4_78 ?_
            subst h
            exact kr _ _ _ rfl rfl dJ6_numberOfTrailingZeros_0f7a4_79
      · rw [if_neg c3] at h
        refine lv_iinc (v := 9) (lv' := [(1, .int 9), (0, .int ((p0 ^^^ ((-1))) &&& (p0 - 1)))]) hx hb dJ6_numberOfTrailingZeros_0f7a4_41 hl (k := 0) rfl rfl (by decide) rfl (fun ls hl => ?_)
        refine lv_iload_n hx hb dJ6_numberOfTrailingZeros_0f7a4_44 rfl (lv_at hl 1 rfl) ?_
        refine lv_bipush (v := 8) hx hb dJ6_numberOfTrailingZeros_0f7a4_45 (by decide) ?_
        refine r_iushr S5 dJ6_numberOfTrailingZeros_0f7a4_47 ?_
        refine lv_istore_n (lv' := [(0, .int (su ((p0 ^^^ ((-1))) &&& (p0 - 1)) 8)), (1, .int 9)]) hx hb dJ6_numberOfTrailingZeros_0f7a4_48 rfl hl (by decide) rfl (fun ls hl => ?_)
        refine lv_iload_n hx hb dJ6_numberOfTrailingZeros_0f7a4_49 rfl (lv_at hl 0 rfl) ?_
        refine lv_bipush (v := 16) hx hb dJ6_numberOfTrailingZeros_0f7a4_50 (by decide) ?_
        refine lv_icmp_le (tgt := 62) hx hb dJ6_numberOfTrailingZeros_0f7a4_52 (by decide) (fun c7 => ?_) (fun c7 => ?_)
        · rw [if_pos c7] at h
          refine lv_iload_n hx hb dJ6_numberOfTrailingZeros_0f7a4_62 rfl (lv_at hl 0 rfl) ?_
          refine lv_iconst (v := 4) hx hb dJ6_numberOfTrailingZeros_0f7a4_63 (by decide) ?_
          refine lv_icmp_le (tgt := 74) hx hb dJ6_numberOfTrailingZeros_0f7a4_64 (by decide) (fun c8 => ?_) (fun c8 => ?_)
          · rw [if_pos c8] at h
            refine lv_iload_n hx hb dJ6_numberOfTrailingZeros_0f7a4_74 rfl (lv_at hl 1 rfl) ?_
            refine lv_iload_n hx hb dJ6_numberOfTrailingZeros_0f7a4_75 rfl (lv_at hl 0 rfl) ?_
            refine lv_iconst (v := 1) hx hb dJ6_numberOfTrailingZeros_0f7a4_76 (by decide) ?_
            refine r_iushr S5 dJ6_numberOfTrailingZeros_0f7a4_77 ?_
            refine lv_iadd hx hb dJ6_numberOfTrailingZeros_0f7a4_78 ?_
            subst h
            exact kr _ _ _ rfl rfl dJ6_numberOfTrailingZeros_0f7a4_79
          · rw [if_neg c8] at h
            refine lv_iinc (v := 11) (lv' := [(1, .int 11), (0, .int (su ((p0 ^^^ ((-1))) &&& (p0 - 1)) 8))]) hx hb dJ6_numberOfTrailingZeros_0f7a4_67 hl (k := 1) rfl rfl (by decide) rfl (fun ls hl => ?_)
            refine lv_iload_n hx hb dJ6_numberOfTrailingZeros_0f7a4_70 rfl (lv_at hl 1 rfl) ?_
            refine lv_iconst (v := 2) hx hb dJ6_numberOfTrailingZeros_0f7a4_71 (by decide) ?_
            refine r_iushr S5 dJ6_numberOfTrailingZeros_0f7a4_72 ?_
            refine lv_istore_n (lv' := [(0, .int (su (su ((p0 ^^^ ((-1))) &&& (p0 - 1)) 8) 2)), (1, .int 11)]) hx hb dJ6_numberOfTrailingZeros_0f7a4_73 rfl hl (by decide) rfl (fun ls hl => ?_)
            refine lv_iload_n hx hb dJ6_numberOfTrailingZeros_0f7a4_74 rfl (lv_at hl 1 rfl) ?_
            refine lv_iload_n hx hb dJ6_numberOfTrailingZeros_0f7a4_75 rfl (lv_at hl 0 rfl) ?_
            refine lv_iconst (v := 1) hx hb dJ6_numberOfTrailingZeros_0f7a4_76 (by decide) ?_
            refine r_iushr S5 dJ6_numberOfTrailingZeros_0f7a4_77 ?_
            refine lv_iadd hx hb dJ6_numberOfTrailingZeros_0f7a4_78 ?_
            subst h
            exact kr _ _ _ rfl rfl dJ6_numberOfTrailingZeros_0f7a4_79
        · rw [if_neg c7] at h
          refine lv_iinc (v := 13) (lv' := [(1, .int 13), (0, .int (su ((p0 ^^^ ((-1))) &&& (p0 - 1)) 8))]) hx hb dJ6_numberOfTrailingZeros_0f7a4_55 hl (k := 1) rfl rfl (by decide) rfl (fun ls hl => ?_)
          refine lv_iload_n hx hb dJ6_numberOfTrailingZeros_0f7a4_58 rfl (lv_at hl 1 rfl) ?_
          refine lv_iconst (v := 4) hx hb dJ6_numberOfTrailingZeros_0f7a4_59 (by decide) ?_
          refine r_iushr S5 dJ6_numberOfTrailingZeros_0f7a4_60 ?_
          refine lv_istore_n (lv' := [(0, .int (su (su ((p0 ^^^ ((-1))) &&& (p0 - 1)) 8) 4)), (1, .int 13)]) hx hb dJ6_numberOfTrailingZeros_0f7a4_61 rfl hl (by decide) rfl (fun ls hl => ?_)
          refine lv_iload_n hx hb dJ6_numberOfTrailingZeros_0f7a4_62 rfl (lv_at hl 0 rfl) ?_
          refine lv_iconst (v := 4) hx hb dJ6_numberOfTrailingZeros_0f7a4_63 (by decide) ?_
          refine lv_icmp_le (tgt := 74) hx hb dJ6_numberOfTrailingZeros_0f7a4_64 (by decide) (fun c9 => ?_) (fun c9 => ?_)
          · rw [if_pos c9] at h
            refine lv_iload_n hx hb dJ6_numberOfTrailingZeros_0f7a4_74 rfl (lv_at hl 1 rfl) ?_
            refine lv_iload_n hx hb dJ6_numberOfTrailingZeros_0f7a4_75 rfl (lv_at hl 0 rfl) ?_
            refine lv_iconst (v := 1) hx hb dJ6_numberOfTrailingZeros_0f7a4_76 (by decide) ?_
            refine r_iushr S5 dJ6_numberOfTrailingZeros_0f7a4_77 ?_
            refine lv_iadd hx hb dJ6_numberOfTrailingZeros_0f7a4_78 ?_
            subst h
            exact kr _ _ _ rfl rfl dJ6_numberOfTrailingZeros_0f7a4_79
          · rw [if_neg c9] at h
            refine lv_iinc (v := 15) (lv' := [(1, .int 15), (0, .int (su (su ((p0 ^^^ ((-1))) &&& (p0 - 1)) 8) 4))]) hx hb dJ6_numberOfTrailingZeros_0f7a4_67 hl (k := 1) rfl rfl (by decide) rfl (fun ls hl => ?_)
            refine lv_iload_n hx hb dJ6_numberOfTrailingZeros_0f7a4_70 rfl (lv_at hl 1 rfl) ?_
            refine lv_iconst (v := 2) hx hb dJ6_numberOfTrailingZeros_0f7a4_71 (by decide) ?_
            refine r_iushr S5 dJ6_numberOfTrailingZeros_0f7a4_72 ?_
            refine lv_istore_n (lv' := [(0, .int (su (su (su ((p0 ^^^ ((-1))) &&& (p0 - 1)) 8) 4) 2)), (1, .int 15)]) hx hb dJ6_numberOfTrailingZeros_0f7a4_73 rfl hl (by decide) rfl (fun ls hl => ?_)
            refine lv_iload_n hx hb dJ6_numberOfTrailingZeros_0f7a4_74 rfl (lv_at hl 1 rfl) ?_
            refine lv_iload_n hx hb dJ6_numberOfTrailingZeros_0f7a4_75 rfl (lv_at hl 0 rfl) ?_
            refine lv_iconst (v := 1) hx hb dJ6_numberOfTrailingZeros_0f7a4_76 (by decide) ?_
            refine r_iushr S5 dJ6_numberOfTrailingZeros_0f7a4_77 ?_
            refine lv_iadd hx hb dJ6_numberOfTrailingZeros_0f7a4_78 ?_
            subst h
            exact kr _ _ _ rfl rfl dJ6_numberOfTrailingZeros_0f7a4_79
    · rw [if_neg c2] at h
      refine lv_iinc (v := 17) (lv' := [(1, .int 17), (0, .int ((p0 ^^^ ((-1))) &&& (p0 - 1)))]) hx hb dJ6_numberOfTrailingZeros_0f7a4_26 hl (k := 0) rfl rfl (by decide) rfl (fun ls hl => ?_)
      refine lv_iload_n hx hb dJ6_numberOfTrailingZeros_0f7a4_29 rfl (lv_at hl 1 rfl) ?_
      refine lv_bipush (v := 16) hx hb dJ6_numberOfTrailingZeros_0f7a4_30 (by decide) ?_
      refine r_iushr S5 dJ6_numberOfTrailingZeros_0f7a4_32 ?_
      refine lv_istore_n (lv' := [(0, .int (su ((p0 ^^^ ((-1))) &&& (p0 - 1)) 16)), (1, .int 17)]) hx hb dJ6_numberOfTrailingZeros_0f7a4_33 rfl hl (by decide) rfl (fun ls hl => ?_)
      refine lv_iload_n hx hb dJ6_numberOfTrailingZeros_0f7a4_34 rfl (lv_at hl 0 rfl) ?_
      refine lv_sipush (v := 256) hx hb dJ6_numberOfTrailingZeros_0f7a4_35 (by decide) ?_
      refine lv_icmp_le (tgt := 49) hx hb dJ6_numberOfTrailingZeros_0f7a4_38 (by decide) (fun c10 => ?_) (fun c10 => ?_)
      · rw [if_pos c10] at h
        refine lv_iload_n hx hb dJ6_numberOfTrailingZeros_0f7a4_49 rfl (lv_at hl 0 rfl) ?_
        refine lv_bipush (v := 16) hx hb dJ6_numberOfTrailingZeros_0f7a4_50 (by decide) ?_
        refine lv_icmp_le (tgt := 62) hx hb dJ6_numberOfTrailingZeros_0f7a4_52 (by decide) (fun c11 => ?_) (fun c11 => ?_)
        · rw [if_pos c11] at h
          refine lv_iload_n hx hb dJ6_numberOfTrailingZeros_0f7a4_62 rfl (lv_at hl 0 rfl) ?_
          refine lv_iconst (v := 4) hx hb dJ6_numberOfTrailingZeros_0f7a4_63 (by decide) ?_
          refine lv_icmp_le (tgt := 74) hx hb dJ6_numberOfTrailingZeros_0f7a4_64 (by decide) (fun c12 => ?_) (fun c12 => ?_)
          · rw [if_pos c12] at h
            refine lv_iload_n hx hb dJ6_numberOfTrailingZeros_0f7a4_74 rfl (lv_at hl 1 rfl) ?_
            refine lv_iload_n hx hb dJ6_numberOfTrailingZeros_0f7a4_75 rfl (lv_at hl 0 rfl) ?_
            refine lv_iconst (v := 1) hx hb dJ6_numberOfTrailingZeros_0f7a4_76 (by decide) ?_
            refine r_iushr S5 dJ6_numberOfTrailingZeros_0f7a4_77 ?_
            refine lv_iadd hx hb dJ6_numberOfTrailingZeros_0f7a4_78 ?_
            subst h
            exact kr _ _ _ rfl rfl dJ6_numberOfTrailingZeros_0f7a4_79
          · rw [if_neg c12] at h
            refine lv_iinc (v := 19) (lv' := [(1, .int 19), (0, .int (su ((p0 ^^^ ((-1))) &&& (p0 - 1)) 16))]) hx hb dJ6_numberOfTrailingZeros_0f7a4_67 hl (k := 1) rfl rfl (by decide) rfl (fun ls hl => ?_)
            refine lv_iload_n hx hb dJ6_numberOfTrailingZeros_0f7a4_70 rfl (lv_at hl 1 rfl) ?_
            refine lv_iconst (v := 2) hx hb dJ6_numberOfTrailingZeros_0f7a4_71 (by decide) ?_
            refine r_iushr S5 dJ6_numberOfTrailingZeros_0f7a4_72 ?_
            refine lv_istore_n (lv' := [(0, .int (su (su ((p0 ^^^ ((-1))) &&& (p0 - 1)) 16) 2)), (1, .int 19)]) hx hb dJ6_numberOfTrailingZeros_0f7a4_73 rfl hl (by decide) rfl (fun ls hl => ?_)
            refine lv_iload_n hx hb dJ6_numberOfTrailingZeros_0f7a4_74 rfl (lv_at hl 1 rfl) ?_
            refine lv_iload_n hx hb dJ6_numberOfTrailingZeros_0f7a4_75 rfl (lv_at hl 0 rfl) ?_
            refine lv_iconst (v := 1) hx hb dJ6_numberOfTrailingZeros_0f7a4_76 (by decide) ?_
            refine r_iushr S5 dJ6_numberOfTrailingZeros_0f7a4_77 ?_
            refine lv_iadd hx hb dJ6_numberOfTrailingZeros_0f7a4_78 ?_
            subst h
            exact kr _ _ _ rfl rfl dJ6_numberOfTrailingZeros_0f7a4_79
        · rw [if_neg c11] at h
          refine lv_iinc (v := 21) (lv' := [(1, .int 21), (0, .int (su ((p0 ^^^ ((-1))) &&& (p0 - 1)) 16))]) hx hb dJ6_numberOfTrailingZeros_0f7a4_55 hl (k := 1) rfl rfl (by decide) rfl (fun ls hl => ?_)
          refine lv_iload_n hx hb dJ6_numberOfTrailingZeros_0f7a4_58 rfl (lv_at hl 1 rfl) ?_
          refine lv_iconst (v := 4) hx hb dJ6_numberOfTrailingZeros_0f7a4_59 (by decide) ?_
          refine r_iushr S5 dJ6_numberOfTrailingZeros_0f7a4_60 ?_
          refine lv_istore_n (lv' := [(0, .int (su (su ((p0 ^^^ ((-1))) &&& (p0 - 1)) 16) 4)), (1, .int 21)]) hx hb dJ6_numberOfTrailingZeros_0f7a4_61 rfl hl (by decide) rfl (fun ls hl => ?_)
          refine lv_iload_n hx hb dJ6_numberOfTrailingZeros_0f7a4_62 rfl (lv_at hl 0 rfl) ?_
          refine lv_iconst (v := 4) hx hb dJ6_numberOfTrailingZeros_0f7a4_63 (by decide) ?_
          refine lv_icmp_le (tgt := 74) hx hb dJ6_numberOfTrailingZeros_0f7a4_64 (by decide) (fun c13 => ?_) (fun c13 => ?_)
          · rw [if_pos c13] at h
            refine lv_iload_n hx hb dJ6_numberOfTrailingZeros_0f7a4_74 rfl (lv_at hl 1 rfl) ?_
            refine lv_iload_n hx hb dJ6_numberOfTrailingZeros_0f7a4_75 rfl (lv_at hl 0 rfl) ?_
            refine lv_iconst (v := 1) hx hb dJ6_numberOfTrailingZeros_0f7a4_76 (by decide) ?_
            refine r_iushr S5 dJ6_numberOfTrailingZeros_0f7a4_77 ?_
            refine lv_iadd hx hb dJ6_numberOfTrailingZeros_0f7a4_78 ?_
            subst h
            exact kr _ _ _ rfl rfl dJ6_numberOfTrailingZeros_0f7a4_79
          · rw [if_neg c13] at h
            refine lv_iinc (v := 23) (lv' := [(1, .int 23), (0, .int (su (su ((p0 ^^^ ((-1))) &&& (p0 - 1)) 16) 4))]) hx hb dJ6_numberOfTrailingZeros_0f7a4_67 hl (k := 1) rfl rfl (by decide) rfl (fun ls hl => ?_)
            refine lv_iload_n hx hb dJ6_numberOfTrailingZeros_0f7a4_70 rfl (lv_at hl 1 rfl) ?_
            refine lv_iconst (v := 2) hx hb dJ6_numberOfTrailingZeros_0f7a4_71 (by decide) ?_
            refine r_iushr S5 dJ6_numberOfTrailingZeros_0f7a4_72 ?_
            refine lv_istore_n (lv' := [(0, .int (su (su (su ((p0 ^^^ ((-1))) &&& (p0 - 1)) 16) 4) 2)), (1, .int 23)]) hx hb dJ6_numberOfTrailingZeros_0f7a4_73 rfl hl (by decide) rfl (fun ls hl => ?_)
            refine lv_iload_n hx hb dJ6_numberOfTrailingZeros_0f7a4_74 rfl (lv_at hl 1 rfl) ?_
            refine lv_iload_n hx hb dJ6_numberOfTrailingZeros_0f7a4_75 rfl (lv_at hl 0 rfl) ?_
            refine lv_iconst (v := 1) hx hb dJ6_numberOfTrailingZeros_0f7a4_76 (by decide) ?_
            refine r_iushr S5 dJ6_numberOfTrailingZeros_0f7a4_77 ?_
            refine lv_iadd hx hb dJ6_numberOfTrailingZeros_0f7a4_78 ?_
            subst h
            exact kr _ _ _ rfl rfl dJ6_numberOfTrailingZeros_0f7a4_79
      · rw [if_neg c10] at h
        refine lv_iinc (v := 25) (lv' := [(1, .int 25), (0, .int (su ((p0 ^^^ ((-1))) &&& (p0 - 1)) 16))]) hx hb dJ6_numberOfTrailingZeros_0f7a4_41 hl (k := 1) rfl rfl (by decide) rfl (fun ls hl => ?_)
        refine lv_iload_n hx hb dJ6_numberOfTrailingZeros_0f7a4_44 rfl (lv_at hl 1 rfl) ?_
        refine lv_bipush (v := 8) hx hb dJ6_numberOfTrailingZeros_0f7a4_45 (by decide) ?_
        refine r_iushr S5 dJ6_numberOfTrailingZeros_0f7a4_47 ?_
        refine lv_istore_n (lv' := [(0, .int (su (su ((p0 ^^^ ((-1))) &&& (p0 - 1)) 16) 8)), (1, .int 25)]) hx hb dJ6_numberOfTrailingZeros_0f7a4_48 rfl hl (by decide) rfl (fun ls hl => ?_)
        refine lv_iload_n hx hb dJ6_numberOfTrailingZeros_0f7a4_49 rfl (lv_at hl 0 rfl) ?_
        refine lv_bipush (v := 16) hx hb dJ6_numberOfTrailingZeros_0f7a4_50 (by decide) ?_
        refine lv_icmp_le (tgt := 62) hx hb dJ6_numberOfTrailingZeros_0f7a4_52 (by decide) (fun c14 => ?_) (fun c14 => ?_)
        · rw [if_pos c14] at h
          refine lv_iload_n hx hb dJ6_numberOfTrailingZeros_0f7a4_62 rfl (lv_at hl 0 rfl) ?_
          refine lv_iconst (v := 4) hx hb dJ6_numberOfTrailingZeros_0f7a4_63 (by decide) ?_
          refine lv_icmp_le (tgt := 74) hx hb dJ6_numberOfTrailingZeros_0f7a4_64 (by decide) (fun c15 => ?_) (fun c15 => ?_)
          · rw [if_pos c15] at h
            refine lv_iload_n hx hb dJ6_numberOfTrailingZeros_0f7a4_74 rfl (lv_at hl 1 rfl) ?_
            refine lv_iload_n hx hb dJ6_numberOfTrailingZeros_0f7a4_75 rfl (lv_at hl 0 rfl) ?_
            refine lv_iconst (v := 1) hx hb dJ6_numberOfTrailingZeros_0f7a4_76 (by decide) ?_
            refine r_iushr S5 dJ6_numberOfTrailingZeros_0f7a4_77 ?_
            refine lv_iadd hx hb dJ6_numberOfTrailingZeros_0f7a4_78 ?_
            subst h
            exact kr _ _ _ rfl rfl dJ6_numberOfTrailingZeros_0f7a4_79
          · rw [if_neg c15] at h
            refine lv_iinc (v := 27) (lv' := [(1, .int 27), (0, .int (su (su ((p0 ^^^ ((-1))) &&& (p0 - 1)) 16) 8))]) hx hb dJ6_numberOfTrailingZeros_0f7a4_67 hl (k := 1) rfl rfl (by decide) rfl (fun ls hl => ?_)
            refine lv_iload_n hx hb dJ6_numberOfTrailingZeros_0f7a4_70 rfl (lv_at hl 1 rfl) ?_
            refine lv_iconst (v := 2) hx hb dJ6_numberOfTrailingZeros_0f7a4_71 (by decide) ?_
            refine r_iushr S5 dJ6_numberOfTrailingZeros_0f7a4_72 ?_
            refine lv_istore_n (lv' := [(0, .int (su (su (su ((p0 ^^^ ((-1))) &&& (p0 - 1)) 16) 8) 2)), (1, .int 27)]) hx hb dJ6_numberOfTrailingZeros_0f7a4_73 rfl hl (by decide) rfl (fun ls hl => ?_)
            refine lv_iload_n hx hb dJ6_numberOfTrailingZeros_0f7a4_74 rfl (lv_at hl 1 rfl) ?_
            refine lv_iload_n hx hb dJ6_numberOfTrailingZeros_0f7a4_75 rfl (lv_at hl 0 rfl) ?_
            refine lv_iconst (v := 1) hx hb dJ6_numberOfTrailingZeros_0f7a4_76 (by decide) ?_
            refine r_iushr S5 dJ6_numberOfTrailingZeros_0f7a4_77 ?_
            refine lv_iadd hx hb dJ6_numberOfTrailingZeros_0f7a4_78 ?_
            subst h
            exact kr _ _ _ rfl rfl dJ6_numberOfTrailingZeros_0f7a4_79
        · rw [if_neg c14] at h
          refine lv_iinc (v := 29) (lv' := [(1, .int 29), (0, .int (su (su ((p0 ^^^ ((-1))) &&& (p0 - 1)) 16) 8))]) hx hb dJ6_numberOfTrailingZeros_0f7a4_55 hl (k := 1) rfl rfl (by decide) rfl (fun ls hl => ?_)
          refine lv_iload_n hx hb dJ6_numberOfTrailingZeros_0f7a4_58 rfl (lv_at hl 1 rfl) ?_
          refine lv_iconst (v := 4) hx hb dJ6_numberOfTrailingZeros_0f7a4_59 (by decide) ?_
          refine r_iushr S5 dJ6_numberOfTrailingZeros_0f7a4_60 ?_
          refine lv_istore_n (lv' := [(0, .int (su (su (su ((p0 ^^^ ((-1))) &&& (p0 - 1)) 16) 8) 4)), (1, .int 29)]) hx hb dJ6_numberOfTrailingZeros_0f7a4_61 rfl hl (by decide) rfl (fun ls hl => ?_)
          refine lv_iload_n hx hb dJ6_numberOfTrailingZeros_0f7a4_62 rfl (lv_at hl 0 rfl) ?_
          refine lv_iconst (v := 4) hx hb dJ6_numberOfTrailingZeros_0f7a4_63 (by decide) ?_
          refine lv_icmp_le (tgt := 74) hx hb dJ6_numberOfTrailingZeros_0f7a4_64 (by decide) (fun c16 => ?_) (fun c16 => ?_)
          · rw [if_pos c16] at h
            refine lv_iload_n hx hb dJ6_numberOfTrailingZeros_0f7a4_74 rfl (lv_at hl 1 rfl) ?_
            refine lv_iload_n hx hb dJ6_numberOfTrailingZeros_0f7a4_75 rfl (lv_at hl 0 rfl) ?_
            refine lv_iconst (v := 1) hx hb dJ6_numberOfTrailingZeros_0f7a4_76 (by decide) ?_
            refine r_iushr S5 dJ6_numberOfTrailingZeros_0f7a4_77 ?_
            refine lv_iadd hx hb dJ6_numberOfTrailingZeros_0f7a4_78 ?_
            subst h
            exact kr _ _ _ rfl rfl dJ6_numberOfTrailingZeros_0f7a4_79
          · rw [if_neg c16] at h
            refine lv_iinc (v := 31) (lv' := [(1, .int 31), (0, .int (su (su (su ((p0 ^^^ ((-1))) &&& (p0 - 1)) 16) 8) 4))]) hx hb dJ6_numberOfTrailingZeros_0f7a4_67 hl (k := 1) rfl rfl (by decide) rfl (fun ls hl => ?_)
            refine lv_iload_n hx hb dJ6_numberOfTrailingZeros_0f7a4_70 rfl (lv_at hl 1 rfl) ?_
            refine lv_iconst (v := 2) hx hb dJ6_numberOfTrailingZeros_0f7a4_71 (by decide) ?_
            refine r_iushr S5 dJ6_numberOfTrailingZeros_0f7a4_72 ?_
            refine lv_istore_n (lv' := [(0, .int (su (su (su (su ((p0 ^^^ ((-1))) &&& (p0 - 1)) 16) 8) 4) 2)), (1, .int 31)]) hx hb dJ6_numberOfTrailingZeros_0f7a4_73 rfl hl (by decide) rfl (fun ls hl => ?_)
            refine lv_iload_n hx hb dJ6_numberOfTrailingZeros_0f7a4_74 rfl (lv_at hl 1 rfl) ?_
            refine lv_iload_n hx hb dJ6_numberOfTrailingZeros_0f7a4_75 rfl (lv_at hl 0 rfl) ?_
            refine lv_iconst (v := 1) hx hb dJ6_numberOfTrailingZeros_0f7a4_76 (by decide) ?_
            refine r_iushr S5 dJ6_numberOfTrailingZeros_0f7a4_77 ?_
            refine lv_iadd hx hb dJ6_numberOfTrailingZeros_0f7a4_78 ?_
            subst h
            exact kr _ _ _ rfl rfl dJ6_numberOfTrailingZeros_0f7a4_79
  · rw [if_neg c1] at h
    refine lv_iload_n hx hb dJ6_numberOfTrailingZeros_0f7a4_12 rfl (lv_at hl 0 rfl) ?_
    refine lv_bipush (v := 32) hx hb dJ6_numberOfTrailingZeros_0f7a4_13 (by decide) ?_
    refine lv_iand hx hb dJ6_numberOfTrailingZeros_0f7a4_15 ?_
    subst h
    exact kr _ _ _ rfl rfl dJ6_numberOfTrailingZeros_0f7a4_16

-- J6_numberOfLeadingZeros_0f7a4
def fJ6_numberOfLeadingZeros_0f7a4 (p0 : Int32) : Int32 := (if 0 < p0 then (if p0 < 65536 then (if p0 < 256 then (if p0 < 16 then (if p0 < 4 then (31 - (su p0 1)) else (29 - (su (su p0 2) 1))) else (if (su p0 4) < 4 then (27 - (su (su p0 4) 1)) else (25 - (su (su (su p0 4) 2) 1)))) else (if (su p0 8) < 16 then (if (su p0 8) < 4 then (23 - (su (su p0 8) 1)) else (21 - (su (su (su p0 8) 2) 1))) else (if (su (su p0 8) 4) < 4 then (19 - (su (su (su p0 8) 4) 1)) else (17 - (su (su (su (su p0 8) 4) 2) 1))))) else (if (su p0 16) < 256 then (if (su p0 16) < 16 then (if (su p0 16) < 4 then (15 - (su (su p0 16) 1)) else (13 - (su (su (su p0 16) 2) 1))) else (if (su (su p0 16) 4) < 4 then (11 - (su (su (su p0 16) 4) 1)) else (9 - (su (su (su (su p0 16) 4) 2) 1)))) else (if (su (su p0 16) 8) < 16 then (if (su (su p0 16) 8) < 4 then (7 - (su (su (su p0 16) 8) 1)) else (5 - (su (su (su (su p0 16) 8) 2) 1))) else (if (su (su (su p0 16) 8) 4) < 4 then (3 - (su (su (su (su p0 16) 8) 4) 1)) else (1 - (su (su (su (su (su p0 16) 8) 4) 2) 1)))))) else (if p0 = 0 then (32) else (0)))
def rmJ6_numberOfLeadingZeros_0f7a4 : Room := { frames := 0, cells := 0, slots := 0, locals := 0 }
set_option maxHeartbeats 4000000 in
set_option maxRecDepth 100000 in
theorem kJ6_numberOfLeadingZeros_0f7a4 (l : Launch) (p0 : Int32) : RdS l yJ6_numberOfLeadingZeros_0f7a4 wsJ6_numberOfLeadingZeros_0f7a4 rmJ6_numberOfLeadingZeros_0f7a4 [.int p0] (fJ6_numberOfLeadingZeros_0f7a4 p0) := by
  obtain ⟨r, h⟩ : ∃ r, fJ6_numberOfLeadingZeros_0f7a4 p0 = r := ⟨_, rfl⟩
  rw [h]
  unfold fJ6_numberOfLeadingZeros_0f7a4 at h
  refine RdS.of RJ6 rfl rfl rfl (Nat.le_of_ble_eq_true rfl) ?_
  intro p e s m args below meth c Q ls S5 hl kr
  obtain ⟨hx, hb, -, -, hts⟩ := id S5
  refine lv_iload_n hx hb dJ6_numberOfLeadingZeros_0f7a4_0 rfl (lv_at hl 0 rfl) ?_
  refine lv_if_gt (tgt := 15) hx hb dJ6_numberOfLeadingZeros_0f7a4_1 (by decide) (fun c1 => ?_) (fun c1 => ?_)
  · rw [if_pos c1] at h
    refine lv_bipush (v := 31) hx hb dJ6_numberOfLeadingZeros_0f7a4_15 (by decide) ?_
    refine lv_istore_n (lv' := [(1, .int 31), (0, .int p0)]) hx hb dJ6_numberOfLeadingZeros_0f7a4_17 rfl hl (by decide) rfl (fun ls hl => ?_)
    refine lv_iload_n hx hb dJ6_numberOfLeadingZeros_0f7a4_18 rfl (lv_at hl 1 rfl) ?_
    refine r_ldcw (v := 65536) S5 (List.mem_of_getElem? (i := 1) rfl) dJ6_numberOfLeadingZeros_0f7a4_19 ?_
    refine lv_icmp_lt (tgt := 33) hx hb dJ6_numberOfLeadingZeros_0f7a4_22 (by decide) (fun c2 => ?_) (fun c2 => ?_)
    · rw [if_pos c2] at h
      refine lv_iload_n hx hb dJ6_numberOfLeadingZeros_0f7a4_33 rfl (lv_at hl 1 rfl) ?_
      refine lv_sipush (v := 256) hx hb dJ6_numberOfLeadingZeros_0f7a4_34 (by decide) ?_
      refine lv_icmp_lt (tgt := 48) hx hb dJ6_numberOfLeadingZeros_0f7a4_37 (by decide) (fun c3 => ?_) (fun c3 => ?_)
      · rw [if_pos c3] at h
        refine lv_iload_n hx hb dJ6_numberOfLeadingZeros_0f7a4_48 rfl (lv_at hl 1 rfl) ?_
        refine lv_bipush (v := 16) hx hb dJ6_numberOfLeadingZeros_0f7a4_49 (by decide) ?_
        refine lv_icmp_lt (tgt := 61) hx hb dJ6_numberOfLeadingZeros_0f7a4_51 (by decide) (fun c4 => ?_) (fun c4 => ?_)
        · rw [if_pos c4] at h
          refine lv_iload_n hx hb dJ6_numberOfLeadingZeros_0f7a4_61 rfl (lv_at hl 1 rfl) ?_
          refine lv_iconst (v := 4) hx hb dJ6_numberOfLeadingZeros_0f7a4_62 (by decide) ?_
          refine lv_icmp_lt (tgt := 73) hx hb dJ6_numberOfLeadingZeros_0f7a4_63 (by decide) (fun c5 => ?_) (fun c5 => ?_)
          · rw [if_pos c5] at h
            refine lv_iload_n hx hb dJ6_numberOfLeadingZeros_0f7a4_73 rfl (lv_at hl 0 rfl) ?_
            refine lv_iload_n hx hb dJ6_numberOfLeadingZeros_0f7a4_74 rfl (lv_at hl 1 rfl) ?_
            refine lv_iconst (v := 1) hx hb dJ6_numberOfLeadingZeros_0f7a4_75 (by decide) ?_
            refine r_iushr S5 dJ6_numberOfLeadingZeros_0f7a4_76 ?_
            refine lv_isub hx hb dJ6_numberOfLeadingZeros_0f7a4_77 ?_
            subst h
            exact kr _ _ _ rfl rfl dJ6_numberOfLeadingZeros_0f7a4_78
          · rw [if_neg c5] at h
            refine lv_iinc (v := 29) (lv' := [(1, .int 29), (0, .int p0)]) hx hb dJ6_numberOfLeadingZeros_0f7a4_66 hl (k := 0) rfl rfl (by decide) rfl (fun ls hl => ?_)
            refine lv_iload_n hx hb dJ6_numberOfLeadingZeros_0f7a4_69 rfl (lv_at hl 1 rfl) ?_
            refine lv_iconst (v := 2) hx hb dJ6_numberOfLeadingZeros_0f7a4_70 (by decide) ?_
            refine r_iushr S5 dJ6_numberOfLeadingZeros_0f7a4_71 ?_
            refine lv_istore_n (lv' := [(0, .int (su p0 2)), (1, .int 29)]) hx hb dJ6_numberOfLeadingZeros_0f7a4_72 rfl hl (by decide) rfl (fun ls hl => ?_)
            refine lv_iload_n hx hb dJ6_numberOfLeadingZeros_0f7a4_73 rfl (lv_at hl 1 rfl) ?_
            refine lv_iload_n hx hb dJ6_numberOfLeadingZeros_0f7a4_74 rfl (lv_at hl 0 rfl) ?_
            refine lv_iconst (v := 1) hx hb dJ6_numberOfLeadingZeros_0f7a4_75 (by decide) ?_
            refine r_iushr S5 dJ6_numberOfLeadingZeros_0f7a4_76 ?_
            refine lv_isub hx hb dJ6_numberOfLeadingZeros_0f7a4_77 ?_
            subst h
            exact kr _ _ _ rfl rfl dJ6_numberOfLeadingZeros_0f7a4_78
        · rw [if_neg c4] at h
          refine lv_iinc (v := 27) (lv' := [(1, .int 27), (0, .int p0)]) hx hb dJ6_numberOfLeadingZeros_0f7a4_54 hl (k := 0) rfl rfl (by decide) rfl (fun ls hl => ?_)
          refine lv_iload_n hx hb dJ6_numberOfLeadingZeros_0f7a4_57 rfl (lv_at hl 1 rfl) ?_
          refine lv_iconst (v := 4) hx hb dJ6_numberOfLeadingZeros_0f7a4_58 (by decide) ?_
          refine r_iushr S5 dJ6_numberOfLeadingZeros_0f7a4_59 ?_
          refine lv_istore_n (lv' := [(0, .int (su p0 4)), (1, .int 27)]) hx hb dJ6_numberOfLeadingZeros_0f7a4_60 rfl hl (by decide) rfl (fun ls hl => ?_)
          refine lv_iload_n hx hb dJ6_numberOfLeadingZeros_0f7a4_61 rfl (lv_at hl 0 rfl) ?_
          refine lv_iconst (v := 4) hx hb dJ6_numberOfLeadingZeros_0f7a4_62 (by decide) ?_
          refine lv_icmp_lt (tgt := 73) hx hb dJ6_numberOfLeadingZeros_0f7a4_63 (by decide) (fun c6 => ?_) (fun c6 => ?_)
          · rw [if_pos c6] at h
            refine lv_iload_n hx hb dJ6_numberOfLeadingZeros_0f7a4_73 rfl (lv_at hl 1 rfl) ?_
            refine lv_iload_n hx hb dJ6_numberOfLeadingZeros_0f7a4_74 rfl (lv_at hl 0 rfl) ?_
            refine lv_iconst (v := 1) hx hb dJ6_numberOfLeadingZeros_0f7a4_75 (by decide) ?_
            refine r_iushr S5 dJ6_numberOfLeadingZeros_0f7a4_76 ?_
            refine lv_isub hx hb dJ6_numberOfLeadingZeros_0f7a4_77 ?_
            subst h
            exact kr _ _ _ rfl rfl dJ6_numberOfLeadingZeros_0f7a4_78
          · rw [if_neg c6] at h
            refine lv_iinc (v := 25) (lv' := [(1, .int 25), (0, .int (su p0 4))]) hx hb dJ6_numberOfLeadingZeros_0f7a4_66 hl (k := 1) rfl rfl (by decide) rfl (fun ls hl => ?_)
            refine lv_iload_n hx hb dJ6_numberOfLeadingZeros_0f7a4_69 rfl (lv_at hl 1 rfl) ?_
            refine lv_iconst (v := 2) hx hb dJ6_numberOfLeadingZeros_0f7a4_70 (by decide) ?_
            refine r_iushr S5 dJ6_numberOfLeadingZeros_0f7a4_71 ?_
            refine lv_istore_n (lv' := [(0, .int (su (su p0 4) 2)), (1, .int 25)]) hx hb dJ6_numberOfLeadingZeros_0f7a4_72 rfl hl (by decide) rfl (fun ls hl => ?_)
            refine lv_iload_n hx hb dJ6_numberOfLeadingZeros_0f7a4_73 rfl (lv_at hl 1 rfl) ?_
            refine lv_iload_n hx hb dJ6_numberOfLeadingZeros_0f7a4_74 rfl (lv_at hl 0 rfl) ?_
            refine lv_iconst (v := 1) hx hb dJ6_numberOfLeadingZeros_0f7a4_75 (by decide) ?_
            refine r_iushr S5 dJ6_numberOfLeadingZeros_0f7a4_76 ?_
            refine lv_isub hx hb dJ6_numberOfLeadingZeros_0f7a4_77 ?_
            subst h
            exact kr _ _ _ rfl rfl dJ6_numberOfLeadingZeros_0f7a4_78
      · rw [if_neg c3] at h
        refine lv_iinc (v := 23) (lv' := [(1, .int 23), (0, .int p0)]) hx hb dJ6_numberOfLeadingZeros_0f7a4_40 hl (k := 0) rfl rfl (by decide) rfl (fun ls hl => ?_)
        refine lv_iload_n hx hb dJ6_numberOfLeadingZeros_0f7a4_43 rfl (lv_at hl 1 rfl) ?_
        refine lv_bipush (v := 8) hx hb dJ6_numberOfLeadingZeros_0f7a4_44 (by decide) ?_
        refine r_iushr S5 dJ6_numberOfLeadingZeros_0f7a4_46 ?_
        refine lv_istore_n (lv' := [(0, .int (su p0 8)), (1, .int 23)]) hx hb dJ6_numberOfLeadingZeros_0f7a4_47 rfl hl (by decide) rfl (fun ls hl => ?_)
        refine lv_iload_n hx hb dJ6_numberOfLeadingZeros_0f7a4_48 rfl (lv_at hl 0 rfl) ?_
        refine lv_bipush (v := 16) hx hb dJ6_numberOfLeadingZeros_0f7a4_49 (by decide) ?_
        refine lv_icmp_lt (tgt := 61) hx hb dJ6_numberOfLeadingZeros_0f7a4_51 (by decide) (fun c7 => ?_) (fun c7 => ?_)
        · rw [if_pos c7] at h
          refine lv_iload_n hx hb dJ6_numberOfLeadingZeros_0f7a4_61 rfl (lv_at hl 0 rfl) ?_
          refine lv_iconst (v := 4) hx hb dJ6_numberOfLeadingZeros_0f7a4_62 (by decide) ?_
          refine lv_icmp_lt (tgt := 73) hx hb dJ6_numberOfLeadingZeros_0f7a4_63 (by decide) (fun c8 => ?_) (fun c8 => ?_)
          · rw [if_pos c8] at h
            refine lv_iload_n hx hb dJ6_numberOfLeadingZeros_0f7a4_73 rfl (lv_at hl 1 rfl) ?_
            refine lv_iload_n hx hb dJ6_numberOfLeadingZeros_0f7a4_74 rfl (lv_at hl 0 rfl) ?_
            refine lv_iconst (v := 1) hx hb dJ6_numberOfLeadingZeros_0f7a4_75 (by decide) ?_
            refine r_iushr S5 dJ6_numberOfLeadingZeros_0f7a4_76 ?_
            refine lv_isub hx hb dJ6_numberOfLeadingZeros_0f7a4_77 ?_
            subst h
            exact kr _ _ _ rfl rfl dJ6_numberOfLeadingZeros_0f7a4_78
          · rw [if_neg c8] at h
            refine lv_iinc (v := 21) (lv' := [(1, .int 21), (0, .int (su p0 8))]) hx hb dJ6_numberOfLeadingZeros_0f7a4_66 hl (k := 1) rfl rfl (by decide) rfl (fun ls hl => ?_)
            refine lv_iload_n hx hb dJ6_numberOfLeadingZeros_0f7a4_69 rfl (lv_at hl 1 rfl) ?_
            refine lv_iconst (v := 2) hx hb dJ6_numberOfLeadingZeros_0f7a4_70 (by decide) ?_
            refine r_iushr S5 dJ6_numberOfLeadingZeros_0f7a4_71 ?_
            refine lv_istore_n (lv' := [(0, .int (su (su p0 8) 2)), (1, .int 21)]) hx hb dJ6_numberOfLeadingZeros_0f7a4_72 rfl hl (by decide) rfl (fun ls hl => ?_)
            refine lv_iload_n hx hb dJ6_numberOfLeadingZeros_0f7a4_73 rfl (lv_at hl 1 rfl) ?_
            refine lv_iload_n hx hb dJ6_numberOfLeadingZeros_0f7a4_74 rfl (lv_at hl 0 rfl) ?_
            refine lv_iconst (v := 1) hx hb dJ6_numberOfLeadingZeros_0f7a4_75 (by decide) ?_
            refine r_iushr S5 dJ6_numberOfLeadingZeros_0f7a4_76 ?_
            refine lv_isub hx hb dJ6_numberOfLeadingZeros_0f7a4_77 ?_
            subst h
            exact kr _ _ _ rfl rfl dJ6_numberOfLeadingZeros_0f7a4_78
        · rw [if_neg c7] at h
          refine lv_iinc (v := 19) (lv' := [(1, .int 19), (0, .int (su p0 8))]) hx hb dJ6_numberOfLeadingZeros_0f7a4_54 hl (k := 1) rfl rfl (by decide) rfl (fun ls hl => ?_)
          refine lv_iload_n hx hb dJ6_numberOfLeadingZeros_0f7a4_57 rfl (lv_at hl 1 rfl) ?_
          refine lv_iconst (v := 4) hx hb dJ6_numberOfLeadingZeros_0f7a4_58 (by decide) ?_
          refine r_iushr S5 dJ6_numberOfLeadingZeros_0f7a4_59 ?_
          refine lv_istore_n (lv' := [(0, .int (su (su p0 8) 4)), (1, .int 19)]) hx hb dJ6_numberOfLeadingZeros_0f7a4_60 rfl hl (by decide) rfl (fun ls hl => ?_)
          refine lv_iload_n hx hb dJ6_numberOfLeadingZeros_0f7a4_61 rfl (lv_at hl 0 rfl) ?_
          refine lv_iconst (v := 4) hx hb dJ6_numberOfLeadingZeros_0f7a4_62 (by decide) ?_
          refine lv_icmp_lt (tgt := 73) hx hb dJ6_numberOfLeadingZeros_0f7a4_63 (by decide) (fun c9 => ?_) (fun c9 => ?_)
          · rw [if_pos c9] at h
            refine lv_iload_n hx hb dJ6_numberOfLeadingZeros_0f7a4_73 rfl (lv_at hl 1 rfl) ?_
            refine lv_iload_n hx hb dJ6_numberOfLeadingZeros_0f7a4_74 rfl (lv_at hl 0 rfl) ?_
            refine lv_iconst (v := 1) hx hb dJ6_numberOfLeadingZeros_0f7a4_75 (by decide) ?_
            refine r_iushr S5 dJ6_numberOfLeadingZeros_0f7a4_76 ?_
            refine lv_isub hx hb dJ6_numberOfLeadingZeros_0f7a4_77 ?_
            subst h
            exact kr _ _ _ rfl rfl dJ6_numberOfLeadingZeros_0f7a4_78
          · rw [if_neg c9] at h
            refine lv_iinc (v := 17) (lv' := [(1, .int 17), (0, .int (su (su p0 8) 4))]) hx hb dJ6_numberOfLeadingZeros_0f7a4_66 hl (k := 1) rfl rfl (by decide) rfl (fun ls hl => ?_)
            refine lv_iload_n hx hb dJ6_numberOfLeadingZeros_0f7a4_69 rfl (lv_at hl 1 rfl) ?_
            refine lv_iconst (v := 2) hx hb dJ6_numberOfLeadingZeros_0f7a4_70 (by decide) ?_
            refine r_iushr S5 dJ6_numberOfLeadingZeros_0f7a4_71 ?_
            refine lv_istore_n (lv' := [(0, .int (su (su (su p0 8) 4) 2)), (1, .int 17)]) hx hb dJ6_numberOfLeadingZeros_0f7a4_72 rfl hl (by decide) rfl (fun ls hl => ?_)
            refine lv_iload_n hx hb dJ6_numberOfLeadingZeros_0f7a4_73 rfl (lv_at hl 1 rfl) ?_
            refine lv_iload_n hx hb dJ6_numberOfLeadingZeros_0f7a4_74 rfl (lv_at hl 0 rfl) ?_
            refine lv_iconst (v := 1) hx hb dJ6_numberOfLeadingZeros_0f7a4_75 (by decide) ?_
            refine r_iushr S5 dJ6_numberOfLeadingZeros_0f7a4_76 ?_
            refine lv_isub hx hb dJ6_numberOfLeadingZeros_0f7a4_77 ?_
            subst h
            exact kr _ _ _ rfl rfl dJ6_numberOfLeadingZeros_0f7a4_78
    · rw [if_neg c2] at h
      refine lv_iinc (v := 15) (lv' := [(1, .int 15), (0, .int p0)]) hx hb dJ6_numberOfLeadingZeros_0f7a4_25 hl (k := 0) rfl rfl (by decide) rfl (fun ls hl => ?_)
      refine lv_iload_n hx hb dJ6_numberOfLeadingZeros_0f7a4_28 rfl (lv_at hl 1 rfl) ?_
      refine lv_bipush (v := 16) hx hb dJ6_numberOfLeadingZeros_0f7a4_29 (by decide) ?_
      refine r_iushr S5 dJ6_numberOfLeadingZeros_0f7a4_31 ?_
      refine lv_istore_n (lv' := [(0, .int (su p0 16)), (1, .int 15)]) hx hb dJ6_numberOfLeadingZeros_0f7a4_32 rfl hl (by decide) rfl (fun ls hl => ?_)
      refine lv_iload_n hx hb dJ6_numberOfLeadingZeros_0f7a4_33 rfl (lv_at hl 0 rfl) ?_
      refine lv_sipush (v := 256) hx hb dJ6_numberOfLeadingZeros_0f7a4_34 (by decide) ?_
      refine lv_icmp_lt (tgt := 48) hx hb dJ6_numberOfLeadingZeros_0f7a4_37 (by decide) (fun c10 => ?_) (fun c10 => ?_)
      · rw [if_pos c10] at h
        refine lv_iload_n hx hb dJ6_numberOfLeadingZeros_0f7a4_48 rfl (lv_at hl 0 rfl) ?_
        refine lv_bipush (v := 16) hx hb dJ6_numberOfLeadingZeros_0f7a4_49 (by decide) ?_
        refine lv_icmp_lt (tgt := 61) hx hb dJ6_numberOfLeadingZeros_0f7a4_51 (by decide) (fun c11 => ?_) (fun c11 => ?_)
        · rw [if_pos c11] at h
          refine lv_iload_n hx hb dJ6_numberOfLeadingZeros_0f7a4_61 rfl (lv_at hl 0 rfl) ?_
          refine lv_iconst (v := 4) hx hb dJ6_numberOfLeadingZeros_0f7a4_62 (by decide) ?_
          refine lv_icmp_lt (tgt := 73) hx hb dJ6_numberOfLeadingZeros_0f7a4_63 (by decide) (fun c12 => ?_) (fun c12 => ?_)
          · rw [if_pos c12] at h
            refine lv_iload_n hx hb dJ6_numberOfLeadingZeros_0f7a4_73 rfl (lv_at hl 1 rfl) ?_
            refine lv_iload_n hx hb dJ6_numberOfLeadingZeros_0f7a4_74 rfl (lv_at hl 0 rfl) ?_
            refine lv_iconst (v := 1) hx hb dJ6_numberOfLeadingZeros_0f7a4_75 (by decide) ?_
            refine r_iushr S5 dJ6_numberOfLeadingZeros_0f7a4_76 ?_
            refine lv_isub hx hb dJ6_numberOfLeadingZeros_0f7a4_77 ?_
            subst h
            exact kr _ _ _ rfl rfl dJ6_numberOfLeadingZeros_0f7a4_78
          · rw [if_neg c12] at h
            refine lv_iinc (v := 13) (lv' := [(1, .int 13), (0, .int (su p0 16))]) hx hb dJ6_numberOfLeadingZeros_0f7a4_66 hl (k := 1) rfl rfl (by decide) rfl (fun ls hl => ?_)
            refine lv_iload_n hx hb dJ6_numberOfLeadingZeros_0f7a4_69 rfl (lv_at hl 1 rfl) ?_
            refine lv_iconst (v := 2) hx hb dJ6_numberOfLeadingZeros_0f7a4_70 (by decide) ?_
            refine r_iushr S5 dJ6_numberOfLeadingZeros_0f7a4_71 ?_
            refine lv_istore_n (lv' := [(0, .int (su (su p0 16) 2)), (1, .int 13)]) hx hb dJ6_numberOfLeadingZeros_0f7a4_72 rfl hl (by decide) rfl (fun ls hl => ?_)
            refine lv_iload_n hx hb dJ6_numberOfLeadingZeros_0f7a4_73 rfl (lv_at hl 1 rfl) ?_
            refine lv_iload_n hx hb dJ6_numberOfLeadingZeros_0f7a4_74 rfl (lv_at hl 0 rfl) ?_
            refine lv_iconst (v := 1) hx hb dJ6_numberOfLeadingZeros_0f7a4_75 (by decide) ?_
            refine r_iushr S5 dJ6_numberOfLeadingZeros_0f7a4_76 ?_
            refine lv_isub hx hb dJ6_numberOfLeadingZeros_0f7a4_77 ?_
            subst h
            exact kr _ _ _ rfl rfl dJ6_numberOfLeadingZeros_0f7a4_78
        · rw [if_neg c11] at h
          refine lv_iinc (v := 11) (lv' := [(1, .int 11), (0, .int (su p0 16))]) hx hb dJ6_numberOfLeadingZeros_0f7a4_54 hl (k := 1) rfl rfl (by decide) rfl (fun ls hl => ?_)
          refine lv_iload_n hx hb dJ6_numberOfLeadingZeros_0f7a4_57 rfl (lv_at hl 1 rfl) ?_
          refine lv_iconst (v := 4) hx hb dJ6_numberOfLeadingZeros_0f7a4_58 (by decide) ?_
          refine r_iushr S5 dJ6_numberOfLeadingZeros_0f7a4_59 ?_
          refine lv_istore_n (lv' := [(0, .int (su (su p0 16) 4)), (1, .int 11)]) hx hb dJ6_numberOfLeadingZeros_0f7a4_60 rfl hl (by decide) rfl (fun ls hl => ?_)
          refine lv_iload_n hx hb dJ6_numberOfLeadingZeros_0f7a4_61 rfl (lv_at hl 0 rfl) ?_
          refine lv_iconst (v := 4) hx hb dJ6_numberOfLeadingZeros_0f7a4_62 (by decide) ?_
          refine lv_icmp_lt (tgt := 73) hx hb dJ6_numberOfLeadingZeros_0f7a4_63 (by decide) (fun c13 => ?_) (fun c13 => ?_)
          · rw [if_pos c13] at h
            refine lv_iload_n hx hb dJ6_numberOfLeadingZeros_0f7a4_73 rfl (lv_at hl 1 rfl) ?_
            refine lv_iload_n hx hb dJ6_numberOfLeadingZeros_0f7a4_74 rfl (lv_at hl 0 rfl) ?_
            refine lv_iconst (v := 1) hx hb dJ6_numberOfLeadingZeros_0f7a4_75 (by decide) ?_
            refine r_iushr S5 dJ6_numberOfLeadingZeros_0f7a4_76 ?_
            refine lv_isub hx hb dJ6_numberOfLeadingZeros_0f7a4_77 ?_
            subst h
            exact kr _ _ _ rfl rfl dJ6_numberOfLeadingZeros_0f7a4_78
          · rw [if_neg c13] at h
            refine lv_iinc (v := 9) (lv' := [(1, .int 9), (0, .int (su (su p0 16) 4))]) hx hb dJ6_numberOfLeadingZeros_0f7a4_66 hl (k := 1) rfl rfl (by decide) rfl (fun ls hl => ?_)
            refine lv_iload_n hx hb dJ6_numberOfLeadingZeros_0f7a4_69 rfl (lv_at hl 1 rfl) ?_
            refine lv_iconst (v := 2) hx hb dJ6_numberOfLeadingZeros_0f7a4_70 (by decide) ?_
            refine r_iushr S5 dJ6_numberOfLeadingZeros_0f7a4_71 ?_
            refine lv_istore_n (lv' := [(0, .int (su (su (su p0 16) 4) 2)), (1, .int 9)]) hx hb dJ6_numberOfLeadingZeros_0f7a4_72 rfl hl (by decide) rfl (fun ls hl => ?_)
            refine lv_iload_n hx hb dJ6_numberOfLeadingZeros_0f7a4_73 rfl (lv_at hl 1 rfl) ?_
            refine lv_iload_n hx hb dJ6_numberOfLeadingZeros_0f7a4_74 rfl (lv_at hl 0 rfl) ?_
            refine lv_iconst (v := 1) hx hb dJ6_numberOfLeadingZeros_0f7a4_75 (by decide) ?_
            refine r_iushr S5 dJ6_numberOfLeadingZeros_0f7a4_76 ?_
            refine lv_isub hx hb dJ6_numberOfLeadingZeros_0f7a4_77 ?_
            subst h
            exact kr _ _ _ rfl rfl dJ6_numberOfLeadingZeros_0f7a4_78
      · rw [if_neg c10] at h
        refine lv_iinc (v := 7) (lv' := [(1, .int 7), (0, .int (su p0 16))]) hx hb dJ6_numberOfLeadingZeros_0f7a4_40 hl (k := 1) rfl rfl (by decide) rfl (fun ls hl => ?_)
        refine lv_iload_n hx hb dJ6_numberOfLeadingZeros_0f7a4_43 rfl (lv_at hl 1 rfl) ?_
        refine lv_bipush (v := 8) hx hb dJ6_numberOfLeadingZeros_0f7a4_44 (by decide) ?_
        refine r_iushr S5 dJ6_numberOfLeadingZeros_0f7a4_46 ?_
        refine lv_istore_n (lv' := [(0, .int (su (su p0 16) 8)), (1, .int 7)]) hx hb dJ6_numberOfLeadingZeros_0f7a4_47 rfl hl (by decide) rfl (fun ls hl => ?_)
        refine lv_iload_n hx hb dJ6_numberOfLeadingZeros_0f7a4_48 rfl (lv_at hl 0 rfl) ?_
        refine lv_bipush (v := 16) hx hb dJ6_numberOfLeadingZeros_0f7a4_49 (by decide) ?_
        refine lv_icmp_lt (tgt := 61) hx hb dJ6_numberOfLeadingZeros_0f7a4_51 (by decide) (fun c14 => ?_) (fun c14 => ?_)
        · rw [if_pos c14] at h
          refine lv_iload_n hx hb dJ6_numberOfLeadingZeros_0f7a4_61 rfl (lv_at hl 0 rfl) ?_
          refine lv_iconst (v := 4) hx hb dJ6_numberOfLeadingZeros_0f7a4_62 (by decide) ?_
          refine lv_icmp_lt (tgt := 73) hx hb dJ6_numberOfLeadingZeros_0f7a4_63 (by decide) (fun c15 => ?_) (fun c15 => ?_)
          · rw [if_pos c15] at h
            refine lv_iload_n hx hb dJ6_numberOfLeadingZeros_0f7a4_73 rfl (lv_at hl 1 rfl) ?_
            refine lv_iload_n hx hb dJ6_numberOfLeadingZeros_0f7a4_74 rfl (lv_at hl 0 rfl) ?_
            refine lv_iconst (v := 1) hx hb dJ6_numberOfLeadingZeros_0f7a4_75 (by decide) ?_
            refine r_iushr S5 dJ6_numberOfLeadingZeros_0f7a4_76 ?_
            refine lv_isub hx hb dJ6_numberOfLeadingZeros_0f7a4_77 ?_
            subst h
            exact kr _ _ _ rfl rfl dJ6_numberOfLeadingZeros_0f7a4_78
          · rw [if_neg c15] at h
            refine lv_iinc (v := 5) (lv' := [(1, .int 5), (0, .int (su (su p0 16) 8))]) hx hb dJ6_numberOfLeadingZeros_0f7a4_66 hl (k := 1) rfl rfl (by decide) rfl (fun ls hl => ?_)
            refine lv_iload_n hx hb dJ6_numberOfLeadingZeros_0f7a4_69 rfl (lv_at hl 1 rfl) ?_
            refine lv_iconst (v := 2) hx hb dJ6_numberOfLeadingZeros_0f7a4_70 (by decide) ?_
            refine r_iushr S5 dJ6_numberOfLeadingZeros_0f7a4_71 ?_
            refine lv_istore_n (lv' := [(0, .int (su (su (su p0 16) 8) 2)), (1, .int 5)]) hx hb dJ6_numberOfLeadingZeros_0f7a4_72 rfl hl (by decide) rfl (fun ls hl => ?_)
            refine lv_iload_n hx hb dJ6_numberOfLeadingZeros_0f7a4_73 rfl (lv_at hl 1 rfl) ?_
            refine lv_iload_n hx hb dJ6_numberOfLeadingZeros_0f7a4_74 rfl (lv_at hl 0 rfl) ?_
            refine lv_iconst (v := 1) hx hb dJ6_numberOfLeadingZeros_0f7a4_75 (by decide) ?_
            refine r_iushr S5 dJ6_numberOfLeadingZeros_0f7a4_76 ?_
            refine lv_isub hx hb dJ6_numberOfLeadingZeros_0f7a4_77 ?_
            subst h
            exact kr _ _ _ rfl rfl dJ6_numberOfLeadingZeros_0f7a4_78
        · rw [if_neg c14] at h
          refine lv_iinc (v := 3) (lv' := [(1, .int 3), (0, .int (su (su p0 16) 8))]) hx hb dJ6_numberOfLeadingZeros_0f7a4_54 hl (k := 1) rfl rfl (by decide) rfl (fun ls hl => ?_)
          refine lv_iload_n hx hb dJ6_numberOfLeadingZeros_0f7a4_57 rfl (lv_at hl 1 rfl) ?_
          refine lv_iconst (v := 4) hx hb dJ6_numberOfLeadingZeros_0f7a4_58 (by decide) ?_
          refine r_iushr S5 dJ6_numberOfLeadingZeros_0f7a4_59 ?_
          refine lv_istore_n (lv' := [(0, .int (su (su (su p0 16) 8) 4)), (1, .int 3)]) hx hb dJ6_numberOfLeadingZeros_0f7a4_60 rfl hl (by decide) rfl (fun ls hl => ?_)
          refine lv_iload_n hx hb dJ6_numberOfLeadingZeros_0f7a4_61 rfl (lv_at hl 0 rfl) ?_
          refine lv_iconst (v := 4) hx hb dJ6_numberOfLeadingZeros_0f7a4_62 (by decide) ?_
          refine lv_icmp_lt (tgt := 73) hx hb dJ6_numberOfLeadingZeros_0f7a4_63 (by decide) (fun c16 => ?_) (fun c16 => ?_)
          · rw [if_pos c16] at h
            refine lv_iload_n hx hb dJ6_numberOfLeadingZeros_0f7a4_73 rfl (lv_at hl 1 rfl) ?_
            refine lv_iload_n hx hb dJ6_numberOfLeadingZeros_0f7a4_74 rfl (lv_at hl 0 rfl) ?_
            refine lv_iconst (v := 1) hx hb dJ6_numberOfLeadingZeros_0f7a4_75 (by decide) ?_
            refine r_iushr S5 dJ6_numberOfLeadingZeros_0f7a4_76 ?_
            refine lv_isub hx hb dJ6_numberOfLeadingZeros_0f7a4_77 ?_
            subst h
            exact kr _ _ _ rfl rfl dJ6_numberOfLeadingZeros_0f7a4_78
          · rw [if_neg c16] at h
            refine lv_iinc (v := 1) (lv' := [(1, .int 1), (0, .int (su (su (su p0 16) 8) 4))]) hx hb dJ6_numberOfLeadingZeros_0f7a4_66 hl (k := 1) rfl rfl (by decide) rfl (fun ls hl => ?_)
            refine lv_iload_n hx hb dJ6_numberOfLeadingZeros_0f7a4_69 rfl (lv_at hl 1 rfl) ?_
            refine lv_iconst (v := 2) hx hb dJ6_numberOfLeadingZeros_0f7a4_70 (by decide) ?_
            refine r_iushr S5 dJ6_numberOfLeadingZeros_0f7a4_71 ?_
            refine lv_istore_n (lv' := [(0, .int (su (su (su (su p0 16) 8) 4) 2)), (1, .int 1)]) hx hb dJ6_numberOfLeadingZeros_0f7a4_72 rfl hl (by decide) rfl (fun ls hl => ?_)
            refine lv_iload_n hx hb dJ6_numberOfLeadingZeros_0f7a4_73 rfl (lv_at hl 1 rfl) ?_
            refine lv_iload_n hx hb dJ6_numberOfLeadingZeros_0f7a4_74 rfl (lv_at hl 0 rfl) ?_
            refine lv_iconst (v := 1) hx hb dJ6_numberOfLeadingZeros_0f7a4_75 (by decide) ?_
            refine r_iushr S5 dJ6_numberOfLeadingZeros_0f7a4_76 ?_
            refine lv_isub hx hb dJ6_numberOfLeadingZeros_0f7a4_77 ?_
            subst h
            exact kr _ _ _ rfl rfl dJ6_numberOfLeadingZeros_0f7a4_78
  · rw [if_neg c1] at h
    refine lv_iload_n hx hb dJ6_numberOfLeadingZeros_0f7a4_4 rfl (lv_at hl 0 rfl) ?_
    refine lv_if_ne (tgt := 13) hx hb dJ6_numberOfLeadingZeros_0f7a4_5 (by decide) (fun c17 => ?_) (fun c17 => ?_)
    · rw [if_neg c17] at h
      refine lv_iconst (v := 0) hx hb dJ6_numberOfLeadingZeros_0f7a4_13 (by decide) ?_
      subst h
      exact kr _ _ _ rfl rfl dJ6_numberOfLeadingZeros_0f7a4_14
    · rw [if_pos c17] at h
      refine lv_bipush (v := 32) hx hb dJ6_numberOfLeadingZeros_0f7a4_8 (by decide) ?_
      refine lv_goto (tgt := 14) hx hb dJ6_numberOfLeadingZeros_0f7a4_10 (by decide) ?_
      subst h
      exact kr _ _ _ rfl rfl dJ6_numberOfLeadingZeros_0f7a4_14

-- J6_bitCount_0f7a4
def fJ6_bitCount_0f7a4 (p0 : Int32) : Int32 := ((((((((p0 - ((su p0 1) &&& 1431655765)) &&& 858993459) + ((su (p0 - ((su p0 1) &&& 1431655765)) 2) &&& 858993459)) + (su (((p0 - ((su p0 1) &&& 1431655765)) &&& 858993459) + ((su (p0 - ((su p0 1) &&& 1431655765)) 2) &&& 858993459)) 4)) &&& 252645135) + (su (((((p0 - ((su p0 1) &&& 1431655765)) &&& 858993459) + ((su (p0 - ((su p0 1) &&& 1431655765)) 2) &&& 858993459)) + (su (((p0 - ((su p0 1) &&& 1431655765)) &&& 858993459) + ((su (p0 - ((su p0 1) &&& 1431655765)) 2) &&& 858993459)) 4)) &&& 252645135) 8)) + (su ((((((p0 - ((su p0 1) &&& 1431655765)) &&& 858993459) + ((su (p0 - ((su p0 1) &&& 1431655765)) 2) &&& 858993459)) + (su (((p0 - ((su p0 1) &&& 1431655765)) &&& 858993459) + ((su (p0 - ((su p0 1) &&& 1431655765)) 2) &&& 858993459)) 4)) &&& 252645135) + (su (((((p0 - ((su p0 1) &&& 1431655765)) &&& 858993459) + ((su (p0 - ((su p0 1) &&& 1431655765)) 2) &&& 858993459)) + (su (((p0 - ((su p0 1) &&& 1431655765)) &&& 858993459) + ((su (p0 - ((su p0 1) &&& 1431655765)) 2) &&& 858993459)) 4)) &&& 252645135) 8)) 16)) &&& 63)
def rmJ6_bitCount_0f7a4 : Room := { frames := 0, cells := 0, slots := 0, locals := 0 }
set_option maxHeartbeats 4000000 in
set_option maxRecDepth 100000 in
theorem kJ6_bitCount_0f7a4 (l : Launch) (p0 : Int32) : RdS l yJ6_bitCount_0f7a4 wsJ6_bitCount_0f7a4 rmJ6_bitCount_0f7a4 [.int p0] (fJ6_bitCount_0f7a4 p0) := by
  obtain ⟨r, h⟩ : ∃ r, fJ6_bitCount_0f7a4 p0 = r := ⟨_, rfl⟩
  rw [h]
  unfold fJ6_bitCount_0f7a4 at h
  refine RdS.of RJ6 rfl rfl rfl (Nat.le_of_ble_eq_true rfl) ?_
  intro p e s m args below meth c Q ls S5 hl kr
  obtain ⟨hx, hb, -, -, hts⟩ := id S5
  refine lv_iload_n hx hb dJ6_bitCount_0f7a4_0 rfl (lv_at hl 0 rfl) ?_
  refine lv_iload_n hx hb dJ6_bitCount_0f7a4_1 rfl (lv_at hl 0 rfl) ?_
  refine lv_iconst (v := 1) hx hb dJ6_bitCount_0f7a4_2 (by decide) ?_
  refine r_iushr S5 dJ6_bitCount_0f7a4_3 ?_
  refine r_ldcw (v := 1431655765) S5 (List.mem_of_getElem? (i := 1) rfl) dJ6_bitCount_0f7a4_4 ?_
  refine lv_iand hx hb dJ6_bitCount_0f7a4_7 ?_
  refine lv_isub hx hb dJ6_bitCount_0f7a4_8 ?_
  refine lv_istore_n (lv' := [(0, .int (p0 - ((su p0 1) &&& 1431655765)))]) hx hb dJ6_bitCount_0f7a4_9 rfl hl (by decide) rfl (fun ls hl => ?_)
  refine lv_iload_n hx hb dJ6_bitCount_0f7a4_10 rfl (lv_at hl 0 rfl) ?_
  refine r_ldcw (v := 858993459) S5 (List.mem_of_getElem? (i := 2) rfl) dJ6_bitCount_0f7a4_11 ?_
  refine lv_iand hx hb dJ6_bitCount_0f7a4_14 ?_
  refine lv_iload_n hx hb dJ6_bitCount_0f7a4_15 rfl (lv_at hl 0 rfl) ?_
  refine lv_iconst (v := 2) hx hb dJ6_bitCount_0f7a4_16 (by decide) ?_
  refine r_iushr S5 dJ6_bitCount_0f7a4_17 ?_
  refine r_ldcw (v := 858993459) S5 (List.mem_of_getElem? (i := 2) rfl) dJ6_bitCount_0f7a4_18 ?_
  refine lv_iand hx hb dJ6_bitCount_0f7a4_21 ?_
  refine lv_iadd hx hb dJ6_bitCount_0f7a4_22 ?_
  refine lv_istore_n (lv' := [(0, .int (((p0 - ((su p0 1) &&& 1431655765)) &&& 858993459) + ((su (p0 - ((su p0 1) &&& 1431655765)) 2) &&& 858993459)))]) hx hb dJ6_bitCount_0f7a4_23 rfl hl (by decide) rfl (fun ls hl => ?_)
  refine lv_iload_n hx hb dJ6_bitCount_0f7a4_24 rfl (lv_at hl 0 rfl) ?_
  refine lv_iload_n hx hb dJ6_bitCount_0f7a4_25 rfl (lv_at hl 0 rfl) ?_
  refine lv_iconst (v := 4) hx hb dJ6_bitCount_0f7a4_26 (by decide) ?_
  refine r_iushr S5 dJ6_bitCount_0f7a4_27 ?_
  refine lv_iadd hx hb dJ6_bitCount_0f7a4_28 ?_
  refine r_ldcw (v := 252645135) S5 (List.mem_of_getElem? (i := 3) rfl) dJ6_bitCount_0f7a4_29 ?_
  refine lv_iand hx hb dJ6_bitCount_0f7a4_32 ?_
  refine lv_istore_n (lv' := [(0, .int (((((p0 - ((su p0 1) &&& 1431655765)) &&& 858993459) + ((su (p0 - ((su p0 1) &&& 1431655765)) 2) &&& 858993459)) + (su (((p0 - ((su p0 1) &&& 1431655765)) &&& 858993459) + ((su (p0 - ((su p0 1) &&& 1431655765)) 2) &&& 858993459)) 4)) &&& 252645135))]) hx hb dJ6_bitCount_0f7a4_33 rfl hl (by decide) rfl (fun ls hl => ?_)
  refine lv_iload_n hx hb dJ6_bitCount_0f7a4_34 rfl (lv_at hl 0 rfl) ?_
  refine lv_iload_n hx hb dJ6_bitCount_0f7a4_35 rfl (lv_at hl 0 rfl) ?_
  refine lv_bipush (v := 8) hx hb dJ6_bitCount_0f7a4_36 (by decide) ?_
  refine r_iushr S5 dJ6_bitCount_0f7a4_38 ?_
  refine lv_iadd hx hb dJ6_bitCount_0f7a4_39 ?_
  refine lv_istore_n (lv' := [(0, .int ((((((p0 - ((su p0 1) &&& 1431655765)) &&& 858993459) + ((su (p0 - ((su p0 1) &&& 1431655765)) 2) &&& 858993459)) + (su (((p0 - ((su p0 1) &&& 1431655765)) &&& 858993459) + ((su (p0 - ((su p0 1) &&& 1431655765)) 2) &&& 858993459)) 4)) &&& 252645135) + (su (((((p0 - ((su p0 1) &&& 1431655765)) &&& 858993459) + ((su (p0 - ((su p0 1) &&& 1431655765)) 2) &&& 858993459)) + (su (((p0 - ((su p0 1) &&& 1431655765)) &&& 858993459) + ((su (p0 - ((su p0 1) &&& 1431655765)) 2) &&& 858993459)) 4)) &&& 252645135) 8)))]) hx hb dJ6_bitCount_0f7a4_40 rfl hl (by decide) rfl (fun ls hl => ?_)
  refine lv_iload_n hx hb dJ6_bitCount_0f7a4_41 rfl (lv_at hl 0 rfl) ?_
  refine lv_iload_n hx hb dJ6_bitCount_0f7a4_42 rfl (lv_at hl 0 rfl) ?_
  refine lv_bipush (v := 16) hx hb dJ6_bitCount_0f7a4_43 (by decide) ?_
  refine r_iushr S5 dJ6_bitCount_0f7a4_45 ?_
  refine lv_iadd hx hb dJ6_bitCount_0f7a4_46 ?_
  refine lv_istore_n (lv' := [(0, .int (((((((p0 - ((su p0 1) &&& 1431655765)) &&& 858993459) + ((su (p0 - ((su p0 1) &&& 1431655765)) 2) &&& 858993459)) + (su (((p0 - ((su p0 1) &&& 1431655765)) &&& 858993459) + ((su (p0 - ((su p0 1) &&& 1431655765)) 2) &&& 858993459)) 4)) &&& 252645135) + (su (((((p0 - ((su p0 1) &&& 1431655765)) &&& 858993459) + ((su (p0 - ((su p0 1) &&& 1431655765)) 2) &&& 858993459)) + (su (((p0 - ((su p0 1) &&& 1431655765)) &&& 858993459) + ((su (p0 - ((su p0 1) &&& 1431655765)) 2) &&& 858993459)) 4)) &&& 252645135) 8)) + (su ((((((p0 - ((su p0 1) &&& 1431655765)) &&& 858993459) + ((su (p0 - ((su p0 1) &&& 1431655765)) 2) &&& 858993459)) + (su (((p0 - ((su p0 1) &&& 1431655765)) &&& 858993459) + ((su (p0 - ((su p0 1) &&& 1431655765)) 2) &&& 858993459)) 4)) &&& 252645135) + (su (((((p0 - ((su p0 1) &&& 1431655765)) &&& 858993459) + ((su (p0 - ((su p0 1) &&& 1431655765)) 2) &&& 858993459)) + (su (((p0 - ((su p0 1) &&& 1431655765)) &&& 858993459) + ((su (p0 - ((su p0 1) &&& 1431655765)) 2) &&& 858993459)) 4)) &&& 252645135) 8)) 16)))]) hx hb dJ6_bitCount_0f7a4_47 rfl hl (by decide) rfl (fun ls hl => ?_)
  refine lv_iload_n hx hb dJ6_bitCount_0f7a4_48 rfl (lv_at hl 0 rfl) ?_
  refine lv_bipush (v := 63) hx hb dJ6_bitCount_0f7a4_49 (by decide) ?_
  refine lv_iand hx hb dJ6_bitCount_0f7a4_51 ?_
  subst h
  exact kr _ _ _ rfl rfl dJ6_bitCount_0f7a4_52

-- X0_lowest
def fX0_lowest (p0 : Int32) : Int32 := (fJ6_numberOfTrailingZeros_0f7a4 p0)
def rmX0_lowest : Room := { frames := 1, cells := 0, slots := 0, locals := 21 }
set_option maxHeartbeats 4000000 in
set_option maxRecDepth 100000 in
theorem kX0_lowest (l : Launch) (p0 : Int32) : RdS l yX0_lowest wsX0_lowest rmX0_lowest [.int p0] (fX0_lowest p0) := by
  obtain ⟨r, h⟩ : ∃ r, fX0_lowest p0 = r := ⟨_, rfl⟩
  rw [h]
  unfold fX0_lowest at h
  refine RdS.of RX0 rfl rfl rfl (Nat.le_of_ble_eq_true rfl) ?_
  intro p e s m args below meth c Q ls S5 hl kr
  obtain ⟨hx, hb, -, -, hts⟩ := id S5
  refine lv_iload_n hx hb dX0_lowest_0 rfl (lv_at hl 0 rfl) ?_
  refine cS S5 (As := [.int p0]) (kJ6_numberOfTrailingZeros_0f7a4 l _) (va_cwS 1 hts gX0_lowest_J6_numberOfTrailingZeros_0f7a4 rfl rfl rfl (by decide +kernel) ⟨(Nat.le_of_ble_eq_true rfl), (Nat.le_of_ble_eq_true rfl)⟩) rfl hl.1 (st0 := _) (rest := []) rfl (Nat.le_of_ble_eq_true rfl) dX0_lowest_1 ⟨Nat.zero_le _, Nat.zero_le _⟩ ?_
  subst h
  exact kr _ _ _ rfl rfl dX0_lowest_4

-- X0_highest
def fX0_highest (p0 : Int32) : Int32 := (31 - (fJ6_numberOfLeadingZeros_0f7a4 p0))
def rmX0_highest : Room := { frames := 1, cells := 0, slots := 0, locals := 21 }
set_option maxHeartbeats 4000000 in
set_option maxRecDepth 100000 in
theorem kX0_highest (l : Launch) (p0 : Int32) : RdS l yX0_highest wsX0_highest rmX0_highest [.int p0] (fX0_highest p0) := by
  obtain ⟨r, h⟩ : ∃ r, fX0_highest p0 = r := ⟨_, rfl⟩
  rw [h]
  unfold fX0_highest at h
  refine RdS.of RX0 rfl rfl rfl (Nat.le_of_ble_eq_true rfl) ?_
  intro p e s m args below meth c Q ls S5 hl kr
  obtain ⟨hx, hb, -, -, hts⟩ := id S5
  refine lv_bipush (v := 31) hx hb dX0_highest_0 (by decide) ?_
  refine lv_iload_n hx hb dX0_highest_2 rfl (lv_at hl 0 rfl) ?_
  refine cS S5 (As := [.int p0]) (kJ6_numberOfLeadingZeros_0f7a4 l _) (va_cwS 1 hts gX0_highest_J6_numberOfLeadingZeros_0f7a4 rfl rfl rfl (by decide +kernel) ⟨(Nat.le_of_ble_eq_true rfl), (Nat.le_of_ble_eq_true rfl)⟩) rfl hl.1 (st0 := _) (rest := [.int 31]) rfl (Nat.le_of_ble_eq_true rfl) dX0_highest_3 ⟨Nat.zero_le _, Nat.zero_le _⟩ ?_
  refine lv_isub hx hb dX0_highest_6 ?_
  subst h
  exact kr _ _ _ rfl rfl dX0_highest_7

-- X0_sideOf
def fX0_sideOf (p0 : Int32) : Int32 := (im p0 2)
def rmX0_sideOf : Room := { frames := 0, cells := 0, slots := 0, locals := 0 }
set_option maxHeartbeats 4000000 in
set_option maxRecDepth 100000 in
theorem kX0_sideOf (l : Launch) (p0 : Int32) : RdS l yX0_sideOf wsX0_sideOf rmX0_sideOf [.int p0] (fX0_sideOf p0) := by
  obtain ⟨r, h⟩ : ∃ r, fX0_sideOf p0 = r := ⟨_, rfl⟩
  rw [h]
  unfold fX0_sideOf at h
  refine RdS.of RX0 rfl rfl rfl (Nat.le_of_ble_eq_true rfl) ?_
  intro p e s m args below meth c Q ls S5 hl kr
  obtain ⟨hx, hb, -, -, hts⟩ := id S5
  refine lv_iload_n hx hb dX0_sideOf_0 rfl (lv_at hl 0 rfl) ?_
  refine lv_iconst (v := 2) hx hb dX0_sideOf_1 (by decide) ?_
  refine r_irem S5 dX0_sideOf_2 (by decide) ?_
  subst h
  exact kr _ _ _ rfl rfl dX0_sideOf_3

-- X0_equalBelow
def fX0_equalBelow_L13 : Nat → Int32 → Int32 → Int32 → Int32 → Option (Int32)
  | 0, _, _, _, _ => none
  | n + 1, v1, v2, v3, v4 => (if v4 < v3 then some ((-1)) else (if (fX0_holds v1 v4) = 0 then (if (fX0_holds v2 v4) = 0 then some ((-1)) else fX0_equalBelow_L13 n v1 v2 v3 (v4 + (-1))) else some (v4)))
def fX0_equalBelow (p0 : Int32) (p1 : Int32) (p2 : Int32) : Option (Int32) := fX0_equalBelow_L13 40 p1 p2 ((fX0_suitOf p0) * 6) (p0 - 1)
def rmX0_equalBelow : Room := { frames := 1, cells := 0, slots := 0, locals := 21 }
set_option maxHeartbeats 4000000 in
set_option maxRecDepth 100000 in
theorem kX0_equalBelow (l : Launch) (p0 : Int32) (p1 : Int32) (p2 : Int32) (r : Int32) (h : fX0_equalBelow p0 p1 p2 = some r) : RdS l yX0_equalBelow wsX0_equalBelow rmX0_equalBelow [.int p0, .int p1, .int p2] r := by
  unfold fX0_equalBelow at h
  refine RdS.of RX0 rfl rfl rfl (Nat.le_of_ble_eq_true rfl) ?_
  intro p e s m args below meth c Q ls S5 hl kr
  obtain ⟨hx, hb, -, -, hts⟩ := id S5
  have L13 : ∀ (n : Nat) (v1 : Int32) (v2 : Int32) (v3 : Int32) (v4 : Int32) (ls : Array Slot), fX0_equalBelow_L13 n v1 v2 v3 v4 = some r → lv_has ls 5 [(1, .int v1), (2, .int v2), (3, .int v3), (4, .int v4)] → W p l e rmX0_equalBelow s m args below meth c s.heap [] 0 0 Q (F0 m 13 ls []) := by
    intro n
    induction n with
    | zero => intro v1 v2 v3 v4 ls h hl; rw [fX0_equalBelow_L13.eq_1] at h; cases h
    | succ n ih =>
      intro v1 v2 v3 v4 ls h hl
      rw [fX0_equalBelow_L13.eq_2] at h
      refine lv_iload hx hb dX0_equalBelow_13 (lv_at hl 3 rfl) ?_
      refine lv_iload_n hx hb dX0_equalBelow_15 rfl (lv_at hl 2 rfl) ?_
      refine lv_icmp_lt (tgt := 48) hx hb dX0_equalBelow_16 (by decide) (fun c1 => ?_) (fun c1 => ?_)
      · rw [if_pos c1] at h
        refine lv_iconst (v := (-1)) hx hb dX0_equalBelow_48 (by decide) ?_
        obtain rfl := Option.some.inj h
        exact kr _ _ _ rfl rfl dX0_equalBelow_49
      · rw [if_neg c1] at h
        refine lv_iload_n hx hb dX0_equalBelow_19 rfl (lv_at hl 0 rfl) ?_
        refine lv_iload hx hb dX0_equalBelow_20 (lv_at hl 3 rfl) ?_
        refine cS S5 (As := [.int v1, .int v4]) (kX0_holds l _ _) (va_cwS 2 hts gX0_equalBelow_X0_holds rfl rfl rfl (by decide +kernel) ⟨(Nat.le_of_ble_eq_true rfl), (Nat.le_of_ble_eq_true rfl)⟩) rfl hl.1 (st0 := _) (rest := []) rfl (Nat.le_of_ble_eq_true rfl) dX0_equalBelow_22 ⟨Nat.zero_le _, Nat.zero_le _⟩ ?_
        refine lv_if_eq (tgt := 31) hx hb dX0_equalBelow_25 (by decide) (fun c2 => ?_) (fun c2 => ?_)
        · rw [if_pos c2] at h
          refine lv_iload_n hx hb dX0_equalBelow_31 rfl (lv_at hl 1 rfl) ?_
          refine lv_iload hx hb dX0_equalBelow_32 (lv_at hl 3 rfl) ?_
          refine cS S5 (As := [.int v2, .int v4]) (kX0_holds l _ _) (va_cwS 2 hts gX0_equalBelow_X0_holds rfl rfl rfl (by decide +kernel) ⟨(Nat.le_of_ble_eq_true rfl), (Nat.le_of_ble_eq_true rfl)⟩) rfl hl.1 (st0 := _) (rest := []) rfl (Nat.le_of_ble_eq_true rfl) dX0_equalBelow_34 ⟨Nat.zero_le _, Nat.zero_le _⟩ ?_
          refine lv_if_ne (tgt := 42) hx hb dX0_equalBelow_37 (by decide) (fun c3 => ?_) (fun c3 => ?_)
          · rw [if_neg c3] at h
            refine lv_iinc (v := v4 + (-1)) (lv' := [(4, .int (v4 + (-1))), (1, .int v1), (2, .int v2), (3, .int v3)]) hx hb dX0_equalBelow_42 hl (k := 3) rfl rfl (by decide) rfl (fun ls hl => ?_)
            refine lv_goto (tgt := 13) hx hb dX0_equalBelow_45 (by decide) ?_
            exact ih _ _ _ _ _ h (lv_sub hl [1, 2, 3, 0] rfl)
          · rw [if_pos c3] at h
            refine lv_iconst (v := (-1)) hx hb dX0_equalBelow_40 (by decide) ?_
            obtain rfl := Option.some.inj h
            exact kr _ _ _ rfl rfl dX0_equalBelow_41
        · rw [if_neg c2] at h
          refine lv_iload hx hb dX0_equalBelow_28 (lv_at hl 3 rfl) ?_
          obtain rfl := Option.some.inj h
          exact kr _ _ _ rfl rfl dX0_equalBelow_30
  refine lv_iload_n hx hb dX0_equalBelow_0 rfl (lv_at hl 0 rfl) ?_
  refine cS S5 (As := [.int p0]) (kX0_suitOf l _) (va_cwS 1 hts gX0_equalBelow_X0_suitOf rfl rfl rfl (by decide +kernel) ⟨(Nat.le_of_ble_eq_true rfl), (Nat.le_of_ble_eq_true rfl)⟩) rfl hl.1 (st0 := _) (rest := []) rfl (Nat.le_of_ble_eq_true rfl) dX0_equalBelow_1 ⟨Nat.zero_le _, Nat.zero_le _⟩ ?_
  refine lv_bipush (v := 6) hx hb dX0_equalBelow_4 (by decide) ?_
  refine lv_imul hx hb dX0_equalBelow_6 ?_
  refine lv_istore_n (lv' := [(3, .int ((fX0_suitOf p0) * 6)), (0, .int p0), (1, .int p1), (2, .int p2)]) hx hb dX0_equalBelow_7 rfl hl (by decide) rfl (fun ls hl => ?_)
  refine lv_iload_n hx hb dX0_equalBelow_8 rfl (lv_at hl 1 rfl) ?_
  refine lv_iconst (v := 1) hx hb dX0_equalBelow_9 (by decide) ?_
  refine lv_isub hx hb dX0_equalBelow_10 ?_
  refine lv_istore (lv' := [(4, .int (p0 - 1)), (3, .int ((fX0_suitOf p0) * 6)), (0, .int p0), (1, .int p1), (2, .int p2)]) hx hb dX0_equalBelow_11 hl (by decide) rfl (fun ls hl => ?_)
  exact L13 _ _ _ _ _ _ h (lv_sub hl [3, 4, 1, 0] rfl)

-- X0_lowestOfEquals
def fX0_lowestOfEquals_L7 : Nat → Int32 → Int32 → Int32 → Int32 → Int32 → Option (Int32)
  | 0, _, _, _, _, _ => none
  | n + 1, v0, v1, v2, v3, v4 => (if 4 ≤ v4 then some (v2) else (if v3 = 0 then some (v2) else (obind (fX0_equalBelow (fX0_lowest v3) v0 v1) (fun q4 => (if q4 = ((-1)) then fX0_lowestOfEquals_L7 n v0 v1 (v2 ||| (sl 1 (fX0_lowest v3))) (v3 &&& ((sl 1 (fX0_lowest v3)) ^^^ ((-1)))) (v4 + 1) else fX0_lowestOfEquals_L7 n v0 v1 v2 (v3 &&& ((sl 1 (fX0_lowest v3)) ^^^ ((-1)))) (v4 + 1))))))
def fX0_lowestOfEquals (p0 : Int32) (p1 : Int32) : Option (Int32) := (obind (fX0_lowestOfEquals_L7 40 p0 p1 0 p0 0) (fun q1 => some (q1)))
def rmX0_lowestOfEquals : Room := { frames := 2, cells := 0, slots := 0, locals := 45 }
set_option maxHeartbeats 4000000 in
set_option maxRecDepth 100000 in
theorem kX0_lowestOfEquals (l : Launch) (p0 : Int32) (p1 : Int32) (r : Int32) (h : fX0_lowestOfEquals p0 p1 = some r) : RdS l yX0_lowestOfEquals wsX0_lowestOfEquals rmX0_lowestOfEquals [.int p0, .int p1] r := by
  unfold fX0_lowestOfEquals at h
  refine RdS.of RX0 rfl rfl rfl (Nat.le_of_ble_eq_true rfl) ?_
  intro p e s m args below meth c Q ls S5 hl kr
  obtain ⟨hx, hb, -, -, hts⟩ := id S5
  have L7 : ∀ (n : Nat) (v0 : Int32) (v1 : Int32) (v2 : Int32) (v3 : Int32) (v4 : Int32) (r' : Int32) (ls : Array Slot), fX0_lowestOfEquals_L7 n v0 v1 v2 v3 v4 = some r' → lv_has ls 6 [(0, .int v0), (1, .int v1), (2, .int v2), (3, .int v3), (4, .int v4)] → (∀ (ls : Array Slot), lv_has ls 6 [(0, .int v0), (1, .int v1), (2, .int (r'))] → W p l e rmX0_lowestOfEquals s m args below meth c s.heap [] 0 0 Q (F0 m 56 ls [])) → W p l e rmX0_lowestOfEquals s m args below meth c s.heap [] 0 0 Q (F0 m 7 ls []) := by
    intro n
    induction n with
    | zero => intro v0 v1 v2 v3 v4 r' ls h hl kk; rw [fX0_lowestOfEquals_L7.eq_1] at h; cases h
    | succ n ih =>
      intro v0 v1 v2 v3 v4 r' ls h hl kk
      rw [fX0_lowestOfEquals_L7.eq_2] at h
      refine lv_iload hx hb dX0_lowestOfEquals_7 (lv_at hl 4 rfl) ?_
      refine lv_iconst (v := 4) hx hb dX0_lowestOfEquals_9 (by decide) ?_
      refine lv_icmp_ge (tgt := 56) hx hb dX0_lowestOfEquals_10 (by decide) (fun c2 => ?_) (fun c2 => ?_)
      · rw [if_pos c2] at h
        obtain rfl := Option.some.inj h
        exact kk _ (lv_sub hl [0, 1, 2] rfl)
      · rw [if_neg c2] at h
        refine lv_iload_n hx hb dX0_lowestOfEquals_13 rfl (lv_at hl 3 rfl) ?_
        refine lv_if_eq (tgt := 56) hx hb dX0_lowestOfEquals_14 (by decide) (fun c3 => ?_) (fun c3 => ?_)
        · rw [if_pos c3] at h
          obtain rfl := Option.some.inj h
          exact kk _ (lv_sub hl [0, 1, 2] rfl)
        · rw [if_neg c3] at h
          refine lv_iload_n hx hb dX0_lowestOfEquals_17 rfl (lv_at hl 3 rfl) ?_
          refine cS S5 (As := [.int v3]) (kX0_lowest l _) (va_cwS 1 hts gX0_lowestOfEquals_X0_lowest rfl rfl rfl (by decide +kernel) ⟨(Nat.le_of_ble_eq_true rfl), (Nat.le_of_ble_eq_true rfl)⟩) rfl hl.1 (st0 := _) (rest := []) rfl (Nat.le_of_ble_eq_true rfl) dX0_lowestOfEquals_18 ⟨Nat.zero_le _, Nat.zero_le _⟩ ?_
          refine lv_istore (lv' := [(5, .int (fX0_lowest v3)), (0, .int v0), (1, .int v1), (2, .int v2), (3, .int v3), (4, .int v4)]) hx hb dX0_lowestOfEquals_21 hl (by decide) rfl (fun ls hl => ?_)
          refine lv_iload_n hx hb dX0_lowestOfEquals_23 rfl (lv_at hl 4 rfl) ?_
          refine lv_iconst (v := 1) hx hb dX0_lowestOfEquals_24 (by decide) ?_
          refine lv_iload hx hb dX0_lowestOfEquals_25 (lv_at hl 0 rfl) ?_
          refine r_ishl S5 dX0_lowestOfEquals_27 ?_
          refine lv_iconst (v := (-1)) hx hb dX0_lowestOfEquals_28 (by decide) ?_
          refine lv_ixor hx hb dX0_lowestOfEquals_29 ?_
          refine lv_iand hx hb dX0_lowestOfEquals_30 ?_
          refine lv_istore_n (lv' := [(3, .int (v3 &&& ((sl 1 (fX0_lowest v3)) ^^^ ((-1))))), (5, .int (fX0_lowest v3)), (0, .int v0), (1, .int v1), (2, .int v2), (4, .int v4)]) hx hb dX0_lowestOfEquals_31 rfl hl (by decide) rfl (fun ls hl => ?_)
          refine lv_iload hx hb dX0_lowestOfEquals_32 (lv_at hl 1 rfl) ?_
          refine lv_iload_n hx hb dX0_lowestOfEquals_34 rfl (lv_at hl 2 rfl) ?_
          refine lv_iload_n hx hb dX0_lowestOfEquals_35 rfl (lv_at hl 3 rfl) ?_
          obtain ⟨q4, hqq4, h⟩ := obind_some h
          refine cS S5 (As := [.int (fX0_lowest v3), .int v0, .int v1]) (kX0_equalBelow l _ _ _ _ hqq4) (va_cwS 3 hts gX0_lowestOfEquals_X0_equalBelow rfl rfl rfl (by decide +kernel) ⟨(Nat.le_of_ble_eq_true rfl), (Nat.le_of_ble_eq_true rfl)⟩) rfl hl.1 (st0 := _) (rest := []) rfl (Nat.le_of_ble_eq_true rfl) dX0_lowestOfEquals_36 ⟨Nat.zero_le _, Nat.zero_le _⟩ ?_
          refine lv_iconst (v := (-1)) hx hb dX0_lowestOfEquals_39 (by decide) ?_
          refine lv_icmp_ne (tgt := 50) hx hb dX0_lowestOfEquals_40 (by decide) (fun c5 => ?_) (fun c5 => ?_)
          · rw [if_neg c5] at h
            refine lv_iinc (v := v4 + 1) (lv' := [(4, .int (v4 + 1)), (3, .int (v3 &&& ((sl 1 (fX0_lowest v3)) ^^^ ((-1))))), (5, .int (fX0_lowest v3)), (0, .int v0), (1, .int v1), (2, .int v2)]) hx hb dX0_lowestOfEquals_50 hl (k := 5) rfl rfl (by decide) rfl (fun ls hl => ?_)
            refine lv_goto (tgt := 7) hx hb dX0_lowestOfEquals_53 (by decide) ?_
            exact ih _ _ _ _ _ _ _ h (lv_sub hl [3, 4, 5, 1, 0] rfl) kk
          · rw [if_pos c5] at h
            refine lv_iload_n hx hb dX0_lowestOfEquals_43 rfl (lv_at hl 4 rfl) ?_
            refine lv_iconst (v := 1) hx hb dX0_lowestOfEquals_44 (by decide) ?_
            refine lv_iload hx hb dX0_lowestOfEquals_45 (lv_at hl 1 rfl) ?_
            refine r_ishl S5 dX0_lowestOfEquals_47 ?_
            refine lv_ior hx hb dX0_lowestOfEquals_48 ?_
            refine lv_istore_n (lv' := [(2, .int (v2 ||| (sl 1 (fX0_lowest v3)))), (3, .int (v3 &&& ((sl 1 (fX0_lowest v3)) ^^^ ((-1))))), (5, .int (fX0_lowest v3)), (0, .int v0), (1, .int v1), (4, .int v4)]) hx hb dX0_lowestOfEquals_49 rfl hl (by decide) rfl (fun ls hl => ?_)
            refine lv_iinc (v := v4 + 1) (lv' := [(4, .int (v4 + 1)), (2, .int (v2 ||| (sl 1 (fX0_lowest v3)))), (3, .int (v3 &&& ((sl 1 (fX0_lowest v3)) ^^^ ((-1))))), (5, .int (fX0_lowest v3)), (0, .int v0), (1, .int v1)]) hx hb dX0_lowestOfEquals_50 hl (k := 5) rfl rfl (by decide) rfl (fun ls hl => ?_)
            refine lv_goto (tgt := 7) hx hb dX0_lowestOfEquals_53 (by decide) ?_
            exact ih _ _ _ _ _ _ _ h (lv_sub hl [4, 5, 1, 2, 0] rfl) kk
  refine lv_iconst (v := 0) hx hb dX0_lowestOfEquals_0 (by decide) ?_
  refine lv_istore_n (lv' := [(2, .int 0), (0, .int p0), (1, .int p1)]) hx hb dX0_lowestOfEquals_1 rfl hl (by decide) rfl (fun ls hl => ?_)
  refine lv_iload_n hx hb dX0_lowestOfEquals_2 rfl (lv_at hl 1 rfl) ?_
  refine lv_istore_n (lv' := [(3, .int p0), (2, .int 0), (0, .int p0), (1, .int p1)]) hx hb dX0_lowestOfEquals_3 rfl hl (by decide) rfl (fun ls hl => ?_)
  refine lv_iconst (v := 0) hx hb dX0_lowestOfEquals_4 (by decide) ?_
  refine lv_istore (lv' := [(4, .int 0), (3, .int p0), (2, .int 0), (0, .int p0), (1, .int p1)]) hx hb dX0_lowestOfEquals_5 hl (by decide) rfl (fun ls hl => ?_)
  obtain ⟨q1, hqq1, h⟩ := obind_some h
  refine L7 _ _ _ _ _ _ _ _ hqq1 (lv_sub hl [3, 4, 2, 1, 0] rfl) (fun ls hl => ?_)
  have hl := lv_sub (l' := [(2, .int q1)]) hl [2] rfl
  refine lv_iload_n hx hb dX0_lowestOfEquals_56 rfl (lv_at hl 0 rfl) ?_
  obtain rfl := Option.some.inj h
  exact kr _ _ _ rfl rfl dX0_lowestOfEquals_57

-- X2_slotOf
def fX2_slotOf (p0 : Int32) : Int32 := (su (p0 * ((-1640531535))) 22)
def rmX2_slotOf : Room := { frames := 0, cells := 0, slots := 0, locals := 0 }
set_option maxHeartbeats 4000000 in
set_option maxRecDepth 100000 in
theorem kX2_slotOf (l : Launch) (p0 : Int32) : RdS l yX2_slotOf wsX2_slotOf rmX2_slotOf [.int p0] (fX2_slotOf p0) := by
  obtain ⟨r, h⟩ : ∃ r, fX2_slotOf p0 = r := ⟨_, rfl⟩
  rw [h]
  unfold fX2_slotOf at h
  refine RdS.of RX2 rfl rfl rfl (Nat.le_of_ble_eq_true rfl) ?_
  intro p e s m args below meth c Q ls S5 hl kr
  obtain ⟨hx, hb, -, -, hts⟩ := id S5
  refine lv_iload_n hx hb dX2_slotOf_0 rfl (lv_at hl 0 rfl) ?_
  refine r_ldc (v := (-1640531535)) S5 (List.mem_of_getElem? (i := 1) rfl) dX2_slotOf_1 ?_
  refine lv_imul hx hb dX2_slotOf_3 ?_
  refine lv_bipush (v := 22) hx hb dX2_slotOf_4 (by decide) ?_
  refine r_iushr S5 dX2_slotOf_6 ?_
  subst h
  exact kr _ _ _ rfl rfl dX2_slotOf_7

-- X4_gainOf
def fX4_gainOf (p0 : Int32) : Int32 := (if p0 = ((-1)) then (0) else (if (fX0_sideOf p0) = 0 then (1) else (0)))
def rmX4_gainOf : Room := { frames := 1, cells := 0, slots := 0, locals := 20 }
set_option maxHeartbeats 4000000 in
set_option maxRecDepth 100000 in
theorem kX4_gainOf (l : Launch) (p0 : Int32) : RdS l yX4_gainOf wsX4_gainOf rmX4_gainOf [.int p0] (fX4_gainOf p0) := by
  obtain ⟨r, h⟩ : ∃ r, fX4_gainOf p0 = r := ⟨_, rfl⟩
  rw [h]
  unfold fX4_gainOf at h
  refine RdS.of RX4 rfl rfl rfl (Nat.le_of_ble_eq_true rfl) ?_
  intro p e s m args below meth c Q ls S5 hl kr
  obtain ⟨hx, hb, -, -, hts⟩ := id S5
  refine lv_iload_n hx hb dX4_gainOf_0 rfl (lv_at hl 0 rfl) ?_
  refine lv_iconst (v := (-1)) hx hb dX4_gainOf_1 (by decide) ?_
  refine lv_icmp_eq (tgt := 16) hx hb dX4_gainOf_2 (by decide) (fun c1 => ?_) (fun c1 => ?_)
  · rw [if_pos c1] at h
    refine lv_iconst (v := 0) hx hb dX4_gainOf_16 (by decide) ?_
    subst h
    exact kr _ _ _ rfl rfl dX4_gainOf_17
  · rw [if_neg c1] at h
    refine lv_iload_n hx hb dX4_gainOf_5 rfl (lv_at hl 0 rfl) ?_
    refine cS S5 (As := [.int p0]) (kX0_sideOf l _) (va_cwS 1 hts gX4_gainOf_X0_sideOf rfl rfl rfl (by decide +kernel) ⟨(Nat.le_of_ble_eq_true rfl), (Nat.le_of_ble_eq_true rfl)⟩) rfl hl.1 (st0 := _) (rest := []) rfl (Nat.le_of_ble_eq_true rfl) dX4_gainOf_6 ⟨Nat.zero_le _, Nat.zero_le _⟩ ?_
    refine lv_if_ne (tgt := 16) hx hb dX4_gainOf_9 (by decide) (fun c2 => ?_) (fun c2 => ?_)
    · rw [if_neg c2] at h
      refine lv_iconst (v := 0) hx hb dX4_gainOf_16 (by decide) ?_
      subst h
      exact kr _ _ _ rfl rfl dX4_gainOf_17
    · rw [if_pos c2] at h
      refine lv_iconst (v := 1) hx hb dX4_gainOf_12 (by decide) ?_
      refine lv_goto (tgt := 17) hx hb dX4_gainOf_13 (by decide) ?_
      subst h
      exact kr _ _ _ rfl rfl dX4_gainOf_17
