-- X2_clear
def fX2_clear_L2 : Nat → Int32 → Mem → Option (Mem)
  | 0, _, _ => none
  | n + 1, v1, M => (if 1024 ≤ v1 then some (M) else (if vin v1 1024 = true then fX2_clear_L2 n (v1 + 1) ((mset M 5 v1.toNatClampNeg 0)) else none))
def fX2_clear (M : Mem) : Option (Mem) := (obind (fX2_clear_L2 2000 0 M) (fun q1 => some (q1)))
def rmX2_clear : Room := { frames := 0, cells := 0, slots := 0, locals := 0 }
set_option maxHeartbeats 4000000 in
set_option maxRecDepth 100000 in
theorem kX2_clear (l : Launch) (D : va_G) (cA : Nat) (ad : Nat → Nat) (M : Mem) (r : Mem) (h : fX2_clear M = some r) : WvX l yX2_clear wsX2_clear rmX2_clear D cA ad M [.ref (ad 4)] r := by
  unfold fX2_clear at h
  refine WvX.of RX2 rfl rfl rfl (Nat.le_of_ble_eq_true rfl) ?_
  intro p e s m args below meth c Q ls A eA S5 hK hP hD hS hl kr
  have hA : ∀ (H : Heap) (q : Nat), s.heap.size ≤ H.size → AX ad H.size q → A q := fun H q hz h => by rw [eA]; exact AX.mono hz h
  obtain ⟨hx, hb, -, -, hts⟩ := id S5
  have hin : ∀ w ∈ wsX20, w ∈ wsX2_clear := fun _ h => List.mem_cons_of_mem _ (List.mem_append_right _ (h))
  have L2 : ∀ (n : Nat) (v1 : Int32) (M : Mem) (r' : Mem) (H : Heap) (locs : List Loc) (ls : Array Slot), fX2_clear_L2 n v1 M = some r' → va_P D vwCl (wX cA ad M) H → va_S A s.heap H locs → lv_has ls 2 [(0, .ref (ad 4)), (1, .int v1)] → (∀ (H : Heap) (locs : List Loc), va_P D vwCl (wX cA ad (r')) H → va_S A s.heap H locs → ∀ (ls : Array Slot), lv_has ls 2 [(0, .ref (ad 4))] → W p l e rmX2_clear s m args below meth c H locs 0 0 Q (F0 m 24 ls [])) → W p l e rmX2_clear s m args below meth c H locs 0 0 Q (F0 m 2 ls []) := by
    intro n
    induction n with
    | zero => intro v1 M r' H locs ls h hP hS hl kk; rw [fX2_clear_L2.eq_1] at h; cases h
    | succ n ih =>
      intro v1 M r' H locs ls h hP hS hl kk
      rw [fX2_clear_L2.eq_2] at h
      refine lv_iload_n hx hb dX2_clear_2 rfl (lv_at hl 1 rfl) ?_
      refine lv_aload_n hx hb dX2_clear_3 rfl (lv_at hl 0 rfl) ?_
      refine gX2_entries S5 hin hK hP (List.mem_of_getElem? (i := 1) rfl) dX2_clear_4 ?_
      refine anX5 S5 hK hP dX2_clear_7 ?_
      refine lv_icmp_ge (tgt := 24) hx hb dX2_clear_8 (by decide) (fun c2 => ?_) (fun c2 => ?_)
      · rw [if_pos c2] at h
        obtain rfl := Option.some.inj h
        exact kk _ _ hP hS _ (lv_sub hl [0] rfl)
      · rw [if_neg c2] at h
        refine lv_aload_n hx hb dX2_clear_11 rfl (lv_at hl 0 rfl) ?_
        refine gX2_entries S5 hin hK hP (List.mem_of_getElem? (i := 1) rfl) dX2_clear_12 ?_
        refine lv_iload_n hx hb dX2_clear_15 rfl (lv_at hl 1 rfl) ?_
        refine lv_iconst (v := 0) hx hb dX2_clear_16 (by decide) ?_
        obtain ⟨g3, h⟩ := gd_some h
        refine asX5 S5 hK hP hD hS g3 (k := v1.toNatClampNeg) rfl dX2_clear_17 (fun H locs hP hS => ?_)
        refine lv_iinc (v := v1 + 1) (lv' := [(1, .int (v1 + 1)), (0, .ref (ad 4))]) hx hb dX2_clear_18 hl (k := 1) rfl rfl (by decide) rfl (fun ls hl => ?_)
        refine lv_goto (tgt := 2) hx hb dX2_clear_21 (by decide) ?_
        exact ih _ _ _ _ _ _ h hP hS (lv_sub hl [1, 0] rfl) kk
  refine lv_iconst (v := 0) hx hb dX2_clear_0 (by decide) ?_
  refine lv_istore_n (lv' := [(1, .int 0), (0, .ref (ad 4))]) hx hb dX2_clear_1 rfl hl (by decide) rfl (fun ls hl => ?_)
  obtain ⟨q1, hqq1, h⟩ := obind_some h
  refine L2 _ _ _ _ _ _ _ hqq1 hP hS (lv_sub hl [1, 0] rfl) (fun H locs hP hS ls hl => ?_)
  have hl := lv_sub (l' := []) hl [] rfl
  obtain rfl := Option.some.inj h
  exact kr _ _ _ _ hP hS dX2_clear_24

-- X2_entryOf
def fX2_entryOf (p1 : Int32) (M : Mem) : Int32 := (if (fX2_slotOf p1) < 0 then (0) else (if (fX2_slotOf p1) < 1024 then (if (su (M 5 ((fX2_slotOf p1).toNatClampNeg)) 6) = p1 then (M 5 ((fX2_slotOf p1).toNatClampNeg)) else (0)) else (0)))
def rmX2_entryOf : Room := { frames := 1, cells := 0, slots := 0, locals := 20 }
set_option maxHeartbeats 4000000 in
set_option maxRecDepth 100000 in
theorem kX2_entryOf (l : Launch) (D : va_G) (cA : Nat) (ad : Nat → Nat) (p1 : Int32) (M : Mem) : RdX l yX2_entryOf wsX2_entryOf rmX2_entryOf D cA ad M [.ref (ad 4), .int p1] (fX2_entryOf p1 M) := by
  obtain ⟨r, h⟩ : ∃ r, fX2_entryOf p1 M = r := ⟨_, rfl⟩
  rw [h]
  unfold fX2_entryOf at h
  refine RdX.of RX2 rfl rfl rfl (Nat.le_of_ble_eq_true rfl) ?_
  intro p e s m args below meth c Q ls S5 hK hP hl kr
  obtain ⟨hx, hb, -, -, hts⟩ := id S5
  have hin : ∀ w ∈ wsX20, w ∈ wsX2_entryOf := fun _ h => List.mem_cons_of_mem _ (List.mem_append_right _ (h))
  refine lv_iload_n hx hb dX2_entryOf_0 rfl (lv_at hl 1 rfl) ?_
  refine cS S5 (As := [.int p1]) (kX2_slotOf l _) (va_cwS 1 hts gX2_entryOf_X2_slotOf rfl rfl rfl (by decide +kernel) ⟨(Nat.le_of_ble_eq_true rfl), (Nat.le_of_ble_eq_true rfl)⟩) rfl hl.1 (st0 := _) (rest := []) rfl (Nat.le_of_ble_eq_true rfl) dX2_entryOf_1 ⟨Nat.zero_le _, Nat.zero_le _⟩ ?_
  refine lv_istore_n (lv' := [(2, .int (fX2_slotOf p1)), (0, .ref (ad 4)), (1, .int p1)]) hx hb dX2_entryOf_4 rfl hl (by decide) rfl (fun ls hl => ?_)
  refine lv_iload_n hx hb dX2_entryOf_5 rfl (lv_at hl 0 rfl) ?_
  refine lv_if_lt (tgt := 18) hx hb dX2_entryOf_6 (by decide) (fun c1 => ?_) (fun c1 => ?_)
  · rw [if_pos c1] at h
    refine lv_iconst (v := 0) hx hb dX2_entryOf_18 (by decide) ?_
    subst h
    exact kr _ _ _ rfl rfl dX2_entryOf_19
  · rw [if_neg c1] at h
    refine lv_iload_n hx hb dX2_entryOf_9 rfl (lv_at hl 0 rfl) ?_
    refine lv_aload_n hx hb dX2_entryOf_10 rfl (lv_at hl 1 rfl) ?_
    refine gX2_entries S5 hin hK hP (List.mem_of_getElem? (i := 1) rfl) dX2_entryOf_11 ?_
    refine anX5 S5 hK hP dX2_entryOf_14 ?_
    refine lv_icmp_lt (tgt := 20) hx hb dX2_entryOf_15 (by decide) (fun c2 => ?_) (fun c2 => ?_)
    · rw [if_pos c2] at h
      refine lv_aload_n hx hb dX2_entryOf_20 rfl (lv_at hl 1 rfl) ?_
      refine gX2_entries S5 hin hK hP (List.mem_of_getElem? (i := 1) rfl) dX2_entryOf_21 ?_
      refine lv_iload_n hx hb dX2_entryOf_24 rfl (lv_at hl 0 rfl) ?_
      refine alX5 S5 hK hP (v := M 5 ((fX2_slotOf p1).toNatClampNeg)) (vin_c c1 c2 (by decide)) rfl dX2_entryOf_25 ?_
      refine lv_istore_n (lv' := [(3, .int (M 5 ((fX2_slotOf p1).toNatClampNeg))), (2, .int (fX2_slotOf p1)), (0, .ref (ad 4)), (1, .int p1)]) hx hb dX2_entryOf_26 rfl hl (by decide) rfl (fun ls hl => ?_)
      refine lv_iload_n hx hb dX2_entryOf_27 rfl (lv_at hl 0 rfl) ?_
      refine lv_bipush (v := 6) hx hb dX2_entryOf_28 (by decide) ?_
      refine r_iushr S5 dX2_entryOf_30 ?_
      refine lv_iload_n hx hb dX2_entryOf_31 rfl (lv_at hl 3 rfl) ?_
      refine lv_icmp_ne (tgt := 39) hx hb dX2_entryOf_32 (by decide) (fun c3 => ?_) (fun c3 => ?_)
      · rw [if_neg c3] at h
        refine lv_iconst (v := 0) hx hb dX2_entryOf_39 (by decide) ?_
        subst h
        exact kr _ _ _ rfl rfl dX2_entryOf_40
      · rw [if_pos c3] at h
        refine lv_iload_n hx hb dX2_entryOf_35 rfl (lv_at hl 0 rfl) ?_
        refine lv_goto (tgt := 40) hx hb dX2_entryOf_36 (by decide) ?_
        subst h
        exact kr _ _ _ rfl rfl dX2_entryOf_40
    · rw [if_neg c2] at h
      refine lv_iconst (v := 0) hx hb dX2_entryOf_18 (by decide) ?_
      subst h
      exact kr _ _ _ rfl rfl dX2_entryOf_19

-- X2_leastAt
def fX2_leastAt (p1 : Int32) (M : Mem) : Int32 := ((fX2_entryOf p1 M) &&& 7)
def rmX2_leastAt : Room := { frames := 2, cells := 0, slots := 0, locals := 43 }
set_option maxHeartbeats 4000000 in
set_option maxRecDepth 100000 in
theorem kX2_leastAt (l : Launch) (D : va_G) (cA : Nat) (ad : Nat → Nat) (p1 : Int32) (M : Mem) : RdX l yX2_leastAt wsX2_leastAt rmX2_leastAt D cA ad M [.ref (ad 4), .int p1] (fX2_leastAt p1 M) := by
  obtain ⟨r, h⟩ : ∃ r, fX2_leastAt p1 M = r := ⟨_, rfl⟩
  rw [h]
  unfold fX2_leastAt at h
  refine RdX.of RX2 rfl rfl rfl (Nat.le_of_ble_eq_true rfl) ?_
  intro p e s m args below meth c Q ls S5 hK hP hl kr
  obtain ⟨hx, hb, -, -, hts⟩ := id S5
  have hin : ∀ w ∈ wsX20, w ∈ wsX2_leastAt := fun _ h => List.mem_cons_of_mem _ (List.mem_append_right _ (h))
  refine lv_aload_n hx hb dX2_leastAt_0 rfl (lv_at hl 0 rfl) ?_
  refine lv_iload_n hx hb dX2_leastAt_1 rfl (lv_at hl 1 rfl) ?_
  refine cVX S5 hK hP 4 rfl rfl (As := [.int p1]) (kX2_entryOf l D cA ad _ _) (cwV 1 hts gX2_leastAt_X2_entryOf rfl rfl rfl (by decide +kernel) ⟨(Nat.le_of_ble_eq_true rfl), (Nat.le_of_ble_eq_true rfl)⟩) rfl hl.1 (st0 := _) (rest := []) rfl (Nat.le_of_ble_eq_true rfl) dX2_leastAt_2 ⟨Nat.zero_le _, Nat.zero_le _⟩ ?_
  refine lv_bipush (v := 7) hx hb dX2_leastAt_5 (by decide) ?_
  refine lv_iand hx hb dX2_leastAt_7 ?_
  subst h
  exact kr _ _ _ rfl rfl dX2_leastAt_8

-- X2_mostAt
def fX2_mostAt (p1 : Int32) (p2 : Int32) (M : Mem) : Int32 := (if (fX2_entryOf p1 M) = 0 then (p2) else ((su (fX2_entryOf p1 M) 3) &&& 7))
def rmX2_mostAt : Room := { frames := 2, cells := 0, slots := 0, locals := 43 }
set_option maxHeartbeats 4000000 in
set_option maxRecDepth 100000 in
theorem kX2_mostAt (l : Launch) (D : va_G) (cA : Nat) (ad : Nat → Nat) (p1 : Int32) (p2 : Int32) (M : Mem) : RdX l yX2_mostAt wsX2_mostAt rmX2_mostAt D cA ad M [.ref (ad 4), .int p1, .int p2] (fX2_mostAt p1 p2 M) := by
  obtain ⟨r, h⟩ : ∃ r, fX2_mostAt p1 p2 M = r := ⟨_, rfl⟩
  rw [h]
  unfold fX2_mostAt at h
  refine RdX.of RX2 rfl rfl rfl (Nat.le_of_ble_eq_true rfl) ?_
  intro p e s m args below meth c Q ls S5 hK hP hl kr
  obtain ⟨hx, hb, -, -, hts⟩ := id S5
  have hin : ∀ w ∈ wsX20, w ∈ wsX2_mostAt := fun _ h => List.mem_cons_of_mem _ (List.mem_append_right _ (h))
  refine lv_aload_n hx hb dX2_mostAt_0 rfl (lv_at hl 0 rfl) ?_
  refine lv_iload_n hx hb dX2_mostAt_1 rfl (lv_at hl 1 rfl) ?_
  refine cVX S5 hK hP 4 rfl rfl (As := [.int p1]) (kX2_entryOf l D cA ad _ _) (cwV 1 hts gX2_mostAt_X2_entryOf rfl rfl rfl (by decide +kernel) ⟨(Nat.le_of_ble_eq_true rfl), (Nat.le_of_ble_eq_true rfl)⟩) rfl hl.1 (st0 := _) (rest := []) rfl (Nat.le_of_ble_eq_true rfl) dX2_mostAt_2 ⟨Nat.zero_le _, Nat.zero_le _⟩ ?_
  refine lv_istore_n (lv' := [(3, .int (fX2_entryOf p1 M)), (0, .ref (ad 4)), (1, .int p1), (2, .int p2)]) hx hb dX2_mostAt_5 rfl hl (by decide) rfl (fun ls hl => ?_)
  refine lv_iload_n hx hb dX2_mostAt_6 rfl (lv_at hl 0 rfl) ?_
  refine lv_if_ne (tgt := 14) hx hb dX2_mostAt_7 (by decide) (fun c1 => ?_) (fun c1 => ?_)
  · rw [if_neg c1] at h
    refine lv_iload_n hx hb dX2_mostAt_14 rfl (lv_at hl 0 rfl) ?_
    refine lv_iconst (v := 3) hx hb dX2_mostAt_15 (by decide) ?_
    refine r_iushr S5 dX2_mostAt_16 ?_
    refine lv_bipush (v := 7) hx hb dX2_mostAt_17 (by decide) ?_
    refine lv_iand hx hb dX2_mostAt_19 ?_
    subst h
    exact kr _ _ _ rfl rfl dX2_mostAt_20
  · rw [if_pos c1] at h
    refine lv_iload_n hx hb dX2_mostAt_10 rfl (lv_at hl 3 rfl) ?_
    refine lv_goto (tgt := 20) hx hb dX2_mostAt_11 (by decide) ?_
    subst h
    exact kr _ _ _ rfl rfl dX2_mostAt_20

-- X2_put
def fX2_put (p1 : Int32) (p2 : Int32) (p3 : Int32) (M : Mem) : Mem := (if (fX2_slotOf p1) < 0 then (M) else (if 1024 ≤ (fX2_slotOf p1) then (M) else ((mset M 5 ((fX2_slotOf p1).toNatClampNeg) (((sl p1 6) ||| (sl p3 3)) ||| p2)))))
def rmX2_put : Room := { frames := 1, cells := 0, slots := 0, locals := 20 }
set_option maxHeartbeats 4000000 in
set_option maxRecDepth 100000 in
theorem kX2_put (l : Launch) (D : va_G) (cA : Nat) (ad : Nat → Nat) (p1 : Int32) (p2 : Int32) (p3 : Int32) (M : Mem) : WvX l yX2_put wsX2_put rmX2_put D cA ad M [.ref (ad 4), .int p1, .int p2, .int p3] (fX2_put p1 p2 p3 M) := by
  obtain ⟨r, h⟩ : ∃ r, fX2_put p1 p2 p3 M = r := ⟨_, rfl⟩
  rw [h]
  unfold fX2_put at h
  refine WvX.of RX2 rfl rfl rfl (Nat.le_of_ble_eq_true rfl) ?_
  intro p e s m args below meth c Q ls A eA S5 hK hP hD hS hl kr
  have hA : ∀ (H : Heap) (q : Nat), s.heap.size ≤ H.size → AX ad H.size q → A q := fun H q hz h => by rw [eA]; exact AX.mono hz h
  obtain ⟨hx, hb, -, -, hts⟩ := id S5
  have hin : ∀ w ∈ wsX20, w ∈ wsX2_put := fun _ h => List.mem_cons_of_mem _ (List.mem_append_right _ (h))
  refine lv_iload_n hx hb dX2_put_0 rfl (lv_at hl 1 rfl) ?_
  refine cS S5 (As := [.int p1]) (kX2_slotOf l _) (va_cwS 1 hts gX2_put_X2_slotOf rfl rfl rfl (by decide +kernel) ⟨(Nat.le_of_ble_eq_true rfl), (Nat.le_of_ble_eq_true rfl)⟩) rfl hl.1 (st0 := _) (rest := []) rfl (Nat.le_of_ble_eq_true rfl) dX2_put_1 ⟨Nat.zero_le _, Nat.zero_le _⟩ ?_
  refine lv_istore (lv' := [(4, .int (fX2_slotOf p1)), (0, .ref (ad 4)), (1, .int p1), (2, .int p2), (3, .int p3)]) hx hb dX2_put_4 hl (by decide) rfl (fun ls hl => ?_)
  refine lv_iload hx hb dX2_put_6 (lv_at hl 0 rfl) ?_
  refine lv_if_lt (tgt := 38) hx hb dX2_put_8 (by decide) (fun c1 => ?_) (fun c1 => ?_)
  · rw [if_pos c1] at h
    subst h
    exact kr _ _ _ _ hP hS dX2_put_38
  · rw [if_neg c1] at h
    refine lv_iload hx hb dX2_put_11 (lv_at hl 0 rfl) ?_
    refine lv_aload_n hx hb dX2_put_13 rfl (lv_at hl 1 rfl) ?_
    refine gX2_entries S5 hin hK hP (List.mem_of_getElem? (i := 1) rfl) dX2_put_14 ?_
    refine anX5 S5 hK hP dX2_put_17 ?_
    refine lv_icmp_ge (tgt := 38) hx hb dX2_put_18 (by decide) (fun c2 => ?_) (fun c2 => ?_)
    · rw [if_pos c2] at h
      subst h
      exact kr _ _ _ _ hP hS dX2_put_38
    · rw [if_neg c2] at h
      refine lv_aload_n hx hb dX2_put_21 rfl (lv_at hl 1 rfl) ?_
      refine gX2_entries S5 hin hK hP (List.mem_of_getElem? (i := 1) rfl) dX2_put_22 ?_
      refine lv_iload hx hb dX2_put_25 (lv_at hl 0 rfl) ?_
      refine lv_iload_n hx hb dX2_put_27 rfl (lv_at hl 2 rfl) ?_
      refine lv_bipush (v := 6) hx hb dX2_put_28 (by decide) ?_
      refine r_ishl S5 dX2_put_30 ?_
      refine lv_iload_n hx hb dX2_put_31 rfl (lv_at hl 4 rfl) ?_
      refine lv_iconst (v := 3) hx hb dX2_put_32 (by decide) ?_
      refine r_ishl S5 dX2_put_33 ?_
      refine lv_ior hx hb dX2_put_34 ?_
      refine lv_iload_n hx hb dX2_put_35 rfl (lv_at hl 3 rfl) ?_
      refine lv_ior hx hb dX2_put_36 ?_
      refine asX5 S5 hK hP hD hS (vin_c c1 (Int32.not_le.mp c2) (by decide)) (k := (fX2_slotOf p1).toNatClampNeg) rfl dX2_put_37 (fun H locs hP hS => ?_)
      subst h
      exact kr _ _ _ _ hP hS dX2_put_38
