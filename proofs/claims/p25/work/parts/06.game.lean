-- X1_handOf
def fX1_handOf (p1 : Int32) (M : Mem) : Int32 := (if p1 < 0 then (0) else (if 4 ≤ p1 then (0) else (M 1 p1.toNatClampNeg)))
def rmX1_handOf : Room := { frames := 0, cells := 0, slots := 0, locals := 0 }
set_option maxHeartbeats 4000000 in
set_option maxRecDepth 100000 in
theorem kX1_handOf (l : Launch) (D : va_G) (cA : Nat) (ad : Nat → Nat) (p1 : Int32) (M : Mem) : RdX l yX1_handOf wsX1_handOf rmX1_handOf D cA ad M [.ref (ad 0), .int p1] (fX1_handOf p1 M) := by
  obtain ⟨r, h⟩ : ∃ r, fX1_handOf p1 M = r := ⟨_, rfl⟩
  rw [h]
  unfold fX1_handOf at h
  refine RdX.of RX1 rfl rfl rfl (Nat.le_of_ble_eq_true rfl) ?_
  intro p e s m args below meth c Q ls S5 hK hP hl kr
  obtain ⟨hx, hb, -, -, hts⟩ := id S5
  have hin : ∀ w ∈ wsX10, w ∈ wsX1_handOf := fun _ h => List.mem_cons_of_mem _ (List.mem_append_right _ (h))
  refine lv_iload_n hx hb dX1_handOf_0 rfl (lv_at hl 1 rfl) ?_
  refine lv_if_lt (tgt := 22) hx hb dX1_handOf_1 (by decide) (fun c1 => ?_) (fun c1 => ?_)
  · rw [if_pos c1] at h
    refine lv_iconst (v := 0) hx hb dX1_handOf_22 (by decide) ?_
    subst h
    exact kr _ _ _ rfl rfl dX1_handOf_23
  · rw [if_neg c1] at h
    refine lv_iload_n hx hb dX1_handOf_4 rfl (lv_at hl 1 rfl) ?_
    refine lv_aload_n hx hb dX1_handOf_5 rfl (lv_at hl 0 rfl) ?_
    refine gX1_hands S5 hin hK hP (List.mem_of_getElem? (i := 1) rfl) dX1_handOf_6 ?_
    refine anX1 S5 hK hP dX1_handOf_9 ?_
    refine lv_icmp_ge (tgt := 22) hx hb dX1_handOf_10 (by decide) (fun c2 => ?_) (fun c2 => ?_)
    · rw [if_pos c2] at h
      refine lv_iconst (v := 0) hx hb dX1_handOf_22 (by decide) ?_
      subst h
      exact kr _ _ _ rfl rfl dX1_handOf_23
    · rw [if_neg c2] at h
      refine lv_aload_n hx hb dX1_handOf_13 rfl (lv_at hl 0 rfl) ?_
      refine gX1_hands S5 hin hK hP (List.mem_of_getElem? (i := 1) rfl) dX1_handOf_14 ?_
      refine lv_iload_n hx hb dX1_handOf_17 rfl (lv_at hl 1 rfl) ?_
      refine alX1 S5 hK hP (v := M 1 p1.toNatClampNeg) (vin_c c1 (Int32.not_le.mp c2) (by decide)) rfl dX1_handOf_18 ?_
      refine lv_goto (tgt := 23) hx hb dX1_handOf_19 (by decide) ?_
      subst h
      exact kr _ _ _ rfl rfl dX1_handOf_23

-- X1_isOpen
def fX1_isOpen (M : Mem) : Option (Int32) := (if vb (M 0 5) = true then some (M 0 5) else none)
def rmX1_isOpen : Room := { frames := 0, cells := 0, slots := 0, locals := 0 }
set_option maxHeartbeats 4000000 in
set_option maxRecDepth 100000 in
theorem kX1_isOpen (l : Launch) (D : va_G) (cA : Nat) (ad : Nat → Nat) (M : Mem) (r : Int32) (h : fX1_isOpen M = some r) : RdX l yX1_isOpen wsX1_isOpen rmX1_isOpen D cA ad M [.ref (ad 0)] r := by
  unfold fX1_isOpen at h
  refine RdX.of RX1 rfl rfl rfl (Nat.le_of_ble_eq_true rfl) ?_
  intro p e s m args below meth c Q ls S5 hK hP hl kr
  obtain ⟨hx, hb, -, -, hts⟩ := id S5
  have hin : ∀ w ∈ wsX10, w ∈ wsX1_isOpen := fun _ h => List.mem_cons_of_mem _ (List.mem_append_right _ (h))
  refine lv_aload_n hx hb dX1_isOpen_0 rfl (lv_at hl 0 rfl) ?_
  refine gX1_open S5 hin hK hP (List.mem_of_getElem? (i := 1) rfl) (v := M 0 5) rfl dX1_isOpen_1 ?_
  obtain ⟨g1, h⟩ := gd_some h
  obtain rfl := Option.some.inj h
  exact kr _ _ _ rfl (nb (vb_or g1)) dX1_isOpen_4

-- X1_laidCount
def fX1_laidCount (M : Mem) : Int32 := (M 0 7)
def rmX1_laidCount : Room := { frames := 0, cells := 0, slots := 0, locals := 0 }
set_option maxHeartbeats 4000000 in
set_option maxRecDepth 100000 in
theorem kX1_laidCount (l : Launch) (D : va_G) (cA : Nat) (ad : Nat → Nat) (M : Mem) : RdX l yX1_laidCount wsX1_laidCount rmX1_laidCount D cA ad M [.ref (ad 0)] (fX1_laidCount M) := by
  obtain ⟨r, h⟩ : ∃ r, fX1_laidCount M = r := ⟨_, rfl⟩
  rw [h]
  unfold fX1_laidCount at h
  refine RdX.of RX1 rfl rfl rfl (Nat.le_of_ble_eq_true rfl) ?_
  intro p e s m args below meth c Q ls S5 hK hP hl kr
  obtain ⟨hx, hb, -, -, hts⟩ := id S5
  have hin : ∀ w ∈ wsX10, w ∈ wsX1_laidCount := fun _ h => List.mem_cons_of_mem _ (List.mem_append_right _ (h))
  refine lv_aload_n hx hb dX1_laidCount_0 rfl (lv_at hl 0 rfl) ?_
  refine gX1_laidCount S5 hin hK hP (List.mem_of_getElem? (i := 1) rfl) (v := M 0 7) rfl dX1_laidCount_1 ?_
  subst h
  exact kr _ _ _ rfl rfl dX1_laidCount_4

-- X1_cardsLeft
def fX1_cardsLeft (M : Mem) : Int32 := (((M 0 6) * 4) - (M 0 7))
def rmX1_cardsLeft : Room := { frames := 0, cells := 0, slots := 0, locals := 0 }
set_option maxHeartbeats 4000000 in
set_option maxRecDepth 100000 in
theorem kX1_cardsLeft (l : Launch) (D : va_G) (cA : Nat) (ad : Nat → Nat) (M : Mem) : RdX l yX1_cardsLeft wsX1_cardsLeft rmX1_cardsLeft D cA ad M [.ref (ad 0)] (fX1_cardsLeft M) := by
  obtain ⟨r, h⟩ : ∃ r, fX1_cardsLeft M = r := ⟨_, rfl⟩
  rw [h]
  unfold fX1_cardsLeft at h
  refine RdX.of RX1 rfl rfl rfl (Nat.le_of_ble_eq_true rfl) ?_
  intro p e s m args below meth c Q ls S5 hK hP hl kr
  obtain ⟨hx, hb, -, -, hts⟩ := id S5
  have hin : ∀ w ∈ wsX10, w ∈ wsX1_cardsLeft := fun _ h => List.mem_cons_of_mem _ (List.mem_append_right _ (h))
  refine lv_aload_n hx hb dX1_cardsLeft_0 rfl (lv_at hl 0 rfl) ?_
  refine gX1_tricks S5 hin hK hP (List.mem_of_getElem? (i := 1) rfl) (v := M 0 6) rfl dX1_cardsLeft_1 ?_
  refine lv_iconst (v := 4) hx hb dX1_cardsLeft_4 (by decide) ?_
  refine lv_imul hx hb dX1_cardsLeft_5 ?_
  refine lv_aload_n hx hb dX1_cardsLeft_6 rfl (lv_at hl 0 rfl) ?_
  refine gX1_laidCount S5 hin hK hP (List.mem_of_getElem? (i := 2) rfl) (v := M 0 7) rfl dX1_cardsLeft_7 ?_
  refine lv_isub hx hb dX1_cardsLeft_10 ?_
  subst h
  exact kr _ _ _ rfl rfl dX1_cardsLeft_11

-- X1_tricksOver
def fX1_tricksOver (M : Mem) : Int32 := ((M 0 7) / 4)
def rmX1_tricksOver : Room := { frames := 0, cells := 0, slots := 0, locals := 0 }
set_option maxHeartbeats 4000000 in
set_option maxRecDepth 100000 in
theorem kX1_tricksOver (l : Launch) (D : va_G) (cA : Nat) (ad : Nat → Nat) (M : Mem) : RdX l yX1_tricksOver wsX1_tricksOver rmX1_tricksOver D cA ad M [.ref (ad 0)] (fX1_tricksOver M) := by
  obtain ⟨r, h⟩ : ∃ r, fX1_tricksOver M = r := ⟨_, rfl⟩
  rw [h]
  unfold fX1_tricksOver at h
  refine RdX.of RX1 rfl rfl rfl (Nat.le_of_ble_eq_true rfl) ?_
  intro p e s m args below meth c Q ls S5 hK hP hl kr
  obtain ⟨hx, hb, -, -, hts⟩ := id S5
  have hin : ∀ w ∈ wsX10, w ∈ wsX1_tricksOver := fun _ h => List.mem_cons_of_mem _ (List.mem_append_right _ (h))
  refine lv_aload_n hx hb dX1_tricksOver_0 rfl (lv_at hl 0 rfl) ?_
  refine gX1_laidCount S5 hin hK hP (List.mem_of_getElem? (i := 1) rfl) (v := M 0 7) rfl dX1_tricksOver_1 ?_
  refine lv_iconst (v := 4) hx hb dX1_tricksOver_4 (by decide) ?_
  refine r_idiv S5 dX1_tricksOver_5 (by decide) ?_
  subst h
  exact kr _ _ _ rfl rfl dX1_tricksOver_6

-- X1_tricksLeft
def fX1_tricksLeft (M : Mem) : Int32 := ((M 0 6) - (fX1_tricksOver M))
def rmX1_tricksLeft : Room := { frames := 1, cells := 0, slots := 0, locals := 20 }
set_option maxHeartbeats 4000000 in
set_option maxRecDepth 100000 in
theorem kX1_tricksLeft (l : Launch) (D : va_G) (cA : Nat) (ad : Nat → Nat) (M : Mem) : RdX l yX1_tricksLeft wsX1_tricksLeft rmX1_tricksLeft D cA ad M [.ref (ad 0)] (fX1_tricksLeft M) := by
  obtain ⟨r, h⟩ : ∃ r, fX1_tricksLeft M = r := ⟨_, rfl⟩
  rw [h]
  unfold fX1_tricksLeft at h
  refine RdX.of RX1 rfl rfl rfl (Nat.le_of_ble_eq_true rfl) ?_
  intro p e s m args below meth c Q ls S5 hK hP hl kr
  obtain ⟨hx, hb, -, -, hts⟩ := id S5
  have hin : ∀ w ∈ wsX10, w ∈ wsX1_tricksLeft := fun _ h => List.mem_cons_of_mem _ (List.mem_append_right _ (h))
  refine lv_aload_n hx hb dX1_tricksLeft_0 rfl (lv_at hl 0 rfl) ?_
  refine gX1_tricks S5 hin hK hP (List.mem_of_getElem? (i := 1) rfl) (v := M 0 6) rfl dX1_tricksLeft_1 ?_
  refine lv_aload_n hx hb dX1_tricksLeft_4 rfl (lv_at hl 0 rfl) ?_
  refine cVX S5 hK hP 0 rfl rfl (As := []) (kX1_tricksOver l D cA ad _) (cwV 0 hts gX1_tricksLeft_X1_tricksOver rfl rfl rfl (by decide +kernel) ⟨(Nat.le_of_ble_eq_true rfl), (Nat.le_of_ble_eq_true rfl)⟩) rfl hl.1 (st0 := _) (rest := [.int (M 0 6)]) rfl (Nat.le_of_ble_eq_true rfl) dX1_tricksLeft_5 ⟨Nat.zero_le _, Nat.zero_le _⟩ ?_
  refine lv_isub hx hb dX1_tricksLeft_8 ?_
  subst h
  exact kr _ _ _ rfl rfl dX1_tricksLeft_9

-- X1_trickSize
def fX1_trickSize (M : Mem) : Int32 := (im (M 0 7) 4)
def rmX1_trickSize : Room := { frames := 0, cells := 0, slots := 0, locals := 0 }
set_option maxHeartbeats 4000000 in
set_option maxRecDepth 100000 in
theorem kX1_trickSize (l : Launch) (D : va_G) (cA : Nat) (ad : Nat → Nat) (M : Mem) : RdX l yX1_trickSize wsX1_trickSize rmX1_trickSize D cA ad M [.ref (ad 0)] (fX1_trickSize M) := by
  obtain ⟨r, h⟩ : ∃ r, fX1_trickSize M = r := ⟨_, rfl⟩
  rw [h]
  unfold fX1_trickSize at h
  refine RdX.of RX1 rfl rfl rfl (Nat.le_of_ble_eq_true rfl) ?_
  intro p e s m args below meth c Q ls S5 hK hP hl kr
  obtain ⟨hx, hb, -, -, hts⟩ := id S5
  have hin : ∀ w ∈ wsX10, w ∈ wsX1_trickSize := fun _ h => List.mem_cons_of_mem _ (List.mem_append_right _ (h))
  refine lv_aload_n hx hb dX1_trickSize_0 rfl (lv_at hl 0 rfl) ?_
  refine gX1_laidCount S5 hin hK hP (List.mem_of_getElem? (i := 1) rfl) (v := M 0 7) rfl dX1_trickSize_1 ?_
  refine lv_iconst (v := 4) hx hb dX1_trickSize_4 (by decide) ?_
  refine r_irem S5 dX1_trickSize_5 (by decide) ?_
  subst h
  exact kr _ _ _ rfl rfl dX1_trickSize_6

-- X1_leaderOf
def fX1_leaderOf (p1 : Int32) (M : Mem) : Int32 := (if p1 < 0 then (0) else (if 5 ≤ p1 then (0) else (M 3 p1.toNatClampNeg)))
def rmX1_leaderOf : Room := { frames := 0, cells := 0, slots := 0, locals := 0 }
set_option maxHeartbeats 4000000 in
set_option maxRecDepth 100000 in
theorem kX1_leaderOf (l : Launch) (D : va_G) (cA : Nat) (ad : Nat → Nat) (p1 : Int32) (M : Mem) : RdX l yX1_leaderOf wsX1_leaderOf rmX1_leaderOf D cA ad M [.ref (ad 0), .int p1] (fX1_leaderOf p1 M) := by
  obtain ⟨r, h⟩ : ∃ r, fX1_leaderOf p1 M = r := ⟨_, rfl⟩
  rw [h]
  unfold fX1_leaderOf at h
  refine RdX.of RX1 rfl rfl rfl (Nat.le_of_ble_eq_true rfl) ?_
  intro p e s m args below meth c Q ls S5 hK hP hl kr
  obtain ⟨hx, hb, -, -, hts⟩ := id S5
  have hin : ∀ w ∈ wsX10, w ∈ wsX1_leaderOf := fun _ h => List.mem_cons_of_mem _ (List.mem_append_right _ (h))
  refine lv_iload_n hx hb dX1_leaderOf_0 rfl (lv_at hl 1 rfl) ?_
  refine lv_if_lt (tgt := 22) hx hb dX1_leaderOf_1 (by decide) (fun c1 => ?_) (fun c1 => ?_)
  · rw [if_pos c1] at h
    refine lv_iconst (v := 0) hx hb dX1_leaderOf_22 (by decide) ?_
    subst h
    exact kr _ _ _ rfl rfl dX1_leaderOf_23
  · rw [if_neg c1] at h
    refine lv_iload_n hx hb dX1_leaderOf_4 rfl (lv_at hl 1 rfl) ?_
    refine lv_aload_n hx hb dX1_leaderOf_5 rfl (lv_at hl 0 rfl) ?_
    refine gX1_leaders S5 hin hK hP (List.mem_of_getElem? (i := 1) rfl) dX1_leaderOf_6 ?_
    refine anX3 S5 hK hP dX1_leaderOf_9 ?_
    refine lv_icmp_ge (tgt := 22) hx hb dX1_leaderOf_10 (by decide) (fun c2 => ?_) (fun c2 => ?_)
    · rw [if_pos c2] at h
      refine lv_iconst (v := 0) hx hb dX1_leaderOf_22 (by decide) ?_
      subst h
      exact kr _ _ _ rfl rfl dX1_leaderOf_23
    · rw [if_neg c2] at h
      refine lv_aload_n hx hb dX1_leaderOf_13 rfl (lv_at hl 0 rfl) ?_
      refine gX1_leaders S5 hin hK hP (List.mem_of_getElem? (i := 1) rfl) dX1_leaderOf_14 ?_
      refine lv_iload_n hx hb dX1_leaderOf_17 rfl (lv_at hl 1 rfl) ?_
      refine alX3 S5 hK hP (v := M 3 p1.toNatClampNeg) (vin_c c1 (Int32.not_le.mp c2) (by decide)) rfl dX1_leaderOf_18 ?_
      refine lv_goto (tgt := 23) hx hb dX1_leaderOf_19 (by decide) ?_
      subst h
      exact kr _ _ _ rfl rfl dX1_leaderOf_23

-- X1_mover
def fX1_mover (M : Mem) : Int32 := (if (M 0 5) = 0 then ((-1)) else (if 0 < (fX1_cardsLeft M) then (im ((fX1_leaderOf (fX1_tricksOver M) M) + (fX1_trickSize M)) 4) else ((-1))))
def rmX1_mover : Room := { frames := 1, cells := 0, slots := 0, locals := 21 }
set_option maxHeartbeats 4000000 in
set_option maxRecDepth 100000 in
theorem kX1_mover (l : Launch) (D : va_G) (cA : Nat) (ad : Nat → Nat) (M : Mem) : RdX l yX1_mover wsX1_mover rmX1_mover D cA ad M [.ref (ad 0)] (fX1_mover M) := by
  obtain ⟨r, h⟩ : ∃ r, fX1_mover M = r := ⟨_, rfl⟩
  rw [h]
  unfold fX1_mover at h
  refine RdX.of RX1 rfl rfl rfl (Nat.le_of_ble_eq_true rfl) ?_
  intro p e s m args below meth c Q ls S5 hK hP hl kr
  obtain ⟨hx, hb, -, -, hts⟩ := id S5
  have hin : ∀ w ∈ wsX10, w ∈ wsX1_mover := fun _ h => List.mem_cons_of_mem _ (List.mem_append_right _ (h))
  refine lv_aload_n hx hb dX1_mover_0 rfl (lv_at hl 0 rfl) ?_
  refine gX1_open S5 hin hK hP (List.mem_of_getElem? (i := 1) rfl) (v := M 0 5) rfl dX1_mover_1 ?_
  refine lv_if_eq (tgt := 14) hx hb dX1_mover_4 (by decide) (fun c1 => ?_) (fun c1 => ?_)
  · rw [if_pos c1] at h
    refine lv_iconst (v := (-1)) hx hb dX1_mover_14 (by decide) ?_
    subst h
    exact kr _ _ _ rfl rfl dX1_mover_15
  · rw [if_neg c1] at h
    refine lv_aload_n hx hb dX1_mover_7 rfl (lv_at hl 0 rfl) ?_
    refine cVX S5 hK hP 0 rfl rfl (As := []) (kX1_cardsLeft l D cA ad _) (cwV 0 hts gX1_mover_X1_cardsLeft rfl rfl rfl (by decide +kernel) ⟨(Nat.le_of_ble_eq_true rfl), (Nat.le_of_ble_eq_true rfl)⟩) rfl hl.1 (st0 := _) (rest := []) rfl (Nat.le_of_ble_eq_true rfl) dX1_mover_8 ⟨Nat.zero_le _, Nat.zero_le _⟩ ?_
    refine lv_if_gt (tgt := 16) hx hb dX1_mover_11 (by decide) (fun c2 => ?_) (fun c2 => ?_)
    · rw [if_pos c2] at h
      refine lv_aload_n hx hb dX1_mover_16 rfl (lv_at hl 0 rfl) ?_
      refine lv_aload_n hx hb dX1_mover_17 rfl (lv_at hl 0 rfl) ?_
      refine cVX S5 hK hP 0 rfl rfl (As := []) (kX1_tricksOver l D cA ad _) (cwV 0 hts gX1_mover_X1_tricksOver rfl rfl rfl (by decide +kernel) ⟨(Nat.le_of_ble_eq_true rfl), (Nat.le_of_ble_eq_true rfl)⟩) rfl hl.1 (st0 := _) (rest := [.ref (ad 0)]) rfl (Nat.le_of_ble_eq_true rfl) dX1_mover_18 ⟨Nat.zero_le _, Nat.zero_le _⟩ ?_
      refine cVX S5 hK hP 0 rfl rfl (As := [.int (fX1_tricksOver M)]) (kX1_leaderOf l D cA ad _ _) (cwV 1 hts gX1_mover_X1_leaderOf rfl rfl rfl (by decide +kernel) ⟨(Nat.le_of_ble_eq_true rfl), (Nat.le_of_ble_eq_true rfl)⟩) rfl hl.1 (st0 := _) (rest := []) rfl (Nat.le_of_ble_eq_true rfl) dX1_mover_21 ⟨Nat.zero_le _, Nat.zero_le _⟩ ?_
      refine lv_aload_n hx hb dX1_mover_24 rfl (lv_at hl 0 rfl) ?_
      refine cVX S5 hK hP 0 rfl rfl (As := []) (kX1_trickSize l D cA ad _) (cwV 0 hts gX1_mover_X1_trickSize rfl rfl rfl (by decide +kernel) ⟨(Nat.le_of_ble_eq_true rfl), (Nat.le_of_ble_eq_true rfl)⟩) rfl hl.1 (st0 := _) (rest := [.int (fX1_leaderOf (fX1_tricksOver M) M)]) rfl (Nat.le_of_ble_eq_true rfl) dX1_mover_25 ⟨Nat.zero_le _, Nat.zero_le _⟩ ?_
      refine lv_iadd hx hb dX1_mover_28 ?_
      refine lv_iconst (v := 4) hx hb dX1_mover_29 (by decide) ?_
      refine r_irem S5 dX1_mover_30 (by decide) ?_
      subst h
      exact kr _ _ _ rfl rfl dX1_mover_31
    · rw [if_neg c2] at h
      refine lv_iconst (v := (-1)) hx hb dX1_mover_14 (by decide) ?_
      subst h
      exact kr _ _ _ rfl rfl dX1_mover_15

-- X1_laidAt
def fX1_laidAt (p1 : Int32) (M : Mem) : Int32 := (if p1 < 0 then (0) else (if 16 ≤ p1 then (0) else (M 2 p1.toNatClampNeg)))
def rmX1_laidAt : Room := { frames := 0, cells := 0, slots := 0, locals := 0 }
set_option maxHeartbeats 4000000 in
set_option maxRecDepth 100000 in
theorem kX1_laidAt (l : Launch) (D : va_G) (cA : Nat) (ad : Nat → Nat) (p1 : Int32) (M : Mem) : RdX l yX1_laidAt wsX1_laidAt rmX1_laidAt D cA ad M [.ref (ad 0), .int p1] (fX1_laidAt p1 M) := by
  obtain ⟨r, h⟩ : ∃ r, fX1_laidAt p1 M = r := ⟨_, rfl⟩
  rw [h]
  unfold fX1_laidAt at h
  refine RdX.of RX1 rfl rfl rfl (Nat.le_of_ble_eq_true rfl) ?_
  intro p e s m args below meth c Q ls S5 hK hP hl kr
  obtain ⟨hx, hb, -, -, hts⟩ := id S5
  have hin : ∀ w ∈ wsX10, w ∈ wsX1_laidAt := fun _ h => List.mem_cons_of_mem _ (List.mem_append_right _ (h))
  refine lv_iload_n hx hb dX1_laidAt_0 rfl (lv_at hl 1 rfl) ?_
  refine lv_if_lt (tgt := 22) hx hb dX1_laidAt_1 (by decide) (fun c1 => ?_) (fun c1 => ?_)
  · rw [if_pos c1] at h
    refine lv_iconst (v := 0) hx hb dX1_laidAt_22 (by decide) ?_
    subst h
    exact kr _ _ _ rfl rfl dX1_laidAt_23
  · rw [if_neg c1] at h
    refine lv_iload_n hx hb dX1_laidAt_4 rfl (lv_at hl 1 rfl) ?_
    refine lv_aload_n hx hb dX1_laidAt_5 rfl (lv_at hl 0 rfl) ?_
    refine gX1_laid S5 hin hK hP (List.mem_of_getElem? (i := 1) rfl) dX1_laidAt_6 ?_
    refine anX2 S5 hK hP dX1_laidAt_9 ?_
    refine lv_icmp_ge (tgt := 22) hx hb dX1_laidAt_10 (by decide) (fun c2 => ?_) (fun c2 => ?_)
    · rw [if_pos c2] at h
      refine lv_iconst (v := 0) hx hb dX1_laidAt_22 (by decide) ?_
      subst h
      exact kr _ _ _ rfl rfl dX1_laidAt_23
    · rw [if_neg c2] at h
      refine lv_aload_n hx hb dX1_laidAt_13 rfl (lv_at hl 0 rfl) ?_
      refine gX1_laid S5 hin hK hP (List.mem_of_getElem? (i := 1) rfl) dX1_laidAt_14 ?_
      refine lv_iload_n hx hb dX1_laidAt_17 rfl (lv_at hl 1 rfl) ?_
      refine alX2 S5 hK hP (v := M 2 p1.toNatClampNeg) (vin_c c1 (Int32.not_le.mp c2) (by decide)) rfl dX1_laidAt_18 ?_
      refine lv_goto (tgt := 23) hx hb dX1_laidAt_19 (by decide) ?_
      subst h
      exact kr _ _ _ rfl rfl dX1_laidAt_23

-- X1_addTo
def fX1_addTo (p1 : Int32) (p2 : Int32) (M : Mem) : Mem := (if p1 < 0 then (M) else (if 4 ≤ p1 then (M) else ((mset M 1 p1.toNatClampNeg ((M 1 p1.toNatClampNeg) ||| (sl 1 p2))))))
def rmX1_addTo : Room := { frames := 0, cells := 0, slots := 0, locals := 0 }
set_option maxHeartbeats 4000000 in
set_option maxRecDepth 100000 in
theorem kX1_addTo (l : Launch) (D : va_G) (cA : Nat) (ad : Nat → Nat) (p1 : Int32) (p2 : Int32) (M : Mem) : WvX l yX1_addTo wsX1_addTo rmX1_addTo D cA ad M [.ref (ad 0), .int p1, .int p2] (fX1_addTo p1 p2 M) := by
  obtain ⟨r, h⟩ : ∃ r, fX1_addTo p1 p2 M = r := ⟨_, rfl⟩
  rw [h]
  unfold fX1_addTo at h
  refine WvX.of RX1 rfl rfl rfl (Nat.le_of_ble_eq_true rfl) ?_
  intro p e s m args below meth c Q ls A eA S5 hK hP hD hS hl kr
  have hA : ∀ (H : Heap) (q : Nat), s.heap.size ≤ H.size → AX ad H.size q → A q := fun H q hz h => by rw [eA]; exact AX.mono hz h
  obtain ⟨hx, hb, -, -, hts⟩ := id S5
  have hin : ∀ w ∈ wsX10, w ∈ wsX1_addTo := fun _ h => List.mem_cons_of_mem _ (List.mem_append_right _ (h))
  refine lv_iload_n hx hb dX1_addTo_0 rfl (lv_at hl 1 rfl) ?_
  refine lv_if_lt (tgt := 25) hx hb dX1_addTo_1 (by decide) (fun c1 => ?_) (fun c1 => ?_)
  · rw [if_pos c1] at h
    subst h
    exact kr _ _ _ _ hP hS dX1_addTo_25
  · rw [if_neg c1] at h
    refine lv_iload_n hx hb dX1_addTo_4 rfl (lv_at hl 1 rfl) ?_
    refine lv_aload_n hx hb dX1_addTo_5 rfl (lv_at hl 0 rfl) ?_
    refine gX1_hands S5 hin hK hP (List.mem_of_getElem? (i := 1) rfl) dX1_addTo_6 ?_
    refine anX1 S5 hK hP dX1_addTo_9 ?_
    refine lv_icmp_ge (tgt := 25) hx hb dX1_addTo_10 (by decide) (fun c2 => ?_) (fun c2 => ?_)
    · rw [if_pos c2] at h
      subst h
      exact kr _ _ _ _ hP hS dX1_addTo_25
    · rw [if_neg c2] at h
      refine lv_aload_n hx hb dX1_addTo_13 rfl (lv_at hl 0 rfl) ?_
      refine gX1_hands S5 hin hK hP (List.mem_of_getElem? (i := 1) rfl) dX1_addTo_14 ?_
      refine lv_iload_n hx hb dX1_addTo_17 rfl (lv_at hl 1 rfl) ?_
      refine lv_dup2_11 hx hb dX1_addTo_18 rfl rfl ?_
      refine alX1 S5 hK hP (v := M 1 p1.toNatClampNeg) (vin_c c1 (Int32.not_le.mp c2) (by decide)) rfl dX1_addTo_19 ?_
      refine lv_iconst (v := 1) hx hb dX1_addTo_20 (by decide) ?_
      refine lv_iload_n hx hb dX1_addTo_21 rfl (lv_at hl 2 rfl) ?_
      refine r_ishl S5 dX1_addTo_22 ?_
      refine lv_ior hx hb dX1_addTo_23 ?_
      refine asX1 S5 hK hP hD hS (vin_c c1 (Int32.not_le.mp c2) (by decide)) (k := p1.toNatClampNeg) rfl dX1_addTo_24 (fun H locs hP hS => ?_)
      subst h
      exact kr _ _ _ _ hP hS dX1_addTo_25

-- X1_dropFrom
def fX1_dropFrom (p1 : Int32) (p2 : Int32) (M : Mem) : Mem := (if p1 < 0 then (M) else (if 4 ≤ p1 then (M) else ((mset M 1 p1.toNatClampNeg ((M 1 p1.toNatClampNeg) &&& ((sl 1 p2) ^^^ ((-1))))))))
def rmX1_dropFrom : Room := { frames := 0, cells := 0, slots := 0, locals := 0 }
set_option maxHeartbeats 4000000 in
set_option maxRecDepth 100000 in
theorem kX1_dropFrom (l : Launch) (D : va_G) (cA : Nat) (ad : Nat → Nat) (p1 : Int32) (p2 : Int32) (M : Mem) : WvX l yX1_dropFrom wsX1_dropFrom rmX1_dropFrom D cA ad M [.ref (ad 0), .int p1, .int p2] (fX1_dropFrom p1 p2 M) := by
  obtain ⟨r, h⟩ : ∃ r, fX1_dropFrom p1 p2 M = r := ⟨_, rfl⟩
  rw [h]
  unfold fX1_dropFrom at h
  refine WvX.of RX1 rfl rfl rfl (Nat.le_of_ble_eq_true rfl) ?_
  intro p e s m args below meth c Q ls A eA S5 hK hP hD hS hl kr
  have hA : ∀ (H : Heap) (q : Nat), s.heap.size ≤ H.size → AX ad H.size q → A q := fun H q hz h => by rw [eA]; exact AX.mono hz h
  obtain ⟨hx, hb, -, -, hts⟩ := id S5
  have hin : ∀ w ∈ wsX10, w ∈ wsX1_dropFrom := fun _ h => List.mem_cons_of_mem _ (List.mem_append_right _ (h))
  refine lv_iload_n hx hb dX1_dropFrom_0 rfl (lv_at hl 1 rfl) ?_
  refine lv_if_lt (tgt := 27) hx hb dX1_dropFrom_1 (by decide) (fun c1 => ?_) (fun c1 => ?_)
  · rw [if_pos c1] at h
    subst h
    exact kr _ _ _ _ hP hS dX1_dropFrom_27
  · rw [if_neg c1] at h
    refine lv_iload_n hx hb dX1_dropFrom_4 rfl (lv_at hl 1 rfl) ?_
    refine lv_aload_n hx hb dX1_dropFrom_5 rfl (lv_at hl 0 rfl) ?_
    refine gX1_hands S5 hin hK hP (List.mem_of_getElem? (i := 1) rfl) dX1_dropFrom_6 ?_
    refine anX1 S5 hK hP dX1_dropFrom_9 ?_
    refine lv_icmp_ge (tgt := 27) hx hb dX1_dropFrom_10 (by decide) (fun c2 => ?_) (fun c2 => ?_)
    · rw [if_pos c2] at h
      subst h
      exact kr _ _ _ _ hP hS dX1_dropFrom_27
    · rw [if_neg c2] at h
      refine lv_aload_n hx hb dX1_dropFrom_13 rfl (lv_at hl 0 rfl) ?_
      refine gX1_hands S5 hin hK hP (List.mem_of_getElem? (i := 1) rfl) dX1_dropFrom_14 ?_
      refine lv_iload_n hx hb dX1_dropFrom_17 rfl (lv_at hl 1 rfl) ?_
      refine lv_dup2_11 hx hb dX1_dropFrom_18 rfl rfl ?_
      refine alX1 S5 hK hP (v := M 1 p1.toNatClampNeg) (vin_c c1 (Int32.not_le.mp c2) (by decide)) rfl dX1_dropFrom_19 ?_
      refine lv_iconst (v := 1) hx hb dX1_dropFrom_20 (by decide) ?_
      refine lv_iload_n hx hb dX1_dropFrom_21 rfl (lv_at hl 2 rfl) ?_
      refine r_ishl S5 dX1_dropFrom_22 ?_
      refine lv_iconst (v := (-1)) hx hb dX1_dropFrom_23 (by decide) ?_
      refine lv_ixor hx hb dX1_dropFrom_24 ?_
      refine lv_iand hx hb dX1_dropFrom_25 ?_
      refine asX1 S5 hK hP hD hS (vin_c c1 (Int32.not_le.mp c2) (by decide)) (k := p1.toNatClampNeg) rfl dX1_dropFrom_26 (fun H locs hP hS => ?_)
      subst h
      exact kr _ _ _ _ hP hS dX1_dropFrom_27

-- X1_trickCard
def fX1_trickCard (p1 : Int32) (M : Mem) : Int32 := (fX1_laidAt (((M 0 7) - (fX1_trickSize M)) + p1) M)
def rmX1_trickCard : Room := { frames := 1, cells := 0, slots := 0, locals := 21 }
set_option maxHeartbeats 4000000 in
set_option maxRecDepth 100000 in
theorem kX1_trickCard (l : Launch) (D : va_G) (cA : Nat) (ad : Nat → Nat) (p1 : Int32) (M : Mem) : RdX l yX1_trickCard wsX1_trickCard rmX1_trickCard D cA ad M [.ref (ad 0), .int p1] (fX1_trickCard p1 M) := by
  obtain ⟨r, h⟩ : ∃ r, fX1_trickCard p1 M = r := ⟨_, rfl⟩
  rw [h]
  unfold fX1_trickCard at h
  refine RdX.of RX1 rfl rfl rfl (Nat.le_of_ble_eq_true rfl) ?_
  intro p e s m args below meth c Q ls S5 hK hP hl kr
  obtain ⟨hx, hb, -, -, hts⟩ := id S5
  have hin : ∀ w ∈ wsX10, w ∈ wsX1_trickCard := fun _ h => List.mem_cons_of_mem _ (List.mem_append_right _ (h))
  refine lv_aload_n hx hb dX1_trickCard_0 rfl (lv_at hl 0 rfl) ?_
  refine lv_aload_n hx hb dX1_trickCard_1 rfl (lv_at hl 0 rfl) ?_
  refine gX1_laidCount S5 hin hK hP (List.mem_of_getElem? (i := 1) rfl) (v := M 0 7) rfl dX1_trickCard_2 ?_
  refine lv_aload_n hx hb dX1_trickCard_5 rfl (lv_at hl 0 rfl) ?_
  refine cVX S5 hK hP 0 rfl rfl (As := []) (kX1_trickSize l D cA ad _) (cwV 0 hts gX1_trickCard_X1_trickSize rfl rfl rfl (by decide +kernel) ⟨(Nat.le_of_ble_eq_true rfl), (Nat.le_of_ble_eq_true rfl)⟩) rfl hl.1 (st0 := _) (rest := [.int (M 0 7), .ref (ad 0)]) rfl (Nat.le_of_ble_eq_true rfl) dX1_trickCard_6 ⟨Nat.zero_le _, Nat.zero_le _⟩ ?_
  refine lv_isub hx hb dX1_trickCard_9 ?_
  refine lv_iload_n hx hb dX1_trickCard_10 rfl (lv_at hl 1 rfl) ?_
  refine lv_iadd hx hb dX1_trickCard_11 ?_
  refine cVX S5 hK hP 0 rfl rfl (As := [.int (((M 0 7) - (fX1_trickSize M)) + p1)]) (kX1_laidAt l D cA ad _ _) (cwV 1 hts gX1_trickCard_X1_laidAt rfl rfl rfl (by decide +kernel) ⟨(Nat.le_of_ble_eq_true rfl), (Nat.le_of_ble_eq_true rfl)⟩) rfl hl.1 (st0 := _) (rest := []) rfl (Nat.le_of_ble_eq_true rfl) dX1_trickCard_12 ⟨Nat.zero_le _, Nat.zero_le _⟩ ?_
  subst h
  exact kr _ _ _ rfl rfl dX1_trickCard_15

-- X1_playable
def fX1_playable (M : Mem) : Int32 := (if (fX1_trickSize M) = 0 then (fX1_handOf (fX1_mover M) M) else (if ((fX1_handOf (fX1_mover M) M) &&& (fX0_suitSet (fX0_suitOf (fX1_trickCard 0 M)))) = 0 then (fX1_handOf (fX1_mover M) M) else ((fX1_handOf (fX1_mover M) M) &&& (fX0_suitSet (fX0_suitOf (fX1_trickCard 0 M))))))
def rmX1_playable : Room := { frames := 2, cells := 0, slots := 0, locals := 42 }
set_option maxHeartbeats 4000000 in
set_option maxRecDepth 100000 in
theorem kX1_playable (l : Launch) (D : va_G) (cA : Nat) (ad : Nat → Nat) (M : Mem) : RdX l yX1_playable wsX1_playable rmX1_playable D cA ad M [.ref (ad 0)] (fX1_playable M) := by
  obtain ⟨r, h⟩ : ∃ r, fX1_playable M = r := ⟨_, rfl⟩
  rw [h]
  unfold fX1_playable at h
  refine RdX.of RX1 rfl rfl rfl (Nat.le_of_ble_eq_true rfl) ?_
  intro p e s m args below meth c Q ls S5 hK hP hl kr
  obtain ⟨hx, hb, -, -, hts⟩ := id S5
  have hin : ∀ w ∈ wsX10, w ∈ wsX1_playable := fun _ h => List.mem_cons_of_mem _ (List.mem_append_right _ (h))
  refine lv_aload_n hx hb dX1_playable_0 rfl (lv_at hl 0 rfl) ?_
  refine lv_aload_n hx hb dX1_playable_1 rfl (lv_at hl 0 rfl) ?_
  refine cVX S5 hK hP 0 rfl rfl (As := []) (kX1_mover l D cA ad _) (cwV 0 hts gX1_playable_X1_mover rfl rfl rfl (by decide +kernel) ⟨(Nat.le_of_ble_eq_true rfl), (Nat.le_of_ble_eq_true rfl)⟩) rfl hl.1 (st0 := _) (rest := [.ref (ad 0)]) rfl (Nat.le_of_ble_eq_true rfl) dX1_playable_2 ⟨Nat.zero_le _, Nat.zero_le _⟩ ?_
  refine cVX S5 hK hP 0 rfl rfl (As := [.int (fX1_mover M)]) (kX1_handOf l D cA ad _ _) (cwV 1 hts gX1_playable_X1_handOf rfl rfl rfl (by decide +kernel) ⟨(Nat.le_of_ble_eq_true rfl), (Nat.le_of_ble_eq_true rfl)⟩) rfl hl.1 (st0 := _) (rest := []) rfl (Nat.le_of_ble_eq_true rfl) dX1_playable_5 ⟨Nat.zero_le _, Nat.zero_le _⟩ ?_
  refine lv_istore_n (lv' := [(1, .int (fX1_handOf (fX1_mover M) M)), (0, .ref (ad 0))]) hx hb dX1_playable_8 rfl hl (by decide) rfl (fun ls hl => ?_)
  refine lv_aload_n hx hb dX1_playable_9 rfl (lv_at hl 1 rfl) ?_
  refine cVX S5 hK hP 0 rfl rfl (As := []) (kX1_trickSize l D cA ad _) (cwV 0 hts gX1_playable_X1_trickSize rfl rfl rfl (by decide +kernel) ⟨(Nat.le_of_ble_eq_true rfl), (Nat.le_of_ble_eq_true rfl)⟩) rfl hl.1 (st0 := _) (rest := []) rfl (Nat.le_of_ble_eq_true rfl) dX1_playable_10 ⟨Nat.zero_le _, Nat.zero_le _⟩ ?_
  refine lv_if_ne (tgt := 18) hx hb dX1_playable_13 (by decide) (fun c1 => ?_) (fun c1 => ?_)
  · rw [if_neg c1] at h
    refine lv_iload_n hx hb dX1_playable_18 rfl (lv_at hl 0 rfl) ?_
    refine lv_aload_n hx hb dX1_playable_19 rfl (lv_at hl 1 rfl) ?_
    refine lv_iconst (v := 0) hx hb dX1_playable_20 (by decide) ?_
    refine cVX S5 hK hP 0 rfl rfl (As := [.int 0]) (kX1_trickCard l D cA ad _ _) (cwV 1 hts gX1_playable_X1_trickCard rfl rfl rfl (by decide +kernel) ⟨(Nat.le_of_ble_eq_true rfl), (Nat.le_of_ble_eq_true rfl)⟩) rfl hl.1 (st0 := _) (rest := [.int (fX1_handOf (fX1_mover M) M)]) rfl (Nat.le_of_ble_eq_true rfl) dX1_playable_21 ⟨Nat.zero_le _, Nat.zero_le _⟩ ?_
    refine cS S5 (As := [.int (fX1_trickCard 0 M)]) (kX0_suitOf l _) (va_cwS 1 hts gX1_playable_X0_suitOf rfl rfl rfl (by decide +kernel) ⟨(Nat.le_of_ble_eq_true rfl), (Nat.le_of_ble_eq_true rfl)⟩) rfl hl.1 (st0 := _) (rest := [.int (fX1_handOf (fX1_mover M) M)]) rfl (Nat.le_of_ble_eq_true rfl) dX1_playable_24 ⟨Nat.zero_le _, Nat.zero_le _⟩ ?_
    refine cS S5 (As := [.int (fX0_suitOf (fX1_trickCard 0 M))]) (kX0_suitSet l _) (va_cwS 1 hts gX1_playable_X0_suitSet rfl rfl rfl (by decide +kernel) ⟨(Nat.le_of_ble_eq_true rfl), (Nat.le_of_ble_eq_true rfl)⟩) rfl hl.1 (st0 := _) (rest := [.int (fX1_handOf (fX1_mover M) M)]) rfl (Nat.le_of_ble_eq_true rfl) dX1_playable_27 ⟨Nat.zero_le _, Nat.zero_le _⟩ ?_
    refine lv_iand hx hb dX1_playable_30 ?_
    refine lv_istore_n (lv' := [(2, .int ((fX1_handOf (fX1_mover M) M) &&& (fX0_suitSet (fX0_suitOf (fX1_trickCard 0 M))))), (1, .int (fX1_handOf (fX1_mover M) M)), (0, .ref (ad 0))]) hx hb dX1_playable_31 rfl hl (by decide) rfl (fun ls hl => ?_)
    refine lv_iload_n hx hb dX1_playable_32 rfl (lv_at hl 0 rfl) ?_
    refine lv_if_ne (tgt := 40) hx hb dX1_playable_33 (by decide) (fun c2 => ?_) (fun c2 => ?_)
    · rw [if_neg c2] at h
      refine lv_iload_n hx hb dX1_playable_40 rfl (lv_at hl 0 rfl) ?_
      subst h
      exact kr _ _ _ rfl rfl dX1_playable_41
    · rw [if_pos c2] at h
      refine lv_iload_n hx hb dX1_playable_36 rfl (lv_at hl 1 rfl) ?_
      refine lv_goto (tgt := 41) hx hb dX1_playable_37 (by decide) ?_
      subst h
      exact kr _ _ _ rfl rfl dX1_playable_41
  · rw [if_pos c1] at h
    refine lv_iload_n hx hb dX1_playable_16 rfl (lv_at hl 0 rfl) ?_
    subst h
    exact kr _ _ _ rfl rfl dX1_playable_17

-- X1_beats
def fX1_beats (p1 : Int32) (p2 : Int32) (M : Mem) : Int32 := (if (p1 / 6) = (p2 / 6) then (if p1 ≤ p2 then (0) else (1)) else (if (p1 / 6) = (M 0 3) then (1) else (0)))
def rmX1_beats : Room := { frames := 0, cells := 0, slots := 0, locals := 0 }
set_option maxHeartbeats 4000000 in
set_option maxRecDepth 100000 in
theorem kX1_beats (l : Launch) (D : va_G) (cA : Nat) (ad : Nat → Nat) (p1 : Int32) (p2 : Int32) (M : Mem) : RdX l yX1_beats wsX1_beats rmX1_beats D cA ad M [.ref (ad 0), .int p1, .int p2] (fX1_beats p1 p2 M) := by
  obtain ⟨r, h⟩ : ∃ r, fX1_beats p1 p2 M = r := ⟨_, rfl⟩
  rw [h]
  unfold fX1_beats at h
  refine RdX.of RX1 rfl rfl rfl (Nat.le_of_ble_eq_true rfl) ?_
  intro p e s m args below meth c Q ls S5 hK hP hl kr
  obtain ⟨hx, hb, -, -, hts⟩ := id S5
  have hin : ∀ w ∈ wsX10, w ∈ wsX1_beats := fun _ h => List.mem_cons_of_mem _ (List.mem_append_right _ (h))
  refine lv_iload_n hx hb dX1_beats_0 rfl (lv_at hl 1 rfl) ?_
  refine lv_bipush (v := 6) hx hb dX1_beats_1 (by decide) ?_
  refine r_idiv S5 dX1_beats_3 (by decide) ?_
  refine lv_istore_n (lv' := [(3, .int (p1 / 6)), (0, .ref (ad 0)), (1, .int p1), (2, .int p2)]) hx hb dX1_beats_4 rfl hl (by decide) rfl (fun ls hl => ?_)
  refine lv_iload_n hx hb dX1_beats_5 rfl (lv_at hl 0 rfl) ?_
  refine lv_iload_n hx hb dX1_beats_6 rfl (lv_at hl 3 rfl) ?_
  refine lv_bipush (v := 6) hx hb dX1_beats_7 (by decide) ?_
  refine r_idiv S5 dX1_beats_9 (by decide) ?_
  refine lv_icmp_ne (tgt := 26) hx hb dX1_beats_10 (by decide) (fun c1 => ?_) (fun c1 => ?_)
  · rw [if_neg c1] at h
    refine lv_iload_n hx hb dX1_beats_26 rfl (lv_at hl 0 rfl) ?_
    refine lv_aload_n hx hb dX1_beats_27 rfl (lv_at hl 1 rfl) ?_
    refine gX1_trump S5 hin hK hP (List.mem_of_getElem? (i := 1) rfl) (v := M 0 3) rfl dX1_beats_28 ?_
    refine lv_icmp_ne (tgt := 38) hx hb dX1_beats_31 (by decide) (fun c2 => ?_) (fun c2 => ?_)
    · rw [if_neg c2] at h
      refine lv_iconst (v := 0) hx hb dX1_beats_38 (by decide) ?_
      subst h
      exact kr _ _ _ rfl rfl dX1_beats_39
    · rw [if_pos c2] at h
      refine lv_iconst (v := 1) hx hb dX1_beats_34 (by decide) ?_
      refine lv_goto (tgt := 39) hx hb dX1_beats_35 (by decide) ?_
      subst h
      exact kr _ _ _ rfl rfl dX1_beats_39
  · rw [if_pos c1] at h
    refine lv_iload_n hx hb dX1_beats_13 rfl (lv_at hl 2 rfl) ?_
    refine lv_iload_n hx hb dX1_beats_14 rfl (lv_at hl 3 rfl) ?_
    refine lv_icmp_le (tgt := 22) hx hb dX1_beats_15 (by decide) (fun c3 => ?_) (fun c3 => ?_)
    · rw [if_pos c3] at h
      refine lv_iconst (v := 0) hx hb dX1_beats_22 (by decide) ?_
      refine lv_goto (tgt := 39) hx hb dX1_beats_23 (by decide) ?_
      subst h
      exact kr _ _ _ rfl rfl dX1_beats_39
    · rw [if_neg c3] at h
      refine lv_iconst (v := 1) hx hb dX1_beats_18 (by decide) ?_
      refine lv_goto (tgt := 39) hx hb dX1_beats_19 (by decide) ?_
      subst h
      exact kr _ _ _ rfl rfl dX1_beats_39

-- X1_endTrick
def fX1_endTrick_L11 : Nat → Int32 → Int32 → Int32 → Mem → Option (Int32)
  | 0, _, _, _, _ => none
  | n + 1, v1, v2, v3, M => (if 4 ≤ v3 then some (v2) else (if (fX1_beats (fX1_laidAt (v1 + v3) M) (fX1_laidAt (v1 + v2) M) M) = 0 then fX1_endTrick_L11 n v1 v2 (v3 + 1) M else fX1_endTrick_L11 n v1 v3 (v3 + 1) M))
def fX1_endTrick (M : Mem) : Option (Int32 × Mem) := (obind (fX1_endTrick_L11 40 ((M 0 7) - 4) 0 1 M) (fun q1 => (if (fX1_tricksOver M) < 0 then some (im ((fX1_leaderOf ((fX1_tricksOver M) - 1) M) + q1) 4, M) else (if 5 ≤ (fX1_tricksOver M) then some (im ((fX1_leaderOf ((fX1_tricksOver M) - 1) M) + q1) 4, M) else some (im ((fX1_leaderOf ((fX1_tricksOver M) - 1) M) + q1) 4, (mset M 3 ((fX1_tricksOver M).toNatClampNeg) (im ((fX1_leaderOf ((fX1_tricksOver M) - 1) M) + q1) 4)))))))
def rmX1_endTrick : Room := { frames := 1, cells := 0, slots := 0, locals := 23 }
set_option maxHeartbeats 4000000 in
set_option maxRecDepth 100000 in
theorem kX1_endTrick (l : Launch) (D : va_G) (cA : Nat) (ad : Nat → Nat) (M : Mem) (r : Int32 × Mem) (h : fX1_endTrick M = some r) : WiX l yX1_endTrick wsX1_endTrick rmX1_endTrick D cA ad M [.ref (ad 0)] r := by
  unfold fX1_endTrick at h
  refine WiX.of RX1 rfl rfl rfl (Nat.le_of_ble_eq_true rfl) ?_
  intro p e s m args below meth c Q ls A eA S5 hK hP hD hS hl kr
  have hA : ∀ (H : Heap) (q : Nat), s.heap.size ≤ H.size → AX ad H.size q → A q := fun H q hz h => by rw [eA]; exact AX.mono hz h
  obtain ⟨hx, hb, -, -, hts⟩ := id S5
  have hin : ∀ w ∈ wsX10, w ∈ wsX1_endTrick := fun _ h => List.mem_cons_of_mem _ (List.mem_append_right _ (h))
  have L11 : ∀ (n : Nat) (v1 : Int32) (v2 : Int32) (v3 : Int32) (M : Mem) (r' : Int32) (H : Heap) (locs : List Loc) (ls : Array Slot), fX1_endTrick_L11 n v1 v2 v3 M = some r' → va_P D vwCl (wX cA ad M) H → va_S A s.heap H locs → lv_has ls 5 [(0, .ref (ad 0)), (1, .int v1), (2, .int v2), (3, .int v3)] → (∀ (H : Heap) (locs : List Loc), va_P D vwCl (wX cA ad M) H → va_S A s.heap H locs → ∀ (ls : Array Slot), lv_has ls 5 [(0, .ref (ad 0)), (1, .int v1), (2, .int (r'))] → W p l e rmX1_endTrick s m args below meth c H locs 0 0 Q (F0 m 45 ls [])) → W p l e rmX1_endTrick s m args below meth c H locs 0 0 Q (F0 m 11 ls []) := by
    intro n
    induction n with
    | zero => intro v1 v2 v3 M r' H locs ls h hP hS hl kk; rw [fX1_endTrick_L11.eq_1] at h; cases h
    | succ n ih =>
      intro v1 v2 v3 M r' H locs ls h hP hS hl kk
      rw [fX1_endTrick_L11.eq_2] at h
      refine lv_iload_n hx hb dX1_endTrick_11 rfl (lv_at hl 3 rfl) ?_
      refine lv_iconst (v := 4) hx hb dX1_endTrick_12 (by decide) ?_
      refine lv_icmp_ge (tgt := 45) hx hb dX1_endTrick_13 (by decide) (fun c4 => ?_) (fun c4 => ?_)
      · rw [if_pos c4] at h
        obtain rfl := Option.some.inj h
        exact kk _ _ hP hS _ (lv_sub hl [0, 1, 2] rfl)
      · rw [if_neg c4] at h
        refine lv_aload_n hx hb dX1_endTrick_16 rfl (lv_at hl 0 rfl) ?_
        refine lv_aload_n hx hb dX1_endTrick_17 rfl (lv_at hl 0 rfl) ?_
        refine lv_iload_n hx hb dX1_endTrick_18 rfl (lv_at hl 1 rfl) ?_
        refine lv_iload_n hx hb dX1_endTrick_19 rfl (lv_at hl 3 rfl) ?_
        refine lv_iadd hx hb dX1_endTrick_20 ?_
        refine cVX S5 hK hP 0 rfl rfl (As := [.int (v1 + v3)]) (kX1_laidAt l D cA ad _ _) (cwV 1 hts gX1_endTrick_X1_laidAt rfl rfl rfl (by decide +kernel) ⟨(Nat.le_of_ble_eq_true rfl), (Nat.le_of_ble_eq_true rfl)⟩) rfl hl.1 (st0 := _) (rest := [.ref (ad 0)]) rfl (Nat.le_of_ble_eq_true rfl) dX1_endTrick_21 ⟨Nat.zero_le _, Nat.zero_le _⟩ ?_
        refine lv_aload_n hx hb dX1_endTrick_24 rfl (lv_at hl 0 rfl) ?_
        refine lv_iload_n hx hb dX1_endTrick_25 rfl (lv_at hl 1 rfl) ?_
        refine lv_iload_n hx hb dX1_endTrick_26 rfl (lv_at hl 2 rfl) ?_
        refine lv_iadd hx hb dX1_endTrick_27 ?_
        refine cVX S5 hK hP 0 rfl rfl (As := [.int (v1 + v2)]) (kX1_laidAt l D cA ad _ _) (cwV 1 hts gX1_endTrick_X1_laidAt rfl rfl rfl (by decide +kernel) ⟨(Nat.le_of_ble_eq_true rfl), (Nat.le_of_ble_eq_true rfl)⟩) rfl hl.1 (st0 := _) (rest := [.int (fX1_laidAt (v1 + v3) M), .ref (ad 0)]) rfl (Nat.le_of_ble_eq_true rfl) dX1_endTrick_28 ⟨Nat.zero_le _, Nat.zero_le _⟩ ?_
        refine cVX S5 hK hP 0 rfl rfl (As := [.int (fX1_laidAt (v1 + v3) M), .int (fX1_laidAt (v1 + v2) M)]) (kX1_beats l D cA ad _ _ _) (cwV 2 hts gX1_endTrick_X1_beats rfl rfl rfl (by decide +kernel) ⟨(Nat.le_of_ble_eq_true rfl), (Nat.le_of_ble_eq_true rfl)⟩) rfl hl.1 (st0 := _) (rest := []) rfl (Nat.le_of_ble_eq_true rfl) dX1_endTrick_31 ⟨Nat.zero_le _, Nat.zero_le _⟩ ?_
        refine lv_if_eq (tgt := 39) hx hb dX1_endTrick_34 (by decide) (fun c5 => ?_) (fun c5 => ?_)
        · rw [if_pos c5] at h
          refine lv_iinc (v := v3 + 1) (lv' := [(3, .int (v3 + 1)), (0, .ref (ad 0)), (1, .int v1), (2, .int v2)]) hx hb dX1_endTrick_39 hl (k := 3) rfl rfl (by decide) rfl (fun ls hl => ?_)
          refine lv_goto (tgt := 11) hx hb dX1_endTrick_42 (by decide) ?_
          exact ih _ _ _ _ _ _ _ _ h hP hS (lv_sub hl [1, 2, 3, 0] rfl) kk
        · rw [if_neg c5] at h
          refine lv_iload_n hx hb dX1_endTrick_37 rfl (lv_at hl 3 rfl) ?_
          refine lv_istore_n (lv' := [(2, .int v3), (0, .ref (ad 0)), (1, .int v1), (3, .int v3)]) hx hb dX1_endTrick_38 rfl hl (by decide) rfl (fun ls hl => ?_)
          refine lv_iinc (v := v3 + 1) (lv' := [(3, .int (v3 + 1)), (2, .int v3), (0, .ref (ad 0)), (1, .int v1)]) hx hb dX1_endTrick_39 hl (k := 3) rfl rfl (by decide) rfl (fun ls hl => ?_)
          refine lv_goto (tgt := 11) hx hb dX1_endTrick_42 (by decide) ?_
          exact ih _ _ _ _ _ _ _ _ h hP hS (lv_sub hl [2, 3, 1, 0] rfl) kk
  refine lv_aload_n hx hb dX1_endTrick_0 rfl (lv_at hl 0 rfl) ?_
  refine gX1_laidCount S5 hin hK hP (List.mem_of_getElem? (i := 1) rfl) (v := M 0 7) rfl dX1_endTrick_1 ?_
  refine lv_iconst (v := 4) hx hb dX1_endTrick_4 (by decide) ?_
  refine lv_isub hx hb dX1_endTrick_5 ?_
  refine lv_istore_n (lv' := [(1, .int ((M 0 7) - 4)), (0, .ref (ad 0))]) hx hb dX1_endTrick_6 rfl hl (by decide) rfl (fun ls hl => ?_)
  refine lv_iconst (v := 0) hx hb dX1_endTrick_7 (by decide) ?_
  refine lv_istore_n (lv' := [(2, .int 0), (1, .int ((M 0 7) - 4)), (0, .ref (ad 0))]) hx hb dX1_endTrick_8 rfl hl (by decide) rfl (fun ls hl => ?_)
  refine lv_iconst (v := 1) hx hb dX1_endTrick_9 (by decide) ?_
  refine lv_istore_n (lv' := [(3, .int 1), (2, .int 0), (1, .int ((M 0 7) - 4)), (0, .ref (ad 0))]) hx hb dX1_endTrick_10 rfl hl (by decide) rfl (fun ls hl => ?_)
  obtain ⟨q1, hqq1, h⟩ := obind_some h
  refine L11 _ _ _ _ _ _ _ _ _ hqq1 hP hS (lv_sub hl [3, 2, 1, 0] rfl) (fun H locs hP hS ls hl => ?_)
  have hl := lv_sub (l' := [(0, .ref (ad 0)), (2, .int q1)]) hl [0, 2] rfl
  refine lv_aload_n hx hb dX1_endTrick_45 rfl (lv_at hl 0 rfl) ?_
  refine cVX S5 hK hP 0 rfl rfl (As := []) (kX1_tricksOver l D cA ad _) (cwV 0 hts gX1_endTrick_X1_tricksOver rfl rfl rfl (by decide +kernel) ⟨(Nat.le_of_ble_eq_true rfl), (Nat.le_of_ble_eq_true rfl)⟩) rfl hl.1 (st0 := _) (rest := []) rfl (Nat.le_of_ble_eq_true rfl) dX1_endTrick_46 ⟨Nat.zero_le _, Nat.zero_le _⟩ ?_
  refine lv_istore_n (lv' := [(3, .int (fX1_tricksOver M)), (0, .ref (ad 0)), (2, .int q1)]) hx hb dX1_endTrick_49 rfl hl (by decide) rfl (fun ls hl => ?_)
  refine lv_aload_n hx hb dX1_endTrick_50 rfl (lv_at hl 1 rfl) ?_
  refine lv_iload_n hx hb dX1_endTrick_51 rfl (lv_at hl 0 rfl) ?_
  refine lv_iconst (v := 1) hx hb dX1_endTrick_52 (by decide) ?_
  refine lv_isub hx hb dX1_endTrick_53 ?_
  refine cVX S5 hK hP 0 rfl rfl (As := [.int ((fX1_tricksOver M) - 1)]) (kX1_leaderOf l D cA ad _ _) (cwV 1 hts gX1_endTrick_X1_leaderOf rfl rfl rfl (by decide +kernel) ⟨(Nat.le_of_ble_eq_true rfl), (Nat.le_of_ble_eq_true rfl)⟩) rfl hl.1 (st0 := _) (rest := []) rfl (Nat.le_of_ble_eq_true rfl) dX1_endTrick_54 ⟨Nat.zero_le _, Nat.zero_le _⟩ ?_
  refine lv_iload_n hx hb dX1_endTrick_57 rfl (lv_at hl 2 rfl) ?_
  refine lv_iadd hx hb dX1_endTrick_58 ?_
  refine lv_iconst (v := 4) hx hb dX1_endTrick_59 (by decide) ?_
  refine r_irem S5 dX1_endTrick_60 (by decide) ?_
  refine lv_istore (lv' := [(4, .int (im ((fX1_leaderOf ((fX1_tricksOver M) - 1) M) + q1) 4)), (3, .int (fX1_tricksOver M)), (0, .ref (ad 0)), (2, .int q1)]) hx hb dX1_endTrick_61 hl (by decide) rfl (fun ls hl => ?_)
  refine lv_iload_n hx hb dX1_endTrick_63 rfl (lv_at hl 1 rfl) ?_
  refine lv_if_lt (tgt := 84) hx hb dX1_endTrick_64 (by decide) (fun c2 => ?_) (fun c2 => ?_)
  · rw [if_pos c2] at h
    refine lv_iload hx hb dX1_endTrick_84 (lv_at hl 0 rfl) ?_
    obtain rfl := Option.some.inj h
    exact kr _ _ _ _ _ rfl rfl hP hS dX1_endTrick_86
  · rw [if_neg c2] at h
    refine lv_iload_n hx hb dX1_endTrick_67 rfl (lv_at hl 1 rfl) ?_
    refine lv_aload_n hx hb dX1_endTrick_68 rfl (lv_at hl 2 rfl) ?_
    refine gX1_leaders S5 hin hK hP (List.mem_of_getElem? (i := 2) rfl) dX1_endTrick_69 ?_
    refine anX3 S5 hK hP dX1_endTrick_72 ?_
    refine lv_icmp_ge (tgt := 84) hx hb dX1_endTrick_73 (by decide) (fun c3 => ?_) (fun c3 => ?_)
    · rw [if_pos c3] at h
      refine lv_iload hx hb dX1_endTrick_84 (lv_at hl 0 rfl) ?_
      obtain rfl := Option.some.inj h
      exact kr _ _ _ _ _ rfl rfl hP hS dX1_endTrick_86
    · rw [if_neg c3] at h
      refine lv_aload_n hx hb dX1_endTrick_76 rfl (lv_at hl 2 rfl) ?_
      refine gX1_leaders S5 hin hK hP (List.mem_of_getElem? (i := 2) rfl) dX1_endTrick_77 ?_
      refine lv_iload_n hx hb dX1_endTrick_80 rfl (lv_at hl 1 rfl) ?_
      refine lv_iload hx hb dX1_endTrick_81 (lv_at hl 0 rfl) ?_
      refine asX3 S5 hK hP hD hS (vin_c c2 (Int32.not_le.mp c3) (by decide)) (k := (fX1_tricksOver M).toNatClampNeg) rfl dX1_endTrick_83 (fun H locs hP hS => ?_)
      refine lv_iload hx hb dX1_endTrick_84 (lv_at hl 0 rfl) ?_
      obtain rfl := Option.some.inj h
      exact kr _ _ _ _ _ rfl rfl hP hS dX1_endTrick_86

-- X1_lay
def fX1_lay (p1 : Int32) (M : Mem) : Option (Int32 × Mem) := (if (M 0 7) < 0 then some ((-1), M) else (if (M 0 7) < 16 then (if vin ((fX1_dropFrom (fX1_mover M) p1 M) 0 7) 16 = true then (if (fX1_trickSize ((mset (mset (fX1_dropFrom (fX1_mover M) p1 M) 2 (((fX1_dropFrom (fX1_mover M) p1 M) 0 7).toNatClampNeg) p1) 0 7 (((fX1_dropFrom (fX1_mover M) p1 M) 0 7) + 1)))) = 0 then (obind (fX1_endTrick ((mset (mset (fX1_dropFrom (fX1_mover M) p1 M) 2 (((fX1_dropFrom (fX1_mover M) p1 M) 0 7).toNatClampNeg) p1) 0 7 (((fX1_dropFrom (fX1_mover M) p1 M) 0 7) + 1)))) (fun q5 => some (q5.1, q5.2))) else some ((-1), (mset (mset (fX1_dropFrom (fX1_mover M) p1 M) 2 (((fX1_dropFrom (fX1_mover M) p1 M) 0 7).toNatClampNeg) p1) 0 7 (((fX1_dropFrom (fX1_mover M) p1 M) 0 7) + 1)))) else none) else some ((-1), M)))
def rmX1_lay : Room := { frames := 2, cells := 0, slots := 0, locals := 47 }
set_option maxHeartbeats 4000000 in
set_option maxRecDepth 100000 in
theorem kX1_lay (l : Launch) (D : va_G) (cA : Nat) (ad : Nat → Nat) (p1 : Int32) (M : Mem) (r : Int32 × Mem) (h : fX1_lay p1 M = some r) : WiX l yX1_lay wsX1_lay rmX1_lay D cA ad M [.ref (ad 0), .int p1] r := by
  unfold fX1_lay at h
  refine WiX.of RX1 rfl rfl rfl (Nat.le_of_ble_eq_true rfl) ?_
  intro p e s m args below meth c Q ls A eA S5 hK hP hD hS hl kr
  have hA : ∀ (H : Heap) (q : Nat), s.heap.size ≤ H.size → AX ad H.size q → A q := fun H q hz h => by rw [eA]; exact AX.mono hz h
  obtain ⟨hx, hb, -, -, hts⟩ := id S5
  have hin : ∀ w ∈ wsX10, w ∈ wsX1_lay := fun _ h => List.mem_cons_of_mem _ (List.mem_append_right _ (h))
  refine lv_aload_n hx hb dX1_lay_0 rfl (lv_at hl 0 rfl) ?_
  refine gX1_laidCount S5 hin hK hP (List.mem_of_getElem? (i := 1) rfl) (v := M 0 7) rfl dX1_lay_1 ?_
  refine lv_if_lt (tgt := 19) hx hb dX1_lay_4 (by decide) (fun c1 => ?_) (fun c1 => ?_)
  · rw [if_pos c1] at h
    refine lv_iconst (v := (-1)) hx hb dX1_lay_19 (by decide) ?_
    obtain rfl := Option.some.inj h
    exact kr _ _ _ _ _ rfl rfl hP hS dX1_lay_20
  · rw [if_neg c1] at h
    refine lv_aload_n hx hb dX1_lay_7 rfl (lv_at hl 0 rfl) ?_
    refine gX1_laidCount S5 hin hK hP (List.mem_of_getElem? (i := 1) rfl) (v := M 0 7) rfl dX1_lay_8 ?_
    refine lv_aload_n hx hb dX1_lay_11 rfl (lv_at hl 0 rfl) ?_
    refine gX1_laid S5 hin hK hP (List.mem_of_getElem? (i := 2) rfl) dX1_lay_12 ?_
    refine anX2 S5 hK hP dX1_lay_15 ?_
    refine lv_icmp_lt (tgt := 21) hx hb dX1_lay_16 (by decide) (fun c2 => ?_) (fun c2 => ?_)
    · rw [if_pos c2] at h
      refine lv_aload_n hx hb dX1_lay_21 rfl (lv_at hl 0 rfl) ?_
      refine lv_aload_n hx hb dX1_lay_22 rfl (lv_at hl 0 rfl) ?_
      refine cVX S5 hK hP 0 rfl rfl (As := []) (kX1_mover l D cA ad _) (cwV 0 hts gX1_lay_X1_mover rfl rfl rfl (by decide +kernel) ⟨(Nat.le_of_ble_eq_true rfl), (Nat.le_of_ble_eq_true rfl)⟩) rfl hl.1 (st0 := _) (rest := [.ref (ad 0)]) rfl (Nat.le_of_ble_eq_true rfl) dX1_lay_23 ⟨Nat.zero_le _, Nat.zero_le _⟩ ?_
      refine lv_iload_n hx hb dX1_lay_26 rfl (lv_at hl 1 rfl) ?_
      refine cWvX S5 hK hP hD hS (fun _ h => hA _ _ hS.1 h) 0 rfl rfl (As := [.int (fX1_mover M), .int p1]) (kX1_dropFrom l D cA ad _ _ _) (cwV 2 hts gX1_lay_X1_dropFrom rfl rfl rfl (by decide +kernel) ⟨(Nat.le_of_ble_eq_true rfl), (Nat.le_of_ble_eq_true rfl)⟩) rfl hl.1 (st0 := _) (rest := []) rfl (Nat.le_of_ble_eq_true rfl) dX1_lay_27 ⟨Nat.zero_le _, Nat.zero_le _⟩ (fun H locs hz hP hS => ?_)
      refine lv_aload_n hx hb dX1_lay_30 rfl (lv_at hl 0 rfl) ?_
      refine gX1_laid S5 hin hK hP (List.mem_of_getElem? (i := 2) rfl) dX1_lay_31 ?_
      refine lv_aload_n hx hb dX1_lay_34 rfl (lv_at hl 0 rfl) ?_
      refine gX1_laidCount S5 hin hK hP (List.mem_of_getElem? (i := 1) rfl) (v := (fX1_dropFrom (fX1_mover M) p1 M) 0 7) rfl dX1_lay_35 ?_
      refine lv_iload_n hx hb dX1_lay_38 rfl (lv_at hl 1 rfl) ?_
      obtain ⟨g3, h⟩ := gd_some h
      refine asX2 S5 hK hP hD hS g3 (k := ((fX1_dropFrom (fX1_mover M) p1 M) 0 7).toNatClampNeg) rfl dX1_lay_39 (fun H locs hP hS => ?_)
      refine lv_aload_n hx hb dX1_lay_40 rfl (lv_at hl 0 rfl) ?_
      refine lv_dup hx hb dX1_lay_41 rfl ?_
      refine gX1_laidCount S5 hin hK hP (List.mem_of_getElem? (i := 1) rfl) (v := (fX1_dropFrom (fX1_mover M) p1 M) 0 7) rfl dX1_lay_42 ?_
      refine lv_iconst (v := 1) hx hb dX1_lay_45 (by decide) ?_
      refine lv_iadd hx hb dX1_lay_46 ?_
      refine pX1_laidCount S5 hin hK hP hD hS (List.mem_of_getElem? (i := 1) rfl) dX1_lay_47 (fun H locs hP hS => ?_)
      refine lv_aload_n hx hb dX1_lay_50 rfl (lv_at hl 0 rfl) ?_
      refine cVX S5 hK hP 0 rfl rfl (As := []) (kX1_trickSize l D cA ad _) (cwV 0 hts gX1_lay_X1_trickSize rfl rfl rfl (by decide +kernel) ⟨(Nat.le_of_ble_eq_true rfl), (Nat.le_of_ble_eq_true rfl)⟩) rfl hl.1 (st0 := _) (rest := []) rfl (Nat.le_of_ble_eq_true rfl) dX1_lay_51 ⟨Nat.zero_le _, Nat.zero_le _⟩ ?_
      refine lv_if_eq (tgt := 59) hx hb dX1_lay_54 (by decide) (fun c4 => ?_) (fun c4 => ?_)
      · rw [if_pos c4] at h
        refine lv_aload_n hx hb dX1_lay_59 rfl (lv_at hl 0 rfl) ?_
        obtain ⟨q5, hqq5, h⟩ := obind_some h
        refine cWiX S5 hK hP hD hS (fun _ h => hA _ _ hS.1 h) 0 rfl rfl (As := []) (kX1_endTrick l D cA ad _ _ hqq5) (cwV 0 hts gX1_lay_X1_endTrick rfl rfl rfl (by decide +kernel) ⟨(Nat.le_of_ble_eq_true rfl), (Nat.le_of_ble_eq_true rfl)⟩) rfl hl.1 (st0 := _) (rest := []) rfl (Nat.le_of_ble_eq_true rfl) dX1_lay_60 ⟨Nat.zero_le _, Nat.zero_le _⟩ (fun H locs hz hP hS => ?_)
        obtain rfl := Option.some.inj h
        exact kr _ _ _ _ _ rfl rfl hP hS dX1_lay_63
      · rw [if_neg c4] at h
        refine lv_iconst (v := (-1)) hx hb dX1_lay_57 (by decide) ?_
        obtain rfl := Option.some.inj h
        exact kr _ _ _ _ _ rfl rfl hP hS dX1_lay_58
    · rw [if_neg c2] at h
      refine lv_iconst (v := (-1)) hx hb dX1_lay_19 (by decide) ?_
      obtain rfl := Option.some.inj h
      exact kr _ _ _ _ _ rfl rfl hP hS dX1_lay_20

-- X1_lift
def fX1_lift (M : Mem) : Int32 × Mem := (if 0 < (M 0 7) then (fX1_laidAt ((M 0 7) - 1) ((mset M 0 7 ((M 0 7) - 1))), (fX1_addTo (fX1_mover ((mset M 0 7 ((M 0 7) - 1)))) (fX1_laidAt ((M 0 7) - 1) ((mset M 0 7 ((M 0 7) - 1)))) ((mset M 0 7 ((M 0 7) - 1))))) else ((-1), M))
def rmX1_lift : Room := { frames := 2, cells := 0, slots := 0, locals := 41 }
set_option maxHeartbeats 4000000 in
set_option maxRecDepth 100000 in
theorem kX1_lift (l : Launch) (D : va_G) (cA : Nat) (ad : Nat → Nat) (M : Mem) : WiX l yX1_lift wsX1_lift rmX1_lift D cA ad M [.ref (ad 0)] (fX1_lift M) := by
  obtain ⟨r, h⟩ : ∃ r, fX1_lift M = r := ⟨_, rfl⟩
  rw [h]
  unfold fX1_lift at h
  refine WiX.of RX1 rfl rfl rfl (Nat.le_of_ble_eq_true rfl) ?_
  intro p e s m args below meth c Q ls A eA S5 hK hP hD hS hl kr
  have hA : ∀ (H : Heap) (q : Nat), s.heap.size ≤ H.size → AX ad H.size q → A q := fun H q hz h => by rw [eA]; exact AX.mono hz h
  obtain ⟨hx, hb, -, -, hts⟩ := id S5
  have hin : ∀ w ∈ wsX10, w ∈ wsX1_lift := fun _ h => List.mem_cons_of_mem _ (List.mem_append_right _ (h))
  refine lv_aload_n hx hb dX1_lift_0 rfl (lv_at hl 0 rfl) ?_
  refine gX1_laidCount S5 hin hK hP (List.mem_of_getElem? (i := 1) rfl) (v := M 0 7) rfl dX1_lift_1 ?_
  refine lv_if_gt (tgt := 9) hx hb dX1_lift_4 (by decide) (fun c1 => ?_) (fun c1 => ?_)
  · rw [if_pos c1] at h
    refine lv_aload_n hx hb dX1_lift_9 rfl (lv_at hl 0 rfl) ?_
    refine lv_dup hx hb dX1_lift_10 rfl ?_
    refine gX1_laidCount S5 hin hK hP (List.mem_of_getElem? (i := 1) rfl) (v := M 0 7) rfl dX1_lift_11 ?_
    refine lv_iconst (v := 1) hx hb dX1_lift_14 (by decide) ?_
    refine lv_isub hx hb dX1_lift_15 ?_
    refine pX1_laidCount S5 hin hK hP hD hS (List.mem_of_getElem? (i := 1) rfl) dX1_lift_16 (fun H locs hP hS => ?_)
    refine lv_aload_n hx hb dX1_lift_19 rfl (lv_at hl 0 rfl) ?_
    refine lv_aload_n hx hb dX1_lift_20 rfl (lv_at hl 0 rfl) ?_
    refine gX1_laidCount S5 hin hK hP (List.mem_of_getElem? (i := 1) rfl) (v := (M 0 7) - 1) rfl dX1_lift_21 ?_
    refine cVX S5 hK hP 0 rfl rfl (As := [.int ((M 0 7) - 1)]) (kX1_laidAt l D cA ad _ _) (cwV 1 hts gX1_lift_X1_laidAt rfl rfl rfl (by decide +kernel) ⟨(Nat.le_of_ble_eq_true rfl), (Nat.le_of_ble_eq_true rfl)⟩) rfl hl.1 (st0 := _) (rest := []) rfl (Nat.le_of_ble_eq_true rfl) dX1_lift_24 ⟨Nat.zero_le _, Nat.zero_le _⟩ ?_
    refine lv_istore_n (lv' := [(1, .int (fX1_laidAt ((M 0 7) - 1) ((mset M 0 7 ((M 0 7) - 1))))), (0, .ref (ad 0))]) hx hb dX1_lift_27 rfl hl (by decide) rfl (fun ls hl => ?_)
    refine lv_aload_n hx hb dX1_lift_28 rfl (lv_at hl 1 rfl) ?_
    refine lv_aload_n hx hb dX1_lift_29 rfl (lv_at hl 1 rfl) ?_
    refine cVX S5 hK hP 0 rfl rfl (As := []) (kX1_mover l D cA ad _) (cwV 0 hts gX1_lift_X1_mover rfl rfl rfl (by decide +kernel) ⟨(Nat.le_of_ble_eq_true rfl), (Nat.le_of_ble_eq_true rfl)⟩) rfl hl.1 (st0 := _) (rest := [.ref (ad 0)]) rfl (Nat.le_of_ble_eq_true rfl) dX1_lift_30 ⟨Nat.zero_le _, Nat.zero_le _⟩ ?_
    refine lv_iload_n hx hb dX1_lift_33 rfl (lv_at hl 0 rfl) ?_
    refine cWvX S5 hK hP hD hS (fun _ h => hA _ _ hS.1 h) 0 rfl rfl (As := [.int (fX1_mover ((mset M 0 7 ((M 0 7) - 1)))), .int (fX1_laidAt ((M 0 7) - 1) ((mset M 0 7 ((M 0 7) - 1))))]) (kX1_addTo l D cA ad _ _ _) (cwV 2 hts gX1_lift_X1_addTo rfl rfl rfl (by decide +kernel) ⟨(Nat.le_of_ble_eq_true rfl), (Nat.le_of_ble_eq_true rfl)⟩) rfl hl.1 (st0 := _) (rest := []) rfl (Nat.le_of_ble_eq_true rfl) dX1_lift_34 ⟨Nat.zero_le _, Nat.zero_le _⟩ (fun H locs hz hP hS => ?_)
    refine lv_iload_n hx hb dX1_lift_37 rfl (lv_at hl 0 rfl) ?_
    subst h
    exact kr _ _ _ _ _ rfl rfl hP hS dX1_lift_38
  · rw [if_neg c1] at h
    refine lv_iconst (v := (-1)) hx hb dX1_lift_7 (by decide) ?_
    subst h
    exact kr _ _ _ _ _ rfl rfl hP hS dX1_lift_8

-- X1_tricksOf
def fX1_tricksOf_L4 : Nat → Int32 → Int32 → Int32 → Mem → Option (Int32)
  | 0, _, _, _, _ => none
  | n + 1, v1, v2, v3, M => (if (fX1_tricksOver M) < v3 then some (v2) else (if (fX0_sideOf (fX1_leaderOf v3 M)) = v1 then fX1_tricksOf_L4 n v1 (v2 + 1) (v3 + 1) M else fX1_tricksOf_L4 n v1 v2 (v3 + 1) M))
def fX1_tricksOf (p1 : Int32) (M : Mem) : Option (Int32) := (obind (fX1_tricksOf_L4 40 p1 0 1 M) (fun q1 => some (q1)))
def rmX1_tricksOf : Room := { frames := 1, cells := 0, slots := 0, locals := 21 }
set_option maxHeartbeats 4000000 in
set_option maxRecDepth 100000 in
theorem kX1_tricksOf (l : Launch) (D : va_G) (cA : Nat) (ad : Nat → Nat) (p1 : Int32) (M : Mem) (r : Int32) (h : fX1_tricksOf p1 M = some r) : RdX l yX1_tricksOf wsX1_tricksOf rmX1_tricksOf D cA ad M [.ref (ad 0), .int p1] r := by
  unfold fX1_tricksOf at h
  refine RdX.of RX1 rfl rfl rfl (Nat.le_of_ble_eq_true rfl) ?_
  intro p e s m args below meth c Q ls S5 hK hP hl kr
  obtain ⟨hx, hb, -, -, hts⟩ := id S5
  have hin : ∀ w ∈ wsX10, w ∈ wsX1_tricksOf := fun _ h => List.mem_cons_of_mem _ (List.mem_append_right _ (h))
  have L4 : ∀ (n : Nat) (v1 : Int32) (v2 : Int32) (v3 : Int32) (r' : Int32) (ls : Array Slot), fX1_tricksOf_L4 n v1 v2 v3 M = some r' → lv_has ls 4 [(0, .ref (ad 0)), (1, .int v1), (2, .int v2), (3, .int v3)] → (∀ (ls : Array Slot), lv_has ls 4 [(0, .ref (ad 0)), (1, .int v1), (2, .int (r'))] → W p l e rmX1_tricksOf s m args below meth c s.heap [] 0 0 Q (F0 m 33 ls [])) → W p l e rmX1_tricksOf s m args below meth c s.heap [] 0 0 Q (F0 m 4 ls []) := by
    intro n
    induction n with
    | zero => intro v1 v2 v3 r' ls h hl kk; rw [fX1_tricksOf_L4.eq_1] at h; cases h
    | succ n ih =>
      intro v1 v2 v3 r' ls h hl kk
      rw [fX1_tricksOf_L4.eq_2] at h
      refine lv_iload_n hx hb dX1_tricksOf_4 rfl (lv_at hl 3 rfl) ?_
      refine lv_aload_n hx hb dX1_tricksOf_5 rfl (lv_at hl 0 rfl) ?_
      refine cVX S5 hK hP 0 rfl rfl (As := []) (kX1_tricksOver l D cA ad _) (cwV 0 hts gX1_tricksOf_X1_tricksOver rfl rfl rfl (by decide +kernel) ⟨(Nat.le_of_ble_eq_true rfl), (Nat.le_of_ble_eq_true rfl)⟩) rfl hl.1 (st0 := _) (rest := [.int v3]) rfl (Nat.le_of_ble_eq_true rfl) dX1_tricksOf_6 ⟨Nat.zero_le _, Nat.zero_le _⟩ ?_
      refine lv_icmp_gt (tgt := 33) hx hb dX1_tricksOf_9 (by decide) (fun c2 => ?_) (fun c2 => ?_)
      · rw [if_pos c2] at h
        obtain rfl := Option.some.inj h
        exact kk _ (lv_sub hl [0, 1, 2] rfl)
      · rw [if_neg c2] at h
        refine lv_aload_n hx hb dX1_tricksOf_12 rfl (lv_at hl 0 rfl) ?_
        refine lv_iload_n hx hb dX1_tricksOf_13 rfl (lv_at hl 3 rfl) ?_
        refine cVX S5 hK hP 0 rfl rfl (As := [.int v3]) (kX1_leaderOf l D cA ad _ _) (cwV 1 hts gX1_tricksOf_X1_leaderOf rfl rfl rfl (by decide +kernel) ⟨(Nat.le_of_ble_eq_true rfl), (Nat.le_of_ble_eq_true rfl)⟩) rfl hl.1 (st0 := _) (rest := []) rfl (Nat.le_of_ble_eq_true rfl) dX1_tricksOf_14 ⟨Nat.zero_le _, Nat.zero_le _⟩ ?_
        refine cS S5 (As := [.int (fX1_leaderOf v3 M)]) (kX0_sideOf l _) (va_cwS 1 hts gX1_tricksOf_X0_sideOf rfl rfl rfl (by decide +kernel) ⟨(Nat.le_of_ble_eq_true rfl), (Nat.le_of_ble_eq_true rfl)⟩) rfl hl.1 (st0 := _) (rest := []) rfl (Nat.le_of_ble_eq_true rfl) dX1_tricksOf_17 ⟨Nat.zero_le _, Nat.zero_le _⟩ ?_
        refine lv_iload_n hx hb dX1_tricksOf_20 rfl (lv_at hl 1 rfl) ?_
        refine lv_icmp_ne (tgt := 27) hx hb dX1_tricksOf_21 (by decide) (fun c3 => ?_) (fun c3 => ?_)
        · rw [if_neg c3] at h
          refine lv_iinc (v := v3 + 1) (lv' := [(3, .int (v3 + 1)), (0, .ref (ad 0)), (1, .int v1), (2, .int v2)]) hx hb dX1_tricksOf_27 hl (k := 3) rfl rfl (by decide) rfl (fun ls hl => ?_)
          refine lv_goto (tgt := 4) hx hb dX1_tricksOf_30 (by decide) ?_
          exact ih _ _ _ _ _ h (lv_sub hl [1, 2, 3, 0] rfl) kk
        · rw [if_pos c3] at h
          refine lv_iinc (v := v2 + 1) (lv' := [(2, .int (v2 + 1)), (0, .ref (ad 0)), (1, .int v1), (3, .int v3)]) hx hb dX1_tricksOf_24 hl (k := 2) rfl rfl (by decide) rfl (fun ls hl => ?_)
          refine lv_iinc (v := v3 + 1) (lv' := [(3, .int (v3 + 1)), (2, .int (v2 + 1)), (0, .ref (ad 0)), (1, .int v1)]) hx hb dX1_tricksOf_27 hl (k := 3) rfl rfl (by decide) rfl (fun ls hl => ?_)
          refine lv_goto (tgt := 4) hx hb dX1_tricksOf_30 (by decide) ?_
          exact ih _ _ _ _ _ h (lv_sub hl [2, 3, 1, 0] rfl) kk
  refine lv_iconst (v := 0) hx hb dX1_tricksOf_0 (by decide) ?_
  refine lv_istore_n (lv' := [(2, .int 0), (0, .ref (ad 0)), (1, .int p1)]) hx hb dX1_tricksOf_1 rfl hl (by decide) rfl (fun ls hl => ?_)
  refine lv_iconst (v := 1) hx hb dX1_tricksOf_2 (by decide) ?_
  refine lv_istore_n (lv' := [(3, .int 1), (2, .int 0), (0, .ref (ad 0)), (1, .int p1)]) hx hb dX1_tricksOf_3 rfl hl (by decide) rfl (fun ls hl => ?_)
  obtain ⟨q1, hqq1, h⟩ := obind_some h
  refine L4 _ _ _ _ _ _ hqq1 (lv_sub hl [2, 3, 1, 0] rfl) (fun ls hl => ?_)
  have hl := lv_sub (l' := [(2, .int q1)]) hl [2] rfl
  refine lv_iload_n hx hb dX1_tricksOf_33 rfl (lv_at hl 0 rfl) ?_
  obtain rfl := Option.some.inj h
  exact kr _ _ _ rfl rfl dX1_tricksOf_34

-- X1_inHands
def fX1_inHands (M : Mem) : Int32 := ((((0 ||| (M 1 0)) ||| (M 1 1)) ||| (M 1 2)) ||| (M 1 3))
def rmX1_inHands : Room := { frames := 0, cells := 0, slots := 0, locals := 0 }
set_option maxHeartbeats 4000000 in
set_option maxRecDepth 100000 in
theorem kX1_inHands (l : Launch) (D : va_G) (cA : Nat) (ad : Nat → Nat) (M : Mem) : RdX l yX1_inHands wsX1_inHands rmX1_inHands D cA ad M [.ref (ad 0)] (fX1_inHands M) := by
  obtain ⟨r, h⟩ : ∃ r, fX1_inHands M = r := ⟨_, rfl⟩
  rw [h]
  unfold fX1_inHands at h
  refine RdX.of RX1 rfl rfl rfl (Nat.le_of_ble_eq_true rfl) ?_
  intro p e s m args below meth c Q ls S5 hK hP hl kr
  obtain ⟨hx, hb, -, -, hts⟩ := id S5
  have hin : ∀ w ∈ wsX10, w ∈ wsX1_inHands := fun _ h => List.mem_cons_of_mem _ (List.mem_append_right _ (h))
  refine lv_iconst (v := 0) hx hb dX1_inHands_0 (by decide) ?_
  refine lv_istore_n (lv' := [(1, .int 0), (0, .ref (ad 0))]) hx hb dX1_inHands_1 rfl hl (by decide) rfl (fun ls hl => ?_)
  refine lv_iconst (v := 0) hx hb dX1_inHands_2 (by decide) ?_
  refine lv_istore_n (lv' := [(2, .int 0), (1, .int 0), (0, .ref (ad 0))]) hx hb dX1_inHands_3 rfl hl (by decide) rfl (fun ls hl => ?_)
  refine lv_iload_n hx hb dX1_inHands_4 rfl (lv_at hl 0 rfl) ?_
  refine lv_aload_n hx hb dX1_inHands_5 rfl (lv_at hl 2 rfl) ?_
  refine gX1_hands S5 hin hK hP (List.mem_of_getElem? (i := 1) rfl) dX1_inHands_6 ?_
  refine anX1 S5 hK hP dX1_inHands_9 ?_
  refine lv_icmp_ge (tgt := 28) hx hb dX1_inHands_10 (by decide) (fun c1 => absurd c1 (by decide)) (fun c1 => ?_)
  refine lv_iload_n hx hb dX1_inHands_13 rfl (lv_at hl 1 rfl) ?_
  refine lv_aload_n hx hb dX1_inHands_14 rfl (lv_at hl 2 rfl) ?_
  refine gX1_hands S5 hin hK hP (List.mem_of_getElem? (i := 1) rfl) dX1_inHands_15 ?_
  refine lv_iload_n hx hb dX1_inHands_18 rfl (lv_at hl 0 rfl) ?_
  refine alX1 S5 hK hP (v := M 1 0) (by decide) rfl dX1_inHands_19 ?_
  refine lv_ior hx hb dX1_inHands_20 ?_
  refine lv_istore_n (lv' := [(1, .int (0 ||| (M 1 0))), (2, .int 0), (0, .ref (ad 0))]) hx hb dX1_inHands_21 rfl hl (by decide) rfl (fun ls hl => ?_)
  refine lv_iinc (v := 1) (lv' := [(2, .int 1), (1, .int (0 ||| (M 1 0))), (0, .ref (ad 0))]) hx hb dX1_inHands_22 hl (k := 1) rfl rfl (by decide) rfl (fun ls hl => ?_)
  refine lv_goto (tgt := 4) hx hb dX1_inHands_25 (by decide) ?_
  refine lv_iload_n hx hb dX1_inHands_4 rfl (lv_at hl 0 rfl) ?_
  refine lv_aload_n hx hb dX1_inHands_5 rfl (lv_at hl 2 rfl) ?_
  refine gX1_hands S5 hin hK hP (List.mem_of_getElem? (i := 1) rfl) dX1_inHands_6 ?_
  refine anX1 S5 hK hP dX1_inHands_9 ?_
  refine lv_icmp_ge (tgt := 28) hx hb dX1_inHands_10 (by decide) (fun c2 => absurd c2 (by decide)) (fun c2 => ?_)
  refine lv_iload_n hx hb dX1_inHands_13 rfl (lv_at hl 1 rfl) ?_
  refine lv_aload_n hx hb dX1_inHands_14 rfl (lv_at hl 2 rfl) ?_
  refine gX1_hands S5 hin hK hP (List.mem_of_getElem? (i := 1) rfl) dX1_inHands_15 ?_
  refine lv_iload_n hx hb dX1_inHands_18 rfl (lv_at hl 0 rfl) ?_
  refine alX1 S5 hK hP (v := M 1 1) (by decide) rfl dX1_inHands_19 ?_
  refine lv_ior hx hb dX1_inHands_20 ?_
  refine lv_istore_n (lv' := [(1, .int ((0 ||| (M 1 0)) ||| (M 1 1))), (2, .int 1), (0, .ref (ad 0))]) hx hb dX1_inHands_21 rfl hl (by decide) rfl (fun ls hl => ?_)
  refine lv_iinc (v := 2) (lv' := [(2, .int 2), (1, .int ((0 ||| (M 1 0)) ||| (M 1 1))), (0, .ref (ad 0))]) hx hb dX1_inHands_22 hl (k := 1) rfl rfl (by decide) rfl (fun ls hl => ?_)
  refine lv_goto (tgt := 4) hx hb dX1_inHands_25 (by decide) ?_
  refine lv_iload_n hx hb dX1_inHands_4 rfl (lv_at hl 0 rfl) ?_
  refine lv_aload_n hx hb dX1_inHands_5 rfl (lv_at hl 2 rfl) ?_
  refine gX1_hands S5 hin hK hP (List.mem_of_getElem? (i := 1) rfl) dX1_inHands_6 ?_
  refine anX1 S5 hK hP dX1_inHands_9 ?_
  refine lv_icmp_ge (tgt := 28) hx hb dX1_inHands_10 (by decide) (fun c3 => absurd c3 (by decide)) (fun c3 => ?_)
  refine lv_iload_n hx hb dX1_inHands_13 rfl (lv_at hl 1 rfl) ?_
  refine lv_aload_n hx hb dX1_inHands_14 rfl (lv_at hl 2 rfl) ?_
  refine gX1_hands S5 hin hK hP (List.mem_of_getElem? (i := 1) rfl) dX1_inHands_15 ?_
  refine lv_iload_n hx hb dX1_inHands_18 rfl (lv_at hl 0 rfl) ?_
  refine alX1 S5 hK hP (v := M 1 2) (by decide) rfl dX1_inHands_19 ?_
  refine lv_ior hx hb dX1_inHands_20 ?_
  refine lv_istore_n (lv' := [(1, .int (((0 ||| (M 1 0)) ||| (M 1 1)) ||| (M 1 2))), (2, .int 2), (0, .ref (ad 0))]) hx hb dX1_inHands_21 rfl hl (by decide) rfl (fun ls hl => ?_)
  refine lv_iinc (v := 3) (lv' := [(2, .int 3), (1, .int (((0 ||| (M 1 0)) ||| (M 1 1)) ||| (M 1 2))), (0, .ref (ad 0))]) hx hb dX1_inHands_22 hl (k := 1) rfl rfl (by decide) rfl (fun ls hl => ?_)
  refine lv_goto (tgt := 4) hx hb dX1_inHands_25 (by decide) ?_
  refine lv_iload_n hx hb dX1_inHands_4 rfl (lv_at hl 0 rfl) ?_
  refine lv_aload_n hx hb dX1_inHands_5 rfl (lv_at hl 2 rfl) ?_
  refine gX1_hands S5 hin hK hP (List.mem_of_getElem? (i := 1) rfl) dX1_inHands_6 ?_
  refine anX1 S5 hK hP dX1_inHands_9 ?_
  refine lv_icmp_ge (tgt := 28) hx hb dX1_inHands_10 (by decide) (fun c4 => absurd c4 (by decide)) (fun c4 => ?_)
  refine lv_iload_n hx hb dX1_inHands_13 rfl (lv_at hl 1 rfl) ?_
  refine lv_aload_n hx hb dX1_inHands_14 rfl (lv_at hl 2 rfl) ?_
  refine gX1_hands S5 hin hK hP (List.mem_of_getElem? (i := 1) rfl) dX1_inHands_15 ?_
  refine lv_iload_n hx hb dX1_inHands_18 rfl (lv_at hl 0 rfl) ?_
  refine alX1 S5 hK hP (v := M 1 3) (by decide) rfl dX1_inHands_19 ?_
  refine lv_ior hx hb dX1_inHands_20 ?_
  refine lv_istore_n (lv' := [(1, .int ((((0 ||| (M 1 0)) ||| (M 1 1)) ||| (M 1 2)) ||| (M 1 3))), (2, .int 3), (0, .ref (ad 0))]) hx hb dX1_inHands_21 rfl hl (by decide) rfl (fun ls hl => ?_)
  refine lv_iinc (v := 4) (lv' := [(2, .int 4), (1, .int ((((0 ||| (M 1 0)) ||| (M 1 1)) ||| (M 1 2)) ||| (M 1 3))), (0, .ref (ad 0))]) hx hb dX1_inHands_22 hl (k := 1) rfl rfl (by decide) rfl (fun ls hl => ?_)
  refine lv_goto (tgt := 4) hx hb dX1_inHands_25 (by decide) ?_
  refine lv_iload_n hx hb dX1_inHands_4 rfl (lv_at hl 0 rfl) ?_
  refine lv_aload_n hx hb dX1_inHands_5 rfl (lv_at hl 2 rfl) ?_
  refine gX1_hands S5 hin hK hP (List.mem_of_getElem? (i := 1) rfl) dX1_inHands_6 ?_
  refine anX1 S5 hK hP dX1_inHands_9 ?_
  refine lv_icmp_ge (tgt := 28) hx hb dX1_inHands_10 (by decide) (fun c5 => ?_) (fun c5 => absurd c5 (by decide))
  refine lv_iload_n hx hb dX1_inHands_28 rfl (lv_at hl 1 rfl) ?_
  subst h
  exact kr _ _ _ rfl rfl dX1_inHands_29

-- X1_inTrickSet
def fX1_inTrickSet_L12 : Nat → Int32 → Int32 → Mem → Option (Int32)
  | 0, _, _, _ => none
  | n + 1, v1, v2, M => (if (M 0 7) ≤ v2 then some (v1) else fX1_inTrickSet_L12 n (v1 ||| (sl 1 (fX1_laidAt v2 M))) (v2 + 1) M)
def fX1_inTrickSet (M : Mem) : Option (Int32) := (obind (fX1_inTrickSet_L12 40 0 ((M 0 7) - (fX1_trickSize M)) M) (fun q1 => some (q1)))
def rmX1_inTrickSet : Room := { frames := 1, cells := 0, slots := 0, locals := 21 }
set_option maxHeartbeats 4000000 in
set_option maxRecDepth 100000 in
theorem kX1_inTrickSet (l : Launch) (D : va_G) (cA : Nat) (ad : Nat → Nat) (M : Mem) (r : Int32) (h : fX1_inTrickSet M = some r) : RdX l yX1_inTrickSet wsX1_inTrickSet rmX1_inTrickSet D cA ad M [.ref (ad 0)] r := by
  unfold fX1_inTrickSet at h
  refine RdX.of RX1 rfl rfl rfl (Nat.le_of_ble_eq_true rfl) ?_
  intro p e s m args below meth c Q ls S5 hK hP hl kr
  obtain ⟨hx, hb, -, -, hts⟩ := id S5
  have hin : ∀ w ∈ wsX10, w ∈ wsX1_inTrickSet := fun _ h => List.mem_cons_of_mem _ (List.mem_append_right _ (h))
  have L12 : ∀ (n : Nat) (v1 : Int32) (v2 : Int32) (r' : Int32) (ls : Array Slot), fX1_inTrickSet_L12 n v1 v2 M = some r' → lv_has ls 3 [(0, .ref (ad 0)), (1, .int v1), (2, .int v2)] → (∀ (ls : Array Slot), lv_has ls 3 [(0, .ref (ad 0)), (1, .int (r'))] → W p l e rmX1_inTrickSet s m args below meth c s.heap [] 0 0 Q (F0 m 36 ls [])) → W p l e rmX1_inTrickSet s m args below meth c s.heap [] 0 0 Q (F0 m 12 ls []) := by
    intro n
    induction n with
    | zero => intro v1 v2 r' ls h hl kk; rw [fX1_inTrickSet_L12.eq_1] at h; cases h
    | succ n ih =>
      intro v1 v2 r' ls h hl kk
      rw [fX1_inTrickSet_L12.eq_2] at h
      refine lv_iload_n hx hb dX1_inTrickSet_12 rfl (lv_at hl 2 rfl) ?_
      refine lv_aload_n hx hb dX1_inTrickSet_13 rfl (lv_at hl 0 rfl) ?_
      refine gX1_laidCount S5 hin hK hP (List.mem_of_getElem? (i := 1) rfl) (v := M 0 7) rfl dX1_inTrickSet_14 ?_
      refine lv_icmp_ge (tgt := 36) hx hb dX1_inTrickSet_17 (by decide) (fun c2 => ?_) (fun c2 => ?_)
      · rw [if_pos c2] at h
        obtain rfl := Option.some.inj h
        exact kk _ (lv_sub hl [0, 1] rfl)
      · rw [if_neg c2] at h
        refine lv_iload_n hx hb dX1_inTrickSet_20 rfl (lv_at hl 1 rfl) ?_
        refine lv_iconst (v := 1) hx hb dX1_inTrickSet_21 (by decide) ?_
        refine lv_aload_n hx hb dX1_inTrickSet_22 rfl (lv_at hl 0 rfl) ?_
        refine lv_iload_n hx hb dX1_inTrickSet_23 rfl (lv_at hl 2 rfl) ?_
        refine cVX S5 hK hP 0 rfl rfl (As := [.int v2]) (kX1_laidAt l D cA ad _ _) (cwV 1 hts gX1_inTrickSet_X1_laidAt rfl rfl rfl (by decide +kernel) ⟨(Nat.le_of_ble_eq_true rfl), (Nat.le_of_ble_eq_true rfl)⟩) rfl hl.1 (st0 := _) (rest := [.int 1, .int v1]) rfl (Nat.le_of_ble_eq_true rfl) dX1_inTrickSet_24 ⟨Nat.zero_le _, Nat.zero_le _⟩ ?_
        refine r_ishl S5 dX1_inTrickSet_27 ?_
        refine lv_ior hx hb dX1_inTrickSet_28 ?_
        refine lv_istore_n (lv' := [(1, .int (v1 ||| (sl 1 (fX1_laidAt v2 M)))), (0, .ref (ad 0)), (2, .int v2)]) hx hb dX1_inTrickSet_29 rfl hl (by decide) rfl (fun ls hl => ?_)
        refine lv_iinc (v := v2 + 1) (lv' := [(2, .int (v2 + 1)), (1, .int (v1 ||| (sl 1 (fX1_laidAt v2 M)))), (0, .ref (ad 0))]) hx hb dX1_inTrickSet_30 hl (k := 2) rfl rfl (by decide) rfl (fun ls hl => ?_)
        refine lv_goto (tgt := 12) hx hb dX1_inTrickSet_33 (by decide) ?_
        exact ih _ _ _ _ h (lv_sub hl [2, 1, 0] rfl) kk
  refine lv_iconst (v := 0) hx hb dX1_inTrickSet_0 (by decide) ?_
  refine lv_istore_n (lv' := [(1, .int 0), (0, .ref (ad 0))]) hx hb dX1_inTrickSet_1 rfl hl (by decide) rfl (fun ls hl => ?_)
  refine lv_aload_n hx hb dX1_inTrickSet_2 rfl (lv_at hl 1 rfl) ?_
  refine gX1_laidCount S5 hin hK hP (List.mem_of_getElem? (i := 1) rfl) (v := M 0 7) rfl dX1_inTrickSet_3 ?_
  refine lv_aload_n hx hb dX1_inTrickSet_6 rfl (lv_at hl 1 rfl) ?_
  refine cVX S5 hK hP 0 rfl rfl (As := []) (kX1_trickSize l D cA ad _) (cwV 0 hts gX1_inTrickSet_X1_trickSize rfl rfl rfl (by decide +kernel) ⟨(Nat.le_of_ble_eq_true rfl), (Nat.le_of_ble_eq_true rfl)⟩) rfl hl.1 (st0 := _) (rest := [.int (M 0 7)]) rfl (Nat.le_of_ble_eq_true rfl) dX1_inTrickSet_7 ⟨Nat.zero_le _, Nat.zero_le _⟩ ?_
  refine lv_isub hx hb dX1_inTrickSet_10 ?_
  refine lv_istore_n (lv' := [(2, .int ((M 0 7) - (fX1_trickSize M))), (1, .int 0), (0, .ref (ad 0))]) hx hb dX1_inTrickSet_11 rfl hl (by decide) rfl (fun ls hl => ?_)
  obtain ⟨q1, hqq1, h⟩ := obind_some h
  refine L12 _ _ _ _ _ hqq1 (lv_sub hl [2, 1, 0] rfl) (fun ls hl => ?_)
  have hl := lv_sub (l' := [(1, .int q1)]) hl [1] rfl
  refine lv_iload_n hx hb dX1_inTrickSet_36 rfl (lv_at hl 0 rfl) ?_
  obtain rfl := Option.some.inj h
  exact kr _ _ _ rfl rfl dX1_inTrickSet_37

-- X1_out
def fX1_out (M : Mem) : Option (Int32) := (obind (fX1_inTrickSet M) (fun q1 => some (16777215 &&& (((fX1_inHands M) ||| q1) ^^^ ((-1))))))
def rmX1_out : Room := { frames := 2, cells := 0, slots := 0, locals := 43 }
set_option maxHeartbeats 4000000 in
set_option maxRecDepth 100000 in
theorem kX1_out (l : Launch) (D : va_G) (cA : Nat) (ad : Nat → Nat) (M : Mem) (r : Int32) (h : fX1_out M = some r) : RdX l yX1_out wsX1_out rmX1_out D cA ad M [.ref (ad 0)] r := by
  unfold fX1_out at h
  refine RdX.of RX1 rfl rfl rfl (Nat.le_of_ble_eq_true rfl) ?_
  intro p e s m args below meth c Q ls S5 hK hP hl kr
  obtain ⟨hx, hb, -, -, hts⟩ := id S5
  have hin : ∀ w ∈ wsX10, w ∈ wsX1_out := fun _ h => List.mem_cons_of_mem _ (List.mem_append_right _ (h))
  refine r_ldc (v := 16777215) S5 (List.mem_of_getElem? (i := 1) rfl) dX1_out_0 ?_
  refine lv_aload_n hx hb dX1_out_2 rfl (lv_at hl 0 rfl) ?_
  refine cVX S5 hK hP 0 rfl rfl (As := []) (kX1_inHands l D cA ad _) (cwV 0 hts gX1_out_X1_inHands rfl rfl rfl (by decide +kernel) ⟨(Nat.le_of_ble_eq_true rfl), (Nat.le_of_ble_eq_true rfl)⟩) rfl hl.1 (st0 := _) (rest := [.int 16777215]) rfl (Nat.le_of_ble_eq_true rfl) dX1_out_3 ⟨Nat.zero_le _, Nat.zero_le _⟩ ?_
  refine lv_aload_n hx hb dX1_out_6 rfl (lv_at hl 0 rfl) ?_
  obtain ⟨q1, hqq1, h⟩ := obind_some h
  refine cVX S5 hK hP 0 rfl rfl (As := []) (kX1_inTrickSet l D cA ad _ _ hqq1) (cwV 0 hts gX1_out_X1_inTrickSet rfl rfl rfl (by decide +kernel) ⟨(Nat.le_of_ble_eq_true rfl), (Nat.le_of_ble_eq_true rfl)⟩) rfl hl.1 (st0 := _) (rest := [.int (fX1_inHands M), .int 16777215]) rfl (Nat.le_of_ble_eq_true rfl) dX1_out_7 ⟨Nat.zero_le _, Nat.zero_le _⟩ ?_
  refine lv_ior hx hb dX1_out_10 ?_
  refine lv_iconst (v := (-1)) hx hb dX1_out_11 (by decide) ?_
  refine lv_ixor hx hb dX1_out_12 ?_
  refine lv_iand hx hb dX1_out_13 ?_
  obtain rfl := Option.some.inj h
  exact kr _ _ _ rfl rfl dX1_out_14

-- X1_ownerOf
def fX1_ownerOf (p1 : Int32) (M : Mem) : Int32 := (if (fX0_holds (M 1 0) p1) = 0 then (if (fX0_holds (M 1 1) p1) = 0 then (if (fX0_holds (M 1 2) p1) = 0 then (if (fX0_holds (M 1 3) p1) = 0 then ((-1)) else (3)) else (2)) else (1)) else (0))
def rmX1_ownerOf : Room := { frames := 1, cells := 0, slots := 0, locals := 21 }
set_option maxHeartbeats 4000000 in
set_option maxRecDepth 100000 in
theorem kX1_ownerOf (l : Launch) (D : va_G) (cA : Nat) (ad : Nat → Nat) (p1 : Int32) (M : Mem) : RdX l yX1_ownerOf wsX1_ownerOf rmX1_ownerOf D cA ad M [.ref (ad 0), .int p1] (fX1_ownerOf p1 M) := by
  obtain ⟨r, h⟩ : ∃ r, fX1_ownerOf p1 M = r := ⟨_, rfl⟩
  rw [h]
  unfold fX1_ownerOf at h
  refine RdX.of RX1 rfl rfl rfl (Nat.le_of_ble_eq_true rfl) ?_
  intro p e s m args below meth c Q ls S5 hK hP hl kr
  obtain ⟨hx, hb, -, -, hts⟩ := id S5
  have hin : ∀ w ∈ wsX10, w ∈ wsX1_ownerOf := fun _ h => List.mem_cons_of_mem _ (List.mem_append_right _ (h))
  refine lv_iconst (v := 0) hx hb dX1_ownerOf_0 (by decide) ?_
  refine lv_istore_n (lv' := [(2, .int 0), (0, .ref (ad 0)), (1, .int p1)]) hx hb dX1_ownerOf_1 rfl hl (by decide) rfl (fun ls hl => ?_)
  refine lv_iload_n hx hb dX1_ownerOf_2 rfl (lv_at hl 0 rfl) ?_
  refine lv_aload_n hx hb dX1_ownerOf_3 rfl (lv_at hl 1 rfl) ?_
  refine gX1_hands S5 hin hK hP (List.mem_of_getElem? (i := 1) rfl) dX1_ownerOf_4 ?_
  refine anX1 S5 hK hP dX1_ownerOf_7 ?_
  refine lv_icmp_ge (tgt := 32) hx hb dX1_ownerOf_8 (by decide) (fun c1 => absurd c1 (by decide)) (fun c1 => ?_)
  refine lv_aload_n hx hb dX1_ownerOf_11 rfl (lv_at hl 1 rfl) ?_
  refine gX1_hands S5 hin hK hP (List.mem_of_getElem? (i := 1) rfl) dX1_ownerOf_12 ?_
  refine lv_iload_n hx hb dX1_ownerOf_15 rfl (lv_at hl 0 rfl) ?_
  refine alX1 S5 hK hP (v := M 1 0) (by decide) rfl dX1_ownerOf_16 ?_
  refine lv_iload_n hx hb dX1_ownerOf_17 rfl (lv_at hl 2 rfl) ?_
  refine cS S5 (As := [.int (M 1 0), .int p1]) (kX0_holds l _ _) (va_cwS 2 hts gX1_ownerOf_X0_holds rfl rfl rfl (by decide +kernel) ⟨(Nat.le_of_ble_eq_true rfl), (Nat.le_of_ble_eq_true rfl)⟩) rfl hl.1 (st0 := _) (rest := []) rfl (Nat.le_of_ble_eq_true rfl) dX1_ownerOf_18 ⟨Nat.zero_le _, Nat.zero_le _⟩ ?_
  refine lv_if_eq (tgt := 26) hx hb dX1_ownerOf_21 (by decide) (fun c2 => ?_) (fun c2 => ?_)
  · rw [if_pos c2] at h
    refine lv_iinc (v := 1) (lv' := [(2, .int 1), (0, .ref (ad 0)), (1, .int p1)]) hx hb dX1_ownerOf_26 hl (k := 0) rfl rfl (by decide) rfl (fun ls hl => ?_)
    refine lv_goto (tgt := 2) hx hb dX1_ownerOf_29 (by decide) ?_
    refine lv_iload_n hx hb dX1_ownerOf_2 rfl (lv_at hl 0 rfl) ?_
    refine lv_aload_n hx hb dX1_ownerOf_3 rfl (lv_at hl 1 rfl) ?_
    refine gX1_hands S5 hin hK hP (List.mem_of_getElem? (i := 1) rfl) dX1_ownerOf_4 ?_
    refine anX1 S5 hK hP dX1_ownerOf_7 ?_
    refine lv_icmp_ge (tgt := 32) hx hb dX1_ownerOf_8 (by decide) (fun c3 => absurd c3 (by decide)) (fun c3 => ?_)
    refine lv_aload_n hx hb dX1_ownerOf_11 rfl (lv_at hl 1 rfl) ?_
    refine gX1_hands S5 hin hK hP (List.mem_of_getElem? (i := 1) rfl) dX1_ownerOf_12 ?_
    refine lv_iload_n hx hb dX1_ownerOf_15 rfl (lv_at hl 0 rfl) ?_
    refine alX1 S5 hK hP (v := M 1 1) (by decide) rfl dX1_ownerOf_16 ?_
    refine lv_iload_n hx hb dX1_ownerOf_17 rfl (lv_at hl 2 rfl) ?_
    refine cS S5 (As := [.int (M 1 1), .int p1]) (kX0_holds l _ _) (va_cwS 2 hts gX1_ownerOf_X0_holds rfl rfl rfl (by decide +kernel) ⟨(Nat.le_of_ble_eq_true rfl), (Nat.le_of_ble_eq_true rfl)⟩) rfl hl.1 (st0 := _) (rest := []) rfl (Nat.le_of_ble_eq_true rfl) dX1_ownerOf_18 ⟨Nat.zero_le _, Nat.zero_le _⟩ ?_
    refine lv_if_eq (tgt := 26) hx hb dX1_ownerOf_21 (by decide) (fun c4 => ?_) (fun c4 => ?_)
    · rw [if_pos c4] at h
      refine lv_iinc (v := 2) (lv' := [(2, .int 2), (0, .ref (ad 0)), (1, .int p1)]) hx hb dX1_ownerOf_26 hl (k := 0) rfl rfl (by decide) rfl (fun ls hl => ?_)
      refine lv_goto (tgt := 2) hx hb dX1_ownerOf_29 (by decide) ?_
      refine lv_iload_n hx hb dX1_ownerOf_2 rfl (lv_at hl 0 rfl) ?_
      refine lv_aload_n hx hb dX1_ownerOf_3 rfl (lv_at hl 1 rfl) ?_
      refine gX1_hands S5 hin hK hP (List.mem_of_getElem? (i := 1) rfl) dX1_ownerOf_4 ?_
      refine anX1 S5 hK hP dX1_ownerOf_7 ?_
      refine lv_icmp_ge (tgt := 32) hx hb dX1_ownerOf_8 (by decide) (fun c5 => absurd c5 (by decide)) (fun c5 => ?_)
      refine lv_aload_n hx hb dX1_ownerOf_11 rfl (lv_at hl 1 rfl) ?_
      refine gX1_hands S5 hin hK hP (List.mem_of_getElem? (i := 1) rfl) dX1_ownerOf_12 ?_
      refine lv_iload_n hx hb dX1_ownerOf_15 rfl (lv_at hl 0 rfl) ?_
      refine alX1 S5 hK hP (v := M 1 2) (by decide) rfl dX1_ownerOf_16 ?_
      refine lv_iload_n hx hb dX1_ownerOf_17 rfl (lv_at hl 2 rfl) ?_
      refine cS S5 (As := [.int (M 1 2), .int p1]) (kX0_holds l _ _) (va_cwS 2 hts gX1_ownerOf_X0_holds rfl rfl rfl (by decide +kernel) ⟨(Nat.le_of_ble_eq_true rfl), (Nat.le_of_ble_eq_true rfl)⟩) rfl hl.1 (st0 := _) (rest := []) rfl (Nat.le_of_ble_eq_true rfl) dX1_ownerOf_18 ⟨Nat.zero_le _, Nat.zero_le _⟩ ?_
      refine lv_if_eq (tgt := 26) hx hb dX1_ownerOf_21 (by decide) (fun c6 => ?_) (fun c6 => ?_)
      · rw [if_pos c6] at h
        refine lv_iinc (v := 3) (lv' := [(2, .int 3), (0, .ref (ad 0)), (1, .int p1)]) hx hb dX1_ownerOf_26 hl (k := 0) rfl rfl (by decide) rfl (fun ls hl => ?_)
        refine lv_goto (tgt := 2) hx hb dX1_ownerOf_29 (by decide) ?_
        refine lv_iload_n hx hb dX1_ownerOf_2 rfl (lv_at hl 0 rfl) ?_
        refine lv_aload_n hx hb dX1_ownerOf_3 rfl (lv_at hl 1 rfl) ?_
        refine gX1_hands S5 hin hK hP (List.mem_of_getElem? (i := 1) rfl) dX1_ownerOf_4 ?_
        refine anX1 S5 hK hP dX1_ownerOf_7 ?_
        refine lv_icmp_ge (tgt := 32) hx hb dX1_ownerOf_8 (by decide) (fun c7 => absurd c7 (by decide)) (fun c7 => ?_)
        refine lv_aload_n hx hb dX1_ownerOf_11 rfl (lv_at hl 1 rfl) ?_
        refine gX1_hands S5 hin hK hP (List.mem_of_getElem? (i := 1) rfl) dX1_ownerOf_12 ?_
        refine lv_iload_n hx hb dX1_ownerOf_15 rfl (lv_at hl 0 rfl) ?_
        refine alX1 S5 hK hP (v := M 1 3) (by decide) rfl dX1_ownerOf_16 ?_
        refine lv_iload_n hx hb dX1_ownerOf_17 rfl (lv_at hl 2 rfl) ?_
        refine cS S5 (As := [.int (M 1 3), .int p1]) (kX0_holds l _ _) (va_cwS 2 hts gX1_ownerOf_X0_holds rfl rfl rfl (by decide +kernel) ⟨(Nat.le_of_ble_eq_true rfl), (Nat.le_of_ble_eq_true rfl)⟩) rfl hl.1 (st0 := _) (rest := []) rfl (Nat.le_of_ble_eq_true rfl) dX1_ownerOf_18 ⟨Nat.zero_le _, Nat.zero_le _⟩ ?_
        refine lv_if_eq (tgt := 26) hx hb dX1_ownerOf_21 (by decide) (fun c8 => ?_) (fun c8 => ?_)
        · rw [if_pos c8] at h
          refine lv_iinc (v := 4) (lv' := [(2, .int 4), (0, .ref (ad 0)), (1, .int p1)]) hx hb dX1_ownerOf_26 hl (k := 0) rfl rfl (by decide) rfl (fun ls hl => ?_)
          refine lv_goto (tgt := 2) hx hb dX1_ownerOf_29 (by decide) ?_
          refine lv_iload_n hx hb dX1_ownerOf_2 rfl (lv_at hl 0 rfl) ?_
          refine lv_aload_n hx hb dX1_ownerOf_3 rfl (lv_at hl 1 rfl) ?_
          refine gX1_hands S5 hin hK hP (List.mem_of_getElem? (i := 1) rfl) dX1_ownerOf_4 ?_
          refine anX1 S5 hK hP dX1_ownerOf_7 ?_
          refine lv_icmp_ge (tgt := 32) hx hb dX1_ownerOf_8 (by decide) (fun c9 => ?_) (fun c9 => absurd c9 (by decide))
          refine lv_iconst (v := (-1)) hx hb dX1_ownerOf_32 (by decide) ?_
          subst h
          exact kr _ _ _ rfl rfl dX1_ownerOf_33
        · rw [if_neg c8] at h
          refine lv_iload_n hx hb dX1_ownerOf_24 rfl (lv_at hl 0 rfl) ?_
          subst h
          exact kr _ _ _ rfl rfl dX1_ownerOf_25
      · rw [if_neg c6] at h
        refine lv_iload_n hx hb dX1_ownerOf_24 rfl (lv_at hl 0 rfl) ?_
        subst h
        exact kr _ _ _ rfl rfl dX1_ownerOf_25
    · rw [if_neg c4] at h
      refine lv_iload_n hx hb dX1_ownerOf_24 rfl (lv_at hl 0 rfl) ?_
      subst h
      exact kr _ _ _ rfl rfl dX1_ownerOf_25
  · rw [if_neg c2] at h
    refine lv_iload_n hx hb dX1_ownerOf_24 rfl (lv_at hl 0 rfl) ?_
    subst h
    exact kr _ _ _ rfl rfl dX1_ownerOf_25

-- X1_betweenTricks
def fX1_betweenTricks (M : Mem) : Int32 := ((fX1_inHands M) ||| (sl (fX1_leaderOf (fX1_tricksOver M) M) 24))
def rmX1_betweenTricks : Room := { frames := 1, cells := 0, slots := 0, locals := 22 }
set_option maxHeartbeats 4000000 in
set_option maxRecDepth 100000 in
theorem kX1_betweenTricks (l : Launch) (D : va_G) (cA : Nat) (ad : Nat → Nat) (M : Mem) : RdX l yX1_betweenTricks wsX1_betweenTricks rmX1_betweenTricks D cA ad M [.ref (ad 0)] (fX1_betweenTricks M) := by
  obtain ⟨r, h⟩ : ∃ r, fX1_betweenTricks M = r := ⟨_, rfl⟩
  rw [h]
  unfold fX1_betweenTricks at h
  refine RdX.of RX1 rfl rfl rfl (Nat.le_of_ble_eq_true rfl) ?_
  intro p e s m args below meth c Q ls S5 hK hP hl kr
  obtain ⟨hx, hb, -, -, hts⟩ := id S5
  have hin : ∀ w ∈ wsX10, w ∈ wsX1_betweenTricks := fun _ h => List.mem_cons_of_mem _ (List.mem_append_right _ (h))
  refine lv_aload_n hx hb dX1_betweenTricks_0 rfl (lv_at hl 0 rfl) ?_
  refine cVX S5 hK hP 0 rfl rfl (As := []) (kX1_inHands l D cA ad _) (cwV 0 hts gX1_betweenTricks_X1_inHands rfl rfl rfl (by decide +kernel) ⟨(Nat.le_of_ble_eq_true rfl), (Nat.le_of_ble_eq_true rfl)⟩) rfl hl.1 (st0 := _) (rest := []) rfl (Nat.le_of_ble_eq_true rfl) dX1_betweenTricks_1 ⟨Nat.zero_le _, Nat.zero_le _⟩ ?_
  refine lv_aload_n hx hb dX1_betweenTricks_4 rfl (lv_at hl 0 rfl) ?_
  refine lv_aload_n hx hb dX1_betweenTricks_5 rfl (lv_at hl 0 rfl) ?_
  refine cVX S5 hK hP 0 rfl rfl (As := []) (kX1_tricksOver l D cA ad _) (cwV 0 hts gX1_betweenTricks_X1_tricksOver rfl rfl rfl (by decide +kernel) ⟨(Nat.le_of_ble_eq_true rfl), (Nat.le_of_ble_eq_true rfl)⟩) rfl hl.1 (st0 := _) (rest := [.ref (ad 0), .int (fX1_inHands M)]) rfl (Nat.le_of_ble_eq_true rfl) dX1_betweenTricks_6 ⟨Nat.zero_le _, Nat.zero_le _⟩ ?_
  refine cVX S5 hK hP 0 rfl rfl (As := [.int (fX1_tricksOver M)]) (kX1_leaderOf l D cA ad _ _) (cwV 1 hts gX1_betweenTricks_X1_leaderOf rfl rfl rfl (by decide +kernel) ⟨(Nat.le_of_ble_eq_true rfl), (Nat.le_of_ble_eq_true rfl)⟩) rfl hl.1 (st0 := _) (rest := [.int (fX1_inHands M)]) rfl (Nat.le_of_ble_eq_true rfl) dX1_betweenTricks_9 ⟨Nat.zero_le _, Nat.zero_le _⟩ ?_
  refine lv_bipush (v := 24) hx hb dX1_betweenTricks_12 (by decide) ?_
  refine r_ishl S5 dX1_betweenTricks_14 ?_
  refine lv_ior hx hb dX1_betweenTricks_15 ?_
  subst h
  exact kr _ _ _ rfl rfl dX1_betweenTricks_16

-- X1_clearFor
def fX1_clearFor (p1 : Int32) (M : Mem) : Int32 × Mem := (M 0 3, (mset (mset (mset (mset (mset (mset (mset (mset (mset M 0 3 p1) 1 0 0) 1 1 0) 1 2 0) 1 3 0) 0 4 0) 0 5 0) 0 6 0) 0 7 0))
def rmX1_clearFor : Room := { frames := 0, cells := 0, slots := 0, locals := 0 }
set_option maxHeartbeats 4000000 in
set_option maxRecDepth 100000 in
theorem kX1_clearFor (l : Launch) (D : va_G) (cA : Nat) (ad : Nat → Nat) (p1 : Int32) (M : Mem) : WiX l yX1_clearFor wsX1_clearFor rmX1_clearFor D cA ad M [.ref (ad 0), .int p1] (fX1_clearFor p1 M) := by
  obtain ⟨r, h⟩ : ∃ r, fX1_clearFor p1 M = r := ⟨_, rfl⟩
  rw [h]
  unfold fX1_clearFor at h
  refine WiX.of RX1 rfl rfl rfl (Nat.le_of_ble_eq_true rfl) ?_
  intro p e s m args below meth c Q ls A eA S5 hK hP hD hS hl kr
  have hA : ∀ (H : Heap) (q : Nat), s.heap.size ≤ H.size → AX ad H.size q → A q := fun H q hz h => by rw [eA]; exact AX.mono hz h
  obtain ⟨hx, hb, -, -, hts⟩ := id S5
  have hin : ∀ w ∈ wsX10, w ∈ wsX1_clearFor := fun _ h => List.mem_cons_of_mem _ (List.mem_append_right _ (h))
  refine lv_aload_n hx hb dX1_clearFor_0 rfl (lv_at hl 0 rfl) ?_
  refine gX1_trump S5 hin hK hP (List.mem_of_getElem? (i := 1) rfl) (v := M 0 3) rfl dX1_clearFor_1 ?_
  refine lv_istore_n (lv' := [(2, .int (M 0 3)), (0, .ref (ad 0)), (1, .int p1)]) hx hb dX1_clearFor_4 rfl hl (by decide) rfl (fun ls hl => ?_)
  refine lv_aload_n hx hb dX1_clearFor_5 rfl (lv_at hl 1 rfl) ?_
  refine lv_iload_n hx hb dX1_clearFor_6 rfl (lv_at hl 2 rfl) ?_
  refine pX1_trump S5 hin hK hP hD hS (List.mem_of_getElem? (i := 1) rfl) dX1_clearFor_7 (fun H locs hP hS => ?_)
  refine lv_iconst (v := 0) hx hb dX1_clearFor_10 (by decide) ?_
  refine lv_istore_n (lv' := [(3, .int 0), (2, .int (M 0 3)), (0, .ref (ad 0)), (1, .int p1)]) hx hb dX1_clearFor_11 rfl hl (by decide) rfl (fun ls hl => ?_)
  refine lv_iload_n hx hb dX1_clearFor_12 rfl (lv_at hl 0 rfl) ?_
  refine lv_aload_n hx hb dX1_clearFor_13 rfl (lv_at hl 2 rfl) ?_
  refine gX1_hands S5 hin hK hP (List.mem_of_getElem? (i := 2) rfl) dX1_clearFor_14 ?_
  refine anX1 S5 hK hP dX1_clearFor_17 ?_
  refine lv_icmp_ge (tgt := 34) hx hb dX1_clearFor_18 (by decide) (fun c1 => absurd c1 (by decide)) (fun c1 => ?_)
  refine lv_aload_n hx hb dX1_clearFor_21 rfl (lv_at hl 2 rfl) ?_
  refine gX1_hands S5 hin hK hP (List.mem_of_getElem? (i := 2) rfl) dX1_clearFor_22 ?_
  refine lv_iload_n hx hb dX1_clearFor_25 rfl (lv_at hl 0 rfl) ?_
  refine lv_iconst (v := 0) hx hb dX1_clearFor_26 (by decide) ?_
  refine asX1 S5 hK hP hD hS (by decide) (k := 0) rfl dX1_clearFor_27 (fun H locs hP hS => ?_)
  refine lv_iinc (v := 1) (lv' := [(3, .int 1), (2, .int (M 0 3)), (0, .ref (ad 0)), (1, .int p1)]) hx hb dX1_clearFor_28 hl (k := 0) rfl rfl (by decide) rfl (fun ls hl => ?_)
  refine lv_goto (tgt := 12) hx hb dX1_clearFor_31 (by decide) ?_
  refine lv_iload_n hx hb dX1_clearFor_12 rfl (lv_at hl 0 rfl) ?_
  refine lv_aload_n hx hb dX1_clearFor_13 rfl (lv_at hl 2 rfl) ?_
  refine gX1_hands S5 hin hK hP (List.mem_of_getElem? (i := 2) rfl) dX1_clearFor_14 ?_
  refine anX1 S5 hK hP dX1_clearFor_17 ?_
  refine lv_icmp_ge (tgt := 34) hx hb dX1_clearFor_18 (by decide) (fun c2 => absurd c2 (by decide)) (fun c2 => ?_)
  refine lv_aload_n hx hb dX1_clearFor_21 rfl (lv_at hl 2 rfl) ?_
  refine gX1_hands S5 hin hK hP (List.mem_of_getElem? (i := 2) rfl) dX1_clearFor_22 ?_
  refine lv_iload_n hx hb dX1_clearFor_25 rfl (lv_at hl 0 rfl) ?_
  refine lv_iconst (v := 0) hx hb dX1_clearFor_26 (by decide) ?_
  refine asX1 S5 hK hP hD hS (by decide) (k := 1) rfl dX1_clearFor_27 (fun H locs hP hS => ?_)
  refine lv_iinc (v := 2) (lv' := [(3, .int 2), (2, .int (M 0 3)), (0, .ref (ad 0)), (1, .int p1)]) hx hb dX1_clearFor_28 hl (k := 0) rfl rfl (by decide) rfl (fun ls hl => ?_)
  refine lv_goto (tgt := 12) hx hb dX1_clearFor_31 (by decide) ?_
  refine lv_iload_n hx hb dX1_clearFor_12 rfl (lv_at hl 0 rfl) ?_
  refine lv_aload_n hx hb dX1_clearFor_13 rfl (lv_at hl 2 rfl) ?_
  refine gX1_hands S5 hin hK hP (List.mem_of_getElem? (i := 2) rfl) dX1_clearFor_14 ?_
  refine anX1 S5 hK hP dX1_clearFor_17 ?_
  refine lv_icmp_ge (tgt := 34) hx hb dX1_clearFor_18 (by decide) (fun c3 => absurd c3 (by decide)) (fun c3 => ?_)
  refine lv_aload_n hx hb dX1_clearFor_21 rfl (lv_at hl 2 rfl) ?_
  refine gX1_hands S5 hin hK hP (List.mem_of_getElem? (i := 2) rfl) dX1_clearFor_22 ?_
  refine lv_iload_n hx hb dX1_clearFor_25 rfl (lv_at hl 0 rfl) ?_
  refine lv_iconst (v := 0) hx hb dX1_clearFor_26 (by decide) ?_
  refine asX1 S5 hK hP hD hS (by decide) (k := 2) rfl dX1_clearFor_27 (fun H locs hP hS => ?_)
  refine lv_iinc (v := 3) (lv' := [(3, .int 3), (2, .int (M 0 3)), (0, .ref (ad 0)), (1, .int p1)]) hx hb dX1_clearFor_28 hl (k := 0) rfl rfl (by decide) rfl (fun ls hl => ?_)
  refine lv_goto (tgt := 12) hx hb dX1_clearFor_31 (by decide) ?_
  refine lv_iload_n hx hb dX1_clearFor_12 rfl (lv_at hl 0 rfl) ?_
  refine lv_aload_n hx hb dX1_clearFor_13 rfl (lv_at hl 2 rfl) ?_
  refine gX1_hands S5 hin hK hP (List.mem_of_getElem? (i := 2) rfl) dX1_clearFor_14 ?_
  refine anX1 S5 hK hP dX1_clearFor_17 ?_
  refine lv_icmp_ge (tgt := 34) hx hb dX1_clearFor_18 (by decide) (fun c4 => absurd c4 (by decide)) (fun c4 => ?_)
  refine lv_aload_n hx hb dX1_clearFor_21 rfl (lv_at hl 2 rfl) ?_
  refine gX1_hands S5 hin hK hP (List.mem_of_getElem? (i := 2) rfl) dX1_clearFor_22 ?_
  refine lv_iload_n hx hb dX1_clearFor_25 rfl (lv_at hl 0 rfl) ?_
  refine lv_iconst (v := 0) hx hb dX1_clearFor_26 (by decide) ?_
  refine asX1 S5 hK hP hD hS (by decide) (k := 3) rfl dX1_clearFor_27 (fun H locs hP hS => ?_)
  refine lv_iinc (v := 4) (lv' := [(3, .int 4), (2, .int (M 0 3)), (0, .ref (ad 0)), (1, .int p1)]) hx hb dX1_clearFor_28 hl (k := 0) rfl rfl (by decide) rfl (fun ls hl => ?_)
  refine lv_goto (tgt := 12) hx hb dX1_clearFor_31 (by decide) ?_
  refine lv_iload_n hx hb dX1_clearFor_12 rfl (lv_at hl 0 rfl) ?_
  refine lv_aload_n hx hb dX1_clearFor_13 rfl (lv_at hl 2 rfl) ?_
  refine gX1_hands S5 hin hK hP (List.mem_of_getElem? (i := 2) rfl) dX1_clearFor_14 ?_
  refine anX1 S5 hK hP dX1_clearFor_17 ?_
  refine lv_icmp_ge (tgt := 34) hx hb dX1_clearFor_18 (by decide) (fun c5 => ?_) (fun c5 => absurd c5 (by decide))
  refine lv_aload_n hx hb dX1_clearFor_34 rfl (lv_at hl 2 rfl) ?_
  refine lv_iconst (v := 0) hx hb dX1_clearFor_35 (by decide) ?_
  refine pX1_given S5 hin hK hP hD hS (List.mem_of_getElem? (i := 3) rfl) dX1_clearFor_36 (fun H locs hP hS => ?_)
  refine lv_aload_n hx hb dX1_clearFor_39 rfl (lv_at hl 2 rfl) ?_
  refine lv_iconst (v := 0) hx hb dX1_clearFor_40 (by decide) ?_
  refine pX1_open S5 hin hK hP hD hS (List.mem_of_getElem? (i := 4) rfl) rfl rfl dX1_clearFor_41 (fun H locs hP hS => ?_)
  refine lv_aload_n hx hb dX1_clearFor_44 rfl (lv_at hl 2 rfl) ?_
  refine lv_iconst (v := 0) hx hb dX1_clearFor_45 (by decide) ?_
  refine pX1_tricks S5 hin hK hP hD hS (List.mem_of_getElem? (i := 5) rfl) dX1_clearFor_46 (fun H locs hP hS => ?_)
  refine lv_aload_n hx hb dX1_clearFor_49 rfl (lv_at hl 2 rfl) ?_
  refine lv_iconst (v := 0) hx hb dX1_clearFor_50 (by decide) ?_
  refine pX1_laidCount S5 hin hK hP hD hS (List.mem_of_getElem? (i := 6) rfl) dX1_clearFor_51 (fun H locs hP hS => ?_)
  refine lv_iload_n hx hb dX1_clearFor_54 rfl (lv_at hl 1 rfl) ?_
  subst h
  exact kr _ _ _ _ _ rfl rfl hP hS dX1_clearFor_55

-- X1_canDeal
def fX1_canDeal (p1 : Int32) (p2 : Int32) (M : Mem) : Int32 := (if (M 0 5) = 0 then (if (fX0_holds (M 0 4) p2) = 0 then (if 4 ≤ (fJ6_bitCount_0f7a4 (fX1_handOf p1 M)) then (0) else (1)) else (0)) else (0))
def rmX1_canDeal : Room := { frames := 1, cells := 0, slots := 0, locals := 21 }
set_option maxHeartbeats 4000000 in
set_option maxRecDepth 100000 in
theorem kX1_canDeal (l : Launch) (D : va_G) (cA : Nat) (ad : Nat → Nat) (p1 : Int32) (p2 : Int32) (M : Mem) : RdX l yX1_canDeal wsX1_canDeal rmX1_canDeal D cA ad M [.ref (ad 0), .int p1, .int p2] (fX1_canDeal p1 p2 M) := by
  obtain ⟨r, h⟩ : ∃ r, fX1_canDeal p1 p2 M = r := ⟨_, rfl⟩
  rw [h]
  unfold fX1_canDeal at h
  refine RdX.of RX1 rfl rfl rfl (Nat.le_of_ble_eq_true rfl) ?_
  intro p e s m args below meth c Q ls S5 hK hP hl kr
  obtain ⟨hx, hb, -, -, hts⟩ := id S5
  have hin : ∀ w ∈ wsX10, w ∈ wsX1_canDeal := fun _ h => List.mem_cons_of_mem _ (List.mem_append_right _ (h))
  refine lv_aload_n hx hb dX1_canDeal_0 rfl (lv_at hl 0 rfl) ?_
  refine gX1_open S5 hin hK hP (List.mem_of_getElem? (i := 1) rfl) (v := M 0 5) rfl dX1_canDeal_1 ?_
  refine lv_if_ne (tgt := 34) hx hb dX1_canDeal_4 (by decide) (fun c1 => ?_) (fun c1 => ?_)
  · rw [if_neg c1] at h
    refine lv_iconst (v := 0) hx hb dX1_canDeal_34 (by decide) ?_
    subst h
    exact kr _ _ _ rfl rfl dX1_canDeal_35
  · rw [if_pos c1] at h
    refine lv_aload_n hx hb dX1_canDeal_7 rfl (lv_at hl 0 rfl) ?_
    refine gX1_given S5 hin hK hP (List.mem_of_getElem? (i := 2) rfl) (v := M 0 4) rfl dX1_canDeal_8 ?_
    refine lv_iload_n hx hb dX1_canDeal_11 rfl (lv_at hl 2 rfl) ?_
    refine cS S5 (As := [.int (M 0 4), .int p2]) (kX0_holds l _ _) (va_cwS 2 hts gX1_canDeal_X0_holds rfl rfl rfl (by decide +kernel) ⟨(Nat.le_of_ble_eq_true rfl), (Nat.le_of_ble_eq_true rfl)⟩) rfl hl.1 (st0 := _) (rest := []) rfl (Nat.le_of_ble_eq_true rfl) dX1_canDeal_12 ⟨Nat.zero_le _, Nat.zero_le _⟩ ?_
    refine lv_if_ne (tgt := 34) hx hb dX1_canDeal_15 (by decide) (fun c2 => ?_) (fun c2 => ?_)
    · rw [if_neg c2] at h
      refine lv_iconst (v := 0) hx hb dX1_canDeal_34 (by decide) ?_
      subst h
      exact kr _ _ _ rfl rfl dX1_canDeal_35
    · rw [if_pos c2] at h
      refine lv_aload_n hx hb dX1_canDeal_18 rfl (lv_at hl 0 rfl) ?_
      refine lv_iload_n hx hb dX1_canDeal_19 rfl (lv_at hl 1 rfl) ?_
      refine cVX S5 hK hP 0 rfl rfl (As := [.int p1]) (kX1_handOf l D cA ad _ _) (cwV 1 hts gX1_canDeal_X1_handOf rfl rfl rfl (by decide +kernel) ⟨(Nat.le_of_ble_eq_true rfl), (Nat.le_of_ble_eq_true rfl)⟩) rfl hl.1 (st0 := _) (rest := []) rfl (Nat.le_of_ble_eq_true rfl) dX1_canDeal_20 ⟨Nat.zero_le _, Nat.zero_le _⟩ ?_
      refine cS S5 (As := [.int (fX1_handOf p1 M)]) (kJ6_bitCount_0f7a4 l _) (va_cwS 1 hts gX1_canDeal_J6_bitCount_0f7a4 rfl rfl rfl (by decide +kernel) ⟨(Nat.le_of_ble_eq_true rfl), (Nat.le_of_ble_eq_true rfl)⟩) rfl hl.1 (st0 := _) (rest := []) rfl (Nat.le_of_ble_eq_true rfl) dX1_canDeal_23 ⟨Nat.zero_le _, Nat.zero_le _⟩ ?_
      refine lv_iconst (v := 4) hx hb dX1_canDeal_26 (by decide) ?_
      refine lv_icmp_ge (tgt := 34) hx hb dX1_canDeal_27 (by decide) (fun c3 => ?_) (fun c3 => ?_)
      · rw [if_pos c3] at h
        refine lv_iconst (v := 0) hx hb dX1_canDeal_34 (by decide) ?_
        subst h
        exact kr _ _ _ rfl rfl dX1_canDeal_35
      · rw [if_neg c3] at h
        refine lv_iconst (v := 1) hx hb dX1_canDeal_30 (by decide) ?_
        refine lv_goto (tgt := 35) hx hb dX1_canDeal_31 (by decide) ?_
        subst h
        exact kr _ _ _ rfl rfl dX1_canDeal_35

-- X1_deal
def fX1_deal (p1 : Int32) (p2 : Int32) (M : Mem) : Int32 × Mem := (fJ6_bitCount_0f7a4 (fX1_handOf p1 ((fX1_addTo p1 p2 ((mset M 0 4 ((M 0 4) ||| (sl 1 p2))))))), (fX1_addTo p1 p2 ((mset M 0 4 ((M 0 4) ||| (sl 1 p2))))))
def rmX1_deal : Room := { frames := 1, cells := 0, slots := 0, locals := 22 }
set_option maxHeartbeats 4000000 in
set_option maxRecDepth 100000 in
theorem kX1_deal (l : Launch) (D : va_G) (cA : Nat) (ad : Nat → Nat) (p1 : Int32) (p2 : Int32) (M : Mem) : WiX l yX1_deal wsX1_deal rmX1_deal D cA ad M [.ref (ad 0), .int p1, .int p2] (fX1_deal p1 p2 M) := by
  obtain ⟨r, h⟩ : ∃ r, fX1_deal p1 p2 M = r := ⟨_, rfl⟩
  rw [h]
  unfold fX1_deal at h
  refine WiX.of RX1 rfl rfl rfl (Nat.le_of_ble_eq_true rfl) ?_
  intro p e s m args below meth c Q ls A eA S5 hK hP hD hS hl kr
  have hA : ∀ (H : Heap) (q : Nat), s.heap.size ≤ H.size → AX ad H.size q → A q := fun H q hz h => by rw [eA]; exact AX.mono hz h
  obtain ⟨hx, hb, -, -, hts⟩ := id S5
  have hin : ∀ w ∈ wsX10, w ∈ wsX1_deal := fun _ h => List.mem_cons_of_mem _ (List.mem_append_right _ (h))
  refine lv_aload_n hx hb dX1_deal_0 rfl (lv_at hl 0 rfl) ?_
  refine lv_dup hx hb dX1_deal_1 rfl ?_
  refine gX1_given S5 hin hK hP (List.mem_of_getElem? (i := 1) rfl) (v := M 0 4) rfl dX1_deal_2 ?_
  refine lv_iconst (v := 1) hx hb dX1_deal_5 (by decide) ?_
  refine lv_iload_n hx hb dX1_deal_6 rfl (lv_at hl 2 rfl) ?_
  refine r_ishl S5 dX1_deal_7 ?_
  refine lv_ior hx hb dX1_deal_8 ?_
  refine pX1_given S5 hin hK hP hD hS (List.mem_of_getElem? (i := 1) rfl) dX1_deal_9 (fun H locs hP hS => ?_)
  refine lv_aload_n hx hb dX1_deal_12 rfl (lv_at hl 0 rfl) ?_
  refine lv_iload_n hx hb dX1_deal_13 rfl (lv_at hl 1 rfl) ?_
  refine lv_iload_n hx hb dX1_deal_14 rfl (lv_at hl 2 rfl) ?_
  refine cWvX S5 hK hP hD hS (fun _ h => hA _ _ hS.1 h) 0 rfl rfl (As := [.int p1, .int p2]) (kX1_addTo l D cA ad _ _ _) (cwV 2 hts gX1_deal_X1_addTo rfl rfl rfl (by decide +kernel) ⟨(Nat.le_of_ble_eq_true rfl), (Nat.le_of_ble_eq_true rfl)⟩) rfl hl.1 (st0 := _) (rest := []) rfl (Nat.le_of_ble_eq_true rfl) dX1_deal_15 ⟨Nat.zero_le _, Nat.zero_le _⟩ (fun H locs hz hP hS => ?_)
  refine lv_aload_n hx hb dX1_deal_18 rfl (lv_at hl 0 rfl) ?_
  refine lv_iload_n hx hb dX1_deal_19 rfl (lv_at hl 1 rfl) ?_
  refine cVX S5 hK hP 0 rfl rfl (As := [.int p1]) (kX1_handOf l D cA ad _ _) (cwV 1 hts gX1_deal_X1_handOf rfl rfl rfl (by decide +kernel) ⟨(Nat.le_of_ble_eq_true rfl), (Nat.le_of_ble_eq_true rfl)⟩) rfl hl.1 (st0 := _) (rest := []) rfl (Nat.le_of_ble_eq_true rfl) dX1_deal_20 ⟨Nat.zero_le _, Nat.zero_le _⟩ ?_
  refine cS S5 (As := [.int (fX1_handOf p1 ((fX1_addTo p1 p2 ((mset M 0 4 ((M 0 4) ||| (sl 1 p2)))))))]) (kJ6_bitCount_0f7a4 l _) (va_cwS 1 hts gX1_deal_J6_bitCount_0f7a4 rfl rfl rfl (by decide +kernel) ⟨(Nat.le_of_ble_eq_true rfl), (Nat.le_of_ble_eq_true rfl)⟩) rfl hl.1 (st0 := _) (rest := []) rfl (Nat.le_of_ble_eq_true rfl) dX1_deal_23 ⟨Nat.zero_le _, Nat.zero_le _⟩ ?_
  subst h
  exact kr _ _ _ _ _ rfl rfl hP hS dX1_deal_26

-- X1_canOpen
def fX1_canOpen (M : Mem) : Int32 := (if (M 0 5) = 0 then (if (fJ6_bitCount_0f7a4 (fX1_handOf 0 M)) = 0 then (0) else (if (fJ6_bitCount_0f7a4 (fX1_handOf 1 M)) = (fJ6_bitCount_0f7a4 (fX1_handOf 0 M)) then (if (fJ6_bitCount_0f7a4 (fX1_handOf 2 M)) = (fJ6_bitCount_0f7a4 (fX1_handOf 0 M)) then (if (fJ6_bitCount_0f7a4 (fX1_handOf 3 M)) = (fJ6_bitCount_0f7a4 (fX1_handOf 0 M)) then (1) else (0)) else (0)) else (0))) else (0))
def rmX1_canOpen : Room := { frames := 1, cells := 0, slots := 0, locals := 21 }
set_option maxHeartbeats 4000000 in
set_option maxRecDepth 100000 in
theorem kX1_canOpen (l : Launch) (D : va_G) (cA : Nat) (ad : Nat → Nat) (M : Mem) : RdX l yX1_canOpen wsX1_canOpen rmX1_canOpen D cA ad M [.ref (ad 0)] (fX1_canOpen M) := by
  obtain ⟨r, h⟩ : ∃ r, fX1_canOpen M = r := ⟨_, rfl⟩
  rw [h]
  unfold fX1_canOpen at h
  refine RdX.of RX1 rfl rfl rfl (Nat.le_of_ble_eq_true rfl) ?_
  intro p e s m args below meth c Q ls S5 hK hP hl kr
  obtain ⟨hx, hb, -, -, hts⟩ := id S5
  have hin : ∀ w ∈ wsX10, w ∈ wsX1_canOpen := fun _ h => List.mem_cons_of_mem _ (List.mem_append_right _ (h))
  refine lv_aload_n hx hb dX1_canOpen_0 rfl (lv_at hl 0 rfl) ?_
  refine lv_iconst (v := 0) hx hb dX1_canOpen_1 (by decide) ?_
  refine cVX S5 hK hP 0 rfl rfl (As := [.int 0]) (kX1_handOf l D cA ad _ _) (cwV 1 hts gX1_canOpen_X1_handOf rfl rfl rfl (by decide +kernel) ⟨(Nat.le_of_ble_eq_true rfl), (Nat.le_of_ble_eq_true rfl)⟩) rfl hl.1 (st0 := _) (rest := []) rfl (Nat.le_of_ble_eq_true rfl) dX1_canOpen_2 ⟨Nat.zero_le _, Nat.zero_le _⟩ ?_
  refine cS S5 (As := [.int (fX1_handOf 0 M)]) (kJ6_bitCount_0f7a4 l _) (va_cwS 1 hts gX1_canOpen_J6_bitCount_0f7a4 rfl rfl rfl (by decide +kernel) ⟨(Nat.le_of_ble_eq_true rfl), (Nat.le_of_ble_eq_true rfl)⟩) rfl hl.1 (st0 := _) (rest := []) rfl (Nat.le_of_ble_eq_true rfl) dX1_canOpen_5 ⟨Nat.zero_le _, Nat.zero_le _⟩ ?_
  refine lv_istore_n (lv' := [(1, .int (fJ6_bitCount_0f7a4 (fX1_handOf 0 M))), (0, .ref (ad 0))]) hx hb dX1_canOpen_8 rfl hl (by decide) rfl (fun ls hl => ?_)
  refine lv_aload_n hx hb dX1_canOpen_9 rfl (lv_at hl 1 rfl) ?_
  refine gX1_open S5 hin hK hP (List.mem_of_getElem? (i := 1) rfl) (v := M 0 5) rfl dX1_canOpen_10 ?_
  refine lv_if_ne (tgt := 20) hx hb dX1_canOpen_13 (by decide) (fun c1 => ?_) (fun c1 => ?_)
  · rw [if_neg c1] at h
    refine lv_iconst (v := 0) hx hb dX1_canOpen_20 (by decide) ?_
    subst h
    exact kr _ _ _ rfl rfl dX1_canOpen_21
  · rw [if_pos c1] at h
    refine lv_iload_n hx hb dX1_canOpen_16 rfl (lv_at hl 0 rfl) ?_
    refine lv_if_ne (tgt := 22) hx hb dX1_canOpen_17 (by decide) (fun c2 => ?_) (fun c2 => ?_)
    · rw [if_neg c2] at h
      refine lv_iconst (v := 1) hx hb dX1_canOpen_22 (by decide) ?_
      refine lv_istore_n (lv' := [(2, .int 1), (1, .int (fJ6_bitCount_0f7a4 (fX1_handOf 0 M))), (0, .ref (ad 0))]) hx hb dX1_canOpen_23 rfl hl (by decide) rfl (fun ls hl => ?_)
      refine lv_iload_n hx hb dX1_canOpen_24 rfl (lv_at hl 0 rfl) ?_
      refine lv_iconst (v := 4) hx hb dX1_canOpen_25 (by decide) ?_
      refine lv_icmp_ge (tgt := 49) hx hb dX1_canOpen_26 (by decide) (fun c3 => absurd c3 (by decide)) (fun c3 => ?_)
      refine lv_aload_n hx hb dX1_canOpen_29 rfl (lv_at hl 2 rfl) ?_
      refine lv_iload_n hx hb dX1_canOpen_30 rfl (lv_at hl 0 rfl) ?_
      refine cVX S5 hK hP 0 rfl rfl (As := [.int 1]) (kX1_handOf l D cA ad _ _) (cwV 1 hts gX1_canOpen_X1_handOf rfl rfl rfl (by decide +kernel) ⟨(Nat.le_of_ble_eq_true rfl), (Nat.le_of_ble_eq_true rfl)⟩) rfl hl.1 (st0 := _) (rest := []) rfl (Nat.le_of_ble_eq_true rfl) dX1_canOpen_31 ⟨Nat.zero_le _, Nat.zero_le _⟩ ?_
      refine cS S5 (As := [.int (fX1_handOf 1 M)]) (kJ6_bitCount_0f7a4 l _) (va_cwS 1 hts gX1_canOpen_J6_bitCount_0f7a4 rfl rfl rfl (by decide +kernel) ⟨(Nat.le_of_ble_eq_true rfl), (Nat.le_of_ble_eq_true rfl)⟩) rfl hl.1 (st0 := _) (rest := []) rfl (Nat.le_of_ble_eq_true rfl) dX1_canOpen_34 ⟨Nat.zero_le _, Nat.zero_le _⟩ ?_
      refine lv_iload_n hx hb dX1_canOpen_37 rfl (lv_at hl 1 rfl) ?_
      refine lv_icmp_eq (tgt := 43) hx hb dX1_canOpen_38 (by decide) (fun c4 => ?_) (fun c4 => ?_)
      · rw [if_pos c4] at h
        refine lv_iinc (v := 2) (lv' := [(2, .int 2), (1, .int (fJ6_bitCount_0f7a4 (fX1_handOf 0 M))), (0, .ref (ad 0))]) hx hb dX1_canOpen_43 hl (k := 0) rfl rfl (by decide) rfl (fun ls hl => ?_)
        refine lv_goto (tgt := 24) hx hb dX1_canOpen_46 (by decide) ?_
        refine lv_iload_n hx hb dX1_canOpen_24 rfl (lv_at hl 0 rfl) ?_
        refine lv_iconst (v := 4) hx hb dX1_canOpen_25 (by decide) ?_
        refine lv_icmp_ge (tgt := 49) hx hb dX1_canOpen_26 (by decide) (fun c5 => absurd c5 (by decide)) (fun c5 => ?_)
        refine lv_aload_n hx hb dX1_canOpen_29 rfl (lv_at hl 2 rfl) ?_
        refine lv_iload_n hx hb dX1_canOpen_30 rfl (lv_at hl 0 rfl) ?_
        refine cVX S5 hK hP 0 rfl rfl (As := [.int 2]) (kX1_handOf l D cA ad _ _) (cwV 1 hts gX1_canOpen_X1_handOf rfl rfl rfl (by decide +kernel) ⟨(Nat.le_of_ble_eq_true rfl), (Nat.le_of_ble_eq_true rfl)⟩) rfl hl.1 (st0 := _) (rest := []) rfl (Nat.le_of_ble_eq_true rfl) dX1_canOpen_31 ⟨Nat.zero_le _, Nat.zero_le _⟩ ?_
        refine cS S5 (As := [.int (fX1_handOf 2 M)]) (kJ6_bitCount_0f7a4 l _) (va_cwS 1 hts gX1_canOpen_J6_bitCount_0f7a4 rfl rfl rfl (by decide +kernel) ⟨(Nat.le_of_ble_eq_true rfl), (Nat.le_of_ble_eq_true rfl)⟩) rfl hl.1 (st0 := _) (rest := []) rfl (Nat.le_of_ble_eq_true rfl) dX1_canOpen_34 ⟨Nat.zero_le _, Nat.zero_le _⟩ ?_
        refine lv_iload_n hx hb dX1_canOpen_37 rfl (lv_at hl 1 rfl) ?_
        refine lv_icmp_eq (tgt := 43) hx hb dX1_canOpen_38 (by decide) (fun c6 => ?_) (fun c6 => ?_)
        · rw [if_pos c6] at h
          refine lv_iinc (v := 3) (lv' := [(2, .int 3), (1, .int (fJ6_bitCount_0f7a4 (fX1_handOf 0 M))), (0, .ref (ad 0))]) hx hb dX1_canOpen_43 hl (k := 0) rfl rfl (by decide) rfl (fun ls hl => ?_)
          refine lv_goto (tgt := 24) hx hb dX1_canOpen_46 (by decide) ?_
          refine lv_iload_n hx hb dX1_canOpen_24 rfl (lv_at hl 0 rfl) ?_
          refine lv_iconst (v := 4) hx hb dX1_canOpen_25 (by decide) ?_
          refine lv_icmp_ge (tgt := 49) hx hb dX1_canOpen_26 (by decide) (fun c7 => absurd c7 (by decide)) (fun c7 => ?_)
          refine lv_aload_n hx hb dX1_canOpen_29 rfl (lv_at hl 2 rfl) ?_
          refine lv_iload_n hx hb dX1_canOpen_30 rfl (lv_at hl 0 rfl) ?_
          refine cVX S5 hK hP 0 rfl rfl (As := [.int 3]) (kX1_handOf l D cA ad _ _) (cwV 1 hts gX1_canOpen_X1_handOf rfl rfl rfl (by decide +kernel) ⟨(Nat.le_of_ble_eq_true rfl), (Nat.le_of_ble_eq_true rfl)⟩) rfl hl.1 (st0 := _) (rest := []) rfl (Nat.le_of_ble_eq_true rfl) dX1_canOpen_31 ⟨Nat.zero_le _, Nat.zero_le _⟩ ?_
          refine cS S5 (As := [.int (fX1_handOf 3 M)]) (kJ6_bitCount_0f7a4 l _) (va_cwS 1 hts gX1_canOpen_J6_bitCount_0f7a4 rfl rfl rfl (by decide +kernel) ⟨(Nat.le_of_ble_eq_true rfl), (Nat.le_of_ble_eq_true rfl)⟩) rfl hl.1 (st0 := _) (rest := []) rfl (Nat.le_of_ble_eq_true rfl) dX1_canOpen_34 ⟨Nat.zero_le _, Nat.zero_le _⟩ ?_
          refine lv_iload_n hx hb dX1_canOpen_37 rfl (lv_at hl 1 rfl) ?_
          refine lv_icmp_eq (tgt := 43) hx hb dX1_canOpen_38 (by decide) (fun c8 => ?_) (fun c8 => ?_)
          · rw [if_pos c8] at h
            refine lv_iinc (v := 4) (lv' := [(2, .int 4), (1, .int (fJ6_bitCount_0f7a4 (fX1_handOf 0 M))), (0, .ref (ad 0))]) hx hb dX1_canOpen_43 hl (k := 0) rfl rfl (by decide) rfl (fun ls hl => ?_)
            refine lv_goto (tgt := 24) hx hb dX1_canOpen_46 (by decide) ?_
            refine lv_iload_n hx hb dX1_canOpen_24 rfl (lv_at hl 0 rfl) ?_
            refine lv_iconst (v := 4) hx hb dX1_canOpen_25 (by decide) ?_
            refine lv_icmp_ge (tgt := 49) hx hb dX1_canOpen_26 (by decide) (fun c9 => ?_) (fun c9 => absurd c9 (by decide))
            refine lv_iconst (v := 1) hx hb dX1_canOpen_49 (by decide) ?_
            subst h
            exact kr _ _ _ rfl rfl dX1_canOpen_50
          · rw [if_neg c8] at h
            refine lv_iconst (v := 0) hx hb dX1_canOpen_41 (by decide) ?_
            subst h
            exact kr _ _ _ rfl rfl dX1_canOpen_42
        · rw [if_neg c6] at h
          refine lv_iconst (v := 0) hx hb dX1_canOpen_41 (by decide) ?_
          subst h
          exact kr _ _ _ rfl rfl dX1_canOpen_42
      · rw [if_neg c4] at h
        refine lv_iconst (v := 0) hx hb dX1_canOpen_41 (by decide) ?_
        subst h
        exact kr _ _ _ rfl rfl dX1_canOpen_42
    · rw [if_pos c2] at h
      refine lv_iconst (v := 0) hx hb dX1_canOpen_20 (by decide) ?_
      subst h
      exact kr _ _ _ rfl rfl dX1_canOpen_21

-- X1_open
def fX1_open (p1 : Int32) (M : Mem) : Int32 × Mem := (fJ6_bitCount_0f7a4 (fX1_handOf 0 ((mset M 0 5 1))), (mset (mset (mset M 0 5 1) 0 6 (fJ6_bitCount_0f7a4 (fX1_handOf 0 ((mset M 0 5 1))))) 3 0 p1))
def rmX1_open : Room := { frames := 1, cells := 0, slots := 0, locals := 21 }
set_option maxHeartbeats 4000000 in
set_option maxRecDepth 100000 in
theorem kX1_open (l : Launch) (D : va_G) (cA : Nat) (ad : Nat → Nat) (p1 : Int32) (M : Mem) : WiX l yX1_open wsX1_open rmX1_open D cA ad M [.ref (ad 0), .int p1] (fX1_open p1 M) := by
  obtain ⟨r, h⟩ : ∃ r, fX1_open p1 M = r := ⟨_, rfl⟩
  rw [h]
  unfold fX1_open at h
  refine WiX.of RX1 rfl rfl rfl (Nat.le_of_ble_eq_true rfl) ?_
  intro p e s m args below meth c Q ls A eA S5 hK hP hD hS hl kr
  have hA : ∀ (H : Heap) (q : Nat), s.heap.size ≤ H.size → AX ad H.size q → A q := fun H q hz h => by rw [eA]; exact AX.mono hz h
  obtain ⟨hx, hb, -, -, hts⟩ := id S5
  have hin : ∀ w ∈ wsX10, w ∈ wsX1_open := fun _ h => List.mem_cons_of_mem _ (List.mem_append_right _ (h))
  refine lv_aload_n hx hb dX1_open_0 rfl (lv_at hl 0 rfl) ?_
  refine lv_iconst (v := 1) hx hb dX1_open_1 (by decide) ?_
  refine pX1_open S5 hin hK hP hD hS (List.mem_of_getElem? (i := 1) rfl) rfl rfl dX1_open_2 (fun H locs hP hS => ?_)
  refine lv_aload_n hx hb dX1_open_5 rfl (lv_at hl 0 rfl) ?_
  refine lv_aload_n hx hb dX1_open_6 rfl (lv_at hl 0 rfl) ?_
  refine lv_iconst (v := 0) hx hb dX1_open_7 (by decide) ?_
  refine cVX S5 hK hP 0 rfl rfl (As := [.int 0]) (kX1_handOf l D cA ad _ _) (cwV 1 hts gX1_open_X1_handOf rfl rfl rfl (by decide +kernel) ⟨(Nat.le_of_ble_eq_true rfl), (Nat.le_of_ble_eq_true rfl)⟩) rfl hl.1 (st0 := _) (rest := [.ref (ad 0)]) rfl (Nat.le_of_ble_eq_true rfl) dX1_open_8 ⟨Nat.zero_le _, Nat.zero_le _⟩ ?_
  refine cS S5 (As := [.int (fX1_handOf 0 ((mset M 0 5 1)))]) (kJ6_bitCount_0f7a4 l _) (va_cwS 1 hts gX1_open_J6_bitCount_0f7a4 rfl rfl rfl (by decide +kernel) ⟨(Nat.le_of_ble_eq_true rfl), (Nat.le_of_ble_eq_true rfl)⟩) rfl hl.1 (st0 := _) (rest := [.ref (ad 0)]) rfl (Nat.le_of_ble_eq_true rfl) dX1_open_11 ⟨Nat.zero_le _, Nat.zero_le _⟩ ?_
  refine pX1_tricks S5 hin hK hP hD hS (List.mem_of_getElem? (i := 2) rfl) dX1_open_14 (fun H locs hP hS => ?_)
  refine lv_aload_n hx hb dX1_open_17 rfl (lv_at hl 0 rfl) ?_
  refine gX1_leaders S5 hin hK hP (List.mem_of_getElem? (i := 3) rfl) dX1_open_18 ?_
  refine lv_iconst (v := 0) hx hb dX1_open_21 (by decide) ?_
  refine lv_iload_n hx hb dX1_open_22 rfl (lv_at hl 1 rfl) ?_
  refine asX3 S5 hK hP hD hS (by decide) (k := 0) rfl dX1_open_23 (fun H locs hP hS => ?_)
  refine lv_aload_n hx hb dX1_open_24 rfl (lv_at hl 0 rfl) ?_
  refine gX1_tricks S5 hin hK hP (List.mem_of_getElem? (i := 2) rfl) (v := fJ6_bitCount_0f7a4 (fX1_handOf 0 ((mset M 0 5 1)))) rfl dX1_open_25 ?_
  subst h
  exact kr _ _ _ _ _ rfl rfl hP hS dX1_open_28
