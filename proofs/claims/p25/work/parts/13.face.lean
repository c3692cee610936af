-- X5_needPlayer
def fX5_needPlayer (p0 : Int32) (M : Mem) : Res := (if p0 < 0 then (1, 0, M) else (if p0 < 4 then (0, 0, M) else (1, 0, M)))
def rmX5_needPlayer : Room := { frames := 7, cells := 1, slots := 6, locals := 82 }
set_option maxHeartbeats 4000000 in
set_option maxRecDepth 100000 in
theorem kX5_needPlayer (l : Launch) (D : va_G) (cA : Nat) (ad : Nat → Nat) (sa : Nat → Nat) (hst : l.stackTraces = false) (p0 : Int32) (M : Mem) : Tv l yX5_needPlayer wsX5_needPlayer rmX5_needPlayer D cA ad sa M [.int p0] 1 6 (fX5_needPlayer p0 M) := by
  obtain ⟨r, h⟩ : ∃ r, fX5_needPlayer p0 M = r := ⟨_, rfl⟩
  rw [h]
  unfold fX5_needPlayer at h
  refine Tv.of hst rfl rfl rfl (Nat.le_of_ble_eq_true rfl) ?_
  intro p e s m args below meth c Q ls A eA S5 hK hP hD hS hT hl kr kt kx
  have hA : ∀ (H : Heap) (q : Nat), s.heap.size ≤ H.size → AX ad H.size q → A q := fun H q hz h => by rw [eA]; exact AX.mono hz h
  obtain ⟨hx, hb, -, -, hts⟩ := id S5
  refine lv_iload_n hx hb dX5_needPlayer_0 rfl (lv_at hl 0 rfl) ?_
  refine lv_if_lt (tgt := 9) hx hb dX5_needPlayer_1 (by decide) (fun c1 => ?_) (fun c1 => ?_)
  · rw [if_pos c1] at h
    subst h
    exact kt 1 34 38 180 "player is out of range" _ _ _ _ _ _ _ rfl (by decide) xf1 (List.mem_of_getElem? (i := 1) rfl) (List.mem_of_getElem? (i := 2) rfl) (fun _ h => List.mem_cons_of_mem _ (List.mem_append_right _ (h))) xb1 xg1 (List.mem_of_getElem? (i := 1) rfl) hl.1 hP hS dX5_needPlayer_9 dX5_needPlayer_12 dX5_needPlayer_13 dX5_needPlayer_15 dX5_needPlayer_18 (Nat.le_of_ble_eq_true rfl) (Nat.le_of_ble_eq_true rfl) (Nat.le_of_ble_eq_true rfl) (Nat.le_of_ble_eq_true rfl) (by decide) (by decide)
  · rw [if_neg c1] at h
    refine lv_iload_n hx hb dX5_needPlayer_4 rfl (lv_at hl 0 rfl) ?_
    refine lv_iconst (v := 4) hx hb dX5_needPlayer_5 (by decide) ?_
    refine lv_icmp_lt (tgt := 19) hx hb dX5_needPlayer_6 (by decide) (fun c2 => ?_) (fun c2 => ?_)
    · rw [if_pos c2] at h
      subst h
      refine W.widen (k := 1) (n := 6) (by decide) (by decide) ?_
      exact kr _ _ _ _ rfl hP hS dX5_needPlayer_19
    · rw [if_neg c2] at h
      subst h
      exact kt 1 34 38 180 "player is out of range" _ _ _ _ _ _ _ rfl (by decide) xf1 (List.mem_of_getElem? (i := 1) rfl) (List.mem_of_getElem? (i := 2) rfl) (fun _ h => List.mem_cons_of_mem _ (List.mem_append_right _ (h))) xb1 xg1 (List.mem_of_getElem? (i := 1) rfl) hl.1 hP hS dX5_needPlayer_9 dX5_needPlayer_12 dX5_needPlayer_13 dX5_needPlayer_15 dX5_needPlayer_18 (Nat.le_of_ble_eq_true rfl) (Nat.le_of_ble_eq_true rfl) (Nat.le_of_ble_eq_true rfl) (Nat.le_of_ble_eq_true rfl) (by decide) (by decide)

-- X5_needCard
def fX5_needCard (p0 : Int32) (M : Mem) : Res := (if p0 < 0 then (1, 0, M) else (if p0 < 24 then (0, 0, M) else (1, 0, M)))
def rmX5_needCard : Room := { frames := 7, cells := 1, slots := 6, locals := 82 }
set_option maxHeartbeats 4000000 in
set_option maxRecDepth 100000 in
theorem kX5_needCard (l : Launch) (D : va_G) (cA : Nat) (ad : Nat → Nat) (sa : Nat → Nat) (hst : l.stackTraces = false) (p0 : Int32) (M : Mem) : Tv l yX5_needCard wsX5_needCard rmX5_needCard D cA ad sa M [.int p0] 1 6 (fX5_needCard p0 M) := by
  obtain ⟨r, h⟩ : ∃ r, fX5_needCard p0 M = r := ⟨_, rfl⟩
  rw [h]
  unfold fX5_needCard at h
  refine Tv.of hst rfl rfl rfl (Nat.le_of_ble_eq_true rfl) ?_
  intro p e s m args below meth c Q ls A eA S5 hK hP hD hS hT hl kr kt kx
  have hA : ∀ (H : Heap) (q : Nat), s.heap.size ≤ H.size → AX ad H.size q → A q := fun H q hz h => by rw [eA]; exact AX.mono hz h
  obtain ⟨hx, hb, -, -, hts⟩ := id S5
  refine lv_iload_n hx hb dX5_needCard_0 rfl (lv_at hl 0 rfl) ?_
  refine lv_if_lt (tgt := 10) hx hb dX5_needCard_1 (by decide) (fun c1 => ?_) (fun c1 => ?_)
  · rw [if_pos c1] at h
    subst h
    exact kt 1 34 38 182 "card is out of range" _ _ _ _ _ _ _ rfl (by decide) xf1 (List.mem_of_getElem? (i := 1) rfl) (List.mem_of_getElem? (i := 2) rfl) (fun _ h => List.mem_cons_of_mem _ (List.mem_append_right _ (h))) xb1 xg1 (List.mem_of_getElem? (i := 2) rfl) hl.1 hP hS dX5_needCard_10 dX5_needCard_13 dX5_needCard_14 dX5_needCard_16 dX5_needCard_19 (Nat.le_of_ble_eq_true rfl) (Nat.le_of_ble_eq_true rfl) (Nat.le_of_ble_eq_true rfl) (Nat.le_of_ble_eq_true rfl) (by decide) (by decide)
  · rw [if_neg c1] at h
    refine lv_iload_n hx hb dX5_needCard_4 rfl (lv_at hl 0 rfl) ?_
    refine lv_bipush (v := 24) hx hb dX5_needCard_5 (by decide) ?_
    refine lv_icmp_lt (tgt := 20) hx hb dX5_needCard_7 (by decide) (fun c2 => ?_) (fun c2 => ?_)
    · rw [if_pos c2] at h
      subst h
      refine W.widen (k := 1) (n := 6) (by decide) (by decide) ?_
      exact kr _ _ _ _ rfl hP hS dX5_needCard_20
    · rw [if_neg c2] at h
      subst h
      exact kt 1 34 38 182 "card is out of range" _ _ _ _ _ _ _ rfl (by decide) xf1 (List.mem_of_getElem? (i := 1) rfl) (List.mem_of_getElem? (i := 2) rfl) (fun _ h => List.mem_cons_of_mem _ (List.mem_append_right _ (h))) xb1 xg1 (List.mem_of_getElem? (i := 2) rfl) hl.1 hP hS dX5_needCard_10 dX5_needCard_13 dX5_needCard_14 dX5_needCard_16 dX5_needCard_19 (Nat.le_of_ble_eq_true rfl) (Nat.le_of_ble_eq_true rfl) (Nat.le_of_ble_eq_true rfl) (Nat.le_of_ble_eq_true rfl) (by decide) (by decide)

-- X5_needPlayable
def fX5_needPlayable (p1 : Int32) (M : Mem) : Res := (if (fX0_holds (fX1_playable M) p1) = 0 then (2, 0, M) else (0, 0, M))
def rmX5_needPlayable : Room := { frames := 7, cells := 1, slots := 6, locals := 82 }
set_option maxHeartbeats 4000000 in
set_option maxRecDepth 100000 in
theorem kX5_needPlayable (l : Launch) (D : va_G) (cA : Nat) (ad : Nat → Nat) (sa : Nat → Nat) (hst : l.stackTraces = false) (p1 : Int32) (M : Mem) : Tv l yX5_needPlayable wsX5_needPlayable rmX5_needPlayable D cA ad sa M [.ref (ad 8), .int p1] 1 6 (fX5_needPlayable p1 M) := by
  obtain ⟨r, h⟩ : ∃ r, fX5_needPlayable p1 M = r := ⟨_, rfl⟩
  rw [h]
  unfold fX5_needPlayable at h
  refine Tv.of hst rfl rfl rfl (Nat.le_of_ble_eq_true rfl) ?_
  intro p e s m args below meth c Q ls A eA S5 hK hP hD hS hT hl kr kt kx
  have hA : ∀ (H : Heap) (q : Nat), s.heap.size ≤ H.size → AX ad H.size q → A q := fun H q hz h => by rw [eA]; exact AX.mono hz h
  obtain ⟨hx, hb, -, -, hts⟩ := id S5
  have hin : ∀ w ∈ wsX50, w ∈ wsX5_needPlayable := fun _ h => List.mem_cons_of_mem _ (List.mem_append_left _ (List.mem_append_left _ (List.mem_append_right _ (h))))
  refine lv_aload_n hx hb dX5_needPlayable_0 rfl (lv_at hl 0 rfl) ?_
  refine gX5_game S5 hin hK hP (List.mem_of_getElem? (i := 3) rfl) dX5_needPlayable_1 ?_
  refine cVX S5 hK hP 0 rfl rfl (As := []) (kX1_playable l D cA ad _) (cwV 0 hts gX5_needPlayable_X1_playable rfl rfl rfl (by decide +kernel) ⟨(Nat.le_of_ble_eq_true rfl), (Nat.le_of_ble_eq_true rfl)⟩) rfl hl.1 (st0 := _) (rest := []) rfl (Nat.le_of_ble_eq_true rfl) dX5_needPlayable_4 ⟨(Nat.le_of_ble_eq_true rfl), (Nat.le_of_ble_eq_true rfl)⟩ ?_
  refine lv_iload_n hx hb dX5_needPlayable_7 rfl (lv_at hl 1 rfl) ?_
  refine cS S5 (As := [.int (fX1_playable M), .int p1]) (kX0_holds l _ _) (va_cwS 2 hts gX5_needPlayable_X0_holds rfl rfl rfl (by decide +kernel) ⟨(Nat.le_of_ble_eq_true rfl), (Nat.le_of_ble_eq_true rfl)⟩) rfl hl.1 (st0 := _) (rest := []) rfl (Nat.le_of_ble_eq_true rfl) dX5_needPlayable_8 ⟨(Nat.le_of_ble_eq_true rfl), (Nat.le_of_ble_eq_true rfl)⟩ ?_
  refine lv_if_ne (tgt := 24) hx hb dX5_needPlayable_11 (by decide) (fun c1 => ?_) (fun c1 => ?_)
  · rw [if_neg c1] at h
    subst h
    refine W.widen (k := 1) (n := 6) (by decide) (by decide) ?_
    exact kr _ _ _ _ rfl hP hS dX5_needPlayable_24
  · rw [if_pos c1] at h
    subst h
    exact kt 2 56 60 184 "the card cannot be played" _ _ _ _ _ _ _ rfl (by decide) xf2 (List.mem_of_getElem? (i := 1) rfl) (List.mem_of_getElem? (i := 2) rfl) (fun _ h => List.mem_cons_of_mem _ (List.mem_append_right _ (h))) xb2 xg2 (List.mem_of_getElem? (i := 5) rfl) hl.1 hP hS dX5_needPlayable_14 dX5_needPlayable_17 dX5_needPlayable_18 dX5_needPlayable_20 dX5_needPlayable_23 (Nat.le_of_ble_eq_true rfl) (Nat.le_of_ble_eq_true rfl) (Nat.le_of_ble_eq_true rfl) (Nat.le_of_ble_eq_true rfl) (by decide) (by decide)

-- X5_needStarted
def fX5_needStarted (M : Mem) : Option (Res) := (obind (fX1_isOpen M) (fun q1 => (if q1 = 0 then some (2, 0, M) else some (0, 0, M))))
def rmX5_needStarted : Room := { frames := 7, cells := 1, slots := 6, locals := 82 }
set_option maxHeartbeats 4000000 in
set_option maxRecDepth 100000 in
theorem kX5_needStarted (l : Launch) (D : va_G) (cA : Nat) (ad : Nat → Nat) (sa : Nat → Nat) (hst : l.stackTraces = false) (M : Mem) (r : Res) (h : fX5_needStarted M = some r) : Tv l yX5_needStarted wsX5_needStarted rmX5_needStarted D cA ad sa M [.ref (ad 8)] 1 6 r := by
  unfold fX5_needStarted at h
  refine Tv.of hst rfl rfl rfl (Nat.le_of_ble_eq_true rfl) ?_
  intro p e s m args below meth c Q ls A eA S5 hK hP hD hS hT hl kr kt kx
  have hA : ∀ (H : Heap) (q : Nat), s.heap.size ≤ H.size → AX ad H.size q → A q := fun H q hz h => by rw [eA]; exact AX.mono hz h
  obtain ⟨hx, hb, -, -, hts⟩ := id S5
  have hin : ∀ w ∈ wsX50, w ∈ wsX5_needStarted := fun _ h => List.mem_cons_of_mem _ (List.mem_append_left _ (List.mem_append_left _ (List.mem_append_right _ (h))))
  refine lv_aload_n hx hb dX5_needStarted_0 rfl (lv_at hl 0 rfl) ?_
  refine gX5_game S5 hin hK hP (List.mem_of_getElem? (i := 3) rfl) dX5_needStarted_1 ?_
  obtain ⟨q1, hqq1, h⟩ := obind_some h
  refine cVX S5 hK hP 0 rfl rfl (As := []) (kX1_isOpen l D cA ad _ _ hqq1) (cwV 0 hts gX5_needStarted_X1_isOpen rfl rfl rfl (by decide +kernel) ⟨(Nat.le_of_ble_eq_true rfl), (Nat.le_of_ble_eq_true rfl)⟩) rfl hl.1 (st0 := _) (rest := []) rfl (Nat.le_of_ble_eq_true rfl) dX5_needStarted_4 ⟨(Nat.le_of_ble_eq_true rfl), (Nat.le_of_ble_eq_true rfl)⟩ ?_
  refine lv_if_ne (tgt := 20) hx hb dX5_needStarted_7 (by decide) (fun c2 => ?_) (fun c2 => ?_)
  · rw [if_neg c2] at h
    obtain rfl := Option.some.inj h
    refine W.widen (k := 1) (n := 6) (by decide) (by decide) ?_
    exact kr _ _ _ _ rfl hP hS dX5_needStarted_20
  · rw [if_pos c2] at h
    obtain rfl := Option.some.inj h
    exact kt 2 56 60 186 "the game was not started" _ _ _ _ _ _ _ rfl (by decide) xf2 (List.mem_of_getElem? (i := 1) rfl) (List.mem_of_getElem? (i := 2) rfl) (fun _ h => List.mem_cons_of_mem _ (List.mem_append_right _ (h))) xb2 xg2 (List.mem_of_getElem? (i := 7) rfl) hl.1 hP hS dX5_needStarted_10 dX5_needStarted_13 dX5_needStarted_14 dX5_needStarted_16 dX5_needStarted_19 (Nat.le_of_ble_eq_true rfl) (Nat.le_of_ble_eq_true rfl) (Nat.le_of_ble_eq_true rfl) (Nat.le_of_ble_eq_true rfl) (by decide) (by decide)

-- X5_needInHand
def fX5_needInHand (p1 : Int32) (M : Mem) : Res := (if (fX1_ownerOf p1 M) = ((-1)) then (2, 0, M) else (0, 0, M))
def rmX5_needInHand : Room := { frames := 7, cells := 1, slots := 6, locals := 82 }
set_option maxHeartbeats 4000000 in
set_option maxRecDepth 100000 in
theorem kX5_needInHand (l : Launch) (D : va_G) (cA : Nat) (ad : Nat → Nat) (sa : Nat → Nat) (hst : l.stackTraces = false) (p1 : Int32) (M : Mem) : Tv l yX5_needInHand wsX5_needInHand rmX5_needInHand D cA ad sa M [.ref (ad 8), .int p1] 1 6 (fX5_needInHand p1 M) := by
  obtain ⟨r, h⟩ : ∃ r, fX5_needInHand p1 M = r := ⟨_, rfl⟩
  rw [h]
  unfold fX5_needInHand at h
  refine Tv.of hst rfl rfl rfl (Nat.le_of_ble_eq_true rfl) ?_
  intro p e s m args below meth c Q ls A eA S5 hK hP hD hS hT hl kr kt kx
  have hA : ∀ (H : Heap) (q : Nat), s.heap.size ≤ H.size → AX ad H.size q → A q := fun H q hz h => by rw [eA]; exact AX.mono hz h
  obtain ⟨hx, hb, -, -, hts⟩ := id S5
  have hin : ∀ w ∈ wsX50, w ∈ wsX5_needInHand := fun _ h => List.mem_cons_of_mem _ (List.mem_append_left _ (List.mem_append_left _ (List.mem_append_right _ (h))))
  refine lv_aload_n hx hb dX5_needInHand_0 rfl (lv_at hl 0 rfl) ?_
  refine gX5_game S5 hin hK hP (List.mem_of_getElem? (i := 3) rfl) dX5_needInHand_1 ?_
  refine lv_iload_n hx hb dX5_needInHand_4 rfl (lv_at hl 1 rfl) ?_
  refine cVX S5 hK hP 0 rfl rfl (As := [.int p1]) (kX1_ownerOf l D cA ad _ _) (cwV 1 hts gX5_needInHand_X1_ownerOf rfl rfl rfl (by decide +kernel) ⟨(Nat.le_of_ble_eq_true rfl), (Nat.le_of_ble_eq_true rfl)⟩) rfl hl.1 (st0 := _) (rest := []) rfl (Nat.le_of_ble_eq_true rfl) dX5_needInHand_5 ⟨(Nat.le_of_ble_eq_true rfl), (Nat.le_of_ble_eq_true rfl)⟩ ?_
  refine lv_iconst (v := (-1)) hx hb dX5_needInHand_8 (by decide) ?_
  refine lv_icmp_ne (tgt := 22) hx hb dX5_needInHand_9 (by decide) (fun c1 => ?_) (fun c1 => ?_)
  · rw [if_neg c1] at h
    subst h
    refine W.widen (k := 1) (n := 6) (by decide) (by decide) ?_
    exact kr _ _ _ _ rfl hP hS dX5_needInHand_22
  · rw [if_pos c1] at h
    subst h
    exact kt 2 56 60 188 "the card is in no hand" _ _ _ _ _ _ _ rfl (by decide) xf2 (List.mem_of_getElem? (i := 1) rfl) (List.mem_of_getElem? (i := 2) rfl) (fun _ h => List.mem_cons_of_mem _ (List.mem_append_right _ (h))) xb2 xg2 (List.mem_of_getElem? (i := 10) rfl) hl.1 hP hS dX5_needInHand_12 dX5_needInHand_15 dX5_needInHand_16 dX5_needInHand_18 dX5_needInHand_21 (Nat.le_of_ble_eq_true rfl) (Nat.le_of_ble_eq_true rfl) (Nat.le_of_ble_eq_true rfl) (Nat.le_of_ble_eq_true rfl) (by decide) (by decide)

-- X5_begin
def fX5_begin (p1 : Int32) (M : Mem) : Res := (if p1 < ((-1)) then (1, 0, M) else (if p1 < 4 then (0, (fX1_clearFor p1 M).1, (fX1_clearFor p1 M).2) else (1, 0, M)))
def rmX5_begin : Room := { frames := 7, cells := 1, slots := 6, locals := 82 }
set_option maxHeartbeats 4000000 in
set_option maxRecDepth 100000 in
theorem kX5_begin (l : Launch) (D : va_G) (cA : Nat) (ad : Nat → Nat) (sa : Nat → Nat) (hst : l.stackTraces = false) (p1 : Int32) (M : Mem) : Ti l yX5_begin wsX5_begin rmX5_begin D cA ad sa M [.ref (ad 8), .int p1] 1 6 (fX5_begin p1 M) := by
  obtain ⟨r, h⟩ : ∃ r, fX5_begin p1 M = r := ⟨_, rfl⟩
  rw [h]
  unfold fX5_begin at h
  refine Ti.of hst rfl rfl rfl (Nat.le_of_ble_eq_true rfl) ?_
  intro p e s m args below meth c Q ls A eA S5 hK hP hD hS hT hl kr kt kx
  have hA : ∀ (H : Heap) (q : Nat), s.heap.size ≤ H.size → AX ad H.size q → A q := fun H q hz h => by rw [eA]; exact AX.mono hz h
  obtain ⟨hx, hb, -, -, hts⟩ := id S5
  have hin : ∀ w ∈ wsX50, w ∈ wsX5_begin := fun _ h => List.mem_cons_of_mem _ (List.mem_append_left _ (List.mem_append_left _ (List.mem_append_right _ (h))))
  refine lv_iload_n hx hb dX5_begin_0 rfl (lv_at hl 1 rfl) ?_
  refine lv_iconst (v := (-1)) hx hb dX5_begin_1 (by decide) ?_
  refine lv_icmp_lt (tgt := 10) hx hb dX5_begin_2 (by decide) (fun c1 => ?_) (fun c1 => ?_)
  · rw [if_pos c1] at h
    subst h
    exact kt 1 34 38 36 "trump is out of range" _ _ _ _ _ _ _ rfl (by decide) xf1 (List.mem_of_getElem? (i := 1) rfl) (List.mem_of_getElem? (i := 2) rfl) (fun _ h => List.mem_cons_of_mem _ (List.mem_append_right _ (h))) xb1 xg1 (List.mem_of_getElem? (i := 0) rfl) hl.1 hP hS dX5_begin_10 dX5_begin_13 dX5_begin_14 dX5_begin_16 dX5_begin_19 (Nat.le_of_ble_eq_true rfl) (Nat.le_of_ble_eq_true rfl) (Nat.le_of_ble_eq_true rfl) (Nat.le_of_ble_eq_true rfl) (by decide) (by decide)
  · rw [if_neg c1] at h
    refine lv_iload_n hx hb dX5_begin_5 rfl (lv_at hl 1 rfl) ?_
    refine lv_iconst (v := 4) hx hb dX5_begin_6 (by decide) ?_
    refine lv_icmp_lt (tgt := 20) hx hb dX5_begin_7 (by decide) (fun c2 => ?_) (fun c2 => ?_)
    · rw [if_pos c2] at h
      refine lv_aload_n hx hb dX5_begin_20 rfl (lv_at hl 0 rfl) ?_
      refine gX5_game S5 hin hK hP (List.mem_of_getElem? (i := 3) rfl) dX5_begin_21 ?_
      refine lv_iload_n hx hb dX5_begin_24 rfl (lv_at hl 1 rfl) ?_
      refine cWiX S5 hK hP hD hS (fun _ h => hA _ _ hS.1 h) 0 rfl rfl (As := [.int p1]) (kX1_clearFor l D cA ad _ _) (cwV 1 hts gX5_begin_X1_clearFor rfl rfl rfl (by decide +kernel) ⟨(Nat.le_of_ble_eq_true rfl), (Nat.le_of_ble_eq_true rfl)⟩) rfl hl.1 (st0 := _) (rest := []) rfl (Nat.le_of_ble_eq_true rfl) dX5_begin_25 ⟨(Nat.le_of_ble_eq_true rfl), (Nat.le_of_ble_eq_true rfl)⟩ (fun H locs hz hP hS => ?_)
      subst h
      refine W.widen (k := 1) (n := 6) (by decide) (by decide) ?_
      exact kr _ _ _ _ _ rfl rfl rfl hP hS dX5_begin_28
    · rw [if_neg c2] at h
      subst h
      exact kt 1 34 38 36 "trump is out of range" _ _ _ _ _ _ _ rfl (by decide) xf1 (List.mem_of_getElem? (i := 1) rfl) (List.mem_of_getElem? (i := 2) rfl) (fun _ h => List.mem_cons_of_mem _ (List.mem_append_right _ (h))) xb1 xg1 (List.mem_of_getElem? (i := 0) rfl) hl.1 hP hS dX5_begin_10 dX5_begin_13 dX5_begin_14 dX5_begin_16 dX5_begin_19 (Nat.le_of_ble_eq_true rfl) (Nat.le_of_ble_eq_true rfl) (Nat.le_of_ble_eq_true rfl) (Nat.le_of_ble_eq_true rfl) (by decide) (by decide)

-- X5_give
def fX5_give (p1 : Int32) (p2 : Int32) (M : Mem) : Res := (if (fX5_needPlayer p1 M).1 = 0 then (if (fX5_needCard p2 ((fX5_needPlayer p1 M).2.2)).1 = 0 then (if (fX1_canDeal p1 p2 ((fX5_needCard p2 ((fX5_needPlayer p1 M).2.2)).2.2)) = 0 then (2, 0, (fX5_needCard p2 ((fX5_needPlayer p1 M).2.2)).2.2) else (0, (fX1_deal p1 p2 ((fX5_needCard p2 ((fX5_needPlayer p1 M).2.2)).2.2)).1, (fX1_deal p1 p2 ((fX5_needCard p2 ((fX5_needPlayer p1 M).2.2)).2.2)).2)) else ((fX5_needCard p2 ((fX5_needPlayer p1 M).2.2)).1, 0, (fX5_needCard p2 ((fX5_needPlayer p1 M).2.2)).2.2)) else ((fX5_needPlayer p1 M).1, 0, (fX5_needPlayer p1 M).2.2))
def rmX5_give : Room := { frames := 8, cells := 3, slots := 18, locals := 102 }
set_option maxHeartbeats 4000000 in
set_option maxRecDepth 100000 in
theorem kX5_give (l : Launch) (D : va_G) (cA : Nat) (ad : Nat → Nat) (sa : Nat → Nat) (hst : l.stackTraces = false) (p1 : Int32) (p2 : Int32) (M : Mem) : Ti l yX5_give wsX5_give rmX5_give D cA ad sa M [.ref (ad 8), .int p1, .int p2] 3 18 (fX5_give p1 p2 M) := by
  obtain ⟨r, h⟩ : ∃ r, fX5_give p1 p2 M = r := ⟨_, rfl⟩
  rw [h]
  unfold fX5_give at h
  refine Ti.of hst rfl rfl rfl (Nat.le_of_ble_eq_true rfl) ?_
  intro p e s m args below meth c Q ls A eA S5 hK hP hD hS hT hl kr kt kx
  have hA : ∀ (H : Heap) (q : Nat), s.heap.size ≤ H.size → AX ad H.size q → A q := fun H q hz h => by rw [eA]; exact AX.mono hz h
  obtain ⟨hx, hb, -, -, hts⟩ := id S5
  have hin : ∀ w ∈ wsX50, w ∈ wsX5_give := fun _ h => List.mem_cons_of_mem _ (List.mem_append_left _ (List.mem_append_left _ (List.mem_append_left _ (List.mem_append_right _ (h)))))
  refine lv_iload_n hx hb dX5_give_0 rfl (lv_at hl 1 rfl) ?_
  refine cTSv S5 hK hP hD hS hT (fun _ h => hA _ _ hS.1 h) (As := [.int p1]) (kX5_needPlayer l D cA ad sa hst _ _) (va_cwS 1 hts gX5_give_X5_needPlayer rfl rfl rfl (by decide +kernel) ⟨(Nat.le_of_ble_eq_true rfl), (Nat.le_of_ble_eq_true rfl)⟩) rfl hl.1 (st0 := _) (rest := []) rfl (Nat.le_of_ble_eq_true rfl) dX5_give_1 ⟨(Nat.le_of_ble_eq_true rfl), (Nat.le_of_ble_eq_true rfl)⟩ (fun c1 E ce q9 H locs hE h1 h2 h3 hP hS => ?_) (fun c1 H locs hP hS => ?_)
  · rw [if_neg c1] at h
    subst h
    exact kx _ _ _ _ _ _ _ _ _ _ c1 hE h1 h2 h3 hP hS (by decide) (by decide)
  · rw [if_pos c1] at h
    refine lv_iload_n hx hb dX5_give_4 rfl (lv_at hl 2 rfl) ?_
    refine cTSv S5 hK hP hD hS hT (fun _ h => hA _ _ hS.1 h) (As := [.int p2]) (kX5_needCard l D cA ad sa hst _ _) (va_cwS 1 hts gX5_give_X5_needCard rfl rfl rfl (by decide +kernel) ⟨(Nat.le_of_ble_eq_true rfl), (Nat.le_of_ble_eq_true rfl)⟩) rfl hl.1 (st0 := _) (rest := []) rfl (Nat.le_of_ble_eq_true rfl) dX5_give_5 ⟨(Nat.le_of_ble_eq_true rfl), (Nat.le_of_ble_eq_true rfl)⟩ (fun c2 E ce q9 H locs hE h1 h2 h3 hP hS => ?_) (fun c2 H locs hP hS => ?_)
    · rw [if_neg c2] at h
      subst h
      exact kx _ _ _ _ _ _ _ _ _ _ c2 hE h1 h2 h3 hP hS (by decide) (by decide)
    · rw [if_pos c2] at h
      refine lv_aload_n hx hb dX5_give_8 rfl (lv_at hl 0 rfl) ?_
      refine gX5_game S5 hin hK hP (List.mem_of_getElem? (i := 3) rfl) dX5_give_9 ?_
      refine lv_iload_n hx hb dX5_give_12 rfl (lv_at hl 1 rfl) ?_
      refine lv_iload_n hx hb dX5_give_13 rfl (lv_at hl 2 rfl) ?_
      refine cVX S5 hK hP 0 rfl rfl (As := [.int p1, .int p2]) (kX1_canDeal l D cA ad _ _ _) (cwV 2 hts gX5_give_X1_canDeal rfl rfl rfl (by decide +kernel) ⟨(Nat.le_of_ble_eq_true rfl), (Nat.le_of_ble_eq_true rfl)⟩) rfl hl.1 (st0 := _) (rest := []) rfl (Nat.le_of_ble_eq_true rfl) dX5_give_14 ⟨(Nat.le_of_ble_eq_true rfl), (Nat.le_of_ble_eq_true rfl)⟩ ?_
      refine lv_if_ne (tgt := 30) hx hb dX5_give_17 (by decide) (fun c3 => ?_) (fun c3 => ?_)
      · rw [if_neg c3] at h
        refine lv_aload_n hx hb dX5_give_30 rfl (lv_at hl 0 rfl) ?_
        refine gX5_game S5 hin hK hP (List.mem_of_getElem? (i := 3) rfl) dX5_give_31 ?_
        refine lv_iload_n hx hb dX5_give_34 rfl (lv_at hl 1 rfl) ?_
        refine lv_iload_n hx hb dX5_give_35 rfl (lv_at hl 2 rfl) ?_
        refine cWiX S5 hK hP hD hS (fun _ h => hA _ _ hS.1 h) 0 rfl rfl (As := [.int p1, .int p2]) (kX1_deal l D cA ad _ _ _) (cwV 2 hts gX5_give_X1_deal rfl rfl rfl (by decide +kernel) ⟨(Nat.le_of_ble_eq_true rfl), (Nat.le_of_ble_eq_true rfl)⟩) rfl hl.1 (st0 := _) (rest := []) rfl (Nat.le_of_ble_eq_true rfl) dX5_give_36 ⟨(Nat.le_of_ble_eq_true rfl), (Nat.le_of_ble_eq_true rfl)⟩ (fun H locs hz hP hS => ?_)
        subst h
        refine W.widen (k := 3) (n := 18) (by decide) (by decide) ?_
        exact kr _ _ _ _ _ rfl rfl rfl hP hS dX5_give_39
      · rw [if_pos c3] at h
        subst h
        exact kt 2 56 60 58 "the card cannot be given" _ _ _ _ _ _ _ rfl (by decide) xf2 (List.mem_of_getElem? (i := 1) rfl) (List.mem_of_getElem? (i := 2) rfl) (fun _ h => List.mem_cons_of_mem _ (List.mem_append_left _ (List.mem_append_right _ (h)))) xb2 xg2 (List.mem_of_getElem? (i := 3) rfl) hl.1 hP hS dX5_give_20 dX5_give_23 dX5_give_24 dX5_give_26 dX5_give_29 (Nat.le_of_ble_eq_true rfl) (Nat.le_of_ble_eq_true rfl) (Nat.le_of_ble_eq_true rfl) (Nat.le_of_ble_eq_true rfl) (by decide) (by decide)

-- X5_start
def fX5_start (p1 : Int32) (M : Mem) : Option (Res) := (if (fX5_needPlayer p1 M).1 = 0 then (if (fX1_canOpen ((fX5_needPlayer p1 M).2.2)) = 0 then some (2, 0, (fX5_needPlayer p1 M).2.2) else (obind (fX4_forget ((fX5_needPlayer p1 M).2.2)) (fun q3 => some (0, (fX1_open p1 q3).1, (fX1_open p1 q3).2)))) else some ((fX5_needPlayer p1 M).1, 0, (fX5_needPlayer p1 M).2.2))
def rmX5_start : Room := { frames := 8, cells := 2, slots := 12, locals := 102 }
set_option maxHeartbeats 4000000 in
set_option maxRecDepth 100000 in
theorem kX5_start (l : Launch) (D : va_G) (cA : Nat) (ad : Nat → Nat) (sa : Nat → Nat) (hst : l.stackTraces = false) (p1 : Int32) (M : Mem) (r : Res) (h : fX5_start p1 M = some r) : Ti l yX5_start wsX5_start rmX5_start D cA ad sa M [.ref (ad 8), .int p1] 2 12 r := by
  unfold fX5_start at h
  refine Ti.of hst rfl rfl rfl (Nat.le_of_ble_eq_true rfl) ?_
  intro p e s m args below meth c Q ls A eA S5 hK hP hD hS hT hl kr kt kx
  have hA : ∀ (H : Heap) (q : Nat), s.heap.size ≤ H.size → AX ad H.size q → A q := fun H q hz h => by rw [eA]; exact AX.mono hz h
  obtain ⟨hx, hb, -, -, hts⟩ := id S5
  have hin : ∀ w ∈ wsX50, w ∈ wsX5_start := fun _ h => List.mem_cons_of_mem _ (List.mem_append_left _ (List.mem_append_left _ (List.mem_append_left _ (List.mem_append_left _ (List.mem_append_left _ (List.mem_append_right _ (h)))))))
  refine lv_iload_n hx hb dX5_start_0 rfl (lv_at hl 1 rfl) ?_
  refine cTSv S5 hK hP hD hS hT (fun _ h => hA _ _ hS.1 h) (As := [.int p1]) (kX5_needPlayer l D cA ad sa hst _ _) (va_cwS 1 hts gX5_start_X5_needPlayer rfl rfl rfl (by decide +kernel) ⟨(Nat.le_of_ble_eq_true rfl), (Nat.le_of_ble_eq_true rfl)⟩) rfl hl.1 (st0 := _) (rest := []) rfl (Nat.le_of_ble_eq_true rfl) dX5_start_1 ⟨(Nat.le_of_ble_eq_true rfl), (Nat.le_of_ble_eq_true rfl)⟩ (fun c1 E ce q9 H locs hE h1 h2 h3 hP hS => ?_) (fun c1 H locs hP hS => ?_)
  · rw [if_neg c1] at h
    obtain rfl := Option.some.inj h
    exact kx _ _ _ _ _ _ _ _ _ _ c1 hE h1 h2 h3 hP hS (by decide) (by decide)
  · rw [if_pos c1] at h
    refine lv_aload_n hx hb dX5_start_4 rfl (lv_at hl 0 rfl) ?_
    refine gX5_game S5 hin hK hP (List.mem_of_getElem? (i := 3) rfl) dX5_start_5 ?_
    refine cVX S5 hK hP 0 rfl rfl (As := []) (kX1_canOpen l D cA ad _) (cwV 0 hts gX5_start_X1_canOpen rfl rfl rfl (by decide +kernel) ⟨(Nat.le_of_ble_eq_true rfl), (Nat.le_of_ble_eq_true rfl)⟩) rfl hl.1 (st0 := _) (rest := []) rfl (Nat.le_of_ble_eq_true rfl) dX5_start_8 ⟨(Nat.le_of_ble_eq_true rfl), (Nat.le_of_ble_eq_true rfl)⟩ ?_
    refine lv_if_ne (tgt := 24) hx hb dX5_start_11 (by decide) (fun c2 => ?_) (fun c2 => ?_)
    · rw [if_neg c2] at h
      refine lv_aload_n hx hb dX5_start_24 rfl (lv_at hl 0 rfl) ?_
      refine gX5_solver S5 hin hK hP (List.mem_of_getElem? (i := 4) rfl) dX5_start_25 ?_
      obtain ⟨q3, hqq3, h⟩ := obind_some h
      refine cWvX S5 hK hP hD hS (fun _ h => hA _ _ hS.1 h) 6 rfl rfl (As := []) (kX4_forget l D cA ad _ _ hqq3) (cwV 0 hts gX5_start_X4_forget rfl rfl rfl (by decide +kernel) ⟨(Nat.le_of_ble_eq_true rfl), (Nat.le_of_ble_eq_true rfl)⟩) rfl hl.1 (st0 := _) (rest := []) rfl (Nat.le_of_ble_eq_true rfl) dX5_start_28 ⟨(Nat.le_of_ble_eq_true rfl), (Nat.le_of_ble_eq_true rfl)⟩ (fun H locs hz hP hS => ?_)
      refine lv_aload_n hx hb dX5_start_31 rfl (lv_at hl 0 rfl) ?_
      refine gX5_game S5 hin hK hP (List.mem_of_getElem? (i := 3) rfl) dX5_start_32 ?_
      refine lv_iload_n hx hb dX5_start_35 rfl (lv_at hl 1 rfl) ?_
      refine cWiX S5 hK hP hD hS (fun _ h => hA _ _ hS.1 h) 0 rfl rfl (As := [.int p1]) (kX1_open l D cA ad _ _) (cwV 1 hts gX5_start_X1_open rfl rfl rfl (by decide +kernel) ⟨(Nat.le_of_ble_eq_true rfl), (Nat.le_of_ble_eq_true rfl)⟩) rfl hl.1 (st0 := _) (rest := []) rfl (Nat.le_of_ble_eq_true rfl) dX5_start_36 ⟨(Nat.le_of_ble_eq_true rfl), (Nat.le_of_ble_eq_true rfl)⟩ (fun H locs hz hP hS => ?_)
      obtain rfl := Option.some.inj h
      refine W.widen (k := 2) (n := 12) (by decide) (by decide) ?_
      exact kr _ _ _ _ _ rfl rfl rfl hP hS dX5_start_39
    · rw [if_pos c2] at h
      obtain rfl := Option.some.inj h
      exact kt 2 56 60 69 "the game cannot be started" _ _ _ _ _ _ _ rfl (by decide) xf2 (List.mem_of_getElem? (i := 1) rfl) (List.mem_of_getElem? (i := 2) rfl) (fun _ h => List.mem_cons_of_mem _ (List.mem_append_left _ (List.mem_append_right _ (h)))) xb2 xg2 (List.mem_of_getElem? (i := 4) rfl) hl.1 hP hS dX5_start_14 dX5_start_17 dX5_start_18 dX5_start_20 dX5_start_23 (Nat.le_of_ble_eq_true rfl) (Nat.le_of_ble_eq_true rfl) (Nat.le_of_ble_eq_true rfl) (Nat.le_of_ble_eq_true rfl) (by decide) (by decide)

-- X5_isStarted
def fX5_isStarted (M : Mem) : Option (Int32) := (obind (fX1_isOpen M) (fun q1 => (if vb q1 = true then some (q1) else none)))
def rmX5_isStarted : Room := { frames := 1, cells := 0, slots := 0, locals := 20 }
set_option maxHeartbeats 4000000 in
set_option maxRecDepth 100000 in
theorem kX5_isStarted (l : Launch) (D : va_G) (cA : Nat) (ad : Nat → Nat) (M : Mem) (r : Int32) (h : fX5_isStarted M = some r) : RdX l yX5_isStarted wsX5_isStarted rmX5_isStarted D cA ad M [.ref (ad 8)] r := by
  unfold fX5_isStarted at h
  refine RdX.of RX5 rfl rfl rfl (Nat.le_of_ble_eq_true rfl) ?_
  intro p e s m args below meth c Q ls S5 hK hP hl kr
  obtain ⟨hx, hb, -, -, hts⟩ := id S5
  have hin : ∀ w ∈ wsX50, w ∈ wsX5_isStarted := fun _ h => List.mem_cons_of_mem _ (List.mem_append_left _ (List.mem_append_right _ (h)))
  refine lv_aload_n hx hb dX5_isStarted_0 rfl (lv_at hl 0 rfl) ?_
  refine gX5_game S5 hin hK hP (List.mem_of_getElem? (i := 1) rfl) dX5_isStarted_1 ?_
  obtain ⟨q1, hqq1, h⟩ := obind_some h
  refine cVX S5 hK hP 0 rfl rfl (As := []) (kX1_isOpen l D cA ad _ _ hqq1) (cwV 0 hts gX5_isStarted_X1_isOpen rfl rfl rfl (by decide +kernel) ⟨(Nat.le_of_ble_eq_true rfl), (Nat.le_of_ble_eq_true rfl)⟩) rfl hl.1 (st0 := _) (rest := []) rfl (Nat.le_of_ble_eq_true rfl) dX5_isStarted_4 ⟨Nat.zero_le _, Nat.zero_le _⟩ ?_
  obtain ⟨g2, h⟩ := gd_some h
  obtain rfl := Option.some.inj h
  exact kr _ _ _ rfl (nb (vb_or g2)) dX5_isStarted_7

-- X5_play
def fX5_play (p1 : Int32) (M : Mem) : Option (Res) := (if (fX5_needCard p1 M).1 = 0 then (if (fX5_needPlayable p1 ((fX5_needCard p1 M).2.2)).1 = 0 then (obind (fX1_lay p1 ((fX5_needPlayable p1 ((fX5_needCard p1 M).2.2)).2.2)) (fun q3 => some (0, q3.1, q3.2))) else some ((fX5_needPlayable p1 ((fX5_needCard p1 M).2.2)).1, 0, (fX5_needPlayable p1 ((fX5_needCard p1 M).2.2)).2.2)) else some ((fX5_needCard p1 M).1, 0, (fX5_needCard p1 M).2.2))
def rmX5_play : Room := { frames := 8, cells := 2, slots := 12, locals := 103 }
set_option maxHeartbeats 4000000 in
set_option maxRecDepth 100000 in
theorem kX5_play (l : Launch) (D : va_G) (cA : Nat) (ad : Nat → Nat) (sa : Nat → Nat) (hst : l.stackTraces = false) (p1 : Int32) (M : Mem) (r : Res) (h : fX5_play p1 M = some r) : Ti l yX5_play wsX5_play rmX5_play D cA ad sa M [.ref (ad 8), .int p1] 2 12 r := by
  unfold fX5_play at h
  refine Ti.of hst rfl rfl rfl (Nat.le_of_ble_eq_true rfl) ?_
  intro p e s m args below meth c Q ls A eA S5 hK hP hD hS hT hl kr kt kx
  have hA : ∀ (H : Heap) (q : Nat), s.heap.size ≤ H.size → AX ad H.size q → A q := fun H q hz h => by rw [eA]; exact AX.mono hz h
  obtain ⟨hx, hb, -, -, hts⟩ := id S5
  have hin : ∀ w ∈ wsX50, w ∈ wsX5_play := fun _ h => List.mem_cons_of_mem _ (List.mem_append_left _ (List.mem_append_left _ (List.mem_append_left _ (List.mem_append_right _ (h)))))
  refine lv_iload_n hx hb dX5_play_0 rfl (lv_at hl 1 rfl) ?_
  refine cTSv S5 hK hP hD hS hT (fun _ h => hA _ _ hS.1 h) (As := [.int p1]) (kX5_needCard l D cA ad sa hst _ _) (va_cwS 1 hts gX5_play_X5_needCard rfl rfl rfl (by decide +kernel) ⟨(Nat.le_of_ble_eq_true rfl), (Nat.le_of_ble_eq_true rfl)⟩) rfl hl.1 (st0 := _) (rest := []) rfl (Nat.le_of_ble_eq_true rfl) dX5_play_1 ⟨(Nat.le_of_ble_eq_true rfl), (Nat.le_of_ble_eq_true rfl)⟩ (fun c1 E ce q9 H locs hE h1 h2 h3 hP hS => ?_) (fun c1 H locs hP hS => ?_)
  · rw [if_neg c1] at h
    obtain rfl := Option.some.inj h
    exact kx _ _ _ _ _ _ _ _ _ _ c1 hE h1 h2 h3 hP hS (by decide) (by decide)
  · rw [if_pos c1] at h
    refine lv_aload_n hx hb dX5_play_4 rfl (lv_at hl 0 rfl) ?_
    refine lv_iload_n hx hb dX5_play_5 rfl (lv_at hl 1 rfl) ?_
    refine cTVv S5 hK hP hD hS hT (fun _ h => hA _ _ hS.1 h) 8 rfl rfl (As := [.int p1]) (kX5_needPlayable l D cA ad sa hst _ _) (cwV 1 hts gX5_play_X5_needPlayable rfl rfl rfl (by decide +kernel) ⟨(Nat.le_of_ble_eq_true rfl), (Nat.le_of_ble_eq_true rfl)⟩) rfl hl.1 (st0 := _) (rest := []) rfl (Nat.le_of_ble_eq_true rfl) dX5_play_6 ⟨(Nat.le_of_ble_eq_true rfl), (Nat.le_of_ble_eq_true rfl)⟩ (fun c2 E ce q9 H locs hE h1 h2 h3 hP hS => ?_) (fun c2 H locs hP hS => ?_)
    · rw [if_neg c2] at h
      obtain rfl := Option.some.inj h
      exact kx _ _ _ _ _ _ _ _ _ _ c2 hE h1 h2 h3 hP hS (by decide) (by decide)
    · rw [if_pos c2] at h
      refine lv_aload_n hx hb dX5_play_9 rfl (lv_at hl 0 rfl) ?_
      refine gX5_game S5 hin hK hP (List.mem_of_getElem? (i := 1) rfl) dX5_play_10 ?_
      refine lv_iload_n hx hb dX5_play_13 rfl (lv_at hl 1 rfl) ?_
      obtain ⟨q3, hqq3, h⟩ := obind_some h
      refine cWiX S5 hK hP hD hS (fun _ h => hA _ _ hS.1 h) 0 rfl rfl (As := [.int p1]) (kX1_lay l D cA ad _ _ _ hqq3) (cwV 1 hts gX5_play_X1_lay rfl rfl rfl (by decide +kernel) ⟨(Nat.le_of_ble_eq_true rfl), (Nat.le_of_ble_eq_true rfl)⟩) rfl hl.1 (st0 := _) (rest := []) rfl (Nat.le_of_ble_eq_true rfl) dX5_play_14 ⟨(Nat.le_of_ble_eq_true rfl), (Nat.le_of_ble_eq_true rfl)⟩ (fun H locs hz hP hS => ?_)
      obtain rfl := Option.some.inj h
      refine W.widen (k := 2) (n := 12) (by decide) (by decide) ?_
      exact kr _ _ _ _ _ rfl rfl rfl hP hS dX5_play_17

-- X5_takeBack
def fX5_takeBack (M : Mem) : Res := (if (fX1_laidCount M) = 0 then (2, 0, M) else (0, (fX1_lift M).1, (fX1_lift M).2))
def rmX5_takeBack : Room := { frames := 7, cells := 1, slots := 6, locals := 82 }
set_option maxHeartbeats 4000000 in
set_option maxRecDepth 100000 in
theorem kX5_takeBack (l : Launch) (D : va_G) (cA : Nat) (ad : Nat → Nat) (sa : Nat → Nat) (hst : l.stackTraces = false) (M : Mem) : Ti l yX5_takeBack wsX5_takeBack rmX5_takeBack D cA ad sa M [.ref (ad 8)] 1 6 (fX5_takeBack M) := by
  obtain ⟨r, h⟩ : ∃ r, fX5_takeBack M = r := ⟨_, rfl⟩
  rw [h]
  unfold fX5_takeBack at h
  refine Ti.of hst rfl rfl rfl (Nat.le_of_ble_eq_true rfl) ?_
  intro p e s m args below meth c Q ls A eA S5 hK hP hD hS hT hl kr kt kx
  have hA : ∀ (H : Heap) (q : Nat), s.heap.size ≤ H.size → AX ad H.size q → A q := fun H q hz h => by rw [eA]; exact AX.mono hz h
  obtain ⟨hx, hb, -, -, hts⟩ := id S5
  have hin : ∀ w ∈ wsX50, w ∈ wsX5_takeBack := fun _ h => List.mem_cons_of_mem _ (List.mem_append_left _ (List.mem_append_left _ (List.mem_append_right _ (h))))
  refine lv_aload_n hx hb dX5_takeBack_0 rfl (lv_at hl 0 rfl) ?_
  refine gX5_game S5 hin hK hP (List.mem_of_getElem? (i := 3) rfl) dX5_takeBack_1 ?_
  refine cVX S5 hK hP 0 rfl rfl (As := []) (kX1_laidCount l D cA ad _) (cwV 0 hts gX5_takeBack_X1_laidCount rfl rfl rfl (by decide +kernel) ⟨(Nat.le_of_ble_eq_true rfl), (Nat.le_of_ble_eq_true rfl)⟩) rfl hl.1 (st0 := _) (rest := []) rfl (Nat.le_of_ble_eq_true rfl) dX5_takeBack_4 ⟨(Nat.le_of_ble_eq_true rfl), (Nat.le_of_ble_eq_true rfl)⟩ ?_
  refine lv_if_ne (tgt := 20) hx hb dX5_takeBack_7 (by decide) (fun c1 => ?_) (fun c1 => ?_)
  · rw [if_neg c1] at h
    refine lv_aload_n hx hb dX5_takeBack_20 rfl (lv_at hl 0 rfl) ?_
    refine gX5_game S5 hin hK hP (List.mem_of_getElem? (i := 3) rfl) dX5_takeBack_21 ?_
    refine cWiX S5 hK hP hD hS (fun _ h => hA _ _ hS.1 h) 0 rfl rfl (As := []) (kX1_lift l D cA ad _) (cwV 0 hts gX5_takeBack_X1_lift rfl rfl rfl (by decide +kernel) ⟨(Nat.le_of_ble_eq_true rfl), (Nat.le_of_ble_eq_true rfl)⟩) rfl hl.1 (st0 := _) (rest := []) rfl (Nat.le_of_ble_eq_true rfl) dX5_takeBack_24 ⟨(Nat.le_of_ble_eq_true rfl), (Nat.le_of_ble_eq_true rfl)⟩ (fun H locs hz hP hS => ?_)
    subst h
    refine W.widen (k := 1) (n := 6) (by decide) (by decide) ?_
    exact kr _ _ _ _ _ rfl rfl rfl hP hS dX5_takeBack_27
  · rw [if_pos c1] at h
    subst h
    exact kt 2 56 60 90 "no card has been played" _ _ _ _ _ _ _ rfl (by decide) xf2 (List.mem_of_getElem? (i := 1) rfl) (List.mem_of_getElem? (i := 2) rfl) (fun _ h => List.mem_cons_of_mem _ (List.mem_append_right _ (h))) xb2 xg2 (List.mem_of_getElem? (i := 6) rfl) hl.1 hP hS dX5_takeBack_10 dX5_takeBack_13 dX5_takeBack_14 dX5_takeBack_16 dX5_takeBack_19 (Nat.le_of_ble_eq_true rfl) (Nat.le_of_ble_eq_true rfl) (Nat.le_of_ble_eq_true rfl) (Nat.le_of_ble_eq_true rfl) (by decide) (by decide)

-- X5_canPlay
def fX5_canPlay (p1 : Int32) (M : Mem) : Res := (if (fX5_needCard p1 M).1 = 0 then (0, fX0_holds (fX1_playable ((fX5_needCard p1 M).2.2)) p1, (fX5_needCard p1 M).2.2) else ((fX5_needCard p1 M).1, 0, (fX5_needCard p1 M).2.2))
def rmX5_canPlay : Room := { frames := 8, cells := 1, slots := 6, locals := 102 }
set_option maxHeartbeats 4000000 in
set_option maxRecDepth 100000 in
theorem kX5_canPlay (l : Launch) (D : va_G) (cA : Nat) (ad : Nat → Nat) (sa : Nat → Nat) (hst : l.stackTraces = false) (p1 : Int32) (M : Mem) : Ti l yX5_canPlay wsX5_canPlay rmX5_canPlay D cA ad sa M [.ref (ad 8), .int p1] 1 6 (fX5_canPlay p1 M) := by
  obtain ⟨r, h⟩ : ∃ r, fX5_canPlay p1 M = r := ⟨_, rfl⟩
  rw [h]
  unfold fX5_canPlay at h
  refine Ti.of hst rfl rfl rfl (Nat.le_of_ble_eq_true rfl) ?_
  intro p e s m args below meth c Q ls A eA S5 hK hP hD hS hT hl kr kt kx
  have hA : ∀ (H : Heap) (q : Nat), s.heap.size ≤ H.size → AX ad H.size q → A q := fun H q hz h => by rw [eA]; exact AX.mono hz h
  obtain ⟨hx, hb, -, -, hts⟩ := id S5
  have hin : ∀ w ∈ wsX50, w ∈ wsX5_canPlay := fun _ h => List.mem_cons_of_mem _ (List.mem_append_left _ (List.mem_append_left _ (List.mem_append_right _ (h))))
  refine lv_iload_n hx hb dX5_canPlay_0 rfl (lv_at hl 1 rfl) ?_
  refine cTSv S5 hK hP hD hS hT (fun _ h => hA _ _ hS.1 h) (As := [.int p1]) (kX5_needCard l D cA ad sa hst _ _) (va_cwS 1 hts gX5_canPlay_X5_needCard rfl rfl rfl (by decide +kernel) ⟨(Nat.le_of_ble_eq_true rfl), (Nat.le_of_ble_eq_true rfl)⟩) rfl hl.1 (st0 := _) (rest := []) rfl (Nat.le_of_ble_eq_true rfl) dX5_canPlay_1 ⟨(Nat.le_of_ble_eq_true rfl), (Nat.le_of_ble_eq_true rfl)⟩ (fun c1 E ce q9 H locs hE h1 h2 h3 hP hS => ?_) (fun c1 H locs hP hS => ?_)
  · rw [if_neg c1] at h
    subst h
    exact kx _ _ _ _ _ _ _ _ _ _ c1 hE h1 h2 h3 hP hS (by decide) (by decide)
  · rw [if_pos c1] at h
    refine lv_aload_n hx hb dX5_canPlay_4 rfl (lv_at hl 0 rfl) ?_
    refine gX5_game S5 hin hK hP (List.mem_of_getElem? (i := 1) rfl) dX5_canPlay_5 ?_
    refine cVX S5 hK hP 0 rfl rfl (As := []) (kX1_playable l D cA ad _) (cwV 0 hts gX5_canPlay_X1_playable rfl rfl rfl (by decide +kernel) ⟨(Nat.le_of_ble_eq_true rfl), (Nat.le_of_ble_eq_true rfl)⟩) rfl hl.1 (st0 := _) (rest := []) rfl (Nat.le_of_ble_eq_true rfl) dX5_canPlay_8 ⟨(Nat.le_of_ble_eq_true rfl), (Nat.le_of_ble_eq_true rfl)⟩ ?_
    refine lv_iload_n hx hb dX5_canPlay_11 rfl (lv_at hl 1 rfl) ?_
    refine cS S5 (As := [.int (fX1_playable ((fX5_needCard p1 M).2.2)), .int p1]) (kX0_holds l _ _) (va_cwS 2 hts gX5_canPlay_X0_holds rfl rfl rfl (by decide +kernel) ⟨(Nat.le_of_ble_eq_true rfl), (Nat.le_of_ble_eq_true rfl)⟩) rfl hl.1 (st0 := _) (rest := []) rfl (Nat.le_of_ble_eq_true rfl) dX5_canPlay_12 ⟨(Nat.le_of_ble_eq_true rfl), (Nat.le_of_ble_eq_true rfl)⟩ ?_
    subst h
    refine W.widen (k := 1) (n := 6) (by decide) (by decide) ?_
    exact kr _ _ _ _ _ rfl rfl (nb (vb_or (vb_X0_holds _ _))) hP hS dX5_canPlay_15

-- X5_turn
def fX5_turn (M : Mem) : Int32 := (fX1_mover M)
def rmX5_turn : Room := { frames := 2, cells := 0, slots := 0, locals := 41 }
set_option maxHeartbeats 4000000 in
set_option maxRecDepth 100000 in
theorem kX5_turn (l : Launch) (D : va_G) (cA : Nat) (ad : Nat → Nat) (M : Mem) : RdX l yX5_turn wsX5_turn rmX5_turn D cA ad M [.ref (ad 8)] (fX5_turn M) := by
  obtain ⟨r, h⟩ : ∃ r, fX5_turn M = r := ⟨_, rfl⟩
  rw [h]
  unfold fX5_turn at h
  refine RdX.of RX5 rfl rfl rfl (Nat.le_of_ble_eq_true rfl) ?_
  intro p e s m args below meth c Q ls S5 hK hP hl kr
  obtain ⟨hx, hb, -, -, hts⟩ := id S5
  have hin : ∀ w ∈ wsX50, w ∈ wsX5_turn := fun _ h => List.mem_cons_of_mem _ (List.mem_append_left _ (List.mem_append_right _ (h)))
  refine lv_aload_n hx hb dX5_turn_0 rfl (lv_at hl 0 rfl) ?_
  refine gX5_game S5 hin hK hP (List.mem_of_getElem? (i := 1) rfl) dX5_turn_1 ?_
  refine cVX S5 hK hP 0 rfl rfl (As := []) (kX1_mover l D cA ad _) (cwV 0 hts gX5_turn_X1_mover rfl rfl rfl (by decide +kernel) ⟨(Nat.le_of_ble_eq_true rfl), (Nat.le_of_ble_eq_true rfl)⟩) rfl hl.1 (st0 := _) (rest := []) rfl (Nat.le_of_ble_eq_true rfl) dX5_turn_4 ⟨Nat.zero_le _, Nat.zero_le _⟩ ?_
  subst h
  exact kr _ _ _ rfl rfl dX5_turn_7

-- X5_hand
def fX5_hand (p1 : Int32) (M : Mem) : Res := (if (fX5_needPlayer p1 M).1 = 0 then (0, fX1_handOf p1 ((fX5_needPlayer p1 M).2.2), (fX5_needPlayer p1 M).2.2) else ((fX5_needPlayer p1 M).1, 0, (fX5_needPlayer p1 M).2.2))
def rmX5_hand : Room := { frames := 8, cells := 1, slots := 6, locals := 102 }
set_option maxHeartbeats 4000000 in
set_option maxRecDepth 100000 in
theorem kX5_hand (l : Launch) (D : va_G) (cA : Nat) (ad : Nat → Nat) (sa : Nat → Nat) (hst : l.stackTraces = false) (p1 : Int32) (M : Mem) : Ti l yX5_hand wsX5_hand rmX5_hand D cA ad sa M [.ref (ad 8), .int p1] 1 6 (fX5_hand p1 M) := by
  obtain ⟨r, h⟩ : ∃ r, fX5_hand p1 M = r := ⟨_, rfl⟩
  rw [h]
  unfold fX5_hand at h
  refine Ti.of hst rfl rfl rfl (Nat.le_of_ble_eq_true rfl) ?_
  intro p e s m args below meth c Q ls A eA S5 hK hP hD hS hT hl kr kt kx
  have hA : ∀ (H : Heap) (q : Nat), s.heap.size ≤ H.size → AX ad H.size q → A q := fun H q hz h => by rw [eA]; exact AX.mono hz h
  obtain ⟨hx, hb, -, -, hts⟩ := id S5
  have hin : ∀ w ∈ wsX50, w ∈ wsX5_hand := fun _ h => List.mem_cons_of_mem _ (List.mem_append_left _ (List.mem_append_left _ (List.mem_append_right _ (h))))
  refine lv_iload_n hx hb dX5_hand_0 rfl (lv_at hl 1 rfl) ?_
  refine cTSv S5 hK hP hD hS hT (fun _ h => hA _ _ hS.1 h) (As := [.int p1]) (kX5_needPlayer l D cA ad sa hst _ _) (va_cwS 1 hts gX5_hand_X5_needPlayer rfl rfl rfl (by decide +kernel) ⟨(Nat.le_of_ble_eq_true rfl), (Nat.le_of_ble_eq_true rfl)⟩) rfl hl.1 (st0 := _) (rest := []) rfl (Nat.le_of_ble_eq_true rfl) dX5_hand_1 ⟨(Nat.le_of_ble_eq_true rfl), (Nat.le_of_ble_eq_true rfl)⟩ (fun c1 E ce q9 H locs hE h1 h2 h3 hP hS => ?_) (fun c1 H locs hP hS => ?_)
  · rw [if_neg c1] at h
    subst h
    exact kx _ _ _ _ _ _ _ _ _ _ c1 hE h1 h2 h3 hP hS (by decide) (by decide)
  · rw [if_pos c1] at h
    refine lv_aload_n hx hb dX5_hand_4 rfl (lv_at hl 0 rfl) ?_
    refine gX5_game S5 hin hK hP (List.mem_of_getElem? (i := 1) rfl) dX5_hand_5 ?_
    refine lv_iload_n hx hb dX5_hand_8 rfl (lv_at hl 1 rfl) ?_
    refine cVX S5 hK hP 0 rfl rfl (As := [.int p1]) (kX1_handOf l D cA ad _ _) (cwV 1 hts gX5_hand_X1_handOf rfl rfl rfl (by decide +kernel) ⟨(Nat.le_of_ble_eq_true rfl), (Nat.le_of_ble_eq_true rfl)⟩) rfl hl.1 (st0 := _) (rest := []) rfl (Nat.le_of_ble_eq_true rfl) dX5_hand_9 ⟨(Nat.le_of_ble_eq_true rfl), (Nat.le_of_ble_eq_true rfl)⟩ ?_
    subst h
    refine W.widen (k := 1) (n := 6) (by decide) (by decide) ?_
    exact kr _ _ _ _ _ rfl rfl rfl hP hS dX5_hand_12

-- X5_inTrick
def fX5_inTrick (M : Mem) : Int32 := (fX1_trickSize M)
def rmX5_inTrick : Room := { frames := 1, cells := 0, slots := 0, locals := 20 }
set_option maxHeartbeats 4000000 in
set_option maxRecDepth 100000 in
theorem kX5_inTrick (l : Launch) (D : va_G) (cA : Nat) (ad : Nat → Nat) (M : Mem) : RdX l yX5_inTrick wsX5_inTrick rmX5_inTrick D cA ad M [.ref (ad 8)] (fX5_inTrick M) := by
  obtain ⟨r, h⟩ : ∃ r, fX5_inTrick M = r := ⟨_, rfl⟩
  rw [h]
  unfold fX5_inTrick at h
  refine RdX.of RX5 rfl rfl rfl (Nat.le_of_ble_eq_true rfl) ?_
  intro p e s m args below meth c Q ls S5 hK hP hl kr
  obtain ⟨hx, hb, -, -, hts⟩ := id S5
  have hin : ∀ w ∈ wsX50, w ∈ wsX5_inTrick := fun _ h => List.mem_cons_of_mem _ (List.mem_append_left _ (List.mem_append_right _ (h)))
  refine lv_aload_n hx hb dX5_inTrick_0 rfl (lv_at hl 0 rfl) ?_
  refine gX5_game S5 hin hK hP (List.mem_of_getElem? (i := 1) rfl) dX5_inTrick_1 ?_
  refine cVX S5 hK hP 0 rfl rfl (As := []) (kX1_trickSize l D cA ad _) (cwV 0 hts gX5_inTrick_X1_trickSize rfl rfl rfl (by decide +kernel) ⟨(Nat.le_of_ble_eq_true rfl), (Nat.le_of_ble_eq_true rfl)⟩) rfl hl.1 (st0 := _) (rest := []) rfl (Nat.le_of_ble_eq_true rfl) dX5_inTrick_4 ⟨Nat.zero_le _, Nat.zero_le _⟩ ?_
  subst h
  exact kr _ _ _ rfl rfl dX5_inTrick_7

-- X5_cardIn
def fX5_cardIn (p1 : Int32) (M : Mem) : Res := (if p1 < 0 then (3, 0, M) else (if p1 < (fX1_trickSize M) then (0, fX1_trickCard p1 M, M) else (3, 0, M)))
def rmX5_cardIn : Room := { frames := 7, cells := 1, slots := 6, locals := 82 }
set_option maxHeartbeats 4000000 in
set_option maxRecDepth 100000 in
theorem kX5_cardIn (l : Launch) (D : va_G) (cA : Nat) (ad : Nat → Nat) (sa : Nat → Nat) (hst : l.stackTraces = false) (p1 : Int32) (M : Mem) : Ti l yX5_cardIn wsX5_cardIn rmX5_cardIn D cA ad sa M [.ref (ad 8), .int p1] 1 6 (fX5_cardIn p1 M) := by
  obtain ⟨r, h⟩ : ∃ r, fX5_cardIn p1 M = r := ⟨_, rfl⟩
  rw [h]
  unfold fX5_cardIn at h
  refine Ti.of hst rfl rfl rfl (Nat.le_of_ble_eq_true rfl) ?_
  intro p e s m args below meth c Q ls A eA S5 hK hP hD hS hT hl kr kt kx
  have hA : ∀ (H : Heap) (q : Nat), s.heap.size ≤ H.size → AX ad H.size q → A q := fun H q hz h => by rw [eA]; exact AX.mono hz h
  obtain ⟨hx, hb, -, -, hts⟩ := id S5
  have hin : ∀ w ∈ wsX50, w ∈ wsX5_cardIn := fun _ h => List.mem_cons_of_mem _ (List.mem_append_left _ (List.mem_append_left _ (List.mem_append_right _ (h))))
  refine lv_iload_n hx hb dX5_cardIn_0 rfl (lv_at hl 1 rfl) ?_
  refine lv_if_lt (tgt := 15) hx hb dX5_cardIn_1 (by decide) (fun c1 => ?_) (fun c1 => ?_)
  · rw [if_pos c1] at h
    subst h
    exact kt 3 110 114 112 "no such card in the trick" _ _ _ _ _ _ _ rfl (by decide) xf3 (List.mem_of_getElem? (i := 1) rfl) (List.mem_of_getElem? (i := 2) rfl) (fun _ h => List.mem_cons_of_mem _ (List.mem_append_right _ (h))) xb3 xg3 (List.mem_of_getElem? (i := 12) rfl) hl.1 hP hS dX5_cardIn_15 dX5_cardIn_18 dX5_cardIn_19 dX5_cardIn_21 dX5_cardIn_24 (Nat.le_of_ble_eq_true rfl) (Nat.le_of_ble_eq_true rfl) (Nat.le_of_ble_eq_true rfl) (Nat.le_of_ble_eq_true rfl) (by decide) (by decide)
  · rw [if_neg c1] at h
    refine lv_iload_n hx hb dX5_cardIn_4 rfl (lv_at hl 1 rfl) ?_
    refine lv_aload_n hx hb dX5_cardIn_5 rfl (lv_at hl 0 rfl) ?_
    refine gX5_game S5 hin hK hP (List.mem_of_getElem? (i := 3) rfl) dX5_cardIn_6 ?_
    refine cVX S5 hK hP 0 rfl rfl (As := []) (kX1_trickSize l D cA ad _) (cwV 0 hts gX5_cardIn_X1_trickSize rfl rfl rfl (by decide +kernel) ⟨(Nat.le_of_ble_eq_true rfl), (Nat.le_of_ble_eq_true rfl)⟩) rfl hl.1 (st0 := _) (rest := [.int p1]) rfl (Nat.le_of_ble_eq_true rfl) dX5_cardIn_9 ⟨(Nat.le_of_ble_eq_true rfl), (Nat.le_of_ble_eq_true rfl)⟩ ?_
    refine lv_icmp_lt (tgt := 25) hx hb dX5_cardIn_12 (by decide) (fun c2 => ?_) (fun c2 => ?_)
    · rw [if_pos c2] at h
      refine lv_aload_n hx hb dX5_cardIn_25 rfl (lv_at hl 0 rfl) ?_
      refine gX5_game S5 hin hK hP (List.mem_of_getElem? (i := 3) rfl) dX5_cardIn_26 ?_
      refine lv_iload_n hx hb dX5_cardIn_29 rfl (lv_at hl 1 rfl) ?_
      refine cVX S5 hK hP 0 rfl rfl (As := [.int p1]) (kX1_trickCard l D cA ad _ _) (cwV 1 hts gX5_cardIn_X1_trickCard rfl rfl rfl (by decide +kernel) ⟨(Nat.le_of_ble_eq_true rfl), (Nat.le_of_ble_eq_true rfl)⟩) rfl hl.1 (st0 := _) (rest := []) rfl (Nat.le_of_ble_eq_true rfl) dX5_cardIn_30 ⟨(Nat.le_of_ble_eq_true rfl), (Nat.le_of_ble_eq_true rfl)⟩ ?_
      subst h
      refine W.widen (k := 1) (n := 6) (by decide) (by decide) ?_
      exact kr _ _ _ _ _ rfl rfl rfl hP hS dX5_cardIn_33
    · rw [if_neg c2] at h
      subst h
      exact kt 3 110 114 112 "no such card in the trick" _ _ _ _ _ _ _ rfl (by decide) xf3 (List.mem_of_getElem? (i := 1) rfl) (List.mem_of_getElem? (i := 2) rfl) (fun _ h => List.mem_cons_of_mem _ (List.mem_append_right _ (h))) xb3 xg3 (List.mem_of_getElem? (i := 12) rfl) hl.1 hP hS dX5_cardIn_15 dX5_cardIn_18 dX5_cardIn_19 dX5_cardIn_21 dX5_cardIn_24 (Nat.le_of_ble_eq_true rfl) (Nat.le_of_ble_eq_true rfl) (Nat.le_of_ble_eq_true rfl) (Nat.le_of_ble_eq_true rfl) (by decide) (by decide)

-- X5_won
def fX5_won (p1 : Int32) (M : Mem) : Option (Res) := (if p1 < 0 then some (1, 0, M) else (if p1 < 2 then (obind (fX1_tricksOf p1 M) (fun q3 => some (0, q3, M))) else some (1, 0, M)))
def rmX5_won : Room := { frames := 7, cells := 1, slots := 6, locals := 82 }
set_option maxHeartbeats 4000000 in
set_option maxRecDepth 100000 in
theorem kX5_won (l : Launch) (D : va_G) (cA : Nat) (ad : Nat → Nat) (sa : Nat → Nat) (hst : l.stackTraces = false) (p1 : Int32) (M : Mem) (r : Res) (h : fX5_won p1 M = some r) : Ti l yX5_won wsX5_won rmX5_won D cA ad sa M [.ref (ad 8), .int p1] 1 6 r := by
  unfold fX5_won at h
  refine Ti.of hst rfl rfl rfl (Nat.le_of_ble_eq_true rfl) ?_
  intro p e s m args below meth c Q ls A eA S5 hK hP hD hS hT hl kr kt kx
  have hA : ∀ (H : Heap) (q : Nat), s.heap.size ≤ H.size → AX ad H.size q → A q := fun H q hz h => by rw [eA]; exact AX.mono hz h
  obtain ⟨hx, hb, -, -, hts⟩ := id S5
  have hin : ∀ w ∈ wsX50, w ∈ wsX5_won := fun _ h => List.mem_cons_of_mem _ (List.mem_append_left _ (List.mem_append_left _ (List.mem_append_right _ (h))))
  refine lv_iload_n hx hb dX5_won_0 rfl (lv_at hl 1 rfl) ?_
  refine lv_if_lt (tgt := 9) hx hb dX5_won_1 (by decide) (fun c1 => ?_) (fun c1 => ?_)
  · rw [if_pos c1] at h
    obtain rfl := Option.some.inj h
    exact kt 1 34 38 118 "side is out of range" _ _ _ _ _ _ _ rfl (by decide) xf1 (List.mem_of_getElem? (i := 1) rfl) (List.mem_of_getElem? (i := 2) rfl) (fun _ h => List.mem_cons_of_mem _ (List.mem_append_right _ (h))) xb1 xg1 (List.mem_of_getElem? (i := 11) rfl) hl.1 hP hS dX5_won_9 dX5_won_12 dX5_won_13 dX5_won_15 dX5_won_18 (Nat.le_of_ble_eq_true rfl) (Nat.le_of_ble_eq_true rfl) (Nat.le_of_ble_eq_true rfl) (Nat.le_of_ble_eq_true rfl) (by decide) (by decide)
  · rw [if_neg c1] at h
    refine lv_iload_n hx hb dX5_won_4 rfl (lv_at hl 1 rfl) ?_
    refine lv_iconst (v := 2) hx hb dX5_won_5 (by decide) ?_
    refine lv_icmp_lt (tgt := 19) hx hb dX5_won_6 (by decide) (fun c2 => ?_) (fun c2 => ?_)
    · rw [if_pos c2] at h
      refine lv_aload_n hx hb dX5_won_19 rfl (lv_at hl 0 rfl) ?_
      refine gX5_game S5 hin hK hP (List.mem_of_getElem? (i := 3) rfl) dX5_won_20 ?_
      refine lv_iload_n hx hb dX5_won_23 rfl (lv_at hl 1 rfl) ?_
      obtain ⟨q3, hqq3, h⟩ := obind_some h
      refine cVX S5 hK hP 0 rfl rfl (As := [.int p1]) (kX1_tricksOf l D cA ad _ _ _ hqq3) (cwV 1 hts gX5_won_X1_tricksOf rfl rfl rfl (by decide +kernel) ⟨(Nat.le_of_ble_eq_true rfl), (Nat.le_of_ble_eq_true rfl)⟩) rfl hl.1 (st0 := _) (rest := []) rfl (Nat.le_of_ble_eq_true rfl) dX5_won_24 ⟨(Nat.le_of_ble_eq_true rfl), (Nat.le_of_ble_eq_true rfl)⟩ ?_
      obtain rfl := Option.some.inj h
      refine W.widen (k := 1) (n := 6) (by decide) (by decide) ?_
      exact kr _ _ _ _ _ rfl rfl rfl hP hS dX5_won_27
    · rw [if_neg c2] at h
      obtain rfl := Option.some.inj h
      exact kt 1 34 38 118 "side is out of range" _ _ _ _ _ _ _ rfl (by decide) xf1 (List.mem_of_getElem? (i := 1) rfl) (List.mem_of_getElem? (i := 2) rfl) (fun _ h => List.mem_cons_of_mem _ (List.mem_append_right _ (h))) xb1 xg1 (List.mem_of_getElem? (i := 11) rfl) hl.1 hP hS dX5_won_9 dX5_won_12 dX5_won_13 dX5_won_15 dX5_won_18 (Nat.le_of_ble_eq_true rfl) (Nat.le_of_ble_eq_true rfl) (Nat.le_of_ble_eq_true rfl) (Nat.le_of_ble_eq_true rfl) (by decide) (by decide)

-- X5_solve
def fX5_solve (S : Int32 → Int32 → Int32 → Mem → Option (Int32 × Mem)) (M : Mem) : Option (Res) := (obind (fX5_needStarted M) (fun q1 => (if q1.1 = 0 then (obind (fX4_mostOfSide0 S q1.2.2) (fun q3 => some (0, q3.1, q3.2))) else some (q1.1, 0, q1.2.2))))
def rmX5_solve (rv : Room) : Room := { frames := rv.frames + 8, cells := 1, slots := 6, locals := rv.locals + 102 }
set_option maxHeartbeats 4000000 in
set_option maxRecDepth 100000 in
theorem kX5_solve (l : Launch) (D : va_G) (cA : Nat) (ad : Nat → Nat) (sa : Nat → Nat) (hst : l.stackTraces = false) (S : Int32 → Int32 → Int32 → Mem → Option (Int32 × Mem)) (rv : Room) (hrv : rv.cells = 0 ∧ rv.slots = 0) (hyS : ∀ (a b c : Int32) (M : Mem) (r : Int32 × Mem), S a b c M = some r → WiX l yX4_search wsX4_search rv D cA ad M [.ref (ad 6), .int a, .int b, .int c] r) (M : Mem) (r : Res) (h : fX5_solve S M = some r) : Ti l yX5_solve wsX5_solve (rmX5_solve rv) D cA ad sa M [.ref (ad 8)] 1 6 r := by
  unfold fX5_solve at h
  refine Ti.of hst rfl rfl rfl (Nat.le_of_ble_eq_true rfl) ?_
  intro p e s m args below meth c Q ls A eA S5 hK hP hD hS hT hl kr kt kx
  have hA : ∀ (H : Heap) (q : Nat), s.heap.size ≤ H.size → AX ad H.size q → A q := fun H q hz h => by rw [eA]; exact AX.mono hz h
  obtain ⟨hx, hb, -, -, hts⟩ := id S5
  have hin : ∀ w ∈ wsX50, w ∈ wsX5_solve := fun _ h => List.mem_cons_of_mem _ (List.mem_append_left _ (List.mem_append_left _ (List.mem_append_left _ (List.mem_append_left _ (List.mem_append_right _ (h))))))
  refine lv_aload_n hx hb dX5_solve_0 rfl (lv_at hl 0 rfl) ?_
  obtain ⟨q1, hqq1, h⟩ := obind_some h
  refine cTVv S5 hK hP hD hS hT (fun _ h => hA _ _ hS.1 h) 8 rfl rfl (As := []) (kX5_needStarted l D cA ad sa hst _ _ hqq1) (cwV 0 hts gX5_solve_X5_needStarted rfl rfl rfl (by decide +kernel) ⟨(Nat.le_trans (Nat.le_of_ble_eq_true rfl) (Nat.le_add_left 8 _)), (Nat.le_trans (Nat.le_of_ble_eq_true rfl) (Nat.le_add_left 102 _))⟩) rfl hl.1 (st0 := _) (rest := []) rfl (Nat.le_of_ble_eq_true rfl) dX5_solve_1 ⟨(Nat.le_of_ble_eq_true rfl), (Nat.le_of_ble_eq_true rfl)⟩ (fun c2 E ce q9 H locs hE h1 h2 h3 hP hS => ?_) (fun c2 H locs hP hS => ?_)
  · rw [if_neg c2] at h
    obtain rfl := Option.some.inj h
    exact kx _ _ _ _ _ _ _ _ _ _ c2 hE h1 h2 h3 hP hS (by decide) (by decide)
  · rw [if_pos c2] at h
    refine lv_aload_n hx hb dX5_solve_4 rfl (lv_at hl 0 rfl) ?_
    refine gX5_solver S5 hin hK hP (List.mem_of_getElem? (i := 1) rfl) dX5_solve_5 ?_
    obtain ⟨q3, hqq3, h⟩ := obind_some h
    refine cWiX S5 hK hP hD hS (fun _ h => hA _ _ hS.1 h) 6 rfl rfl (As := []) (kX4_mostOfSide0 l D cA ad S rv hrv hyS _ _ hqq3) (cwV 0 hts gX5_solve_X4_mostOfSide0 rfl rfl rfl (by decide +kernel) ⟨(by show rv.frames + 2 + 1 ≤ rv.frames + 8; omega), (by show 8 + (1 + 11) + (rv.locals + 40) ≤ rv.locals + 102; omega)⟩) rfl hl.1 (st0 := _) (rest := []) rfl (Nat.le_of_ble_eq_true rfl) dX5_solve_8 ⟨(Nat.le_of_ble_eq_true rfl), (Nat.le_of_ble_eq_true rfl)⟩ (fun H locs hz hP hS => ?_)
    obtain rfl := Option.some.inj h
    refine W.widen (k := 1) (n := 6) (by decide) (by decide) ?_
    exact kr _ _ _ _ _ rfl rfl rfl hP hS dX5_solve_11

-- X5_solveByAll
def fX5_solveByAll (S : Int32 → Mem → Option (Int32 × Mem)) (M : Mem) : Option (Res) := (obind (fX5_needStarted M) (fun q1 => (if q1.1 = 0 then (if (fX1_cardsLeft q1.2.2) ≤ 12 then (obind (S (fX1_cardsLeft q1.2.2) q1.2.2) (fun q4 => some (0, q4.1, q4.2))) else some (2, 0, q1.2.2)) else some (q1.1, 0, q1.2.2))))
def rmX5_solveByAll (rv : Room) : Room := { frames := rv.frames + 8, cells := 2, slots := 12, locals := rv.locals + 102 }
set_option maxHeartbeats 4000000 in
set_option maxRecDepth 100000 in
theorem kX5_solveByAll (l : Launch) (D : va_G) (cA : Nat) (ad : Nat → Nat) (sa : Nat → Nat) (hst : l.stackTraces = false) (S : Int32 → Mem → Option (Int32 × Mem)) (rv : Room) (hrv : rv.cells = 0 ∧ rv.slots = 0) (hyS : ∀ (a : Int32) (M : Mem) (r : Int32 × Mem), S a M = some r → WiX l yX4_byAllPlays wsX4_byAllPlays rv D cA ad M [.ref (ad 0), .int a] r) (M : Mem) (r : Res) (h : fX5_solveByAll S M = some r) : Ti l yX5_solveByAll wsX5_solveByAll (rmX5_solveByAll rv) D cA ad sa M [.ref (ad 8)] 2 12 r := by
  unfold fX5_solveByAll at h
  refine Ti.of hst rfl rfl rfl (Nat.le_of_ble_eq_true rfl) ?_
  intro p e s m args below meth c Q ls A eA S5 hK hP hD hS hT hl kr kt kx
  have hA : ∀ (H : Heap) (q : Nat), s.heap.size ≤ H.size → AX ad H.size q → A q := fun H q hz h => by rw [eA]; exact AX.mono hz h
  obtain ⟨hx, hb, -, -, hts⟩ := id S5
  have hin : ∀ w ∈ wsX50, w ∈ wsX5_solveByAll := fun _ h => List.mem_cons_of_mem _ (List.mem_append_left _ (List.mem_append_left _ (List.mem_append_right _ (h))))
  refine lv_aload_n hx hb dX5_solveByAll_0 rfl (lv_at hl 0 rfl) ?_
  obtain ⟨q1, hqq1, h⟩ := obind_some h
  refine cTVv S5 hK hP hD hS hT (fun _ h => hA _ _ hS.1 h) 8 rfl rfl (As := []) (kX5_needStarted l D cA ad sa hst _ _ hqq1) (cwV 0 hts gX5_solveByAll_X5_needStarted rfl rfl rfl (by decide +kernel) ⟨(Nat.le_trans (Nat.le_of_ble_eq_true rfl) (Nat.le_add_left 8 _)), (Nat.le_trans (Nat.le_of_ble_eq_true rfl) (Nat.le_add_left 102 _))⟩) rfl hl.1 (st0 := _) (rest := []) rfl (Nat.le_of_ble_eq_true rfl) dX5_solveByAll_1 ⟨(Nat.le_of_ble_eq_true rfl), (Nat.le_of_ble_eq_true rfl)⟩ (fun c2 E ce q9 H locs hE h1 h2 h3 hP hS => ?_) (fun c2 H locs hP hS => ?_)
  · rw [if_neg c2] at h
    obtain rfl := Option.some.inj h
    exact kx _ _ _ _ _ _ _ _ _ _ c2 hE h1 h2 h3 hP hS (by decide) (by decide)
  · rw [if_pos c2] at h
    refine lv_aload_n hx hb dX5_solveByAll_4 rfl (lv_at hl 0 rfl) ?_
    refine gX5_game S5 hin hK hP (List.mem_of_getElem? (i := 3) rfl) dX5_solveByAll_5 ?_
    refine cVX S5 hK hP 0 rfl rfl (As := []) (kX1_cardsLeft l D cA ad _) (cwV 0 hts gX5_solveByAll_X1_cardsLeft rfl rfl rfl (by decide +kernel) ⟨(Nat.le_trans (Nat.le_of_ble_eq_true rfl) (Nat.le_add_left 8 _)), (Nat.le_trans (Nat.le_of_ble_eq_true rfl) (Nat.le_add_left 102 _))⟩) rfl hl.1 (st0 := _) (rest := []) rfl (Nat.le_of_ble_eq_true rfl) dX5_solveByAll_8 ⟨(Nat.le_of_ble_eq_true rfl), (Nat.le_of_ble_eq_true rfl)⟩ ?_
    refine lv_bipush (v := 12) hx hb dX5_solveByAll_11 (by decide) ?_
    refine lv_icmp_le (tgt := 26) hx hb dX5_solveByAll_13 (by decide) (fun c3 => ?_) (fun c3 => ?_)
    · rw [if_pos c3] at h
      refine lv_aload_n hx hb dX5_solveByAll_26 rfl (lv_at hl 0 rfl) ?_
      refine gX5_game S5 hin hK hP (List.mem_of_getElem? (i := 3) rfl) dX5_solveByAll_27 ?_
      refine lv_aload_n hx hb dX5_solveByAll_30 rfl (lv_at hl 0 rfl) ?_
      refine gX5_game S5 hin hK hP (List.mem_of_getElem? (i := 3) rfl) dX5_solveByAll_31 ?_
      refine cVX S5 hK hP 0 rfl rfl (As := []) (kX1_cardsLeft l D cA ad _) (cwV 0 hts gX5_solveByAll_X1_cardsLeft rfl rfl rfl (by decide +kernel) ⟨(Nat.le_trans (Nat.le_of_ble_eq_true rfl) (Nat.le_add_left 8 _)), (Nat.le_trans (Nat.le_of_ble_eq_true rfl) (Nat.le_add_left 102 _))⟩) rfl hl.1 (st0 := _) (rest := [.ref (ad 0)]) rfl (Nat.le_of_ble_eq_true rfl) dX5_solveByAll_34 ⟨(Nat.le_of_ble_eq_true rfl), (Nat.le_of_ble_eq_true rfl)⟩ ?_
      obtain ⟨q4, hqq4, h⟩ := obind_some h
      refine cNsX S5 hK hP hD hS (fun _ h => hA _ _ hS.1 h) (As := [.ref (ad 0), .int (fX1_cardsLeft q1.2.2)]) (hyS _ _ _ hqq4) ⟨va_cnB 2 hts gX5_solveByAll_X4_byAllPlays_n134 rfl hrv.1 hrv.2 hT.2.2.2.2.2 (hts _ (List.mem_of_getElem? (i := 22) rfl)) (by decide +kernel) ⟨(by show rv.frames + 1 ≤ rv.frames + 8; omega), (by show 8 + (8 + 11) + rv.locals ≤ rv.locals + 102; omega)⟩, hts _ (List.mem_of_getElem? (i := 21) rfl), trivial⟩ rfl hl.1 (st0 := _) (rest := []) rfl (Nat.le_of_ble_eq_true rfl) dX5_solveByAll_37 ⟨(Nat.le_of_ble_eq_true rfl), (Nat.le_of_ble_eq_true rfl)⟩ (fun H locs hz hP hS => ?_)
      obtain rfl := Option.some.inj h
      refine W.widen (k := 2) (n := 12) (by decide) (by decide) ?_
      exact kr _ _ _ _ _ rfl rfl rfl hP hS dX5_solveByAll_40
    · rw [if_neg c3] at h
      obtain rfl := Option.some.inj h
      exact kt 2 56 60 132 "too many cards are in hands" _ _ _ _ _ _ _ rfl (by decide) xf2 (List.mem_of_getElem? (i := 1) rfl) (List.mem_of_getElem? (i := 2) rfl) (fun _ h => List.mem_cons_of_mem _ (List.mem_append_right _ (h))) xb2 xg2 (List.mem_of_getElem? (i := 8) rfl) hl.1 hP hS dX5_solveByAll_16 dX5_solveByAll_19 dX5_solveByAll_20 dX5_solveByAll_22 dX5_solveByAll_25 (Nat.le_trans (Nat.le_of_ble_eq_true rfl) (Nat.le_add_left 8 _)) (Nat.le_trans (Nat.le_of_ble_eq_true rfl) (Nat.le_add_left 102 _)) (Nat.le_of_ble_eq_true rfl) (Nat.le_of_ble_eq_true rfl) (by decide) (by decide)

-- X5_value
def fX5_value (S : Int32 → Int32 → Int32 → Mem → Option (Int32 × Mem)) (p1 : Int32) (M : Mem) : Option (Res) := (if (fX5_needCard p1 M).1 = 0 then (if (fX5_needPlayable p1 ((fX5_needCard p1 M).2.2)).1 = 0 then (obind (fX4_worthOf S p1 ((fX5_needPlayable p1 ((fX5_needCard p1 M).2.2)).2.2)) (fun q3 => some (0, q3.1, q3.2))) else some ((fX5_needPlayable p1 ((fX5_needCard p1 M).2.2)).1, 0, (fX5_needPlayable p1 ((fX5_needCard p1 M).2.2)).2.2)) else some ((fX5_needCard p1 M).1, 0, (fX5_needCard p1 M).2.2))
def rmX5_value (rv : Room) : Room := { frames := rv.frames + 8, cells := 2, slots := 12, locals := rv.locals + 103 }
set_option maxHeartbeats 4000000 in
set_option maxRecDepth 100000 in
theorem kX5_value (l : Launch) (D : va_G) (cA : Nat) (ad : Nat → Nat) (sa : Nat → Nat) (hst : l.stackTraces = false) (S : Int32 → Int32 → Int32 → Mem → Option (Int32 × Mem)) (rv : Room) (hrv : rv.cells = 0 ∧ rv.slots = 0) (hyS : ∀ (a b c : Int32) (M : Mem) (r : Int32 × Mem), S a b c M = some r → WiX l yX4_search wsX4_search rv D cA ad M [.ref (ad 6), .int a, .int b, .int c] r) (p1 : Int32) (M : Mem) (r : Res) (h : fX5_value S p1 M = some r) : Ti l yX5_value wsX5_value (rmX5_value rv) D cA ad sa M [.ref (ad 8), .int p1] 2 12 r := by
  unfold fX5_value at h
  refine Ti.of hst rfl rfl rfl (Nat.le_of_ble_eq_true rfl) ?_
  intro p e s m args below meth c Q ls A eA S5 hK hP hD hS hT hl kr kt kx
  have hA : ∀ (H : Heap) (q : Nat), s.heap.size ≤ H.size → AX ad H.size q → A q := fun H q hz h => by rw [eA]; exact AX.mono hz h
  obtain ⟨hx, hb, -, -, hts⟩ := id S5
  have hin : ∀ w ∈ wsX50, w ∈ wsX5_value := fun _ h => List.mem_cons_of_mem _ (List.mem_append_left _ (List.mem_append_left _ (List.mem_append_left _ (List.mem_append_left _ (List.mem_append_left _ (List.mem_append_right _ (h)))))))
  refine lv_iload_n hx hb dX5_value_0 rfl (lv_at hl 1 rfl) ?_
  refine cTSv S5 hK hP hD hS hT (fun _ h => hA _ _ hS.1 h) (As := [.int p1]) (kX5_needCard l D cA ad sa hst _ _) (va_cwS 1 hts gX5_value_X5_needCard rfl rfl rfl (by decide +kernel) ⟨(Nat.le_trans (Nat.le_of_ble_eq_true rfl) (Nat.le_add_left 8 _)), (Nat.le_trans (Nat.le_of_ble_eq_true rfl) (Nat.le_add_left 103 _))⟩) rfl hl.1 (st0 := _) (rest := []) rfl (Nat.le_of_ble_eq_true rfl) dX5_value_1 ⟨(Nat.le_of_ble_eq_true rfl), (Nat.le_of_ble_eq_true rfl)⟩ (fun c1 E ce q9 H locs hE h1 h2 h3 hP hS => ?_) (fun c1 H locs hP hS => ?_)
  · rw [if_neg c1] at h
    obtain rfl := Option.some.inj h
    exact kx _ _ _ _ _ _ _ _ _ _ c1 hE h1 h2 h3 hP hS (by decide) (by decide)
  · rw [if_pos c1] at h
    refine lv_aload_n hx hb dX5_value_4 rfl (lv_at hl 0 rfl) ?_
    refine lv_iload_n hx hb dX5_value_5 rfl (lv_at hl 1 rfl) ?_
    refine cTVv S5 hK hP hD hS hT (fun _ h => hA _ _ hS.1 h) 8 rfl rfl (As := [.int p1]) (kX5_needPlayable l D cA ad sa hst _ _) (cwV 1 hts gX5_value_X5_needPlayable rfl rfl rfl (by decide +kernel) ⟨(Nat.le_trans (Nat.le_of_ble_eq_true rfl) (Nat.le_add_left 8 _)), (Nat.le_trans (Nat.le_of_ble_eq_true rfl) (Nat.le_add_left 103 _))⟩) rfl hl.1 (st0 := _) (rest := []) rfl (Nat.le_of_ble_eq_true rfl) dX5_value_6 ⟨(Nat.le_of_ble_eq_true rfl), (Nat.le_of_ble_eq_true rfl)⟩ (fun c2 E ce q9 H locs hE h1 h2 h3 hP hS => ?_) (fun c2 H locs hP hS => ?_)
    · rw [if_neg c2] at h
      obtain rfl := Option.some.inj h
      exact kx _ _ _ _ _ _ _ _ _ _ c2 hE h1 h2 h3 hP hS (by decide) (by decide)
    · rw [if_pos c2] at h
      refine lv_aload_n hx hb dX5_value_9 rfl (lv_at hl 0 rfl) ?_
      refine gX5_solver S5 hin hK hP (List.mem_of_getElem? (i := 1) rfl) dX5_value_10 ?_
      refine lv_iload_n hx hb dX5_value_13 rfl (lv_at hl 1 rfl) ?_
      obtain ⟨q3, hqq3, h⟩ := obind_some h
      refine cWiX S5 hK hP hD hS (fun _ h => hA _ _ hS.1 h) 6 rfl rfl (As := [.int p1]) (kX4_worthOf l D cA ad S rv hrv hyS _ _ _ hqq3) (cwV 1 hts gX5_value_X4_worthOf rfl rfl rfl (by decide +kernel) ⟨(by show rv.frames + 3 + 1 ≤ rv.frames + 8; omega), (by show 8 + (6 + 11) + (rv.locals + 68) ≤ rv.locals + 103; omega)⟩) rfl hl.1 (st0 := _) (rest := []) rfl (Nat.le_of_ble_eq_true rfl) dX5_value_14 ⟨(Nat.le_of_ble_eq_true rfl), (Nat.le_of_ble_eq_true rfl)⟩ (fun H locs hz hP hS => ?_)
      obtain rfl := Option.some.inj h
      refine W.widen (k := 2) (n := 12) (by decide) (by decide) ?_
      exact kr _ _ _ _ _ rfl rfl rfl hP hS dX5_value_17

-- X5_bestCard
def fX5_bestCard (S : Int32 → Int32 → Int32 → Mem → Option (Int32 × Mem)) (M : Mem) : Option (Res) := (if (fX1_mover M) = ((-1)) then some (2, 0, M) else (obind (fX4_bestPlay S M) (fun q2 => some (0, q2.1, q2.2))))
def rmX5_bestCard (rv : Room) : Room := { frames := rv.frames + 7, cells := 1, slots := 6, locals := rv.locals + 119 }
set_option maxHeartbeats 4000000 in
set_option maxRecDepth 100000 in
theorem kX5_bestCard (l : Launch) (D : va_G) (cA : Nat) (ad : Nat → Nat) (sa : Nat → Nat) (hst : l.stackTraces = false) (S : Int32 → Int32 → Int32 → Mem → Option (Int32 × Mem)) (rv : Room) (hrv : rv.cells = 0 ∧ rv.slots = 0) (hyS : ∀ (a b c : Int32) (M : Mem) (r : Int32 × Mem), S a b c M = some r → WiX l yX4_search wsX4_search rv D cA ad M [.ref (ad 6), .int a, .int b, .int c] r) (M : Mem) (r : Res) (h : fX5_bestCard S M = some r) : Ti l yX5_bestCard wsX5_bestCard (rmX5_bestCard rv) D cA ad sa M [.ref (ad 8)] 1 6 r := by
  unfold fX5_bestCard at h
  refine Ti.of hst rfl rfl rfl (Nat.le_of_ble_eq_true rfl) ?_
  intro p e s m args below meth c Q ls A eA S5 hK hP hD hS hT hl kr kt kx
  have hA : ∀ (H : Heap) (q : Nat), s.heap.size ≤ H.size → AX ad H.size q → A q := fun H q hz h => by rw [eA]; exact AX.mono hz h
  obtain ⟨hx, hb, -, -, hts⟩ := id S5
  have hin : ∀ w ∈ wsX50, w ∈ wsX5_bestCard := fun _ h => List.mem_cons_of_mem _ (List.mem_append_left _ (List.mem_append_left _ (List.mem_append_left _ (List.mem_append_left _ (List.mem_append_right _ (h))))))
  refine lv_aload_n hx hb dX5_bestCard_0 rfl (lv_at hl 0 rfl) ?_
  refine gX5_game S5 hin hK hP (List.mem_of_getElem? (i := 3) rfl) dX5_bestCard_1 ?_
  refine cVX S5 hK hP 0 rfl rfl (As := []) (kX1_mover l D cA ad _) (cwV 0 hts gX5_bestCard_X1_mover rfl rfl rfl (by decide +kernel) ⟨(Nat.le_trans (Nat.le_of_ble_eq_true rfl) (Nat.le_add_left 7 _)), (Nat.le_trans (Nat.le_of_ble_eq_true rfl) (Nat.le_add_left 119 _))⟩) rfl hl.1 (st0 := _) (rest := []) rfl (Nat.le_of_ble_eq_true rfl) dX5_bestCard_4 ⟨(Nat.le_of_ble_eq_true rfl), (Nat.le_of_ble_eq_true rfl)⟩ ?_
  refine lv_iconst (v := (-1)) hx hb dX5_bestCard_7 (by decide) ?_
  refine lv_icmp_ne (tgt := 21) hx hb dX5_bestCard_8 (by decide) (fun c1 => ?_) (fun c1 => ?_)
  · rw [if_neg c1] at h
    refine lv_aload_n hx hb dX5_bestCard_21 rfl (lv_at hl 0 rfl) ?_
    refine gX5_solver S5 hin hK hP (List.mem_of_getElem? (i := 4) rfl) dX5_bestCard_22 ?_
    obtain ⟨q2, hqq2, h⟩ := obind_some h
    refine cWiX S5 hK hP hD hS (fun _ h => hA _ _ hS.1 h) 6 rfl rfl (As := []) (kX4_bestPlay l D cA ad S rv hrv hyS _ _ hqq2) (cwV 0 hts gX5_bestCard_X4_bestPlay rfl rfl rfl (by decide +kernel) ⟨(by show rv.frames + 4 + 1 ≤ rv.frames + 7; omega), (by show 8 + (7 + 11) + (rv.locals + 93) ≤ rv.locals + 119; omega)⟩) rfl hl.1 (st0 := _) (rest := []) rfl (Nat.le_of_ble_eq_true rfl) dX5_bestCard_25 ⟨(Nat.le_of_ble_eq_true rfl), (Nat.le_of_ble_eq_true rfl)⟩ (fun H locs hz hP hS => ?_)
    obtain rfl := Option.some.inj h
    refine W.widen (k := 1) (n := 6) (by decide) (by decide) ?_
    exact kr _ _ _ _ _ rfl rfl rfl hP hS dX5_bestCard_28
  · rw [if_pos c1] at h
    obtain rfl := Option.some.inj h
    exact kt 2 56 60 141 "it is nobody's turn" _ _ _ _ _ _ _ rfl (by decide) xf2 (List.mem_of_getElem? (i := 1) rfl) (List.mem_of_getElem? (i := 2) rfl) (fun _ h => List.mem_cons_of_mem _ (List.mem_append_right _ (h))) xb2 xg2 (List.mem_of_getElem? (i := 9) rfl) hl.1 hP hS dX5_bestCard_11 dX5_bestCard_14 dX5_bestCard_15 dX5_bestCard_17 dX5_bestCard_20 (Nat.le_trans (Nat.le_of_ble_eq_true rfl) (Nat.le_add_left 7 _)) (Nat.le_trans (Nat.le_of_ble_eq_true rfl) (Nat.le_add_left 119 _)) (Nat.le_of_ble_eq_true rfl) (Nat.le_of_ble_eq_true rfl) (by decide) (by decide)

-- X5_lowestEqual
def fX5_lowestEqual (p1 : Int32) (M : Mem) : Option (Res) := (if (fX5_needCard p1 M).1 = 0 then (if (fX5_needInHand p1 ((fX5_needCard p1 M).2.2)).1 = 0 then (obind (fX3_lowestLike p1 ((fX5_needInHand p1 ((fX5_needCard p1 M).2.2)).2.2)) (fun q3 => some (0, q3, (fX5_needInHand p1 ((fX5_needCard p1 M).2.2)).2.2))) else some ((fX5_needInHand p1 ((fX5_needCard p1 M).2.2)).1, 0, (fX5_needInHand p1 ((fX5_needCard p1 M).2.2)).2.2)) else some ((fX5_needCard p1 M).1, 0, (fX5_needCard p1 M).2.2))
def rmX5_lowestEqual : Room := { frames := 8, cells := 2, slots := 12, locals := 103 }
set_option maxHeartbeats 4000000 in
set_option maxRecDepth 100000 in
theorem kX5_lowestEqual (l : Launch) (D : va_G) (cA : Nat) (ad : Nat → Nat) (sa : Nat → Nat) (hst : l.stackTraces = false) (p1 : Int32) (M : Mem) (r : Res) (h : fX5_lowestEqual p1 M = some r) : Ti l yX5_lowestEqual wsX5_lowestEqual rmX5_lowestEqual D cA ad sa M [.ref (ad 8), .int p1] 2 12 r := by
  unfold fX5_lowestEqual at h
  refine Ti.of hst rfl rfl rfl (Nat.le_of_ble_eq_true rfl) ?_
  intro p e s m args below meth c Q ls A eA S5 hK hP hD hS hT hl kr kt kx
  have hA : ∀ (H : Heap) (q : Nat), s.heap.size ≤ H.size → AX ad H.size q → A q := fun H q hz h => by rw [eA]; exact AX.mono hz h
  obtain ⟨hx, hb, -, -, hts⟩ := id S5
  have hin : ∀ w ∈ wsX50, w ∈ wsX5_lowestEqual := fun _ h => List.mem_cons_of_mem _ (List.mem_append_left _ (List.mem_append_left _ (List.mem_append_left _ (List.mem_append_left _ (List.mem_append_right _ (h))))))
  refine lv_iload_n hx hb dX5_lowestEqual_0 rfl (lv_at hl 1 rfl) ?_
  refine cTSv S5 hK hP hD hS hT (fun _ h => hA _ _ hS.1 h) (As := [.int p1]) (kX5_needCard l D cA ad sa hst _ _) (va_cwS 1 hts gX5_lowestEqual_X5_needCard rfl rfl rfl (by decide +kernel) ⟨(Nat.le_of_ble_eq_true rfl), (Nat.le_of_ble_eq_true rfl)⟩) rfl hl.1 (st0 := _) (rest := []) rfl (Nat.le_of_ble_eq_true rfl) dX5_lowestEqual_1 ⟨(Nat.le_of_ble_eq_true rfl), (Nat.le_of_ble_eq_true rfl)⟩ (fun c1 E ce q9 H locs hE h1 h2 h3 hP hS => ?_) (fun c1 H locs hP hS => ?_)
  · rw [if_neg c1] at h
    obtain rfl := Option.some.inj h
    exact kx _ _ _ _ _ _ _ _ _ _ c1 hE h1 h2 h3 hP hS (by decide) (by decide)
  · rw [if_pos c1] at h
    refine lv_aload_n hx hb dX5_lowestEqual_4 rfl (lv_at hl 0 rfl) ?_
    refine lv_iload_n hx hb dX5_lowestEqual_5 rfl (lv_at hl 1 rfl) ?_
    refine cTVv S5 hK hP hD hS hT (fun _ h => hA _ _ hS.1 h) 8 rfl rfl (As := [.int p1]) (kX5_needInHand l D cA ad sa hst _ _) (cwV 1 hts gX5_lowestEqual_X5_needInHand rfl rfl rfl (by decide +kernel) ⟨(Nat.le_of_ble_eq_true rfl), (Nat.le_of_ble_eq_true rfl)⟩) rfl hl.1 (st0 := _) (rest := []) rfl (Nat.le_of_ble_eq_true rfl) dX5_lowestEqual_6 ⟨(Nat.le_of_ble_eq_true rfl), (Nat.le_of_ble_eq_true rfl)⟩ (fun c2 E ce q9 H locs hE h1 h2 h3 hP hS => ?_) (fun c2 H locs hP hS => ?_)
    · rw [if_neg c2] at h
      obtain rfl := Option.some.inj h
      exact kx _ _ _ _ _ _ _ _ _ _ c2 hE h1 h2 h3 hP hS (by decide) (by decide)
    · rw [if_pos c2] at h
      refine lv_aload_n hx hb dX5_lowestEqual_9 rfl (lv_at hl 0 rfl) ?_
      refine gX5_look S5 hin hK hP (List.mem_of_getElem? (i := 1) rfl) dX5_lowestEqual_10 ?_
      refine lv_iload_n hx hb dX5_lowestEqual_13 rfl (lv_at hl 1 rfl) ?_
      obtain ⟨q3, hqq3, h⟩ := obind_some h
      refine cVX S5 hK hP 7 rfl rfl (As := [.int p1]) (kX3_lowestLike l D cA ad _ _ _ hqq3) (cwV 1 hts gX5_lowestEqual_X3_lowestLike rfl rfl rfl (by decide +kernel) ⟨(Nat.le_of_ble_eq_true rfl), (Nat.le_of_ble_eq_true rfl)⟩) rfl hl.1 (st0 := _) (rest := []) rfl (Nat.le_of_ble_eq_true rfl) dX5_lowestEqual_14 ⟨(Nat.le_of_ble_eq_true rfl), (Nat.le_of_ble_eq_true rfl)⟩ ?_
      obtain rfl := Option.some.inj h
      refine W.widen (k := 2) (n := 12) (by decide) (by decide) ?_
      exact kr _ _ _ _ _ rfl rfl rfl hP hS dX5_lowestEqual_17

-- X5_unlike
def fX5_unlike (p1 : Int32) (M : Mem) : Option (Res) := (if (fX5_needPlayer p1 M).1 = 0 then (obind (fX1_out ((fX5_needPlayer p1 M).2.2)) (fun q2 => (obind (fX0_lowestOfEquals (fX1_handOf p1 ((fX5_needPlayer p1 M).2.2)) q2) (fun q3 => some (0, fJ6_bitCount_0f7a4 q3, (fX5_needPlayer p1 M).2.2))))) else some ((fX5_needPlayer p1 M).1, 0, (fX5_needPlayer p1 M).2.2))
def rmX5_unlike : Room := { frames := 8, cells := 1, slots := 6, locals := 102 }
set_option maxHeartbeats 4000000 in
set_option maxRecDepth 100000 in
theorem kX5_unlike (l : Launch) (D : va_G) (cA : Nat) (ad : Nat → Nat) (sa : Nat → Nat) (hst : l.stackTraces = false) (p1 : Int32) (M : Mem) (r : Res) (h : fX5_unlike p1 M = some r) : Ti l yX5_unlike wsX5_unlike rmX5_unlike D cA ad sa M [.ref (ad 8), .int p1] 1 6 r := by
  unfold fX5_unlike at h
  refine Ti.of hst rfl rfl rfl (Nat.le_of_ble_eq_true rfl) ?_
  intro p e s m args below meth c Q ls A eA S5 hK hP hD hS hT hl kr kt kx
  have hA : ∀ (H : Heap) (q : Nat), s.heap.size ≤ H.size → AX ad H.size q → A q := fun H q hz h => by rw [eA]; exact AX.mono hz h
  obtain ⟨hx, hb, -, -, hts⟩ := id S5
  have hin : ∀ w ∈ wsX50, w ∈ wsX5_unlike := fun _ h => List.mem_cons_of_mem _ (List.mem_append_left _ (List.mem_append_left _ (List.mem_append_right _ (h))))
  refine lv_iload_n hx hb dX5_unlike_0 rfl (lv_at hl 1 rfl) ?_
  refine cTSv S5 hK hP hD hS hT (fun _ h => hA _ _ hS.1 h) (As := [.int p1]) (kX5_needPlayer l D cA ad sa hst _ _) (va_cwS 1 hts gX5_unlike_X5_needPlayer rfl rfl rfl (by decide +kernel) ⟨(Nat.le_of_ble_eq_true rfl), (Nat.le_of_ble_eq_true rfl)⟩) rfl hl.1 (st0 := _) (rest := []) rfl (Nat.le_of_ble_eq_true rfl) dX5_unlike_1 ⟨(Nat.le_of_ble_eq_true rfl), (Nat.le_of_ble_eq_true rfl)⟩ (fun c1 E ce q9 H locs hE h1 h2 h3 hP hS => ?_) (fun c1 H locs hP hS => ?_)
  · rw [if_neg c1] at h
    obtain rfl := Option.some.inj h
    exact kx _ _ _ _ _ _ _ _ _ _ c1 hE h1 h2 h3 hP hS (by decide) (by decide)
  · rw [if_pos c1] at h
    refine lv_aload_n hx hb dX5_unlike_4 rfl (lv_at hl 0 rfl) ?_
    refine gX5_game S5 hin hK hP (List.mem_of_getElem? (i := 1) rfl) dX5_unlike_5 ?_
    refine lv_iload_n hx hb dX5_unlike_8 rfl (lv_at hl 1 rfl) ?_
    refine cVX S5 hK hP 0 rfl rfl (As := [.int p1]) (kX1_handOf l D cA ad _ _) (cwV 1 hts gX5_unlike_X1_handOf rfl rfl rfl (by decide +kernel) ⟨(Nat.le_of_ble_eq_true rfl), (Nat.le_of_ble_eq_true rfl)⟩) rfl hl.1 (st0 := _) (rest := []) rfl (Nat.le_of_ble_eq_true rfl) dX5_unlike_9 ⟨(Nat.le_of_ble_eq_true rfl), (Nat.le_of_ble_eq_true rfl)⟩ ?_
    refine lv_aload_n hx hb dX5_unlike_12 rfl (lv_at hl 0 rfl) ?_
    refine gX5_game S5 hin hK hP (List.mem_of_getElem? (i := 1) rfl) dX5_unlike_13 ?_
    obtain ⟨q2, hqq2, h⟩ := obind_some h
    refine cVX S5 hK hP 0 rfl rfl (As := []) (kX1_out l D cA ad _ _ hqq2) (cwV 0 hts gX5_unlike_X1_out rfl rfl rfl (by decide +kernel) ⟨(Nat.le_of_ble_eq_true rfl), (Nat.le_of_ble_eq_true rfl)⟩) rfl hl.1 (st0 := _) (rest := [.int (fX1_handOf p1 ((fX5_needPlayer p1 M).2.2))]) rfl (Nat.le_of_ble_eq_true rfl) dX5_unlike_16 ⟨(Nat.le_of_ble_eq_true rfl), (Nat.le_of_ble_eq_true rfl)⟩ ?_
    obtain ⟨q3, hqq3, h⟩ := obind_some h
    refine cS S5 (As := [.int (fX1_handOf p1 ((fX5_needPlayer p1 M).2.2)), .int q2]) (kX0_lowestOfEquals l _ _ _ hqq3) (va_cwS 2 hts gX5_unlike_X0_lowestOfEquals rfl rfl rfl (by decide +kernel) ⟨(Nat.le_of_ble_eq_true rfl), (Nat.le_of_ble_eq_true rfl)⟩) rfl hl.1 (st0 := _) (rest := []) rfl (Nat.le_of_ble_eq_true rfl) dX5_unlike_19 ⟨(Nat.le_of_ble_eq_true rfl), (Nat.le_of_ble_eq_true rfl)⟩ ?_
    refine cS S5 (As := [.int q3]) (kJ6_bitCount_0f7a4 l _) (va_cwS 1 hts gX5_unlike_J6_bitCount_0f7a4 rfl rfl rfl (by decide +kernel) ⟨(Nat.le_of_ble_eq_true rfl), (Nat.le_of_ble_eq_true rfl)⟩) rfl hl.1 (st0 := _) (rest := []) rfl (Nat.le_of_ble_eq_true rfl) dX5_unlike_22 ⟨(Nat.le_of_ble_eq_true rfl), (Nat.le_of_ble_eq_true rfl)⟩ ?_
    obtain rfl := Option.some.inj h
    refine W.widen (k := 1) (n := 6) (by decide) (by decide) ?_
    exact kr _ _ _ _ _ rfl rfl rfl hP hS dX5_unlike_25

-- X5_isTop
def fX5_isTop (p1 : Int32) (M : Mem) : Option (Res) := (if (fX5_needCard p1 M).1 = 0 then (if (fX5_needInHand p1 ((fX5_needCard p1 M).2.2)).1 = 0 then (obind (fX3_isHighest p1 (fX1_ownerOf p1 ((fX5_needInHand p1 ((fX5_needCard p1 M).2.2)).2.2)) ((fX5_needInHand p1 ((fX5_needCard p1 M).2.2)).2.2)) (fun q3 => (if vb q3 = true then some (0, q3, (fX5_needInHand p1 ((fX5_needCard p1 M).2.2)).2.2) else none))) else some ((fX5_needInHand p1 ((fX5_needCard p1 M).2.2)).1, 0, (fX5_needInHand p1 ((fX5_needCard p1 M).2.2)).2.2)) else some ((fX5_needCard p1 M).1, 0, (fX5_needCard p1 M).2.2))
def rmX5_isTop : Room := { frames := 8, cells := 2, slots := 12, locals := 103 }
set_option maxHeartbeats 4000000 in
set_option maxRecDepth 100000 in
theorem kX5_isTop (l : Launch) (D : va_G) (cA : Nat) (ad : Nat → Nat) (sa : Nat → Nat) (hst : l.stackTraces = false) (p1 : Int32) (M : Mem) (r : Res) (h : fX5_isTop p1 M = some r) : Ti l yX5_isTop wsX5_isTop rmX5_isTop D cA ad sa M [.ref (ad 8), .int p1] 2 12 r := by
  unfold fX5_isTop at h
  refine Ti.of hst rfl rfl rfl (Nat.le_of_ble_eq_true rfl) ?_
  intro p e s m args below meth c Q ls A eA S5 hK hP hD hS hT hl kr kt kx
  have hA : ∀ (H : Heap) (q : Nat), s.heap.size ≤ H.size → AX ad H.size q → A q := fun H q hz h => by rw [eA]; exact AX.mono hz h
  obtain ⟨hx, hb, -, -, hts⟩ := id S5
  have hin : ∀ w ∈ wsX50, w ∈ wsX5_isTop := fun _ h => List.mem_cons_of_mem _ (List.mem_append_left _ (List.mem_append_left _ (List.mem_append_left _ (List.mem_append_left _ (List.mem_append_right _ (h))))))
  refine lv_iload_n hx hb dX5_isTop_0 rfl (lv_at hl 1 rfl) ?_
  refine cTSv S5 hK hP hD hS hT (fun _ h => hA _ _ hS.1 h) (As := [.int p1]) (kX5_needCard l D cA ad sa hst _ _) (va_cwS 1 hts gX5_isTop_X5_needCard rfl rfl rfl (by decide +kernel) ⟨(Nat.le_of_ble_eq_true rfl), (Nat.le_of_ble_eq_true rfl)⟩) rfl hl.1 (st0 := _) (rest := []) rfl (Nat.le_of_ble_eq_true rfl) dX5_isTop_1 ⟨(Nat.le_of_ble_eq_true rfl), (Nat.le_of_ble_eq_true rfl)⟩ (fun c1 E ce q9 H locs hE h1 h2 h3 hP hS => ?_) (fun c1 H locs hP hS => ?_)
  · rw [if_neg c1] at h
    obtain rfl := Option.some.inj h
    exact kx _ _ _ _ _ _ _ _ _ _ c1 hE h1 h2 h3 hP hS (by decide) (by decide)
  · rw [if_pos c1] at h
    refine lv_aload_n hx hb dX5_isTop_4 rfl (lv_at hl 0 rfl) ?_
    refine lv_iload_n hx hb dX5_isTop_5 rfl (lv_at hl 1 rfl) ?_
    refine cTVv S5 hK hP hD hS hT (fun _ h => hA _ _ hS.1 h) 8 rfl rfl (As := [.int p1]) (kX5_needInHand l D cA ad sa hst _ _) (cwV 1 hts gX5_isTop_X5_needInHand rfl rfl rfl (by decide +kernel) ⟨(Nat.le_of_ble_eq_true rfl), (Nat.le_of_ble_eq_true rfl)⟩) rfl hl.1 (st0 := _) (rest := []) rfl (Nat.le_of_ble_eq_true rfl) dX5_isTop_6 ⟨(Nat.le_of_ble_eq_true rfl), (Nat.le_of_ble_eq_true rfl)⟩ (fun c2 E ce q9 H locs hE h1 h2 h3 hP hS => ?_) (fun c2 H locs hP hS => ?_)
    · rw [if_neg c2] at h
      obtain rfl := Option.some.inj h
      exact kx _ _ _ _ _ _ _ _ _ _ c2 hE h1 h2 h3 hP hS (by decide) (by decide)
    · rw [if_pos c2] at h
      refine lv_aload_n hx hb dX5_isTop_9 rfl (lv_at hl 0 rfl) ?_
      refine gX5_look S5 hin hK hP (List.mem_of_getElem? (i := 1) rfl) dX5_isTop_10 ?_
      refine lv_iload_n hx hb dX5_isTop_13 rfl (lv_at hl 1 rfl) ?_
      refine lv_aload_n hx hb dX5_isTop_14 rfl (lv_at hl 0 rfl) ?_
      refine gX5_game S5 hin hK hP (List.mem_of_getElem? (i := 2) rfl) dX5_isTop_15 ?_
      refine lv_iload_n hx hb dX5_isTop_18 rfl (lv_at hl 1 rfl) ?_
      refine cVX S5 hK hP 0 rfl rfl (As := [.int p1]) (kX1_ownerOf l D cA ad _ _) (cwV 1 hts gX5_isTop_X1_ownerOf rfl rfl rfl (by decide +kernel) ⟨(Nat.le_of_ble_eq_true rfl), (Nat.le_of_ble_eq_true rfl)⟩) rfl hl.1 (st0 := _) (rest := [.int p1, .ref (ad 7)]) rfl (Nat.le_of_ble_eq_true rfl) dX5_isTop_19 ⟨(Nat.le_of_ble_eq_true rfl), (Nat.le_of_ble_eq_true rfl)⟩ ?_
      obtain ⟨q3, hqq3, h⟩ := obind_some h
      refine cVX S5 hK hP 7 rfl rfl (As := [.int p1, .int (fX1_ownerOf p1 ((fX5_needInHand p1 ((fX5_needCard p1 M).2.2)).2.2))]) (kX3_isHighest l D cA ad _ _ _ _ hqq3) (cwV 2 hts gX5_isTop_X3_isHighest rfl rfl rfl (by decide +kernel) ⟨(Nat.le_of_ble_eq_true rfl), (Nat.le_of_ble_eq_true rfl)⟩) rfl hl.1 (st0 := _) (rest := []) rfl (Nat.le_of_ble_eq_true rfl) dX5_isTop_22 ⟨(Nat.le_of_ble_eq_true rfl), (Nat.le_of_ble_eq_true rfl)⟩ ?_
      obtain ⟨g4, h⟩ := gd_some h
      obtain rfl := Option.some.inj h
      refine W.widen (k := 2) (n := 12) (by decide) (by decide) ?_
      exact kr _ _ _ _ _ rfl rfl (nb (vb_or g4)) hP hS dX5_isTop_25

-- X5_quick
def fX5_quick (p1 : Int32) (M : Mem) : Option (Res) := (if (fX5_needPlayer p1 M).1 = 0 then (obind (fX3_quickTricks p1 ((fX5_needPlayer p1 M).2.2)) (fun q2 => some (0, q2, (fX5_needPlayer p1 M).2.2))) else some ((fX5_needPlayer p1 M).1, 0, (fX5_needPlayer p1 M).2.2))
def rmX5_quick : Room := { frames := 8, cells := 1, slots := 6, locals := 102 }
set_option maxHeartbeats 4000000 in
set_option maxRecDepth 100000 in
theorem kX5_quick (l : Launch) (D : va_G) (cA : Nat) (ad : Nat → Nat) (sa : Nat → Nat) (hst : l.stackTraces = false) (p1 : Int32) (M : Mem) (r : Res) (h : fX5_quick p1 M = some r) : Ti l yX5_quick wsX5_quick rmX5_quick D cA ad sa M [.ref (ad 8), .int p1] 1 6 r := by
  unfold fX5_quick at h
  refine Ti.of hst rfl rfl rfl (Nat.le_of_ble_eq_true rfl) ?_
  intro p e s m args below meth c Q ls A eA S5 hK hP hD hS hT hl kr kt kx
  have hA : ∀ (H : Heap) (q : Nat), s.heap.size ≤ H.size → AX ad H.size q → A q := fun H q hz h => by rw [eA]; exact AX.mono hz h
  obtain ⟨hx, hb, -, -, hts⟩ := id S5
  have hin : ∀ w ∈ wsX50, w ∈ wsX5_quick := fun _ h => List.mem_cons_of_mem _ (List.mem_append_left _ (List.mem_append_left _ (List.mem_append_left _ (List.mem_append_right _ (h)))))
  refine lv_iload_n hx hb dX5_quick_0 rfl (lv_at hl 1 rfl) ?_
  refine cTSv S5 hK hP hD hS hT (fun _ h => hA _ _ hS.1 h) (As := [.int p1]) (kX5_needPlayer l D cA ad sa hst _ _) (va_cwS 1 hts gX5_quick_X5_needPlayer rfl rfl rfl (by decide +kernel) ⟨(Nat.le_of_ble_eq_true rfl), (Nat.le_of_ble_eq_true rfl)⟩) rfl hl.1 (st0 := _) (rest := []) rfl (Nat.le_of_ble_eq_true rfl) dX5_quick_1 ⟨(Nat.le_of_ble_eq_true rfl), (Nat.le_of_ble_eq_true rfl)⟩ (fun c1 E ce q9 H locs hE h1 h2 h3 hP hS => ?_) (fun c1 H locs hP hS => ?_)
  · rw [if_neg c1] at h
    obtain rfl := Option.some.inj h
    exact kx _ _ _ _ _ _ _ _ _ _ c1 hE h1 h2 h3 hP hS (by decide) (by decide)
  · rw [if_pos c1] at h
    refine lv_aload_n hx hb dX5_quick_4 rfl (lv_at hl 0 rfl) ?_
    refine gX5_look S5 hin hK hP (List.mem_of_getElem? (i := 1) rfl) dX5_quick_5 ?_
    refine lv_iload_n hx hb dX5_quick_8 rfl (lv_at hl 1 rfl) ?_
    obtain ⟨q2, hqq2, h⟩ := obind_some h
    refine cVX S5 hK hP 7 rfl rfl (As := [.int p1]) (kX3_quickTricks l D cA ad _ _ _ hqq2) (cwV 1 hts gX5_quick_X3_quickTricks rfl rfl rfl (by decide +kernel) ⟨(Nat.le_of_ble_eq_true rfl), (Nat.le_of_ble_eq_true rfl)⟩) rfl hl.1 (st0 := _) (rest := []) rfl (Nat.le_of_ble_eq_true rfl) dX5_quick_9 ⟨(Nat.le_of_ble_eq_true rfl), (Nat.le_of_ble_eq_true rfl)⟩ ?_
    obtain rfl := Option.some.inj h
    refine W.widen (k := 1) (n := 6) (by decide) (by decide) ?_
    exact kr _ _ _ _ _ rfl rfl rfl hP hS dX5_quick_12

-- X5_fork
def fX5_fork (p1 : Int32) (p2 : Int32) (M : Mem) : Res := (if (fX5_needPlayer p1 M).1 = 0 then (if p2 < 0 then (1, 0, (fX5_needPlayer p1 M).2.2) else (if p2 < 4 then (0, fX3_forkKind p1 p2 ((fX5_needPlayer p1 M).2.2), (fX5_needPlayer p1 M).2.2) else (1, 0, (fX5_needPlayer p1 M).2.2))) else ((fX5_needPlayer p1 M).1, 0, (fX5_needPlayer p1 M).2.2))
def rmX5_fork : Room := { frames := 8, cells := 2, slots := 12, locals := 102 }
set_option maxHeartbeats 4000000 in
set_option maxRecDepth 100000 in
theorem kX5_fork (l : Launch) (D : va_G) (cA : Nat) (ad : Nat → Nat) (sa : Nat → Nat) (hst : l.stackTraces = false) (p1 : Int32) (p2 : Int32) (M : Mem) : Ti l yX5_fork wsX5_fork rmX5_fork D cA ad sa M [.ref (ad 8), .int p1, .int p2] 2 12 (fX5_fork p1 p2 M) := by
  obtain ⟨r, h⟩ : ∃ r, fX5_fork p1 p2 M = r := ⟨_, rfl⟩
  rw [h]
  unfold fX5_fork at h
  refine Ti.of hst rfl rfl rfl (Nat.le_of_ble_eq_true rfl) ?_
  intro p e s m args below meth c Q ls A eA S5 hK hP hD hS hT hl kr kt kx
  have hA : ∀ (H : Heap) (q : Nat), s.heap.size ≤ H.size → AX ad H.size q → A q := fun H q hz h => by rw [eA]; exact AX.mono hz h
  obtain ⟨hx, hb, -, -, hts⟩ := id S5
  have hin : ∀ w ∈ wsX50, w ∈ wsX5_fork := fun _ h => List.mem_cons_of_mem _ (List.mem_append_left _ (List.mem_append_left _ (List.mem_append_left _ (List.mem_append_right _ (h)))))
  refine lv_iload_n hx hb dX5_fork_0 rfl (lv_at hl 1 rfl) ?_
  refine cTSv S5 hK hP hD hS hT (fun _ h => hA _ _ hS.1 h) (As := [.int p1]) (kX5_needPlayer l D cA ad sa hst _ _) (va_cwS 1 hts gX5_fork_X5_needPlayer rfl rfl rfl (by decide +kernel) ⟨(Nat.le_of_ble_eq_true rfl), (Nat.le_of_ble_eq_true rfl)⟩) rfl hl.1 (st0 := _) (rest := []) rfl (Nat.le_of_ble_eq_true rfl) dX5_fork_1 ⟨(Nat.le_of_ble_eq_true rfl), (Nat.le_of_ble_eq_true rfl)⟩ (fun c1 E ce q9 H locs hE h1 h2 h3 hP hS => ?_) (fun c1 H locs hP hS => ?_)
  · rw [if_neg c1] at h
    subst h
    exact kx _ _ _ _ _ _ _ _ _ _ c1 hE h1 h2 h3 hP hS (by decide) (by decide)
  · rw [if_pos c1] at h
    refine lv_iload_n hx hb dX5_fork_4 rfl (lv_at hl 2 rfl) ?_
    refine lv_if_lt (tgt := 13) hx hb dX5_fork_5 (by decide) (fun c2 => ?_) (fun c2 => ?_)
    · rw [if_pos c2] at h
      subst h
      exact kt 1 34 38 172 "suit is out of range" _ _ _ _ _ _ _ rfl (by decide) xf1 (List.mem_of_getElem? (i := 1) rfl) (List.mem_of_getElem? (i := 2) rfl) (fun _ h => List.mem_cons_of_mem _ (List.mem_append_right _ (h))) xb1 xg1 (List.mem_of_getElem? (i := 13) rfl) hl.1 hP hS dX5_fork_13 dX5_fork_16 dX5_fork_17 dX5_fork_19 dX5_fork_22 (Nat.le_of_ble_eq_true rfl) (Nat.le_of_ble_eq_true rfl) (Nat.le_of_ble_eq_true rfl) (Nat.le_of_ble_eq_true rfl) (by decide) (by decide)
    · rw [if_neg c2] at h
      refine lv_iload_n hx hb dX5_fork_8 rfl (lv_at hl 2 rfl) ?_
      refine lv_iconst (v := 4) hx hb dX5_fork_9 (by decide) ?_
      refine lv_icmp_lt (tgt := 23) hx hb dX5_fork_10 (by decide) (fun c3 => ?_) (fun c3 => ?_)
      · rw [if_pos c3] at h
        refine lv_aload_n hx hb dX5_fork_23 rfl (lv_at hl 0 rfl) ?_
        refine gX5_look S5 hin hK hP (List.mem_of_getElem? (i := 3) rfl) dX5_fork_24 ?_
        refine lv_iload_n hx hb dX5_fork_27 rfl (lv_at hl 1 rfl) ?_
        refine lv_iload_n hx hb dX5_fork_28 rfl (lv_at hl 2 rfl) ?_
        refine cVX S5 hK hP 7 rfl rfl (As := [.int p1, .int p2]) (kX3_forkKind l D cA ad _ _ _) (cwV 2 hts gX5_fork_X3_forkKind rfl rfl rfl (by decide +kernel) ⟨(Nat.le_of_ble_eq_true rfl), (Nat.le_of_ble_eq_true rfl)⟩) rfl hl.1 (st0 := _) (rest := []) rfl (Nat.le_of_ble_eq_true rfl) dX5_fork_29 ⟨(Nat.le_of_ble_eq_true rfl), (Nat.le_of_ble_eq_true rfl)⟩ ?_
        subst h
        refine W.widen (k := 2) (n := 12) (by decide) (by decide) ?_
        exact kr _ _ _ _ _ rfl rfl rfl hP hS dX5_fork_32
      · rw [if_neg c3] at h
        subst h
        exact kt 1 34 38 172 "suit is out of range" _ _ _ _ _ _ _ rfl (by decide) xf1 (List.mem_of_getElem? (i := 1) rfl) (List.mem_of_getElem? (i := 2) rfl) (fun _ h => List.mem_cons_of_mem _ (List.mem_append_right _ (h))) xb1 xg1 (List.mem_of_getElem? (i := 13) rfl) hl.1 hP hS dX5_fork_13 dX5_fork_16 dX5_fork_17 dX5_fork_19 dX5_fork_22 (Nat.le_of_ble_eq_true rfl) (Nat.le_of_ble_eq_true rfl) (Nat.le_of_ble_eq_true rfl) (Nat.le_of_ble_eq_true rfl) (by decide) (by decide)

-- X5_goodForks
def fX5_goodForks (M : Mem) : Option (Int32) := (obind (fX3_goodForksOf 0 M) (fun q1 => (obind (fX3_goodForksOf 1 M) (fun q2 => some (q1 - q2)))))
def rmX5_goodForks : Room := { frames := 4, cells := 0, slots := 0, locals := 94 }
set_option maxHeartbeats 4000000 in
set_option maxRecDepth 100000 in
theorem kX5_goodForks (l : Launch) (D : va_G) (cA : Nat) (ad : Nat → Nat) (M : Mem) (r : Int32) (h : fX5_goodForks M = some r) : RdX l yX5_goodForks wsX5_goodForks rmX5_goodForks D cA ad M [.ref (ad 8)] r := by
  unfold fX5_goodForks at h
  refine RdX.of RX5 rfl rfl rfl (Nat.le_of_ble_eq_true rfl) ?_
  intro p e s m args below meth c Q ls S5 hK hP hl kr
  obtain ⟨hx, hb, -, -, hts⟩ := id S5
  have hin : ∀ w ∈ wsX50, w ∈ wsX5_goodForks := fun _ h => List.mem_cons_of_mem _ (List.mem_append_left _ (List.mem_append_left _ (List.mem_append_right _ (h))))
  refine lv_aload_n hx hb dX5_goodForks_0 rfl (lv_at hl 0 rfl) ?_
  refine gX5_look S5 hin hK hP (List.mem_of_getElem? (i := 1) rfl) dX5_goodForks_1 ?_
  refine lv_iconst (v := 0) hx hb dX5_goodForks_4 (by decide) ?_
  obtain ⟨q1, hqq1, h⟩ := obind_some h
  refine cVX S5 hK hP 7 rfl rfl (As := [.int 0]) (kX3_goodForksOf l D cA ad _ _ _ hqq1) (cwV 1 hts gX5_goodForks_X3_goodForksOf rfl rfl rfl (by decide +kernel) ⟨(Nat.le_of_ble_eq_true rfl), (Nat.le_of_ble_eq_true rfl)⟩) rfl hl.1 (st0 := _) (rest := []) rfl (Nat.le_of_ble_eq_true rfl) dX5_goodForks_5 ⟨Nat.zero_le _, Nat.zero_le _⟩ ?_
  refine lv_aload_n hx hb dX5_goodForks_8 rfl (lv_at hl 0 rfl) ?_
  refine gX5_look S5 hin hK hP (List.mem_of_getElem? (i := 1) rfl) dX5_goodForks_9 ?_
  refine lv_iconst (v := 1) hx hb dX5_goodForks_12 (by decide) ?_
  obtain ⟨q2, hqq2, h⟩ := obind_some h
  refine cVX S5 hK hP 7 rfl rfl (As := [.int 1]) (kX3_goodForksOf l D cA ad _ _ _ hqq2) (cwV 1 hts gX5_goodForks_X3_goodForksOf rfl rfl rfl (by decide +kernel) ⟨(Nat.le_of_ble_eq_true rfl), (Nat.le_of_ble_eq_true rfl)⟩) rfl hl.1 (st0 := _) (rest := [.int q1]) rfl (Nat.le_of_ble_eq_true rfl) dX5_goodForks_13 ⟨Nat.zero_le _, Nat.zero_le _⟩ ?_
  refine lv_isub hx hb dX5_goodForks_16 ?_
  obtain rfl := Option.some.inj h
  exact kr _ _ _ rfl rfl dX5_goodForks_17
