-- X3_lowestLike
def fX3_lowestLike_L30 : Nat → Int32 → Int32 → Int32 → Int32 → Mem → Option (Int32)
  | 0, _, _, _, _, _ => none
  | n + 1, v2, v3, v4, v5, M => (if 6 ≤ v5 then some (v4) else (obind (fX0_equalBelow v4 v2 v3) (fun q3 => (if q3 = ((-1)) then some (v4) else fX3_lowestLike_L30 n v2 v3 q3 (v5 + 1) M))))
def fX3_lowestLike (p1 : Int32) (M : Mem) : Option (Int32) := (obind (fX1_out M) (fun q1 => fX3_lowestLike_L30 40 (fX1_handOf (fX1_ownerOf p1 M) M) q1 p1 0 M))
def rmX3_lowestLike : Room := { frames := 3, cells := 0, slots := 0, locals := 63 }
set_option maxHeartbeats 4000000 in
set_option maxRecDepth 100000 in
theorem kX3_lowestLike (l : Launch) (D : va_G) (cA : Nat) (ad : Nat → Nat) (p1 : Int32) (M : Mem) (r : Int32) (h : fX3_lowestLike p1 M = some r) : RdX l yX3_lowestLike wsX3_lowestLike rmX3_lowestLike D cA ad M [.ref (ad 7), .int p1] r := by
  unfold fX3_lowestLike at h
  refine RdX.of RX3 rfl rfl rfl (Nat.le_of_ble_eq_true rfl) ?_
  intro p e s m args below meth c Q ls S5 hK hP hl kr
  obtain ⟨hx, hb, -, -, hts⟩ := id S5
  have hin : ∀ w ∈ wsX30, w ∈ wsX3_lowestLike := fun _ h => List.mem_cons_of_mem _ (List.mem_append_left _ (List.mem_append_right _ (h)))
  have L30 : ∀ (n : Nat) (v2 : Int32) (v3 : Int32) (v4 : Int32) (v5 : Int32) (ls : Array Slot), fX3_lowestLike_L30 n v2 v3 v4 v5 M = some r → lv_has ls 7 [(2, .int v2), (3, .int v3), (4, .int v4), (5, .int v5)] → W p l e rmX3_lowestLike s m args below meth c s.heap [] 0 0 Q (F0 m 30 ls []) := by
    intro n
    induction n with
    | zero => intro v2 v3 v4 v5 ls h hl; rw [fX3_lowestLike_L30.eq_1] at h; cases h
    | succ n ih =>
      intro v2 v3 v4 v5 ls h hl
      rw [fX3_lowestLike_L30.eq_2] at h
      refine lv_iload hx hb dX3_lowestLike_30 (lv_at hl 3 rfl) ?_
      refine lv_bipush (v := 6) hx hb dX3_lowestLike_32 (by decide) ?_
      refine lv_icmp_ge (tgt := 65) hx hb dX3_lowestLike_34 (by decide) (fun c2 => ?_) (fun c2 => ?_)
      · rw [if_pos c2] at h
        refine lv_iload hx hb dX3_lowestLike_65 (lv_at hl 2 rfl) ?_
        obtain rfl := Option.some.inj h
        exact kr _ _ _ rfl rfl dX3_lowestLike_67
      · rw [if_neg c2] at h
        refine lv_iload hx hb dX3_lowestLike_37 (lv_at hl 2 rfl) ?_
        refine lv_iload_n hx hb dX3_lowestLike_39 rfl (lv_at hl 0 rfl) ?_
        refine lv_iload_n hx hb dX3_lowestLike_40 rfl (lv_at hl 1 rfl) ?_
        obtain ⟨q3, hqq3, h⟩ := obind_some h
        refine cS S5 (As := [.int v4, .int v2, .int v3]) (kX0_equalBelow l _ _ _ _ hqq3) (va_cwS 3 hts gX3_lowestLike_X0_equalBelow rfl rfl rfl (by decide +kernel) ⟨(Nat.le_of_ble_eq_true rfl), (Nat.le_of_ble_eq_true rfl)⟩) rfl hl.1 (st0 := _) (rest := []) rfl (Nat.le_of_ble_eq_true rfl) dX3_lowestLike_41 ⟨Nat.zero_le _, Nat.zero_le _⟩ ?_
        refine lv_istore (lv' := [(6, .int q3), (2, .int v2), (3, .int v3), (4, .int v4), (5, .int v5)]) hx hb dX3_lowestLike_44 hl (by decide) rfl (fun ls hl => ?_)
        refine lv_iload hx hb dX3_lowestLike_46 (lv_at hl 0 rfl) ?_
        refine lv_iconst (v := (-1)) hx hb dX3_lowestLike_48 (by decide) ?_
        refine lv_icmp_ne (tgt := 55) hx hb dX3_lowestLike_49 (by decide) (fun c4 => ?_) (fun c4 => ?_)
        · rw [if_neg c4] at h
          refine lv_iload hx hb dX3_lowestLike_55 (lv_at hl 0 rfl) ?_
          refine lv_istore (lv' := [(4, .int q3), (6, .int q3), (2, .int v2), (3, .int v3), (5, .int v5)]) hx hb dX3_lowestLike_57 hl (by decide) rfl (fun ls hl => ?_)
          refine lv_iinc (v := v5 + 1) (lv' := [(5, .int (v5 + 1)), (4, .int q3), (6, .int q3), (2, .int v2), (3, .int v3)]) hx hb dX3_lowestLike_59 hl (k := 4) rfl rfl (by decide) rfl (fun ls hl => ?_)
          refine lv_goto (tgt := 30) hx hb dX3_lowestLike_62 (by decide) ?_
          exact ih _ _ _ _ _ h (lv_sub hl [3, 4, 1, 0] rfl)
        · rw [if_pos c4] at h
          refine lv_iload hx hb dX3_lowestLike_52 (lv_at hl 3 rfl) ?_
          obtain rfl := Option.some.inj h
          exact kr _ _ _ rfl rfl dX3_lowestLike_54
  refine lv_aload_n hx hb dX3_lowestLike_0 rfl (lv_at hl 0 rfl) ?_
  refine gX3_game S5 hin hK hP (List.mem_of_getElem? (i := 1) rfl) dX3_lowestLike_1 ?_
  refine lv_aload_n hx hb dX3_lowestLike_4 rfl (lv_at hl 0 rfl) ?_
  refine gX3_game S5 hin hK hP (List.mem_of_getElem? (i := 1) rfl) dX3_lowestLike_5 ?_
  refine lv_iload_n hx hb dX3_lowestLike_8 rfl (lv_at hl 1 rfl) ?_
  refine cVX S5 hK hP 0 rfl rfl (As := [.int p1]) (kX1_ownerOf l D cA ad _ _) (cwV 1 hts gX3_lowestLike_X1_ownerOf rfl rfl rfl (by decide +kernel) ⟨(Nat.le_of_ble_eq_true rfl), (Nat.le_of_ble_eq_true rfl)⟩) rfl hl.1 (st0 := _) (rest := [.ref (ad 0)]) rfl (Nat.le_of_ble_eq_true rfl) dX3_lowestLike_9 ⟨Nat.zero_le _, Nat.zero_le _⟩ ?_
  refine cVX S5 hK hP 0 rfl rfl (As := [.int (fX1_ownerOf p1 M)]) (kX1_handOf l D cA ad _ _) (cwV 1 hts gX3_lowestLike_X1_handOf rfl rfl rfl (by decide +kernel) ⟨(Nat.le_of_ble_eq_true rfl), (Nat.le_of_ble_eq_true rfl)⟩) rfl hl.1 (st0 := _) (rest := []) rfl (Nat.le_of_ble_eq_true rfl) dX3_lowestLike_12 ⟨Nat.zero_le _, Nat.zero_le _⟩ ?_
  refine lv_istore_n (lv' := [(2, .int (fX1_handOf (fX1_ownerOf p1 M) M)), (0, .ref (ad 7)), (1, .int p1)]) hx hb dX3_lowestLike_15 rfl hl (by decide) rfl (fun ls hl => ?_)
  refine lv_aload_n hx hb dX3_lowestLike_16 rfl (lv_at hl 1 rfl) ?_
  refine gX3_game S5 hin hK hP (List.mem_of_getElem? (i := 1) rfl) dX3_lowestLike_17 ?_
  obtain ⟨q1, hqq1, h⟩ := obind_some h
  refine cVX S5 hK hP 0 rfl rfl (As := []) (kX1_out l D cA ad _ _ hqq1) (cwV 0 hts gX3_lowestLike_X1_out rfl rfl rfl (by decide +kernel) ⟨(Nat.le_of_ble_eq_true rfl), (Nat.le_of_ble_eq_true rfl)⟩) rfl hl.1 (st0 := _) (rest := []) rfl (Nat.le_of_ble_eq_true rfl) dX3_lowestLike_20 ⟨Nat.zero_le _, Nat.zero_le _⟩ ?_
  refine lv_istore_n (lv' := [(3, .int q1), (2, .int (fX1_handOf (fX1_ownerOf p1 M) M)), (0, .ref (ad 7)), (1, .int p1)]) hx hb dX3_lowestLike_23 rfl hl (by decide) rfl (fun ls hl => ?_)
  refine lv_iload_n hx hb dX3_lowestLike_24 rfl (lv_at hl 3 rfl) ?_
  refine lv_istore (lv' := [(4, .int p1), (3, .int q1), (2, .int (fX1_handOf (fX1_ownerOf p1 M) M)), (0, .ref (ad 7)), (1, .int p1)]) hx hb dX3_lowestLike_25 hl (by decide) rfl (fun ls hl => ?_)
  refine lv_iconst (v := 0) hx hb dX3_lowestLike_27 (by decide) ?_
  refine lv_istore (lv' := [(5, .int 0), (4, .int p1), (3, .int q1), (2, .int (fX1_handOf (fX1_ownerOf p1 M) M)), (0, .ref (ad 7)), (1, .int p1)]) hx hb dX3_lowestLike_28 hl (by decide) rfl (fun ls hl => ?_)
  exact L30 _ _ _ _ _ _ h (lv_sub hl [3, 2, 1, 0] rfl)

-- X3_isHighest
def fX3_isHighest (p1 : Int32) (p2 : Int32) (M : Mem) : Option (Int32) := (obind (fX1_inTrickSet M) (fun q1 => (if p1 ≤ (fX0_highest ((((fX1_inHands M) &&& ((fX1_handOf p2 M) ^^^ ((-1)))) ||| q1) &&& (fX0_suitSet (fX0_suitOf p1)))) then some (0) else some (1))))
def rmX3_isHighest : Room := { frames := 2, cells := 0, slots := 0, locals := 43 }
set_option maxHeartbeats 4000000 in
set_option maxRecDepth 100000 in
theorem kX3_isHighest (l : Launch) (D : va_G) (cA : Nat) (ad : Nat → Nat) (p1 : Int32) (p2 : Int32) (M : Mem) (r : Int32) (h : fX3_isHighest p1 p2 M = some r) : RdX l yX3_isHighest wsX3_isHighest rmX3_isHighest D cA ad M [.ref (ad 7), .int p1, .int p2] r := by
  unfold fX3_isHighest at h
  refine RdX.of RX3 rfl rfl rfl (Nat.le_of_ble_eq_true rfl) ?_
  intro p e s m args below meth c Q ls S5 hK hP hl kr
  obtain ⟨hx, hb, -, -, hts⟩ := id S5
  have hin : ∀ w ∈ wsX30, w ∈ wsX3_isHighest := fun _ h => List.mem_cons_of_mem _ (List.mem_append_left _ (List.mem_append_right _ (h)))
  refine lv_aload_n hx hb dX3_isHighest_0 rfl (lv_at hl 0 rfl) ?_
  refine gX3_game S5 hin hK hP (List.mem_of_getElem? (i := 1) rfl) dX3_isHighest_1 ?_
  refine cVX S5 hK hP 0 rfl rfl (As := []) (kX1_inHands l D cA ad _) (cwV 0 hts gX3_isHighest_X1_inHands rfl rfl rfl (by decide +kernel) ⟨(Nat.le_of_ble_eq_true rfl), (Nat.le_of_ble_eq_true rfl)⟩) rfl hl.1 (st0 := _) (rest := []) rfl (Nat.le_of_ble_eq_true rfl) dX3_isHighest_4 ⟨Nat.zero_le _, Nat.zero_le _⟩ ?_
  refine lv_aload_n hx hb dX3_isHighest_7 rfl (lv_at hl 0 rfl) ?_
  refine gX3_game S5 hin hK hP (List.mem_of_getElem? (i := 1) rfl) dX3_isHighest_8 ?_
  refine lv_iload_n hx hb dX3_isHighest_11 rfl (lv_at hl 2 rfl) ?_
  refine cVX S5 hK hP 0 rfl rfl (As := [.int p2]) (kX1_handOf l D cA ad _ _) (cwV 1 hts gX3_isHighest_X1_handOf rfl rfl rfl (by decide +kernel) ⟨(Nat.le_of_ble_eq_true rfl), (Nat.le_of_ble_eq_true rfl)⟩) rfl hl.1 (st0 := _) (rest := [.int (fX1_inHands M)]) rfl (Nat.le_of_ble_eq_true rfl) dX3_isHighest_12 ⟨Nat.zero_le _, Nat.zero_le _⟩ ?_
  refine lv_iconst (v := (-1)) hx hb dX3_isHighest_15 (by decide) ?_
  refine lv_ixor hx hb dX3_isHighest_16 ?_
  refine lv_iand hx hb dX3_isHighest_17 ?_
  refine lv_aload_n hx hb dX3_isHighest_18 rfl (lv_at hl 0 rfl) ?_
  refine gX3_game S5 hin hK hP (List.mem_of_getElem? (i := 1) rfl) dX3_isHighest_19 ?_
  obtain ⟨q1, hqq1, h⟩ := obind_some h
  refine cVX S5 hK hP 0 rfl rfl (As := []) (kX1_inTrickSet l D cA ad _ _ hqq1) (cwV 0 hts gX3_isHighest_X1_inTrickSet rfl rfl rfl (by decide +kernel) ⟨(Nat.le_of_ble_eq_true rfl), (Nat.le_of_ble_eq_true rfl)⟩) rfl hl.1 (st0 := _) (rest := [.int ((fX1_inHands M) &&& ((fX1_handOf p2 M) ^^^ ((-1))))]) rfl (Nat.le_of_ble_eq_true rfl) dX3_isHighest_22 ⟨Nat.zero_le _, Nat.zero_le _⟩ ?_
  refine lv_ior hx hb dX3_isHighest_25 ?_
  refine lv_istore_n (lv' := [(3, .int (((fX1_inHands M) &&& ((fX1_handOf p2 M) ^^^ ((-1)))) ||| q1)), (0, .ref (ad 7)), (1, .int p1), (2, .int p2)]) hx hb dX3_isHighest_26 rfl hl (by decide) rfl (fun ls hl => ?_)
  refine lv_iload_n hx hb dX3_isHighest_27 rfl (lv_at hl 0 rfl) ?_
  refine lv_iload_n hx hb dX3_isHighest_28 rfl (lv_at hl 2 rfl) ?_
  refine cS S5 (As := [.int p1]) (kX0_suitOf l _) (va_cwS 1 hts gX3_isHighest_X0_suitOf rfl rfl rfl (by decide +kernel) ⟨(Nat.le_of_ble_eq_true rfl), (Nat.le_of_ble_eq_true rfl)⟩) rfl hl.1 (st0 := _) (rest := [.int (((fX1_inHands M) &&& ((fX1_handOf p2 M) ^^^ ((-1)))) ||| q1)]) rfl (Nat.le_of_ble_eq_true rfl) dX3_isHighest_29 ⟨Nat.zero_le _, Nat.zero_le _⟩ ?_
  refine cS S5 (As := [.int (fX0_suitOf p1)]) (kX0_suitSet l _) (va_cwS 1 hts gX3_isHighest_X0_suitSet rfl rfl rfl (by decide +kernel) ⟨(Nat.le_of_ble_eq_true rfl), (Nat.le_of_ble_eq_true rfl)⟩) rfl hl.1 (st0 := _) (rest := [.int (((fX1_inHands M) &&& ((fX1_handOf p2 M) ^^^ ((-1)))) ||| q1)]) rfl (Nat.le_of_ble_eq_true rfl) dX3_isHighest_32 ⟨Nat.zero_le _, Nat.zero_le _⟩ ?_
  refine lv_iand hx hb dX3_isHighest_35 ?_
  refine cS S5 (As := [.int ((((fX1_inHands M) &&& ((fX1_handOf p2 M) ^^^ ((-1)))) ||| q1) &&& (fX0_suitSet (fX0_suitOf p1)))]) (kX0_highest l _) (va_cwS 1 hts gX3_isHighest_X0_highest rfl rfl rfl (by decide +kernel) ⟨(Nat.le_of_ble_eq_true rfl), (Nat.le_of_ble_eq_true rfl)⟩) rfl hl.1 (st0 := _) (rest := []) rfl (Nat.le_of_ble_eq_true rfl) dX3_isHighest_36 ⟨Nat.zero_le _, Nat.zero_le _⟩ ?_
  refine lv_iload_n hx hb dX3_isHighest_39 rfl (lv_at hl 2 rfl) ?_
  refine lv_icmp_ge (tgt := 47) hx hb dX3_isHighest_40 (by decide) (fun c2 => ?_) (fun c2 => ?_)
  · rw [if_pos c2] at h
    refine lv_iconst (v := 0) hx hb dX3_isHighest_47 (by decide) ?_
    obtain rfl := Option.some.inj h
    exact kr _ _ _ rfl rfl dX3_isHighest_48
  · rw [if_neg c2] at h
    refine lv_iconst (v := 1) hx hb dX3_isHighest_43 (by decide) ?_
    refine lv_goto (tgt := 48) hx hb dX3_isHighest_44 (by decide) ?_
    obtain rfl := Option.some.inj h
    exact kr _ _ _ rfl rfl dX3_isHighest_48

-- X3_quickTricks
def fX3_quickTricks_L14 : Nat → Int32 → Int32 → Int32 → Int32 → Mem → Option (Int32)
  | 0, _, _, _, _, _ => none
  | n + 1, v1, v2, v3, v4, M => (if 24 ≤ v4 then some (v3) else (if (fX0_holds v2 v4) = 0 then fX3_quickTricks_L14 n v1 v2 v3 (v4 + 1) M else (obind (fX3_isHighest v4 v1 M) (fun q4 => (if q4 = 0 then fX3_quickTricks_L14 n v1 v2 v3 (v4 + 1) M else fX3_quickTricks_L14 n v1 v2 (v3 + 1) (v4 + 1) M)))))
def fX3_quickTricks (p1 : Int32) (M : Mem) : Option (Int32) := (obind (fX3_quickTricks_L14 40 p1 (fX1_handOf p1 M) 0 0 M) (fun q1 => some (q1)))
def rmX3_quickTricks : Room := { frames := 3, cells := 0, slots := 0, locals := 66 }
set_option maxHeartbeats 4000000 in
set_option maxRecDepth 100000 in
theorem kX3_quickTricks (l : Launch) (D : va_G) (cA : Nat) (ad : Nat → Nat) (p1 : Int32) (M : Mem) (r : Int32) (h : fX3_quickTricks p1 M = some r) : RdX l yX3_quickTricks wsX3_quickTricks rmX3_quickTricks D cA ad M [.ref (ad 7), .int p1] r := by
  unfold fX3_quickTricks at h
  refine RdX.of RX3 rfl rfl rfl (Nat.le_of_ble_eq_true rfl) ?_
  intro p e s m args below meth c Q ls S5 hK hP hl kr
  obtain ⟨hx, hb, -, -, hts⟩ := id S5
  have hin : ∀ w ∈ wsX30, w ∈ wsX3_quickTricks := fun _ h => List.mem_cons_of_mem _ (List.mem_append_left _ (List.mem_append_right _ (h)))
  have L14 : ∀ (n : Nat) (v1 : Int32) (v2 : Int32) (v3 : Int32) (v4 : Int32) (r' : Int32) (ls : Array Slot), fX3_quickTricks_L14 n v1 v2 v3 v4 M = some r' → lv_has ls 5 [(0, .ref (ad 7)), (1, .int v1), (2, .int v2), (3, .int v3), (4, .int v4)] → (∀ (ls : Array Slot), lv_has ls 5 [(0, .ref (ad 7)), (1, .int v1), (2, .int v2), (3, .int (r'))] → W p l e rmX3_quickTricks s m args below meth c s.heap [] 0 0 Q (F0 m 49 ls [])) → W p l e rmX3_quickTricks s m args below meth c s.heap [] 0 0 Q (F0 m 14 ls []) := by
    intro n
    induction n with
    | zero => intro v1 v2 v3 v4 r' ls h hl kk; rw [fX3_quickTricks_L14.eq_1] at h; cases h
    | succ n ih =>
      intro v1 v2 v3 v4 r' ls h hl kk
      rw [fX3_quickTricks_L14.eq_2] at h
      refine lv_iload hx hb dX3_quickTricks_14 (lv_at hl 4 rfl) ?_
      refine lv_bipush (v := 24) hx hb dX3_quickTricks_16 (by decide) ?_
      refine lv_icmp_ge (tgt := 49) hx hb dX3_quickTricks_18 (by decide) (fun c2 => ?_) (fun c2 => ?_)
      · rw [if_pos c2] at h
        obtain rfl := Option.some.inj h
        exact kk _ (lv_sub hl [0, 1, 2, 3] rfl)
      · rw [if_neg c2] at h
        refine lv_iload_n hx hb dX3_quickTricks_21 rfl (lv_at hl 2 rfl) ?_
        refine lv_iload hx hb dX3_quickTricks_22 (lv_at hl 4 rfl) ?_
        refine cS S5 (As := [.int v2, .int v4]) (kX0_holds l _ _) (va_cwS 2 hts gX3_quickTricks_X0_holds rfl rfl rfl (by decide +kernel) ⟨(Nat.le_of_ble_eq_true rfl), (Nat.le_of_ble_eq_true rfl)⟩) rfl hl.1 (st0 := _) (rest := []) rfl (Nat.le_of_ble_eq_true rfl) dX3_quickTricks_24 ⟨Nat.zero_le _, Nat.zero_le _⟩ ?_
        refine lv_if_eq (tgt := 43) hx hb dX3_quickTricks_27 (by decide) (fun c3 => ?_) (fun c3 => ?_)
        · rw [if_pos c3] at h
          refine lv_iinc (v := v4 + 1) (lv' := [(4, .int (v4 + 1)), (0, .ref (ad 7)), (1, .int v1), (2, .int v2), (3, .int v3)]) hx hb dX3_quickTricks_43 hl (k := 4) rfl rfl (by decide) rfl (fun ls hl => ?_)
          refine lv_goto (tgt := 14) hx hb dX3_quickTricks_46 (by decide) ?_
          exact ih _ _ _ _ _ _ h (lv_sub hl [1, 2, 3, 4, 0] rfl) kk
        · rw [if_neg c3] at h
          refine lv_aload_n hx hb dX3_quickTricks_30 rfl (lv_at hl 0 rfl) ?_
          refine lv_iload hx hb dX3_quickTricks_31 (lv_at hl 4 rfl) ?_
          refine lv_iload_n hx hb dX3_quickTricks_33 rfl (lv_at hl 1 rfl) ?_
          obtain ⟨q4, hqq4, h⟩ := obind_some h
          refine cVX S5 hK hP 7 rfl rfl (As := [.int v4, .int v1]) (kX3_isHighest l D cA ad _ _ _ _ hqq4) (cwV 2 hts gX3_quickTricks_X3_isHighest rfl rfl rfl (by decide +kernel) ⟨(Nat.le_of_ble_eq_true rfl), (Nat.le_of_ble_eq_true rfl)⟩) rfl hl.1 (st0 := _) (rest := []) rfl (Nat.le_of_ble_eq_true rfl) dX3_quickTricks_34 ⟨Nat.zero_le _, Nat.zero_le _⟩ ?_
          refine lv_if_eq (tgt := 43) hx hb dX3_quickTricks_37 (by decide) (fun c5 => ?_) (fun c5 => ?_)
          · rw [if_pos c5] at h
            refine lv_iinc (v := v4 + 1) (lv' := [(4, .int (v4 + 1)), (0, .ref (ad 7)), (1, .int v1), (2, .int v2), (3, .int v3)]) hx hb dX3_quickTricks_43 hl (k := 4) rfl rfl (by decide) rfl (fun ls hl => ?_)
            refine lv_goto (tgt := 14) hx hb dX3_quickTricks_46 (by decide) ?_
            exact ih _ _ _ _ _ _ h (lv_sub hl [1, 2, 3, 4, 0] rfl) kk
          · rw [if_neg c5] at h
            refine lv_iinc (v := v3 + 1) (lv' := [(3, .int (v3 + 1)), (0, .ref (ad 7)), (1, .int v1), (2, .int v2), (4, .int v4)]) hx hb dX3_quickTricks_40 hl (k := 3) rfl rfl (by decide) rfl (fun ls hl => ?_)
            refine lv_iinc (v := v4 + 1) (lv' := [(4, .int (v4 + 1)), (3, .int (v3 + 1)), (0, .ref (ad 7)), (1, .int v1), (2, .int v2)]) hx hb dX3_quickTricks_43 hl (k := 4) rfl rfl (by decide) rfl (fun ls hl => ?_)
            refine lv_goto (tgt := 14) hx hb dX3_quickTricks_46 (by decide) ?_
            exact ih _ _ _ _ _ _ h (lv_sub hl [2, 3, 4, 1, 0] rfl) kk
  refine lv_aload_n hx hb dX3_quickTricks_0 rfl (lv_at hl 0 rfl) ?_
  refine gX3_game S5 hin hK hP (List.mem_of_getElem? (i := 1) rfl) dX3_quickTricks_1 ?_
  refine lv_iload_n hx hb dX3_quickTricks_4 rfl (lv_at hl 1 rfl) ?_
  refine cVX S5 hK hP 0 rfl rfl (As := [.int p1]) (kX1_handOf l D cA ad _ _) (cwV 1 hts gX3_quickTricks_X1_handOf rfl rfl rfl (by decide +kernel) ⟨(Nat.le_of_ble_eq_true rfl), (Nat.le_of_ble_eq_true rfl)⟩) rfl hl.1 (st0 := _) (rest := []) rfl (Nat.le_of_ble_eq_true rfl) dX3_quickTricks_5 ⟨Nat.zero_le _, Nat.zero_le _⟩ ?_
  refine lv_istore_n (lv' := [(2, .int (fX1_handOf p1 M)), (0, .ref (ad 7)), (1, .int p1)]) hx hb dX3_quickTricks_8 rfl hl (by decide) rfl (fun ls hl => ?_)
  refine lv_iconst (v := 0) hx hb dX3_quickTricks_9 (by decide) ?_
  refine lv_istore_n (lv' := [(3, .int 0), (2, .int (fX1_handOf p1 M)), (0, .ref (ad 7)), (1, .int p1)]) hx hb dX3_quickTricks_10 rfl hl (by decide) rfl (fun ls hl => ?_)
  refine lv_iconst (v := 0) hx hb dX3_quickTricks_11 (by decide) ?_
  refine lv_istore (lv' := [(4, .int 0), (3, .int 0), (2, .int (fX1_handOf p1 M)), (0, .ref (ad 7)), (1, .int p1)]) hx hb dX3_quickTricks_12 hl (by decide) rfl (fun ls hl => ?_)
  obtain ⟨q1, hqq1, h⟩ := obind_some h
  refine L14 _ _ _ _ _ _ _ hqq1 (lv_sub hl [3, 4, 2, 1, 0] rfl) (fun ls hl => ?_)
  have hl := lv_sub (l' := [(3, .int q1)]) hl [3] rfl
  refine lv_iload_n hx hb dX3_quickTricks_49 rfl (lv_at hl 0 rfl) ?_
  obtain rfl := Option.some.inj h
  exact kr _ _ _ rfl rfl dX3_quickTricks_50

-- X3_forkKind
def fX3_forkKind (p1 : Int32) (p2 : Int32) (M : Mem) : Int32 := (if 3 ≤ (fJ6_bitCount_0f7a4 ((fX1_inHands M) &&& (fX0_suitSet p2))) then (if (fX1_ownerOf (fX0_highest ((fX1_inHands M) &&& (fX0_suitSet p2))) M) = p1 then (if (fX1_ownerOf (fX0_highest ((((fX1_inHands M) &&& (fX0_suitSet p2)) &&& ((sl 1 (fX0_highest ((fX1_inHands M) &&& (fX0_suitSet p2)))) ^^^ ((-1)))) &&& ((sl 1 (fX0_highest (((fX1_inHands M) &&& (fX0_suitSet p2)) &&& ((sl 1 (fX0_highest ((fX1_inHands M) &&& (fX0_suitSet p2)))) ^^^ ((-1)))))) ^^^ ((-1))))) M) = p1 then (if (fX0_sideOf (fX1_ownerOf (fX0_highest (((fX1_inHands M) &&& (fX0_suitSet p2)) &&& ((sl 1 (fX0_highest ((fX1_inHands M) &&& (fX0_suitSet p2)))) ^^^ ((-1))))) M)) = (fX0_sideOf p1) then (0) else (if (im ((fX1_ownerOf (fX0_highest (((fX1_inHands M) &&& (fX0_suitSet p2)) &&& ((sl 1 (fX0_highest ((fX1_inHands M) &&& (fX0_suitSet p2)))) ^^^ ((-1))))) M) + 1) 4) = p1 then (2) else (1))) else (0)) else (0)) else (0))
def rmX3_forkKind : Room := { frames := 2, cells := 0, slots := 0, locals := 43 }
set_option maxHeartbeats 4000000 in
set_option maxRecDepth 100000 in
theorem kX3_forkKind (l : Launch) (D : va_G) (cA : Nat) (ad : Nat → Nat) (p1 : Int32) (p2 : Int32) (M : Mem) : RdX l yX3_forkKind wsX3_forkKind rmX3_forkKind D cA ad M [.ref (ad 7), .int p1, .int p2] (fX3_forkKind p1 p2 M) := by
  obtain ⟨r, h⟩ : ∃ r, fX3_forkKind p1 p2 M = r := ⟨_, rfl⟩
  rw [h]
  unfold fX3_forkKind at h
  refine RdX.of RX3 rfl rfl rfl (Nat.le_of_ble_eq_true rfl) ?_
  intro p e s m args below meth c Q ls S5 hK hP hl kr
  obtain ⟨hx, hb, -, -, hts⟩ := id S5
  have hin : ∀ w ∈ wsX30, w ∈ wsX3_forkKind := fun _ h => List.mem_cons_of_mem _ (List.mem_append_left _ (List.mem_append_right _ (h)))
  refine lv_aload_n hx hb dX3_forkKind_0 rfl (lv_at hl 0 rfl) ?_
  refine gX3_game S5 hin hK hP (List.mem_of_getElem? (i := 1) rfl) dX3_forkKind_1 ?_
  refine cVX S5 hK hP 0 rfl rfl (As := []) (kX1_inHands l D cA ad _) (cwV 0 hts gX3_forkKind_X1_inHands rfl rfl rfl (by decide +kernel) ⟨(Nat.le_of_ble_eq_true rfl), (Nat.le_of_ble_eq_true rfl)⟩) rfl hl.1 (st0 := _) (rest := []) rfl (Nat.le_of_ble_eq_true rfl) dX3_forkKind_4 ⟨Nat.zero_le _, Nat.zero_le _⟩ ?_
  refine lv_iload_n hx hb dX3_forkKind_7 rfl (lv_at hl 2 rfl) ?_
  refine cS S5 (As := [.int p2]) (kX0_suitSet l _) (va_cwS 1 hts gX3_forkKind_X0_suitSet rfl rfl rfl (by decide +kernel) ⟨(Nat.le_of_ble_eq_true rfl), (Nat.le_of_ble_eq_true rfl)⟩) rfl hl.1 (st0 := _) (rest := [.int (fX1_inHands M)]) rfl (Nat.le_of_ble_eq_true rfl) dX3_forkKind_8 ⟨Nat.zero_le _, Nat.zero_le _⟩ ?_
  refine lv_iand hx hb dX3_forkKind_11 ?_
  refine lv_istore_n (lv' := [(3, .int ((fX1_inHands M) &&& (fX0_suitSet p2))), (0, .ref (ad 7)), (1, .int p1), (2, .int p2)]) hx hb dX3_forkKind_12 rfl hl (by decide) rfl (fun ls hl => ?_)
  refine lv_iload_n hx hb dX3_forkKind_13 rfl (lv_at hl 0 rfl) ?_
  refine cS S5 (As := [.int ((fX1_inHands M) &&& (fX0_suitSet p2))]) (kJ6_bitCount_0f7a4 l _) (va_cwS 1 hts gX3_forkKind_J6_bitCount_0f7a4 rfl rfl rfl (by decide +kernel) ⟨(Nat.le_of_ble_eq_true rfl), (Nat.le_of_ble_eq_true rfl)⟩) rfl hl.1 (st0 := _) (rest := []) rfl (Nat.le_of_ble_eq_true rfl) dX3_forkKind_14 ⟨Nat.zero_le _, Nat.zero_le _⟩ ?_
  refine lv_iconst (v := 3) hx hb dX3_forkKind_17 (by decide) ?_
  refine lv_icmp_ge (tgt := 23) hx hb dX3_forkKind_18 (by decide) (fun c1 => ?_) (fun c1 => ?_)
  · rw [if_pos c1] at h
    refine lv_iload_n hx hb dX3_forkKind_23 rfl (lv_at hl 0 rfl) ?_
    refine cS S5 (As := [.int ((fX1_inHands M) &&& (fX0_suitSet p2))]) (kX0_highest l _) (va_cwS 1 hts gX3_forkKind_X0_highest rfl rfl rfl (by decide +kernel) ⟨(Nat.le_of_ble_eq_true rfl), (Nat.le_of_ble_eq_true rfl)⟩) rfl hl.1 (st0 := _) (rest := []) rfl (Nat.le_of_ble_eq_true rfl) dX3_forkKind_24 ⟨Nat.zero_le _, Nat.zero_le _⟩ ?_
    refine lv_istore (lv' := [(4, .int (fX0_highest ((fX1_inHands M) &&& (fX0_suitSet p2)))), (3, .int ((fX1_inHands M) &&& (fX0_suitSet p2))), (0, .ref (ad 7)), (1, .int p1), (2, .int p2)]) hx hb dX3_forkKind_27 hl (by decide) rfl (fun ls hl => ?_)
    refine lv_iload_n hx hb dX3_forkKind_29 rfl (lv_at hl 1 rfl) ?_
    refine lv_iconst (v := 1) hx hb dX3_forkKind_30 (by decide) ?_
    refine lv_iload hx hb dX3_forkKind_31 (lv_at hl 0 rfl) ?_
    refine r_ishl S5 dX3_forkKind_33 ?_
    refine lv_iconst (v := (-1)) hx hb dX3_forkKind_34 (by decide) ?_
    refine lv_ixor hx hb dX3_forkKind_35 ?_
    refine lv_iand hx hb dX3_forkKind_36 ?_
    refine cS S5 (As := [.int (((fX1_inHands M) &&& (fX0_suitSet p2)) &&& ((sl 1 (fX0_highest ((fX1_inHands M) &&& (fX0_suitSet p2)))) ^^^ ((-1))))]) (kX0_highest l _) (va_cwS 1 hts gX3_forkKind_X0_highest rfl rfl rfl (by decide +kernel) ⟨(Nat.le_of_ble_eq_true rfl), (Nat.le_of_ble_eq_true rfl)⟩) rfl hl.1 (st0 := _) (rest := []) rfl (Nat.le_of_ble_eq_true rfl) dX3_forkKind_37 ⟨Nat.zero_le _, Nat.zero_le _⟩ ?_
    refine lv_istore (lv' := [(5, .int (fX0_highest (((fX1_inHands M) &&& (fX0_suitSet p2)) &&& ((sl 1 (fX0_highest ((fX1_inHands M) &&& (fX0_suitSet p2)))) ^^^ ((-1)))))), (4, .int (fX0_highest ((fX1_inHands M) &&& (fX0_suitSet p2)))), (3, .int ((fX1_inHands M) &&& (fX0_suitSet p2))), (0, .ref (ad 7)), (1, .int p1), (2, .int p2)]) hx hb dX3_forkKind_40 hl (by decide) rfl (fun ls hl => ?_)
    refine lv_iload_n hx hb dX3_forkKind_42 rfl (lv_at hl 2 rfl) ?_
    refine lv_iconst (v := 1) hx hb dX3_forkKind_43 (by decide) ?_
    refine lv_iload hx hb dX3_forkKind_44 (lv_at hl 1 rfl) ?_
    refine r_ishl S5 dX3_forkKind_46 ?_
    refine lv_iconst (v := (-1)) hx hb dX3_forkKind_47 (by decide) ?_
    refine lv_ixor hx hb dX3_forkKind_48 ?_
    refine lv_iand hx hb dX3_forkKind_49 ?_
    refine lv_iconst (v := 1) hx hb dX3_forkKind_50 (by decide) ?_
    refine lv_iload hx hb dX3_forkKind_51 (lv_at hl 0 rfl) ?_
    refine r_ishl S5 dX3_forkKind_53 ?_
    refine lv_iconst (v := (-1)) hx hb dX3_forkKind_54 (by decide) ?_
    refine lv_ixor hx hb dX3_forkKind_55 ?_
    refine lv_iand hx hb dX3_forkKind_56 ?_
    refine cS S5 (As := [.int ((((fX1_inHands M) &&& (fX0_suitSet p2)) &&& ((sl 1 (fX0_highest ((fX1_inHands M) &&& (fX0_suitSet p2)))) ^^^ ((-1)))) &&& ((sl 1 (fX0_highest (((fX1_inHands M) &&& (fX0_suitSet p2)) &&& ((sl 1 (fX0_highest ((fX1_inHands M) &&& (fX0_suitSet p2)))) ^^^ ((-1)))))) ^^^ ((-1))))]) (kX0_highest l _) (va_cwS 1 hts gX3_forkKind_X0_highest rfl rfl rfl (by decide +kernel) ⟨(Nat.le_of_ble_eq_true rfl), (Nat.le_of_ble_eq_true rfl)⟩) rfl hl.1 (st0 := _) (rest := []) rfl (Nat.le_of_ble_eq_true rfl) dX3_forkKind_57 ⟨Nat.zero_le _, Nat.zero_le _⟩ ?_
    refine lv_istore (lv' := [(6, .int (fX0_highest ((((fX1_inHands M) &&& (fX0_suitSet p2)) &&& ((sl 1 (fX0_highest ((fX1_inHands M) &&& (fX0_suitSet p2)))) ^^^ ((-1)))) &&& ((sl 1 (fX0_highest (((fX1_inHands M) &&& (fX0_suitSet p2)) &&& ((sl 1 (fX0_highest ((fX1_inHands M) &&& (fX0_suitSet p2)))) ^^^ ((-1)))))) ^^^ ((-1)))))), (5, .int (fX0_highest (((fX1_inHands M) &&& (fX0_suitSet p2)) &&& ((sl 1 (fX0_highest ((fX1_inHands M) &&& (fX0_suitSet p2)))) ^^^ ((-1)))))), (4, .int (fX0_highest ((fX1_inHands M) &&& (fX0_suitSet p2)))), (3, .int ((fX1_inHands M) &&& (fX0_suitSet p2))), (0, .ref (ad 7)), (1, .int p1), (2, .int p2)]) hx hb dX3_forkKind_60 hl (by decide) rfl (fun ls hl => ?_)
    refine lv_aload_n hx hb dX3_forkKind_62 rfl (lv_at hl 4 rfl) ?_
    refine gX3_game S5 hin hK hP (List.mem_of_getElem? (i := 1) rfl) dX3_forkKind_63 ?_
    refine lv_iload hx hb dX3_forkKind_66 (lv_at hl 1 rfl) ?_
    refine cVX S5 hK hP 0 rfl rfl (As := [.int (fX0_highest (((fX1_inHands M) &&& (fX0_suitSet p2)) &&& ((sl 1 (fX0_highest ((fX1_inHands M) &&& (fX0_suitSet p2)))) ^^^ ((-1)))))]) (kX1_ownerOf l D cA ad _ _) (cwV 1 hts gX3_forkKind_X1_ownerOf rfl rfl rfl (by decide +kernel) ⟨(Nat.le_of_ble_eq_true rfl), (Nat.le_of_ble_eq_true rfl)⟩) rfl hl.1 (st0 := _) (rest := []) rfl (Nat.le_of_ble_eq_true rfl) dX3_forkKind_68 ⟨Nat.zero_le _, Nat.zero_le _⟩ ?_
    refine lv_istore (lv' := [(7, .int (fX1_ownerOf (fX0_highest (((fX1_inHands M) &&& (fX0_suitSet p2)) &&& ((sl 1 (fX0_highest ((fX1_inHands M) &&& (fX0_suitSet p2)))) ^^^ ((-1))))) M)), (6, .int (fX0_highest ((((fX1_inHands M) &&& (fX0_suitSet p2)) &&& ((sl 1 (fX0_highest ((fX1_inHands M) &&& (fX0_suitSet p2)))) ^^^ ((-1)))) &&& ((sl 1 (fX0_highest (((fX1_inHands M) &&& (fX0_suitSet p2)) &&& ((sl 1 (fX0_highest ((fX1_inHands M) &&& (fX0_suitSet p2)))) ^^^ ((-1)))))) ^^^ ((-1)))))), (5, .int (fX0_highest (((fX1_inHands M) &&& (fX0_suitSet p2)) &&& ((sl 1 (fX0_highest ((fX1_inHands M) &&& (fX0_suitSet p2)))) ^^^ ((-1)))))), (4, .int (fX0_highest ((fX1_inHands M) &&& (fX0_suitSet p2)))), (3, .int ((fX1_inHands M) &&& (fX0_suitSet p2))), (0, .ref (ad 7)), (1, .int p1), (2, .int p2)]) hx hb dX3_forkKind_71 hl (by decide) rfl (fun ls hl => ?_)
    refine lv_aload_n hx hb dX3_forkKind_73 rfl (lv_at hl 5 rfl) ?_
    refine gX3_game S5 hin hK hP (List.mem_of_getElem? (i := 1) rfl) dX3_forkKind_74 ?_
    refine lv_iload hx hb dX3_forkKind_77 (lv_at hl 3 rfl) ?_
    refine cVX S5 hK hP 0 rfl rfl (As := [.int (fX0_highest ((fX1_inHands M) &&& (fX0_suitSet p2)))]) (kX1_ownerOf l D cA ad _ _) (cwV 1 hts gX3_forkKind_X1_ownerOf rfl rfl rfl (by decide +kernel) ⟨(Nat.le_of_ble_eq_true rfl), (Nat.le_of_ble_eq_true rfl)⟩) rfl hl.1 (st0 := _) (rest := []) rfl (Nat.le_of_ble_eq_true rfl) dX3_forkKind_79 ⟨Nat.zero_le _, Nat.zero_le _⟩ ?_
    refine lv_iload_n hx hb dX3_forkKind_82 rfl (lv_at hl 6 rfl) ?_
    refine lv_icmp_ne (tgt := 111) hx hb dX3_forkKind_83 (by decide) (fun c2 => ?_) (fun c2 => ?_)
    · rw [if_neg c2] at h
      refine lv_iconst (v := 0) hx hb dX3_forkKind_111 (by decide) ?_
      subst h
      exact kr _ _ _ rfl rfl dX3_forkKind_112
    · rw [if_pos c2] at h
      refine lv_aload_n hx hb dX3_forkKind_86 rfl (lv_at hl 5 rfl) ?_
      refine gX3_game S5 hin hK hP (List.mem_of_getElem? (i := 1) rfl) dX3_forkKind_87 ?_
      refine lv_iload hx hb dX3_forkKind_90 (lv_at hl 1 rfl) ?_
      refine cVX S5 hK hP 0 rfl rfl (As := [.int (fX0_highest ((((fX1_inHands M) &&& (fX0_suitSet p2)) &&& ((sl 1 (fX0_highest ((fX1_inHands M) &&& (fX0_suitSet p2)))) ^^^ ((-1)))) &&& ((sl 1 (fX0_highest (((fX1_inHands M) &&& (fX0_suitSet p2)) &&& ((sl 1 (fX0_highest ((fX1_inHands M) &&& (fX0_suitSet p2)))) ^^^ ((-1)))))) ^^^ ((-1)))))]) (kX1_ownerOf l D cA ad _ _) (cwV 1 hts gX3_forkKind_X1_ownerOf rfl rfl rfl (by decide +kernel) ⟨(Nat.le_of_ble_eq_true rfl), (Nat.le_of_ble_eq_true rfl)⟩) rfl hl.1 (st0 := _) (rest := []) rfl (Nat.le_of_ble_eq_true rfl) dX3_forkKind_92 ⟨Nat.zero_le _, Nat.zero_le _⟩ ?_
      refine lv_iload_n hx hb dX3_forkKind_95 rfl (lv_at hl 6 rfl) ?_
      refine lv_icmp_ne (tgt := 111) hx hb dX3_forkKind_96 (by decide) (fun c3 => ?_) (fun c3 => ?_)
      · rw [if_neg c3] at h
        refine lv_iconst (v := 0) hx hb dX3_forkKind_111 (by decide) ?_
        subst h
        exact kr _ _ _ rfl rfl dX3_forkKind_112
      · rw [if_pos c3] at h
        refine lv_iload hx hb dX3_forkKind_99 (lv_at hl 0 rfl) ?_
        refine cS S5 (As := [.int (fX1_ownerOf (fX0_highest (((fX1_inHands M) &&& (fX0_suitSet p2)) &&& ((sl 1 (fX0_highest ((fX1_inHands M) &&& (fX0_suitSet p2)))) ^^^ ((-1))))) M)]) (kX0_sideOf l _) (va_cwS 1 hts gX3_forkKind_X0_sideOf rfl rfl rfl (by decide +kernel) ⟨(Nat.le_of_ble_eq_true rfl), (Nat.le_of_ble_eq_true rfl)⟩) rfl hl.1 (st0 := _) (rest := []) rfl (Nat.le_of_ble_eq_true rfl) dX3_forkKind_101 ⟨Nat.zero_le _, Nat.zero_le _⟩ ?_
        refine lv_iload_n hx hb dX3_forkKind_104 rfl (lv_at hl 6 rfl) ?_
        refine cS S5 (As := [.int p1]) (kX0_sideOf l _) (va_cwS 1 hts gX3_forkKind_X0_sideOf rfl rfl rfl (by decide +kernel) ⟨(Nat.le_of_ble_eq_true rfl), (Nat.le_of_ble_eq_true rfl)⟩) rfl hl.1 (st0 := _) (rest := [.int (fX0_sideOf (fX1_ownerOf (fX0_highest (((fX1_inHands M) &&& (fX0_suitSet p2)) &&& ((sl 1 (fX0_highest ((fX1_inHands M) &&& (fX0_suitSet p2)))) ^^^ ((-1))))) M))]) rfl (Nat.le_of_ble_eq_true rfl) dX3_forkKind_105 ⟨Nat.zero_le _, Nat.zero_le _⟩ ?_
        refine lv_icmp_ne (tgt := 113) hx hb dX3_forkKind_108 (by decide) (fun c4 => ?_) (fun c4 => ?_)
        · rw [if_neg c4] at h
          refine lv_iload hx hb dX3_forkKind_113 (lv_at hl 0 rfl) ?_
          refine lv_iconst (v := 1) hx hb dX3_forkKind_115 (by decide) ?_
          refine lv_iadd hx hb dX3_forkKind_116 ?_
          refine lv_iconst (v := 4) hx hb dX3_forkKind_117 (by decide) ?_
          refine r_irem S5 dX3_forkKind_118 (by decide) ?_
          refine lv_iload_n hx hb dX3_forkKind_119 rfl (lv_at hl 6 rfl) ?_
          refine lv_icmp_ne (tgt := 127) hx hb dX3_forkKind_120 (by decide) (fun c5 => ?_) (fun c5 => ?_)
          · rw [if_neg c5] at h
            refine lv_iconst (v := 1) hx hb dX3_forkKind_127 (by decide) ?_
            subst h
            exact kr _ _ _ rfl rfl dX3_forkKind_128
          · rw [if_pos c5] at h
            refine lv_iconst (v := 2) hx hb dX3_forkKind_123 (by decide) ?_
            refine lv_goto (tgt := 128) hx hb dX3_forkKind_124 (by decide) ?_
            subst h
            exact kr _ _ _ rfl rfl dX3_forkKind_128
        · rw [if_pos c4] at h
          refine lv_iconst (v := 0) hx hb dX3_forkKind_111 (by decide) ?_
          subst h
          exact kr _ _ _ rfl rfl dX3_forkKind_112
  · rw [if_neg c1] at h
    refine lv_iconst (v := 0) hx hb dX3_forkKind_21 (by decide) ?_
    subst h
    exact kr _ _ _ rfl rfl dX3_forkKind_22

-- X3_goodForksOf
def fX3_goodForksOf_L12 : Nat → Int32 → Int32 → Int32 → Mem → Option (Int32)
  | 0, _, _, _, _ => none
  | n + 1, v2, v3, v4, M => (if 4 ≤ v4 then some (v2) else (if (fX3_forkKind v3 v4 M) = 2 then fX3_goodForksOf_L12 n (v2 + 1) v3 (v4 + 1) M else fX3_goodForksOf_L12 n v2 v3 (v4 + 1) M))
def fX3_goodForksOf_L4 : Nat → Int32 → Int32 → Mem → Option (Int32)
  | 0, _, _, _ => none
  | n + 1, v2, v3, M => (if 4 ≤ v3 then some (v2) else (obind (fX3_goodForksOf_L12 40 v2 v3 0 M) (fun q3 => fX3_goodForksOf_L4 n q3 (v3 + 2) M)))
def fX3_goodForksOf (p1 : Int32) (M : Mem) : Option (Int32) := (obind (fX3_goodForksOf_L4 40 0 p1 M) (fun q1 => some (q1)))
def rmX3_goodForksOf : Room := { frames := 3, cells := 0, slots := 0, locals := 70 }
set_option maxHeartbeats 4000000 in
set_option maxRecDepth 100000 in
theorem kX3_goodForksOf (l : Launch) (D : va_G) (cA : Nat) (ad : Nat → Nat) (p1 : Int32) (M : Mem) (r : Int32) (h : fX3_goodForksOf p1 M = some r) : RdX l yX3_goodForksOf wsX3_goodForksOf rmX3_goodForksOf D cA ad M [.ref (ad 7), .int p1] r := by
  unfold fX3_goodForksOf at h
  refine RdX.of RX3 rfl rfl rfl (Nat.le_of_ble_eq_true rfl) ?_
  intro p e s m args below meth c Q ls S5 hK hP hl kr
  obtain ⟨hx, hb, -, -, hts⟩ := id S5
  have hin : ∀ w ∈ wsX30, w ∈ wsX3_goodForksOf := fun _ h => List.mem_cons_of_mem _ (List.mem_append_left _ (List.mem_append_right _ (h)))
  have L12 : ∀ (n : Nat) (v2 : Int32) (v3 : Int32) (v4 : Int32) (r' : Int32) (ls : Array Slot), fX3_goodForksOf_L12 n v2 v3 v4 M = some r' → lv_has ls 5 [(0, .ref (ad 7)), (2, .int v2), (3, .int v3), (4, .int v4)] → (∀ (ls : Array Slot), lv_has ls 5 [(0, .ref (ad 7)), (2, .int (r')), (3, .int v3)] → W p l e rmX3_goodForksOf s m args below meth c s.heap [] 0 0 Q (F0 m 38 ls [])) → W p l e rmX3_goodForksOf s m args below meth c s.heap [] 0 0 Q (F0 m 12 ls []) := by
    intro n
    induction n with
    | zero => intro v2 v3 v4 r' ls h hl kk; rw [fX3_goodForksOf_L12.eq_1] at h; cases h
    | succ n ih =>
      intro v2 v3 v4 r' ls h hl kk
      rw [fX3_goodForksOf_L12.eq_2] at h
      refine lv_iload hx hb dX3_goodForksOf_12 (lv_at hl 3 rfl) ?_
      refine lv_iconst (v := 4) hx hb dX3_goodForksOf_14 (by decide) ?_
      refine lv_icmp_ge (tgt := 38) hx hb dX3_goodForksOf_15 (by decide) (fun c4 => ?_) (fun c4 => ?_)
      · rw [if_pos c4] at h
        obtain rfl := Option.some.inj h
        exact kk _ (lv_sub hl [0, 1, 2] rfl)
      · rw [if_neg c4] at h
        refine lv_aload_n hx hb dX3_goodForksOf_18 rfl (lv_at hl 0 rfl) ?_
        refine lv_iload_n hx hb dX3_goodForksOf_19 rfl (lv_at hl 2 rfl) ?_
        refine lv_iload hx hb dX3_goodForksOf_20 (lv_at hl 3 rfl) ?_
        refine cVX S5 hK hP 7 rfl rfl (As := [.int v3, .int v4]) (kX3_forkKind l D cA ad _ _ _) (cwV 2 hts gX3_goodForksOf_X3_forkKind rfl rfl rfl (by decide +kernel) ⟨(Nat.le_of_ble_eq_true rfl), (Nat.le_of_ble_eq_true rfl)⟩) rfl hl.1 (st0 := _) (rest := []) rfl (Nat.le_of_ble_eq_true rfl) dX3_goodForksOf_22 ⟨Nat.zero_le _, Nat.zero_le _⟩ ?_
        refine lv_iconst (v := 2) hx hb dX3_goodForksOf_25 (by decide) ?_
        refine lv_icmp_ne (tgt := 32) hx hb dX3_goodForksOf_26 (by decide) (fun c5 => ?_) (fun c5 => ?_)
        · rw [if_neg c5] at h
          refine lv_iinc (v := v4 + 1) (lv' := [(4, .int (v4 + 1)), (0, .ref (ad 7)), (2, .int v2), (3, .int v3)]) hx hb dX3_goodForksOf_32 hl (k := 3) rfl rfl (by decide) rfl (fun ls hl => ?_)
          refine lv_goto (tgt := 12) hx hb dX3_goodForksOf_35 (by decide) ?_
          exact ih _ _ _ _ _ h (lv_sub hl [1, 2, 3, 0] rfl) kk
        · rw [if_pos c5] at h
          refine lv_iinc (v := v2 + 1) (lv' := [(2, .int (v2 + 1)), (0, .ref (ad 7)), (3, .int v3), (4, .int v4)]) hx hb dX3_goodForksOf_29 hl (k := 1) rfl rfl (by decide) rfl (fun ls hl => ?_)
          refine lv_iinc (v := v4 + 1) (lv' := [(4, .int (v4 + 1)), (2, .int (v2 + 1)), (0, .ref (ad 7)), (3, .int v3)]) hx hb dX3_goodForksOf_32 hl (k := 3) rfl rfl (by decide) rfl (fun ls hl => ?_)
          refine lv_goto (tgt := 12) hx hb dX3_goodForksOf_35 (by decide) ?_
          exact ih _ _ _ _ _ h (lv_sub hl [2, 1, 3, 0] rfl) kk
  have L4 : ∀ (n : Nat) (v2 : Int32) (v3 : Int32) (r' : Int32) (ls : Array Slot), fX3_goodForksOf_L4 n v2 v3 M = some r' → lv_has ls 5 [(0, .ref (ad 7)), (2, .int v2), (3, .int v3)] → (∀ (ls : Array Slot), lv_has ls 5 [(0, .ref (ad 7)), (2, .int (r'))] → W p l e rmX3_goodForksOf s m args below meth c s.heap [] 0 0 Q (F0 m 44 ls [])) → W p l e rmX3_goodForksOf s m args below meth c s.heap [] 0 0 Q (F0 m 4 ls []) := by
    intro n
    induction n with
    | zero => intro v2 v3 r' ls h hl kk; rw [fX3_goodForksOf_L4.eq_1] at h; cases h
    | succ n ih =>
      intro v2 v3 r' ls h hl kk
      rw [fX3_goodForksOf_L4.eq_2] at h
      refine lv_iload_n hx hb dX3_goodForksOf_4 rfl (lv_at hl 2 rfl) ?_
      refine lv_iconst (v := 4) hx hb dX3_goodForksOf_5 (by decide) ?_
      refine lv_icmp_ge (tgt := 44) hx hb dX3_goodForksOf_6 (by decide) (fun c2 => ?_) (fun c2 => ?_)
      · rw [if_pos c2] at h
        obtain rfl := Option.some.inj h
        exact kk _ (lv_sub hl [0, 1] rfl)
      · rw [if_neg c2] at h
        refine lv_iconst (v := 0) hx hb dX3_goodForksOf_9 (by decide) ?_
        refine lv_istore (lv' := [(4, .int 0), (0, .ref (ad 7)), (2, .int v2), (3, .int v3)]) hx hb dX3_goodForksOf_10 hl (by decide) rfl (fun ls hl => ?_)
        obtain ⟨q3, hqq3, h⟩ := obind_some h
        refine L12 _ _ _ _ _ _ hqq3 (lv_sub hl [1, 2, 3, 0] rfl) (fun ls hl => ?_)
        have hl := lv_sub (l' := [(0, .ref (ad 7)), (2, .int q3), (3, .int v3)]) hl [0, 1, 2] rfl
        refine lv_iinc (v := v3 + 2) (lv' := [(3, .int (v3 + 2)), (0, .ref (ad 7)), (2, .int q3)]) hx hb dX3_goodForksOf_38 hl (k := 2) rfl rfl (by decide) rfl (fun ls hl => ?_)
        refine lv_goto (tgt := 4) hx hb dX3_goodForksOf_41 (by decide) ?_
        exact ih _ _ _ _ h (lv_sub hl [1, 2, 0] rfl) kk
  refine lv_iconst (v := 0) hx hb dX3_goodForksOf_0 (by decide) ?_
  refine lv_istore_n (lv' := [(2, .int 0), (0, .ref (ad 7)), (1, .int p1)]) hx hb dX3_goodForksOf_1 rfl hl (by decide) rfl (fun ls hl => ?_)
  refine lv_iload_n hx hb dX3_goodForksOf_2 rfl (lv_at hl 2 rfl) ?_
  refine lv_istore_n (lv' := [(3, .int p1), (2, .int 0), (0, .ref (ad 7)), (1, .int p1)]) hx hb dX3_goodForksOf_3 rfl hl (by decide) rfl (fun ls hl => ?_)
  obtain ⟨q1, hqq1, h⟩ := obind_some h
  refine L4 _ _ _ _ _ hqq1 (lv_sub hl [2, 1, 0] rfl) (fun ls hl => ?_)
  have hl := lv_sub (l' := [(2, .int q1)]) hl [1] rfl
  refine lv_iload_n hx hb dX3_goodForksOf_44 rfl (lv_at hl 0 rfl) ?_
  obtain rfl := Option.some.inj h
  exact kr _ _ _ rfl rfl dX3_goodForksOf_45
