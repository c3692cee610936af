-- X6_layList
def fX6_layList_L14 : Nat → Int32 → Int32 → Int32 → Int32 → Mem → Option (Int32 × Mem)
  | 0, _, _, _, _, _ => none
  | n + 1, v1, v2, v3, v4, M => (if 24 ≤ v4 then some (v1, M) else (if vin v2 4 = true then (if (fX6_has (M 3 v2.toNatClampNeg) v4) = 0 then fX6_layList_L14 n v1 v2 v3 (v4 + 1) M else (if vin ((4 * v2) + v3) 16 = true then fX6_layList_L14 n (v1 ||| (sl 1 ((4 * v2) + v3))) v2 (v3 + 1) (v4 + 1) ((mset M 6 (((4 * v2) + v3).toNatClampNeg) v4)) else none)) else none))
def fX6_layList_L4 : Nat → Int32 → Int32 → Mem → Option (Int32 × Mem)
  | 0, _, _, _ => none
  | n + 1, v1, v2, M => (if 4 ≤ v2 then some (v1, M) else (obind (fX6_layList_L14 40 v1 v2 0 0 M) (fun q3 => fX6_layList_L4 n q3.1 (v2 + 1) q3.2)))
def fX6_layList (M : Mem) : Option (Int32 × Mem) := (obind (fX6_layList_L4 40 0 0 M) (fun q1 => some (q1.1, q1.2)))
def rmX6_layList : Room := { frames := 1, cells := 0, slots := 0, locals := 21 }
set_option maxHeartbeats 4000000 in
set_option maxRecDepth 100000 in
theorem kX6_layList (l : Launch) (D : va_G) (cA : Nat) (ad : Nat → Nat) (M : Mem) (r : Int32 × Mem) (h : fX6_layList M = some r) : WiM l yX6_layList wsX6_layList rmX6_layList D cA ad M [.ref (ad 0)] r := by
  unfold fX6_layList at h
  refine WiM.of RX6 rfl rfl rfl (Nat.le_of_ble_eq_true rfl) ?_
  intro p e s m args below meth c Q ls A eA S5 hK hP hD hS hl kr
  have hA : ∀ (H : Heap) (q : Nat), s.heap.size ≤ H.size → AX ad H.size q → A q := fun H q hz h => by rw [eA]; exact AX.mono hz h
  obtain ⟨hx, hb, -, -, hts⟩ := id S5
  have hin : ∀ w ∈ wsX60, w ∈ wsX6_layList := fun _ h => List.mem_cons_of_mem _ (List.mem_append_right _ (h))
  have L14 : ∀ (n : Nat) (v1 : Int32) (v2 : Int32) (v3 : Int32) (v4 : Int32) (M : Mem) (r' : Int32 × Mem) (H : Heap) (locs : List Loc) (ls : Array Slot), fX6_layList_L14 n v1 v2 v3 v4 M = some r' → va_P D vwCl (wM cA ad M) H → va_S A s.heap H locs → lv_has ls 5 [(0, .ref (ad 0)), (1, .int v1), (2, .int v2), (3, .int v3), (4, .int v4)] → (∀ (H : Heap) (locs : List Loc), va_P D vwCl (wM cA ad (r'.2)) H → va_S A s.heap H locs → ∀ (ls : Array Slot), lv_has ls 5 [(0, .ref (ad 0)), (1, .int (r'.1)), (2, .int v2)] → W p l e rmX6_layList s m args below meth c H locs 0 0 Q (F0 m 66 ls [])) → W p l e rmX6_layList s m args below meth c H locs 0 0 Q (F0 m 14 ls []) := by
    intro n
    induction n with
    | zero => intro v1 v2 v3 v4 M r' H locs ls h hP hS hl kk; rw [fX6_layList_L14.eq_1] at h; cases h
    | succ n ih =>
      intro v1 v2 v3 v4 M r' H locs ls h hP hS hl kk
      rw [fX6_layList_L14.eq_2] at h
      refine lv_iload hx hb dX6_layList_14 (lv_at hl 4 rfl) ?_
      refine lv_bipush (v := 24) hx hb dX6_layList_16 (by decide) ?_
      refine lv_icmp_ge (tgt := 66) hx hb dX6_layList_18 (by decide) (fun c4 => ?_) (fun c4 => ?_)
      · rw [if_pos c4] at h
        obtain rfl := Option.some.inj h
        exact kk _ _ hP hS _ (lv_sub hl [0, 1, 2] rfl)
      · rw [if_neg c4] at h
        refine lv_aload_n hx hb dX6_layList_21 rfl (lv_at hl 0 rfl) ?_
        refine gX6_hands S5 hin hK hP (List.mem_of_getElem? (i := 1) rfl) dX6_layList_22 ?_
        refine lv_iload_n hx hb dX6_layList_25 rfl (lv_at hl 2 rfl) ?_
        obtain ⟨g5, h⟩ := gd_some h
        refine alM3 S5 hK hP (v := M 3 v2.toNatClampNeg) g5 rfl dX6_layList_26 ?_
        refine lv_iload hx hb dX6_layList_27 (lv_at hl 4 rfl) ?_
        refine cS S5 (As := [.int (M 3 v2.toNatClampNeg), .int v4]) (kX6_has l _ _) (va_cwS 2 hts gX6_layList_X6_has rfl rfl rfl (by decide +kernel) ⟨(Nat.le_of_ble_eq_true rfl), (Nat.le_of_ble_eq_true rfl)⟩) rfl hl.1 (st0 := _) (rest := []) rfl (Nat.le_of_ble_eq_true rfl) dX6_layList_29 ⟨Nat.zero_le _, Nat.zero_le _⟩ ?_
        refine lv_if_eq (tgt := 60) hx hb dX6_layList_32 (by decide) (fun c6 => ?_) (fun c6 => ?_)
        · rw [if_pos c6] at h
          refine lv_iinc (v := v4 + 1) (lv' := [(4, .int (v4 + 1)), (0, .ref (ad 0)), (1, .int v1), (2, .int v2), (3, .int v3)]) hx hb dX6_layList_60 hl (k := 4) rfl rfl (by decide) rfl (fun ls hl => ?_)
          refine lv_goto (tgt := 14) hx hb dX6_layList_63 (by decide) ?_
          exact ih _ _ _ _ _ _ _ _ _ h hP hS (lv_sub hl [1, 2, 3, 4, 0] rfl) kk
        · rw [if_neg c6] at h
          refine lv_aload_n hx hb dX6_layList_35 rfl (lv_at hl 0 rfl) ?_
          refine gX6_list S5 hin hK hP (List.mem_of_getElem? (i := 2) rfl) dX6_layList_36 ?_
          refine lv_iconst (v := 4) hx hb dX6_layList_39 (by decide) ?_
          refine lv_iload_n hx hb dX6_layList_40 rfl (lv_at hl 2 rfl) ?_
          refine lv_imul hx hb dX6_layList_41 ?_
          refine lv_iload_n hx hb dX6_layList_42 rfl (lv_at hl 3 rfl) ?_
          refine lv_iadd hx hb dX6_layList_43 ?_
          refine lv_iload hx hb dX6_layList_44 (lv_at hl 4 rfl) ?_
          obtain ⟨g7, h⟩ := gd_some h
          refine asM6 S5 hK hP hD hS g7 (k := ((4 * v2) + v3).toNatClampNeg) rfl dX6_layList_46 (fun H locs hP hS => ?_)
          refine lv_iload_n hx hb dX6_layList_47 rfl (lv_at hl 1 rfl) ?_
          refine lv_iconst (v := 1) hx hb dX6_layList_48 (by decide) ?_
          refine lv_iconst (v := 4) hx hb dX6_layList_49 (by decide) ?_
          refine lv_iload_n hx hb dX6_layList_50 rfl (lv_at hl 2 rfl) ?_
          refine lv_imul hx hb dX6_layList_51 ?_
          refine lv_iload_n hx hb dX6_layList_52 rfl (lv_at hl 3 rfl) ?_
          refine lv_iadd hx hb dX6_layList_53 ?_
          refine r_ishl S5 dX6_layList_54 ?_
          refine lv_ior hx hb dX6_layList_55 ?_
          refine lv_istore_n (lv' := [(1, .int (v1 ||| (sl 1 ((4 * v2) + v3)))), (0, .ref (ad 0)), (2, .int v2), (3, .int v3), (4, .int v4)]) hx hb dX6_layList_56 rfl hl (by decide) rfl (fun ls hl => ?_)
          refine lv_iinc (v := v3 + 1) (lv' := [(3, .int (v3 + 1)), (1, .int (v1 ||| (sl 1 ((4 * v2) + v3)))), (0, .ref (ad 0)), (2, .int v2), (4, .int v4)]) hx hb dX6_layList_57 hl (k := 3) rfl rfl (by decide) rfl (fun ls hl => ?_)
          refine lv_iinc (v := v4 + 1) (lv' := [(4, .int (v4 + 1)), (3, .int (v3 + 1)), (1, .int (v1 ||| (sl 1 ((4 * v2) + v3)))), (0, .ref (ad 0)), (2, .int v2)]) hx hb dX6_layList_60 hl (k := 4) rfl rfl (by decide) rfl (fun ls hl => ?_)
          refine lv_goto (tgt := 14) hx hb dX6_layList_63 (by decide) ?_
          exact ih _ _ _ _ _ _ _ _ _ h hP hS (lv_sub hl [3, 2, 4, 1, 0] rfl) kk
  have L4 : ∀ (n : Nat) (v1 : Int32) (v2 : Int32) (M : Mem) (r' : Int32 × Mem) (H : Heap) (locs : List Loc) (ls : Array Slot), fX6_layList_L4 n v1 v2 M = some r' → va_P D vwCl (wM cA ad M) H → va_S A s.heap H locs → lv_has ls 5 [(0, .ref (ad 0)), (1, .int v1), (2, .int v2)] → (∀ (H : Heap) (locs : List Loc), va_P D vwCl (wM cA ad (r'.2)) H → va_S A s.heap H locs → ∀ (ls : Array Slot), lv_has ls 5 [(0, .ref (ad 0)), (1, .int (r'.1))] → W p l e rmX6_layList s m args below meth c H locs 0 0 Q (F0 m 72 ls [])) → W p l e rmX6_layList s m args below meth c H locs 0 0 Q (F0 m 4 ls []) := by
    intro n
    induction n with
    | zero => intro v1 v2 M r' H locs ls h hP hS hl kk; rw [fX6_layList_L4.eq_1] at h; cases h
    | succ n ih =>
      intro v1 v2 M r' H locs ls h hP hS hl kk
      rw [fX6_layList_L4.eq_2] at h
      refine lv_iload_n hx hb dX6_layList_4 rfl (lv_at hl 2 rfl) ?_
      refine lv_iconst (v := 4) hx hb dX6_layList_5 (by decide) ?_
      refine lv_icmp_ge (tgt := 72) hx hb dX6_layList_6 (by decide) (fun c2 => ?_) (fun c2 => ?_)
      · rw [if_pos c2] at h
        obtain rfl := Option.some.inj h
        exact kk _ _ hP hS _ (lv_sub hl [0, 1] rfl)
      · rw [if_neg c2] at h
        refine lv_iconst (v := 0) hx hb dX6_layList_9 (by decide) ?_
        refine lv_istore_n (lv' := [(3, .int 0), (0, .ref (ad 0)), (1, .int v1), (2, .int v2)]) hx hb dX6_layList_10 rfl hl (by decide) rfl (fun ls hl => ?_)
        refine lv_iconst (v := 0) hx hb dX6_layList_11 (by decide) ?_
        refine lv_istore (lv' := [(4, .int 0), (3, .int 0), (0, .ref (ad 0)), (1, .int v1), (2, .int v2)]) hx hb dX6_layList_12 hl (by decide) rfl (fun ls hl => ?_)
        obtain ⟨q3, hqq3, h⟩ := obind_some h
        refine L14 _ _ _ _ _ _ _ _ _ _ hqq3 hP hS (lv_sub hl [2, 3, 4, 1, 0] rfl) (fun H locs hP hS ls hl => ?_)
        have hl := lv_sub (l' := [(0, .ref (ad 0)), (1, .int q3.1), (2, .int v2)]) hl [0, 1, 2] rfl
        refine lv_iinc (v := v2 + 1) (lv' := [(2, .int (v2 + 1)), (0, .ref (ad 0)), (1, .int q3.1)]) hx hb dX6_layList_66 hl (k := 2) rfl rfl (by decide) rfl (fun ls hl => ?_)
        refine lv_goto (tgt := 4) hx hb dX6_layList_69 (by decide) ?_
        exact ih _ _ _ _ _ _ _ h hP hS (lv_sub hl [1, 2, 0] rfl) kk
  refine lv_iconst (v := 0) hx hb dX6_layList_0 (by decide) ?_
  refine lv_istore_n (lv' := [(1, .int 0), (0, .ref (ad 0))]) hx hb dX6_layList_1 rfl hl (by decide) rfl (fun ls hl => ?_)
  refine lv_iconst (v := 0) hx hb dX6_layList_2 (by decide) ?_
  refine lv_istore_n (lv' := [(2, .int 0), (1, .int 0), (0, .ref (ad 0))]) hx hb dX6_layList_3 rfl hl (by decide) rfl (fun ls hl => ?_)
  obtain ⟨q1, hqq1, h⟩ := obind_some h
  refine L4 _ _ _ _ _ _ _ _ hqq1 hP hS (lv_sub hl [2, 1, 0] rfl) (fun H locs hP hS ls hl => ?_)
  have hl := lv_sub (l' := [(1, .int q1.1)]) hl [1] rfl
  refine lv_iload_n hx hb dX6_layList_72 rfl (lv_at hl 0 rfl) ?_
  obtain rfl := Option.some.inj h
  exact kr _ _ _ _ _ rfl rfl hP hS dX6_layList_73

-- X6_can
def fX6_can_L63 : Nat → Int32 → Int32 → Int32 → Mem → Option (Int32)
  | 0, _, _, _, _ => none
  | n + 1, v1, v2, v6, M => (if ((4 * v2) + 4) ≤ v6 then some (1) else (if (fX6_has v1 v6) = 0 then fX6_can_L63 n v1 v2 (v6 + 1) M else (if vin v6 16 = true then (if ((M 6 v6.toNatClampNeg) / 6) = ((M 8 0) / 6) then some (0) else fX6_can_L63 n v1 v2 (v6 + 1) M) else none)))
def fX6_can (p1 : Int32) (p2 : Int32) (p3 : Int32) (p4 : Int32) (M : Mem) : Option (Int32) := (if (fX6_has p1 ((4 * p2) + p3)) = 0 then some (0) else (if p4 = 0 then some (1) else (if vin ((4 * p2) + p3) 16 = true then (if ((M 6 (((4 * p2) + p3).toNatClampNeg)) / 6) = ((M 8 0) / 6) then some (1) else fX6_can_L63 40 p1 p2 (4 * p2) M) else none)))
def rmX6_can : Room := { frames := 1, cells := 0, slots := 0, locals := 21 }
set_option maxHeartbeats 4000000 in
set_option maxRecDepth 100000 in
theorem kX6_can (l : Launch) (D : va_G) (cA : Nat) (ad : Nat → Nat) (p1 : Int32) (p2 : Int32) (p3 : Int32) (p4 : Int32) (M : Mem) (r : Int32) (h : fX6_can p1 p2 p3 p4 M = some r) : RdM l yX6_can wsX6_can rmX6_can D cA ad M [.ref (ad 0), .int p1, .int p2, .int p3, .int p4] r := by
  unfold fX6_can at h
  refine RdM.of RX6 rfl rfl rfl (Nat.le_of_ble_eq_true rfl) ?_
  intro p e s m args below meth c Q ls S5 hK hP hl kr
  obtain ⟨hx, hb, -, -, hts⟩ := id S5
  have hin : ∀ w ∈ wsX60, w ∈ wsX6_can := fun _ h => List.mem_cons_of_mem _ (List.mem_append_right _ (h))
  have L63 : ∀ (n : Nat) (v1 : Int32) (v2 : Int32) (v6 : Int32) (ls : Array Slot), fX6_can_L63 n v1 v2 v6 M = some r → lv_has ls 7 [(0, .ref (ad 0)), (1, .int v1), (2, .int v2), (6, .int v6)] → W p l e rmX6_can s m args below meth c s.heap [] 0 0 Q (F0 m 63 ls []) := by
    intro n
    induction n with
    | zero => intro v1 v2 v6 ls h hl; rw [fX6_can_L63.eq_1] at h; cases h
    | succ n ih =>
      intro v1 v2 v6 ls h hl
      rw [fX6_can_L63.eq_2] at h
      refine lv_iload hx hb dX6_can_63 (lv_at hl 3 rfl) ?_
      refine lv_iconst (v := 4) hx hb dX6_can_65 (by decide) ?_
      refine lv_iload_n hx hb dX6_can_66 rfl (lv_at hl 2 rfl) ?_
      refine lv_imul hx hb dX6_can_67 ?_
      refine lv_iconst (v := 4) hx hb dX6_can_68 (by decide) ?_
      refine lv_iadd hx hb dX6_can_69 ?_
      refine lv_icmp_ge (tgt := 112) hx hb dX6_can_70 (by decide) (fun c8 => ?_) (fun c8 => ?_)
      · rw [if_pos c8] at h
        refine lv_iconst (v := 1) hx hb dX6_can_112 (by decide) ?_
        obtain rfl := Option.some.inj h
        exact kr _ _ _ rfl rfl dX6_can_113
      · rw [if_neg c8] at h
        refine lv_iload_n hx hb dX6_can_73 rfl (lv_at hl 1 rfl) ?_
        refine lv_iload hx hb dX6_can_74 (lv_at hl 3 rfl) ?_
        refine cS S5 (As := [.int v1, .int v6]) (kX6_has l _ _) (va_cwS 2 hts gX6_can_X6_has rfl rfl rfl (by decide +kernel) ⟨(Nat.le_of_ble_eq_true rfl), (Nat.le_of_ble_eq_true rfl)⟩) rfl hl.1 (st0 := _) (rest := []) rfl (Nat.le_of_ble_eq_true rfl) dX6_can_76 ⟨Nat.zero_le _, Nat.zero_le _⟩ ?_
        refine lv_if_eq (tgt := 106) hx hb dX6_can_79 (by decide) (fun c9 => ?_) (fun c9 => ?_)
        · rw [if_pos c9] at h
          refine lv_iinc (v := v6 + 1) (lv' := [(6, .int (v6 + 1)), (0, .ref (ad 0)), (1, .int v1), (2, .int v2)]) hx hb dX6_can_106 hl (k := 3) rfl rfl (by decide) rfl (fun ls hl => ?_)
          refine lv_goto (tgt := 63) hx hb dX6_can_109 (by decide) ?_
          exact ih _ _ _ _ h (lv_sub hl [1, 2, 3, 0] rfl)
        · rw [if_neg c9] at h
          refine lv_aload_n hx hb dX6_can_82 rfl (lv_at hl 0 rfl) ?_
          refine gX6_list S5 hin hK hP (List.mem_of_getElem? (i := 1) rfl) dX6_can_83 ?_
          refine lv_iload hx hb dX6_can_86 (lv_at hl 3 rfl) ?_
          obtain ⟨g10, h⟩ := gd_some h
          refine alM6 S5 hK hP (v := M 6 v6.toNatClampNeg) g10 rfl dX6_can_88 ?_
          refine lv_bipush (v := 6) hx hb dX6_can_89 (by decide) ?_
          refine r_idiv S5 dX6_can_91 (by decide) ?_
          refine lv_aload_n hx hb dX6_can_92 rfl (lv_at hl 0 rfl) ?_
          refine gX6_thought S5 hin hK hP (List.mem_of_getElem? (i := 2) rfl) dX6_can_93 ?_
          refine lv_iconst (v := 0) hx hb dX6_can_96 (by decide) ?_
          refine alM8 S5 hK hP (v := M 8 0) (by decide) rfl dX6_can_97 ?_
          refine lv_bipush (v := 6) hx hb dX6_can_98 (by decide) ?_
          refine r_idiv S5 dX6_can_100 (by decide) ?_
          refine lv_icmp_ne (tgt := 106) hx hb dX6_can_101 (by decide) (fun c11 => ?_) (fun c11 => ?_)
          · rw [if_neg c11] at h
            refine lv_iinc (v := v6 + 1) (lv' := [(6, .int (v6 + 1)), (0, .ref (ad 0)), (1, .int v1), (2, .int v2)]) hx hb dX6_can_106 hl (k := 3) rfl rfl (by decide) rfl (fun ls hl => ?_)
            refine lv_goto (tgt := 63) hx hb dX6_can_109 (by decide) ?_
            exact ih _ _ _ _ h (lv_sub hl [1, 2, 3, 0] rfl)
          · rw [if_pos c11] at h
            refine lv_iconst (v := 0) hx hb dX6_can_104 (by decide) ?_
            obtain rfl := Option.some.inj h
            exact kr _ _ _ rfl rfl dX6_can_105
  refine lv_iload_n hx hb dX6_can_0 rfl (lv_at hl 1 rfl) ?_
  refine lv_iconst (v := 4) hx hb dX6_can_1 (by decide) ?_
  refine lv_iload_n hx hb dX6_can_2 rfl (lv_at hl 2 rfl) ?_
  refine lv_imul hx hb dX6_can_3 ?_
  refine lv_iload_n hx hb dX6_can_4 rfl (lv_at hl 3 rfl) ?_
  refine lv_iadd hx hb dX6_can_5 ?_
  refine cS S5 (As := [.int p1, .int ((4 * p2) + p3)]) (kX6_has l _ _) (va_cwS 2 hts gX6_can_X6_has rfl rfl rfl (by decide +kernel) ⟨(Nat.le_of_ble_eq_true rfl), (Nat.le_of_ble_eq_true rfl)⟩) rfl hl.1 (st0 := _) (rest := []) rfl (Nat.le_of_ble_eq_true rfl) dX6_can_6 ⟨Nat.zero_le _, Nat.zero_le _⟩ ?_
  refine lv_if_ne (tgt := 14) hx hb dX6_can_9 (by decide) (fun c1 => ?_) (fun c1 => ?_)
  · rw [if_neg c1] at h
    refine lv_iload hx hb dX6_can_14 (lv_at hl 4 rfl) ?_
    refine lv_if_eq (tgt := 44) hx hb dX6_can_16 (by decide) (fun c2 => ?_) (fun c2 => ?_)
    · rw [if_pos c2] at h
      refine lv_iconst (v := 1) hx hb dX6_can_44 (by decide) ?_
      refine lv_goto (tgt := 49) hx hb dX6_can_45 (by decide) ?_
      refine lv_istore (lv' := [(5, .int 1), (0, .ref (ad 0)), (1, .int p1), (2, .int p2), (3, .int p3), (4, .int p4)]) hx hb dX6_can_49 hl (by decide) rfl (fun ls hl => ?_)
      refine lv_iload hx hb dX6_can_51 (lv_at hl 0 rfl) ?_
      refine lv_if_eq (tgt := 58) hx hb dX6_can_53 (by decide) (fun c3 => absurd c3 (by decide)) (fun c3 => ?_)
      refine lv_iconst (v := 1) hx hb dX6_can_56 (by decide) ?_
      obtain rfl := Option.some.inj h
      exact kr _ _ _ rfl rfl dX6_can_57
    · rw [if_neg c2] at h
      refine lv_aload_n hx hb dX6_can_19 rfl (lv_at hl 0 rfl) ?_
      refine gX6_list S5 hin hK hP (List.mem_of_getElem? (i := 1) rfl) dX6_can_20 ?_
      refine lv_iconst (v := 4) hx hb dX6_can_23 (by decide) ?_
      refine lv_iload_n hx hb dX6_can_24 rfl (lv_at hl 2 rfl) ?_
      refine lv_imul hx hb dX6_can_25 ?_
      refine lv_iload_n hx hb dX6_can_26 rfl (lv_at hl 3 rfl) ?_
      refine lv_iadd hx hb dX6_can_27 ?_
      obtain ⟨g4, h⟩ := gd_some h
      refine alM6 S5 hK hP (v := M 6 (((4 * p2) + p3).toNatClampNeg)) g4 rfl dX6_can_28 ?_
      refine lv_bipush (v := 6) hx hb dX6_can_29 (by decide) ?_
      refine r_idiv S5 dX6_can_31 (by decide) ?_
      refine lv_aload_n hx hb dX6_can_32 rfl (lv_at hl 0 rfl) ?_
      refine gX6_thought S5 hin hK hP (List.mem_of_getElem? (i := 2) rfl) dX6_can_33 ?_
      refine lv_iconst (v := 0) hx hb dX6_can_36 (by decide) ?_
      refine alM8 S5 hK hP (v := M 8 0) (by decide) rfl dX6_can_37 ?_
      refine lv_bipush (v := 6) hx hb dX6_can_38 (by decide) ?_
      refine r_idiv S5 dX6_can_40 (by decide) ?_
      refine lv_icmp_ne (tgt := 48) hx hb dX6_can_41 (by decide) (fun c5 => ?_) (fun c5 => ?_)
      · rw [if_neg c5] at h
        refine lv_iconst (v := 0) hx hb dX6_can_48 (by decide) ?_
        refine lv_istore (lv' := [(5, .int 0), (0, .ref (ad 0)), (1, .int p1), (2, .int p2), (3, .int p3), (4, .int p4)]) hx hb dX6_can_49 hl (by decide) rfl (fun ls hl => ?_)
        refine lv_iload hx hb dX6_can_51 (lv_at hl 0 rfl) ?_
        refine lv_if_eq (tgt := 58) hx hb dX6_can_53 (by decide) (fun c6 => ?_) (fun c6 => absurd c6 (by decide))
        refine lv_iconst (v := 4) hx hb dX6_can_58 (by decide) ?_
        refine lv_iload_n hx hb dX6_can_59 rfl (lv_at hl 3 rfl) ?_
        refine lv_imul hx hb dX6_can_60 ?_
        refine lv_istore (lv' := [(6, .int (4 * p2)), (5, .int 0), (0, .ref (ad 0)), (1, .int p1), (2, .int p2), (3, .int p3), (4, .int p4)]) hx hb dX6_can_61 hl (by decide) rfl (fun ls hl => ?_)
        exact L63 _ _ _ _ _ h (lv_sub hl [2, 3, 4, 0] rfl)
      · rw [if_pos c5] at h
        refine lv_iconst (v := 1) hx hb dX6_can_44 (by decide) ?_
        refine lv_goto (tgt := 49) hx hb dX6_can_45 (by decide) ?_
        refine lv_istore (lv' := [(5, .int 1), (0, .ref (ad 0)), (1, .int p1), (2, .int p2), (3, .int p3), (4, .int p4)]) hx hb dX6_can_49 hl (by decide) rfl (fun ls hl => ?_)
        refine lv_iload hx hb dX6_can_51 (lv_at hl 0 rfl) ?_
        refine lv_if_eq (tgt := 58) hx hb dX6_can_53 (by decide) (fun c7 => absurd c7 (by decide)) (fun c7 => ?_)
        refine lv_iconst (v := 1) hx hb dX6_can_56 (by decide) ?_
        obtain rfl := Option.some.inj h
        exact kr _ _ _ rfl rfl dX6_can_57
  · rw [if_pos c1] at h
    refine lv_iconst (v := 0) hx hb dX6_can_12 (by decide) ?_
    obtain rfl := Option.some.inj h
    exact kr _ _ _ rfl rfl dX6_can_13

-- X6_finished
def fX6_finished_L16 : Nat → Int32 → Int32 → Int32 → Int32 → Int32 → Mem → Option (Int32)
  | 0, _, _, _, _, _, _ => none
  | n + 1, v1, v2, v3, v4, v5, M => (if 4 ≤ v5 then some (v4) else (if vin v5 4 = true then (if vin v4 4 = true then (if (fX6_weight (M 8 v5.toNatClampNeg) v3 M) ≤ (fX6_weight (M 8 v4.toNatClampNeg) v3 M) then fX6_finished_L16 n v1 v2 v3 v4 (v5 + 1) M else fX6_finished_L16 n v1 v2 v3 v5 (v5 + 1) M) else none) else none))
def fX6_finished (p1 : Int32) (p2 : Int32) (M : Mem) : Option (Int32) := (obind (fX6_finished_L16 40 p1 p2 ((M 8 0) / 6) 0 1 M) (fun q1 => (if (im (im (p1 + q1) 4) 2) = 0 then (if vin ((65536 * (im (p1 + q1) 4)) + p2) 262144 = true then some (1 + (M 7 (((65536 * (im (p1 + q1) 4)) + p2).toNatClampNeg))) else none) else (if vin ((65536 * (im (p1 + q1) 4)) + p2) 262144 = true then some (0 + (M 7 (((65536 * (im (p1 + q1) 4)) + p2).toNatClampNeg))) else none))))
def rmX6_finished : Room := { frames := 1, cells := 0, slots := 0, locals := 22 }
set_option maxHeartbeats 4000000 in
set_option maxRecDepth 100000 in
theorem kX6_finished (l : Launch) (D : va_G) (cA : Nat) (ad : Nat → Nat) (p1 : Int32) (p2 : Int32) (M : Mem) (r : Int32) (h : fX6_finished p1 p2 M = some r) : RdM l yX6_finished wsX6_finished rmX6_finished D cA ad M [.ref (ad 0), .int p1, .int p2] r := by
  unfold fX6_finished at h
  refine RdM.of RX6 rfl rfl rfl (Nat.le_of_ble_eq_true rfl) ?_
  intro p e s m args below meth c Q ls S5 hK hP hl kr
  obtain ⟨hx, hb, -, -, hts⟩ := id S5
  have hin : ∀ w ∈ wsX60, w ∈ wsX6_finished := fun _ h => List.mem_cons_of_mem _ (List.mem_append_right _ (h))
  have L16 : ∀ (n : Nat) (v1 : Int32) (v2 : Int32) (v3 : Int32) (v4 : Int32) (v5 : Int32) (r' : Int32) (ls : Array Slot), fX6_finished_L16 n v1 v2 v3 v4 v5 M = some r' → lv_has ls 6 [(0, .ref (ad 0)), (1, .int v1), (2, .int v2), (3, .int v3), (4, .int v4), (5, .int v5)] → (∀ (ls : Array Slot), lv_has ls 6 [(0, .ref (ad 0)), (1, .int v1), (2, .int v2), (3, .int v3), (4, .int (r'))] → W p l e rmX6_finished s m args below meth c s.heap [] 0 0 Q (F0 m 64 ls [])) → W p l e rmX6_finished s m args below meth c s.heap [] 0 0 Q (F0 m 16 ls []) := by
    intro n
    induction n with
    | zero => intro v1 v2 v3 v4 v5 r' ls h hl kk; rw [fX6_finished_L16.eq_1] at h; cases h
    | succ n ih =>
      intro v1 v2 v3 v4 v5 r' ls h hl kk
      rw [fX6_finished_L16.eq_2] at h
      refine lv_iload hx hb dX6_finished_16 (lv_at hl 5 rfl) ?_
      refine lv_iconst (v := 4) hx hb dX6_finished_18 (by decide) ?_
      refine lv_icmp_ge (tgt := 64) hx hb dX6_finished_19 (by decide) (fun c5 => ?_) (fun c5 => ?_)
      · rw [if_pos c5] at h
        obtain rfl := Option.some.inj h
        exact kk _ (lv_sub hl [0, 1, 2, 3, 4] rfl)
      · rw [if_neg c5] at h
        refine lv_aload_n hx hb dX6_finished_22 rfl (lv_at hl 0 rfl) ?_
        refine lv_aload_n hx hb dX6_finished_23 rfl (lv_at hl 0 rfl) ?_
        refine gX6_thought S5 hin hK hP (List.mem_of_getElem? (i := 1) rfl) dX6_finished_24 ?_
        refine lv_iload hx hb dX6_finished_27 (lv_at hl 5 rfl) ?_
        obtain ⟨g6, h⟩ := gd_some h
        refine alM8 S5 hK hP (v := M 8 v5.toNatClampNeg) g6 rfl dX6_finished_29 ?_
        refine lv_iload_n hx hb dX6_finished_30 rfl (lv_at hl 3 rfl) ?_
        refine cVM S5 hK hP 0 rfl rfl (As := [.int (M 8 v5.toNatClampNeg), .int v3]) (kX6_weight l D cA ad _ _ _) (cwV 2 hts gX6_finished_X6_weight rfl rfl rfl (by decide +kernel) ⟨(Nat.le_of_ble_eq_true rfl), (Nat.le_of_ble_eq_true rfl)⟩) rfl hl.1 (st0 := _) (rest := []) rfl (Nat.le_of_ble_eq_true rfl) dX6_finished_31 ⟨Nat.zero_le _, Nat.zero_le _⟩ ?_
        refine lv_aload_n hx hb dX6_finished_34 rfl (lv_at hl 0 rfl) ?_
        refine lv_aload_n hx hb dX6_finished_35 rfl (lv_at hl 0 rfl) ?_
        refine gX6_thought S5 hin hK hP (List.mem_of_getElem? (i := 1) rfl) dX6_finished_36 ?_
        refine lv_iload hx hb dX6_finished_39 (lv_at hl 4 rfl) ?_
        obtain ⟨g7, h⟩ := gd_some h
        refine alM8 S5 hK hP (v := M 8 v4.toNatClampNeg) g7 rfl dX6_finished_41 ?_
        refine lv_iload_n hx hb dX6_finished_42 rfl (lv_at hl 3 rfl) ?_
        refine cVM S5 hK hP 0 rfl rfl (As := [.int (M 8 v4.toNatClampNeg), .int v3]) (kX6_weight l D cA ad _ _ _) (cwV 2 hts gX6_finished_X6_weight rfl rfl rfl (by decide +kernel) ⟨(Nat.le_of_ble_eq_true rfl), (Nat.le_of_ble_eq_true rfl)⟩) rfl hl.1 (st0 := _) (rest := [.int (fX6_weight (M 8 v5.toNatClampNeg) v3 M)]) rfl (Nat.le_of_ble_eq_true rfl) dX6_finished_43 ⟨Nat.zero_le _, Nat.zero_le _⟩ ?_
        refine lv_icmp_le (tgt := 54) hx hb dX6_finished_46 (by decide) (fun c8 => ?_) (fun c8 => ?_)
        · rw [if_pos c8] at h
          refine lv_iload hx hb dX6_finished_54 (lv_at hl 4 rfl) ?_
          refine lv_istore (lv' := [(4, .int v4), (0, .ref (ad 0)), (1, .int v1), (2, .int v2), (3, .int v3), (5, .int v5)]) hx hb dX6_finished_56 hl (by decide) rfl (fun ls hl => ?_)
          refine lv_iinc (v := v5 + 1) (lv' := [(5, .int (v5 + 1)), (4, .int v4), (0, .ref (ad 0)), (1, .int v1), (2, .int v2), (3, .int v3)]) hx hb dX6_finished_58 hl (k := 5) rfl rfl (by decide) rfl (fun ls hl => ?_)
          refine lv_goto (tgt := 16) hx hb dX6_finished_61 (by decide) ?_
          exact ih _ _ _ _ _ _ _ h (lv_sub hl [2, 3, 4, 5, 1, 0] rfl) kk
        · rw [if_neg c8] at h
          refine lv_iload hx hb dX6_finished_49 (lv_at hl 5 rfl) ?_
          refine lv_goto (tgt := 56) hx hb dX6_finished_51 (by decide) ?_
          refine lv_istore (lv' := [(4, .int v5), (0, .ref (ad 0)), (1, .int v1), (2, .int v2), (3, .int v3), (5, .int v5)]) hx hb dX6_finished_56 hl (by decide) rfl (fun ls hl => ?_)
          refine lv_iinc (v := v5 + 1) (lv' := [(5, .int (v5 + 1)), (4, .int v5), (0, .ref (ad 0)), (1, .int v1), (2, .int v2), (3, .int v3)]) hx hb dX6_finished_58 hl (k := 5) rfl rfl (by decide) rfl (fun ls hl => ?_)
          refine lv_goto (tgt := 16) hx hb dX6_finished_61 (by decide) ?_
          exact ih _ _ _ _ _ _ _ h (lv_sub hl [2, 3, 4, 5, 1, 0] rfl) kk
  refine lv_aload_n hx hb dX6_finished_0 rfl (lv_at hl 0 rfl) ?_
  refine gX6_thought S5 hin hK hP (List.mem_of_getElem? (i := 1) rfl) dX6_finished_1 ?_
  refine lv_iconst (v := 0) hx hb dX6_finished_4 (by decide) ?_
  refine alM8 S5 hK hP (v := M 8 0) (by decide) rfl dX6_finished_5 ?_
  refine lv_bipush (v := 6) hx hb dX6_finished_6 (by decide) ?_
  refine r_idiv S5 dX6_finished_8 (by decide) ?_
  refine lv_istore_n (lv' := [(3, .int ((M 8 0) / 6)), (0, .ref (ad 0)), (1, .int p1), (2, .int p2)]) hx hb dX6_finished_9 rfl hl (by decide) rfl (fun ls hl => ?_)
  refine lv_iconst (v := 0) hx hb dX6_finished_10 (by decide) ?_
  refine lv_istore (lv' := [(4, .int 0), (3, .int ((M 8 0) / 6)), (0, .ref (ad 0)), (1, .int p1), (2, .int p2)]) hx hb dX6_finished_11 hl (by decide) rfl (fun ls hl => ?_)
  refine lv_iconst (v := 1) hx hb dX6_finished_13 (by decide) ?_
  refine lv_istore (lv' := [(5, .int 1), (4, .int 0), (3, .int ((M 8 0) / 6)), (0, .ref (ad 0)), (1, .int p1), (2, .int p2)]) hx hb dX6_finished_14 hl (by decide) rfl (fun ls hl => ?_)
  obtain ⟨q1, hqq1, h⟩ := obind_some h
  refine L16 _ _ _ _ _ _ _ _ hqq1 (lv_sub hl [3, 4, 5, 2, 1, 0] rfl) (fun ls hl => ?_)
  have hl := lv_sub (l' := [(0, .ref (ad 0)), (1, .int p1), (2, .int p2), (4, .int q1)]) hl [0, 1, 2, 4] rfl
  refine lv_iload_n hx hb dX6_finished_64 rfl (lv_at hl 1 rfl) ?_
  refine lv_iload hx hb dX6_finished_65 (lv_at hl 3 rfl) ?_
  refine lv_iadd hx hb dX6_finished_67 ?_
  refine lv_iconst (v := 4) hx hb dX6_finished_68 (by decide) ?_
  refine r_irem S5 dX6_finished_69 (by decide) ?_
  refine lv_istore (lv' := [(5, .int (im (p1 + q1) 4)), (0, .ref (ad 0)), (1, .int p1), (2, .int p2), (4, .int q1)]) hx hb dX6_finished_70 hl (by decide) rfl (fun ls hl => ?_)
  refine lv_iload hx hb dX6_finished_72 (lv_at hl 0 rfl) ?_
  refine lv_iconst (v := 2) hx hb dX6_finished_74 (by decide) ?_
  refine r_irem S5 dX6_finished_75 (by decide) ?_
  refine lv_if_ne (tgt := 83) hx hb dX6_finished_76 (by decide) (fun c2 => ?_) (fun c2 => ?_)
  · rw [if_neg c2] at h
    refine lv_iconst (v := 0) hx hb dX6_finished_83 (by decide) ?_
    refine lv_aload_n hx hb dX6_finished_84 rfl (lv_at hl 1 rfl) ?_
    refine gX6_table S5 hin hK hP (List.mem_of_getElem? (i := 2) rfl) dX6_finished_85 ?_
    refine r_ldc (v := 65536) S5 (List.mem_of_getElem? (i := 3) rfl) dX6_finished_88 ?_
    refine lv_iload hx hb dX6_finished_90 (lv_at hl 0 rfl) ?_
    refine lv_imul hx hb dX6_finished_92 ?_
    refine lv_iload_n hx hb dX6_finished_93 rfl (lv_at hl 3 rfl) ?_
    refine lv_iadd hx hb dX6_finished_94 ?_
    obtain ⟨g3, h⟩ := gd_some h
    refine alM7 S5 hK hP (v := M 7 (((65536 * (im (p1 + q1) 4)) + p2).toNatClampNeg)) g3 rfl dX6_finished_95 ?_
    refine lv_iadd hx hb dX6_finished_96 ?_
    obtain rfl := Option.some.inj h
    exact kr _ _ _ rfl rfl dX6_finished_97
  · rw [if_pos c2] at h
    refine lv_iconst (v := 1) hx hb dX6_finished_79 (by decide) ?_
    refine lv_goto (tgt := 84) hx hb dX6_finished_80 (by decide) ?_
    refine lv_aload_n hx hb dX6_finished_84 rfl (lv_at hl 1 rfl) ?_
    refine gX6_table S5 hin hK hP (List.mem_of_getElem? (i := 2) rfl) dX6_finished_85 ?_
    refine r_ldc (v := 65536) S5 (List.mem_of_getElem? (i := 3) rfl) dX6_finished_88 ?_
    refine lv_iload hx hb dX6_finished_90 (lv_at hl 0 rfl) ?_
    refine lv_imul hx hb dX6_finished_92 ?_
    refine lv_iload_n hx hb dX6_finished_93 rfl (lv_at hl 3 rfl) ?_
    refine lv_iadd hx hb dX6_finished_94 ?_
    obtain ⟨g4, h⟩ := gd_some h
    refine alM7 S5 hK hP (v := M 7 (((65536 * (im (p1 + q1) 4)) + p2).toNatClampNeg)) g4 rfl dX6_finished_95 ?_
    refine lv_iadd hx hb dX6_finished_96 ?_
    obtain rfl := Option.some.inj h
    exact kr _ _ _ rfl rfl dX6_finished_97

-- X6_fourth
def fX6_fourth_L27 : Nat → Int32 → Int32 → Int32 → Int32 → Int32 → Mem → Option (Int32 × Mem)
  | 0, _, _, _, _, _, _ => none
  | n + 1, v1, v2, v3, v4, v5, M => (if 4 ≤ v5 then some (v4, M) else (obind (fX6_can v2 v3 v5 3 M) (fun q5 => (if q5 = 0 then fX6_fourth_L27 n v1 v2 v3 v4 (v5 + 1) M else (if vin ((4 * v3) + v5) 16 = true then (obind (fX6_finished v1 (v2 &&& ((sl 1 ((4 * v3) + v5)) ^^^ ((-1)))) ((mset M 8 3 (M 6 (((4 * v3) + v5).toNatClampNeg))))) (fun q8 => fX6_fourth_L27 n v1 v2 v3 (fX6_better v3 q8 v4) (v5 + 1) ((mset M 8 3 (M 6 (((4 * v3) + v5).toNatClampNeg)))))) else none)))))
def fX6_fourth (p1 : Int32) (p2 : Int32) (M : Mem) : Option (Int32 × Mem) := (if (M 0 15) ≤ 3 then (obind (fX6_fourth_L27 40 p1 p2 (im (p1 + 3) 4) ((-1)) 0 M) (fun q2 => some (q2.1, q2.2))) else (obind (fX6_finished p1 p2 M) (fun q3 => some (q3, M))))
def rmX6_fourth : Room := { frames := 2, cells := 0, slots := 0, locals := 47 }
set_option maxHeartbeats 4000000 in
set_option maxRecDepth 100000 in
theorem kX6_fourth (l : Launch) (D : va_G) (cA : Nat) (ad : Nat → Nat) (p1 : Int32) (p2 : Int32) (M : Mem) (r : Int32 × Mem) (h : fX6_fourth p1 p2 M = some r) : WiM l yX6_fourth wsX6_fourth rmX6_fourth D cA ad M [.ref (ad 0), .int p1, .int p2] r := by
  unfold fX6_fourth at h
  refine WiM.of RX6 rfl rfl rfl (Nat.le_of_ble_eq_true rfl) ?_
  intro p e s m args below meth c Q ls A eA S5 hK hP hD hS hl kr
  have hA : ∀ (H : Heap) (q : Nat), s.heap.size ≤ H.size → AX ad H.size q → A q := fun H q hz h => by rw [eA]; exact AX.mono hz h
  obtain ⟨hx, hb, -, -, hts⟩ := id S5
  have hin : ∀ w ∈ wsX60, w ∈ wsX6_fourth := fun _ h => List.mem_cons_of_mem _ (List.mem_append_right _ (h))
  have L27 : ∀ (n : Nat) (v1 : Int32) (v2 : Int32) (v3 : Int32) (v4 : Int32) (v5 : Int32) (M : Mem) (r' : Int32 × Mem) (H : Heap) (locs : List Loc) (ls : Array Slot), fX6_fourth_L27 n v1 v2 v3 v4 v5 M = some r' → va_P D vwCl (wM cA ad M) H → va_S A s.heap H locs → lv_has ls 6 [(0, .ref (ad 0)), (1, .int v1), (2, .int v2), (3, .int v3), (4, .int v4), (5, .int v5)] → (∀ (H : Heap) (locs : List Loc), va_P D vwCl (wM cA ad (r'.2)) H → va_S A s.heap H locs → ∀ (ls : Array Slot), lv_has ls 6 [(0, .ref (ad 0)), (1, .int v1), (2, .int v2), (3, .int v3), (4, .int (r'.1))] → W p l e rmX6_fourth s m args below meth c H locs 0 0 Q (F0 m 93 ls [])) → W p l e rmX6_fourth s m args below meth c H locs 0 0 Q (F0 m 27 ls []) := by
    intro n
    induction n with
    | zero => intro v1 v2 v3 v4 v5 M r' H locs ls h hP hS hl kk; rw [fX6_fourth_L27.eq_1] at h; cases h
    | succ n ih =>
      intro v1 v2 v3 v4 v5 M r' H locs ls h hP hS hl kk
      rw [fX6_fourth_L27.eq_2] at h
      refine lv_iload hx hb dX6_fourth_27 (lv_at hl 5 rfl) ?_
      refine lv_iconst (v := 4) hx hb dX6_fourth_29 (by decide) ?_
      refine lv_icmp_ge (tgt := 93) hx hb dX6_fourth_30 (by decide) (fun c4 => ?_) (fun c4 => ?_)
      · rw [if_pos c4] at h
        obtain rfl := Option.some.inj h
        exact kk _ _ hP hS _ (lv_sub hl [0, 1, 2, 3, 4] rfl)
      · rw [if_neg c4] at h
        refine lv_aload_n hx hb dX6_fourth_33 rfl (lv_at hl 0 rfl) ?_
        refine lv_iload_n hx hb dX6_fourth_34 rfl (lv_at hl 2 rfl) ?_
        refine lv_iload_n hx hb dX6_fourth_35 rfl (lv_at hl 3 rfl) ?_
        refine lv_iload hx hb dX6_fourth_36 (lv_at hl 5 rfl) ?_
        refine lv_iconst (v := 3) hx hb dX6_fourth_38 (by decide) ?_
        obtain ⟨q5, hqq5, h⟩ := obind_some h
        refine cVM S5 hK hP 0 rfl rfl (As := [.int v2, .int v3, .int v5, .int 3]) (kX6_can l D cA ad _ _ _ _ _ _ hqq5) (cwV 4 hts gX6_fourth_X6_can rfl rfl rfl (by decide +kernel) ⟨(Nat.le_of_ble_eq_true rfl), (Nat.le_of_ble_eq_true rfl)⟩) rfl hl.1 (st0 := _) (rest := []) rfl (Nat.le_of_ble_eq_true rfl) dX6_fourth_39 ⟨Nat.zero_le _, Nat.zero_le _⟩ ?_
        refine lv_if_eq (tgt := 87) hx hb dX6_fourth_42 (by decide) (fun c6 => ?_) (fun c6 => ?_)
        · rw [if_pos c6] at h
          refine lv_iinc (v := v5 + 1) (lv' := [(5, .int (v5 + 1)), (0, .ref (ad 0)), (1, .int v1), (2, .int v2), (3, .int v3), (4, .int v4)]) hx hb dX6_fourth_87 hl (k := 5) rfl rfl (by decide) rfl (fun ls hl => ?_)
          refine lv_goto (tgt := 27) hx hb dX6_fourth_90 (by decide) ?_
          exact ih _ _ _ _ _ _ _ _ _ _ h hP hS (lv_sub hl [1, 2, 3, 4, 5, 0] rfl) kk
        · rw [if_neg c6] at h
          refine lv_aload_n hx hb dX6_fourth_45 rfl (lv_at hl 0 rfl) ?_
          refine gX6_thought S5 hin hK hP (List.mem_of_getElem? (i := 2) rfl) dX6_fourth_46 ?_
          refine lv_iconst (v := 3) hx hb dX6_fourth_49 (by decide) ?_
          refine lv_aload_n hx hb dX6_fourth_50 rfl (lv_at hl 0 rfl) ?_
          refine gX6_list S5 hin hK hP (List.mem_of_getElem? (i := 3) rfl) dX6_fourth_51 ?_
          refine lv_iconst (v := 4) hx hb dX6_fourth_54 (by decide) ?_
          refine lv_iload_n hx hb dX6_fourth_55 rfl (lv_at hl 3 rfl) ?_
          refine lv_imul hx hb dX6_fourth_56 ?_
          refine lv_iload hx hb dX6_fourth_57 (lv_at hl 5 rfl) ?_
          refine lv_iadd hx hb dX6_fourth_59 ?_
          obtain ⟨g7, h⟩ := gd_some h
          refine alM6 S5 hK hP (v := M 6 (((4 * v3) + v5).toNatClampNeg)) g7 rfl dX6_fourth_60 ?_
          refine asM8 S5 hK hP hD hS (by decide) (k := 3) rfl dX6_fourth_61 (fun H locs hP hS => ?_)
          refine lv_iload_n hx hb dX6_fourth_62 rfl (lv_at hl 3 rfl) ?_
          refine lv_aload_n hx hb dX6_fourth_63 rfl (lv_at hl 0 rfl) ?_
          refine lv_iload_n hx hb dX6_fourth_64 rfl (lv_at hl 1 rfl) ?_
          refine lv_iload_n hx hb dX6_fourth_65 rfl (lv_at hl 2 rfl) ?_
          refine lv_iconst (v := 1) hx hb dX6_fourth_66 (by decide) ?_
          refine lv_iconst (v := 4) hx hb dX6_fourth_67 (by decide) ?_
          refine lv_iload_n hx hb dX6_fourth_68 rfl (lv_at hl 3 rfl) ?_
          refine lv_imul hx hb dX6_fourth_69 ?_
          refine lv_iload hx hb dX6_fourth_70 (lv_at hl 5 rfl) ?_
          refine lv_iadd hx hb dX6_fourth_72 ?_
          refine r_ishl S5 dX6_fourth_73 ?_
          refine lv_iconst (v := (-1)) hx hb dX6_fourth_74 (by decide) ?_
          refine lv_ixor hx hb dX6_fourth_75 ?_
          refine lv_iand hx hb dX6_fourth_76 ?_
          obtain ⟨q8, hqq8, h⟩ := obind_some h
          refine cVM S5 hK hP 0 rfl rfl (As := [.int v1, .int (v2 &&& ((sl 1 ((4 * v3) + v5)) ^^^ ((-1))))]) (kX6_finished l D cA ad _ _ _ _ hqq8) (cwV 2 hts gX6_fourth_X6_finished rfl rfl rfl (by decide +kernel) ⟨(Nat.le_of_ble_eq_true rfl), (Nat.le_of_ble_eq_true rfl)⟩) rfl hl.1 (st0 := _) (rest := [.int v3]) rfl (Nat.le_of_ble_eq_true rfl) dX6_fourth_77 ⟨Nat.zero_le _, Nat.zero_le _⟩ ?_
          refine lv_iload hx hb dX6_fourth_80 (lv_at hl 4 rfl) ?_
          refine cS S5 (As := [.int v3, .int q8, .int v4]) (kX6_better l _ _ _) (va_cwS 3 hts gX6_fourth_X6_better rfl rfl rfl (by decide +kernel) ⟨(Nat.le_of_ble_eq_true rfl), (Nat.le_of_ble_eq_true rfl)⟩) rfl hl.1 (st0 := _) (rest := []) rfl (Nat.le_of_ble_eq_true rfl) dX6_fourth_82 ⟨Nat.zero_le _, Nat.zero_le _⟩ ?_
          refine lv_istore (lv' := [(4, .int (fX6_better v3 q8 v4)), (0, .ref (ad 0)), (1, .int v1), (2, .int v2), (3, .int v3), (5, .int v5)]) hx hb dX6_fourth_85 hl (by decide) rfl (fun ls hl => ?_)
          refine lv_iinc (v := v5 + 1) (lv' := [(5, .int (v5 + 1)), (4, .int (fX6_better v3 q8 v4)), (0, .ref (ad 0)), (1, .int v1), (2, .int v2), (3, .int v3)]) hx hb dX6_fourth_87 hl (k := 5) rfl rfl (by decide) rfl (fun ls hl => ?_)
          refine lv_goto (tgt := 27) hx hb dX6_fourth_90 (by decide) ?_
          exact ih _ _ _ _ _ _ _ _ _ _ h hP hS (lv_sub hl [2, 3, 4, 5, 1, 0] rfl) kk
  refine lv_aload_n hx hb dX6_fourth_0 rfl (lv_at hl 0 rfl) ?_
  refine gX6_fixedMany S5 hin hK hP (List.mem_of_getElem? (i := 1) rfl) (v := M 0 15) rfl dX6_fourth_1 ?_
  refine lv_iconst (v := 3) hx hb dX6_fourth_4 (by decide) ?_
  refine lv_icmp_le (tgt := 15) hx hb dX6_fourth_5 (by decide) (fun c1 => ?_) (fun c1 => ?_)
  · rw [if_pos c1] at h
    refine lv_iload_n hx hb dX6_fourth_15 rfl (lv_at hl 1 rfl) ?_
    refine lv_iconst (v := 3) hx hb dX6_fourth_16 (by decide) ?_
    refine lv_iadd hx hb dX6_fourth_17 ?_
    refine lv_iconst (v := 4) hx hb dX6_fourth_18 (by decide) ?_
    refine r_irem S5 dX6_fourth_19 (by decide) ?_
    refine lv_istore_n (lv' := [(3, .int (im (p1 + 3) 4)), (0, .ref (ad 0)), (1, .int p1), (2, .int p2)]) hx hb dX6_fourth_20 rfl hl (by decide) rfl (fun ls hl => ?_)
    refine lv_iconst (v := (-1)) hx hb dX6_fourth_21 (by decide) ?_
    refine lv_istore (lv' := [(4, .int ((-1))), (3, .int (im (p1 + 3) 4)), (0, .ref (ad 0)), (1, .int p1), (2, .int p2)]) hx hb dX6_fourth_22 hl (by decide) rfl (fun ls hl => ?_)
    refine lv_iconst (v := 0) hx hb dX6_fourth_24 (by decide) ?_
    refine lv_istore (lv' := [(5, .int 0), (4, .int ((-1))), (3, .int (im (p1 + 3) 4)), (0, .ref (ad 0)), (1, .int p1), (2, .int p2)]) hx hb dX6_fourth_25 hl (by decide) rfl (fun ls hl => ?_)
    obtain ⟨q2, hqq2, h⟩ := obind_some h
    refine L27 _ _ _ _ _ _ _ _ _ _ _ hqq2 hP hS (lv_sub hl [3, 4, 5, 2, 1, 0] rfl) (fun H locs hP hS ls hl => ?_)
    have hl := lv_sub (l' := [(4, .int q2.1)]) hl [4] rfl
    refine lv_iload hx hb dX6_fourth_93 (lv_at hl 0 rfl) ?_
    obtain rfl := Option.some.inj h
    exact kr _ _ _ _ _ rfl rfl hP hS dX6_fourth_95
  · rw [if_neg c1] at h
    refine lv_aload_n hx hb dX6_fourth_8 rfl (lv_at hl 0 rfl) ?_
    refine lv_iload_n hx hb dX6_fourth_9 rfl (lv_at hl 1 rfl) ?_
    refine lv_iload_n hx hb dX6_fourth_10 rfl (lv_at hl 2 rfl) ?_
    obtain ⟨q3, hqq3, h⟩ := obind_some h
    refine cVM S5 hK hP 0 rfl rfl (As := [.int p1, .int p2]) (kX6_finished l D cA ad _ _ _ _ hqq3) (cwV 2 hts gX6_fourth_X6_finished rfl rfl rfl (by decide +kernel) ⟨(Nat.le_of_ble_eq_true rfl), (Nat.le_of_ble_eq_true rfl)⟩) rfl hl.1 (st0 := _) (rest := []) rfl (Nat.le_of_ble_eq_true rfl) dX6_fourth_11 ⟨Nat.zero_le _, Nat.zero_le _⟩ ?_
    obtain rfl := Option.some.inj h
    exact kr _ _ _ _ _ rfl rfl hP hS dX6_fourth_14

-- X6_third
def fX6_third_L27 : Nat → Int32 → Int32 → Int32 → Int32 → Int32 → Mem → Option (Int32 × Mem)
  | 0, _, _, _, _, _, _ => none
  | n + 1, v1, v2, v3, v4, v5, M => (if 4 ≤ v5 then some (v4, M) else (obind (fX6_can v2 v3 v5 2 M) (fun q5 => (if q5 = 0 then fX6_third_L27 n v1 v2 v3 v4 (v5 + 1) M else (if vin ((4 * v3) + v5) 16 = true then (obind (fX6_fourth v1 (v2 &&& ((sl 1 ((4 * v3) + v5)) ^^^ ((-1)))) ((mset M 8 2 (M 6 (((4 * v3) + v5).toNatClampNeg))))) (fun q8 => fX6_third_L27 n v1 v2 v3 (fX6_better v3 q8.1 v4) (v5 + 1) q8.2)) else none)))))
def fX6_third (p1 : Int32) (p2 : Int32) (M : Mem) : Option (Int32 × Mem) := (if (M 0 15) ≤ 2 then (obind (fX6_third_L27 40 p1 p2 (im (p1 + 2) 4) ((-1)) 0 M) (fun q2 => some (q2.1, q2.2))) else (obind (fX6_fourth p1 p2 M) (fun q3 => some (q3.1, q3.2))))
def rmX6_third : Room := { frames := 3, cells := 0, slots := 0, locals := 72 }
set_option maxHeartbeats 4000000 in
set_option maxRecDepth 100000 in
theorem kX6_third (l : Launch) (D : va_G) (cA : Nat) (ad : Nat → Nat) (p1 : Int32) (p2 : Int32) (M : Mem) (r : Int32 × Mem) (h : fX6_third p1 p2 M = some r) : WiM l yX6_third wsX6_third rmX6_third D cA ad M [.ref (ad 0), .int p1, .int p2] r := by
  unfold fX6_third at h
  refine WiM.of RX6 rfl rfl rfl (Nat.le_of_ble_eq_true rfl) ?_
  intro p e s m args below meth c Q ls A eA S5 hK hP hD hS hl kr
  have hA : ∀ (H : Heap) (q : Nat), s.heap.size ≤ H.size → AX ad H.size q → A q := fun H q hz h => by rw [eA]; exact AX.mono hz h
  obtain ⟨hx, hb, -, -, hts⟩ := id S5
  have hin : ∀ w ∈ wsX60, w ∈ wsX6_third := fun _ h => List.mem_cons_of_mem _ (List.mem_append_right _ (h))
  have L27 : ∀ (n : Nat) (v1 : Int32) (v2 : Int32) (v3 : Int32) (v4 : Int32) (v5 : Int32) (M : Mem) (r' : Int32 × Mem) (H : Heap) (locs : List Loc) (ls : Array Slot), fX6_third_L27 n v1 v2 v3 v4 v5 M = some r' → va_P D vwCl (wM cA ad M) H → va_S A s.heap H locs → lv_has ls 6 [(0, .ref (ad 0)), (1, .int v1), (2, .int v2), (3, .int v3), (4, .int v4), (5, .int v5)] → (∀ (H : Heap) (locs : List Loc), va_P D vwCl (wM cA ad (r'.2)) H → va_S A s.heap H locs → ∀ (ls : Array Slot), lv_has ls 6 [(0, .ref (ad 0)), (1, .int v1), (2, .int v2), (3, .int v3), (4, .int (r'.1))] → W p l e rmX6_third s m args below meth c H locs 0 0 Q (F0 m 93 ls [])) → W p l e rmX6_third s m args below meth c H locs 0 0 Q (F0 m 27 ls []) := by
    intro n
    induction n with
    | zero => intro v1 v2 v3 v4 v5 M r' H locs ls h hP hS hl kk; rw [fX6_third_L27.eq_1] at h; cases h
    | succ n ih =>
      intro v1 v2 v3 v4 v5 M r' H locs ls h hP hS hl kk
      rw [fX6_third_L27.eq_2] at h
      refine lv_iload hx hb dX6_third_27 (lv_at hl 5 rfl) ?_
      refine lv_iconst (v := 4) hx hb dX6_third_29 (by decide) ?_
      refine lv_icmp_ge (tgt := 93) hx hb dX6_third_30 (by decide) (fun c4 => ?_) (fun c4 => ?_)
      · rw [if_pos c4] at h
        obtain rfl := Option.some.inj h
        exact kk _ _ hP hS _ (lv_sub hl [0, 1, 2, 3, 4] rfl)
      · rw [if_neg c4] at h
        refine lv_aload_n hx hb dX6_third_33 rfl (lv_at hl 0 rfl) ?_
        refine lv_iload_n hx hb dX6_third_34 rfl (lv_at hl 2 rfl) ?_
        refine lv_iload_n hx hb dX6_third_35 rfl (lv_at hl 3 rfl) ?_
        refine lv_iload hx hb dX6_third_36 (lv_at hl 5 rfl) ?_
        refine lv_iconst (v := 2) hx hb dX6_third_38 (by decide) ?_
        obtain ⟨q5, hqq5, h⟩ := obind_some h
        refine cVM S5 hK hP 0 rfl rfl (As := [.int v2, .int v3, .int v5, .int 2]) (kX6_can l D cA ad _ _ _ _ _ _ hqq5) (cwV 4 hts gX6_third_X6_can rfl rfl rfl (by decide +kernel) ⟨(Nat.le_of_ble_eq_true rfl), (Nat.le_of_ble_eq_true rfl)⟩) rfl hl.1 (st0 := _) (rest := []) rfl (Nat.le_of_ble_eq_true rfl) dX6_third_39 ⟨Nat.zero_le _, Nat.zero_le _⟩ ?_
        refine lv_if_eq (tgt := 87) hx hb dX6_third_42 (by decide) (fun c6 => ?_) (fun c6 => ?_)
        · rw [if_pos c6] at h
          refine lv_iinc (v := v5 + 1) (lv' := [(5, .int (v5 + 1)), (0, .ref (ad 0)), (1, .int v1), (2, .int v2), (3, .int v3), (4, .int v4)]) hx hb dX6_third_87 hl (k := 5) rfl rfl (by decide) rfl (fun ls hl => ?_)
          refine lv_goto (tgt := 27) hx hb dX6_third_90 (by decide) ?_
          exact ih _ _ _ _ _ _ _ _ _ _ h hP hS (lv_sub hl [1, 2, 3, 4, 5, 0] rfl) kk
        · rw [if_neg c6] at h
          refine lv_aload_n hx hb dX6_third_45 rfl (lv_at hl 0 rfl) ?_
          refine gX6_thought S5 hin hK hP (List.mem_of_getElem? (i := 2) rfl) dX6_third_46 ?_
          refine lv_iconst (v := 2) hx hb dX6_third_49 (by decide) ?_
          refine lv_aload_n hx hb dX6_third_50 rfl (lv_at hl 0 rfl) ?_
          refine gX6_list S5 hin hK hP (List.mem_of_getElem? (i := 3) rfl) dX6_third_51 ?_
          refine lv_iconst (v := 4) hx hb dX6_third_54 (by decide) ?_
          refine lv_iload_n hx hb dX6_third_55 rfl (lv_at hl 3 rfl) ?_
          refine lv_imul hx hb dX6_third_56 ?_
          refine lv_iload hx hb dX6_third_57 (lv_at hl 5 rfl) ?_
          refine lv_iadd hx hb dX6_third_59 ?_
          obtain ⟨g7, h⟩ := gd_some h
          refine alM6 S5 hK hP (v := M 6 (((4 * v3) + v5).toNatClampNeg)) g7 rfl dX6_third_60 ?_
          refine asM8 S5 hK hP hD hS (by decide) (k := 2) rfl dX6_third_61 (fun H locs hP hS => ?_)
          refine lv_iload_n hx hb dX6_third_62 rfl (lv_at hl 3 rfl) ?_
          refine lv_aload_n hx hb dX6_third_63 rfl (lv_at hl 0 rfl) ?_
          refine lv_iload_n hx hb dX6_third_64 rfl (lv_at hl 1 rfl) ?_
          refine lv_iload_n hx hb dX6_third_65 rfl (lv_at hl 2 rfl) ?_
          refine lv_iconst (v := 1) hx hb dX6_third_66 (by decide) ?_
          refine lv_iconst (v := 4) hx hb dX6_third_67 (by decide) ?_
          refine lv_iload_n hx hb dX6_third_68 rfl (lv_at hl 3 rfl) ?_
          refine lv_imul hx hb dX6_third_69 ?_
          refine lv_iload hx hb dX6_third_70 (lv_at hl 5 rfl) ?_
          refine lv_iadd hx hb dX6_third_72 ?_
          refine r_ishl S5 dX6_third_73 ?_
          refine lv_iconst (v := (-1)) hx hb dX6_third_74 (by decide) ?_
          refine lv_ixor hx hb dX6_third_75 ?_
          refine lv_iand hx hb dX6_third_76 ?_
          obtain ⟨q8, hqq8, h⟩ := obind_some h
          refine cWiM S5 hK hP hD hS (fun _ h => hA _ _ hS.1 h) 0 rfl rfl (As := [.int v1, .int (v2 &&& ((sl 1 ((4 * v3) + v5)) ^^^ ((-1))))]) (kX6_fourth l D cA ad _ _ _ _ hqq8) (cwV 2 hts gX6_third_X6_fourth rfl rfl rfl (by decide +kernel) ⟨(Nat.le_of_ble_eq_true rfl), (Nat.le_of_ble_eq_true rfl)⟩) rfl hl.1 (st0 := _) (rest := [.int v3]) rfl (Nat.le_of_ble_eq_true rfl) dX6_third_77 ⟨Nat.zero_le _, Nat.zero_le _⟩ (fun H locs hz hP hS => ?_)
          refine lv_iload hx hb dX6_third_80 (lv_at hl 4 rfl) ?_
          refine cS S5 (As := [.int v3, .int q8.1, .int v4]) (kX6_better l _ _ _) (va_cwS 3 hts gX6_third_X6_better rfl rfl rfl (by decide +kernel) ⟨(Nat.le_of_ble_eq_true rfl), (Nat.le_of_ble_eq_true rfl)⟩) rfl hl.1 (st0 := _) (rest := []) rfl (Nat.le_of_ble_eq_true rfl) dX6_third_82 ⟨Nat.zero_le _, Nat.zero_le _⟩ ?_
          refine lv_istore (lv' := [(4, .int (fX6_better v3 q8.1 v4)), (0, .ref (ad 0)), (1, .int v1), (2, .int v2), (3, .int v3), (5, .int v5)]) hx hb dX6_third_85 hl (by decide) rfl (fun ls hl => ?_)
          refine lv_iinc (v := v5 + 1) (lv' := [(5, .int (v5 + 1)), (4, .int (fX6_better v3 q8.1 v4)), (0, .ref (ad 0)), (1, .int v1), (2, .int v2), (3, .int v3)]) hx hb dX6_third_87 hl (k := 5) rfl rfl (by decide) rfl (fun ls hl => ?_)
          refine lv_goto (tgt := 27) hx hb dX6_third_90 (by decide) ?_
          exact ih _ _ _ _ _ _ _ _ _ _ h hP hS (lv_sub hl [2, 3, 4, 5, 1, 0] rfl) kk
  refine lv_aload_n hx hb dX6_third_0 rfl (lv_at hl 0 rfl) ?_
  refine gX6_fixedMany S5 hin hK hP (List.mem_of_getElem? (i := 1) rfl) (v := M 0 15) rfl dX6_third_1 ?_
  refine lv_iconst (v := 2) hx hb dX6_third_4 (by decide) ?_
  refine lv_icmp_le (tgt := 15) hx hb dX6_third_5 (by decide) (fun c1 => ?_) (fun c1 => ?_)
  · rw [if_pos c1] at h
    refine lv_iload_n hx hb dX6_third_15 rfl (lv_at hl 1 rfl) ?_
    refine lv_iconst (v := 2) hx hb dX6_third_16 (by decide) ?_
    refine lv_iadd hx hb dX6_third_17 ?_
    refine lv_iconst (v := 4) hx hb dX6_third_18 (by decide) ?_
    refine r_irem S5 dX6_third_19 (by decide) ?_
    refine lv_istore_n (lv' := [(3, .int (im (p1 + 2) 4)), (0, .ref (ad 0)), (1, .int p1), (2, .int p2)]) hx hb dX6_third_20 rfl hl (by decide) rfl (fun ls hl => ?_)
    refine lv_iconst (v := (-1)) hx hb dX6_third_21 (by decide) ?_
    refine lv_istore (lv' := [(4, .int ((-1))), (3, .int (im (p1 + 2) 4)), (0, .ref (ad 0)), (1, .int p1), (2, .int p2)]) hx hb dX6_third_22 hl (by decide) rfl (fun ls hl => ?_)
    refine lv_iconst (v := 0) hx hb dX6_third_24 (by decide) ?_
    refine lv_istore (lv' := [(5, .int 0), (4, .int ((-1))), (3, .int (im (p1 + 2) 4)), (0, .ref (ad 0)), (1, .int p1), (2, .int p2)]) hx hb dX6_third_25 hl (by decide) rfl (fun ls hl => ?_)
    obtain ⟨q2, hqq2, h⟩ := obind_some h
    refine L27 _ _ _ _ _ _ _ _ _ _ _ hqq2 hP hS (lv_sub hl [3, 4, 5, 2, 1, 0] rfl) (fun H locs hP hS ls hl => ?_)
    have hl := lv_sub (l' := [(4, .int q2.1)]) hl [4] rfl
    refine lv_iload hx hb dX6_third_93 (lv_at hl 0 rfl) ?_
    obtain rfl := Option.some.inj h
    exact kr _ _ _ _ _ rfl rfl hP hS dX6_third_95
  · rw [if_neg c1] at h
    refine lv_aload_n hx hb dX6_third_8 rfl (lv_at hl 0 rfl) ?_
    refine lv_iload_n hx hb dX6_third_9 rfl (lv_at hl 1 rfl) ?_
    refine lv_iload_n hx hb dX6_third_10 rfl (lv_at hl 2 rfl) ?_
    obtain ⟨q3, hqq3, h⟩ := obind_some h
    refine cWiM S5 hK hP hD hS (fun _ h => hA _ _ hS.1 h) 0 rfl rfl (As := [.int p1, .int p2]) (kX6_fourth l D cA ad _ _ _ _ hqq3) (cwV 2 hts gX6_third_X6_fourth rfl rfl rfl (by decide +kernel) ⟨(Nat.le_of_ble_eq_true rfl), (Nat.le_of_ble_eq_true rfl)⟩) rfl hl.1 (st0 := _) (rest := []) rfl (Nat.le_of_ble_eq_true rfl) dX6_third_11 ⟨Nat.zero_le _, Nat.zero_le _⟩ (fun H locs hz hP hS => ?_)
    obtain rfl := Option.some.inj h
    exact kr _ _ _ _ _ rfl rfl hP hS dX6_third_14

-- X6_second
def fX6_second_L27 : Nat → Int32 → Int32 → Int32 → Int32 → Int32 → Mem → Option (Int32 × Mem)
  | 0, _, _, _, _, _, _ => none
  | n + 1, v1, v2, v3, v4, v5, M => (if 4 ≤ v5 then some (v4, M) else (obind (fX6_can v2 v3 v5 1 M) (fun q5 => (if q5 = 0 then fX6_second_L27 n v1 v2 v3 v4 (v5 + 1) M else (if vin ((4 * v3) + v5) 16 = true then (obind (fX6_third v1 (v2 &&& ((sl 1 ((4 * v3) + v5)) ^^^ ((-1)))) ((mset M 8 1 (M 6 (((4 * v3) + v5).toNatClampNeg))))) (fun q8 => fX6_second_L27 n v1 v2 v3 (fX6_better v3 q8.1 v4) (v5 + 1) q8.2)) else none)))))
def fX6_second (p1 : Int32) (p2 : Int32) (M : Mem) : Option (Int32 × Mem) := (if (M 0 15) ≤ 1 then (obind (fX6_second_L27 40 p1 p2 (im (p1 + 1) 4) ((-1)) 0 M) (fun q2 => some (q2.1, q2.2))) else (obind (fX6_third p1 p2 M) (fun q3 => some (q3.1, q3.2))))
def rmX6_second : Room := { frames := 4, cells := 0, slots := 0, locals := 97 }
set_option maxHeartbeats 4000000 in
set_option maxRecDepth 100000 in
theorem kX6_second (l : Launch) (D : va_G) (cA : Nat) (ad : Nat → Nat) (p1 : Int32) (p2 : Int32) (M : Mem) (r : Int32 × Mem) (h : fX6_second p1 p2 M = some r) : WiM l yX6_second wsX6_second rmX6_second D cA ad M [.ref (ad 0), .int p1, .int p2] r := by
  unfold fX6_second at h
  refine WiM.of RX6 rfl rfl rfl (Nat.le_of_ble_eq_true rfl) ?_
  intro p e s m args below meth c Q ls A eA S5 hK hP hD hS hl kr
  have hA : ∀ (H : Heap) (q : Nat), s.heap.size ≤ H.size → AX ad H.size q → A q := fun H q hz h => by rw [eA]; exact AX.mono hz h
  obtain ⟨hx, hb, -, -, hts⟩ := id S5
  have hin : ∀ w ∈ wsX60, w ∈ wsX6_second := fun _ h => List.mem_cons_of_mem _ (List.mem_append_right _ (h))
  have L27 : ∀ (n : Nat) (v1 : Int32) (v2 : Int32) (v3 : Int32) (v4 : Int32) (v5 : Int32) (M : Mem) (r' : Int32 × Mem) (H : Heap) (locs : List Loc) (ls : Array Slot), fX6_second_L27 n v1 v2 v3 v4 v5 M = some r' → va_P D vwCl (wM cA ad M) H → va_S A s.heap H locs → lv_has ls 6 [(0, .ref (ad 0)), (1, .int v1), (2, .int v2), (3, .int v3), (4, .int v4), (5, .int v5)] → (∀ (H : Heap) (locs : List Loc), va_P D vwCl (wM cA ad (r'.2)) H → va_S A s.heap H locs → ∀ (ls : Array Slot), lv_has ls 6 [(0, .ref (ad 0)), (1, .int v1), (2, .int v2), (3, .int v3), (4, .int (r'.1))] → W p l e rmX6_second s m args below meth c H locs 0 0 Q (F0 m 93 ls [])) → W p l e rmX6_second s m args below meth c H locs 0 0 Q (F0 m 27 ls []) := by
    intro n
    induction n with
    | zero => intro v1 v2 v3 v4 v5 M r' H locs ls h hP hS hl kk; rw [fX6_second_L27.eq_1] at h; cases h
    | succ n ih =>
      intro v1 v2 v3 v4 v5 M r' H locs ls h hP hS hl kk
      rw [fX6_second_L27.eq_2] at h
      refine lv_iload hx hb dX6_second_27 (lv_at hl 5 rfl) ?_
      refine lv_iconst (v := 4) hx hb dX6_second_29 (by decide) ?_
      refine lv_icmp_ge (tgt := 93) hx hb dX6_second_30 (by decide) (fun c4 => ?_) (fun c4 => ?_)
      · rw [if_pos c4] at h
        obtain rfl := Option.some.inj h
        exact kk _ _ hP hS _ (lv_sub hl [0, 1, 2, 3, 4] rfl)
      · rw [if_neg c4] at h
        refine lv_aload_n hx hb dX6_second_33 rfl (lv_at hl 0 rfl) ?_
        refine lv_iload_n hx hb dX6_second_34 rfl (lv_at hl 2 rfl) ?_
        refine lv_iload_n hx hb dX6_second_35 rfl (lv_at hl 3 rfl) ?_
        refine lv_iload hx hb dX6_second_36 (lv_at hl 5 rfl) ?_
        refine lv_iconst (v := 1) hx hb dX6_second_38 (by decide) ?_
        obtain ⟨q5, hqq5, h⟩ := obind_some h
        refine cVM S5 hK hP 0 rfl rfl (As := [.int v2, .int v3, .int v5, .int 1]) (kX6_can l D cA ad _ _ _ _ _ _ hqq5) (cwV 4 hts gX6_second_X6_can rfl rfl rfl (by decide +kernel) ⟨(Nat.le_of_ble_eq_true rfl), (Nat.le_of_ble_eq_true rfl)⟩) rfl hl.1 (st0 := _) (rest := []) rfl (Nat.le_of_ble_eq_true rfl) dX6_second_39 ⟨Nat.zero_le _, Nat.zero_le _⟩ ?_
        refine lv_if_eq (tgt := 87) hx hb dX6_second_42 (by decide) (fun c6 => ?_) (fun c6 => ?_)
        · rw [if_pos c6] at h
          refine lv_iinc (v := v5 + 1) (lv' := [(5, .int (v5 + 1)), (0, .ref (ad 0)), (1, .int v1), (2, .int v2), (3, .int v3), (4, .int v4)]) hx hb dX6_second_87 hl (k := 5) rfl rfl (by decide) rfl (fun ls hl => ?_)
          refine lv_goto (tgt := 27) hx hb dX6_second_90 (by decide) ?_
          exact ih _ _ _ _ _ _ _ _ _ _ h hP hS (lv_sub hl [1, 2, 3, 4, 5, 0] rfl) kk
        · rw [if_neg c6] at h
          refine lv_aload_n hx hb dX6_second_45 rfl (lv_at hl 0 rfl) ?_
          refine gX6_thought S5 hin hK hP (List.mem_of_getElem? (i := 2) rfl) dX6_second_46 ?_
          refine lv_iconst (v := 1) hx hb dX6_second_49 (by decide) ?_
          refine lv_aload_n hx hb dX6_second_50 rfl (lv_at hl 0 rfl) ?_
          refine gX6_list S5 hin hK hP (List.mem_of_getElem? (i := 3) rfl) dX6_second_51 ?_
          refine lv_iconst (v := 4) hx hb dX6_second_54 (by decide) ?_
          refine lv_iload_n hx hb dX6_second_55 rfl (lv_at hl 3 rfl) ?_
          refine lv_imul hx hb dX6_second_56 ?_
          refine lv_iload hx hb dX6_second_57 (lv_at hl 5 rfl) ?_
          refine lv_iadd hx hb dX6_second_59 ?_
          obtain ⟨g7, h⟩ := gd_some h
          refine alM6 S5 hK hP (v := M 6 (((4 * v3) + v5).toNatClampNeg)) g7 rfl dX6_second_60 ?_
          refine asM8 S5 hK hP hD hS (by decide) (k := 1) rfl dX6_second_61 (fun H locs hP hS => ?_)
          refine lv_iload_n hx hb dX6_second_62 rfl (lv_at hl 3 rfl) ?_
          refine lv_aload_n hx hb dX6_second_63 rfl (lv_at hl 0 rfl) ?_
          refine lv_iload_n hx hb dX6_second_64 rfl (lv_at hl 1 rfl) ?_
          refine lv_iload_n hx hb dX6_second_65 rfl (lv_at hl 2 rfl) ?_
          refine lv_iconst (v := 1) hx hb dX6_second_66 (by decide) ?_
          refine lv_iconst (v := 4) hx hb dX6_second_67 (by decide) ?_
          refine lv_iload_n hx hb dX6_second_68 rfl (lv_at hl 3 rfl) ?_
          refine lv_imul hx hb dX6_second_69 ?_
          refine lv_iload hx hb dX6_second_70 (lv_at hl 5 rfl) ?_
          refine lv_iadd hx hb dX6_second_72 ?_
          refine r_ishl S5 dX6_second_73 ?_
          refine lv_iconst (v := (-1)) hx hb dX6_second_74 (by decide) ?_
          refine lv_ixor hx hb dX6_second_75 ?_
          refine lv_iand hx hb dX6_second_76 ?_
          obtain ⟨q8, hqq8, h⟩ := obind_some h
          refine cWiM S5 hK hP hD hS (fun _ h => hA _ _ hS.1 h) 0 rfl rfl (As := [.int v1, .int (v2 &&& ((sl 1 ((4 * v3) + v5)) ^^^ ((-1))))]) (kX6_third l D cA ad _ _ _ _ hqq8) (cwV 2 hts gX6_second_X6_third rfl rfl rfl (by decide +kernel) ⟨(Nat.le_of_ble_eq_true rfl), (Nat.le_of_ble_eq_true rfl)⟩) rfl hl.1 (st0 := _) (rest := [.int v3]) rfl (Nat.le_of_ble_eq_true rfl) dX6_second_77 ⟨Nat.zero_le _, Nat.zero_le _⟩ (fun H locs hz hP hS => ?_)
          refine lv_iload hx hb dX6_second_80 (lv_at hl 4 rfl) ?_
          refine cS S5 (As := [.int v3, .int q8.1, .int v4]) (kX6_better l _ _ _) (va_cwS 3 hts gX6_second_X6_better rfl rfl rfl (by decide +kernel) ⟨(Nat.le_of_ble_eq_true rfl), (Nat.le_of_ble_eq_true rfl)⟩) rfl hl.1 (st0 := _) (rest := []) rfl (Nat.le_of_ble_eq_true rfl) dX6_second_82 ⟨Nat.zero_le _, Nat.zero_le _⟩ ?_
          refine lv_istore (lv' := [(4, .int (fX6_better v3 q8.1 v4)), (0, .ref (ad 0)), (1, .int v1), (2, .int v2), (3, .int v3), (5, .int v5)]) hx hb dX6_second_85 hl (by decide) rfl (fun ls hl => ?_)
          refine lv_iinc (v := v5 + 1) (lv' := [(5, .int (v5 + 1)), (4, .int (fX6_better v3 q8.1 v4)), (0, .ref (ad 0)), (1, .int v1), (2, .int v2), (3, .int v3)]) hx hb dX6_second_87 hl (k := 5) rfl rfl (by decide) rfl (fun ls hl => ?_)
          refine lv_goto (tgt := 27) hx hb dX6_second_90 (by decide) ?_
          exact ih _ _ _ _ _ _ _ _ _ _ h hP hS (lv_sub hl [2, 3, 4, 5, 1, 0] rfl) kk
  refine lv_aload_n hx hb dX6_second_0 rfl (lv_at hl 0 rfl) ?_
  refine gX6_fixedMany S5 hin hK hP (List.mem_of_getElem? (i := 1) rfl) (v := M 0 15) rfl dX6_second_1 ?_
  refine lv_iconst (v := 1) hx hb dX6_second_4 (by decide) ?_
  refine lv_icmp_le (tgt := 15) hx hb dX6_second_5 (by decide) (fun c1 => ?_) (fun c1 => ?_)
  · rw [if_pos c1] at h
    refine lv_iload_n hx hb dX6_second_15 rfl (lv_at hl 1 rfl) ?_
    refine lv_iconst (v := 1) hx hb dX6_second_16 (by decide) ?_
    refine lv_iadd hx hb dX6_second_17 ?_
    refine lv_iconst (v := 4) hx hb dX6_second_18 (by decide) ?_
    refine r_irem S5 dX6_second_19 (by decide) ?_
    refine lv_istore_n (lv' := [(3, .int (im (p1 + 1) 4)), (0, .ref (ad 0)), (1, .int p1), (2, .int p2)]) hx hb dX6_second_20 rfl hl (by decide) rfl (fun ls hl => ?_)
    refine lv_iconst (v := (-1)) hx hb dX6_second_21 (by decide) ?_
    refine lv_istore (lv' := [(4, .int ((-1))), (3, .int (im (p1 + 1) 4)), (0, .ref (ad 0)), (1, .int p1), (2, .int p2)]) hx hb dX6_second_22 hl (by decide) rfl (fun ls hl => ?_)
    refine lv_iconst (v := 0) hx hb dX6_second_24 (by decide) ?_
    refine lv_istore (lv' := [(5, .int 0), (4, .int ((-1))), (3, .int (im (p1 + 1) 4)), (0, .ref (ad 0)), (1, .int p1), (2, .int p2)]) hx hb dX6_second_25 hl (by decide) rfl (fun ls hl => ?_)
    obtain ⟨q2, hqq2, h⟩ := obind_some h
    refine L27 _ _ _ _ _ _ _ _ _ _ _ hqq2 hP hS (lv_sub hl [3, 4, 5, 2, 1, 0] rfl) (fun H locs hP hS ls hl => ?_)
    have hl := lv_sub (l' := [(4, .int q2.1)]) hl [4] rfl
    refine lv_iload hx hb dX6_second_93 (lv_at hl 0 rfl) ?_
    obtain rfl := Option.some.inj h
    exact kr _ _ _ _ _ rfl rfl hP hS dX6_second_95
  · rw [if_neg c1] at h
    refine lv_aload_n hx hb dX6_second_8 rfl (lv_at hl 0 rfl) ?_
    refine lv_iload_n hx hb dX6_second_9 rfl (lv_at hl 1 rfl) ?_
    refine lv_iload_n hx hb dX6_second_10 rfl (lv_at hl 2 rfl) ?_
    obtain ⟨q3, hqq3, h⟩ := obind_some h
    refine cWiM S5 hK hP hD hS (fun _ h => hA _ _ hS.1 h) 0 rfl rfl (As := [.int p1, .int p2]) (kX6_third l D cA ad _ _ _ _ hqq3) (cwV 2 hts gX6_second_X6_third rfl rfl rfl (by decide +kernel) ⟨(Nat.le_of_ble_eq_true rfl), (Nat.le_of_ble_eq_true rfl)⟩) rfl hl.1 (st0 := _) (rest := []) rfl (Nat.le_of_ble_eq_true rfl) dX6_second_11 ⟨Nat.zero_le _, Nat.zero_le _⟩ (fun H locs hz hP hS => ?_)
    obtain rfl := Option.some.inj h
    exact kr _ _ _ _ _ rfl rfl hP hS dX6_second_14

-- X6_first
def fX6_first_L19 : Nat → Int32 → Int32 → Int32 → Int32 → Mem → Option (Int32 × Mem)
  | 0, _, _, _, _, _ => none
  | n + 1, v1, v2, v3, v4, M => (if 4 ≤ v4 then some (v3, M) else (obind (fX6_can v2 v1 v4 0 M) (fun q5 => (if q5 = 0 then fX6_first_L19 n v1 v2 v3 (v4 + 1) M else (if vin ((4 * v1) + v4) 16 = true then (obind (fX6_second v1 (v2 &&& ((sl 1 ((4 * v1) + v4)) ^^^ ((-1)))) ((mset M 8 0 (M 6 (((4 * v1) + v4).toNatClampNeg))))) (fun q8 => fX6_first_L19 n v1 v2 (fX6_better v1 q8.1 v3) (v4 + 1) q8.2)) else none)))))
def fX6_first (p1 : Int32) (p2 : Int32) (M : Mem) : Option (Int32 × Mem) := (if (M 0 15) ≤ 0 then (obind (fX6_first_L19 40 p1 p2 ((-1)) 0 M) (fun q2 => some (q2.1, q2.2))) else (obind (fX6_second p1 p2 M) (fun q3 => some (q3.1, q3.2))))
def rmX6_first : Room := { frames := 5, cells := 0, slots := 0, locals := 122 }
set_option maxHeartbeats 4000000 in
set_option maxRecDepth 100000 in
theorem kX6_first (l : Launch) (D : va_G) (cA : Nat) (ad : Nat → Nat) (p1 : Int32) (p2 : Int32) (M : Mem) (r : Int32 × Mem) (h : fX6_first p1 p2 M = some r) : WiM l yX6_first wsX6_first rmX6_first D cA ad M [.ref (ad 0), .int p1, .int p2] r := by
  unfold fX6_first at h
  refine WiM.of RX6 rfl rfl rfl (Nat.le_of_ble_eq_true rfl) ?_
  intro p e s m args below meth c Q ls A eA S5 hK hP hD hS hl kr
  have hA : ∀ (H : Heap) (q : Nat), s.heap.size ≤ H.size → AX ad H.size q → A q := fun H q hz h => by rw [eA]; exact AX.mono hz h
  obtain ⟨hx, hb, -, -, hts⟩ := id S5
  have hin : ∀ w ∈ wsX60, w ∈ wsX6_first := fun _ h => List.mem_cons_of_mem _ (List.mem_append_right _ (h))
  have L19 : ∀ (n : Nat) (v1 : Int32) (v2 : Int32) (v3 : Int32) (v4 : Int32) (M : Mem) (r' : Int32 × Mem) (H : Heap) (locs : List Loc) (ls : Array Slot), fX6_first_L19 n v1 v2 v3 v4 M = some r' → va_P D vwCl (wM cA ad M) H → va_S A s.heap H locs → lv_has ls 5 [(0, .ref (ad 0)), (1, .int v1), (2, .int v2), (3, .int v3), (4, .int v4)] → (∀ (H : Heap) (locs : List Loc), va_P D vwCl (wM cA ad (r'.2)) H → va_S A s.heap H locs → ∀ (ls : Array Slot), lv_has ls 5 [(0, .ref (ad 0)), (1, .int v1), (2, .int v2), (3, .int (r'.1))] → W p l e rmX6_first s m args below meth c H locs 0 0 Q (F0 m 83 ls [])) → W p l e rmX6_first s m args below meth c H locs 0 0 Q (F0 m 19 ls []) := by
    intro n
    induction n with
    | zero => intro v1 v2 v3 v4 M r' H locs ls h hP hS hl kk; rw [fX6_first_L19.eq_1] at h; cases h
    | succ n ih =>
      intro v1 v2 v3 v4 M r' H locs ls h hP hS hl kk
      rw [fX6_first_L19.eq_2] at h
      refine lv_iload hx hb dX6_first_19 (lv_at hl 4 rfl) ?_
      refine lv_iconst (v := 4) hx hb dX6_first_21 (by decide) ?_
      refine lv_icmp_ge (tgt := 83) hx hb dX6_first_22 (by decide) (fun c4 => ?_) (fun c4 => ?_)
      · rw [if_pos c4] at h
        obtain rfl := Option.some.inj h
        exact kk _ _ hP hS _ (lv_sub hl [0, 1, 2, 3] rfl)
      · rw [if_neg c4] at h
        refine lv_aload_n hx hb dX6_first_25 rfl (lv_at hl 0 rfl) ?_
        refine lv_iload_n hx hb dX6_first_26 rfl (lv_at hl 2 rfl) ?_
        refine lv_iload_n hx hb dX6_first_27 rfl (lv_at hl 1 rfl) ?_
        refine lv_iload hx hb dX6_first_28 (lv_at hl 4 rfl) ?_
        refine lv_iconst (v := 0) hx hb dX6_first_30 (by decide) ?_
        obtain ⟨q5, hqq5, h⟩ := obind_some h
        refine cVM S5 hK hP 0 rfl rfl (As := [.int v2, .int v1, .int v4, .int 0]) (kX6_can l D cA ad _ _ _ _ _ _ hqq5) (cwV 4 hts gX6_first_X6_can rfl rfl rfl (by decide +kernel) ⟨(Nat.le_of_ble_eq_true rfl), (Nat.le_of_ble_eq_true rfl)⟩) rfl hl.1 (st0 := _) (rest := []) rfl (Nat.le_of_ble_eq_true rfl) dX6_first_31 ⟨Nat.zero_le _, Nat.zero_le _⟩ ?_
        refine lv_if_eq (tgt := 77) hx hb dX6_first_34 (by decide) (fun c6 => ?_) (fun c6 => ?_)
        · rw [if_pos c6] at h
          refine lv_iinc (v := v4 + 1) (lv' := [(4, .int (v4 + 1)), (0, .ref (ad 0)), (1, .int v1), (2, .int v2), (3, .int v3)]) hx hb dX6_first_77 hl (k := 4) rfl rfl (by decide) rfl (fun ls hl => ?_)
          refine lv_goto (tgt := 19) hx hb dX6_first_80 (by decide) ?_
          exact ih _ _ _ _ _ _ _ _ _ h hP hS (lv_sub hl [1, 2, 3, 4, 0] rfl) kk
        · rw [if_neg c6] at h
          refine lv_aload_n hx hb dX6_first_37 rfl (lv_at hl 0 rfl) ?_
          refine gX6_thought S5 hin hK hP (List.mem_of_getElem? (i := 2) rfl) dX6_first_38 ?_
          refine lv_iconst (v := 0) hx hb dX6_first_41 (by decide) ?_
          refine lv_aload_n hx hb dX6_first_42 rfl (lv_at hl 0 rfl) ?_
          refine gX6_list S5 hin hK hP (List.mem_of_getElem? (i := 3) rfl) dX6_first_43 ?_
          refine lv_iconst (v := 4) hx hb dX6_first_46 (by decide) ?_
          refine lv_iload_n hx hb dX6_first_47 rfl (lv_at hl 1 rfl) ?_
          refine lv_imul hx hb dX6_first_48 ?_
          refine lv_iload hx hb dX6_first_49 (lv_at hl 4 rfl) ?_
          refine lv_iadd hx hb dX6_first_51 ?_
          obtain ⟨g7, h⟩ := gd_some h
          refine alM6 S5 hK hP (v := M 6 (((4 * v1) + v4).toNatClampNeg)) g7 rfl dX6_first_52 ?_
          refine asM8 S5 hK hP hD hS (by decide) (k := 0) rfl dX6_first_53 (fun H locs hP hS => ?_)
          refine lv_iload_n hx hb dX6_first_54 rfl (lv_at hl 1 rfl) ?_
          refine lv_aload_n hx hb dX6_first_55 rfl (lv_at hl 0 rfl) ?_
          refine lv_iload_n hx hb dX6_first_56 rfl (lv_at hl 1 rfl) ?_
          refine lv_iload_n hx hb dX6_first_57 rfl (lv_at hl 2 rfl) ?_
          refine lv_iconst (v := 1) hx hb dX6_first_58 (by decide) ?_
          refine lv_iconst (v := 4) hx hb dX6_first_59 (by decide) ?_
          refine lv_iload_n hx hb dX6_first_60 rfl (lv_at hl 1 rfl) ?_
          refine lv_imul hx hb dX6_first_61 ?_
          refine lv_iload hx hb dX6_first_62 (lv_at hl 4 rfl) ?_
          refine lv_iadd hx hb dX6_first_64 ?_
          refine r_ishl S5 dX6_first_65 ?_
          refine lv_iconst (v := (-1)) hx hb dX6_first_66 (by decide) ?_
          refine lv_ixor hx hb dX6_first_67 ?_
          refine lv_iand hx hb dX6_first_68 ?_
          obtain ⟨q8, hqq8, h⟩ := obind_some h
          refine cWiM S5 hK hP hD hS (fun _ h => hA _ _ hS.1 h) 0 rfl rfl (As := [.int v1, .int (v2 &&& ((sl 1 ((4 * v1) + v4)) ^^^ ((-1))))]) (kX6_second l D cA ad _ _ _ _ hqq8) (cwV 2 hts gX6_first_X6_second rfl rfl rfl (by decide +kernel) ⟨(Nat.le_of_ble_eq_true rfl), (Nat.le_of_ble_eq_true rfl)⟩) rfl hl.1 (st0 := _) (rest := [.int v1]) rfl (Nat.le_of_ble_eq_true rfl) dX6_first_69 ⟨Nat.zero_le _, Nat.zero_le _⟩ (fun H locs hz hP hS => ?_)
          refine lv_iload_n hx hb dX6_first_72 rfl (lv_at hl 3 rfl) ?_
          refine cS S5 (As := [.int v1, .int q8.1, .int v3]) (kX6_better l _ _ _) (va_cwS 3 hts gX6_first_X6_better rfl rfl rfl (by decide +kernel) ⟨(Nat.le_of_ble_eq_true rfl), (Nat.le_of_ble_eq_true rfl)⟩) rfl hl.1 (st0 := _) (rest := []) rfl (Nat.le_of_ble_eq_true rfl) dX6_first_73 ⟨Nat.zero_le _, Nat.zero_le _⟩ ?_
          refine lv_istore_n (lv' := [(3, .int (fX6_better v1 q8.1 v3)), (0, .ref (ad 0)), (1, .int v1), (2, .int v2), (4, .int v4)]) hx hb dX6_first_76 rfl hl (by decide) rfl (fun ls hl => ?_)
          refine lv_iinc (v := v4 + 1) (lv' := [(4, .int (v4 + 1)), (3, .int (fX6_better v1 q8.1 v3)), (0, .ref (ad 0)), (1, .int v1), (2, .int v2)]) hx hb dX6_first_77 hl (k := 4) rfl rfl (by decide) rfl (fun ls hl => ?_)
          refine lv_goto (tgt := 19) hx hb dX6_first_80 (by decide) ?_
          exact ih _ _ _ _ _ _ _ _ _ h hP hS (lv_sub hl [2, 3, 4, 1, 0] rfl) kk
  refine lv_aload_n hx hb dX6_first_0 rfl (lv_at hl 0 rfl) ?_
  refine gX6_fixedMany S5 hin hK hP (List.mem_of_getElem? (i := 1) rfl) (v := M 0 15) rfl dX6_first_1 ?_
  refine lv_if_le (tgt := 14) hx hb dX6_first_4 (by decide) (fun c1 => ?_) (fun c1 => ?_)
  · rw [if_pos c1] at h
    refine lv_iconst (v := (-1)) hx hb dX6_first_14 (by decide) ?_
    refine lv_istore_n (lv' := [(3, .int ((-1))), (0, .ref (ad 0)), (1, .int p1), (2, .int p2)]) hx hb dX6_first_15 rfl hl (by decide) rfl (fun ls hl => ?_)
    refine lv_iconst (v := 0) hx hb dX6_first_16 (by decide) ?_
    refine lv_istore (lv' := [(4, .int 0), (3, .int ((-1))), (0, .ref (ad 0)), (1, .int p1), (2, .int p2)]) hx hb dX6_first_17 hl (by decide) rfl (fun ls hl => ?_)
    obtain ⟨q2, hqq2, h⟩ := obind_some h
    refine L19 _ _ _ _ _ _ _ _ _ _ hqq2 hP hS (lv_sub hl [2, 3, 4, 1, 0] rfl) (fun H locs hP hS ls hl => ?_)
    have hl := lv_sub (l' := [(3, .int q2.1)]) hl [3] rfl
    refine lv_iload_n hx hb dX6_first_83 rfl (lv_at hl 0 rfl) ?_
    obtain rfl := Option.some.inj h
    exact kr _ _ _ _ _ rfl rfl hP hS dX6_first_84
  · rw [if_neg c1] at h
    refine lv_aload_n hx hb dX6_first_7 rfl (lv_at hl 0 rfl) ?_
    refine lv_iload_n hx hb dX6_first_8 rfl (lv_at hl 1 rfl) ?_
    refine lv_iload_n hx hb dX6_first_9 rfl (lv_at hl 2 rfl) ?_
    obtain ⟨q3, hqq3, h⟩ := obind_some h
    refine cWiM S5 hK hP hD hS (fun _ h => hA _ _ hS.1 h) 0 rfl rfl (As := [.int p1, .int p2]) (kX6_second l D cA ad _ _ _ _ hqq3) (cwV 2 hts gX6_first_X6_second rfl rfl rfl (by decide +kernel) ⟨(Nat.le_of_ble_eq_true rfl), (Nat.le_of_ble_eq_true rfl)⟩) rfl hl.1 (st0 := _) (rest := []) rfl (Nat.le_of_ble_eq_true rfl) dX6_first_10 ⟨Nat.zero_le _, Nat.zero_le _⟩ (fun H locs hz hP hS => ?_)
    obtain rfl := Option.some.inj h
    exact kr _ _ _ _ _ rfl rfl hP hS dX6_first_13

-- X6_layTable
def fX6_layTable_L41 : Nat → Int32 → Int32 → Int32 → Int32 → Int32 → Int32 → Mem → Option (Int32)
  | 0, _, _, _, _, _, _, _ => none
  | n + 1, v1, v2, v3, v4, v5, v6, M => (if 4 ≤ v6 then some (v5) else (if v5 = 0 then some (v5) else (if (fX6_countOf v4 v6) = v3 then fX6_layTable_L41 n v1 v2 v3 v4 1 (v6 + 1) M else fX6_layTable_L41 n v1 v2 v3 v4 0 (v6 + 1) M)))
def fX6_layTable_L79 : Nat → Int32 → Int32 → Int32 → Int32 → Int32 → Int32 → Mem → Option (Mem)
  | 0, _, _, _, _, _, _, _ => none
  | n + 1, v1, v2, v3, v4, v5, v6, M => (if 4 ≤ v6 then some (M) else (if v5 = 0 then some (M) else (if v3 = 0 then (if vin ((65536 * v6) + v4) 262144 = true then fX6_layTable_L79 n v1 v2 v3 v4 v5 (v6 + 1) ((mset M 7 (((65536 * v6) + v4).toNatClampNeg) 0)) else none) else (obind (fX6_first v6 v4 M) (fun q16 => (if vin ((65536 * v6) + v4) 262144 = true then fX6_layTable_L79 n v1 v2 v3 v4 v5 (v6 + 1) ((mset q16.2 7 (((65536 * v6) + v4).toNatClampNeg) q16.1)) else none))))))
def fX6_layTable_L15 : Nat → Int32 → Int32 → Int32 → Int32 → Mem → Option (Mem)
  | 0, _, _, _, _, _ => none
  | n + 1, v1, v2, v3, v4, M => (if 65536 ≤ v4 then some (M) else (if (v4 &&& (v1 ^^^ ((-1)))) = 0 then (obind (fX6_layTable_L41 70000 v1 v2 v3 v4 1 0 M) (fun q8 => (obind (fX6_layTable_L79 70000 v1 v2 v3 v4 q8 0 M) (fun q9 => fX6_layTable_L15 n v1 v2 v3 (v4 + 1) q9)))) else (obind (fX6_layTable_L41 70000 v1 v2 v3 v4 0 0 M) (fun q6 => (obind (fX6_layTable_L79 70000 v1 v2 v3 v4 q6 0 M) (fun q7 => fX6_layTable_L15 n v1 v2 v3 (v4 + 1) q7))))))
def fX6_layTable_L7 : Nat → Int32 → Int32 → Int32 → Mem → Option (Mem)
  | 0, _, _, _, _ => none
  | n + 1, v1, v2, v3, M => (if v2 < v3 then some (M) else (obind (fX6_layTable_L15 70000 v1 v2 v3 0 M) (fun q3 => fX6_layTable_L7 n v1 v2 (v3 + 1) q3)))
def fX6_layTable (p1 : Int32) (p2 : Int32) (M : Mem) : Option (Mem) := (obind (fX6_layTable_L7 70000 p1 p2 0 ((mset M 0 15 0))) (fun q1 => some (q1)))
def rmX6_layTable : Room := { frames := 6, cells := 0, slots := 0, locals := 146 }
set_option maxHeartbeats 4000000 in
set_option maxRecDepth 100000 in
theorem kX6_layTable (l : Launch) (D : va_G) (cA : Nat) (ad : Nat → Nat) (p1 : Int32) (p2 : Int32) (M : Mem) (r : Mem) (h : fX6_layTable p1 p2 M = some r) : WvM l yX6_layTable wsX6_layTable rmX6_layTable D cA ad M [.ref (ad 0), .int p1, .int p2] r := by
  unfold fX6_layTable at h
  refine WvM.of RX6 rfl rfl rfl (Nat.le_of_ble_eq_true rfl) ?_
  intro p e s m args below meth c Q ls A eA S5 hK hP hD hS hl kr
  have hA : ∀ (H : Heap) (q : Nat), s.heap.size ≤ H.size → AX ad H.size q → A q := fun H q hz h => by rw [eA]; exact AX.mono hz h
  obtain ⟨hx, hb, -, -, hts⟩ := id S5
  have hin : ∀ w ∈ wsX60, w ∈ wsX6_layTable := fun _ h => List.mem_cons_of_mem _ (List.mem_append_right _ (h))
  have L41 : ∀ (n : Nat) (v1 : Int32) (v2 : Int32) (v3 : Int32) (v4 : Int32) (v5 : Int32) (v6 : Int32) (M : Mem) (r' : Int32) (H : Heap) (locs : List Loc) (ls : Array Slot), fX6_layTable_L41 n v1 v2 v3 v4 v5 v6 M = some r' → va_P D vwCl (wM cA ad M) H → va_S A s.heap H locs → lv_has ls 7 [(0, .ref (ad 0)), (1, .int v1), (2, .int v2), (3, .int v3), (4, .int v4), (5, .int v5), (6, .int v6)] → (∀ (H : Heap) (locs : List Loc), va_P D vwCl (wM cA ad M) H → va_S A s.heap H locs → ∀ (ls : Array Slot), lv_has ls 7 [(0, .ref (ad 0)), (1, .int v1), (2, .int v2), (3, .int v3), (4, .int v4), (5, .int (r'))] → W p l e rmX6_layTable s m args below meth c H locs 0 0 Q (F0 m 76 ls [])) → W p l e rmX6_layTable s m args below meth c H locs 0 0 Q (F0 m 41 ls []) := by
    intro n
    induction n with
    | zero => intro v1 v2 v3 v4 v5 v6 M r' H locs ls h hP hS hl kk; rw [fX6_layTable_L41.eq_1] at h; cases h
    | succ n ih =>
      intro v1 v2 v3 v4 v5 v6 M r' H locs ls h hP hS hl kk
      rw [fX6_layTable_L41.eq_2] at h
      refine lv_iload hx hb dX6_layTable_41 (lv_at hl 6 rfl) ?_
      refine lv_iconst (v := 4) hx hb dX6_layTable_43 (by decide) ?_
      refine lv_icmp_ge (tgt := 76) hx hb dX6_layTable_44 (by decide) (fun c10 => ?_) (fun c10 => ?_)
      · rw [if_pos c10] at h
        obtain rfl := Option.some.inj h
        exact kk _ _ hP hS _ (lv_sub hl [0, 1, 2, 3, 4, 5] rfl)
      · rw [if_neg c10] at h
        refine lv_iload hx hb dX6_layTable_47 (lv_at hl 5 rfl) ?_
        refine lv_if_eq (tgt := 76) hx hb dX6_layTable_49 (by decide) (fun c11 => ?_) (fun c11 => ?_)
        · rw [if_pos c11] at h
          obtain rfl := Option.some.inj h
          exact kk _ _ hP hS _ (lv_sub hl [0, 1, 2, 3, 4, 5] rfl)
        · rw [if_neg c11] at h
          refine lv_iload hx hb dX6_layTable_52 (lv_at hl 4 rfl) ?_
          refine lv_iload hx hb dX6_layTable_54 (lv_at hl 6 rfl) ?_
          refine cS S5 (As := [.int v4, .int v6]) (kX6_countOf l _ _) (va_cwS 2 hts gX6_layTable_X6_countOf rfl rfl rfl (by decide +kernel) ⟨(Nat.le_of_ble_eq_true rfl), (Nat.le_of_ble_eq_true rfl)⟩) rfl hl.1 (st0 := _) (rest := []) rfl (Nat.le_of_ble_eq_true rfl) dX6_layTable_56 ⟨Nat.zero_le _, Nat.zero_le _⟩ ?_
          refine lv_iload_n hx hb dX6_layTable_59 rfl (lv_at hl 3 rfl) ?_
          refine lv_icmp_ne (tgt := 67) hx hb dX6_layTable_60 (by decide) (fun c12 => ?_) (fun c12 => ?_)
          · rw [if_neg c12] at h
            refine lv_iconst (v := 0) hx hb dX6_layTable_67 (by decide) ?_
            refine lv_istore (lv' := [(5, .int 0), (0, .ref (ad 0)), (1, .int v1), (2, .int v2), (3, .int v3), (4, .int v4), (6, .int v6)]) hx hb dX6_layTable_68 hl (by decide) rfl (fun ls hl => ?_)
            refine lv_iinc (v := v6 + 1) (lv' := [(6, .int (v6 + 1)), (5, .int 0), (0, .ref (ad 0)), (1, .int v1), (2, .int v2), (3, .int v3), (4, .int v4)]) hx hb dX6_layTable_70 hl (k := 6) rfl rfl (by decide) rfl (fun ls hl => ?_)
            refine lv_goto (tgt := 41) hx hb dX6_layTable_73 (by decide) ?_
            exact ih _ _ _ _ _ _ _ _ _ _ _ h hP hS (lv_sub hl [2, 3, 4, 5, 6, 1, 0] rfl) kk
          · rw [if_pos c12] at h
            refine lv_iconst (v := 1) hx hb dX6_layTable_63 (by decide) ?_
            refine lv_goto (tgt := 68) hx hb dX6_layTable_64 (by decide) ?_
            refine lv_istore (lv' := [(5, .int 1), (0, .ref (ad 0)), (1, .int v1), (2, .int v2), (3, .int v3), (4, .int v4), (6, .int v6)]) hx hb dX6_layTable_68 hl (by decide) rfl (fun ls hl => ?_)
            refine lv_iinc (v := v6 + 1) (lv' := [(6, .int (v6 + 1)), (5, .int 1), (0, .ref (ad 0)), (1, .int v1), (2, .int v2), (3, .int v3), (4, .int v4)]) hx hb dX6_layTable_70 hl (k := 6) rfl rfl (by decide) rfl (fun ls hl => ?_)
            refine lv_goto (tgt := 41) hx hb dX6_layTable_73 (by decide) ?_
            exact ih _ _ _ _ _ _ _ _ _ _ _ h hP hS (lv_sub hl [2, 3, 4, 5, 6, 1, 0] rfl) kk
  have L79 : ∀ (n : Nat) (v1 : Int32) (v2 : Int32) (v3 : Int32) (v4 : Int32) (v5 : Int32) (v6 : Int32) (M : Mem) (r' : Mem) (H : Heap) (locs : List Loc) (ls : Array Slot), fX6_layTable_L79 n v1 v2 v3 v4 v5 v6 M = some r' → va_P D vwCl (wM cA ad M) H → va_S A s.heap H locs → lv_has ls 7 [(0, .ref (ad 0)), (1, .int v1), (2, .int v2), (3, .int v3), (4, .int v4), (5, .int v5), (6, .int v6)] → (∀ (H : Heap) (locs : List Loc), va_P D vwCl (wM cA ad (r')) H → va_S A s.heap H locs → ∀ (ls : Array Slot), lv_has ls 7 [(0, .ref (ad 0)), (1, .int v1), (2, .int v2), (3, .int v3), (4, .int v4), (5, .int v5)] → W p l e rmX6_layTable s m args below meth c H locs 0 0 Q (F0 m 125 ls [])) → W p l e rmX6_layTable s m args below meth c H locs 0 0 Q (F0 m 79 ls []) := by
    intro n
    induction n with
    | zero => intro v1 v2 v3 v4 v5 v6 M r' H locs ls h hP hS hl kk; rw [fX6_layTable_L79.eq_1] at h; cases h
    | succ n ih =>
      intro v1 v2 v3 v4 v5 v6 M r' H locs ls h hP hS hl kk
      rw [fX6_layTable_L79.eq_2] at h
      refine lv_iload hx hb dX6_layTable_79 (lv_at hl 6 rfl) ?_
      refine lv_iconst (v := 4) hx hb dX6_layTable_81 (by decide) ?_
      refine lv_icmp_ge (tgt := 125) hx hb dX6_layTable_82 (by decide) (fun c13 => ?_) (fun c13 => ?_)
      · rw [if_pos c13] at h
        obtain rfl := Option.some.inj h
        exact kk _ _ hP hS _ (lv_sub hl [0, 1, 2, 3, 4, 5] rfl)
      · rw [if_neg c13] at h
        refine lv_iload hx hb dX6_layTable_85 (lv_at hl 5 rfl) ?_
        refine lv_if_eq (tgt := 125) hx hb dX6_layTable_87 (by decide) (fun c14 => ?_) (fun c14 => ?_)
        · rw [if_pos c14] at h
          obtain rfl := Option.some.inj h
          exact kk _ _ hP hS _ (lv_sub hl [0, 1, 2, 3, 4, 5] rfl)
        · rw [if_neg c14] at h
          refine lv_aload_n hx hb dX6_layTable_90 rfl (lv_at hl 0 rfl) ?_
          refine gX6_table S5 hin hK hP (List.mem_of_getElem? (i := 3) rfl) dX6_layTable_91 ?_
          refine r_ldc (v := 65536) S5 (List.mem_of_getElem? (i := 2) rfl) dX6_layTable_94 ?_
          refine lv_iload hx hb dX6_layTable_96 (lv_at hl 6 rfl) ?_
          refine lv_imul hx hb dX6_layTable_98 ?_
          refine lv_iload hx hb dX6_layTable_99 (lv_at hl 4 rfl) ?_
          refine lv_iadd hx hb dX6_layTable_101 ?_
          refine lv_iload_n hx hb dX6_layTable_102 rfl (lv_at hl 3 rfl) ?_
          refine lv_if_ne (tgt := 110) hx hb dX6_layTable_103 (by decide) (fun c15 => ?_) (fun c15 => ?_)
          · rw [if_neg c15] at h
            refine lv_aload_n hx hb dX6_layTable_110 rfl (lv_at hl 0 rfl) ?_
            refine lv_iload hx hb dX6_layTable_111 (lv_at hl 6 rfl) ?_
            refine lv_iload hx hb dX6_layTable_113 (lv_at hl 4 rfl) ?_
            obtain ⟨q16, hqq16, h⟩ := obind_some h
            refine cWiM S5 hK hP hD hS (fun _ h => hA _ _ hS.1 h) 0 rfl rfl (As := [.int v6, .int v4]) (kX6_first l D cA ad _ _ _ _ hqq16) (cwV 2 hts gX6_layTable_X6_first rfl rfl rfl (by decide +kernel) ⟨(Nat.le_of_ble_eq_true rfl), (Nat.le_of_ble_eq_true rfl)⟩) rfl hl.1 (st0 := _) (rest := [.int ((65536 * v6) + v4), .ref (ad 7)]) rfl (Nat.le_of_ble_eq_true rfl) dX6_layTable_115 ⟨Nat.zero_le _, Nat.zero_le _⟩ (fun H locs hz hP hS => ?_)
            obtain ⟨g17, h⟩ := gd_some h
            refine asM7 S5 hK hP hD hS g17 (k := ((65536 * v6) + v4).toNatClampNeg) rfl dX6_layTable_118 (fun H locs hP hS => ?_)
            refine lv_iinc (v := v6 + 1) (lv' := [(6, .int (v6 + 1)), (0, .ref (ad 0)), (1, .int v1), (2, .int v2), (3, .int v3), (4, .int v4), (5, .int v5)]) hx hb dX6_layTable_119 hl (k := 6) rfl rfl (by decide) rfl (fun ls hl => ?_)
            refine lv_goto (tgt := 79) hx hb dX6_layTable_122 (by decide) ?_
            exact ih _ _ _ _ _ _ _ _ _ _ _ h hP hS (lv_sub hl [1, 2, 3, 4, 5, 6, 0] rfl) kk
          · rw [if_pos c15] at h
            refine lv_iconst (v := 0) hx hb dX6_layTable_106 (by decide) ?_
            refine lv_goto (tgt := 118) hx hb dX6_layTable_107 (by decide) ?_
            obtain ⟨g18, h⟩ := gd_some h
            refine asM7 S5 hK hP hD hS g18 (k := ((65536 * v6) + v4).toNatClampNeg) rfl dX6_layTable_118 (fun H locs hP hS => ?_)
            refine lv_iinc (v := v6 + 1) (lv' := [(6, .int (v6 + 1)), (0, .ref (ad 0)), (1, .int v1), (2, .int v2), (3, .int v3), (4, .int v4), (5, .int v5)]) hx hb dX6_layTable_119 hl (k := 6) rfl rfl (by decide) rfl (fun ls hl => ?_)
            refine lv_goto (tgt := 79) hx hb dX6_layTable_122 (by decide) ?_
            exact ih _ _ _ _ _ _ _ _ _ _ _ h hP hS (lv_sub hl [1, 2, 3, 4, 5, 6, 0] rfl) kk
  have L15 : ∀ (n : Nat) (v1 : Int32) (v2 : Int32) (v3 : Int32) (v4 : Int32) (M : Mem) (r' : Mem) (H : Heap) (locs : List Loc) (ls : Array Slot), fX6_layTable_L15 n v1 v2 v3 v4 M = some r' → va_P D vwCl (wM cA ad M) H → va_S A s.heap H locs → lv_has ls 7 [(0, .ref (ad 0)), (1, .int v1), (2, .int v2), (3, .int v3), (4, .int v4)] → (∀ (H : Heap) (locs : List Loc), va_P D vwCl (wM cA ad (r')) H → va_S A s.heap H locs → ∀ (ls : Array Slot), lv_has ls 7 [(0, .ref (ad 0)), (1, .int v1), (2, .int v2), (3, .int v3)] → W p l e rmX6_layTable s m args below meth c H locs 0 0 Q (F0 m 131 ls [])) → W p l e rmX6_layTable s m args below meth c H locs 0 0 Q (F0 m 15 ls []) := by
    intro n
    induction n with
    | zero => intro v1 v2 v3 v4 M r' H locs ls h hP hS hl kk; rw [fX6_layTable_L15.eq_1] at h; cases h
    | succ n ih =>
      intro v1 v2 v3 v4 M r' H locs ls h hP hS hl kk
      rw [fX6_layTable_L15.eq_2] at h
      refine lv_iload hx hb dX6_layTable_15 (lv_at hl 4 rfl) ?_
      refine r_ldc (v := 65536) S5 (List.mem_of_getElem? (i := 2) rfl) dX6_layTable_17 ?_
      refine lv_icmp_ge (tgt := 131) hx hb dX6_layTable_19 (by decide) (fun c4 => ?_) (fun c4 => ?_)
      · rw [if_pos c4] at h
        obtain rfl := Option.some.inj h
        exact kk _ _ hP hS _ (lv_sub hl [0, 1, 2, 3] rfl)
      · rw [if_neg c4] at h
        refine lv_iload hx hb dX6_layTable_22 (lv_at hl 4 rfl) ?_
        refine lv_iload_n hx hb dX6_layTable_24 rfl (lv_at hl 1 rfl) ?_
        refine lv_iconst (v := (-1)) hx hb dX6_layTable_25 (by decide) ?_
        refine lv_ixor hx hb dX6_layTable_26 ?_
        refine lv_iand hx hb dX6_layTable_27 ?_
        refine lv_if_ne (tgt := 35) hx hb dX6_layTable_28 (by decide) (fun c5 => ?_) (fun c5 => ?_)
        · rw [if_neg c5] at h
          refine lv_iconst (v := 0) hx hb dX6_layTable_35 (by decide) ?_
          refine lv_istore (lv' := [(5, .int 0), (0, .ref (ad 0)), (1, .int v1), (2, .int v2), (3, .int v3), (4, .int v4)]) hx hb dX6_layTable_36 hl (by decide) rfl (fun ls hl => ?_)
          refine lv_iconst (v := 0) hx hb dX6_layTable_38 (by decide) ?_
          refine lv_istore (lv' := [(6, .int 0), (5, .int 0), (0, .ref (ad 0)), (1, .int v1), (2, .int v2), (3, .int v3), (4, .int v4)]) hx hb dX6_layTable_39 hl (by decide) rfl (fun ls hl => ?_)
          obtain ⟨q6, hqq6, h⟩ := obind_some h
          refine L41 _ _ _ _ _ _ _ _ _ _ _ _ hqq6 hP hS (lv_sub hl [2, 3, 4, 5, 6, 1, 0] rfl) (fun H locs hP hS ls hl => ?_)
          have hl := lv_sub (l' := [(0, .ref (ad 0)), (1, .int v1), (2, .int v2), (3, .int v3), (4, .int v4), (5, .int q6)]) hl [0, 1, 2, 3, 4, 5] rfl
          refine lv_iconst (v := 0) hx hb dX6_layTable_76 (by decide) ?_
          refine lv_istore (lv' := [(6, .int 0), (0, .ref (ad 0)), (1, .int v1), (2, .int v2), (3, .int v3), (4, .int v4), (5, .int q6)]) hx hb dX6_layTable_77 hl (by decide) rfl (fun ls hl => ?_)
          obtain ⟨q7, hqq7, h⟩ := obind_some h
          refine L79 _ _ _ _ _ _ _ _ _ _ _ _ hqq7 hP hS (lv_sub hl [1, 2, 3, 4, 5, 6, 0] rfl) (fun H locs hP hS ls hl => ?_)
          have hl := lv_sub (l' := [(0, .ref (ad 0)), (1, .int v1), (2, .int v2), (3, .int v3), (4, .int v4)]) hl [0, 1, 2, 3, 4] rfl
          refine lv_iinc (v := v4 + 1) (lv' := [(4, .int (v4 + 1)), (0, .ref (ad 0)), (1, .int v1), (2, .int v2), (3, .int v3)]) hx hb dX6_layTable_125 hl (k := 4) rfl rfl (by decide) rfl (fun ls hl => ?_)
          refine lv_goto (tgt := 15) hx hb dX6_layTable_128 (by decide) ?_
          exact ih _ _ _ _ _ _ _ _ _ h hP hS (lv_sub hl [1, 2, 3, 4, 0] rfl) kk
        · rw [if_pos c5] at h
          refine lv_iconst (v := 1) hx hb dX6_layTable_31 (by decide) ?_
          refine lv_goto (tgt := 36) hx hb dX6_layTable_32 (by decide) ?_
          refine lv_istore (lv' := [(5, .int 1), (0, .ref (ad 0)), (1, .int v1), (2, .int v2), (3, .int v3), (4, .int v4)]) hx hb dX6_layTable_36 hl (by decide) rfl (fun ls hl => ?_)
          refine lv_iconst (v := 0) hx hb dX6_layTable_38 (by decide) ?_
          refine lv_istore (lv' := [(6, .int 0), (5, .int 1), (0, .ref (ad 0)), (1, .int v1), (2, .int v2), (3, .int v3), (4, .int v4)]) hx hb dX6_layTable_39 hl (by decide) rfl (fun ls hl => ?_)
          obtain ⟨q8, hqq8, h⟩ := obind_some h
          refine L41 _ _ _ _ _ _ _ _ _ _ _ _ hqq8 hP hS (lv_sub hl [2, 3, 4, 5, 6, 1, 0] rfl) (fun H locs hP hS ls hl => ?_)
          have hl := lv_sub (l' := [(0, .ref (ad 0)), (1, .int v1), (2, .int v2), (3, .int v3), (4, .int v4), (5, .int q8)]) hl [0, 1, 2, 3, 4, 5] rfl
          refine lv_iconst (v := 0) hx hb dX6_layTable_76 (by decide) ?_
          refine lv_istore (lv' := [(6, .int 0), (0, .ref (ad 0)), (1, .int v1), (2, .int v2), (3, .int v3), (4, .int v4), (5, .int q8)]) hx hb dX6_layTable_77 hl (by decide) rfl (fun ls hl => ?_)
          obtain ⟨q9, hqq9, h⟩ := obind_some h
          refine L79 _ _ _ _ _ _ _ _ _ _ _ _ hqq9 hP hS (lv_sub hl [1, 2, 3, 4, 5, 6, 0] rfl) (fun H locs hP hS ls hl => ?_)
          have hl := lv_sub (l' := [(0, .ref (ad 0)), (1, .int v1), (2, .int v2), (3, .int v3), (4, .int v4)]) hl [0, 1, 2, 3, 4] rfl
          refine lv_iinc (v := v4 + 1) (lv' := [(4, .int (v4 + 1)), (0, .ref (ad 0)), (1, .int v1), (2, .int v2), (3, .int v3)]) hx hb dX6_layTable_125 hl (k := 4) rfl rfl (by decide) rfl (fun ls hl => ?_)
          refine lv_goto (tgt := 15) hx hb dX6_layTable_128 (by decide) ?_
          exact ih _ _ _ _ _ _ _ _ _ h hP hS (lv_sub hl [1, 2, 3, 4, 0] rfl) kk
  have L7 : ∀ (n : Nat) (v1 : Int32) (v2 : Int32) (v3 : Int32) (M : Mem) (r' : Mem) (H : Heap) (locs : List Loc) (ls : Array Slot), fX6_layTable_L7 n v1 v2 v3 M = some r' → va_P D vwCl (wM cA ad M) H → va_S A s.heap H locs → lv_has ls 7 [(0, .ref (ad 0)), (1, .int v1), (2, .int v2), (3, .int v3)] → (∀ (H : Heap) (locs : List Loc), va_P D vwCl (wM cA ad (r')) H → va_S A s.heap H locs → ∀ (ls : Array Slot), lv_has ls 7 [(0, .ref (ad 0)), (1, .int v1), (2, .int v2)] → W p l e rmX6_layTable s m args below meth c H locs 0 0 Q (F0 m 137 ls [])) → W p l e rmX6_layTable s m args below meth c H locs 0 0 Q (F0 m 7 ls []) := by
    intro n
    induction n with
    | zero => intro v1 v2 v3 M r' H locs ls h hP hS hl kk; rw [fX6_layTable_L7.eq_1] at h; cases h
    | succ n ih =>
      intro v1 v2 v3 M r' H locs ls h hP hS hl kk
      rw [fX6_layTable_L7.eq_2] at h
      refine lv_iload_n hx hb dX6_layTable_7 rfl (lv_at hl 3 rfl) ?_
      refine lv_iload_n hx hb dX6_layTable_8 rfl (lv_at hl 2 rfl) ?_
      refine lv_icmp_gt (tgt := 137) hx hb dX6_layTable_9 (by decide) (fun c2 => ?_) (fun c2 => ?_)
      · rw [if_pos c2] at h
        obtain rfl := Option.some.inj h
        exact kk _ _ hP hS _ (lv_sub hl [0, 1, 2] rfl)
      · rw [if_neg c2] at h
        refine lv_iconst (v := 0) hx hb dX6_layTable_12 (by decide) ?_
        refine lv_istore (lv' := [(4, .int 0), (0, .ref (ad 0)), (1, .int v1), (2, .int v2), (3, .int v3)]) hx hb dX6_layTable_13 hl (by decide) rfl (fun ls hl => ?_)
        obtain ⟨q3, hqq3, h⟩ := obind_some h
        refine L15 _ _ _ _ _ _ _ _ _ _ hqq3 hP hS (lv_sub hl [1, 2, 3, 4, 0] rfl) (fun H locs hP hS ls hl => ?_)
        have hl := lv_sub (l' := [(0, .ref (ad 0)), (1, .int v1), (2, .int v2), (3, .int v3)]) hl [0, 1, 2, 3] rfl
        refine lv_iinc (v := v3 + 1) (lv' := [(3, .int (v3 + 1)), (0, .ref (ad 0)), (1, .int v1), (2, .int v2)]) hx hb dX6_layTable_131 hl (k := 3) rfl rfl (by decide) rfl (fun ls hl => ?_)
        refine lv_goto (tgt := 7) hx hb dX6_layTable_134 (by decide) ?_
        exact ih _ _ _ _ _ _ _ _ h hP hS (lv_sub hl [1, 2, 3, 0] rfl) kk
  refine lv_aload_n hx hb dX6_layTable_0 rfl (lv_at hl 0 rfl) ?_
  refine lv_iconst (v := 0) hx hb dX6_layTable_1 (by decide) ?_
  refine pX6_fixedMany S5 hin hK hP hD hS (List.mem_of_getElem? (i := 1) rfl) dX6_layTable_2 (fun H locs hP hS => ?_)
  refine lv_iconst (v := 0) hx hb dX6_layTable_5 (by decide) ?_
  refine lv_istore_n (lv' := [(3, .int 0), (0, .ref (ad 0)), (1, .int p1), (2, .int p2)]) hx hb dX6_layTable_6 rfl hl (by decide) rfl (fun ls hl => ?_)
  obtain ⟨q1, hqq1, h⟩ := obind_some h
  refine L7 _ _ _ _ _ _ _ _ _ hqq1 hP hS (lv_sub hl [1, 2, 3, 0] rfl) (fun H locs hP hS ls hl => ?_)
  have hl := lv_sub (l' := []) hl [] rfl
  obtain rfl := Option.some.inj h
  exact kr _ _ _ _ hP hS dX6_layTable_137

-- X6_solved
def fX6_solved_L37 : Nat → Int32 → Int32 → Int32 → Mem → Option (Mem)
  | 0, _, _, _, _ => none
  | n + 1, v1, v2, v5, M => (if (M 0 9) ≤ v5 then some (M) else (if vin v5 4 = true then (if vin v5 4 = true then fX6_solved_L37 n v1 v2 (v5 + 1) ((mset M 8 v5.toNatClampNeg (M 4 v5.toNatClampNeg))) else none) else none))
def fX6_solved (p1 : Int32) (p2 : Int32) (M : Mem) : Option (Int32 × Mem) := (obind (fX6_size (fX6_all M)) (fun q1 => (if ((q1 + (M 0 9)) / 4) = 0 then some (0, M) else (obind (fX6_layTable p1 (((q1 + (M 0 9)) / 4) - 1) M) (fun q3 => (obind (fX6_solved_L37 40 p1 p2 0 q3) (fun q4 => (obind (fX6_first (q4 0 10) p1 ((mset q4 0 15 p2))) (fun q5 => some (q5.1, q5.2))))))))))
def rmX6_solved : Room := { frames := 7, cells := 0, slots := 0, locals := 172 }
set_option maxHeartbeats 4000000 in
set_option maxRecDepth 100000 in
theorem kX6_solved (l : Launch) (D : va_G) (cA : Nat) (ad : Nat → Nat) (p1 : Int32) (p2 : Int32) (M : Mem) (r : Int32 × Mem) (h : fX6_solved p1 p2 M = some r) : WiM l yX6_solved wsX6_solved rmX6_solved D cA ad M [.ref (ad 0), .int p1, .int p2] r := by
  unfold fX6_solved at h
  refine WiM.of RX6 rfl rfl rfl (Nat.le_of_ble_eq_true rfl) ?_
  intro p e s m args below meth c Q ls A eA S5 hK hP hD hS hl kr
  have hA : ∀ (H : Heap) (q : Nat), s.heap.size ≤ H.size → AX ad H.size q → A q := fun H q hz h => by rw [eA]; exact AX.mono hz h
  obtain ⟨hx, hb, -, -, hts⟩ := id S5
  have hin : ∀ w ∈ wsX60, w ∈ wsX6_solved := fun _ h => List.mem_cons_of_mem _ (List.mem_append_right _ (h))
  have L37 : ∀ (n : Nat) (v1 : Int32) (v2 : Int32) (v5 : Int32) (M : Mem) (r' : Mem) (H : Heap) (locs : List Loc) (ls : Array Slot), fX6_solved_L37 n v1 v2 v5 M = some r' → va_P D vwCl (wM cA ad M) H → va_S A s.heap H locs → lv_has ls 6 [(0, .ref (ad 0)), (1, .int v1), (2, .int v2), (5, .int v5)] → (∀ (H : Heap) (locs : List Loc), va_P D vwCl (wM cA ad (r')) H → va_S A s.heap H locs → ∀ (ls : Array Slot), lv_has ls 6 [(0, .ref (ad 0)), (1, .int v1), (2, .int v2)] → W p l e rmX6_solved s m args below meth c H locs 0 0 Q (F0 m 66 ls [])) → W p l e rmX6_solved s m args below meth c H locs 0 0 Q (F0 m 37 ls []) := by
    intro n
    induction n with
    | zero => intro v1 v2 v5 M r' H locs ls h hP hS hl kk; rw [fX6_solved_L37.eq_1] at h; cases h
    | succ n ih =>
      intro v1 v2 v5 M r' H locs ls h hP hS hl kk
      rw [fX6_solved_L37.eq_2] at h
      refine lv_iload hx hb dX6_solved_37 (lv_at hl 3 rfl) ?_
      refine lv_aload_n hx hb dX6_solved_39 rfl (lv_at hl 0 rfl) ?_
      refine gX6_trickMany S5 hin hK hP (List.mem_of_getElem? (i := 1) rfl) (v := M 0 9) rfl dX6_solved_40 ?_
      refine lv_icmp_ge (tgt := 66) hx hb dX6_solved_43 (by decide) (fun c6 => ?_) (fun c6 => ?_)
      · rw [if_pos c6] at h
        obtain rfl := Option.some.inj h
        exact kk _ _ hP hS _ (lv_sub hl [0, 1, 2] rfl)
      · rw [if_neg c6] at h
        refine lv_aload_n hx hb dX6_solved_46 rfl (lv_at hl 0 rfl) ?_
        refine gX6_thought S5 hin hK hP (List.mem_of_getElem? (i := 2) rfl) dX6_solved_47 ?_
        refine lv_iload hx hb dX6_solved_50 (lv_at hl 3 rfl) ?_
        refine lv_aload_n hx hb dX6_solved_52 rfl (lv_at hl 0 rfl) ?_
        refine gX6_trick S5 hin hK hP (List.mem_of_getElem? (i := 3) rfl) dX6_solved_53 ?_
        refine lv_iload hx hb dX6_solved_56 (lv_at hl 3 rfl) ?_
        obtain ⟨g7, h⟩ := gd_some h
        refine alM4 S5 hK hP (v := M 4 v5.toNatClampNeg) g7 rfl dX6_solved_58 ?_
        obtain ⟨g8, h⟩ := gd_some h
        refine asM8 S5 hK hP hD hS g8 (k := v5.toNatClampNeg) rfl dX6_solved_59 (fun H locs hP hS => ?_)
        refine lv_iinc (v := v5 + 1) (lv' := [(5, .int (v5 + 1)), (0, .ref (ad 0)), (1, .int v1), (2, .int v2)]) hx hb dX6_solved_60 hl (k := 3) rfl rfl (by decide) rfl (fun ls hl => ?_)
        refine lv_goto (tgt := 37) hx hb dX6_solved_63 (by decide) ?_
        exact ih _ _ _ _ _ _ _ _ h hP hS (lv_sub hl [1, 2, 3, 0] rfl) kk
  refine lv_aload_n hx hb dX6_solved_0 rfl (lv_at hl 0 rfl) ?_
  refine cVM S5 hK hP 0 rfl rfl (As := []) (kX6_all l D cA ad _) (cwV 0 hts gX6_solved_X6_all rfl rfl rfl (by decide +kernel) ⟨(Nat.le_of_ble_eq_true rfl), (Nat.le_of_ble_eq_true rfl)⟩) rfl hl.1 (st0 := _) (rest := []) rfl (Nat.le_of_ble_eq_true rfl) dX6_solved_1 ⟨Nat.zero_le _, Nat.zero_le _⟩ ?_
  obtain ⟨q1, hqq1, h⟩ := obind_some h
  refine cS S5 (As := [.int (fX6_all M)]) (kX6_size l _ _ hqq1) (va_cwS 1 hts gX6_solved_X6_size rfl rfl rfl (by decide +kernel) ⟨(Nat.le_of_ble_eq_true rfl), (Nat.le_of_ble_eq_true rfl)⟩) rfl hl.1 (st0 := _) (rest := []) rfl (Nat.le_of_ble_eq_true rfl) dX6_solved_4 ⟨Nat.zero_le _, Nat.zero_le _⟩ ?_
  refine lv_aload_n hx hb dX6_solved_7 rfl (lv_at hl 0 rfl) ?_
  refine gX6_trickMany S5 hin hK hP (List.mem_of_getElem? (i := 1) rfl) (v := M 0 9) rfl dX6_solved_8 ?_
  refine lv_iadd hx hb dX6_solved_11 ?_
  refine lv_istore_n (lv' := [(3, .int (q1 + (M 0 9))), (0, .ref (ad 0)), (1, .int p1), (2, .int p2)]) hx hb dX6_solved_12 rfl hl (by decide) rfl (fun ls hl => ?_)
  refine lv_iload_n hx hb dX6_solved_13 rfl (lv_at hl 0 rfl) ?_
  refine lv_iconst (v := 4) hx hb dX6_solved_14 (by decide) ?_
  refine r_idiv S5 dX6_solved_15 (by decide) ?_
  refine lv_istore (lv' := [(4, .int ((q1 + (M 0 9)) / 4)), (3, .int (q1 + (M 0 9))), (0, .ref (ad 0)), (1, .int p1), (2, .int p2)]) hx hb dX6_solved_16 hl (by decide) rfl (fun ls hl => ?_)
  refine lv_iload hx hb dX6_solved_18 (lv_at hl 0 rfl) ?_
  refine lv_if_ne (tgt := 25) hx hb dX6_solved_20 (by decide) (fun c2 => ?_) (fun c2 => ?_)
  · rw [if_neg c2] at h
    refine lv_aload_n hx hb dX6_solved_25 rfl (lv_at hl 2 rfl) ?_
    refine lv_iload_n hx hb dX6_solved_26 rfl (lv_at hl 3 rfl) ?_
    refine lv_iload hx hb dX6_solved_27 (lv_at hl 0 rfl) ?_
    refine lv_iconst (v := 1) hx hb dX6_solved_29 (by decide) ?_
    refine lv_isub hx hb dX6_solved_30 ?_
    obtain ⟨q3, hqq3, h⟩ := obind_some h
    refine cWvM S5 hK hP hD hS (fun _ h => hA _ _ hS.1 h) 0 rfl rfl (As := [.int p1, .int (((q1 + (M 0 9)) / 4) - 1)]) (kX6_layTable l D cA ad _ _ _ _ hqq3) (cwV 2 hts gX6_solved_X6_layTable rfl rfl rfl (by decide +kernel) ⟨(Nat.le_of_ble_eq_true rfl), (Nat.le_of_ble_eq_true rfl)⟩) rfl hl.1 (st0 := _) (rest := []) rfl (Nat.le_of_ble_eq_true rfl) dX6_solved_31 ⟨Nat.zero_le _, Nat.zero_le _⟩ (fun H locs hz hP hS => ?_)
    refine lv_iconst (v := 0) hx hb dX6_solved_34 (by decide) ?_
    refine lv_istore (lv' := [(5, .int 0), (4, .int ((q1 + (M 0 9)) / 4)), (3, .int (q1 + (M 0 9))), (0, .ref (ad 0)), (1, .int p1), (2, .int p2)]) hx hb dX6_solved_35 hl (by decide) rfl (fun ls hl => ?_)
    obtain ⟨q4, hqq4, h⟩ := obind_some h
    refine L37 _ _ _ _ _ _ _ _ _ hqq4 hP hS (lv_sub hl [3, 4, 5, 0] rfl) (fun H locs hP hS ls hl => ?_)
    have hl := lv_sub (l' := [(0, .ref (ad 0)), (1, .int p1), (2, .int p2)]) hl [0, 1, 2] rfl
    refine lv_aload_n hx hb dX6_solved_66 rfl (lv_at hl 0 rfl) ?_
    refine lv_iload_n hx hb dX6_solved_67 rfl (lv_at hl 2 rfl) ?_
    refine pX6_fixedMany S5 hin hK hP hD hS (List.mem_of_getElem? (i := 4) rfl) dX6_solved_68 (fun H locs hP hS => ?_)
    refine lv_aload_n hx hb dX6_solved_71 rfl (lv_at hl 0 rfl) ?_
    refine lv_aload_n hx hb dX6_solved_72 rfl (lv_at hl 0 rfl) ?_
    refine gX6_leader S5 hin hK hP (List.mem_of_getElem? (i := 5) rfl) (v := q4 0 10) rfl dX6_solved_73 ?_
    refine lv_iload_n hx hb dX6_solved_76 rfl (lv_at hl 1 rfl) ?_
    obtain ⟨q5, hqq5, h⟩ := obind_some h
    refine cWiM S5 hK hP hD hS (fun _ h => hA _ _ hS.1 h) 0 rfl rfl (As := [.int (q4 0 10), .int p1]) (kX6_first l D cA ad _ _ _ _ hqq5) (cwV 2 hts gX6_solved_X6_first rfl rfl rfl (by decide +kernel) ⟨(Nat.le_of_ble_eq_true rfl), (Nat.le_of_ble_eq_true rfl)⟩) rfl hl.1 (st0 := _) (rest := []) rfl (Nat.le_of_ble_eq_true rfl) dX6_solved_77 ⟨Nat.zero_le _, Nat.zero_le _⟩ (fun H locs hz hP hS => ?_)
    obtain rfl := Option.some.inj h
    exact kr _ _ _ _ _ rfl rfl hP hS dX6_solved_80
  · rw [if_pos c2] at h
    refine lv_iconst (v := 0) hx hb dX6_solved_23 (by decide) ?_
    obtain rfl := Option.some.inj h
    exact kr _ _ _ _ _ rfl rfl hP hS dX6_solved_24

-- X6_solve
def fX6_solve (M : Mem) : Option (Int32 × Mem) := (if (M 0 2) = 0 then some (0, (mset M 0 6 1)) else (obind (fX6_layList ((mset M 0 6 0))) (fun q4 => (obind (fX6_solved q4.1 (q4.2 0 9) q4.2) (fun q5 => some (q5.1, q5.2))))))
def rmX6_solve : Room := { frames := 8, cells := 0, slots := 0, locals := 197 }
set_option maxHeartbeats 4000000 in
set_option maxRecDepth 100000 in
theorem kX6_solve (l : Launch) (D : va_G) (cA : Nat) (ad : Nat → Nat) (M : Mem) (r : Int32 × Mem) (h : fX6_solve M = some r) : WiM l yX6_solve wsX6_solve rmX6_solve D cA ad M [.ref (ad 0)] r := by
  unfold fX6_solve at h
  refine WiM.of RX6 rfl rfl rfl (Nat.le_of_ble_eq_true rfl) ?_
  intro p e s m args below meth c Q ls A eA S5 hK hP hD hS hl kr
  have hA : ∀ (H : Heap) (q : Nat), s.heap.size ≤ H.size → AX ad H.size q → A q := fun H q hz h => by rw [eA]; exact AX.mono hz h
  obtain ⟨hx, hb, -, -, hts⟩ := id S5
  have hin : ∀ w ∈ wsX60, w ∈ wsX6_solve := fun _ h => List.mem_cons_of_mem _ (List.mem_append_right _ (h))
  refine lv_aload_n hx hb dX6_solve_0 rfl (lv_at hl 0 rfl) ?_
  refine lv_aload_n hx hb dX6_solve_1 rfl (lv_at hl 0 rfl) ?_
  refine gX6_isGame S5 hin hK hP (List.mem_of_getElem? (i := 1) rfl) (v := M 0 2) rfl dX6_solve_2 ?_
  refine lv_if_eq (tgt := 12) hx hb dX6_solve_5 (by decide) (fun c1 => ?_) (fun c1 => ?_)
  · rw [if_pos c1] at h
    refine lv_iconst (v := 1) hx hb dX6_solve_12 (by decide) ?_
    refine pX6_thrown S5 hin hK hP hD hS (List.mem_of_getElem? (i := 2) rfl) dX6_solve_13 (fun H locs hP hS => ?_)
    refine lv_aload_n hx hb dX6_solve_16 rfl (lv_at hl 0 rfl) ?_
    refine gX6_thrown S5 hin hK hP (List.mem_of_getElem? (i := 2) rfl) (v := 1) rfl dX6_solve_17 ?_
    refine lv_if_ne (tgt := 38) hx hb dX6_solve_20 (by decide) (fun c2 => ?_) (fun c2 => absurd c2 (by decide))
    refine lv_iconst (v := 0) hx hb dX6_solve_38 (by decide) ?_
    obtain rfl := Option.some.inj h
    exact kr _ _ _ _ _ rfl rfl hP hS dX6_solve_39
  · rw [if_neg c1] at h
    refine lv_iconst (v := 0) hx hb dX6_solve_8 (by decide) ?_
    refine lv_goto (tgt := 13) hx hb dX6_solve_9 (by decide) ?_
    refine pX6_thrown S5 hin hK hP hD hS (List.mem_of_getElem? (i := 2) rfl) dX6_solve_13 (fun H locs hP hS => ?_)
    refine lv_aload_n hx hb dX6_solve_16 rfl (lv_at hl 0 rfl) ?_
    refine gX6_thrown S5 hin hK hP (List.mem_of_getElem? (i := 2) rfl) (v := 0) rfl dX6_solve_17 ?_
    refine lv_if_ne (tgt := 38) hx hb dX6_solve_20 (by decide) (fun c3 => absurd c3 (by decide)) (fun c3 => ?_)
    refine lv_aload_n hx hb dX6_solve_23 rfl (lv_at hl 0 rfl) ?_
    refine lv_aload_n hx hb dX6_solve_24 rfl (lv_at hl 0 rfl) ?_
    obtain ⟨q4, hqq4, h⟩ := obind_some h
    refine cWiM S5 hK hP hD hS (fun _ h => hA _ _ hS.1 h) 0 rfl rfl (As := []) (kX6_layList l D cA ad _ _ hqq4) (cwV 0 hts gX6_solve_X6_layList rfl rfl rfl (by decide +kernel) ⟨(Nat.le_of_ble_eq_true rfl), (Nat.le_of_ble_eq_true rfl)⟩) rfl hl.1 (st0 := _) (rest := [.ref (ad 0)]) rfl (Nat.le_of_ble_eq_true rfl) dX6_solve_25 ⟨Nat.zero_le _, Nat.zero_le _⟩ (fun H locs hz hP hS => ?_)
    refine lv_aload_n hx hb dX6_solve_28 rfl (lv_at hl 0 rfl) ?_
    refine gX6_trickMany S5 hin hK hP (List.mem_of_getElem? (i := 3) rfl) (v := q4.2 0 9) rfl dX6_solve_29 ?_
    obtain ⟨q5, hqq5, h⟩ := obind_some h
    refine cWiM S5 hK hP hD hS (fun _ h => hA _ _ hS.1 h) 0 rfl rfl (As := [.int q4.1, .int (q4.2 0 9)]) (kX6_solved l D cA ad _ _ _ _ hqq5) (cwV 2 hts gX6_solve_X6_solved rfl rfl rfl (by decide +kernel) ⟨(Nat.le_of_ble_eq_true rfl), (Nat.le_of_ble_eq_true rfl)⟩) rfl hl.1 (st0 := _) (rest := []) rfl (Nat.le_of_ble_eq_true rfl) dX6_solve_32 ⟨Nat.zero_le _, Nat.zero_le _⟩ (fun H locs hz hP hS => ?_)
    refine lv_goto (tgt := 39) hx hb dX6_solve_35 (by decide) ?_
    obtain rfl := Option.some.inj h
    exact kr _ _ _ _ _ rfl rfl hP hS dX6_solve_39

-- X6_solveByAll
def fX6_solveByAll (M : Mem) : Option (Int32 × Mem) := (if (M 0 2) = 0 then some (0, (mset M 0 6 1)) else (obind (fX6_size (fX6_all M)) (fun q3 => (if 12 < q3 then some (0, (mset M 0 6 1)) else (obind (fX6_layList ((mset M 0 6 0))) (fun q7 => (obind (fX6_solved q7.1 (q7.2 0 9) q7.2) (fun q8 => some (q8.1, q8.2)))))))))
def rmX6_solveByAll : Room := { frames := 8, cells := 0, slots := 0, locals := 197 }
set_option maxHeartbeats 4000000 in
set_option maxRecDepth 100000 in
theorem kX6_solveByAll (l : Launch) (D : va_G) (cA : Nat) (ad : Nat → Nat) (M : Mem) (r : Int32 × Mem) (h : fX6_solveByAll M = some r) : WiM l yX6_solveByAll wsX6_solveByAll rmX6_solveByAll D cA ad M [.ref (ad 0)] r := by
  unfold fX6_solveByAll at h
  refine WiM.of RX6 rfl rfl rfl (Nat.le_of_ble_eq_true rfl) ?_
  intro p e s m args below meth c Q ls A eA S5 hK hP hD hS hl kr
  have hA : ∀ (H : Heap) (q : Nat), s.heap.size ≤ H.size → AX ad H.size q → A q := fun H q hz h => by rw [eA]; exact AX.mono hz h
  obtain ⟨hx, hb, -, -, hts⟩ := id S5
  have hin : ∀ w ∈ wsX60, w ∈ wsX6_solveByAll := fun _ h => List.mem_cons_of_mem _ (List.mem_append_right _ (h))
  refine lv_aload_n hx hb dX6_solveByAll_0 rfl (lv_at hl 0 rfl) ?_
  refine lv_aload_n hx hb dX6_solveByAll_1 rfl (lv_at hl 0 rfl) ?_
  refine gX6_isGame S5 hin hK hP (List.mem_of_getElem? (i := 1) rfl) (v := M 0 2) rfl dX6_solveByAll_2 ?_
  refine lv_if_eq (tgt := 24) hx hb dX6_solveByAll_5 (by decide) (fun c1 => ?_) (fun c1 => ?_)
  · rw [if_pos c1] at h
    refine lv_iconst (v := 1) hx hb dX6_solveByAll_24 (by decide) ?_
    refine pX6_thrown S5 hin hK hP hD hS (List.mem_of_getElem? (i := 2) rfl) dX6_solveByAll_25 (fun H locs hP hS => ?_)
    refine lv_aload_n hx hb dX6_solveByAll_28 rfl (lv_at hl 0 rfl) ?_
    refine gX6_thrown S5 hin hK hP (List.mem_of_getElem? (i := 2) rfl) (v := 1) rfl dX6_solveByAll_29 ?_
    refine lv_if_ne (tgt := 50) hx hb dX6_solveByAll_32 (by decide) (fun c2 => ?_) (fun c2 => absurd c2 (by decide))
    refine lv_iconst (v := 0) hx hb dX6_solveByAll_50 (by decide) ?_
    obtain rfl := Option.some.inj h
    exact kr _ _ _ _ _ rfl rfl hP hS dX6_solveByAll_51
  · rw [if_neg c1] at h
    refine lv_aload_n hx hb dX6_solveByAll_8 rfl (lv_at hl 0 rfl) ?_
    refine cVM S5 hK hP 0 rfl rfl (As := []) (kX6_all l D cA ad _) (cwV 0 hts gX6_solveByAll_X6_all rfl rfl rfl (by decide +kernel) ⟨(Nat.le_of_ble_eq_true rfl), (Nat.le_of_ble_eq_true rfl)⟩) rfl hl.1 (st0 := _) (rest := [.ref (ad 0)]) rfl (Nat.le_of_ble_eq_true rfl) dX6_solveByAll_9 ⟨Nat.zero_le _, Nat.zero_le _⟩ ?_
    obtain ⟨q3, hqq3, h⟩ := obind_some h
    refine cS S5 (As := [.int (fX6_all M)]) (kX6_size l _ _ hqq3) (va_cwS 1 hts gX6_solveByAll_X6_size rfl rfl rfl (by decide +kernel) ⟨(Nat.le_of_ble_eq_true rfl), (Nat.le_of_ble_eq_true rfl)⟩) rfl hl.1 (st0 := _) (rest := [.ref (ad 0)]) rfl (Nat.le_of_ble_eq_true rfl) dX6_solveByAll_12 ⟨Nat.zero_le _, Nat.zero_le _⟩ ?_
    refine lv_bipush (v := 12) hx hb dX6_solveByAll_15 (by decide) ?_
    refine lv_icmp_gt (tgt := 24) hx hb dX6_solveByAll_17 (by decide) (fun c4 => ?_) (fun c4 => ?_)
    · rw [if_pos c4] at h
      refine lv_iconst (v := 1) hx hb dX6_solveByAll_24 (by decide) ?_
      refine pX6_thrown S5 hin hK hP hD hS (List.mem_of_getElem? (i := 2) rfl) dX6_solveByAll_25 (fun H locs hP hS => ?_)
      refine lv_aload_n hx hb dX6_solveByAll_28 rfl (lv_at hl 0 rfl) ?_
      refine gX6_thrown S5 hin hK hP (List.mem_of_getElem? (i := 2) rfl) (v := 1) rfl dX6_solveByAll_29 ?_
      refine lv_if_ne (tgt := 50) hx hb dX6_solveByAll_32 (by decide) (fun c5 => ?_) (fun c5 => absurd c5 (by decide))
      refine lv_iconst (v := 0) hx hb dX6_solveByAll_50 (by decide) ?_
      obtain rfl := Option.some.inj h
      exact kr _ _ _ _ _ rfl rfl hP hS dX6_solveByAll_51
    · rw [if_neg c4] at h
      refine lv_iconst (v := 0) hx hb dX6_solveByAll_20 (by decide) ?_
      refine lv_goto (tgt := 25) hx hb dX6_solveByAll_21 (by decide) ?_
      refine pX6_thrown S5 hin hK hP hD hS (List.mem_of_getElem? (i := 2) rfl) dX6_solveByAll_25 (fun H locs hP hS => ?_)
      refine lv_aload_n hx hb dX6_solveByAll_28 rfl (lv_at hl 0 rfl) ?_
      refine gX6_thrown S5 hin hK hP (List.mem_of_getElem? (i := 2) rfl) (v := 0) rfl dX6_solveByAll_29 ?_
      refine lv_if_ne (tgt := 50) hx hb dX6_solveByAll_32 (by decide) (fun c6 => absurd c6 (by decide)) (fun c6 => ?_)
      refine lv_aload_n hx hb dX6_solveByAll_35 rfl (lv_at hl 0 rfl) ?_
      refine lv_aload_n hx hb dX6_solveByAll_36 rfl (lv_at hl 0 rfl) ?_
      obtain ⟨q7, hqq7, h⟩ := obind_some h
      refine cWiM S5 hK hP hD hS (fun _ h => hA _ _ hS.1 h) 0 rfl rfl (As := []) (kX6_layList l D cA ad _ _ hqq7) (cwV 0 hts gX6_solveByAll_X6_layList rfl rfl rfl (by decide +kernel) ⟨(Nat.le_of_ble_eq_true rfl), (Nat.le_of_ble_eq_true rfl)⟩) rfl hl.1 (st0 := _) (rest := [.ref (ad 0)]) rfl (Nat.le_of_ble_eq_true rfl) dX6_solveByAll_37 ⟨Nat.zero_le _, Nat.zero_le _⟩ (fun H locs hz hP hS => ?_)
      refine lv_aload_n hx hb dX6_solveByAll_40 rfl (lv_at hl 0 rfl) ?_
      refine gX6_trickMany S5 hin hK hP (List.mem_of_getElem? (i := 3) rfl) (v := q7.2 0 9) rfl dX6_solveByAll_41 ?_
      obtain ⟨q8, hqq8, h⟩ := obind_some h
      refine cWiM S5 hK hP hD hS (fun _ h => hA _ _ hS.1 h) 0 rfl rfl (As := [.int q7.1, .int (q7.2 0 9)]) (kX6_solved l D cA ad _ _ _ _ hqq8) (cwV 2 hts gX6_solveByAll_X6_solved rfl rfl rfl (by decide +kernel) ⟨(Nat.le_of_ble_eq_true rfl), (Nat.le_of_ble_eq_true rfl)⟩) rfl hl.1 (st0 := _) (rest := []) rfl (Nat.le_of_ble_eq_true rfl) dX6_solveByAll_44 ⟨Nat.zero_le _, Nat.zero_le _⟩ (fun H locs hz hP hS => ?_)
      refine lv_goto (tgt := 51) hx hb dX6_solveByAll_47 (by decide) ?_
      obtain rfl := Option.some.inj h
      exact kr _ _ _ _ _ rfl rfl hP hS dX6_solveByAll_51

-- X6_valueOf
def fX6_valueOf_L98 : Nat → Int32 → Int32 → Int32 → Int32 → Int32 → Mem → Option (Mem)
  | 0, _, _, _, _, _, _ => none
  | n + 1, v1, v2, v3, v4, v5, M => (if (M 0 9) ≤ v5 then some (M) else (if vin v5 4 = true then (if vin v5 4 = true then fX6_valueOf_L98 n v1 v2 v3 v4 (v5 + 1) ((mset M 8 v5.toNatClampNeg (M 4 v5.toNatClampNeg))) else none) else none))
def fX6_valueOf_L29 : Nat → Int32 → Int32 → Int32 → Int32 → Int32 → Mem → Option (Int32)
  | 0, _, _, _, _, _, _ => none
  | n + 1, v1, v2, v3, v4, v5, M => (if 4 ≤ v5 then some (v3) else (if (fX6_has v3 ((4 * v2) + v5)) = 0 then fX6_valueOf_L29 n v1 v2 (v3 &&& ((-1))) v4 (v5 + 1) M else (if vin ((4 * v2) + v5) 16 = true then (if (M 6 (((4 * v2) + v5).toNatClampNeg)) = v1 then fX6_valueOf_L29 n v1 v2 (v3 &&& ((sl 1 ((4 * v2) + v5)) ^^^ ((-1)))) v4 (v5 + 1) M else fX6_valueOf_L29 n v1 v2 (v3 &&& ((-1))) v4 (v5 + 1) M) else none)))
def fX6_valueOf (p1 : Int32) (M : Mem) : Option (Int32 × Mem) := (obind (fX6_layList M) (fun q1 => (obind (fX6_size (fX6_all q1.2)) (fun q2 => (obind (fX6_valueOf_L29 40 p1 (fX6_player M) q1.1 ((q2 + (q1.2 0 9)) / 4) 0 q1.2) (fun q3 => (obind (fX6_layTable q3 (((q2 + (q1.2 0 9)) / 4) - 1) q1.2) (fun q4 => (obind (fX6_valueOf_L98 40 p1 (fX6_player M) q3 ((q2 + (q1.2 0 9)) / 4) 0 q4) (fun q5 => (if vin (q5 0 9) 4 = true then (obind (fX6_first (q5 0 10) q3 ((mset (mset q5 8 ((q5 0 9).toNatClampNeg) p1) 0 15 ((q5 0 9) + 1)))) (fun q7 => (if (im (fX6_player M) 2) = 0 then some (q7.1, q7.2) else some (((q2 + (q1.2 0 9)) / 4) - q7.1, q7.2)))) else none)))))))))))
def rmX6_valueOf : Room := { frames := 7, cells := 0, slots := 0, locals := 172 }
set_option maxHeartbeats 4000000 in
set_option maxRecDepth 100000 in
theorem kX6_valueOf (l : Launch) (D : va_G) (cA : Nat) (ad : Nat → Nat) (p1 : Int32) (M : Mem) (r : Int32 × Mem) (h : fX6_valueOf p1 M = some r) : WiM l yX6_valueOf wsX6_valueOf rmX6_valueOf D cA ad M [.ref (ad 0), .int p1] r := by
  unfold fX6_valueOf at h
  refine WiM.of RX6 rfl rfl rfl (Nat.le_of_ble_eq_true rfl) ?_
  intro p e s m args below meth c Q ls A eA S5 hK hP hD hS hl kr
  have hA : ∀ (H : Heap) (q : Nat), s.heap.size ≤ H.size → AX ad H.size q → A q := fun H q hz h => by rw [eA]; exact AX.mono hz h
  obtain ⟨hx, hb, -, -, hts⟩ := id S5
  have hin : ∀ w ∈ wsX60, w ∈ wsX6_valueOf := fun _ h => List.mem_cons_of_mem _ (List.mem_append_right _ (h))
  have L98 : ∀ (n : Nat) (v1 : Int32) (v2 : Int32) (v3 : Int32) (v4 : Int32) (v5 : Int32) (M : Mem) (r' : Mem) (H : Heap) (locs : List Loc) (ls : Array Slot), fX6_valueOf_L98 n v1 v2 v3 v4 v5 M = some r' → va_P D vwCl (wM cA ad M) H → va_S A s.heap H locs → lv_has ls 6 [(0, .ref (ad 0)), (1, .int v1), (2, .int v2), (3, .int v3), (4, .int v4), (5, .int v5)] → (∀ (H : Heap) (locs : List Loc), va_P D vwCl (wM cA ad (r')) H → va_S A s.heap H locs → ∀ (ls : Array Slot), lv_has ls 6 [(0, .ref (ad 0)), (1, .int v1), (2, .int v2), (3, .int v3), (4, .int v4)] → W p l e rmX6_valueOf s m args below meth c H locs 0 0 Q (F0 m 127 ls [])) → W p l e rmX6_valueOf s m args below meth c H locs 0 0 Q (F0 m 98 ls []) := by
    intro n
    induction n with
    | zero => intro v1 v2 v3 v4 v5 M r' H locs ls h hP hS hl kk; rw [fX6_valueOf_L98.eq_1] at h; cases h
    | succ n ih =>
      intro v1 v2 v3 v4 v5 M r' H locs ls h hP hS hl kk
      rw [fX6_valueOf_L98.eq_2] at h
      refine lv_iload hx hb dX6_valueOf_98 (lv_at hl 5 rfl) ?_
      refine lv_aload_n hx hb dX6_valueOf_100 rfl (lv_at hl 0 rfl) ?_
      refine gX6_trickMany S5 hin hK hP (List.mem_of_getElem? (i := 1) rfl) (v := M 0 9) rfl dX6_valueOf_101 ?_
      refine lv_icmp_ge (tgt := 127) hx hb dX6_valueOf_104 (by decide) (fun c13 => ?_) (fun c13 => ?_)
      · rw [if_pos c13] at h
        obtain rfl := Option.some.inj h
        exact kk _ _ hP hS _ (lv_sub hl [0, 1, 2, 3, 4] rfl)
      · rw [if_neg c13] at h
        refine lv_aload_n hx hb dX6_valueOf_107 rfl (lv_at hl 0 rfl) ?_
        refine gX6_thought S5 hin hK hP (List.mem_of_getElem? (i := 3) rfl) dX6_valueOf_108 ?_
        refine lv_iload hx hb dX6_valueOf_111 (lv_at hl 5 rfl) ?_
        refine lv_aload_n hx hb dX6_valueOf_113 rfl (lv_at hl 0 rfl) ?_
        refine gX6_trick S5 hin hK hP (List.mem_of_getElem? (i := 4) rfl) dX6_valueOf_114 ?_
        refine lv_iload hx hb dX6_valueOf_117 (lv_at hl 5 rfl) ?_
        obtain ⟨g14, h⟩ := gd_some h
        refine alM4 S5 hK hP (v := M 4 v5.toNatClampNeg) g14 rfl dX6_valueOf_119 ?_
        obtain ⟨g15, h⟩ := gd_some h
        refine asM8 S5 hK hP hD hS g15 (k := v5.toNatClampNeg) rfl dX6_valueOf_120 (fun H locs hP hS => ?_)
        refine lv_iinc (v := v5 + 1) (lv' := [(5, .int (v5 + 1)), (0, .ref (ad 0)), (1, .int v1), (2, .int v2), (3, .int v3), (4, .int v4)]) hx hb dX6_valueOf_121 hl (k := 5) rfl rfl (by decide) rfl (fun ls hl => ?_)
        refine lv_goto (tgt := 98) hx hb dX6_valueOf_124 (by decide) ?_
        exact ih _ _ _ _ _ _ _ _ _ _ h hP hS (lv_sub hl [1, 2, 3, 4, 5, 0] rfl) kk
  have L29 : ∀ (n : Nat) (v1 : Int32) (v2 : Int32) (v3 : Int32) (v4 : Int32) (v5 : Int32) (M : Mem) (r' : Int32) (H : Heap) (locs : List Loc) (ls : Array Slot), fX6_valueOf_L29 n v1 v2 v3 v4 v5 M = some r' → va_P D vwCl (wM cA ad M) H → va_S A s.heap H locs → lv_has ls 6 [(0, .ref (ad 0)), (1, .int v1), (2, .int v2), (3, .int v3), (4, .int v4), (5, .int v5)] → (∀ (H : Heap) (locs : List Loc), va_P D vwCl (wM cA ad M) H → va_S A s.heap H locs → ∀ (ls : Array Slot), lv_has ls 6 [(0, .ref (ad 0)), (1, .int v1), (2, .int v2), (3, .int (r')), (4, .int v4)] → W p l e rmX6_valueOf s m args below meth c H locs 0 0 Q (F0 m 86 ls [])) → W p l e rmX6_valueOf s m args below meth c H locs 0 0 Q (F0 m 29 ls []) := by
    intro n
    induction n with
    | zero => intro v1 v2 v3 v4 v5 M r' H locs ls h hP hS hl kk; rw [fX6_valueOf_L29.eq_1] at h; cases h
    | succ n ih =>
      intro v1 v2 v3 v4 v5 M r' H locs ls h hP hS hl kk
      rw [fX6_valueOf_L29.eq_2] at h
      refine lv_iload hx hb dX6_valueOf_29 (lv_at hl 5 rfl) ?_
      refine lv_iconst (v := 4) hx hb dX6_valueOf_31 (by decide) ?_
      refine lv_icmp_ge (tgt := 86) hx hb dX6_valueOf_32 (by decide) (fun c9 => ?_) (fun c9 => ?_)
      · rw [if_pos c9] at h
        obtain rfl := Option.some.inj h
        exact kk _ _ hP hS _ (lv_sub hl [0, 1, 2, 3, 4] rfl)
      · rw [if_neg c9] at h
        refine lv_iload_n hx hb dX6_valueOf_35 rfl (lv_at hl 3 rfl) ?_
        refine lv_iload_n hx hb dX6_valueOf_36 rfl (lv_at hl 3 rfl) ?_
        refine lv_iconst (v := 4) hx hb dX6_valueOf_37 (by decide) ?_
        refine lv_iload_n hx hb dX6_valueOf_38 rfl (lv_at hl 2 rfl) ?_
        refine lv_imul hx hb dX6_valueOf_39 ?_
        refine lv_iload hx hb dX6_valueOf_40 (lv_at hl 5 rfl) ?_
        refine lv_iadd hx hb dX6_valueOf_42 ?_
        refine cS S5 (As := [.int v3, .int ((4 * v2) + v5)]) (kX6_has l _ _) (va_cwS 2 hts gX6_valueOf_X6_has rfl rfl rfl (by decide +kernel) ⟨(Nat.le_of_ble_eq_true rfl), (Nat.le_of_ble_eq_true rfl)⟩) rfl hl.1 (st0 := _) (rest := [.int v3]) rfl (Nat.le_of_ble_eq_true rfl) dX6_valueOf_43 ⟨Nat.zero_le _, Nat.zero_le _⟩ ?_
        refine lv_if_eq (tgt := 77) hx hb dX6_valueOf_46 (by decide) (fun c10 => ?_) (fun c10 => ?_)
        · rw [if_pos c10] at h
          refine lv_iconst (v := (-1)) hx hb dX6_valueOf_77 (by decide) ?_
          refine lv_iand hx hb dX6_valueOf_78 ?_
          refine lv_istore_n (lv' := [(3, .int (v3 &&& ((-1)))), (0, .ref (ad 0)), (1, .int v1), (2, .int v2), (4, .int v4), (5, .int v5)]) hx hb dX6_valueOf_79 rfl hl (by decide) rfl (fun ls hl => ?_)
          refine lv_iinc (v := v5 + 1) (lv' := [(5, .int (v5 + 1)), (3, .int (v3 &&& ((-1)))), (0, .ref (ad 0)), (1, .int v1), (2, .int v2), (4, .int v4)]) hx hb dX6_valueOf_80 hl (k := 5) rfl rfl (by decide) rfl (fun ls hl => ?_)
          refine lv_goto (tgt := 29) hx hb dX6_valueOf_83 (by decide) ?_
          exact ih _ _ _ _ _ _ _ _ _ _ h hP hS (lv_sub hl [2, 3, 4, 1, 5, 0] rfl) kk
        · rw [if_neg c10] at h
          refine lv_aload_n hx hb dX6_valueOf_49 rfl (lv_at hl 0 rfl) ?_
          refine gX6_list S5 hin hK hP (List.mem_of_getElem? (i := 2) rfl) dX6_valueOf_50 ?_
          refine lv_iconst (v := 4) hx hb dX6_valueOf_53 (by decide) ?_
          refine lv_iload_n hx hb dX6_valueOf_54 rfl (lv_at hl 2 rfl) ?_
          refine lv_imul hx hb dX6_valueOf_55 ?_
          refine lv_iload hx hb dX6_valueOf_56 (lv_at hl 5 rfl) ?_
          refine lv_iadd hx hb dX6_valueOf_58 ?_
          obtain ⟨g11, h⟩ := gd_some h
          refine alM6 S5 hK hP (v := M 6 (((4 * v2) + v5).toNatClampNeg)) g11 rfl dX6_valueOf_59 ?_
          refine lv_iload_n hx hb dX6_valueOf_60 rfl (lv_at hl 1 rfl) ?_
          refine lv_icmp_ne (tgt := 77) hx hb dX6_valueOf_61 (by decide) (fun c12 => ?_) (fun c12 => ?_)
          · rw [if_neg c12] at h
            refine lv_iconst (v := (-1)) hx hb dX6_valueOf_77 (by decide) ?_
            refine lv_iand hx hb dX6_valueOf_78 ?_
            refine lv_istore_n (lv' := [(3, .int (v3 &&& ((-1)))), (0, .ref (ad 0)), (1, .int v1), (2, .int v2), (4, .int v4), (5, .int v5)]) hx hb dX6_valueOf_79 rfl hl (by decide) rfl (fun ls hl => ?_)
            refine lv_iinc (v := v5 + 1) (lv' := [(5, .int (v5 + 1)), (3, .int (v3 &&& ((-1)))), (0, .ref (ad 0)), (1, .int v1), (2, .int v2), (4, .int v4)]) hx hb dX6_valueOf_80 hl (k := 5) rfl rfl (by decide) rfl (fun ls hl => ?_)
            refine lv_goto (tgt := 29) hx hb dX6_valueOf_83 (by decide) ?_
            exact ih _ _ _ _ _ _ _ _ _ _ h hP hS (lv_sub hl [2, 3, 4, 1, 5, 0] rfl) kk
          · rw [if_pos c12] at h
            refine lv_iconst (v := 1) hx hb dX6_valueOf_64 (by decide) ?_
            refine lv_iconst (v := 4) hx hb dX6_valueOf_65 (by decide) ?_
            refine lv_iload_n hx hb dX6_valueOf_66 rfl (lv_at hl 2 rfl) ?_
            refine lv_imul hx hb dX6_valueOf_67 ?_
            refine lv_iload hx hb dX6_valueOf_68 (lv_at hl 5 rfl) ?_
            refine lv_iadd hx hb dX6_valueOf_70 ?_
            refine r_ishl S5 dX6_valueOf_71 ?_
            refine lv_iconst (v := (-1)) hx hb dX6_valueOf_72 (by decide) ?_
            refine lv_ixor hx hb dX6_valueOf_73 ?_
            refine lv_goto (tgt := 78) hx hb dX6_valueOf_74 (by decide) ?_
            refine lv_iand hx hb dX6_valueOf_78 ?_
            refine lv_istore_n (lv' := [(3, .int (v3 &&& ((sl 1 ((4 * v2) + v5)) ^^^ ((-1))))), (0, .ref (ad 0)), (1, .int v1), (2, .int v2), (4, .int v4), (5, .int v5)]) hx hb dX6_valueOf_79 rfl hl (by decide) rfl (fun ls hl => ?_)
            refine lv_iinc (v := v5 + 1) (lv' := [(5, .int (v5 + 1)), (3, .int (v3 &&& ((sl 1 ((4 * v2) + v5)) ^^^ ((-1))))), (0, .ref (ad 0)), (1, .int v1), (2, .int v2), (4, .int v4)]) hx hb dX6_valueOf_80 hl (k := 5) rfl rfl (by decide) rfl (fun ls hl => ?_)
            refine lv_goto (tgt := 29) hx hb dX6_valueOf_83 (by decide) ?_
            exact ih _ _ _ _ _ _ _ _ _ _ h hP hS (lv_sub hl [2, 3, 4, 1, 5, 0] rfl) kk
  refine lv_aload_n hx hb dX6_valueOf_0 rfl (lv_at hl 0 rfl) ?_
  refine cVM S5 hK hP 0 rfl rfl (As := []) (kX6_player l D cA ad _) (cwV 0 hts gX6_valueOf_X6_player rfl rfl rfl (by decide +kernel) ⟨(Nat.le_of_ble_eq_true rfl), (Nat.le_of_ble_eq_true rfl)⟩) rfl hl.1 (st0 := _) (rest := []) rfl (Nat.le_of_ble_eq_true rfl) dX6_valueOf_1 ⟨Nat.zero_le _, Nat.zero_le _⟩ ?_
  refine lv_istore_n (lv' := [(2, .int (fX6_player M)), (0, .ref (ad 0)), (1, .int p1)]) hx hb dX6_valueOf_4 rfl hl (by decide) rfl (fun ls hl => ?_)
  refine lv_aload_n hx hb dX6_valueOf_5 rfl (lv_at hl 1 rfl) ?_
  obtain ⟨q1, hqq1, h⟩ := obind_some h
  refine cWiM S5 hK hP hD hS (fun _ h => hA _ _ hS.1 h) 0 rfl rfl (As := []) (kX6_layList l D cA ad _ _ hqq1) (cwV 0 hts gX6_valueOf_X6_layList rfl rfl rfl (by decide +kernel) ⟨(Nat.le_of_ble_eq_true rfl), (Nat.le_of_ble_eq_true rfl)⟩) rfl hl.1 (st0 := _) (rest := []) rfl (Nat.le_of_ble_eq_true rfl) dX6_valueOf_6 ⟨Nat.zero_le _, Nat.zero_le _⟩ (fun H locs hz hP hS => ?_)
  refine lv_istore_n (lv' := [(3, .int q1.1), (2, .int (fX6_player M)), (0, .ref (ad 0)), (1, .int p1)]) hx hb dX6_valueOf_9 rfl hl (by decide) rfl (fun ls hl => ?_)
  refine lv_aload_n hx hb dX6_valueOf_10 rfl (lv_at hl 2 rfl) ?_
  refine cVM S5 hK hP 0 rfl rfl (As := []) (kX6_all l D cA ad _) (cwV 0 hts gX6_valueOf_X6_all rfl rfl rfl (by decide +kernel) ⟨(Nat.le_of_ble_eq_true rfl), (Nat.le_of_ble_eq_true rfl)⟩) rfl hl.1 (st0 := _) (rest := []) rfl (Nat.le_of_ble_eq_true rfl) dX6_valueOf_11 ⟨Nat.zero_le _, Nat.zero_le _⟩ ?_
  obtain ⟨q2, hqq2, h⟩ := obind_some h
  refine cS S5 (As := [.int (fX6_all q1.2)]) (kX6_size l _ _ hqq2) (va_cwS 1 hts gX6_valueOf_X6_size rfl rfl rfl (by decide +kernel) ⟨(Nat.le_of_ble_eq_true rfl), (Nat.le_of_ble_eq_true rfl)⟩) rfl hl.1 (st0 := _) (rest := []) rfl (Nat.le_of_ble_eq_true rfl) dX6_valueOf_14 ⟨Nat.zero_le _, Nat.zero_le _⟩ ?_
  refine lv_aload_n hx hb dX6_valueOf_17 rfl (lv_at hl 2 rfl) ?_
  refine gX6_trickMany S5 hin hK hP (List.mem_of_getElem? (i := 1) rfl) (v := q1.2 0 9) rfl dX6_valueOf_18 ?_
  refine lv_iadd hx hb dX6_valueOf_21 ?_
  refine lv_iconst (v := 4) hx hb dX6_valueOf_22 (by decide) ?_
  refine r_idiv S5 dX6_valueOf_23 (by decide) ?_
  refine lv_istore (lv' := [(4, .int ((q2 + (q1.2 0 9)) / 4)), (3, .int q1.1), (2, .int (fX6_player M)), (0, .ref (ad 0)), (1, .int p1)]) hx hb dX6_valueOf_24 hl (by decide) rfl (fun ls hl => ?_)
  refine lv_iconst (v := 0) hx hb dX6_valueOf_26 (by decide) ?_
  refine lv_istore (lv' := [(5, .int 0), (4, .int ((q2 + (q1.2 0 9)) / 4)), (3, .int q1.1), (2, .int (fX6_player M)), (0, .ref (ad 0)), (1, .int p1)]) hx hb dX6_valueOf_27 hl (by decide) rfl (fun ls hl => ?_)
  obtain ⟨q3, hqq3, h⟩ := obind_some h
  refine L29 _ _ _ _ _ _ _ _ _ _ _ hqq3 hP hS (lv_sub hl [4, 5, 3, 2, 1, 0] rfl) (fun H locs hP hS ls hl => ?_)
  have hl := lv_sub (l' := [(0, .ref (ad 0)), (1, .int p1), (2, .int (fX6_player M)), (3, .int q3), (4, .int ((q2 + (q1.2 0 9)) / 4))]) hl [0, 1, 2, 3, 4] rfl
  refine lv_aload_n hx hb dX6_valueOf_86 rfl (lv_at hl 0 rfl) ?_
  refine lv_iload_n hx hb dX6_valueOf_87 rfl (lv_at hl 3 rfl) ?_
  refine lv_iload hx hb dX6_valueOf_88 (lv_at hl 4 rfl) ?_
  refine lv_iconst (v := 1) hx hb dX6_valueOf_90 (by decide) ?_
  refine lv_isub hx hb dX6_valueOf_91 ?_
  obtain ⟨q4, hqq4, h⟩ := obind_some h
  refine cWvM S5 hK hP hD hS (fun _ h => hA _ _ hS.1 h) 0 rfl rfl (As := [.int q3, .int (((q2 + (q1.2 0 9)) / 4) - 1)]) (kX6_layTable l D cA ad _ _ _ _ hqq4) (cwV 2 hts gX6_valueOf_X6_layTable rfl rfl rfl (by decide +kernel) ⟨(Nat.le_of_ble_eq_true rfl), (Nat.le_of_ble_eq_true rfl)⟩) rfl hl.1 (st0 := _) (rest := []) rfl (Nat.le_of_ble_eq_true rfl) dX6_valueOf_92 ⟨Nat.zero_le _, Nat.zero_le _⟩ (fun H locs hz hP hS => ?_)
  refine lv_iconst (v := 0) hx hb dX6_valueOf_95 (by decide) ?_
  refine lv_istore (lv' := [(5, .int 0), (0, .ref (ad 0)), (1, .int p1), (2, .int (fX6_player M)), (3, .int q3), (4, .int ((q2 + (q1.2 0 9)) / 4))]) hx hb dX6_valueOf_96 hl (by decide) rfl (fun ls hl => ?_)
  obtain ⟨q5, hqq5, h⟩ := obind_some h
  refine L98 _ _ _ _ _ _ _ _ _ _ _ hqq5 hP hS (lv_sub hl [1, 2, 3, 4, 5, 0] rfl) (fun H locs hP hS ls hl => ?_)
  have hl := lv_sub (l' := [(0, .ref (ad 0)), (1, .int p1), (2, .int (fX6_player M)), (3, .int q3), (4, .int ((q2 + (q1.2 0 9)) / 4))]) hl [0, 1, 2, 3, 4] rfl
  refine lv_aload_n hx hb dX6_valueOf_127 rfl (lv_at hl 0 rfl) ?_
  refine gX6_thought S5 hin hK hP (List.mem_of_getElem? (i := 3) rfl) dX6_valueOf_128 ?_
  refine lv_aload_n hx hb dX6_valueOf_131 rfl (lv_at hl 0 rfl) ?_
  refine gX6_trickMany S5 hin hK hP (List.mem_of_getElem? (i := 1) rfl) (v := q5 0 9) rfl dX6_valueOf_132 ?_
  refine lv_iload_n hx hb dX6_valueOf_135 rfl (lv_at hl 1 rfl) ?_
  obtain ⟨g6, h⟩ := gd_some h
  refine asM8 S5 hK hP hD hS g6 (k := (q5 0 9).toNatClampNeg) rfl dX6_valueOf_136 (fun H locs hP hS => ?_)
  refine lv_aload_n hx hb dX6_valueOf_137 rfl (lv_at hl 0 rfl) ?_
  refine lv_aload_n hx hb dX6_valueOf_138 rfl (lv_at hl 0 rfl) ?_
  refine gX6_trickMany S5 hin hK hP (List.mem_of_getElem? (i := 1) rfl) (v := q5 0 9) rfl dX6_valueOf_139 ?_
  refine lv_iconst (v := 1) hx hb dX6_valueOf_142 (by decide) ?_
  refine lv_iadd hx hb dX6_valueOf_143 ?_
  refine pX6_fixedMany S5 hin hK hP hD hS (List.mem_of_getElem? (i := 5) rfl) dX6_valueOf_144 (fun H locs hP hS => ?_)
  refine lv_aload_n hx hb dX6_valueOf_147 rfl (lv_at hl 0 rfl) ?_
  refine lv_aload_n hx hb dX6_valueOf_148 rfl (lv_at hl 0 rfl) ?_
  refine gX6_leader S5 hin hK hP (List.mem_of_getElem? (i := 6) rfl) (v := q5 0 10) rfl dX6_valueOf_149 ?_
  refine lv_iload_n hx hb dX6_valueOf_152 rfl (lv_at hl 3 rfl) ?_
  obtain ⟨q7, hqq7, h⟩ := obind_some h
  refine cWiM S5 hK hP hD hS (fun _ h => hA _ _ hS.1 h) 0 rfl rfl (As := [.int (q5 0 10), .int q3]) (kX6_first l D cA ad _ _ _ _ hqq7) (cwV 2 hts gX6_valueOf_X6_first rfl rfl rfl (by decide +kernel) ⟨(Nat.le_of_ble_eq_true rfl), (Nat.le_of_ble_eq_true rfl)⟩) rfl hl.1 (st0 := _) (rest := []) rfl (Nat.le_of_ble_eq_true rfl) dX6_valueOf_153 ⟨Nat.zero_le _, Nat.zero_le _⟩ (fun H locs hz hP hS => ?_)
  refine lv_istore (lv' := [(5, .int q7.1), (0, .ref (ad 0)), (1, .int p1), (2, .int (fX6_player M)), (3, .int q3), (4, .int ((q2 + (q1.2 0 9)) / 4))]) hx hb dX6_valueOf_156 hl (by decide) rfl (fun ls hl => ?_)
  refine lv_iload_n hx hb dX6_valueOf_158 rfl (lv_at hl 3 rfl) ?_
  refine lv_iconst (v := 2) hx hb dX6_valueOf_159 (by decide) ?_
  refine r_irem S5 dX6_valueOf_160 (by decide) ?_
  refine lv_if_ne (tgt := 169) hx hb dX6_valueOf_161 (by decide) (fun c8 => ?_) (fun c8 => ?_)
  · rw [if_neg c8] at h
    refine lv_iload hx hb dX6_valueOf_169 (lv_at hl 5 rfl) ?_
    refine lv_iload hx hb dX6_valueOf_171 (lv_at hl 0 rfl) ?_
    refine lv_isub hx hb dX6_valueOf_173 ?_
    obtain rfl := Option.some.inj h
    exact kr _ _ _ _ _ rfl rfl hP hS dX6_valueOf_174
  · rw [if_pos c8] at h
    refine lv_iload hx hb dX6_valueOf_164 (lv_at hl 0 rfl) ?_
    refine lv_goto (tgt := 174) hx hb dX6_valueOf_166 (by decide) ?_
    obtain rfl := Option.some.inj h
    exact kr _ _ _ _ _ rfl rfl hP hS dX6_valueOf_174

-- X6_value
def fX6_value (p1 : Int32) (M : Mem) : Option (Int32 × Mem) := (if (fX6_in p1 0 23) = 0 then some (0, (mset M 0 6 1)) else (obind (fX6_fits p1 M) (fun q2 => (if q2 = 0 then some (0, (mset M 0 6 2)) else (obind (fX6_valueOf p1 ((mset M 0 6 0))) (fun q5 => some (q5.1, q5.2)))))))
def rmX6_value : Room := { frames := 8, cells := 0, slots := 0, locals := 197 }
set_option maxHeartbeats 4000000 in
set_option maxRecDepth 100000 in
theorem kX6_value (l : Launch) (D : va_G) (cA : Nat) (ad : Nat → Nat) (p1 : Int32) (M : Mem) (r : Int32 × Mem) (h : fX6_value p1 M = some r) : WiM l yX6_value wsX6_value rmX6_value D cA ad M [.ref (ad 0), .int p1] r := by
  unfold fX6_value at h
  refine WiM.of RX6 rfl rfl rfl (Nat.le_of_ble_eq_true rfl) ?_
  intro p e s m args below meth c Q ls A eA S5 hK hP hD hS hl kr
  have hA : ∀ (H : Heap) (q : Nat), s.heap.size ≤ H.size → AX ad H.size q → A q := fun H q hz h => by rw [eA]; exact AX.mono hz h
  obtain ⟨hx, hb, -, -, hts⟩ := id S5
  have hin : ∀ w ∈ wsX60, w ∈ wsX6_value := fun _ h => List.mem_cons_of_mem _ (List.mem_append_right _ (h))
  refine lv_aload_n hx hb dX6_value_0 rfl (lv_at hl 0 rfl) ?_
  refine lv_iload_n hx hb dX6_value_1 rfl (lv_at hl 1 rfl) ?_
  refine lv_iconst (v := 0) hx hb dX6_value_2 (by decide) ?_
  refine lv_bipush (v := 23) hx hb dX6_value_3 (by decide) ?_
  refine cS S5 (As := [.int p1, .int 0, .int 23]) (kX6_in l _ _ _) (va_cwS 3 hts gX6_value_X6_in rfl rfl rfl (by decide +kernel) ⟨(Nat.le_of_ble_eq_true rfl), (Nat.le_of_ble_eq_true rfl)⟩) rfl hl.1 (st0 := _) (rest := [.ref (ad 0)]) rfl (Nat.le_of_ble_eq_true rfl) dX6_value_5 ⟨Nat.zero_le _, Nat.zero_le _⟩ ?_
  refine lv_if_ne (tgt := 15) hx hb dX6_value_8 (by decide) (fun c1 => ?_) (fun c1 => ?_)
  · rw [if_neg c1] at h
    refine lv_aload_n hx hb dX6_value_15 rfl (lv_at hl 0 rfl) ?_
    refine lv_iload_n hx hb dX6_value_16 rfl (lv_at hl 1 rfl) ?_
    obtain ⟨q2, hqq2, h⟩ := obind_some h
    refine cVM S5 hK hP 0 rfl rfl (As := [.int p1]) (kX6_fits l D cA ad _ _ _ hqq2) (cwV 1 hts gX6_value_X6_fits rfl rfl rfl (by decide +kernel) ⟨(Nat.le_of_ble_eq_true rfl), (Nat.le_of_ble_eq_true rfl)⟩) rfl hl.1 (st0 := _) (rest := [.ref (ad 0)]) rfl (Nat.le_of_ble_eq_true rfl) dX6_value_17 ⟨Nat.zero_le _, Nat.zero_le _⟩ ?_
    refine lv_if_ne (tgt := 27) hx hb dX6_value_20 (by decide) (fun c3 => ?_) (fun c3 => ?_)
    · rw [if_neg c3] at h
      refine lv_iconst (v := 0) hx hb dX6_value_27 (by decide) ?_
      refine pX6_thrown S5 hin hK hP hD hS (List.mem_of_getElem? (i := 1) rfl) dX6_value_28 (fun H locs hP hS => ?_)
      refine lv_aload_n hx hb dX6_value_31 rfl (lv_at hl 0 rfl) ?_
      refine gX6_thrown S5 hin hK hP (List.mem_of_getElem? (i := 1) rfl) (v := 0) rfl dX6_value_32 ?_
      refine lv_if_ne (tgt := 46) hx hb dX6_value_35 (by decide) (fun c4 => absurd c4 (by decide)) (fun c4 => ?_)
      refine lv_aload_n hx hb dX6_value_38 rfl (lv_at hl 0 rfl) ?_
      refine lv_iload_n hx hb dX6_value_39 rfl (lv_at hl 1 rfl) ?_
      obtain ⟨q5, hqq5, h⟩ := obind_some h
      refine cWiM S5 hK hP hD hS (fun _ h => hA _ _ hS.1 h) 0 rfl rfl (As := [.int p1]) (kX6_valueOf l D cA ad _ _ _ hqq5) (cwV 1 hts gX6_value_X6_valueOf rfl rfl rfl (by decide +kernel) ⟨(Nat.le_of_ble_eq_true rfl), (Nat.le_of_ble_eq_true rfl)⟩) rfl hl.1 (st0 := _) (rest := []) rfl (Nat.le_of_ble_eq_true rfl) dX6_value_40 ⟨Nat.zero_le _, Nat.zero_le _⟩ (fun H locs hz hP hS => ?_)
      refine lv_goto (tgt := 47) hx hb dX6_value_43 (by decide) ?_
      obtain rfl := Option.some.inj h
      exact kr _ _ _ _ _ rfl rfl hP hS dX6_value_47
    · rw [if_pos c3] at h
      refine lv_iconst (v := 2) hx hb dX6_value_23 (by decide) ?_
      refine lv_goto (tgt := 28) hx hb dX6_value_24 (by decide) ?_
      refine pX6_thrown S5 hin hK hP hD hS (List.mem_of_getElem? (i := 1) rfl) dX6_value_28 (fun H locs hP hS => ?_)
      refine lv_aload_n hx hb dX6_value_31 rfl (lv_at hl 0 rfl) ?_
      refine gX6_thrown S5 hin hK hP (List.mem_of_getElem? (i := 1) rfl) (v := 2) rfl dX6_value_32 ?_
      refine lv_if_ne (tgt := 46) hx hb dX6_value_35 (by decide) (fun c6 => ?_) (fun c6 => absurd c6 (by decide))
      refine lv_iconst (v := 0) hx hb dX6_value_46 (by decide) ?_
      obtain rfl := Option.some.inj h
      exact kr _ _ _ _ _ rfl rfl hP hS dX6_value_47
  · rw [if_pos c1] at h
    refine lv_iconst (v := 1) hx hb dX6_value_11 (by decide) ?_
    refine lv_goto (tgt := 28) hx hb dX6_value_12 (by decide) ?_
    refine pX6_thrown S5 hin hK hP hD hS (List.mem_of_getElem? (i := 1) rfl) dX6_value_28 (fun H locs hP hS => ?_)
    refine lv_aload_n hx hb dX6_value_31 rfl (lv_at hl 0 rfl) ?_
    refine gX6_thrown S5 hin hK hP (List.mem_of_getElem? (i := 1) rfl) (v := 1) rfl dX6_value_32 ?_
    refine lv_if_ne (tgt := 46) hx hb dX6_value_35 (by decide) (fun c7 => ?_) (fun c7 => absurd c7 (by decide))
    refine lv_iconst (v := 0) hx hb dX6_value_46 (by decide) ?_
    obtain rfl := Option.some.inj h
    exact kr _ _ _ _ _ rfl rfl hP hS dX6_value_47

-- X6_bestCard
def fX6_bestCard_L23 : Nat → Int32 → Int32 → Int32 → Mem → Option (Int32 × Mem)
  | 0, _, _, _, _ => none
  | n + 1, v1, v2, v3, M => (if 24 ≤ v3 then some (v1, M) else (if (M 0 6) = 0 then (obind (fX6_fits v3 M) (fun q8 => (if q8 = 0 then (if ((-1)) ≤ v2 then (if ((-1)) ≤ v2 then fX6_bestCard_L23 n v1 v2 (v3 + 1) M else fX6_bestCard_L23 n v1 ((-1)) (v3 + 1) M) else (if ((-1)) ≤ v2 then fX6_bestCard_L23 n v3 v2 (v3 + 1) M else fX6_bestCard_L23 n v3 ((-1)) (v3 + 1) M)) else (obind (fX6_valueOf v3 M) (fun q13 => (if q13.1 ≤ v2 then (if q13.1 ≤ v2 then fX6_bestCard_L23 n v1 v2 (v3 + 1) q13.2 else fX6_bestCard_L23 n v1 q13.1 (v3 + 1) q13.2) else (if q13.1 ≤ v2 then fX6_bestCard_L23 n v3 v2 (v3 + 1) q13.2 else fX6_bestCard_L23 n v3 q13.1 (v3 + 1) q13.2))))))) else some (v1, M)))
def fX6_bestCard (M : Mem) : Option (Int32 × Mem) := (if (fX6_player M) = ((-1)) then (obind (fX6_bestCard_L23 40 ((-1)) ((-1)) 0 ((mset M 0 6 1))) (fun q4 => (if (q4.2 0 6) = 0 then some (q4.1, q4.2) else some (0, q4.2)))) else (obind (fX6_bestCard_L23 40 ((-1)) ((-1)) 0 ((mset M 0 6 0))) (fun q2 => (if (q2.2 0 6) = 0 then some (q2.1, q2.2) else some (0, q2.2)))))
def rmX6_bestCard : Room := { frames := 8, cells := 0, slots := 0, locals := 197 }
set_option maxHeartbeats 4000000 in
set_option maxRecDepth 100000 in
theorem kX6_bestCard (l : Launch) (D : va_G) (cA : Nat) (ad : Nat → Nat) (M : Mem) (r : Int32 × Mem) (h : fX6_bestCard M = some r) : WiM l yX6_bestCard wsX6_bestCard rmX6_bestCard D cA ad M [.ref (ad 0)] r := by
  unfold fX6_bestCard at h
  refine WiM.of RX6 rfl rfl rfl (Nat.le_of_ble_eq_true rfl) ?_
  intro p e s m args below meth c Q ls A eA S5 hK hP hD hS hl kr
  have hA : ∀ (H : Heap) (q : Nat), s.heap.size ≤ H.size → AX ad H.size q → A q := fun H q hz h => by rw [eA]; exact AX.mono hz h
  obtain ⟨hx, hb, -, -, hts⟩ := id S5
  have hin : ∀ w ∈ wsX60, w ∈ wsX6_bestCard := fun _ h => List.mem_cons_of_mem _ (List.mem_append_right _ (h))
  have L23 : ∀ (n : Nat) (v1 : Int32) (v2 : Int32) (v3 : Int32) (M : Mem) (r' : Int32 × Mem) (H : Heap) (locs : List Loc) (ls : Array Slot), fX6_bestCard_L23 n v1 v2 v3 M = some r' → va_P D vwCl (wM cA ad M) H → va_S A s.heap H locs → lv_has ls 5 [(0, .ref (ad 0)), (1, .int v1), (2, .int v2), (3, .int v3)] → (∀ (H : Heap) (locs : List Loc), va_P D vwCl (wM cA ad (r'.2)) H → va_S A s.heap H locs → ∀ (ls : Array Slot), lv_has ls 5 [(0, .ref (ad 0)), (1, .int (r'.1))] → W p l e rmX6_bestCard s m args below meth c H locs 0 0 Q (F0 m 86 ls [])) → W p l e rmX6_bestCard s m args below meth c H locs 0 0 Q (F0 m 23 ls []) := by
    intro n
    induction n with
    | zero => intro v1 v2 v3 M r' H locs ls h hP hS hl kk; rw [fX6_bestCard_L23.eq_1] at h; cases h
    | succ n ih =>
      intro v1 v2 v3 M r' H locs ls h hP hS hl kk
      rw [fX6_bestCard_L23.eq_2] at h
      refine lv_iload_n hx hb dX6_bestCard_23 rfl (lv_at hl 3 rfl) ?_
      refine lv_bipush (v := 24) hx hb dX6_bestCard_24 (by decide) ?_
      refine lv_icmp_ge (tgt := 86) hx hb dX6_bestCard_26 (by decide) (fun c6 => ?_) (fun c6 => ?_)
      · rw [if_pos c6] at h
        obtain rfl := Option.some.inj h
        exact kk _ _ hP hS _ (lv_sub hl [0, 1] rfl)
      · rw [if_neg c6] at h
        refine lv_aload_n hx hb dX6_bestCard_29 rfl (lv_at hl 0 rfl) ?_
        refine gX6_thrown S5 hin hK hP (List.mem_of_getElem? (i := 1) rfl) (v := M 0 6) rfl dX6_bestCard_30 ?_
        refine lv_if_ne (tgt := 86) hx hb dX6_bestCard_33 (by decide) (fun c7 => ?_) (fun c7 => ?_)
        · rw [if_neg c7] at h
          obtain rfl := Option.some.inj h
          exact kk _ _ hP hS _ (lv_sub hl [0, 1] rfl)
        · rw [if_pos c7] at h
          refine lv_aload_n hx hb dX6_bestCard_36 rfl (lv_at hl 0 rfl) ?_
          refine lv_iload_n hx hb dX6_bestCard_37 rfl (lv_at hl 3 rfl) ?_
          obtain ⟨q8, hqq8, h⟩ := obind_some h
          refine cVM S5 hK hP 0 rfl rfl (As := [.int v3]) (kX6_fits l D cA ad _ _ _ hqq8) (cwV 1 hts gX6_bestCard_X6_fits rfl rfl rfl (by decide +kernel) ⟨(Nat.le_of_ble_eq_true rfl), (Nat.le_of_ble_eq_true rfl)⟩) rfl hl.1 (st0 := _) (rest := []) rfl (Nat.le_of_ble_eq_true rfl) dX6_bestCard_38 ⟨Nat.zero_le _, Nat.zero_le _⟩ ?_
          refine lv_if_eq (tgt := 52) hx hb dX6_bestCard_41 (by decide) (fun c9 => ?_) (fun c9 => ?_)
          · rw [if_pos c9] at h
            refine lv_iconst (v := (-1)) hx hb dX6_bestCard_52 (by decide) ?_
            refine lv_istore (lv' := [(4, .int ((-1))), (0, .ref (ad 0)), (1, .int v1), (2, .int v2), (3, .int v3)]) hx hb dX6_bestCard_53 hl (by decide) rfl (fun ls hl => ?_)
            refine lv_iload hx hb dX6_bestCard_55 (lv_at hl 0 rfl) ?_
            refine lv_iload_n hx hb dX6_bestCard_57 rfl (lv_at hl 3 rfl) ?_
            refine lv_icmp_le (tgt := 65) hx hb dX6_bestCard_58 (by decide) (fun c10 => ?_) (fun c10 => ?_)
            · rw [if_pos c10] at h
              refine lv_iload_n hx hb dX6_bestCard_65 rfl (lv_at hl 2 rfl) ?_
              refine lv_istore_n (lv' := [(1, .int v1), (4, .int ((-1))), (0, .ref (ad 0)), (2, .int v2), (3, .int v3)]) hx hb dX6_bestCard_66 rfl hl (by decide) rfl (fun ls hl => ?_)
              refine lv_iload hx hb dX6_bestCard_67 (lv_at hl 1 rfl) ?_
              refine lv_iload_n hx hb dX6_bestCard_69 rfl (lv_at hl 3 rfl) ?_
              refine lv_icmp_le (tgt := 78) hx hb dX6_bestCard_70 (by decide) (fun c11 => ?_) (fun c11 => ?_)
              · rw [if_pos c11] at h
                refine lv_iload_n hx hb dX6_bestCard_78 rfl (lv_at hl 3 rfl) ?_
                refine lv_istore_n (lv' := [(2, .int v2), (1, .int v1), (4, .int ((-1))), (0, .ref (ad 0)), (3, .int v3)]) hx hb dX6_bestCard_79 rfl hl (by decide) rfl (fun ls hl => ?_)
                refine lv_iinc (v := v3 + 1) (lv' := [(3, .int (v3 + 1)), (2, .int v2), (1, .int v1), (4, .int ((-1))), (0, .ref (ad 0))]) hx hb dX6_bestCard_80 hl (k := 4) rfl rfl (by decide) rfl (fun ls hl => ?_)
                refine lv_goto (tgt := 23) hx hb dX6_bestCard_83 (by decide) ?_
                exact ih _ _ _ _ _ _ _ _ h hP hS (lv_sub hl [4, 2, 1, 0] rfl) kk
              · rw [if_neg c11] at h
                refine lv_iload hx hb dX6_bestCard_73 (lv_at hl 1 rfl) ?_
                refine lv_goto (tgt := 79) hx hb dX6_bestCard_75 (by decide) ?_
                refine lv_istore_n (lv' := [(2, .int ((-1))), (1, .int v1), (4, .int ((-1))), (0, .ref (ad 0)), (3, .int v3)]) hx hb dX6_bestCard_79 rfl hl (by decide) rfl (fun ls hl => ?_)
                refine lv_iinc (v := v3 + 1) (lv' := [(3, .int (v3 + 1)), (2, .int ((-1))), (1, .int v1), (4, .int ((-1))), (0, .ref (ad 0))]) hx hb dX6_bestCard_80 hl (k := 4) rfl rfl (by decide) rfl (fun ls hl => ?_)
                refine lv_goto (tgt := 23) hx hb dX6_bestCard_83 (by decide) ?_
                exact ih _ _ _ _ _ _ _ _ h hP hS (lv_sub hl [4, 2, 1, 0] rfl) kk
            · rw [if_neg c10] at h
              refine lv_iload_n hx hb dX6_bestCard_61 rfl (lv_at hl 4 rfl) ?_
              refine lv_goto (tgt := 66) hx hb dX6_bestCard_62 (by decide) ?_
              refine lv_istore_n (lv' := [(1, .int v3), (4, .int ((-1))), (0, .ref (ad 0)), (2, .int v2), (3, .int v3)]) hx hb dX6_bestCard_66 rfl hl (by decide) rfl (fun ls hl => ?_)
              refine lv_iload hx hb dX6_bestCard_67 (lv_at hl 1 rfl) ?_
              refine lv_iload_n hx hb dX6_bestCard_69 rfl (lv_at hl 3 rfl) ?_
              refine lv_icmp_le (tgt := 78) hx hb dX6_bestCard_70 (by decide) (fun c12 => ?_) (fun c12 => ?_)
              · rw [if_pos c12] at h
                refine lv_iload_n hx hb dX6_bestCard_78 rfl (lv_at hl 3 rfl) ?_
                refine lv_istore_n (lv' := [(2, .int v2), (1, .int v3), (4, .int ((-1))), (0, .ref (ad 0)), (3, .int v3)]) hx hb dX6_bestCard_79 rfl hl (by decide) rfl (fun ls hl => ?_)
                refine lv_iinc (v := v3 + 1) (lv' := [(3, .int (v3 + 1)), (2, .int v2), (1, .int v3), (4, .int ((-1))), (0, .ref (ad 0))]) hx hb dX6_bestCard_80 hl (k := 4) rfl rfl (by decide) rfl (fun ls hl => ?_)
                refine lv_goto (tgt := 23) hx hb dX6_bestCard_83 (by decide) ?_
                exact ih _ _ _ _ _ _ _ _ h hP hS (lv_sub hl [4, 2, 1, 0] rfl) kk
              · rw [if_neg c12] at h
                refine lv_iload hx hb dX6_bestCard_73 (lv_at hl 1 rfl) ?_
                refine lv_goto (tgt := 79) hx hb dX6_bestCard_75 (by decide) ?_
                refine lv_istore_n (lv' := [(2, .int ((-1))), (1, .int v3), (4, .int ((-1))), (0, .ref (ad 0)), (3, .int v3)]) hx hb dX6_bestCard_79 rfl hl (by decide) rfl (fun ls hl => ?_)
                refine lv_iinc (v := v3 + 1) (lv' := [(3, .int (v3 + 1)), (2, .int ((-1))), (1, .int v3), (4, .int ((-1))), (0, .ref (ad 0))]) hx hb dX6_bestCard_80 hl (k := 4) rfl rfl (by decide) rfl (fun ls hl => ?_)
                refine lv_goto (tgt := 23) hx hb dX6_bestCard_83 (by decide) ?_
                exact ih _ _ _ _ _ _ _ _ h hP hS (lv_sub hl [4, 2, 1, 0] rfl) kk
          · rw [if_neg c9] at h
            refine lv_aload_n hx hb dX6_bestCard_44 rfl (lv_at hl 0 rfl) ?_
            refine lv_iload_n hx hb dX6_bestCard_45 rfl (lv_at hl 3 rfl) ?_
            obtain ⟨q13, hqq13, h⟩ := obind_some h
            refine cWiM S5 hK hP hD hS (fun _ h => hA _ _ hS.1 h) 0 rfl rfl (As := [.int v3]) (kX6_valueOf l D cA ad _ _ _ hqq13) (cwV 1 hts gX6_bestCard_X6_valueOf rfl rfl rfl (by decide +kernel) ⟨(Nat.le_of_ble_eq_true rfl), (Nat.le_of_ble_eq_true rfl)⟩) rfl hl.1 (st0 := _) (rest := []) rfl (Nat.le_of_ble_eq_true rfl) dX6_bestCard_46 ⟨Nat.zero_le _, Nat.zero_le _⟩ (fun H locs hz hP hS => ?_)
            refine lv_goto (tgt := 53) hx hb dX6_bestCard_49 (by decide) ?_
            refine lv_istore (lv' := [(4, .int q13.1), (0, .ref (ad 0)), (1, .int v1), (2, .int v2), (3, .int v3)]) hx hb dX6_bestCard_53 hl (by decide) rfl (fun ls hl => ?_)
            refine lv_iload hx hb dX6_bestCard_55 (lv_at hl 0 rfl) ?_
            refine lv_iload_n hx hb dX6_bestCard_57 rfl (lv_at hl 3 rfl) ?_
            refine lv_icmp_le (tgt := 65) hx hb dX6_bestCard_58 (by decide) (fun c14 => ?_) (fun c14 => ?_)
            · rw [if_pos c14] at h
              refine lv_iload_n hx hb dX6_bestCard_65 rfl (lv_at hl 2 rfl) ?_
              refine lv_istore_n (lv' := [(1, .int v1), (4, .int q13.1), (0, .ref (ad 0)), (2, .int v2), (3, .int v3)]) hx hb dX6_bestCard_66 rfl hl (by decide) rfl (fun ls hl => ?_)
              refine lv_iload hx hb dX6_bestCard_67 (lv_at hl 1 rfl) ?_
              refine lv_iload_n hx hb dX6_bestCard_69 rfl (lv_at hl 3 rfl) ?_
              refine lv_icmp_le (tgt := 78) hx hb dX6_bestCard_70 (by decide) (fun c15 => ?_) (fun c15 => ?_)
              · rw [if_pos c15] at h
                refine lv_iload_n hx hb dX6_bestCard_78 rfl (lv_at hl 3 rfl) ?_
                refine lv_istore_n (lv' := [(2, .int v2), (1, .int v1), (4, .int q13.1), (0, .ref (ad 0)), (3, .int v3)]) hx hb dX6_bestCard_79 rfl hl (by decide) rfl (fun ls hl => ?_)
                refine lv_iinc (v := v3 + 1) (lv' := [(3, .int (v3 + 1)), (2, .int v2), (1, .int v1), (4, .int q13.1), (0, .ref (ad 0))]) hx hb dX6_bestCard_80 hl (k := 4) rfl rfl (by decide) rfl (fun ls hl => ?_)
                refine lv_goto (tgt := 23) hx hb dX6_bestCard_83 (by decide) ?_
                exact ih _ _ _ _ _ _ _ _ h hP hS (lv_sub hl [4, 2, 1, 0] rfl) kk
              · rw [if_neg c15] at h
                refine lv_iload hx hb dX6_bestCard_73 (lv_at hl 1 rfl) ?_
                refine lv_goto (tgt := 79) hx hb dX6_bestCard_75 (by decide) ?_
                refine lv_istore_n (lv' := [(2, .int q13.1), (1, .int v1), (4, .int q13.1), (0, .ref (ad 0)), (3, .int v3)]) hx hb dX6_bestCard_79 rfl hl (by decide) rfl (fun ls hl => ?_)
                refine lv_iinc (v := v3 + 1) (lv' := [(3, .int (v3 + 1)), (2, .int q13.1), (1, .int v1), (4, .int q13.1), (0, .ref (ad 0))]) hx hb dX6_bestCard_80 hl (k := 4) rfl rfl (by decide) rfl (fun ls hl => ?_)
                refine lv_goto (tgt := 23) hx hb dX6_bestCard_83 (by decide) ?_
                exact ih _ _ _ _ _ _ _ _ h hP hS (lv_sub hl [4, 2, 1, 0] rfl) kk
            · rw [if_neg c14] at h
              refine lv_iload_n hx hb dX6_bestCard_61 rfl (lv_at hl 4 rfl) ?_
              refine lv_goto (tgt := 66) hx hb dX6_bestCard_62 (by decide) ?_
              refine lv_istore_n (lv' := [(1, .int v3), (4, .int q13.1), (0, .ref (ad 0)), (2, .int v2), (3, .int v3)]) hx hb dX6_bestCard_66 rfl hl (by decide) rfl (fun ls hl => ?_)
              refine lv_iload hx hb dX6_bestCard_67 (lv_at hl 1 rfl) ?_
              refine lv_iload_n hx hb dX6_bestCard_69 rfl (lv_at hl 3 rfl) ?_
              refine lv_icmp_le (tgt := 78) hx hb dX6_bestCard_70 (by decide) (fun c16 => ?_) (fun c16 => ?_)
              · rw [if_pos c16] at h
                refine lv_iload_n hx hb dX6_bestCard_78 rfl (lv_at hl 3 rfl) ?_
                refine lv_istore_n (lv' := [(2, .int v2), (1, .int v3), (4, .int q13.1), (0, .ref (ad 0)), (3, .int v3)]) hx hb dX6_bestCard_79 rfl hl (by decide) rfl (fun ls hl => ?_)
                refine lv_iinc (v := v3 + 1) (lv' := [(3, .int (v3 + 1)), (2, .int v2), (1, .int v3), (4, .int q13.1), (0, .ref (ad 0))]) hx hb dX6_bestCard_80 hl (k := 4) rfl rfl (by decide) rfl (fun ls hl => ?_)
                refine lv_goto (tgt := 23) hx hb dX6_bestCard_83 (by decide) ?_
                exact ih _ _ _ _ _ _ _ _ h hP hS (lv_sub hl [4, 2, 1, 0] rfl) kk
              · rw [if_neg c16] at h
                refine lv_iload hx hb dX6_bestCard_73 (lv_at hl 1 rfl) ?_
                refine lv_goto (tgt := 79) hx hb dX6_bestCard_75 (by decide) ?_
                refine lv_istore_n (lv' := [(2, .int q13.1), (1, .int v3), (4, .int q13.1), (0, .ref (ad 0)), (3, .int v3)]) hx hb dX6_bestCard_79 rfl hl (by decide) rfl (fun ls hl => ?_)
                refine lv_iinc (v := v3 + 1) (lv' := [(3, .int (v3 + 1)), (2, .int q13.1), (1, .int v3), (4, .int q13.1), (0, .ref (ad 0))]) hx hb dX6_bestCard_80 hl (k := 4) rfl rfl (by decide) rfl (fun ls hl => ?_)
                refine lv_goto (tgt := 23) hx hb dX6_bestCard_83 (by decide) ?_
                exact ih _ _ _ _ _ _ _ _ h hP hS (lv_sub hl [4, 2, 1, 0] rfl) kk
  refine lv_aload_n hx hb dX6_bestCard_0 rfl (lv_at hl 0 rfl) ?_
  refine lv_aload_n hx hb dX6_bestCard_1 rfl (lv_at hl 0 rfl) ?_
  refine cVM S5 hK hP 0 rfl rfl (As := []) (kX6_player l D cA ad _) (cwV 0 hts gX6_bestCard_X6_player rfl rfl rfl (by decide +kernel) ⟨(Nat.le_of_ble_eq_true rfl), (Nat.le_of_ble_eq_true rfl)⟩) rfl hl.1 (st0 := _) (rest := [.ref (ad 0)]) rfl (Nat.le_of_ble_eq_true rfl) dX6_bestCard_2 ⟨Nat.zero_le _, Nat.zero_le _⟩ ?_
  refine lv_iconst (v := (-1)) hx hb dX6_bestCard_5 (by decide) ?_
  refine lv_icmp_ne (tgt := 13) hx hb dX6_bestCard_6 (by decide) (fun c1 => ?_) (fun c1 => ?_)
  · rw [if_neg c1] at h
    refine lv_iconst (v := 0) hx hb dX6_bestCard_13 (by decide) ?_
    refine pX6_thrown S5 hin hK hP hD hS (List.mem_of_getElem? (i := 1) rfl) dX6_bestCard_14 (fun H locs hP hS => ?_)
    refine lv_iconst (v := (-1)) hx hb dX6_bestCard_17 (by decide) ?_
    refine lv_istore_n (lv' := [(1, .int ((-1))), (0, .ref (ad 0))]) hx hb dX6_bestCard_18 rfl hl (by decide) rfl (fun ls hl => ?_)
    refine lv_iconst (v := (-1)) hx hb dX6_bestCard_19 (by decide) ?_
    refine lv_istore_n (lv' := [(2, .int ((-1))), (1, .int ((-1))), (0, .ref (ad 0))]) hx hb dX6_bestCard_20 rfl hl (by decide) rfl (fun ls hl => ?_)
    refine lv_iconst (v := 0) hx hb dX6_bestCard_21 (by decide) ?_
    refine lv_istore_n (lv' := [(3, .int 0), (2, .int ((-1))), (1, .int ((-1))), (0, .ref (ad 0))]) hx hb dX6_bestCard_22 rfl hl (by decide) rfl (fun ls hl => ?_)
    obtain ⟨q2, hqq2, h⟩ := obind_some h
    refine L23 _ _ _ _ _ _ _ _ _ hqq2 hP hS (lv_sub hl [3, 2, 1, 0] rfl) (fun H locs hP hS ls hl => ?_)
    have hl := lv_sub (l' := [(0, .ref (ad 0)), (1, .int q2.1)]) hl [0, 1] rfl
    refine lv_aload_n hx hb dX6_bestCard_86 rfl (lv_at hl 0 rfl) ?_
    refine gX6_thrown S5 hin hK hP (List.mem_of_getElem? (i := 1) rfl) (v := q2.2 0 6) rfl dX6_bestCard_87 ?_
    refine lv_if_ne (tgt := 97) hx hb dX6_bestCard_90 (by decide) (fun c3 => ?_) (fun c3 => ?_)
    · rw [if_neg c3] at h
      refine lv_iconst (v := 0) hx hb dX6_bestCard_97 (by decide) ?_
      obtain rfl := Option.some.inj h
      exact kr _ _ _ _ _ rfl rfl hP hS dX6_bestCard_98
    · rw [if_pos c3] at h
      refine lv_iload_n hx hb dX6_bestCard_93 rfl (lv_at hl 1 rfl) ?_
      refine lv_goto (tgt := 98) hx hb dX6_bestCard_94 (by decide) ?_
      obtain rfl := Option.some.inj h
      exact kr _ _ _ _ _ rfl rfl hP hS dX6_bestCard_98
  · rw [if_pos c1] at h
    refine lv_iconst (v := 1) hx hb dX6_bestCard_9 (by decide) ?_
    refine lv_goto (tgt := 14) hx hb dX6_bestCard_10 (by decide) ?_
    refine pX6_thrown S5 hin hK hP hD hS (List.mem_of_getElem? (i := 1) rfl) dX6_bestCard_14 (fun H locs hP hS => ?_)
    refine lv_iconst (v := (-1)) hx hb dX6_bestCard_17 (by decide) ?_
    refine lv_istore_n (lv' := [(1, .int ((-1))), (0, .ref (ad 0))]) hx hb dX6_bestCard_18 rfl hl (by decide) rfl (fun ls hl => ?_)
    refine lv_iconst (v := (-1)) hx hb dX6_bestCard_19 (by decide) ?_
    refine lv_istore_n (lv' := [(2, .int ((-1))), (1, .int ((-1))), (0, .ref (ad 0))]) hx hb dX6_bestCard_20 rfl hl (by decide) rfl (fun ls hl => ?_)
    refine lv_iconst (v := 0) hx hb dX6_bestCard_21 (by decide) ?_
    refine lv_istore_n (lv' := [(3, .int 0), (2, .int ((-1))), (1, .int ((-1))), (0, .ref (ad 0))]) hx hb dX6_bestCard_22 rfl hl (by decide) rfl (fun ls hl => ?_)
    obtain ⟨q4, hqq4, h⟩ := obind_some h
    refine L23 _ _ _ _ _ _ _ _ _ hqq4 hP hS (lv_sub hl [3, 2, 1, 0] rfl) (fun H locs hP hS ls hl => ?_)
    have hl := lv_sub (l' := [(0, .ref (ad 0)), (1, .int q4.1)]) hl [0, 1] rfl
    refine lv_aload_n hx hb dX6_bestCard_86 rfl (lv_at hl 0 rfl) ?_
    refine gX6_thrown S5 hin hK hP (List.mem_of_getElem? (i := 1) rfl) (v := q4.2 0 6) rfl dX6_bestCard_87 ?_
    refine lv_if_ne (tgt := 97) hx hb dX6_bestCard_90 (by decide) (fun c5 => ?_) (fun c5 => ?_)
    · rw [if_neg c5] at h
      refine lv_iconst (v := 0) hx hb dX6_bestCard_97 (by decide) ?_
      obtain rfl := Option.some.inj h
      exact kr _ _ _ _ _ rfl rfl hP hS dX6_bestCard_98
    · rw [if_pos c5] at h
      refine lv_iload_n hx hb dX6_bestCard_93 rfl (lv_at hl 1 rfl) ?_
      refine lv_goto (tgt := 98) hx hb dX6_bestCard_94 (by decide) ?_
      obtain rfl := Option.some.inj h
      exact kr _ _ _ _ _ rfl rfl hP hS dX6_bestCard_98
