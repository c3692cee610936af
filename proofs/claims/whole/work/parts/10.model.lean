-- X6_thrown
def fX6_thrown (M : Mem) : Int32 := (M 0 6)
def rmX6_thrown : Room := { frames := 0, cells := 0, slots := 0, locals := 0 }
set_option maxHeartbeats 4000000 in
set_option maxRecDepth 100000 in
theorem kX6_thrown (l : Launch) (D : va_G) (cA : Nat) (ad : Nat → Nat) (M : Mem) : RdM l yX6_thrown wsX6_thrown rmX6_thrown D cA ad M [.ref (ad 0)] (fX6_thrown M) := by
  obtain ⟨r, h⟩ : ∃ r, fX6_thrown M = r := ⟨_, rfl⟩
  rw [h]
  unfold fX6_thrown at h
  refine RdM.of RX6 rfl rfl rfl (Nat.le_of_ble_eq_true rfl) ?_
  intro p e s m args below meth c Q ls S5 hK hP hl kr
  obtain ⟨hx, hb, -, -, hts⟩ := id S5
  have hin : ∀ w ∈ wsX60, w ∈ wsX6_thrown := fun _ h => List.mem_cons_of_mem _ (List.mem_append_right _ (h))
  refine lv_aload_n hx hb dX6_thrown_0 rfl (lv_at hl 0 rfl) ?_
  refine gX6_thrown S5 hin hK hP (List.mem_of_getElem? (i := 1) rfl) (v := M 0 6) rfl dX6_thrown_1 ?_
  subst h
  exact kr _ _ _ rfl rfl dX6_thrown_4

-- X6_weight
def fX6_weight (p1 : Int32) (p2 : Int32) (M : Mem) : Int32 := (if (p1 / 6) = (M 0 0) then (20 + (im p1 6)) else (if (p1 / 6) = p2 then (10 + (im p1 6)) else (0)))
def rmX6_weight : Room := { frames := 0, cells := 0, slots := 0, locals := 0 }
set_option maxHeartbeats 4000000 in
set_option maxRecDepth 100000 in
theorem kX6_weight (l : Launch) (D : va_G) (cA : Nat) (ad : Nat → Nat) (p1 : Int32) (p2 : Int32) (M : Mem) : RdM l yX6_weight wsX6_weight rmX6_weight D cA ad M [.ref (ad 0), .int p1, .int p2] (fX6_weight p1 p2 M) := by
  obtain ⟨r, h⟩ : ∃ r, fX6_weight p1 p2 M = r := ⟨_, rfl⟩
  rw [h]
  unfold fX6_weight at h
  refine RdM.of RX6 rfl rfl rfl (Nat.le_of_ble_eq_true rfl) ?_
  intro p e s m args below meth c Q ls S5 hK hP hl kr
  obtain ⟨hx, hb, -, -, hts⟩ := id S5
  have hin : ∀ w ∈ wsX60, w ∈ wsX6_weight := fun _ h => List.mem_cons_of_mem _ (List.mem_append_right _ (h))
  refine lv_iload_n hx hb dX6_weight_0 rfl (lv_at hl 1 rfl) ?_
  refine lv_bipush (v := 6) hx hb dX6_weight_1 (by decide) ?_
  refine r_idiv S5 dX6_weight_3 (by decide) ?_
  refine lv_aload_n hx hb dX6_weight_4 rfl (lv_at hl 0 rfl) ?_
  refine gX6_trump S5 hin hK hP (List.mem_of_getElem? (i := 1) rfl) (v := M 0 0) rfl dX6_weight_5 ?_
  refine lv_icmp_ne (tgt := 21) hx hb dX6_weight_8 (by decide) (fun c1 => ?_) (fun c1 => ?_)
  · rw [if_neg c1] at h
    refine lv_iload_n hx hb dX6_weight_21 rfl (lv_at hl 1 rfl) ?_
    refine lv_bipush (v := 6) hx hb dX6_weight_22 (by decide) ?_
    refine r_idiv S5 dX6_weight_24 (by decide) ?_
    refine lv_iload_n hx hb dX6_weight_25 rfl (lv_at hl 2 rfl) ?_
    refine lv_icmp_ne (tgt := 39) hx hb dX6_weight_26 (by decide) (fun c2 => ?_) (fun c2 => ?_)
    · rw [if_neg c2] at h
      refine lv_iconst (v := 0) hx hb dX6_weight_39 (by decide) ?_
      subst h
      exact kr _ _ _ rfl rfl dX6_weight_40
    · rw [if_pos c2] at h
      refine lv_bipush (v := 10) hx hb dX6_weight_29 (by decide) ?_
      refine lv_iload_n hx hb dX6_weight_31 rfl (lv_at hl 1 rfl) ?_
      refine lv_bipush (v := 6) hx hb dX6_weight_32 (by decide) ?_
      refine r_irem S5 dX6_weight_34 (by decide) ?_
      refine lv_iadd hx hb dX6_weight_35 ?_
      refine lv_goto (tgt := 40) hx hb dX6_weight_36 (by decide) ?_
      subst h
      exact kr _ _ _ rfl rfl dX6_weight_40
  · rw [if_pos c1] at h
    refine lv_bipush (v := 20) hx hb dX6_weight_11 (by decide) ?_
    refine lv_iload_n hx hb dX6_weight_13 rfl (lv_at hl 1 rfl) ?_
    refine lv_bipush (v := 6) hx hb dX6_weight_14 (by decide) ?_
    refine r_irem S5 dX6_weight_16 (by decide) ?_
    refine lv_iadd hx hb dX6_weight_17 ?_
    refine lv_goto (tgt := 40) hx hb dX6_weight_18 (by decide) ?_
    subst h
    exact kr _ _ _ rfl rfl dX6_weight_40

-- X6_winner
def fX6_winner_L15 : Nat → Int32 → Int32 → Int32 → Int32 → Mem → Option (Int32)
  | 0, _, _, _, _, _ => none
  | n + 1, v1, v2, v3, v4, M => (if 4 ≤ v4 then some (v3) else (if vin v4 4 = true then (if vin v3 4 = true then (if (fX6_weight (M 4 v4.toNatClampNeg) v2 M) ≤ (fX6_weight (M 4 v3.toNatClampNeg) v2 M) then fX6_winner_L15 n v1 v2 v3 (v4 + 1) M else fX6_winner_L15 n v1 v2 v4 (v4 + 1) M) else none) else none))
def fX6_winner (p1 : Int32) (M : Mem) : Option (Int32) := (obind (fX6_winner_L15 40 p1 ((M 4 0) / 6) 0 1 M) (fun q1 => some (im (p1 + q1) 4)))
def rmX6_winner : Room := { frames := 1, cells := 0, slots := 0, locals := 22 }
set_option maxHeartbeats 4000000 in
set_option maxRecDepth 100000 in
theorem kX6_winner (l : Launch) (D : va_G) (cA : Nat) (ad : Nat → Nat) (p1 : Int32) (M : Mem) (r : Int32) (h : fX6_winner p1 M = some r) : RdM l yX6_winner wsX6_winner rmX6_winner D cA ad M [.ref (ad 0), .int p1] r := by
  unfold fX6_winner at h
  refine RdM.of RX6 rfl rfl rfl (Nat.le_of_ble_eq_true rfl) ?_
  intro p e s m args below meth c Q ls S5 hK hP hl kr
  obtain ⟨hx, hb, -, -, hts⟩ := id S5
  have hin : ∀ w ∈ wsX60, w ∈ wsX6_winner := fun _ h => List.mem_cons_of_mem _ (List.mem_append_right _ (h))
  have L15 : ∀ (n : Nat) (v1 : Int32) (v2 : Int32) (v3 : Int32) (v4 : Int32) (r' : Int32) (ls : Array Slot), fX6_winner_L15 n v1 v2 v3 v4 M = some r' → lv_has ls 5 [(0, .ref (ad 0)), (1, .int v1), (2, .int v2), (3, .int v3), (4, .int v4)] → (∀ (ls : Array Slot), lv_has ls 5 [(0, .ref (ad 0)), (1, .int v1), (2, .int v2), (3, .int (r'))] → W p l e rmX6_winner s m args below meth c s.heap [] 0 0 Q (F0 m 60 ls [])) → W p l e rmX6_winner s m args below meth c s.heap [] 0 0 Q (F0 m 15 ls []) := by
    intro n
    induction n with
    | zero => intro v1 v2 v3 v4 r' ls h hl kk; rw [fX6_winner_L15.eq_1] at h; cases h
    | succ n ih =>
      intro v1 v2 v3 v4 r' ls h hl kk
      rw [fX6_winner_L15.eq_2] at h
      refine lv_iload hx hb dX6_winner_15 (lv_at hl 4 rfl) ?_
      refine lv_iconst (v := 4) hx hb dX6_winner_17 (by decide) ?_
      refine lv_icmp_ge (tgt := 60) hx hb dX6_winner_18 (by decide) (fun c2 => ?_) (fun c2 => ?_)
      · rw [if_pos c2] at h
        obtain rfl := Option.some.inj h
        exact kk _ (lv_sub hl [0, 1, 2, 3] rfl)
      · rw [if_neg c2] at h
        refine lv_aload_n hx hb dX6_winner_21 rfl (lv_at hl 0 rfl) ?_
        refine lv_aload_n hx hb dX6_winner_22 rfl (lv_at hl 0 rfl) ?_
        refine gX6_trick S5 hin hK hP (List.mem_of_getElem? (i := 1) rfl) dX6_winner_23 ?_
        refine lv_iload hx hb dX6_winner_26 (lv_at hl 4 rfl) ?_
        obtain ⟨g3, h⟩ := gd_some h
        refine alM4 S5 hK hP (v := M 4 v4.toNatClampNeg) g3 rfl dX6_winner_28 ?_
        refine lv_iload_n hx hb dX6_winner_29 rfl (lv_at hl 2 rfl) ?_
        refine cVM S5 hK hP 0 rfl rfl (As := [.int (M 4 v4.toNatClampNeg), .int v2]) (kX6_weight l D cA ad _ _ _) (cwV 2 hts gX6_winner_X6_weight rfl rfl rfl (by decide +kernel) ⟨(Nat.le_of_ble_eq_true rfl), (Nat.le_of_ble_eq_true rfl)⟩) rfl hl.1 (st0 := _) (rest := []) rfl (Nat.le_of_ble_eq_true rfl) dX6_winner_30 ⟨Nat.zero_le _, Nat.zero_le _⟩ ?_
        refine lv_aload_n hx hb dX6_winner_33 rfl (lv_at hl 0 rfl) ?_
        refine lv_aload_n hx hb dX6_winner_34 rfl (lv_at hl 0 rfl) ?_
        refine gX6_trick S5 hin hK hP (List.mem_of_getElem? (i := 1) rfl) dX6_winner_35 ?_
        refine lv_iload_n hx hb dX6_winner_38 rfl (lv_at hl 3 rfl) ?_
        obtain ⟨g4, h⟩ := gd_some h
        refine alM4 S5 hK hP (v := M 4 v3.toNatClampNeg) g4 rfl dX6_winner_39 ?_
        refine lv_iload_n hx hb dX6_winner_40 rfl (lv_at hl 2 rfl) ?_
        refine cVM S5 hK hP 0 rfl rfl (As := [.int (M 4 v3.toNatClampNeg), .int v2]) (kX6_weight l D cA ad _ _ _) (cwV 2 hts gX6_winner_X6_weight rfl rfl rfl (by decide +kernel) ⟨(Nat.le_of_ble_eq_true rfl), (Nat.le_of_ble_eq_true rfl)⟩) rfl hl.1 (st0 := _) (rest := [.int (fX6_weight (M 4 v4.toNatClampNeg) v2 M)]) rfl (Nat.le_of_ble_eq_true rfl) dX6_winner_41 ⟨Nat.zero_le _, Nat.zero_le _⟩ ?_
        refine lv_icmp_le (tgt := 52) hx hb dX6_winner_44 (by decide) (fun c5 => ?_) (fun c5 => ?_)
        · rw [if_pos c5] at h
          refine lv_iload_n hx hb dX6_winner_52 rfl (lv_at hl 3 rfl) ?_
          refine lv_istore_n (lv' := [(3, .int v3), (0, .ref (ad 0)), (1, .int v1), (2, .int v2), (4, .int v4)]) hx hb dX6_winner_53 rfl hl (by decide) rfl (fun ls hl => ?_)
          refine lv_iinc (v := v4 + 1) (lv' := [(4, .int (v4 + 1)), (3, .int v3), (0, .ref (ad 0)), (1, .int v1), (2, .int v2)]) hx hb dX6_winner_54 hl (k := 4) rfl rfl (by decide) rfl (fun ls hl => ?_)
          refine lv_goto (tgt := 15) hx hb dX6_winner_57 (by decide) ?_
          exact ih _ _ _ _ _ _ h (lv_sub hl [2, 3, 4, 1, 0] rfl) kk
        · rw [if_neg c5] at h
          refine lv_iload hx hb dX6_winner_47 (lv_at hl 4 rfl) ?_
          refine lv_goto (tgt := 53) hx hb dX6_winner_49 (by decide) ?_
          refine lv_istore_n (lv' := [(3, .int v4), (0, .ref (ad 0)), (1, .int v1), (2, .int v2), (4, .int v4)]) hx hb dX6_winner_53 rfl hl (by decide) rfl (fun ls hl => ?_)
          refine lv_iinc (v := v4 + 1) (lv' := [(4, .int (v4 + 1)), (3, .int v4), (0, .ref (ad 0)), (1, .int v1), (2, .int v2)]) hx hb dX6_winner_54 hl (k := 4) rfl rfl (by decide) rfl (fun ls hl => ?_)
          refine lv_goto (tgt := 15) hx hb dX6_winner_57 (by decide) ?_
          exact ih _ _ _ _ _ _ h (lv_sub hl [2, 3, 4, 1, 0] rfl) kk
  refine lv_aload_n hx hb dX6_winner_0 rfl (lv_at hl 0 rfl) ?_
  refine gX6_trick S5 hin hK hP (List.mem_of_getElem? (i := 1) rfl) dX6_winner_1 ?_
  refine lv_iconst (v := 0) hx hb dX6_winner_4 (by decide) ?_
  refine alM4 S5 hK hP (v := M 4 0) (by decide) rfl dX6_winner_5 ?_
  refine lv_bipush (v := 6) hx hb dX6_winner_6 (by decide) ?_
  refine r_idiv S5 dX6_winner_8 (by decide) ?_
  refine lv_istore_n (lv' := [(2, .int ((M 4 0) / 6)), (0, .ref (ad 0)), (1, .int p1)]) hx hb dX6_winner_9 rfl hl (by decide) rfl (fun ls hl => ?_)
  refine lv_iconst (v := 0) hx hb dX6_winner_10 (by decide) ?_
  refine lv_istore_n (lv' := [(3, .int 0), (2, .int ((M 4 0) / 6)), (0, .ref (ad 0)), (1, .int p1)]) hx hb dX6_winner_11 rfl hl (by decide) rfl (fun ls hl => ?_)
  refine lv_iconst (v := 1) hx hb dX6_winner_12 (by decide) ?_
  refine lv_istore (lv' := [(4, .int 1), (3, .int 0), (2, .int ((M 4 0) / 6)), (0, .ref (ad 0)), (1, .int p1)]) hx hb dX6_winner_13 hl (by decide) rfl (fun ls hl => ?_)
  obtain ⟨q1, hqq1, h⟩ := obind_some h
  refine L15 _ _ _ _ _ _ _ hqq1 (lv_sub hl [3, 4, 2, 1, 0] rfl) (fun ls hl => ?_)
  have hl := lv_sub (l' := [(1, .int p1), (3, .int q1)]) hl [1, 3] rfl
  refine lv_iload_n hx hb dX6_winner_60 rfl (lv_at hl 0 rfl) ?_
  refine lv_iload_n hx hb dX6_winner_61 rfl (lv_at hl 1 rfl) ?_
  refine lv_iadd hx hb dX6_winner_62 ?_
  refine lv_iconst (v := 4) hx hb dX6_winner_63 (by decide) ?_
  refine r_irem S5 dX6_winner_64 (by decide) ?_
  obtain rfl := Option.some.inj h
  exact kr _ _ _ rfl rfl dX6_winner_65

-- X6_replay
def fX6_replay_L54 : Nat → Int32 → Mem → Option (Mem)
  | 0, _, _ => none
  | n + 1, v1, M => (if (M 0 5) ≤ v1 then some (M) else (if vin (im ((M 0 10) + (M 0 9)) 4) 4 = true then (if vin v1 16 = true then (if vin (im ((M 0 10) + (M 0 9)) 4) 4 = true then (if vin v1 16 = true then (if vin (M 0 9) 4 = true then (if ((M 0 9) + 1) = 4 then (obind (fX6_winner (M 0 10) ((mset (mset (mset M 3 ((im ((M 0 10) + (M 0 9)) 4).toNatClampNeg) ((M 3 ((im ((M 0 10) + (M 0 9)) 4).toNatClampNeg)) &&& ((sl 1 (M 2 v1.toNatClampNeg)) ^^^ ((-1))))) 4 ((M 0 9).toNatClampNeg) (M 2 v1.toNatClampNeg)) 0 9 ((M 0 9) + 1)))) (fun q14 => (if vin (im q14 2) 2 = true then (if vin (im q14 2) 2 = true then fX6_replay_L54 n (v1 + 1) ((mset (mset (mset (mset (mset (mset M 3 ((im ((M 0 10) + (M 0 9)) 4).toNatClampNeg) ((M 3 ((im ((M 0 10) + (M 0 9)) 4).toNatClampNeg)) &&& ((sl 1 (M 2 v1.toNatClampNeg)) ^^^ ((-1))))) 4 ((M 0 9).toNatClampNeg) (M 2 v1.toNatClampNeg)) 0 9 ((M 0 9) + 1)) 0 10 q14) 5 ((im q14 2).toNatClampNeg) ((M 5 ((im q14 2).toNatClampNeg)) + 1)) 0 9 0)) else none) else none))) else fX6_replay_L54 n (v1 + 1) ((mset (mset (mset M 3 ((im ((M 0 10) + (M 0 9)) 4).toNatClampNeg) ((M 3 ((im ((M 0 10) + (M 0 9)) 4).toNatClampNeg)) &&& ((sl 1 (M 2 v1.toNatClampNeg)) ^^^ ((-1))))) 4 ((M 0 9).toNatClampNeg) (M 2 v1.toNatClampNeg)) 0 9 ((M 0 9) + 1)))) else none) else none) else none) else none) else none))
def fX6_replay (M : Mem) : Option (Mem) := (obind (fX6_replay_L54 40 0 ((mset (mset (mset (mset (mset (mset (mset (mset M 3 0 (M 1 0)) 3 1 (M 1 1)) 3 2 (M 1 2)) 3 3 (M 1 3)) 5 0 0) 5 1 0) 0 10 (M 0 3)) 0 9 0))) (fun q6 => some (q6)))
def rmX6_replay : Room := { frames := 2, cells := 0, slots := 0, locals := 46 }
set_option maxHeartbeats 4000000 in
set_option maxRecDepth 100000 in
theorem kX6_replay (l : Launch) (D : va_G) (cA : Nat) (ad : Nat → Nat) (M : Mem) (r : Mem) (h : fX6_replay M = some r) : WvM l yX6_replay wsX6_replay rmX6_replay D cA ad M [.ref (ad 0)] r := by
  unfold fX6_replay at h
  refine WvM.of RX6 rfl rfl rfl (Nat.le_of_ble_eq_true rfl) ?_
  intro p e s m args below meth c Q ls A eA S5 hK hP hD hS hl kr
  have hA : ∀ (H : Heap) (q : Nat), s.heap.size ≤ H.size → AX ad H.size q → A q := fun H q hz h => by rw [eA]; exact AX.mono hz h
  obtain ⟨hx, hb, -, -, hts⟩ := id S5
  have hin : ∀ w ∈ wsX60, w ∈ wsX6_replay := fun _ h => List.mem_cons_of_mem _ (List.mem_append_right _ (h))
  have L54 : ∀ (n : Nat) (v1 : Int32) (M : Mem) (r' : Mem) (H : Heap) (locs : List Loc) (ls : Array Slot), fX6_replay_L54 n v1 M = some r' → va_P D vwCl (wM cA ad M) H → va_S A s.heap H locs → lv_has ls 2 [(0, .ref (ad 0)), (1, .int v1)] → (∀ (H : Heap) (locs : List Loc), va_P D vwCl (wM cA ad (r')) H → va_S A s.heap H locs → ∀ (ls : Array Slot), lv_has ls 2 [(0, .ref (ad 0))] → W p l e rmX6_replay s m args below meth c H locs 0 0 Q (F0 m 162 ls [])) → W p l e rmX6_replay s m args below meth c H locs 0 0 Q (F0 m 54 ls []) := by
    intro n
    induction n with
    | zero => intro v1 M r' H locs ls h hP hS hl kk; rw [fX6_replay_L54.eq_1] at h; cases h
    | succ n ih =>
      intro v1 M r' H locs ls h hP hS hl kk
      rw [fX6_replay_L54.eq_2] at h
      refine lv_iload_n hx hb dX6_replay_54 rfl (lv_at hl 1 rfl) ?_
      refine lv_aload_n hx hb dX6_replay_55 rfl (lv_at hl 0 rfl) ?_
      refine gX6_playedMany S5 hin hK hP (List.mem_of_getElem? (i := 7) rfl) (v := M 0 5) rfl dX6_replay_56 ?_
      refine lv_icmp_ge (tgt := 162) hx hb dX6_replay_59 (by decide) (fun c7 => ?_) (fun c7 => ?_)
      · rw [if_pos c7] at h
        obtain rfl := Option.some.inj h
        exact kk _ _ hP hS _ (lv_sub hl [0] rfl)
      · rw [if_neg c7] at h
        refine lv_aload_n hx hb dX6_replay_62 rfl (lv_at hl 0 rfl) ?_
        refine gX6_hands S5 hin hK hP (List.mem_of_getElem? (i := 1) rfl) dX6_replay_63 ?_
        refine lv_aload_n hx hb dX6_replay_66 rfl (lv_at hl 0 rfl) ?_
        refine gX6_leader S5 hin hK hP (List.mem_of_getElem? (i := 5) rfl) (v := M 0 10) rfl dX6_replay_67 ?_
        refine lv_aload_n hx hb dX6_replay_70 rfl (lv_at hl 0 rfl) ?_
        refine gX6_trickMany S5 hin hK hP (List.mem_of_getElem? (i := 6) rfl) (v := M 0 9) rfl dX6_replay_71 ?_
        refine lv_iadd hx hb dX6_replay_74 ?_
        refine lv_iconst (v := 4) hx hb dX6_replay_75 (by decide) ?_
        refine r_irem S5 dX6_replay_76 (by decide) ?_
        refine lv_dup2_11 hx hb dX6_replay_77 rfl rfl ?_
        obtain ⟨g8, h⟩ := gd_some h
        refine alM3 S5 hK hP (v := M 3 ((im ((M 0 10) + (M 0 9)) 4).toNatClampNeg)) g8 rfl dX6_replay_78 ?_
        refine lv_iconst (v := 1) hx hb dX6_replay_79 (by decide) ?_
        refine lv_aload_n hx hb dX6_replay_80 rfl (lv_at hl 0 rfl) ?_
        refine gX6_played S5 hin hK hP (List.mem_of_getElem? (i := 8) rfl) dX6_replay_81 ?_
        refine lv_iload_n hx hb dX6_replay_84 rfl (lv_at hl 1 rfl) ?_
        obtain ⟨g9, h⟩ := gd_some h
        refine alM2 S5 hK hP (v := M 2 v1.toNatClampNeg) g9 rfl dX6_replay_85 ?_
        refine r_ishl S5 dX6_replay_86 ?_
        refine lv_iconst (v := (-1)) hx hb dX6_replay_87 (by decide) ?_
        refine lv_ixor hx hb dX6_replay_88 ?_
        refine lv_iand hx hb dX6_replay_89 ?_
        obtain ⟨g10, h⟩ := gd_some h
        refine asM3 S5 hK hP hD hS g10 (k := (im ((M 0 10) + (M 0 9)) 4).toNatClampNeg) rfl dX6_replay_90 (fun H locs hP hS => ?_)
        refine lv_aload_n hx hb dX6_replay_91 rfl (lv_at hl 0 rfl) ?_
        refine gX6_trick S5 hin hK hP (List.mem_of_getElem? (i := 9) rfl) dX6_replay_92 ?_
        refine lv_aload_n hx hb dX6_replay_95 rfl (lv_at hl 0 rfl) ?_
        refine gX6_trickMany S5 hin hK hP (List.mem_of_getElem? (i := 6) rfl) (v := M 0 9) rfl dX6_replay_96 ?_
        refine lv_aload_n hx hb dX6_replay_99 rfl (lv_at hl 0 rfl) ?_
        refine gX6_played S5 hin hK hP (List.mem_of_getElem? (i := 8) rfl) dX6_replay_100 ?_
        refine lv_iload_n hx hb dX6_replay_103 rfl (lv_at hl 1 rfl) ?_
        obtain ⟨g11, h⟩ := gd_some h
        refine alM2 S5 hK hP (v := M 2 v1.toNatClampNeg) g11 rfl dX6_replay_104 ?_
        obtain ⟨g12, h⟩ := gd_some h
        refine asM4 S5 hK hP hD hS g12 (k := (M 0 9).toNatClampNeg) rfl dX6_replay_105 (fun H locs hP hS => ?_)
        refine lv_aload_n hx hb dX6_replay_106 rfl (lv_at hl 0 rfl) ?_
        refine lv_dup hx hb dX6_replay_107 rfl ?_
        refine gX6_trickMany S5 hin hK hP (List.mem_of_getElem? (i := 6) rfl) (v := M 0 9) rfl dX6_replay_108 ?_
        refine lv_iconst (v := 1) hx hb dX6_replay_111 (by decide) ?_
        refine lv_iadd hx hb dX6_replay_112 ?_
        refine pX6_trickMany S5 hin hK hP hD hS (List.mem_of_getElem? (i := 6) rfl) dX6_replay_113 (fun H locs hP hS => ?_)
        refine lv_aload_n hx hb dX6_replay_116 rfl (lv_at hl 0 rfl) ?_
        refine gX6_trickMany S5 hin hK hP (List.mem_of_getElem? (i := 6) rfl) (v := (M 0 9) + 1) rfl dX6_replay_117 ?_
        refine lv_iconst (v := 4) hx hb dX6_replay_120 (by decide) ?_
        refine lv_icmp_ne (tgt := 156) hx hb dX6_replay_121 (by decide) (fun c13 => ?_) (fun c13 => ?_)
        · rw [if_neg c13] at h
          refine lv_iinc (v := v1 + 1) (lv' := [(1, .int (v1 + 1)), (0, .ref (ad 0))]) hx hb dX6_replay_156 hl (k := 1) rfl rfl (by decide) rfl (fun ls hl => ?_)
          refine lv_goto (tgt := 54) hx hb dX6_replay_159 (by decide) ?_
          exact ih _ _ _ _ _ _ h hP hS (lv_sub hl [1, 0] rfl) kk
        · rw [if_pos c13] at h
          refine lv_aload_n hx hb dX6_replay_124 rfl (lv_at hl 0 rfl) ?_
          refine lv_aload_n hx hb dX6_replay_125 rfl (lv_at hl 0 rfl) ?_
          refine lv_aload_n hx hb dX6_replay_126 rfl (lv_at hl 0 rfl) ?_
          refine gX6_leader S5 hin hK hP (List.mem_of_getElem? (i := 5) rfl) (v := M 0 10) rfl dX6_replay_127 ?_
          obtain ⟨q14, hqq14, h⟩ := obind_some h
          refine cVM S5 hK hP 0 rfl rfl (As := [.int (M 0 10)]) (kX6_winner l D cA ad _ _ _ hqq14) (cwV 1 hts gX6_replay_X6_winner rfl rfl rfl (by decide +kernel) ⟨(Nat.le_of_ble_eq_true rfl), (Nat.le_of_ble_eq_true rfl)⟩) rfl hl.1 (st0 := _) (rest := [.ref (ad 0)]) rfl (Nat.le_of_ble_eq_true rfl) dX6_replay_130 ⟨Nat.zero_le _, Nat.zero_le _⟩ ?_
          refine pX6_leader S5 hin hK hP hD hS (List.mem_of_getElem? (i := 5) rfl) dX6_replay_133 (fun H locs hP hS => ?_)
          refine lv_aload_n hx hb dX6_replay_136 rfl (lv_at hl 0 rfl) ?_
          refine gX6_tricksOf S5 hin hK hP (List.mem_of_getElem? (i := 3) rfl) dX6_replay_137 ?_
          refine lv_aload_n hx hb dX6_replay_140 rfl (lv_at hl 0 rfl) ?_
          refine gX6_leader S5 hin hK hP (List.mem_of_getElem? (i := 5) rfl) (v := q14) rfl dX6_replay_141 ?_
          refine lv_iconst (v := 2) hx hb dX6_replay_144 (by decide) ?_
          refine r_irem S5 dX6_replay_145 (by decide) ?_
          refine lv_dup2_11 hx hb dX6_replay_146 rfl rfl ?_
          obtain ⟨g15, h⟩ := gd_some h
          refine alM5 S5 hK hP (v := M 5 ((im q14 2).toNatClampNeg)) g15 rfl dX6_replay_147 ?_
          refine lv_iconst (v := 1) hx hb dX6_replay_148 (by decide) ?_
          refine lv_iadd hx hb dX6_replay_149 ?_
          obtain ⟨g16, h⟩ := gd_some h
          refine asM5 S5 hK hP hD hS g16 (k := (im q14 2).toNatClampNeg) rfl dX6_replay_150 (fun H locs hP hS => ?_)
          refine lv_aload_n hx hb dX6_replay_151 rfl (lv_at hl 0 rfl) ?_
          refine lv_iconst (v := 0) hx hb dX6_replay_152 (by decide) ?_
          refine pX6_trickMany S5 hin hK hP hD hS (List.mem_of_getElem? (i := 6) rfl) dX6_replay_153 (fun H locs hP hS => ?_)
          refine lv_iinc (v := v1 + 1) (lv' := [(1, .int (v1 + 1)), (0, .ref (ad 0))]) hx hb dX6_replay_156 hl (k := 1) rfl rfl (by decide) rfl (fun ls hl => ?_)
          refine lv_goto (tgt := 54) hx hb dX6_replay_159 (by decide) ?_
          exact ih _ _ _ _ _ _ h hP hS (lv_sub hl [1, 0] rfl) kk
  refine lv_iconst (v := 0) hx hb dX6_replay_0 (by decide) ?_
  refine lv_istore_n (lv' := [(1, .int 0), (0, .ref (ad 0))]) hx hb dX6_replay_1 rfl hl (by decide) rfl (fun ls hl => ?_)
  refine lv_iload_n hx hb dX6_replay_2 rfl (lv_at hl 0 rfl) ?_
  refine lv_iconst (v := 4) hx hb dX6_replay_3 (by decide) ?_
  refine lv_icmp_ge (tgt := 25) hx hb dX6_replay_4 (by decide) (fun c1 => absurd c1 (by decide)) (fun c1 => ?_)
  refine lv_aload_n hx hb dX6_replay_7 rfl (lv_at hl 1 rfl) ?_
  refine gX6_hands S5 hin hK hP (List.mem_of_getElem? (i := 1) rfl) dX6_replay_8 ?_
  refine lv_iload_n hx hb dX6_replay_11 rfl (lv_at hl 0 rfl) ?_
  refine lv_aload_n hx hb dX6_replay_12 rfl (lv_at hl 1 rfl) ?_
  refine gX6_dealt S5 hin hK hP (List.mem_of_getElem? (i := 2) rfl) dX6_replay_13 ?_
  refine lv_iload_n hx hb dX6_replay_16 rfl (lv_at hl 0 rfl) ?_
  refine alM1 S5 hK hP (v := M 1 0) (by decide) rfl dX6_replay_17 ?_
  refine asM3 S5 hK hP hD hS (by decide) (k := 0) rfl dX6_replay_18 (fun H locs hP hS => ?_)
  refine lv_iinc (v := 1) (lv' := [(1, .int 1), (0, .ref (ad 0))]) hx hb dX6_replay_19 hl (k := 0) rfl rfl (by decide) rfl (fun ls hl => ?_)
  refine lv_goto (tgt := 2) hx hb dX6_replay_22 (by decide) ?_
  refine lv_iload_n hx hb dX6_replay_2 rfl (lv_at hl 0 rfl) ?_
  refine lv_iconst (v := 4) hx hb dX6_replay_3 (by decide) ?_
  refine lv_icmp_ge (tgt := 25) hx hb dX6_replay_4 (by decide) (fun c2 => absurd c2 (by decide)) (fun c2 => ?_)
  refine lv_aload_n hx hb dX6_replay_7 rfl (lv_at hl 1 rfl) ?_
  refine gX6_hands S5 hin hK hP (List.mem_of_getElem? (i := 1) rfl) dX6_replay_8 ?_
  refine lv_iload_n hx hb dX6_replay_11 rfl (lv_at hl 0 rfl) ?_
  refine lv_aload_n hx hb dX6_replay_12 rfl (lv_at hl 1 rfl) ?_
  refine gX6_dealt S5 hin hK hP (List.mem_of_getElem? (i := 2) rfl) dX6_replay_13 ?_
  refine lv_iload_n hx hb dX6_replay_16 rfl (lv_at hl 0 rfl) ?_
  refine alM1 S5 hK hP (v := M 1 1) (by decide) rfl dX6_replay_17 ?_
  refine asM3 S5 hK hP hD hS (by decide) (k := 1) rfl dX6_replay_18 (fun H locs hP hS => ?_)
  refine lv_iinc (v := 2) (lv' := [(1, .int 2), (0, .ref (ad 0))]) hx hb dX6_replay_19 hl (k := 0) rfl rfl (by decide) rfl (fun ls hl => ?_)
  refine lv_goto (tgt := 2) hx hb dX6_replay_22 (by decide) ?_
  refine lv_iload_n hx hb dX6_replay_2 rfl (lv_at hl 0 rfl) ?_
  refine lv_iconst (v := 4) hx hb dX6_replay_3 (by decide) ?_
  refine lv_icmp_ge (tgt := 25) hx hb dX6_replay_4 (by decide) (fun c3 => absurd c3 (by decide)) (fun c3 => ?_)
  refine lv_aload_n hx hb dX6_replay_7 rfl (lv_at hl 1 rfl) ?_
  refine gX6_hands S5 hin hK hP (List.mem_of_getElem? (i := 1) rfl) dX6_replay_8 ?_
  refine lv_iload_n hx hb dX6_replay_11 rfl (lv_at hl 0 rfl) ?_
  refine lv_aload_n hx hb dX6_replay_12 rfl (lv_at hl 1 rfl) ?_
  refine gX6_dealt S5 hin hK hP (List.mem_of_getElem? (i := 2) rfl) dX6_replay_13 ?_
  refine lv_iload_n hx hb dX6_replay_16 rfl (lv_at hl 0 rfl) ?_
  refine alM1 S5 hK hP (v := M 1 2) (by decide) rfl dX6_replay_17 ?_
  refine asM3 S5 hK hP hD hS (by decide) (k := 2) rfl dX6_replay_18 (fun H locs hP hS => ?_)
  refine lv_iinc (v := 3) (lv' := [(1, .int 3), (0, .ref (ad 0))]) hx hb dX6_replay_19 hl (k := 0) rfl rfl (by decide) rfl (fun ls hl => ?_)
  refine lv_goto (tgt := 2) hx hb dX6_replay_22 (by decide) ?_
  refine lv_iload_n hx hb dX6_replay_2 rfl (lv_at hl 0 rfl) ?_
  refine lv_iconst (v := 4) hx hb dX6_replay_3 (by decide) ?_
  refine lv_icmp_ge (tgt := 25) hx hb dX6_replay_4 (by decide) (fun c4 => absurd c4 (by decide)) (fun c4 => ?_)
  refine lv_aload_n hx hb dX6_replay_7 rfl (lv_at hl 1 rfl) ?_
  refine gX6_hands S5 hin hK hP (List.mem_of_getElem? (i := 1) rfl) dX6_replay_8 ?_
  refine lv_iload_n hx hb dX6_replay_11 rfl (lv_at hl 0 rfl) ?_
  refine lv_aload_n hx hb dX6_replay_12 rfl (lv_at hl 1 rfl) ?_
  refine gX6_dealt S5 hin hK hP (List.mem_of_getElem? (i := 2) rfl) dX6_replay_13 ?_
  refine lv_iload_n hx hb dX6_replay_16 rfl (lv_at hl 0 rfl) ?_
  refine alM1 S5 hK hP (v := M 1 3) (by decide) rfl dX6_replay_17 ?_
  refine asM3 S5 hK hP hD hS (by decide) (k := 3) rfl dX6_replay_18 (fun H locs hP hS => ?_)
  refine lv_iinc (v := 4) (lv' := [(1, .int 4), (0, .ref (ad 0))]) hx hb dX6_replay_19 hl (k := 0) rfl rfl (by decide) rfl (fun ls hl => ?_)
  refine lv_goto (tgt := 2) hx hb dX6_replay_22 (by decide) ?_
  refine lv_iload_n hx hb dX6_replay_2 rfl (lv_at hl 0 rfl) ?_
  refine lv_iconst (v := 4) hx hb dX6_replay_3 (by decide) ?_
  refine lv_icmp_ge (tgt := 25) hx hb dX6_replay_4 (by decide) (fun c5 => ?_) (fun c5 => absurd c5 (by decide))
  refine lv_aload_n hx hb dX6_replay_25 rfl (lv_at hl 1 rfl) ?_
  refine gX6_tricksOf S5 hin hK hP (List.mem_of_getElem? (i := 3) rfl) dX6_replay_26 ?_
  refine lv_iconst (v := 0) hx hb dX6_replay_29 (by decide) ?_
  refine lv_iconst (v := 0) hx hb dX6_replay_30 (by decide) ?_
  refine asM5 S5 hK hP hD hS (by decide) (k := 0) rfl dX6_replay_31 (fun H locs hP hS => ?_)
  refine lv_aload_n hx hb dX6_replay_32 rfl (lv_at hl 1 rfl) ?_
  refine gX6_tricksOf S5 hin hK hP (List.mem_of_getElem? (i := 3) rfl) dX6_replay_33 ?_
  refine lv_iconst (v := 1) hx hb dX6_replay_36 (by decide) ?_
  refine lv_iconst (v := 0) hx hb dX6_replay_37 (by decide) ?_
  refine asM5 S5 hK hP hD hS (by decide) (k := 1) rfl dX6_replay_38 (fun H locs hP hS => ?_)
  refine lv_aload_n hx hb dX6_replay_39 rfl (lv_at hl 1 rfl) ?_
  refine lv_aload_n hx hb dX6_replay_40 rfl (lv_at hl 1 rfl) ?_
  refine gX6_firstLeader S5 hin hK hP (List.mem_of_getElem? (i := 4) rfl) (v := M 0 3) rfl dX6_replay_41 ?_
  refine pX6_leader S5 hin hK hP hD hS (List.mem_of_getElem? (i := 5) rfl) dX6_replay_44 (fun H locs hP hS => ?_)
  refine lv_aload_n hx hb dX6_replay_47 rfl (lv_at hl 1 rfl) ?_
  refine lv_iconst (v := 0) hx hb dX6_replay_48 (by decide) ?_
  refine pX6_trickMany S5 hin hK hP hD hS (List.mem_of_getElem? (i := 6) rfl) dX6_replay_49 (fun H locs hP hS => ?_)
  refine lv_iconst (v := 0) hx hb dX6_replay_52 (by decide) ?_
  refine lv_istore_n (lv' := [(1, .int 0), (0, .ref (ad 0))]) hx hb dX6_replay_53 rfl hl (by decide) rfl (fun ls hl => ?_)
  obtain ⟨q6, hqq6, h⟩ := obind_some h
  refine L54 _ _ _ _ _ _ _ hqq6 hP hS (lv_sub hl [1, 0] rfl) (fun H locs hP hS ls hl => ?_)
  have hl := lv_sub (l' := []) hl [] rfl
  obtain rfl := Option.some.inj h
  exact kr _ _ _ _ hP hS dX6_replay_162

-- X6_all
def fX6_all (M : Mem) : Int32 := ((((M 3 0) ||| (M 3 1)) ||| (M 3 2)) ||| (M 3 3))
def rmX6_all : Room := { frames := 0, cells := 0, slots := 0, locals := 0 }
set_option maxHeartbeats 4000000 in
set_option maxRecDepth 100000 in
theorem kX6_all (l : Launch) (D : va_G) (cA : Nat) (ad : Nat → Nat) (M : Mem) : RdM l yX6_all wsX6_all rmX6_all D cA ad M [.ref (ad 0)] (fX6_all M) := by
  obtain ⟨r, h⟩ : ∃ r, fX6_all M = r := ⟨_, rfl⟩
  rw [h]
  unfold fX6_all at h
  refine RdM.of RX6 rfl rfl rfl (Nat.le_of_ble_eq_true rfl) ?_
  intro p e s m args below meth c Q ls S5 hK hP hl kr
  obtain ⟨hx, hb, -, -, hts⟩ := id S5
  have hin : ∀ w ∈ wsX60, w ∈ wsX6_all := fun _ h => List.mem_cons_of_mem _ (List.mem_append_right _ (h))
  refine lv_aload_n hx hb dX6_all_0 rfl (lv_at hl 0 rfl) ?_
  refine gX6_hands S5 hin hK hP (List.mem_of_getElem? (i := 1) rfl) dX6_all_1 ?_
  refine lv_iconst (v := 0) hx hb dX6_all_4 (by decide) ?_
  refine alM3 S5 hK hP (v := M 3 0) (by decide) rfl dX6_all_5 ?_
  refine lv_aload_n hx hb dX6_all_6 rfl (lv_at hl 0 rfl) ?_
  refine gX6_hands S5 hin hK hP (List.mem_of_getElem? (i := 1) rfl) dX6_all_7 ?_
  refine lv_iconst (v := 1) hx hb dX6_all_10 (by decide) ?_
  refine alM3 S5 hK hP (v := M 3 1) (by decide) rfl dX6_all_11 ?_
  refine lv_ior hx hb dX6_all_12 ?_
  refine lv_aload_n hx hb dX6_all_13 rfl (lv_at hl 0 rfl) ?_
  refine gX6_hands S5 hin hK hP (List.mem_of_getElem? (i := 1) rfl) dX6_all_14 ?_
  refine lv_iconst (v := 2) hx hb dX6_all_17 (by decide) ?_
  refine alM3 S5 hK hP (v := M 3 2) (by decide) rfl dX6_all_18 ?_
  refine lv_ior hx hb dX6_all_19 ?_
  refine lv_aload_n hx hb dX6_all_20 rfl (lv_at hl 0 rfl) ?_
  refine gX6_hands S5 hin hK hP (List.mem_of_getElem? (i := 1) rfl) dX6_all_21 ?_
  refine lv_iconst (v := 3) hx hb dX6_all_24 (by decide) ?_
  refine alM3 S5 hK hP (v := M 3 3) (by decide) rfl dX6_all_25 ?_
  refine lv_ior hx hb dX6_all_26 ?_
  subst h
  exact kr _ _ _ rfl rfl dX6_all_27

-- X6_player
def fX6_player (M : Mem) : Int32 := (if (M 0 2) = 0 then ((-1)) else (if (fX6_all M) = 0 then ((-1)) else (im ((M 0 10) + (M 0 9)) 4)))
def rmX6_player : Room := { frames := 1, cells := 0, slots := 0, locals := 20 }
set_option maxHeartbeats 4000000 in
set_option maxRecDepth 100000 in
theorem kX6_player (l : Launch) (D : va_G) (cA : Nat) (ad : Nat → Nat) (M : Mem) : RdM l yX6_player wsX6_player rmX6_player D cA ad M [.ref (ad 0)] (fX6_player M) := by
  obtain ⟨r, h⟩ : ∃ r, fX6_player M = r := ⟨_, rfl⟩
  rw [h]
  unfold fX6_player at h
  refine RdM.of RX6 rfl rfl rfl (Nat.le_of_ble_eq_true rfl) ?_
  intro p e s m args below meth c Q ls S5 hK hP hl kr
  obtain ⟨hx, hb, -, -, hts⟩ := id S5
  have hin : ∀ w ∈ wsX60, w ∈ wsX6_player := fun _ h => List.mem_cons_of_mem _ (List.mem_append_right _ (h))
  refine lv_aload_n hx hb dX6_player_0 rfl (lv_at hl 0 rfl) ?_
  refine gX6_isGame S5 hin hK hP (List.mem_of_getElem? (i := 1) rfl) (v := M 0 2) rfl dX6_player_1 ?_
  refine lv_if_eq (tgt := 14) hx hb dX6_player_4 (by decide) (fun c1 => ?_) (fun c1 => ?_)
  · rw [if_pos c1] at h
    refine lv_iconst (v := (-1)) hx hb dX6_player_14 (by decide) ?_
    refine lv_goto (tgt := 29) hx hb dX6_player_15 (by decide) ?_
    subst h
    exact kr _ _ _ rfl rfl dX6_player_29
  · rw [if_neg c1] at h
    refine lv_aload_n hx hb dX6_player_7 rfl (lv_at hl 0 rfl) ?_
    refine cVM S5 hK hP 0 rfl rfl (As := []) (kX6_all l D cA ad _) (cwV 0 hts gX6_player_X6_all rfl rfl rfl (by decide +kernel) ⟨(Nat.le_of_ble_eq_true rfl), (Nat.le_of_ble_eq_true rfl)⟩) rfl hl.1 (st0 := _) (rest := []) rfl (Nat.le_of_ble_eq_true rfl) dX6_player_8 ⟨Nat.zero_le _, Nat.zero_le _⟩ ?_
    refine lv_if_ne (tgt := 18) hx hb dX6_player_11 (by decide) (fun c2 => ?_) (fun c2 => ?_)
    · rw [if_neg c2] at h
      refine lv_aload_n hx hb dX6_player_18 rfl (lv_at hl 0 rfl) ?_
      refine gX6_leader S5 hin hK hP (List.mem_of_getElem? (i := 2) rfl) (v := M 0 10) rfl dX6_player_19 ?_
      refine lv_aload_n hx hb dX6_player_22 rfl (lv_at hl 0 rfl) ?_
      refine gX6_trickMany S5 hin hK hP (List.mem_of_getElem? (i := 3) rfl) (v := M 0 9) rfl dX6_player_23 ?_
      refine lv_iadd hx hb dX6_player_26 ?_
      refine lv_iconst (v := 4) hx hb dX6_player_27 (by decide) ?_
      refine r_irem S5 dX6_player_28 (by decide) ?_
      subst h
      exact kr _ _ _ rfl rfl dX6_player_29
    · rw [if_pos c2] at h
      refine lv_iconst (v := (-1)) hx hb dX6_player_14 (by decide) ?_
      refine lv_goto (tgt := 29) hx hb dX6_player_15 (by decide) ?_
      subst h
      exact kr _ _ _ rfl rfl dX6_player_29

-- X6_fits
def fX6_fits (p1 : Int32) (M : Mem) : Option (Int32) := (if (fX6_player M) = ((-1)) then some (0) else (if vin (fX6_player M) 4 = true then (if (fX6_has (M 3 ((fX6_player M).toNatClampNeg)) p1) = 0 then some (0) else (if (M 0 9) = 0 then (if (p1 / 6) = (p1 / 6) then some (1) else (if vin (fX6_player M) 4 = true then (if ((sr (M 3 ((fX6_player M).toNatClampNeg)) (6 * (p1 / 6))) &&& 63) = 0 then some (1) else some (0)) else none)) else (if (p1 / 6) = ((M 4 0) / 6) then some (1) else (if vin (fX6_player M) 4 = true then (if ((sr (M 3 ((fX6_player M).toNatClampNeg)) (6 * ((M 4 0) / 6))) &&& 63) = 0 then some (1) else some (0)) else none)))) else none))
def rmX6_fits : Room := { frames := 2, cells := 0, slots := 0, locals := 40 }
set_option maxHeartbeats 4000000 in
set_option maxRecDepth 100000 in
theorem kX6_fits (l : Launch) (D : va_G) (cA : Nat) (ad : Nat → Nat) (p1 : Int32) (M : Mem) (r : Int32) (h : fX6_fits p1 M = some r) : RdM l yX6_fits wsX6_fits rmX6_fits D cA ad M [.ref (ad 0), .int p1] r := by
  unfold fX6_fits at h
  refine RdM.of RX6 rfl rfl rfl (Nat.le_of_ble_eq_true rfl) ?_
  intro p e s m args below meth c Q ls S5 hK hP hl kr
  obtain ⟨hx, hb, -, -, hts⟩ := id S5
  have hin : ∀ w ∈ wsX60, w ∈ wsX6_fits := fun _ h => List.mem_cons_of_mem _ (List.mem_append_right _ (h))
  refine lv_aload_n hx hb dX6_fits_0 rfl (lv_at hl 0 rfl) ?_
  refine cVM S5 hK hP 0 rfl rfl (As := []) (kX6_player l D cA ad _) (cwV 0 hts gX6_fits_X6_player rfl rfl rfl (by decide +kernel) ⟨(Nat.le_of_ble_eq_true rfl), (Nat.le_of_ble_eq_true rfl)⟩) rfl hl.1 (st0 := _) (rest := []) rfl (Nat.le_of_ble_eq_true rfl) dX6_fits_1 ⟨Nat.zero_le _, Nat.zero_le _⟩ ?_
  refine lv_istore_n (lv' := [(2, .int (fX6_player M)), (0, .ref (ad 0)), (1, .int p1)]) hx hb dX6_fits_4 rfl hl (by decide) rfl (fun ls hl => ?_)
  refine lv_iload_n hx hb dX6_fits_5 rfl (lv_at hl 0 rfl) ?_
  refine lv_iconst (v := (-1)) hx hb dX6_fits_6 (by decide) ?_
  refine lv_icmp_eq (tgt := 23) hx hb dX6_fits_7 (by decide) (fun c1 => ?_) (fun c1 => ?_)
  · rw [if_pos c1] at h
    refine lv_iconst (v := 0) hx hb dX6_fits_23 (by decide) ?_
    obtain rfl := Option.some.inj h
    exact kr _ _ _ rfl rfl dX6_fits_24
  · rw [if_neg c1] at h
    refine lv_aload_n hx hb dX6_fits_10 rfl (lv_at hl 1 rfl) ?_
    refine gX6_hands S5 hin hK hP (List.mem_of_getElem? (i := 1) rfl) dX6_fits_11 ?_
    refine lv_iload_n hx hb dX6_fits_14 rfl (lv_at hl 0 rfl) ?_
    obtain ⟨g2, h⟩ := gd_some h
    refine alM3 S5 hK hP (v := M 3 ((fX6_player M).toNatClampNeg)) g2 rfl dX6_fits_15 ?_
    refine lv_iload_n hx hb dX6_fits_16 rfl (lv_at hl 2 rfl) ?_
    refine cS S5 (As := [.int (M 3 ((fX6_player M).toNatClampNeg)), .int p1]) (kX6_has l _ _) (va_cwS 2 hts gX6_fits_X6_has rfl rfl rfl (by decide +kernel) ⟨(Nat.le_of_ble_eq_true rfl), (Nat.le_of_ble_eq_true rfl)⟩) rfl hl.1 (st0 := _) (rest := []) rfl (Nat.le_of_ble_eq_true rfl) dX6_fits_17 ⟨Nat.zero_le _, Nat.zero_le _⟩ ?_
    refine lv_if_ne (tgt := 25) hx hb dX6_fits_20 (by decide) (fun c3 => ?_) (fun c3 => ?_)
    · rw [if_neg c3] at h
      refine lv_aload_n hx hb dX6_fits_25 rfl (lv_at hl 1 rfl) ?_
      refine gX6_trickMany S5 hin hK hP (List.mem_of_getElem? (i := 2) rfl) (v := M 0 9) rfl dX6_fits_26 ?_
      refine lv_if_ne (tgt := 39) hx hb dX6_fits_29 (by decide) (fun c4 => ?_) (fun c4 => ?_)
      · rw [if_neg c4] at h
        refine lv_aload_n hx hb dX6_fits_39 rfl (lv_at hl 1 rfl) ?_
        refine gX6_trick S5 hin hK hP (List.mem_of_getElem? (i := 3) rfl) dX6_fits_40 ?_
        refine lv_iconst (v := 0) hx hb dX6_fits_43 (by decide) ?_
        refine alM4 S5 hK hP (v := M 4 0) (by decide) rfl dX6_fits_44 ?_
        refine lv_bipush (v := 6) hx hb dX6_fits_45 (by decide) ?_
        refine r_idiv S5 dX6_fits_47 (by decide) ?_
        refine lv_istore_n (lv' := [(3, .int ((M 4 0) / 6)), (2, .int (fX6_player M)), (0, .ref (ad 0)), (1, .int p1)]) hx hb dX6_fits_48 rfl hl (by decide) rfl (fun ls hl => ?_)
        refine lv_iload_n hx hb dX6_fits_49 rfl (lv_at hl 3 rfl) ?_
        refine lv_bipush (v := 6) hx hb dX6_fits_50 (by decide) ?_
        refine r_idiv S5 dX6_fits_52 (by decide) ?_
        refine lv_iload_n hx hb dX6_fits_53 rfl (lv_at hl 0 rfl) ?_
        refine lv_icmp_eq (tgt := 74) hx hb dX6_fits_54 (by decide) (fun c5 => ?_) (fun c5 => ?_)
        · rw [if_pos c5] at h
          refine lv_iconst (v := 1) hx hb dX6_fits_74 (by decide) ?_
          refine lv_goto (tgt := 79) hx hb dX6_fits_75 (by decide) ?_
          obtain rfl := Option.some.inj h
          exact kr _ _ _ rfl rfl dX6_fits_79
        · rw [if_neg c5] at h
          refine lv_aload_n hx hb dX6_fits_57 rfl (lv_at hl 2 rfl) ?_
          refine gX6_hands S5 hin hK hP (List.mem_of_getElem? (i := 1) rfl) dX6_fits_58 ?_
          refine lv_iload_n hx hb dX6_fits_61 rfl (lv_at hl 1 rfl) ?_
          obtain ⟨g6, h⟩ := gd_some h
          refine alM3 S5 hK hP (v := M 3 ((fX6_player M).toNatClampNeg)) g6 rfl dX6_fits_62 ?_
          refine lv_bipush (v := 6) hx hb dX6_fits_63 (by decide) ?_
          refine lv_iload_n hx hb dX6_fits_65 rfl (lv_at hl 0 rfl) ?_
          refine lv_imul hx hb dX6_fits_66 ?_
          refine r_ishr S5 dX6_fits_67 ?_
          refine lv_bipush (v := 63) hx hb dX6_fits_68 (by decide) ?_
          refine lv_iand hx hb dX6_fits_70 ?_
          refine lv_if_ne (tgt := 78) hx hb dX6_fits_71 (by decide) (fun c7 => ?_) (fun c7 => ?_)
          · rw [if_neg c7] at h
            refine lv_iconst (v := 0) hx hb dX6_fits_78 (by decide) ?_
            obtain rfl := Option.some.inj h
            exact kr _ _ _ rfl rfl dX6_fits_79
          · rw [if_pos c7] at h
            refine lv_iconst (v := 1) hx hb dX6_fits_74 (by decide) ?_
            refine lv_goto (tgt := 79) hx hb dX6_fits_75 (by decide) ?_
            obtain rfl := Option.some.inj h
            exact kr _ _ _ rfl rfl dX6_fits_79
      · rw [if_pos c4] at h
        refine lv_iload_n hx hb dX6_fits_32 rfl (lv_at hl 2 rfl) ?_
        refine lv_bipush (v := 6) hx hb dX6_fits_33 (by decide) ?_
        refine r_idiv S5 dX6_fits_35 (by decide) ?_
        refine lv_goto (tgt := 48) hx hb dX6_fits_36 (by decide) ?_
        refine lv_istore_n (lv' := [(3, .int (p1 / 6)), (2, .int (fX6_player M)), (0, .ref (ad 0)), (1, .int p1)]) hx hb dX6_fits_48 rfl hl (by decide) rfl (fun ls hl => ?_)
        refine lv_iload_n hx hb dX6_fits_49 rfl (lv_at hl 3 rfl) ?_
        refine lv_bipush (v := 6) hx hb dX6_fits_50 (by decide) ?_
        refine r_idiv S5 dX6_fits_52 (by decide) ?_
        refine lv_iload_n hx hb dX6_fits_53 rfl (lv_at hl 0 rfl) ?_
        refine lv_icmp_eq (tgt := 74) hx hb dX6_fits_54 (by decide) (fun c8 => ?_) (fun c8 => ?_)
        · rw [if_pos c8] at h
          refine lv_iconst (v := 1) hx hb dX6_fits_74 (by decide) ?_
          refine lv_goto (tgt := 79) hx hb dX6_fits_75 (by decide) ?_
          obtain rfl := Option.some.inj h
          exact kr _ _ _ rfl rfl dX6_fits_79
        · rw [if_neg c8] at h
          refine lv_aload_n hx hb dX6_fits_57 rfl (lv_at hl 2 rfl) ?_
          refine gX6_hands S5 hin hK hP (List.mem_of_getElem? (i := 1) rfl) dX6_fits_58 ?_
          refine lv_iload_n hx hb dX6_fits_61 rfl (lv_at hl 1 rfl) ?_
          obtain ⟨g9, h⟩ := gd_some h
          refine alM3 S5 hK hP (v := M 3 ((fX6_player M).toNatClampNeg)) g9 rfl dX6_fits_62 ?_
          refine lv_bipush (v := 6) hx hb dX6_fits_63 (by decide) ?_
          refine lv_iload_n hx hb dX6_fits_65 rfl (lv_at hl 0 rfl) ?_
          refine lv_imul hx hb dX6_fits_66 ?_
          refine r_ishr S5 dX6_fits_67 ?_
          refine lv_bipush (v := 63) hx hb dX6_fits_68 (by decide) ?_
          refine lv_iand hx hb dX6_fits_70 ?_
          refine lv_if_ne (tgt := 78) hx hb dX6_fits_71 (by decide) (fun c10 => ?_) (fun c10 => ?_)
          · rw [if_neg c10] at h
            refine lv_iconst (v := 0) hx hb dX6_fits_78 (by decide) ?_
            obtain rfl := Option.some.inj h
            exact kr _ _ _ rfl rfl dX6_fits_79
          · rw [if_pos c10] at h
            refine lv_iconst (v := 1) hx hb dX6_fits_74 (by decide) ?_
            refine lv_goto (tgt := 79) hx hb dX6_fits_75 (by decide) ?_
            obtain rfl := Option.some.inj h
            exact kr _ _ _ rfl rfl dX6_fits_79
    · rw [if_pos c3] at h
      refine lv_iconst (v := 0) hx hb dX6_fits_23 (by decide) ?_
      obtain rfl := Option.some.inj h
      exact kr _ _ _ rfl rfl dX6_fits_24

-- X6_begin
def fX6_begin (p1 : Int32) (M : Mem) : Option (Int32 × Mem) := (if (fX6_in p1 ((-1)) 3) = 0 then some (0, (mset M 0 6 1)) else (obind (fX6_replay ((mset (mset (mset (mset (mset (mset (mset (mset (mset M 0 6 0) 0 0 p1) 0 2 0) 0 5 0) 0 3 0) 1 0 0) 1 1 0) 1 2 0) 1 3 0))) (fun q9 => some (M 0 0, q9))))
def rmX6_begin : Room := { frames := 3, cells := 0, slots := 0, locals := 67 }
set_option maxHeartbeats 4000000 in
set_option maxRecDepth 100000 in
theorem kX6_begin (l : Launch) (D : va_G) (cA : Nat) (ad : Nat → Nat) (p1 : Int32) (M : Mem) (r : Int32 × Mem) (h : fX6_begin p1 M = some r) : WiM l yX6_begin wsX6_begin rmX6_begin D cA ad M [.ref (ad 0), .int p1] r := by
  unfold fX6_begin at h
  refine WiM.of RX6 rfl rfl rfl (Nat.le_of_ble_eq_true rfl) ?_
  intro p e s m args below meth c Q ls A eA S5 hK hP hD hS hl kr
  have hA : ∀ (H : Heap) (q : Nat), s.heap.size ≤ H.size → AX ad H.size q → A q := fun H q hz h => by rw [eA]; exact AX.mono hz h
  obtain ⟨hx, hb, -, -, hts⟩ := id S5
  have hin : ∀ w ∈ wsX60, w ∈ wsX6_begin := fun _ h => List.mem_cons_of_mem _ (List.mem_append_right _ (h))
  refine lv_aload_n hx hb dX6_begin_0 rfl (lv_at hl 0 rfl) ?_
  refine lv_iload_n hx hb dX6_begin_1 rfl (lv_at hl 1 rfl) ?_
  refine lv_iconst (v := (-1)) hx hb dX6_begin_2 (by decide) ?_
  refine lv_iconst (v := 3) hx hb dX6_begin_3 (by decide) ?_
  refine cS S5 (As := [.int p1, .int ((-1)), .int 3]) (kX6_in l _ _ _) (va_cwS 3 hts gX6_begin_X6_in rfl rfl rfl (by decide +kernel) ⟨(Nat.le_of_ble_eq_true rfl), (Nat.le_of_ble_eq_true rfl)⟩) rfl hl.1 (st0 := _) (rest := [.ref (ad 0)]) rfl (Nat.le_of_ble_eq_true rfl) dX6_begin_4 ⟨Nat.zero_le _, Nat.zero_le _⟩ ?_
  refine lv_if_eq (tgt := 14) hx hb dX6_begin_7 (by decide) (fun c1 => ?_) (fun c1 => ?_)
  · rw [if_pos c1] at h
    refine lv_iconst (v := 1) hx hb dX6_begin_14 (by decide) ?_
    refine pX6_thrown S5 hin hK hP hD hS (List.mem_of_getElem? (i := 1) rfl) dX6_begin_15 (fun H locs hP hS => ?_)
    refine lv_aload_n hx hb dX6_begin_18 rfl (lv_at hl 0 rfl) ?_
    refine gX6_thrown S5 hin hK hP (List.mem_of_getElem? (i := 1) rfl) (v := 1) rfl dX6_begin_19 ?_
    refine lv_if_le (tgt := 27) hx hb dX6_begin_22 (by decide) (fun c2 => absurd c2 (by decide)) (fun c2 => ?_)
    refine lv_iconst (v := 0) hx hb dX6_begin_25 (by decide) ?_
    obtain rfl := Option.some.inj h
    exact kr _ _ _ _ _ rfl rfl hP hS dX6_begin_26
  · rw [if_neg c1] at h
    refine lv_iconst (v := 0) hx hb dX6_begin_10 (by decide) ?_
    refine lv_goto (tgt := 15) hx hb dX6_begin_11 (by decide) ?_
    refine pX6_thrown S5 hin hK hP hD hS (List.mem_of_getElem? (i := 1) rfl) dX6_begin_15 (fun H locs hP hS => ?_)
    refine lv_aload_n hx hb dX6_begin_18 rfl (lv_at hl 0 rfl) ?_
    refine gX6_thrown S5 hin hK hP (List.mem_of_getElem? (i := 1) rfl) (v := 0) rfl dX6_begin_19 ?_
    refine lv_if_le (tgt := 27) hx hb dX6_begin_22 (by decide) (fun c3 => ?_) (fun c3 => absurd c3 (by decide))
    refine lv_aload_n hx hb dX6_begin_27 rfl (lv_at hl 0 rfl) ?_
    refine gX6_trump S5 hin hK hP (List.mem_of_getElem? (i := 2) rfl) (v := M 0 0) rfl dX6_begin_28 ?_
    refine lv_istore_n (lv' := [(2, .int (M 0 0)), (0, .ref (ad 0)), (1, .int p1)]) hx hb dX6_begin_31 rfl hl (by decide) rfl (fun ls hl => ?_)
    refine lv_aload_n hx hb dX6_begin_32 rfl (lv_at hl 1 rfl) ?_
    refine lv_iload_n hx hb dX6_begin_33 rfl (lv_at hl 2 rfl) ?_
    refine pX6_trump S5 hin hK hP hD hS (List.mem_of_getElem? (i := 2) rfl) dX6_begin_34 (fun H locs hP hS => ?_)
    refine lv_aload_n hx hb dX6_begin_37 rfl (lv_at hl 1 rfl) ?_
    refine lv_iconst (v := 0) hx hb dX6_begin_38 (by decide) ?_
    refine pX6_isGame S5 hin hK hP hD hS (List.mem_of_getElem? (i := 3) rfl) rfl rfl dX6_begin_39 (fun H locs hP hS => ?_)
    refine lv_aload_n hx hb dX6_begin_42 rfl (lv_at hl 1 rfl) ?_
    refine lv_iconst (v := 0) hx hb dX6_begin_43 (by decide) ?_
    refine pX6_playedMany S5 hin hK hP hD hS (List.mem_of_getElem? (i := 4) rfl) dX6_begin_44 (fun H locs hP hS => ?_)
    refine lv_aload_n hx hb dX6_begin_47 rfl (lv_at hl 1 rfl) ?_
    refine lv_iconst (v := 0) hx hb dX6_begin_48 (by decide) ?_
    refine pX6_firstLeader S5 hin hK hP hD hS (List.mem_of_getElem? (i := 5) rfl) dX6_begin_49 (fun H locs hP hS => ?_)
    refine lv_iconst (v := 0) hx hb dX6_begin_52 (by decide) ?_
    refine lv_istore_n (lv' := [(3, .int 0), (2, .int (M 0 0)), (0, .ref (ad 0)), (1, .int p1)]) hx hb dX6_begin_53 rfl hl (by decide) rfl (fun ls hl => ?_)
    refine lv_iload_n hx hb dX6_begin_54 rfl (lv_at hl 0 rfl) ?_
    refine lv_iconst (v := 4) hx hb dX6_begin_55 (by decide) ?_
    refine lv_icmp_ge (tgt := 72) hx hb dX6_begin_56 (by decide) (fun c4 => absurd c4 (by decide)) (fun c4 => ?_)
    refine lv_aload_n hx hb dX6_begin_59 rfl (lv_at hl 2 rfl) ?_
    refine gX6_dealt S5 hin hK hP (List.mem_of_getElem? (i := 6) rfl) dX6_begin_60 ?_
    refine lv_iload_n hx hb dX6_begin_63 rfl (lv_at hl 0 rfl) ?_
    refine lv_iconst (v := 0) hx hb dX6_begin_64 (by decide) ?_
    refine asM1 S5 hK hP hD hS (by decide) (k := 0) rfl dX6_begin_65 (fun H locs hP hS => ?_)
    refine lv_iinc (v := 1) (lv' := [(3, .int 1), (2, .int (M 0 0)), (0, .ref (ad 0)), (1, .int p1)]) hx hb dX6_begin_66 hl (k := 0) rfl rfl (by decide) rfl (fun ls hl => ?_)
    refine lv_goto (tgt := 54) hx hb dX6_begin_69 (by decide) ?_
    refine lv_iload_n hx hb dX6_begin_54 rfl (lv_at hl 0 rfl) ?_
    refine lv_iconst (v := 4) hx hb dX6_begin_55 (by decide) ?_
    refine lv_icmp_ge (tgt := 72) hx hb dX6_begin_56 (by decide) (fun c5 => absurd c5 (by decide)) (fun c5 => ?_)
    refine lv_aload_n hx hb dX6_begin_59 rfl (lv_at hl 2 rfl) ?_
    refine gX6_dealt S5 hin hK hP (List.mem_of_getElem? (i := 6) rfl) dX6_begin_60 ?_
    refine lv_iload_n hx hb dX6_begin_63 rfl (lv_at hl 0 rfl) ?_
    refine lv_iconst (v := 0) hx hb dX6_begin_64 (by decide) ?_
    refine asM1 S5 hK hP hD hS (by decide) (k := 1) rfl dX6_begin_65 (fun H locs hP hS => ?_)
    refine lv_iinc (v := 2) (lv' := [(3, .int 2), (2, .int (M 0 0)), (0, .ref (ad 0)), (1, .int p1)]) hx hb dX6_begin_66 hl (k := 0) rfl rfl (by decide) rfl (fun ls hl => ?_)
    refine lv_goto (tgt := 54) hx hb dX6_begin_69 (by decide) ?_
    refine lv_iload_n hx hb dX6_begin_54 rfl (lv_at hl 0 rfl) ?_
    refine lv_iconst (v := 4) hx hb dX6_begin_55 (by decide) ?_
    refine lv_icmp_ge (tgt := 72) hx hb dX6_begin_56 (by decide) (fun c6 => absurd c6 (by decide)) (fun c6 => ?_)
    refine lv_aload_n hx hb dX6_begin_59 rfl (lv_at hl 2 rfl) ?_
    refine gX6_dealt S5 hin hK hP (List.mem_of_getElem? (i := 6) rfl) dX6_begin_60 ?_
    refine lv_iload_n hx hb dX6_begin_63 rfl (lv_at hl 0 rfl) ?_
    refine lv_iconst (v := 0) hx hb dX6_begin_64 (by decide) ?_
    refine asM1 S5 hK hP hD hS (by decide) (k := 2) rfl dX6_begin_65 (fun H locs hP hS => ?_)
    refine lv_iinc (v := 3) (lv' := [(3, .int 3), (2, .int (M 0 0)), (0, .ref (ad 0)), (1, .int p1)]) hx hb dX6_begin_66 hl (k := 0) rfl rfl (by decide) rfl (fun ls hl => ?_)
    refine lv_goto (tgt := 54) hx hb dX6_begin_69 (by decide) ?_
    refine lv_iload_n hx hb dX6_begin_54 rfl (lv_at hl 0 rfl) ?_
    refine lv_iconst (v := 4) hx hb dX6_begin_55 (by decide) ?_
    refine lv_icmp_ge (tgt := 72) hx hb dX6_begin_56 (by decide) (fun c7 => absurd c7 (by decide)) (fun c7 => ?_)
    refine lv_aload_n hx hb dX6_begin_59 rfl (lv_at hl 2 rfl) ?_
    refine gX6_dealt S5 hin hK hP (List.mem_of_getElem? (i := 6) rfl) dX6_begin_60 ?_
    refine lv_iload_n hx hb dX6_begin_63 rfl (lv_at hl 0 rfl) ?_
    refine lv_iconst (v := 0) hx hb dX6_begin_64 (by decide) ?_
    refine asM1 S5 hK hP hD hS (by decide) (k := 3) rfl dX6_begin_65 (fun H locs hP hS => ?_)
    refine lv_iinc (v := 4) (lv' := [(3, .int 4), (2, .int (M 0 0)), (0, .ref (ad 0)), (1, .int p1)]) hx hb dX6_begin_66 hl (k := 0) rfl rfl (by decide) rfl (fun ls hl => ?_)
    refine lv_goto (tgt := 54) hx hb dX6_begin_69 (by decide) ?_
    refine lv_iload_n hx hb dX6_begin_54 rfl (lv_at hl 0 rfl) ?_
    refine lv_iconst (v := 4) hx hb dX6_begin_55 (by decide) ?_
    refine lv_icmp_ge (tgt := 72) hx hb dX6_begin_56 (by decide) (fun c8 => ?_) (fun c8 => absurd c8 (by decide))
    refine lv_aload_n hx hb dX6_begin_72 rfl (lv_at hl 2 rfl) ?_
    obtain ⟨q9, hqq9, h⟩ := obind_some h
    refine cWvM S5 hK hP hD hS (fun _ h => hA _ _ hS.1 h) 0 rfl rfl (As := []) (kX6_replay l D cA ad _ _ hqq9) (cwV 0 hts gX6_begin_X6_replay rfl rfl rfl (by decide +kernel) ⟨(Nat.le_of_ble_eq_true rfl), (Nat.le_of_ble_eq_true rfl)⟩) rfl hl.1 (st0 := _) (rest := []) rfl (Nat.le_of_ble_eq_true rfl) dX6_begin_73 ⟨Nat.zero_le _, Nat.zero_le _⟩ (fun H locs hz hP hS => ?_)
    refine lv_iload_n hx hb dX6_begin_76 rfl (lv_at hl 1 rfl) ?_
    obtain rfl := Option.some.inj h
    exact kr _ _ _ _ _ rfl rfl hP hS dX6_begin_77

-- X6_give
def fX6_give (p1 : Int32) (p2 : Int32) (M : Mem) : Option (Int32 × Mem) := (if (fX6_in p1 0 3) = 0 then some (0, (mset M 0 6 1)) else (if (fX6_in p2 0 23) = 0 then some (0, (mset M 0 6 1)) else (if (M 0 2) = 0 then (if (fX6_has (fX6_all ((mset M 0 6 0))) p2) = 0 then (if vin p1 4 = true then (obind (fX6_size (M 1 p1.toNatClampNeg)) (fun q11 => (if q11 = 4 then some (0, (mset (mset M 0 6 0) 0 6 2)) else (if vin p1 4 = true then (if vin p1 4 = true then (obind (fX6_replay ((mset (mset M 0 6 0) 1 p1.toNatClampNeg ((M 1 p1.toNatClampNeg) ||| (sl 1 p2))))) (fun q16 => (if vin p1 4 = true then (obind (fX6_size (q16 1 p1.toNatClampNeg)) (fun q18 => some (q18, q16))) else none))) else none) else none)))) else none) else some (0, (mset (mset M 0 6 0) 0 6 2))) else some (0, (mset (mset M 0 6 0) 0 6 2)))))
def rmX6_give : Room := { frames := 3, cells := 0, slots := 0, locals := 67 }
set_option maxHeartbeats 4000000 in
set_option maxRecDepth 100000 in
theorem kX6_give (l : Launch) (D : va_G) (cA : Nat) (ad : Nat → Nat) (p1 : Int32) (p2 : Int32) (M : Mem) (r : Int32 × Mem) (h : fX6_give p1 p2 M = some r) : WiM l yX6_give wsX6_give rmX6_give D cA ad M [.ref (ad 0), .int p1, .int p2] r := by
  unfold fX6_give at h
  refine WiM.of RX6 rfl rfl rfl (Nat.le_of_ble_eq_true rfl) ?_
  intro p e s m args below meth c Q ls A eA S5 hK hP hD hS hl kr
  have hA : ∀ (H : Heap) (q : Nat), s.heap.size ≤ H.size → AX ad H.size q → A q := fun H q hz h => by rw [eA]; exact AX.mono hz h
  obtain ⟨hx, hb, -, -, hts⟩ := id S5
  have hin : ∀ w ∈ wsX60, w ∈ wsX6_give := fun _ h => List.mem_cons_of_mem _ (List.mem_append_right _ (h))
  refine lv_aload_n hx hb dX6_give_0 rfl (lv_at hl 0 rfl) ?_
  refine lv_iload_n hx hb dX6_give_1 rfl (lv_at hl 1 rfl) ?_
  refine lv_iconst (v := 0) hx hb dX6_give_2 (by decide) ?_
  refine lv_iconst (v := 3) hx hb dX6_give_3 (by decide) ?_
  refine cS S5 (As := [.int p1, .int 0, .int 3]) (kX6_in l _ _ _) (va_cwS 3 hts gX6_give_X6_in rfl rfl rfl (by decide +kernel) ⟨(Nat.le_of_ble_eq_true rfl), (Nat.le_of_ble_eq_true rfl)⟩) rfl hl.1 (st0 := _) (rest := [.ref (ad 0)]) rfl (Nat.le_of_ble_eq_true rfl) dX6_give_4 ⟨Nat.zero_le _, Nat.zero_le _⟩ ?_
  refine lv_if_eq (tgt := 20) hx hb dX6_give_7 (by decide) (fun c1 => ?_) (fun c1 => ?_)
  · rw [if_pos c1] at h
    refine lv_iconst (v := 1) hx hb dX6_give_20 (by decide) ?_
    refine lv_goto (tgt := 25) hx hb dX6_give_21 (by decide) ?_
    refine pX6_thrown S5 hin hK hP hD hS (List.mem_of_getElem? (i := 1) rfl) dX6_give_25 (fun H locs hP hS => ?_)
    refine lv_aload_n hx hb dX6_give_28 rfl (lv_at hl 0 rfl) ?_
    refine gX6_thrown S5 hin hK hP (List.mem_of_getElem? (i := 1) rfl) (v := 1) rfl dX6_give_29 ?_
    refine lv_if_ne (tgt := 71) hx hb dX6_give_32 (by decide) (fun c2 => ?_) (fun c2 => absurd c2 (by decide))
    refine lv_aload_n hx hb dX6_give_71 rfl (lv_at hl 0 rfl) ?_
    refine gX6_thrown S5 hin hK hP (List.mem_of_getElem? (i := 1) rfl) (v := 1) rfl dX6_give_72 ?_
    refine lv_if_le (tgt := 80) hx hb dX6_give_75 (by decide) (fun c3 => absurd c3 (by decide)) (fun c3 => ?_)
    refine lv_iconst (v := 0) hx hb dX6_give_78 (by decide) ?_
    obtain rfl := Option.some.inj h
    exact kr _ _ _ _ _ rfl rfl hP hS dX6_give_79
  · rw [if_neg c1] at h
    refine lv_iload_n hx hb dX6_give_10 rfl (lv_at hl 2 rfl) ?_
    refine lv_iconst (v := 0) hx hb dX6_give_11 (by decide) ?_
    refine lv_bipush (v := 23) hx hb dX6_give_12 (by decide) ?_
    refine cS S5 (As := [.int p2, .int 0, .int 23]) (kX6_in l _ _ _) (va_cwS 3 hts gX6_give_X6_in rfl rfl rfl (by decide +kernel) ⟨(Nat.le_of_ble_eq_true rfl), (Nat.le_of_ble_eq_true rfl)⟩) rfl hl.1 (st0 := _) (rest := [.ref (ad 0)]) rfl (Nat.le_of_ble_eq_true rfl) dX6_give_14 ⟨Nat.zero_le _, Nat.zero_le _⟩ ?_
    refine lv_if_ne (tgt := 24) hx hb dX6_give_17 (by decide) (fun c4 => ?_) (fun c4 => ?_)
    · rw [if_neg c4] at h
      refine lv_iconst (v := 0) hx hb dX6_give_24 (by decide) ?_
      refine pX6_thrown S5 hin hK hP hD hS (List.mem_of_getElem? (i := 1) rfl) dX6_give_25 (fun H locs hP hS => ?_)
      refine lv_aload_n hx hb dX6_give_28 rfl (lv_at hl 0 rfl) ?_
      refine gX6_thrown S5 hin hK hP (List.mem_of_getElem? (i := 1) rfl) (v := 0) rfl dX6_give_29 ?_
      refine lv_if_ne (tgt := 71) hx hb dX6_give_32 (by decide) (fun c5 => absurd c5 (by decide)) (fun c5 => ?_)
      refine lv_aload_n hx hb dX6_give_35 rfl (lv_at hl 0 rfl) ?_
      refine gX6_isGame S5 hin hK hP (List.mem_of_getElem? (i := 2) rfl) (v := M 0 2) rfl dX6_give_36 ?_
      refine lv_if_ne (tgt := 66) hx hb dX6_give_39 (by decide) (fun c6 => ?_) (fun c6 => ?_)
      · rw [if_neg c6] at h
        refine lv_aload_n hx hb dX6_give_66 rfl (lv_at hl 0 rfl) ?_
        refine lv_iconst (v := 2) hx hb dX6_give_67 (by decide) ?_
        refine pX6_thrown S5 hin hK hP hD hS (List.mem_of_getElem? (i := 1) rfl) dX6_give_68 (fun H locs hP hS => ?_)
        refine lv_aload_n hx hb dX6_give_71 rfl (lv_at hl 0 rfl) ?_
        refine gX6_thrown S5 hin hK hP (List.mem_of_getElem? (i := 1) rfl) (v := 2) rfl dX6_give_72 ?_
        refine lv_if_le (tgt := 80) hx hb dX6_give_75 (by decide) (fun c7 => absurd c7 (by decide)) (fun c7 => ?_)
        refine lv_iconst (v := 0) hx hb dX6_give_78 (by decide) ?_
        obtain rfl := Option.some.inj h
        exact kr _ _ _ _ _ rfl rfl hP hS dX6_give_79
      · rw [if_pos c6] at h
        refine lv_aload_n hx hb dX6_give_42 rfl (lv_at hl 0 rfl) ?_
        refine cVM S5 hK hP 0 rfl rfl (As := []) (kX6_all l D cA ad _) (cwV 0 hts gX6_give_X6_all rfl rfl rfl (by decide +kernel) ⟨(Nat.le_of_ble_eq_true rfl), (Nat.le_of_ble_eq_true rfl)⟩) rfl hl.1 (st0 := _) (rest := []) rfl (Nat.le_of_ble_eq_true rfl) dX6_give_43 ⟨Nat.zero_le _, Nat.zero_le _⟩ ?_
        refine lv_iload_n hx hb dX6_give_46 rfl (lv_at hl 2 rfl) ?_
        refine cS S5 (As := [.int (fX6_all ((mset M 0 6 0))), .int p2]) (kX6_has l _ _) (va_cwS 2 hts gX6_give_X6_has rfl rfl rfl (by decide +kernel) ⟨(Nat.le_of_ble_eq_true rfl), (Nat.le_of_ble_eq_true rfl)⟩) rfl hl.1 (st0 := _) (rest := []) rfl (Nat.le_of_ble_eq_true rfl) dX6_give_47 ⟨Nat.zero_le _, Nat.zero_le _⟩ ?_
        refine lv_if_ne (tgt := 66) hx hb dX6_give_50 (by decide) (fun c8 => ?_) (fun c8 => ?_)
        · rw [if_neg c8] at h
          refine lv_aload_n hx hb dX6_give_66 rfl (lv_at hl 0 rfl) ?_
          refine lv_iconst (v := 2) hx hb dX6_give_67 (by decide) ?_
          refine pX6_thrown S5 hin hK hP hD hS (List.mem_of_getElem? (i := 1) rfl) dX6_give_68 (fun H locs hP hS => ?_)
          refine lv_aload_n hx hb dX6_give_71 rfl (lv_at hl 0 rfl) ?_
          refine gX6_thrown S5 hin hK hP (List.mem_of_getElem? (i := 1) rfl) (v := 2) rfl dX6_give_72 ?_
          refine lv_if_le (tgt := 80) hx hb dX6_give_75 (by decide) (fun c9 => absurd c9 (by decide)) (fun c9 => ?_)
          refine lv_iconst (v := 0) hx hb dX6_give_78 (by decide) ?_
          obtain rfl := Option.some.inj h
          exact kr _ _ _ _ _ rfl rfl hP hS dX6_give_79
        · rw [if_pos c8] at h
          refine lv_aload_n hx hb dX6_give_53 rfl (lv_at hl 0 rfl) ?_
          refine gX6_dealt S5 hin hK hP (List.mem_of_getElem? (i := 3) rfl) dX6_give_54 ?_
          refine lv_iload_n hx hb dX6_give_57 rfl (lv_at hl 1 rfl) ?_
          obtain ⟨g10, h⟩ := gd_some h
          refine alM1 S5 hK hP (v := M 1 p1.toNatClampNeg) g10 rfl dX6_give_58 ?_
          obtain ⟨q11, hqq11, h⟩ := obind_some h
          refine cS S5 (As := [.int (M 1 p1.toNatClampNeg)]) (kX6_size l _ _ hqq11) (va_cwS 1 hts gX6_give_X6_size rfl rfl rfl (by decide +kernel) ⟨(Nat.le_of_ble_eq_true rfl), (Nat.le_of_ble_eq_true rfl)⟩) rfl hl.1 (st0 := _) (rest := []) rfl (Nat.le_of_ble_eq_true rfl) dX6_give_59 ⟨Nat.zero_le _, Nat.zero_le _⟩ ?_
          refine lv_iconst (v := 4) hx hb dX6_give_62 (by decide) ?_
          refine lv_icmp_ne (tgt := 71) hx hb dX6_give_63 (by decide) (fun c12 => ?_) (fun c12 => ?_)
          · rw [if_neg c12] at h
            refine lv_aload_n hx hb dX6_give_71 rfl (lv_at hl 0 rfl) ?_
            refine gX6_thrown S5 hin hK hP (List.mem_of_getElem? (i := 1) rfl) (v := 0) rfl dX6_give_72 ?_
            refine lv_if_le (tgt := 80) hx hb dX6_give_75 (by decide) (fun c13 => ?_) (fun c13 => absurd c13 (by decide))
            refine lv_aload_n hx hb dX6_give_80 rfl (lv_at hl 0 rfl) ?_
            refine gX6_dealt S5 hin hK hP (List.mem_of_getElem? (i := 3) rfl) dX6_give_81 ?_
            refine lv_iload_n hx hb dX6_give_84 rfl (lv_at hl 1 rfl) ?_
            refine lv_dup2_11 hx hb dX6_give_85 rfl rfl ?_
            obtain ⟨g14, h⟩ := gd_some h
            refine alM1 S5 hK hP (v := M 1 p1.toNatClampNeg) g14 rfl dX6_give_86 ?_
            refine lv_iconst (v := 1) hx hb dX6_give_87 (by decide) ?_
            refine lv_iload_n hx hb dX6_give_88 rfl (lv_at hl 2 rfl) ?_
            refine r_ishl S5 dX6_give_89 ?_
            refine lv_ior hx hb dX6_give_90 ?_
            obtain ⟨g15, h⟩ := gd_some h
            refine asM1 S5 hK hP hD hS g15 (k := p1.toNatClampNeg) rfl dX6_give_91 (fun H locs hP hS => ?_)
            refine lv_aload_n hx hb dX6_give_92 rfl (lv_at hl 0 rfl) ?_
            obtain ⟨q16, hqq16, h⟩ := obind_some h
            refine cWvM S5 hK hP hD hS (fun _ h => hA _ _ hS.1 h) 0 rfl rfl (As := []) (kX6_replay l D cA ad _ _ hqq16) (cwV 0 hts gX6_give_X6_replay rfl rfl rfl (by decide +kernel) ⟨(Nat.le_of_ble_eq_true rfl), (Nat.le_of_ble_eq_true rfl)⟩) rfl hl.1 (st0 := _) (rest := []) rfl (Nat.le_of_ble_eq_true rfl) dX6_give_93 ⟨Nat.zero_le _, Nat.zero_le _⟩ (fun H locs hz hP hS => ?_)
            refine lv_aload_n hx hb dX6_give_96 rfl (lv_at hl 0 rfl) ?_
            refine gX6_dealt S5 hin hK hP (List.mem_of_getElem? (i := 3) rfl) dX6_give_97 ?_
            refine lv_iload_n hx hb dX6_give_100 rfl (lv_at hl 1 rfl) ?_
            obtain ⟨g17, h⟩ := gd_some h
            refine alM1 S5 hK hP (v := q16 1 p1.toNatClampNeg) g17 rfl dX6_give_101 ?_
            obtain ⟨q18, hqq18, h⟩ := obind_some h
            refine cS S5 (As := [.int (q16 1 p1.toNatClampNeg)]) (kX6_size l _ _ hqq18) (va_cwS 1 hts gX6_give_X6_size rfl rfl rfl (by decide +kernel) ⟨(Nat.le_of_ble_eq_true rfl), (Nat.le_of_ble_eq_true rfl)⟩) rfl hl.1 (st0 := _) (rest := []) rfl (Nat.le_of_ble_eq_true rfl) dX6_give_102 ⟨Nat.zero_le _, Nat.zero_le _⟩ ?_
            obtain rfl := Option.some.inj h
            exact kr _ _ _ _ _ rfl rfl hP hS dX6_give_105
          · rw [if_pos c12] at h
            refine lv_aload_n hx hb dX6_give_66 rfl (lv_at hl 0 rfl) ?_
            refine lv_iconst (v := 2) hx hb dX6_give_67 (by decide) ?_
            refine pX6_thrown S5 hin hK hP hD hS (List.mem_of_getElem? (i := 1) rfl) dX6_give_68 (fun H locs hP hS => ?_)
            refine lv_aload_n hx hb dX6_give_71 rfl (lv_at hl 0 rfl) ?_
            refine gX6_thrown S5 hin hK hP (List.mem_of_getElem? (i := 1) rfl) (v := 2) rfl dX6_give_72 ?_
            refine lv_if_le (tgt := 80) hx hb dX6_give_75 (by decide) (fun c19 => absurd c19 (by decide)) (fun c19 => ?_)
            refine lv_iconst (v := 0) hx hb dX6_give_78 (by decide) ?_
            obtain rfl := Option.some.inj h
            exact kr _ _ _ _ _ rfl rfl hP hS dX6_give_79
    · rw [if_pos c4] at h
      refine lv_iconst (v := 1) hx hb dX6_give_20 (by decide) ?_
      refine lv_goto (tgt := 25) hx hb dX6_give_21 (by decide) ?_
      refine pX6_thrown S5 hin hK hP hD hS (List.mem_of_getElem? (i := 1) rfl) dX6_give_25 (fun H locs hP hS => ?_)
      refine lv_aload_n hx hb dX6_give_28 rfl (lv_at hl 0 rfl) ?_
      refine gX6_thrown S5 hin hK hP (List.mem_of_getElem? (i := 1) rfl) (v := 1) rfl dX6_give_29 ?_
      refine lv_if_ne (tgt := 71) hx hb dX6_give_32 (by decide) (fun c20 => ?_) (fun c20 => absurd c20 (by decide))
      refine lv_aload_n hx hb dX6_give_71 rfl (lv_at hl 0 rfl) ?_
      refine gX6_thrown S5 hin hK hP (List.mem_of_getElem? (i := 1) rfl) (v := 1) rfl dX6_give_72 ?_
      refine lv_if_le (tgt := 80) hx hb dX6_give_75 (by decide) (fun c21 => absurd c21 (by decide)) (fun c21 => ?_)
      refine lv_iconst (v := 0) hx hb dX6_give_78 (by decide) ?_
      obtain rfl := Option.some.inj h
      exact kr _ _ _ _ _ rfl rfl hP hS dX6_give_79

-- X6_start
def fX6_start (p1 : Int32) (M : Mem) : Option (Int32 × Mem) := (if (fX6_in p1 0 3) = 0 then (obind (fX6_size (M 1 0)) (fun q2 => some (0, (mset M 0 6 1)))) else (obind (fX6_size (M 1 0)) (fun q5 => (if (M 0 2) = 0 then (if q5 = 0 then some (0, (mset (mset M 0 6 0) 0 6 2)) else (obind (fX6_size (M 1 1)) (fun q11 => (if q11 = q5 then (obind (fX6_size (M 1 2)) (fun q14 => (if q14 = q5 then (obind (fX6_size (M 1 3)) (fun q17 => (if q17 = q5 then (obind (fX6_replay ((mset (mset (mset M 0 6 0) 0 2 1) 0 3 p1))) (fun q20 => some (q5, q20))) else some (0, (mset (mset M 0 6 0) 0 6 2))))) else some (0, (mset (mset M 0 6 0) 0 6 2))))) else some (0, (mset (mset M 0 6 0) 0 6 2)))))) else some (0, (mset (mset M 0 6 0) 0 6 2))))))
def rmX6_start : Room := { frames := 3, cells := 0, slots := 0, locals := 67 }
set_option maxHeartbeats 4000000 in
set_option maxRecDepth 100000 in
theorem kX6_start (l : Launch) (D : va_G) (cA : Nat) (ad : Nat → Nat) (p1 : Int32) (M : Mem) (r : Int32 × Mem) (h : fX6_start p1 M = some r) : WiM l yX6_start wsX6_start rmX6_start D cA ad M [.ref (ad 0), .int p1] r := by
  unfold fX6_start at h
  refine WiM.of RX6 rfl rfl rfl (Nat.le_of_ble_eq_true rfl) ?_
  intro p e s m args below meth c Q ls A eA S5 hK hP hD hS hl kr
  have hA : ∀ (H : Heap) (q : Nat), s.heap.size ≤ H.size → AX ad H.size q → A q := fun H q hz h => by rw [eA]; exact AX.mono hz h
  obtain ⟨hx, hb, -, -, hts⟩ := id S5
  have hin : ∀ w ∈ wsX60, w ∈ wsX6_start := fun _ h => List.mem_cons_of_mem _ (List.mem_append_right _ (h))
  refine lv_aload_n hx hb dX6_start_0 rfl (lv_at hl 0 rfl) ?_
  refine lv_iload_n hx hb dX6_start_1 rfl (lv_at hl 1 rfl) ?_
  refine lv_iconst (v := 0) hx hb dX6_start_2 (by decide) ?_
  refine lv_iconst (v := 3) hx hb dX6_start_3 (by decide) ?_
  refine cS S5 (As := [.int p1, .int 0, .int 3]) (kX6_in l _ _ _) (va_cwS 3 hts gX6_start_X6_in rfl rfl rfl (by decide +kernel) ⟨(Nat.le_of_ble_eq_true rfl), (Nat.le_of_ble_eq_true rfl)⟩) rfl hl.1 (st0 := _) (rest := [.ref (ad 0)]) rfl (Nat.le_of_ble_eq_true rfl) dX6_start_4 ⟨Nat.zero_le _, Nat.zero_le _⟩ ?_
  refine lv_if_eq (tgt := 14) hx hb dX6_start_7 (by decide) (fun c1 => ?_) (fun c1 => ?_)
  · rw [if_pos c1] at h
    refine lv_iconst (v := 1) hx hb dX6_start_14 (by decide) ?_
    refine pX6_thrown S5 hin hK hP hD hS (List.mem_of_getElem? (i := 1) rfl) dX6_start_15 (fun H locs hP hS => ?_)
    refine lv_aload_n hx hb dX6_start_18 rfl (lv_at hl 0 rfl) ?_
    refine gX6_dealt S5 hin hK hP (List.mem_of_getElem? (i := 2) rfl) dX6_start_19 ?_
    refine lv_iconst (v := 0) hx hb dX6_start_22 (by decide) ?_
    refine alM1 S5 hK hP (v := M 1 0) (by decide) rfl dX6_start_23 ?_
    obtain ⟨q2, hqq2, h⟩ := obind_some h
    refine cS S5 (As := [.int (M 1 0)]) (kX6_size l _ _ hqq2) (va_cwS 1 hts gX6_start_X6_size rfl rfl rfl (by decide +kernel) ⟨(Nat.le_of_ble_eq_true rfl), (Nat.le_of_ble_eq_true rfl)⟩) rfl hl.1 (st0 := _) (rest := []) rfl (Nat.le_of_ble_eq_true rfl) dX6_start_24 ⟨Nat.zero_le _, Nat.zero_le _⟩ ?_
    refine lv_istore_n (lv' := [(2, .int q2), (0, .ref (ad 0)), (1, .int p1)]) hx hb dX6_start_27 rfl hl (by decide) rfl (fun ls hl => ?_)
    refine lv_aload_n hx hb dX6_start_28 rfl (lv_at hl 1 rfl) ?_
    refine gX6_thrown S5 hin hK hP (List.mem_of_getElem? (i := 1) rfl) (v := 1) rfl dX6_start_29 ?_
    refine lv_if_ne (tgt := 90) hx hb dX6_start_32 (by decide) (fun c3 => ?_) (fun c3 => absurd c3 (by decide))
    refine lv_aload_n hx hb dX6_start_90 rfl (lv_at hl 1 rfl) ?_
    refine gX6_thrown S5 hin hK hP (List.mem_of_getElem? (i := 1) rfl) (v := 1) rfl dX6_start_91 ?_
    refine lv_if_le (tgt := 99) hx hb dX6_start_94 (by decide) (fun c4 => absurd c4 (by decide)) (fun c4 => ?_)
    refine lv_iconst (v := 0) hx hb dX6_start_97 (by decide) ?_
    obtain rfl := Option.some.inj h
    exact kr _ _ _ _ _ rfl rfl hP hS dX6_start_98
  · rw [if_neg c1] at h
    refine lv_iconst (v := 0) hx hb dX6_start_10 (by decide) ?_
    refine lv_goto (tgt := 15) hx hb dX6_start_11 (by decide) ?_
    refine pX6_thrown S5 hin hK hP hD hS (List.mem_of_getElem? (i := 1) rfl) dX6_start_15 (fun H locs hP hS => ?_)
    refine lv_aload_n hx hb dX6_start_18 rfl (lv_at hl 0 rfl) ?_
    refine gX6_dealt S5 hin hK hP (List.mem_of_getElem? (i := 2) rfl) dX6_start_19 ?_
    refine lv_iconst (v := 0) hx hb dX6_start_22 (by decide) ?_
    refine alM1 S5 hK hP (v := M 1 0) (by decide) rfl dX6_start_23 ?_
    obtain ⟨q5, hqq5, h⟩ := obind_some h
    refine cS S5 (As := [.int (M 1 0)]) (kX6_size l _ _ hqq5) (va_cwS 1 hts gX6_start_X6_size rfl rfl rfl (by decide +kernel) ⟨(Nat.le_of_ble_eq_true rfl), (Nat.le_of_ble_eq_true rfl)⟩) rfl hl.1 (st0 := _) (rest := []) rfl (Nat.le_of_ble_eq_true rfl) dX6_start_24 ⟨Nat.zero_le _, Nat.zero_le _⟩ ?_
    refine lv_istore_n (lv' := [(2, .int q5), (0, .ref (ad 0)), (1, .int p1)]) hx hb dX6_start_27 rfl hl (by decide) rfl (fun ls hl => ?_)
    refine lv_aload_n hx hb dX6_start_28 rfl (lv_at hl 1 rfl) ?_
    refine gX6_thrown S5 hin hK hP (List.mem_of_getElem? (i := 1) rfl) (v := 0) rfl dX6_start_29 ?_
    refine lv_if_ne (tgt := 90) hx hb dX6_start_32 (by decide) (fun c6 => absurd c6 (by decide)) (fun c6 => ?_)
    refine lv_aload_n hx hb dX6_start_35 rfl (lv_at hl 1 rfl) ?_
    refine gX6_isGame S5 hin hK hP (List.mem_of_getElem? (i := 3) rfl) (v := M 0 2) rfl dX6_start_36 ?_
    refine lv_if_ne (tgt := 85) hx hb dX6_start_39 (by decide) (fun c7 => ?_) (fun c7 => ?_)
    · rw [if_neg c7] at h
      refine lv_aload_n hx hb dX6_start_85 rfl (lv_at hl 1 rfl) ?_
      refine lv_iconst (v := 2) hx hb dX6_start_86 (by decide) ?_
      refine pX6_thrown S5 hin hK hP hD hS (List.mem_of_getElem? (i := 1) rfl) dX6_start_87 (fun H locs hP hS => ?_)
      refine lv_aload_n hx hb dX6_start_90 rfl (lv_at hl 1 rfl) ?_
      refine gX6_thrown S5 hin hK hP (List.mem_of_getElem? (i := 1) rfl) (v := 2) rfl dX6_start_91 ?_
      refine lv_if_le (tgt := 99) hx hb dX6_start_94 (by decide) (fun c8 => absurd c8 (by decide)) (fun c8 => ?_)
      refine lv_iconst (v := 0) hx hb dX6_start_97 (by decide) ?_
      obtain rfl := Option.some.inj h
      exact kr _ _ _ _ _ rfl rfl hP hS dX6_start_98
    · rw [if_pos c7] at h
      refine lv_iload_n hx hb dX6_start_42 rfl (lv_at hl 0 rfl) ?_
      refine lv_if_eq (tgt := 85) hx hb dX6_start_43 (by decide) (fun c9 => ?_) (fun c9 => ?_)
      · rw [if_pos c9] at h
        refine lv_aload_n hx hb dX6_start_85 rfl (lv_at hl 1 rfl) ?_
        refine lv_iconst (v := 2) hx hb dX6_start_86 (by decide) ?_
        refine pX6_thrown S5 hin hK hP hD hS (List.mem_of_getElem? (i := 1) rfl) dX6_start_87 (fun H locs hP hS => ?_)
        refine lv_aload_n hx hb dX6_start_90 rfl (lv_at hl 1 rfl) ?_
        refine gX6_thrown S5 hin hK hP (List.mem_of_getElem? (i := 1) rfl) (v := 2) rfl dX6_start_91 ?_
        refine lv_if_le (tgt := 99) hx hb dX6_start_94 (by decide) (fun c10 => absurd c10 (by decide)) (fun c10 => ?_)
        refine lv_iconst (v := 0) hx hb dX6_start_97 (by decide) ?_
        obtain rfl := Option.some.inj h
        exact kr _ _ _ _ _ rfl rfl hP hS dX6_start_98
      · rw [if_neg c9] at h
        refine lv_aload_n hx hb dX6_start_46 rfl (lv_at hl 1 rfl) ?_
        refine gX6_dealt S5 hin hK hP (List.mem_of_getElem? (i := 2) rfl) dX6_start_47 ?_
        refine lv_iconst (v := 1) hx hb dX6_start_50 (by decide) ?_
        refine alM1 S5 hK hP (v := M 1 1) (by decide) rfl dX6_start_51 ?_
        obtain ⟨q11, hqq11, h⟩ := obind_some h
        refine cS S5 (As := [.int (M 1 1)]) (kX6_size l _ _ hqq11) (va_cwS 1 hts gX6_start_X6_size rfl rfl rfl (by decide +kernel) ⟨(Nat.le_of_ble_eq_true rfl), (Nat.le_of_ble_eq_true rfl)⟩) rfl hl.1 (st0 := _) (rest := []) rfl (Nat.le_of_ble_eq_true rfl) dX6_start_52 ⟨Nat.zero_le _, Nat.zero_le _⟩ ?_
        refine lv_iload_n hx hb dX6_start_55 rfl (lv_at hl 0 rfl) ?_
        refine lv_icmp_ne (tgt := 85) hx hb dX6_start_56 (by decide) (fun c12 => ?_) (fun c12 => ?_)
        · rw [if_neg c12] at h
          refine lv_aload_n hx hb dX6_start_85 rfl (lv_at hl 1 rfl) ?_
          refine lv_iconst (v := 2) hx hb dX6_start_86 (by decide) ?_
          refine pX6_thrown S5 hin hK hP hD hS (List.mem_of_getElem? (i := 1) rfl) dX6_start_87 (fun H locs hP hS => ?_)
          refine lv_aload_n hx hb dX6_start_90 rfl (lv_at hl 1 rfl) ?_
          refine gX6_thrown S5 hin hK hP (List.mem_of_getElem? (i := 1) rfl) (v := 2) rfl dX6_start_91 ?_
          refine lv_if_le (tgt := 99) hx hb dX6_start_94 (by decide) (fun c13 => absurd c13 (by decide)) (fun c13 => ?_)
          refine lv_iconst (v := 0) hx hb dX6_start_97 (by decide) ?_
          obtain rfl := Option.some.inj h
          exact kr _ _ _ _ _ rfl rfl hP hS dX6_start_98
        · rw [if_pos c12] at h
          refine lv_aload_n hx hb dX6_start_59 rfl (lv_at hl 1 rfl) ?_
          refine gX6_dealt S5 hin hK hP (List.mem_of_getElem? (i := 2) rfl) dX6_start_60 ?_
          refine lv_iconst (v := 2) hx hb dX6_start_63 (by decide) ?_
          refine alM1 S5 hK hP (v := M 1 2) (by decide) rfl dX6_start_64 ?_
          obtain ⟨q14, hqq14, h⟩ := obind_some h
          refine cS S5 (As := [.int (M 1 2)]) (kX6_size l _ _ hqq14) (va_cwS 1 hts gX6_start_X6_size rfl rfl rfl (by decide +kernel) ⟨(Nat.le_of_ble_eq_true rfl), (Nat.le_of_ble_eq_true rfl)⟩) rfl hl.1 (st0 := _) (rest := []) rfl (Nat.le_of_ble_eq_true rfl) dX6_start_65 ⟨Nat.zero_le _, Nat.zero_le _⟩ ?_
          refine lv_iload_n hx hb dX6_start_68 rfl (lv_at hl 0 rfl) ?_
          refine lv_icmp_ne (tgt := 85) hx hb dX6_start_69 (by decide) (fun c15 => ?_) (fun c15 => ?_)
          · rw [if_neg c15] at h
            refine lv_aload_n hx hb dX6_start_85 rfl (lv_at hl 1 rfl) ?_
            refine lv_iconst (v := 2) hx hb dX6_start_86 (by decide) ?_
            refine pX6_thrown S5 hin hK hP hD hS (List.mem_of_getElem? (i := 1) rfl) dX6_start_87 (fun H locs hP hS => ?_)
            refine lv_aload_n hx hb dX6_start_90 rfl (lv_at hl 1 rfl) ?_
            refine gX6_thrown S5 hin hK hP (List.mem_of_getElem? (i := 1) rfl) (v := 2) rfl dX6_start_91 ?_
            refine lv_if_le (tgt := 99) hx hb dX6_start_94 (by decide) (fun c16 => absurd c16 (by decide)) (fun c16 => ?_)
            refine lv_iconst (v := 0) hx hb dX6_start_97 (by decide) ?_
            obtain rfl := Option.some.inj h
            exact kr _ _ _ _ _ rfl rfl hP hS dX6_start_98
          · rw [if_pos c15] at h
            refine lv_aload_n hx hb dX6_start_72 rfl (lv_at hl 1 rfl) ?_
            refine gX6_dealt S5 hin hK hP (List.mem_of_getElem? (i := 2) rfl) dX6_start_73 ?_
            refine lv_iconst (v := 3) hx hb dX6_start_76 (by decide) ?_
            refine alM1 S5 hK hP (v := M 1 3) (by decide) rfl dX6_start_77 ?_
            obtain ⟨q17, hqq17, h⟩ := obind_some h
            refine cS S5 (As := [.int (M 1 3)]) (kX6_size l _ _ hqq17) (va_cwS 1 hts gX6_start_X6_size rfl rfl rfl (by decide +kernel) ⟨(Nat.le_of_ble_eq_true rfl), (Nat.le_of_ble_eq_true rfl)⟩) rfl hl.1 (st0 := _) (rest := []) rfl (Nat.le_of_ble_eq_true rfl) dX6_start_78 ⟨Nat.zero_le _, Nat.zero_le _⟩ ?_
            refine lv_iload_n hx hb dX6_start_81 rfl (lv_at hl 0 rfl) ?_
            refine lv_icmp_eq (tgt := 90) hx hb dX6_start_82 (by decide) (fun c18 => ?_) (fun c18 => ?_)
            · rw [if_pos c18] at h
              refine lv_aload_n hx hb dX6_start_90 rfl (lv_at hl 1 rfl) ?_
              refine gX6_thrown S5 hin hK hP (List.mem_of_getElem? (i := 1) rfl) (v := 0) rfl dX6_start_91 ?_
              refine lv_if_le (tgt := 99) hx hb dX6_start_94 (by decide) (fun c19 => ?_) (fun c19 => absurd c19 (by decide))
              refine lv_aload_n hx hb dX6_start_99 rfl (lv_at hl 1 rfl) ?_
              refine lv_iconst (v := 1) hx hb dX6_start_100 (by decide) ?_
              refine pX6_isGame S5 hin hK hP hD hS (List.mem_of_getElem? (i := 3) rfl) rfl rfl dX6_start_101 (fun H locs hP hS => ?_)
              refine lv_aload_n hx hb dX6_start_104 rfl (lv_at hl 1 rfl) ?_
              refine lv_iload_n hx hb dX6_start_105 rfl (lv_at hl 2 rfl) ?_
              refine pX6_firstLeader S5 hin hK hP hD hS (List.mem_of_getElem? (i := 4) rfl) dX6_start_106 (fun H locs hP hS => ?_)
              refine lv_aload_n hx hb dX6_start_109 rfl (lv_at hl 1 rfl) ?_
              obtain ⟨q20, hqq20, h⟩ := obind_some h
              refine cWvM S5 hK hP hD hS (fun _ h => hA _ _ hS.1 h) 0 rfl rfl (As := []) (kX6_replay l D cA ad _ _ hqq20) (cwV 0 hts gX6_start_X6_replay rfl rfl rfl (by decide +kernel) ⟨(Nat.le_of_ble_eq_true rfl), (Nat.le_of_ble_eq_true rfl)⟩) rfl hl.1 (st0 := _) (rest := []) rfl (Nat.le_of_ble_eq_true rfl) dX6_start_110 ⟨Nat.zero_le _, Nat.zero_le _⟩ (fun H locs hz hP hS => ?_)
              refine lv_iload_n hx hb dX6_start_113 rfl (lv_at hl 0 rfl) ?_
              obtain rfl := Option.some.inj h
              exact kr _ _ _ _ _ rfl rfl hP hS dX6_start_114
            · rw [if_neg c18] at h
              refine lv_aload_n hx hb dX6_start_85 rfl (lv_at hl 1 rfl) ?_
              refine lv_iconst (v := 2) hx hb dX6_start_86 (by decide) ?_
              refine pX6_thrown S5 hin hK hP hD hS (List.mem_of_getElem? (i := 1) rfl) dX6_start_87 (fun H locs hP hS => ?_)
              refine lv_aload_n hx hb dX6_start_90 rfl (lv_at hl 1 rfl) ?_
              refine gX6_thrown S5 hin hK hP (List.mem_of_getElem? (i := 1) rfl) (v := 2) rfl dX6_start_91 ?_
              refine lv_if_le (tgt := 99) hx hb dX6_start_94 (by decide) (fun c21 => absurd c21 (by decide)) (fun c21 => ?_)
              refine lv_iconst (v := 0) hx hb dX6_start_97 (by decide) ?_
              obtain rfl := Option.some.inj h
              exact kr _ _ _ _ _ rfl rfl hP hS dX6_start_98

-- X6_isStarted
def fX6_isStarted (M : Mem) : Option (Int32 × Mem) := (if vb (M 0 2) = true then some (M 0 2, (mset M 0 6 0)) else none)
def rmX6_isStarted : Room := { frames := 0, cells := 0, slots := 0, locals := 0 }
set_option maxHeartbeats 4000000 in
set_option maxRecDepth 100000 in
theorem kX6_isStarted (l : Launch) (D : va_G) (cA : Nat) (ad : Nat → Nat) (M : Mem) (r : Int32 × Mem) (h : fX6_isStarted M = some r) : WiM l yX6_isStarted wsX6_isStarted rmX6_isStarted D cA ad M [.ref (ad 0)] r := by
  unfold fX6_isStarted at h
  refine WiM.of RX6 rfl rfl rfl (Nat.le_of_ble_eq_true rfl) ?_
  intro p e s m args below meth c Q ls A eA S5 hK hP hD hS hl kr
  have hA : ∀ (H : Heap) (q : Nat), s.heap.size ≤ H.size → AX ad H.size q → A q := fun H q hz h => by rw [eA]; exact AX.mono hz h
  obtain ⟨hx, hb, -, -, hts⟩ := id S5
  have hin : ∀ w ∈ wsX60, w ∈ wsX6_isStarted := fun _ h => List.mem_cons_of_mem _ (List.mem_append_right _ (h))
  refine lv_aload_n hx hb dX6_isStarted_0 rfl (lv_at hl 0 rfl) ?_
  refine lv_iconst (v := 0) hx hb dX6_isStarted_1 (by decide) ?_
  refine pX6_thrown S5 hin hK hP hD hS (List.mem_of_getElem? (i := 1) rfl) dX6_isStarted_2 (fun H locs hP hS => ?_)
  refine lv_aload_n hx hb dX6_isStarted_5 rfl (lv_at hl 0 rfl) ?_
  refine gX6_isGame S5 hin hK hP (List.mem_of_getElem? (i := 2) rfl) (v := M 0 2) rfl dX6_isStarted_6 ?_
  obtain ⟨g1, h⟩ := gd_some h
  obtain rfl := Option.some.inj h
  exact kr _ _ _ _ _ rfl (nb (vb_or g1)) hP hS dX6_isStarted_9

-- X6_play
def fX6_play (p1 : Int32) (M : Mem) : Option (Int32 × Mem) := (if (fX6_in p1 0 23) = 0 then some (0, (mset M 0 6 1)) else (obind (fX6_fits p1 M) (fun q2 => (if q2 = 0 then some (0, (mset M 0 6 2)) else (if vin (M 0 5) 16 = true then (obind (fX6_replay ((mset (mset (mset M 0 6 0) 2 ((M 0 5).toNatClampNeg) p1) 0 5 ((M 0 5) + 1)))) (fun q6 => (if (q6 0 9) = 0 then some (q6 0 10, q6) else some ((-1), q6)))) else none)))))
def rmX6_play : Room := { frames := 3, cells := 0, slots := 0, locals := 67 }
set_option maxHeartbeats 4000000 in
set_option maxRecDepth 100000 in
theorem kX6_play (l : Launch) (D : va_G) (cA : Nat) (ad : Nat → Nat) (p1 : Int32) (M : Mem) (r : Int32 × Mem) (h : fX6_play p1 M = some r) : WiM l yX6_play wsX6_play rmX6_play D cA ad M [.ref (ad 0), .int p1] r := by
  unfold fX6_play at h
  refine WiM.of RX6 rfl rfl rfl (Nat.le_of_ble_eq_true rfl) ?_
  intro p e s m args below meth c Q ls A eA S5 hK hP hD hS hl kr
  have hA : ∀ (H : Heap) (q : Nat), s.heap.size ≤ H.size → AX ad H.size q → A q := fun H q hz h => by rw [eA]; exact AX.mono hz h
  obtain ⟨hx, hb, -, -, hts⟩ := id S5
  have hin : ∀ w ∈ wsX60, w ∈ wsX6_play := fun _ h => List.mem_cons_of_mem _ (List.mem_append_right _ (h))
  refine lv_aload_n hx hb dX6_play_0 rfl (lv_at hl 0 rfl) ?_
  refine lv_iload_n hx hb dX6_play_1 rfl (lv_at hl 1 rfl) ?_
  refine lv_iconst (v := 0) hx hb dX6_play_2 (by decide) ?_
  refine lv_bipush (v := 23) hx hb dX6_play_3 (by decide) ?_
  refine cS S5 (As := [.int p1, .int 0, .int 23]) (kX6_in l _ _ _) (va_cwS 3 hts gX6_play_X6_in rfl rfl rfl (by decide +kernel) ⟨(Nat.le_of_ble_eq_true rfl), (Nat.le_of_ble_eq_true rfl)⟩) rfl hl.1 (st0 := _) (rest := [.ref (ad 0)]) rfl (Nat.le_of_ble_eq_true rfl) dX6_play_5 ⟨Nat.zero_le _, Nat.zero_le _⟩ ?_
  refine lv_if_ne (tgt := 15) hx hb dX6_play_8 (by decide) (fun c1 => ?_) (fun c1 => ?_)
  · rw [if_neg c1] at h
    refine lv_aload_n hx hb dX6_play_15 rfl (lv_at hl 0 rfl) ?_
    refine lv_iload_n hx hb dX6_play_16 rfl (lv_at hl 1 rfl) ?_
    obtain ⟨q2, hqq2, h⟩ := obind_some h
    refine cVM S5 hK hP 0 rfl rfl (As := [.int p1]) (kX6_fits l D cA ad _ _ _ hqq2) (cwV 1 hts gX6_play_X6_fits rfl rfl rfl (by decide +kernel) ⟨(Nat.le_of_ble_eq_true rfl), (Nat.le_of_ble_eq_true rfl)⟩) rfl hl.1 (st0 := _) (rest := [.ref (ad 0)]) rfl (Nat.le_of_ble_eq_true rfl) dX6_play_17 ⟨Nat.zero_le _, Nat.zero_le _⟩ ?_
    refine lv_if_ne (tgt := 27) hx hb dX6_play_20 (by decide) (fun c3 => ?_) (fun c3 => ?_)
    · rw [if_neg c3] at h
      refine lv_iconst (v := 0) hx hb dX6_play_27 (by decide) ?_
      refine pX6_thrown S5 hin hK hP hD hS (List.mem_of_getElem? (i := 1) rfl) dX6_play_28 (fun H locs hP hS => ?_)
      refine lv_aload_n hx hb dX6_play_31 rfl (lv_at hl 0 rfl) ?_
      refine gX6_thrown S5 hin hK hP (List.mem_of_getElem? (i := 1) rfl) (v := 0) rfl dX6_play_32 ?_
      refine lv_if_le (tgt := 40) hx hb dX6_play_35 (by decide) (fun c4 => ?_) (fun c4 => absurd c4 (by decide))
      refine lv_aload_n hx hb dX6_play_40 rfl (lv_at hl 0 rfl) ?_
      refine gX6_played S5 hin hK hP (List.mem_of_getElem? (i := 2) rfl) dX6_play_41 ?_
      refine lv_aload_n hx hb dX6_play_44 rfl (lv_at hl 0 rfl) ?_
      refine gX6_playedMany S5 hin hK hP (List.mem_of_getElem? (i := 3) rfl) (v := M 0 5) rfl dX6_play_45 ?_
      refine lv_iload_n hx hb dX6_play_48 rfl (lv_at hl 1 rfl) ?_
      obtain ⟨g5, h⟩ := gd_some h
      refine asM2 S5 hK hP hD hS g5 (k := (M 0 5).toNatClampNeg) rfl dX6_play_49 (fun H locs hP hS => ?_)
      refine lv_aload_n hx hb dX6_play_50 rfl (lv_at hl 0 rfl) ?_
      refine lv_dup hx hb dX6_play_51 rfl ?_
      refine gX6_playedMany S5 hin hK hP (List.mem_of_getElem? (i := 3) rfl) (v := M 0 5) rfl dX6_play_52 ?_
      refine lv_iconst (v := 1) hx hb dX6_play_55 (by decide) ?_
      refine lv_iadd hx hb dX6_play_56 ?_
      refine pX6_playedMany S5 hin hK hP hD hS (List.mem_of_getElem? (i := 3) rfl) dX6_play_57 (fun H locs hP hS => ?_)
      refine lv_aload_n hx hb dX6_play_60 rfl (lv_at hl 0 rfl) ?_
      obtain ⟨q6, hqq6, h⟩ := obind_some h
      refine cWvM S5 hK hP hD hS (fun _ h => hA _ _ hS.1 h) 0 rfl rfl (As := []) (kX6_replay l D cA ad _ _ hqq6) (cwV 0 hts gX6_play_X6_replay rfl rfl rfl (by decide +kernel) ⟨(Nat.le_of_ble_eq_true rfl), (Nat.le_of_ble_eq_true rfl)⟩) rfl hl.1 (st0 := _) (rest := []) rfl (Nat.le_of_ble_eq_true rfl) dX6_play_61 ⟨Nat.zero_le _, Nat.zero_le _⟩ (fun H locs hz hP hS => ?_)
      refine lv_aload_n hx hb dX6_play_64 rfl (lv_at hl 0 rfl) ?_
      refine gX6_trickMany S5 hin hK hP (List.mem_of_getElem? (i := 4) rfl) (v := q6 0 9) rfl dX6_play_65 ?_
      refine lv_if_ne (tgt := 78) hx hb dX6_play_68 (by decide) (fun c7 => ?_) (fun c7 => ?_)
      · rw [if_neg c7] at h
        refine lv_iconst (v := (-1)) hx hb dX6_play_78 (by decide) ?_
        obtain rfl := Option.some.inj h
        exact kr _ _ _ _ _ rfl rfl hP hS dX6_play_79
      · rw [if_pos c7] at h
        refine lv_aload_n hx hb dX6_play_71 rfl (lv_at hl 0 rfl) ?_
        refine gX6_leader S5 hin hK hP (List.mem_of_getElem? (i := 5) rfl) (v := q6 0 10) rfl dX6_play_72 ?_
        refine lv_goto (tgt := 79) hx hb dX6_play_75 (by decide) ?_
        obtain rfl := Option.some.inj h
        exact kr _ _ _ _ _ rfl rfl hP hS dX6_play_79
    · rw [if_pos c3] at h
      refine lv_iconst (v := 2) hx hb dX6_play_23 (by decide) ?_
      refine lv_goto (tgt := 28) hx hb dX6_play_24 (by decide) ?_
      refine pX6_thrown S5 hin hK hP hD hS (List.mem_of_getElem? (i := 1) rfl) dX6_play_28 (fun H locs hP hS => ?_)
      refine lv_aload_n hx hb dX6_play_31 rfl (lv_at hl 0 rfl) ?_
      refine gX6_thrown S5 hin hK hP (List.mem_of_getElem? (i := 1) rfl) (v := 2) rfl dX6_play_32 ?_
      refine lv_if_le (tgt := 40) hx hb dX6_play_35 (by decide) (fun c8 => absurd c8 (by decide)) (fun c8 => ?_)
      refine lv_iconst (v := 0) hx hb dX6_play_38 (by decide) ?_
      obtain rfl := Option.some.inj h
      exact kr _ _ _ _ _ rfl rfl hP hS dX6_play_39
  · rw [if_pos c1] at h
    refine lv_iconst (v := 1) hx hb dX6_play_11 (by decide) ?_
    refine lv_goto (tgt := 28) hx hb dX6_play_12 (by decide) ?_
    refine pX6_thrown S5 hin hK hP hD hS (List.mem_of_getElem? (i := 1) rfl) dX6_play_28 (fun H locs hP hS => ?_)
    refine lv_aload_n hx hb dX6_play_31 rfl (lv_at hl 0 rfl) ?_
    refine gX6_thrown S5 hin hK hP (List.mem_of_getElem? (i := 1) rfl) (v := 1) rfl dX6_play_32 ?_
    refine lv_if_le (tgt := 40) hx hb dX6_play_35 (by decide) (fun c9 => absurd c9 (by decide)) (fun c9 => ?_)
    refine lv_iconst (v := 0) hx hb dX6_play_38 (by decide) ?_
    obtain rfl := Option.some.inj h
    exact kr _ _ _ _ _ rfl rfl hP hS dX6_play_39

-- X6_takeBack
def fX6_takeBack (M : Mem) : Option (Int32 × Mem) := (if (M 0 5) = 0 then some (0, (mset M 0 6 1)) else (obind (fX6_replay ((mset (mset M 0 6 0) 0 5 ((M 0 5) - 1)))) (fun q3 => (if vin (q3 0 5) 16 = true then some (q3 2 ((q3 0 5).toNatClampNeg), q3) else none))))
def rmX6_takeBack : Room := { frames := 3, cells := 0, slots := 0, locals := 67 }
set_option maxHeartbeats 4000000 in
set_option maxRecDepth 100000 in
theorem kX6_takeBack (l : Launch) (D : va_G) (cA : Nat) (ad : Nat → Nat) (M : Mem) (r : Int32 × Mem) (h : fX6_takeBack M = some r) : WiM l yX6_takeBack wsX6_takeBack rmX6_takeBack D cA ad M [.ref (ad 0)] r := by
  unfold fX6_takeBack at h
  refine WiM.of RX6 rfl rfl rfl (Nat.le_of_ble_eq_true rfl) ?_
  intro p e s m args below meth c Q ls A eA S5 hK hP hD hS hl kr
  have hA : ∀ (H : Heap) (q : Nat), s.heap.size ≤ H.size → AX ad H.size q → A q := fun H q hz h => by rw [eA]; exact AX.mono hz h
  obtain ⟨hx, hb, -, -, hts⟩ := id S5
  have hin : ∀ w ∈ wsX60, w ∈ wsX6_takeBack := fun _ h => List.mem_cons_of_mem _ (List.mem_append_right _ (h))
  refine lv_aload_n hx hb dX6_takeBack_0 rfl (lv_at hl 0 rfl) ?_
  refine lv_aload_n hx hb dX6_takeBack_1 rfl (lv_at hl 0 rfl) ?_
  refine gX6_playedMany S5 hin hK hP (List.mem_of_getElem? (i := 1) rfl) (v := M 0 5) rfl dX6_takeBack_2 ?_
  refine lv_if_ne (tgt := 12) hx hb dX6_takeBack_5 (by decide) (fun c1 => ?_) (fun c1 => ?_)
  · rw [if_neg c1] at h
    refine lv_iconst (v := 0) hx hb dX6_takeBack_12 (by decide) ?_
    refine pX6_thrown S5 hin hK hP hD hS (List.mem_of_getElem? (i := 2) rfl) dX6_takeBack_13 (fun H locs hP hS => ?_)
    refine lv_aload_n hx hb dX6_takeBack_16 rfl (lv_at hl 0 rfl) ?_
    refine gX6_thrown S5 hin hK hP (List.mem_of_getElem? (i := 2) rfl) (v := 0) rfl dX6_takeBack_17 ?_
    refine lv_if_le (tgt := 25) hx hb dX6_takeBack_20 (by decide) (fun c2 => ?_) (fun c2 => absurd c2 (by decide))
    refine lv_aload_n hx hb dX6_takeBack_25 rfl (lv_at hl 0 rfl) ?_
    refine lv_dup hx hb dX6_takeBack_26 rfl ?_
    refine gX6_playedMany S5 hin hK hP (List.mem_of_getElem? (i := 1) rfl) (v := M 0 5) rfl dX6_takeBack_27 ?_
    refine lv_iconst (v := 1) hx hb dX6_takeBack_30 (by decide) ?_
    refine lv_isub hx hb dX6_takeBack_31 ?_
    refine pX6_playedMany S5 hin hK hP hD hS (List.mem_of_getElem? (i := 1) rfl) dX6_takeBack_32 (fun H locs hP hS => ?_)
    refine lv_aload_n hx hb dX6_takeBack_35 rfl (lv_at hl 0 rfl) ?_
    obtain ⟨q3, hqq3, h⟩ := obind_some h
    refine cWvM S5 hK hP hD hS (fun _ h => hA _ _ hS.1 h) 0 rfl rfl (As := []) (kX6_replay l D cA ad _ _ hqq3) (cwV 0 hts gX6_takeBack_X6_replay rfl rfl rfl (by decide +kernel) ⟨(Nat.le_of_ble_eq_true rfl), (Nat.le_of_ble_eq_true rfl)⟩) rfl hl.1 (st0 := _) (rest := []) rfl (Nat.le_of_ble_eq_true rfl) dX6_takeBack_36 ⟨Nat.zero_le _, Nat.zero_le _⟩ (fun H locs hz hP hS => ?_)
    refine lv_aload_n hx hb dX6_takeBack_39 rfl (lv_at hl 0 rfl) ?_
    refine gX6_played S5 hin hK hP (List.mem_of_getElem? (i := 3) rfl) dX6_takeBack_40 ?_
    refine lv_aload_n hx hb dX6_takeBack_43 rfl (lv_at hl 0 rfl) ?_
    refine gX6_playedMany S5 hin hK hP (List.mem_of_getElem? (i := 1) rfl) (v := q3 0 5) rfl dX6_takeBack_44 ?_
    obtain ⟨g4, h⟩ := gd_some h
    refine alM2 S5 hK hP (v := q3 2 ((q3 0 5).toNatClampNeg)) g4 rfl dX6_takeBack_47 ?_
    obtain rfl := Option.some.inj h
    exact kr _ _ _ _ _ rfl rfl hP hS dX6_takeBack_48
  · rw [if_pos c1] at h
    refine lv_iconst (v := 1) hx hb dX6_takeBack_8 (by decide) ?_
    refine lv_goto (tgt := 13) hx hb dX6_takeBack_9 (by decide) ?_
    refine pX6_thrown S5 hin hK hP hD hS (List.mem_of_getElem? (i := 2) rfl) dX6_takeBack_13 (fun H locs hP hS => ?_)
    refine lv_aload_n hx hb dX6_takeBack_16 rfl (lv_at hl 0 rfl) ?_
    refine gX6_thrown S5 hin hK hP (List.mem_of_getElem? (i := 2) rfl) (v := 1) rfl dX6_takeBack_17 ?_
    refine lv_if_le (tgt := 25) hx hb dX6_takeBack_20 (by decide) (fun c5 => absurd c5 (by decide)) (fun c5 => ?_)
    refine lv_iconst (v := 0) hx hb dX6_takeBack_23 (by decide) ?_
    obtain rfl := Option.some.inj h
    exact kr _ _ _ _ _ rfl rfl hP hS dX6_takeBack_24

-- X6_canPlay
def fX6_canPlay (p1 : Int32) (M : Mem) : Option (Int32 × Mem) := (if (fX6_in p1 0 23) = 0 then some (0, (mset M 0 6 1)) else (obind (fX6_fits p1 ((mset M 0 6 0))) (fun q4 => (if q4 = 0 then some (0, (mset M 0 6 0)) else some (1, (mset M 0 6 0))))))
def rmX6_canPlay : Room := { frames := 3, cells := 0, slots := 0, locals := 63 }
set_option maxHeartbeats 4000000 in
set_option maxRecDepth 100000 in
theorem kX6_canPlay (l : Launch) (D : va_G) (cA : Nat) (ad : Nat → Nat) (p1 : Int32) (M : Mem) (r : Int32 × Mem) (h : fX6_canPlay p1 M = some r) : WiM l yX6_canPlay wsX6_canPlay rmX6_canPlay D cA ad M [.ref (ad 0), .int p1] r := by
  unfold fX6_canPlay at h
  refine WiM.of RX6 rfl rfl rfl (Nat.le_of_ble_eq_true rfl) ?_
  intro p e s m args below meth c Q ls A eA S5 hK hP hD hS hl kr
  have hA : ∀ (H : Heap) (q : Nat), s.heap.size ≤ H.size → AX ad H.size q → A q := fun H q hz h => by rw [eA]; exact AX.mono hz h
  obtain ⟨hx, hb, -, -, hts⟩ := id S5
  have hin : ∀ w ∈ wsX60, w ∈ wsX6_canPlay := fun _ h => List.mem_cons_of_mem _ (List.mem_append_right _ (h))
  refine lv_aload_n hx hb dX6_canPlay_0 rfl (lv_at hl 0 rfl) ?_
  refine lv_iload_n hx hb dX6_canPlay_1 rfl (lv_at hl 1 rfl) ?_
  refine lv_iconst (v := 0) hx hb dX6_canPlay_2 (by decide) ?_
  refine lv_bipush (v := 23) hx hb dX6_canPlay_3 (by decide) ?_
  refine cS S5 (As := [.int p1, .int 0, .int 23]) (kX6_in l _ _ _) (va_cwS 3 hts gX6_canPlay_X6_in rfl rfl rfl (by decide +kernel) ⟨(Nat.le_of_ble_eq_true rfl), (Nat.le_of_ble_eq_true rfl)⟩) rfl hl.1 (st0 := _) (rest := [.ref (ad 0)]) rfl (Nat.le_of_ble_eq_true rfl) dX6_canPlay_5 ⟨Nat.zero_le _, Nat.zero_le _⟩ ?_
  refine lv_if_eq (tgt := 15) hx hb dX6_canPlay_8 (by decide) (fun c1 => ?_) (fun c1 => ?_)
  · rw [if_pos c1] at h
    refine lv_iconst (v := 1) hx hb dX6_canPlay_15 (by decide) ?_
    refine pX6_thrown S5 hin hK hP hD hS (List.mem_of_getElem? (i := 1) rfl) dX6_canPlay_16 (fun H locs hP hS => ?_)
    refine lv_aload_n hx hb dX6_canPlay_19 rfl (lv_at hl 0 rfl) ?_
    refine gX6_thrown S5 hin hK hP (List.mem_of_getElem? (i := 1) rfl) (v := 1) rfl dX6_canPlay_20 ?_
    refine lv_if_ne (tgt := 38) hx hb dX6_canPlay_23 (by decide) (fun c2 => ?_) (fun c2 => absurd c2 (by decide))
    refine lv_iconst (v := 0) hx hb dX6_canPlay_38 (by decide) ?_
    obtain rfl := Option.some.inj h
    exact kr _ _ _ _ _ rfl rfl hP hS dX6_canPlay_39
  · rw [if_neg c1] at h
    refine lv_iconst (v := 0) hx hb dX6_canPlay_11 (by decide) ?_
    refine lv_goto (tgt := 16) hx hb dX6_canPlay_12 (by decide) ?_
    refine pX6_thrown S5 hin hK hP hD hS (List.mem_of_getElem? (i := 1) rfl) dX6_canPlay_16 (fun H locs hP hS => ?_)
    refine lv_aload_n hx hb dX6_canPlay_19 rfl (lv_at hl 0 rfl) ?_
    refine gX6_thrown S5 hin hK hP (List.mem_of_getElem? (i := 1) rfl) (v := 0) rfl dX6_canPlay_20 ?_
    refine lv_if_ne (tgt := 38) hx hb dX6_canPlay_23 (by decide) (fun c3 => absurd c3 (by decide)) (fun c3 => ?_)
    refine lv_aload_n hx hb dX6_canPlay_26 rfl (lv_at hl 0 rfl) ?_
    refine lv_iload_n hx hb dX6_canPlay_27 rfl (lv_at hl 1 rfl) ?_
    obtain ⟨q4, hqq4, h⟩ := obind_some h
    refine cVM S5 hK hP 0 rfl rfl (As := [.int p1]) (kX6_fits l D cA ad _ _ _ hqq4) (cwV 1 hts gX6_canPlay_X6_fits rfl rfl rfl (by decide +kernel) ⟨(Nat.le_of_ble_eq_true rfl), (Nat.le_of_ble_eq_true rfl)⟩) rfl hl.1 (st0 := _) (rest := []) rfl (Nat.le_of_ble_eq_true rfl) dX6_canPlay_28 ⟨Nat.zero_le _, Nat.zero_le _⟩ ?_
    refine lv_if_eq (tgt := 38) hx hb dX6_canPlay_31 (by decide) (fun c5 => ?_) (fun c5 => ?_)
    · rw [if_pos c5] at h
      refine lv_iconst (v := 0) hx hb dX6_canPlay_38 (by decide) ?_
      obtain rfl := Option.some.inj h
      exact kr _ _ _ _ _ rfl rfl hP hS dX6_canPlay_39
    · rw [if_neg c5] at h
      refine lv_iconst (v := 1) hx hb dX6_canPlay_34 (by decide) ?_
      refine lv_goto (tgt := 39) hx hb dX6_canPlay_35 (by decide) ?_
      obtain rfl := Option.some.inj h
      exact kr _ _ _ _ _ rfl rfl hP hS dX6_canPlay_39

-- X6_turn
def fX6_turn (M : Mem) : Int32 × Mem := (fX6_player ((mset M 0 6 0)), (mset M 0 6 0))
def rmX6_turn : Room := { frames := 2, cells := 0, slots := 0, locals := 40 }
set_option maxHeartbeats 4000000 in
set_option maxRecDepth 100000 in
theorem kX6_turn (l : Launch) (D : va_G) (cA : Nat) (ad : Nat → Nat) (M : Mem) : WiM l yX6_turn wsX6_turn rmX6_turn D cA ad M [.ref (ad 0)] (fX6_turn M) := by
  obtain ⟨r, h⟩ : ∃ r, fX6_turn M = r := ⟨_, rfl⟩
  rw [h]
  unfold fX6_turn at h
  refine WiM.of RX6 rfl rfl rfl (Nat.le_of_ble_eq_true rfl) ?_
  intro p e s m args below meth c Q ls A eA S5 hK hP hD hS hl kr
  have hA : ∀ (H : Heap) (q : Nat), s.heap.size ≤ H.size → AX ad H.size q → A q := fun H q hz h => by rw [eA]; exact AX.mono hz h
  obtain ⟨hx, hb, -, -, hts⟩ := id S5
  have hin : ∀ w ∈ wsX60, w ∈ wsX6_turn := fun _ h => List.mem_cons_of_mem _ (List.mem_append_right _ (h))
  refine lv_aload_n hx hb dX6_turn_0 rfl (lv_at hl 0 rfl) ?_
  refine lv_iconst (v := 0) hx hb dX6_turn_1 (by decide) ?_
  refine pX6_thrown S5 hin hK hP hD hS (List.mem_of_getElem? (i := 1) rfl) dX6_turn_2 (fun H locs hP hS => ?_)
  refine lv_aload_n hx hb dX6_turn_5 rfl (lv_at hl 0 rfl) ?_
  refine cVM S5 hK hP 0 rfl rfl (As := []) (kX6_player l D cA ad _) (cwV 0 hts gX6_turn_X6_player rfl rfl rfl (by decide +kernel) ⟨(Nat.le_of_ble_eq_true rfl), (Nat.le_of_ble_eq_true rfl)⟩) rfl hl.1 (st0 := _) (rest := []) rfl (Nat.le_of_ble_eq_true rfl) dX6_turn_6 ⟨Nat.zero_le _, Nat.zero_le _⟩ ?_
  subst h
  exact kr _ _ _ _ _ rfl rfl hP hS dX6_turn_9

-- X6_hand
def fX6_hand (p1 : Int32) (M : Mem) : Option (Int32 × Mem) := (if (fX6_in p1 0 3) = 0 then some (0, (mset M 0 6 1)) else (if vin p1 4 = true then some (M 3 p1.toNatClampNeg, (mset M 0 6 0)) else none))
def rmX6_hand : Room := { frames := 1, cells := 0, slots := 0, locals := 22 }
set_option maxHeartbeats 4000000 in
set_option maxRecDepth 100000 in
theorem kX6_hand (l : Launch) (D : va_G) (cA : Nat) (ad : Nat → Nat) (p1 : Int32) (M : Mem) (r : Int32 × Mem) (h : fX6_hand p1 M = some r) : WiM l yX6_hand wsX6_hand rmX6_hand D cA ad M [.ref (ad 0), .int p1] r := by
  unfold fX6_hand at h
  refine WiM.of RX6 rfl rfl rfl (Nat.le_of_ble_eq_true rfl) ?_
  intro p e s m args below meth c Q ls A eA S5 hK hP hD hS hl kr
  have hA : ∀ (H : Heap) (q : Nat), s.heap.size ≤ H.size → AX ad H.size q → A q := fun H q hz h => by rw [eA]; exact AX.mono hz h
  obtain ⟨hx, hb, -, -, hts⟩ := id S5
  have hin : ∀ w ∈ wsX60, w ∈ wsX6_hand := fun _ h => List.mem_cons_of_mem _ (List.mem_append_right _ (h))
  refine lv_aload_n hx hb dX6_hand_0 rfl (lv_at hl 0 rfl) ?_
  refine lv_iload_n hx hb dX6_hand_1 rfl (lv_at hl 1 rfl) ?_
  refine lv_iconst (v := 0) hx hb dX6_hand_2 (by decide) ?_
  refine lv_iconst (v := 3) hx hb dX6_hand_3 (by decide) ?_
  refine cS S5 (As := [.int p1, .int 0, .int 3]) (kX6_in l _ _ _) (va_cwS 3 hts gX6_hand_X6_in rfl rfl rfl (by decide +kernel) ⟨(Nat.le_of_ble_eq_true rfl), (Nat.le_of_ble_eq_true rfl)⟩) rfl hl.1 (st0 := _) (rest := [.ref (ad 0)]) rfl (Nat.le_of_ble_eq_true rfl) dX6_hand_4 ⟨Nat.zero_le _, Nat.zero_le _⟩ ?_
  refine lv_if_eq (tgt := 14) hx hb dX6_hand_7 (by decide) (fun c1 => ?_) (fun c1 => ?_)
  · rw [if_pos c1] at h
    refine lv_iconst (v := 1) hx hb dX6_hand_14 (by decide) ?_
    refine pX6_thrown S5 hin hK hP hD hS (List.mem_of_getElem? (i := 1) rfl) dX6_hand_15 (fun H locs hP hS => ?_)
    refine lv_aload_n hx hb dX6_hand_18 rfl (lv_at hl 0 rfl) ?_
    refine gX6_thrown S5 hin hK hP (List.mem_of_getElem? (i := 1) rfl) (v := 1) rfl dX6_hand_19 ?_
    refine lv_if_ne (tgt := 34) hx hb dX6_hand_22 (by decide) (fun c2 => ?_) (fun c2 => absurd c2 (by decide))
    refine lv_iconst (v := 0) hx hb dX6_hand_34 (by decide) ?_
    obtain rfl := Option.some.inj h
    exact kr _ _ _ _ _ rfl rfl hP hS dX6_hand_35
  · rw [if_neg c1] at h
    refine lv_iconst (v := 0) hx hb dX6_hand_10 (by decide) ?_
    refine lv_goto (tgt := 15) hx hb dX6_hand_11 (by decide) ?_
    refine pX6_thrown S5 hin hK hP hD hS (List.mem_of_getElem? (i := 1) rfl) dX6_hand_15 (fun H locs hP hS => ?_)
    refine lv_aload_n hx hb dX6_hand_18 rfl (lv_at hl 0 rfl) ?_
    refine gX6_thrown S5 hin hK hP (List.mem_of_getElem? (i := 1) rfl) (v := 0) rfl dX6_hand_19 ?_
    refine lv_if_ne (tgt := 34) hx hb dX6_hand_22 (by decide) (fun c3 => absurd c3 (by decide)) (fun c3 => ?_)
    refine lv_aload_n hx hb dX6_hand_25 rfl (lv_at hl 0 rfl) ?_
    refine gX6_hands S5 hin hK hP (List.mem_of_getElem? (i := 2) rfl) dX6_hand_26 ?_
    refine lv_iload_n hx hb dX6_hand_29 rfl (lv_at hl 1 rfl) ?_
    obtain ⟨g4, h⟩ := gd_some h
    refine alM3 S5 hK hP (v := M 3 p1.toNatClampNeg) g4 rfl dX6_hand_30 ?_
    refine lv_goto (tgt := 35) hx hb dX6_hand_31 (by decide) ?_
    obtain rfl := Option.some.inj h
    exact kr _ _ _ _ _ rfl rfl hP hS dX6_hand_35

-- X6_inTrick
def fX6_inTrick (M : Mem) : Int32 × Mem := (M 0 9, (mset M 0 6 0))
def rmX6_inTrick : Room := { frames := 0, cells := 0, slots := 0, locals := 0 }
set_option maxHeartbeats 4000000 in
set_option maxRecDepth 100000 in
theorem kX6_inTrick (l : Launch) (D : va_G) (cA : Nat) (ad : Nat → Nat) (M : Mem) : WiM l yX6_inTrick wsX6_inTrick rmX6_inTrick D cA ad M [.ref (ad 0)] (fX6_inTrick M) := by
  obtain ⟨r, h⟩ : ∃ r, fX6_inTrick M = r := ⟨_, rfl⟩
  rw [h]
  unfold fX6_inTrick at h
  refine WiM.of RX6 rfl rfl rfl (Nat.le_of_ble_eq_true rfl) ?_
  intro p e s m args below meth c Q ls A eA S5 hK hP hD hS hl kr
  have hA : ∀ (H : Heap) (q : Nat), s.heap.size ≤ H.size → AX ad H.size q → A q := fun H q hz h => by rw [eA]; exact AX.mono hz h
  obtain ⟨hx, hb, -, -, hts⟩ := id S5
  have hin : ∀ w ∈ wsX60, w ∈ wsX6_inTrick := fun _ h => List.mem_cons_of_mem _ (List.mem_append_right _ (h))
  refine lv_aload_n hx hb dX6_inTrick_0 rfl (lv_at hl 0 rfl) ?_
  refine lv_iconst (v := 0) hx hb dX6_inTrick_1 (by decide) ?_
  refine pX6_thrown S5 hin hK hP hD hS (List.mem_of_getElem? (i := 1) rfl) dX6_inTrick_2 (fun H locs hP hS => ?_)
  refine lv_aload_n hx hb dX6_inTrick_5 rfl (lv_at hl 0 rfl) ?_
  refine gX6_trickMany S5 hin hK hP (List.mem_of_getElem? (i := 2) rfl) (v := M 0 9) rfl dX6_inTrick_6 ?_
  subst h
  exact kr _ _ _ _ _ rfl rfl hP hS dX6_inTrick_9

-- X6_cardIn
def fX6_cardIn (p1 : Int32) (M : Mem) : Option (Int32 × Mem) := (if (fX6_in p1 0 ((M 0 9) - 1)) = 0 then some (0, (mset M 0 6 1)) else (if vin p1 4 = true then some (M 4 p1.toNatClampNeg, (mset M 0 6 0)) else none))
def rmX6_cardIn : Room := { frames := 1, cells := 0, slots := 0, locals := 22 }
set_option maxHeartbeats 4000000 in
set_option maxRecDepth 100000 in
theorem kX6_cardIn (l : Launch) (D : va_G) (cA : Nat) (ad : Nat → Nat) (p1 : Int32) (M : Mem) (r : Int32 × Mem) (h : fX6_cardIn p1 M = some r) : WiM l yX6_cardIn wsX6_cardIn rmX6_cardIn D cA ad M [.ref (ad 0), .int p1] r := by
  unfold fX6_cardIn at h
  refine WiM.of RX6 rfl rfl rfl (Nat.le_of_ble_eq_true rfl) ?_
  intro p e s m args below meth c Q ls A eA S5 hK hP hD hS hl kr
  have hA : ∀ (H : Heap) (q : Nat), s.heap.size ≤ H.size → AX ad H.size q → A q := fun H q hz h => by rw [eA]; exact AX.mono hz h
  obtain ⟨hx, hb, -, -, hts⟩ := id S5
  have hin : ∀ w ∈ wsX60, w ∈ wsX6_cardIn := fun _ h => List.mem_cons_of_mem _ (List.mem_append_right _ (h))
  refine lv_aload_n hx hb dX6_cardIn_0 rfl (lv_at hl 0 rfl) ?_
  refine lv_iload_n hx hb dX6_cardIn_1 rfl (lv_at hl 1 rfl) ?_
  refine lv_iconst (v := 0) hx hb dX6_cardIn_2 (by decide) ?_
  refine lv_aload_n hx hb dX6_cardIn_3 rfl (lv_at hl 0 rfl) ?_
  refine gX6_trickMany S5 hin hK hP (List.mem_of_getElem? (i := 1) rfl) (v := M 0 9) rfl dX6_cardIn_4 ?_
  refine lv_iconst (v := 1) hx hb dX6_cardIn_7 (by decide) ?_
  refine lv_isub hx hb dX6_cardIn_8 ?_
  refine cS S5 (As := [.int p1, .int 0, .int ((M 0 9) - 1)]) (kX6_in l _ _ _) (va_cwS 3 hts gX6_cardIn_X6_in rfl rfl rfl (by decide +kernel) ⟨(Nat.le_of_ble_eq_true rfl), (Nat.le_of_ble_eq_true rfl)⟩) rfl hl.1 (st0 := _) (rest := [.ref (ad 0)]) rfl (Nat.le_of_ble_eq_true rfl) dX6_cardIn_9 ⟨Nat.zero_le _, Nat.zero_le _⟩ ?_
  refine lv_if_eq (tgt := 19) hx hb dX6_cardIn_12 (by decide) (fun c1 => ?_) (fun c1 => ?_)
  · rw [if_pos c1] at h
    refine lv_iconst (v := 1) hx hb dX6_cardIn_19 (by decide) ?_
    refine pX6_thrown S5 hin hK hP hD hS (List.mem_of_getElem? (i := 2) rfl) dX6_cardIn_20 (fun H locs hP hS => ?_)
    refine lv_aload_n hx hb dX6_cardIn_23 rfl (lv_at hl 0 rfl) ?_
    refine gX6_thrown S5 hin hK hP (List.mem_of_getElem? (i := 2) rfl) (v := 1) rfl dX6_cardIn_24 ?_
    refine lv_if_ne (tgt := 39) hx hb dX6_cardIn_27 (by decide) (fun c2 => ?_) (fun c2 => absurd c2 (by decide))
    refine lv_iconst (v := 0) hx hb dX6_cardIn_39 (by decide) ?_
    obtain rfl := Option.some.inj h
    exact kr _ _ _ _ _ rfl rfl hP hS dX6_cardIn_40
  · rw [if_neg c1] at h
    refine lv_iconst (v := 0) hx hb dX6_cardIn_15 (by decide) ?_
    refine lv_goto (tgt := 20) hx hb dX6_cardIn_16 (by decide) ?_
    refine pX6_thrown S5 hin hK hP hD hS (List.mem_of_getElem? (i := 2) rfl) dX6_cardIn_20 (fun H locs hP hS => ?_)
    refine lv_aload_n hx hb dX6_cardIn_23 rfl (lv_at hl 0 rfl) ?_
    refine gX6_thrown S5 hin hK hP (List.mem_of_getElem? (i := 2) rfl) (v := 0) rfl dX6_cardIn_24 ?_
    refine lv_if_ne (tgt := 39) hx hb dX6_cardIn_27 (by decide) (fun c3 => absurd c3 (by decide)) (fun c3 => ?_)
    refine lv_aload_n hx hb dX6_cardIn_30 rfl (lv_at hl 0 rfl) ?_
    refine gX6_trick S5 hin hK hP (List.mem_of_getElem? (i := 3) rfl) dX6_cardIn_31 ?_
    refine lv_iload_n hx hb dX6_cardIn_34 rfl (lv_at hl 1 rfl) ?_
    obtain ⟨g4, h⟩ := gd_some h
    refine alM4 S5 hK hP (v := M 4 p1.toNatClampNeg) g4 rfl dX6_cardIn_35 ?_
    refine lv_goto (tgt := 40) hx hb dX6_cardIn_36 (by decide) ?_
    obtain rfl := Option.some.inj h
    exact kr _ _ _ _ _ rfl rfl hP hS dX6_cardIn_40

-- X6_won
def fX6_won (p1 : Int32) (M : Mem) : Option (Int32 × Mem) := (if (fX6_in p1 0 1) = 0 then some (0, (mset M 0 6 1)) else (if vin p1 2 = true then some (M 5 p1.toNatClampNeg, (mset M 0 6 0)) else none))
def rmX6_won : Room := { frames := 1, cells := 0, slots := 0, locals := 22 }
set_option maxHeartbeats 4000000 in
set_option maxRecDepth 100000 in
theorem kX6_won (l : Launch) (D : va_G) (cA : Nat) (ad : Nat → Nat) (p1 : Int32) (M : Mem) (r : Int32 × Mem) (h : fX6_won p1 M = some r) : WiM l yX6_won wsX6_won rmX6_won D cA ad M [.ref (ad 0), .int p1] r := by
  unfold fX6_won at h
  refine WiM.of RX6 rfl rfl rfl (Nat.le_of_ble_eq_true rfl) ?_
  intro p e s m args below meth c Q ls A eA S5 hK hP hD hS hl kr
  have hA : ∀ (H : Heap) (q : Nat), s.heap.size ≤ H.size → AX ad H.size q → A q := fun H q hz h => by rw [eA]; exact AX.mono hz h
  obtain ⟨hx, hb, -, -, hts⟩ := id S5
  have hin : ∀ w ∈ wsX60, w ∈ wsX6_won := fun _ h => List.mem_cons_of_mem _ (List.mem_append_right _ (h))
  refine lv_aload_n hx hb dX6_won_0 rfl (lv_at hl 0 rfl) ?_
  refine lv_iload_n hx hb dX6_won_1 rfl (lv_at hl 1 rfl) ?_
  refine lv_iconst (v := 0) hx hb dX6_won_2 (by decide) ?_
  refine lv_iconst (v := 1) hx hb dX6_won_3 (by decide) ?_
  refine cS S5 (As := [.int p1, .int 0, .int 1]) (kX6_in l _ _ _) (va_cwS 3 hts gX6_won_X6_in rfl rfl rfl (by decide +kernel) ⟨(Nat.le_of_ble_eq_true rfl), (Nat.le_of_ble_eq_true rfl)⟩) rfl hl.1 (st0 := _) (rest := [.ref (ad 0)]) rfl (Nat.le_of_ble_eq_true rfl) dX6_won_4 ⟨Nat.zero_le _, Nat.zero_le _⟩ ?_
  refine lv_if_eq (tgt := 14) hx hb dX6_won_7 (by decide) (fun c1 => ?_) (fun c1 => ?_)
  · rw [if_pos c1] at h
    refine lv_iconst (v := 1) hx hb dX6_won_14 (by decide) ?_
    refine pX6_thrown S5 hin hK hP hD hS (List.mem_of_getElem? (i := 1) rfl) dX6_won_15 (fun H locs hP hS => ?_)
    refine lv_aload_n hx hb dX6_won_18 rfl (lv_at hl 0 rfl) ?_
    refine gX6_thrown S5 hin hK hP (List.mem_of_getElem? (i := 1) rfl) (v := 1) rfl dX6_won_19 ?_
    refine lv_if_ne (tgt := 34) hx hb dX6_won_22 (by decide) (fun c2 => ?_) (fun c2 => absurd c2 (by decide))
    refine lv_iconst (v := 0) hx hb dX6_won_34 (by decide) ?_
    obtain rfl := Option.some.inj h
    exact kr _ _ _ _ _ rfl rfl hP hS dX6_won_35
  · rw [if_neg c1] at h
    refine lv_iconst (v := 0) hx hb dX6_won_10 (by decide) ?_
    refine lv_goto (tgt := 15) hx hb dX6_won_11 (by decide) ?_
    refine pX6_thrown S5 hin hK hP hD hS (List.mem_of_getElem? (i := 1) rfl) dX6_won_15 (fun H locs hP hS => ?_)
    refine lv_aload_n hx hb dX6_won_18 rfl (lv_at hl 0 rfl) ?_
    refine gX6_thrown S5 hin hK hP (List.mem_of_getElem? (i := 1) rfl) (v := 0) rfl dX6_won_19 ?_
    refine lv_if_ne (tgt := 34) hx hb dX6_won_22 (by decide) (fun c3 => absurd c3 (by decide)) (fun c3 => ?_)
    refine lv_aload_n hx hb dX6_won_25 rfl (lv_at hl 0 rfl) ?_
    refine gX6_tricksOf S5 hin hK hP (List.mem_of_getElem? (i := 2) rfl) dX6_won_26 ?_
    refine lv_iload_n hx hb dX6_won_29 rfl (lv_at hl 1 rfl) ?_
    obtain ⟨g4, h⟩ := gd_some h
    refine alM5 S5 hK hP (v := M 5 p1.toNatClampNeg) g4 rfl dX6_won_30 ?_
    refine lv_goto (tgt := 35) hx hb dX6_won_31 (by decide) ?_
    obtain rfl := Option.some.inj h
    exact kr _ _ _ _ _ rfl rfl hP hS dX6_won_35

-- X6_holder
def fX6_holder (p1 : Int32) (M : Mem) : Int32 := (if (fX6_has (M 3 0) p1) = 0 then (if (fX6_has (M 3 1) p1) = 0 then (if (fX6_has (M 3 2) p1) = 0 then (if (fX6_has (M 3 3) p1) = 0 then ((-1)) else (3)) else (2)) else (1)) else (0))
def rmX6_holder : Room := { frames := 1, cells := 0, slots := 0, locals := 21 }
set_option maxHeartbeats 4000000 in
set_option maxRecDepth 100000 in
theorem kX6_holder (l : Launch) (D : va_G) (cA : Nat) (ad : Nat → Nat) (p1 : Int32) (M : Mem) : RdM l yX6_holder wsX6_holder rmX6_holder D cA ad M [.ref (ad 0), .int p1] (fX6_holder p1 M) := by
  obtain ⟨r, h⟩ : ∃ r, fX6_holder p1 M = r := ⟨_, rfl⟩
  rw [h]
  unfold fX6_holder at h
  refine RdM.of RX6 rfl rfl rfl (Nat.le_of_ble_eq_true rfl) ?_
  intro p e s m args below meth c Q ls S5 hK hP hl kr
  obtain ⟨hx, hb, -, -, hts⟩ := id S5
  have hin : ∀ w ∈ wsX60, w ∈ wsX6_holder := fun _ h => List.mem_cons_of_mem _ (List.mem_append_right _ (h))
  refine lv_iconst (v := 0) hx hb dX6_holder_0 (by decide) ?_
  refine lv_istore_n (lv' := [(2, .int 0), (0, .ref (ad 0)), (1, .int p1)]) hx hb dX6_holder_1 rfl hl (by decide) rfl (fun ls hl => ?_)
  refine lv_iload_n hx hb dX6_holder_2 rfl (lv_at hl 0 rfl) ?_
  refine lv_iconst (v := 4) hx hb dX6_holder_3 (by decide) ?_
  refine lv_icmp_ge (tgt := 28) hx hb dX6_holder_4 (by decide) (fun c1 => absurd c1 (by decide)) (fun c1 => ?_)
  refine lv_aload_n hx hb dX6_holder_7 rfl (lv_at hl 1 rfl) ?_
  refine gX6_hands S5 hin hK hP (List.mem_of_getElem? (i := 1) rfl) dX6_holder_8 ?_
  refine lv_iload_n hx hb dX6_holder_11 rfl (lv_at hl 0 rfl) ?_
  refine alM3 S5 hK hP (v := M 3 0) (by decide) rfl dX6_holder_12 ?_
  refine lv_iload_n hx hb dX6_holder_13 rfl (lv_at hl 2 rfl) ?_
  refine cS S5 (As := [.int (M 3 0), .int p1]) (kX6_has l _ _) (va_cwS 2 hts gX6_holder_X6_has rfl rfl rfl (by decide +kernel) ⟨(Nat.le_of_ble_eq_true rfl), (Nat.le_of_ble_eq_true rfl)⟩) rfl hl.1 (st0 := _) (rest := []) rfl (Nat.le_of_ble_eq_true rfl) dX6_holder_14 ⟨Nat.zero_le _, Nat.zero_le _⟩ ?_
  refine lv_if_eq (tgt := 22) hx hb dX6_holder_17 (by decide) (fun c2 => ?_) (fun c2 => ?_)
  · rw [if_pos c2] at h
    refine lv_iinc (v := 1) (lv' := [(2, .int 1), (0, .ref (ad 0)), (1, .int p1)]) hx hb dX6_holder_22 hl (k := 0) rfl rfl (by decide) rfl (fun ls hl => ?_)
    refine lv_goto (tgt := 2) hx hb dX6_holder_25 (by decide) ?_
    refine lv_iload_n hx hb dX6_holder_2 rfl (lv_at hl 0 rfl) ?_
    refine lv_iconst (v := 4) hx hb dX6_holder_3 (by decide) ?_
    refine lv_icmp_ge (tgt := 28) hx hb dX6_holder_4 (by decide) (fun c3 => absurd c3 (by decide)) (fun c3 => ?_)
    refine lv_aload_n hx hb dX6_holder_7 rfl (lv_at hl 1 rfl) ?_
    refine gX6_hands S5 hin hK hP (List.mem_of_getElem? (i := 1) rfl) dX6_holder_8 ?_
    refine lv_iload_n hx hb dX6_holder_11 rfl (lv_at hl 0 rfl) ?_
    refine alM3 S5 hK hP (v := M 3 1) (by decide) rfl dX6_holder_12 ?_
    refine lv_iload_n hx hb dX6_holder_13 rfl (lv_at hl 2 rfl) ?_
    refine cS S5 (As := [.int (M 3 1), .int p1]) (kX6_has l _ _) (va_cwS 2 hts gX6_holder_X6_has rfl rfl rfl (by decide +kernel) ⟨(Nat.le_of_ble_eq_true rfl), (Nat.le_of_ble_eq_true rfl)⟩) rfl hl.1 (st0 := _) (rest := []) rfl (Nat.le_of_ble_eq_true rfl) dX6_holder_14 ⟨Nat.zero_le _, Nat.zero_le _⟩ ?_
    refine lv_if_eq (tgt := 22) hx hb dX6_holder_17 (by decide) (fun c4 => ?_) (fun c4 => ?_)
    · rw [if_pos c4] at h
      refine lv_iinc (v := 2) (lv' := [(2, .int 2), (0, .ref (ad 0)), (1, .int p1)]) hx hb dX6_holder_22 hl (k := 0) rfl rfl (by decide) rfl (fun ls hl => ?_)
      refine lv_goto (tgt := 2) hx hb dX6_holder_25 (by decide) ?_
      refine lv_iload_n hx hb dX6_holder_2 rfl (lv_at hl 0 rfl) ?_
      refine lv_iconst (v := 4) hx hb dX6_holder_3 (by decide) ?_
      refine lv_icmp_ge (tgt := 28) hx hb dX6_holder_4 (by decide) (fun c5 => absurd c5 (by decide)) (fun c5 => ?_)
      refine lv_aload_n hx hb dX6_holder_7 rfl (lv_at hl 1 rfl) ?_
      refine gX6_hands S5 hin hK hP (List.mem_of_getElem? (i := 1) rfl) dX6_holder_8 ?_
      refine lv_iload_n hx hb dX6_holder_11 rfl (lv_at hl 0 rfl) ?_
      refine alM3 S5 hK hP (v := M 3 2) (by decide) rfl dX6_holder_12 ?_
      refine lv_iload_n hx hb dX6_holder_13 rfl (lv_at hl 2 rfl) ?_
      refine cS S5 (As := [.int (M 3 2), .int p1]) (kX6_has l _ _) (va_cwS 2 hts gX6_holder_X6_has rfl rfl rfl (by decide +kernel) ⟨(Nat.le_of_ble_eq_true rfl), (Nat.le_of_ble_eq_true rfl)⟩) rfl hl.1 (st0 := _) (rest := []) rfl (Nat.le_of_ble_eq_true rfl) dX6_holder_14 ⟨Nat.zero_le _, Nat.zero_le _⟩ ?_
      refine lv_if_eq (tgt := 22) hx hb dX6_holder_17 (by decide) (fun c6 => ?_) (fun c6 => ?_)
      · rw [if_pos c6] at h
        refine lv_iinc (v := 3) (lv' := [(2, .int 3), (0, .ref (ad 0)), (1, .int p1)]) hx hb dX6_holder_22 hl (k := 0) rfl rfl (by decide) rfl (fun ls hl => ?_)
        refine lv_goto (tgt := 2) hx hb dX6_holder_25 (by decide) ?_
        refine lv_iload_n hx hb dX6_holder_2 rfl (lv_at hl 0 rfl) ?_
        refine lv_iconst (v := 4) hx hb dX6_holder_3 (by decide) ?_
        refine lv_icmp_ge (tgt := 28) hx hb dX6_holder_4 (by decide) (fun c7 => absurd c7 (by decide)) (fun c7 => ?_)
        refine lv_aload_n hx hb dX6_holder_7 rfl (lv_at hl 1 rfl) ?_
        refine gX6_hands S5 hin hK hP (List.mem_of_getElem? (i := 1) rfl) dX6_holder_8 ?_
        refine lv_iload_n hx hb dX6_holder_11 rfl (lv_at hl 0 rfl) ?_
        refine alM3 S5 hK hP (v := M 3 3) (by decide) rfl dX6_holder_12 ?_
        refine lv_iload_n hx hb dX6_holder_13 rfl (lv_at hl 2 rfl) ?_
        refine cS S5 (As := [.int (M 3 3), .int p1]) (kX6_has l _ _) (va_cwS 2 hts gX6_holder_X6_has rfl rfl rfl (by decide +kernel) ⟨(Nat.le_of_ble_eq_true rfl), (Nat.le_of_ble_eq_true rfl)⟩) rfl hl.1 (st0 := _) (rest := []) rfl (Nat.le_of_ble_eq_true rfl) dX6_holder_14 ⟨Nat.zero_le _, Nat.zero_le _⟩ ?_
        refine lv_if_eq (tgt := 22) hx hb dX6_holder_17 (by decide) (fun c8 => ?_) (fun c8 => ?_)
        · rw [if_pos c8] at h
          refine lv_iinc (v := 4) (lv' := [(2, .int 4), (0, .ref (ad 0)), (1, .int p1)]) hx hb dX6_holder_22 hl (k := 0) rfl rfl (by decide) rfl (fun ls hl => ?_)
          refine lv_goto (tgt := 2) hx hb dX6_holder_25 (by decide) ?_
          refine lv_iload_n hx hb dX6_holder_2 rfl (lv_at hl 0 rfl) ?_
          refine lv_iconst (v := 4) hx hb dX6_holder_3 (by decide) ?_
          refine lv_icmp_ge (tgt := 28) hx hb dX6_holder_4 (by decide) (fun c9 => ?_) (fun c9 => absurd c9 (by decide))
          refine lv_iconst (v := (-1)) hx hb dX6_holder_28 (by decide) ?_
          subst h
          exact kr _ _ _ rfl rfl dX6_holder_29
        · rw [if_neg c8] at h
          refine lv_iload_n hx hb dX6_holder_20 rfl (lv_at hl 0 rfl) ?_
          subst h
          exact kr _ _ _ rfl rfl dX6_holder_21
      · rw [if_neg c6] at h
        refine lv_iload_n hx hb dX6_holder_20 rfl (lv_at hl 0 rfl) ?_
        subst h
        exact kr _ _ _ rfl rfl dX6_holder_21
    · rw [if_neg c4] at h
      refine lv_iload_n hx hb dX6_holder_20 rfl (lv_at hl 0 rfl) ?_
      subst h
      exact kr _ _ _ rfl rfl dX6_holder_21
  · rw [if_neg c2] at h
    refine lv_iload_n hx hb dX6_holder_20 rfl (lv_at hl 0 rfl) ?_
    subst h
    exact kr _ _ _ rfl rfl dX6_holder_21

-- X6_others
def fX6_others_L16 : Nat → Int32 → Int32 → Mem → Option (Int32)
  | 0, _, _, _ => none
  | n + 1, v2, v3, M => (if (M 0 9) ≤ v3 then some (v2) else (if vin v3 4 = true then fX6_others_L16 n (v2 ||| (sl 1 (M 4 v3.toNatClampNeg))) (v3 + 1) M else none))
def fX6_others (p1 : Int32) (M : Mem) : Option (Int32) := (if vin p1 4 = true then (obind (fX6_others_L16 40 ((fX6_all M) &&& ((M 3 p1.toNatClampNeg) ^^^ ((-1)))) 0 M) (fun q2 => some (q2))) else none)
def rmX6_others : Room := { frames := 1, cells := 0, slots := 0, locals := 20 }
set_option maxHeartbeats 4000000 in
set_option maxRecDepth 100000 in
theorem kX6_others (l : Launch) (D : va_G) (cA : Nat) (ad : Nat → Nat) (p1 : Int32) (M : Mem) (r : Int32) (h : fX6_others p1 M = some r) : RdM l yX6_others wsX6_others rmX6_others D cA ad M [.ref (ad 0), .int p1] r := by
  unfold fX6_others at h
  refine RdM.of RX6 rfl rfl rfl (Nat.le_of_ble_eq_true rfl) ?_
  intro p e s m args below meth c Q ls S5 hK hP hl kr
  obtain ⟨hx, hb, -, -, hts⟩ := id S5
  have hin : ∀ w ∈ wsX60, w ∈ wsX6_others := fun _ h => List.mem_cons_of_mem _ (List.mem_append_right _ (h))
  have L16 : ∀ (n : Nat) (v2 : Int32) (v3 : Int32) (r' : Int32) (ls : Array Slot), fX6_others_L16 n v2 v3 M = some r' → lv_has ls 4 [(0, .ref (ad 0)), (2, .int v2), (3, .int v3)] → (∀ (ls : Array Slot), lv_has ls 4 [(0, .ref (ad 0)), (2, .int (r'))] → W p l e rmX6_others s m args below meth c s.heap [] 0 0 Q (F0 m 41 ls [])) → W p l e rmX6_others s m args below meth c s.heap [] 0 0 Q (F0 m 16 ls []) := by
    intro n
    induction n with
    | zero => intro v2 v3 r' ls h hl kk; rw [fX6_others_L16.eq_1] at h; cases h
    | succ n ih =>
      intro v2 v3 r' ls h hl kk
      rw [fX6_others_L16.eq_2] at h
      refine lv_iload_n hx hb dX6_others_16 rfl (lv_at hl 2 rfl) ?_
      refine lv_aload_n hx hb dX6_others_17 rfl (lv_at hl 0 rfl) ?_
      refine gX6_trickMany S5 hin hK hP (List.mem_of_getElem? (i := 2) rfl) (v := M 0 9) rfl dX6_others_18 ?_
      refine lv_icmp_ge (tgt := 41) hx hb dX6_others_21 (by decide) (fun c3 => ?_) (fun c3 => ?_)
      · rw [if_pos c3] at h
        obtain rfl := Option.some.inj h
        exact kk _ (lv_sub hl [0, 1] rfl)
      · rw [if_neg c3] at h
        refine lv_iload_n hx hb dX6_others_24 rfl (lv_at hl 1 rfl) ?_
        refine lv_iconst (v := 1) hx hb dX6_others_25 (by decide) ?_
        refine lv_aload_n hx hb dX6_others_26 rfl (lv_at hl 0 rfl) ?_
        refine gX6_trick S5 hin hK hP (List.mem_of_getElem? (i := 3) rfl) dX6_others_27 ?_
        refine lv_iload_n hx hb dX6_others_30 rfl (lv_at hl 2 rfl) ?_
        obtain ⟨g4, h⟩ := gd_some h
        refine alM4 S5 hK hP (v := M 4 v3.toNatClampNeg) g4 rfl dX6_others_31 ?_
        refine r_ishl S5 dX6_others_32 ?_
        refine lv_ior hx hb dX6_others_33 ?_
        refine lv_istore_n (lv' := [(2, .int (v2 ||| (sl 1 (M 4 v3.toNatClampNeg)))), (0, .ref (ad 0)), (3, .int v3)]) hx hb dX6_others_34 rfl hl (by decide) rfl (fun ls hl => ?_)
        refine lv_iinc (v := v3 + 1) (lv' := [(3, .int (v3 + 1)), (2, .int (v2 ||| (sl 1 (M 4 v3.toNatClampNeg)))), (0, .ref (ad 0))]) hx hb dX6_others_35 hl (k := 2) rfl rfl (by decide) rfl (fun ls hl => ?_)
        refine lv_goto (tgt := 16) hx hb dX6_others_38 (by decide) ?_
        exact ih _ _ _ _ h (lv_sub hl [2, 1, 0] rfl) kk
  refine lv_aload_n hx hb dX6_others_0 rfl (lv_at hl 0 rfl) ?_
  refine cVM S5 hK hP 0 rfl rfl (As := []) (kX6_all l D cA ad _) (cwV 0 hts gX6_others_X6_all rfl rfl rfl (by decide +kernel) ⟨(Nat.le_of_ble_eq_true rfl), (Nat.le_of_ble_eq_true rfl)⟩) rfl hl.1 (st0 := _) (rest := []) rfl (Nat.le_of_ble_eq_true rfl) dX6_others_1 ⟨Nat.zero_le _, Nat.zero_le _⟩ ?_
  refine lv_aload_n hx hb dX6_others_4 rfl (lv_at hl 0 rfl) ?_
  refine gX6_hands S5 hin hK hP (List.mem_of_getElem? (i := 1) rfl) dX6_others_5 ?_
  refine lv_iload_n hx hb dX6_others_8 rfl (lv_at hl 1 rfl) ?_
  obtain ⟨g1, h⟩ := gd_some h
  refine alM3 S5 hK hP (v := M 3 p1.toNatClampNeg) g1 rfl dX6_others_9 ?_
  refine lv_iconst (v := (-1)) hx hb dX6_others_10 (by decide) ?_
  refine lv_ixor hx hb dX6_others_11 ?_
  refine lv_iand hx hb dX6_others_12 ?_
  refine lv_istore_n (lv' := [(2, .int ((fX6_all M) &&& ((M 3 p1.toNatClampNeg) ^^^ ((-1))))), (0, .ref (ad 0)), (1, .int p1)]) hx hb dX6_others_13 rfl hl (by decide) rfl (fun ls hl => ?_)
  refine lv_iconst (v := 0) hx hb dX6_others_14 (by decide) ?_
  refine lv_istore_n (lv' := [(3, .int 0), (2, .int ((fX6_all M) &&& ((M 3 p1.toNatClampNeg) ^^^ ((-1))))), (0, .ref (ad 0)), (1, .int p1)]) hx hb dX6_others_15 rfl hl (by decide) rfl (fun ls hl => ?_)
  obtain ⟨q2, hqq2, h⟩ := obind_some h
  refine L16 _ _ _ _ _ hqq2 (lv_sub hl [2, 1, 0] rfl) (fun ls hl => ?_)
  have hl := lv_sub (l' := [(2, .int q2)]) hl [1] rfl
  refine lv_iload_n hx hb dX6_others_41 rfl (lv_at hl 0 rfl) ?_
  obtain rfl := Option.some.inj h
  exact kr _ _ _ rfl rfl dX6_others_42

-- X6_lowest
def fX6_lowest_L18 : Nat → Int32 → Int32 → Int32 → Int32 → Int32 → Mem → Option (Int32)
  | 0, _, _, _, _, _, _ => none
  | n + 1, v1, v2, v3, v4, v5, M => (if v5 < ((v1 / 6) * 6) then some (v4) else (if (fX6_has v3 v5) = 0 then (if vin v2 4 = true then (if (fX6_has (M 3 v2.toNatClampNeg) v5) = 0 then fX6_lowest_L18 n v1 v2 v3 v4 (v5 + (-1)) M else fX6_lowest_L18 n v1 v2 v3 v5 (v5 + (-1)) M) else none) else some (v4)))
def fX6_lowest (p1 : Int32) (M : Mem) : Option (Int32) := (obind (fX6_others (fX6_holder p1 M) M) (fun q1 => (obind (fX6_lowest_L18 40 p1 (fX6_holder p1 M) q1 p1 p1 M) (fun q2 => some (q2)))))
def rmX6_lowest : Room := { frames := 2, cells := 0, slots := 0, locals := 43 }
set_option maxHeartbeats 4000000 in
set_option maxRecDepth 100000 in
theorem kX6_lowest (l : Launch) (D : va_G) (cA : Nat) (ad : Nat → Nat) (p1 : Int32) (M : Mem) (r : Int32) (h : fX6_lowest p1 M = some r) : RdM l yX6_lowest wsX6_lowest rmX6_lowest D cA ad M [.ref (ad 0), .int p1] r := by
  unfold fX6_lowest at h
  refine RdM.of RX6 rfl rfl rfl (Nat.le_of_ble_eq_true rfl) ?_
  intro p e s m args below meth c Q ls S5 hK hP hl kr
  obtain ⟨hx, hb, -, -, hts⟩ := id S5
  have hin : ∀ w ∈ wsX60, w ∈ wsX6_lowest := fun _ h => List.mem_cons_of_mem _ (List.mem_append_right _ (h))
  have L18 : ∀ (n : Nat) (v1 : Int32) (v2 : Int32) (v3 : Int32) (v4 : Int32) (v5 : Int32) (r' : Int32) (ls : Array Slot), fX6_lowest_L18 n v1 v2 v3 v4 v5 M = some r' → lv_has ls 6 [(0, .ref (ad 0)), (1, .int v1), (2, .int v2), (3, .int v3), (4, .int v4), (5, .int v5)] → (∀ (ls : Array Slot), lv_has ls 6 [(0, .ref (ad 0)), (1, .int v1), (2, .int v2), (3, .int v3), (4, .int (r'))] → W p l e rmX6_lowest s m args below meth c s.heap [] 0 0 Q (F0 m 68 ls [])) → W p l e rmX6_lowest s m args below meth c s.heap [] 0 0 Q (F0 m 18 ls []) := by
    intro n
    induction n with
    | zero => intro v1 v2 v3 v4 v5 r' ls h hl kk; rw [fX6_lowest_L18.eq_1] at h; cases h
    | succ n ih =>
      intro v1 v2 v3 v4 v5 r' ls h hl kk
      rw [fX6_lowest_L18.eq_2] at h
      refine lv_iload hx hb dX6_lowest_18 (lv_at hl 5 rfl) ?_
      refine lv_iload_n hx hb dX6_lowest_20 rfl (lv_at hl 1 rfl) ?_
      refine lv_bipush (v := 6) hx hb dX6_lowest_21 (by decide) ?_
      refine r_idiv S5 dX6_lowest_23 (by decide) ?_
      refine lv_bipush (v := 6) hx hb dX6_lowest_24 (by decide) ?_
      refine lv_imul hx hb dX6_lowest_26 ?_
      refine lv_icmp_lt (tgt := 68) hx hb dX6_lowest_27 (by decide) (fun c3 => ?_) (fun c3 => ?_)
      · rw [if_pos c3] at h
        obtain rfl := Option.some.inj h
        exact kk _ (lv_sub hl [0, 1, 2, 3, 4] rfl)
      · rw [if_neg c3] at h
        refine lv_iload_n hx hb dX6_lowest_30 rfl (lv_at hl 3 rfl) ?_
        refine lv_iload hx hb dX6_lowest_31 (lv_at hl 5 rfl) ?_
        refine cS S5 (As := [.int v3, .int v5]) (kX6_has l _ _) (va_cwS 2 hts gX6_lowest_X6_has rfl rfl rfl (by decide +kernel) ⟨(Nat.le_of_ble_eq_true rfl), (Nat.le_of_ble_eq_true rfl)⟩) rfl hl.1 (st0 := _) (rest := []) rfl (Nat.le_of_ble_eq_true rfl) dX6_lowest_33 ⟨Nat.zero_le _, Nat.zero_le _⟩ ?_
        refine lv_if_ne (tgt := 68) hx hb dX6_lowest_36 (by decide) (fun c4 => ?_) (fun c4 => ?_)
        · rw [if_neg c4] at h
          obtain rfl := Option.some.inj h
          exact kk _ (lv_sub hl [0, 1, 2, 3, 4] rfl)
        · rw [if_pos c4] at h
          refine lv_aload_n hx hb dX6_lowest_39 rfl (lv_at hl 0 rfl) ?_
          refine gX6_hands S5 hin hK hP (List.mem_of_getElem? (i := 1) rfl) dX6_lowest_40 ?_
          refine lv_iload_n hx hb dX6_lowest_43 rfl (lv_at hl 2 rfl) ?_
          obtain ⟨g5, h⟩ := gd_some h
          refine alM3 S5 hK hP (v := M 3 v2.toNatClampNeg) g5 rfl dX6_lowest_44 ?_
          refine lv_iload hx hb dX6_lowest_45 (lv_at hl 5 rfl) ?_
          refine cS S5 (As := [.int (M 3 v2.toNatClampNeg), .int v5]) (kX6_has l _ _) (va_cwS 2 hts gX6_lowest_X6_has rfl rfl rfl (by decide +kernel) ⟨(Nat.le_of_ble_eq_true rfl), (Nat.le_of_ble_eq_true rfl)⟩) rfl hl.1 (st0 := _) (rest := []) rfl (Nat.le_of_ble_eq_true rfl) dX6_lowest_47 ⟨Nat.zero_le _, Nat.zero_le _⟩ ?_
          refine lv_if_eq (tgt := 58) hx hb dX6_lowest_50 (by decide) (fun c6 => ?_) (fun c6 => ?_)
          · rw [if_pos c6] at h
            refine lv_iload hx hb dX6_lowest_58 (lv_at hl 4 rfl) ?_
            refine lv_istore (lv' := [(4, .int v4), (0, .ref (ad 0)), (1, .int v1), (2, .int v2), (3, .int v3), (5, .int v5)]) hx hb dX6_lowest_60 hl (by decide) rfl (fun ls hl => ?_)
            refine lv_iinc (v := v5 + (-1)) (lv' := [(5, .int (v5 + (-1))), (4, .int v4), (0, .ref (ad 0)), (1, .int v1), (2, .int v2), (3, .int v3)]) hx hb dX6_lowest_62 hl (k := 5) rfl rfl (by decide) rfl (fun ls hl => ?_)
            refine lv_goto (tgt := 18) hx hb dX6_lowest_65 (by decide) ?_
            exact ih _ _ _ _ _ _ _ h (lv_sub hl [2, 3, 4, 5, 1, 0] rfl) kk
          · rw [if_neg c6] at h
            refine lv_iload hx hb dX6_lowest_53 (lv_at hl 5 rfl) ?_
            refine lv_goto (tgt := 60) hx hb dX6_lowest_55 (by decide) ?_
            refine lv_istore (lv' := [(4, .int v5), (0, .ref (ad 0)), (1, .int v1), (2, .int v2), (3, .int v3), (5, .int v5)]) hx hb dX6_lowest_60 hl (by decide) rfl (fun ls hl => ?_)
            refine lv_iinc (v := v5 + (-1)) (lv' := [(5, .int (v5 + (-1))), (4, .int v5), (0, .ref (ad 0)), (1, .int v1), (2, .int v2), (3, .int v3)]) hx hb dX6_lowest_62 hl (k := 5) rfl rfl (by decide) rfl (fun ls hl => ?_)
            refine lv_goto (tgt := 18) hx hb dX6_lowest_65 (by decide) ?_
            exact ih _ _ _ _ _ _ _ h (lv_sub hl [2, 3, 4, 5, 1, 0] rfl) kk
  refine lv_aload_n hx hb dX6_lowest_0 rfl (lv_at hl 0 rfl) ?_
  refine lv_iload_n hx hb dX6_lowest_1 rfl (lv_at hl 1 rfl) ?_
  refine cVM S5 hK hP 0 rfl rfl (As := [.int p1]) (kX6_holder l D cA ad _ _) (cwV 1 hts gX6_lowest_X6_holder rfl rfl rfl (by decide +kernel) ⟨(Nat.le_of_ble_eq_true rfl), (Nat.le_of_ble_eq_true rfl)⟩) rfl hl.1 (st0 := _) (rest := []) rfl (Nat.le_of_ble_eq_true rfl) dX6_lowest_2 ⟨Nat.zero_le _, Nat.zero_le _⟩ ?_
  refine lv_istore_n (lv' := [(2, .int (fX6_holder p1 M)), (0, .ref (ad 0)), (1, .int p1)]) hx hb dX6_lowest_5 rfl hl (by decide) rfl (fun ls hl => ?_)
  refine lv_aload_n hx hb dX6_lowest_6 rfl (lv_at hl 1 rfl) ?_
  refine lv_iload_n hx hb dX6_lowest_7 rfl (lv_at hl 0 rfl) ?_
  obtain ⟨q1, hqq1, h⟩ := obind_some h
  refine cVM S5 hK hP 0 rfl rfl (As := [.int (fX6_holder p1 M)]) (kX6_others l D cA ad _ _ _ hqq1) (cwV 1 hts gX6_lowest_X6_others rfl rfl rfl (by decide +kernel) ⟨(Nat.le_of_ble_eq_true rfl), (Nat.le_of_ble_eq_true rfl)⟩) rfl hl.1 (st0 := _) (rest := []) rfl (Nat.le_of_ble_eq_true rfl) dX6_lowest_8 ⟨Nat.zero_le _, Nat.zero_le _⟩ ?_
  refine lv_istore_n (lv' := [(3, .int q1), (2, .int (fX6_holder p1 M)), (0, .ref (ad 0)), (1, .int p1)]) hx hb dX6_lowest_11 rfl hl (by decide) rfl (fun ls hl => ?_)
  refine lv_iload_n hx hb dX6_lowest_12 rfl (lv_at hl 3 rfl) ?_
  refine lv_istore (lv' := [(4, .int p1), (3, .int q1), (2, .int (fX6_holder p1 M)), (0, .ref (ad 0)), (1, .int p1)]) hx hb dX6_lowest_13 hl (by decide) rfl (fun ls hl => ?_)
  refine lv_iload_n hx hb dX6_lowest_15 rfl (lv_at hl 4 rfl) ?_
  refine lv_istore (lv' := [(5, .int p1), (4, .int p1), (3, .int q1), (2, .int (fX6_holder p1 M)), (0, .ref (ad 0)), (1, .int p1)]) hx hb dX6_lowest_16 hl (by decide) rfl (fun ls hl => ?_)
  obtain ⟨q2, hqq2, h⟩ := obind_some h
  refine L18 _ _ _ _ _ _ _ _ hqq2 (lv_sub hl [4, 5, 3, 2, 1, 0] rfl) (fun ls hl => ?_)
  have hl := lv_sub (l' := [(4, .int q2)]) hl [4] rfl
  refine lv_iload hx hb dX6_lowest_68 (lv_at hl 0 rfl) ?_
  obtain rfl := Option.some.inj h
  exact kr _ _ _ rfl rfl dX6_lowest_70

-- X6_isHeld
def fX6_isHeld (p1 : Int32) (M : Mem) : Int32 × Mem := (if (fX6_in p1 0 23) = 0 then (0, (mset M 0 6 1)) else (if (fX6_holder p1 M) = ((-1)) then (0, (mset M 0 6 2)) else (1, (mset M 0 6 0))))
def rmX6_isHeld : Room := { frames := 2, cells := 0, slots := 0, locals := 43 }
set_option maxHeartbeats 4000000 in
set_option maxRecDepth 100000 in
theorem kX6_isHeld (l : Launch) (D : va_G) (cA : Nat) (ad : Nat → Nat) (p1 : Int32) (M : Mem) : WiM l yX6_isHeld wsX6_isHeld rmX6_isHeld D cA ad M [.ref (ad 0), .int p1] (fX6_isHeld p1 M) := by
  obtain ⟨r, h⟩ : ∃ r, fX6_isHeld p1 M = r := ⟨_, rfl⟩
  rw [h]
  unfold fX6_isHeld at h
  refine WiM.of RX6 rfl rfl rfl (Nat.le_of_ble_eq_true rfl) ?_
  intro p e s m args below meth c Q ls A eA S5 hK hP hD hS hl kr
  have hA : ∀ (H : Heap) (q : Nat), s.heap.size ≤ H.size → AX ad H.size q → A q := fun H q hz h => by rw [eA]; exact AX.mono hz h
  obtain ⟨hx, hb, -, -, hts⟩ := id S5
  have hin : ∀ w ∈ wsX60, w ∈ wsX6_isHeld := fun _ h => List.mem_cons_of_mem _ (List.mem_append_right _ (h))
  refine lv_aload_n hx hb dX6_isHeld_0 rfl (lv_at hl 0 rfl) ?_
  refine lv_iload_n hx hb dX6_isHeld_1 rfl (lv_at hl 1 rfl) ?_
  refine lv_iconst (v := 0) hx hb dX6_isHeld_2 (by decide) ?_
  refine lv_bipush (v := 23) hx hb dX6_isHeld_3 (by decide) ?_
  refine cS S5 (As := [.int p1, .int 0, .int 23]) (kX6_in l _ _ _) (va_cwS 3 hts gX6_isHeld_X6_in rfl rfl rfl (by decide +kernel) ⟨(Nat.le_of_ble_eq_true rfl), (Nat.le_of_ble_eq_true rfl)⟩) rfl hl.1 (st0 := _) (rest := [.ref (ad 0)]) rfl (Nat.le_of_ble_eq_true rfl) dX6_isHeld_5 ⟨Nat.zero_le _, Nat.zero_le _⟩ ?_
  refine lv_if_ne (tgt := 15) hx hb dX6_isHeld_8 (by decide) (fun c1 => ?_) (fun c1 => ?_)
  · rw [if_neg c1] at h
    refine lv_aload_n hx hb dX6_isHeld_15 rfl (lv_at hl 0 rfl) ?_
    refine lv_iload_n hx hb dX6_isHeld_16 rfl (lv_at hl 1 rfl) ?_
    refine cVM S5 hK hP 0 rfl rfl (As := [.int p1]) (kX6_holder l D cA ad _ _) (cwV 1 hts gX6_isHeld_X6_holder rfl rfl rfl (by decide +kernel) ⟨(Nat.le_of_ble_eq_true rfl), (Nat.le_of_ble_eq_true rfl)⟩) rfl hl.1 (st0 := _) (rest := [.ref (ad 0)]) rfl (Nat.le_of_ble_eq_true rfl) dX6_isHeld_17 ⟨Nat.zero_le _, Nat.zero_le _⟩ ?_
    refine lv_iconst (v := (-1)) hx hb dX6_isHeld_20 (by decide) ?_
    refine lv_icmp_ne (tgt := 28) hx hb dX6_isHeld_21 (by decide) (fun c2 => ?_) (fun c2 => ?_)
    · rw [if_neg c2] at h
      refine lv_iconst (v := 0) hx hb dX6_isHeld_28 (by decide) ?_
      refine pX6_thrown S5 hin hK hP hD hS (List.mem_of_getElem? (i := 1) rfl) dX6_isHeld_29 (fun H locs hP hS => ?_)
      refine lv_aload_n hx hb dX6_isHeld_32 rfl (lv_at hl 0 rfl) ?_
      refine gX6_thrown S5 hin hK hP (List.mem_of_getElem? (i := 1) rfl) (v := 0) rfl dX6_isHeld_33 ?_
      refine lv_if_ne (tgt := 43) hx hb dX6_isHeld_36 (by decide) (fun c3 => absurd c3 (by decide)) (fun c3 => ?_)
      refine lv_iconst (v := 1) hx hb dX6_isHeld_39 (by decide) ?_
      refine lv_goto (tgt := 44) hx hb dX6_isHeld_40 (by decide) ?_
      subst h
      exact kr _ _ _ _ _ rfl rfl hP hS dX6_isHeld_44
    · rw [if_pos c2] at h
      refine lv_iconst (v := 2) hx hb dX6_isHeld_24 (by decide) ?_
      refine lv_goto (tgt := 29) hx hb dX6_isHeld_25 (by decide) ?_
      refine pX6_thrown S5 hin hK hP hD hS (List.mem_of_getElem? (i := 1) rfl) dX6_isHeld_29 (fun H locs hP hS => ?_)
      refine lv_aload_n hx hb dX6_isHeld_32 rfl (lv_at hl 0 rfl) ?_
      refine gX6_thrown S5 hin hK hP (List.mem_of_getElem? (i := 1) rfl) (v := 2) rfl dX6_isHeld_33 ?_
      refine lv_if_ne (tgt := 43) hx hb dX6_isHeld_36 (by decide) (fun c4 => ?_) (fun c4 => absurd c4 (by decide))
      refine lv_iconst (v := 0) hx hb dX6_isHeld_43 (by decide) ?_
      subst h
      exact kr _ _ _ _ _ rfl rfl hP hS dX6_isHeld_44
  · rw [if_pos c1] at h
    refine lv_iconst (v := 1) hx hb dX6_isHeld_11 (by decide) ?_
    refine lv_goto (tgt := 29) hx hb dX6_isHeld_12 (by decide) ?_
    refine pX6_thrown S5 hin hK hP hD hS (List.mem_of_getElem? (i := 1) rfl) dX6_isHeld_29 (fun H locs hP hS => ?_)
    refine lv_aload_n hx hb dX6_isHeld_32 rfl (lv_at hl 0 rfl) ?_
    refine gX6_thrown S5 hin hK hP (List.mem_of_getElem? (i := 1) rfl) (v := 1) rfl dX6_isHeld_33 ?_
    refine lv_if_ne (tgt := 43) hx hb dX6_isHeld_36 (by decide) (fun c5 => ?_) (fun c5 => absurd c5 (by decide))
    refine lv_iconst (v := 0) hx hb dX6_isHeld_43 (by decide) ?_
    subst h
    exact kr _ _ _ _ _ rfl rfl hP hS dX6_isHeld_44

-- X6_lowestEqual
def fX6_lowestEqual (p1 : Int32) (M : Mem) : Option (Int32 × Mem) := (if ((fX6_isHeld p1 M).1) = 0 then some (0, (fX6_isHeld p1 M).2) else (obind (fX6_lowest p1 ((fX6_isHeld p1 M).2)) (fun q2 => some (q2, (fX6_isHeld p1 M).2))))
def rmX6_lowestEqual : Room := { frames := 3, cells := 0, slots := 0, locals := 68 }
set_option maxHeartbeats 4000000 in
set_option maxRecDepth 100000 in
theorem kX6_lowestEqual (l : Launch) (D : va_G) (cA : Nat) (ad : Nat → Nat) (p1 : Int32) (M : Mem) (r : Int32 × Mem) (h : fX6_lowestEqual p1 M = some r) : WiM l yX6_lowestEqual wsX6_lowestEqual rmX6_lowestEqual D cA ad M [.ref (ad 0), .int p1] r := by
  unfold fX6_lowestEqual at h
  refine WiM.of RX6 rfl rfl rfl (Nat.le_of_ble_eq_true rfl) ?_
  intro p e s m args below meth c Q ls A eA S5 hK hP hD hS hl kr
  have hA : ∀ (H : Heap) (q : Nat), s.heap.size ≤ H.size → AX ad H.size q → A q := fun H q hz h => by rw [eA]; exact AX.mono hz h
  obtain ⟨hx, hb, -, -, hts⟩ := id S5
  have hin : ∀ w ∈ wsX60, w ∈ wsX6_lowestEqual := fun _ h => List.mem_cons_of_mem _ (List.mem_append_right _ (h))
  refine lv_aload_n hx hb dX6_lowestEqual_0 rfl (lv_at hl 0 rfl) ?_
  refine lv_iload_n hx hb dX6_lowestEqual_1 rfl (lv_at hl 1 rfl) ?_
  refine cWiM S5 hK hP hD hS (fun _ h => hA _ _ hS.1 h) 0 rfl rfl (As := [.int p1]) (kX6_isHeld l D cA ad _ _) (cwV 1 hts gX6_lowestEqual_X6_isHeld rfl rfl rfl (by decide +kernel) ⟨(Nat.le_of_ble_eq_true rfl), (Nat.le_of_ble_eq_true rfl)⟩) rfl hl.1 (st0 := _) (rest := []) rfl (Nat.le_of_ble_eq_true rfl) dX6_lowestEqual_2 ⟨Nat.zero_le _, Nat.zero_le _⟩ (fun H locs hz hP hS => ?_)
  refine lv_if_eq (tgt := 16) hx hb dX6_lowestEqual_5 (by decide) (fun c1 => ?_) (fun c1 => ?_)
  · rw [if_pos c1] at h
    refine lv_iconst (v := 0) hx hb dX6_lowestEqual_16 (by decide) ?_
    obtain rfl := Option.some.inj h
    exact kr _ _ _ _ _ rfl rfl hP hS dX6_lowestEqual_17
  · rw [if_neg c1] at h
    refine lv_aload_n hx hb dX6_lowestEqual_8 rfl (lv_at hl 0 rfl) ?_
    refine lv_iload_n hx hb dX6_lowestEqual_9 rfl (lv_at hl 1 rfl) ?_
    obtain ⟨q2, hqq2, h⟩ := obind_some h
    refine cVM S5 hK hP 0 rfl rfl (As := [.int p1]) (kX6_lowest l D cA ad _ _ _ hqq2) (cwV 1 hts gX6_lowestEqual_X6_lowest rfl rfl rfl (by decide +kernel) ⟨(Nat.le_of_ble_eq_true rfl), (Nat.le_of_ble_eq_true rfl)⟩) rfl hl.1 (st0 := _) (rest := []) rfl (Nat.le_of_ble_eq_true rfl) dX6_lowestEqual_10 ⟨Nat.zero_le _, Nat.zero_le _⟩ ?_
    refine lv_goto (tgt := 17) hx hb dX6_lowestEqual_13 (by decide) ?_
    obtain rfl := Option.some.inj h
    exact kr _ _ _ _ _ rfl rfl hP hS dX6_lowestEqual_17

-- X6_unlike
def fX6_unlike_L22 : Nat → Int32 → Int32 → Int32 → Mem → Option (Int32)
  | 0, _, _, _, _ => none
  | n + 1, v1, v2, v3, M => (if 24 ≤ v3 then some (v2) else (if (M 0 6) = 0 then (if vin v1 4 = true then (if (fX6_has (M 3 v1.toNatClampNeg) v3) = 0 then fX6_unlike_L22 n v1 (v2 + 0) (v3 + 1) M else (obind (fX6_lowest v3 M) (fun q8 => (if q8 = v3 then fX6_unlike_L22 n v1 (v2 + 1) (v3 + 1) M else fX6_unlike_L22 n v1 (v2 + 0) (v3 + 1) M)))) else none) else some (v2)))
def fX6_unlike (p1 : Int32) (M : Mem) : Option (Int32 × Mem) := (if (fX6_in p1 0 3) = 0 then (obind (fX6_unlike_L22 40 p1 0 0 ((mset M 0 6 1))) (fun q2 => some (q2, (mset M 0 6 1)))) else (obind (fX6_unlike_L22 40 p1 0 0 ((mset M 0 6 0))) (fun q3 => some (q3, (mset M 0 6 0)))))
def rmX6_unlike : Room := { frames := 3, cells := 0, slots := 0, locals := 68 }
set_option maxHeartbeats 4000000 in
set_option maxRecDepth 100000 in
theorem kX6_unlike (l : Launch) (D : va_G) (cA : Nat) (ad : Nat → Nat) (p1 : Int32) (M : Mem) (r : Int32 × Mem) (h : fX6_unlike p1 M = some r) : WiM l yX6_unlike wsX6_unlike rmX6_unlike D cA ad M [.ref (ad 0), .int p1] r := by
  unfold fX6_unlike at h
  refine WiM.of RX6 rfl rfl rfl (Nat.le_of_ble_eq_true rfl) ?_
  intro p e s m args below meth c Q ls A eA S5 hK hP hD hS hl kr
  have hA : ∀ (H : Heap) (q : Nat), s.heap.size ≤ H.size → AX ad H.size q → A q := fun H q hz h => by rw [eA]; exact AX.mono hz h
  obtain ⟨hx, hb, -, -, hts⟩ := id S5
  have hin : ∀ w ∈ wsX60, w ∈ wsX6_unlike := fun _ h => List.mem_cons_of_mem _ (List.mem_append_right _ (h))
  have L22 : ∀ (n : Nat) (v1 : Int32) (v2 : Int32) (v3 : Int32) (M : Mem) (r' : Int32) (H : Heap) (locs : List Loc) (ls : Array Slot), fX6_unlike_L22 n v1 v2 v3 M = some r' → va_P D vwCl (wM cA ad M) H → va_S A s.heap H locs → lv_has ls 4 [(0, .ref (ad 0)), (1, .int v1), (2, .int v2), (3, .int v3)] → (∀ (H : Heap) (locs : List Loc), va_P D vwCl (wM cA ad M) H → va_S A s.heap H locs → ∀ (ls : Array Slot), lv_has ls 4 [(0, .ref (ad 0)), (1, .int v1), (2, .int (r'))] → W p l e rmX6_unlike s m args below meth c H locs 0 0 Q (F0 m 71 ls [])) → W p l e rmX6_unlike s m args below meth c H locs 0 0 Q (F0 m 22 ls []) := by
    intro n
    induction n with
    | zero => intro v1 v2 v3 M r' H locs ls h hP hS hl kk; rw [fX6_unlike_L22.eq_1] at h; cases h
    | succ n ih =>
      intro v1 v2 v3 M r' H locs ls h hP hS hl kk
      rw [fX6_unlike_L22.eq_2] at h
      refine lv_iload_n hx hb dX6_unlike_22 rfl (lv_at hl 3 rfl) ?_
      refine lv_bipush (v := 24) hx hb dX6_unlike_23 (by decide) ?_
      refine lv_icmp_ge (tgt := 71) hx hb dX6_unlike_25 (by decide) (fun c4 => ?_) (fun c4 => ?_)
      · rw [if_pos c4] at h
        obtain rfl := Option.some.inj h
        exact kk _ _ hP hS _ (lv_sub hl [0, 1, 2] rfl)
      · rw [if_neg c4] at h
        refine lv_aload_n hx hb dX6_unlike_28 rfl (lv_at hl 0 rfl) ?_
        refine gX6_thrown S5 hin hK hP (List.mem_of_getElem? (i := 1) rfl) (v := M 0 6) rfl dX6_unlike_29 ?_
        refine lv_if_ne (tgt := 71) hx hb dX6_unlike_32 (by decide) (fun c5 => ?_) (fun c5 => ?_)
        · rw [if_neg c5] at h
          obtain rfl := Option.some.inj h
          exact kk _ _ hP hS _ (lv_sub hl [0, 1, 2] rfl)
        · rw [if_pos c5] at h
          refine lv_iload_n hx hb dX6_unlike_35 rfl (lv_at hl 2 rfl) ?_
          refine lv_aload_n hx hb dX6_unlike_36 rfl (lv_at hl 0 rfl) ?_
          refine gX6_hands S5 hin hK hP (List.mem_of_getElem? (i := 2) rfl) dX6_unlike_37 ?_
          refine lv_iload_n hx hb dX6_unlike_40 rfl (lv_at hl 1 rfl) ?_
          obtain ⟨g6, h⟩ := gd_some h
          refine alM3 S5 hK hP (v := M 3 v1.toNatClampNeg) g6 rfl dX6_unlike_41 ?_
          refine lv_iload_n hx hb dX6_unlike_42 rfl (lv_at hl 3 rfl) ?_
          refine cS S5 (As := [.int (M 3 v1.toNatClampNeg), .int v3]) (kX6_has l _ _) (va_cwS 2 hts gX6_unlike_X6_has rfl rfl rfl (by decide +kernel) ⟨(Nat.le_of_ble_eq_true rfl), (Nat.le_of_ble_eq_true rfl)⟩) rfl hl.1 (st0 := _) (rest := [.int v2]) rfl (Nat.le_of_ble_eq_true rfl) dX6_unlike_43 ⟨Nat.zero_le _, Nat.zero_le _⟩ ?_
          refine lv_if_eq (tgt := 62) hx hb dX6_unlike_46 (by decide) (fun c7 => ?_) (fun c7 => ?_)
          · rw [if_pos c7] at h
            refine lv_iconst (v := 0) hx hb dX6_unlike_62 (by decide) ?_
            refine lv_iadd hx hb dX6_unlike_63 ?_
            refine lv_istore_n (lv' := [(2, .int (v2 + 0)), (0, .ref (ad 0)), (1, .int v1), (3, .int v3)]) hx hb dX6_unlike_64 rfl hl (by decide) rfl (fun ls hl => ?_)
            refine lv_iinc (v := v3 + 1) (lv' := [(3, .int (v3 + 1)), (2, .int (v2 + 0)), (0, .ref (ad 0)), (1, .int v1)]) hx hb dX6_unlike_65 hl (k := 3) rfl rfl (by decide) rfl (fun ls hl => ?_)
            refine lv_goto (tgt := 22) hx hb dX6_unlike_68 (by decide) ?_
            exact ih _ _ _ _ _ _ _ _ h hP hS (lv_sub hl [2, 3, 1, 0] rfl) kk
          · rw [if_neg c7] at h
            refine lv_aload_n hx hb dX6_unlike_49 rfl (lv_at hl 0 rfl) ?_
            refine lv_iload_n hx hb dX6_unlike_50 rfl (lv_at hl 3 rfl) ?_
            obtain ⟨q8, hqq8, h⟩ := obind_some h
            refine cVM S5 hK hP 0 rfl rfl (As := [.int v3]) (kX6_lowest l D cA ad _ _ _ hqq8) (cwV 1 hts gX6_unlike_X6_lowest rfl rfl rfl (by decide +kernel) ⟨(Nat.le_of_ble_eq_true rfl), (Nat.le_of_ble_eq_true rfl)⟩) rfl hl.1 (st0 := _) (rest := [.int v2]) rfl (Nat.le_of_ble_eq_true rfl) dX6_unlike_51 ⟨Nat.zero_le _, Nat.zero_le _⟩ ?_
            refine lv_iload_n hx hb dX6_unlike_54 rfl (lv_at hl 3 rfl) ?_
            refine lv_icmp_ne (tgt := 62) hx hb dX6_unlike_55 (by decide) (fun c9 => ?_) (fun c9 => ?_)
            · rw [if_neg c9] at h
              refine lv_iconst (v := 0) hx hb dX6_unlike_62 (by decide) ?_
              refine lv_iadd hx hb dX6_unlike_63 ?_
              refine lv_istore_n (lv' := [(2, .int (v2 + 0)), (0, .ref (ad 0)), (1, .int v1), (3, .int v3)]) hx hb dX6_unlike_64 rfl hl (by decide) rfl (fun ls hl => ?_)
              refine lv_iinc (v := v3 + 1) (lv' := [(3, .int (v3 + 1)), (2, .int (v2 + 0)), (0, .ref (ad 0)), (1, .int v1)]) hx hb dX6_unlike_65 hl (k := 3) rfl rfl (by decide) rfl (fun ls hl => ?_)
              refine lv_goto (tgt := 22) hx hb dX6_unlike_68 (by decide) ?_
              exact ih _ _ _ _ _ _ _ _ h hP hS (lv_sub hl [2, 3, 1, 0] rfl) kk
            · rw [if_pos c9] at h
              refine lv_iconst (v := 1) hx hb dX6_unlike_58 (by decide) ?_
              refine lv_goto (tgt := 63) hx hb dX6_unlike_59 (by decide) ?_
              refine lv_iadd hx hb dX6_unlike_63 ?_
              refine lv_istore_n (lv' := [(2, .int (v2 + 1)), (0, .ref (ad 0)), (1, .int v1), (3, .int v3)]) hx hb dX6_unlike_64 rfl hl (by decide) rfl (fun ls hl => ?_)
              refine lv_iinc (v := v3 + 1) (lv' := [(3, .int (v3 + 1)), (2, .int (v2 + 1)), (0, .ref (ad 0)), (1, .int v1)]) hx hb dX6_unlike_65 hl (k := 3) rfl rfl (by decide) rfl (fun ls hl => ?_)
              refine lv_goto (tgt := 22) hx hb dX6_unlike_68 (by decide) ?_
              exact ih _ _ _ _ _ _ _ _ h hP hS (lv_sub hl [2, 3, 1, 0] rfl) kk
  refine lv_aload_n hx hb dX6_unlike_0 rfl (lv_at hl 0 rfl) ?_
  refine lv_iload_n hx hb dX6_unlike_1 rfl (lv_at hl 1 rfl) ?_
  refine lv_iconst (v := 0) hx hb dX6_unlike_2 (by decide) ?_
  refine lv_iconst (v := 3) hx hb dX6_unlike_3 (by decide) ?_
  refine cS S5 (As := [.int p1, .int 0, .int 3]) (kX6_in l _ _ _) (va_cwS 3 hts gX6_unlike_X6_in rfl rfl rfl (by decide +kernel) ⟨(Nat.le_of_ble_eq_true rfl), (Nat.le_of_ble_eq_true rfl)⟩) rfl hl.1 (st0 := _) (rest := [.ref (ad 0)]) rfl (Nat.le_of_ble_eq_true rfl) dX6_unlike_4 ⟨Nat.zero_le _, Nat.zero_le _⟩ ?_
  refine lv_if_eq (tgt := 14) hx hb dX6_unlike_7 (by decide) (fun c1 => ?_) (fun c1 => ?_)
  · rw [if_pos c1] at h
    refine lv_iconst (v := 1) hx hb dX6_unlike_14 (by decide) ?_
    refine pX6_thrown S5 hin hK hP hD hS (List.mem_of_getElem? (i := 1) rfl) dX6_unlike_15 (fun H locs hP hS => ?_)
    refine lv_iconst (v := 0) hx hb dX6_unlike_18 (by decide) ?_
    refine lv_istore_n (lv' := [(2, .int 0), (0, .ref (ad 0)), (1, .int p1)]) hx hb dX6_unlike_19 rfl hl (by decide) rfl (fun ls hl => ?_)
    refine lv_iconst (v := 0) hx hb dX6_unlike_20 (by decide) ?_
    refine lv_istore_n (lv' := [(3, .int 0), (2, .int 0), (0, .ref (ad 0)), (1, .int p1)]) hx hb dX6_unlike_21 rfl hl (by decide) rfl (fun ls hl => ?_)
    obtain ⟨q2, hqq2, h⟩ := obind_some h
    refine L22 _ _ _ _ _ _ _ _ _ hqq2 hP hS (lv_sub hl [2, 3, 1, 0] rfl) (fun H locs hP hS ls hl => ?_)
    have hl := lv_sub (l' := [(2, .int q2)]) hl [2] rfl
    refine lv_iload_n hx hb dX6_unlike_71 rfl (lv_at hl 0 rfl) ?_
    obtain rfl := Option.some.inj h
    exact kr _ _ _ _ _ rfl rfl hP hS dX6_unlike_72
  · rw [if_neg c1] at h
    refine lv_iconst (v := 0) hx hb dX6_unlike_10 (by decide) ?_
    refine lv_goto (tgt := 15) hx hb dX6_unlike_11 (by decide) ?_
    refine pX6_thrown S5 hin hK hP hD hS (List.mem_of_getElem? (i := 1) rfl) dX6_unlike_15 (fun H locs hP hS => ?_)
    refine lv_iconst (v := 0) hx hb dX6_unlike_18 (by decide) ?_
    refine lv_istore_n (lv' := [(2, .int 0), (0, .ref (ad 0)), (1, .int p1)]) hx hb dX6_unlike_19 rfl hl (by decide) rfl (fun ls hl => ?_)
    refine lv_iconst (v := 0) hx hb dX6_unlike_20 (by decide) ?_
    refine lv_istore_n (lv' := [(3, .int 0), (2, .int 0), (0, .ref (ad 0)), (1, .int p1)]) hx hb dX6_unlike_21 rfl hl (by decide) rfl (fun ls hl => ?_)
    obtain ⟨q3, hqq3, h⟩ := obind_some h
    refine L22 _ _ _ _ _ _ _ _ _ hqq3 hP hS (lv_sub hl [2, 3, 1, 0] rfl) (fun H locs hP hS ls hl => ?_)
    have hl := lv_sub (l' := [(2, .int q3)]) hl [2] rfl
    refine lv_iload_n hx hb dX6_unlike_71 rfl (lv_at hl 0 rfl) ?_
    obtain rfl := Option.some.inj h
    exact kr _ _ _ _ _ rfl rfl hP hS dX6_unlike_72

-- X6_tops
def fX6_tops_L17 : Nat → Int32 → Int32 → Int32 → Mem → Option (Int32)
  | 0, _, _, _, _ => none
  | n + 1, v2, v3, v4, M => (if (im v4 6) ≤ 0 then some (v3) else (if v3 = 0 then fX6_tops_L17 n v2 0 (v4 + 1) M else (if (fX6_has v2 v4) = 0 then fX6_tops_L17 n v2 1 (v4 + 1) M else fX6_tops_L17 n v2 0 (v4 + 1) M)))
def fX6_tops (p1 : Int32) (M : Mem) : Option (Int32) := (obind (fX6_others (fX6_holder p1 M) M) (fun q1 => (obind (fX6_tops_L17 40 q1 1 (p1 + 1) M) (fun q2 => (if vb q2 = true then some (q2) else none)))))
def rmX6_tops : Room := { frames := 2, cells := 0, slots := 0, locals := 43 }
set_option maxHeartbeats 4000000 in
set_option maxRecDepth 100000 in
theorem kX6_tops (l : Launch) (D : va_G) (cA : Nat) (ad : Nat → Nat) (p1 : Int32) (M : Mem) (r : Int32) (h : fX6_tops p1 M = some r) : RdM l yX6_tops wsX6_tops rmX6_tops D cA ad M [.ref (ad 0), .int p1] r := by
  unfold fX6_tops at h
  refine RdM.of RX6 rfl rfl rfl (Nat.le_of_ble_eq_true rfl) ?_
  intro p e s m args below meth c Q ls S5 hK hP hl kr
  obtain ⟨hx, hb, -, -, hts⟩ := id S5
  have hin : ∀ w ∈ wsX60, w ∈ wsX6_tops := fun _ h => List.mem_cons_of_mem _ (List.mem_append_right _ (h))
  have L17 : ∀ (n : Nat) (v2 : Int32) (v3 : Int32) (v4 : Int32) (r' : Int32) (ls : Array Slot), fX6_tops_L17 n v2 v3 v4 M = some r' → lv_has ls 5 [(2, .int v2), (3, .int v3), (4, .int v4)] → (∀ (ls : Array Slot), lv_has ls 5 [(2, .int v2), (3, .int (r'))] → W p l e rmX6_tops s m args below meth c s.heap [] 0 0 Q (F0 m 50 ls [])) → W p l e rmX6_tops s m args below meth c s.heap [] 0 0 Q (F0 m 17 ls []) := by
    intro n
    induction n with
    | zero => intro v2 v3 v4 r' ls h hl kk; rw [fX6_tops_L17.eq_1] at h; cases h
    | succ n ih =>
      intro v2 v3 v4 r' ls h hl kk
      rw [fX6_tops_L17.eq_2] at h
      refine lv_iload hx hb dX6_tops_17 (lv_at hl 2 rfl) ?_
      refine lv_bipush (v := 6) hx hb dX6_tops_19 (by decide) ?_
      refine r_irem S5 dX6_tops_21 (by decide) ?_
      refine lv_if_le (tgt := 50) hx hb dX6_tops_22 (by decide) (fun c4 => ?_) (fun c4 => ?_)
      · rw [if_pos c4] at h
        obtain rfl := Option.some.inj h
        exact kk _ (lv_sub hl [0, 1] rfl)
      · rw [if_neg c4] at h
        refine lv_iload_n hx hb dX6_tops_25 rfl (lv_at hl 1 rfl) ?_
        refine lv_if_eq (tgt := 42) hx hb dX6_tops_26 (by decide) (fun c5 => ?_) (fun c5 => ?_)
        · rw [if_pos c5] at h
          refine lv_iconst (v := 0) hx hb dX6_tops_42 (by decide) ?_
          refine lv_istore_n (lv' := [(3, .int 0), (2, .int v2), (4, .int v4)]) hx hb dX6_tops_43 rfl hl (by decide) rfl (fun ls hl => ?_)
          refine lv_iinc (v := v4 + 1) (lv' := [(4, .int (v4 + 1)), (3, .int 0), (2, .int v2)]) hx hb dX6_tops_44 hl (k := 2) rfl rfl (by decide) rfl (fun ls hl => ?_)
          refine lv_goto (tgt := 17) hx hb dX6_tops_47 (by decide) ?_
          exact ih _ _ _ _ _ h (lv_sub hl [2, 1, 0] rfl) kk
        · rw [if_neg c5] at h
          refine lv_iload_n hx hb dX6_tops_29 rfl (lv_at hl 0 rfl) ?_
          refine lv_iload hx hb dX6_tops_30 (lv_at hl 2 rfl) ?_
          refine cS S5 (As := [.int v2, .int v4]) (kX6_has l _ _) (va_cwS 2 hts gX6_tops_X6_has rfl rfl rfl (by decide +kernel) ⟨(Nat.le_of_ble_eq_true rfl), (Nat.le_of_ble_eq_true rfl)⟩) rfl hl.1 (st0 := _) (rest := []) rfl (Nat.le_of_ble_eq_true rfl) dX6_tops_32 ⟨Nat.zero_le _, Nat.zero_le _⟩ ?_
          refine lv_if_ne (tgt := 42) hx hb dX6_tops_35 (by decide) (fun c6 => ?_) (fun c6 => ?_)
          · rw [if_neg c6] at h
            refine lv_iconst (v := 0) hx hb dX6_tops_42 (by decide) ?_
            refine lv_istore_n (lv' := [(3, .int 0), (2, .int v2), (4, .int v4)]) hx hb dX6_tops_43 rfl hl (by decide) rfl (fun ls hl => ?_)
            refine lv_iinc (v := v4 + 1) (lv' := [(4, .int (v4 + 1)), (3, .int 0), (2, .int v2)]) hx hb dX6_tops_44 hl (k := 2) rfl rfl (by decide) rfl (fun ls hl => ?_)
            refine lv_goto (tgt := 17) hx hb dX6_tops_47 (by decide) ?_
            exact ih _ _ _ _ _ h (lv_sub hl [2, 1, 0] rfl) kk
          · rw [if_pos c6] at h
            refine lv_iconst (v := 1) hx hb dX6_tops_38 (by decide) ?_
            refine lv_goto (tgt := 43) hx hb dX6_tops_39 (by decide) ?_
            refine lv_istore_n (lv' := [(3, .int 1), (2, .int v2), (4, .int v4)]) hx hb dX6_tops_43 rfl hl (by decide) rfl (fun ls hl => ?_)
            refine lv_iinc (v := v4 + 1) (lv' := [(4, .int (v4 + 1)), (3, .int 1), (2, .int v2)]) hx hb dX6_tops_44 hl (k := 2) rfl rfl (by decide) rfl (fun ls hl => ?_)
            refine lv_goto (tgt := 17) hx hb dX6_tops_47 (by decide) ?_
            exact ih _ _ _ _ _ h (lv_sub hl [2, 1, 0] rfl) kk
  refine lv_aload_n hx hb dX6_tops_0 rfl (lv_at hl 0 rfl) ?_
  refine lv_aload_n hx hb dX6_tops_1 rfl (lv_at hl 0 rfl) ?_
  refine lv_iload_n hx hb dX6_tops_2 rfl (lv_at hl 1 rfl) ?_
  refine cVM S5 hK hP 0 rfl rfl (As := [.int p1]) (kX6_holder l D cA ad _ _) (cwV 1 hts gX6_tops_X6_holder rfl rfl rfl (by decide +kernel) ⟨(Nat.le_of_ble_eq_true rfl), (Nat.le_of_ble_eq_true rfl)⟩) rfl hl.1 (st0 := _) (rest := [.ref (ad 0)]) rfl (Nat.le_of_ble_eq_true rfl) dX6_tops_3 ⟨Nat.zero_le _, Nat.zero_le _⟩ ?_
  obtain ⟨q1, hqq1, h⟩ := obind_some h
  refine cVM S5 hK hP 0 rfl rfl (As := [.int (fX6_holder p1 M)]) (kX6_others l D cA ad _ _ _ hqq1) (cwV 1 hts gX6_tops_X6_others rfl rfl rfl (by decide +kernel) ⟨(Nat.le_of_ble_eq_true rfl), (Nat.le_of_ble_eq_true rfl)⟩) rfl hl.1 (st0 := _) (rest := []) rfl (Nat.le_of_ble_eq_true rfl) dX6_tops_6 ⟨Nat.zero_le _, Nat.zero_le _⟩ ?_
  refine lv_istore_n (lv' := [(2, .int q1), (0, .ref (ad 0)), (1, .int p1)]) hx hb dX6_tops_9 rfl hl (by decide) rfl (fun ls hl => ?_)
  refine lv_iconst (v := 1) hx hb dX6_tops_10 (by decide) ?_
  refine lv_istore_n (lv' := [(3, .int 1), (2, .int q1), (0, .ref (ad 0)), (1, .int p1)]) hx hb dX6_tops_11 rfl hl (by decide) rfl (fun ls hl => ?_)
  refine lv_iload_n hx hb dX6_tops_12 rfl (lv_at hl 3 rfl) ?_
  refine lv_iconst (v := 1) hx hb dX6_tops_13 (by decide) ?_
  refine lv_iadd hx hb dX6_tops_14 ?_
  refine lv_istore (lv' := [(4, .int (p1 + 1)), (3, .int 1), (2, .int q1), (0, .ref (ad 0)), (1, .int p1)]) hx hb dX6_tops_15 hl (by decide) rfl (fun ls hl => ?_)
  obtain ⟨q2, hqq2, h⟩ := obind_some h
  refine L17 _ _ _ _ _ _ hqq2 (lv_sub hl [2, 1, 0] rfl) (fun ls hl => ?_)
  have hl := lv_sub (l' := [(3, .int q2)]) hl [1] rfl
  refine lv_iload_n hx hb dX6_tops_50 rfl (lv_at hl 0 rfl) ?_
  obtain ⟨g3, h⟩ := gd_some h
  obtain rfl := Option.some.inj h
  exact kr _ _ _ rfl (nb (vb_or g3)) dX6_tops_51

-- X6_isTop
def fX6_isTop (p1 : Int32) (M : Mem) : Option (Int32 × Mem) := (if ((fX6_isHeld p1 M).1) = 0 then some (0, (fX6_isHeld p1 M).2) else (obind (fX6_tops p1 ((fX6_isHeld p1 M).2)) (fun q2 => (if q2 = 0 then some (0, (fX6_isHeld p1 M).2) else some (1, (fX6_isHeld p1 M).2)))))
def rmX6_isTop : Room := { frames := 3, cells := 0, slots := 0, locals := 67 }
set_option maxHeartbeats 4000000 in
set_option maxRecDepth 100000 in
theorem kX6_isTop (l : Launch) (D : va_G) (cA : Nat) (ad : Nat → Nat) (p1 : Int32) (M : Mem) (r : Int32 × Mem) (h : fX6_isTop p1 M = some r) : WiM l yX6_isTop wsX6_isTop rmX6_isTop D cA ad M [.ref (ad 0), .int p1] r := by
  unfold fX6_isTop at h
  refine WiM.of RX6 rfl rfl rfl (Nat.le_of_ble_eq_true rfl) ?_
  intro p e s m args below meth c Q ls A eA S5 hK hP hD hS hl kr
  have hA : ∀ (H : Heap) (q : Nat), s.heap.size ≤ H.size → AX ad H.size q → A q := fun H q hz h => by rw [eA]; exact AX.mono hz h
  obtain ⟨hx, hb, -, -, hts⟩ := id S5
  have hin : ∀ w ∈ wsX60, w ∈ wsX6_isTop := fun _ h => List.mem_cons_of_mem _ (List.mem_append_right _ (h))
  refine lv_aload_n hx hb dX6_isTop_0 rfl (lv_at hl 0 rfl) ?_
  refine lv_iload_n hx hb dX6_isTop_1 rfl (lv_at hl 1 rfl) ?_
  refine cWiM S5 hK hP hD hS (fun _ h => hA _ _ hS.1 h) 0 rfl rfl (As := [.int p1]) (kX6_isHeld l D cA ad _ _) (cwV 1 hts gX6_isTop_X6_isHeld rfl rfl rfl (by decide +kernel) ⟨(Nat.le_of_ble_eq_true rfl), (Nat.le_of_ble_eq_true rfl)⟩) rfl hl.1 (st0 := _) (rest := []) rfl (Nat.le_of_ble_eq_true rfl) dX6_isTop_2 ⟨Nat.zero_le _, Nat.zero_le _⟩ (fun H locs hz hP hS => ?_)
  refine lv_if_eq (tgt := 20) hx hb dX6_isTop_5 (by decide) (fun c1 => ?_) (fun c1 => ?_)
  · rw [if_pos c1] at h
    refine lv_iconst (v := 0) hx hb dX6_isTop_20 (by decide) ?_
    obtain rfl := Option.some.inj h
    exact kr _ _ _ _ _ rfl rfl hP hS dX6_isTop_21
  · rw [if_neg c1] at h
    refine lv_aload_n hx hb dX6_isTop_8 rfl (lv_at hl 0 rfl) ?_
    refine lv_iload_n hx hb dX6_isTop_9 rfl (lv_at hl 1 rfl) ?_
    obtain ⟨q2, hqq2, h⟩ := obind_some h
    refine cVM S5 hK hP 0 rfl rfl (As := [.int p1]) (kX6_tops l D cA ad _ _ _ hqq2) (cwV 1 hts gX6_isTop_X6_tops rfl rfl rfl (by decide +kernel) ⟨(Nat.le_of_ble_eq_true rfl), (Nat.le_of_ble_eq_true rfl)⟩) rfl hl.1 (st0 := _) (rest := []) rfl (Nat.le_of_ble_eq_true rfl) dX6_isTop_10 ⟨Nat.zero_le _, Nat.zero_le _⟩ ?_
    refine lv_if_eq (tgt := 20) hx hb dX6_isTop_13 (by decide) (fun c3 => ?_) (fun c3 => ?_)
    · rw [if_pos c3] at h
      refine lv_iconst (v := 0) hx hb dX6_isTop_20 (by decide) ?_
      obtain rfl := Option.some.inj h
      exact kr _ _ _ _ _ rfl rfl hP hS dX6_isTop_21
    · rw [if_neg c3] at h
      refine lv_iconst (v := 1) hx hb dX6_isTop_16 (by decide) ?_
      refine lv_goto (tgt := 21) hx hb dX6_isTop_17 (by decide) ?_
      obtain rfl := Option.some.inj h
      exact kr _ _ _ _ _ rfl rfl hP hS dX6_isTop_21

-- X6_quick
def fX6_quick_L22 : Nat → Int32 → Int32 → Int32 → Mem → Option (Int32)
  | 0, _, _, _, _ => none
  | n + 1, v1, v2, v3, M => (if 24 ≤ v3 then some (v2) else (if (M 0 6) = 0 then (if vin v1 4 = true then (if (fX6_has (M 3 v1.toNatClampNeg) v3) = 0 then fX6_quick_L22 n v1 (v2 + 0) (v3 + 1) M else (obind (fX6_tops v3 M) (fun q8 => (if q8 = 0 then fX6_quick_L22 n v1 (v2 + 0) (v3 + 1) M else fX6_quick_L22 n v1 (v2 + 1) (v3 + 1) M)))) else none) else some (v2)))
def fX6_quick (p1 : Int32) (M : Mem) : Option (Int32 × Mem) := (if (fX6_in p1 0 3) = 0 then (obind (fX6_quick_L22 40 p1 0 0 ((mset M 0 6 1))) (fun q2 => some (q2, (mset M 0 6 1)))) else (obind (fX6_quick_L22 40 p1 0 0 ((mset M 0 6 0))) (fun q3 => some (q3, (mset M 0 6 0)))))
def rmX6_quick : Room := { frames := 3, cells := 0, slots := 0, locals := 67 }
set_option maxHeartbeats 4000000 in
set_option maxRecDepth 100000 in
theorem kX6_quick (l : Launch) (D : va_G) (cA : Nat) (ad : Nat → Nat) (p1 : Int32) (M : Mem) (r : Int32 × Mem) (h : fX6_quick p1 M = some r) : WiM l yX6_quick wsX6_quick rmX6_quick D cA ad M [.ref (ad 0), .int p1] r := by
  unfold fX6_quick at h
  refine WiM.of RX6 rfl rfl rfl (Nat.le_of_ble_eq_true rfl) ?_
  intro p e s m args below meth c Q ls A eA S5 hK hP hD hS hl kr
  have hA : ∀ (H : Heap) (q : Nat), s.heap.size ≤ H.size → AX ad H.size q → A q := fun H q hz h => by rw [eA]; exact AX.mono hz h
  obtain ⟨hx, hb, -, -, hts⟩ := id S5
  have hin : ∀ w ∈ wsX60, w ∈ wsX6_quick := fun _ h => List.mem_cons_of_mem _ (List.mem_append_right _ (h))
  have L22 : ∀ (n : Nat) (v1 : Int32) (v2 : Int32) (v3 : Int32) (M : Mem) (r' : Int32) (H : Heap) (locs : List Loc) (ls : Array Slot), fX6_quick_L22 n v1 v2 v3 M = some r' → va_P D vwCl (wM cA ad M) H → va_S A s.heap H locs → lv_has ls 4 [(0, .ref (ad 0)), (1, .int v1), (2, .int v2), (3, .int v3)] → (∀ (H : Heap) (locs : List Loc), va_P D vwCl (wM cA ad M) H → va_S A s.heap H locs → ∀ (ls : Array Slot), lv_has ls 4 [(0, .ref (ad 0)), (1, .int v1), (2, .int (r'))] → W p l e rmX6_quick s m args below meth c H locs 0 0 Q (F0 m 70 ls [])) → W p l e rmX6_quick s m args below meth c H locs 0 0 Q (F0 m 22 ls []) := by
    intro n
    induction n with
    | zero => intro v1 v2 v3 M r' H locs ls h hP hS hl kk; rw [fX6_quick_L22.eq_1] at h; cases h
    | succ n ih =>
      intro v1 v2 v3 M r' H locs ls h hP hS hl kk
      rw [fX6_quick_L22.eq_2] at h
      refine lv_iload_n hx hb dX6_quick_22 rfl (lv_at hl 3 rfl) ?_
      refine lv_bipush (v := 24) hx hb dX6_quick_23 (by decide) ?_
      refine lv_icmp_ge (tgt := 70) hx hb dX6_quick_25 (by decide) (fun c4 => ?_) (fun c4 => ?_)
      · rw [if_pos c4] at h
        obtain rfl := Option.some.inj h
        exact kk _ _ hP hS _ (lv_sub hl [0, 1, 2] rfl)
      · rw [if_neg c4] at h
        refine lv_aload_n hx hb dX6_quick_28 rfl (lv_at hl 0 rfl) ?_
        refine gX6_thrown S5 hin hK hP (List.mem_of_getElem? (i := 1) rfl) (v := M 0 6) rfl dX6_quick_29 ?_
        refine lv_if_ne (tgt := 70) hx hb dX6_quick_32 (by decide) (fun c5 => ?_) (fun c5 => ?_)
        · rw [if_neg c5] at h
          obtain rfl := Option.some.inj h
          exact kk _ _ hP hS _ (lv_sub hl [0, 1, 2] rfl)
        · rw [if_pos c5] at h
          refine lv_iload_n hx hb dX6_quick_35 rfl (lv_at hl 2 rfl) ?_
          refine lv_aload_n hx hb dX6_quick_36 rfl (lv_at hl 0 rfl) ?_
          refine gX6_hands S5 hin hK hP (List.mem_of_getElem? (i := 2) rfl) dX6_quick_37 ?_
          refine lv_iload_n hx hb dX6_quick_40 rfl (lv_at hl 1 rfl) ?_
          obtain ⟨g6, h⟩ := gd_some h
          refine alM3 S5 hK hP (v := M 3 v1.toNatClampNeg) g6 rfl dX6_quick_41 ?_
          refine lv_iload_n hx hb dX6_quick_42 rfl (lv_at hl 3 rfl) ?_
          refine cS S5 (As := [.int (M 3 v1.toNatClampNeg), .int v3]) (kX6_has l _ _) (va_cwS 2 hts gX6_quick_X6_has rfl rfl rfl (by decide +kernel) ⟨(Nat.le_of_ble_eq_true rfl), (Nat.le_of_ble_eq_true rfl)⟩) rfl hl.1 (st0 := _) (rest := [.int v2]) rfl (Nat.le_of_ble_eq_true rfl) dX6_quick_43 ⟨Nat.zero_le _, Nat.zero_le _⟩ ?_
          refine lv_if_eq (tgt := 61) hx hb dX6_quick_46 (by decide) (fun c7 => ?_) (fun c7 => ?_)
          · rw [if_pos c7] at h
            refine lv_iconst (v := 0) hx hb dX6_quick_61 (by decide) ?_
            refine lv_iadd hx hb dX6_quick_62 ?_
            refine lv_istore_n (lv' := [(2, .int (v2 + 0)), (0, .ref (ad 0)), (1, .int v1), (3, .int v3)]) hx hb dX6_quick_63 rfl hl (by decide) rfl (fun ls hl => ?_)
            refine lv_iinc (v := v3 + 1) (lv' := [(3, .int (v3 + 1)), (2, .int (v2 + 0)), (0, .ref (ad 0)), (1, .int v1)]) hx hb dX6_quick_64 hl (k := 3) rfl rfl (by decide) rfl (fun ls hl => ?_)
            refine lv_goto (tgt := 22) hx hb dX6_quick_67 (by decide) ?_
            exact ih _ _ _ _ _ _ _ _ h hP hS (lv_sub hl [2, 3, 1, 0] rfl) kk
          · rw [if_neg c7] at h
            refine lv_aload_n hx hb dX6_quick_49 rfl (lv_at hl 0 rfl) ?_
            refine lv_iload_n hx hb dX6_quick_50 rfl (lv_at hl 3 rfl) ?_
            obtain ⟨q8, hqq8, h⟩ := obind_some h
            refine cVM S5 hK hP 0 rfl rfl (As := [.int v3]) (kX6_tops l D cA ad _ _ _ hqq8) (cwV 1 hts gX6_quick_X6_tops rfl rfl rfl (by decide +kernel) ⟨(Nat.le_of_ble_eq_true rfl), (Nat.le_of_ble_eq_true rfl)⟩) rfl hl.1 (st0 := _) (rest := [.int v2]) rfl (Nat.le_of_ble_eq_true rfl) dX6_quick_51 ⟨Nat.zero_le _, Nat.zero_le _⟩ ?_
            refine lv_if_eq (tgt := 61) hx hb dX6_quick_54 (by decide) (fun c9 => ?_) (fun c9 => ?_)
            · rw [if_pos c9] at h
              refine lv_iconst (v := 0) hx hb dX6_quick_61 (by decide) ?_
              refine lv_iadd hx hb dX6_quick_62 ?_
              refine lv_istore_n (lv' := [(2, .int (v2 + 0)), (0, .ref (ad 0)), (1, .int v1), (3, .int v3)]) hx hb dX6_quick_63 rfl hl (by decide) rfl (fun ls hl => ?_)
              refine lv_iinc (v := v3 + 1) (lv' := [(3, .int (v3 + 1)), (2, .int (v2 + 0)), (0, .ref (ad 0)), (1, .int v1)]) hx hb dX6_quick_64 hl (k := 3) rfl rfl (by decide) rfl (fun ls hl => ?_)
              refine lv_goto (tgt := 22) hx hb dX6_quick_67 (by decide) ?_
              exact ih _ _ _ _ _ _ _ _ h hP hS (lv_sub hl [2, 3, 1, 0] rfl) kk
            · rw [if_neg c9] at h
              refine lv_iconst (v := 1) hx hb dX6_quick_57 (by decide) ?_
              refine lv_goto (tgt := 62) hx hb dX6_quick_58 (by decide) ?_
              refine lv_iadd hx hb dX6_quick_62 ?_
              refine lv_istore_n (lv' := [(2, .int (v2 + 1)), (0, .ref (ad 0)), (1, .int v1), (3, .int v3)]) hx hb dX6_quick_63 rfl hl (by decide) rfl (fun ls hl => ?_)
              refine lv_iinc (v := v3 + 1) (lv' := [(3, .int (v3 + 1)), (2, .int (v2 + 1)), (0, .ref (ad 0)), (1, .int v1)]) hx hb dX6_quick_64 hl (k := 3) rfl rfl (by decide) rfl (fun ls hl => ?_)
              refine lv_goto (tgt := 22) hx hb dX6_quick_67 (by decide) ?_
              exact ih _ _ _ _ _ _ _ _ h hP hS (lv_sub hl [2, 3, 1, 0] rfl) kk
  refine lv_aload_n hx hb dX6_quick_0 rfl (lv_at hl 0 rfl) ?_
  refine lv_iload_n hx hb dX6_quick_1 rfl (lv_at hl 1 rfl) ?_
  refine lv_iconst (v := 0) hx hb dX6_quick_2 (by decide) ?_
  refine lv_iconst (v := 3) hx hb dX6_quick_3 (by decide) ?_
  refine cS S5 (As := [.int p1, .int 0, .int 3]) (kX6_in l _ _ _) (va_cwS 3 hts gX6_quick_X6_in rfl rfl rfl (by decide +kernel) ⟨(Nat.le_of_ble_eq_true rfl), (Nat.le_of_ble_eq_true rfl)⟩) rfl hl.1 (st0 := _) (rest := [.ref (ad 0)]) rfl (Nat.le_of_ble_eq_true rfl) dX6_quick_4 ⟨Nat.zero_le _, Nat.zero_le _⟩ ?_
  refine lv_if_eq (tgt := 14) hx hb dX6_quick_7 (by decide) (fun c1 => ?_) (fun c1 => ?_)
  · rw [if_pos c1] at h
    refine lv_iconst (v := 1) hx hb dX6_quick_14 (by decide) ?_
    refine pX6_thrown S5 hin hK hP hD hS (List.mem_of_getElem? (i := 1) rfl) dX6_quick_15 (fun H locs hP hS => ?_)
    refine lv_iconst (v := 0) hx hb dX6_quick_18 (by decide) ?_
    refine lv_istore_n (lv' := [(2, .int 0), (0, .ref (ad 0)), (1, .int p1)]) hx hb dX6_quick_19 rfl hl (by decide) rfl (fun ls hl => ?_)
    refine lv_iconst (v := 0) hx hb dX6_quick_20 (by decide) ?_
    refine lv_istore_n (lv' := [(3, .int 0), (2, .int 0), (0, .ref (ad 0)), (1, .int p1)]) hx hb dX6_quick_21 rfl hl (by decide) rfl (fun ls hl => ?_)
    obtain ⟨q2, hqq2, h⟩ := obind_some h
    refine L22 _ _ _ _ _ _ _ _ _ hqq2 hP hS (lv_sub hl [2, 3, 1, 0] rfl) (fun H locs hP hS ls hl => ?_)
    have hl := lv_sub (l' := [(2, .int q2)]) hl [2] rfl
    refine lv_iload_n hx hb dX6_quick_70 rfl (lv_at hl 0 rfl) ?_
    obtain rfl := Option.some.inj h
    exact kr _ _ _ _ _ rfl rfl hP hS dX6_quick_71
  · rw [if_neg c1] at h
    refine lv_iconst (v := 0) hx hb dX6_quick_10 (by decide) ?_
    refine lv_goto (tgt := 15) hx hb dX6_quick_11 (by decide) ?_
    refine pX6_thrown S5 hin hK hP hD hS (List.mem_of_getElem? (i := 1) rfl) dX6_quick_15 (fun H locs hP hS => ?_)
    refine lv_iconst (v := 0) hx hb dX6_quick_18 (by decide) ?_
    refine lv_istore_n (lv' := [(2, .int 0), (0, .ref (ad 0)), (1, .int p1)]) hx hb dX6_quick_19 rfl hl (by decide) rfl (fun ls hl => ?_)
    refine lv_iconst (v := 0) hx hb dX6_quick_20 (by decide) ?_
    refine lv_istore_n (lv' := [(3, .int 0), (2, .int 0), (0, .ref (ad 0)), (1, .int p1)]) hx hb dX6_quick_21 rfl hl (by decide) rfl (fun ls hl => ?_)
    obtain ⟨q3, hqq3, h⟩ := obind_some h
    refine L22 _ _ _ _ _ _ _ _ _ hqq3 hP hS (lv_sub hl [2, 3, 1, 0] rfl) (fun H locs hP hS ls hl => ?_)
    have hl := lv_sub (l' := [(2, .int q3)]) hl [2] rfl
    refine lv_iload_n hx hb dX6_quick_70 rfl (lv_at hl 0 rfl) ?_
    obtain rfl := Option.some.inj h
    exact kr _ _ _ _ _ rfl rfl hP hS dX6_quick_71

-- X6_forkOf
def fX6_forkOf_L19 : Nat → Int32 → Int32 → Int32 → Int32 → Int32 → Int32 → Mem → Option (Int32 × Int32 × Int32)
  | 0, _, _, _, _, _, _, _ => none
  | n + 1, v1, v2, v3, v4, v5, v6, M => (if v6 < (6 * v2) then some (v3, v4, v5) else (if 3 ≤ v3 then some (v3, v4, v5) else (if (fX6_holder v6 M) = ((-1)) then fX6_forkOf_L19 n v1 v2 v3 v4 v5 (v6 + (-1)) M else (if v4 = 0 then (if v3 = 1 then fX6_forkOf_L19 n v1 v2 (v3 + 1) 0 (fX6_holder v6 M) (v6 + (-1)) M else fX6_forkOf_L19 n v1 v2 (v3 + 1) 0 v5 (v6 + (-1)) M) else (if v3 = 1 then (if (im (fX6_holder v6 M) 2) = (im v1 2) then (if v3 = 1 then fX6_forkOf_L19 n v1 v2 (v3 + 1) 0 (fX6_holder v6 M) (v6 + (-1)) M else fX6_forkOf_L19 n v1 v2 (v3 + 1) 0 v5 (v6 + (-1)) M) else (if v3 = 1 then fX6_forkOf_L19 n v1 v2 (v3 + 1) 1 (fX6_holder v6 M) (v6 + (-1)) M else fX6_forkOf_L19 n v1 v2 (v3 + 1) 1 v5 (v6 + (-1)) M)) else (if (fX6_holder v6 M) = v1 then (if v3 = 1 then fX6_forkOf_L19 n v1 v2 (v3 + 1) 1 (fX6_holder v6 M) (v6 + (-1)) M else fX6_forkOf_L19 n v1 v2 (v3 + 1) 1 v5 (v6 + (-1)) M) else (if v3 = 1 then fX6_forkOf_L19 n v1 v2 (v3 + 1) 0 (fX6_holder v6 M) (v6 + (-1)) M else fX6_forkOf_L19 n v1 v2 (v3 + 1) 0 v5 (v6 + (-1)) M)))))))
def fX6_forkOf (p1 : Int32) (p2 : Int32) (M : Mem) : Option (Int32) := (obind (fX6_forkOf_L19 40 p1 p2 0 1 ((-1)) (((6 * p2) + 6) - 1) M) (fun q1 => (if q1.2.1 = 0 then some (0) else (if 3 ≤ q1.1 then (if (im (q1.2.2 + 1) 4) = p1 then some (2) else some (1)) else some (0)))))
def rmX6_forkOf : Room := { frames := 2, cells := 0, slots := 0, locals := 43 }
set_option maxHeartbeats 4000000 in
set_option maxRecDepth 100000 in
theorem kX6_forkOf (l : Launch) (D : va_G) (cA : Nat) (ad : Nat → Nat) (p1 : Int32) (p2 : Int32) (M : Mem) (r : Int32) (h : fX6_forkOf p1 p2 M = some r) : RdM l yX6_forkOf wsX6_forkOf rmX6_forkOf D cA ad M [.ref (ad 0), .int p1, .int p2] r := by
  unfold fX6_forkOf at h
  refine RdM.of RX6 rfl rfl rfl (Nat.le_of_ble_eq_true rfl) ?_
  intro p e s m args below meth c Q ls S5 hK hP hl kr
  obtain ⟨hx, hb, -, -, hts⟩ := id S5
  have hin : ∀ w ∈ wsX60, w ∈ wsX6_forkOf := fun _ h => List.mem_cons_of_mem _ (List.mem_append_right _ (h))
  have L19 : ∀ (n : Nat) (v1 : Int32) (v2 : Int32) (v3 : Int32) (v4 : Int32) (v5 : Int32) (v6 : Int32) (r' : Int32 × Int32 × Int32) (ls : Array Slot), fX6_forkOf_L19 n v1 v2 v3 v4 v5 v6 M = some r' → lv_has ls 8 [(0, .ref (ad 0)), (1, .int v1), (2, .int v2), (3, .int v3), (4, .int v4), (5, .int v5), (6, .int v6)] → (∀ (ls : Array Slot), lv_has ls 8 [(0, .ref (ad 0)), (1, .int v1), (2, .int v2), (3, .int (r'.1)), (4, .int (r'.2.1)), (5, .int (r'.2.2))] → W p l e rmX6_forkOf s m args below meth c s.heap [] 0 0 Q (F0 m 106 ls [])) → W p l e rmX6_forkOf s m args below meth c s.heap [] 0 0 Q (F0 m 19 ls []) := by
    intro n
    induction n with
    | zero => intro v1 v2 v3 v4 v5 v6 r' ls h hl kk; rw [fX6_forkOf_L19.eq_1] at h; cases h
    | succ n ih =>
      intro v1 v2 v3 v4 v5 v6 r' ls h hl kk
      rw [fX6_forkOf_L19.eq_2] at h
      refine lv_iload hx hb dX6_forkOf_19 (lv_at hl 6 rfl) ?_
      refine lv_bipush (v := 6) hx hb dX6_forkOf_21 (by decide) ?_
      refine lv_iload_n hx hb dX6_forkOf_23 rfl (lv_at hl 2 rfl) ?_
      refine lv_imul hx hb dX6_forkOf_24 ?_
      refine lv_icmp_lt (tgt := 106) hx hb dX6_forkOf_25 (by decide) (fun c5 => ?_) (fun c5 => ?_)
      · rw [if_pos c5] at h
        obtain rfl := Option.some.inj h
        exact kk _ (lv_sub hl [0, 1, 2, 3, 4, 5] rfl)
      · rw [if_neg c5] at h
        refine lv_iload_n hx hb dX6_forkOf_28 rfl (lv_at hl 3 rfl) ?_
        refine lv_iconst (v := 3) hx hb dX6_forkOf_29 (by decide) ?_
        refine lv_icmp_ge (tgt := 106) hx hb dX6_forkOf_30 (by decide) (fun c6 => ?_) (fun c6 => ?_)
        · rw [if_pos c6] at h
          obtain rfl := Option.some.inj h
          exact kk _ (lv_sub hl [0, 1, 2, 3, 4, 5] rfl)
        · rw [if_neg c6] at h
          refine lv_aload_n hx hb dX6_forkOf_33 rfl (lv_at hl 0 rfl) ?_
          refine lv_iload hx hb dX6_forkOf_34 (lv_at hl 6 rfl) ?_
          refine cVM S5 hK hP 0 rfl rfl (As := [.int v6]) (kX6_holder l D cA ad _ _) (cwV 1 hts gX6_forkOf_X6_holder rfl rfl rfl (by decide +kernel) ⟨(Nat.le_of_ble_eq_true rfl), (Nat.le_of_ble_eq_true rfl)⟩) rfl hl.1 (st0 := _) (rest := []) rfl (Nat.le_of_ble_eq_true rfl) dX6_forkOf_36 ⟨Nat.zero_le _, Nat.zero_le _⟩ ?_
          refine lv_istore (lv' := [(7, .int (fX6_holder v6 M)), (0, .ref (ad 0)), (1, .int v1), (2, .int v2), (3, .int v3), (4, .int v4), (5, .int v5), (6, .int v6)]) hx hb dX6_forkOf_39 hl (by decide) rfl (fun ls hl => ?_)
          refine lv_iload hx hb dX6_forkOf_41 (lv_at hl 0 rfl) ?_
          refine lv_iconst (v := (-1)) hx hb dX6_forkOf_43 (by decide) ?_
          refine lv_icmp_eq (tgt := 100) hx hb dX6_forkOf_44 (by decide) (fun c7 => ?_) (fun c7 => ?_)
          · rw [if_pos c7] at h
            refine lv_iinc (v := v6 + (-1)) (lv' := [(6, .int (v6 + (-1))), (7, .int (fX6_holder v6 M)), (0, .ref (ad 0)), (1, .int v1), (2, .int v2), (3, .int v3), (4, .int v4), (5, .int v5)]) hx hb dX6_forkOf_100 hl (k := 7) rfl rfl (by decide) rfl (fun ls hl => ?_)
            refine lv_goto (tgt := 19) hx hb dX6_forkOf_103 (by decide) ?_
            exact ih _ _ _ _ _ _ _ _ h (lv_sub hl [2, 3, 4, 5, 6, 7, 0] rfl) kk
          · rw [if_neg c7] at h
            refine lv_iload hx hb dX6_forkOf_47 (lv_at hl 5 rfl) ?_
            refine lv_if_eq (tgt := 80) hx hb dX6_forkOf_49 (by decide) (fun c8 => ?_) (fun c8 => ?_)
            · rw [if_pos c8] at h
              refine lv_iconst (v := 0) hx hb dX6_forkOf_80 (by decide) ?_
              refine lv_istore (lv' := [(4, .int 0), (7, .int (fX6_holder v6 M)), (0, .ref (ad 0)), (1, .int v1), (2, .int v2), (3, .int v3), (5, .int v5), (6, .int v6)]) hx hb dX6_forkOf_81 hl (by decide) rfl (fun ls hl => ?_)
              refine lv_iload_n hx hb dX6_forkOf_83 rfl (lv_at hl 5 rfl) ?_
              refine lv_iconst (v := 1) hx hb dX6_forkOf_84 (by decide) ?_
              refine lv_icmp_ne (tgt := 93) hx hb dX6_forkOf_85 (by decide) (fun c9 => ?_) (fun c9 => ?_)
              · rw [if_neg c9] at h
                refine lv_iload hx hb dX6_forkOf_93 (lv_at hl 6 rfl) ?_
                refine lv_istore (lv' := [(5, .int v5), (4, .int 0), (7, .int (fX6_holder v6 M)), (0, .ref (ad 0)), (1, .int v1), (2, .int v2), (3, .int v3), (6, .int v6)]) hx hb dX6_forkOf_95 hl (by decide) rfl (fun ls hl => ?_)
                refine lv_iinc (v := v3 + 1) (lv' := [(3, .int (v3 + 1)), (5, .int v5), (4, .int 0), (7, .int (fX6_holder v6 M)), (0, .ref (ad 0)), (1, .int v1), (2, .int v2), (6, .int v6)]) hx hb dX6_forkOf_97 hl (k := 6) rfl rfl (by decide) rfl (fun ls hl => ?_)
                refine lv_iinc (v := v6 + (-1)) (lv' := [(6, .int (v6 + (-1))), (3, .int (v3 + 1)), (5, .int v5), (4, .int 0), (7, .int (fX6_holder v6 M)), (0, .ref (ad 0)), (1, .int v1), (2, .int v2)]) hx hb dX6_forkOf_100 hl (k := 7) rfl rfl (by decide) rfl (fun ls hl => ?_)
                refine lv_goto (tgt := 19) hx hb dX6_forkOf_103 (by decide) ?_
                exact ih _ _ _ _ _ _ _ _ h (lv_sub hl [5, 6, 7, 1, 3, 2, 0] rfl) kk
              · rw [if_pos c9] at h
                refine lv_iload hx hb dX6_forkOf_88 (lv_at hl 1 rfl) ?_
                refine lv_goto (tgt := 95) hx hb dX6_forkOf_90 (by decide) ?_
                refine lv_istore (lv' := [(5, .int (fX6_holder v6 M)), (4, .int 0), (7, .int (fX6_holder v6 M)), (0, .ref (ad 0)), (1, .int v1), (2, .int v2), (3, .int v3), (6, .int v6)]) hx hb dX6_forkOf_95 hl (by decide) rfl (fun ls hl => ?_)
                refine lv_iinc (v := v3 + 1) (lv' := [(3, .int (v3 + 1)), (5, .int (fX6_holder v6 M)), (4, .int 0), (7, .int (fX6_holder v6 M)), (0, .ref (ad 0)), (1, .int v1), (2, .int v2), (6, .int v6)]) hx hb dX6_forkOf_97 hl (k := 6) rfl rfl (by decide) rfl (fun ls hl => ?_)
                refine lv_iinc (v := v6 + (-1)) (lv' := [(6, .int (v6 + (-1))), (3, .int (v3 + 1)), (5, .int (fX6_holder v6 M)), (4, .int 0), (7, .int (fX6_holder v6 M)), (0, .ref (ad 0)), (1, .int v1), (2, .int v2)]) hx hb dX6_forkOf_100 hl (k := 7) rfl rfl (by decide) rfl (fun ls hl => ?_)
                refine lv_goto (tgt := 19) hx hb dX6_forkOf_103 (by decide) ?_
                exact ih _ _ _ _ _ _ _ _ h (lv_sub hl [5, 6, 7, 1, 3, 2, 0] rfl) kk
            · rw [if_neg c8] at h
              refine lv_iload_n hx hb dX6_forkOf_52 rfl (lv_at hl 4 rfl) ?_
              refine lv_iconst (v := 1) hx hb dX6_forkOf_53 (by decide) ?_
              refine lv_icmp_ne (tgt := 70) hx hb dX6_forkOf_54 (by decide) (fun c10 => ?_) (fun c10 => ?_)
              · rw [if_neg c10] at h
                refine lv_iload hx hb dX6_forkOf_70 (lv_at hl 0 rfl) ?_
                refine lv_iload_n hx hb dX6_forkOf_72 rfl (lv_at hl 2 rfl) ?_
                refine lv_icmp_ne (tgt := 80) hx hb dX6_forkOf_73 (by decide) (fun c11 => ?_) (fun c11 => ?_)
                · rw [if_neg c11] at h
                  refine lv_iconst (v := 0) hx hb dX6_forkOf_80 (by decide) ?_
                  refine lv_istore (lv' := [(4, .int 0), (7, .int (fX6_holder v6 M)), (0, .ref (ad 0)), (1, .int v1), (2, .int v2), (3, .int v3), (5, .int v5), (6, .int v6)]) hx hb dX6_forkOf_81 hl (by decide) rfl (fun ls hl => ?_)
                  refine lv_iload_n hx hb dX6_forkOf_83 rfl (lv_at hl 5 rfl) ?_
                  refine lv_iconst (v := 1) hx hb dX6_forkOf_84 (by decide) ?_
                  refine lv_icmp_ne (tgt := 93) hx hb dX6_forkOf_85 (by decide) (fun c12 => ?_) (fun c12 => ?_)
                  · rw [if_neg c12] at h
                    refine lv_iload hx hb dX6_forkOf_93 (lv_at hl 6 rfl) ?_
                    refine lv_istore (lv' := [(5, .int v5), (4, .int 0), (7, .int (fX6_holder v6 M)), (0, .ref (ad 0)), (1, .int v1), (2, .int v2), (3, .int v3), (6, .int v6)]) hx hb dX6_forkOf_95 hl (by decide) rfl (fun ls hl => ?_)
                    refine lv_iinc (v := v3 + 1) (lv' := [(3, .int (v3 + 1)), (5, .int v5), (4, .int 0), (7, .int (fX6_holder v6 M)), (0, .ref (ad 0)), (1, .int v1), (2, .int v2), (6, .int v6)]) hx hb dX6_forkOf_97 hl (k := 6) rfl rfl (by decide) rfl (fun ls hl => ?_)
                    refine lv_iinc (v := v6 + (-1)) (lv' := [(6, .int (v6 + (-1))), (3, .int (v3 + 1)), (5, .int v5), (4, .int 0), (7, .int (fX6_holder v6 M)), (0, .ref (ad 0)), (1, .int v1), (2, .int v2)]) hx hb dX6_forkOf_100 hl (k := 7) rfl rfl (by decide) rfl (fun ls hl => ?_)
                    refine lv_goto (tgt := 19) hx hb dX6_forkOf_103 (by decide) ?_
                    exact ih _ _ _ _ _ _ _ _ h (lv_sub hl [5, 6, 7, 1, 3, 2, 0] rfl) kk
                  · rw [if_pos c12] at h
                    refine lv_iload hx hb dX6_forkOf_88 (lv_at hl 1 rfl) ?_
                    refine lv_goto (tgt := 95) hx hb dX6_forkOf_90 (by decide) ?_
                    refine lv_istore (lv' := [(5, .int (fX6_holder v6 M)), (4, .int 0), (7, .int (fX6_holder v6 M)), (0, .ref (ad 0)), (1, .int v1), (2, .int v2), (3, .int v3), (6, .int v6)]) hx hb dX6_forkOf_95 hl (by decide) rfl (fun ls hl => ?_)
                    refine lv_iinc (v := v3 + 1) (lv' := [(3, .int (v3 + 1)), (5, .int (fX6_holder v6 M)), (4, .int 0), (7, .int (fX6_holder v6 M)), (0, .ref (ad 0)), (1, .int v1), (2, .int v2), (6, .int v6)]) hx hb dX6_forkOf_97 hl (k := 6) rfl rfl (by decide) rfl (fun ls hl => ?_)
                    refine lv_iinc (v := v6 + (-1)) (lv' := [(6, .int (v6 + (-1))), (3, .int (v3 + 1)), (5, .int (fX6_holder v6 M)), (4, .int 0), (7, .int (fX6_holder v6 M)), (0, .ref (ad 0)), (1, .int v1), (2, .int v2)]) hx hb dX6_forkOf_100 hl (k := 7) rfl rfl (by decide) rfl (fun ls hl => ?_)
                    refine lv_goto (tgt := 19) hx hb dX6_forkOf_103 (by decide) ?_
                    exact ih _ _ _ _ _ _ _ _ h (lv_sub hl [5, 6, 7, 1, 3, 2, 0] rfl) kk
                · rw [if_pos c11] at h
                  refine lv_iconst (v := 1) hx hb dX6_forkOf_76 (by decide) ?_
                  refine lv_goto (tgt := 81) hx hb dX6_forkOf_77 (by decide) ?_
                  refine lv_istore (lv' := [(4, .int 1), (7, .int (fX6_holder v6 M)), (0, .ref (ad 0)), (1, .int v1), (2, .int v2), (3, .int v3), (5, .int v5), (6, .int v6)]) hx hb dX6_forkOf_81 hl (by decide) rfl (fun ls hl => ?_)
                  refine lv_iload_n hx hb dX6_forkOf_83 rfl (lv_at hl 5 rfl) ?_
                  refine lv_iconst (v := 1) hx hb dX6_forkOf_84 (by decide) ?_
                  refine lv_icmp_ne (tgt := 93) hx hb dX6_forkOf_85 (by decide) (fun c13 => ?_) (fun c13 => ?_)
                  · rw [if_neg c13] at h
                    refine lv_iload hx hb dX6_forkOf_93 (lv_at hl 6 rfl) ?_
                    refine lv_istore (lv' := [(5, .int v5), (4, .int 1), (7, .int (fX6_holder v6 M)), (0, .ref (ad 0)), (1, .int v1), (2, .int v2), (3, .int v3), (6, .int v6)]) hx hb dX6_forkOf_95 hl (by decide) rfl (fun ls hl => ?_)
                    refine lv_iinc (v := v3 + 1) (lv' := [(3, .int (v3 + 1)), (5, .int v5), (4, .int 1), (7, .int (fX6_holder v6 M)), (0, .ref (ad 0)), (1, .int v1), (2, .int v2), (6, .int v6)]) hx hb dX6_forkOf_97 hl (k := 6) rfl rfl (by decide) rfl (fun ls hl => ?_)
                    refine lv_iinc (v := v6 + (-1)) (lv' := [(6, .int (v6 + (-1))), (3, .int (v3 + 1)), (5, .int v5), (4, .int 1), (7, .int (fX6_holder v6 M)), (0, .ref (ad 0)), (1, .int v1), (2, .int v2)]) hx hb dX6_forkOf_100 hl (k := 7) rfl rfl (by decide) rfl (fun ls hl => ?_)
                    refine lv_goto (tgt := 19) hx hb dX6_forkOf_103 (by decide) ?_
                    exact ih _ _ _ _ _ _ _ _ h (lv_sub hl [5, 6, 7, 1, 3, 2, 0] rfl) kk
                  · rw [if_pos c13] at h
                    refine lv_iload hx hb dX6_forkOf_88 (lv_at hl 1 rfl) ?_
                    refine lv_goto (tgt := 95) hx hb dX6_forkOf_90 (by decide) ?_
                    refine lv_istore (lv' := [(5, .int (fX6_holder v6 M)), (4, .int 1), (7, .int (fX6_holder v6 M)), (0, .ref (ad 0)), (1, .int v1), (2, .int v2), (3, .int v3), (6, .int v6)]) hx hb dX6_forkOf_95 hl (by decide) rfl (fun ls hl => ?_)
                    refine lv_iinc (v := v3 + 1) (lv' := [(3, .int (v3 + 1)), (5, .int (fX6_holder v6 M)), (4, .int 1), (7, .int (fX6_holder v6 M)), (0, .ref (ad 0)), (1, .int v1), (2, .int v2), (6, .int v6)]) hx hb dX6_forkOf_97 hl (k := 6) rfl rfl (by decide) rfl (fun ls hl => ?_)
                    refine lv_iinc (v := v6 + (-1)) (lv' := [(6, .int (v6 + (-1))), (3, .int (v3 + 1)), (5, .int (fX6_holder v6 M)), (4, .int 1), (7, .int (fX6_holder v6 M)), (0, .ref (ad 0)), (1, .int v1), (2, .int v2)]) hx hb dX6_forkOf_100 hl (k := 7) rfl rfl (by decide) rfl (fun ls hl => ?_)
                    refine lv_goto (tgt := 19) hx hb dX6_forkOf_103 (by decide) ?_
                    exact ih _ _ _ _ _ _ _ _ h (lv_sub hl [5, 6, 7, 1, 3, 2, 0] rfl) kk
              · rw [if_pos c10] at h
                refine lv_iload hx hb dX6_forkOf_57 (lv_at hl 0 rfl) ?_
                refine lv_iconst (v := 2) hx hb dX6_forkOf_59 (by decide) ?_
                refine r_irem S5 dX6_forkOf_60 (by decide) ?_
                refine lv_iload_n hx hb dX6_forkOf_61 rfl (lv_at hl 2 rfl) ?_
                refine lv_iconst (v := 2) hx hb dX6_forkOf_62 (by decide) ?_
                refine r_irem S5 dX6_forkOf_63 (by decide) ?_
                refine lv_icmp_eq (tgt := 80) hx hb dX6_forkOf_64 (by decide) (fun c14 => ?_) (fun c14 => ?_)
                · rw [if_pos c14] at h
                  refine lv_iconst (v := 0) hx hb dX6_forkOf_80 (by decide) ?_
                  refine lv_istore (lv' := [(4, .int 0), (7, .int (fX6_holder v6 M)), (0, .ref (ad 0)), (1, .int v1), (2, .int v2), (3, .int v3), (5, .int v5), (6, .int v6)]) hx hb dX6_forkOf_81 hl (by decide) rfl (fun ls hl => ?_)
                  refine lv_iload_n hx hb dX6_forkOf_83 rfl (lv_at hl 5 rfl) ?_
                  refine lv_iconst (v := 1) hx hb dX6_forkOf_84 (by decide) ?_
                  refine lv_icmp_ne (tgt := 93) hx hb dX6_forkOf_85 (by decide) (fun c15 => ?_) (fun c15 => ?_)
                  · rw [if_neg c15] at h
                    refine lv_iload hx hb dX6_forkOf_93 (lv_at hl 6 rfl) ?_
                    refine lv_istore (lv' := [(5, .int v5), (4, .int 0), (7, .int (fX6_holder v6 M)), (0, .ref (ad 0)), (1, .int v1), (2, .int v2), (3, .int v3), (6, .int v6)]) hx hb dX6_forkOf_95 hl (by decide) rfl (fun ls hl => ?_)
                    refine lv_iinc (v := v3 + 1) (lv' := [(3, .int (v3 + 1)), (5, .int v5), (4, .int 0), (7, .int (fX6_holder v6 M)), (0, .ref (ad 0)), (1, .int v1), (2, .int v2), (6, .int v6)]) hx hb dX6_forkOf_97 hl (k := 6) rfl rfl (by decide) rfl (fun ls hl => ?_)
                    refine lv_iinc (v := v6 + (-1)) (lv' := [(6, .int (v6 + (-1))), (3, .int (v3 + 1)), (5, .int v5), (4, .int 0), (7, .int (fX6_holder v6 M)), (0, .ref (ad 0)), (1, .int v1), (2, .int v2)]) hx hb dX6_forkOf_100 hl (k := 7) rfl rfl (by decide) rfl (fun ls hl => ?_)
                    refine lv_goto (tgt := 19) hx hb dX6_forkOf_103 (by decide) ?_
                    exact ih _ _ _ _ _ _ _ _ h (lv_sub hl [5, 6, 7, 1, 3, 2, 0] rfl) kk
                  · rw [if_pos c15] at h
                    refine lv_iload hx hb dX6_forkOf_88 (lv_at hl 1 rfl) ?_
                    refine lv_goto (tgt := 95) hx hb dX6_forkOf_90 (by decide) ?_
                    refine lv_istore (lv' := [(5, .int (fX6_holder v6 M)), (4, .int 0), (7, .int (fX6_holder v6 M)), (0, .ref (ad 0)), (1, .int v1), (2, .int v2), (3, .int v3), (6, .int v6)]) hx hb dX6_forkOf_95 hl (by decide) rfl (fun ls hl => ?_)
                    refine lv_iinc (v := v3 + 1) (lv' := [(3, .int (v3 + 1)), (5, .int (fX6_holder v6 M)), (4, .int 0), (7, .int (fX6_holder v6 M)), (0, .ref (ad 0)), (1, .int v1), (2, .int v2), (6, .int v6)]) hx hb dX6_forkOf_97 hl (k := 6) rfl rfl (by decide) rfl (fun ls hl => ?_)
                    refine lv_iinc (v := v6 + (-1)) (lv' := [(6, .int (v6 + (-1))), (3, .int (v3 + 1)), (5, .int (fX6_holder v6 M)), (4, .int 0), (7, .int (fX6_holder v6 M)), (0, .ref (ad 0)), (1, .int v1), (2, .int v2)]) hx hb dX6_forkOf_100 hl (k := 7) rfl rfl (by decide) rfl (fun ls hl => ?_)
                    refine lv_goto (tgt := 19) hx hb dX6_forkOf_103 (by decide) ?_
                    exact ih _ _ _ _ _ _ _ _ h (lv_sub hl [5, 6, 7, 1, 3, 2, 0] rfl) kk
                · rw [if_neg c14] at h
                  refine lv_goto (tgt := 76) hx hb dX6_forkOf_67 (by decide) ?_
                  refine lv_iconst (v := 1) hx hb dX6_forkOf_76 (by decide) ?_
                  refine lv_goto (tgt := 81) hx hb dX6_forkOf_77 (by decide) ?_
                  refine lv_istore (lv' := [(4, .int 1), (7, .int (fX6_holder v6 M)), (0, .ref (ad 0)), (1, .int v1), (2, .int v2), (3, .int v3), (5, .int v5), (6, .int v6)]) hx hb dX6_forkOf_81 hl (by decide) rfl (fun ls hl => ?_)
                  refine lv_iload_n hx hb dX6_forkOf_83 rfl (lv_at hl 5 rfl) ?_
                  refine lv_iconst (v := 1) hx hb dX6_forkOf_84 (by decide) ?_
                  refine lv_icmp_ne (tgt := 93) hx hb dX6_forkOf_85 (by decide) (fun c16 => ?_) (fun c16 => ?_)
                  · rw [if_neg c16] at h
                    refine lv_iload hx hb dX6_forkOf_93 (lv_at hl 6 rfl) ?_
                    refine lv_istore (lv' := [(5, .int v5), (4, .int 1), (7, .int (fX6_holder v6 M)), (0, .ref (ad 0)), (1, .int v1), (2, .int v2), (3, .int v3), (6, .int v6)]) hx hb dX6_forkOf_95 hl (by decide) rfl (fun ls hl => ?_)
                    refine lv_iinc (v := v3 + 1) (lv' := [(3, .int (v3 + 1)), (5, .int v5), (4, .int 1), (7, .int (fX6_holder v6 M)), (0, .ref (ad 0)), (1, .int v1), (2, .int v2), (6, .int v6)]) hx hb dX6_forkOf_97 hl (k := 6) rfl rfl (by decide) rfl (fun ls hl => ?_)
                    refine lv_iinc (v := v6 + (-1)) (lv' := [(6, .int (v6 + (-1))), (3, .int (v3 + 1)), (5, .int v5), (4, .int 1), (7, .int (fX6_holder v6 M)), (0, .ref (ad 0)), (1, .int v1), (2, .int v2)]) hx hb dX6_forkOf_100 hl (k := 7) rfl rfl (by decide) rfl (fun ls hl => ?_)
                    refine lv_goto (tgt := 19) hx hb dX6_forkOf_103 (by decide) ?_
                    exact ih _ _ _ _ _ _ _ _ h (lv_sub hl [5, 6, 7, 1, 3, 2, 0] rfl) kk
                  · rw [if_pos c16] at h
                    refine lv_iload hx hb dX6_forkOf_88 (lv_at hl 1 rfl) ?_
                    refine lv_goto (tgt := 95) hx hb dX6_forkOf_90 (by decide) ?_
                    refine lv_istore (lv' := [(5, .int (fX6_holder v6 M)), (4, .int 1), (7, .int (fX6_holder v6 M)), (0, .ref (ad 0)), (1, .int v1), (2, .int v2), (3, .int v3), (6, .int v6)]) hx hb dX6_forkOf_95 hl (by decide) rfl (fun ls hl => ?_)
                    refine lv_iinc (v := v3 + 1) (lv' := [(3, .int (v3 + 1)), (5, .int (fX6_holder v6 M)), (4, .int 1), (7, .int (fX6_holder v6 M)), (0, .ref (ad 0)), (1, .int v1), (2, .int v2), (6, .int v6)]) hx hb dX6_forkOf_97 hl (k := 6) rfl rfl (by decide) rfl (fun ls hl => ?_)
                    refine lv_iinc (v := v6 + (-1)) (lv' := [(6, .int (v6 + (-1))), (3, .int (v3 + 1)), (5, .int (fX6_holder v6 M)), (4, .int 1), (7, .int (fX6_holder v6 M)), (0, .ref (ad 0)), (1, .int v1), (2, .int v2)]) hx hb dX6_forkOf_100 hl (k := 7) rfl rfl (by decide) rfl (fun ls hl => ?_)
                    refine lv_goto (tgt := 19) hx hb dX6_forkOf_103 (by decide) ?_
                    exact ih _ _ _ _ _ _ _ _ h (lv_sub hl [5, 6, 7, 1, 3, 2, 0] rfl) kk
  refine lv_iconst (v := 0) hx hb dX6_forkOf_0 (by decide) ?_
  refine lv_istore_n (lv' := [(3, .int 0), (0, .ref (ad 0)), (1, .int p1), (2, .int p2)]) hx hb dX6_forkOf_1 rfl hl (by decide) rfl (fun ls hl => ?_)
  refine lv_iconst (v := 1) hx hb dX6_forkOf_2 (by decide) ?_
  refine lv_istore (lv' := [(4, .int 1), (3, .int 0), (0, .ref (ad 0)), (1, .int p1), (2, .int p2)]) hx hb dX6_forkOf_3 hl (by decide) rfl (fun ls hl => ?_)
  refine lv_iconst (v := (-1)) hx hb dX6_forkOf_5 (by decide) ?_
  refine lv_istore (lv' := [(5, .int ((-1))), (4, .int 1), (3, .int 0), (0, .ref (ad 0)), (1, .int p1), (2, .int p2)]) hx hb dX6_forkOf_6 hl (by decide) rfl (fun ls hl => ?_)
  refine lv_bipush (v := 6) hx hb dX6_forkOf_8 (by decide) ?_
  refine lv_iload_n hx hb dX6_forkOf_10 rfl (lv_at hl 5 rfl) ?_
  refine lv_imul hx hb dX6_forkOf_11 ?_
  refine lv_bipush (v := 6) hx hb dX6_forkOf_12 (by decide) ?_
  refine lv_iadd hx hb dX6_forkOf_14 ?_
  refine lv_iconst (v := 1) hx hb dX6_forkOf_15 (by decide) ?_
  refine lv_isub hx hb dX6_forkOf_16 ?_
  refine lv_istore (lv' := [(6, .int (((6 * p2) + 6) - 1)), (5, .int ((-1))), (4, .int 1), (3, .int 0), (0, .ref (ad 0)), (1, .int p1), (2, .int p2)]) hx hb dX6_forkOf_17 hl (by decide) rfl (fun ls hl => ?_)
  obtain ⟨q1, hqq1, h⟩ := obind_some h
  refine L19 _ _ _ _ _ _ _ _ _ hqq1 (lv_sub hl [4, 5, 6, 3, 2, 1, 0] rfl) (fun ls hl => ?_)
  have hl := lv_sub (l' := [(1, .int p1), (3, .int q1.1), (4, .int q1.2.1), (5, .int q1.2.2)]) hl [1, 3, 4, 5] rfl
  refine lv_iload hx hb dX6_forkOf_106 (lv_at hl 2 rfl) ?_
  refine lv_if_eq (tgt := 116) hx hb dX6_forkOf_108 (by decide) (fun c2 => ?_) (fun c2 => ?_)
  · rw [if_pos c2] at h
    refine lv_iconst (v := 0) hx hb dX6_forkOf_116 (by decide) ?_
    refine lv_goto (tgt := 135) hx hb dX6_forkOf_117 (by decide) ?_
    obtain rfl := Option.some.inj h
    exact kr _ _ _ rfl rfl dX6_forkOf_135
  · rw [if_neg c2] at h
    refine lv_iload_n hx hb dX6_forkOf_111 rfl (lv_at hl 1 rfl) ?_
    refine lv_iconst (v := 3) hx hb dX6_forkOf_112 (by decide) ?_
    refine lv_icmp_ge (tgt := 120) hx hb dX6_forkOf_113 (by decide) (fun c3 => ?_) (fun c3 => ?_)
    · rw [if_pos c3] at h
      refine lv_iload hx hb dX6_forkOf_120 (lv_at hl 3 rfl) ?_
      refine lv_iconst (v := 1) hx hb dX6_forkOf_122 (by decide) ?_
      refine lv_iadd hx hb dX6_forkOf_123 ?_
      refine lv_iconst (v := 4) hx hb dX6_forkOf_124 (by decide) ?_
      refine r_irem S5 dX6_forkOf_125 (by decide) ?_
      refine lv_iload_n hx hb dX6_forkOf_126 rfl (lv_at hl 0 rfl) ?_
      refine lv_icmp_ne (tgt := 134) hx hb dX6_forkOf_127 (by decide) (fun c4 => ?_) (fun c4 => ?_)
      · rw [if_neg c4] at h
        refine lv_iconst (v := 1) hx hb dX6_forkOf_134 (by decide) ?_
        obtain rfl := Option.some.inj h
        exact kr _ _ _ rfl rfl dX6_forkOf_135
      · rw [if_pos c4] at h
        refine lv_iconst (v := 2) hx hb dX6_forkOf_130 (by decide) ?_
        refine lv_goto (tgt := 135) hx hb dX6_forkOf_131 (by decide) ?_
        obtain rfl := Option.some.inj h
        exact kr _ _ _ rfl rfl dX6_forkOf_135
    · rw [if_neg c3] at h
      refine lv_iconst (v := 0) hx hb dX6_forkOf_116 (by decide) ?_
      refine lv_goto (tgt := 135) hx hb dX6_forkOf_117 (by decide) ?_
      obtain rfl := Option.some.inj h
      exact kr _ _ _ rfl rfl dX6_forkOf_135

-- X6_fork
def fX6_fork (p1 : Int32) (p2 : Int32) (M : Mem) : Option (Int32 × Mem) := (if (fX6_in p1 0 3) = 0 then some (0, (mset M 0 6 1)) else (if (fX6_in p2 0 3) = 0 then some (0, (mset M 0 6 1)) else (obind (fX6_forkOf p1 p2 ((mset M 0 6 0))) (fun q6 => some (q6, (mset M 0 6 0))))))
def rmX6_fork : Room := { frames := 3, cells := 0, slots := 0, locals := 70 }
set_option maxHeartbeats 4000000 in
set_option maxRecDepth 100000 in
theorem kX6_fork (l : Launch) (D : va_G) (cA : Nat) (ad : Nat → Nat) (p1 : Int32) (p2 : Int32) (M : Mem) (r : Int32 × Mem) (h : fX6_fork p1 p2 M = some r) : WiM l yX6_fork wsX6_fork rmX6_fork D cA ad M [.ref (ad 0), .int p1, .int p2] r := by
  unfold fX6_fork at h
  refine WiM.of RX6 rfl rfl rfl (Nat.le_of_ble_eq_true rfl) ?_
  intro p e s m args below meth c Q ls A eA S5 hK hP hD hS hl kr
  have hA : ∀ (H : Heap) (q : Nat), s.heap.size ≤ H.size → AX ad H.size q → A q := fun H q hz h => by rw [eA]; exact AX.mono hz h
  obtain ⟨hx, hb, -, -, hts⟩ := id S5
  have hin : ∀ w ∈ wsX60, w ∈ wsX6_fork := fun _ h => List.mem_cons_of_mem _ (List.mem_append_right _ (h))
  refine lv_aload_n hx hb dX6_fork_0 rfl (lv_at hl 0 rfl) ?_
  refine lv_iload_n hx hb dX6_fork_1 rfl (lv_at hl 1 rfl) ?_
  refine lv_iconst (v := 0) hx hb dX6_fork_2 (by decide) ?_
  refine lv_iconst (v := 3) hx hb dX6_fork_3 (by decide) ?_
  refine cS S5 (As := [.int p1, .int 0, .int 3]) (kX6_in l _ _ _) (va_cwS 3 hts gX6_fork_X6_in rfl rfl rfl (by decide +kernel) ⟨(Nat.le_of_ble_eq_true rfl), (Nat.le_of_ble_eq_true rfl)⟩) rfl hl.1 (st0 := _) (rest := [.ref (ad 0)]) rfl (Nat.le_of_ble_eq_true rfl) dX6_fork_4 ⟨Nat.zero_le _, Nat.zero_le _⟩ ?_
  refine lv_if_eq (tgt := 23) hx hb dX6_fork_7 (by decide) (fun c1 => ?_) (fun c1 => ?_)
  · rw [if_pos c1] at h
    refine lv_iconst (v := 1) hx hb dX6_fork_23 (by decide) ?_
    refine pX6_thrown S5 hin hK hP hD hS (List.mem_of_getElem? (i := 1) rfl) dX6_fork_24 (fun H locs hP hS => ?_)
    refine lv_aload_n hx hb dX6_fork_27 rfl (lv_at hl 0 rfl) ?_
    refine gX6_thrown S5 hin hK hP (List.mem_of_getElem? (i := 1) rfl) (v := 1) rfl dX6_fork_28 ?_
    refine lv_if_ne (tgt := 43) hx hb dX6_fork_31 (by decide) (fun c2 => ?_) (fun c2 => absurd c2 (by decide))
    refine lv_iconst (v := 0) hx hb dX6_fork_43 (by decide) ?_
    obtain rfl := Option.some.inj h
    exact kr _ _ _ _ _ rfl rfl hP hS dX6_fork_44
  · rw [if_neg c1] at h
    refine lv_iload_n hx hb dX6_fork_10 rfl (lv_at hl 2 rfl) ?_
    refine lv_iconst (v := 0) hx hb dX6_fork_11 (by decide) ?_
    refine lv_iconst (v := 3) hx hb dX6_fork_12 (by decide) ?_
    refine cS S5 (As := [.int p2, .int 0, .int 3]) (kX6_in l _ _ _) (va_cwS 3 hts gX6_fork_X6_in rfl rfl rfl (by decide +kernel) ⟨(Nat.le_of_ble_eq_true rfl), (Nat.le_of_ble_eq_true rfl)⟩) rfl hl.1 (st0 := _) (rest := [.ref (ad 0)]) rfl (Nat.le_of_ble_eq_true rfl) dX6_fork_13 ⟨Nat.zero_le _, Nat.zero_le _⟩ ?_
    refine lv_if_eq (tgt := 23) hx hb dX6_fork_16 (by decide) (fun c3 => ?_) (fun c3 => ?_)
    · rw [if_pos c3] at h
      refine lv_iconst (v := 1) hx hb dX6_fork_23 (by decide) ?_
      refine pX6_thrown S5 hin hK hP hD hS (List.mem_of_getElem? (i := 1) rfl) dX6_fork_24 (fun H locs hP hS => ?_)
      refine lv_aload_n hx hb dX6_fork_27 rfl (lv_at hl 0 rfl) ?_
      refine gX6_thrown S5 hin hK hP (List.mem_of_getElem? (i := 1) rfl) (v := 1) rfl dX6_fork_28 ?_
      refine lv_if_ne (tgt := 43) hx hb dX6_fork_31 (by decide) (fun c4 => ?_) (fun c4 => absurd c4 (by decide))
      refine lv_iconst (v := 0) hx hb dX6_fork_43 (by decide) ?_
      obtain rfl := Option.some.inj h
      exact kr _ _ _ _ _ rfl rfl hP hS dX6_fork_44
    · rw [if_neg c3] at h
      refine lv_iconst (v := 0) hx hb dX6_fork_19 (by decide) ?_
      refine lv_goto (tgt := 24) hx hb dX6_fork_20 (by decide) ?_
      refine pX6_thrown S5 hin hK hP hD hS (List.mem_of_getElem? (i := 1) rfl) dX6_fork_24 (fun H locs hP hS => ?_)
      refine lv_aload_n hx hb dX6_fork_27 rfl (lv_at hl 0 rfl) ?_
      refine gX6_thrown S5 hin hK hP (List.mem_of_getElem? (i := 1) rfl) (v := 0) rfl dX6_fork_28 ?_
      refine lv_if_ne (tgt := 43) hx hb dX6_fork_31 (by decide) (fun c5 => absurd c5 (by decide)) (fun c5 => ?_)
      refine lv_aload_n hx hb dX6_fork_34 rfl (lv_at hl 0 rfl) ?_
      refine lv_iload_n hx hb dX6_fork_35 rfl (lv_at hl 1 rfl) ?_
      refine lv_iload_n hx hb dX6_fork_36 rfl (lv_at hl 2 rfl) ?_
      obtain ⟨q6, hqq6, h⟩ := obind_some h
      refine cVM S5 hK hP 0 rfl rfl (As := [.int p1, .int p2]) (kX6_forkOf l D cA ad _ _ _ _ hqq6) (cwV 2 hts gX6_fork_X6_forkOf rfl rfl rfl (by decide +kernel) ⟨(Nat.le_of_ble_eq_true rfl), (Nat.le_of_ble_eq_true rfl)⟩) rfl hl.1 (st0 := _) (rest := []) rfl (Nat.le_of_ble_eq_true rfl) dX6_fork_37 ⟨Nat.zero_le _, Nat.zero_le _⟩ ?_
      refine lv_goto (tgt := 44) hx hb dX6_fork_40 (by decide) ?_
      obtain rfl := Option.some.inj h
      exact kr _ _ _ _ _ rfl rfl hP hS dX6_fork_44

-- X6_goodForks
def fX6_goodForks_L16 : Nat → Int32 → Int32 → Int32 → Mem → Option (Int32)
  | 0, _, _, _, _ => none
  | n + 1, v1, v2, v3, M => (if 4 ≤ v3 then some (v1) else (obind (fX6_forkOf v2 v3 M) (fun q5 => (if q5 = 2 then (if (im v2 2) = 0 then fX6_goodForks_L16 n (v1 + 1) v2 (v3 + 1) M else fX6_goodForks_L16 n (v1 + ((-1))) v2 (v3 + 1) M) else fX6_goodForks_L16 n (v1 + 0) v2 (v3 + 1) M))))
def fX6_goodForks_L9 : Nat → Int32 → Int32 → Mem → Option (Int32)
  | 0, _, _, _ => none
  | n + 1, v1, v2, M => (if 4 ≤ v2 then some (v1) else (obind (fX6_goodForks_L16 40 v1 v2 0 M) (fun q3 => fX6_goodForks_L9 n q3 (v2 + 1) M)))
def fX6_goodForks (M : Mem) : Option (Int32 × Mem) := (obind (fX6_goodForks_L9 40 0 0 ((mset M 0 6 0))) (fun q1 => some (q1, (mset M 0 6 0))))
def rmX6_goodForks : Room := { frames := 3, cells := 0, slots := 0, locals := 70 }
set_option maxHeartbeats 4000000 in
set_option maxRecDepth 100000 in
theorem kX6_goodForks (l : Launch) (D : va_G) (cA : Nat) (ad : Nat → Nat) (M : Mem) (r : Int32 × Mem) (h : fX6_goodForks M = some r) : WiM l yX6_goodForks wsX6_goodForks rmX6_goodForks D cA ad M [.ref (ad 0)] r := by
  unfold fX6_goodForks at h
  refine WiM.of RX6 rfl rfl rfl (Nat.le_of_ble_eq_true rfl) ?_
  intro p e s m args below meth c Q ls A eA S5 hK hP hD hS hl kr
  have hA : ∀ (H : Heap) (q : Nat), s.heap.size ≤ H.size → AX ad H.size q → A q := fun H q hz h => by rw [eA]; exact AX.mono hz h
  obtain ⟨hx, hb, -, -, hts⟩ := id S5
  have hin : ∀ w ∈ wsX60, w ∈ wsX6_goodForks := fun _ h => List.mem_cons_of_mem _ (List.mem_append_right _ (h))
  have L16 : ∀ (n : Nat) (v1 : Int32) (v2 : Int32) (v3 : Int32) (M : Mem) (r' : Int32) (H : Heap) (locs : List Loc) (ls : Array Slot), fX6_goodForks_L16 n v1 v2 v3 M = some r' → va_P D vwCl (wM cA ad M) H → va_S A s.heap H locs → lv_has ls 4 [(0, .ref (ad 0)), (1, .int v1), (2, .int v2), (3, .int v3)] → (∀ (H : Heap) (locs : List Loc), va_P D vwCl (wM cA ad M) H → va_S A s.heap H locs → ∀ (ls : Array Slot), lv_has ls 4 [(0, .ref (ad 0)), (1, .int (r')), (2, .int v2)] → W p l e rmX6_goodForks s m args below meth c H locs 0 0 Q (F0 m 55 ls [])) → W p l e rmX6_goodForks s m args below meth c H locs 0 0 Q (F0 m 16 ls []) := by
    intro n
    induction n with
    | zero => intro v1 v2 v3 M r' H locs ls h hP hS hl kk; rw [fX6_goodForks_L16.eq_1] at h; cases h
    | succ n ih =>
      intro v1 v2 v3 M r' H locs ls h hP hS hl kk
      rw [fX6_goodForks_L16.eq_2] at h
      refine lv_iload_n hx hb dX6_goodForks_16 rfl (lv_at hl 3 rfl) ?_
      refine lv_iconst (v := 4) hx hb dX6_goodForks_17 (by decide) ?_
      refine lv_icmp_ge (tgt := 55) hx hb dX6_goodForks_18 (by decide) (fun c4 => ?_) (fun c4 => ?_)
      · rw [if_pos c4] at h
        obtain rfl := Option.some.inj h
        exact kk _ _ hP hS _ (lv_sub hl [0, 1, 2] rfl)
      · rw [if_neg c4] at h
        refine lv_iload_n hx hb dX6_goodForks_21 rfl (lv_at hl 1 rfl) ?_
        refine lv_aload_n hx hb dX6_goodForks_22 rfl (lv_at hl 0 rfl) ?_
        refine lv_iload_n hx hb dX6_goodForks_23 rfl (lv_at hl 2 rfl) ?_
        refine lv_iload_n hx hb dX6_goodForks_24 rfl (lv_at hl 3 rfl) ?_
        obtain ⟨q5, hqq5, h⟩ := obind_some h
        refine cVM S5 hK hP 0 rfl rfl (As := [.int v2, .int v3]) (kX6_forkOf l D cA ad _ _ _ _ hqq5) (cwV 2 hts gX6_goodForks_X6_forkOf rfl rfl rfl (by decide +kernel) ⟨(Nat.le_of_ble_eq_true rfl), (Nat.le_of_ble_eq_true rfl)⟩) rfl hl.1 (st0 := _) (rest := [.int v1]) rfl (Nat.le_of_ble_eq_true rfl) dX6_goodForks_25 ⟨Nat.zero_le _, Nat.zero_le _⟩ ?_
        refine lv_iconst (v := 2) hx hb dX6_goodForks_28 (by decide) ?_
        refine lv_icmp_ne (tgt := 46) hx hb dX6_goodForks_29 (by decide) (fun c6 => ?_) (fun c6 => ?_)
        · rw [if_neg c6] at h
          refine lv_iconst (v := 0) hx hb dX6_goodForks_46 (by decide) ?_
          refine lv_iadd hx hb dX6_goodForks_47 ?_
          refine lv_istore_n (lv' := [(1, .int (v1 + 0)), (0, .ref (ad 0)), (2, .int v2), (3, .int v3)]) hx hb dX6_goodForks_48 rfl hl (by decide) rfl (fun ls hl => ?_)
          refine lv_iinc (v := v3 + 1) (lv' := [(3, .int (v3 + 1)), (1, .int (v1 + 0)), (0, .ref (ad 0)), (2, .int v2)]) hx hb dX6_goodForks_49 hl (k := 3) rfl rfl (by decide) rfl (fun ls hl => ?_)
          refine lv_goto (tgt := 16) hx hb dX6_goodForks_52 (by decide) ?_
          exact ih _ _ _ _ _ _ _ _ h hP hS (lv_sub hl [2, 1, 3, 0] rfl) kk
        · rw [if_pos c6] at h
          refine lv_iload_n hx hb dX6_goodForks_32 rfl (lv_at hl 2 rfl) ?_
          refine lv_iconst (v := 2) hx hb dX6_goodForks_33 (by decide) ?_
          refine r_irem S5 dX6_goodForks_34 (by decide) ?_
          refine lv_if_ne (tgt := 42) hx hb dX6_goodForks_35 (by decide) (fun c7 => ?_) (fun c7 => ?_)
          · rw [if_neg c7] at h
            refine lv_iconst (v := (-1)) hx hb dX6_goodForks_42 (by decide) ?_
            refine lv_goto (tgt := 47) hx hb dX6_goodForks_43 (by decide) ?_
            refine lv_iadd hx hb dX6_goodForks_47 ?_
            refine lv_istore_n (lv' := [(1, .int (v1 + ((-1)))), (0, .ref (ad 0)), (2, .int v2), (3, .int v3)]) hx hb dX6_goodForks_48 rfl hl (by decide) rfl (fun ls hl => ?_)
            refine lv_iinc (v := v3 + 1) (lv' := [(3, .int (v3 + 1)), (1, .int (v1 + ((-1)))), (0, .ref (ad 0)), (2, .int v2)]) hx hb dX6_goodForks_49 hl (k := 3) rfl rfl (by decide) rfl (fun ls hl => ?_)
            refine lv_goto (tgt := 16) hx hb dX6_goodForks_52 (by decide) ?_
            exact ih _ _ _ _ _ _ _ _ h hP hS (lv_sub hl [2, 1, 3, 0] rfl) kk
          · rw [if_pos c7] at h
            refine lv_iconst (v := 1) hx hb dX6_goodForks_38 (by decide) ?_
            refine lv_goto (tgt := 47) hx hb dX6_goodForks_39 (by decide) ?_
            refine lv_iadd hx hb dX6_goodForks_47 ?_
            refine lv_istore_n (lv' := [(1, .int (v1 + 1)), (0, .ref (ad 0)), (2, .int v2), (3, .int v3)]) hx hb dX6_goodForks_48 rfl hl (by decide) rfl (fun ls hl => ?_)
            refine lv_iinc (v := v3 + 1) (lv' := [(3, .int (v3 + 1)), (1, .int (v1 + 1)), (0, .ref (ad 0)), (2, .int v2)]) hx hb dX6_goodForks_49 hl (k := 3) rfl rfl (by decide) rfl (fun ls hl => ?_)
            refine lv_goto (tgt := 16) hx hb dX6_goodForks_52 (by decide) ?_
            exact ih _ _ _ _ _ _ _ _ h hP hS (lv_sub hl [2, 1, 3, 0] rfl) kk
  have L9 : ∀ (n : Nat) (v1 : Int32) (v2 : Int32) (M : Mem) (r' : Int32) (H : Heap) (locs : List Loc) (ls : Array Slot), fX6_goodForks_L9 n v1 v2 M = some r' → va_P D vwCl (wM cA ad M) H → va_S A s.heap H locs → lv_has ls 4 [(0, .ref (ad 0)), (1, .int v1), (2, .int v2)] → (∀ (H : Heap) (locs : List Loc), va_P D vwCl (wM cA ad M) H → va_S A s.heap H locs → ∀ (ls : Array Slot), lv_has ls 4 [(0, .ref (ad 0)), (1, .int (r'))] → W p l e rmX6_goodForks s m args below meth c H locs 0 0 Q (F0 m 61 ls [])) → W p l e rmX6_goodForks s m args below meth c H locs 0 0 Q (F0 m 9 ls []) := by
    intro n
    induction n with
    | zero => intro v1 v2 M r' H locs ls h hP hS hl kk; rw [fX6_goodForks_L9.eq_1] at h; cases h
    | succ n ih =>
      intro v1 v2 M r' H locs ls h hP hS hl kk
      rw [fX6_goodForks_L9.eq_2] at h
      refine lv_iload_n hx hb dX6_goodForks_9 rfl (lv_at hl 2 rfl) ?_
      refine lv_iconst (v := 4) hx hb dX6_goodForks_10 (by decide) ?_
      refine lv_icmp_ge (tgt := 61) hx hb dX6_goodForks_11 (by decide) (fun c2 => ?_) (fun c2 => ?_)
      · rw [if_pos c2] at h
        obtain rfl := Option.some.inj h
        exact kk _ _ hP hS _ (lv_sub hl [0, 1] rfl)
      · rw [if_neg c2] at h
        refine lv_iconst (v := 0) hx hb dX6_goodForks_14 (by decide) ?_
        refine lv_istore_n (lv' := [(3, .int 0), (0, .ref (ad 0)), (1, .int v1), (2, .int v2)]) hx hb dX6_goodForks_15 rfl hl (by decide) rfl (fun ls hl => ?_)
        obtain ⟨q3, hqq3, h⟩ := obind_some h
        refine L16 _ _ _ _ _ _ _ _ _ hqq3 hP hS (lv_sub hl [1, 2, 3, 0] rfl) (fun H locs hP hS ls hl => ?_)
        have hl := lv_sub (l' := [(0, .ref (ad 0)), (1, .int q3), (2, .int v2)]) hl [0, 1, 2] rfl
        refine lv_iinc (v := v2 + 1) (lv' := [(2, .int (v2 + 1)), (0, .ref (ad 0)), (1, .int q3)]) hx hb dX6_goodForks_55 hl (k := 2) rfl rfl (by decide) rfl (fun ls hl => ?_)
        refine lv_goto (tgt := 9) hx hb dX6_goodForks_58 (by decide) ?_
        exact ih _ _ _ _ _ _ _ h hP hS (lv_sub hl [1, 2, 0] rfl) kk
  refine lv_aload_n hx hb dX6_goodForks_0 rfl (lv_at hl 0 rfl) ?_
  refine lv_iconst (v := 0) hx hb dX6_goodForks_1 (by decide) ?_
  refine pX6_thrown S5 hin hK hP hD hS (List.mem_of_getElem? (i := 1) rfl) dX6_goodForks_2 (fun H locs hP hS => ?_)
  refine lv_iconst (v := 0) hx hb dX6_goodForks_5 (by decide) ?_
  refine lv_istore_n (lv' := [(1, .int 0), (0, .ref (ad 0))]) hx hb dX6_goodForks_6 rfl hl (by decide) rfl (fun ls hl => ?_)
  refine lv_iconst (v := 0) hx hb dX6_goodForks_7 (by decide) ?_
  refine lv_istore_n (lv' := [(2, .int 0), (1, .int 0), (0, .ref (ad 0))]) hx hb dX6_goodForks_8 rfl hl (by decide) rfl (fun ls hl => ?_)
  obtain ⟨q1, hqq1, h⟩ := obind_some h
  refine L9 _ _ _ _ _ _ _ _ hqq1 hP hS (lv_sub hl [2, 1, 0] rfl) (fun H locs hP hS ls hl => ?_)
  have hl := lv_sub (l' := [(1, .int q1)]) hl [1] rfl
  refine lv_iload_n hx hb dX6_goodForks_61 rfl (lv_at hl 0 rfl) ?_
  obtain rfl := Option.some.inj h
  exact kr _ _ _ _ _ rfl rfl hP hS dX6_goodForks_62
