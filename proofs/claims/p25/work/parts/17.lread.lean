-- L_has
def fL_has (p0 : Int32) (p1 : Int32) : Int32 := (if ((sr p0 p1) &&& 1) = 1 then (1) else (0))
theorem vb_L_has (p0 : Int32) (p1 : Int32) : vb (fL_has p0 p1) = true := by unfold fL_has; (repeat' split) <;> rfl
def rmL_has : Room := { frames := 0, cells := 0, slots := 0, locals := 0 }
set_option maxHeartbeats 4000000 in
set_option maxRecDepth 100000 in
theorem kL_has (l : Launch) (p0 : Int32) (p1 : Int32) : RdS l yL_has wsL_has rmL_has [.int p0, .int p1] (fL_has p0 p1) := by
  obtain ⟨r, h⟩ : ∃ r, fL_has p0 p1 = r := ⟨_, rfl⟩
  rw [h]
  unfold fL_has at h
  refine RdS.of RL rfl rfl rfl (Nat.le_of_ble_eq_true rfl) ?_
  intro p e s m args below meth c Q ls S5 hl kr
  obtain ⟨hx, hb, -, -, hts⟩ := id S5
  refine lv_iload_n hx hb dL_has_0 rfl (lv_at hl 0 rfl) ?_
  refine lv_iload_n hx hb dL_has_1 rfl (lv_at hl 1 rfl) ?_
  refine r_ishr S5 dL_has_2 ?_
  refine lv_iconst (v := 1) hx hb dL_has_3 (by decide) ?_
  refine lv_iand hx hb dL_has_4 ?_
  refine lv_iconst (v := 1) hx hb dL_has_5 (by decide) ?_
  refine lv_icmp_ne (tgt := 13) hx hb dL_has_6 (by decide) (fun c1 => ?_) (fun c1 => ?_)
  · rw [if_neg c1] at h
    refine lv_iconst (v := 0) hx hb dL_has_13 (by decide) ?_
    subst h
    exact kr _ _ _ rfl rfl dL_has_14
  · rw [if_pos c1] at h
    refine lv_iconst (v := 1) hx hb dL_has_9 (by decide) ?_
    refine lv_goto (tgt := 14) hx hb dL_has_10 (by decide) ?_
    subst h
    exact kr _ _ _ rfl rfl dL_has_14

-- L_size
def fL_size_L4 : Nat → Int32 → Int32 → Option (Int32)
  | 0, _, _ => none
  | n + 1, v1, v2 => (if v2 = 0 then some (v1) else fL_size_L4 n (v1 + 1) (v2 &&& (v2 - 1)))
def fL_size (p0 : Int32) : Option (Int32) := (obind (fL_size_L4 40 0 p0) (fun q1 => some (q1)))
def rmL_size : Room := { frames := 0, cells := 0, slots := 0, locals := 0 }
set_option maxHeartbeats 4000000 in
set_option maxRecDepth 100000 in
theorem kL_size (l : Launch) (p0 : Int32) (r : Int32) (h : fL_size p0 = some r) : RdS l yL_size wsL_size rmL_size [.int p0] r := by
  unfold fL_size at h
  refine RdS.of RL rfl rfl rfl (Nat.le_of_ble_eq_true rfl) ?_
  intro p e s m args below meth c Q ls S5 hl kr
  obtain ⟨hx, hb, -, -, hts⟩ := id S5
  have L4 : ∀ (n : Nat) (v1 : Int32) (v2 : Int32) (r' : Int32) (ls : Array Slot), fL_size_L4 n v1 v2 = some r' → lv_has ls 3 [(1, .int v1), (2, .int v2)] → (∀ (ls : Array Slot), lv_has ls 3 [(1, .int (r'))] → W p l e rmL_size s m args below meth c s.heap [] 0 0 Q (F0 m 20 ls [])) → W p l e rmL_size s m args below meth c s.heap [] 0 0 Q (F0 m 4 ls []) := by
    intro n
    induction n with
    | zero => intro v1 v2 r' ls h hl kk; rw [fL_size_L4.eq_1] at h; cases h
    | succ n ih =>
      intro v1 v2 r' ls h hl kk
      rw [fL_size_L4.eq_2] at h
      refine lv_iload_n hx hb dL_size_4 rfl (lv_at hl 1 rfl) ?_
      refine lv_if_eq (tgt := 20) hx hb dL_size_5 (by decide) (fun c2 => ?_) (fun c2 => ?_)
      · rw [if_pos c2] at h
        obtain rfl := Option.some.inj h
        exact kk _ (lv_sub hl [0] rfl)
      · rw [if_neg c2] at h
        refine lv_iinc (v := v1 + 1) (lv' := [(1, .int (v1 + 1)), (2, .int v2)]) hx hb dL_size_8 hl (k := 0) rfl rfl (by decide) rfl (fun ls hl => ?_)
        refine lv_iload_n hx hb dL_size_11 rfl (lv_at hl 1 rfl) ?_
        refine lv_iload_n hx hb dL_size_12 rfl (lv_at hl 1 rfl) ?_
        refine lv_iconst (v := 1) hx hb dL_size_13 (by decide) ?_
        refine lv_isub hx hb dL_size_14 ?_
        refine lv_iand hx hb dL_size_15 ?_
        refine lv_istore_n (lv' := [(2, .int (v2 &&& (v2 - 1))), (1, .int (v1 + 1))]) hx hb dL_size_16 rfl hl (by decide) rfl (fun ls hl => ?_)
        refine lv_goto (tgt := 4) hx hb dL_size_17 (by decide) ?_
        exact ih _ _ _ _ h (lv_sub hl [1, 0] rfl) kk
  refine lv_iconst (v := 0) hx hb dL_size_0 (by decide) ?_
  refine lv_istore_n (lv' := [(1, .int 0), (0, .int p0)]) hx hb dL_size_1 rfl hl (by decide) rfl (fun ls hl => ?_)
  refine lv_iload_n hx hb dL_size_2 rfl (lv_at hl 1 rfl) ?_
  refine lv_istore_n (lv' := [(2, .int p0), (1, .int 0), (0, .int p0)]) hx hb dL_size_3 rfl hl (by decide) rfl (fun ls hl => ?_)
  obtain ⟨q1, hqq1, h⟩ := obind_some h
  refine L4 _ _ _ _ _ hqq1 (lv_sub hl [1, 0] rfl) (fun ls hl => ?_)
  have hl := lv_sub (l' := [(1, .int q1)]) hl [0] rfl
  refine lv_iload_n hx hb dL_size_20 rfl (lv_at hl 0 rfl) ?_
  obtain rfl := Option.some.inj h
  exact kr _ _ _ rfl rfl dL_size_21

-- L_leader
def fL_leader_L25 : Nat → Int32 → Int32 → Int32 → Int32 → Int32 → Mem → Option (Int32)
  | 0, _, _, _, _, _, _ => none
  | n + 1, v2, v3, v4, v5, v6, M => (if (v4 + 4) ≤ v6 then some (v5) else (if vin v6 16 = true then (if ((M 1 v6.toNatClampNeg) / 6) = (M 2 1) then (if vin v6 16 = true then (if vin v5 16 = true then (if ((M 1 v6.toNatClampNeg) / 6) = ((M 1 v5.toNatClampNeg) / 6) then (if vin v6 16 = true then (if vin v5 16 = true then (if (M 1 v6.toNatClampNeg) ≤ (M 1 v5.toNatClampNeg) then fL_leader_L25 n v2 v3 v4 v5 (v6 + 1) M else fL_leader_L25 n v2 v3 v4 v6 (v6 + 1) M) else none) else none) else fL_leader_L25 n v2 v3 v4 v6 (v6 + 1) M) else none) else none) else (if vin v6 16 = true then (if vin v5 16 = true then (if ((M 1 v6.toNatClampNeg) / 6) = ((M 1 v5.toNatClampNeg) / 6) then (if vin v6 16 = true then (if vin v5 16 = true then (if (M 1 v6.toNatClampNeg) ≤ (M 1 v5.toNatClampNeg) then fL_leader_L25 n v2 v3 v4 v5 (v6 + 1) M else fL_leader_L25 n v2 v3 v4 v6 (v6 + 1) M) else none) else none) else fL_leader_L25 n v2 v3 v4 v5 (v6 + 1) M) else none) else none)) else none))
def fL_leader_L7 : Nat → Int32 → Int32 → Int32 → Mem → Option (Int32)
  | 0, _, _, _, _ => none
  | n + 1, v2, v3, v4, M => (if v2 < (v4 + 4) then some (v3) else (obind (fL_leader_L25 40 v2 v3 v4 v4 (v4 + 1) M) (fun q3 => fL_leader_L7 n v2 (im ((v3 + q3) - v4) 4) (v4 + 4) M)))
def fL_leader (p2 : Int32) (M : Mem) : Option (Int32) := (obind (fL_leader_L7 40 p2 (M 2 2) 0 M) (fun q1 => some (q1)))
def rmL_leader : Room := { frames := 0, cells := 0, slots := 0, locals := 0 }
set_option maxHeartbeats 4000000 in
set_option maxRecDepth 100000 in
theorem kL_leader (l : Launch) (D : va_G) (cA : Nat) (ad : Nat → Nat) (p2 : Int32) (M : Mem) (r : Int32) (h : fL_leader p2 M = some r) : RdH l yL_leader wsL_leader rmL_leader D cA ad M [.ref (ad 1), .ref (ad 2), .int p2] r := by
  unfold fL_leader at h
  refine RdH.of RL rfl rfl rfl (Nat.le_of_ble_eq_true rfl) ?_
  intro p e s m args below meth c Q ls S5 hK hP hl kr
  obtain ⟨hx, hb, -, -, hts⟩ := id S5
  have L25 : ∀ (n : Nat) (v2 : Int32) (v3 : Int32) (v4 : Int32) (v5 : Int32) (v6 : Int32) (r' : Int32) (ls : Array Slot), fL_leader_L25 n v2 v3 v4 v5 v6 M = some r' → lv_has ls 9 [(0, .ref (ad 1)), (1, .ref (ad 2)), (2, .int v2), (3, .int v3), (4, .int v4), (5, .int v5), (6, .int v6)] → (∀ (ls : Array Slot), lv_has ls 9 [(0, .ref (ad 1)), (1, .ref (ad 2)), (2, .int v2), (3, .int v3), (4, .int v4), (5, .int (r'))] → W p l e rmL_leader s m args below meth c s.heap [] 0 0 Q (F0 m 114 ls [])) → W p l e rmL_leader s m args below meth c s.heap [] 0 0 Q (F0 m 25 ls []) := by
    intro n
    induction n with
    | zero => intro v2 v3 v4 v5 v6 r' ls h hl kk; rw [fL_leader_L25.eq_1] at h; cases h
    | succ n ih =>
      intro v2 v3 v4 v5 v6 r' ls h hl kk
      rw [fL_leader_L25.eq_2] at h
      refine lv_iload hx hb dL_leader_25 (lv_at hl 6 rfl) ?_
      refine lv_iload hx hb dL_leader_27 (lv_at hl 4 rfl) ?_
      refine lv_iconst (v := 4) hx hb dL_leader_29 (by decide) ?_
      refine lv_iadd hx hb dL_leader_30 ?_
      refine lv_icmp_ge (tgt := 114) hx hb dL_leader_31 (by decide) (fun c4 => ?_) (fun c4 => ?_)
      · rw [if_pos c4] at h
        obtain rfl := Option.some.inj h
        exact kk _ (lv_sub hl [0, 1, 2, 3, 4, 5] rfl)
      · rw [if_neg c4] at h
        refine lv_aload_n hx hb dL_leader_34 rfl (lv_at hl 0 rfl) ?_
        refine lv_iload hx hb dL_leader_35 (lv_at hl 6 rfl) ?_
        obtain ⟨g5, h⟩ := gd_some h
        refine alH1 S5 hK hP (v := M 1 v6.toNatClampNeg) g5 rfl dL_leader_37 ?_
        refine lv_bipush (v := 6) hx hb dL_leader_38 (by decide) ?_
        refine r_idiv S5 dL_leader_40 (by decide) ?_
        refine lv_aload_n hx hb dL_leader_41 rfl (lv_at hl 1 rfl) ?_
        refine lv_iconst (v := 1) hx hb dL_leader_42 (by decide) ?_
        refine alH2 S5 hK hP (v := M 2 1) (by decide) rfl dL_leader_43 ?_
        refine lv_icmp_ne (tgt := 51) hx hb dL_leader_44 (by decide) (fun c6 => ?_) (fun c6 => ?_)
        · rw [if_neg c6] at h
          refine lv_iconst (v := 0) hx hb dL_leader_51 (by decide) ?_
          refine lv_istore (lv' := [(7, .int 0), (0, .ref (ad 1)), (1, .ref (ad 2)), (2, .int v2), (3, .int v3), (4, .int v4), (5, .int v5), (6, .int v6)]) hx hb dL_leader_52 hl (by decide) rfl (fun ls hl => ?_)
          refine lv_aload_n hx hb dL_leader_54 rfl (lv_at hl 1 rfl) ?_
          refine lv_iload hx hb dL_leader_55 (lv_at hl 7 rfl) ?_
          obtain ⟨g7, h⟩ := gd_some h
          refine alH1 S5 hK hP (v := M 1 v6.toNatClampNeg) g7 rfl dL_leader_57 ?_
          refine lv_bipush (v := 6) hx hb dL_leader_58 (by decide) ?_
          refine r_idiv S5 dL_leader_60 (by decide) ?_
          refine lv_aload_n hx hb dL_leader_61 rfl (lv_at hl 1 rfl) ?_
          refine lv_iload hx hb dL_leader_62 (lv_at hl 6 rfl) ?_
          obtain ⟨g8, h⟩ := gd_some h
          refine alH1 S5 hK hP (v := M 1 v5.toNatClampNeg) g8 rfl dL_leader_64 ?_
          refine lv_bipush (v := 6) hx hb dL_leader_65 (by decide) ?_
          refine r_idiv S5 dL_leader_67 (by decide) ?_
          refine lv_icmp_ne (tgt := 90) hx hb dL_leader_68 (by decide) (fun c9 => ?_) (fun c9 => ?_)
          · rw [if_neg c9] at h
            refine lv_iload hx hb dL_leader_90 (lv_at hl 0 rfl) ?_
            refine lv_istore (lv' := [(8, .int 0), (7, .int 0), (0, .ref (ad 1)), (1, .ref (ad 2)), (2, .int v2), (3, .int v3), (4, .int v4), (5, .int v5), (6, .int v6)]) hx hb dL_leader_92 hl (by decide) rfl (fun ls hl => ?_)
            refine lv_iload hx hb dL_leader_94 (lv_at hl 0 rfl) ?_
            refine lv_if_eq (tgt := 104) hx hb dL_leader_96 (by decide) (fun c10 => ?_) (fun c10 => absurd c10 (by decide))
            refine lv_iload hx hb dL_leader_104 (lv_at hl 7 rfl) ?_
            refine lv_istore (lv' := [(5, .int v5), (8, .int 0), (7, .int 0), (0, .ref (ad 1)), (1, .ref (ad 2)), (2, .int v2), (3, .int v3), (4, .int v4), (6, .int v6)]) hx hb dL_leader_106 hl (by decide) rfl (fun ls hl => ?_)
            refine lv_iinc (v := v6 + 1) (lv' := [(6, .int (v6 + 1)), (5, .int v5), (8, .int 0), (7, .int 0), (0, .ref (ad 1)), (1, .ref (ad 2)), (2, .int v2), (3, .int v3), (4, .int v4)]) hx hb dL_leader_108 hl (k := 8) rfl rfl (by decide) rfl (fun ls hl => ?_)
            refine lv_goto (tgt := 25) hx hb dL_leader_111 (by decide) ?_
            exact ih _ _ _ _ _ _ _ h (lv_sub hl [4, 5, 6, 7, 8, 1, 0] rfl) kk
          · rw [if_pos c9] at h
            refine lv_aload_n hx hb dL_leader_71 rfl (lv_at hl 1 rfl) ?_
            refine lv_iload hx hb dL_leader_72 (lv_at hl 7 rfl) ?_
            obtain ⟨g11, h⟩ := gd_some h
            refine alH1 S5 hK hP (v := M 1 v6.toNatClampNeg) g11 rfl dL_leader_74 ?_
            refine lv_aload_n hx hb dL_leader_75 rfl (lv_at hl 1 rfl) ?_
            refine lv_iload hx hb dL_leader_76 (lv_at hl 6 rfl) ?_
            obtain ⟨g12, h⟩ := gd_some h
            refine alH1 S5 hK hP (v := M 1 v5.toNatClampNeg) g12 rfl dL_leader_78 ?_
            refine lv_icmp_le (tgt := 86) hx hb dL_leader_79 (by decide) (fun c13 => ?_) (fun c13 => ?_)
            · rw [if_pos c13] at h
              refine lv_iconst (v := 0) hx hb dL_leader_86 (by decide) ?_
              refine lv_goto (tgt := 92) hx hb dL_leader_87 (by decide) ?_
              refine lv_istore (lv' := [(8, .int 0), (7, .int 0), (0, .ref (ad 1)), (1, .ref (ad 2)), (2, .int v2), (3, .int v3), (4, .int v4), (5, .int v5), (6, .int v6)]) hx hb dL_leader_92 hl (by decide) rfl (fun ls hl => ?_)
              refine lv_iload hx hb dL_leader_94 (lv_at hl 0 rfl) ?_
              refine lv_if_eq (tgt := 104) hx hb dL_leader_96 (by decide) (fun c14 => ?_) (fun c14 => absurd c14 (by decide))
              refine lv_iload hx hb dL_leader_104 (lv_at hl 7 rfl) ?_
              refine lv_istore (lv' := [(5, .int v5), (8, .int 0), (7, .int 0), (0, .ref (ad 1)), (1, .ref (ad 2)), (2, .int v2), (3, .int v3), (4, .int v4), (6, .int v6)]) hx hb dL_leader_106 hl (by decide) rfl (fun ls hl => ?_)
              refine lv_iinc (v := v6 + 1) (lv' := [(6, .int (v6 + 1)), (5, .int v5), (8, .int 0), (7, .int 0), (0, .ref (ad 1)), (1, .ref (ad 2)), (2, .int v2), (3, .int v3), (4, .int v4)]) hx hb dL_leader_108 hl (k := 8) rfl rfl (by decide) rfl (fun ls hl => ?_)
              refine lv_goto (tgt := 25) hx hb dL_leader_111 (by decide) ?_
              exact ih _ _ _ _ _ _ _ h (lv_sub hl [4, 5, 6, 7, 8, 1, 0] rfl) kk
            · rw [if_neg c13] at h
              refine lv_iconst (v := 1) hx hb dL_leader_82 (by decide) ?_
              refine lv_goto (tgt := 92) hx hb dL_leader_83 (by decide) ?_
              refine lv_istore (lv' := [(8, .int 1), (7, .int 0), (0, .ref (ad 1)), (1, .ref (ad 2)), (2, .int v2), (3, .int v3), (4, .int v4), (5, .int v5), (6, .int v6)]) hx hb dL_leader_92 hl (by decide) rfl (fun ls hl => ?_)
              refine lv_iload hx hb dL_leader_94 (lv_at hl 0 rfl) ?_
              refine lv_if_eq (tgt := 104) hx hb dL_leader_96 (by decide) (fun c15 => absurd c15 (by decide)) (fun c15 => ?_)
              refine lv_iload hx hb dL_leader_99 (lv_at hl 8 rfl) ?_
              refine lv_goto (tgt := 106) hx hb dL_leader_101 (by decide) ?_
              refine lv_istore (lv' := [(5, .int v6), (8, .int 1), (7, .int 0), (0, .ref (ad 1)), (1, .ref (ad 2)), (2, .int v2), (3, .int v3), (4, .int v4), (6, .int v6)]) hx hb dL_leader_106 hl (by decide) rfl (fun ls hl => ?_)
              refine lv_iinc (v := v6 + 1) (lv' := [(6, .int (v6 + 1)), (5, .int v6), (8, .int 1), (7, .int 0), (0, .ref (ad 1)), (1, .ref (ad 2)), (2, .int v2), (3, .int v3), (4, .int v4)]) hx hb dL_leader_108 hl (k := 8) rfl rfl (by decide) rfl (fun ls hl => ?_)
              refine lv_goto (tgt := 25) hx hb dL_leader_111 (by decide) ?_
              exact ih _ _ _ _ _ _ _ h (lv_sub hl [4, 5, 6, 7, 8, 1, 0] rfl) kk
        · rw [if_pos c6] at h
          refine lv_iconst (v := 1) hx hb dL_leader_47 (by decide) ?_
          refine lv_goto (tgt := 52) hx hb dL_leader_48 (by decide) ?_
          refine lv_istore (lv' := [(7, .int 1), (0, .ref (ad 1)), (1, .ref (ad 2)), (2, .int v2), (3, .int v3), (4, .int v4), (5, .int v5), (6, .int v6)]) hx hb dL_leader_52 hl (by decide) rfl (fun ls hl => ?_)
          refine lv_aload_n hx hb dL_leader_54 rfl (lv_at hl 1 rfl) ?_
          refine lv_iload hx hb dL_leader_55 (lv_at hl 7 rfl) ?_
          obtain ⟨g16, h⟩ := gd_some h
          refine alH1 S5 hK hP (v := M 1 v6.toNatClampNeg) g16 rfl dL_leader_57 ?_
          refine lv_bipush (v := 6) hx hb dL_leader_58 (by decide) ?_
          refine r_idiv S5 dL_leader_60 (by decide) ?_
          refine lv_aload_n hx hb dL_leader_61 rfl (lv_at hl 1 rfl) ?_
          refine lv_iload hx hb dL_leader_62 (lv_at hl 6 rfl) ?_
          obtain ⟨g17, h⟩ := gd_some h
          refine alH1 S5 hK hP (v := M 1 v5.toNatClampNeg) g17 rfl dL_leader_64 ?_
          refine lv_bipush (v := 6) hx hb dL_leader_65 (by decide) ?_
          refine r_idiv S5 dL_leader_67 (by decide) ?_
          refine lv_icmp_ne (tgt := 90) hx hb dL_leader_68 (by decide) (fun c18 => ?_) (fun c18 => ?_)
          · rw [if_neg c18] at h
            refine lv_iload hx hb dL_leader_90 (lv_at hl 0 rfl) ?_
            refine lv_istore (lv' := [(8, .int 1), (7, .int 1), (0, .ref (ad 1)), (1, .ref (ad 2)), (2, .int v2), (3, .int v3), (4, .int v4), (5, .int v5), (6, .int v6)]) hx hb dL_leader_92 hl (by decide) rfl (fun ls hl => ?_)
            refine lv_iload hx hb dL_leader_94 (lv_at hl 0 rfl) ?_
            refine lv_if_eq (tgt := 104) hx hb dL_leader_96 (by decide) (fun c19 => absurd c19 (by decide)) (fun c19 => ?_)
            refine lv_iload hx hb dL_leader_99 (lv_at hl 8 rfl) ?_
            refine lv_goto (tgt := 106) hx hb dL_leader_101 (by decide) ?_
            refine lv_istore (lv' := [(5, .int v6), (8, .int 1), (7, .int 1), (0, .ref (ad 1)), (1, .ref (ad 2)), (2, .int v2), (3, .int v3), (4, .int v4), (6, .int v6)]) hx hb dL_leader_106 hl (by decide) rfl (fun ls hl => ?_)
            refine lv_iinc (v := v6 + 1) (lv' := [(6, .int (v6 + 1)), (5, .int v6), (8, .int 1), (7, .int 1), (0, .ref (ad 1)), (1, .ref (ad 2)), (2, .int v2), (3, .int v3), (4, .int v4)]) hx hb dL_leader_108 hl (k := 8) rfl rfl (by decide) rfl (fun ls hl => ?_)
            refine lv_goto (tgt := 25) hx hb dL_leader_111 (by decide) ?_
            exact ih _ _ _ _ _ _ _ h (lv_sub hl [4, 5, 6, 7, 8, 1, 0] rfl) kk
          · rw [if_pos c18] at h
            refine lv_aload_n hx hb dL_leader_71 rfl (lv_at hl 1 rfl) ?_
            refine lv_iload hx hb dL_leader_72 (lv_at hl 7 rfl) ?_
            obtain ⟨g20, h⟩ := gd_some h
            refine alH1 S5 hK hP (v := M 1 v6.toNatClampNeg) g20 rfl dL_leader_74 ?_
            refine lv_aload_n hx hb dL_leader_75 rfl (lv_at hl 1 rfl) ?_
            refine lv_iload hx hb dL_leader_76 (lv_at hl 6 rfl) ?_
            obtain ⟨g21, h⟩ := gd_some h
            refine alH1 S5 hK hP (v := M 1 v5.toNatClampNeg) g21 rfl dL_leader_78 ?_
            refine lv_icmp_le (tgt := 86) hx hb dL_leader_79 (by decide) (fun c22 => ?_) (fun c22 => ?_)
            · rw [if_pos c22] at h
              refine lv_iconst (v := 0) hx hb dL_leader_86 (by decide) ?_
              refine lv_goto (tgt := 92) hx hb dL_leader_87 (by decide) ?_
              refine lv_istore (lv' := [(8, .int 0), (7, .int 1), (0, .ref (ad 1)), (1, .ref (ad 2)), (2, .int v2), (3, .int v3), (4, .int v4), (5, .int v5), (6, .int v6)]) hx hb dL_leader_92 hl (by decide) rfl (fun ls hl => ?_)
              refine lv_iload hx hb dL_leader_94 (lv_at hl 0 rfl) ?_
              refine lv_if_eq (tgt := 104) hx hb dL_leader_96 (by decide) (fun c23 => ?_) (fun c23 => absurd c23 (by decide))
              refine lv_iload hx hb dL_leader_104 (lv_at hl 7 rfl) ?_
              refine lv_istore (lv' := [(5, .int v5), (8, .int 0), (7, .int 1), (0, .ref (ad 1)), (1, .ref (ad 2)), (2, .int v2), (3, .int v3), (4, .int v4), (6, .int v6)]) hx hb dL_leader_106 hl (by decide) rfl (fun ls hl => ?_)
              refine lv_iinc (v := v6 + 1) (lv' := [(6, .int (v6 + 1)), (5, .int v5), (8, .int 0), (7, .int 1), (0, .ref (ad 1)), (1, .ref (ad 2)), (2, .int v2), (3, .int v3), (4, .int v4)]) hx hb dL_leader_108 hl (k := 8) rfl rfl (by decide) rfl (fun ls hl => ?_)
              refine lv_goto (tgt := 25) hx hb dL_leader_111 (by decide) ?_
              exact ih _ _ _ _ _ _ _ h (lv_sub hl [4, 5, 6, 7, 8, 1, 0] rfl) kk
            · rw [if_neg c22] at h
              refine lv_iconst (v := 1) hx hb dL_leader_82 (by decide) ?_
              refine lv_goto (tgt := 92) hx hb dL_leader_83 (by decide) ?_
              refine lv_istore (lv' := [(8, .int 1), (7, .int 1), (0, .ref (ad 1)), (1, .ref (ad 2)), (2, .int v2), (3, .int v3), (4, .int v4), (5, .int v5), (6, .int v6)]) hx hb dL_leader_92 hl (by decide) rfl (fun ls hl => ?_)
              refine lv_iload hx hb dL_leader_94 (lv_at hl 0 rfl) ?_
              refine lv_if_eq (tgt := 104) hx hb dL_leader_96 (by decide) (fun c24 => absurd c24 (by decide)) (fun c24 => ?_)
              refine lv_iload hx hb dL_leader_99 (lv_at hl 8 rfl) ?_
              refine lv_goto (tgt := 106) hx hb dL_leader_101 (by decide) ?_
              refine lv_istore (lv' := [(5, .int v6), (8, .int 1), (7, .int 1), (0, .ref (ad 1)), (1, .ref (ad 2)), (2, .int v2), (3, .int v3), (4, .int v4), (6, .int v6)]) hx hb dL_leader_106 hl (by decide) rfl (fun ls hl => ?_)
              refine lv_iinc (v := v6 + 1) (lv' := [(6, .int (v6 + 1)), (5, .int v6), (8, .int 1), (7, .int 1), (0, .ref (ad 1)), (1, .ref (ad 2)), (2, .int v2), (3, .int v3), (4, .int v4)]) hx hb dL_leader_108 hl (k := 8) rfl rfl (by decide) rfl (fun ls hl => ?_)
              refine lv_goto (tgt := 25) hx hb dL_leader_111 (by decide) ?_
              exact ih _ _ _ _ _ _ _ h (lv_sub hl [4, 5, 6, 7, 8, 1, 0] rfl) kk
  have L7 : ∀ (n : Nat) (v2 : Int32) (v3 : Int32) (v4 : Int32) (r' : Int32) (ls : Array Slot), fL_leader_L7 n v2 v3 v4 M = some r' → lv_has ls 9 [(0, .ref (ad 1)), (1, .ref (ad 2)), (2, .int v2), (3, .int v3), (4, .int v4)] → (∀ (ls : Array Slot), lv_has ls 9 [(0, .ref (ad 1)), (1, .ref (ad 2)), (2, .int v2), (3, .int (r'))] → W p l e rmL_leader s m args below meth c s.heap [] 0 0 Q (F0 m 130 ls [])) → W p l e rmL_leader s m args below meth c s.heap [] 0 0 Q (F0 m 7 ls []) := by
    intro n
    induction n with
    | zero => intro v2 v3 v4 r' ls h hl kk; rw [fL_leader_L7.eq_1] at h; cases h
    | succ n ih =>
      intro v2 v3 v4 r' ls h hl kk
      rw [fL_leader_L7.eq_2] at h
      refine lv_iload hx hb dL_leader_7 (lv_at hl 4 rfl) ?_
      refine lv_iconst (v := 4) hx hb dL_leader_9 (by decide) ?_
      refine lv_iadd hx hb dL_leader_10 ?_
      refine lv_iload_n hx hb dL_leader_11 rfl (lv_at hl 2 rfl) ?_
      refine lv_icmp_gt (tgt := 130) hx hb dL_leader_12 (by decide) (fun c2 => ?_) (fun c2 => ?_)
      · rw [if_pos c2] at h
        obtain rfl := Option.some.inj h
        exact kk _ (lv_sub hl [0, 1, 2, 3] rfl)
      · rw [if_neg c2] at h
        refine lv_iload hx hb dL_leader_15 (lv_at hl 4 rfl) ?_
        refine lv_istore (lv' := [(5, .int v4), (0, .ref (ad 1)), (1, .ref (ad 2)), (2, .int v2), (3, .int v3), (4, .int v4)]) hx hb dL_leader_17 hl (by decide) rfl (fun ls hl => ?_)
        refine lv_iload hx hb dL_leader_19 (lv_at hl 5 rfl) ?_
        refine lv_iconst (v := 1) hx hb dL_leader_21 (by decide) ?_
        refine lv_iadd hx hb dL_leader_22 ?_
        refine lv_istore (lv' := [(6, .int (v4 + 1)), (5, .int v4), (0, .ref (ad 1)), (1, .ref (ad 2)), (2, .int v2), (3, .int v3), (4, .int v4)]) hx hb dL_leader_23 hl (by decide) rfl (fun ls hl => ?_)
        obtain ⟨q3, hqq3, h⟩ := obind_some h
        refine L25 _ _ _ _ _ _ _ _ hqq3 (lv_sub hl [2, 3, 4, 5, 6, 1, 0] rfl) (fun ls hl => ?_)
        have hl := lv_sub (l' := [(0, .ref (ad 1)), (1, .ref (ad 2)), (2, .int v2), (3, .int v3), (4, .int v4), (5, .int q3)]) hl [0, 1, 2, 3, 4, 5] rfl
        refine lv_iload_n hx hb dL_leader_114 rfl (lv_at hl 3 rfl) ?_
        refine lv_iload hx hb dL_leader_115 (lv_at hl 5 rfl) ?_
        refine lv_iadd hx hb dL_leader_117 ?_
        refine lv_iload hx hb dL_leader_118 (lv_at hl 4 rfl) ?_
        refine lv_isub hx hb dL_leader_120 ?_
        refine lv_iconst (v := 4) hx hb dL_leader_121 (by decide) ?_
        refine r_irem S5 dL_leader_122 (by decide) ?_
        refine lv_istore_n (lv' := [(3, .int (im ((v3 + q3) - v4) 4)), (0, .ref (ad 1)), (1, .ref (ad 2)), (2, .int v2), (4, .int v4), (5, .int q3)]) hx hb dL_leader_123 rfl hl (by decide) rfl (fun ls hl => ?_)
        refine lv_iinc (v := v4 + 4) (lv' := [(4, .int (v4 + 4)), (3, .int (im ((v3 + q3) - v4) 4)), (0, .ref (ad 1)), (1, .ref (ad 2)), (2, .int v2), (5, .int q3)]) hx hb dL_leader_124 hl (k := 4) rfl rfl (by decide) rfl (fun ls hl => ?_)
        refine lv_goto (tgt := 7) hx hb dL_leader_127 (by decide) ?_
        exact ih _ _ _ _ _ h (lv_sub hl [2, 3, 4, 1, 0] rfl) kk
  refine lv_aload_n hx hb dL_leader_0 rfl (lv_at hl 1 rfl) ?_
  refine lv_iconst (v := 2) hx hb dL_leader_1 (by decide) ?_
  refine alH2 S5 hK hP (v := M 2 2) (by decide) rfl dL_leader_2 ?_
  refine lv_istore_n (lv' := [(3, .int (M 2 2)), (0, .ref (ad 1)), (1, .ref (ad 2)), (2, .int p2)]) hx hb dL_leader_3 rfl hl (by decide) rfl (fun ls hl => ?_)
  refine lv_iconst (v := 0) hx hb dL_leader_4 (by decide) ?_
  refine lv_istore (lv' := [(4, .int 0), (3, .int (M 2 2)), (0, .ref (ad 1)), (1, .ref (ad 2)), (2, .int p2)]) hx hb dL_leader_5 hl (by decide) rfl (fun ls hl => ?_)
  obtain ⟨q1, hqq1, h⟩ := obind_some h
  refine L7 _ _ _ _ _ _ hqq1 (lv_sub hl [2, 3, 4, 1, 0] rfl) (fun ls hl => ?_)
  have hl := lv_sub (l' := [(3, .int q1)]) hl [3] rfl
  refine lv_iload_n hx hb dL_leader_130 rfl (lv_at hl 0 rfl) ?_
  obtain rfl := Option.some.inj h
  exact kr _ _ _ rfl rfl dL_leader_131

-- L_tricks
def fL_tricks_L6 : Nat → Int32 → Int32 → Int32 → Int32 → Mem → Option (Int32)
  | 0, _, _, _, _, _ => none
  | n + 1, v2, v3, v4, v5, M => (if v2 < v5 then some (v4) else (obind (fL_leader v5 M) (fun q3 => (if (im q3 2) = v3 then fL_tricks_L6 n v2 v3 (v4 + 1) (v5 + 4) M else fL_tricks_L6 n v2 v3 (v4 + 0) (v5 + 4) M))))
def fL_tricks (p2 : Int32) (p3 : Int32) (M : Mem) : Option (Int32) := (obind (fL_tricks_L6 40 p2 p3 0 4 M) (fun q1 => some (q1)))
def rmL_tricks : Room := { frames := 1, cells := 0, slots := 0, locals := 28 }
set_option maxHeartbeats 4000000 in
set_option maxRecDepth 100000 in
theorem kL_tricks (l : Launch) (D : va_G) (cA : Nat) (ad : Nat → Nat) (p2 : Int32) (p3 : Int32) (M : Mem) (r : Int32) (h : fL_tricks p2 p3 M = some r) : RdH l yL_tricks wsL_tricks rmL_tricks D cA ad M [.ref (ad 1), .ref (ad 2), .int p2, .int p3] r := by
  unfold fL_tricks at h
  refine RdH.of RL rfl rfl rfl (Nat.le_of_ble_eq_true rfl) ?_
  intro p e s m args below meth c Q ls S5 hK hP hl kr
  obtain ⟨hx, hb, -, -, hts⟩ := id S5
  have L6 : ∀ (n : Nat) (v2 : Int32) (v3 : Int32) (v4 : Int32) (v5 : Int32) (r' : Int32) (ls : Array Slot), fL_tricks_L6 n v2 v3 v4 v5 M = some r' → lv_has ls 6 [(0, .ref (ad 1)), (1, .ref (ad 2)), (2, .int v2), (3, .int v3), (4, .int v4), (5, .int v5)] → (∀ (ls : Array Slot), lv_has ls 6 [(0, .ref (ad 1)), (1, .ref (ad 2)), (2, .int v2), (3, .int v3), (4, .int (r'))] → W p l e rmL_tricks s m args below meth c s.heap [] 0 0 Q (F0 m 41 ls [])) → W p l e rmL_tricks s m args below meth c s.heap [] 0 0 Q (F0 m 6 ls []) := by
    intro n
    induction n with
    | zero => intro v2 v3 v4 v5 r' ls h hl kk; rw [fL_tricks_L6.eq_1] at h; cases h
    | succ n ih =>
      intro v2 v3 v4 v5 r' ls h hl kk
      rw [fL_tricks_L6.eq_2] at h
      refine lv_iload hx hb dL_tricks_6 (lv_at hl 5 rfl) ?_
      refine lv_iload_n hx hb dL_tricks_8 rfl (lv_at hl 2 rfl) ?_
      refine lv_icmp_gt (tgt := 41) hx hb dL_tricks_9 (by decide) (fun c2 => ?_) (fun c2 => ?_)
      · rw [if_pos c2] at h
        obtain rfl := Option.some.inj h
        exact kk _ (lv_sub hl [0, 1, 2, 3, 4] rfl)
      · rw [if_neg c2] at h
        refine lv_iload hx hb dL_tricks_12 (lv_at hl 4 rfl) ?_
        refine lv_aload_n hx hb dL_tricks_14 rfl (lv_at hl 0 rfl) ?_
        refine lv_aload_n hx hb dL_tricks_15 rfl (lv_at hl 1 rfl) ?_
        refine lv_iload hx hb dL_tricks_16 (lv_at hl 5 rfl) ?_
        obtain ⟨q3, hqq3, h⟩ := obind_some h
        refine cSRH S5 hK hP (As := [.ref (ad 1), .ref (ad 2), .int v5]) (kL_leader l D cA ad _ _ _ hqq3) (va_cwS 3 hts gL_tricks_L_leader rfl rfl rfl (by decide +kernel) ⟨(Nat.le_of_ble_eq_true rfl), (Nat.le_of_ble_eq_true rfl)⟩) rfl hl.1 (st0 := _) (rest := [.int v4]) rfl (Nat.le_of_ble_eq_true rfl) dL_tricks_18 ⟨Nat.zero_le _, Nat.zero_le _⟩ ?_
        refine lv_iconst (v := 2) hx hb dL_tricks_21 (by decide) ?_
        refine r_irem S5 dL_tricks_22 (by decide) ?_
        refine lv_iload_n hx hb dL_tricks_23 rfl (lv_at hl 3 rfl) ?_
        refine lv_icmp_ne (tgt := 31) hx hb dL_tricks_24 (by decide) (fun c4 => ?_) (fun c4 => ?_)
        · rw [if_neg c4] at h
          refine lv_iconst (v := 0) hx hb dL_tricks_31 (by decide) ?_
          refine lv_iadd hx hb dL_tricks_32 ?_
          refine lv_istore (lv' := [(4, .int (v4 + 0)), (0, .ref (ad 1)), (1, .ref (ad 2)), (2, .int v2), (3, .int v3), (5, .int v5)]) hx hb dL_tricks_33 hl (by decide) rfl (fun ls hl => ?_)
          refine lv_iinc (v := v5 + 4) (lv' := [(5, .int (v5 + 4)), (4, .int (v4 + 0)), (0, .ref (ad 1)), (1, .ref (ad 2)), (2, .int v2), (3, .int v3)]) hx hb dL_tricks_35 hl (k := 5) rfl rfl (by decide) rfl (fun ls hl => ?_)
          refine lv_goto (tgt := 6) hx hb dL_tricks_38 (by decide) ?_
          exact ih _ _ _ _ _ _ h (lv_sub hl [2, 3, 4, 5, 1, 0] rfl) kk
        · rw [if_pos c4] at h
          refine lv_iconst (v := 1) hx hb dL_tricks_27 (by decide) ?_
          refine lv_goto (tgt := 32) hx hb dL_tricks_28 (by decide) ?_
          refine lv_iadd hx hb dL_tricks_32 ?_
          refine lv_istore (lv' := [(4, .int (v4 + 1)), (0, .ref (ad 1)), (1, .ref (ad 2)), (2, .int v2), (3, .int v3), (5, .int v5)]) hx hb dL_tricks_33 hl (by decide) rfl (fun ls hl => ?_)
          refine lv_iinc (v := v5 + 4) (lv' := [(5, .int (v5 + 4)), (4, .int (v4 + 1)), (0, .ref (ad 1)), (1, .ref (ad 2)), (2, .int v2), (3, .int v3)]) hx hb dL_tricks_35 hl (k := 5) rfl rfl (by decide) rfl (fun ls hl => ?_)
          refine lv_goto (tgt := 6) hx hb dL_tricks_38 (by decide) ?_
          exact ih _ _ _ _ _ _ h (lv_sub hl [2, 3, 4, 5, 1, 0] rfl) kk
  refine lv_iconst (v := 0) hx hb dL_tricks_0 (by decide) ?_
  refine lv_istore (lv' := [(4, .int 0), (0, .ref (ad 1)), (1, .ref (ad 2)), (2, .int p2), (3, .int p3)]) hx hb dL_tricks_1 hl (by decide) rfl (fun ls hl => ?_)
  refine lv_iconst (v := 4) hx hb dL_tricks_3 (by decide) ?_
  refine lv_istore (lv' := [(5, .int 4), (4, .int 0), (0, .ref (ad 1)), (1, .ref (ad 2)), (2, .int p2), (3, .int p3)]) hx hb dL_tricks_4 hl (by decide) rfl (fun ls hl => ?_)
  obtain ⟨q1, hqq1, h⟩ := obind_some h
  refine L6 _ _ _ _ _ _ _ hqq1 (lv_sub hl [2, 3, 4, 5, 1, 0] rfl) (fun ls hl => ?_)
  have hl := lv_sub (l' := [(4, .int q1)]) hl [4] rfl
  refine lv_iload hx hb dL_tricks_41 (lv_at hl 0 rfl) ?_
  obtain rfl := Option.some.inj h
  exact kr _ _ _ rfl rfl dL_tricks_43

-- L_can
def fL_can (p3 : Int32) (p4 : Int32) (M : Mem) : Option (Int32) := (obind (fL_leader p3 M) (fun q1 => (if vin (im (q1 + (im p3 4)) 4) 4 = true then (if (fL_has (M 0 ((im (q1 + (im p3 4)) 4).toNatClampNeg)) p4) = 0 then some (0) else (if (im p3 4) = 0 then (if (p4 / 6) = (p4 / 6) then some (1) else (if vin (im (q1 + (im p3 4)) 4) 4 = true then (if ((sr (M 0 ((im (q1 + (im p3 4)) 4).toNatClampNeg)) (6 * (p4 / 6))) &&& 63) = 0 then some (1) else some (0)) else none)) else (if vin (p3 - (im p3 4)) 16 = true then (if (p4 / 6) = ((M 1 ((p3 - (im p3 4)).toNatClampNeg)) / 6) then some (1) else (if vin (im (q1 + (im p3 4)) 4) 4 = true then (if ((sr (M 0 ((im (q1 + (im p3 4)) 4).toNatClampNeg)) (6 * ((M 1 ((p3 - (im p3 4)).toNatClampNeg)) / 6))) &&& 63) = 0 then some (1) else some (0)) else none)) else none))) else none)))
def rmL_can : Room := { frames := 1, cells := 0, slots := 0, locals := 28 }
set_option maxHeartbeats 4000000 in
set_option maxRecDepth 100000 in
theorem kL_can (l : Launch) (D : va_G) (cA : Nat) (ad : Nat → Nat) (p3 : Int32) (p4 : Int32) (M : Mem) (r : Int32) (h : fL_can p3 p4 M = some r) : RdH l yL_can wsL_can rmL_can D cA ad M [.ref (ad 0), .ref (ad 1), .ref (ad 2), .int p3, .int p4] r := by
  unfold fL_can at h
  refine RdH.of RL rfl rfl rfl (Nat.le_of_ble_eq_true rfl) ?_
  intro p e s m args below meth c Q ls S5 hK hP hl kr
  obtain ⟨hx, hb, -, -, hts⟩ := id S5
  refine lv_aload_n hx hb dL_can_0 rfl (lv_at hl 1 rfl) ?_
  refine lv_aload_n hx hb dL_can_1 rfl (lv_at hl 2 rfl) ?_
  refine lv_iload_n hx hb dL_can_2 rfl (lv_at hl 3 rfl) ?_
  obtain ⟨q1, hqq1, h⟩ := obind_some h
  refine cSRH S5 hK hP (As := [.ref (ad 1), .ref (ad 2), .int p3]) (kL_leader l D cA ad _ _ _ hqq1) (va_cwS 3 hts gL_can_L_leader rfl rfl rfl (by decide +kernel) ⟨(Nat.le_of_ble_eq_true rfl), (Nat.le_of_ble_eq_true rfl)⟩) rfl hl.1 (st0 := _) (rest := []) rfl (Nat.le_of_ble_eq_true rfl) dL_can_3 ⟨Nat.zero_le _, Nat.zero_le _⟩ ?_
  refine lv_iload_n hx hb dL_can_6 rfl (lv_at hl 3 rfl) ?_
  refine lv_iconst (v := 4) hx hb dL_can_7 (by decide) ?_
  refine r_irem S5 dL_can_8 (by decide) ?_
  refine lv_iadd hx hb dL_can_9 ?_
  refine lv_iconst (v := 4) hx hb dL_can_10 (by decide) ?_
  refine r_irem S5 dL_can_11 (by decide) ?_
  refine lv_istore (lv' := [(5, .int (im (q1 + (im p3 4)) 4)), (0, .ref (ad 0)), (1, .ref (ad 1)), (2, .ref (ad 2)), (3, .int p3), (4, .int p4)]) hx hb dL_can_12 hl (by decide) rfl (fun ls hl => ?_)
  refine lv_aload_n hx hb dL_can_14 rfl (lv_at hl 1 rfl) ?_
  refine lv_iload hx hb dL_can_15 (lv_at hl 0 rfl) ?_
  obtain ⟨g2, h⟩ := gd_some h
  refine alH0 S5 hK hP (v := M 0 ((im (q1 + (im p3 4)) 4).toNatClampNeg)) g2 rfl dL_can_17 ?_
  refine lv_iload hx hb dL_can_18 (lv_at hl 5 rfl) ?_
  refine cS S5 (As := [.int (M 0 ((im (q1 + (im p3 4)) 4).toNatClampNeg)), .int p4]) (kL_has l _ _) (va_cwS 2 hts gL_can_L_has rfl rfl rfl (by decide +kernel) ⟨(Nat.le_of_ble_eq_true rfl), (Nat.le_of_ble_eq_true rfl)⟩) rfl hl.1 (st0 := _) (rest := []) rfl (Nat.le_of_ble_eq_true rfl) dL_can_20 ⟨Nat.zero_le _, Nat.zero_le _⟩ ?_
  refine lv_if_ne (tgt := 28) hx hb dL_can_23 (by decide) (fun c3 => ?_) (fun c3 => ?_)
  · rw [if_neg c3] at h
    refine lv_iload_n hx hb dL_can_28 rfl (lv_at hl 4 rfl) ?_
    refine lv_iconst (v := 4) hx hb dL_can_29 (by decide) ?_
    refine r_irem S5 dL_can_30 (by decide) ?_
    refine lv_if_ne (tgt := 42) hx hb dL_can_31 (by decide) (fun c4 => ?_) (fun c4 => ?_)
    · rw [if_neg c4] at h
      refine lv_aload_n hx hb dL_can_42 rfl (lv_at hl 2 rfl) ?_
      refine lv_iload_n hx hb dL_can_43 rfl (lv_at hl 4 rfl) ?_
      refine lv_iload_n hx hb dL_can_44 rfl (lv_at hl 4 rfl) ?_
      refine lv_iconst (v := 4) hx hb dL_can_45 (by decide) ?_
      refine r_irem S5 dL_can_46 (by decide) ?_
      refine lv_isub hx hb dL_can_47 ?_
      obtain ⟨g5, h⟩ := gd_some h
      refine alH1 S5 hK hP (v := M 1 ((p3 - (im p3 4)).toNatClampNeg)) g5 rfl dL_can_48 ?_
      refine lv_bipush (v := 6) hx hb dL_can_49 (by decide) ?_
      refine r_idiv S5 dL_can_51 (by decide) ?_
      refine lv_istore (lv' := [(6, .int ((M 1 ((p3 - (im p3 4)).toNatClampNeg)) / 6)), (5, .int (im (q1 + (im p3 4)) 4)), (0, .ref (ad 0)), (1, .ref (ad 1)), (2, .ref (ad 2)), (3, .int p3), (4, .int p4)]) hx hb dL_can_52 hl (by decide) rfl (fun ls hl => ?_)
      refine lv_iload hx hb dL_can_54 (lv_at hl 6 rfl) ?_
      refine lv_bipush (v := 6) hx hb dL_can_56 (by decide) ?_
      refine r_idiv S5 dL_can_58 (by decide) ?_
      refine lv_iload hx hb dL_can_59 (lv_at hl 0 rfl) ?_
      refine lv_icmp_eq (tgt := 80) hx hb dL_can_61 (by decide) (fun c6 => ?_) (fun c6 => ?_)
      · rw [if_pos c6] at h
        refine lv_iconst (v := 1) hx hb dL_can_80 (by decide) ?_
        refine lv_goto (tgt := 85) hx hb dL_can_81 (by decide) ?_
        obtain rfl := Option.some.inj h
        exact kr _ _ _ rfl rfl dL_can_85
      · rw [if_neg c6] at h
        refine lv_aload_n hx hb dL_can_64 rfl (lv_at hl 2 rfl) ?_
        refine lv_iload hx hb dL_can_65 (lv_at hl 1 rfl) ?_
        obtain ⟨g7, h⟩ := gd_some h
        refine alH0 S5 hK hP (v := M 0 ((im (q1 + (im p3 4)) 4).toNatClampNeg)) g7 rfl dL_can_67 ?_
        refine lv_bipush (v := 6) hx hb dL_can_68 (by decide) ?_
        refine lv_iload hx hb dL_can_70 (lv_at hl 0 rfl) ?_
        refine lv_imul hx hb dL_can_72 ?_
        refine r_ishr S5 dL_can_73 ?_
        refine lv_bipush (v := 63) hx hb dL_can_74 (by decide) ?_
        refine lv_iand hx hb dL_can_76 ?_
        refine lv_if_ne (tgt := 84) hx hb dL_can_77 (by decide) (fun c8 => ?_) (fun c8 => ?_)
        · rw [if_neg c8] at h
          refine lv_iconst (v := 0) hx hb dL_can_84 (by decide) ?_
          obtain rfl := Option.some.inj h
          exact kr _ _ _ rfl rfl dL_can_85
        · rw [if_pos c8] at h
          refine lv_iconst (v := 1) hx hb dL_can_80 (by decide) ?_
          refine lv_goto (tgt := 85) hx hb dL_can_81 (by decide) ?_
          obtain rfl := Option.some.inj h
          exact kr _ _ _ rfl rfl dL_can_85
    · rw [if_pos c4] at h
      refine lv_iload hx hb dL_can_34 (lv_at hl 5 rfl) ?_
      refine lv_bipush (v := 6) hx hb dL_can_36 (by decide) ?_
      refine r_idiv S5 dL_can_38 (by decide) ?_
      refine lv_goto (tgt := 52) hx hb dL_can_39 (by decide) ?_
      refine lv_istore (lv' := [(6, .int (p4 / 6)), (5, .int (im (q1 + (im p3 4)) 4)), (0, .ref (ad 0)), (1, .ref (ad 1)), (2, .ref (ad 2)), (3, .int p3), (4, .int p4)]) hx hb dL_can_52 hl (by decide) rfl (fun ls hl => ?_)
      refine lv_iload hx hb dL_can_54 (lv_at hl 6 rfl) ?_
      refine lv_bipush (v := 6) hx hb dL_can_56 (by decide) ?_
      refine r_idiv S5 dL_can_58 (by decide) ?_
      refine lv_iload hx hb dL_can_59 (lv_at hl 0 rfl) ?_
      refine lv_icmp_eq (tgt := 80) hx hb dL_can_61 (by decide) (fun c9 => ?_) (fun c9 => ?_)
      · rw [if_pos c9] at h
        refine lv_iconst (v := 1) hx hb dL_can_80 (by decide) ?_
        refine lv_goto (tgt := 85) hx hb dL_can_81 (by decide) ?_
        obtain rfl := Option.some.inj h
        exact kr _ _ _ rfl rfl dL_can_85
      · rw [if_neg c9] at h
        refine lv_aload_n hx hb dL_can_64 rfl (lv_at hl 2 rfl) ?_
        refine lv_iload hx hb dL_can_65 (lv_at hl 1 rfl) ?_
        obtain ⟨g10, h⟩ := gd_some h
        refine alH0 S5 hK hP (v := M 0 ((im (q1 + (im p3 4)) 4).toNatClampNeg)) g10 rfl dL_can_67 ?_
        refine lv_bipush (v := 6) hx hb dL_can_68 (by decide) ?_
        refine lv_iload hx hb dL_can_70 (lv_at hl 0 rfl) ?_
        refine lv_imul hx hb dL_can_72 ?_
        refine r_ishr S5 dL_can_73 ?_
        refine lv_bipush (v := 63) hx hb dL_can_74 (by decide) ?_
        refine lv_iand hx hb dL_can_76 ?_
        refine lv_if_ne (tgt := 84) hx hb dL_can_77 (by decide) (fun c11 => ?_) (fun c11 => ?_)
        · rw [if_neg c11] at h
          refine lv_iconst (v := 0) hx hb dL_can_84 (by decide) ?_
          obtain rfl := Option.some.inj h
          exact kr _ _ _ rfl rfl dL_can_85
        · rw [if_pos c11] at h
          refine lv_iconst (v := 1) hx hb dL_can_80 (by decide) ?_
          refine lv_goto (tgt := 85) hx hb dL_can_81 (by decide) ?_
          obtain rfl := Option.some.inj h
          exact kr _ _ _ rfl rfl dL_can_85
  · rw [if_pos c3] at h
    refine lv_iconst (v := 0) hx hb dL_can_26 (by decide) ?_
    obtain rfl := Option.some.inj h
    exact kr _ _ _ rfl rfl dL_can_27

-- L_holder
def fL_holder (p1 : Int32) (M : Mem) : Int32 := (if (fL_has (M 0 0) p1) = 0 then (if (fL_has (M 0 1) p1) = 0 then (if (fL_has (M 0 2) p1) = 0 then (if (fL_has (M 0 3) p1) = 0 then ((-1)) else (3)) else (2)) else (1)) else (0))
def rmL_holder : Room := { frames := 1, cells := 0, slots := 0, locals := 21 }
set_option maxHeartbeats 4000000 in
set_option maxRecDepth 100000 in
theorem kL_holder (l : Launch) (D : va_G) (cA : Nat) (ad : Nat → Nat) (p1 : Int32) (M : Mem) : RdH l yL_holder wsL_holder rmL_holder D cA ad M [.ref (ad 0), .int p1] (fL_holder p1 M) := by
  obtain ⟨r, h⟩ : ∃ r, fL_holder p1 M = r := ⟨_, rfl⟩
  rw [h]
  unfold fL_holder at h
  refine RdH.of RL rfl rfl rfl (Nat.le_of_ble_eq_true rfl) ?_
  intro p e s m args below meth c Q ls S5 hK hP hl kr
  obtain ⟨hx, hb, -, -, hts⟩ := id S5
  refine lv_aload_n hx hb dL_holder_0 rfl (lv_at hl 0 rfl) ?_
  refine lv_iconst (v := 0) hx hb dL_holder_1 (by decide) ?_
  refine alH0 S5 hK hP (v := M 0 0) (by decide) rfl dL_holder_2 ?_
  refine lv_iload_n hx hb dL_holder_3 rfl (lv_at hl 1 rfl) ?_
  refine cS S5 (As := [.int (M 0 0), .int p1]) (kL_has l _ _) (va_cwS 2 hts gL_holder_L_has rfl rfl rfl (by decide +kernel) ⟨(Nat.le_of_ble_eq_true rfl), (Nat.le_of_ble_eq_true rfl)⟩) rfl hl.1 (st0 := _) (rest := []) rfl (Nat.le_of_ble_eq_true rfl) dL_holder_4 ⟨Nat.zero_le _, Nat.zero_le _⟩ ?_
  refine lv_if_eq (tgt := 14) hx hb dL_holder_7 (by decide) (fun c1 => ?_) (fun c1 => ?_)
  · rw [if_pos c1] at h
    refine lv_aload_n hx hb dL_holder_14 rfl (lv_at hl 0 rfl) ?_
    refine lv_iconst (v := 1) hx hb dL_holder_15 (by decide) ?_
    refine alH0 S5 hK hP (v := M 0 1) (by decide) rfl dL_holder_16 ?_
    refine lv_iload_n hx hb dL_holder_17 rfl (lv_at hl 1 rfl) ?_
    refine cS S5 (As := [.int (M 0 1), .int p1]) (kL_has l _ _) (va_cwS 2 hts gL_holder_L_has rfl rfl rfl (by decide +kernel) ⟨(Nat.le_of_ble_eq_true rfl), (Nat.le_of_ble_eq_true rfl)⟩) rfl hl.1 (st0 := _) (rest := []) rfl (Nat.le_of_ble_eq_true rfl) dL_holder_18 ⟨Nat.zero_le _, Nat.zero_le _⟩ ?_
    refine lv_if_eq (tgt := 28) hx hb dL_holder_21 (by decide) (fun c2 => ?_) (fun c2 => ?_)
    · rw [if_pos c2] at h
      refine lv_aload_n hx hb dL_holder_28 rfl (lv_at hl 0 rfl) ?_
      refine lv_iconst (v := 2) hx hb dL_holder_29 (by decide) ?_
      refine alH0 S5 hK hP (v := M 0 2) (by decide) rfl dL_holder_30 ?_
      refine lv_iload_n hx hb dL_holder_31 rfl (lv_at hl 1 rfl) ?_
      refine cS S5 (As := [.int (M 0 2), .int p1]) (kL_has l _ _) (va_cwS 2 hts gL_holder_L_has rfl rfl rfl (by decide +kernel) ⟨(Nat.le_of_ble_eq_true rfl), (Nat.le_of_ble_eq_true rfl)⟩) rfl hl.1 (st0 := _) (rest := []) rfl (Nat.le_of_ble_eq_true rfl) dL_holder_32 ⟨Nat.zero_le _, Nat.zero_le _⟩ ?_
      refine lv_if_eq (tgt := 42) hx hb dL_holder_35 (by decide) (fun c3 => ?_) (fun c3 => ?_)
      · rw [if_pos c3] at h
        refine lv_aload_n hx hb dL_holder_42 rfl (lv_at hl 0 rfl) ?_
        refine lv_iconst (v := 3) hx hb dL_holder_43 (by decide) ?_
        refine alH0 S5 hK hP (v := M 0 3) (by decide) rfl dL_holder_44 ?_
        refine lv_iload_n hx hb dL_holder_45 rfl (lv_at hl 1 rfl) ?_
        refine cS S5 (As := [.int (M 0 3), .int p1]) (kL_has l _ _) (va_cwS 2 hts gL_holder_L_has rfl rfl rfl (by decide +kernel) ⟨(Nat.le_of_ble_eq_true rfl), (Nat.le_of_ble_eq_true rfl)⟩) rfl hl.1 (st0 := _) (rest := []) rfl (Nat.le_of_ble_eq_true rfl) dL_holder_46 ⟨Nat.zero_le _, Nat.zero_le _⟩ ?_
        refine lv_if_eq (tgt := 56) hx hb dL_holder_49 (by decide) (fun c4 => ?_) (fun c4 => ?_)
        · rw [if_pos c4] at h
          refine lv_iconst (v := (-1)) hx hb dL_holder_56 (by decide) ?_
          subst h
          exact kr _ _ _ rfl rfl dL_holder_57
        · rw [if_neg c4] at h
          refine lv_iconst (v := 3) hx hb dL_holder_52 (by decide) ?_
          refine lv_goto (tgt := 57) hx hb dL_holder_53 (by decide) ?_
          subst h
          exact kr _ _ _ rfl rfl dL_holder_57
      · rw [if_neg c3] at h
        refine lv_iconst (v := 2) hx hb dL_holder_38 (by decide) ?_
        refine lv_goto (tgt := 57) hx hb dL_holder_39 (by decide) ?_
        subst h
        exact kr _ _ _ rfl rfl dL_holder_57
    · rw [if_neg c2] at h
      refine lv_iconst (v := 1) hx hb dL_holder_24 (by decide) ?_
      refine lv_goto (tgt := 57) hx hb dL_holder_25 (by decide) ?_
      subst h
      exact kr _ _ _ rfl rfl dL_holder_57
  · rw [if_neg c1] at h
    refine lv_iconst (v := 0) hx hb dL_holder_10 (by decide) ?_
    refine lv_goto (tgt := 57) hx hb dL_holder_11 (by decide) ?_
    subst h
    exact kr _ _ _ rfl rfl dL_holder_57

-- L_isOnTable
def fL_isOnTable_L13 : Nat → Int32 → Int32 → Int32 → Mem → Option (Int32)
  | 0, _, _, _, _ => none
  | n + 1, v2, v3, v4, M => (if (M 2 0) ≤ v4 then some (v3) else (if v3 = 0 then (if vin v4 16 = true then (if (M 1 v4.toNatClampNeg) = v2 then fL_isOnTable_L13 n v2 1 (v4 + 1) M else fL_isOnTable_L13 n v2 0 (v4 + 1) M) else none) else fL_isOnTable_L13 n v2 1 (v4 + 1) M))
def fL_isOnTable (p2 : Int32) (M : Mem) : Option (Int32) := (obind (fL_isOnTable_L13 40 p2 0 ((M 2 0) - (im (M 2 0) 4)) M) (fun q1 => (if vb q1 = true then some (q1) else none)))
def rmL_isOnTable : Room := { frames := 0, cells := 0, slots := 0, locals := 0 }
set_option maxHeartbeats 4000000 in
set_option maxRecDepth 100000 in
theorem kL_isOnTable (l : Launch) (D : va_G) (cA : Nat) (ad : Nat → Nat) (p2 : Int32) (M : Mem) (r : Int32) (h : fL_isOnTable p2 M = some r) : RdH l yL_isOnTable wsL_isOnTable rmL_isOnTable D cA ad M [.ref (ad 1), .ref (ad 2), .int p2] r := by
  unfold fL_isOnTable at h
  refine RdH.of RL rfl rfl rfl (Nat.le_of_ble_eq_true rfl) ?_
  intro p e s m args below meth c Q ls S5 hK hP hl kr
  obtain ⟨hx, hb, -, -, hts⟩ := id S5
  have L13 : ∀ (n : Nat) (v2 : Int32) (v3 : Int32) (v4 : Int32) (r' : Int32) (ls : Array Slot), fL_isOnTable_L13 n v2 v3 v4 M = some r' → lv_has ls 5 [(0, .ref (ad 1)), (1, .ref (ad 2)), (2, .int v2), (3, .int v3), (4, .int v4)] → (∀ (ls : Array Slot), lv_has ls 5 [(0, .ref (ad 1)), (1, .ref (ad 2)), (2, .int v2), (3, .int (r'))] → W p l e rmL_isOnTable s m args below meth c s.heap [] 0 0 Q (F0 m 45 ls [])) → W p l e rmL_isOnTable s m args below meth c s.heap [] 0 0 Q (F0 m 13 ls []) := by
    intro n
    induction n with
    | zero => intro v2 v3 v4 r' ls h hl kk; rw [fL_isOnTable_L13.eq_1] at h; cases h
    | succ n ih =>
      intro v2 v3 v4 r' ls h hl kk
      rw [fL_isOnTable_L13.eq_2] at h
      refine lv_iload hx hb dL_isOnTable_13 (lv_at hl 4 rfl) ?_
      refine lv_aload_n hx hb dL_isOnTable_15 rfl (lv_at hl 1 rfl) ?_
      refine lv_iconst (v := 0) hx hb dL_isOnTable_16 (by decide) ?_
      refine alH2 S5 hK hP (v := M 2 0) (by decide) rfl dL_isOnTable_17 ?_
      refine lv_icmp_ge (tgt := 45) hx hb dL_isOnTable_18 (by decide) (fun c3 => ?_) (fun c3 => ?_)
      · rw [if_pos c3] at h
        obtain rfl := Option.some.inj h
        exact kk _ (lv_sub hl [0, 1, 2, 3] rfl)
      · rw [if_neg c3] at h
        refine lv_iload_n hx hb dL_isOnTable_21 rfl (lv_at hl 3 rfl) ?_
        refine lv_if_ne (tgt := 33) hx hb dL_isOnTable_22 (by decide) (fun c4 => ?_) (fun c4 => ?_)
        · rw [if_neg c4] at h
          refine lv_iconst (v := 1) hx hb dL_isOnTable_33 (by decide) ?_
          refine lv_goto (tgt := 38) hx hb dL_isOnTable_34 (by decide) ?_
          refine lv_istore_n (lv' := [(3, .int 1), (0, .ref (ad 1)), (1, .ref (ad 2)), (2, .int v2), (4, .int v4)]) hx hb dL_isOnTable_38 rfl hl (by decide) rfl (fun ls hl => ?_)
          refine lv_iinc (v := v4 + 1) (lv' := [(4, .int (v4 + 1)), (3, .int 1), (0, .ref (ad 1)), (1, .ref (ad 2)), (2, .int v2)]) hx hb dL_isOnTable_39 hl (k := 4) rfl rfl (by decide) rfl (fun ls hl => ?_)
          refine lv_goto (tgt := 13) hx hb dL_isOnTable_42 (by decide) ?_
          exact ih _ _ _ _ _ h (lv_sub hl [2, 3, 4, 1, 0] rfl) kk
        · rw [if_pos c4] at h
          refine lv_aload_n hx hb dL_isOnTable_25 rfl (lv_at hl 0 rfl) ?_
          refine lv_iload hx hb dL_isOnTable_26 (lv_at hl 4 rfl) ?_
          obtain ⟨g5, h⟩ := gd_some h
          refine alH1 S5 hK hP (v := M 1 v4.toNatClampNeg) g5 rfl dL_isOnTable_28 ?_
          refine lv_iload_n hx hb dL_isOnTable_29 rfl (lv_at hl 2 rfl) ?_
          refine lv_icmp_ne (tgt := 37) hx hb dL_isOnTable_30 (by decide) (fun c6 => ?_) (fun c6 => ?_)
          · rw [if_neg c6] at h
            refine lv_iconst (v := 0) hx hb dL_isOnTable_37 (by decide) ?_
            refine lv_istore_n (lv' := [(3, .int 0), (0, .ref (ad 1)), (1, .ref (ad 2)), (2, .int v2), (4, .int v4)]) hx hb dL_isOnTable_38 rfl hl (by decide) rfl (fun ls hl => ?_)
            refine lv_iinc (v := v4 + 1) (lv' := [(4, .int (v4 + 1)), (3, .int 0), (0, .ref (ad 1)), (1, .ref (ad 2)), (2, .int v2)]) hx hb dL_isOnTable_39 hl (k := 4) rfl rfl (by decide) rfl (fun ls hl => ?_)
            refine lv_goto (tgt := 13) hx hb dL_isOnTable_42 (by decide) ?_
            exact ih _ _ _ _ _ h (lv_sub hl [2, 3, 4, 1, 0] rfl) kk
          · rw [if_pos c6] at h
            refine lv_iconst (v := 1) hx hb dL_isOnTable_33 (by decide) ?_
            refine lv_goto (tgt := 38) hx hb dL_isOnTable_34 (by decide) ?_
            refine lv_istore_n (lv' := [(3, .int 1), (0, .ref (ad 1)), (1, .ref (ad 2)), (2, .int v2), (4, .int v4)]) hx hb dL_isOnTable_38 rfl hl (by decide) rfl (fun ls hl => ?_)
            refine lv_iinc (v := v4 + 1) (lv' := [(4, .int (v4 + 1)), (3, .int 1), (0, .ref (ad 1)), (1, .ref (ad 2)), (2, .int v2)]) hx hb dL_isOnTable_39 hl (k := 4) rfl rfl (by decide) rfl (fun ls hl => ?_)
            refine lv_goto (tgt := 13) hx hb dL_isOnTable_42 (by decide) ?_
            exact ih _ _ _ _ _ h (lv_sub hl [2, 3, 4, 1, 0] rfl) kk
  refine lv_iconst (v := 0) hx hb dL_isOnTable_0 (by decide) ?_
  refine lv_istore_n (lv' := [(3, .int 0), (0, .ref (ad 1)), (1, .ref (ad 2)), (2, .int p2)]) hx hb dL_isOnTable_1 rfl hl (by decide) rfl (fun ls hl => ?_)
  refine lv_aload_n hx hb dL_isOnTable_2 rfl (lv_at hl 2 rfl) ?_
  refine lv_iconst (v := 0) hx hb dL_isOnTable_3 (by decide) ?_
  refine alH2 S5 hK hP (v := M 2 0) (by decide) rfl dL_isOnTable_4 ?_
  refine lv_aload_n hx hb dL_isOnTable_5 rfl (lv_at hl 2 rfl) ?_
  refine lv_iconst (v := 0) hx hb dL_isOnTable_6 (by decide) ?_
  refine alH2 S5 hK hP (v := M 2 0) (by decide) rfl dL_isOnTable_7 ?_
  refine lv_iconst (v := 4) hx hb dL_isOnTable_8 (by decide) ?_
  refine r_irem S5 dL_isOnTable_9 (by decide) ?_
  refine lv_isub hx hb dL_isOnTable_10 ?_
  refine lv_istore (lv' := [(4, .int ((M 2 0) - (im (M 2 0) 4))), (3, .int 0), (0, .ref (ad 1)), (1, .ref (ad 2)), (2, .int p2)]) hx hb dL_isOnTable_11 hl (by decide) rfl (fun ls hl => ?_)
  obtain ⟨q1, hqq1, h⟩ := obind_some h
  refine L13 _ _ _ _ _ _ hqq1 (lv_sub hl [2, 3, 4, 1, 0] rfl) (fun ls hl => ?_)
  have hl := lv_sub (l' := [(3, .int q1)]) hl [3] rfl
  refine lv_iload_n hx hb dL_isOnTable_45 rfl (lv_at hl 0 rfl) ?_
  obtain ⟨g2, h⟩ := gd_some h
  obtain rfl := Option.some.inj h
  exact kr _ _ _ rfl (nb (vb_or g2)) dL_isOnTable_46

-- L_areEqual
def fL_areEqual_L38 : Nat → Int32 → Int32 → Int32 → Int32 → Mem → Option (Int32)
  | 0, _, _, _, _, _ => none
  | n + 1, v3, v4, v5, v6, M => (if v4 ≤ v6 then some (v5) else (if v5 = 0 then fL_areEqual_L38 n v3 v4 0 (v6 + 1) M else (obind (fL_isOnTable v6 M) (fun q11 => (if q11 = 0 then (if (fL_holder v6 M) < 0 then fL_areEqual_L38 n v3 v4 1 (v6 + 1) M else (if (fL_holder v6 M) = (fL_holder v3 M) then fL_areEqual_L38 n v3 v4 1 (v6 + 1) M else fL_areEqual_L38 n v3 v4 0 (v6 + 1) M)) else fL_areEqual_L38 n v3 v4 0 (v6 + 1) M)))))
def fL_areEqual (p3 : Int32) (p4 : Int32) (M : Mem) : Option (Int32) := (if (p3 / 6) = (p4 / 6) then (if (fL_holder p3 M) = (fL_holder p4 M) then (obind (fL_areEqual_L38 40 p3 p4 1 (p3 + 1) M) (fun q7 => (if vb q7 = true then some (q7) else none))) else (obind (fL_areEqual_L38 40 p3 p4 0 (p3 + 1) M) (fun q5 => (if vb q5 = true then some (q5) else none)))) else (obind (fL_areEqual_L38 40 p3 p4 0 (p3 + 1) M) (fun q2 => (if vb q2 = true then some (q2) else none))))
def rmL_areEqual : Room := { frames := 2, cells := 0, slots := 0, locals := 42 }
set_option maxHeartbeats 4000000 in
set_option maxRecDepth 100000 in
theorem kL_areEqual (l : Launch) (D : va_G) (cA : Nat) (ad : Nat → Nat) (p3 : Int32) (p4 : Int32) (M : Mem) (r : Int32) (h : fL_areEqual p3 p4 M = some r) : RdH l yL_areEqual wsL_areEqual rmL_areEqual D cA ad M [.ref (ad 0), .ref (ad 1), .ref (ad 2), .int p3, .int p4] r := by
  unfold fL_areEqual at h
  refine RdH.of RL rfl rfl rfl (Nat.le_of_ble_eq_true rfl) ?_
  intro p e s m args below meth c Q ls S5 hK hP hl kr
  obtain ⟨hx, hb, -, -, hts⟩ := id S5
  have L38 : ∀ (n : Nat) (v3 : Int32) (v4 : Int32) (v5 : Int32) (v6 : Int32) (r' : Int32) (ls : Array Slot), fL_areEqual_L38 n v3 v4 v5 v6 M = some r' → lv_has ls 7 [(0, .ref (ad 0)), (1, .ref (ad 1)), (2, .ref (ad 2)), (3, .int v3), (4, .int v4), (5, .int v5), (6, .int v6)] → (∀ (ls : Array Slot), lv_has ls 7 [(0, .ref (ad 0)), (1, .ref (ad 1)), (2, .ref (ad 2)), (3, .int v3), (4, .int v4), (5, .int (r'))] → W p l e rmL_areEqual s m args below meth c s.heap [] 0 0 Q (F0 m 96 ls [])) → W p l e rmL_areEqual s m args below meth c s.heap [] 0 0 Q (F0 m 38 ls []) := by
    intro n
    induction n with
    | zero => intro v3 v4 v5 v6 r' ls h hl kk; rw [fL_areEqual_L38.eq_1] at h; cases h
    | succ n ih =>
      intro v3 v4 v5 v6 r' ls h hl kk
      rw [fL_areEqual_L38.eq_2] at h
      refine lv_iload hx hb dL_areEqual_38 (lv_at hl 6 rfl) ?_
      refine lv_iload hx hb dL_areEqual_40 (lv_at hl 4 rfl) ?_
      refine lv_icmp_ge (tgt := 96) hx hb dL_areEqual_42 (by decide) (fun c9 => ?_) (fun c9 => ?_)
      · rw [if_pos c9] at h
        obtain rfl := Option.some.inj h
        exact kk _ (lv_sub hl [0, 1, 2, 3, 4, 5] rfl)
      · rw [if_neg c9] at h
        refine lv_iload hx hb dL_areEqual_45 (lv_at hl 5 rfl) ?_
        refine lv_if_eq (tgt := 87) hx hb dL_areEqual_47 (by decide) (fun c10 => ?_) (fun c10 => ?_)
        · rw [if_pos c10] at h
          refine lv_iconst (v := 0) hx hb dL_areEqual_87 (by decide) ?_
          refine lv_istore (lv' := [(5, .int 0), (0, .ref (ad 0)), (1, .ref (ad 1)), (2, .ref (ad 2)), (3, .int v3), (4, .int v4), (6, .int v6)]) hx hb dL_areEqual_88 hl (by decide) rfl (fun ls hl => ?_)
          refine lv_iinc (v := v6 + 1) (lv' := [(6, .int (v6 + 1)), (5, .int 0), (0, .ref (ad 0)), (1, .ref (ad 1)), (2, .ref (ad 2)), (3, .int v3), (4, .int v4)]) hx hb dL_areEqual_90 hl (k := 6) rfl rfl (by decide) rfl (fun ls hl => ?_)
          refine lv_goto (tgt := 38) hx hb dL_areEqual_93 (by decide) ?_
          exact ih _ _ _ _ _ _ h (lv_sub hl [2, 3, 4, 5, 6, 1, 0] rfl) kk
        · rw [if_neg c10] at h
          refine lv_aload_n hx hb dL_areEqual_50 rfl (lv_at hl 1 rfl) ?_
          refine lv_aload_n hx hb dL_areEqual_51 rfl (lv_at hl 2 rfl) ?_
          refine lv_iload hx hb dL_areEqual_52 (lv_at hl 6 rfl) ?_
          obtain ⟨q11, hqq11, h⟩ := obind_some h
          refine cSRH S5 hK hP (As := [.ref (ad 1), .ref (ad 2), .int v6]) (kL_isOnTable l D cA ad _ _ _ hqq11) (va_cwS 3 hts gL_areEqual_L_isOnTable rfl rfl rfl (by decide +kernel) ⟨(Nat.le_of_ble_eq_true rfl), (Nat.le_of_ble_eq_true rfl)⟩) rfl hl.1 (st0 := _) (rest := []) rfl (Nat.le_of_ble_eq_true rfl) dL_areEqual_54 ⟨Nat.zero_le _, Nat.zero_le _⟩ ?_
          refine lv_if_ne (tgt := 87) hx hb dL_areEqual_57 (by decide) (fun c12 => ?_) (fun c12 => ?_)
          · rw [if_neg c12] at h
            refine lv_iconst (v := 0) hx hb dL_areEqual_87 (by decide) ?_
            refine lv_istore (lv' := [(5, .int 0), (0, .ref (ad 0)), (1, .ref (ad 1)), (2, .ref (ad 2)), (3, .int v3), (4, .int v4), (6, .int v6)]) hx hb dL_areEqual_88 hl (by decide) rfl (fun ls hl => ?_)
            refine lv_iinc (v := v6 + 1) (lv' := [(6, .int (v6 + 1)), (5, .int 0), (0, .ref (ad 0)), (1, .ref (ad 1)), (2, .ref (ad 2)), (3, .int v3), (4, .int v4)]) hx hb dL_areEqual_90 hl (k := 6) rfl rfl (by decide) rfl (fun ls hl => ?_)
            refine lv_goto (tgt := 38) hx hb dL_areEqual_93 (by decide) ?_
            exact ih _ _ _ _ _ _ h (lv_sub hl [2, 3, 4, 5, 6, 1, 0] rfl) kk
          · rw [if_pos c12] at h
            refine lv_aload_n hx hb dL_areEqual_60 rfl (lv_at hl 0 rfl) ?_
            refine lv_iload hx hb dL_areEqual_61 (lv_at hl 6 rfl) ?_
            refine cSRH S5 hK hP (As := [.ref (ad 0), .int v6]) (kL_holder l D cA ad _ _) (va_cwS 2 hts gL_areEqual_L_holder rfl rfl rfl (by decide +kernel) ⟨(Nat.le_of_ble_eq_true rfl), (Nat.le_of_ble_eq_true rfl)⟩) rfl hl.1 (st0 := _) (rest := []) rfl (Nat.le_of_ble_eq_true rfl) dL_areEqual_63 ⟨Nat.zero_le _, Nat.zero_le _⟩ ?_
            refine lv_if_lt (tgt := 83) hx hb dL_areEqual_66 (by decide) (fun c13 => ?_) (fun c13 => ?_)
            · rw [if_pos c13] at h
              refine lv_iconst (v := 1) hx hb dL_areEqual_83 (by decide) ?_
              refine lv_goto (tgt := 88) hx hb dL_areEqual_84 (by decide) ?_
              refine lv_istore (lv' := [(5, .int 1), (0, .ref (ad 0)), (1, .ref (ad 1)), (2, .ref (ad 2)), (3, .int v3), (4, .int v4), (6, .int v6)]) hx hb dL_areEqual_88 hl (by decide) rfl (fun ls hl => ?_)
              refine lv_iinc (v := v6 + 1) (lv' := [(6, .int (v6 + 1)), (5, .int 1), (0, .ref (ad 0)), (1, .ref (ad 1)), (2, .ref (ad 2)), (3, .int v3), (4, .int v4)]) hx hb dL_areEqual_90 hl (k := 6) rfl rfl (by decide) rfl (fun ls hl => ?_)
              refine lv_goto (tgt := 38) hx hb dL_areEqual_93 (by decide) ?_
              exact ih _ _ _ _ _ _ h (lv_sub hl [2, 3, 4, 5, 6, 1, 0] rfl) kk
            · rw [if_neg c13] at h
              refine lv_aload_n hx hb dL_areEqual_69 rfl (lv_at hl 0 rfl) ?_
              refine lv_iload hx hb dL_areEqual_70 (lv_at hl 6 rfl) ?_
              refine cSRH S5 hK hP (As := [.ref (ad 0), .int v6]) (kL_holder l D cA ad _ _) (va_cwS 2 hts gL_areEqual_L_holder rfl rfl rfl (by decide +kernel) ⟨(Nat.le_of_ble_eq_true rfl), (Nat.le_of_ble_eq_true rfl)⟩) rfl hl.1 (st0 := _) (rest := []) rfl (Nat.le_of_ble_eq_true rfl) dL_areEqual_72 ⟨Nat.zero_le _, Nat.zero_le _⟩ ?_
              refine lv_aload_n hx hb dL_areEqual_75 rfl (lv_at hl 0 rfl) ?_
              refine lv_iload_n hx hb dL_areEqual_76 rfl (lv_at hl 3 rfl) ?_
              refine cSRH S5 hK hP (As := [.ref (ad 0), .int v3]) (kL_holder l D cA ad _ _) (va_cwS 2 hts gL_areEqual_L_holder rfl rfl rfl (by decide +kernel) ⟨(Nat.le_of_ble_eq_true rfl), (Nat.le_of_ble_eq_true rfl)⟩) rfl hl.1 (st0 := _) (rest := [.int (fL_holder v6 M)]) rfl (Nat.le_of_ble_eq_true rfl) dL_areEqual_77 ⟨Nat.zero_le _, Nat.zero_le _⟩ ?_
              refine lv_icmp_ne (tgt := 87) hx hb dL_areEqual_80 (by decide) (fun c14 => ?_) (fun c14 => ?_)
              · rw [if_neg c14] at h
                refine lv_iconst (v := 0) hx hb dL_areEqual_87 (by decide) ?_
                refine lv_istore (lv' := [(5, .int 0), (0, .ref (ad 0)), (1, .ref (ad 1)), (2, .ref (ad 2)), (3, .int v3), (4, .int v4), (6, .int v6)]) hx hb dL_areEqual_88 hl (by decide) rfl (fun ls hl => ?_)
                refine lv_iinc (v := v6 + 1) (lv' := [(6, .int (v6 + 1)), (5, .int 0), (0, .ref (ad 0)), (1, .ref (ad 1)), (2, .ref (ad 2)), (3, .int v3), (4, .int v4)]) hx hb dL_areEqual_90 hl (k := 6) rfl rfl (by decide) rfl (fun ls hl => ?_)
                refine lv_goto (tgt := 38) hx hb dL_areEqual_93 (by decide) ?_
                exact ih _ _ _ _ _ _ h (lv_sub hl [2, 3, 4, 5, 6, 1, 0] rfl) kk
              · rw [if_pos c14] at h
                refine lv_iconst (v := 1) hx hb dL_areEqual_83 (by decide) ?_
                refine lv_goto (tgt := 88) hx hb dL_areEqual_84 (by decide) ?_
                refine lv_istore (lv' := [(5, .int 1), (0, .ref (ad 0)), (1, .ref (ad 1)), (2, .ref (ad 2)), (3, .int v3), (4, .int v4), (6, .int v6)]) hx hb dL_areEqual_88 hl (by decide) rfl (fun ls hl => ?_)
                refine lv_iinc (v := v6 + 1) (lv' := [(6, .int (v6 + 1)), (5, .int 1), (0, .ref (ad 0)), (1, .ref (ad 1)), (2, .ref (ad 2)), (3, .int v3), (4, .int v4)]) hx hb dL_areEqual_90 hl (k := 6) rfl rfl (by decide) rfl (fun ls hl => ?_)
                refine lv_goto (tgt := 38) hx hb dL_areEqual_93 (by decide) ?_
                exact ih _ _ _ _ _ _ h (lv_sub hl [2, 3, 4, 5, 6, 1, 0] rfl) kk
  refine lv_iload_n hx hb dL_areEqual_0 rfl (lv_at hl 3 rfl) ?_
  refine lv_bipush (v := 6) hx hb dL_areEqual_1 (by decide) ?_
  refine r_idiv S5 dL_areEqual_3 (by decide) ?_
  refine lv_iload hx hb dL_areEqual_4 (lv_at hl 4 rfl) ?_
  refine lv_bipush (v := 6) hx hb dL_areEqual_6 (by decide) ?_
  refine r_idiv S5 dL_areEqual_8 (by decide) ?_
  refine lv_icmp_ne (tgt := 30) hx hb dL_areEqual_9 (by decide) (fun c1 => ?_) (fun c1 => ?_)
  · rw [if_neg c1] at h
    refine lv_iconst (v := 0) hx hb dL_areEqual_30 (by decide) ?_
    refine lv_istore (lv' := [(5, .int 0), (0, .ref (ad 0)), (1, .ref (ad 1)), (2, .ref (ad 2)), (3, .int p3), (4, .int p4)]) hx hb dL_areEqual_31 hl (by decide) rfl (fun ls hl => ?_)
    refine lv_iload_n hx hb dL_areEqual_33 rfl (lv_at hl 4 rfl) ?_
    refine lv_iconst (v := 1) hx hb dL_areEqual_34 (by decide) ?_
    refine lv_iadd hx hb dL_areEqual_35 ?_
    refine lv_istore (lv' := [(6, .int (p3 + 1)), (5, .int 0), (0, .ref (ad 0)), (1, .ref (ad 1)), (2, .ref (ad 2)), (3, .int p3), (4, .int p4)]) hx hb dL_areEqual_36 hl (by decide) rfl (fun ls hl => ?_)
    obtain ⟨q2, hqq2, h⟩ := obind_some h
    refine L38 _ _ _ _ _ _ _ hqq2 (lv_sub hl [2, 3, 4, 5, 6, 1, 0] rfl) (fun ls hl => ?_)
    have hl := lv_sub (l' := [(5, .int q2)]) hl [5] rfl
    refine lv_iload hx hb dL_areEqual_96 (lv_at hl 0 rfl) ?_
    obtain ⟨g3, h⟩ := gd_some h
    obtain rfl := Option.some.inj h
    exact kr _ _ _ rfl (nb (vb_or g3)) dL_areEqual_98
  · rw [if_pos c1] at h
    refine lv_aload_n hx hb dL_areEqual_12 rfl (lv_at hl 0 rfl) ?_
    refine lv_iload_n hx hb dL_areEqual_13 rfl (lv_at hl 3 rfl) ?_
    refine cSRH S5 hK hP (As := [.ref (ad 0), .int p3]) (kL_holder l D cA ad _ _) (va_cwS 2 hts gL_areEqual_L_holder rfl rfl rfl (by decide +kernel) ⟨(Nat.le_of_ble_eq_true rfl), (Nat.le_of_ble_eq_true rfl)⟩) rfl hl.1 (st0 := _) (rest := []) rfl (Nat.le_of_ble_eq_true rfl) dL_areEqual_14 ⟨Nat.zero_le _, Nat.zero_le _⟩ ?_
    refine lv_aload_n hx hb dL_areEqual_17 rfl (lv_at hl 0 rfl) ?_
    refine lv_iload hx hb dL_areEqual_18 (lv_at hl 4 rfl) ?_
    refine cSRH S5 hK hP (As := [.ref (ad 0), .int p4]) (kL_holder l D cA ad _ _) (va_cwS 2 hts gL_areEqual_L_holder rfl rfl rfl (by decide +kernel) ⟨(Nat.le_of_ble_eq_true rfl), (Nat.le_of_ble_eq_true rfl)⟩) rfl hl.1 (st0 := _) (rest := [.int (fL_holder p3 M)]) rfl (Nat.le_of_ble_eq_true rfl) dL_areEqual_20 ⟨Nat.zero_le _, Nat.zero_le _⟩ ?_
    refine lv_icmp_ne (tgt := 30) hx hb dL_areEqual_23 (by decide) (fun c4 => ?_) (fun c4 => ?_)
    · rw [if_neg c4] at h
      refine lv_iconst (v := 0) hx hb dL_areEqual_30 (by decide) ?_
      refine lv_istore (lv' := [(5, .int 0), (0, .ref (ad 0)), (1, .ref (ad 1)), (2, .ref (ad 2)), (3, .int p3), (4, .int p4)]) hx hb dL_areEqual_31 hl (by decide) rfl (fun ls hl => ?_)
      refine lv_iload_n hx hb dL_areEqual_33 rfl (lv_at hl 4 rfl) ?_
      refine lv_iconst (v := 1) hx hb dL_areEqual_34 (by decide) ?_
      refine lv_iadd hx hb dL_areEqual_35 ?_
      refine lv_istore (lv' := [(6, .int (p3 + 1)), (5, .int 0), (0, .ref (ad 0)), (1, .ref (ad 1)), (2, .ref (ad 2)), (3, .int p3), (4, .int p4)]) hx hb dL_areEqual_36 hl (by decide) rfl (fun ls hl => ?_)
      obtain ⟨q5, hqq5, h⟩ := obind_some h
      refine L38 _ _ _ _ _ _ _ hqq5 (lv_sub hl [2, 3, 4, 5, 6, 1, 0] rfl) (fun ls hl => ?_)
      have hl := lv_sub (l' := [(5, .int q5)]) hl [5] rfl
      refine lv_iload hx hb dL_areEqual_96 (lv_at hl 0 rfl) ?_
      obtain ⟨g6, h⟩ := gd_some h
      obtain rfl := Option.some.inj h
      exact kr _ _ _ rfl (nb (vb_or g6)) dL_areEqual_98
    · rw [if_pos c4] at h
      refine lv_iconst (v := 1) hx hb dL_areEqual_26 (by decide) ?_
      refine lv_goto (tgt := 31) hx hb dL_areEqual_27 (by decide) ?_
      refine lv_istore (lv' := [(5, .int 1), (0, .ref (ad 0)), (1, .ref (ad 1)), (2, .ref (ad 2)), (3, .int p3), (4, .int p4)]) hx hb dL_areEqual_31 hl (by decide) rfl (fun ls hl => ?_)
      refine lv_iload_n hx hb dL_areEqual_33 rfl (lv_at hl 4 rfl) ?_
      refine lv_iconst (v := 1) hx hb dL_areEqual_34 (by decide) ?_
      refine lv_iadd hx hb dL_areEqual_35 ?_
      refine lv_istore (lv' := [(6, .int (p3 + 1)), (5, .int 1), (0, .ref (ad 0)), (1, .ref (ad 1)), (2, .ref (ad 2)), (3, .int p3), (4, .int p4)]) hx hb dL_areEqual_36 hl (by decide) rfl (fun ls hl => ?_)
      obtain ⟨q7, hqq7, h⟩ := obind_some h
      refine L38 _ _ _ _ _ _ _ hqq7 (lv_sub hl [2, 3, 4, 5, 6, 1, 0] rfl) (fun ls hl => ?_)
      have hl := lv_sub (l' := [(5, .int q7)]) hl [5] rfl
      refine lv_iload hx hb dL_areEqual_96 (lv_at hl 0 rfl) ?_
      obtain ⟨g8, h⟩ := gd_some h
      obtain rfl := Option.some.inj h
      exact kr _ _ _ rfl (nb (vb_or g8)) dL_areEqual_98

-- L_lowest
def fL_lowest_L8 : Nat → Int32 → Int32 → Int32 → Mem → Option (Int32)
  | 0, _, _, _, _ => none
  | n + 1, v3, v4, v5, M => (if v5 < 0 then some (v4) else (if (fL_holder v5 M) = (fL_holder v3 M) then (obind (fL_areEqual v5 v3 M) (fun q4 => (if q4 = 0 then fL_lowest_L8 n v3 v4 (v5 + (-1)) M else fL_lowest_L8 n v3 v5 (v5 + (-1)) M))) else fL_lowest_L8 n v3 v4 (v5 + (-1)) M))
def fL_lowest (p3 : Int32) (M : Mem) : Option (Int32) := (obind (fL_lowest_L8 40 p3 p3 (p3 - 1) M) (fun q1 => some (q1)))
def rmL_lowest : Room := { frames := 3, cells := 0, slots := 0, locals := 68 }
set_option maxHeartbeats 4000000 in
set_option maxRecDepth 100000 in
theorem kL_lowest (l : Launch) (D : va_G) (cA : Nat) (ad : Nat → Nat) (p3 : Int32) (M : Mem) (r : Int32) (h : fL_lowest p3 M = some r) : RdH l yL_lowest wsL_lowest rmL_lowest D cA ad M [.ref (ad 0), .ref (ad 1), .ref (ad 2), .int p3] r := by
  unfold fL_lowest at h
  refine RdH.of RL rfl rfl rfl (Nat.le_of_ble_eq_true rfl) ?_
  intro p e s m args below meth c Q ls S5 hK hP hl kr
  obtain ⟨hx, hb, -, -, hts⟩ := id S5
  have L8 : ∀ (n : Nat) (v3 : Int32) (v4 : Int32) (v5 : Int32) (r' : Int32) (ls : Array Slot), fL_lowest_L8 n v3 v4 v5 M = some r' → lv_has ls 6 [(0, .ref (ad 0)), (1, .ref (ad 1)), (2, .ref (ad 2)), (3, .int v3), (4, .int v4), (5, .int v5)] → (∀ (ls : Array Slot), lv_has ls 6 [(0, .ref (ad 0)), (1, .ref (ad 1)), (2, .ref (ad 2)), (3, .int v3), (4, .int (r'))] → W p l e rmL_lowest s m args below meth c s.heap [] 0 0 Q (F0 m 54 ls [])) → W p l e rmL_lowest s m args below meth c s.heap [] 0 0 Q (F0 m 8 ls []) := by
    intro n
    induction n with
    | zero => intro v3 v4 v5 r' ls h hl kk; rw [fL_lowest_L8.eq_1] at h; cases h
    | succ n ih =>
      intro v3 v4 v5 r' ls h hl kk
      rw [fL_lowest_L8.eq_2] at h
      refine lv_iload hx hb dL_lowest_8 (lv_at hl 5 rfl) ?_
      refine lv_if_lt (tgt := 54) hx hb dL_lowest_10 (by decide) (fun c2 => ?_) (fun c2 => ?_)
      · rw [if_pos c2] at h
        obtain rfl := Option.some.inj h
        exact kk _ (lv_sub hl [0, 1, 2, 3, 4] rfl)
      · rw [if_neg c2] at h
        refine lv_aload_n hx hb dL_lowest_13 rfl (lv_at hl 0 rfl) ?_
        refine lv_iload hx hb dL_lowest_14 (lv_at hl 5 rfl) ?_
        refine cSRH S5 hK hP (As := [.ref (ad 0), .int v5]) (kL_holder l D cA ad _ _) (va_cwS 2 hts gL_lowest_L_holder rfl rfl rfl (by decide +kernel) ⟨(Nat.le_of_ble_eq_true rfl), (Nat.le_of_ble_eq_true rfl)⟩) rfl hl.1 (st0 := _) (rest := []) rfl (Nat.le_of_ble_eq_true rfl) dL_lowest_16 ⟨Nat.zero_le _, Nat.zero_le _⟩ ?_
        refine lv_aload_n hx hb dL_lowest_19 rfl (lv_at hl 0 rfl) ?_
        refine lv_iload_n hx hb dL_lowest_20 rfl (lv_at hl 3 rfl) ?_
        refine cSRH S5 hK hP (As := [.ref (ad 0), .int v3]) (kL_holder l D cA ad _ _) (va_cwS 2 hts gL_lowest_L_holder rfl rfl rfl (by decide +kernel) ⟨(Nat.le_of_ble_eq_true rfl), (Nat.le_of_ble_eq_true rfl)⟩) rfl hl.1 (st0 := _) (rest := [.int (fL_holder v5 M)]) rfl (Nat.le_of_ble_eq_true rfl) dL_lowest_21 ⟨Nat.zero_le _, Nat.zero_le _⟩ ?_
        refine lv_icmp_ne (tgt := 44) hx hb dL_lowest_24 (by decide) (fun c3 => ?_) (fun c3 => ?_)
        · rw [if_neg c3] at h
          refine lv_iload hx hb dL_lowest_44 (lv_at hl 4 rfl) ?_
          refine lv_istore (lv' := [(4, .int v4), (0, .ref (ad 0)), (1, .ref (ad 1)), (2, .ref (ad 2)), (3, .int v3), (5, .int v5)]) hx hb dL_lowest_46 hl (by decide) rfl (fun ls hl => ?_)
          refine lv_iinc (v := v5 + (-1)) (lv' := [(5, .int (v5 + (-1))), (4, .int v4), (0, .ref (ad 0)), (1, .ref (ad 1)), (2, .ref (ad 2)), (3, .int v3)]) hx hb dL_lowest_48 hl (k := 5) rfl rfl (by decide) rfl (fun ls hl => ?_)
          refine lv_goto (tgt := 8) hx hb dL_lowest_51 (by decide) ?_
          exact ih _ _ _ _ _ h (lv_sub hl [2, 3, 4, 5, 1, 0] rfl) kk
        · rw [if_pos c3] at h
          refine lv_aload_n hx hb dL_lowest_27 rfl (lv_at hl 0 rfl) ?_
          refine lv_aload_n hx hb dL_lowest_28 rfl (lv_at hl 1 rfl) ?_
          refine lv_aload_n hx hb dL_lowest_29 rfl (lv_at hl 2 rfl) ?_
          refine lv_iload hx hb dL_lowest_30 (lv_at hl 5 rfl) ?_
          refine lv_iload_n hx hb dL_lowest_32 rfl (lv_at hl 3 rfl) ?_
          obtain ⟨q4, hqq4, h⟩ := obind_some h
          refine cSRH S5 hK hP (As := [.ref (ad 0), .ref (ad 1), .ref (ad 2), .int v5, .int v3]) (kL_areEqual l D cA ad _ _ _ _ hqq4) (va_cwS 5 hts gL_lowest_L_areEqual rfl rfl rfl (by decide +kernel) ⟨(Nat.le_of_ble_eq_true rfl), (Nat.le_of_ble_eq_true rfl)⟩) rfl hl.1 (st0 := _) (rest := []) rfl (Nat.le_of_ble_eq_true rfl) dL_lowest_33 ⟨Nat.zero_le _, Nat.zero_le _⟩ ?_
          refine lv_if_eq (tgt := 44) hx hb dL_lowest_36 (by decide) (fun c5 => ?_) (fun c5 => ?_)
          · rw [if_pos c5] at h
            refine lv_iload hx hb dL_lowest_44 (lv_at hl 4 rfl) ?_
            refine lv_istore (lv' := [(4, .int v4), (0, .ref (ad 0)), (1, .ref (ad 1)), (2, .ref (ad 2)), (3, .int v3), (5, .int v5)]) hx hb dL_lowest_46 hl (by decide) rfl (fun ls hl => ?_)
            refine lv_iinc (v := v5 + (-1)) (lv' := [(5, .int (v5 + (-1))), (4, .int v4), (0, .ref (ad 0)), (1, .ref (ad 1)), (2, .ref (ad 2)), (3, .int v3)]) hx hb dL_lowest_48 hl (k := 5) rfl rfl (by decide) rfl (fun ls hl => ?_)
            refine lv_goto (tgt := 8) hx hb dL_lowest_51 (by decide) ?_
            exact ih _ _ _ _ _ h (lv_sub hl [2, 3, 4, 5, 1, 0] rfl) kk
          · rw [if_neg c5] at h
            refine lv_iload hx hb dL_lowest_39 (lv_at hl 5 rfl) ?_
            refine lv_goto (tgt := 46) hx hb dL_lowest_41 (by decide) ?_
            refine lv_istore (lv' := [(4, .int v5), (0, .ref (ad 0)), (1, .ref (ad 1)), (2, .ref (ad 2)), (3, .int v3), (5, .int v5)]) hx hb dL_lowest_46 hl (by decide) rfl (fun ls hl => ?_)
            refine lv_iinc (v := v5 + (-1)) (lv' := [(5, .int (v5 + (-1))), (4, .int v5), (0, .ref (ad 0)), (1, .ref (ad 1)), (2, .ref (ad 2)), (3, .int v3)]) hx hb dL_lowest_48 hl (k := 5) rfl rfl (by decide) rfl (fun ls hl => ?_)
            refine lv_goto (tgt := 8) hx hb dL_lowest_51 (by decide) ?_
            exact ih _ _ _ _ _ h (lv_sub hl [2, 3, 4, 5, 1, 0] rfl) kk
  refine lv_iload_n hx hb dL_lowest_0 rfl (lv_at hl 3 rfl) ?_
  refine lv_istore (lv' := [(4, .int p3), (0, .ref (ad 0)), (1, .ref (ad 1)), (2, .ref (ad 2)), (3, .int p3)]) hx hb dL_lowest_1 hl (by decide) rfl (fun ls hl => ?_)
  refine lv_iload_n hx hb dL_lowest_3 rfl (lv_at hl 4 rfl) ?_
  refine lv_iconst (v := 1) hx hb dL_lowest_4 (by decide) ?_
  refine lv_isub hx hb dL_lowest_5 ?_
  refine lv_istore (lv' := [(5, .int (p3 - 1)), (4, .int p3), (0, .ref (ad 0)), (1, .ref (ad 1)), (2, .ref (ad 2)), (3, .int p3)]) hx hb dL_lowest_6 hl (by decide) rfl (fun ls hl => ?_)
  obtain ⟨q1, hqq1, h⟩ := obind_some h
  refine L8 _ _ _ _ _ _ hqq1 (lv_sub hl [2, 3, 4, 5, 1, 0] rfl) (fun ls hl => ?_)
  have hl := lv_sub (l' := [(4, .int q1)]) hl [4] rfl
  refine lv_iload hx hb dL_lowest_54 (lv_at hl 0 rfl) ?_
  obtain rfl := Option.some.inj h
  exact kr _ _ _ rfl rfl dL_lowest_56

-- L_isTop
def fL_isTop_L8 : Nat → Int32 → Int32 → Int32 → Mem → Option (Int32)
  | 0, _, _, _, _ => none
  | n + 1, v3, v4, v5, M => (if 24 ≤ v5 then some (v4) else (if (v5 / 6) = (v3 / 6) then (if v4 = 0 then fL_isTop_L8 n v3 0 (v5 + 1) M else (obind (fL_isOnTable v5 M) (fun q6 => (if q6 = 0 then (if (fL_holder v5 M) < 0 then fL_isTop_L8 n v3 1 (v5 + 1) M else (if (fL_holder v5 M) = (fL_holder v3 M) then fL_isTop_L8 n v3 1 (v5 + 1) M else fL_isTop_L8 n v3 0 (v5 + 1) M)) else fL_isTop_L8 n v3 0 (v5 + 1) M)))) else some (v4)))
def fL_isTop (p3 : Int32) (M : Mem) : Option (Int32) := (obind (fL_isTop_L8 40 p3 1 (p3 + 1) M) (fun q1 => (if vb q1 = true then some (q1) else none)))
def rmL_isTop : Room := { frames := 2, cells := 0, slots := 0, locals := 42 }
set_option maxHeartbeats 4000000 in
set_option maxRecDepth 100000 in
theorem kL_isTop (l : Launch) (D : va_G) (cA : Nat) (ad : Nat → Nat) (p3 : Int32) (M : Mem) (r : Int32) (h : fL_isTop p3 M = some r) : RdH l yL_isTop wsL_isTop rmL_isTop D cA ad M [.ref (ad 0), .ref (ad 1), .ref (ad 2), .int p3] r := by
  unfold fL_isTop at h
  refine RdH.of RL rfl rfl rfl (Nat.le_of_ble_eq_true rfl) ?_
  intro p e s m args below meth c Q ls S5 hK hP hl kr
  obtain ⟨hx, hb, -, -, hts⟩ := id S5
  have L8 : ∀ (n : Nat) (v3 : Int32) (v4 : Int32) (v5 : Int32) (r' : Int32) (ls : Array Slot), fL_isTop_L8 n v3 v4 v5 M = some r' → lv_has ls 6 [(0, .ref (ad 0)), (1, .ref (ad 1)), (2, .ref (ad 2)), (3, .int v3), (4, .int v4), (5, .int v5)] → (∀ (ls : Array Slot), lv_has ls 6 [(0, .ref (ad 0)), (1, .ref (ad 1)), (2, .ref (ad 2)), (3, .int v3), (4, .int (r'))] → W p l e rmL_isTop s m args below meth c s.heap [] 0 0 Q (F0 m 78 ls [])) → W p l e rmL_isTop s m args below meth c s.heap [] 0 0 Q (F0 m 8 ls []) := by
    intro n
    induction n with
    | zero => intro v3 v4 v5 r' ls h hl kk; rw [fL_isTop_L8.eq_1] at h; cases h
    | succ n ih =>
      intro v3 v4 v5 r' ls h hl kk
      rw [fL_isTop_L8.eq_2] at h
      refine lv_iload hx hb dL_isTop_8 (lv_at hl 5 rfl) ?_
      refine lv_bipush (v := 24) hx hb dL_isTop_10 (by decide) ?_
      refine lv_icmp_ge (tgt := 78) hx hb dL_isTop_12 (by decide) (fun c3 => ?_) (fun c3 => ?_)
      · rw [if_pos c3] at h
        obtain rfl := Option.some.inj h
        exact kk _ (lv_sub hl [0, 1, 2, 3, 4] rfl)
      · rw [if_neg c3] at h
        refine lv_iload hx hb dL_isTop_15 (lv_at hl 5 rfl) ?_
        refine lv_bipush (v := 6) hx hb dL_isTop_17 (by decide) ?_
        refine r_idiv S5 dL_isTop_19 (by decide) ?_
        refine lv_iload_n hx hb dL_isTop_20 rfl (lv_at hl 3 rfl) ?_
        refine lv_bipush (v := 6) hx hb dL_isTop_21 (by decide) ?_
        refine r_idiv S5 dL_isTop_23 (by decide) ?_
        refine lv_icmp_ne (tgt := 78) hx hb dL_isTop_24 (by decide) (fun c4 => ?_) (fun c4 => ?_)
        · rw [if_neg c4] at h
          obtain rfl := Option.some.inj h
          exact kk _ (lv_sub hl [0, 1, 2, 3, 4] rfl)
        · rw [if_pos c4] at h
          refine lv_iload hx hb dL_isTop_27 (lv_at hl 4 rfl) ?_
          refine lv_if_eq (tgt := 69) hx hb dL_isTop_29 (by decide) (fun c5 => ?_) (fun c5 => ?_)
          · rw [if_pos c5] at h
            refine lv_iconst (v := 0) hx hb dL_isTop_69 (by decide) ?_
            refine lv_istore (lv' := [(4, .int 0), (0, .ref (ad 0)), (1, .ref (ad 1)), (2, .ref (ad 2)), (3, .int v3), (5, .int v5)]) hx hb dL_isTop_70 hl (by decide) rfl (fun ls hl => ?_)
            refine lv_iinc (v := v5 + 1) (lv' := [(5, .int (v5 + 1)), (4, .int 0), (0, .ref (ad 0)), (1, .ref (ad 1)), (2, .ref (ad 2)), (3, .int v3)]) hx hb dL_isTop_72 hl (k := 5) rfl rfl (by decide) rfl (fun ls hl => ?_)
            refine lv_goto (tgt := 8) hx hb dL_isTop_75 (by decide) ?_
            exact ih _ _ _ _ _ h (lv_sub hl [2, 3, 4, 5, 1, 0] rfl) kk
          · rw [if_neg c5] at h
            refine lv_aload_n hx hb dL_isTop_32 rfl (lv_at hl 1 rfl) ?_
            refine lv_aload_n hx hb dL_isTop_33 rfl (lv_at hl 2 rfl) ?_
            refine lv_iload hx hb dL_isTop_34 (lv_at hl 5 rfl) ?_
            obtain ⟨q6, hqq6, h⟩ := obind_some h
            refine cSRH S5 hK hP (As := [.ref (ad 1), .ref (ad 2), .int v5]) (kL_isOnTable l D cA ad _ _ _ hqq6) (va_cwS 3 hts gL_isTop_L_isOnTable rfl rfl rfl (by decide +kernel) ⟨(Nat.le_of_ble_eq_true rfl), (Nat.le_of_ble_eq_true rfl)⟩) rfl hl.1 (st0 := _) (rest := []) rfl (Nat.le_of_ble_eq_true rfl) dL_isTop_36 ⟨Nat.zero_le _, Nat.zero_le _⟩ ?_
            refine lv_if_ne (tgt := 69) hx hb dL_isTop_39 (by decide) (fun c7 => ?_) (fun c7 => ?_)
            · rw [if_neg c7] at h
              refine lv_iconst (v := 0) hx hb dL_isTop_69 (by decide) ?_
              refine lv_istore (lv' := [(4, .int 0), (0, .ref (ad 0)), (1, .ref (ad 1)), (2, .ref (ad 2)), (3, .int v3), (5, .int v5)]) hx hb dL_isTop_70 hl (by decide) rfl (fun ls hl => ?_)
              refine lv_iinc (v := v5 + 1) (lv' := [(5, .int (v5 + 1)), (4, .int 0), (0, .ref (ad 0)), (1, .ref (ad 1)), (2, .ref (ad 2)), (3, .int v3)]) hx hb dL_isTop_72 hl (k := 5) rfl rfl (by decide) rfl (fun ls hl => ?_)
              refine lv_goto (tgt := 8) hx hb dL_isTop_75 (by decide) ?_
              exact ih _ _ _ _ _ h (lv_sub hl [2, 3, 4, 5, 1, 0] rfl) kk
            · rw [if_pos c7] at h
              refine lv_aload_n hx hb dL_isTop_42 rfl (lv_at hl 0 rfl) ?_
              refine lv_iload hx hb dL_isTop_43 (lv_at hl 5 rfl) ?_
              refine cSRH S5 hK hP (As := [.ref (ad 0), .int v5]) (kL_holder l D cA ad _ _) (va_cwS 2 hts gL_isTop_L_holder rfl rfl rfl (by decide +kernel) ⟨(Nat.le_of_ble_eq_true rfl), (Nat.le_of_ble_eq_true rfl)⟩) rfl hl.1 (st0 := _) (rest := []) rfl (Nat.le_of_ble_eq_true rfl) dL_isTop_45 ⟨Nat.zero_le _, Nat.zero_le _⟩ ?_
              refine lv_if_lt (tgt := 65) hx hb dL_isTop_48 (by decide) (fun c8 => ?_) (fun c8 => ?_)
              · rw [if_pos c8] at h
                refine lv_iconst (v := 1) hx hb dL_isTop_65 (by decide) ?_
                refine lv_goto (tgt := 70) hx hb dL_isTop_66 (by decide) ?_
                refine lv_istore (lv' := [(4, .int 1), (0, .ref (ad 0)), (1, .ref (ad 1)), (2, .ref (ad 2)), (3, .int v3), (5, .int v5)]) hx hb dL_isTop_70 hl (by decide) rfl (fun ls hl => ?_)
                refine lv_iinc (v := v5 + 1) (lv' := [(5, .int (v5 + 1)), (4, .int 1), (0, .ref (ad 0)), (1, .ref (ad 1)), (2, .ref (ad 2)), (3, .int v3)]) hx hb dL_isTop_72 hl (k := 5) rfl rfl (by decide) rfl (fun ls hl => ?_)
                refine lv_goto (tgt := 8) hx hb dL_isTop_75 (by decide) ?_
                exact ih _ _ _ _ _ h (lv_sub hl [2, 3, 4, 5, 1, 0] rfl) kk
              · rw [if_neg c8] at h
                refine lv_aload_n hx hb dL_isTop_51 rfl (lv_at hl 0 rfl) ?_
                refine lv_iload hx hb dL_isTop_52 (lv_at hl 5 rfl) ?_
                refine cSRH S5 hK hP (As := [.ref (ad 0), .int v5]) (kL_holder l D cA ad _ _) (va_cwS 2 hts gL_isTop_L_holder rfl rfl rfl (by decide +kernel) ⟨(Nat.le_of_ble_eq_true rfl), (Nat.le_of_ble_eq_true rfl)⟩) rfl hl.1 (st0 := _) (rest := []) rfl (Nat.le_of_ble_eq_true rfl) dL_isTop_54 ⟨Nat.zero_le _, Nat.zero_le _⟩ ?_
                refine lv_aload_n hx hb dL_isTop_57 rfl (lv_at hl 0 rfl) ?_
                refine lv_iload_n hx hb dL_isTop_58 rfl (lv_at hl 3 rfl) ?_
                refine cSRH S5 hK hP (As := [.ref (ad 0), .int v3]) (kL_holder l D cA ad _ _) (va_cwS 2 hts gL_isTop_L_holder rfl rfl rfl (by decide +kernel) ⟨(Nat.le_of_ble_eq_true rfl), (Nat.le_of_ble_eq_true rfl)⟩) rfl hl.1 (st0 := _) (rest := [.int (fL_holder v5 M)]) rfl (Nat.le_of_ble_eq_true rfl) dL_isTop_59 ⟨Nat.zero_le _, Nat.zero_le _⟩ ?_
                refine lv_icmp_ne (tgt := 69) hx hb dL_isTop_62 (by decide) (fun c9 => ?_) (fun c9 => ?_)
                · rw [if_neg c9] at h
                  refine lv_iconst (v := 0) hx hb dL_isTop_69 (by decide) ?_
                  refine lv_istore (lv' := [(4, .int 0), (0, .ref (ad 0)), (1, .ref (ad 1)), (2, .ref (ad 2)), (3, .int v3), (5, .int v5)]) hx hb dL_isTop_70 hl (by decide) rfl (fun ls hl => ?_)
                  refine lv_iinc (v := v5 + 1) (lv' := [(5, .int (v5 + 1)), (4, .int 0), (0, .ref (ad 0)), (1, .ref (ad 1)), (2, .ref (ad 2)), (3, .int v3)]) hx hb dL_isTop_72 hl (k := 5) rfl rfl (by decide) rfl (fun ls hl => ?_)
                  refine lv_goto (tgt := 8) hx hb dL_isTop_75 (by decide) ?_
                  exact ih _ _ _ _ _ h (lv_sub hl [2, 3, 4, 5, 1, 0] rfl) kk
                · rw [if_pos c9] at h
                  refine lv_iconst (v := 1) hx hb dL_isTop_65 (by decide) ?_
                  refine lv_goto (tgt := 70) hx hb dL_isTop_66 (by decide) ?_
                  refine lv_istore (lv' := [(4, .int 1), (0, .ref (ad 0)), (1, .ref (ad 1)), (2, .ref (ad 2)), (3, .int v3), (5, .int v5)]) hx hb dL_isTop_70 hl (by decide) rfl (fun ls hl => ?_)
                  refine lv_iinc (v := v5 + 1) (lv' := [(5, .int (v5 + 1)), (4, .int 1), (0, .ref (ad 0)), (1, .ref (ad 1)), (2, .ref (ad 2)), (3, .int v3)]) hx hb dL_isTop_72 hl (k := 5) rfl rfl (by decide) rfl (fun ls hl => ?_)
                  refine lv_goto (tgt := 8) hx hb dL_isTop_75 (by decide) ?_
                  exact ih _ _ _ _ _ h (lv_sub hl [2, 3, 4, 5, 1, 0] rfl) kk
  refine lv_iconst (v := 1) hx hb dL_isTop_0 (by decide) ?_
  refine lv_istore (lv' := [(4, .int 1), (0, .ref (ad 0)), (1, .ref (ad 1)), (2, .ref (ad 2)), (3, .int p3)]) hx hb dL_isTop_1 hl (by decide) rfl (fun ls hl => ?_)
  refine lv_iload_n hx hb dL_isTop_3 rfl (lv_at hl 4 rfl) ?_
  refine lv_iconst (v := 1) hx hb dL_isTop_4 (by decide) ?_
  refine lv_iadd hx hb dL_isTop_5 ?_
  refine lv_istore (lv' := [(5, .int (p3 + 1)), (4, .int 1), (0, .ref (ad 0)), (1, .ref (ad 1)), (2, .ref (ad 2)), (3, .int p3)]) hx hb dL_isTop_6 hl (by decide) rfl (fun ls hl => ?_)
  obtain ⟨q1, hqq1, h⟩ := obind_some h
  refine L8 _ _ _ _ _ _ hqq1 (lv_sub hl [2, 3, 4, 5, 1, 0] rfl) (fun ls hl => ?_)
  have hl := lv_sub (l' := [(4, .int q1)]) hl [4] rfl
  refine lv_iload hx hb dL_isTop_78 (lv_at hl 0 rfl) ?_
  obtain ⟨g2, h⟩ := gd_some h
  obtain rfl := Option.some.inj h
  exact kr _ _ _ rfl (nb (vb_or g2)) dL_isTop_80
