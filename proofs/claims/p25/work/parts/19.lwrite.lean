def mzB (M : Mem) : Mem := fun a => cond (Nat.beq a 3) (fun _ => 0) (cond (Nat.beq a 4) (fun _ => 0) (M a))
def mzF (M : Mem) : Mem := fun a => cond (Nat.beq a 3) (fun _ => 0) (M a)
-- L_best
def fL_best_R62 (v3 : Int32) (v4 : Int32) (v7 : Int32) (M : Mem) : Option (Int32) := (if v7 = v4 then some (24) else (if vin v7 17 = true then some (M 3 v7.toNatClampNeg) else none))
def fL_best_R287 (v3 : Int32) (v4 : Int32) (v7 : Int32) (v9 : Int32) (v11 : Int32) (M : Mem) : Option (Mem) := (if v11 = 0 then (if vin v7 17 = true then (if vin v7 17 = true then some ((mset M 4 v7.toNatClampNeg (M 4 v7.toNatClampNeg))) else none) else none) else (if vin v7 17 = true then some ((mset M 4 v7.toNatClampNeg v9)) else none))
def fL_best_L81 : Nat → Int32 → Int32 → Int32 → Int32 → Mem → Option (Int32)
  | 0, _, _, _, _, _ => none
  | n + 1, v3, v4, v7, v8, M => (if 24 ≤ v8 then some (v8) else (obind (fL_can v7 v8 M) (fun q29 => (if q29 = 0 then fL_best_L81 n v3 v4 v7 (v8 + 1) M else some (v8)))))
def fL_best_R176 (v3 : Int32) (v4 : Int32) (v7 : Int32) (M : Mem) : Option (Int32) := (if v7 = v4 then (obind (fL_tricks v4 0 M) (fun q33 => some (q33))) else (if vin v7 17 = true then some (M 4 v7.toNatClampNeg) else none))
def fL_best_R242 (v3 : Int32) (v4 : Int32) (v7 : Int32) (v9 : Int32) (v10 : Int32) (M : Mem) : Option (Int32) := (if vin v7 17 = true then (if (M 4 v7.toNatClampNeg) < 0 then some (1) else (if (im v10 2) = 0 then (if vin v7 17 = true then (if v9 ≤ (M 4 v7.toNatClampNeg) then some (0) else some (1)) else none) else (if vin v7 17 = true then (if (M 4 v7.toNatClampNeg) ≤ v9 then some (0) else some (1)) else none))) else none)
def fL_best_L62 : Nat → Int32 → Int32 → Int32 → Mem → Option (Int32 × Mem)
  | 0, _, _, _, _ => none
  | n + 1, v3, v4, v7, M => (obind (fL_best_R62 v3 v4 v7 M) (fun q8 => (obind (fL_best_L81 40 v3 v4 v7 q8 M) (fun q9 => (if 24 ≤ q9 then (obind (fL_best_R176 v3 v4 v7 M) (fun q11 => (if v7 = v3 then some (q11, M) else (obind (fL_leader (v7 + (-1)) M) (fun q13 => (if vin (im (q13 + (im (v7 + (-1)) 4)) 4) 4 = true then (if vin (v7 + (-1)) 16 = true then (if vin (im (q13 + (im (v7 + (-1)) 4)) 4) 4 = true then (obind (fL_best_R242 v3 v4 (v7 + (-1)) q11 (im (q13 + (im (v7 + (-1)) 4)) 4) ((mset M 0 ((im (q13 + (im (v7 + (-1)) 4)) 4).toNatClampNeg) ((M 0 ((im (q13 + (im (v7 + (-1)) 4)) 4).toNatClampNeg)) ||| (sl 1 (M 1 ((v7 + (-1)).toNatClampNeg))))))) (fun q17 => (obind (fL_best_R287 v3 v4 (v7 + (-1)) q11 q17 ((mset M 0 ((im (q13 + (im (v7 + (-1)) 4)) 4).toNatClampNeg) ((M 0 ((im (q13 + (im (v7 + (-1)) 4)) 4).toNatClampNeg)) ||| (sl 1 (M 1 ((v7 + (-1)).toNatClampNeg))))))) (fun q18 => fL_best_L62 n v3 v4 (v7 + (-1)) q18)))) else none) else none) else none)))))) else (obind (fL_leader v7 M) (fun q19 => (if vin (im (q19 + (im v7 4)) 4) 4 = true then (if vin (im (q19 + (im v7 4)) 4) 4 = true then (if vin v7 16 = true then (if vin v7 17 = true then (if vin (v7 + 1) 17 = true then (if vin (v7 + 1) 17 = true then fL_best_L62 n v3 v4 (v7 + 1) ((mset (mset (mset (mset (mset M 0 ((im (q19 + (im v7 4)) 4).toNatClampNeg) ((M 0 ((im (q19 + (im v7 4)) 4).toNatClampNeg)) &&& ((sl 1 q9) ^^^ ((-1))))) 1 v7.toNatClampNeg q9) 3 v7.toNatClampNeg (q9 + 1)) 3 ((v7 + 1).toNatClampNeg) 0) 4 ((v7 + 1).toNatClampNeg) ((-1)))) else none) else none) else none) else none) else none) else none))))))))
def fL_best (M : Mem) : Option (Int32 × Mem) := (obind (fL_size (M 0 0)) (fun q1 => (obind (fL_size (M 0 1)) (fun q2 => (obind (fL_size (M 0 2)) (fun q3 => (obind (fL_size (M 0 3)) (fun q4 => (if vin (M 2 0) 17 = true then (if vin (M 2 0) 17 = true then (obind (fL_best_L62 100000000000000000000 (M 2 0) (((((M 2 0) + q1) + q2) + q3) + q4) (M 2 0) ((mset (mset (mzB M) 3 ((M 2 0).toNatClampNeg) 0) 4 ((M 2 0).toNatClampNeg) ((-1))))) (fun q7 => some (q7.1, q7.2))) else none) else none)))))))))
def rmL_best : Room := { frames := 2, cells := 2, slots := 34, locals := 54 }
set_option maxHeartbeats 8000000 in
set_option maxRecDepth 100000 in
theorem kL_best (l : Launch) (D : va_G) (cA : Nat) (ad : Nat → Nat) (M : Mem) (r : Int32 × Mem) (h : fL_best M = some r) : WiH l yL_best wsL_best rmL_best D cA ad M [.ref (ad 0), .ref (ad 1), .ref (ad 2)] 2 34 r := by
  unfold fL_best at h
  refine WiH.of RL rfl rfl rfl (Nat.le_of_ble_eq_true rfl) ?_
  intro p e s m args below meth c Q ls A eA S5 hK hP hD hS hl kr
  have hA0 : ∀ q : Nat, s.heap.size ≤ q → A q := fun q h => by rw [eA]; exact Or.inr h
  have hK0 : va_K D vwCl [] s := ⟨hK.1, fun k q h => by simp at h⟩
  obtain ⟨hx, hb, -, -, hts⟩ := id S5
  refine lv_aload_n hx hb dL_best_0 rfl (lv_at hl 2 rfl) ?_
  refine lv_iconst (v := 0) hx hb dL_best_1 (by decide) ?_
  refine alH2 S5 hK hP (v := M 2 0) (by decide) rfl dL_best_2 ?_
  refine lv_istore_n (lv' := [(3, .int (M 2 0)), (0, .ref (ad 0)), (1, .ref (ad 1)), (2, .ref (ad 2))]) hx hb dL_best_3 rfl hl (by decide) rfl (fun ls hl => ?_)
  refine lv_iload_n hx hb dL_best_4 rfl (lv_at hl 0 rfl) ?_
  refine lv_aload_n hx hb dL_best_5 rfl (lv_at hl 1 rfl) ?_
  refine lv_iconst (v := 0) hx hb dL_best_6 (by decide) ?_
  refine alH0 S5 hK hP (v := M 0 0) (by decide) rfl dL_best_7 ?_
  obtain ⟨q1, hqq1, h⟩ := obind_some h
  refine cS S5 (As := [.int (M 0 0)]) (kL_size l _ _ hqq1) (va_cwS 1 hts gL_best_L_size rfl rfl rfl (by decide +kernel) ⟨(Nat.le_of_ble_eq_true rfl), (Nat.le_of_ble_eq_true rfl)⟩) rfl hl.1 (st0 := _) (rest := [.int (M 2 0)]) rfl (Nat.le_of_ble_eq_true rfl) dL_best_8 ⟨(by show _ ≤ 2; omega), (by show _ ≤ 34; omega)⟩ ?_
  refine lv_iadd hx hb dL_best_11 ?_
  refine lv_aload_n hx hb dL_best_12 rfl (lv_at hl 1 rfl) ?_
  refine lv_iconst (v := 1) hx hb dL_best_13 (by decide) ?_
  refine alH0 S5 hK hP (v := M 0 1) (by decide) rfl dL_best_14 ?_
  obtain ⟨q2, hqq2, h⟩ := obind_some h
  refine cS S5 (As := [.int (M 0 1)]) (kL_size l _ _ hqq2) (va_cwS 1 hts gL_best_L_size rfl rfl rfl (by decide +kernel) ⟨(Nat.le_of_ble_eq_true rfl), (Nat.le_of_ble_eq_true rfl)⟩) rfl hl.1 (st0 := _) (rest := [.int ((M 2 0) + q1)]) rfl (Nat.le_of_ble_eq_true rfl) dL_best_15 ⟨(by show _ ≤ 2; omega), (by show _ ≤ 34; omega)⟩ ?_
  refine lv_iadd hx hb dL_best_18 ?_
  refine lv_aload_n hx hb dL_best_19 rfl (lv_at hl 1 rfl) ?_
  refine lv_iconst (v := 2) hx hb dL_best_20 (by decide) ?_
  refine alH0 S5 hK hP (v := M 0 2) (by decide) rfl dL_best_21 ?_
  obtain ⟨q3, hqq3, h⟩ := obind_some h
  refine cS S5 (As := [.int (M 0 2)]) (kL_size l _ _ hqq3) (va_cwS 1 hts gL_best_L_size rfl rfl rfl (by decide +kernel) ⟨(Nat.le_of_ble_eq_true rfl), (Nat.le_of_ble_eq_true rfl)⟩) rfl hl.1 (st0 := _) (rest := [.int (((M 2 0) + q1) + q2)]) rfl (Nat.le_of_ble_eq_true rfl) dL_best_22 ⟨(by show _ ≤ 2; omega), (by show _ ≤ 34; omega)⟩ ?_
  refine lv_iadd hx hb dL_best_25 ?_
  refine lv_aload_n hx hb dL_best_26 rfl (lv_at hl 1 rfl) ?_
  refine lv_iconst (v := 3) hx hb dL_best_27 (by decide) ?_
  refine alH0 S5 hK hP (v := M 0 3) (by decide) rfl dL_best_28 ?_
  obtain ⟨q4, hqq4, h⟩ := obind_some h
  refine cS S5 (As := [.int (M 0 3)]) (kL_size l _ _ hqq4) (va_cwS 1 hts gL_best_L_size rfl rfl rfl (by decide +kernel) ⟨(Nat.le_of_ble_eq_true rfl), (Nat.le_of_ble_eq_true rfl)⟩) rfl hl.1 (st0 := _) (rest := [.int ((((M 2 0) + q1) + q2) + q3)]) rfl (Nat.le_of_ble_eq_true rfl) dL_best_29 ⟨(by show _ ≤ 2; omega), (by show _ ≤ 34; omega)⟩ ?_
  refine lv_iadd hx hb dL_best_32 ?_
  refine lv_istore (lv' := [(4, .int (((((M 2 0) + q1) + q2) + q3) + q4)), (3, .int (M 2 0)), (0, .ref (ad 0)), (1, .ref (ad 1)), (2, .ref (ad 2))]) hx hb dL_best_33 hl (by decide) rfl (fun ls hl => ?_)
  refine lv_bipush (v := 17) hx hb dL_best_35 (by decide) ?_
  refine va_newa (atype := .int) (ty := .int) (a0 := (17, .inl (fun _ => 0))) hx hb (hts _ (List.mem_of_getElem? (i := 1) rfl)) rfl hK0 hP (hD M) hS hA0 (fun _ => rfl) (by decide) (by decide +kernel) (Nat.le_of_ble_eq_true rfl) (Nat.le_of_ble_eq_true rfl) (Nat.le_of_ble_eq_true rfl) dL_best_37 (fun o3 c9 H hK9 hP hD1 hS => ?_)
  obtain rfl := K_one hK (K_int hK9)
  refine lv_astore (lv' := [(5, .ref o3), (4, .int (((((M 2 0) + q1) + q2) + q3) + q4)), (3, .int (M 2 0)), (0, .ref (ad 0)), (1, .ref (ad 1)), (2, .ref (ad 2))]) hx hb dL_best_39 hl (by decide) rfl (fun ls hl => ?_)
  refine lv_bipush (v := 17) hx hb dL_best_41 (by decide) ?_
  refine va_newa (atype := .int) (ty := .int) (a0 := (17, .inl (fun _ => 0))) hx hb (hts _ (List.mem_of_getElem? (i := 1) rfl)) rfl hK0 hP hD1 hS hA0 (fun _ => rfl) (by decide) (by decide +kernel) (Nat.le_of_ble_eq_true rfl) (Nat.le_of_ble_eq_true rfl) (Nat.le_of_ble_eq_true rfl) dL_best_43 (fun o4 c9 H hK9 hP hD1 hS => ?_)
  obtain rfl := K_one hK (K_int hK9)
  have hP : va_P D vwCl (wB cA ad o3 o4 (mzB M)) H := hP
  have hD : ∀ M : Mem, va_D A (wB cA ad o3 o4 M) := fun M' => va_D.same hD1 rfl
  have R62 : ∀ (v3 : Int32) (v4 : Int32) (v7 : Int32) (M : Mem) (r' : Int32) (H : Heap) (locs : List Loc) (ls : Array Slot) (cells slots : Nat), fL_best_R62 v3 v4 v7 M = some r' → va_P D vwCl (wB cA ad o3 o4 M) H → va_S A s.heap H locs → cells + 0 ≤ 2 → slots + 0 ≤ 34 → lv_has ls 12 [(0, .ref (ad 0)), (1, .ref (ad 1)), (2, .ref (ad 2)), (3, .int v3), (4, .int v4), (5, .ref o3), (6, .ref o4), (7, .int v7)] → (∀ (ls : Array Slot), lv_has ls 12 [(0, .ref (ad 0)), (1, .ref (ad 1)), (2, .ref (ad 2)), (3, .int v3), (4, .int v4), (5, .ref o3), (6, .ref o4), (7, .int v7), (8, .int (r'))] → W p l e rmL_best s m args below meth c H locs (cells + 0) (slots + 0) Q (F0 m 81 ls [])) → W p l e rmL_best s m args below meth c H locs cells slots Q (F0 m 62 ls []) := by
    intro v3 v4 v7 M r' H locs ls cells slots h hP hS hc hs hl kk
    unfold fL_best_R62 at h
    refine lv_iload hx hb dL_best_62 (lv_at hl 7 rfl) ?_
    refine lv_iload hx hb dL_best_64 (lv_at hl 4 rfl) ?_
    refine lv_icmp_ne (tgt := 74) hx hb dL_best_66 (by decide) (fun c26 => ?_) (fun c26 => ?_)
    · rw [if_neg c26] at h
      refine lv_aload hx hb dL_best_74 (lv_at hl 5 rfl) ?_
      refine lv_iload hx hb dL_best_76 (lv_at hl 7 rfl) ?_
      obtain ⟨g27, h⟩ := gd_some h
      refine alB3 S5 hK hP (v := M 3 v7.toNatClampNeg) g27 rfl dL_best_78 ?_
      refine lv_istore (lv' := [(8, .int (M 3 v7.toNatClampNeg)), (0, .ref (ad 0)), (1, .ref (ad 1)), (2, .ref (ad 2)), (3, .int v3), (4, .int v4), (5, .ref o3), (6, .ref o4), (7, .int v7)]) hx hb dL_best_79 hl (by decide) rfl (fun ls hl => ?_)
      obtain rfl := Option.some.inj h
      refine W.widen (k := cells + 0) (n := slots + 0) (by omega) (by omega) ?_
      exact kk _ (lv_sub hl [1, 2, 3, 4, 5, 6, 7, 8, 0] rfl)
    · rw [if_pos c26] at h
      refine lv_bipush (v := 24) hx hb dL_best_69 (by decide) ?_
      refine lv_goto (tgt := 79) hx hb dL_best_71 (by decide) ?_
      refine lv_istore (lv' := [(8, .int 24), (0, .ref (ad 0)), (1, .ref (ad 1)), (2, .ref (ad 2)), (3, .int v3), (4, .int v4), (5, .ref o3), (6, .ref o4), (7, .int v7)]) hx hb dL_best_79 hl (by decide) rfl (fun ls hl => ?_)
      obtain rfl := Option.some.inj h
      refine W.widen (k := cells + 0) (n := slots + 0) (by omega) (by omega) ?_
      exact kk _ (lv_sub hl [1, 2, 3, 4, 5, 6, 7, 8, 0] rfl)
  have R287 : ∀ (v3 : Int32) (v4 : Int32) (v7 : Int32) (v9 : Int32) (v11 : Int32) (M : Mem) (r' : Mem) (H : Heap) (locs : List Loc) (ls : Array Slot) (cells slots : Nat), fL_best_R287 v3 v4 v7 v9 v11 M = some r' → va_P D vwCl (wB cA ad o3 o4 M) H → va_S A s.heap H locs → cells + 0 ≤ 2 → slots + 0 ≤ 34 → lv_has ls 12 [(0, .ref (ad 0)), (1, .ref (ad 1)), (2, .ref (ad 2)), (3, .int v3), (4, .int v4), (5, .ref o3), (6, .ref o4), (7, .int v7), (9, .int v9), (11, .int v11)] → (∀ (H : Heap) (locs : List Loc), va_P D vwCl (wB cA ad o3 o4 (r')) H → va_S A s.heap H locs → ∀ (ls : Array Slot), lv_has ls 12 [(0, .ref (ad 0)), (1, .ref (ad 1)), (2, .ref (ad 2)), (3, .int v3), (4, .int v4), (5, .ref o3), (6, .ref o4), (7, .int v7)] → W p l e rmL_best s m args below meth c H locs (cells + 0) (slots + 0) Q (F0 m 307 ls [])) → W p l e rmL_best s m args below meth c H locs cells slots Q (F0 m 287 ls []) := by
    intro v3 v4 v7 v9 v11 M r' H locs ls cells slots h hP hS hc hs hl kk
    unfold fL_best_R287 at h
    refine lv_aload hx hb dL_best_287 (lv_at hl 6 rfl) ?_
    refine lv_iload hx hb dL_best_289 (lv_at hl 7 rfl) ?_
    refine lv_iload hx hb dL_best_291 (lv_at hl 9 rfl) ?_
    refine lv_if_eq (tgt := 301) hx hb dL_best_293 (by decide) (fun c41 => ?_) (fun c41 => ?_)
    · rw [if_pos c41] at h
      refine lv_aload hx hb dL_best_301 (lv_at hl 6 rfl) ?_
      refine lv_iload hx hb dL_best_303 (lv_at hl 7 rfl) ?_
      obtain ⟨g42, h⟩ := gd_some h
      refine alB4 S5 hK hP (v := M 4 v7.toNatClampNeg) g42 rfl dL_best_305 ?_
      obtain ⟨g43, h⟩ := gd_some h
      refine asB4 S5 hK hP hD hS g43 (k := v7.toNatClampNeg) rfl dL_best_306 (fun H locs hP hS => ?_)
      obtain rfl := Option.some.inj h
      refine W.widen (k := cells + 0) (n := slots + 0) (by omega) (by omega) ?_
      exact kk _ _ hP hS _ (lv_sub hl [0, 1, 2, 3, 4, 5, 6, 7] rfl)
    · rw [if_neg c41] at h
      refine lv_iload hx hb dL_best_296 (lv_at hl 8 rfl) ?_
      refine lv_goto (tgt := 306) hx hb dL_best_298 (by decide) ?_
      obtain ⟨g44, h⟩ := gd_some h
      refine asB4 S5 hK hP hD hS g44 (k := v7.toNatClampNeg) rfl dL_best_306 (fun H locs hP hS => ?_)
      obtain rfl := Option.some.inj h
      refine W.widen (k := cells + 0) (n := slots + 0) (by omega) (by omega) ?_
      exact kk _ _ hP hS _ (lv_sub hl [0, 1, 2, 3, 4, 5, 6, 7] rfl)
  have L81 : ∀ (n : Nat) (v3 : Int32) (v4 : Int32) (v7 : Int32) (v8 : Int32) (M : Mem) (r' : Int32) (H : Heap) (locs : List Loc) (ls : Array Slot) (cells slots : Nat), fL_best_L81 n v3 v4 v7 v8 M = some r' → va_P D vwCl (wB cA ad o3 o4 M) H → va_S A s.heap H locs → cells + n * 0 ≤ 2 → slots + n * 0 ≤ 34 → lv_has ls 12 [(0, .ref (ad 0)), (1, .ref (ad 1)), (2, .ref (ad 2)), (3, .int v3), (4, .int v4), (5, .ref o3), (6, .ref o4), (7, .int v7), (8, .int v8)] → (∀ (ls : Array Slot), lv_has ls 12 [(0, .ref (ad 0)), (1, .ref (ad 1)), (2, .ref (ad 2)), (3, .int v3), (4, .int v4), (5, .ref o3), (6, .ref o4), (7, .int v7), (8, .int (r'))] → W p l e rmL_best s m args below meth c H locs (cells + n * 0) (slots + n * 0) Q (F0 m 107 ls [])) → W p l e rmL_best s m args below meth c H locs cells slots Q (F0 m 81 ls []) := by
    intro n
    induction n with
    | zero => intro v3 v4 v7 v8 M r' H locs ls cells slots h hP hS hc hs hl kk; rw [fL_best_L81.eq_1] at h; cases h
    | succ n ih =>
      intro v3 v4 v7 v8 M r' H locs ls cells slots h hP hS hc hs hl kk
      rw [fL_best_L81.eq_2] at h
      refine lv_iload hx hb dL_best_81 (lv_at hl 8 rfl) ?_
      refine lv_bipush (v := 24) hx hb dL_best_83 (by decide) ?_
      refine lv_icmp_ge (tgt := 107) hx hb dL_best_85 (by decide) (fun c28 => ?_) (fun c28 => ?_)
      · rw [if_pos c28] at h
        obtain rfl := Option.some.inj h
        refine W.widen (k := cells + (n + 1) * 0) (n := slots + (n + 1) * 0) (by omega) (by omega) ?_
        exact kk _ (lv_sub hl [0, 1, 2, 3, 4, 5, 6, 7, 8] rfl)
      · rw [if_neg c28] at h
        refine lv_aload_n hx hb dL_best_88 rfl (lv_at hl 0 rfl) ?_
        refine lv_aload_n hx hb dL_best_89 rfl (lv_at hl 1 rfl) ?_
        refine lv_aload_n hx hb dL_best_90 rfl (lv_at hl 2 rfl) ?_
        refine lv_iload hx hb dL_best_91 (lv_at hl 7 rfl) ?_
        refine lv_iload hx hb dL_best_93 (lv_at hl 8 rfl) ?_
        obtain ⟨q29, hqq29, h⟩ := obind_some h
        refine cSRH S5 hK (hP.sub (ws' := wH cA ad M) [0, 1, 2] rfl) (As := [.ref (ad 0), .ref (ad 1), .ref (ad 2), .int v7, .int v8]) (kL_can l D cA ad _ _ _ _ hqq29) (va_cwS 5 hts gL_best_L_can rfl rfl rfl (by decide +kernel) ⟨(Nat.le_of_ble_eq_true rfl), (Nat.le_of_ble_eq_true rfl)⟩) rfl hl.1 (st0 := _) (rest := []) rfl (Nat.le_of_ble_eq_true rfl) dL_best_95 ⟨(by show _ ≤ 2; omega), (by show _ ≤ 34; omega)⟩ ?_
        refine lv_if_ne (tgt := 107) hx hb dL_best_98 (by decide) (fun c30 => ?_) (fun c30 => ?_)
        · rw [if_neg c30] at h
          obtain rfl := Option.some.inj h
          refine W.widen (k := cells + (n + 1) * 0) (n := slots + (n + 1) * 0) (by omega) (by omega) ?_
          exact kk _ (lv_sub hl [0, 1, 2, 3, 4, 5, 6, 7, 8] rfl)
        · rw [if_pos c30] at h
          refine lv_iinc (v := v8 + 1) (lv' := [(8, .int (v8 + 1)), (0, .ref (ad 0)), (1, .ref (ad 1)), (2, .ref (ad 2)), (3, .int v3), (4, .int v4), (5, .ref o3), (6, .ref o4), (7, .int v7)]) hx hb dL_best_101 hl (k := 8) rfl rfl (by decide) rfl (fun ls hl => ?_)
          refine lv_goto (tgt := 81) hx hb dL_best_104 (by decide) ?_
          refine W.widen (k := cells + 0) (n := slots + 0) (by omega) (by omega) ?_
          exact ih _ _ _ _ _ _ _ _ _ _ _ h hP hS (by omega) (by omega) (lv_sub hl [1, 2, 3, 4, 5, 6, 7, 8, 0] rfl) (fun ls hl => W.widen (k := cells + (n + 1) * 0) (n := slots + (n + 1) * 0) (by omega) (by omega) (kk ls hl))
  have R176 : ∀ (v3 : Int32) (v4 : Int32) (v7 : Int32) (M : Mem) (r' : Int32) (H : Heap) (locs : List Loc) (ls : Array Slot) (cells slots : Nat), fL_best_R176 v3 v4 v7 M = some r' → va_P D vwCl (wB cA ad o3 o4 M) H → va_S A s.heap H locs → cells + 0 ≤ 2 → slots + 0 ≤ 34 → lv_has ls 12 [(0, .ref (ad 0)), (1, .ref (ad 1)), (2, .ref (ad 2)), (3, .int v3), (4, .int v4), (5, .ref o3), (6, .ref o4), (7, .int v7)] → (∀ (ls : Array Slot), lv_has ls 12 [(0, .ref (ad 0)), (1, .ref (ad 1)), (2, .ref (ad 2)), (3, .int v3), (4, .int v4), (5, .ref o3), (6, .ref o4), (7, .int v7), (9, .int (r'))] → W p l e rmL_best s m args below meth c H locs (cells + 0) (slots + 0) Q (F0 m 201 ls [])) → W p l e rmL_best s m args below meth c H locs cells slots Q (F0 m 176 ls []) := by
    intro v3 v4 v7 M r' H locs ls cells slots h hP hS hc hs hl kk
    unfold fL_best_R176 at h
    refine lv_iload hx hb dL_best_176 (lv_at hl 7 rfl) ?_
    refine lv_iload hx hb dL_best_178 (lv_at hl 4 rfl) ?_
    refine lv_icmp_ne (tgt := 194) hx hb dL_best_180 (by decide) (fun c31 => ?_) (fun c31 => ?_)
    · rw [if_neg c31] at h
      refine lv_aload hx hb dL_best_194 (lv_at hl 6 rfl) ?_
      refine lv_iload hx hb dL_best_196 (lv_at hl 7 rfl) ?_
      obtain ⟨g32, h⟩ := gd_some h
      refine alB4 S5 hK hP (v := M 4 v7.toNatClampNeg) g32 rfl dL_best_198 ?_
      refine lv_istore (lv' := [(9, .int (M 4 v7.toNatClampNeg)), (0, .ref (ad 0)), (1, .ref (ad 1)), (2, .ref (ad 2)), (3, .int v3), (4, .int v4), (5, .ref o3), (6, .ref o4), (7, .int v7)]) hx hb dL_best_199 hl (by decide) rfl (fun ls hl => ?_)
      obtain rfl := Option.some.inj h
      refine W.widen (k := cells + 0) (n := slots + 0) (by omega) (by omega) ?_
      exact kk _ (lv_sub hl [1, 2, 3, 4, 5, 6, 7, 8, 0] rfl)
    · rw [if_pos c31] at h
      refine lv_aload_n hx hb dL_best_183 rfl (lv_at hl 1 rfl) ?_
      refine lv_aload_n hx hb dL_best_184 rfl (lv_at hl 2 rfl) ?_
      refine lv_iload hx hb dL_best_185 (lv_at hl 4 rfl) ?_
      refine lv_iconst (v := 0) hx hb dL_best_187 (by decide) ?_
      obtain ⟨q33, hqq33, h⟩ := obind_some h
      refine cSRH S5 hK (hP.sub (ws' := wH cA ad M) [0, 1, 2] rfl) (As := [.ref (ad 1), .ref (ad 2), .int v4, .int 0]) (kL_tricks l D cA ad _ _ _ _ hqq33) (va_cwS 4 hts gL_best_L_tricks rfl rfl rfl (by decide +kernel) ⟨(Nat.le_of_ble_eq_true rfl), (Nat.le_of_ble_eq_true rfl)⟩) rfl hl.1 (st0 := _) (rest := []) rfl (Nat.le_of_ble_eq_true rfl) dL_best_188 ⟨(by show _ ≤ 2; omega), (by show _ ≤ 34; omega)⟩ ?_
      refine lv_goto (tgt := 199) hx hb dL_best_191 (by decide) ?_
      refine lv_istore (lv' := [(9, .int q33), (0, .ref (ad 0)), (1, .ref (ad 1)), (2, .ref (ad 2)), (3, .int v3), (4, .int v4), (5, .ref o3), (6, .ref o4), (7, .int v7)]) hx hb dL_best_199 hl (by decide) rfl (fun ls hl => ?_)
      obtain rfl := Option.some.inj h
      refine W.widen (k := cells + 0) (n := slots + 0) (by omega) (by omega) ?_
      exact kk _ (lv_sub hl [1, 2, 3, 4, 5, 6, 7, 8, 0] rfl)
  have R242 : ∀ (v3 : Int32) (v4 : Int32) (v7 : Int32) (v9 : Int32) (v10 : Int32) (M : Mem) (r' : Int32) (H : Heap) (locs : List Loc) (ls : Array Slot) (cells slots : Nat), fL_best_R242 v3 v4 v7 v9 v10 M = some r' → va_P D vwCl (wB cA ad o3 o4 M) H → va_S A s.heap H locs → cells + 0 ≤ 2 → slots + 0 ≤ 34 → lv_has ls 12 [(0, .ref (ad 0)), (1, .ref (ad 1)), (2, .ref (ad 2)), (3, .int v3), (4, .int v4), (5, .ref o3), (6, .ref o4), (7, .int v7), (9, .int v9), (10, .int v10)] → (∀ (ls : Array Slot), lv_has ls 12 [(0, .ref (ad 0)), (1, .ref (ad 1)), (2, .ref (ad 2)), (3, .int v3), (4, .int v4), (5, .ref o3), (6, .ref o4), (7, .int v7), (9, .int v9), (11, .int (r'))] → W p l e rmL_best s m args below meth c H locs (cells + 0) (slots + 0) Q (F0 m 287 ls [])) → W p l e rmL_best s m args below meth c H locs cells slots Q (F0 m 242 ls []) := by
    intro v3 v4 v7 v9 v10 M r' H locs ls cells slots h hP hS hc hs hl kk
    unfold fL_best_R242 at h
    refine lv_aload hx hb dL_best_242 (lv_at hl 6 rfl) ?_
    refine lv_iload hx hb dL_best_244 (lv_at hl 7 rfl) ?_
    obtain ⟨g34, h⟩ := gd_some h
    refine alB4 S5 hK hP (v := M 4 v7.toNatClampNeg) g34 rfl dL_best_246 ?_
    refine lv_if_lt (tgt := 280) hx hb dL_best_247 (by decide) (fun c35 => ?_) (fun c35 => ?_)
    · rw [if_pos c35] at h
      refine lv_iconst (v := 1) hx hb dL_best_280 (by decide) ?_
      refine lv_goto (tgt := 285) hx hb dL_best_281 (by decide) ?_
      refine lv_istore (lv' := [(11, .int 1), (0, .ref (ad 0)), (1, .ref (ad 1)), (2, .ref (ad 2)), (3, .int v3), (4, .int v4), (5, .ref o3), (6, .ref o4), (7, .int v7), (9, .int v9), (10, .int v10)]) hx hb dL_best_285 hl (by decide) rfl (fun ls hl => ?_)
      obtain rfl := Option.some.inj h
      refine W.widen (k := cells + 0) (n := slots + 0) (by omega) (by omega) ?_
      exact kk _ (lv_sub hl [1, 2, 3, 4, 5, 6, 7, 8, 9, 0] rfl)
    · rw [if_neg c35] at h
      refine lv_iload hx hb dL_best_250 (lv_at hl 9 rfl) ?_
      refine lv_iconst (v := 2) hx hb dL_best_252 (by decide) ?_
      refine r_irem S5 dL_best_253 (by decide) ?_
      refine lv_if_ne (tgt := 270) hx hb dL_best_254 (by decide) (fun c36 => ?_) (fun c36 => ?_)
      · rw [if_neg c36] at h
        refine lv_iload hx hb dL_best_270 (lv_at hl 8 rfl) ?_
        refine lv_aload hx hb dL_best_272 (lv_at hl 6 rfl) ?_
        refine lv_iload hx hb dL_best_274 (lv_at hl 7 rfl) ?_
        obtain ⟨g37, h⟩ := gd_some h
        refine alB4 S5 hK hP (v := M 4 v7.toNatClampNeg) g37 rfl dL_best_276 ?_
        refine lv_icmp_ge (tgt := 284) hx hb dL_best_277 (by decide) (fun c38 => ?_) (fun c38 => ?_)
        · rw [if_pos c38] at h
          refine lv_iconst (v := 0) hx hb dL_best_284 (by decide) ?_
          refine lv_istore (lv' := [(11, .int 0), (0, .ref (ad 0)), (1, .ref (ad 1)), (2, .ref (ad 2)), (3, .int v3), (4, .int v4), (5, .ref o3), (6, .ref o4), (7, .int v7), (9, .int v9), (10, .int v10)]) hx hb dL_best_285 hl (by decide) rfl (fun ls hl => ?_)
          obtain rfl := Option.some.inj h
          refine W.widen (k := cells + 0) (n := slots + 0) (by omega) (by omega) ?_
          exact kk _ (lv_sub hl [1, 2, 3, 4, 5, 6, 7, 8, 9, 0] rfl)
        · rw [if_neg c38] at h
          refine lv_iconst (v := 1) hx hb dL_best_280 (by decide) ?_
          refine lv_goto (tgt := 285) hx hb dL_best_281 (by decide) ?_
          refine lv_istore (lv' := [(11, .int 1), (0, .ref (ad 0)), (1, .ref (ad 1)), (2, .ref (ad 2)), (3, .int v3), (4, .int v4), (5, .ref o3), (6, .ref o4), (7, .int v7), (9, .int v9), (10, .int v10)]) hx hb dL_best_285 hl (by decide) rfl (fun ls hl => ?_)
          obtain rfl := Option.some.inj h
          refine W.widen (k := cells + 0) (n := slots + 0) (by omega) (by omega) ?_
          exact kk _ (lv_sub hl [1, 2, 3, 4, 5, 6, 7, 8, 9, 0] rfl)
      · rw [if_pos c36] at h
        refine lv_iload hx hb dL_best_257 (lv_at hl 8 rfl) ?_
        refine lv_aload hx hb dL_best_259 (lv_at hl 6 rfl) ?_
        refine lv_iload hx hb dL_best_261 (lv_at hl 7 rfl) ?_
        obtain ⟨g39, h⟩ := gd_some h
        refine alB4 S5 hK hP (v := M 4 v7.toNatClampNeg) g39 rfl dL_best_263 ?_
        refine lv_icmp_le (tgt := 284) hx hb dL_best_264 (by decide) (fun c40 => ?_) (fun c40 => ?_)
        · rw [if_pos c40] at h
          refine lv_iconst (v := 0) hx hb dL_best_284 (by decide) ?_
          refine lv_istore (lv' := [(11, .int 0), (0, .ref (ad 0)), (1, .ref (ad 1)), (2, .ref (ad 2)), (3, .int v3), (4, .int v4), (5, .ref o3), (6, .ref o4), (7, .int v7), (9, .int v9), (10, .int v10)]) hx hb dL_best_285 hl (by decide) rfl (fun ls hl => ?_)
          obtain rfl := Option.some.inj h
          refine W.widen (k := cells + 0) (n := slots + 0) (by omega) (by omega) ?_
          exact kk _ (lv_sub hl [1, 2, 3, 4, 5, 6, 7, 8, 9, 0] rfl)
        · rw [if_neg c40] at h
          refine lv_goto (tgt := 280) hx hb dL_best_267 (by decide) ?_
          refine lv_iconst (v := 1) hx hb dL_best_280 (by decide) ?_
          refine lv_goto (tgt := 285) hx hb dL_best_281 (by decide) ?_
          refine lv_istore (lv' := [(11, .int 1), (0, .ref (ad 0)), (1, .ref (ad 1)), (2, .ref (ad 2)), (3, .int v3), (4, .int v4), (5, .ref o3), (6, .ref o4), (7, .int v7), (9, .int v9), (10, .int v10)]) hx hb dL_best_285 hl (by decide) rfl (fun ls hl => ?_)
          obtain rfl := Option.some.inj h
          refine W.widen (k := cells + 0) (n := slots + 0) (by omega) (by omega) ?_
          exact kk _ (lv_sub hl [1, 2, 3, 4, 5, 6, 7, 8, 9, 0] rfl)
  have L62 : ∀ (n : Nat) (v3 : Int32) (v4 : Int32) (v7 : Int32) (M : Mem) (r' : Int32 × Mem) (H : Heap) (locs : List Loc) (ls : Array Slot) (cells slots : Nat), fL_best_L62 n v3 v4 v7 M = some r' → va_P D vwCl (wB cA ad o3 o4 M) H → va_S A s.heap H locs → cells + n * 0 ≤ 2 → slots + n * 0 ≤ 34 → lv_has ls 12 [(0, .ref (ad 0)), (1, .ref (ad 1)), (2, .ref (ad 2)), (3, .int v3), (4, .int v4), (5, .ref o3), (6, .ref o4), (7, .int v7)] → (∀ (H : Heap) (locs : List Loc), va_P D vwCl (wB cA ad o3 o4 (r'.2)) H → va_S A s.heap H locs → ∀ (ls : Array Slot), lv_has ls 12 [(9, .int (r'.1))] → W p l e rmL_best s m args below meth c H locs (cells + n * 0) (slots + n * 0) Q (F0 m 207 ls [])) → W p l e rmL_best s m args below meth c H locs cells slots Q (F0 m 62 ls []) := by
    intro n
    induction n with
    | zero => intro v3 v4 v7 M r' H locs ls cells slots h hP hS hc hs hl kk; rw [fL_best_L62.eq_1] at h; cases h
    | succ n ih =>
      intro v3 v4 v7 M r' H locs ls cells slots h hP hS hc hs hl kk
      rw [fL_best_L62.eq_2] at h
      obtain ⟨q8, hqq8, h⟩ := obind_some h
      refine R62 _ _ _ _ _ _ _ _ _ _ hqq8 hP hS (by omega) (by omega) (lv_sub hl [0, 1, 2, 3, 4, 5, 6, 7] rfl) (fun ls hl => ?_)
      have hl := lv_sub (l' := [(0, .ref (ad 0)), (1, .ref (ad 1)), (2, .ref (ad 2)), (3, .int v3), (4, .int v4), (5, .ref o3), (6, .ref o4), (7, .int v7), (8, .int q8)]) hl [0, 1, 2, 3, 4, 5, 6, 7, 8] rfl
      obtain ⟨q9, hqq9, h⟩ := obind_some h
      refine L81 _ _ _ _ _ _ _ _ _ _ _ _ hqq9 hP hS (by omega) (by omega) (lv_sub hl [0, 1, 2, 3, 4, 5, 6, 7, 8] rfl) (fun ls hl => ?_)
      have hl := lv_sub (l' := [(0, .ref (ad 0)), (1, .ref (ad 1)), (2, .ref (ad 2)), (3, .int v3), (4, .int v4), (5, .ref o3), (6, .ref o4), (7, .int v7), (8, .int q9)]) hl [0, 1, 2, 3, 4, 5, 6, 7, 8] rfl
      refine lv_iload hx hb dL_best_107 (lv_at hl 8 rfl) ?_
      refine lv_bipush (v := 24) hx hb dL_best_109 (by decide) ?_
      refine lv_icmp_ge (tgt := 176) hx hb dL_best_111 (by decide) (fun c10 => ?_) (fun c10 => ?_)
      · rw [if_pos c10] at h
        obtain ⟨q11, hqq11, h⟩ := obind_some h
        refine R176 _ _ _ _ _ _ _ _ _ _ hqq11 hP hS (by omega) (by omega) (lv_sub hl [0, 1, 2, 3, 4, 5, 6, 7] rfl) (fun ls hl => ?_)
        have hl := lv_sub (l' := [(0, .ref (ad 0)), (1, .ref (ad 1)), (2, .ref (ad 2)), (3, .int v3), (4, .int v4), (5, .ref o3), (6, .ref o4), (7, .int v7), (9, .int q11)]) hl [0, 1, 2, 3, 4, 5, 6, 7, 8] rfl
        refine lv_iload hx hb dL_best_201 (lv_at hl 7 rfl) ?_
        refine lv_iload_n hx hb dL_best_203 rfl (lv_at hl 3 rfl) ?_
        refine lv_icmp_ne (tgt := 210) hx hb dL_best_204 (by decide) (fun c12 => ?_) (fun c12 => ?_)
        · rw [if_neg c12] at h
          refine lv_iinc (v := v7 + (-1)) (lv' := [(7, .int (v7 + (-1))), (0, .ref (ad 0)), (1, .ref (ad 1)), (2, .ref (ad 2)), (3, .int v3), (4, .int v4), (5, .ref o3), (6, .ref o4), (9, .int q11)]) hx hb dL_best_210 hl (k := 7) rfl rfl (by decide) rfl (fun ls hl => ?_)
          refine lv_aload_n hx hb dL_best_213 rfl (lv_at hl 2 rfl) ?_
          refine lv_aload_n hx hb dL_best_214 rfl (lv_at hl 3 rfl) ?_
          refine lv_iload hx hb dL_best_215 (lv_at hl 0 rfl) ?_
          obtain ⟨q13, hqq13, h⟩ := obind_some h
          refine cSRH S5 hK (hP.sub (ws' := wH cA ad M) [0, 1, 2] rfl) (As := [.ref (ad 1), .ref (ad 2), .int (v7 + (-1))]) (kL_leader l D cA ad _ _ _ hqq13) (va_cwS 3 hts gL_best_L_leader rfl rfl rfl (by decide +kernel) ⟨(Nat.le_of_ble_eq_true rfl), (Nat.le_of_ble_eq_true rfl)⟩) rfl hl.1 (st0 := _) (rest := []) rfl (Nat.le_of_ble_eq_true rfl) dL_best_217 ⟨(by show _ ≤ 2; omega), (by show _ ≤ 34; omega)⟩ ?_
          refine lv_iload hx hb dL_best_220 (lv_at hl 0 rfl) ?_
          refine lv_iconst (v := 4) hx hb dL_best_222 (by decide) ?_
          refine r_irem S5 dL_best_223 (by decide) ?_
          refine lv_iadd hx hb dL_best_224 ?_
          refine lv_iconst (v := 4) hx hb dL_best_225 (by decide) ?_
          refine r_irem S5 dL_best_226 (by decide) ?_
          refine lv_istore (lv' := [(10, .int (im (q13 + (im (v7 + (-1)) 4)) 4)), (7, .int (v7 + (-1))), (0, .ref (ad 0)), (1, .ref (ad 1)), (2, .ref (ad 2)), (3, .int v3), (4, .int v4), (5, .ref o3), (6, .ref o4), (9, .int q11)]) hx hb dL_best_227 hl (by decide) rfl (fun ls hl => ?_)
          refine lv_aload_n hx hb dL_best_229 rfl (lv_at hl 2 rfl) ?_
          refine lv_iload hx hb dL_best_230 (lv_at hl 0 rfl) ?_
          refine lv_dup2_11 hx hb dL_best_232 rfl rfl ?_
          obtain ⟨g14, h⟩ := gd_some h
          refine alB0 S5 hK hP (v := M 0 ((im (q13 + (im (v7 + (-1)) 4)) 4).toNatClampNeg)) g14 rfl dL_best_233 ?_
          refine lv_iconst (v := 1) hx hb dL_best_234 (by decide) ?_
          refine lv_aload_n hx hb dL_best_235 rfl (lv_at hl 3 rfl) ?_
          refine lv_iload hx hb dL_best_236 (lv_at hl 1 rfl) ?_
          obtain ⟨g15, h⟩ := gd_some h
          refine alB1 S5 hK hP (v := M 1 ((v7 + (-1)).toNatClampNeg)) g15 rfl dL_best_238 ?_
          refine r_ishl S5 dL_best_239 ?_
          refine lv_ior hx hb dL_best_240 ?_
          obtain ⟨g16, h⟩ := gd_some h
          refine asB0 S5 hK hP hD hS g16 (k := (im (q13 + (im (v7 + (-1)) 4)) 4).toNatClampNeg) rfl dL_best_241 (fun H locs hP hS => ?_)
          obtain ⟨q17, hqq17, h⟩ := obind_some h
          refine R242 _ _ _ _ _ _ _ _ _ _ _ _ hqq17 hP hS (by omega) (by omega) (lv_sub hl [2, 3, 4, 5, 6, 7, 8, 1, 9, 0] rfl) (fun ls hl => ?_)
          have hl := lv_sub (l' := [(0, .ref (ad 0)), (1, .ref (ad 1)), (2, .ref (ad 2)), (3, .int v3), (4, .int v4), (5, .ref o3), (6, .ref o4), (7, .int (v7 + (-1))), (9, .int q11), (11, .int q17)]) hl [0, 1, 2, 3, 4, 5, 6, 7, 8, 9] rfl
          obtain ⟨q18, hqq18, h⟩ := obind_some h
          refine R287 _ _ _ _ _ _ _ _ _ _ _ _ hqq18 hP hS (by omega) (by omega) (lv_sub hl [0, 1, 2, 3, 4, 5, 6, 7, 8, 9] rfl) (fun H locs hP hS ls hl => ?_)
          have hl := lv_sub (l' := [(0, .ref (ad 0)), (1, .ref (ad 1)), (2, .ref (ad 2)), (3, .int v3), (4, .int v4), (5, .ref o3), (6, .ref o4), (7, .int (v7 + (-1)))]) hl [0, 1, 2, 3, 4, 5, 6, 7] rfl
          refine lv_goto (tgt := 62) hx hb dL_best_307 (by decide) ?_
          refine W.widen (k := cells + 0) (n := slots + 0) (by omega) (by omega) ?_
          exact ih _ _ _ _ _ _ _ _ _ _ h hP hS (by omega) (by omega) (lv_sub hl [0, 1, 2, 3, 4, 5, 6, 7] rfl) (fun H locs hP hS ls hl => W.widen (k := cells + (n + 1) * 0) (n := slots + (n + 1) * 0) (by omega) (by omega) (kk H locs hP hS ls hl))
        · rw [if_pos c12] at h
          obtain rfl := Option.some.inj h
          refine W.widen (k := cells + (n + 1) * 0) (n := slots + (n + 1) * 0) (by omega) (by omega) ?_
          exact kk _ _ hP hS _ (lv_sub hl [8] rfl)
      · rw [if_neg c10] at h
        refine lv_aload_n hx hb dL_best_114 rfl (lv_at hl 1 rfl) ?_
        refine lv_aload_n hx hb dL_best_115 rfl (lv_at hl 2 rfl) ?_
        refine lv_iload hx hb dL_best_116 (lv_at hl 7 rfl) ?_
        obtain ⟨q19, hqq19, h⟩ := obind_some h
        refine cSRH S5 hK (hP.sub (ws' := wH cA ad M) [0, 1, 2] rfl) (As := [.ref (ad 1), .ref (ad 2), .int v7]) (kL_leader l D cA ad _ _ _ hqq19) (va_cwS 3 hts gL_best_L_leader rfl rfl rfl (by decide +kernel) ⟨(Nat.le_of_ble_eq_true rfl), (Nat.le_of_ble_eq_true rfl)⟩) rfl hl.1 (st0 := _) (rest := []) rfl (Nat.le_of_ble_eq_true rfl) dL_best_118 ⟨(by show _ ≤ 2; omega), (by show _ ≤ 34; omega)⟩ ?_
        refine lv_iload hx hb dL_best_121 (lv_at hl 7 rfl) ?_
        refine lv_iconst (v := 4) hx hb dL_best_123 (by decide) ?_
        refine r_irem S5 dL_best_124 (by decide) ?_
        refine lv_iadd hx hb dL_best_125 ?_
        refine lv_iconst (v := 4) hx hb dL_best_126 (by decide) ?_
        refine r_irem S5 dL_best_127 (by decide) ?_
        refine lv_istore (lv' := [(9, .int (im (q19 + (im v7 4)) 4)), (0, .ref (ad 0)), (1, .ref (ad 1)), (2, .ref (ad 2)), (3, .int v3), (4, .int v4), (5, .ref o3), (6, .ref o4), (7, .int v7), (8, .int q9)]) hx hb dL_best_128 hl (by decide) rfl (fun ls hl => ?_)
        refine lv_aload_n hx hb dL_best_130 rfl (lv_at hl 1 rfl) ?_
        refine lv_iload hx hb dL_best_131 (lv_at hl 0 rfl) ?_
        refine lv_dup2_11 hx hb dL_best_133 rfl rfl ?_
        obtain ⟨g20, h⟩ := gd_some h
        refine alB0 S5 hK hP (v := M 0 ((im (q19 + (im v7 4)) 4).toNatClampNeg)) g20 rfl dL_best_134 ?_
        refine lv_iconst (v := 1) hx hb dL_best_135 (by decide) ?_
        refine lv_iload hx hb dL_best_136 (lv_at hl 9 rfl) ?_
        refine r_ishl S5 dL_best_138 ?_
        refine lv_iconst (v := (-1)) hx hb dL_best_139 (by decide) ?_
        refine lv_ixor hx hb dL_best_140 ?_
        refine lv_iand hx hb dL_best_141 ?_
        obtain ⟨g21, h⟩ := gd_some h
        refine asB0 S5 hK hP hD hS g21 (k := (im (q19 + (im v7 4)) 4).toNatClampNeg) rfl dL_best_142 (fun H locs hP hS => ?_)
        refine lv_aload_n hx hb dL_best_143 rfl (lv_at hl 2 rfl) ?_
        refine lv_iload hx hb dL_best_144 (lv_at hl 8 rfl) ?_
        refine lv_iload hx hb dL_best_146 (lv_at hl 9 rfl) ?_
        obtain ⟨g22, h⟩ := gd_some h
        refine asB1 S5 hK hP hD hS g22 (k := v7.toNatClampNeg) rfl dL_best_148 (fun H locs hP hS => ?_)
        refine lv_aload hx hb dL_best_149 (lv_at hl 6 rfl) ?_
        refine lv_iload hx hb dL_best_151 (lv_at hl 8 rfl) ?_
        refine lv_iload hx hb dL_best_153 (lv_at hl 9 rfl) ?_
        refine lv_iconst (v := 1) hx hb dL_best_155 (by decide) ?_
        refine lv_iadd hx hb dL_best_156 ?_
        obtain ⟨g23, h⟩ := gd_some h
        refine asB3 S5 hK hP hD hS g23 (k := v7.toNatClampNeg) rfl dL_best_157 (fun H locs hP hS => ?_)
        refine lv_iinc (v := v7 + 1) (lv' := [(7, .int (v7 + 1)), (9, .int (im (q19 + (im v7 4)) 4)), (0, .ref (ad 0)), (1, .ref (ad 1)), (2, .ref (ad 2)), (3, .int v3), (4, .int v4), (5, .ref o3), (6, .ref o4), (8, .int q9)]) hx hb dL_best_158 hl (k := 8) rfl rfl (by decide) rfl (fun ls hl => ?_)
        refine lv_aload hx hb dL_best_161 (lv_at hl 7 rfl) ?_
        refine lv_iload hx hb dL_best_163 (lv_at hl 0 rfl) ?_
        refine lv_iconst (v := 0) hx hb dL_best_165 (by decide) ?_
        obtain ⟨g24, h⟩ := gd_some h
        refine asB3 S5 hK hP hD hS g24 (k := (v7 + 1).toNatClampNeg) rfl dL_best_166 (fun H locs hP hS => ?_)
        refine lv_aload hx hb dL_best_167 (lv_at hl 8 rfl) ?_
        refine lv_iload hx hb dL_best_169 (lv_at hl 0 rfl) ?_
        refine lv_iconst (v := (-1)) hx hb dL_best_171 (by decide) ?_
        obtain ⟨g25, h⟩ := gd_some h
        refine asB4 S5 hK hP hD hS g25 (k := (v7 + 1).toNatClampNeg) rfl dL_best_172 (fun H locs hP hS => ?_)
        refine lv_goto (tgt := 307) hx hb dL_best_173 (by decide) ?_
        refine lv_goto (tgt := 62) hx hb dL_best_307 (by decide) ?_
        refine W.widen (k := cells + 0) (n := slots + 0) (by omega) (by omega) ?_
        exact ih _ _ _ _ _ _ _ _ _ _ h hP hS (by omega) (by omega) (lv_sub hl [2, 3, 4, 5, 6, 7, 8, 0] rfl) (fun H locs hP hS ls hl => W.widen (k := cells + (n + 1) * 0) (n := slots + (n + 1) * 0) (by omega) (by omega) (kk H locs hP hS ls hl))
  refine lv_astore (lv' := [(6, .ref o4), (5, .ref o3), (4, .int (((((M 2 0) + q1) + q2) + q3) + q4)), (3, .int (M 2 0)), (0, .ref (ad 0)), (1, .ref (ad 1)), (2, .ref (ad 2))]) hx hb dL_best_45 hl (by decide) rfl (fun ls hl => ?_)
  refine lv_iload_n hx hb dL_best_47 rfl (lv_at hl 3 rfl) ?_
  refine lv_istore (lv' := [(7, .int (M 2 0)), (6, .ref o4), (5, .ref o3), (4, .int (((((M 2 0) + q1) + q2) + q3) + q4)), (3, .int (M 2 0)), (0, .ref (ad 0)), (1, .ref (ad 1)), (2, .ref (ad 2))]) hx hb dL_best_48 hl (by decide) rfl (fun ls hl => ?_)
  refine lv_aload hx hb dL_best_50 (lv_at hl 2 rfl) ?_
  refine lv_iload hx hb dL_best_52 (lv_at hl 0 rfl) ?_
  refine lv_iconst (v := 0) hx hb dL_best_54 (by decide) ?_
  obtain ⟨g5, h⟩ := gd_some h
  refine asB3 S5 hK hP hD hS g5 (k := (M 2 0).toNatClampNeg) rfl dL_best_55 (fun H locs hP hS => ?_)
  refine lv_aload hx hb dL_best_56 (lv_at hl 1 rfl) ?_
  refine lv_iload hx hb dL_best_58 (lv_at hl 0 rfl) ?_
  refine lv_iconst (v := (-1)) hx hb dL_best_60 (by decide) ?_
  obtain ⟨g6, h⟩ := gd_some h
  refine asB4 S5 hK hP hD hS g6 (k := (M 2 0).toNatClampNeg) rfl dL_best_61 (fun H locs hP hS => ?_)
  obtain ⟨q7, hqq7, h⟩ := obind_some h
  refine L62 _ _ _ _ _ _ _ _ _ _ _ hqq7 hP hS (by omega) (by omega) (lv_sub hl [5, 6, 7, 4, 3, 2, 1, 0] rfl) (fun H locs hP hS ls hl => ?_)
  have hl := lv_sub (l' := [(9, .int q7.1)]) hl [0] rfl
  refine lv_iload hx hb dL_best_207 (lv_at hl 0 rfl) ?_
  obtain rfl := Option.some.inj h
  refine W.widen (k := 2) (n := 34) (by omega) (by omega) ?_
  exact kr _ _ _ _ _ rfl rfl (hP.sub (ws' := wH cA ad q7.2) [0, 1, 2] rfl) hS dL_best_209

-- L_fork
def fL_fork_L41 : Nat → Int32 → Int32 → Int32 → Int32 → Int32 → Mem → Option (Int32)
  | 0, _, _, _, _, _, _ => none
  | n + 1, v1, v2, v3, v5, v6, M => (if v6 < 0 then some (v6) else (if (fL_has v3 v6) = 0 then fL_fork_L41 n v1 v2 v3 v5 (v6 + (-1)) M else some (v6)))
def fL_fork (p1 : Int32) (p2 : Int32) (M : Mem) : Option (Int32) := (obind (fL_fork_L41 40 p1 p2 ((sr ((((M 0 0) ||| (M 0 1)) ||| (M 0 2)) ||| (M 0 3)) (6 * p2)) &&& 63) 0 5 ((mzF M))) (fun q2 => (if 0 ≤ q2 then (obind (fL_fork_L41 40 p1 p2 (((sr ((((M 0 0) ||| (M 0 1)) ||| (M 0 2)) ||| (M 0 3)) (6 * p2)) &&& 63) &&& ((sl 1 q2) ^^^ ((-1)))) 1 5 ((mset (mzF M) 3 0 (fL_holder ((6 * p2) + q2) M)))) (fun q5 => (if 0 ≤ q5 then (obind (fL_fork_L41 40 p1 p2 ((((sr ((((M 0 0) ||| (M 0 1)) ||| (M 0 2)) ||| (M 0 3)) (6 * p2)) &&& 63) &&& ((sl 1 q2) ^^^ ((-1)))) &&& ((sl 1 q5) ^^^ ((-1)))) 2 5 ((mset (mset (mzF M) 3 0 (fL_holder ((6 * p2) + q2) M)) 3 1 (fL_holder ((6 * p2) + q5) M)))) (fun q8 => (if 0 ≤ q8 then (if (fL_holder ((6 * p2) + q2) M) = p1 then (if (fL_holder ((6 * p2) + q8) M) = p1 then (if (((fL_holder ((6 * p2) + q5) M) - p1) &&& 1) = 0 then some (0) else (if (fL_holder ((6 * p2) + q5) M) = (im (p1 + 3) 4) then some (2) else some (1))) else some (0)) else some (0)) else some (0)))) else some (0)))) else some (0))))
def rmL_fork : Room := { frames := 2, cells := 1, slots := 3, locals := 42 }
set_option maxHeartbeats 8000000 in
set_option maxRecDepth 100000 in
theorem kL_fork (l : Launch) (D : va_G) (cA : Nat) (ad : Nat → Nat) (p1 : Int32) (p2 : Int32) (M : Mem) (r : Int32) (h : fL_fork p1 p2 M = some r) : WiH l yL_fork wsL_fork rmL_fork D cA ad M [.ref (ad 0), .int p1, .int p2] 1 3 (r, M) := by
  unfold fL_fork at h
  refine WiH.of RL rfl rfl rfl (Nat.le_of_ble_eq_true rfl) ?_
  intro p e s m args below meth c Q ls A eA S5 hK hP hD hS hl kr
  have hA0 : ∀ q : Nat, s.heap.size ≤ q → A q := fun q h => by rw [eA]; exact Or.inr h
  have hK0 : va_K D vwCl [] s := ⟨hK.1, fun k q h => by simp at h⟩
  obtain ⟨hx, hb, -, -, hts⟩ := id S5
  refine lv_aload_n hx hb dL_fork_0 rfl (lv_at hl 0 rfl) ?_
  refine lv_iconst (v := 0) hx hb dL_fork_1 (by decide) ?_
  refine alH0 S5 hK hP (v := M 0 0) (by decide) rfl dL_fork_2 ?_
  refine lv_aload_n hx hb dL_fork_3 rfl (lv_at hl 0 rfl) ?_
  refine lv_iconst (v := 1) hx hb dL_fork_4 (by decide) ?_
  refine alH0 S5 hK hP (v := M 0 1) (by decide) rfl dL_fork_5 ?_
  refine lv_ior hx hb dL_fork_6 ?_
  refine lv_aload_n hx hb dL_fork_7 rfl (lv_at hl 0 rfl) ?_
  refine lv_iconst (v := 2) hx hb dL_fork_8 (by decide) ?_
  refine alH0 S5 hK hP (v := M 0 2) (by decide) rfl dL_fork_9 ?_
  refine lv_ior hx hb dL_fork_10 ?_
  refine lv_aload_n hx hb dL_fork_11 rfl (lv_at hl 0 rfl) ?_
  refine lv_iconst (v := 3) hx hb dL_fork_12 (by decide) ?_
  refine alH0 S5 hK hP (v := M 0 3) (by decide) rfl dL_fork_13 ?_
  refine lv_ior hx hb dL_fork_14 ?_
  refine lv_bipush (v := 6) hx hb dL_fork_15 (by decide) ?_
  refine lv_iload_n hx hb dL_fork_17 rfl (lv_at hl 2 rfl) ?_
  refine lv_imul hx hb dL_fork_18 ?_
  refine r_ishr S5 dL_fork_19 ?_
  refine lv_bipush (v := 63) hx hb dL_fork_20 (by decide) ?_
  refine lv_iand hx hb dL_fork_22 ?_
  refine lv_istore_n (lv' := [(3, .int ((sr ((((M 0 0) ||| (M 0 1)) ||| (M 0 2)) ||| (M 0 3)) (6 * p2)) &&& 63)), (0, .ref (ad 0)), (1, .int p1), (2, .int p2)]) hx hb dL_fork_23 rfl hl (by decide) rfl (fun ls hl => ?_)
  refine lv_iconst (v := 3) hx hb dL_fork_24 (by decide) ?_
  refine va_newa (atype := .int) (ty := .int) (a0 := (3, .inl (fun _ => 0))) hx hb (hts _ (List.mem_of_getElem? (i := 1) rfl)) rfl hK0 hP (hD M) hS hA0 (fun _ => rfl) (by decide) (by decide +kernel) (Nat.le_of_ble_eq_true rfl) (Nat.le_of_ble_eq_true rfl) (Nat.le_of_ble_eq_true rfl) dL_fork_25 (fun o3 c9 H hK9 hP hD1 hS => ?_)
  obtain rfl := K_one hK (K_int hK9)
  have hP : va_P D vwCl (wF cA ad o3 (mzF M)) H := hP
  have hD : ∀ M : Mem, va_D A (wF cA ad o3 M) := fun M' => va_D.same hD1 rfl
  have L41 : ∀ (n : Nat) (v1 : Int32) (v2 : Int32) (v3 : Int32) (v5 : Int32) (v6 : Int32) (M : Mem) (r' : Int32) (H : Heap) (locs : List Loc) (ls : Array Slot) (cells slots : Nat), fL_fork_L41 n v1 v2 v3 v5 v6 M = some r' → va_P D vwCl (wF cA ad o3 M) H → va_S A s.heap H locs → cells + n * 0 ≤ 1 → slots + n * 0 ≤ 3 → lv_has ls 7 [(0, .ref (ad 0)), (1, .int v1), (2, .int v2), (3, .int v3), (4, .ref o3), (5, .int v5), (6, .int v6)] → (∀ (ls : Array Slot), lv_has ls 7 [(0, .ref (ad 0)), (1, .int v1), (2, .int v2), (3, .int v3), (4, .ref o3), (5, .int v5), (6, .int (r'))] → W p l e rmL_fork s m args below meth c H locs (cells + n * 0) (slots + n * 0) Q (F0 m 61 ls [])) → W p l e rmL_fork s m args below meth c H locs cells slots Q (F0 m 41 ls []) := by
    intro n
    induction n with
    | zero => intro v1 v2 v3 v5 v6 M r' H locs ls cells slots h hP hS hc hs hl kk; rw [fL_fork_L41.eq_1] at h; cases h
    | succ n ih =>
      intro v1 v2 v3 v5 v6 M r' H locs ls cells slots h hP hS hc hs hl kk
      rw [fL_fork_L41.eq_2] at h
      refine lv_iload hx hb dL_fork_41 (lv_at hl 6 rfl) ?_
      refine lv_if_lt (tgt := 61) hx hb dL_fork_43 (by decide) (fun c15 => ?_) (fun c15 => ?_)
      · rw [if_pos c15] at h
        obtain rfl := Option.some.inj h
        refine W.widen (k := cells + (n + 1) * 0) (n := slots + (n + 1) * 0) (by omega) (by omega) ?_
        exact kk _ (lv_sub hl [0, 1, 2, 3, 4, 5, 6] rfl)
      · rw [if_neg c15] at h
        refine lv_iload_n hx hb dL_fork_46 rfl (lv_at hl 3 rfl) ?_
        refine lv_iload hx hb dL_fork_47 (lv_at hl 6 rfl) ?_
        refine cS S5 (As := [.int v3, .int v6]) (kL_has l _ _) (va_cwS 2 hts gL_fork_L_has rfl rfl rfl (by decide +kernel) ⟨(Nat.le_of_ble_eq_true rfl), (Nat.le_of_ble_eq_true rfl)⟩) rfl hl.1 (st0 := _) (rest := []) rfl (Nat.le_of_ble_eq_true rfl) dL_fork_49 ⟨(by show _ ≤ 1; omega), (by show _ ≤ 3; omega)⟩ ?_
        refine lv_if_ne (tgt := 61) hx hb dL_fork_52 (by decide) (fun c16 => ?_) (fun c16 => ?_)
        · rw [if_neg c16] at h
          obtain rfl := Option.some.inj h
          refine W.widen (k := cells + (n + 1) * 0) (n := slots + (n + 1) * 0) (by omega) (by omega) ?_
          exact kk _ (lv_sub hl [0, 1, 2, 3, 4, 5, 6] rfl)
        · rw [if_pos c16] at h
          refine lv_iinc (v := v6 + (-1)) (lv' := [(6, .int (v6 + (-1))), (0, .ref (ad 0)), (1, .int v1), (2, .int v2), (3, .int v3), (4, .ref o3), (5, .int v5)]) hx hb dL_fork_55 hl (k := 6) rfl rfl (by decide) rfl (fun ls hl => ?_)
          refine lv_goto (tgt := 41) hx hb dL_fork_58 (by decide) ?_
          refine W.widen (k := cells + 0) (n := slots + 0) (by omega) (by omega) ?_
          exact ih _ _ _ _ _ _ _ _ _ _ _ _ h hP hS (by omega) (by omega) (lv_sub hl [1, 2, 3, 4, 5, 6, 0] rfl) (fun ls hl => W.widen (k := cells + (n + 1) * 0) (n := slots + (n + 1) * 0) (by omega) (by omega) (kk ls hl))
  refine lv_astore (lv' := [(4, .ref o3), (3, .int ((sr ((((M 0 0) ||| (M 0 1)) ||| (M 0 2)) ||| (M 0 3)) (6 * p2)) &&& 63)), (0, .ref (ad 0)), (1, .int p1), (2, .int p2)]) hx hb dL_fork_27 hl (by decide) rfl (fun ls hl => ?_)
  refine lv_iconst (v := 0) hx hb dL_fork_29 (by decide) ?_
  refine lv_istore (lv' := [(5, .int 0), (4, .ref o3), (3, .int ((sr ((((M 0 0) ||| (M 0 1)) ||| (M 0 2)) ||| (M 0 3)) (6 * p2)) &&& 63)), (0, .ref (ad 0)), (1, .int p1), (2, .int p2)]) hx hb dL_fork_30 hl (by decide) rfl (fun ls hl => ?_)
  refine lv_iload hx hb dL_fork_32 (lv_at hl 0 rfl) ?_
  refine lv_iconst (v := 3) hx hb dL_fork_34 (by decide) ?_
  refine lv_icmp_ge (tgt := 99) hx hb dL_fork_35 (by decide) (fun c1 => absurd c1 (by decide)) (fun c1 => ?_)
  refine lv_iconst (v := 5) hx hb dL_fork_38 (by decide) ?_
  refine lv_istore (lv' := [(6, .int 5), (5, .int 0), (4, .ref o3), (3, .int ((sr ((((M 0 0) ||| (M 0 1)) ||| (M 0 2)) ||| (M 0 3)) (6 * p2)) &&& 63)), (0, .ref (ad 0)), (1, .int p1), (2, .int p2)]) hx hb dL_fork_39 hl (by decide) rfl (fun ls hl => ?_)
  obtain ⟨q2, hqq2, h⟩ := obind_some h
  refine L41 _ _ _ _ _ _ _ _ _ _ _ _ _ hqq2 hP hS (by omega) (by omega) (lv_sub hl [4, 5, 6, 3, 2, 1, 0] rfl) (fun ls hl => ?_)
  have hl := lv_sub (l' := [(0, .ref (ad 0)), (1, .int p1), (2, .int p2), (3, .int ((sr ((((M 0 0) ||| (M 0 1)) ||| (M 0 2)) ||| (M 0 3)) (6 * p2)) &&& 63)), (4, .ref o3), (5, .int 0), (6, .int q2)]) hl [0, 1, 2, 3, 4, 5, 6] rfl
  refine lv_iload hx hb dL_fork_61 (lv_at hl 6 rfl) ?_
  refine lv_if_ge (tgt := 68) hx hb dL_fork_63 (by decide) (fun c3 => ?_) (fun c3 => ?_)
  · rw [if_pos c3] at h
    refine lv_aload hx hb dL_fork_68 (lv_at hl 4 rfl) ?_
    refine lv_iload hx hb dL_fork_70 (lv_at hl 5 rfl) ?_
    refine lv_aload_n hx hb dL_fork_72 rfl (lv_at hl 0 rfl) ?_
    refine lv_bipush (v := 6) hx hb dL_fork_73 (by decide) ?_
    refine lv_iload_n hx hb dL_fork_75 rfl (lv_at hl 2 rfl) ?_
    refine lv_imul hx hb dL_fork_76 ?_
    refine lv_iload hx hb dL_fork_77 (lv_at hl 6 rfl) ?_
    refine lv_iadd hx hb dL_fork_79 ?_
    refine cSRH S5 hK (hP.sub (ws' := wH cA ad M) [0, 1, 2] rfl) (As := [.ref (ad 0), .int ((6 * p2) + q2)]) (kL_holder l D cA ad _ _) (va_cwS 2 hts gL_fork_L_holder rfl rfl rfl (by decide +kernel) ⟨(Nat.le_of_ble_eq_true rfl), (Nat.le_of_ble_eq_true rfl)⟩) rfl hl.1 (st0 := _) (rest := [.int 0, .ref o3]) rfl (Nat.le_of_ble_eq_true rfl) dL_fork_80 ⟨(by show _ ≤ 1; omega), (by show _ ≤ 3; omega)⟩ ?_
    refine asF3 S5 hK hP hD hS (by decide) (k := 0) rfl dL_fork_83 (fun H locs hP hS => ?_)
    refine lv_iload_n hx hb dL_fork_84 rfl (lv_at hl 3 rfl) ?_
    refine lv_iconst (v := 1) hx hb dL_fork_85 (by decide) ?_
    refine lv_iload hx hb dL_fork_86 (lv_at hl 6 rfl) ?_
    refine r_ishl S5 dL_fork_88 ?_
    refine lv_iconst (v := (-1)) hx hb dL_fork_89 (by decide) ?_
    refine lv_ixor hx hb dL_fork_90 ?_
    refine lv_iand hx hb dL_fork_91 ?_
    refine lv_istore_n (lv' := [(3, .int (((sr ((((M 0 0) ||| (M 0 1)) ||| (M 0 2)) ||| (M 0 3)) (6 * p2)) &&& 63) &&& ((sl 1 q2) ^^^ ((-1))))), (0, .ref (ad 0)), (1, .int p1), (2, .int p2), (4, .ref o3), (5, .int 0), (6, .int q2)]) hx hb dL_fork_92 rfl hl (by decide) rfl (fun ls hl => ?_)
    refine lv_iinc (v := 1) (lv' := [(5, .int 1), (3, .int (((sr ((((M 0 0) ||| (M 0 1)) ||| (M 0 2)) ||| (M 0 3)) (6 * p2)) &&& 63) &&& ((sl 1 q2) ^^^ ((-1))))), (0, .ref (ad 0)), (1, .int p1), (2, .int p2), (4, .ref o3), (6, .int q2)]) hx hb dL_fork_93 hl (k := 5) rfl rfl (by decide) rfl (fun ls hl => ?_)
    refine lv_goto (tgt := 32) hx hb dL_fork_96 (by decide) ?_
    refine lv_iload hx hb dL_fork_32 (lv_at hl 0 rfl) ?_
    refine lv_iconst (v := 3) hx hb dL_fork_34 (by decide) ?_
    refine lv_icmp_ge (tgt := 99) hx hb dL_fork_35 (by decide) (fun c4 => absurd c4 (by decide)) (fun c4 => ?_)
    refine lv_iconst (v := 5) hx hb dL_fork_38 (by decide) ?_
    refine lv_istore (lv' := [(6, .int 5), (5, .int 1), (3, .int (((sr ((((M 0 0) ||| (M 0 1)) ||| (M 0 2)) ||| (M 0 3)) (6 * p2)) &&& 63) &&& ((sl 1 q2) ^^^ ((-1))))), (0, .ref (ad 0)), (1, .int p1), (2, .int p2), (4, .ref o3)]) hx hb dL_fork_39 hl (by decide) rfl (fun ls hl => ?_)
    obtain ⟨q5, hqq5, h⟩ := obind_some h
    refine L41 _ _ _ _ _ _ _ _ _ _ _ _ _ hqq5 hP hS (by omega) (by omega) (lv_sub hl [3, 4, 5, 2, 6, 1, 0] rfl) (fun ls hl => ?_)
    have hl := lv_sub (l' := [(0, .ref (ad 0)), (1, .int p1), (2, .int p2), (3, .int (((sr ((((M 0 0) ||| (M 0 1)) ||| (M 0 2)) ||| (M 0 3)) (6 * p2)) &&& 63) &&& ((sl 1 q2) ^^^ ((-1))))), (4, .ref o3), (5, .int 1), (6, .int q5)]) hl [0, 1, 2, 3, 4, 5, 6] rfl
    refine lv_iload hx hb dL_fork_61 (lv_at hl 6 rfl) ?_
    refine lv_if_ge (tgt := 68) hx hb dL_fork_63 (by decide) (fun c6 => ?_) (fun c6 => ?_)
    · rw [if_pos c6] at h
      refine lv_aload hx hb dL_fork_68 (lv_at hl 4 rfl) ?_
      refine lv_iload hx hb dL_fork_70 (lv_at hl 5 rfl) ?_
      refine lv_aload_n hx hb dL_fork_72 rfl (lv_at hl 0 rfl) ?_
      refine lv_bipush (v := 6) hx hb dL_fork_73 (by decide) ?_
      refine lv_iload_n hx hb dL_fork_75 rfl (lv_at hl 2 rfl) ?_
      refine lv_imul hx hb dL_fork_76 ?_
      refine lv_iload hx hb dL_fork_77 (lv_at hl 6 rfl) ?_
      refine lv_iadd hx hb dL_fork_79 ?_
      refine cSRH S5 hK (hP.sub (ws' := wH cA ad M) [0, 1, 2] rfl) (As := [.ref (ad 0), .int ((6 * p2) + q5)]) (kL_holder l D cA ad _ _) (va_cwS 2 hts gL_fork_L_holder rfl rfl rfl (by decide +kernel) ⟨(Nat.le_of_ble_eq_true rfl), (Nat.le_of_ble_eq_true rfl)⟩) rfl hl.1 (st0 := _) (rest := [.int 1, .ref o3]) rfl (Nat.le_of_ble_eq_true rfl) dL_fork_80 ⟨(by show _ ≤ 1; omega), (by show _ ≤ 3; omega)⟩ ?_
      refine asF3 S5 hK hP hD hS (by decide) (k := 1) rfl dL_fork_83 (fun H locs hP hS => ?_)
      refine lv_iload_n hx hb dL_fork_84 rfl (lv_at hl 3 rfl) ?_
      refine lv_iconst (v := 1) hx hb dL_fork_85 (by decide) ?_
      refine lv_iload hx hb dL_fork_86 (lv_at hl 6 rfl) ?_
      refine r_ishl S5 dL_fork_88 ?_
      refine lv_iconst (v := (-1)) hx hb dL_fork_89 (by decide) ?_
      refine lv_ixor hx hb dL_fork_90 ?_
      refine lv_iand hx hb dL_fork_91 ?_
      refine lv_istore_n (lv' := [(3, .int ((((sr ((((M 0 0) ||| (M 0 1)) ||| (M 0 2)) ||| (M 0 3)) (6 * p2)) &&& 63) &&& ((sl 1 q2) ^^^ ((-1)))) &&& ((sl 1 q5) ^^^ ((-1))))), (0, .ref (ad 0)), (1, .int p1), (2, .int p2), (4, .ref o3), (5, .int 1), (6, .int q5)]) hx hb dL_fork_92 rfl hl (by decide) rfl (fun ls hl => ?_)
      refine lv_iinc (v := 2) (lv' := [(5, .int 2), (3, .int ((((sr ((((M 0 0) ||| (M 0 1)) ||| (M 0 2)) ||| (M 0 3)) (6 * p2)) &&& 63) &&& ((sl 1 q2) ^^^ ((-1)))) &&& ((sl 1 q5) ^^^ ((-1))))), (0, .ref (ad 0)), (1, .int p1), (2, .int p2), (4, .ref o3), (6, .int q5)]) hx hb dL_fork_93 hl (k := 5) rfl rfl (by decide) rfl (fun ls hl => ?_)
      refine lv_goto (tgt := 32) hx hb dL_fork_96 (by decide) ?_
      refine lv_iload hx hb dL_fork_32 (lv_at hl 0 rfl) ?_
      refine lv_iconst (v := 3) hx hb dL_fork_34 (by decide) ?_
      refine lv_icmp_ge (tgt := 99) hx hb dL_fork_35 (by decide) (fun c7 => absurd c7 (by decide)) (fun c7 => ?_)
      refine lv_iconst (v := 5) hx hb dL_fork_38 (by decide) ?_
      refine lv_istore (lv' := [(6, .int 5), (5, .int 2), (3, .int ((((sr ((((M 0 0) ||| (M 0 1)) ||| (M 0 2)) ||| (M 0 3)) (6 * p2)) &&& 63) &&& ((sl 1 q2) ^^^ ((-1)))) &&& ((sl 1 q5) ^^^ ((-1))))), (0, .ref (ad 0)), (1, .int p1), (2, .int p2), (4, .ref o3)]) hx hb dL_fork_39 hl (by decide) rfl (fun ls hl => ?_)
      obtain ⟨q8, hqq8, h⟩ := obind_some h
      refine L41 _ _ _ _ _ _ _ _ _ _ _ _ _ hqq8 hP hS (by omega) (by omega) (lv_sub hl [3, 4, 5, 2, 6, 1, 0] rfl) (fun ls hl => ?_)
      have hl := lv_sub (l' := [(0, .ref (ad 0)), (1, .int p1), (2, .int p2), (3, .int ((((sr ((((M 0 0) ||| (M 0 1)) ||| (M 0 2)) ||| (M 0 3)) (6 * p2)) &&& 63) &&& ((sl 1 q2) ^^^ ((-1)))) &&& ((sl 1 q5) ^^^ ((-1))))), (4, .ref o3), (5, .int 2), (6, .int q8)]) hl [0, 1, 2, 3, 4, 5, 6] rfl
      refine lv_iload hx hb dL_fork_61 (lv_at hl 6 rfl) ?_
      refine lv_if_ge (tgt := 68) hx hb dL_fork_63 (by decide) (fun c9 => ?_) (fun c9 => ?_)
      · rw [if_pos c9] at h
        refine lv_aload hx hb dL_fork_68 (lv_at hl 4 rfl) ?_
        refine lv_iload hx hb dL_fork_70 (lv_at hl 5 rfl) ?_
        refine lv_aload_n hx hb dL_fork_72 rfl (lv_at hl 0 rfl) ?_
        refine lv_bipush (v := 6) hx hb dL_fork_73 (by decide) ?_
        refine lv_iload_n hx hb dL_fork_75 rfl (lv_at hl 2 rfl) ?_
        refine lv_imul hx hb dL_fork_76 ?_
        refine lv_iload hx hb dL_fork_77 (lv_at hl 6 rfl) ?_
        refine lv_iadd hx hb dL_fork_79 ?_
        refine cSRH S5 hK (hP.sub (ws' := wH cA ad M) [0, 1, 2] rfl) (As := [.ref (ad 0), .int ((6 * p2) + q8)]) (kL_holder l D cA ad _ _) (va_cwS 2 hts gL_fork_L_holder rfl rfl rfl (by decide +kernel) ⟨(Nat.le_of_ble_eq_true rfl), (Nat.le_of_ble_eq_true rfl)⟩) rfl hl.1 (st0 := _) (rest := [.int 2, .ref o3]) rfl (Nat.le_of_ble_eq_true rfl) dL_fork_80 ⟨(by show _ ≤ 1; omega), (by show _ ≤ 3; omega)⟩ ?_
        refine asF3 S5 hK hP hD hS (by decide) (k := 2) rfl dL_fork_83 (fun H locs hP hS => ?_)
        refine lv_iload_n hx hb dL_fork_84 rfl (lv_at hl 3 rfl) ?_
        refine lv_iconst (v := 1) hx hb dL_fork_85 (by decide) ?_
        refine lv_iload hx hb dL_fork_86 (lv_at hl 6 rfl) ?_
        refine r_ishl S5 dL_fork_88 ?_
        refine lv_iconst (v := (-1)) hx hb dL_fork_89 (by decide) ?_
        refine lv_ixor hx hb dL_fork_90 ?_
        refine lv_iand hx hb dL_fork_91 ?_
        refine lv_istore_n (lv' := [(3, .int (((((sr ((((M 0 0) ||| (M 0 1)) ||| (M 0 2)) ||| (M 0 3)) (6 * p2)) &&& 63) &&& ((sl 1 q2) ^^^ ((-1)))) &&& ((sl 1 q5) ^^^ ((-1)))) &&& ((sl 1 q8) ^^^ ((-1))))), (0, .ref (ad 0)), (1, .int p1), (2, .int p2), (4, .ref o3), (5, .int 2), (6, .int q8)]) hx hb dL_fork_92 rfl hl (by decide) rfl (fun ls hl => ?_)
        refine lv_iinc (v := 3) (lv' := [(5, .int 3), (3, .int (((((sr ((((M 0 0) ||| (M 0 1)) ||| (M 0 2)) ||| (M 0 3)) (6 * p2)) &&& 63) &&& ((sl 1 q2) ^^^ ((-1)))) &&& ((sl 1 q5) ^^^ ((-1)))) &&& ((sl 1 q8) ^^^ ((-1))))), (0, .ref (ad 0)), (1, .int p1), (2, .int p2), (4, .ref o3), (6, .int q8)]) hx hb dL_fork_93 hl (k := 5) rfl rfl (by decide) rfl (fun ls hl => ?_)
        refine lv_goto (tgt := 32) hx hb dL_fork_96 (by decide) ?_
        refine lv_iload hx hb dL_fork_32 (lv_at hl 0 rfl) ?_
        refine lv_iconst (v := 3) hx hb dL_fork_34 (by decide) ?_
        refine lv_icmp_ge (tgt := 99) hx hb dL_fork_35 (by decide) (fun c10 => ?_) (fun c10 => absurd c10 (by decide))
        refine lv_aload hx hb dL_fork_99 (lv_at hl 5 rfl) ?_
        refine lv_iconst (v := 0) hx hb dL_fork_101 (by decide) ?_
        refine alF3 S5 hK hP (v := fL_holder ((6 * p2) + q2) M) (by decide) rfl dL_fork_102 ?_
        refine lv_iload_n hx hb dL_fork_103 rfl (lv_at hl 3 rfl) ?_
        refine lv_icmp_ne (tgt := 126) hx hb dL_fork_104 (by decide) (fun c11 => ?_) (fun c11 => ?_)
        · rw [if_neg c11] at h
          refine lv_iconst (v := 0) hx hb dL_fork_126 (by decide) ?_
          refine lv_goto (tgt := 147) hx hb dL_fork_127 (by decide) ?_
          obtain rfl := Option.some.inj h
          refine W.widen (k := 1) (n := 3) (by omega) (by omega) ?_
          exact kr _ _ _ _ _ rfl rfl (hP.sub (ws' := wH cA ad M) [0, 1, 2] rfl) hS dL_fork_147
        · rw [if_pos c11] at h
          refine lv_aload hx hb dL_fork_107 (lv_at hl 5 rfl) ?_
          refine lv_iconst (v := 2) hx hb dL_fork_109 (by decide) ?_
          refine alF3 S5 hK hP (v := fL_holder ((6 * p2) + q8) M) (by decide) rfl dL_fork_110 ?_
          refine lv_iload_n hx hb dL_fork_111 rfl (lv_at hl 3 rfl) ?_
          refine lv_icmp_ne (tgt := 126) hx hb dL_fork_112 (by decide) (fun c12 => ?_) (fun c12 => ?_)
          · rw [if_neg c12] at h
            refine lv_iconst (v := 0) hx hb dL_fork_126 (by decide) ?_
            refine lv_goto (tgt := 147) hx hb dL_fork_127 (by decide) ?_
            obtain rfl := Option.some.inj h
            refine W.widen (k := 1) (n := 3) (by omega) (by omega) ?_
            exact kr _ _ _ _ _ rfl rfl (hP.sub (ws' := wH cA ad M) [0, 1, 2] rfl) hS dL_fork_147
          · rw [if_pos c12] at h
            refine lv_aload hx hb dL_fork_115 (lv_at hl 5 rfl) ?_
            refine lv_iconst (v := 1) hx hb dL_fork_117 (by decide) ?_
            refine alF3 S5 hK hP (v := fL_holder ((6 * p2) + q5) M) (by decide) rfl dL_fork_118 ?_
            refine lv_iload_n hx hb dL_fork_119 rfl (lv_at hl 3 rfl) ?_
            refine lv_isub hx hb dL_fork_120 ?_
            refine lv_iconst (v := 1) hx hb dL_fork_121 (by decide) ?_
            refine lv_iand hx hb dL_fork_122 ?_
            refine lv_if_ne (tgt := 130) hx hb dL_fork_123 (by decide) (fun c13 => ?_) (fun c13 => ?_)
            · rw [if_neg c13] at h
              refine lv_aload hx hb dL_fork_130 (lv_at hl 5 rfl) ?_
              refine lv_iconst (v := 1) hx hb dL_fork_132 (by decide) ?_
              refine alF3 S5 hK hP (v := fL_holder ((6 * p2) + q5) M) (by decide) rfl dL_fork_133 ?_
              refine lv_iload_n hx hb dL_fork_134 rfl (lv_at hl 3 rfl) ?_
              refine lv_iconst (v := 3) hx hb dL_fork_135 (by decide) ?_
              refine lv_iadd hx hb dL_fork_136 ?_
              refine lv_iconst (v := 4) hx hb dL_fork_137 (by decide) ?_
              refine r_irem S5 dL_fork_138 (by decide) ?_
              refine lv_icmp_ne (tgt := 146) hx hb dL_fork_139 (by decide) (fun c14 => ?_) (fun c14 => ?_)
              · rw [if_neg c14] at h
                refine lv_iconst (v := 1) hx hb dL_fork_146 (by decide) ?_
                obtain rfl := Option.some.inj h
                refine W.widen (k := 1) (n := 3) (by omega) (by omega) ?_
                exact kr _ _ _ _ _ rfl rfl (hP.sub (ws' := wH cA ad M) [0, 1, 2] rfl) hS dL_fork_147
              · rw [if_pos c14] at h
                refine lv_iconst (v := 2) hx hb dL_fork_142 (by decide) ?_
                refine lv_goto (tgt := 147) hx hb dL_fork_143 (by decide) ?_
                obtain rfl := Option.some.inj h
                refine W.widen (k := 1) (n := 3) (by omega) (by omega) ?_
                exact kr _ _ _ _ _ rfl rfl (hP.sub (ws' := wH cA ad M) [0, 1, 2] rfl) hS dL_fork_147
            · rw [if_pos c13] at h
              refine lv_iconst (v := 0) hx hb dL_fork_126 (by decide) ?_
              refine lv_goto (tgt := 147) hx hb dL_fork_127 (by decide) ?_
              obtain rfl := Option.some.inj h
              refine W.widen (k := 1) (n := 3) (by omega) (by omega) ?_
              exact kr _ _ _ _ _ rfl rfl (hP.sub (ws' := wH cA ad M) [0, 1, 2] rfl) hS dL_fork_147
      · rw [if_neg c9] at h
        refine lv_iconst (v := 0) hx hb dL_fork_66 (by decide) ?_
        obtain rfl := Option.some.inj h
        refine W.widen (k := 1) (n := 3) (by omega) (by omega) ?_
        exact kr _ _ _ _ _ rfl rfl (hP.sub (ws' := wH cA ad M) [0, 1, 2] rfl) hS dL_fork_67
    · rw [if_neg c6] at h
      refine lv_iconst (v := 0) hx hb dL_fork_66 (by decide) ?_
      obtain rfl := Option.some.inj h
      refine W.widen (k := 1) (n := 3) (by omega) (by omega) ?_
      exact kr _ _ _ _ _ rfl rfl (hP.sub (ws' := wH cA ad M) [0, 1, 2] rfl) hS dL_fork_67
  · rw [if_neg c3] at h
    refine lv_iconst (v := 0) hx hb dL_fork_66 (by decide) ?_
    obtain rfl := Option.some.inj h
    refine W.widen (k := 1) (n := 3) (by omega) (by omega) ?_
    exact kr _ _ _ _ _ rfl rfl (hP.sub (ws' := wH cA ad M) [0, 1, 2] rfl) hS dL_fork_67

-- L_isGame
def fL_isGame_R376 (v4 : Int32) (v6 : Int32) (v8 : Int32) (v9 : Int32) (v12 : Int32) (v13 : Int32) (M N : Mem) : Option (Int32 × Mem × Mem) := (if (fX5_fork v9 v12 M).1 = 0 then (if ((fX5_fork v9 v12 M).2.1) = v13 then some (1, (fX5_fork v9 v12 M).2.2, N) else some (0, (fX5_fork v9 v12 M).2.2, N)) else none)
def fL_isGame_R353 (v4 : Int32) (v6 : Int32) (v8 : Int32) (v9 : Int32) (v12 : Int32) (v13 : Int32) (M N : Mem) : Option (Int32) := (if v13 = 2 then some (v8 + (1 - ((im v9 2) * 2))) else some (v8 + 0))
def fL_isGame_R147 (v4 : Int32) (v5 : Int32) (v6 : Int32) (v8 : Int32) (M N : Mem) : Option (Int32 × Mem × Mem) := (if (fX5_cardIn v8 M).1 = 0 then (if vin (((N 2 0) - v5) + v8) 16 = true then (if ((fX5_cardIn v8 M).2.1) = (N 1 ((((N 2 0) - v5) + v8).toNatClampNeg)) then some (1, (fX5_cardIn v8 M).2.2, N) else some (0, (fX5_cardIn v8 M).2.2, N)) else none) else none)
def fL_isGame_R248 (v4 : Int32) (v6 : Int32) (v8 : Int32) (v9 : Int32) (v10 : Int32) (v11 : Int32) (v12 : Int32) (M N : Mem) : Option (Int32) := (if vin v9 4 = true then (if (fL_has (N 0 v9.toNatClampNeg) v12) = 0 then some (v11 + 0) else (obind (fL_isTop v12 N) (fun q146 => (if q146 = 0 then some (v11 + 0) else some (v11 + 1))))) else none)
def fL_isGame_R24 (v4 : Int32) (v5 : Int32) (M N : Mem) : Option (Int32) := (if (N 2 3) = 0 then some ((-1)) else (if v4 = 0 then some ((-1)) else (obind (fL_leader (N 2 0) N) (fun q11 => some (im (q11 + v5) 4)))))
def fL_isGame_R213 (v4 : Int32) (v6 : Int32) (v8 : Int32) (v9 : Int32) (v10 : Int32) (v11 : Int32) (v12 : Int32) (M N : Mem) : Option (Int32) := (if vin v9 4 = true then (if (fL_has (N 0 v9.toNatClampNeg) v12) = 0 then some (v10 + 0) else (obind (fL_lowest v12 N) (fun q142 => (if q142 = v12 then some (v10 + 1) else some (v10 + 0))))) else none)
def fL_isGame_R287 (v4 : Int32) (v6 : Int32) (v8 : Int32) (v9 : Int32) (v10 : Int32) (v11 : Int32) (M N : Mem) : Option (Int32 × Mem × Mem) := (if (fX5_hand v9 M).1 = 0 then (if vin v9 4 = true then (if ((fX5_hand v9 M).2.1) = (N 0 v9.toNatClampNeg) then (obind (fX5_unlike v9 ((fX5_hand v9 M).2.2)) (fun q57 => (if q57.1 = 0 then (if q57.2.1 = v10 then (obind (fX5_quick v9 q57.2.2) (fun q60 => (if q60.1 = 0 then (if q60.2.1 = v11 then some (1, q60.2.2, N) else some (0, q60.2.2, N)) else none))) else some (0, q57.2.2, N)) else none))) else some (0, (fX5_hand v9 M).2.2, N)) else none) else none)
def fL_isGame_L135 : Nat → Int32 → Int32 → Int32 → Int32 → Int32 → Mem → Mem → Option (Int32 × Mem × Mem)
  | 0, _, _, _, _, _, _, _ => none
  | n + 1, v4, v5, v6, v7, v8, M, N => (if v5 ≤ v8 then some (v7, M, N) else (if v7 = 0 then some (v7, M, N) else (obind (fL_isGame_R147 v4 v5 v6 v8 M N) (fun q38 => fL_isGame_L135 n v4 v5 v6 q38.1 (v8 + 1) q38.2.1 q38.2.2))))
def fL_isGame_L332 : Nat → Int32 → Int32 → Int32 → Int32 → Int32 → Int32 → Mem → Mem → Option (Int32 × Int32 × Mem × Mem)
  | 0, _, _, _, _, _, _, _, _ => none
  | n + 1, v4, v6, v7, v8, v9, v12, M, N => (if 4 ≤ v12 then some (v7, v8, M, N) else (if v7 = 0 then some (v7, v8, M, N) else (obind (fL_fork v9 v12 N) (fun q64 => (obind (fL_isGame_R353 v4 v6 v8 v9 v12 q64 M N) (fun q65 => (obind (fL_isGame_R376 v4 v6 q65 v9 v12 q64 M N) (fun q66 => fL_isGame_L332 n v4 v6 q66.1 q65 v9 (v12 + 1) q66.2.1 q66.2.2))))))))
def fL_isGame_L206 : Nat → Int32 → Int32 → Int32 → Int32 → Int32 → Int32 → Int32 → Mem → Mem → Option (Int32 × Int32)
  | 0, _, _, _, _, _, _, _, _, _ => none
  | n + 1, v4, v6, v8, v9, v10, v11, v12, M, N => (if 24 ≤ v12 then some (v10, v11) else (obind (fL_isGame_R213 v4 v6 v8 v9 v10 v11 v12 M N) (fun q51 => (obind (fL_isGame_R248 v4 v6 v8 v9 q51 v11 v12 M N) (fun q52 => fL_isGame_L206 n v4 v6 v8 v9 q51 q52 (v12 + 1) M N)))))
def fL_isGame_R54 (v4 : Int32) (v5 : Int32) (v6 : Int32) (M N : Mem) : Option (Int32 × Mem × Mem) := (obind (fX5_isStarted M) (fun q12 => (if (N 2 3) = 1 then (if q12 = 1 then (if (fX5_turn M) = v6 then (if (fX5_inTrick M) = v5 then (obind (fX5_won 0 M) (fun q29 => (if q29.1 = 0 then (obind (fL_tricks (N 2 0) 0 N) (fun q30 => (if q29.2.1 = q30 then (obind (fX5_won 1 q29.2.2) (fun q33 => (if q33.1 = 0 then (obind (fL_tricks (N 2 0) 1 N) (fun q34 => (if q33.2.1 = q34 then some (1, q33.2.2, N) else some (0, q33.2.2, N)))) else none))) else some (0, q29.2.2, N)))) else none))) else some (0, M, N)) else some (0, M, N)) else some (0, M, N)) else (if q12 = 0 then (if (fX5_turn M) = v6 then (if (fX5_inTrick M) = v5 then (obind (fX5_won 0 M) (fun q18 => (if q18.1 = 0 then (obind (fL_tricks (N 2 0) 0 N) (fun q19 => (if q18.2.1 = q19 then (obind (fX5_won 1 q18.2.2) (fun q22 => (if q22.1 = 0 then (obind (fL_tricks (N 2 0) 1 N) (fun q23 => (if q22.2.1 = q23 then some (1, q22.2.2, N) else some (0, q22.2.2, N)))) else none))) else some (0, q18.2.2, N)))) else none))) else some (0, M, N)) else some (0, M, N)) else some (0, M, N)))))
def fL_isGame_R423 (v4 : Int32) (v6 : Int32) (v8 : Int32) (v9 : Int32) (M N : Mem) : Option (Int32 × Mem × Mem) := (if (fX5_canPlay v9 M).1 = 0 then (if v6 < 0 then (if ((fX5_canPlay v9 M).2.1) = 0 then (obind (fX5_lowestEqual v9 ((fX5_canPlay v9 M).2.2)) (fun q71 => (if q71.1 = 0 ∨ q71.1 = 2 then (if (fL_has v4 v9) = 0 then (if (dv q71) = ((-13)) then (obind (fX5_isTop v9 q71.2.2) (fun q75 => (if q75.1 = 0 ∨ q75.1 = 2 then (if (fL_has v4 v9) = 0 then (if (dv9 q75) = ((-13)) then some (1, q75.2.2, N) else some (0, q75.2.2, N)) else (obind (fL_isTop v9 N) (fun q77 => (if q77 = 0 then (if (dv9 q75) = 0 then some (1, q75.2.2, N) else some (0, q75.2.2, N)) else (if (dv9 q75) = 1 then some (1, q75.2.2, N) else some (0, q75.2.2, N)))))) else none))) else some (0, q71.2.2, N)) else (obind (fL_lowest v9 N) (fun q82 => (if (dv q71) = q82 then (obind (fX5_isTop v9 q71.2.2) (fun q85 => (if q85.1 = 0 ∨ q85.1 = 2 then (if (fL_has v4 v9) = 0 then (if (dv9 q85) = ((-13)) then some (1, q85.2.2, N) else some (0, q85.2.2, N)) else (obind (fL_isTop v9 N) (fun q87 => (if q87 = 0 then (if (dv9 q85) = 0 then some (1, q85.2.2, N) else some (0, q85.2.2, N)) else (if (dv9 q85) = 1 then some (1, q85.2.2, N) else some (0, q85.2.2, N)))))) else none))) else some (0, q71.2.2, N))))) else none))) else some (0, (fX5_canPlay v9 M).2.2, N)) else (obind (fL_can (N 2 0) v9 N) (fun q92 => (if q92 = 0 then (if ((fX5_canPlay v9 M).2.1) = 0 then (obind (fX5_lowestEqual v9 ((fX5_canPlay v9 M).2.2)) (fun q96 => (if q96.1 = 0 ∨ q96.1 = 2 then (if (fL_has v4 v9) = 0 then (if (dv q96) = ((-13)) then (obind (fX5_isTop v9 q96.2.2) (fun q100 => (if q100.1 = 0 ∨ q100.1 = 2 then (if (fL_has v4 v9) = 0 then (if (dv9 q100) = ((-13)) then some (1, q100.2.2, N) else some (0, q100.2.2, N)) else (obind (fL_isTop v9 N) (fun q102 => (if q102 = 0 then (if (dv9 q100) = 0 then some (1, q100.2.2, N) else some (0, q100.2.2, N)) else (if (dv9 q100) = 1 then some (1, q100.2.2, N) else some (0, q100.2.2, N)))))) else none))) else some (0, q96.2.2, N)) else (obind (fL_lowest v9 N) (fun q107 => (if (dv q96) = q107 then (obind (fX5_isTop v9 q96.2.2) (fun q110 => (if q110.1 = 0 ∨ q110.1 = 2 then (if (fL_has v4 v9) = 0 then (if (dv9 q110) = ((-13)) then some (1, q110.2.2, N) else some (0, q110.2.2, N)) else (obind (fL_isTop v9 N) (fun q112 => (if q112 = 0 then (if (dv9 q110) = 0 then some (1, q110.2.2, N) else some (0, q110.2.2, N)) else (if (dv9 q110) = 1 then some (1, q110.2.2, N) else some (0, q110.2.2, N)))))) else none))) else some (0, q96.2.2, N))))) else none))) else some (0, (fX5_canPlay v9 M).2.2, N)) else (if ((fX5_canPlay v9 M).2.1) = 1 then (obind (fX5_lowestEqual v9 ((fX5_canPlay v9 M).2.2)) (fun q119 => (if q119.1 = 0 ∨ q119.1 = 2 then (if (fL_has v4 v9) = 0 then (if (dv q119) = ((-13)) then (obind (fX5_isTop v9 q119.2.2) (fun q123 => (if q123.1 = 0 ∨ q123.1 = 2 then (if (fL_has v4 v9) = 0 then (if (dv9 q123) = ((-13)) then some (1, q123.2.2, N) else some (0, q123.2.2, N)) else (obind (fL_isTop v9 N) (fun q125 => (if q125 = 0 then (if (dv9 q123) = 0 then some (1, q123.2.2, N) else some (0, q123.2.2, N)) else (if (dv9 q123) = 1 then some (1, q123.2.2, N) else some (0, q123.2.2, N)))))) else none))) else some (0, q119.2.2, N)) else (obind (fL_lowest v9 N) (fun q130 => (if (dv q119) = q130 then (obind (fX5_isTop v9 q119.2.2) (fun q133 => (if q133.1 = 0 ∨ q133.1 = 2 then (if (fL_has v4 v9) = 0 then (if (dv9 q133) = ((-13)) then some (1, q133.2.2, N) else some (0, q133.2.2, N)) else (obind (fL_isTop v9 N) (fun q135 => (if q135 = 0 then (if (dv9 q133) = 0 then some (1, q133.2.2, N) else some (0, q133.2.2, N)) else (if (dv9 q133) = 1 then some (1, q133.2.2, N) else some (0, q133.2.2, N)))))) else none))) else some (0, q119.2.2, N))))) else none))) else some (0, (fX5_canPlay v9 M).2.2, N)))))) else none)
def fL_isGame_L411 : Nat → Int32 → Int32 → Int32 → Int32 → Int32 → Mem → Mem → Option (Int32 × Mem × Mem)
  | 0, _, _, _, _, _, _, _ => none
  | n + 1, v4, v6, v7, v8, v9, M, N => (if 24 ≤ v9 then some (v7, M, N) else (if v7 = 0 then some (v7, M, N) else (obind (fL_isGame_R423 v4 v6 v8 v9 M N) (fun q46 => fL_isGame_L411 n v4 v6 q46.1 v8 (v9 + 1) q46.2.1 q46.2.2))))
def fL_isGame_L186 : Nat → Int32 → Int32 → Int32 → Int32 → Int32 → Mem → Mem → Option (Int32 × Int32 × Mem × Mem)
  | 0, _, _, _, _, _, _, _ => none
  | n + 1, v4, v6, v7, v8, v9, M, N => (if 4 ≤ v9 then some (v7, v8, M, N) else (if v7 = 0 then some (v7, v8, M, N) else (obind (fL_isGame_L206 25 v4 v6 v8 v9 0 0 0 M N) (fun q41 => (obind (fL_isGame_R287 v4 v6 v8 v9 q41.1 q41.2 M N) (fun q42 => (obind (fL_isGame_L332 5 v4 v6 q42.1 v8 v9 0 q42.2.1 q42.2.2) (fun q43 => fL_isGame_L186 n v4 v6 q43.1 q43.2.1 (v9 + 1) q43.2.2.1 q43.2.2.2))))))))
def fL_isGame (M N : Mem) : Option (Int32 × Mem × Mem) := (obind (fL_isGame_R24 ((((N 0 0) ||| (N 0 1)) ||| (N 0 2)) ||| (N 0 3)) (im (N 2 0) 4) M N) (fun q1 => (obind (fL_isGame_R54 ((((N 0 0) ||| (N 0 1)) ||| (N 0 2)) ||| (N 0 3)) (im (N 2 0) 4) q1 M N) (fun q2 => (obind (fL_isGame_L135 5 ((((N 0 0) ||| (N 0 1)) ||| (N 0 2)) ||| (N 0 3)) (im (N 2 0) 4) q1 q2.1 0 q2.2.1 q2.2.2) (fun q3 => (obind (fL_isGame_L186 5 ((((N 0 0) ||| (N 0 1)) ||| (N 0 2)) ||| (N 0 3)) q1 q3.1 0 0 q3.2.1 q3.2.2) (fun q4 => (obind (fL_isGame_L411 25 ((((N 0 0) ||| (N 0 1)) ||| (N 0 2)) ||| (N 0 3)) q1 q4.1 q4.2.1 0 q4.2.2.1 q4.2.2.2) (fun q5 => (if q5.1 = 0 then some (0, q5.2.1, q5.2.2) else (obind (fX5_goodForks q5.2.1) (fun q7 => (if q7 = q4.2.1 then some (1, q5.2.1, q5.2.2) else some (0, q5.2.1, q5.2.2)))))))))))))))
def rmL_isGame : Room := { frames := 10, cells := 222, slots := 1257, locals := 148 }
set_option maxHeartbeats 8000000 in
set_option maxRecDepth 100000 in
theorem kL_isGame (l : Launch) (D : va_G) (cA : Nat) (ad ah sa : Nat → Nat) (hst : l.stackTraces = false) (M N : Mem) (r : Int32 × Mem × Mem) (h : fL_isGame M N = some r) : Gi l yL_isGame wsL_isGame rmL_isGame D cA ad ah sa M N [.ref (ad 8), .ref (ah 0), .ref (ah 1), .ref (ah 2)] 222 1257 r := by
  unfold fL_isGame at h
  refine Gi.of rfl rfl rfl (Nat.le_of_ble_eq_true rfl) ?_
  intro p e s m args below meth c Q ls A eA S5 hK hP hQ hD hS hT hl kr
  have hA : ∀ (H : Heap) (q : Nat), s.heap.size ≤ H.size → AX ad H.size q → A q := fun H q hz h => by rw [eA]; exact Or.inl (AX.mono hz h)
  have hAh : ∀ (H : Heap) (q : Nat), s.heap.size ≤ H.size → AXH ah H.size q → A q := fun H q hz h => by rw [eA]; exact Or.inr (AXH.mono hz h)
  obtain ⟨hx, hb, -, -, hts⟩ := id S5
  have R376 : ∀ (v4 : Int32) (v6 : Int32) (v8 : Int32) (v9 : Int32) (v12 : Int32) (v13 : Int32) (M N : Mem) (r' : Int32 × Mem × Mem) (H : Heap) (locs : List Loc) (ls : Array Slot) (cells slots : Nat), fL_isGame_R376 v4 v6 v8 v9 v12 v13 M N = some r' → va_P D vwCl (wX cA ad M) H → va_P D vwCl (wH cA ah N) H → va_S A s.heap H locs → cells + 2 ≤ 222 → slots + 12 ≤ 1257 → lv_has ls 14 [(0, .ref (ad 8)), (1, .ref (ah 0)), (2, .ref (ah 1)), (3, .ref (ah 2)), (4, .int v4), (6, .int v6), (8, .int v8), (9, .int v9), (12, .int v12), (13, .int v13)] → (∀ (H : Heap) (locs : List Loc), va_P D vwCl (wX cA ad (r'.2.1)) H → va_P D vwCl (wH cA ah (r'.2.2)) H → va_S A s.heap H locs → ∀ (ls : Array Slot), lv_has ls 14 [(0, .ref (ad 8)), (1, .ref (ah 0)), (2, .ref (ah 1)), (3, .ref (ah 2)), (4, .int v4), (6, .int v6), (7, .int (r'.1)), (8, .int v8), (9, .int v9), (12, .int v12)] → W p l e rmL_isGame s m args below meth c H locs (cells + 2) (slots + 12) Q (F0 m 396 ls [])) → W p l e rmL_isGame s m args below meth c H locs cells slots Q (F0 m 376 ls []) := by
    intro v4 v6 v8 v9 v12 v13 M N r' H locs ls cells slots h hP hQ hS hc hs hl kk
    unfold fL_isGame_R376 at h
    refine lv_aload_n hx hb dL_isGame_376 rfl (lv_at hl 0 rfl) ?_
    refine lv_iload hx hb dL_isGame_377 (lv_at hl 7 rfl) ?_
    refine lv_iload hx hb dL_isGame_379 (lv_at hl 8 rfl) ?_
    obtain ⟨g149, h⟩ := gd_some h
    refine cTY S5 hK hP hQ hD hS hT (fun _ h => hA _ _ hS.1 h) (As := [.int v9, .int v12]) (kX5_fork l D cA ad sa hst _ _ _) g149 (cwV 2 hts gL_isGame_X5_fork rfl rfl rfl (by decide +kernel) ⟨(Nat.le_of_ble_eq_true rfl), (Nat.le_of_ble_eq_true rfl)⟩) rfl hl.1 (st0 := _) (rest := []) rfl (Nat.le_of_ble_eq_true rfl) dL_isGame_381 ⟨(by show _ ≤ 222; omega), (by show _ ≤ 1257; omega)⟩ (fun H locs hP hQ hS => ?_)
    refine lv_iload hx hb dL_isGame_384 (lv_at hl 9 rfl) ?_
    refine lv_icmp_ne (tgt := 393) hx hb dL_isGame_386 (by decide) (fun c150 => ?_) (fun c150 => ?_)
    · rw [if_neg c150] at h
      refine lv_iconst (v := 0) hx hb dL_isGame_393 (by decide) ?_
      refine lv_istore (lv' := [(7, .int 0), (0, .ref (ad 8)), (1, .ref (ah 0)), (2, .ref (ah 1)), (3, .ref (ah 2)), (4, .int v4), (6, .int v6), (8, .int v8), (9, .int v9), (12, .int v12), (13, .int v13)]) hx hb dL_isGame_394 hl (by decide) rfl (fun ls hl => ?_)
      obtain rfl := Option.some.inj h
      refine W.widen (k := cells + 2) (n := slots + 12) (by omega) (by omega) ?_
      exact kk _ _ hP hQ hS _ (lv_sub hl [1, 2, 3, 4, 5, 6, 0, 7, 8, 9] rfl)
    · rw [if_pos c150] at h
      refine lv_iconst (v := 1) hx hb dL_isGame_389 (by decide) ?_
      refine lv_goto (tgt := 394) hx hb dL_isGame_390 (by decide) ?_
      refine lv_istore (lv' := [(7, .int 1), (0, .ref (ad 8)), (1, .ref (ah 0)), (2, .ref (ah 1)), (3, .ref (ah 2)), (4, .int v4), (6, .int v6), (8, .int v8), (9, .int v9), (12, .int v12), (13, .int v13)]) hx hb dL_isGame_394 hl (by decide) rfl (fun ls hl => ?_)
      obtain rfl := Option.some.inj h
      refine W.widen (k := cells + 2) (n := slots + 12) (by omega) (by omega) ?_
      exact kk _ _ hP hQ hS _ (lv_sub hl [1, 2, 3, 4, 5, 6, 0, 7, 8, 9] rfl)
  have R353 : ∀ (v4 : Int32) (v6 : Int32) (v8 : Int32) (v9 : Int32) (v12 : Int32) (v13 : Int32) (M N : Mem) (r' : Int32) (H : Heap) (locs : List Loc) (ls : Array Slot) (cells slots : Nat), fL_isGame_R353 v4 v6 v8 v9 v12 v13 M N = some r' → va_P D vwCl (wX cA ad M) H → va_P D vwCl (wH cA ah N) H → va_S A s.heap H locs → cells + 0 ≤ 222 → slots + 0 ≤ 1257 → lv_has ls 14 [(0, .ref (ad 8)), (1, .ref (ah 0)), (2, .ref (ah 1)), (3, .ref (ah 2)), (4, .int v4), (6, .int v6), (8, .int v8), (9, .int v9), (12, .int v12), (13, .int v13)] → (∀ (ls : Array Slot), lv_has ls 14 [(0, .ref (ad 8)), (1, .ref (ah 0)), (2, .ref (ah 1)), (3, .ref (ah 2)), (4, .int v4), (6, .int v6), (8, .int (r')), (9, .int v9), (12, .int v12), (13, .int v13)] → W p l e rmL_isGame s m args below meth c H locs (cells + 0) (slots + 0) Q (F0 m 376 ls [])) → W p l e rmL_isGame s m args below meth c H locs cells slots Q (F0 m 353 ls []) := by
    intro v4 v6 v8 v9 v12 v13 M N r' H locs ls cells slots h hP hQ hS hc hs hl kk
    unfold fL_isGame_R353 at h
    refine lv_iload hx hb dL_isGame_353 (lv_at hl 6 rfl) ?_
    refine lv_iload hx hb dL_isGame_355 (lv_at hl 9 rfl) ?_
    refine lv_iconst (v := 2) hx hb dL_isGame_357 (by decide) ?_
    refine lv_icmp_ne (tgt := 372) hx hb dL_isGame_358 (by decide) (fun c148 => ?_) (fun c148 => ?_)
    · rw [if_neg c148] at h
      refine lv_iconst (v := 0) hx hb dL_isGame_372 (by decide) ?_
      refine lv_iadd hx hb dL_isGame_373 ?_
      refine lv_istore (lv' := [(8, .int (v8 + 0)), (0, .ref (ad 8)), (1, .ref (ah 0)), (2, .ref (ah 1)), (3, .ref (ah 2)), (4, .int v4), (6, .int v6), (9, .int v9), (12, .int v12), (13, .int v13)]) hx hb dL_isGame_374 hl (by decide) rfl (fun ls hl => ?_)
      obtain rfl := Option.some.inj h
      refine W.widen (k := cells + 0) (n := slots + 0) (by omega) (by omega) ?_
      exact kk _ (lv_sub hl [1, 2, 3, 4, 5, 6, 0, 7, 8, 9] rfl)
    · rw [if_pos c148] at h
      refine lv_iconst (v := 1) hx hb dL_isGame_361 (by decide) ?_
      refine lv_iload hx hb dL_isGame_362 (lv_at hl 7 rfl) ?_
      refine lv_iconst (v := 2) hx hb dL_isGame_364 (by decide) ?_
      refine r_irem S5 dL_isGame_365 (by decide) ?_
      refine lv_iconst (v := 2) hx hb dL_isGame_366 (by decide) ?_
      refine lv_imul hx hb dL_isGame_367 ?_
      refine lv_isub hx hb dL_isGame_368 ?_
      refine lv_goto (tgt := 373) hx hb dL_isGame_369 (by decide) ?_
      refine lv_iadd hx hb dL_isGame_373 ?_
      refine lv_istore (lv' := [(8, .int (v8 + (1 - ((im v9 2) * 2)))), (0, .ref (ad 8)), (1, .ref (ah 0)), (2, .ref (ah 1)), (3, .ref (ah 2)), (4, .int v4), (6, .int v6), (9, .int v9), (12, .int v12), (13, .int v13)]) hx hb dL_isGame_374 hl (by decide) rfl (fun ls hl => ?_)
      obtain rfl := Option.some.inj h
      refine W.widen (k := cells + 0) (n := slots + 0) (by omega) (by omega) ?_
      exact kk _ (lv_sub hl [1, 2, 3, 4, 5, 6, 0, 7, 8, 9] rfl)
  have R147 : ∀ (v4 : Int32) (v5 : Int32) (v6 : Int32) (v8 : Int32) (M N : Mem) (r' : Int32 × Mem × Mem) (H : Heap) (locs : List Loc) (ls : Array Slot) (cells slots : Nat), fL_isGame_R147 v4 v5 v6 v8 M N = some r' → va_P D vwCl (wX cA ad M) H → va_P D vwCl (wH cA ah N) H → va_S A s.heap H locs → cells + 1 ≤ 222 → slots + 6 ≤ 1257 → lv_has ls 14 [(0, .ref (ad 8)), (1, .ref (ah 0)), (2, .ref (ah 1)), (3, .ref (ah 2)), (4, .int v4), (5, .int v5), (6, .int v6), (8, .int v8)] → (∀ (H : Heap) (locs : List Loc), va_P D vwCl (wX cA ad (r'.2.1)) H → va_P D vwCl (wH cA ah (r'.2.2)) H → va_S A s.heap H locs → ∀ (ls : Array Slot), lv_has ls 14 [(0, .ref (ad 8)), (1, .ref (ah 0)), (2, .ref (ah 1)), (3, .ref (ah 2)), (4, .int v4), (5, .int v5), (6, .int v6), (7, .int (r'.1)), (8, .int v8)] → W p l e rmL_isGame s m args below meth c H locs (cells + 1) (slots + 6) Q (F0 m 174 ls [])) → W p l e rmL_isGame s m args below meth c H locs cells slots Q (F0 m 147 ls []) := by
    intro v4 v5 v6 v8 M N r' H locs ls cells slots h hP hQ hS hc hs hl kk
    unfold fL_isGame_R147 at h
    refine lv_aload_n hx hb dL_isGame_147 rfl (lv_at hl 0 rfl) ?_
    refine lv_iload hx hb dL_isGame_148 (lv_at hl 7 rfl) ?_
    obtain ⟨g47, h⟩ := gd_some h
    refine cTY S5 hK hP hQ hD hS hT (fun _ h => hA _ _ hS.1 h) (As := [.int v8]) (kX5_cardIn l D cA ad sa hst _ _) g47 (cwV 1 hts gL_isGame_X5_cardIn rfl rfl rfl (by decide +kernel) ⟨(Nat.le_of_ble_eq_true rfl), (Nat.le_of_ble_eq_true rfl)⟩) rfl hl.1 (st0 := _) (rest := []) rfl (Nat.le_of_ble_eq_true rfl) dL_isGame_150 ⟨(by show _ ≤ 222; omega), (by show _ ≤ 1257; omega)⟩ (fun H locs hP hQ hS => ?_)
    refine lv_aload_n hx hb dL_isGame_153 rfl (lv_at hl 2 rfl) ?_
    refine lv_aload_n hx hb dL_isGame_154 rfl (lv_at hl 3 rfl) ?_
    refine lv_iconst (v := 0) hx hb dL_isGame_155 (by decide) ?_
    refine alH2 S5 hK hQ (v := N 2 0) (by decide) rfl dL_isGame_156 ?_
    refine lv_iload hx hb dL_isGame_157 (lv_at hl 5 rfl) ?_
    refine lv_isub hx hb dL_isGame_159 ?_
    refine lv_iload hx hb dL_isGame_160 (lv_at hl 7 rfl) ?_
    refine lv_iadd hx hb dL_isGame_162 ?_
    obtain ⟨g48, h⟩ := gd_some h
    refine alH1 S5 hK hQ (v := N 1 ((((N 2 0) - v5) + v8).toNatClampNeg)) g48 rfl dL_isGame_163 ?_
    refine lv_icmp_ne (tgt := 171) hx hb dL_isGame_164 (by decide) (fun c49 => ?_) (fun c49 => ?_)
    · rw [if_neg c49] at h
      refine lv_iconst (v := 0) hx hb dL_isGame_171 (by decide) ?_
      refine lv_istore (lv' := [(7, .int 0), (0, .ref (ad 8)), (1, .ref (ah 0)), (2, .ref (ah 1)), (3, .ref (ah 2)), (4, .int v4), (5, .int v5), (6, .int v6), (8, .int v8)]) hx hb dL_isGame_172 hl (by decide) rfl (fun ls hl => ?_)
      obtain rfl := Option.some.inj h
      refine W.widen (k := cells + 1) (n := slots + 6) (by omega) (by omega) ?_
      exact kk _ _ hP hQ hS _ (lv_sub hl [1, 2, 3, 4, 5, 6, 7, 0, 8] rfl)
    · rw [if_pos c49] at h
      refine lv_iconst (v := 1) hx hb dL_isGame_167 (by decide) ?_
      refine lv_goto (tgt := 172) hx hb dL_isGame_168 (by decide) ?_
      refine lv_istore (lv' := [(7, .int 1), (0, .ref (ad 8)), (1, .ref (ah 0)), (2, .ref (ah 1)), (3, .ref (ah 2)), (4, .int v4), (5, .int v5), (6, .int v6), (8, .int v8)]) hx hb dL_isGame_172 hl (by decide) rfl (fun ls hl => ?_)
      obtain rfl := Option.some.inj h
      refine W.widen (k := cells + 1) (n := slots + 6) (by omega) (by omega) ?_
      exact kk _ _ hP hQ hS _ (lv_sub hl [1, 2, 3, 4, 5, 6, 7, 0, 8] rfl)
  have R248 : ∀ (v4 : Int32) (v6 : Int32) (v8 : Int32) (v9 : Int32) (v10 : Int32) (v11 : Int32) (v12 : Int32) (M N : Mem) (r' : Int32) (H : Heap) (locs : List Loc) (ls : Array Slot) (cells slots : Nat), fL_isGame_R248 v4 v6 v8 v9 v10 v11 v12 M N = some r' → va_P D vwCl (wX cA ad M) H → va_P D vwCl (wH cA ah N) H → va_S A s.heap H locs → cells + 0 ≤ 222 → slots + 0 ≤ 1257 → lv_has ls 14 [(0, .ref (ad 8)), (1, .ref (ah 0)), (2, .ref (ah 1)), (3, .ref (ah 2)), (4, .int v4), (6, .int v6), (8, .int v8), (9, .int v9), (10, .int v10), (11, .int v11), (12, .int v12)] → (∀ (ls : Array Slot), lv_has ls 14 [(0, .ref (ad 8)), (1, .ref (ah 0)), (2, .ref (ah 1)), (3, .ref (ah 2)), (4, .int v4), (6, .int v6), (8, .int v8), (9, .int v9), (10, .int v10), (11, .int (r')), (12, .int v12)] → W p l e rmL_isGame s m args below meth c H locs (cells + 0) (slots + 0) Q (F0 m 281 ls [])) → W p l e rmL_isGame s m args below meth c H locs cells slots Q (F0 m 248 ls []) := by
    intro v4 v6 v8 v9 v10 v11 v12 M N r' H locs ls cells slots h hP hQ hS hc hs hl kk
    unfold fL_isGame_R248 at h
    refine lv_iload hx hb dL_isGame_248 (lv_at hl 9 rfl) ?_
    refine lv_aload_n hx hb dL_isGame_250 rfl (lv_at hl 1 rfl) ?_
    refine lv_iload hx hb dL_isGame_251 (lv_at hl 7 rfl) ?_
    obtain ⟨g144, h⟩ := gd_some h
    refine alH0 S5 hK hQ (v := N 0 v9.toNatClampNeg) g144 rfl dL_isGame_253 ?_
    refine lv_iload hx hb dL_isGame_254 (lv_at hl 10 rfl) ?_
    refine cS S5 (As := [.int (N 0 v9.toNatClampNeg), .int v12]) (kL_has l _ _) (va_cwS 2 hts gL_isGame_L_has rfl rfl rfl (by decide +kernel) ⟨(Nat.le_of_ble_eq_true rfl), (Nat.le_of_ble_eq_true rfl)⟩) rfl hl.1 (st0 := _) (rest := [.int v11]) rfl (Nat.le_of_ble_eq_true rfl) dL_isGame_256 ⟨(by show _ ≤ 222; omega), (by show _ ≤ 1257; omega)⟩ ?_
    refine lv_if_eq (tgt := 277) hx hb dL_isGame_259 (by decide) (fun c145 => ?_) (fun c145 => ?_)
    · rw [if_pos c145] at h
      refine lv_iconst (v := 0) hx hb dL_isGame_277 (by decide) ?_
      refine lv_iadd hx hb dL_isGame_278 ?_
      refine lv_istore (lv' := [(11, .int (v11 + 0)), (0, .ref (ad 8)), (1, .ref (ah 0)), (2, .ref (ah 1)), (3, .ref (ah 2)), (4, .int v4), (6, .int v6), (8, .int v8), (9, .int v9), (10, .int v10), (12, .int v12)]) hx hb dL_isGame_279 hl (by decide) rfl (fun ls hl => ?_)
      obtain rfl := Option.some.inj h
      refine W.widen (k := cells + 0) (n := slots + 0) (by omega) (by omega) ?_
      exact kk _ (lv_sub hl [1, 2, 3, 4, 5, 6, 7, 8, 9, 0, 10] rfl)
    · rw [if_neg c145] at h
      refine lv_aload_n hx hb dL_isGame_262 rfl (lv_at hl 1 rfl) ?_
      refine lv_aload_n hx hb dL_isGame_263 rfl (lv_at hl 2 rfl) ?_
      refine lv_aload_n hx hb dL_isGame_264 rfl (lv_at hl 3 rfl) ?_
      refine lv_iload hx hb dL_isGame_265 (lv_at hl 10 rfl) ?_
      obtain ⟨q146, hqq146, h⟩ := obind_some h
      refine cSRH S5 hK hQ (As := [.ref (ah 0), .ref (ah 1), .ref (ah 2), .int v12]) (kL_isTop l D cA ah _ _ _ hqq146) (va_cwS 4 hts gL_isGame_L_isTop rfl rfl rfl (by decide +kernel) ⟨(Nat.le_of_ble_eq_true rfl), (Nat.le_of_ble_eq_true rfl)⟩) rfl hl.1 (st0 := _) (rest := [.int v11]) rfl (Nat.le_of_ble_eq_true rfl) dL_isGame_267 ⟨(by show _ ≤ 222; omega), (by show _ ≤ 1257; omega)⟩ ?_
      refine lv_if_eq (tgt := 277) hx hb dL_isGame_270 (by decide) (fun c147 => ?_) (fun c147 => ?_)
      · rw [if_pos c147] at h
        refine lv_iconst (v := 0) hx hb dL_isGame_277 (by decide) ?_
        refine lv_iadd hx hb dL_isGame_278 ?_
        refine lv_istore (lv' := [(11, .int (v11 + 0)), (0, .ref (ad 8)), (1, .ref (ah 0)), (2, .ref (ah 1)), (3, .ref (ah 2)), (4, .int v4), (6, .int v6), (8, .int v8), (9, .int v9), (10, .int v10), (12, .int v12)]) hx hb dL_isGame_279 hl (by decide) rfl (fun ls hl => ?_)
        obtain rfl := Option.some.inj h
        refine W.widen (k := cells + 0) (n := slots + 0) (by omega) (by omega) ?_
        exact kk _ (lv_sub hl [1, 2, 3, 4, 5, 6, 7, 8, 9, 0, 10] rfl)
      · rw [if_neg c147] at h
        refine lv_iconst (v := 1) hx hb dL_isGame_273 (by decide) ?_
        refine lv_goto (tgt := 278) hx hb dL_isGame_274 (by decide) ?_
        refine lv_iadd hx hb dL_isGame_278 ?_
        refine lv_istore (lv' := [(11, .int (v11 + 1)), (0, .ref (ad 8)), (1, .ref (ah 0)), (2, .ref (ah 1)), (3, .ref (ah 2)), (4, .int v4), (6, .int v6), (8, .int v8), (9, .int v9), (10, .int v10), (12, .int v12)]) hx hb dL_isGame_279 hl (by decide) rfl (fun ls hl => ?_)
        obtain rfl := Option.some.inj h
        refine W.widen (k := cells + 0) (n := slots + 0) (by omega) (by omega) ?_
        exact kk _ (lv_sub hl [1, 2, 3, 4, 5, 6, 7, 8, 9, 0, 10] rfl)
  have R24 : ∀ (v4 : Int32) (v5 : Int32) (M N : Mem) (r' : Int32) (H : Heap) (locs : List Loc) (ls : Array Slot) (cells slots : Nat), fL_isGame_R24 v4 v5 M N = some r' → va_P D vwCl (wX cA ad M) H → va_P D vwCl (wH cA ah N) H → va_S A s.heap H locs → cells + 0 ≤ 222 → slots + 0 ≤ 1257 → lv_has ls 14 [(0, .ref (ad 8)), (1, .ref (ah 0)), (2, .ref (ah 1)), (3, .ref (ah 2)), (4, .int v4), (5, .int v5)] → (∀ (ls : Array Slot), lv_has ls 14 [(0, .ref (ad 8)), (1, .ref (ah 0)), (2, .ref (ah 1)), (3, .ref (ah 2)), (4, .int v4), (5, .int v5), (6, .int (r'))] → W p l e rmL_isGame s m args below meth c H locs (cells + 0) (slots + 0) Q (F0 m 54 ls [])) → W p l e rmL_isGame s m args below meth c H locs cells slots Q (F0 m 24 ls []) := by
    intro v4 v5 M N r' H locs ls cells slots h hP hQ hS hc hs hl kk
    unfold fL_isGame_R24 at h
    refine lv_aload_n hx hb dL_isGame_24 rfl (lv_at hl 3 rfl) ?_
    refine lv_iconst (v := 3) hx hb dL_isGame_25 (by decide) ?_
    refine alH2 S5 hK hQ (v := N 2 3) (by decide) rfl dL_isGame_26 ?_
    refine lv_if_eq (tgt := 35) hx hb dL_isGame_27 (by decide) (fun c9 => ?_) (fun c9 => ?_)
    · rw [if_pos c9] at h
      refine lv_iconst (v := (-1)) hx hb dL_isGame_35 (by decide) ?_
      refine lv_goto (tgt := 52) hx hb dL_isGame_36 (by decide) ?_
      refine lv_istore (lv' := [(6, .int ((-1))), (0, .ref (ad 8)), (1, .ref (ah 0)), (2, .ref (ah 1)), (3, .ref (ah 2)), (4, .int v4), (5, .int v5)]) hx hb dL_isGame_52 hl (by decide) rfl (fun ls hl => ?_)
      obtain rfl := Option.some.inj h
      refine W.widen (k := cells + 0) (n := slots + 0) (by omega) (by omega) ?_
      exact kk _ (lv_sub hl [1, 2, 3, 4, 5, 6, 0] rfl)
    · rw [if_neg c9] at h
      refine lv_iload hx hb dL_isGame_30 (lv_at hl 4 rfl) ?_
      refine lv_if_ne (tgt := 39) hx hb dL_isGame_32 (by decide) (fun c10 => ?_) (fun c10 => ?_)
      · rw [if_neg c10] at h
        refine lv_aload_n hx hb dL_isGame_39 rfl (lv_at hl 2 rfl) ?_
        refine lv_aload_n hx hb dL_isGame_40 rfl (lv_at hl 3 rfl) ?_
        refine lv_aload_n hx hb dL_isGame_41 rfl (lv_at hl 3 rfl) ?_
        refine lv_iconst (v := 0) hx hb dL_isGame_42 (by decide) ?_
        refine alH2 S5 hK hQ (v := N 2 0) (by decide) rfl dL_isGame_43 ?_
        obtain ⟨q11, hqq11, h⟩ := obind_some h
        refine cSRH S5 hK hQ (As := [.ref (ah 1), .ref (ah 2), .int (N 2 0)]) (kL_leader l D cA ah _ _ _ hqq11) (va_cwS 3 hts gL_isGame_L_leader rfl rfl rfl (by decide +kernel) ⟨(Nat.le_of_ble_eq_true rfl), (Nat.le_of_ble_eq_true rfl)⟩) rfl hl.1 (st0 := _) (rest := []) rfl (Nat.le_of_ble_eq_true rfl) dL_isGame_44 ⟨(by show _ ≤ 222; omega), (by show _ ≤ 1257; omega)⟩ ?_
        refine lv_iload hx hb dL_isGame_47 (lv_at hl 5 rfl) ?_
        refine lv_iadd hx hb dL_isGame_49 ?_
        refine lv_iconst (v := 4) hx hb dL_isGame_50 (by decide) ?_
        refine r_irem S5 dL_isGame_51 (by decide) ?_
        refine lv_istore (lv' := [(6, .int (im (q11 + v5) 4)), (0, .ref (ad 8)), (1, .ref (ah 0)), (2, .ref (ah 1)), (3, .ref (ah 2)), (4, .int v4), (5, .int v5)]) hx hb dL_isGame_52 hl (by decide) rfl (fun ls hl => ?_)
        obtain rfl := Option.some.inj h
        refine W.widen (k := cells + 0) (n := slots + 0) (by omega) (by omega) ?_
        exact kk _ (lv_sub hl [1, 2, 3, 4, 5, 6, 0] rfl)
      · rw [if_pos c10] at h
        refine lv_iconst (v := (-1)) hx hb dL_isGame_35 (by decide) ?_
        refine lv_goto (tgt := 52) hx hb dL_isGame_36 (by decide) ?_
        refine lv_istore (lv' := [(6, .int ((-1))), (0, .ref (ad 8)), (1, .ref (ah 0)), (2, .ref (ah 1)), (3, .ref (ah 2)), (4, .int v4), (5, .int v5)]) hx hb dL_isGame_52 hl (by decide) rfl (fun ls hl => ?_)
        obtain rfl := Option.some.inj h
        refine W.widen (k := cells + 0) (n := slots + 0) (by omega) (by omega) ?_
        exact kk _ (lv_sub hl [1, 2, 3, 4, 5, 6, 0] rfl)
  have R213 : ∀ (v4 : Int32) (v6 : Int32) (v8 : Int32) (v9 : Int32) (v10 : Int32) (v11 : Int32) (v12 : Int32) (M N : Mem) (r' : Int32) (H : Heap) (locs : List Loc) (ls : Array Slot) (cells slots : Nat), fL_isGame_R213 v4 v6 v8 v9 v10 v11 v12 M N = some r' → va_P D vwCl (wX cA ad M) H → va_P D vwCl (wH cA ah N) H → va_S A s.heap H locs → cells + 0 ≤ 222 → slots + 0 ≤ 1257 → lv_has ls 14 [(0, .ref (ad 8)), (1, .ref (ah 0)), (2, .ref (ah 1)), (3, .ref (ah 2)), (4, .int v4), (6, .int v6), (8, .int v8), (9, .int v9), (10, .int v10), (11, .int v11), (12, .int v12)] → (∀ (ls : Array Slot), lv_has ls 14 [(0, .ref (ad 8)), (1, .ref (ah 0)), (2, .ref (ah 1)), (3, .ref (ah 2)), (4, .int v4), (6, .int v6), (8, .int v8), (9, .int v9), (10, .int (r')), (11, .int v11), (12, .int v12)] → W p l e rmL_isGame s m args below meth c H locs (cells + 0) (slots + 0) Q (F0 m 248 ls [])) → W p l e rmL_isGame s m args below meth c H locs cells slots Q (F0 m 213 ls []) := by
    intro v4 v6 v8 v9 v10 v11 v12 M N r' H locs ls cells slots h hP hQ hS hc hs hl kk
    unfold fL_isGame_R213 at h
    refine lv_iload hx hb dL_isGame_213 (lv_at hl 8 rfl) ?_
    refine lv_aload_n hx hb dL_isGame_215 rfl (lv_at hl 1 rfl) ?_
    refine lv_iload hx hb dL_isGame_216 (lv_at hl 7 rfl) ?_
    obtain ⟨g140, h⟩ := gd_some h
    refine alH0 S5 hK hQ (v := N 0 v9.toNatClampNeg) g140 rfl dL_isGame_218 ?_
    refine lv_iload hx hb dL_isGame_219 (lv_at hl 10 rfl) ?_
    refine cS S5 (As := [.int (N 0 v9.toNatClampNeg), .int v12]) (kL_has l _ _) (va_cwS 2 hts gL_isGame_L_has rfl rfl rfl (by decide +kernel) ⟨(Nat.le_of_ble_eq_true rfl), (Nat.le_of_ble_eq_true rfl)⟩) rfl hl.1 (st0 := _) (rest := [.int v10]) rfl (Nat.le_of_ble_eq_true rfl) dL_isGame_221 ⟨(by show _ ≤ 222; omega), (by show _ ≤ 1257; omega)⟩ ?_
    refine lv_if_eq (tgt := 244) hx hb dL_isGame_224 (by decide) (fun c141 => ?_) (fun c141 => ?_)
    · rw [if_pos c141] at h
      refine lv_iconst (v := 0) hx hb dL_isGame_244 (by decide) ?_
      refine lv_iadd hx hb dL_isGame_245 ?_
      refine lv_istore (lv' := [(10, .int (v10 + 0)), (0, .ref (ad 8)), (1, .ref (ah 0)), (2, .ref (ah 1)), (3, .ref (ah 2)), (4, .int v4), (6, .int v6), (8, .int v8), (9, .int v9), (11, .int v11), (12, .int v12)]) hx hb dL_isGame_246 hl (by decide) rfl (fun ls hl => ?_)
      obtain rfl := Option.some.inj h
      refine W.widen (k := cells + 0) (n := slots + 0) (by omega) (by omega) ?_
      exact kk _ (lv_sub hl [1, 2, 3, 4, 5, 6, 7, 8, 0, 9, 10] rfl)
    · rw [if_neg c141] at h
      refine lv_aload_n hx hb dL_isGame_227 rfl (lv_at hl 1 rfl) ?_
      refine lv_aload_n hx hb dL_isGame_228 rfl (lv_at hl 2 rfl) ?_
      refine lv_aload_n hx hb dL_isGame_229 rfl (lv_at hl 3 rfl) ?_
      refine lv_iload hx hb dL_isGame_230 (lv_at hl 10 rfl) ?_
      obtain ⟨q142, hqq142, h⟩ := obind_some h
      refine cSRH S5 hK hQ (As := [.ref (ah 0), .ref (ah 1), .ref (ah 2), .int v12]) (kL_lowest l D cA ah _ _ _ hqq142) (va_cwS 4 hts gL_isGame_L_lowest rfl rfl rfl (by decide +kernel) ⟨(Nat.le_of_ble_eq_true rfl), (Nat.le_of_ble_eq_true rfl)⟩) rfl hl.1 (st0 := _) (rest := [.int v10]) rfl (Nat.le_of_ble_eq_true rfl) dL_isGame_232 ⟨(by show _ ≤ 222; omega), (by show _ ≤ 1257; omega)⟩ ?_
      refine lv_iload hx hb dL_isGame_235 (lv_at hl 10 rfl) ?_
      refine lv_icmp_ne (tgt := 244) hx hb dL_isGame_237 (by decide) (fun c143 => ?_) (fun c143 => ?_)
      · rw [if_neg c143] at h
        refine lv_iconst (v := 0) hx hb dL_isGame_244 (by decide) ?_
        refine lv_iadd hx hb dL_isGame_245 ?_
        refine lv_istore (lv' := [(10, .int (v10 + 0)), (0, .ref (ad 8)), (1, .ref (ah 0)), (2, .ref (ah 1)), (3, .ref (ah 2)), (4, .int v4), (6, .int v6), (8, .int v8), (9, .int v9), (11, .int v11), (12, .int v12)]) hx hb dL_isGame_246 hl (by decide) rfl (fun ls hl => ?_)
        obtain rfl := Option.some.inj h
        refine W.widen (k := cells + 0) (n := slots + 0) (by omega) (by omega) ?_
        exact kk _ (lv_sub hl [1, 2, 3, 4, 5, 6, 7, 8, 0, 9, 10] rfl)
      · rw [if_pos c143] at h
        refine lv_iconst (v := 1) hx hb dL_isGame_240 (by decide) ?_
        refine lv_goto (tgt := 245) hx hb dL_isGame_241 (by decide) ?_
        refine lv_iadd hx hb dL_isGame_245 ?_
        refine lv_istore (lv' := [(10, .int (v10 + 1)), (0, .ref (ad 8)), (1, .ref (ah 0)), (2, .ref (ah 1)), (3, .ref (ah 2)), (4, .int v4), (6, .int v6), (8, .int v8), (9, .int v9), (11, .int v11), (12, .int v12)]) hx hb dL_isGame_246 hl (by decide) rfl (fun ls hl => ?_)
        obtain rfl := Option.some.inj h
        refine W.widen (k := cells + 0) (n := slots + 0) (by omega) (by omega) ?_
        exact kk _ (lv_sub hl [1, 2, 3, 4, 5, 6, 7, 8, 0, 9, 10] rfl)
  have R287 : ∀ (v4 : Int32) (v6 : Int32) (v8 : Int32) (v9 : Int32) (v10 : Int32) (v11 : Int32) (M N : Mem) (r' : Int32 × Mem × Mem) (H : Heap) (locs : List Loc) (ls : Array Slot) (cells slots : Nat), fL_isGame_R287 v4 v6 v8 v9 v10 v11 M N = some r' → va_P D vwCl (wX cA ad M) H → va_P D vwCl (wH cA ah N) H → va_S A s.heap H locs → cells + 3 ≤ 222 → slots + 18 ≤ 1257 → lv_has ls 14 [(0, .ref (ad 8)), (1, .ref (ah 0)), (2, .ref (ah 1)), (3, .ref (ah 2)), (4, .int v4), (6, .int v6), (8, .int v8), (9, .int v9), (10, .int v10), (11, .int v11)] → (∀ (H : Heap) (locs : List Loc), va_P D vwCl (wX cA ad (r'.2.1)) H → va_P D vwCl (wH cA ah (r'.2.2)) H → va_S A s.heap H locs → ∀ (ls : Array Slot), lv_has ls 14 [(0, .ref (ad 8)), (1, .ref (ah 0)), (2, .ref (ah 1)), (3, .ref (ah 2)), (4, .int v4), (6, .int v6), (7, .int (r'.1)), (8, .int v8), (9, .int v9)] → W p l e rmL_isGame s m args below meth c H locs (cells + 3) (slots + 18) Q (F0 m 329 ls [])) → W p l e rmL_isGame s m args below meth c H locs cells slots Q (F0 m 287 ls []) := by
    intro v4 v6 v8 v9 v10 v11 M N r' H locs ls cells slots h hP hQ hS hc hs hl kk
    unfold fL_isGame_R287 at h
    refine lv_aload_n hx hb dL_isGame_287 rfl (lv_at hl 0 rfl) ?_
    refine lv_iload hx hb dL_isGame_288 (lv_at hl 7 rfl) ?_
    obtain ⟨g53, h⟩ := gd_some h
    refine cTY S5 hK hP hQ hD hS hT (fun _ h => hA _ _ hS.1 h) (As := [.int v9]) (kX5_hand l D cA ad sa hst _ _) g53 (cwV 1 hts gL_isGame_X5_hand rfl rfl rfl (by decide +kernel) ⟨(Nat.le_of_ble_eq_true rfl), (Nat.le_of_ble_eq_true rfl)⟩) rfl hl.1 (st0 := _) (rest := []) rfl (Nat.le_of_ble_eq_true rfl) dL_isGame_290 ⟨(by show _ ≤ 222; omega), (by show _ ≤ 1257; omega)⟩ (fun H locs hP hQ hS => ?_)
    refine lv_aload_n hx hb dL_isGame_293 rfl (lv_at hl 1 rfl) ?_
    refine lv_iload hx hb dL_isGame_294 (lv_at hl 7 rfl) ?_
    obtain ⟨g54, h⟩ := gd_some h
    refine alH0 S5 hK hQ (v := N 0 v9.toNatClampNeg) g54 rfl dL_isGame_296 ?_
    refine lv_icmp_ne (tgt := 326) hx hb dL_isGame_297 (by decide) (fun c55 => ?_) (fun c55 => ?_)
    · rw [if_neg c55] at h
      refine lv_iconst (v := 0) hx hb dL_isGame_326 (by decide) ?_
      refine lv_istore (lv' := [(7, .int 0), (0, .ref (ad 8)), (1, .ref (ah 0)), (2, .ref (ah 1)), (3, .ref (ah 2)), (4, .int v4), (6, .int v6), (8, .int v8), (9, .int v9), (10, .int v10), (11, .int v11)]) hx hb dL_isGame_327 hl (by decide) rfl (fun ls hl => ?_)
      obtain rfl := Option.some.inj h
      refine W.widen (k := cells + 3) (n := slots + 18) (by omega) (by omega) ?_
      exact kk _ _ hP hQ hS _ (lv_sub hl [1, 2, 3, 4, 5, 6, 0, 7, 8] rfl)
    · rw [if_pos c55] at h
      refine lv_aload_n hx hb dL_isGame_300 rfl (lv_at hl 0 rfl) ?_
      refine lv_iload hx hb dL_isGame_301 (lv_at hl 7 rfl) ?_
      obtain ⟨q57, hqq57, h⟩ := obind_some h
      obtain ⟨g56, h⟩ := gd_some h
      refine cTY S5 hK hP hQ hD hS hT (fun _ h => hA _ _ hS.1 h) (As := [.int v9]) (kX5_unlike l D cA ad sa hst _ _ _ hqq57) g56 (cwV 1 hts gL_isGame_X5_unlike rfl rfl rfl (by decide +kernel) ⟨(Nat.le_of_ble_eq_true rfl), (Nat.le_of_ble_eq_true rfl)⟩) rfl hl.1 (st0 := _) (rest := []) rfl (Nat.le_of_ble_eq_true rfl) dL_isGame_303 ⟨(by show _ ≤ 222; omega), (by show _ ≤ 1257; omega)⟩ (fun H locs hP hQ hS => ?_)
      refine lv_iload hx hb dL_isGame_306 (lv_at hl 8 rfl) ?_
      refine lv_icmp_ne (tgt := 326) hx hb dL_isGame_308 (by decide) (fun c58 => ?_) (fun c58 => ?_)
      · rw [if_neg c58] at h
        refine lv_iconst (v := 0) hx hb dL_isGame_326 (by decide) ?_
        refine lv_istore (lv' := [(7, .int 0), (0, .ref (ad 8)), (1, .ref (ah 0)), (2, .ref (ah 1)), (3, .ref (ah 2)), (4, .int v4), (6, .int v6), (8, .int v8), (9, .int v9), (10, .int v10), (11, .int v11)]) hx hb dL_isGame_327 hl (by decide) rfl (fun ls hl => ?_)
        obtain rfl := Option.some.inj h
        refine W.widen (k := cells + 3) (n := slots + 18) (by omega) (by omega) ?_
        exact kk _ _ hP hQ hS _ (lv_sub hl [1, 2, 3, 4, 5, 6, 0, 7, 8] rfl)
      · rw [if_pos c58] at h
        refine lv_aload_n hx hb dL_isGame_311 rfl (lv_at hl 0 rfl) ?_
        refine lv_iload hx hb dL_isGame_312 (lv_at hl 7 rfl) ?_
        obtain ⟨q60, hqq60, h⟩ := obind_some h
        obtain ⟨g59, h⟩ := gd_some h
        refine cTY S5 hK hP hQ hD hS hT (fun _ h => hA _ _ hS.1 h) (As := [.int v9]) (kX5_quick l D cA ad sa hst _ _ _ hqq60) g59 (cwV 1 hts gL_isGame_X5_quick rfl rfl rfl (by decide +kernel) ⟨(Nat.le_of_ble_eq_true rfl), (Nat.le_of_ble_eq_true rfl)⟩) rfl hl.1 (st0 := _) (rest := []) rfl (Nat.le_of_ble_eq_true rfl) dL_isGame_314 ⟨(by show _ ≤ 222; omega), (by show _ ≤ 1257; omega)⟩ (fun H locs hP hQ hS => ?_)
        refine lv_iload hx hb dL_isGame_317 (lv_at hl 9 rfl) ?_
        refine lv_icmp_ne (tgt := 326) hx hb dL_isGame_319 (by decide) (fun c61 => ?_) (fun c61 => ?_)
        · rw [if_neg c61] at h
          refine lv_iconst (v := 0) hx hb dL_isGame_326 (by decide) ?_
          refine lv_istore (lv' := [(7, .int 0), (0, .ref (ad 8)), (1, .ref (ah 0)), (2, .ref (ah 1)), (3, .ref (ah 2)), (4, .int v4), (6, .int v6), (8, .int v8), (9, .int v9), (10, .int v10), (11, .int v11)]) hx hb dL_isGame_327 hl (by decide) rfl (fun ls hl => ?_)
          obtain rfl := Option.some.inj h
          refine W.widen (k := cells + 3) (n := slots + 18) (by omega) (by omega) ?_
          exact kk _ _ hP hQ hS _ (lv_sub hl [1, 2, 3, 4, 5, 6, 0, 7, 8] rfl)
        · rw [if_pos c61] at h
          refine lv_iconst (v := 1) hx hb dL_isGame_322 (by decide) ?_
          refine lv_goto (tgt := 327) hx hb dL_isGame_323 (by decide) ?_
          refine lv_istore (lv' := [(7, .int 1), (0, .ref (ad 8)), (1, .ref (ah 0)), (2, .ref (ah 1)), (3, .ref (ah 2)), (4, .int v4), (6, .int v6), (8, .int v8), (9, .int v9), (10, .int v10), (11, .int v11)]) hx hb dL_isGame_327 hl (by decide) rfl (fun ls hl => ?_)
          obtain rfl := Option.some.inj h
          refine W.widen (k := cells + 3) (n := slots + 18) (by omega) (by omega) ?_
          exact kk _ _ hP hQ hS _ (lv_sub hl [1, 2, 3, 4, 5, 6, 0, 7, 8] rfl)
  have L135 : ∀ (n : Nat) (v4 : Int32) (v5 : Int32) (v6 : Int32) (v7 : Int32) (v8 : Int32) (M N : Mem) (r' : Int32 × Mem × Mem) (H : Heap) (locs : List Loc) (ls : Array Slot) (cells slots : Nat), fL_isGame_L135 n v4 v5 v6 v7 v8 M N = some r' → va_P D vwCl (wX cA ad M) H → va_P D vwCl (wH cA ah N) H → va_S A s.heap H locs → cells + n * 1 ≤ 222 → slots + n * 6 ≤ 1257 → lv_has ls 14 [(0, .ref (ad 8)), (1, .ref (ah 0)), (2, .ref (ah 1)), (3, .ref (ah 2)), (4, .int v4), (5, .int v5), (6, .int v6), (7, .int v7), (8, .int v8)] → (∀ (H : Heap) (locs : List Loc), va_P D vwCl (wX cA ad (r'.2.1)) H → va_P D vwCl (wH cA ah (r'.2.2)) H → va_S A s.heap H locs → ∀ (ls : Array Slot), lv_has ls 14 [(0, .ref (ad 8)), (1, .ref (ah 0)), (2, .ref (ah 1)), (3, .ref (ah 2)), (4, .int v4), (6, .int v6), (7, .int (r'.1))] → W p l e rmL_isGame s m args below meth c H locs (cells + n * 1) (slots + n * 6) Q (F0 m 180 ls [])) → W p l e rmL_isGame s m args below meth c H locs cells slots Q (F0 m 135 ls []) := by
    intro n
    induction n with
    | zero => intro v4 v5 v6 v7 v8 M N r' H locs ls cells slots h hP hQ hS hc hs hl kk; rw [fL_isGame_L135.eq_1] at h; cases h
    | succ n ih =>
      intro v4 v5 v6 v7 v8 M N r' H locs ls cells slots h hP hQ hS hc hs hl kk
      rw [fL_isGame_L135.eq_2] at h
      refine lv_iload hx hb dL_isGame_135 (lv_at hl 8 rfl) ?_
      refine lv_iload hx hb dL_isGame_137 (lv_at hl 5 rfl) ?_
      refine lv_icmp_ge (tgt := 180) hx hb dL_isGame_139 (by decide) (fun c36 => ?_) (fun c36 => ?_)
      · rw [if_pos c36] at h
        obtain rfl := Option.some.inj h
        refine W.widen (k := cells + (n + 1) * 1) (n := slots + (n + 1) * 6) (by omega) (by omega) ?_
        exact kk _ _ hP hQ hS _ (lv_sub hl [0, 1, 2, 3, 4, 6, 7] rfl)
      · rw [if_neg c36] at h
        refine lv_iload hx hb dL_isGame_142 (lv_at hl 7 rfl) ?_
        refine lv_if_eq (tgt := 180) hx hb dL_isGame_144 (by decide) (fun c37 => ?_) (fun c37 => ?_)
        · rw [if_pos c37] at h
          obtain rfl := Option.some.inj h
          refine W.widen (k := cells + (n + 1) * 1) (n := slots + (n + 1) * 6) (by omega) (by omega) ?_
          exact kk _ _ hP hQ hS _ (lv_sub hl [0, 1, 2, 3, 4, 6, 7] rfl)
        · rw [if_neg c37] at h
          obtain ⟨q38, hqq38, h⟩ := obind_some h
          refine R147 _ _ _ _ _ _ _ _ _ _ _ _ hqq38 hP hQ hS (by omega) (by omega) (lv_sub hl [0, 1, 2, 3, 4, 5, 6, 8] rfl) (fun H locs hP hQ hS ls hl => ?_)
          have hl := lv_sub (l' := [(0, .ref (ad 8)), (1, .ref (ah 0)), (2, .ref (ah 1)), (3, .ref (ah 2)), (4, .int v4), (5, .int v5), (6, .int v6), (7, .int q38.1), (8, .int v8)]) hl [0, 1, 2, 3, 4, 5, 6, 7, 8] rfl
          refine lv_iinc (v := v8 + 1) (lv' := [(8, .int (v8 + 1)), (0, .ref (ad 8)), (1, .ref (ah 0)), (2, .ref (ah 1)), (3, .ref (ah 2)), (4, .int v4), (5, .int v5), (6, .int v6), (7, .int q38.1)]) hx hb dL_isGame_174 hl (k := 8) rfl rfl (by decide) rfl (fun ls hl => ?_)
          refine lv_goto (tgt := 135) hx hb dL_isGame_177 (by decide) ?_
          refine W.widen (k := cells + 1) (n := slots + 6) (by omega) (by omega) ?_
          exact ih _ _ _ _ _ _ _ _ _ _ _ _ _ h hP hQ hS (by omega) (by omega) (lv_sub hl [1, 2, 3, 4, 5, 6, 7, 8, 0] rfl) (fun H locs hP hQ hS ls hl => W.widen (k := cells + (n + 1) * 1) (n := slots + (n + 1) * 6) (by omega) (by omega) (kk H locs hP hQ hS ls hl))
  have L332 : ∀ (n : Nat) (v4 : Int32) (v6 : Int32) (v7 : Int32) (v8 : Int32) (v9 : Int32) (v12 : Int32) (M N : Mem) (r' : Int32 × Int32 × Mem × Mem) (H : Heap) (locs : List Loc) (ls : Array Slot) (cells slots : Nat), fL_isGame_L332 n v4 v6 v7 v8 v9 v12 M N = some r' → va_P D vwCl (wX cA ad M) H → va_P D vwCl (wH cA ah N) H → va_S A s.heap H locs → cells + n * 3 ≤ 222 → slots + n * 15 ≤ 1257 → lv_has ls 14 [(0, .ref (ad 8)), (1, .ref (ah 0)), (2, .ref (ah 1)), (3, .ref (ah 2)), (4, .int v4), (6, .int v6), (7, .int v7), (8, .int v8), (9, .int v9), (12, .int v12)] → (∀ (H : Heap) (locs : List Loc), va_P D vwCl (wX cA ad (r'.2.2.1)) H → va_P D vwCl (wH cA ah (r'.2.2.2)) H → va_S A s.heap H locs → ∀ (ls : Array Slot), lv_has ls 14 [(0, .ref (ad 8)), (1, .ref (ah 0)), (2, .ref (ah 1)), (3, .ref (ah 2)), (4, .int v4), (6, .int v6), (7, .int (r'.1)), (8, .int (r'.2.1)), (9, .int v9)] → W p l e rmL_isGame s m args below meth c H locs (cells + n * 3) (slots + n * 15) Q (F0 m 402 ls [])) → W p l e rmL_isGame s m args below meth c H locs cells slots Q (F0 m 332 ls []) := by
    intro n
    induction n with
    | zero => intro v4 v6 v7 v8 v9 v12 M N r' H locs ls cells slots h hP hQ hS hc hs hl kk; rw [fL_isGame_L332.eq_1] at h; cases h
    | succ n ih =>
      intro v4 v6 v7 v8 v9 v12 M N r' H locs ls cells slots h hP hQ hS hc hs hl kk
      rw [fL_isGame_L332.eq_2] at h
      refine lv_iload hx hb dL_isGame_332 (lv_at hl 9 rfl) ?_
      refine lv_iconst (v := 4) hx hb dL_isGame_334 (by decide) ?_
      refine lv_icmp_ge (tgt := 402) hx hb dL_isGame_335 (by decide) (fun c62 => ?_) (fun c62 => ?_)
      · rw [if_pos c62] at h
        obtain rfl := Option.some.inj h
        refine W.widen (k := cells + (n + 1) * 3) (n := slots + (n + 1) * 15) (by omega) (by omega) ?_
        exact kk _ _ hP hQ hS _ (lv_sub hl [0, 1, 2, 3, 4, 5, 6, 7, 8] rfl)
      · rw [if_neg c62] at h
        refine lv_iload hx hb dL_isGame_338 (lv_at hl 6 rfl) ?_
        refine lv_if_eq (tgt := 402) hx hb dL_isGame_340 (by decide) (fun c63 => ?_) (fun c63 => ?_)
        · rw [if_pos c63] at h
          obtain rfl := Option.some.inj h
          refine W.widen (k := cells + (n + 1) * 3) (n := slots + (n + 1) * 15) (by omega) (by omega) ?_
          exact kk _ _ hP hQ hS _ (lv_sub hl [0, 1, 2, 3, 4, 5, 6, 7, 8] rfl)
        · rw [if_neg c63] at h
          refine lv_aload_n hx hb dL_isGame_343 rfl (lv_at hl 1 rfl) ?_
          refine lv_iload hx hb dL_isGame_344 (lv_at hl 8 rfl) ?_
          refine lv_iload hx hb dL_isGame_346 (lv_at hl 9 rfl) ?_
          obtain ⟨q64, hqq64, h⟩ := obind_some h
          refine cWHY S5 hK hP hQ hD hS (fun _ h => hAh _ _ hS.1 h) (As := [.ref (ah 0), .int v9, .int v12]) (kL_fork l D cA ah _ _ _ _ hqq64) (va_cwS 3 hts gL_isGame_L_fork rfl rfl rfl (by decide +kernel) ⟨(Nat.le_of_ble_eq_true rfl), (Nat.le_of_ble_eq_true rfl)⟩) rfl hl.1 (st0 := _) (rest := []) rfl (Nat.le_of_ble_eq_true rfl) dL_isGame_348 ⟨(by show _ ≤ 222; omega), (by show _ ≤ 1257; omega)⟩ (fun H locs hP hQ hS => ?_)
          refine lv_istore (lv' := [(13, .int q64), (0, .ref (ad 8)), (1, .ref (ah 0)), (2, .ref (ah 1)), (3, .ref (ah 2)), (4, .int v4), (6, .int v6), (7, .int v7), (8, .int v8), (9, .int v9), (12, .int v12)]) hx hb dL_isGame_351 hl (by decide) rfl (fun ls hl => ?_)
          obtain ⟨q65, hqq65, h⟩ := obind_some h
          refine R353 _ _ _ _ _ _ _ _ _ _ _ _ _ _ hqq65 hP hQ hS (by omega) (by omega) (lv_sub hl [1, 2, 3, 4, 5, 6, 8, 9, 10, 0] rfl) (fun ls hl => ?_)
          have hl := lv_sub (l' := [(0, .ref (ad 8)), (1, .ref (ah 0)), (2, .ref (ah 1)), (3, .ref (ah 2)), (4, .int v4), (6, .int v6), (8, .int q65), (9, .int v9), (12, .int v12), (13, .int q64)]) hl [0, 1, 2, 3, 4, 5, 6, 7, 8, 9] rfl
          obtain ⟨q66, hqq66, h⟩ := obind_some h
          refine R376 _ _ _ _ _ _ _ _ _ _ _ _ _ _ hqq66 hP hQ hS (by omega) (by omega) (lv_sub hl [0, 1, 2, 3, 4, 5, 6, 7, 8, 9] rfl) (fun H locs hP hQ hS ls hl => ?_)
          have hl := lv_sub (l' := [(0, .ref (ad 8)), (1, .ref (ah 0)), (2, .ref (ah 1)), (3, .ref (ah 2)), (4, .int v4), (6, .int v6), (7, .int q66.1), (8, .int q65), (9, .int v9), (12, .int v12)]) hl [0, 1, 2, 3, 4, 5, 6, 7, 8, 9] rfl
          refine lv_iinc (v := v12 + 1) (lv' := [(12, .int (v12 + 1)), (0, .ref (ad 8)), (1, .ref (ah 0)), (2, .ref (ah 1)), (3, .ref (ah 2)), (4, .int v4), (6, .int v6), (7, .int q66.1), (8, .int q65), (9, .int v9)]) hx hb dL_isGame_396 hl (k := 9) rfl rfl (by decide) rfl (fun ls hl => ?_)
          refine lv_goto (tgt := 332) hx hb dL_isGame_399 (by decide) ?_
          refine W.widen (k := cells + 3) (n := slots + 15) (by omega) (by omega) ?_
          exact ih _ _ _ _ _ _ _ _ _ _ _ _ _ _ h hP hQ hS (by omega) (by omega) (lv_sub hl [1, 2, 3, 4, 5, 6, 7, 8, 9, 0] rfl) (fun H locs hP hQ hS ls hl => W.widen (k := cells + (n + 1) * 3) (n := slots + (n + 1) * 15) (by omega) (by omega) (kk H locs hP hQ hS ls hl))
  have L206 : ∀ (n : Nat) (v4 : Int32) (v6 : Int32) (v8 : Int32) (v9 : Int32) (v10 : Int32) (v11 : Int32) (v12 : Int32) (M N : Mem) (r' : Int32 × Int32) (H : Heap) (locs : List Loc) (ls : Array Slot) (cells slots : Nat), fL_isGame_L206 n v4 v6 v8 v9 v10 v11 v12 M N = some r' → va_P D vwCl (wX cA ad M) H → va_P D vwCl (wH cA ah N) H → va_S A s.heap H locs → cells + n * 0 ≤ 222 → slots + n * 0 ≤ 1257 → lv_has ls 14 [(0, .ref (ad 8)), (1, .ref (ah 0)), (2, .ref (ah 1)), (3, .ref (ah 2)), (4, .int v4), (6, .int v6), (8, .int v8), (9, .int v9), (10, .int v10), (11, .int v11), (12, .int v12)] → (∀ (ls : Array Slot), lv_has ls 14 [(0, .ref (ad 8)), (1, .ref (ah 0)), (2, .ref (ah 1)), (3, .ref (ah 2)), (4, .int v4), (6, .int v6), (8, .int v8), (9, .int v9), (10, .int (r'.1)), (11, .int (r'.2))] → W p l e rmL_isGame s m args below meth c H locs (cells + n * 0) (slots + n * 0) Q (F0 m 287 ls [])) → W p l e rmL_isGame s m args below meth c H locs cells slots Q (F0 m 206 ls []) := by
    intro n
    induction n with
    | zero => intro v4 v6 v8 v9 v10 v11 v12 M N r' H locs ls cells slots h hP hQ hS hc hs hl kk; rw [fL_isGame_L206.eq_1] at h; cases h
    | succ n ih =>
      intro v4 v6 v8 v9 v10 v11 v12 M N r' H locs ls cells slots h hP hQ hS hc hs hl kk
      rw [fL_isGame_L206.eq_2] at h
      refine lv_iload hx hb dL_isGame_206 (lv_at hl 10 rfl) ?_
      refine lv_bipush (v := 24) hx hb dL_isGame_208 (by decide) ?_
      refine lv_icmp_ge (tgt := 287) hx hb dL_isGame_210 (by decide) (fun c50 => ?_) (fun c50 => ?_)
      · rw [if_pos c50] at h
        obtain rfl := Option.some.inj h
        refine W.widen (k := cells + (n + 1) * 0) (n := slots + (n + 1) * 0) (by omega) (by omega) ?_
        exact kk _ (lv_sub hl [0, 1, 2, 3, 4, 5, 6, 7, 8, 9] rfl)
      · rw [if_neg c50] at h
        obtain ⟨q51, hqq51, h⟩ := obind_some h
        refine R213 _ _ _ _ _ _ _ _ _ _ _ _ _ _ _ hqq51 hP hQ hS (by omega) (by omega) (lv_sub hl [0, 1, 2, 3, 4, 5, 6, 7, 8, 9, 10] rfl) (fun ls hl => ?_)
        have hl := lv_sub (l' := [(0, .ref (ad 8)), (1, .ref (ah 0)), (2, .ref (ah 1)), (3, .ref (ah 2)), (4, .int v4), (6, .int v6), (8, .int v8), (9, .int v9), (10, .int q51), (11, .int v11), (12, .int v12)]) hl [0, 1, 2, 3, 4, 5, 6, 7, 8, 9, 10] rfl
        obtain ⟨q52, hqq52, h⟩ := obind_some h
        refine R248 _ _ _ _ _ _ _ _ _ _ _ _ _ _ _ hqq52 hP hQ hS (by omega) (by omega) (lv_sub hl [0, 1, 2, 3, 4, 5, 6, 7, 8, 9, 10] rfl) (fun ls hl => ?_)
        have hl := lv_sub (l' := [(0, .ref (ad 8)), (1, .ref (ah 0)), (2, .ref (ah 1)), (3, .ref (ah 2)), (4, .int v4), (6, .int v6), (8, .int v8), (9, .int v9), (10, .int q51), (11, .int q52), (12, .int v12)]) hl [0, 1, 2, 3, 4, 5, 6, 7, 8, 9, 10] rfl
        refine lv_iinc (v := v12 + 1) (lv' := [(12, .int (v12 + 1)), (0, .ref (ad 8)), (1, .ref (ah 0)), (2, .ref (ah 1)), (3, .ref (ah 2)), (4, .int v4), (6, .int v6), (8, .int v8), (9, .int v9), (10, .int q51), (11, .int q52)]) hx hb dL_isGame_281 hl (k := 10) rfl rfl (by decide) rfl (fun ls hl => ?_)
        refine lv_goto (tgt := 206) hx hb dL_isGame_284 (by decide) ?_
        refine W.widen (k := cells + 0) (n := slots + 0) (by omega) (by omega) ?_
        exact ih _ _ _ _ _ _ _ _ _ _ _ _ _ _ _ h hP hQ hS (by omega) (by omega) (lv_sub hl [1, 2, 3, 4, 5, 6, 7, 8, 9, 10, 0] rfl) (fun ls hl => W.widen (k := cells + (n + 1) * 0) (n := slots + (n + 1) * 0) (by omega) (by omega) (kk ls hl))
  have R54 : ∀ (v4 : Int32) (v5 : Int32) (v6 : Int32) (M N : Mem) (r' : Int32 × Mem × Mem) (H : Heap) (locs : List Loc) (ls : Array Slot) (cells slots : Nat), fL_isGame_R54 v4 v5 v6 M N = some r' → va_P D vwCl (wX cA ad M) H → va_P D vwCl (wH cA ah N) H → va_S A s.heap H locs → cells + 2 ≤ 222 → slots + 12 ≤ 1257 → lv_has ls 14 [(0, .ref (ad 8)), (1, .ref (ah 0)), (2, .ref (ah 1)), (3, .ref (ah 2)), (4, .int v4), (5, .int v5), (6, .int v6)] → (∀ (H : Heap) (locs : List Loc), va_P D vwCl (wX cA ad (r'.2.1)) H → va_P D vwCl (wH cA ah (r'.2.2)) H → va_S A s.heap H locs → ∀ (ls : Array Slot), lv_has ls 14 [(0, .ref (ad 8)), (1, .ref (ah 0)), (2, .ref (ah 1)), (3, .ref (ah 2)), (4, .int v4), (5, .int v5), (6, .int v6), (7, .int (r'.1))] → W p l e rmL_isGame s m args below meth c H locs (cells + 2) (slots + 12) Q (F0 m 132 ls [])) → W p l e rmL_isGame s m args below meth c H locs cells slots Q (F0 m 54 ls []) := by
    intro v4 v5 v6 M N r' H locs ls cells slots h hP hQ hS hc hs hl kk
    unfold fL_isGame_R54 at h
    refine lv_aload_n hx hb dL_isGame_54 rfl (lv_at hl 0 rfl) ?_
    obtain ⟨q12, hqq12, h⟩ := obind_some h
    refine cVX S5 hK hP 8 rfl rfl (As := []) (kX5_isStarted l D cA ad _ _ hqq12) (cwV 0 hts gL_isGame_X5_isStarted rfl rfl rfl (by decide +kernel) ⟨(Nat.le_of_ble_eq_true rfl), (Nat.le_of_ble_eq_true rfl)⟩) rfl hl.1 (st0 := _) (rest := []) rfl (Nat.le_of_ble_eq_true rfl) dL_isGame_55 ⟨(by show _ ≤ 222; omega), (by show _ ≤ 1257; omega)⟩ ?_
    refine lv_aload_n hx hb dL_isGame_58 rfl (lv_at hl 3 rfl) ?_
    refine lv_iconst (v := 3) hx hb dL_isGame_59 (by decide) ?_
    refine alH2 S5 hK hQ (v := N 2 3) (by decide) rfl dL_isGame_60 ?_
    refine lv_iconst (v := 1) hx hb dL_isGame_61 (by decide) ?_
    refine lv_icmp_ne (tgt := 69) hx hb dL_isGame_62 (by decide) (fun c13 => ?_) (fun c13 => ?_)
    · rw [if_neg c13] at h
      refine lv_iconst (v := 0) hx hb dL_isGame_69 (by decide) ?_
      refine lv_icmp_ne (tgt := 129) hx hb dL_isGame_70 (by decide) (fun c14 => ?_) (fun c14 => ?_)
      · rw [if_neg c14] at h
        refine lv_iconst (v := 0) hx hb dL_isGame_129 (by decide) ?_
        refine lv_istore (lv' := [(7, .int 0), (0, .ref (ad 8)), (1, .ref (ah 0)), (2, .ref (ah 1)), (3, .ref (ah 2)), (4, .int v4), (5, .int v5), (6, .int v6)]) hx hb dL_isGame_130 hl (by decide) rfl (fun ls hl => ?_)
        obtain rfl := Option.some.inj h
        refine W.widen (k := cells + 2) (n := slots + 12) (by omega) (by omega) ?_
        exact kk _ _ hP hQ hS _ (lv_sub hl [1, 2, 3, 4, 5, 6, 7, 0] rfl)
      · rw [if_pos c14] at h
        refine lv_aload_n hx hb dL_isGame_73 rfl (lv_at hl 0 rfl) ?_
        refine cVX S5 hK hP 8 rfl rfl (As := []) (kX5_turn l D cA ad _) (cwV 0 hts gL_isGame_X5_turn rfl rfl rfl (by decide +kernel) ⟨(Nat.le_of_ble_eq_true rfl), (Nat.le_of_ble_eq_true rfl)⟩) rfl hl.1 (st0 := _) (rest := []) rfl (Nat.le_of_ble_eq_true rfl) dL_isGame_74 ⟨(by show _ ≤ 222; omega), (by show _ ≤ 1257; omega)⟩ ?_
        refine lv_iload hx hb dL_isGame_77 (lv_at hl 6 rfl) ?_
        refine lv_icmp_ne (tgt := 129) hx hb dL_isGame_79 (by decide) (fun c15 => ?_) (fun c15 => ?_)
        · rw [if_neg c15] at h
          refine lv_iconst (v := 0) hx hb dL_isGame_129 (by decide) ?_
          refine lv_istore (lv' := [(7, .int 0), (0, .ref (ad 8)), (1, .ref (ah 0)), (2, .ref (ah 1)), (3, .ref (ah 2)), (4, .int v4), (5, .int v5), (6, .int v6)]) hx hb dL_isGame_130 hl (by decide) rfl (fun ls hl => ?_)
          obtain rfl := Option.some.inj h
          refine W.widen (k := cells + 2) (n := slots + 12) (by omega) (by omega) ?_
          exact kk _ _ hP hQ hS _ (lv_sub hl [1, 2, 3, 4, 5, 6, 7, 0] rfl)
        · rw [if_pos c15] at h
          refine lv_aload_n hx hb dL_isGame_82 rfl (lv_at hl 0 rfl) ?_
          refine cVX S5 hK hP 8 rfl rfl (As := []) (kX5_inTrick l D cA ad _) (cwV 0 hts gL_isGame_X5_inTrick rfl rfl rfl (by decide +kernel) ⟨(Nat.le_of_ble_eq_true rfl), (Nat.le_of_ble_eq_true rfl)⟩) rfl hl.1 (st0 := _) (rest := []) rfl (Nat.le_of_ble_eq_true rfl) dL_isGame_83 ⟨(by show _ ≤ 222; omega), (by show _ ≤ 1257; omega)⟩ ?_
          refine lv_iload hx hb dL_isGame_86 (lv_at hl 5 rfl) ?_
          refine lv_icmp_ne (tgt := 129) hx hb dL_isGame_88 (by decide) (fun c16 => ?_) (fun c16 => ?_)
          · rw [if_neg c16] at h
            refine lv_iconst (v := 0) hx hb dL_isGame_129 (by decide) ?_
            refine lv_istore (lv' := [(7, .int 0), (0, .ref (ad 8)), (1, .ref (ah 0)), (2, .ref (ah 1)), (3, .ref (ah 2)), (4, .int v4), (5, .int v5), (6, .int v6)]) hx hb dL_isGame_130 hl (by decide) rfl (fun ls hl => ?_)
            obtain rfl := Option.some.inj h
            refine W.widen (k := cells + 2) (n := slots + 12) (by omega) (by omega) ?_
            exact kk _ _ hP hQ hS _ (lv_sub hl [1, 2, 3, 4, 5, 6, 7, 0] rfl)
          · rw [if_pos c16] at h
            refine lv_aload_n hx hb dL_isGame_91 rfl (lv_at hl 0 rfl) ?_
            refine lv_iconst (v := 0) hx hb dL_isGame_92 (by decide) ?_
            obtain ⟨q18, hqq18, h⟩ := obind_some h
            obtain ⟨g17, h⟩ := gd_some h
            refine cTY S5 hK hP hQ hD hS hT (fun _ h => hA _ _ hS.1 h) (As := [.int 0]) (kX5_won l D cA ad sa hst _ _ _ hqq18) g17 (cwV 1 hts gL_isGame_X5_won rfl rfl rfl (by decide +kernel) ⟨(Nat.le_of_ble_eq_true rfl), (Nat.le_of_ble_eq_true rfl)⟩) rfl hl.1 (st0 := _) (rest := []) rfl (Nat.le_of_ble_eq_true rfl) dL_isGame_93 ⟨(by show _ ≤ 222; omega), (by show _ ≤ 1257; omega)⟩ (fun H locs hP hQ hS => ?_)
            refine lv_aload_n hx hb dL_isGame_96 rfl (lv_at hl 2 rfl) ?_
            refine lv_aload_n hx hb dL_isGame_97 rfl (lv_at hl 3 rfl) ?_
            refine lv_aload_n hx hb dL_isGame_98 rfl (lv_at hl 3 rfl) ?_
            refine lv_iconst (v := 0) hx hb dL_isGame_99 (by decide) ?_
            refine alH2 S5 hK hQ (v := N 2 0) (by decide) rfl dL_isGame_100 ?_
            refine lv_iconst (v := 0) hx hb dL_isGame_101 (by decide) ?_
            obtain ⟨q19, hqq19, h⟩ := obind_some h
            refine cSRH S5 hK hQ (As := [.ref (ah 1), .ref (ah 2), .int (N 2 0), .int 0]) (kL_tricks l D cA ah _ _ _ _ hqq19) (va_cwS 4 hts gL_isGame_L_tricks rfl rfl rfl (by decide +kernel) ⟨(Nat.le_of_ble_eq_true rfl), (Nat.le_of_ble_eq_true rfl)⟩) rfl hl.1 (st0 := _) (rest := [.int q18.2.1]) rfl (Nat.le_of_ble_eq_true rfl) dL_isGame_102 ⟨(by show _ ≤ 222; omega), (by show _ ≤ 1257; omega)⟩ ?_
            refine lv_icmp_ne (tgt := 129) hx hb dL_isGame_105 (by decide) (fun c20 => ?_) (fun c20 => ?_)
            · rw [if_neg c20] at h
              refine lv_iconst (v := 0) hx hb dL_isGame_129 (by decide) ?_
              refine lv_istore (lv' := [(7, .int 0), (0, .ref (ad 8)), (1, .ref (ah 0)), (2, .ref (ah 1)), (3, .ref (ah 2)), (4, .int v4), (5, .int v5), (6, .int v6)]) hx hb dL_isGame_130 hl (by decide) rfl (fun ls hl => ?_)
              obtain rfl := Option.some.inj h
              refine W.widen (k := cells + 2) (n := slots + 12) (by omega) (by omega) ?_
              exact kk _ _ hP hQ hS _ (lv_sub hl [1, 2, 3, 4, 5, 6, 7, 0] rfl)
            · rw [if_pos c20] at h
              refine lv_aload_n hx hb dL_isGame_108 rfl (lv_at hl 0 rfl) ?_
              refine lv_iconst (v := 1) hx hb dL_isGame_109 (by decide) ?_
              obtain ⟨q22, hqq22, h⟩ := obind_some h
              obtain ⟨g21, h⟩ := gd_some h
              refine cTY S5 hK hP hQ hD hS hT (fun _ h => hA _ _ hS.1 h) (As := [.int 1]) (kX5_won l D cA ad sa hst _ _ _ hqq22) g21 (cwV 1 hts gL_isGame_X5_won rfl rfl rfl (by decide +kernel) ⟨(Nat.le_of_ble_eq_true rfl), (Nat.le_of_ble_eq_true rfl)⟩) rfl hl.1 (st0 := _) (rest := []) rfl (Nat.le_of_ble_eq_true rfl) dL_isGame_110 ⟨(by show _ ≤ 222; omega), (by show _ ≤ 1257; omega)⟩ (fun H locs hP hQ hS => ?_)
              refine lv_aload_n hx hb dL_isGame_113 rfl (lv_at hl 2 rfl) ?_
              refine lv_aload_n hx hb dL_isGame_114 rfl (lv_at hl 3 rfl) ?_
              refine lv_aload_n hx hb dL_isGame_115 rfl (lv_at hl 3 rfl) ?_
              refine lv_iconst (v := 0) hx hb dL_isGame_116 (by decide) ?_
              refine alH2 S5 hK hQ (v := N 2 0) (by decide) rfl dL_isGame_117 ?_
              refine lv_iconst (v := 1) hx hb dL_isGame_118 (by decide) ?_
              obtain ⟨q23, hqq23, h⟩ := obind_some h
              refine cSRH S5 hK hQ (As := [.ref (ah 1), .ref (ah 2), .int (N 2 0), .int 1]) (kL_tricks l D cA ah _ _ _ _ hqq23) (va_cwS 4 hts gL_isGame_L_tricks rfl rfl rfl (by decide +kernel) ⟨(Nat.le_of_ble_eq_true rfl), (Nat.le_of_ble_eq_true rfl)⟩) rfl hl.1 (st0 := _) (rest := [.int q22.2.1]) rfl (Nat.le_of_ble_eq_true rfl) dL_isGame_119 ⟨(by show _ ≤ 222; omega), (by show _ ≤ 1257; omega)⟩ ?_
              refine lv_icmp_ne (tgt := 129) hx hb dL_isGame_122 (by decide) (fun c24 => ?_) (fun c24 => ?_)
              · rw [if_neg c24] at h
                refine lv_iconst (v := 0) hx hb dL_isGame_129 (by decide) ?_
                refine lv_istore (lv' := [(7, .int 0), (0, .ref (ad 8)), (1, .ref (ah 0)), (2, .ref (ah 1)), (3, .ref (ah 2)), (4, .int v4), (5, .int v5), (6, .int v6)]) hx hb dL_isGame_130 hl (by decide) rfl (fun ls hl => ?_)
                obtain rfl := Option.some.inj h
                refine W.widen (k := cells + 2) (n := slots + 12) (by omega) (by omega) ?_
                exact kk _ _ hP hQ hS _ (lv_sub hl [1, 2, 3, 4, 5, 6, 7, 0] rfl)
              · rw [if_pos c24] at h
                refine lv_iconst (v := 1) hx hb dL_isGame_125 (by decide) ?_
                refine lv_goto (tgt := 130) hx hb dL_isGame_126 (by decide) ?_
                refine lv_istore (lv' := [(7, .int 1), (0, .ref (ad 8)), (1, .ref (ah 0)), (2, .ref (ah 1)), (3, .ref (ah 2)), (4, .int v4), (5, .int v5), (6, .int v6)]) hx hb dL_isGame_130 hl (by decide) rfl (fun ls hl => ?_)
                obtain rfl := Option.some.inj h
                refine W.widen (k := cells + 2) (n := slots + 12) (by omega) (by omega) ?_
                exact kk _ _ hP hQ hS _ (lv_sub hl [1, 2, 3, 4, 5, 6, 7, 0] rfl)
    · rw [if_pos c13] at h
      refine lv_iconst (v := 1) hx hb dL_isGame_65 (by decide) ?_
      refine lv_goto (tgt := 70) hx hb dL_isGame_66 (by decide) ?_
      refine lv_icmp_ne (tgt := 129) hx hb dL_isGame_70 (by decide) (fun c25 => ?_) (fun c25 => ?_)
      · rw [if_neg c25] at h
        refine lv_iconst (v := 0) hx hb dL_isGame_129 (by decide) ?_
        refine lv_istore (lv' := [(7, .int 0), (0, .ref (ad 8)), (1, .ref (ah 0)), (2, .ref (ah 1)), (3, .ref (ah 2)), (4, .int v4), (5, .int v5), (6, .int v6)]) hx hb dL_isGame_130 hl (by decide) rfl (fun ls hl => ?_)
        obtain rfl := Option.some.inj h
        refine W.widen (k := cells + 2) (n := slots + 12) (by omega) (by omega) ?_
        exact kk _ _ hP hQ hS _ (lv_sub hl [1, 2, 3, 4, 5, 6, 7, 0] rfl)
      · rw [if_pos c25] at h
        refine lv_aload_n hx hb dL_isGame_73 rfl (lv_at hl 0 rfl) ?_
        refine cVX S5 hK hP 8 rfl rfl (As := []) (kX5_turn l D cA ad _) (cwV 0 hts gL_isGame_X5_turn rfl rfl rfl (by decide +kernel) ⟨(Nat.le_of_ble_eq_true rfl), (Nat.le_of_ble_eq_true rfl)⟩) rfl hl.1 (st0 := _) (rest := []) rfl (Nat.le_of_ble_eq_true rfl) dL_isGame_74 ⟨(by show _ ≤ 222; omega), (by show _ ≤ 1257; omega)⟩ ?_
        refine lv_iload hx hb dL_isGame_77 (lv_at hl 6 rfl) ?_
        refine lv_icmp_ne (tgt := 129) hx hb dL_isGame_79 (by decide) (fun c26 => ?_) (fun c26 => ?_)
        · rw [if_neg c26] at h
          refine lv_iconst (v := 0) hx hb dL_isGame_129 (by decide) ?_
          refine lv_istore (lv' := [(7, .int 0), (0, .ref (ad 8)), (1, .ref (ah 0)), (2, .ref (ah 1)), (3, .ref (ah 2)), (4, .int v4), (5, .int v5), (6, .int v6)]) hx hb dL_isGame_130 hl (by decide) rfl (fun ls hl => ?_)
          obtain rfl := Option.some.inj h
          refine W.widen (k := cells + 2) (n := slots + 12) (by omega) (by omega) ?_
          exact kk _ _ hP hQ hS _ (lv_sub hl [1, 2, 3, 4, 5, 6, 7, 0] rfl)
        · rw [if_pos c26] at h
          refine lv_aload_n hx hb dL_isGame_82 rfl (lv_at hl 0 rfl) ?_
          refine cVX S5 hK hP 8 rfl rfl (As := []) (kX5_inTrick l D cA ad _) (cwV 0 hts gL_isGame_X5_inTrick rfl rfl rfl (by decide +kernel) ⟨(Nat.le_of_ble_eq_true rfl), (Nat.le_of_ble_eq_true rfl)⟩) rfl hl.1 (st0 := _) (rest := []) rfl (Nat.le_of_ble_eq_true rfl) dL_isGame_83 ⟨(by show _ ≤ 222; omega), (by show _ ≤ 1257; omega)⟩ ?_
          refine lv_iload hx hb dL_isGame_86 (lv_at hl 5 rfl) ?_
          refine lv_icmp_ne (tgt := 129) hx hb dL_isGame_88 (by decide) (fun c27 => ?_) (fun c27 => ?_)
          · rw [if_neg c27] at h
            refine lv_iconst (v := 0) hx hb dL_isGame_129 (by decide) ?_
            refine lv_istore (lv' := [(7, .int 0), (0, .ref (ad 8)), (1, .ref (ah 0)), (2, .ref (ah 1)), (3, .ref (ah 2)), (4, .int v4), (5, .int v5), (6, .int v6)]) hx hb dL_isGame_130 hl (by decide) rfl (fun ls hl => ?_)
            obtain rfl := Option.some.inj h
            refine W.widen (k := cells + 2) (n := slots + 12) (by omega) (by omega) ?_
            exact kk _ _ hP hQ hS _ (lv_sub hl [1, 2, 3, 4, 5, 6, 7, 0] rfl)
          · rw [if_pos c27] at h
            refine lv_aload_n hx hb dL_isGame_91 rfl (lv_at hl 0 rfl) ?_
            refine lv_iconst (v := 0) hx hb dL_isGame_92 (by decide) ?_
            obtain ⟨q29, hqq29, h⟩ := obind_some h
            obtain ⟨g28, h⟩ := gd_some h
            refine cTY S5 hK hP hQ hD hS hT (fun _ h => hA _ _ hS.1 h) (As := [.int 0]) (kX5_won l D cA ad sa hst _ _ _ hqq29) g28 (cwV 1 hts gL_isGame_X5_won rfl rfl rfl (by decide +kernel) ⟨(Nat.le_of_ble_eq_true rfl), (Nat.le_of_ble_eq_true rfl)⟩) rfl hl.1 (st0 := _) (rest := []) rfl (Nat.le_of_ble_eq_true rfl) dL_isGame_93 ⟨(by show _ ≤ 222; omega), (by show _ ≤ 1257; omega)⟩ (fun H locs hP hQ hS => ?_)
            refine lv_aload_n hx hb dL_isGame_96 rfl (lv_at hl 2 rfl) ?_
            refine lv_aload_n hx hb dL_isGame_97 rfl (lv_at hl 3 rfl) ?_
            refine lv_aload_n hx hb dL_isGame_98 rfl (lv_at hl 3 rfl) ?_
            refine lv_iconst (v := 0) hx hb dL_isGame_99 (by decide) ?_
            refine alH2 S5 hK hQ (v := N 2 0) (by decide) rfl dL_isGame_100 ?_
            refine lv_iconst (v := 0) hx hb dL_isGame_101 (by decide) ?_
            obtain ⟨q30, hqq30, h⟩ := obind_some h
            refine cSRH S5 hK hQ (As := [.ref (ah 1), .ref (ah 2), .int (N 2 0), .int 0]) (kL_tricks l D cA ah _ _ _ _ hqq30) (va_cwS 4 hts gL_isGame_L_tricks rfl rfl rfl (by decide +kernel) ⟨(Nat.le_of_ble_eq_true rfl), (Nat.le_of_ble_eq_true rfl)⟩) rfl hl.1 (st0 := _) (rest := [.int q29.2.1]) rfl (Nat.le_of_ble_eq_true rfl) dL_isGame_102 ⟨(by show _ ≤ 222; omega), (by show _ ≤ 1257; omega)⟩ ?_
            refine lv_icmp_ne (tgt := 129) hx hb dL_isGame_105 (by decide) (fun c31 => ?_) (fun c31 => ?_)
            · rw [if_neg c31] at h
              refine lv_iconst (v := 0) hx hb dL_isGame_129 (by decide) ?_
              refine lv_istore (lv' := [(7, .int 0), (0, .ref (ad 8)), (1, .ref (ah 0)), (2, .ref (ah 1)), (3, .ref (ah 2)), (4, .int v4), (5, .int v5), (6, .int v6)]) hx hb dL_isGame_130 hl (by decide) rfl (fun ls hl => ?_)
              obtain rfl := Option.some.inj h
              refine W.widen (k := cells + 2) (n := slots + 12) (by omega) (by omega) ?_
              exact kk _ _ hP hQ hS _ (lv_sub hl [1, 2, 3, 4, 5, 6, 7, 0] rfl)
            · rw [if_pos c31] at h
              refine lv_aload_n hx hb dL_isGame_108 rfl (lv_at hl 0 rfl) ?_
              refine lv_iconst (v := 1) hx hb dL_isGame_109 (by decide) ?_
              obtain ⟨q33, hqq33, h⟩ := obind_some h
              obtain ⟨g32, h⟩ := gd_some h
              refine cTY S5 hK hP hQ hD hS hT (fun _ h => hA _ _ hS.1 h) (As := [.int 1]) (kX5_won l D cA ad sa hst _ _ _ hqq33) g32 (cwV 1 hts gL_isGame_X5_won rfl rfl rfl (by decide +kernel) ⟨(Nat.le_of_ble_eq_true rfl), (Nat.le_of_ble_eq_true rfl)⟩) rfl hl.1 (st0 := _) (rest := []) rfl (Nat.le_of_ble_eq_true rfl) dL_isGame_110 ⟨(by show _ ≤ 222; omega), (by show _ ≤ 1257; omega)⟩ (fun H locs hP hQ hS => ?_)
              refine lv_aload_n hx hb dL_isGame_113 rfl (lv_at hl 2 rfl) ?_
              refine lv_aload_n hx hb dL_isGame_114 rfl (lv_at hl 3 rfl) ?_
              refine lv_aload_n hx hb dL_isGame_115 rfl (lv_at hl 3 rfl) ?_
              refine lv_iconst (v := 0) hx hb dL_isGame_116 (by decide) ?_
              refine alH2 S5 hK hQ (v := N 2 0) (by decide) rfl dL_isGame_117 ?_
              refine lv_iconst (v := 1) hx hb dL_isGame_118 (by decide) ?_
              obtain ⟨q34, hqq34, h⟩ := obind_some h
              refine cSRH S5 hK hQ (As := [.ref (ah 1), .ref (ah 2), .int (N 2 0), .int 1]) (kL_tricks l D cA ah _ _ _ _ hqq34) (va_cwS 4 hts gL_isGame_L_tricks rfl rfl rfl (by decide +kernel) ⟨(Nat.le_of_ble_eq_true rfl), (Nat.le_of_ble_eq_true rfl)⟩) rfl hl.1 (st0 := _) (rest := [.int q33.2.1]) rfl (Nat.le_of_ble_eq_true rfl) dL_isGame_119 ⟨(by show _ ≤ 222; omega), (by show _ ≤ 1257; omega)⟩ ?_
              refine lv_icmp_ne (tgt := 129) hx hb dL_isGame_122 (by decide) (fun c35 => ?_) (fun c35 => ?_)
              · rw [if_neg c35] at h
                refine lv_iconst (v := 0) hx hb dL_isGame_129 (by decide) ?_
                refine lv_istore (lv' := [(7, .int 0), (0, .ref (ad 8)), (1, .ref (ah 0)), (2, .ref (ah 1)), (3, .ref (ah 2)), (4, .int v4), (5, .int v5), (6, .int v6)]) hx hb dL_isGame_130 hl (by decide) rfl (fun ls hl => ?_)
                obtain rfl := Option.some.inj h
                refine W.widen (k := cells + 2) (n := slots + 12) (by omega) (by omega) ?_
                exact kk _ _ hP hQ hS _ (lv_sub hl [1, 2, 3, 4, 5, 6, 7, 0] rfl)
              · rw [if_pos c35] at h
                refine lv_iconst (v := 1) hx hb dL_isGame_125 (by decide) ?_
                refine lv_goto (tgt := 130) hx hb dL_isGame_126 (by decide) ?_
                refine lv_istore (lv' := [(7, .int 1), (0, .ref (ad 8)), (1, .ref (ah 0)), (2, .ref (ah 1)), (3, .ref (ah 2)), (4, .int v4), (5, .int v5), (6, .int v6)]) hx hb dL_isGame_130 hl (by decide) rfl (fun ls hl => ?_)
                obtain rfl := Option.some.inj h
                refine W.widen (k := cells + 2) (n := slots + 12) (by omega) (by omega) ?_
                exact kk _ _ hP hQ hS _ (lv_sub hl [1, 2, 3, 4, 5, 6, 7, 0] rfl)
  have R423 : ∀ (v4 : Int32) (v6 : Int32) (v8 : Int32) (v9 : Int32) (M N : Mem) (r' : Int32 × Mem × Mem) (H : Heap) (locs : List Loc) (ls : Array Slot) (cells slots : Nat), fL_isGame_R423 v4 v6 v8 v9 M N = some r' → va_P D vwCl (wX cA ad M) H → va_P D vwCl (wH cA ah N) H → va_S A s.heap H locs → cells + 5 ≤ 222 → slots + 30 ≤ 1257 → lv_has ls 14 [(0, .ref (ad 8)), (1, .ref (ah 0)), (2, .ref (ah 1)), (3, .ref (ah 2)), (4, .int v4), (6, .int v6), (8, .int v8), (9, .int v9)] → (∀ (H : Heap) (locs : List Loc), va_P D vwCl (wX cA ad (r'.2.1)) H → va_P D vwCl (wH cA ah (r'.2.2)) H → va_S A s.heap H locs → ∀ (ls : Array Slot), lv_has ls 14 [(0, .ref (ad 8)), (1, .ref (ah 0)), (2, .ref (ah 1)), (3, .ref (ah 2)), (4, .int v4), (6, .int v6), (7, .int (r'.1)), (8, .int v8), (9, .int v9)] → W p l e rmL_isGame s m args below meth c H locs (cells + 5) (slots + 30) Q (F0 m 540 ls [])) → W p l e rmL_isGame s m args below meth c H locs cells slots Q (F0 m 423 ls []) := by
    intro v4 v6 v8 v9 M N r' H locs ls cells slots h hP hQ hS hc hs hl kk
    unfold fL_isGame_R423 at h
    refine lv_iload hx hb dL_isGame_423 (lv_at hl 4 rfl) ?_
    refine lv_iload hx hb dL_isGame_425 (lv_at hl 7 rfl) ?_
    refine cS S5 (As := [.int v4, .int v9]) (kL_has l _ _) (va_cwS 2 hts gL_isGame_L_has rfl rfl rfl (by decide +kernel) ⟨(Nat.le_of_ble_eq_true rfl), (Nat.le_of_ble_eq_true rfl)⟩) rfl hl.1 (st0 := _) (rest := []) rfl (Nat.le_of_ble_eq_true rfl) dL_isGame_427 ⟨(by show _ ≤ 222; omega), (by show _ ≤ 1257; omega)⟩ ?_
    refine lv_istore (lv' := [(10, .int (fL_has v4 v9)), (0, .ref (ad 8)), (1, .ref (ah 0)), (2, .ref (ah 1)), (3, .ref (ah 2)), (4, .int v4), (6, .int v6), (8, .int v8), (9, .int v9)]) hx hb dL_isGame_430 hl (by decide) rfl (fun ls hl => ?_)
    refine lv_aload_n hx hb dL_isGame_432 rfl (lv_at hl 1 rfl) ?_
    refine lv_iload hx hb dL_isGame_433 (lv_at hl 8 rfl) ?_
    obtain ⟨g67, h⟩ := gd_some h
    refine cTY S5 hK hP hQ hD hS hT (fun _ h => hA _ _ hS.1 h) (As := [.int v9]) (kX5_canPlay l D cA ad sa hst _ _) g67 (cwV 1 hts gL_isGame_X5_canPlay rfl rfl rfl (by decide +kernel) ⟨(Nat.le_of_ble_eq_true rfl), (Nat.le_of_ble_eq_true rfl)⟩) rfl hl.1 (st0 := _) (rest := []) rfl (Nat.le_of_ble_eq_true rfl) dL_isGame_435 ⟨(by show _ ≤ 222; omega), (by show _ ≤ 1257; omega)⟩ (fun H locs hP hQ hS => ?_)
    refine lv_iload hx hb dL_isGame_438 (lv_at hl 6 rfl) ?_
    refine lv_if_lt (tgt := 461) hx hb dL_isGame_440 (by decide) (fun c68 => ?_) (fun c68 => ?_)
    · rw [if_pos c68] at h
      refine lv_iconst (v := 0) hx hb dL_isGame_461 (by decide) ?_
      refine lv_icmp_ne (tgt := 537) hx hb dL_isGame_462 (by decide) (fun c69 => ?_) (fun c69 => ?_)
      · rw [if_neg c69] at h
        refine lv_iconst (v := 0) hx hb dL_isGame_537 (by decide) ?_
        refine lv_istore (lv' := [(7, .int 0), (10, .int (fL_has v4 v9)), (0, .ref (ad 8)), (1, .ref (ah 0)), (2, .ref (ah 1)), (3, .ref (ah 2)), (4, .int v4), (6, .int v6), (8, .int v8), (9, .int v9)]) hx hb dL_isGame_538 hl (by decide) rfl (fun ls hl => ?_)
        obtain rfl := Option.some.inj h
        refine W.widen (k := cells + 5) (n := slots + 30) (by omega) (by omega) ?_
        exact kk _ _ hP hQ hS _ (lv_sub hl [2, 3, 4, 5, 6, 7, 0, 8, 9] rfl)
      · rw [if_pos c69] at h
        refine lv_aload_n hx hb dL_isGame_465 rfl (lv_at hl 1 rfl) ?_
        refine lv_bipush (v := 8) hx hb dL_isGame_466 (by decide) ?_
        refine lv_iload hx hb dL_isGame_468 (lv_at hl 8 rfl) ?_
        refine lv_iconst (v := 0) hx hb dL_isGame_470 (by decide) ?_
        obtain ⟨q71, hqq71, h⟩ := obind_some h
        obtain ⟨g70, h⟩ := gd_some h
        refine cDY S5 hK hP hQ hD hS hT (fun _ h => hA _ _ hS.1 h) (As := [.ref (ad 8), .int 8, .int v9, .int 0]) (kL_does_8 l D cA ad sa hst v9 0 _ _ hqq71 g70) (vx_cwSW 4 hts gL_isGame_L_does rfl rfl rfl (by decide +kernel) ⟨(Nat.le_of_ble_eq_true rfl), (Nat.le_of_ble_eq_true rfl)⟩) rfl hl.1 (st0 := _) (rest := []) rfl (Nat.le_of_ble_eq_true rfl) dL_isGame_471 ⟨(by show _ ≤ 222; omega), (by show _ ≤ 1257; omega)⟩ (fun H locs hP hQ hS => ?_)
        refine lv_iload hx hb dL_isGame_474 (lv_at hl 0 rfl) ?_
        refine lv_if_eq (tgt := 490) hx hb dL_isGame_476 (by decide) (fun c72 => ?_) (fun c72 => ?_)
        · rw [if_pos c72] at h
          refine lv_bipush (v := (-13)) hx hb dL_isGame_490 (by decide) ?_
          refine lv_icmp_ne (tgt := 537) hx hb dL_isGame_492 (by decide) (fun c73 => ?_) (fun c73 => ?_)
          · rw [if_neg c73] at h
            refine lv_iconst (v := 0) hx hb dL_isGame_537 (by decide) ?_
            refine lv_istore (lv' := [(7, .int 0), (10, .int (fL_has v4 v9)), (0, .ref (ad 8)), (1, .ref (ah 0)), (2, .ref (ah 1)), (3, .ref (ah 2)), (4, .int v4), (6, .int v6), (8, .int v8), (9, .int v9)]) hx hb dL_isGame_538 hl (by decide) rfl (fun ls hl => ?_)
            obtain rfl := Option.some.inj h
            refine W.widen (k := cells + 5) (n := slots + 30) (by omega) (by omega) ?_
            exact kk _ _ hP hQ hS _ (lv_sub hl [2, 3, 4, 5, 6, 7, 0, 8, 9] rfl)
          · rw [if_pos c73] at h
            refine lv_aload_n hx hb dL_isGame_495 rfl (lv_at hl 1 rfl) ?_
            refine lv_bipush (v := 9) hx hb dL_isGame_496 (by decide) ?_
            refine lv_iload hx hb dL_isGame_498 (lv_at hl 8 rfl) ?_
            refine lv_iconst (v := 0) hx hb dL_isGame_500 (by decide) ?_
            obtain ⟨q75, hqq75, h⟩ := obind_some h
            obtain ⟨g74, h⟩ := gd_some h
            refine cDY S5 hK hP hQ hD hS hT (fun _ h => hA _ _ hS.1 h) (As := [.ref (ad 8), .int 9, .int v9, .int 0]) (kL_does_9 l D cA ad sa hst v9 0 _ _ hqq75 g74) (vx_cwSW 4 hts gL_isGame_L_does rfl rfl rfl (by decide +kernel) ⟨(Nat.le_of_ble_eq_true rfl), (Nat.le_of_ble_eq_true rfl)⟩) rfl hl.1 (st0 := _) (rest := []) rfl (Nat.le_of_ble_eq_true rfl) dL_isGame_501 ⟨(by show _ ≤ 222; omega), (by show _ ≤ 1257; omega)⟩ (fun H locs hP hQ hS => ?_)
            refine lv_iload hx hb dL_isGame_504 (lv_at hl 0 rfl) ?_
            refine lv_if_ne (tgt := 514) hx hb dL_isGame_506 (by decide) (fun c76 => ?_) (fun c76 => ?_)
            · rw [if_neg c76] at h
              refine lv_aload_n hx hb dL_isGame_514 rfl (lv_at hl 2 rfl) ?_
              refine lv_aload_n hx hb dL_isGame_515 rfl (lv_at hl 3 rfl) ?_
              refine lv_aload_n hx hb dL_isGame_516 rfl (lv_at hl 4 rfl) ?_
              refine lv_iload hx hb dL_isGame_517 (lv_at hl 8 rfl) ?_
              obtain ⟨q77, hqq77, h⟩ := obind_some h
              refine cSRH S5 hK hQ (As := [.ref (ah 0), .ref (ah 1), .ref (ah 2), .int v9]) (kL_isTop l D cA ah _ _ _ hqq77) (va_cwS 4 hts gL_isGame_L_isTop rfl rfl rfl (by decide +kernel) ⟨(Nat.le_of_ble_eq_true rfl), (Nat.le_of_ble_eq_true rfl)⟩) rfl hl.1 (st0 := _) (rest := [.int (dv9 q75)]) rfl (Nat.le_of_ble_eq_true rfl) dL_isGame_519 ⟨(by show _ ≤ 222; omega), (by show _ ≤ 1257; omega)⟩ ?_
              refine lv_if_eq (tgt := 529) hx hb dL_isGame_522 (by decide) (fun c78 => ?_) (fun c78 => ?_)
              · rw [if_pos c78] at h
                refine lv_iconst (v := 0) hx hb dL_isGame_529 (by decide) ?_
                refine lv_icmp_ne (tgt := 537) hx hb dL_isGame_530 (by decide) (fun c79 => ?_) (fun c79 => ?_)
                · rw [if_neg c79] at h
                  refine lv_iconst (v := 0) hx hb dL_isGame_537 (by decide) ?_
                  refine lv_istore (lv' := [(7, .int 0), (10, .int (fL_has v4 v9)), (0, .ref (ad 8)), (1, .ref (ah 0)), (2, .ref (ah 1)), (3, .ref (ah 2)), (4, .int v4), (6, .int v6), (8, .int v8), (9, .int v9)]) hx hb dL_isGame_538 hl (by decide) rfl (fun ls hl => ?_)
                  obtain rfl := Option.some.inj h
                  refine W.widen (k := cells + 5) (n := slots + 30) (by omega) (by omega) ?_
                  exact kk _ _ hP hQ hS _ (lv_sub hl [2, 3, 4, 5, 6, 7, 0, 8, 9] rfl)
                · rw [if_pos c79] at h
                  refine lv_iconst (v := 1) hx hb dL_isGame_533 (by decide) ?_
                  refine lv_goto (tgt := 538) hx hb dL_isGame_534 (by decide) ?_
                  refine lv_istore (lv' := [(7, .int 1), (10, .int (fL_has v4 v9)), (0, .ref (ad 8)), (1, .ref (ah 0)), (2, .ref (ah 1)), (3, .ref (ah 2)), (4, .int v4), (6, .int v6), (8, .int v8), (9, .int v9)]) hx hb dL_isGame_538 hl (by decide) rfl (fun ls hl => ?_)
                  obtain rfl := Option.some.inj h
                  refine W.widen (k := cells + 5) (n := slots + 30) (by omega) (by omega) ?_
                  exact kk _ _ hP hQ hS _ (lv_sub hl [2, 3, 4, 5, 6, 7, 0, 8, 9] rfl)
              · rw [if_neg c78] at h
                refine lv_iconst (v := 1) hx hb dL_isGame_525 (by decide) ?_
                refine lv_goto (tgt := 530) hx hb dL_isGame_526 (by decide) ?_
                refine lv_icmp_ne (tgt := 537) hx hb dL_isGame_530 (by decide) (fun c80 => ?_) (fun c80 => ?_)
                · rw [if_neg c80] at h
                  refine lv_iconst (v := 0) hx hb dL_isGame_537 (by decide) ?_
                  refine lv_istore (lv' := [(7, .int 0), (10, .int (fL_has v4 v9)), (0, .ref (ad 8)), (1, .ref (ah 0)), (2, .ref (ah 1)), (3, .ref (ah 2)), (4, .int v4), (6, .int v6), (8, .int v8), (9, .int v9)]) hx hb dL_isGame_538 hl (by decide) rfl (fun ls hl => ?_)
                  obtain rfl := Option.some.inj h
                  refine W.widen (k := cells + 5) (n := slots + 30) (by omega) (by omega) ?_
                  exact kk _ _ hP hQ hS _ (lv_sub hl [2, 3, 4, 5, 6, 7, 0, 8, 9] rfl)
                · rw [if_pos c80] at h
                  refine lv_iconst (v := 1) hx hb dL_isGame_533 (by decide) ?_
                  refine lv_goto (tgt := 538) hx hb dL_isGame_534 (by decide) ?_
                  refine lv_istore (lv' := [(7, .int 1), (10, .int (fL_has v4 v9)), (0, .ref (ad 8)), (1, .ref (ah 0)), (2, .ref (ah 1)), (3, .ref (ah 2)), (4, .int v4), (6, .int v6), (8, .int v8), (9, .int v9)]) hx hb dL_isGame_538 hl (by decide) rfl (fun ls hl => ?_)
                  obtain rfl := Option.some.inj h
                  refine W.widen (k := cells + 5) (n := slots + 30) (by omega) (by omega) ?_
                  exact kk _ _ hP hQ hS _ (lv_sub hl [2, 3, 4, 5, 6, 7, 0, 8, 9] rfl)
            · rw [if_pos c76] at h
              refine lv_bipush (v := (-13)) hx hb dL_isGame_509 (by decide) ?_
              refine lv_goto (tgt := 530) hx hb dL_isGame_511 (by decide) ?_
              refine lv_icmp_ne (tgt := 537) hx hb dL_isGame_530 (by decide) (fun c81 => ?_) (fun c81 => ?_)
              · rw [if_neg c81] at h
                refine lv_iconst (v := 0) hx hb dL_isGame_537 (by decide) ?_
                refine lv_istore (lv' := [(7, .int 0), (10, .int (fL_has v4 v9)), (0, .ref (ad 8)), (1, .ref (ah 0)), (2, .ref (ah 1)), (3, .ref (ah 2)), (4, .int v4), (6, .int v6), (8, .int v8), (9, .int v9)]) hx hb dL_isGame_538 hl (by decide) rfl (fun ls hl => ?_)
                obtain rfl := Option.some.inj h
                refine W.widen (k := cells + 5) (n := slots + 30) (by omega) (by omega) ?_
                exact kk _ _ hP hQ hS _ (lv_sub hl [2, 3, 4, 5, 6, 7, 0, 8, 9] rfl)
              · rw [if_pos c81] at h
                refine lv_iconst (v := 1) hx hb dL_isGame_533 (by decide) ?_
                refine lv_goto (tgt := 538) hx hb dL_isGame_534 (by decide) ?_
                refine lv_istore (lv' := [(7, .int 1), (10, .int (fL_has v4 v9)), (0, .ref (ad 8)), (1, .ref (ah 0)), (2, .ref (ah 1)), (3, .ref (ah 2)), (4, .int v4), (6, .int v6), (8, .int v8), (9, .int v9)]) hx hb dL_isGame_538 hl (by decide) rfl (fun ls hl => ?_)
                obtain rfl := Option.some.inj h
                refine W.widen (k := cells + 5) (n := slots + 30) (by omega) (by omega) ?_
                exact kk _ _ hP hQ hS _ (lv_sub hl [2, 3, 4, 5, 6, 7, 0, 8, 9] rfl)
        · rw [if_neg c72] at h
          refine lv_aload_n hx hb dL_isGame_479 rfl (lv_at hl 2 rfl) ?_
          refine lv_aload_n hx hb dL_isGame_480 rfl (lv_at hl 3 rfl) ?_
          refine lv_aload_n hx hb dL_isGame_481 rfl (lv_at hl 4 rfl) ?_
          refine lv_iload hx hb dL_isGame_482 (lv_at hl 8 rfl) ?_
          obtain ⟨q82, hqq82, h⟩ := obind_some h
          refine cSRH S5 hK hQ (As := [.ref (ah 0), .ref (ah 1), .ref (ah 2), .int v9]) (kL_lowest l D cA ah _ _ _ hqq82) (va_cwS 4 hts gL_isGame_L_lowest rfl rfl rfl (by decide +kernel) ⟨(Nat.le_of_ble_eq_true rfl), (Nat.le_of_ble_eq_true rfl)⟩) rfl hl.1 (st0 := _) (rest := [.int (dv q71)]) rfl (Nat.le_of_ble_eq_true rfl) dL_isGame_484 ⟨(by show _ ≤ 222; omega), (by show _ ≤ 1257; omega)⟩ ?_
          refine lv_goto (tgt := 492) hx hb dL_isGame_487 (by decide) ?_
          refine lv_icmp_ne (tgt := 537) hx hb dL_isGame_492 (by decide) (fun c83 => ?_) (fun c83 => ?_)
          · rw [if_neg c83] at h
            refine lv_iconst (v := 0) hx hb dL_isGame_537 (by decide) ?_
            refine lv_istore (lv' := [(7, .int 0), (10, .int (fL_has v4 v9)), (0, .ref (ad 8)), (1, .ref (ah 0)), (2, .ref (ah 1)), (3, .ref (ah 2)), (4, .int v4), (6, .int v6), (8, .int v8), (9, .int v9)]) hx hb dL_isGame_538 hl (by decide) rfl (fun ls hl => ?_)
            obtain rfl := Option.some.inj h
            refine W.widen (k := cells + 5) (n := slots + 30) (by omega) (by omega) ?_
            exact kk _ _ hP hQ hS _ (lv_sub hl [2, 3, 4, 5, 6, 7, 0, 8, 9] rfl)
          · rw [if_pos c83] at h
            refine lv_aload_n hx hb dL_isGame_495 rfl (lv_at hl 1 rfl) ?_
            refine lv_bipush (v := 9) hx hb dL_isGame_496 (by decide) ?_
            refine lv_iload hx hb dL_isGame_498 (lv_at hl 8 rfl) ?_
            refine lv_iconst (v := 0) hx hb dL_isGame_500 (by decide) ?_
            obtain ⟨q85, hqq85, h⟩ := obind_some h
            obtain ⟨g84, h⟩ := gd_some h
            refine cDY S5 hK hP hQ hD hS hT (fun _ h => hA _ _ hS.1 h) (As := [.ref (ad 8), .int 9, .int v9, .int 0]) (kL_does_9 l D cA ad sa hst v9 0 _ _ hqq85 g84) (vx_cwSW 4 hts gL_isGame_L_does rfl rfl rfl (by decide +kernel) ⟨(Nat.le_of_ble_eq_true rfl), (Nat.le_of_ble_eq_true rfl)⟩) rfl hl.1 (st0 := _) (rest := []) rfl (Nat.le_of_ble_eq_true rfl) dL_isGame_501 ⟨(by show _ ≤ 222; omega), (by show _ ≤ 1257; omega)⟩ (fun H locs hP hQ hS => ?_)
            refine lv_iload hx hb dL_isGame_504 (lv_at hl 0 rfl) ?_
            refine lv_if_ne (tgt := 514) hx hb dL_isGame_506 (by decide) (fun c86 => ?_) (fun c86 => ?_)
            · rw [if_neg c86] at h
              refine lv_aload_n hx hb dL_isGame_514 rfl (lv_at hl 2 rfl) ?_
              refine lv_aload_n hx hb dL_isGame_515 rfl (lv_at hl 3 rfl) ?_
              refine lv_aload_n hx hb dL_isGame_516 rfl (lv_at hl 4 rfl) ?_
              refine lv_iload hx hb dL_isGame_517 (lv_at hl 8 rfl) ?_
              obtain ⟨q87, hqq87, h⟩ := obind_some h
              refine cSRH S5 hK hQ (As := [.ref (ah 0), .ref (ah 1), .ref (ah 2), .int v9]) (kL_isTop l D cA ah _ _ _ hqq87) (va_cwS 4 hts gL_isGame_L_isTop rfl rfl rfl (by decide +kernel) ⟨(Nat.le_of_ble_eq_true rfl), (Nat.le_of_ble_eq_true rfl)⟩) rfl hl.1 (st0 := _) (rest := [.int (dv9 q85)]) rfl (Nat.le_of_ble_eq_true rfl) dL_isGame_519 ⟨(by show _ ≤ 222; omega), (by show _ ≤ 1257; omega)⟩ ?_
              refine lv_if_eq (tgt := 529) hx hb dL_isGame_522 (by decide) (fun c88 => ?_) (fun c88 => ?_)
              · rw [if_pos c88] at h
                refine lv_iconst (v := 0) hx hb dL_isGame_529 (by decide) ?_
                refine lv_icmp_ne (tgt := 537) hx hb dL_isGame_530 (by decide) (fun c89 => ?_) (fun c89 => ?_)
                · rw [if_neg c89] at h
                  refine lv_iconst (v := 0) hx hb dL_isGame_537 (by decide) ?_
                  refine lv_istore (lv' := [(7, .int 0), (10, .int (fL_has v4 v9)), (0, .ref (ad 8)), (1, .ref (ah 0)), (2, .ref (ah 1)), (3, .ref (ah 2)), (4, .int v4), (6, .int v6), (8, .int v8), (9, .int v9)]) hx hb dL_isGame_538 hl (by decide) rfl (fun ls hl => ?_)
                  obtain rfl := Option.some.inj h
                  refine W.widen (k := cells + 5) (n := slots + 30) (by omega) (by omega) ?_
                  exact kk _ _ hP hQ hS _ (lv_sub hl [2, 3, 4, 5, 6, 7, 0, 8, 9] rfl)
                · rw [if_pos c89] at h
                  refine lv_iconst (v := 1) hx hb dL_isGame_533 (by decide) ?_
                  refine lv_goto (tgt := 538) hx hb dL_isGame_534 (by decide) ?_
                  refine lv_istore (lv' := [(7, .int 1), (10, .int (fL_has v4 v9)), (0, .ref (ad 8)), (1, .ref (ah 0)), (2, .ref (ah 1)), (3, .ref (ah 2)), (4, .int v4), (6, .int v6), (8, .int v8), (9, .int v9)]) hx hb dL_isGame_538 hl (by decide) rfl (fun ls hl => ?_)
                  obtain rfl := Option.some.inj h
                  refine W.widen (k := cells + 5) (n := slots + 30) (by omega) (by omega) ?_
                  exact kk _ _ hP hQ hS _ (lv_sub hl [2, 3, 4, 5, 6, 7, 0, 8, 9] rfl)
              · rw [if_neg c88] at h
                refine lv_iconst (v := 1) hx hb dL_isGame_525 (by decide) ?_
                refine lv_goto (tgt := 530) hx hb dL_isGame_526 (by decide) ?_
                refine lv_icmp_ne (tgt := 537) hx hb dL_isGame_530 (by decide) (fun c90 => ?_) (fun c90 => ?_)
                · rw [if_neg c90] at h
                  refine lv_iconst (v := 0) hx hb dL_isGame_537 (by decide) ?_
                  refine lv_istore (lv' := [(7, .int 0), (10, .int (fL_has v4 v9)), (0, .ref (ad 8)), (1, .ref (ah 0)), (2, .ref (ah 1)), (3, .ref (ah 2)), (4, .int v4), (6, .int v6), (8, .int v8), (9, .int v9)]) hx hb dL_isGame_538 hl (by decide) rfl (fun ls hl => ?_)
                  obtain rfl := Option.some.inj h
                  refine W.widen (k := cells + 5) (n := slots + 30) (by omega) (by omega) ?_
                  exact kk _ _ hP hQ hS _ (lv_sub hl [2, 3, 4, 5, 6, 7, 0, 8, 9] rfl)
                · rw [if_pos c90] at h
                  refine lv_iconst (v := 1) hx hb dL_isGame_533 (by decide) ?_
                  refine lv_goto (tgt := 538) hx hb dL_isGame_534 (by decide) ?_
                  refine lv_istore (lv' := [(7, .int 1), (10, .int (fL_has v4 v9)), (0, .ref (ad 8)), (1, .ref (ah 0)), (2, .ref (ah 1)), (3, .ref (ah 2)), (4, .int v4), (6, .int v6), (8, .int v8), (9, .int v9)]) hx hb dL_isGame_538 hl (by decide) rfl (fun ls hl => ?_)
                  obtain rfl := Option.some.inj h
                  refine W.widen (k := cells + 5) (n := slots + 30) (by omega) (by omega) ?_
                  exact kk _ _ hP hQ hS _ (lv_sub hl [2, 3, 4, 5, 6, 7, 0, 8, 9] rfl)
            · rw [if_pos c86] at h
              refine lv_bipush (v := (-13)) hx hb dL_isGame_509 (by decide) ?_
              refine lv_goto (tgt := 530) hx hb dL_isGame_511 (by decide) ?_
              refine lv_icmp_ne (tgt := 537) hx hb dL_isGame_530 (by decide) (fun c91 => ?_) (fun c91 => ?_)
              · rw [if_neg c91] at h
                refine lv_iconst (v := 0) hx hb dL_isGame_537 (by decide) ?_
                refine lv_istore (lv' := [(7, .int 0), (10, .int (fL_has v4 v9)), (0, .ref (ad 8)), (1, .ref (ah 0)), (2, .ref (ah 1)), (3, .ref (ah 2)), (4, .int v4), (6, .int v6), (8, .int v8), (9, .int v9)]) hx hb dL_isGame_538 hl (by decide) rfl (fun ls hl => ?_)
                obtain rfl := Option.some.inj h
                refine W.widen (k := cells + 5) (n := slots + 30) (by omega) (by omega) ?_
                exact kk _ _ hP hQ hS _ (lv_sub hl [2, 3, 4, 5, 6, 7, 0, 8, 9] rfl)
              · rw [if_pos c91] at h
                refine lv_iconst (v := 1) hx hb dL_isGame_533 (by decide) ?_
                refine lv_goto (tgt := 538) hx hb dL_isGame_534 (by decide) ?_
                refine lv_istore (lv' := [(7, .int 1), (10, .int (fL_has v4 v9)), (0, .ref (ad 8)), (1, .ref (ah 0)), (2, .ref (ah 1)), (3, .ref (ah 2)), (4, .int v4), (6, .int v6), (8, .int v8), (9, .int v9)]) hx hb dL_isGame_538 hl (by decide) rfl (fun ls hl => ?_)
                obtain rfl := Option.some.inj h
                refine W.widen (k := cells + 5) (n := slots + 30) (by omega) (by omega) ?_
                exact kk _ _ hP hQ hS _ (lv_sub hl [2, 3, 4, 5, 6, 7, 0, 8, 9] rfl)
    · rw [if_neg c68] at h
      refine lv_aload_n hx hb dL_isGame_443 rfl (lv_at hl 2 rfl) ?_
      refine lv_aload_n hx hb dL_isGame_444 rfl (lv_at hl 3 rfl) ?_
      refine lv_aload_n hx hb dL_isGame_445 rfl (lv_at hl 4 rfl) ?_
      refine lv_aload_n hx hb dL_isGame_446 rfl (lv_at hl 4 rfl) ?_
      refine lv_iconst (v := 0) hx hb dL_isGame_447 (by decide) ?_
      refine alH2 S5 hK hQ (v := N 2 0) (by decide) rfl dL_isGame_448 ?_
      refine lv_iload hx hb dL_isGame_449 (lv_at hl 8 rfl) ?_
      obtain ⟨q92, hqq92, h⟩ := obind_some h
      refine cSRH S5 hK hQ (As := [.ref (ah 0), .ref (ah 1), .ref (ah 2), .int (N 2 0), .int v9]) (kL_can l D cA ah _ _ _ _ hqq92) (va_cwS 5 hts gL_isGame_L_can rfl rfl rfl (by decide +kernel) ⟨(Nat.le_of_ble_eq_true rfl), (Nat.le_of_ble_eq_true rfl)⟩) rfl hl.1 (st0 := _) (rest := [.int ((fX5_canPlay v9 M).2.1)]) rfl (Nat.le_of_ble_eq_true rfl) dL_isGame_451 ⟨(by show _ ≤ 222; omega), (by show _ ≤ 1257; omega)⟩ ?_
      refine lv_if_eq (tgt := 461) hx hb dL_isGame_454 (by decide) (fun c93 => ?_) (fun c93 => ?_)
      · rw [if_pos c93] at h
        refine lv_iconst (v := 0) hx hb dL_isGame_461 (by decide) ?_
        refine lv_icmp_ne (tgt := 537) hx hb dL_isGame_462 (by decide) (fun c94 => ?_) (fun c94 => ?_)
        · rw [if_neg c94] at h
          refine lv_iconst (v := 0) hx hb dL_isGame_537 (by decide) ?_
          refine lv_istore (lv' := [(7, .int 0), (10, .int (fL_has v4 v9)), (0, .ref (ad 8)), (1, .ref (ah 0)), (2, .ref (ah 1)), (3, .ref (ah 2)), (4, .int v4), (6, .int v6), (8, .int v8), (9, .int v9)]) hx hb dL_isGame_538 hl (by decide) rfl (fun ls hl => ?_)
          obtain rfl := Option.some.inj h
          refine W.widen (k := cells + 5) (n := slots + 30) (by omega) (by omega) ?_
          exact kk _ _ hP hQ hS _ (lv_sub hl [2, 3, 4, 5, 6, 7, 0, 8, 9] rfl)
        · rw [if_pos c94] at h
          refine lv_aload_n hx hb dL_isGame_465 rfl (lv_at hl 1 rfl) ?_
          refine lv_bipush (v := 8) hx hb dL_isGame_466 (by decide) ?_
          refine lv_iload hx hb dL_isGame_468 (lv_at hl 8 rfl) ?_
          refine lv_iconst (v := 0) hx hb dL_isGame_470 (by decide) ?_
          obtain ⟨q96, hqq96, h⟩ := obind_some h
          obtain ⟨g95, h⟩ := gd_some h
          refine cDY S5 hK hP hQ hD hS hT (fun _ h => hA _ _ hS.1 h) (As := [.ref (ad 8), .int 8, .int v9, .int 0]) (kL_does_8 l D cA ad sa hst v9 0 _ _ hqq96 g95) (vx_cwSW 4 hts gL_isGame_L_does rfl rfl rfl (by decide +kernel) ⟨(Nat.le_of_ble_eq_true rfl), (Nat.le_of_ble_eq_true rfl)⟩) rfl hl.1 (st0 := _) (rest := []) rfl (Nat.le_of_ble_eq_true rfl) dL_isGame_471 ⟨(by show _ ≤ 222; omega), (by show _ ≤ 1257; omega)⟩ (fun H locs hP hQ hS => ?_)
          refine lv_iload hx hb dL_isGame_474 (lv_at hl 0 rfl) ?_
          refine lv_if_eq (tgt := 490) hx hb dL_isGame_476 (by decide) (fun c97 => ?_) (fun c97 => ?_)
          · rw [if_pos c97] at h
            refine lv_bipush (v := (-13)) hx hb dL_isGame_490 (by decide) ?_
            refine lv_icmp_ne (tgt := 537) hx hb dL_isGame_492 (by decide) (fun c98 => ?_) (fun c98 => ?_)
            · rw [if_neg c98] at h
              refine lv_iconst (v := 0) hx hb dL_isGame_537 (by decide) ?_
              refine lv_istore (lv' := [(7, .int 0), (10, .int (fL_has v4 v9)), (0, .ref (ad 8)), (1, .ref (ah 0)), (2, .ref (ah 1)), (3, .ref (ah 2)), (4, .int v4), (6, .int v6), (8, .int v8), (9, .int v9)]) hx hb dL_isGame_538 hl (by decide) rfl (fun ls hl => ?_)
              obtain rfl := Option.some.inj h
              refine W.widen (k := cells + 5) (n := slots + 30) (by omega) (by omega) ?_
              exact kk _ _ hP hQ hS _ (lv_sub hl [2, 3, 4, 5, 6, 7, 0, 8, 9] rfl)
            · rw [if_pos c98] at h
              refine lv_aload_n hx hb dL_isGame_495 rfl (lv_at hl 1 rfl) ?_
              refine lv_bipush (v := 9) hx hb dL_isGame_496 (by decide) ?_
              refine lv_iload hx hb dL_isGame_498 (lv_at hl 8 rfl) ?_
              refine lv_iconst (v := 0) hx hb dL_isGame_500 (by decide) ?_
              obtain ⟨q100, hqq100, h⟩ := obind_some h
              obtain ⟨g99, h⟩ := gd_some h
              refine cDY S5 hK hP hQ hD hS hT (fun _ h => hA _ _ hS.1 h) (As := [.ref (ad 8), .int 9, .int v9, .int 0]) (kL_does_9 l D cA ad sa hst v9 0 _ _ hqq100 g99) (vx_cwSW 4 hts gL_isGame_L_does rfl rfl rfl (by decide +kernel) ⟨(Nat.le_of_ble_eq_true rfl), (Nat.le_of_ble_eq_true rfl)⟩) rfl hl.1 (st0 := _) (rest := []) rfl (Nat.le_of_ble_eq_true rfl) dL_isGame_501 ⟨(by show _ ≤ 222; omega), (by show _ ≤ 1257; omega)⟩ (fun H locs hP hQ hS => ?_)
              refine lv_iload hx hb dL_isGame_504 (lv_at hl 0 rfl) ?_
              refine lv_if_ne (tgt := 514) hx hb dL_isGame_506 (by decide) (fun c101 => ?_) (fun c101 => ?_)
              · rw [if_neg c101] at h
                refine lv_aload_n hx hb dL_isGame_514 rfl (lv_at hl 2 rfl) ?_
                refine lv_aload_n hx hb dL_isGame_515 rfl (lv_at hl 3 rfl) ?_
                refine lv_aload_n hx hb dL_isGame_516 rfl (lv_at hl 4 rfl) ?_
                refine lv_iload hx hb dL_isGame_517 (lv_at hl 8 rfl) ?_
                obtain ⟨q102, hqq102, h⟩ := obind_some h
                refine cSRH S5 hK hQ (As := [.ref (ah 0), .ref (ah 1), .ref (ah 2), .int v9]) (kL_isTop l D cA ah _ _ _ hqq102) (va_cwS 4 hts gL_isGame_L_isTop rfl rfl rfl (by decide +kernel) ⟨(Nat.le_of_ble_eq_true rfl), (Nat.le_of_ble_eq_true rfl)⟩) rfl hl.1 (st0 := _) (rest := [.int (dv9 q100)]) rfl (Nat.le_of_ble_eq_true rfl) dL_isGame_519 ⟨(by show _ ≤ 222; omega), (by show _ ≤ 1257; omega)⟩ ?_
                refine lv_if_eq (tgt := 529) hx hb dL_isGame_522 (by decide) (fun c103 => ?_) (fun c103 => ?_)
                · rw [if_pos c103] at h
                  refine lv_iconst (v := 0) hx hb dL_isGame_529 (by decide) ?_
                  refine lv_icmp_ne (tgt := 537) hx hb dL_isGame_530 (by decide) (fun c104 => ?_) (fun c104 => ?_)
                  · rw [if_neg c104] at h
                    refine lv_iconst (v := 0) hx hb dL_isGame_537 (by decide) ?_
                    refine lv_istore (lv' := [(7, .int 0), (10, .int (fL_has v4 v9)), (0, .ref (ad 8)), (1, .ref (ah 0)), (2, .ref (ah 1)), (3, .ref (ah 2)), (4, .int v4), (6, .int v6), (8, .int v8), (9, .int v9)]) hx hb dL_isGame_538 hl (by decide) rfl (fun ls hl => ?_)
                    obtain rfl := Option.some.inj h
                    refine W.widen (k := cells + 5) (n := slots + 30) (by omega) (by omega) ?_
                    exact kk _ _ hP hQ hS _ (lv_sub hl [2, 3, 4, 5, 6, 7, 0, 8, 9] rfl)
                  · rw [if_pos c104] at h
                    refine lv_iconst (v := 1) hx hb dL_isGame_533 (by decide) ?_
                    refine lv_goto (tgt := 538) hx hb dL_isGame_534 (by decide) ?_
                    refine lv_istore (lv' := [(7, .int 1), (10, .int (fL_has v4 v9)), (0, .ref (ad 8)), (1, .ref (ah 0)), (2, .ref (ah 1)), (3, .ref (ah 2)), (4, .int v4), (6, .int v6), (8, .int v8), (9, .int v9)]) hx hb dL_isGame_538 hl (by decide) rfl (fun ls hl => ?_)
                    obtain rfl := Option.some.inj h
                    refine W.widen (k := cells + 5) (n := slots + 30) (by omega) (by omega) ?_
                    exact kk _ _ hP hQ hS _ (lv_sub hl [2, 3, 4, 5, 6, 7, 0, 8, 9] rfl)
                · rw [if_neg c103] at h
                  refine lv_iconst (v := 1) hx hb dL_isGame_525 (by decide) ?_
                  refine lv_goto (tgt := 530) hx hb dL_isGame_526 (by decide) ?_
                  refine lv_icmp_ne (tgt := 537) hx hb dL_isGame_530 (by decide) (fun c105 => ?_) (fun c105 => ?_)
                  · rw [if_neg c105] at h
                    refine lv_iconst (v := 0) hx hb dL_isGame_537 (by decide) ?_
                    refine lv_istore (lv' := [(7, .int 0), (10, .int (fL_has v4 v9)), (0, .ref (ad 8)), (1, .ref (ah 0)), (2, .ref (ah 1)), (3, .ref (ah 2)), (4, .int v4), (6, .int v6), (8, .int v8), (9, .int v9)]) hx hb dL_isGame_538 hl (by decide) rfl (fun ls hl => ?_)
                    obtain rfl := Option.some.inj h
                    refine W.widen (k := cells + 5) (n := slots + 30) (by omega) (by omega) ?_
                    exact kk _ _ hP hQ hS _ (lv_sub hl [2, 3, 4, 5, 6, 7, 0, 8, 9] rfl)
                  · rw [if_pos c105] at h
                    refine lv_iconst (v := 1) hx hb dL_isGame_533 (by decide) ?_
                    refine lv_goto (tgt := 538) hx hb dL_isGame_534 (by decide) ?_
                    refine lv_istore (lv' := [(7, .int 1), (10, .int (fL_has v4 v9)), (0, .ref (ad 8)), (1, .ref (ah 0)), (2, .ref (ah 1)), (3, .ref (ah 2)), (4, .int v4), (6, .int v6), (8, .int v8), (9, .int v9)]) hx hb dL_isGame_538 hl (by decide) rfl (fun ls hl => ?_)
                    obtain rfl := Option.some.inj h
                    refine W.widen (k := cells + 5) (n := slots + 30) (by omega) (by omega) ?_
                    exact kk _ _ hP hQ hS _ (lv_sub hl [2, 3, 4, 5, 6, 7, 0, 8, 9] rfl)
              · rw [if_pos c101] at h
                refine lv_bipush (v := (-13)) hx hb dL_isGame_509 (by decide) ?_
                refine lv_goto (tgt := 530) hx hb dL_isGame_511 (by decide) ?_
                refine lv_icmp_ne (tgt := 537) hx hb dL_isGame_530 (by decide) (fun c106 => ?_) (fun c106 => ?_)
                · rw [if_neg c106] at h
                  refine lv_iconst (v := 0) hx hb dL_isGame_537 (by decide) ?_
                  refine lv_istore (lv' := [(7, .int 0), (10, .int (fL_has v4 v9)), (0, .ref (ad 8)), (1, .ref (ah 0)), (2, .ref (ah 1)), (3, .ref (ah 2)), (4, .int v4), (6, .int v6), (8, .int v8), (9, .int v9)]) hx hb dL_isGame_538 hl (by decide) rfl (fun ls hl => ?_)
                  obtain rfl := Option.some.inj h
                  refine W.widen (k := cells + 5) (n := slots + 30) (by omega) (by omega) ?_
                  exact kk _ _ hP hQ hS _ (lv_sub hl [2, 3, 4, 5, 6, 7, 0, 8, 9] rfl)
                · rw [if_pos c106] at h
                  refine lv_iconst (v := 1) hx hb dL_isGame_533 (by decide) ?_
                  refine lv_goto (tgt := 538) hx hb dL_isGame_534 (by decide) ?_
                  refine lv_istore (lv' := [(7, .int 1), (10, .int (fL_has v4 v9)), (0, .ref (ad 8)), (1, .ref (ah 0)), (2, .ref (ah 1)), (3, .ref (ah 2)), (4, .int v4), (6, .int v6), (8, .int v8), (9, .int v9)]) hx hb dL_isGame_538 hl (by decide) rfl (fun ls hl => ?_)
                  obtain rfl := Option.some.inj h
                  refine W.widen (k := cells + 5) (n := slots + 30) (by omega) (by omega) ?_
                  exact kk _ _ hP hQ hS _ (lv_sub hl [2, 3, 4, 5, 6, 7, 0, 8, 9] rfl)
          · rw [if_neg c97] at h
            refine lv_aload_n hx hb dL_isGame_479 rfl (lv_at hl 2 rfl) ?_
            refine lv_aload_n hx hb dL_isGame_480 rfl (lv_at hl 3 rfl) ?_
            refine lv_aload_n hx hb dL_isGame_481 rfl (lv_at hl 4 rfl) ?_
            refine lv_iload hx hb dL_isGame_482 (lv_at hl 8 rfl) ?_
            obtain ⟨q107, hqq107, h⟩ := obind_some h
            refine cSRH S5 hK hQ (As := [.ref (ah 0), .ref (ah 1), .ref (ah 2), .int v9]) (kL_lowest l D cA ah _ _ _ hqq107) (va_cwS 4 hts gL_isGame_L_lowest rfl rfl rfl (by decide +kernel) ⟨(Nat.le_of_ble_eq_true rfl), (Nat.le_of_ble_eq_true rfl)⟩) rfl hl.1 (st0 := _) (rest := [.int (dv q96)]) rfl (Nat.le_of_ble_eq_true rfl) dL_isGame_484 ⟨(by show _ ≤ 222; omega), (by show _ ≤ 1257; omega)⟩ ?_
            refine lv_goto (tgt := 492) hx hb dL_isGame_487 (by decide) ?_
            refine lv_icmp_ne (tgt := 537) hx hb dL_isGame_492 (by decide) (fun c108 => ?_) (fun c108 => ?_)
            · rw [if_neg c108] at h
              refine lv_iconst (v := 0) hx hb dL_isGame_537 (by decide) ?_
              refine lv_istore (lv' := [(7, .int 0), (10, .int (fL_has v4 v9)), (0, .ref (ad 8)), (1, .ref (ah 0)), (2, .ref (ah 1)), (3, .ref (ah 2)), (4, .int v4), (6, .int v6), (8, .int v8), (9, .int v9)]) hx hb dL_isGame_538 hl (by decide) rfl (fun ls hl => ?_)
              obtain rfl := Option.some.inj h
              refine W.widen (k := cells + 5) (n := slots + 30) (by omega) (by omega) ?_
              exact kk _ _ hP hQ hS _ (lv_sub hl [2, 3, 4, 5, 6, 7, 0, 8, 9] rfl)
            · rw [if_pos c108] at h
              refine lv_aload_n hx hb dL_isGame_495 rfl (lv_at hl 1 rfl) ?_
              refine lv_bipush (v := 9) hx hb dL_isGame_496 (by decide) ?_
              refine lv_iload hx hb dL_isGame_498 (lv_at hl 8 rfl) ?_
              refine lv_iconst (v := 0) hx hb dL_isGame_500 (by decide) ?_
              obtain ⟨q110, hqq110, h⟩ := obind_some h
              obtain ⟨g109, h⟩ := gd_some h
              refine cDY S5 hK hP hQ hD hS hT (fun _ h => hA _ _ hS.1 h) (As := [.ref (ad 8), .int 9, .int v9, .int 0]) (kL_does_9 l D cA ad sa hst v9 0 _ _ hqq110 g109) (vx_cwSW 4 hts gL_isGame_L_does rfl rfl rfl (by decide +kernel) ⟨(Nat.le_of_ble_eq_true rfl), (Nat.le_of_ble_eq_true rfl)⟩) rfl hl.1 (st0 := _) (rest := []) rfl (Nat.le_of_ble_eq_true rfl) dL_isGame_501 ⟨(by show _ ≤ 222; omega), (by show _ ≤ 1257; omega)⟩ (fun H locs hP hQ hS => ?_)
              refine lv_iload hx hb dL_isGame_504 (lv_at hl 0 rfl) ?_
              refine lv_if_ne (tgt := 514) hx hb dL_isGame_506 (by decide) (fun c111 => ?_) (fun c111 => ?_)
              · rw [if_neg c111] at h
                refine lv_aload_n hx hb dL_isGame_514 rfl (lv_at hl 2 rfl) ?_
                refine lv_aload_n hx hb dL_isGame_515 rfl (lv_at hl 3 rfl) ?_
                refine lv_aload_n hx hb dL_isGame_516 rfl (lv_at hl 4 rfl) ?_
                refine lv_iload hx hb dL_isGame_517 (lv_at hl 8 rfl) ?_
                obtain ⟨q112, hqq112, h⟩ := obind_some h
                refine cSRH S5 hK hQ (As := [.ref (ah 0), .ref (ah 1), .ref (ah 2), .int v9]) (kL_isTop l D cA ah _ _ _ hqq112) (va_cwS 4 hts gL_isGame_L_isTop rfl rfl rfl (by decide +kernel) ⟨(Nat.le_of_ble_eq_true rfl), (Nat.le_of_ble_eq_true rfl)⟩) rfl hl.1 (st0 := _) (rest := [.int (dv9 q110)]) rfl (Nat.le_of_ble_eq_true rfl) dL_isGame_519 ⟨(by show _ ≤ 222; omega), (by show _ ≤ 1257; omega)⟩ ?_
                refine lv_if_eq (tgt := 529) hx hb dL_isGame_522 (by decide) (fun c113 => ?_) (fun c113 => ?_)
                · rw [if_pos c113] at h
                  refine lv_iconst (v := 0) hx hb dL_isGame_529 (by decide) ?_
                  refine lv_icmp_ne (tgt := 537) hx hb dL_isGame_530 (by decide) (fun c114 => ?_) (fun c114 => ?_)
                  · rw [if_neg c114] at h
                    refine lv_iconst (v := 0) hx hb dL_isGame_537 (by decide) ?_
                    refine lv_istore (lv' := [(7, .int 0), (10, .int (fL_has v4 v9)), (0, .ref (ad 8)), (1, .ref (ah 0)), (2, .ref (ah 1)), (3, .ref (ah 2)), (4, .int v4), (6, .int v6), (8, .int v8), (9, .int v9)]) hx hb dL_isGame_538 hl (by decide) rfl (fun ls hl => ?_)
                    obtain rfl := Option.some.inj h
                    refine W.widen (k := cells + 5) (n := slots + 30) (by omega) (by omega) ?_
                    exact kk _ _ hP hQ hS _ (lv_sub hl [2, 3, 4, 5, 6, 7, 0, 8, 9] rfl)
                  · rw [if_pos c114] at h
                    refine lv_iconst (v := 1) hx hb dL_isGame_533 (by decide) ?_
                    refine lv_goto (tgt := 538) hx hb dL_isGame_534 (by decide) ?_
                    refine lv_istore (lv' := [(7, .int 1), (10, .int (fL_has v4 v9)), (0, .ref (ad 8)), (1, .ref (ah 0)), (2, .ref (ah 1)), (3, .ref (ah 2)), (4, .int v4), (6, .int v6), (8, .int v8), (9, .int v9)]) hx hb dL_isGame_538 hl (by decide) rfl (fun ls hl => ?_)
                    obtain rfl := Option.some.inj h
                    refine W.widen (k := cells + 5) (n := slots + 30) (by omega) (by omega) ?_
                    exact kk _ _ hP hQ hS _ (lv_sub hl [2, 3, 4, 5, 6, 7, 0, 8, 9] rfl)
                · rw [if_neg c113] at h
                  refine lv_iconst (v := 1) hx hb dL_isGame_525 (by decide) ?_
                  refine lv_goto (tgt := 530) hx hb dL_isGame_526 (by decide) ?_
                  refine lv_icmp_ne (tgt := 537) hx hb dL_isGame_530 (by decide) (fun c115 => ?_) (fun c115 => ?_)
                  · rw [if_neg c115] at h
                    refine lv_iconst (v := 0) hx hb dL_isGame_537 (by decide) ?_
                    refine lv_istore (lv' := [(7, .int 0), (10, .int (fL_has v4 v9)), (0, .ref (ad 8)), (1, .ref (ah 0)), (2, .ref (ah 1)), (3, .ref (ah 2)), (4, .int v4), (6, .int v6), (8, .int v8), (9, .int v9)]) hx hb dL_isGame_538 hl (by decide) rfl (fun ls hl => ?_)
                    obtain rfl := Option.some.inj h
                    refine W.widen (k := cells + 5) (n := slots + 30) (by omega) (by omega) ?_
                    exact kk _ _ hP hQ hS _ (lv_sub hl [2, 3, 4, 5, 6, 7, 0, 8, 9] rfl)
                  · rw [if_pos c115] at h
                    refine lv_iconst (v := 1) hx hb dL_isGame_533 (by decide) ?_
                    refine lv_goto (tgt := 538) hx hb dL_isGame_534 (by decide) ?_
                    refine lv_istore (lv' := [(7, .int 1), (10, .int (fL_has v4 v9)), (0, .ref (ad 8)), (1, .ref (ah 0)), (2, .ref (ah 1)), (3, .ref (ah 2)), (4, .int v4), (6, .int v6), (8, .int v8), (9, .int v9)]) hx hb dL_isGame_538 hl (by decide) rfl (fun ls hl => ?_)
                    obtain rfl := Option.some.inj h
                    refine W.widen (k := cells + 5) (n := slots + 30) (by omega) (by omega) ?_
                    exact kk _ _ hP hQ hS _ (lv_sub hl [2, 3, 4, 5, 6, 7, 0, 8, 9] rfl)
              · rw [if_pos c111] at h
                refine lv_bipush (v := (-13)) hx hb dL_isGame_509 (by decide) ?_
                refine lv_goto (tgt := 530) hx hb dL_isGame_511 (by decide) ?_
                refine lv_icmp_ne (tgt := 537) hx hb dL_isGame_530 (by decide) (fun c116 => ?_) (fun c116 => ?_)
                · rw [if_neg c116] at h
                  refine lv_iconst (v := 0) hx hb dL_isGame_537 (by decide) ?_
                  refine lv_istore (lv' := [(7, .int 0), (10, .int (fL_has v4 v9)), (0, .ref (ad 8)), (1, .ref (ah 0)), (2, .ref (ah 1)), (3, .ref (ah 2)), (4, .int v4), (6, .int v6), (8, .int v8), (9, .int v9)]) hx hb dL_isGame_538 hl (by decide) rfl (fun ls hl => ?_)
                  obtain rfl := Option.some.inj h
                  refine W.widen (k := cells + 5) (n := slots + 30) (by omega) (by omega) ?_
                  exact kk _ _ hP hQ hS _ (lv_sub hl [2, 3, 4, 5, 6, 7, 0, 8, 9] rfl)
                · rw [if_pos c116] at h
                  refine lv_iconst (v := 1) hx hb dL_isGame_533 (by decide) ?_
                  refine lv_goto (tgt := 538) hx hb dL_isGame_534 (by decide) ?_
                  refine lv_istore (lv' := [(7, .int 1), (10, .int (fL_has v4 v9)), (0, .ref (ad 8)), (1, .ref (ah 0)), (2, .ref (ah 1)), (3, .ref (ah 2)), (4, .int v4), (6, .int v6), (8, .int v8), (9, .int v9)]) hx hb dL_isGame_538 hl (by decide) rfl (fun ls hl => ?_)
                  obtain rfl := Option.some.inj h
                  refine W.widen (k := cells + 5) (n := slots + 30) (by omega) (by omega) ?_
                  exact kk _ _ hP hQ hS _ (lv_sub hl [2, 3, 4, 5, 6, 7, 0, 8, 9] rfl)
      · rw [if_neg c93] at h
        refine lv_iconst (v := 1) hx hb dL_isGame_457 (by decide) ?_
        refine lv_goto (tgt := 462) hx hb dL_isGame_458 (by decide) ?_
        refine lv_icmp_ne (tgt := 537) hx hb dL_isGame_462 (by decide) (fun c117 => ?_) (fun c117 => ?_)
        · rw [if_neg c117] at h
          refine lv_iconst (v := 0) hx hb dL_isGame_537 (by decide) ?_
          refine lv_istore (lv' := [(7, .int 0), (10, .int (fL_has v4 v9)), (0, .ref (ad 8)), (1, .ref (ah 0)), (2, .ref (ah 1)), (3, .ref (ah 2)), (4, .int v4), (6, .int v6), (8, .int v8), (9, .int v9)]) hx hb dL_isGame_538 hl (by decide) rfl (fun ls hl => ?_)
          obtain rfl := Option.some.inj h
          refine W.widen (k := cells + 5) (n := slots + 30) (by omega) (by omega) ?_
          exact kk _ _ hP hQ hS _ (lv_sub hl [2, 3, 4, 5, 6, 7, 0, 8, 9] rfl)
        · rw [if_pos c117] at h
          refine lv_aload_n hx hb dL_isGame_465 rfl (lv_at hl 1 rfl) ?_
          refine lv_bipush (v := 8) hx hb dL_isGame_466 (by decide) ?_
          refine lv_iload hx hb dL_isGame_468 (lv_at hl 8 rfl) ?_
          refine lv_iconst (v := 0) hx hb dL_isGame_470 (by decide) ?_
          obtain ⟨q119, hqq119, h⟩ := obind_some h
          obtain ⟨g118, h⟩ := gd_some h
          refine cDY S5 hK hP hQ hD hS hT (fun _ h => hA _ _ hS.1 h) (As := [.ref (ad 8), .int 8, .int v9, .int 0]) (kL_does_8 l D cA ad sa hst v9 0 _ _ hqq119 g118) (vx_cwSW 4 hts gL_isGame_L_does rfl rfl rfl (by decide +kernel) ⟨(Nat.le_of_ble_eq_true rfl), (Nat.le_of_ble_eq_true rfl)⟩) rfl hl.1 (st0 := _) (rest := []) rfl (Nat.le_of_ble_eq_true rfl) dL_isGame_471 ⟨(by show _ ≤ 222; omega), (by show _ ≤ 1257; omega)⟩ (fun H locs hP hQ hS => ?_)
          refine lv_iload hx hb dL_isGame_474 (lv_at hl 0 rfl) ?_
          refine lv_if_eq (tgt := 490) hx hb dL_isGame_476 (by decide) (fun c120 => ?_) (fun c120 => ?_)
          · rw [if_pos c120] at h
            refine lv_bipush (v := (-13)) hx hb dL_isGame_490 (by decide) ?_
            refine lv_icmp_ne (tgt := 537) hx hb dL_isGame_492 (by decide) (fun c121 => ?_) (fun c121 => ?_)
            · rw [if_neg c121] at h
              refine lv_iconst (v := 0) hx hb dL_isGame_537 (by decide) ?_
              refine lv_istore (lv' := [(7, .int 0), (10, .int (fL_has v4 v9)), (0, .ref (ad 8)), (1, .ref (ah 0)), (2, .ref (ah 1)), (3, .ref (ah 2)), (4, .int v4), (6, .int v6), (8, .int v8), (9, .int v9)]) hx hb dL_isGame_538 hl (by decide) rfl (fun ls hl => ?_)
              obtain rfl := Option.some.inj h
              refine W.widen (k := cells + 5) (n := slots + 30) (by omega) (by omega) ?_
              exact kk _ _ hP hQ hS _ (lv_sub hl [2, 3, 4, 5, 6, 7, 0, 8, 9] rfl)
            · rw [if_pos c121] at h
              refine lv_aload_n hx hb dL_isGame_495 rfl (lv_at hl 1 rfl) ?_
              refine lv_bipush (v := 9) hx hb dL_isGame_496 (by decide) ?_
              refine lv_iload hx hb dL_isGame_498 (lv_at hl 8 rfl) ?_
              refine lv_iconst (v := 0) hx hb dL_isGame_500 (by decide) ?_
              obtain ⟨q123, hqq123, h⟩ := obind_some h
              obtain ⟨g122, h⟩ := gd_some h
              refine cDY S5 hK hP hQ hD hS hT (fun _ h => hA _ _ hS.1 h) (As := [.ref (ad 8), .int 9, .int v9, .int 0]) (kL_does_9 l D cA ad sa hst v9 0 _ _ hqq123 g122) (vx_cwSW 4 hts gL_isGame_L_does rfl rfl rfl (by decide +kernel) ⟨(Nat.le_of_ble_eq_true rfl), (Nat.le_of_ble_eq_true rfl)⟩) rfl hl.1 (st0 := _) (rest := []) rfl (Nat.le_of_ble_eq_true rfl) dL_isGame_501 ⟨(by show _ ≤ 222; omega), (by show _ ≤ 1257; omega)⟩ (fun H locs hP hQ hS => ?_)
              refine lv_iload hx hb dL_isGame_504 (lv_at hl 0 rfl) ?_
              refine lv_if_ne (tgt := 514) hx hb dL_isGame_506 (by decide) (fun c124 => ?_) (fun c124 => ?_)
              · rw [if_neg c124] at h
                refine lv_aload_n hx hb dL_isGame_514 rfl (lv_at hl 2 rfl) ?_
                refine lv_aload_n hx hb dL_isGame_515 rfl (lv_at hl 3 rfl) ?_
                refine lv_aload_n hx hb dL_isGame_516 rfl (lv_at hl 4 rfl) ?_
                refine lv_iload hx hb dL_isGame_517 (lv_at hl 8 rfl) ?_
                obtain ⟨q125, hqq125, h⟩ := obind_some h
                refine cSRH S5 hK hQ (As := [.ref (ah 0), .ref (ah 1), .ref (ah 2), .int v9]) (kL_isTop l D cA ah _ _ _ hqq125) (va_cwS 4 hts gL_isGame_L_isTop rfl rfl rfl (by decide +kernel) ⟨(Nat.le_of_ble_eq_true rfl), (Nat.le_of_ble_eq_true rfl)⟩) rfl hl.1 (st0 := _) (rest := [.int (dv9 q123)]) rfl (Nat.le_of_ble_eq_true rfl) dL_isGame_519 ⟨(by show _ ≤ 222; omega), (by show _ ≤ 1257; omega)⟩ ?_
                refine lv_if_eq (tgt := 529) hx hb dL_isGame_522 (by decide) (fun c126 => ?_) (fun c126 => ?_)
                · rw [if_pos c126] at h
                  refine lv_iconst (v := 0) hx hb dL_isGame_529 (by decide) ?_
                  refine lv_icmp_ne (tgt := 537) hx hb dL_isGame_530 (by decide) (fun c127 => ?_) (fun c127 => ?_)
                  · rw [if_neg c127] at h
                    refine lv_iconst (v := 0) hx hb dL_isGame_537 (by decide) ?_
                    refine lv_istore (lv' := [(7, .int 0), (10, .int (fL_has v4 v9)), (0, .ref (ad 8)), (1, .ref (ah 0)), (2, .ref (ah 1)), (3, .ref (ah 2)), (4, .int v4), (6, .int v6), (8, .int v8), (9, .int v9)]) hx hb dL_isGame_538 hl (by decide) rfl (fun ls hl => ?_)
                    obtain rfl := Option.some.inj h
                    refine W.widen (k := cells + 5) (n := slots + 30) (by omega) (by omega) ?_
                    exact kk _ _ hP hQ hS _ (lv_sub hl [2, 3, 4, 5, 6, 7, 0, 8, 9] rfl)
                  · rw [if_pos c127] at h
                    refine lv_iconst (v := 1) hx hb dL_isGame_533 (by decide) ?_
                    refine lv_goto (tgt := 538) hx hb dL_isGame_534 (by decide) ?_
                    refine lv_istore (lv' := [(7, .int 1), (10, .int (fL_has v4 v9)), (0, .ref (ad 8)), (1, .ref (ah 0)), (2, .ref (ah 1)), (3, .ref (ah 2)), (4, .int v4), (6, .int v6), (8, .int v8), (9, .int v9)]) hx hb dL_isGame_538 hl (by decide) rfl (fun ls hl => ?_)
                    obtain rfl := Option.some.inj h
                    refine W.widen (k := cells + 5) (n := slots + 30) (by omega) (by omega) ?_
                    exact kk _ _ hP hQ hS _ (lv_sub hl [2, 3, 4, 5, 6, 7, 0, 8, 9] rfl)
                · rw [if_neg c126] at h
                  refine lv_iconst (v := 1) hx hb dL_isGame_525 (by decide) ?_
                  refine lv_goto (tgt := 530) hx hb dL_isGame_526 (by decide) ?_
                  refine lv_icmp_ne (tgt := 537) hx hb dL_isGame_530 (by decide) (fun c128 => ?_) (fun c128 => ?_)
                  · rw [if_neg c128] at h
                    refine lv_iconst (v := 0) hx hb dL_isGame_537 (by decide) ?_
                    refine lv_istore (lv' := [(7, .int 0), (10, .int (fL_has v4 v9)), (0, .ref (ad 8)), (1, .ref (ah 0)), (2, .ref (ah 1)), (3, .ref (ah 2)), (4, .int v4), (6, .int v6), (8, .int v8), (9, .int v9)]) hx hb dL_isGame_538 hl (by decide) rfl (fun ls hl => ?_)
                    obtain rfl := Option.some.inj h
                    refine W.widen (k := cells + 5) (n := slots + 30) (by omega) (by omega) ?_
                    exact kk _ _ hP hQ hS _ (lv_sub hl [2, 3, 4, 5, 6, 7, 0, 8, 9] rfl)
                  · rw [if_pos c128] at h
                    refine lv_iconst (v := 1) hx hb dL_isGame_533 (by decide) ?_
                    refine lv_goto (tgt := 538) hx hb dL_isGame_534 (by decide) ?_
                    refine lv_istore (lv' := [(7, .int 1), (10, .int (fL_has v4 v9)), (0, .ref (ad 8)), (1, .ref (ah 0)), (2, .ref (ah 1)), (3, .ref (ah 2)), (4, .int v4), (6, .int v6), (8, .int v8), (9, .int v9)]) hx hb dL_isGame_538 hl (by decide) rfl (fun ls hl => ?_)
                    obtain rfl := Option.some.inj h
                    refine W.widen (k := cells + 5) (n := slots + 30) (by omega) (by omega) ?_
                    exact kk _ _ hP hQ hS _ (lv_sub hl [2, 3, 4, 5, 6, 7, 0, 8, 9] rfl)
              · rw [if_pos c124] at h
                refine lv_bipush (v := (-13)) hx hb dL_isGame_509 (by decide) ?_
                refine lv_goto (tgt := 530) hx hb dL_isGame_511 (by decide) ?_
                refine lv_icmp_ne (tgt := 537) hx hb dL_isGame_530 (by decide) (fun c129 => ?_) (fun c129 => ?_)
                · rw [if_neg c129] at h
                  refine lv_iconst (v := 0) hx hb dL_isGame_537 (by decide) ?_
                  refine lv_istore (lv' := [(7, .int 0), (10, .int (fL_has v4 v9)), (0, .ref (ad 8)), (1, .ref (ah 0)), (2, .ref (ah 1)), (3, .ref (ah 2)), (4, .int v4), (6, .int v6), (8, .int v8), (9, .int v9)]) hx hb dL_isGame_538 hl (by decide) rfl (fun ls hl => ?_)
                  obtain rfl := Option.some.inj h
                  refine W.widen (k := cells + 5) (n := slots + 30) (by omega) (by omega) ?_
                  exact kk _ _ hP hQ hS _ (lv_sub hl [2, 3, 4, 5, 6, 7, 0, 8, 9] rfl)
                · rw [if_pos c129] at h
                  refine lv_iconst (v := 1) hx hb dL_isGame_533 (by decide) ?_
                  refine lv_goto (tgt := 538) hx hb dL_isGame_534 (by decide) ?_
                  refine lv_istore (lv' := [(7, .int 1), (10, .int (fL_has v4 v9)), (0, .ref (ad 8)), (1, .ref (ah 0)), (2, .ref (ah 1)), (3, .ref (ah 2)), (4, .int v4), (6, .int v6), (8, .int v8), (9, .int v9)]) hx hb dL_isGame_538 hl (by decide) rfl (fun ls hl => ?_)
                  obtain rfl := Option.some.inj h
                  refine W.widen (k := cells + 5) (n := slots + 30) (by omega) (by omega) ?_
                  exact kk _ _ hP hQ hS _ (lv_sub hl [2, 3, 4, 5, 6, 7, 0, 8, 9] rfl)
          · rw [if_neg c120] at h
            refine lv_aload_n hx hb dL_isGame_479 rfl (lv_at hl 2 rfl) ?_
            refine lv_aload_n hx hb dL_isGame_480 rfl (lv_at hl 3 rfl) ?_
            refine lv_aload_n hx hb dL_isGame_481 rfl (lv_at hl 4 rfl) ?_
            refine lv_iload hx hb dL_isGame_482 (lv_at hl 8 rfl) ?_
            obtain ⟨q130, hqq130, h⟩ := obind_some h
            refine cSRH S5 hK hQ (As := [.ref (ah 0), .ref (ah 1), .ref (ah 2), .int v9]) (kL_lowest l D cA ah _ _ _ hqq130) (va_cwS 4 hts gL_isGame_L_lowest rfl rfl rfl (by decide +kernel) ⟨(Nat.le_of_ble_eq_true rfl), (Nat.le_of_ble_eq_true rfl)⟩) rfl hl.1 (st0 := _) (rest := [.int (dv q119)]) rfl (Nat.le_of_ble_eq_true rfl) dL_isGame_484 ⟨(by show _ ≤ 222; omega), (by show _ ≤ 1257; omega)⟩ ?_
            refine lv_goto (tgt := 492) hx hb dL_isGame_487 (by decide) ?_
            refine lv_icmp_ne (tgt := 537) hx hb dL_isGame_492 (by decide) (fun c131 => ?_) (fun c131 => ?_)
            · rw [if_neg c131] at h
              refine lv_iconst (v := 0) hx hb dL_isGame_537 (by decide) ?_
              refine lv_istore (lv' := [(7, .int 0), (10, .int (fL_has v4 v9)), (0, .ref (ad 8)), (1, .ref (ah 0)), (2, .ref (ah 1)), (3, .ref (ah 2)), (4, .int v4), (6, .int v6), (8, .int v8), (9, .int v9)]) hx hb dL_isGame_538 hl (by decide) rfl (fun ls hl => ?_)
              obtain rfl := Option.some.inj h
              refine W.widen (k := cells + 5) (n := slots + 30) (by omega) (by omega) ?_
              exact kk _ _ hP hQ hS _ (lv_sub hl [2, 3, 4, 5, 6, 7, 0, 8, 9] rfl)
            · rw [if_pos c131] at h
              refine lv_aload_n hx hb dL_isGame_495 rfl (lv_at hl 1 rfl) ?_
              refine lv_bipush (v := 9) hx hb dL_isGame_496 (by decide) ?_
              refine lv_iload hx hb dL_isGame_498 (lv_at hl 8 rfl) ?_
              refine lv_iconst (v := 0) hx hb dL_isGame_500 (by decide) ?_
              obtain ⟨q133, hqq133, h⟩ := obind_some h
              obtain ⟨g132, h⟩ := gd_some h
              refine cDY S5 hK hP hQ hD hS hT (fun _ h => hA _ _ hS.1 h) (As := [.ref (ad 8), .int 9, .int v9, .int 0]) (kL_does_9 l D cA ad sa hst v9 0 _ _ hqq133 g132) (vx_cwSW 4 hts gL_isGame_L_does rfl rfl rfl (by decide +kernel) ⟨(Nat.le_of_ble_eq_true rfl), (Nat.le_of_ble_eq_true rfl)⟩) rfl hl.1 (st0 := _) (rest := []) rfl (Nat.le_of_ble_eq_true rfl) dL_isGame_501 ⟨(by show _ ≤ 222; omega), (by show _ ≤ 1257; omega)⟩ (fun H locs hP hQ hS => ?_)
              refine lv_iload hx hb dL_isGame_504 (lv_at hl 0 rfl) ?_
              refine lv_if_ne (tgt := 514) hx hb dL_isGame_506 (by decide) (fun c134 => ?_) (fun c134 => ?_)
              · rw [if_neg c134] at h
                refine lv_aload_n hx hb dL_isGame_514 rfl (lv_at hl 2 rfl) ?_
                refine lv_aload_n hx hb dL_isGame_515 rfl (lv_at hl 3 rfl) ?_
                refine lv_aload_n hx hb dL_isGame_516 rfl (lv_at hl 4 rfl) ?_
                refine lv_iload hx hb dL_isGame_517 (lv_at hl 8 rfl) ?_
                obtain ⟨q135, hqq135, h⟩ := obind_some h
                refine cSRH S5 hK hQ (As := [.ref (ah 0), .ref (ah 1), .ref (ah 2), .int v9]) (kL_isTop l D cA ah _ _ _ hqq135) (va_cwS 4 hts gL_isGame_L_isTop rfl rfl rfl (by decide +kernel) ⟨(Nat.le_of_ble_eq_true rfl), (Nat.le_of_ble_eq_true rfl)⟩) rfl hl.1 (st0 := _) (rest := [.int (dv9 q133)]) rfl (Nat.le_of_ble_eq_true rfl) dL_isGame_519 ⟨(by show _ ≤ 222; omega), (by show _ ≤ 1257; omega)⟩ ?_
                refine lv_if_eq (tgt := 529) hx hb dL_isGame_522 (by decide) (fun c136 => ?_) (fun c136 => ?_)
                · rw [if_pos c136] at h
                  refine lv_iconst (v := 0) hx hb dL_isGame_529 (by decide) ?_
                  refine lv_icmp_ne (tgt := 537) hx hb dL_isGame_530 (by decide) (fun c137 => ?_) (fun c137 => ?_)
                  · rw [if_neg c137] at h
                    refine lv_iconst (v := 0) hx hb dL_isGame_537 (by decide) ?_
                    refine lv_istore (lv' := [(7, .int 0), (10, .int (fL_has v4 v9)), (0, .ref (ad 8)), (1, .ref (ah 0)), (2, .ref (ah 1)), (3, .ref (ah 2)), (4, .int v4), (6, .int v6), (8, .int v8), (9, .int v9)]) hx hb dL_isGame_538 hl (by decide) rfl (fun ls hl => ?_)
                    obtain rfl := Option.some.inj h
                    refine W.widen (k := cells + 5) (n := slots + 30) (by omega) (by omega) ?_
                    exact kk _ _ hP hQ hS _ (lv_sub hl [2, 3, 4, 5, 6, 7, 0, 8, 9] rfl)
                  · rw [if_pos c137] at h
                    refine lv_iconst (v := 1) hx hb dL_isGame_533 (by decide) ?_
                    refine lv_goto (tgt := 538) hx hb dL_isGame_534 (by decide) ?_
                    refine lv_istore (lv' := [(7, .int 1), (10, .int (fL_has v4 v9)), (0, .ref (ad 8)), (1, .ref (ah 0)), (2, .ref (ah 1)), (3, .ref (ah 2)), (4, .int v4), (6, .int v6), (8, .int v8), (9, .int v9)]) hx hb dL_isGame_538 hl (by decide) rfl (fun ls hl => ?_)
                    obtain rfl := Option.some.inj h
                    refine W.widen (k := cells + 5) (n := slots + 30) (by omega) (by omega) ?_
                    exact kk _ _ hP hQ hS _ (lv_sub hl [2, 3, 4, 5, 6, 7, 0, 8, 9] rfl)
                · rw [if_neg c136] at h
                  refine lv_iconst (v := 1) hx hb dL_isGame_525 (by decide) ?_
                  refine lv_goto (tgt := 530) hx hb dL_isGame_526 (by decide) ?_
                  refine lv_icmp_ne (tgt := 537) hx hb dL_isGame_530 (by decide) (fun c138 => ?_) (fun c138 => ?_)
                  · rw [if_neg c138] at h
                    refine lv_iconst (v := 0) hx hb dL_isGame_537 (by decide) ?_
                    refine lv_istore (lv' := [(7, .int 0), (10, .int (fL_has v4 v9)), (0, .ref (ad 8)), (1, .ref (ah 0)), (2, .ref (ah 1)), (3, .ref (ah 2)), (4, .int v4), (6, .int v6), (8, .int v8), (9, .int v9)]) hx hb dL_isGame_538 hl (by decide) rfl (fun ls hl => ?_)
                    obtain rfl := Option.some.inj h
                    refine W.widen (k := cells + 5) (n := slots + 30) (by omega) (by omega) ?_
                    exact kk _ _ hP hQ hS _ (lv_sub hl [2, 3, 4, 5, 6, 7, 0, 8, 9] rfl)
                  · rw [if_pos c138] at h
                    refine lv_iconst (v := 1) hx hb dL_isGame_533 (by decide) ?_
                    refine lv_goto (tgt := 538) hx hb dL_isGame_534 (by decide) ?_
                    refine lv_istore (lv' := [(7, .int 1), (10, .int (fL_has v4 v9)), (0, .ref (ad 8)), (1, .ref (ah 0)), (2, .ref (ah 1)), (3, .ref (ah 2)), (4, .int v4), (6, .int v6), (8, .int v8), (9, .int v9)]) hx hb dL_isGame_538 hl (by decide) rfl (fun ls hl => ?_)
                    obtain rfl := Option.some.inj h
                    refine W.widen (k := cells + 5) (n := slots + 30) (by omega) (by omega) ?_
                    exact kk _ _ hP hQ hS _ (lv_sub hl [2, 3, 4, 5, 6, 7, 0, 8, 9] rfl)
              · rw [if_pos c134] at h
                refine lv_bipush (v := (-13)) hx hb dL_isGame_509 (by decide) ?_
                refine lv_goto (tgt := 530) hx hb dL_isGame_511 (by decide) ?_
                refine lv_icmp_ne (tgt := 537) hx hb dL_isGame_530 (by decide) (fun c139 => ?_) (fun c139 => ?_)
                · rw [if_neg c139] at h
                  refine lv_iconst (v := 0) hx hb dL_isGame_537 (by decide) ?_
                  refine lv_istore (lv' := [(7, .int 0), (10, .int (fL_has v4 v9)), (0, .ref (ad 8)), (1, .ref (ah 0)), (2, .ref (ah 1)), (3, .ref (ah 2)), (4, .int v4), (6, .int v6), (8, .int v8), (9, .int v9)]) hx hb dL_isGame_538 hl (by decide) rfl (fun ls hl => ?_)
                  obtain rfl := Option.some.inj h
                  refine W.widen (k := cells + 5) (n := slots + 30) (by omega) (by omega) ?_
                  exact kk _ _ hP hQ hS _ (lv_sub hl [2, 3, 4, 5, 6, 7, 0, 8, 9] rfl)
                · rw [if_pos c139] at h
                  refine lv_iconst (v := 1) hx hb dL_isGame_533 (by decide) ?_
                  refine lv_goto (tgt := 538) hx hb dL_isGame_534 (by decide) ?_
                  refine lv_istore (lv' := [(7, .int 1), (10, .int (fL_has v4 v9)), (0, .ref (ad 8)), (1, .ref (ah 0)), (2, .ref (ah 1)), (3, .ref (ah 2)), (4, .int v4), (6, .int v6), (8, .int v8), (9, .int v9)]) hx hb dL_isGame_538 hl (by decide) rfl (fun ls hl => ?_)
                  obtain rfl := Option.some.inj h
                  refine W.widen (k := cells + 5) (n := slots + 30) (by omega) (by omega) ?_
                  exact kk _ _ hP hQ hS _ (lv_sub hl [2, 3, 4, 5, 6, 7, 0, 8, 9] rfl)
  have L411 : ∀ (n : Nat) (v4 : Int32) (v6 : Int32) (v7 : Int32) (v8 : Int32) (v9 : Int32) (M N : Mem) (r' : Int32 × Mem × Mem) (H : Heap) (locs : List Loc) (ls : Array Slot) (cells slots : Nat), fL_isGame_L411 n v4 v6 v7 v8 v9 M N = some r' → va_P D vwCl (wX cA ad M) H → va_P D vwCl (wH cA ah N) H → va_S A s.heap H locs → cells + n * 5 ≤ 222 → slots + n * 30 ≤ 1257 → lv_has ls 14 [(0, .ref (ad 8)), (1, .ref (ah 0)), (2, .ref (ah 1)), (3, .ref (ah 2)), (4, .int v4), (6, .int v6), (7, .int v7), (8, .int v8), (9, .int v9)] → (∀ (H : Heap) (locs : List Loc), va_P D vwCl (wX cA ad (r'.2.1)) H → va_P D vwCl (wH cA ah (r'.2.2)) H → va_S A s.heap H locs → ∀ (ls : Array Slot), lv_has ls 14 [(0, .ref (ad 8)), (7, .int (r'.1)), (8, .int v8)] → W p l e rmL_isGame s m args below meth c H locs (cells + n * 5) (slots + n * 30) Q (F0 m 546 ls [])) → W p l e rmL_isGame s m args below meth c H locs cells slots Q (F0 m 411 ls []) := by
    intro n
    induction n with
    | zero => intro v4 v6 v7 v8 v9 M N r' H locs ls cells slots h hP hQ hS hc hs hl kk; rw [fL_isGame_L411.eq_1] at h; cases h
    | succ n ih =>
      intro v4 v6 v7 v8 v9 M N r' H locs ls cells slots h hP hQ hS hc hs hl kk
      rw [fL_isGame_L411.eq_2] at h
      refine lv_iload hx hb dL_isGame_411 (lv_at hl 8 rfl) ?_
      refine lv_bipush (v := 24) hx hb dL_isGame_413 (by decide) ?_
      refine lv_icmp_ge (tgt := 546) hx hb dL_isGame_415 (by decide) (fun c44 => ?_) (fun c44 => ?_)
      · rw [if_pos c44] at h
        obtain rfl := Option.some.inj h
        refine W.widen (k := cells + (n + 1) * 5) (n := slots + (n + 1) * 30) (by omega) (by omega) ?_
        exact kk _ _ hP hQ hS _ (lv_sub hl [0, 6, 7] rfl)
      · rw [if_neg c44] at h
        refine lv_iload hx hb dL_isGame_418 (lv_at hl 6 rfl) ?_
        refine lv_if_eq (tgt := 546) hx hb dL_isGame_420 (by decide) (fun c45 => ?_) (fun c45 => ?_)
        · rw [if_pos c45] at h
          obtain rfl := Option.some.inj h
          refine W.widen (k := cells + (n + 1) * 5) (n := slots + (n + 1) * 30) (by omega) (by omega) ?_
          exact kk _ _ hP hQ hS _ (lv_sub hl [0, 6, 7] rfl)
        · rw [if_neg c45] at h
          obtain ⟨q46, hqq46, h⟩ := obind_some h
          refine R423 _ _ _ _ _ _ _ _ _ _ _ _ hqq46 hP hQ hS (by omega) (by omega) (lv_sub hl [0, 1, 2, 3, 4, 5, 7, 8] rfl) (fun H locs hP hQ hS ls hl => ?_)
          have hl := lv_sub (l' := [(0, .ref (ad 8)), (1, .ref (ah 0)), (2, .ref (ah 1)), (3, .ref (ah 2)), (4, .int v4), (6, .int v6), (7, .int q46.1), (8, .int v8), (9, .int v9)]) hl [0, 1, 2, 3, 4, 5, 6, 7, 8] rfl
          refine lv_iinc (v := v9 + 1) (lv' := [(9, .int (v9 + 1)), (0, .ref (ad 8)), (1, .ref (ah 0)), (2, .ref (ah 1)), (3, .ref (ah 2)), (4, .int v4), (6, .int v6), (7, .int q46.1), (8, .int v8)]) hx hb dL_isGame_540 hl (k := 8) rfl rfl (by decide) rfl (fun ls hl => ?_)
          refine lv_goto (tgt := 411) hx hb dL_isGame_543 (by decide) ?_
          refine W.widen (k := cells + 5) (n := slots + 30) (by omega) (by omega) ?_
          exact ih _ _ _ _ _ _ _ _ _ _ _ _ _ h hP hQ hS (by omega) (by omega) (lv_sub hl [1, 2, 3, 4, 5, 6, 7, 8, 0] rfl) (fun H locs hP hQ hS ls hl => W.widen (k := cells + (n + 1) * 5) (n := slots + (n + 1) * 30) (by omega) (by omega) (kk H locs hP hQ hS ls hl))
  have L186 : ∀ (n : Nat) (v4 : Int32) (v6 : Int32) (v7 : Int32) (v8 : Int32) (v9 : Int32) (M N : Mem) (r' : Int32 × Int32 × Mem × Mem) (H : Heap) (locs : List Loc) (ls : Array Slot) (cells slots : Nat), fL_isGame_L186 n v4 v6 v7 v8 v9 M N = some r' → va_P D vwCl (wX cA ad M) H → va_P D vwCl (wH cA ah N) H → va_S A s.heap H locs → cells + n * 18 ≤ 222 → slots + n * 93 ≤ 1257 → lv_has ls 14 [(0, .ref (ad 8)), (1, .ref (ah 0)), (2, .ref (ah 1)), (3, .ref (ah 2)), (4, .int v4), (6, .int v6), (7, .int v7), (8, .int v8), (9, .int v9)] → (∀ (H : Heap) (locs : List Loc), va_P D vwCl (wX cA ad (r'.2.2.1)) H → va_P D vwCl (wH cA ah (r'.2.2.2)) H → va_S A s.heap H locs → ∀ (ls : Array Slot), lv_has ls 14 [(0, .ref (ad 8)), (1, .ref (ah 0)), (2, .ref (ah 1)), (3, .ref (ah 2)), (4, .int v4), (6, .int v6), (7, .int (r'.1)), (8, .int (r'.2.1))] → W p l e rmL_isGame s m args below meth c H locs (cells + n * 18) (slots + n * 93) Q (F0 m 408 ls [])) → W p l e rmL_isGame s m args below meth c H locs cells slots Q (F0 m 186 ls []) := by
    intro n
    induction n with
    | zero => intro v4 v6 v7 v8 v9 M N r' H locs ls cells slots h hP hQ hS hc hs hl kk; rw [fL_isGame_L186.eq_1] at h; cases h
    | succ n ih =>
      intro v4 v6 v7 v8 v9 M N r' H locs ls cells slots h hP hQ hS hc hs hl kk
      rw [fL_isGame_L186.eq_2] at h
      refine lv_iload hx hb dL_isGame_186 (lv_at hl 8 rfl) ?_
      refine lv_iconst (v := 4) hx hb dL_isGame_188 (by decide) ?_
      refine lv_icmp_ge (tgt := 408) hx hb dL_isGame_189 (by decide) (fun c39 => ?_) (fun c39 => ?_)
      · rw [if_pos c39] at h
        obtain rfl := Option.some.inj h
        refine W.widen (k := cells + (n + 1) * 18) (n := slots + (n + 1) * 93) (by omega) (by omega) ?_
        exact kk _ _ hP hQ hS _ (lv_sub hl [0, 1, 2, 3, 4, 5, 6, 7] rfl)
      · rw [if_neg c39] at h
        refine lv_iload hx hb dL_isGame_192 (lv_at hl 6 rfl) ?_
        refine lv_if_eq (tgt := 408) hx hb dL_isGame_194 (by decide) (fun c40 => ?_) (fun c40 => ?_)
        · rw [if_pos c40] at h
          obtain rfl := Option.some.inj h
          refine W.widen (k := cells + (n + 1) * 18) (n := slots + (n + 1) * 93) (by omega) (by omega) ?_
          exact kk _ _ hP hQ hS _ (lv_sub hl [0, 1, 2, 3, 4, 5, 6, 7] rfl)
        · rw [if_neg c40] at h
          refine lv_iconst (v := 0) hx hb dL_isGame_197 (by decide) ?_
          refine lv_istore (lv' := [(10, .int 0), (0, .ref (ad 8)), (1, .ref (ah 0)), (2, .ref (ah 1)), (3, .ref (ah 2)), (4, .int v4), (6, .int v6), (7, .int v7), (8, .int v8), (9, .int v9)]) hx hb dL_isGame_198 hl (by decide) rfl (fun ls hl => ?_)
          refine lv_iconst (v := 0) hx hb dL_isGame_200 (by decide) ?_
          refine lv_istore (lv' := [(11, .int 0), (10, .int 0), (0, .ref (ad 8)), (1, .ref (ah 0)), (2, .ref (ah 1)), (3, .ref (ah 2)), (4, .int v4), (6, .int v6), (7, .int v7), (8, .int v8), (9, .int v9)]) hx hb dL_isGame_201 hl (by decide) rfl (fun ls hl => ?_)
          refine lv_iconst (v := 0) hx hb dL_isGame_203 (by decide) ?_
          refine lv_istore (lv' := [(12, .int 0), (11, .int 0), (10, .int 0), (0, .ref (ad 8)), (1, .ref (ah 0)), (2, .ref (ah 1)), (3, .ref (ah 2)), (4, .int v4), (6, .int v6), (7, .int v7), (8, .int v8), (9, .int v9)]) hx hb dL_isGame_204 hl (by decide) rfl (fun ls hl => ?_)
          obtain ⟨q41, hqq41, h⟩ := obind_some h
          refine L206 _ _ _ _ _ _ _ _ _ _ _ _ _ _ _ _ hqq41 hP hQ hS (by omega) (by omega) (lv_sub hl [3, 4, 5, 6, 7, 8, 10, 11, 2, 1, 0] rfl) (fun ls hl => ?_)
          have hl := lv_sub (l' := [(0, .ref (ad 8)), (1, .ref (ah 0)), (2, .ref (ah 1)), (3, .ref (ah 2)), (4, .int v4), (6, .int v6), (8, .int v8), (9, .int v9), (10, .int q41.1), (11, .int q41.2)]) hl [0, 1, 2, 3, 4, 5, 6, 7, 8, 9] rfl
          obtain ⟨q42, hqq42, h⟩ := obind_some h
          refine R287 _ _ _ _ _ _ _ _ _ _ _ _ _ _ hqq42 hP hQ hS (by omega) (by omega) (lv_sub hl [0, 1, 2, 3, 4, 5, 6, 7, 8, 9] rfl) (fun H locs hP hQ hS ls hl => ?_)
          have hl := lv_sub (l' := [(0, .ref (ad 8)), (1, .ref (ah 0)), (2, .ref (ah 1)), (3, .ref (ah 2)), (4, .int v4), (6, .int v6), (7, .int q42.1), (8, .int v8), (9, .int v9)]) hl [0, 1, 2, 3, 4, 5, 6, 7, 8] rfl
          refine lv_iconst (v := 0) hx hb dL_isGame_329 (by decide) ?_
          refine lv_istore (lv' := [(12, .int 0), (0, .ref (ad 8)), (1, .ref (ah 0)), (2, .ref (ah 1)), (3, .ref (ah 2)), (4, .int v4), (6, .int v6), (7, .int q42.1), (8, .int v8), (9, .int v9)]) hx hb dL_isGame_330 hl (by decide) rfl (fun ls hl => ?_)
          obtain ⟨q43, hqq43, h⟩ := obind_some h
          refine L332 _ _ _ _ _ _ _ _ _ _ _ _ _ _ _ hqq43 hP hQ hS (by omega) (by omega) (lv_sub hl [1, 2, 3, 4, 5, 6, 7, 8, 9, 0] rfl) (fun H locs hP hQ hS ls hl => ?_)
          have hl := lv_sub (l' := [(0, .ref (ad 8)), (1, .ref (ah 0)), (2, .ref (ah 1)), (3, .ref (ah 2)), (4, .int v4), (6, .int v6), (7, .int q43.1), (8, .int q43.2.1), (9, .int v9)]) hl [0, 1, 2, 3, 4, 5, 6, 7, 8] rfl
          refine lv_iinc (v := v9 + 1) (lv' := [(9, .int (v9 + 1)), (0, .ref (ad 8)), (1, .ref (ah 0)), (2, .ref (ah 1)), (3, .ref (ah 2)), (4, .int v4), (6, .int v6), (7, .int q43.1), (8, .int q43.2.1)]) hx hb dL_isGame_402 hl (k := 8) rfl rfl (by decide) rfl (fun ls hl => ?_)
          refine lv_goto (tgt := 186) hx hb dL_isGame_405 (by decide) ?_
          refine W.widen (k := cells + 18) (n := slots + 93) (by omega) (by omega) ?_
          exact ih _ _ _ _ _ _ _ _ _ _ _ _ _ h hP hQ hS (by omega) (by omega) (lv_sub hl [1, 2, 3, 4, 5, 6, 7, 8, 0] rfl) (fun H locs hP hQ hS ls hl => W.widen (k := cells + (n + 1) * 18) (n := slots + (n + 1) * 93) (by omega) (by omega) (kk H locs hP hQ hS ls hl))
  refine lv_aload_n hx hb dL_isGame_0 rfl (lv_at hl 1 rfl) ?_
  refine lv_iconst (v := 0) hx hb dL_isGame_1 (by decide) ?_
  refine alH0 S5 hK hQ (v := N 0 0) (by decide) rfl dL_isGame_2 ?_
  refine lv_aload_n hx hb dL_isGame_3 rfl (lv_at hl 1 rfl) ?_
  refine lv_iconst (v := 1) hx hb dL_isGame_4 (by decide) ?_
  refine alH0 S5 hK hQ (v := N 0 1) (by decide) rfl dL_isGame_5 ?_
  refine lv_ior hx hb dL_isGame_6 ?_
  refine lv_aload_n hx hb dL_isGame_7 rfl (lv_at hl 1 rfl) ?_
  refine lv_iconst (v := 2) hx hb dL_isGame_8 (by decide) ?_
  refine alH0 S5 hK hQ (v := N 0 2) (by decide) rfl dL_isGame_9 ?_
  refine lv_ior hx hb dL_isGame_10 ?_
  refine lv_aload_n hx hb dL_isGame_11 rfl (lv_at hl 1 rfl) ?_
  refine lv_iconst (v := 3) hx hb dL_isGame_12 (by decide) ?_
  refine alH0 S5 hK hQ (v := N 0 3) (by decide) rfl dL_isGame_13 ?_
  refine lv_ior hx hb dL_isGame_14 ?_
  refine lv_istore (lv' := [(4, .int ((((N 0 0) ||| (N 0 1)) ||| (N 0 2)) ||| (N 0 3))), (0, .ref (ad 8)), (1, .ref (ah 0)), (2, .ref (ah 1)), (3, .ref (ah 2))]) hx hb dL_isGame_15 hl (by decide) rfl (fun ls hl => ?_)
  refine lv_aload_n hx hb dL_isGame_17 rfl (lv_at hl 4 rfl) ?_
  refine lv_iconst (v := 0) hx hb dL_isGame_18 (by decide) ?_
  refine alH2 S5 hK hQ (v := N 2 0) (by decide) rfl dL_isGame_19 ?_
  refine lv_iconst (v := 4) hx hb dL_isGame_20 (by decide) ?_
  refine r_irem S5 dL_isGame_21 (by decide) ?_
  refine lv_istore (lv' := [(5, .int (im (N 2 0) 4)), (4, .int ((((N 0 0) ||| (N 0 1)) ||| (N 0 2)) ||| (N 0 3))), (0, .ref (ad 8)), (1, .ref (ah 0)), (2, .ref (ah 1)), (3, .ref (ah 2))]) hx hb dL_isGame_22 hl (by decide) rfl (fun ls hl => ?_)
  obtain ⟨q1, hqq1, h⟩ := obind_some h
  refine R24 _ _ _ _ _ _ _ _ _ _ hqq1 hP hQ hS (by omega) (by omega) (lv_sub hl [2, 3, 4, 5, 1, 0] rfl) (fun ls hl => ?_)
  have hl := lv_sub (l' := [(0, .ref (ad 8)), (1, .ref (ah 0)), (2, .ref (ah 1)), (3, .ref (ah 2)), (4, .int ((((N 0 0) ||| (N 0 1)) ||| (N 0 2)) ||| (N 0 3))), (5, .int (im (N 2 0) 4)), (6, .int q1)]) hl [0, 1, 2, 3, 4, 5, 6] rfl
  obtain ⟨q2, hqq2, h⟩ := obind_some h
  refine R54 _ _ _ _ _ _ _ _ _ _ _ hqq2 hP hQ hS (by omega) (by omega) (lv_sub hl [0, 1, 2, 3, 4, 5, 6] rfl) (fun H locs hP hQ hS ls hl => ?_)
  have hl := lv_sub (l' := [(0, .ref (ad 8)), (1, .ref (ah 0)), (2, .ref (ah 1)), (3, .ref (ah 2)), (4, .int ((((N 0 0) ||| (N 0 1)) ||| (N 0 2)) ||| (N 0 3))), (5, .int (im (N 2 0) 4)), (6, .int q1), (7, .int q2.1)]) hl [0, 1, 2, 3, 4, 5, 6, 7] rfl
  refine lv_iconst (v := 0) hx hb dL_isGame_132 (by decide) ?_
  refine lv_istore (lv' := [(8, .int 0), (0, .ref (ad 8)), (1, .ref (ah 0)), (2, .ref (ah 1)), (3, .ref (ah 2)), (4, .int ((((N 0 0) ||| (N 0 1)) ||| (N 0 2)) ||| (N 0 3))), (5, .int (im (N 2 0) 4)), (6, .int q1), (7, .int q2.1)]) hx hb dL_isGame_133 hl (by decide) rfl (fun ls hl => ?_)
  obtain ⟨q3, hqq3, h⟩ := obind_some h
  refine L135 _ _ _ _ _ _ _ _ _ _ _ _ _ _ hqq3 hP hQ hS (by omega) (by omega) (lv_sub hl [1, 2, 3, 4, 5, 6, 7, 8, 0] rfl) (fun H locs hP hQ hS ls hl => ?_)
  have hl := lv_sub (l' := [(0, .ref (ad 8)), (1, .ref (ah 0)), (2, .ref (ah 1)), (3, .ref (ah 2)), (4, .int ((((N 0 0) ||| (N 0 1)) ||| (N 0 2)) ||| (N 0 3))), (6, .int q1), (7, .int q3.1)]) hl [0, 1, 2, 3, 4, 5, 6] rfl
  refine lv_iconst (v := 0) hx hb dL_isGame_180 (by decide) ?_
  refine lv_istore (lv' := [(8, .int 0), (0, .ref (ad 8)), (1, .ref (ah 0)), (2, .ref (ah 1)), (3, .ref (ah 2)), (4, .int ((((N 0 0) ||| (N 0 1)) ||| (N 0 2)) ||| (N 0 3))), (6, .int q1), (7, .int q3.1)]) hx hb dL_isGame_181 hl (by decide) rfl (fun ls hl => ?_)
  refine lv_iconst (v := 0) hx hb dL_isGame_183 (by decide) ?_
  refine lv_istore (lv' := [(9, .int 0), (8, .int 0), (0, .ref (ad 8)), (1, .ref (ah 0)), (2, .ref (ah 1)), (3, .ref (ah 2)), (4, .int ((((N 0 0) ||| (N 0 1)) ||| (N 0 2)) ||| (N 0 3))), (6, .int q1), (7, .int q3.1)]) hx hb dL_isGame_184 hl (by decide) rfl (fun ls hl => ?_)
  obtain ⟨q4, hqq4, h⟩ := obind_some h
  refine L186 _ _ _ _ _ _ _ _ _ _ _ _ _ _ hqq4 hP hQ hS (by omega) (by omega) (lv_sub hl [2, 3, 4, 5, 6, 7, 8, 1, 0] rfl) (fun H locs hP hQ hS ls hl => ?_)
  have hl := lv_sub (l' := [(0, .ref (ad 8)), (1, .ref (ah 0)), (2, .ref (ah 1)), (3, .ref (ah 2)), (4, .int ((((N 0 0) ||| (N 0 1)) ||| (N 0 2)) ||| (N 0 3))), (6, .int q1), (7, .int q4.1), (8, .int q4.2.1)]) hl [0, 1, 2, 3, 4, 5, 6, 7] rfl
  refine lv_iconst (v := 0) hx hb dL_isGame_408 (by decide) ?_
  refine lv_istore (lv' := [(9, .int 0), (0, .ref (ad 8)), (1, .ref (ah 0)), (2, .ref (ah 1)), (3, .ref (ah 2)), (4, .int ((((N 0 0) ||| (N 0 1)) ||| (N 0 2)) ||| (N 0 3))), (6, .int q1), (7, .int q4.1), (8, .int q4.2.1)]) hx hb dL_isGame_409 hl (by decide) rfl (fun ls hl => ?_)
  obtain ⟨q5, hqq5, h⟩ := obind_some h
  refine L411 _ _ _ _ _ _ _ _ _ _ _ _ _ _ hqq5 hP hQ hS (by omega) (by omega) (lv_sub hl [1, 2, 3, 4, 5, 6, 7, 8, 0] rfl) (fun H locs hP hQ hS ls hl => ?_)
  have hl := lv_sub (l' := [(0, .ref (ad 8)), (7, .int q5.1), (8, .int q4.2.1)]) hl [0, 1, 2] rfl
  refine lv_iload hx hb dL_isGame_546 (lv_at hl 1 rfl) ?_
  refine lv_if_eq (tgt := 564) hx hb dL_isGame_548 (by decide) (fun c6 => ?_) (fun c6 => ?_)
  · rw [if_pos c6] at h
    refine lv_iconst (v := 0) hx hb dL_isGame_564 (by decide) ?_
    obtain rfl := Option.some.inj h
    refine W.widen (k := 222) (n := 1257) (by omega) (by omega) ?_
    exact kr _ _ _ _ _ rfl rfl hP hQ hS dL_isGame_565
  · rw [if_neg c6] at h
    refine lv_aload_n hx hb dL_isGame_551 rfl (lv_at hl 0 rfl) ?_
    obtain ⟨q7, hqq7, h⟩ := obind_some h
    refine cVX S5 hK hP 8 rfl rfl (As := []) (kX5_goodForks l D cA ad _ _ hqq7) (cwV 0 hts gL_isGame_X5_goodForks rfl rfl rfl (by decide +kernel) ⟨(Nat.le_of_ble_eq_true rfl), (Nat.le_of_ble_eq_true rfl)⟩) rfl hl.1 (st0 := _) (rest := []) rfl (Nat.le_of_ble_eq_true rfl) dL_isGame_552 ⟨(by show _ ≤ 222; omega), (by show _ ≤ 1257; omega)⟩ ?_
    refine lv_iload hx hb dL_isGame_555 (lv_at hl 2 rfl) ?_
    refine lv_icmp_ne (tgt := 564) hx hb dL_isGame_557 (by decide) (fun c8 => ?_) (fun c8 => ?_)
    · rw [if_neg c8] at h
      refine lv_iconst (v := 0) hx hb dL_isGame_564 (by decide) ?_
      obtain rfl := Option.some.inj h
      refine W.widen (k := 222) (n := 1257) (by omega) (by omega) ?_
      exact kr _ _ _ _ _ rfl rfl hP hQ hS dL_isGame_565
    · rw [if_pos c8] at h
      refine lv_iconst (v := 1) hx hb dL_isGame_560 (by decide) ?_
      refine lv_goto (tgt := 565) hx hb dL_isGame_561 (by decide) ?_
      obtain rfl := Option.some.inj h
      refine W.widen (k := 222) (n := 1257) (by omega) (by omega) ?_
      exact kr _ _ _ _ _ rfl rfl hP hQ hS dL_isGame_565

-- L_isSolved
def fL_isSolved_R321 (v4 : Int32) (v6 : Int32) (v7 : Int32) (v9 : Int32) (v10 : Int32) (v11 : Int32) (v12 : Int32) (M N : Mem) : Option (Int32 × Mem × Mem) := (obind (gX5_value v11 M) (fun q43 => (if q43.1 = 0 ∨ q43.1 = 2 then (if (dv q43) = v12 then some (1, q43.2.2, N) else some (0, q43.2.2, N)) else none)))
def fL_isSolved_R289 (v4 : Int32) (v6 : Int32) (v7 : Int32) (v9 : Int32) (v10 : Int32) (v11 : Int32) (v12 : Int32) (M N : Mem) : Option (Int32 × Int32) := (if v12 ≤ v9 then (if v12 ≤ v9 then some (v9, v10) else some (v12, v10)) else (if v12 ≤ v9 then some (v9, v11) else some (v12, v11)))
def fL_isSolved_R143 (v4 : Int32) (v5 : Int32) (v6 : Int32) (v7 : Int32) (M N : Mem) : Option (Int32 × Mem × Mem) := (obind (gX5_solve M) (fun q29 => (if q29.1 = 0 ∨ q29.1 = 2 then (if (dv q29) = v5 then (obind (gX5_solveByAll q29.2.2) (fun q32 => (if q32.1 = 0 ∨ q32.1 = 2 then (if (dv q32) = v5 then some (1, q32.2.2, N) else some (0, q32.2.2, N)) else none))) else some (0, q29.2.2, N)) else none)))
def fL_isSolved_R214 (v4 : Int32) (v6 : Int32) (v7 : Int32) (v9 : Int32) (v10 : Int32) (v11 : Int32) (M N : Mem) : Option (Int32 × Mem × Mem) := (if vin v7 4 = true then (if vin v7 4 = true then (if vin (N 2 0) 16 = true then (obind (fL_best ((mset (mset (mset N 0 v7.toNatClampNeg ((N 0 v7.toNatClampNeg) &&& ((sl 1 v11) ^^^ ((-1))))) 1 ((N 2 0).toNatClampNeg) v11) 2 0 ((N 2 0) + 1)))) (fun q48 => (if vin v7 4 = true then (if vin v7 4 = true then (if (im v7 2) = 0 then some (q48.1 - v4, M, (mset (mset q48.2 2 0 ((q48.2 2 0) - 1)) 0 v7.toNatClampNeg ((q48.2 0 v7.toNatClampNeg) ||| (sl 1 v11)))) else some (v6 - (q48.1 - v4), M, (mset (mset q48.2 2 0 ((q48.2 2 0) - 1)) 0 v7.toNatClampNeg ((q48.2 0 v7.toNatClampNeg) ||| (sl 1 v11))))) else none) else none))) else none) else none) else none)
def fL_isSolved_R62 (M N : Mem) : Option (Int32 × Int32 × Int32 × Int32 × Mem × Mem) := (obind (fL_tricks (N 2 0) 0 N) (fun q21 => (obind (fL_best N) (fun q22 => (obind (fL_size (q22.2 0 0)) (fun q23 => (obind (fL_size (q22.2 0 1)) (fun q24 => (obind (fL_size (q22.2 0 2)) (fun q25 => (obind (fL_size (q22.2 0 3)) (fun q26 => (obind (fL_leader (q22.2 2 0) q22.2) (fun q27 => some (q21, q22.1 - q21, ((((((q22.2 2 0) + q23) + q24) + q25) + q26) / 4) - ((q22.2 2 0) / 4), im (q27 + (im (q22.2 2 0) 4)) 4, M, q22.2)))))))))))))))
def fL_isSolved_L184 : Nat → Int32 → Int32 → Int32 → Int32 → Int32 → Int32 → Int32 → Mem → Mem → Option (Int32 × Int32 × Mem × Mem)
  | 0, _, _, _, _, _, _, _, _, _ => none
  | n + 1, v4, v6, v7, v8, v9, v10, v11, M, N => (if 24 ≤ v11 then some (v8, v10, M, N) else (if v8 = 0 then some (v8, v10, M, N) else (obind (fL_can (N 2 0) v11 N) (fun q36 => (if q36 = 0 then (obind (fL_isSolved_R321 v4 v6 v7 v9 v10 v11 ((-13)) M N) (fun q38 => fL_isSolved_L184 n v4 v6 v7 q38.1 v9 v10 (v11 + 1) q38.2.1 q38.2.2)) else (obind (fL_isSolved_R214 v4 v6 v7 v9 v10 v11 M N) (fun q39 => (obind (fL_isSolved_R289 v4 v6 v7 v9 v10 v11 q39.1 q39.2.1 q39.2.2) (fun q40 => (obind (fL_isSolved_R321 v4 v6 v7 q40.1 q40.2 v11 q39.1 q39.2.1 q39.2.2) (fun q41 => fL_isSolved_L184 n v4 v6 v7 q41.1 q40.1 q40.2 (v11 + 1) q41.2.1 q41.2.2)))))))))))
def fL_isSolved (M N : Mem) : Option (Int32 × Mem × Mem) := (if (N 2 3) = 0 then (obind (gX5_solve M) (fun q10 => (if q10.1 = 0 ∨ q10.1 = 2 then (if (dv q10) = ((-13)) then (obind (gX5_solveByAll q10.2.2) (fun q13 => (if q13.1 = 0 ∨ q13.1 = 2 then (if (dv q13) = ((-13)) then (obind (gX5_bestCard q13.2.2) (fun q16 => (if q16.1 = 0 ∨ q16.1 = 2 then (if (dv q16) = ((-13)) then (obind (gX5_value 3 q16.2.2) (fun q19 => (if q19.1 = 0 ∨ q19.1 = 2 then (if (dv q19) = ((-13)) then some (1, q19.2.2, N) else some (0, q19.2.2, N)) else none))) else some (0, q16.2.2, N)) else none))) else some (0, q13.2.2, N)) else none))) else some (0, q10.2.2, N)) else none))) else (obind (fL_isSolved_R62 M N) (fun q2 => (obind (fL_isSolved_R143 q2.1 q2.2.1 q2.2.2.1 q2.2.2.2.1 q2.2.2.2.2.1 q2.2.2.2.2.2) (fun q3 => (obind (fL_isSolved_L184 25 q2.1 q2.2.2.1 q2.2.2.2.1 q3.1 ((-1)) ((-13)) 0 q3.2.1 q3.2.2) (fun q4 => (if q4.1 = 0 then some (0, q4.2.2.1, q4.2.2.2) else (obind (gX5_bestCard q4.2.2.1) (fun q7 => (if q7.1 = 0 ∨ q7.1 = 2 then (if (dv q7) = q4.2.1 then some (1, q7.2.2, q4.2.2.2) else some (0, q7.2.2, q4.2.2.2)) else none)))))))))))
def rmL_isSolved : Room := { frames := 130, cells := 106, slots := 1208, locals := 2883 }
set_option maxHeartbeats 8000000 in
set_option maxRecDepth 100000 in
theorem kL_isSolved (l : Launch) (D : va_G) (cA : Nat) (ad ah sa : Nat → Nat) (hst : l.stackTraces = false) (M N : Mem) (r : Int32 × Mem × Mem) (h : fL_isSolved M N = some r) : Gi l yL_isSolved wsL_isSolved rmL_isSolved D cA ad ah sa M N [.ref (ad 8), .ref (ah 0), .ref (ah 1), .ref (ah 2)] 106 1208 r := by
  unfold fL_isSolved at h
  refine Gi.of rfl rfl rfl (Nat.le_of_ble_eq_true rfl) ?_
  intro p e s m args below meth c Q ls A eA S5 hK hP hQ hD hS hT hl kr
  have hA : ∀ (H : Heap) (q : Nat), s.heap.size ≤ H.size → AX ad H.size q → A q := fun H q hz h => by rw [eA]; exact Or.inl (AX.mono hz h)
  have hAh : ∀ (H : Heap) (q : Nat), s.heap.size ≤ H.size → AXH ah H.size q → A q := fun H q hz h => by rw [eA]; exact Or.inr (AXH.mono hz h)
  obtain ⟨hx, hb, -, -, hts⟩ := id S5
  have R321 : ∀ (v4 : Int32) (v6 : Int32) (v7 : Int32) (v9 : Int32) (v10 : Int32) (v11 : Int32) (v12 : Int32) (M N : Mem) (r' : Int32 × Mem × Mem) (H : Heap) (locs : List Loc) (ls : Array Slot) (cells slots : Nat), fL_isSolved_R321 v4 v6 v7 v9 v10 v11 v12 M N = some r' → va_P D vwCl (wX cA ad M) H → va_P D vwCl (wH cA ah N) H → va_S A s.heap H locs → cells + 2 ≤ 106 → slots + 12 ≤ 1208 → lv_has ls 13 [(0, .ref (ad 8)), (1, .ref (ah 0)), (2, .ref (ah 1)), (3, .ref (ah 2)), (4, .int v4), (6, .int v6), (7, .int v7), (9, .int v9), (10, .int v10), (11, .int v11), (12, .int v12)] → (∀ (H : Heap) (locs : List Loc), va_P D vwCl (wX cA ad (r'.2.1)) H → va_P D vwCl (wH cA ah (r'.2.2)) H → va_S A s.heap H locs → ∀ (ls : Array Slot), lv_has ls 13 [(0, .ref (ad 8)), (1, .ref (ah 0)), (2, .ref (ah 1)), (3, .ref (ah 2)), (4, .int v4), (6, .int v6), (7, .int v7), (8, .int (r'.1)), (9, .int v9), (10, .int v10), (11, .int v11)] → W p l e rmL_isSolved s m args below meth c H locs (cells + 2) (slots + 12) Q (F0 m 342 ls [])) → W p l e rmL_isSolved s m args below meth c H locs cells slots Q (F0 m 321 ls []) := by
    intro v4 v6 v7 v9 v10 v11 v12 M N r' H locs ls cells slots h hP hQ hS hc hs hl kk
    unfold fL_isSolved_R321 at h
    refine lv_aload_n hx hb dL_isSolved_321 rfl (lv_at hl 0 rfl) ?_
    refine lv_bipush (v := 6) hx hb dL_isSolved_322 (by decide) ?_
    refine lv_iload hx hb dL_isSolved_324 (lv_at hl 9 rfl) ?_
    refine lv_iconst (v := 0) hx hb dL_isSolved_326 (by decide) ?_
    obtain ⟨q43, hqq43, h⟩ := obind_some h
    obtain ⟨g42, h⟩ := gd_some h
    refine cDY S5 hK hP hQ hD hS hT (fun _ h => hA _ _ hS.1 h) (As := [.ref (ad 8), .int 6, .int v11, .int 0]) (kL_does_6 l D cA ad sa hst v11 0 _ _ hqq43 g42) (vx_cwSW 4 hts gL_isSolved_L_does rfl rfl rfl (by decide +kernel) ⟨(Nat.le_of_ble_eq_true rfl), (Nat.le_of_ble_eq_true rfl)⟩) rfl hl.1 (st0 := _) (rest := []) rfl (Nat.le_of_ble_eq_true rfl) dL_isSolved_327 ⟨(by show _ ≤ 106; omega), (by show _ ≤ 1208; omega)⟩ (fun H locs hP hQ hS => ?_)
    refine lv_iload hx hb dL_isSolved_330 (lv_at hl 10 rfl) ?_
    refine lv_icmp_ne (tgt := 339) hx hb dL_isSolved_332 (by decide) (fun c44 => ?_) (fun c44 => ?_)
    · rw [if_neg c44] at h
      refine lv_iconst (v := 0) hx hb dL_isSolved_339 (by decide) ?_
      refine lv_istore (lv' := [(8, .int 0), (0, .ref (ad 8)), (1, .ref (ah 0)), (2, .ref (ah 1)), (3, .ref (ah 2)), (4, .int v4), (6, .int v6), (7, .int v7), (9, .int v9), (10, .int v10), (11, .int v11), (12, .int v12)]) hx hb dL_isSolved_340 hl (by decide) rfl (fun ls hl => ?_)
      obtain rfl := Option.some.inj h
      refine W.widen (k := cells + 2) (n := slots + 12) (by omega) (by omega) ?_
      exact kk _ _ hP hQ hS _ (lv_sub hl [1, 2, 3, 4, 5, 6, 7, 0, 8, 9, 10] rfl)
    · rw [if_pos c44] at h
      refine lv_iconst (v := 1) hx hb dL_isSolved_335 (by decide) ?_
      refine lv_goto (tgt := 340) hx hb dL_isSolved_336 (by decide) ?_
      refine lv_istore (lv' := [(8, .int 1), (0, .ref (ad 8)), (1, .ref (ah 0)), (2, .ref (ah 1)), (3, .ref (ah 2)), (4, .int v4), (6, .int v6), (7, .int v7), (9, .int v9), (10, .int v10), (11, .int v11), (12, .int v12)]) hx hb dL_isSolved_340 hl (by decide) rfl (fun ls hl => ?_)
      obtain rfl := Option.some.inj h
      refine W.widen (k := cells + 2) (n := slots + 12) (by omega) (by omega) ?_
      exact kk _ _ hP hQ hS _ (lv_sub hl [1, 2, 3, 4, 5, 6, 7, 0, 8, 9, 10] rfl)
  have R289 : ∀ (v4 : Int32) (v6 : Int32) (v7 : Int32) (v9 : Int32) (v10 : Int32) (v11 : Int32) (v12 : Int32) (M N : Mem) (r' : Int32 × Int32) (H : Heap) (locs : List Loc) (ls : Array Slot) (cells slots : Nat), fL_isSolved_R289 v4 v6 v7 v9 v10 v11 v12 M N = some r' → va_P D vwCl (wX cA ad M) H → va_P D vwCl (wH cA ah N) H → va_S A s.heap H locs → cells + 0 ≤ 106 → slots + 0 ≤ 1208 → lv_has ls 13 [(0, .ref (ad 8)), (1, .ref (ah 0)), (2, .ref (ah 1)), (3, .ref (ah 2)), (4, .int v4), (6, .int v6), (7, .int v7), (9, .int v9), (10, .int v10), (11, .int v11), (12, .int v12)] → (∀ (ls : Array Slot), lv_has ls 13 [(0, .ref (ad 8)), (1, .ref (ah 0)), (2, .ref (ah 1)), (3, .ref (ah 2)), (4, .int v4), (6, .int v6), (7, .int v7), (9, .int (r'.1)), (10, .int (r'.2)), (11, .int v11), (12, .int v12)] → W p l e rmL_isSolved s m args below meth c H locs (cells + 0) (slots + 0) Q (F0 m 321 ls [])) → W p l e rmL_isSolved s m args below meth c H locs cells slots Q (F0 m 289 ls []) := by
    intro v4 v6 v7 v9 v10 v11 v12 M N r' H locs ls cells slots h hP hQ hS hc hs hl kk
    unfold fL_isSolved_R289 at h
    refine lv_iload hx hb dL_isSolved_289 (lv_at hl 10 rfl) ?_
    refine lv_iload hx hb dL_isSolved_291 (lv_at hl 7 rfl) ?_
    refine lv_icmp_le (tgt := 301) hx hb dL_isSolved_293 (by decide) (fun c52 => ?_) (fun c52 => ?_)
    · rw [if_pos c52] at h
      refine lv_iload hx hb dL_isSolved_301 (lv_at hl 8 rfl) ?_
      refine lv_istore (lv' := [(10, .int v10), (0, .ref (ad 8)), (1, .ref (ah 0)), (2, .ref (ah 1)), (3, .ref (ah 2)), (4, .int v4), (6, .int v6), (7, .int v7), (9, .int v9), (11, .int v11), (12, .int v12)]) hx hb dL_isSolved_303 hl (by decide) rfl (fun ls hl => ?_)
      refine lv_iload hx hb dL_isSolved_305 (lv_at hl 10 rfl) ?_
      refine lv_iload hx hb dL_isSolved_307 (lv_at hl 8 rfl) ?_
      refine lv_icmp_le (tgt := 317) hx hb dL_isSolved_309 (by decide) (fun c53 => ?_) (fun c53 => ?_)
      · rw [if_pos c53] at h
        refine lv_iload hx hb dL_isSolved_317 (lv_at hl 8 rfl) ?_
        refine lv_istore (lv' := [(9, .int v9), (10, .int v10), (0, .ref (ad 8)), (1, .ref (ah 0)), (2, .ref (ah 1)), (3, .ref (ah 2)), (4, .int v4), (6, .int v6), (7, .int v7), (11, .int v11), (12, .int v12)]) hx hb dL_isSolved_319 hl (by decide) rfl (fun ls hl => ?_)
        obtain rfl := Option.some.inj h
        refine W.widen (k := cells + 0) (n := slots + 0) (by omega) (by omega) ?_
        exact kk _ (lv_sub hl [2, 3, 4, 5, 6, 7, 8, 0, 1, 9, 10] rfl)
      · rw [if_neg c53] at h
        refine lv_iload hx hb dL_isSolved_312 (lv_at hl 10 rfl) ?_
        refine lv_goto (tgt := 319) hx hb dL_isSolved_314 (by decide) ?_
        refine lv_istore (lv' := [(9, .int v12), (10, .int v10), (0, .ref (ad 8)), (1, .ref (ah 0)), (2, .ref (ah 1)), (3, .ref (ah 2)), (4, .int v4), (6, .int v6), (7, .int v7), (11, .int v11), (12, .int v12)]) hx hb dL_isSolved_319 hl (by decide) rfl (fun ls hl => ?_)
        obtain rfl := Option.some.inj h
        refine W.widen (k := cells + 0) (n := slots + 0) (by omega) (by omega) ?_
        exact kk _ (lv_sub hl [2, 3, 4, 5, 6, 7, 8, 0, 1, 9, 10] rfl)
    · rw [if_neg c52] at h
      refine lv_iload hx hb dL_isSolved_296 (lv_at hl 9 rfl) ?_
      refine lv_goto (tgt := 303) hx hb dL_isSolved_298 (by decide) ?_
      refine lv_istore (lv' := [(10, .int v11), (0, .ref (ad 8)), (1, .ref (ah 0)), (2, .ref (ah 1)), (3, .ref (ah 2)), (4, .int v4), (6, .int v6), (7, .int v7), (9, .int v9), (11, .int v11), (12, .int v12)]) hx hb dL_isSolved_303 hl (by decide) rfl (fun ls hl => ?_)
      refine lv_iload hx hb dL_isSolved_305 (lv_at hl 10 rfl) ?_
      refine lv_iload hx hb dL_isSolved_307 (lv_at hl 8 rfl) ?_
      refine lv_icmp_le (tgt := 317) hx hb dL_isSolved_309 (by decide) (fun c54 => ?_) (fun c54 => ?_)
      · rw [if_pos c54] at h
        refine lv_iload hx hb dL_isSolved_317 (lv_at hl 8 rfl) ?_
        refine lv_istore (lv' := [(9, .int v9), (10, .int v11), (0, .ref (ad 8)), (1, .ref (ah 0)), (2, .ref (ah 1)), (3, .ref (ah 2)), (4, .int v4), (6, .int v6), (7, .int v7), (11, .int v11), (12, .int v12)]) hx hb dL_isSolved_319 hl (by decide) rfl (fun ls hl => ?_)
        obtain rfl := Option.some.inj h
        refine W.widen (k := cells + 0) (n := slots + 0) (by omega) (by omega) ?_
        exact kk _ (lv_sub hl [2, 3, 4, 5, 6, 7, 8, 0, 1, 9, 10] rfl)
      · rw [if_neg c54] at h
        refine lv_iload hx hb dL_isSolved_312 (lv_at hl 10 rfl) ?_
        refine lv_goto (tgt := 319) hx hb dL_isSolved_314 (by decide) ?_
        refine lv_istore (lv' := [(9, .int v12), (10, .int v11), (0, .ref (ad 8)), (1, .ref (ah 0)), (2, .ref (ah 1)), (3, .ref (ah 2)), (4, .int v4), (6, .int v6), (7, .int v7), (11, .int v11), (12, .int v12)]) hx hb dL_isSolved_319 hl (by decide) rfl (fun ls hl => ?_)
        obtain rfl := Option.some.inj h
        refine W.widen (k := cells + 0) (n := slots + 0) (by omega) (by omega) ?_
        exact kk _ (lv_sub hl [2, 3, 4, 5, 6, 7, 8, 0, 1, 9, 10] rfl)
  have R143 : ∀ (v4 : Int32) (v5 : Int32) (v6 : Int32) (v7 : Int32) (M N : Mem) (r' : Int32 × Mem × Mem) (H : Heap) (locs : List Loc) (ls : Array Slot) (cells slots : Nat), fL_isSolved_R143 v4 v5 v6 v7 M N = some r' → va_P D vwCl (wX cA ad M) H → va_P D vwCl (wH cA ah N) H → va_S A s.heap H locs → cells + 3 ≤ 106 → slots + 18 ≤ 1208 → lv_has ls 13 [(0, .ref (ad 8)), (1, .ref (ah 0)), (2, .ref (ah 1)), (3, .ref (ah 2)), (4, .int v4), (5, .int v5), (6, .int v6), (7, .int v7)] → (∀ (H : Heap) (locs : List Loc), va_P D vwCl (wX cA ad (r'.2.1)) H → va_P D vwCl (wH cA ah (r'.2.2)) H → va_S A s.heap H locs → ∀ (ls : Array Slot), lv_has ls 13 [(0, .ref (ad 8)), (1, .ref (ah 0)), (2, .ref (ah 1)), (3, .ref (ah 2)), (4, .int v4), (6, .int v6), (7, .int v7), (8, .int (r'.1))] → W p l e rmL_isSolved s m args below meth c H locs (cells + 3) (slots + 18) Q (F0 m 174 ls [])) → W p l e rmL_isSolved s m args below meth c H locs cells slots Q (F0 m 143 ls []) := by
    intro v4 v5 v6 v7 M N r' H locs ls cells slots h hP hQ hS hc hs hl kk
    unfold fL_isSolved_R143 at h
    refine lv_aload_n hx hb dL_isSolved_143 rfl (lv_at hl 0 rfl) ?_
    refine lv_iconst (v := 4) hx hb dL_isSolved_144 (by decide) ?_
    refine lv_iconst (v := 0) hx hb dL_isSolved_145 (by decide) ?_
    refine lv_iconst (v := 0) hx hb dL_isSolved_146 (by decide) ?_
    obtain ⟨q29, hqq29, h⟩ := obind_some h
    obtain ⟨g28, h⟩ := gd_some h
    refine cDY S5 hK hP hQ hD hS hT (fun _ h => hA _ _ hS.1 h) (As := [.ref (ad 8), .int 4, .int 0, .int 0]) (kL_does_4 l D cA ad sa hst 0 0 _ _ hqq29 g28) (vx_cwSW 4 hts gL_isSolved_L_does rfl rfl rfl (by decide +kernel) ⟨(Nat.le_of_ble_eq_true rfl), (Nat.le_of_ble_eq_true rfl)⟩) rfl hl.1 (st0 := _) (rest := []) rfl (Nat.le_of_ble_eq_true rfl) dL_isSolved_147 ⟨(by show _ ≤ 106; omega), (by show _ ≤ 1208; omega)⟩ (fun H locs hP hQ hS => ?_)
    refine lv_iload hx hb dL_isSolved_150 (lv_at hl 5 rfl) ?_
    refine lv_icmp_ne (tgt := 171) hx hb dL_isSolved_152 (by decide) (fun c30 => ?_) (fun c30 => ?_)
    · rw [if_neg c30] at h
      refine lv_iconst (v := 0) hx hb dL_isSolved_171 (by decide) ?_
      refine lv_istore (lv' := [(8, .int 0), (0, .ref (ad 8)), (1, .ref (ah 0)), (2, .ref (ah 1)), (3, .ref (ah 2)), (4, .int v4), (5, .int v5), (6, .int v6), (7, .int v7)]) hx hb dL_isSolved_172 hl (by decide) rfl (fun ls hl => ?_)
      obtain rfl := Option.some.inj h
      refine W.widen (k := cells + 3) (n := slots + 18) (by omega) (by omega) ?_
      exact kk _ _ hP hQ hS _ (lv_sub hl [1, 2, 3, 4, 5, 7, 8, 0] rfl)
    · rw [if_pos c30] at h
      refine lv_aload_n hx hb dL_isSolved_155 rfl (lv_at hl 0 rfl) ?_
      refine lv_iconst (v := 5) hx hb dL_isSolved_156 (by decide) ?_
      refine lv_iconst (v := 0) hx hb dL_isSolved_157 (by decide) ?_
      refine lv_iconst (v := 0) hx hb dL_isSolved_158 (by decide) ?_
      obtain ⟨q32, hqq32, h⟩ := obind_some h
      obtain ⟨g31, h⟩ := gd_some h
      refine cDY S5 hK hP hQ hD hS hT (fun _ h => hA _ _ hS.1 h) (As := [.ref (ad 8), .int 5, .int 0, .int 0]) (kL_does_5 l D cA ad sa hst 0 0 _ _ hqq32 g31) (vx_cwSW 4 hts gL_isSolved_L_does rfl rfl rfl (by decide +kernel) ⟨(Nat.le_of_ble_eq_true rfl), (Nat.le_of_ble_eq_true rfl)⟩) rfl hl.1 (st0 := _) (rest := []) rfl (Nat.le_of_ble_eq_true rfl) dL_isSolved_159 ⟨(by show _ ≤ 106; omega), (by show _ ≤ 1208; omega)⟩ (fun H locs hP hQ hS => ?_)
      refine lv_iload hx hb dL_isSolved_162 (lv_at hl 5 rfl) ?_
      refine lv_icmp_ne (tgt := 171) hx hb dL_isSolved_164 (by decide) (fun c33 => ?_) (fun c33 => ?_)
      · rw [if_neg c33] at h
        refine lv_iconst (v := 0) hx hb dL_isSolved_171 (by decide) ?_
        refine lv_istore (lv' := [(8, .int 0), (0, .ref (ad 8)), (1, .ref (ah 0)), (2, .ref (ah 1)), (3, .ref (ah 2)), (4, .int v4), (5, .int v5), (6, .int v6), (7, .int v7)]) hx hb dL_isSolved_172 hl (by decide) rfl (fun ls hl => ?_)
        obtain rfl := Option.some.inj h
        refine W.widen (k := cells + 3) (n := slots + 18) (by omega) (by omega) ?_
        exact kk _ _ hP hQ hS _ (lv_sub hl [1, 2, 3, 4, 5, 7, 8, 0] rfl)
      · rw [if_pos c33] at h
        refine lv_iconst (v := 1) hx hb dL_isSolved_167 (by decide) ?_
        refine lv_goto (tgt := 172) hx hb dL_isSolved_168 (by decide) ?_
        refine lv_istore (lv' := [(8, .int 1), (0, .ref (ad 8)), (1, .ref (ah 0)), (2, .ref (ah 1)), (3, .ref (ah 2)), (4, .int v4), (5, .int v5), (6, .int v6), (7, .int v7)]) hx hb dL_isSolved_172 hl (by decide) rfl (fun ls hl => ?_)
        obtain rfl := Option.some.inj h
        refine W.widen (k := cells + 3) (n := slots + 18) (by omega) (by omega) ?_
        exact kk _ _ hP hQ hS _ (lv_sub hl [1, 2, 3, 4, 5, 7, 8, 0] rfl)
  have R214 : ∀ (v4 : Int32) (v6 : Int32) (v7 : Int32) (v9 : Int32) (v10 : Int32) (v11 : Int32) (M N : Mem) (r' : Int32 × Mem × Mem) (H : Heap) (locs : List Loc) (ls : Array Slot) (cells slots : Nat), fL_isSolved_R214 v4 v6 v7 v9 v10 v11 M N = some r' → va_P D vwCl (wX cA ad M) H → va_P D vwCl (wH cA ah N) H → va_S A s.heap H locs → cells + 2 ≤ 106 → slots + 34 ≤ 1208 → lv_has ls 13 [(0, .ref (ad 8)), (1, .ref (ah 0)), (2, .ref (ah 1)), (3, .ref (ah 2)), (4, .int v4), (6, .int v6), (7, .int v7), (9, .int v9), (10, .int v10), (11, .int v11)] → (∀ (H : Heap) (locs : List Loc), va_P D vwCl (wX cA ad (r'.2.1)) H → va_P D vwCl (wH cA ah (r'.2.2)) H → va_S A s.heap H locs → ∀ (ls : Array Slot), lv_has ls 13 [(0, .ref (ad 8)), (1, .ref (ah 0)), (2, .ref (ah 1)), (3, .ref (ah 2)), (4, .int v4), (6, .int v6), (7, .int v7), (9, .int v9), (10, .int v10), (11, .int v11), (12, .int (r'.1))] → W p l e rmL_isSolved s m args below meth c H locs (cells + 2) (slots + 34) Q (F0 m 289 ls [])) → W p l e rmL_isSolved s m args below meth c H locs cells slots Q (F0 m 214 ls []) := by
    intro v4 v6 v7 v9 v10 v11 M N r' H locs ls cells slots h hP hQ hS hc hs hl kk
    unfold fL_isSolved_R214 at h
    refine lv_aload_n hx hb dL_isSolved_214 rfl (lv_at hl 1 rfl) ?_
    refine lv_iload hx hb dL_isSolved_215 (lv_at hl 6 rfl) ?_
    refine lv_dup2_11 hx hb dL_isSolved_217 rfl rfl ?_
    obtain ⟨g45, h⟩ := gd_some h
    refine alH0 S5 hK hQ (v := N 0 v7.toNatClampNeg) g45 rfl dL_isSolved_218 ?_
    refine lv_iconst (v := 1) hx hb dL_isSolved_219 (by decide) ?_
    refine lv_iload hx hb dL_isSolved_220 (lv_at hl 9 rfl) ?_
    refine r_ishl S5 dL_isSolved_222 ?_
    refine lv_iconst (v := (-1)) hx hb dL_isSolved_223 (by decide) ?_
    refine lv_ixor hx hb dL_isSolved_224 ?_
    refine lv_iand hx hb dL_isSolved_225 ?_
    obtain ⟨g46, h⟩ := gd_some h
    refine asY0 S5 hK hP hQ hD hS g46 (k := v7.toNatClampNeg) rfl dL_isSolved_226 (fun H locs hP hQ hS => ?_)
    refine lv_aload_n hx hb dL_isSolved_227 rfl (lv_at hl 2 rfl) ?_
    refine lv_aload_n hx hb dL_isSolved_228 rfl (lv_at hl 3 rfl) ?_
    refine lv_iconst (v := 0) hx hb dL_isSolved_229 (by decide) ?_
    refine alH2 S5 hK hQ (v := N 2 0) (by decide) rfl dL_isSolved_230 ?_
    refine lv_iload hx hb dL_isSolved_231 (lv_at hl 9 rfl) ?_
    obtain ⟨g47, h⟩ := gd_some h
    refine asY1 S5 hK hP hQ hD hS g47 (k := (N 2 0).toNatClampNeg) rfl dL_isSolved_233 (fun H locs hP hQ hS => ?_)
    refine lv_aload_n hx hb dL_isSolved_234 rfl (lv_at hl 3 rfl) ?_
    refine lv_iconst (v := 0) hx hb dL_isSolved_235 (by decide) ?_
    refine lv_dup2_11 hx hb dL_isSolved_236 rfl rfl ?_
    refine alH2 S5 hK hQ (v := N 2 0) (by decide) rfl dL_isSolved_237 ?_
    refine lv_iconst (v := 1) hx hb dL_isSolved_238 (by decide) ?_
    refine lv_iadd hx hb dL_isSolved_239 ?_
    refine asY2 S5 hK hP hQ hD hS (by decide) (k := 0) rfl dL_isSolved_240 (fun H locs hP hQ hS => ?_)
    refine lv_aload_n hx hb dL_isSolved_241 rfl (lv_at hl 1 rfl) ?_
    refine lv_aload_n hx hb dL_isSolved_242 rfl (lv_at hl 2 rfl) ?_
    refine lv_aload_n hx hb dL_isSolved_243 rfl (lv_at hl 3 rfl) ?_
    obtain ⟨q48, hqq48, h⟩ := obind_some h
    refine cWHY S5 hK hP hQ hD hS (fun _ h => hAh _ _ hS.1 h) (As := [.ref (ah 0), .ref (ah 1), .ref (ah 2)]) (kL_best l D cA ah _ _ hqq48) (va_cwS 3 hts gL_isSolved_L_best rfl rfl rfl (by decide +kernel) ⟨(Nat.le_of_ble_eq_true rfl), (Nat.le_of_ble_eq_true rfl)⟩) rfl hl.1 (st0 := _) (rest := []) rfl (Nat.le_of_ble_eq_true rfl) dL_isSolved_244 ⟨(by show _ ≤ 106; omega), (by show _ ≤ 1208; omega)⟩ (fun H locs hP hQ hS => ?_)
    refine lv_iload hx hb dL_isSolved_247 (lv_at hl 4 rfl) ?_
    refine lv_isub hx hb dL_isSolved_249 ?_
    refine lv_istore (lv' := [(12, .int (q48.1 - v4)), (0, .ref (ad 8)), (1, .ref (ah 0)), (2, .ref (ah 1)), (3, .ref (ah 2)), (4, .int v4), (6, .int v6), (7, .int v7), (9, .int v9), (10, .int v10), (11, .int v11)]) hx hb dL_isSolved_250 hl (by decide) rfl (fun ls hl => ?_)
    refine lv_aload_n hx hb dL_isSolved_252 rfl (lv_at hl 4 rfl) ?_
    refine lv_iconst (v := 0) hx hb dL_isSolved_253 (by decide) ?_
    refine lv_dup2_11 hx hb dL_isSolved_254 rfl rfl ?_
    refine alH2 S5 hK hQ (v := q48.2 2 0) (by decide) rfl dL_isSolved_255 ?_
    refine lv_iconst (v := 1) hx hb dL_isSolved_256 (by decide) ?_
    refine lv_isub hx hb dL_isSolved_257 ?_
    refine asY2 S5 hK hP hQ hD hS (by decide) (k := 0) rfl dL_isSolved_258 (fun H locs hP hQ hS => ?_)
    refine lv_aload_n hx hb dL_isSolved_259 rfl (lv_at hl 2 rfl) ?_
    refine lv_iload hx hb dL_isSolved_260 (lv_at hl 7 rfl) ?_
    refine lv_dup2_11 hx hb dL_isSolved_262 rfl rfl ?_
    obtain ⟨g49, h⟩ := gd_some h
    refine alH0 S5 hK hQ (v := q48.2 0 v7.toNatClampNeg) g49 rfl dL_isSolved_263 ?_
    refine lv_iconst (v := 1) hx hb dL_isSolved_264 (by decide) ?_
    refine lv_iload hx hb dL_isSolved_265 (lv_at hl 10 rfl) ?_
    refine r_ishl S5 dL_isSolved_267 ?_
    refine lv_ior hx hb dL_isSolved_268 ?_
    obtain ⟨g50, h⟩ := gd_some h
    refine asY0 S5 hK hP hQ hD hS g50 (k := v7.toNatClampNeg) rfl dL_isSolved_269 (fun H locs hP hQ hS => ?_)
    refine lv_iload hx hb dL_isSolved_270 (lv_at hl 7 rfl) ?_
    refine lv_iconst (v := 2) hx hb dL_isSolved_272 (by decide) ?_
    refine r_irem S5 dL_isSolved_273 (by decide) ?_
    refine lv_if_ne (tgt := 282) hx hb dL_isSolved_274 (by decide) (fun c51 => ?_) (fun c51 => ?_)
    · rw [if_neg c51] at h
      refine lv_iload hx hb dL_isSolved_282 (lv_at hl 6 rfl) ?_
      refine lv_iload hx hb dL_isSolved_284 (lv_at hl 0 rfl) ?_
      refine lv_isub hx hb dL_isSolved_286 ?_
      refine lv_istore (lv' := [(12, .int (v6 - (q48.1 - v4))), (0, .ref (ad 8)), (1, .ref (ah 0)), (2, .ref (ah 1)), (3, .ref (ah 2)), (4, .int v4), (6, .int v6), (7, .int v7), (9, .int v9), (10, .int v10), (11, .int v11)]) hx hb dL_isSolved_287 hl (by decide) rfl (fun ls hl => ?_)
      obtain rfl := Option.some.inj h
      refine W.widen (k := cells + 2) (n := slots + 34) (by omega) (by omega) ?_
      exact kk _ _ hP hQ hS _ (lv_sub hl [1, 2, 3, 4, 5, 6, 7, 8, 9, 10, 0] rfl)
    · rw [if_pos c51] at h
      refine lv_iload hx hb dL_isSolved_277 (lv_at hl 0 rfl) ?_
      refine lv_goto (tgt := 287) hx hb dL_isSolved_279 (by decide) ?_
      refine lv_istore (lv' := [(12, .int (q48.1 - v4)), (0, .ref (ad 8)), (1, .ref (ah 0)), (2, .ref (ah 1)), (3, .ref (ah 2)), (4, .int v4), (6, .int v6), (7, .int v7), (9, .int v9), (10, .int v10), (11, .int v11)]) hx hb dL_isSolved_287 hl (by decide) rfl (fun ls hl => ?_)
      obtain rfl := Option.some.inj h
      refine W.widen (k := cells + 2) (n := slots + 34) (by omega) (by omega) ?_
      exact kk _ _ hP hQ hS _ (lv_sub hl [1, 2, 3, 4, 5, 6, 7, 8, 9, 10, 0] rfl)
  have R62 : ∀ (M N : Mem) (r' : Int32 × Int32 × Int32 × Int32 × Mem × Mem) (H : Heap) (locs : List Loc) (ls : Array Slot) (cells slots : Nat), fL_isSolved_R62 M N = some r' → va_P D vwCl (wX cA ad M) H → va_P D vwCl (wH cA ah N) H → va_S A s.heap H locs → cells + 2 ≤ 106 → slots + 34 ≤ 1208 → lv_has ls 13 [(0, .ref (ad 8)), (1, .ref (ah 0)), (2, .ref (ah 1)), (3, .ref (ah 2))] → (∀ (H : Heap) (locs : List Loc), va_P D vwCl (wX cA ad (r'.2.2.2.2.1)) H → va_P D vwCl (wH cA ah (r'.2.2.2.2.2)) H → va_S A s.heap H locs → ∀ (ls : Array Slot), lv_has ls 13 [(0, .ref (ad 8)), (1, .ref (ah 0)), (2, .ref (ah 1)), (3, .ref (ah 2)), (4, .int (r'.1)), (5, .int (r'.2.1)), (6, .int (r'.2.2.1)), (7, .int (r'.2.2.2.1))] → W p l e rmL_isSolved s m args below meth c H locs (cells + 2) (slots + 34) Q (F0 m 143 ls [])) → W p l e rmL_isSolved s m args below meth c H locs cells slots Q (F0 m 62 ls []) := by
    intro M N r' H locs ls cells slots h hP hQ hS hc hs hl kk
    unfold fL_isSolved_R62 at h
    refine lv_aload_n hx hb dL_isSolved_62 rfl (lv_at hl 2 rfl) ?_
    refine lv_aload_n hx hb dL_isSolved_63 rfl (lv_at hl 3 rfl) ?_
    refine lv_aload_n hx hb dL_isSolved_64 rfl (lv_at hl 3 rfl) ?_
    refine lv_iconst (v := 0) hx hb dL_isSolved_65 (by decide) ?_
    refine alH2 S5 hK hQ (v := N 2 0) (by decide) rfl dL_isSolved_66 ?_
    refine lv_iconst (v := 0) hx hb dL_isSolved_67 (by decide) ?_
    obtain ⟨q21, hqq21, h⟩ := obind_some h
    refine cSRH S5 hK hQ (As := [.ref (ah 1), .ref (ah 2), .int (N 2 0), .int 0]) (kL_tricks l D cA ah _ _ _ _ hqq21) (va_cwS 4 hts gL_isSolved_L_tricks rfl rfl rfl (by decide +kernel) ⟨(Nat.le_of_ble_eq_true rfl), (Nat.le_of_ble_eq_true rfl)⟩) rfl hl.1 (st0 := _) (rest := []) rfl (Nat.le_of_ble_eq_true rfl) dL_isSolved_68 ⟨(by show _ ≤ 106; omega), (by show _ ≤ 1208; omega)⟩ ?_
    refine lv_istore (lv' := [(4, .int q21), (0, .ref (ad 8)), (1, .ref (ah 0)), (2, .ref (ah 1)), (3, .ref (ah 2))]) hx hb dL_isSolved_71 hl (by decide) rfl (fun ls hl => ?_)
    refine lv_aload_n hx hb dL_isSolved_73 rfl (lv_at hl 2 rfl) ?_
    refine lv_aload_n hx hb dL_isSolved_74 rfl (lv_at hl 3 rfl) ?_
    refine lv_aload_n hx hb dL_isSolved_75 rfl (lv_at hl 4 rfl) ?_
    obtain ⟨q22, hqq22, h⟩ := obind_some h
    refine cWHY S5 hK hP hQ hD hS (fun _ h => hAh _ _ hS.1 h) (As := [.ref (ah 0), .ref (ah 1), .ref (ah 2)]) (kL_best l D cA ah _ _ hqq22) (va_cwS 3 hts gL_isSolved_L_best rfl rfl rfl (by decide +kernel) ⟨(Nat.le_of_ble_eq_true rfl), (Nat.le_of_ble_eq_true rfl)⟩) rfl hl.1 (st0 := _) (rest := []) rfl (Nat.le_of_ble_eq_true rfl) dL_isSolved_76 ⟨(by show _ ≤ 106; omega), (by show _ ≤ 1208; omega)⟩ (fun H locs hP hQ hS => ?_)
    refine lv_iload hx hb dL_isSolved_79 (lv_at hl 0 rfl) ?_
    refine lv_isub hx hb dL_isSolved_81 ?_
    refine lv_istore (lv' := [(5, .int (q22.1 - q21)), (4, .int q21), (0, .ref (ad 8)), (1, .ref (ah 0)), (2, .ref (ah 1)), (3, .ref (ah 2))]) hx hb dL_isSolved_82 hl (by decide) rfl (fun ls hl => ?_)
    refine lv_aload_n hx hb dL_isSolved_84 rfl (lv_at hl 5 rfl) ?_
    refine lv_iconst (v := 0) hx hb dL_isSolved_85 (by decide) ?_
    refine alH2 S5 hK hQ (v := q22.2 2 0) (by decide) rfl dL_isSolved_86 ?_
    refine lv_aload_n hx hb dL_isSolved_87 rfl (lv_at hl 3 rfl) ?_
    refine lv_iconst (v := 0) hx hb dL_isSolved_88 (by decide) ?_
    refine alH0 S5 hK hQ (v := q22.2 0 0) (by decide) rfl dL_isSolved_89 ?_
    obtain ⟨q23, hqq23, h⟩ := obind_some h
    refine cS S5 (As := [.int (q22.2 0 0)]) (kL_size l _ _ hqq23) (va_cwS 1 hts gL_isSolved_L_size rfl rfl rfl (by decide +kernel) ⟨(Nat.le_of_ble_eq_true rfl), (Nat.le_of_ble_eq_true rfl)⟩) rfl hl.1 (st0 := _) (rest := [.int (q22.2 2 0)]) rfl (Nat.le_of_ble_eq_true rfl) dL_isSolved_90 ⟨(by show _ ≤ 106; omega), (by show _ ≤ 1208; omega)⟩ ?_
    refine lv_iadd hx hb dL_isSolved_93 ?_
    refine lv_aload_n hx hb dL_isSolved_94 rfl (lv_at hl 3 rfl) ?_
    refine lv_iconst (v := 1) hx hb dL_isSolved_95 (by decide) ?_
    refine alH0 S5 hK hQ (v := q22.2 0 1) (by decide) rfl dL_isSolved_96 ?_
    obtain ⟨q24, hqq24, h⟩ := obind_some h
    refine cS S5 (As := [.int (q22.2 0 1)]) (kL_size l _ _ hqq24) (va_cwS 1 hts gL_isSolved_L_size rfl rfl rfl (by decide +kernel) ⟨(Nat.le_of_ble_eq_true rfl), (Nat.le_of_ble_eq_true rfl)⟩) rfl hl.1 (st0 := _) (rest := [.int ((q22.2 2 0) + q23)]) rfl (Nat.le_of_ble_eq_true rfl) dL_isSolved_97 ⟨(by show _ ≤ 106; omega), (by show _ ≤ 1208; omega)⟩ ?_
    refine lv_iadd hx hb dL_isSolved_100 ?_
    refine lv_aload_n hx hb dL_isSolved_101 rfl (lv_at hl 3 rfl) ?_
    refine lv_iconst (v := 2) hx hb dL_isSolved_102 (by decide) ?_
    refine alH0 S5 hK hQ (v := q22.2 0 2) (by decide) rfl dL_isSolved_103 ?_
    obtain ⟨q25, hqq25, h⟩ := obind_some h
    refine cS S5 (As := [.int (q22.2 0 2)]) (kL_size l _ _ hqq25) (va_cwS 1 hts gL_isSolved_L_size rfl rfl rfl (by decide +kernel) ⟨(Nat.le_of_ble_eq_true rfl), (Nat.le_of_ble_eq_true rfl)⟩) rfl hl.1 (st0 := _) (rest := [.int (((q22.2 2 0) + q23) + q24)]) rfl (Nat.le_of_ble_eq_true rfl) dL_isSolved_104 ⟨(by show _ ≤ 106; omega), (by show _ ≤ 1208; omega)⟩ ?_
    refine lv_iadd hx hb dL_isSolved_107 ?_
    refine lv_aload_n hx hb dL_isSolved_108 rfl (lv_at hl 3 rfl) ?_
    refine lv_iconst (v := 3) hx hb dL_isSolved_109 (by decide) ?_
    refine alH0 S5 hK hQ (v := q22.2 0 3) (by decide) rfl dL_isSolved_110 ?_
    obtain ⟨q26, hqq26, h⟩ := obind_some h
    refine cS S5 (As := [.int (q22.2 0 3)]) (kL_size l _ _ hqq26) (va_cwS 1 hts gL_isSolved_L_size rfl rfl rfl (by decide +kernel) ⟨(Nat.le_of_ble_eq_true rfl), (Nat.le_of_ble_eq_true rfl)⟩) rfl hl.1 (st0 := _) (rest := [.int ((((q22.2 2 0) + q23) + q24) + q25)]) rfl (Nat.le_of_ble_eq_true rfl) dL_isSolved_111 ⟨(by show _ ≤ 106; omega), (by show _ ≤ 1208; omega)⟩ ?_
    refine lv_iadd hx hb dL_isSolved_114 ?_
    refine lv_iconst (v := 4) hx hb dL_isSolved_115 (by decide) ?_
    refine r_idiv S5 dL_isSolved_116 (by decide) ?_
    refine lv_aload_n hx hb dL_isSolved_117 rfl (lv_at hl 5 rfl) ?_
    refine lv_iconst (v := 0) hx hb dL_isSolved_118 (by decide) ?_
    refine alH2 S5 hK hQ (v := q22.2 2 0) (by decide) rfl dL_isSolved_119 ?_
    refine lv_iconst (v := 4) hx hb dL_isSolved_120 (by decide) ?_
    refine r_idiv S5 dL_isSolved_121 (by decide) ?_
    refine lv_isub hx hb dL_isSolved_122 ?_
    refine lv_istore (lv' := [(6, .int (((((((q22.2 2 0) + q23) + q24) + q25) + q26) / 4) - ((q22.2 2 0) / 4))), (5, .int (q22.1 - q21)), (4, .int q21), (0, .ref (ad 8)), (1, .ref (ah 0)), (2, .ref (ah 1)), (3, .ref (ah 2))]) hx hb dL_isSolved_123 hl (by decide) rfl (fun ls hl => ?_)
    refine lv_aload_n hx hb dL_isSolved_125 rfl (lv_at hl 5 rfl) ?_
    refine lv_aload_n hx hb dL_isSolved_126 rfl (lv_at hl 6 rfl) ?_
    refine lv_aload_n hx hb dL_isSolved_127 rfl (lv_at hl 6 rfl) ?_
    refine lv_iconst (v := 0) hx hb dL_isSolved_128 (by decide) ?_
    refine alH2 S5 hK hQ (v := q22.2 2 0) (by decide) rfl dL_isSolved_129 ?_
    obtain ⟨q27, hqq27, h⟩ := obind_some h
    refine cSRH S5 hK hQ (As := [.ref (ah 1), .ref (ah 2), .int (q22.2 2 0)]) (kL_leader l D cA ah _ _ _ hqq27) (va_cwS 3 hts gL_isSolved_L_leader rfl rfl rfl (by decide +kernel) ⟨(Nat.le_of_ble_eq_true rfl), (Nat.le_of_ble_eq_true rfl)⟩) rfl hl.1 (st0 := _) (rest := []) rfl (Nat.le_of_ble_eq_true rfl) dL_isSolved_130 ⟨(by show _ ≤ 106; omega), (by show _ ≤ 1208; omega)⟩ ?_
    refine lv_aload_n hx hb dL_isSolved_133 rfl (lv_at hl 6 rfl) ?_
    refine lv_iconst (v := 0) hx hb dL_isSolved_134 (by decide) ?_
    refine alH2 S5 hK hQ (v := q22.2 2 0) (by decide) rfl dL_isSolved_135 ?_
    refine lv_iconst (v := 4) hx hb dL_isSolved_136 (by decide) ?_
    refine r_irem S5 dL_isSolved_137 (by decide) ?_
    refine lv_iadd hx hb dL_isSolved_138 ?_
    refine lv_iconst (v := 4) hx hb dL_isSolved_139 (by decide) ?_
    refine r_irem S5 dL_isSolved_140 (by decide) ?_
    refine lv_istore (lv' := [(7, .int (im (q27 + (im (q22.2 2 0) 4)) 4)), (6, .int (((((((q22.2 2 0) + q23) + q24) + q25) + q26) / 4) - ((q22.2 2 0) / 4))), (5, .int (q22.1 - q21)), (4, .int q21), (0, .ref (ad 8)), (1, .ref (ah 0)), (2, .ref (ah 1)), (3, .ref (ah 2))]) hx hb dL_isSolved_141 hl (by decide) rfl (fun ls hl => ?_)
    obtain rfl := Option.some.inj h
    refine W.widen (k := cells + 2) (n := slots + 34) (by omega) (by omega) ?_
    exact kk _ _ hP hQ hS _ (lv_sub hl [4, 5, 6, 7, 3, 2, 1, 0] rfl)
  have L184 : ∀ (n : Nat) (v4 : Int32) (v6 : Int32) (v7 : Int32) (v8 : Int32) (v9 : Int32) (v10 : Int32) (v11 : Int32) (M N : Mem) (r' : Int32 × Int32 × Mem × Mem) (H : Heap) (locs : List Loc) (ls : Array Slot) (cells slots : Nat), fL_isSolved_L184 n v4 v6 v7 v8 v9 v10 v11 M N = some r' → va_P D vwCl (wX cA ad M) H → va_P D vwCl (wH cA ah N) H → va_S A s.heap H locs → cells + n * 4 ≤ 106 → slots + n * 46 ≤ 1208 → lv_has ls 13 [(0, .ref (ad 8)), (1, .ref (ah 0)), (2, .ref (ah 1)), (3, .ref (ah 2)), (4, .int v4), (6, .int v6), (7, .int v7), (8, .int v8), (9, .int v9), (10, .int v10), (11, .int v11)] → (∀ (H : Heap) (locs : List Loc), va_P D vwCl (wX cA ad (r'.2.2.1)) H → va_P D vwCl (wH cA ah (r'.2.2.2)) H → va_S A s.heap H locs → ∀ (ls : Array Slot), lv_has ls 13 [(0, .ref (ad 8)), (8, .int (r'.1)), (10, .int (r'.2.1))] → W p l e rmL_isSolved s m args below meth c H locs (cells + n * 4) (slots + n * 46) Q (F0 m 348 ls [])) → W p l e rmL_isSolved s m args below meth c H locs cells slots Q (F0 m 184 ls []) := by
    intro n
    induction n with
    | zero => intro v4 v6 v7 v8 v9 v10 v11 M N r' H locs ls cells slots h hP hQ hS hc hs hl kk; rw [fL_isSolved_L184.eq_1] at h; cases h
    | succ n ih =>
      intro v4 v6 v7 v8 v9 v10 v11 M N r' H locs ls cells slots h hP hQ hS hc hs hl kk
      rw [fL_isSolved_L184.eq_2] at h
      refine lv_iload hx hb dL_isSolved_184 (lv_at hl 10 rfl) ?_
      refine lv_bipush (v := 24) hx hb dL_isSolved_186 (by decide) ?_
      refine lv_icmp_ge (tgt := 348) hx hb dL_isSolved_188 (by decide) (fun c34 => ?_) (fun c34 => ?_)
      · rw [if_pos c34] at h
        obtain rfl := Option.some.inj h
        refine W.widen (k := cells + (n + 1) * 4) (n := slots + (n + 1) * 46) (by omega) (by omega) ?_
        exact kk _ _ hP hQ hS _ (lv_sub hl [0, 7, 9] rfl)
      · rw [if_neg c34] at h
        refine lv_iload hx hb dL_isSolved_191 (lv_at hl 7 rfl) ?_
        refine lv_if_eq (tgt := 348) hx hb dL_isSolved_193 (by decide) (fun c35 => ?_) (fun c35 => ?_)
        · rw [if_pos c35] at h
          obtain rfl := Option.some.inj h
          refine W.widen (k := cells + (n + 1) * 4) (n := slots + (n + 1) * 46) (by omega) (by omega) ?_
          exact kk _ _ hP hQ hS _ (lv_sub hl [0, 7, 9] rfl)
        · rw [if_neg c35] at h
          refine lv_bipush (v := (-13)) hx hb dL_isSolved_196 (by decide) ?_
          refine lv_istore (lv' := [(12, .int ((-13))), (0, .ref (ad 8)), (1, .ref (ah 0)), (2, .ref (ah 1)), (3, .ref (ah 2)), (4, .int v4), (6, .int v6), (7, .int v7), (8, .int v8), (9, .int v9), (10, .int v10), (11, .int v11)]) hx hb dL_isSolved_198 hl (by decide) rfl (fun ls hl => ?_)
          refine lv_aload_n hx hb dL_isSolved_200 rfl (lv_at hl 2 rfl) ?_
          refine lv_aload_n hx hb dL_isSolved_201 rfl (lv_at hl 3 rfl) ?_
          refine lv_aload_n hx hb dL_isSolved_202 rfl (lv_at hl 4 rfl) ?_
          refine lv_aload_n hx hb dL_isSolved_203 rfl (lv_at hl 4 rfl) ?_
          refine lv_iconst (v := 0) hx hb dL_isSolved_204 (by decide) ?_
          refine alH2 S5 hK hQ (v := N 2 0) (by decide) rfl dL_isSolved_205 ?_
          refine lv_iload hx hb dL_isSolved_206 (lv_at hl 11 rfl) ?_
          obtain ⟨q36, hqq36, h⟩ := obind_some h
          refine cSRH S5 hK hQ (As := [.ref (ah 0), .ref (ah 1), .ref (ah 2), .int (N 2 0), .int v11]) (kL_can l D cA ah _ _ _ _ hqq36) (va_cwS 5 hts gL_isSolved_L_can rfl rfl rfl (by decide +kernel) ⟨(Nat.le_of_ble_eq_true rfl), (Nat.le_of_ble_eq_true rfl)⟩) rfl hl.1 (st0 := _) (rest := []) rfl (Nat.le_of_ble_eq_true rfl) dL_isSolved_208 ⟨(by show _ ≤ 106; omega), (by show _ ≤ 1208; omega)⟩ ?_
          refine lv_if_eq (tgt := 321) hx hb dL_isSolved_211 (by decide) (fun c37 => ?_) (fun c37 => ?_)
          · rw [if_pos c37] at h
            obtain ⟨q38, hqq38, h⟩ := obind_some h
            refine R321 _ _ _ _ _ _ _ _ _ _ _ _ _ _ _ hqq38 hP hQ hS (by omega) (by omega) (lv_sub hl [1, 2, 3, 4, 5, 6, 7, 9, 10, 11, 0] rfl) (fun H locs hP hQ hS ls hl => ?_)
            have hl := lv_sub (l' := [(0, .ref (ad 8)), (1, .ref (ah 0)), (2, .ref (ah 1)), (3, .ref (ah 2)), (4, .int v4), (6, .int v6), (7, .int v7), (8, .int q38.1), (9, .int v9), (10, .int v10), (11, .int v11)]) hl [0, 1, 2, 3, 4, 5, 6, 7, 8, 9, 10] rfl
            refine lv_iinc (v := v11 + 1) (lv' := [(11, .int (v11 + 1)), (0, .ref (ad 8)), (1, .ref (ah 0)), (2, .ref (ah 1)), (3, .ref (ah 2)), (4, .int v4), (6, .int v6), (7, .int v7), (8, .int q38.1), (9, .int v9), (10, .int v10)]) hx hb dL_isSolved_342 hl (k := 10) rfl rfl (by decide) rfl (fun ls hl => ?_)
            refine lv_goto (tgt := 184) hx hb dL_isSolved_345 (by decide) ?_
            refine W.widen (k := cells + 4) (n := slots + 46) (by omega) (by omega) ?_
            exact ih _ _ _ _ _ _ _ _ _ _ _ _ _ _ _ h hP hQ hS (by omega) (by omega) (lv_sub hl [1, 2, 3, 4, 5, 6, 7, 8, 9, 10, 0] rfl) (fun H locs hP hQ hS ls hl => W.widen (k := cells + (n + 1) * 4) (n := slots + (n + 1) * 46) (by omega) (by omega) (kk H locs hP hQ hS ls hl))
          · rw [if_neg c37] at h
            obtain ⟨q39, hqq39, h⟩ := obind_some h
            refine R214 _ _ _ _ _ _ _ _ _ _ _ _ _ _ hqq39 hP hQ hS (by omega) (by omega) (lv_sub hl [1, 2, 3, 4, 5, 6, 7, 9, 10, 11] rfl) (fun H locs hP hQ hS ls hl => ?_)
            have hl := lv_sub (l' := [(0, .ref (ad 8)), (1, .ref (ah 0)), (2, .ref (ah 1)), (3, .ref (ah 2)), (4, .int v4), (6, .int v6), (7, .int v7), (9, .int v9), (10, .int v10), (11, .int v11), (12, .int q39.1)]) hl [0, 1, 2, 3, 4, 5, 6, 7, 8, 9, 10] rfl
            obtain ⟨q40, hqq40, h⟩ := obind_some h
            refine R289 _ _ _ _ _ _ _ _ _ _ _ _ _ _ _ hqq40 hP hQ hS (by omega) (by omega) (lv_sub hl [0, 1, 2, 3, 4, 5, 6, 7, 8, 9, 10] rfl) (fun ls hl => ?_)
            have hl := lv_sub (l' := [(0, .ref (ad 8)), (1, .ref (ah 0)), (2, .ref (ah 1)), (3, .ref (ah 2)), (4, .int v4), (6, .int v6), (7, .int v7), (9, .int q40.1), (10, .int q40.2), (11, .int v11), (12, .int q39.1)]) hl [0, 1, 2, 3, 4, 5, 6, 7, 8, 9, 10] rfl
            obtain ⟨q41, hqq41, h⟩ := obind_some h
            refine R321 _ _ _ _ _ _ _ _ _ _ _ _ _ _ _ hqq41 hP hQ hS (by omega) (by omega) (lv_sub hl [0, 1, 2, 3, 4, 5, 6, 7, 8, 9, 10] rfl) (fun H locs hP hQ hS ls hl => ?_)
            have hl := lv_sub (l' := [(0, .ref (ad 8)), (1, .ref (ah 0)), (2, .ref (ah 1)), (3, .ref (ah 2)), (4, .int v4), (6, .int v6), (7, .int v7), (8, .int q41.1), (9, .int q40.1), (10, .int q40.2), (11, .int v11)]) hl [0, 1, 2, 3, 4, 5, 6, 7, 8, 9, 10] rfl
            refine lv_iinc (v := v11 + 1) (lv' := [(11, .int (v11 + 1)), (0, .ref (ad 8)), (1, .ref (ah 0)), (2, .ref (ah 1)), (3, .ref (ah 2)), (4, .int v4), (6, .int v6), (7, .int v7), (8, .int q41.1), (9, .int q40.1), (10, .int q40.2)]) hx hb dL_isSolved_342 hl (k := 10) rfl rfl (by decide) rfl (fun ls hl => ?_)
            refine lv_goto (tgt := 184) hx hb dL_isSolved_345 (by decide) ?_
            refine W.widen (k := cells + 4) (n := slots + 46) (by omega) (by omega) ?_
            exact ih _ _ _ _ _ _ _ _ _ _ _ _ _ _ _ h hP hQ hS (by omega) (by omega) (lv_sub hl [1, 2, 3, 4, 5, 6, 7, 8, 9, 10, 0] rfl) (fun H locs hP hQ hS ls hl => W.widen (k := cells + (n + 1) * 4) (n := slots + (n + 1) * 46) (by omega) (by omega) (kk H locs hP hQ hS ls hl))
  refine lv_aload_n hx hb dL_isSolved_0 rfl (lv_at hl 3 rfl) ?_
  refine lv_iconst (v := 3) hx hb dL_isSolved_1 (by decide) ?_
  refine alH2 S5 hK hQ (v := N 2 3) (by decide) rfl dL_isSolved_2 ?_
  refine lv_if_ne (tgt := 62) hx hb dL_isSolved_3 (by decide) (fun c1 => ?_) (fun c1 => ?_)
  · rw [if_neg c1] at h
    obtain ⟨q2, hqq2, h⟩ := obind_some h
    refine R62 _ _ _ _ _ _ _ _ hqq2 hP hQ hS (by omega) (by omega) (lv_sub hl [0, 1, 2, 3] rfl) (fun H locs hP hQ hS ls hl => ?_)
    have hl := lv_sub (l' := [(0, .ref (ad 8)), (1, .ref (ah 0)), (2, .ref (ah 1)), (3, .ref (ah 2)), (4, .int q2.1), (5, .int q2.2.1), (6, .int q2.2.2.1), (7, .int q2.2.2.2.1)]) hl [0, 1, 2, 3, 4, 5, 6, 7] rfl
    obtain ⟨q3, hqq3, h⟩ := obind_some h
    refine R143 _ _ _ _ _ _ _ _ _ _ _ _ hqq3 hP hQ hS (by omega) (by omega) (lv_sub hl [0, 1, 2, 3, 4, 5, 6, 7] rfl) (fun H locs hP hQ hS ls hl => ?_)
    have hl := lv_sub (l' := [(0, .ref (ad 8)), (1, .ref (ah 0)), (2, .ref (ah 1)), (3, .ref (ah 2)), (4, .int q2.1), (6, .int q2.2.2.1), (7, .int q2.2.2.2.1), (8, .int q3.1)]) hl [0, 1, 2, 3, 4, 5, 6, 7] rfl
    refine lv_iconst (v := (-1)) hx hb dL_isSolved_174 (by decide) ?_
    refine lv_istore (lv' := [(9, .int ((-1))), (0, .ref (ad 8)), (1, .ref (ah 0)), (2, .ref (ah 1)), (3, .ref (ah 2)), (4, .int q2.1), (6, .int q2.2.2.1), (7, .int q2.2.2.2.1), (8, .int q3.1)]) hx hb dL_isSolved_175 hl (by decide) rfl (fun ls hl => ?_)
    refine lv_bipush (v := (-13)) hx hb dL_isSolved_177 (by decide) ?_
    refine lv_istore (lv' := [(10, .int ((-13))), (9, .int ((-1))), (0, .ref (ad 8)), (1, .ref (ah 0)), (2, .ref (ah 1)), (3, .ref (ah 2)), (4, .int q2.1), (6, .int q2.2.2.1), (7, .int q2.2.2.2.1), (8, .int q3.1)]) hx hb dL_isSolved_179 hl (by decide) rfl (fun ls hl => ?_)
    refine lv_iconst (v := 0) hx hb dL_isSolved_181 (by decide) ?_
    refine lv_istore (lv' := [(11, .int 0), (10, .int ((-13))), (9, .int ((-1))), (0, .ref (ad 8)), (1, .ref (ah 0)), (2, .ref (ah 1)), (3, .ref (ah 2)), (4, .int q2.1), (6, .int q2.2.2.1), (7, .int q2.2.2.2.1), (8, .int q3.1)]) hx hb dL_isSolved_182 hl (by decide) rfl (fun ls hl => ?_)
    obtain ⟨q4, hqq4, h⟩ := obind_some h
    refine L184 _ _ _ _ _ _ _ _ _ _ _ _ _ _ _ _ hqq4 hP hQ hS (by omega) (by omega) (lv_sub hl [3, 4, 5, 6, 7, 8, 9, 10, 2, 1, 0] rfl) (fun H locs hP hQ hS ls hl => ?_)
    have hl := lv_sub (l' := [(0, .ref (ad 8)), (8, .int q4.1), (10, .int q4.2.1)]) hl [0, 1, 2] rfl
    refine lv_iload hx hb dL_isSolved_348 (lv_at hl 1 rfl) ?_
    refine lv_if_eq (tgt := 370) hx hb dL_isSolved_350 (by decide) (fun c5 => ?_) (fun c5 => ?_)
    · rw [if_pos c5] at h
      refine lv_iconst (v := 0) hx hb dL_isSolved_370 (by decide) ?_
      obtain rfl := Option.some.inj h
      refine W.widen (k := 106) (n := 1208) (by omega) (by omega) ?_
      exact kr _ _ _ _ _ rfl rfl hP hQ hS dL_isSolved_371
    · rw [if_neg c5] at h
      refine lv_aload_n hx hb dL_isSolved_353 rfl (lv_at hl 0 rfl) ?_
      refine lv_bipush (v := 7) hx hb dL_isSolved_354 (by decide) ?_
      refine lv_iconst (v := 0) hx hb dL_isSolved_356 (by decide) ?_
      refine lv_iconst (v := 0) hx hb dL_isSolved_357 (by decide) ?_
      obtain ⟨q7, hqq7, h⟩ := obind_some h
      obtain ⟨g6, h⟩ := gd_some h
      refine cDY S5 hK hP hQ hD hS hT (fun _ h => hA _ _ hS.1 h) (As := [.ref (ad 8), .int 7, .int 0, .int 0]) (kL_does_7 l D cA ad sa hst 0 0 _ _ hqq7 g6) (vx_cwSW 4 hts gL_isSolved_L_does rfl rfl rfl (by decide +kernel) ⟨(Nat.le_of_ble_eq_true rfl), (Nat.le_of_ble_eq_true rfl)⟩) rfl hl.1 (st0 := _) (rest := []) rfl (Nat.le_of_ble_eq_true rfl) dL_isSolved_358 ⟨(by show _ ≤ 106; omega), (by show _ ≤ 1208; omega)⟩ (fun H locs hP hQ hS => ?_)
      refine lv_iload hx hb dL_isSolved_361 (lv_at hl 2 rfl) ?_
      refine lv_icmp_ne (tgt := 370) hx hb dL_isSolved_363 (by decide) (fun c8 => ?_) (fun c8 => ?_)
      · rw [if_neg c8] at h
        refine lv_iconst (v := 0) hx hb dL_isSolved_370 (by decide) ?_
        obtain rfl := Option.some.inj h
        refine W.widen (k := 106) (n := 1208) (by omega) (by omega) ?_
        exact kr _ _ _ _ _ rfl rfl hP hQ hS dL_isSolved_371
      · rw [if_pos c8] at h
        refine lv_iconst (v := 1) hx hb dL_isSolved_366 (by decide) ?_
        refine lv_goto (tgt := 371) hx hb dL_isSolved_367 (by decide) ?_
        obtain rfl := Option.some.inj h
        refine W.widen (k := 106) (n := 1208) (by omega) (by omega) ?_
        exact kr _ _ _ _ _ rfl rfl hP hQ hS dL_isSolved_371
  · rw [if_pos c1] at h
    refine lv_aload_n hx hb dL_isSolved_6 rfl (lv_at hl 0 rfl) ?_
    refine lv_iconst (v := 4) hx hb dL_isSolved_7 (by decide) ?_
    refine lv_iconst (v := 0) hx hb dL_isSolved_8 (by decide) ?_
    refine lv_iconst (v := 0) hx hb dL_isSolved_9 (by decide) ?_
    obtain ⟨q10, hqq10, h⟩ := obind_some h
    obtain ⟨g9, h⟩ := gd_some h
    refine cDY S5 hK hP hQ hD hS hT (fun _ h => hA _ _ hS.1 h) (As := [.ref (ad 8), .int 4, .int 0, .int 0]) (kL_does_4 l D cA ad sa hst 0 0 _ _ hqq10 g9) (vx_cwSW 4 hts gL_isSolved_L_does rfl rfl rfl (by decide +kernel) ⟨(Nat.le_of_ble_eq_true rfl), (Nat.le_of_ble_eq_true rfl)⟩) rfl hl.1 (st0 := _) (rest := []) rfl (Nat.le_of_ble_eq_true rfl) dL_isSolved_10 ⟨(by show _ ≤ 106; omega), (by show _ ≤ 1208; omega)⟩ (fun H locs hP hQ hS => ?_)
    refine lv_bipush (v := (-13)) hx hb dL_isSolved_13 (by decide) ?_
    refine lv_icmp_ne (tgt := 60) hx hb dL_isSolved_15 (by decide) (fun c11 => ?_) (fun c11 => ?_)
    · rw [if_neg c11] at h
      refine lv_iconst (v := 0) hx hb dL_isSolved_60 (by decide) ?_
      obtain rfl := Option.some.inj h
      refine W.widen (k := 106) (n := 1208) (by omega) (by omega) ?_
      exact kr _ _ _ _ _ rfl rfl hP hQ hS dL_isSolved_61
    · rw [if_pos c11] at h
      refine lv_aload_n hx hb dL_isSolved_18 rfl (lv_at hl 0 rfl) ?_
      refine lv_iconst (v := 5) hx hb dL_isSolved_19 (by decide) ?_
      refine lv_iconst (v := 0) hx hb dL_isSolved_20 (by decide) ?_
      refine lv_iconst (v := 0) hx hb dL_isSolved_21 (by decide) ?_
      obtain ⟨q13, hqq13, h⟩ := obind_some h
      obtain ⟨g12, h⟩ := gd_some h
      refine cDY S5 hK hP hQ hD hS hT (fun _ h => hA _ _ hS.1 h) (As := [.ref (ad 8), .int 5, .int 0, .int 0]) (kL_does_5 l D cA ad sa hst 0 0 _ _ hqq13 g12) (vx_cwSW 4 hts gL_isSolved_L_does rfl rfl rfl (by decide +kernel) ⟨(Nat.le_of_ble_eq_true rfl), (Nat.le_of_ble_eq_true rfl)⟩) rfl hl.1 (st0 := _) (rest := []) rfl (Nat.le_of_ble_eq_true rfl) dL_isSolved_22 ⟨(by show _ ≤ 106; omega), (by show _ ≤ 1208; omega)⟩ (fun H locs hP hQ hS => ?_)
      refine lv_bipush (v := (-13)) hx hb dL_isSolved_25 (by decide) ?_
      refine lv_icmp_ne (tgt := 60) hx hb dL_isSolved_27 (by decide) (fun c14 => ?_) (fun c14 => ?_)
      · rw [if_neg c14] at h
        refine lv_iconst (v := 0) hx hb dL_isSolved_60 (by decide) ?_
        obtain rfl := Option.some.inj h
        refine W.widen (k := 106) (n := 1208) (by omega) (by omega) ?_
        exact kr _ _ _ _ _ rfl rfl hP hQ hS dL_isSolved_61
      · rw [if_pos c14] at h
        refine lv_aload_n hx hb dL_isSolved_30 rfl (lv_at hl 0 rfl) ?_
        refine lv_bipush (v := 7) hx hb dL_isSolved_31 (by decide) ?_
        refine lv_iconst (v := 0) hx hb dL_isSolved_33 (by decide) ?_
        refine lv_iconst (v := 0) hx hb dL_isSolved_34 (by decide) ?_
        obtain ⟨q16, hqq16, h⟩ := obind_some h
        obtain ⟨g15, h⟩ := gd_some h
        refine cDY S5 hK hP hQ hD hS hT (fun _ h => hA _ _ hS.1 h) (As := [.ref (ad 8), .int 7, .int 0, .int 0]) (kL_does_7 l D cA ad sa hst 0 0 _ _ hqq16 g15) (vx_cwSW 4 hts gL_isSolved_L_does rfl rfl rfl (by decide +kernel) ⟨(Nat.le_of_ble_eq_true rfl), (Nat.le_of_ble_eq_true rfl)⟩) rfl hl.1 (st0 := _) (rest := []) rfl (Nat.le_of_ble_eq_true rfl) dL_isSolved_35 ⟨(by show _ ≤ 106; omega), (by show _ ≤ 1208; omega)⟩ (fun H locs hP hQ hS => ?_)
        refine lv_bipush (v := (-13)) hx hb dL_isSolved_38 (by decide) ?_
        refine lv_icmp_ne (tgt := 60) hx hb dL_isSolved_40 (by decide) (fun c17 => ?_) (fun c17 => ?_)
        · rw [if_neg c17] at h
          refine lv_iconst (v := 0) hx hb dL_isSolved_60 (by decide) ?_
          obtain rfl := Option.some.inj h
          refine W.widen (k := 106) (n := 1208) (by omega) (by omega) ?_
          exact kr _ _ _ _ _ rfl rfl hP hQ hS dL_isSolved_61
        · rw [if_pos c17] at h
          refine lv_aload_n hx hb dL_isSolved_43 rfl (lv_at hl 0 rfl) ?_
          refine lv_bipush (v := 6) hx hb dL_isSolved_44 (by decide) ?_
          refine lv_iconst (v := 3) hx hb dL_isSolved_46 (by decide) ?_
          refine lv_iconst (v := 0) hx hb dL_isSolved_47 (by decide) ?_
          obtain ⟨q19, hqq19, h⟩ := obind_some h
          obtain ⟨g18, h⟩ := gd_some h
          refine cDY S5 hK hP hQ hD hS hT (fun _ h => hA _ _ hS.1 h) (As := [.ref (ad 8), .int 6, .int 3, .int 0]) (kL_does_6 l D cA ad sa hst 3 0 _ _ hqq19 g18) (vx_cwSW 4 hts gL_isSolved_L_does rfl rfl rfl (by decide +kernel) ⟨(Nat.le_of_ble_eq_true rfl), (Nat.le_of_ble_eq_true rfl)⟩) rfl hl.1 (st0 := _) (rest := []) rfl (Nat.le_of_ble_eq_true rfl) dL_isSolved_48 ⟨(by show _ ≤ 106; omega), (by show _ ≤ 1208; omega)⟩ (fun H locs hP hQ hS => ?_)
          refine lv_bipush (v := (-13)) hx hb dL_isSolved_51 (by decide) ?_
          refine lv_icmp_ne (tgt := 60) hx hb dL_isSolved_53 (by decide) (fun c20 => ?_) (fun c20 => ?_)
          · rw [if_neg c20] at h
            refine lv_iconst (v := 0) hx hb dL_isSolved_60 (by decide) ?_
            obtain rfl := Option.some.inj h
            refine W.widen (k := 106) (n := 1208) (by omega) (by omega) ?_
            exact kr _ _ _ _ _ rfl rfl hP hQ hS dL_isSolved_61
          · rw [if_pos c20] at h
            refine lv_iconst (v := 1) hx hb dL_isSolved_56 (by decide) ?_
            refine lv_goto (tgt := 61) hx hb dL_isSolved_57 (by decide) ?_
            obtain rfl := Option.some.inj h
            refine W.widen (k := 106) (n := 1208) (by omega) (by omega) ?_
            exact kr _ _ _ _ _ rfl rfl hP hQ hS dL_isSolved_61

