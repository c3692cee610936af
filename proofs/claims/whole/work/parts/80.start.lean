set_option maxHeartbeats 4000000 in
set_option maxRecDepth 100000 in
theorem law_loop {p : Program} {l : Launch} {e : Env} {s : State} {m : MethodId} {below : List Frame} {meth : Method} {c : Code} {b L : Nat} {xs : Nat → Int32} {D : va_G} {cA cL : Nat} {ad am : Nat → Nat} {ob : Nat} {sa : Nat → Nat} (C1 : LC l p s m meth c b L xs D cA cL ad am ob sa) (hL : L ≤ 1536) : ∀ (n j : Nat) (M N : Mem) (f : Nat → Int64) (H : Heap) (locs : List Loc) (ls : Array Slot), 3 * j ≤ L → L + 1 ≤ 3 * j + n → Inv M N → LW D cA cL ad am ob M N f H → va_S (A0 s) s.heap H locs → lv_has ls 7 [(0, .ref b), (1, .ref (ad 8)), (2, .ref (am 0)), (3, .ref ob), (4, .int (nI (3 * j)))] → W p l e room_1 s m #[Value.ref b] below meth c H locs (19 + 4 * j) (263275 + 24 * j) (lw_Z below #[Value.ref b] s) (F0 m 23 ls []) := by
  obtain ⟨C0, hst, hK, hKL, hDD, hT, hN⟩ := id C1
  obtain ⟨hx, hb, hr0, hml, hown, hts0, hX, hbl, hlocks, hgv⟩ := C0
  have hbA : ¬ A0 s b := Nat.not_le.mpr hbl
  intro n
  induction n with
  | zero => intro j M N f H locs ls h1 h2; exact absurd h2 (by omega)
  | succ n ih =>
    intro j M N f H locs ls h1 h2 hI hW hS hl
    refine lv_iload hx hb dL_law_23 (lv_at hl 4 rfl) ?_
    refine lv_aload_n hx hb dL_law_25 rfl (lv_at hl 0 rfl) ?_
    refine va_slen hx hb hX hbl hbA hS dL_law_26 ?_
    refine lv_iconst (v := 3) hx hb dL_law_27 (by decide) ?_
    refine lv_isub hx hb dL_law_28 ?_
    have hsub : (Int32.ofNat L - 3).toInt = (L : Int) - 3 := pk_sub_toInt (a := L) (b := 3) (by omega) (by omega)
    have hti : (nI (3 * j)).toInt = ((3 * j : Nat) : Int) := nI_toInt (by omega)
    refine lv_icmp_gt (tgt := 1196) hx hb dL_law_29 (by decide) (fun c1 => ?_) (fun c1 => ?_)
    · refine lv_iconst (v := 1) hx hb dL_law_1196 (by decide) ?_
      refine va_forget (fun q hq => hS.2.2 q hq) ?_
      refine W.widen (k := room_1.cells) (n := room_1.slots) (by have := rC; omega) (by have := rS; omega) ?_
      exact lw_ret hx hb hr0 hlocks dL_law_1197
    · have hi : 3 * j + 3 ≤ L := by
        rw [Int32.lt_iff_toInt_lt, hsub, hti] at c1
        omega
      have hj : j < 512 := by omega
      have hend : ∀ (M N : Mem) (f : Nat → Int64) (H : Heap) (locs : List Loc) (ls : Array Slot), Inv M N → LW D cA cL ad am ob M N f H → va_S (A0 s) s.heap H locs → lv_has ls 7 [(0, .ref b), (1, .ref (ad 8)), (2, .ref (am 0)), (3, .ref ob), (4, .int (nI (3 * j)))] → W p l e room_1 s m #[Value.ref b] below meth c H locs (19 + 4 * (j + 1)) (263275 + 24 * (j + 1)) (lw_Z below #[Value.ref b] s) (F0 m 1190 ls []) := by
        intro M N f H locs ls hI hW hS hl
        refine lv_iinc (v := nI (3 * (j + 1))) (lv' := [(4, .int (nI (3 * (j + 1)))), (0, .ref b), (1, .ref (ad 8)), (2, .ref (am 0)), (3, .ref ob)]) hx hb dL_law_1190 hl (k := 4) rfl (by rw [show Int32.ofInt 3 = nI 3 from rfl, nI_add]; congr 1) (by decide) rfl (fun ls hl => ?_)
        refine lv_goto (tgt := 23) hx hb dL_law_1193 (by decide) ?_
        exact ih (j + 1) M N f H locs ls (by omega) (by omega) hI hW hS (lv_sub hl [1, 2, 3, 4, 0] rfl)
      have hv0 : vp_in (nI (3 * j)) L := vp_in_nI (by omega) (by omega)
      refine lv_aload_n hx hb dL_law_32 rfl (lv_at hl 0 rfl) ?_
      refine lv_iload hx hb dL_law_33 (lv_at hl 4 rfl) ?_
      refine va_sld hx hb hX hbl hbA hS hv0 dL_law_35 ?_
      refine lv_bipush (v := 31) hx hb dL_law_36 (by decide) ?_
      refine lv_iand hx hb dL_law_38 ?_
      obtain ⟨t, ht, et⟩ := pk_andE (xs (nI (3 * j)).toNatClampNeg) (m := 31) 5 (by decide)
      refine l_top et ?_
      rcases (show t = 0 ∨ t = 1 ∨ t = 2 ∨ t = 3 ∨ t = 4 ∨ t = 5 ∨ t = 6 ∨ t = 7 ∨ t = 8 ∨ t = 9 ∨ t = 10 ∨ t = 11 ∨ t = 12 ∨ t = 13 ∨ t = 14 ∨ t = 15 ∨ t = 16 ∨ t = 17 ∨ t = 18 ∨ t = 19 ∨ t = 20 ∨ t = 21 ∨ 22 ≤ t by omega) with rfl | rfl | rfl | rfl | rfl | rfl | rfl | rfl | rfl | rfl | rfl | rfl | rfl | rfl | rfl | rfl | rfl | rfl | rfl | rfl | rfl | rfl | h22
      · exact lv_tableIn (off := 101) (tgt := 140) hx hb dL_law_39 (by decide) (by decide) (by decide) (by decide) (law_begin C1 hL (3 * j) j hi hj hI hW hS hl hend)
      · exact lv_tableIn (off := 157) (tgt := 196) hx hb dL_law_39 (by decide) (by decide) (by decide) (by decide) (law_give C1 hL (3 * j) j hi hj hI hW hS hl hend)
      · exact lv_tableIn (off := 225) (tgt := 264) hx hb dL_law_39 (by decide) (by decide) (by decide) (by decide) (law_start C1 hL (3 * j) j hi hj hI hW hS hl hend)
      · exact lv_tableIn (off := 281) (tgt := 320) hx hb dL_law_39 (by decide) (by decide) (by decide) (by decide) (law_isStarted C1 hL (3 * j) j hi hj hI hW hS hl hend)
      · exact lv_tableIn (off := 294) (tgt := 333) hx hb dL_law_39 (by decide) (by decide) (by decide) (by decide) (law_play C1 hL (3 * j) j hi hj hI hW hS hl hend)
      · exact lv_tableIn (off := 350) (tgt := 389) hx hb dL_law_39 (by decide) (by decide) (by decide) (by decide) (law_takeBack C1 hL (3 * j) j hi hj hI hW hS hl hend)
      · exact lv_tableIn (off := 394) (tgt := 433) hx hb dL_law_39 (by decide) (by decide) (by decide) (by decide) (law_canPlay C1 hL (3 * j) j hi hj hI hW hS hl hend)
      · exact lv_tableIn (off := 457) (tgt := 496) hx hb dL_law_39 (by decide) (by decide) (by decide) (by decide) (law_turn C1 hL (3 * j) j hi hj hI hW hS hl hend)
      · exact lv_tableIn (off := 470) (tgt := 509) hx hb dL_law_39 (by decide) (by decide) (by decide) (by decide) (law_hand C1 hL (3 * j) j hi hj hI hW hS hl hend)
      · exact lv_tableIn (off := 526) (tgt := 565) hx hb dL_law_39 (by decide) (by decide) (by decide) (by decide) (law_inTrick C1 hL (3 * j) j hi hj hI hW hS hl hend)
      · exact lv_tableIn (off := 539) (tgt := 578) hx hb dL_law_39 (by decide) (by decide) (by decide) (by decide) (law_cardIn C1 hL (3 * j) j hi hj hI hW hS hl hend)
      · exact lv_tableIn (off := 595) (tgt := 634) hx hb dL_law_39 (by decide) (by decide) (by decide) (by decide) (law_won C1 hL (3 * j) j hi hj hI hW hS hl hend)
      · exact lv_tableIn (off := 651) (tgt := 690) hx hb dL_law_39 (by decide) (by decide) (by decide) (by decide) (law_solve C1 hL (3 * j) j hi hj hI hW hS hl hend)
      · exact lv_tableIn (off := 695) (tgt := 734) hx hb dL_law_39 (by decide) (by decide) (by decide) (by decide) (law_solveByAll C1 hL (3 * j) j hi hj hI hW hS hl hend)
      · exact lv_tableIn (off := 739) (tgt := 778) hx hb dL_law_39 (by decide) (by decide) (by decide) (by decide) (law_value C1 hL (3 * j) j hi hj hI hW hS hl hend)
      · exact lv_tableIn (off := 795) (tgt := 834) hx hb dL_law_39 (by decide) (by decide) (by decide) (by decide) (law_bestCard C1 hL (3 * j) j hi hj hI hW hS hl hend)
      · exact lv_tableIn (off := 839) (tgt := 878) hx hb dL_law_39 (by decide) (by decide) (by decide) (by decide) (law_lowestEqual C1 hL (3 * j) j hi hj hI hW hS hl hend)
      · exact lv_tableIn (off := 895) (tgt := 934) hx hb dL_law_39 (by decide) (by decide) (by decide) (by decide) (law_unlike C1 hL (3 * j) j hi hj hI hW hS hl hend)
      · exact lv_tableIn (off := 951) (tgt := 990) hx hb dL_law_39 (by decide) (by decide) (by decide) (by decide) (law_isTop C1 hL (3 * j) j hi hj hI hW hS hl hend)
      · exact lv_tableIn (off := 1014) (tgt := 1053) hx hb dL_law_39 (by decide) (by decide) (by decide) (by decide) (law_quick C1 hL (3 * j) j hi hj hI hW hS hl hend)
      · exact lv_tableIn (off := 1070) (tgt := 1109) hx hb dL_law_39 (by decide) (by decide) (by decide) (by decide) (law_fork C1 hL (3 * j) j hi hj hI hW hS hl hend)
      · exact lv_tableIn (off := 1138) (tgt := 1177) hx hb dL_law_39 (by decide) (by decide) (by decide) (by decide) (law_goodForks C1 hL (3 * j) j hi hj hI hW hS hl hend)
      · refine lv_tableOut (tgt := 1190) hx hb dL_law_39 (Or.inr (by rw [nI_toInt (by omega)]; omega)) (by decide) ?_
        refine W.widen (k := 19 + 4 * (j + 1)) (n := 263275 + 24 * (j + 1)) (by omega) (by omega) ?_
        exact hend M N f H locs ls hI hW hS hl
theorem exists_sa {args : Array Value} {s : State} (hts : ∀ w ∈ tables_1, w.before args s = true) (hgv : (Jvm.Cond.and given_1 narrow_1).before args s = true) : ∃ sa : Nat → Nat, ∀ q ∈ xstr, vk_R RX5 q.1 q.2 (sa q.1) s := by
  classical
  have hfl := flat_of_before _ hgv
  have h0 : ∀ q ∈ xstr, ∃ a : Nat, vk_R RX5 q.1 q.2 a s := by
    intro q hq
    have h1 : (Cond.stringRef RX5 q.1 q.2) ∈ tables_1 ∧ (Cond.exactly (.string RX5 q.1) "java/lang/String") ∈ flatC (Jvm.Cond.and given_1 narrow_1) := by
      revert q
      decide +kernel
    obtain ⟨a, c, cA, kA, q1, -⟩ := Cond.exactly_spec (hfl _ h1.2)
    exact ⟨a, vk_R.of (hts _ h1.1) q1⟩
  refine ⟨fun k => if h : ∃ tx a, (k, tx) ∈ xstr ∧ vk_R RX5 k tx a s then h.choose_spec.choose else 0, fun q hq => ?_⟩
  obtain ⟨a, ha⟩ := h0 q hq
  have hex : ∃ tx a, (q.1, tx) ∈ xstr ∧ vk_R RX5 q.1 tx a s := ⟨q.2, a, hq, ha⟩
  dsimp only
  rw [dif_pos hex]
  have hs := hex.choose_spec.choose_spec
  have huniq : ∀ q ∈ xstr, ∀ q' ∈ xstr, q.1 = q'.1 → q.2 = q'.2 := by decide
  have e : q.2 = hex.choose := huniq q hq (q.1, hex.choose) hs.1 rfl
  rw [e]
  exact hs.2

set_option maxHeartbeats 8000000 in
set_option maxRecDepth 100000 in
theorem whole_start {p : Program} {e : Env} {s : State} {m : MethodId} {below : List Frame} {meth : Method} {c : Code} (l : Launch) (hflags : l.flags = flags0) {b L : Nat} {xs : Nat → Int32} (hL : L ≤ 1536) (C0 : lw_At p s m meth c b L xs) : W p l e room_1 s m #[Value.ref b] below meth c s.heap [] 0 0 (lw_Z below #[Value.ref b] s) (entryFrame m ([Value.ref b] : List Value).toArray 7) := by
  obtain ⟨hx, hb, hr, hml, hown, hts0, hX, hbl, hlocks, hgv⟩ := id C0
  have hown : s.vm.findClass RL = some m.cls := hown
  have hts : ∀ w ∈ wsL_law, w.before #[Value.ref b] s = true := fun w h => hts0 w (wsL_law_in w h)
  have hfl := flat_of_before _ hgv
  have hst : l.stackTraces = false := by unfold Launch.stackTraces; rw [hflags]; decide +kernel
  have hA : ∀ q : Nat, s.heap.size ≤ q → A0 s q := fun _ h => h
  have hAn : ∀ a : Nat, a < s.heap.size → ¬ A0 s a := fun a h => Nat.not_le.mpr h
  have hbA : ¬ A0 s b := Nat.not_le.mpr hbl
  obtain ⟨sa, hsa⟩ := exists_sa (args := #[Value.ref b]) (s := s) (fun w hw => hts0 w (List.mem_append_right _ hw)) hgv
  have hT : TE (A0 s) sa s := by
    refine ⟨vx_Zqof (hts0 _ (List.mem_of_getElem? (i := 249) rfl)) (hts0 _ (List.mem_of_getElem? (i := 43) rfl)) (hfl _ (by decide +kernel)) hAn, vx_Zqof (hts0 _ (List.mem_of_getElem? (i := 251) rfl)) (hts0 _ (List.mem_of_getElem? (i := 43) rfl)) (hfl _ (by decide +kernel)) hAn, hsa, fun n hn => ?_, fun k hk => ?_, va_Nw.of rfl (hts0 _ (List.mem_of_getElem? (i := 584) rfl))⟩
    · simp only [List.mem_cons, List.not_mem_nil, or_false] at hn
      rcases hn with rfl | rfl | rfl
      · exact va_Nw.of rfl (hts0 _ (List.mem_of_getElem? (i := 230) rfl))
      · exact va_Nw.of rfl (hts0 _ (List.mem_of_getElem? (i := 226) rfl))
      · exact va_Nw.of rfl (hts0 _ (List.mem_of_getElem? (i := 228) rfl))
    · simp only [List.mem_cons, List.not_mem_nil, or_false] at hk
      rcases hk with rfl | rfl | rfl
      · exact va_Nw.of rfl (hts0 _ (List.mem_of_getElem? (i := 224) rfl))
      · exact va_Nw.of rfl (hts0 _ (List.mem_of_getElem? (i := 321) rfl))
      · exact va_Nw.of rfl (hts0 _ (List.mem_of_getElem? (i := 454) rfl))
  have hN : va_Nc (exN 2) (exN 1) s := va_Nc.of (hfl (Cond.not (.castable "java/lang/IllegalStateException" "java/lang/IllegalArgumentException")) (by decide +kernel))
  obtain ⟨c0, iS0, hKn0⟩ := u_known (C := RX1) (T := TX1) (N := 8) (n := 8) hts inlX1 (hts _ (List.mem_of_getElem? (i := 14) rfl))
  obtain ⟨c1, iS1, hKn1⟩ := u_known (C := RX2) (T := TX2) (N := 1) (n := 1) hts inlX2 (hts _ (List.mem_of_getElem? (i := 40) rfl))
  obtain ⟨c2, iS2, hKn2⟩ := u_known (C := RX3) (T := TX3) (N := 1) (n := 1) hts inlX3 (hts _ (List.mem_of_getElem? (i := 22) rfl))
  obtain ⟨c3, iS3, hKn3⟩ := u_known (C := RX4) (T := TX4) (N := 2) (n := 2) hts inlX4 (hts _ (List.mem_of_getElem? (i := 18) rfl))
  obtain ⟨c4, iS4, hKn4⟩ := u_known (C := RX5) (T := TX5) (N := 3) (n := 3) hts inlX5 (hts _ (List.mem_of_getElem? (i := 1) rfl))
  obtain ⟨c5, iS5, hKn5⟩ := u_known (C := RX6) (T := TX6) (N := 16) (n := 16) hts inlX6 (hts _ (List.mem_of_getElem? (i := 4) rfl))
  obtain ⟨dC, dI, hKc⟩ : ∃ (dC : Nat → ClassId) (dI : Nat → Nat → Nat), ∀ (k : Nat) (q : vw_C), vwCl[k]? = some q → u_Kn s q.1 q.2.1 q.2.2 (dC k) (dI k) := by
    refine ⟨fun k => [c0, c1, c2, c3, c4, c5].getD k 0, fun k => [iS0, iS1, iS2, iS3, iS4, iS5].getD k iS0, ?_⟩
    intro k q hq
    match k, hq with
    | 0, hq => cases hq; exact hKn0
    | 1, hq => cases hq; exact hKn1
    | 2, hq => cases hq; exact hKn2
    | 3, hq => cases hq; exact hKn3
    | 4, hq => cases hq; exact hKn4
    | 5, hq => cases hq; exact hKn5
    | k + 6, hq => simp [vwCl] at hq
  have hS : va_S (A0 s) s.heap s.heap [] := va_S.rf
  have hK0 : va_K (dC, dI) vwCl [] s := ⟨hKc, fun k q h => by simp at h⟩
  have hP : va_P (dC, dI) vwCl [] s.heap := fun k q h => by simp at h
  have hD : va_D (A0 s) [] := ⟨fun i j p q h => by simp at h, fun k q h => by simp at h⟩
  have hl := lv_entry ([.ref b]) (n := 7) (Nat.le_of_ble_eq_true rfl)
  rw [lg_entry_eq]
  generalize (lg_sl ([.ref b]) ++ List.replicate (7 - (lg_sl ([.ref b])).length) Slot.unset).toArray = ls at hl ⊢
  have hl : lv_has ls 7 [(0, .ref b)] := hl
  refine va_new (ci := 4) (fs := [.null, .null, .null]) (C := RX5) (T := TX5) (N := 3) hx hb hts inlX5 tyX5 tyX5_ok hown (hts _ (List.mem_of_getElem? (i := 0) rfl)) (hts _ (List.mem_of_getElem? (i := 1) rfl)) (hts _ (List.mem_of_getElem? (i := 2) rfl)) hK0 hP hD hS hA rfl (fun j hj => by rcases (show j = 0 ∨ j = 1 ∨ j = 2 by omega) with rfl | rfl | rfl <;> rfl) (Nat.le_of_ble_eq_true rfl) (Nat.le_of_ble_eq_true rfl) dL_law_0 (fun ox H hP hD hS => ?_)
  have hP : va_P (dC, dI) vwCl [(ox, .inr (4, [.null, .null, .null]))] H := hP
  have hD : va_D (A0 s) [(ox, .inr (4, [.null, .null, .null]))] := hD
  refine lv_dup hx hb dL_law_3 rfl ?_
  have hPc := hP.sub (ws' := [(ox, .inr (4, [.null, .null, .null]))]) [0] rfl
  have hDc := hD.sub (ws' := [(ox, .inr (4, [.null, .null, .null]))]) [0] (by decide) rfl
  have hFc := va_free (wc := [(ox, .inr (4, [.null, .null, .null]))]) hD hS hA [0] rfl
  refine va_callv (va_runI (As := []) (rest := [.ref ox]) ⟨hx, hb, hml, hown, hts⟩ (ciX5_init l dC dI ox H.size) (cwI 0 hts gL_law_X5_init rfl rfl rfl (hts _ (List.mem_of_getElem? (i := 2) rfl)) (hts _ (List.mem_of_getElem? (i := 7) rfl)) (hts _ (List.mem_of_getElem? (i := 8) rfl)) rfl (by decide +kernel) ⟨Nat.le_of_ble_eq_true rfl, Nat.le_of_ble_eq_true rfl⟩) ⟨fun a U g mk q => ⟨q.1, q.2.1, q.2.2.1, va_K.moved (u := U) (U := U.calling g mk a) (Vm.Alike.refl U.vm) q.2.2.2.1, q.2.2.2.2⟩, fun U hU hW => ⟨rfl, by rw [hU], by rw [hU]; exact hPc, va_K.moved hW.alike hK0, hDc.weaken (fun _ _ _ _ => trivial)⟩⟩ rfl rfl hl.1 rfl (lv_room (Nat.le_of_ble_eq_true rfl)) dL_law_4 ⟨Nat.le_of_ble_eq_true rfl, Nat.le_of_ble_eq_true rfl⟩) hS (fun q _ h => hFc q h) hFc (fun u t H1 locs ht hvm hw hB hz1 hk1 hS => ?_)
  obtain ⟨x1, x2, x3, x4, x5, x6, x7, x8, cAx, hP1, hK1, hD1⟩ := hB
  rw [ht] at hP1
  have hKx := va_K.moved hvm.symm hK1
  obtain ⟨hP, hD⟩ := va_join (wr := []) (w1 := [(ox, .inr (4, [.ref x1, .ref x5, .ref x8])), (x1, .inr (0, [.ref x2, .ref x3, .ref x4, .int (-1), .int 0, .int 0, .int 0, .int 0])), (x2, .inl (cAx, 4, .inl (fun _ => 0))), (x3, .inl (cAx, 16, .inl (fun _ => 0))), (x4, .inl (cAx, 5, .inl (fun _ => 0))), (x5, .inr (3, [.ref x1, .ref x6])), (x6, .inr (1, [.ref x7])), (x7, .inl (cAx, 1024, .inl (fun _ => 0))), (x8, .inr (2, [.ref x1]))]) hP hD [0] [] rfl rfl (by decide) (by decide) hk1 hFc hP1 hD1
  generalize H1 = H at hP hS ⊢
  have hP : va_P (dC, dI) vwCl [(ox, .inr (4, [.ref x1, .ref x5, .ref x8])), (x1, .inr (0, [.ref x2, .ref x3, .ref x4, .int (-1), .int 0, .int 0, .int 0, .int 0])), (x2, .inl (cAx, 4, .inl (fun _ => 0))), (x3, .inl (cAx, 16, .inl (fun _ => 0))), (x4, .inl (cAx, 5, .inl (fun _ => 0))), (x5, .inr (3, [.ref x1, .ref x6])), (x6, .inr (1, [.ref x7])), (x7, .inl (cAx, 1024, .inl (fun _ => 0))), (x8, .inr (2, [.ref x1]))] H := hP
  have hD : va_D (A0 s) [(ox, .inr (4, [.ref x1, .ref x5, .ref x8])), (x1, .inr (0, [.ref x2, .ref x3, .ref x4, .int (-1), .int 0, .int 0, .int 0, .int 0])), (x2, .inl (cAx, 4, .inl (fun _ => 0))), (x3, .inl (cAx, 16, .inl (fun _ => 0))), (x4, .inl (cAx, 5, .inl (fun _ => 0))), (x5, .inr (3, [.ref x1, .ref x6])), (x6, .inr (1, [.ref x7])), (x7, .inl (cAx, 1024, .inl (fun _ => 0))), (x8, .inr (2, [.ref x1]))] := hD
  refine W.widen (k := 9) (n := 1064) (Nat.le_of_ble_eq_true rfl) (Nat.le_of_ble_eq_true rfl) ?_
  refine lv_astore_n (lv' := [(1, .ref ox), (0, .ref b)]) hx hb dL_law_7 rfl hl (by decide) rfl (fun ls hl => ?_)
  refine va_new (ci := 5) (fs := [.int 0, .null, .int 0, .int 0, .null, .int 0, .int 0, .null, .null, .int 0, .int 0, .null, .null, .null, .null, .int 0]) (C := RX6) (T := TX6) (N := 16) hx hb hts inlX6 tyX6 tyX6_ok hown (hts _ (List.mem_of_getElem? (i := 3) rfl)) (hts _ (List.mem_of_getElem? (i := 4) rfl)) (hts _ (List.mem_of_getElem? (i := 5) rfl)) hK0 hP hD hS hA rfl (fun j hj => by rcases (show j = 0 ∨ j = 1 ∨ j = 2 ∨ j = 3 ∨ j = 4 ∨ j = 5 ∨ j = 6 ∨ j = 7 ∨ j = 8 ∨ j = 9 ∨ j = 10 ∨ j = 11 ∨ j = 12 ∨ j = 13 ∨ j = 14 ∨ j = 15 by omega) with rfl | rfl | rfl | rfl | rfl | rfl | rfl | rfl | rfl | rfl | rfl | rfl | rfl | rfl | rfl | rfl <;> rfl) (Nat.le_of_ble_eq_true rfl) (Nat.le_of_ble_eq_true rfl) dL_law_8 (fun om H hP hD hS => ?_)
  have hP : va_P (dC, dI) vwCl [(ox, .inr (4, [.ref x1, .ref x5, .ref x8])), (x1, .inr (0, [.ref x2, .ref x3, .ref x4, .int (-1), .int 0, .int 0, .int 0, .int 0])), (x2, .inl (cAx, 4, .inl (fun _ => 0))), (x3, .inl (cAx, 16, .inl (fun _ => 0))), (x4, .inl (cAx, 5, .inl (fun _ => 0))), (x5, .inr (3, [.ref x1, .ref x6])), (x6, .inr (1, [.ref x7])), (x7, .inl (cAx, 1024, .inl (fun _ => 0))), (x8, .inr (2, [.ref x1])), (om, .inr (5, [.int 0, .null, .int 0, .int 0, .null, .int 0, .int 0, .null, .null, .int 0, .int 0, .null, .null, .null, .null, .int 0]))] H := hP
  have hD : va_D (A0 s) [(ox, .inr (4, [.ref x1, .ref x5, .ref x8])), (x1, .inr (0, [.ref x2, .ref x3, .ref x4, .int (-1), .int 0, .int 0, .int 0, .int 0])), (x2, .inl (cAx, 4, .inl (fun _ => 0))), (x3, .inl (cAx, 16, .inl (fun _ => 0))), (x4, .inl (cAx, 5, .inl (fun _ => 0))), (x5, .inr (3, [.ref x1, .ref x6])), (x6, .inr (1, [.ref x7])), (x7, .inl (cAx, 1024, .inl (fun _ => 0))), (x8, .inr (2, [.ref x1])), (om, .inr (5, [.int 0, .null, .int 0, .int 0, .null, .int 0, .int 0, .null, .null, .int 0, .int 0, .null, .null, .null, .null, .int 0]))] := hD
  refine lv_dup hx hb dL_law_11 rfl ?_
  have hPc := hP.sub (ws' := [(om, .inr (5, [.int 0, .null, .int 0, .int 0, .null, .int 0, .int 0, .null, .null, .int 0, .int 0, .null, .null, .null, .null, .int 0]))]) [9] rfl
  have hDc := hD.sub (ws' := [(om, .inr (5, [.int 0, .null, .int 0, .int 0, .null, .int 0, .int 0, .null, .null, .int 0, .int 0, .null, .null, .null, .null, .int 0]))]) [9] (by decide) rfl
  have hFc := va_free (wc := [(om, .inr (5, [.int 0, .null, .int 0, .int 0, .null, .int 0, .int 0, .null, .null, .int 0, .int 0, .null, .null, .null, .null, .int 0]))]) hD hS hA [9] rfl
  refine va_callv (va_runI (As := []) (rest := [.ref om]) ⟨hx, hb, hml, hown, hts⟩ (ciX6_init l dC dI om H.size) (cwI 0 hts gL_law_X6_init rfl rfl rfl (hts _ (List.mem_of_getElem? (i := 5) rfl)) (hts _ (List.mem_of_getElem? (i := 53) rfl)) (hts _ (List.mem_of_getElem? (i := 54) rfl)) rfl (by decide +kernel) ⟨Nat.le_of_ble_eq_true rfl, Nat.le_of_ble_eq_true rfl⟩) ⟨fun a U g mk q => ⟨q.1, q.2.1, q.2.2.1, va_K.moved (u := U) (U := U.calling g mk a) (Vm.Alike.refl U.vm) q.2.2.2.1, q.2.2.2.2⟩, fun U hU hW => ⟨rfl, by rw [hU], by rw [hU]; exact hPc, va_K.moved hW.alike hK0, hDc.weaken (fun _ _ _ _ => trivial)⟩⟩ rfl rfl hl.1 rfl (lv_room (Nat.le_of_ble_eq_true rfl)) dL_law_12 ⟨Nat.le_of_ble_eq_true rfl, Nat.le_of_ble_eq_true rfl⟩) hS (fun q _ h => hFc q h) hFc (fun u t H1 locs ht hvm hw hB hz1 hk1 hS => ?_)
  obtain ⟨m1, m2, m3, m4, m5, m6, m7, m8, cAm, hP1, hK1, hD1⟩ := hB
  rw [ht] at hP1
  have hKm := va_K.moved hvm.symm hK1
  obtain rfl := K_one hKx hKm
  obtain ⟨hP, hD⟩ := va_join (wr := [(ox, .inr (4, [.ref x1, .ref x5, .ref x8])), (x1, .inr (0, [.ref x2, .ref x3, .ref x4, .int (-1), .int 0, .int 0, .int 0, .int 0])), (x2, .inl (cAx, 4, .inl (fun _ => 0))), (x3, .inl (cAx, 16, .inl (fun _ => 0))), (x4, .inl (cAx, 5, .inl (fun _ => 0))), (x5, .inr (3, [.ref x1, .ref x6])), (x6, .inr (1, [.ref x7])), (x7, .inl (cAx, 1024, .inl (fun _ => 0))), (x8, .inr (2, [.ref x1]))]) (w1 := [(om, .inr (5, [.int (-1), .ref m1, .int 0, .int 0, .ref m2, .int 0, .int 0, .ref m3, .ref m4, .int 0, .int 0, .ref m5, .ref m6, .ref m7, .ref m8, .int 0])), (m1, .inl (cAx, 4, .inl (fun _ => 0))), (m2, .inl (cAx, 16, .inl (fun _ => 0))), (m3, .inl (cAx, 4, .inl (fun _ => 0))), (m4, .inl (cAx, 4, .inl (fun _ => 0))), (m5, .inl (cAx, 2, .inl (fun _ => 0))), (m6, .inl (cAx, 16, .inl (fun _ => 0))), (m7, .inl (cAx, 262144, .inl (fun _ => 0))), (m8, .inl (cAx, 4, .inl (fun _ => 0)))]) hP hD [9] [0, 1, 2, 3, 4, 5, 6, 7, 8] rfl rfl (by decide) (by decide) hk1 hFc hP1 hD1
  generalize H1 = H at hP hS ⊢
  have hP : va_P (dC, dI) vwCl [(ox, .inr (4, [.ref x1, .ref x5, .ref x8])), (x1, .inr (0, [.ref x2, .ref x3, .ref x4, .int (-1), .int 0, .int 0, .int 0, .int 0])), (x2, .inl (cAx, 4, .inl (fun _ => 0))), (x3, .inl (cAx, 16, .inl (fun _ => 0))), (x4, .inl (cAx, 5, .inl (fun _ => 0))), (x5, .inr (3, [.ref x1, .ref x6])), (x6, .inr (1, [.ref x7])), (x7, .inl (cAx, 1024, .inl (fun _ => 0))), (x8, .inr (2, [.ref x1])), (om, .inr (5, [.int (-1), .ref m1, .int 0, .int 0, .ref m2, .int 0, .int 0, .ref m3, .ref m4, .int 0, .int 0, .ref m5, .ref m6, .ref m7, .ref m8, .int 0])), (m1, .inl (cAx, 4, .inl (fun _ => 0))), (m2, .inl (cAx, 16, .inl (fun _ => 0))), (m3, .inl (cAx, 4, .inl (fun _ => 0))), (m4, .inl (cAx, 4, .inl (fun _ => 0))), (m5, .inl (cAx, 2, .inl (fun _ => 0))), (m6, .inl (cAx, 16, .inl (fun _ => 0))), (m7, .inl (cAx, 262144, .inl (fun _ => 0))), (m8, .inl (cAx, 4, .inl (fun _ => 0)))] H := hP
  have hD : va_D (A0 s) [(ox, .inr (4, [.ref x1, .ref x5, .ref x8])), (x1, .inr (0, [.ref x2, .ref x3, .ref x4, .int (-1), .int 0, .int 0, .int 0, .int 0])), (x2, .inl (cAx, 4, .inl (fun _ => 0))), (x3, .inl (cAx, 16, .inl (fun _ => 0))), (x4, .inl (cAx, 5, .inl (fun _ => 0))), (x5, .inr (3, [.ref x1, .ref x6])), (x6, .inr (1, [.ref x7])), (x7, .inl (cAx, 1024, .inl (fun _ => 0))), (x8, .inr (2, [.ref x1])), (om, .inr (5, [.int (-1), .ref m1, .int 0, .int 0, .ref m2, .int 0, .int 0, .ref m3, .ref m4, .int 0, .int 0, .ref m5, .ref m6, .ref m7, .ref m8, .int 0])), (m1, .inl (cAx, 4, .inl (fun _ => 0))), (m2, .inl (cAx, 16, .inl (fun _ => 0))), (m3, .inl (cAx, 4, .inl (fun _ => 0))), (m4, .inl (cAx, 4, .inl (fun _ => 0))), (m5, .inl (cAx, 2, .inl (fun _ => 0))), (m6, .inl (cAx, 16, .inl (fun _ => 0))), (m7, .inl (cAx, 262144, .inl (fun _ => 0))), (m8, .inl (cAx, 4, .inl (fun _ => 0)))] := hD
  refine W.widen (k := 18) (n := 263274) (Nat.le_of_ble_eq_true rfl) (Nat.le_of_ble_eq_true rfl) ?_
  refine lv_astore_n (lv' := [(2, .ref om), (1, .ref ox), (0, .ref b)]) hx hb dL_law_15 rfl hl (by decide) rfl (fun ls hl => ?_)
  refine lv_iconst (v := 1) hx hb dL_law_16 (by decide) ?_
  refine va_newa (atype := .long) (ty := .long) (a0 := (1, .inr (.inl (fun _ => 0)))) hx hb (hts _ (List.mem_of_getElem? (i := 6) rfl)) rfl hK0 hP hD hS hA (fun _ => rfl) (by decide) (by decide +kernel) (Nat.le_of_ble_eq_true rfl) (Nat.le_of_ble_eq_true rfl) (Nat.le_of_ble_eq_true rfl) dL_law_17 (fun ob cL H hK9 hP hD hS => ?_)
  have hKL : va_K (dC, dI) vwCl [(cL, .long)] s := hK9
  have hP : va_P (dC, dI) vwCl ([(ox, .inr (4, [.ref x1, .ref x5, .ref x8])), (x1, .inr (0, [.ref x2, .ref x3, .ref x4, .int (-1), .int 0, .int 0, .int 0, .int 0])), (x2, .inl (cAx, 4, .inl (fun _ => 0))), (x3, .inl (cAx, 16, .inl (fun _ => 0))), (x4, .inl (cAx, 5, .inl (fun _ => 0))), (x5, .inr (3, [.ref x1, .ref x6])), (x6, .inr (1, [.ref x7])), (x7, .inl (cAx, 1024, .inl (fun _ => 0))), (x8, .inr (2, [.ref x1])), (om, .inr (5, [.int (-1), .ref m1, .int 0, .int 0, .ref m2, .int 0, .int 0, .ref m3, .ref m4, .int 0, .int 0, .ref m5, .ref m6, .ref m7, .ref m8, .int 0])), (m1, .inl (cAx, 4, .inl (fun _ => 0))), (m2, .inl (cAx, 16, .inl (fun _ => 0))), (m3, .inl (cAx, 4, .inl (fun _ => 0))), (m4, .inl (cAx, 4, .inl (fun _ => 0))), (m5, .inl (cAx, 2, .inl (fun _ => 0))), (m6, .inl (cAx, 16, .inl (fun _ => 0))), (m7, .inl (cAx, 262144, .inl (fun _ => 0))), (m8, .inl (cAx, 4, .inl (fun _ => 0)))] ++ wO cL ob (fun _ => 0)) H := hP
  have hD : va_D (A0 s) ([(ox, .inr (4, [.ref x1, .ref x5, .ref x8])), (x1, .inr (0, [.ref x2, .ref x3, .ref x4, .int (-1), .int 0, .int 0, .int 0, .int 0])), (x2, .inl (cAx, 4, .inl (fun _ => 0))), (x3, .inl (cAx, 16, .inl (fun _ => 0))), (x4, .inl (cAx, 5, .inl (fun _ => 0))), (x5, .inr (3, [.ref x1, .ref x6])), (x6, .inr (1, [.ref x7])), (x7, .inl (cAx, 1024, .inl (fun _ => 0))), (x8, .inr (2, [.ref x1])), (om, .inr (5, [.int (-1), .ref m1, .int 0, .int 0, .ref m2, .int 0, .int 0, .ref m3, .ref m4, .int 0, .int 0, .ref m5, .ref m6, .ref m7, .ref m8, .int 0])), (m1, .inl (cAx, 4, .inl (fun _ => 0))), (m2, .inl (cAx, 16, .inl (fun _ => 0))), (m3, .inl (cAx, 4, .inl (fun _ => 0))), (m4, .inl (cAx, 4, .inl (fun _ => 0))), (m5, .inl (cAx, 2, .inl (fun _ => 0))), (m6, .inl (cAx, 16, .inl (fun _ => 0))), (m7, .inl (cAx, 262144, .inl (fun _ => 0))), (m8, .inl (cAx, 4, .inl (fun _ => 0)))] ++ wO cL ob (fun _ => 0)) := hD
  refine lv_astore_n (lv' := [(3, .ref ob), (2, .ref om), (1, .ref ox), (0, .ref b)]) hx hb dL_law_19 rfl hl (by decide) rfl (fun ls hl => ?_)
  refine lv_iconst (v := 0) hx hb dL_law_20 (by decide) ?_
  refine lv_istore (lv' := [(4, .int 0), (3, .ref ob), (2, .ref om), (1, .ref ox), (0, .ref b)]) hx hb dL_law_21 hl (by decide) rfl (fun ls hl => ?_)
  obtain ⟨ad, had⟩ : ∃ ad : Nat → Nat, ad = fun k => [x1, x2, x3, x4, x6, x7, x5, x8, ox].getD k 0 := ⟨_, rfl⟩
  obtain ⟨am, ham⟩ : ∃ am : Nat → Nat, am = fun k => [om, m1, m2, m3, m4, m5, m6, m7, m8].getD k 0 := ⟨_, rfl⟩
  have hPX : va_P (dC, dI) vwCl (wX cAx ad (mset (fun _ _ => 0) 0 3 (-1))) H := hP.sub (ws' := wX cAx ad (mset (fun _ _ => 0) 0 3 (-1))) [1, 2, 3, 4, 6, 7, 5, 8, 0] (by rw [had]; rfl)
  have hPM : va_P (dC, dI) vwCl (wM cAx am (mset (fun _ _ => 0) 0 0 (-1))) H := hP.sub (ws' := wM cAx am (mset (fun _ _ => 0) 0 0 (-1))) [9, 10, 11, 12, 13, 14, 15, 16, 17] (by rw [ham]; rfl)
  have hPO : va_P (dC, dI) vwCl (wO cL ob (fun _ => 0)) H := hP.sub (ws' := wO cL ob (fun _ => 0)) [18] rfl
  have hDD : DDs s cAx cL ad am ob := fun M N f => va_D.same (hD.sub (ws' := wX cAx ad (mset (fun _ _ => 0) 0 3 (-1)) ++ (wM cAx am (mset (fun _ _ => 0) 0 0 (-1)) ++ wO cL ob (fun _ => 0))) [1, 2, 3, 4, 6, 7, 5, 8, 0, 9, 10, 11, 12, 13, 14, 15, 16, 17, 18] (by decide) (by rw [had, ham]; rfl)) rfl
  have e8 : ad 8 = ox := by rw [had]; rfl
  have em : am 0 = om := by rw [ham]; rfl
  have hl : lv_has ls 7 [(0, .ref b), (1, .ref (ad 8)), (2, .ref (am 0)), (3, .ref ob), (4, .int (nI (3 * 0)))] := by rw [e8, em]; exact lv_sub hl [4, 3, 2, 1, 0] rfl
  exact law_loop (D := (dC, dI)) (sa := sa) ⟨C0, hst, hKx, hKL, hDD, hT, hN⟩ hL (L + 1) 0 _ _ _ H _ ls (Nat.zero_le _) (by omega) sim_init ⟨hPX, hPM, hPO⟩ hS hl
set_option maxHeartbeats 4000000 in
theorem lw_walk (l : Launch) (hflags : l.flags = flags0) (b : Addr) (xs : List Int32) : MetFree l x (headSpec (Jvm.Cond.code x code maxLocals ret :: tables_1) room_1) (lw_P b xs) (fun _ _ _ _ _ => True) lw_Q := by
  refine MetFree.of_bodyS (code := code) (maxLocals := maxLocals) (ret := ret) (by decide) ?_ ?_
  · intro args s m h hn
    obtain ⟨meth, c, h1, h2, h3, h4, h5, h6, -, -⟩ := Cond.code_spec hn (atoms_spec (ws := Jvm.Cond.code x code maxLocals ret :: tables_1) h _ List.mem_cons_self)
    exact ⟨meth, c, h1, h2, h3, h4, h5, h6⟩
  · intro p e s m args below meth c s₁ B hml0 hP _
    obtain ⟨rfl, hx, hbd, hgv⟩ := hP
    obtain ⟨scr, harrAt, hlist, hof, hsmall⟩ := hx
    obtain ⟨hcb, hkn, -, -⟩ := State.arrayAt?_spec harrAt
    have hown : s.vm.findClass R_law = some m.cls := findClass_of_methodNamed B.named
    have hts0 : ∀ c ∈ (Jvm.Cond.code x code maxLocals ret :: tables_1), c.before #[Value.ref b] s = true := atoms_spec (ws := Jvm.Cond.code x code maxLocals ret :: tables_1) B.pre
    have hts : ∀ w ∈ lw_tbl, w.before #[Value.ref b] s = true := k2_hts_sels lw_privs (fun w hw => hts0 w (List.mem_cons_of_mem _ hw)) lw_privs_ok
    have hml : c.maxLocals = 7 := B.maxLocals_eq (hts0 _ List.mem_cons_self)
    have X₀ : Stand p l e room_1 s m #[Value.ref b] below meth c s₁ [] 0 0 := Stand.of_body B
    have hh0 : s₁.heap = s.heap := by rw [B.state]; rfl
    have hsz : scr.slots.size = xs.length := by rw [← Array.length_toList, hlist, List.length_map]
    have hval : ∀ j : Nat, j < xs.length → scr.slots[j]? = some (.int (xs.getD j 0)) := fun j hj => by
      rw [← Array.getElem?_toList, hlist]
      simp [hj]
    have hbl : b < s.heap.size := (Array.getElem?_eq_some_iff.mp hcb).1
    have hX : va_X b xs.length (fun j => xs.getD j 0) s s.heap := ⟨scr, hcb, hof, hkn, hsz, hval⟩
    have K : W p l e room_1 s m #[Value.ref b] below meth c s₁.heap [] 0 0 (lw_Z below #[Value.ref b] s) (entryFrame m ([Value.ref b] : List Value).toArray 7) := by
      rw [hh0]
      exact whole_start l hflags hbd ⟨B.exec, B.bytes, B.returns, hml, hown, hts, hX, hbl, B.notSynchronized, hgv⟩
    obtain ⟨t, a1, o, b1, b2, b3⟩ := K s₁ rfl X₀
    exact ⟨t, o, a1, b1, b2, b3⟩
theorem lw_pre_spec {args : Array Value} {s : State} (h : (Jvm.Cond.and given_1 narrow_1).before args s = true) (hr : rest_1_c.before args s = true) : ∃ (b : Addr) (xs : List Int32), lw_P b xs args s := by
  have hs := flat_of_before _ h
  have hq := flat_of_before _ hr
  have hc : (Cond.count 1).before args s = true := hs _ (by decide +kernel)
  have harr : (Cond.arrayOf (.arg 0) .int).before args s = true := hs _ (by decide +kernel)
  have hle : (Cond.le (.length (.arg 0)) (.int 1536)).before args s = true := hs _ (by decide +kernel)
  have hlen : (Cond.isInt (.length (.arg 0))).before args s = true := hq _ (by decide +kernel)
  have hall : (Cond.all (.arg 0) (.isInt (.elem (.arg 0) (.index 0)))).before args s = true := hq _ (by decide +kernel)
  obtain ⟨b, xs, hb, hx⟩ := State.ints_of_pre rfl harr hlen hall
  have hsm : xs.length < 2 ^ 31 := hx.choose_spec.2.2.2
  have hev : (Term.length (.arg 0)).eval args s none [] s = some (.int xs.length.toInt32) := hx.length_eval hb
  have hv := Cond.le_ints hev (show (Term.int 1536).eval args s none [] s = some (.int 1536) from rfl)
  have hd : xs.length.toInt32 ≤ 1536 := by
    simpa [Cond.before, Cond.holds, hv] using hle
  have hN : xs.length ≤ 1536 := (Int32.ofNat_le_ofNat hsm (by decide)).mp (show Int32.ofNat xs.length ≤ Int32.ofNat 1536 from hd)
  exact ⟨b, xs, Cond.one_arg hc (show args[0]? = some (.ref b) from hb), hx, hN, h⟩
theorem lw_comes (l : Launch) (hflags : l.flags = flags0) : Comes l x (Jvm.Cond.code x code maxLocals ret :: tables_1) room_1 (fun tb e args s => Calls_1 tb e args s ∧ rest_1 tb e args s ∧ Pre_1 tb e args s)
    (fun _ _ args s o t => lw_Q args s o t) := by
  intro p e ha hc hk s m args below hf hfit hheap happ hpre
  obtain ⟨b, xs, hP⟩ := lw_pre_spec hpre.2.2 hpre.2.1
  obtain ⟨k, o, h1, h2, h3, hQ⟩ := lw_walk l hflags b xs p e ha hc hk s m args below hf ((Spec.applies_iff_loose hf).mp happ).1 hP trivial
  exact ⟨k, o, h1, h2, h3, hQ⟩
theorem lw_frame {s t : State} {o : Outcome} {args : Array Value} (h : Framed s o t [] room_1.cells room_1.slots) :
    Framed s o t (fieldLocs frame_1_writes args s ++ arrayLocs frame_1_arrays args s ++ staticLocs frame_1_statics s) room_1.cells room_1.slots := h
theorem lw_limb (L : Cond) (hL : ∀ (args : Array Value) (s t : State), L.after args s (.returned (some (.int 1))) t = true) :
    ArmFor flags0 classFile x code maxLocals ret World_1 tables_1 room_1 Calls_1 rest_1 Pre_1
      (fun tb e a s o t => postC L tb e a s o t ∧ Framed s o t (fieldLocs frame_1_writes a s ++ arrayLocs frame_1_arrays a s ++ staticLocs frame_1_statics s) room_1.cells room_1.slots) := by
  intro l hflags _ _ p e ha hc hk s m args below hf hfit hheap happ hpre
  obtain ⟨k, o, h1, h2, h3, rfl, hF⟩ := lw_comes l hflags p e ha hc hk s m args below hf hfit hheap happ hpre
  exact ⟨k, _, h1, h2, h3, hL args s _, lw_frame hF⟩
theorem i_vc : Claimed_1_1 ∧ Claimed_1_2 := ⟨lw_limb limb_1_1 (fun args s t => by simp [limb_1_1, Cond.after, Cond.holds, Cond.value]), lw_limb limb_1_2 (fun args s t => Cond.after_iff.mpr (by
  first | (rw [show limb_1_2 = Cond.eq .result (.int 1) from rfl, Cond.eq_ints (x := 1) (y := 1) rfl rfl]; simp; done) | (simp [limb_1_2, Cond.value, Term.eval]; done)))⟩
