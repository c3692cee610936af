/-! dealing: begin, give, start, isStarted -/
theorem m1t : (-1 : Int32).toInt = -1 := by decide
theorem rgt (x : Int32) : (∃ τ, τ ≤ 4 ∧ x = tv τ ∧ ¬ x < -1 ∧ x < 4 ∧ fX6_in x (-1) 3 = 1) ∨ (fX6_in x (-1) 3 = 0 ∧ (x < -1 ∨ (¬ x < -1 ∧ ¬ x < 4))) := by
  unfold fX6_in
  by_cases h1 : x < -1
  · exact Or.inr ⟨if_pos h1, Or.inl h1⟩
  · rw [if_neg h1]
    by_cases h0 : x < 0
    · have hx : x = -1 := by
        apply Int32.toInt_inj.mp
        rw [Int32.lt_iff_toInt_lt, m1t] at h1
        rw [Int32.lt_iff_toInt_lt, i0] at h0
        rw [m1t]; omega
      exact Or.inl ⟨4, Nat.le_refl _, by rw [hx]; rfl, h1, by rw [hx]; decide, by rw [hx]; decide⟩
    · obtain ⟨p, hp, rfl⟩ := nn_ex h0
      simp only [show (3 : Int32) = nI 3 from rfl, show (4 : Int32) = nI 4 from rfl, lt_N (show 3 < 2 ^ 31 by omega) hp, lt_N hp (show 4 < 2 ^ 31 by omega)]
      by_cases h4 : p < 4
      · exact Or.inl ⟨p, by omega, by unfold tv; rw [if_pos h4], h1, h4, if_neg (by omega)⟩
      · exact Or.inr ⟨if_pos (by omega), Or.inr ⟨h1, h4⟩⟩
theorem sim_begin {M N : Mem} (h : Inv M N) (p1 : Int32) : ∃ (r : Res) (q : Int32 × Mem), fX5_begin p1 M = r ∧ fX6_begin p1 N = some q ∧ (r.1 = 0 ∨ r.1 = 1) ∧ q.2 0 6 = hcd 1 r ∧ (r.1 = 0 → r.2.1 = q.1) ∧ Inv r.2.2 q.2 := by
  unfold fX5_begin fX6_begin
  rcases rgt p1 with ⟨τ, hτ, rfl, h1, h2, h3⟩ | ⟨h3, h4⟩
  · rw [if_neg h1, if_pos h2, h3, if_neg (show ¬ (1 : Int32) = 0 by decide)]
    generalize hN0 : mset (mset (mset (mset (mset (mset (mset (mset (mset N 0 6 0) 0 0 (tv τ)) 0 2 0) 0 5 0) 0 3 0) 1 0 0) 1 1 0) 1 2 0) 1 3 0 = N0
    have g00 : N0 0 0 = tv τ := by rw [← hN0]; simp only [mset_at]; simp
    have g02 : N0 0 2 = 0 := by rw [← hN0]; simp only [mset_at]; simp
    have g03 : N0 0 3 = 0 := by rw [← hN0]; simp only [mset_at]; simp
    have g05 : N0 0 5 = 0 := by rw [← hN0]; simp only [mset_at]; simp
    have g06 : N0 0 6 = 0 := by rw [← hN0]; simp only [mset_at]; simp
    have g1 : ∀ p, p < 4 → N0 1 p = 0 := fun p hp => by
      rw [← hN0]; simp only [mset_at]
      obtain rfl | rfl | rfl | rfl : p = 0 ∨ p = 1 ∨ p = 2 ∨ p = 3 := by omega
      all_goals simp
    obtain ⟨N', e, r3, r4, r9, r10, r5, ri, rj⟩ := replay_ok (N := N0) (τ := τ) (l := 0) (n := 0) (d := fun _ => 0) (pl := fun _ => 0) hτ (by omega) (by omega) (fun k hk => by omega) g00 g03 g05 g1 (fun k hk => by omega)
    rw [e]
    refine ⟨_, _, rfl, rfl, Or.inl rfl, ?_, fun _ => ?_, ?_⟩
    · show N' 0 6 = _
      rw [rj 6 (by decide) (by decide), g06]; rfl
    · show M 0 3 = N 0 0
      obtain ⟨τ', t1, t2, t3, -⟩ := h
      rw [t2, t3]
    · show Inv (fX1_clearFor (tv τ) M).2 N'
      unfold fX1_clearFor
      refine ⟨τ, hτ, ?_, ?_, Or.inl ⟨fun _ => 0, ?_, ?_, fun p hp => c24_0, fun p hp => ?_, fun p q _ _ _ c hb => ?_, fun c => ?_, ?_, fun p hp => ?_, ?_, ?_, fun p hp => ?_, fun p hp => ?_, ?_, fun s hs => ?_⟩⟩
      · simp only [mset_at]; simp
      · rw [rj 0 (by decide) (by decide), g00]
      · simp only [mset_at]; simp
      · rw [rj 2 (by decide) (by decide), g02]
      · show cnt 0 ≤ 4
        rw [show cnt 0 = 0 from cn_all0 24 (fun c _ => bt_0 c)]; omega
      · rw [bt_0] at hb; cases hb
      · simp only [mset_at]
        simp [bt_0]
      · simp only [mset_at]; simp
      · simp only [mset_at]
        obtain rfl | rfl | rfl | rfl : p = 0 ∨ p = 1 ∨ p = 2 ∨ p = 3 := by omega
        all_goals simp
      · rw [rj 3 (by decide) (by decide), g03]
      · rw [rj 5 (by decide) (by decide), g05]
      · rw [ri 1 (by decide) (by decide) (by decide) (by decide), g1 p hp]
      · rw [r3 p hp]; rfl
      · rw [r9]; rfl
      · rw [r5 s hs]; rfl
  · rw [h3, if_pos (show (0 : Int32) = 0 from rfl)]
    have hr : (if p1 < -1 then ((1, 0, M) : Res) else if p1 < 4 then (0, (fX1_clearFor p1 M).1, (fX1_clearFor p1 M).2) else (1, 0, M)) = (1, 0, M) := by
      rcases h4 with h4 | ⟨h4, h5⟩
      · rw [if_pos h4]
      · rw [if_neg h4, if_neg h5]
    rw [hr]
    exact ⟨_, _, rfl, rfl, Or.inr rfl, thr6 N 1, fun z => (by cases z), h.sn (SN.thr N 1)⟩
theorem cnt_add {x : Int32} {c : Nat} (hc : c < 24) (hb : bt x c = false) : cnt (x ||| sl 1 (nI c)) = cnt x + 1 := by
  have h1 : bt (x ||| sl 1 (nI c)) c = true := by rw [bt_addc hc]; simp
  have h2 := cnt_rem hc h1
  have h3 : (x ||| sl 1 (nI c)) &&& (sl 1 (nI c) ^^^ (-1)) = x := by
    apply bt_ext; intro d hd
    rw [bt_rem hc hd, bt_addc hc]
    by_cases hdc : d = c
    · rw [hdc, hb]; simp
    · simp [hdc]
  rw [h3] at h2
  exact h2.symm
theorem sim_give {M N : Mem} (h : Inv M N) (p1 : Int32) (p2 : Int32) : ∃ (r : Res) (q : Int32 × Mem), fX5_give p1 p2 M = r ∧ fX6_give p1 p2 N = some q ∧ (r.1 = 0 ∨ r.1 = 1 ∨ r.1 = 2) ∧ q.2 0 6 = hcd 1 r ∧ (r.1 = 0 → r.2.1 = q.1) ∧ Inv r.2.2 q.2 := by
  unfold fX5_give fX6_give
  rcases nP p1 with ⟨p, hp, rfl, hi, hnp⟩ | ⟨hi, hnp⟩
  rotate_left
  · rw [hnp, if_neg (show ¬ (1 : Nat) = 0 by decide), hi, if_pos (show (0 : Int32) = 0 from rfl)]
    exact ⟨_, _, rfl, rfl, Or.inr (Or.inl rfl), thr6 N 1, fun z => (by cases z), h.sn (SN.thr N 1)⟩
  rw [hnp, if_pos (show (0 : Nat) = 0 from rfl), hi, if_neg (show ¬ (1 : Int32) = 0 by decide)]
  rcases nC p2 with ⟨c, hc, rfl, hi2, hnc⟩ | ⟨hi2, hnc⟩
  rotate_left
  · rw [hnc, if_neg (show ¬ (1 : Nat) = 0 by decide), hi2, if_pos (show (0 : Int32) = 0 from rfl)]
    exact ⟨_, _, rfl, rfl, Or.inr (Or.inl rfl), thr6 N 1, fun z => (by cases z), h.sn (SN.thr N 1)⟩
  rw [hnc, if_pos (show (0 : Nat) = 0 from rfl), hi2, if_neg (show ¬ (1 : Int32) = 0 by decide)]
  have hbad : ∃ (r : Res) (q : Int32 × Mem), ((2, 0, M) : Res) = r ∧ some ((0 : Int32), mset (mset N 0 6 0) 0 6 2) = some q ∧ (r.1 = 0 ∨ r.1 = 1 ∨ r.1 = 2) ∧ q.2 0 6 = hcd 1 r ∧ (r.1 = 0 → r.2.1 = q.1) ∧ Inv r.2.2 q.2 :=
    ⟨_, _, rfl, rfl, Or.inr (Or.inr rfl), thr6 (mset N 0 6 0) 2, fun z => (by cases z), h.sn (SN.thr2 N 0 2)⟩
  have h' := h
  obtain ⟨τ, hτ, hM3, hN0, ⟨d, hD⟩ | ⟨T, d, l, n, pl, hG⟩⟩ := h'
  · have hk := hD.lk
    obtain ⟨a1, a2, a3, a4, a5, a6, a7, a8, a9, a10, a11, a12, a13, a14⟩ := id hD
    dsimp only
    have hall : bt (fX6_all (mset N 0 6 0)) c = true ↔ ∃ q, q < 4 ∧ bt (d q) c = true := by
      rw [all_bt, mset_n _ _ _ (by decide)]
      constructor
      · rintro ⟨q, q1, q2⟩; rw [a12 q q1] at q2; exact ⟨q, q1, q2⟩
      · rintro ⟨q, q1, q2⟩; exact ⟨q, q1, by rw [a12 q q1]; exact q2⟩
    rw [a2, if_pos (show (0 : Int32) = 0 from rfl), has_eq (show c < 32 by omega)]
    have h4e : ((4 : Int32) ≤ nI (cnt (d p))) = (4 ≤ cnt (d p)) := le_N (a := 4) (by omega) (by have := a4 p hp; omega)
    have hcan : fX1_canDeal (nI p) (nI c) M = if bt (M 0 4) c = true then 0 else if 4 ≤ cnt (d p) then 0 else 1 := by
      unfold fX1_canDeal
      rw [a1, if_pos (show (0 : Int32) = 0 from rfl), fX0_holds_eq _ hc, hk.hand hp, bitCount_ok (a3 p hp)]
      simp only [h4e]
      cases bt (M 0 4) c <;> rfl
    by_cases hgiv : ∃ q, q < 4 ∧ bt (d q) c = true
    · have hc0 : fX1_canDeal (nI p) (nI c) M = 0 := by rw [hcan, if_pos ((a6 c).mpr hgiv)]
      rw [hc0, if_pos (show (0 : Int32) = 0 from rfl), if_pos (hall.mpr hgiv), if_neg (show ¬ (1 : Int32) = 0 by decide)]
      exact hbad
    · rw [if_neg (fun z => hgiv ((a6 c).mp z))] at hcan
      rw [if_neg (fun z => hgiv (hall.mp z)), if_pos (show (0 : Int32) = 0 from rfl), if_pos (vin_N hp (by omega)), cl_N (by omega), a11 p hp, size_ok]
      simp only [ob_s]
      by_cases h4 : cnt (d p) = 4
      · have hc0 : fX1_canDeal (nI p) (nI c) M = 0 := by rw [hcan, if_pos (show 4 ≤ cnt (d p) by omega)]
        rw [hc0, if_pos (show (0 : Int32) = 0 from rfl), if_pos (show nI (cnt (d p)) = 4 by rw [h4]; rfl)]
        exact hbad
      · have hlt : cnt (d p) < 4 := by have := a4 p hp; omega
        have hc0 : fX1_canDeal (nI p) (nI c) M = 1 := by rw [hcan, if_neg (show ¬ 4 ≤ cnt (d p) by omega)]
        rw [hc0, if_neg (show ¬ (1 : Int32) = 0 by decide), if_neg (show ¬ nI (cnt (d p)) = 4 by rw [show (4 : Int32) = nI 4 from rfl, eq_N (by omega) (by omega)]; exact h4), if_pos (vin_N hp (by omega)), if_pos (vin_N hp (by omega))]
        have hcf : ∀ q, q < 4 → bt (d q) c = false := fun q hq => by
          cases hz : bt (d q) c with
          | false => rfl
          | true => exact absurd ⟨q, hq, hz⟩ hgiv
        generalize hN0' : mset (mset N 0 6 0) 1 p (d p ||| sl 1 (nI c)) = N0
        have hN1 : N0 1 = upd (N 1) p (d p ||| sl 1 (nI c)) := by rw [← hN0', mset_s, mset_n _ _ _ (by decide)]
        have hNj : ∀ j, j ≠ 6 → N0 0 j = N 0 j := fun j hj => by rw [← hN0', mset_n _ _ _ (by decide), mset_at, if_neg (fun z => hj z.2)]
        have hN6 : N0 0 6 = 0 := by rw [← hN0', mset_n _ _ _ (by decide)]; exact thr6 N 0
        let d' : Nat → Int32 := fun q => if q = p then d p ||| sl 1 (nI c) else d q
        have hd'p : d' p = d p ||| sl 1 (nI c) := if_pos rfl
        have hd'n : ∀ q, q ≠ p → d' q = d q := fun q hq => if_neg hq
        have g1 : ∀ q, q < 4 → N0 1 q = d' q := fun q hq => by
          rw [hN1]
          by_cases hqp : q = p
          · rw [hqp, upd_s, hd'p]
          · rw [upd_n _ _ hqp, hd'n q hqp, a11 q hq]
        obtain ⟨N', e, r3, r4, r9, r10, r5, ri, rj⟩ := replay_ok (N := N0) (τ := τ) (l := 0) (n := 0) (d := d') (pl := fun _ => 0) hτ (by omega) (by omega) (fun k hk => by omega) (by rw [hNj 0 (by decide)]; exact hN0) (by rw [hNj 3 (by decide)]; exact a9) (by rw [hNj 5 (by decide)]; exact a10) g1 (fun k hk => by omega)
        rw [e]
        simp only [ob_s]
        rw [if_pos (vin_N hp (by omega)), size_ok]
        have hN'1 : ∀ q, q < 4 → N' 1 q = d' q := fun q hq => by rw [ri 1 (by decide) (by decide) (by decide) (by decide), g1 q hq]
        rw [hN'1 p hp]
        have hM' : fX1_addTo (nI p) (nI c) (mset M 0 4 (M 0 4 ||| sl 1 (nI c))) = mset (mset M 0 4 (M 0 4 ||| sl 1 (nI c))) 1 p (d p ||| sl 1 (nI c)) := by
          unfold fX1_addTo
          rw [if_neg (nn_N (by omega)), if_neg (show ¬ (4 : Int32) ≤ nI p from nI_ge (b := 4) (by omega) (by omega)), cl_N (by omega)]
          congr 2
          rw [mset_n _ _ _ (by decide)]; exact a8 p hp
        unfold fX1_deal
        rw [hM']
        generalize hM2 : mset (mset M 0 4 (M 0 4 ||| sl 1 (nI c))) 1 p (d p ||| sl 1 (nI c)) = M2
        have gM1 : ∀ q, q < 4 → M2 1 q = d' q := fun q hq => by
          rw [← hM2, mset_s, mset_n _ _ _ (by decide)]
          by_cases hqp : q = p
          · rw [hqp, upd_s, hd'p]
          · rw [upd_n _ _ hqp, hd'n q hqp, a8 q hq]
        have gMj : ∀ j, j ≠ 4 → M2 0 j = M 0 j := fun j hj => by rw [← hM2, mset_n _ _ _ (by decide), mset_at, if_neg (fun z => hj z.2)]
        have gM4 : M2 0 4 = M 0 4 ||| sl 1 (nI c) := by rw [← hM2, mset_n _ _ _ (by decide), mset_at, if_pos ⟨rfl, rfl⟩]
        have hc24 : ∀ q, q < 4 → c24 (d' q) := fun q hq => by
          by_cases hqp : q = p
          · rw [hqp, hd'p]; exact c24_or (a3 p hp) (c24_one hc)
          · rw [hd'n q hqp]; exact a3 q hq
        have hbt : ∀ q, q < 4 → ∀ e, bt (d' q) e = true ↔ bt (d q) e = true ∨ (q = p ∧ e = c) := fun q hq e => by
          by_cases hqp : q = p
          · rw [hqp, hd'p, bt_addc hc, Bool.or_eq_true, decide_eq_true_eq]
            exact ⟨fun z => z.elim Or.inl (fun y => Or.inr ⟨rfl, y⟩), fun z => z.elim Or.inl (fun y => Or.inr y.2)⟩
          · rw [hd'n q hqp]
            exact ⟨Or.inl, fun z => z.elim id (fun y => absurd y.1 hqp)⟩
        have hInv : Inv M2 N' := by
          refine ⟨τ, hτ, by rw [gMj 3 (by decide)]; exact hM3, by rw [rj 0 (by decide) (by decide), hNj 0 (by decide)]; exact hN0, Or.inl ⟨d', by rw [gMj 5 (by decide)]; exact a1, by rw [rj 2 (by decide) (by decide), hNj 2 (by decide)]; exact a2, hc24, fun q hq => ?_, fun q s hq hs hqs e he => ?_, fun e => ?_, by rw [gMj 7 (by decide)]; exact a7, gM1, by rw [rj 3 (by decide) (by decide), hNj 3 (by decide)]; exact a9, by rw [rj 5 (by decide) (by decide), hNj 5 (by decide)]; exact a10, hN'1, fun q hq => by rw [r3 q hq]; rfl, by rw [r9]; rfl, fun s hs => by rw [r5 s hs]; rfl⟩⟩
          · by_cases hqp : q = p
            · rw [hqp, hd'p, cnt_add hc (hcf p hp)]; omega
            · rw [hd'n q hqp]; exact a4 q hq
          · cases hz : bt (d' s) e with
            | false => rfl
            | true =>
              rcases (hbt q hq e).mp he with y | ⟨y1, y2⟩
              · rcases (hbt s hs e).mp hz with w | ⟨w1, w2⟩
                · have := a5 q s hq hs hqs e y
                  rw [w] at this; cases this
                · rw [w2, hcf q hq] at y; cases y
              · rcases (hbt s hs e).mp hz with w | ⟨w1, w2⟩
                · rw [y2, hcf s hs] at w; cases w
                · exact absurd (y1.trans w1.symm) hqs
          · rw [gM4, bt_addc hc, Bool.or_eq_true, decide_eq_true_eq, a6 e]
            constructor
            · rintro (⟨q, q1, q2⟩ | y)
              · exact ⟨q, q1, (hbt q q1 e).mpr (Or.inl q2)⟩
              · exact ⟨p, hp, (hbt p hp e).mpr (Or.inr ⟨rfl, y⟩)⟩
            · rintro ⟨q, q1, q2⟩
              rcases (hbt q q1 e).mp q2 with y | ⟨-, y⟩
              · exact Or.inl ⟨q, q1, y⟩
              · exact Or.inr y
        have hres : fX1_handOf (nI p) M2 = d' p := by
          unfold fX1_handOf
          rw [if_neg (nn_N (by omega)), if_neg (show ¬ (4 : Int32) ≤ nI p from nI_ge (b := 4) (by omega) (by omega)), cl_N (by omega)]
          exact gM1 p hp
        refine ⟨_, _, rfl, rfl, Or.inl rfl, ?_, fun _ => ?_, hInv⟩
        · show N' 0 6 = _
          rw [rj 6 (by decide) (by decide), hN6]; rfl
        · show fJ6_bitCount_0f7a4 (fX1_handOf (nI p) M2) = nI (cnt (d' p))
          rw [hres, bitCount_ok (hc24 p hp)]
  · have hf : M 0 5 = 1 := hG.2.2.1.2.1
    dsimp only
    rw [hG.1, if_neg (show ¬ (1 : Int32) = 0 by decide)]
    have hc0 : fX1_canDeal (nI p) (nI c) M = 0 := by unfold fX1_canDeal; rw [hf, if_neg (show ¬ (1 : Int32) = 0 by decide)]
    rw [hc0, if_pos (show (0 : Int32) = 0 from rfl)]
    exact hbad
theorem sim_isStarted {M N : Mem} (h : Inv M N) : ∃ (v : Int32) (q : Int32 × Mem), fX5_isStarted M = some v ∧ fX6_isStarted N = some q ∧ v = q.1 ∧ Inv M q.2 := by
  have hf : (M 0 5 = 0 ∧ N 0 2 = 0) ∨ (M 0 5 = 1 ∧ N 0 2 = 1) := by
    obtain ⟨τ, hτ, hM3, hN0, ⟨d, hD⟩ | ⟨T, d, l, n, pl, hG⟩⟩ := h
    · exact Or.inl ⟨hD.1, hD.2.1⟩
    · exact Or.inr ⟨hG.2.2.1.2.1, hG.1⟩
  unfold fX5_isStarted fX6_isStarted fX1_isOpen
  rcases hf with ⟨e1, e2⟩ | ⟨e1, e2⟩
  · rw [e1, e2, if_pos (show vb 0 = true by decide)]
    simp only [ob_s]
    rw [if_pos (show vb 0 = true by decide), if_pos (show vb 0 = true by decide)]
    exact ⟨_, _, rfl, rfl, rfl, h.sn (SN.thr N 0)⟩
  · rw [e1, e2, if_pos (show vb 1 = true by decide)]
    simp only [ob_s]
    rw [if_pos (show vb 1 = true by decide), if_pos (show vb 1 = true by decide)]
    exact ⟨_, _, rfl, rfl, rfl, h.sn (SN.thr N 0)⟩
theorem sim_start {M N : Mem} (h : Inv M N) (p1 : Int32) : ∃ (r : Res) (q : Int32 × Mem), fX5_start p1 M = some r ∧ fX6_start p1 N = some q ∧ (r.1 = 0 ∨ r.1 = 1 ∨ r.1 = 2) ∧ q.2 0 6 = hcd 1 r ∧ (r.1 = 0 → r.2.1 = q.1) ∧ Inv r.2.2 q.2 := by
  unfold fX5_start fX6_start
  rcases nP p1 with ⟨l, hl, rfl, hi, hnp⟩ | ⟨hi, hnp⟩
  rotate_left
  · rw [hnp, if_neg (show ¬ (1 : Nat) = 0 by decide), hi, if_pos (show (0 : Int32) = 0 from rfl), size_ok]
    exact ⟨_, _, rfl, rfl, Or.inr (Or.inl rfl), thr6 N 1, fun z => (by cases z), h.sn (SN.thr N 1)⟩
  rw [hnp, if_pos (show (0 : Nat) = 0 from rfl), hi, if_neg (show ¬ (1 : Int32) = 0 by decide), size_ok]
  dsimp only
  have hbad : ∃ (r : Res) (q : Int32 × Mem), some ((2, 0, M) : Res) = some r ∧ some ((0 : Int32), mset (mset N 0 6 0) 0 6 2) = some q ∧ (r.1 = 0 ∨ r.1 = 1 ∨ r.1 = 2) ∧ q.2 0 6 = hcd 1 r ∧ (r.1 = 0 → r.2.1 = q.1) ∧ Inv r.2.2 q.2 :=
    ⟨_, _, rfl, rfl, Or.inr (Or.inr rfl), thr6 (mset N 0 6 0) 2, fun z => (by cases z), h.sn (SN.thr2 N 0 2)⟩
  have h' := h
  obtain ⟨τ, hτ, hM3, hN0, ⟨d, hD⟩ | ⟨T, d, l', n, pl, hG⟩⟩ := h'
  rotate_left
  · have hf : M 0 5 = 1 := hG.2.2.1.2.1
    simp only [ob_s]
    rw [hG.1, if_neg (show ¬ (1 : Int32) = 0 by decide)]
    have hc0 : fX1_canOpen M = 0 := by unfold fX1_canOpen; rw [hf, if_neg (show ¬ (1 : Int32) = 0 by decide)]
    rw [hc0, if_pos (show (0 : Int32) = 0 from rfl)]
    exact hbad
  have hk := hD.lk
  obtain ⟨a1, a2, a3, a4, a5, a6, a7, a8, a9, a10, a11, a12, a13, a14⟩ := id hD
  simp only [ob_s]
  have b0 := a4 0 (by omega)
  have b1 := a4 1 (by omega)
  have b2 := a4 2 (by omega)
  have b3 := a4 3 (by omega)
  rw [a2, if_pos (show (0 : Int32) = 0 from rfl), a11 0 (by omega), a11 1 (by omega), a11 2 (by omega), a11 3 (by omega), size_ok, size_ok, size_ok]
  have z0 : (nI (cnt (d 0)) = 0) = (cnt (d 0) = 0) := eq_N (b := 0) (by omega) (by omega)
  have z1 : (nI (cnt (d 1)) = nI (cnt (d 0))) = (cnt (d 1) = cnt (d 0)) := eq_N (by omega) (by omega)
  have z2 : (nI (cnt (d 2)) = nI (cnt (d 0))) = (cnt (d 2) = cnt (d 0)) := eq_N (by omega) (by omega)
  have z3 : (nI (cnt (d 3)) = nI (cnt (d 0))) = (cnt (d 3) = cnt (d 0)) := eq_N (by omega) (by omega)
  have hcan : fX1_canOpen M = if cnt (d 0) = 0 then 0 else if cnt (d 1) = cnt (d 0) then if cnt (d 2) = cnt (d 0) then if cnt (d 3) = cnt (d 0) then 1 else 0 else 0 else 0 := by
    unfold fX1_canOpen
    rw [a1, if_pos (show (0 : Int32) = 0 from rfl), show fX1_handOf 0 M = d 0 from hk.hand (p := 0) (by omega), show fX1_handOf 1 M = d 1 from hk.hand (p := 1) (by omega), show fX1_handOf 2 M = d 2 from hk.hand (p := 2) (by omega), show fX1_handOf 3 M = d 3 from hk.hand (p := 3) (by omega), bitCount_ok (a3 0 (by omega)), bitCount_ok (a3 1 (by omega)), bitCount_ok (a3 2 (by omega)), bitCount_ok (a3 3 (by omega))]
    simp only [z0, z1, z2, z3]
  simp only [ob_s, z0, z1, z2, z3]
  by_cases e0 : cnt (d 0) = 0
  · have hc0 : fX1_canOpen M = 0 := by rw [hcan, if_pos e0]
    rw [hc0, if_pos (show (0 : Int32) = 0 from rfl), if_pos e0]
    exact hbad
  rw [if_neg e0] at hcan
  rw [if_neg e0]
  by_cases e1 : cnt (d 1) = cnt (d 0)
  rotate_left
  · have hc0 : fX1_canOpen M = 0 := by rw [hcan, if_neg e1]
    rw [hc0, if_pos (show (0 : Int32) = 0 from rfl), if_neg e1]
    exact hbad
  rw [if_pos e1] at hcan
  rw [if_pos e1]
  by_cases e2 : cnt (d 2) = cnt (d 0)
  rotate_left
  · have hc0 : fX1_canOpen M = 0 := by rw [hcan, if_neg e2]
    rw [hc0, if_pos (show (0 : Int32) = 0 from rfl), if_neg e2]
    exact hbad
  rw [if_pos e2] at hcan
  rw [if_pos e2]
  by_cases e3 : cnt (d 3) = cnt (d 0)
  rotate_left
  · have hc0 : fX1_canOpen M = 0 := by rw [hcan, if_neg e3]
    rw [hc0, if_pos (show (0 : Int32) = 0 from rfl), if_neg e3]
    exact hbad
  rw [if_pos e3] at hcan
  rw [hcan, if_pos e3, if_neg (show ¬ (1 : Int32) = 0 by decide)]
  obtain ⟨M', ef, f5, fi⟩ := forget_ok M
  rw [ef]
  generalize hT : cnt (d 0) = T
  have hcT : ∀ p, p < 4 → cnt (d p) = T := fun p hp => by
    obtain rfl | rfl | rfl | rfl : p = 0 ∨ p = 1 ∨ p = 2 ∨ p = 3 := by omega
    · exact hT
    · rw [e1, hT]
    · rw [e2, hT]
    · rw [e3, hT]
  generalize hN0' : mset (mset (mset N 0 6 0) 0 2 1) 0 3 (nI l) = N0
  have hNi : ∀ i, i ≠ 0 → N0 i = N i := fun i hi => by rw [← hN0', mset_n _ _ _ hi, mset_n _ _ _ hi, mset_n _ _ _ hi]
  have hNj : ∀ j, j ≠ 6 → j ≠ 2 → j ≠ 3 → N0 0 j = N 0 j := fun j j6 j2 j3 => by rw [← hN0']; simp only [mset_at]; simp [j6, j2, j3]
  have hN6 : N0 0 6 = 0 := by rw [← hN0']; simp only [mset_at]; simp
  have hN2 : N0 0 2 = 1 := by rw [← hN0']; simp only [mset_at]; simp
  have hN3 : N0 0 3 = nI l := by rw [← hN0']; simp only [mset_at]; simp
  obtain ⟨N', e, r3, r4, r9, r10, r5, ri, rj⟩ := replay_ok (N := N0) (τ := τ) (l := l) (n := 0) (d := d) (pl := fun _ => 0) hτ hl (by omega) (fun k hk => by omega) (by rw [hNj 0 (by decide) (by decide) (by decide)]; exact hN0) hN3 (by rw [hNj 5 (by decide) (by decide) (by decide)]; exact a10) (fun p hp => by rw [hNi 1 (by decide)]; exact a11 p hp) (fun k hk => by omega)
  rw [e]
  have hM'1 : fX1_handOf 0 (mset M' 0 5 1) = d 0 := by
    unfold fX1_handOf
    rw [if_neg (by decide), if_neg (by decide), mset_n _ _ _ (by decide), fi 1 (by decide)]
    exact a8 0 (by omega)
  unfold fX1_open
  simp only [ob_s]
  rw [hM'1, bitCount_ok (a3 0 (by omega)), hT]
  generalize hM2 : mset (mset (mset M' 0 5 1) 0 6 (nI T)) 3 0 (nI l) = M2
  have gi : ∀ i, i ≠ 0 → i ≠ 3 → M2 i = M' i := fun i h0 h3 => by rw [← hM2, mset_n _ _ _ h3, mset_n _ _ _ h0, mset_n _ _ _ h0]
  have gj : ∀ j, j ≠ 5 → j ≠ 6 → M2 0 j = M 0 j := fun j h5 h6 => by rw [← hM2]; simp only [mset_at]; simp [h5, h6, fi 0 (by decide)]
  have g5 : M2 0 5 = 1 := by rw [← hM2]; simp only [mset_at]; simp
  have g6 : M2 0 6 = nI T := by rw [← hM2]; simp only [mset_at]; simp
  have g3 : M2 3 0 = nI l := by rw [← hM2]; simp only [mset_at]; simp
  have hInv : Inv M2 N' := by
    refine ⟨τ, hτ, by rw [gj 3 (by decide) (by decide)]; exact hM3, by rw [rj 0 (by decide) (by decide), hNj 0 (by decide) (by decide) (by decide)]; exact hN0, Or.inr ⟨T, d, l, 0, fun _ => 0, by rw [rj 2 (by decide) (by decide)]; exact hN2, ⟨hτ, by omega, by omega, by omega, hl, a3, hcT, a5, fun k hk => by omega⟩, ⟨by rw [gj 3 (by decide) (by decide)]; exact hM3, g5, g6, by rw [gj 7 (by decide) (by decide)]; exact a7, fun p hp => ?_, fun k hk => by omega, fun j hj => ?_⟩, ⟨by rw [rj 0 (by decide) (by decide), hNj 0 (by decide) (by decide) (by decide)]; exact hN0, r3, r4, r9, r10⟩, r5, by rw [rj 3 (by decide) (by decide)]; exact hN3, by rw [rj 5 (by decide) (by decide), hNj 5 (by decide) (by decide) (by decide)]; exact a10, fun p hp => ?_, fun k hk => by omega, KOK_0 (fun s hs => ?_)⟩⟩
    · rw [gi 1 (by decide) (by decide), fi 1 (by decide)]; exact a8 p hp
    · rw [show j = 0 by omega]; exact g3
    · rw [ri 1 (by decide) (by decide) (by decide) (by decide), hNi 1 (by decide)]; exact a11 p hp
    · rw [gi 5 (by decide) (by decide)]; exact f5 s hs
  refine ⟨_, _, rfl, rfl, Or.inl rfl, ?_, fun _ => rfl, hInv⟩
  show N' 0 6 = _
  rw [rj 6 (by decide) (by decide), hN6]; rfl
theorem sim_init : Inv (mset (fun _ _ => 0) 0 3 (-1)) (mset (fun _ _ => 0) 0 0 (-1)) := by
  refine ⟨4, Nat.le_refl _, by simp only [mset_at]; rfl, by simp only [mset_at]; rfl, Or.inl ⟨fun _ => 0, ?_, ?_, fun p hp => c24_0, fun p hp => ?_, fun p q _ _ _ c hb => ?_, fun c => ?_, ?_, fun p hp => ?_, ?_, ?_, fun p hp => ?_, fun p hp => ?_, ?_, fun s hs => ?_⟩⟩
  · simp only [mset_at]; simp
  · simp only [mset_at]; simp
  · show cnt 0 ≤ 4
    rw [show cnt 0 = 0 from cn_all0 24 (fun c _ => bt_0 c)]; omega
  · rw [bt_0] at hb; cases hb
  · simp only [mset_at]
    simp [bt_0]
  all_goals simp only [mset_at]; simp
