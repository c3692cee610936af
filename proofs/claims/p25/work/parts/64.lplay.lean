/-! the law plays, and takes back -/
section LP
variable {xs : Nat → Int32} {L : Nat}
theorem LG.back {N : Mem} {τ T l n : Nat} {d : Nat → Int32} {pl : Nat → Nat} (g : GameOK τ T d l (n + 1) pl) (r : LG N τ d l (n + 1) pl) : LG (mset (mset N 2 0 (nI n)) 0 (mv n (ldr τ l pl)) (N 0 (mv n (ldr τ l pl)) ||| sl 1 (nI (pl n)))) τ d l n pl := by
  obtain ⟨r1, r2, r3, r4⟩ := r
  have hm := mv_lt n (ldr τ l pl)
  obtain ⟨hc, hb⟩ := g.2.2.2.2.2.2.2.2 n (by omega)
  rw [run_mv] at hb
  have hr1 : (run τ d l pl (n + 1)).1 = hP (run τ d l pl n).1 (mv n (ldr τ l pl)) (pl n) := by
    show hP (run τ d l pl n).1 (mv n (run τ d l pl n).2) (pl n) = _
    rw [run_mv]
  have hback : N 0 (mv n (ldr τ l pl)) ||| sl 1 (nI (pl n)) = (run τ d l pl n).1 (mv n (ldr τ l pl)) := by
    rw [r1 _ hm, hr1]; exact back_h hc hb
  rw [hback]
  refine ⟨fun p hp => ?_, ⟨fun k hk => ?_, ?_, ?_⟩, ?_, ?_⟩
  · rw [mset_s]
    by_cases hpm : p = mv n (ldr τ l pl)
    · rw [hpm, upd_s]
    · rw [upd_n _ _ hpm, mset_n _ _ _ (by decide), r1 p hp, hr1]; unfold hP; rw [if_neg hpm]
  · rw [mset_n _ _ _ (by decide), mset_n _ _ _ (by decide)]; exact r2.1 k (by omega)
  · rw [mset_n _ _ _ (by decide), mset_at]; simp; exact r2.2.1
  · rw [mset_n _ _ _ (by decide), mset_at]; simp; exact r2.2.2
  · rw [mset_n _ _ _ (by decide), mset_at]; simp
  · rw [mset_n _ _ _ (by decide), mset_at]; simp; exact r4
theorem back_ok2 {M N : Mem} {τ T l n : Nat} {d : Nat → Int32} {pl : Nat → Nat} {v5 v7 : Int32} {mo : Nat} (h : IVG M N τ T d l n pl) : ∃ M' N', obind (fL_law_R673 xs L v5 v7 M N) (fun q45 => obind (fL_law_R695 xs L v5 v7 q45 M N) (fun q46 => obind (fL_law_R714 xs L v5 q46.1 v7 q45 q46.2.1 q46.2.2) (fun q47 => some (q46.1, q47.1, q47.2)))) = some (1, M', N') ∧ IV mo M' N' := by
  obtain ⟨hC, hN, hT⟩ := h
  have g := hC.1
  have w := g.wp
  have hn4 := w.2.2.1
  have hl4 := g.2.2.2.2.1
  obtain ⟨r1, r2, r3, r4⟩ := id hN
  cases n with
  | zero =>
    have e1 : fL_law_R673 xs L v5 v7 M N = some (-13) := by
      unfold fL_law_R673
      rw [r3, if_pos (show nI 0 = 0 from rfl)]
    have e2 : fL_law_R695 xs L v5 v7 (-13) M N = some (1, M, N) := by
      unfold fL_law_R695
      rw [c_back0 hC, if_pos (Or.inr rfl), dv_2, if_pos rfl]
    have e3 : fL_law_R714 xs L v5 1 v7 (-13) M N = some (M, N) := by
      unfold fL_law_R714
      rw [if_pos (by decide)]
    rw [e1, ob_s, e2, ob_s]
    dsimp only
    rw [e3, ob_s]
    exact ⟨M, N, rfl, τ, w.1, Or.inr ⟨T, d, l, 0, pl, hC, hN, hT⟩⟩
  | succ n =>
    obtain ⟨hc, hb⟩ := g.2.2.2.2.2.2.2.2 n (by omega)
    have g' := g.less
    have w' := g'.wp
    have hm := mv_lt n (ldr τ l pl)
    obtain ⟨M', eb, hC'⟩ := c_back1 hC
    have e1 : fL_law_R673 xs L v5 v7 M N = some (nI (pl n)) := by
      unfold fL_law_R673
      rw [r3, if_neg (show ¬ nI (n + 1) = 0 from nI_ne0 (by omega) (by omega)), nI_pred, if_pos (vin_N (show n < 16 by omega) (by omega)), cl_N (by omega), r2.1 n (by omega)]
    have e2 : fL_law_R695 xs L v5 v7 (nI (pl n)) M N = some (1, M', N) := by
      unfold fL_law_R695
      rw [eb, if_pos (Or.inl rfl), dv_0, if_pos rfl]
    have e3 : fL_law_R714 xs L v5 1 v7 (nI (pl n)) M' N = some (M', mset (mset N 2 0 (nI n)) 0 (mv n (ldr τ l pl)) (N 0 (mv n (ldr τ l pl)) ||| sl 1 (nI (pl n)))) := by
      unfold fL_law_R714
      have hlc : LC0 (mset N 2 0 (nI n)) τ l n pl := ⟨fun k hk => by rw [mset_n _ _ _ (by decide)]; exact r2.1 k (by omega), by rw [mset_at]; simp; exact r2.2.1, by rw [mset_at]; simp; exact r2.2.2⟩
      have hld := ldr_lt (τ := τ) hl4 pl (n / 4)
      rw [if_neg (nn_N (by omega)), r3, nI_pred, llead hlc w.1 hl4 (by omega) w'.2.2.2.2.1, ob_s, im_4 (by omega), nI_add, im_4 (by omega)]
      show (if vin (nI (mv n (ldr τ l pl))) 4 = true then _ else none) = _
      rw [if_pos (vin_N hm (by omega))]
      show (if vin (nI (mv n (ldr τ l pl))) 4 = true then _ else none) = _
      rw [if_pos (vin_N hm (by omega))]
      show some (M', mset (mset N 2 0 (nI n)) 0 (nI (mv n (ldr τ l pl))).toNatClampNeg (N 0 (nI (mv n (ldr τ l pl))).toNatClampNeg ||| sl 1 (nI (pl n)))) = _
      rw [cl_N (by omega)]
    rw [e1, ob_s, e2, ob_s]
    dsimp only
    rw [e3, ob_s]
    exact ⟨_, _, rfl, τ, w.1, Or.inr ⟨T, d, l, n, pl, hC', hN.back g, hT⟩⟩
theorem p_card {M N : Mem} {τ T l n : Nat} {d : Nat → Int32} {pl : Nat → Nat} {v5 v7 v8 : Int32} (g : GameOK τ T d l n pl) (r : LG N τ d l n pl) : ∀ F m j c, m < F → j + m = 24 → c < 24 → ∃ c', c' < 24 ∧ fL_law_L770 xs L F v5 v7 v8 (nI c) (nI j) M N = some (nI c') := by
  intro F
  induction F with
  | zero => intro m j c h; omega
  | succ F ih =>
    intro m j c hm hj hc
    rw [fL_law_L770.eq_2]
    by_cases h24 : 24 ≤ j
    · rw [if_pos (show (24 : Int32) ≤ nI j from nI_le (a := 24) h24 (by omega))]
      exact ⟨c, hc, rfl⟩
    · rw [if_neg (show ¬ (24 : Int32) ≤ nI j from nI_ge (b := 24) (by omega) (by omega)), r.can g hc, ob_s]
      split
      · split
        · exact ⟨c, hc, rfl⟩
        · rw [nI_1, show im (nI (c + 1)) 24 = nI ((c + 1) % 24) from im_N (d := 24) (by omega) (by decide) (by decide), nI_1]
          exact ih (m - 1) (j + 1) _ (by omega) (by omega) (Nat.mod_lt _ (by decide))
      · exact ⟨c, hc, rfl⟩
theorem play_ok {M N : Mem} {τ T l n x : Nat} {d : Nat → Int32} {pl : Nat → Nat} {v5 v7 : Int32} {mo : Nat} (hx : x < 2 ^ 31) (h : IVG M N τ T d l n pl) : ∃ M' N', obind (fL_law_R758 xs L v5 v7 (nI x) M N) (fun q49 => obind (fL_law_L770 xs L 25 v5 v7 (nI x) q49.1 q49.2 M N) (fun q50 => obind (fL_law_R816 xs L v5 v7 q50 M N) (fun q51 => obind (fL_law_R852 xs L v5 v7 q50 q51.1 q51.2 M N) (fun q52 => obind (fL_law_R886 xs L v5 v7 q50 q51.1 q52.1 q52.2) (fun q53 => some (q53.1, q53.2.1, q53.2.2)))))) = some (1, M', N') ∧ IV mo M' N' := by
  obtain ⟨hC, hN, hT⟩ := h
  have g := hC.1
  have w := g.wp
  have hn4 := w.2.2.1
  have hl4 := g.2.2.2.2.1
  have hm := mv_lt n (ldr τ l pl)
  obtain ⟨r1, r2, r3, r4⟩ := id hN
  have hc0 : x / 5 % 24 < 24 := Nat.mod_lt _ (by decide)
  have e1 : fL_law_R758 xs L v5 v7 (nI x) M N = some (nI (x / 5 % 24), 0) := by
    unfold fL_law_R758
    rw [show nI x / 5 = nI (x / 5) from pk_div (d := 5) hx (by decide) (by decide), show im (nI (x / 5)) 24 = nI (x / 5 % 24) from im_N (d := 24) (by omega) (by decide) (by decide)]
  obtain ⟨c, hc, e2⟩ := p_card (xs := xs) (L := L) (M := M) (v5 := v5) (v7 := v7) (v8 := nI x) g hN 25 24 0 (x / 5 % 24) (by omega) (by omega) hc0
  have e2' : fL_law_L770 xs L 25 v5 v7 (nI x) (nI (x / 5 % 24)) 0 M N = some (nI c) := e2
  have hld := ldr_lt (τ := τ) hl4 pl (n / 4)
  have e3 : fL_law_R816 xs L v5 v7 (nI c) M N = some (b01 (lgl τ T d l n pl c), nI (mv n (ldr τ l pl))) := by
    unfold fL_law_R816
    rw [hN.can g hc, ob_s, r3, llead r2 w.1 hl4 (by omega) w.2.2.2.2.1, ob_s, im_4 (by omega), nI_add, im_4 (by omega)]
    rfl
  rw [e1, ob_s]
  dsimp only
  rw [e2', ob_s, e3, ob_s]
  dsimp only
  cases hl : lgl τ T d l n pl c with
  | false =>
    have e4 : fL_law_R852 xs L v5 v7 (nI c) (b01 false) (nI (mv n (ldr τ l pl))) M N = some (M, N) := by
      unfold fL_law_R852
      rw [if_pos (show b01 false = 0 from rfl)]
    have e5 : fL_law_R886 xs L v5 v7 (nI c) (b01 false) M N = some (1, M, N) := by
      unfold fL_law_R886
      rw [c_play0 hC hc hl, ob_s, if_pos (Or.inr rfl), if_pos (show b01 false = 0 from rfl), dv_2, if_pos rfl]
    rw [e4, ob_s]
    dsimp only
    rw [e5, ob_s]
    exact ⟨M, N, rfl, τ, w.1, Or.inr ⟨T, d, l, n, pl, hC, hN, hT⟩⟩
  | true =>
    obtain ⟨hn, hleg⟩ := bq_t.mp hl
    have hb : bt ((run τ d l pl n).1 (mv n (ldr τ l pl))) c = true := legal_has hleg
    obtain ⟨M', ep, hC'⟩ := c_play1 hC hc hl
    have hrun : (run τ d l (updN pl n c) (n + 1)).1 = hP (run τ d l pl n).1 (mv n (ldr τ l pl)) c := by rw [run_more]; dsimp only; rw [run_mv]
    have w' := hC'.1.wp
    generalize hmm : mv n (ldr τ l pl) = m at *
    generalize hN1 : mset (mset (mset N 0 m ((run τ d l pl n).1 m &&& (sl 1 (nI c) ^^^ (-1)))) 1 n (nI c)) 2 0 (nI (n + 1)) = N1
    have gq : ∀ i j, N1 i j = if i = 2 ∧ j = 0 then nI (n + 1) else if i = 1 ∧ j = n then nI c else if i = 0 ∧ j = m then (run τ d l pl n).1 m &&& (sl 1 (nI c) ^^^ (-1)) else N i j := by
      intro i j; rw [← hN1]; simp only [mset_at]
    have e4 : fL_law_R852 xs L v5 v7 (nI c) (b01 true) (nI m) M N = some (M, N1) := by
      unfold fL_law_R852
      rw [if_neg (show ¬ b01 true = 0 by decide), if_pos (vin_N hm (by omega)), if_pos (vin_N hm (by omega)), r3, if_pos (vin_N (show n < 16 by omega) (by omega)), cl_N (show m < 2 ^ 31 by omega), cl_N (show n < 2 ^ 31 by omega), r1 m hm, nI_1, hN1]
    have hN' : LG N1 τ d l (n + 1) (updN pl n c) := by
      refine ⟨fun p hp => ?_, ⟨fun k hk => ?_, ?_, ?_⟩, ?_, ?_⟩
      · rw [gq, hrun]
        unfold hP
        by_cases hpm : p = m
        · subst hpm; simp
        · simp [hpm]; exact r1 p hp
      · rw [gq]
        by_cases hkn : k = n
        · subst hkn; rw [updN_s]; simp
        · rw [updN_n _ _ hkn]; simp [hkn]; exact r2.1 k (by omega)
      · rw [gq]; simp; exact r2.2.1
      · rw [gq]; simp; exact r2.2.2
      · rw [gq]; simp
      · rw [gq]; simp; exact r4
    have e5 : fL_law_R886 xs L v5 v7 (nI c) (b01 true) M N1 = some (1, M', N1) := by
      unfold fL_law_R886
      rw [ep, ob_s, if_pos (Or.inl rfl), if_neg (show ¬ b01 true = 0 by decide), dv_0, hN'.2.2.1, im_4 (by omega)]
      have hz : (nI ((n + 1) % 4) = 0) = ((n + 1) % 4 = 0) := eq_N (b := 0) (by omega) (by omega)
      simp only [hz]
      unfold resP
      by_cases h3 : n % 4 = 3
      · have hw : ldr τ l (updN pl n c) ((n + 1) / 4) = wnr τ n pl (ldr τ l pl) c := by
          rw [← ldP_ldr _ (Nat.le_refl _)]
          unfold ldP
          rw [if_pos h3, show (n + 1) / 4 = n / 4 + 1 by omega, updN_s]
        rw [if_pos (show (n + 1) % 4 = 0 by omega), llead hN'.2.1 w.1 hl4 (by omega) w'.2.2.2.2.1, ob_s, if_pos h3, hw, if_pos rfl]
      · rw [if_neg (show ¬ (n + 1) % 4 = 0 by omega), if_neg h3, if_pos rfl]
    rw [e4, ob_s]
    dsimp only
    rw [e5, ob_s]
    exact ⟨_, _, rfl, τ, w.1, Or.inr ⟨T, d, l, n + 1, updN pl n c, hC', hN', hT⟩⟩
end LP
