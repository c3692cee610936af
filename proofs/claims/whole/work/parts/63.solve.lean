/-! solving: solve, solveByAll, value, bestCard -/
theorem InvG.open_ {M N : Mem} {τ T l n : Nat} {d : Nat → Int32} {pl : Nat → Nat} (h : InvG M N τ T d l n pl) : fX5_needStarted M = some (0, 0, M) := by
  unfold fX5_needStarted fX1_isOpen
  rw [h.2.2.1.2.1, if_pos (show vb 1 = true by decide)]
  simp only [ob_s]
  rw [if_neg (show ¬ (1 : Int32) = 0 by decide)]
theorem InvD.shut {M N : Mem} {d : Nat → Int32} (h : InvD M N d) : fX5_needStarted M = some (2, 0, M) := by
  unfold fX5_needStarted fX1_isOpen
  rw [h.1, if_pos (show vb 0 = true by decide)]
  simp only [ob_s]
  rw [if_pos trivial]
/-- the class's memory after a search, the reference's after a thought: the same game -/
theorem InvG.again {M N M' N' : Mem} {τ T l n : Nat} {d : Nat → Int32} {pl : Nat → Nat} (h : InvG M N τ T d l n pl) (r : Rep M' τ T n (run τ d l pl n).1 pl (run τ d l pl n).2) (hK : KOK τ T d (M' 5)) (s : SN N N') : Inv M' N' := by
  obtain ⟨a1, a2, a3, a4, a5, a6, a7, a8, a9, a10⟩ := h
  have h' : InvG M' N τ T d l n pl := ⟨a1, a2, r, a4, a5, a6, a7, a8, a9, hK⟩
  exact ⟨τ, a2.1, r.1, by rw [s.2 0 (by decide) (by decide)]; exact a4.1, Or.inr ⟨T, d, l, n, pl, h'.sn s⟩⟩
theorem sim_solve {M N : Mem} (h : Inv M N) : ∃ (r : Res) (q : Int32 × Mem), gX5_solve M = some r ∧ fX6_solve N = some q ∧ (r.1 = 0 ∨ r.1 = 2) ∧ q.2 0 6 = hcd 2 r ∧ (r.1 = 0 → r.2.1 = q.1) ∧ Inv r.2.2 q.2 := by
  unfold gX5_solve fX5_solve fX6_solve
  have h' := h
  obtain ⟨τ, hτ, hM3, hN0, ⟨d, hD⟩ | ⟨T, d, l, n, pl, hG⟩⟩ := h'
  · rw [hD.shut, hD.2.1, if_pos (show (0 : Int32) = 0 from rfl)]
    simp only [ob_s]
    rw [if_neg (show ¬ (2 : Nat) = 0 by decide)]
    exact ⟨_, _, rfl, rfl, Or.inr rfl, thr6 N 1, fun z => (by cases z), h.sn (SN.thr N 1)⟩
  · rw [hG.open_, hG.1, if_neg (show ¬ (1 : Int32) = 0 by decide)]
    simp only [ob_s]
    rw [if_pos trivial]
    have hG0 := hG.sn (SN.thr N 0)
    obtain ⟨M', m1, m2, m3, m4⟩ := most_ok hG.2.2.1 hG.wf hG.dl hG.2.2.2.2.2.2.2.2.2
    obtain ⟨x, N1, N2, e1, e2, e3, e4⟩ := rsolve_ok hG0.2.2.2.1 hG.wf
    rw [m1, e1]
    simp only [ob_s]
    rw [e3]
    refine ⟨_, _, rfl, rfl, Or.inl rfl, ?_, fun _ => rfl, hG.again m2 m3 ((SN.thr N 0).trans (SN.same e4))⟩
    show N2 0 6 = _
    rw [e4.2 6 (by decide), thr6]; rfl
theorem sim_solveByAll {M N : Mem} (h : Inv M N) : ∃ (r : Res) (q : Int32 × Mem), gX5_solveByAll M = some r ∧ fX6_solveByAll N = some q ∧ (r.1 = 0 ∨ r.1 = 2) ∧ q.2 0 6 = hcd 2 r ∧ (r.1 = 0 → r.2.1 = q.1) ∧ Inv r.2.2 q.2 := by
  unfold gX5_solveByAll fX5_solveByAll fX6_solveByAll
  have h' := h
  obtain ⟨τ, hτ, hM3, hN0, ⟨d, hD⟩ | ⟨T, d, l, n, pl, hG⟩⟩ := h'
  · rw [hD.shut, hD.2.1, if_pos (show (0 : Int32) = 0 from rfl)]
    simp only [ob_s]
    rw [if_neg (show ¬ (2 : Nat) = 0 by decide)]
    exact ⟨_, _, rfl, rfl, Or.inr rfl, thr6 N 1, fun z => (by cases z), h.sn (SN.thr N 1)⟩
  · have w := hG.wf
    have hT := w.2.1
    rw [hG.open_, hG.1, if_neg (show ¬ (1 : Int32) = 0 by decide), size_ok, all_cnt w hG.2.2.2.1.2.1]
    simp only [ob_s]
    rw [if_pos trivial, R_cardsLeft hG.2.2.1 w]
    have h12 : (nI (4 * T - n) ≤ (12 : Int32)) = (4 * T - n ≤ 12) := le_N (b := 12) (by omega) (by omega)
    have h12' : ((12 : Int32) < nI (4 * T - n)) = (12 < 4 * T - n) := lt_N (a := 12) (by omega) (by omega)
    simp only [h12, h12']
    by_cases hle : 4 * T - n ≤ 12
    · rw [if_pos hle, if_neg (show ¬ 12 < 4 * T - n by omega)]
      have hG0 := hG.sn (SN.thr N 0)
      obtain ⟨M', m1, m2, m5, m4⟩ := byAll_ok τ T 20 n M _ _ _ (by omega) hG.2.2.1 w
      obtain ⟨x, N1, N2, e1, e2, e3, e4⟩ := rsolve_ok hG0.2.2.2.1 w
      rw [m1, e1]
      simp only [ob_s]
      rw [e3]
      refine ⟨_, _, rfl, rfl, Or.inl rfl, ?_, fun _ => rfl, hG.again m2 (show KOK τ T d (M' 5) by rw [m5]; exact hG.2.2.2.2.2.2.2.2.2) ((SN.thr N 0).trans (SN.same e4))⟩
      show N2 0 6 = _
      rw [e4.2 6 (by decide), thr6]; rfl
    · rw [if_neg hle, if_pos (show 12 < 4 * T - n by omega)]
      exact ⟨_, _, rfl, rfl, Or.inr rfl, thr6 N 1, fun z => (by cases z), h.sn (SN.thr N 1)⟩
theorem sim_value {M N : Mem} (h : Inv M N) (p1 : Int32) : ∃ (r : Res) (q : Int32 × Mem), gX5_value p1 M = some r ∧ fX6_value p1 N = some q ∧ (r.1 = 0 ∨ r.1 = 1 ∨ r.1 = 2) ∧ q.2 0 6 = hcd 1 r ∧ (r.1 = 0 → r.2.1 = q.1) ∧ Inv r.2.2 q.2 := by
  unfold gX5_value fX5_value fX6_value
  rcases nC p1 with ⟨c, hc, rfl, hi, hnc⟩ | ⟨hi, hnc⟩
  rotate_left
  · rw [hnc, if_neg (show ¬ (1 : Nat) = 0 by decide), hi, if_pos (show (0 : Int32) = 0 from rfl)]
    exact ⟨_, _, rfl, rfl, Or.inr (Or.inl rfl), thr6 N 1, fun z => (by cases z), h.sn (SN.thr N 1)⟩
  rw [hnc, if_pos (show (0 : Nat) = 0 from rfl), hi, if_neg (show ¬ (1 : Int32) = 0 by decide)]
  dsimp only
  unfold fX5_needPlayable
  have hbad : ∃ (r : Res) (q : Int32 × Mem), some (((2 : Nat), (0 : Int32), M) : Res) = some r ∧ some ((0 : Int32), mset N 0 6 2) = some q ∧ (r.1 = 0 ∨ r.1 = 1 ∨ r.1 = 2) ∧ q.2 0 6 = hcd 1 r ∧ (r.1 = 0 → r.2.1 = q.1) ∧ Inv r.2.2 q.2 :=
    ⟨_, _, rfl, rfl, Or.inr (Or.inr rfl), thr6 N 2, fun z => (by cases z), h.sn (SN.thr N 2)⟩
  have h' := h
  obtain ⟨τ, hτ, hM3, hN0, ⟨d, hD⟩ | ⟨T, d, l, n, pl, hG⟩⟩ := h'
  · rw [hD.playable, fX0_holds_eq _ hc, bt_0, if_neg (show ¬ (false = true) by decide), if_pos (show (0 : Int32) = 0 from rfl), if_neg (show ¬ (2 : Nat) = 0 by decide), hD.fits]
    simp only [ob_s]
    rw [if_pos trivial]
    exact hbad
  · obtain ⟨e1, e2⟩ := hG.holds hc
    rw [e1, e2]
    by_cases hl : n < 4 * T ∧ legal (Hs (run τ d l pl n).1 (mv n (run τ d l pl n).2)) (n % 4) (ts n pl) c = true
    rotate_left
    · rw [if_neg hl, if_pos (show (0 : Int32) = 0 from rfl), if_neg (show ¬ (2 : Nat) = 0 by decide)]
      simp only [ob_s]
      rw [if_pos trivial]
      exact hbad
    · rw [if_pos hl, if_neg (show ¬ (1 : Int32) = 0 by decide), if_pos (show (0 : Nat) = 0 from rfl)]
      simp only [ob_s]
      rw [if_neg (show ¬ (1 : Int32) = 0 by decide)]
      have hG0 := hG.sn (SN.thr N 0)
      have hb := legal_has hl.2
      obtain ⟨M', m1, m2, m3, m4, m5⟩ := worth_ok hG.2.2.1 hG.wf hG.dl hG.2.2.2.2.2.2.2.2.2 hl.1 hc hb
      obtain ⟨N', e3, e4⟩ := rvalue_ok hG0.2.2.2.1 hG.wf hG0.1 hl.1 hc hb
      rw [m1, e3]
      refine ⟨_, _, rfl, rfl, Or.inl rfl, ?_, fun _ => rfl, hG.again m2 m3 ((SN.thr N 0).trans (SN.same e4))⟩
      show N' 0 6 = _
      rw [e4.2 6 (by decide), thr6]; rfl
theorem sim_bestCard {M N : Mem} (h : Inv M N) : ∃ (r : Res) (q : Int32 × Mem), gX5_bestCard M = some r ∧ fX6_bestCard N = some q ∧ (r.1 = 0 ∨ r.1 = 2) ∧ q.2 0 6 = hcd 2 r ∧ (r.1 = 0 → r.2.1 = q.1) ∧ Inv r.2.2 q.2 := by
  unfold gX5_bestCard fX5_bestCard fX6_bestCard
  have hno : fX1_mover M = -1 → fX6_player N = -1 → ∃ (r : Res) (q : Int32 × Mem), (if fX1_mover M = -1 then some ((2, 0, M) : Res) else obind (fX4_bestPlay (sS 20) M) (fun q2 => some (0, q2.1, q2.2))) = some r ∧ (if fX6_player N = -1 then obind (fX6_bestCard_L23 40 (-1) (-1) 0 (mset N 0 6 1)) (fun q4 => if q4.2 0 6 = 0 then some (q4.1, q4.2) else some (0, q4.2)) else obind (fX6_bestCard_L23 40 (-1) (-1) 0 (mset N 0 6 0)) (fun q2 => if q2.2 0 6 = 0 then some (q2.1, q2.2) else some (0, q2.2))) = some q ∧ (r.1 = 0 ∨ r.1 = 2) ∧ q.2 0 6 = hcd 2 r ∧ (r.1 = 0 → r.2.1 = q.1) ∧ Inv r.2.2 q.2 := fun e1 e2 => by
    have e3 : fX6_bestCard_L23 40 (-1) (-1) 0 (mset N 0 6 1) = some (-1, mset N 0 6 1) := by
      rw [show fX6_bestCard_L23 40 = fX6_bestCard_L23 (39 + 1) from rfl, fX6_bestCard_L23.eq_2, if_neg (show ¬ (24 : Int32) ≤ 0 by decide), thr6, if_neg (show ¬ (1 : Int32) = 0 by decide)]
    rw [if_pos e1, if_pos e2, e3]
    simp only [ob_s]
    rw [thr6, if_neg (show ¬ (1 : Int32) = 0 by decide)]
    exact ⟨_, _, rfl, rfl, Or.inr rfl, thr6 N 1, fun z => (by cases z), h.sn (SN.thr N 1)⟩
  have h' := h
  obtain ⟨τ, hτ, hM3, hN0, ⟨d, hD⟩ | ⟨T, d, l, n, pl, hG⟩⟩ := h'
  · exact hno hD.mover hD.player
  · have w := hG.wf
    have hm := hG.mover
    have hp := player_ok hG.2.2.2.1 w hG.1
    by_cases hn : n < 4 * T
    rotate_left
    · rw [if_neg hn] at hm hp
      exact hno hm hp
    · clear hno
      rw [if_pos hn] at hm hp
      have hmv := mv_lt n (run τ d l pl n).2
      rw [hm, hp, if_neg (ne_m1 (by omega)), if_neg (ne_m1 (by omega))]
      have hG0 := hG.sn (SN.thr N 0)
      obtain ⟨c, M', m1, m2, m3, m4, m5⟩ := best_ok hG.2.2.1 w hG.dl hG.2.2.2.2.2.2.2.2.2 hn
      obtain ⟨a, N', e1, e2, e3⟩ := rbest_loop hG0.2.2.2.1 w hG0.1 (thr6 N 0) hn 40 24 0 (-1) (-1) (mset N 0 6 0) (by omega) (by omega) (Same.rfl' _) (Or.inl ⟨fun d hd => by omega, rfl, rfl⟩)
      have hca : c = a := m2.uniq e2
      have e1' : fX6_bestCard_L23 40 (-1) (-1) 0 (mset N 0 6 0) = some (nI a, N') := e1
      have h6 : N' 0 6 = 0 := by rw [e3.2 6 (by decide), thr6]
      rw [m1, e1']
      simp only [ob_s]
      rw [h6, if_pos (show (0 : Int32) = 0 from rfl)]
      refine ⟨_, _, rfl, rfl, Or.inl rfl, ?_, fun _ => ?_, hG.again m3 m4 ((SN.thr N 0).trans (SN.same e3))⟩
      · show N' 0 6 = _
        rw [h6]; rfl
      · show nI c = nI a
        rw [hca]
