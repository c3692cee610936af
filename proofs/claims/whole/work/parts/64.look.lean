/-! looking: lowestEqual, unlike, isTop, quick, fork, goodForks -/
theorem held {M N : Mem} (h : Inv M N) (x : Int32) :
    (∃ (c p n : Nat) (hh : Nat → Int32) (pl : Nat → Nat), c < 24 ∧ p < 4 ∧ x = nI c ∧ Lk M N n hh pl ∧ bt (hh p) c = true ∧ (∀ M', fX5_needCard x M' = (0, 0, M')) ∧ fX5_needInHand x M = (0, 0, M) ∧ fX6_isHeld x N = (1, mset N 0 6 0)) ∨
    ((∀ M', fX5_needCard x M' = (0, 0, M')) ∧ fX5_needInHand x M = (2, 0, M) ∧ fX6_isHeld x N = (0, mset N 0 6 2)) ∨
    ((∀ M', fX5_needCard x M' = (1, 0, M')) ∧ fX6_isHeld x N = (0, mset N 0 6 1)) := by
  unfold fX5_needInHand fX6_isHeld
  rcases nC x with ⟨c, hc, rfl, hi, hnc⟩ | ⟨hi, hnc⟩
  rotate_left
  · exact Or.inr (Or.inr ⟨hnc, by rw [hi, if_pos (show (0 : Int32) = 0 from rfl)]⟩)
  · obtain ⟨n, hh, pl, k⟩ := h.lk
    obtain ⟨o1, o2⟩ := k.owner hc
    rw [hi, if_neg (show ¬ (1 : Int32) = 0 by decide), o1]
    rcases o2 with ⟨p, p1, p2, p3⟩ | ⟨-, p3⟩
    · rw [p3, if_neg (ne_m1 (by omega)), if_neg (ne_m1 (by omega))]
      exact Or.inl ⟨c, p, n, hh, pl, hc, p1, rfl, k, p2, hnc, rfl, rfl⟩
    · rw [p3, if_pos (show (-1 : Int32) = -1 from rfl), if_pos (show (-1 : Int32) = -1 from rfl)]
      exact Or.inr (Or.inl ⟨hnc, rfl, rfl⟩)
theorem sim_lowestEqual {M N : Mem} (h : Inv M N) (p1 : Int32) : ∃ (r : Res) (q : Int32 × Mem), fX5_lowestEqual p1 M = some r ∧ fX6_lowestEqual p1 N = some q ∧ (r.1 = 0 ∨ r.1 = 1 ∨ r.1 = 2) ∧ q.2 0 6 = hcd 1 r ∧ (r.1 = 0 → r.2.1 = q.1) ∧ Inv r.2.2 q.2 := by
  unfold fX5_lowestEqual fX6_lowestEqual
  rcases held h p1 with ⟨c, p, n, hh, pl, hc, hp, rfl, k, hb, hnc, hni, hhe⟩ | ⟨hnc, hni, hhe⟩ | ⟨hnc, hhe⟩
  · rw [hnc, if_pos (show (0 : Nat) = 0 from rfl), hhe, if_neg (show ¬ (1 : Int32) = 0 by decide)]
    dsimp only
    rw [hni, if_pos (show (0 : Nat) = 0 from rfl)]
    obtain ⟨y, ey, -⟩ := (k.thr 0).oth hp
    obtain ⟨L, l1, l2, -⟩ := low_same (k.thr 0) hp hc hb ey
    dsimp only
    rw [l1, l2]
    exact ⟨_, _, rfl, rfl, Or.inl rfl, thr6 N 0, fun _ => rfl, h.sn (SN.thr N 0)⟩
  · rw [hnc, if_pos (show (0 : Nat) = 0 from rfl), hhe, if_pos (show (0 : Int32) = 0 from rfl)]
    dsimp only
    rw [hni, if_neg (show ¬ (2 : Nat) = 0 by decide)]
    exact ⟨_, _, rfl, rfl, Or.inr (Or.inr rfl), thr6 N 2, fun z => (by cases z), h.sn (SN.thr N 2)⟩
  · rw [hnc, if_neg (show ¬ (1 : Nat) = 0 by decide), hhe, if_pos (show (0 : Int32) = 0 from rfl)]
    exact ⟨_, _, rfl, rfl, Or.inr (Or.inl rfl), thr6 N 1, fun z => (by cases z), h.sn (SN.thr N 1)⟩
theorem sim_unlike {M N : Mem} (h : Inv M N) (p1 : Int32) : ∃ (r : Res) (q : Int32 × Mem), fX5_unlike p1 M = some r ∧ fX6_unlike p1 N = some q ∧ (r.1 = 0 ∨ r.1 = 1) ∧ q.2 0 6 = hcd 1 r ∧ (r.1 = 0 → r.2.1 = q.1) ∧ Inv r.2.2 q.2 := by
  unfold fX5_unlike fX6_unlike
  rcases nP p1 with ⟨p, hp, rfl, hi, hnp⟩ | ⟨hi, hnp⟩
  · rw [hnp, if_pos (show (0 : Nat) = 0 from rfl), hi, if_neg (show ¬ (1 : Int32) = 0 by decide)]
    obtain ⟨n, hh, pl, k⟩ := h.lk
    obtain ⟨o, r, v, e1, e2, e3, e4⟩ := unlike_same (k.thr 0) (thr6 N 0) hp
    dsimp only
    rw [e1, e4]
    simp only [ob_s]
    rw [e2, ob_s, e3]
    exact ⟨_, _, rfl, rfl, Or.inl rfl, thr6 N 0, fun _ => rfl, h.sn (SN.thr N 0)⟩
  · rw [hnp, if_neg (show ¬ (1 : Nat) = 0 by decide), hi, if_pos (show (0 : Int32) = 0 from rfl)]
    have e3 : fX6_unlike_L22 40 p1 0 0 (mset N 0 6 1) = some 0 := by
      rw [show fX6_unlike_L22 40 = fX6_unlike_L22 (39 + 1) from rfl, fX6_unlike_L22.eq_2, if_neg (show ¬ (24 : Int32) ≤ 0 by decide), thr6, if_neg (show ¬ (1 : Int32) = 0 by decide)]
    rw [e3]
    exact ⟨_, _, rfl, rfl, Or.inr rfl, thr6 N 1, fun z => (by cases z), h.sn (SN.thr N 1)⟩
theorem sim_isTop {M N : Mem} (h : Inv M N) (p1 : Int32) : ∃ (r : Res) (q : Int32 × Mem), fX5_isTop p1 M = some r ∧ fX6_isTop p1 N = some q ∧ (r.1 = 0 ∨ r.1 = 1 ∨ r.1 = 2) ∧ q.2 0 6 = hcd 1 r ∧ (r.1 = 0 → r.2.1 = q.1) ∧ Inv r.2.2 q.2 ∧ vb r.2.1 = true := by
  unfold fX5_isTop fX6_isTop
  rcases held h p1 with ⟨c, p, n, hh, pl, hc, hp, rfl, k, hb, hnc, hni, hhe⟩ | ⟨hnc, hni, hhe⟩ | ⟨hnc, hhe⟩
  · rw [hnc, if_pos (show (0 : Nat) = 0 from rfl), hhe, if_neg (show ¬ (1 : Int32) = 0 by decide)]
    dsimp only
    rw [hni, if_pos (show (0 : Nat) = 0 from rfl)]
    dsimp only
    obtain ⟨b, b1, b2⟩ := top_same (k.thr 0) hp hc hb
    rw [k.the hp hc hb, b1, b2]
    simp only [ob_s]
    cases b with
    | false =>
      rw [if_pos (show vb (b01 false) = true by decide), if_pos (show b01 false = 0 from rfl)]
      exact ⟨_, _, rfl, rfl, Or.inl rfl, thr6 N 0, fun _ => rfl, h.sn (SN.thr N 0), (by decide : vb (b01 false) = true)⟩
    | true =>
      rw [if_pos (show vb (b01 true) = true by decide), if_neg (show ¬ b01 true = 0 by decide)]
      exact ⟨_, _, rfl, rfl, Or.inl rfl, thr6 N 0, fun _ => rfl, h.sn (SN.thr N 0), (by decide : vb (b01 true) = true)⟩
  · rw [hnc, if_pos (show (0 : Nat) = 0 from rfl), hhe, if_pos (show (0 : Int32) = 0 from rfl)]
    dsimp only
    rw [hni, if_neg (show ¬ (2 : Nat) = 0 by decide)]
    exact ⟨_, _, rfl, rfl, Or.inr (Or.inr rfl), thr6 N 2, fun z => (by cases z), h.sn (SN.thr N 2), (by decide : vb 0 = true)⟩
  · rw [hnc, if_neg (show ¬ (1 : Nat) = 0 by decide), hhe, if_pos (show (0 : Int32) = 0 from rfl)]
    exact ⟨_, _, rfl, rfl, Or.inr (Or.inl rfl), thr6 N 1, fun z => (by cases z), h.sn (SN.thr N 1), (by decide : vb 0 = true)⟩
theorem sim_quick {M N : Mem} (h : Inv M N) (p1 : Int32) : ∃ (r : Res) (q : Int32 × Mem), fX5_quick p1 M = some r ∧ fX6_quick p1 N = some q ∧ (r.1 = 0 ∨ r.1 = 1) ∧ q.2 0 6 = hcd 1 r ∧ (r.1 = 0 → r.2.1 = q.1) ∧ Inv r.2.2 q.2 := by
  unfold fX5_quick fX6_quick
  rcases nP p1 with ⟨p, hp, rfl, hi, hnp⟩ | ⟨hi, hnp⟩
  · rw [hnp, if_pos (show (0 : Nat) = 0 from rfl), hi, if_neg (show ¬ (1 : Int32) = 0 by decide)]
    obtain ⟨n, hh, pl, k⟩ := h.lk
    obtain ⟨v, e1, e2⟩ := quick_same (k.thr 0) (thr6 N 0) hp
    dsimp only
    rw [e1, e2]
    exact ⟨_, _, rfl, rfl, Or.inl rfl, thr6 N 0, fun _ => rfl, h.sn (SN.thr N 0)⟩
  · rw [hnp, if_neg (show ¬ (1 : Nat) = 0 by decide), hi, if_pos (show (0 : Int32) = 0 from rfl)]
    have e3 : fX6_quick_L22 40 p1 0 0 (mset N 0 6 1) = some 0 := by
      rw [show fX6_quick_L22 40 = fX6_quick_L22 (39 + 1) from rfl, fX6_quick_L22.eq_2, if_neg (show ¬ (24 : Int32) ≤ 0 by decide), thr6, if_neg (show ¬ (1 : Int32) = 0 by decide)]
    rw [e3]
    exact ⟨_, _, rfl, rfl, Or.inr rfl, thr6 N 1, fun z => (by cases z), h.sn (SN.thr N 1)⟩
theorem sim_fork {M N : Mem} (h : Inv M N) (p1 : Int32) (p2 : Int32) : ∃ (r : Res) (q : Int32 × Mem), fX5_fork p1 p2 M = r ∧ fX6_fork p1 p2 N = some q ∧ (r.1 = 0 ∨ r.1 = 1) ∧ q.2 0 6 = hcd 1 r ∧ (r.1 = 0 → r.2.1 = q.1) ∧ Inv r.2.2 q.2 := by
  unfold fX5_fork fX6_fork
  rcases nP p1 with ⟨p, hp, rfl, hi, hnp⟩ | ⟨hi, hnp⟩
  rotate_left
  · rw [hnp, if_neg (show ¬ (1 : Nat) = 0 by decide), hi, if_pos (show (0 : Int32) = 0 from rfl)]
    exact ⟨_, _, rfl, rfl, Or.inr rfl, thr6 N 1, fun z => (by cases z), h.sn (SN.thr N 1)⟩
  rw [hnp, if_pos (show (0 : Nat) = 0 from rfl), hi, if_neg (show ¬ (1 : Int32) = 0 by decide)]
  dsimp only
  rcases rg p2 (b := 4) (by omega) (by omega) with ⟨s, hs, rfl, hi2, g1, g2⟩ | ⟨hi2, hno⟩
  · rw [if_neg g1, if_pos (show nI s < 4 from g2), show fX6_in (nI s) 0 3 = 1 from hi2, if_neg (show ¬ (1 : Int32) = 0 by decide)]
    obtain ⟨n, hh, pl, k⟩ := h.lk
    rw [fork_same (k.thr 0) hp hs]
    exact ⟨_, _, rfl, rfl, Or.inl rfl, thr6 N 0, fun _ => rfl, h.sn (SN.thr N 0)⟩
  · rw [show fX6_in p2 0 3 = 0 from hi2, if_pos (show (0 : Int32) = 0 from rfl)]
    have hr : (if p2 < 0 then ((1, 0, M) : Res) else if p2 < 4 then (0, fX3_forkKind (nI p) p2 M, M) else (1, 0, M)) = (1, 0, M) := by
      rcases hno with g | ⟨g1, g2⟩
      · rw [if_pos g]
      · rw [if_neg g1, if_neg (show ¬ p2 < 4 from g2)]
    rw [hr]
    exact ⟨_, _, rfl, rfl, Or.inr rfl, thr6 N 1, fun z => (by cases z), h.sn (SN.thr N 1)⟩
theorem sim_goodForks {M N : Mem} (h : Inv M N) : ∃ (v : Int32) (q : Int32 × Mem), fX5_goodForks M = some v ∧ fX6_goodForks N = some q ∧ v = q.1 ∧ Inv M q.2 := by
  obtain ⟨n, hh, pl, k⟩ := h.lk
  obtain ⟨v, e1, e2⟩ := goodForks_same (k.thr 0)
  refine ⟨v, (v, mset N 0 6 0), e1, ?_, rfl, h.sn (SN.thr N 0)⟩
  unfold fX6_goodForks
  rw [e2]; rfl
