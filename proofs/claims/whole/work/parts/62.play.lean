/-! playing: play, takeBack, canPlay, turn, hand, inTrick, cardIn, won -/
theorem sim_play {M N : Mem} (h : Inv M N) (p1 : Int32) : ∃ (r : Res) (q : Int32 × Mem), fX5_play p1 M = some r ∧ fX6_play p1 N = some q ∧ (r.1 = 0 ∨ r.1 = 1 ∨ r.1 = 2) ∧ q.2 0 6 = hcd 1 r ∧ (r.1 = 0 → r.2.1 = q.1) ∧ Inv r.2.2 q.2 := by
  unfold fX5_play fX6_play
  rcases nC p1 with ⟨c, hc, rfl, hi, hnc⟩ | ⟨hi, hnc⟩
  rotate_left
  · rw [hnc, if_neg (show ¬ (1 : Nat) = 0 by decide), hi, if_pos (show (0 : Int32) = 0 from rfl)]
    exact ⟨_, _, rfl, rfl, Or.inr (Or.inl rfl), thr6 N 1, fun z => (by cases z), h.sn (SN.thr N 1)⟩
  rw [hnc, if_pos (show (0 : Nat) = 0 from rfl), hi, if_neg (show ¬ (1 : Int32) = 0 by decide)]
  dsimp only
  unfold fX5_needPlayable
  have hbad : ∃ (r : Res) (q : Int32 × Mem), some (((2 : Nat), (0 : Int32), M) : Res) = some r ∧ some ((0 : Int32), mset N 0 6 2) = some q ∧ (r.1 = 0 ∨ r.1 = 1 ∨ r.1 = 2) ∧ q.2 0 6 = hcd 1 r ∧ (r.1 = 0 → r.2.1 = q.1) ∧ Inv r.2.2 q.2 :=
    ⟨_, _, rfl, rfl, Or.inr (Or.inr rfl), thr6 N 2, fun z => (by cases z), h.sn (SN.thr N 2)⟩
  have h' := h
  obtain ⟨τ, hτ, hM3, hN0, ⟨d, hD⟩ | ⟨T, d, l, n, pl, hG⟩⟩ := h'
  · rw [hD.playable, fX0_holds_eq _ hc, bt_0, if_neg (show ¬ (false = true) by decide), if_pos (show (0 : Int32) = 0 from rfl), if_neg (show ¬ (2 : Nat) = 0 by decide), hD.fits]
    simp only [ob_s]
    rw [if_pos trivial]
    exact hbad
  · obtain ⟨e1, e2⟩ := hG.holds hc
    rw [e1, e2]
    by_cases hl : n < 4 * T ∧ legal (Hs (run τ d l pl n).1 (mv n (run τ d l pl n).2)) (n % 4) (ts n pl) c = true
    rotate_left
    · rw [if_neg hl, if_pos (show (0 : Int32) = 0 from rfl), if_neg (show ¬ (2 : Nat) = 0 by decide)]
      simp only [ob_s]
      rw [if_pos trivial]
      exact hbad
    · rw [if_pos hl, if_neg (show ¬ (1 : Int32) = 0 by decide), if_pos (show (0 : Nat) = 0 from rfl)]
      simp only [ob_s]
      have w := hG.wf
      obtain ⟨a1, a2, a3, a4, a5, a6, a7, a8, a9, a10⟩ := id hG
      have hb := legal_has hl.2
      have hT := w.2.1
      obtain ⟨M1, l1, l2, l5, l4⟩ := lay_ok a3 w hl.1 hc
      rw [l1, if_neg (show ¬ (1 : Int32) = 0 by decide), a7, if_pos (vin_N (by have := hl.1; omega) (by omega)), cl_N (by have := hl.1; omega), show (nI n + 1 : Int32) = nI (n + 1) from nI_add n 1]
      generalize hN0' : mset (mset (mset N 0 6 0) 2 n (nI c)) 0 5 (nI (n + 1)) = N0
      have hNj : ∀ j, j ≠ 6 → j ≠ 5 → N0 0 j = N 0 j := fun j j6 j5 => by rw [← hN0']; simp only [mset_at]; simp [j6, j5]
      have hN6 : N0 0 6 = 0 := by rw [← hN0']; simp only [mset_at]; simp
      have hN5 : N0 0 5 = nI (n + 1) := by rw [← hN0']; simp only [mset_at]; simp
      have hN1 : N0 1 = N 1 := by rw [← hN0', mset_n _ _ _ (by decide), mset_n _ _ _ (by decide), mset_n _ _ _ (by decide)]
      have hN2 : ∀ k, k < n + 1 → N0 2 k = nI (updN pl n c k) := fun k hk => by
        rw [← hN0', mset_n _ _ _ (by decide), mset_s, mset_n _ _ _ (by decide)]
        by_cases hkn : k = n
        · rw [hkn, upd_s, updN_s]
        · rw [upd_n _ _ hkn, updN_n _ _ hkn, a9 k (by omega)]
      have g' := a2.more hl.1 hc hb
      have hl4 := a2.2.2.2.2.1
      obtain ⟨N', e, r3, r4, r9, r10, r5, ri, rj⟩ := replay_ok (N := N0) (τ := τ) (l := l) (n := n + 1) (d := d) (pl := updN pl n c) hτ hl4 (by have := hl.1; omega) (fun k hk => (g'.2.2.2.2.2.2.2.2 k hk).1) (by rw [hNj 0 (by decide) (by decide)]; exact hN0) (by rw [hNj 3 (by decide) (by decide)]; exact a6) hN5 (fun p hp => by rw [hN1]; exact a8 p hp) hN2
      rw [e]
      simp only [ob_s]
      have hres : (if N' 0 9 = 0 then some (N' 0 10, N') else some (-1, N')) = some (resP τ n pl (run τ d l pl n).2 c, N') := by
        rw [r9, r10, run_more]
        unfold resP
        by_cases h3 : n % 4 = 3
        · rw [if_pos h3, show (n + 1) % 4 = 0 by omega, if_pos (show nI 0 = 0 from rfl)]
          congr 2
          show nI (ldP τ n pl (run τ d l pl n).2 c ((n + 1) / 4)) = _
          unfold ldP
          rw [if_pos h3, show (n + 1) / 4 = n / 4 + 1 by omega, updN_s]
        · rw [if_neg h3, if_neg]
          rw [show (0 : Int32) = nI 0 from rfl, eq_N (by omega) (by omega)]; omega
      rw [hres]
      refine ⟨_, _, rfl, rfl, Or.inl rfl, ?_, fun _ => rfl, ?_⟩
      · show N' 0 6 = _
        rw [rj 6 (by decide) (by decide), hN6]; rfl
      · show Inv M1 N'
        have hrun := run_more (τ := τ) (l := l) (n := n) (c := c) (d := d) (pl := pl)
        refine ⟨τ, hτ, l2.1, by rw [rj 0 (by decide) (by decide), hNj 0 (by decide) (by decide)]; exact hN0, Or.inr ⟨T, d, l, n + 1, updN pl n c, by rw [rj 2 (by decide) (by decide), hNj 2 (by decide) (by decide)]; exact a1, g', by rw [hrun]; exact l2, ⟨by rw [rj 0 (by decide) (by decide), hNj 0 (by decide) (by decide)]; exact hN0, r3, r4, r9, r10⟩, r5, by rw [rj 3 (by decide) (by decide), hNj 3 (by decide) (by decide)]; exact a6, by rw [rj 5 (by decide) (by decide)]; exact hN5, fun p hp => by rw [ri 1 (by decide) (by decide) (by decide) (by decide), hN1]; exact a8 p hp, fun k hk => by rw [ri 2 (by decide) (by decide) (by decide) (by decide)]; exact hN2 k hk, by rw [l5]; exact a10⟩⟩
theorem sim_takeBack {M N : Mem} (h : Inv M N) : ∃ (r : Res) (q : Int32 × Mem), fX5_takeBack M = r ∧ fX6_takeBack N = some q ∧ (r.1 = 0 ∨ r.1 = 2) ∧ q.2 0 6 = hcd 2 r ∧ (r.1 = 0 → r.2.1 = q.1) ∧ Inv r.2.2 q.2 := by
  unfold fX5_takeBack fX6_takeBack fX1_laidCount
  have hbad : ∃ (r : Res) (q : Int32 × Mem), (((2 : Nat), (0 : Int32), M) : Res) = r ∧ some ((0 : Int32), mset N 0 6 1) = some q ∧ (r.1 = 0 ∨ r.1 = 2) ∧ q.2 0 6 = hcd 2 r ∧ (r.1 = 0 → r.2.1 = q.1) ∧ Inv r.2.2 q.2 :=
    ⟨_, _, rfl, rfl, Or.inr rfl, thr6 N 1, fun z => (by cases z), h.sn (SN.thr N 1)⟩
  have h' := h
  obtain ⟨τ, hτ, hM3, hN0, ⟨d, hD⟩ | ⟨T, d, l, n, pl, hG⟩⟩ := h'
  · rw [hD.2.2.2.2.2.2.1, hD.2.2.2.2.2.2.2.2.2.1, if_pos (show (0 : Int32) = 0 from rfl), if_pos (show (0 : Int32) = 0 from rfl)]
    exact hbad
  · cases n with
    | zero =>
      rw [show M 0 7 = 0 from hG.2.2.1.2.2.2.1, show N 0 5 = 0 from hG.2.2.2.2.2.2.1, if_pos (show (0 : Int32) = 0 from rfl), if_pos (show (0 : Int32) = 0 from rfl)]
      exact hbad
    | succ n =>
      obtain ⟨a1, a2, a3, a4, a5, a6, a7, a8, a9, a10⟩ := id hG
      have g' := a2.less
      have w' := g'.wf n (Nat.le_refl _)
      have hT := w'.2.1
      have hn : n < 4 * T := by have := a2.2.2.2.1; omega
      have hl4 := a2.2.2.2.2.1
      obtain ⟨hc, hb⟩ := a2.2.2.2.2.2.2.2.2 n (by omega)
      have hz : ¬ nI (n + 1) = 0 := by rw [show (0 : Int32) = nI 0 from rfl, eq_N (by omega) (by omega)]; omega
      rw [a3.2.2.2.1, a7, if_neg hz, if_neg hz, nI_pred]
      have ha3 : Rep M τ T (n + 1) (hP (run τ d l pl n).1 (mv n (run τ d l pl n).2) (pl n)) (updN pl n (pl n)) (ldP τ n pl (run τ d l pl n).2 (pl n)) := by
        rw [updN_self]; exact a3
      obtain ⟨M1, k1, k2, k3⟩ := lift_ok a3 hT hn (fun j _ => run_ld_lt hl4 (n + 1) j) hc
      obtain ⟨M2, b1, b2, b5, b4⟩ := back_ok ha3 w' hn hc hb
      rw [k1] at b1
      have hMM : M1 = M2 := b1
      subst hMM
      rw [k1]
      generalize hN0' : mset (mset N 0 6 0) 0 5 (nI n) = N0
      have hNi : ∀ i, i ≠ 0 → N0 i = N i := fun i hi => by rw [← hN0', mset_n _ _ _ hi, mset_n _ _ _ hi]
      have hNj : ∀ j, j ≠ 6 → j ≠ 5 → N0 0 j = N 0 j := fun j j6 j5 => by rw [← hN0']; simp only [mset_at]; simp [j6, j5]
      have hN6 : N0 0 6 = 0 := by rw [← hN0']; simp only [mset_at]; simp
      have hN5 : N0 0 5 = nI n := by rw [← hN0']; simp only [mset_at]; simp
      obtain ⟨N', e, r3, r4, r9, r10, r5, ri, rj⟩ := replay_ok (N := N0) (τ := τ) (l := l) (n := n) (d := d) (pl := pl) hτ hl4 (by omega) (fun k hk => (g'.2.2.2.2.2.2.2.2 k hk).1) (by rw [hNj 0 (by decide) (by decide)]; exact hN0) (by rw [hNj 3 (by decide) (by decide)]; exact a6) hN5 (fun p hp => by rw [hNi 1 (by decide)]; exact a8 p hp) (fun k hk => by rw [hNi 2 (by decide)]; exact a9 k (by omega))
      rw [e]
      simp only [ob_s]
      have h5 : N' 0 5 = nI n := by rw [rj 5 (by decide) (by decide)]; exact hN5
      have h2 : N' 2 = N 2 := by rw [ri 2 (by decide) (by decide) (by decide) (by decide), hNi 2 (by decide)]
      rw [h5, if_pos (vin_N (by omega) (by omega)), cl_N (by omega), h2, a9 n (by omega)]
      refine ⟨_, _, rfl, rfl, Or.inl rfl, ?_, fun _ => rfl, ?_⟩
      · show N' 0 6 = _
        rw [rj 6 (by decide) (by decide), hN6]; rfl
      · show Inv M1 N'
        exact ⟨τ, hτ, b2.1, by rw [rj 0 (by decide) (by decide), hNj 0 (by decide) (by decide)]; exact hN0, Or.inr ⟨T, d, l, n, pl, by rw [rj 2 (by decide) (by decide), hNj 2 (by decide) (by decide)]; exact a1, g', b2, ⟨by rw [rj 0 (by decide) (by decide), hNj 0 (by decide) (by decide)]; exact hN0, r3, r4, r9, r10⟩, r5, by rw [rj 3 (by decide) (by decide), hNj 3 (by decide) (by decide)]; exact a6, h5, fun p hp => by rw [ri 1 (by decide) (by decide) (by decide) (by decide), hNi 1 (by decide)]; exact a8 p hp, fun k hk => by rw [h2]; exact a9 k (by omega), by rw [b5]; exact a10⟩⟩
theorem sim_canPlay {M N : Mem} (h : Inv M N) (p1 : Int32) : ∃ (r : Res) (q : Int32 × Mem), fX5_canPlay p1 M = r ∧ fX6_canPlay p1 N = some q ∧ (r.1 = 0 ∨ r.1 = 1) ∧ q.2 0 6 = hcd 1 r ∧ (r.1 = 0 → r.2.1 = q.1) ∧ Inv r.2.2 q.2 ∧ vb r.2.1 = true := by
  unfold fX5_canPlay fX6_canPlay
  rcases nC p1 with ⟨c, hc, rfl, hi, hnc⟩ | ⟨hi, hnc⟩
  rotate_left
  · rw [hnc, if_neg (show ¬ (1 : Nat) = 0 by decide), hi, if_pos (show (0 : Int32) = 0 from rfl)]
    exact ⟨_, _, rfl, rfl, Or.inr rfl, thr6 N 1, fun z => (by cases z), h.sn (SN.thr N 1), (by decide : vb 0 = true)⟩
  rw [hnc, if_pos (show (0 : Nat) = 0 from rfl), hi, if_neg (show ¬ (1 : Int32) = 0 by decide)]
  dsimp only
  have key : ∃ b : Bool, fX0_holds (fX1_playable M) (nI c) = b01 b ∧ fX6_fits (nI c) (mset N 0 6 0) = some (b01 b) := by
    have h2 := h.sn (SN.thr N 0)
    obtain ⟨τ, hτ, hM3, hN0, ⟨d, hD⟩ | ⟨T, d, l, n, pl, hG⟩⟩ := h2
    · exact ⟨false, by rw [hD.playable, fX0_holds_eq _ hc, bt_0]; rfl, hD.fits _⟩
    · obtain ⟨e1, e2⟩ := hG.holds hc
      by_cases hl : n < 4 * T ∧ legal (Hs (run τ d l pl n).1 (mv n (run τ d l pl n).2)) (n % 4) (ts n pl) c = true
      · rw [if_pos hl] at e1 e2; exact ⟨true, e1, e2⟩
      · rw [if_neg hl] at e1 e2; exact ⟨false, e1, e2⟩
  obtain ⟨b, e1, e2⟩ := key
  rw [e1, e2]
  simp only [ob_s]
  cases b with
  | false =>
    rw [if_pos (show b01 false = 0 from rfl)]
    exact ⟨_, _, rfl, rfl, Or.inl rfl, thr6 N 0, fun _ => rfl, h.sn (SN.thr N 0), (by decide : vb (b01 false) = true)⟩
  | true =>
    rw [if_neg (show ¬ b01 true = 0 by decide)]
    exact ⟨_, _, rfl, rfl, Or.inl rfl, thr6 N 0, fun _ => rfl, h.sn (SN.thr N 0), (by decide : vb (b01 true) = true)⟩
theorem sim_turn {M N : Mem} (h : Inv M N) : ∃ (v : Int32) (q : Int32 × Mem), fX5_turn M = v ∧ fX6_turn N = q ∧ v = q.1 ∧ Inv M q.2 := by
  have h2 := h.sn (SN.thr N 0)
  refine ⟨_, _, rfl, rfl, ?_, h2⟩
  show fX1_mover M = fX6_player (mset N 0 6 0)
  obtain ⟨τ, hτ, hM3, hN0, ⟨d, hD⟩ | ⟨T, d, l, n, pl, hG⟩⟩ := h2
  · rw [hD.mover, hD.player]
  · rw [hG.mover, player_ok hG.2.2.2.1 hG.wf hG.1]
theorem sim_hand {M N : Mem} (h : Inv M N) (p1 : Int32) : ∃ (r : Res) (q : Int32 × Mem), fX5_hand p1 M = r ∧ fX6_hand p1 N = some q ∧ (r.1 = 0 ∨ r.1 = 1) ∧ q.2 0 6 = hcd 1 r ∧ (r.1 = 0 → r.2.1 = q.1) ∧ Inv r.2.2 q.2 := by
  unfold fX5_hand fX6_hand
  rcases nP p1 with ⟨p, hp, rfl, hi, hnp⟩ | ⟨hi, hnp⟩
  rotate_left
  · rw [hnp, if_neg (show ¬ (1 : Nat) = 0 by decide), hi, if_pos (show (0 : Int32) = 0 from rfl)]
    exact ⟨_, _, rfl, rfl, Or.inr rfl, thr6 N 1, fun z => (by cases z), h.sn (SN.thr N 1)⟩
  rw [hnp, if_pos (show (0 : Nat) = 0 from rfl), hi, if_neg (show ¬ (1 : Int32) = 0 by decide), if_pos (vin_N hp (by omega)), cl_N (by omega)]
  obtain ⟨n, hh, pl, k⟩ := h.lk
  refine ⟨_, _, rfl, rfl, Or.inl rfl, thr6 N 0, fun _ => ?_, h.sn (SN.thr N 0)⟩
  show fX1_handOf (nI p) M = N 3 p
  rw [k.hand hp, k.2.2.2.2.2.2.2.2.2.1 p hp]
theorem sim_inTrick {M N : Mem} (h : Inv M N) : ∃ (v : Int32) (q : Int32 × Mem), fX5_inTrick M = v ∧ fX6_inTrick N = q ∧ v = q.1 ∧ Inv M q.2 := by
  refine ⟨_, _, rfl, rfl, ?_, h.sn (SN.thr N 0)⟩
  show fX1_trickSize M = N 0 9
  obtain ⟨n, hh, pl, k⟩ := h.lk
  unfold fX1_trickSize
  rw [k.2.2.2.2.2.2.2.1, k.2.2.2.2.2.2.2.2.2.2.1, im_4 (by have := k.1; omega)]
theorem sim_cardIn {M N : Mem} (h : Inv M N) (p1 : Int32) : ∃ (r : Res) (q : Int32 × Mem), fX5_cardIn p1 M = r ∧ fX6_cardIn p1 N = some q ∧ (r.1 = 0 ∨ r.1 = 3) ∧ q.2 0 6 = hcd 3 r ∧ (r.1 = 0 → r.2.1 = q.1) ∧ Inv r.2.2 q.2 := by
  unfold fX5_cardIn fX6_cardIn
  obtain ⟨n, hh, pl, k⟩ := h.lk
  obtain ⟨k1, k2, k3, k4, k5, k6, m1, m7, m2, n3, n9, n4⟩ := k
  have hsz : fX1_trickSize M = nI (n % 4) := by unfold fX1_trickSize; rw [m7, im_4 (by omega)]
  have hbad : ∃ (r : Res) (q : Int32 × Mem), (((3 : Nat), (0 : Int32), M) : Res) = r ∧ some ((0 : Int32), mset N 0 6 1) = some q ∧ (r.1 = 0 ∨ r.1 = 3) ∧ q.2 0 6 = hcd 3 r ∧ (r.1 = 0 → r.2.1 = q.1) ∧ Inv r.2.2 q.2 :=
    ⟨_, _, rfl, rfl, Or.inr rfl, thr6 N 1, fun z => (by cases z), h.sn (SN.thr N 1)⟩
  rw [hsz, n9]
  unfold fX6_in
  by_cases h0 : p1 < 0
  · rw [if_pos h0, if_pos h0, if_pos (show (0 : Int32) = 0 from rfl)]
    exact hbad
  · obtain ⟨p, hp, rfl⟩ := nn_ex h0
    rw [if_neg h0, if_neg h0]
    simp only [lt_N hp (show n % 4 < 2 ^ 31 by omega)]
    by_cases hlt : p < n % 4
    · obtain ⟨m, hm⟩ : ∃ m, n % 4 = m + 1 := ⟨n % 4 - 1, by omega⟩
      rw [if_pos hlt, hm, nI_pred]
      simp only [lt_N (show m < 2 ^ 31 by omega) hp]
      rw [if_neg (show ¬ m < p by omega), if_neg (show ¬ (1 : Int32) = 0 by decide), if_pos (vin_N (show p < 4 by omega) (by omega)), cl_N (by omega)]
      refine ⟨_, _, rfl, rfl, Or.inl rfl, thr6 N 0, fun _ => ?_, h.sn (SN.thr N 0)⟩
      show fX1_trickCard (nI p) M = N 4 p
      unfold fX1_trickCard
      rw [hsz, m7, pk_sub (by omega), nI_add, laidAt_N m2 k1 (by omega), n4 p hlt]
      rfl
    · have hz : nI (n % 4) - 1 < nI p := by
        by_cases hz : n % 4 = 0
        · rw [hz, Int32.lt_iff_toInt_lt, nI_toInt hp]
          have : (nI 0 - 1 : Int32).toInt = -1 := by decide
          omega
        · obtain ⟨m, hm⟩ : ∃ m, n % 4 = m + 1 := ⟨n % 4 - 1, by omega⟩
          rw [hm, nI_pred, lt_N (by omega) hp]; omega
      rw [if_neg hlt, if_pos hz, if_pos (show (0 : Int32) = 0 from rfl)]
      exact hbad
theorem sim_won {M N : Mem} (h : Inv M N) (p1 : Int32) : ∃ (r : Res) (q : Int32 × Mem), fX5_won p1 M = some r ∧ fX6_won p1 N = some q ∧ (r.1 = 0 ∨ r.1 = 1) ∧ q.2 0 6 = hcd 1 r ∧ (r.1 = 0 → r.2.1 = q.1) ∧ Inv r.2.2 q.2 := by
  unfold fX5_won fX6_won
  rcases rg p1 (b := 2) (by omega) (by omega) with ⟨s, hs, rfl, hi, g1, g2⟩ | ⟨hi, hno⟩
  · rw [if_neg g1, if_pos (show nI s < 2 from g2), show fX6_in (nI s) 0 1 = 1 from hi, if_neg (show ¬ (1 : Int32) = 0 by decide), if_pos (vin_N hs (by omega)), cl_N (by omega)]
    have key : fX1_tricksOf (nI s) M = some (N 5 s) := by
      obtain ⟨τ, hτ, hM3, hN0, ⟨d, hD⟩ | ⟨T, d, l, n, pl, hG⟩⟩ := h
      · unfold fX1_tricksOf
        rw [hD.2.2.2.2.2.2.2.2.2.2.2.2.2 s hs, show fX1_tricksOf_L4 40 = fX1_tricksOf_L4 (39 + 1) from rfl, fX1_tricksOf_L4.eq_2]
        have : fX1_tricksOver M = 0 := by unfold fX1_tricksOver; rw [hD.2.2.2.2.2.2.1]; decide
        rw [this, if_pos (show (0 : Int32) < 1 by decide)]; rfl
      · have w := hG.wf
        have e := tricksOf_loop hG.2.2.1 w hs 40 (n / 4) 0 (by have := w.2.1; have := w.2.2.1; omega) (by omega)
        unfold fX1_tricksOf
        rw [hG.2.2.2.2.1 s hs]
        have e' : fX1_tricksOf_L4 40 (nI s) 0 1 M = some (nI (won (run τ d l pl n).2 s (n / 4))) := e
        rw [e']; rfl
    rw [key]
    exact ⟨_, _, rfl, rfl, Or.inl rfl, thr6 N 0, fun _ => rfl, h.sn (SN.thr N 0)⟩
  · rw [show fX6_in p1 0 1 = 0 from hi, if_pos (show (0 : Int32) = 0 from rfl)]
    have hr : (if p1 < 0 then some ((1, 0, M) : Res) else if p1 < 2 then obind (fX1_tricksOf p1 M) (fun q3 => some (0, q3, M)) else some (1, 0, M)) = some (1, 0, M) := by
      rcases hno with g | ⟨g1, g2⟩
      · rw [if_pos g]
      · rw [if_neg g1, if_neg (show ¬ p1 < 2 from g2)]
    rw [hr]
    exact ⟨_, _, rfl, rfl, Or.inr rfl, thr6 N 1, fun z => (by cases z), h.sn (SN.thr N 1)⟩
