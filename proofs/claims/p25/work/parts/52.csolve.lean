/-! the class solves -/
abbrev hn (τ : Nat) (d : Nat → Int32) (l n : Nat) (pl : Nat → Nat) : Nat → Int32 := (run τ d l pl n).1
theorem CG.open_ {M : Mem} {τ T l n : Nat} {d : Nat → Int32} {pl : Nat → Nat} (h : CG M τ T d l n pl) : fX5_needStarted M = some (0, 0, M) := by
  unfold fX5_needStarted fX1_isOpen
  rw [h.2.1.2.1, if_pos (show vb 1 = true by decide), ob_s, if_neg (show ¬ (1 : Int32) = 0 by decide)]
theorem CD.shut {M : Mem} {d : Nat → Int32} (h : CD M d) : fX5_needStarted M = some (2, 0, M) := by
  unfold fX5_needStarted fX1_isOpen
  rw [h.1, if_pos (show vb 0 = true by decide), ob_s, if_pos rfl]
theorem c_started {M : Mem} {τ T l n : Nat} {d : Nat → Int32} {pl : Nat → Nat} (h : CG M τ T d l n pl) : fX5_isStarted M = some 1 := by
  unfold fX5_isStarted fX1_isOpen
  rw [h.2.1.2.1, if_pos (show vb 1 = true by decide), ob_s, if_pos (show vb 1 = true by decide)]
theorem c_startedD {M : Mem} {d : Nat → Int32} (h : CD M d) : fX5_isStarted M = some 0 := by
  unfold fX5_isStarted fX1_isOpen
  rw [h.1, if_pos (show vb 0 = true by decide), ob_s, if_pos (show vb 0 = true by decide)]
theorem CG.again {M M' : Mem} {τ T l n : Nat} {d : Nat → Int32} {pl : Nat → Nat} (h : CG M τ T d l n pl) (r : Rep M' τ T n (run τ d l pl n).1 pl (ldr τ l pl)) (k : KOK τ T d (M' 5)) : CG M' τ T d l n pl := ⟨h.1, r, k⟩
theorem c_solve {M : Mem} {τ T l n : Nat} {d : Nat → Int32} {pl : Nat → Nat} (h : CG M τ T d l n pl) : ∃ M', gX5_solve M = some (0, nI (VG τ T n (run τ d l pl n).1 pl (ldr τ l pl)), M') ∧ CG M' τ T d l n pl := by
  obtain ⟨M', m1, m2, m3, m4⟩ := most_ok h.2.1 h.1.wp h.dl h.2.2
  unfold gX5_solve fX5_solve
  rw [h.open_, ob_s, if_pos (show (0 : Nat) = 0 from rfl)]
  dsimp only
  rw [m1, ob_s]
  exact ⟨M', rfl, h.again m2 m3⟩
theorem c_solveD {M : Mem} {d : Nat → Int32} (h : CD M d) : gX5_solve M = some (2, 0, M) := by
  unfold gX5_solve fX5_solve
  rw [h.shut, ob_s, if_neg (show ¬ (2 : Nat) = 0 by decide)]
theorem c_byAll {M : Mem} {τ T l n : Nat} {d : Nat → Int32} {pl : Nat → Nat} (h : CG M τ T d l n pl) (h12 : 4 * T - n ≤ 12) : ∃ M', gX5_solveByAll M = some (0, nI (VG τ T n (run τ d l pl n).1 pl (ldr τ l pl)), M') ∧ CG M' τ T d l n pl := by
  have w := h.1.wp
  have hT := w.2.1
  obtain ⟨M', m1, m2, m5, m4⟩ := byAll_ok τ T 20 n M _ _ _ (by omega) h.2.1 w
  unfold gX5_solveByAll fX5_solveByAll
  rw [h.open_, ob_s, if_pos (show (0 : Nat) = 0 from rfl)]
  dsimp only
  rw [R_cardsLeft h.2.1 w, if_pos (show nI (4 * T - n) ≤ (12 : Int32) from nI_le (b := 12) h12 (by omega)), m1, ob_s]
  exact ⟨M', rfl, h.again m2 (by rw [m5]; exact h.2.2)⟩
theorem c_byAllD {M : Mem} {d : Nat → Int32} (h : CD M d) : gX5_solveByAll M = some (2, 0, M) := by
  unfold gX5_solveByAll fX5_solveByAll
  rw [h.shut, ob_s, if_neg (show ¬ (2 : Nat) = 0 by decide)]
theorem c_value1 {M : Mem} {τ T l n : Nat} {d : Nat → Int32} {pl : Nat → Nat} (h : CG M τ T d l n pl) {c : Nat} (hc : c < 24) (hl : lgl τ T d l n pl c = true) : ∃ M', gX5_value (nI c) M = some (0, nI (ww τ T n (run τ d l pl n).1 pl (ldr τ l pl) c), M') ∧ CG M' τ T d l n pl := by
  have hl2 := bq_t.mp hl
  obtain ⟨M', m1, m2, m3, m4, m5⟩ := worth_ok h.2.1 h.1.wp h.dl h.2.2 hl2.1 hc (legal_has hl2.2)
  unfold gX5_value fX5_value
  rw [nc_ok hc, if_pos (show (0 : Nat) = 0 from rfl)]
  dsimp only
  rw [h.np1 hc hl, if_pos (show (0 : Nat) = 0 from rfl)]
  dsimp only
  rw [m1, ob_s]
  exact ⟨M', rfl, h.again m2 m3⟩
theorem c_value0 {M : Mem} {τ T l n : Nat} {d : Nat → Int32} {pl : Nat → Nat} (h : CG M τ T d l n pl) {c : Nat} (hc : c < 24) (hl : lgl τ T d l n pl c = false) : gX5_value (nI c) M = some (2, 0, M) := by
  unfold gX5_value fX5_value
  rw [nc_ok hc, if_pos (show (0 : Nat) = 0 from rfl)]
  dsimp only
  rw [h.np0 hc hl, if_neg (show ¬ (2 : Nat) = 0 by decide)]
theorem c_valueD {M : Mem} {d : Nat → Int32} (h : CD M d) {c : Nat} (hc : c < 24) : gX5_value (nI c) M = some (2, 0, M) := by
  have e : fX5_needPlayable (nI c) M = (2, 0, M) := by
    unfold fX5_needPlayable
    rw [h.playable, fX0_holds_eq _ hc, bt_0, if_neg (show ¬ (false = true) by decide), if_pos rfl]
  unfold gX5_value fX5_value
  rw [nc_ok hc, if_pos (show (0 : Nat) = 0 from rfl)]
  dsimp only
  rw [e, if_neg (show ¬ (2 : Nat) = 0 by decide)]
theorem c_best1 {M : Mem} {τ T l n : Nat} {d : Nat → Int32} {pl : Nat → Nat} (h : CG M τ T d l n pl) (hn4 : n < 4 * T) : ∃ c M', gX5_bestCard M = some (0, nI c, M') ∧ Best (fun c => c < 24 ∧ legal (Hs (run τ d l pl n).1 (mv n (ldr τ l pl))) (n % 4) (ts n pl) c = true) (ww τ T n (run τ d l pl n).1 pl (ldr τ l pl)) c ∧ CG M' τ T d l n pl := by
  obtain ⟨c, M', m1, m2, m3, m4, m5⟩ := best_ok h.2.1 h.1.wp h.dl h.2.2 hn4
  have hm := mv_lt n (ldr τ l pl)
  unfold gX5_bestCard fX5_bestCard
  rw [h.mover, if_pos hn4, if_neg (ne_m1 (by omega)), m1, ob_s]
  exact ⟨c, M', rfl, m2, h.again m3 m4⟩
theorem c_best0 {M : Mem} {τ T l n : Nat} {d : Nat → Int32} {pl : Nat → Nat} (h : CG M τ T d l n pl) (hn4 : ¬ n < 4 * T) : gX5_bestCard M = some (2, 0, M) := by
  unfold gX5_bestCard fX5_bestCard
  rw [h.mover, if_neg hn4, if_pos rfl]
theorem c_bestD {M : Mem} {d : Nat → Int32} (h : CD M d) : gX5_bestCard M = some (2, 0, M) := by
  unfold gX5_bestCard fX5_bestCard
  rw [h.mover, if_pos rfl]
