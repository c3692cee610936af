/-! a card is played, and taken back -/
theorem mset_at (M : Mem) (i k : Nat) (v : Int32) (a b : Nat) : mset M i k v a b = if a = i ∧ b = k then v else M a b := by
  by_cases h : a = i
  · subst h
    rw [mset_s]
    by_cases hb : b = k
    · subst hb; rw [upd_s, if_pos ⟨rfl, rfl⟩]
    · rw [upd_n _ _ hb, if_neg (fun h => hb h.2)]
  · rw [mset_n _ _ _ h, if_neg (fun h2 => h h2.1)]
theorem R_beats {M : Mem} {τ a b : Nat} (h3 : M 0 3 = tv τ) (hτ : τ ≤ 4) (ha : a < 24) (hb : b < 24) : fX1_beats (nI a) (nI b) M = if wins τ b a then 1 else 0 := by
  unfold fX1_beats wins
  rw [dv_6 (by omega), dv_6 (by omega), h3]
  simp only [eq_N (show a / 6 < 2 ^ 31 by omega) (show b / 6 < 2 ^ 31 by omega), le_N (show a < 2 ^ 31 by omega) (show b < 2 ^ 31 by omega), tv_eq hτ (show a / 6 < 4 by omega)]
  by_cases h : a / 6 = b / 6
  · rw [if_pos h, if_pos h]
    by_cases h2 : a ≤ b
    · rw [if_pos h2]; simp; omega
    · rw [if_neg h2]; simp; omega
  · rw [if_neg h, if_neg h]
    by_cases h2 : a / 6 = τ
    · rw [if_pos h2]; simp [h2]
    · rw [if_neg h2]; simp [h2]
theorem R_winner {M : Mem} {τ base : Nat} {t : Nat → Nat} (h3 : M 0 3 = tv τ) (hτ : τ ≤ 4) (hb : base < 100) (ht : ∀ i, i < 4 → t i < 24) (hl : ∀ i, i < 4 → fX1_laidAt (nI (base + i)) M = nI (t i)) : fX1_endTrick_L11 40 (nI base) 0 1 M = some (nI (plc τ t)) := by
  have step : ∀ (n p q : Nat), p < 4 → q < 4 → fX1_endTrick_L11 (n + 1) (nI base) (nI p) (nI q) M = if wins τ (t p) (t q) then fX1_endTrick_L11 n (nI base) (nI q) (nI (q + 1)) M else fX1_endTrick_L11 n (nI base) (nI p) (nI (q + 1)) M := by
    intro n p q hp hq
    rw [fX1_endTrick_L11.eq_2]
    rw [if_neg (show ¬ (4 : Int32) ≤ nI q from nI_ge (b := 4) (by omega) (by omega)), nI_add, nI_add, hl q hq, hl p hp, R_beats h3 hτ (ht q hq) (ht p hp), nI_1]
    cases wins τ (t p) (t q) <;> rfl
  have fin : ∀ (n p : Nat), fX1_endTrick_L11 (n + 1) (nI base) (nI p) (nI 4) M = some (nI p) := by
    intro n p
    rw [fX1_endTrick_L11.eq_2, if_pos (show (4 : Int32) ≤ nI 4 from by decide)]
  show fX1_endTrick_L11 (39 + 1) (nI base) (nI 0) (nI 1) M = _
  unfold plc
  dsimp only
  rw [step 39 0 1 (by omega) (by omega)]
  have e1 : (if wins τ (t 0) (t 1) = true then fX1_endTrick_L11 39 (nI base) (nI 1) (nI (1 + 1)) M else fX1_endTrick_L11 39 (nI base) (nI 0) (nI (1 + 1)) M) = fX1_endTrick_L11 39 (nI base) (nI (if wins τ (t 0) (t 1) = true then 1 else 0)) (nI 2) M := by split <;> rfl
  rw [e1]
  generalize hp1 : (if wins τ (t 0) (t 1) = true then 1 else 0) = p1
  have l1 : p1 < 2 := by rw [← hp1]; split <;> omega
  rw [step 38 p1 2 (by omega) (by omega)]
  have e2 : (if wins τ (t p1) (t 2) = true then fX1_endTrick_L11 38 (nI base) (nI 2) (nI (2 + 1)) M else fX1_endTrick_L11 38 (nI base) (nI p1) (nI (2 + 1)) M) = fX1_endTrick_L11 38 (nI base) (nI (if wins τ (t p1) (t 2) = true then 2 else p1)) (nI 3) M := by split <;> rfl
  rw [e2]
  generalize hp2 : (if wins τ (t p1) (t 2) = true then 2 else p1) = p2
  have l2 : p2 < 3 := by rw [← hp2]; split <;> omega
  rw [step 37 p2 3 (by omega) (by omega)]
  have e3 : (if wins τ (t p2) (t 3) = true then fX1_endTrick_L11 37 (nI base) (nI 3) (nI (3 + 1)) M else fX1_endTrick_L11 37 (nI base) (nI p2) (nI (3 + 1)) M) = fX1_endTrick_L11 37 (nI base) (nI (if wins τ (t p2) (t 3) = true then 3 else p2)) (nI 4) M := by split <;> rfl
  rw [e3, fin 36]
def hP (h : Nat → Int32) (p c : Nat) : Nat → Int32 := fun q => if q = p then h q &&& (sl 1 (nI c) ^^^ (-1)) else h q
def hL (h : Nat → Int32) (p c : Nat) : Nat → Int32 := fun q => if q = p then h q ||| sl 1 (nI c) else h q
/-- the winner, if c ends the trick -/
def wnr (τ n : Nat) (pl ld : Nat → Nat) (c : Nat) : Nat := (ld (n / 4) + plc τ (updN (ts n pl) 3 c)) % 4
def ldP (τ n : Nat) (pl ld : Nat → Nat) (c : Nat) : Nat → Nat := if n % 4 = 3 then updN ld (n / 4 + 1) (wnr τ n pl ld c) else ld
def resP (τ n : Nat) (pl ld : Nat → Nat) (c : Nat) : Int32 := if n % 4 = 3 then nI (wnr τ n pl ld c) else -1
theorem Rep.congr {M : Mem} {τ T n : Nat} {h h' : Nat → Int32} {pl pl' ld ld' : Nat → Nat} (r : Rep M τ T n h pl ld) (e1 : ∀ p, p < 4 → h p = h' p) (e2 : ∀ k, k < n → pl k = pl' k) (e3 : ∀ j, j ≤ n / 4 → ld j = ld' j) : Rep M τ T n h' pl' ld' := by
  obtain ⟨a1, a2, a3, a4, a5, a6, a7⟩ := r
  exact ⟨a1, a2, a3, a4, fun p hp => by rw [a5 p hp, e1 p hp], fun k hk => by rw [a6 k hk, e2 k hk], fun j hj => by rw [a7 j hj, e3 j hj]⟩
theorem lay_ok {M : Mem} {τ T n : Nat} {h : Nat → Int32} {pl ld : Nat → Nat} {c : Nat} (r : Rep M τ T n h pl ld) (w : WF τ T n h pl ld) (hn : n < 4 * T) (hc : c < 24) :
    ∃ M' : Mem, fX1_lay (nI c) M = some (resP τ n pl ld c, M') ∧ Rep M' τ T (n + 1) (hP h (mv n ld) c) (updN pl n c) (ldP τ n pl ld c) ∧ M' 5 = M 5 ∧ M' 0 4 = M 0 4 := by
  have hmv := R_mover r w hn
  have hp := mv_lt n ld
  obtain ⟨r3, r5, r6, r7, r1, r2, rl⟩ := id r
  obtain ⟨w1, w2, w3, w4, w5, w6, w7, w8, w9⟩ := id w
  have hd : fX1_dropFrom (nI (mv n ld)) (nI c) M = mset M 1 (mv n ld) (h (mv n ld) &&& (sl 1 (nI c) ^^^ (-1))) := by
    unfold fX1_dropFrom
    rw [if_neg (nn_N (by omega)), if_neg (show ¬ (4 : Int32) ≤ nI (mv n ld) from nI_ge (b := 4) (by omega) (by omega)), cl_N (by omega), r1 _ hp]
  unfold fX1_lay
  rw [hmv, hd, r7]
  have h07 : mset M 1 (mv n ld) (h (mv n ld) &&& (sl 1 (nI c) ^^^ (-1))) 0 7 = nI n := by rw [mset_at]; simp [r7]
  rw [h07, if_neg (nn_N (by omega)), if_pos (show nI n < 16 from nI_lt (b := 16) (by omega) (by omega)), if_pos (vin_N (by omega) (by omega)), cl_N (by omega), nI_1]
  generalize hM2 : mset (mset (mset M 1 (mv n ld) (h (mv n ld) &&& (sl 1 (nI c) ^^^ (-1)))) 2 n (nI c)) 0 7 (nI (n + 1)) = M2
  have g : ∀ a b, M2 a b = if a = 0 ∧ b = 7 then nI (n + 1) else if a = 2 ∧ b = n then nI c else if a = 1 ∧ b = mv n ld then h (mv n ld) &&& (sl 1 (nI c) ^^^ (-1)) else M a b := by
    intro a b; rw [← hM2, mset_at, mset_at, mset_at]
  have g07 : M2 0 7 = nI (n + 1) := by rw [g]; simp
  have g03 : M2 0 3 = tv τ := by rw [g]; simp [r3]
  have g05 : M2 0 5 = 1 := by rw [g]; simp [r5]
  have g06 : M2 0 6 = nI T := by rw [g]; simp [r6]
  have g04 : M2 0 4 = M 0 4 := by rw [g]; simp
  have g5 : M2 5 = M 5 := by funext b; rw [g]; simp
  have g1 : ∀ p, p < 4 → M2 1 p = hP h (mv n ld) c p := by
    intro p hp4; rw [g]
    unfold hP
    by_cases hpm : p = mv n ld
    · subst hpm; simp
    · simp [hpm]; exact r1 p hp4
  have g2 : ∀ k, k < n + 1 → M2 2 k = nI (updN pl n c k) := by
    intro k hk; rw [g]
    by_cases hkn : k = n
    · subst hkn; rw [updN_s]; simp
    · rw [updN_n _ _ hkn]; simp [hkn]; exact r2 k (by omega)
  have g3 : ∀ j, j ≤ n / 4 → M2 3 j = nI (ld j) := by
    intro j hj; rw [g]; simp; exact rl j hj
  have hts : fX1_trickSize M2 = nI ((n + 1) % 4) := by unfold fX1_trickSize; rw [g07]; exact im_4 (by omega)
  rw [hts]
  by_cases h3 : n % 4 = 3
  · have e0 : (n + 1) % 4 = 0 := by omega
    rw [e0, if_pos (show nI 0 = 0 from rfl)]
    unfold fX1_endTrick
    have hto : fX1_tricksOver M2 = nI (n / 4 + 1) := by unfold fX1_tricksOver; rw [g07, dv_4 (by omega)]; congr 1; omega
    have hbase : M2 0 7 - 4 = nI (n - 3) := by rw [g07, show (4 : Int32) = nI 4 from rfl, pk_sub (by omega)]; congr 1
    have hwin : fX1_endTrick_L11 40 (nI (n - 3)) 0 1 M2 = some (nI (plc τ (updN (ts n pl) 3 c))) := by
      refine R_winner g03 w1 (by omega) (fun i hi => ?_) (fun i hi => ?_)
      · unfold updN ts
        split
        · exact hc
        · exact w5 _ (by omega)
      · unfold fX1_laidAt
        rw [if_neg (nn_N (by omega)), if_neg (show ¬ (16 : Int32) ≤ nI (n - 3 + i) from nI_ge (b := 16) (by omega) (by omega)), cl_N (by omega), g2 _ (by omega)]
        unfold updN ts
        by_cases hi3 : i = 3
        · rw [if_pos (by omega), if_pos hi3]
        · rw [if_neg (by omega), if_neg hi3, h3]
    rw [hbase, hwin, hto]
    simp only [obind]
    have hsub : nI (n / 4 + 1) - 1 = nI (n / 4) := nI_pred _
    have hlead : fX1_leaderOf (nI (n / 4)) M2 = nI (ld (n / 4)) := by
      unfold fX1_leaderOf
      rw [if_neg (nn_N (by omega)), if_neg (show ¬ (5 : Int32) ≤ nI (n / 4) from nI_ge (b := 5) (by omega) (by omega)), cl_N (by omega)]
      exact g3 _ (Nat.le_refl _)
    have hld : ld (n / 4) < 4 := w6 _ (Nat.le_refl _)
    have hpl := plc_lt τ (updN (ts n pl) 3 c)
    rw [hsub, hlead, nI_add, im_4 (by omega), if_neg (nn_N (by omega)), if_neg (show ¬ (5 : Int32) ≤ nI (n / 4 + 1) from nI_ge (b := 5) (by omega) (by omega)), cl_N (by omega)]
    refine ⟨mset M2 3 (n / 4 + 1) (nI (wnr τ n pl ld c)), ?_, ⟨?_, ?_, ?_, ?_, ?_, ?_, ?_⟩, ?_, ?_⟩
    · unfold resP; rw [if_pos h3]; rfl
    · rw [mset_at]; simp [g03]
    · rw [mset_at]; simp [g05]
    · rw [mset_at]; simp [g06]
    · rw [mset_at]; simp [g07]
    · intro p hp4; rw [mset_at]; simp; exact g1 p hp4
    · intro k hk; rw [mset_at]; simp; exact g2 k hk
    · intro j hj
      unfold ldP; rw [if_pos h3, mset_at]
      by_cases hjn : j = n / 4 + 1
      · subst hjn; rw [updN_s]; simp
      · rw [updN_n _ _ hjn]; simp [hjn]; exact g3 j (by omega)
    · rw [mset_n _ _ _ (by decide)]; exact g5
    · rw [mset_at]; simp [g04]
  · rw [if_neg (by rw [show (0 : Int32) = nI 0 from rfl, eq_N (by omega) (by omega)]; omega)]
    refine ⟨M2, ?_, ⟨g03, g05, g06, g07, g1, g2, ?_⟩, g5, g04⟩
    · unfold resP; rw [if_neg h3]
    · intro j hj
      unfold ldP; rw [if_neg h3]
      exact g3 j (by omega)
theorem lift_ok {M : Mem} {τ T n : Nat} {h : Nat → Int32} {pl ld : Nat → Nat} (r : Rep M τ T (n + 1) h pl ld) (hT : T ≤ 4) (hn : n < 4 * T) (hld : ∀ j, j ≤ n / 4 → ld j < 4) (hpl : pl n < 24) :
    ∃ M' : Mem, fX1_lift M = (nI (pl n), M') ∧ Rep M' τ T n (hL h (mv n ld) (pl n)) pl ld ∧ M' 5 = M 5 ∧ M' 0 4 = M 0 4 := by
  obtain ⟨r3, r5, r6, r7, r1, r2, rl⟩ := r
  unfold fX1_lift
  rw [r7, if_pos (show (0 : Int32) < nI (n + 1) from nI_lt (a := 0) (by omega) (by omega)), nI_pred]
  generalize hM1 : mset M 0 7 (nI n) = M1
  have g : ∀ a b, M1 a b = if a = 0 ∧ b = 7 then nI n else M a b := by intro a b; rw [← hM1, mset_at]
  have g07 : M1 0 7 = nI n := by rw [g]; simp
  have g06 : M1 0 6 = nI T := by rw [g]; simp [r6]
  have g05 : M1 0 5 = 1 := by rw [g]; simp [r5]
  have hlaid : fX1_laidAt (nI n) M1 = nI (pl n) := by
    unfold fX1_laidAt
    rw [if_neg (nn_N (by omega)), if_neg (show ¬ (16 : Int32) ≤ nI n from nI_ge (b := 16) (by omega) (by omega)), cl_N (by omega), g]
    simp; exact r2 n (by omega)
  have hp := mv_lt n ld
  have hmv : fX1_mover M1 = nI (mv n ld) := by
    unfold fX1_mover fX1_cardsLeft fX1_tricksOver fX1_trickSize
    rw [g05, g06, g07, if_neg (by decide), show nI T * 4 = nI (T * 4) from pk_mul T 4, pk_sub (by omega), if_pos (show (0 : Int32) < nI (T * 4 - n) from nI_lt (a := 0) (by omega) (by omega)), dv_4 (by omega), im_4 (by omega)]
    have hl0 : fX1_leaderOf (nI (n / 4)) M1 = nI (ld (n / 4)) := by
      unfold fX1_leaderOf
      rw [if_neg (nn_N (by omega)), if_neg (show ¬ (5 : Int32) ≤ nI (n / 4) from nI_ge (b := 5) (by omega) (by omega)), cl_N (by omega), g]
      simp; exact rl _ (by omega)
    have := hld _ (Nat.le_refl _)
    rw [hl0, nI_add, im_4 (by omega)]
    rfl
  rw [hlaid, hmv]
  have hadd : fX1_addTo (nI (mv n ld)) (nI (pl n)) M1 = mset M1 1 (mv n ld) (h (mv n ld) ||| sl 1 (nI (pl n))) := by
    unfold fX1_addTo
    rw [if_neg (nn_N (by omega)), if_neg (show ¬ (4 : Int32) ≤ nI (mv n ld) from nI_ge (b := 4) (by omega) (by omega)), cl_N (by omega)]
    congr 2
    rw [g]; simp; exact r1 _ hp
  rw [hadd]
  refine ⟨_, rfl, ⟨?_, ?_, ?_, ?_, ?_, ?_, ?_⟩, ?_, ?_⟩
  · rw [mset_at, g]; simp [r3]
  · rw [mset_at, g]; simp [r5]
  · rw [mset_at, g]; simp [r6]
  · rw [mset_at, g]; simp
  · intro p hp4
    rw [mset_at, g]
    unfold hL
    by_cases hpm : p = mv n ld
    · subst hpm; simp
    · simp [hpm]; exact r1 p hp4
  · intro k hk; rw [mset_at, g]; simp; exact r2 k (by omega)
  · intro j hj; rw [mset_at, g]; simp; exact rl j (by omega)
  · rw [mset_n _ _ _ (by decide)]; funext b; rw [g]; simp
  · rw [mset_at, g]; simp
