/-! the reference: the trick's winner, and the game played again from the deal -/
def wt (τ u c : Nat) : Nat := if c / 6 = τ then 20 + c % 6 else if c / 6 = u then 10 + c % 6 else 0
theorem wt_lt (τ u c : Nat) : wt τ u c < 30 := by unfold wt; split; omega; split <;> omega
theorem weight_eq {M : Mem} {τ u c : Nat} (h0 : M 0 0 = tv τ) (hτ : τ ≤ 4) (hu : u < 4) (hc : c < 24) : fX6_weight (nI c) (nI u) M = nI (wt τ u c) := by
  unfold fX6_weight wt
  rw [dv_6 (by omega), im_6 (by omega), h0]
  simp only [tv_eq hτ (show c / 6 < 4 by omega), eq_N (show c / 6 < 2 ^ 31 by omega) (show u < 2 ^ 31 by omega)]
  by_cases h1 : c / 6 = τ
  · rw [if_pos h1, if_pos h1]; exact nI_add 20 (c % 6)
  · rw [if_neg h1, if_neg h1]
    by_cases h2 : c / 6 = u
    · rw [if_pos h2, if_pos h2]; exact nI_add 10 (c % 6)
    · rw [if_neg h2, if_neg h2]; rfl
theorem wt_wins {τ u b c : Nat} (hb : b / 6 = τ ∨ b / 6 = u) : (wt τ u c ≤ wt τ u b) ↔ wins τ b c = false := by
  unfold wt wins
  by_cases h1 : c / 6 = b / 6
  · rw [if_pos h1, decide_eq_false_iff_not, h1]
    by_cases h2 : b / 6 = τ
    · rw [if_pos h2, if_pos h2]; omega
    · rw [if_neg h2, if_neg h2, if_pos (by omega), if_pos (by omega)]; omega
  · rw [if_neg h1, decide_eq_false_iff_not]
    by_cases h2 : c / 6 = τ
    · rw [if_pos h2, if_neg (show ¬ b / 6 = τ by omega), if_pos (show b / 6 = u by omega)]; omega
    · rw [if_neg h2]
      by_cases h3 : b / 6 = τ
      · rw [if_pos h3]; split <;> omega
      · rw [if_neg h3, if_neg (show ¬ c / 6 = u by omega)]; simp [h2]
theorem wins_suit {τ u b c : Nat} (hb : b / 6 = τ ∨ b / 6 = u) (h : wins τ b c = true) : c / 6 = τ ∨ c / 6 = u := by
  unfold wins at h
  by_cases h1 : c / 6 = b / 6
  · omega
  · rw [if_neg h1] at h; exact Or.inl (of_decide_eq_true h)
/-- the walk over the trick, whatever its name -/
theorem walk_plc {α : Type} {τ u : Nat} {t : Nat → Nat} (hu : u = t 0 / 6) (W : Nat → Int32 → Int32 → Option α) (fin : Int32 → Option α)
    (step : ∀ n p q, p < 4 → q < 4 → W (n + 1) (nI p) (nI q) = if wt τ u (t q) ≤ wt τ u (t p) then W n (nI p) (nI (q + 1)) else W n (nI q) (nI (q + 1)))
    (end4 : ∀ n p, p < 4 → W (n + 1) (nI p) (nI 4) = fin (nI p)) : W 40 (nI 0) (nI 1) = fin (nI (plc τ t)) := by
  have st : ∀ n p q, p < 4 → q < 4 → (t p / 6 = τ ∨ t p / 6 = u) → W (n + 1) (nI p) (nI q) = W n (nI (if wins τ (t p) (t q) = true then q else p)) (nI (q + 1)) := by
    intro n p q hp hq hs
    rw [step n p q hp hq]
    simp only [wt_wins hs]
    cases wins τ (t p) (t q) <;> rfl
  have ss : ∀ p q, (t p / 6 = τ ∨ t p / 6 = u) → (t (if wins τ (t p) (t q) = true then q else p) / 6 = τ ∨ t (if wins τ (t p) (t q) = true then q else p) / 6 = u) := by
    intro p q hs
    by_cases h : wins τ (t p) (t q) = true
    · rw [if_pos h]; exact wins_suit hs h
    · rw [if_neg h]; exact hs
  unfold plc
  dsimp only
  have s0 : t 0 / 6 = τ ∨ t 0 / 6 = u := Or.inr hu.symm
  rw [st 39 0 1 (by omega) (by omega) s0]
  have s1 := ss 0 1 s0
  generalize hp1 : (if wins τ (t 0) (t 1) = true then 1 else 0) = p1 at s1 ⊢
  have l1 : p1 < 2 := by rw [← hp1]; split <;> omega
  rw [st 38 p1 2 (by omega) (by omega) s1]
  have s2 := ss p1 2 s1
  generalize hp2 : (if wins τ (t p1) (t 2) = true then 2 else p1) = p2 at s2 ⊢
  have l2 : p2 < 3 := by rw [← hp2]; split <;> omega
  rw [st 37 p2 3 (by omega) (by omega) s2]
  exact end4 36 _ (by split <;> omega)
theorem winner_ok {M : Mem} {τ L : Nat} {t : Nat → Nat} (h0 : M 0 0 = tv τ) (hτ : τ ≤ 4) (hL : L < 4) (ht : ∀ i, i < 4 → t i < 24) (h4 : ∀ i, i < 4 → M 4 i = nI (t i)) : fX6_winner (nI L) M = some (nI ((L + plc τ t) % 4)) := by
  unfold fX6_winner
  have t0 := ht 0 (by omega)
  rw [h4 0 (by omega), dv_6 (by omega)]
  have := walk_plc (α := Int32) (τ := τ) (u := t 0 / 6) (t := t) rfl (fun n a b => fX6_winner_L15 n (nI L) (nI (t 0 / 6)) a b M) some (fun n p q hp hq => by
    show fX6_winner_L15 (n + 1) (nI L) (nI (t 0 / 6)) (nI p) (nI q) M = _
    rw [fX6_winner_L15.eq_2, if_neg (show ¬ (4 : Int32) ≤ nI q from nI_ge (b := 4) (by omega) (by omega)), if_pos (vin_N hq (by omega)), if_pos (vin_N hp (by omega)), cl_N (by omega), cl_N (by omega), h4 q hq, h4 p hp, weight_eq h0 hτ (by omega) (ht q hq), weight_eq h0 hτ (by omega) (ht p hp)]
    have w1 := wt_lt τ (t 0 / 6) (t q)
    have w2 := wt_lt τ (t 0 / 6) (t p)
    simp only [le_N (show wt τ (t 0 / 6) (t q) < 2 ^ 31 by omega) (show wt τ (t 0 / 6) (t p) < 2 ^ 31 by omega)]
    rw [show (nI q + 1 : Int32) = nI (q + 1) from nI_add q 1]) (fun n p hp => by
    show fX6_winner_L15 (n + 1) (nI L) (nI (t 0 / 6)) (nI p) (nI 4) M = _
    rw [fX6_winner_L15.eq_2, if_pos (show (4 : Int32) ≤ nI 4 from by decide)])
  have e : fX6_winner_L15 40 (nI L) (nI (t 0 / 6)) 0 1 M = some (nI (plc τ t)) := this
  rw [e]
  have := plc_lt τ t
  simp only [obind]
  rw [nI_add, im_4 (by omega)]
def won (ld : Nat → Nat) (s m : Nat) : Nat := cn (fun j => decide (ld (j + 1) % 2 = s)) m
theorem cn_le (f : Nat → Bool) : ∀ n, cn f n ≤ n := by
  intro n
  induction n with
  | zero => exact Nat.le_refl _
  | succ n ih => simp only [cn]; split <;> omega
/-- the reference after k cards of the list -/
def RS (N0 N : Mem) (τ : Nat) (d : Nat → Int32) (l : Nat) (pl : Nat → Nat) (k : Nat) : Prop :=
  (∀ p, p < 4 → N 3 p = (run τ d l pl k).1 p) ∧ (∀ i, i < k % 4 → N 4 i = nI (ts k pl i)) ∧ N 0 9 = nI (k % 4) ∧ N 0 10 = nI ((run τ d l pl k).2 (k / 4)) ∧ (∀ s, s < 2 → N 5 s = nI (won (run τ d l pl k).2 s (k / 4))) ∧
  (∀ i, i ≠ 0 → i ≠ 3 → i ≠ 4 → i ≠ 5 → N i = N0 i) ∧ ∀ j, j ≠ 9 → j ≠ 10 → N 0 j = N0 0 j
theorem run_ld_lt {τ l : Nat} {d : Nat → Int32} {pl : Nat → Nat} (hl : l < 4) : ∀ k j, (run τ d l pl k).2 j < 4 := by
  intro k
  induction k with
  | zero => intro j; exact hl
  | succ k ih =>
    intro j
    show ldP τ k pl (run τ d l pl k).2 (pl k) j < 4
    unfold ldP
    split
    · unfold updN; split
      · exact Nat.mod_lt _ (by decide)
      · exact ih j
    · exact ih j
theorem replay_loop {N0 : Mem} {τ l n : Nat} {d : Nat → Int32} {pl : Nat → Nat} (hτ : τ ≤ 4) (hl : l < 4) (hn : n ≤ 16) (hp : ∀ k, k < n → pl k < 24) (h0 : N0 0 0 = tv τ) (h5 : N0 0 5 = nI n) (h2 : ∀ k, k < n → N0 2 k = nI (pl k)) :
    ∀ F m k N, m < F → k + m = n → RS N0 N τ d l pl k → ∃ N', fX6_replay_L54 F (nI k) N = some N' ∧ RS N0 N' τ d l pl n := by
  intro F
  induction F with
  | zero => intro m k N h; omega
  | succ F ih =>
    intro m k N hm hk r
    obtain ⟨r3, r4, r9, r10, rw5, rf, rf0⟩ := id r
    rw [fX6_replay_L54.eq_2, rf0 5 (by decide) (by decide), h5]
    simp only [le_N (show n < 2 ^ 31 by omega) (show k < 2 ^ 31 by omega)]
    by_cases hkn : n ≤ k
    · rw [if_pos hkn]
      have : k = n := by omega
      subst this
      exact ⟨N, rfl, r⟩
    · rw [if_neg hkn]
      have hLd := run_ld_lt (τ := τ) (d := d) (pl := pl) hl k (k / 4)
      have hmv : im ((N 0 10) + (N 0 9)) 4 = nI (mv k (run τ d l pl k).2) := by
        rw [r10, r9, nI_add, im_4 (by omega)]; rfl
      have hm4 := mv_lt k (run τ d l pl k).2
      have hpk := hp k (by omega)
      rw [hmv, r9, rf 2 (by decide) (by decide) (by decide) (by decide), if_pos (vin_N hm4 (by omega)), if_pos (vin_N (show k < 16 by omega) (by omega)), if_pos (vin_N hm4 (by omega)), if_pos (vin_N (show k < 16 by omega) (by omega)), if_pos (vin_N (show k % 4 < 4 by omega) (by omega)), cl_N (show k < 2 ^ 31 by omega), cl_N (show mv k (run τ d l pl k).2 < 2 ^ 31 by omega), cl_N (show k % 4 < 2 ^ 31 by omega), h2 k (by omega)]
      rw [show (nI (k % 4) + 1 : Int32) = nI (k % 4 + 1) from nI_add (k % 4) 1, show (nI k + 1 : Int32) = nI (k + 1) from nI_add k 1]
      rw [r3 _ hm4]
      have hrun1 : ∀ q, (run τ d l pl (k + 1)).1 q = if q = mv k (run τ d l pl k).2 then (run τ d l pl k).1 q &&& (sl 1 (nI (pl k)) ^^^ (-1)) else (run τ d l pl k).1 q := fun q => rfl
      have hrun2 : (run τ d l pl (k + 1)).2 = ldP τ k pl (run τ d l pl k).2 (pl k) := rfl
      by_cases h3 : k % 4 = 3
      · rw [show k % 4 + 1 = 4 by omega, if_pos (show nI 4 = 4 from rfl)]
        generalize hA : mset (mset (mset N 3 (mv k (run τ d l pl k).2) ((run τ d l pl k).1 (mv k (run τ d l pl k).2) &&& (sl 1 (nI (pl k)) ^^^ (-1)))) 4 (k % 4) (nI (pl k))) 0 9 (nI 4) = A
        have hw := winner_ok (M := A) (τ := τ) (L := (run τ d l pl k).2 (k / 4)) (t := updN (ts k pl) 3 (pl k)) (by rw [← hA]; simp only [mset_at]; simpa using (rf0 0 (by decide) (by decide)).trans h0) hτ hLd (fun i hi => by
          by_cases hi3 : i = 3
          · subst hi3; rw [updN_s]; exact hpk
          · rw [updN_n _ _ hi3]; exact hp _ (by omega)) (fun i hi => by
          rw [← hA]; simp only [mset_at]
          by_cases hi3 : i = 3
          · subst hi3; rw [updN_s]; simp [h3]
          · rw [updN_n _ _ hi3]; have := r4 i (by omega); simp [h3, hi3, this])
        rw [r10, hw]
        have hwn : ((run τ d l pl k).2 (k / 4) + plc τ (updN (ts k pl) 3 (pl k))) % 4 = wnr τ k pl (run τ d l pl k).2 (pl k) := rfl
        rw [hwn]
        have hw4 : wnr τ k pl (run τ d l pl k).2 (pl k) < 4 := Nat.mod_lt _ (by decide)
        generalize hwv : wnr τ k pl (run τ d l pl k).2 (pl k) = w at hw4 ⊢
        simp only [obind]
        rw [im_2 (show w < 2 ^ 31 by omega), if_pos (vin_N (show w % 2 < 2 by omega) (by omega)), if_pos (vin_N (show w % 2 < 2 by omega) (by omega)), cl_N (show w % 2 < 2 ^ 31 by omega), rw5 (w % 2) (by omega)]
        have hld : (run τ d l pl (k + 1)).2 = updN (run τ d l pl k).2 (k / 4 + 1) w := by
          rw [hrun2]; unfold ldP; rw [if_pos h3, hwv]
        refine ih (m - 1) (k + 1) _ (by omega) (by omega) ⟨fun p hp4 => ?_, fun i hi => ?_, ?_, ?_, fun s hs => ?_, fun i i0 i3 i4 i5 => ?_, fun j j9 j10 => ?_⟩
        · rw [← hA]; simp only [mset_at]
          rw [hrun1 p]
          by_cases hpm : p = mv k (run τ d l pl k).2
          · simp [hpm]
          · simp [hpm, r3 p hp4]
        · omega
        · simp only [mset_at]; rw [show (k + 1) % 4 = 0 by omega]; simp; rfl
        · simp only [mset_at]
          rw [hld, show (k + 1) / 4 = k / 4 + 1 by omega, updN_s]; simp
        · rw [← hA]; simp only [mset_at]
          have e1 : won (run τ d l pl (k + 1)).2 s ((k + 1) / 4) = won (run τ d l pl k).2 s (k / 4) + (if w % 2 = s then 1 else 0) := by
            rw [hld, show (k + 1) / 4 = k / 4 + 1 by omega]
            unfold won
            simp only [cn]
            simp only [updN_s]
            rw [cn_congr (k / 4) (g := fun j => decide ((run τ d l pl k).2 (j + 1) % 2 = s)) (fun j hj => by show decide (updN _ _ _ _ % 2 = s) = _; rw [updN_n _ _ (by omega)])]
            by_cases hs2 : w % 2 = s <;> simp [hs2]
          rw [e1]
          have hcl := cn_le (fun j => decide ((run τ d l pl k).2 (j + 1) % 2 = s)) (k / 4)
          by_cases hs2 : w % 2 = s
          · subst hs2
            simp
            exact nI_add _ 1
          · have hs3 : ¬ s = w % 2 := fun z => hs2 z.symm
            simp [hs2, hs3, rw5 s hs]
        · rw [← hA]; funext j; simp only [mset_at]
          simp [i0, i3, i4, i5, rf i i0 i3 i4 i5]
        · rw [← hA]; simp only [mset_at]
          simp [j9, j10, rf0 j j9 j10]
      · rw [if_neg (by
          rw [show (4 : Int32) = nI 4 from rfl, eq_N (by omega) (by omega)]; omega)]
        have hld : (run τ d l pl (k + 1)).2 = (run τ d l pl k).2 := by
          rw [hrun2]; unfold ldP; rw [if_neg h3]
        refine ih (m - 1) (k + 1) _ (by omega) (by omega) ⟨fun p hp4 => ?_, fun i hi => ?_, ?_, ?_, fun s hs => ?_, fun i i0 i3 i4 i5 => ?_, fun j j9 j10 => ?_⟩
        · simp only [mset_at]
          rw [hrun1 p]
          by_cases hpm : p = mv k (run τ d l pl k).2
          · simp [hpm]
          · simp [hpm, r3 p hp4]
        · simp only [mset_at]
          by_cases hik : i = k % 4
          · subst hik
            have : ts (k + 1) pl (k % 4) = pl k := by unfold ts; congr 1; omega
            rw [this]; simp
          · have e1 : ts (k + 1) pl i = ts k pl i := by unfold ts; congr 1; omega
            rw [e1]; have := r4 i (by omega); simp [hik, this]
        · simp only [mset_at]; rw [show (k + 1) % 4 = k % 4 + 1 by omega]; simp
        · simp only [mset_at]
          rw [hld, show (k + 1) / 4 = k / 4 by omega]; simp [r10]
        · simp only [mset_at]
          rw [hld, show (k + 1) / 4 = k / 4 by omega]; simp [rw5 s hs]
        · funext j; simp only [mset_at]
          simp [i0, i3, i4, i5, rf i i0 i3 i4 i5]
        · simp only [mset_at]
          simp [j9, j10, rf0 j j9 j10]
