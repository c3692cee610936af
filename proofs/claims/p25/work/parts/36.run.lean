/-! the game by its list of cards, from the deal -/
def run (τ : Nat) (d : Nat → Int32) (l : Nat) (pl : Nat → Nat) : Nat → (Nat → Int32) × (Nat → Nat)
  | 0 => (d, fun _ => l)
  | n + 1 => (hP (run τ d l pl n).1 (mv n (run τ d l pl n).2) (pl n), ldP τ n pl (run τ d l pl n).2 (pl n))
theorem ts_congr {n : Nat} {pl pl' : Nat → Nat} (h : ∀ k, k < n → pl k = pl' k) (i : Nat) (hi : i < n % 4) : ts n pl i = ts n pl' i := h _ (by omega)
theorem wnr_congr {τ n c : Nat} {pl pl' ld : Nat → Nat} (h : ∀ k, k < n → pl k = pl' k) (h3 : n % 4 = 3) : wnr τ n pl ld c = wnr τ n pl' ld c := by
  unfold wnr
  rw [plc_congr (τ := τ) (t := updN (ts n pl) 3 c) (t' := updN (ts n pl') 3 c) (fun i hi => ?_)]
  by_cases hi3 : i = 3
  · subst hi3; rw [updN_s, updN_s]
  · rw [updN_n _ _ hi3, updN_n _ _ hi3]; exact ts_congr h i (by omega)
theorem ldP_congr {τ n c : Nat} {pl pl' ld : Nat → Nat} (h : ∀ k, k < n → pl k = pl' k) : ldP τ n pl ld c = ldP τ n pl' ld c := by
  unfold ldP
  by_cases h3 : n % 4 = 3
  · rw [if_pos h3, if_pos h3, wnr_congr h h3]
  · rw [if_neg h3, if_neg h3]
theorem run_congr (τ : Nat) (d : Nat → Int32) (l : Nat) {pl pl' : Nat → Nat} : ∀ n, (∀ k, k < n → pl k = pl' k) → run τ d l pl n = run τ d l pl' n := by
  intro n
  induction n with
  | zero => intro _; rfl
  | succ n ih =>
    intro h
    have e := ih (fun k hk => h k (by omega))
    simp only [run]
    rw [e, h n (by omega), ldP_congr (fun k hk => h k (by omega))]
theorem updN_self (pl : Nat → Nat) (n : Nat) : updN pl n (pl n) = pl := by
  funext j; unfold updN; split
  · rename_i h; rw [h]
  · rfl
/-- what is dealt, who led, what was played -/
def GameOK (τ T : Nat) (d : Nat → Int32) (l n : Nat) (pl : Nat → Nat) : Prop :=
  τ ≤ 4 ∧ 1 ≤ T ∧ T ≤ 4 ∧ n ≤ 4 * T ∧ l < 4 ∧ (∀ p, p < 4 → c24 (d p)) ∧ (∀ p, p < 4 → cnt (d p) = T) ∧ (∀ p q, p < 4 → q < 4 → p ≠ q → ∀ c, bt (d p) c = true → bt (d q) c = false) ∧
  ∀ k, k < n → pl k < 24 ∧ bt ((run τ d l pl k).1 (mv k (run τ d l pl k).2)) (pl k) = true
theorem GameOK.wf {τ T l n : Nat} {d : Nat → Int32} {pl : Nat → Nat} (g : GameOK τ T d l n pl) : ∀ k, k ≤ n → WF τ T k (run τ d l pl k).1 pl (run τ d l pl k).2 := by
  obtain ⟨g1, g2, g3, g4, g5, g6, g7, g8, g9⟩ := g
  intro k
  induction k with
  | zero =>
    intro _
    exact ⟨g1, g3, by omega, g6, fun k hk => by omega, fun j hj => g5, g8, fun j hj => by
      show cnt (d ((l + j) % 4)) + _ = _
      rw [g7 _ (Nat.mod_lt _ (by decide)), if_neg (by omega)]; omega, fun i hi => by omega⟩
  | succ k ih =>
    intro hk
    have w := ih (by omega)
    obtain ⟨p1, p2⟩ := g9 k (by omega)
    have := WF_play w (by omega) p1 p2
    rw [updN_self] at this
    exact this
theorem run_dl {τ T l n : Nat} {d : Nat → Int32} {pl : Nat → Nat} (g : GameOK τ T d l n pl) : ∀ k, k ≤ n → Dl d (run τ d l pl k).1 := by
  intro k
  induction k with
  | zero => intro _; exact ⟨fun p _ c h => h, g.2.2.2.2.2.2.2.1⟩
  | succ k ih =>
    intro hk
    exact (ih (by omega)).play (g.2.2.2.2.2.2.2.2 k (by omega)).1
/-- one more card -/
theorem GameOK.more {τ T l n c : Nat} {d : Nat → Int32} {pl : Nat → Nat} (g : GameOK τ T d l n pl) (hn : n < 4 * T) (hc : c < 24) (hb : bt ((run τ d l pl n).1 (mv n (run τ d l pl n).2)) c = true) : GameOK τ T d l (n + 1) (updN pl n c) := by
  obtain ⟨g1, g2, g3, g4, g5, g6, g7, g8, g9⟩ := g
  refine ⟨g1, g2, g3, by omega, g5, g6, g7, g8, fun k hk => ?_⟩
  have e : run τ d l (updN pl n c) k = run τ d l pl k := run_congr τ d l k (fun j hj => updN_n _ _ (by omega))
  rw [e]
  by_cases hkn : k = n
  · subst hkn; rw [updN_s]; exact ⟨hc, hb⟩
  · rw [updN_n _ _ hkn]; exact g9 k (by omega)
theorem GameOK.less {τ T l n : Nat} {d : Nat → Int32} {pl : Nat → Nat} (g : GameOK τ T d l (n + 1) pl) : GameOK τ T d l n pl := by
  obtain ⟨g1, g2, g3, g4, g5, g6, g7, g8, g9⟩ := g
  exact ⟨g1, g2, g3, by omega, g5, g6, g7, g8, fun k hk => g9 k (by omega)⟩
theorem run_more {τ l n c : Nat} {d : Nat → Int32} {pl : Nat → Nat} : run τ d l (updN pl n c) (n + 1) = (hP (run τ d l pl n).1 (mv n (run τ d l pl n).2) c, ldP τ n pl (run τ d l pl n).2 c) := by
  have e : run τ d l (updN pl n c) n = run τ d l pl n := run_congr τ d l n (fun j hj => updN_n _ _ (by omega))
  simp only [run]
  rw [e, updN_s, ldP_congr (pl' := pl) (fun k hk => updN_n _ _ (by omega))]
