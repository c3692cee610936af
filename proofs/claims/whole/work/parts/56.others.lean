theorem oth_loop {M : Mem} {k : Nat} {t : Nat → Nat} (h9 : M 0 9 = nI k) (hk : k < 4) (h4 : ∀ i, i < k → M 4 i = nI (t i) ∧ t i < 24) :
    ∀ F m i v, m < F → i + m = k → ∃ y, fX6_others_L16 F v (nI i) M = some y ∧ ∀ c, bt y c = true ↔ bt v c = true ∨ ∃ j, i ≤ j ∧ j < k ∧ t j = c := by
  intro F
  induction F with
  | zero => intro m i v h; omega
  | succ F ih =>
    intro m i v hm hi
    rw [fX6_others_L16.eq_2, h9]
    simp only [le_N (show k < 2 ^ 31 by omega) (show i < 2 ^ 31 by omega)]
    by_cases hki : k ≤ i
    · rw [if_pos hki]
      refine ⟨v, rfl, fun c => ⟨Or.inl, ?_⟩⟩
      rintro (h | ⟨j, a, b, -⟩)
      · exact h
      · omega
    · rw [if_neg hki, if_pos (vin_N (by omega) (by omega)), cl_N (by omega), (h4 i (by omega)).1, show (nI i + 1 : Int32) = nI (i + 1) from nI_add i 1]
      obtain ⟨y, e, hb⟩ := ih (m - 1) (i + 1) (v ||| sl 1 (nI (t i))) (by omega) (by omega)
      refine ⟨y, e, fun c => ?_⟩
      rw [hb c, bt_addc (h4 i (by omega)).2, Bool.or_eq_true, decide_eq_true_eq]
      constructor
      · rintro ((a | rfl) | ⟨j, a, b, d⟩)
        · exact Or.inl a
        · exact Or.inr ⟨i, Nat.le_refl _, by omega, rfl⟩
        · exact Or.inr ⟨j, by omega, b, d⟩
      · rintro (a | ⟨j, a, b, d⟩)
        · exact Or.inl (Or.inl a)
        · rcases Nat.eq_or_lt_of_le a with rfl | q
          · exact Or.inl (Or.inr d.symm)
          · exact Or.inr ⟨j, q, b, d⟩
theorem all_bt (M : Mem) (c : Nat) : bt (fX6_all M) c = true ↔ ∃ p, p < 4 ∧ bt (M 3 p) c = true := by
  unfold fX6_all
  simp only [bt_or, Bool.or_eq_true]
  constructor
  · rintro (((a | a) | a) | a)
    · exact ⟨0, by omega, a⟩
    · exact ⟨1, by omega, a⟩
    · exact ⟨2, by omega, a⟩
    · exact ⟨3, by omega, a⟩
  · rintro ⟨p, hp, a⟩
    obtain rfl | rfl | rfl | rfl : p = 0 ∨ p = 1 ∨ p = 2 ∨ p = 3 := by omega
    · exact Or.inl (Or.inl (Or.inl a))
    · exact Or.inl (Or.inl (Or.inr a))
    · exact Or.inl (Or.inr a)
    · exact Or.inr a
theorem others_ok {M : Mem} {k p : Nat} {t : Nat → Nat} (h9 : M 0 9 = nI k) (hk : k < 4) (h4 : ∀ i, i < k → M 4 i = nI (t i) ∧ t i < 24) (hp : p < 4) :
    ∃ y, fX6_others (nI p) M = some y ∧ ∀ c, c < 24 → (bt y c = true ↔ ((∃ q, q < 4 ∧ bt (M 3 q) c = true) ∧ bt (M 3 p) c = false) ∨ ∃ j, j < k ∧ t j = c) := by
  obtain ⟨y, e, hb⟩ := oth_loop h9 hk h4 40 k 0 (fX6_all M &&& (M 3 p ^^^ (-1))) (by omega) (by omega)
  refine ⟨y, ?_, fun c hc => ?_⟩
  · unfold fX6_others
    rw [if_pos (vin_N hp (by omega)), cl_N (by omega)]
    have e' : fX6_others_L16 40 (fX6_all M &&& (M 3 p ^^^ (-1))) 0 M = some y := e
    rw [e']; rfl
  · rw [hb c, bt_and, bt_not _ (by omega), Bool.and_eq_true, all_bt, Bool.not_eq_true']
    constructor
    · rintro (a | ⟨j, -, b, d⟩)
      · exact Or.inl a
      · exact Or.inr ⟨j, b, d⟩
    · rintro (a | ⟨j, b, d⟩)
      · exact Or.inl a
      · exact Or.inr ⟨j, by omega, b, d⟩
