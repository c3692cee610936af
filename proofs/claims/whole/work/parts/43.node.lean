/-! a choice among the cards of a list -/
def HM (lst : Nat → Nat) (x : Int32) : Nat → Nat → Bool := fun p c => (List.range 4).any (fun i => bt x (4 * p + i) && decide (lst (4 * p + i) = c))
theorem HM_iff {lst : Nat → Nat} {x : Int32} {p c : Nat} : HM lst x p c = true ↔ ∃ i, i < 4 ∧ bt x (4 * p + i) = true ∧ lst (4 * p + i) = c := by
  unfold HM
  simp only [List.any_eq_true, List.mem_range, Bool.and_eq_true, decide_eq_true_eq]
theorem can_loop {M : Mem} {lst : Nat → Nat} {x : Int32} {p t0 : Nat} (hp : p < 4) (h8 : M 8 0 = nI t0) (ht0 : t0 < 24) (h6 : ∀ i, i < 4 → bt x (4 * p + i) = true → M 6 (4 * p + i) = nI (lst (4 * p + i)) ∧ lst (4 * p + i) < 24) :
    ∀ F m i, m < F → i + m = 4 → (∀ j, j < i → bt x (4 * p + j) = true → lst (4 * p + j) / 6 ≠ t0 / 6) → fX6_can_L63 F x (nI p) (nI (4 * p + i)) M = some (if anyS (HM lst x p) (t0 / 6) then 0 else 1) := by
  intro F
  induction F with
  | zero => intro m i h; omega
  | succ F ih =>
    intro m i hm hi hb
    rw [fX6_can_L63.eq_2]
    have e4 : (4 : Int32) * nI p = nI (4 * p) := pk_mul 4 p
    rw [e4, show (nI (4 * p) + 4 : Int32) = nI (4 * p + 4) from nI_add _ 4]
    simp only [le_N (show 4 * p + 4 < 2 ^ 31 by omega) (show 4 * p + i < 2 ^ 31 by omega)]
    by_cases h4 : 4 * p + 4 ≤ 4 * p + i
    · rw [if_pos h4, if_neg]
      · intro h
        obtain ⟨c, hc, h1, h2⟩ := anyS_iff.mp h
        obtain ⟨j, hj, h3, h5⟩ := HM_iff.mp h1
        exact hb j (by omega) h3 (by rw [h5]; exact h2)
    · rw [if_neg h4, has_eq (by omega), show (nI (4 * p + i) + 1 : Int32) = nI (4 * p + (i + 1)) from nI_add _ 1]
      by_cases hx : bt x (4 * p + i) = true
      · rw [if_pos hx, if_neg (by decide), if_pos (vin_N (by omega) (by omega)), cl_N (by omega)]
        obtain ⟨a1, a2⟩ := h6 i (by omega) hx
        rw [a1, h8, dv_6 (by omega), dv_6 (by omega)]
        simp only [eq_N (show lst (4 * p + i) / 6 < 2 ^ 31 by omega) (show t0 / 6 < 2 ^ 31 by omega)]
        by_cases hs : lst (4 * p + i) / 6 = t0 / 6
        · rw [if_pos hs, if_pos (anyS_iff.mpr ⟨_, a2, HM_iff.mpr ⟨i, by omega, hx, rfl⟩, hs⟩)]
        · rw [if_neg hs]
          exact ih (m - 1) (i + 1) (by omega) (by omega) (fun j hj hbj => by
            by_cases hji : j = i
            · subst hji; exact hs
            · exact hb j (by omega) hbj)
      · rw [if_neg hx, if_pos rfl]
        exact ih (m - 1) (i + 1) (by omega) (by omega) (fun j hj hbj => by
          by_cases hji : j = i
          · subst hji; exact absurd hbj hx
          · exact hb j (by omega) hbj)
theorem can_ok {M : Mem} {lst : Nat → Nat} {x : Int32} {p k i : Nat} {t : Nat → Nat} (hp : p < 4) (hi : i < 4) (hk : k < 4) (h8 : 0 < k → M 8 0 = nI (t 0) ∧ t 0 < 24) (h6 : ∀ i, i < 4 → bt x (4 * p + i) = true → M 6 (4 * p + i) = nI (lst (4 * p + i)) ∧ lst (4 * p + i) < 24) :
    fX6_can x (nI p) (nI i) (nI k) M = some (if (bt x (4 * p + i) && legal (HM lst x p) k t (lst (4 * p + i))) = true then 1 else 0) := by
  unfold fX6_can
  have e4 : (4 : Int32) * nI p = nI (4 * p) := pk_mul 4 p
  rw [e4, nI_add, has_eq (by omega)]
  by_cases hx : bt x (4 * p + i) = true
  · rw [if_pos hx, if_neg (by decide), hx, Bool.true_and]
    have hH : HM lst x p (lst (4 * p + i)) = true := HM_iff.mpr ⟨i, hi, hx, rfl⟩
    unfold legal
    rw [hH, Bool.true_and]
    simp only [show (0 : Int32) = nI 0 from rfl, eq_N (show k < 2 ^ 31 by omega) (show 0 < 2 ^ 31 by omega)]
    by_cases hk0 : k = 0
    · rw [if_pos hk0]; simp [hk0]
    · rw [if_neg hk0, if_pos (vin_N (by omega) (by omega)), cl_N (by omega)]
      obtain ⟨a1, a2⟩ := h6 i hi hx
      obtain ⟨b1, b2⟩ := h8 (by omega)
      rw [a1, b1, dv_6 (by omega), dv_6 (by omega)]
      simp only [eq_N (show lst (4 * p + i) / 6 < 2 ^ 31 by omega) (show t 0 / 6 < 2 ^ 31 by omega)]
      by_cases hs : lst (4 * p + i) / 6 = t 0 / 6
      · rw [if_pos hs]; simp [hs]
      · rw [if_neg hs]
        have := can_loop (lst := lst) (x := x) hp b1 b2 h6 40 4 0 (by omega) (by omega) (fun j hj => by omega)
        rw [show nI (4 * p + 0) = nI (4 * p) from rfl] at this
        rw [this]
        cases anyS (HM lst x p) (t 0 / 6) <;> simp [hk0, hs] <;> rfl
  · rw [if_neg hx, if_pos rfl]
    simp [hx]
def NSt (lst : Nat → Nat) (x : Int32) (p k : Nat) (t : Nat → Nat) (e : Bool) (val : Nat → Nat) (i : Nat) (b : Int32) : Prop :=
  ((∀ j, j < i → (bt x (4 * p + j) && legal (HM lst x p) k t (lst (4 * p + j))) = false) ∧ b = -1) ∨
  ∃ v, b = nI v ∧ v < 1000 ∧ IsOpt e (fun c => ∃ j, j < i ∧ (bt x (4 * p + j) && legal (HM lst x p) k t (lst (4 * p + j))) = true ∧ lst (4 * p + j) = c) val v
theorem node_loop {lst : Nat → Nat} {x : Int32} {p k : Nat} {t val : Nat → Nat} (W : Nat → Int32 → Int32 → Mem → Option (Int32 × Mem)) (Nx : Int32 → Mem → Option (Int32 × Mem)) (Q : Mem → Prop) (hp : p < 4) (hk : k < 4)
    (step : ∀ n b i M, W (n + 1) b i M = (if 4 ≤ i then some (b, M) else (obind (fX6_can x (nI p) i (nI k) M) (fun q5 => (if q5 = 0 then W n b (i + 1) M else (if vin ((4 * nI p) + i) 16 = true then (obind (Nx (x &&& ((sl 1 ((4 * nI p) + i)) ^^^ (-1))) (mset M 8 k (M 6 (((4 * nI p) + i).toNatClampNeg)))) (fun q8 => W n (fX6_better (nI p) q8.1 b) (i + 1) q8.2)) else none))))))
    (h6 : ∀ M, Q M → ∀ i, i < 4 → bt x (4 * p + i) = true → M 6 (4 * p + i) = nI (lst (4 * p + i)) ∧ lst (4 * p + i) < 24) (h8 : ∀ M, Q M → 0 < k → M 8 0 = nI (t 0) ∧ t 0 < 24)
    (hNx : ∀ M i, Q M → i < 4 → bt x (4 * p + i) = true → ∃ M', Nx (x &&& (sl 1 (nI (4 * p + i)) ^^^ (-1))) (mset M 8 k (nI (lst (4 * p + i)))) = some (nI (val (lst (4 * p + i))), M') ∧ Q M') (hval : ∀ c, val c < 1000) :
    ∀ F m i b M, m < F → i + m = 4 → Q M → NSt lst x p k t (decide (p % 2 = 0)) val i b → ∃ v M', W F b (nI i) M = some (v, M') ∧ Q M' ∧ NSt lst x p k t (decide (p % 2 = 0)) val 4 v := by
  intro F
  induction F with
  | zero => intro m i b M h; omega
  | succ F ih =>
    intro m i b M hm hi hQ hb
    rw [step]
    by_cases h4 : 4 ≤ i
    · have : i = 4 := by omega
      subst this
      rw [if_pos (show (4 : Int32) ≤ nI 4 from by decide)]
      exact ⟨b, M, rfl, hQ, hb⟩
    · rw [if_neg (show ¬ (4 : Int32) ≤ nI i from nI_ge (b := 4) (by omega) (by omega)), can_ok (lst := lst) (t := t) hp (by omega) hk (h8 M hQ) (h6 M hQ), show (nI i + 1 : Int32) = nI (i + 1) from nI_add i 1]
      have e4 : (4 : Int32) * nI p = nI (4 * p) := pk_mul 4 p
      rw [e4, nI_add]
      simp only [obind]
      by_cases hc : (bt x (4 * p + i) && legal (HM lst x p) k t (lst (4 * p + i))) = true
      · rw [if_pos hc, if_neg (by decide), if_pos (vin_N (by omega) (by omega)), cl_N (by omega)]
        have hx : bt x (4 * p + i) = true := by simp only [Bool.and_eq_true] at hc; exact hc.1
        obtain ⟨a1, a2⟩ := h6 M hQ i (by omega) hx
        obtain ⟨M', n1, n2⟩ := hNx M i hQ (by omega) hx
        rw [a1, n1]
        dsimp only
        refine ih (m - 1) (i + 1) _ M' (by omega) (by omega) n2 (Or.inr ?_)
        have hv := hval (lst (4 * p + i))
        rcases hb with ⟨h0, rfl⟩ | ⟨v, rfl, hv', ⟨c0, ⟨j0, hj0, hl0, hc0⟩, hcv⟩, hall⟩
        · refine ⟨_, better_0 hv, hv, ⟨_, ⟨i, by omega, hc, rfl⟩, rfl⟩, ?_⟩
          rintro c ⟨j, hj, hl, rfl⟩
          by_cases hji : j = i
          · subst hji; split <;> exact Nat.le_refl _
          · rw [h0 j (by omega)] at hl; cases hl
        · refine ⟨_, better_N hp hv hv', by split <;> omega, ?_, ?_⟩
          · by_cases h2 : p % 2 = 0
            · rw [if_pos h2]
              rcases Nat.le_total (val (lst (4 * p + i))) v with q | q
              · exact ⟨c0, ⟨j0, by omega, hl0, hc0⟩, by omega⟩
              · exact ⟨_, ⟨i, by omega, hc, rfl⟩, by omega⟩
            · rw [if_neg h2]
              rcases Nat.le_total (val (lst (4 * p + i))) v with q | q
              · exact ⟨_, ⟨i, by omega, hc, rfl⟩, by omega⟩
              · exact ⟨c0, ⟨j0, by omega, hl0, hc0⟩, by omega⟩
          · rintro c ⟨j, hj, hl, rfl⟩
            by_cases h2 : p % 2 = 0
            · simp only [h2, decide_true, if_true]
              by_cases hji : j = i
              · subst hji; omega
              · have := hall _ ⟨j, by omega, hl, rfl⟩
                simp only [h2, decide_true, if_true] at this
                omega
            · simp only [h2, decide_false, Bool.false_eq_true, if_false]
              by_cases hji : j = i
              · subst hji; omega
              · have := hall _ ⟨j, by omega, hl, rfl⟩
                simp only [h2, decide_false, Bool.false_eq_true, if_false] at this
                omega
      · rw [if_neg hc, if_pos rfl]
        refine ih (m - 1) (i + 1) b M (by omega) (by omega) hQ ?_
        have hcf : (bt x (4 * p + i) && legal (HM lst x p) k t (lst (4 * p + i))) = false := by
          cases hq : (bt x (4 * p + i) && legal (HM lst x p) k t (lst (4 * p + i))) with
          | false => rfl
          | true => exact absurd hq hc
        rcases hb with ⟨h0, rfl⟩ | ⟨v, rfl, hv', hopt⟩
        · refine Or.inl ⟨fun j hj => ?_, rfl⟩
          by_cases hji : j = i
          · subst hji; exact hcf
          · exact h0 j (by omega)
        · refine Or.inr ⟨v, rfl, hv', hopt.congr (fun c => ⟨?_, ?_⟩) (fun _ _ => rfl)⟩
          · rintro ⟨j, hj, z⟩; exact ⟨j, by omega, z⟩
          · rintro ⟨j, hj, z1, z2⟩
            by_cases hji : j = i
            · subst hji; rw [hcf] at z1; cases z1
            · exact ⟨j, by omega, z1, z2⟩
theorem legal_ex {h : Nat → Bool} {k : Nat} {t : Nat → Nat} (hx : ∃ c, c < 24 ∧ h c = true) : ∃ c, c < 24 ∧ legal h k t c = true := by
  by_cases ha : anyS h (t 0 / 6) = true
  · obtain ⟨c, h1, h2, h3⟩ := anyS_iff.mp ha
    exact ⟨c, h1, by unfold legal; rw [h2, h3]; simp⟩
  · obtain ⟨c, h1, h2⟩ := hx
    have : anyS h (t 0 / 6) = false := by cases hq : anyS h (t 0 / 6) with
      | false => rfl
      | true => exact absurd hq ha
    exact ⟨c, h1, by unfold legal; rw [h2, this]; simp⟩
/-- the choice: the best over all that may be played -/
theorem node_ok {lst : Nat → Nat} {x : Int32} {p k : Nat} {t val : Nat → Nat} (W : Nat → Int32 → Int32 → Mem → Option (Int32 × Mem)) (Nx : Int32 → Mem → Option (Int32 × Mem)) (Q : Mem → Prop) (hp : p < 4) (hk : k < 4)
    (step : ∀ n b i M, W (n + 1) b i M = (if 4 ≤ i then some (b, M) else (obind (fX6_can x (nI p) i (nI k) M) (fun q5 => (if q5 = 0 then W n b (i + 1) M else (if vin ((4 * nI p) + i) 16 = true then (obind (Nx (x &&& ((sl 1 ((4 * nI p) + i)) ^^^ (-1))) (mset M 8 k (M 6 (((4 * nI p) + i).toNatClampNeg)))) (fun q8 => W n (fX6_better (nI p) q8.1 b) (i + 1) q8.2)) else none))))))
    (h6 : ∀ M, Q M → ∀ i, i < 4 → bt x (4 * p + i) = true → M 6 (4 * p + i) = nI (lst (4 * p + i)) ∧ lst (4 * p + i) < 24) (h8 : ∀ M, Q M → 0 < k → M 8 0 = nI (t 0) ∧ t 0 < 24)
    (hNx : ∀ M i, Q M → i < 4 → bt x (4 * p + i) = true → ∃ M', Nx (x &&& (sl 1 (nI (4 * p + i)) ^^^ (-1))) (mset M 8 k (nI (lst (4 * p + i)))) = some (nI (val (lst (4 * p + i))), M') ∧ Q M') (hval : ∀ c, val c < 1000)
    (M : Mem) (hQ : Q M) (hne : ∃ i, i < 4 ∧ bt x (4 * p + i) = true) : ∃ M', W 40 (-1) 0 M = some (nI (opt (decide (p % 2 = 0)) (fun c => legal (HM lst x p) k t c) val), M') ∧ Q M' := by
  obtain ⟨v, M', e, hQ', hst⟩ := node_loop W Nx Q hp hk step h6 h8 hNx hval 40 4 0 (-1) M (by omega) (by omega) hQ (Or.inl ⟨fun j hj => by omega, rfl⟩)
  refine ⟨M', ?_, hQ'⟩
  have hcards : ∃ c, c < 24 ∧ HM lst x p c = true := by
    obtain ⟨i, hi, hb⟩ := hne
    exact ⟨_, (h6 M hQ i hi hb).2, HM_iff.mpr ⟨i, hi, hb, rfl⟩⟩
  obtain ⟨c, hc, hl⟩ := legal_ex (k := k) (t := t) hcards
  have hto : ∀ c, legal (HM lst x p) k t c = true → ∃ j, j < 4 ∧ (bt x (4 * p + j) && legal (HM lst x p) k t (lst (4 * p + j))) = true ∧ lst (4 * p + j) = c := by
    intro c hl
    obtain ⟨j, hj, h1, h2⟩ := HM_iff.mp (legal_has hl)
    exact ⟨j, hj, by rw [h1, h2, hl]; rfl, h2⟩
  rcases hst with ⟨h0, -⟩ | ⟨w, rfl, -, hopt⟩
  · obtain ⟨j, hj, h1, -⟩ := hto c hl
    rw [h0 j hj] at h1; cases h1
  · have hopt' : IsOpt (decide (p % 2 = 0)) (fun c => c < 24 ∧ legal (HM lst x p) k t c = true) val w := hopt.congr (fun c => ⟨fun ⟨j, hj, h1, h2⟩ => by
      simp only [Bool.and_eq_true] at h1
      rw [h2] at h1
      exact ⟨by rw [← h2]; exact (h6 M hQ j hj h1.1).2, h1.2⟩, fun z => hto c z.2⟩) (fun _ _ => rfl)
    have := hopt'.uniq (opt_spec (decide (p % 2 = 0)) (fun c => legal (HM lst x p) k t c) val ⟨c, hc, hl⟩)
    rw [show (0 : Int32) = nI 0 from rfl, e, this]
