theorem Same.nrep {N N' : Mem} {τ n : Nat} {h : Nat → Int32} {pl ld : Nat → Nat} (r : NRep N τ n h pl ld) (s : Same N N') : NRep N' τ n h pl ld := by
  unfold NRep at r ⊢
  rw [s.2 0 (by decide), s.1 3 (by decide) (by decide) (by decide) (by decide), s.1 4 (by decide) (by decide) (by decide) (by decide), s.2 9 (by decide), s.2 10 (by decide)]
  exact r
/-- the reference's walk over the 24 cards -/
theorem rbest_loop {B : Mem} {τ T n : Nat} {h : Nat → Int32} {pl ld : Nat → Nat} (r : NRep B τ n h pl ld) (w : WF τ T n h pl ld) (h2 : B 0 2 = 1) (h6 : B 0 6 = 0) (hn : n < 4 * T) :
    ∀ (F m c : Nat) (v1 v2 : Int32) (M : Mem), m < F → c + m = 24 → Same B M →
      (((∀ d, d < c → legal (Hs h (mv n ld)) (n % 4) (ts n pl) d = false) ∧ v1 = -1 ∧ v2 = -1) ∨ ∃ a, v1 = nI a ∧ v2 = nI (ww τ T n h pl ld a) ∧ Best (fun d => d < c ∧ legal (Hs h (mv n ld)) (n % 4) (ts n pl) d = true) (ww τ T n h pl ld) a) →
      ∃ (a : Nat) (M' : Mem), fX6_bestCard_L23 F v1 v2 (nI c) M = some (nI a, M') ∧ Best (fun d => d < 24 ∧ legal (Hs h (mv n ld)) (n % 4) (ts n pl) d = true) (ww τ T n h pl ld) a ∧ Same B M' := by
  have hT := w.2.1
  have hww : ∀ e, ww τ T n h pl ld e ≤ 5 := fun e => by unfold ww; have := vl_le (τ := τ) (h := h) (pl := pl) (ld := ld) (c := e) hT hn; split <;> omega
  intro F
  induction F with
  | zero => intro m c v1 v2 M h; omega
  | succ F ih =>
    intro m c v1 v2 M hm hc hS hb
    rw [fX6_bestCard_L23.eq_2]
    by_cases h24 : 24 ≤ c
    · rw [if_pos (show (24 : Int32) ≤ nI c from nI_le (a := 24) h24 (by omega))]
      have hc24 : c = 24 := by omega
      subst hc24
      rcases hb with ⟨z, -⟩ | ⟨a, rfl, -, hB⟩
      · obtain ⟨d, hd, hl⟩ := WF_legal w hn
        rw [z d hd] at hl; cases hl
      · exact ⟨a, M, rfl, hB, hS⟩
    · have hr := Same.nrep r hS
      have hM2 : M 0 2 = 1 := by rw [hS.2 2 (by decide)]; exact h2
      rw [if_neg (show ¬ (24 : Int32) ≤ nI c from nI_ge (b := 24) (by omega) (by omega)), hS.2 6 (by decide), h6, if_pos rfl, show (nI c + 1 : Int32) = nI (c + 1) from nI_add c 1]
      have hfit := fits_ok hr w hM2 (show c < 24 by omega)
      by_cases hl : legal (Hs h (mv n ld)) (n % 4) (ts n pl) c = true
      · rw [if_pos ⟨hn, hl⟩] at hfit
        rw [hfit]
        simp only [obind]
        rw [if_neg (show ¬ (1 : Int32) = 0 by decide)]
        obtain ⟨M', e, s⟩ := rvalue_ok hr w hM2 hn (show c < 24 by omega) (legal_has hl)
        rw [e]
        dsimp only
        have hS' := hS.trans s
        rcases hb with ⟨z, rfl, rfl⟩ | ⟨a, rfl, rfl, hB1, hB2⟩
        · have hgt : ¬ nI (ww τ T n h pl ld c) ≤ -1 := by
            rw [Int32.le_iff_toInt_le, nI_toInt (by have := hww c; omega)]
            have : (-1 : Int32).toInt = -1 := by decide
            omega
          rw [if_neg hgt, if_neg hgt]
          refine ih (m - 1) (c + 1) _ _ M' (by omega) (by omega) hS' (Or.inr ⟨c, rfl, rfl, ⟨by omega, hl⟩, fun d hd => ?_⟩)
          by_cases hdc : d = c
          · subst hdc; exact ⟨Nat.le_refl _, fun _ => Nat.le_refl _⟩
          · have := z d (by have := hd.1; omega)
            rw [hd.2] at this; cases this
        · simp only [le_N (show ww τ T n h pl ld c < 2 ^ 31 by have := hww c; omega) (show ww τ T n h pl ld a < 2 ^ 31 by have := hww a; omega)]
          by_cases hle : ww τ T n h pl ld c ≤ ww τ T n h pl ld a
          · rw [if_pos hle, if_pos hle]
            refine ih (m - 1) (c + 1) _ _ M' (by omega) (by omega) hS' (Or.inr ⟨a, rfl, rfl, ⟨by have := hB1.1; omega, hB1.2⟩, fun d hd => ?_⟩)
            by_cases hdc : d = c
            · subst hdc; exact ⟨hle, fun _ => by have := hB1.1; omega⟩
            · exact hB2 d ⟨by have := hd.1; omega, hd.2⟩
          · rw [if_neg hle, if_neg hle]
            refine ih (m - 1) (c + 1) _ _ M' (by omega) (by omega) hS' (Or.inr ⟨c, rfl, rfl, ⟨by omega, hl⟩, fun d hd => ?_⟩)
            by_cases hdc : d = c
            · subst hdc; exact ⟨Nat.le_refl _, fun _ => Nat.le_refl _⟩
            · have := (hB2 d ⟨by have := hd.1; omega, hd.2⟩).1
              exact ⟨by omega, fun q => by omega⟩
      · rw [if_neg (fun z => hl z.2)] at hfit
        rw [hfit]
        simp only [obind]
        rw [if_pos trivial]
        have hlf : legal (Hs h (mv n ld)) (n % 4) (ts n pl) c = false := by
          cases hq : legal (Hs h (mv n ld)) (n % 4) (ts n pl) c with
          | false => rfl
          | true => exact absurd hq hl
        have hv2 : (-1 : Int32) ≤ v2 := by
          rcases hb with ⟨-, -, rfl⟩ | ⟨a, -, rfl, -⟩
          · decide
          · rw [Int32.le_iff_toInt_le, nI_toInt (by have := hww a; omega)]
            have : (-1 : Int32).toInt = -1 := by decide
            omega
        rw [if_pos hv2, if_pos hv2]
        refine ih (m - 1) (c + 1) v1 v2 M (by omega) (by omega) hS ?_
        rcases hb with ⟨z, e1, e2⟩ | ⟨a, e1, e2, hB1, hB2⟩
        · refine Or.inl ⟨fun d hd => ?_, e1, e2⟩
          by_cases hdc : d = c
          · subst hdc; exact hlf
          · exact z d (by omega)
        · refine Or.inr ⟨a, e1, e2, ⟨by have := hB1.1; omega, hB1.2⟩, fun d hd => ?_⟩
          by_cases hdc : d = c
          · subst hdc; rw [hlf] at hd; cases hd.2
          · exact hB2 d ⟨by have := hd.1; omega, hd.2⟩
