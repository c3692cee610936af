/-! the best card -/
def ww (τ T n : Nat) (h : Nat → Int32) (pl ld : Nat → Nat) (c : Nat) : Nat := if mv n ld % 2 = 0 then vl τ T n h pl ld c else T - n / 4 - vl τ T n h pl ld c
def Best (D : Nat → Prop) (f : Nat → Nat) (c : Nat) : Prop := D c ∧ ∀ d, D d → f d ≤ f c ∧ (f d = f c → c ≤ d)
theorem Best.uniq {D : Nat → Prop} {f : Nat → Nat} {c c' : Nat} (a : Best D f c) (b : Best D f c') : c = c' := by
  have h1 := a.2 c' b.1
  have h2 := b.2 c a.1
  have h3 : f c = f c' := by omega
  have h4 := h1.2 h3.symm
  have h5 := h2.2 h3
  omega
theorem best_loop {τ T n : Nat} {d h : Nat → Int32} {pl ld : Nat → Nat} (w : WF τ T n h pl ld) (hD : Dl d h) (hn : n < 4 * T) (E4 : Int32) (R : Int32) (hRh : ∀ c, c < 24 → bt R c = true → bt (h (mv n ld)) c = true) :
    ∀ (G m tr : Nat) (x v2 v3 : Int32) (M : Mem), m < G → cnt x = m → m + tr ≤ 4 → c24 x → (∀ c, c < 24 → bt x c = true → bt R c = true) → (∀ c e, bt R c = true → bt x c = false → bt x e = true → c < e) →
      (((∀ c, c < 24 → bt R c = true → bt x c = true) ∧ v2 = -1 ∧ v3 = -1) ∨ ∃ c, v2 = nI c ∧ v3 = nI (ww τ T n h pl ld c) ∧ Best (fun e => e < 24 ∧ bt R e = true ∧ bt x e = false) (ww τ T n h pl ld) c) →
      Rep M τ T n h pl ld → KOK τ T d (M 5) → M 0 4 = E4 →
      ∃ (v : Int32) (M' : Mem), fX4_bestPlay_L25 (sS 20) G x v2 v3 (nI tr) M = some (v, M') ∧ ((∀ c, c < 24 → bt R c = false) ∨ ∃ c, v = nI c ∧ Best (fun e => e < 24 ∧ bt R e = true) (ww τ T n h pl ld) c) ∧ Rep M' τ T n h pl ld ∧ KOK τ T d (M' 5) ∧ M' 0 4 = E4 := by
  have hT := w.2.1
  intro G
  induction G with
  | zero => intro m tr x v2 v3 M h1; omega
  | succ G ih =>
    intro m tr x v2 v3 M hmG hcnt hmt h24 hsub hord hB r hK h4
    rw [fX4_bestPlay_L25.eq_2]
    by_cases hx0 : x = 0
    · have fin : ((∀ c, c < 24 → bt R c = false) ∨ ∃ c, v2 = nI c ∧ Best (fun e => e < 24 ∧ bt R e = true) (ww τ T n h pl ld) c) := by
        rcases hB with ⟨z, -⟩ | ⟨c, z1, z2, ⟨z3, z4⟩⟩
        · refine Or.inl (fun c hc => ?_)
          cases hq : bt R c with
          | false => rfl
          | true => have := z c hc hq; rw [hx0, bt_0] at this; cases this
        · exact Or.inr ⟨c, z1, ⟨z3.1, z3.2.1⟩, fun e he => z4 e ⟨he.1, he.2, by rw [hx0]; exact bt_0 e⟩⟩
      by_cases ht : (4 : Int32) ≤ nI tr
      · rw [if_pos ht]; exact ⟨v2, M, rfl, fin, r, hK, h4⟩
      · rw [if_neg ht, if_pos hx0]; exact ⟨v2, M, rfl, fin, r, hK, h4⟩
    · have hm0 : 0 < m := by
        rcases Nat.eq_zero_or_pos m with z | z
        · exact absurd (cnt_0 h24 (hcnt.trans z)) hx0
        · exact z
      obtain ⟨c, hc, hbc, hfirst, hlow⟩ := low_ex hx0 h24
      rw [if_neg (show ¬ (4 : Int32) ≤ nI tr from nI_ge (b := 4) (by omega) (by omega)), if_neg hx0, hlow]
      have hRc := hsub c hc hbc
      obtain ⟨M1, s1, r1, hK1, s4, hle⟩ := worth_ok r w hD hK hn hc (hRh c hc hRc)
      rw [s1]
      simp only [obind]
      have hwe : (if mv n ld % 2 = 0 then vl τ T n h pl ld c else T - n / 4 - vl τ T n h pl ld c) = ww τ T n h pl ld c := rfl
      rw [hwe]
      have hw5 : ∀ e, vl τ T n h pl ld e ≤ 5 := fun e => vl_le hT hn
      have hww : ∀ e, ww τ T n h pl ld e ≤ 5 := fun e => by unfold ww; have := hw5 e; split <;> omega
      have hx' : ∀ e, bt (x &&& (sl 1 (nI c) ^^^ (-1))) e = (bt x e && !decide (e = c)) := by
        intro e
        rcases Nat.lt_or_ge e 32 with q | q
        · exact bt_rem hc q
        · rw [bt_ge _ q, bt_ge _ q]; rfl
      have hcr := cnt_rem hc hbc
      have hsub' : ∀ e, e < 24 → bt (x &&& (sl 1 (nI c) ^^^ (-1))) e = true → bt R e = true := fun e he hbe => hsub e he (by rw [hx' e] at hbe; simp only [Bool.and_eq_true] at hbe; exact hbe.1)
      have hD' : ∀ e, (e < 24 ∧ bt R e = true ∧ bt (x &&& (sl 1 (nI c) ^^^ (-1))) e = false) ↔ (e < 24 ∧ bt R e = true ∧ bt x e = false) ∨ e = c := fun e => by
        rw [hx' e]
        constructor
        · rintro ⟨z1, z2, z3⟩
          by_cases hdc : e = c
          · exact Or.inr hdc
          · exact Or.inl ⟨z1, z2, by simpa [hdc] using z3⟩
        · rintro (⟨z1, z2, z3⟩ | rfl)
          · exact ⟨z1, z2, by rw [z3]; rfl⟩
          · exact ⟨hc, hRc, by simp⟩
      have hord' : ∀ a e, bt R a = true → bt (x &&& (sl 1 (nI c) ^^^ (-1))) a = false → bt (x &&& (sl 1 (nI c) ^^^ (-1))) e = true → a < e := by
        intro a e z1 z2 z3
        rw [hx' e] at z3
        simp only [Bool.and_eq_true, Bool.not_eq_true', decide_eq_false_iff_not] at z3
        rw [hx' a] at z2
        by_cases hac : a = c
        · subst hac
          rcases Nat.lt_trichotomy a e with q | q | q
          · exact q
          · exact absurd q.symm z3.2
          · have := hfirst e q; rw [z3.1] at this; cases this
        · exact hord a e z1 (by simpa [hac] using z2) z3.1
      have htr : nI tr + 1 = nI (tr + 1) := nI_add tr 1
      rw [htr]
      have hlt : ∀ e, (e < 24 ∧ bt R e = true ∧ bt x e = false) → e < c := fun e z => hord e c z.2.1 z.2.2 hbc
      have newbest : (∀ e, (e < 24 ∧ bt R e = true ∧ bt x e = false) → ww τ T n h pl ld e < ww τ T n h pl ld c) → Best (fun e => e < 24 ∧ bt R e = true ∧ bt (x &&& (sl 1 (nI c) ^^^ (-1))) e = false) (ww τ T n h pl ld) c := by
        intro hall
        refine ⟨(hD' c).mpr (Or.inr rfl), fun e he => ?_⟩
        rcases (hD' e).mp he with y | rfl
        · have := hall e y; exact ⟨by omega, fun q => by omega⟩
        · exact ⟨Nat.le_refl _, fun _ => Nat.le_refl _⟩
      rcases hB with ⟨z, rfl, rfl⟩ | ⟨c0, rfl, rfl, ⟨z3, z4⟩⟩
      · rw [if_neg (by
          rw [Int32.le_iff_toInt_le, nI_toInt (by have := hww c; omega)]
          have : (-1 : Int32).toInt = -1 := by decide
          omega)]
        refine ih (m - 1) (tr + 1) _ _ _ M1 (by omega) (by omega) (by omega) (c24_rem h24) hsub' hord' (Or.inr ⟨c, rfl, rfl, newbest (fun e y => ?_)⟩) r1 hK1 (by rw [s4, h4])
        have := z e y.1 y.2.1
        rw [y.2.2] at this; cases this
      · simp only [le_N (show ww τ T n h pl ld c < 2 ^ 31 by have := hww c; omega) (show ww τ T n h pl ld c0 < 2 ^ 31 by have := hww c0; omega)]
        by_cases hle' : ww τ T n h pl ld c ≤ ww τ T n h pl ld c0
        · rw [if_pos hle']
          refine ih (m - 1) (tr + 1) _ _ _ M1 (by omega) (by omega) (by omega) (c24_rem h24) hsub' hord' (Or.inr ⟨c0, rfl, rfl, (hD' c0).mpr (Or.inl z3), fun e he => ?_⟩) r1 hK1 (by rw [s4, h4])
          rcases (hD' e).mp he with y | rfl
          · exact z4 e y
          · have := hlt c0 z3; exact ⟨hle', fun _ => by omega⟩
        · rw [if_neg hle']
          refine ih (m - 1) (tr + 1) _ _ _ M1 (by omega) (by omega) (by omega) (c24_rem h24) hsub' hord' (Or.inr ⟨c, rfl, rfl, newbest (fun e y => ?_)⟩) r1 hK1 (by rw [s4, h4])
          have := (z4 e y).1; omega
theorem best_ok {M : Mem} {τ T n : Nat} {d h : Nat → Int32} {pl ld : Nat → Nat} (r : Rep M τ T n h pl ld) (w : WF τ T n h pl ld) (hD : Dl d h) (hK : KOK τ T d (M 5)) (hn : n < 4 * T) :
    ∃ (c : Nat) (M' : Mem), fX4_bestPlay (sS 20) M = some (nI c, M') ∧ Best (fun c => c < 24 ∧ legal (Hs h (mv n ld)) (n % 4) (ts n pl) c = true) (ww τ T n h pl ld) c ∧ Rep M' τ T n h pl ld ∧ KOK τ T d (M' 5) ∧ M' 0 4 = M 0 4 := by
  have hT := w.2.1
  obtain ⟨-, -, -, q7, q1, q2, -⟩ := id r
  obtain ⟨o, ho, ho24, hob⟩ := out_ok q1 q7 q2 (by omega) w.2.2.2.2.1
  obtain ⟨hp24, hpl⟩ := R_playable r w hn
  have hPh : ∀ c, bt (fX1_playable M) c = true → bt (h (mv n ld)) c = true := by
    intro c hb
    rcases Nat.lt_or_ge c 24 with q | q
    · rw [hpl c q] at hb; exact legal_has hb
    · rw [hp24 c q] at hb; cases hb
  have hcnt : cnt (fX1_playable M) ≤ 4 := by
    have h1 : cnt (fX1_playable M) ≤ cnt (h (mv n ld)) := cnt_le (fun c _ hb => hPh c hb)
    have h2 := WF_mover w hn
    omega
  obtain ⟨R, hR, hR24, hRb⟩ := lowE_ok o hp24 hcnt
  have hRP : ∀ c, c < 24 → bt R c = true → bt (fX1_playable M) c = true := fun c hc hb => ((hRb c hc).mp hb).1
  have hcR : cnt R ≤ 4 := Nat.le_trans (cnt_le hRP) hcnt
  obtain ⟨v, M', g1, g2, g3⟩ := best_loop w hD hn (M 0 4) R (fun c hc hb => hPh c (hRP c hc hb)) 40 (cnt R) 0 R (-1) (-1) M (by omega) rfl (by omega) hR24 (fun c _ hb => hb) (fun c e z1 z2 => by rw [z1] at z2; cases z2) (Or.inl ⟨fun c _ hb => hb, rfl, rfl⟩) r hK rfl
  rcases g2 with z | ⟨c, rfl, ⟨⟨b1, b2⟩, b3⟩⟩
  · obtain ⟨c, hc, hl⟩ := WF_legal w hn
    obtain ⟨c', w1, w2, -⟩ := vl_rep w hp24 hPh hob hRb c (by rw [hpl c hc]; exact hl)
    have := z c' (by omega)
    rw [w2] at this; cases this
  · refine ⟨c, M', ?_, ⟨⟨b1, by rw [← hpl c b1]; exact hRP c b1 b2⟩, fun e he => ?_⟩, g3⟩
    · unfold fX4_bestPlay
      rw [ho]
      simp only [obind]
      rw [hR]
      dsimp only
      rw [show (0 : Int32) = nI 0 from rfl, g1]
    · obtain ⟨c', w1, w2, w3⟩ := vl_rep w hp24 hPh hob hRb e (by rw [hpl e he.1]; exact he.2)
      have hwe : ww τ T n h pl ld c' = ww τ T n h pl ld e := by unfold ww; rw [w3]
      have := b3 c' ⟨by have := he.1; omega, w2⟩
      exact ⟨by omega, fun q => by have := this.2 (by omega); omega⟩
