/-! equal cards: which are out, the nearest equal one below, the lowest of each kind -/
def Out (h : Nat → Int32) (n : Nat) (pl : Nat → Nat) (c : Nat) : Prop := (∀ p, p < 4 → bt (h p) c = false) ∧ ∀ i, n - n % 4 ≤ i → i < n → pl i ≠ c
theorem laidAt_N {M : Mem} {n : Nat} {pl : Nat → Nat} (h2 : ∀ k, k < n → M 2 k = nI (pl k)) (hn : n ≤ 16) {k : Nat} (hk : k < n) : fX1_laidAt (nI k) M = nI (pl k) := by
  unfold fX1_laidAt
  rw [if_neg (nn_N (by omega)), if_neg (show ¬ (16 : Int32) ≤ nI k from nI_ge (b := 16) (by omega) (by omega)), cl_N (by omega)]
  exact h2 k hk
theorem inT_loop {M : Mem} {n : Nat} {pl : Nat → Nat} (h7 : M 0 7 = nI n) (h2 : ∀ k, k < n → M 2 k = nI (pl k)) (hn : n ≤ 16) (hp : ∀ k, k < n → pl k < 24) :
    ∀ F m k v, m < F → k + m = n → c24 v → ∃ x, fX1_inTrickSet_L12 F v (nI k) M = some x ∧ c24 x ∧ ∀ c, bt x c = true ↔ bt v c = true ∨ ∃ i, k ≤ i ∧ i < n ∧ pl i = c := by
  intro F
  induction F with
  | zero => intro m k v h; omega
  | succ F ih =>
    intro m k v hm hk hv
    rw [fX1_inTrickSet_L12.eq_2]
    simp only [h7, le_N (show n < 2 ^ 31 by omega) (show k < 2 ^ 31 by omega)]
    by_cases hkn : n ≤ k
    · rw [if_pos hkn]
      refine ⟨v, rfl, hv, fun c => ⟨Or.inl, ?_⟩⟩
      rintro (h | ⟨i, a, b, -⟩)
      · exact h
      · omega
    · rw [if_neg hkn, laidAt_N h2 hn (by omega)]
      have hpk := hp k (by omega)
      rw [show (nI k + 1 : Int32) = nI (k + 1) from nI_add k 1]
      obtain ⟨x, e, hx, hb⟩ := ih (m - 1) (k + 1) (v ||| sl 1 (nI (pl k))) (by omega) (by omega) (c24_or hv (c24_one hpk))
      refine ⟨x, e, hx, fun c => ?_⟩
      rw [hb c, bt_addc hpk, Bool.or_eq_true, decide_eq_true_eq]
      constructor
      · rintro ((a | rfl) | ⟨i, a, b, d⟩)
        · exact Or.inl a
        · exact Or.inr ⟨k, Nat.le_refl _, by omega, rfl⟩
        · exact Or.inr ⟨i, by omega, b, d⟩
      · rintro (a | ⟨i, a, b, d⟩)
        · exact Or.inl (Or.inl a)
        · rcases Nat.eq_or_lt_of_le a with rfl | q
          · exact Or.inl (Or.inr d.symm)
          · exact Or.inr ⟨i, q, b, d⟩
theorem inHands_bt (M : Mem) (c : Nat) : bt (fX1_inHands M) c = true ↔ ∃ p, p < 4 ∧ bt (M 1 p) c = true := by
  unfold fX1_inHands
  simp only [bt_or, bt_0, Bool.false_or, Bool.or_eq_true]
  constructor
  · rintro (((a | a) | a) | a)
    · exact ⟨0, by omega, a⟩
    · exact ⟨1, by omega, a⟩
    · exact ⟨2, by omega, a⟩
    · exact ⟨3, by omega, a⟩
  · rintro ⟨p, hp, a⟩
    obtain rfl | rfl | rfl | rfl : p = 0 ∨ p = 1 ∨ p = 2 ∨ p = 3 := by omega
    · exact Or.inl (Or.inl (Or.inl a))
    · exact Or.inl (Or.inl (Or.inr a))
    · exact Or.inl (Or.inr a)
    · exact Or.inr a
theorem inTrick_ok {M : Mem} {n : Nat} {pl : Nat → Nat} (h7 : M 0 7 = nI n) (h2 : ∀ k, k < n → M 2 k = nI (pl k)) (hn : n ≤ 16) (hp : ∀ k, k < n → pl k < 24) :
    ∃ x, fX1_inTrickSet M = some x ∧ c24 x ∧ ∀ c, bt x c = true ↔ ∃ i, n - n % 4 ≤ i ∧ i < n ∧ pl i = c := by
  obtain ⟨x, e, hx, hb⟩ := inT_loop h7 h2 hn hp 40 (n % 4) (n - n % 4) 0 (by omega) (by omega) c24_0
  refine ⟨x, ?_, hx, fun c => ?_⟩
  · unfold fX1_inTrickSet fX1_trickSize
    rw [h7, im_4 (by omega), pk_sub (by omega), e]; rfl
  · rw [hb c, bt_0]; simp
theorem bt_all {c : Nat} (hc : c < 24) : bt 16777215 c = true := by
  rw [show (16777215 : Int32) = nI (2 ^ 24 - 1) from rfl, bt_pow (by omega)]; exact decide_eq_true hc
theorem c24_all : c24 16777215 := fun c hc => by
  rw [show (16777215 : Int32) = nI (2 ^ 24 - 1) from rfl, bt_pow (by omega)]; exact decide_eq_false (by omega)
theorem out_ok {M : Mem} {n : Nat} {h : Nat → Int32} {pl : Nat → Nat} (h1 : ∀ p, p < 4 → M 1 p = h p) (h7 : M 0 7 = nI n) (h2 : ∀ k, k < n → M 2 k = nI (pl k)) (hn : n ≤ 16) (hp : ∀ k, k < n → pl k < 24) :
    ∃ x, fX1_out M = some x ∧ c24 x ∧ ∀ c, c < 24 → (bt x c = true ↔ Out h n pl c) := by
  obtain ⟨y, e, hy, hb⟩ := inTrick_ok h7 h2 hn hp
  refine ⟨_, by unfold fX1_out; rw [e]; rfl, c24_and c24_all, fun c hc => ?_⟩
  rw [bt_and, bt_all hc, bt_not _ (by omega), bt_or, Bool.true_and]
  have hI := inHands_bt M c
  have hT := hb c
  unfold Out
  constructor
  · intro hq
    simp only [Bool.not_eq_true', Bool.or_eq_false_iff] at hq
    refine ⟨fun p hp => ?_, fun i a b d => ?_⟩
    · cases hz : bt (h p) c with
      | false => rfl
      | true =>
        have := hI.mpr ⟨p, hp, by rw [h1 p hp]; exact hz⟩
        rw [hq.1] at this; cases this
    · have := hT.mpr ⟨i, a, b, d⟩
      rw [hq.2] at this; cases this
  · rintro ⟨a, b⟩
    simp only [Bool.not_eq_true', Bool.or_eq_false_iff]
    refine ⟨?_, ?_⟩
    · cases hz : bt (fX1_inHands M) c with
      | false => rfl
      | true =>
        obtain ⟨p, hp, w⟩ := hI.mp hz
        rw [h1 p hp, a p hp] at w; cases w
    · cases hz : bt y c with
      | false => rfl
      | true =>
        obtain ⟨i, w1, w2, w3⟩ := hT.mp hz
        exact absurd w3 (b i w1 w2)
/-- b is the nearest card of H below c that is equal to c -/
def EqB (H O : Nat → Bool) (c b : Nat) : Prop := b < c ∧ b / 6 = c / 6 ∧ H b = true ∧ ∀ d, b < d → d < c → O d = true ∧ H d = false
theorem EqB.uniq {H O : Nat → Bool} {c b b' : Nat} (h : EqB H O c b) (h' : EqB H O c b') : b = b' := by
  obtain ⟨a1, a2, a3, a4⟩ := h
  obtain ⟨b1, b2, b3, b4⟩ := h'
  rcases Nat.lt_trichotomy b b' with q | q | q
  · have := (a4 b' q b1).2; rw [b3] at this; cases this
  · exact q
  · have := (b4 b q a1).2; rw [a3] at this; cases this
theorem eqB_loop {x o : Int32} {c : Nat} (hc : c < 24) : ∀ F m, m < F → c / 6 * 6 + m ≤ c → (∀ d, c / 6 * 6 + m ≤ d → d < c → bt o d = true ∧ bt x d = false) →
    (∃ b, fX0_equalBelow_L13 F x o (nI (c / 6 * 6)) (nI (c / 6 * 6 + m) - 1) = some (nI b) ∧ EqB (bt x) (bt o) c b) ∨
    (fX0_equalBelow_L13 F x o (nI (c / 6 * 6)) (nI (c / 6 * 6 + m) - 1) = some (-1) ∧ ∀ b, ¬ EqB (bt x) (bt o) c b) := by
  intro F
  induction F with
  | zero => intro m h; omega
  | succ F ih =>
    intro m hm hmc hb
    cases m with
    | zero =>
      refine Or.inr ⟨?_, ?_⟩
      · rw [fX0_equalBelow_L13.eq_2, if_pos]
        rw [Int32.lt_iff_toInt_lt, nI_toInt (by omega), Nat.add_zero]
        by_cases h0 : c / 6 * 6 = 0
        · rw [h0]; decide
        · obtain ⟨k, hk⟩ : ∃ k, c / 6 * 6 = k + 1 := ⟨c / 6 * 6 - 1, by omega⟩
          rw [hk, nI_pred, nI_toInt (by omega)]; omega
      · rintro b ⟨a1, a2, a3, -⟩
        have := (hb b (by omega) a1).2
        rw [a3] at this; cases this
    | succ m =>
      rw [show nI (c / 6 * 6 + (m + 1)) - 1 = nI (c / 6 * 6 + m) from by rw [show c / 6 * 6 + (m + 1) = (c / 6 * 6 + m) + 1 by omega, nI_pred]]
      rw [fX0_equalBelow_L13.eq_2]
      simp only [lt_N (show c / 6 * 6 + m < 2 ^ 31 by omega) (show c / 6 * 6 < 2 ^ 31 by omega)]
      rw [if_neg (show ¬ c / 6 * 6 + m < c / 6 * 6 by omega)]
      rw [fX0_holds_eq x (show c / 6 * 6 + m < 24 by omega), fX0_holds_eq o (show c / 6 * 6 + m < 24 by omega)]
      cases hx : bt x (c / 6 * 6 + m) with
      | true =>
        rw [if_pos rfl, if_neg (by decide)]
        exact Or.inl ⟨_, rfl, by omega, by omega, hx, fun d a b => hb d (by omega) b⟩
      | false =>
        rw [if_neg (show ¬ (false = true) by decide), if_pos rfl]
        cases ho : bt o (c / 6 * 6 + m) with
        | false =>
          rw [if_neg (show ¬ (false = true) by decide), if_pos rfl]
          refine Or.inr ⟨rfl, ?_⟩
          rintro b ⟨a1, a2, a3, a4⟩
          rcases Nat.lt_trichotomy b (c / 6 * 6 + m) with q | q | q
          · have := (a4 _ q (by omega)).1; rw [ho] at this; cases this
          · rw [q, hx] at a3; cases a3
          · have := (hb b (by omega) a1).2; rw [a3] at this; cases this
        | true =>
          rw [if_pos rfl, if_neg (by decide)]
          have := ih m (by omega) (by omega) (fun d a b => by
            rcases Nat.eq_or_lt_of_le a with q | q
            · rw [← q]; exact ⟨ho, hx⟩
            · exact hb d (by omega) b)
          rw [show nI (c / 6 * 6 + m) + (-1) = nI (c / 6 * 6 + m) - 1 from (Int32.sub_eq_add_neg _ _).symm]
          exact this
theorem eqB_ok {x o : Int32} {c : Nat} (hc : c < 24) : (∃ b, fX0_equalBelow (nI c) x o = some (nI b) ∧ EqB (bt x) (bt o) c b) ∨ (fX0_equalBelow (nI c) x o = some (-1) ∧ ∀ b, ¬ EqB (bt x) (bt o) c b) := by
  have := eqB_loop (x := x) (o := o) hc 40 (c - c / 6 * 6) (by omega) (by omega) (fun d a b => by omega)
  unfold fX0_equalBelow
  rw [suitOf_N (by omega), show nI (c / 6) * 6 = nI (c / 6 * 6) from pk_mul (c / 6) 6]
  rw [show c / 6 * 6 + (c - c / 6 * 6) = c by omega] at this
  exact this
/-- the lowest of each kind -/
theorem lowE_loop {x o : Int32} (hx24 : c24 x) : ∀ F m s (acc left : Int32), m < F → cnt left = m → m + s ≤ 4 → c24 left → c24 acc →
    (∀ c, bt left c = true → bt x c = true) → (∀ c, c < 24 → (bt acc c = true ↔ bt x c = true ∧ bt left c = false ∧ ∀ b, ¬ EqB (bt x) (bt o) c b)) →
    ∃ r, fX0_lowestOfEquals_L7 F x o acc left (nI s) = some r ∧ c24 r ∧ ∀ c, c < 24 → (bt r c = true ↔ bt x c = true ∧ ∀ b, ¬ EqB (bt x) (bt o) c b) := by
  intro F
  induction F with
  | zero => intro m s acc left h; omega
  | succ F ih =>
    intro m s acc left hm hcnt hms hl ha hsub hacc
    rw [fX0_lowestOfEquals_L7.eq_2]
    by_cases h0 : left = 0
    · have fin : ∃ r, some acc = some r ∧ c24 r ∧ ∀ c, c < 24 → (bt r c = true ↔ bt x c = true ∧ ∀ b, ¬ EqB (bt x) (bt o) c b) := by
        refine ⟨acc, rfl, ha, fun c hc => ?_⟩
        rw [hacc c hc, h0]
        exact ⟨fun z => ⟨z.1, z.2.2⟩, fun z => ⟨z.1, bt_0 c, z.2⟩⟩
      by_cases ht : (4 : Int32) ≤ nI s
      · rw [if_pos ht]; exact fin
      · rw [if_neg ht, if_pos h0]; exact fin
    · have hm0 : 0 < m := by
        rcases Nat.eq_zero_or_pos m with q | q
        · exact absurd (cnt_0 hl (hcnt.trans q)) h0
        · exact q
      obtain ⟨c, hc, hbc, -, hlow⟩ := low_ex h0 hl
      rw [if_neg (show ¬ (4 : Int32) ≤ nI s from nI_ge (b := 4) (by omega) (by omega)), if_neg h0, hlow]
      have hx' : ∀ d, bt (left &&& (sl 1 (nI c) ^^^ (-1))) d = (bt left d && !decide (d = c)) := by
        intro d
        rcases Nat.lt_or_ge d 32 with q | q
        · exact bt_rem hc q
        · rw [bt_ge _ q, bt_ge _ q]; rfl
      have hcr := cnt_rem hc hbc
      have hs1 : nI s + 1 = nI (s + 1) := nI_add s 1
      rw [hs1]
      have hsub' : ∀ d, bt (left &&& (sl 1 (nI c) ^^^ (-1))) d = true → bt x d = true := fun d hd => hsub d (by rw [hx' d] at hd; simp only [Bool.and_eq_true] at hd; exact hd.1)
      rcases eqB_ok (x := x) (o := o) hc with ⟨b, e, hE⟩ | ⟨e, hE⟩
      · rw [e]
        simp only [obind]
        have hb24 : b < 24 := by have := hE.1; omega
        rw [if_neg (ne_m1 (by omega))]
        refine ih (m - 1) (s + 1) acc _ (by omega) (by omega) (by omega) (c24_rem hl) ha hsub' (fun d hd => ?_)
        rw [hacc d hd, hx' d]
        constructor
        · rintro ⟨z1, z2, z3⟩
          exact ⟨z1, by rw [z2]; rfl, z3⟩
        · rintro ⟨z1, z2, z3⟩
          refine ⟨z1, ?_, z3⟩
          by_cases hdc : d = c
          · subst hdc; exact absurd hE (z3 b)
          · simpa [hdc] using z2
      · rw [e]
        simp only [obind]
        rw [if_pos trivial]
        refine ih (m - 1) (s + 1) (acc ||| sl 1 (nI c)) _ (by omega) (by omega) (by omega) (c24_rem hl) (c24_or ha (c24_one hc)) hsub' (fun d hd => ?_)
        rw [bt_addc hc, Bool.or_eq_true, decide_eq_true_eq, hacc d hd, hx' d]
        constructor
        · rintro (⟨z1, z2, z3⟩ | rfl)
          · exact ⟨z1, by rw [z2]; rfl, z3⟩
          · exact ⟨hsub _ hbc, by simp, hE⟩
        · rintro ⟨z1, z2, z3⟩
          by_cases hdc : d = c
          · exact Or.inr hdc
          · exact Or.inl ⟨z1, by simpa [hdc] using z2, z3⟩
theorem lowE_ok {x : Int32} (o : Int32) (hx : c24 x) (h4 : cnt x ≤ 4) : ∃ r, fX0_lowestOfEquals x o = some r ∧ c24 r ∧ ∀ c, c < 24 → (bt r c = true ↔ bt x c = true ∧ ∀ b, ¬ EqB (bt x) (bt o) c b) := by
  obtain ⟨r, e, a, b⟩ := lowE_loop (o := o) hx 40 (cnt x) 0 0 x (by omega) rfl (by omega) hx c24_0 (fun c h => h) (fun c hc => by rw [bt_0]; constructor; (intro z; cases z); rintro ⟨z1, z2, -⟩; rw [z1] at z2; cases z2)
  refine ⟨r, ?_, a, b⟩
  unfold fX0_lowestOfEquals
  rw [show (0 : Int32) = nI 0 from rfl] at e ⊢
  rw [e]; rfl
