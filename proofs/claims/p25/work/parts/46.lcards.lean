/-! the law's look at the cards: by pairs of cards -/
def LK (N : Mem) (n : Nat) (h : Nat → Int32) (pl : Nat → Nat) : Prop :=
  n ≤ 16 ∧ (∀ k, k < n → pl k < 24) ∧ (∀ p q, p < 4 → q < 4 → p ≠ q → ∀ c, bt (h p) c = true → bt (h q) c = false) ∧ (∀ p, p < 4 → N 0 p = h p) ∧ N 2 0 = nI n ∧ (∀ k, k < n → N 1 k = nI (pl k))
theorem lholder {N : Mem} {h : Nat → Int32} (hh : ∀ p, p < 4 → N 0 p = h p) {c : Nat} (hc : c < 32) : (∃ p, p < 4 ∧ bt (h p) c = true ∧ fL_holder (nI c) N = nI p) ∨ ((∀ p, p < 4 → bt (h p) c = false) ∧ fL_holder (nI c) N = -1) := by
  unfold fL_holder
  rw [hh 0 (by omega), hh 1 (by omega), hh 2 (by omega), hh 3 (by omega), lhas hc, lhas hc, lhas hc, lhas hc]
  simp only [b01_0]
  cases h0 : bt (h 0) c with
  | true => exact Or.inl ⟨0, by omega, h0, by simp; rfl⟩
  | false =>
    cases h1 : bt (h 1) c with
    | true => exact Or.inl ⟨1, by omega, h1, by simp; rfl⟩
    | false =>
      cases h2 : bt (h 2) c with
      | true => exact Or.inl ⟨2, by omega, h2, by simp; rfl⟩
      | false =>
        cases h3 : bt (h 3) c with
        | true => exact Or.inl ⟨3, by omega, h3, by simp; rfl⟩
        | false =>
          refine Or.inr ⟨fun p hp => ?_, by simp⟩
          obtain rfl | rfl | rfl | rfl : p = 0 ∨ p = 1 ∨ p = 2 ∨ p = 3 := by omega
          · exact h0
          · exact h1
          · exact h2
          · exact h3
theorem LK.the {N : Mem} {n : Nat} {h : Nat → Int32} {pl : Nat → Nat} (k : LK N n h pl) {p c : Nat} (hp : p < 4) (hc : c < 24) (hb : bt (h p) c = true) : fL_holder (nI c) N = nI p := by
  rcases lholder k.2.2.2.1 (show c < 32 by omega) with ⟨q, q1, q2, q3⟩ | ⟨q, -⟩
  · by_cases hqp : q = p
    · rw [q3, hqp]
    · have := k.2.2.1 q p q1 hp hqp c q2
      rw [hb] at this; cases this
  · rw [q p hp] at hb; cases hb
theorem LK.not {N : Mem} {n : Nat} {h : Nat → Int32} {pl : Nat → Nat} (k : LK N n h pl) {p c : Nat} (hp : p < 4) (hc : c < 24) (hb : bt (h p) c = false) : ¬ fL_holder (nI c) N = nI p := by
  rcases lholder k.2.2.2.1 (show c < 32 by omega) with ⟨q, q1, q2, q3⟩ | ⟨q, q3⟩
  · rw [q3, eq_N (by omega) (by omega)]
    rintro rfl
    rw [hb] at q2; cases q2
  · rw [q3]
    intro z
    exact ne_m1 (show p < 2 ^ 31 by omega) z.symm
noncomputable def OT (n : Nat) (pl : Nat → Nat) (c : Nat) : Bool := bq (∃ i, n - n % 4 ≤ i ∧ i < n ∧ pl i = c)
theorem ltable_loop {N : Mem} {n : Nat} {h : Nat → Int32} {pl : Nat → Nat} (k : LK N n h pl) {c : Nat} (hc : c < 24) : ∀ F m j (b : Bool), m < F → j + m = n → n - n % 4 ≤ j → (b = true ↔ ∃ i, n - n % 4 ≤ i ∧ i < j ∧ pl i = c) →
    fL_isOnTable_L13 F (nI c) (b01 b) (nI j) N = some (b01 (OT n pl c)) := by
  obtain ⟨k1, k2, k3, k4, k5, k6⟩ := k
  intro F
  induction F with
  | zero => intro m j b h; omega
  | succ F ih =>
    intro m j b hm hj hge hb
    rw [fL_isOnTable_L13.eq_2, k5]
    simp only [le_N (show n < 2 ^ 31 by omega) (show j < 2 ^ 31 by omega)]
    by_cases hnj : n ≤ j
    · rw [if_pos hnj]
      have hjn : j = n := by omega
      subst hjn
      congr 2
      cases hz : OT j pl c with
      | true => exact hb.mpr (bq_t.mp hz)
      | false =>
        cases b with
        | false => rfl
        | true => exact absurd (hb.mp rfl) (bq_f.mp hz)
    · rw [if_neg hnj, if_pos (vin_N (show j < 16 by omega) (by omega)), cl_N (by omega), k6 j (by omega), nI_1]
      have hpj := k2 j (by omega)
      simp only [eq_N (show pl j < 2 ^ 31 by omega) (show c < 2 ^ 31 by omega)]
      have step : ∀ b' : Bool, (b' = true ↔ b = true ∨ pl j = c) → (b' = true ↔ ∃ i, n - n % 4 ≤ i ∧ i < j + 1 ∧ pl i = c) := fun b' hb' => by
        rw [hb', hb]
        constructor
        · rintro (⟨i, i1, i2, i3⟩ | z)
          · exact ⟨i, i1, by omega, i3⟩
          · exact ⟨j, hge, by omega, z⟩
        · rintro ⟨i, i1, i2, i3⟩
          rcases Nat.lt_or_ge i j with q | q
          · exact Or.inl ⟨i, i1, q, i3⟩
          · exact Or.inr (by rw [show j = i by omega]; exact i3)
      cases b with
      | true =>
        rw [if_neg (show ¬ b01 true = 0 by decide)]
        exact ih (m - 1) (j + 1) true (by omega) (by omega) (by omega) (step true (by simp))
      | false =>
        rw [if_pos (show b01 false = 0 from rfl)]
        by_cases he : pl j = c
        · rw [if_pos he]
          exact ih (m - 1) (j + 1) true (by omega) (by omega) (by omega) (step true (by simp [he]))
        · rw [if_neg he]
          exact ih (m - 1) (j + 1) false (by omega) (by omega) (by omega) (step false (by simp [he]))
theorem LK.table {N : Mem} {n : Nat} {h : Nat → Int32} {pl : Nat → Nat} (k : LK N n h pl) {c : Nat} (hc : c < 24) : fL_isOnTable (nI c) N = some (b01 (OT n pl c)) := by
  have k1 := k.1
  have e := ltable_loop k hc 40 (n % 4) (n - n % 4) false (by omega) (by omega) (Nat.le_refl _) ⟨fun z => (by cases z), fun ⟨i, i1, i2, _⟩ => by omega⟩
  unfold fL_isOnTable
  rw [k.2.2.2.2.1, im_4 (by omega), pk_sub (by omega), show fL_isOnTable_L13 40 (nI c) 0 (nI (n - n % 4)) N = some (b01 (OT n pl c)) from e, ob_s, if_pos (vb_b01 _)]
/-- no other's card, none of the trick -/
theorem LK.free {N : Mem} {n : Nat} {h : Nat → Int32} {pl : Nat → Nat} (k : LK N n h pl) {p d : Nat} (hp : p < 4) (hd : d < 24) : OB n h pl p d = false ↔ OT n pl d = false ∧ (fL_holder (nI d) N < 0 ∨ fL_holder (nI d) N = nI p) := by
  unfold OB OT Ots
  rw [bq_f, bq_f]
  rcases lholder k.2.2.2.1 (show d < 32 by omega) with ⟨q, q1, q2, q3⟩ | ⟨q, q3⟩
  · rw [q3]
    constructor
    · intro z
      refine ⟨fun y => z (Or.inr y), Or.inr ?_⟩
      by_cases hqp : q = p
      · rw [hqp]
      · exact absurd (Or.inl ⟨q, q1, hqp, q2⟩) z
    · rintro ⟨z1, z2⟩ (⟨r, r1, r2, r3⟩ | y)
      · rcases z2 with z2 | z2
        · exact absurd z2 (nn_N (by omega))
        · rw [eq_N (by omega) (by omega)] at z2
          subst z2
          have := k.2.2.1 r q r1 q1 r2 d r3
          rw [q2] at this; cases this
      · exact z1 y
  · rw [q3]
    constructor
    · intro z
      exact ⟨fun y => z (Or.inr y), Or.inl (by decide)⟩
    · rintro ⟨z1, -⟩ (⟨r, r1, r2, r3⟩ | y)
      · rw [q r r1] at r3; cases r3
      · exact z1 y
theorem leq_loop {N : Mem} {n : Nat} {h : Nat → Int32} {pl : Nat → Nat} (k : LK N n h pl) {p lo hi : Nat} {b0 : Bool} (hp : p < 4) (hlo : lo < 24) (hhi : hi < 24) (hL : fL_holder (nI lo) N = nI p) : ∀ F m j (b : Bool), m < F → j + m = hi → lo < j → (b = true ↔ b0 = true ∧ ∀ d, lo < d → d < j → OB n h pl p d = false) →
    fL_areEqual_L38 F (nI lo) (nI hi) (b01 b) (nI j) N = some (b01 (bq (b0 = true ∧ ∀ d, lo < d → d < hi → OB n h pl p d = false))) := by
  intro F
  induction F with
  | zero => intro m j b h; omega
  | succ F ih =>
    intro m j b hm hj hge hb
    rw [fL_areEqual_L38.eq_2]
    simp only [le_N (show hi < 2 ^ 31 by omega) (show j < 2 ^ 31 by omega)]
    by_cases hnj : hi ≤ j
    · rw [if_pos hnj]
      have hjn : j = hi := by omega
      subst hjn
      congr 2
      cases hz : bq (b0 = true ∧ ∀ d, lo < d → d < j → OB n h pl p d = false) with
      | true => exact hb.mpr (bq_t.mp hz)
      | false =>
        cases b with
        | false => rfl
        | true => exact absurd (hb.mp rfl) (bq_f.mp hz)
    · rw [if_neg hnj, k.table (by omega), ob_s, hL, nI_1]
      simp only [b01_0]
      have hfree := k.free hp (show j < 24 by omega)
      have step : ∀ b' : Bool, (b' = true ↔ b = true ∧ OB n h pl p j = false) → (b' = true ↔ b0 = true ∧ ∀ d, lo < d → d < j + 1 → OB n h pl p d = false) := fun b' hb' => by
        rw [hb', hb]
        constructor
        · rintro ⟨⟨z1, z2⟩, z3⟩
          refine ⟨z1, fun d d1 d2 => ?_⟩
          rcases Nat.lt_or_ge d j with q | q
          · exact z2 d d1 q
          · rw [show d = j by omega]; exact z3
        · rintro ⟨z1, z2⟩
          exact ⟨⟨z1, fun d d1 d2 => z2 d d1 (by omega)⟩, z2 j hge (by omega)⟩
      cases b with
      | false =>
        rw [if_pos rfl]
        exact ih (m - 1) (j + 1) false (by omega) (by omega) (by omega) (step false (by simp))
      | true =>
        rw [if_neg (by decide)]
        cases ht : OT n pl j with
        | true =>
          rw [if_neg (by decide)]
          exact ih (m - 1) (j + 1) false (by omega) (by omega) (by omega) (step false (by rw [hfree, ht]; simp))
        | false =>
          rw [if_pos rfl]
          by_cases h0 : fL_holder (nI j) N < 0
          · rw [if_pos h0]
            exact ih (m - 1) (j + 1) true (by omega) (by omega) (by omega) (step true (by rw [hfree, ht]; simp [h0]))
          · rw [if_neg h0]
            by_cases h1 : fL_holder (nI j) N = nI p
            · rw [if_pos h1]
              exact ih (m - 1) (j + 1) true (by omega) (by omega) (by omega) (step true (by rw [hfree, ht]; simp [h1]))
            · rw [if_neg h1]
              exact ih (m - 1) (j + 1) false (by omega) (by omega) (by omega) (step false (by rw [hfree, ht]; simp [h0, h1]))
theorem LK.equal {N : Mem} {n : Nat} {h : Nat → Int32} {pl : Nat → Nat} (k : LK N n h pl) {p lo hi : Nat} (hp : p < 4) (hlt : lo < hi) (hhi : hi < 24) (hL : fL_holder (nI lo) N = nI p) (hH : fL_holder (nI hi) N = nI p) :
    fL_areEqual (nI lo) (nI hi) N = some (b01 (bq (lo / 6 = hi / 6 ∧ ∀ d, lo < d → d < hi → OB n h pl p d = false))) := by
  have e := fun b0 => leq_loop k (b0 := b0) hp (show lo < 24 by omega) hhi hL 40 (hi - (lo + 1)) (lo + 1) b0 (by omega) (by omega) (by omega) ⟨fun z => ⟨z, fun d d1 d2 => by omega⟩, fun z => z.1⟩
  unfold fL_areEqual
  rw [dv_6 (by omega), dv_6 (by omega), hL, hH, nI_1]
  simp only [eq_N (show lo / 6 < 2 ^ 31 by omega) (show hi / 6 < 2 ^ 31 by omega)]
  by_cases h6 : lo / 6 = hi / 6
  · rw [if_pos h6, if_pos trivial, show fL_areEqual_L38 40 (nI lo) (nI hi) 1 (nI (lo + 1)) N = _ from e true, ob_s, if_pos (vb_b01 _)]
    congr 3
    simp [h6]
  · rw [if_neg h6, show fL_areEqual_L38 40 (nI lo) (nI hi) 0 (nI (lo + 1)) N = _ from e false, ob_s, if_pos (vb_b01 _)]
    congr 3
    simp [h6]
theorem llow_loop {N : Mem} {n : Nat} {h : Nat → Int32} {pl : Nat → Nat} (k : LK N n h pl) {p c : Nat} (hp : p < 4) (hc : c < 24) (hb : bt (h p) c = true) (hx : ∀ d, bt (h p) d = true → OB n h pl p d = false) : ∀ F m L, m < F → m ≤ c → m ≤ L → L ≤ c → L / 6 = c / 6 → bt (h p) L = true → (∀ d, L ≤ d → d ≤ c → OB n h pl p d = false) → (∀ b, m ≤ b → b < L → b / 6 = c / 6 → bt (h p) b = true → ∃ d, b ≤ d ∧ d ≤ L ∧ OB n h pl p d = true) →
    ∃ L', fL_lowest_L8 F (nI c) (nI L) (nI m - 1) N = some (nI L') ∧ LowC (bt (h p)) (OB n h pl p) c L' := by
  intro F
  induction F with
  | zero => intro m L h; omega
  | succ F ih =>
    intro m L hm hmc hmL hL h6 hbL hfr hlow
    rw [fL_lowest_L8.eq_2]
    cases m with
    | zero =>
      rw [if_pos (by decide)]
      exact ⟨L, rfl, hL, h6, hbL, hfr, fun b b1 b2 b3 => hlow b (by omega) b1 b2 b3⟩
    | succ m =>
      rw [nI_pred, if_neg (nn_N (by omega)), k.the hp hc hb, show nI m + (-1) = nI m - 1 from (Int32.sub_eq_add_neg _ _).symm]
      cases hbm : bt (h p) m with
      | false =>
        rw [if_neg (k.not hp (by omega) hbm)]
        refine ih m L (by omega) (by omega) (by omega) hL h6 hbL hfr (fun b b1 b2 b3 b4 => ?_)
        rcases Nat.eq_or_lt_of_le b1 with q | q
        · rw [← q, hbm] at b4; cases b4
        · exact hlow b q b2 b3 b4
      | true =>
        rw [if_pos (k.the hp (by omega) hbm), k.equal hp (by omega) hc (k.the hp (by omega) hbm) (k.the hp hc hb), ob_s]
        simp only [b01_0]
        by_cases he : m / 6 = c / 6 ∧ ∀ d, m < d → d < c → OB n h pl p d = false
        · have hbq : bq (m / 6 = c / 6 ∧ ∀ d, m < d → d < c → OB n h pl p d = false) = true := bq_t.mpr he
          rw [hbq, if_neg (by decide)]
          refine ih m m (by omega) (by omega) (Nat.le_refl _) (by omega) he.1 hbm (fun d d1 d2 => ?_) (fun b b1 b2 => by omega)
          rcases Nat.eq_or_lt_of_le d1 with q | q
          · rw [← q]; exact hx m hbm
          · rcases Nat.eq_or_lt_of_le d2 with r | r
            · rw [r]; exact hx c hb
            · exact he.2 d q r
        · have hbq : bq (m / 6 = c / 6 ∧ ∀ d, m < d → d < c → OB n h pl p d = false) = false := bq_f.mpr he
          rw [hbq, if_pos rfl]
          refine ih m L (by omega) (by omega) (by omega) hL h6 hbL hfr (fun b b1 b2 b3 b4 => ?_)
          rcases Nat.eq_or_lt_of_le b1 with q | q
          · subst q
            apply Classical.byContradiction
            intro hno
            refine he ⟨b3, fun d d1 d2 => ?_⟩
            cases hz : OB n h pl p d with
            | false => rfl
            | true =>
              rcases Nat.lt_or_ge d L with r | r
              · exact absurd ⟨d, by omega, by omega, hz⟩ hno
              · rw [hfr d r (by omega)] at hz; cases hz
          · exact hlow b q b2 b3 b4
theorem LK.lowest {N : Mem} {n : Nat} {h : Nat → Int32} {pl : Nat → Nat} (k : LK N n h pl) {p c : Nat} (hp : p < 4) (hc : c < 24) (hb : bt (h p) c = true) (hx : ∀ d, bt (h p) d = true → OB n h pl p d = false) : ∃ L, fL_lowest (nI c) N = some (nI L) ∧ LowC (bt (h p)) (OB n h pl p) c L := by
  obtain ⟨L, e, l⟩ := llow_loop k hp hc hb hx 40 c c (by omega) (Nat.le_refl _) (Nat.le_refl _) (Nat.le_refl _) rfl hb (fun d d1 d2 => by rw [show d = c by omega]; exact hx c hb) (fun b b1 b2 => by omega)
  refine ⟨L, ?_, l⟩
  unfold fL_lowest
  rw [e, ob_s]
theorem ltop_loop {N : Mem} {n : Nat} {h : Nat → Int32} {pl : Nat → Nat} (k : LK N n h pl) {p c : Nat} (hp : p < 4) (hc : c < 24) (hb : bt (h p) c = true) : ∀ F m j (b : Bool), m < F → j + m = 24 → c < j → j ≤ 6 * (c / 6) + 6 → (b = true ↔ ∀ d, c < d → d < j → OB n h pl p d = false) →
    fL_isTop_L8 F (nI c) (b01 b) (nI j) N = some (b01 (bq (Tp (OB n h pl p) c))) := by
  intro F
  induction F with
  | zero => intro m j b h; omega
  | succ F ih =>
    intro m j b hm hj hge h6 hbb
    rw [fL_isTop_L8.eq_2]
    have fin : j = 6 * (c / 6) + 6 → b = bq (Tp (OB n h pl p) c) := fun hjn => by
      have key : b = true ↔ Tp (OB n h pl p) c := by
        rw [hbb]
        unfold Tp
        exact ⟨fun z d d1 d2 => z d d1 (by omega), fun z d d1 d2 => z d d1 (by omega)⟩
      cases hz : bq (Tp (OB n h pl p) c) with
      | true => exact key.mpr (bq_t.mp hz)
      | false =>
        cases b with
        | false => rfl
        | true => exact absurd (key.mp rfl) (bq_f.mp hz)
    by_cases h24 : 24 ≤ j
    · rw [if_pos (show (24 : Int32) ≤ nI j from nI_le (a := 24) h24 (by omega)), fin (by omega)]
    · rw [if_neg (show ¬ (24 : Int32) ≤ nI j from nI_ge (b := 24) (by omega) (by omega)), dv_6 (by omega), dv_6 (by omega)]
      simp only [eq_N (show j / 6 < 2 ^ 31 by omega) (show c / 6 < 2 ^ 31 by omega)]
      by_cases hs : j / 6 = c / 6
      rotate_left
      · rw [if_neg hs, fin (by omega)]
      · rw [if_pos hs, k.table (by omega), ob_s, k.the hp hc hb, nI_1]
        simp only [b01_0]
        have hfree := k.free hp (show j < 24 by omega)
        have step : ∀ b' : Bool, (b' = true ↔ b = true ∧ OB n h pl p j = false) → (b' = true ↔ ∀ d, c < d → d < j + 1 → OB n h pl p d = false) := fun b' hb' => by
          rw [hb', hbb]
          constructor
          · rintro ⟨z2, z3⟩ d d1 d2
            rcases Nat.lt_or_ge d j with q | q
            · exact z2 d d1 q
            · rw [show d = j by omega]; exact z3
          · intro z2
            exact ⟨fun d d1 d2 => z2 d d1 (by omega), z2 j hge (by omega)⟩
        cases b with
        | false =>
          rw [if_pos rfl]
          exact ih (m - 1) (j + 1) false (by omega) (by omega) (by omega) (by omega) (step false (by simp))
        | true =>
          rw [if_neg (by decide)]
          cases ht : OT n pl j with
          | true =>
            rw [if_neg (by decide)]
            exact ih (m - 1) (j + 1) false (by omega) (by omega) (by omega) (by omega) (step false (by rw [hfree, ht]; simp))
          | false =>
            rw [if_pos rfl]
            by_cases h0 : fL_holder (nI j) N < 0
            · rw [if_pos h0]
              exact ih (m - 1) (j + 1) true (by omega) (by omega) (by omega) (by omega) (step true (by rw [hfree, ht]; simp [h0]))
            · rw [if_neg h0]
              by_cases h1 : fL_holder (nI j) N = nI p
              · rw [if_pos h1]
                exact ih (m - 1) (j + 1) true (by omega) (by omega) (by omega) (by omega) (step true (by rw [hfree, ht]; simp [h1]))
              · rw [if_neg h1]
                exact ih (m - 1) (j + 1) false (by omega) (by omega) (by omega) (by omega) (step false (by rw [hfree, ht]; simp [h0, h1]))
theorem LK.top {N : Mem} {n : Nat} {h : Nat → Int32} {pl : Nat → Nat} (k : LK N n h pl) {p c : Nat} (hp : p < 4) (hc : c < 24) (hb : bt (h p) c = true) : fL_isTop (nI c) N = some (b01 (bq (Tp (OB n h pl p) c))) := by
  have e := ltop_loop k hp hc hb 40 (24 - (c + 1)) (c + 1) true (by omega) (by omega) (by omega) (by omega) ⟨fun _ d d1 d2 => by omega, fun _ => rfl⟩
  unfold fL_isTop
  rw [nI_1, show fL_isTop_L8 40 (nI c) 1 (nI (c + 1)) N = _ from e, ob_s, if_pos (vb_b01 _)]
