/-! the class's look at the cards, in its own terms -/
noncomputable def bq (P : Prop) : Bool := @decide P (Classical.propDecidable P)
theorem bq_t {P : Prop} : bq P = true ↔ P := by unfold bq; exact @decide_eq_true_iff P (Classical.propDecidable P)
theorem bq_f {P : Prop} : bq P = false ↔ ¬ P := by unfold bq; exact @decide_eq_false_iff_not P (Classical.propDecidable P)
def LowC (H O : Nat → Bool) (c L : Nat) : Prop := L ≤ c ∧ L / 6 = c / 6 ∧ H L = true ∧ (∀ d, L ≤ d → d ≤ c → O d = false) ∧ ∀ b, b < L → b / 6 = c / 6 → H b = true → ∃ d, b ≤ d ∧ d ≤ L ∧ O d = true
theorem LowC.uniq {H O : Nat → Bool} {c L L' : Nat} (a : LowC H O c L) (b : LowC H O c L') : L = L' := by
  obtain ⟨a1, a2, a3, a4, a5⟩ := a
  obtain ⟨b1, b2, b3, b4, b5⟩ := b
  rcases Nat.lt_trichotomy L L' with q | q | q
  · obtain ⟨d, d1, d2, d3⟩ := b5 L q a2 a3
    rw [a4 d d1 (Nat.le_trans d2 b1)] at d3; cases d3
  · exact q
  · obtain ⟨d, d1, d2, d3⟩ := a5 L' q b2 b3
    rw [b4 d d1 (Nat.le_trans d2 a1)] at d3; cases d3
theorem lowest_loop {x o : Int32} {O : Nat → Bool} {c : Nat} {M : Mem} (hc : c < 24) (hO : ∀ d, d < 24 → (bt o d = true ↔ O d = false ∧ bt x d = false)) (hx : ∀ d, bt x d = true → O d = false) :
    ∀ F m s L, m < F → s + m = 6 → L + s ≤ c → L / 6 = c / 6 → bt x L = true → (∀ d, L ≤ d → d ≤ c → O d = false) →
      ∃ L', fX3_lowestLike_L30 F x o (nI L) (nI s) M = some (nI L') ∧ LowC (bt x) O c L' := by
  intro F
  induction F with
  | zero => intro m s L h; omega
  | succ F ih =>
    intro m s L hm hs hL h6 hb hall
    rw [fX3_lowestLike_L30.eq_2, if_neg (show ¬ (6 : Int32) ≤ nI s from nI_ge (b := 6) (by omega) (by omega))]
    rcases eqB_ok (x := x) (o := o) (c := L) (by omega) with ⟨b, e, hE⟩ | ⟨e, hE⟩
    · rw [e]
      simp only [ob_s]
      obtain ⟨e1, e2, e3, e4⟩ := hE
      rw [if_neg (ne_m1 (by omega)), show (nI s + 1 : Int32) = nI (s + 1) from nI_add s 1]
      refine ih (m - 1) (s + 1) b (by omega) (by omega) (by omega) (by omega) e3 (fun d d1 d2 => ?_)
      rcases Nat.lt_or_ge d L with q | q
      · rcases Nat.eq_or_lt_of_le d1 with rfl | q2
        · exact hx _ e3
        · exact ((hO d (by omega)).mp (e4 d q2 q).1).1
      · exact hall d q d2
    · rw [e]
      simp only [ob_s]
      rw [if_pos trivial]
      refine ⟨L, rfl, by omega, h6, hb, hall, fun b hbL hb6 hbb => ?_⟩
      apply Classical.byContradiction
      intro hno
      have hno' : ∀ d, b ≤ d → d ≤ L → O d = false := fun d d1 d2 => by
        cases hq : O d with
        | false => rfl
        | true => exact absurd ⟨d, d1, d2, hq⟩ hno
      clear hno
      obtain ⟨w, ⟨hw1, hw2⟩, hmin⟩ := pk_least (fun w => w < L ∧ bt x (L - 1 - w) = true) ⟨L - 1 - b, by omega, by rw [show L - 1 - (L - 1 - b) = b by omega]; exact hbb⟩
      have hwb : b ≤ L - 1 - w := by
        rcases Nat.lt_or_ge (L - 1 - b) w with q | q
        · exact absurd ⟨by omega, by rw [show L - 1 - (L - 1 - b) = b by omega]; exact hbb⟩ (hmin (L - 1 - b) q)
        · omega
      refine hE (L - 1 - w) ⟨by omega, by omega, hw2, fun d d1 d2 => ?_⟩
      have hxd : bt x d = false := by
        cases hq : bt x d with
        | false => rfl
        | true => exact absurd ⟨by omega, by rw [show L - 1 - (L - 1 - d) = d by omega]; exact hq⟩ (hmin (L - 1 - d) (by omega))
      exact ⟨(hO d (by omega)).mpr ⟨hno' d (by omega) (by omega), hxd⟩, hxd⟩
/-- the cards as the class sees them -/
def Lk (M : Mem) (n : Nat) (h : Nat → Int32) (pl : Nat → Nat) : Prop :=
  n ≤ 16 ∧ (∀ k, k < n → pl k < 24) ∧ (∀ p, p < 4 → c24 (h p)) ∧ (∀ p, p < 4 → cnt (h p) ≤ 4) ∧ (∀ p q, p < 4 → q < 4 → p ≠ q → ∀ c, bt (h p) c = true → bt (h q) c = false) ∧
  (∀ i, n - n % 4 ≤ i → i < n → ∀ p, p < 4 → bt (h p) (pl i) = false) ∧
  (∀ p, p < 4 → M 1 p = h p) ∧ M 0 7 = nI n ∧ (∀ k, k < n → M 2 k = nI (pl k))
/-- what the others hold, and what lies in the trick -/
def Ots (n : Nat) (h : Nat → Int32) (pl : Nat → Nat) (p d : Nat) : Prop := (∃ q, q < 4 ∧ q ≠ p ∧ bt (h q) d = true) ∨ ∃ i, n - n % 4 ≤ i ∧ i < n ∧ pl i = d
noncomputable def OB (n : Nat) (h : Nat → Int32) (pl : Nat → Nat) (p : Nat) : Nat → Bool := fun d => bq (Ots n h pl p d)
theorem Lk.oth {M : Mem} {n : Nat} {h : Nat → Int32} {pl : Nat → Nat} (k : Lk M n h pl) {p : Nat} (hp : p < 4) :
    (∀ d, bt (h p) d = true → OB n h pl p d = false) ∧ ∃ o, fX1_out M = some o ∧ c24 o ∧ ∀ d, d < 24 → (bt o d = true ↔ OB n h pl p d = false ∧ bt (h p) d = false) := by
  obtain ⟨k1, k2, k3, k4, k5, k6, m1, m7, m2⟩ := k
  obtain ⟨o, eo, ho24, ho⟩ := out_ok (h := h) m1 m7 m2 k1 k2
  refine ⟨fun d hd => ?_, o, eo, ho24, fun d hd => ?_⟩
  · refine bq_f.mpr ?_
    rintro (⟨r, r1, r2, r3⟩ | ⟨i, i1, i2, i3⟩)
    · rw [k5 r p r1 hp r2 d r3] at hd; cases hd
    · have := k6 i i1 i2 p hp
      rw [i3, hd] at this; cases this
  · rw [ho d hd]
    unfold Out
    constructor
    · rintro ⟨a, b⟩
      refine ⟨bq_f.mpr ?_, a p hp⟩
      rintro (⟨r, r1, r2, r3⟩ | ⟨i, i1, i2, i3⟩)
      · rw [a r r1] at r3; cases r3
      · exact absurd i3 (b i i1 i2)
    · rintro ⟨a, b⟩
      have a := bq_f.mp a
      refine ⟨fun q hq => ?_, fun i i1 i2 i3 => ?_⟩
      · by_cases hqp : q = p
        · rw [hqp]; exact b
        · cases hz : bt (h q) d with
          | false => rfl
          | true => exact absurd (Or.inl ⟨q, hq, hqp, hz⟩) a
      · exact absurd (Or.inr ⟨i, i1, i2, i3⟩) a
theorem Lk.owner {M : Mem} {n : Nat} {h : Nat → Int32} {pl : Nat → Nat} (k : Lk M n h pl) {c : Nat} (hc : c < 24) :
    ((∃ p, p < 4 ∧ bt (h p) c = true ∧ fX1_ownerOf (nI c) M = nI p) ∨ ((∀ p, p < 4 → bt (h p) c = false) ∧ fX1_ownerOf (nI c) M = -1)) := by
  obtain ⟨k1, k2, k3, k4, k5, k6, m1, m7, m2⟩ := k
  unfold fX1_ownerOf
  rw [m1 0 (by omega), m1 1 (by omega), m1 2 (by omega), m1 3 (by omega)]
  rw [fX0_holds_eq _ hc, fX0_holds_eq _ hc, fX0_holds_eq _ hc, fX0_holds_eq _ hc]
  cases h0 : bt (h 0) c with
  | true => exact Or.inl ⟨0, by omega, h0, by simp; rfl⟩
  | false =>
    cases h1 : bt (h 1) c with
    | true => exact Or.inl ⟨1, by omega, h1, by simp; rfl⟩
    | false =>
      cases h2 : bt (h 2) c with
      | true => exact Or.inl ⟨2, by omega, h2, by simp; rfl⟩
      | false =>
        cases h3 : bt (h 3) c with
        | true => exact Or.inl ⟨3, by omega, h3, by simp; rfl⟩
        | false =>
          refine Or.inr ⟨fun p hp => ?_, by simp⟩
          obtain rfl | rfl | rfl | rfl : p = 0 ∨ p = 1 ∨ p = 2 ∨ p = 3 := by omega
          · exact h0
          · exact h1
          · exact h2
          · exact h3
theorem Lk.hand {M : Mem} {n : Nat} {h : Nat → Int32} {pl : Nat → Nat} (k : Lk M n h pl) {p : Nat} (hp : p < 4) : fX1_handOf (nI p) M = h p := by
  unfold fX1_handOf
  rw [if_neg (nn_N (by omega)), if_neg (show ¬ (4 : Int32) ≤ nI p from nI_ge (b := 4) (by omega) (by omega)), cl_N (by omega)]
  exact k.2.2.2.2.2.2.1 p hp
theorem Lk.the {M : Mem} {n : Nat} {h : Nat → Int32} {pl : Nat → Nat} (k : Lk M n h pl) {p c : Nat} (hp : p < 4) (hc : c < 24) (hb : bt (h p) c = true) : fX1_ownerOf (nI c) M = nI p := by
  rcases k.owner hc with ⟨q, q1, q2, q3⟩ | ⟨q, -⟩
  · by_cases hqp : q = p
    · rw [q3, hqp]
    · have := k.2.2.2.2.1 q p q1 hp hqp c q2
      rw [hb] at this; cases this
  · rw [q p hp] at hb; cases hb
theorem low_eqB {H O Q : Nat → Bool} {c L : Nat} (hc : c < 24) (hO : ∀ d, d < 24 → (Q d = true ↔ O d = false ∧ H d = false)) (hx : ∀ d, H d = true → O d = false) (hHc : H c = true) (l : LowC H O c L) : L = c ↔ ∀ b, ¬ EqB H Q c b := by
  obtain ⟨l1, l2, l3, l4, l5⟩ := l
  constructor
  · rintro rfl b ⟨b1, b2, b3, b4⟩
    obtain ⟨d, d1, d2, d3⟩ := l5 b b1 b2 b3
    rcases Nat.eq_or_lt_of_le d1 with q | q
    · rw [← q, hx b b3] at d3; cases d3
    · rcases Nat.eq_or_lt_of_le d2 with r | r
      · rw [r, hx _ hHc] at d3; cases d3
      · have := ((hO d (by omega)).mp (b4 d q r).1).1
        rw [d3] at this; cases this
  · intro hE
    rcases Nat.eq_or_lt_of_le l1 with q | q
    · exact q
    · exfalso
      obtain ⟨w, ⟨hw1, hw2⟩, hmin⟩ := pk_least (fun w => w < c ∧ H (c - 1 - w) = true) ⟨c - 1 - L, by omega, by rw [show c - 1 - (c - 1 - L) = L by omega]; exact l3⟩
      have hwb : L ≤ c - 1 - w := by
        rcases Nat.lt_or_ge (c - 1 - L) w with r | r
        · exact absurd ⟨by omega, by rw [show c - 1 - (c - 1 - L) = L by omega]; exact l3⟩ (hmin (c - 1 - L) r)
        · omega
      refine hE (c - 1 - w) ⟨by omega, by omega, hw2, fun d d1 d2 => ?_⟩
      have hxd : H d = false := by
        cases hq : H d with
        | false => rfl
        | true => exact absurd ⟨by omega, by rw [show c - 1 - (c - 1 - d) = d by omega]; exact hq⟩ (hmin (c - 1 - d) (by omega))
      exact ⟨(hO d (by omega)).mpr ⟨l4 d (by omega) (by omega), hxd⟩, hxd⟩
/-- the lowest equal card, unlike cards -/
theorem low_ok {M : Mem} {n : Nat} {h : Nat → Int32} {pl : Nat → Nat} (k : Lk M n h pl) {p c : Nat} (hp : p < 4) (hc : c < 24) (hb : bt (h p) c = true) :
    ∃ L, fX3_lowestLike (nI c) M = some (nI L) ∧ LowC (bt (h p)) (OB n h pl p) c L := by
  obtain ⟨hyx, o, eo, ho24, ho⟩ := k.oth hp
  obtain ⟨L, e1, l1⟩ := lowest_loop (M := M) (x := h p) (o := o) (O := OB n h pl p) hc ho hyx 40 6 0 c (by omega) (by omega) (by omega) rfl hb (fun d d1 d2 => by rw [show d = c by omega]; exact hyx c hb)
  refine ⟨L, ?_, l1⟩
  rw [show (nI 0 : Int32) = 0 from rfl] at e1
  unfold fX3_lowestLike
  rw [eo, k.the hp hc hb, k.hand hp, ob_s]
  exact e1
noncomputable def unl (n : Nat) (h : Nat → Int32) (pl : Nat → Nat) (p : Nat) : Nat → Bool := fun c => bq (bt (h p) c = true ∧ LowC (bt (h p)) (OB n h pl p) c c)
theorem unlike_ok {M : Mem} {n : Nat} {h : Nat → Int32} {pl : Nat → Nat} (k : Lk M n h pl) {p : Nat} (hp : p < 4) :
    ∃ (o r : Int32), fX1_out M = some o ∧ fX0_lowestOfEquals (fX1_handOf (nI p) M) o = some r ∧ fJ6_bitCount_0f7a4 r = nI (cn (unl n h pl p) 24) := by
  obtain ⟨hyx, o, eo, ho24, ho⟩ := k.oth hp
  obtain ⟨r, er, hr24, hr⟩ := lowE_ok (x := h p) o (k.2.2.1 p hp) (k.2.2.2.1 p hp)
  refine ⟨o, r, eo, by rw [k.hand hp]; exact er, ?_⟩
  rw [bitCount_ok hr24]
  congr 1
  refine cn_congr 24 (fun c hc => ?_)
  have key : bt r c = true ↔ unl n h pl p c = true := by
    rw [hr c hc]
    unfold unl
    rw [bq_t]
    refine and_congr_right (fun hb => ?_)
    obtain ⟨L, -, l⟩ := low_ok k hp hc hb
    rw [← low_eqB hc ho hyx hb l]
    constructor
    · rintro rfl; exact l
    · intro z; exact l.uniq z
  cases hq : bt r c with
  | true => exact (key.mp hq).symm
  | false =>
    cases hz : unl n h pl p c with
    | false => rfl
    | true => rw [key.mpr hz] at hq; cases hq
