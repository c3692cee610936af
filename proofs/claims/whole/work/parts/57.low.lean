/-! the lowest equal card: the class's walk by equal ones, the reference's walk down the suit -/
/-- as a rewriting step (by unfolding it the kernel would run the walks) -/
theorem ob_s {α β : Type} (a : α) (f : α → Option β) : obind (some a) f = f a := obind_of rfl rfl
def LowC (H O : Nat → Bool) (c L : Nat) : Prop := L ≤ c ∧ L / 6 = c / 6 ∧ H L = true ∧ (∀ d, L ≤ d → d ≤ c → O d = false) ∧ ∀ b, b < L → b / 6 = c / 6 → H b = true → ∃ d, b ≤ d ∧ d ≤ L ∧ O d = true
theorem LowC.uniq {H O : Nat → Bool} {c L L' : Nat} (a : LowC H O c L) (b : LowC H O c L') : L = L' := by
  obtain ⟨a1, a2, a3, a4, a5⟩ := a
  obtain ⟨b1, b2, b3, b4, b5⟩ := b
  rcases Nat.lt_trichotomy L L' with q | q | q
  · obtain ⟨d, d1, d2, d3⟩ := b5 L q a2 a3
    rw [a4 d d1 (Nat.le_trans d2 b1)] at d3; cases d3
  · exact q
  · obtain ⟨d, d1, d2, d3⟩ := a5 L' q b2 b3
    rw [b4 d d1 (Nat.le_trans d2 a1)] at d3; cases d3
theorem lowest_loop {x o : Int32} {O : Nat → Bool} {c : Nat} {M : Mem} (hc : c < 24) (hO : ∀ d, d < 24 → (bt o d = true ↔ O d = false ∧ bt x d = false)) (hx : ∀ d, bt x d = true → O d = false) :
    ∀ F m s L, m < F → s + m = 6 → L + s ≤ c → L / 6 = c / 6 → bt x L = true → (∀ d, L ≤ d → d ≤ c → O d = false) →
      ∃ L', fX3_lowestLike_L30 F x o (nI L) (nI s) M = some (nI L') ∧ LowC (bt x) O c L' := by
  intro F
  induction F with
  | zero => intro m s L h; omega
  | succ F ih =>
    intro m s L hm hs hL h6 hb hall
    rw [fX3_lowestLike_L30.eq_2, if_neg (show ¬ (6 : Int32) ≤ nI s from nI_ge (b := 6) (by omega) (by omega))]
    rcases eqB_ok (x := x) (o := o) (c := L) (by omega) with ⟨b, e, hE⟩ | ⟨e, hE⟩
    · rw [e]
      simp only [obind]
      obtain ⟨e1, e2, e3, e4⟩ := hE
      rw [if_neg (ne_m1 (by omega)), show (nI s + 1 : Int32) = nI (s + 1) from nI_add s 1]
      refine ih (m - 1) (s + 1) b (by omega) (by omega) (by omega) (by omega) e3 (fun d d1 d2 => ?_)
      rcases Nat.lt_or_ge d L with q | q
      · rcases Nat.eq_or_lt_of_le d1 with rfl | q2
        · exact hx _ e3
        · exact ((hO d (by omega)).mp (e4 d q2 q).1).1
      · exact hall d q d2
    · rw [e]
      simp only [obind]
      rw [if_pos trivial]
      refine ⟨L, rfl, by omega, h6, hb, hall, fun b hbL hb6 hbb => ?_⟩
      apply Classical.byContradiction
      intro hno
      have hno' : ∀ d, b ≤ d → d ≤ L → O d = false := fun d d1 d2 => by
        cases hq : O d with
        | false => rfl
        | true => exact absurd ⟨d, d1, d2, hq⟩ hno
      clear hno
      obtain ⟨w, ⟨hw1, hw2⟩, hmin⟩ := pk_least (fun w => w < L ∧ bt x (L - 1 - w) = true) ⟨L - 1 - b, by omega, by rw [show L - 1 - (L - 1 - b) = b by omega]; exact hbb⟩
      have hwb : b ≤ L - 1 - w := by
        rcases Nat.lt_or_ge (L - 1 - b) w with q | q
        · exact absurd ⟨by omega, by rw [show L - 1 - (L - 1 - b) = b by omega]; exact hbb⟩ (hmin (L - 1 - b) q)
        · omega
      refine hE (L - 1 - w) ⟨by omega, by omega, hw2, fun d d1 d2 => ?_⟩
      have hxd : bt x d = false := by
        cases hq : bt x d with
        | false => rfl
        | true => exact absurd ⟨by omega, by rw [show L - 1 - (L - 1 - d) = d by omega]; exact hq⟩ (hmin (L - 1 - d) (by omega))
      exact ⟨(hO d (by omega)).mpr ⟨hno' d (by omega) (by omega), hxd⟩, hxd⟩
theorem rlow_loop {N : Mem} {y : Int32} {p c : Nat} (hp : p < 4) (hc : c < 24) (hH : ∀ d, bt (N 3 p) d = true → bt y d = false) :
    ∀ F m L, m < F → c / 6 * 6 + m ≤ c + 1 → c / 6 * 6 + m ≤ L + 1 → L ≤ c → L / 6 = c / 6 → bt (N 3 p) L = true → (∀ d, c / 6 * 6 + m ≤ d → d ≤ c → bt y d = false) → (∀ d, c / 6 * 6 + m ≤ d → d < L → bt (N 3 p) d = false) →
      ∃ L', fX6_lowest_L18 F (nI c) (nI p) y (nI L) (nI (c / 6 * 6 + m) - 1) N = some (nI L') ∧ LowC (bt (N 3 p)) (bt y) c L' := by
  intro F
  induction F with
  | zero => intro m L h; omega
  | succ F ih =>
    intro m L hm hmc hmL hL h6 hb hO hno
    rw [fX6_lowest_L18.eq_2, dv_6 (by omega), show nI (c / 6) * 6 = nI (c / 6 * 6) from pk_mul (c / 6) 6]
    cases m with
    | zero =>
      rw [if_pos]
      · refine ⟨L, rfl, hL, h6, hb, fun d d1 d2 => hO d (by omega) d2, fun b b1 b2 b3 => ?_⟩
        rw [hno b (by omega) b1] at b3; cases b3
      · rw [Int32.lt_iff_toInt_lt, nI_toInt (by omega), Nat.add_zero]
        by_cases h0 : c / 6 * 6 = 0
        · rw [h0]; decide
        · obtain ⟨k, hk⟩ : ∃ k, c / 6 * 6 = k + 1 := ⟨c / 6 * 6 - 1, by omega⟩
          rw [hk, nI_pred, nI_toInt (by omega)]; omega
    | succ m =>
      rw [show nI (c / 6 * 6 + (m + 1)) - 1 = nI (c / 6 * 6 + m) from by rw [show c / 6 * 6 + (m + 1) = (c / 6 * 6 + m) + 1 by omega, nI_pred]]
      simp only [lt_N (show c / 6 * 6 + m < 2 ^ 31 by omega) (show c / 6 * 6 < 2 ^ 31 by omega)]
      rw [if_neg (show ¬ c / 6 * 6 + m < c / 6 * 6 by omega)]
      rw [has_eq (x := y) (show c / 6 * 6 + m < 32 by omega)]
      cases hy : bt y (c / 6 * 6 + m) with
      | true =>
        rw [if_pos rfl, if_neg (by decide)]
        refine ⟨L, rfl, hL, h6, hb, fun d d1 d2 => ?_, fun b b1 b2 b3 => ?_⟩
        · rcases Nat.lt_or_ge d (c / 6 * 6 + (m + 1)) with q | q
          · have : d = L := by omega
            rw [this]; exact hH L hb
          · exact hO d q d2
        · refine ⟨c / 6 * 6 + m, ?_, by omega, hy⟩
          rcases Nat.lt_or_ge b (c / 6 * 6 + (m + 1)) with q | q
          · omega
          · rw [hno b q b1] at b3; cases b3
      | false =>
        rw [if_neg (show ¬ (false = true) by decide), if_pos rfl, if_pos (vin_N hp (by omega)), cl_N (by omega)]
        rw [has_eq (x := N 3 p) (show c / 6 * 6 + m < 32 by omega), show nI (c / 6 * 6 + m) + (-1) = nI (c / 6 * 6 + m) - 1 from (Int32.sub_eq_add_neg _ _).symm]
        have hO' : ∀ d, c / 6 * 6 + m ≤ d → d ≤ c → bt y d = false := fun d d1 d2 => by
          rcases Nat.eq_or_lt_of_le d1 with q | q
          · rw [← q]; exact hy
          · exact hO d (by omega) d2
        cases hh : bt (N 3 p) (c / 6 * 6 + m) with
        | true =>
          rw [if_pos rfl, if_neg (by decide)]
          exact ih m (c / 6 * 6 + m) (by omega) (by omega) (by omega) (by omega) (by omega) hh hO' (fun d d1 d2 => by omega)
        | false =>
          rw [if_neg (show ¬ (false = true) by decide), if_pos rfl]
          refine ih m L (by omega) (by omega) (by omega) hL h6 hb hO' (fun d d1 d2 => ?_)
          rcases Nat.eq_or_lt_of_le d1 with q | q
          · rw [← q]; exact hh
          · exact hno d (by omega) d2
/-- the cards as both see them -/
def Lk (M N : Mem) (n : Nat) (h : Nat → Int32) (pl : Nat → Nat) : Prop :=
  n ≤ 16 ∧ (∀ k, k < n → pl k < 24) ∧ (∀ p, p < 4 → c24 (h p)) ∧ (∀ p, p < 4 → cnt (h p) ≤ 4) ∧ (∀ p q, p < 4 → q < 4 → p ≠ q → ∀ c, bt (h p) c = true → bt (h q) c = false) ∧
  (∀ i, n - n % 4 ≤ i → i < n → ∀ p, p < 4 → bt (h p) (pl i) = false) ∧
  (∀ p, p < 4 → M 1 p = h p) ∧ M 0 7 = nI n ∧ (∀ k, k < n → M 2 k = nI (pl k)) ∧
  (∀ p, p < 4 → N 3 p = h p) ∧ N 0 9 = nI (n % 4) ∧ (∀ i, i < n % 4 → N 4 i = nI (ts n pl i))
/-- what the others hold, and what lies in the trick -/
def Ots (n : Nat) (h : Nat → Int32) (pl : Nat → Nat) (p d : Nat) : Prop := (∃ q, q < 4 ∧ q ≠ p ∧ bt (h q) d = true) ∨ ∃ i, n - n % 4 ≤ i ∧ i < n ∧ pl i = d
theorem Lk.oth {M N : Mem} {n : Nat} {h : Nat → Int32} {pl : Nat → Nat} (k : Lk M N n h pl) {p : Nat} (hp : p < 4) :
    ∃ y, fX6_others (nI p) N = some y ∧ (∀ d, d < 24 → (bt y d = true ↔ Ots n h pl p d)) ∧ (∀ d, bt (h p) d = true → bt y d = false) ∧ ∃ o, fX1_out M = some o ∧ c24 o ∧ ∀ d, d < 24 → (bt o d = true ↔ bt y d = false ∧ bt (h p) d = false) := by
  obtain ⟨k1, k2, k3, k4, k5, k6, m1, m7, m2, n3, n9, n4⟩ := k
  obtain ⟨y, e, hy⟩ := others_ok (M := N) (k := n % 4) (p := p) (t := ts n pl) n9 (Nat.mod_lt _ (by decide)) (fun i hi => ⟨n4 i hi, k2 _ (by omega)⟩) hp
  obtain ⟨o, eo, ho24, ho⟩ := out_ok (h := h) m1 m7 m2 k1 k2
  have hy' : ∀ d, d < 24 → (bt y d = true ↔ Ots n h pl p d) := fun d hd => by
    rw [hy d hd]
    unfold Ots
    constructor
    · rintro (⟨⟨q, q1, q2⟩, q3⟩ | ⟨j, j1, j2⟩)
      · rw [n3 q q1] at q2
        rw [n3 p hp] at q3
        exact Or.inl ⟨q, q1, (fun z => by rw [z, q3] at q2; cases q2), q2⟩
      · exact Or.inr ⟨n - n % 4 + j, by omega, by omega, j2⟩
    · rintro (⟨q, q1, q2, q3⟩ | ⟨i, i1, i2, i3⟩)
      · refine Or.inl ⟨⟨q, q1, by rw [n3 q q1]; exact q3⟩, ?_⟩
        rw [n3 p hp]; exact k5 q p q1 hp q2 d q3
      · refine Or.inr ⟨i - (n - n % 4), by omega, ?_⟩
        unfold ts
        rw [show n - n % 4 + (i - (n - n % 4)) = i by omega]; exact i3
  refine ⟨y, e, hy', fun d hd => ?_, o, eo, ho24, fun d hd => ?_⟩
  · rcases Nat.lt_or_ge d 24 with q | q
    · cases hq : bt y d with
      | false => rfl
      | true =>
        rcases (hy' d q).mp hq with ⟨r, r1, r2, r3⟩ | ⟨i, i1, i2, i3⟩
        · rw [k5 r p r1 hp r2 d r3] at hd; cases hd
        · have := k6 i i1 i2 p hp
          rw [i3, hd] at this; cases this
    · rw [k3 p hp d q] at hd; cases hd
  · rw [ho d hd]
    unfold Out
    constructor
    · rintro ⟨a, b⟩
      refine ⟨?_, a p hp⟩
      cases hq : bt y d with
      | false => rfl
      | true =>
        rcases (hy' d hd).mp hq with ⟨r, r1, r2, r3⟩ | ⟨i, i1, i2, i3⟩
        · rw [a r r1] at r3; cases r3
        · exact absurd i3 (b i i1 i2)
    · rintro ⟨a, b⟩
      refine ⟨fun q hq => ?_, fun i i1 i2 i3 => ?_⟩
      · by_cases hqp : q = p
        · rw [hqp]; exact b
        · cases hz : bt (h q) d with
          | false => rfl
          | true =>
            have := (hy' d hd).mpr (Or.inl ⟨q, hq, hqp, hz⟩)
            rw [a] at this; cases this
      · have := (hy' d hd).mpr (Or.inr ⟨i, i1, i2, i3⟩)
        rw [a] at this; cases this
theorem Lk.owner {M N : Mem} {n : Nat} {h : Nat → Int32} {pl : Nat → Nat} (k : Lk M N n h pl) {c : Nat} (hc : c < 24) :
    fX6_holder (nI c) N = fX1_ownerOf (nI c) M ∧ ((∃ p, p < 4 ∧ bt (h p) c = true ∧ fX1_ownerOf (nI c) M = nI p) ∨ ((∀ p, p < 4 → bt (h p) c = false) ∧ fX1_ownerOf (nI c) M = -1)) := by
  obtain ⟨k1, k2, k3, k4, k5, k6, m1, m7, m2, n3, n9, n4⟩ := k
  refine ⟨(owner_eq (fun p hp => by rw [m1 p hp, n3 p hp]) hc).symm, ?_⟩
  unfold fX1_ownerOf
  rw [m1 0 (by omega), m1 1 (by omega), m1 2 (by omega), m1 3 (by omega)]
  rw [fX0_holds_eq _ hc, fX0_holds_eq _ hc, fX0_holds_eq _ hc, fX0_holds_eq _ hc]
  cases h0 : bt (h 0) c with
  | true => exact Or.inl ⟨0, by omega, h0, by simp; rfl⟩
  | false =>
    cases h1 : bt (h 1) c with
    | true => exact Or.inl ⟨1, by omega, h1, by simp; rfl⟩
    | false =>
      cases h2 : bt (h 2) c with
      | true => exact Or.inl ⟨2, by omega, h2, by simp; rfl⟩
      | false =>
        cases h3 : bt (h 3) c with
        | true => exact Or.inl ⟨3, by omega, h3, by simp; rfl⟩
        | false =>
          refine Or.inr ⟨fun p hp => ?_, by simp⟩
          obtain rfl | rfl | rfl | rfl : p = 0 ∨ p = 1 ∨ p = 2 ∨ p = 3 := by omega
          · exact h0
          · exact h1
          · exact h2
          · exact h3
theorem Lk.hand {M N : Mem} {n : Nat} {h : Nat → Int32} {pl : Nat → Nat} (k : Lk M N n h pl) {p : Nat} (hp : p < 4) : fX1_handOf (nI p) M = h p := by
  unfold fX1_handOf
  rw [if_neg (nn_N (by omega)), if_neg (show ¬ (4 : Int32) ≤ nI p from nI_ge (b := 4) (by omega) (by omega)), cl_N (by omega)]
  exact k.2.2.2.2.2.2.1 p hp
theorem Lk.the {M N : Mem} {n : Nat} {h : Nat → Int32} {pl : Nat → Nat} (k : Lk M N n h pl) {p c : Nat} (hp : p < 4) (hc : c < 24) (hb : bt (h p) c = true) : fX1_ownerOf (nI c) M = nI p := by
  rcases (k.owner hc).2 with ⟨q, q1, q2, q3⟩ | ⟨q, -⟩
  · by_cases hqp : q = p
    · rw [q3, hqp]
    · have := k.2.2.2.2.1 q p q1 hp hqp c q2
      rw [hb] at this; cases this
  · rw [q p hp] at hb; cases hb
theorem low_X {M N : Mem} {n : Nat} {h : Nat → Int32} {pl : Nat → Nat} (k : Lk M N n h pl) {p c L : Nat} {o : Int32} (hp : p < 4) (hc : c < 24) (hb : bt (h p) c = true) (eo : fX1_out M = some o) (e : fX3_lowestLike_L30 40 (h p) o (nI c) (nI 0) M = some (nI L)) : fX3_lowestLike (nI c) M = some (nI L) := by
  rw [show (nI 0 : Int32) = 0 from rfl] at e
  unfold fX3_lowestLike
  rw [eo, k.the hp hc hb, k.hand hp, ob_s]
  exact e
theorem low_M {M N : Mem} {n : Nat} {h : Nat → Int32} {pl : Nat → Nat} (k : Lk M N n h pl) {p c L : Nat} {y : Int32} (hp : p < 4) (hc : c < 24) (hb : bt (h p) c = true) (ey : fX6_others (nI p) N = some y) (e : fX6_lowest_L18 40 (nI c) (nI p) y (nI c) (nI c) N = some (nI L)) : fX6_lowest (nI c) N = some (nI L) := by
  unfold fX6_lowest
  rw [(k.owner hc).1, k.the hp hc hb, ey]
  rw [ob_s, e, ob_s]
theorem low_same {M N : Mem} {n : Nat} {h : Nat → Int32} {pl : Nat → Nat} (k : Lk M N n h pl) {p c : Nat} (hp : p < 4) (hc : c < 24) (hb : bt (h p) c = true) {y : Int32} (hy : fX6_others (nI p) N = some y) :
    ∃ L, fX3_lowestLike (nI c) M = some (nI L) ∧ fX6_lowest (nI c) N = some (nI L) ∧ LowC (bt (h p)) (bt y) c L := by
  have hn3 : N 3 p = h p := k.2.2.2.2.2.2.2.2.2.1 p hp
  obtain ⟨y', ey, hys, hyx, o, eo, ho24, ho⟩ := k.oth hp
  rw [hy] at ey
  cases ey
  obtain ⟨L, e1, l1⟩ := lowest_loop (M := M) (x := h p) (o := o) (O := bt y) hc ho hyx 40 6 0 c (by omega) (by omega) (by omega) rfl hb (fun d d1 d2 => by rw [show d = c by omega]; exact hyx c hb)
  obtain ⟨L', e2, l2⟩ := rlow_loop (N := N) (y := y) (p := p) hp hc (fun d hd => hyx d (by rw [← hn3]; exact hd)) 40 (c + 1 - c / 6 * 6) c (by omega) (by omega) (by omega) (Nat.le_refl _) rfl (by rw [hn3]; exact hb) (fun d d1 d2 => by omega) (fun d d1 d2 => by omega)
  rw [hn3] at l2
  have hLL := l1.uniq l2
  rw [show c / 6 * 6 + (c + 1 - c / 6 * 6) = c + 1 by omega, nI_pred, ← hLL] at e2
  exact ⟨L, low_X k hp hc hb eo e1, low_M k hp hc hb hy e2, l1⟩
