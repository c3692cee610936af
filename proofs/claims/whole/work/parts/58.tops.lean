/-! unlike cards, tops, quick tricks -/
theorem Lk.thr {M N : Mem} {n : Nat} {h : Nat → Int32} {pl : Nat → Nat} (k : Lk M N n h pl) (v : Int32) : Lk M (mset N 0 6 v) n h pl := by
  obtain ⟨k1, k2, k3, k4, k5, k6, m1, m7, m2, n3, n9, n4⟩ := k
  refine ⟨k1, k2, k3, k4, k5, k6, m1, m7, m2, fun p hp => ?_, ?_, fun i hi => ?_⟩
  · rw [mset_n _ _ _ (by decide)]; exact n3 p hp
  · rw [mset_at]; simp [n9]
  · rw [mset_n _ _ _ (by decide)]; exact n4 i hi
theorem low_eqB {H O Q : Nat → Bool} {c L : Nat} (hc : c < 24) (hO : ∀ d, d < 24 → (Q d = true ↔ O d = false ∧ H d = false)) (hx : ∀ d, H d = true → O d = false) (hHc : H c = true) (l : LowC H O c L) : L = c ↔ ∀ b, ¬ EqB H Q c b := by
  obtain ⟨l1, l2, l3, l4, l5⟩ := l
  constructor
  · rintro rfl b ⟨b1, b2, b3, b4⟩
    obtain ⟨d, d1, d2, d3⟩ := l5 b b1 b2 b3
    rcases Nat.eq_or_lt_of_le d1 with q | q
    · rw [← q, hx b b3] at d3; cases d3
    · rcases Nat.eq_or_lt_of_le d2 with r | r
      · rw [r, hx _ hHc] at d3; cases d3
      · have := ((hO d (by omega)).mp (b4 d q r).1).1
        rw [d3] at this; cases this
  · intro hE
    rcases Nat.eq_or_lt_of_le l1 with q | q
    · exact q
    · exfalso
      obtain ⟨w, ⟨hw1, hw2⟩, hmin⟩ := pk_least (fun w => w < c ∧ H (c - 1 - w) = true) ⟨c - 1 - L, by omega, by rw [show c - 1 - (c - 1 - L) = L by omega]; exact l3⟩
      have hwb : L ≤ c - 1 - w := by
        rcases Nat.lt_or_ge (c - 1 - L) w with r | r
        · exact absurd ⟨by omega, by rw [show c - 1 - (c - 1 - L) = L by omega]; exact l3⟩ (hmin (c - 1 - L) r)
        · omega
      refine hE (c - 1 - w) ⟨by omega, by omega, hw2, fun d d1 d2 => ?_⟩
      have hxd : H d = false := by
        cases hq : H d with
        | false => rfl
        | true => exact absurd ⟨by omega, by rw [show c - 1 - (c - 1 - d) = d by omega]; exact hq⟩ (hmin (c - 1 - d) (by omega))
      exact ⟨(hO d (by omega)).mpr ⟨l4 d (by omega) (by omega), hxd⟩, hxd⟩
theorem unlike_loop {N : Mem} {p : Nat} {f : Nat → Bool} (hp : p < 4) (h6 : N 0 6 = 0) (hf : ∀ c, c < 24 → (bt (N 3 p) c = false → f c = false) ∧ (bt (N 3 p) c = true → ∃ L, fX6_lowest (nI c) N = some (nI L) ∧ L < 24 ∧ (f c = true ↔ L = c))) :
    ∀ F m c, m < F → c + m = 24 → fX6_unlike_L22 F (nI p) (nI (cn f c)) (nI c) N = some (nI (cn f 24)) := by
  intro F
  induction F with
  | zero => intro m c h; omega
  | succ F ih =>
    intro m c hm hc
    rw [fX6_unlike_L22.eq_2]
    by_cases h24 : 24 ≤ c
    · rw [if_pos (show (24 : Int32) ≤ nI c from nI_le (a := 24) h24 (by omega)), show c = 24 by omega]
    · have go := ih (m - 1) (c + 1) (by omega) (by omega)
      have hcn : cn f (c + 1) = cn f c + (if f c then 1 else 0) := rfl
      rw [hcn] at go
      rw [if_neg (show ¬ (24 : Int32) ≤ nI c from nI_ge (b := 24) (by omega) (by omega)), h6, if_pos rfl, if_pos (vin_N hp (by omega)), cl_N (by omega), has_eq (by omega), show (nI c + 1 : Int32) = nI (c + 1) from nI_add c 1, show (nI (cn f c) + 0 : Int32) = nI (cn f c + 0) from nI_add _ 0, show (nI (cn f c) + 1 : Int32) = nI (cn f c + 1) from nI_add _ 1]
      cases hb : bt (N 3 p) c with
      | false =>
        rw [(hf c (by omega)).1 hb] at go
        rw [if_neg (show ¬ (false = true) by decide), if_pos rfl]
        exact go
      | true =>
        obtain ⟨L, e, hL, hfL⟩ := (hf c (by omega)).2 hb
        rw [if_pos rfl, if_neg (by decide), e]
        simp only [ob_s, eq_N (show L < 2 ^ 31 by omega) (show c < 2 ^ 31 by omega)]
        by_cases hLc : L = c
        · rw [if_pos hLc]
          rw [hfL.mpr hLc] at go
          exact go
        · rw [if_neg hLc]
          have : f c = false := by
            cases hq : f c with
            | false => rfl
            | true => exact absurd (hfL.mp hq) hLc
          rw [this] at go
          exact go
theorem unlike_same {M N : Mem} {n : Nat} {h : Nat → Int32} {pl : Nat → Nat} (k : Lk M N n h pl) (h6 : N 0 6 = 0) {p : Nat} (hp : p < 4) :
    ∃ (o r : Int32) (v : Nat), fX1_out M = some o ∧ fX0_lowestOfEquals (fX1_handOf (nI p) M) o = some r ∧ fJ6_bitCount_0f7a4 r = nI v ∧ fX6_unlike_L22 40 (nI p) 0 0 N = some (nI v) := by
  obtain ⟨y, ey, hys, hyx, o, eo, ho24, ho⟩ := k.oth hp
  have hn3 : N 3 p = h p := k.2.2.2.2.2.2.2.2.2.1 p hp
  obtain ⟨r, er, hr24, hr⟩ := lowE_ok (x := h p) o (k.2.2.1 p hp) (k.2.2.2.1 p hp)
  refine ⟨o, r, cnt r, eo, by rw [k.hand hp]; exact er, bitCount_ok hr24, ?_⟩
  have := unlike_loop (N := N) (p := p) (f := bt r) hp h6 (fun c hc => ⟨fun hb => ?_, fun hb => ?_⟩) 40 24 0 (by omega) (by omega)
  · rw [show nI (cn (bt r) 0) = 0 from rfl, show (nI 0 : Int32) = 0 from rfl] at this
    exact this
  · rw [hn3] at hb
    cases hq : bt r c with
    | false => rfl
    | true => rw [((hr c hc).mp hq).1] at hb; cases hb
  · rw [hn3] at hb
    obtain ⟨L, e1, e2, l⟩ := low_same k hp hc hb ey
    refine ⟨L, e2, by have := l.1; omega, ?_⟩
    rw [low_eqB hc ho hyx hb l, hr c hc]
    exact ⟨fun z => z.2, fun z => ⟨hb, z⟩⟩
/-- no higher card of the suit -/
def Tp (y : Int32) (c : Nat) : Prop := ∀ d, c < d → d / 6 = c / 6 → bt y d = false
theorem highest_same {M N : Mem} {n : Nat} {h : Nat → Int32} {pl : Nat → Nat} (k : Lk M N n h pl) {p c : Nat} (hp : p < 4) (hc : c < 24) (hb : bt (h p) c = true) {y : Int32} (hys : ∀ d, d < 24 → (bt y d = true ↔ Ots n h pl p d)) (hyx : ∀ d, bt (h p) d = true → bt y d = false) :
    ∃ b : Bool, fX3_isHighest (nI c) (nI p) M = some (b01 b) ∧ (b = true ↔ Tp y c) := by
  have hh := k.hand hp
  obtain ⟨k1, k2, k3, k4, k5, k6, m1, m7, m2, n3, n9, n4⟩ := k
  obtain ⟨x, ex, hx24, hx⟩ := inTrick_ok m7 m2 k1 k2
  unfold fX3_isHighest
  rw [ex, hh, suitOf_N (by omega)]
  simp only [ob_s]
  generalize hz : (((fX1_inHands M &&& (h p ^^^ (-1))) ||| x) &&& fX0_suitSet (nI (c / 6))) = z
  have hin : c24 (fX1_inHands M) := fun d hd => by
    cases hq : bt (fX1_inHands M) d with
    | false => rfl
    | true =>
      obtain ⟨q, q1, q2⟩ := (inHands_bt M d).mp hq
      rw [m1 q q1, k3 q q1 d hd] at q2; cases q2
  have hz24 : c24 z := by rw [← hz]; exact c24_and (c24_or (c24_and hin) hx24)
  have hzb : ∀ d, d < 24 → (bt z d = true ↔ bt y d = true ∧ d / 6 = c / 6) := fun d hd => by
    rw [← hz, bt_and, bt_or, bt_and, bt_not _ (by omega), bt_suit (by omega) (by omega), Bool.and_eq_true, decide_eq_true_eq, hys d hd]
    refine and_congr_left (fun _ => ?_)
    rw [Bool.or_eq_true, Bool.and_eq_true, Bool.not_eq_true', inHands_bt, hx d]
    unfold Ots
    refine or_congr_left ?_
    constructor
    · rintro ⟨⟨q, q1, q2⟩, q3⟩
      rw [m1 q q1] at q2
      exact ⟨q, q1, (fun e => by rw [e, q3] at q2; cases q2), q2⟩
    · rintro ⟨q, q1, q2, q3⟩
      exact ⟨⟨q, q1, by rw [m1 q q1]; exact q3⟩, k5 q p q1 hp q2 d q3⟩
  have hTp : Tp y c ↔ ∀ d, c < d → bt z d = false := by
    unfold Tp
    constructor
    · intro t d hd
      cases hq : bt z d with
      | false => rfl
      | true =>
        have hd24 : d < 24 := by
          rcases Nat.lt_or_ge d 24 with w | w
          · exact w
          · rw [hz24 d w] at hq; cases hq
        have := (hzb d hd24).mp hq
        rw [t d hd this.2] at this; cases this.1
    · intro t d hd h6
      cases hq : bt y d with
      | false => rfl
      | true =>
        have := (hzb d (by omega)).mpr ⟨hq, h6⟩
        rw [t d hd] at this; cases this
  by_cases h0 : z = 0
  · rw [h0, high_0, if_neg]
    · exact ⟨true, rfl, fun _ => hTp.mpr (fun d _ => by rw [h0]; exact bt_0 d), fun _ => rfl⟩
    · rw [Int32.le_iff_toInt_le, nI_toInt (by omega)]
      have : (-1 : Int32).toInt = -1 := by decide
      omega
  · obtain ⟨a, ha, hab, hmax, ea⟩ := high_ex h0 hz24
    rw [ea]
    simp only [le_N (show c < 2 ^ 31 by omega) (show a < 2 ^ 31 by omega)]
    by_cases hca : c ≤ a
    · rw [if_pos hca]
      refine ⟨false, rfl, fun w => (by cases w), fun w => ?_⟩
      have h1 := (hzb a ha).mp hab
      rcases Nat.eq_or_lt_of_le hca with q | q
      · rw [← q, hyx c hb] at h1; cases h1.1
      · rw [hTp.mp w a q] at hab; cases hab
    · rw [if_neg hca]
      exact ⟨true, rfl, fun _ => hTp.mpr (fun d hd => hmax d (by omega)), fun _ => rfl⟩
theorem tops_loop {N : Mem} {y : Int32} {c : Nat} (hc : c < 24) : ∀ F m d (b : Bool), m < F → d + m = (c / 6 + 1) * 6 → c < d → (b = true ↔ ∀ e, c < e → e < d → bt y e = false) →
    ∃ b' : Bool, fX6_tops_L17 F y (b01 b) (nI d) N = some (b01 b') ∧ (b' = true ↔ Tp y c) := by
  intro F
  induction F with
  | zero => intro m d b h; omega
  | succ F ih =>
    intro m d b hm hd hcd hb
    rw [fX6_tops_L17.eq_2, im_6 (by omega)]
    simp only [show (0 : Int32) = nI 0 from rfl, le_N (show d % 6 < 2 ^ 31 by omega) (show 0 < 2 ^ 31 by omega)]
    by_cases h0 : d % 6 ≤ 0
    · rw [if_pos h0]
      refine ⟨b, rfl, hb.trans ⟨fun z e e1 e2 => z e e1 (by omega), fun z e e1 e2 => z e e1 (by omega)⟩⟩
    · rw [if_neg h0, has_eq (by omega), show (nI d + 1 : Int32) = nI (d + 1) from nI_add d 1]
      have step : ∀ b' : Bool, (b' = true ↔ b = true ∧ bt y d = false) → (b' = true ↔ ∀ e, c < e → e < d + 1 → bt y e = false) := fun b' hb' => by
        rw [hb', hb]
        constructor
        · rintro ⟨z1, z2⟩ e e1 e2
          rcases Nat.lt_or_ge e d with q | q
          · exact z1 e e1 q
          · rw [show e = d by omega]; exact z2
        · intro z
          exact ⟨fun e e1 e2 => z e e1 (by omega), z d hcd (by omega)⟩
      cases b with
      | false =>
        rw [if_pos (show b01 false = nI 0 from rfl)]
        exact ih (m - 1) (d + 1) false (by omega) (by omega) (by omega) (step false (by simp))
      | true =>
        rw [if_neg (show ¬ b01 true = nI 0 by decide)]
        cases hy : bt y d with
        | true =>
          rw [if_pos rfl, if_neg (by decide)]
          exact ih (m - 1) (d + 1) false (by omega) (by omega) (by omega) (step false (by simp [hy]))
        | false =>
          rw [if_neg (show ¬ (false = true) by decide), if_pos (show (0 : Int32) = nI 0 from rfl)]
          exact ih (m - 1) (d + 1) true (by omega) (by omega) (by omega) (step true (by simp [hy]))
theorem top_same {M N : Mem} {n : Nat} {h : Nat → Int32} {pl : Nat → Nat} (k : Lk M N n h pl) {p c : Nat} (hp : p < 4) (hc : c < 24) (hb : bt (h p) c = true) :
    ∃ b : Bool, fX3_isHighest (nI c) (nI p) M = some (b01 b) ∧ fX6_tops (nI c) N = some (b01 b) := by
  obtain ⟨y, ey, hys, hyx, -⟩ := k.oth hp
  obtain ⟨b, e1, hb1⟩ := highest_same k hp hc hb hys hyx
  obtain ⟨b', e2, hb2⟩ := tops_loop (N := N) (y := y) hc 40 ((c / 6 + 1) * 6 - (c + 1)) (c + 1) true (by omega) (by omega) (by omega) ⟨fun _ e a b => (by omega), fun _ => rfl⟩
  have hbb : b = b' := by
    cases b <;> cases b'
    · rfl
    · exact (hb1.mpr (hb2.mp rfl))
    · exact (hb2.mpr (hb1.mp rfl)).symm
    · rfl
  refine ⟨b, e1, ?_⟩
  unfold fX6_tops
  rw [(k.owner hc).1, k.the hp hc hb, ey]
  simp only [ob_s]
  rw [show (nI c + 1 : Int32) = nI (c + 1) from nI_add c 1, show (1 : Int32) = b01 true from rfl, e2, hbb]
  simp only [ob_s]
  rw [if_pos]
  cases b' <;> decide
theorem quick_loopX {M : Mem} {x : Int32} {p : Nat} {f : Nat → Bool} (hf : ∀ c, c < 24 → (bt x c = false → f c = false) ∧ (bt x c = true → fX3_isHighest (nI c) (nI p) M = some (b01 (f c)))) :
    ∀ F m c, m < F → c + m = 24 → fX3_quickTricks_L14 F (nI p) x (nI (cn f c)) (nI c) M = some (nI (cn f 24)) := by
  intro F
  induction F with
  | zero => intro m c h; omega
  | succ F ih =>
    intro m c hm hc
    rw [fX3_quickTricks_L14.eq_2]
    by_cases h24 : 24 ≤ c
    · rw [if_pos (show (24 : Int32) ≤ nI c from nI_le (a := 24) h24 (by omega)), show c = 24 by omega]
    · have go := ih (m - 1) (c + 1) (by omega) (by omega)
      have hcn : cn f (c + 1) = cn f c + (if f c then 1 else 0) := rfl
      rw [hcn] at go
      rw [if_neg (show ¬ (24 : Int32) ≤ nI c from nI_ge (b := 24) (by omega) (by omega)), fX0_holds_eq _ (by omega), show (nI c + 1 : Int32) = nI (c + 1) from nI_add c 1, show (nI (cn f c) + 1 : Int32) = nI (cn f c + 1) from nI_add _ 1]
      cases hb : bt x c with
      | false =>
        rw [(hf c (by omega)).1 hb] at go
        rw [if_neg (show ¬ (false = true) by decide), if_pos rfl]
        exact go
      | true =>
        rw [if_pos rfl, if_neg (by decide), (hf c (by omega)).2 hb]
        simp only [ob_s]
        cases hq : f c with
        | false =>
          rw [hq] at go
          rw [if_pos (show b01 false = 0 from rfl)]
          exact go
        | true =>
          rw [hq] at go
          rw [if_neg (show ¬ b01 true = 0 by decide)]
          exact go
theorem quick_loopM {N : Mem} {p : Nat} {f : Nat → Bool} (hp : p < 4) (h6 : N 0 6 = 0) (hf : ∀ c, c < 24 → (bt (N 3 p) c = false → f c = false) ∧ (bt (N 3 p) c = true → fX6_tops (nI c) N = some (b01 (f c)))) :
    ∀ F m c, m < F → c + m = 24 → fX6_quick_L22 F (nI p) (nI (cn f c)) (nI c) N = some (nI (cn f 24)) := by
  intro F
  induction F with
  | zero => intro m c h; omega
  | succ F ih =>
    intro m c hm hc
    rw [fX6_quick_L22.eq_2]
    by_cases h24 : 24 ≤ c
    · rw [if_pos (show (24 : Int32) ≤ nI c from nI_le (a := 24) h24 (by omega)), show c = 24 by omega]
    · have go := ih (m - 1) (c + 1) (by omega) (by omega)
      have hcn : cn f (c + 1) = cn f c + (if f c then 1 else 0) := rfl
      rw [hcn] at go
      rw [if_neg (show ¬ (24 : Int32) ≤ nI c from nI_ge (b := 24) (by omega) (by omega)), h6, if_pos rfl, if_pos (vin_N hp (by omega)), cl_N (by omega), has_eq (by omega), show (nI c + 1 : Int32) = nI (c + 1) from nI_add c 1, show (nI (cn f c) + 0 : Int32) = nI (cn f c + 0) from nI_add _ 0, show (nI (cn f c) + 1 : Int32) = nI (cn f c + 1) from nI_add _ 1]
      cases hb : bt (N 3 p) c with
      | false =>
        rw [(hf c (by omega)).1 hb] at go
        rw [if_neg (show ¬ (false = true) by decide), if_pos rfl]
        exact go
      | true =>
        rw [if_pos rfl, if_neg (by decide), (hf c (by omega)).2 hb]
        simp only [ob_s]
        cases hq : f c with
        | false =>
          rw [hq] at go
          rw [if_pos (show b01 false = 0 from rfl)]
          exact go
        | true =>
          rw [hq] at go
          rw [if_neg (show ¬ b01 true = 0 by decide)]
          exact go
theorem quick_same {M N : Mem} {n : Nat} {h : Nat → Int32} {pl : Nat → Nat} (k : Lk M N n h pl) (h6 : N 0 6 = 0) {p : Nat} (hp : p < 4) :
    ∃ v : Nat, fX3_quickTricks (nI p) M = some (nI v) ∧ fX6_quick_L22 40 (nI p) 0 0 N = some (nI v) := by
  have hn3 : N 3 p = h p := k.2.2.2.2.2.2.2.2.2.1 p hp
  have hex : ∃ f : Nat → Bool, ∀ c, c < 24 → (bt (h p) c = false → f c = false) ∧ (bt (h p) c = true → fX3_isHighest (nI c) (nI p) M = some (b01 (f c)) ∧ fX6_tops (nI c) N = some (b01 (f c))) := by
    have : ∀ c, ∃ b : Bool, c < 24 → (bt (h p) c = false → b = false) ∧ (bt (h p) c = true → fX3_isHighest (nI c) (nI p) M = some (b01 b) ∧ fX6_tops (nI c) N = some (b01 b)) := fun c => by
      by_cases hc : c < 24
      · cases hb : bt (h p) c with
        | false => exact ⟨false, fun _ => ⟨fun _ => rfl, fun z => (by cases z)⟩⟩
        | true =>
          obtain ⟨b, e1, e2⟩ := top_same k hp hc hb
          exact ⟨b, fun _ => ⟨fun z => (by cases z), fun _ => ⟨e1, e2⟩⟩⟩
      · exact ⟨false, fun z => absurd z hc⟩
    exact ⟨fun c => Classical.choose (this c), fun c => Classical.choose_spec (this c)⟩
  obtain ⟨f, hf⟩ := hex
  refine ⟨cn f 24, ?_, ?_⟩
  · unfold fX3_quickTricks
    rw [k.hand hp]
    have := quick_loopX (M := M) (x := h p) (p := p) (f := f) (fun c hc => ⟨(hf c hc).1, fun z => ((hf c hc).2 z).1⟩) 40 24 0 (by omega) (by omega)
    rw [show nI (cn f 0) = 0 from rfl, show (nI 0 : Int32) = 0 from rfl] at this
    rw [this, ob_s]
  · have := quick_loopM (N := N) (p := p) (f := f) hp h6 (fun c hc => ⟨fun z => (hf c hc).1 (by rw [← hn3]; exact z), fun z => ((hf c hc).2 (by rw [← hn3]; exact z)).2⟩) 40 24 0 (by omega) (by omega)
    rw [show nI (cn f 0) = 0 from rfl, show (nI 0 : Int32) = 0 from rfl] at this
    exact this
