/-! tops, quick tricks -/
/-- no higher card of the suit -/
def Tp (O : Nat → Bool) (c : Nat) : Prop := ∀ d, c < d → d / 6 = c / 6 → O d = false
theorem highest_ok {M : Mem} {n : Nat} {h : Nat → Int32} {pl : Nat → Nat} (k : Lk M n h pl) {p c : Nat} (hp : p < 4) (hc : c < 24) (hb : bt (h p) c = true) :
    ∃ b : Bool, fX3_isHighest (nI c) (nI p) M = some (b01 b) ∧ (b = true ↔ Tp (OB n h pl p) c) := by
  have hh := k.hand hp
  have hyx := (k.oth hp).1
  have hys : ∀ d, d < 24 → (OB n h pl p d = true ↔ Ots n h pl p d) := fun d _ => bq_t
  obtain ⟨k1, k2, k3, k4, k5, k6, m1, m7, m2⟩ := k
  obtain ⟨x, ex, hx24, hx⟩ := inTrick_ok m7 m2 k1 k2
  unfold fX3_isHighest
  rw [ex, hh, suitOf_N (by omega)]
  simp only [ob_s]
  generalize hz : (((fX1_inHands M &&& (h p ^^^ (-1))) ||| x) &&& fX0_suitSet (nI (c / 6))) = z
  have hin : c24 (fX1_inHands M) := fun d hd => by
    cases hq : bt (fX1_inHands M) d with
    | false => rfl
    | true =>
      obtain ⟨q, q1, q2⟩ := (inHands_bt M d).mp hq
      rw [m1 q q1, k3 q q1 d hd] at q2; cases q2
  have hz24 : c24 z := by rw [← hz]; exact c24_and (c24_or (c24_and hin) hx24)
  have hzb : ∀ d, d < 24 → (bt z d = true ↔ OB n h pl p d = true ∧ d / 6 = c / 6) := fun d hd => by
    rw [← hz, bt_and, bt_or, bt_and, bt_not _ (by omega), bt_suit (by omega) (by omega), Bool.and_eq_true, decide_eq_true_eq, hys d hd]
    refine and_congr_left (fun _ => ?_)
    rw [Bool.or_eq_true, Bool.and_eq_true, Bool.not_eq_true', inHands_bt, hx d]
    unfold Ots
    refine or_congr_left ?_
    constructor
    · rintro ⟨⟨q, q1, q2⟩, q3⟩
      rw [m1 q q1] at q2
      exact ⟨q, q1, (fun e => by rw [e, q3] at q2; cases q2), q2⟩
    · rintro ⟨q, q1, q2, q3⟩
      exact ⟨⟨q, q1, by rw [m1 q q1]; exact q3⟩, k5 q p q1 hp q2 d q3⟩
  have hTp : Tp (OB n h pl p) c ↔ ∀ d, c < d → bt z d = false := by
    unfold Tp
    constructor
    · intro t d hd
      cases hq : bt z d with
      | false => rfl
      | true =>
        have hd24 : d < 24 := by
          rcases Nat.lt_or_ge d 24 with w | w
          · exact w
          · rw [hz24 d w] at hq; cases hq
        have := (hzb d hd24).mp hq
        rw [t d hd this.2] at this; cases this.1
    · intro t d hd h6
      cases hq : OB n h pl p d with
      | false => rfl
      | true =>
        have := (hzb d (by omega)).mpr ⟨hq, h6⟩
        rw [t d hd] at this; cases this
  by_cases h0 : z = 0
  · rw [h0, high_0, if_neg]
    · exact ⟨true, rfl, fun _ => hTp.mpr (fun d _ => by rw [h0]; exact bt_0 d), fun _ => rfl⟩
    · rw [Int32.le_iff_toInt_le, nI_toInt (by omega)]
      have : (-1 : Int32).toInt = -1 := by decide
      omega
  · obtain ⟨a, ha, hab, hmax, ea⟩ := high_ex h0 hz24
    rw [ea]
    simp only [le_N (show c < 2 ^ 31 by omega) (show a < 2 ^ 31 by omega)]
    by_cases hca : c ≤ a
    · rw [if_pos hca]
      refine ⟨false, rfl, fun w => (by cases w), fun w => ?_⟩
      have h1 := (hzb a ha).mp hab
      rcases Nat.eq_or_lt_of_le hca with q | q
      · rw [← q, hyx c hb] at h1; cases h1.1
      · rw [hTp.mp w a q] at hab; cases hab
    · rw [if_neg hca]
      exact ⟨true, rfl, fun _ => hTp.mpr (fun d hd => hmax d (by omega)), fun _ => rfl⟩
theorem quick_loopX {M : Mem} {x : Int32} {p : Nat} {f : Nat → Bool} (hf : ∀ c, c < 24 → (bt x c = false → f c = false) ∧ (bt x c = true → fX3_isHighest (nI c) (nI p) M = some (b01 (f c)))) :
    ∀ F m c, m < F → c + m = 24 → fX3_quickTricks_L14 F (nI p) x (nI (cn f c)) (nI c) M = some (nI (cn f 24)) := by
  intro F
  induction F with
  | zero => intro m c h; omega
  | succ F ih =>
    intro m c hm hc
    rw [fX3_quickTricks_L14.eq_2]
    by_cases h24 : 24 ≤ c
    · rw [if_pos (show (24 : Int32) ≤ nI c from nI_le (a := 24) h24 (by omega)), show c = 24 by omega]
    · have go := ih (m - 1) (c + 1) (by omega) (by omega)
      have hcn : cn f (c + 1) = cn f c + (if f c then 1 else 0) := rfl
      rw [hcn] at go
      rw [if_neg (show ¬ (24 : Int32) ≤ nI c from nI_ge (b := 24) (by omega) (by omega)), fX0_holds_eq _ (by omega), show (nI c + 1 : Int32) = nI (c + 1) from nI_add c 1, show (nI (cn f c) + 1 : Int32) = nI (cn f c + 1) from nI_add _ 1]
      cases hb : bt x c with
      | false =>
        rw [(hf c (by omega)).1 hb] at go
        rw [if_neg (show ¬ (false = true) by decide), if_pos rfl]
        exact go
      | true =>
        rw [if_pos rfl, if_neg (by decide), (hf c (by omega)).2 hb]
        simp only [ob_s]
        cases hq : f c with
        | false =>
          rw [hq] at go
          rw [if_pos (show b01 false = 0 from rfl)]
          exact go
        | true =>
          rw [hq] at go
          rw [if_neg (show ¬ b01 true = 0 by decide)]
          exact go
noncomputable def qck (n : Nat) (h : Nat → Int32) (pl : Nat → Nat) (p : Nat) : Nat → Bool := fun c => bq (bt (h p) c = true ∧ Tp (OB n h pl p) c)
theorem quick_ok {M : Mem} {n : Nat} {h : Nat → Int32} {pl : Nat → Nat} (k : Lk M n h pl) {p : Nat} (hp : p < 4) : fX3_quickTricks (nI p) M = some (nI (cn (qck n h pl p) 24)) := by
  unfold fX3_quickTricks
  rw [k.hand hp]
  have := quick_loopX (M := M) (x := h p) (p := p) (f := qck n h pl p) (fun c hc => ⟨fun hb => bq_f.mpr (fun z => by rw [hb] at z; cases z.1), fun hb => by
    obtain ⟨b, e1, hb1⟩ := highest_ok k hp hc hb
    rw [e1]
    congr 2
    cases hq : qck n h pl p c with
    | true => exact hb1.mpr (bq_t.mp hq).2
    | false =>
      cases b with
      | false => rfl
      | true => exact absurd ⟨hb, hb1.mp rfl⟩ (bq_f.mp hq)⟩) 40 24 0 (by omega) (by omega)
  rw [show nI (cn (qck n h pl p) 0) = 0 from rfl, show (nI 0 : Int32) = 0 from rfl] at this
  rw [this, ob_s]
