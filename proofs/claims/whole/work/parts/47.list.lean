/-! the reference's list of cards -/
theorem cn_mono (f : Nat → Bool) {a b : Nat} (h : a ≤ b) : cn f a ≤ cn f b := by
  induction b with
  | zero => have : a = 0 := by omega
            subst this; exact Nat.le_refl _
  | succ b ih =>
    by_cases hab : a = b + 1
    · subst hab; exact Nat.le_refl _
    · have := ih (by omega)
      simp only [cn]; split <;> omega
theorem cn_rank (f : Nat → Bool) : ∀ n i, i < cn f n → ∃ c, c < n ∧ f c = true ∧ cn f c = i := by
  intro n
  induction n with
  | zero => intro i h; exact absurd h (Nat.not_lt_zero _)
  | succ n ih =>
    intro i h
    simp only [cn] at h
    by_cases hi : i < cn f n
    · obtain ⟨c, h1, h2⟩ := ih i hi; exact ⟨c, by omega, h2⟩
    · by_cases hf : f n = true
      · rw [if_pos hf] at h; exact ⟨n, by omega, hf, by omega⟩
      · rw [if_neg hf] at h; omega
theorem cn_lt {f : Nat → Bool} {c n : Nat} (hc : c < n) (hf : f c = true) : cn f c < cn f n := by
  have := cn_mono f (show c + 1 ≤ n by omega)
  simp only [cn] at this
  rw [if_pos hf] at this; omega
theorem L14_loop {B : Mem} {p : Nat} {H x0 : Int32} (hp : p < 4) (h24 : c24 H) (h4 : cnt H ≤ 4) (hB : B 3 p = H) :
    ∀ (F m c : Nat) (x : Int32) (M : Mem), m < F → c + m = 24 → (∀ j, bt x j = (bt x0 j || (decide (4 * p ≤ j) && decide (j < 4 * p + cn (bt H) c)))) → (∀ c', c' < c → bt H c' = true → M 6 (4 * p + cn (bt H) c') = nI c') → (∀ i, i ≠ 6 → M i = B i) → (∀ j, ¬ (4 * p ≤ j ∧ j < 4 * p + 4) → M 6 j = B 6 j) →
      ∃ x' M', fX6_layList_L14 F x (nI p) (nI (cn (bt H) c)) (nI c) M = some (x', M') ∧ (∀ j, bt x' j = (bt x0 j || (decide (4 * p ≤ j) && decide (j < 4 * p + cnt H)))) ∧ (∀ c', c' < 24 → bt H c' = true → M' 6 (4 * p + cn (bt H) c') = nI c') ∧ (∀ i, i ≠ 6 → M' i = B i) ∧ ∀ j, ¬ (4 * p ≤ j ∧ j < 4 * p + 4) → M' 6 j = B 6 j := by
  intro F
  induction F with
  | zero => intro m c x M h; omega
  | succ F ih =>
    intro m c x M hm hc hx hM hi hj
    rw [fX6_layList_L14.eq_2]
    by_cases hc24 : 24 ≤ c
    · rw [if_pos (show (24 : Int32) ≤ nI c from nI_le (a := 24) hc24 (by omega))]
      have : c = 24 := by omega
      subst this
      exact ⟨x, M, rfl, hx, hM, hi, hj⟩
    · rw [if_neg (show ¬ (24 : Int32) ≤ nI c from nI_ge (b := 24) (by omega) (by omega)), if_pos (vin_N hp (by omega)), cl_N (by omega), hi 3 (by decide), hB, has_eq (by omega), show (nI c + 1 : Int32) = nI (c + 1) from nI_add c 1]
      by_cases hb : bt H c = true
      · have hcn1 : cn (bt H) (c + 1) = cn (bt H) c + 1 := by simp only [cn]; rw [if_pos hb]
        have hlt : cn (bt H) c < cnt H := cn_lt (by omega) hb
        rw [if_pos hb, if_neg (by decide), show (4 : Int32) * nI p = nI (4 * p) from pk_mul 4 p, nI_add, if_pos (vin_N (by omega) (by omega)), cl_N (by omega), show (nI (cn (bt H) c) + 1 : Int32) = nI (cn (bt H) (c + 1)) from by rw [hcn1]; exact nI_add _ 1]
        refine ih (m - 1) (c + 1) _ _ (by omega) (by omega) (fun j => ?_) (fun c' hc' hb' => ?_) (fun i hi6 => ?_) (fun j hj' => ?_)
        · rw [bt_addc (by omega), hx j, hcn1]
          by_cases e : j = 4 * p + cn (bt H) c
          · subst e; simp
          · by_cases l : 4 * p ≤ j
            · by_cases l2 : j < 4 * p + cn (bt H) c
              · simp [e, l, l2, show j < 4 * p + (cn (bt H) c + 1) by omega]
              · simp [e, l, l2, show ¬ j < 4 * p + (cn (bt H) c + 1) by omega]
            · simp [e, l]
        · rw [mset_at]
          by_cases e : c' = c
          · subst e; rw [if_pos ⟨rfl, rfl⟩]
          · have := cn_lt (f := bt H) (show c' < c by omega) hb'
            rw [if_neg (fun z => by omega)]; exact hM c' (by omega) hb'
        · rw [← hi i hi6]; funext b; rw [mset_at, if_neg (fun z => hi6 z.1)]
        · rw [mset_at, if_neg (fun z => by omega)]; exact hj j hj'
      · have hcn1 : cn (bt H) (c + 1) = cn (bt H) c := by simp only [cn]; rw [if_neg hb]; rfl
        rw [if_neg hb, if_pos rfl, ← hcn1]
        exact ih (m - 1) (c + 1) _ _ (by omega) (by omega) (fun j => by rw [hx j, hcn1]) (fun c' hc' hb' => by
          by_cases e : c' = c
          · subst e; exact absurd hb' hb
          · exact hM c' (by omega) hb') hi hj
def LstAt (B : Mem) (p : Nat) (x : Int32) (M : Mem) : Prop :=
  (∀ j, bt x j = (decide (j / 4 < p) && decide (j % 4 < cnt (B 3 (j / 4))))) ∧ (∀ q, q < p → ∀ c, c < 24 → bt (B 3 q) c = true → M 6 (4 * q + cn (bt (B 3 q)) c) = nI c) ∧ ∀ i, i ≠ 6 → M i = B i
theorem L4_loop {B : Mem} (h24 : ∀ p, p < 4 → c24 (B 3 p)) (h4 : ∀ p, p < 4 → cnt (B 3 p) ≤ 4) :
    ∀ (F m p : Nat) (x : Int32) (M : Mem), m < F → p + m = 4 → LstAt B p x M → ∃ x' M', fX6_layList_L4 F x (nI p) M = some (x', M') ∧ LstAt B 4 x' M' := by
  intro F
  induction F with
  | zero => intro m p x M h; omega
  | succ F ih =>
    intro m p x M hm hp hL
    rw [fX6_layList_L4.eq_2]
    by_cases hp4 : 4 ≤ p
    · rw [if_pos (show (4 : Int32) ≤ nI p from nI_le (a := 4) hp4 (by omega))]
      have : p = 4 := by omega
      subst this
      exact ⟨x, M, rfl, hL⟩
    · rw [if_neg (show ¬ (4 : Int32) ≤ nI p from nI_ge (b := 4) (by omega) (by omega)), show (nI p + 1 : Int32) = nI (p + 1) from nI_add p 1]
      obtain ⟨l1, l2, l3⟩ := hL
      have hM3 : M 3 p = B 3 p := by rw [l3 3 (by decide)]
      have hcp := h4 p (by omega)
      obtain ⟨x', M', e, a1, a2, a3, a4⟩ := L14_loop (B := M) (H := B 3 p) (x0 := x) (show p < 4 by omega) (h24 p (by omega)) hcp hM3 40 24 0 x M (by omega) (by omega) (fun j => by
        have hz : cn (bt (B 3 p)) 0 = 0 := rfl
        rw [hz]
        by_cases l : 4 * p ≤ j
        · rw [decide_eq_false (show ¬ j < 4 * p + 0 by omega)]; simp
        · simp [l]) (fun c' h => by omega) (fun _ _ => rfl) (fun _ _ => rfl)
      have e' : fX6_layList_L14 40 x (nI p) 0 0 M = some (x', M') := e
      rw [e']
      refine ih (m - 1) (p + 1) x' M' (by omega) (by omega) ⟨fun j => ?_, fun q hq c hc hb => ?_, fun i hi => by rw [a3 i hi, l3 i hi]⟩
      · rw [a1 j, l1 j]
        rcases Nat.lt_trichotomy (j / 4) p with y | y | y
        · simp [y, show j / 4 < p + 1 by omega, show ¬ 4 * p ≤ j by omega]
        · rw [← y] at hcp
          rw [← y]
          by_cases z : j % 4 < cnt (B 3 (j / 4))
          · simp [z, show 4 * (j / 4) ≤ j by omega, show j < 4 * (j / 4) + cnt (B 3 (j / 4)) by omega]
          · simp [z, show ¬ j < 4 * (j / 4) + cnt (B 3 (j / 4)) by omega]
        · simp [show ¬ j / 4 < p by omega, show ¬ j / 4 < p + 1 by omega, show ¬ j < 4 * p + cnt (B 3 p) by omega]
      · by_cases hqp : q = p
        · subst hqp; exact a2 c hc hb
        · have := cn_lt (f := bt (B 3 q)) (show c < 24 from hc) hb
          have h5 := h4 q (by omega)
          have h6 : cn (bt (B 3 q)) 24 = cnt (B 3 q) := rfl
          rw [a4 _ (by omega)]
          exact l2 q (by omega) c hc hb
theorem layList_ok {M : Mem} (h24 : ∀ p, p < 4 → c24 (M 3 p)) (h4 : ∀ p, p < 4 → cnt (M 3 p) ≤ 4) :
    ∃ (x : Int32) (M' : Mem) (lst : Nat → Nat), fX6_layList M = some (x, M') ∧ LK lst x ∧ (∀ j, bt x j = true → M' 6 j = nI (lst j)) ∧ (∀ p, p < 4 → ∀ c, c < 24 → HM lst x p c = bt (M 3 p) c) ∧ (∀ p, p < 4 → c4 x p = cnt (M 3 p)) ∧ ∀ i, i ≠ 6 → M' i = M i := by
  obtain ⟨x, M', e, l1, l2, l3⟩ := L4_loop h24 h4 40 4 0 0 M (by omega) (by omega) ⟨fun j => by rw [bt_0]; simp, fun q hq => by omega, fun _ _ => rfl⟩
  have hb : ∀ p i, p < 4 → i < 4 → bt x (4 * p + i) = decide (i < cnt (M 3 p)) := fun p i hp hi => by
    rw [l1, show (4 * p + i) / 4 = p by omega, show (4 * p + i) % 4 = i by omega]; simp [hp]
  have hat : ∀ p i, p < 4 → i < 4 → bt x (4 * p + i) = true → ∃ c, c < 24 ∧ bt (M 3 p) c = true ∧ cn (bt (M 3 p)) c = i ∧ M' 6 (4 * p + i) = nI c := by
    intro p i hp hi hx
    rw [hb p i hp hi] at hx
    obtain ⟨c, h1, h2, h3⟩ := cn_rank (bt (M 3 p)) 24 i (of_decide_eq_true hx)
    exact ⟨c, h1, h2, h3, by rw [← h3]; exact l2 p hp c h1 h2⟩
  have hj16 : ∀ j, bt x j = true → j / 4 < 4 := fun j hj => by
    rw [l1] at hj; simp only [Bool.and_eq_true, decide_eq_true_eq] at hj; exact hj.1
  have hlst : ∀ p i, p < 4 → i < 4 → bt x (4 * p + i) = true → ∃ c, c < 24 ∧ bt (M 3 p) c = true ∧ cn (bt (M 3 p)) c = i ∧ (M' 6 (4 * p + i)).toNatClampNeg = c ∧ M' 6 (4 * p + i) = nI c := by
    intro p i hp hi hx
    obtain ⟨c, h1, h2, h3, h5⟩ := hat p i hp hi hx
    exact ⟨c, h1, h2, h3, by rw [h5, cl_N (by omega)], h5⟩
  have hsp : ∀ j, j = 4 * (j / 4) + j % 4 := fun j => by omega
  refine ⟨x, M', fun j => (M' 6 j).toNatClampNeg, ?_, ⟨fun c hc => ?_, fun j hj => ?_, fun p i j hp hi hj h1 h2 h3 => ?_⟩, fun j hj => ?_, fun p hp c hc => ?_, fun p hp => ?_, l3⟩
  · unfold fX6_layList
    have e' : fX6_layList_L4 40 0 0 M = some (x, M') := e
    rw [e']; rfl
  · cases hz : bt x c with
    | false => rfl
    | true => have := hj16 c hz; omega
  · have h1 := hj16 j hj
    obtain ⟨c, a1, -, -, a4, -⟩ := hlst (j / 4) (j % 4) h1 (Nat.mod_lt _ (by decide)) (by rw [← hsp]; exact hj)
    rw [← hsp] at a4
    show (M' 6 j).toNatClampNeg < 24
    omega
  · obtain ⟨c, a1, a2, a3, a4, -⟩ := hlst p i hp hi h1
    obtain ⟨c', b1, b2, b3, b4, -⟩ := hlst p j hp hj h2
    have : (M' 6 (4 * p + i)).toNatClampNeg = (M' 6 (4 * p + j)).toNatClampNeg := h3
    have hcc : c = c' := by omega
    subst hcc; omega
  · have h1 := hj16 j hj
    obtain ⟨c, a1, -, -, a4, a5⟩ := hlst (j / 4) (j % 4) h1 (Nat.mod_lt _ (by decide)) (by rw [← hsp]; exact hj)
    rw [← hsp] at a4 a5
    show M' 6 j = nI (M' 6 j).toNatClampNeg
    rw [a4]; exact a5
  · cases hz : bt (M 3 p) c with
    | true =>
      have h5 := cn_lt (f := bt (M 3 p)) hc hz
      have h6 := h4 p hp
      have h7 : cn (bt (M 3 p)) 24 = cnt (M 3 p) := rfl
      refine HM_iff.mpr ⟨cn (bt (M 3 p)) c, by omega, by rw [hb p _ hp (by omega)]; exact decide_eq_true (by omega), ?_⟩
      show (M' 6 (4 * p + cn (bt (M 3 p)) c)).toNatClampNeg = c
      rw [l2 p hp c hc hz, cl_N (by omega)]
    | false =>
      cases hy : HM (fun j => (M' 6 j).toNatClampNeg) x p c with
      | false => rfl
      | true =>
        obtain ⟨i, hi, h1, h2⟩ := HM_iff.mp hy
        obtain ⟨c', b1, b2, b3, b4, -⟩ := hlst p i hp hi h1
        have h2' : (M' 6 (4 * p + i)).toNatClampNeg = c := h2
        have : c' = c := by omega
        subst this; rw [hz] at b2; cases b2
  · have h6 := h4 p hp
    unfold c4
    rw [cn_congr 4 (g := fun i => decide (i < cnt (M 3 p))) (fun i hi => hb p i hp hi)]
    generalize cnt (M 3 p) = k at h6
    have : ∀ k : Fin 5, cn (fun i => decide (i < k.val)) 4 = k.val := by decide
    exact this ⟨k, by omega⟩
