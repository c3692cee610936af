/-! small ints -/
theorem im_N {a d : Nat} (ha : a < 2 ^ 31) (h0 : 0 < d) (hd : d < 2 ^ 31) : im (nI a) (nI d) = nI (a % d) := pk_rem ha h0 hd
theorem im_4 {a : Nat} (ha : a < 2 ^ 31) : im (nI a) 4 = nI (a % 4) := im_N (d := 4) ha (by decide) (by decide)
theorem im_2 {a : Nat} (ha : a < 2 ^ 31) : im (nI a) 2 = nI (a % 2) := im_N (d := 2) ha (by decide) (by decide)
theorem im_6 {a : Nat} (ha : a < 2 ^ 31) : im (nI a) 6 = nI (a % 6) := im_N (d := 6) ha (by decide) (by decide)
theorem dv_4 {a : Nat} (ha : a < 2 ^ 31) : nI a / 4 = nI (a / 4) := pk_div (d := 4) ha (by decide) (by decide)
theorem dv_6 {a : Nat} (ha : a < 2 ^ 31) : nI a / 6 = nI (a / 6) := pk_div (d := 6) ha (by decide) (by decide)
theorem eq_N {a b : Nat} (ha : a < 2 ^ 31) (hb : b < 2 ^ 31) : (nI a = nI b) = (a = b) := propext (nI_eq ha hb)
theorem lt_N {a b : Nat} (ha : a < 2 ^ 31) (hb : b < 2 ^ 31) : (nI a < nI b) = (a < b) := propext (nI_ltI ha hb)
theorem le_N {a b : Nat} (ha : a < 2 ^ 31) (hb : b < 2 ^ 31) : (nI a ≤ nI b) = (a ≤ b) := propext (nI_leI ha hb)
theorem nn_N {a : Nat} (ha : a < 2 ^ 31) : ¬ nI a < 0 := nI_pos ha
theorem cl_N {a : Nat} (ha : a < 2 ^ 31) : (nI a).toNatClampNeg = a := nI_clamp ha
theorem vin_N {a n : Nat} (h : a < n) (hn : n < 2 ^ 31) : vin (nI a) n = true := vin_g (nn_N (by omega)) (by rw [cl_N (by omega)]; exact h)
theorem ne_m1 {a : Nat} (ha : a < 2 ^ 31) : ¬ nI a = -1 := by
  intro h
  have := nn_N ha
  rw [h] at this
  exact this (by decide)
/-- trump: a suit, or none (4) -/
def tv (τ : Nat) : Int32 := if τ < 4 then nI τ else -1
theorem tv_eq {τ u : Nat} (hτ : τ ≤ 4) (hu : u < 4) : (nI u = tv τ) = (u = τ) := by
  unfold tv
  by_cases h : τ < 4
  · rw [if_pos h]; exact eq_N (by omega) (by omega)
  · rw [if_neg h]
    have : u ≠ τ := by omega
    simp only [this, eq_iff_iff, iff_false]
    exact ne_m1 (by omega)
/-- how many cards -/
def cn (f : Nat → Bool) : Nat → Nat
  | 0 => 0
  | n + 1 => cn f n + (if f n then 1 else 0)
theorem cn_congr {f g : Nat → Bool} : ∀ n, (∀ c, c < n → f c = g c) → cn f n = cn g n := by
  intro n
  induction n with
  | zero => intro _; rfl
  | succ n ih => intro h; simp only [cn]; rw [ih (fun c hc => h c (by omega)), h n (by omega)]
theorem cn_pos {f : Nat → Bool} : ∀ n, 0 < cn f n → ∃ c, c < n ∧ f c = true := by
  intro n
  induction n with
  | zero => intro h; simp [cn] at h
  | succ n ih =>
    intro h
    simp only [cn] at h
    by_cases hf : f n = true
    · exact ⟨n, by omega, hf⟩
    · rw [if_neg hf] at h
      obtain ⟨c, hc, h2⟩ := ih (by omega)
      exact ⟨c, by omega, h2⟩
theorem cn_zero {f : Nat → Bool} : ∀ n, cn f n = 0 → ∀ c, c < n → f c = false := by
  intro n
  induction n with
  | zero => intro _ c hc; omega
  | succ n ih =>
    intro h c hc
    simp only [cn] at h
    by_cases hf : f n = true
    · rw [if_pos hf] at h; omega
    · rcases Nat.lt_succ_iff_lt_or_eq.mp hc with h1 | rfl
      · exact ih (by omega) c h1
      · cases hq : f c; rfl; exact absurd hq hf
theorem cn_all0 {f : Nat → Bool} : ∀ n, (∀ c, c < n → f c = false) → cn f n = 0 := by
  intro n
  induction n with
  | zero => intro _; rfl
  | succ n ih => intro h; simp only [cn]; rw [ih (fun c hc => h c (by omega)), h n (by omega)]; rfl
theorem cn_rem {f g : Nat → Bool} {d : Nat} (hd : f d = true) (hg : ∀ c, g c = if c = d then false else f c) : ∀ n, cn g n + (if d < n then 1 else 0) = cn f n := by
  intro n
  induction n with
  | zero => simp [cn]
  | succ n ih =>
    simp only [cn]
    rw [hg n]
    by_cases hn : n = d
    · subst hn
      rw [if_pos rfl, hd]
      rw [if_neg (by omega)] at ih
      simp; omega
    · rw [if_neg hn]
      by_cases h1 : d < n
      · rw [if_pos h1] at ih; rw [if_pos (show d < n + 1 by omega)]; omega
      · rw [if_neg h1] at ih; rw [if_neg (show ¬ d < n + 1 by omega)]; omega
abbrev cnt (x : Int32) : Nat := cn (bt x) 24
theorem cnt_rem {x : Int32} {d : Nat} (hd : d < 24) (h : bt x d = true) : cnt (x &&& (sl 1 (nI d) ^^^ (-1))) + 1 = cnt x := by
  have := cn_rem (f := bt x) (g := fun c => if c = d then false else bt x c) h (fun c => rfl) 24
  rw [if_pos hd] at this
  show cn _ 24 + 1 = cn (bt x) 24
  rw [← this]
  congr 1
  apply cn_congr
  intro c hc
  rw [bt_and, bt_not _ (by omega), bt_one hd]
  by_cases hcd : c = d
  · simp [hcd]
  · simp [hcd]
theorem bt_rem {x : Int32} {d : Nat} (hd : d < 24) {c : Nat} (hc : c < 32) : bt (x &&& (sl 1 (nI d) ^^^ (-1))) c = (bt x c && !decide (c = d)) := by
  rw [bt_and, bt_not _ hc, bt_one hd]
theorem bt_addc {x : Int32} {d : Nat} (hd : d < 24) (c : Nat) : bt (x ||| sl 1 (nI d)) c = (bt x c || decide (c = d)) := by
  rw [bt_or, bt_one hd]
/-- a suit's cards -/
theorem bt_suit {u c : Nat} (hu : u < 4) (hc : c < 32) : bt (fX0_suitSet (nI u)) c = decide (c / 6 = u) := by
  have : ∀ u : Fin 4, ∀ c : Fin 32, bt (fX0_suitSet (nI u.val)) c.val = decide (c.val / 6 = u.val) := by decide +kernel
  exact this ⟨u, hu⟩ ⟨c, hc⟩
theorem suitOf_N {c : Nat} (hc : c < 2 ^ 31) : fX0_suitOf (nI c) = nI (c / 6) := by unfold fX0_suitOf; exact dv_6 hc
/-- the class's memory, and the game that it holds -/
def Rep (M : Mem) (τ T n : Nat) (h : Nat → Int32) (pl ld : Nat → Nat) : Prop :=
  M 0 3 = tv τ ∧ M 0 5 = 1 ∧ M 0 6 = nI T ∧ M 0 7 = nI n ∧ (∀ p, p < 4 → M 1 p = h p) ∧ (∀ k, k < n → M 2 k = nI (pl k)) ∧ (∀ j, j ≤ n / 4 → M 3 j = nI (ld j))
def Hs (h : Nat → Int32) : Nat → Nat → Bool := fun p c => bt (h p) c
def ts (n : Nat) (pl : Nat → Nat) : Nat → Nat := fun i => pl (n - n % 4 + i)
def mv (n : Nat) (ld : Nat → Nat) : Nat := (ld (n / 4) + n % 4) % 4
def WF (τ T n : Nat) (h : Nat → Int32) (pl ld : Nat → Nat) : Prop :=
  τ ≤ 4 ∧ T ≤ 4 ∧ n ≤ 4 * T ∧ (∀ p, p < 4 → c24 (h p)) ∧ (∀ k, k < n → pl k < 24) ∧ (∀ j, j ≤ n / 4 → ld j < 4) ∧
  (∀ p q, p < 4 → q < 4 → p ≠ q → ∀ c, bt (h p) c = true → bt (h q) c = false) ∧
  (∀ j, j < 4 → cnt (h ((ld (n / 4) + j) % 4)) + (if j < n % 4 then 1 else 0) = T - n / 4) ∧
  (∀ i, i < n % 4 → ∀ p, p < 4 → bt (h p) (pl (n - n % 4 + i)) = false)
section RP
variable {M : Mem} {τ T n : Nat} {h : Nat → Int32} {pl ld : Nat → Nat}
theorem R_trickSize (r : Rep M τ T n h pl ld) (w : WF τ T n h pl ld) : fX1_trickSize M = nI (n % 4) := by
  obtain ⟨-, -, -, r7, -⟩ := r
  obtain ⟨-, w2, w3, -⟩ := w
  unfold fX1_trickSize; rw [r7]; exact im_4 (by omega)
theorem R_tricksOver (r : Rep M τ T n h pl ld) (w : WF τ T n h pl ld) : fX1_tricksOver M = nI (n / 4) := by
  obtain ⟨-, -, -, r7, -⟩ := r
  obtain ⟨-, w2, w3, -⟩ := w
  unfold fX1_tricksOver; rw [r7]; exact dv_4 (by omega)
theorem R_cardsLeft (r : Rep M τ T n h pl ld) (w : WF τ T n h pl ld) : fX1_cardsLeft M = nI (4 * T - n) := by
  obtain ⟨-, -, r6, r7, -⟩ := r
  obtain ⟨-, w2, w3, -⟩ := w
  unfold fX1_cardsLeft; rw [r6, r7]
  rw [show nI T * 4 = nI (T * 4) from pk_mul T 4, pk_sub (by omega)]
  congr 1; omega
theorem R_tricksLeft (r : Rep M τ T n h pl ld) (w : WF τ T n h pl ld) : fX1_tricksLeft M = nI (T - n / 4) := by
  unfold fX1_tricksLeft; rw [R_tricksOver r w]
  obtain ⟨-, -, r6, r7, -⟩ := r
  obtain ⟨-, w2, w3, -⟩ := w
  rw [r6, pk_sub (by omega)]
theorem R_leaderOf (r : Rep M τ T n h pl ld) (w : WF τ T n h pl ld) {j : Nat} (hj : j ≤ n / 4) : fX1_leaderOf (nI j) M = nI (ld j) := by
  obtain ⟨-, -, -, -, -, -, r3⟩ := r
  obtain ⟨-, w2, w3, -⟩ := w
  unfold fX1_leaderOf
  rw [if_neg (nn_N (by omega)), if_neg (show ¬ (5 : Int32) ≤ nI j from nI_ge (b := 5) (by omega) (by omega)), cl_N (by omega)]
  exact r3 j hj
theorem R_mover (r : Rep M τ T n h pl ld) (w : WF τ T n h pl ld) (hn : n < 4 * T) : fX1_mover M = nI (mv n ld) := by
  unfold fX1_mover
  rw [R_cardsLeft r w, R_tricksOver r w, R_leaderOf r w (Nat.le_refl _), R_trickSize r w]
  obtain ⟨-, r5, -⟩ := r
  obtain ⟨-, w2, w3, -, -, w6, -⟩ := w
  have := w6 _ (Nat.le_refl _)
  rw [r5, if_neg (by decide), if_pos (show (0 : Int32) < nI (4 * T - n) from nI_lt (a := 0) (by omega) (by omega)), nI_add, im_4 (by omega)]
  rfl
theorem R_mover0 (r : Rep M τ T n h pl ld) (w : WF τ T n h pl ld) (hn : n = 4 * T) : fX1_mover M = -1 := by
  unfold fX1_mover
  rw [R_cardsLeft r w]
  obtain ⟨-, r5, -⟩ := r
  rw [r5, if_neg (by decide), if_neg]
  rw [show 4 * T - n = 0 by omega]; decide
theorem R_laidAt (r : Rep M τ T n h pl ld) (w : WF τ T n h pl ld) {k : Nat} (hk : k < n) : fX1_laidAt (nI k) M = nI (pl k) := by
  obtain ⟨-, -, -, -, -, r2, -⟩ := r
  obtain ⟨-, w2, w3, -⟩ := w
  unfold fX1_laidAt
  rw [if_neg (nn_N (by omega)), if_neg (show ¬ (16 : Int32) ≤ nI k from nI_ge (b := 16) (by omega) (by omega)), cl_N (by omega)]
  exact r2 k hk
theorem R_trickCard (r : Rep M τ T n h pl ld) (w : WF τ T n h pl ld) {i : Nat} (hi : i < n % 4) : fX1_trickCard (nI i) M = nI (pl (n - n % 4 + i)) := by
  unfold fX1_trickCard
  rw [R_trickSize r w]
  have hr := R_laidAt r w (k := n - n % 4 + i) (by omega)
  obtain ⟨-, -, -, r7, -⟩ := r
  obtain ⟨-, w2, w3, -⟩ := w
  rw [r7, pk_sub (by omega), nI_add]
  exact hr
theorem R_handOf (r : Rep M τ T n h pl ld) {p : Nat} (hp : p < 4) : fX1_handOf (nI p) M = h p := by
  obtain ⟨-, -, -, -, r1, -⟩ := r
  unfold fX1_handOf
  rw [if_neg (nn_N (by omega)), if_neg (show ¬ (4 : Int32) ≤ nI p from nI_ge (b := 4) (by omega) (by omega)), cl_N (by omega)]
  exact r1 p hp
theorem mv_lt (n : Nat) (ld : Nat → Nat) : mv n ld < 4 := Nat.mod_lt _ (by decide)
/-- the cards that can be played -/
theorem R_playable (r : Rep M τ T n h pl ld) (w : WF τ T n h pl ld) (hn : n < 4 * T) : c24 (fX1_playable M) ∧ ∀ c, c < 24 → bt (fX1_playable M) c = legal (Hs h (mv n ld)) (n % 4) (ts n pl) c := by
  unfold fX1_playable
  rw [R_mover r w hn, R_handOf r (mv_lt n ld), R_trickSize r w]
  have hc := w.2.2.2.1 _ (mv_lt n ld)
  by_cases hk : n % 4 = 0
  · rw [hk, if_pos (show nI 0 = 0 from rfl)]
    exact ⟨hc, fun c h => by simp [legal, Hs]⟩
  · rw [if_neg (by rw [show (0 : Int32) = nI 0 from rfl, eq_N (by omega) (by omega)]; exact hk)]
    have h0 := R_trickCard r w (i := 0) (by omega)
    rw [show fX1_trickCard 0 M = nI (pl (n - n % 4 + 0)) from h0]
    have hp0 : pl (n - n % 4 + 0) < 24 := w.2.2.2.2.1 _ (by omega)
    rw [suitOf_N (by omega)]
    have ht0 : ts n pl 0 = pl (n - n % 4 + 0) := rfl
    generalize hu : pl (n - n % 4 + 0) / 6 = u
    have hu4 : u < 4 := by omega
    have hbit : ∀ c, c < 24 → bt (h (mv n ld) &&& fX0_suitSet (nI u)) c = (bt (h (mv n ld)) c && decide (c / 6 = u)) := fun c hc => by rw [bt_and, bt_suit hu4 (by omega)]
    by_cases hz : h (mv n ld) &&& fX0_suitSet (nI u) = 0
    · rw [if_pos hz]
      refine ⟨hc, fun c hc24 => ?_⟩
      have hany : anyS (Hs h (mv n ld)) u = false := by
        cases hq : anyS (Hs h (mv n ld)) u with
        | false => rfl
        | true =>
          obtain ⟨d, h1, h2, h3⟩ := anyS_iff.mp hq
          have := hbit d h1
          rw [hz, bt_0] at this
          have h2' : bt (h (mv n ld)) d = true := h2
          rw [h2', h3] at this; simp at this
      unfold legal
      rw [ht0, hu, hany]
      simp [Hs]
    · rw [if_neg hz]
      refine ⟨c24_and hc, fun c hc24 => ?_⟩
      have hany : anyS (Hs h (mv n ld)) u = true := by
        obtain ⟨d, h1, h2⟩ := bt_ne0 hz
        rcases Nat.lt_or_ge d 24 with q | q
        · rw [hbit d q] at h2
          simp only [Bool.and_eq_true, decide_eq_true_eq] at h2
          exact anyS_iff.mpr ⟨d, q, h2.1, h2.2⟩
        · rw [bt_and, hc d q] at h2; cases h2
      rw [hbit c hc24]
      unfold legal
      rw [ht0, hu, hany]
      simp [hk, Hs]
end RP
