/-! the reference's counting -/
theorem bt_sr {x : Int32} {c i : Nat} (hc : c < 32) (hi : c + i < 32) : bt (sr x (nI c)) i = bt x (c + i) := by
  have h1 : (sr x (nI c)).toBitVec = x.toBitVec.sshiftRight c := by
    have : ∀ c : Fin 32, (((nI c.val &&& 31).toBitVec).smod 32#32).toNat = c.val := by decide +kernel
    have h2 := this ⟨c, hc⟩
    unfold sr
    rw [Int32.toBitVec_shiftRight]
    show x.toBitVec.sshiftRight (((nI c &&& 31).toBitVec).smod 32#32).toNat = _
    rw [h2]
  unfold bt
  rw [h1, BitVec.getLsbD_sshiftRight]
  simp [hi]
  omega
theorem and1 (y : Int32) : (y &&& 1 = 1) ↔ bt y 0 = true := by
  have b1 : ∀ c, bt 1 c = decide (c = 0) := fun c => by
    have := bt_pow (c := 1) (by omega) c
    rw [show (1 : Int32) = nI (2 ^ 1 - 1) from rfl, this]
    simp
  constructor
  · intro h
    have := congrArg (fun z => bt z 0) h
    simp only [bt_and, b1] at this
    simpa using this
  · intro h
    apply bt_ext; intro c _
    rw [bt_and, b1]
    by_cases hc : c = 0
    · subst hc; simp [h]
    · simp [hc]
theorem has_eq {x : Int32} {c : Nat} (hc : c < 32) : fX6_has x (nI c) = if bt x c then 1 else 0 := by
  unfold fX6_has
  have := and1 (sr x (nI c))
  rw [bt_sr hc (by omega)] at this
  by_cases h : bt x c = true
  · rw [if_pos (this.mpr h), if_pos h]
  · rw [if_neg (fun z => h (this.mp z)), if_neg h]
theorem size_loop {x : Int32} : ∀ F m c, m < F → c + m = 24 → fX6_size_L4 F x (nI (cn (bt x) c)) (nI c) = some (nI (cnt x)) := by
  intro F
  induction F with
  | zero => intro m c h; omega
  | succ F ih =>
    intro m c hm hk
    rw [fX6_size_L4.eq_2]
    have hl := cn_le (bt x) c
    by_cases hc : 24 ≤ c
    · rw [if_pos (show (24 : Int32) ≤ nI c from nI_le (a := 24) hc (by omega))]
      have : c = 24 := by omega
      subst this; rfl
    · rw [if_neg (show ¬ (24 : Int32) ≤ nI c from nI_ge (b := 24) (by omega) (by omega)), has_eq (by omega), show (nI c + 1 : Int32) = nI (c + 1) from nI_add c 1]
      have := ih (m - 1) (c + 1) (by omega) (by omega)
      simp only [cn] at this
      by_cases hb : bt x c = true
      · rw [if_pos hb] at this
        rw [if_pos hb, if_neg (by decide), show (nI (cn (bt x) c) + 1 : Int32) = nI (cn (bt x) c + 1) from nI_add _ 1]; exact this
      · rw [if_neg hb] at this
        rw [if_neg hb, if_pos rfl, show (nI (cn (bt x) c) + 0 : Int32) = nI (cn (bt x) c + 0) from nI_add _ 0]; exact this
theorem size_ok (x : Int32) : fX6_size x = some (nI (cnt x)) := by
  unfold fX6_size
  have := size_loop (x := x) 40 24 0 (by omega) (by omega)
  rw [show fX6_size_L4 40 x 0 0 = some (nI (cnt x)) from this]; rfl
theorem nI_idx (y : Int32) : y = nI y.toBitVec.toNat := by
  apply Int32.toBitVec_inj.mp
  apply BitVec.eq_of_toNat_eq
  have : (nI y.toBitVec.toNat).toBitVec = BitVec.ofNat 32 y.toBitVec.toNat := rfl
  rw [this, BitVec.toNat_ofNat, Nat.mod_eq_of_lt y.toBitVec.isLt]
theorem idx_lt {x : Int32} {n : Nat} (h : ∀ c, n ≤ c → bt x c = false) : x.toBitVec.toNat < 2 ^ n := by
  apply Nat.lt_pow_two_of_testBit
  intro i hi
  rw [← tbv]; exact h i hi
/-- how many cards of a player a mask has -/
def c4 (x : Int32) (p : Nat) : Nat := cn (fun i => bt x (4 * p + i)) 4
theorem countOf_eq {x : Int32} {p : Nat} (hp : p < 4) : fX6_countOf x (nI p) = nI (c4 x p) := by
  have hz : ∀ i, bt (sr x (nI (4 * p)) &&& 15) i = (decide (i < 4) && bt x (4 * p + i)) := by
    intro i
    rw [bt_and, show (15 : Int32) = nI (2 ^ 4 - 1) from rfl, bt_pow (by omega)]
    by_cases hi : i < 4
    · rw [bt_sr (by omega) (by omega)]; simp [hi]
    · simp [hi]
  have e4 : (4 : Int32) * nI p = nI (4 * p) := pk_mul 4 p
  unfold fX6_countOf
  rw [e4]
  generalize hzz : sr x (nI (4 * p)) &&& 15 = z at hz ⊢
  have hlt := idx_lt (x := z) (n := 4) (fun c hc => by rw [hz c]; simp; omega)
  have e := nI_idx z
  generalize z.toBitVec.toNat = v at hlt e
  subst e
  have dec : ∀ v : Fin 16, (((nI v.val &&& 1) + ((sr (nI v.val) 1) &&& 1)) + ((sr (nI v.val) 2) &&& 1)) + (sr (nI v.val) 3) = nI (cn (fun i => bt (nI v.val) i) 4) := by decide +kernel
  rw [dec ⟨v, by omega⟩]
  congr 1
  exact cn_congr 4 (fun i hi => by rw [hz i]; simp [hi])
theorem better_0 {p a : Nat} (ha : a < 1000) : fX6_better (nI p) (nI a) (-1) = nI a := by
  unfold fX6_better
  rw [if_neg (ne_m1 (by omega)), if_pos rfl, if_neg (ne_m1 (by omega))]
theorem better_N {p a b : Nat} (hp : p < 4) (ha : a < 1000) (hb : b < 1000) : fX6_better (nI p) (nI a) (nI b) = nI (if p % 2 = 0 then max a b else min a b) := by
  unfold fX6_better
  rw [if_neg (ne_m1 (by omega)), if_neg (ne_m1 (by omega)), im_2 (by omega)]
  simp only [show (0 : Int32) = nI 0 from rfl, eq_N (show p % 2 < 2 ^ 31 by omega) (show 0 < 2 ^ 31 by omega), le_N (show a < 2 ^ 31 by omega) (show b < 2 ^ 31 by omega)]
  by_cases h : p % 2 = 0
  · rw [if_pos h, if_pos h]
    by_cases h2 : a ≤ b
    · rw [if_pos h2, Nat.max_eq_right h2]
    · rw [if_neg h2, Nat.max_eq_left (by omega)]
  · rw [if_neg h, if_neg h]
    by_cases h2 : a ≤ b
    · rw [if_pos h2, Nat.min_eq_left h2]
    · rw [if_neg h2, Nat.min_eq_right (by omega)]
