/-! the lowest and the highest card of a set -/
theorem pk3 (c : Nat) : (nI c).toBitVec = BitVec.ofNat 32 c := by rfl
theorem bt_pow {c : Nat} (hc : c < 25) (d : Nat) : bt (nI (2 ^ c - 1)) d = decide (d < c) := by
  rcases Nat.lt_or_ge d 32 with q | q
  · have : ∀ c : Fin 25, ∀ d : Fin 32, bt (nI (2 ^ c.val - 1)) d.val = decide (d.val < c.val) := by decide +kernel
    exact this ⟨c, hc⟩ ⟨d, q⟩
  · rw [bt_ge _ q]; symm; apply decide_eq_false; omega
theorem toBV_sub1 (x : Int32) : (x - 1).toBitVec = x.toBitVec - 1#32 := by
  rw [Int32.toBitVec_sub]; rfl
/-- x with its lowest card c: what lies below c is all of x-1's and none of x's -/
theorem low_mask {x : Int32} {c : Nat} (hc : c < 24) (h1 : bt x c = true) (h0 : ∀ d, d < c → bt x d = false) : (x ^^^ (-1)) &&& (x - 1) = nI (2 ^ c - 1) := by
  apply bt_ext
  intro d hd
  rw [bt_and, bt_not x hd, bt_pow (by omega)]
  have hx : x.toBitVec.toNat < 2 ^ 32 := x.toBitVec.isLt
  have tb : ∀ i, bt x i = x.toBitVec.toNat.testBit i := fun i => by simp [bt, BitVec.getLsbD]
  have hmod : x.toBitVec.toNat % 2 ^ c = 0 := by
    apply Nat.eq_of_testBit_eq
    intro i
    rw [Nat.testBit_mod_two_pow, Nat.zero_testBit]
    by_cases hi : i < c
    · simp [hi, ← tb, h0 i hi]
    · simp [hi]
  have hge : 2 ^ c ≤ x.toBitVec.toNat := by
    apply Nat.ge_two_pow_of_testBit
    rw [← tb]; exact h1
  have hpos : 0 < 2 ^ c := Nat.two_pow_pos c
  generalize hX : x.toBitVec.toNat = X at hx tb hmod hge
  have hsub : ((x - 1).toBitVec).toNat = X - 1 := by
    rw [toBV_sub1, BitVec.toNat_sub, hX]
    have : (1#32).toNat = 1 := rfl
    rw [this]; omega
  have tb1 : bt (x - 1) d = (X - 1).testBit d := by
    have : bt (x - 1) d = ((x - 1).toBitVec).toNat.testBit d := by simp [bt, BitVec.getLsbD]
    rw [this, hsub]
  obtain ⟨k, hk⟩ : ∃ k, X = 2 ^ c * k := ⟨X / 2 ^ c, by rw [Nat.mul_comm]; exact (Nat.div_mul_cancel (Nat.dvd_of_mod_eq_zero hmod)).symm⟩
  have hk1 : 1 ≤ k := by
    rcases Nat.eq_zero_or_pos k with h | h
    · subst h; simp at hk; omega
    · exact h
  have hX1 : X - 1 = 2 ^ c * (k - 1) + (2 ^ c - 1) := by
    have : 2 ^ c * k = 2 ^ c * (k - 1) + 2 ^ c := by
      rw [← Nat.mul_succ]; congr 1; omega
    omega
  rw [tb1, hX1, Nat.testBit_two_pow_mul_add _ (by omega)]
  by_cases hdc : d < c
  · rw [if_pos hdc, h0 d hdc]
    have : (2 ^ c - 1).testBit d = true := by rw [Nat.testBit_two_pow_sub_one]; simp [hdc]
    rw [this]; simp [hdc]
  · rw [if_neg hdc]
    have hcd : bt x d = k.testBit (d - c) := by
      rw [tb, hk]
      have := Nat.testBit_two_pow_mul_add (i := c) (b := 0) k hpos (j := d)
      rw [Nat.add_zero] at this
      rw [this, if_neg hdc]
    rw [hcd]
    have hodd : k % 2 = 1 := by
      have := h1
      rw [tb, hk] at this
      have h2 := Nat.testBit_two_pow_mul_add (i := c) (b := 0) k hpos (j := c)
      rw [Nat.add_zero] at h2
      rw [h2, if_neg (by omega), Nat.sub_self] at this
      simpa [Nat.testBit_zero] using this
    simp only [hdc, decide_false]
    by_cases he : d = c
    · subst he; rw [Nat.sub_self]
      have a1 : k.testBit 0 = true := by simp [Nat.testBit_zero, hodd]
      rw [a1]; rfl
    · obtain ⟨i, hi⟩ : ∃ i, d - c = i + 1 := ⟨d - c - 1, by omega⟩
      rw [hi, Nat.testBit_succ, Nat.testBit_succ]
      have : (k - 1) / 2 = k / 2 := by omega
      rw [this]
      cases (k / 2).testBit i <;> rfl
theorem low_eq {x : Int32} {c : Nat} (hc : c < 24) (h1 : bt x c = true) (h0 : ∀ d, d < c → bt x d = false) : fX0_lowest x = nI c := by
  unfold fX0_lowest fJ6_numberOfTrailingZeros_0f7a4
  rw [low_mask hc h1 h0]
  have : ∀ c : Fin 24, fJ6_numberOfTrailingZeros_0f7a4 (nI (2 ^ c.val)) = nI c.val := by decide +kernel
  have h2 := this ⟨c, hc⟩
  unfold fJ6_numberOfTrailingZeros_0f7a4 at h2
  have h3 : (nI (2 ^ c) ^^^ (-1)) &&& (nI (2 ^ c) - 1) = nI (2 ^ c - 1) := by
    have : ∀ c : Fin 24, (nI (2 ^ c.val) ^^^ (-1)) &&& (nI (2 ^ c.val) - 1) = nI (2 ^ c.val - 1) := by decide +kernel
    exact this ⟨c, hc⟩
  rw [h3] at h2
  exact h2
