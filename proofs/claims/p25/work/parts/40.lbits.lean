/-! the law's counting -/
theorem ob_s {α β : Type} (a : α) (f : α → Option β) : obind (some a) f = f a := obind_of rfl rfl
theorem cn_le (f : Nat → Bool) : ∀ n, cn f n ≤ n := by
  intro n
  induction n with
  | zero => exact Nat.le_refl _
  | succ n ih => simp only [cn]; split <;> omega
def won (ld : Nat → Nat) (s m : Nat) : Nat := cn (fun j => decide (ld (j + 1) % 2 = s)) m
theorem run_ld_lt {τ l : Nat} {d : Nat → Int32} {pl : Nat → Nat} (hl : l < 4) : ∀ k j, (run τ d l pl k).2 j < 4 := by
  intro k
  induction k with
  | zero => intro j; exact hl
  | succ k ih =>
    intro j
    show ldP τ k pl (run τ d l pl k).2 (pl k) j < 4
    unfold ldP
    split
    · unfold updN; split
      · exact Nat.mod_lt _ (by decide)
      · exact ih j
    · exact ih j
theorem bt_sr {x : Int32} {c i : Nat} (hc : c < 32) (hi : c + i < 32) : bt (sr x (nI c)) i = bt x (c + i) := by
  have h1 : (sr x (nI c)).toBitVec = x.toBitVec.sshiftRight c := by
    have : ∀ c : Fin 32, (((nI c.val &&& 31).toBitVec).smod 32#32).toNat = c.val := by decide +kernel
    have h2 := this ⟨c, hc⟩
    unfold sr
    rw [Int32.toBitVec_shiftRight]
    show x.toBitVec.sshiftRight (((nI c &&& 31).toBitVec).smod 32#32).toNat = _
    rw [h2]
  unfold bt
  rw [h1, BitVec.getLsbD_sshiftRight]
  simp [hi]
  omega
theorem and1 (y : Int32) : (y &&& 1 = 1) ↔ bt y 0 = true := by
  have b1 : ∀ c, bt 1 c = decide (c = 0) := fun c => by
    have := bt_pow (c := 1) (by omega) c
    rw [show (1 : Int32) = nI (2 ^ 1 - 1) from rfl, this]
    simp
  constructor
  · intro h
    have := congrArg (fun z => bt z 0) h
    simp only [bt_and, b1] at this
    simpa using this
  · intro h
    apply bt_ext; intro c _
    rw [bt_and, b1]
    by_cases hc : c = 0
    · subst hc; simp [h]
    · simp [hc]
theorem nI_idx (y : Int32) : y = nI y.toBitVec.toNat := by
  apply Int32.toBitVec_inj.mp
  apply BitVec.eq_of_toNat_eq
  have : (nI y.toBitVec.toNat).toBitVec = BitVec.ofNat 32 y.toBitVec.toNat := rfl
  rw [this, BitVec.toNat_ofNat, Nat.mod_eq_of_lt y.toBitVec.isLt]
theorem idx_lt {x : Int32} {n : Nat} (h : ∀ c, n ≤ c → bt x c = false) : x.toBitVec.toNat < 2 ^ n := by
  apply Nat.lt_pow_two_of_testBit
  intro i hi
  rw [← tbv]; exact h i hi
theorem lhas {x : Int32} {c : Nat} (hc : c < 32) : fL_has x (nI c) = b01 (bt x c) := by
  unfold fL_has
  have h0 := and1 (sr x (nI c))
  rw [bt_sr hc (by omega)] at h0
  have this : sr x (nI c) &&& 1 = 1 ↔ bt x c = true := h0
  cases h : bt x c with
  | true => rw [if_pos (this.mpr h)]; rfl
  | false => rw [if_neg (fun z => by rw [this.mp z] at h; cases h)]; rfl
theorem b01_0 {b : Bool} : (b01 b = 0) = (b = false) := by cases b <;> simp [b01]
theorem b01_1 {b : Bool} : (b01 b = 1) = (b = true) := by cases b <;> simp [b01]
theorem vb_b01 (b : Bool) : vb (b01 b) = true := by cases b <;> decide
/-- the lowest card taken off -/
theorem bt_nI {y d : Nat} (hy : y < 2 ^ 32) : bt (nI y) d = y.testBit d := by
  rw [tbv, pk_tn hy]
theorem clr {x : Int32} {c : Nat} (hc : c < 24) (hb : bt x c = true) (hlow : ∀ d, d < c → bt x d = false) : x &&& (x - 1) = x &&& (sl 1 (nI c) ^^^ (-1)) := by
  have hX := nI_idx x
  have tb := tbv x
  have hlt : x.toBitVec.toNat < 2 ^ 32 := x.toBitVec.isLt
  generalize x.toBitVec.toNat = X at hX tb hlt
  have h2 : X / 2 ^ c % 2 = 1 := by
    have := tb c
    rw [hb, Nat.testBit_eq_decide_div_mod_eq] at this
    simpa using this.symm
  have h1 : X % 2 ^ c = 0 := by
    apply Nat.eq_of_testBit_eq
    intro i
    rw [Nat.testBit_mod_two_pow, Nat.zero_testBit]
    by_cases hi : i < c
    · rw [← tb, hlow i hi]; simp
    · simp [hi]
  have hP : 0 < 2 ^ c := Nat.two_pow_pos c
  have hq : X = 2 ^ c * (X / 2 ^ c) := by
    have := Nat.div_add_mod X (2 ^ c)
    omega
  obtain ⟨q, hq2⟩ : ∃ q, X / 2 ^ c = 2 * q + 1 := ⟨X / 2 ^ c / 2, by omega⟩
  obtain ⟨Y, hY⟩ : ∃ Y, X = Y + 1 := ⟨X - 1, by
    rw [hq2] at hq
    have : 2 ^ c * 1 ≤ 2 ^ c * (2 * q + 1) := Nat.mul_le_mul_left _ (by omega)
    omega⟩
  have hYd : Y / 2 ^ c = 2 * q := by
    rw [hq2] at hq
    have e : 2 ^ c * (2 * q + 1) = 2 ^ c * (2 * q) + 2 ^ c := Nat.mul_succ _ _
    rw [Nat.div_eq_iff hP]
    have e3 : 2 * q * 2 ^ c = 2 ^ c * (2 * q) := Nat.mul_comm _ _
    omega
  have e1 : x - 1 = nI Y := by rw [hX, hY, nI_pred]
  apply bt_ext; intro d hd
  rw [bt_rem hc hd, bt_and, e1, bt_nI (by omega)]
  rcases Nat.lt_trichotomy d c with h | h | h
  · rw [hlow d h]; rfl
  · subst h
    rw [Nat.testBit_eq_decide_div_mod_eq, hYd]
    simp
  · have e2 : Y.testBit d = bt x d := by
      rw [tb, Nat.testBit_eq_decide_div_mod_eq, Nat.testBit_eq_decide_div_mod_eq]
      obtain ⟨k, rfl⟩ : ∃ k, d = c + (1 + k) := ⟨d - c - 1, by omega⟩
      rw [Nat.pow_add, Nat.pow_add, ← Nat.div_div_eq_div_mul, ← Nat.div_div_eq_div_mul, ← Nat.div_div_eq_div_mul, ← Nat.div_div_eq_div_mul, hYd, hq2]
      rw [show 2 * q / 2 ^ 1 = q by omega, show (2 * q + 1) / 2 ^ 1 = q by omega]
    rw [e2]
    have : ¬ d = c := by omega
    simp [this]
theorem lsize_loop : ∀ F m (x : Int32) a, m < F → cnt x = m → c24 x → fL_size_L4 F (nI a) x = some (nI (a + m)) := by
  intro F
  induction F with
  | zero => intro m x a h; omega
  | succ F ih =>
    intro m x a hm hc h24
    rw [fL_size_L4.eq_2]
    by_cases h0 : x = 0
    · rw [if_pos h0]
      have : cnt x = 0 := by rw [h0]; exact cn_all0 24 (fun c _ => bt_0 c)
      rw [show m = 0 by omega]; rfl
    · rw [if_neg h0]
      obtain ⟨c1, hc1, hb1⟩ := bt_ne0 h0
      obtain ⟨c, hb, hmin⟩ := pk_least (fun c => bt x c = true) ⟨c1, hb1⟩
      have hc24 : c < 24 := by
        rcases Nat.lt_or_ge c 24 with q | q
        · exact q
        · rw [h24 c q] at hb; cases hb
      have hr := cnt_rem hc24 hb
      rw [clr hc24 hb (fun d hd => by cases hz : bt x d with | false => rfl | true => exact absurd hz (hmin d hd)), nI_1]
      rw [ih (m - 1) _ (a + 1) (by omega) (by omega) (c24_rem h24)]
      congr 2; omega
theorem lsize {x : Int32} (h : c24 x) : fL_size x = some (nI (cnt x)) := by
  unfold fL_size
  have hle : cnt x ≤ 24 := cn_le (bt x) 24
  have := lsize_loop 40 (cnt x) x 0 (by omega) rfl h
  rw [show (0 : Int32) = nI 0 from rfl, this]
  show some (nI (0 + cnt x)) = _
  rw [Nat.zero_add]
