theorem cn_add (f : Nat → Bool) (a : Nat) : ∀ b, cn f (a + b) = cn f a + cn (fun i => f (a + i)) b := by
  intro b
  induction b with
  | zero => rfl
  | succ b ih =>
    show cn f (a + b + 1) = _
    simp only [cn]
    rw [ih]; omega
theorem bitCount_ok {x : Int32} (h : c24 x) : fJ6_bitCount_0f7a4 x = nI (cnt x) := by
  have hlt := idx_lt (x := x) (n := 24) h
  have hx := nI_idx x
  have tb := tbv x
  generalize x.toBitVec.toNat = X at hlt hx tb
  have hd : X = X % 256 + 256 * (X / 256 % 256 + 256 * (X / 65536)) := by omega
  have h1 := bitCount_N (A := X % 256) (B := X / 256 % 256) (C := X / 65536) (by omega) (by omega) (by omega)
  rw [← hd, ← hx] at h1
  rw [h1]
  congr 1
  have e : cnt x = cn (bt x) 8 + cn (fun i => bt x (8 + i)) 8 + cn (fun i => bt x (16 + i)) 8 := by
    have a := cn_add (bt x) 16 8
    have b := cn_add (bt x) 8 8
    show cn (bt x) (16 + 8) = _
    rw [a, show cn (bt x) 16 = cn (bt x) (8 + 8) from rfl, b]
  rw [e]
  rw [cn_congr 8 (f := bt x) (g := fun i => (X % 256).testBit i) (fun i hi => by rw [tb i, show (256 : Nat) = 2 ^ 8 from rfl, Nat.testBit_mod_two_pow]; simp [hi])]
  rw [cn_congr 8 (f := fun i => bt x (8 + i)) (g := fun i => (X / 256 % 256).testBit i) (fun i hi => by
    show bt x (8 + i) = _
    rw [tb, show X / 256 % 256 = X / 2 ^ 8 % 2 ^ 8 from rfl, Nat.testBit_mod_two_pow, Nat.testBit_div_two_pow]; simp [hi, Nat.add_comm])]
  rw [cn_congr 8 (f := fun i => bt x (16 + i)) (g := fun i => (X / 65536).testBit i) (fun i hi => by
    show bt x (16 + i) = _
    rw [tb, show X / 65536 = X / 2 ^ 16 from rfl, Nat.testBit_div_two_pow]; simp [Nat.add_comm])]
