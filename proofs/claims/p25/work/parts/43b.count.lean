def by1 (A : Nat) : Nat := A - ((A / 2) &&& 85)
def by2 (P : Nat) : Nat := (P &&& 51) + ((P / 4) &&& 51)
theorem by1_d : ∀ A : Fin 256, ∀ e : Fin 2, ((A.val / 2 + 128 * e.val) &&& 85) = (A.val / 2 &&& 85) ∧ (A.val / 2 &&& 85) ≤ A.val := by decide +kernel
theorem by2_d : ∀ P : Fin 256, ∀ e : Fin 4, ((P.val / 4 + 64 * e.val) &&& 51) = (P.val / 4 &&& 51) := by decide +kernel
theorem by3_d : ∀ A : Fin 256, by1 A.val < 256 ∧ by2 (by1 A.val) ≤ 68 ∧ by2 (by1 A.val) % 16 ≤ 4 ∧ (by2 (by1 A.val) + by2 (by1 A.val) / 16) % 16 = cn (fun i => A.val.testBit i) 8 := by decide +kernel
theorem and3 {A B C : Nat} {m : Nat} (hA : A < 256) (hB : B < 256) (hC : C < 256) (hm : m < 256) : (A + 256 * (B + 256 * C)) &&& (m + 256 * (m + 256 * (m + 256 * m))) = (A &&& m) + 256 * ((B &&& m) + 256 * (C &&& m)) := by
  rw [land_cat hA hm, land_cat hB hm]
  have := land_cat (A := C) (m := m) (Y := 0) (N := m) hC hm
  rw [Nat.mul_zero, Nat.add_zero, Nat.zero_and] at this
  rw [this]; rfl
theorem bitCount_N {A B C : Nat} (hA : A < 256) (hB : B < 256) (hC : C < 256) : fJ6_bitCount_0f7a4 (nI (A + 256 * (B + 256 * C))) = nI (cn (fun i => A.testBit i) 8 + cn (fun i => B.testBit i) 8 + cn (fun i => C.testBit i) 8) := by
  have a1 := by1_d ⟨A, hA⟩ ⟨B % 2, by omega⟩
  have b1 := by1_d ⟨B, hB⟩ ⟨C % 2, by omega⟩
  have c1 := by1_d ⟨C, hC⟩ ⟨0, by omega⟩
  obtain ⟨a3, a4, a5, a6⟩ := by3_d ⟨A, hA⟩
  obtain ⟨b3, b4, b5, b6⟩ := by3_d ⟨B, hB⟩
  obtain ⟨c3, c4, c5, c6⟩ := by3_d ⟨C, hC⟩
  dsimp only at a1 b1 c1 a3 a4 a5 a6 b3 b4 b5 b6 c3 c4 c5 c6
  have e1 : nI (A + 256 * (B + 256 * C)) - (su (nI (A + 256 * (B + 256 * C))) 1 &&& 1431655765) = nI (by1 A + 256 * (by1 B + 256 * by1 C)) := by
    rw [su1 (by omega), show (1431655765 : Int32) = nI (85 + 256 * (85 + 256 * (85 + 256 * 85))) from rfl, nI_and, show (A + 256 * (B + 256 * C)) / 2 = (A / 2 + 128 * (B % 2)) + 256 * ((B / 2 + 128 * (C % 2)) + 256 * (C / 2)) by omega, and3 (by omega) (by omega) (by omega) (by omega), a1.1, b1.1, pk_sub (by omega)]
    congr 1; unfold by1; omega
  unfold fJ6_bitCount_0f7a4
  rw [e1]
  have p2 := by2_d ⟨by1 A, a3⟩ ⟨by1 B % 4, by omega⟩
  have q2 := by2_d ⟨by1 B, b3⟩ ⟨by1 C % 4, by omega⟩
  dsimp only at p2 q2
  have e2 : (nI (by1 A + 256 * (by1 B + 256 * by1 C)) &&& 858993459) + (su (nI (by1 A + 256 * (by1 B + 256 * by1 C))) 2 &&& 858993459) = nI (by2 (by1 A) + 256 * (by2 (by1 B) + 256 * by2 (by1 C))) := by
    rw [su2 (by omega), show (858993459 : Int32) = nI (51 + 256 * (51 + 256 * (51 + 256 * 51))) from rfl, nI_and, nI_and, show (by1 A + 256 * (by1 B + 256 * by1 C)) / 4 = (by1 A / 4 + 64 * (by1 B % 4)) + 256 * ((by1 B / 4 + 64 * (by1 C % 4)) + 256 * (by1 C / 4)) by omega, and3 a3 b3 c3 (by omega), and3 (by omega) (by omega) (by omega) (by omega), p2, q2, nI_add]
    congr 1; unfold by2; omega
  rw [e2]
  generalize by2 (by1 A) = P at a4 a5 a6 ⊢
  generalize by2 (by1 B) = Q at b4 b5 b6 ⊢
  generalize by2 (by1 C) = R at c4 c5 c6 ⊢
  have m15 : ∀ y, y &&& 15 = y % 16 := fun y => Nat.and_two_pow_sub_one_eq_mod y 4
  have e3 : (nI (P + 256 * (Q + 256 * R)) + su (nI (P + 256 * (Q + 256 * R))) 4) &&& 252645135 = nI ((P + P / 16) % 16 + 256 * ((Q + Q / 16) % 16 + 256 * ((R + R / 16) % 16))) := by
    rw [su4 (by omega), nI_add, show (252645135 : Int32) = nI (15 + 256 * (15 + 256 * (15 + 256 * 15))) from rfl, nI_and, show (P + 256 * (Q + 256 * R)) + (P + 256 * (Q + 256 * R)) / 16 = (P + P / 16 + 16 * (Q % 16)) + 256 * ((Q + Q / 16 + 16 * (R % 16)) + 256 * (R + R / 16)) by omega, and3 (by omega) (by omega) (by omega) (by omega), m15, m15, m15]
    congr 1; omega
  rw [e3, a6, b6, c6]
  have la := cn_le (fun i => A.testBit i) 8
  have lb := cn_le (fun i => B.testBit i) 8
  have lc := cn_le (fun i => C.testBit i) 8
  generalize cn (fun i => A.testBit i) 8 = p at la ⊢
  generalize cn (fun i => B.testBit i) 8 = q at lb ⊢
  generalize cn (fun i => C.testBit i) 8 = r at lc ⊢
  rw [su8 (by omega), nI_add, su16 (by omega), nI_add, show (63 : Int32) = nI 63 from rfl, nI_and]
  congr 1
  rw [show ∀ y, y &&& 63 = y % 64 from fun y => Nat.and_two_pow_sub_one_eq_mod y 6]
  have h1 : (p + 256 * (q + 256 * r)) / 256 = q + 256 * r := by omega
  rw [h1]
  have h2 : (p + 256 * (q + 256 * r) + (q + 256 * r)) / 65536 = r := by omega
  rw [h2]
  clear h1 h2 a6 b6 c6
  omega
