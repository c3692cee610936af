/-! sets of bits by bytes -/
theorem land_cat {A m Y N : Nat} (hA : A < 256) (hm : m < 256) : (A + 256 * Y) &&& (m + 256 * N) = (A &&& m) + 256 * (Y &&& N) := by
  have h1 : ((A + 256 * Y) &&& (m + 256 * N)) % 2 ^ 8 = (A &&& m) := by
    rw [Nat.and_mod_two_pow, show (A + 256 * Y) % 2 ^ 8 = A by omega, show (m + 256 * N) % 2 ^ 8 = m by omega]
  have h2 : ((A + 256 * Y) &&& (m + 256 * N)) / 2 ^ 8 = (Y &&& N) := by
    rw [Nat.and_div_two_pow, show (A + 256 * Y) / 2 ^ 8 = Y by omega, show (m + 256 * N) / 2 ^ 8 = N by omega]
  omega
theorem nI_and (a b : Nat) : nI a &&& nI b = nI (a &&& b) := by
  apply Int32.toBitVec_inj.mp
  have e : ∀ x, (nI x).toBitVec = BitVec.ofNat 32 x := fun _ => rfl
  rw [Int32.toBitVec_and, e, e, e, BitVec.ofNat_and]
