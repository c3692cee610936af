/-! small whole numbers, also below nought -/
def iI (a : Int) : Int32 := Int32.ofInt a
theorem iI_toInt {a : Int} (h : -1000 ≤ a) (h2 : a ≤ 1000) : (iI a).toInt = a := Int32.toInt_ofInt_of_le (by omega) (by omega)
theorem iI_nat (a : Nat) : iI (a : Int) = nI a := Int32.ofInt_eq_ofNat
theorem iI_sub (a b : Int) : iI a - iI b = iI (a - b) := (Int32.ofInt_sub a b).symm
theorem iI_add (a b : Int) : iI a + iI b = iI (a + b) := (Int32.ofInt_add a b).symm
theorem iI_lt {a b : Int} (ha : -1000 ≤ a) (ha' : a ≤ 1000) (hb : -1000 ≤ b) (hb' : b ≤ 1000) : (iI a < iI b) = (a < b) := by
  rw [Int32.lt_iff_toInt_lt, iI_toInt ha ha', iI_toInt hb hb']
theorem iI_le {a b : Int} (ha : -1000 ≤ a) (ha' : a ≤ 1000) (hb : -1000 ≤ b) (hb' : b ≤ 1000) : (iI a ≤ iI b) = (a ≤ b) := by
  rw [Int32.le_iff_toInt_le, iI_toInt ha ha', iI_toInt hb hb']
theorem iI_eq {a b : Int} (ha : -1000 ≤ a) (ha' : a ≤ 1000) (hb : -1000 ≤ b) (hb' : b ≤ 1000) : (iI a = iI b) = (a = b) := by
  apply propext
  constructor
  · intro h
    rw [← iI_toInt ha ha', ← iI_toInt hb hb', h]
  · rintro rfl; rfl
theorem iI_mx {a b : Int} (ha : -1000 ≤ a) (ha' : a ≤ 1000) (hb : -1000 ≤ b) (hb' : b ≤ 1000) : mx (iI a) (iI b) = iI (max a b) := by
  unfold mx
  simp only [iI_lt ha ha' hb hb']
  by_cases h : a < b
  · rw [if_pos h]; congr 1; omega
  · rw [if_neg h]; congr 1; omega
theorem iI_mn {a b : Int} (ha : -1000 ≤ a) (ha' : a ≤ 1000) (hb : -1000 ≤ b) (hb' : b ≤ 1000) : mn (iI a) (iI b) = iI (min a b) := by
  unfold mn
  simp only [iI_lt hb hb' ha ha']
  by_cases h : b < a
  · rw [if_pos h]; congr 1; omega
  · rw [if_neg h]; congr 1; omega
