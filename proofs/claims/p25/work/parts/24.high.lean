theorem suN (a s : Nat) (ha : a < 2 ^ 32) (hs : (((nI s).toUInt32 &&& Int32.toUInt32 31).toBitVec % 32).toNat = s) : su (nI a) (nI s) = nI (a / 2 ^ s) := pk_ushrN ha (nI s) s hs
theorem su1 {a : Nat} (ha : a < 2 ^ 32) : su (nI a) 1 = nI (a / 2) := suN a 1 ha (by decide)
theorem su2 {a : Nat} (ha : a < 2 ^ 32) : su (nI a) 2 = nI (a / 4) := suN a 2 ha (by decide)
theorem su4 {a : Nat} (ha : a < 2 ^ 32) : su (nI a) 4 = nI (a / 16) := suN a 4 ha (by decide)
theorem su8 {a : Nat} (ha : a < 2 ^ 32) : su (nI a) 8 = nI (a / 256) := suN a 8 ha (by decide)
theorem su16 {a : Nat} (ha : a < 2 ^ 32) : su (nI a) 16 = nI (a / 65536) := suN a 16 ha (by decide)
theorem hi0 (X : Nat) (h1 : 1 ≤ X) (h2 : X < 2) : 31 - fJ6_numberOfLeadingZeros_0f7a4 (nI X) = nI 0 := by
  unfold fJ6_numberOfLeadingZeros_0f7a4
  rw [if_pos (show (0 : Int32) < nI X from nI_lt (a := 0) (by omega) (by omega))]
  rw [if_pos (show nI (X) < 65536 from nI_lt (b := 65536) (by omega) (by omega))]
  rw [if_pos (show nI (X) < 256 from nI_lt (b := 256) (by omega) (by omega))]
  rw [if_pos (show nI (X) < 16 from nI_lt (b := 16) (by omega) (by omega))]
  rw [if_pos (show nI (X) < 4 from nI_lt (b := 4) (by omega) (by omega))]
  rw [su1 (a := X) (by omega)]
  rw [show X / 2 = 0 from by omega]
  decide
theorem hi1 (X : Nat) (h1 : 2 ≤ X) (h2 : X < 4) : 31 - fJ6_numberOfLeadingZeros_0f7a4 (nI X) = nI 1 := by
  unfold fJ6_numberOfLeadingZeros_0f7a4
  rw [if_pos (show (0 : Int32) < nI X from nI_lt (a := 0) (by omega) (by omega))]
  rw [if_pos (show nI (X) < 65536 from nI_lt (b := 65536) (by omega) (by omega))]
  rw [if_pos (show nI (X) < 256 from nI_lt (b := 256) (by omega) (by omega))]
  rw [if_pos (show nI (X) < 16 from nI_lt (b := 16) (by omega) (by omega))]
  rw [if_pos (show nI (X) < 4 from nI_lt (b := 4) (by omega) (by omega))]
  rw [su1 (a := X) (by omega)]
  rw [show X / 2 = 1 from by omega]
  decide
theorem hi2 (X : Nat) (h1 : 4 ≤ X) (h2 : X < 8) : 31 - fJ6_numberOfLeadingZeros_0f7a4 (nI X) = nI 2 := by
  unfold fJ6_numberOfLeadingZeros_0f7a4
  rw [if_pos (show (0 : Int32) < nI X from nI_lt (a := 0) (by omega) (by omega))]
  rw [if_pos (show nI (X) < 65536 from nI_lt (b := 65536) (by omega) (by omega))]
  rw [if_pos (show nI (X) < 256 from nI_lt (b := 256) (by omega) (by omega))]
  rw [if_pos (show nI (X) < 16 from nI_lt (b := 16) (by omega) (by omega))]
  rw [if_neg (show ¬ nI (X) < 4 from nI_nlt (b := 4) (by omega) (by omega))]
  rw [su2 (a := X) (by omega)]
  rw [su1 (a := X / 4) (by omega)]
  rw [show X / 4 / 2 = 0 from by omega]
  decide
theorem hi3 (X : Nat) (h1 : 8 ≤ X) (h2 : X < 16) : 31 - fJ6_numberOfLeadingZeros_0f7a4 (nI X) = nI 3 := by
  unfold fJ6_numberOfLeadingZeros_0f7a4
  rw [if_pos (show (0 : Int32) < nI X from nI_lt (a := 0) (by omega) (by omega))]
  rw [if_pos (show nI (X) < 65536 from nI_lt (b := 65536) (by omega) (by omega))]
  rw [if_pos (show nI (X) < 256 from nI_lt (b := 256) (by omega) (by omega))]
  rw [if_pos (show nI (X) < 16 from nI_lt (b := 16) (by omega) (by omega))]
  rw [if_neg (show ¬ nI (X) < 4 from nI_nlt (b := 4) (by omega) (by omega))]
  rw [su2 (a := X) (by omega)]
  rw [su1 (a := X / 4) (by omega)]
  rw [show X / 4 / 2 = 1 from by omega]
  decide
theorem hi4 (X : Nat) (h1 : 16 ≤ X) (h2 : X < 32) : 31 - fJ6_numberOfLeadingZeros_0f7a4 (nI X) = nI 4 := by
  unfold fJ6_numberOfLeadingZeros_0f7a4
  rw [if_pos (show (0 : Int32) < nI X from nI_lt (a := 0) (by omega) (by omega))]
  rw [if_pos (show nI (X) < 65536 from nI_lt (b := 65536) (by omega) (by omega))]
  rw [if_pos (show nI (X) < 256 from nI_lt (b := 256) (by omega) (by omega))]
  rw [if_neg (show ¬ nI (X) < 16 from nI_nlt (b := 16) (by omega) (by omega))]
  rw [su4 (a := X) (by omega)]
  rw [if_pos (show nI (X / 16) < 4 from nI_lt (b := 4) (by omega) (by omega))]
  rw [su1 (a := X / 16) (by omega)]
  rw [show X / 16 / 2 = 0 from by omega]
  decide
theorem hi5 (X : Nat) (h1 : 32 ≤ X) (h2 : X < 64) : 31 - fJ6_numberOfLeadingZeros_0f7a4 (nI X) = nI 5 := by
  unfold fJ6_numberOfLeadingZeros_0f7a4
  rw [if_pos (show (0 : Int32) < nI X from nI_lt (a := 0) (by omega) (by omega))]
  rw [if_pos (show nI (X) < 65536 from nI_lt (b := 65536) (by omega) (by omega))]
  rw [if_pos (show nI (X) < 256 from nI_lt (b := 256) (by omega) (by omega))]
  rw [if_neg (show ¬ nI (X) < 16 from nI_nlt (b := 16) (by omega) (by omega))]
  rw [su4 (a := X) (by omega)]
  rw [if_pos (show nI (X / 16) < 4 from nI_lt (b := 4) (by omega) (by omega))]
  rw [su1 (a := X / 16) (by omega)]
  rw [show X / 16 / 2 = 1 from by omega]
  decide
theorem hi6 (X : Nat) (h1 : 64 ≤ X) (h2 : X < 128) : 31 - fJ6_numberOfLeadingZeros_0f7a4 (nI X) = nI 6 := by
  unfold fJ6_numberOfLeadingZeros_0f7a4
  rw [if_pos (show (0 : Int32) < nI X from nI_lt (a := 0) (by omega) (by omega))]
  rw [if_pos (show nI (X) < 65536 from nI_lt (b := 65536) (by omega) (by omega))]
  rw [if_pos (show nI (X) < 256 from nI_lt (b := 256) (by omega) (by omega))]
  rw [if_neg (show ¬ nI (X) < 16 from nI_nlt (b := 16) (by omega) (by omega))]
  rw [su4 (a := X) (by omega)]
  rw [if_neg (show ¬ nI (X / 16) < 4 from nI_nlt (b := 4) (by omega) (by omega))]
  rw [su2 (a := X / 16) (by omega)]
  rw [su1 (a := X / 16 / 4) (by omega)]
  rw [show X / 16 / 4 / 2 = 0 from by omega]
  decide
theorem hi7 (X : Nat) (h1 : 128 ≤ X) (h2 : X < 256) : 31 - fJ6_numberOfLeadingZeros_0f7a4 (nI X) = nI 7 := by
  unfold fJ6_numberOfLeadingZeros_0f7a4
  rw [if_pos (show (0 : Int32) < nI X from nI_lt (a := 0) (by omega) (by omega))]
  rw [if_pos (show nI (X) < 65536 from nI_lt (b := 65536) (by omega) (by omega))]
  rw [if_pos (show nI (X) < 256 from nI_lt (b := 256) (by omega) (by omega))]
  rw [if_neg (show ¬ nI (X) < 16 from nI_nlt (b := 16) (by omega) (by omega))]
  rw [su4 (a := X) (by omega)]
  rw [if_neg (show ¬ nI (X / 16) < 4 from nI_nlt (b := 4) (by omega) (by omega))]
  rw [su2 (a := X / 16) (by omega)]
  rw [su1 (a := X / 16 / 4) (by omega)]
  rw [show X / 16 / 4 / 2 = 1 from by omega]
  decide
theorem hi8 (X : Nat) (h1 : 256 ≤ X) (h2 : X < 512) : 31 - fJ6_numberOfLeadingZeros_0f7a4 (nI X) = nI 8 := by
  unfold fJ6_numberOfLeadingZeros_0f7a4
  rw [if_pos (show (0 : Int32) < nI X from nI_lt (a := 0) (by omega) (by omega))]
  rw [if_pos (show nI (X) < 65536 from nI_lt (b := 65536) (by omega) (by omega))]
  rw [if_neg (show ¬ nI (X) < 256 from nI_nlt (b := 256) (by omega) (by omega))]
  rw [su8 (a := X) (by omega)]
  rw [if_pos (show nI (X / 256) < 16 from nI_lt (b := 16) (by omega) (by omega))]
  rw [if_pos (show nI (X / 256) < 4 from nI_lt (b := 4) (by omega) (by omega))]
  rw [su1 (a := X / 256) (by omega)]
  rw [show X / 256 / 2 = 0 from by omega]
  decide
theorem hi9 (X : Nat) (h1 : 512 ≤ X) (h2 : X < 1024) : 31 - fJ6_numberOfLeadingZeros_0f7a4 (nI X) = nI 9 := by
  unfold fJ6_numberOfLeadingZeros_0f7a4
  rw [if_pos (show (0 : Int32) < nI X from nI_lt (a := 0) (by omega) (by omega))]
  rw [if_pos (show nI (X) < 65536 from nI_lt (b := 65536) (by omega) (by omega))]
  rw [if_neg (show ¬ nI (X) < 256 from nI_nlt (b := 256) (by omega) (by omega))]
  rw [su8 (a := X) (by omega)]
  rw [if_pos (show nI (X / 256) < 16 from nI_lt (b := 16) (by omega) (by omega))]
  rw [if_pos (show nI (X / 256) < 4 from nI_lt (b := 4) (by omega) (by omega))]
  rw [su1 (a := X / 256) (by omega)]
  rw [show X / 256 / 2 = 1 from by omega]
  decide
theorem hi10 (X : Nat) (h1 : 1024 ≤ X) (h2 : X < 2048) : 31 - fJ6_numberOfLeadingZeros_0f7a4 (nI X) = nI 10 := by
  unfold fJ6_numberOfLeadingZeros_0f7a4
  rw [if_pos (show (0 : Int32) < nI X from nI_lt (a := 0) (by omega) (by omega))]
  rw [if_pos (show nI (X) < 65536 from nI_lt (b := 65536) (by omega) (by omega))]
  rw [if_neg (show ¬ nI (X) < 256 from nI_nlt (b := 256) (by omega) (by omega))]
  rw [su8 (a := X) (by omega)]
  rw [if_pos (show nI (X / 256) < 16 from nI_lt (b := 16) (by omega) (by omega))]
  rw [if_neg (show ¬ nI (X / 256) < 4 from nI_nlt (b := 4) (by omega) (by omega))]
  rw [su2 (a := X / 256) (by omega)]
  rw [su1 (a := X / 256 / 4) (by omega)]
  rw [show X / 256 / 4 / 2 = 0 from by omega]
  decide
theorem hi11 (X : Nat) (h1 : 2048 ≤ X) (h2 : X < 4096) : 31 - fJ6_numberOfLeadingZeros_0f7a4 (nI X) = nI 11 := by
  unfold fJ6_numberOfLeadingZeros_0f7a4
  rw [if_pos (show (0 : Int32) < nI X from nI_lt (a := 0) (by omega) (by omega))]
  rw [if_pos (show nI (X) < 65536 from nI_lt (b := 65536) (by omega) (by omega))]
  rw [if_neg (show ¬ nI (X) < 256 from nI_nlt (b := 256) (by omega) (by omega))]
  rw [su8 (a := X) (by omega)]
  rw [if_pos (show nI (X / 256) < 16 from nI_lt (b := 16) (by omega) (by omega))]
  rw [if_neg (show ¬ nI (X / 256) < 4 from nI_nlt (b := 4) (by omega) (by omega))]
  rw [su2 (a := X / 256) (by omega)]
  rw [su1 (a := X / 256 / 4) (by omega)]
  rw [show X / 256 / 4 / 2 = 1 from by omega]
  decide
theorem hi12 (X : Nat) (h1 : 4096 ≤ X) (h2 : X < 8192) : 31 - fJ6_numberOfLeadingZeros_0f7a4 (nI X) = nI 12 := by
  unfold fJ6_numberOfLeadingZeros_0f7a4
  rw [if_pos (show (0 : Int32) < nI X from nI_lt (a := 0) (by omega) (by omega))]
  rw [if_pos (show nI (X) < 65536 from nI_lt (b := 65536) (by omega) (by omega))]
  rw [if_neg (show ¬ nI (X) < 256 from nI_nlt (b := 256) (by omega) (by omega))]
  rw [su8 (a := X) (by omega)]
  rw [if_neg (show ¬ nI (X / 256) < 16 from nI_nlt (b := 16) (by omega) (by omega))]
  rw [su4 (a := X / 256) (by omega)]
  rw [if_pos (show nI (X / 256 / 16) < 4 from nI_lt (b := 4) (by omega) (by omega))]
  rw [su1 (a := X / 256 / 16) (by omega)]
  rw [show X / 256 / 16 / 2 = 0 from by omega]
  decide
theorem hi13 (X : Nat) (h1 : 8192 ≤ X) (h2 : X < 16384) : 31 - fJ6_numberOfLeadingZeros_0f7a4 (nI X) = nI 13 := by
  unfold fJ6_numberOfLeadingZeros_0f7a4
  rw [if_pos (show (0 : Int32) < nI X from nI_lt (a := 0) (by omega) (by omega))]
  rw [if_pos (show nI (X) < 65536 from nI_lt (b := 65536) (by omega) (by omega))]
  rw [if_neg (show ¬ nI (X) < 256 from nI_nlt (b := 256) (by omega) (by omega))]
  rw [su8 (a := X) (by omega)]
  rw [if_neg (show ¬ nI (X / 256) < 16 from nI_nlt (b := 16) (by omega) (by omega))]
  rw [su4 (a := X / 256) (by omega)]
  rw [if_pos (show nI (X / 256 / 16) < 4 from nI_lt (b := 4) (by omega) (by omega))]
  rw [su1 (a := X / 256 / 16) (by omega)]
  rw [show X / 256 / 16 / 2 = 1 from by omega]
  decide
theorem hi14 (X : Nat) (h1 : 16384 ≤ X) (h2 : X < 32768) : 31 - fJ6_numberOfLeadingZeros_0f7a4 (nI X) = nI 14 := by
  unfold fJ6_numberOfLeadingZeros_0f7a4
  rw [if_pos (show (0 : Int32) < nI X from nI_lt (a := 0) (by omega) (by omega))]
  rw [if_pos (show nI (X) < 65536 from nI_lt (b := 65536) (by omega) (by omega))]
  rw [if_neg (show ¬ nI (X) < 256 from nI_nlt (b := 256) (by omega) (by omega))]
  rw [su8 (a := X) (by omega)]
  rw [if_neg (show ¬ nI (X / 256) < 16 from nI_nlt (b := 16) (by omega) (by omega))]
  rw [su4 (a := X / 256) (by omega)]
  rw [if_neg (show ¬ nI (X / 256 / 16) < 4 from nI_nlt (b := 4) (by omega) (by omega))]
  rw [su2 (a := X / 256 / 16) (by omega)]
  rw [su1 (a := X / 256 / 16 / 4) (by omega)]
  rw [show X / 256 / 16 / 4 / 2 = 0 from by omega]
  decide
theorem hi15 (X : Nat) (h1 : 32768 ≤ X) (h2 : X < 65536) : 31 - fJ6_numberOfLeadingZeros_0f7a4 (nI X) = nI 15 := by
  unfold fJ6_numberOfLeadingZeros_0f7a4
  rw [if_pos (show (0 : Int32) < nI X from nI_lt (a := 0) (by omega) (by omega))]
  rw [if_pos (show nI (X) < 65536 from nI_lt (b := 65536) (by omega) (by omega))]
  rw [if_neg (show ¬ nI (X) < 256 from nI_nlt (b := 256) (by omega) (by omega))]
  rw [su8 (a := X) (by omega)]
  rw [if_neg (show ¬ nI (X / 256) < 16 from nI_nlt (b := 16) (by omega) (by omega))]
  rw [su4 (a := X / 256) (by omega)]
  rw [if_neg (show ¬ nI (X / 256 / 16) < 4 from nI_nlt (b := 4) (by omega) (by omega))]
  rw [su2 (a := X / 256 / 16) (by omega)]
  rw [su1 (a := X / 256 / 16 / 4) (by omega)]
  rw [show X / 256 / 16 / 4 / 2 = 1 from by omega]
  decide
theorem hi16 (X : Nat) (h1 : 65536 ≤ X) (h2 : X < 131072) : 31 - fJ6_numberOfLeadingZeros_0f7a4 (nI X) = nI 16 := by
  unfold fJ6_numberOfLeadingZeros_0f7a4
  rw [if_pos (show (0 : Int32) < nI X from nI_lt (a := 0) (by omega) (by omega))]
  rw [if_neg (show ¬ nI (X) < 65536 from nI_nlt (b := 65536) (by omega) (by omega))]
  rw [su16 (a := X) (by omega)]
  rw [if_pos (show nI (X / 65536) < 256 from nI_lt (b := 256) (by omega) (by omega))]
  rw [if_pos (show nI (X / 65536) < 16 from nI_lt (b := 16) (by omega) (by omega))]
  rw [if_pos (show nI (X / 65536) < 4 from nI_lt (b := 4) (by omega) (by omega))]
  rw [su1 (a := X / 65536) (by omega)]
  rw [show X / 65536 / 2 = 0 from by omega]
  decide
theorem hi17 (X : Nat) (h1 : 131072 ≤ X) (h2 : X < 262144) : 31 - fJ6_numberOfLeadingZeros_0f7a4 (nI X) = nI 17 := by
  unfold fJ6_numberOfLeadingZeros_0f7a4
  rw [if_pos (show (0 : Int32) < nI X from nI_lt (a := 0) (by omega) (by omega))]
  rw [if_neg (show ¬ nI (X) < 65536 from nI_nlt (b := 65536) (by omega) (by omega))]
  rw [su16 (a := X) (by omega)]
  rw [if_pos (show nI (X / 65536) < 256 from nI_lt (b := 256) (by omega) (by omega))]
  rw [if_pos (show nI (X / 65536) < 16 from nI_lt (b := 16) (by omega) (by omega))]
  rw [if_pos (show nI (X / 65536) < 4 from nI_lt (b := 4) (by omega) (by omega))]
  rw [su1 (a := X / 65536) (by omega)]
  rw [show X / 65536 / 2 = 1 from by omega]
  decide
theorem hi18 (X : Nat) (h1 : 262144 ≤ X) (h2 : X < 524288) : 31 - fJ6_numberOfLeadingZeros_0f7a4 (nI X) = nI 18 := by
  unfold fJ6_numberOfLeadingZeros_0f7a4
  rw [if_pos (show (0 : Int32) < nI X from nI_lt (a := 0) (by omega) (by omega))]
  rw [if_neg (show ¬ nI (X) < 65536 from nI_nlt (b := 65536) (by omega) (by omega))]
  rw [su16 (a := X) (by omega)]
  rw [if_pos (show nI (X / 65536) < 256 from nI_lt (b := 256) (by omega) (by omega))]
  rw [if_pos (show nI (X / 65536) < 16 from nI_lt (b := 16) (by omega) (by omega))]
  rw [if_neg (show ¬ nI (X / 65536) < 4 from nI_nlt (b := 4) (by omega) (by omega))]
  rw [su2 (a := X / 65536) (by omega)]
  rw [su1 (a := X / 65536 / 4) (by omega)]
  rw [show X / 65536 / 4 / 2 = 0 from by omega]
  decide
theorem hi19 (X : Nat) (h1 : 524288 ≤ X) (h2 : X < 1048576) : 31 - fJ6_numberOfLeadingZeros_0f7a4 (nI X) = nI 19 := by
  unfold fJ6_numberOfLeadingZeros_0f7a4
  rw [if_pos (show (0 : Int32) < nI X from nI_lt (a := 0) (by omega) (by omega))]
  rw [if_neg (show ¬ nI (X) < 65536 from nI_nlt (b := 65536) (by omega) (by omega))]
  rw [su16 (a := X) (by omega)]
  rw [if_pos (show nI (X / 65536) < 256 from nI_lt (b := 256) (by omega) (by omega))]
  rw [if_pos (show nI (X / 65536) < 16 from nI_lt (b := 16) (by omega) (by omega))]
  rw [if_neg (show ¬ nI (X / 65536) < 4 from nI_nlt (b := 4) (by omega) (by omega))]
  rw [su2 (a := X / 65536) (by omega)]
  rw [su1 (a := X / 65536 / 4) (by omega)]
  rw [show X / 65536 / 4 / 2 = 1 from by omega]
  decide
theorem hi20 (X : Nat) (h1 : 1048576 ≤ X) (h2 : X < 2097152) : 31 - fJ6_numberOfLeadingZeros_0f7a4 (nI X) = nI 20 := by
  unfold fJ6_numberOfLeadingZeros_0f7a4
  rw [if_pos (show (0 : Int32) < nI X from nI_lt (a := 0) (by omega) (by omega))]
  rw [if_neg (show ¬ nI (X) < 65536 from nI_nlt (b := 65536) (by omega) (by omega))]
  rw [su16 (a := X) (by omega)]
  rw [if_pos (show nI (X / 65536) < 256 from nI_lt (b := 256) (by omega) (by omega))]
  rw [if_neg (show ¬ nI (X / 65536) < 16 from nI_nlt (b := 16) (by omega) (by omega))]
  rw [su4 (a := X / 65536) (by omega)]
  rw [if_pos (show nI (X / 65536 / 16) < 4 from nI_lt (b := 4) (by omega) (by omega))]
  rw [su1 (a := X / 65536 / 16) (by omega)]
  rw [show X / 65536 / 16 / 2 = 0 from by omega]
  decide
theorem hi21 (X : Nat) (h1 : 2097152 ≤ X) (h2 : X < 4194304) : 31 - fJ6_numberOfLeadingZeros_0f7a4 (nI X) = nI 21 := by
  unfold fJ6_numberOfLeadingZeros_0f7a4
  rw [if_pos (show (0 : Int32) < nI X from nI_lt (a := 0) (by omega) (by omega))]
  rw [if_neg (show ¬ nI (X) < 65536 from nI_nlt (b := 65536) (by omega) (by omega))]
  rw [su16 (a := X) (by omega)]
  rw [if_pos (show nI (X / 65536) < 256 from nI_lt (b := 256) (by omega) (by omega))]
  rw [if_neg (show ¬ nI (X / 65536) < 16 from nI_nlt (b := 16) (by omega) (by omega))]
  rw [su4 (a := X / 65536) (by omega)]
  rw [if_pos (show nI (X / 65536 / 16) < 4 from nI_lt (b := 4) (by omega) (by omega))]
  rw [su1 (a := X / 65536 / 16) (by omega)]
  rw [show X / 65536 / 16 / 2 = 1 from by omega]
  decide
theorem hi22 (X : Nat) (h1 : 4194304 ≤ X) (h2 : X < 8388608) : 31 - fJ6_numberOfLeadingZeros_0f7a4 (nI X) = nI 22 := by
  unfold fJ6_numberOfLeadingZeros_0f7a4
  rw [if_pos (show (0 : Int32) < nI X from nI_lt (a := 0) (by omega) (by omega))]
  rw [if_neg (show ¬ nI (X) < 65536 from nI_nlt (b := 65536) (by omega) (by omega))]
  rw [su16 (a := X) (by omega)]
  rw [if_pos (show nI (X / 65536) < 256 from nI_lt (b := 256) (by omega) (by omega))]
  rw [if_neg (show ¬ nI (X / 65536) < 16 from nI_nlt (b := 16) (by omega) (by omega))]
  rw [su4 (a := X / 65536) (by omega)]
  rw [if_neg (show ¬ nI (X / 65536 / 16) < 4 from nI_nlt (b := 4) (by omega) (by omega))]
  rw [su2 (a := X / 65536 / 16) (by omega)]
  rw [su1 (a := X / 65536 / 16 / 4) (by omega)]
  rw [show X / 65536 / 16 / 4 / 2 = 0 from by omega]
  decide
theorem hi23 (X : Nat) (h1 : 8388608 ≤ X) (h2 : X < 16777216) : 31 - fJ6_numberOfLeadingZeros_0f7a4 (nI X) = nI 23 := by
  unfold fJ6_numberOfLeadingZeros_0f7a4
  rw [if_pos (show (0 : Int32) < nI X from nI_lt (a := 0) (by omega) (by omega))]
  rw [if_neg (show ¬ nI (X) < 65536 from nI_nlt (b := 65536) (by omega) (by omega))]
  rw [su16 (a := X) (by omega)]
  rw [if_pos (show nI (X / 65536) < 256 from nI_lt (b := 256) (by omega) (by omega))]
  rw [if_neg (show ¬ nI (X / 65536) < 16 from nI_nlt (b := 16) (by omega) (by omega))]
  rw [su4 (a := X / 65536) (by omega)]
  rw [if_neg (show ¬ nI (X / 65536 / 16) < 4 from nI_nlt (b := 4) (by omega) (by omega))]
  rw [su2 (a := X / 65536 / 16) (by omega)]
  rw [su1 (a := X / 65536 / 16 / 4) (by omega)]
  rw [show X / 65536 / 16 / 4 / 2 = 1 from by omega]
  decide
theorem high_eq {x : Int32} {c : Nat} (hc : c < 24) (h1 : bt x c = true) (h0 : ∀ d, c < d → bt x d = false) : fX0_highest x = nI c := by
  unfold fX0_highest
  have tb : ∀ i, bt x i = x.toBitVec.toNat.testBit i := fun i => by simp [bt, BitVec.getLsbD]
  have hge : 2 ^ c ≤ x.toBitVec.toNat := by
    apply Nat.ge_two_pow_of_testBit; rw [← tb]; exact h1
  have hlt : x.toBitVec.toNat < 2 ^ (c + 1) := by
    apply Nat.lt_pow_two_of_testBit
    intro i hi
    rw [← tb]; exact h0 i (by omega)
  have hx : x = nI x.toBitVec.toNat := by
    apply Int32.toBitVec_inj.mp
    apply BitVec.eq_of_toNat_eq
    have : (nI x.toBitVec.toNat).toBitVec = BitVec.ofNat 32 x.toBitVec.toNat := rfl
    rw [this]
    simp
  rw [hx]
  generalize x.toBitVec.toNat = X at hge hlt
  rcases (show c = 0 ∨ c = 1 ∨ c = 2 ∨ c = 3 ∨ c = 4 ∨ c = 5 ∨ c = 6 ∨ c = 7 ∨ c = 8 ∨ c = 9 ∨ c = 10 ∨ c = 11 ∨ c = 12 ∨ c = 13 ∨ c = 14 ∨ c = 15 ∨ c = 16 ∨ c = 17 ∨ c = 18 ∨ c = 19 ∨ c = 20 ∨ c = 21 ∨ c = 22 ∨ c = 23 by omega) with rfl | rfl | rfl | rfl | rfl | rfl | rfl | rfl | rfl | rfl | rfl | rfl | rfl | rfl | rfl | rfl | rfl | rfl | rfl | rfl | rfl | rfl | rfl | rfl
  · exact hi0 X (by simpa using hge) (by simpa using hlt)
  · exact hi1 X (by simpa using hge) (by simpa using hlt)
  · exact hi2 X (by simpa using hge) (by simpa using hlt)
  · exact hi3 X (by simpa using hge) (by simpa using hlt)
  · exact hi4 X (by simpa using hge) (by simpa using hlt)
  · exact hi5 X (by simpa using hge) (by simpa using hlt)
  · exact hi6 X (by simpa using hge) (by simpa using hlt)
  · exact hi7 X (by simpa using hge) (by simpa using hlt)
  · exact hi8 X (by simpa using hge) (by simpa using hlt)
  · exact hi9 X (by simpa using hge) (by simpa using hlt)
  · exact hi10 X (by simpa using hge) (by simpa using hlt)
  · exact hi11 X (by simpa using hge) (by simpa using hlt)
  · exact hi12 X (by simpa using hge) (by simpa using hlt)
  · exact hi13 X (by simpa using hge) (by simpa using hlt)
  · exact hi14 X (by simpa using hge) (by simpa using hlt)
  · exact hi15 X (by simpa using hge) (by simpa using hlt)
  · exact hi16 X (by simpa using hge) (by simpa using hlt)
  · exact hi17 X (by simpa using hge) (by simpa using hlt)
  · exact hi18 X (by simpa using hge) (by simpa using hlt)
  · exact hi19 X (by simpa using hge) (by simpa using hlt)
  · exact hi20 X (by simpa using hge) (by simpa using hlt)
  · exact hi21 X (by simpa using hge) (by simpa using hlt)
  · exact hi22 X (by simpa using hge) (by simpa using hlt)
  · exact hi23 X (by simpa using hge) (by simpa using hlt)
theorem high_0 : fX0_highest 0 = -1 := by decide +kernel
theorem low_0 : fX0_lowest 0 = 32 := by decide +kernel
