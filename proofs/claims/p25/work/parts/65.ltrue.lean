/-! the law is true of every script -/
section LT
variable {xs : Nat → Int32} {L : Nat}
theorem tv_m {k : Nat} (hk : k < 5) : ∃ τ, τ ≤ 4 ∧ nI k - 1 = tv τ := by
  cases k with
  | zero => exact ⟨4, Nat.le_refl _, by decide⟩
  | succ k => exact ⟨k, by omega, by rw [nI_pred]; unfold tv; rw [if_pos (by omega)]⟩
theorem t_begin {M N : Mem} {mo x : Nat} {v5 v7 : Int32} (hx : x < 2 ^ 31) (h : IV mo M N) : ∃ M' N', fL_law_R199 xs L v5 v7 (nI x) M N = some (1, M', N') ∧ IV mo M' N' := by
  have e4 : nI x / 4 = nI (x / 4) := dv_4 hx
  have e5 : im (nI (x / 4)) 5 = nI (x / 4 % 5) := im_N (d := 5) (by omega) (by decide) (by decide)
  obtain ⟨τ', hτ', ht⟩ := tv_m (show x / 4 % 5 < 5 from Nat.mod_lt _ (by decide))
  obtain ⟨M', e, hC, h3⟩ := c_begin hτ' M
  have hMN : M 0 3 = N 2 1 := by
    obtain ⟨τ, hτ, ⟨d, hD⟩ | ⟨T, d, l, n, pl, hG⟩⟩ := h
    · rw [hD.2.1, hD.2.2.1.2.2.1]
    · rw [hG.1.2.1.1, hG.2.1.2.1.2.1]
  have hc0 : cnt 0 = 0 := cnt0z
  refine ⟨M', mset (mset (mset (mset (mset (mset (mset (mset N 2 1 (tv τ')) 2 0 0) 2 3 0) 0 0 0) 0 1 0) 0 2 0) 0 3 0) 2 2 0, ?_, τ', hτ', Or.inl ⟨fun _ => 0, hC, h3, ⟨fun p hp => ?_, ?_, ?_, ?_, ?_⟩, fun p hp => by show cnt 0 ≤ mo; omega⟩⟩
  · unfold fL_law_R199
    rw [e4, e5, ht, e, if_pos (show (0 : Nat) = 0 from rfl), if_pos hMN]
  · obtain rfl | rfl | rfl | rfl : p = 0 ∨ p = 1 ∨ p = 2 ∨ p = 3 := by omega
    all_goals (simp only [mset_at]; simp)
  · simp only [mset_at]; simp
  · simp only [mset_at]; simp
  · simp only [mset_at]; simp
  · simp only [mset_at]; simp
theorem t_x {M N : Mem} {t : Nat} {v5 : Int32} (hL : L ≤ 260) (ht : t < 60) : ∃ x, x < 2 ^ 31 ∧ fL_law_R105 xs L v5 1 (nI t) M N = some (nI x) := by
  unfold fL_law_R105
  simp only [show Int32.ofNat L = nI L from rfl, le_N (show L < 2 ^ 31 by omega) (show t < 2 ^ 31 by omega)]
  by_cases h : L ≤ t
  · rw [if_pos h]
    obtain ⟨x, hx, e⟩ := pk_andE (60013 * nI t * nI t + 1511 * nI t + 37) (m := 2147483647) 31 (by decide)
    exact ⟨x, hx, by rw [e]⟩
  · rw [if_neg h, if_pos (vin_N (by omega) (by omega))]
    obtain ⟨x, hx, e⟩ := pk_andE (xs ((nI t).toNatClampNeg)) (m := 2147483647) 31 (by decide)
    exact ⟨x, hx, by rw [e]⟩
theorem t_over {M N : Mem} {v5 v7 v8 : Int32} : ∃ b : Bool, fL_law_R145 xs L v5 1 v7 v8 M N = some (allH N, b01 b) ∧ (b = true ↔ N 2 3 = 1 ∧ allH N = 0) := by
  unfold fL_law_R145
  by_cases h1 : N 2 3 = 1
  · rw [if_pos h1]
    by_cases h2 : allH N = 0
    · exact ⟨true, if_pos h2, fun _ => ⟨h1, h2⟩, fun _ => rfl⟩
    · exact ⟨false, if_neg h2, fun z => (by cases z), fun z => absurd z.2 h2⟩
  · rw [if_neg h1]
    exact ⟨false, rfl, fun z => (by cases z), fun z => absurd z.1 h1⟩
theorem t_deed {M N : Mem} {mo x t : Nat} {b : Bool} (hmo : mo ≤ 3) (hx : x < 2 ^ 31) (ht : t < 60) (h : IV mo M N) (hb : b = true ↔ N 2 3 = 1 ∧ allH N = 0) : ∃ M' N', fL_law_R182 xs L (nI mo) 1 (nI t) (nI x) (allH N) (b01 b) M N = some (1, M', N') ∧ IV mo M' N' := by
  obtain ⟨M1, N1, e1, h1⟩ := t_begin (xs := xs) (L := L) (v5 := nI mo) (v7 := nI t) hx h
  have key : ∃ M' N', fL_law_R271 xs L (nI mo) 1 (nI t) (nI x) (allH N) (b01 b) M N = some (1, M', N') ∧ IV mo M' N' := by
    obtain ⟨τ, hτ, ⟨d, hD⟩ | ⟨T, d, l, n, pl, hG⟩⟩ := h
    · exact deal_ok hτ hmo hx hD
    · obtain ⟨M2, N2, e2, h2⟩ := back_ok2 (xs := xs) (L := L) (v5 := nI mo) (v7 := nI t) (mo := mo) hG
      obtain ⟨M3, N3, e3, h3⟩ := play_ok (xs := xs) (L := L) (v5 := nI mo) (v7 := nI t) (mo := mo) hx hG
      unfold fL_law_R271 fL_law_R661
      rw [hG.2.1.2.2.2, if_neg (show ¬ (1 : Int32) = 0 by decide)]
      by_cases h5 : im (nI x) 5 = 0
      · rw [if_pos h5, e2, ob_s]
        exact ⟨M2, N2, rfl, h2⟩
      · rw [if_neg h5]
        by_cases h0 : b01 b = 0
        · rw [if_pos h0, e3, ob_s]
          exact ⟨M3, N3, rfl, h3⟩
        · rw [if_neg h0, e2, ob_s]
          exact ⟨M2, N2, rfl, h2⟩
  obtain ⟨M2, N2, e2, h2⟩ := key
  unfold fL_law_R182
  rw [e1, e2, ob_s, ob_s]
  split
  · exact ⟨M1, N1, rfl, h1⟩
  · split
    · exact ⟨M2, N2, rfl, h2⟩
    · split
      · exact ⟨M1, N1, rfl, h1⟩
      · exact ⟨M2, N2, rfl, h2⟩
theorem t_loop {mo : Nat} (hL : L ≤ 260) (hmo : mo ≤ 3) : ∀ F m t M N, m < F → t + m = 60 → IV mo M N → ∃ M' N', fL_law_L93 xs L F (nI mo) 1 (nI t) M N = some (1, M', N') := by
  intro F
  induction F with
  | zero => intro m t M N h; omega
  | succ F ih =>
    intro m t M N hm ht h
    rw [fL_law_L93.eq_2]
    by_cases h60 : 60 ≤ t
    · rw [if_pos (show (60 : Int32) ≤ nI t from nI_le (a := 60) h60 (by omega))]
      exact ⟨M, N, rfl⟩
    · obtain ⟨x, hx, e1⟩ := t_x (xs := xs) (L := L) (M := M) (N := N) (v5 := nI mo) hL (show t < 60 by omega)
      obtain ⟨b, e2, hb⟩ := t_over (xs := xs) (L := L) (M := M) (N := N) (v5 := nI mo) (v7 := nI t) (v8 := nI x)
      obtain ⟨M1, N1, e3, h1⟩ := t_deed (xs := xs) (L := L) hmo hx (show t < 60 by omega) h hb
      obtain ⟨M2, N2, M3, N3, e4, e5, h3⟩ := look_ok h1
      obtain ⟨M4, N4, e6⟩ := ih (m - 1) (t + 1) M3 N3 (by omega) (by omega) h3
      have e7 : fL_law_R937 xs L (nI mo) 1 (nI t) M1 N1 = some (1, M3, N3) := by
        unfold fL_law_R937
        rw [if_neg (show ¬ (1 : Int32) = 0 by decide), e4, ob_s]
        dsimp only
        rw [if_neg (show ¬ (1 : Int32) = 0 by decide), e5, ob_s]
        dsimp only
        rw [if_neg (show ¬ (1 : Int32) = 0 by decide)]
      rw [if_neg (show ¬ (60 : Int32) ≤ nI t from nI_ge (b := 60) (by omega) (by omega)), if_neg (show ¬ (1 : Int32) = 0 by decide), e1, ob_s, e2, ob_s]
      dsimp only
      rw [e3, ob_s]
      dsimp only
      rw [e7, ob_s, nI_1]
      exact ⟨M4, N4, e6⟩
theorem t_most {M N : Mem} (hL : L ≤ 260) : ∃ mo, mo ≤ 3 ∧ fL_law_R27 xs L M N = some (nI mo) := by
  have one : ∀ y : Int32, ∃ j, j < 2 ∧ y &&& 1 = nI j := fun y => by
    obtain ⟨j, hj, e⟩ := pk_andE y (m := 1) 1 (by decide)
    exact ⟨j, by omega, e⟩
  obtain ⟨a, ha, ea⟩ := one (xs 0)
  obtain ⟨b, hb, eb⟩ := one (xs 1)
  unfold fL_law_R27
  simp only [show Int32.ofNat L = nI L from rfl, show (nI L ≤ 0) = (L ≤ 0) from le_N (b := 0) (by omega) (by omega), show (nI L ≤ 1) = (L ≤ 1) from le_N (b := 1) (by omega) (by omega), ea, eb]
  have v0 : 0 < L → vin 0 L = true := fun h => vin_N (a := 0) h (by omega)
  have v1 : 1 < L → vin 1 L = true := fun h => vin_N (a := 1) h (by omega)
  by_cases h0 : L ≤ 0
  · rw [if_pos h0, if_pos (by omega)]
    exact ⟨3, by omega, by decide⟩
  · rw [if_neg h0, if_pos (v0 (by omega))]
    by_cases h1 : L ≤ 1
    · rw [if_pos h1]
      exact ⟨1 + a + 1, by omega, by rw [show (1 : Int32) + nI a = nI (1 + a) from nI_add 1 a, nI_1]⟩
    · rw [if_neg h1, if_pos (v1 (by omega))]
      exact ⟨1 + a + b, by omega, by rw [show (1 : Int32) + nI a = nI (1 + a) from nI_add 1 a, nI_add]⟩
end LT
theorem law_true (xs : Nat → Int32) {L : Nat} (hL : L ≤ 260) : fL_law xs L (mset (fun _ _ => 0) 0 3 (-1)) (mset (fun _ _ => 0) 2 1 (-1)) = some 1 := by
  generalize hM : mset (fun _ _ => (0 : Int32)) 0 3 (-1) = M
  generalize hN : mset (fun _ _ => (0 : Int32)) 2 1 (-1) = N
  have gM : ∀ i j, M i j = if i = 0 ∧ j = 3 then -1 else 0 := fun i j => by rw [← hM, mset_at]
  have gN : ∀ i j, N i j = if i = 2 ∧ j = 1 then -1 else 0 := fun i j => by rw [← hN, mset_at]
  obtain ⟨mo, hmo, e1⟩ := t_most (xs := xs) (M := M) (N := N) hL
  have h0 : IV mo M N := by
    refine ⟨4, Nat.le_refl _, Or.inl ⟨fun _ => 0, ⟨?_, fun p _ => c24_0, fun p _ => ?_, fun p q _ _ _ c hb => ?_, fun c => ?_, ?_, fun p _ => ?_⟩, ?_, ⟨fun p _ => ?_, ?_, ?_, ?_, ?_⟩, fun p _ => ?_⟩⟩
    · rw [gM]; simp
    · show cnt 0 ≤ 4
      rw [cnt0z]; omega
    · rw [bt_0] at hb; cases hb
    · rw [gM]; simp [bt_0]
    · rw [gM]; simp
    · rw [gM]; simp
    · rw [gM]; rfl
    · rw [gN]; simp
    · rw [gN]; simp
    · rw [gN]; rfl
    · rw [gN]; simp
    · rw [gN]; simp
    · show cnt 0 ≤ mo
      rw [cnt0z]; omega
  obtain ⟨M1, N1, M2, N2, e2, e3, h2⟩ := look_ok h0
  obtain ⟨M3, N3, e4⟩ := t_loop (xs := xs) (L := L) hL hmo 61 60 0 M2 N2 (by omega) (by omega) h2
  have e4' : fL_law_L93 xs L 61 (nI mo) 1 0 M2 N2 = some (1, M3, N3) := e4
  have e5 : fL_law_R61 xs L (nI mo) M N = some (1, M2, N2) := by
    unfold fL_law_R61
    rw [e2, ob_s]
    dsimp only
    rw [if_neg (show ¬ (1 : Int32) = 0 by decide), e3, ob_s]
    dsimp only
    rw [if_neg (show ¬ (1 : Int32) = 0 by decide)]
  unfold fL_law
  rw [e1, ob_s, e5, ob_s]
  dsimp only
  rw [e4', ob_s]
