/-! the law deals, and starts -/
theorem or_0 (x : Int32) : x ||| 0 = x := by
  apply bt_ext; intro c _
  rw [bt_or, bt_0]; simp
theorem LDl.more {N : Mem} {τ p c : Nat} {d : Nat → Int32} (h : LDl N τ d) (hp : p < 4) : LDl (mset N 0 p (d p ||| sl 1 (nI c))) τ (dG d p c) := by
  obtain ⟨r1, r2, r3, r4, r5⟩ := h
  refine ⟨fun q hq => ?_, by rw [mset_n _ _ _ (by decide)]; exact r2, by rw [mset_n _ _ _ (by decide)]; exact r3, by rw [mset_n _ _ _ (by decide)]; exact r4, by rw [mset_n _ _ _ (by decide)]; exact r5⟩
  rw [mset_s]
  unfold dG
  by_cases hqp : q = p
  · rw [hqp, upd_s, if_pos rfl]
  · rw [upd_n _ _ hqp, if_neg hqp]; exact r1 q hq
theorem LDl.same {N : Mem} {τ p : Nat} {d : Nat → Int32} (h : LDl N τ d) (hp : p < 4) : LDl (mset N 0 p (d p)) τ d := by
  obtain ⟨r1, r2, r3, r4, r5⟩ := h
  refine ⟨fun q hq => ?_, by rw [mset_n _ _ _ (by decide)]; exact r2, by rw [mset_n _ _ _ (by decide)]; exact r3, by rw [mset_n _ _ _ (by decide)]; exact r4, by rw [mset_n _ _ _ (by decide)]; exact r5⟩
  rw [mset_s]
  by_cases hqp : q = p
  · rw [hqp, upd_s]
  · rw [upd_n _ _ hqp]; exact r1 q hq
section DL
variable {xs : Nat → Int32} {L : Nat}
/-- which card: any -/
theorem d_card {M N : Mem} {v5 v6 v7 v8 v11 v12 v13 : Int32} : ∀ F m j c, m < F → j + m = 24 → c < 24 → ∃ c', c' < 24 ∧ fL_law_L358 xs L F v5 v6 v7 v8 v11 v12 v13 (nI c) (nI j) M N = some (nI c') := by
  intro F
  induction F with
  | zero => intro m j c h; omega
  | succ F ih =>
    intro m j c hm hj hc
    rw [fL_law_L358.eq_2]
    by_cases h24 : 24 ≤ j
    · rw [if_pos (show (24 : Int32) ≤ nI j from nI_le (a := 24) h24 (by omega))]
      exact ⟨c, hc, rfl⟩
    · rw [if_neg (show ¬ (24 : Int32) ≤ nI j from nI_ge (b := 24) (by omega) (by omega))]
      split
      · exact ⟨c, hc, rfl⟩
      · split
        · exact ⟨c, hc, rfl⟩
        · rw [show (nI c + 5 : Int32) = nI (c + 5) from nI_add c 5, show im (nI (c + 5)) 24 = nI ((c + 5) % 24) from im_N (d := 24) (by omega) (by decide) (by decide), nI_1]
          exact ih (m - 1) (j + 1) _ (by omega) (by omega) (Nat.mod_lt _ (by decide))
theorem d_one {M N : Mem} {τ mo x k : Nat} {d : Nat → Int32} {v7 v11 : Int32} (hmo : mo ≤ 3) (hx : x < 2 ^ 31) (hk : k < 12) (h : IVD M N τ mo d) :
    ∃ (q1 : Int32 × Int32) (q2 : Int32) (q3 : Int32 × Int32) (M' N' : Mem) (d' : Nat → Int32), fL_law_R319 xs L (nI mo) 1 v7 (nI x) v11 (nI k) M N = some q1 ∧ fL_law_L358 xs L 25 (nI mo) 1 v7 (nI x) v11 (nI k) q1.1 q1.2 0 M N = some q2 ∧ fL_law_R411 xs L (nI mo) 1 v7 (nI x) v11 (nI k) q1.1 q2 M N = some q3 ∧ fL_law_R473 xs L (nI mo) 1 v7 (nI x) v11 (nI k) q1.1 q2 q3.1 q3.2 M N = some (1, M', N') ∧ IVD M' N' τ mo d' := by
  obtain ⟨hC, h3, hN, hcnt⟩ := id h
  have e8 : nI x / 8 = nI (x / 8) := pk_div (d := 8) hx (by decide) (by decide)
  have e32 : nI x / 32 = nI (x / 32) := pk_div (d := 32) hx (by decide) (by decide)
  have e7 : nI x / 7 = nI (x / 7) := pk_div (d := 7) hx (by decide) (by decide)
  have e23 : im (nI (x / 7)) 23 = nI (x / 7 % 23) := im_N (d := 23) (by omega) (by decide) (by decide)
  have hmul : k * (1 + x / 7 % 23) ≤ 11 * 23 := Nat.mul_le_mul (by omega) (by omega)
  have hp : (x / 8 + k) % 4 < 4 := Nat.mod_lt _ (by decide)
  have hc0 : (x / 32 + k * (1 + x / 7 % 23)) % 24 < 24 := Nat.mod_lt _ (by decide)
  have e1 : fL_law_R319 xs L (nI mo) 1 v7 (nI x) v11 (nI k) M N = some (nI ((x / 8 + k) % 4), nI ((x / 32 + k * (1 + x / 7 % 23)) % 24)) := by
    unfold fL_law_R319
    rw [e8, nI_add, im_4 (by omega), e32, e7, e23, show (1 : Int32) + nI (x / 7 % 23) = nI (1 + x / 7 % 23) from nI_add 1 _, pk_mul, nI_add]
    rw [show im (nI (x / 32 + k * (1 + x / 7 % 23))) 24 = nI ((x / 32 + k * (1 + x / 7 % 23)) % 24) from im_N (d := 24) (by omega) (by decide) (by decide)]
  generalize (x / 8 + k) % 4 = p at hp e1
  generalize (x / 32 + k * (1 + x / 7 % 23)) % 24 = c0 at hc0 e1
  obtain ⟨c, hc, e2⟩ := d_card (xs := xs) (L := L) (M := M) (N := N) (v5 := nI mo) (v6 := 1) (v7 := v7) (v8 := nI x) (v11 := v11) (v12 := nI k) (v13 := nI p) 25 24 0 c0 (by omega) (by omega) hc0
  have hcp := hcnt p hp
  have hall := h.lk.all c
  have hs : fL_size (N 0 p) = some (nI (cnt (d p))) := by rw [hN.1 p hp]; exact lsize (hC.2.1 p hp)
  have v : vin (nI p) 4 = true := vin_N hp (by omega)
  have cl : (nI p).toNatClampNeg = p := cl_N (by omega)
  by_cases hdealt : ∃ q, q < 4 ∧ bt (d q) c = true
  · have hb : bt (allH N) c = true := hall.mpr hdealt
    have hg := c_give0 hC hp hc (Or.inl hdealt)
    refine ⟨_, _, (0, -13), M, mset N 0 p (d p), d, e1, e2, ?_, ?_, hC, h3, hN.same hp, hcnt⟩
    · unfold fL_law_R411
      rw [lhas (by omega), hb, if_neg (show ¬ b01 true = 0 by decide)]
    · unfold fL_law_R473
      dsimp only
      rw [v, if_pos rfl, cl, hs, ob_s, hg, hN.1 p hp, or_0]
      simp [dv_2]
  · have hno : ∀ q, q < 4 → bt (d q) c = false := fun q hq => by
      cases hz : bt (d q) c with
      | false => rfl
      | true => exact absurd ⟨q, hq, hz⟩ hdealt
    have hb : bt (allH N) c = false := by
      cases hz : bt (allH N) c with
      | false => rfl
      | true => exact absurd (hall.mp hz) hdealt
    obtain ⟨M', hg, g1, g2⟩ := c_give1 hC hp hc hno (by omega)
    have e3 : fL_law_R411 xs L (nI mo) 1 v7 (nI x) v11 (nI k) (nI p) (nI c) M N = some (1, nI (cnt (d p) + 1)) := by
      unfold fL_law_R411
      rw [lhas (by omega), hb, if_pos (show b01 false = 0 from rfl), v, if_pos rfl, cl, hs, ob_s, if_neg (show ¬ (4 : Int32) ≤ nI (cnt (d p)) from nI_ge (b := 4) (by omega) (by omega)), if_pos rfl, ob_s, nI_1]
    have hlt : (nI (cnt (d p)) < nI mo) = (cnt (d p) < mo) := lt_N (by omega) (by omega)
    by_cases hm : cnt (d p) < mo
    · refine ⟨_, _, _, M', mset N 0 p (d p ||| sl 1 (nI c)), dG d p c, e1, e2, e3, ?_, g1, by rw [g2]; exact h3, hN.more hp, fun q hq => ?_⟩
      · unfold fL_law_R473
        dsimp only
        rw [v, if_pos rfl, cl, hs, ob_s, hg, hN.1 p hp]
        simp [dv_0, hlt, hm]
      · unfold dG
        by_cases hqp : q = p
        · rw [if_pos hqp, cnt_add hc (hno p hp)]; omega
        · rw [if_neg hqp]; exact hcnt q hq
    · refine ⟨_, _, _, M, N, d, e1, e2, e3, ?_, hC, h3, hN, hcnt⟩
      unfold fL_law_R473
      dsimp only
      rw [v, if_pos rfl, cl, hs, ob_s]
      simp [hlt, hm]
theorem d_loop {τ mo x : Nat} {v7 v11 : Int32} (hmo : mo ≤ 3) (hx : x < 2 ^ 31) (hv : v11.toInt ≤ 12) : ∀ F m k M N d, m < F → k + m = 12 → IVD M N τ mo d → ∃ M' N' d', fL_law_L293 xs L F (nI mo) 1 v7 (nI x) v11 (nI k) M N = some (1, M', N') ∧ IVD M' N' τ mo d' := by
  intro F
  induction F with
  | zero => intro m k M N d h; omega
  | succ F ih =>
    intro m k M N d hm hk h
    rw [fL_law_L293.eq_2]
    by_cases hle : v11 ≤ nI k
    · rw [if_pos hle]
      exact ⟨M, N, d, rfl, h⟩
    · have hk12 : k < 12 := by
        rw [Int32.le_iff_toInt_le, nI_toInt (by omega)] at hle
        omega
      obtain ⟨q1, q2, q3, M', N', d', e1, e2, e3, e4, h'⟩ := d_one (xs := xs) (L := L) (v7 := v7) (v11 := v11) hmo hx hk12 h
      obtain ⟨M2, N2, d2, e5, h2⟩ := ih (m - 1) (k + 1) M' N' d' (by omega) (by omega) h'
      rw [if_neg hle, if_neg (show ¬ (1 : Int32) = 0 by decide), e1, ob_s, e2, ob_s, e3, ob_s, e4, ob_s, nI_1]
      dsimp only
      rw [e5]
      by_cases h5 : nI k < 5
      · rw [if_pos h5]; exact ⟨M2, N2, d2, rfl, h2⟩
      · rw [if_neg h5]
        by_cases h8 : im (nI x) 8 ≤ 0
        · rw [if_pos h8]; exact ⟨M, N, d, rfl, h⟩
        · rw [if_neg h8]; exact ⟨M2, N2, d2, rfl, h2⟩
/-- dealing, then the start -/
theorem deal_ok {M N : Mem} {τ mo x : Nat} {d : Nat → Int32} {v7 v10 : Int32} (hτ : τ ≤ 4) (hmo : mo ≤ 3) (hx : x < 2 ^ 31) (h : IVD M N τ mo d) : ∃ M' N', fL_law_R271 xs L (nI mo) 1 v7 (nI x) (allH N) v10 M N = some (1, M', N') ∧ IV mo M' N' := by
  have h24 : c24 (allH N) := fun c hc => by
    cases hz : bt (allH N) c with
    | false => rfl
    | true =>
      obtain ⟨q, q1, q2⟩ := (h.lk.all c).mp hz
      rw [h.1.2.1 q q1 c hc] at q2; cases q2
  have hle : cnt (allH N) ≤ 24 := cn_le (bt (allH N)) 24
  have e4 : (4 : Int32) * nI mo = nI (4 * mo) := pk_mul 4 mo
  have hv : (nI (4 * mo) - nI (cnt (allH N))).toInt ≤ 12 := by
    rw [pk_sub_toInt (by omega) (by omega)]; omega
  obtain ⟨M1, N1, d1, e1, h1⟩ := d_loop (xs := xs) (L := L) (v7 := v7) hmo hx hv 13 12 0 M N d (by omega) (by omega) h
  have e1' : fL_law_L293 xs L 13 (nI mo) 1 v7 (nI x) (nI (4 * mo) - nI (cnt (allH N))) 0 M N = some (1, M1, N1) := e1
  have s1 : fL_law_R278 xs L (nI mo) 1 v7 (nI x) (allH N) M N = some (1, M1, N1) := by
    unfold fL_law_R278
    rw [lsize h24, ob_s, e4, e1', ob_s]
  obtain ⟨hC, h3, hN, hcnt⟩ := id h1
  have b0 := hcnt 0 (by omega)
  have b1 := hcnt 1 (by omega)
  have b2 := hcnt 2 (by omega)
  have b3 := hcnt 3 (by omega)
  have hs : ∀ p, p < 4 → fL_size (N1 0 p) = some (nI (cnt (d1 p))) := fun p hp => by rw [hN.1 p hp]; exact lsize (hC.2.1 p hp)
  have s2 : ∃ cb : Bool, fL_law_R537 xs L (nI mo) 1 v7 (nI x) M1 N1 = some (nI (cnt (d1 0)), b01 cb) ∧ (cb = true ↔ 0 < cnt (d1 0) ∧ cnt (d1 1) = cnt (d1 0) ∧ cnt (d1 2) = cnt (d1 0) ∧ cnt (d1 3) = cnt (d1 0)) := by
    unfold fL_law_R537
    rw [hs 0 (by omega), hs 1 (by omega), hs 2 (by omega), hs 3 (by omega)]
    simp only [ob_s, eq_N (show cnt (d1 1) < 2 ^ 31 by omega) (show cnt (d1 0) < 2 ^ 31 by omega), eq_N (show cnt (d1 2) < 2 ^ 31 by omega) (show cnt (d1 0) < 2 ^ 31 by omega), eq_N (show cnt (d1 3) < 2 ^ 31 by omega) (show cnt (d1 0) < 2 ^ 31 by omega), show (nI (cnt (d1 0)) ≤ 0) = (cnt (d1 0) ≤ 0) from le_N (b := 0) (by omega) (by omega)]
    by_cases z0 : cnt (d1 0) ≤ 0
    · rw [if_pos z0]; exact ⟨false, rfl, fun z => (by cases z), fun z => by omega⟩
    · rw [if_neg z0]
      by_cases z1 : cnt (d1 1) = cnt (d1 0)
      · rw [if_pos z1]
        by_cases z2 : cnt (d1 2) = cnt (d1 0)
        · rw [if_pos z2]
          by_cases z3 : cnt (d1 3) = cnt (d1 0)
          · rw [if_pos z3]; exact ⟨true, rfl, fun _ => ⟨by omega, z1, z2, z3⟩, fun _ => rfl⟩
          · rw [if_neg z3]; exact ⟨false, rfl, fun z => (by cases z), fun z => absurd z.2.2.2 z3⟩
        · rw [if_neg z2]; exact ⟨false, rfl, fun z => (by cases z), fun z => absurd z.2.2.1 z2⟩
      · rw [if_neg z1]; exact ⟨false, rfl, fun z => (by cases z), fun z => absurd z.2.1 z1⟩
  obtain ⟨cb, s2, hcb⟩ := s2
  have ex : im (nI x) 4 = nI (x % 4) := im_4 hx
  have hx4 : x % 4 < 4 := Nat.mod_lt _ (by decide)
  have s0 : fL_law_R271 xs L (nI mo) 1 v7 (nI x) (allH N) v10 M N = obind (fL_law_R590 xs L (nI mo) 1 v7 (nI x) (nI (cnt (d1 0))) (b01 cb) M1 N1) (fun q42 => obind (fL_law_R627 xs L (nI mo) q42.1 v7 (nI x) (b01 cb) q42.2.1 q42.2.2) (fun q43 => some (q42.1, q43.1, q43.2))) := by
    unfold fL_law_R271
    rw [h.2.2.1.2.2.2.2, if_pos rfl, s1, ob_s]
    dsimp only
    rw [s2, ob_s]
  rw [s0]
  unfold fL_law_R590 fL_law_R627
  rw [if_neg (show ¬ (1 : Int32) = 0 by decide), ex]
  cases cb with
  | false =>
    have hst := c_start0 hC hx4 (fun z => by have := hcb.mpr z; cases this)
    rw [hst, ob_s, if_pos (Or.inr rfl), if_pos (show b01 false = 0 from rfl), dv_2, if_pos rfl, ob_s]
    dsimp only
    rw [if_pos (show b01 false = 0 from rfl), if_pos (show b01 false = 0 from rfl), ob_s]
    refine ⟨_, _, rfl, τ, hτ, Or.inl ⟨d1, hC, h3, ?_, hcnt⟩⟩
    obtain ⟨r1, r2, r3, r4, r5⟩ := hN
    refine ⟨fun p hp => by
      show mset (mset N1 2 3 0) 2 2 0 0 p = d1 p
      rw [mset_n _ _ _ (by decide), mset_n _ _ _ (by decide)]; exact r1 p hp, ?_, ?_, ?_, ?_⟩
    · simp only [mset_at]; simp [r2]
    · simp only [mset_at]; simp [r3]
    · simp only [mset_at]; simp
    · simp only [mset_at]; simp
  | true =>
    obtain ⟨z0, z1, z2, z3⟩ := hcb.mp rfl
    have hcT : ∀ p, p < 4 → cnt (d1 p) = cnt (d1 0) := fun p hp => by
      obtain rfl | rfl | rfl | rfl : p = 0 ∨ p = 1 ∨ p = 2 ∨ p = 3 := by omega
      · rfl
      · exact z1
      · exact z2
      · exact z3
    obtain ⟨M2, hst, hG⟩ := c_start1 (pl := fun _ => 0) hC hτ h3 hx4 z0 hcT
    rw [hst, ob_s, if_pos (Or.inl rfl), if_neg (show ¬ b01 true = 0 by decide), dv_0, if_pos rfl, ob_s]
    dsimp only
    rw [if_neg (show ¬ b01 true = 0 by decide), if_neg (show ¬ b01 true = 0 by decide), ob_s]
    refine ⟨_, _, rfl, τ, hτ, Or.inr ⟨cnt (d1 0), d1, x % 4, 0, fun _ => 0, hG, ?_, by omega⟩⟩
    obtain ⟨r1, r2, r3, r4, r5⟩ := hN
    refine ⟨fun p hp => by
      show mset (mset N1 2 3 1) 2 2 (nI (x % 4)) 0 p = d1 p
      rw [mset_n _ _ _ (by decide), mset_n _ _ _ (by decide)]; exact r1 p hp, ⟨fun k hk => by omega, ?_, ?_⟩, ?_, ?_⟩
    · simp only [mset_at]; simp [r3]
    · simp only [mset_at]; simp
    · simp only [mset_at]; simp [r2]; rfl
    · simp only [mset_at]; simp
end DL
