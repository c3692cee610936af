/-! which card the reference allows, and its best card -/
theorem fits_ok {N : Mem} {τ T n c : Nat} {h : Nat → Int32} {pl ld : Nat → Nat} (r : NRep N τ n h pl ld) (w : WF τ T n h pl ld) (h2 : N 0 2 = 1) (hc : c < 24) :
    fX6_fits (nI c) N = some (if n < 4 * T ∧ legal (Hs h (mv n ld)) (n % 4) (ts n pl) c = true then 1 else 0) := by
  have hpl := player_ok r w h2
  obtain ⟨r0, r3, r4, r9, r10⟩ := r
  have hT := w.2.1
  have hm := mv_lt n ld
  unfold fX6_fits
  by_cases hn : n < 4 * T
  · rw [if_pos hn] at hpl
    rw [hpl, if_neg (ne_m1 (by omega)), if_pos (vin_N hm (by omega)), cl_N (by omega), r3 _ hm, has_eq (by omega), r9]
    simp only [show (0 : Int32) = nI 0 from rfl, eq_N (show n % 4 < 2 ^ 31 by omega) (show 0 < 2 ^ 31 by omega)]
    have hcl : ∀ b : Bool, (if n < 4 * T ∧ b = true then (1 : Int32) else nI 0) = if b = true then 1 else nI 0 := fun b => by cases b <;> simp [hn]
    rw [hcl]
    by_cases hb : bt (h (mv n ld)) c = true
    · rw [if_pos hb, if_neg (by decide)]
      have hleg : legal (Hs h (mv n ld)) (n % 4) (ts n pl) c = (decide (n % 4 = 0) || decide (c / 6 = ts n pl 0 / 6) || !anyS (Hs h (mv n ld)) (ts n pl 0 / 6)) := by
        unfold legal
        rw [show Hs h (mv n ld) c = true from hb, Bool.true_and]
      rw [hleg]
      by_cases hk : n % 4 = 0
      · rw [if_pos hk, if_pos trivial]; simp [hk]
      · rw [if_neg hk, r4 0 (by omega)]
        have ht : ts n pl 0 < 24 := w.2.2.2.2.1 _ (by omega)
        rw [dv_6 (by omega), dv_6 (by omega)]
        simp only [eq_N (show c / 6 < 2 ^ 31 by omega) (show ts n pl 0 / 6 < 2 ^ 31 by omega)]
        by_cases hs : c / 6 = ts n pl 0 / 6
        · rw [if_pos hs]; simp [hs]
        · rw [if_neg hs, if_pos (vin_N hm (by omega)), show (6 : Int32) * nI (ts n pl 0 / 6) = nI (6 * (ts n pl 0 / 6)) from pk_mul 6 _]
          generalize hu : ts n pl 0 / 6 = u
          have hu4 : u < 4 := by omega
          have hz : (sr (h (mv n ld)) (nI (6 * u)) &&& 63 = nI 0) ↔ anyS (Hs h (mv n ld)) u = false := by
            have hbits : ∀ i, bt (sr (h (mv n ld)) (nI (6 * u)) &&& 63) i = (decide (i < 6) && bt (h (mv n ld)) (6 * u + i)) := fun i => by
              rw [bt_and, show (63 : Int32) = nI (2 ^ 6 - 1) from rfl, bt_pow (by omega)]
              by_cases hi : i < 6
              · rw [bt_sr (by omega) (by omega)]; simp [hi]
              · simp [hi]
            constructor
            · intro e
              cases hq : anyS (Hs h (mv n ld)) u with
              | false => rfl
              | true =>
                obtain ⟨d, d1, d2, d3⟩ := anyS_iff.mp hq
                have := hbits (d - 6 * u)
                rw [e, show (nI 0 : Int32) = 0 from rfl, bt_0, show 6 * u + (d - 6 * u) = d by omega, decide_eq_true (show d - 6 * u < 6 by omega), show bt (h (mv n ld)) d = true from d2] at this
                cases this
            · intro e
              show _ = (0 : Int32)
              apply bt_eq0; intro i _
              rw [hbits i]
              by_cases hi : i < 6
              · cases hq : bt (h (mv n ld)) (6 * u + i) with
                | false => simp
                | true =>
                  have := anyS_iff (h := Hs h (mv n ld)) (u := u) |>.mpr ⟨6 * u + i, by omega, hq, by omega⟩
                  rw [e] at this; cases this
              · simp [hi]
          by_cases ha : anyS (Hs h (mv n ld)) u = true
          · rw [if_neg (fun z => by rw [hz.mp z] at ha; cases ha), ha, if_neg]
            simp [hk]; omega
          · have ha' : anyS (Hs h (mv n ld)) u = false := by
              cases hq : anyS (Hs h (mv n ld)) u with
              | false => rfl
              | true => exact absurd hq ha
            rw [if_pos (hz.mpr ha'), ha']; simp
    · rw [if_neg hb, if_pos rfl, if_neg]
      intro z; exact hb (legal_has z)
  · rw [if_neg hn] at hpl
    rw [hpl, if_pos rfl, if_neg (fun z => hn z.1)]
