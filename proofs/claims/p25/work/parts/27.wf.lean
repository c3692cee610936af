/-! a play keeps the game well-formed; the value of a position by its plays -/
theorem cnt_hP {h : Nat → Int32} {p c q : Nat} (hc : c < 24) (hb : bt (h p) c = true) : cnt (hP h p c q) + (if q = p then 1 else 0) = cnt (h q) := by
  unfold hP
  by_cases hq : q = p
  · subst hq; rw [if_pos rfl, if_pos rfl]; exact cnt_rem hc hb
  · rw [if_neg hq, if_neg hq]; rfl
theorem bt_hP {h : Nat → Int32} {p c q d : Nat} (hc : c < 24) (hd : d < 32) : bt (hP h p c q) d = (bt (h q) d && !decide (q = p ∧ d = c)) := by
  unfold hP
  by_cases hq : q = p
  · subst hq; rw [if_pos rfl, bt_rem hc hd]; simp
  · rw [if_neg hq]; simp [hq]
theorem WF_play {τ T n : Nat} {h : Nat → Int32} {pl ld : Nat → Nat} {c : Nat} (w : WF τ T n h pl ld) (hn : n < 4 * T) (hc : c < 24) (hb : bt (h (mv n ld)) c = true) : WF τ T (n + 1) (hP h (mv n ld) c) (updN pl n c) (ldP τ n pl ld c) := by
  obtain ⟨w1, w2, w3, w4, w5, w6, w7, w8, w9⟩ := w
  have hm := mv_lt n ld
  have hL := w6 _ (Nat.le_refl _)
  have hw : wnr τ n pl ld c < 4 := Nat.mod_lt _ (by decide)
  have hle : ∀ q d, bt (hP h (mv n ld) c q) d = true → bt (h q) d = true := by
    intro q d hd
    rcases Nat.lt_or_ge d 32 with h32 | h32
    · rw [bt_hP hc h32] at hd; simp only [Bool.and_eq_true] at hd; exact hd.1
    · rw [bt_ge _ h32] at hd; cases hd
  refine ⟨w1, w2, by omega, ?_, ?_, ?_, ?_, ?_, ?_⟩
  · intro p hp d hd
    cases hq : bt (hP h (mv n ld) c p) d with
    | false => rfl
    | true => have := hle p d hq; rw [w4 p hp d hd] at this; cases this
  · intro k hk
    unfold updN; split
    · exact hc
    · exact w5 k (by omega)
  · intro j hj
    unfold ldP; split
    · unfold updN; split
      · exact hw
      · exact w6 j (by omega)
    · exact w6 j (by omega)
  · intro p q hp hq hpq d hd
    cases hx : bt (hP h (mv n ld) c q) d with
    | false => rfl
    | true => have := w7 p q hp hq hpq d (hle p d hd); rw [hle q d hx] at this; cases this
  · intro j hj
    by_cases h3 : n % 4 = 3
    · have e4 : (n + 1) % 4 = 0 := by omega
      have e5 : (n + 1) / 4 = n / 4 + 1 := by omega
      rw [e4, e5, if_neg (by omega)]
      unfold ldP; rw [if_pos h3, updN_s]
      obtain ⟨i, hi, hie⟩ : ∃ i, i < 4 ∧ (wnr τ n pl ld c + j) % 4 = (ld (n / 4) + i) % 4 := ⟨(wnr τ n pl ld c + j + 4 - ld (n / 4)) % 4, Nat.mod_lt _ (by decide), by omega⟩
      rw [hie]
      have h8 := w8 i hi
      have hcn := cnt_hP (q := (ld (n / 4) + i) % 4) hc hb
      rw [h3] at h8
      have hmv : mv n ld = (ld (n / 4) + 3) % 4 := by unfold mv; rw [h3]
      by_cases hi3 : i = 3
      · subst hi3
        rw [hmv] at hcn ⊢
        rw [if_pos rfl] at hcn
        rw [if_neg (by omega)] at h8
        omega
      · rw [if_neg (by rw [hmv]; omega)] at hcn
        rw [if_pos (by omega)] at h8
        omega
    · have e4 : (n + 1) % 4 = n % 4 + 1 := by omega
      have e5 : (n + 1) / 4 = n / 4 := by omega
      rw [e4, e5]
      unfold ldP; rw [if_neg h3]
      have h8 := w8 j hj
      have hcn := cnt_hP (q := (ld (n / 4) + j) % 4) hc hb
      have hmv : mv n ld = (ld (n / 4) + n % 4) % 4 := rfl
      by_cases hjk : j = n % 4
      · rw [if_pos (by rw [hmv, hjk])] at hcn
        rw [if_neg (by omega)] at h8
        rw [if_pos (by omega)]
        omega
      · rw [if_neg (by rw [hmv]; omega)] at hcn
        by_cases hlt : j < n % 4
        · rw [if_pos hlt] at h8; rw [if_pos (by omega)]; omega
        · rw [if_neg hlt] at h8; rw [if_neg (by omega)]; omega
  · intro i hi p hp
    have h3 : n % 4 ≠ 3 := fun h3 => by omega
    have e4 : (n + 1) % 4 = n % 4 + 1 := by omega
    rw [e4] at hi
    rw [e4, show n + 1 - (n % 4 + 1) = n - n % 4 by omega]
    cases hx : bt (hP h (mv n ld) c p) (updN pl n c (n - n % 4 + i)) with
    | false => rfl
    | true =>
      by_cases hik : i = n % 4
      · have hin : n - n % 4 + i = n := by omega
        rw [hin, updN_s, bt_hP hc (by omega)] at hx
        simp only [Bool.and_eq_true, Bool.not_eq_true', decide_eq_false_iff_not, not_and] at hx
        have hpm : p ≠ mv n ld := fun e => hx.2 e trivial
        have := w7 (mv n ld) p hm hp (fun e => hpm e.symm) c hb
        rw [hx.1] at this; cases this
      · have hin : n - n % 4 + i ≠ n := by omega
        rw [updN_n _ _ hin] at hx
        have := w9 i (by omega) p hp
        rw [hle p _ hx] at this; cases this
theorem WF_mover {τ T n : Nat} {h : Nat → Int32} {pl ld : Nat → Nat} (w : WF τ T n h pl ld) (hn : n < 4 * T) : cnt (h (mv n ld)) = T - n / 4 := by
  obtain ⟨w1, w2, w3, w4, w5, w6, w7, w8, w9⟩ := w
  have := w8 (n % 4) (Nat.mod_lt _ (by decide))
  rw [if_neg (by omega)] at this
  exact this
theorem WF_legal {τ T n : Nat} {h : Nat → Int32} {pl ld : Nat → Nat} (w : WF τ T n h pl ld) (hn : n < 4 * T) : ∃ c, c < 24 ∧ legal (Hs h (mv n ld)) (n % 4) (ts n pl) c = true := by
  have hm := WF_mover w hn
  obtain ⟨c, hc, hb⟩ := cn_pos 24 (show 0 < cn (bt (h (mv n ld))) 24 by
    show 0 < cnt (h (mv n ld)); omega)
  by_cases hany : anyS (Hs h (mv n ld)) (ts n pl 0 / 6) = true
  · obtain ⟨d, h1, h2, h3⟩ := anyS_iff.mp hany
    exact ⟨d, h1, by unfold legal; rw [h2, h3]; simp⟩
  · refine ⟨c, hc, ?_⟩
    unfold legal
    have : anyS (Hs h (mv n ld)) (ts n pl 0 / 6) = false := by cases hq : anyS (Hs h (mv n ld)) (ts n pl 0 / 6); rfl; exact absurd hq hany
    rw [this]
    have hb' : Hs h (mv n ld) c = true := hb
    rw [hb']; simp
theorem legal_has {h : Nat → Bool} {k : Nat} {t : Nat → Nat} {c : Nat} (hl : legal h k t c = true) : h c = true := by
  unfold legal at hl; cases hq : h c; rw [hq] at hl; simp at hl; rfl
/-- the value of the game's position -/
def VG (τ T n : Nat) (h : Nat → Int32) (pl ld : Nat → Nat) : Nat := V τ (4 * T - n) (Hs h) (n % 4) (ts n pl) (ld (n / 4))
def gn (τ n : Nat) (pl ld : Nat → Nat) (c : Nat) : Nat := if n % 4 = 3 ∧ wnr τ n pl ld c % 2 = 0 then 1 else 0
/-- .. with a card played -/
def vl (τ T n : Nat) (h : Nat → Int32) (pl ld : Nat → Nat) (c : Nat) : Nat := gn τ n pl ld c + VG τ T (n + 1) (hP h (mv n ld) c) (updN pl n c) (ldP τ n pl ld c)
theorem VG_le {τ T n : Nat} {h : Nat → Int32} {pl ld : Nat → Nat} (hn : n ≤ 4 * T) : VG τ T n h pl ld ≤ T - n / 4 := by
  have := V_le τ (4 * T - n) (Hs h) (n % 4) (ts n pl) (ld (n / 4)) (Nat.mod_lt _ (by decide))
  unfold VG; omega
theorem VG_step {τ T n : Nat} {h : Nat → Int32} {pl ld : Nat → Nat} (w : WF τ T n h pl ld) (hn : n < 4 * T) : IsOpt (decide (mv n ld % 2 = 0)) (fun c => c < 24 ∧ legal (Hs h (mv n ld)) (n % 4) (ts n pl) c = true) (vl τ T n h pl ld) (VG τ T n h pl ld) := by
  obtain ⟨m, hm⟩ : ∃ m, 4 * T - n = m + 1 := ⟨4 * T - n - 1, by omega⟩
  have hm1 : 4 * T - (n + 1) = m := by omega
  have hsp := opt_spec (decide ((ld (n / 4) + n % 4) % 4 % 2 = 0)) (fun c => legal (Hs h ((ld (n / 4) + n % 4) % 4)) (n % 4) (ts n pl) c)
      (fun c => if n % 4 = 3 then (if (ld (n / 4) + plc τ (updN (ts n pl) 3 c)) % 4 % 2 = 0 then 1 else 0) + V τ m (remH (Hs h) ((ld (n / 4) + n % 4) % 4) c) 0 (updN (ts n pl) 3 c) ((ld (n / 4) + plc τ (updN (ts n pl) 3 c)) % 4)
        else V τ m (remH (Hs h) ((ld (n / 4) + n % 4) % 4) c) (n % 4 + 1) (updN (ts n pl) (n % 4) c) (ld (n / 4))) (WF_legal w hn)
  have hVG : VG τ T n h pl ld = opt (decide ((ld (n / 4) + n % 4) % 4 % 2 = 0)) (fun c => legal (Hs h ((ld (n / 4) + n % 4) % 4)) (n % 4) (ts n pl) c)
      (fun c => if n % 4 = 3 then (if (ld (n / 4) + plc τ (updN (ts n pl) 3 c)) % 4 % 2 = 0 then 1 else 0) + V τ m (remH (Hs h) ((ld (n / 4) + n % 4) % 4) c) 0 (updN (ts n pl) 3 c) ((ld (n / 4) + plc τ (updN (ts n pl) 3 c)) % 4)
        else V τ m (remH (Hs h) ((ld (n / 4) + n % 4) % 4) c) (n % 4 + 1) (updN (ts n pl) (n % 4) c) (ld (n / 4))) := by
    unfold VG; rw [hm]; simp only [V]
  rw [hVG]
  refine hsp.congr (fun c => Iff.rfl) (fun c hcl => ?_)
  obtain ⟨hc, hl⟩ := hcl
  have hH : ∀ p, p < 4 → ∀ d, d < 24 → remH (Hs h) (mv n ld) c p d = Hs (hP h (mv n ld) c) p d := by
    intro p hp d hd
    unfold Hs
    rw [bt_hP hc (by omega)]
    unfold remH
    by_cases hq : p = mv n ld ∧ d = c
    · rw [if_pos hq]; simp [hq]
    · rw [if_neg hq]
      have : decide (p = mv n ld ∧ d = c) = false := decide_eq_false hq
      rw [this]; simp
  unfold vl VG
  rw [hm1]
  by_cases h3 : n % 4 = 3
  · have e4 : (n + 1) % 4 = 0 := by omega
    have e5 : (n + 1) / 4 = n / 4 + 1 := by omega
    rw [if_pos h3, e4, e5]
    have hld : ldP τ n pl ld c (n / 4 + 1) = wnr τ n pl ld c := by unfold ldP; rw [if_pos h3, updN_s]
    rw [hld]
    have hg : gn τ n pl ld c = if (ld (n / 4) + plc τ (updN (ts n pl) 3 c)) % 4 % 2 = 0 then 1 else 0 := by
      unfold gn wnr
      by_cases hx : (ld (n / 4) + plc τ (updN (ts n pl) 3 c)) % 4 % 2 = 0
      · rw [if_pos ⟨h3, hx⟩, if_pos hx]
      · rw [if_neg (fun z => hx z.2), if_neg hx]
    rw [hg]
    congr 1
    exact V_congr τ m _ _ 0 _ _ _ (by omega) hH (fun i hi => by omega)
  · have e4 : (n + 1) % 4 = n % 4 + 1 := by omega
    have e5 : (n + 1) / 4 = n / 4 := by omega
    rw [if_neg h3, e4, e5]
    have hld : ldP τ n pl ld c (n / 4) = ld (n / 4) := by unfold ldP; rw [if_neg h3]
    have hg : gn τ n pl ld c = 0 := by unfold gn; rw [if_neg (fun z => h3 z.1)]
    rw [hld, hg, Nat.zero_add]
    refine V_congr τ m _ _ (n % 4 + 1) _ _ _ (by omega) hH (fun i hi => ?_)
    unfold ts
    rw [e4, show n + 1 - (n % 4 + 1) + i = n - n % 4 + i by omega]
    by_cases hik : i = n % 4
    · rw [hik, updN_s, show n - n % 4 + n % 4 = n by omega, updN_s]
    · rw [updN_n _ _ hik, updN_n _ _ (by omega)]
theorem vl_le {τ T n : Nat} {h : Nat → Int32} {pl ld : Nat → Nat} {c : Nat} (hT : T ≤ 4) (hn : n < 4 * T) : vl τ T n h pl ld c ≤ 5 := by
  unfold vl
  have := VG_le (τ := τ) (T := T) (n := n + 1) (h := hP h (mv n ld) c) (pl := updN pl n c) (ld := ldP τ n pl ld c) (by omega)
  have hg : gn τ n pl ld c ≤ 1 := by unfold gn; split <;> omega
  omega
