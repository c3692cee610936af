/-! the reference's four places of a trick -/
def LK (lst : Nat → Nat) (F0 : Int32) : Prop := (∀ c, 16 ≤ c → bt F0 c = false) ∧ (∀ j, bt F0 j = true → lst j < 24) ∧ ∀ p i j, p < 4 → i < 4 → j < 4 → bt F0 (4 * p + i) = true → bt F0 (4 * p + j) = true → lst (4 * p + i) = lst (4 * p + j) → i = j
def CX (τ : Nat) (lst : Nat → Nat) (F0 : Int32) (E7 : Nat → Int32) (q : Nat) (M : Mem) : Prop := M 0 0 = tv τ ∧ (∀ j, bt F0 j = true → M 6 j = nI (lst j)) ∧ M 7 = E7 ∧ M 0 15 = nI q
def subM (x F0 : Int32) : Prop := ∀ c, bt x c = true → bt F0 c = true
theorem CX.mono {τ : Nat} {lst : Nat → Nat} {F0 : Int32} {E7 : Nat → Int32} {q : Nat} {M M' : Mem} (h : CX τ lst F0 E7 q M) (e : ∀ i, i ≠ 8 → M' i = M i) : CX τ lst F0 E7 q M' := by
  unfold CX at h ⊢
  rw [e 0 (by decide), e 6 (by decide), e 7 (by decide)]; exact h
theorem rem_bt {x : Int32} {a : Nat} (ha : a < 24) (d : Nat) : bt (x &&& (sl 1 (nI a) ^^^ (-1))) d = (bt x d && !decide (d = a)) := by
  rcases Nat.lt_or_ge d 32 with q | q
  · exact bt_rem ha q
  · rw [bt_ge _ q, bt_ge _ q]; rfl
theorem subM.rem {x F0 : Int32} {a : Nat} (h : subM x F0) (ha : a < 24) : subM (x &&& (sl 1 (nI a) ^^^ (-1))) F0 := fun c hc => h c (by rw [rem_bt ha] at hc; simp only [Bool.and_eq_true] at hc; exact hc.1)
theorem HM_rem {lst : Nat → Nat} {F0 x : Int32} {p i : Nat} (hl : LK lst F0) (hs : subM x F0) (hp : p < 4) (hi : i < 4) (hb : bt x (4 * p + i) = true) {q c : Nat} (hq : q < 4) : HM lst (x &&& (sl 1 (nI (4 * p + i)) ^^^ (-1))) q c = remH (HM lst x) p (lst (4 * p + i)) q c := by
  unfold remH
  cases hz : HM lst (x &&& (sl 1 (nI (4 * p + i)) ^^^ (-1))) q c with
  | true =>
    obtain ⟨j, hj, h1, h2⟩ := HM_iff.mp hz
    rw [rem_bt (by omega)] at h1
    simp only [Bool.and_eq_true, Bool.not_eq_true', decide_eq_false_iff_not] at h1
    rw [if_neg]
    · exact (HM_iff.mpr ⟨j, hj, h1.1, h2⟩).symm
    · rintro ⟨rfl, rfl⟩
      have := hl.2.2 q j i hq hj hi (hs _ h1.1) (hs _ hb) h2
      omega
  | false =>
    by_cases hqc : q = p ∧ c = lst (4 * p + i)
    · rw [if_pos hqc]
    · rw [if_neg hqc]
      cases hy : HM lst x q c with
      | false => rfl
      | true =>
        obtain ⟨j, hj, h1, h2⟩ := HM_iff.mp hy
        have : HM lst (x &&& (sl 1 (nI (4 * p + i)) ^^^ (-1))) q c = true := HM_iff.mpr ⟨j, hj, by
          rw [rem_bt (by omega), h1]
          have : ¬ 4 * q + j = 4 * p + i := by
            intro z
            have e1 : q = p := by omega
            have e2 : j = i := by omega
            subst e1; subst e2
            exact hqc ⟨rfl, h2.symm⟩
          simp [this], h2⟩
        rw [hz] at this; cases this
theorem c4_rem {x : Int32} {p i q : Nat} (hp : p < 4) (hi : i < 4) (hb : bt x (4 * p + i) = true) (hq : q < 4) : c4 (x &&& (sl 1 (nI (4 * p + i)) ^^^ (-1))) q + (if q = p then 1 else 0) = c4 x q := by
  unfold c4
  by_cases hqp : q = p
  · subst hqp
    rw [if_pos rfl]
    have := cn_rem (f := fun j => bt x (4 * q + j)) (g := fun j => bt (x &&& (sl 1 (nI (4 * q + i)) ^^^ (-1))) (4 * q + j)) (d := i) hb (fun j => by
      rw [rem_bt (by omega)]
      by_cases hji : j = i
      · subst hji; simp
      · have : ¬ 4 * q + j = 4 * q + i := by omega
        simp [hji]) 4
    rw [if_pos hi] at this
    exact this
  · rw [if_neg hqp, Nat.add_zero]
    refine cn_congr 4 (fun j hj => ?_)
    rw [rem_bt (by omega)]
    have : ¬ 4 * q + j = 4 * p + i := by omega
    simp [this]
def nxt (τ : Nat) (lst : Nat → Nat) (j k L : Nat) (x : Int32) (t : Nat → Nat) : Nat :=
  if k = 3 then (if (L + plc τ t) % 4 % 2 = 0 then 1 else 0) + V τ (4 * j - 4) (HM lst x) 0 t ((L + plc τ t) % 4) else V τ (4 * j - (k + 1)) (HM lst x) (k + 1) t L
def Cnt (x : Int32) (L k j : Nat) : Prop := ∀ i, i < 4 → c4 x ((L + i) % 4) + (if i < k then 1 else 0) = j
theorem place_ok {τ : Nat} {lst : Nat → Nat} {F0 : Int32} {E7 : Nat → Int32} {q j k L : Nat} (W : Int32 → Nat → Int32 → Int32 → Mem → Option (Int32 × Mem)) (Nx : Int32 → Mem → Option (Int32 × Mem)) (hl : LK lst F0) (hk : k < 4) (hj : 1 ≤ j) (hj4 : j ≤ 4)
    (step : ∀ x n b i M, W x (n + 1) b i M = (if 4 ≤ i then some (b, M) else (obind (fX6_can x (nI ((L + k) % 4)) i (nI k) M) (fun q5 => (if q5 = 0 then W x n b (i + 1) M else (if vin ((4 * nI ((L + k) % 4)) + i) 16 = true then (obind (Nx (x &&& ((sl 1 ((4 * nI ((L + k) % 4)) + i)) ^^^ (-1))) (mset M 8 k (M 6 (((4 * nI ((L + k) % 4)) + i).toNatClampNeg)))) (fun q8 => W x n (fX6_better (nI ((L + k) % 4)) q8.1 b) (i + 1) q8.2)) else none))))))
    (hNext : ∀ x M t, subM x F0 → CX τ lst F0 E7 q M → (∀ i, i < k + 1 → M 8 i = nI (t i) ∧ t i < 24) → Cnt x L (k + 1) j → ∃ M', Nx x M = some (nI (nxt τ lst j k L x t), M') ∧ (∀ i, i ≠ 8 → M' i = M i) ∧ ∀ i, i < k → M' 8 i = M 8 i) :
    ∀ x M t, subM x F0 → CX τ lst F0 E7 q M → (∀ i, i < k → M 8 i = nI (t i) ∧ t i < 24) → Cnt x L k j → ∃ M', W x 40 (-1) 0 M = some (nI (V τ (4 * j - k) (HM lst x) k t L), M') ∧ (∀ i, i ≠ 8 → M' i = M i) ∧ ∀ i, i < k → M' 8 i = M 8 i := by
  intro x M t hs hC h8 hcnt
  have hp : (L + k) % 4 < 4 := Nat.mod_lt _ (by decide)
  obtain ⟨n, hn⟩ : ∃ n, 4 * j - k = n + 1 := ⟨4 * j - k - 1, by omega⟩
  rw [hn]
  simp only [V]
  have hne : ∃ i, i < 4 ∧ bt x (4 * ((L + k) % 4) + i) = true := by
    have := hcnt k hk
    rw [if_neg (by omega)] at this
    exact cn_pos 4 (by unfold c4 at this; omega)
  have hval : ∀ c, (if k = 3 then (if (L + plc τ (updN t 3 c)) % 4 % 2 = 0 then 1 else 0) + V τ n (remH (HM lst x) ((L + k) % 4) c) 0 (updN t 3 c) ((L + plc τ (updN t 3 c)) % 4) else V τ n (remH (HM lst x) ((L + k) % 4) c) (k + 1) (updN t k c) L) < 1000 := by
    intro c
    by_cases h3 : k = 3
    · rw [if_pos h3]
      have := V_le τ n (remH (HM lst x) ((L + k) % 4) c) 0 (updN t 3 c) ((L + plc τ (updN t 3 c)) % 4) (by omega)
      split <;> omega
    · rw [if_neg h3]
      have := V_le τ n (remH (HM lst x) ((L + k) % 4) c) (k + 1) (updN t k c) L (by omega)
      omega
  obtain ⟨M', e, hQ1, hQ2⟩ := node_ok (lst := lst) (x := x) (p := (L + k) % 4) (k := k) (t := t) (val := fun c => if k = 3 then (if (L + plc τ (updN t 3 c)) % 4 % 2 = 0 then 1 else 0) + V τ n (remH (HM lst x) ((L + k) % 4) c) 0 (updN t 3 c) ((L + plc τ (updN t 3 c)) % 4) else V τ n (remH (HM lst x) ((L + k) % 4) c) (k + 1) (updN t k c) L) (W x) Nx (fun M1 => (∀ i, i ≠ 8 → M1 i = M i) ∧ ∀ i, i < k → M1 8 i = M 8 i) hp hk (step x)
    (fun M1 hQ i hi hb => by
      have hF := hs _ hb
      exact ⟨by rw [hQ.1 6 (by decide)]; exact hC.2.1 _ hF, hl.2.1 _ hF⟩)
    (fun M1 hQ h0 => by rw [hQ.2 0 h0]; exact h8 0 h0)
    (fun M1 i hQ hi hb => by
      have hF := hs _ hb
      have hc24 := hl.2.1 _ hF
      have hCX : CX τ lst F0 E7 q (mset M1 8 k (nI (lst (4 * ((L + k) % 4) + i)))) := hC.mono (fun a ha => by
        rw [← hQ.1 a ha]; funext b; rw [mset_at, if_neg (fun z => ha z.1)])
      obtain ⟨M2, n1, n2, n3⟩ := hNext (x &&& (sl 1 (nI (4 * ((L + k) % 4) + i)) ^^^ (-1))) (mset M1 8 k (nI (lst (4 * ((L + k) % 4) + i)))) (updN t k (lst (4 * ((L + k) % 4) + i))) (hs.rem (by omega)) hCX (fun a ha => by
        rw [mset_at]
        by_cases hak : a = k
        · subst hak; rw [updN_s, if_pos ⟨rfl, rfl⟩]; exact ⟨rfl, hc24⟩
        · rw [updN_n _ _ hak, if_neg (fun z => hak z.2), hQ.2 a (by omega)]; exact h8 a (by omega)) (fun a ha => by
        have h1 := hcnt a ha
        have h2 := c4_rem (x := x) hp hi hb (q := (L + a) % 4) (Nat.mod_lt _ (by decide))
        by_cases hak : a = k
        · subst hak
          rw [if_pos rfl] at h2
          rw [if_neg (by omega)] at h1
          rw [if_pos (by omega)]; omega
        · rw [if_neg (by omega)] at h2
          by_cases hlt : a < k
          · rw [if_pos hlt] at h1; rw [if_pos (by omega)]; omega
          · rw [if_neg hlt] at h1; rw [if_neg (by omega)]; omega)
      refine ⟨M2, ?_, fun a ha => ?_, fun a ha => ?_⟩
      · rw [n1]
        congr 3
        unfold nxt
        have hH : ∀ p, p < 4 → ∀ c, c < 24 → HM lst (x &&& (sl 1 (nI (4 * ((L + k) % 4) + i)) ^^^ (-1))) p c = remH (HM lst x) ((L + k) % 4) (lst (4 * ((L + k) % 4) + i)) p c := fun p hp' c _ => HM_rem hl hs hp hi hb hp'
        by_cases h3 : k = 3
        · rw [if_pos h3]
          simp only [h3, if_true]
          subst h3
          rw [show 4 * j - 4 = n by omega]
          congr 1
          exact V_congr τ n _ _ 0 _ _ _ (by omega) hH (fun a ha => by omega)
        · rw [if_neg h3]
          simp only [h3, if_false]
          rw [show 4 * j - (k + 1) = n by omega]
          exact V_congr τ n _ _ (k + 1) _ _ _ (by omega) hH (fun a ha => rfl)
      · rw [n2 a ha, ← hQ.1 a ha]; funext b; rw [mset_at, if_neg (fun z => ha z.1)]
      · rw [n3 a ha, mset_at, if_neg (fun z => by omega)]; exact hQ.2 a ha)
    hval M ⟨fun _ _ => rfl, fun _ _ => rfl⟩ hne
  exact ⟨M', e, hQ1, hQ2⟩
