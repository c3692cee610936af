/-! the reference's value of the position -/
theorem cn_or {f g : Nat → Bool} (h : ∀ c, f c = true → g c = false) : ∀ n, cn (fun c => f c || g c) n = cn f n + cn g n := by
  intro n
  induction n with
  | zero => rfl
  | succ n ih =>
    simp only [cn]
    rw [ih]
    by_cases hf : f n = true
    · have hg := h n hf
      have h1 : (f n || g n) = true := by rw [hf]; rfl
      have h2 : ¬ g n = true := by rw [hg]; decide
      rw [if_pos h1, if_pos hf, if_neg h2]; omega
    · by_cases hg : g n = true
      · have h1 : (f n || g n) = true := by rw [hg, Bool.or_true]
        rw [if_pos h1, if_neg hf, if_pos hg]; omega
      · have h1 : ¬ (f n || g n) = true := by rw [Bool.or_eq_true]; rintro (z | z); exact hf z; exact hg z
        rw [if_neg h1, if_neg hf, if_neg hg]; omega
theorem cnt_or {x y : Int32} (h : ∀ c, bt x c = true → bt y c = false) : cnt (x ||| y) = cnt x + cnt y := by
  unfold cnt
  rw [cn_congr 24 (g := fun c => bt x c || bt y c) (fun c _ => bt_or x y c)]
  exact cn_or h 24
theorem all_cnt {N : Mem} {τ T n : Nat} {h : Nat → Int32} {pl ld : Nat → Nat} (w : WF τ T n h pl ld) (h3 : ∀ p, p < 4 → N 3 p = h p) : cnt (fX6_all N) = 4 * T - n := by
  obtain ⟨w1, w2, w3, w4, w5, w6, w7, w8, w9⟩ := w
  unfold fX6_all
  rw [h3 0 (by omega), h3 1 (by omega), h3 2 (by omega), h3 3 (by omega)]
  have d01 := w7 0 1 (by omega) (by omega) (by decide)
  have d02 := w7 0 2 (by omega) (by omega) (by decide)
  have d03 := w7 0 3 (by omega) (by omega) (by decide)
  have d12 := w7 1 2 (by omega) (by omega) (by decide)
  have d13 := w7 1 3 (by omega) (by omega) (by decide)
  have d23 := w7 2 3 (by omega) (by omega) (by decide)
  rw [cnt_or (fun c hc => ?_), cnt_or (fun c hc => ?_), cnt_or (fun c hc => d01 c hc)]
  · have hL := w6 (n / 4) (Nat.le_refl _)
    have a0 := w8 0 (by omega)
    have a1 := w8 1 (by omega)
    have a2 := w8 2 (by omega)
    have a3 := w8 3 (by omega)
    generalize ld (n / 4) = L at hL a0 a1 a2 a3
    have hr : n % 4 < 4 := Nat.mod_lt _ (by decide)
    have hs : (if 0 < n % 4 then 1 else 0) + (if 1 < n % 4 then 1 else 0) + (if 2 < n % 4 then 1 else 0) + (if 3 < n % 4 then 1 else 0) = n % 4 := by
      generalize n % 4 = r at hr
      obtain rfl | rfl | rfl | rfl : r = 0 ∨ r = 1 ∨ r = 2 ∨ r = 3 := by omega
      all_goals rfl
    obtain rfl | rfl | rfl | rfl : L = 0 ∨ L = 1 ∨ L = 2 ∨ L = 3 := by omega
    all_goals (simp only [Nat.zero_add, Nat.reduceAdd, Nat.reduceMod] at a0 a1 a2 a3; omega)
  · rw [bt_or, Bool.or_eq_true] at hc
    rcases hc with q | q
    · exact d02 c q
    · exact d12 c q
  · rw [bt_or, Bool.or_eq_true, bt_or, Bool.or_eq_true] at hc
    rcases hc with (q | q) | q
    · exact d03 c q
    · exact d13 c q
    · exact d23 c q
theorem copy_loop {B : Mem} {k : Nat} (hk : k < 4) (h9 : B 0 9 = nI k) (v1 v2 : Int32) : ∀ (F m i : Nat) (M : Mem), m < F → i + m = k → (∀ a, a ≠ 8 → M a = B a) → (∀ a, a < i → M 8 a = B 4 a) → ∃ M', fX6_solved_L37 F v1 v2 (nI i) M = some M' ∧ (∀ a, a ≠ 8 → M' a = B a) ∧ ∀ a, a < k → M' 8 a = B 4 a := by
  intro F
  induction F with
  | zero => intro m i M h; omega
  | succ F ih =>
    intro m i M hm hi hB h8
    rw [fX6_solved_L37.eq_2, hB 0 (by decide), h9]
    simp only [le_N (show k < 2 ^ 31 by omega) (show i < 2 ^ 31 by omega)]
    by_cases hki : k ≤ i
    · rw [if_pos hki]; exact ⟨M, rfl, hB, fun a ha => h8 a (by omega)⟩
    · rw [if_neg hki, if_pos (vin_N (by omega) (by omega)), if_pos (vin_N (by omega) (by omega)), cl_N (by omega), show (nI i + 1 : Int32) = nI (i + 1) from nI_add i 1, hB 4 (by decide)]
      refine ih (m - 1) (i + 1) _ (by omega) (by omega) (fun a ha => ?_) (fun a ha => ?_)
      · rw [← hB a ha]; funext b; rw [mset_at, if_neg (fun z => ha z.1)]
      · rw [mset_at]
        by_cases e : a = i
        · subst e; rw [if_pos ⟨rfl, rfl⟩]
        · rw [if_neg (fun z => e z.2)]; exact h8 a (by omega)
theorem copy98_loop {B : Mem} {k : Nat} (hk : k < 4) (h9 : B 0 9 = nI k) (v1 v2 v3 v4 : Int32) : ∀ (F m i : Nat) (M : Mem), m < F → i + m = k → (∀ a, a ≠ 8 → M a = B a) → (∀ a, a < i → M 8 a = B 4 a) → ∃ M', fX6_valueOf_L98 F v1 v2 v3 v4 (nI i) M = some M' ∧ (∀ a, a ≠ 8 → M' a = B a) ∧ ∀ a, a < k → M' 8 a = B 4 a := by
  intro F
  induction F with
  | zero => intro m i M h; omega
  | succ F ih =>
    intro m i M hm hi hB h8
    rw [fX6_valueOf_L98.eq_2, hB 0 (by decide), h9]
    simp only [le_N (show k < 2 ^ 31 by omega) (show i < 2 ^ 31 by omega)]
    by_cases hki : k ≤ i
    · rw [if_pos hki]; exact ⟨M, rfl, hB, fun a ha => h8 a (by omega)⟩
    · rw [if_neg hki, if_pos (vin_N (by omega) (by omega)), if_pos (vin_N (by omega) (by omega)), cl_N (by omega), show (nI i + 1 : Int32) = nI (i + 1) from nI_add i 1, hB 4 (by decide)]
      refine ih (m - 1) (i + 1) _ (by omega) (by omega) (fun a ha => ?_) (fun a ha => ?_)
      · rw [← hB a ha]; funext b; rw [mset_at, if_neg (fun z => ha z.1)]
      · rw [mset_at]
        by_cases e : a = i
        · subst e; rw [if_pos ⟨rfl, rfl⟩]
        · rw [if_neg (fun z => e z.2)]; exact h8 a (by omega)
/-- what a thought of the reference leaves as it was -/
def Same (N N' : Mem) : Prop := (∀ i, i ≠ 0 → i ≠ 6 → i ≠ 7 → i ≠ 8 → N' i = N i) ∧ ∀ j, j ≠ 15 → N' 0 j = N 0 j
theorem Same.rfl' (N : Mem) : Same N N := ⟨fun _ _ _ _ _ => rfl, fun _ _ => rfl⟩
theorem Same.trans {A B C : Mem} (a : Same A B) (b : Same B C) : Same A C := ⟨fun i h0 h6 h7 h8 => by rw [b.1 i h0 h6 h7 h8, a.1 i h0 h6 h7 h8], fun j hj => by rw [b.2 j hj, a.2 j hj]⟩
/-- the reference's memory and the game -/
def NRep (N : Mem) (τ n : Nat) (h : Nat → Int32) (pl ld : Nat → Nat) : Prop :=
  N 0 0 = tv τ ∧ (∀ p, p < 4 → N 3 p = h p) ∧ (∀ i, i < n % 4 → N 4 i = nI (ts n pl i)) ∧ N 0 9 = nI (n % 4) ∧ N 0 10 = nI (ld (n / 4))
theorem rsolve_ok {N : Mem} {τ T n : Nat} {h : Nat → Int32} {pl ld : Nat → Nat} (r : NRep N τ n h pl ld) (w : WF τ T n h pl ld) :
    ∃ (x : Int32) (N1 N2 : Mem), fX6_layList N = some (x, N1) ∧ N1 0 = N 0 ∧ fX6_solved x (N1 0 9) N1 = some (nI (VG τ T n h pl ld), N2) ∧ Same N N2 := by
  obtain ⟨r0, r3, r4, r9, r10⟩ := r
  have hT := w.2.1
  have hn4 := w.2.2.1
  have hc4 : ∀ p, p < 4 → cnt (h p) ≤ 4 := fun p hp => by
    have hL := w.2.2.2.2.2.1 _ (Nat.le_refl _)
    have := w.2.2.2.2.2.2.2.1 ((p + 4 - ld (n / 4)) % 4) (Nat.mod_lt _ (by decide))
    rw [show (ld (n / 4) + (p + 4 - ld (n / 4)) % 4) % 4 = p by omega] at this
    omega
  obtain ⟨x, N1, lst, e1, hl, h6, hH, hcx, f1⟩ := layList_ok (M := N) (fun p hp => by rw [r3 p hp]; exact w.2.2.2.1 p hp) (fun p hp => by rw [r3 p hp]; exact hc4 p hp)
  have hall : cnt (fX6_all N1) = 4 * T - n := all_cnt w (fun p hp => by rw [f1 3 (by decide)]; exact r3 p hp)
  have hf0 : N1 0 = N 0 := f1 0 (by decide)
  have hq : (nI (4 * T - n) + nI (n % 4) : Int32) / 4 = nI (T - n / 4) := by
    rw [nI_add, dv_4 (by omega)]; congr 1; omega
  have hS1 : Same N N1 := ⟨fun i _ h6 _ _ => f1 i h6, fun j _ => by rw [hf0]⟩
  by_cases hz : T - n / 4 = 0
  · refine ⟨x, N1, N1, e1, hf0, ?_, hS1⟩
    unfold fX6_solved
    rw [size_ok, hall]
    simp only [obind]
    rw [hf0, r9, hq, hz, if_pos (show nI 0 = 0 from rfl)]
    have hv := VG_le (τ := τ) (h := h) (pl := pl) (ld := ld) hn4
    rw [show VG τ T n h pl ld = 0 by omega]; rfl
  · have hL := w.2.2.2.2.2.1 _ (Nat.le_refl (n / 4))
    obtain ⟨N3, e3, b3, tb3⟩ := layTable_ok (M := N1) (τ := τ) (lst := lst) (F0 := x) (U := T - n / 4 - 1) w.1 hl (by omega) (by rw [hf0]; exact r0) h6
    have h30 : ∀ j, j ≠ 15 → N3 0 j = N 0 j := fun j hj => by
      rw [b3 0 (by decide) (by decide), mset_at, if_neg (fun z => hj z.2), hf0]
    have h3i : ∀ i, i ≠ 0 → i ≠ 7 → i ≠ 8 → N3 i = N1 i := fun i i0 i7 i8 => by
      rw [b3 i i7 i8]; funext b; rw [mset_at, if_neg (fun z => i0 z.1)]
    obtain ⟨N4, e4, f4, g4⟩ := copy_loop (B := N3) (k := n % 4) (Nat.mod_lt _ (by decide)) (by rw [h30 9 (by decide)]; exact r9) x (nI (n % 4)) 40 (n % 4) 0 N3 (by omega) (by omega) (fun _ _ => rfl) (fun a ha => by omega)
    have hkq : n % 4 < 4 := Nat.mod_lt _ (by decide)
    obtain ⟨N5, e5, f5⟩ := first_q (τ := τ) (lst := lst) (F0 := x) (E7 := N3 7) (q := n % 4) (j := T - n / 4) (L := ld (n / 4)) w.1 hl (by omega) (by omega) hL (tb3 _ (Nat.le_refl _)) hkq (x := x) (M := mset N4 0 15 (nI (n % 4))) (t := ts n pl) (fun _ hc => hc)
      ⟨by rw [mset_at, if_neg (by decide), f4 0 (by decide), h30 0 (by decide)]; exact r0, fun j hj => by rw [mset_at, if_neg (fun z => by omega), f4 6 (by decide), h3i 6 (by decide) (by decide) (by decide)]; exact h6 j hj, by funext b; rw [mset_at, if_neg (fun z => by omega), f4 7 (by decide)], by rw [mset_at, if_pos ⟨rfl, rfl⟩]⟩
      (fun i hi => ⟨by rw [mset_at, if_neg (fun z => by omega), g4 i hi, h3i 4 (by decide) (by decide) (by decide), f1 4 (by decide)]; exact r4 i hi, w.2.2.2.2.1 _ (by omega)⟩)
      (fun i hi => by
        have hp : (ld (n / 4) + i) % 4 < 4 := Nat.mod_lt _ (by decide)
        rw [hcx _ hp, r3 _ hp]
        exact w.2.2.2.2.2.2.2.1 i hi)
    refine ⟨x, N1, N5, e1, hf0, ?_, ?_⟩
    · unfold fX6_solved
      rw [size_ok, hall]
      simp only [obind]
      rw [hf0, r9, hq, if_neg (by rw [show (0 : Int32) = nI 0 from rfl, eq_N (by omega) (by omega)]; exact hz), show (nI (T - n / 4) - 1 : Int32) = nI (T - n / 4 - 1) from pk_sub (b := 1) (by omega), e3]
      dsimp only
      have e4' : fX6_solved_L37 40 x (nI (n % 4)) 0 N3 = some N4 := e4
      rw [e4']
      dsimp only
      rw [f4 0 (by decide), h30 10 (by decide), r10, e5]
      dsimp only
      unfold VG
      rw [show 4 * (T - n / 4) - n % 4 = 4 * T - n by omega]
      rw [V_congr τ _ (HM lst x) (Hs h) (n % 4) (ts n pl) (ts n pl) _ hkq (fun p hp c hc => by rw [hH p hp c hc, r3 p hp]; rfl) (fun _ _ => rfl)]
    · refine ⟨fun i i0 i6 i7 i8 => ?_, fun j hj => ?_⟩
      · rw [f5 i i8, ← f1 i i6, ← h3i i i0 i7 i8, ← f4 i i8]; funext b; rw [mset_at, if_neg (fun z => i0 z.1)]
      · rw [f5 0 (by decide), mset_at, if_neg (fun z => hj z.2), f4 0 (by decide)]; exact h30 j hj
