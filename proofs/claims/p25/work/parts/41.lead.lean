/-! the law's leaders, tricks, and which cards can be played -/
def ldr (τ l : Nat) (pl : Nat → Nat) : Nat → Nat
  | 0 => l
  | j + 1 => (ldr τ l pl j + plc τ (fun i => pl (4 * j + i))) % 4
theorem ldr_lt {τ l : Nat} (hl : l < 4) (pl : Nat → Nat) : ∀ j, ldr τ l pl j < 4 := by
  intro j
  cases j with
  | zero => exact hl
  | succ j => exact Nat.mod_lt _ (by decide)
theorem ldr_congr {τ l : Nat} {pl pl' : Nat → Nat} : ∀ j, (∀ k, k < 4 * j → pl k = pl' k) → ldr τ l pl j = ldr τ l pl' j := by
  intro j
  induction j with
  | zero => intro _; rfl
  | succ j ih =>
    intro h
    simp only [ldr]
    rw [ih (fun k hk => h k (by omega)), plc_congr (τ := τ) (t := fun i => pl (4 * j + i)) (t' := fun i => pl' (4 * j + i)) (fun i hi => h _ (by omega))]
theorem lead_in {N : Mem} {τ k : Nat} {t : Nat → Nat} (h21 : N 2 1 = tv τ) (hτ : τ ≤ 4) (hk : k + 4 ≤ 16) (ht : ∀ i, i < 4 → t i < 24) (hc : ∀ i, i < 4 → N 1 (k + i) = nI (t i)) (v2 v3 : Int32) : fL_leader_L25 40 v2 v3 (nI k) (nI k) (nI k + 1) N = some (nI (k + plc τ t)) := by
  have step : ∀ (n p q : Nat), p < 4 → q < 4 → fL_leader_L25 (n + 1) v2 v3 (nI k) (nI (k + p)) (nI (k + q)) N = if wins τ (t p) (t q) then fL_leader_L25 n v2 v3 (nI k) (nI (k + q)) (nI (k + (q + 1))) N else fL_leader_L25 n v2 v3 (nI k) (nI (k + p)) (nI (k + (q + 1))) N := by
    intro n p q hp hq
    have a := ht p hp
    have b := ht q hq
    rw [fL_leader_L25.eq_2, show (nI k + 4 : Int32) = nI (k + 4) from nI_add k 4]
    simp only [le_N (show k + 4 < 2 ^ 31 by omega) (show k + q < 2 ^ 31 by omega)]
    rw [if_neg (show ¬ k + 4 ≤ k + q by omega)]
    simp only [vin_N (show k + q < 16 by omega) (show 16 < 2 ^ 31 by omega), vin_N (show k + p < 16 by omega) (show 16 < 2 ^ 31 by omega), if_true, cl_N (show k + q < 2 ^ 31 by omega), cl_N (show k + p < 2 ^ 31 by omega), hc q hq, hc p hp, dv_6 (show t q < 2 ^ 31 by omega), dv_6 (show t p < 2 ^ 31 by omega), h21, tv_eq hτ (show t q / 6 < 4 by omega), eq_N (show t q / 6 < 2 ^ 31 by omega) (show t p / 6 < 2 ^ 31 by omega), le_N (show t q < 2 ^ 31 by omega) (show t p < 2 ^ 31 by omega), nI_1, Nat.add_assoc]
    unfold wins
    by_cases h1 : t q / 6 = τ <;> by_cases h2 : t q / 6 = t p / 6 <;> by_cases h3 : t q ≤ t p
    all_goals first
      | (have h4 : ¬ t p < t q := by omega
         simp [h1, h2, h3, h4]; done)
      | (have h4 : t p < t q := by omega
         simp [h1, h2, h3, h4]; done)
      | skip
    all_goals (first | (rw [if_pos h1]) | (rw [if_neg h1]))
    all_goals (first | (rw [if_pos h2, if_pos h2]) | (rw [if_neg h2, if_neg h2]))
    all_goals (first | (rw [if_pos h3]) | (rw [if_neg h3]) | skip)
    all_goals (first | (rw [if_neg (by simp; omega)]) | (rw [if_pos (by simp; omega)]))
  have fin : ∀ (n p : Nat), fL_leader_L25 (n + 1) v2 v3 (nI k) (nI (k + p)) (nI (k + 4)) N = some (nI (k + p)) := by
    intro n p
    rw [fL_leader_L25.eq_2, show (nI k + 4 : Int32) = nI (k + 4) from nI_add k 4]
    simp only [le_N (show k + 4 < 2 ^ 31 by omega) (show k + 4 < 2 ^ 31 by omega)]
    rw [if_pos (Nat.le_refl _)]
  rw [nI_1]
  show fL_leader_L25 (39 + 1) v2 v3 (nI k) (nI (k + 0)) (nI (k + 1)) N = _
  unfold plc
  dsimp only
  rw [step 39 0 1 (by omega) (by omega)]
  have e1 : (if wins τ (t 0) (t 1) = true then fL_leader_L25 39 v2 v3 (nI k) (nI (k + 1)) (nI (k + (1 + 1))) N else fL_leader_L25 39 v2 v3 (nI k) (nI (k + 0)) (nI (k + (1 + 1))) N) = fL_leader_L25 39 v2 v3 (nI k) (nI (k + (if wins τ (t 0) (t 1) = true then 1 else 0))) (nI (k + 2)) N := by split <;> rfl
  rw [e1]
  generalize hp1 : (if wins τ (t 0) (t 1) = true then 1 else 0) = p1
  have l1 : p1 < 2 := by rw [← hp1]; split <;> omega
  rw [step 38 p1 2 (by omega) (by omega)]
  have e2 : (if wins τ (t p1) (t 2) = true then fL_leader_L25 38 v2 v3 (nI k) (nI (k + 2)) (nI (k + (2 + 1))) N else fL_leader_L25 38 v2 v3 (nI k) (nI (k + p1)) (nI (k + (2 + 1))) N) = fL_leader_L25 38 v2 v3 (nI k) (nI (k + (if wins τ (t p1) (t 2) = true then 2 else p1))) (nI (k + 3)) N := by split <;> rfl
  rw [e2]
  generalize hp2 : (if wins τ (t p1) (t 2) = true then 2 else p1) = p2
  have l2 : p2 < 3 := by rw [← hp2]; split <;> omega
  rw [step 37 p2 3 (by omega) (by omega)]
  have e3 : (if wins τ (t p2) (t 3) = true then fL_leader_L25 37 v2 v3 (nI k) (nI (k + 3)) (nI (k + (3 + 1))) N else fL_leader_L25 37 v2 v3 (nI k) (nI (k + p2)) (nI (k + (3 + 1))) N) = fL_leader_L25 37 v2 v3 (nI k) (nI (k + (if wins τ (t p2) (t 3) = true then 3 else p2))) (nI (k + 4)) N := by split <;> rfl
  rw [e3, fin 36]
/-- the law's cards and numbers: which it has laid, trump, first leader -/
def LC0 (N : Mem) (τ l m : Nat) (pl : Nat → Nat) : Prop := (∀ k, k < m → N 1 k = nI (pl k)) ∧ N 2 1 = tv τ ∧ N 2 2 = nI l
theorem LC0.le {N : Mem} {τ l m m' : Nat} {pl : Nat → Nat} (h : LC0 N τ l m pl) (hm : m' ≤ m) : LC0 N τ l m' pl := ⟨fun k hk => h.1 k (by omega), h.2⟩
theorem lead_loop {N : Mem} {τ l m : Nat} {pl : Nat → Nat} (c : LC0 N τ l m pl) (hτ : τ ≤ 4) (hl : l < 4) (hm : m ≤ 16) (hp : ∀ k, k < m → pl k < 24) :
    ∀ F x j, x < F → j + x = m / 4 → fL_leader_L7 F (nI m) (nI (ldr τ l pl j)) (nI (4 * j)) N = some (nI (ldr τ l pl (m / 4))) := by
  intro F
  induction F with
  | zero => intro x j h; omega
  | succ F ih =>
    intro x j hx hj
    rw [fL_leader_L7.eq_2, show (nI (4 * j) + 4 : Int32) = nI (4 * j + 4) from nI_add _ 4]
    simp only [lt_N (show m < 2 ^ 31 by omega) (show 4 * j + 4 < 2 ^ 31 by omega)]
    by_cases h : m < 4 * j + 4
    · rw [if_pos h, show j = m / 4 by omega]
    · rw [if_neg h]
      have e := lead_in (N := N) (τ := τ) (k := 4 * j) (t := fun i => pl (4 * j + i)) c.2.1 hτ (by omega) (fun i hi => hp _ (by omega)) (fun i hi => c.1 _ (by omega)) (nI m) (nI (ldr τ l pl j))
      rw [e]
      rw [ob_s]
      have h4 := ldr_lt (τ := τ) hl pl j
      have h5 := plc_lt τ (fun i => pl (4 * j + i))
      rw [nI_add, pk_sub (by omega), show ldr τ l pl j + (4 * j + plc τ (fun i => pl (4 * j + i))) - 4 * j = ldr τ l pl j + plc τ (fun i => pl (4 * j + i)) by omega, im_4 (by omega)]
      exact ih (x - 1) (j + 1) (by omega) (by omega)
theorem llead {N : Mem} {τ l m : Nat} {pl : Nat → Nat} (c : LC0 N τ l m pl) (hτ : τ ≤ 4) (hl : l < 4) (hm : m ≤ 16) (hp : ∀ k, k < m → pl k < 24) : fL_leader (nI m) N = some (nI (ldr τ l pl (m / 4))) := by
  unfold fL_leader
  have := lead_loop c hτ hl hm hp 40 (m / 4) 0 (by omega) (by omega)
  rw [c.2.2, show fL_leader_L7 40 (nI m) (nI l) 0 N = some (nI (ldr τ l pl (m / 4))) from this]
  rfl
def wonL (τ l : Nat) (pl : Nat → Nat) (s m : Nat) : Nat := cn (fun j => decide (ldr τ l pl (j + 1) % 2 = s)) m
theorem tricks_loop {N : Mem} {τ l m s : Nat} {pl : Nat → Nat} (c : LC0 N τ l m pl) (hτ : τ ≤ 4) (hl : l < 4) (hm : m ≤ 16) (hp : ∀ k, k < m → pl k < 24) (hs : s < 2) :
    ∀ F x j, x < F → j + x = m / 4 → fL_tricks_L6 F (nI m) (nI s) (nI (wonL τ l pl s j)) (nI (4 * (j + 1))) N = some (nI (wonL τ l pl s (m / 4))) := by
  intro F
  induction F with
  | zero => intro x j h; omega
  | succ F ih =>
    intro x j hx hj
    rw [fL_tricks_L6.eq_2]
    simp only [lt_N (show m < 2 ^ 31 by omega) (show 4 * (j + 1) < 2 ^ 31 by omega)]
    by_cases h : m < 4 * (j + 1)
    · rw [if_pos h, show j = m / 4 by omega]
    · rw [if_neg h, llead (c.le (by omega)) hτ hl (by omega) (fun k hk => hp k (by omega)), ob_s, show 4 * (j + 1) / 4 = j + 1 by omega]
      have h4 := ldr_lt (τ := τ) hl pl (j + 1)
      rw [im_2 (by omega)]
      simp only [eq_N (show ldr τ l pl (j + 1) % 2 < 2 ^ 31 by omega) (show s < 2 ^ 31 by omega)]
      have go := ih (x - 1) (j + 1) (by omega) (by omega)
      have hw : wonL τ l pl s (j + 1) = wonL τ l pl s j + (if ldr τ l pl (j + 1) % 2 = s then 1 else 0) := by
        unfold wonL; simp only [cn, decide_eq_true_eq]
      rw [show (nI (4 * (j + 1)) + 4 : Int32) = nI (4 * (j + 1 + 1)) from by rw [show (4 : Int32) = nI 4 from rfl, nI_add]; exact congrArg nI (by omega)]
      rw [hw] at go
      by_cases he : ldr τ l pl (j + 1) % 2 = s
      · rw [if_pos he] at go
        rw [if_pos he, nI_1]; exact go
      · rw [if_neg he] at go
        rw [if_neg he, show (nI (wonL τ l pl s j) + 0 : Int32) = nI (wonL τ l pl s j + 0) from nI_add _ 0]; exact go
theorem ltricks {N : Mem} {τ l m s : Nat} {pl : Nat → Nat} (c : LC0 N τ l m pl) (hτ : τ ≤ 4) (hl : l < 4) (hm : m ≤ 16) (hp : ∀ k, k < m → pl k < 24) (hs : s < 2) : fL_tricks (nI m) (nI s) N = some (nI (wonL τ l pl s (m / 4))) := by
  unfold fL_tricks
  have := tricks_loop c hτ hl hm hp hs 40 (m / 4) 0 (by omega) (by omega)
  rw [show fL_tricks_L6 40 (nI m) (nI s) 0 4 N = some (nI (wonL τ l pl s (m / 4))) from this]
  rfl
theorem suit0 {x : Int32} {u : Nat} (hu : u < 4) : (sr x (6 * nI u) &&& 63 = 0) = (anyS (bt x) u = false) := by
  have e : (6 : Int32) * nI u = nI (6 * u) := pk_mul 6 u
  rw [e]
  have hb : ∀ i, bt (sr x (nI (6 * u)) &&& 63) i = (decide (i < 6) && bt x (6 * u + i)) := fun i => by
    rw [bt_and, show (63 : Int32) = nI (2 ^ 6 - 1) from rfl, bt_pow (by omega)]
    by_cases hi : i < 6
    · rw [bt_sr (by omega) (by omega)]; simp [hi]
    · simp [hi]
  refine propext ⟨fun h => ?_, fun h => ?_⟩
  · cases hq : anyS (bt x) u with
    | false => rfl
    | true =>
      obtain ⟨d, h1, h2, h3⟩ := anyS_iff.mp hq
      have := hb (d - 6 * u)
      rw [h, bt_0, show 6 * u + (d - 6 * u) = d by omega, h2] at this
      simp at this
      omega
  · apply bt_eq0; intro i hi
    rw [hb i]
    by_cases h6 : i < 6
    · cases hq : bt x (6 * u + i) with
      | false => simp
      | true =>
        have := (anyS_iff (h := bt x) (u := u)).mpr ⟨6 * u + i, by omega, hq, by omega⟩
        rw [h] at this; cases this
    · simp [h6]
theorem lcan {N : Mem} {τ l m c : Nat} {h : Nat → Int32} {pl : Nat → Nat} (r : LC0 N τ l m pl) (hτ : τ ≤ 4) (hl : l < 4) (hm : m ≤ 16) (hp : ∀ k, k < m → pl k < 24) (hh : ∀ p, p < 4 → N 0 p = h p) (hc : c < 24) :
    fL_can (nI m) (nI c) N = some (b01 (legal (Hs h ((ldr τ l pl (m / 4) + m % 4) % 4)) (m % 4) (ts m pl) c)) := by
  have h4 := ldr_lt (τ := τ) hl pl (m / 4)
  unfold fL_can
  rw [llead r hτ hl hm hp, ob_s, im_4 (by omega), nI_add, im_4 (by omega)]
  generalize hq : (ldr τ l pl (m / 4) + m % 4) % 4 = q
  have hq4 : q < 4 := by omega
  simp only [vin_N (show q < 4 by omega) (show 4 < 2 ^ 31 by omega), if_true, cl_N (show q < 2 ^ 31 by omega)]
  rw [hh q hq4, lhas (by omega)]
  simp only [b01_0]
  unfold legal
  have hHs : Hs h q c = bt (h q) c := rfl
  rw [hHs]
  by_cases hb : bt (h q) c = false
  · rw [if_pos hb, hb]; rfl
  · have hb' : bt (h q) c = true := by cases z : bt (h q) c; exact absurd z hb; rfl
    rw [if_neg hb, hb', show (0 : Int32) = nI 0 from rfl]
    simp only [eq_N (show m % 4 < 2 ^ 31 by omega) (show 0 < 2 ^ 31 by omega)]
    by_cases h0 : m % 4 = 0
    · rw [if_pos h0]; simp [h0]; rfl
    · rw [if_neg h0, pk_sub (by omega)]
      have hp0 := hp (m - m % 4) (by omega)
      simp only [vin_N (show m - m % 4 < 16 by omega) (show 16 < 2 ^ 31 by omega), if_true, cl_N (show m - m % 4 < 2 ^ 31 by omega)]
      rw [r.1 _ (by omega), dv_6 (by omega), dv_6 (by omega)]
      have ht0 : ts m pl 0 = pl (m - m % 4) := rfl
      rw [ht0]
      have hu : pl (m - m % 4) / 6 < 4 := by omega
      rw [show nI 0 = (0 : Int32) from rfl]
      simp only [eq_N (show c / 6 < 2 ^ 31 by omega) (show pl (m - m % 4) / 6 < 2 ^ 31 by omega), suit0 hu]
      have e9 : anyS (Hs h q) (pl (m - m % 4) / 6) = anyS (bt (h q)) (pl (m - m % 4) / 6) := rfl
      rw [e9]
      by_cases h1 : c / 6 = pl (m - m % 4) / 6
      · rw [if_pos h1]; simp [h1]; rfl
      · rw [if_neg h1]
        cases h2 : anyS (bt (h q)) (pl (m - m % 4) / 6) with
        | false => rw [if_pos rfl]; simp; rfl
        | true => rw [if_neg (by decide)]; simp [h0, h1]; rfl
