/-! the game in plain numbers: hands as sets of cards by player, the trick that has begun, who leads it, cards left -/
def updN (f : Nat → Nat) (k v : Nat) : Nat → Nat := fun j => if j = k then v else f j
theorem updN_s (f : Nat → Nat) (k v : Nat) : updN f k v k = v := by simp [updN]
theorem updN_n (f : Nat → Nat) {k j : Nat} (v : Nat) (h : j ≠ k) : updN f k v j = f j := by simp [updN, h]
/-- c, played later, beats b -/
def wins (τ b c : Nat) : Bool := if c / 6 = b / 6 then decide (b < c) else decide (c / 6 = τ)
/-- the place of the trick's winner -/
def plc (τ : Nat) (t : Nat → Nat) : Nat :=
  let p1 := if wins τ (t 0) (t 1) then 1 else 0
  let p2 := if wins τ (t p1) (t 2) then 2 else p1
  if wins τ (t p2) (t 3) then 3 else p2
theorem plc_lt (τ : Nat) (t : Nat → Nat) : plc τ t < 4 := by
  unfold plc; dsimp only
  repeat' split
  all_goals omega
theorem plc_congr {τ : Nat} {t t' : Nat → Nat} (h : ∀ i, i < 4 → t i = t' i) : plc τ t = plc τ t' := by
  unfold plc; dsimp only
  rw [h 0 (by omega), h 1 (by omega), h 2 (by omega), h 3 (by omega)]
  have e1 : t (if wins τ (t' 0) (t' 1) = true then 1 else 0) = t' (if wins τ (t' 0) (t' 1) = true then 1 else 0) := by split <;> exact h _ (by omega)
  rw [e1]
  have e2 : t (if wins τ (t' (if wins τ (t' 0) (t' 1) = true then 1 else 0)) (t' 2) = true then 2 else if wins τ (t' 0) (t' 1) = true then 1 else 0) = t' (if wins τ (t' (if wins τ (t' 0) (t' 1) = true then 1 else 0)) (t' 2) = true then 2 else if wins τ (t' 0) (t' 1) = true then 1 else 0) := by
    repeat' split
    all_goals exact h _ (by omega)
  rw [e2]
/-- the best of a list: greatest or least; 0 of an empty one -/
def optL (e : Bool) : List Nat → Nat
  | [] => 0
  | a :: l => match l with
    | [] => a
    | _ :: _ => if e then max a (optL e l) else min a (optL e l)
theorem optL_cc (e : Bool) (a b : Nat) (l : List Nat) : optL e (a :: b :: l) = if e then max a (optL e (b :: l)) else min a (optL e (b :: l)) := rfl
theorem optL_mem (e : Bool) : ∀ l : List Nat, l ≠ [] → optL e l ∈ l := by
  intro l
  induction l with
  | nil => intro h; exact absurd rfl h
  | cons a l ih =>
    intro _
    cases l with
    | nil => simp [optL]
    | cons b l =>
      have := ih (by simp)
      rw [optL_cc]
      cases e with
      | true =>
        rw [if_pos rfl]
        rcases Nat.le_total a (optL true (b :: l)) with h | h
        · rw [Nat.max_eq_right h]; exact List.mem_cons_of_mem _ this
        · rw [Nat.max_eq_left h]; exact List.mem_cons_self
      | false =>
        rw [if_neg (by decide)]
        rcases Nat.le_total a (optL false (b :: l)) with h | h
        · rw [Nat.min_eq_left h]; exact List.mem_cons_self
        · rw [Nat.min_eq_right h]; exact List.mem_cons_of_mem _ this
theorem optL_max : ∀ (l : List Nat) (a : Nat), a ∈ l → a ≤ optL true l := by
  intro l
  induction l with
  | nil => intro a h; cases h
  | cons b l ih =>
    intro a h
    cases l with
    | nil => simp at h; simp [optL, h]
    | cons c l =>
      rw [optL_cc, if_pos rfl]
      rcases List.mem_cons.mp h with rfl | h
      · exact Nat.le_max_left _ _
      · exact Nat.le_trans (ih a h) (Nat.le_max_right _ _)
theorem optL_min : ∀ (l : List Nat) (a : Nat), a ∈ l → optL false l ≤ a := by
  intro l
  induction l with
  | nil => intro a h; cases h
  | cons b l ih =>
    intro a h
    cases l with
    | nil => simp at h; simp [optL, h]
    | cons c l =>
      rw [optL_cc, if_neg (by decide)]
      rcases List.mem_cons.mp h with rfl | h
      · exact Nat.min_le_left _ _
      · exact Nat.le_trans (Nat.min_le_right _ _) (ih a h)
/-- v is the best of f over S -/
def IsOpt (e : Bool) (S : Nat → Prop) (f : Nat → Nat) (v : Nat) : Prop := (∃ c, S c ∧ f c = v) ∧ ∀ c, S c → if e then f c ≤ v else v ≤ f c
theorem IsOpt.uniq {e : Bool} {S : Nat → Prop} {f : Nat → Nat} {v w : Nat} (h1 : IsOpt e S f v) (h2 : IsOpt e S f w) : v = w := by
  obtain ⟨⟨c, hc, rfl⟩, a1⟩ := h1
  obtain ⟨⟨d, hd, rfl⟩, a2⟩ := h2
  have x := a1 d hd
  have y := a2 c hc
  cases e <;> simp at x y <;> omega
theorem IsOpt.congr {e : Bool} {S S' : Nat → Prop} {f f' : Nat → Nat} {v : Nat} (h : IsOpt e S f v) (hS : ∀ c, S c ↔ S' c) (hf : ∀ c, S c → f c = f' c) : IsOpt e S' f' v := by
  obtain ⟨⟨c, hc, rfl⟩, a1⟩ := h
  refine ⟨⟨c, (hS c).mp hc, (hf c hc).symm⟩, fun d hd => ?_⟩
  have := a1 d ((hS d).mpr hd)
  rw [← hf d ((hS d).mpr hd)]; exact this
def opt (e : Bool) (S : Nat → Bool) (f : Nat → Nat) : Nat := optL e (((List.range 24).filter S).map f)
theorem opt_spec (e : Bool) (S : Nat → Bool) (f : Nat → Nat) (h : ∃ c, c < 24 ∧ S c = true) : IsOpt e (fun c => c < 24 ∧ S c = true) f (opt e S f) := by
  have hne : ((List.range 24).filter S).map f ≠ [] := by
    obtain ⟨c, hc, hs⟩ := h
    intro h0
    have : f c ∈ ((List.range 24).filter S).map f := List.mem_map.mpr ⟨c, List.mem_filter.mpr ⟨List.mem_range.mpr hc, hs⟩, rfl⟩
    rw [h0] at this; cases this
  have hm := optL_mem e _ hne
  refine ⟨?_, ?_⟩
  · obtain ⟨c, hc, he⟩ := List.mem_map.mp hm
    obtain ⟨h1, h2⟩ := List.mem_filter.mp hc
    exact ⟨c, ⟨List.mem_range.mp h1, h2⟩, he⟩
  · intro c hc
    have hin : f c ∈ ((List.range 24).filter S).map f := List.mem_map.mpr ⟨c, List.mem_filter.mpr ⟨List.mem_range.mpr hc.1, hc.2⟩, rfl⟩
    cases e with
    | true => simp; exact optL_max _ _ hin
    | false => simp; exact optL_min _ _ hin
theorem opt_none (e : Bool) (S : Nat → Bool) (f : Nat → Nat) (h : ∀ c, c < 24 → S c = false) : opt e S f = 0 := by
  have : (List.range 24).filter S = [] := by
    rw [List.filter_eq_nil_iff]
    intro c hc; rw [h c (List.mem_range.mp hc)]; simp
  unfold opt; rw [this]; rfl
theorem opt_congr {e : Bool} {S S' : Nat → Bool} {f f' : Nat → Nat} (hS : ∀ c, c < 24 → S c = S' c) (hf : ∀ c, c < 24 → S c = true → f c = f' c) : opt e S f = opt e S' f' := by
  have h1 : (List.range 24).filter S = (List.range 24).filter S' := List.filter_congr (fun c hc => hS c (List.mem_range.mp hc))
  unfold opt
  rw [h1]
  congr 1
  apply List.map_congr_left
  intro c hc
  obtain ⟨a, b⟩ := List.mem_filter.mp hc
  exact hf c (List.mem_range.mp a) (by rw [hS c (List.mem_range.mp a)]; exact b)
/-- has a card of a suit -/
def anyS (h : Nat → Bool) (u : Nat) : Bool := (List.range 24).any (fun d => h d && decide (d / 6 = u))
theorem anyS_iff {h : Nat → Bool} {u : Nat} : anyS h u = true ↔ ∃ d, d < 24 ∧ h d = true ∧ d / 6 = u := by
  unfold anyS
  simp only [List.any_eq_true, List.mem_range, Bool.and_eq_true, decide_eq_true_eq]
def legal (h : Nat → Bool) (k : Nat) (t : Nat → Nat) (c : Nat) : Bool := h c && (decide (k = 0) || decide (c / 6 = t 0 / 6) || !anyS h (t 0 / 6))
def remH (H : Nat → Nat → Bool) (p c : Nat) : Nat → Nat → Bool := fun q d => if q = p ∧ d = c then false else H q d
/-- what the side 0 can win -/
def V (τ : Nat) : Nat → (Nat → Nat → Bool) → Nat → (Nat → Nat) → Nat → Nat
  | 0, _, _, _, _ => 0
  | n + 1, H, k, t, L =>
    opt (decide ((L + k) % 4 % 2 = 0)) (fun c => legal (H ((L + k) % 4)) k t c)
      (fun c => if k = 3 then (if (L + plc τ (updN t 3 c)) % 4 % 2 = 0 then 1 else 0) + V τ n (remH H ((L + k) % 4) c) 0 (updN t 3 c) ((L + plc τ (updN t 3 c)) % 4)
        else V τ n (remH H ((L + k) % 4) c) (k + 1) (updN t k c) L)
theorem anyS_congr {h h' : Nat → Bool} {u : Nat} (e : ∀ d, d < 24 → h d = h' d) : anyS h u = anyS h' u := by
  cases hx : anyS h' u with
  | true =>
    obtain ⟨d, h1, h2, h3⟩ := anyS_iff.mp hx
    exact anyS_iff.mpr ⟨d, h1, by rw [e d h1]; exact h2, h3⟩
  | false =>
    cases hy : anyS h u with
    | false => rfl
    | true =>
      obtain ⟨d, h1, h2, h3⟩ := anyS_iff.mp hy
      have := anyS_iff (h := h').mpr ⟨d, h1, by rw [← e d h1]; exact h2, h3⟩
      rw [hx] at this; cases this
theorem legal_congr {h h' : Nat → Bool} {k : Nat} {t t' : Nat → Nat} {c : Nat} (e : ∀ d, d < 24 → h d = h' d) (ht : 0 < k → t 0 = t' 0) (hc : c < 24) : legal h k t c = legal h' k t' c := by
  unfold legal
  rw [e c hc]
  by_cases hk : k = 0
  · simp [hk]
  · rw [ht (by omega), anyS_congr (u := t' 0 / 6) e]
theorem V_congr (τ : Nat) : ∀ (n : Nat) (H H' : Nat → Nat → Bool) (k : Nat) (t t' : Nat → Nat) (L : Nat), k < 4 → (∀ p, p < 4 → ∀ c, c < 24 → H p c = H' p c) → (∀ i, i < k → t i = t' i) → V τ n H k t L = V τ n H' k t' L := by
  intro n
  induction n with
  | zero => intros; rfl
  | succ n ih =>
    intro H H' k t t' L hk hH ht
    have hp : (L + k) % 4 < 4 := Nat.mod_lt _ (by decide)
    simp only [V]
    refine opt_congr (fun c hc => legal_congr (hH _ hp) (fun h => ht 0 h) hc) (fun c hc _ => ?_)
    have hrem : ∀ p, p < 4 → ∀ d, d < 24 → remH H ((L + k) % 4) c p d = remH H' ((L + k) % 4) c p d := fun p h1 d h2 => by
      unfold remH; split
      · rfl
      · exact hH p h1 d h2
    by_cases h3 : k = 3
    · rw [if_pos h3, if_pos h3]
      have hu : ∀ i, i < 4 → updN t 3 c i = updN t' 3 c i := fun i hi => by
        unfold updN; split
        · rfl
        · exact ht i (by omega)
      rw [plc_congr (τ := τ) hu]
      rw [ih _ _ 0 _ (updN t' 3 c) _ (by omega) hrem (fun i hi => by omega)]
    · rw [if_neg h3, if_neg h3]
      refine ih _ _ (k + 1) _ _ _ (by omega) hrem (fun i hi => ?_)
      unfold updN; split
      · rfl
      · exact ht i (by omega)
theorem V_le (τ : Nat) : ∀ (n : Nat) (H : Nat → Nat → Bool) (k : Nat) (t : Nat → Nat) (L : Nat), k < 4 → V τ n H k t L ≤ (n + k) / 4 := by
  intro n
  induction n with
  | zero => intros; exact Nat.zero_le _
  | succ n ih =>
    intro H k t L hk
    simp only [V]
    by_cases hex : ∃ c, c < 24 ∧ legal (H ((L + k) % 4)) k t c = true
    · obtain ⟨⟨c, hc, he⟩, -⟩ := opt_spec (decide ((L + k) % 4 % 2 = 0)) (fun c => legal (H ((L + k) % 4)) k t c) (fun c => if k = 3 then (if (L + plc τ (updN t 3 c)) % 4 % 2 = 0 then 1 else 0) + V τ n (remH H ((L + k) % 4) c) 0 (updN t 3 c) ((L + plc τ (updN t 3 c)) % 4)
        else V τ n (remH H ((L + k) % 4) c) (k + 1) (updN t k c) L) hex
      rw [← he]
      by_cases h3 : k = 3
      · simp only [h3, if_true]
        have := ih (remH H ((L + 3) % 4) c) 0 (updN t 3 c) ((L + plc τ (updN t 3 c)) % 4) (by omega)
        split <;> omega
      · simp only [h3, if_false]
        have := ih (remH H ((L + k) % 4) c) (k + 1) (updN t k c) L (by omega)
        omega
    · rw [opt_none _ _ _ (fun c hc => by cases hq : legal (H ((L + k) % 4)) k t c; rfl; exact absurd ⟨c, hc, hq⟩ hex)]
      exact Nat.zero_le _
