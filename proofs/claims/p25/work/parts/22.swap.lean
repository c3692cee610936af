/-! two cards of one hand, none of another player's between them: which of them is played doesn't matter -/
def sw (a b c : Nat) : Nat := if c = a then b else if c = b then a else c
theorem sw_sw (a b c : Nat) : sw a b (sw a b c) = c := by
  unfold sw; repeat' split
  all_goals omega
theorem sw_lt {a b c : Nat} (ha : a < 24) (hb : b < 24) (hc : c < 24) : sw a b c < 24 := by
  unfold sw; repeat' split
  all_goals omega
theorem sw_suit {a b : Nat} (h : a / 6 = b / 6) (c : Nat) : sw a b c / 6 = c / 6 := by
  unfold sw; repeat' split
  · rename_i h1; rw [h1, h]
  · rename_i h1 h2; rw [h2, h]
  · rfl
theorem sw_out {a b c : Nat} (hab : a < b) (h : ¬ (a ≤ c ∧ c ≤ b)) : sw a b c = c := by
  unfold sw; repeat' split
  all_goals omega
theorem wins_swL {τ a b x y : Nat} (hab : a < b) (hs : a / 6 = b / 6) (hy : ¬ (a ≤ y ∧ y ≤ b)) : wins τ (sw a b x) y = wins τ x y := by
  unfold wins
  rw [sw_suit hs]
  by_cases h : y / 6 = x / 6
  · rw [if_pos h, if_pos h]
    unfold sw
    by_cases h1 : x = a
    · subst h1; rw [if_pos rfl]; simp only [decide_eq_decide]; omega
    · rw [if_neg h1]
      by_cases h2 : x = b
      · subst h2; rw [if_pos rfl]; simp only [decide_eq_decide]; omega
      · rw [if_neg h2]
  · rw [if_neg h, if_neg h]
theorem wins_swR {τ a b x y : Nat} (hab : a < b) (hs : a / 6 = b / 6) (hx : ¬ (a ≤ x ∧ x ≤ b)) : wins τ x (sw a b y) = wins τ x y := by
  unfold wins
  rw [sw_suit hs]
  by_cases h : y / 6 = x / 6
  · rw [if_pos h, if_pos h]
    unfold sw
    by_cases h1 : y = a
    · subst h1; rw [if_pos rfl]; simp only [decide_eq_decide]; omega
    · rw [if_neg h1]
      by_cases h2 : y = b
      · subst h2; rw [if_pos rfl]; simp only [decide_eq_decide]; omega
      · rw [if_neg h2]
  · rw [if_neg h, if_neg h]
theorem plc_rel {τ : Nat} {t t' : Nat → Nat} (h : ∀ i j, i < 4 → j < 4 → i ≠ j → wins τ (t i) (t j) = wins τ (t' i) (t' j)) : plc τ t = plc τ t' := by
  unfold plc; dsimp only
  rw [h 0 1 (by omega) (by omega) (by omega)]
  generalize hp1 : (if wins τ (t' 0) (t' 1) = true then 1 else 0) = p1
  have l1 : p1 < 2 := by rw [← hp1]; split <;> omega
  rw [h p1 2 (by omega) (by omega) (by omega)]
  generalize hp2 : (if wins τ (t' p1) (t' 2) = true then 2 else p1) = p2
  have l2 : p2 < 3 := by rw [← hp2]; split <;> omega
  rw [h p2 3 (by omega) (by omega) (by omega)]
/-- no other player's card lies between -/
def Apart (a b p : Nat) (H : Nat → Nat → Bool) (k : Nat) (t : Nat → Nat) (L : Nat) : Prop :=
  (∀ q, q < 4 → q ≠ p → ∀ c, a ≤ c → c ≤ b → H q c = false) ∧ ∀ i, i < k → (L + i) % 4 ≠ p → ¬ (a ≤ t i ∧ t i ≤ b)
theorem V_swap (τ a b p : Nat) (hab : a < b) (hb : b < 24) (hs : a / 6 = b / 6) (hp : p < 4) : ∀ (n : Nat) (H1 H2 : Nat → Nat → Bool) (k : Nat) (t1 t2 : Nat → Nat) (L : Nat), k < 4 → Apart a b p H1 k t1 L →
    (∀ q, q < 4 → ∀ c, c < 24 → H2 q c = H1 q (sw a b c)) → (∀ i, i < k → t2 i = sw a b (t1 i)) → V τ n H1 k t1 L = V τ n H2 k t2 L := by
  intro n
  induction n with
  | zero => intros; rfl
  | succ n ih =>
    intro H1 H2 k t1 t2 L hk hA hH ht
    have ha24 : a < 24 := by omega
    have hm : (L + k) % 4 < 4 := Nat.mod_lt _ (by decide)
    generalize hmv : (L + k) % 4 = m at hm
    have hany : ∀ u, anyS (H2 m) u = anyS (H1 m) u := by
      intro u
      cases hx : anyS (H1 m) u with
      | true =>
        obtain ⟨d, h1, h2, h3⟩ := anyS_iff.mp hx
        exact anyS_iff.mpr ⟨sw a b d, sw_lt ha24 hb h1, by rw [hH m hm _ (sw_lt ha24 hb h1), sw_sw]; exact h2, by rw [sw_suit hs]; exact h3⟩
      | false =>
        cases hy : anyS (H2 m) u with
        | false => rfl
        | true =>
          obtain ⟨d, h1, h2, h3⟩ := anyS_iff.mp hy
          have := anyS_iff (h := H1 m) (u := u).mpr ⟨sw a b d, sw_lt ha24 hb h1, by rw [← hH m hm _ h1]; exact h2, by rw [sw_suit hs]; exact h3⟩
          rw [hx] at this; cases this
    have hleg : ∀ c, c < 24 → legal (H2 m) k t2 (sw a b c) = legal (H1 m) k t1 c := by
      intro c hc
      unfold legal
      rw [hH m hm _ (sw_lt ha24 hb hc), sw_sw, sw_suit hs]
      by_cases hk0 : k = 0
      · simp [hk0]
      · have h0 : t2 0 / 6 = t1 0 / 6 := by rw [ht 0 (by omega), sw_suit hs]
        rw [h0, hany]
    have hval : ∀ c, c < 24 → legal (H1 m) k t1 c = true →
        (if k = 3 then (if (L + plc τ (updN t2 3 (sw a b c))) % 4 % 2 = 0 then 1 else 0) + V τ n (remH H2 m (sw a b c)) 0 (updN t2 3 (sw a b c)) ((L + plc τ (updN t2 3 (sw a b c))) % 4)
          else V τ n (remH H2 m (sw a b c)) (k + 1) (updN t2 k (sw a b c)) L) =
        (if k = 3 then (if (L + plc τ (updN t1 3 c)) % 4 % 2 = 0 then 1 else 0) + V τ n (remH H1 m c) 0 (updN t1 3 c) ((L + plc τ (updN t1 3 c)) % 4)
          else V τ n (remH H1 m c) (k + 1) (updN t1 k c) L) := by
      intro c hc hl
      have hHc : H1 m c = true := by unfold legal at hl; cases hq : H1 m c; rw [hq] at hl; simp at hl; rfl
      have hrem : ∀ q, q < 4 → ∀ d, d < 24 → remH H2 m (sw a b c) q d = remH H1 m c q (sw a b d) := by
        intro q hq d hd
        unfold remH
        by_cases h1 : q = m ∧ d = sw a b c
        · rw [if_pos h1, if_pos ⟨h1.1, by rw [h1.2, sw_sw]⟩]
        · rw [if_neg h1, if_neg (fun h2 => h1 ⟨h2.1, by rw [← h2.2, sw_sw]⟩)]
          exact hH q hq d hd
      have hAr : ∀ q, q < 4 → q ≠ p → ∀ d, a ≤ d → d ≤ b → remH H1 m c q d = false := by
        intro q hq hqp d h1 h2
        unfold remH; split
        · rfl
        · exact hA.1 q hq hqp d h1 h2
      have hcp : m ≠ p → ¬ (a ≤ c ∧ c ≤ b) := fun hmp h => by
        have := hA.1 m hm hmp c h.1 h.2
        rw [hHc] at this; cases this
      have htr : ∀ i, i < k + 1 → (L + i) % 4 ≠ p → ¬ (a ≤ updN t1 k c i ∧ updN t1 k c i ≤ b) := by
        intro i hi hip
        by_cases hik : i = k
        · subst hik; rw [updN_s]; exact hcp (by rw [← hmv]; exact hip)
        · rw [updN_n _ _ hik]; exact hA.2 i (by omega) hip
      have hts : ∀ i, i < k + 1 → updN t2 k (sw a b c) i = sw a b (updN t1 k c i) := by
        intro i hi
        by_cases hik : i = k
        · subst hik; rw [updN_s, updN_s]
        · rw [updN_n _ _ hik, updN_n _ _ hik]; exact ht i (by omega)
      by_cases h3 : k = 3
      · subst h3
        rw [if_pos rfl, if_pos rfl]
        have hpl : plc τ (updN t2 3 (sw a b c)) = plc τ (updN t1 3 c) := by
          refine plc_rel (fun i j hi hj hij => ?_)
          rw [hts i hi, hts j hj]
          by_cases hip : (L + i) % 4 = p
          · have hjp : (L + j) % 4 ≠ p := by omega
            have hj' := htr j hj hjp
            rw [sw_out hab hj']
            exact wins_swL hab hs hj'
          · have hi' := htr i hi hip
            rw [sw_out hab hi']
            exact wins_swR hab hs hi'
        rw [hpl]
        rw [ih (remH H1 m c) (remH H2 m (sw a b c)) 0 (updN t1 3 c) (updN t2 3 (sw a b c)) ((L + plc τ (updN t1 3 c)) % 4) (by omega) ⟨hAr, fun i hi => by omega⟩ hrem (fun i hi => by omega)]
      · rw [if_neg h3, if_neg h3]
        exact (ih (remH H1 m c) (remH H2 m (sw a b c)) (k + 1) (updN t1 k c) (updN t2 k (sw a b c)) L (by omega) ⟨hAr, htr⟩ hrem hts).symm
    simp only [V, hmv]
    by_cases hex : ∃ c, c < 24 ∧ legal (H1 m) k t1 c = true
    · have hex2 : ∃ c, c < 24 ∧ legal (H2 m) k t2 c = true := by
        obtain ⟨c, hc, h⟩ := hex
        exact ⟨sw a b c, sw_lt ha24 hb hc, by rw [hleg c hc]; exact h⟩
      refine IsOpt.uniq (opt_spec _ _ _ hex) ?_
      obtain ⟨⟨c, ⟨hc, hl⟩, he⟩, hall⟩ := opt_spec (decide (m % 2 = 0)) (fun c => legal (H2 m) k t2 c) (fun c => if k = 3 then (if (L + plc τ (updN t2 3 c)) % 4 % 2 = 0 then 1 else 0) + V τ n (remH H2 m c) 0 (updN t2 3 c) ((L + plc τ (updN t2 3 c)) % 4) else V τ n (remH H2 m c) (k + 1) (updN t2 k c) L) hex2
      have key : ∀ d, d < 24 → legal (H2 m) k t2 d = true → legal (H1 m) k t1 (sw a b d) = true := fun d hd h => by
        rw [← hleg _ (sw_lt ha24 hb hd), sw_sw]; exact h
      refine ⟨⟨sw a b c, ⟨sw_lt ha24 hb hc, key c hc hl⟩, ?_⟩, fun d hd => ?_⟩
      · rw [← he]
        have := hval (sw a b c) (sw_lt ha24 hb hc) (key c hc hl)
        rw [sw_sw] at this
        exact this.symm
      · have h1 := hall (sw a b d) ⟨sw_lt ha24 hb hd.1, by rw [hleg d hd.1]; exact hd.2⟩
        have h2 := hval d hd.1 hd.2
        dsimp only at h1
        rw [h2] at h1
        exact h1
    · rw [opt_none _ _ _ (fun c hc => by cases hq : legal (H1 m) k t1 c; rfl; exact absurd ⟨c, hc, hq⟩ hex)]
      rw [opt_none _ _ _ (fun c hc => by
        cases hq : legal (H2 m) k t2 c
        · rfl
        · exact absurd ⟨sw a b c, sw_lt ha24 hb hc, by rw [← hleg _ (sw_lt ha24 hb hc), sw_sw]; exact hq⟩ hex)]
