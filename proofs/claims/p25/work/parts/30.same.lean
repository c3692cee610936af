/-! equal cards are worth the same -/
theorem vl_same {τ T n : Nat} {h : Nat → Int32} {pl ld : Nat → Nat} (w : WF τ T n h pl ld) {a b : Nat} (hab : a < b) (hb : b < 24) (hs : a / 6 = b / 6) (ha : bt (h (mv n ld)) a = true) (hbb : bt (h (mv n ld)) b = true) (hO : ∀ d, a < d → d < b → Out h n pl d) : vl τ T n h pl ld a = vl τ T n h pl ld b := by
  obtain ⟨w1, w2, w3, w4, w5, w6, w7, w8, w9⟩ := w
  have hm := mv_lt n ld
  have A : ∀ q, q < 4 → q ≠ mv n ld → ∀ c, a ≤ c → c ≤ b → bt (h q) c = false := by
    intro q hq hne c h1 h2
    rcases Nat.eq_or_lt_of_le h1 with rfl | h1
    · exact w7 _ _ hm hq (fun z => hne z.symm) _ ha
    · rcases Nat.eq_or_lt_of_le h2 with rfl | h2
      · exact w7 _ _ hm hq (fun z => hne z.symm) _ hbb
      · exact (hO c h1 h2).1 q hq
  have B : ∀ i, i < n % 4 → ¬ (a ≤ ts n pl i ∧ ts n pl i ≤ b) := by
    rintro i hi ⟨h1, h2⟩
    have h9 := w9 i hi _ hm
    rcases Nat.eq_or_lt_of_le h1 with q | h1
    · rw [show pl (n - n % 4 + i) = a from q.symm, ha] at h9; cases h9
    · rcases Nat.eq_or_lt_of_le h2 with q | h2
      · rw [show pl (n - n % 4 + i) = b from q, hbb] at h9; cases h9
      · exact (hO _ h1 h2).2 (n - n % 4 + i) (by omega) (by omega) rfl
  have C : n % 4 = 3 → plc τ (updN (ts n pl) 3 a) = plc τ (updN (ts n pl) 3 b) := by
    intro h3
    have swa : sw a b a = b := by simp [sw]
    refine plc_rel (fun i j hi hj hij => ?_)
    by_cases i3 : i = 3
    · subst i3
      rw [updN_s, updN_s, updN_n _ _ (fun z => hij z.symm), updN_n _ _ (fun z => hij z.symm), ← swa]
      rw [wins_swL hab hs (B j (by omega))]

    · by_cases j3 : j = 3
      · subst j3
        rw [updN_s, updN_s, updN_n _ _ i3, updN_n _ _ i3, ← swa]
        rw [wins_swR hab hs (B i (by omega))]
      · rw [updN_n _ _ i3, updN_n _ _ i3, updN_n _ _ j3, updN_n _ _ j3]
  have hw : n % 4 = 3 → wnr τ n pl ld a = wnr τ n pl ld b := fun h3 => by unfold wnr; rw [C h3]
  have hg : gn τ n pl ld a = gn τ n pl ld b := by
    unfold gn
    by_cases h3 : n % 4 = 3
    · rw [hw h3]
    · rw [if_neg (fun z => h3 z.1), if_neg (fun z => h3 z.1)]
  unfold vl
  rw [hg]
  congr 1
  unfold VG
  have hH : ∀ q, q < 4 → ∀ c, c < 24 → Hs (hP h (mv n ld) b) q c = Hs (hP h (mv n ld) a) q (sw a b c) := by
    intro q hq c hc
    unfold Hs
    rw [bt_hP (by omega) (by omega), bt_hP (by omega) (by have := sw_lt (a := a) (b := b) (by omega) hb hc; omega)]
    unfold sw
    by_cases hqm : q = mv n ld
    · subst hqm
      by_cases hca : c = a
      · subst hca
        rw [if_pos rfl, ha, hbb]
        have : c ≠ b := by omega
        have : b ≠ c := by omega
        simp [*]
      · by_cases hcb : c = b
        · subst hcb
          rw [if_neg hca, if_pos rfl]
          simp
        · rw [if_neg hca, if_neg hcb]; simp [hca, hcb]
    · have e1 : ∀ d, decide (q = mv n ld ∧ d = b) = false := fun d => decide_eq_false (fun z => hqm z.1)
      have e2 : ∀ d, decide (q = mv n ld ∧ d = a) = false := fun d => decide_eq_false (fun z => hqm z.1)
      rw [e1, e2]
      by_cases hca : c = a
      · subst hca
        rw [if_pos rfl, A q hq hqm c (Nat.le_refl _) (by omega), A q hq hqm b (by omega) (Nat.le_refl _)]
      · by_cases hcb : c = b
        · subst hcb
          rw [if_neg hca, if_pos rfl, A q hq hqm c (by omega) (Nat.le_refl _), A q hq hqm a (Nat.le_refl _) (by omega)]
        · rw [if_neg hca, if_neg hcb]
  have hA1 : ∀ q, q < 4 → q ≠ mv n ld → ∀ c, a ≤ c → c ≤ b → Hs (hP h (mv n ld) a) q c = false := by
    intro q hq hne c h1 h2
    unfold Hs
    rw [bt_hP (by omega) (by omega), A q hq hne c h1 h2]; rfl
  have hl : ldP τ n pl ld a ((n + 1) / 4) = ldP τ n pl ld b ((n + 1) / 4) := by
    unfold ldP
    by_cases h3 : n % 4 = 3
    · rw [if_pos h3, if_pos h3, hw h3]
    · rw [if_neg h3, if_neg h3]
  rw [← hl]
  refine V_swap τ a b (mv n ld) hab hb hs hm _ _ _ _ _ _ _ (by omega) ⟨hA1, ?_⟩ hH ?_
  · intro i hi hne
    by_cases h3 : n % 4 = 3
    · omega
    · have hlL : ldP τ n pl ld a ((n + 1) / 4) = ld (n / 4) := by unfold ldP; rw [if_neg h3, show (n + 1) / 4 = n / 4 by omega]
      rw [hlL] at hne
      have hik : i ≠ n % 4 := by rintro rfl; exact hne rfl
      have e : ts (n + 1) (updN pl n a) i = ts n pl i := by
        unfold ts
        rw [updN_n _ _ (by omega)]
        congr 1; omega
      rw [e]; exact B i (by omega)
  · intro i hi
    by_cases hik : i = n % 4
    · unfold ts
      rw [show n + 1 - (n + 1) % 4 + i = n by omega, updN_s, updN_s]
      simp [sw]
    · have e : ∀ x, ts (n + 1) (updN pl n x) i = ts n pl i := by
        intro x
        unfold ts
        rw [updN_n _ _ (by omega)]
        congr 1; omega
      rw [e, e]
      exact (sw_out hab (B i (by omega))).symm
/-- every card that can be played is worth as much as one of the lowest of each kind -/
theorem vl_rep {τ T n : Nat} {h : Nat → Int32} {pl ld : Nat → Nat} (w : WF τ T n h pl ld) {P o r : Int32} (hP24 : c24 P) (hPh : ∀ c, bt P c = true → bt (h (mv n ld)) c = true) (ho : ∀ c, c < 24 → (bt o c = true ↔ Out h n pl c)) (hr : ∀ c, c < 24 → (bt r c = true ↔ bt P c = true ∧ ∀ b, ¬ EqB (bt P) (bt o) c b)) :
    ∀ d, bt P d = true → ∃ c, c ≤ d ∧ bt r c = true ∧ vl τ T n h pl ld c = vl τ T n h pl ld d := by
  intro d
  induction d using Nat.strongRecOn with
  | ind d ih =>
    intro hd
    have hd24 : d < 24 := by
      rcases Nat.lt_or_ge d 24 with q | q
      · exact q
      · rw [hP24 d q] at hd; cases hd
    by_cases hex : ∃ b, EqB (bt P) (bt o) d b
    · obtain ⟨b, h1, h2, h3, h4⟩ := hex
      obtain ⟨c, c1, c2, c3⟩ := ih b h1 h3
      refine ⟨c, by omega, c2, c3.trans ?_⟩
      exact vl_same w h1 hd24 h2 (hPh b h3) (hPh d hd) (fun e e1 e2 => (ho e (by omega)).mp (h4 e e1 e2).1)
    · exact ⟨d, Nat.le_refl _, (hr d hd24).mpr ⟨hd, fun b hb => hex ⟨b, hb⟩⟩, rfl⟩
