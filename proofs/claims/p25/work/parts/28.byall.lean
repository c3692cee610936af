/-! all plays are tried: that is the value -/
theorem low_ex {x : Int32} (h0 : x ≠ 0) (h24 : c24 x) : ∃ c, c < 24 ∧ bt x c = true ∧ (∀ d, d < c → bt x d = false) ∧ fX0_lowest x = nI c := by
  obtain ⟨c, hc, hmin⟩ := pk_least (fun c => bt x c = true) (by obtain ⟨c, -, h⟩ := bt_ne0 h0; exact ⟨c, h⟩)
  have hc24 : c < 24 := by
    rcases Nat.lt_or_ge c 24 with q | q
    · exact q
    · rw [h24 c q] at hc; cases hc
  have hf : ∀ d, d < c → bt x d = false := fun d hd => by cases hq : bt x d; rfl; exact absurd hq (hmin d hd)
  exact ⟨c, hc24, hc, hf, low_eq hc24 hc hf⟩
theorem high_ex {x : Int32} (h0 : x ≠ 0) (h24 : c24 x) : ∃ c, c < 24 ∧ bt x c = true ∧ (∀ d, c < d → bt x d = false) ∧ fX0_highest x = nI c := by
  obtain ⟨e, he, hmin⟩ := pk_least (fun e => e < 24 ∧ bt x (23 - e) = true) (by
    obtain ⟨c, -, h⟩ := bt_ne0 h0
    have hc24 : c < 24 := by
      rcases Nat.lt_or_ge c 24 with q | q
      · exact q
      · rw [h24 c q] at h; cases h
    exact ⟨23 - c, by omega, by rw [show 23 - (23 - c) = c by omega]; exact h⟩)
  have hf : ∀ d, 23 - e < d → bt x d = false := fun d hd => by
    rcases Nat.lt_or_ge d 24 with q | q
    · cases hq : bt x d with
      | false => rfl
      | true => exact absurd ⟨by omega, by rw [show 23 - (23 - d) = d by omega]; exact hq⟩ (hmin (23 - d) (by omega))
    · exact h24 d q
  exact ⟨23 - e, by omega, he.2, hf, high_eq (by omega) he.2 hf⟩
theorem cnt_0 {x : Int32} (h24 : c24 x) (h : cnt x = 0) : x = 0 := by
  apply bt_eq0; intro c _
  rcases Nat.lt_or_ge c 24 with q | q
  · exact cn_zero 24 h c q
  · exact h24 c q
theorem cnt_le {x y : Int32} (h : ∀ c, c < 24 → bt x c = true → bt y c = true) : cnt x ≤ cnt y := by
  have : ∀ n, n ≤ 24 → cn (bt x) n ≤ cn (bt y) n := by
    intro n
    induction n with
    | zero => intro _; exact Nat.le_refl _
    | succ n ih =>
      intro hn
      simp only [cn]
      have := ih (by omega)
      by_cases hx : bt x n = true
      · rw [if_pos hx, if_pos (h n (by omega) hx)]; omega
      · rw [if_neg hx]; omega
  exact this 24 (Nat.le_refl _)
theorem c24_rem {x : Int32} {c : Nat} (h : c24 x) : c24 (x &&& (sl 1 (nI c) ^^^ (-1))) := c24_and h
theorem gain_eq {τ n c : Nat} {pl ld : Nat → Nat} : fX4_gainOf (resP τ n pl ld c) = nI (gn τ n pl ld c) := by
  unfold fX4_gainOf resP gn fX0_sideOf
  have hw : wnr τ n pl ld c < 4 := Nat.mod_lt _ (by decide)
  by_cases h3 : n % 4 = 3
  · rw [if_pos h3, if_neg (ne_m1 (by omega)), im_2 (by omega)]
    by_cases h2 : wnr τ n pl ld c % 2 = 0
    · rw [h2, if_pos (show nI 0 = 0 from rfl), if_pos ⟨h3, rfl⟩]; rfl
    · rw [if_neg (by rw [show (0 : Int32) = nI 0 from rfl, eq_N (by omega) (by omega)]; exact h2), if_neg (fun z => h2 z.2)]; rfl
  · rw [if_neg h3, if_pos rfl, if_neg (fun z => h3 z.1)]; rfl
/-- the card taken back: the game as it was -/
theorem back_ok {M : Mem} {τ T n : Nat} {h : Nat → Int32} {pl ld : Nat → Nat} {c : Nat} (r : Rep M τ T (n + 1) (hP h (mv n ld) c) (updN pl n c) (ldP τ n pl ld c)) (w : WF τ T n h pl ld) (hn : n < 4 * T) (hc : c < 24) (hb : bt (h (mv n ld)) c = true) :
    ∃ M' : Mem, (fX1_lift M).2 = M' ∧ Rep M' τ T n h pl ld ∧ M' 5 = M 5 ∧ M' 0 4 = M 0 4 := by
  obtain ⟨w1, w2, w3, w4, w5, w6, w7, w8, w9⟩ := w
  have hld : ∀ j, j ≤ n / 4 → ldP τ n pl ld c j = ld j := by
    intro j hj; unfold ldP; split
    · exact updN_n _ _ (by omega)
    · rfl
  have hmv : mv n (ldP τ n pl ld c) = mv n ld := by unfold mv; rw [hld _ (Nat.le_refl _)]
  obtain ⟨M', e1, r', e2, e3⟩ := lift_ok r w2 hn (fun j hj => by rw [hld j hj]; exact w6 j hj) (by rw [updN_s]; exact hc)
  refine ⟨M', by rw [e1], ?_, e2, e3⟩
  refine r'.congr (fun p hp => ?_) (fun k hk => updN_n _ _ (by omega)) hld
  rw [hmv, updN_s]
  unfold hL hP
  by_cases hpm : p = mv n ld
  · rw [if_pos hpm, if_pos hpm]
    apply bt_ext; intro d hd
    rw [bt_addc hc, bt_rem hc hd]
    by_cases hdc : d = c
    · subst hdc; rw [hpm, hb]; simp
    · simp [hdc]
  · rw [if_neg hpm, if_neg hpm]
def b01 (e : Bool) : Int32 := if e then 1 else 0
/-- the best of what has been tried (none yet: the first number) -/
def BestOf (e : Bool) (D : Nat → Prop) (f : Nat → Nat) (best : Int32) : Prop := ((∀ c, ¬ D c) ∧ best = (if e then -1 else 5)) ∨ ∃ v, best = nI v ∧ v ≤ 5 ∧ IsOpt e D f v
theorem mx_N {a b : Nat} (ha : a < 2 ^ 31) (hb : b < 2 ^ 31) : mx (nI a) (nI b) = nI (max a b) := by
  unfold mx
  simp only [lt_N ha hb]
  by_cases h : a < b
  · rw [if_pos h, Nat.max_eq_right (by omega)]
  · rw [if_neg h, Nat.max_eq_left (by omega)]
theorem mn_N {a b : Nat} (ha : a < 2 ^ 31) (hb : b < 2 ^ 31) : mn (nI a) (nI b) = nI (min a b) := by
  unfold mn
  simp only [lt_N hb ha]
  by_cases h : b < a
  · rw [if_pos h, Nat.min_eq_right (by omega)]
  · rw [if_neg h, Nat.min_eq_left (by omega)]
theorem mx_m1 {b : Nat} (hb : b < 2 ^ 31) : mx (-1) (nI b) = nI b := by
  unfold mx
  rw [if_pos]
  rw [Int32.lt_iff_toInt_lt, nI_toInt hb]
  have : (-1 : Int32).toInt = -1 := by decide
  omega
theorem BestOf.add {e : Bool} {D D' : Nat → Prop} {f : Nat → Nat} {best : Int32} {c : Nat} (h : BestOf e D f best) (hD : ∀ d, D' d ↔ D d ∨ d = c) (hv : f c ≤ 5) : BestOf e D' f (if e then mx best (nI (f c)) else mn best (nI (f c))) := by
  refine Or.inr ?_
  rcases h with ⟨h0, rfl⟩ | ⟨v, rfl, h5, ⟨⟨a, ha, hav⟩, hall⟩⟩
  · refine ⟨f c, ?_, hv, ⟨c, (hD c).mpr (Or.inr rfl), rfl⟩, fun d hd => ?_⟩
    · cases e with
      | true => simp; exact mx_m1 (by omega)
      | false => simp; rw [show (5 : Int32) = nI 5 from rfl, mn_N (by omega) (by omega), Nat.min_eq_right hv]
    · rcases (hD d).mp hd with h | rfl
      · exact absurd h (h0 d)
      · cases e <;> simp
  · cases e with
    | true =>
      simp only [if_true]
      rw [mx_N (by omega) (by omega)]
      refine ⟨max v (f c), rfl, by omega, ?_, fun d hd => ?_⟩
      · rcases Nat.le_total v (f c) with h | h
        · exact ⟨c, (hD c).mpr (Or.inr rfl), by omega⟩
        · exact ⟨a, (hD a).mpr (Or.inl ha), by omega⟩
      · rcases (hD d).mp hd with h | rfl
        · have := hall d h; simp at this ⊢; omega
        · simp; omega
    | false =>
      simp only [Bool.false_eq_true, if_false]
      rw [mn_N (by omega) (by omega)]
      refine ⟨min v (f c), rfl, by omega, ?_, fun d hd => ?_⟩
      · rcases Nat.le_total v (f c) with h | h
        · exact ⟨a, (hD a).mpr (Or.inl ha), by omega⟩
        · exact ⟨c, (hD c).mpr (Or.inr rfl), by omega⟩
      · rcases (hD d).mp hd with h | rfl
        · have := hall d h; simp at this ⊢; omega
        · simp; omega
def Sub (f : Nat) (τ T : Nat) : Prop := ∀ (n : Nat) (M : Mem) (h : Nat → Int32) (pl ld : Nat → Nat), 4 * T - n < f → Rep M τ T n h pl ld → WF τ T n h pl ld → ∃ M', sB f (nI (4 * T - n)) M = some (nI (VG τ T n h pl ld), M') ∧ Rep M' τ T n h pl ld ∧ M' 5 = M 5 ∧ M' 0 4 = M 0 4
theorem byAll_loop {f τ T n : Nat} {h : Nat → Int32} {pl ld : Nat → Nat} (hS : Sub f τ T) (w : WF τ T n h pl ld) (hn : n < 4 * T) (hf : 4 * T - (n + 1) < f) (E5 : Nat → Int32) (E4 : Int32) (P : Int32) (hP24 : c24 P) (hPl : ∀ c, c < 24 → bt P c = legal (Hs h (mv n ld)) (n % 4) (ts n pl) c) (e : Bool) :
    ∀ (F m tr : Nat) (x best : Int32) (M : Mem), m < F → cnt x = m → m + tr ≤ 4 → c24 x → (∀ c, c < 24 → bt x c = true → bt P c = true) → BestOf e (fun c => c < 24 ∧ bt P c = true ∧ bt x c = false) (vl τ T n h pl ld) best → Rep M τ T n h pl ld → M 5 = E5 → M 0 4 = E4 →
      ∃ (b' : Int32) (M' : Mem), fX4_byAllPlays_L41 (sB f) F (nI (4 * T - n)) (b01 e) x best (nI tr) M = some (b', M') ∧ BestOf e (fun c => c < 24 ∧ bt P c = true) (vl τ T n h pl ld) b' ∧ Rep M' τ T n h pl ld ∧ M' 5 = E5 ∧ M' 0 4 = E4 := by
  intro F
  induction F with
  | zero => intro m tr x best M h1; omega
  | succ F ih =>
    intro m tr x best M hmF hcnt hmt h24 hsub hB r h5 h4
    rw [fX4_byAllPlays_L41.eq_2]
    by_cases hx0 : x = 0
    · have hall : BestOf e (fun c => c < 24 ∧ bt P c = true) (vl τ T n h pl ld) best := by
        subst hx0
        rcases hB with ⟨a1, a2⟩ | ⟨v, a1, a2, a3⟩
        · exact Or.inl ⟨fun c hc => a1 c ⟨hc.1, hc.2, bt_0 c⟩, a2⟩
        · exact Or.inr ⟨v, a1, a2, a3.congr (fun c => ⟨fun z => ⟨z.1, z.2.1⟩, fun z => ⟨z.1, z.2, bt_0 c⟩⟩) (fun _ _ => rfl)⟩
      by_cases ht : (4 : Int32) ≤ nI tr
      · rw [if_pos ht]; exact ⟨best, M, rfl, hall, r, h5, h4⟩
      · rw [if_neg ht, if_pos hx0]; exact ⟨best, M, rfl, hall, r, h5, h4⟩
    · have hm0 : 0 < m := by
        rcases Nat.eq_zero_or_pos m with q | q
        · exact absurd (cnt_0 h24 (hcnt.trans q)) hx0
        · exact q
      obtain ⟨c, hc, hbc, -, hlow⟩ := low_ex hx0 h24
      have hPc := hsub c hc hbc
      have hbm : bt (h (mv n ld)) c = true := by
        have := hPl c hc
        rw [hPc] at this
        exact legal_has this.symm
      rw [if_neg (show ¬ (4 : Int32) ≤ nI tr from nI_ge (b := 4) (by omega) (by omega)), if_neg hx0, hlow]
      obtain ⟨M1, l1, r1, l5, l4⟩ := lay_ok r w hn hc
      rw [l1]
      have hw1 := WF_play w hn hc hbm
      obtain ⟨M2, s1, r2, s5, s4⟩ := hS (n + 1) M1 _ _ _ hf r1 hw1
      have hpred : nI (4 * T - n) - 1 = nI (4 * T - (n + 1)) := by
        obtain ⟨k, hk⟩ : ∃ k, 4 * T - n = k + 1 := ⟨4 * T - n - 1, by omega⟩
        rw [hk, nI_pred]; congr 1; omega
      simp only [obind]
      rw [hpred, s1]
      obtain ⟨M3, b1, r3, b5, b4⟩ := back_ok r2 w hn hc hbm
      dsimp only
      rw [gain_eq, nI_add, b1]
      have hvl : nI (gn τ n pl ld c + VG τ T (n + 1) (hP h (mv n ld) c) (updN pl n c) (ldP τ n pl ld c)) = nI (vl τ T n h pl ld c) := rfl
      rw [hvl, nI_1]
      have hx' : ∀ d, bt (x &&& (sl 1 (nI c) ^^^ (-1))) d = (bt x d && !decide (d = c)) := by
        intro d
        rcases Nat.lt_or_ge d 32 with q | q
        · exact bt_rem hc q
        · rw [bt_ge _ q, bt_ge _ q]; rfl
      have hcr := cnt_rem hc hbc
      have hnew := hB.add (D' := fun d => d < 24 ∧ bt P d = true ∧ bt (x &&& (sl 1 (nI c) ^^^ (-1))) d = false) (c := c) (fun d => by
        rw [hx' d]
        constructor
        · rintro ⟨z1, z2, z3⟩
          by_cases hdc : d = c
          · exact Or.inr hdc
          · refine Or.inl ⟨z1, z2, ?_⟩
            simpa [hdc] using z3
        · rintro (⟨z1, z2, z3⟩ | rfl)
          · exact ⟨z1, z2, by rw [z3]; rfl⟩
          · exact ⟨hc, hPc, by simp⟩) (vl_le w.2.1 hn)
      have go := ih (m - 1) (tr + 1) (x &&& (sl 1 (nI c) ^^^ (-1))) _ M3 (by omega) (by omega) (by omega) (c24_rem h24) (fun d hd hbd => hsub d hd (by rw [hx' d] at hbd; simp only [Bool.and_eq_true] at hbd; exact hbd.1)) hnew r3 (by rw [b5, s5, l5, h5]) (by rw [b4, s4, l4, h4])
      cases e with
      | true => rw [if_neg (show ¬ b01 true = 0 by decide)]; exact go
      | false => rw [if_pos (show b01 false = 0 by decide)]; exact go
theorem byAll_ok (τ T : Nat) : ∀ f, Sub f τ T := by
  intro f
  induction f with
  | zero => intro n M h pl ld h1; omega
  | succ f ih =>
    intro n M h pl ld hf r w
    show ∃ M', fX4_byAllPlays (sB f) (nI (4 * T - n)) M = some (nI (VG τ T n h pl ld), M') ∧ _
    unfold fX4_byAllPlays
    by_cases hn : n < 4 * T
    · rw [if_pos (show (0 : Int32) < nI (4 * T - n) from nI_lt (a := 0) (by omega) (by have := w.2.1; omega))]
      have hm := mv_lt n ld
      rw [R_mover r w hn]
      unfold fX0_sideOf
      rw [im_2 (by omega)]
      obtain ⟨hp24, hpl⟩ := R_playable r w hn
      have hcnt : cnt (fX1_playable M) ≤ 4 := by
        have h1 : cnt (fX1_playable M) ≤ cnt (h (mv n ld)) := cnt_le (fun c hc hb => by rw [hpl c hc] at hb; exact legal_has hb)
        have h2 := WF_mover w hn
        have := w.2.1
        omega
      have key : ∀ e : Bool, e = decide (mv n ld % 2 = 0) → ∃ M', fX4_byAllPlays_L41 (sB f) 40 (nI (4 * T - n)) (b01 e) (fX1_playable M) (if e then -1 else 5) 0 M = some (nI (VG τ T n h pl ld), M') ∧ Rep M' τ T n h pl ld ∧ M' 5 = M 5 ∧ M' 0 4 = M 0 4 := by
        intro e he
        obtain ⟨b', M', g1, g2, g3, g4, g5⟩ := byAll_loop ih w hn (by omega) (M 5) (M 0 4) (fX1_playable M) hp24 hpl e 40 (cnt (fX1_playable M)) 0 (fX1_playable M) (if e then -1 else 5) M (by omega) rfl (by omega) hp24 (fun c _ hb => hb) (Or.inl ⟨fun c z => (by obtain ⟨_, z1, z2⟩ := z; rw [z1] at z2; cases z2), rfl⟩) r rfl rfl
        refine ⟨M', ?_, g3, g4, g5⟩
        have hst := VG_step w hn
        rcases g2 with ⟨z, -⟩ | ⟨v, hv, -, hopt⟩
        · obtain ⟨c, hc, hl⟩ := WF_legal w hn
          exact absurd ⟨hc, by rw [hpl c hc]; exact hl⟩ (z c)
        · have hopt' : IsOpt e (fun c => c < 24 ∧ legal (Hs h (mv n ld)) (n % 4) (ts n pl) c = true) (vl τ T n h pl ld) v := hopt.congr (fun c => ⟨fun z => ⟨z.1, by rw [← hpl c z.1]; exact z.2⟩, fun z => ⟨z.1, by rw [hpl c z.1]; exact z.2⟩⟩) (fun _ _ => rfl)
          rw [he] at hopt'
          have hve := hopt'.uniq hst
          rw [show (0 : Int32) = nI 0 from rfl, g1, hv, hve]
      by_cases h2 : mv n ld % 2 = 0
      · rw [h2, if_pos (show nI 0 = 0 from rfl)]
        obtain ⟨M', k1, k2⟩ := key true (by simp [h2])
        have k1' : fX4_byAllPlays_L41 (sB f) 40 (nI (4 * T - n)) 1 (fX1_playable M) (-1) 0 M = some (nI (VG τ T n h pl ld), M') := k1
        rw [k1']
        exact ⟨M', rfl, k2⟩
      · rw [if_neg (by rw [show (0 : Int32) = nI 0 from rfl, eq_N (by omega) (by omega)]; exact h2)]
        obtain ⟨M', k1, k2⟩ := key false (by simp [h2])
        have k1' : fX4_byAllPlays_L41 (sB f) 40 (nI (4 * T - n)) 0 (fX1_playable M) 5 0 M = some (nI (VG τ T n h pl ld), M') := k1
        rw [k1']
        exact ⟨M', rfl, k2⟩
    · have h0 : 4 * T - n = 0 := by omega
      rw [h0, if_neg (show ¬ (0 : Int32) < nI 0 by decide)]
      have hv : VG τ T n h pl ld = 0 := by unfold VG; rw [h0]; rfl
      rw [hv]
      exact ⟨M, rfl, r, rfl, rfl⟩
