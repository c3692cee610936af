/-! the search with a window -/
def Snd (a b : Int) (v f : Nat) : Prop := ((f : Int) ≤ a → v ≤ f) ∧ (b ≤ (f : Int) → f ≤ v) ∧ (a < (f : Int) → (f : Int) < b → f = v)
def LI (e : Bool) (D : Nat → Prop) (f : Nat → Nat) (B : Nat) (a b p q β : Int) : Prop :=
  if e then q = b ∧ (((∀ c, ¬ D c) ∧ p = a ∧ β = -1) ∨ (∃ k : Nat, β = k ∧ k ≤ B) ∧ p = max a β ∧ (b ≤ β ∨ ∀ c, D c → (f c : Int) ≤ β) ∧ (β ≤ a ∨ ∃ c, D c ∧ β ≤ (f c : Int)))
  else p = a ∧ (((∀ c, ¬ D c) ∧ q = b ∧ β = 5) ∨ (∃ k : Nat, β = k ∧ k ≤ B) ∧ q = min b β ∧ (β ≤ a ∨ ∀ c, D c → β ≤ (f c : Int)) ∧ (b ≤ β ∨ ∃ c, D c ∧ (f c : Int) ≤ β))
theorem LI.bd {e : Bool} {D : Nat → Prop} {f : Nat → Nat} {B : Nat} {a b p q β : Int} (h : LI e D f B a b p q β) (hB : B ≤ 4) : a ≤ p ∧ q ≤ b ∧ -1 ≤ β ∧ β ≤ 5 ∧ p ≤ max a 5 ∧ min b (-1) ≤ q := by
  unfold LI at h
  cases e with
  | true =>
    rw [if_pos rfl] at h
    obtain ⟨h1, ⟨-, h2, h3⟩ | ⟨⟨k, h2, h3⟩, h4, -⟩⟩ := h <;> omega
  | false =>
    rw [if_neg (by decide)] at h
    obtain ⟨h1, ⟨-, h2, h3⟩ | ⟨⟨k, h2, h3⟩, h4, -⟩⟩ := h <;> omega
theorem LI.step {e : Bool} {D D' : Nat → Prop} {f : Nat → Nat} {B c k : Nat} {a b p q β : Int} (h : LI e D f B a b p q β) (hpq : p < q) (s : Snd p q (f c) k) (hk : k ≤ B) (hB : B ≤ 4) (hD : ∀ d, D' d ↔ D d ∨ d = c) :
    LI e D' f B a b (if e then max p (max β k) else p) (if e then q else min q (min β k)) (if e then max β k else min β k) := by
  obtain ⟨s1, s2, s3⟩ := s
  unfold LI at h ⊢
  have hc : D' c := (hD c).mpr (Or.inr rfl)
  cases e with
  | true =>
    simp only [if_true] at h ⊢
    obtain ⟨h1, ⟨h2, h3, h4⟩ | ⟨⟨k0, h2, h3⟩, h4, h5, h6⟩⟩ := h
    · refine ⟨h1, Or.inr ⟨⟨k, by omega, hk⟩, by omega, ?_, ?_⟩⟩
      · rcases Classical.em (b ≤ max β k) with z | z
        · exact Or.inl z
        · refine Or.inr (fun d hd => ?_)
          rcases (hD d).mp hd with y | rfl
          · exact absurd y (h2 d)
          · omega
      · rcases Classical.em (max β k ≤ a) with z | z
        · exact Or.inl z
        · exact Or.inr ⟨c, hc, by omega⟩
    · refine ⟨h1, Or.inr ⟨⟨max k0 k, by clear h5 h6 s1 s2 s3; omega, by omega⟩, by clear h5 h6 s1 s2 s3; omega, ?_, ?_⟩⟩
      · rcases Classical.em (b ≤ max β k) with z | z
        · exact Or.inl z
        · refine Or.inr (fun d hd => ?_)
          rcases (hD d).mp hd with y | rfl
          · rcases h5 with h5 | h5
            · omega
            · have := h5 d y; omega
          · omega
      · rcases Classical.em (max β k ≤ a) with z | z
        · exact Or.inl z
        · rcases Classical.em ((k : Int) ≤ β) with y | y
          · rcases h6 with h6 | ⟨d, hd, h6⟩
            · omega
            · exact Or.inr ⟨d, (hD d).mpr (Or.inl hd), by omega⟩
          · exact Or.inr ⟨c, hc, by omega⟩
  | false =>
    simp only [Bool.false_eq_true, if_false] at h ⊢
    obtain ⟨h1, ⟨h2, h3, h4⟩ | ⟨⟨k0, h2, h3⟩, h4, h5, h6⟩⟩ := h
    · refine ⟨h1, Or.inr ⟨⟨k, by omega, hk⟩, by omega, ?_, ?_⟩⟩
      · rcases Classical.em (min β k ≤ a) with z | z
        · exact Or.inl z
        · refine Or.inr (fun d hd => ?_)
          rcases (hD d).mp hd with y | rfl
          · exact absurd y (h2 d)
          · omega
      · rcases Classical.em (b ≤ min β k) with z | z
        · exact Or.inl z
        · exact Or.inr ⟨c, hc, by omega⟩
    · refine ⟨h1, Or.inr ⟨⟨min k0 k, by clear h5 h6 s1 s2 s3; omega, by omega⟩, by clear h5 h6 s1 s2 s3; omega, ?_, ?_⟩⟩
      · rcases Classical.em (min β k ≤ a) with z | z
        · exact Or.inl z
        · refine Or.inr (fun d hd => ?_)
          rcases (hD d).mp hd with y | rfl
          · rcases h5 with h5 | h5
            · omega
            · have := h5 d y; omega
          · omega
      · rcases Classical.em (b ≤ min β k) with z | z
        · exact Or.inl z
        · rcases Classical.em (β ≤ (k : Int)) with y | y
          · rcases h6 with h6 | ⟨d, hd, h6⟩
            · omega
            · exact Or.inr ⟨d, (hD d).mpr (Or.inl hd), by omega⟩
          · exact Or.inr ⟨c, hc, by omega⟩
theorem LI.fin {e : Bool} {D S R : Nat → Prop} {f : Nat → Nat} {B v : Nat} {a b p q β : Int} (h : LI e D f B a b p q β) (hab : a < b) (hDR : ∀ c, D c → R c) (hend : q ≤ p ∨ ∀ c, R c → D c) (hRS : ∀ c, R c → S c) (hSR : ∀ c, S c → ∃ d, R d ∧ f d = f c) (hv : IsOpt e S f v) :
    ∃ k : Nat, β = k ∧ k ≤ B ∧ Snd a b v k := by
  obtain ⟨⟨s, hs, hsv⟩, hall⟩ := hv
  obtain ⟨r0, hr0, hf0⟩ := hSR s hs
  unfold LI at h
  unfold Snd
  cases e with
  | true =>
    simp only [if_true] at h hall
    obtain ⟨h1, ⟨h2, h3, h4⟩ | ⟨⟨k, h2, h3⟩, h4, h5, h6⟩⟩ := h
    · rcases hend with z | z
      · omega
      · exact absurd (z r0 hr0) (h2 r0)
    · refine ⟨k, h2, h3, ?_⟩
      have hU : ¬ b ≤ β → (v : Int) ≤ β := fun hb => by
        rcases hend with z | z
        · omega
        · rcases h5 with y | y
          · exact absurd y hb
          · have := y r0 (z r0 hr0); omega
      have hL : ¬ β ≤ a → β ≤ (v : Int) := fun hb => by
        rcases h6 with y | ⟨c, hc, y⟩
        · exact absurd y hb
        · have := hall c (hRS c (hDR c hc)); omega
      refine ⟨fun z => ?_, fun z => ?_, fun z y => ?_⟩
      · have := hU (by omega); omega
      · have := hL (by omega); omega
      · have := hU (by omega); have := hL (by omega); omega
  | false =>
    simp only [Bool.false_eq_true, if_false] at h hall
    obtain ⟨h1, ⟨h2, h3, h4⟩ | ⟨⟨k, h2, h3⟩, h4, h5, h6⟩⟩ := h
    · rcases hend with z | z
      · omega
      · exact absurd (z r0 hr0) (h2 r0)
    · refine ⟨k, h2, h3, ?_⟩
      have hU : ¬ β ≤ a → β ≤ (v : Int) := fun hb => by
        rcases hend with z | z
        · omega
        · rcases h5 with y | y
          · exact absurd y hb
          · have := y r0 (z r0 hr0); omega
      have hL : ¬ b ≤ β → (v : Int) ≤ β := fun hb => by
        rcases h6 with y | ⟨c, hc, y⟩
        · exact absurd y hb
        · have := hall c (hRS c (hDR c hc)); omega
      refine ⟨fun z => ?_, fun z => ?_, fun z y => ?_⟩
      · have := hL (by omega); omega
      · have := hU (by omega); omega
      · have := hU (by omega); have := hL (by omega); omega
theorem Rep.row5 {M M' : Mem} {τ T n : Nat} {h : Nat → Int32} {pl ld : Nat → Nat} (r : Rep M τ T n h pl ld) (e : ∀ i, i ≠ 5 → M' i = M i) : Rep M' τ T n h pl ld := by
  unfold Rep at r ⊢
  rw [e 0 (by decide), e 1 (by decide), e 2 (by decide), e 3 (by decide)]
  exact r
theorem Dl.play {d h : Nat → Int32} (a : Dl d h) {p c : Nat} (hc : c < 24) : Dl d (hP h p c) := by
  refine ⟨fun q hq e he => a.1 q hq e ?_, a.2⟩
  rcases Nat.lt_or_ge e 32 with z | z
  · rw [bt_hP hc z] at he
    simp only [Bool.and_eq_true] at he
    exact he.1
  · rw [bt_ge _ z] at he; cases he
def SS (g : Int32 → Int32 → Int32 → Mem → Option (Int32 × Mem)) (τ T : Nat) (d : Nat → Int32) (F : Nat) (z : Nat) : Prop :=
  ∀ (n : Nat) (M : Mem) (h : Nat → Int32) (pl ld : Nat → Nat) (a b : Int), 4 * T - n < F → n + z ≤ 4 * T → Rep M τ T n h pl ld → WF τ T n h pl ld → Dl d h → KOK τ T d (M 5) → -(n : Int) ≤ a → a < b → b ≤ 8 →
    ∃ (r : Nat) (M' : Mem), g (nI (4 * T - n)) (iI a) (iI b) M = some (nI r, M') ∧ Rep M' τ T n h pl ld ∧ KOK τ T d (M' 5) ∧ M' 0 4 = M 0 4 ∧ r ≤ T - n / 4 ∧ Snd a b (VG τ T n h pl ld) r
theorem try_loop {g : Int32 → Int32 → Int32 → Mem → Option (Int32 × Mem)} {F τ T n : Nat} {d h : Nat → Int32} {pl ld : Nat → Nat} (hS : SS g τ T d F 0) (w : WF τ T n h pl ld) (hD : Dl d h) (hn : n < 4 * T) (hf : 4 * T - (n + 1) < F) (E4 : Int32) (R : Int32) (hRh : ∀ c, c < 24 → bt R c = true → bt (h (mv n ld)) c = true) (e : Bool) (a b : Int) (ha : -(n : Int) ≤ a) (hab : a < b) (hb8 : b ≤ 8) (Q : Int → Prop)
    (hQ : ∀ D p q β, LI e D (vl τ T n h pl ld) (T - n / 4) a b p q β → (∀ c, D c → c < 24 ∧ bt R c = true) → (q ≤ p ∨ ∀ c, c < 24 ∧ bt R c = true → D c) → Q β) :
    ∀ (G m tr : Nat) (x : Int32) (p q β : Int) (M : Mem), m < G → cnt x = m → m + tr ≤ 4 → c24 x → (∀ c, c < 24 → bt x c = true → bt R c = true) → LI e (fun c => c < 24 ∧ bt R c = true ∧ bt x c = false) (vl τ T n h pl ld) (T - n / 4) a b p q β → Rep M τ T n h pl ld → KOK τ T d (M 5) → M 0 4 = E4 →
      ∃ (β' : Int) (M' : Mem), fX4_tryPlays_L60 g G (nI (4 * T - n)) (b01 e) x (iI p) (iI q) (iI β) (nI tr) M = some (iI β', M') ∧ Q β' ∧ Rep M' τ T n h pl ld ∧ KOK τ T d (M' 5) ∧ M' 0 4 = E4 := by
  have hT := w.2.1
  have hB : T - n / 4 ≤ 4 := by omega
  intro G
  induction G with
  | zero => intro m tr x p q β M h1; omega
  | succ G ih =>
    intro m tr x p q β M hmG hcnt hmt h24 hsub hL r hK h4
    obtain ⟨b1, b2, b3, b4, b5, b6⟩ := hL.bd hB
    rw [fX4_tryPlays_L60.eq_2]
    by_cases hx0 : x = 0
    · have hq := hQ _ _ _ _ hL (fun c z => ⟨z.1, z.2.1⟩) (Or.inr (fun c z => ⟨z.1, z.2, by rw [hx0]; exact bt_0 c⟩))
      by_cases ht : (4 : Int32) ≤ nI tr
      · rw [if_pos ht]; exact ⟨β, M, rfl, hq, r, hK, h4⟩
      · rw [if_neg ht, if_pos hx0]; exact ⟨β, M, rfl, hq, r, hK, h4⟩
    · have hm0 : 0 < m := by
        rcases Nat.eq_zero_or_pos m with z | z
        · exact absurd (cnt_0 h24 (hcnt.trans z)) hx0
        · exact z
      rw [if_neg (show ¬ (4 : Int32) ≤ nI tr from nI_ge (b := 4) (by omega) (by omega)), if_neg hx0]
      simp only [iI_le (a := q) (b := p) (by omega) (by omega) (by omega) (by omega)]
      by_cases hqp : q ≤ p
      · rw [if_pos hqp]
        exact ⟨β, M, rfl, hQ _ _ _ _ hL (fun c z => ⟨z.1, z.2.1⟩) (Or.inl hqp), r, hK, h4⟩
      · rw [if_neg hqp]
        obtain ⟨c, hc, hbc, -, hhigh⟩ := high_ex hx0 h24
        rw [hhigh]
        have hRc := hsub c hc hbc
        have hbm := hRh c hc hRc
        obtain ⟨M1, l1, r1, l5, l4⟩ := lay_ok r w hn hc
        rw [l1]
        have hw1 := WF_play w hn hc hbm
        simp only [obind]
        have hpred : nI (4 * T - n) - 1 = nI (4 * T - (n + 1)) := by
          obtain ⟨k, hk⟩ : ∃ k, 4 * T - n = k + 1 := ⟨4 * T - n - 1, by omega⟩
          rw [hk, nI_pred]; congr 1; omega
        have hgn : gn τ n pl ld c ≤ 1 := by unfold gn; split <;> omega
        have hg3 : n % 4 ≠ 3 → gn τ n pl ld c = 0 := fun z => by unfold gn; rw [if_neg (fun y => z y.1)]
        obtain ⟨k, M2, s1, r2, hK2, s4, hk, hsnd⟩ := hS (n + 1) M1 _ _ _ (p - gn τ n pl ld c) (q - gn τ n pl ld c) hf (by omega) r1 hw1 (hD.play hc) (by rw [l5]; exact hK) (by omega) (by omega) (by omega)
        rw [gain_eq, hpred, ← iI_nat (gn τ n pl ld c), iI_sub, iI_sub, s1]
        obtain ⟨M3, e1, r3, e5, e4⟩ := back_ok r2 w hn hc hbm
        dsimp only
        rw [e1, ← iI_nat k, iI_add]
        have hsnd' : Snd p q (vl τ T n h pl ld c) (gn τ n pl ld c + k) := by
          unfold Snd at hsnd ⊢
          unfold vl
          generalize VG τ T (n + 1) (hP h (mv n ld) c) (updN pl n c) (ldP τ n pl ld c) = v at hsnd ⊢
          omega
        have hkB : gn τ n pl ld c + k ≤ T - n / 4 := by
          by_cases z : n % 4 = 3
          · omega
          · have := hg3 z; omega
        have hx' : ∀ d, bt (x &&& (sl 1 (nI c) ^^^ (-1))) d = (bt x d && !decide (d = c)) := by
          intro d
          rcases Nat.lt_or_ge d 32 with q | q
          · exact bt_rem hc q
          · rw [bt_ge _ q, bt_ge _ q]; rfl
        have hcr := cnt_rem hc hbc
        have hnew := hL.step (D' := fun d => d < 24 ∧ bt R d = true ∧ bt (x &&& (sl 1 (nI c) ^^^ (-1))) d = false) (by omega) hsnd' hkB hB (fun d => by
          rw [hx' d]
          constructor
          · rintro ⟨z1, z2, z3⟩
            by_cases hdc : d = c
            · exact Or.inr hdc
            · refine Or.inl ⟨z1, z2, ?_⟩
              simpa [hdc] using z3
          · rintro (⟨z1, z2, z3⟩ | rfl)
            · exact ⟨z1, z2, by rw [z3]; rfl⟩
            · exact ⟨hc, hRc, by simp⟩)
        have hcast : ((gn τ n pl ld c + k : Nat) : Int) = (gn τ n pl ld c : Int) + (k : Int) := by omega
        rw [hcast] at hnew
        have go := ih (m - 1) (tr + 1) (x &&& (sl 1 (nI c) ^^^ (-1))) _ _ _ M3 (by omega) (by omega) (by omega) (c24_rem h24) (fun d hd hbd => hsub d hd (by rw [hx' d] at hbd; simp only [Bool.and_eq_true] at hbd; exact hbd.1)) hnew r3 (by rw [e5]; exact hK2) (by rw [e4, s4, l4, h4])
        have htr : nI tr + 1 = nI (tr + 1) := nI_add tr 1
        rw [htr]
        cases e with
        | true =>
          rw [if_neg (show ¬ b01 true = 0 by decide)]
          simp only [if_true] at go
          rw [iI_mx (a := β) (by omega) (by omega) (by omega) (by omega), iI_mx (by omega) (by omega) (by omega) (by omega)]
          exact go
        | false =>
          rw [if_pos (show b01 false = 0 by decide)]
          simp only [Bool.false_eq_true, if_false] at go
          rw [iI_mn (a := β) (by omega) (by omega) (by omega) (by omega), iI_mn (by omega) (by omega) (by omega) (by omega)]
          exact go
