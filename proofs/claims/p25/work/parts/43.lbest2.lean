/-! best: the search as a whole -/
theorem best_push {τ T l fr a c x : Nat} {h : Nat → Int32} {pl : Nat → Nat} {M : Mem} {v4 : Int32} (F : Nat) (w : WP τ T l a h pl) (hl : l < 4) (ha : a + 1 < 16) (hc : c < 24)
    (hh : ∀ p, p < 4 → M 0 p = h p) (lc : LC0 M τ l a pl) (e1 : fL_best_R62 (nI fr) v4 (nI a) M = some (nI x)) (e2 : fL_best_L81 40 (nI fr) v4 (nI a) (nI x) M = some (nI c)) :
    ∃ M', fL_best_L62 (F + 1) (nI fr) v4 (nI a) M = fL_best_L62 F (nI fr) v4 (nI (a + 1)) M' ∧ (∀ p, p < 4 → M' 0 p = hP h (mv a (ldr τ l pl)) c p) ∧ LC0 M' τ l (a + 1) (updN pl a c) ∧ FrB a M M' ∧ M' 1 a = nI c ∧ M' 3 a = nI (c + 1) ∧ M' 4 a = M 4 a ∧ M' 3 (a + 1) = 0 ∧ M' 4 (a + 1) = -1 := by
  have hm := mv_lt a (ldr τ l pl)
  have hld := ldr_lt (τ := τ) hl pl (a / 4)
  have hlead := llead lc w.1 hl (by omega) w.2.2.2.2.1
  have hmv : (ldr τ l pl (a / 4) + a % 4) % 4 = mv a (ldr τ l pl) := rfl
  rw [fL_best_L62.eq_2, e1, ob_s, e2, ob_s, if_neg (show ¬ (24 : Int32) ≤ nI c from nI_ge (b := 24) (by omega) (by omega)), hlead, ob_s, im_4 (by omega), nI_add, im_4 (by omega), hmv]
  generalize hmm : mv a (ldr τ l pl) = m at *
  rw [nI_1, nI_1, if_pos (vin_N hm (by omega)), if_pos (vin_N hm (by omega)), if_pos (vin_N (show a < 16 by omega) (by omega)), if_pos (vin_N (show a < 17 by omega) (by omega)), if_pos (vin_N (show a + 1 < 17 by omega) (by omega)), if_pos (vin_N (show a + 1 < 17 by omega) (by omega)), cl_N (show m < 2 ^ 31 by omega), cl_N (show a < 2 ^ 31 by omega), cl_N (show a + 1 < 2 ^ 31 by omega), hh m hm]
  generalize hM0 : mset (mset (mset (mset (mset M 0 m (h m &&& (sl 1 (nI c) ^^^ (-1)))) 1 a (nI c)) 3 a (nI (c + 1))) 3 (a + 1) 0) 4 (a + 1) (-1) = M0
  have g : ∀ i j, M0 i j = if i = 4 ∧ j = a + 1 then -1 else if i = 3 ∧ j = a + 1 then 0 else if i = 3 ∧ j = a then nI (c + 1) else if i = 1 ∧ j = a then nI c else if i = 0 ∧ j = m then h m &&& (sl 1 (nI c) ^^^ (-1)) else M i j := by
    intro i j; rw [← hM0]; simp only [mset_at]
  refine ⟨M0, rfl, fun p hp => ?_, ⟨fun k hk => ?_, ?_, ?_⟩, ⟨fun k hk => ?_, ?_, fun k hk => ?_, fun k hk => ?_⟩, ?_, ?_, ?_, ?_, ?_⟩
  · rw [g]
    unfold hP
    by_cases hpm : p = m
    · subst hpm; simp
    · simp [hpm]; exact hh p hp
  · rw [g]
    by_cases hka : k = a
    · subst hka; rw [updN_s]; simp
    · rw [updN_n _ _ hka]; simp [hka]; exact lc.1 k (by omega)
  · rw [g]; simp; exact lc.2.1
  · rw [g]; simp; exact lc.2.2
  · rw [g]; simp; intro z; omega
  · funext j; rw [g]; simp
  · rw [g]
    have h1 : ¬ k = a + 1 := by omega
    have h2 : ¬ k = a := by omega
    simp [h1, h2]
  · rw [g]
    have h1 : ¬ k = a + 1 := by omega
    simp [h1]
  · rw [g]; simp
  · rw [g]; simp
  · rw [g]; simp
  · rw [g]; simp
  · rw [g]; simp
def SubB (τ T l fr r : Nat) : Prop := ∀ a h pl, a + r = 4 * T → fr ≤ a → WP τ T l a h pl → ∀ F M, bst r ≤ F → (∀ p, p < 4 → M 0 p = h p) → LC0 M τ l a pl → M 3 a = 0 → M 4 a = -1 →
  ∃ F' M', F ≤ F' + bst r ∧ fL_best_L62 F (nI fr) (nI (4 * T)) (nI a) M = FinB F' (nI fr) (nI (4 * T)) (nI a) (nI (TV τ T l a h pl)) M' ∧ (∀ p, p < 4 → M' 0 p = h p) ∧ FrB a M M'
theorem best_in {τ T l fr r a : Nat} {h : Nat → Int32} {pl : Nat → Nat} (sub : SubB τ T l fr r) (hl : l < 4) (hT : T ≤ 3) (har : a + (r + 1) = 4 * T) (hfr : fr ≤ a) (w : WP τ T l a h pl) :
    ∀ k c0, c0 + k = 24 → ∀ F M, k * (1 + bst r) + 1 ≤ F → (∀ p, p < 4 → M 0 p = h p) → LC0 M τ l a pl → M 3 a = nI c0 →
      FndB M a (decide (mv a (ldr τ l pl) % 2 = 0)) (fun c => c < c0 ∧ c < 24 ∧ legal (Hs h (mv a (ldr τ l pl))) (a % 4) (ts a pl) c = true) (fun c => TV τ T l (a + 1) (hP h (mv a (ldr τ l pl)) c) (updN pl a c)) →
      ∃ F' M', F ≤ F' + (k * (1 + bst r) + 1) ∧ fL_best_L62 F (nI fr) (nI (4 * T)) (nI a) M = FinB F' (nI fr) (nI (4 * T)) (nI a) (nI (TV τ T l a h pl)) M' ∧ (∀ p, p < 4 → M' 0 p = h p) ∧ FrB a M M' := by
  intro k
  induction k using Nat.strongRecOn with
  | ind k ih =>
    intro c0 hk F M hF hh lc h3 fd
    obtain ⟨G, rfl⟩ : ∃ G, F = G + 1 := ⟨F - 1, by omega⟩
    have e1 : fL_best_R62 (nI fr) (nI (4 * T)) (nI a) M = some (nI c0) := by
      unfold fL_best_R62
      simp only [eq_N (show a < 2 ^ 31 by omega) (show 4 * T < 2 ^ 31 by omega)]
      rw [if_neg (by omega), if_pos (vin_N (by omega) (by omega)), cl_N (by omega), h3]
    have hcan : ∀ d, d < 24 → fL_can (nI a) (nI d) M = some (b01 (legal (Hs h (mv a (ldr τ l pl))) (a % 4) (ts a pl) d)) := fun d hd => lcan lc w.1 hl (by omega) w.2.2.2.2.1 hh hd
    obtain ⟨c, c1, c2, e2, c4, c5⟩ := bnext (v3 := nI fr) (v4 := nI (4 * T)) hcan 40 (24 - c0) c0 (by omega) (by omega)
    rcases Nat.lt_or_ge c 24 with hc | hc
    · have hleg := c4 hc
      have hb := legal_has hleg
      have hb' : bt (h (mv a (ldr τ l pl))) c = true := hb
      obtain ⟨M1, p1, p2, p3, p4, p5, p6, p7, p8, p9⟩ := best_push (v4 := nI (4 * T)) G w hl (by omega) hc hh lc e1 e2
      rw [p1]
      have w' := w.play (by omega) hc hb'
      obtain ⟨kk, rfl⟩ : ∃ kk, k = kk + 1 := ⟨k - 1, by omega⟩
      have hmul : (kk + 1) * (1 + bst r) = kk * (1 + bst r) + (1 + bst r) := Nat.succ_mul _ _
      obtain ⟨F1, M2, s1, s2, s3, s4⟩ := sub (a + 1) _ _ (by omega) (by omega) w' G M1 (by omega) p2 p3 p8 p9
      rw [s2]
      have lc2 : LC0 M2 τ l a pl := ((p4.tr (s4.le (by omega))).lc lc)
      have m4 : M2 4 a = M 4 a := by rw [s4.2.2.2 a (by omega), p7]
      have hTV : TV τ T l (a + 1) (hP h (mv a (ldr τ l pl)) c) (updN pl a c) ≤ 8 := TV_le (by omega) (by omega)
      have fd2 : FndB M2 a (decide (mv a (ldr τ l pl) % 2 = 0)) (fun c => c < c0 ∧ c < 24 ∧ legal (Hs h (mv a (ldr τ l pl))) (a % 4) (ts a pl) c = true) (fun c => TV τ T l (a + 1) (hP h (mv a (ldr τ l pl)) c) (updN pl a c)) := by
        unfold FndB; rw [m4]; exact fd
      obtain ⟨M3, q1, q2, q3, q4, q5⟩ := best_pop (S' := fun d => d < c + 1 ∧ d < 24 ∧ legal (Hs h (mv a (ldr τ l pl))) (a % 4) (ts a pl) d = true) (v4 := nI (4 * T)) F1 w hl (by omega) hfr hc hb' s3 lc2 (by rw [s4.1 a (by omega), p5]) rfl rfl (by omega) fd2 (fun d => by
        constructor
        · rintro ⟨z1, z2, z3⟩
          rcases Nat.lt_or_ge d c0 with y | y
          · exact Or.inl ⟨y, z2, z3⟩
          · rcases Nat.lt_or_ge d c with y2 | y2
            · rw [c5 d y y2] at z3; cases z3
            · exact Or.inr (by omega)
        · rintro (⟨z1, z2, z3⟩ | rfl)
          · exact ⟨by omega, z2, z3⟩
          · exact ⟨by omega, hc, hleg⟩)
      rw [q1]
      have hle : (24 - (c + 1)) * (1 + bst r) ≤ kk * (1 + bst r) := Nat.mul_le_mul_right _ (by omega)
      obtain ⟨F', M', t1, t2, t3, t4⟩ := ih (24 - (c + 1)) (by omega) (c + 1) (by omega) F1 M3 (by omega) q2 (q3.lc lc2) (by rw [q4, s4.2.2.1 a (by omega), p6]) q5
      exact ⟨F', M', by omega, t2, t3, ((p4.tr (s4.le (by omega))).tr q3).tr t4⟩
    · have hst := TV_step w (by omega : a < 4 * T)
      have e3 : fL_best_R176 (nI fr) (nI (4 * T)) (nI a) M = some (M 4 a) := by
        unfold fL_best_R176
        simp only [eq_N (show a < 2 ^ 31 by omega) (show 4 * T < 2 ^ 31 by omega)]
        rw [if_neg (by omega), if_pos (vin_N (by omega) (by omega)), cl_N (by omega)]
      refine ⟨G, M, by omega, ?_, hh, FrB.rf a M⟩
      rw [best_else e1 e2 hc (by omega) e3]
      rcases fd with ⟨f1, -⟩ | ⟨u, f1, f2, -⟩
      · exfalso
        obtain ⟨d, hd, hleg⟩ := WF_legal w (by omega)
        refine f1 d ⟨?_, hd, hleg⟩
        rcases Nat.lt_or_ge d c0 with y | y
        · exact y
        · rw [c5 d y (by omega)] at hleg; cases hleg
      · have : u = TV τ T l a h pl := by
          refine (f2.congr (fun d => ?_) (fun _ _ => rfl)).uniq hst
          constructor
          · rintro ⟨-, z2, z3⟩; exact ⟨z2, z3⟩
          · rintro ⟨z2, z3⟩
            refine ⟨?_, z2, z3⟩
            rcases Nat.lt_or_ge d c0 with y | y
            · exact y
            · rw [c5 d y (by omega)] at z3; cases z3
        rw [f1, this]
theorem best_sub {τ T l fr : Nat} (hl : l < 4) (hT : T ≤ 3) : ∀ r, SubB τ T l fr r := by
  intro r
  induction r with
  | zero =>
    intro a h pl har hfr w F M hF hh lc h3 h4
    obtain ⟨G, rfl⟩ : ∃ G, F = G + 1 := ⟨F - 1, by have : bst 0 = 1 := rfl; omega⟩
    have ea : a = 4 * T := by omega
    have e1 : fL_best_R62 (nI fr) (nI (4 * T)) (nI a) M = some (nI 24) := by
      unfold fL_best_R62
      rw [if_pos (by rw [ea])]; rfl
    have e2 : fL_best_L81 40 (nI fr) (nI (4 * T)) (nI a) (nI 24) M = some (nI 24) := by
      rw [show fL_best_L81 40 = fL_best_L81 (39 + 1) from rfl, fL_best_L81.eq_2, if_pos (by decide)]
    have hV : VG τ T a h pl (ldr τ l pl) = 0 := by unfold VG; rw [show 4 * T - a = 0 by omega]; rfl
    have e3 : fL_best_R176 (nI fr) (nI (4 * T)) (nI a) M = some (nI (TV τ T l a h pl)) := by
      unfold fL_best_R176
      rw [if_pos (by rw [ea]), ← ea, show (0 : Int32) = nI 0 from rfl, ltricks lc w.1 hl (by omega) w.2.2.2.2.1 (by omega), ob_s]
      unfold TV
      rw [hV]; rfl
    refine ⟨G, M, by show G + 1 ≤ G + 1; omega, best_else e1 e2 (Nat.le_refl _) (by omega) e3, hh, FrB.rf a M⟩
  | succ r ih =>
    intro a h pl har hfr w F M hF hh lc h3 h4
    exact best_in ih hl hT har hfr w 24 0 (by omega) F M hF hh lc h3 (Or.inl ⟨fun c z => by omega, h4⟩)
/-- the law's best: the tricks of side 0 with best plays from now on -/
theorem lbest {N : Mem} {τ T l n : Nat} {h : Nat → Int32} {pl : Nat → Nat} (hl : l < 4) (hT : T ≤ 3) (w : WP τ T l n h pl) (hh : ∀ p, p < 4 → N 0 p = h p) (lc : LC0 N τ l n pl) (h20 : N 2 0 = nI n) (hsum : n + cnt (h 0) + cnt (h 1) + cnt (h 2) + cnt (h 3) = 4 * T) :
    ∃ N', fL_best N = some (nI (TV τ T l n h pl), N') ∧ (∀ p, p < 4 → N' 0 p = h p) ∧ (∀ k, k < n → N' 1 k = N 1 k) ∧ N' 2 = N 2 := by
  have c0 := w.2.2.2.1
  unfold fL_best
  rw [hh 0 (by omega), hh 1 (by omega), hh 2 (by omega), hh 3 (by omega), lsize (c0 0 (by omega)), lsize (c0 1 (by omega)), lsize (c0 2 (by omega)), lsize (c0 3 (by omega)), ob_s, ob_s, ob_s, ob_s, h20, if_pos (vin_N (by omega) (by omega)), if_pos (vin_N (by omega) (by omega)), cl_N (by omega), nI_add, nI_add, nI_add, nI_add, hsum]
  generalize hM0 : mset (mset (mzB N) 3 n 0) 4 n (-1) = M0
  have g : ∀ i j, i < 3 → M0 i j = N i j := fun i j hi => by
    rw [← hM0, mset_at, mset_at, if_neg (by omega), if_neg (by omega)]
    unfold mzB
    have e3 : Nat.beq i 3 = false := by cases hb : Nat.beq i 3; rfl; have := Nat.eq_of_beq_eq_true hb; omega
    have e4 : Nat.beq i 4 = false := by cases hb : Nat.beq i 4; rfl; have := Nat.eq_of_beq_eq_true hb; omega
    rw [e3, e4]; rfl
  obtain ⟨F', M', s1, s2, s3, s4⟩ := best_sub (τ := τ) (fr := n) hl hT (4 * T - n) n h pl (by omega) (Nat.le_refl _) w 100000000000000000000 M0 (by
    have h1 := bst_le (12 - (4 * T - n)) (4 * T - n)
    have h2 : bst (4 * T - n + (12 - (4 * T - n))) ≤ 100000000000000000000 := by
      rw [show 4 * T - n + (12 - (4 * T - n)) = 12 by omega]
      exact Nat.le_of_ble_eq_true rfl
    omega) (fun p hp => by rw [g 0 p (by omega)]; exact hh p hp) ⟨fun k hk => by rw [g 1 k (by omega)]; exact lc.1 k hk, by rw [g 2 1 (by omega)]; exact lc.2.1, by rw [g 2 2 (by omega)]; exact lc.2.2⟩ (by rw [← hM0, mset_at]; simp [mset_at]) (by rw [← hM0, mset_at]; simp)
  rw [s2]
  unfold FinB
  rw [if_pos rfl, ob_s]
  exact ⟨M', rfl, s3, fun k hk => by rw [s4.1 k hk, g 1 k (by omega)], by rw [s4.2.1]; funext j; exact g 2 j (by omega)⟩
