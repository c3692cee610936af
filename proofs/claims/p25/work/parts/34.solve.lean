/-! the search bounds the value; the value itself -/
theorem try_ok {g : Int32 → Int32 → Int32 → Mem → Option (Int32 × Mem)} {F τ T : Nat} {d : Nat → Int32} (hS : SS g τ T d F 0) : SS (fX4_tryPlays g) τ T d (F + 1) 1 := by
  intro n M h pl ld a b hf hz r w hD hK ha hab hb8
  have hn : n < 4 * T := by omega
  have hT := w.2.1
  obtain ⟨-, -, -, q7, q1, q2, -⟩ := id r
  obtain ⟨o, ho, ho24, hob⟩ := out_ok q1 q7 q2 (by omega) w.2.2.2.2.1
  obtain ⟨hp24, hpl⟩ := R_playable r w hn
  have hPh : ∀ c, bt (fX1_playable M) c = true → bt (h (mv n ld)) c = true := by
    intro c hb
    rcases Nat.lt_or_ge c 24 with q | q
    · rw [hpl c q] at hb; exact legal_has hb
    · rw [hp24 c q] at hb; cases hb
  have hcnt : cnt (fX1_playable M) ≤ 4 := by
    have h1 : cnt (fX1_playable M) ≤ cnt (h (mv n ld)) := cnt_le (fun c _ hb => hPh c hb)
    have h2 := WF_mover w hn
    omega
  obtain ⟨R, hR, hR24, hRb⟩ := lowE_ok o hp24 hcnt
  have hRP : ∀ c, c < 24 → bt R c = true → bt (fX1_playable M) c = true := fun c hc hb => ((hRb c hc).mp hb).1
  have hcR : cnt R ≤ 4 := Nat.le_trans (cnt_le hRP) hcnt
  have hst := VG_step w hn
  have key : ∀ e : Bool, e = decide (mv n ld % 2 = 0) → ∃ (k : Nat) (M' : Mem), fX4_tryPlays_L60 g 40 (nI (4 * T - n)) (b01 e) R (iI a) (iI b) (if e then -1 else 5) 0 M = some (nI k, M') ∧ Rep M' τ T n h pl ld ∧ KOK τ T d (M' 5) ∧ M' 0 4 = M 0 4 ∧ k ≤ T - n / 4 ∧ Snd a b (VG τ T n h pl ld) k := by
    intro e he
    rw [← he] at hst
    have hini : LI e (fun c => c < 24 ∧ bt R c = true ∧ bt R c = false) (vl τ T n h pl ld) (T - n / 4) a b a b (if e then -1 else 5) := by
      have h0 : ∀ c, ¬ (c < 24 ∧ bt R c = true ∧ bt R c = false) := fun c => by rintro ⟨-, z1, z2⟩; rw [z1] at z2; cases z2
      unfold LI
      cases e with
      | true => simp only [if_true]; exact ⟨by trivial, Or.inl ⟨h0, by trivial, by trivial⟩⟩
      | false => simp only [Bool.false_eq_true, if_false]; exact ⟨by trivial, Or.inl ⟨h0, by trivial, by trivial⟩⟩
    obtain ⟨β, M', g1, ⟨k, rfl, hk, hs⟩, g3, g4, g5⟩ := try_loop hS w hD hn (by omega) (M 0 4) R (fun c hc hb => hPh c (hRP c hc hb)) e a b ha hab hb8 (fun β => ∃ k : Nat, β = k ∧ k ≤ T - n / 4 ∧ Snd a b (VG τ T n h pl ld) k)
      (fun D p q β hL hDR hend => hL.fin (S := fun c => c < 24 ∧ legal (Hs h (mv n ld)) (n % 4) (ts n pl) c = true) (R := fun c => c < 24 ∧ bt R c = true) hab hDR hend (fun c z => ⟨z.1, by rw [← hpl c z.1]; exact hRP c z.1 z.2⟩) (fun c z => by
        obtain ⟨c', w1, w2, w3⟩ := vl_rep w hp24 hPh hob hRb c (by rw [hpl c z.1]; exact z.2)
        exact ⟨c', ⟨by have := z.1; omega, w2⟩, w3⟩) hst)
      40 (cnt R) 0 R a b (if e then -1 else 5) M (by omega) rfl (by omega) hR24 (fun c _ hb => hb) hini r hK rfl
    refine ⟨k, M', ?_, g3, g4, g5, hk, hs⟩
    rw [iI_nat] at g1
    rw [← g1]
    cases e <;> rfl
  unfold fX4_tryPlays
  rw [R_mover r w hn]
  unfold fX0_sideOf
  have hm := mv_lt n ld
  rw [im_2 (by omega), ho]
  simp only [obind]
  rw [hR]
  by_cases h2 : mv n ld % 2 = 0
  · rw [h2, if_pos (show nI 0 = 0 from rfl)]
    obtain ⟨k, M', k1, k2⟩ := key true (by simp [h2])
    have k1' : fX4_tryPlays_L60 g 40 (nI (4 * T - n)) 1 R (iI a) (iI b) (-1) 0 M = some (nI k, M') := k1
    dsimp only
    rw [k1']
    exact ⟨k, M', rfl, k2⟩
  · rw [if_neg (by rw [show (0 : Int32) = nI 0 from rfl, eq_N (by omega) (by omega)]; exact h2)]
    obtain ⟨k, M', k1, k2⟩ := key false (by simp [h2])
    have k1' : fX4_tryPlays_L60 g 40 (nI (4 * T - n)) 0 R (iI a) (iI b) 5 0 M = some (nI k, M') := k1
    dsimp only
    rw [k1']
    exact ⟨k, M', rfl, k2⟩
theorem search_ok {g : Int32 → Int32 → Int32 → Mem → Option (Int32 × Mem)} {F τ T : Nat} {d : Nat → Int32} (hS : SS g τ T d F 1) : SS (fX4_search g) τ T d F 0 := by
  intro n M h pl ld a b hf hz r w hD hK ha hab hb8
  have hT := w.2.1
  have hn4 := w.2.2.1
  unfold fX4_search
  by_cases hn : n < 4 * T
  · rw [if_pos (show (0 : Int32) < nI (4 * T - n) from nI_lt (a := 0) (by omega) (by omega))]
    rw [R_trickSize r w]
    by_cases h3 : n % 4 = 0
    · rw [h3, if_pos (show nI 0 = 0 from rfl)]
      obtain ⟨-, -, -, -, q1, -, -⟩ := id r
      have hAt : At τ T d n h pl ld (fX1_inHands M) := ⟨w, hD, h3, hn, fun c => by
        rw [inHands_bt]
        constructor
        · rintro ⟨p, hp, z⟩; exact ⟨p, hp, by rw [← q1 p hp]; exact z⟩
        · rintro ⟨p, hp, z⟩; exact ⟨p, hp, by rw [q1 p hp]; exact z⟩⟩
      have hbt : fX1_betweenTricks M = keyOf (fX1_inHands M) (ld (n / 4)) := by
        unfold fX1_betweenTricks keyOf
        rw [R_tricksOver r w, R_leaderOf r w (Nat.le_refl _)]
      rw [hbt, dv_4 (show 4 * T - n < 2 ^ 31 by omega), show (4 * T - n) / 4 = T - n / 4 by omega]
      obtain ⟨lo, hi, e1, e2, hlo, hhi, hi4⟩ := K_look hK hAt (VG_le (by omega)) (Nat.le_refl _)
      rw [e1, e2]
      have hV4 : VG τ T n h pl ld ≤ 4 := by omega
      rw [← iI_nat lo, ← iI_nat hi]
      simp only [iI_le (a := b) (b := (lo : Int)) (by omega) (by omega) (by omega) (by omega), iI_eq (a := (lo : Int)) (b := (hi : Int)) (by omega) (by omega) (by omega) (by omega), iI_lt (a := a) (b := (hi : Int)) (by omega) (by omega) (by omega) (by omega), iI_mx (a := a) (b := (lo : Int)) (by omega) (by omega) (by omega) (by omega), iI_mn (a := b) (b := (hi : Int)) (by omega) (by omega) (by omega) (by omega)]
      by_cases c1 : b ≤ (lo : Int)
      · rw [if_pos c1]
        exact ⟨lo, M, by rw [iI_nat], r, hK, rfl, by omega, by unfold Snd; omega⟩
      · rw [if_neg c1]
        by_cases c2 : (lo : Int) = (hi : Int)
        · rw [if_pos c2]
          exact ⟨lo, M, by rw [iI_nat], r, hK, rfl, by omega, by unfold Snd; omega⟩
        · rw [if_neg c2]
          by_cases c3 : a < (hi : Int)
          · rw [if_pos c3]
            obtain ⟨k, M', s1, r', hK', s4, hk, hs⟩ := hS n M h pl ld (max a lo) (min b hi) hf (by omega) r w hD hK (by omega) (by omega) (by omega)
            rw [s1]
            simp only [obind]
            rw [← iI_nat k]
            simp only [iI_le (a := (k : Int)) (b := max a (lo : Int)) (by omega) (by omega) (by omega) (by omega), iI_le (a := min b (hi : Int)) (b := (k : Int)) (by omega) (by omega) (by omega) (by omega)]
            have hS2 : Snd a b (VG τ T n h pl ld) k := by unfold Snd at hs ⊢; omega
            unfold Snd at hs
            have put : ∀ l u : Nat, l ≤ VG τ T n h pl ld → VG τ T n h pl ld ≤ u → u ≤ T - n / 4 → ∃ (r0 : Nat) (M0 : Mem), some (iI (k : Int), fX2_put (keyOf (fX1_inHands M) (ld (n / 4))) (iI (l : Int)) (iI (u : Int)) M') = some (nI r0, M0) ∧ Rep M0 τ T n h pl ld ∧ KOK τ T d (M0 5) ∧ M0 0 4 = M 0 4 ∧ r0 ≤ T - n / 4 ∧ Snd a b (VG τ T n h pl ld) r0 := by
              intro l u z1 z2 z3
              obtain ⟨y1, y2⟩ := K_put hK' hAt z1 z2 z3
              rw [iI_nat, iI_nat, iI_nat]
              exact ⟨k, _, rfl, r'.row5 y2, y1, by rw [y2 0 (by decide)]; exact s4, hk, hS2⟩
            by_cases c4 : (k : Int) ≤ max a (lo : Int)
            · rw [if_pos c4]
              by_cases c5 : min b (hi : Int) ≤ (k : Int)
              · omega
              · rw [if_neg c5]; exact put lo k hlo (by omega) hk
            · rw [if_neg c4]
              by_cases c5 : min b (hi : Int) ≤ (k : Int)
              · rw [if_pos c5]; exact put k hi (by omega) hhi hi4
              · rw [if_neg c5]; exact put k k (by omega) (by omega) hk
          · rw [if_neg c3]
            exact ⟨hi, M, by rw [iI_nat], r, hK, rfl, hi4, by unfold Snd; omega⟩
    · rw [if_neg (by rw [show (0 : Int32) = nI 0 from rfl, eq_N (by omega) (by omega)]; exact h3)]
      obtain ⟨k, M', s1, s2⟩ := hS n M h pl ld a b hf (by omega) r w hD hK ha hab hb8
      rw [s1]
      exact ⟨k, M', rfl, s2⟩
  · have h0 : 4 * T - n = 0 := by omega
    rw [h0, if_neg (show ¬ (0 : Int32) < nI 0 by decide)]
    have hv : VG τ T n h pl ld = 0 := by unfold VG; rw [h0]; rfl
    rw [hv]
    exact ⟨0, M, rfl, r, hK, rfl, Nat.zero_le _, by unfold Snd; omega⟩
theorem sS_ok (τ T : Nat) (d : Nat → Int32) : ∀ f, SS (sS f) τ T d f 0 := by
  intro f
  induction f with
  | zero => intro n M h pl ld a b h1; omega
  | succ f ih => exact search_ok (try_ok ih)
theorem most_ok {M : Mem} {τ T n : Nat} {d h : Nat → Int32} {pl ld : Nat → Nat} (r : Rep M τ T n h pl ld) (w : WF τ T n h pl ld) (hD : Dl d h) (hK : KOK τ T d (M 5)) :
    ∃ M', fX4_mostOfSide0 (sS 20) M = some (nI (VG τ T n h pl ld), M') ∧ Rep M' τ T n h pl ld ∧ KOK τ T d (M' 5) ∧ M' 0 4 = M 0 4 := by
  unfold fX4_mostOfSide0
  have hT := w.2.1
  have hn4 := w.2.2.1
  rw [R_cardsLeft r w, R_tricksLeft r w]
  have hV := VG_le (τ := τ) (h := h) (pl := pl) (ld := ld) hn4
  by_cases hz : T - n / 4 = 0
  · have h0 : 4 * T - n = 0 := by omega
    have hv : VG τ T n h pl ld = 0 := by omega
    rw [h0, hv]
    show ∃ M', obind (fX4_search (fX4_tryPlays (sS 19)) (nI 0) 0 (nI (T - n / 4)) M) _ = _ ∧ _
    unfold fX4_search
    rw [if_neg (show ¬ (0 : Int32) < nI 0 by decide)]
    exact ⟨M, rfl, r, hK, rfl⟩
  · obtain ⟨k, M', s1, s2, s3, s4, s5, s6⟩ := sS_ok τ T d 20 n M h pl ld 0 ((T - n / 4 : Nat) : Int) (by omega) (by omega) r w hD hK (by omega) (by omega) (by omega)
    have hk : k = VG τ T n h pl ld := by unfold Snd at s6; omega
    rw [iI_nat] at s1
    rw [show (0 : Int32) = iI 0 from rfl, s1, hk]
    exact ⟨M', rfl, s2, s3, s4⟩
/-- a card's worth for the side that plays it -/
theorem worth_ok {M : Mem} {τ T n : Nat} {d h : Nat → Int32} {pl ld : Nat → Nat} {c : Nat} (r : Rep M τ T n h pl ld) (w : WF τ T n h pl ld) (hD : Dl d h) (hK : KOK τ T d (M 5)) (hn : n < 4 * T) (hc : c < 24) (hb : bt (h (mv n ld)) c = true) :
    ∃ M', fX4_worthOf (sS 20) (nI c) M = some (nI (if mv n ld % 2 = 0 then vl τ T n h pl ld c else T - n / 4 - vl τ T n h pl ld c), M') ∧ Rep M' τ T n h pl ld ∧ KOK τ T d (M' 5) ∧ M' 0 4 = M 0 4 ∧ vl τ T n h pl ld c ≤ T - n / 4 := by
  have hT := w.2.1
  unfold fX4_worthOf
  obtain ⟨M1, l1, r1, l5, l4⟩ := lay_ok r w hn hc
  have hw1 := WF_play w hn hc hb
  rw [l1]
  simp only [obind]
  rw [R_cardsLeft r1 hw1, R_tricksLeft r w, R_mover r w hn]
  obtain ⟨k, M2, s1, r2, s3, s4, s5, s6⟩ := sS_ok τ T d 20 (n + 1) M1 _ _ _ 0 ((T - n / 4 : Nat) : Int) (by omega) (by omega) r1 hw1 (hD.play hc) (by rw [l5]; exact hK) (by omega) (by omega) (by omega)
  rw [iI_nat] at s1
  have s1' : sS 20 (nI (4 * T - (n + 1))) 0 (nI (T - n / 4)) M1 = some (nI k, M2) := s1
  rw [s1']
  have hV := VG_le (τ := τ) (h := hP h (mv n ld) c) (pl := updN pl n c) (ld := ldP τ n pl ld c) (n := n + 1) (T := T) (by omega)
  have hk : k = VG τ T (n + 1) (hP h (mv n ld) c) (updN pl n c) (ldP τ n pl ld c) := by unfold Snd at s6; omega
  obtain ⟨M3, e1, r3, e5, e4⟩ := back_ok r2 w hn hc hb
  dsimp only
  rw [gain_eq, nI_add, e1]
  have hvl : gn τ n pl ld c + k = vl τ T n h pl ld c := by rw [hk]; rfl
  have hle : vl τ T n h pl ld c ≤ T - n / 4 := by
    rw [← hvl]
    by_cases z : n % 4 = 3
    · have : gn τ n pl ld c ≤ 1 := by unfold gn; split <;> omega
      omega
    · have : gn τ n pl ld c = 0 := by unfold gn; rw [if_neg (fun y => z y.1)]
      omega
  rw [hvl]
  have hm := mv_lt n ld
  unfold fX0_sideOf
  rw [im_2 (by omega)]
  refine ⟨M3, ?_, r3, by rw [e5]; exact s3, by rw [e4, s4, l4], hle⟩
  by_cases h2 : mv n ld % 2 = 0
  · rw [if_pos h2, h2, if_pos (show nI 0 = 0 from rfl)]
  · rw [if_neg h2, if_neg (by rw [show (0 : Int32) = nI 0 from rfl, eq_N (by omega) (by omega)]; exact h2), pk_sub hle]
