/-! what can be won: the law's own search against the class's answers -/
def LG (N : Mem) (τ : Nat) (d : Nat → Int32) (l n : Nat) (pl : Nat → Nat) : Prop := (∀ p, p < 4 → N 0 p = (run τ d l pl n).1 p) ∧ LC0 N τ l n pl ∧ N 2 0 = nI n ∧ N 2 3 = 1
def LDl (N : Mem) (τ : Nat) (d : Nat → Int32) : Prop := (∀ p, p < 4 → N 0 p = d p) ∧ N 2 0 = 0 ∧ N 2 1 = tv τ ∧ N 2 2 = 0 ∧ N 2 3 = 0
theorem WF.sum {τ T n : Nat} {h : Nat → Int32} {pl ld : Nat → Nat} (w : WF τ T n h pl ld) : n + cnt (h 0) + cnt (h 1) + cnt (h 2) + cnt (h 3) = 4 * T := by
  obtain ⟨w1, w2, w3, w4, w5, w6, w7, w8, w9⟩ := w
  have hL := w6 _ (Nat.le_refl _)
  have a0 := w8 0 (by omega)
  have a1 := w8 1 (by omega)
  have a2 := w8 2 (by omega)
  have a3 := w8 3 (by omega)
  generalize ld (n / 4) = L at hL a0 a1 a2 a3
  have hk : n % 4 = 0 ∨ n % 4 = 1 ∨ n % 4 = 2 ∨ n % 4 = 3 := by omega
  obtain rfl | rfl | rfl | rfl : L = 0 ∨ L = 1 ∨ L = 2 ∨ L = 3 := by omega
  all_goals rcases hk with hk | hk | hk | hk
  all_goals
    rw [hk] at a0 a1 a2 a3
    simp at a0 a1 a2 a3
    omega
theorem WF.leg_lt {τ T n c : Nat} {h : Nat → Int32} {pl ld : Nat → Nat} (w : WF τ T n h pl ld) (hc : c < 24) (hl : legal (Hs h (mv n ld)) (n % 4) (ts n pl) c = true) : n < 4 * T := by
  rcases Nat.lt_or_ge n (4 * T) with q | q
  · exact q
  · exfalso
    have hb : bt (h (mv n ld)) c = true := legal_has hl
    have hn := w.2.2.1
    have h8 := w.2.2.2.2.2.2.2.1 (n % 4) (Nat.mod_lt _ (by decide))
    rw [if_neg (by omega)] at h8
    have h8' : cnt (h (mv n ld)) = T - n / 4 := by rw [Nat.add_zero] at h8; exact h8
    have := cn_zero 24 (show cnt (h (mv n ld)) = 0 by omega) c hc
    rw [hb] at this; cases this
theorem lgl_eq {τ T l n c : Nat} {d : Nat → Int32} {pl : Nat → Nat} (g : GameOK τ T d l n pl) (hc : c < 24) : lgl τ T d l n pl c = legal (Hs (run τ d l pl n).1 (mv n (ldr τ l pl))) (n % 4) (ts n pl) c := by
  cases hq : legal (Hs (run τ d l pl n).1 (mv n (ldr τ l pl))) (n % 4) (ts n pl) c with
  | true => exact bq_t.mpr ⟨g.wp.leg_lt hc hq, hq⟩
  | false => exact bq_f.mpr (fun z => by rw [hq] at z; cases z.2)
theorem LG.can {N : Mem} {τ T l n c : Nat} {d : Nat → Int32} {pl : Nat → Nat} (g : GameOK τ T d l n pl) (r : LG N τ d l n pl) (hc : c < 24) : fL_can (N 2 0) (nI c) N = some (b01 (lgl τ T d l n pl c)) := by
  have w := g.wp
  rw [r.2.2.1, lgl_eq g hc]
  exact lcan r.2.1 w.1 g.2.2.2.2.1 (by have := w.2.1; have := w.2.2.1; omega) w.2.2.2.2.1 r.1 hc
theorem vl_leT {τ T n c : Nat} {h : Nat → Int32} {pl ld : Nat → Nat} (hn : n < 4 * T) : vl τ T n h pl ld c ≤ T - n / 4 := by
  have h1 := VG_le (τ := τ) (T := T) (n := n + 1) (h := hP h (mv n ld) c) (pl := updN pl n c) (ld := ldP τ n pl ld c) (by omega)
  unfold vl gn
  split
  · rename_i z; have := z.1; omega
  · omega
/-- the first part: what was won, what is due, tricks left, whose turn it is -/
theorem s_head {M N : Mem} {τ T l n : Nat} {d : Nat → Int32} {pl : Nat → Nat} (g : GameOK τ T d l n pl) (hT : T ≤ 3) (r : LG N τ d l n pl) :
    ∃ N', fL_isSolved_R62 M N = some (nI (wonL τ l pl 0 (n / 4)), nI (VG τ T n (run τ d l pl n).1 pl (ldr τ l pl)), nI (T - n / 4), nI (mv n (ldr τ l pl)), M, N') ∧ LG N' τ d l n pl := by
  have w := g.wp
  have hl := g.2.2.2.2.1
  have hn4 := w.2.2.1
  obtain ⟨r1, r2, r3, r4⟩ := r
  obtain ⟨N', e, b0, b1, b2⟩ := lbest hl hT w r1 r2 r3 w.sum
  have r2' : LC0 N' τ l n pl := ⟨fun k hk => by rw [b1 k hk]; exact r2.1 k hk, by rw [b2]; exact r2.2.1, by rw [b2]; exact r2.2.2⟩
  have c0 := w.2.2.2.1
  have hTV : TV τ T l n (run τ d l pl n).1 pl - wonL τ l pl 0 (n / 4) = VG τ T n (run τ d l pl n).1 pl (ldr τ l pl) := by unfold TV; omega
  have hle : wonL τ l pl 0 (n / 4) ≤ TV τ T l n (run τ d l pl n).1 pl := by unfold TV; omega
  have hld := ldr_lt (τ := τ) hl pl (n / 4)
  refine ⟨N', ?_, b0, r2', by rw [b2]; exact r3, by rw [b2]; exact r4⟩
  unfold fL_isSolved_R62
  have et : fL_tricks (N 2 0) 0 N = some (nI (wonL τ l pl 0 (n / 4))) := by
    rw [r3]; exact ltricks (s := 0) r2 w.1 hl (by omega) w.2.2.2.2.1 (by omega)
  have el : fL_leader (N' 2 0) N' = some (nI (ldr τ l pl (n / 4))) := by
    rw [b2, r3]; exact llead r2' w.1 hl (by omega) w.2.2.2.2.1
  rw [et, ob_s, e, ob_s]
  dsimp only
  rw [el, b0 0 (by omega), b0 1 (by omega), b0 2 (by omega), b0 3 (by omega), lsize (c0 0 (by omega)), lsize (c0 1 (by omega)), lsize (c0 2 (by omega)), lsize (c0 3 (by omega)), ob_s, ob_s, ob_s, ob_s, ob_s, b2, r3, nI_add, nI_add, nI_add, nI_add, w.sum, dv_4 (by omega), dv_4 (by omega), pk_sub hle, hTV, pk_sub (by omega), im_4 (by omega), nI_add, im_4 (by omega), show 4 * T / 4 = T by omega]
  rfl
theorem s_two {M N : Mem} {τ T l n : Nat} {d : Nat → Int32} {pl : Nat → Nat} (h : CG M τ T d l n pl) (hT : T ≤ 3) {v4 v6 v7 : Int32} : ∃ M', fL_isSolved_R143 v4 (nI (VG τ T n (run τ d l pl n).1 pl (ldr τ l pl))) v6 v7 M N = some (1, M', N) ∧ CG M' τ T d l n pl := by
  obtain ⟨M1, e1, h1⟩ := c_solve h
  obtain ⟨M2, e2, h2⟩ := c_byAll h1 (by omega)
  refine ⟨M2, ?_, h2⟩
  unfold fL_isSolved_R143
  rw [e1, ob_s, if_pos (Or.inl rfl), dv_0, if_pos rfl]
  dsimp only
  rw [e2, ob_s, if_pos (Or.inl rfl), dv_0, if_pos rfl]
/-- a card played for its worth, and taken back -/
theorem s_worth {M N : Mem} {τ T l n c : Nat} {d : Nat → Int32} {pl : Nat → Nat} (g : GameOK τ T d l n pl) (hT : T ≤ 3) (r : LG N τ d l n pl) (hc : c < 24) (hl : lgl τ T d l n pl c = true) {v9 v10 : Int32} :
    ∃ N', fL_isSolved_R214 (nI (wonL τ l pl 0 (n / 4))) (nI (T - n / 4)) (nI (mv n (ldr τ l pl))) v9 v10 (nI c) M N = some (nI (ww τ T n (run τ d l pl n).1 pl (ldr τ l pl) c), M, N') ∧ LG N' τ d l n pl := by
  have w := g.wp
  have hl4 := g.2.2.2.2.1
  obtain ⟨hn, hleg⟩ := bq_t.mp hl
  have hb : bt ((run τ d l pl n).1 (mv n (ldr τ l pl))) c = true := legal_has hleg
  have hm := mv_lt n (ldr τ l pl)
  obtain ⟨r1, r2, r3, r4⟩ := r
  have w' := w.play hn hc hb
  have hvl := vl_leT (τ := τ) (T := T) (n := n) (c := c) (h := (run τ d l pl n).1) (pl := pl) (ld := ldr τ l pl) hn
  have hTV := TV_play (τ := τ) (T := T) (l := l) (n := n) (c := c) (h := (run τ d l pl n).1) (pl := pl)
  generalize hh : (run τ d l pl n).1 = hd at *
  generalize hmm : mv n (ldr τ l pl) = m at *
  generalize hN1 : mset (mset (mset N 0 m (hd m &&& (sl 1 (nI c) ^^^ (-1)))) 1 n (nI c)) 2 0 (nI (n + 1)) = N1
  have gq : ∀ i j, N1 i j = if i = 2 ∧ j = 0 then nI (n + 1) else if i = 1 ∧ j = n then nI c else if i = 0 ∧ j = m then hd m &&& (sl 1 (nI c) ^^^ (-1)) else N i j := by
    intro i j; rw [← hN1]; simp only [mset_at]
  have h0 : ∀ p, p < 4 → N1 0 p = hP hd m c p := fun p hp => by
    rw [gq]
    unfold hP
    by_cases hpm : p = m
    · subst hpm; simp
    · simp [hpm]; exact r1 p hp
  have hlc : LC0 N1 τ l (n + 1) (updN pl n c) := by
    refine ⟨fun k hk => ?_, ?_, ?_⟩
    · rw [gq]
      by_cases hkn : k = n
      · subst hkn; rw [updN_s]; simp
      · rw [updN_n _ _ hkn]; simp [hkn]; exact r2.1 k (by omega)
    · rw [gq]; simp; exact r2.2.1
    · rw [gq]; simp; exact r2.2.2
  have h20 : N1 2 0 = nI (n + 1) := by rw [gq]; simp
  obtain ⟨N2, e, b0, b1, b2⟩ := lbest hl4 hT w' h0 hlc h20 w'.sum
  have hq20 : N2 2 0 = nI (n + 1) := by rw [b2]; exact h20
  have hback : N2 0 m ||| sl 1 (nI c) = hd m := by rw [b0 m hm]; exact back_h hc hb
  refine ⟨mset (mset N2 2 0 (nI n)) 0 m (hd m), ?_, ?_, ⟨fun k hk => ?_, ?_, ?_⟩, ?_, ?_⟩
  · unfold fL_isSolved_R214
    rw [if_pos (vin_N hm (by omega)), if_pos (vin_N hm (by omega)), r3, if_pos (vin_N (show n < 16 by omega) (by omega)), cl_N (show m < 2 ^ 31 by omega), cl_N (show n < 2 ^ 31 by omega), r1 m hm, nI_1, hN1, e, ob_s]
    dsimp only
    rw [if_pos (vin_N hm (by omega)), if_pos (vin_N hm (by omega)), im_2 (by omega), hq20, nI_pred, hback, hTV, pk_sub (by omega), show wonL τ l pl 0 (n / 4) + vl τ T n hd pl (ldr τ l pl) c - wonL τ l pl 0 (n / 4) = vl τ T n hd pl (ldr τ l pl) c by omega, pk_sub hvl]
    unfold ww
    rw [hmm]
    simp only [show (nI (m % 2) = 0) = (m % 2 = 0) from eq_N (b := 0) (by omega) (by omega)]
    by_cases h2 : m % 2 = 0
    · rw [if_pos h2, if_pos h2]
    · rw [if_neg h2, if_neg h2]
  · intro p hp
    rw [hh, mset_at]
    by_cases hpm : p = m
    · subst hpm; simp
    · simp [hpm]
      rw [mset_n _ _ _ (by decide), b0 p hp]; unfold hP; rw [if_neg hpm]
  · rw [mset_n _ _ _ (by decide), mset_n _ _ _ (by decide), b1 k (by omega), gq]
    have : ¬ k = n := by omega
    simp [this]; exact r2.1 k hk
  · rw [mset_n _ _ _ (by decide), mset_at, b2, gq]; simp; exact r2.2.1
  · rw [mset_n _ _ _ (by decide), mset_at, b2, gq]; simp; exact r2.2.2
  · rw [mset_n _ _ _ (by decide), mset_at]; simp
  · rw [mset_n _ _ _ (by decide), mset_at, b2, gq]; simp; exact r4
/-- the best card so far -/
def BsL (lg : Nat → Bool) (f : Nat → Nat) (c : Nat) (v9 v10 : Int32) : Prop := ((∀ e, e < c → lg e = false) ∧ v9 = -1 ∧ v10 = -13) ∨ ∃ b, v10 = nI b ∧ b < 24 ∧ v9 = nI (f b) ∧ Best (fun e => e < c ∧ lg e = true) f b
theorem BsL.next {lg : Nat → Bool} {f : Nat → Nat} {c : Nat} {v9 v10 v4 v6 v7 : Int32} {M N : Mem} (h : BsL lg f c v9 v10) (hc : c < 24) (hf : ∀ e, f e < 1000) (hl : lg c = true) : ∃ v9' v10', fL_isSolved_R289 v4 v6 v7 v9 v10 (nI c) (nI (f c)) M N = some (v9', v10') ∧ BsL lg f (c + 1) v9' v10' := by
  unfold fL_isSolved_R289
  have hfc := hf c
  rcases h with ⟨h1, rfl, rfl⟩ | ⟨b, rfl, hb, rfl, h1⟩
  · have hn : ¬ nI (f c) ≤ -1 := by
      rw [Int32.le_iff_toInt_le, nI_toInt (by omega), show (-1 : Int32).toInt = -1 by decide]; omega
    rw [if_neg hn, if_neg hn]
    refine ⟨_, _, rfl, Or.inr ⟨c, rfl, hc, rfl, ⟨by omega, hl⟩, fun e he => ?_⟩⟩
    have he : e < c + 1 ∧ lg e = true := he
    have : e = c := by
      rcases Nat.lt_or_ge e c with q | q
      · rw [h1 e q] at he; cases he.2
      · omega
    subst this
    exact ⟨Nat.le_refl _, fun _ => Nat.le_refl _⟩
  · have hfb := hf b
    simp only [le_N (show f c < 2 ^ 31 by omega) (show f b < 2 ^ 31 by omega)]
    obtain ⟨⟨z1, z2⟩, z3⟩ := h1
    by_cases hle : f c ≤ f b
    · rw [if_pos hle, if_pos hle]
      refine ⟨_, _, rfl, Or.inr ⟨b, rfl, hb, rfl, ⟨by omega, z2⟩, fun e he => ?_⟩⟩
      rcases Nat.lt_or_ge e c with q | q
      · exact z3 e ⟨q, he.2⟩
      · rw [show e = c by omega]; exact ⟨hle, fun _ => by omega⟩
    · rw [if_neg hle, if_neg hle]
      refine ⟨_, _, rfl, Or.inr ⟨c, rfl, hc, rfl, ⟨by omega, hl⟩, fun e he => ?_⟩⟩
      rcases Nat.lt_or_ge e c with q | q
      · have := z3 e ⟨q, he.2⟩
        exact ⟨by omega, fun y => by omega⟩
      · rw [show e = c by omega]; exact ⟨Nat.le_refl _, fun _ => Nat.le_refl _⟩
theorem BsL.skip {lg : Nat → Bool} {f : Nat → Nat} {c : Nat} {v9 v10 : Int32} (h : BsL lg f c v9 v10) (hl : lg c = false) : BsL lg f (c + 1) v9 v10 := by
  rcases h with ⟨h1, h2, h3⟩ | ⟨b, h2, hb, h3, ⟨z1, z2⟩, z3⟩
  · refine Or.inl ⟨fun e he => ?_, h2, h3⟩
    rcases Nat.lt_or_ge e c with q | q
    · exact h1 e q
    · rw [show e = c by omega]; exact hl
  · refine Or.inr ⟨b, h2, hb, h3, ⟨by omega, z2⟩, fun e he => ?_⟩
    have he : e < c + 1 ∧ lg e = true := he
    rcases Nat.lt_or_ge e c with q | q
    · exact z3 e ⟨q, he.2⟩
    · rw [show e = c by omega, hl] at he; cases he.2
theorem ww_lt {τ T n c : Nat} {h : Nat → Int32} {pl ld : Nat → Nat} (hT : T ≤ 4) : ww τ T n h pl ld c < 1000 := by
  unfold ww
  have h2 : vl τ T n h pl ld c ≤ 5 := by
    unfold vl VG
    have := V_le τ (4 * T - (n + 1)) (Hs (hP h (mv n ld) c)) ((n + 1) % 4) (ts (n + 1) (updN pl n c)) (ldP τ n pl ld c ((n + 1) / 4)) (Nat.mod_lt _ (by decide))
    unfold gn
    split <;> omega
  split <;> omega
theorem s_cards {τ T l n : Nat} {d : Nat → Int32} {pl : Nat → Nat} (g : GameOK τ T d l n pl) (hT : T ≤ 3) : ∀ F m c v9 v10 M N, m < F → c + m = 24 → CG M τ T d l n pl → LG N τ d l n pl → BsL (lgl τ T d l n pl) (ww τ T n (run τ d l pl n).1 pl (ldr τ l pl)) c v9 v10 →
    ∃ v10' M' N' v9', fL_isSolved_L184 F (nI (wonL τ l pl 0 (n / 4))) (nI (T - n / 4)) (nI (mv n (ldr τ l pl))) 1 v9 v10 (nI c) M N = some (1, v10', M', N') ∧ CG M' τ T d l n pl ∧ LG N' τ d l n pl ∧ BsL (lgl τ T d l n pl) (ww τ T n (run τ d l pl n).1 pl (ldr τ l pl)) 24 v9' v10' := by
  intro F
  induction F with
  | zero => intro m c v9 v10 M N h; omega
  | succ F ih =>
    intro m c v9 v10 M N hm hc h r b
    rw [fL_isSolved_L184.eq_2]
    by_cases h24 : 24 ≤ c
    · rw [if_pos (show (24 : Int32) ≤ nI c from nI_le (a := 24) h24 (by omega))]
      rw [show c = 24 by omega] at b
      exact ⟨_, _, _, _, rfl, h, r, b⟩
    · rw [if_neg (show ¬ (24 : Int32) ≤ nI c from nI_ge (b := 24) (by omega) (by omega)), if_neg (show ¬ (1 : Int32) = 0 by decide), r.can g (by omega), ob_s]
      simp only [b01_0]
      cases hl : lgl τ T d l n pl c with
      | false =>
        have e : ∀ x y, fL_isSolved_R321 (nI (wonL τ l pl 0 (n / 4))) (nI (T - n / 4)) (nI (mv n (ldr τ l pl))) x y (nI c) (-13) M N = some (1, M, N) := fun x y => by
          unfold fL_isSolved_R321
          rw [c_value0 h (by omega) hl, ob_s, if_pos (Or.inr rfl), dv_2, if_pos rfl]
        rw [if_pos rfl, e, ob_s, nI_1]
        exact ih (m - 1) (c + 1) v9 v10 M N (by omega) (by omega) h r (b.skip hl)
      | true =>
        obtain ⟨N1, e1, r1⟩ := s_worth (M := M) (v9 := v9) (v10 := v10) g hT r (show c < 24 by omega) hl
        obtain ⟨x, y, e2, b2⟩ := b.next (v4 := nI (wonL τ l pl 0 (n / 4))) (v6 := nI (T - n / 4)) (v7 := nI (mv n (ldr τ l pl))) (M := M) (N := N1) (by omega) (fun e => ww_lt (by omega)) hl
        obtain ⟨M1, e3, h1⟩ := c_value1 h (show c < 24 by omega) hl
        have e4 : fL_isSolved_R321 (nI (wonL τ l pl 0 (n / 4))) (nI (T - n / 4)) (nI (mv n (ldr τ l pl))) x y (nI c) (nI (ww τ T n (run τ d l pl n).1 pl (ldr τ l pl) c)) M N1 = some (1, M1, N1) := by
          unfold fL_isSolved_R321
          rw [e3, ob_s, if_pos (Or.inl rfl), dv_0, if_pos rfl]
        rw [if_neg (by decide), e1, ob_s]
        dsimp only
        rw [e2, ob_s]
        dsimp only
        rw [e4, ob_s, nI_1]
        exact ih (m - 1) (c + 1) x y M1 N1 (by omega) (by omega) h1 r1 b2
theorem solved_ok {M N : Mem} {τ T l n : Nat} {d : Nat → Int32} {pl : Nat → Nat} (h : CG M τ T d l n pl) (hT : T ≤ 3) (r : LG N τ d l n pl) : ∃ M' N', fL_isSolved M N = some (1, M', N') ∧ CG M' τ T d l n pl ∧ LG N' τ d l n pl := by
  have g := h.1
  obtain ⟨N1, e1, r1⟩ := s_head (M := M) g hT r
  obtain ⟨M1, e2, h1⟩ := s_two (N := N1) (v4 := nI (wonL τ l pl 0 (n / 4))) (v6 := nI (T - n / 4)) (v7 := nI (mv n (ldr τ l pl))) h hT
  obtain ⟨v10, M2, N2, v9, e3, h2, r2, b⟩ := s_cards g hT 25 24 0 (-1) (-13) M1 N1 (by omega) (by omega) h1 r1 (Or.inl ⟨fun e he => by omega, rfl, rfl⟩)
  have e3' : fL_isSolved_L184 25 (nI (wonL τ l pl 0 (n / 4))) (nI (T - n / 4)) (nI (mv n (ldr τ l pl))) 1 (-1) (-13) 0 M1 N1 = some (1, v10, M2, N2) := e3
  have hb : ∃ M', ∃ rr : Res, gX5_bestCard M2 = some rr ∧ rr.2.2 = M' ∧ (rr.1 = 0 ∨ rr.1 = 2) ∧ dv rr = v10 ∧ CG M' τ T d l n pl := by
    by_cases hn : n < 4 * T
    · obtain ⟨c, M', c1, c2, c3⟩ := c_best1 h2 hn
      refine ⟨M', _, c1, rfl, Or.inl rfl, ?_, c3⟩
      rw [dv_0]
      rcases b with ⟨b1, -⟩ | ⟨q, rfl, hq, -, b2⟩
      · exfalso
        have z : c < 24 ∧ legal (Hs (run τ d l pl n).1 (mv n (ldr τ l pl))) (n % 4) (ts n pl) c = true := c2.1
        rw [← lgl_eq g z.1, b1 c z.1] at z
        cases z.2
      · have : c = q := by
          refine c2.uniq ⟨⟨b2.1.1, ?_⟩, fun e he => b2.2 e ⟨he.1, ?_⟩⟩
          · rw [← lgl_eq g b2.1.1]; exact b2.1.2
          · rw [lgl_eq g he.1]; exact he.2
        rw [this]
    · refine ⟨M2, _, c_best0 h2 hn, rfl, Or.inr rfl, ?_, h2⟩
      rw [dv_2]
      rcases b with ⟨-, -, b1⟩ | ⟨q, -, hq, -, b2⟩
      · exact b1.symm
      · exact absurd (bq_t.mp b2.1.2).1 hn
  obtain ⟨M', rr, e4, e5, e6, e7, h3⟩ := hb
  refine ⟨M', N2, ?_, h3, r2⟩
  unfold fL_isSolved
  rw [r.2.2.2, if_neg (show ¬ (1 : Int32) = 0 by decide), e1, ob_s]
  dsimp only
  rw [e2, ob_s]
  dsimp only
  rw [e3', ob_s]
  dsimp only
  rw [if_neg (show ¬ (1 : Int32) = 0 by decide), e4, ob_s, if_pos e6, e7, if_pos rfl, e5]
theorem solved_D {M N : Mem} {d : Nat → Int32} (h : CD M d) (h3 : N 2 3 = 0) : fL_isSolved M N = some (1, M, N) := by
  unfold fL_isSolved
  have e6 : gX5_value 3 M = some (2, 0, M) := c_valueD h (c := 3) (by omega)
  rw [h3, if_pos rfl, c_solveD h, ob_s, if_pos (Or.inr rfl), dv_2, if_pos rfl]
  dsimp only
  rw [c_byAllD h, ob_s, if_pos (Or.inr rfl), dv_2, if_pos rfl]
  dsimp only
  rw [c_bestD h, ob_s, if_pos (Or.inr rfl), dv_2, if_pos rfl]
  dsimp only
  rw [e6, ob_s, if_pos (Or.inr rfl), dv_2, if_pos rfl]
