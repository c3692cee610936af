/-! the law's invariant; its look in every state -/
def IVD (M N : Mem) (τ mo : Nat) (d : Nat → Int32) : Prop := CD M d ∧ M 0 3 = tv τ ∧ LDl N τ d ∧ ∀ p, p < 4 → cnt (d p) ≤ mo
def IVG (M N : Mem) (τ T : Nat) (d : Nat → Int32) (l n : Nat) (pl : Nat → Nat) : Prop := CG M τ T d l n pl ∧ LG N τ d l n pl ∧ T ≤ 3
def IV (mo : Nat) (M N : Mem) : Prop := ∃ τ, τ ≤ 4 ∧ ((∃ d, IVD M N τ mo d) ∨ ∃ T d l n pl, IVG M N τ T d l n pl)
theorem IVD.lk {M N : Mem} {τ mo : Nat} {d : Nat → Int32} (h : IVD M N τ mo d) : LK N 0 d (fun _ => 0) :=
  ⟨by omega, fun k hk => by omega, h.1.2.2.2.1, h.2.2.1.1, h.2.2.1.2.1, fun k hk => by omega⟩
theorem IVG.lk {M N : Mem} {τ T l n : Nat} {d : Nat → Int32} {pl : Nat → Nat} (h : IVG M N τ T d l n pl) : LK N n (run τ d l pl n).1 pl := by
  have w := h.1.1.wp
  exact ⟨by have := w.2.1; have := w.2.2.1; omega, w.2.2.2.2.1, w.2.2.2.2.2.2.1, h.2.1.1, h.2.1.2.2.1, h.2.1.2.1.1⟩
theorem game_D {M N : Mem} {τ mo : Nat} {d : Nat → Int32} (hτ : τ ≤ 4) (h : IVD M N τ mo d) : fL_isGame M N = some (1, M, N) := by
  obtain ⟨r1, r2, r3, r4, r5⟩ := id h.2.2.1
  have lc : LC0 N τ 0 0 (fun _ => 0) := ⟨fun k hk => by omega, r3, r4⟩
  have gt : ∀ s, s < 2 → fL_tricks (N 2 0) (nI s) N = some 0 := fun s hs => by
    rw [r2]; exact ltricks (m := 0) lc hτ (by omega) (by omega) (fun k hk => by omega) hs
  refine game_ok h.1.lk h.lk (st := false) (tu := -1) (w0 := 0) (w1 := 0) (cp := fun _ => false) (c_startedD h.1) r5 h.1.mover ?_ (c_wonD h.1 (s := 0) (by omega)) (gt 0 (by omega)) (c_wonD h.1 (s := 1) (by omega)) (gt 1 (by omega)) (fun c hc => ⟨?_, Or.inl ⟨by decide, rfl⟩⟩)
  · unfold fL_isGame_R24
    rw [r5, if_pos rfl]
  · unfold fX5_canPlay
    rw [nc_ok hc, if_pos (show (0 : Nat) = 0 from rfl)]
    dsimp only
    rw [h.1.playable, fX0_holds_eq _ hc, bt_0, if_neg (by decide)]; rfl
theorem IVG.all0 {M N : Mem} {τ T l n : Nat} {d : Nat → Int32} {pl : Nat → Nat} (h : IVG M N τ T d l n pl) : (allH N = 0) ↔ ¬ n < 4 * T := by
  have w := h.1.1.wp
  have hall := h.lk.all
  constructor
  · intro h0 hn
    have hc := WF_mover w hn
    obtain ⟨c, hc24, hb⟩ := cn_pos 24 (show 0 < cnt ((run τ d l pl n).1 (mv n (ldr τ l pl))) by omega)
    have := (hall c).mpr ⟨_, mv_lt n _, hb⟩
    rw [h0, bt_0] at this; cases this
  · intro hn
    have hs := w.sum
    have hn4 := w.2.2.1
    apply bt_eq0; intro c hc
    cases hq : bt (allH N) c with
    | false => rfl
    | true =>
      exfalso
      obtain ⟨q, q1, q2⟩ := (hall c).mp hq
      have hc24 : c < 24 := by
        rcases Nat.lt_or_ge c 24 with z | z
        · exact z
        · rw [w.2.2.2.1 q q1 c z] at q2; cases q2
      have h0 : cnt ((run τ d l pl n).1 q) = 0 := by
        obtain rfl | rfl | rfl | rfl : q = 0 ∨ q = 1 ∨ q = 2 ∨ q = 3 := by omega
        all_goals omega
      have := cn_zero 24 h0 c hc24
      rw [q2] at this; cases this
theorem game_G {M N : Mem} {τ T l n : Nat} {d : Nat → Int32} {pl : Nat → Nat} (h : IVG M N τ T d l n pl) : fL_isGame M N = some (1, M, N) := by
  have w := h.1.1.wp
  have g := h.1.1
  have hl4 := g.2.2.2.2.1
  have hT := w.2.1
  have hn4 := w.2.2.1
  obtain ⟨r1, r2, r3, r4⟩ := id h.2.1
  have gt : ∀ s, s < 2 → fL_tricks (N 2 0) (nI s) N = some (nI (wonL τ l pl s (n / 4))) := fun s hs => by
    rw [r3]; exact ltricks r2 w.1 hl4 (by omega) w.2.2.2.2.1 hs
  have hm := mv_lt n (ldr τ l pl)
  refine game_ok h.1.lk h.lk (st := true) (tu := if n < 4 * T then nI (mv n (ldr τ l pl)) else -1) (w0 := nI (wonL τ l pl 0 (n / 4))) (w1 := nI (wonL τ l pl 1 (n / 4))) (cp := lgl τ T d l n pl) (c_started h.1) r4 h.1.mover ?_ (c_won h.1 (s := 0) (by omega)) (gt 0 (by omega)) (c_won h.1 (s := 1) (by omega)) (gt 1 (by omega)) (fun c hc => ⟨?_, ?_⟩)
  · unfold fL_isGame_R24
    rw [r4, if_neg (show ¬ (1 : Int32) = 0 by decide)]
    by_cases hn : n < 4 * T
    · rw [if_neg (fun z => (h.all0.mp z) hn), if_pos hn, r3, llead r2 w.1 hl4 (by omega) w.2.2.2.2.1, ob_s]
      have hld := ldr_lt (τ := τ) hl4 pl (n / 4)
      rw [nI_add, im_4 (by omega)]; rfl
    · rw [if_pos (h.all0.mpr hn), if_neg hn]
  · unfold fX5_canPlay
    rw [nc_ok hc, if_pos (show (0 : Nat) = 0 from rfl)]
    dsimp only
    rw [h.1.holds hc]
  · by_cases hn : n < 4 * T
    · rw [if_pos hn]
      exact Or.inr ⟨nn_N (by omega), h.2.1.can g hc⟩
    · rw [if_neg hn]
      exact Or.inl ⟨by decide, bq_f.mpr (fun z => hn z.1)⟩
/-- both looks, in every state -/
theorem look_ok {mo : Nat} {M N : Mem} (h : IV mo M N) : ∃ M1 N1 M' N', fL_isGame M N = some (1, M1, N1) ∧ fL_isSolved M1 N1 = some (1, M', N') ∧ IV mo M' N' := by
  obtain ⟨τ, hτ, ⟨d, hD⟩ | ⟨T, d, l, n, pl, hG⟩⟩ := h
  · exact ⟨M, N, M, N, game_D hτ hD, solved_D hD.1 hD.2.2.1.2.2.2.2, τ, hτ, Or.inl ⟨d, hD⟩⟩
  · obtain ⟨M', N', e, h1, h2⟩ := solved_ok hG.1 hG.2.2 hG.2.1
    exact ⟨M, N, M', N', game_G hG, e, τ, hτ, Or.inr ⟨T, d, l, n, pl, h1, h2, hG.2.2⟩⟩
