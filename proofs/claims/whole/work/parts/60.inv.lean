/-! arguments in and out of range; the invariant of class and reference -/
theorem i0 : (0 : Int32).toInt = 0 := by decide
theorem nn_ex {x : Int32} (h : ¬ x < 0) : ∃ p : Nat, p < 2 ^ 31 ∧ x = nI p := by
  rw [Int32.lt_iff_toInt_lt, i0] at h
  have h2 := Int32.toInt_lt x
  refine ⟨x.toInt.toNat, by omega, Int32.toInt_inj.mp ?_⟩
  rw [nI_toInt (by omega)]
  omega
theorem rg (x : Int32) {b : Nat} (hb : 1 ≤ b) (hb2 : b < 1000) : (∃ p, p < b ∧ x = nI p ∧ fX6_in x 0 (nI (b - 1)) = 1 ∧ ¬ x < 0 ∧ x < nI b) ∨ (fX6_in x 0 (nI (b - 1)) = 0 ∧ (x < 0 ∨ (¬ x < 0 ∧ ¬ x < nI b))) := by
  unfold fX6_in
  by_cases h0 : x < 0
  · exact Or.inr ⟨if_pos h0, Or.inl h0⟩
  · obtain ⟨p, hp, rfl⟩ := nn_ex h0
    rw [if_neg h0]
    simp only [lt_N (show b - 1 < 2 ^ 31 by omega) hp, lt_N hp (show b < 2 ^ 31 by omega)]
    by_cases hpb : p < b
    · exact Or.inl ⟨p, hpb, rfl, if_neg (by omega), h0, hpb⟩
    · exact Or.inr ⟨if_pos (by omega), Or.inr ⟨h0, hpb⟩⟩
theorem nP (x : Int32) : (∃ p, p < 4 ∧ x = nI p ∧ fX6_in x 0 3 = 1 ∧ ∀ M, fX5_needPlayer x M = (0, 0, M)) ∨ (fX6_in x 0 3 = 0 ∧ ∀ M, fX5_needPlayer x M = (1, 0, M)) := by
  rcases rg x (b := 4) (by omega) (by omega) with ⟨p, h1, h2, h3, h4, h5⟩ | ⟨h3, h4⟩
  · exact Or.inl ⟨p, h1, h2, h3, fun M => by unfold fX5_needPlayer; rw [if_neg h4, if_pos (show x < 4 from h5)]⟩
  · refine Or.inr ⟨h3, fun M => ?_⟩
    unfold fX5_needPlayer
    rcases h4 with h4 | ⟨h4, h5⟩
    · rw [if_pos h4]
    · rw [if_neg h4, if_neg (show ¬ x < 4 from h5)]
theorem nC (x : Int32) : (∃ c, c < 24 ∧ x = nI c ∧ fX6_in x 0 23 = 1 ∧ ∀ M, fX5_needCard x M = (0, 0, M)) ∨ (fX6_in x 0 23 = 0 ∧ ∀ M, fX5_needCard x M = (1, 0, M)) := by
  rcases rg x (b := 24) (by omega) (by omega) with ⟨p, h1, h2, h3, h4, h5⟩ | ⟨h3, h4⟩
  · exact Or.inl ⟨p, h1, h2, h3, fun M => by unfold fX5_needCard; rw [if_neg h4, if_pos (show x < 24 from h5)]⟩
  · refine Or.inr ⟨h3, fun M => ?_⟩
    unfold fX5_needCard
    rcases h4 with h4 | ⟨h4, h5⟩
    · rw [if_pos h4]
    · rw [if_neg h4, if_neg (show ¬ x < 24 from h5)]
/-- what the reference may write without being another game -/
def SN (N N' : Mem) : Prop := (∀ i, i ≠ 0 → i ≠ 6 → i ≠ 7 → i ≠ 8 → N' i = N i) ∧ ∀ j, j ≠ 6 → j ≠ 15 → N' 0 j = N 0 j
theorem SN.same {N N' : Mem} (s : Same N N') : SN N N' := ⟨s.1, fun j _ h => s.2 j h⟩
theorem SN.thr (N : Mem) (v : Int32) : SN N (mset N 0 6 v) := ⟨fun i h _ _ _ => mset_n _ _ _ h, fun j h _ => by rw [mset_at, if_neg (fun z => h z.2)]⟩
theorem SN.thr2 (N : Mem) (v w : Int32) : SN N (mset (mset N 0 6 v) 0 6 w) := ⟨fun i h _ _ _ => by rw [mset_n _ _ _ h, mset_n _ _ _ h], fun j h _ => by rw [mset_at, if_neg (fun z => h z.2), mset_at, if_neg (fun z => h z.2)]⟩
theorem SN.trans {A B C : Mem} (a : SN A B) (b : SN B C) : SN A C := ⟨fun i h0 h6 h7 h8 => by rw [b.1 i h0 h6 h7 h8, a.1 i h0 h6 h7 h8], fun j h6 hj => by rw [b.2 j h6 hj, a.2 j h6 hj]⟩
theorem thr6 (N : Mem) (v : Int32) : mset N 0 6 v 0 6 = v := by rw [mset_at, if_pos ⟨rfl, rfl⟩]
/-- dealing -/
def InvD (M N : Mem) (d : Nat → Int32) : Prop :=
  M 0 5 = 0 ∧ N 0 2 = 0 ∧ (∀ p, p < 4 → c24 (d p)) ∧ (∀ p, p < 4 → cnt (d p) ≤ 4) ∧ (∀ p q, p < 4 → q < 4 → p ≠ q → ∀ c, bt (d p) c = true → bt (d q) c = false) ∧
  (∀ c, bt (M 0 4) c = true ↔ ∃ p, p < 4 ∧ bt (d p) c = true) ∧ M 0 7 = 0 ∧ (∀ p, p < 4 → M 1 p = d p) ∧
  N 0 3 = 0 ∧ N 0 5 = 0 ∧ (∀ p, p < 4 → N 1 p = d p) ∧ (∀ p, p < 4 → N 3 p = d p) ∧ N 0 9 = 0 ∧ (∀ s, s < 2 → N 5 s = 0)
/-- playing -/
def InvG (M N : Mem) (τ T : Nat) (d : Nat → Int32) (l n : Nat) (pl : Nat → Nat) : Prop :=
  N 0 2 = 1 ∧ GameOK τ T d l n pl ∧ Rep M τ T n (run τ d l pl n).1 pl (run τ d l pl n).2 ∧ NRep N τ n (run τ d l pl n).1 pl (run τ d l pl n).2 ∧
  (∀ s, s < 2 → N 5 s = nI (won (run τ d l pl n).2 s (n / 4))) ∧ N 0 3 = nI l ∧ N 0 5 = nI n ∧ (∀ p, p < 4 → N 1 p = d p) ∧ (∀ k, k < n → N 2 k = nI (pl k)) ∧ KOK τ T d (M 5)
def Inv (M N : Mem) : Prop := ∃ τ, τ ≤ 4 ∧ M 0 3 = tv τ ∧ N 0 0 = tv τ ∧ ((∃ d, InvD M N d) ∨ ∃ T d l n pl, InvG M N τ T d l n pl)
theorem SN.nrep {N N' : Mem} {τ n : Nat} {h : Nat → Int32} {pl ld : Nat → Nat} (s : SN N N') (r : NRep N τ n h pl ld) : NRep N' τ n h pl ld := by
  unfold NRep at r ⊢
  rw [s.2 0 (by decide) (by decide), s.1 3 (by decide) (by decide) (by decide) (by decide), s.1 4 (by decide) (by decide) (by decide) (by decide), s.2 9 (by decide) (by decide), s.2 10 (by decide) (by decide)]
  exact r
theorem InvD.sn {M N N' : Mem} {d : Nat → Int32} (h : InvD M N d) (s : SN N N') : InvD M N' d := by
  unfold InvD at h ⊢
  rw [s.2 2 (by decide) (by decide), s.2 3 (by decide) (by decide), s.2 5 (by decide) (by decide), s.2 9 (by decide) (by decide), s.1 1 (by decide) (by decide) (by decide) (by decide), s.1 3 (by decide) (by decide) (by decide) (by decide), s.1 5 (by decide) (by decide) (by decide) (by decide)]
  exact h
theorem InvG.sn {M N N' : Mem} {τ T l n : Nat} {d : Nat → Int32} {pl : Nat → Nat} (h : InvG M N τ T d l n pl) (s : SN N N') : InvG M N' τ T d l n pl := by
  obtain ⟨a1, a2, a3, a4, a5, a6, a7, a8, a9, a10⟩ := h
  unfold InvG
  rw [s.2 2 (by decide) (by decide), s.2 3 (by decide) (by decide), s.2 5 (by decide) (by decide), s.1 1 (by decide) (by decide) (by decide) (by decide), s.1 2 (by decide) (by decide) (by decide) (by decide), s.1 5 (by decide) (by decide) (by decide) (by decide)]
  exact ⟨a1, a2, a3, s.nrep a4, a5, a6, a7, a8, a9, a10⟩
theorem Inv.sn {M N N' : Mem} (h : Inv M N) (s : SN N N') : Inv M N' := by
  obtain ⟨τ, h1, h2, h3, h4⟩ := h
  refine ⟨τ, h1, h2, by rw [s.2 0 (by decide) (by decide)]; exact h3, ?_⟩
  rcases h4 with ⟨d, h⟩ | ⟨T, d, l, n, pl, h⟩
  · exact Or.inl ⟨d, h.sn s⟩
  · exact Or.inr ⟨T, d, l, n, pl, h.sn s⟩
theorem InvG.wf {M N : Mem} {τ T l n : Nat} {d : Nat → Int32} {pl : Nat → Nat} (h : InvG M N τ T d l n pl) : WF τ T n (run τ d l pl n).1 pl (run τ d l pl n).2 := h.2.1.wf n (Nat.le_refl _)
theorem InvG.dl {M N : Mem} {τ T l n : Nat} {d : Nat → Int32} {pl : Nat → Nat} (h : InvG M N τ T d l n pl) : Dl d (run τ d l pl n).1 := run_dl h.2.1 n (Nat.le_refl _)
theorem WF.cnt4 {τ T n : Nat} {h : Nat → Int32} {pl ld : Nat → Nat} (w : WF τ T n h pl ld) {p : Nat} (hp : p < 4) : cnt (h p) ≤ 4 := by
  have hL := w.2.2.2.2.2.1 _ (Nat.le_refl _)
  have hT := w.2.1
  have := w.2.2.2.2.2.2.2.1 ((p + 4 - ld (n / 4)) % 4) (Nat.mod_lt _ (by decide))
  rw [show (ld (n / 4) + (p + 4 - ld (n / 4)) % 4) % 4 = p by omega] at this
  omega
theorem InvD.lk {M N : Mem} {d : Nat → Int32} (h : InvD M N d) : Lk M N 0 d (fun _ => 0) := by
  obtain ⟨a1, a2, a3, a4, a5, a6, a7, a8, a9, a10, a11, a12, a13, a14⟩ := h
  exact ⟨by omega, fun k hk => by omega, a3, a4, a5, fun i h1 h2 => by omega, a8, a7, fun k hk => by omega, a12, a13, fun i hi => by omega⟩
theorem InvG.lk {M N : Mem} {τ T l n : Nat} {d : Nat → Int32} {pl : Nat → Nat} (h : InvG M N τ T d l n pl) : Lk M N n (run τ d l pl n).1 pl := by
  have w := h.wf
  obtain ⟨a1, a2, a3, a4, a5, a6, a7, a8, a9, a10⟩ := h
  obtain ⟨b1, b2, b3, b4, b5, b6, b7⟩ := a3
  obtain ⟨c1, c2, c3, c4, c5⟩ := a4
  refine ⟨by have := w.2.1; have := w.2.2.1; omega, w.2.2.2.2.1, w.2.2.2.1, fun p hp => w.cnt4 hp, w.2.2.2.2.2.2.1, fun i h1 h2 p hp => ?_, b5, b4, b6, c2, c4, c3⟩
  have := w.2.2.2.2.2.2.2.2 (i - (n - n % 4)) (by omega) p hp
  rw [show n - n % 4 + (i - (n - n % 4)) = i by omega] at this
  exact this
theorem Inv.lk {M N : Mem} (h : Inv M N) : ∃ n hh pl, Lk M N n hh pl := by
  obtain ⟨τ, h1, h2, h3, h4⟩ := h
  rcases h4 with ⟨d, h⟩ | ⟨T, d, l, n, pl, h⟩
  · exact ⟨_, _, _, h.lk⟩
  · exact ⟨_, _, _, h.lk⟩
theorem hcd_0 {e : Nat} {v : Int32} {M : Mem} : (0 : Int32) = hcd e (0, v, M) := rfl
theorem hcd_1 {e : Nat} {v : Int32} {M : Mem} (h : e ≠ 0) : (1 : Int32) = hcd e (e, v, M) := by
  unfold hcd
  rw [if_neg (show ¬ (e, v, M).1 = 0 from h), if_pos rfl]
theorem hcd_2 {v : Int32} {M : Mem} : (2 : Int32) = hcd 1 (2, v, M) := rfl
/-- nobody's turn while dealing -/
theorem InvD.mover {M N : Mem} {d : Nat → Int32} (h : InvD M N d) : fX1_mover M = -1 := by
  unfold fX1_mover; rw [if_pos h.1]
theorem InvD.player {M N : Mem} {d : Nat → Int32} (h : InvD M N d) : fX6_player N = -1 := by
  unfold fX6_player; rw [if_pos h.2.1]
theorem InvD.size {M N : Mem} {d : Nat → Int32} (h : InvD M N d) : fX1_trickSize M = 0 := by
  unfold fX1_trickSize; rw [h.2.2.2.2.2.2.1]; decide
theorem InvD.playable {M N : Mem} {d : Nat → Int32} (h : InvD M N d) : fX1_playable M = 0 := by
  unfold fX1_playable fX1_handOf
  rw [h.mover, h.size, if_pos rfl, if_pos (by decide)]
theorem InvD.fits {M N : Mem} {d : Nat → Int32} (h : InvD M N d) (x : Int32) : fX6_fits x N = some 0 := by
  unfold fX6_fits
  rw [h.player, if_pos rfl]
theorem InvG.mover {M N : Mem} {τ T l n : Nat} {d : Nat → Int32} {pl : Nat → Nat} (h : InvG M N τ T d l n pl) : fX1_mover M = if n < 4 * T then nI (mv n (run τ d l pl n).2) else -1 := by
  have w := h.wf
  by_cases hn : n < 4 * T
  · rw [if_pos hn]; exact R_mover h.2.2.1 w hn
  · rw [if_neg hn]; exact R_mover0 h.2.2.1 w (by have := w.2.2.1; omega)
/-- whether a card can be played: both tell it alike -/
theorem InvG.holds {M N : Mem} {τ T l n : Nat} {d : Nat → Int32} {pl : Nat → Nat} (h : InvG M N τ T d l n pl) {c : Nat} (hc : c < 24) :
    fX0_holds (fX1_playable M) (nI c) = (if n < 4 * T ∧ legal (Hs (run τ d l pl n).1 (mv n (run τ d l pl n).2)) (n % 4) (ts n pl) c = true then 1 else 0) ∧ fX6_fits (nI c) N = some (if n < 4 * T ∧ legal (Hs (run τ d l pl n).1 (mv n (run τ d l pl n).2)) (n % 4) (ts n pl) c = true then 1 else 0) := by
  have w := h.wf
  refine ⟨?_, fits_ok h.2.2.2.1 w h.1 hc⟩
  rw [fX0_holds_eq _ hc]
  by_cases hn : n < 4 * T
  · obtain ⟨-, hpl⟩ := R_playable h.2.2.1 w hn
    rw [hpl c hc]
    simp only [hn, true_and]
  · have hm := h.mover
    rw [if_neg hn] at hm
    have hs := R_trickSize h.2.2.1 w
    have hn4 : n % 4 = 0 := by have := w.2.2.1; omega
    rw [hn4] at hs
    have hp0 : fX1_playable M = 0 := by
      unfold fX1_playable fX1_handOf
      rw [hm, hs, if_pos (show nI 0 = 0 from rfl), if_pos (by decide)]
    rw [hp0, bt_0, if_neg (by decide), if_neg (fun z => hn z.1)]
