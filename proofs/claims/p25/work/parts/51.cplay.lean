/-! the class while playing -/
theorem ldP_ld {τ n c : Nat} {pl ld ld' : Nat → Nat} (e : ∀ j, j ≤ n / 4 → ld j = ld' j) : ∀ j, j ≤ (n + 1) / 4 → ldP τ n pl ld c j = ldP τ n pl ld' c j := by
  intro j hj
  unfold ldP
  by_cases h3 : n % 4 = 3
  · rw [if_pos h3, if_pos h3]
    by_cases hjn : j = n / 4 + 1
    · rw [hjn, updN_s, updN_s]; unfold wnr; rw [e _ (Nat.le_refl _)]
    · rw [updN_n _ _ hjn, updN_n _ _ hjn]; exact e j (by omega)
  · rw [if_neg h3, if_neg h3]; exact e j (by omega)
theorem run_ld {τ l : Nat} {d : Nat → Int32} {pl : Nat → Nat} : ∀ n j, j ≤ n / 4 → (run τ d l pl n).2 j = ldr τ l pl j := by
  intro n
  induction n with
  | zero => intro j hj; rw [show j = 0 by omega]; rfl
  | succ n ih =>
    intro j hj
    show ldP τ n pl (run τ d l pl n).2 (pl n) j = _
    rw [ldP_ld (ld' := ldr τ l pl) ih j hj, ldP_ldr j hj, updN_self]
theorem run_mv {τ l n : Nat} {d : Nat → Int32} {pl : Nat → Nat} : mv n (run τ d l pl n).2 = mv n (ldr τ l pl) := by
  unfold mv; rw [run_ld n _ (Nat.le_refl _)]
theorem GameOK.wp {τ T l n : Nat} {d : Nat → Int32} {pl : Nat → Nat} (g : GameOK τ T d l n pl) : WP τ T l n (run τ d l pl n).1 pl := (g.wf n (Nat.le_refl _)).ld (fun j hj => run_ld n j hj)
theorem CG.dl {M : Mem} {τ T l n : Nat} {d : Nat → Int32} {pl : Nat → Nat} (h : CG M τ T d l n pl) : Dl d (run τ d l pl n).1 := run_dl h.1 n (Nat.le_refl _)
theorem WF.cnt4 {τ T n : Nat} {h : Nat → Int32} {pl ld : Nat → Nat} (w : WF τ T n h pl ld) {p : Nat} (hp : p < 4) : cnt (h p) ≤ 4 := by
  have hL := w.2.2.2.2.2.1 _ (Nat.le_refl _)
  have hT := w.2.1
  have := w.2.2.2.2.2.2.2.1 ((p + 4 - ld (n / 4)) % 4) (Nat.mod_lt _ (by decide))
  rw [show (ld (n / 4) + (p + 4 - ld (n / 4)) % 4) % 4 = p by omega] at this
  omega
theorem CG.lk {M : Mem} {τ T l n : Nat} {d : Nat → Int32} {pl : Nat → Nat} (h : CG M τ T d l n pl) : Lk M n (run τ d l pl n).1 pl := by
  have w := h.1.wp
  obtain ⟨b1, b2, b3, b4, b5, b6, b7⟩ := h.2.1
  refine ⟨by have := w.2.1; have := w.2.2.1; omega, w.2.2.2.2.1, w.2.2.2.1, fun p hp => w.cnt4 hp, w.2.2.2.2.2.2.1, fun i h1 h2 p hp => ?_, b5, b4, b6⟩
  have := w.2.2.2.2.2.2.2.2 (i - (n - n % 4)) (by omega) p hp
  rw [show n - n % 4 + (i - (n - n % 4)) = i by omega] at this
  exact this
theorem CG.mover {M : Mem} {τ T l n : Nat} {d : Nat → Int32} {pl : Nat → Nat} (h : CG M τ T d l n pl) : fX1_mover M = if n < 4 * T then nI (mv n (ldr τ l pl)) else -1 := by
  have w := h.1.wp
  by_cases hn : n < 4 * T
  · rw [if_pos hn]; exact R_mover h.2.1 w hn
  · rw [if_neg hn]; exact R_mover0 h.2.1 w (by have := w.2.2.1; omega)
/-- which cards can be played -/
noncomputable def lgl (τ T : Nat) (d : Nat → Int32) (l n : Nat) (pl : Nat → Nat) (c : Nat) : Bool := bq (n < 4 * T ∧ legal (Hs (run τ d l pl n).1 (mv n (ldr τ l pl))) (n % 4) (ts n pl) c = true)
theorem CG.holds {M : Mem} {τ T l n : Nat} {d : Nat → Int32} {pl : Nat → Nat} (h : CG M τ T d l n pl) {c : Nat} (hc : c < 24) : fX0_holds (fX1_playable M) (nI c) = b01 (lgl τ T d l n pl c) := by
  have w := h.1.wp
  rw [fX0_holds_eq _ hc]
  by_cases hn : n < 4 * T
  · obtain ⟨-, hpl⟩ := R_playable h.2.1 w hn
    rw [hpl c hc]
    unfold lgl
    cases hq : legal (Hs (run τ d l pl n).1 (mv n (ldr τ l pl))) (n % 4) (ts n pl) c with
    | true => rw [if_pos rfl, bq_t.mpr ⟨hn, rfl⟩]; rfl
    | false => rw [if_neg (by decide), bq_f.mpr (fun z => by cases z.2)]; rfl
  · have hm := h.mover
    rw [if_neg hn] at hm
    have hs := R_trickSize h.2.1 w
    have hn4 : n % 4 = 0 := by have := w.2.2.1; omega
    rw [hn4] at hs
    have hp0 : fX1_playable M = 0 := by
      unfold fX1_playable fX1_handOf
      rw [hm, hs, if_pos (show nI 0 = 0 from rfl), if_pos (by decide)]
    have hl0 : lgl τ T d l n pl c = false := bq_f.mpr (fun z => hn z.1)
    rw [hp0, bt_0, if_neg (by decide), hl0]; rfl
theorem CG.np {M : Mem} {τ T l n : Nat} {d : Nat → Int32} {pl : Nat → Nat} (h : CG M τ T d l n pl) {c : Nat} (hc : c < 24) : fX5_needPlayable (nI c) M = if lgl τ T d l n pl c = true then (0, 0, M) else (2, 0, M) := by
  unfold fX5_needPlayable
  rw [h.holds hc]
  simp only [b01_0]
  cases lgl τ T d l n pl c <;> simp
theorem CG.np0 {M : Mem} {τ T l n : Nat} {d : Nat → Int32} {pl : Nat → Nat} (h : CG M τ T d l n pl) {c : Nat} (hc : c < 24) (hl : lgl τ T d l n pl c = false) : fX5_needPlayable (nI c) M = (2, 0, M) := by
  rw [h.np hc, hl, if_neg (show ¬ (false = true) by decide)]
theorem CG.np1 {M : Mem} {τ T l n : Nat} {d : Nat → Int32} {pl : Nat → Nat} (h : CG M τ T d l n pl) {c : Nat} (hc : c < 24) (hl : lgl τ T d l n pl c = true) : fX5_needPlayable (nI c) M = (0, 0, M) := by
  rw [h.np hc, hl, if_pos rfl]
theorem c_play0 {M : Mem} {τ T l n : Nat} {d : Nat → Int32} {pl : Nat → Nat} (h : CG M τ T d l n pl) {c : Nat} (hc : c < 24) (hl : lgl τ T d l n pl c = false) : fX5_play (nI c) M = some (2, 0, M) := by
  unfold fX5_play
  rw [nc_ok hc, if_pos (show (0 : Nat) = 0 from rfl)]
  dsimp only
  rw [h.np0 hc hl, if_neg (show ¬ (2 : Nat) = 0 by decide)]
theorem c_play1 {M : Mem} {τ T l n : Nat} {d : Nat → Int32} {pl : Nat → Nat} (h : CG M τ T d l n pl) {c : Nat} (hc : c < 24) (hl : lgl τ T d l n pl c = true) : ∃ M', fX5_play (nI c) M = some (0, resP τ n pl (ldr τ l pl) c, M') ∧ CG M' τ T d l (n + 1) (updN pl n c) := by
  have w := h.1.wp
  have hl2 := bq_t.mp hl
  have hb : bt ((run τ d l pl n).1 (mv n (ldr τ l pl))) c = true := legal_has hl2.2
  obtain ⟨M1, l1, l2, l5, l4⟩ := lay_ok h.2.1 w hl2.1 hc
  unfold fX5_play
  rw [nc_ok hc, if_pos (show (0 : Nat) = 0 from rfl)]
  dsimp only
  rw [h.np1 hc hl, if_pos (show (0 : Nat) = 0 from rfl)]
  dsimp only
  rw [l1, ob_s]
  refine ⟨M1, rfl, h.1.more hl2.1 hc (by rw [run_mv]; exact hb), ?_, by rw [l5]; exact h.2.2⟩
  rw [run_more]
  dsimp only
  rw [run_mv]
  exact l2.congr (fun p _ => rfl) (fun k _ => rfl) (fun j hj => ldP_ldr j hj)
theorem c_back0 {M : Mem} {τ T l : Nat} {d : Nat → Int32} {pl : Nat → Nat} (h : CG M τ T d l 0 pl) : fX5_takeBack M = (2, 0, M) := by
  unfold fX5_takeBack fX1_laidCount
  rw [show M 0 7 = 0 from h.2.1.2.2.2.1, if_pos rfl]
theorem c_back1 {M : Mem} {τ T l n : Nat} {d : Nat → Int32} {pl : Nat → Nat} (h : CG M τ T d l (n + 1) pl) : ∃ M', fX5_takeBack M = (0, nI (pl n), M') ∧ CG M' τ T d l n pl := by
  have g' := h.1.less
  have w' := g'.wp
  have hT := w'.2.1
  have hn : n < 4 * T := by have := h.1.2.2.2.1; omega
  have hl4 := h.1.2.2.2.2.1
  obtain ⟨hc, hb⟩ := h.1.2.2.2.2.2.2.2.2 n (by omega)
  rw [run_mv] at hb
  have hz : ¬ nI (n + 1) = 0 := by rw [show (0 : Int32) = nI 0 from rfl, eq_N (by omega) (by omega)]; omega
  have hr1 : (run τ d l pl (n + 1)).1 = hP (run τ d l pl n).1 (mv n (ldr τ l pl)) (pl n) := by
    show hP (run τ d l pl n).1 (mv n (run τ d l pl n).2) (pl n) = _
    rw [run_mv]
  have ha3 : Rep M τ T (n + 1) (hP (run τ d l pl n).1 (mv n (ldr τ l pl)) (pl n)) (updN pl n (pl n)) (ldP τ n pl (ldr τ l pl) (pl n)) := by
    have hr := h.2.1
    rw [hr1] at hr
    rw [updN_self]
    exact hr.congr (fun p _ => rfl) (fun k _ => rfl) (fun j hj => by rw [ldP_ldr j hj, updN_self])
  obtain ⟨M1, k1, k2, k3⟩ := lift_ok h.2.1 hT hn (fun j _ => ldr_lt hl4 pl j) hc
  obtain ⟨M2, b1, b2, b5, b4⟩ := back_ok ha3 w' hn hc hb
  rw [k1] at b1
  have hMM : M1 = M2 := b1
  subst hMM
  unfold fX5_takeBack fX1_laidCount
  rw [h.2.1.2.2.2.1, if_neg hz, k1]
  exact ⟨M1, rfl, g', b2, by rw [b5]; exact h.2.2⟩
theorem c_cardIn {M : Mem} {n : Nat} {h : Nat → Int32} {pl : Nat → Nat} (k : Lk M n h pl) {p : Nat} (hp : p < n % 4) : fX5_cardIn (nI p) M = (0, nI (pl (n - n % 4 + p)), M) := by
  obtain ⟨k1, k2, k3, k4, k5, k6, m1, m7, m2⟩ := k
  have hsz : fX1_trickSize M = nI (n % 4) := by unfold fX1_trickSize; rw [m7, im_4 (by omega)]
  unfold fX5_cardIn
  rw [if_neg (nn_N (by omega)), hsz]
  simp only [lt_N (show p < 2 ^ 31 by omega) (show n % 4 < 2 ^ 31 by omega)]
  rw [if_pos hp]
  unfold fX1_trickCard
  rw [hsz, m7, pk_sub (by omega), nI_add, laidAt_N m2 k1 (by omega)]
theorem tricksOf_loop {M : Mem} {τ T n : Nat} {h : Nat → Int32} {pl ld : Nat → Nat} {s : Nat} (r : Rep M τ T n h pl ld) (w : WF τ T n h pl ld) (hs : s < 2) :
    ∀ F m j, m < F → j + m = n / 4 → fX1_tricksOf_L4 F (nI s) (nI (won ld s j)) (nI (j + 1)) M = some (nI (won ld s (n / 4))) := by
  have hT := w.2.1
  have hn4 := w.2.2.1
  intro F
  induction F with
  | zero => intro m j h; omega
  | succ F ih =>
    intro m j hm hj
    rw [fX1_tricksOf_L4.eq_2, R_tricksOver r w]
    simp only [lt_N (show n / 4 < 2 ^ 31 by omega) (show j + 1 < 2 ^ 31 by omega)]
    by_cases hlt : n / 4 < j + 1
    · rw [if_pos hlt]
      have : j = n / 4 := by omega
      subst this; rfl
    · have hL := w.2.2.2.2.2.1 (j + 1) (by omega)
      rw [if_neg hlt, R_leaderOf r w (by omega)]
      unfold fX0_sideOf
      rw [im_2 (by omega)]
      simp only [eq_N (show ld (j + 1) % 2 < 2 ^ 31 by omega) (show s < 2 ^ 31 by omega)]
      have go := ih (m - 1) (j + 1) (by omega) (by omega)
      have hw : won ld s (j + 1) = won ld s j + (if ld (j + 1) % 2 = s then 1 else 0) := by
        unfold won; simp only [cn, decide_eq_true_eq]
      rw [show (nI (j + 1) + 1 : Int32) = nI (j + 1 + 1) from nI_add _ 1]
      rw [hw] at go
      by_cases he : ld (j + 1) % 2 = s
      · rw [if_pos he] at go
        rw [if_pos he, show (nI (won ld s j) + 1 : Int32) = nI (won ld s j + 1) from nI_add _ 1]; exact go
      · rw [if_neg he] at go
        rw [if_neg he]; exact go
theorem c_won {M : Mem} {τ T l n s : Nat} {d : Nat → Int32} {pl : Nat → Nat} (h : CG M τ T d l n pl) (hs : s < 2) : fX5_won (nI s) M = some (0, nI (wonL τ l pl s (n / 4)), M) := by
  have w := h.1.wp
  have e := tricksOf_loop h.2.1 w hs 40 (n / 4) 0 (by have := w.2.1; have := w.2.2.1; omega) (by omega)
  unfold fX5_won
  rw [if_neg (nn_N (by omega)), if_pos (show nI s < 2 from nI_lt (b := 2) hs (by omega))]
  unfold fX1_tricksOf
  have e' : fX1_tricksOf_L4 40 (nI s) 0 1 M = some (nI (wonL τ l pl s (n / 4))) := e
  rw [e', ob_s, ob_s]
theorem c_wonD {M : Mem} {d : Nat → Int32} {s : Nat} (h : CD M d) (hs : s < 2) : fX5_won (nI s) M = some (0, 0, M) := by
  unfold fX5_won
  rw [if_neg (nn_N (by omega)), if_pos (show nI s < 2 from nI_lt (b := 2) hs (by omega))]
  unfold fX1_tricksOf
  have : fX1_tricksOver M = 0 := by unfold fX1_tricksOver; rw [h.2.2.2.2.2.1]; decide
  rw [show fX1_tricksOf_L4 40 = fX1_tricksOf_L4 (39 + 1) from rfl, fX1_tricksOf_L4.eq_2, this, if_pos (show (0 : Int32) < 1 by decide), ob_s, ob_s]
