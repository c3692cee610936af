/-! cards and tricks: the class's look against the reference's -/
theorem owner_eq {M N : Mem} {c : Nat} (e : ∀ p, p < 4 → M 1 p = N 3 p) (hc : c < 24) : fX1_ownerOf (nI c) M = fX6_holder (nI c) N := by
  unfold fX1_ownerOf fX6_holder
  rw [e 0 (by omega), e 1 (by omega), e 2 (by omega), e 3 (by omega)]
  rw [fX0_holds_eq _ hc, fX0_holds_eq _ hc, fX0_holds_eq _ hc, fX0_holds_eq _ hc, has_eq (by omega), has_eq (by omega), has_eq (by omega), has_eq (by omega)]
theorem tricksOf_loop {M : Mem} {τ T n : Nat} {h : Nat → Int32} {pl ld : Nat → Nat} {s : Nat} (r : Rep M τ T n h pl ld) (w : WF τ T n h pl ld) (hs : s < 2) :
    ∀ F m j, m < F → j + m = n / 4 → fX1_tricksOf_L4 F (nI s) (nI (won ld s j)) (nI (j + 1)) M = some (nI (won ld s (n / 4))) := by
  have hT := w.2.1
  have hn4 := w.2.2.1
  intro F
  induction F with
  | zero => intro m j h; omega
  | succ F ih =>
    intro m j hm hj
    rw [fX1_tricksOf_L4.eq_2, R_tricksOver r w]
    simp only [lt_N (show n / 4 < 2 ^ 31 by omega) (show j + 1 < 2 ^ 31 by omega)]
    by_cases hlt : n / 4 < j + 1
    · rw [if_pos hlt]
      have : j = n / 4 := by omega
      subst this; rfl
    · have hL := w.2.2.2.2.2.1 (j + 1) (by omega)
      rw [if_neg hlt, R_leaderOf r w (by omega)]
      unfold fX0_sideOf
      rw [im_2 (by omega)]
      simp only [eq_N (show ld (j + 1) % 2 < 2 ^ 31 by omega) (show s < 2 ^ 31 by omega)]
      have go := ih (m - 1) (j + 1) (by omega) (by omega)
      have hw : won ld s (j + 1) = won ld s j + (if ld (j + 1) % 2 = s then 1 else 0) := by
        unfold won; simp only [cn, decide_eq_true_eq]
      rw [show (nI (j + 1) + 1 : Int32) = nI (j + 1 + 1) from nI_add _ 1]
      rw [hw] at go
      by_cases he : ld (j + 1) % 2 = s
      · rw [if_pos he] at go
        rw [if_pos he, show (nI (won ld s j) + 1 : Int32) = nI (won ld s j + 1) from nI_add _ 1]; exact go
      · rw [if_neg he] at go
        rw [if_neg he]; exact go
