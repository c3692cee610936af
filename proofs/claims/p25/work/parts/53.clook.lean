/-! the class looks at the cards -/
theorem nh_1 {M : Mem} {n : Nat} {h : Nat → Int32} {pl : Nat → Nat} (k : Lk M n h pl) {p c : Nat} (hp : p < 4) (hc : c < 24) (hb : bt (h p) c = true) : fX5_needInHand (nI c) M = (0, 0, M) := by
  unfold fX5_needInHand
  rw [k.the hp hc hb, if_neg (ne_m1 (by omega))]
theorem nh_0 {M : Mem} {n : Nat} {h : Nat → Int32} {pl : Nat → Nat} (k : Lk M n h pl) {c : Nat} (hc : c < 24) (hb : ∀ p, p < 4 → bt (h p) c = false) : fX5_needInHand (nI c) M = (2, 0, M) := by
  unfold fX5_needInHand
  rcases k.owner hc with ⟨p, p1, p2, -⟩ | ⟨-, q⟩
  · rw [hb p p1] at p2; cases p2
  · rw [q, if_pos rfl]
theorem c_low1 {M : Mem} {n : Nat} {h : Nat → Int32} {pl : Nat → Nat} (k : Lk M n h pl) {p c : Nat} (hp : p < 4) (hc : c < 24) (hb : bt (h p) c = true) : ∃ L, fX5_lowestEqual (nI c) M = some (0, nI L, M) ∧ LowC (bt (h p)) (OB n h pl p) c L := by
  obtain ⟨L, e, l⟩ := low_ok k hp hc hb
  refine ⟨L, ?_, l⟩
  unfold fX5_lowestEqual
  rw [nc_ok hc, if_pos (show (0 : Nat) = 0 from rfl)]
  dsimp only
  rw [nh_1 k hp hc hb, if_pos (show (0 : Nat) = 0 from rfl)]
  dsimp only
  rw [e, ob_s]
theorem c_low0 {M : Mem} {n : Nat} {h : Nat → Int32} {pl : Nat → Nat} (k : Lk M n h pl) {c : Nat} (hc : c < 24) (hb : ∀ p, p < 4 → bt (h p) c = false) : fX5_lowestEqual (nI c) M = some (2, 0, M) := by
  unfold fX5_lowestEqual
  rw [nc_ok hc, if_pos (show (0 : Nat) = 0 from rfl)]
  dsimp only
  rw [nh_0 k hc hb, if_neg (show ¬ (2 : Nat) = 0 by decide)]
theorem c_top1 {M : Mem} {n : Nat} {h : Nat → Int32} {pl : Nat → Nat} (k : Lk M n h pl) {p c : Nat} (hp : p < 4) (hc : c < 24) (hb : bt (h p) c = true) : fX5_isTop (nI c) M = some (0, b01 (bq (Tp (OB n h pl p) c)), M) := by
  obtain ⟨b, e, hb1⟩ := highest_ok k hp hc hb
  have hbb : b = bq (Tp (OB n h pl p) c) := by
    cases hq : bq (Tp (OB n h pl p) c) with
    | true => exact hb1.mpr (bq_t.mp hq)
    | false =>
      cases b with
      | false => rfl
      | true => exact absurd (hb1.mp rfl) (bq_f.mp hq)
  unfold fX5_isTop
  rw [nc_ok hc, if_pos (show (0 : Nat) = 0 from rfl)]
  dsimp only
  rw [nh_1 k hp hc hb, if_pos (show (0 : Nat) = 0 from rfl)]
  dsimp only
  rw [k.the hp hc hb, e, ob_s, if_pos (vb_b01 _), hbb]
theorem c_top0 {M : Mem} {n : Nat} {h : Nat → Int32} {pl : Nat → Nat} (k : Lk M n h pl) {c : Nat} (hc : c < 24) (hb : ∀ p, p < 4 → bt (h p) c = false) : fX5_isTop (nI c) M = some (2, 0, M) := by
  unfold fX5_isTop
  rw [nc_ok hc, if_pos (show (0 : Nat) = 0 from rfl)]
  dsimp only
  rw [nh_0 k hc hb, if_neg (show ¬ (2 : Nat) = 0 by decide)]
theorem c_hand {M : Mem} {n : Nat} {h : Nat → Int32} {pl : Nat → Nat} (k : Lk M n h pl) {p : Nat} (hp : p < 4) : fX5_hand (nI p) M = (0, h p, M) := by
  unfold fX5_hand
  rw [np_ok hp, if_pos (show (0 : Nat) = 0 from rfl)]
  dsimp only
  rw [k.hand hp]
theorem c_unlike {M : Mem} {n : Nat} {h : Nat → Int32} {pl : Nat → Nat} (k : Lk M n h pl) {p : Nat} (hp : p < 4) : fX5_unlike (nI p) M = some (0, nI (cn (unl n h pl p) 24), M) := by
  obtain ⟨o, r, e1, e2, e3⟩ := unlike_ok k hp
  unfold fX5_unlike
  rw [np_ok hp, if_pos (show (0 : Nat) = 0 from rfl)]
  dsimp only
  rw [e1, ob_s, e2, ob_s, e3]
theorem c_quick {M : Mem} {n : Nat} {h : Nat → Int32} {pl : Nat → Nat} (k : Lk M n h pl) {p : Nat} (hp : p < 4) : fX5_quick (nI p) M = some (0, nI (cn (qck n h pl p) 24), M) := by
  unfold fX5_quick
  rw [np_ok hp, if_pos (show (0 : Nat) = 0 from rfl)]
  dsimp only
  rw [quick_ok k hp, ob_s]
theorem c_fork {M : Mem} {p s : Nat} (hp : p < 4) (hs : s < 4) : fX5_fork (nI p) (nI s) M = (0, fX3_forkKind (nI p) (nI s) M, M) := by
  unfold fX5_fork
  rw [np_ok hp, if_pos (show (0 : Nat) = 0 from rfl), if_neg (nn_N (by omega)), if_pos (show nI s < 4 from nI_lt (b := 4) hs (by omega))]
def sg (p : Nat) (a : Int) : Int := if p % 2 = 0 then a else -a
theorem c_good (M : Mem) : fX5_goodForks M = some (iI (0 + sg 0 (cn (gk M 0) 4 : Nat) + sg 1 (cn (gk M 1) 4 : Nat) + sg 2 (cn (gk M 2) 4 : Nat) + sg 3 (cn (gk M 3) 4 : Nat))) := by
  unfold fX5_goodForks
  rw [gf_of0 M, ob_s, gf_of1 M, ob_s, iI_sub]
  congr 2
  simp only [sg]
  simp
  omega
theorem Lk.size {M : Mem} {n : Nat} {h : Nat → Int32} {pl : Nat → Nat} (k : Lk M n h pl) : fX5_inTrick M = nI (n % 4) := by
  unfold fX5_inTrick fX1_trickSize
  rw [k.2.2.2.2.2.2.2.1, im_4 (by have := k.1; omega)]
