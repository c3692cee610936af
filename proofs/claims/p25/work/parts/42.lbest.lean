/-! best: going through all plays, forward and back, finds the value of the position -/
theorem ldP_ldr {τ l n c : Nat} {pl : Nat → Nat} : ∀ j, j ≤ (n + 1) / 4 → ldP τ n pl (ldr τ l pl) c j = ldr τ l (updN pl n c) j := by
  intro j hj
  unfold ldP
  by_cases h3 : n % 4 = 3
  · rw [if_pos h3]
    by_cases hjn : j = n / 4 + 1
    · subst hjn
      rw [updN_s]
      unfold wnr
      simp only [ldr]
      rw [ldr_congr (τ := τ) (l := l) (pl := updN pl n c) (pl' := pl) (n / 4) (fun k hk => updN_n _ _ (by omega)), plc_congr (τ := τ) (t := updN (ts n pl) 3 c) (t' := fun i => updN pl n c (4 * (n / 4) + i)) (fun i hi => ?_)]
      by_cases hi3 : i = 3
      · subst hi3
        rw [updN_s, show 4 * (n / 4) + 3 = n by omega, updN_s]
      · rw [updN_n _ _ hi3, updN_n _ _ (by omega)]
        unfold ts
        rw [show n - n % 4 + i = 4 * (n / 4) + i by omega]
    · rw [updN_n _ _ hjn]
      exact (ldr_congr j (fun k hk => updN_n _ _ (by omega))).symm
  · rw [if_neg h3]
    exact (ldr_congr j (fun k hk => updN_n _ _ (by omega))).symm
theorem WF.ld {τ T n : Nat} {h : Nat → Int32} {pl ld ld' : Nat → Nat} (w : WF τ T n h pl ld) (e : ∀ j, j ≤ n / 4 → ld j = ld' j) : WF τ T n h pl ld' := by
  obtain ⟨w1, w2, w3, w4, w5, w6, w7, w8, w9⟩ := w
  refine ⟨w1, w2, w3, w4, w5, fun j hj => by rw [← e j hj]; exact w6 j hj, w7, fun j hj => ?_, w9⟩
  rw [← e _ (Nat.le_refl _)]; exact w8 j hj
theorem VG_ld {τ T n : Nat} {h : Nat → Int32} {pl ld ld' : Nat → Nat} (e : ld (n / 4) = ld' (n / 4)) : VG τ T n h pl ld = VG τ T n h pl ld' := by unfold VG; rw [e]
abbrev WP (τ T l n : Nat) (h : Nat → Int32) (pl : Nat → Nat) : Prop := WF τ T n h pl (ldr τ l pl)
def TV (τ T l n : Nat) (h : Nat → Int32) (pl : Nat → Nat) : Nat := wonL τ l pl 0 (n / 4) + VG τ T n h pl (ldr τ l pl)
theorem WP.play {τ T l n c : Nat} {h : Nat → Int32} {pl : Nat → Nat} (w : WP τ T l n h pl) (hn : n < 4 * T) (hc : c < 24) (hb : bt (h (mv n (ldr τ l pl))) c = true) : WP τ T l (n + 1) (hP h (mv n (ldr τ l pl)) c) (updN pl n c) :=
  (WF_play w hn hc hb).ld (fun j hj => ldP_ldr j hj)
theorem wonL_play {τ l n c : Nat} {pl : Nat → Nat} : wonL τ l (updN pl n c) 0 ((n + 1) / 4) = wonL τ l pl 0 (n / 4) + gn τ n pl (ldr τ l pl) c := by
  have hlow : ∀ m, m ≤ n / 4 → wonL τ l (updN pl n c) 0 m = wonL τ l pl 0 m := fun m hm => by
    unfold wonL
    exact cn_congr m (fun j hj => by rw [ldr_congr (τ := τ) (l := l) (pl := updN pl n c) (pl' := pl) (j + 1) (fun k hk => updN_n _ _ (by omega))])
  unfold gn
  by_cases h3 : n % 4 = 3
  · have e : (n + 1) / 4 = n / 4 + 1 := by omega
    have hw : ldr τ l (updN pl n c) (n / 4 + 1) = wnr τ n pl (ldr τ l pl) c := by
      rw [← ldP_ldr (τ := τ) (l := l) (n := n) (c := c) (pl := pl) (n / 4 + 1) (by omega)]
      unfold ldP
      rw [if_pos h3, updN_s]
    have hs : wonL τ l (updN pl n c) 0 (n / 4 + 1) = wonL τ l (updN pl n c) 0 (n / 4) + (if ldr τ l (updN pl n c) (n / 4 + 1) % 2 = 0 then 1 else 0) := by
      unfold wonL; simp only [cn, decide_eq_true_eq]
    rw [e, hs, hw, hlow _ (Nat.le_refl _)]
    congr 1
    by_cases h2 : wnr τ n pl (ldr τ l pl) c % 2 = 0
    · rw [if_pos h2, if_pos ⟨h3, h2⟩]
    · rw [if_neg h2, if_neg (fun z => h2 z.2)]
  · rw [show (n + 1) / 4 = n / 4 by omega, hlow _ (Nat.le_refl _), if_neg (fun z => h3 z.1)]; rfl
theorem TV_play {τ T l n c : Nat} {h : Nat → Int32} {pl : Nat → Nat} : TV τ T l (n + 1) (hP h (mv n (ldr τ l pl)) c) (updN pl n c) = wonL τ l pl 0 (n / 4) + vl τ T n h pl (ldr τ l pl) c := by
  unfold TV vl
  rw [wonL_play, VG_ld (ld := ldr τ l (updN pl n c)) (ld' := ldP τ n pl (ldr τ l pl) c) ((ldP_ldr _ (Nat.le_refl _)).symm)]
  omega
theorem TV_step {τ T l n : Nat} {h : Nat → Int32} {pl : Nat → Nat} (w : WP τ T l n h pl) (hn : n < 4 * T) : IsOpt (decide (mv n (ldr τ l pl) % 2 = 0)) (fun c => c < 24 ∧ legal (Hs h (mv n (ldr τ l pl))) (n % 4) (ts n pl) c = true) (fun c => TV τ T l (n + 1) (hP h (mv n (ldr τ l pl)) c) (updN pl n c)) (TV τ T l n h pl) := by
  obtain ⟨⟨c, hc, he⟩, hall⟩ := VG_step w hn
  refine ⟨⟨c, hc, ?_⟩, fun d hd => ?_⟩
  · show TV τ T l (n + 1) _ _ = _
    rw [TV_play, he]; rfl
  · show if decide (mv n (ldr τ l pl) % 2 = 0) = true then TV τ T l (n + 1) (hP h (mv n (ldr τ l pl)) d) (updN pl n d) ≤ _ else _ ≤ TV τ T l (n + 1) (hP h (mv n (ldr τ l pl)) d) (updN pl n d)
    rw [TV_play]
    have := hall d hd
    unfold TV
    by_cases e : decide (mv n (ldr τ l pl) % 2 = 0) = true
    · rw [if_pos e] at this ⊢; omega
    · rw [if_neg e] at this ⊢; omega
theorem TV_le {τ T l n : Nat} {h : Nat → Int32} {pl : Nat → Nat} (hT : T ≤ 4) (hn : n ≤ 4 * T) : TV τ T l n h pl ≤ 8 := by
  have h1 := VG_le (τ := τ) (h := h) (pl := pl) (ld := ldr τ l pl) hn
  have h2 := cn_le (fun j => decide (ldr τ l pl (j + 1) % 2 = 0)) (n / 4)
  unfold TV wonL
  omega
theorem IsOpt.ins {e : Bool} {S S' : Nat → Prop} {f : Nat → Nat} {w c : Nat} (o : IsOpt e S f w) (h : ∀ d, S' d ↔ S d ∨ d = c) : IsOpt e S' f (if e then max w (f c) else min w (f c)) := by
  obtain ⟨⟨a, ha, he⟩, hall⟩ := o
  cases e with
  | true =>
    rw [if_pos rfl]
    refine ⟨?_, fun d hd => ?_⟩
    · rcases Nat.le_total w (f c) with q | q
      · exact ⟨c, (h c).mpr (Or.inr rfl), by rw [Nat.max_eq_right q]⟩
      · exact ⟨a, (h a).mpr (Or.inl ha), by rw [Nat.max_eq_left q]; exact he⟩
    · rw [if_pos rfl]
      rcases (h d).mp hd with q | rfl
      · have := hall d q; rw [if_pos rfl] at this; exact Nat.le_trans this (Nat.le_max_left _ _)
      · exact Nat.le_max_right _ _
  | false =>
    rw [if_neg (by decide)]
    refine ⟨?_, fun d hd => ?_⟩
    · rcases Nat.le_total w (f c) with q | q
      · exact ⟨a, (h a).mpr (Or.inl ha), by rw [Nat.min_eq_left q]; exact he⟩
      · exact ⟨c, (h c).mpr (Or.inr rfl), by rw [Nat.min_eq_right q]⟩
    · rw [if_neg (by decide)]
      rcases (h d).mp hd with q | rfl
      · have := hall d q; rw [if_neg (by decide)] at this; exact Nat.le_trans (Nat.min_le_left _ _) this
      · exact Nat.min_le_right _ _
theorem IsOpt.one {e : Bool} {S : Nat → Prop} {f : Nat → Nat} {c : Nat} (h : ∀ d, S d ↔ d = c) : IsOpt e S f (f c) :=
  ⟨⟨c, (h c).mpr rfl, rfl⟩, fun d hd => by rw [(h d).mp hd]; cases e <;> simp⟩
/-- the next card that can be played -/
theorem bnext {M : Mem} {a : Nat} {v3 v4 : Int32} {f : Nat → Bool} (hf : ∀ d, d < 24 → fL_can (nI a) (nI d) M = some (b01 (f d))) : ∀ F m c, m < F → c + m = 24 →
    ∃ c', c ≤ c' ∧ c' ≤ 24 ∧ fL_best_L81 F v3 v4 (nI a) (nI c) M = some (nI c') ∧ (c' < 24 → f c' = true) ∧ ∀ d, c ≤ d → d < c' → f d = false := by
  intro F
  induction F with
  | zero => intro m c h; omega
  | succ F ih =>
    intro m c hm hc
    rw [fL_best_L81.eq_2]
    by_cases h24 : 24 ≤ c
    · rw [if_pos (show (24 : Int32) ≤ nI c from nI_le (a := 24) h24 (by omega))]
      exact ⟨c, Nat.le_refl _, by omega, rfl, fun z => by omega, fun d d1 d2 => by omega⟩
    · rw [if_neg (show ¬ (24 : Int32) ≤ nI c from nI_ge (b := 24) (by omega) (by omega)), hf c (by omega), ob_s]
      simp only [b01_0]
      cases hq : f c with
      | true =>
        rw [if_neg (by decide)]
        exact ⟨c, Nat.le_refl _, by omega, rfl, fun _ => hq, fun d d1 d2 => by omega⟩
      | false =>
        rw [if_pos rfl, nI_1]
        obtain ⟨c', h1, h2, h3, h4, h5⟩ := ih (m - 1) (c + 1) (by omega) (by omega)
        refine ⟨c', by omega, h2, h3, h4, fun d d1 d2 => ?_⟩
        rcases Nat.eq_or_lt_of_le d1 with q | q
        · rw [← q]; exact hq
        · exact h5 d (by omega) d2
/-- what best does with a place that is done -/
def FinB (F : Nat) (v3 v4 v7 its : Int32) (M : Mem) : Option (Int32 × Mem) := (if v7 = v3 then some (its, M) else (obind (fL_leader (v7 + (-1)) M) (fun q13 => (if vin (im (q13 + (im (v7 + (-1)) 4)) 4) 4 = true then (if vin (v7 + (-1)) 16 = true then (if vin (im (q13 + (im (v7 + (-1)) 4)) 4) 4 = true then (obind (fL_best_R242 v3 v4 (v7 + (-1)) its (im (q13 + (im (v7 + (-1)) 4)) 4) ((mset M 0 ((im (q13 + (im (v7 + (-1)) 4)) 4).toNatClampNeg) ((M 0 ((im (q13 + (im (v7 + (-1)) 4)) 4).toNatClampNeg)) ||| (sl 1 (M 1 ((v7 + (-1)).toNatClampNeg))))))) (fun q17 => (obind (fL_best_R287 v3 v4 (v7 + (-1)) its q17 ((mset M 0 ((im (q13 + (im (v7 + (-1)) 4)) 4).toNatClampNeg) ((M 0 ((im (q13 + (im (v7 + (-1)) 4)) 4).toNatClampNeg)) ||| (sl 1 (M 1 ((v7 + (-1)).toNatClampNeg))))))) (fun q18 => fL_best_L62 F v3 v4 (v7 + (-1)) q18)))) else none) else none) else none))))
theorem best_else {F : Nat} {v3 v4 v7 x its : Int32} {M : Mem} {c : Nat} (h1 : fL_best_R62 v3 v4 v7 M = some x) (h2 : fL_best_L81 40 v3 v4 v7 x M = some (nI c)) (hc : 24 ≤ c) (hc2 : c < 1000) (h3 : fL_best_R176 v3 v4 v7 M = some its) : fL_best_L62 (F + 1) v3 v4 v7 M = FinB F v3 v4 v7 its M := by
  rw [fL_best_L62.eq_2, h1, ob_s, h2, ob_s, if_pos (show (24 : Int32) ≤ nI c from nI_le (a := 24) hc (by omega)), h3, ob_s]
  rfl
def bst : Nat → Nat
  | 0 => 1
  | r + 1 => 24 * (1 + bst r) + 1
theorem bst_le : ∀ a r, bst r ≤ bst (r + a) := by
  intro a
  induction a with
  | zero => intro r; exact Nat.le_refl _
  | succ a ih =>
    intro r
    have := ih r
    show bst r ≤ 24 * (1 + bst (r + a)) + 1
    omega
/-- what stays below a place -/
def FrB (a : Nat) (M M' : Mem) : Prop := (∀ k, k < a → M' 1 k = M 1 k) ∧ M' 2 = M 2 ∧ (∀ k, k < a → M' 3 k = M 3 k) ∧ ∀ k, k < a → M' 4 k = M 4 k
theorem FrB.rf (a : Nat) (M : Mem) : FrB a M M := ⟨fun _ _ => rfl, rfl, fun _ _ => rfl, fun _ _ => rfl⟩
theorem FrB.tr {a : Nat} {A B C : Mem} (x : FrB a A B) (y : FrB a B C) : FrB a A C := ⟨fun k hk => (y.1 k hk).trans (x.1 k hk), y.2.1.trans x.2.1, fun k hk => (y.2.2.1 k hk).trans (x.2.2.1 k hk), fun k hk => (y.2.2.2 k hk).trans (x.2.2.2 k hk)⟩
theorem FrB.le {a b : Nat} {A B : Mem} (x : FrB a A B) (h : b ≤ a) : FrB b A B := ⟨fun k hk => x.1 k (by omega), x.2.1, fun k hk => x.2.2.1 k (by omega), fun k hk => x.2.2.2 k (by omega)⟩
theorem FrB.lc {τ l a : Nat} {pl : Nat → Nat} {A B : Mem} (x : FrB a A B) (c : LC0 A τ l a pl) : LC0 B τ l a pl := ⟨fun k hk => by rw [x.1 k hk, c.1 k hk], by rw [x.2.1]; exact c.2.1, by rw [x.2.1]; exact c.2.2⟩
/-- what was found so far at a place -/
def FndB (M : Mem) (a : Nat) (e : Bool) (S : Nat → Prop) (f : Nat → Nat) : Prop := ((∀ c, ¬ S c) ∧ M 4 a = -1) ∨ ∃ w, M 4 a = nI w ∧ IsOpt e S f w ∧ w < 1000
theorem back_h {h : Nat → Int32} {m c : Nat} (hc : c < 24) (hb : bt (h m) c = true) : hP h m c m ||| sl 1 (nI c) = h m := by
  unfold hP
  rw [if_pos rfl]
  apply bt_ext; intro d hd
  rw [bt_addc hc, bt_rem hc hd]
  by_cases hdc : d = c
  · subst hdc; rw [hb]; simp
  · simp [hdc]
theorem best_pop {τ T l fr a c v : Nat} {h : Nat → Int32} {pl : Nat → Nat} {M : Mem} {e : Bool} {S S' : Nat → Prop} {f : Nat → Nat} {v4 : Int32} (F : Nat) (w : WP τ T l a h pl) (hl : l < 4) (ha : a < 16) (hfr : fr ≤ a) (hc : c < 24) (hb : bt (h (mv a (ldr τ l pl))) c = true)
    (hh : ∀ p, p < 4 → M 0 p = hP h (mv a (ldr τ l pl)) c p) (lc : LC0 M τ l a pl) (h1 : M 1 a = nI c) (he : e = decide (mv a (ldr τ l pl) % 2 = 0)) (hv : v = f c) (hv2 : v < 1000) (fd : FndB M a e S f) (hS : ∀ d, S' d ↔ S d ∨ d = c) :
    ∃ M', FinB F (nI fr) v4 (nI (a + 1)) (nI v) M = fL_best_L62 F (nI fr) v4 (nI a) M' ∧ (∀ p, p < 4 → M' 0 p = h p) ∧ FrB a M M' ∧ M' 3 a = M 3 a ∧ FndB M' a e S' f := by
  have hm := mv_lt a (ldr τ l pl)
  have hld := ldr_lt (τ := τ) hl pl (a / 4)
  have hlead := llead lc w.1 hl (by omega) w.2.2.2.2.1
  have hmv : (ldr τ l pl (a / 4) + a % 4) % 4 = mv a (ldr τ l pl) := rfl
  unfold FinB
  have hz : ¬ nI (a + 1) = nI fr := by rw [eq_N (by omega) (by omega)]; omega
  rw [if_neg hz, pk_m1, hlead, ob_s, im_4 (by omega), nI_add, im_4 (by omega), hmv]
  generalize hmm : mv a (ldr τ l pl) = m at *
  rw [if_pos (vin_N hm (by omega)), if_pos (vin_N (show a < 16 by omega) (by omega)), if_pos (vin_N hm (by omega)), cl_N (by omega), cl_N (by omega), h1, hh m hm, back_h hc hb]
  generalize hM0 : mset M 0 m (h m) = M0
  have g : ∀ i j, M0 i j = if i = 0 ∧ j = m then h m else M i j := by intro i j; rw [← hM0, mset_at]
  have g0 : ∀ p, p < 4 → M0 0 p = h p := fun p hp => by
    rw [g]
    by_cases hpm : p = m
    · subst hpm; simp
    · simp [hpm]
      rw [hh p hp]; unfold hP; rw [if_neg hpm]
  have gi : ∀ i, i ≠ 0 → M0 i = M i := fun i hi => by funext j; rw [g]; simp [hi]
  have g4 : M0 4 a = M 4 a := by rw [gi 4 (by decide)]
  have fin : ∀ x : Int32, (∃ b : Int32, fL_best_R242 (nI fr) v4 (nI a) (nI v) (nI m) M0 = some b ∧ ((b = 0 ∧ x = M 4 a) ∨ (¬ b = 0 ∧ x = nI v))) → ((∃ w, x = nI w ∧ IsOpt e S' f w ∧ w < 1000)) →
      ∃ M', obind (fL_best_R242 (nI fr) v4 (nI a) (nI v) (nI m) M0) (fun q17 => obind (fL_best_R287 (nI fr) v4 (nI a) (nI v) q17 M0) (fun q18 => fL_best_L62 F (nI fr) v4 (nI a) q18)) = fL_best_L62 F (nI fr) v4 (nI a) M' ∧ (∀ p, p < 4 → M' 0 p = h p) ∧ FrB a M M' ∧ M' 3 a = M 3 a ∧ FndB M' a e S' f := by
    rintro x ⟨b, hb1, hb2⟩ hx
    refine ⟨mset M0 4 a x, ?_, fun p hp => by rw [mset_n _ _ _ (by decide)]; exact g0 p hp, ⟨fun k _ => by rw [mset_n _ _ _ (by decide), gi 1 (by decide)], by rw [mset_n _ _ _ (by decide), gi 2 (by decide)], fun k _ => by rw [mset_n _ _ _ (by decide), gi 3 (by decide)], fun k hk => ?_⟩, by rw [mset_n _ _ _ (by decide), gi 3 (by decide)], Or.inr ?_⟩
    · rw [hb1, ob_s]
      have : fL_best_R287 (nI fr) v4 (nI a) (nI v) b M0 = some (mset M0 4 a x) := by
        unfold fL_best_R287
        rw [cl_N (by omega)]
        rcases hb2 with ⟨b0, hx0⟩ | ⟨b0, hx0⟩
        · rw [if_pos b0, if_pos (vin_N (by omega) (by omega)), if_pos (vin_N (by omega) (by omega)), hx0, g4]
        · rw [if_neg b0, if_pos (vin_N (by omega) (by omega)), hx0]
      rw [this, ob_s]
    · rw [mset_s, upd_n _ _ (by omega), gi 4 (by decide)]
    · obtain ⟨w, hw1, hw2, hw3⟩ := hx
      exact ⟨w, by rw [mset_s, upd_s]; exact hw1, hw2, hw3⟩
  have hR : fL_best_R242 (nI fr) v4 (nI a) (nI v) (nI m) M0 = (if M 4 a < 0 then some 1 else if m % 2 = 0 then (if nI v ≤ M 4 a then some 0 else some 1) else (if M 4 a ≤ nI v then some 0 else some 1)) := by
    unfold fL_best_R242
    rw [cl_N (by omega), if_pos (vin_N (by omega) (by omega)), if_pos (vin_N (by omega) (by omega)), if_pos (vin_N (by omega) (by omega)), g4, im_2 (by omega)]
    simp only [show (nI (m % 2) = 0) = (m % 2 = 0) from eq_N (b := 0) (by omega) (by omega)]
  rcases fd with ⟨f1, f2⟩ | ⟨u, f1, f2, f3⟩
  · refine fin (nI v) ⟨1, ?_, Or.inr ⟨by decide, rfl⟩⟩ ⟨v, rfl, ?_, hv2⟩
    · rw [hR, f2, if_pos (by decide)]
    · rw [hv]
      exact IsOpt.one (fun d => (hS d).trans ⟨fun z => z.elim (fun y => absurd y (f1 d)) id, Or.inr⟩)
  · have hins := f2.ins hS
    rw [← hv] at hins
    rw [f1] at hR
    rw [if_neg (nn_N (by omega))] at hR
    simp only [le_N (show v < 2 ^ 31 by omega) (show u < 2 ^ 31 by omega), le_N (show u < 2 ^ 31 by omega) (show v < 2 ^ 31 by omega)] at hR
    by_cases h2 : m % 2 = 0
    · have e1 : e = true := by rw [he]; simp [h2]
      rw [e1] at hins
      rw [if_pos rfl] at hins
      rw [if_pos h2] at hR
      by_cases hle : v ≤ u
      · rw [if_pos hle] at hR
        refine fin (nI u) ⟨0, hR, Or.inl ⟨rfl, f1.symm⟩⟩ ⟨u, rfl, ?_, f3⟩
        rw [Nat.max_eq_left hle] at hins
        rw [e1]; exact hins
      · rw [if_neg hle] at hR
        refine fin (nI v) ⟨1, hR, Or.inr ⟨by decide, rfl⟩⟩ ⟨v, rfl, ?_, hv2⟩
        rw [Nat.max_eq_right (by omega)] at hins
        rw [e1]; exact hins
    · have e1 : e = false := by rw [he]; simp [h2]
      rw [e1] at hins
      rw [if_neg (by decide)] at hins
      rw [if_neg h2] at hR
      by_cases hle : u ≤ v
      · rw [if_pos hle] at hR
        refine fin (nI u) ⟨0, hR, Or.inl ⟨rfl, f1.symm⟩⟩ ⟨u, rfl, ?_, f3⟩
        rw [Nat.min_eq_left hle] at hins
        rw [e1]; exact hins
      · rw [if_neg hle] at hR
        refine fin (nI v) ⟨1, hR, Or.inr ⟨by decide, rfl⟩⟩ ⟨v, rfl, ?_, hv2⟩
        rw [Nat.min_eq_right (by omega)] at hins
        rw [e1]; exact hins
