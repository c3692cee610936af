/-! the reference's value of a card -/
theorem and_m1 (x : Int32) : x &&& (-1) = x := bt_ext (fun c hc => by rw [bt_and, bt_m1 hc, Bool.and_true])
theorem L29_loop {M : Mem} {lst : Nat → Nat} {x : Int32} {p i0 c : Nat} (hp : p < 4) (hi0 : i0 < 4) (hl : LK lst x) (h6 : ∀ j, bt x j = true → M 6 j = nI (lst j)) (hb : bt x (4 * p + i0) = true) (hc : lst (4 * p + i0) = c) (v4 : Int32) :
    ∀ F m i, m < F → i + m = 4 → fX6_valueOf_L29 F (nI c) (nI p) (if i0 < i then x &&& (sl 1 (nI (4 * p + i0)) ^^^ (-1)) else x) v4 (nI i) M = some (x &&& (sl 1 (nI (4 * p + i0)) ^^^ (-1))) := by
  intro F
  induction F with
  | zero => intro m i h; omega
  | succ F ih =>
    intro m i hm hi
    rw [fX6_valueOf_L29.eq_2]
    by_cases h4 : 4 ≤ i
    · rw [if_pos (show (4 : Int32) ≤ nI i from nI_le (a := 4) h4 (by omega)), if_pos (show i0 < i by omega)]
    · rw [if_neg (show ¬ (4 : Int32) ≤ nI i from nI_ge (b := 4) (by omega) (by omega)), show (4 : Int32) * nI p = nI (4 * p) from pk_mul 4 p, nI_add, has_eq (by omega), and_m1, show (nI i + 1 : Int32) = nI (i + 1) from nI_add i 1]
      have hc24 := hl.2.1 _ hb
      by_cases hii : i = i0
      · subst hii
        rw [if_neg (show ¬ i < i by omega), if_pos hb, if_neg (by decide), if_pos (vin_N (by omega) (by omega)), cl_N (by omega), h6 _ hb, hc, if_pos rfl]
        have := ih (m - 1) (i + 1) (by omega) (by omega)
        rw [if_pos (show i < i + 1 by omega)] at this
        exact this
      · have hbe : bt (if i0 < i then x &&& (sl 1 (nI (4 * p + i0)) ^^^ (-1)) else x) (4 * p + i) = bt x (4 * p + i) := by
          by_cases z : i0 < i
          · rw [if_pos z, rem_bt (by omega)]
            simp [hii]
          · rw [if_neg z]
        have hne : (if i0 < i then x &&& (sl 1 (nI (4 * p + i0)) ^^^ (-1)) else x) = (if i0 < i + 1 then x &&& (sl 1 (nI (4 * p + i0)) ^^^ (-1)) else x) := by
          by_cases z : i0 < i
          · rw [if_pos z, if_pos (by omega)]
          · rw [if_neg z, if_neg (by omega)]
        have go := ih (m - 1) (i + 1) (by omega) (by omega)
        rw [← hne] at go
        rw [hbe]
        by_cases hx : bt x (4 * p + i) = true
        · rw [if_pos hx, if_neg (by decide), if_pos (vin_N (by omega) (by omega)), cl_N (by omega), h6 _ hx, if_neg]
          · exact go
          · have h24 := hl.2.1 _ hx
            rw [eq_N (by omega) (by omega), ← hc]
            intro z
            exact hii (hl.2.2 p i i0 hp (by omega) hi0 hx hb z)
        · rw [if_neg hx, if_pos rfl]; exact go
theorem LK.sub {lst : Nat → Nat} {F0 x : Int32} (hl : LK lst F0) (hs : subM x F0) : LK lst x := by
  refine ⟨fun c hc => ?_, fun j hj => hl.2.1 j (hs j hj), fun p i j hp hi hj h1 h2 h3 => hl.2.2 p i j hp hi hj (hs _ h1) (hs _ h2) h3⟩
  cases hz : bt x c with
  | false => rfl
  | true => have := hs c hz; rw [hl.1 c hc] at this; cases this
theorem player_ok {N : Mem} {τ T n : Nat} {h : Nat → Int32} {pl ld : Nat → Nat} (r : NRep N τ n h pl ld) (w : WF τ T n h pl ld) (h2 : N 0 2 = 1) : fX6_player N = if n < 4 * T then nI (mv n ld) else -1 := by
  obtain ⟨r0, r3, r4, r9, r10⟩ := r
  have hT := w.2.1
  have hL := w.2.2.2.2.2.1 _ (Nat.le_refl _)
  have hall := all_cnt (N := N) w r3
  unfold fX6_player
  rw [h2, if_neg (by decide), r10, r9, nI_add, im_4 (by omega)]
  by_cases hn : n < 4 * T
  · rw [if_pos hn, if_neg]
    · rfl
    · intro z
      rw [z] at hall
      have : cnt 0 = 0 := cn_all0 24 (fun c _ => bt_0 c)
      omega
  · rw [if_neg hn, if_pos]
    refine cnt_0 (fun c hc => ?_) (by omega)
    unfold fX6_all
    rw [bt_or, bt_or, bt_or, r3 0 (by omega), r3 1 (by omega), r3 2 (by omega), r3 3 (by omega), w.2.2.2.1 0 (by omega) c hc, w.2.2.2.1 1 (by omega) c hc, w.2.2.2.1 2 (by omega) c hc, w.2.2.2.1 3 (by omega) c hc]; rfl
theorem rvalue_ok {N : Mem} {τ T n c : Nat} {h : Nat → Int32} {pl ld : Nat → Nat} (r : NRep N τ n h pl ld) (w : WF τ T n h pl ld) (h2 : N 0 2 = 1) (hn : n < 4 * T) (hc : c < 24) (hbc : bt (h (mv n ld)) c = true) :
    ∃ N', fX6_valueOf (nI c) N = some (nI (ww τ T n h pl ld c), N') ∧ Same N N' := by
  have hpl := player_ok r w h2
  rw [if_pos hn] at hpl
  obtain ⟨r0, r3, r4, r9, r10⟩ := r
  have hT := w.2.1
  have hn4 := w.2.2.1
  have hc4 : ∀ p, p < 4 → cnt (h p) ≤ 4 := fun p hp => by
    have hL := w.2.2.2.2.2.1 _ (Nat.le_refl _)
    have := w.2.2.2.2.2.2.2.1 ((p + 4 - ld (n / 4)) % 4) (Nat.mod_lt _ (by decide))
    rw [show (ld (n / 4) + (p + 4 - ld (n / 4)) % 4) % 4 = p by omega] at this
    omega
  obtain ⟨x, N1, lst, e1, hl, h6, hH, hcx, f1⟩ := layList_ok (M := N) (fun p hp => by rw [r3 p hp]; exact w.2.2.2.1 p hp) (fun p hp => by rw [r3 p hp]; exact hc4 p hp)
  have hall : cnt (fX6_all N1) = 4 * T - n := all_cnt w (fun p hp => by rw [f1 3 (by decide)]; exact r3 p hp)
  have hf0 : N1 0 = N 0 := f1 0 (by decide)
  have hq : (nI (4 * T - n) + nI (n % 4) : Int32) / 4 = nI (T - n / 4) := by
    rw [nI_add, dv_4 (by omega)]; congr 1; omega
  have hm := mv_lt n ld
  obtain ⟨i0, hi0, hb0, hlc⟩ := HM_iff.mp (show HM lst x (mv n ld) c = true by rw [hH _ hm c hc, r3 _ hm]; exact hbc)
  have e29 := L29_loop hm hi0 hl h6 hb0 hlc (nI (T - n / 4)) 40 4 0 (by omega) (by omega)
  rw [if_neg (by omega)] at e29
  generalize hx' : x &&& (sl 1 (nI (4 * mv n ld + i0)) ^^^ (-1)) = x' at e29
  have hsub : subM x' x := by rw [← hx']; exact subM.rem (fun _ hc => hc) (by omega)
  have hHr : ∀ p, p < 4 → ∀ d, d < 24 → HM lst x' p d = Hs (hP h (mv n ld) c) p d := fun p hp d hd => by
    rw [← hx', HM_rem hl (fun _ hc => hc) hm hi0 hb0 hp, hlc]
    unfold remH Hs
    rw [bt_hP hc (by omega)]
    by_cases z : p = mv n ld ∧ d = c
    · rw [if_pos z, decide_eq_true z]; simp
    · rw [if_neg z, decide_eq_false z, hH p hp d hd, r3 p hp]; simp
  have hL := w.2.2.2.2.2.1 _ (Nat.le_refl (n / 4))
  obtain ⟨N3, e3, b3, tb3⟩ := layTable_ok (M := N1) (τ := τ) (lst := lst) (F0 := x') (U := T - n / 4 - 1) w.1 (LK.sub hl hsub) (by omega) (by rw [hf0]; exact r0) (fun j hj => h6 j (hsub j hj))
  have hl' : LK lst x' := LK.sub hl hsub
  have h30 : ∀ j, j ≠ 15 → N3 0 j = N 0 j := fun j hj => by
    rw [b3 0 (by decide) (by decide), mset_at, if_neg (fun z => hj z.2), hf0]
  have h3i : ∀ i, i ≠ 0 → i ≠ 7 → i ≠ 8 → N3 i = N1 i := fun i i0 i7 i8 => by
    rw [b3 i i7 i8]; funext b; rw [mset_at, if_neg (fun z => i0 z.1)]
  have hkq : n % 4 < 4 := Nat.mod_lt _ (by decide)
  obtain ⟨N4, e4, f4, g4⟩ := copy98_loop (B := N3) (k := n % 4) hkq (by rw [h30 9 (by decide)]; exact r9) (nI c) (nI (mv n ld)) x' (nI (T - n / 4)) 40 (n % 4) 0 N3 (by omega) (by omega) (fun _ _ => rfl) (fun a ha => by omega)
  have hCX : CX τ lst x' (N3 7) (n % 4 + 1) (mset (mset N4 8 (n % 4) (nI c)) 0 15 (nI (n % 4 + 1))) := by
    refine ⟨?_, fun j hj => ?_, ?_, ?_⟩
    · simp only [mset_at]; rw [if_neg (fun z => by omega), if_neg (fun z => by omega), f4 0 (by decide), h30 0 (by decide)]; exact r0
    · simp only [mset_at]; rw [if_neg (fun z => by omega), if_neg (fun z => by omega), f4 6 (by decide), h3i 6 (by decide) (by decide) (by decide)]; exact h6 j (hsub j hj)
    · funext b; simp only [mset_at]; rw [if_neg (fun z => by omega), if_neg (fun z => by omega), f4 7 (by decide)]
    · rw [mset_at, if_pos ⟨rfl, rfl⟩]
  have h8 : ∀ i, i < n % 4 + 1 → (mset (mset N4 8 (n % 4) (nI c)) 0 15 (nI (n % 4 + 1))) 8 i = nI (updN (ts n pl) (n % 4) c i) ∧ updN (ts n pl) (n % 4) c i < 24 := by
    intro i hi
    simp only [mset_at]
    rw [if_neg (fun z => by omega)]
    by_cases e : i = n % 4
    · subst e; rw [if_pos ⟨by trivial, by trivial⟩, updN_s]; exact ⟨rfl, hc⟩
    · rw [if_neg (fun z => e z.2), updN_n _ _ e, g4 i (by omega), h3i 4 (by decide) (by decide) (by decide), f1 4 (by decide)]
      exact ⟨r4 i (by omega), w.2.2.2.2.1 _ (by omega)⟩
  have hcnt : Cnt x' (ld (n / 4)) (n % 4 + 1) (T - n / 4) := by
    intro i hi
    have hp : (ld (n / 4) + i) % 4 < 4 := Nat.mod_lt _ (by decide)
    have h1 := w.2.2.2.2.2.2.2.1 i hi
    have h2 := c4_rem (x := x) hm hi0 hb0 hp
    rw [hx', hcx _ hp, r3 _ hp] at h2
    have hmv : mv n ld = (ld (n / 4) + n % 4) % 4 := rfl
    by_cases e : i = n % 4
    · rw [if_pos (by rw [hmv, e])] at h2
      rw [if_neg (by omega)] at h1
      rw [if_pos (by omega)]; omega
    · rw [if_neg (by rw [hmv]; omega)] at h2
      by_cases z : i < n % 4
      · rw [if_pos z] at h1; rw [if_pos (by omega)]; omega
      · rw [if_neg z] at h1; rw [if_neg (by omega)]; omega
  have hfirst : ∃ N5, fX6_first (nI (ld (n / 4))) x' (mset (mset N4 8 (n % 4) (nI c)) 0 15 (nI (n % 4 + 1))) = some (nI (vl τ T n h pl ld c), N5) ∧ ∀ i, i ≠ 8 → N5 i = (mset (mset N4 8 (n % 4) (nI c)) 0 15 (nI (n % 4 + 1))) i := by
    by_cases h3 : n % 4 = 3
    · rw [h3] at hCX h8 hcnt ⊢
      have e5 := first_4 (τ := τ) (lst := lst) (F0 := x') (E7 := N3 7) (j := T - n / 4) (L := ld (n / 4)) w.1 hl' (by omega) (by omega) hL (tb3 _ (Nat.le_refl _)) (x := x') (M := mset (mset N4 8 3 (nI c)) 0 15 (nI (3 + 1))) (t := updN (ts n pl) 3 c) (fun _ hc => hc) hCX h8 hcnt
      refine ⟨_, ?_, fun _ _ => rfl⟩
      rw [e5]
      congr 3
      unfold vl gn VG
      have hw : wnr τ n pl ld c = (ld (n / 4) + plc τ (updN (ts n pl) 3 c)) % 4 := rfl
      rw [← hw]
      have h10 : (n + 1) % 4 = 0 := by omega
      have hld : ldP τ n pl ld c ((n + 1) / 4) = wnr τ n pl ld c := by unfold ldP; rw [if_pos h3, show (n + 1) / 4 = n / 4 + 1 by omega, updN_s]
      rw [h10, hld, show 4 * (T - n / 4) - 4 = 4 * T - (n + 1) by omega, V_congr τ _ (HM lst x') (Hs (hP h (mv n ld) c)) 0 _ (ts (n + 1) (updN pl n c)) _ (by omega) hHr (fun i hi => by omega)]
      by_cases h2 : wnr τ n pl ld c % 2 = 0
      · rw [if_pos h2, if_pos ⟨h3, h2⟩]
      · rw [if_neg h2, if_neg (fun z => h2 z.2)]
    · obtain ⟨N5, e5, f5⟩ := first_q (τ := τ) (lst := lst) (F0 := x') (E7 := N3 7) (q := n % 4 + 1) (j := T - n / 4) (L := ld (n / 4)) w.1 hl' (by omega) (by omega) hL (tb3 _ (Nat.le_refl _)) (by omega) (x := x') (M := mset (mset N4 8 (n % 4) (nI c)) 0 15 (nI (n % 4 + 1))) (t := updN (ts n pl) (n % 4) c) (fun _ hc => hc) hCX h8 hcnt
      refine ⟨N5, ?_, f5⟩
      rw [e5]
      congr 3
      unfold vl gn VG
      have hld : ldP τ n pl ld c ((n + 1) / 4) = ld (n / 4) := by unfold ldP; rw [if_neg h3, show (n + 1) / 4 = n / 4 by omega]
      rw [if_neg (fun z => h3 z.1), Nat.zero_add, hld, show (n + 1) % 4 = n % 4 + 1 by omega, show 4 * (T - n / 4) - (n % 4 + 1) = 4 * T - (n + 1) by omega]
      refine V_congr τ _ _ _ _ _ _ _ (by omega) hHr (fun i hi => ?_)
      unfold ts
      by_cases e : i = n % 4
      · subst e; rw [updN_s, show n + 1 - (n + 1) % 4 + n % 4 = n by omega, updN_s]
      · rw [updN_n _ _ e, updN_n _ _ (by omega)]; congr 1; omega
  obtain ⟨N5, e5, f5⟩ := hfirst
  refine ⟨N5, ?_, fun i i0 i6 i7 i8 => ?_, fun j hj => ?_⟩
  · unfold fX6_valueOf
    rw [e1]
    simp only [obind]
    rw [size_ok, hall]
    dsimp only
    rw [hf0, r9, hq, hpl]
    have e29' : fX6_valueOf_L29 40 (nI c) (nI (mv n ld)) x (nI (T - n / 4)) 0 N1 = some x' := e29
    rw [e29']
    dsimp only
    rw [show (nI (T - n / 4) - 1 : Int32) = nI (T - n / 4 - 1) from pk_sub (b := 1) (by omega), e3]
    dsimp only
    have e4' : fX6_valueOf_L98 40 (nI c) (nI (mv n ld)) x' (nI (T - n / 4)) 0 N3 = some N4 := e4
    rw [e4']
    dsimp only
    rw [f4 0 (by decide), h30 9 (by decide), h30 10 (by decide), r9, r10, if_pos (vin_N hkq (by omega)), cl_N (by omega), show (nI (n % 4) + 1 : Int32) = nI (n % 4 + 1) from nI_add _ 1, e5]
    dsimp only
    rw [im_2 (by omega)]
    unfold ww
    by_cases h2 : mv n ld % 2 = 0
    · rw [if_pos h2, h2, if_pos (show nI 0 = 0 from rfl)]
    · rw [if_neg h2, if_neg (by rw [show (0 : Int32) = nI 0 from rfl, eq_N (by omega) (by omega)]; exact h2), pk_sub]
      have hV := VG_le (τ := τ) (h := hP h (mv n ld) c) (pl := updN pl n c) (ld := ldP τ n pl ld c) (n := n + 1) (T := T) (by omega)
      unfold vl gn
      by_cases z : n % 4 = 3
      · split <;> omega
      · rw [if_neg (fun y => z y.1)]; omega
  · rw [f5 i i8, ← f1 i i6, ← h3i i i0 i7 i8, ← f4 i i8]; funext b; simp only [mset_at]; rw [if_neg (fun z => i0 z.1), if_neg (fun z => i8 z.1)]
  · rw [f5 0 (by decide)]; simp only [mset_at]; rw [if_neg (fun z => hj z.2), if_neg (fun z => by omega), f4 0 (by decide)]; exact h30 j hj
