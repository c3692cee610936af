/-! the class while dealing -/
theorem cnt_add {x : Int32} {c : Nat} (hc : c < 24) (hb : bt x c = false) : cnt (x ||| sl 1 (nI c)) = cnt x + 1 := by
  have h1 : bt (x ||| sl 1 (nI c)) c = true := by rw [bt_addc hc]; simp
  have h2 := cnt_rem hc h1
  have h3 : (x ||| sl 1 (nI c)) &&& (sl 1 (nI c) ^^^ (-1)) = x := by
    apply bt_ext; intro d hd
    rw [bt_rem hc hd, bt_addc hc]
    by_cases hdc : d = c
    · rw [hdc, hb]; simp
    · simp [hdc]
  rw [h3] at h2
  exact h2.symm
theorem np_ok {p : Nat} (hp : p < 4) (M : Mem) : fX5_needPlayer (nI p) M = (0, 0, M) := by
  unfold fX5_needPlayer
  rw [if_neg (nn_N (by omega)), if_pos (show nI p < 4 from nI_lt (b := 4) hp (by omega))]
theorem nc_ok {c : Nat} (hc : c < 24) (M : Mem) : fX5_needCard (nI c) M = (0, 0, M) := by
  unfold fX5_needCard
  rw [if_neg (nn_N (by omega)), if_pos (show nI c < 24 from nI_lt (b := 24) hc (by omega))]
def CD (M : Mem) (d : Nat → Int32) : Prop := M 0 5 = 0 ∧ (∀ p, p < 4 → c24 (d p)) ∧ (∀ p, p < 4 → cnt (d p) ≤ 4) ∧ (∀ p q, p < 4 → q < 4 → p ≠ q → ∀ c, bt (d p) c = true → bt (d q) c = false) ∧ (∀ c, bt (M 0 4) c = true ↔ ∃ p, p < 4 ∧ bt (d p) c = true) ∧ M 0 7 = 0 ∧ (∀ p, p < 4 → M 1 p = d p)
def CG (M : Mem) (τ T : Nat) (d : Nat → Int32) (l n : Nat) (pl : Nat → Nat) : Prop := GameOK τ T d l n pl ∧ Rep M τ T n (run τ d l pl n).1 pl (ldr τ l pl) ∧ KOK τ T d (M 5)
theorem cnt0z : cnt 0 = 0 := cn_all0 24 (fun c _ => bt_0 c)
theorem c_begin {τ : Nat} (hτ : τ ≤ 4) (M : Mem) : ∃ M', fX5_begin (tv τ) M = (0, M 0 3, M') ∧ CD M' (fun _ => 0) ∧ M' 0 3 = tv τ := by
  have h1 : ¬ tv τ < -1 := by
    unfold tv
    by_cases h : τ < 4
    · rw [if_pos h, Int32.lt_iff_toInt_lt, nI_toInt (by omega), show (-1 : Int32).toInt = -1 by decide]; omega
    · rw [if_neg h]; decide
  have h2 : tv τ < 4 := by
    unfold tv
    by_cases h : τ < 4
    · rw [if_pos h]; exact nI_lt (b := 4) h (by omega)
    · rw [if_neg h]; decide
  unfold fX5_begin
  rw [if_neg h1, if_pos h2]
  unfold fX1_clearFor
  refine ⟨_, rfl, ⟨?_, fun p hp => c24_0, fun p hp => ?_, fun p q _ _ _ c hb => ?_, fun c => ?_, ?_, fun p hp => ?_⟩, ?_⟩
  · simp only [mset_at]; simp
  · show cnt 0 ≤ 4
    rw [cnt0z]; omega
  · rw [bt_0] at hb; cases hb
  · simp only [mset_at]
    simp [bt_0]
  · simp only [mset_at]; simp
  · simp only [mset_at]
    obtain rfl | rfl | rfl | rfl : p = 0 ∨ p = 1 ∨ p = 2 ∨ p = 3 := by omega
    all_goals simp
  · simp only [mset_at]; simp
theorem CD.hand {M : Mem} {d : Nat → Int32} (h : CD M d) {p : Nat} (hp : p < 4) : fX1_handOf (nI p) M = d p := by
  unfold fX1_handOf
  rw [if_neg (nn_N (by omega)), if_neg (show ¬ (4 : Int32) ≤ nI p from nI_ge (b := 4) (by omega) (by omega)), cl_N (by omega)]
  exact h.2.2.2.2.2.2 p hp
theorem CD.can {M : Mem} {d : Nat → Int32} (h : CD M d) {p c : Nat} (hp : p < 4) (hc : c < 24) : fX1_canDeal (nI p) (nI c) M = if bt (M 0 4) c = true then 0 else if 4 ≤ cnt (d p) then 0 else 1 := by
  have h4 := h.2.2.1 p hp
  have h4e : ((4 : Int32) ≤ nI (cnt (d p))) = (4 ≤ cnt (d p)) := le_N (a := 4) (by omega) (by omega)
  unfold fX1_canDeal
  rw [h.1, if_pos (show (0 : Int32) = 0 from rfl), fX0_holds_eq _ hc, h.hand hp, bitCount_ok (h.2.1 p hp)]
  simp only [h4e]
  cases bt (M 0 4) c <;> rfl
theorem c_give0 {M : Mem} {d : Nat → Int32} (h : CD M d) {p c : Nat} (hp : p < 4) (hc : c < 24) (hno : (∃ q, q < 4 ∧ bt (d q) c = true) ∨ 4 ≤ cnt (d p)) : fX5_give (nI p) (nI c) M = (2, 0, M) := by
  unfold fX5_give
  rw [np_ok hp, if_pos (show (0 : Nat) = 0 from rfl)]
  dsimp only
  rw [nc_ok hc, if_pos (show (0 : Nat) = 0 from rfl)]
  dsimp only
  have h0 : fX1_canDeal (nI p) (nI c) M = 0 := by
    rw [h.can hp hc]
    rcases hno with z | z
    · rw [if_pos ((h.2.2.2.2.1 c).mpr z)]
    · by_cases hb : bt (M 0 4) c = true
      · rw [if_pos hb]
      · rw [if_neg hb, if_pos z]
  rw [h0, if_pos rfl]
def dG (d : Nat → Int32) (p c : Nat) : Nat → Int32 := fun q => if q = p then d p ||| sl 1 (nI c) else d q
theorem bt_dG {d : Nat → Int32} {p c q e : Nat} (hc : c < 24) : bt (dG d p c q) e = true ↔ bt (d q) e = true ∨ (q = p ∧ e = c) := by
  unfold dG
  by_cases hqp : q = p
  · rw [if_pos hqp, hqp, bt_addc hc, Bool.or_eq_true, decide_eq_true_eq]
    exact ⟨fun z => z.elim Or.inl (fun y => Or.inr ⟨rfl, y⟩), fun z => z.elim Or.inl (fun y => Or.inr y.2)⟩
  · rw [if_neg hqp]
    exact ⟨Or.inl, fun z => z.elim id (fun y => absurd y.1 hqp)⟩
theorem dG_disj {d : Nat → Int32} {p c : Nat} (hc : c < 24) (hd : ∀ p q, p < 4 → q < 4 → p ≠ q → ∀ c, bt (d p) c = true → bt (d q) c = false) (hno : ∀ q, q < 4 → bt (d q) c = false) : ∀ q s, q < 4 → s < 4 → q ≠ s → ∀ e, bt (dG d p c q) e = true → bt (dG d p c s) e = false := by
  intro q s hq hs hqs e he
  cases hz : bt (dG d p c s) e with
  | false => rfl
  | true =>
    rcases (bt_dG hc).mp he with y | ⟨y1, y2⟩
    · rcases (bt_dG hc).mp hz with w | ⟨w1, w2⟩
      · have := hd q s hq hs hqs e y
        rw [w] at this; cases this
      · rw [w2, hno q hq] at y; cases y
    · rcases (bt_dG hc).mp hz with w | ⟨w1, w2⟩
      · rw [y2, hno s hs] at w; cases w
      · exact absurd (y1.trans w1.symm) hqs
theorem c_give1 {M : Mem} {d : Nat → Int32} (h : CD M d) {p c : Nat} (hp : p < 4) (hc : c < 24) (hno : ∀ q, q < 4 → bt (d q) c = false) (h4 : cnt (d p) < 4) : ∃ M', fX5_give (nI p) (nI c) M = (0, nI (cnt (d p) + 1), M') ∧ CD M' (dG d p c) ∧ M' 0 3 = M 0 3 := by
  have hcan := h.can hp hc
  obtain ⟨a1, a3, a4, a5, a6, a7, a8⟩ := id h
  have hb0 : ¬ bt (M 0 4) c = true := fun z => by
    obtain ⟨q, q1, q2⟩ := (a6 c).mp z
    rw [hno q q1] at q2; cases q2
  rw [if_neg hb0, if_neg (by omega)] at hcan
  unfold fX5_give
  rw [np_ok hp, if_pos (show (0 : Nat) = 0 from rfl)]
  dsimp only
  rw [nc_ok hc, if_pos (show (0 : Nat) = 0 from rfl)]
  dsimp only
  rw [hcan, if_neg (by decide)]
  have hM' : fX1_addTo (nI p) (nI c) (mset M 0 4 (M 0 4 ||| sl 1 (nI c))) = mset (mset M 0 4 (M 0 4 ||| sl 1 (nI c))) 1 p (d p ||| sl 1 (nI c)) := by
    unfold fX1_addTo
    rw [if_neg (nn_N (by omega)), if_neg (show ¬ (4 : Int32) ≤ nI p from nI_ge (b := 4) (by omega) (by omega)), cl_N (by omega)]
    congr 2
    rw [mset_n _ _ _ (by decide)]; exact a8 p hp
  unfold fX1_deal
  rw [hM']
  generalize hM2 : mset (mset M 0 4 (M 0 4 ||| sl 1 (nI c))) 1 p (d p ||| sl 1 (nI c)) = M2
  have gM1 : ∀ q, q < 4 → M2 1 q = dG d p c q := fun q hq => by
    rw [← hM2, mset_s, mset_n _ _ _ (by decide)]
    unfold dG
    by_cases hqp : q = p
    · rw [hqp, upd_s, if_pos rfl]
    · rw [upd_n _ _ hqp, if_neg hqp, a8 q hq]
  have gMj : ∀ j, j ≠ 4 → M2 0 j = M 0 j := fun j hj => by rw [← hM2, mset_n _ _ _ (by decide), mset_at, if_neg (fun z => hj z.2)]
  have gM4 : M2 0 4 = M 0 4 ||| sl 1 (nI c) := by rw [← hM2, mset_n _ _ _ (by decide), mset_at, if_pos ⟨rfl, rfl⟩]
  have hc24 : ∀ q, q < 4 → c24 (dG d p c q) := fun q hq => by
    unfold dG
    by_cases hqp : q = p
    · rw [if_pos hqp]; exact c24_or (a3 p hp) (c24_one hc)
    · rw [if_neg hqp]; exact a3 q hq
  have hdp : dG d p c p = d p ||| sl 1 (nI c) := if_pos rfl
  refine ⟨M2, ?_, ⟨by rw [gMj 5 (by decide)]; exact a1, hc24, fun q hq => ?_, dG_disj hc a5 hno, fun e => ?_, by rw [gMj 7 (by decide)]; exact a7, gM1⟩, gMj 3 (by decide)⟩
  · have hres : fX1_handOf (nI p) M2 = dG d p c p := by
      unfold fX1_handOf
      rw [if_neg (nn_N (by omega)), if_neg (show ¬ (4 : Int32) ≤ nI p from nI_ge (b := 4) (by omega) (by omega)), cl_N (by omega)]
      exact gM1 p hp
    show (0, fJ6_bitCount_0f7a4 (fX1_handOf (nI p) M2), M2) = _
    rw [hres, bitCount_ok (hc24 p hp), hdp, cnt_add hc (hno p hp)]
  · by_cases hqp : q = p
    · rw [hqp, hdp, cnt_add hc (hno p hp)]; omega
    · unfold dG; rw [if_neg hqp]; exact a4 q hq
  · rw [gM4, bt_addc hc, Bool.or_eq_true, decide_eq_true_eq, a6 e]
    constructor
    · rintro (⟨q, q1, q2⟩ | y)
      · exact ⟨q, q1, (bt_dG hc).mpr (Or.inl q2)⟩
      · exact ⟨p, hp, (bt_dG hc).mpr (Or.inr ⟨rfl, y⟩)⟩
    · rintro ⟨q, q1, q2⟩
      rcases (bt_dG hc).mp q2 with y | ⟨-, y⟩
      · exact Or.inl ⟨q, q1, y⟩
      · exact Or.inr y
theorem CD.canOpen {M : Mem} {d : Nat → Int32} (h : CD M d) : fX1_canOpen M = if cnt (d 0) = 0 then 0 else if cnt (d 1) = cnt (d 0) then if cnt (d 2) = cnt (d 0) then if cnt (d 3) = cnt (d 0) then 1 else 0 else 0 else 0 := by
  obtain ⟨a1, a3, a4, a5, a6, a7, a8⟩ := id h
  have b0 := a4 0 (by omega)
  have b1 := a4 1 (by omega)
  have b2 := a4 2 (by omega)
  have b3 := a4 3 (by omega)
  have z0 : (nI (cnt (d 0)) = 0) = (cnt (d 0) = 0) := eq_N (b := 0) (by omega) (by omega)
  have z1 : (nI (cnt (d 1)) = nI (cnt (d 0))) = (cnt (d 1) = cnt (d 0)) := eq_N (by omega) (by omega)
  have z2 : (nI (cnt (d 2)) = nI (cnt (d 0))) = (cnt (d 2) = cnt (d 0)) := eq_N (by omega) (by omega)
  have z3 : (nI (cnt (d 3)) = nI (cnt (d 0))) = (cnt (d 3) = cnt (d 0)) := eq_N (by omega) (by omega)
  unfold fX1_canOpen
  rw [a1, if_pos (show (0 : Int32) = 0 from rfl), show fX1_handOf 0 M = d 0 from h.hand (p := 0) (by omega), show fX1_handOf 1 M = d 1 from h.hand (p := 1) (by omega), show fX1_handOf 2 M = d 2 from h.hand (p := 2) (by omega), show fX1_handOf 3 M = d 3 from h.hand (p := 3) (by omega), bitCount_ok (a3 0 (by omega)), bitCount_ok (a3 1 (by omega)), bitCount_ok (a3 2 (by omega)), bitCount_ok (a3 3 (by omega))]
  simp only [z0, z1, z2, z3]
theorem c_start0 {M : Mem} {d : Nat → Int32} (h : CD M d) {l : Nat} (hl : l < 4) (hno : ¬ (0 < cnt (d 0) ∧ cnt (d 1) = cnt (d 0) ∧ cnt (d 2) = cnt (d 0) ∧ cnt (d 3) = cnt (d 0))) : fX5_start (nI l) M = some (2, 0, M) := by
  unfold fX5_start
  rw [np_ok hl, if_pos (show (0 : Nat) = 0 from rfl)]
  dsimp only
  have h0 : fX1_canOpen M = 0 := by
    rw [h.canOpen]
    by_cases e0 : cnt (d 0) = 0
    · rw [if_pos e0]
    · rw [if_neg e0]
      by_cases e1 : cnt (d 1) = cnt (d 0)
      · rw [if_pos e1]
        by_cases e2 : cnt (d 2) = cnt (d 0)
        · rw [if_pos e2]
          by_cases e3 : cnt (d 3) = cnt (d 0)
          · exact absurd ⟨by omega, e1, e2, e3⟩ hno
          · rw [if_neg e3]
        · rw [if_neg e2]
      · rw [if_neg e1]
  rw [h0, if_pos rfl]
theorem c_start1 {M : Mem} {d : Nat → Int32} (h : CD M d) {τ l T : Nat} {pl : Nat → Nat} (hτ : τ ≤ 4) (h3 : M 0 3 = tv τ) (hl : l < 4) (hT : 1 ≤ T) (hc : ∀ p, p < 4 → cnt (d p) = T) : ∃ M', fX5_start (nI l) M = some (0, nI T, M') ∧ CG M' τ T d l 0 pl := by
  obtain ⟨a1, a3, a4, a5, a6, a7, a8⟩ := id h
  have hT4 := a4 0 (by omega)
  rw [hc 0 (by omega)] at hT4
  unfold fX5_start
  rw [np_ok hl, if_pos (show (0 : Nat) = 0 from rfl)]
  dsimp only
  rw [h.canOpen, hc 0 (by omega), hc 1 (by omega), hc 2 (by omega), hc 3 (by omega), if_neg (show ¬ T = 0 by omega), if_pos rfl, if_pos rfl, if_pos rfl, if_neg (show ¬ (1 : Int32) = 0 by decide)]
  obtain ⟨M', ef, f5, fi⟩ := forget_ok M
  rw [ef, ob_s]
  have hM'1 : fX1_handOf 0 (mset M' 0 5 1) = d 0 := by
    unfold fX1_handOf
    rw [if_neg (by decide), if_neg (by decide), mset_n _ _ _ (by decide), fi 1 (by decide)]
    exact a8 0 (by omega)
  unfold fX1_open
  rw [hM'1, bitCount_ok (a3 0 (by omega)), hc 0 (by omega)]
  generalize hM2 : mset (mset (mset M' 0 5 1) 0 6 (nI T)) 3 0 (nI l) = M2
  have gi : ∀ i, i ≠ 0 → i ≠ 3 → M2 i = M' i := fun i h0 h3 => by rw [← hM2, mset_n _ _ _ h3, mset_n _ _ _ h0, mset_n _ _ _ h0]
  have gj : ∀ j, j ≠ 5 → j ≠ 6 → M2 0 j = M 0 j := fun j h5 h6 => by rw [← hM2]; simp only [mset_at]; simp [h5, h6, fi 0 (by decide)]
  have g5 : M2 0 5 = 1 := by rw [← hM2]; simp only [mset_at]; simp
  have g6 : M2 0 6 = nI T := by rw [← hM2]; simp only [mset_at]; simp
  have g3 : M2 3 0 = nI l := by rw [← hM2]; simp only [mset_at]; simp
  refine ⟨M2, rfl, ⟨hτ, hT, hT4, by omega, hl, a3, hc, a5, fun k hk => by omega⟩, ⟨by rw [gj 3 (by decide) (by decide)]; exact h3, g5, g6, by rw [gj 7 (by decide) (by decide)]; exact a7, fun p hp => ?_, fun k hk => by omega, fun j hj => ?_⟩, KOK_0 (fun s hs => ?_)⟩
  · rw [gi 1 (by decide) (by decide), fi 1 (by decide)]; exact a8 p hp
  · rw [show j = 0 by omega]; exact g3
  · rw [gi 5 (by decide) (by decide)]; exact f5 s hs
theorem CD.mover {M : Mem} {d : Nat → Int32} (h : CD M d) : fX1_mover M = -1 := by
  unfold fX1_mover; rw [if_pos h.1]
theorem CD.size {M : Mem} {d : Nat → Int32} (h : CD M d) : fX1_trickSize M = 0 := by
  unfold fX1_trickSize; rw [h.2.2.2.2.2.1]; decide
theorem CD.playable {M : Mem} {d : Nat → Int32} (h : CD M d) : fX1_playable M = 0 := by
  unfold fX1_playable fX1_handOf
  rw [h.mover, h.size, if_pos rfl, if_pos (by decide)]
theorem CD.lk {M : Mem} {d : Nat → Int32} (h : CD M d) : Lk M 0 d (fun _ => 0) := by
  obtain ⟨a1, a3, a4, a5, a6, a7, a8⟩ := h
  exact ⟨by omega, fun k hk => by omega, a3, a4, a5, fun i h1 h2 => by omega, a8, a7, fun k hk => by omega⟩
