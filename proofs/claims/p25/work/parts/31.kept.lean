/-! what the search keeps -/
theorem tbv (x : Int32) (i : Nat) : bt x i = x.toBitVec.toNat.testBit i := by simp [bt, BitVec.getLsbD]
theorem bt_sl6 (x : Int32) (c : Nat) : bt (sl x 6) c = (decide (c < 32) && !decide (c < 6) && bt x (c - 6)) := by
  have : (sl x 6).toBitVec = x.toBitVec <<< 6 := by rfl
  unfold bt; rw [this, BitVec.getLsbD_shiftLeft]
theorem bt_sl3 (x : Int32) (c : Nat) : bt (sl x 3) c = (decide (c < 32) && !decide (c < 3) && bt x (c - 3)) := by
  have : (sl x 3).toBitVec = x.toBitVec <<< 3 := by rfl
  unfold bt; rw [this, BitVec.getLsbD_shiftLeft]
theorem bt_su6 (x : Int32) (c : Nat) : bt (su x 6) c = bt x (6 + c) := by
  have : (su x 6).toBitVec = x.toBitVec >>> 6 := by rfl
  unfold bt; rw [this, BitVec.getLsbD_ushiftRight]
theorem bt_su3 (x : Int32) (c : Nat) : bt (su x 3) c = bt x (3 + c) := by
  have : (su x 3).toBitVec = x.toBitVec >>> 3 := by rfl
  unfold bt; rw [this, BitVec.getLsbD_ushiftRight]
theorem bt_small {a : Nat} (ha : a < 8) {c : Nat} (hc : 3 ≤ c) : bt (nI a) c = false := by
  rcases Nat.lt_or_ge c 32 with q | q
  · have : ∀ a : Fin 8, ∀ c : Fin 32, 3 ≤ c.val → bt (nI a.val) c.val = false := by decide +kernel
    exact this ⟨a, ha⟩ ⟨c, q⟩ hc
  · exact bt_ge _ q
theorem bt_7 (c : Nat) : bt 7 c = decide (c < 3) := bt_pow (c := 3) (by omega) c
/-- the name of a position between two tricks -/
def keyOf (x : Int32) (L : Nat) : Int32 := x ||| sl (nI L) 24
theorem bt_L24 {L : Nat} (hL : L < 4) {c : Nat} (hc : c < 24 ∨ 26 ≤ c) : bt (sl (nI L) 24) c = false := by
  rcases Nat.lt_or_ge c 32 with q | q
  · have : ∀ L : Fin 4, ∀ c : Fin 32, (c.val < 24 ∨ 26 ≤ c.val) → bt (sl (nI L.val) 24) c.val = false := by decide +kernel
    exact this ⟨L, hL⟩ ⟨c, q⟩ hc
  · exact bt_ge _ q
theorem L24_inj {L K : Nat} (hL : L < 4) (hK : K < 4) (h1 : bt (sl (nI L) 24) 24 = bt (sl (nI K) 24) 24) (h2 : bt (sl (nI L) 24) 25 = bt (sl (nI K) 24) 25) : L = K := by
  have : ∀ L : Fin 4, ∀ K : Fin 4, bt (sl (nI L.val) 24) 24 = bt (sl (nI K.val) 24) 24 → bt (sl (nI L.val) 24) 25 = bt (sl (nI K.val) 24) 25 → L.val = K.val := by decide +kernel
  exact this ⟨L, hL⟩ ⟨K, hK⟩ h1 h2
theorem key_inj {x y : Int32} {L K : Nat} (hx : c24 x) (hy : c24 y) (hL : L < 4) (hK : K < 4) (h : keyOf x L = keyOf y K) : x = y ∧ L = K := by
  have hb : ∀ c, (bt x c || bt (sl (nI L) 24) c) = (bt y c || bt (sl (nI K) 24) c) := fun c => by
    rw [← bt_or, ← bt_or]; exact congrArg (fun z => bt z c) h
  refine ⟨bt_ext24 hx hy (fun c hc => ?_), L24_inj hL hK ?_ ?_⟩
  · have := hb c
    rw [bt_L24 hL (Or.inl hc), bt_L24 hK (Or.inl hc)] at this
    simpa using this
  · have := hb 24
    rw [hx 24 (by omega), hy 24 (by omega)] at this
    simpa using this
  · have := hb 25
    rw [hx 25 (by omega), hy 25 (by omega)] at this
    simpa using this
theorem key_hi {x : Int32} {L : Nat} (hx : c24 x) (hL : L < 4) {c : Nat} (hc : 26 ≤ c) : bt (keyOf x L) c = false := by
  unfold keyOf
  rw [bt_or, hx c (by omega), bt_L24 hL (Or.inr hc)]; rfl
theorem key_ne0 {x : Int32} {L : Nat} (hx : c24 x) (h0 : x ≠ 0) (hL : L < 4) : keyOf x L ≠ 0 := by
  intro h
  obtain ⟨c, hc, hb⟩ := bt_ne0 h0
  have : bt (keyOf x L) c = true := by unfold keyOf; rw [bt_or, hb]; rfl
  rw [h, bt_0] at this; cases this
def entry (p : Int32) (lo hi : Nat) : Int32 := (sl p 6 ||| sl (nI hi) 3) ||| nI lo
theorem bt_entry (p : Int32) (lo hi c : Nat) : bt (entry p lo hi) c = ((decide (c < 32) && !decide (c < 6) && bt p (c - 6)) || (decide (c < 32) && !decide (c < 3) && bt (nI hi) (c - 3)) || bt (nI lo) c) := by
  unfold entry; rw [bt_or, bt_or, bt_sl6, bt_sl3]
theorem entry_key {p : Int32} {lo hi : Nat} (hp : ∀ c, 26 ≤ c → bt p c = false) (hl : lo < 8) (hh : hi < 8) : su (entry p lo hi) 6 = p := by
  apply bt_ext; intro c hc
  rw [bt_su6, bt_entry, bt_small hl (show 3 ≤ 6 + c by omega), bt_small hh (show 3 ≤ 6 + c - 3 by omega), show 6 + c - 6 = c by omega]
  rcases Nat.lt_or_ge c 26 with q | q
  · rw [decide_eq_true (show 6 + c < 32 by omega), decide_eq_false (show ¬ 6 + c < 6 by omega)]; simp
  · rw [hp c q]; simp
theorem entry_lo {p : Int32} {lo hi : Nat} (hl : lo < 8) : entry p lo hi &&& 7 = nI lo := by
  apply bt_ext; intro c hc
  rw [bt_and, bt_7, bt_entry]
  rcases Nat.lt_or_ge c 3 with q | q
  · rw [decide_eq_true q, decide_eq_true (show c < 6 by omega)]; simp
  · rw [decide_eq_false (show ¬ c < 3 by omega), bt_small hl q]; simp
theorem entry_hi {p : Int32} {lo hi : Nat} (hl : lo < 8) (hh : hi < 8) : su (entry p lo hi) 3 &&& 7 = nI hi := by
  apply bt_ext; intro c hc
  rw [bt_and, bt_7, bt_su3, bt_entry]
  rcases Nat.lt_or_ge c 3 with q | q
  · rw [decide_eq_true q, decide_eq_true (show 3 + c < 6 by omega), decide_eq_true (show 3 + c < 32 by omega), decide_eq_false (show ¬ 3 + c < 3 by omega), bt_small hl (show 3 ≤ 3 + c by omega), show 3 + c - 3 = c by omega]; simp
  · rw [decide_eq_false (show ¬ c < 3 by omega), bt_small hh q]; simp
theorem slot_N (p : Int32) : ∃ s, s < 1024 ∧ fX2_slotOf p = nI s := by
  unfold fX2_slotOf
  generalize p * -1640531535 = y
  have hy : y = nI y.toBitVec.toNat := by
    apply Int32.toBitVec_inj.mp
    apply BitVec.eq_of_toNat_eq
    have : (nI y.toBitVec.toNat).toBitVec = BitVec.ofNat 32 y.toBitVec.toNat := rfl
    rw [this, BitVec.toNat_ofNat, Nat.mod_eq_of_lt y.toBitVec.isLt]
  have hlt : y.toBitVec.toNat < 2 ^ 32 := y.toBitVec.isLt
  refine ⟨y.toBitVec.toNat / 2 ^ 22, by omega, ?_⟩
  conv => lhs; rw [hy]
  exact suN _ 22 hlt (by decide)
/-- the hands lie within the deal -/
def Dl (d h : Nat → Int32) : Prop := (∀ p, p < 4 → ∀ c, bt (h p) c = true → bt (d p) c = true) ∧ ∀ p q, p < 4 → q < 4 → p ≠ q → ∀ c, bt (d p) c = true → bt (d q) c = false
/-- a position between two tricks whose cards are x -/
def At (τ T : Nat) (d : Nat → Int32) (n : Nat) (h : Nat → Int32) (pl ld : Nat → Nat) (x : Int32) : Prop := WF τ T n h pl ld ∧ Dl d h ∧ n % 4 = 0 ∧ n < 4 * T ∧ ∀ c, bt x c = true ↔ ∃ p, p < 4 ∧ bt (h p) c = true
theorem At.set24 {τ T n : Nat} {d h : Nat → Int32} {pl ld : Nat → Nat} {x : Int32} (a : At τ T d n h pl ld x) : c24 x := fun c hc => by
  cases hz : bt x c with
  | false => rfl
  | true =>
    obtain ⟨p, hp, q⟩ := (a.2.2.2.2 c).mp hz
    rw [a.1.2.2.2.1 p hp c hc] at q; cases q
theorem At.led {τ T n : Nat} {d h : Nat → Int32} {pl ld : Nat → Nat} {x : Int32} (a : At τ T d n h pl ld x) : ld (n / 4) < 4 := a.1.2.2.2.2.2.1 _ (Nat.le_refl _)
theorem At.ne0 {τ T n : Nat} {d h : Nat → Int32} {pl ld : Nat → Nat} {x : Int32} (a : At τ T d n h pl ld x) : x ≠ 0 := by
  rintro rfl
  have h1 := WF_mover a.1 a.2.2.2.1
  have h2 := a.2.2.2.1
  obtain ⟨c, hc, hb⟩ := cn_pos 24 (show 0 < cnt (h (mv n ld)) by omega)
  have := (a.2.2.2.2 c).mpr ⟨_, mv_lt n ld, hb⟩
  rw [bt_0] at this; cases this
theorem At.hand {τ T n : Nat} {d h : Nat → Int32} {pl ld : Nat → Nat} {x : Int32} (a : At τ T d n h pl ld x) {p : Nat} (hp : p < 4) (c : Nat) : bt (h p) c = (bt (d p) c && bt x c) := by
  obtain ⟨-, ⟨d1, d2⟩, -, -, hx⟩ := a
  cases hz : bt (h p) c with
  | true => rw [d1 p hp c hz, (hx c).mpr ⟨p, hp, hz⟩]; rfl
  | false =>
    cases h1 : bt (d p) c with
    | false => rfl
    | true =>
      cases h2 : bt x c with
      | false => rfl
      | true =>
        obtain ⟨q, hq, hb⟩ := (hx c).mp h2
        by_cases hqp : q = p
        · subst hqp; rw [hz] at hb; cases hb
        · have := d2 p q hp hq (fun z => hqp z.symm) c h1
          rw [d1 q hq c hb] at this; cases this
theorem At.VG_eq {τ T n n' : Nat} {d h h' : Nat → Int32} {x : Int32} {pl pl' ld ld' : Nat → Nat} (a : At τ T d n h pl ld x) (b : At τ T d n' h' pl' ld' x) (hL : ld (n / 4) = ld' (n' / 4)) : VG τ T n h pl ld = VG τ T n' h' pl' ld' ∧ n = n' := by
  have hh : ∀ p, p < 4 → ∀ c, bt (h p) c = bt (h' p) c := fun p hp c => by rw [a.hand hp, b.hand hp]
  have h1 := a.1.2.2.2.2.2.2.2.1 0 (by omega)
  have h2 := b.1.2.2.2.2.2.2.2.1 0 (by omega)
  have e3 := a.2.2.1
  have e4 := b.2.2.1
  have e5 := a.2.2.2.1
  have e6 := b.2.2.2.1
  rw [if_neg (by omega)] at h1 h2
  rw [← hL] at h2
  have hc : cnt (h ((ld (n / 4) + 0) % 4)) = cnt (h' ((ld (n / 4) + 0) % 4)) := cn_congr 24 (fun c _ => hh _ (Nat.mod_lt _ (by decide)) c)
  have hn : n = n' := by omega
  subst hn
  refine ⟨?_, rfl⟩
  unfold VG
  rw [← hL, e3]
  exact V_congr τ _ _ _ 0 _ _ _ (by omega) (fun p hp c _ => hh p hp c) (fun i hi => by omega)
def KOK (τ T : Nat) (d : Nat → Int32) (E : Nat → Int32) : Prop := ∀ s, s < 1024 → ∀ n h pl ld x, At τ T d n h pl ld x → su (E s) 6 = keyOf x (ld (n / 4)) → ∃ lo hi, E s &&& 7 = nI lo ∧ su (E s) 3 &&& 7 = nI hi ∧ lo ≤ VG τ T n h pl ld ∧ VG τ T n h pl ld ≤ hi ∧ hi ≤ T - n / 4
theorem KOK_0 {τ T : Nat} {d E : Nat → Int32} (h : ∀ s, s < 1024 → E s = 0) : KOK τ T d E := by
  intro s hs n hh pl ld x a hk
  rw [h s hs] at hk
  exact absurd hk.symm (key_ne0 a.set24 a.ne0 a.led)
theorem K_look {τ T n : Nat} {d h : Nat → Int32} {pl ld : Nat → Nat} {x : Int32} {M : Mem} (hK : KOK τ T d (M 5)) (a : At τ T d n h pl ld x) {j : Nat} (hj : VG τ T n h pl ld ≤ j) (hj8 : j ≤ T - n / 4) :
    ∃ lo hi, fX2_leastAt (keyOf x (ld (n / 4))) M = nI lo ∧ fX2_mostAt (keyOf x (ld (n / 4))) (nI j) M = nI hi ∧ lo ≤ VG τ T n h pl ld ∧ VG τ T n h pl ld ≤ hi ∧ hi ≤ T - n / 4 := by
  obtain ⟨s, hs, e⟩ := slot_N (keyOf x (ld (n / 4)))
  have hE : fX2_entryOf (keyOf x (ld (n / 4))) M = if su (M 5 s) 6 = keyOf x (ld (n / 4)) then M 5 s else 0 := by
    unfold fX2_entryOf
    rw [e, if_neg (nn_N (by omega)), if_pos (show nI s < 1024 from nI_lt (b := 1024) hs (by omega)), cl_N (by omega)]
  unfold fX2_leastAt fX2_mostAt
  rw [hE]
  by_cases hk : su (M 5 s) 6 = keyOf x (ld (n / 4))
  · rw [if_pos hk]
    have hne : M 5 s ≠ 0 := by
      intro h0
      rw [h0] at hk
      exact absurd hk.symm (key_ne0 a.set24 a.ne0 a.led)
    rw [if_neg hne]
    obtain ⟨lo, hi, g⟩ := hK s hs n h pl ld x a hk
    exact ⟨lo, hi, g⟩
  · rw [if_neg hk, if_pos rfl]
    exact ⟨0, j, by decide, rfl, Nat.zero_le _, hj, hj8⟩
theorem K_put {τ T n : Nat} {d h : Nat → Int32} {pl ld : Nat → Nat} {x : Int32} {M : Mem} (hK : KOK τ T d (M 5)) (a : At τ T d n h pl ld x) {lo hi : Nat} (h1 : lo ≤ VG τ T n h pl ld) (h2 : VG τ T n h pl ld ≤ hi) (h8 : hi ≤ T - n / 4) :
    KOK τ T d ((fX2_put (keyOf x (ld (n / 4))) (nI lo) (nI hi) M) 5) ∧ ∀ i, i ≠ 5 → (fX2_put (keyOf x (ld (n / 4))) (nI lo) (nI hi) M) i = M i := by
  obtain ⟨s, hs, e⟩ := slot_N (keyOf x (ld (n / 4)))
  have hT := a.1.2.1
  unfold fX2_put
  rw [e, if_neg (nn_N (by omega)), if_neg (show ¬ (1024 : Int32) ≤ nI s from nI_ge (b := 1024) (by omega) (by omega)), cl_N (by omega)]
  refine ⟨?_, fun i hi => ?_⟩
  · intro s' hs' n' h' pl' ld' x' b hk
    by_cases hss : s' = s
    · subst hss
      have he : mset M 5 s' ((sl (keyOf x (ld (n / 4))) 6 ||| sl (nI hi) 3) ||| nI lo) 5 s' = entry (keyOf x (ld (n / 4))) lo hi := by rw [mset_at, if_pos ⟨rfl, rfl⟩]; rfl
      rw [he] at hk ⊢
      rw [entry_key (fun c hc => key_hi a.set24 a.led hc) (by omega) (by omega)] at hk
      obtain ⟨rfl, hL⟩ := key_inj a.set24 b.set24 a.led b.led hk
      obtain ⟨hV, hnn⟩ := a.VG_eq b hL
      subst hnn
      exact ⟨lo, hi, entry_lo (by omega), entry_hi (by omega) (by omega), by omega, by omega, h8⟩
    · have he : mset M 5 s ((sl (keyOf x (ld (n / 4))) 6 ||| sl (nI hi) 3) ||| nI lo) 5 s' = M 5 s' := by rw [mset_at, if_neg (fun z => hss z.2)]
      rw [he] at hk ⊢
      exact hK s' hs' n' h' pl' ld' x' b hk
  · funext k
    rw [mset_at, if_neg (fun z => hi z.1)]
theorem clear_loop : ∀ F m k (M : Mem), m < F → k + m = 1024 → (∀ s, s < k → M 5 s = 0) → ∃ M', fX2_clear_L2 F (nI k) M = some M' ∧ (∀ s, s < 1024 → M' 5 s = 0) ∧ ∀ i, i ≠ 5 → M' i = M i := by
  intro F
  induction F with
  | zero => intro m k M h; omega
  | succ F ih =>
    intro m k M hm hk h0
    rw [fX2_clear_L2.eq_2]
    by_cases hkk : 1024 ≤ k
    · rw [if_pos (show (1024 : Int32) ≤ nI k from nI_le (a := 1024) hkk (by omega))]
      exact ⟨M, rfl, fun s hs => h0 s (by omega), fun _ _ => rfl⟩
    · rw [if_neg (show ¬ (1024 : Int32) ≤ nI k from nI_ge (b := 1024) (by omega) (by omega)), if_pos (vin_N (by omega) (by omega)), cl_N (by omega), show (nI k + 1 : Int32) = nI (k + 1) from nI_add k 1]
      obtain ⟨M', e, a, b⟩ := ih (m - 1) (k + 1) (mset M 5 k 0) (by omega) (by omega) (fun s hs => by
        rw [mset_at]
        by_cases hq : s = k
        · rw [if_pos ⟨rfl, hq⟩]
        · rw [if_neg (fun z => hq z.2)]; exact h0 s (by omega))
      refine ⟨M', e, a, fun i hi => ?_⟩
      rw [b i hi]; funext j; rw [mset_at, if_neg (fun z => hi z.1)]
theorem forget_ok (M : Mem) : ∃ M', fX4_forget M = some M' ∧ (∀ s, s < 1024 → M' 5 s = 0) ∧ ∀ i, i ≠ 5 → M' i = M i := by
  obtain ⟨M', e, a, b⟩ := clear_loop 2000 1024 0 M (by omega) rfl (fun s hs => by omega)
  refine ⟨M', ?_, a, b⟩
  unfold fX4_forget fX2_clear
  rw [show (0 : Int32) = nI 0 from rfl, e]; rfl
