/-! forks -/
theorem lhigh {S v1 v2 v5 : Int32} {N : Mem} : ∀ F m, m < F → m ≤ 6 → (∀ i, m ≤ i → i < 6 → bt S i = false) →
    (∃ i, i < m ∧ bt S i = true ∧ (∀ j, i < j → j < 6 → bt S j = false) ∧ fL_fork_L41 F v1 v2 S v5 (nI m - 1) N = some (nI i)) ∨ ((∀ i, i < 6 → bt S i = false) ∧ fL_fork_L41 F v1 v2 S v5 (nI m - 1) N = some (-1)) := by
  intro F
  induction F with
  | zero => intro m h; omega
  | succ F ih =>
    intro m hm h6 hz
    rw [fL_fork_L41.eq_2]
    cases m with
    | zero =>
      rw [if_pos (by decide)]
      exact Or.inr ⟨fun i hi => hz i (by omega) hi, rfl⟩
    | succ m =>
      rw [nI_pred, if_neg (nn_N (by omega)), lhas (by omega), show nI m + (-1) = nI m - 1 from (Int32.sub_eq_add_neg _ _).symm]
      simp only [b01_0]
      cases hb : bt S m with
      | true =>
        rw [if_neg (by decide)]
        exact Or.inl ⟨m, by omega, hb, fun j j1 j2 => hz j (by omega) j2, rfl⟩
      | false =>
        rw [if_pos rfl]
        rcases ih m (by omega) (by omega) (fun i i1 i2 => by
          rcases Nat.eq_or_lt_of_le i1 with q | q
          · rw [← q]; exact hb
          · exact hz i (by omega) i2) with ⟨i, z1, z2⟩ | z
        · exact Or.inl ⟨i, by omega, z2⟩
        · exact Or.inr z
def SX (s : Nat) (h : Nat → Int32) (S X : Int32) : Prop := (∀ i, i < 6 → bt S i = bt X (6 * s + i)) ∧ ∀ d, bt X d = true → 6 * s ≤ d ∧ d < 6 * s + 6 ∧ ∃ q, q < 4 ∧ bt (h q) d = true
theorem SX.next {s : Nat} {h : Nat → Int32} {S X v1 v2 : Int32} (hs : s < 4) (x : SX s h S X) :
    (X = 0 ∧ ∀ v5 N, fL_fork_L41 40 v1 v2 S v5 5 N = some (-1)) ∨ ∃ i q, i < 6 ∧ q < 4 ∧ bt (h q) (6 * s + i) = true ∧ (∀ v5 N, fL_fork_L41 40 v1 v2 S v5 5 N = some (nI i)) ∧ fX0_highest X = nI (6 * s + i) ∧ bt X (6 * s + i) = true ∧ SX s h (S &&& (sl 1 (nI i) ^^^ (-1))) (X &&& (sl 1 (nI (6 * s + i)) ^^^ (-1))) := by
  obtain ⟨x1, x2⟩ := x
  have h24 : c24 X := fun d hd => by
    cases hq : bt X d with
    | false => rfl
    | true => have := x2 d hq; omega
  by_cases h0 : X = 0
  · refine Or.inl ⟨h0, fun v5 N => ?_⟩
    have hS : ∀ i, i < 6 → bt S i = false := fun i hi => by rw [x1 i hi, h0, bt_0]
    rcases lhigh (S := S) (v1 := v1) (v2 := v2) (v5 := v5) (N := N) 40 6 (by omega) (Nat.le_refl _) (fun i i1 i2 => by omega) with ⟨i, z1, z2, -⟩ | ⟨-, z⟩
    · rw [hS i z1] at z2; cases z2
    · exact z
  · obtain ⟨a, ha, hab, hmax, ea⟩ := high_ex h0 h24
    obtain ⟨y1, y2, q, q1, q2⟩ := x2 a hab
    have hai : 6 * s + (a - 6 * s) = a := by omega
    have hi6 : a - 6 * s < 6 := by omega
    have hSi : bt S (a - 6 * s) = true := by rw [x1 _ hi6, hai]; exact hab
    refine Or.inr ⟨a - 6 * s, q, hi6, q1, by rw [hai]; exact q2, fun v5 N => ?_, by rw [hai]; exact ea, by rw [hai]; exact hab, ?_⟩
    · rcases lhigh (S := S) (v1 := v1) (v2 := v2) (v5 := v5) (N := N) 40 6 (by omega) (Nat.le_refl _) (fun i i1 i2 => by omega) with ⟨i, z1, z2, z3, z4⟩ | ⟨z, -⟩
      · have : i = a - 6 * s := by
          rcases Nat.lt_trichotomy i (a - 6 * s) with r | r | r
          · rw [z3 _ r hi6] at hSi; cases hSi
          · exact r
          · rw [x1 i z1, hmax _ (by omega)] at z2; cases z2
        rw [← this]; exact z4
      · rw [z _ hi6] at hSi; cases hSi
    · rw [hai]
      refine ⟨fun i hi => ?_, fun d hd => ?_⟩
      · rw [bt_rem (by omega) (by omega), bt_rem ha (by omega), x1 i hi]
        congr 2
        simp only [decide_eq_decide]; omega
      · rcases Nat.lt_or_ge d 32 with z | z
        · rw [bt_rem ha z, Bool.and_eq_true] at hd
          exact x2 d hd.1
        · rw [bt_ge _ z] at hd; cases hd
theorem fork_d : ∀ p q : Fin 4, (if ((nI q.val - nI p.val) &&& 1) = 0 then (0 : Int32) else if nI q.val = im (nI p.val + 3) 4 then 2 else 1) = (if fX0_sideOf (nI q.val) = fX0_sideOf (nI p.val) then 0 else if im (nI q.val + 1) 4 = nI p.val then 2 else 1) := by decide +kernel
theorem fork_eq {M N : Mem} {n : Nat} {h : Nat → Int32} {pl : Nat → Nat} (k : Lk M n h pl) (r : LK N n h pl) {p s : Nat} (hp : p < 4) (hs : s < 4) : fL_fork (nI p) (nI s) N = some (fX3_forkKind (nI p) (nI s) M) := by
  unfold fL_fork fX3_forkKind
  have hall : ∀ d, bt (N 0 0 ||| N 0 1 ||| N 0 2 ||| N 0 3) d = true ↔ ∃ q, q < 4 ∧ bt (h q) d = true := fun d => by
    rw [bt_or, bt_or, bt_or, r.2.2.2.1 0 (by omega), r.2.2.2.1 1 (by omega), r.2.2.2.1 2 (by omega), r.2.2.2.1 3 (by omega)]
    simp only [Bool.or_eq_true]
    constructor
    · rintro (((z | z) | z) | z)
      · exact ⟨0, by omega, z⟩
      · exact ⟨1, by omega, z⟩
      · exact ⟨2, by omega, z⟩
      · exact ⟨3, by omega, z⟩
    · rintro ⟨q, q1, q2⟩
      obtain rfl | rfl | rfl | rfl : q = 0 ∨ q = 1 ∨ q = 2 ∨ q = 3 := by omega
      · exact Or.inl (Or.inl (Or.inl q2))
      · exact Or.inl (Or.inl (Or.inr q2))
      · exact Or.inl (Or.inr q2)
      · exact Or.inr q2
  have e6 : (6 : Int32) * nI s = nI (6 * s) := pk_mul 6 s
  rw [e6]
  generalize hA : N 0 0 ||| N 0 1 ||| N 0 2 ||| N 0 3 = A at hall ⊢
  generalize hX : fX1_inHands M &&& fX0_suitSet (nI s) = X
  generalize hS : sr A (nI (6 * s)) &&& 63 = S
  have hXb : ∀ d, bt X d = true ↔ 6 * s ≤ d ∧ d < 6 * s + 6 ∧ ∃ q, q < 4 ∧ bt (h q) d = true := fun d => by
    rcases Nat.lt_or_ge d 32 with z | z
    · rw [← hX, bt_and, bt_suit hs z, Bool.and_eq_true, decide_eq_true_eq, inHands_bt]
      constructor
      · rintro ⟨⟨q, q1, q2⟩, q3⟩
        rw [k.2.2.2.2.2.2.1 q q1] at q2
        exact ⟨by omega, by omega, q, q1, q2⟩
      · rintro ⟨a1, a2, q, q1, q2⟩
        exact ⟨⟨q, q1, by rw [k.2.2.2.2.2.2.1 q q1]; exact q2⟩, by omega⟩
    · rw [bt_ge _ z]
      constructor
      · intro e; cases e
      · rintro ⟨a1, a2, -⟩
        omega
  have hSb : ∀ i, i < 6 → bt S i = bt A (6 * s + i) := fun i hi => by
    rw [← hS, bt_and, show (63 : Int32) = nI (2 ^ 6 - 1) from rfl, bt_pow (by omega), bt_sr (by omega) (by omega)]
    simp [hi]
  have x0 : SX s h S X := by
    refine ⟨fun i hi => ?_, fun d hd => (hXb d).mp hd⟩
    rw [hSb i hi]
    have h1 := hall (6 * s + i)
    have h2 := hXb (6 * s + i)
    cases ha : bt A (6 * s + i) with
    | true => exact (h2.mpr ⟨by omega, by omega, h1.mp ha⟩).symm
    | false =>
      cases hx : bt X (6 * s + i) with
      | false => rfl
      | true => rw [h1.mpr (h2.mp hx).2.2] at ha; cases ha
  have h24 : ∀ {S X : Int32}, SX s h S X → c24 X := fun x d hd => by
    rename_i S X
    cases hq : bt X d with
    | false => rfl
    | true => have := x.2 d hq; omega
  rw [bitCount_ok (h24 x0)]
  have clo : ∀ (v : Nat) (t : Int32), v < 3 → (if (3 : Int32) ≤ nI v then t else 0) = 0 := fun v t hv => if_neg (nI_ge (b := 3) (by omega) (by omega))
  rcases x0.next (v1 := nI p) (v2 := nI s) hs with ⟨z0, e⟩ | ⟨i1, q1, hi1, hq1, hb1, e1, m1, bx1, x1⟩
  · have hc0 : cnt X = 0 := cn_all0 24 (fun c _ => by rw [z0]; exact bt_0 c)
    rw [e, ob_s, if_neg (by decide), clo _ _ (by omega)]
  · have c1 := cnt_rem (show 6 * s + i1 < 24 by omega) bx1
    rw [e1, ob_s, if_pos (nI_pos' (by omega)), m1]
    rcases x1.next (v1 := nI p) (v2 := nI s) hs with ⟨z0, e⟩ | ⟨i2, q2, hi2, hq2, hb2, e2, m2, bx2, x2⟩
    · have hc0 : cnt (X &&& (sl 1 (nI (6 * s + i1)) ^^^ (-1))) = 0 := cn_all0 24 (fun c _ => by rw [z0]; exact bt_0 c)
      rw [e, ob_s, if_neg (by decide), clo _ _ (by omega)]
    · have c2 := cnt_rem (show 6 * s + i2 < 24 by omega) bx2
      rw [e2, ob_s, if_pos (nI_pos' (by omega)), m2]
      rcases x2.next (v1 := nI p) (v2 := nI s) hs with ⟨z0, e⟩ | ⟨i3, q3, hi3, hq3, hb3, e3, m3, bx3, x3⟩
      · have hc0 : cnt (X &&& (sl 1 (nI (6 * s + i1)) ^^^ (-1)) &&& (sl 1 (nI (6 * s + i2)) ^^^ (-1))) = 0 := cn_all0 24 (fun c _ => by rw [z0]; exact bt_0 c)
        rw [e, ob_s, if_neg (by decide), clo _ _ (by omega)]
      · have c3 := cnt_rem (show 6 * s + i3 < 24 by omega) bx3
        have hle : cnt X ≤ 24 := cn_le (bt X) 24
        rw [e3, ob_s, if_pos (nI_pos' (by omega)), m3, if_pos (show (3 : Int32) ≤ nI (cnt X) from nI_le (a := 3) (by omega) (by omega))]
        rw [nI_add, nI_add, nI_add, r.the hq1 (by omega) hb1, r.the hq2 (by omega) hb2, r.the hq3 (by omega) hb3, k.the hq1 (by omega) hb1, k.the hq2 (by omega) hb2, k.the hq3 (by omega) hb3]
        have hd := fork_d ⟨p, hp⟩ ⟨q2, hq2⟩
        dsimp only at hd
        rw [← hd]
        by_cases h1 : nI q1 = nI p
        · rw [if_pos h1, if_pos h1]
          by_cases h3 : nI q3 = nI p
          · rw [if_pos h3, if_pos h3]
            by_cases h4 : (nI q2 - nI p) &&& 1 = 0
            · rw [if_pos h4, if_pos h4]
            · rw [if_neg h4, if_neg h4]
              by_cases h5 : nI q2 = im (nI p + 3) 4
              · rw [if_pos h5, if_pos h5]
              · rw [if_neg h5, if_neg h5]
          · rw [if_neg h3, if_neg h3]
        · rw [if_neg h1, if_neg h1]
theorem iI_dec (z : Int) : iI z + (-1) = iI (z + (-1)) := by rw [← iI_add, show iI (-1) = -1 from by decide]
def gk (M : Mem) (p : Nat) : Nat → Bool := fun s => decide (fX3_forkKind (nI p) (nI s) M = 2)
theorem gf_12 {M : Mem} {p : Nat} : ∀ (F m s : Nat) (z : Int), m < F → s + m = 4 → fX3_goodForksOf_L12 F (iI z) (nI p) (nI s) M = some (iI (z + ((cn (gk M p) 4 : Nat) - (cn (gk M p) s : Nat)))) := by
  intro F
  induction F with
  | zero => intro m s z h; omega
  | succ F ih =>
    intro m s z hm hs
    rw [fX3_goodForksOf_L12.eq_2]
    by_cases h4 : 4 ≤ s
    · rw [if_pos (show (4 : Int32) ≤ nI s from nI_le (a := 4) h4 (by omega)), show s = 4 by omega]
      congr 2; omega
    · have hcn : cn (gk M p) (s + 1) = cn (gk M p) s + (if gk M p s then 1 else 0) := rfl
      rw [if_neg (show ¬ (4 : Int32) ≤ nI s from nI_ge (b := 4) (by omega) (by omega)), show (nI s + 1 : Int32) = nI (s + 1) from nI_add s 1, show (iI z + 1 : Int32) = iI (z + 1) from iI_add z 1]
      by_cases h2 : fX3_forkKind (nI p) (nI s) M = 2
      · have hg : gk M p s = true := decide_eq_true h2
        rw [hg] at hcn
        rw [if_pos h2, ih (m - 1) (s + 1) (z + 1) (by omega) (by omega), hcn]
        congr 2; simp; omega
      · have hg : gk M p s = false := decide_eq_false h2
        rw [hg] at hcn
        rw [if_neg h2, ih (m - 1) (s + 1) z (by omega) (by omega), hcn]
        congr 2
theorem gf_4 {M : Mem} {p : Nat} (hp : p < 4) (F : Nat) (z : Int) : fX3_goodForksOf_L4 (F + 1) (iI z) (nI p) M = fX3_goodForksOf_L4 F (iI (z + (cn (gk M p) 4 : Nat))) (nI (p + 2)) M := by
  have := gf_12 (M := M) (p := p) 40 4 0 z (by omega) (by omega)
  rw [fX3_goodForksOf_L4.eq_2, if_neg (show ¬ (4 : Int32) ≤ nI p from nI_ge (b := 4) (by omega) (by omega)), show (0 : Int32) = nI 0 from rfl, this, show (nI p + 2 : Int32) = nI (p + 2) from nI_add p 2]
  simp only [ob_s]
  congr 2
theorem gf_of0 (M : Mem) : fX3_goodForksOf 0 M = some (iI (0 + (cn (gk M 0) 4 : Nat) + (cn (gk M 2) 4 : Nat))) := by
  unfold fX3_goodForksOf
  have e : fX3_goodForksOf_L4 40 0 0 M = fX3_goodForksOf_L4 (39 + 1) (iI 0) (nI 0) M := rfl
  rw [e, gf_4 (by omega) 39 0, gf_4 (by omega) 38]
  rw [show fX3_goodForksOf_L4 38 = fX3_goodForksOf_L4 (37 + 1) from rfl, fX3_goodForksOf_L4.eq_2, if_pos (show (4 : Int32) ≤ nI (0 + 2 + 2) by decide)]
  rfl
theorem gf_of1 (M : Mem) : fX3_goodForksOf 1 M = some (iI (0 + (cn (gk M 1) 4 : Nat) + (cn (gk M 3) 4 : Nat))) := by
  unfold fX3_goodForksOf
  have e : fX3_goodForksOf_L4 40 0 1 M = fX3_goodForksOf_L4 (39 + 1) (iI 0) (nI 1) M := rfl
  rw [e, gf_4 (by omega) 39 0, gf_4 (by omega) 38]
  rw [show fX3_goodForksOf_L4 38 = fX3_goodForksOf_L4 (37 + 1) from rfl, fX3_goodForksOf_L4.eq_2, if_pos (show (4 : Int32) ≤ nI (1 + 2 + 2) by decide)]
  rfl
