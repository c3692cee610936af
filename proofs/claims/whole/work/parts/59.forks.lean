/-! forks -/
def fkB (p k : Nat) (b : Bool) (q : Nat) : Bool := b && (if k = 1 then decide (q % 2 ≠ p % 2) else decide (q = p))
def fkW (k : Nat) (w : Int32) (q : Nat) : Int32 := if k = 1 then nI q else w
theorem fork_step {N : Mem} {p s k c q : Nat} {b : Bool} {w : Int32} (F : Nat) (hp : p < 4) (hs : s < 4) (hk : k < 3) (hc : 6 * s ≤ c) (hc24 : c < 24) (hq : q < 4) (hh : fX6_holder (nI c) N = nI q) :
    fX6_forkOf_L19 (F + 1) (nI p) (nI s) (nI k) (b01 b) w (nI c) N = fX6_forkOf_L19 F (nI p) (nI s) (nI (k + 1)) (b01 (fkB p k b q)) (fkW k w q) (nI c - 1) N := by
  rw [fX6_forkOf_L19.eq_2, show (6 : Int32) * nI s = nI (6 * s) from pk_mul 6 s]
  simp only [lt_N (show c < 2 ^ 31 by omega) (show 6 * s < 2 ^ 31 by omega)]
  rw [if_neg (show ¬ c < 6 * s by omega), if_neg (show ¬ (3 : Int32) ≤ nI k from nI_ge (b := 3) (by omega) (by omega)), hh, if_neg (ne_m1 (by omega)), im_2 (by omega), im_2 (by omega), show nI c + (-1) = nI c - 1 from (Int32.sub_eq_add_neg _ _).symm, show (nI k + 1 : Int32) = nI (k + 1) from nI_add k 1]
  have hk1 : (nI k = 1) = (k = 1) := eq_N (b := 1) (by omega) (by omega)
  simp only [hk1, eq_N (show q % 2 < 2 ^ 31 by omega) (show p % 2 < 2 ^ 31 by omega), eq_N (show q < 2 ^ 31 by omega) (show p < 2 ^ 31 by omega)]
  unfold fkB fkW
  cases b <;> by_cases h1 : k = 1 <;> by_cases h2 : q % 2 = p % 2 <;> by_cases h3 : q = p <;> simp [h1, h2, h3, b01]
theorem fork_end {N : Mem} {p s k : Nat} {b : Bool} {w : Int32} (F : Nat) (hs : s < 4) : fX6_forkOf_L19 (F + 1) (nI p) (nI s) (nI k) (b01 b) w (nI (6 * s + 0) - 1) N = some (nI k, b01 b, w) := by
  rw [fX6_forkOf_L19.eq_2, show (6 : Int32) * nI s = nI (6 * s) from pk_mul 6 s, if_pos]
  rw [Int32.lt_iff_toInt_lt, nI_toInt (by omega), Nat.add_zero]
  by_cases h0 : s = 0
  · rw [h0]; decide
  · obtain ⟨j, hj⟩ : ∃ j, 6 * s = j + 1 := ⟨6 * s - 1, by omega⟩
    rw [hj, nI_pred, nI_toInt (by omega)]; omega
theorem fork_3 {N : Mem} {p s : Nat} {b : Bool} {w x : Int32} (F : Nat) : fX6_forkOf_L19 (F + 1) (nI p) (nI s) (nI 3) (b01 b) w x N = some (nI 3, b01 b, w) := by
  rw [fX6_forkOf_L19.eq_2]
  by_cases h : x < 6 * nI s
  · rw [if_pos h]
  · rw [if_neg h, if_pos (show (3 : Int32) ≤ nI 3 by decide)]
theorem fork_skip {N : Mem} {p s k : Nat} {b : Bool} {w : Int32} (hs : s < 4) (hk : k < 3) : ∀ (F m j : Nat), j ≤ m → m < F → m ≤ 6 → (∀ d, 6 * s + j ≤ d → d < 6 * s + m → fX6_holder (nI d) N = -1) →
    ∃ F', j < F' ∧ fX6_forkOf_L19 F (nI p) (nI s) (nI k) (b01 b) w (nI (6 * s + m) - 1) N = fX6_forkOf_L19 F' (nI p) (nI s) (nI k) (b01 b) w (nI (6 * s + j) - 1) N := by
  intro F
  induction F with
  | zero => intro m j h1 h2; omega
  | succ F ih =>
    intro m j hjm hmF hm6 hh
    rcases Nat.eq_or_lt_of_le hjm with rfl | q
    · exact ⟨F + 1, hmF, rfl⟩
    · obtain ⟨t, rfl⟩ : ∃ t, m = t + 1 := ⟨m - 1, by omega⟩
      obtain ⟨F', f1, f2⟩ := ih t j (by omega) (by omega) (by omega) (fun d d1 d2 => hh d d1 (by omega))
      refine ⟨F', f1, ?_⟩
      rw [← f2, show nI (6 * s + (t + 1)) - 1 = nI (6 * s + t) from by rw [show 6 * s + (t + 1) = (6 * s + t) + 1 by omega, nI_pred]]
      rw [fX6_forkOf_L19.eq_2, show (6 : Int32) * nI s = nI (6 * s) from pk_mul 6 s]
      simp only [lt_N (show 6 * s + t < 2 ^ 31 by omega) (show 6 * s < 2 ^ 31 by omega)]
      rw [if_neg (show ¬ 6 * s + t < 6 * s by omega), if_neg (show ¬ (3 : Int32) ≤ nI k from nI_ge (b := 3) (by omega) (by omega)), hh (6 * s + t) (by omega) (by omega), if_pos (show (-1 : Int32) = -1 from rfl), show nI (6 * s + t) + (-1) = nI (6 * s + t) - 1 from (Int32.sub_eq_add_neg _ _).symm]
/-- the cards of a suit in hands, below a place -/
def FY (h : Nat → Int32) (s m : Nat) (Y : Int32) : Prop := ∀ d, bt Y d = true ↔ 6 * s ≤ d ∧ d < 6 * s + m ∧ ∃ q, q < 4 ∧ bt (h q) d = true
theorem fork_next {M N : Mem} {n : Nat} {h : Nat → Int32} {pl : Nat → Nat} (k : Lk M N n h pl) {p s v m F : Nat} {b : Bool} {w Y : Int32} (hp : p < 4) (hs : s < 4) (hv : v < 3) (hm : m ≤ 6) (hF : m < F) (hY : FY h s m Y) :
    (Y = 0 ∧ fX6_forkOf_L19 F (nI p) (nI s) (nI v) (b01 b) w (nI (6 * s + m) - 1) N = some (nI v, b01 b, w)) ∨
    ∃ a q F' m', a < 24 ∧ fX0_highest Y = nI a ∧ bt Y a = true ∧ q < 4 ∧ fX1_ownerOf (nI a) M = nI q ∧ m' ≤ 6 ∧ m' < F' ∧ FY h s m' (Y &&& (sl 1 (nI a) ^^^ (-1))) ∧
      fX6_forkOf_L19 F (nI p) (nI s) (nI v) (b01 b) w (nI (6 * s + m) - 1) N = fX6_forkOf_L19 F' (nI p) (nI s) (nI (v + 1)) (b01 (fkB p v b q)) (fkW v w q) (nI (6 * s + m') - 1) N := by
  have hhold : ∀ d, d < 24 → (∀ q, q < 4 → bt (h q) d = false) → fX6_holder (nI d) N = -1 := fun d hd hz => by
    rw [(k.owner hd).1]
    rcases (k.owner hd).2 with ⟨q, q1, q2, -⟩ | ⟨-, q⟩
    · rw [hz q q1] at q2; cases q2
    · exact q
  have h24 : c24 Y := fun d hd => by
    cases hq : bt Y d with
    | false => rfl
    | true =>
      have hz := (hY d).mp hq
      have h1 := hz.2.1
      omega
  by_cases h0 : Y = 0
  · left
    refine ⟨h0, ?_⟩
    obtain ⟨F', f1, f2⟩ := fork_skip (N := N) (p := p) (b := b) (w := w) hs hv F m 0 (by omega) hF hm (fun d d1 d2 => hhold d (by omega) (fun q q1 => by
      cases hz : bt (h q) d with
      | false => rfl
      | true =>
        have := (hY d).mpr ⟨by omega, d2, q, q1, hz⟩
        rw [h0, bt_0] at this; cases this))
    rw [f2]
    obtain ⟨G, rfl⟩ : ∃ G, F' = G + 1 := ⟨F' - 1, by omega⟩
    exact fork_end G hs
  · right
    obtain ⟨a, ha, hab, hmax, ea⟩ := high_ex h0 h24
    obtain ⟨y1, y2, q, q1, q2⟩ := (hY a).mp hab
    have hown := k.the q1 ha q2
    obtain ⟨F', f1, f2⟩ := fork_skip (N := N) (p := p) (b := b) (w := w) hs hv F m (a - 6 * s + 1) (by omega) hF hm (fun d d1 d2 => hhold d (by omega) (fun r r1 => by
      cases hz : bt (h r) d with
      | false => rfl
      | true =>
        have := (hY d).mpr ⟨by omega, d2, r, r1, hz⟩
        rw [hmax d (by omega)] at this; cases this))
    obtain ⟨G, rfl⟩ : ∃ G, F' = G + 1 := ⟨F' - 1, by omega⟩
    refine ⟨a, q, G, a - 6 * s, ha, ea, hab, q1, hown, by omega, by omega, fun d => ?_, ?_⟩
    · rcases Nat.lt_or_ge d 32 with z | z
      · rw [bt_rem ha z, Bool.and_eq_true, Bool.not_eq_true', decide_eq_false_iff_not, hY d]
        constructor
        · rintro ⟨⟨a1, a2, a3⟩, a4⟩
          refine ⟨a1, ?_, a3⟩
          rcases Nat.lt_or_ge d a with e | e
          · omega
          · have hb := (hY d).mpr ⟨a1, a2, a3⟩
            rw [hmax d (by omega)] at hb; cases hb
        · rintro ⟨a1, a2, a3⟩
          exact ⟨⟨a1, by omega, a3⟩, by omega⟩
      · rw [bt_ge _ z]
        constructor
        · intro e; cases e
        · rintro ⟨a1, a2, -⟩
          omega
    · rw [f2, show 6 * s + (a - 6 * s + 1) = a + 1 by omega, nI_pred, show 6 * s + (a - 6 * s) = a by omega]
      exact fork_step G hp hs hv (by omega) ha q1 (by rw [(k.owner ha).1]; exact hown)
theorem fork_same {M N : Mem} {n : Nat} {h : Nat → Int32} {pl : Nat → Nat} (k : Lk M N n h pl) {p s : Nat} (hp : p < 4) (hs : s < 4) : fX6_forkOf (nI p) (nI s) N = some (fX3_forkKind (nI p) (nI s) M) := by
  unfold fX6_forkOf fX3_forkKind
  generalize hX : fX1_inHands M &&& fX0_suitSet (nI s) = X
  have hY : FY h s 6 X := fun d => by
    rcases Nat.lt_or_ge d 32 with z | z
    · rw [← hX, bt_and, bt_suit hs z, Bool.and_eq_true, decide_eq_true_eq, inHands_bt]
      constructor
      · rintro ⟨⟨q, q1, q2⟩, q3⟩
        rw [k.2.2.2.2.2.2.1 q q1] at q2
        exact ⟨by omega, by omega, q, q1, q2⟩
      · rintro ⟨a1, a2, q, q1, q2⟩
        exact ⟨⟨q, q1, by rw [k.2.2.2.2.2.2.1 q q1]; exact q2⟩, by omega⟩
    · rw [bt_ge _ z]
      constructor
      · intro e; cases e
      · rintro ⟨a1, a2, -⟩
        omega
  have h24 : ∀ {m : Nat} {Y : Int32}, m ≤ 6 → FY h s m Y → c24 Y := fun hm hY d hd => by
    rename_i m Y
    cases hq : bt Y d with
    | false => rfl
    | true =>
      have h1 := ((hY d).mp hq).2.1
      omega
  rw [bitCount_ok (h24 (by omega) hY)]
  have hstart : (6 : Int32) * nI s + 6 - 1 = nI (6 * s + 6) - 1 := by rw [show (6 : Int32) * nI s = nI (6 * s) from pk_mul 6 s, show (nI (6 * s) + 6 : Int32) = nI (6 * s + 6) from nI_add _ 6]
  rw [hstart]
  have low : ∀ (v : Nat) (b : Bool) (w : Int32), v < 3 → obind (some (nI v, b01 b, w)) (fun q1 => if q1.2.1 = 0 then some 0 else if 3 ≤ q1.1 then (if im (q1.2.2 + 1) 4 = nI p then some 2 else some 1) else some (0 : Int32)) = some 0 := fun v b w hv => by
    simp only [ob_s]
    cases b with
    | false => rw [if_pos (show b01 false = 0 from rfl)]
    | true => rw [if_neg (show ¬ b01 true = 0 by decide), if_neg (show ¬ (3 : Int32) ≤ nI v from nI_ge (b := 3) (by omega) (by omega))]
  have clo : ∀ (v : Nat) (t : Int32), v < 3 → (if (3 : Int32) ≤ nI v then t else 0) = 0 := fun v t hv => if_neg (nI_ge (b := 3) (by omega) (by omega))
  rcases fork_next k (p := p) (s := s) (v := 0) (m := 6) (F := 40) (b := true) (w := -1) hp hs (by omega) (by omega) (by omega) hY with ⟨x0, e⟩ | ⟨a1, q1, F1, m1, ha1, hi1, hb1, hq1, ho1, hm1, hF1, hY1, e1⟩
  · have e' : fX6_forkOf_L19 40 (nI p) (nI s) 0 1 (-1) (nI (6 * s + 6) - 1) N = some (nI 0, b01 true, -1) := e
    have hc0 : cnt X = 0 := cn_all0 24 (fun c _ => by rw [x0]; exact bt_0 c)
    rw [e', low 0 true _ (by omega), clo _ _ (by omega)]
  · have e1' : fX6_forkOf_L19 40 (nI p) (nI s) 0 1 (-1) (nI (6 * s + 6) - 1) N = _ := e1
    rw [e1']
    clear e1 e1'
    have c1 := cnt_rem ha1 hb1
    rcases fork_next k (p := p) (s := s) (v := 0 + 1) (m := m1) (F := F1) (b := fkB p 0 true q1) (w := fkW 0 (-1) q1) hp hs (by omega) hm1 hF1 hY1 with ⟨x0, e⟩ | ⟨a2, q2, F2, m2, ha2, hi2, hb2, hq2, ho2, hm2, hF2, hY2, e2⟩
    · have hc0 : cnt (X &&& (sl 1 (nI a1) ^^^ (-1))) = 0 := cn_all0 24 (fun c _ => by rw [x0]; exact bt_0 c)
      rw [e, low _ _ _ (by omega), clo _ _ (by omega)]
    · rw [e2]
      clear e2
      have c2 := cnt_rem ha2 hb2
      rcases fork_next k (p := p) (s := s) (v := 0 + 1 + 1) (m := m2) (F := F2) (b := fkB p (0 + 1) (fkB p 0 true q1) q2) (w := fkW (0 + 1) (fkW 0 (-1) q1) q2) hp hs (by omega) hm2 hF2 hY2 with ⟨x0, e⟩ | ⟨a3, q3, F3, m3, ha3, hi3, hb3, hq3, ho3, hm3, hF3, hY3, e3⟩
      · have hc0 : cnt (X &&& (sl 1 (nI a1) ^^^ (-1)) &&& (sl 1 (nI a2) ^^^ (-1))) = 0 := cn_all0 24 (fun c _ => by rw [x0]; exact bt_0 c)
        rw [e, low _ _ _ (by omega), clo _ _ (by omega)]
      · rw [e3]
        clear e3
        have c3 := cnt_rem ha3 hb3
        have hle : cnt X ≤ 24 := cn_le _ 24
        obtain ⟨G, rfl⟩ : ∃ G, F3 = G + 1 := ⟨F3 - 1, by omega⟩
        rw [show (0 + 1 + 1 + 1 : Nat) = 3 from rfl, fork_3 G]
        simp only [ob_s]
        rw [if_pos (show (3 : Int32) ≤ nI (cnt X) from nI_le (a := 3) (by omega) (by omega)), hi1, ho1, hi2, ho2, hi3, ho3]
        unfold fX0_sideOf
        rw [im_2 (by omega), im_2 (by omega)]
        simp only [eq_N (show q1 < 2 ^ 31 by omega) (show p < 2 ^ 31 by omega), eq_N (show q3 < 2 ^ 31 by omega) (show p < 2 ^ 31 by omega), eq_N (show q2 % 2 < 2 ^ 31 by omega) (show p % 2 < 2 ^ 31 by omega)]
        have hw : fkW (0 + 1 + 1) (fkW (0 + 1) (fkW 0 (-1) q1) q2) q3 = nI q2 := rfl
        rw [hw, if_pos (show (3 : Int32) ≤ nI 3 by decide)]
        have hb : fkB p (0 + 1 + 1) (fkB p (0 + 1) (fkB p 0 true q1) q2) q3 = (decide (q1 = p) && decide (q2 % 2 ≠ p % 2) && decide (q3 = p)) := by simp [fkB]
        rw [hb]
        by_cases h1 : q1 = p
        · rw [if_pos h1]
          by_cases h3 : q3 = p
          · rw [if_pos h3]
            by_cases h2 : q2 % 2 = p % 2
            · rw [if_pos h2, if_pos]; simp [h2, b01]
            · rw [if_neg h2, if_neg]
              · split <;> rfl
              · simp [h1, h2, h3, b01]
          · rw [if_neg h3, if_pos]; simp [h3, b01]
        · rw [if_neg h1, if_pos]; simp [h1, b01]
theorem iI_dec (z : Int) : iI z + (-1) = iI (z + (-1)) := by rw [← iI_add, show iI (-1) = -1 from by decide]
def gk (M : Mem) (p : Nat) : Nat → Bool := fun s => decide (fX3_forkKind (nI p) (nI s) M = 2)
theorem gf_12 {M : Mem} {p : Nat} : ∀ (F m s : Nat) (z : Int), m < F → s + m = 4 → fX3_goodForksOf_L12 F (iI z) (nI p) (nI s) M = some (iI (z + ((cn (gk M p) 4 : Nat) - (cn (gk M p) s : Nat)))) := by
  intro F
  induction F with
  | zero => intro m s z h; omega
  | succ F ih =>
    intro m s z hm hs
    rw [fX3_goodForksOf_L12.eq_2]
    by_cases h4 : 4 ≤ s
    · rw [if_pos (show (4 : Int32) ≤ nI s from nI_le (a := 4) h4 (by omega)), show s = 4 by omega]
      congr 2; omega
    · have hcn : cn (gk M p) (s + 1) = cn (gk M p) s + (if gk M p s then 1 else 0) := rfl
      rw [if_neg (show ¬ (4 : Int32) ≤ nI s from nI_ge (b := 4) (by omega) (by omega)), show (nI s + 1 : Int32) = nI (s + 1) from nI_add s 1, show (iI z + 1 : Int32) = iI (z + 1) from iI_add z 1]
      by_cases h2 : fX3_forkKind (nI p) (nI s) M = 2
      · have hg : gk M p s = true := decide_eq_true h2
        rw [hg] at hcn
        rw [if_pos h2, ih (m - 1) (s + 1) (z + 1) (by omega) (by omega), hcn]
        congr 2; simp; omega
      · have hg : gk M p s = false := decide_eq_false h2
        rw [hg] at hcn
        rw [if_neg h2, ih (m - 1) (s + 1) z (by omega) (by omega), hcn]
        congr 2
theorem gf_4 {M : Mem} {p : Nat} (hp : p < 4) (F : Nat) (z : Int) : fX3_goodForksOf_L4 (F + 1) (iI z) (nI p) M = fX3_goodForksOf_L4 F (iI (z + (cn (gk M p) 4 : Nat))) (nI (p + 2)) M := by
  have := gf_12 (M := M) (p := p) 40 4 0 z (by omega) (by omega)
  rw [fX3_goodForksOf_L4.eq_2, if_neg (show ¬ (4 : Int32) ≤ nI p from nI_ge (b := 4) (by omega) (by omega)), show (0 : Int32) = nI 0 from rfl, this, show (nI p + 2 : Int32) = nI (p + 2) from nI_add p 2]
  simp only [ob_s]
  congr 2
theorem gf_of0 (M : Mem) : fX3_goodForksOf 0 M = some (iI (0 + (cn (gk M 0) 4 : Nat) + (cn (gk M 2) 4 : Nat))) := by
  unfold fX3_goodForksOf
  have e : fX3_goodForksOf_L4 40 0 0 M = fX3_goodForksOf_L4 (39 + 1) (iI 0) (nI 0) M := rfl
  rw [e, gf_4 (by omega) 39 0, gf_4 (by omega) 38]
  rw [show fX3_goodForksOf_L4 38 = fX3_goodForksOf_L4 (37 + 1) from rfl, fX3_goodForksOf_L4.eq_2, if_pos (show (4 : Int32) ≤ nI (0 + 2 + 2) by decide)]
  rfl
theorem gf_of1 (M : Mem) : fX3_goodForksOf 1 M = some (iI (0 + (cn (gk M 1) 4 : Nat) + (cn (gk M 3) 4 : Nat))) := by
  unfold fX3_goodForksOf
  have e : fX3_goodForksOf_L4 40 0 1 M = fX3_goodForksOf_L4 (39 + 1) (iI 0) (nI 1) M := rfl
  rw [e, gf_4 (by omega) 39 0, gf_4 (by omega) 38]
  rw [show fX3_goodForksOf_L4 38 = fX3_goodForksOf_L4 (37 + 1) from rfl, fX3_goodForksOf_L4.eq_2, if_pos (show (4 : Int32) ≤ nI (1 + 2 + 2) by decide)]
  rfl
def sg (p : Nat) (a : Int) : Int := if p % 2 = 0 then a else -a
theorem gf_16 {M N : Mem} {n : Nat} {h : Nat → Int32} {pl : Nat → Nat} (k : Lk M N n h pl) {p : Nat} (hp : p < 4) : ∀ (F m s : Nat) (z : Int), m < F → s + m = 4 → fX6_goodForks_L16 F (iI z) (nI p) (nI s) N = some (iI (z + sg p ((cn (gk M p) 4 : Nat) - (cn (gk M p) s : Nat)))) := by
  intro F
  induction F with
  | zero => intro m s z h; omega
  | succ F ih =>
    intro m s z hm hs
    rw [fX6_goodForks_L16.eq_2]
    by_cases h4 : 4 ≤ s
    · rw [if_pos (show (4 : Int32) ≤ nI s from nI_le (a := 4) h4 (by omega)), show s = 4 by omega]
      congr 2; unfold sg; split <;> omega
    · have hcn : cn (gk M p) (s + 1) = cn (gk M p) s + (if gk M p s then 1 else 0) := rfl
      rw [if_neg (show ¬ (4 : Int32) ≤ nI s from nI_ge (b := 4) (by omega) (by omega)), fork_same k hp (by omega), show (nI s + 1 : Int32) = nI (s + 1) from nI_add s 1, show (iI z + 1 : Int32) = iI (z + 1) from iI_add z 1, iI_dec z, show (iI z + 0 : Int32) = iI (z + 0) from iI_add z 0, im_2 (by omega)]
      simp only [ob_s, show (0 : Int32) = nI 0 from rfl, eq_N (show p % 2 < 2 ^ 31 by omega) (show 0 < 2 ^ 31 by omega)]
      by_cases h2 : fX3_forkKind (nI p) (nI s) M = 2
      · have hg : gk M p s = true := decide_eq_true h2
        rw [hg, if_pos rfl] at hcn
        rw [if_pos h2]
        by_cases hp2 : p % 2 = 0
        · rw [if_pos hp2, ih (m - 1) (s + 1) (z + 1) (by omega) (by omega), hcn]
          congr 2; unfold sg; rw [if_pos hp2, if_pos hp2]; omega
        · rw [if_neg hp2, ih (m - 1) (s + 1) (z + (-1)) (by omega) (by omega), hcn]
          congr 2; unfold sg; rw [if_neg hp2, if_neg hp2]; omega
      · have hg : gk M p s = false := decide_eq_false h2
        rw [hg, if_neg (by decide)] at hcn
        rw [if_neg h2, ih (m - 1) (s + 1) (z + 0) (by omega) (by omega), hcn, Nat.add_zero]
        congr 2; omega
theorem gf_9 {M N : Mem} {n : Nat} {h : Nat → Int32} {pl : Nat → Nat} (k : Lk M N n h pl) {p : Nat} (hp : p < 4) (F : Nat) (z : Int) : fX6_goodForks_L9 (F + 1) (iI z) (nI p) N = fX6_goodForks_L9 F (iI (z + sg p (cn (gk M p) 4 : Nat))) (nI (p + 1)) N := by
  have := gf_16 k hp 40 4 0 z (by omega) (by omega)
  rw [fX6_goodForks_L9.eq_2, if_neg (show ¬ (4 : Int32) ≤ nI p from nI_ge (b := 4) (by omega) (by omega)), show (0 : Int32) = nI 0 from rfl, this, show (nI p + 1 : Int32) = nI (p + 1) from nI_add p 1]
  simp only [ob_s]
  congr 4
/-- the good forks of both -/
theorem goodForks_same {M N : Mem} {n : Nat} {h : Nat → Int32} {pl : Nat → Nat} (k : Lk M N n h pl) : ∃ v, fX5_goodForks M = some v ∧ fX6_goodForks_L9 40 0 0 N = some v := by
  refine ⟨_, by unfold fX5_goodForks; rw [gf_of0 M, gf_of1 M]; rfl, ?_⟩
  have e : fX6_goodForks_L9 40 0 0 N = fX6_goodForks_L9 (39 + 1) (iI 0) (nI 0) N := rfl
  rw [e, gf_9 k (by omega) 39 0, gf_9 k (by omega) 38, gf_9 k (by omega) 37, gf_9 k (by omega) 36]
  rw [show fX6_goodForks_L9 36 = fX6_goodForks_L9 (35 + 1) from rfl, fX6_goodForks_L9.eq_2, if_pos (show (4 : Int32) ≤ nI (0 + 1 + 1 + 1 + 1) by decide), iI_sub]
  congr 2
  simp only [sg]
  simp
  omega
