/-! finished, fourth, third, second, first -/
def TB (τ : Nat) (lst : Nat → Nat) (F0 : Int32) (j : Nat) (E7 : Nat → Int32) : Prop := ∀ K, K < 4 → ∀ x, subM x F0 → (∀ p, p < 4 → c4 x p = j) → E7 (65536 * K + x.toBitVec.toNat) = nI (V τ (4 * j) (HM lst x) 0 (fun _ => 0) K)
theorem obind_fin {α β : Type} {γ : Type} (a : Option α) (m : β) (f : α × β → Option γ) : obind (obind a (fun r => some (r, m))) f = obind a (fun r => f (r, m)) := by cases a <;> rfl
def PS (τ : Nat) (lst : Nat → Nat) (F0 : Int32) (E7 : Nat → Int32) (q j k L : Nat) (g : Int32 → Mem → Option (Int32 × Mem)) : Prop :=
  ∀ x M t, subM x F0 → CX τ lst F0 E7 q M → (∀ i, i < k → M 8 i = nI (t i) ∧ t i < 24) → Cnt x L k j → ∃ M', g x M = some (nI (V τ (4 * j - k) (HM lst x) k t L), M') ∧ (∀ i, i ≠ 8 → M' i = M i) ∧ ∀ i, i < k → M' 8 i = M 8 i
section FS
variable {τ : Nat} {lst : Nat → Nat} {F0 : Int32} {E7 : Nat → Int32} {q j L : Nat}
theorem finished_ok (hτ : τ ≤ 4) (hl : LK lst F0) (hj : 1 ≤ j) (hj4 : j ≤ 4) (hL : L < 4) (hT : TB τ lst F0 (j - 1) E7) {x : Int32} {M : Mem} {t : Nat → Nat} (hs : subM x F0) (hC : CX τ lst F0 E7 q M) (h8 : ∀ i, i < 4 → M 8 i = nI (t i) ∧ t i < 24) (hcnt : Cnt x L 4 j) :
    fX6_finished (nI L) x M = some (nI ((if (L + plc τ t) % 4 % 2 = 0 then 1 else 0) + V τ (4 * j - 4) (HM lst x) 0 t ((L + plc τ t) % 4))) := by
  unfold fX6_finished
  have t0 := (h8 0 (by omega)).2
  rw [(h8 0 (by omega)).1, dv_6 (by omega)]
  have := walk_plc (α := Int32) (τ := τ) (u := t 0 / 6) (t := t) rfl (fun n a b => fX6_finished_L16 n (nI L) x (nI (t 0 / 6)) a b M) some (fun n p q hp hq => by
    show fX6_finished_L16 (n + 1) (nI L) x (nI (t 0 / 6)) (nI p) (nI q) M = _
    rw [fX6_finished_L16.eq_2, if_neg (show ¬ (4 : Int32) ≤ nI q from nI_ge (b := 4) (by omega) (by omega)), if_pos (vin_N hq (by omega)), if_pos (vin_N hp (by omega)), cl_N (by omega), cl_N (by omega), (h8 q hq).1, (h8 p hp).1, weight_eq hC.1 hτ (by omega) (h8 q hq).2, weight_eq hC.1 hτ (by omega) (h8 p hp).2]
    have w1 := wt_lt τ (t 0 / 6) (t q)
    have w2 := wt_lt τ (t 0 / 6) (t p)
    simp only [le_N (show wt τ (t 0 / 6) (t q) < 2 ^ 31 by omega) (show wt τ (t 0 / 6) (t p) < 2 ^ 31 by omega)]
    rw [show (nI q + 1 : Int32) = nI (q + 1) from nI_add q 1]) (fun n p hp => by
    show fX6_finished_L16 (n + 1) (nI L) x (nI (t 0 / 6)) (nI p) (nI 4) M = _
    rw [fX6_finished_L16.eq_2, if_pos (show (4 : Int32) ≤ nI 4 from by decide)])
  have e : fX6_finished_L16 40 (nI L) x (nI (t 0 / 6)) 0 1 M = some (nI (plc τ t)) := this
  rw [e]
  have hpl := plc_lt τ t
  have hx := idx_lt (x := x) (n := 16) (fun c hc => by
    cases hb : bt x c with
    | false => rfl
    | true => have := hs c hb; rw [hl.1 c hc] at this; cases this)
  have hbal : ∀ p, p < 4 → c4 x p = j - 1 := fun p hp => by
    have := hcnt ((p + 4 - L) % 4) (Nat.mod_lt _ (by decide))
    rw [if_pos (Nat.mod_lt _ (by decide)), show (L + (p + 4 - L) % 4) % 4 = p by omega] at this
    omega
  simp only [obind]
  rw [nI_add, im_4 (by omega)]
  have hK : (L + plc τ t) % 4 < 4 := Nat.mod_lt _ (by decide)
  have hTK := hT _ hK x hs hbal
  generalize (L + plc τ t) % 4 = K at hK hTK ⊢
  rw [im_2 (by omega)]
  have hxe := nI_idx x
  have hix : (65536 * nI K + x : Int32) = nI (65536 * K + x.toBitVec.toNat) := by
    conv => lhs; rw [hxe]
    rw [show (65536 : Int32) * nI K = nI (65536 * K) from pk_mul 65536 K, nI_add]
  have hvin : vin (nI (65536 * K + x.toBitVec.toNat)) 262144 = true := vin_N (by omega) (by omega)
  rw [hix, cl_N (by omega), hC.2.2.1, hTK]
  have hV : V τ (4 * (j - 1)) (HM lst x) 0 (fun _ => 0) K = V τ (4 * j - 4) (HM lst x) 0 t K := by
    rw [show 4 * (j - 1) = 4 * j - 4 by omega]
    exact V_congr τ _ _ _ 0 _ _ _ (by omega) (fun _ _ _ _ => rfl) (fun i hi => by omega)
  rw [hV]
  simp only [show (0 : Int32) = nI 0 from rfl, eq_N (show K % 2 < 2 ^ 31 by omega) (show 0 < 2 ^ 31 by omega)]
  by_cases h2 : K % 2 = 0
  · rw [if_pos h2, if_pos h2, if_pos hvin, show (1 : Int32) + nI (V τ (4 * j - 4) (HM lst x) 0 t K) = nI (1 + V τ (4 * j - 4) (HM lst x) 0 t K) from nI_add 1 _]
  · rw [if_neg h2, if_neg h2, if_pos hvin, nI_add]
theorem fourth_ok (hτ : τ ≤ 4) (hl : LK lst F0) (hj : 1 ≤ j) (hj4 : j ≤ 4) (hL : L < 4) (hT : TB τ lst F0 (j - 1) E7) (hq : q ≤ 3) : PS τ lst F0 E7 q j 3 L (fun x M => fX6_fourth (nI L) x M) := by
  intro x M t hs hC h8 hcnt
  obtain ⟨M', e, f⟩ := place_ok (τ := τ) (lst := lst) (F0 := F0) (E7 := E7) (q := q) (j := j) (k := 3) (L := L) (fun x n b i M => fX6_fourth_L27 n (nI L) x (nI ((L + 3) % 4)) b i M) (fun x M => obind (fX6_finished (nI L) x M) (fun r => some (r, M))) hl (by omega) hj hj4 (fun x n b i M => by
    simp only [obind_fin]
    exact fX6_fourth_L27.eq_2 _ _ _ _ _ _ _) (fun x M t hs hC h8 hcnt => by
    refine ⟨M, ?_, fun _ _ => rfl, fun _ _ => rfl⟩
    rw [finished_ok hτ hl hj hj4 hL hT hs hC h8 hcnt]
    rfl) x M t hs hC h8 hcnt
  refine ⟨M', ?_, f⟩
  show fX6_fourth (nI L) x M = _
  unfold fX6_fourth
  rw [hC.2.2.2, if_pos (show nI q ≤ 3 from nI_le (b := 3) hq (by omega)), show (nI L + 3 : Int32) = nI (L + 3) from nI_add L 3, im_4 (by omega), e]
  rfl
theorem third_ok (hτ : τ ≤ 4) (hl : LK lst F0) (hj : 1 ≤ j) (hj4 : j ≤ 4) (hL : L < 4) (hT : TB τ lst F0 (j - 1) E7) (hq : q ≤ 2) : PS τ lst F0 E7 q j 2 L (fun x M => fX6_third (nI L) x M) := by
  intro x M t hs hC h8 hcnt
  obtain ⟨M', e, f⟩ := place_ok (τ := τ) (lst := lst) (F0 := F0) (E7 := E7) (q := q) (j := j) (k := 2) (L := L) (fun x n b i M => fX6_third_L27 n (nI L) x (nI ((L + 2) % 4)) b i M) (fun x M => fX6_fourth (nI L) x M) hl (by omega) hj hj4 (fun x n b i M => fX6_third_L27.eq_2 _ _ _ _ _ _ _) (fun x M t hs hC h8 hcnt => by
    obtain ⟨M', g1, g2, g3⟩ := fourth_ok hτ hl hj hj4 hL hT (show q ≤ 3 by omega) x M t hs hC h8 hcnt
    exact ⟨M', g1, g2, fun i hi => g3 i (by omega)⟩) x M t hs hC h8 hcnt
  refine ⟨M', ?_, f⟩
  show fX6_third (nI L) x M = _
  unfold fX6_third
  rw [hC.2.2.2, if_pos (show nI q ≤ 2 from nI_le (b := 2) hq (by omega)), show (nI L + 2 : Int32) = nI (L + 2) from nI_add L 2, im_4 (by omega), e]
  rfl
theorem second_ok (hτ : τ ≤ 4) (hl : LK lst F0) (hj : 1 ≤ j) (hj4 : j ≤ 4) (hL : L < 4) (hT : TB τ lst F0 (j - 1) E7) (hq : q ≤ 1) : PS τ lst F0 E7 q j 1 L (fun x M => fX6_second (nI L) x M) := by
  intro x M t hs hC h8 hcnt
  obtain ⟨M', e, f⟩ := place_ok (τ := τ) (lst := lst) (F0 := F0) (E7 := E7) (q := q) (j := j) (k := 1) (L := L) (fun x n b i M => fX6_second_L27 n (nI L) x (nI ((L + 1) % 4)) b i M) (fun x M => fX6_third (nI L) x M) hl (by omega) hj hj4 (fun x n b i M => fX6_second_L27.eq_2 _ _ _ _ _ _ _) (fun x M t hs hC h8 hcnt => by
    obtain ⟨M', g1, g2, g3⟩ := third_ok hτ hl hj hj4 hL hT (show q ≤ 2 by omega) x M t hs hC h8 hcnt
    exact ⟨M', g1, g2, fun i hi => g3 i (by omega)⟩) x M t hs hC h8 hcnt
  refine ⟨M', ?_, f⟩
  show fX6_second (nI L) x M = _
  unfold fX6_second
  rw [hC.2.2.2, if_pos (show nI q ≤ 1 from nI_le (b := 1) hq (by omega)), show (nI L + 1 : Int32) = nI (L + 1) from nI_add L 1, im_4 (by omega), e]
  rfl
theorem first_ok (hτ : τ ≤ 4) (hl : LK lst F0) (hj : 1 ≤ j) (hj4 : j ≤ 4) (hL : L < 4) (hT : TB τ lst F0 (j - 1) E7) (hq : q = 0) : PS τ lst F0 E7 q j 0 L (fun x M => fX6_first (nI L) x M) := by
  intro x M t hs hC h8 hcnt
  have hL0 : (L + 0) % 4 = L := by omega
  obtain ⟨M', e, f⟩ := place_ok (τ := τ) (lst := lst) (F0 := F0) (E7 := E7) (q := q) (j := j) (k := 0) (L := L) (fun x n b i M => fX6_first_L19 n (nI L) x b i M) (fun x M => fX6_second (nI L) x M) hl (by omega) hj hj4 (fun x n b i M => by rw [hL0]; exact fX6_first_L19.eq_2 _ _ _ _ _ _) (fun x M t hs hC h8 hcnt => by
    obtain ⟨M', g1, g2, g3⟩ := second_ok hτ hl hj hj4 hL hT (show q ≤ 1 by omega) x M t hs hC h8 hcnt
    exact ⟨M', g1, g2, fun i hi => g3 i (by omega)⟩) x M t hs hC h8 hcnt
  refine ⟨M', ?_, f⟩
  show fX6_first (nI L) x M = _
  unfold fX6_first
  rw [hC.2.2.2, hq, if_pos (show nI 0 ≤ 0 from by decide), e]
  rfl
theorem obind_pair {α β : Type} (a : Option (α × β)) : obind a (fun q => some (q.1, q.2)) = a := by cases a <;> rfl
/-- with q cards in the trick already -/
theorem first_q (hτ : τ ≤ 4) (hl : LK lst F0) (hj : 1 ≤ j) (hj4 : j ≤ 4) (hL : L < 4) (hT : TB τ lst F0 (j - 1) E7) (hq : q < 4) {x : Int32} {M : Mem} {t : Nat → Nat} (hs : subM x F0) (hC : CX τ lst F0 E7 q M) (h8 : ∀ i, i < q → M 8 i = nI (t i) ∧ t i < 24) (hcnt : Cnt x L q j) :
    ∃ M', fX6_first (nI L) x M = some (nI (V τ (4 * j - q) (HM lst x) q t L), M') ∧ ∀ i, i ≠ 8 → M' i = M i := by
  obtain h | h | h | h : q = 0 ∨ q = 1 ∨ q = 2 ∨ q = 3 := by omega
  · obtain ⟨M', e, f, -⟩ := first_ok hτ hl hj hj4 hL hT h x M t hs hC (fun i hi => by omega) (by rw [h] at hcnt; exact hcnt)
    rw [h]; exact ⟨M', e, f⟩
  · obtain ⟨M', e, f, -⟩ := second_ok hτ hl hj hj4 hL hT (show q ≤ 1 by omega) x M t hs hC (fun i hi => h8 i (by omega)) (by rw [h] at hcnt; exact hcnt)
    refine ⟨M', ?_, f⟩
    unfold fX6_first
    rw [hC.2.2.2, h, if_neg (show ¬ nI 1 ≤ 0 by decide), obind_pair]
    exact e
  · obtain ⟨M', e, f, -⟩ := third_ok hτ hl hj hj4 hL hT (show q ≤ 2 by omega) x M t hs hC (fun i hi => h8 i (by omega)) (by rw [h] at hcnt; exact hcnt)
    refine ⟨M', ?_, f⟩
    unfold fX6_first fX6_second
    rw [hC.2.2.2, h, if_neg (show ¬ nI 2 ≤ 0 by decide), if_neg (show ¬ nI 2 ≤ 1 by decide), obind_pair, obind_pair]
    exact e
  · obtain ⟨M', e, f, -⟩ := fourth_ok hτ hl hj hj4 hL hT (show q ≤ 3 by omega) x M t hs hC (fun i hi => h8 i (by omega)) (by rw [h] at hcnt; exact hcnt)
    refine ⟨M', ?_, f⟩
    unfold fX6_first fX6_second fX6_third
    rw [hC.2.2.2, h, if_neg (show ¬ nI 3 ≤ 0 by decide), if_neg (show ¬ nI 3 ≤ 1 by decide), if_neg (show ¬ nI 3 ≤ 2 by decide), obind_pair, obind_pair, obind_pair]
    exact e
/-- with a full trick -/
theorem first_4 (hτ : τ ≤ 4) (hl : LK lst F0) (hj : 1 ≤ j) (hj4 : j ≤ 4) (hL : L < 4) (hT : TB τ lst F0 (j - 1) E7) {x : Int32} {M : Mem} {t : Nat → Nat} (hs : subM x F0) (hC : CX τ lst F0 E7 4 M) (h8 : ∀ i, i < 4 → M 8 i = nI (t i) ∧ t i < 24) (hcnt : Cnt x L 4 j) :
    fX6_first (nI L) x M = some (nI ((if (L + plc τ t) % 4 % 2 = 0 then 1 else 0) + V τ (4 * j - 4) (HM lst x) 0 t ((L + plc τ t) % 4)), M) := by
  unfold fX6_first fX6_second fX6_third fX6_fourth
  rw [hC.2.2.2, if_neg (show ¬ nI 4 ≤ 0 by decide), if_neg (show ¬ nI 4 ≤ 1 by decide), if_neg (show ¬ nI 4 ≤ 2 by decide), if_neg (show ¬ nI 4 ≤ 3 by decide), obind_pair, obind_pair, obind_pair, finished_ok hτ hl hj hj4 hL hT hs hC h8 hcnt]
  rfl
end FS
