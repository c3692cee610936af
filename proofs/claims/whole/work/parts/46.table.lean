/-! the reference's table -/
def TS (τ : Nat) (lst : Nat → Nat) (F0 : Int32) (t m : Nat) (E : Nat → Int32) : Prop :=
  ∀ K, K < 4 → ∀ x, subM x F0 → ∀ t', (∀ p, p < 4 → c4 x p = t') → (t' < t ∨ t' = t ∧ x.toBitVec.toNat < m) → E (65536 * K + x.toBitVec.toNat) = nI (V τ (4 * t') (HM lst x) 0 (fun _ => 0) K)
def Bas7 (B M : Mem) : Prop := ∀ i, i ≠ 7 → i ≠ 8 → M i = B i
theorem nI_toNat {m : Nat} (h : m < 2 ^ 32) : (nI m).toBitVec.toNat = m := by
  have : (nI m).toBitVec = BitVec.ofNat 32 m := rfl
  rw [this, BitVec.toNat_ofNat, Nat.mod_eq_of_lt h]
theorem idx_inj {x y : Int32} (h : x.toBitVec.toNat = y.toBitVec.toNat) : x = y := by rw [nI_idx x, nI_idx y, h]
theorem sub_idx {lst : Nat → Nat} {x F0 : Int32} (hl : LK lst F0) (hs : subM x F0) : x.toBitVec.toNat < 65536 := idx_lt (x := x) (n := 16) (fun c hc => by
  cases hb : bt x c with
  | false => rfl
  | true => have := hs c hb; rw [hl.1 c hc] at this; cases this)
theorem c4_le (x : Int32) (p : Nat) : c4 x p ≤ 4 := cn_le _ 4
section TBL
variable {τ : Nat} {lst : Nat → Nat} {F0 : Int32}
theorem L41_0 (n : Nat) (v1 v2 v3 v4 v6 : Int32) (M : Mem) : fX6_layTable_L41 (n + 1) v1 v2 v3 v4 0 v6 M = some 0 := by
  rw [fX6_layTable_L41.eq_2, if_pos rfl]; split <;> rfl
theorem L41_loop {x : Int32} {t : Nat} (ht : t ≤ 4) (v1 v2 : Int32) (M : Mem) : ∀ F m i, m + 1 < F → i + m = 4 → (∀ p, p < i → c4 x p = t) → ∃ v, fX6_layTable_L41 F v1 v2 (nI t) x 1 (nI i) M = some v ∧ ((v = 1 ∧ ∀ p, p < 4 → c4 x p = t) ∨ (v = 0 ∧ ¬ ∀ p, p < 4 → c4 x p = t)) := by
  intro F
  induction F with
  | zero => intro m i h; omega
  | succ F ih =>
    intro m i hm hi hb
    rw [fX6_layTable_L41.eq_2]
    by_cases h4 : 4 ≤ i
    · rw [if_pos (show (4 : Int32) ≤ nI i from nI_le (a := 4) h4 (by omega))]
      exact ⟨1, rfl, Or.inl ⟨rfl, fun p hp => hb p (by omega)⟩⟩
    · rw [if_neg (show ¬ (4 : Int32) ≤ nI i from nI_ge (b := 4) (by omega) (by omega)), if_neg (by decide), countOf_eq (by omega), show (nI i + 1 : Int32) = nI (i + 1) from nI_add i 1]
      have := c4_le x i
      simp only [eq_N (show c4 x i < 2 ^ 31 by omega) (show t < 2 ^ 31 by omega)]
      by_cases hc : c4 x i = t
      · rw [if_pos hc]
        exact ih (m - 1) (i + 1) (by omega) (by omega) (fun p hp => by
          by_cases hpi : p = i
          · subst hpi; exact hc
          · exact hb p (by omega))
      · rw [if_neg hc]
        obtain ⟨F', rfl⟩ : ∃ F', F = F' + 1 := ⟨F - 1, by omega⟩
        exact ⟨0, L41_0 _ _ _ _ _ _ _, Or.inr ⟨rfl, fun z => hc (z i (by omega))⟩⟩
theorem L79_loop {B : Mem} {t m : Nat} (hτ : τ ≤ 4) (hl : LK lst F0) (ht : t ≤ 4) (hm : m < 65536) (hB0 : B 0 0 = tv τ) (hB6 : ∀ j, bt F0 j = true → B 6 j = nI (lst j)) (hB15 : B 0 15 = 0) (hs : subM (nI m) F0) (hf : ∀ p, p < 4 → c4 (nI m) p = t) (v1 v2 : Int32) :
    ∀ (F k K : Nat) (M : Mem), k < F → K + k = 4 → Bas7 B M → TS τ lst F0 t m (M 7) → (∀ K', K' < K → M 7 (65536 * K' + m) = nI (V τ (4 * t) (HM lst (nI m)) 0 (fun _ => 0) K')) → ∃ M', fX6_layTable_L79 F v1 v2 (nI t) (nI m) 1 (nI K) M = some M' ∧ Bas7 B M' ∧ TS τ lst F0 t (m + 1) (M' 7) := by
  intro F
  induction F with
  | zero => intro k K M h; omega
  | succ F ih =>
    intro k K M hk hK hBM hTS hdone
    rw [fX6_layTable_L79.eq_2]
    by_cases h4 : 4 ≤ K
    · rw [if_pos (show (4 : Int32) ≤ nI K from nI_le (a := 4) h4 (by omega))]
      refine ⟨M, rfl, hBM, fun K' hK' x hx t' ht' hor => ?_⟩
      by_cases hxm : x.toBitVec.toNat = m
      · have hxe : x = nI m := by rw [nI_idx x, hxm]
        have htt : t' = t := by rw [← ht' 0 (by omega), ← hf 0 (by omega), hxe]
        rw [hxm, hxe, htt]
        exact hdone K' (by omega)
      · exact hTS K' hK' x hx t' ht' (by omega)
    · have hix : (65536 * nI K + nI m : Int32) = nI (65536 * K + m) := by
        rw [show (65536 : Int32) * nI K = nI (65536 * K) from pk_mul 65536 K, nI_add]
      have hvin : vin (nI (65536 * K + m)) 262144 = true := vin_N (by omega) (by omega)
      rw [if_neg (show ¬ (4 : Int32) ≤ nI K from nI_ge (b := 4) (by omega) (by omega)), if_neg (by decide), hix, cl_N (by omega), show (nI K + 1 : Int32) = nI (K + 1) from nI_add K 1]
      have wr : ∀ (M1 : Mem) (v : Int32), Bas7 B M1 → M1 7 = M 7 → v = nI (V τ (4 * t) (HM lst (nI m)) 0 (fun _ => 0) K) → ∃ M', fX6_layTable_L79 F v1 v2 (nI t) (nI m) 1 (nI (K + 1)) (mset M1 7 (65536 * K + m) v) = some M' ∧ Bas7 B M' ∧ TS τ lst F0 t (m + 1) (M' 7) := by
        intro M1 v hB1 h7 hv
        refine ih (k - 1) (K + 1) _ (by omega) (by omega) (fun i i7 i8 => ?_) (fun K' hK' x hx t' ht' hor => ?_) (fun K' hK' => ?_)
        · rw [← hB1 i i7 i8]; funext b; rw [mset_at, if_neg (fun z => i7 z.1)]
        · have hlt := sub_idx hl hx
          rw [mset_at, if_neg, h7]
          · exact hTS K' hK' x hx t' ht' hor
          · rintro ⟨-, z⟩
            have hxm : x.toBitVec.toNat = m := by omega
            have hxe : x = nI m := by rw [nI_idx x, hxm]
            have htt : t' = t := by rw [← ht' 0 (by omega), ← hf 0 (by omega), hxe]
            omega
        · rw [mset_at]
          by_cases hKK : K' = K
          · subst hKK; rw [if_pos ⟨rfl, rfl⟩]; exact hv
          · rw [if_neg (fun z => by omega), h7]; exact hdone K' (by omega)
      by_cases ht0 : t = 0
      · subst ht0
        rw [if_pos (show nI 0 = 0 from rfl), if_pos hvin]
        exact wr M 0 hBM rfl rfl
      · rw [if_neg (by rw [show (0 : Int32) = nI 0 from rfl, eq_N (by omega) (by omega)]; exact ht0)]
        have hTB : TB τ lst F0 (t - 1) (M 7) := fun K' hK' x hx hc => hTS K' hK' x hx (t - 1) hc (Or.inl (by omega))
        have hCX : CX τ lst F0 (M 7) 0 M := ⟨by rw [hBM 0 (by decide) (by decide)]; exact hB0, fun j hj => by rw [hBM 6 (by decide) (by decide)]; exact hB6 j hj, rfl, by rw [hBM 0 (by decide) (by decide)]; exact hB15⟩
        obtain ⟨M2, e, f, -⟩ := first_ok hτ hl (by omega) ht (show K < 4 by omega) hTB rfl (nI m) M (fun _ => 0) hs hCX (fun i hi => by omega) (fun i hi => by rw [if_neg (by omega)]; exact hf _ (Nat.mod_lt _ (by decide)))
        have e' : fX6_first (nI K) (nI m) M = some (nI (V τ (4 * t - 0) (HM lst (nI m)) 0 (fun _ => 0) K), M2) := e
        rw [e']
        simp only [obind]
        rw [if_pos hvin]
        exact wr M2 _ (fun i i7 i8 => by rw [f i i8]; exact hBM i i7 i8) (f 7 (by decide)) rfl
theorem L15_loop {B : Mem} {t : Nat} (hτ : τ ≤ 4) (hl : LK lst F0) (ht : t ≤ 4) (hB0 : B 0 0 = tv τ) (hB6 : ∀ j, bt F0 j = true → B 6 j = nI (lst j)) (hB15 : B 0 15 = 0) (v2 : Int32) :
    ∀ (F k m : Nat) (M : Mem), k < F → m + k = 65536 → Bas7 B M → TS τ lst F0 t m (M 7) → ∃ M', fX6_layTable_L15 F F0 v2 (nI t) (nI m) M = some M' ∧ Bas7 B M' ∧ TS τ lst F0 t 65536 (M' 7) := by
  intro F
  induction F with
  | zero => intro k m M h; omega
  | succ F ih =>
    intro k m M hk hm hBM hTS
    rw [fX6_layTable_L15.eq_2]
    by_cases h4 : 65536 ≤ m
    · rw [if_pos (show (65536 : Int32) ≤ nI m from nI_le (a := 65536) h4 (by omega))]
      have : m = 65536 := by omega
      subst this
      exact ⟨M, rfl, hBM, hTS⟩
    · rw [if_neg (show ¬ (65536 : Int32) ≤ nI m from nI_ge (b := 65536) (by omega) (by omega)), show (nI m + 1 : Int32) = nI (m + 1) from nI_add m 1]
      have skip : ∀ n', (¬ (subM (nI m) F0 ∧ ∀ p, p < 4 → c4 (nI m) p = t)) → ∃ M', obind (fX6_layTable_L79 70000 F0 v2 (nI t) (nI m) 0 n' M) (fun q9 => fX6_layTable_L15 F F0 v2 (nI t) (nI (m + 1)) q9) = some M' ∧ Bas7 B M' ∧ TS τ lst F0 t 65536 (M' 7) := by
        intro n' hno
        have : fX6_layTable_L79 70000 F0 v2 (nI t) (nI m) 0 n' M = some M := by
          rw [show (70000 : Nat) = 69999 + 1 from rfl, fX6_layTable_L79.eq_2, if_pos rfl]; split <;> rfl
        rw [this]
        refine ih (k - 1) (m + 1) M (by omega) (by omega) hBM (fun K' hK' x hx t' ht' hor => ?_)
        by_cases hxm : x.toBitVec.toNat = m
        · have hxe : x = nI m := by rw [nI_idx x, hxm]
          subst hxe
          by_cases htt : t' = t
          · subst htt; exact absurd ⟨hx, ht'⟩ hno
          · exact hTS K' hK' _ hx t' ht' (by omega)
        · exact hTS K' hK' x hx t' ht' (by omega)
      by_cases hsub : nI m &&& (F0 ^^^ (-1)) = 0
      · rw [if_pos hsub]
        have hs : subM (nI m) F0 := by
          intro c hc
          rcases Nat.lt_or_ge c 32 with q | q
          · have := congrArg (fun z => bt z c) hsub
            simp only [bt_and, bt_not _ q, bt_0, hc, Bool.true_and] at this
            simpa using this
          · rw [bt_ge _ q] at hc; cases hc
        obtain ⟨v, e, hv⟩ := L41_loop (x := nI m) ht F0 v2 M 70000 4 0 (by omega) (by omega) (fun p hp => by omega)
        rw [show (0 : Int32) = nI 0 from rfl, e]
        rcases hv with ⟨rfl, hf⟩ | ⟨rfl, hf⟩
        · obtain ⟨M', e2, b2, ts2⟩ := L79_loop hτ hl ht (by omega) hB0 hB6 hB15 hs hf F0 v2 70000 4 0 M (by omega) (by omega) hBM hTS (fun K' hK' => by omega)
          simp only [obind]
          rw [e2]
          exact ih (k - 1) (m + 1) M' (by omega) (by omega) b2 ts2
        · have := skip (nI 0) (fun z => hf z.2)
          simp only [obind] at this ⊢
          exact this
      · rw [if_neg hsub]
        have e : fX6_layTable_L41 70000 F0 v2 (nI t) (nI m) 0 0 M = some 0 := L41_0 69999 _ _ _ _ _ _
        rw [e]
        have := skip 0 (fun z => hsub (by
          apply bt_eq0; intro c hc
          rw [bt_and, bt_not _ hc]
          cases hb : bt (nI m) c with
          | false => rfl
          | true => rw [z.1 c hb]; rfl))
        simp only [obind] at this ⊢
        exact this
theorem L7_loop {B : Mem} {U : Nat} (hτ : τ ≤ 4) (hl : LK lst F0) (hU : U ≤ 4) (hB0 : B 0 0 = tv τ) (hB6 : ∀ j, bt F0 j = true → B 6 j = nI (lst j)) (hB15 : B 0 15 = 0) :
    ∀ (F k t : Nat) (M : Mem), k < F → t + k = U + 1 → Bas7 B M → TS τ lst F0 t 0 (M 7) → ∃ M', fX6_layTable_L7 F F0 (nI U) (nI t) M = some M' ∧ Bas7 B M' ∧ TS τ lst F0 (U + 1) 0 (M' 7) := by
  intro F
  induction F with
  | zero => intro k t M h; omega
  | succ F ih =>
    intro k t M hk ht hBM hTS
    rw [fX6_layTable_L7.eq_2]
    simp only [lt_N (show U < 2 ^ 31 by omega) (show t < 2 ^ 31 by omega)]
    by_cases h4 : U < t
    · rw [if_pos h4]
      have : t = U + 1 := by omega
      subst this
      exact ⟨M, rfl, hBM, hTS⟩
    · rw [if_neg h4, show (nI t + 1 : Int32) = nI (t + 1) from nI_add t 1]
      obtain ⟨M', e, b, ts⟩ := L15_loop hτ hl (show t ≤ 4 by omega) hB0 hB6 hB15 (nI U) 70000 65536 0 M (by omega) (by omega) hBM hTS
      have e' : fX6_layTable_L15 70000 F0 (nI U) (nI t) 0 M = some M' := e
      rw [e']
      refine ih (k - 1) (t + 1) M' (by omega) (by omega) b (fun K' hK' x hx t' ht' hor => ?_)
      have hlt := sub_idx hl hx
      exact ts K' hK' x hx t' ht' (by omega)
theorem layTable_ok {M : Mem} {U : Nat} (hτ : τ ≤ 4) (hl : LK lst F0) (hU : U ≤ 4) (h0 : M 0 0 = tv τ) (h6 : ∀ j, bt F0 j = true → M 6 j = nI (lst j)) :
    ∃ M', fX6_layTable F0 (nI U) M = some M' ∧ Bas7 (mset M 0 15 0) M' ∧ ∀ j, j ≤ U → TB τ lst F0 j (M' 7) := by
  obtain ⟨M', e, b, ts⟩ := L7_loop (B := mset M 0 15 0) (τ := τ) (lst := lst) hτ hl hU (by rw [mset_at, if_neg (by decide)]; exact h0) (fun j hj => by rw [mset_at, if_neg (fun z => by omega)]; exact h6 j hj) (by rw [mset_at, if_pos ⟨rfl, rfl⟩]) 70000 (U + 1) 0 (mset M 0 15 0) (by omega) (by omega) (fun _ _ _ => rfl) (fun K' hK' x hx t' ht' hor => by omega)
  refine ⟨M', ?_, b, fun j hj K hK x hx hc => ts K hK x hx j hc (Or.inl (by omega))⟩
  unfold fX6_layTable
  have e' : fX6_layTable_L7 70000 F0 (nI U) 0 (mset M 0 15 0) = some M' := e
  rw [e']; rfl
end TBL
