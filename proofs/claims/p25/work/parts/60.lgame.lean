/-! the law's look at a game: nothing differs -/
theorem dv_0 (x : Int32) (M : Mem) : dv (0, x, M) = x := rfl
theorem dv_2 (x : Int32) (M : Mem) : dv (2, x, M) = -13 := rfl
theorem dv9_0 (b : Bool) (M : Mem) : dv9 (0, b01 b, M) = b01 b := by cases b <;> rfl
theorem dv9_2 (x : Int32) (M : Mem) : dv9 (2, x, M) = -13 := rfl
abbrev allH (N : Mem) : Int32 := N 0 0 ||| N 0 1 ||| N 0 2 ||| N 0 3
theorem LK.all {N : Mem} {n : Nat} {h : Nat → Int32} {pl : Nat → Nat} (r : LK N n h pl) (d : Nat) : bt (allH N) d = true ↔ ∃ q, q < 4 ∧ bt (h q) d = true := by
  show bt (N 0 0 ||| N 0 1 ||| N 0 2 ||| N 0 3) d = true ↔ _
  rw [bt_or, bt_or, bt_or, r.2.2.2.1 0 (by omega), r.2.2.2.1 1 (by omega), r.2.2.2.1 2 (by omega), r.2.2.2.1 3 (by omega)]
  simp only [Bool.or_eq_true]
  constructor
  · rintro (((z | z) | z) | z)
    · exact ⟨0, by omega, z⟩
    · exact ⟨1, by omega, z⟩
    · exact ⟨2, by omega, z⟩
    · exact ⟨3, by omega, z⟩
  · rintro ⟨q, q1, q2⟩
    obtain rfl | rfl | rfl | rfl : q = 0 ∨ q = 1 ∨ q = 2 ∨ q = 3 := by omega
    · exact Or.inl (Or.inl (Or.inl q2))
    · exact Or.inl (Or.inl (Or.inr q2))
    · exact Or.inl (Or.inr q2)
    · exact Or.inr q2
section GO
variable {M N : Mem} {n : Nat} {h : Nat → Int32} {pl : Nat → Nat}
theorem g_cards (k : Lk M n h pl) (r : LK N n h pl) {v4 v6 : Int32} : ∀ F m c, m < F → c + m = n % 4 → fL_isGame_L135 F v4 (nI (n % 4)) v6 1 (nI c) M N = some (1, M, N) := by
  have hn := k.1
  intro F
  induction F with
  | zero => intro m c h; omega
  | succ F ih =>
    intro m c hm hc
    rw [fL_isGame_L135.eq_2]
    simp only [le_N (show n % 4 < 2 ^ 31 by omega) (show c < 2 ^ 31 by omega)]
    by_cases hle : n % 4 ≤ c
    · rw [if_pos hle]
    · rw [if_neg hle, if_neg (show ¬ (1 : Int32) = 0 by decide)]
      have e : fL_isGame_R147 v4 (nI (n % 4)) v6 (nI c) M N = some (1, M, N) := by
        unfold fL_isGame_R147
        rw [c_cardIn k (by omega), r.2.2.2.2.1, pk_sub (by omega), nI_add, if_pos (show (0 : Nat) = 0 from rfl), if_pos (vin_N (by omega) (by omega)), cl_N (by omega), r.2.2.2.2.2 _ (by omega), if_pos rfl]
      rw [e, ob_s, nI_1]
      exact ih (m - 1) (c + 1) (by omega) (by omega)
theorem g_count (k : Lk M n h pl) (r : LK N n h pl) {v4 v6 v8 : Int32} {p : Nat} (hp : p < 4) : ∀ F m c, m < F → c + m = 24 → fL_isGame_L206 F v4 v6 v8 (nI p) (nI (cn (unl n h pl p) c)) (nI (cn (qck n h pl p) c)) (nI c) M N = some (nI (cn (unl n h pl p) 24), nI (cn (qck n h pl p) 24)) := by
  have hx := (k.oth hp).1
  intro F
  induction F with
  | zero => intro m c h; omega
  | succ F ih =>
    intro m c hm hc
    rw [fL_isGame_L206.eq_2]
    by_cases h24 : 24 ≤ c
    · rw [if_pos (show (24 : Int32) ≤ nI c from nI_le (a := 24) h24 (by omega)), show c = 24 by omega]
    · rw [if_neg (show ¬ (24 : Int32) ≤ nI c from nI_ge (b := 24) (by omega) (by omega))]
      have hu : cn (unl n h pl p) (c + 1) = cn (unl n h pl p) c + (if unl n h pl p c then 1 else 0) := rfl
      have hq : cn (qck n h pl p) (c + 1) = cn (qck n h pl p) c + (if qck n h pl p c then 1 else 0) := rfl
      have e1 : fL_isGame_R213 v4 v6 v8 (nI p) (nI (cn (unl n h pl p) c)) (nI (cn (qck n h pl p) c)) (nI c) M N = some (nI (cn (unl n h pl p) (c + 1))) := by
        unfold fL_isGame_R213
        rw [if_pos (vin_N hp (by omega)), cl_N (by omega), r.2.2.2.1 p hp, lhas (by omega), hu, nI_1, show (nI (cn (unl n h pl p) c) + 0 : Int32) = nI (cn (unl n h pl p) c + 0) from nI_add _ 0]
        cases hb : bt (h p) c with
        | false =>
          have hf : unl n h pl p c = false := bq_f.mpr (fun z => by rw [hb] at z; cases z.1)
          rw [if_pos (show b01 false = 0 from rfl), hf]; rfl
        | true =>
          obtain ⟨L, eL, l⟩ := r.lowest hp (by omega) hb hx
          rw [if_neg (show ¬ b01 true = 0 by decide), eL, ob_s]
          simp only [eq_N (show L < 2 ^ 31 by have := l.1; omega) (show c < 2 ^ 31 by omega)]
          by_cases hLc : L = c
          · have hf : unl n h pl p c = true := bq_t.mpr ⟨hb, by rw [hLc] at l; exact l⟩
            rw [if_pos hLc, hf]; rfl
          · have hf : unl n h pl p c = false := bq_f.mpr (fun z => hLc (l.uniq z.2))
            rw [if_neg hLc, hf]; rfl
      have e2 : fL_isGame_R248 v4 v6 v8 (nI p) (nI (cn (unl n h pl p) (c + 1))) (nI (cn (qck n h pl p) c)) (nI c) M N = some (nI (cn (qck n h pl p) (c + 1))) := by
        unfold fL_isGame_R248
        rw [if_pos (vin_N hp (by omega)), cl_N (by omega), r.2.2.2.1 p hp, lhas (by omega), hq, nI_1, show (nI (cn (qck n h pl p) c) + 0 : Int32) = nI (cn (qck n h pl p) c + 0) from nI_add _ 0]
        cases hb : bt (h p) c with
        | false =>
          have hf : qck n h pl p c = false := bq_f.mpr (fun z => by rw [hb] at z; cases z.1)
          rw [if_pos (show b01 false = 0 from rfl), hf]; rfl
        | true =>
          rw [if_neg (show ¬ b01 true = 0 by decide), r.top hp (by omega) hb, ob_s]
          cases ht : bq (Tp (OB n h pl p) c) with
          | true =>
            have hf : qck n h pl p c = true := bq_t.mpr ⟨hb, bq_t.mp ht⟩
            rw [if_neg (show ¬ b01 true = 0 by decide), hf]; rfl
          | false =>
            have hf : qck n h pl p c = false := bq_f.mpr (fun z => bq_f.mp ht z.2)
            rw [if_pos (show b01 false = 0 from rfl), hf]; rfl
      rw [e1, ob_s, e2, ob_s, nI_1]
      exact ih (m - 1) (c + 1) (by omega) (by omega)
theorem g_forks (k : Lk M n h pl) (r : LK N n h pl) {v4 v6 : Int32} {p : Nat} (hp : p < 4) : ∀ F m s (z : Int), m < F → s + m = 4 → fL_isGame_L332 F v4 v6 1 (iI z) (nI p) (nI s) M N = some (1, iI (z + sg p ((cn (gk M p) 4 : Nat) - (cn (gk M p) s : Nat))), M, N) := by
  intro F
  induction F with
  | zero => intro m s z h; omega
  | succ F ih =>
    intro m s z hm hs
    rw [fL_isGame_L332.eq_2]
    by_cases h4 : 4 ≤ s
    · rw [if_pos (show (4 : Int32) ≤ nI s from nI_le (a := 4) h4 (by omega)), show s = 4 by omega]
      have e0 : z + sg p ((cn (gk M p) 4 : Nat) - (cn (gk M p) 4 : Nat)) = z := by unfold sg; split <;> omega
      rw [e0]
    · have hcn : cn (gk M p) (s + 1) = cn (gk M p) s + (if gk M p s then 1 else 0) := rfl
      rw [if_neg (show ¬ (4 : Int32) ≤ nI s from nI_ge (b := 4) (by omega) (by omega)), if_neg (show ¬ (1 : Int32) = 0 by decide), fork_eq k r hp (by omega), ob_s]
      have e1 : ∃ z' : Int, fL_isGame_R353 v4 v6 (iI z) (nI p) (nI s) (fX3_forkKind (nI p) (nI s) M) M N = some (iI z') ∧ z' + sg p ((cn (gk M p) 4 : Nat) - (cn (gk M p) (s + 1) : Nat)) = z + sg p ((cn (gk M p) 4 : Nat) - (cn (gk M p) s : Nat)) := by
        unfold fL_isGame_R353
        rw [im_2 (by omega)]
        by_cases h2 : fX3_forkKind (nI p) (nI s) M = 2
        · have hg : gk M p s = true := decide_eq_true h2
          rw [hg, if_pos rfl] at hcn
          rw [if_pos h2]
          by_cases hp2 : p % 2 = 0
          · refine ⟨z + 1, ?_, ?_⟩
            · rw [hp2, show (1 - nI 0 * 2 : Int32) = 1 by decide, show (iI z + 1 : Int32) = iI (z + 1) from iI_add z 1]
            · unfold sg; rw [if_pos hp2, if_pos hp2, hcn]; omega
          · refine ⟨z + (-1), ?_, ?_⟩
            · rw [show p % 2 = 1 by omega, show (1 - nI 1 * 2 : Int32) = -1 by decide, iI_dec]
            · unfold sg; rw [if_neg hp2, if_neg hp2, hcn]; omega
        · have hg : gk M p s = false := decide_eq_false h2
          rw [hg, if_neg (by decide)] at hcn
          rw [if_neg h2]
          refine ⟨z, ?_, ?_⟩
          · rw [show (iI z + 0 : Int32) = iI (z + 0) from iI_add z 0, Int.add_zero]
          · rw [hcn]; rfl
      obtain ⟨z', e1, e2⟩ := e1
      have e3 : fL_isGame_R376 v4 v6 (iI z') (nI p) (nI s) (fX3_forkKind (nI p) (nI s) M) M N = some (1, M, N) := by
        unfold fL_isGame_R376
        rw [c_fork hp (by omega), if_pos (show (0 : Nat) = 0 from rfl), if_pos rfl]
      rw [e1, ob_s, e3, ob_s, nI_1, ih (m - 1) (s + 1) z' (by omega) (by omega), e2]
theorem g_player (k : Lk M n h pl) (r : LK N n h pl) {v4 v6 : Int32} {p : Nat} (hp : p < 4) (F : Nat) (z : Int) : fL_isGame_L186 (F + 1) v4 v6 1 (iI z) (nI p) M N = fL_isGame_L186 F v4 v6 1 (iI (z + sg p (cn (gk M p) 4 : Nat))) (nI (p + 1)) M N := by
  rw [fL_isGame_L186.eq_2, if_neg (show ¬ (4 : Int32) ≤ nI p from nI_ge (b := 4) (by omega) (by omega)), if_neg (show ¬ (1 : Int32) = 0 by decide)]
  have e1 := g_count k r (v4 := v4) (v6 := v6) (v8 := iI z) hp 25 24 0 (by omega) (by omega)
  have e1' : fL_isGame_L206 25 v4 v6 (iI z) (nI p) 0 0 0 M N = _ := e1
  have e2 : fL_isGame_R287 v4 v6 (iI z) (nI p) (nI (cn (unl n h pl p) 24)) (nI (cn (qck n h pl p) 24)) M N = some (1, M, N) := by
    unfold fL_isGame_R287
    rw [c_hand k hp, if_pos (show (0 : Nat) = 0 from rfl), if_pos (vin_N hp (by omega)), cl_N (by omega), r.2.2.2.1 p hp, if_pos rfl, c_unlike k hp, ob_s, if_pos rfl, if_pos rfl, c_quick k hp, ob_s, if_pos rfl, if_pos rfl]
  have e3 := g_forks k r (v4 := v4) (v6 := v6) hp 5 4 0 z (by omega) (by omega)
  have e3' : fL_isGame_L332 5 v4 v6 1 (iI z) (nI p) 0 M N = _ := e3
  rw [e1', ob_s]
  dsimp only
  rw [e2, ob_s]
  dsimp only
  rw [e3', ob_s]
  dsimp only
  rw [nI_1]
  congr 3
theorem g_card (k : Lk M n h pl) (r : LK N n h pl) {tu v8 : Int32} {c : Nat} (hc : c < 24) {b : Bool} (hcp : fX5_canPlay (nI c) M = (0, b01 b, M)) (hb : (tu < 0 ∧ b = false) ∨ (¬ tu < 0 ∧ fL_can (N 2 0) (nI c) N = some (b01 b))) : fL_isGame_R423 (allH N) tu v8 (nI c) M N = some (1, M, N) := by
  unfold fL_isGame_R423
  rw [hcp, lhas (by omega)]
  by_cases hex : ∃ q, q < 4 ∧ bt (h q) c = true
  · have hall : bt (allH N) c = true := (r.all c).mpr hex
    obtain ⟨q, q1, q2⟩ := hex
    obtain ⟨L, eL, l⟩ := c_low1 k q1 hc q2
    obtain ⟨L', eL', l'⟩ := r.lowest q1 hc q2 (k.oth q1).1
    have hLL := l.uniq l'
    subst hLL
    have et := c_top1 k q1 hc q2
    have et' := r.top q1 hc q2
    simp only [hall, eL, eL', et, et', ob_s, dv_0, dv9_0]
    generalize bq (Tp (OB n h pl q) c) = t
    rcases hb with ⟨h1, rfl⟩ | ⟨h1, h2⟩
    · cases t <;> simp [h1, b01]
    · cases t <;> cases b <;> simp [h1, h2, b01, ob_s]
  · have hno : ∀ q, q < 4 → bt (h q) c = false := fun q hq => by
      cases hz : bt (h q) c with
      | false => rfl
      | true => exact absurd ⟨q, hq, hz⟩ hex
    have hall : bt (allH N) c = false := by
      cases hz : bt (allH N) c with
      | false => rfl
      | true => exact absurd ((r.all c).mp hz) hex
    have eL := c_low0 k hc hno
    have et := c_top0 k hc hno
    simp only [hall, eL, et, ob_s, dv_2, dv9_2]
    rcases hb with ⟨h1, rfl⟩ | ⟨h1, h2⟩
    · simp [h1, b01]
    · cases b <;> simp [h1, h2, b01, ob_s]
theorem g_deck (k : Lk M n h pl) (r : LK N n h pl) {tu v8 : Int32} {cp : Nat → Bool} (hcp : ∀ c, c < 24 → fX5_canPlay (nI c) M = (0, b01 (cp c), M) ∧ ((tu < 0 ∧ cp c = false) ∨ (¬ tu < 0 ∧ fL_can (N 2 0) (nI c) N = some (b01 (cp c))))) : ∀ F m c, m < F → c + m = 24 → fL_isGame_L411 F (allH N) tu 1 v8 (nI c) M N = some (1, M, N) := by
  intro F
  induction F with
  | zero => intro m c h; omega
  | succ F ih =>
    intro m c hm hc
    rw [fL_isGame_L411.eq_2]
    by_cases h24 : 24 ≤ c
    · rw [if_pos (show (24 : Int32) ≤ nI c from nI_le (a := 24) h24 (by omega))]
    · rw [if_neg (show ¬ (24 : Int32) ≤ nI c from nI_ge (b := 24) (by omega) (by omega)), if_neg (show ¬ (1 : Int32) = 0 by decide), g_card k r (by omega) (hcp c (by omega)).1 (hcp c (by omega)).2, ob_s, nI_1]
      exact ih (m - 1) (c + 1) (by omega) (by omega)
theorem game_ok (k : Lk M n h pl) (r : LK N n h pl) {tu w0 w1 : Int32} {st : Bool} {cp : Nat → Bool} (hst : fX5_isStarted M = some (b01 st)) (hN : N 2 3 = b01 st) (htu : fX5_turn M = tu) (hR : fL_isGame_R24 (allH N) (nI (n % 4)) M N = some tu)
    (h0 : fX5_won 0 M = some (0, w0, M)) (g0 : fL_tricks (N 2 0) 0 N = some w0) (h1 : fX5_won 1 M = some (0, w1, M)) (g1 : fL_tricks (N 2 0) 1 N = some w1)
    (hcp : ∀ c, c < 24 → fX5_canPlay (nI c) M = (0, b01 (cp c), M) ∧ ((tu < 0 ∧ cp c = false) ∨ (¬ tu < 0 ∧ fL_can (N 2 0) (nI c) N = some (b01 (cp c))))) : fL_isGame M N = some (1, M, N) := by
  have hn := k.1
  have hb : im (N 2 0) 4 = nI (n % 4) := by rw [r.2.2.2.2.1, im_4 (by omega)]
  have e54 : fL_isGame_R54 (allH N) (nI (n % 4)) tu M N = some (1, M, N) := by
    unfold fL_isGame_R54
    rw [hst, ob_s, hN, htu, k.size, h0, g0]
    have tail : ∀ X : Option (Int32 × Mem × Mem), (if tu = tu then (if nI (n % 4) = nI (n % 4) then obind (some ((0, w0, M) : Res)) (fun q29 => if q29.1 = 0 then obind (some w0) (fun q30 => if q29.2.1 = q30 then obind (fX5_won 1 q29.2.2) (fun q33 => if q33.1 = 0 then obind (fL_tricks (N 2 0) 1 N) (fun q34 => if q33.2.1 = q34 then some (1, q33.2.2, N) else some (0, q33.2.2, N)) else none) else some (0, q29.2.2, N)) else none) else some ((0 : Int32), M, N)) else X) = some (1, M, N) := fun X => by
      rw [if_pos rfl, if_pos rfl, ob_s]
      dsimp only
      rw [if_pos rfl, ob_s, if_pos rfl, h1, ob_s]
      dsimp only
      rw [if_pos rfl, g1, ob_s, if_pos rfl]
    cases st with
    | true =>
      rw [if_pos (show b01 true = 1 from rfl), if_pos (show b01 true = 1 from rfl)]
      exact tail _
    | false =>
      rw [if_neg (show ¬ b01 false = 1 by decide), if_pos (show b01 false = 0 from rfl)]
      exact tail _
  have e135 : fL_isGame_L135 5 (allH N) (nI (n % 4)) tu 1 0 M N = some (1, M, N) := g_cards k r 5 (n % 4) 0 (by omega) (by omega)
  have e186 : fL_isGame_L186 5 (allH N) tu 1 0 0 M N = some (1, iI (0 + sg 0 (cn (gk M 0) 4 : Nat) + sg 1 (cn (gk M 1) 4 : Nat) + sg 2 (cn (gk M 2) 4 : Nat) + sg 3 (cn (gk M 3) 4 : Nat)), M, N) := by
    have e : fL_isGame_L186 5 (allH N) tu 1 0 0 M N = fL_isGame_L186 (4 + 1) (allH N) tu 1 (iI 0) (nI 0) M N := rfl
    rw [e, g_player k r (by omega) 4 0, g_player k r (by omega) 3, g_player k r (by omega) 2, g_player k r (by omega) 1]
    rw [show fL_isGame_L186 1 = fL_isGame_L186 (0 + 1) from rfl, fL_isGame_L186.eq_2, if_pos (show (4 : Int32) ≤ nI (0 + 1 + 1 + 1 + 1) by decide)]
  have e411 := g_deck k r (v8 := iI (0 + sg 0 (cn (gk M 0) 4 : Nat) + sg 1 (cn (gk M 1) 4 : Nat) + sg 2 (cn (gk M 2) 4 : Nat) + sg 3 (cn (gk M 3) 4 : Nat))) hcp 25 24 0 (by omega) (by omega)
  have e411' : fL_isGame_L411 25 (allH N) tu 1 _ 0 M N = some (1, M, N) := e411
  unfold fL_isGame
  rw [hb]
  show obind (fL_isGame_R24 (allH N) (nI (n % 4)) M N) _ = _
  rw [hR, ob_s]
  show obind (fL_isGame_R54 (allH N) (nI (n % 4)) tu M N) _ = _
  rw [e54, ob_s]
  show obind (fL_isGame_L135 5 (allH N) (nI (n % 4)) tu 1 0 M N) _ = _
  rw [e135, ob_s]
  show obind (fL_isGame_L186 5 (allH N) tu 1 0 0 M N) _ = _
  rw [e186, ob_s]
  show obind (fL_isGame_L411 25 (allH N) tu 1 _ 0 M N) _ = _
  rw [e411', ob_s]
  dsimp only
  rw [if_neg (show ¬ (1 : Int32) = 0 by decide), c_good M, ob_s, if_pos rfl]
end GO
