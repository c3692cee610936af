/-! sets of cards: an int as a set of bits -/
def bt (x : Int32) (c : Nat) : Bool := x.toBitVec.getLsbD c
theorem bt_and (x y : Int32) (c : Nat) : bt (x &&& y) c = (bt x c && bt y c) := by
  simp [bt, Int32.toBitVec_and]
theorem bt_or (x y : Int32) (c : Nat) : bt (x ||| y) c = (bt x c || bt y c) := by
  simp [bt, Int32.toBitVec_or]
theorem bt_xor (x y : Int32) (c : Nat) : bt (x ^^^ y) c = (bt x c ^^ bt y c) := by
  simp [bt, Int32.toBitVec_xor]
theorem bt_m1 {c : Nat} (h : c < 32) : bt (-1) c = true := by
  have : ∀ c : Fin 32, bt (-1) c.val = true := by decide +kernel
  exact this ⟨c, h⟩
theorem bt_not (x : Int32) {c : Nat} (h : c < 32) : bt (x ^^^ (-1)) c = !bt x c := by
  rw [bt_xor, bt_m1 h]; simp
theorem bt_ge (x : Int32) {c : Nat} (h : 32 ≤ c) : bt x c = false := by
  simp only [bt]; exact BitVec.getLsbD_of_ge _ _ h
theorem bt_0 (c : Nat) : bt 0 c = false := by
  simp [bt]
theorem bt_ext {x y : Int32} (h : ∀ c, c < 32 → bt x c = bt y c) : x = y := by
  apply Int32.toBitVec_inj.mp
  apply BitVec.eq_of_getLsbD_eq
  intro i hi
  exact h i hi
theorem bt_ext24 {x y : Int32} (hx : ∀ c, 24 ≤ c → bt x c = false) (hy : ∀ c, 24 ≤ c → bt y c = false) (h : ∀ c, c < 24 → bt x c = bt y c) : x = y := by
  apply bt_ext; intro c _
  rcases Nat.lt_or_ge c 24 with q | q
  · exact h c q
  · rw [hx c q, hy c q]
theorem bt_one {c : Nat} (hc : c < 24) (d : Nat) : bt (sl 1 (nI c)) d = decide (d = c) := by
  rcases Nat.lt_or_ge d 32 with q | q
  · have : ∀ c : Fin 24, ∀ d : Fin 32, bt (sl 1 (nI c.val)) d.val = decide (d.val = c.val) := by decide +kernel
    exact this ⟨c, hc⟩ ⟨d, q⟩
  · rw [bt_ge _ q]
    symm; apply decide_eq_false; omega
theorem bt_eq0 {x : Int32} (h : ∀ c, c < 32 → bt x c = false) : x = 0 := bt_ext (fun c hc => by rw [h c hc, bt_0])
theorem bt_ne0 {x : Int32} (h : x ≠ 0) : ∃ c, c < 32 ∧ bt x c = true := by
  apply Classical.byContradiction; intro hn
  apply h; apply bt_eq0; intro c hc
  cases hb : bt x c with
  | false => rfl
  | true => exact absurd ⟨c, hc, hb⟩ hn
/-- a card's number as an int -/
theorem nI_inj {a b : Nat} (ha : a < 2 ^ 31) (hb : b < 2 ^ 31) (h : nI a = nI b) : a = b := (nI_eq ha hb).mp h
/-- holds, has -/
theorem fX0_holds_eq (x : Int32) {c : Nat} (hc : c < 24) : fX0_holds x (nI c) = if bt x c then 1 else 0 := by
  unfold fX0_holds
  by_cases hb : bt x c = true
  · rw [if_pos hb, if_neg]
    intro h0
    have := congrArg (fun z => bt z c) h0
    simp [bt_and, bt_one hc, hb, bt_0] at this
  · have hb' : bt x c = false := by cases hq : bt x c; rfl; exact absurd hq hb
    rw [if_neg hb, if_pos]
    apply bt_eq0; intro d hd
    rw [bt_and, bt_one hc]
    by_cases hdc : d = c
    · subst hdc; rw [hb']; rfl
    · simp [hdc]
/-- subsets of the 24 cards -/
def c24 (x : Int32) : Prop := ∀ c, 24 ≤ c → bt x c = false
theorem c24_0 : c24 0 := fun c _ => bt_0 c
theorem c24_and {x y : Int32} (h : c24 x) : c24 (x &&& y) := fun c hc => by rw [bt_and, h c hc]; rfl
theorem c24_or {x y : Int32} (h : c24 x) (h' : c24 y) : c24 (x ||| y) := fun c hc => by rw [bt_or, h c hc, h' c hc]; rfl
theorem c24_one {c : Nat} (hc : c < 24) : c24 (sl 1 (nI c)) := fun d hd => by rw [bt_one hc]; apply decide_eq_false; omega
