/-! the recursions, closed: a depth of 20 is enough (16 cards) -/
def sS : Nat → Int32 → Int32 → Int32 → Mem → Option (Int32 × Mem)
  | 0 => fun _ _ _ _ => none
  | n + 1 => fX4_search (fX4_tryPlays (sS n))
def rmS : Nat → Room
  | 0 => { frames := 0, cells := 0, slots := 0, locals := 0 }
  | n + 1 => rmX4_search (rmX4_tryPlays (rmS n))
theorem rmS_0 (n : Nat) : (rmS n).cells = 0 ∧ (rmS n).slots = 0 := by cases n <;> exact ⟨rfl, rfl⟩
theorem kS (l : Launch) (D : va_G) (cA : Nat) (ad : Nat → Nat) : ∀ (n : Nat) (a b c : Int32) (M : Mem) (r : Int32 × Mem), sS n a b c M = some r → WiX l yX4_search wsX4_search (rmS n) D cA ad M [.ref (ad 6), .int a, .int b, .int c] r := by
  intro n
  induction n with
  | zero => intro a b c M r h; cases h
  | succ n ih =>
    intro a b c M r h
    exact kX4_search l D cA ad (fX4_tryPlays (sS n)) (rmX4_tryPlays (rmS n)) ⟨rfl, rfl⟩ (fun a b c M r h => kX4_tryPlays l D cA ad (sS n) (rmS n) (rmS_0 n) ih a b c M r h) a b c M r h
def sB : Nat → Int32 → Mem → Option (Int32 × Mem)
  | 0 => fun _ _ => none
  | n + 1 => fX4_byAllPlays (sB n)
def rmB : Nat → Room
  | 0 => { frames := 0, cells := 0, slots := 0, locals := 0 }
  | n + 1 => rmX4_byAllPlays (rmB n)
theorem rmB_0 (n : Nat) : (rmB n).cells = 0 ∧ (rmB n).slots = 0 := by cases n <;> exact ⟨rfl, rfl⟩
theorem kB (l : Launch) (D : va_G) (cA : Nat) (ad : Nat → Nat) : ∀ (n : Nat) (a : Int32) (M : Mem) (r : Int32 × Mem), sB n a M = some r → WiX l yX4_byAllPlays wsX4_byAllPlays (rmB n) D cA ad M [.ref (ad 0), .int a] r := by
  intro n
  induction n with
  | zero => intro a M r h; cases h
  | succ n ih =>
    intro a M r h
    exact kX4_byAllPlays l D cA ad (sB n) (rmB n) (rmB_0 n) ih a M r h
abbrev gX5_solve (M : Mem) : Option Res := fX5_solve (sS 20) M
abbrev rgX5_solve : Room := rmX5_solve (rmS 20)
theorem kgX5_solve (l : Launch) (D : va_G) (cA : Nat) (ad sa : Nat → Nat) (hst : l.stackTraces = false) (M : Mem) (r : Res) (h : gX5_solve M = some r) : Ti l yX5_solve wsX5_solve rgX5_solve D cA ad sa M [.ref (ad 8)] 1 6 r := kX5_solve l D cA ad sa hst (sS 20) (rmS 20) (rmS_0 20) (kS l D cA ad 20) M r h
abbrev gX5_value (p1 : Int32) (M : Mem) : Option Res := fX5_value (sS 20) p1 M
abbrev rgX5_value : Room := rmX5_value (rmS 20)
theorem kgX5_value (l : Launch) (D : va_G) (cA : Nat) (ad sa : Nat → Nat) (hst : l.stackTraces = false) (p1 : Int32) (M : Mem) (r : Res) (h : gX5_value p1 M = some r) : Ti l yX5_value wsX5_value rgX5_value D cA ad sa M [.ref (ad 8), .int p1] 2 12 r := kX5_value l D cA ad sa hst (sS 20) (rmS 20) (rmS_0 20) (kS l D cA ad 20) p1 M r h
abbrev gX5_bestCard (M : Mem) : Option Res := fX5_bestCard (sS 20) M
abbrev rgX5_bestCard : Room := rmX5_bestCard (rmS 20)
theorem kgX5_bestCard (l : Launch) (D : va_G) (cA : Nat) (ad sa : Nat → Nat) (hst : l.stackTraces = false) (M : Mem) (r : Res) (h : gX5_bestCard M = some r) : Ti l yX5_bestCard wsX5_bestCard rgX5_bestCard D cA ad sa M [.ref (ad 8)] 1 6 r := kX5_bestCard l D cA ad sa hst (sS 20) (rmS 20) (rmS_0 20) (kS l D cA ad 20) M r h
abbrev gX5_solveByAll (M : Mem) : Option Res := fX5_solveByAll (sB 20) M
abbrev rgX5_solveByAll : Room := rmX5_solveByAll (rmB 20)
theorem kgX5_solveByAll (l : Launch) (D : va_G) (cA : Nat) (ad sa : Nat → Nat) (hst : l.stackTraces = false) (M : Mem) (r : Res) (h : gX5_solveByAll M = some r) : Ti l yX5_solveByAll wsX5_solveByAll rgX5_solveByAll D cA ad sa M [.ref (ad 8)] 2 12 r := kX5_solveByAll l D cA ad sa hst (sB 20) (rmB 20) (rmB_0 20) (kB l D cA ad 20) M r h
