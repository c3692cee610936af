/-! the law's own rows: hands 0, cards 1, numbers 2; best makes two more, fork one -/
def wH (cA : Nat) (ad : Nat → Nat) (M : Mem) : va_W := [(ad 0, .inl (cA, 4, .inl (M 0))), (ad 1, .inl (cA, 16, .inl (M 1))), (ad 2, .inl (cA, 4, .inl (M 2)))]
def wB (cA : Nat) (ad : Nat → Nat) (o3 o4 : Nat) (M : Mem) : va_W := [(ad 0, .inl (cA, 4, .inl (M 0))), (ad 1, .inl (cA, 16, .inl (M 1))), (ad 2, .inl (cA, 4, .inl (M 2))), (o3, .inl (cA, 17, .inl (M 3))), (o4, .inl (cA, 17, .inl (M 4)))]
def wF (cA : Nat) (ad : Nat → Nat) (o3 : Nat) (M : Mem) : va_W := [(ad 0, .inl (cA, 4, .inl (M 0))), (ad 1, .inl (cA, 16, .inl (M 1))), (ad 2, .inl (cA, 4, .inl (M 2))), (o3, .inl (cA, 3, .inl (M 3)))]
def AXH (ad : Nat → Nat) (sz : Nat) : Nat → Prop := fun q => (∃ k, k < 3 ∧ q = ad k) ∨ sz ≤ q
theorem AXH.mono {ad : Nat → Nat} {sz sz' q : Nat} (hs : sz ≤ sz') (h : AXH ad sz' q) : AXH ad sz q := by
  rcases h with h | h
  · exact Or.inl h
  · exact Or.inr (Nat.le_trans hs h)
theorem AXH.own (ad : Nat → Nat) (sz : Nat) {k : Nat} (h : k < 3) : AXH ad sz (ad k) := Or.inl ⟨k, h, rfl⟩
theorem AXH.ofH {cA : Nat} {ad : Nat → Nat} {M : Mem} {sz : Nat} {B : Nat → Prop} (h : va_D B (wH cA ad M)) : va_D (AXH ad sz) (wH cA ad M) :=
  h.weaken (fun k q hk _ => by
    match k, hk with
    | 0, hk => cases hk; exact AXH.own ad sz (by decide)
    | 1, hk => cases hk; exact AXH.own ad sz (by decide)
    | 2, hk => cases hk; exact AXH.own ad sz (by decide)
    | k + 3, hk => simp [wH] at hk)

theorem va_D.left {A : Nat → Prop} {w1 w2 : va_W} (h : va_D A (w1 ++ w2)) : va_D A w1 := by
  have key : ∀ (i : Nat) (q : Nat × va_E), w1[i]? = some q → (w1 ++ w2)[i]? = some q := fun i q hq => by
    rw [List.getElem?_append_left (by exact (List.getElem?_eq_some_iff.mp hq).1)]; exact hq
  exact ⟨fun i j p q hp hq => h.1 i j p q (key i p hp) (key j q hq), fun k q hk => h.2 k q (key k q hk)⟩
theorem va_D.right {A : Nat → Prop} {w1 w2 : va_W} (h : va_D A (w1 ++ w2)) : va_D A w2 := by
  have key : ∀ (i : Nat) (q : Nat × va_E), w2[i]? = some q → (w1 ++ w2)[w1.length + i]? = some q := fun i q hq => by
    rw [List.getElem?_append_right (by omega)]; rw [show w1.length + i - w1.length = i by omega]; exact hq
  refine ⟨fun i j p q hp hq hpq => ?_, fun k q hk => h.2 _ q (key k q hk)⟩
  have := h.1 _ _ p q (key i p hp) (key j q hq) hpq
  omega
theorem va_D.cross {A : Nat → Prop} {w1 w2 : va_W} (h : va_D A (w1 ++ w2)) {i j : Nat} {p q : Nat × va_E} (hp : w1[i]? = some p) (hq : w2[j]? = some q) : p.1 ≠ q.1 := by
  intro e
  have h1 : (w1 ++ w2)[i]? = some p := by rw [List.getElem?_append_left (by exact (List.getElem?_eq_some_iff.mp hp).1)]; exact hp
  have h2 : (w1 ++ w2)[w1.length + j]? = some q := by rw [List.getElem?_append_right (by omega)]; rw [show w1.length + j - w1.length = j by omega]; exact hq
  have := h.1 _ _ p q h1 h2 e
  have hl := (List.getElem?_eq_some_iff.mp hp).1
  omega
/-- a world whose cells a step doesn't touch stays -/
theorem va_P.off {D : va_G} {cl : List vw_C} {w : va_W} {H H1 : Heap} {A1 : Nat → Prop} (h : va_P D cl w H) (hk : ∀ q : Nat, q < H.size → ¬ A1 q → H1[q]? = H[q]?) (ho : ∀ (k : Nat) (q : Nat × va_E), w[k]? = some q → ¬ A1 q.1) : va_P D cl w H1 :=
  fun k q hq => (h k q hq).kept (hk q.1 (h k q hq).lt (ho k q hq))
theorem ad_at (cA : Nat) (ad : Nat → Nat) (M : Mem) : ∀ k, k < 9 → ∃ e, (wX cA ad M)[k]? = some (ad k, e) := by
  intro k hk
  match k, hk with
  | 0, _ => exact ⟨_, rfl⟩
  | 1, _ => exact ⟨_, rfl⟩
  | 2, _ => exact ⟨_, rfl⟩
  | 3, _ => exact ⟨_, rfl⟩
  | 4, _ => exact ⟨_, rfl⟩
  | 5, _ => exact ⟨_, rfl⟩
  | 6, _ => exact ⟨_, rfl⟩
  | 7, _ => exact ⟨_, rfl⟩
  | 8, _ => exact ⟨_, rfl⟩
/-- .. a world apart from the class's own cells -/
theorem off_AX {A : Nat → Prop} {D : va_G} {cl : List vw_C} {cA : Nat} {ad : Nat → Nat} {M : Mem} {w : va_W} {H : Heap} (hD : va_D A (wX cA ad M ++ w)) (hP : va_P D cl w H) : ∀ (k : Nat) (q : Nat × va_E), w[k]? = some q → ¬ AX ad H.size q.1 := by
  intro k q hq h
  rcases h with ⟨j, hj, e⟩ | h
  · obtain ⟨z, hz⟩ := ad_at cA ad M j hj
    exact hD.cross hz hq e.symm
  · have := (hP k q hq).lt
    omega
/-- world H: the heap holds it; the classes are known -/
def PH (D : va_G) (cA : Nat) (ad : Nat → Nat) (M : Mem) (U : State) : Prop := va_P D vwCl (wH cA ad M) U.heap ∧ va_K D vwCl [(cA, .int)] U
def BH (D : va_G) (cA : Nat) (ad : Nat → Nat) (sz : Nat) (M : Mem) (U : State) : Prop := U.heap.size = sz ∧ PH D cA ad M U ∧ va_D (fun _ => True) (wH cA ad M)
def EH (D : va_G) (cA : Nat) (ad : Nat → Nat) (sz : Nat) (M : Mem) (U : State) : Prop := PH D cA ad M U ∧ va_D (AXH ad sz) (wH cA ad M)
theorem PH.call {D : va_G} {cA : Nat} {ad : Nat → Nat} {M : Mem} {U : State} {g : JFrame} {mk : MethodId} {a : Array Value} (h : PH D cA ad M U) : PH D cA ad M (U.calling g mk a) := ⟨h.1, va_K.moved (u := U) (U := U.calling g mk a) (Vm.Alike.refl U.vm) h.2⟩
theorem PH.blind {D : va_G} {cA : Nat} {ad : Nat → Nat} {M : Mem} {as : List Value} : FrameBlind (va_Pc as (PH D cA ad M)) := fun _ _ _ _ h => ⟨h.1, PH.call h.2⟩
theorem BH.blind {D : va_G} {cA : Nat} {ad : Nat → Nat} {sz : Nat} {M : Mem} {as : List Value} : FrameBlind (va_Pc as (BH D cA ad sz M)) := fun _ _ _ _ h => ⟨h.1, h.2.1, PH.call h.2.2.1, h.2.2.2⟩
/-- a reader's contract: the heap stays as it is -/
abbrev RdH (l : Launch) (y : MethodName) (ws : List Cond) (rm : Room) (D : va_G) (cA : Nat) (ad : Nat → Nat) (M : Mem) (as : List Value) (r : Int32) : Prop :=
  Met l y ws rm (va_Pc as (PH D cA ad M)) (vp_Si (fun x => x = r)) 0 0 (fun _ => False)
/-- a writer's contract: an int -/
abbrev WiH (l : Launch) (y : MethodName) (ws : List Cond) (rm : Room) (D : va_G) (cA : Nat) (ad : Nat → Nat) (M : Mem) (as : List Value) (mc ms : Nat) (r : Int32 × Mem) : Prop :=
  ∀ sz : Nat, Met l y ws rm (va_Pc as (BH D cA ad sz M)) (va_Qi (fun (x : Int32) (_ : Unit) => x = r.1) (fun _ t => EH D cA ad sz r.2 t) (AXH ad sz)) mc ms (AXH ad sz)

theorem RdH.of {l : Launch} {y : MethodName} {ws ws' : List Cond} {rm : Room} {D : va_G} {cA : Nat} {ad : Nat → Nat} {M : Mem} {as : List Value} {r : Int32} {cc : ByteArray} {maxL : Nat} {ty : FieldType} (own : String) (hy : plainName y.cls = true) (ho : y.cls = own) (hw : ws = Cond.code y cc maxL (some ty) :: ws') (hlen : (lg_sl as).length ≤ maxL)
    (body : ∀ (p : Program) (e : Env) (s : State) (m : MethodId) (args : Array Value) (below : List Frame) (meth : Method) (c : Code) (Q : State → Prop) (ls : Array Slot), CallFix p m c cc maxL s args ws own → va_K D vwCl [(cA, .int)] s → va_P D vwCl (wH cA ad M) s.heap → lv_has ls maxL (lv_args 0 as) →
      (∀ (v : Int32) (pc : Nat) (ls : Array Slot), v = r → narrow ty (.int v) = .int v → decode cc pc = .ok (.ireturn, 1) → W p l e rm s m args below meth c s.heap [] 0 0 Q (F0 m pc ls [.int v])) →
      W p l e rm s m args below meth c s.heap [] 0 0 Q (F0 m 0 ls [])) : RdH l y ws rm D cA ad M as r := by
  refine Met.ofW (cc := cc) (maxL := maxL) (ret := some ty) hy hw ?_
  intro p e s m args below meth c s₁ B hml hv
  obtain ⟨rfl, hP, hK⟩ := hv
  subst ho
  have hl := lv_entry as hlen
  rw [lg_entry_eq]
  have hlocks := B.notSynchronized
  exact body p e s m _ below meth c _ _ ⟨B.exec, B.bytes, hml, findClass_of_methodNamed B.named, atoms_spec (ws := ws) B.pre⟩ hK hP hl (fun v pc ls hvr hn hdg => W.zret (v := v) B.exec B.bytes B.returns hn (fun t ht hW => ⟨v, rfl, hvr, ht⟩) (fun q hq => nomatch hq) hdg)
theorem WiH.of {l : Launch} {y : MethodName} {ws ws' : List Cond} {rm : Room} {D : va_G} {cA : Nat} {ad : Nat → Nat} {M : Mem} {as : List Value} {mc ms : Nat} {r : Int32 × Mem} {cc : ByteArray} {maxL : Nat} {ty : FieldType} (own : String) (hy : plainName y.cls = true) (ho : y.cls = own) (hw : ws = Cond.code y cc maxL (some ty) :: ws') (hlen : (lg_sl as).length ≤ maxL)
    (body : ∀ (p : Program) (e : Env) (s : State) (m : MethodId) (args : Array Value) (below : List Frame) (meth : Method) (c : Code) (Q : State → Prop) (ls : Array Slot) (A : Nat → Prop), A = AXH ad s.heap.size → CallFix p m c cc maxL s args ws own → va_K D vwCl [(cA, .int)] s → va_P D vwCl (wH cA ad M) s.heap → (∀ M : Mem, va_D A (wH cA ad M)) → va_S A s.heap s.heap [] → lv_has ls maxL (lv_args 0 as) →
      (∀ (v : Int32) (pc : Nat) (ls : Array Slot) (H : Heap) (locs : List Loc), v = r.1 → narrow ty (.int v) = .int v → va_P D vwCl (wH cA ad r.2) H → va_S A s.heap H locs → decode cc pc = .ok (.ireturn, 1) → W p l e rm s m args below meth c H locs mc ms Q (F0 m pc ls [.int v])) →
      W p l e rm s m args below meth c s.heap [] 0 0 Q (F0 m 0 ls [])) : WiH l y ws rm D cA ad M as mc ms r := by
  intro sz
  refine Met.ofW (cc := cc) (maxL := maxL) (ret := some ty) hy hw ?_
  intro p e s m args below meth c s₁ B hml hv
  obtain ⟨rfl, hsz, ⟨hP, hK⟩, hD⟩ := hv
  subst ho
  subst hsz
  have hl := lv_entry as hlen
  rw [lg_entry_eq]
  have hlocks := B.notSynchronized
  exact body p e s m _ below meth c _ _ _ rfl ⟨B.exec, B.bytes, hml, findClass_of_methodNamed B.named, atoms_spec (ws := ws) B.pre⟩ hK hP (fun M' => (AXH.ofH hD).same rfl) va_S.rf hl (fun v pc ls H locs hvr hn hP1 hS hdg => W.zret (v := v) B.exec B.bytes B.returns hn (fun t ht hW => ⟨⟨v, (), rfl, hvr, ⟨by rw [ht]; exact hP1, va_K.moved hW.alike hK⟩, (AXH.ofH hD).same rfl⟩, hS.F ht⟩) hS.2.2 hdg)

section WL
variable {p : Program} {l : Launch} {e : Env} {R : Room} {s : State} {m : MethodId} {args : Array Value} {below : List Frame} {meth : Method} {c : Code} {H : Heap} {locs : List Loc} {cells slots : Nat} {Q : State → Prop}
variable {cc : ByteArray} {pc : Nat} {ls : Array Slot} {rest st0 : List Value} {nL : Nat} {Ts : List Cond} {own : String} {D : va_G} {cA : Nat} {ad ah sa : Nat → Nat} {M N : Mem} {A : Nat → Prop} {H0 : Heap} {sz o3 o4 : Nat} {mc ms : Nat}
/-- a static reader over the law's rows -/
theorem cSRH (S5 : CallFix p m c cc nL s args Ts own) (hK : va_K D vwCl [(cA, .int)] s) (hP : va_P D vwCl (wH cA ad M) H) {n index maxL : Nat} {y : MethodName} {ws : List Cond} {rm : Room} {As : List Value} {r : Int32} {bytes : ByteArray} {ret : Option FieldType} (hM : RdH l y ws rm D cA ad M As r) (cw : CallB R s args own index y bytes maxL ret ws rm 0 0 n ∧ (Cond.static y).before args s = true) (hn : As.length = n) (hsz : ls.size = nL) (hst : st0 = As.reverse ++ rest) (hrm : (rest.map fun v => v.category).sum ≤ 8) (hdg : decode cc pc = .ok (.invokestatic index, 3)) (hf : cells ≤ R.cells ∧ slots ≤ R.slots)
    (kk : W p l e R s m args below meth c H locs cells slots Q (F0 m (pc + 3) ls (.int r :: rest))) : W p l e R s m args below meth c H locs cells slots Q (F0 m pc ls st0) := by
  subst hst
  exact vp_callSi (W.runS S5 hM cw ⟨PH.blind, fun U hU hW => ⟨rfl, by rw [PH, hU]; exact ⟨hP, va_K.moved hW.alike hK⟩⟩⟩ rfl hn hsz rfl (lv_room hrm) hdg hf) (fun x hx => by subst hx; exact kk)
theorem alH0 (S5 : CallFix p m c cc nL s args Ts own) (hK : va_K D vwCl [(cA, .int)] s) (hP : va_P D vwCl (wH cA ad M) H) {i v : Int32} (hi : vin i 4 = true) (hv : M 0 i.toNatClampNeg = v) (hdg : decode cc pc = .ok (.iaload, 1)) (kk : W p l e R s m args below meth c H locs cells slots Q (F0 m (pc + 1) ls (.int v :: rest))) : W p l e R s m args below meth c H locs cells slots Q (F0 m pc ls (.int i :: .ref (ad 0) :: rest)) := by
  subst hv
  exact va_iald S5.1 S5.2.1 hK hP 0 0 rfl rfl (vin_in hi) hdg kk
theorem alH1 (S5 : CallFix p m c cc nL s args Ts own) (hK : va_K D vwCl [(cA, .int)] s) (hP : va_P D vwCl (wH cA ad M) H) {i v : Int32} (hi : vin i 16 = true) (hv : M 1 i.toNatClampNeg = v) (hdg : decode cc pc = .ok (.iaload, 1)) (kk : W p l e R s m args below meth c H locs cells slots Q (F0 m (pc + 1) ls (.int v :: rest))) : W p l e R s m args below meth c H locs cells slots Q (F0 m pc ls (.int i :: .ref (ad 1) :: rest)) := by
  subst hv
  exact va_iald S5.1 S5.2.1 hK hP 1 0 rfl rfl (vin_in hi) hdg kk
theorem alH2 (S5 : CallFix p m c cc nL s args Ts own) (hK : va_K D vwCl [(cA, .int)] s) (hP : va_P D vwCl (wH cA ad M) H) {i v : Int32} (hi : vin i 4 = true) (hv : M 2 i.toNatClampNeg = v) (hdg : decode cc pc = .ok (.iaload, 1)) (kk : W p l e R s m args below meth c H locs cells slots Q (F0 m (pc + 1) ls (.int v :: rest))) : W p l e R s m args below meth c H locs cells slots Q (F0 m pc ls (.int i :: .ref (ad 2) :: rest)) := by
  subst hv
  exact va_iald S5.1 S5.2.1 hK hP 2 0 rfl rfl (vin_in hi) hdg kk
theorem alB0 (S5 : CallFix p m c cc nL s args Ts own) (hK : va_K D vwCl [(cA, .int)] s) (hP : va_P D vwCl (wB cA ad o3 o4 M) H) {i v : Int32} (hi : vin i 4 = true) (hv : M 0 i.toNatClampNeg = v) (hdg : decode cc pc = .ok (.iaload, 1)) (kk : W p l e R s m args below meth c H locs cells slots Q (F0 m (pc + 1) ls (.int v :: rest))) : W p l e R s m args below meth c H locs cells slots Q (F0 m pc ls (.int i :: .ref (ad 0) :: rest)) := by
  subst hv
  exact va_iald S5.1 S5.2.1 hK hP 0 0 rfl rfl (vin_in hi) hdg kk
theorem asB0 (S5 : CallFix p m c cc nL s args Ts own) (hK : va_K D vwCl [(cA, .int)] s) (hP : va_P D vwCl (wB cA ad o3 o4 M) H) (hD : ∀ M : Mem, va_D A (wB cA ad o3 o4 M)) (hS : va_S A H0 H locs) {i v : Int32} (hi : vin i 4 = true) {k : Nat} (hk : i.toNatClampNeg = k) (hdg : decode cc pc = .ok (.iastore, 1)) (kk : ∀ (H1 : Heap) (locs1 : List Loc), va_P D vwCl (wB cA ad o3 o4 (mset M 0 k v)) H1 → va_S A H0 H1 locs1 → W p l e R s m args below meth c H1 locs1 cells slots Q (F0 m (pc + 1) ls rest)) : W p l e R s m args below meth c H locs cells slots Q (F0 m pc ls (.int v :: .int i :: .ref (ad 0) :: rest)) := by
  subst hk
  exact va_iast S5.1 S5.2.1 hK hP (hD M) hS 0 0 rfl rfl (vin_in hi) hdg (fun H1 locs1 hP1 _ hS1 => kk H1 locs1 hP1 hS1)
theorem alB1 (S5 : CallFix p m c cc nL s args Ts own) (hK : va_K D vwCl [(cA, .int)] s) (hP : va_P D vwCl (wB cA ad o3 o4 M) H) {i v : Int32} (hi : vin i 16 = true) (hv : M 1 i.toNatClampNeg = v) (hdg : decode cc pc = .ok (.iaload, 1)) (kk : W p l e R s m args below meth c H locs cells slots Q (F0 m (pc + 1) ls (.int v :: rest))) : W p l e R s m args below meth c H locs cells slots Q (F0 m pc ls (.int i :: .ref (ad 1) :: rest)) := by
  subst hv
  exact va_iald S5.1 S5.2.1 hK hP 1 0 rfl rfl (vin_in hi) hdg kk
theorem asB1 (S5 : CallFix p m c cc nL s args Ts own) (hK : va_K D vwCl [(cA, .int)] s) (hP : va_P D vwCl (wB cA ad o3 o4 M) H) (hD : ∀ M : Mem, va_D A (wB cA ad o3 o4 M)) (hS : va_S A H0 H locs) {i v : Int32} (hi : vin i 16 = true) {k : Nat} (hk : i.toNatClampNeg = k) (hdg : decode cc pc = .ok (.iastore, 1)) (kk : ∀ (H1 : Heap) (locs1 : List Loc), va_P D vwCl (wB cA ad o3 o4 (mset M 1 k v)) H1 → va_S A H0 H1 locs1 → W p l e R s m args below meth c H1 locs1 cells slots Q (F0 m (pc + 1) ls rest)) : W p l e R s m args below meth c H locs cells slots Q (F0 m pc ls (.int v :: .int i :: .ref (ad 1) :: rest)) := by
  subst hk
  exact va_iast S5.1 S5.2.1 hK hP (hD M) hS 1 0 rfl rfl (vin_in hi) hdg (fun H1 locs1 hP1 _ hS1 => kk H1 locs1 hP1 hS1)
theorem alB2 (S5 : CallFix p m c cc nL s args Ts own) (hK : va_K D vwCl [(cA, .int)] s) (hP : va_P D vwCl (wB cA ad o3 o4 M) H) {i v : Int32} (hi : vin i 4 = true) (hv : M 2 i.toNatClampNeg = v) (hdg : decode cc pc = .ok (.iaload, 1)) (kk : W p l e R s m args below meth c H locs cells slots Q (F0 m (pc + 1) ls (.int v :: rest))) : W p l e R s m args below meth c H locs cells slots Q (F0 m pc ls (.int i :: .ref (ad 2) :: rest)) := by
  subst hv
  exact va_iald S5.1 S5.2.1 hK hP 2 0 rfl rfl (vin_in hi) hdg kk
theorem asB2 (S5 : CallFix p m c cc nL s args Ts own) (hK : va_K D vwCl [(cA, .int)] s) (hP : va_P D vwCl (wB cA ad o3 o4 M) H) (hD : ∀ M : Mem, va_D A (wB cA ad o3 o4 M)) (hS : va_S A H0 H locs) {i v : Int32} (hi : vin i 4 = true) {k : Nat} (hk : i.toNatClampNeg = k) (hdg : decode cc pc = .ok (.iastore, 1)) (kk : ∀ (H1 : Heap) (locs1 : List Loc), va_P D vwCl (wB cA ad o3 o4 (mset M 2 k v)) H1 → va_S A H0 H1 locs1 → W p l e R s m args below meth c H1 locs1 cells slots Q (F0 m (pc + 1) ls rest)) : W p l e R s m args below meth c H locs cells slots Q (F0 m pc ls (.int v :: .int i :: .ref (ad 2) :: rest)) := by
  subst hk
  exact va_iast S5.1 S5.2.1 hK hP (hD M) hS 2 0 rfl rfl (vin_in hi) hdg (fun H1 locs1 hP1 _ hS1 => kk H1 locs1 hP1 hS1)
theorem alB3 (S5 : CallFix p m c cc nL s args Ts own) (hK : va_K D vwCl [(cA, .int)] s) (hP : va_P D vwCl (wB cA ad o3 o4 M) H) {i v : Int32} (hi : vin i 17 = true) (hv : M 3 i.toNatClampNeg = v) (hdg : decode cc pc = .ok (.iaload, 1)) (kk : W p l e R s m args below meth c H locs cells slots Q (F0 m (pc + 1) ls (.int v :: rest))) : W p l e R s m args below meth c H locs cells slots Q (F0 m pc ls (.int i :: .ref (o3) :: rest)) := by
  subst hv
  exact va_iald S5.1 S5.2.1 hK hP 3 0 rfl rfl (vin_in hi) hdg kk
theorem asB3 (S5 : CallFix p m c cc nL s args Ts own) (hK : va_K D vwCl [(cA, .int)] s) (hP : va_P D vwCl (wB cA ad o3 o4 M) H) (hD : ∀ M : Mem, va_D A (wB cA ad o3 o4 M)) (hS : va_S A H0 H locs) {i v : Int32} (hi : vin i 17 = true) {k : Nat} (hk : i.toNatClampNeg = k) (hdg : decode cc pc = .ok (.iastore, 1)) (kk : ∀ (H1 : Heap) (locs1 : List Loc), va_P D vwCl (wB cA ad o3 o4 (mset M 3 k v)) H1 → va_S A H0 H1 locs1 → W p l e R s m args below meth c H1 locs1 cells slots Q (F0 m (pc + 1) ls rest)) : W p l e R s m args below meth c H locs cells slots Q (F0 m pc ls (.int v :: .int i :: .ref (o3) :: rest)) := by
  subst hk
  exact va_iast S5.1 S5.2.1 hK hP (hD M) hS 3 0 rfl rfl (vin_in hi) hdg (fun H1 locs1 hP1 _ hS1 => kk H1 locs1 hP1 hS1)
theorem alB4 (S5 : CallFix p m c cc nL s args Ts own) (hK : va_K D vwCl [(cA, .int)] s) (hP : va_P D vwCl (wB cA ad o3 o4 M) H) {i v : Int32} (hi : vin i 17 = true) (hv : M 4 i.toNatClampNeg = v) (hdg : decode cc pc = .ok (.iaload, 1)) (kk : W p l e R s m args below meth c H locs cells slots Q (F0 m (pc + 1) ls (.int v :: rest))) : W p l e R s m args below meth c H locs cells slots Q (F0 m pc ls (.int i :: .ref (o4) :: rest)) := by
  subst hv
  exact va_iald S5.1 S5.2.1 hK hP 4 0 rfl rfl (vin_in hi) hdg kk
theorem asB4 (S5 : CallFix p m c cc nL s args Ts own) (hK : va_K D vwCl [(cA, .int)] s) (hP : va_P D vwCl (wB cA ad o3 o4 M) H) (hD : ∀ M : Mem, va_D A (wB cA ad o3 o4 M)) (hS : va_S A H0 H locs) {i v : Int32} (hi : vin i 17 = true) {k : Nat} (hk : i.toNatClampNeg = k) (hdg : decode cc pc = .ok (.iastore, 1)) (kk : ∀ (H1 : Heap) (locs1 : List Loc), va_P D vwCl (wB cA ad o3 o4 (mset M 4 k v)) H1 → va_S A H0 H1 locs1 → W p l e R s m args below meth c H1 locs1 cells slots Q (F0 m (pc + 1) ls rest)) : W p l e R s m args below meth c H locs cells slots Q (F0 m pc ls (.int v :: .int i :: .ref (o4) :: rest)) := by
  subst hk
  exact va_iast S5.1 S5.2.1 hK hP (hD M) hS 4 0 rfl rfl (vin_in hi) hdg (fun H1 locs1 hP1 _ hS1 => kk H1 locs1 hP1 hS1)
theorem alF0 (S5 : CallFix p m c cc nL s args Ts own) (hK : va_K D vwCl [(cA, .int)] s) (hP : va_P D vwCl (wF cA ad o3 M) H) {i v : Int32} (hi : vin i 4 = true) (hv : M 0 i.toNatClampNeg = v) (hdg : decode cc pc = .ok (.iaload, 1)) (kk : W p l e R s m args below meth c H locs cells slots Q (F0 m (pc + 1) ls (.int v :: rest))) : W p l e R s m args below meth c H locs cells slots Q (F0 m pc ls (.int i :: .ref (ad 0) :: rest)) := by
  subst hv
  exact va_iald S5.1 S5.2.1 hK hP 0 0 rfl rfl (vin_in hi) hdg kk
theorem alF1 (S5 : CallFix p m c cc nL s args Ts own) (hK : va_K D vwCl [(cA, .int)] s) (hP : va_P D vwCl (wF cA ad o3 M) H) {i v : Int32} (hi : vin i 16 = true) (hv : M 1 i.toNatClampNeg = v) (hdg : decode cc pc = .ok (.iaload, 1)) (kk : W p l e R s m args below meth c H locs cells slots Q (F0 m (pc + 1) ls (.int v :: rest))) : W p l e R s m args below meth c H locs cells slots Q (F0 m pc ls (.int i :: .ref (ad 1) :: rest)) := by
  subst hv
  exact va_iald S5.1 S5.2.1 hK hP 1 0 rfl rfl (vin_in hi) hdg kk
theorem alF2 (S5 : CallFix p m c cc nL s args Ts own) (hK : va_K D vwCl [(cA, .int)] s) (hP : va_P D vwCl (wF cA ad o3 M) H) {i v : Int32} (hi : vin i 4 = true) (hv : M 2 i.toNatClampNeg = v) (hdg : decode cc pc = .ok (.iaload, 1)) (kk : W p l e R s m args below meth c H locs cells slots Q (F0 m (pc + 1) ls (.int v :: rest))) : W p l e R s m args below meth c H locs cells slots Q (F0 m pc ls (.int i :: .ref (ad 2) :: rest)) := by
  subst hv
  exact va_iald S5.1 S5.2.1 hK hP 2 0 rfl rfl (vin_in hi) hdg kk
theorem alF3 (S5 : CallFix p m c cc nL s args Ts own) (hK : va_K D vwCl [(cA, .int)] s) (hP : va_P D vwCl (wF cA ad o3 M) H) {i v : Int32} (hi : vin i 3 = true) (hv : M 3 i.toNatClampNeg = v) (hdg : decode cc pc = .ok (.iaload, 1)) (kk : W p l e R s m args below meth c H locs cells slots Q (F0 m (pc + 1) ls (.int v :: rest))) : W p l e R s m args below meth c H locs cells slots Q (F0 m pc ls (.int i :: .ref (o3) :: rest)) := by
  subst hv
  exact va_iald S5.1 S5.2.1 hK hP 3 0 rfl rfl (vin_in hi) hdg kk
theorem asF3 (S5 : CallFix p m c cc nL s args Ts own) (hK : va_K D vwCl [(cA, .int)] s) (hP : va_P D vwCl (wF cA ad o3 M) H) (hD : ∀ M : Mem, va_D A (wF cA ad o3 M)) (hS : va_S A H0 H locs) {i v : Int32} (hi : vin i 3 = true) {k : Nat} (hk : i.toNatClampNeg = k) (hdg : decode cc pc = .ok (.iastore, 1)) (kk : ∀ (H1 : Heap) (locs1 : List Loc), va_P D vwCl (wF cA ad o3 (mset M 3 k v)) H1 → va_S A H0 H1 locs1 → W p l e R s m args below meth c H1 locs1 cells slots Q (F0 m (pc + 1) ls rest)) : W p l e R s m args below meth c H locs cells slots Q (F0 m pc ls (.int v :: .int i :: .ref (o3) :: rest)) := by
  subst hk
  exact va_iast S5.1 S5.2.1 hK hP (hD M) hS 3 0 rfl rfl (vin_in hi) hdg (fun H1 locs1 hP1 _ hS1 => kk H1 locs1 hP1 hS1)
theorem asY0 (S5 : CallFix p m c cc nL s args Ts own) (hK : va_K D vwCl [(cA, .int)] s) (hP : va_P D vwCl (wX cA ad M) H) (hQ : va_P D vwCl (wH cA ah N) H) (hD : ∀ M N : Mem, va_D A (wX cA ad M ++ wH cA ah N)) (hS : va_S A H0 H locs) {i v : Int32} (hi : vin i 4 = true) {k : Nat} (hk : i.toNatClampNeg = k) (hdg : decode cc pc = .ok (.iastore, 1)) (kk : ∀ (H1 : Heap) (locs1 : List Loc), va_P D vwCl (wX cA ad M) H1 → va_P D vwCl (wH cA ah (mset N 0 k v)) H1 → va_S A H0 H1 locs1 → W p l e R s m args below meth c H1 locs1 cells slots Q (F0 m (pc + 1) ls rest)) : W p l e R s m args below meth c H locs cells slots Q (F0 m pc ls (.int v :: .int i :: .ref (ah 0) :: rest)) := by
  subst hk
  have hPQ : va_P D vwCl (wX cA ad M ++ wH cA ah N) H := va_P.app hP hQ
  exact va_iast S5.1 S5.2.1 hK hPQ (hD M N) hS 9 0 rfl rfl (vin_in hi) hdg (fun H1 locs1 hP1 _ hS1 => kk H1 locs1 (hP1.sub (ws' := wX cA ad M) [0, 1, 2, 3, 4, 5, 6, 7, 8] rfl) (hP1.sub (ws' := wH cA ah (mset N 0 i.toNatClampNeg v)) [9, 10, 11] rfl) hS1)
theorem asY1 (S5 : CallFix p m c cc nL s args Ts own) (hK : va_K D vwCl [(cA, .int)] s) (hP : va_P D vwCl (wX cA ad M) H) (hQ : va_P D vwCl (wH cA ah N) H) (hD : ∀ M N : Mem, va_D A (wX cA ad M ++ wH cA ah N)) (hS : va_S A H0 H locs) {i v : Int32} (hi : vin i 16 = true) {k : Nat} (hk : i.toNatClampNeg = k) (hdg : decode cc pc = .ok (.iastore, 1)) (kk : ∀ (H1 : Heap) (locs1 : List Loc), va_P D vwCl (wX cA ad M) H1 → va_P D vwCl (wH cA ah (mset N 1 k v)) H1 → va_S A H0 H1 locs1 → W p l e R s m args below meth c H1 locs1 cells slots Q (F0 m (pc + 1) ls rest)) : W p l e R s m args below meth c H locs cells slots Q (F0 m pc ls (.int v :: .int i :: .ref (ah 1) :: rest)) := by
  subst hk
  have hPQ : va_P D vwCl (wX cA ad M ++ wH cA ah N) H := va_P.app hP hQ
  exact va_iast S5.1 S5.2.1 hK hPQ (hD M N) hS 10 0 rfl rfl (vin_in hi) hdg (fun H1 locs1 hP1 _ hS1 => kk H1 locs1 (hP1.sub (ws' := wX cA ad M) [0, 1, 2, 3, 4, 5, 6, 7, 8] rfl) (hP1.sub (ws' := wH cA ah (mset N 1 i.toNatClampNeg v)) [9, 10, 11] rfl) hS1)
theorem asY2 (S5 : CallFix p m c cc nL s args Ts own) (hK : va_K D vwCl [(cA, .int)] s) (hP : va_P D vwCl (wX cA ad M) H) (hQ : va_P D vwCl (wH cA ah N) H) (hD : ∀ M N : Mem, va_D A (wX cA ad M ++ wH cA ah N)) (hS : va_S A H0 H locs) {i v : Int32} (hi : vin i 4 = true) {k : Nat} (hk : i.toNatClampNeg = k) (hdg : decode cc pc = .ok (.iastore, 1)) (kk : ∀ (H1 : Heap) (locs1 : List Loc), va_P D vwCl (wX cA ad M) H1 → va_P D vwCl (wH cA ah (mset N 2 k v)) H1 → va_S A H0 H1 locs1 → W p l e R s m args below meth c H1 locs1 cells slots Q (F0 m (pc + 1) ls rest)) : W p l e R s m args below meth c H locs cells slots Q (F0 m pc ls (.int v :: .int i :: .ref (ah 2) :: rest)) := by
  subst hk
  have hPQ : va_P D vwCl (wX cA ad M ++ wH cA ah N) H := va_P.app hP hQ
  exact va_iast S5.1 S5.2.1 hK hPQ (hD M N) hS 11 0 rfl rfl (vin_in hi) hdg (fun H1 locs1 hP1 _ hS1 => kk H1 locs1 (hP1.sub (ws' := wX cA ad M) [0, 1, 2, 3, 4, 5, 6, 7, 8] rfl) (hP1.sub (ws' := wH cA ah (mset N 2 i.toNatClampNeg v)) [9, 10, 11] rfl) hS1)
theorem ah_at (cA : Nat) (ah : Nat → Nat) (N : Mem) : ∀ k, k < 3 → ∃ e, (wH cA ah N)[k]? = some (ah k, e) := by
  intro k hk
  match k, hk with
  | 0, _ => exact ⟨_, rfl⟩
  | 1, _ => exact ⟨_, rfl⟩
  | 2, _ => exact ⟨_, rfl⟩
theorem off_AXH (hD : va_D A (wX cA ad M ++ wH cA ah N)) (hP : va_P D vwCl (wX cA ad M) H) : ∀ (k : Nat) (q : Nat × va_E), (wX cA ad M)[k]? = some q → ¬ AXH ah H.size q.1 := by
  intro k q hq h
  rcases h with ⟨j, hj, e⟩ | h
  · obtain ⟨z, hz⟩ := ah_at cA ah N j hj
    exact hD.cross hq hz e
  · have := (hP k q hq).lt
    omega
/-- what a law's method may change -/
def AY (ad ah : Nat → Nat) (sz : Nat) : Nat → Prop := fun q => AX ad sz q ∨ AXH ah sz q
theorem AY.x {q : Nat} (h : AX ad sz q) : AY ad ah sz q := Or.inl h
theorem AY.h {q : Nat} (h : AXH ah sz q) : AY ad ah sz q := Or.inr h
theorem AY.of {B : Nat → Prop} (h : va_D B (wX cA ad M ++ wH cA ah N)) : va_D (AY ad ah sz) (wX cA ad M ++ wH cA ah N) := by
  refine h.weaken (fun k q hk _ => ?_)
  rcases List.mem_append.mp (List.mem_of_getElem? hk) with h1 | h1
  · obtain ⟨j, hj⟩ := List.getElem?_of_mem h1
    exact Or.inl ((AX.ofX (sz := sz) h.left).2 j q hj)
  · obtain ⟨j, hj⟩ := List.getElem?_of_mem h1
    exact Or.inr ((AXH.ofH (sz := sz) h.right).2 j q hj)
/-- a method of the class that throws nothing here -/
theorem cTY (S5 : CallFix p m c cc nL s args Ts own) (hK : va_K D vwCl [(cA, .int)] s) (hP : va_P D vwCl (wX cA ad M) H) (hQ : va_P D vwCl (wH cA ah N) H) (hD : ∀ M N : Mem, va_D A (wX cA ad M ++ wH cA ah N)) (hS : va_S A s.heap H locs) (hT : TE A sa s) (hA : ∀ q, AX ad H.size q → A q) {n index maxL : Nat}
    {y : MethodName} {ws : List Cond} {rm : Room} {As : List Value} {r : Res} {bytes : ByteArray} {ret : Option FieldType} (hM : Ti l y ws rm D cA ad sa M (.ref (ad 8) :: As) mc ms r) (hr0 : r.1 = 0) (cw : CallW R s args own RX5 index y bytes maxL ret ws rm mc ms n) (hn : As.length = n) (hsz : ls.size = nL) (hst : st0 = As.reverse ++ .ref (ad 8) :: rest) (hrm : (rest.map fun v => v.category).sum ≤ 8) (hdg : decode cc pc = .ok (.invokevirtual index, 3)) (hf : cells + mc ≤ R.cells ∧ slots + ms ≤ R.slots)
    (kk : ∀ (H1 : Heap) (locs1 : List Loc), va_P D vwCl (wX cA ad r.2.2) H1 → va_P D vwCl (wH cA ah N) H1 → va_S A s.heap H1 locs1 → W p l e R s m args below meth c H1 locs1 (cells + mc) (slots + ms) Q (F0 m (pc + 3) ls (.int r.2.1 :: rest))) : W p l e R s m args below meth c H locs cells slots Q (F0 m pc ls st0) := by
  subst hst
  have hoff := off_AX (hD M N) hQ
  refine vx_calli (vx_runV S5 (hM H.size) cw ⟨BT.blind, va_recv hK hP (ci := 4) (q0 := 8) rfl rfl, fun U hU hW => ⟨rfl, ⟨by rw [hU], by rw [PX, hU]; exact ⟨hP, va_K.moved hW.alike hK⟩, (hD M N).left.weaken (fun _ _ _ _ => trivial)⟩, TE.go hT hS (fun q hq => hA q hq) hU hW⟩⟩ rfl hn hsz rfl (lv_room hrm) hdg hf) hS (fun q _ h => hA q h) hA (fun q _ h => hA q h) ?_ ?_
  · intro E ce q9 u t H1 locs1 ht hvm hr hB hz hk hS1 h1 h2 h3
    exact absurd hr0 hr
  · intro x u t H1 locs1 ht hvm hx hB hz hk hS1
    obtain ⟨hr0, rfl⟩ := hx
    exact kk H1 locs1 (by rw [← ht]; exact hB.1.1) (hQ.off hk hoff) hS1
/-- the law's own call with its catch -/
abbrev Dp (l : Launch) (y : MethodName) (ws : List Cond) (rm : Room) (D : va_G) (cA : Nat) (ad sa : Nat → Nat) (M : Mem) (as : List Value) (mc ms : Nat) (v : Int32) (M2 : Mem) : Prop :=
  ∀ sz : Nat, vx_Met l y ws rm (va_Pc as (BT D cA ad sz sa M)) (va_Qi (fun (x : Int32) (_ : Unit) => x = v) (fun _ t => EX D cA ad sz M2 t) (AX ad sz)) (fun _ _ _ => False) mc ms (AX ad sz)
theorem cDY (S5 : CallFix p m c cc nL s args Ts own) (hK : va_K D vwCl [(cA, .int)] s) (hP : va_P D vwCl (wX cA ad M) H) (hQ : va_P D vwCl (wH cA ah N) H) (hD : ∀ M N : Mem, va_D A (wX cA ad M ++ wH cA ah N)) (hS : va_S A s.heap H locs) (hT : TE A sa s) (hA : ∀ q, AX ad H.size q → A q) {n index maxL : Nat}
    {y : MethodName} {ws : List Cond} {rm : Room} {As : List Value} {v : Int32} {M2 : Mem} {bytes : ByteArray} {hh : List (Nat × Nat × Nat × Nat)} (hM : Dp l y ws rm D cA ad sa M As mc ms v M2) (cw : vx_CSW R s args own index y bytes maxL (some .int) hh ws rm mc ms n) (hn : As.length = n) (hsz : ls.size = nL) (hst : st0 = As.reverse ++ rest) (hrm : (rest.map fun v => v.category).sum ≤ 8) (hdg : decode cc pc = .ok (.invokestatic index, 3)) (hf : cells + mc ≤ R.cells ∧ slots + ms ≤ R.slots)
    (kk : ∀ (H1 : Heap) (locs1 : List Loc), va_P D vwCl (wX cA ad M2) H1 → va_P D vwCl (wH cA ah N) H1 → va_S A s.heap H1 locs1 → W p l e R s m args below meth c H1 locs1 (cells + mc) (slots + ms) Q (F0 m (pc + 3) ls (.int v :: rest))) : W p l e R s m args below meth c H locs cells slots Q (F0 m pc ls st0) := by
  subst hst
  have hoff := off_AX (hD M N) hQ
  intro T hT9 X
  rcases vx_runSX S5 (hM H.size) cw ⟨BT.blind, fun U hU hW => ⟨rfl, ⟨by rw [hU], by rw [PX, hU]; exact ⟨hP, va_K.moved hW.alike hK⟩, (hD M N).left.weaken (fun _ _ _ _ => trivial)⟩, TE.go hT hS (fun q hq => hA q hq) hU hW⟩⟩ rfl hn hsz rfl (lv_room hrm) hdg hf T hT9 X with ⟨v, st₀, t, T', L, h0, X', hL, e1, e2, ⟨⟨x, g, hv, hp, hb⟩, hF⟩, st⟩ | ⟨q, st₀, t, T', L, E, ce, h0, X', hL, e1, e2, hx, -⟩
  · cases hv
    obtain ⟨k1, k2, k3⟩ := vx_keep h0 e1 hS (fun q _ h => hA q h) hA hL hF
    subst hp
    obtain ⟨t2, a1, b1⟩ := kk T'.heap (locs ++ L) (by rw [e1]; exact hb.1.1) (hQ.off k2 hoff) k3 T' rfl X'
    exact ⟨t2, st t2 a1, b1⟩
  · exact hx.elim
/-- a static writer over the law's rows -/
theorem cWHY (S5 : CallFix p m c cc nL s args Ts own) (hK : va_K D vwCl [(cA, .int)] s) (hP : va_P D vwCl (wX cA ad M) H) (hQ : va_P D vwCl (wH cA ah N) H) (hD : ∀ M N : Mem, va_D A (wX cA ad M ++ wH cA ah N)) (hS : va_S A s.heap H locs) (hA : ∀ q, AXH ah H.size q → A q) {n index maxL : Nat}
    {y : MethodName} {ws : List Cond} {rm : Room} {As : List Value} {r : Int32 × Mem} {bytes : ByteArray} {ret : Option FieldType} (hM : WiH l y ws rm D cA ah N As mc ms r) (cw : CallB R s args own index y bytes maxL ret ws rm mc ms n ∧ (Cond.static y).before args s = true) (hn : As.length = n) (hsz : ls.size = nL) (hst : st0 = As.reverse ++ rest) (hrm : (rest.map fun v => v.category).sum ≤ 8) (hdg : decode cc pc = .ok (.invokestatic index, 3)) (hf : cells + mc ≤ R.cells ∧ slots + ms ≤ R.slots)
    (kk : ∀ (H1 : Heap) (locs1 : List Loc), va_P D vwCl (wX cA ad M) H1 → va_P D vwCl (wH cA ah r.2) H1 → va_S A s.heap H1 locs1 → W p l e R s m args below meth c H1 locs1 (cells + mc) (slots + ms) Q (F0 m (pc + 3) ls (.int r.1 :: rest))) : W p l e R s m args below meth c H locs cells slots Q (F0 m pc ls st0) := by
  subst hst
  have hoX := off_AXH (hD M N) hP
  refine va_calli (va_runS S5 (hM H.size) cw ⟨BH.blind, fun U hU hW => ⟨rfl, by rw [hU], by rw [PH, hU]; exact ⟨hQ, va_K.moved hW.alike hK⟩, (hD M N).right.weaken (fun _ _ _ _ => trivial)⟩⟩ rfl hn hsz rfl (lv_room hrm) hdg hf) hS (fun q _ h => hA q h) hA (fun x u t H1 locs1 ht hvm hx hB hz hk hS1 => ?_)
  subst hx
  exact kk H1 locs1 (hP.off hk hoX) (by rw [← ht]; exact hB.1.1) hS1
def BY (D : va_G) (cA : Nat) (ad ah : Nat → Nat) (sz : Nat) (sa : Nat → Nat) (M N : Mem) (U : State) : Prop :=
  U.heap.size = sz ∧ va_P D vwCl (wX cA ad M) U.heap ∧ va_P D vwCl (wH cA ah N) U.heap ∧ va_K D vwCl [(cA, .int)] U ∧ va_D (fun _ => True) (wX cA ad M ++ wH cA ah N) ∧ TE (AY ad ah sz) sa U
theorem BY.blind {as : List Value} : FrameBlind (va_Pc as (BY D cA ad ah sz sa M N)) := fun a U g mk h =>
  ⟨h.1, h.2.1, h.2.2.1, h.2.2.2.1, va_K.moved (u := U) (U := U.calling g mk a) (Vm.Alike.refl U.vm) h.2.2.2.2.1, h.2.2.2.2.2.1, TE.call h.2.2.2.2.2.2⟩
def EY (D : va_G) (cA : Nat) (ad ah : Nat → Nat) (M N : Mem) (t : State) : Prop := va_P D vwCl (wX cA ad M) t.heap ∧ va_P D vwCl (wH cA ah N) t.heap
/-- a law's method over both worlds -/
abbrev Gi (l : Launch) (y : MethodName) (ws : List Cond) (rm : Room) (D : va_G) (cA : Nat) (ad ah sa : Nat → Nat) (M N : Mem) (as : List Value) (mc ms : Nat) (r : Int32 × Mem × Mem) : Prop :=
  ∀ sz : Nat, Met l y ws rm (va_Pc as (BY D cA ad ah sz sa M N)) (va_Qi (fun (x : Int32) (_ : Unit) => x = r.1) (fun _ t => EY D cA ad ah r.2.1 r.2.2 t) (AY ad ah sz)) mc ms (AY ad ah sz)
theorem Gi.of {y : MethodName} {ws ws' : List Cond} {rm : Room} {as : List Value} {r : Int32 × Mem × Mem} {maxL : Nat} {ty : FieldType} (hy : plainName y.cls = true) (ho : y.cls = RL) (hw : ws = Cond.code y cc maxL (some ty) :: ws') (hlen : (lg_sl as).length ≤ maxL)
    (body : ∀ (p : Program) (e : Env) (s : State) (m : MethodId) (args : Array Value) (below : List Frame) (meth : Method) (c : Code) (Q : State → Prop) (ls : Array Slot) (A : Nat → Prop), A = AY ad ah s.heap.size → CallFix p m c cc maxL s args ws RL → va_K D vwCl [(cA, .int)] s → va_P D vwCl (wX cA ad M) s.heap → va_P D vwCl (wH cA ah N) s.heap → (∀ M N : Mem, va_D A (wX cA ad M ++ wH cA ah N)) → va_S A s.heap s.heap [] → TE A sa s → lv_has ls maxL (lv_args 0 as) →
      (∀ (v : Int32) (pc : Nat) (ls : Array Slot) (H : Heap) (locs : List Loc), v = r.1 → narrow ty (.int v) = .int v → va_P D vwCl (wX cA ad r.2.1) H → va_P D vwCl (wH cA ah r.2.2) H → va_S A s.heap H locs → decode cc pc = .ok (.ireturn, 1) → W p l e rm s m args below meth c H locs mc ms Q (F0 m pc ls [.int v])) →
      W p l e rm s m args below meth c s.heap [] 0 0 Q (F0 m 0 ls [])) : Gi l y ws rm D cA ad ah sa M N as mc ms r := by
  intro sz
  refine Met.ofW (cc := cc) (maxL := maxL) (ret := some ty) hy hw ?_
  intro p e s m args below meth c s₁ B hml hv
  obtain ⟨rfl, hsz, hP, hQ, hK, hD, hT⟩ := hv
  subst hsz
  have hl := lv_entry as hlen
  rw [lg_entry_eq]
  have hlocks := B.notSynchronized
  have hown : s.vm.findClass RL = some m.cls := ho ▸ findClass_of_methodNamed B.named
  exact body p e s m _ below meth c _ _ _ rfl ⟨B.exec, B.bytes, hml, hown, atoms_spec (ws := ws) B.pre⟩ hK hP hQ (fun M' N' => (AY.of hD).same rfl) va_S.rf hT hl (fun v pc ls H locs hvr hn hP1 hQ1 hS hdg => W.zret (v := v) B.exec B.bytes B.returns hn (fun t ht hW => ⟨⟨v, (), rfl, hvr, by show EY D cA ad ah r.2.1 r.2.2 t; unfold EY; rw [ht]; exact ⟨hP1, hQ1⟩⟩, hS.F ht⟩) hS.2.2 hdg)
/-- .. called -/
theorem cGY (S5 : CallFix p m c cc nL s args Ts own) (hK : va_K D vwCl [(cA, .int)] s) (hP : va_P D vwCl (wX cA ad M) H) (hQ : va_P D vwCl (wH cA ah N) H) (hD : ∀ M N : Mem, va_D A (wX cA ad M ++ wH cA ah N)) (hS : va_S A s.heap H locs) (hT : TE A sa s) (hA : ∀ q, AY ad ah H.size q → A q) {n index maxL : Nat}
    {y : MethodName} {ws : List Cond} {rm : Room} {As : List Value} {r : Int32 × Mem × Mem} {bytes : ByteArray} {ret : Option FieldType} (hM : Gi l y ws rm D cA ad ah sa M N As mc ms r) (cw : CallB R s args own index y bytes maxL ret ws rm mc ms n ∧ (Cond.static y).before args s = true) (hn : As.length = n) (hsz : ls.size = nL) (hst : st0 = As.reverse ++ rest) (hrm : (rest.map fun v => v.category).sum ≤ 8) (hdg : decode cc pc = .ok (.invokestatic index, 3)) (hf : cells + mc ≤ R.cells ∧ slots + ms ≤ R.slots)
    (kk : ∀ (H1 : Heap) (locs1 : List Loc), va_P D vwCl (wX cA ad r.2.1) H1 → va_P D vwCl (wH cA ah r.2.2) H1 → va_S A s.heap H1 locs1 → W p l e R s m args below meth c H1 locs1 (cells + mc) (slots + ms) Q (F0 m (pc + 3) ls (.int r.1 :: rest))) : W p l e R s m args below meth c H locs cells slots Q (F0 m pc ls st0) := by
  subst hst
  refine va_calli (va_runS S5 (hM H.size) cw ⟨BY.blind, fun U hU hW => ⟨rfl, by rw [hU], by rw [hU]; exact hP, by rw [hU]; exact hQ, va_K.moved hW.alike hK, (hD M N).weaken (fun _ _ _ _ => trivial), TE.go hT hS (fun q hq => hA q hq) hU hW⟩⟩ rfl hn hsz rfl (lv_room hrm) hdg hf) hS (fun q _ h => hA q h) hA (fun x u t H1 locs1 ht hvm hx hB hz hk hS1 => ?_)
  subst hx
  exact kk H1 locs1 (by rw [← ht]; exact hB.1) (by rw [← ht]; exact hB.2) hS1
end WL
