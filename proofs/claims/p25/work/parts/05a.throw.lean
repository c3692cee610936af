/-- exceptions by their numbers -/
def exN (k : Nat) : String := if k = 1 then "java/lang/IllegalArgumentException" else if k = 2 then "java/lang/IllegalStateException" else "java/lang/IndexOutOfBoundsException"
def xnm : List String := ["java/lang/RuntimeException", "java/lang/Exception"]
def xstr : List (Nat × String) := [(36, "trump is out of range"), (180, "player is out of range"), (182, "card is out of range"), (58, "the card cannot be given"), (69, "the game cannot be started"), (184, "the card cannot be played"), (90, "no card has been played"), (186, "the game was not started"), (132, "too many cards are in hands"), (141, "it is nobody's turn"), (188, "the card is in no hand"), (118, "side is out of range"), (112, "no such card in the trick"), (172, "suit is out of range")]
/-- what a throw needs beside its method's words -/
def TE (A : Nat → Prop) (sa : Nat → Nat) (U : State) : Prop :=
  vx_Zq Bundle.tN "UNASSIGNED_STACK" Bundle.steD A U U.heap ∧ vx_Zq Bundle.tN "SUPPRESSED_SENTINEL" Bundle.listD A U U.heap ∧ (∀ q ∈ xstr, vk_R RX5 q.1 q.2 (sa q.1) U) ∧
  (∀ n ∈ [Bundle.tN, "java/lang/RuntimeException", "java/lang/Exception"], va_Nw (.declares (Bundle.initS n)) U) ∧ (∀ k ∈ [1, 2, 3], va_Nw (.castable (exN k) (exN k)) U) ∧ va_Nw (.methodLinkNest RX5 134 yX4_byAllPlays "OpenTricks") U
theorem TE.go {A A' : Nat → Prop} {sa : Nat → Nat} {s U : State} {H : Heap} {locs : List Loc} (h : TE A sa s) (hS : va_S A s.heap H locs) (hAA : ∀ q, A' q → A q) (hU : U.heap = H) (hW : s.WarmedH U.vm) : TE A' sa U := by
  obtain ⟨h1, h2, h3, h4, h5, h6⟩ := h
  refine ⟨?_, ?_, fun q hq => vk_R.warm hW (h3 q hq), fun n hn => va_Nw.warmD hW (h4 n hn), fun k hk => va_Nw.warmC hW (h5 k hk), va_Nw.warmM hW h6⟩
  · rw [hU]; exact (vx_Zq.moved hW.alike (h1.kept hS.2.1)).narrow hAA
  · rw [hU]; exact (vx_Zq.moved hW.alike (h2.kept hS.2.1)).narrow hAA
theorem TE.call {A : Nat → Prop} {sa : Nat → Nat} {U : State} {g : JFrame} {mk : MethodId} {a : Array Value} (h : TE A sa U) : TE A sa (U.calling g mk a) := by
  obtain ⟨h1, h2, h3, h4, h5, h6⟩ := h
  exact ⟨vx_Zq.moved (u := U) (U := U.calling g mk a) (Vm.Alike.refl U.vm) h1, vx_Zq.moved (u := U) (U := U.calling g mk a) (Vm.Alike.refl U.vm) h2, fun q hq => vk_R.same rfl (h3 q hq), fun n hn => va_Nw.same rfl (u := U) (U := U.calling g mk a) rfl (h4 n hn), fun k hk => va_Nw.same rfl (u := U) (U := U.calling g mk a) rfl (h5 k hk), va_Nw.same rfl (u := U) (U := U.calling g mk a) rfl h6⟩
def BT (D : va_G) (cA : Nat) (ad : Nat → Nat) (sz : Nat) (sa : Nat → Nat) (M : Mem) (U : State) : Prop := BX D cA ad sz M U ∧ TE (AX ad sz) sa U
theorem BT.blind {D : va_G} {cA : Nat} {ad : Nat → Nat} {sz : Nat} {sa : Nat → Nat} {M : Mem} {as : List Value} : FrameBlind (va_Pc as (BT D cA ad sz sa M)) := fun _ _ _ _ h => ⟨h.1, ⟨h.2.1.1, PX.call h.2.1.2.1, h.2.1.2.2⟩, TE.call h.2.2⟩
abbrev Res : Type := Nat × Int32 × Mem
abbrev XTq (D : va_G) (cA : Nat) (ad : Nat → Nat) (sz : Nat) (r : Res) : String → State → State → Prop := vx_X (fun (_ : Unit) => r.1 ≠ 0) (fun E _ t => E = exN r.1 ∧ EX D cA ad sz r.2.2 t) (AX ad sz)
abbrev QTi (D : va_G) (cA : Nat) (ad : Nat → Nat) (sz : Nat) (r : Res) : Array Value → State → Outcome → State → Prop := va_Qi (fun (x : Int32) (_ : Unit) => r.1 = 0 ∧ x = r.2.1) (fun _ t => EX D cA ad sz r.2.2 t) (AX ad sz)
abbrev QTv (D : va_G) (cA : Nat) (ad : Nat → Nat) (sz : Nat) (r : Res) : Array Value → State → Outcome → State → Prop := va_Qv (fun (_ : Unit) => r.1 = 0) (fun _ t => EX D cA ad sz r.2.2 t) (AX ad sz)
abbrev Ti (l : Launch) (y : MethodName) (ws : List Cond) (rm : Room) (D : va_G) (cA : Nat) (ad sa : Nat → Nat) (M : Mem) (as : List Value) (mc ms : Nat) (r : Res) : Prop :=
  ∀ sz : Nat, vx_Met l y ws rm (va_Pc as (BT D cA ad sz sa M)) (QTi D cA ad sz r) (XTq D cA ad sz r) mc ms (AX ad sz)
abbrev Tv (l : Launch) (y : MethodName) (ws : List Cond) (rm : Room) (D : va_G) (cA : Nat) (ad sa : Nat → Nat) (M : Mem) (as : List Value) (mc ms : Nat) (r : Res) : Prop :=
  ∀ sz : Nat, vx_Met l y ws rm (va_Pc as (BT D cA ad sz sa M)) (QTv D cA ad sz r) (XTq D cA ad sz r) mc ms (AX ad sz)
def xbad : List Cond := [.declares (Bundle.initS "java/lang/RuntimeException"), .declares (Bundle.initS "java/lang/Exception"), .declares (Bundle.initS Bundle.tN), .castable (exN 1) (exN 1), .castable (exN 2) (exN 2), .castable (exN 3) (exN 3)]
theorem TE.bad {A : Nat → Prop} {sa : Nat → Nat} {U : State} (h : TE A sa U) : ∀ w ∈ xbad, va_Nw w U := by
  obtain ⟨-, -, -, h4, h5, -⟩ := h
  have d1 := h4 "java/lang/RuntimeException" (by simp)
  have d2 := h4 "java/lang/Exception" (by simp)
  have d3 := h4 Bundle.tN (by simp)
  have e1 := h5 1 (by simp)
  have e2 := h5 2 (by simp)
  have e3 := h5 3 (by simp)
  intro w hw
  simp only [xbad, List.mem_cons, List.not_mem_nil, or_false] at hw
  rcases hw with rfl | rfl | rfl | rfl | rfl | rfl <;> assumption

theorem xg1 : ∀ w ∈ Cond.classLink RX5 34 (exN 1) :: Cond.initialized (exN 1) :: vx_atS RX5 38 (exN 1) xnm, vx_ot w = true := by decide +kernel
theorem xb1 : ∀ w ∈ (vx_atS RX5 38 (exN 1) xnm).filter (fun w => !goodWord w), w ∈ xbad := by decide +kernel
theorem xf1 : Bundle.fit (exN 1) = true := by decide +kernel
theorem xg2 : ∀ w ∈ Cond.classLink RX5 56 (exN 2) :: Cond.initialized (exN 2) :: vx_atS RX5 60 (exN 2) xnm, vx_ot w = true := by decide +kernel
theorem xb2 : ∀ w ∈ (vx_atS RX5 60 (exN 2) xnm).filter (fun w => !goodWord w), w ∈ xbad := by decide +kernel
theorem xf2 : Bundle.fit (exN 2) = true := by decide +kernel
theorem xg3 : ∀ w ∈ Cond.classLink RX5 110 (exN 3) :: Cond.initialized (exN 3) :: vx_atS RX5 114 (exN 3) xnm, vx_ot w = true := by decide +kernel
theorem xb3 : ∀ w ∈ (vx_atS RX5 114 (exN 3) xnm).filter (fun w => !goodWord w), w ∈ xbad := by decide +kernel
theorem xf3 : Bundle.fit (exN 3) = true := by decide +kernel
theorem xfn : ∀ n ∈ xnm, Bundle.fit n = true := by decide +kernel
theorem Ti.of {l : Launch} {y : MethodName} {ws ws' : List Cond} {rm : Room} {D : va_G} {cA : Nat} {ad sa : Nat → Nat} {M : Mem} {as : List Value} {mc ms : Nat} {r : Res} {cc : ByteArray} {maxL : Nat} {ty : FieldType} (hst : l.stackTraces = false) (hy : plainName y.cls = true) (ho : y.cls = RX5) (hw : ws = Cond.code y cc maxL (some ty) :: ws') (hlen : (lg_sl as).length ≤ maxL)
    (body : ∀ (p : Program) (e : Env) (s : State) (m : MethodId) (args : Array Value) (below : List Frame) (meth : Method) (c : Code) (Q : State → Prop) (ls : Array Slot) (A : Nat → Prop), A = AX ad s.heap.size → CallFix p m c cc maxL s args ws RX5 → va_K D vwCl [(cA, .int)] s → va_P D vwCl (wX cA ad M) s.heap → (∀ M : Mem, va_D A (wX cA ad M)) → va_S A s.heap s.heap [] → TE A sa s → lv_has ls maxL (lv_args 0 as) →
      (∀ (v : Int32) (pc : Nat) (ls : Array Slot) (H : Heap) (locs : List Loc), r.1 = 0 → v = r.2.1 → narrow ty (.int v) = .int v → va_P D vwCl (wX cA ad r.2.2) H → va_S A s.heap H locs → decode cc pc = .ok (.ireturn, 1) → W p l e rm s m args below meth c H locs mc ms Q (F0 m pc ls [.int v])) →
      (∀ (k ik ic is : Nat) (tx : String) (pc : Nat) (ls : Array Slot) (rest : List Value) (H : Heap) (locs : List Loc) (cells slots : Nat), r.1 = k → k ≠ 0 → Bundle.fit (exN k) = true → Cond.classLink RX5 ik (exN k) ∈ ws → Cond.initialized (exN k) ∈ ws → (∀ w ∈ (vx_atS RX5 ic (exN k) xnm).filter goodWord, w ∈ ws) → (∀ w ∈ (vx_atS RX5 ic (exN k) xnm).filter (fun w => !goodWord w), w ∈ xbad) →
        (∀ w ∈ Cond.classLink RX5 ik (exN k) :: Cond.initialized (exN k) :: vx_atS RX5 ic (exN k) xnm, vx_ot w = true) → (is, tx) ∈ xstr → ls.size = maxL → va_P D vwCl (wX cA ad r.2.2) H → va_S A s.heap H locs →
        decode cc pc = .ok (.new ik, 3) → decode cc (pc + 3) = .ok (.dup, 1) → decode cc (pc + 4) = .ok (.ldc is, 2) → decode cc (pc + 6) = .ok (.invokespecial ic, 3) → decode cc (pc + 9) = .ok (.athrow, 1) →
        5 < rm.frames → (rest.map fun v => v.category).sum + 82 ≤ rm.locals → cells + 1 ≤ rm.cells → slots + 6 ≤ rm.slots → cells + 1 ≤ mc → slots + 6 ≤ ms → W p l e rm s m args below meth c H locs cells slots Q (F0 m pc ls rest)) →
      (∀ (E : String) (ce : Cell) (q9 : Addr) (pc : Nat) (ls : Array Slot) (rest : List Value) (H : Heap) (locs : List Loc) (cells slots : Nat), r.1 ≠ 0 → E = exN r.1 → H[q9]? = some ce → ce.vm = .none → s.vm.findClass E = some ce.cls → va_P D vwCl (wX cA ad r.2.2) H → va_S A s.heap H locs → cells ≤ mc → slots ≤ ms → vx_W p l e rm s m args below meth c H locs cells slots Q (F0 m pc ls rest) q9) →
      W p l e rm s m args below meth c s.heap [] 0 0 Q (F0 m 0 ls [])) : Ti l y ws rm D cA ad sa M as mc ms r := by
  intro sz
  refine vx_ofW (cc := cc) (maxL := maxL) (ret := some ty) hy hw ?_
  intro p e s m args below meth c s₁ B hml htab hv
  obtain ⟨rfl, ⟨hsz, ⟨hP, hK⟩, hD⟩, hT⟩ := hv
  subst hsz
  have hl := lv_entry as hlen
  rw [lg_entry_eq]
  have hlocks := B.notSynchronized
  have hown : s.vm.findClass RX5 = some m.cls := ho ▸ findClass_of_methodNamed B.named
  have hts := atoms_spec (ws := ws) B.pre
  refine body p e s m _ below meth c _ _ _ rfl ⟨B.exec, B.bytes, hml, hown, hts⟩ hK hP (fun M' => (AX.ofX hD).same rfl) va_S.rf hT hl ?_ ?_ ?_
  · exact (fun v pc ls H locs hr0 hvr hn hP1 hS hdg => vx_ret (W.zret (v := v) B.exec B.bytes B.returns hn (fun t ht hW => ⟨⟨v, (), rfl, ⟨hr0, hvr⟩, ⟨by rw [ht]; exact hP1, va_K.moved hW.alike hK⟩, (AX.ofX hD).same rfl⟩, hS.F ht⟩) hS.2.2 hdg))
  · intro k ik ic is tx pc ls rest H locs cells slots hr hk hfit hc1 hc2 hat hbad hgood hstr hsize hP1 hS d0 d3 d4 d6 d9 r1 r2 r3 r4 r5 r6
    refine vx_throwS (A := AX ad s.heap.size) (names := xnm) (sa := sa is) B.exec B.bytes hst hown hfit xfn (hts _ hc1) (hts _ hc2) (hT.2.2.1 (is, tx) hstr) (vx_hat (fun w hw => hts w (hat w hw)) hbad (fun w hw => va_Nw.use (by simp only [xbad, List.mem_cons, List.not_mem_nil, or_false] at hw; rcases hw with rfl | rfl | rfl | rfl | rfl | rfl <;> rfl) (hT.bad w hw))) hgood hT.1 hT.2.1 hS (hsize.trans hml.symm) d0 d3 d4 d6 d9 (fun x hx => (htab x hx).elim) r1 r2 r3 r4 hlocks ?_ hS.2.2 r5 r6
    intro t hvm hz hq
    refine ⟨(), by rw [hr]; exact hk, ⟨by rw [hr], ⟨fun i q hi => (hP1 i q hi).kept (hq q.1 (hP1 i q hi).lt), va_K.moved hvm hK⟩, (AX.ofX hD).same rfl⟩, ⟨Nat.le_trans hS.1 hz, fun q h1 h2 => ?_⟩⟩
    rw [hq q (Nat.lt_of_lt_of_le h1 hS.1)]; exact hS.2.1 q h1 h2
  · intro E ce q9 pc ls rest H locs cells slots hr hE h1 h2 h3 hP1 hS r1 r2
    exact vx_out (fun x hx => (htab x hx).elim) hlocks h1 h2 h3 (fun t ht hvm => ⟨(), hr, ⟨hE, ⟨by rw [ht]; exact hP1, va_K.moved hvm hK⟩, (AX.ofX hD).same rfl⟩, hS.F ht⟩) hS.2.2 r1 r2

theorem Tv.of {l : Launch} {y : MethodName} {ws ws' : List Cond} {rm : Room} {D : va_G} {cA : Nat} {ad sa : Nat → Nat} {M : Mem} {as : List Value} {mc ms : Nat} {r : Res} {cc : ByteArray} {maxL : Nat} (hst : l.stackTraces = false) (hy : plainName y.cls = true) (ho : y.cls = RX5) (hw : ws = Cond.code y cc maxL none :: ws') (hlen : (lg_sl as).length ≤ maxL)
    (body : ∀ (p : Program) (e : Env) (s : State) (m : MethodId) (args : Array Value) (below : List Frame) (meth : Method) (c : Code) (Q : State → Prop) (ls : Array Slot) (A : Nat → Prop), A = AX ad s.heap.size → CallFix p m c cc maxL s args ws RX5 → va_K D vwCl [(cA, .int)] s → va_P D vwCl (wX cA ad M) s.heap → (∀ M : Mem, va_D A (wX cA ad M)) → va_S A s.heap s.heap [] → TE A sa s → lv_has ls maxL (lv_args 0 as) →
      (∀ (pc : Nat) (ls : Array Slot) (H : Heap) (locs : List Loc), r.1 = 0 → va_P D vwCl (wX cA ad r.2.2) H → va_S A s.heap H locs → decode cc pc = .ok (.return_, 1) → W p l e rm s m args below meth c H locs mc ms Q (F0 m pc ls [])) →
      (∀ (k ik ic is : Nat) (tx : String) (pc : Nat) (ls : Array Slot) (rest : List Value) (H : Heap) (locs : List Loc) (cells slots : Nat), r.1 = k → k ≠ 0 → Bundle.fit (exN k) = true → Cond.classLink RX5 ik (exN k) ∈ ws → Cond.initialized (exN k) ∈ ws → (∀ w ∈ (vx_atS RX5 ic (exN k) xnm).filter goodWord, w ∈ ws) → (∀ w ∈ (vx_atS RX5 ic (exN k) xnm).filter (fun w => !goodWord w), w ∈ xbad) →
        (∀ w ∈ Cond.classLink RX5 ik (exN k) :: Cond.initialized (exN k) :: vx_atS RX5 ic (exN k) xnm, vx_ot w = true) → (is, tx) ∈ xstr → ls.size = maxL → va_P D vwCl (wX cA ad r.2.2) H → va_S A s.heap H locs →
        decode cc pc = .ok (.new ik, 3) → decode cc (pc + 3) = .ok (.dup, 1) → decode cc (pc + 4) = .ok (.ldc is, 2) → decode cc (pc + 6) = .ok (.invokespecial ic, 3) → decode cc (pc + 9) = .ok (.athrow, 1) →
        5 < rm.frames → (rest.map fun v => v.category).sum + 82 ≤ rm.locals → cells + 1 ≤ rm.cells → slots + 6 ≤ rm.slots → cells + 1 ≤ mc → slots + 6 ≤ ms → W p l e rm s m args below meth c H locs cells slots Q (F0 m pc ls rest)) →
      (∀ (E : String) (ce : Cell) (q9 : Addr) (pc : Nat) (ls : Array Slot) (rest : List Value) (H : Heap) (locs : List Loc) (cells slots : Nat), r.1 ≠ 0 → E = exN r.1 → H[q9]? = some ce → ce.vm = .none → s.vm.findClass E = some ce.cls → va_P D vwCl (wX cA ad r.2.2) H → va_S A s.heap H locs → cells ≤ mc → slots ≤ ms → vx_W p l e rm s m args below meth c H locs cells slots Q (F0 m pc ls rest) q9) →
      W p l e rm s m args below meth c s.heap [] 0 0 Q (F0 m 0 ls [])) : Tv l y ws rm D cA ad sa M as mc ms r := by
  intro sz
  refine vx_ofW (cc := cc) (maxL := maxL) (ret := none) hy hw ?_
  intro p e s m args below meth c s₁ B hml htab hv
  obtain ⟨rfl, ⟨hsz, ⟨hP, hK⟩, hD⟩, hT⟩ := hv
  subst hsz
  have hl := lv_entry as hlen
  rw [lg_entry_eq]
  have hlocks := B.notSynchronized
  have hown : s.vm.findClass RX5 = some m.cls := ho ▸ findClass_of_methodNamed B.named
  have hts := atoms_spec (ws := ws) B.pre
  refine body p e s m _ below meth c _ _ _ rfl ⟨B.exec, B.bytes, hml, hown, hts⟩ hK hP (fun M' => (AX.ofX hD).same rfl) va_S.rf hT hl ?_ ?_ ?_
  · exact (fun pc ls H locs hr0 hP1 hS hdg => vx_ret (W.vret B.exec B.bytes B.returns (fun t ht hW => ⟨⟨(), rfl, hr0, ⟨by rw [ht]; exact hP1, va_K.moved hW.alike hK⟩, (AX.ofX hD).same rfl⟩, hS.F ht⟩) hS.2.2 hdg))
  · intro k ik ic is tx pc ls rest H locs cells slots hr hk hfit hc1 hc2 hat hbad hgood hstr hsize hP1 hS d0 d3 d4 d6 d9 r1 r2 r3 r4 r5 r6
    refine vx_throwS (A := AX ad s.heap.size) (names := xnm) (sa := sa is) B.exec B.bytes hst hown hfit xfn (hts _ hc1) (hts _ hc2) (hT.2.2.1 (is, tx) hstr) (vx_hat (fun w hw => hts w (hat w hw)) hbad (fun w hw => va_Nw.use (by simp only [xbad, List.mem_cons, List.not_mem_nil, or_false] at hw; rcases hw with rfl | rfl | rfl | rfl | rfl | rfl <;> rfl) (hT.bad w hw))) hgood hT.1 hT.2.1 hS (hsize.trans hml.symm) d0 d3 d4 d6 d9 (fun x hx => (htab x hx).elim) r1 r2 r3 r4 hlocks ?_ hS.2.2 r5 r6
    intro t hvm hz hq
    refine ⟨(), by rw [hr]; exact hk, ⟨by rw [hr], ⟨fun i q hi => (hP1 i q hi).kept (hq q.1 (hP1 i q hi).lt), va_K.moved hvm hK⟩, (AX.ofX hD).same rfl⟩, ⟨Nat.le_trans hS.1 hz, fun q h1 h2 => ?_⟩⟩
    rw [hq q (Nat.lt_of_lt_of_le h1 hS.1)]; exact hS.2.1 q h1 h2
  · intro E ce q9 pc ls rest H locs cells slots hr hE h1 h2 h3 hP1 hS r1 r2
    exact vx_out (fun x hx => (htab x hx).elim) hlocks h1 h2 h3 (fun t ht hvm => ⟨(), hr, ⟨hE, ⟨by rw [ht]; exact hP1, va_K.moved hvm hK⟩, (AX.ofX hD).same rfl⟩, hS.F ht⟩) hS.2.2 r1 r2

section WT
variable {p : Program} {l : Launch} {e : Env} {R : Room} {s : State} {m : MethodId} {args : Array Value} {below : List Frame} {meth : Method} {c : Code} {H : Heap} {locs : List Loc} {cells slots : Nat} {Q : State → Prop}
variable {cc : ByteArray} {pc : Nat} {ls : Array Slot} {rest st0 : List Value} {nL : Nat} {Ts : List Cond} {own : String} {D : va_G} {cA : Nat} {ad sa : Nat → Nat} {M : Mem} {A : Nat → Prop} {sz : Nat} {mc ms : Nat}

theorem cTVi (S5 : CallFix p m c cc nL s args Ts own) (hK : va_K D vwCl [(cA, .int)] s) (hP : va_P D vwCl (wX cA ad M) H) (hD : ∀ M : Mem, va_D A (wX cA ad M)) (hS : va_S A s.heap H locs) (hT : TE A sa s) (hA : ∀ q, AX ad H.size q → A q) (q0 : Nat) {a ci : Nat} {fs : List Value} {C : String} {T : u_T} {N : Nat} (he : (wX cA ad M)[q0]? = some (a, .inr (ci, fs))) (hc : vwCl[ci]? = some (C, T, N)) {n index maxL : Nat}
    {y : MethodName} {ws : List Cond} {rm : Room} {As : List Value} {r : Res} {bytes : ByteArray} {ret : Option FieldType} (hM : Ti l y ws rm D cA ad sa M (.ref a :: As) mc ms r) (cw : CallW R s args own C index y bytes maxL ret ws rm mc ms n) (hn : As.length = n) (hsz : ls.size = nL) (hst : st0 = As.reverse ++ .ref a :: rest) (hrm : (rest.map fun v => v.category).sum ≤ 8) (hdg : decode cc pc = .ok (.invokevirtual index, 3)) (hf : cells + mc ≤ R.cells ∧ slots + ms ≤ R.slots)
    (kx : ¬ r.1 = 0 → ∀ (E : String) (ce : Cell) (q9 : Addr) (H1 : Heap) (locs1 : List Loc), E = exN r.1 → H1[q9]? = some ce → ce.vm = .none → s.vm.findClass E = some ce.cls → va_P D vwCl (wX cA ad r.2.2) H1 → va_S A s.heap H1 locs1 → vx_W p l e R s m args below meth c H1 locs1 (cells + mc) (slots + ms) Q (F0 m pc ls rest) q9)
    (kk : r.1 = 0 → ∀ (H1 : Heap) (locs1 : List Loc), va_P D vwCl (wX cA ad r.2.2) H1 → va_S A s.heap H1 locs1 → W p l e R s m args below meth c H1 locs1 (cells + mc) (slots + ms) Q (F0 m (pc + 3) ls (.int r.2.1 :: rest))) : W p l e R s m args below meth c H locs cells slots Q (F0 m pc ls st0) := by
  subst hst
  refine vx_calli (vx_runV S5 (hM H.size) cw ⟨BT.blind, va_recv hK hP hc he, fun U hU hW => ⟨rfl, ⟨by rw [hU], by rw [PX, hU]; exact ⟨hP, va_K.moved hW.alike hK⟩, (hD M).weaken (fun _ _ _ _ => trivial)⟩, TE.go hT hS (fun q hq => hA q hq) hU hW⟩⟩ rfl hn hsz rfl (lv_room hrm) hdg hf) hS (fun q _ h => hA q h) hA (fun q _ h => hA q h) ?_ ?_
  · intro E ce q9 u t H1 locs1 ht hvm hr hB hz hk hS1 h1 h2 h3
    exact kx hr E ce q9 H1 locs1 hB.1 h1 h2 h3 (by rw [← ht]; exact hB.2.1.1) hS1
  · intro x u t H1 locs1 ht hvm hx hB hz hk hS1
    obtain ⟨hr0, rfl⟩ := hx
    exact kk hr0 H1 locs1 (by rw [← ht]; exact hB.1.1) hS1

theorem cTVv (S5 : CallFix p m c cc nL s args Ts own) (hK : va_K D vwCl [(cA, .int)] s) (hP : va_P D vwCl (wX cA ad M) H) (hD : ∀ M : Mem, va_D A (wX cA ad M)) (hS : va_S A s.heap H locs) (hT : TE A sa s) (hA : ∀ q, AX ad H.size q → A q) (q0 : Nat) {a ci : Nat} {fs : List Value} {C : String} {T : u_T} {N : Nat} (he : (wX cA ad M)[q0]? = some (a, .inr (ci, fs))) (hc : vwCl[ci]? = some (C, T, N)) {n index maxL : Nat}
    {y : MethodName} {ws : List Cond} {rm : Room} {As : List Value} {r : Res} {bytes : ByteArray} {ret : Option FieldType} (hM : Tv l y ws rm D cA ad sa M (.ref a :: As) mc ms r) (cw : CallW R s args own C index y bytes maxL ret ws rm mc ms n) (hn : As.length = n) (hsz : ls.size = nL) (hst : st0 = As.reverse ++ .ref a :: rest) (hrm : (rest.map fun v => v.category).sum ≤ 8) (hdg : decode cc pc = .ok (.invokevirtual index, 3)) (hf : cells + mc ≤ R.cells ∧ slots + ms ≤ R.slots)
    (kx : ¬ r.1 = 0 → ∀ (E : String) (ce : Cell) (q9 : Addr) (H1 : Heap) (locs1 : List Loc), E = exN r.1 → H1[q9]? = some ce → ce.vm = .none → s.vm.findClass E = some ce.cls → va_P D vwCl (wX cA ad r.2.2) H1 → va_S A s.heap H1 locs1 → vx_W p l e R s m args below meth c H1 locs1 (cells + mc) (slots + ms) Q (F0 m pc ls rest) q9)
    (kk : r.1 = 0 → ∀ (H1 : Heap) (locs1 : List Loc), va_P D vwCl (wX cA ad r.2.2) H1 → va_S A s.heap H1 locs1 → W p l e R s m args below meth c H1 locs1 (cells + mc) (slots + ms) Q (F0 m (pc + 3) ls (rest))) : W p l e R s m args below meth c H locs cells slots Q (F0 m pc ls st0) := by
  subst hst
  refine vx_callv (vx_runV S5 (hM H.size) cw ⟨BT.blind, va_recv hK hP hc he, fun U hU hW => ⟨rfl, ⟨by rw [hU], by rw [PX, hU]; exact ⟨hP, va_K.moved hW.alike hK⟩, (hD M).weaken (fun _ _ _ _ => trivial)⟩, TE.go hT hS (fun q hq => hA q hq) hU hW⟩⟩ rfl hn hsz rfl (lv_room hrm) hdg hf) hS (fun q _ h => hA q h) hA (fun q _ h => hA q h) ?_ ?_
  · intro E ce q9 u t H1 locs1 ht hvm hr hB hz hk hS1 h1 h2 h3
    exact kx hr E ce q9 H1 locs1 hB.1 h1 h2 h3 (by rw [← ht]; exact hB.2.1.1) hS1
  · intro u t H1 locs1 ht hvm hx hB hz hk hS1
    have hr0 := hx
    exact kk hr0 H1 locs1 (by rw [← ht]; exact hB.1.1) hS1

theorem cTSv (S5 : CallFix p m c cc nL s args Ts own) (hK : va_K D vwCl [(cA, .int)] s) (hP : va_P D vwCl (wX cA ad M) H) (hD : ∀ M : Mem, va_D A (wX cA ad M)) (hS : va_S A s.heap H locs) (hT : TE A sa s) (hA : ∀ q, AX ad H.size q → A q) {n index maxL : Nat}
    {y : MethodName} {ws : List Cond} {rm : Room} {As : List Value} {r : Res} {bytes : ByteArray} {ret : Option FieldType} (hM : Tv l y ws rm D cA ad sa M As mc ms r) (cw : CallB R s args own index y bytes maxL ret ws rm mc ms n ∧ (Cond.static y).before args s = true) (hn : As.length = n) (hsz : ls.size = nL) (hst : st0 = As.reverse ++ rest) (hrm : (rest.map fun v => v.category).sum ≤ 8) (hdg : decode cc pc = .ok (.invokestatic index, 3)) (hf : cells + mc ≤ R.cells ∧ slots + ms ≤ R.slots)
    (kx : ¬ r.1 = 0 → ∀ (E : String) (ce : Cell) (q9 : Addr) (H1 : Heap) (locs1 : List Loc), E = exN r.1 → H1[q9]? = some ce → ce.vm = .none → s.vm.findClass E = some ce.cls → va_P D vwCl (wX cA ad r.2.2) H1 → va_S A s.heap H1 locs1 → vx_W p l e R s m args below meth c H1 locs1 (cells + mc) (slots + ms) Q (F0 m pc ls rest) q9)
    (kk : r.1 = 0 → ∀ (H1 : Heap) (locs1 : List Loc), va_P D vwCl (wX cA ad r.2.2) H1 → va_S A s.heap H1 locs1 → W p l e R s m args below meth c H1 locs1 (cells + mc) (slots + ms) Q (F0 m (pc + 3) ls (rest))) : W p l e R s m args below meth c H locs cells slots Q (F0 m pc ls st0) := by
  subst hst
  refine vx_callv (vx_runS S5 (hM H.size) cw ⟨BT.blind, fun U hU hW => ⟨rfl, ⟨by rw [hU], by rw [PX, hU]; exact ⟨hP, va_K.moved hW.alike hK⟩, (hD M).weaken (fun _ _ _ _ => trivial)⟩, TE.go hT hS (fun q hq => hA q hq) hU hW⟩⟩ rfl hn hsz rfl (lv_room hrm) hdg hf) hS (fun q _ h => hA q h) hA (fun q _ h => hA q h) ?_ ?_
  · intro E ce q9 u t H1 locs1 ht hvm hr hB hz hk hS1 h1 h2 h3
    exact kx hr E ce q9 H1 locs1 hB.1 h1 h2 h3 (by rw [← ht]; exact hB.2.1.1) hS1
  · intro u t H1 locs1 ht hvm hx hB hz hk hS1
    have hr0 := hx
    exact kk hr0 H1 locs1 (by rw [← ht]; exact hB.1.1) hS1

/-- a nest mate's private static method that writes -/
theorem cNsX (S5 : CallFix p m c cc nL s args Ts own) (hK : va_K D vwCl [(cA, .int)] s) (hP : va_P D vwCl (wX cA ad M) H) (hD : ∀ M : Mem, va_D A (wX cA ad M)) (hS : va_S A s.heap H locs) (hA : ∀ q, AX ad H.size q → A q) {n index maxL : Nat} {host : String}
    {y : MethodName} {ws : List Cond} {rm : Room} {As : List Value} {r : Int32 × Mem} {bytes : ByteArray} {ret : Option FieldType} (hM : WiX l y ws rm D cA ad M As r) (cw : va_CN R s args own index y host bytes maxL ret ws rm 0 0 n ∧ (Cond.static y).before args s = true ∧ True) (hn : As.length = n) (hsz : ls.size = nL) (hst : st0 = As.reverse ++ rest) (hrm : (rest.map fun v => v.category).sum ≤ 8) (hdg : decode cc pc = .ok (.invokestatic index, 3)) (hf : cells ≤ R.cells ∧ slots ≤ R.slots)
    (kk : ∀ (H1 : Heap) (locs1 : List Loc), H.size ≤ H1.size → va_P D vwCl (wX cA ad r.2) H1 → va_S A s.heap H1 locs1 → W p l e R s m args below meth c H1 locs1 cells slots Q (F0 m (pc + 3) ls (.int r.1 :: rest))) : W p l e R s m args below meth c H locs cells slots Q (F0 m pc ls st0) := by
  subst hst
  refine va_calli (va_runSN S5 (hM H.size) cw ⟨BX.blind, fun U hU hW => ⟨rfl, by rw [hU], by rw [PX, hU]; exact ⟨hP, va_K.moved hW.alike hK⟩, (hD M).weaken (fun _ _ _ _ => trivial)⟩⟩ rfl hn hsz rfl (lv_room hrm) hdg hf) hS (fun q _ h => hA q h) hA (fun x u t H1 locs1 ht hvm hx hB hz hk hS1 => ?_)
  subst hx
  refine kk H1 locs1 hz ?_ hS1
  rw [← ht]; exact hB.1.1

end WT
