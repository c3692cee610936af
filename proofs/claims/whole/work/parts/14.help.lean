/-! the law's own methods -/
def wO (cL ob : Nat) (f : Nat → Int64) : va_W := [(ob, .inl (cL, 1, .inr (.inl f)))]
def AH (ad : Nat → Nat) (ob sz : Nat) : Nat → Prop := fun q => AX ad sz q ∨ q = ob
theorem AH.ge {ad : Nat → Nat} {ob sz q : Nat} (h : sz ≤ q) : AH ad ob sz q := Or.inl (Or.inr h)
theorem va_D.left {A : Nat → Prop} {w1 w2 : va_W} (h : va_D A (w1 ++ w2)) : va_D A w1 := by
  have key : ∀ (i : Nat) (q : Nat × va_E), w1[i]? = some q → (w1 ++ w2)[i]? = some q := fun i q hq => by
    rw [List.getElem?_append_left (by exact (List.getElem?_eq_some_iff.mp hq).1)]; exact hq
  exact ⟨fun i j p q hp hq => h.1 i j p q (key i p hp) (key j q hq), fun k q hk => h.2 k q (key k q hk)⟩
theorem va_D.right {A : Nat → Prop} {w1 w2 : va_W} (h : va_D A (w1 ++ w2)) : va_D A w2 := by
  have key : ∀ (i : Nat) (q : Nat × va_E), w2[i]? = some q → (w1 ++ w2)[w1.length + i]? = some q := fun i q hq => by
    rw [List.getElem?_append_right (by omega)]; rw [show w1.length + i - w1.length = i by omega]; exact hq
  refine ⟨fun i j p q hp hq hpq => ?_, fun k q hk => h.2 _ q (key k q hk)⟩
  have := h.1 _ _ p q (key i p hp) (key j q hq) hpq
  omega
theorem va_D.cross {A : Nat → Prop} {w1 w2 : va_W} (h : va_D A (w1 ++ w2)) {i j : Nat} {p q : Nat × va_E} (hp : w1[i]? = some p) (hq : w2[j]? = some q) : p.1 ≠ q.1 := by
  intro e
  have h1 : (w1 ++ w2)[i]? = some p := by rw [List.getElem?_append_left (by exact (List.getElem?_eq_some_iff.mp hp).1)]; exact hp
  have h2 : (w1 ++ w2)[w1.length + j]? = some q := by rw [List.getElem?_append_right (by omega)]; rw [show w1.length + j - w1.length = j by omega]; exact hq
  have := h.1 _ _ p q h1 h2 e
  have hl := (List.getElem?_eq_some_iff.mp hp).1
  omega
/-- a world whose cells a step doesn't touch stays -/
theorem va_P.off {D : va_G} {cl : List vw_C} {w : va_W} {H H1 : Heap} {A1 : Nat → Prop} (h : va_P D cl w H) (hk : ∀ q : Nat, q < H.size → ¬ A1 q → H1[q]? = H[q]?) (ho : ∀ (k : Nat) (q : Nat × va_E), w[k]? = some q → ¬ A1 q.1) : va_P D cl w H1 :=
  fun k q hq => (h k q hq).kept (hk q.1 (h k q hq).lt (ho k q hq))
theorem ad_at (cA : Nat) (ad : Nat → Nat) (M : Mem) : ∀ k, k < 9 → ∃ e, (wX cA ad M)[k]? = some (ad k, e) := by
  intro k hk
  match k, hk with
  | 0, _ => exact ⟨_, rfl⟩
  | 1, _ => exact ⟨_, rfl⟩
  | 2, _ => exact ⟨_, rfl⟩
  | 3, _ => exact ⟨_, rfl⟩
  | 4, _ => exact ⟨_, rfl⟩
  | 5, _ => exact ⟨_, rfl⟩
  | 6, _ => exact ⟨_, rfl⟩
  | 7, _ => exact ⟨_, rfl⟩
  | 8, _ => exact ⟨_, rfl⟩
theorem am_at (cA : Nat) (ad : Nat → Nat) (M : Mem) : ∀ k, k < 9 → ∃ e, (wM cA ad M)[k]? = some (ad k, e) := by
  intro k hk
  match k, hk with
  | 0, _ => exact ⟨_, rfl⟩
  | 1, _ => exact ⟨_, rfl⟩
  | 2, _ => exact ⟨_, rfl⟩
  | 3, _ => exact ⟨_, rfl⟩
  | 4, _ => exact ⟨_, rfl⟩
  | 5, _ => exact ⟨_, rfl⟩
  | 6, _ => exact ⟨_, rfl⟩
  | 7, _ => exact ⟨_, rfl⟩
  | 8, _ => exact ⟨_, rfl⟩
/-- .. a world apart from the class's own cells -/
theorem off_AX {A : Nat → Prop} {D : va_G} {cl : List vw_C} {cA : Nat} {ad : Nat → Nat} {M : Mem} {w : va_W} {H : Heap} (hD : va_D A (wX cA ad M ++ w)) (hP : va_P D cl w H) : ∀ (k : Nat) (q : Nat × va_E), w[k]? = some q → ¬ AX ad H.size q.1 := by
  intro k q hq h
  rcases h with ⟨j, hj, e⟩ | h
  · obtain ⟨z, hz⟩ := ad_at cA ad M j hj
    exact hD.cross hz hq e.symm
  · have := (hP k q hq).lt
    omega
def BH (D : va_G) (cA cL : Nat) (ad : Nat → Nat) (ob sz : Nat) (sa : Nat → Nat) (M : Mem) (f : Nat → Int64) (U : State) : Prop :=
  U.heap.size = sz ∧ va_P D vwCl (wX cA ad M) U.heap ∧ va_P D vwCl (wO cL ob f) U.heap ∧ va_K D vwCl [(cA, .int)] U ∧ va_K D vwCl [(cL, .long)] U ∧ va_D (fun _ => True) (wX cA ad M ++ wO cL ob f) ∧ TE (AH ad ob sz) sa U ∧ va_Nc (exN 2) (exN 1) U
theorem BH.blind {D : va_G} {cA cL : Nat} {ad : Nat → Nat} {ob sz : Nat} {sa : Nat → Nat} {M : Mem} {f : Nat → Int64} {as : List Value} : FrameBlind (va_Pc as (BH D cA cL ad ob sz sa M f)) := fun a U g mk h =>
  ⟨h.1, h.2.1, h.2.2.1, h.2.2.2.1, va_K.moved (u := U) (U := U.calling g mk a) (Vm.Alike.refl U.vm) h.2.2.2.2.1, va_K.moved (u := U) (U := U.calling g mk a) (Vm.Alike.refl U.vm) h.2.2.2.2.2.1, h.2.2.2.2.2.2.1, TE.call h.2.2.2.2.2.2.2.1, va_Nc.moved (u := U) (U := U.calling g mk a) (Vm.Alike.refl U.vm) h.2.2.2.2.2.2.2.2⟩
def EH (D : va_G) (cA cL : Nat) (ad : Nat → Nat) (ob : Nat) (M : Mem) (f : Nat → Int64) (t : State) : Prop := va_P D vwCl (wX cA ad M) t.heap ∧ va_P D vwCl (wO cL ob f) t.heap
/-- what a helper answers: 0, or the place of the exception in its list -/
def hcd (e1 : Nat) (r : Res) : Int32 := if r.1 = 0 then 0 else if r.1 = e1 then 1 else 2
abbrev Hp (l : Launch) (y : MethodName) (ws : List Cond) (rm : Room) (D : va_G) (cA cL : Nat) (ad : Nat → Nat) (ob : Nat) (sa : Nat → Nat) (M : Mem) (f : Nat → Int64) (as : List Value) (mc ms e1 : Nat) (r : Res) : Prop :=
  ∀ sz : Nat, vx_Met l y ws rm (va_Pc as (BH D cA cL ad ob sz sa M f)) (va_Qi (fun (x : Int32) (g : Nat → Int64) => x = hcd e1 r ∧ (r.1 = 0 → g 0 = r.2.1.toInt64)) (fun g t => EH D cA cL ad ob r.2.2 g t) (AH ad ob sz)) (fun _ _ _ => False) mc ms (AH ad ob sz)
theorem Hp.of {l : Launch} {y : MethodName} {ws ws' : List Cond} {rm : Room} {D : va_G} {cA cL : Nat} {ad : Nat → Nat} {ob : Nat} {sa : Nat → Nat} {M : Mem} {f : Nat → Int64} {as : List Value} {mc ms e1 : Nat} {r : Res} {cc : ByteArray} {maxL : Nat} {hh : List (Nat × Nat × Nat × Nat)} (hy : plainName y.cls = true) (ho : y.cls = RL) (hw : ws = Cond.codeWith y cc maxL (some .int) hh :: ws') (hlen : (lg_sl as).length ≤ maxL)
    (body : ∀ (p : Program) (e : Env) (s : State) (m : MethodId) (args : Array Value) (below : List Frame) (meth : Method) (c : Code) (Q : State → Prop) (ls : Array Slot) (A : Nat → Prop), A = AH ad ob s.heap.size → CallFix p m c cc maxL s args ws RL → c.exceptionTable.toList = tableOf hh → va_K D vwCl [(cA, .int)] s → va_K D vwCl [(cL, .long)] s → va_P D vwCl (wX cA ad M) s.heap → va_P D vwCl (wO cL ob f) s.heap → (∀ (M : Mem) (f : Nat → Int64), va_D A (wX cA ad M ++ wO cL ob f)) → va_S A s.heap s.heap [] → TE A sa s → va_Nc (exN 2) (exN 1) s → lv_has ls maxL (lv_args 0 as) →
      (∀ (v : Int32) (g : Nat → Int64) (pc : Nat) (ls : Array Slot) (H : Heap) (locs : List Loc), v = hcd e1 r → (r.1 = 0 → g 0 = r.2.1.toInt64) → va_P D vwCl (wX cA ad r.2.2) H → va_P D vwCl (wO cL ob g) H → va_S A s.heap H locs → decode cc pc = .ok (.ireturn, 1) → W p l e rm s m args below meth c H locs mc ms Q (F0 m pc ls [.int v])) →
      W p l e rm s m args below meth c s.heap [] 0 0 Q (F0 m 0 ls [])) : Hp l y ws rm D cA cL ad ob sa M f as mc ms e1 r := by
  intro sz
  refine vx_ofWH (cc := cc) (maxL := maxL) (ret := some .int) (hh := hh) hy hw ?_
  intro p e s m args below meth c s₁ B hml hv
  obtain ⟨rfl, hsz, hP, hO, hK, hKL, hD, hT, hN⟩ := hv
  subst hsz
  have hl := lv_entry as hlen
  rw [lg_entry_eq]
  have hlocks := B.notSynchronized
  have hown : s.vm.findClass RL = some m.cls := ho ▸ findClass_of_methodNamed B.named
  have hts := atoms_spec (ws := ws) B.pre
  have htab := vx_table (x := y) B (atoms_spec (ws := ws) B.pre _ (by rw [hw]; exact List.mem_cons_self))
  have hA : ∀ (M : Mem) (f : Nat → Int64), va_D (AH ad ob s.heap.size) (wX cA ad M ++ wO cL ob f) := by
    intro M' f'
    refine va_D.same (w1 := wX cA ad M ++ wO cL ob f) (hD.weaken (fun k q hk _ => ?_)) rfl
    rcases List.mem_append.mp (List.mem_of_getElem? hk) with h | h
    · obtain ⟨j, hj⟩ := List.getElem?_of_mem h
      exact Or.inl ((AX.ofX (sz := s.heap.size) hD.left).2 j q hj)
    · simp only [wO, List.mem_cons, List.not_mem_nil, or_false] at h
      rw [h]; exact Or.inr rfl
  exact body p e s m _ below meth c _ _ _ rfl ⟨B.exec, B.bytes, hml, hown, hts⟩ htab hK hKL hP hO hA va_S.rf hT hN hl (fun v g pc ls H locs hv hg hP1 hO1 hS hdg => vx_ret (W.iret (v := v) B.exec B.bytes B.returns (fun t ht hW => ⟨⟨v, g, rfl, ⟨hv, hg⟩, by show EH D cA cL ad ob r.2.2 g t; unfold EH; rw [ht]; exact ⟨hP1, hO1⟩⟩, hS.F ht⟩) hS.2.2 hdg))
section WH
variable {p : Program} {l : Launch} {e : Env} {R : Room} {s : State} {m : MethodId} {args : Array Value} {below : List Frame} {meth : Method} {c : Code} {H : Heap} {locs : List Loc} {cells slots : Nat} {Q : State → Prop}
variable {cc : ByteArray} {pc : Nat} {ls : Array Slot} {rest st0 : List Value} {nL : Nat} {Ts : List Cond} {own : String} {D : va_G} {cA cL : Nat} {ad sa : Nat → Nat} {ob : Nat} {M : Mem} {f : Nat → Int64} {A : Nat → Prop} {mc ms : Nat}
theorem cHVi (S5 : CallFix p m c cc nL s args Ts own) (hK : va_K D vwCl [(cA, .int)] s) (hP : va_P D vwCl (wX cA ad M) H) (hO : va_P D vwCl (wO cL ob f) H) (hD : ∀ (M : Mem) (f : Nat → Int64), va_D A (wX cA ad M ++ wO cL ob f)) (hS : va_S A s.heap H locs) (hT : TE A sa s) (hA : ∀ q, AX ad H.size q → A q) {n index maxL : Nat}
    {y : MethodName} {ws : List Cond} {rm : Room} {As : List Value} {r : Res} {bytes : ByteArray} {ret : Option FieldType} (hM : Ti l y ws rm D cA ad sa M (.ref (ad 8) :: As) mc ms r) (cw : CallW R s args own RX5 index y bytes maxL ret ws rm mc ms n) (hn : As.length = n) (hsz : ls.size = nL) (hst : st0 = As.reverse ++ .ref (ad 8) :: rest) (hrm : (rest.map fun v => v.category).sum ≤ 8) (hdg : decode cc pc = .ok (.invokevirtual index, 3)) (hf : cells + mc ≤ R.cells ∧ slots + ms ≤ R.slots)
    (kx : ¬ r.1 = 0 → ∀ (E : String) (ce : Cell) (q9 : Addr) (H1 : Heap) (locs1 : List Loc), E = exN r.1 → H1[q9]? = some ce → ce.vm = .none → s.vm.findClass E = some ce.cls → va_P D vwCl (wX cA ad r.2.2) H1 → va_P D vwCl (wO cL ob f) H1 → va_S A s.heap H1 locs1 → vx_W p l e R s m args below meth c H1 locs1 (cells + mc) (slots + ms) Q (F0 m pc ls rest) q9)
    (kk : r.1 = 0 → ∀ (H1 : Heap) (locs1 : List Loc), va_P D vwCl (wX cA ad r.2.2) H1 → va_P D vwCl (wO cL ob f) H1 → va_S A s.heap H1 locs1 → W p l e R s m args below meth c H1 locs1 (cells + mc) (slots + ms) Q (F0 m (pc + 3) ls (.int r.2.1 :: rest))) : W p l e R s m args below meth c H locs cells slots Q (F0 m pc ls st0) := by
  subst hst
  have hoff := off_AX (hD M f) hO
  refine vx_calli (vx_runV S5 (hM H.size) cw ⟨BT.blind, va_recv hK hP (ci := 4) (q0 := 8) rfl rfl, fun U hU hW => ⟨rfl, ⟨by rw [hU], by rw [PX, hU]; exact ⟨hP, va_K.moved hW.alike hK⟩, (hD M f).left.weaken (fun _ _ _ _ => trivial)⟩, TE.go hT hS (fun q hq => hA q hq) hU hW⟩⟩ rfl hn hsz rfl (lv_room hrm) hdg hf) hS (fun q _ h => hA q h) hA (fun q _ h => hA q h) ?_ ?_
  · intro E ce q9 u t H1 locs1 ht hvm hr hB hz hk hS1 h1 h2 h3
    exact kx hr E ce q9 H1 locs1 hB.1 h1 h2 h3 (by rw [← ht]; exact hB.2.1.1) (hO.off hk hoff) hS1
  · intro x u t H1 locs1 ht hvm hx hB hz hk hS1
    obtain ⟨hr0, rfl⟩ := hx
    exact kk hr0 H1 locs1 (by rw [← ht]; exact hB.1.1) (hO.off hk hoff) hS1
end WH

theorem W_last {p : Program} {l : Launch} {e : Env} {R : Room} {s : State} {m : MethodId} {args : Array Value} {below : List Frame} {meth : Method} {c : Code} {H : Heap} {locs : List Loc} {cells slots : Nat} {Q : State → Prop} {cc : ByteArray} {pc : Nat} {ls : Array Slot} {rest : List Value} {D : va_G} {cA cL : Nat} {ad : Nat → Nat} {ob : Nat} {M : Mem} {f : Nat → Int64} {A : Nat → Prop} (hexec : p.tables.exec = Jvm.exec) (hb : c.code = cc) (hKL : va_K D vwCl [(cL, .long)] s) (hP : va_P D vwCl (wX cA ad M) H) (hO : va_P D vwCl (wO cL ob f) H) (hD : ∀ (M : Mem) (f : Nat → Int64), va_D A (wX cA ad M ++ wO cL ob f)) (hS : va_S A s.heap H locs) {x : Int64} (hi : vin 0 1 = true) (hdg : decode cc pc = .ok (.lastore, 1))
    (kk : ∀ (H1 : Heap) (locs1 : List Loc) (g : Nat → Int64), g 0 = x → va_P D vwCl (wX cA ad M) H1 → va_P D vwCl (wO cL ob g) H1 → va_S A s.heap H1 locs1 → W p l e R s m args below meth c H1 locs1 cells slots Q (F0 m (pc + 1) ls rest)) : W p l e R s m args below meth c H locs cells slots Q (F0 m pc ls (.long x :: .int 0 :: .ref ob :: rest)) := by
  have hPO : va_P D vwCl (wX cA ad M ++ wO cL ob f) H := va_P.app hP hO
  refine va_last (tys := [(cL, .long)]) hexec hb hKL hPO (hD M f) hS 9 0 rfl rfl (vin_in hi) hdg (fun H1 locs1 hP1 hD1 hS1 => ?_)
  exact kk H1 locs1 (vp_updL f (0 : Int32).toNatClampNeg x) (by simp [vp_updL]) (hP1.sub [0, 1, 2, 3, 4, 5, 6, 7, 8] rfl) (hP1.sub [9] rfl) hS1
-- L_begin
def rmL_begin : Room := { frames := rmX5_begin.frames + 1, cells := 1, slots := 6, locals := rmX5_begin.locals + 21 }
set_option maxHeartbeats 4000000 in
set_option maxRecDepth 100000 in
theorem kL_begin (l : Launch) (D : va_G) (cA cL : Nat) (ad : Nat → Nat) (ob : Nat) (sa : Nat → Nat) (hst : l.stackTraces = false) (p1 : Int32) (M : Mem) (f : Nat → Int64) (r : Res) (h : fX5_begin p1 M = r) (hr : r.1 = 0 ∨ r.1 = 1) : Hp l yL_begin wsL_begin rmL_begin D cA cL ad ob sa M f [.ref (ad 8), .int p1, .ref ob] 1 6 1 r := by
  have hM : Ti l yX5_begin wsX5_begin rmX5_begin D cA ad sa M [.ref (ad 8), .int p1] 1 6 r := h ▸ kX5_begin l D cA ad sa hst p1 M
  refine Hp.of rfl rfl rfl (Nat.le_of_ble_eq_true rfl) ?_
  intro p e s m args below meth c Q ls A eA S5 htab hK hKL hP hO hD hS hT hN hl kr
  have hA : ∀ (H : Heap) (q : Nat), s.heap.size ≤ H.size → AX ad H.size q → A q := fun H q hz h => by rw [eA]; exact Or.inl (AX.mono hz h)
  obtain ⟨hx, hb, -, hown, hts⟩ := id S5
  refine lv_aload_n hx hb dL_begin_0 rfl (lv_at hl 2 rfl) ?_
  refine lv_iconst (v := 0) hx hb dL_begin_1 (by decide) ?_
  refine lv_aload_n hx hb dL_begin_2 rfl (lv_at hl 0 rfl) ?_
  refine lv_iload_n hx hb dL_begin_3 rfl (lv_at hl 1 rfl) ?_
  refine cHVi S5 hK hP hO hD hS hT (fun _ h => hA _ _ hS.1 h) (As := [.int p1]) hM (cwV 1 hts gL_begin_X5_begin rfl rfl rfl (by decide +kernel) ⟨Nat.le_refl _, (by show 8 + (2 + 11) + rmX5_begin.locals ≤ rmX5_begin.locals + 21; omega)⟩) rfl hl.1 (st0 := _) (rest := [.int 0, .ref ob]) rfl (Nat.le_of_ble_eq_true rfl) dL_begin_4 ⟨(Nat.le_of_ble_eq_true rfl), (Nat.le_of_ble_eq_true rfl)⟩ (fun c1 E ce q9 H locs hE h1 h2 h3 hP hO hS => ?_) (fun c1 H locs hP hO hS => ?_)
  · rcases hr with hr | hr
    · exact absurd hr c1
    · rw [hr] at hE
      subst hE
      refine vx_catch (name := "java/lang/IllegalArgumentException") hown [] ⟨0, 9, 12, 13⟩ [] htab (fun z hz => nomatch hz) rfl (by decide) (hts _ (List.mem_of_getElem? (i := 1) rfl)) (va_Nw.use (w := .castable (exN 1) (exN 1)) rfl (hT.2.2.2.2.1 1 (by simp))) h1 h2 h3 ?_
      refine lv_astore_n (lv' := [(3, .ref q9), (0, .ref (ad 8)), (1, .int p1), (2, .ref ob)]) hx hb dL_begin_12 rfl hl (by decide) rfl (fun ls hl => ?_)
      refine lv_iconst (v := 1) hx hb dL_begin_13 (by decide) ?_
      refine W.widen (k := 1) (n := 6) (by decide) (by decide) ?_
      exact kr 1 f _ _ _ _ (by unfold hcd; rw [hr]; rfl) (fun h0 => absurd h0 c1) hP hO hS dL_begin_14
  · skip
    refine lv_i2l (v := r.2.1.toInt64) hx hb dL_begin_7 rfl ?_
    refine W_last (cA := cA) (ad := ad) (M := r.2.2) hx hb hKL hP hO hD hS (by decide) dL_begin_8 (fun H locs g hg hP hO hS => ?_)
    refine lv_goto (tgt := 15) hx hb dL_begin_9 (by decide) ?_
    refine lv_iconst (v := 0) hx hb dL_begin_15 (by decide) ?_
    refine W.widen (k := 1) (n := 6) (by decide) (by decide) ?_
    exact kr 0 g _ _ _ _ (by unfold hcd; rw [if_pos c1]) (fun _ => by rw [hg]) hP hO hS dL_begin_16
-- L_give
def rmL_give : Room := { frames := rmX5_give.frames + 1, cells := 3, slots := 18, locals := rmX5_give.locals + 22 }
set_option maxHeartbeats 4000000 in
set_option maxRecDepth 100000 in
theorem kL_give (l : Launch) (D : va_G) (cA cL : Nat) (ad : Nat → Nat) (ob : Nat) (sa : Nat → Nat) (hst : l.stackTraces = false) (p1 : Int32) (p2 : Int32) (M : Mem) (f : Nat → Int64) (r : Res) (h : fX5_give p1 p2 M = r) (hr : r.1 = 0 ∨ r.1 = 1 ∨ r.1 = 2) : Hp l yL_give wsL_give rmL_give D cA cL ad ob sa M f [.ref (ad 8), .int p1, .int p2, .ref ob] 3 18 1 r := by
  have hM : Ti l yX5_give wsX5_give rmX5_give D cA ad sa M [.ref (ad 8), .int p1, .int p2] 3 18 r := h ▸ kX5_give l D cA ad sa hst p1 p2 M
  refine Hp.of rfl rfl rfl (Nat.le_of_ble_eq_true rfl) ?_
  intro p e s m args below meth c Q ls A eA S5 htab hK hKL hP hO hD hS hT hN hl kr
  have hA : ∀ (H : Heap) (q : Nat), s.heap.size ≤ H.size → AX ad H.size q → A q := fun H q hz h => by rw [eA]; exact Or.inl (AX.mono hz h)
  obtain ⟨hx, hb, -, hown, hts⟩ := id S5
  refine lv_aload_n hx hb dL_give_0 rfl (lv_at hl 3 rfl) ?_
  refine lv_iconst (v := 0) hx hb dL_give_1 (by decide) ?_
  refine lv_aload_n hx hb dL_give_2 rfl (lv_at hl 0 rfl) ?_
  refine lv_iload_n hx hb dL_give_3 rfl (lv_at hl 1 rfl) ?_
  refine lv_iload_n hx hb dL_give_4 rfl (lv_at hl 2 rfl) ?_
  refine cHVi S5 hK hP hO hD hS hT (fun _ h => hA _ _ hS.1 h) (As := [.int p1, .int p2]) hM (cwV 2 hts gL_give_X5_give rfl rfl rfl (by decide +kernel) ⟨Nat.le_refl _, (by show 8 + (3 + 11) + rmX5_give.locals ≤ rmX5_give.locals + 22; omega)⟩) rfl hl.1 (st0 := _) (rest := [.int 0, .ref ob]) rfl (Nat.le_of_ble_eq_true rfl) dL_give_5 ⟨(Nat.le_of_ble_eq_true rfl), (Nat.le_of_ble_eq_true rfl)⟩ (fun c1 E ce q9 H locs hE h1 h2 h3 hP hO hS => ?_) (fun c1 H locs hP hO hS => ?_)
  · rcases hr with hr | hr | hr
    · exact absurd hr c1
    · rw [hr] at hE
      subst hE
      refine vx_catch (name := "java/lang/IllegalArgumentException") hown [] ⟨0, 10, 13, 13⟩ [⟨0, 10, 17, 19⟩] htab (fun z hz => nomatch hz) rfl (by decide) (hts _ (List.mem_of_getElem? (i := 1) rfl)) (va_Nw.use (w := .castable (exN 1) (exN 1)) rfl (hT.2.2.2.2.1 1 (by simp))) h1 h2 h3 ?_
      refine lv_astore (lv' := [(4, .ref q9), (0, .ref (ad 8)), (1, .int p1), (2, .int p2), (3, .ref ob)]) hx hb dL_give_13 hl (by decide) rfl (fun ls hl => ?_)
      refine lv_iconst (v := 1) hx hb dL_give_15 (by decide) ?_
      refine W.widen (k := 3) (n := 18) (by decide) (by decide) ?_
      exact kr 1 f _ _ _ _ (by unfold hcd; rw [hr]; rfl) (fun h0 => absurd h0 c1) hP hO hS dL_give_16
    · rw [hr] at hE
      subst hE
      refine vx_catch (name := "java/lang/IllegalStateException") hown [⟨0, 10, 13, 13⟩] ⟨0, 10, 17, 19⟩ [] htab (fun z hz => by rw [List.mem_singleton.mp hz]; exact Or.inr ⟨by decide, "java/lang/IllegalArgumentException", hts _ (List.mem_of_getElem? (i := 1) rfl), hN⟩) rfl (by decide) (hts _ (List.mem_of_getElem? (i := 2) rfl)) (va_Nw.use (w := .castable (exN 2) (exN 2)) rfl (hT.2.2.2.2.1 2 (by simp))) h1 h2 h3 ?_
      refine lv_astore (lv' := [(4, .ref q9), (0, .ref (ad 8)), (1, .int p1), (2, .int p2), (3, .ref ob)]) hx hb dL_give_17 hl (by decide) rfl (fun ls hl => ?_)
      refine lv_iconst (v := 2) hx hb dL_give_19 (by decide) ?_
      refine W.widen (k := 3) (n := 18) (by decide) (by decide) ?_
      exact kr 2 f _ _ _ _ (by unfold hcd; rw [hr]; rfl) (fun h0 => absurd h0 c1) hP hO hS dL_give_20
  · skip
    refine lv_i2l (v := r.2.1.toInt64) hx hb dL_give_8 rfl ?_
    refine W_last (cA := cA) (ad := ad) (M := r.2.2) hx hb hKL hP hO hD hS (by decide) dL_give_9 (fun H locs g hg hP hO hS => ?_)
    refine lv_goto (tgt := 21) hx hb dL_give_10 (by decide) ?_
    refine lv_iconst (v := 0) hx hb dL_give_21 (by decide) ?_
    refine W.widen (k := 3) (n := 18) (by decide) (by decide) ?_
    exact kr 0 g _ _ _ _ (by unfold hcd; rw [if_pos c1]) (fun _ => by rw [hg]) hP hO hS dL_give_22
-- L_start
def rmL_start : Room := { frames := rmX5_start.frames + 1, cells := 2, slots := 12, locals := rmX5_start.locals + 21 }
set_option maxHeartbeats 4000000 in
set_option maxRecDepth 100000 in
theorem kL_start (l : Launch) (D : va_G) (cA cL : Nat) (ad : Nat → Nat) (ob : Nat) (sa : Nat → Nat) (hst : l.stackTraces = false) (p1 : Int32) (M : Mem) (f : Nat → Int64) (r : Res) (h : fX5_start p1 M = some r) (hr : r.1 = 0 ∨ r.1 = 1 ∨ r.1 = 2) : Hp l yL_start wsL_start rmL_start D cA cL ad ob sa M f [.ref (ad 8), .int p1, .ref ob] 2 12 1 r := by
  have hM : Ti l yX5_start wsX5_start rmX5_start D cA ad sa M [.ref (ad 8), .int p1] 2 12 r := kX5_start l D cA ad sa hst p1 M r h
  refine Hp.of rfl rfl rfl (Nat.le_of_ble_eq_true rfl) ?_
  intro p e s m args below meth c Q ls A eA S5 htab hK hKL hP hO hD hS hT hN hl kr
  have hA : ∀ (H : Heap) (q : Nat), s.heap.size ≤ H.size → AX ad H.size q → A q := fun H q hz h => by rw [eA]; exact Or.inl (AX.mono hz h)
  obtain ⟨hx, hb, -, hown, hts⟩ := id S5
  refine lv_aload_n hx hb dL_start_0 rfl (lv_at hl 2 rfl) ?_
  refine lv_iconst (v := 0) hx hb dL_start_1 (by decide) ?_
  refine lv_aload_n hx hb dL_start_2 rfl (lv_at hl 0 rfl) ?_
  refine lv_iload_n hx hb dL_start_3 rfl (lv_at hl 1 rfl) ?_
  refine cHVi S5 hK hP hO hD hS hT (fun _ h => hA _ _ hS.1 h) (As := [.int p1]) hM (cwV 1 hts gL_start_X5_start rfl rfl rfl (by decide +kernel) ⟨Nat.le_refl _, (by show 8 + (2 + 11) + rmX5_start.locals ≤ rmX5_start.locals + 21; omega)⟩) rfl hl.1 (st0 := _) (rest := [.int 0, .ref ob]) rfl (Nat.le_of_ble_eq_true rfl) dL_start_4 ⟨(Nat.le_of_ble_eq_true rfl), (Nat.le_of_ble_eq_true rfl)⟩ (fun c1 E ce q9 H locs hE h1 h2 h3 hP hO hS => ?_) (fun c1 H locs hP hO hS => ?_)
  · rcases hr with hr | hr | hr
    · exact absurd hr c1
    · rw [hr] at hE
      subst hE
      refine vx_catch (name := "java/lang/IllegalArgumentException") hown [] ⟨0, 9, 12, 13⟩ [⟨0, 9, 15, 19⟩] htab (fun z hz => nomatch hz) rfl (by decide) (hts _ (List.mem_of_getElem? (i := 1) rfl)) (va_Nw.use (w := .castable (exN 1) (exN 1)) rfl (hT.2.2.2.2.1 1 (by simp))) h1 h2 h3 ?_
      refine lv_astore_n (lv' := [(3, .ref q9), (0, .ref (ad 8)), (1, .int p1), (2, .ref ob)]) hx hb dL_start_12 rfl hl (by decide) rfl (fun ls hl => ?_)
      refine lv_iconst (v := 1) hx hb dL_start_13 (by decide) ?_
      refine W.widen (k := 2) (n := 12) (by decide) (by decide) ?_
      exact kr 1 f _ _ _ _ (by unfold hcd; rw [hr]; rfl) (fun h0 => absurd h0 c1) hP hO hS dL_start_14
    · rw [hr] at hE
      subst hE
      refine vx_catch (name := "java/lang/IllegalStateException") hown [⟨0, 9, 12, 13⟩] ⟨0, 9, 15, 19⟩ [] htab (fun z hz => by rw [List.mem_singleton.mp hz]; exact Or.inr ⟨by decide, "java/lang/IllegalArgumentException", hts _ (List.mem_of_getElem? (i := 1) rfl), hN⟩) rfl (by decide) (hts _ (List.mem_of_getElem? (i := 2) rfl)) (va_Nw.use (w := .castable (exN 2) (exN 2)) rfl (hT.2.2.2.2.1 2 (by simp))) h1 h2 h3 ?_
      refine lv_astore_n (lv' := [(3, .ref q9), (0, .ref (ad 8)), (1, .int p1), (2, .ref ob)]) hx hb dL_start_15 rfl hl (by decide) rfl (fun ls hl => ?_)
      refine lv_iconst (v := 2) hx hb dL_start_16 (by decide) ?_
      refine W.widen (k := 2) (n := 12) (by decide) (by decide) ?_
      exact kr 2 f _ _ _ _ (by unfold hcd; rw [hr]; rfl) (fun h0 => absurd h0 c1) hP hO hS dL_start_17
  · skip
    refine lv_i2l (v := r.2.1.toInt64) hx hb dL_start_7 rfl ?_
    refine W_last (cA := cA) (ad := ad) (M := r.2.2) hx hb hKL hP hO hD hS (by decide) dL_start_8 (fun H locs g hg hP hO hS => ?_)
    refine lv_goto (tgt := 18) hx hb dL_start_9 (by decide) ?_
    refine lv_iconst (v := 0) hx hb dL_start_18 (by decide) ?_
    refine W.widen (k := 2) (n := 12) (by decide) (by decide) ?_
    exact kr 0 g _ _ _ _ (by unfold hcd; rw [if_pos c1]) (fun _ => by rw [hg]) hP hO hS dL_start_19
-- L_play
def rmL_play : Room := { frames := rmX5_play.frames + 1, cells := 2, slots := 12, locals := rmX5_play.locals + 21 }
set_option maxHeartbeats 4000000 in
set_option maxRecDepth 100000 in
theorem kL_play (l : Launch) (D : va_G) (cA cL : Nat) (ad : Nat → Nat) (ob : Nat) (sa : Nat → Nat) (hst : l.stackTraces = false) (p1 : Int32) (M : Mem) (f : Nat → Int64) (r : Res) (h : fX5_play p1 M = some r) (hr : r.1 = 0 ∨ r.1 = 1 ∨ r.1 = 2) : Hp l yL_play wsL_play rmL_play D cA cL ad ob sa M f [.ref (ad 8), .int p1, .ref ob] 2 12 1 r := by
  have hM : Ti l yX5_play wsX5_play rmX5_play D cA ad sa M [.ref (ad 8), .int p1] 2 12 r := kX5_play l D cA ad sa hst p1 M r h
  refine Hp.of rfl rfl rfl (Nat.le_of_ble_eq_true rfl) ?_
  intro p e s m args below meth c Q ls A eA S5 htab hK hKL hP hO hD hS hT hN hl kr
  have hA : ∀ (H : Heap) (q : Nat), s.heap.size ≤ H.size → AX ad H.size q → A q := fun H q hz h => by rw [eA]; exact Or.inl (AX.mono hz h)
  obtain ⟨hx, hb, -, hown, hts⟩ := id S5
  refine lv_aload_n hx hb dL_play_0 rfl (lv_at hl 2 rfl) ?_
  refine lv_iconst (v := 0) hx hb dL_play_1 (by decide) ?_
  refine lv_aload_n hx hb dL_play_2 rfl (lv_at hl 0 rfl) ?_
  refine lv_iload_n hx hb dL_play_3 rfl (lv_at hl 1 rfl) ?_
  refine cHVi S5 hK hP hO hD hS hT (fun _ h => hA _ _ hS.1 h) (As := [.int p1]) hM (cwV 1 hts gL_play_X5_play rfl rfl rfl (by decide +kernel) ⟨Nat.le_refl _, (by show 8 + (2 + 11) + rmX5_play.locals ≤ rmX5_play.locals + 21; omega)⟩) rfl hl.1 (st0 := _) (rest := [.int 0, .ref ob]) rfl (Nat.le_of_ble_eq_true rfl) dL_play_4 ⟨(Nat.le_of_ble_eq_true rfl), (Nat.le_of_ble_eq_true rfl)⟩ (fun c1 E ce q9 H locs hE h1 h2 h3 hP hO hS => ?_) (fun c1 H locs hP hO hS => ?_)
  · rcases hr with hr | hr | hr
    · exact absurd hr c1
    · rw [hr] at hE
      subst hE
      refine vx_catch (name := "java/lang/IllegalArgumentException") hown [] ⟨0, 9, 12, 13⟩ [⟨0, 9, 15, 19⟩] htab (fun z hz => nomatch hz) rfl (by decide) (hts _ (List.mem_of_getElem? (i := 1) rfl)) (va_Nw.use (w := .castable (exN 1) (exN 1)) rfl (hT.2.2.2.2.1 1 (by simp))) h1 h2 h3 ?_
      refine lv_astore_n (lv' := [(3, .ref q9), (0, .ref (ad 8)), (1, .int p1), (2, .ref ob)]) hx hb dL_play_12 rfl hl (by decide) rfl (fun ls hl => ?_)
      refine lv_iconst (v := 1) hx hb dL_play_13 (by decide) ?_
      refine W.widen (k := 2) (n := 12) (by decide) (by decide) ?_
      exact kr 1 f _ _ _ _ (by unfold hcd; rw [hr]; rfl) (fun h0 => absurd h0 c1) hP hO hS dL_play_14
    · rw [hr] at hE
      subst hE
      refine vx_catch (name := "java/lang/IllegalStateException") hown [⟨0, 9, 12, 13⟩] ⟨0, 9, 15, 19⟩ [] htab (fun z hz => by rw [List.mem_singleton.mp hz]; exact Or.inr ⟨by decide, "java/lang/IllegalArgumentException", hts _ (List.mem_of_getElem? (i := 1) rfl), hN⟩) rfl (by decide) (hts _ (List.mem_of_getElem? (i := 2) rfl)) (va_Nw.use (w := .castable (exN 2) (exN 2)) rfl (hT.2.2.2.2.1 2 (by simp))) h1 h2 h3 ?_
      refine lv_astore_n (lv' := [(3, .ref q9), (0, .ref (ad 8)), (1, .int p1), (2, .ref ob)]) hx hb dL_play_15 rfl hl (by decide) rfl (fun ls hl => ?_)
      refine lv_iconst (v := 2) hx hb dL_play_16 (by decide) ?_
      refine W.widen (k := 2) (n := 12) (by decide) (by decide) ?_
      exact kr 2 f _ _ _ _ (by unfold hcd; rw [hr]; rfl) (fun h0 => absurd h0 c1) hP hO hS dL_play_17
  · skip
    refine lv_i2l (v := r.2.1.toInt64) hx hb dL_play_7 rfl ?_
    refine W_last (cA := cA) (ad := ad) (M := r.2.2) hx hb hKL hP hO hD hS (by decide) dL_play_8 (fun H locs g hg hP hO hS => ?_)
    refine lv_goto (tgt := 18) hx hb dL_play_9 (by decide) ?_
    refine lv_iconst (v := 0) hx hb dL_play_18 (by decide) ?_
    refine W.widen (k := 2) (n := 12) (by decide) (by decide) ?_
    exact kr 0 g _ _ _ _ (by unfold hcd; rw [if_pos c1]) (fun _ => by rw [hg]) hP hO hS dL_play_19
-- L_takeBack
def rmL_takeBack : Room := { frames := rmX5_takeBack.frames + 1, cells := 1, slots := 6, locals := rmX5_takeBack.locals + 20 }
set_option maxHeartbeats 4000000 in
set_option maxRecDepth 100000 in
theorem kL_takeBack (l : Launch) (D : va_G) (cA cL : Nat) (ad : Nat → Nat) (ob : Nat) (sa : Nat → Nat) (hst : l.stackTraces = false) (M : Mem) (f : Nat → Int64) (r : Res) (h : fX5_takeBack M = r) (hr : r.1 = 0 ∨ r.1 = 2) : Hp l yL_takeBack wsL_takeBack rmL_takeBack D cA cL ad ob sa M f [.ref (ad 8), .ref ob] 1 6 2 r := by
  have hM : Ti l yX5_takeBack wsX5_takeBack rmX5_takeBack D cA ad sa M [.ref (ad 8)] 1 6 r := h ▸ kX5_takeBack l D cA ad sa hst M
  refine Hp.of rfl rfl rfl (Nat.le_of_ble_eq_true rfl) ?_
  intro p e s m args below meth c Q ls A eA S5 htab hK hKL hP hO hD hS hT hN hl kr
  have hA : ∀ (H : Heap) (q : Nat), s.heap.size ≤ H.size → AX ad H.size q → A q := fun H q hz h => by rw [eA]; exact Or.inl (AX.mono hz h)
  obtain ⟨hx, hb, -, hown, hts⟩ := id S5
  refine lv_aload_n hx hb dL_takeBack_0 rfl (lv_at hl 1 rfl) ?_
  refine lv_iconst (v := 0) hx hb dL_takeBack_1 (by decide) ?_
  refine lv_aload_n hx hb dL_takeBack_2 rfl (lv_at hl 0 rfl) ?_
  refine cHVi S5 hK hP hO hD hS hT (fun _ h => hA _ _ hS.1 h) (As := []) hM (cwV 0 hts gL_takeBack_X5_takeBack rfl rfl rfl (by decide +kernel) ⟨Nat.le_refl _, (by show 8 + (1 + 11) + rmX5_takeBack.locals ≤ rmX5_takeBack.locals + 20; omega)⟩) rfl hl.1 (st0 := _) (rest := [.int 0, .ref ob]) rfl (Nat.le_of_ble_eq_true rfl) dL_takeBack_3 ⟨(Nat.le_of_ble_eq_true rfl), (Nat.le_of_ble_eq_true rfl)⟩ (fun c1 E ce q9 H locs hE h1 h2 h3 hP hO hS => ?_) (fun c1 H locs hP hO hS => ?_)
  · rcases hr with hr | hr
    · exact absurd hr c1
    · rw [hr] at hE
      subst hE
      refine vx_catch (name := "java/lang/IllegalStateException") hown [] ⟨0, 8, 11, 19⟩ [] htab (fun z hz => nomatch hz) rfl (by decide) (hts _ (List.mem_of_getElem? (i := 1) rfl)) (va_Nw.use (w := .castable (exN 2) (exN 2)) rfl (hT.2.2.2.2.1 2 (by simp))) h1 h2 h3 ?_
      refine lv_astore_n (lv' := [(2, .ref q9), (0, .ref (ad 8)), (1, .ref ob)]) hx hb dL_takeBack_11 rfl hl (by decide) rfl (fun ls hl => ?_)
      refine lv_iconst (v := 1) hx hb dL_takeBack_12 (by decide) ?_
      refine W.widen (k := 1) (n := 6) (by decide) (by decide) ?_
      exact kr 1 f _ _ _ _ (by unfold hcd; rw [hr]; rfl) (fun h0 => absurd h0 c1) hP hO hS dL_takeBack_13
  · skip
    refine lv_i2l (v := r.2.1.toInt64) hx hb dL_takeBack_6 rfl ?_
    refine W_last (cA := cA) (ad := ad) (M := r.2.2) hx hb hKL hP hO hD hS (by decide) dL_takeBack_7 (fun H locs g hg hP hO hS => ?_)
    refine lv_goto (tgt := 14) hx hb dL_takeBack_8 (by decide) ?_
    refine lv_iconst (v := 0) hx hb dL_takeBack_14 (by decide) ?_
    refine W.widen (k := 1) (n := 6) (by decide) (by decide) ?_
    exact kr 0 g _ _ _ _ (by unfold hcd; rw [if_pos c1]) (fun _ => by rw [hg]) hP hO hS dL_takeBack_15
-- L_canPlay
def rmL_canPlay : Room := { frames := rmX5_canPlay.frames + 1, cells := 1, slots := 6, locals := rmX5_canPlay.locals + 21 }
set_option maxHeartbeats 4000000 in
set_option maxRecDepth 100000 in
theorem kL_canPlay (l : Launch) (D : va_G) (cA cL : Nat) (ad : Nat → Nat) (ob : Nat) (sa : Nat → Nat) (hst : l.stackTraces = false) (p1 : Int32) (M : Mem) (f : Nat → Int64) (r : Res) (h : fX5_canPlay p1 M = r) (hvb : vb r.2.1 = true) (hr : r.1 = 0 ∨ r.1 = 1) : Hp l yL_canPlay wsL_canPlay rmL_canPlay D cA cL ad ob sa M f [.ref (ad 8), .int p1, .ref ob] 1 6 1 r := by
  have hM : Ti l yX5_canPlay wsX5_canPlay rmX5_canPlay D cA ad sa M [.ref (ad 8), .int p1] 1 6 r := h ▸ kX5_canPlay l D cA ad sa hst p1 M
  refine Hp.of rfl rfl rfl (Nat.le_of_ble_eq_true rfl) ?_
  intro p e s m args below meth c Q ls A eA S5 htab hK hKL hP hO hD hS hT hN hl kr
  have hA : ∀ (H : Heap) (q : Nat), s.heap.size ≤ H.size → AX ad H.size q → A q := fun H q hz h => by rw [eA]; exact Or.inl (AX.mono hz h)
  obtain ⟨hx, hb, -, hown, hts⟩ := id S5
  refine lv_aload_n hx hb dL_canPlay_0 rfl (lv_at hl 2 rfl) ?_
  refine lv_iconst (v := 0) hx hb dL_canPlay_1 (by decide) ?_
  refine lv_aload_n hx hb dL_canPlay_2 rfl (lv_at hl 0 rfl) ?_
  refine lv_iload_n hx hb dL_canPlay_3 rfl (lv_at hl 1 rfl) ?_
  refine cHVi S5 hK hP hO hD hS hT (fun _ h => hA _ _ hS.1 h) (As := [.int p1]) hM (cwV 1 hts gL_canPlay_X5_canPlay rfl rfl rfl (by decide +kernel) ⟨Nat.le_refl _, (by show 8 + (2 + 11) + rmX5_canPlay.locals ≤ rmX5_canPlay.locals + 21; omega)⟩) rfl hl.1 (st0 := _) (rest := [.int 0, .ref ob]) rfl (Nat.le_of_ble_eq_true rfl) dL_canPlay_4 ⟨(Nat.le_of_ble_eq_true rfl), (Nat.le_of_ble_eq_true rfl)⟩ (fun c1 E ce q9 H locs hE h1 h2 h3 hP hO hS => ?_) (fun c1 H locs hP hO hS => ?_)
  · rcases hr with hr | hr
    · exact absurd hr c1
    · rw [hr] at hE
      subst hE
      refine vx_catch (name := "java/lang/IllegalArgumentException") hown [] ⟨0, 16, 19, 13⟩ [] htab (fun z hz => nomatch hz) rfl (by decide) (hts _ (List.mem_of_getElem? (i := 1) rfl)) (va_Nw.use (w := .castable (exN 1) (exN 1)) rfl (hT.2.2.2.2.1 1 (by simp))) h1 h2 h3 ?_
      refine lv_astore_n (lv' := [(3, .ref q9), (0, .ref (ad 8)), (1, .int p1), (2, .ref ob)]) hx hb dL_canPlay_19 rfl hl (by decide) rfl (fun ls hl => ?_)
      refine lv_iconst (v := 1) hx hb dL_canPlay_20 (by decide) ?_
      refine W.widen (k := 1) (n := 6) (by decide) (by decide) ?_
      exact kr 1 f _ _ _ _ (by unfold hcd; rw [hr]; rfl) (fun h0 => absurd h0 c1) hP hO hS dL_canPlay_21
  · skip
    refine lv_if_eq (tgt := 14) hx hb dL_canPlay_7 (by decide) (fun c2 => ?_) (fun c2 => ?_)
    · refine lv_lconst (v := 0) hx hb dL_canPlay_14 rfl ?_
      refine W_last (cA := cA) (ad := ad) (M := r.2.2) hx hb hKL hP hO hD hS (by decide) dL_canPlay_15 (fun H locs g hg hP hO hS => ?_)
      refine lv_goto (tgt := 22) hx hb dL_canPlay_16 (by decide) ?_
      refine lv_iconst (v := 0) hx hb dL_canPlay_22 (by decide) ?_
      refine W.widen (k := 1) (n := 6) (by decide) (by decide) ?_
      exact kr 0 g _ _ _ _ (by unfold hcd; rw [if_pos c1]) (fun _ => by rw [hg]; rw [c2]; rfl) hP hO hS dL_canPlay_23
    · refine lv_lconst (v := 1) hx hb dL_canPlay_10 rfl ?_
      refine lv_goto (tgt := 15) hx hb dL_canPlay_11 (by decide) ?_
      refine W_last (cA := cA) (ad := ad) (M := r.2.2) hx hb hKL hP hO hD hS (by decide) dL_canPlay_15 (fun H locs g hg hP hO hS => ?_)
      refine lv_goto (tgt := 22) hx hb dL_canPlay_16 (by decide) ?_
      refine lv_iconst (v := 0) hx hb dL_canPlay_22 (by decide) ?_
      refine W.widen (k := 1) (n := 6) (by decide) (by decide) ?_
      exact kr 0 g _ _ _ _ (by unfold hcd; rw [if_pos c1]) (fun _ => by rw [hg]; rw [(vb_or hvb).resolve_left c2]; rfl) hP hO hS dL_canPlay_23
-- L_hand
def rmL_hand : Room := { frames := rmX5_hand.frames + 1, cells := 1, slots := 6, locals := rmX5_hand.locals + 21 }
set_option maxHeartbeats 4000000 in
set_option maxRecDepth 100000 in
theorem kL_hand (l : Launch) (D : va_G) (cA cL : Nat) (ad : Nat → Nat) (ob : Nat) (sa : Nat → Nat) (hst : l.stackTraces = false) (p1 : Int32) (M : Mem) (f : Nat → Int64) (r : Res) (h : fX5_hand p1 M = r) (hr : r.1 = 0 ∨ r.1 = 1) : Hp l yL_hand wsL_hand rmL_hand D cA cL ad ob sa M f [.ref (ad 8), .int p1, .ref ob] 1 6 1 r := by
  have hM : Ti l yX5_hand wsX5_hand rmX5_hand D cA ad sa M [.ref (ad 8), .int p1] 1 6 r := h ▸ kX5_hand l D cA ad sa hst p1 M
  refine Hp.of rfl rfl rfl (Nat.le_of_ble_eq_true rfl) ?_
  intro p e s m args below meth c Q ls A eA S5 htab hK hKL hP hO hD hS hT hN hl kr
  have hA : ∀ (H : Heap) (q : Nat), s.heap.size ≤ H.size → AX ad H.size q → A q := fun H q hz h => by rw [eA]; exact Or.inl (AX.mono hz h)
  obtain ⟨hx, hb, -, hown, hts⟩ := id S5
  refine lv_aload_n hx hb dL_hand_0 rfl (lv_at hl 2 rfl) ?_
  refine lv_iconst (v := 0) hx hb dL_hand_1 (by decide) ?_
  refine lv_aload_n hx hb dL_hand_2 rfl (lv_at hl 0 rfl) ?_
  refine lv_iload_n hx hb dL_hand_3 rfl (lv_at hl 1 rfl) ?_
  refine cHVi S5 hK hP hO hD hS hT (fun _ h => hA _ _ hS.1 h) (As := [.int p1]) hM (cwV 1 hts gL_hand_X5_hand rfl rfl rfl (by decide +kernel) ⟨Nat.le_refl _, (by show 8 + (2 + 11) + rmX5_hand.locals ≤ rmX5_hand.locals + 21; omega)⟩) rfl hl.1 (st0 := _) (rest := [.int 0, .ref ob]) rfl (Nat.le_of_ble_eq_true rfl) dL_hand_4 ⟨(Nat.le_of_ble_eq_true rfl), (Nat.le_of_ble_eq_true rfl)⟩ (fun c1 E ce q9 H locs hE h1 h2 h3 hP hO hS => ?_) (fun c1 H locs hP hO hS => ?_)
  · rcases hr with hr | hr
    · exact absurd hr c1
    · rw [hr] at hE
      subst hE
      refine vx_catch (name := "java/lang/IllegalArgumentException") hown [] ⟨0, 9, 12, 13⟩ [] htab (fun z hz => nomatch hz) rfl (by decide) (hts _ (List.mem_of_getElem? (i := 1) rfl)) (va_Nw.use (w := .castable (exN 1) (exN 1)) rfl (hT.2.2.2.2.1 1 (by simp))) h1 h2 h3 ?_
      refine lv_astore_n (lv' := [(3, .ref q9), (0, .ref (ad 8)), (1, .int p1), (2, .ref ob)]) hx hb dL_hand_12 rfl hl (by decide) rfl (fun ls hl => ?_)
      refine lv_iconst (v := 1) hx hb dL_hand_13 (by decide) ?_
      refine W.widen (k := 1) (n := 6) (by decide) (by decide) ?_
      exact kr 1 f _ _ _ _ (by unfold hcd; rw [hr]; rfl) (fun h0 => absurd h0 c1) hP hO hS dL_hand_14
  · skip
    refine lv_i2l (v := r.2.1.toInt64) hx hb dL_hand_7 rfl ?_
    refine W_last (cA := cA) (ad := ad) (M := r.2.2) hx hb hKL hP hO hD hS (by decide) dL_hand_8 (fun H locs g hg hP hO hS => ?_)
    refine lv_goto (tgt := 15) hx hb dL_hand_9 (by decide) ?_
    refine lv_iconst (v := 0) hx hb dL_hand_15 (by decide) ?_
    refine W.widen (k := 1) (n := 6) (by decide) (by decide) ?_
    exact kr 0 g _ _ _ _ (by unfold hcd; rw [if_pos c1]) (fun _ => by rw [hg]) hP hO hS dL_hand_16
-- L_cardIn
def rmL_cardIn : Room := { frames := rmX5_cardIn.frames + 1, cells := 1, slots := 6, locals := rmX5_cardIn.locals + 21 }
set_option maxHeartbeats 4000000 in
set_option maxRecDepth 100000 in
theorem kL_cardIn (l : Launch) (D : va_G) (cA cL : Nat) (ad : Nat → Nat) (ob : Nat) (sa : Nat → Nat) (hst : l.stackTraces = false) (p1 : Int32) (M : Mem) (f : Nat → Int64) (r : Res) (h : fX5_cardIn p1 M = r) (hr : r.1 = 0 ∨ r.1 = 3) : Hp l yL_cardIn wsL_cardIn rmL_cardIn D cA cL ad ob sa M f [.ref (ad 8), .int p1, .ref ob] 1 6 3 r := by
  have hM : Ti l yX5_cardIn wsX5_cardIn rmX5_cardIn D cA ad sa M [.ref (ad 8), .int p1] 1 6 r := h ▸ kX5_cardIn l D cA ad sa hst p1 M
  refine Hp.of rfl rfl rfl (Nat.le_of_ble_eq_true rfl) ?_
  intro p e s m args below meth c Q ls A eA S5 htab hK hKL hP hO hD hS hT hN hl kr
  have hA : ∀ (H : Heap) (q : Nat), s.heap.size ≤ H.size → AX ad H.size q → A q := fun H q hz h => by rw [eA]; exact Or.inl (AX.mono hz h)
  obtain ⟨hx, hb, -, hown, hts⟩ := id S5
  refine lv_aload_n hx hb dL_cardIn_0 rfl (lv_at hl 2 rfl) ?_
  refine lv_iconst (v := 0) hx hb dL_cardIn_1 (by decide) ?_
  refine lv_aload_n hx hb dL_cardIn_2 rfl (lv_at hl 0 rfl) ?_
  refine lv_iload_n hx hb dL_cardIn_3 rfl (lv_at hl 1 rfl) ?_
  refine cHVi S5 hK hP hO hD hS hT (fun _ h => hA _ _ hS.1 h) (As := [.int p1]) hM (cwV 1 hts gL_cardIn_X5_cardIn rfl rfl rfl (by decide +kernel) ⟨Nat.le_refl _, (by show 8 + (2 + 11) + rmX5_cardIn.locals ≤ rmX5_cardIn.locals + 21; omega)⟩) rfl hl.1 (st0 := _) (rest := [.int 0, .ref ob]) rfl (Nat.le_of_ble_eq_true rfl) dL_cardIn_4 ⟨(Nat.le_of_ble_eq_true rfl), (Nat.le_of_ble_eq_true rfl)⟩ (fun c1 E ce q9 H locs hE h1 h2 h3 hP hO hS => ?_) (fun c1 H locs hP hO hS => ?_)
  · rcases hr with hr | hr
    · exact absurd hr c1
    · rw [hr] at hE
      subst hE
      refine vx_catch (name := "java/lang/IndexOutOfBoundsException") hown [] ⟨0, 9, 12, 41⟩ [] htab (fun z hz => nomatch hz) rfl (by decide) (hts _ (List.mem_of_getElem? (i := 1) rfl)) (va_Nw.use (w := .castable (exN 3) (exN 3)) rfl (hT.2.2.2.2.1 3 (by simp))) h1 h2 h3 ?_
      refine lv_astore_n (lv' := [(3, .ref q9), (0, .ref (ad 8)), (1, .int p1), (2, .ref ob)]) hx hb dL_cardIn_12 rfl hl (by decide) rfl (fun ls hl => ?_)
      refine lv_iconst (v := 1) hx hb dL_cardIn_13 (by decide) ?_
      refine W.widen (k := 1) (n := 6) (by decide) (by decide) ?_
      exact kr 1 f _ _ _ _ (by unfold hcd; rw [hr]; rfl) (fun h0 => absurd h0 c1) hP hO hS dL_cardIn_14
  · skip
    refine lv_i2l (v := r.2.1.toInt64) hx hb dL_cardIn_7 rfl ?_
    refine W_last (cA := cA) (ad := ad) (M := r.2.2) hx hb hKL hP hO hD hS (by decide) dL_cardIn_8 (fun H locs g hg hP hO hS => ?_)
    refine lv_goto (tgt := 15) hx hb dL_cardIn_9 (by decide) ?_
    refine lv_iconst (v := 0) hx hb dL_cardIn_15 (by decide) ?_
    refine W.widen (k := 1) (n := 6) (by decide) (by decide) ?_
    exact kr 0 g _ _ _ _ (by unfold hcd; rw [if_pos c1]) (fun _ => by rw [hg]) hP hO hS dL_cardIn_16
-- L_won
def rmL_won : Room := { frames := rmX5_won.frames + 1, cells := 1, slots := 6, locals := rmX5_won.locals + 21 }
set_option maxHeartbeats 4000000 in
set_option maxRecDepth 100000 in
theorem kL_won (l : Launch) (D : va_G) (cA cL : Nat) (ad : Nat → Nat) (ob : Nat) (sa : Nat → Nat) (hst : l.stackTraces = false) (p1 : Int32) (M : Mem) (f : Nat → Int64) (r : Res) (h : fX5_won p1 M = some r) (hr : r.1 = 0 ∨ r.1 = 1) : Hp l yL_won wsL_won rmL_won D cA cL ad ob sa M f [.ref (ad 8), .int p1, .ref ob] 1 6 1 r := by
  have hM : Ti l yX5_won wsX5_won rmX5_won D cA ad sa M [.ref (ad 8), .int p1] 1 6 r := kX5_won l D cA ad sa hst p1 M r h
  refine Hp.of rfl rfl rfl (Nat.le_of_ble_eq_true rfl) ?_
  intro p e s m args below meth c Q ls A eA S5 htab hK hKL hP hO hD hS hT hN hl kr
  have hA : ∀ (H : Heap) (q : Nat), s.heap.size ≤ H.size → AX ad H.size q → A q := fun H q hz h => by rw [eA]; exact Or.inl (AX.mono hz h)
  obtain ⟨hx, hb, -, hown, hts⟩ := id S5
  refine lv_aload_n hx hb dL_won_0 rfl (lv_at hl 2 rfl) ?_
  refine lv_iconst (v := 0) hx hb dL_won_1 (by decide) ?_
  refine lv_aload_n hx hb dL_won_2 rfl (lv_at hl 0 rfl) ?_
  refine lv_iload_n hx hb dL_won_3 rfl (lv_at hl 1 rfl) ?_
  refine cHVi S5 hK hP hO hD hS hT (fun _ h => hA _ _ hS.1 h) (As := [.int p1]) hM (cwV 1 hts gL_won_X5_won rfl rfl rfl (by decide +kernel) ⟨Nat.le_refl _, (by show 8 + (2 + 11) + rmX5_won.locals ≤ rmX5_won.locals + 21; omega)⟩) rfl hl.1 (st0 := _) (rest := [.int 0, .ref ob]) rfl (Nat.le_of_ble_eq_true rfl) dL_won_4 ⟨(Nat.le_of_ble_eq_true rfl), (Nat.le_of_ble_eq_true rfl)⟩ (fun c1 E ce q9 H locs hE h1 h2 h3 hP hO hS => ?_) (fun c1 H locs hP hO hS => ?_)
  · rcases hr with hr | hr
    · exact absurd hr c1
    · rw [hr] at hE
      subst hE
      refine vx_catch (name := "java/lang/IllegalArgumentException") hown [] ⟨0, 9, 12, 13⟩ [] htab (fun z hz => nomatch hz) rfl (by decide) (hts _ (List.mem_of_getElem? (i := 1) rfl)) (va_Nw.use (w := .castable (exN 1) (exN 1)) rfl (hT.2.2.2.2.1 1 (by simp))) h1 h2 h3 ?_
      refine lv_astore_n (lv' := [(3, .ref q9), (0, .ref (ad 8)), (1, .int p1), (2, .ref ob)]) hx hb dL_won_12 rfl hl (by decide) rfl (fun ls hl => ?_)
      refine lv_iconst (v := 1) hx hb dL_won_13 (by decide) ?_
      refine W.widen (k := 1) (n := 6) (by decide) (by decide) ?_
      exact kr 1 f _ _ _ _ (by unfold hcd; rw [hr]; rfl) (fun h0 => absurd h0 c1) hP hO hS dL_won_14
  · skip
    refine lv_i2l (v := r.2.1.toInt64) hx hb dL_won_7 rfl ?_
    refine W_last (cA := cA) (ad := ad) (M := r.2.2) hx hb hKL hP hO hD hS (by decide) dL_won_8 (fun H locs g hg hP hO hS => ?_)
    refine lv_goto (tgt := 15) hx hb dL_won_9 (by decide) ?_
    refine lv_iconst (v := 0) hx hb dL_won_15 (by decide) ?_
    refine W.widen (k := 1) (n := 6) (by decide) (by decide) ?_
    exact kr 0 g _ _ _ _ (by unfold hcd; rw [if_pos c1]) (fun _ => by rw [hg]) hP hO hS dL_won_16
-- L_solve
def rmL_solve : Room := { frames := rgX5_solve.frames + 1, cells := 1, slots := 6, locals := rgX5_solve.locals + 20 }
set_option maxHeartbeats 4000000 in
set_option maxRecDepth 100000 in
theorem kL_solve (l : Launch) (D : va_G) (cA cL : Nat) (ad : Nat → Nat) (ob : Nat) (sa : Nat → Nat) (hst : l.stackTraces = false) (M : Mem) (f : Nat → Int64) (r : Res) (h : gX5_solve M = some r) (hr : r.1 = 0 ∨ r.1 = 2) : Hp l yL_solve wsL_solve rmL_solve D cA cL ad ob sa M f [.ref (ad 8), .ref ob] 1 6 2 r := by
  have hM : Ti l yX5_solve wsX5_solve rgX5_solve D cA ad sa M [.ref (ad 8)] 1 6 r := kgX5_solve l D cA ad sa hst M r h
  refine Hp.of rfl rfl rfl (Nat.le_of_ble_eq_true rfl) ?_
  intro p e s m args below meth c Q ls A eA S5 htab hK hKL hP hO hD hS hT hN hl kr
  have hA : ∀ (H : Heap) (q : Nat), s.heap.size ≤ H.size → AX ad H.size q → A q := fun H q hz h => by rw [eA]; exact Or.inl (AX.mono hz h)
  obtain ⟨hx, hb, -, hown, hts⟩ := id S5
  refine lv_aload_n hx hb dL_solve_0 rfl (lv_at hl 1 rfl) ?_
  refine lv_iconst (v := 0) hx hb dL_solve_1 (by decide) ?_
  refine lv_aload_n hx hb dL_solve_2 rfl (lv_at hl 0 rfl) ?_
  refine cHVi S5 hK hP hO hD hS hT (fun _ h => hA _ _ hS.1 h) (As := []) hM (cwV 0 hts gL_solve_X5_solve rfl rfl rfl (by decide +kernel) ⟨Nat.le_refl _, (by show 8 + (1 + 11) + rgX5_solve.locals ≤ rgX5_solve.locals + 20; omega)⟩) rfl hl.1 (st0 := _) (rest := [.int 0, .ref ob]) rfl (Nat.le_of_ble_eq_true rfl) dL_solve_3 ⟨(Nat.le_of_ble_eq_true rfl), (Nat.le_of_ble_eq_true rfl)⟩ (fun c1 E ce q9 H locs hE h1 h2 h3 hP hO hS => ?_) (fun c1 H locs hP hO hS => ?_)
  · rcases hr with hr | hr
    · exact absurd hr c1
    · rw [hr] at hE
      subst hE
      refine vx_catch (name := "java/lang/IllegalStateException") hown [] ⟨0, 8, 11, 19⟩ [] htab (fun z hz => nomatch hz) rfl (by decide) (hts _ (List.mem_of_getElem? (i := 1) rfl)) (va_Nw.use (w := .castable (exN 2) (exN 2)) rfl (hT.2.2.2.2.1 2 (by simp))) h1 h2 h3 ?_
      refine lv_astore_n (lv' := [(2, .ref q9), (0, .ref (ad 8)), (1, .ref ob)]) hx hb dL_solve_11 rfl hl (by decide) rfl (fun ls hl => ?_)
      refine lv_iconst (v := 1) hx hb dL_solve_12 (by decide) ?_
      refine W.widen (k := 1) (n := 6) (by decide) (by decide) ?_
      exact kr 1 f _ _ _ _ (by unfold hcd; rw [hr]; rfl) (fun h0 => absurd h0 c1) hP hO hS dL_solve_13
  · skip
    refine lv_i2l (v := r.2.1.toInt64) hx hb dL_solve_6 rfl ?_
    refine W_last (cA := cA) (ad := ad) (M := r.2.2) hx hb hKL hP hO hD hS (by decide) dL_solve_7 (fun H locs g hg hP hO hS => ?_)
    refine lv_goto (tgt := 14) hx hb dL_solve_8 (by decide) ?_
    refine lv_iconst (v := 0) hx hb dL_solve_14 (by decide) ?_
    refine W.widen (k := 1) (n := 6) (by decide) (by decide) ?_
    exact kr 0 g _ _ _ _ (by unfold hcd; rw [if_pos c1]) (fun _ => by rw [hg]) hP hO hS dL_solve_15
-- L_solveByAll
def rmL_solveByAll : Room := { frames := rgX5_solveByAll.frames + 1, cells := 2, slots := 12, locals := rgX5_solveByAll.locals + 20 }
set_option maxHeartbeats 4000000 in
set_option maxRecDepth 100000 in
theorem kL_solveByAll (l : Launch) (D : va_G) (cA cL : Nat) (ad : Nat → Nat) (ob : Nat) (sa : Nat → Nat) (hst : l.stackTraces = false) (M : Mem) (f : Nat → Int64) (r : Res) (h : gX5_solveByAll M = some r) (hr : r.1 = 0 ∨ r.1 = 2) : Hp l yL_solveByAll wsL_solveByAll rmL_solveByAll D cA cL ad ob sa M f [.ref (ad 8), .ref ob] 2 12 2 r := by
  have hM : Ti l yX5_solveByAll wsX5_solveByAll rgX5_solveByAll D cA ad sa M [.ref (ad 8)] 2 12 r := kgX5_solveByAll l D cA ad sa hst M r h
  refine Hp.of rfl rfl rfl (Nat.le_of_ble_eq_true rfl) ?_
  intro p e s m args below meth c Q ls A eA S5 htab hK hKL hP hO hD hS hT hN hl kr
  have hA : ∀ (H : Heap) (q : Nat), s.heap.size ≤ H.size → AX ad H.size q → A q := fun H q hz h => by rw [eA]; exact Or.inl (AX.mono hz h)
  obtain ⟨hx, hb, -, hown, hts⟩ := id S5
  refine lv_aload_n hx hb dL_solveByAll_0 rfl (lv_at hl 1 rfl) ?_
  refine lv_iconst (v := 0) hx hb dL_solveByAll_1 (by decide) ?_
  refine lv_aload_n hx hb dL_solveByAll_2 rfl (lv_at hl 0 rfl) ?_
  refine cHVi S5 hK hP hO hD hS hT (fun _ h => hA _ _ hS.1 h) (As := []) hM (cwV 0 hts gL_solveByAll_X5_solveByAll rfl rfl rfl (by decide +kernel) ⟨Nat.le_refl _, (by show 8 + (1 + 11) + rgX5_solveByAll.locals ≤ rgX5_solveByAll.locals + 20; omega)⟩) rfl hl.1 (st0 := _) (rest := [.int 0, .ref ob]) rfl (Nat.le_of_ble_eq_true rfl) dL_solveByAll_3 ⟨(Nat.le_of_ble_eq_true rfl), (Nat.le_of_ble_eq_true rfl)⟩ (fun c1 E ce q9 H locs hE h1 h2 h3 hP hO hS => ?_) (fun c1 H locs hP hO hS => ?_)
  · rcases hr with hr | hr
    · exact absurd hr c1
    · rw [hr] at hE
      subst hE
      refine vx_catch (name := "java/lang/IllegalStateException") hown [] ⟨0, 8, 11, 19⟩ [] htab (fun z hz => nomatch hz) rfl (by decide) (hts _ (List.mem_of_getElem? (i := 1) rfl)) (va_Nw.use (w := .castable (exN 2) (exN 2)) rfl (hT.2.2.2.2.1 2 (by simp))) h1 h2 h3 ?_
      refine lv_astore_n (lv' := [(2, .ref q9), (0, .ref (ad 8)), (1, .ref ob)]) hx hb dL_solveByAll_11 rfl hl (by decide) rfl (fun ls hl => ?_)
      refine lv_iconst (v := 1) hx hb dL_solveByAll_12 (by decide) ?_
      refine W.widen (k := 2) (n := 12) (by decide) (by decide) ?_
      exact kr 1 f _ _ _ _ (by unfold hcd; rw [hr]; rfl) (fun h0 => absurd h0 c1) hP hO hS dL_solveByAll_13
  · skip
    refine lv_i2l (v := r.2.1.toInt64) hx hb dL_solveByAll_6 rfl ?_
    refine W_last (cA := cA) (ad := ad) (M := r.2.2) hx hb hKL hP hO hD hS (by decide) dL_solveByAll_7 (fun H locs g hg hP hO hS => ?_)
    refine lv_goto (tgt := 14) hx hb dL_solveByAll_8 (by decide) ?_
    refine lv_iconst (v := 0) hx hb dL_solveByAll_14 (by decide) ?_
    refine W.widen (k := 2) (n := 12) (by decide) (by decide) ?_
    exact kr 0 g _ _ _ _ (by unfold hcd; rw [if_pos c1]) (fun _ => by rw [hg]) hP hO hS dL_solveByAll_15
-- L_value
def rmL_value : Room := { frames := rgX5_value.frames + 1, cells := 2, slots := 12, locals := rgX5_value.locals + 21 }
set_option maxHeartbeats 4000000 in
set_option maxRecDepth 100000 in
theorem kL_value (l : Launch) (D : va_G) (cA cL : Nat) (ad : Nat → Nat) (ob : Nat) (sa : Nat → Nat) (hst : l.stackTraces = false) (p1 : Int32) (M : Mem) (f : Nat → Int64) (r : Res) (h : gX5_value p1 M = some r) (hr : r.1 = 0 ∨ r.1 = 1 ∨ r.1 = 2) : Hp l yL_value wsL_value rmL_value D cA cL ad ob sa M f [.ref (ad 8), .int p1, .ref ob] 2 12 1 r := by
  have hM : Ti l yX5_value wsX5_value rgX5_value D cA ad sa M [.ref (ad 8), .int p1] 2 12 r := kgX5_value l D cA ad sa hst p1 M r h
  refine Hp.of rfl rfl rfl (Nat.le_of_ble_eq_true rfl) ?_
  intro p e s m args below meth c Q ls A eA S5 htab hK hKL hP hO hD hS hT hN hl kr
  have hA : ∀ (H : Heap) (q : Nat), s.heap.size ≤ H.size → AX ad H.size q → A q := fun H q hz h => by rw [eA]; exact Or.inl (AX.mono hz h)
  obtain ⟨hx, hb, -, hown, hts⟩ := id S5
  refine lv_aload_n hx hb dL_value_0 rfl (lv_at hl 2 rfl) ?_
  refine lv_iconst (v := 0) hx hb dL_value_1 (by decide) ?_
  refine lv_aload_n hx hb dL_value_2 rfl (lv_at hl 0 rfl) ?_
  refine lv_iload_n hx hb dL_value_3 rfl (lv_at hl 1 rfl) ?_
  refine cHVi S5 hK hP hO hD hS hT (fun _ h => hA _ _ hS.1 h) (As := [.int p1]) hM (cwV 1 hts gL_value_X5_value rfl rfl rfl (by decide +kernel) ⟨Nat.le_refl _, (by show 8 + (2 + 11) + rgX5_value.locals ≤ rgX5_value.locals + 21; omega)⟩) rfl hl.1 (st0 := _) (rest := [.int 0, .ref ob]) rfl (Nat.le_of_ble_eq_true rfl) dL_value_4 ⟨(Nat.le_of_ble_eq_true rfl), (Nat.le_of_ble_eq_true rfl)⟩ (fun c1 E ce q9 H locs hE h1 h2 h3 hP hO hS => ?_) (fun c1 H locs hP hO hS => ?_)
  · rcases hr with hr | hr | hr
    · exact absurd hr c1
    · rw [hr] at hE
      subst hE
      refine vx_catch (name := "java/lang/IllegalArgumentException") hown [] ⟨0, 9, 12, 13⟩ [⟨0, 9, 15, 19⟩] htab (fun z hz => nomatch hz) rfl (by decide) (hts _ (List.mem_of_getElem? (i := 1) rfl)) (va_Nw.use (w := .castable (exN 1) (exN 1)) rfl (hT.2.2.2.2.1 1 (by simp))) h1 h2 h3 ?_
      refine lv_astore_n (lv' := [(3, .ref q9), (0, .ref (ad 8)), (1, .int p1), (2, .ref ob)]) hx hb dL_value_12 rfl hl (by decide) rfl (fun ls hl => ?_)
      refine lv_iconst (v := 1) hx hb dL_value_13 (by decide) ?_
      refine W.widen (k := 2) (n := 12) (by decide) (by decide) ?_
      exact kr 1 f _ _ _ _ (by unfold hcd; rw [hr]; rfl) (fun h0 => absurd h0 c1) hP hO hS dL_value_14
    · rw [hr] at hE
      subst hE
      refine vx_catch (name := "java/lang/IllegalStateException") hown [⟨0, 9, 12, 13⟩] ⟨0, 9, 15, 19⟩ [] htab (fun z hz => by rw [List.mem_singleton.mp hz]; exact Or.inr ⟨by decide, "java/lang/IllegalArgumentException", hts _ (List.mem_of_getElem? (i := 1) rfl), hN⟩) rfl (by decide) (hts _ (List.mem_of_getElem? (i := 2) rfl)) (va_Nw.use (w := .castable (exN 2) (exN 2)) rfl (hT.2.2.2.2.1 2 (by simp))) h1 h2 h3 ?_
      refine lv_astore_n (lv' := [(3, .ref q9), (0, .ref (ad 8)), (1, .int p1), (2, .ref ob)]) hx hb dL_value_15 rfl hl (by decide) rfl (fun ls hl => ?_)
      refine lv_iconst (v := 2) hx hb dL_value_16 (by decide) ?_
      refine W.widen (k := 2) (n := 12) (by decide) (by decide) ?_
      exact kr 2 f _ _ _ _ (by unfold hcd; rw [hr]; rfl) (fun h0 => absurd h0 c1) hP hO hS dL_value_17
  · skip
    refine lv_i2l (v := r.2.1.toInt64) hx hb dL_value_7 rfl ?_
    refine W_last (cA := cA) (ad := ad) (M := r.2.2) hx hb hKL hP hO hD hS (by decide) dL_value_8 (fun H locs g hg hP hO hS => ?_)
    refine lv_goto (tgt := 18) hx hb dL_value_9 (by decide) ?_
    refine lv_iconst (v := 0) hx hb dL_value_18 (by decide) ?_
    refine W.widen (k := 2) (n := 12) (by decide) (by decide) ?_
    exact kr 0 g _ _ _ _ (by unfold hcd; rw [if_pos c1]) (fun _ => by rw [hg]) hP hO hS dL_value_19
-- L_bestCard
def rmL_bestCard : Room := { frames := rgX5_bestCard.frames + 1, cells := 1, slots := 6, locals := rgX5_bestCard.locals + 20 }
set_option maxHeartbeats 4000000 in
set_option maxRecDepth 100000 in
theorem kL_bestCard (l : Launch) (D : va_G) (cA cL : Nat) (ad : Nat → Nat) (ob : Nat) (sa : Nat → Nat) (hst : l.stackTraces = false) (M : Mem) (f : Nat → Int64) (r : Res) (h : gX5_bestCard M = some r) (hr : r.1 = 0 ∨ r.1 = 2) : Hp l yL_bestCard wsL_bestCard rmL_bestCard D cA cL ad ob sa M f [.ref (ad 8), .ref ob] 1 6 2 r := by
  have hM : Ti l yX5_bestCard wsX5_bestCard rgX5_bestCard D cA ad sa M [.ref (ad 8)] 1 6 r := kgX5_bestCard l D cA ad sa hst M r h
  refine Hp.of rfl rfl rfl (Nat.le_of_ble_eq_true rfl) ?_
  intro p e s m args below meth c Q ls A eA S5 htab hK hKL hP hO hD hS hT hN hl kr
  have hA : ∀ (H : Heap) (q : Nat), s.heap.size ≤ H.size → AX ad H.size q → A q := fun H q hz h => by rw [eA]; exact Or.inl (AX.mono hz h)
  obtain ⟨hx, hb, -, hown, hts⟩ := id S5
  refine lv_aload_n hx hb dL_bestCard_0 rfl (lv_at hl 1 rfl) ?_
  refine lv_iconst (v := 0) hx hb dL_bestCard_1 (by decide) ?_
  refine lv_aload_n hx hb dL_bestCard_2 rfl (lv_at hl 0 rfl) ?_
  refine cHVi S5 hK hP hO hD hS hT (fun _ h => hA _ _ hS.1 h) (As := []) hM (cwV 0 hts gL_bestCard_X5_bestCard rfl rfl rfl (by decide +kernel) ⟨Nat.le_refl _, (by show 8 + (1 + 11) + rgX5_bestCard.locals ≤ rgX5_bestCard.locals + 20; omega)⟩) rfl hl.1 (st0 := _) (rest := [.int 0, .ref ob]) rfl (Nat.le_of_ble_eq_true rfl) dL_bestCard_3 ⟨(Nat.le_of_ble_eq_true rfl), (Nat.le_of_ble_eq_true rfl)⟩ (fun c1 E ce q9 H locs hE h1 h2 h3 hP hO hS => ?_) (fun c1 H locs hP hO hS => ?_)
  · rcases hr with hr | hr
    · exact absurd hr c1
    · rw [hr] at hE
      subst hE
      refine vx_catch (name := "java/lang/IllegalStateException") hown [] ⟨0, 8, 11, 19⟩ [] htab (fun z hz => nomatch hz) rfl (by decide) (hts _ (List.mem_of_getElem? (i := 1) rfl)) (va_Nw.use (w := .castable (exN 2) (exN 2)) rfl (hT.2.2.2.2.1 2 (by simp))) h1 h2 h3 ?_
      refine lv_astore_n (lv' := [(2, .ref q9), (0, .ref (ad 8)), (1, .ref ob)]) hx hb dL_bestCard_11 rfl hl (by decide) rfl (fun ls hl => ?_)
      refine lv_iconst (v := 1) hx hb dL_bestCard_12 (by decide) ?_
      refine W.widen (k := 1) (n := 6) (by decide) (by decide) ?_
      exact kr 1 f _ _ _ _ (by unfold hcd; rw [hr]; rfl) (fun h0 => absurd h0 c1) hP hO hS dL_bestCard_13
  · skip
    refine lv_i2l (v := r.2.1.toInt64) hx hb dL_bestCard_6 rfl ?_
    refine W_last (cA := cA) (ad := ad) (M := r.2.2) hx hb hKL hP hO hD hS (by decide) dL_bestCard_7 (fun H locs g hg hP hO hS => ?_)
    refine lv_goto (tgt := 14) hx hb dL_bestCard_8 (by decide) ?_
    refine lv_iconst (v := 0) hx hb dL_bestCard_14 (by decide) ?_
    refine W.widen (k := 1) (n := 6) (by decide) (by decide) ?_
    exact kr 0 g _ _ _ _ (by unfold hcd; rw [if_pos c1]) (fun _ => by rw [hg]) hP hO hS dL_bestCard_15
-- L_lowestEqual
def rmL_lowestEqual : Room := { frames := rmX5_lowestEqual.frames + 1, cells := 2, slots := 12, locals := rmX5_lowestEqual.locals + 21 }
set_option maxHeartbeats 4000000 in
set_option maxRecDepth 100000 in
theorem kL_lowestEqual (l : Launch) (D : va_G) (cA cL : Nat) (ad : Nat → Nat) (ob : Nat) (sa : Nat → Nat) (hst : l.stackTraces = false) (p1 : Int32) (M : Mem) (f : Nat → Int64) (r : Res) (h : fX5_lowestEqual p1 M = some r) (hr : r.1 = 0 ∨ r.1 = 1 ∨ r.1 = 2) : Hp l yL_lowestEqual wsL_lowestEqual rmL_lowestEqual D cA cL ad ob sa M f [.ref (ad 8), .int p1, .ref ob] 2 12 1 r := by
  have hM : Ti l yX5_lowestEqual wsX5_lowestEqual rmX5_lowestEqual D cA ad sa M [.ref (ad 8), .int p1] 2 12 r := kX5_lowestEqual l D cA ad sa hst p1 M r h
  refine Hp.of rfl rfl rfl (Nat.le_of_ble_eq_true rfl) ?_
  intro p e s m args below meth c Q ls A eA S5 htab hK hKL hP hO hD hS hT hN hl kr
  have hA : ∀ (H : Heap) (q : Nat), s.heap.size ≤ H.size → AX ad H.size q → A q := fun H q hz h => by rw [eA]; exact Or.inl (AX.mono hz h)
  obtain ⟨hx, hb, -, hown, hts⟩ := id S5
  refine lv_aload_n hx hb dL_lowestEqual_0 rfl (lv_at hl 2 rfl) ?_
  refine lv_iconst (v := 0) hx hb dL_lowestEqual_1 (by decide) ?_
  refine lv_aload_n hx hb dL_lowestEqual_2 rfl (lv_at hl 0 rfl) ?_
  refine lv_iload_n hx hb dL_lowestEqual_3 rfl (lv_at hl 1 rfl) ?_
  refine cHVi S5 hK hP hO hD hS hT (fun _ h => hA _ _ hS.1 h) (As := [.int p1]) hM (cwV 1 hts gL_lowestEqual_X5_lowestEqual rfl rfl rfl (by decide +kernel) ⟨Nat.le_refl _, (by show 8 + (2 + 11) + rmX5_lowestEqual.locals ≤ rmX5_lowestEqual.locals + 21; omega)⟩) rfl hl.1 (st0 := _) (rest := [.int 0, .ref ob]) rfl (Nat.le_of_ble_eq_true rfl) dL_lowestEqual_4 ⟨(Nat.le_of_ble_eq_true rfl), (Nat.le_of_ble_eq_true rfl)⟩ (fun c1 E ce q9 H locs hE h1 h2 h3 hP hO hS => ?_) (fun c1 H locs hP hO hS => ?_)
  · rcases hr with hr | hr | hr
    · exact absurd hr c1
    · rw [hr] at hE
      subst hE
      refine vx_catch (name := "java/lang/IllegalArgumentException") hown [] ⟨0, 9, 12, 13⟩ [⟨0, 9, 15, 19⟩] htab (fun z hz => nomatch hz) rfl (by decide) (hts _ (List.mem_of_getElem? (i := 1) rfl)) (va_Nw.use (w := .castable (exN 1) (exN 1)) rfl (hT.2.2.2.2.1 1 (by simp))) h1 h2 h3 ?_
      refine lv_astore_n (lv' := [(3, .ref q9), (0, .ref (ad 8)), (1, .int p1), (2, .ref ob)]) hx hb dL_lowestEqual_12 rfl hl (by decide) rfl (fun ls hl => ?_)
      refine lv_iconst (v := 1) hx hb dL_lowestEqual_13 (by decide) ?_
      refine W.widen (k := 2) (n := 12) (by decide) (by decide) ?_
      exact kr 1 f _ _ _ _ (by unfold hcd; rw [hr]; rfl) (fun h0 => absurd h0 c1) hP hO hS dL_lowestEqual_14
    · rw [hr] at hE
      subst hE
      refine vx_catch (name := "java/lang/IllegalStateException") hown [⟨0, 9, 12, 13⟩] ⟨0, 9, 15, 19⟩ [] htab (fun z hz => by rw [List.mem_singleton.mp hz]; exact Or.inr ⟨by decide, "java/lang/IllegalArgumentException", hts _ (List.mem_of_getElem? (i := 1) rfl), hN⟩) rfl (by decide) (hts _ (List.mem_of_getElem? (i := 2) rfl)) (va_Nw.use (w := .castable (exN 2) (exN 2)) rfl (hT.2.2.2.2.1 2 (by simp))) h1 h2 h3 ?_
      refine lv_astore_n (lv' := [(3, .ref q9), (0, .ref (ad 8)), (1, .int p1), (2, .ref ob)]) hx hb dL_lowestEqual_15 rfl hl (by decide) rfl (fun ls hl => ?_)
      refine lv_iconst (v := 2) hx hb dL_lowestEqual_16 (by decide) ?_
      refine W.widen (k := 2) (n := 12) (by decide) (by decide) ?_
      exact kr 2 f _ _ _ _ (by unfold hcd; rw [hr]; rfl) (fun h0 => absurd h0 c1) hP hO hS dL_lowestEqual_17
  · skip
    refine lv_i2l (v := r.2.1.toInt64) hx hb dL_lowestEqual_7 rfl ?_
    refine W_last (cA := cA) (ad := ad) (M := r.2.2) hx hb hKL hP hO hD hS (by decide) dL_lowestEqual_8 (fun H locs g hg hP hO hS => ?_)
    refine lv_goto (tgt := 18) hx hb dL_lowestEqual_9 (by decide) ?_
    refine lv_iconst (v := 0) hx hb dL_lowestEqual_18 (by decide) ?_
    refine W.widen (k := 2) (n := 12) (by decide) (by decide) ?_
    exact kr 0 g _ _ _ _ (by unfold hcd; rw [if_pos c1]) (fun _ => by rw [hg]) hP hO hS dL_lowestEqual_19
-- L_unlike
def rmL_unlike : Room := { frames := rmX5_unlike.frames + 1, cells := 1, slots := 6, locals := rmX5_unlike.locals + 21 }
set_option maxHeartbeats 4000000 in
set_option maxRecDepth 100000 in
theorem kL_unlike (l : Launch) (D : va_G) (cA cL : Nat) (ad : Nat → Nat) (ob : Nat) (sa : Nat → Nat) (hst : l.stackTraces = false) (p1 : Int32) (M : Mem) (f : Nat → Int64) (r : Res) (h : fX5_unlike p1 M = some r) (hr : r.1 = 0 ∨ r.1 = 1) : Hp l yL_unlike wsL_unlike rmL_unlike D cA cL ad ob sa M f [.ref (ad 8), .int p1, .ref ob] 1 6 1 r := by
  have hM : Ti l yX5_unlike wsX5_unlike rmX5_unlike D cA ad sa M [.ref (ad 8), .int p1] 1 6 r := kX5_unlike l D cA ad sa hst p1 M r h
  refine Hp.of rfl rfl rfl (Nat.le_of_ble_eq_true rfl) ?_
  intro p e s m args below meth c Q ls A eA S5 htab hK hKL hP hO hD hS hT hN hl kr
  have hA : ∀ (H : Heap) (q : Nat), s.heap.size ≤ H.size → AX ad H.size q → A q := fun H q hz h => by rw [eA]; exact Or.inl (AX.mono hz h)
  obtain ⟨hx, hb, -, hown, hts⟩ := id S5
  refine lv_aload_n hx hb dL_unlike_0 rfl (lv_at hl 2 rfl) ?_
  refine lv_iconst (v := 0) hx hb dL_unlike_1 (by decide) ?_
  refine lv_aload_n hx hb dL_unlike_2 rfl (lv_at hl 0 rfl) ?_
  refine lv_iload_n hx hb dL_unlike_3 rfl (lv_at hl 1 rfl) ?_
  refine cHVi S5 hK hP hO hD hS hT (fun _ h => hA _ _ hS.1 h) (As := [.int p1]) hM (cwV 1 hts gL_unlike_X5_unlike rfl rfl rfl (by decide +kernel) ⟨Nat.le_refl _, (by show 8 + (2 + 11) + rmX5_unlike.locals ≤ rmX5_unlike.locals + 21; omega)⟩) rfl hl.1 (st0 := _) (rest := [.int 0, .ref ob]) rfl (Nat.le_of_ble_eq_true rfl) dL_unlike_4 ⟨(Nat.le_of_ble_eq_true rfl), (Nat.le_of_ble_eq_true rfl)⟩ (fun c1 E ce q9 H locs hE h1 h2 h3 hP hO hS => ?_) (fun c1 H locs hP hO hS => ?_)
  · rcases hr with hr | hr
    · exact absurd hr c1
    · rw [hr] at hE
      subst hE
      refine vx_catch (name := "java/lang/IllegalArgumentException") hown [] ⟨0, 9, 12, 13⟩ [] htab (fun z hz => nomatch hz) rfl (by decide) (hts _ (List.mem_of_getElem? (i := 1) rfl)) (va_Nw.use (w := .castable (exN 1) (exN 1)) rfl (hT.2.2.2.2.1 1 (by simp))) h1 h2 h3 ?_
      refine lv_astore_n (lv' := [(3, .ref q9), (0, .ref (ad 8)), (1, .int p1), (2, .ref ob)]) hx hb dL_unlike_12 rfl hl (by decide) rfl (fun ls hl => ?_)
      refine lv_iconst (v := 1) hx hb dL_unlike_13 (by decide) ?_
      refine W.widen (k := 1) (n := 6) (by decide) (by decide) ?_
      exact kr 1 f _ _ _ _ (by unfold hcd; rw [hr]; rfl) (fun h0 => absurd h0 c1) hP hO hS dL_unlike_14
  · skip
    refine lv_i2l (v := r.2.1.toInt64) hx hb dL_unlike_7 rfl ?_
    refine W_last (cA := cA) (ad := ad) (M := r.2.2) hx hb hKL hP hO hD hS (by decide) dL_unlike_8 (fun H locs g hg hP hO hS => ?_)
    refine lv_goto (tgt := 15) hx hb dL_unlike_9 (by decide) ?_
    refine lv_iconst (v := 0) hx hb dL_unlike_15 (by decide) ?_
    refine W.widen (k := 1) (n := 6) (by decide) (by decide) ?_
    exact kr 0 g _ _ _ _ (by unfold hcd; rw [if_pos c1]) (fun _ => by rw [hg]) hP hO hS dL_unlike_16
-- L_isTop
def rmL_isTop : Room := { frames := rmX5_isTop.frames + 1, cells := 2, slots := 12, locals := rmX5_isTop.locals + 21 }
set_option maxHeartbeats 4000000 in
set_option maxRecDepth 100000 in
theorem kL_isTop (l : Launch) (D : va_G) (cA cL : Nat) (ad : Nat → Nat) (ob : Nat) (sa : Nat → Nat) (hst : l.stackTraces = false) (p1 : Int32) (M : Mem) (f : Nat → Int64) (r : Res) (h : fX5_isTop p1 M = some r) (hvb : vb r.2.1 = true) (hr : r.1 = 0 ∨ r.1 = 1 ∨ r.1 = 2) : Hp l yL_isTop wsL_isTop rmL_isTop D cA cL ad ob sa M f [.ref (ad 8), .int p1, .ref ob] 2 12 1 r := by
  have hM : Ti l yX5_isTop wsX5_isTop rmX5_isTop D cA ad sa M [.ref (ad 8), .int p1] 2 12 r := kX5_isTop l D cA ad sa hst p1 M r h
  refine Hp.of rfl rfl rfl (Nat.le_of_ble_eq_true rfl) ?_
  intro p e s m args below meth c Q ls A eA S5 htab hK hKL hP hO hD hS hT hN hl kr
  have hA : ∀ (H : Heap) (q : Nat), s.heap.size ≤ H.size → AX ad H.size q → A q := fun H q hz h => by rw [eA]; exact Or.inl (AX.mono hz h)
  obtain ⟨hx, hb, -, hown, hts⟩ := id S5
  refine lv_aload_n hx hb dL_isTop_0 rfl (lv_at hl 2 rfl) ?_
  refine lv_iconst (v := 0) hx hb dL_isTop_1 (by decide) ?_
  refine lv_aload_n hx hb dL_isTop_2 rfl (lv_at hl 0 rfl) ?_
  refine lv_iload_n hx hb dL_isTop_3 rfl (lv_at hl 1 rfl) ?_
  refine cHVi S5 hK hP hO hD hS hT (fun _ h => hA _ _ hS.1 h) (As := [.int p1]) hM (cwV 1 hts gL_isTop_X5_isTop rfl rfl rfl (by decide +kernel) ⟨Nat.le_refl _, (by show 8 + (2 + 11) + rmX5_isTop.locals ≤ rmX5_isTop.locals + 21; omega)⟩) rfl hl.1 (st0 := _) (rest := [.int 0, .ref ob]) rfl (Nat.le_of_ble_eq_true rfl) dL_isTop_4 ⟨(Nat.le_of_ble_eq_true rfl), (Nat.le_of_ble_eq_true rfl)⟩ (fun c1 E ce q9 H locs hE h1 h2 h3 hP hO hS => ?_) (fun c1 H locs hP hO hS => ?_)
  · rcases hr with hr | hr | hr
    · exact absurd hr c1
    · rw [hr] at hE
      subst hE
      refine vx_catch (name := "java/lang/IllegalArgumentException") hown [] ⟨0, 16, 19, 13⟩ [⟨0, 16, 22, 19⟩] htab (fun z hz => nomatch hz) rfl (by decide) (hts _ (List.mem_of_getElem? (i := 1) rfl)) (va_Nw.use (w := .castable (exN 1) (exN 1)) rfl (hT.2.2.2.2.1 1 (by simp))) h1 h2 h3 ?_
      refine lv_astore_n (lv' := [(3, .ref q9), (0, .ref (ad 8)), (1, .int p1), (2, .ref ob)]) hx hb dL_isTop_19 rfl hl (by decide) rfl (fun ls hl => ?_)
      refine lv_iconst (v := 1) hx hb dL_isTop_20 (by decide) ?_
      refine W.widen (k := 2) (n := 12) (by decide) (by decide) ?_
      exact kr 1 f _ _ _ _ (by unfold hcd; rw [hr]; rfl) (fun h0 => absurd h0 c1) hP hO hS dL_isTop_21
    · rw [hr] at hE
      subst hE
      refine vx_catch (name := "java/lang/IllegalStateException") hown [⟨0, 16, 19, 13⟩] ⟨0, 16, 22, 19⟩ [] htab (fun z hz => by rw [List.mem_singleton.mp hz]; exact Or.inr ⟨by decide, "java/lang/IllegalArgumentException", hts _ (List.mem_of_getElem? (i := 1) rfl), hN⟩) rfl (by decide) (hts _ (List.mem_of_getElem? (i := 2) rfl)) (va_Nw.use (w := .castable (exN 2) (exN 2)) rfl (hT.2.2.2.2.1 2 (by simp))) h1 h2 h3 ?_
      refine lv_astore_n (lv' := [(3, .ref q9), (0, .ref (ad 8)), (1, .int p1), (2, .ref ob)]) hx hb dL_isTop_22 rfl hl (by decide) rfl (fun ls hl => ?_)
      refine lv_iconst (v := 2) hx hb dL_isTop_23 (by decide) ?_
      refine W.widen (k := 2) (n := 12) (by decide) (by decide) ?_
      exact kr 2 f _ _ _ _ (by unfold hcd; rw [hr]; rfl) (fun h0 => absurd h0 c1) hP hO hS dL_isTop_24
  · skip
    refine lv_if_eq (tgt := 14) hx hb dL_isTop_7 (by decide) (fun c2 => ?_) (fun c2 => ?_)
    · refine lv_lconst (v := 0) hx hb dL_isTop_14 rfl ?_
      refine W_last (cA := cA) (ad := ad) (M := r.2.2) hx hb hKL hP hO hD hS (by decide) dL_isTop_15 (fun H locs g hg hP hO hS => ?_)
      refine lv_goto (tgt := 25) hx hb dL_isTop_16 (by decide) ?_
      refine lv_iconst (v := 0) hx hb dL_isTop_25 (by decide) ?_
      refine W.widen (k := 2) (n := 12) (by decide) (by decide) ?_
      exact kr 0 g _ _ _ _ (by unfold hcd; rw [if_pos c1]) (fun _ => by rw [hg]; rw [c2]; rfl) hP hO hS dL_isTop_26
    · refine lv_lconst (v := 1) hx hb dL_isTop_10 rfl ?_
      refine lv_goto (tgt := 15) hx hb dL_isTop_11 (by decide) ?_
      refine W_last (cA := cA) (ad := ad) (M := r.2.2) hx hb hKL hP hO hD hS (by decide) dL_isTop_15 (fun H locs g hg hP hO hS => ?_)
      refine lv_goto (tgt := 25) hx hb dL_isTop_16 (by decide) ?_
      refine lv_iconst (v := 0) hx hb dL_isTop_25 (by decide) ?_
      refine W.widen (k := 2) (n := 12) (by decide) (by decide) ?_
      exact kr 0 g _ _ _ _ (by unfold hcd; rw [if_pos c1]) (fun _ => by rw [hg]; rw [(vb_or hvb).resolve_left c2]; rfl) hP hO hS dL_isTop_26
-- L_quick
def rmL_quick : Room := { frames := rmX5_quick.frames + 1, cells := 1, slots := 6, locals := rmX5_quick.locals + 21 }
set_option maxHeartbeats 4000000 in
set_option maxRecDepth 100000 in
theorem kL_quick (l : Launch) (D : va_G) (cA cL : Nat) (ad : Nat → Nat) (ob : Nat) (sa : Nat → Nat) (hst : l.stackTraces = false) (p1 : Int32) (M : Mem) (f : Nat → Int64) (r : Res) (h : fX5_quick p1 M = some r) (hr : r.1 = 0 ∨ r.1 = 1) : Hp l yL_quick wsL_quick rmL_quick D cA cL ad ob sa M f [.ref (ad 8), .int p1, .ref ob] 1 6 1 r := by
  have hM : Ti l yX5_quick wsX5_quick rmX5_quick D cA ad sa M [.ref (ad 8), .int p1] 1 6 r := kX5_quick l D cA ad sa hst p1 M r h
  refine Hp.of rfl rfl rfl (Nat.le_of_ble_eq_true rfl) ?_
  intro p e s m args below meth c Q ls A eA S5 htab hK hKL hP hO hD hS hT hN hl kr
  have hA : ∀ (H : Heap) (q : Nat), s.heap.size ≤ H.size → AX ad H.size q → A q := fun H q hz h => by rw [eA]; exact Or.inl (AX.mono hz h)
  obtain ⟨hx, hb, -, hown, hts⟩ := id S5
  refine lv_aload_n hx hb dL_quick_0 rfl (lv_at hl 2 rfl) ?_
  refine lv_iconst (v := 0) hx hb dL_quick_1 (by decide) ?_
  refine lv_aload_n hx hb dL_quick_2 rfl (lv_at hl 0 rfl) ?_
  refine lv_iload_n hx hb dL_quick_3 rfl (lv_at hl 1 rfl) ?_
  refine cHVi S5 hK hP hO hD hS hT (fun _ h => hA _ _ hS.1 h) (As := [.int p1]) hM (cwV 1 hts gL_quick_X5_quick rfl rfl rfl (by decide +kernel) ⟨Nat.le_refl _, (by show 8 + (2 + 11) + rmX5_quick.locals ≤ rmX5_quick.locals + 21; omega)⟩) rfl hl.1 (st0 := _) (rest := [.int 0, .ref ob]) rfl (Nat.le_of_ble_eq_true rfl) dL_quick_4 ⟨(Nat.le_of_ble_eq_true rfl), (Nat.le_of_ble_eq_true rfl)⟩ (fun c1 E ce q9 H locs hE h1 h2 h3 hP hO hS => ?_) (fun c1 H locs hP hO hS => ?_)
  · rcases hr with hr | hr
    · exact absurd hr c1
    · rw [hr] at hE
      subst hE
      refine vx_catch (name := "java/lang/IllegalArgumentException") hown [] ⟨0, 9, 12, 13⟩ [] htab (fun z hz => nomatch hz) rfl (by decide) (hts _ (List.mem_of_getElem? (i := 1) rfl)) (va_Nw.use (w := .castable (exN 1) (exN 1)) rfl (hT.2.2.2.2.1 1 (by simp))) h1 h2 h3 ?_
      refine lv_astore_n (lv' := [(3, .ref q9), (0, .ref (ad 8)), (1, .int p1), (2, .ref ob)]) hx hb dL_quick_12 rfl hl (by decide) rfl (fun ls hl => ?_)
      refine lv_iconst (v := 1) hx hb dL_quick_13 (by decide) ?_
      refine W.widen (k := 1) (n := 6) (by decide) (by decide) ?_
      exact kr 1 f _ _ _ _ (by unfold hcd; rw [hr]; rfl) (fun h0 => absurd h0 c1) hP hO hS dL_quick_14
  · skip
    refine lv_i2l (v := r.2.1.toInt64) hx hb dL_quick_7 rfl ?_
    refine W_last (cA := cA) (ad := ad) (M := r.2.2) hx hb hKL hP hO hD hS (by decide) dL_quick_8 (fun H locs g hg hP hO hS => ?_)
    refine lv_goto (tgt := 15) hx hb dL_quick_9 (by decide) ?_
    refine lv_iconst (v := 0) hx hb dL_quick_15 (by decide) ?_
    refine W.widen (k := 1) (n := 6) (by decide) (by decide) ?_
    exact kr 0 g _ _ _ _ (by unfold hcd; rw [if_pos c1]) (fun _ => by rw [hg]) hP hO hS dL_quick_16
-- L_fork
def rmL_fork : Room := { frames := rmX5_fork.frames + 1, cells := 2, slots := 12, locals := rmX5_fork.locals + 22 }
set_option maxHeartbeats 4000000 in
set_option maxRecDepth 100000 in
theorem kL_fork (l : Launch) (D : va_G) (cA cL : Nat) (ad : Nat → Nat) (ob : Nat) (sa : Nat → Nat) (hst : l.stackTraces = false) (p1 : Int32) (p2 : Int32) (M : Mem) (f : Nat → Int64) (r : Res) (h : fX5_fork p1 p2 M = r) (hr : r.1 = 0 ∨ r.1 = 1) : Hp l yL_fork wsL_fork rmL_fork D cA cL ad ob sa M f [.ref (ad 8), .int p1, .int p2, .ref ob] 2 12 1 r := by
  have hM : Ti l yX5_fork wsX5_fork rmX5_fork D cA ad sa M [.ref (ad 8), .int p1, .int p2] 2 12 r := h ▸ kX5_fork l D cA ad sa hst p1 p2 M
  refine Hp.of rfl rfl rfl (Nat.le_of_ble_eq_true rfl) ?_
  intro p e s m args below meth c Q ls A eA S5 htab hK hKL hP hO hD hS hT hN hl kr
  have hA : ∀ (H : Heap) (q : Nat), s.heap.size ≤ H.size → AX ad H.size q → A q := fun H q hz h => by rw [eA]; exact Or.inl (AX.mono hz h)
  obtain ⟨hx, hb, -, hown, hts⟩ := id S5
  refine lv_aload_n hx hb dL_fork_0 rfl (lv_at hl 3 rfl) ?_
  refine lv_iconst (v := 0) hx hb dL_fork_1 (by decide) ?_
  refine lv_aload_n hx hb dL_fork_2 rfl (lv_at hl 0 rfl) ?_
  refine lv_iload_n hx hb dL_fork_3 rfl (lv_at hl 1 rfl) ?_
  refine lv_iload_n hx hb dL_fork_4 rfl (lv_at hl 2 rfl) ?_
  refine cHVi S5 hK hP hO hD hS hT (fun _ h => hA _ _ hS.1 h) (As := [.int p1, .int p2]) hM (cwV 2 hts gL_fork_X5_fork rfl rfl rfl (by decide +kernel) ⟨Nat.le_refl _, (by show 8 + (3 + 11) + rmX5_fork.locals ≤ rmX5_fork.locals + 22; omega)⟩) rfl hl.1 (st0 := _) (rest := [.int 0, .ref ob]) rfl (Nat.le_of_ble_eq_true rfl) dL_fork_5 ⟨(Nat.le_of_ble_eq_true rfl), (Nat.le_of_ble_eq_true rfl)⟩ (fun c1 E ce q9 H locs hE h1 h2 h3 hP hO hS => ?_) (fun c1 H locs hP hO hS => ?_)
  · rcases hr with hr | hr
    · exact absurd hr c1
    · rw [hr] at hE
      subst hE
      refine vx_catch (name := "java/lang/IllegalArgumentException") hown [] ⟨0, 10, 13, 13⟩ [] htab (fun z hz => nomatch hz) rfl (by decide) (hts _ (List.mem_of_getElem? (i := 1) rfl)) (va_Nw.use (w := .castable (exN 1) (exN 1)) rfl (hT.2.2.2.2.1 1 (by simp))) h1 h2 h3 ?_
      refine lv_astore (lv' := [(4, .ref q9), (0, .ref (ad 8)), (1, .int p1), (2, .int p2), (3, .ref ob)]) hx hb dL_fork_13 hl (by decide) rfl (fun ls hl => ?_)
      refine lv_iconst (v := 1) hx hb dL_fork_15 (by decide) ?_
      refine W.widen (k := 2) (n := 12) (by decide) (by decide) ?_
      exact kr 1 f _ _ _ _ (by unfold hcd; rw [hr]; rfl) (fun h0 => absurd h0 c1) hP hO hS dL_fork_16
  · skip
    refine lv_i2l (v := r.2.1.toInt64) hx hb dL_fork_8 rfl ?_
    refine W_last (cA := cA) (ad := ad) (M := r.2.2) hx hb hKL hP hO hD hS (by decide) dL_fork_9 (fun H locs g hg hP hO hS => ?_)
    refine lv_goto (tgt := 17) hx hb dL_fork_10 (by decide) ?_
    refine lv_iconst (v := 0) hx hb dL_fork_17 (by decide) ?_
    refine W.widen (k := 2) (n := 12) (by decide) (by decide) ?_
    exact kr 0 g _ _ _ _ (by unfold hcd; rw [if_pos c1]) (fun _ => by rw [hg]) hP hO hS dL_fork_18
