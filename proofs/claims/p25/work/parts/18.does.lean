/-! the law's own call: a face's method, its refusal caught -/
def dv (r : Res) : Int32 := if r.1 = 0 then r.2.1 else -13
def dv9 (r : Res) : Int32 := if r.1 = 0 then (if r.2.1 = 0 then 0 else 1) else -13
theorem Dp.of {l : Launch} {y : MethodName} {ws ws' : List Cond} {rm : Room} {D : va_G} {cA : Nat} {ad sa : Nat → Nat} {M M2 : Mem} {as : List Value} {mc ms : Nat} {v : Int32} {cc : ByteArray} {maxL : Nat} {hh : List (Nat × Nat × Nat × Nat)} (hy : plainName y.cls = true) (ho : y.cls = RL) (hw : ws = Cond.codeWith y cc maxL (some .int) hh :: ws') (hlen : (lg_sl as).length ≤ maxL)
    (body : ∀ (p : Program) (e : Env) (s : State) (m : MethodId) (args : Array Value) (below : List Frame) (meth : Method) (c : Code) (Q : State → Prop) (ls : Array Slot) (A : Nat → Prop), A = AX ad s.heap.size → CallFix p m c cc maxL s args ws RL → c.exceptionTable.toList = tableOf hh → va_K D vwCl [(cA, .int)] s → va_P D vwCl (wX cA ad M) s.heap → (∀ M : Mem, va_D A (wX cA ad M)) → va_S A s.heap s.heap [] → TE A sa s → lv_has ls maxL (lv_args 0 as) →
      (∀ (x : Int32) (pc : Nat) (ls : Array Slot) (H : Heap) (locs : List Loc), x = v → va_P D vwCl (wX cA ad M2) H → va_S A s.heap H locs → decode cc pc = .ok (.ireturn, 1) → W p l e rm s m args below meth c H locs mc ms Q (F0 m pc ls [.int x])) →
      W p l e rm s m args below meth c s.heap [] 0 0 Q (F0 m 0 ls [])) : Dp l y ws rm D cA ad sa M as mc ms v M2 := by
  intro sz
  refine vx_ofWH (cc := cc) (maxL := maxL) (ret := some .int) (hh := hh) hy hw ?_
  intro p e s m args below meth c s₁ B hml hv
  obtain ⟨rfl, ⟨hsz, ⟨hP, hK⟩, hD⟩, hT⟩ := hv
  subst hsz
  have hl := lv_entry as hlen
  rw [lg_entry_eq]
  have hlocks := B.notSynchronized
  have hown : s.vm.findClass RL = some m.cls := ho ▸ findClass_of_methodNamed B.named
  have hts := atoms_spec (ws := ws) B.pre
  have htab := vx_table (x := y) B (atoms_spec (ws := ws) B.pre _ (by rw [hw]; exact List.mem_cons_self))
  exact body p e s m _ below meth c _ _ _ rfl ⟨B.exec, B.bytes, hml, hown, hts⟩ htab hK hP (fun M' => (AX.ofX hD).same rfl) va_S.rf hT hl (fun x pc ls H locs hv hP1 hS hdg => vx_ret (W.iret (v := x) B.exec B.bytes B.returns (fun t ht hW => ⟨⟨x, (), rfl, hv, ⟨⟨by rw [ht]; exact hP1, va_K.moved hW.alike hK⟩, (AX.ofX hD).same rfl⟩⟩, hS.F ht⟩) hS.2.2 hdg))

def rmL_does_0 : Room := { frames := 9, cells := 3, slots := 18, locals := 124 }
set_option maxHeartbeats 4000000 in
set_option maxRecDepth 100000 in
theorem kL_does_0 (l : Launch) (D : va_G) (cA : Nat) (ad sa : Nat → Nat) (hst : l.stackTraces = false) (a b : Int32) (M : Mem) (r : Res) (h : fX5_give a b M = r) (hr : r.1 = 0 ∨ r.1 = 2) : Dp l yL_does wsL_does rmL_does_0 D cA ad sa M [.ref (ad 8), .int 0, .int a, .int b] 3 18 (dv r) r.2.2 := by
  have hM : Ti l yX5_give wsX5_give rmX5_give D cA ad sa M [.ref (ad 8), .int a, .int b] 3 18 r := h ▸ kX5_give l D cA ad sa hst a b M
  refine Dp.of rfl rfl rfl (Nat.le_of_ble_eq_true rfl) ?_
  intro p e s m args below meth c Q ls A eA S5 htab hK hP hD hS hT hl kr
  have hA : ∀ (H : Heap) (q : Nat), s.heap.size ≤ H.size → AX ad H.size q → A q := fun H q hz h => by rw [eA]; exact AX.mono hz h
  obtain ⟨hx, hb, -, hown, hts⟩ := id S5
  refine lv_iload_n hx hb dL_does_0 rfl (lv_at hl 1 rfl) ?_
  refine lv_if_ne (tgt := 13) hx hb dL_does_1 (by decide) (fun c2 => absurd c2 (by decide)) (fun c2 => ?_)
  refine lv_aload_n hx hb dL_does_4 rfl (lv_at hl 0 rfl) ?_
  refine lv_iload_n hx hb dL_does_5 rfl (lv_at hl 2 rfl) ?_
  refine lv_iload_n hx hb dL_does_6 rfl (lv_at hl 3 rfl) ?_
  refine cTVi S5 hK hP hD hS hT (fun _ h => hA _ _ hS.1 h) 8 rfl rfl (As := [.int a, .int b]) hM (cwV 2 hts gL_does_X5_give rfl rfl rfl (by decide +kernel) ⟨(Nat.le_of_ble_eq_true rfl), (Nat.le_of_ble_eq_true rfl)⟩) rfl hl.1 (st0 := _) (rest := []) rfl (Nat.le_of_ble_eq_true rfl) dL_does_7 ⟨(Nat.le_of_ble_eq_true rfl), (Nat.le_of_ble_eq_true rfl)⟩ (fun c1 E ce q9 H locs hE h1 h2 h3 hP hS => ?_) (fun c1 H locs hP hS => ?_)
  · have hr2 : r.1 = 2 := hr.resolve_left c1
    rw [hr2] at hE
    subst hE
    refine vx_catch (name := "java/lang/IllegalStateException") hown [] ⟨0, 129, 130, 75⟩ [] htab (fun z hz => nomatch hz) rfl (by decide) (hts _ (List.mem_of_getElem? (i := 1) rfl)) (va_Nw.use (w := .castable (exN 2) (exN 2)) rfl (hT.2.2.2.2.1 2 (by simp))) h1 h2 h3 ?_
    refine lv_astore (lv' := [(4, .ref q9), (0, .ref (ad 8)), (1, .int 0), (2, .int a), (3, .int b)]) hx hb dL_does_130 hl (by decide) rfl (fun ls hl => ?_)
    refine lv_bipush (v := (-13)) hx hb dL_does_132 (by decide) ?_
    refine W.widen (k := 3) (n := 18) (by decide) (by decide) ?_
    exact kr (-13) _ _ _ _ (by unfold dv; rw [if_neg c1]) hP hS dL_does_134
  · refine lv_goto (tgt := 129) hx hb dL_does_10 (by decide) ?_
    refine W.widen (k := 3) (n := 18) (by decide) (by decide) ?_
    exact kr _ _ _ _ _ (by unfold dv; rw [if_pos c1]) hP hS dL_does_129
def rmL_does_1 : Room := { frames := 9, cells := 2, slots := 12, locals := 123 }
set_option maxHeartbeats 4000000 in
set_option maxRecDepth 100000 in
theorem kL_does_1 (l : Launch) (D : va_G) (cA : Nat) (ad sa : Nat → Nat) (hst : l.stackTraces = false) (a b : Int32) (M : Mem) (r : Res) (h : fX5_start a M = some r) (hr : r.1 = 0 ∨ r.1 = 2) : Dp l yL_does wsL_does rmL_does_1 D cA ad sa M [.ref (ad 8), .int 1, .int a, .int b] 2 12 (dv r) r.2.2 := by
  have hM : Ti l yX5_start wsX5_start rmX5_start D cA ad sa M [.ref (ad 8), .int a] 2 12 r := kX5_start l D cA ad sa hst a M r h
  refine Dp.of rfl rfl rfl (Nat.le_of_ble_eq_true rfl) ?_
  intro p e s m args below meth c Q ls A eA S5 htab hK hP hD hS hT hl kr
  have hA : ∀ (H : Heap) (q : Nat), s.heap.size ≤ H.size → AX ad H.size q → A q := fun H q hz h => by rw [eA]; exact AX.mono hz h
  obtain ⟨hx, hb, -, hown, hts⟩ := id S5
  refine lv_iload_n hx hb dL_does_0 rfl (lv_at hl 1 rfl) ?_
  refine lv_if_ne (tgt := 13) hx hb dL_does_1 (by decide) (fun c2 => ?_) (fun c2 => absurd c2 (by decide))
  refine lv_iload_n hx hb dL_does_13 rfl (lv_at hl 1 rfl) ?_
  refine lv_iconst (v := 1) hx hb dL_does_14 (by decide) ?_
  refine lv_icmp_ne (tgt := 26) hx hb dL_does_15 (by decide) (fun c2 => absurd c2 (by decide)) (fun c2 => ?_)
  refine lv_aload_n hx hb dL_does_18 rfl (lv_at hl 0 rfl) ?_
  refine lv_iload_n hx hb dL_does_19 rfl (lv_at hl 2 rfl) ?_
  refine cTVi S5 hK hP hD hS hT (fun _ h => hA _ _ hS.1 h) 8 rfl rfl (As := [.int a]) hM (cwV 1 hts gL_does_X5_start rfl rfl rfl (by decide +kernel) ⟨(Nat.le_of_ble_eq_true rfl), (Nat.le_of_ble_eq_true rfl)⟩) rfl hl.1 (st0 := _) (rest := []) rfl (Nat.le_of_ble_eq_true rfl) dL_does_20 ⟨(Nat.le_of_ble_eq_true rfl), (Nat.le_of_ble_eq_true rfl)⟩ (fun c1 E ce q9 H locs hE h1 h2 h3 hP hS => ?_) (fun c1 H locs hP hS => ?_)
  · have hr2 : r.1 = 2 := hr.resolve_left c1
    rw [hr2] at hE
    subst hE
    refine vx_catch (name := "java/lang/IllegalStateException") hown [] ⟨0, 129, 130, 75⟩ [] htab (fun z hz => nomatch hz) rfl (by decide) (hts _ (List.mem_of_getElem? (i := 1) rfl)) (va_Nw.use (w := .castable (exN 2) (exN 2)) rfl (hT.2.2.2.2.1 2 (by simp))) h1 h2 h3 ?_
    refine lv_astore (lv' := [(4, .ref q9), (0, .ref (ad 8)), (1, .int 1), (2, .int a), (3, .int b)]) hx hb dL_does_130 hl (by decide) rfl (fun ls hl => ?_)
    refine lv_bipush (v := (-13)) hx hb dL_does_132 (by decide) ?_
    refine W.widen (k := 2) (n := 12) (by decide) (by decide) ?_
    exact kr (-13) _ _ _ _ (by unfold dv; rw [if_neg c1]) hP hS dL_does_134
  · refine lv_goto (tgt := 129) hx hb dL_does_23 (by decide) ?_
    refine W.widen (k := 2) (n := 12) (by decide) (by decide) ?_
    exact kr _ _ _ _ _ (by unfold dv; rw [if_pos c1]) hP hS dL_does_129
def rmL_does_2 : Room := { frames := 9, cells := 2, slots := 12, locals := 124 }
set_option maxHeartbeats 4000000 in
set_option maxRecDepth 100000 in
theorem kL_does_2 (l : Launch) (D : va_G) (cA : Nat) (ad sa : Nat → Nat) (hst : l.stackTraces = false) (a b : Int32) (M : Mem) (r : Res) (h : fX5_play a M = some r) (hr : r.1 = 0 ∨ r.1 = 2) : Dp l yL_does wsL_does rmL_does_2 D cA ad sa M [.ref (ad 8), .int 2, .int a, .int b] 2 12 (dv r) r.2.2 := by
  have hM : Ti l yX5_play wsX5_play rmX5_play D cA ad sa M [.ref (ad 8), .int a] 2 12 r := kX5_play l D cA ad sa hst a M r h
  refine Dp.of rfl rfl rfl (Nat.le_of_ble_eq_true rfl) ?_
  intro p e s m args below meth c Q ls A eA S5 htab hK hP hD hS hT hl kr
  have hA : ∀ (H : Heap) (q : Nat), s.heap.size ≤ H.size → AX ad H.size q → A q := fun H q hz h => by rw [eA]; exact AX.mono hz h
  obtain ⟨hx, hb, -, hown, hts⟩ := id S5
  refine lv_iload_n hx hb dL_does_0 rfl (lv_at hl 1 rfl) ?_
  refine lv_if_ne (tgt := 13) hx hb dL_does_1 (by decide) (fun c2 => ?_) (fun c2 => absurd c2 (by decide))
  refine lv_iload_n hx hb dL_does_13 rfl (lv_at hl 1 rfl) ?_
  refine lv_iconst (v := 1) hx hb dL_does_14 (by decide) ?_
  refine lv_icmp_ne (tgt := 26) hx hb dL_does_15 (by decide) (fun c2 => ?_) (fun c2 => absurd c2 (by decide))
  refine lv_iload_n hx hb dL_does_26 rfl (lv_at hl 1 rfl) ?_
  refine lv_iconst (v := 2) hx hb dL_does_27 (by decide) ?_
  refine lv_icmp_ne (tgt := 39) hx hb dL_does_28 (by decide) (fun c2 => absurd c2 (by decide)) (fun c2 => ?_)
  refine lv_aload_n hx hb dL_does_31 rfl (lv_at hl 0 rfl) ?_
  refine lv_iload_n hx hb dL_does_32 rfl (lv_at hl 2 rfl) ?_
  refine cTVi S5 hK hP hD hS hT (fun _ h => hA _ _ hS.1 h) 8 rfl rfl (As := [.int a]) hM (cwV 1 hts gL_does_X5_play rfl rfl rfl (by decide +kernel) ⟨(Nat.le_of_ble_eq_true rfl), (Nat.le_of_ble_eq_true rfl)⟩) rfl hl.1 (st0 := _) (rest := []) rfl (Nat.le_of_ble_eq_true rfl) dL_does_33 ⟨(Nat.le_of_ble_eq_true rfl), (Nat.le_of_ble_eq_true rfl)⟩ (fun c1 E ce q9 H locs hE h1 h2 h3 hP hS => ?_) (fun c1 H locs hP hS => ?_)
  · have hr2 : r.1 = 2 := hr.resolve_left c1
    rw [hr2] at hE
    subst hE
    refine vx_catch (name := "java/lang/IllegalStateException") hown [] ⟨0, 129, 130, 75⟩ [] htab (fun z hz => nomatch hz) rfl (by decide) (hts _ (List.mem_of_getElem? (i := 1) rfl)) (va_Nw.use (w := .castable (exN 2) (exN 2)) rfl (hT.2.2.2.2.1 2 (by simp))) h1 h2 h3 ?_
    refine lv_astore (lv' := [(4, .ref q9), (0, .ref (ad 8)), (1, .int 2), (2, .int a), (3, .int b)]) hx hb dL_does_130 hl (by decide) rfl (fun ls hl => ?_)
    refine lv_bipush (v := (-13)) hx hb dL_does_132 (by decide) ?_
    refine W.widen (k := 2) (n := 12) (by decide) (by decide) ?_
    exact kr (-13) _ _ _ _ (by unfold dv; rw [if_neg c1]) hP hS dL_does_134
  · refine lv_goto (tgt := 129) hx hb dL_does_36 (by decide) ?_
    refine W.widen (k := 2) (n := 12) (by decide) (by decide) ?_
    exact kr _ _ _ _ _ (by unfold dv; rw [if_pos c1]) hP hS dL_does_129
def rmL_does_3 : Room := { frames := 8, cells := 1, slots := 6, locals := 102 }
set_option maxHeartbeats 4000000 in
set_option maxRecDepth 100000 in
theorem kL_does_3 (l : Launch) (D : va_G) (cA : Nat) (ad sa : Nat → Nat) (hst : l.stackTraces = false) (a b : Int32) (M : Mem) (r : Res) (h : fX5_takeBack M = r) (hr : r.1 = 0 ∨ r.1 = 2) : Dp l yL_does wsL_does rmL_does_3 D cA ad sa M [.ref (ad 8), .int 3, .int a, .int b] 1 6 (dv r) r.2.2 := by
  have hM : Ti l yX5_takeBack wsX5_takeBack rmX5_takeBack D cA ad sa M [.ref (ad 8)] 1 6 r := h ▸ kX5_takeBack l D cA ad sa hst M
  refine Dp.of rfl rfl rfl (Nat.le_of_ble_eq_true rfl) ?_
  intro p e s m args below meth c Q ls A eA S5 htab hK hP hD hS hT hl kr
  have hA : ∀ (H : Heap) (q : Nat), s.heap.size ≤ H.size → AX ad H.size q → A q := fun H q hz h => by rw [eA]; exact AX.mono hz h
  obtain ⟨hx, hb, -, hown, hts⟩ := id S5
  refine lv_iload_n hx hb dL_does_0 rfl (lv_at hl 1 rfl) ?_
  refine lv_if_ne (tgt := 13) hx hb dL_does_1 (by decide) (fun c2 => ?_) (fun c2 => absurd c2 (by decide))
  refine lv_iload_n hx hb dL_does_13 rfl (lv_at hl 1 rfl) ?_
  refine lv_iconst (v := 1) hx hb dL_does_14 (by decide) ?_
  refine lv_icmp_ne (tgt := 26) hx hb dL_does_15 (by decide) (fun c2 => ?_) (fun c2 => absurd c2 (by decide))
  refine lv_iload_n hx hb dL_does_26 rfl (lv_at hl 1 rfl) ?_
  refine lv_iconst (v := 2) hx hb dL_does_27 (by decide) ?_
  refine lv_icmp_ne (tgt := 39) hx hb dL_does_28 (by decide) (fun c2 => ?_) (fun c2 => absurd c2 (by decide))
  refine lv_iload_n hx hb dL_does_39 rfl (lv_at hl 1 rfl) ?_
  refine lv_iconst (v := 3) hx hb dL_does_40 (by decide) ?_
  refine lv_icmp_ne (tgt := 51) hx hb dL_does_41 (by decide) (fun c2 => absurd c2 (by decide)) (fun c2 => ?_)
  refine lv_aload_n hx hb dL_does_44 rfl (lv_at hl 0 rfl) ?_
  refine cTVi S5 hK hP hD hS hT (fun _ h => hA _ _ hS.1 h) 8 rfl rfl (As := []) hM (cwV 0 hts gL_does_X5_takeBack rfl rfl rfl (by decide +kernel) ⟨(Nat.le_of_ble_eq_true rfl), (Nat.le_of_ble_eq_true rfl)⟩) rfl hl.1 (st0 := _) (rest := []) rfl (Nat.le_of_ble_eq_true rfl) dL_does_45 ⟨(Nat.le_of_ble_eq_true rfl), (Nat.le_of_ble_eq_true rfl)⟩ (fun c1 E ce q9 H locs hE h1 h2 h3 hP hS => ?_) (fun c1 H locs hP hS => ?_)
  · have hr2 : r.1 = 2 := hr.resolve_left c1
    rw [hr2] at hE
    subst hE
    refine vx_catch (name := "java/lang/IllegalStateException") hown [] ⟨0, 129, 130, 75⟩ [] htab (fun z hz => nomatch hz) rfl (by decide) (hts _ (List.mem_of_getElem? (i := 1) rfl)) (va_Nw.use (w := .castable (exN 2) (exN 2)) rfl (hT.2.2.2.2.1 2 (by simp))) h1 h2 h3 ?_
    refine lv_astore (lv' := [(4, .ref q9), (0, .ref (ad 8)), (1, .int 3), (2, .int a), (3, .int b)]) hx hb dL_does_130 hl (by decide) rfl (fun ls hl => ?_)
    refine lv_bipush (v := (-13)) hx hb dL_does_132 (by decide) ?_
    refine W.widen (k := 1) (n := 6) (by decide) (by decide) ?_
    exact kr (-13) _ _ _ _ (by unfold dv; rw [if_neg c1]) hP hS dL_does_134
  · refine lv_goto (tgt := 129) hx hb dL_does_48 (by decide) ?_
    refine W.widen (k := 1) (n := 6) (by decide) (by decide) ?_
    exact kr _ _ _ _ _ (by unfold dv; rw [if_pos c1]) hP hS dL_does_129
def rmL_does_4 : Room := { frames := 129, cells := 1, slots := 6, locals := 2842 }
set_option maxHeartbeats 4000000 in
set_option maxRecDepth 100000 in
theorem kL_does_4 (l : Launch) (D : va_G) (cA : Nat) (ad sa : Nat → Nat) (hst : l.stackTraces = false) (a b : Int32) (M : Mem) (r : Res) (h : gX5_solve M = some r) (hr : r.1 = 0 ∨ r.1 = 2) : Dp l yL_does wsL_does rmL_does_4 D cA ad sa M [.ref (ad 8), .int 4, .int a, .int b] 1 6 (dv r) r.2.2 := by
  have hM : Ti l yX5_solve wsX5_solve rgX5_solve D cA ad sa M [.ref (ad 8)] 1 6 r := kgX5_solve l D cA ad sa hst M r h
  refine Dp.of rfl rfl rfl (Nat.le_of_ble_eq_true rfl) ?_
  intro p e s m args below meth c Q ls A eA S5 htab hK hP hD hS hT hl kr
  have hA : ∀ (H : Heap) (q : Nat), s.heap.size ≤ H.size → AX ad H.size q → A q := fun H q hz h => by rw [eA]; exact AX.mono hz h
  obtain ⟨hx, hb, -, hown, hts⟩ := id S5
  refine lv_iload_n hx hb dL_does_0 rfl (lv_at hl 1 rfl) ?_
  refine lv_if_ne (tgt := 13) hx hb dL_does_1 (by decide) (fun c2 => ?_) (fun c2 => absurd c2 (by decide))
  refine lv_iload_n hx hb dL_does_13 rfl (lv_at hl 1 rfl) ?_
  refine lv_iconst (v := 1) hx hb dL_does_14 (by decide) ?_
  refine lv_icmp_ne (tgt := 26) hx hb dL_does_15 (by decide) (fun c2 => ?_) (fun c2 => absurd c2 (by decide))
  refine lv_iload_n hx hb dL_does_26 rfl (lv_at hl 1 rfl) ?_
  refine lv_iconst (v := 2) hx hb dL_does_27 (by decide) ?_
  refine lv_icmp_ne (tgt := 39) hx hb dL_does_28 (by decide) (fun c2 => ?_) (fun c2 => absurd c2 (by decide))
  refine lv_iload_n hx hb dL_does_39 rfl (lv_at hl 1 rfl) ?_
  refine lv_iconst (v := 3) hx hb dL_does_40 (by decide) ?_
  refine lv_icmp_ne (tgt := 51) hx hb dL_does_41 (by decide) (fun c2 => ?_) (fun c2 => absurd c2 (by decide))
  refine lv_iload_n hx hb dL_does_51 rfl (lv_at hl 1 rfl) ?_
  refine lv_iconst (v := 4) hx hb dL_does_52 (by decide) ?_
  refine lv_icmp_ne (tgt := 63) hx hb dL_does_53 (by decide) (fun c2 => absurd c2 (by decide)) (fun c2 => ?_)
  refine lv_aload_n hx hb dL_does_56 rfl (lv_at hl 0 rfl) ?_
  refine cTVi S5 hK hP hD hS hT (fun _ h => hA _ _ hS.1 h) 8 rfl rfl (As := []) hM (cwV 0 hts gL_does_X5_solve rfl rfl rfl (by decide +kernel) ⟨(Nat.le_of_ble_eq_true rfl), (Nat.le_of_ble_eq_true rfl)⟩) rfl hl.1 (st0 := _) (rest := []) rfl (Nat.le_of_ble_eq_true rfl) dL_does_57 ⟨(Nat.le_of_ble_eq_true rfl), (Nat.le_of_ble_eq_true rfl)⟩ (fun c1 E ce q9 H locs hE h1 h2 h3 hP hS => ?_) (fun c1 H locs hP hS => ?_)
  · have hr2 : r.1 = 2 := hr.resolve_left c1
    rw [hr2] at hE
    subst hE
    refine vx_catch (name := "java/lang/IllegalStateException") hown [] ⟨0, 129, 130, 75⟩ [] htab (fun z hz => nomatch hz) rfl (by decide) (hts _ (List.mem_of_getElem? (i := 1) rfl)) (va_Nw.use (w := .castable (exN 2) (exN 2)) rfl (hT.2.2.2.2.1 2 (by simp))) h1 h2 h3 ?_
    refine lv_astore (lv' := [(4, .ref q9), (0, .ref (ad 8)), (1, .int 4), (2, .int a), (3, .int b)]) hx hb dL_does_130 hl (by decide) rfl (fun ls hl => ?_)
    refine lv_bipush (v := (-13)) hx hb dL_does_132 (by decide) ?_
    refine W.widen (k := 1) (n := 6) (by decide) (by decide) ?_
    exact kr (-13) _ _ _ _ (by unfold dv; rw [if_neg c1]) hP hS dL_does_134
  · refine lv_goto (tgt := 129) hx hb dL_does_60 (by decide) ?_
    refine W.widen (k := 1) (n := 6) (by decide) (by decide) ?_
    exact kr _ _ _ _ _ (by unfold dv; rw [if_pos c1]) hP hS dL_does_129
def rmL_does_5 : Room := { frames := 69, cells := 2, slots := 12, locals := 1482 }
set_option maxHeartbeats 4000000 in
set_option maxRecDepth 100000 in
theorem kL_does_5 (l : Launch) (D : va_G) (cA : Nat) (ad sa : Nat → Nat) (hst : l.stackTraces = false) (a b : Int32) (M : Mem) (r : Res) (h : gX5_solveByAll M = some r) (hr : r.1 = 0 ∨ r.1 = 2) : Dp l yL_does wsL_does rmL_does_5 D cA ad sa M [.ref (ad 8), .int 5, .int a, .int b] 2 12 (dv r) r.2.2 := by
  have hM : Ti l yX5_solveByAll wsX5_solveByAll rgX5_solveByAll D cA ad sa M [.ref (ad 8)] 2 12 r := kgX5_solveByAll l D cA ad sa hst M r h
  refine Dp.of rfl rfl rfl (Nat.le_of_ble_eq_true rfl) ?_
  intro p e s m args below meth c Q ls A eA S5 htab hK hP hD hS hT hl kr
  have hA : ∀ (H : Heap) (q : Nat), s.heap.size ≤ H.size → AX ad H.size q → A q := fun H q hz h => by rw [eA]; exact AX.mono hz h
  obtain ⟨hx, hb, -, hown, hts⟩ := id S5
  refine lv_iload_n hx hb dL_does_0 rfl (lv_at hl 1 rfl) ?_
  refine lv_if_ne (tgt := 13) hx hb dL_does_1 (by decide) (fun c2 => ?_) (fun c2 => absurd c2 (by decide))
  refine lv_iload_n hx hb dL_does_13 rfl (lv_at hl 1 rfl) ?_
  refine lv_iconst (v := 1) hx hb dL_does_14 (by decide) ?_
  refine lv_icmp_ne (tgt := 26) hx hb dL_does_15 (by decide) (fun c2 => ?_) (fun c2 => absurd c2 (by decide))
  refine lv_iload_n hx hb dL_does_26 rfl (lv_at hl 1 rfl) ?_
  refine lv_iconst (v := 2) hx hb dL_does_27 (by decide) ?_
  refine lv_icmp_ne (tgt := 39) hx hb dL_does_28 (by decide) (fun c2 => ?_) (fun c2 => absurd c2 (by decide))
  refine lv_iload_n hx hb dL_does_39 rfl (lv_at hl 1 rfl) ?_
  refine lv_iconst (v := 3) hx hb dL_does_40 (by decide) ?_
  refine lv_icmp_ne (tgt := 51) hx hb dL_does_41 (by decide) (fun c2 => ?_) (fun c2 => absurd c2 (by decide))
  refine lv_iload_n hx hb dL_does_51 rfl (lv_at hl 1 rfl) ?_
  refine lv_iconst (v := 4) hx hb dL_does_52 (by decide) ?_
  refine lv_icmp_ne (tgt := 63) hx hb dL_does_53 (by decide) (fun c2 => ?_) (fun c2 => absurd c2 (by decide))
  refine lv_iload_n hx hb dL_does_63 rfl (lv_at hl 1 rfl) ?_
  refine lv_iconst (v := 5) hx hb dL_does_64 (by decide) ?_
  refine lv_icmp_ne (tgt := 75) hx hb dL_does_65 (by decide) (fun c2 => absurd c2 (by decide)) (fun c2 => ?_)
  refine lv_aload_n hx hb dL_does_68 rfl (lv_at hl 0 rfl) ?_
  refine cTVi S5 hK hP hD hS hT (fun _ h => hA _ _ hS.1 h) 8 rfl rfl (As := []) hM (cwV 0 hts gL_does_X5_solveByAll rfl rfl rfl (by decide +kernel) ⟨(Nat.le_of_ble_eq_true rfl), (Nat.le_of_ble_eq_true rfl)⟩) rfl hl.1 (st0 := _) (rest := []) rfl (Nat.le_of_ble_eq_true rfl) dL_does_69 ⟨(Nat.le_of_ble_eq_true rfl), (Nat.le_of_ble_eq_true rfl)⟩ (fun c1 E ce q9 H locs hE h1 h2 h3 hP hS => ?_) (fun c1 H locs hP hS => ?_)
  · have hr2 : r.1 = 2 := hr.resolve_left c1
    rw [hr2] at hE
    subst hE
    refine vx_catch (name := "java/lang/IllegalStateException") hown [] ⟨0, 129, 130, 75⟩ [] htab (fun z hz => nomatch hz) rfl (by decide) (hts _ (List.mem_of_getElem? (i := 1) rfl)) (va_Nw.use (w := .castable (exN 2) (exN 2)) rfl (hT.2.2.2.2.1 2 (by simp))) h1 h2 h3 ?_
    refine lv_astore (lv' := [(4, .ref q9), (0, .ref (ad 8)), (1, .int 5), (2, .int a), (3, .int b)]) hx hb dL_does_130 hl (by decide) rfl (fun ls hl => ?_)
    refine lv_bipush (v := (-13)) hx hb dL_does_132 (by decide) ?_
    refine W.widen (k := 2) (n := 12) (by decide) (by decide) ?_
    exact kr (-13) _ _ _ _ (by unfold dv; rw [if_neg c1]) hP hS dL_does_134
  · refine lv_goto (tgt := 129) hx hb dL_does_72 (by decide) ?_
    refine W.widen (k := 2) (n := 12) (by decide) (by decide) ?_
    exact kr _ _ _ _ _ (by unfold dv; rw [if_pos c1]) hP hS dL_does_129
def rmL_does_6 : Room := { frames := 129, cells := 2, slots := 12, locals := 2844 }
set_option maxHeartbeats 4000000 in
set_option maxRecDepth 100000 in
theorem kL_does_6 (l : Launch) (D : va_G) (cA : Nat) (ad sa : Nat → Nat) (hst : l.stackTraces = false) (a b : Int32) (M : Mem) (r : Res) (h : gX5_value a M = some r) (hr : r.1 = 0 ∨ r.1 = 2) : Dp l yL_does wsL_does rmL_does_6 D cA ad sa M [.ref (ad 8), .int 6, .int a, .int b] 2 12 (dv r) r.2.2 := by
  have hM : Ti l yX5_value wsX5_value rgX5_value D cA ad sa M [.ref (ad 8), .int a] 2 12 r := kgX5_value l D cA ad sa hst a M r h
  refine Dp.of rfl rfl rfl (Nat.le_of_ble_eq_true rfl) ?_
  intro p e s m args below meth c Q ls A eA S5 htab hK hP hD hS hT hl kr
  have hA : ∀ (H : Heap) (q : Nat), s.heap.size ≤ H.size → AX ad H.size q → A q := fun H q hz h => by rw [eA]; exact AX.mono hz h
  obtain ⟨hx, hb, -, hown, hts⟩ := id S5
  refine lv_iload_n hx hb dL_does_0 rfl (lv_at hl 1 rfl) ?_
  refine lv_if_ne (tgt := 13) hx hb dL_does_1 (by decide) (fun c2 => ?_) (fun c2 => absurd c2 (by decide))
  refine lv_iload_n hx hb dL_does_13 rfl (lv_at hl 1 rfl) ?_
  refine lv_iconst (v := 1) hx hb dL_does_14 (by decide) ?_
  refine lv_icmp_ne (tgt := 26) hx hb dL_does_15 (by decide) (fun c2 => ?_) (fun c2 => absurd c2 (by decide))
  refine lv_iload_n hx hb dL_does_26 rfl (lv_at hl 1 rfl) ?_
  refine lv_iconst (v := 2) hx hb dL_does_27 (by decide) ?_
  refine lv_icmp_ne (tgt := 39) hx hb dL_does_28 (by decide) (fun c2 => ?_) (fun c2 => absurd c2 (by decide))
  refine lv_iload_n hx hb dL_does_39 rfl (lv_at hl 1 rfl) ?_
  refine lv_iconst (v := 3) hx hb dL_does_40 (by decide) ?_
  refine lv_icmp_ne (tgt := 51) hx hb dL_does_41 (by decide) (fun c2 => ?_) (fun c2 => absurd c2 (by decide))
  refine lv_iload_n hx hb dL_does_51 rfl (lv_at hl 1 rfl) ?_
  refine lv_iconst (v := 4) hx hb dL_does_52 (by decide) ?_
  refine lv_icmp_ne (tgt := 63) hx hb dL_does_53 (by decide) (fun c2 => ?_) (fun c2 => absurd c2 (by decide))
  refine lv_iload_n hx hb dL_does_63 rfl (lv_at hl 1 rfl) ?_
  refine lv_iconst (v := 5) hx hb dL_does_64 (by decide) ?_
  refine lv_icmp_ne (tgt := 75) hx hb dL_does_65 (by decide) (fun c2 => ?_) (fun c2 => absurd c2 (by decide))
  refine lv_iload_n hx hb dL_does_75 rfl (lv_at hl 1 rfl) ?_
  refine lv_bipush (v := 6) hx hb dL_does_76 (by decide) ?_
  refine lv_icmp_ne (tgt := 89) hx hb dL_does_78 (by decide) (fun c2 => absurd c2 (by decide)) (fun c2 => ?_)
  refine lv_aload_n hx hb dL_does_81 rfl (lv_at hl 0 rfl) ?_
  refine lv_iload_n hx hb dL_does_82 rfl (lv_at hl 2 rfl) ?_
  refine cTVi S5 hK hP hD hS hT (fun _ h => hA _ _ hS.1 h) 8 rfl rfl (As := [.int a]) hM (cwV 1 hts gL_does_X5_value rfl rfl rfl (by decide +kernel) ⟨(Nat.le_of_ble_eq_true rfl), (Nat.le_of_ble_eq_true rfl)⟩) rfl hl.1 (st0 := _) (rest := []) rfl (Nat.le_of_ble_eq_true rfl) dL_does_83 ⟨(Nat.le_of_ble_eq_true rfl), (Nat.le_of_ble_eq_true rfl)⟩ (fun c1 E ce q9 H locs hE h1 h2 h3 hP hS => ?_) (fun c1 H locs hP hS => ?_)
  · have hr2 : r.1 = 2 := hr.resolve_left c1
    rw [hr2] at hE
    subst hE
    refine vx_catch (name := "java/lang/IllegalStateException") hown [] ⟨0, 129, 130, 75⟩ [] htab (fun z hz => nomatch hz) rfl (by decide) (hts _ (List.mem_of_getElem? (i := 1) rfl)) (va_Nw.use (w := .castable (exN 2) (exN 2)) rfl (hT.2.2.2.2.1 2 (by simp))) h1 h2 h3 ?_
    refine lv_astore (lv' := [(4, .ref q9), (0, .ref (ad 8)), (1, .int 6), (2, .int a), (3, .int b)]) hx hb dL_does_130 hl (by decide) rfl (fun ls hl => ?_)
    refine lv_bipush (v := (-13)) hx hb dL_does_132 (by decide) ?_
    refine W.widen (k := 2) (n := 12) (by decide) (by decide) ?_
    exact kr (-13) _ _ _ _ (by unfold dv; rw [if_neg c1]) hP hS dL_does_134
  · refine lv_goto (tgt := 129) hx hb dL_does_86 (by decide) ?_
    refine W.widen (k := 2) (n := 12) (by decide) (by decide) ?_
    exact kr _ _ _ _ _ (by unfold dv; rw [if_pos c1]) hP hS dL_does_129
def rmL_does_7 : Room := { frames := 128, cells := 1, slots := 6, locals := 2859 }
set_option maxHeartbeats 4000000 in
set_option maxRecDepth 100000 in
theorem kL_does_7 (l : Launch) (D : va_G) (cA : Nat) (ad sa : Nat → Nat) (hst : l.stackTraces = false) (a b : Int32) (M : Mem) (r : Res) (h : gX5_bestCard M = some r) (hr : r.1 = 0 ∨ r.1 = 2) : Dp l yL_does wsL_does rmL_does_7 D cA ad sa M [.ref (ad 8), .int 7, .int a, .int b] 1 6 (dv r) r.2.2 := by
  have hM : Ti l yX5_bestCard wsX5_bestCard rgX5_bestCard D cA ad sa M [.ref (ad 8)] 1 6 r := kgX5_bestCard l D cA ad sa hst M r h
  refine Dp.of rfl rfl rfl (Nat.le_of_ble_eq_true rfl) ?_
  intro p e s m args below meth c Q ls A eA S5 htab hK hP hD hS hT hl kr
  have hA : ∀ (H : Heap) (q : Nat), s.heap.size ≤ H.size → AX ad H.size q → A q := fun H q hz h => by rw [eA]; exact AX.mono hz h
  obtain ⟨hx, hb, -, hown, hts⟩ := id S5
  refine lv_iload_n hx hb dL_does_0 rfl (lv_at hl 1 rfl) ?_
  refine lv_if_ne (tgt := 13) hx hb dL_does_1 (by decide) (fun c2 => ?_) (fun c2 => absurd c2 (by decide))
  refine lv_iload_n hx hb dL_does_13 rfl (lv_at hl 1 rfl) ?_
  refine lv_iconst (v := 1) hx hb dL_does_14 (by decide) ?_
  refine lv_icmp_ne (tgt := 26) hx hb dL_does_15 (by decide) (fun c2 => ?_) (fun c2 => absurd c2 (by decide))
  refine lv_iload_n hx hb dL_does_26 rfl (lv_at hl 1 rfl) ?_
  refine lv_iconst (v := 2) hx hb dL_does_27 (by decide) ?_
  refine lv_icmp_ne (tgt := 39) hx hb dL_does_28 (by decide) (fun c2 => ?_) (fun c2 => absurd c2 (by decide))
  refine lv_iload_n hx hb dL_does_39 rfl (lv_at hl 1 rfl) ?_
  refine lv_iconst (v := 3) hx hb dL_does_40 (by decide) ?_
  refine lv_icmp_ne (tgt := 51) hx hb dL_does_41 (by decide) (fun c2 => ?_) (fun c2 => absurd c2 (by decide))
  refine lv_iload_n hx hb dL_does_51 rfl (lv_at hl 1 rfl) ?_
  refine lv_iconst (v := 4) hx hb dL_does_52 (by decide) ?_
  refine lv_icmp_ne (tgt := 63) hx hb dL_does_53 (by decide) (fun c2 => ?_) (fun c2 => absurd c2 (by decide))
  refine lv_iload_n hx hb dL_does_63 rfl (lv_at hl 1 rfl) ?_
  refine lv_iconst (v := 5) hx hb dL_does_64 (by decide) ?_
  refine lv_icmp_ne (tgt := 75) hx hb dL_does_65 (by decide) (fun c2 => ?_) (fun c2 => absurd c2 (by decide))
  refine lv_iload_n hx hb dL_does_75 rfl (lv_at hl 1 rfl) ?_
  refine lv_bipush (v := 6) hx hb dL_does_76 (by decide) ?_
  refine lv_icmp_ne (tgt := 89) hx hb dL_does_78 (by decide) (fun c2 => ?_) (fun c2 => absurd c2 (by decide))
  refine lv_iload_n hx hb dL_does_89 rfl (lv_at hl 1 rfl) ?_
  refine lv_bipush (v := 7) hx hb dL_does_90 (by decide) ?_
  refine lv_icmp_ne (tgt := 102) hx hb dL_does_92 (by decide) (fun c2 => absurd c2 (by decide)) (fun c2 => ?_)
  refine lv_aload_n hx hb dL_does_95 rfl (lv_at hl 0 rfl) ?_
  refine cTVi S5 hK hP hD hS hT (fun _ h => hA _ _ hS.1 h) 8 rfl rfl (As := []) hM (cwV 0 hts gL_does_X5_bestCard rfl rfl rfl (by decide +kernel) ⟨(Nat.le_of_ble_eq_true rfl), (Nat.le_of_ble_eq_true rfl)⟩) rfl hl.1 (st0 := _) (rest := []) rfl (Nat.le_of_ble_eq_true rfl) dL_does_96 ⟨(Nat.le_of_ble_eq_true rfl), (Nat.le_of_ble_eq_true rfl)⟩ (fun c1 E ce q9 H locs hE h1 h2 h3 hP hS => ?_) (fun c1 H locs hP hS => ?_)
  · have hr2 : r.1 = 2 := hr.resolve_left c1
    rw [hr2] at hE
    subst hE
    refine vx_catch (name := "java/lang/IllegalStateException") hown [] ⟨0, 129, 130, 75⟩ [] htab (fun z hz => nomatch hz) rfl (by decide) (hts _ (List.mem_of_getElem? (i := 1) rfl)) (va_Nw.use (w := .castable (exN 2) (exN 2)) rfl (hT.2.2.2.2.1 2 (by simp))) h1 h2 h3 ?_
    refine lv_astore (lv' := [(4, .ref q9), (0, .ref (ad 8)), (1, .int 7), (2, .int a), (3, .int b)]) hx hb dL_does_130 hl (by decide) rfl (fun ls hl => ?_)
    refine lv_bipush (v := (-13)) hx hb dL_does_132 (by decide) ?_
    refine W.widen (k := 1) (n := 6) (by decide) (by decide) ?_
    exact kr (-13) _ _ _ _ (by unfold dv; rw [if_neg c1]) hP hS dL_does_134
  · refine lv_goto (tgt := 129) hx hb dL_does_99 (by decide) ?_
    refine W.widen (k := 1) (n := 6) (by decide) (by decide) ?_
    exact kr _ _ _ _ _ (by unfold dv; rw [if_pos c1]) hP hS dL_does_129
def rmL_does_8 : Room := { frames := 9, cells := 2, slots := 12, locals := 124 }
set_option maxHeartbeats 4000000 in
set_option maxRecDepth 100000 in
theorem kL_does_8 (l : Launch) (D : va_G) (cA : Nat) (ad sa : Nat → Nat) (hst : l.stackTraces = false) (a b : Int32) (M : Mem) (r : Res) (h : fX5_lowestEqual a M = some r) (hr : r.1 = 0 ∨ r.1 = 2) : Dp l yL_does wsL_does rmL_does_8 D cA ad sa M [.ref (ad 8), .int 8, .int a, .int b] 2 12 (dv r) r.2.2 := by
  have hM : Ti l yX5_lowestEqual wsX5_lowestEqual rmX5_lowestEqual D cA ad sa M [.ref (ad 8), .int a] 2 12 r := kX5_lowestEqual l D cA ad sa hst a M r h
  refine Dp.of rfl rfl rfl (Nat.le_of_ble_eq_true rfl) ?_
  intro p e s m args below meth c Q ls A eA S5 htab hK hP hD hS hT hl kr
  have hA : ∀ (H : Heap) (q : Nat), s.heap.size ≤ H.size → AX ad H.size q → A q := fun H q hz h => by rw [eA]; exact AX.mono hz h
  obtain ⟨hx, hb, -, hown, hts⟩ := id S5
  refine lv_iload_n hx hb dL_does_0 rfl (lv_at hl 1 rfl) ?_
  refine lv_if_ne (tgt := 13) hx hb dL_does_1 (by decide) (fun c2 => ?_) (fun c2 => absurd c2 (by decide))
  refine lv_iload_n hx hb dL_does_13 rfl (lv_at hl 1 rfl) ?_
  refine lv_iconst (v := 1) hx hb dL_does_14 (by decide) ?_
  refine lv_icmp_ne (tgt := 26) hx hb dL_does_15 (by decide) (fun c2 => ?_) (fun c2 => absurd c2 (by decide))
  refine lv_iload_n hx hb dL_does_26 rfl (lv_at hl 1 rfl) ?_
  refine lv_iconst (v := 2) hx hb dL_does_27 (by decide) ?_
  refine lv_icmp_ne (tgt := 39) hx hb dL_does_28 (by decide) (fun c2 => ?_) (fun c2 => absurd c2 (by decide))
  refine lv_iload_n hx hb dL_does_39 rfl (lv_at hl 1 rfl) ?_
  refine lv_iconst (v := 3) hx hb dL_does_40 (by decide) ?_
  refine lv_icmp_ne (tgt := 51) hx hb dL_does_41 (by decide) (fun c2 => ?_) (fun c2 => absurd c2 (by decide))
  refine lv_iload_n hx hb dL_does_51 rfl (lv_at hl 1 rfl) ?_
  refine lv_iconst (v := 4) hx hb dL_does_52 (by decide) ?_
  refine lv_icmp_ne (tgt := 63) hx hb dL_does_53 (by decide) (fun c2 => ?_) (fun c2 => absurd c2 (by decide))
  refine lv_iload_n hx hb dL_does_63 rfl (lv_at hl 1 rfl) ?_
  refine lv_iconst (v := 5) hx hb dL_does_64 (by decide) ?_
  refine lv_icmp_ne (tgt := 75) hx hb dL_does_65 (by decide) (fun c2 => ?_) (fun c2 => absurd c2 (by decide))
  refine lv_iload_n hx hb dL_does_75 rfl (lv_at hl 1 rfl) ?_
  refine lv_bipush (v := 6) hx hb dL_does_76 (by decide) ?_
  refine lv_icmp_ne (tgt := 89) hx hb dL_does_78 (by decide) (fun c2 => ?_) (fun c2 => absurd c2 (by decide))
  refine lv_iload_n hx hb dL_does_89 rfl (lv_at hl 1 rfl) ?_
  refine lv_bipush (v := 7) hx hb dL_does_90 (by decide) ?_
  refine lv_icmp_ne (tgt := 102) hx hb dL_does_92 (by decide) (fun c2 => ?_) (fun c2 => absurd c2 (by decide))
  refine lv_iload_n hx hb dL_does_102 rfl (lv_at hl 1 rfl) ?_
  refine lv_bipush (v := 8) hx hb dL_does_103 (by decide) ?_
  refine lv_icmp_ne (tgt := 116) hx hb dL_does_105 (by decide) (fun c2 => absurd c2 (by decide)) (fun c2 => ?_)
  refine lv_aload_n hx hb dL_does_108 rfl (lv_at hl 0 rfl) ?_
  refine lv_iload_n hx hb dL_does_109 rfl (lv_at hl 2 rfl) ?_
  refine cTVi S5 hK hP hD hS hT (fun _ h => hA _ _ hS.1 h) 8 rfl rfl (As := [.int a]) hM (cwV 1 hts gL_does_X5_lowestEqual rfl rfl rfl (by decide +kernel) ⟨(Nat.le_of_ble_eq_true rfl), (Nat.le_of_ble_eq_true rfl)⟩) rfl hl.1 (st0 := _) (rest := []) rfl (Nat.le_of_ble_eq_true rfl) dL_does_110 ⟨(Nat.le_of_ble_eq_true rfl), (Nat.le_of_ble_eq_true rfl)⟩ (fun c1 E ce q9 H locs hE h1 h2 h3 hP hS => ?_) (fun c1 H locs hP hS => ?_)
  · have hr2 : r.1 = 2 := hr.resolve_left c1
    rw [hr2] at hE
    subst hE
    refine vx_catch (name := "java/lang/IllegalStateException") hown [] ⟨0, 129, 130, 75⟩ [] htab (fun z hz => nomatch hz) rfl (by decide) (hts _ (List.mem_of_getElem? (i := 1) rfl)) (va_Nw.use (w := .castable (exN 2) (exN 2)) rfl (hT.2.2.2.2.1 2 (by simp))) h1 h2 h3 ?_
    refine lv_astore (lv' := [(4, .ref q9), (0, .ref (ad 8)), (1, .int 8), (2, .int a), (3, .int b)]) hx hb dL_does_130 hl (by decide) rfl (fun ls hl => ?_)
    refine lv_bipush (v := (-13)) hx hb dL_does_132 (by decide) ?_
    refine W.widen (k := 2) (n := 12) (by decide) (by decide) ?_
    exact kr (-13) _ _ _ _ (by unfold dv; rw [if_neg c1]) hP hS dL_does_134
  · refine lv_goto (tgt := 129) hx hb dL_does_113 (by decide) ?_
    refine W.widen (k := 2) (n := 12) (by decide) (by decide) ?_
    exact kr _ _ _ _ _ (by unfold dv; rw [if_pos c1]) hP hS dL_does_129
def rmL_does_9 : Room := { frames := 9, cells := 2, slots := 12, locals := 124 }
set_option maxHeartbeats 4000000 in
set_option maxRecDepth 100000 in
theorem kL_does_9 (l : Launch) (D : va_G) (cA : Nat) (ad sa : Nat → Nat) (hst : l.stackTraces = false) (a b : Int32) (M : Mem) (r : Res) (h : fX5_isTop a M = some r) (hr : r.1 = 0 ∨ r.1 = 2) : Dp l yL_does wsL_does rmL_does_9 D cA ad sa M [.ref (ad 8), .int 9, .int a, .int b] 2 12 (dv9 r) r.2.2 := by
  have hM : Ti l yX5_isTop wsX5_isTop rmX5_isTop D cA ad sa M [.ref (ad 8), .int a] 2 12 r := kX5_isTop l D cA ad sa hst a M r h
  refine Dp.of rfl rfl rfl (Nat.le_of_ble_eq_true rfl) ?_
  intro p e s m args below meth c Q ls A eA S5 htab hK hP hD hS hT hl kr
  have hA : ∀ (H : Heap) (q : Nat), s.heap.size ≤ H.size → AX ad H.size q → A q := fun H q hz h => by rw [eA]; exact AX.mono hz h
  obtain ⟨hx, hb, -, hown, hts⟩ := id S5
  refine lv_iload_n hx hb dL_does_0 rfl (lv_at hl 1 rfl) ?_
  refine lv_if_ne (tgt := 13) hx hb dL_does_1 (by decide) (fun c2 => ?_) (fun c2 => absurd c2 (by decide))
  refine lv_iload_n hx hb dL_does_13 rfl (lv_at hl 1 rfl) ?_
  refine lv_iconst (v := 1) hx hb dL_does_14 (by decide) ?_
  refine lv_icmp_ne (tgt := 26) hx hb dL_does_15 (by decide) (fun c2 => ?_) (fun c2 => absurd c2 (by decide))
  refine lv_iload_n hx hb dL_does_26 rfl (lv_at hl 1 rfl) ?_
  refine lv_iconst (v := 2) hx hb dL_does_27 (by decide) ?_
  refine lv_icmp_ne (tgt := 39) hx hb dL_does_28 (by decide) (fun c2 => ?_) (fun c2 => absurd c2 (by decide))
  refine lv_iload_n hx hb dL_does_39 rfl (lv_at hl 1 rfl) ?_
  refine lv_iconst (v := 3) hx hb dL_does_40 (by decide) ?_
  refine lv_icmp_ne (tgt := 51) hx hb dL_does_41 (by decide) (fun c2 => ?_) (fun c2 => absurd c2 (by decide))
  refine lv_iload_n hx hb dL_does_51 rfl (lv_at hl 1 rfl) ?_
  refine lv_iconst (v := 4) hx hb dL_does_52 (by decide) ?_
  refine lv_icmp_ne (tgt := 63) hx hb dL_does_53 (by decide) (fun c2 => ?_) (fun c2 => absurd c2 (by decide))
  refine lv_iload_n hx hb dL_does_63 rfl (lv_at hl 1 rfl) ?_
  refine lv_iconst (v := 5) hx hb dL_does_64 (by decide) ?_
  refine lv_icmp_ne (tgt := 75) hx hb dL_does_65 (by decide) (fun c2 => ?_) (fun c2 => absurd c2 (by decide))
  refine lv_iload_n hx hb dL_does_75 rfl (lv_at hl 1 rfl) ?_
  refine lv_bipush (v := 6) hx hb dL_does_76 (by decide) ?_
  refine lv_icmp_ne (tgt := 89) hx hb dL_does_78 (by decide) (fun c2 => ?_) (fun c2 => absurd c2 (by decide))
  refine lv_iload_n hx hb dL_does_89 rfl (lv_at hl 1 rfl) ?_
  refine lv_bipush (v := 7) hx hb dL_does_90 (by decide) ?_
  refine lv_icmp_ne (tgt := 102) hx hb dL_does_92 (by decide) (fun c2 => ?_) (fun c2 => absurd c2 (by decide))
  refine lv_iload_n hx hb dL_does_102 rfl (lv_at hl 1 rfl) ?_
  refine lv_bipush (v := 8) hx hb dL_does_103 (by decide) ?_
  refine lv_icmp_ne (tgt := 116) hx hb dL_does_105 (by decide) (fun c2 => ?_) (fun c2 => absurd c2 (by decide))
  refine lv_aload_n hx hb dL_does_116 rfl (lv_at hl 0 rfl) ?_
  refine lv_iload_n hx hb dL_does_117 rfl (lv_at hl 2 rfl) ?_
  refine cTVi S5 hK hP hD hS hT (fun _ h => hA _ _ hS.1 h) 8 rfl rfl (As := [.int a]) hM (cwV 1 hts gL_does_X5_isTop rfl rfl rfl (by decide +kernel) ⟨(Nat.le_of_ble_eq_true rfl), (Nat.le_of_ble_eq_true rfl)⟩) rfl hl.1 (st0 := _) (rest := []) rfl (Nat.le_of_ble_eq_true rfl) dL_does_118 ⟨(Nat.le_of_ble_eq_true rfl), (Nat.le_of_ble_eq_true rfl)⟩ (fun c1 E ce q9 H locs hE h1 h2 h3 hP hS => ?_) (fun c1 H locs hP hS => ?_)
  · have hr2 : r.1 = 2 := hr.resolve_left c1
    rw [hr2] at hE
    subst hE
    refine vx_catch (name := "java/lang/IllegalStateException") hown [] ⟨0, 129, 130, 75⟩ [] htab (fun z hz => nomatch hz) rfl (by decide) (hts _ (List.mem_of_getElem? (i := 1) rfl)) (va_Nw.use (w := .castable (exN 2) (exN 2)) rfl (hT.2.2.2.2.1 2 (by simp))) h1 h2 h3 ?_
    refine lv_astore (lv' := [(4, .ref q9), (0, .ref (ad 8)), (1, .int 9), (2, .int a), (3, .int b)]) hx hb dL_does_130 hl (by decide) rfl (fun ls hl => ?_)
    refine lv_bipush (v := (-13)) hx hb dL_does_132 (by decide) ?_
    refine W.widen (k := 2) (n := 12) (by decide) (by decide) ?_
    exact kr (-13) _ _ _ _ (by unfold dv9; rw [if_neg c1]) hP hS dL_does_134
  · refine lv_if_eq (tgt := 128) hx hb dL_does_121 (by decide) (fun c2 => ?_) (fun c2 => ?_)
    · refine lv_iconst (v := 0) hx hb dL_does_128 (by decide) ?_
      refine W.widen (k := 2) (n := 12) (by decide) (by decide) ?_
      exact kr _ _ _ _ _ (by unfold dv9; rw [if_pos c1, if_pos c2]) hP hS dL_does_129
    · refine lv_iconst (v := 1) hx hb dL_does_124 (by decide) ?_
      refine lv_goto (tgt := 129) hx hb dL_does_125 (by decide) ?_
      refine W.widen (k := 2) (n := 12) (by decide) (by decide) ?_
      exact kr _ _ _ _ _ (by unfold dv9; rw [if_pos c1, if_neg c2]) hP hS dL_does_129
