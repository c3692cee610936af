/-! THE CLAIM OUT OF ONE WALK OF THE LAW'S BODY. Your part is whole_start (and what it stands on); all else here is the same for every law, but numbers. -/
def R_law : String := "OpenTricksLaw"
theorem rC : 3000 ≤ room_1.cells := Nat.le_of_ble_eq_true rfl
theorem rS : 300000 ≤ room_1.slots := Nat.le_of_ble_eq_true rfl
def lw_P (b : Addr) (xs : List Int32) (args : Array Value) (s : State) : Prop := args = #[.ref b] ∧ s.IntsAt b xs ∧ xs.length ≤ 1536 ∧ (Jvm.Cond.and given_1 narrow_1).before args s = true
def lw_Q (_ : Array Value) (s : State) (o : Outcome) (t : State) : Prop := o = .returned (some (.int 1)) ∧ Framed s o t [] room_1.cells room_1.slots
def lw_Z (below : List Frame) (a : Array Value) (s : State) : State → Prop := fun t => ∃ o, t.status = .running ∧ Ended t below o ∧ lw_Q a s o t
/-- the law's own end, with 1 on the stack, nothing written that was there before, its room as the claim has it -/
theorem lw_ret {p : Program} {l : Launch} {e : Env} {s : State} {m : MethodId} {below : List Frame} {meth : Method} {c : Code} {b : Nat} (hx : p.tables.exec = Jvm.exec) (hb : c.code = code) (hr : meth.sig.returnType = ret) (hlocks : meth.locks = false) {pc : Nat} {H : Heap} {ls : Array Slot} (hdg : decode code pc = .ok (.ireturn, 1)) : W p l e room_1 s m #[Value.ref b] below meth c H [] room_1.cells room_1.slots (lw_Z below #[Value.ref b] s) (F0 m pc ls [.int 1]) := by
  intro T hT X
  obtain ⟨fs, hret, hrun, hended, hW, hframe⟩ := X.leave (v := some (.int 1)) (hlocks := hlocks) (fun h => by rw [hr] at h; cases h)
  have hmeth' : T.vm.method? m = some meth := X.method'
  refine ⟨T.setFrames fs, ?_, .returned (some (.int 1)), hrun, hended, rfl, ⟨_, rfl⟩, hW, hframe⟩
  jvm_step X.here [X.here.top, hx, hb, hdg, hmeth', hr, ret, narrow_b1]
  (try refine ⟨rfl, ?_⟩); (try refine ⟨rfl, ?_⟩)
  first | (intro acts; rw [hret _ acts rfl rfl rfl]) | rw [hret _ _ rfl rfl rfl]
  exact Steps.refl _
/-- what holds at the law's entry: the machine, the code, the tables' words (any of lw_tbl by 'hts w (by decide +kernel)'), the script of L ints xs at the cell b, what the Statement gives of the start (any of its parts by flat_of_before) -/
def lw_At (p : Program) (s : State) (m : MethodId) (meth : Method) (c : Code) (b L : Nat) (xs : Nat → Int32) : Prop :=
  p.tables.exec = Jvm.exec ∧ c.code = code ∧ meth.sig.returnType = ret ∧ c.maxLocals = 7 ∧ s.vm.findClass R_law = some m.cls ∧ (∀ w ∈ lw_tbl, w.before #[Value.ref b] s = true) ∧ va_X b L xs s s.heap ∧ b < s.heap.size ∧ meth.locks = false ∧ (Jvm.Cond.and given_1 narrow_1).before #[Value.ref b] s = true
def A0 (s : State) : Nat → Prop := fun q => s.heap.size ≤ q
/-- the three worlds of the law: the class's, the reference's, the row of answers -/
def LW (D : va_G) (cA cL : Nat) (ad am : Nat → Nat) (ob : Nat) (M N : Mem) (f : Nat → Int64) (H : Heap) : Prop := va_P D vwCl (wX cA ad M) H ∧ va_P D vwCl (wM cA am N) H ∧ va_P D vwCl (wO cL ob f) H
def DDs (s : State) (cA cL : Nat) (ad am : Nat → Nat) (ob : Nat) : Prop := ∀ (M N : Mem) (f : Nat → Int64), va_D (A0 s) (wX cA ad M ++ (wM cA am N ++ wO cL ob f))
def LC (l : Launch) (p : Program) (s : State) (m : MethodId) (meth : Method) (c : Code) (b L : Nat) (xs : Nat → Int32) (D : va_G) (cA cL : Nat) (ad am : Nat → Nat) (ob : Nat) (sa : Nat → Nat) : Prop :=
  lw_At p s m meth c b L xs ∧ l.stackTraces = false ∧ va_K D vwCl [(cA, .int)] s ∧ va_K D vwCl [(cL, .long)] s ∧ DDs s cA cL ad am ob ∧ TE (A0 s) sa s ∧ va_Nc (exN 2) (exN 1) s
theorem hcd0 {e1 : Nat} {r : Res} (h : hcd e1 r = 0) : r.1 = 0 := by
  unfold hcd at h
  by_cases h0 : r.1 = 0
  · exact h0
  · rw [if_neg h0] at h
    split at h
    · exact absurd h (by decide)
    · exact absurd h (by decide)
theorem lg_cmp_self (x : Int64) : lg_cmp x x = 0 := by
  unfold lg_cmp
  simp
section LL
variable {p : Program} {l : Launch} {e : Env} {R : Room} {s : State} {m : MethodId} {args : Array Value} {below : List Frame} {meth : Method} {c : Code} {H : Heap} {locs : List Loc} {cells slots : Nat} {Q : State → Prop}
variable {cc : ByteArray} {pc : Nat} {ls : Array Slot} {rest st0 : List Value} {nL : Nat} {Ts : List Cond} {own : String} {D : va_G} {cA cL : Nat} {ad am sa : Nat → Nat} {ob : Nat} {M N : Mem} {f : Nat → Int64} {mc ms : Nat}
theorem l_top {x v : Int32} (h : x = v) (k : W p l e R s m args below meth c H locs cells slots Q (F0 m pc ls (.int v :: rest))) : W p l e R s m args below meth c H locs cells slots Q (F0 m pc ls (.int x :: rest)) := h ▸ k
theorem l_topL {x v : Int64} (h : x = v) (k : W p l e R s m args below meth c H locs cells slots Q (F0 m pc ls (.long v :: rest))) : W p l e R s m args below meth c H locs cells slots Q (F0 m pc ls (.long x :: rest)) := h ▸ k
/-- the class's world and the row, without the reference's -/
theorem mD_XO (hDD : DDs s cA cL ad am ob) (M : Mem) (f : Nat → Int64) : va_D (A0 s) (wX cA ad M ++ wO cL ob f) :=
  (hDD M M f).sub [0, 1, 2, 3, 4, 5, 6, 7, 8, 18] (by decide) rfl
theorem mD_M (hDD : DDs s cA cL ad am ob) (N : Mem) : va_D (A0 s) (wM cA am N) := (hDD N N (fun _ => 0)).right.left
theorem mD_X (hDD : DDs s cA cL ad am ob) (M : Mem) : va_D (A0 s) (wX cA ad M) := (hDD M M (fun _ => 0)).left
theorem A0_AX {sz : Nat} (hDD : DDs s cA cL ad am ob) (hz : s.heap.size ≤ sz) : ∀ q, AX ad sz q → A0 s q := by
  intro q h
  rcases h with ⟨k, hk, rfl⟩ | h
  · obtain ⟨z, hz⟩ := ad_at cA ad (fun _ _ => 0) k hk
    exact (mD_X hDD _).2 k _ hz
  · exact Nat.le_trans hz h
theorem A0_AM {sz : Nat} (hDD : DDs s cA cL ad am ob) (hz : s.heap.size ≤ sz) : ∀ q, AX am sz q → A0 s q := by
  intro q h
  rcases h with ⟨k, hk, rfl⟩ | h
  · obtain ⟨z, hz⟩ := am_at cA am (fun _ _ => 0) k hk
    exact (mD_M hDD _).2 k _ hz
  · exact Nat.le_trans hz h
theorem A0_AH {sz : Nat} (hDD : DDs s cA cL ad am ob) (hz : s.heap.size ≤ sz) : ∀ q, AH ad ob sz q → A0 s q := by
  intro q h
  rcases h with h | rfl
  · exact A0_AX hDD hz q h
  · exact (hDD (fun _ _ => 0) (fun _ _ => 0) (fun _ => 0)).2 18 (q, .inl (cL, 1, .inr (.inl (fun _ => 0)))) rfl
/-- the law calls one of its own methods -/
theorem cLH (S5 : CallFix p m c cc nL s args Ts own) (hK : va_K D vwCl [(cA, .int)] s) (hKL : va_K D vwCl [(cL, .long)] s) (hDD : DDs s cA cL ad am ob) (hT : TE (A0 s) sa s) (hN : va_Nc (exN 2) (exN 1) s) (hW : LW D cA cL ad am ob M N f H) (hS : va_S (A0 s) s.heap H locs) {n index maxL e1 : Nat}
    {y : MethodName} {ws : List Cond} {rm : Room} {As : List Value} {r : Res} {bytes : ByteArray} {hh : List (Nat × Nat × Nat × Nat)} (hM : Hp l y ws rm D cA cL ad ob sa M f As mc ms e1 r) (cw : vx_CSW R s args own index y bytes maxL (some .int) hh ws rm mc ms n) (hn : As.length = n) (hsz : ls.size = nL) (hst : st0 = As.reverse ++ rest) (hrm : (rest.map fun v => v.category).sum ≤ 8) (hdg : decode cc pc = .ok (.invokestatic index, 3)) (hf : cells + mc ≤ R.cells ∧ slots + ms ≤ R.slots)
    (kk : ∀ (H1 : Heap) (locs1 : List Loc) (g : Nat → Int64), (r.1 = 0 → g 0 = r.2.1.toInt64) → LW D cA cL ad am ob r.2.2 N g H1 → va_S (A0 s) s.heap H1 locs1 → W p l e R s m args below meth c H1 locs1 (cells + mc) (slots + ms) Q (F0 m (pc + 3) ls (.int (hcd e1 r) :: rest))) : W p l e R s m args below meth c H locs cells slots Q (F0 m pc ls st0) := by
  subst hst
  obtain ⟨hPX, hPM, hPO⟩ := hW
  have hA := A0_AH (sz := H.size) hDD hS.1
  have hoff : ∀ (k : Nat) (q : Nat × va_E), (wM cA am N)[k]? = some q → ¬ AH ad ob H.size q.1 := by
    intro k q hq h
    have hq' : (wM cA am N ++ wO cL ob f)[k]? = some q := by rw [List.getElem?_append_left (List.getElem?_eq_some_iff.mp hq).1]; exact hq
    rcases h with h | h
    · exact off_AX (hDD M N f) (va_P.app hPM hPO) k q hq' h
    · exact (hDD M N f).right.cross hq (j := 0) (q := (ob, .inl (cL, 1, .inr (.inl f)))) rfl h
  intro T hT9 X
  rcases vx_runSX S5 (hM H.size) cw ⟨BH.blind, fun U hU hW => ⟨rfl, by rw [hU], by rw [hU]; exact hPX, by rw [hU]; exact hPO, va_K.moved hW.alike hK, va_K.moved hW.alike hKL, (mD_XO hDD M f).weaken (fun _ _ _ _ => trivial), TE.go hT hS hA hU hW, va_Nc.moved hW.alike hN⟩⟩ rfl hn hsz rfl (lv_room hrm) hdg hf T hT9 X with ⟨v, st₀, t, T', L, h0, X', hL, e1, e2, ⟨⟨x, g, hv, hp, hb⟩, hF⟩, st⟩ | ⟨q, st₀, t, T', L, E, ce, h0, X', hL, e1, e2, hx, -⟩
  · cases hv
    obtain ⟨k1, k2, k3⟩ := vx_keep h0 e1 hS (fun q _ h => hA q h) hA hL hF
    obtain ⟨hx1, hx2⟩ := hp
    subst hx1
    obtain ⟨t2, a1, b1⟩ := kk T'.heap (locs ++ L) g hx2 ⟨by rw [e1]; exact hb.1, hPM.off k2 hoff, by rw [e1]; exact hb.2⟩ k3 T' rfl X'
    exact ⟨t2, st t2 a1, b1⟩
  · exact hx.elim
/-- the law calls the reference -/
theorem cLM (S5 : CallFix p m c cc nL s args Ts own) (hK : va_K D vwCl [(cA, .int)] s) (hDD : DDs s cA cL ad am ob) (hW : LW D cA cL ad am ob M N f H) (hS : va_S (A0 s) s.heap H locs) {n index maxL : Nat}
    {y : MethodName} {ws : List Cond} {rm : Room} {As : List Value} {r : Int32 × Mem} {bytes : ByteArray} {ret : Option FieldType} (hM : WiM l y ws rm D cA am N (.ref (am 0) :: As) r) (cw : CallW R s args own RX6 index y bytes maxL ret ws rm 0 0 n) (hn : As.length = n) (hsz : ls.size = nL) (hst : st0 = As.reverse ++ .ref (am 0) :: rest) (hrm : (rest.map fun v => v.category).sum ≤ 8) (hdg : decode cc pc = .ok (.invokevirtual index, 3)) (hf : cells ≤ R.cells ∧ slots ≤ R.slots)
    (kk : ∀ (H1 : Heap) (locs1 : List Loc), LW D cA cL ad am ob M r.2 f H1 → va_S (A0 s) s.heap H1 locs1 → W p l e R s m args below meth c H1 locs1 cells slots Q (F0 m (pc + 3) ls (.int r.1 :: rest))) : W p l e R s m args below meth c H locs cells slots Q (F0 m pc ls st0) := by
  subst hst
  obtain ⟨hPX, hPM, hPO⟩ := hW
  have hA := A0_AM (sz := H.size) hDD hS.1
  have hlt : ∀ {w : va_W}, va_P D vwCl w H → ∀ (k : Nat) (q : Nat × va_E), w[k]? = some q → (∀ j, j < 9 → q.1 ≠ am j) → ¬ AX am H.size q.1 := by
    intro w hw k q hq hne h
    rcases h with ⟨j, hj, e⟩ | h
    · exact hne j hj e
    · have := (hw k q hq).lt; omega
  have hoX : ∀ (k : Nat) (q : Nat × va_E), (wX cA ad M)[k]? = some q → ¬ AX am H.size q.1 := fun k q hq => hlt hPX k q hq (fun j hj => by
    obtain ⟨z, hz⟩ := am_at cA am N j hj
    have hz' : (wM cA am N ++ wO cL ob f)[j]? = some (am j, z) := by rw [List.getElem?_append_left (List.getElem?_eq_some_iff.mp hz).1]; exact hz
    exact (hDD M N f).cross hq hz')
  have hoO : ∀ (k : Nat) (q : Nat × va_E), (wO cL ob f)[k]? = some q → ¬ AX am H.size q.1 := fun k q hq => hlt hPO k q hq (fun j hj => by
    obtain ⟨z, hz⟩ := am_at cA am N j hj
    exact ((hDD M N f).right.cross hz hq).symm)
  refine va_calli (va_runV S5 (hM H.size) cw ⟨BM.blind, va_recv hK hPM (ci := 5) (q0 := 0) rfl rfl, fun U hU hW => ⟨rfl, by rw [hU], by rw [PM, hU]; exact ⟨hPM, va_K.moved hW.alike hK⟩, (mD_M hDD N).weaken (fun _ _ _ _ => trivial)⟩⟩ rfl hn hsz rfl (lv_room hrm) hdg hf) hS (fun q _ h => hA q h) hA (fun x u t H1 locs1 ht hvm hx hB hz hk hS1 => ?_)
  subst hx
  exact kk H1 locs1 ⟨hPX.off hk hoX, by rw [← ht]; exact hB.1.1, hPO.off hk hoO⟩ hS1
end LL

set_option maxHeartbeats 4000000 in
set_option maxRecDepth 100000 in
theorem law_begin {p : Program} {l : Launch} {e : Env} {s : State} {m : MethodId} {below : List Frame} {meth : Method} {c : Code} {b L : Nat} {xs : Nat → Int32} {D : va_G} {cA cL : Nat} {ad am : Nat → Nat} {ob : Nat} {sa : Nat → Nat} (C1 : LC l p s m meth c b L xs D cA cL ad am ob sa) (hL : L ≤ 1536) {M N : Mem} {f : Nat → Int64} {H : Heap} {locs : List Loc} {ls : Array Slot} (i j : Nat) (hi : i + 3 ≤ L) (hj : j < 512) (hI : Inv M N) (hW : LW D cA cL ad am ob M N f H) (hS : va_S (A0 s) s.heap H locs) (hl : lv_has ls 7 [(0, .ref b), (1, .ref (ad 8)), (2, .ref (am 0)), (3, .ref ob), (4, .int (nI i))])
    (hend : ∀ (M N : Mem) (f : Nat → Int64) (H : Heap) (locs : List Loc) (ls : Array Slot), Inv M N → LW D cA cL ad am ob M N f H → va_S (A0 s) s.heap H locs → lv_has ls 7 [(0, .ref b), (1, .ref (ad 8)), (2, .ref (am 0)), (3, .ref ob), (4, .int (nI i))] → W p l e room_1 s m #[Value.ref b] below meth c H locs (19 + 4 * (j + 1)) (263275 + 24 * (j + 1)) (lw_Z below #[Value.ref b] s) (F0 m 1190 ls [])) : W p l e room_1 s m #[Value.ref b] below meth c H locs (19 + 4 * j) (263275 + 24 * j) (lw_Z below #[Value.ref b] s) (F0 m 140 ls []) := by
  obtain ⟨C0, hst, hK, hKL, hDD, hT, hN⟩ := C1
  obtain ⟨hx, hb, hr0, hml, hown, hts0, hX, hbl, hlocks, hgv⟩ := C0
  have hts : ∀ w ∈ wsL_law, w.before #[Value.ref b] s = true := fun w h => hts0 w (wsL_law_in w h)
  have S5 : CallFix p m c code 7 s #[Value.ref b] wsL_law RL := ⟨hx, hb, hml, hown, hts⟩
  have hbA : ¬ A0 s b := Nat.not_le.mpr hbl
  obtain ⟨p1, hp1⟩ : ∃ z, xs ((nI i + 1).toNatClampNeg) = z := ⟨_, rfl⟩
  have hv1 : vp_in (nI i + 1) L := by rw [show nI i + 1 = nI (i + 1) from nI_add i 1]; exact vp_in_nI (by omega) (by omega)
  obtain ⟨r, q, hf, hq, hr, hthr, hval, hI2⟩ := sim_begin hI p1
  refine lv_aload_n hx hb dL_law_140 rfl (lv_at hl 1 rfl) ?_
  refine lv_aload_n hx hb dL_law_141 rfl (lv_at hl 0 rfl) ?_
  refine lv_iload hx hb dL_law_142 (lv_at hl 4 rfl) ?_
  refine lv_iconst (v := 1) hx hb dL_law_144 (by decide) ?_
  refine lv_iadd hx hb dL_law_145 ?_
  refine va_sld hx hb hX hbl hbA hS hv1 dL_law_146 ?_
  refine l_top hp1 ?_
  refine lv_aload_n hx hb dL_law_147 rfl (lv_at hl 3 rfl) ?_
  refine cLH S5 hK hKL hDD hT hN hW hS (As := [.ref (ad 8), .int p1, .ref ob]) (kL_begin l D cA cL ad ob sa hst p1 _ _ r hf hr) (vx_cwSW 3 hts gL_law_L_begin rfl rfl rfl (by decide +kernel) ⟨(Nat.le_of_ble_eq_true rfl), (Nat.le_of_ble_eq_true rfl)⟩) rfl hl.1 (st0 := _) (rest := []) rfl (Nat.le_of_ble_eq_true rfl) dL_law_148 ⟨(by show _ ≤ room_1.cells; have := rC; omega), (by show _ ≤ room_1.slots; have := rS; omega)⟩ (fun H locs f hg hW hS => ?_)
  refine lv_istore (lv' := [(5, .int (hcd 1 r)), (0, .ref b), (1, .ref (ad 8)), (2, .ref (am 0)), (3, .ref ob), (4, .int (nI i))]) hx hb dL_law_151 hl (by decide) rfl (fun ls hl => ?_)
  refine lv_aload_n hx hb dL_law_153 rfl (lv_at hl 3 rfl) ?_
  refine lv_aload_n hx hb dL_law_154 rfl (lv_at hl 1 rfl) ?_
  refine lv_iload hx hb dL_law_155 (lv_at hl 5 rfl) ?_
  refine lv_iconst (v := 1) hx hb dL_law_157 (by decide) ?_
  refine lv_iadd hx hb dL_law_158 ?_
  refine va_sld hx hb hX hbl hbA hS hv1 dL_law_159 ?_
  refine l_top hp1 ?_
  refine cLM S5 hK hDD hW hS (As := [.int p1]) (kX6_begin l D cA am p1 _ q hq) (cwV 1 hts gL_law_X6_begin rfl rfl rfl (by decide +kernel) ⟨(Nat.le_of_ble_eq_true rfl), (Nat.le_of_ble_eq_true rfl)⟩) rfl hl.1 (st0 := _) (rest := []) rfl (Nat.le_of_ble_eq_true rfl) dL_law_160 ⟨(by show _ ≤ room_1.cells; have := rC; omega), (by show _ ≤ room_1.slots; have := rS; omega)⟩ (fun H locs hW hS => ?_)
  refine lv_istore (lv' := [(6, .int q.1), (5, .int (hcd 1 r)), (0, .ref b), (1, .ref (ad 8)), (2, .ref (am 0)), (3, .ref ob), (4, .int (nI i))]) hx hb dL_law_163 hl (by decide) rfl (fun ls hl => ?_)
  refine lv_aload_n hx hb dL_law_165 rfl (lv_at hl 4 rfl) ?_
  refine cVM S5 hK hW.2.1 0 rfl rfl (As := []) (kX6_thrown l D cA am _) (cwV 0 hts gL_law_X6_thrown rfl rfl rfl (by decide +kernel) ⟨(Nat.le_of_ble_eq_true rfl), (Nat.le_of_ble_eq_true rfl)⟩) rfl hl.1 (st0 := _) (rest := []) rfl (Nat.le_of_ble_eq_true rfl) dL_law_166 ⟨(by show _ ≤ room_1.cells; have := rC; omega), (by show _ ≤ room_1.slots; have := rS; omega)⟩ ?_
  refine l_top hthr ?_
  refine lv_iload hx hb dL_law_169 (lv_at hl 1 rfl) ?_
  refine lv_icmp_eq (tgt := 176) hx hb dL_law_171 (by decide) (fun _ => ?_) (fun c9 => absurd rfl c9)
  refine lv_iload hx hb dL_law_176 (lv_at hl 1 rfl) ?_
  refine lv_if_ne (tgt := 193) hx hb dL_law_178 (by decide) (fun c5 => ?_) (fun c5 => ?_)
  · refine lv_goto (tgt := 1190) hx hb dL_law_193 (by decide) ?_
    refine W.widen (k := 19 + 4 * (j + 1)) (n := 263275 + 24 * (j + 1)) (by omega) (by omega) ?_
    exact hend _ _ _ _ _ _ hI2 hW hS (lv_sub hl [2, 3, 4, 5, 6] rfl)
  · have h0 := hcd0 c5
    refine lv_aload_n hx hb dL_law_181 rfl (lv_at hl 5 rfl) ?_
    refine lv_iconst (v := 0) hx hb dL_law_182 (by decide) ?_
    refine va_lald (tys := [(cL, .long)]) hx hb hKL hW.2.2 0 0 rfl rfl (vin_in (by decide)) dL_law_183 ?_
    refine l_topL (v := r.2.1.toInt64) (hg h0) ?_
    refine lv_iload hx hb dL_law_184 (lv_at hl 0 rfl) ?_
    refine lv_i2l (v := q.1.toInt64) hx hb dL_law_186 rfl ?_
    refine W.lcmp hx hb dL_law_187 ?_
    refine l_top (v := 0) (by rw [hval h0]; exact lg_cmp_self _) ?_
    refine lv_if_eq (tgt := 193) hx hb dL_law_188 (by decide) (fun _ => ?_) (fun c9 => absurd rfl c9)
    refine lv_goto (tgt := 1190) hx hb dL_law_193 (by decide) ?_
    refine W.widen (k := 19 + 4 * (j + 1)) (n := 263275 + 24 * (j + 1)) (by omega) (by omega) ?_
    exact hend _ _ _ _ _ _ hI2 hW hS (lv_sub hl [2, 3, 4, 5, 6] rfl)
set_option maxHeartbeats 4000000 in
set_option maxRecDepth 100000 in
theorem law_give {p : Program} {l : Launch} {e : Env} {s : State} {m : MethodId} {below : List Frame} {meth : Method} {c : Code} {b L : Nat} {xs : Nat → Int32} {D : va_G} {cA cL : Nat} {ad am : Nat → Nat} {ob : Nat} {sa : Nat → Nat} (C1 : LC l p s m meth c b L xs D cA cL ad am ob sa) (hL : L ≤ 1536) {M N : Mem} {f : Nat → Int64} {H : Heap} {locs : List Loc} {ls : Array Slot} (i j : Nat) (hi : i + 3 ≤ L) (hj : j < 512) (hI : Inv M N) (hW : LW D cA cL ad am ob M N f H) (hS : va_S (A0 s) s.heap H locs) (hl : lv_has ls 7 [(0, .ref b), (1, .ref (ad 8)), (2, .ref (am 0)), (3, .ref ob), (4, .int (nI i))])
    (hend : ∀ (M N : Mem) (f : Nat → Int64) (H : Heap) (locs : List Loc) (ls : Array Slot), Inv M N → LW D cA cL ad am ob M N f H → va_S (A0 s) s.heap H locs → lv_has ls 7 [(0, .ref b), (1, .ref (ad 8)), (2, .ref (am 0)), (3, .ref ob), (4, .int (nI i))] → W p l e room_1 s m #[Value.ref b] below meth c H locs (19 + 4 * (j + 1)) (263275 + 24 * (j + 1)) (lw_Z below #[Value.ref b] s) (F0 m 1190 ls [])) : W p l e room_1 s m #[Value.ref b] below meth c H locs (19 + 4 * j) (263275 + 24 * j) (lw_Z below #[Value.ref b] s) (F0 m 196 ls []) := by
  obtain ⟨C0, hst, hK, hKL, hDD, hT, hN⟩ := C1
  obtain ⟨hx, hb, hr0, hml, hown, hts0, hX, hbl, hlocks, hgv⟩ := C0
  have hts : ∀ w ∈ wsL_law, w.before #[Value.ref b] s = true := fun w h => hts0 w (wsL_law_in w h)
  have S5 : CallFix p m c code 7 s #[Value.ref b] wsL_law RL := ⟨hx, hb, hml, hown, hts⟩
  have hbA : ¬ A0 s b := Nat.not_le.mpr hbl
  obtain ⟨p1, hp1⟩ : ∃ z, xs ((nI i + 1).toNatClampNeg) = z := ⟨_, rfl⟩
  have hv1 : vp_in (nI i + 1) L := by rw [show nI i + 1 = nI (i + 1) from nI_add i 1]; exact vp_in_nI (by omega) (by omega)
  obtain ⟨p2, hp2⟩ : ∃ z, xs ((nI i + 2).toNatClampNeg) = z := ⟨_, rfl⟩
  have hv2 : vp_in (nI i + 2) L := by rw [show nI i + 2 = nI (i + 2) from nI_add i 2]; exact vp_in_nI (by omega) (by omega)
  obtain ⟨r, q, hf, hq, hr, hthr, hval, hI2⟩ := sim_give hI p1 p2
  refine lv_aload_n hx hb dL_law_196 rfl (lv_at hl 1 rfl) ?_
  refine lv_aload_n hx hb dL_law_197 rfl (lv_at hl 0 rfl) ?_
  refine lv_iload hx hb dL_law_198 (lv_at hl 4 rfl) ?_
  refine lv_iconst (v := 1) hx hb dL_law_200 (by decide) ?_
  refine lv_iadd hx hb dL_law_201 ?_
  refine va_sld hx hb hX hbl hbA hS hv1 dL_law_202 ?_
  refine l_top hp1 ?_
  refine lv_aload_n hx hb dL_law_203 rfl (lv_at hl 0 rfl) ?_
  refine lv_iload hx hb dL_law_204 (lv_at hl 4 rfl) ?_
  refine lv_iconst (v := 2) hx hb dL_law_206 (by decide) ?_
  refine lv_iadd hx hb dL_law_207 ?_
  refine va_sld hx hb hX hbl hbA hS hv2 dL_law_208 ?_
  refine l_top hp2 ?_
  refine lv_aload_n hx hb dL_law_209 rfl (lv_at hl 3 rfl) ?_
  refine cLH S5 hK hKL hDD hT hN hW hS (As := [.ref (ad 8), .int p1, .int p2, .ref ob]) (kL_give l D cA cL ad ob sa hst p1 p2 _ _ r hf hr) (vx_cwSW 4 hts gL_law_L_give rfl rfl rfl (by decide +kernel) ⟨(Nat.le_of_ble_eq_true rfl), (Nat.le_of_ble_eq_true rfl)⟩) rfl hl.1 (st0 := _) (rest := []) rfl (Nat.le_of_ble_eq_true rfl) dL_law_210 ⟨(by show _ ≤ room_1.cells; have := rC; omega), (by show _ ≤ room_1.slots; have := rS; omega)⟩ (fun H locs f hg hW hS => ?_)
  refine lv_istore (lv' := [(5, .int (hcd 1 r)), (0, .ref b), (1, .ref (ad 8)), (2, .ref (am 0)), (3, .ref ob), (4, .int (nI i))]) hx hb dL_law_213 hl (by decide) rfl (fun ls hl => ?_)
  refine lv_aload_n hx hb dL_law_215 rfl (lv_at hl 3 rfl) ?_
  refine lv_aload_n hx hb dL_law_216 rfl (lv_at hl 1 rfl) ?_
  refine lv_iload hx hb dL_law_217 (lv_at hl 5 rfl) ?_
  refine lv_iconst (v := 1) hx hb dL_law_219 (by decide) ?_
  refine lv_iadd hx hb dL_law_220 ?_
  refine va_sld hx hb hX hbl hbA hS hv1 dL_law_221 ?_
  refine l_top hp1 ?_
  refine lv_aload_n hx hb dL_law_222 rfl (lv_at hl 1 rfl) ?_
  refine lv_iload hx hb dL_law_223 (lv_at hl 5 rfl) ?_
  refine lv_iconst (v := 2) hx hb dL_law_225 (by decide) ?_
  refine lv_iadd hx hb dL_law_226 ?_
  refine va_sld hx hb hX hbl hbA hS hv2 dL_law_227 ?_
  refine l_top hp2 ?_
  refine cLM S5 hK hDD hW hS (As := [.int p1, .int p2]) (kX6_give l D cA am p1 p2 _ q hq) (cwV 2 hts gL_law_X6_give rfl rfl rfl (by decide +kernel) ⟨(Nat.le_of_ble_eq_true rfl), (Nat.le_of_ble_eq_true rfl)⟩) rfl hl.1 (st0 := _) (rest := []) rfl (Nat.le_of_ble_eq_true rfl) dL_law_228 ⟨(by show _ ≤ room_1.cells; have := rC; omega), (by show _ ≤ room_1.slots; have := rS; omega)⟩ (fun H locs hW hS => ?_)
  refine lv_istore (lv' := [(6, .int q.1), (5, .int (hcd 1 r)), (0, .ref b), (1, .ref (ad 8)), (2, .ref (am 0)), (3, .ref ob), (4, .int (nI i))]) hx hb dL_law_231 hl (by decide) rfl (fun ls hl => ?_)
  refine lv_aload_n hx hb dL_law_233 rfl (lv_at hl 4 rfl) ?_
  refine cVM S5 hK hW.2.1 0 rfl rfl (As := []) (kX6_thrown l D cA am _) (cwV 0 hts gL_law_X6_thrown rfl rfl rfl (by decide +kernel) ⟨(Nat.le_of_ble_eq_true rfl), (Nat.le_of_ble_eq_true rfl)⟩) rfl hl.1 (st0 := _) (rest := []) rfl (Nat.le_of_ble_eq_true rfl) dL_law_234 ⟨(by show _ ≤ room_1.cells; have := rC; omega), (by show _ ≤ room_1.slots; have := rS; omega)⟩ ?_
  refine l_top hthr ?_
  refine lv_iload hx hb dL_law_237 (lv_at hl 1 rfl) ?_
  refine lv_icmp_eq (tgt := 244) hx hb dL_law_239 (by decide) (fun _ => ?_) (fun c9 => absurd rfl c9)
  refine lv_iload hx hb dL_law_244 (lv_at hl 1 rfl) ?_
  refine lv_if_ne (tgt := 261) hx hb dL_law_246 (by decide) (fun c5 => ?_) (fun c5 => ?_)
  · refine lv_goto (tgt := 1190) hx hb dL_law_261 (by decide) ?_
    refine W.widen (k := 19 + 4 * (j + 1)) (n := 263275 + 24 * (j + 1)) (by omega) (by omega) ?_
    exact hend _ _ _ _ _ _ hI2 hW hS (lv_sub hl [2, 3, 4, 5, 6] rfl)
  · have h0 := hcd0 c5
    refine lv_aload_n hx hb dL_law_249 rfl (lv_at hl 5 rfl) ?_
    refine lv_iconst (v := 0) hx hb dL_law_250 (by decide) ?_
    refine va_lald (tys := [(cL, .long)]) hx hb hKL hW.2.2 0 0 rfl rfl (vin_in (by decide)) dL_law_251 ?_
    refine l_topL (v := r.2.1.toInt64) (hg h0) ?_
    refine lv_iload hx hb dL_law_252 (lv_at hl 0 rfl) ?_
    refine lv_i2l (v := q.1.toInt64) hx hb dL_law_254 rfl ?_
    refine W.lcmp hx hb dL_law_255 ?_
    refine l_top (v := 0) (by rw [hval h0]; exact lg_cmp_self _) ?_
    refine lv_if_eq (tgt := 261) hx hb dL_law_256 (by decide) (fun _ => ?_) (fun c9 => absurd rfl c9)
    refine lv_goto (tgt := 1190) hx hb dL_law_261 (by decide) ?_
    refine W.widen (k := 19 + 4 * (j + 1)) (n := 263275 + 24 * (j + 1)) (by omega) (by omega) ?_
    exact hend _ _ _ _ _ _ hI2 hW hS (lv_sub hl [2, 3, 4, 5, 6] rfl)
set_option maxHeartbeats 4000000 in
set_option maxRecDepth 100000 in
theorem law_start {p : Program} {l : Launch} {e : Env} {s : State} {m : MethodId} {below : List Frame} {meth : Method} {c : Code} {b L : Nat} {xs : Nat → Int32} {D : va_G} {cA cL : Nat} {ad am : Nat → Nat} {ob : Nat} {sa : Nat → Nat} (C1 : LC l p s m meth c b L xs D cA cL ad am ob sa) (hL : L ≤ 1536) {M N : Mem} {f : Nat → Int64} {H : Heap} {locs : List Loc} {ls : Array Slot} (i j : Nat) (hi : i + 3 ≤ L) (hj : j < 512) (hI : Inv M N) (hW : LW D cA cL ad am ob M N f H) (hS : va_S (A0 s) s.heap H locs) (hl : lv_has ls 7 [(0, .ref b), (1, .ref (ad 8)), (2, .ref (am 0)), (3, .ref ob), (4, .int (nI i))])
    (hend : ∀ (M N : Mem) (f : Nat → Int64) (H : Heap) (locs : List Loc) (ls : Array Slot), Inv M N → LW D cA cL ad am ob M N f H → va_S (A0 s) s.heap H locs → lv_has ls 7 [(0, .ref b), (1, .ref (ad 8)), (2, .ref (am 0)), (3, .ref ob), (4, .int (nI i))] → W p l e room_1 s m #[Value.ref b] below meth c H locs (19 + 4 * (j + 1)) (263275 + 24 * (j + 1)) (lw_Z below #[Value.ref b] s) (F0 m 1190 ls [])) : W p l e room_1 s m #[Value.ref b] below meth c H locs (19 + 4 * j) (263275 + 24 * j) (lw_Z below #[Value.ref b] s) (F0 m 264 ls []) := by
  obtain ⟨C0, hst, hK, hKL, hDD, hT, hN⟩ := C1
  obtain ⟨hx, hb, hr0, hml, hown, hts0, hX, hbl, hlocks, hgv⟩ := C0
  have hts : ∀ w ∈ wsL_law, w.before #[Value.ref b] s = true := fun w h => hts0 w (wsL_law_in w h)
  have S5 : CallFix p m c code 7 s #[Value.ref b] wsL_law RL := ⟨hx, hb, hml, hown, hts⟩
  have hbA : ¬ A0 s b := Nat.not_le.mpr hbl
  obtain ⟨p1, hp1⟩ : ∃ z, xs ((nI i + 1).toNatClampNeg) = z := ⟨_, rfl⟩
  have hv1 : vp_in (nI i + 1) L := by rw [show nI i + 1 = nI (i + 1) from nI_add i 1]; exact vp_in_nI (by omega) (by omega)
  obtain ⟨r, q, hf, hq, hr, hthr, hval, hI2⟩ := sim_start hI p1
  refine lv_aload_n hx hb dL_law_264 rfl (lv_at hl 1 rfl) ?_
  refine lv_aload_n hx hb dL_law_265 rfl (lv_at hl 0 rfl) ?_
  refine lv_iload hx hb dL_law_266 (lv_at hl 4 rfl) ?_
  refine lv_iconst (v := 1) hx hb dL_law_268 (by decide) ?_
  refine lv_iadd hx hb dL_law_269 ?_
  refine va_sld hx hb hX hbl hbA hS hv1 dL_law_270 ?_
  refine l_top hp1 ?_
  refine lv_aload_n hx hb dL_law_271 rfl (lv_at hl 3 rfl) ?_
  refine cLH S5 hK hKL hDD hT hN hW hS (As := [.ref (ad 8), .int p1, .ref ob]) (kL_start l D cA cL ad ob sa hst p1 _ _ r hf hr) (vx_cwSW 3 hts gL_law_L_start rfl rfl rfl (by decide +kernel) ⟨(Nat.le_of_ble_eq_true rfl), (Nat.le_of_ble_eq_true rfl)⟩) rfl hl.1 (st0 := _) (rest := []) rfl (Nat.le_of_ble_eq_true rfl) dL_law_272 ⟨(by show _ ≤ room_1.cells; have := rC; omega), (by show _ ≤ room_1.slots; have := rS; omega)⟩ (fun H locs f hg hW hS => ?_)
  refine lv_istore (lv' := [(5, .int (hcd 1 r)), (0, .ref b), (1, .ref (ad 8)), (2, .ref (am 0)), (3, .ref ob), (4, .int (nI i))]) hx hb dL_law_275 hl (by decide) rfl (fun ls hl => ?_)
  refine lv_aload_n hx hb dL_law_277 rfl (lv_at hl 3 rfl) ?_
  refine lv_aload_n hx hb dL_law_278 rfl (lv_at hl 1 rfl) ?_
  refine lv_iload hx hb dL_law_279 (lv_at hl 5 rfl) ?_
  refine lv_iconst (v := 1) hx hb dL_law_281 (by decide) ?_
  refine lv_iadd hx hb dL_law_282 ?_
  refine va_sld hx hb hX hbl hbA hS hv1 dL_law_283 ?_
  refine l_top hp1 ?_
  refine cLM S5 hK hDD hW hS (As := [.int p1]) (kX6_start l D cA am p1 _ q hq) (cwV 1 hts gL_law_X6_start rfl rfl rfl (by decide +kernel) ⟨(Nat.le_of_ble_eq_true rfl), (Nat.le_of_ble_eq_true rfl)⟩) rfl hl.1 (st0 := _) (rest := []) rfl (Nat.le_of_ble_eq_true rfl) dL_law_284 ⟨(by show _ ≤ room_1.cells; have := rC; omega), (by show _ ≤ room_1.slots; have := rS; omega)⟩ (fun H locs hW hS => ?_)
  refine lv_istore (lv' := [(6, .int q.1), (5, .int (hcd 1 r)), (0, .ref b), (1, .ref (ad 8)), (2, .ref (am 0)), (3, .ref ob), (4, .int (nI i))]) hx hb dL_law_287 hl (by decide) rfl (fun ls hl => ?_)
  refine lv_aload_n hx hb dL_law_289 rfl (lv_at hl 4 rfl) ?_
  refine cVM S5 hK hW.2.1 0 rfl rfl (As := []) (kX6_thrown l D cA am _) (cwV 0 hts gL_law_X6_thrown rfl rfl rfl (by decide +kernel) ⟨(Nat.le_of_ble_eq_true rfl), (Nat.le_of_ble_eq_true rfl)⟩) rfl hl.1 (st0 := _) (rest := []) rfl (Nat.le_of_ble_eq_true rfl) dL_law_290 ⟨(by show _ ≤ room_1.cells; have := rC; omega), (by show _ ≤ room_1.slots; have := rS; omega)⟩ ?_
  refine l_top hthr ?_
  refine lv_iload hx hb dL_law_293 (lv_at hl 1 rfl) ?_
  refine lv_icmp_eq (tgt := 300) hx hb dL_law_295 (by decide) (fun _ => ?_) (fun c9 => absurd rfl c9)
  refine lv_iload hx hb dL_law_300 (lv_at hl 1 rfl) ?_
  refine lv_if_ne (tgt := 317) hx hb dL_law_302 (by decide) (fun c5 => ?_) (fun c5 => ?_)
  · refine lv_goto (tgt := 1190) hx hb dL_law_317 (by decide) ?_
    refine W.widen (k := 19 + 4 * (j + 1)) (n := 263275 + 24 * (j + 1)) (by omega) (by omega) ?_
    exact hend _ _ _ _ _ _ hI2 hW hS (lv_sub hl [2, 3, 4, 5, 6] rfl)
  · have h0 := hcd0 c5
    refine lv_aload_n hx hb dL_law_305 rfl (lv_at hl 5 rfl) ?_
    refine lv_iconst (v := 0) hx hb dL_law_306 (by decide) ?_
    refine va_lald (tys := [(cL, .long)]) hx hb hKL hW.2.2 0 0 rfl rfl (vin_in (by decide)) dL_law_307 ?_
    refine l_topL (v := r.2.1.toInt64) (hg h0) ?_
    refine lv_iload hx hb dL_law_308 (lv_at hl 0 rfl) ?_
    refine lv_i2l (v := q.1.toInt64) hx hb dL_law_310 rfl ?_
    refine W.lcmp hx hb dL_law_311 ?_
    refine l_top (v := 0) (by rw [hval h0]; exact lg_cmp_self _) ?_
    refine lv_if_eq (tgt := 317) hx hb dL_law_312 (by decide) (fun _ => ?_) (fun c9 => absurd rfl c9)
    refine lv_goto (tgt := 1190) hx hb dL_law_317 (by decide) ?_
    refine W.widen (k := 19 + 4 * (j + 1)) (n := 263275 + 24 * (j + 1)) (by omega) (by omega) ?_
    exact hend _ _ _ _ _ _ hI2 hW hS (lv_sub hl [2, 3, 4, 5, 6] rfl)
set_option maxHeartbeats 4000000 in
set_option maxRecDepth 100000 in
theorem law_isStarted {p : Program} {l : Launch} {e : Env} {s : State} {m : MethodId} {below : List Frame} {meth : Method} {c : Code} {b L : Nat} {xs : Nat → Int32} {D : va_G} {cA cL : Nat} {ad am : Nat → Nat} {ob : Nat} {sa : Nat → Nat} (C1 : LC l p s m meth c b L xs D cA cL ad am ob sa) (hL : L ≤ 1536) {M N : Mem} {f : Nat → Int64} {H : Heap} {locs : List Loc} {ls : Array Slot} (i j : Nat) (hi : i + 3 ≤ L) (hj : j < 512) (hI : Inv M N) (hW : LW D cA cL ad am ob M N f H) (hS : va_S (A0 s) s.heap H locs) (hl : lv_has ls 7 [(0, .ref b), (1, .ref (ad 8)), (2, .ref (am 0)), (3, .ref ob), (4, .int (nI i))])
    (hend : ∀ (M N : Mem) (f : Nat → Int64) (H : Heap) (locs : List Loc) (ls : Array Slot), Inv M N → LW D cA cL ad am ob M N f H → va_S (A0 s) s.heap H locs → lv_has ls 7 [(0, .ref b), (1, .ref (ad 8)), (2, .ref (am 0)), (3, .ref ob), (4, .int (nI i))] → W p l e room_1 s m #[Value.ref b] below meth c H locs (19 + 4 * (j + 1)) (263275 + 24 * (j + 1)) (lw_Z below #[Value.ref b] s) (F0 m 1190 ls [])) : W p l e room_1 s m #[Value.ref b] below meth c H locs (19 + 4 * j) (263275 + 24 * j) (lw_Z below #[Value.ref b] s) (F0 m 320 ls []) := by
  obtain ⟨C0, hst, hK, hKL, hDD, hT, hN⟩ := C1
  obtain ⟨hx, hb, hr0, hml, hown, hts0, hX, hbl, hlocks, hgv⟩ := C0
  have hts : ∀ w ∈ wsL_law, w.before #[Value.ref b] s = true := fun w h => hts0 w (wsL_law_in w h)
  have S5 : CallFix p m c code 7 s #[Value.ref b] wsL_law RL := ⟨hx, hb, hml, hown, hts⟩
  have hbA : ¬ A0 s b := Nat.not_le.mpr hbl
  obtain ⟨v, q, hf, hq, hval, hI2⟩ := sim_isStarted hI
  refine lv_aload_n hx hb dL_law_320 rfl (lv_at hl 1 rfl) ?_
  refine cVX S5 hK hW.1 8 rfl rfl (As := []) (kX5_isStarted l D cA ad _ v hf) (cwV 0 hts gL_law_X5_isStarted rfl rfl rfl (by decide +kernel) ⟨(Nat.le_of_ble_eq_true rfl), (Nat.le_of_ble_eq_true rfl)⟩) rfl hl.1 (st0 := _) (rest := []) rfl (Nat.le_of_ble_eq_true rfl) dL_law_321 ⟨(by show _ ≤ room_1.cells; have := rC; omega), (by show _ ≤ room_1.slots; have := rS; omega)⟩ ?_
  refine lv_aload_n hx hb dL_law_324 rfl (lv_at hl 2 rfl) ?_
  refine cLM S5 hK hDD hW hS (As := []) (kX6_isStarted l D cA am _ q hq) (cwV 0 hts gL_law_X6_isStarted rfl rfl rfl (by decide +kernel) ⟨(Nat.le_of_ble_eq_true rfl), (Nat.le_of_ble_eq_true rfl)⟩) rfl hl.1 (st0 := _) (rest := [.int v]) rfl (Nat.le_of_ble_eq_true rfl) dL_law_325 ⟨(by show _ ≤ room_1.cells; have := rC; omega), (by show _ ≤ room_1.slots; have := rS; omega)⟩ (fun H locs hW hS => ?_)
  refine lv_icmp_eq (tgt := 1190) hx hb dL_law_328 (by decide) (fun _ => ?_) (fun c9 => absurd hval c9)
  refine W.widen (k := 19 + 4 * (j + 1)) (n := 263275 + 24 * (j + 1)) (by omega) (by omega) ?_
  exact hend _ _ _ _ _ _ hI2 hW hS (lv_sub hl [0, 1, 2, 3, 4] rfl)
set_option maxHeartbeats 4000000 in
set_option maxRecDepth 100000 in
theorem law_play {p : Program} {l : Launch} {e : Env} {s : State} {m : MethodId} {below : List Frame} {meth : Method} {c : Code} {b L : Nat} {xs : Nat → Int32} {D : va_G} {cA cL : Nat} {ad am : Nat → Nat} {ob : Nat} {sa : Nat → Nat} (C1 : LC l p s m meth c b L xs D cA cL ad am ob sa) (hL : L ≤ 1536) {M N : Mem} {f : Nat → Int64} {H : Heap} {locs : List Loc} {ls : Array Slot} (i j : Nat) (hi : i + 3 ≤ L) (hj : j < 512) (hI : Inv M N) (hW : LW D cA cL ad am ob M N f H) (hS : va_S (A0 s) s.heap H locs) (hl : lv_has ls 7 [(0, .ref b), (1, .ref (ad 8)), (2, .ref (am 0)), (3, .ref ob), (4, .int (nI i))])
    (hend : ∀ (M N : Mem) (f : Nat → Int64) (H : Heap) (locs : List Loc) (ls : Array Slot), Inv M N → LW D cA cL ad am ob M N f H → va_S (A0 s) s.heap H locs → lv_has ls 7 [(0, .ref b), (1, .ref (ad 8)), (2, .ref (am 0)), (3, .ref ob), (4, .int (nI i))] → W p l e room_1 s m #[Value.ref b] below meth c H locs (19 + 4 * (j + 1)) (263275 + 24 * (j + 1)) (lw_Z below #[Value.ref b] s) (F0 m 1190 ls [])) : W p l e room_1 s m #[Value.ref b] below meth c H locs (19 + 4 * j) (263275 + 24 * j) (lw_Z below #[Value.ref b] s) (F0 m 333 ls []) := by
  obtain ⟨C0, hst, hK, hKL, hDD, hT, hN⟩ := C1
  obtain ⟨hx, hb, hr0, hml, hown, hts0, hX, hbl, hlocks, hgv⟩ := C0
  have hts : ∀ w ∈ wsL_law, w.before #[Value.ref b] s = true := fun w h => hts0 w (wsL_law_in w h)
  have S5 : CallFix p m c code 7 s #[Value.ref b] wsL_law RL := ⟨hx, hb, hml, hown, hts⟩
  have hbA : ¬ A0 s b := Nat.not_le.mpr hbl
  obtain ⟨p1, hp1⟩ : ∃ z, xs ((nI i + 1).toNatClampNeg) = z := ⟨_, rfl⟩
  have hv1 : vp_in (nI i + 1) L := by rw [show nI i + 1 = nI (i + 1) from nI_add i 1]; exact vp_in_nI (by omega) (by omega)
  obtain ⟨r, q, hf, hq, hr, hthr, hval, hI2⟩ := sim_play hI p1
  refine lv_aload_n hx hb dL_law_333 rfl (lv_at hl 1 rfl) ?_
  refine lv_aload_n hx hb dL_law_334 rfl (lv_at hl 0 rfl) ?_
  refine lv_iload hx hb dL_law_335 (lv_at hl 4 rfl) ?_
  refine lv_iconst (v := 1) hx hb dL_law_337 (by decide) ?_
  refine lv_iadd hx hb dL_law_338 ?_
  refine va_sld hx hb hX hbl hbA hS hv1 dL_law_339 ?_
  refine l_top hp1 ?_
  refine lv_aload_n hx hb dL_law_340 rfl (lv_at hl 3 rfl) ?_
  refine cLH S5 hK hKL hDD hT hN hW hS (As := [.ref (ad 8), .int p1, .ref ob]) (kL_play l D cA cL ad ob sa hst p1 _ _ r hf hr) (vx_cwSW 3 hts gL_law_L_play rfl rfl rfl (by decide +kernel) ⟨(Nat.le_of_ble_eq_true rfl), (Nat.le_of_ble_eq_true rfl)⟩) rfl hl.1 (st0 := _) (rest := []) rfl (Nat.le_of_ble_eq_true rfl) dL_law_341 ⟨(by show _ ≤ room_1.cells; have := rC; omega), (by show _ ≤ room_1.slots; have := rS; omega)⟩ (fun H locs f hg hW hS => ?_)
  refine lv_istore (lv' := [(5, .int (hcd 1 r)), (0, .ref b), (1, .ref (ad 8)), (2, .ref (am 0)), (3, .ref ob), (4, .int (nI i))]) hx hb dL_law_344 hl (by decide) rfl (fun ls hl => ?_)
  refine lv_aload_n hx hb dL_law_346 rfl (lv_at hl 3 rfl) ?_
  refine lv_aload_n hx hb dL_law_347 rfl (lv_at hl 1 rfl) ?_
  refine lv_iload hx hb dL_law_348 (lv_at hl 5 rfl) ?_
  refine lv_iconst (v := 1) hx hb dL_law_350 (by decide) ?_
  refine lv_iadd hx hb dL_law_351 ?_
  refine va_sld hx hb hX hbl hbA hS hv1 dL_law_352 ?_
  refine l_top hp1 ?_
  refine cLM S5 hK hDD hW hS (As := [.int p1]) (kX6_play l D cA am p1 _ q hq) (cwV 1 hts gL_law_X6_play rfl rfl rfl (by decide +kernel) ⟨(Nat.le_of_ble_eq_true rfl), (Nat.le_of_ble_eq_true rfl)⟩) rfl hl.1 (st0 := _) (rest := []) rfl (Nat.le_of_ble_eq_true rfl) dL_law_353 ⟨(by show _ ≤ room_1.cells; have := rC; omega), (by show _ ≤ room_1.slots; have := rS; omega)⟩ (fun H locs hW hS => ?_)
  refine lv_istore (lv' := [(6, .int q.1), (5, .int (hcd 1 r)), (0, .ref b), (1, .ref (ad 8)), (2, .ref (am 0)), (3, .ref ob), (4, .int (nI i))]) hx hb dL_law_356 hl (by decide) rfl (fun ls hl => ?_)
  refine lv_aload_n hx hb dL_law_358 rfl (lv_at hl 4 rfl) ?_
  refine cVM S5 hK hW.2.1 0 rfl rfl (As := []) (kX6_thrown l D cA am _) (cwV 0 hts gL_law_X6_thrown rfl rfl rfl (by decide +kernel) ⟨(Nat.le_of_ble_eq_true rfl), (Nat.le_of_ble_eq_true rfl)⟩) rfl hl.1 (st0 := _) (rest := []) rfl (Nat.le_of_ble_eq_true rfl) dL_law_359 ⟨(by show _ ≤ room_1.cells; have := rC; omega), (by show _ ≤ room_1.slots; have := rS; omega)⟩ ?_
  refine l_top hthr ?_
  refine lv_iload hx hb dL_law_362 (lv_at hl 1 rfl) ?_
  refine lv_icmp_eq (tgt := 369) hx hb dL_law_364 (by decide) (fun _ => ?_) (fun c9 => absurd rfl c9)
  refine lv_iload hx hb dL_law_369 (lv_at hl 1 rfl) ?_
  refine lv_if_ne (tgt := 386) hx hb dL_law_371 (by decide) (fun c5 => ?_) (fun c5 => ?_)
  · refine lv_goto (tgt := 1190) hx hb dL_law_386 (by decide) ?_
    refine W.widen (k := 19 + 4 * (j + 1)) (n := 263275 + 24 * (j + 1)) (by omega) (by omega) ?_
    exact hend _ _ _ _ _ _ hI2 hW hS (lv_sub hl [2, 3, 4, 5, 6] rfl)
  · have h0 := hcd0 c5
    refine lv_aload_n hx hb dL_law_374 rfl (lv_at hl 5 rfl) ?_
    refine lv_iconst (v := 0) hx hb dL_law_375 (by decide) ?_
    refine va_lald (tys := [(cL, .long)]) hx hb hKL hW.2.2 0 0 rfl rfl (vin_in (by decide)) dL_law_376 ?_
    refine l_topL (v := r.2.1.toInt64) (hg h0) ?_
    refine lv_iload hx hb dL_law_377 (lv_at hl 0 rfl) ?_
    refine lv_i2l (v := q.1.toInt64) hx hb dL_law_379 rfl ?_
    refine W.lcmp hx hb dL_law_380 ?_
    refine l_top (v := 0) (by rw [hval h0]; exact lg_cmp_self _) ?_
    refine lv_if_eq (tgt := 386) hx hb dL_law_381 (by decide) (fun _ => ?_) (fun c9 => absurd rfl c9)
    refine lv_goto (tgt := 1190) hx hb dL_law_386 (by decide) ?_
    refine W.widen (k := 19 + 4 * (j + 1)) (n := 263275 + 24 * (j + 1)) (by omega) (by omega) ?_
    exact hend _ _ _ _ _ _ hI2 hW hS (lv_sub hl [2, 3, 4, 5, 6] rfl)
set_option maxHeartbeats 4000000 in
set_option maxRecDepth 100000 in
theorem law_takeBack {p : Program} {l : Launch} {e : Env} {s : State} {m : MethodId} {below : List Frame} {meth : Method} {c : Code} {b L : Nat} {xs : Nat → Int32} {D : va_G} {cA cL : Nat} {ad am : Nat → Nat} {ob : Nat} {sa : Nat → Nat} (C1 : LC l p s m meth c b L xs D cA cL ad am ob sa) (hL : L ≤ 1536) {M N : Mem} {f : Nat → Int64} {H : Heap} {locs : List Loc} {ls : Array Slot} (i j : Nat) (hi : i + 3 ≤ L) (hj : j < 512) (hI : Inv M N) (hW : LW D cA cL ad am ob M N f H) (hS : va_S (A0 s) s.heap H locs) (hl : lv_has ls 7 [(0, .ref b), (1, .ref (ad 8)), (2, .ref (am 0)), (3, .ref ob), (4, .int (nI i))])
    (hend : ∀ (M N : Mem) (f : Nat → Int64) (H : Heap) (locs : List Loc) (ls : Array Slot), Inv M N → LW D cA cL ad am ob M N f H → va_S (A0 s) s.heap H locs → lv_has ls 7 [(0, .ref b), (1, .ref (ad 8)), (2, .ref (am 0)), (3, .ref ob), (4, .int (nI i))] → W p l e room_1 s m #[Value.ref b] below meth c H locs (19 + 4 * (j + 1)) (263275 + 24 * (j + 1)) (lw_Z below #[Value.ref b] s) (F0 m 1190 ls [])) : W p l e room_1 s m #[Value.ref b] below meth c H locs (19 + 4 * j) (263275 + 24 * j) (lw_Z below #[Value.ref b] s) (F0 m 389 ls []) := by
  obtain ⟨C0, hst, hK, hKL, hDD, hT, hN⟩ := C1
  obtain ⟨hx, hb, hr0, hml, hown, hts0, hX, hbl, hlocks, hgv⟩ := C0
  have hts : ∀ w ∈ wsL_law, w.before #[Value.ref b] s = true := fun w h => hts0 w (wsL_law_in w h)
  have S5 : CallFix p m c code 7 s #[Value.ref b] wsL_law RL := ⟨hx, hb, hml, hown, hts⟩
  have hbA : ¬ A0 s b := Nat.not_le.mpr hbl
  obtain ⟨r, q, hf, hq, hr, hthr, hval, hI2⟩ := sim_takeBack hI
  refine lv_aload_n hx hb dL_law_389 rfl (lv_at hl 1 rfl) ?_
  refine lv_aload_n hx hb dL_law_390 rfl (lv_at hl 3 rfl) ?_
  refine cLH S5 hK hKL hDD hT hN hW hS (As := [.ref (ad 8), .ref ob]) (kL_takeBack l D cA cL ad ob sa hst _ _ r hf hr) (vx_cwSW 2 hts gL_law_L_takeBack rfl rfl rfl (by decide +kernel) ⟨(Nat.le_of_ble_eq_true rfl), (Nat.le_of_ble_eq_true rfl)⟩) rfl hl.1 (st0 := _) (rest := []) rfl (Nat.le_of_ble_eq_true rfl) dL_law_391 ⟨(by show _ ≤ room_1.cells; have := rC; omega), (by show _ ≤ room_1.slots; have := rS; omega)⟩ (fun H locs f hg hW hS => ?_)
  refine lv_istore (lv' := [(5, .int (hcd 2 r)), (0, .ref b), (1, .ref (ad 8)), (2, .ref (am 0)), (3, .ref ob), (4, .int (nI i))]) hx hb dL_law_394 hl (by decide) rfl (fun ls hl => ?_)
  refine lv_aload_n hx hb dL_law_396 rfl (lv_at hl 3 rfl) ?_
  refine cLM S5 hK hDD hW hS (As := []) (kX6_takeBack l D cA am _ q hq) (cwV 0 hts gL_law_X6_takeBack rfl rfl rfl (by decide +kernel) ⟨(Nat.le_of_ble_eq_true rfl), (Nat.le_of_ble_eq_true rfl)⟩) rfl hl.1 (st0 := _) (rest := []) rfl (Nat.le_of_ble_eq_true rfl) dL_law_397 ⟨(by show _ ≤ room_1.cells; have := rC; omega), (by show _ ≤ room_1.slots; have := rS; omega)⟩ (fun H locs hW hS => ?_)
  refine lv_istore (lv' := [(6, .int q.1), (5, .int (hcd 2 r)), (0, .ref b), (1, .ref (ad 8)), (2, .ref (am 0)), (3, .ref ob), (4, .int (nI i))]) hx hb dL_law_400 hl (by decide) rfl (fun ls hl => ?_)
  refine lv_aload_n hx hb dL_law_402 rfl (lv_at hl 4 rfl) ?_
  refine cVM S5 hK hW.2.1 0 rfl rfl (As := []) (kX6_thrown l D cA am _) (cwV 0 hts gL_law_X6_thrown rfl rfl rfl (by decide +kernel) ⟨(Nat.le_of_ble_eq_true rfl), (Nat.le_of_ble_eq_true rfl)⟩) rfl hl.1 (st0 := _) (rest := []) rfl (Nat.le_of_ble_eq_true rfl) dL_law_403 ⟨(by show _ ≤ room_1.cells; have := rC; omega), (by show _ ≤ room_1.slots; have := rS; omega)⟩ ?_
  refine l_top hthr ?_
  refine lv_iload hx hb dL_law_406 (lv_at hl 1 rfl) ?_
  refine lv_icmp_eq (tgt := 413) hx hb dL_law_408 (by decide) (fun _ => ?_) (fun c9 => absurd rfl c9)
  refine lv_iload hx hb dL_law_413 (lv_at hl 1 rfl) ?_
  refine lv_if_ne (tgt := 430) hx hb dL_law_415 (by decide) (fun c5 => ?_) (fun c5 => ?_)
  · refine lv_goto (tgt := 1190) hx hb dL_law_430 (by decide) ?_
    refine W.widen (k := 19 + 4 * (j + 1)) (n := 263275 + 24 * (j + 1)) (by omega) (by omega) ?_
    exact hend _ _ _ _ _ _ hI2 hW hS (lv_sub hl [2, 3, 4, 5, 6] rfl)
  · have h0 := hcd0 c5
    refine lv_aload_n hx hb dL_law_418 rfl (lv_at hl 5 rfl) ?_
    refine lv_iconst (v := 0) hx hb dL_law_419 (by decide) ?_
    refine va_lald (tys := [(cL, .long)]) hx hb hKL hW.2.2 0 0 rfl rfl (vin_in (by decide)) dL_law_420 ?_
    refine l_topL (v := r.2.1.toInt64) (hg h0) ?_
    refine lv_iload hx hb dL_law_421 (lv_at hl 0 rfl) ?_
    refine lv_i2l (v := q.1.toInt64) hx hb dL_law_423 rfl ?_
    refine W.lcmp hx hb dL_law_424 ?_
    refine l_top (v := 0) (by rw [hval h0]; exact lg_cmp_self _) ?_
    refine lv_if_eq (tgt := 430) hx hb dL_law_425 (by decide) (fun _ => ?_) (fun c9 => absurd rfl c9)
    refine lv_goto (tgt := 1190) hx hb dL_law_430 (by decide) ?_
    refine W.widen (k := 19 + 4 * (j + 1)) (n := 263275 + 24 * (j + 1)) (by omega) (by omega) ?_
    exact hend _ _ _ _ _ _ hI2 hW hS (lv_sub hl [2, 3, 4, 5, 6] rfl)
set_option maxHeartbeats 4000000 in
set_option maxRecDepth 100000 in
theorem law_canPlay {p : Program} {l : Launch} {e : Env} {s : State} {m : MethodId} {below : List Frame} {meth : Method} {c : Code} {b L : Nat} {xs : Nat → Int32} {D : va_G} {cA cL : Nat} {ad am : Nat → Nat} {ob : Nat} {sa : Nat → Nat} (C1 : LC l p s m meth c b L xs D cA cL ad am ob sa) (hL : L ≤ 1536) {M N : Mem} {f : Nat → Int64} {H : Heap} {locs : List Loc} {ls : Array Slot} (i j : Nat) (hi : i + 3 ≤ L) (hj : j < 512) (hI : Inv M N) (hW : LW D cA cL ad am ob M N f H) (hS : va_S (A0 s) s.heap H locs) (hl : lv_has ls 7 [(0, .ref b), (1, .ref (ad 8)), (2, .ref (am 0)), (3, .ref ob), (4, .int (nI i))])
    (hend : ∀ (M N : Mem) (f : Nat → Int64) (H : Heap) (locs : List Loc) (ls : Array Slot), Inv M N → LW D cA cL ad am ob M N f H → va_S (A0 s) s.heap H locs → lv_has ls 7 [(0, .ref b), (1, .ref (ad 8)), (2, .ref (am 0)), (3, .ref ob), (4, .int (nI i))] → W p l e room_1 s m #[Value.ref b] below meth c H locs (19 + 4 * (j + 1)) (263275 + 24 * (j + 1)) (lw_Z below #[Value.ref b] s) (F0 m 1190 ls [])) : W p l e room_1 s m #[Value.ref b] below meth c H locs (19 + 4 * j) (263275 + 24 * j) (lw_Z below #[Value.ref b] s) (F0 m 433 ls []) := by
  obtain ⟨C0, hst, hK, hKL, hDD, hT, hN⟩ := C1
  obtain ⟨hx, hb, hr0, hml, hown, hts0, hX, hbl, hlocks, hgv⟩ := C0
  have hts : ∀ w ∈ wsL_law, w.before #[Value.ref b] s = true := fun w h => hts0 w (wsL_law_in w h)
  have S5 : CallFix p m c code 7 s #[Value.ref b] wsL_law RL := ⟨hx, hb, hml, hown, hts⟩
  have hbA : ¬ A0 s b := Nat.not_le.mpr hbl
  obtain ⟨p1, hp1⟩ : ∃ z, xs ((nI i + 1).toNatClampNeg) = z := ⟨_, rfl⟩
  have hv1 : vp_in (nI i + 1) L := by rw [show nI i + 1 = nI (i + 1) from nI_add i 1]; exact vp_in_nI (by omega) (by omega)
  obtain ⟨r, q, hf, hq, hr, hthr, hval, hI2, hvb⟩ := sim_canPlay hI p1
  refine lv_aload_n hx hb dL_law_433 rfl (lv_at hl 1 rfl) ?_
  refine lv_aload_n hx hb dL_law_434 rfl (lv_at hl 0 rfl) ?_
  refine lv_iload hx hb dL_law_435 (lv_at hl 4 rfl) ?_
  refine lv_iconst (v := 1) hx hb dL_law_437 (by decide) ?_
  refine lv_iadd hx hb dL_law_438 ?_
  refine va_sld hx hb hX hbl hbA hS hv1 dL_law_439 ?_
  refine l_top hp1 ?_
  refine lv_aload_n hx hb dL_law_440 rfl (lv_at hl 3 rfl) ?_
  refine cLH S5 hK hKL hDD hT hN hW hS (As := [.ref (ad 8), .int p1, .ref ob]) (kL_canPlay l D cA cL ad ob sa hst p1 _ _ r hf hvb hr) (vx_cwSW 3 hts gL_law_L_canPlay rfl rfl rfl (by decide +kernel) ⟨(Nat.le_of_ble_eq_true rfl), (Nat.le_of_ble_eq_true rfl)⟩) rfl hl.1 (st0 := _) (rest := []) rfl (Nat.le_of_ble_eq_true rfl) dL_law_441 ⟨(by show _ ≤ room_1.cells; have := rC; omega), (by show _ ≤ room_1.slots; have := rS; omega)⟩ (fun H locs f hg hW hS => ?_)
  refine lv_istore (lv' := [(5, .int (hcd 1 r)), (0, .ref b), (1, .ref (ad 8)), (2, .ref (am 0)), (3, .ref ob), (4, .int (nI i))]) hx hb dL_law_444 hl (by decide) rfl (fun ls hl => ?_)
  refine lv_aload_n hx hb dL_law_446 rfl (lv_at hl 3 rfl) ?_
  refine lv_aload_n hx hb dL_law_447 rfl (lv_at hl 1 rfl) ?_
  refine lv_iload hx hb dL_law_448 (lv_at hl 5 rfl) ?_
  refine lv_iconst (v := 1) hx hb dL_law_450 (by decide) ?_
  refine lv_iadd hx hb dL_law_451 ?_
  refine va_sld hx hb hX hbl hbA hS hv1 dL_law_452 ?_
  refine l_top hp1 ?_
  refine cLM S5 hK hDD hW hS (As := [.int p1]) (kX6_canPlay l D cA am p1 _ q hq) (cwV 1 hts gL_law_X6_canPlay rfl rfl rfl (by decide +kernel) ⟨(Nat.le_of_ble_eq_true rfl), (Nat.le_of_ble_eq_true rfl)⟩) rfl hl.1 (st0 := _) (rest := []) rfl (Nat.le_of_ble_eq_true rfl) dL_law_453 ⟨(by show _ ≤ room_1.cells; have := rC; omega), (by show _ ≤ room_1.slots; have := rS; omega)⟩ (fun H locs hW hS => ?_)
  refine lv_istore (lv' := [(6, .int q.1), (5, .int (hcd 1 r)), (0, .ref b), (1, .ref (ad 8)), (2, .ref (am 0)), (3, .ref ob), (4, .int (nI i))]) hx hb dL_law_456 hl (by decide) rfl (fun ls hl => ?_)
  refine lv_aload_n hx hb dL_law_458 rfl (lv_at hl 4 rfl) ?_
  refine cVM S5 hK hW.2.1 0 rfl rfl (As := []) (kX6_thrown l D cA am _) (cwV 0 hts gL_law_X6_thrown rfl rfl rfl (by decide +kernel) ⟨(Nat.le_of_ble_eq_true rfl), (Nat.le_of_ble_eq_true rfl)⟩) rfl hl.1 (st0 := _) (rest := []) rfl (Nat.le_of_ble_eq_true rfl) dL_law_459 ⟨(by show _ ≤ room_1.cells; have := rC; omega), (by show _ ≤ room_1.slots; have := rS; omega)⟩ ?_
  refine l_top hthr ?_
  refine lv_iload hx hb dL_law_462 (lv_at hl 1 rfl) ?_
  refine lv_icmp_eq (tgt := 469) hx hb dL_law_464 (by decide) (fun _ => ?_) (fun c9 => absurd rfl c9)
  refine lv_iload hx hb dL_law_469 (lv_at hl 1 rfl) ?_
  refine lv_if_ne (tgt := 493) hx hb dL_law_471 (by decide) (fun c5 => ?_) (fun c5 => ?_)
  · refine lv_goto (tgt := 1190) hx hb dL_law_493 (by decide) ?_
    refine W.widen (k := 19 + 4 * (j + 1)) (n := 263275 + 24 * (j + 1)) (by omega) (by omega) ?_
    exact hend _ _ _ _ _ _ hI2 hW hS (lv_sub hl [2, 3, 4, 5, 6] rfl)
  · have h0 := hcd0 c5
    refine lv_aload_n hx hb dL_law_474 rfl (lv_at hl 5 rfl) ?_
    refine lv_iconst (v := 0) hx hb dL_law_475 (by decide) ?_
    refine va_lald (tys := [(cL, .long)]) hx hb hKL hW.2.2 0 0 rfl rfl (vin_in (by decide)) dL_law_476 ?_
    refine l_topL (v := r.2.1.toInt64) (hg h0) ?_
    refine lv_iload hx hb dL_law_477 (lv_at hl 0 rfl) ?_
    refine lv_if_eq (tgt := 486) hx hb dL_law_479 (by decide) (fun c6 => ?_) (fun c6 => ?_)
    · refine lv_lconst (v := 0) hx hb dL_law_486 rfl ?_
      refine W.lcmp hx hb dL_law_487 ?_
      refine l_top (v := 0) (by rw [hval h0, c6]; exact lg_cmp_self _) ?_
      refine lv_if_eq (tgt := 493) hx hb dL_law_488 (by decide) (fun _ => ?_) (fun c9 => absurd rfl c9)
      refine lv_goto (tgt := 1190) hx hb dL_law_493 (by decide) ?_
      refine W.widen (k := 19 + 4 * (j + 1)) (n := 263275 + 24 * (j + 1)) (by omega) (by omega) ?_
      exact hend _ _ _ _ _ _ hI2 hW hS (lv_sub hl [2, 3, 4, 5, 6] rfl)
    · refine lv_lconst (v := 1) hx hb dL_law_482 rfl ?_
      refine lv_goto (tgt := 487) hx hb dL_law_483 (by decide) ?_
      refine W.lcmp hx hb dL_law_487 ?_
      refine l_top (v := 0) (by rw [(vb_or hvb).resolve_left (fun z => c6 ((hval h0).symm.trans z))]; exact lg_cmp_self _) ?_
      refine lv_if_eq (tgt := 493) hx hb dL_law_488 (by decide) (fun _ => ?_) (fun c9 => absurd rfl c9)
      refine lv_goto (tgt := 1190) hx hb dL_law_493 (by decide) ?_
      refine W.widen (k := 19 + 4 * (j + 1)) (n := 263275 + 24 * (j + 1)) (by omega) (by omega) ?_
      exact hend _ _ _ _ _ _ hI2 hW hS (lv_sub hl [2, 3, 4, 5, 6] rfl)
set_option maxHeartbeats 4000000 in
set_option maxRecDepth 100000 in
theorem law_turn {p : Program} {l : Launch} {e : Env} {s : State} {m : MethodId} {below : List Frame} {meth : Method} {c : Code} {b L : Nat} {xs : Nat → Int32} {D : va_G} {cA cL : Nat} {ad am : Nat → Nat} {ob : Nat} {sa : Nat → Nat} (C1 : LC l p s m meth c b L xs D cA cL ad am ob sa) (hL : L ≤ 1536) {M N : Mem} {f : Nat → Int64} {H : Heap} {locs : List Loc} {ls : Array Slot} (i j : Nat) (hi : i + 3 ≤ L) (hj : j < 512) (hI : Inv M N) (hW : LW D cA cL ad am ob M N f H) (hS : va_S (A0 s) s.heap H locs) (hl : lv_has ls 7 [(0, .ref b), (1, .ref (ad 8)), (2, .ref (am 0)), (3, .ref ob), (4, .int (nI i))])
    (hend : ∀ (M N : Mem) (f : Nat → Int64) (H : Heap) (locs : List Loc) (ls : Array Slot), Inv M N → LW D cA cL ad am ob M N f H → va_S (A0 s) s.heap H locs → lv_has ls 7 [(0, .ref b), (1, .ref (ad 8)), (2, .ref (am 0)), (3, .ref ob), (4, .int (nI i))] → W p l e room_1 s m #[Value.ref b] below meth c H locs (19 + 4 * (j + 1)) (263275 + 24 * (j + 1)) (lw_Z below #[Value.ref b] s) (F0 m 1190 ls [])) : W p l e room_1 s m #[Value.ref b] below meth c H locs (19 + 4 * j) (263275 + 24 * j) (lw_Z below #[Value.ref b] s) (F0 m 496 ls []) := by
  obtain ⟨C0, hst, hK, hKL, hDD, hT, hN⟩ := C1
  obtain ⟨hx, hb, hr0, hml, hown, hts0, hX, hbl, hlocks, hgv⟩ := C0
  have hts : ∀ w ∈ wsL_law, w.before #[Value.ref b] s = true := fun w h => hts0 w (wsL_law_in w h)
  have S5 : CallFix p m c code 7 s #[Value.ref b] wsL_law RL := ⟨hx, hb, hml, hown, hts⟩
  have hbA : ¬ A0 s b := Nat.not_le.mpr hbl
  obtain ⟨v, q, hf, hq, hval, hI2⟩ := sim_turn hI
  refine lv_aload_n hx hb dL_law_496 rfl (lv_at hl 1 rfl) ?_
  refine cVX S5 hK hW.1 8 rfl rfl (As := []) (hf ▸ kX5_turn l D cA ad _) (cwV 0 hts gL_law_X5_turn rfl rfl rfl (by decide +kernel) ⟨(Nat.le_of_ble_eq_true rfl), (Nat.le_of_ble_eq_true rfl)⟩) rfl hl.1 (st0 := _) (rest := []) rfl (Nat.le_of_ble_eq_true rfl) dL_law_497 ⟨(by show _ ≤ room_1.cells; have := rC; omega), (by show _ ≤ room_1.slots; have := rS; omega)⟩ ?_
  refine lv_aload_n hx hb dL_law_500 rfl (lv_at hl 2 rfl) ?_
  refine cLM S5 hK hDD hW hS (As := []) (hq ▸ kX6_turn l D cA am _) (cwV 0 hts gL_law_X6_turn rfl rfl rfl (by decide +kernel) ⟨(Nat.le_of_ble_eq_true rfl), (Nat.le_of_ble_eq_true rfl)⟩) rfl hl.1 (st0 := _) (rest := [.int v]) rfl (Nat.le_of_ble_eq_true rfl) dL_law_501 ⟨(by show _ ≤ room_1.cells; have := rC; omega), (by show _ ≤ room_1.slots; have := rS; omega)⟩ (fun H locs hW hS => ?_)
  refine lv_icmp_eq (tgt := 1190) hx hb dL_law_504 (by decide) (fun _ => ?_) (fun c9 => absurd hval c9)
  refine W.widen (k := 19 + 4 * (j + 1)) (n := 263275 + 24 * (j + 1)) (by omega) (by omega) ?_
  exact hend _ _ _ _ _ _ hI2 hW hS (lv_sub hl [0, 1, 2, 3, 4] rfl)
set_option maxHeartbeats 4000000 in
set_option maxRecDepth 100000 in
theorem law_hand {p : Program} {l : Launch} {e : Env} {s : State} {m : MethodId} {below : List Frame} {meth : Method} {c : Code} {b L : Nat} {xs : Nat → Int32} {D : va_G} {cA cL : Nat} {ad am : Nat → Nat} {ob : Nat} {sa : Nat → Nat} (C1 : LC l p s m meth c b L xs D cA cL ad am ob sa) (hL : L ≤ 1536) {M N : Mem} {f : Nat → Int64} {H : Heap} {locs : List Loc} {ls : Array Slot} (i j : Nat) (hi : i + 3 ≤ L) (hj : j < 512) (hI : Inv M N) (hW : LW D cA cL ad am ob M N f H) (hS : va_S (A0 s) s.heap H locs) (hl : lv_has ls 7 [(0, .ref b), (1, .ref (ad 8)), (2, .ref (am 0)), (3, .ref ob), (4, .int (nI i))])
    (hend : ∀ (M N : Mem) (f : Nat → Int64) (H : Heap) (locs : List Loc) (ls : Array Slot), Inv M N → LW D cA cL ad am ob M N f H → va_S (A0 s) s.heap H locs → lv_has ls 7 [(0, .ref b), (1, .ref (ad 8)), (2, .ref (am 0)), (3, .ref ob), (4, .int (nI i))] → W p l e room_1 s m #[Value.ref b] below meth c H locs (19 + 4 * (j + 1)) (263275 + 24 * (j + 1)) (lw_Z below #[Value.ref b] s) (F0 m 1190 ls [])) : W p l e room_1 s m #[Value.ref b] below meth c H locs (19 + 4 * j) (263275 + 24 * j) (lw_Z below #[Value.ref b] s) (F0 m 509 ls []) := by
  obtain ⟨C0, hst, hK, hKL, hDD, hT, hN⟩ := C1
  obtain ⟨hx, hb, hr0, hml, hown, hts0, hX, hbl, hlocks, hgv⟩ := C0
  have hts : ∀ w ∈ wsL_law, w.before #[Value.ref b] s = true := fun w h => hts0 w (wsL_law_in w h)
  have S5 : CallFix p m c code 7 s #[Value.ref b] wsL_law RL := ⟨hx, hb, hml, hown, hts⟩
  have hbA : ¬ A0 s b := Nat.not_le.mpr hbl
  obtain ⟨p1, hp1⟩ : ∃ z, xs ((nI i + 1).toNatClampNeg) = z := ⟨_, rfl⟩
  have hv1 : vp_in (nI i + 1) L := by rw [show nI i + 1 = nI (i + 1) from nI_add i 1]; exact vp_in_nI (by omega) (by omega)
  obtain ⟨r, q, hf, hq, hr, hthr, hval, hI2⟩ := sim_hand hI p1
  refine lv_aload_n hx hb dL_law_509 rfl (lv_at hl 1 rfl) ?_
  refine lv_aload_n hx hb dL_law_510 rfl (lv_at hl 0 rfl) ?_
  refine lv_iload hx hb dL_law_511 (lv_at hl 4 rfl) ?_
  refine lv_iconst (v := 1) hx hb dL_law_513 (by decide) ?_
  refine lv_iadd hx hb dL_law_514 ?_
  refine va_sld hx hb hX hbl hbA hS hv1 dL_law_515 ?_
  refine l_top hp1 ?_
  refine lv_aload_n hx hb dL_law_516 rfl (lv_at hl 3 rfl) ?_
  refine cLH S5 hK hKL hDD hT hN hW hS (As := [.ref (ad 8), .int p1, .ref ob]) (kL_hand l D cA cL ad ob sa hst p1 _ _ r hf hr) (vx_cwSW 3 hts gL_law_L_hand rfl rfl rfl (by decide +kernel) ⟨(Nat.le_of_ble_eq_true rfl), (Nat.le_of_ble_eq_true rfl)⟩) rfl hl.1 (st0 := _) (rest := []) rfl (Nat.le_of_ble_eq_true rfl) dL_law_517 ⟨(by show _ ≤ room_1.cells; have := rC; omega), (by show _ ≤ room_1.slots; have := rS; omega)⟩ (fun H locs f hg hW hS => ?_)
  refine lv_istore (lv' := [(5, .int (hcd 1 r)), (0, .ref b), (1, .ref (ad 8)), (2, .ref (am 0)), (3, .ref ob), (4, .int (nI i))]) hx hb dL_law_520 hl (by decide) rfl (fun ls hl => ?_)
  refine lv_aload_n hx hb dL_law_522 rfl (lv_at hl 3 rfl) ?_
  refine lv_aload_n hx hb dL_law_523 rfl (lv_at hl 1 rfl) ?_
  refine lv_iload hx hb dL_law_524 (lv_at hl 5 rfl) ?_
  refine lv_iconst (v := 1) hx hb dL_law_526 (by decide) ?_
  refine lv_iadd hx hb dL_law_527 ?_
  refine va_sld hx hb hX hbl hbA hS hv1 dL_law_528 ?_
  refine l_top hp1 ?_
  refine cLM S5 hK hDD hW hS (As := [.int p1]) (kX6_hand l D cA am p1 _ q hq) (cwV 1 hts gL_law_X6_hand rfl rfl rfl (by decide +kernel) ⟨(Nat.le_of_ble_eq_true rfl), (Nat.le_of_ble_eq_true rfl)⟩) rfl hl.1 (st0 := _) (rest := []) rfl (Nat.le_of_ble_eq_true rfl) dL_law_529 ⟨(by show _ ≤ room_1.cells; have := rC; omega), (by show _ ≤ room_1.slots; have := rS; omega)⟩ (fun H locs hW hS => ?_)
  refine lv_istore (lv' := [(6, .int q.1), (5, .int (hcd 1 r)), (0, .ref b), (1, .ref (ad 8)), (2, .ref (am 0)), (3, .ref ob), (4, .int (nI i))]) hx hb dL_law_532 hl (by decide) rfl (fun ls hl => ?_)
  refine lv_aload_n hx hb dL_law_534 rfl (lv_at hl 4 rfl) ?_
  refine cVM S5 hK hW.2.1 0 rfl rfl (As := []) (kX6_thrown l D cA am _) (cwV 0 hts gL_law_X6_thrown rfl rfl rfl (by decide +kernel) ⟨(Nat.le_of_ble_eq_true rfl), (Nat.le_of_ble_eq_true rfl)⟩) rfl hl.1 (st0 := _) (rest := []) rfl (Nat.le_of_ble_eq_true rfl) dL_law_535 ⟨(by show _ ≤ room_1.cells; have := rC; omega), (by show _ ≤ room_1.slots; have := rS; omega)⟩ ?_
  refine l_top hthr ?_
  refine lv_iload hx hb dL_law_538 (lv_at hl 1 rfl) ?_
  refine lv_icmp_eq (tgt := 545) hx hb dL_law_540 (by decide) (fun _ => ?_) (fun c9 => absurd rfl c9)
  refine lv_iload hx hb dL_law_545 (lv_at hl 1 rfl) ?_
  refine lv_if_ne (tgt := 562) hx hb dL_law_547 (by decide) (fun c5 => ?_) (fun c5 => ?_)
  · refine lv_goto (tgt := 1190) hx hb dL_law_562 (by decide) ?_
    refine W.widen (k := 19 + 4 * (j + 1)) (n := 263275 + 24 * (j + 1)) (by omega) (by omega) ?_
    exact hend _ _ _ _ _ _ hI2 hW hS (lv_sub hl [2, 3, 4, 5, 6] rfl)
  · have h0 := hcd0 c5
    refine lv_aload_n hx hb dL_law_550 rfl (lv_at hl 5 rfl) ?_
    refine lv_iconst (v := 0) hx hb dL_law_551 (by decide) ?_
    refine va_lald (tys := [(cL, .long)]) hx hb hKL hW.2.2 0 0 rfl rfl (vin_in (by decide)) dL_law_552 ?_
    refine l_topL (v := r.2.1.toInt64) (hg h0) ?_
    refine lv_iload hx hb dL_law_553 (lv_at hl 0 rfl) ?_
    refine lv_i2l (v := q.1.toInt64) hx hb dL_law_555 rfl ?_
    refine W.lcmp hx hb dL_law_556 ?_
    refine l_top (v := 0) (by rw [hval h0]; exact lg_cmp_self _) ?_
    refine lv_if_eq (tgt := 562) hx hb dL_law_557 (by decide) (fun _ => ?_) (fun c9 => absurd rfl c9)
    refine lv_goto (tgt := 1190) hx hb dL_law_562 (by decide) ?_
    refine W.widen (k := 19 + 4 * (j + 1)) (n := 263275 + 24 * (j + 1)) (by omega) (by omega) ?_
    exact hend _ _ _ _ _ _ hI2 hW hS (lv_sub hl [2, 3, 4, 5, 6] rfl)
set_option maxHeartbeats 4000000 in
set_option maxRecDepth 100000 in
theorem law_inTrick {p : Program} {l : Launch} {e : Env} {s : State} {m : MethodId} {below : List Frame} {meth : Method} {c : Code} {b L : Nat} {xs : Nat → Int32} {D : va_G} {cA cL : Nat} {ad am : Nat → Nat} {ob : Nat} {sa : Nat → Nat} (C1 : LC l p s m meth c b L xs D cA cL ad am ob sa) (hL : L ≤ 1536) {M N : Mem} {f : Nat → Int64} {H : Heap} {locs : List Loc} {ls : Array Slot} (i j : Nat) (hi : i + 3 ≤ L) (hj : j < 512) (hI : Inv M N) (hW : LW D cA cL ad am ob M N f H) (hS : va_S (A0 s) s.heap H locs) (hl : lv_has ls 7 [(0, .ref b), (1, .ref (ad 8)), (2, .ref (am 0)), (3, .ref ob), (4, .int (nI i))])
    (hend : ∀ (M N : Mem) (f : Nat → Int64) (H : Heap) (locs : List Loc) (ls : Array Slot), Inv M N → LW D cA cL ad am ob M N f H → va_S (A0 s) s.heap H locs → lv_has ls 7 [(0, .ref b), (1, .ref (ad 8)), (2, .ref (am 0)), (3, .ref ob), (4, .int (nI i))] → W p l e room_1 s m #[Value.ref b] below meth c H locs (19 + 4 * (j + 1)) (263275 + 24 * (j + 1)) (lw_Z below #[Value.ref b] s) (F0 m 1190 ls [])) : W p l e room_1 s m #[Value.ref b] below meth c H locs (19 + 4 * j) (263275 + 24 * j) (lw_Z below #[Value.ref b] s) (F0 m 565 ls []) := by
  obtain ⟨C0, hst, hK, hKL, hDD, hT, hN⟩ := C1
  obtain ⟨hx, hb, hr0, hml, hown, hts0, hX, hbl, hlocks, hgv⟩ := C0
  have hts : ∀ w ∈ wsL_law, w.before #[Value.ref b] s = true := fun w h => hts0 w (wsL_law_in w h)
  have S5 : CallFix p m c code 7 s #[Value.ref b] wsL_law RL := ⟨hx, hb, hml, hown, hts⟩
  have hbA : ¬ A0 s b := Nat.not_le.mpr hbl
  obtain ⟨v, q, hf, hq, hval, hI2⟩ := sim_inTrick hI
  refine lv_aload_n hx hb dL_law_565 rfl (lv_at hl 1 rfl) ?_
  refine cVX S5 hK hW.1 8 rfl rfl (As := []) (hf ▸ kX5_inTrick l D cA ad _) (cwV 0 hts gL_law_X5_inTrick rfl rfl rfl (by decide +kernel) ⟨(Nat.le_of_ble_eq_true rfl), (Nat.le_of_ble_eq_true rfl)⟩) rfl hl.1 (st0 := _) (rest := []) rfl (Nat.le_of_ble_eq_true rfl) dL_law_566 ⟨(by show _ ≤ room_1.cells; have := rC; omega), (by show _ ≤ room_1.slots; have := rS; omega)⟩ ?_
  refine lv_aload_n hx hb dL_law_569 rfl (lv_at hl 2 rfl) ?_
  refine cLM S5 hK hDD hW hS (As := []) (hq ▸ kX6_inTrick l D cA am _) (cwV 0 hts gL_law_X6_inTrick rfl rfl rfl (by decide +kernel) ⟨(Nat.le_of_ble_eq_true rfl), (Nat.le_of_ble_eq_true rfl)⟩) rfl hl.1 (st0 := _) (rest := [.int v]) rfl (Nat.le_of_ble_eq_true rfl) dL_law_570 ⟨(by show _ ≤ room_1.cells; have := rC; omega), (by show _ ≤ room_1.slots; have := rS; omega)⟩ (fun H locs hW hS => ?_)
  refine lv_icmp_eq (tgt := 1190) hx hb dL_law_573 (by decide) (fun _ => ?_) (fun c9 => absurd hval c9)
  refine W.widen (k := 19 + 4 * (j + 1)) (n := 263275 + 24 * (j + 1)) (by omega) (by omega) ?_
  exact hend _ _ _ _ _ _ hI2 hW hS (lv_sub hl [0, 1, 2, 3, 4] rfl)
set_option maxHeartbeats 4000000 in
set_option maxRecDepth 100000 in
theorem law_cardIn {p : Program} {l : Launch} {e : Env} {s : State} {m : MethodId} {below : List Frame} {meth : Method} {c : Code} {b L : Nat} {xs : Nat → Int32} {D : va_G} {cA cL : Nat} {ad am : Nat → Nat} {ob : Nat} {sa : Nat → Nat} (C1 : LC l p s m meth c b L xs D cA cL ad am ob sa) (hL : L ≤ 1536) {M N : Mem} {f : Nat → Int64} {H : Heap} {locs : List Loc} {ls : Array Slot} (i j : Nat) (hi : i + 3 ≤ L) (hj : j < 512) (hI : Inv M N) (hW : LW D cA cL ad am ob M N f H) (hS : va_S (A0 s) s.heap H locs) (hl : lv_has ls 7 [(0, .ref b), (1, .ref (ad 8)), (2, .ref (am 0)), (3, .ref ob), (4, .int (nI i))])
    (hend : ∀ (M N : Mem) (f : Nat → Int64) (H : Heap) (locs : List Loc) (ls : Array Slot), Inv M N → LW D cA cL ad am ob M N f H → va_S (A0 s) s.heap H locs → lv_has ls 7 [(0, .ref b), (1, .ref (ad 8)), (2, .ref (am 0)), (3, .ref ob), (4, .int (nI i))] → W p l e room_1 s m #[Value.ref b] below meth c H locs (19 + 4 * (j + 1)) (263275 + 24 * (j + 1)) (lw_Z below #[Value.ref b] s) (F0 m 1190 ls [])) : W p l e room_1 s m #[Value.ref b] below meth c H locs (19 + 4 * j) (263275 + 24 * j) (lw_Z below #[Value.ref b] s) (F0 m 578 ls []) := by
  obtain ⟨C0, hst, hK, hKL, hDD, hT, hN⟩ := C1
  obtain ⟨hx, hb, hr0, hml, hown, hts0, hX, hbl, hlocks, hgv⟩ := C0
  have hts : ∀ w ∈ wsL_law, w.before #[Value.ref b] s = true := fun w h => hts0 w (wsL_law_in w h)
  have S5 : CallFix p m c code 7 s #[Value.ref b] wsL_law RL := ⟨hx, hb, hml, hown, hts⟩
  have hbA : ¬ A0 s b := Nat.not_le.mpr hbl
  obtain ⟨p1, hp1⟩ : ∃ z, xs ((nI i + 1).toNatClampNeg) = z := ⟨_, rfl⟩
  have hv1 : vp_in (nI i + 1) L := by rw [show nI i + 1 = nI (i + 1) from nI_add i 1]; exact vp_in_nI (by omega) (by omega)
  obtain ⟨r, q, hf, hq, hr, hthr, hval, hI2⟩ := sim_cardIn hI p1
  refine lv_aload_n hx hb dL_law_578 rfl (lv_at hl 1 rfl) ?_
  refine lv_aload_n hx hb dL_law_579 rfl (lv_at hl 0 rfl) ?_
  refine lv_iload hx hb dL_law_580 (lv_at hl 4 rfl) ?_
  refine lv_iconst (v := 1) hx hb dL_law_582 (by decide) ?_
  refine lv_iadd hx hb dL_law_583 ?_
  refine va_sld hx hb hX hbl hbA hS hv1 dL_law_584 ?_
  refine l_top hp1 ?_
  refine lv_aload_n hx hb dL_law_585 rfl (lv_at hl 3 rfl) ?_
  refine cLH S5 hK hKL hDD hT hN hW hS (As := [.ref (ad 8), .int p1, .ref ob]) (kL_cardIn l D cA cL ad ob sa hst p1 _ _ r hf hr) (vx_cwSW 3 hts gL_law_L_cardIn rfl rfl rfl (by decide +kernel) ⟨(Nat.le_of_ble_eq_true rfl), (Nat.le_of_ble_eq_true rfl)⟩) rfl hl.1 (st0 := _) (rest := []) rfl (Nat.le_of_ble_eq_true rfl) dL_law_586 ⟨(by show _ ≤ room_1.cells; have := rC; omega), (by show _ ≤ room_1.slots; have := rS; omega)⟩ (fun H locs f hg hW hS => ?_)
  refine lv_istore (lv' := [(5, .int (hcd 3 r)), (0, .ref b), (1, .ref (ad 8)), (2, .ref (am 0)), (3, .ref ob), (4, .int (nI i))]) hx hb dL_law_589 hl (by decide) rfl (fun ls hl => ?_)
  refine lv_aload_n hx hb dL_law_591 rfl (lv_at hl 3 rfl) ?_
  refine lv_aload_n hx hb dL_law_592 rfl (lv_at hl 1 rfl) ?_
  refine lv_iload hx hb dL_law_593 (lv_at hl 5 rfl) ?_
  refine lv_iconst (v := 1) hx hb dL_law_595 (by decide) ?_
  refine lv_iadd hx hb dL_law_596 ?_
  refine va_sld hx hb hX hbl hbA hS hv1 dL_law_597 ?_
  refine l_top hp1 ?_
  refine cLM S5 hK hDD hW hS (As := [.int p1]) (kX6_cardIn l D cA am p1 _ q hq) (cwV 1 hts gL_law_X6_cardIn rfl rfl rfl (by decide +kernel) ⟨(Nat.le_of_ble_eq_true rfl), (Nat.le_of_ble_eq_true rfl)⟩) rfl hl.1 (st0 := _) (rest := []) rfl (Nat.le_of_ble_eq_true rfl) dL_law_598 ⟨(by show _ ≤ room_1.cells; have := rC; omega), (by show _ ≤ room_1.slots; have := rS; omega)⟩ (fun H locs hW hS => ?_)
  refine lv_istore (lv' := [(6, .int q.1), (5, .int (hcd 3 r)), (0, .ref b), (1, .ref (ad 8)), (2, .ref (am 0)), (3, .ref ob), (4, .int (nI i))]) hx hb dL_law_601 hl (by decide) rfl (fun ls hl => ?_)
  refine lv_aload_n hx hb dL_law_603 rfl (lv_at hl 4 rfl) ?_
  refine cVM S5 hK hW.2.1 0 rfl rfl (As := []) (kX6_thrown l D cA am _) (cwV 0 hts gL_law_X6_thrown rfl rfl rfl (by decide +kernel) ⟨(Nat.le_of_ble_eq_true rfl), (Nat.le_of_ble_eq_true rfl)⟩) rfl hl.1 (st0 := _) (rest := []) rfl (Nat.le_of_ble_eq_true rfl) dL_law_604 ⟨(by show _ ≤ room_1.cells; have := rC; omega), (by show _ ≤ room_1.slots; have := rS; omega)⟩ ?_
  refine l_top hthr ?_
  refine lv_iload hx hb dL_law_607 (lv_at hl 1 rfl) ?_
  refine lv_icmp_eq (tgt := 614) hx hb dL_law_609 (by decide) (fun _ => ?_) (fun c9 => absurd rfl c9)
  refine lv_iload hx hb dL_law_614 (lv_at hl 1 rfl) ?_
  refine lv_if_ne (tgt := 631) hx hb dL_law_616 (by decide) (fun c5 => ?_) (fun c5 => ?_)
  · refine lv_goto (tgt := 1190) hx hb dL_law_631 (by decide) ?_
    refine W.widen (k := 19 + 4 * (j + 1)) (n := 263275 + 24 * (j + 1)) (by omega) (by omega) ?_
    exact hend _ _ _ _ _ _ hI2 hW hS (lv_sub hl [2, 3, 4, 5, 6] rfl)
  · have h0 := hcd0 c5
    refine lv_aload_n hx hb dL_law_619 rfl (lv_at hl 5 rfl) ?_
    refine lv_iconst (v := 0) hx hb dL_law_620 (by decide) ?_
    refine va_lald (tys := [(cL, .long)]) hx hb hKL hW.2.2 0 0 rfl rfl (vin_in (by decide)) dL_law_621 ?_
    refine l_topL (v := r.2.1.toInt64) (hg h0) ?_
    refine lv_iload hx hb dL_law_622 (lv_at hl 0 rfl) ?_
    refine lv_i2l (v := q.1.toInt64) hx hb dL_law_624 rfl ?_
    refine W.lcmp hx hb dL_law_625 ?_
    refine l_top (v := 0) (by rw [hval h0]; exact lg_cmp_self _) ?_
    refine lv_if_eq (tgt := 631) hx hb dL_law_626 (by decide) (fun _ => ?_) (fun c9 => absurd rfl c9)
    refine lv_goto (tgt := 1190) hx hb dL_law_631 (by decide) ?_
    refine W.widen (k := 19 + 4 * (j + 1)) (n := 263275 + 24 * (j + 1)) (by omega) (by omega) ?_
    exact hend _ _ _ _ _ _ hI2 hW hS (lv_sub hl [2, 3, 4, 5, 6] rfl)
set_option maxHeartbeats 4000000 in
set_option maxRecDepth 100000 in
theorem law_won {p : Program} {l : Launch} {e : Env} {s : State} {m : MethodId} {below : List Frame} {meth : Method} {c : Code} {b L : Nat} {xs : Nat → Int32} {D : va_G} {cA cL : Nat} {ad am : Nat → Nat} {ob : Nat} {sa : Nat → Nat} (C1 : LC l p s m meth c b L xs D cA cL ad am ob sa) (hL : L ≤ 1536) {M N : Mem} {f : Nat → Int64} {H : Heap} {locs : List Loc} {ls : Array Slot} (i j : Nat) (hi : i + 3 ≤ L) (hj : j < 512) (hI : Inv M N) (hW : LW D cA cL ad am ob M N f H) (hS : va_S (A0 s) s.heap H locs) (hl : lv_has ls 7 [(0, .ref b), (1, .ref (ad 8)), (2, .ref (am 0)), (3, .ref ob), (4, .int (nI i))])
    (hend : ∀ (M N : Mem) (f : Nat → Int64) (H : Heap) (locs : List Loc) (ls : Array Slot), Inv M N → LW D cA cL ad am ob M N f H → va_S (A0 s) s.heap H locs → lv_has ls 7 [(0, .ref b), (1, .ref (ad 8)), (2, .ref (am 0)), (3, .ref ob), (4, .int (nI i))] → W p l e room_1 s m #[Value.ref b] below meth c H locs (19 + 4 * (j + 1)) (263275 + 24 * (j + 1)) (lw_Z below #[Value.ref b] s) (F0 m 1190 ls [])) : W p l e room_1 s m #[Value.ref b] below meth c H locs (19 + 4 * j) (263275 + 24 * j) (lw_Z below #[Value.ref b] s) (F0 m 634 ls []) := by
  obtain ⟨C0, hst, hK, hKL, hDD, hT, hN⟩ := C1
  obtain ⟨hx, hb, hr0, hml, hown, hts0, hX, hbl, hlocks, hgv⟩ := C0
  have hts : ∀ w ∈ wsL_law, w.before #[Value.ref b] s = true := fun w h => hts0 w (wsL_law_in w h)
  have S5 : CallFix p m c code 7 s #[Value.ref b] wsL_law RL := ⟨hx, hb, hml, hown, hts⟩
  have hbA : ¬ A0 s b := Nat.not_le.mpr hbl
  obtain ⟨p1, hp1⟩ : ∃ z, xs ((nI i + 1).toNatClampNeg) = z := ⟨_, rfl⟩
  have hv1 : vp_in (nI i + 1) L := by rw [show nI i + 1 = nI (i + 1) from nI_add i 1]; exact vp_in_nI (by omega) (by omega)
  obtain ⟨r, q, hf, hq, hr, hthr, hval, hI2⟩ := sim_won hI p1
  refine lv_aload_n hx hb dL_law_634 rfl (lv_at hl 1 rfl) ?_
  refine lv_aload_n hx hb dL_law_635 rfl (lv_at hl 0 rfl) ?_
  refine lv_iload hx hb dL_law_636 (lv_at hl 4 rfl) ?_
  refine lv_iconst (v := 1) hx hb dL_law_638 (by decide) ?_
  refine lv_iadd hx hb dL_law_639 ?_
  refine va_sld hx hb hX hbl hbA hS hv1 dL_law_640 ?_
  refine l_top hp1 ?_
  refine lv_aload_n hx hb dL_law_641 rfl (lv_at hl 3 rfl) ?_
  refine cLH S5 hK hKL hDD hT hN hW hS (As := [.ref (ad 8), .int p1, .ref ob]) (kL_won l D cA cL ad ob sa hst p1 _ _ r hf hr) (vx_cwSW 3 hts gL_law_L_won rfl rfl rfl (by decide +kernel) ⟨(Nat.le_of_ble_eq_true rfl), (Nat.le_of_ble_eq_true rfl)⟩) rfl hl.1 (st0 := _) (rest := []) rfl (Nat.le_of_ble_eq_true rfl) dL_law_642 ⟨(by show _ ≤ room_1.cells; have := rC; omega), (by show _ ≤ room_1.slots; have := rS; omega)⟩ (fun H locs f hg hW hS => ?_)
  refine lv_istore (lv' := [(5, .int (hcd 1 r)), (0, .ref b), (1, .ref (ad 8)), (2, .ref (am 0)), (3, .ref ob), (4, .int (nI i))]) hx hb dL_law_645 hl (by decide) rfl (fun ls hl => ?_)
  refine lv_aload_n hx hb dL_law_647 rfl (lv_at hl 3 rfl) ?_
  refine lv_aload_n hx hb dL_law_648 rfl (lv_at hl 1 rfl) ?_
  refine lv_iload hx hb dL_law_649 (lv_at hl 5 rfl) ?_
  refine lv_iconst (v := 1) hx hb dL_law_651 (by decide) ?_
  refine lv_iadd hx hb dL_law_652 ?_
  refine va_sld hx hb hX hbl hbA hS hv1 dL_law_653 ?_
  refine l_top hp1 ?_
  refine cLM S5 hK hDD hW hS (As := [.int p1]) (kX6_won l D cA am p1 _ q hq) (cwV 1 hts gL_law_X6_won rfl rfl rfl (by decide +kernel) ⟨(Nat.le_of_ble_eq_true rfl), (Nat.le_of_ble_eq_true rfl)⟩) rfl hl.1 (st0 := _) (rest := []) rfl (Nat.le_of_ble_eq_true rfl) dL_law_654 ⟨(by show _ ≤ room_1.cells; have := rC; omega), (by show _ ≤ room_1.slots; have := rS; omega)⟩ (fun H locs hW hS => ?_)
  refine lv_istore (lv' := [(6, .int q.1), (5, .int (hcd 1 r)), (0, .ref b), (1, .ref (ad 8)), (2, .ref (am 0)), (3, .ref ob), (4, .int (nI i))]) hx hb dL_law_657 hl (by decide) rfl (fun ls hl => ?_)
  refine lv_aload_n hx hb dL_law_659 rfl (lv_at hl 4 rfl) ?_
  refine cVM S5 hK hW.2.1 0 rfl rfl (As := []) (kX6_thrown l D cA am _) (cwV 0 hts gL_law_X6_thrown rfl rfl rfl (by decide +kernel) ⟨(Nat.le_of_ble_eq_true rfl), (Nat.le_of_ble_eq_true rfl)⟩) rfl hl.1 (st0 := _) (rest := []) rfl (Nat.le_of_ble_eq_true rfl) dL_law_660 ⟨(by show _ ≤ room_1.cells; have := rC; omega), (by show _ ≤ room_1.slots; have := rS; omega)⟩ ?_
  refine l_top hthr ?_
  refine lv_iload hx hb dL_law_663 (lv_at hl 1 rfl) ?_
  refine lv_icmp_eq (tgt := 670) hx hb dL_law_665 (by decide) (fun _ => ?_) (fun c9 => absurd rfl c9)
  refine lv_iload hx hb dL_law_670 (lv_at hl 1 rfl) ?_
  refine lv_if_ne (tgt := 687) hx hb dL_law_672 (by decide) (fun c5 => ?_) (fun c5 => ?_)
  · refine lv_goto (tgt := 1190) hx hb dL_law_687 (by decide) ?_
    refine W.widen (k := 19 + 4 * (j + 1)) (n := 263275 + 24 * (j + 1)) (by omega) (by omega) ?_
    exact hend _ _ _ _ _ _ hI2 hW hS (lv_sub hl [2, 3, 4, 5, 6] rfl)
  · have h0 := hcd0 c5
    refine lv_aload_n hx hb dL_law_675 rfl (lv_at hl 5 rfl) ?_
    refine lv_iconst (v := 0) hx hb dL_law_676 (by decide) ?_
    refine va_lald (tys := [(cL, .long)]) hx hb hKL hW.2.2 0 0 rfl rfl (vin_in (by decide)) dL_law_677 ?_
    refine l_topL (v := r.2.1.toInt64) (hg h0) ?_
    refine lv_iload hx hb dL_law_678 (lv_at hl 0 rfl) ?_
    refine lv_i2l (v := q.1.toInt64) hx hb dL_law_680 rfl ?_
    refine W.lcmp hx hb dL_law_681 ?_
    refine l_top (v := 0) (by rw [hval h0]; exact lg_cmp_self _) ?_
    refine lv_if_eq (tgt := 687) hx hb dL_law_682 (by decide) (fun _ => ?_) (fun c9 => absurd rfl c9)
    refine lv_goto (tgt := 1190) hx hb dL_law_687 (by decide) ?_
    refine W.widen (k := 19 + 4 * (j + 1)) (n := 263275 + 24 * (j + 1)) (by omega) (by omega) ?_
    exact hend _ _ _ _ _ _ hI2 hW hS (lv_sub hl [2, 3, 4, 5, 6] rfl)
set_option maxHeartbeats 4000000 in
set_option maxRecDepth 100000 in
theorem law_solve {p : Program} {l : Launch} {e : Env} {s : State} {m : MethodId} {below : List Frame} {meth : Method} {c : Code} {b L : Nat} {xs : Nat → Int32} {D : va_G} {cA cL : Nat} {ad am : Nat → Nat} {ob : Nat} {sa : Nat → Nat} (C1 : LC l p s m meth c b L xs D cA cL ad am ob sa) (hL : L ≤ 1536) {M N : Mem} {f : Nat → Int64} {H : Heap} {locs : List Loc} {ls : Array Slot} (i j : Nat) (hi : i + 3 ≤ L) (hj : j < 512) (hI : Inv M N) (hW : LW D cA cL ad am ob M N f H) (hS : va_S (A0 s) s.heap H locs) (hl : lv_has ls 7 [(0, .ref b), (1, .ref (ad 8)), (2, .ref (am 0)), (3, .ref ob), (4, .int (nI i))])
    (hend : ∀ (M N : Mem) (f : Nat → Int64) (H : Heap) (locs : List Loc) (ls : Array Slot), Inv M N → LW D cA cL ad am ob M N f H → va_S (A0 s) s.heap H locs → lv_has ls 7 [(0, .ref b), (1, .ref (ad 8)), (2, .ref (am 0)), (3, .ref ob), (4, .int (nI i))] → W p l e room_1 s m #[Value.ref b] below meth c H locs (19 + 4 * (j + 1)) (263275 + 24 * (j + 1)) (lw_Z below #[Value.ref b] s) (F0 m 1190 ls [])) : W p l e room_1 s m #[Value.ref b] below meth c H locs (19 + 4 * j) (263275 + 24 * j) (lw_Z below #[Value.ref b] s) (F0 m 690 ls []) := by
  obtain ⟨C0, hst, hK, hKL, hDD, hT, hN⟩ := C1
  obtain ⟨hx, hb, hr0, hml, hown, hts0, hX, hbl, hlocks, hgv⟩ := C0
  have hts : ∀ w ∈ wsL_law, w.before #[Value.ref b] s = true := fun w h => hts0 w (wsL_law_in w h)
  have S5 : CallFix p m c code 7 s #[Value.ref b] wsL_law RL := ⟨hx, hb, hml, hown, hts⟩
  have hbA : ¬ A0 s b := Nat.not_le.mpr hbl
  obtain ⟨r, q, hf, hq, hr, hthr, hval, hI2⟩ := sim_solve hI
  refine lv_aload_n hx hb dL_law_690 rfl (lv_at hl 1 rfl) ?_
  refine lv_aload_n hx hb dL_law_691 rfl (lv_at hl 3 rfl) ?_
  refine cLH S5 hK hKL hDD hT hN hW hS (As := [.ref (ad 8), .ref ob]) (kL_solve l D cA cL ad ob sa hst _ _ r hf hr) (vx_cwSW 2 hts gL_law_L_solve rfl rfl rfl (by decide +kernel) ⟨(Nat.le_of_ble_eq_true rfl), (Nat.le_of_ble_eq_true rfl)⟩) rfl hl.1 (st0 := _) (rest := []) rfl (Nat.le_of_ble_eq_true rfl) dL_law_692 ⟨(by show _ ≤ room_1.cells; have := rC; omega), (by show _ ≤ room_1.slots; have := rS; omega)⟩ (fun H locs f hg hW hS => ?_)
  refine lv_istore (lv' := [(5, .int (hcd 2 r)), (0, .ref b), (1, .ref (ad 8)), (2, .ref (am 0)), (3, .ref ob), (4, .int (nI i))]) hx hb dL_law_695 hl (by decide) rfl (fun ls hl => ?_)
  refine lv_aload_n hx hb dL_law_697 rfl (lv_at hl 3 rfl) ?_
  refine cLM S5 hK hDD hW hS (As := []) (kX6_solve l D cA am _ q hq) (cwV 0 hts gL_law_X6_solve rfl rfl rfl (by decide +kernel) ⟨(Nat.le_of_ble_eq_true rfl), (Nat.le_of_ble_eq_true rfl)⟩) rfl hl.1 (st0 := _) (rest := []) rfl (Nat.le_of_ble_eq_true rfl) dL_law_698 ⟨(by show _ ≤ room_1.cells; have := rC; omega), (by show _ ≤ room_1.slots; have := rS; omega)⟩ (fun H locs hW hS => ?_)
  refine lv_istore (lv' := [(6, .int q.1), (5, .int (hcd 2 r)), (0, .ref b), (1, .ref (ad 8)), (2, .ref (am 0)), (3, .ref ob), (4, .int (nI i))]) hx hb dL_law_701 hl (by decide) rfl (fun ls hl => ?_)
  refine lv_aload_n hx hb dL_law_703 rfl (lv_at hl 4 rfl) ?_
  refine cVM S5 hK hW.2.1 0 rfl rfl (As := []) (kX6_thrown l D cA am _) (cwV 0 hts gL_law_X6_thrown rfl rfl rfl (by decide +kernel) ⟨(Nat.le_of_ble_eq_true rfl), (Nat.le_of_ble_eq_true rfl)⟩) rfl hl.1 (st0 := _) (rest := []) rfl (Nat.le_of_ble_eq_true rfl) dL_law_704 ⟨(by show _ ≤ room_1.cells; have := rC; omega), (by show _ ≤ room_1.slots; have := rS; omega)⟩ ?_
  refine l_top hthr ?_
  refine lv_iload hx hb dL_law_707 (lv_at hl 1 rfl) ?_
  refine lv_icmp_eq (tgt := 714) hx hb dL_law_709 (by decide) (fun _ => ?_) (fun c9 => absurd rfl c9)
  refine lv_iload hx hb dL_law_714 (lv_at hl 1 rfl) ?_
  refine lv_if_ne (tgt := 731) hx hb dL_law_716 (by decide) (fun c5 => ?_) (fun c5 => ?_)
  · refine lv_goto (tgt := 1190) hx hb dL_law_731 (by decide) ?_
    refine W.widen (k := 19 + 4 * (j + 1)) (n := 263275 + 24 * (j + 1)) (by omega) (by omega) ?_
    exact hend _ _ _ _ _ _ hI2 hW hS (lv_sub hl [2, 3, 4, 5, 6] rfl)
  · have h0 := hcd0 c5
    refine lv_aload_n hx hb dL_law_719 rfl (lv_at hl 5 rfl) ?_
    refine lv_iconst (v := 0) hx hb dL_law_720 (by decide) ?_
    refine va_lald (tys := [(cL, .long)]) hx hb hKL hW.2.2 0 0 rfl rfl (vin_in (by decide)) dL_law_721 ?_
    refine l_topL (v := r.2.1.toInt64) (hg h0) ?_
    refine lv_iload hx hb dL_law_722 (lv_at hl 0 rfl) ?_
    refine lv_i2l (v := q.1.toInt64) hx hb dL_law_724 rfl ?_
    refine W.lcmp hx hb dL_law_725 ?_
    refine l_top (v := 0) (by rw [hval h0]; exact lg_cmp_self _) ?_
    refine lv_if_eq (tgt := 731) hx hb dL_law_726 (by decide) (fun _ => ?_) (fun c9 => absurd rfl c9)
    refine lv_goto (tgt := 1190) hx hb dL_law_731 (by decide) ?_
    refine W.widen (k := 19 + 4 * (j + 1)) (n := 263275 + 24 * (j + 1)) (by omega) (by omega) ?_
    exact hend _ _ _ _ _ _ hI2 hW hS (lv_sub hl [2, 3, 4, 5, 6] rfl)
set_option maxHeartbeats 4000000 in
set_option maxRecDepth 100000 in
theorem law_solveByAll {p : Program} {l : Launch} {e : Env} {s : State} {m : MethodId} {below : List Frame} {meth : Method} {c : Code} {b L : Nat} {xs : Nat → Int32} {D : va_G} {cA cL : Nat} {ad am : Nat → Nat} {ob : Nat} {sa : Nat → Nat} (C1 : LC l p s m meth c b L xs D cA cL ad am ob sa) (hL : L ≤ 1536) {M N : Mem} {f : Nat → Int64} {H : Heap} {locs : List Loc} {ls : Array Slot} (i j : Nat) (hi : i + 3 ≤ L) (hj : j < 512) (hI : Inv M N) (hW : LW D cA cL ad am ob M N f H) (hS : va_S (A0 s) s.heap H locs) (hl : lv_has ls 7 [(0, .ref b), (1, .ref (ad 8)), (2, .ref (am 0)), (3, .ref ob), (4, .int (nI i))])
    (hend : ∀ (M N : Mem) (f : Nat → Int64) (H : Heap) (locs : List Loc) (ls : Array Slot), Inv M N → LW D cA cL ad am ob M N f H → va_S (A0 s) s.heap H locs → lv_has ls 7 [(0, .ref b), (1, .ref (ad 8)), (2, .ref (am 0)), (3, .ref ob), (4, .int (nI i))] → W p l e room_1 s m #[Value.ref b] below meth c H locs (19 + 4 * (j + 1)) (263275 + 24 * (j + 1)) (lw_Z below #[Value.ref b] s) (F0 m 1190 ls [])) : W p l e room_1 s m #[Value.ref b] below meth c H locs (19 + 4 * j) (263275 + 24 * j) (lw_Z below #[Value.ref b] s) (F0 m 734 ls []) := by
  obtain ⟨C0, hst, hK, hKL, hDD, hT, hN⟩ := C1
  obtain ⟨hx, hb, hr0, hml, hown, hts0, hX, hbl, hlocks, hgv⟩ := C0
  have hts : ∀ w ∈ wsL_law, w.before #[Value.ref b] s = true := fun w h => hts0 w (wsL_law_in w h)
  have S5 : CallFix p m c code 7 s #[Value.ref b] wsL_law RL := ⟨hx, hb, hml, hown, hts⟩
  have hbA : ¬ A0 s b := Nat.not_le.mpr hbl
  obtain ⟨r, q, hf, hq, hr, hthr, hval, hI2⟩ := sim_solveByAll hI
  refine lv_aload_n hx hb dL_law_734 rfl (lv_at hl 1 rfl) ?_
  refine lv_aload_n hx hb dL_law_735 rfl (lv_at hl 3 rfl) ?_
  refine cLH S5 hK hKL hDD hT hN hW hS (As := [.ref (ad 8), .ref ob]) (kL_solveByAll l D cA cL ad ob sa hst _ _ r hf hr) (vx_cwSW 2 hts gL_law_L_solveByAll rfl rfl rfl (by decide +kernel) ⟨(Nat.le_of_ble_eq_true rfl), (Nat.le_of_ble_eq_true rfl)⟩) rfl hl.1 (st0 := _) (rest := []) rfl (Nat.le_of_ble_eq_true rfl) dL_law_736 ⟨(by show _ ≤ room_1.cells; have := rC; omega), (by show _ ≤ room_1.slots; have := rS; omega)⟩ (fun H locs f hg hW hS => ?_)
  refine lv_istore (lv' := [(5, .int (hcd 2 r)), (0, .ref b), (1, .ref (ad 8)), (2, .ref (am 0)), (3, .ref ob), (4, .int (nI i))]) hx hb dL_law_739 hl (by decide) rfl (fun ls hl => ?_)
  refine lv_aload_n hx hb dL_law_741 rfl (lv_at hl 3 rfl) ?_
  refine cLM S5 hK hDD hW hS (As := []) (kX6_solveByAll l D cA am _ q hq) (cwV 0 hts gL_law_X6_solveByAll rfl rfl rfl (by decide +kernel) ⟨(Nat.le_of_ble_eq_true rfl), (Nat.le_of_ble_eq_true rfl)⟩) rfl hl.1 (st0 := _) (rest := []) rfl (Nat.le_of_ble_eq_true rfl) dL_law_742 ⟨(by show _ ≤ room_1.cells; have := rC; omega), (by show _ ≤ room_1.slots; have := rS; omega)⟩ (fun H locs hW hS => ?_)
  refine lv_istore (lv' := [(6, .int q.1), (5, .int (hcd 2 r)), (0, .ref b), (1, .ref (ad 8)), (2, .ref (am 0)), (3, .ref ob), (4, .int (nI i))]) hx hb dL_law_745 hl (by decide) rfl (fun ls hl => ?_)
  refine lv_aload_n hx hb dL_law_747 rfl (lv_at hl 4 rfl) ?_
  refine cVM S5 hK hW.2.1 0 rfl rfl (As := []) (kX6_thrown l D cA am _) (cwV 0 hts gL_law_X6_thrown rfl rfl rfl (by decide +kernel) ⟨(Nat.le_of_ble_eq_true rfl), (Nat.le_of_ble_eq_true rfl)⟩) rfl hl.1 (st0 := _) (rest := []) rfl (Nat.le_of_ble_eq_true rfl) dL_law_748 ⟨(by show _ ≤ room_1.cells; have := rC; omega), (by show _ ≤ room_1.slots; have := rS; omega)⟩ ?_
  refine l_top hthr ?_
  refine lv_iload hx hb dL_law_751 (lv_at hl 1 rfl) ?_
  refine lv_icmp_eq (tgt := 758) hx hb dL_law_753 (by decide) (fun _ => ?_) (fun c9 => absurd rfl c9)
  refine lv_iload hx hb dL_law_758 (lv_at hl 1 rfl) ?_
  refine lv_if_ne (tgt := 775) hx hb dL_law_760 (by decide) (fun c5 => ?_) (fun c5 => ?_)
  · refine lv_goto (tgt := 1190) hx hb dL_law_775 (by decide) ?_
    refine W.widen (k := 19 + 4 * (j + 1)) (n := 263275 + 24 * (j + 1)) (by omega) (by omega) ?_
    exact hend _ _ _ _ _ _ hI2 hW hS (lv_sub hl [2, 3, 4, 5, 6] rfl)
  · have h0 := hcd0 c5
    refine lv_aload_n hx hb dL_law_763 rfl (lv_at hl 5 rfl) ?_
    refine lv_iconst (v := 0) hx hb dL_law_764 (by decide) ?_
    refine va_lald (tys := [(cL, .long)]) hx hb hKL hW.2.2 0 0 rfl rfl (vin_in (by decide)) dL_law_765 ?_
    refine l_topL (v := r.2.1.toInt64) (hg h0) ?_
    refine lv_iload hx hb dL_law_766 (lv_at hl 0 rfl) ?_
    refine lv_i2l (v := q.1.toInt64) hx hb dL_law_768 rfl ?_
    refine W.lcmp hx hb dL_law_769 ?_
    refine l_top (v := 0) (by rw [hval h0]; exact lg_cmp_self _) ?_
    refine lv_if_eq (tgt := 775) hx hb dL_law_770 (by decide) (fun _ => ?_) (fun c9 => absurd rfl c9)
    refine lv_goto (tgt := 1190) hx hb dL_law_775 (by decide) ?_
    refine W.widen (k := 19 + 4 * (j + 1)) (n := 263275 + 24 * (j + 1)) (by omega) (by omega) ?_
    exact hend _ _ _ _ _ _ hI2 hW hS (lv_sub hl [2, 3, 4, 5, 6] rfl)
set_option maxHeartbeats 4000000 in
set_option maxRecDepth 100000 in
theorem law_value {p : Program} {l : Launch} {e : Env} {s : State} {m : MethodId} {below : List Frame} {meth : Method} {c : Code} {b L : Nat} {xs : Nat → Int32} {D : va_G} {cA cL : Nat} {ad am : Nat → Nat} {ob : Nat} {sa : Nat → Nat} (C1 : LC l p s m meth c b L xs D cA cL ad am ob sa) (hL : L ≤ 1536) {M N : Mem} {f : Nat → Int64} {H : Heap} {locs : List Loc} {ls : Array Slot} (i j : Nat) (hi : i + 3 ≤ L) (hj : j < 512) (hI : Inv M N) (hW : LW D cA cL ad am ob M N f H) (hS : va_S (A0 s) s.heap H locs) (hl : lv_has ls 7 [(0, .ref b), (1, .ref (ad 8)), (2, .ref (am 0)), (3, .ref ob), (4, .int (nI i))])
    (hend : ∀ (M N : Mem) (f : Nat → Int64) (H : Heap) (locs : List Loc) (ls : Array Slot), Inv M N → LW D cA cL ad am ob M N f H → va_S (A0 s) s.heap H locs → lv_has ls 7 [(0, .ref b), (1, .ref (ad 8)), (2, .ref (am 0)), (3, .ref ob), (4, .int (nI i))] → W p l e room_1 s m #[Value.ref b] below meth c H locs (19 + 4 * (j + 1)) (263275 + 24 * (j + 1)) (lw_Z below #[Value.ref b] s) (F0 m 1190 ls [])) : W p l e room_1 s m #[Value.ref b] below meth c H locs (19 + 4 * j) (263275 + 24 * j) (lw_Z below #[Value.ref b] s) (F0 m 778 ls []) := by
  obtain ⟨C0, hst, hK, hKL, hDD, hT, hN⟩ := C1
  obtain ⟨hx, hb, hr0, hml, hown, hts0, hX, hbl, hlocks, hgv⟩ := C0
  have hts : ∀ w ∈ wsL_law, w.before #[Value.ref b] s = true := fun w h => hts0 w (wsL_law_in w h)
  have S5 : CallFix p m c code 7 s #[Value.ref b] wsL_law RL := ⟨hx, hb, hml, hown, hts⟩
  have hbA : ¬ A0 s b := Nat.not_le.mpr hbl
  obtain ⟨p1, hp1⟩ : ∃ z, xs ((nI i + 1).toNatClampNeg) = z := ⟨_, rfl⟩
  have hv1 : vp_in (nI i + 1) L := by rw [show nI i + 1 = nI (i + 1) from nI_add i 1]; exact vp_in_nI (by omega) (by omega)
  obtain ⟨r, q, hf, hq, hr, hthr, hval, hI2⟩ := sim_value hI p1
  refine lv_aload_n hx hb dL_law_778 rfl (lv_at hl 1 rfl) ?_
  refine lv_aload_n hx hb dL_law_779 rfl (lv_at hl 0 rfl) ?_
  refine lv_iload hx hb dL_law_780 (lv_at hl 4 rfl) ?_
  refine lv_iconst (v := 1) hx hb dL_law_782 (by decide) ?_
  refine lv_iadd hx hb dL_law_783 ?_
  refine va_sld hx hb hX hbl hbA hS hv1 dL_law_784 ?_
  refine l_top hp1 ?_
  refine lv_aload_n hx hb dL_law_785 rfl (lv_at hl 3 rfl) ?_
  refine cLH S5 hK hKL hDD hT hN hW hS (As := [.ref (ad 8), .int p1, .ref ob]) (kL_value l D cA cL ad ob sa hst p1 _ _ r hf hr) (vx_cwSW 3 hts gL_law_L_value rfl rfl rfl (by decide +kernel) ⟨(Nat.le_of_ble_eq_true rfl), (Nat.le_of_ble_eq_true rfl)⟩) rfl hl.1 (st0 := _) (rest := []) rfl (Nat.le_of_ble_eq_true rfl) dL_law_786 ⟨(by show _ ≤ room_1.cells; have := rC; omega), (by show _ ≤ room_1.slots; have := rS; omega)⟩ (fun H locs f hg hW hS => ?_)
  refine lv_istore (lv' := [(5, .int (hcd 1 r)), (0, .ref b), (1, .ref (ad 8)), (2, .ref (am 0)), (3, .ref ob), (4, .int (nI i))]) hx hb dL_law_789 hl (by decide) rfl (fun ls hl => ?_)
  refine lv_aload_n hx hb dL_law_791 rfl (lv_at hl 3 rfl) ?_
  refine lv_aload_n hx hb dL_law_792 rfl (lv_at hl 1 rfl) ?_
  refine lv_iload hx hb dL_law_793 (lv_at hl 5 rfl) ?_
  refine lv_iconst (v := 1) hx hb dL_law_795 (by decide) ?_
  refine lv_iadd hx hb dL_law_796 ?_
  refine va_sld hx hb hX hbl hbA hS hv1 dL_law_797 ?_
  refine l_top hp1 ?_
  refine cLM S5 hK hDD hW hS (As := [.int p1]) (kX6_value l D cA am p1 _ q hq) (cwV 1 hts gL_law_X6_value rfl rfl rfl (by decide +kernel) ⟨(Nat.le_of_ble_eq_true rfl), (Nat.le_of_ble_eq_true rfl)⟩) rfl hl.1 (st0 := _) (rest := []) rfl (Nat.le_of_ble_eq_true rfl) dL_law_798 ⟨(by show _ ≤ room_1.cells; have := rC; omega), (by show _ ≤ room_1.slots; have := rS; omega)⟩ (fun H locs hW hS => ?_)
  refine lv_istore (lv' := [(6, .int q.1), (5, .int (hcd 1 r)), (0, .ref b), (1, .ref (ad 8)), (2, .ref (am 0)), (3, .ref ob), (4, .int (nI i))]) hx hb dL_law_801 hl (by decide) rfl (fun ls hl => ?_)
  refine lv_aload_n hx hb dL_law_803 rfl (lv_at hl 4 rfl) ?_
  refine cVM S5 hK hW.2.1 0 rfl rfl (As := []) (kX6_thrown l D cA am _) (cwV 0 hts gL_law_X6_thrown rfl rfl rfl (by decide +kernel) ⟨(Nat.le_of_ble_eq_true rfl), (Nat.le_of_ble_eq_true rfl)⟩) rfl hl.1 (st0 := _) (rest := []) rfl (Nat.le_of_ble_eq_true rfl) dL_law_804 ⟨(by show _ ≤ room_1.cells; have := rC; omega), (by show _ ≤ room_1.slots; have := rS; omega)⟩ ?_
  refine l_top hthr ?_
  refine lv_iload hx hb dL_law_807 (lv_at hl 1 rfl) ?_
  refine lv_icmp_eq (tgt := 814) hx hb dL_law_809 (by decide) (fun _ => ?_) (fun c9 => absurd rfl c9)
  refine lv_iload hx hb dL_law_814 (lv_at hl 1 rfl) ?_
  refine lv_if_ne (tgt := 831) hx hb dL_law_816 (by decide) (fun c5 => ?_) (fun c5 => ?_)
  · refine lv_goto (tgt := 1190) hx hb dL_law_831 (by decide) ?_
    refine W.widen (k := 19 + 4 * (j + 1)) (n := 263275 + 24 * (j + 1)) (by omega) (by omega) ?_
    exact hend _ _ _ _ _ _ hI2 hW hS (lv_sub hl [2, 3, 4, 5, 6] rfl)
  · have h0 := hcd0 c5
    refine lv_aload_n hx hb dL_law_819 rfl (lv_at hl 5 rfl) ?_
    refine lv_iconst (v := 0) hx hb dL_law_820 (by decide) ?_
    refine va_lald (tys := [(cL, .long)]) hx hb hKL hW.2.2 0 0 rfl rfl (vin_in (by decide)) dL_law_821 ?_
    refine l_topL (v := r.2.1.toInt64) (hg h0) ?_
    refine lv_iload hx hb dL_law_822 (lv_at hl 0 rfl) ?_
    refine lv_i2l (v := q.1.toInt64) hx hb dL_law_824 rfl ?_
    refine W.lcmp hx hb dL_law_825 ?_
    refine l_top (v := 0) (by rw [hval h0]; exact lg_cmp_self _) ?_
    refine lv_if_eq (tgt := 831) hx hb dL_law_826 (by decide) (fun _ => ?_) (fun c9 => absurd rfl c9)
    refine lv_goto (tgt := 1190) hx hb dL_law_831 (by decide) ?_
    refine W.widen (k := 19 + 4 * (j + 1)) (n := 263275 + 24 * (j + 1)) (by omega) (by omega) ?_
    exact hend _ _ _ _ _ _ hI2 hW hS (lv_sub hl [2, 3, 4, 5, 6] rfl)
set_option maxHeartbeats 4000000 in
set_option maxRecDepth 100000 in
theorem law_bestCard {p : Program} {l : Launch} {e : Env} {s : State} {m : MethodId} {below : List Frame} {meth : Method} {c : Code} {b L : Nat} {xs : Nat → Int32} {D : va_G} {cA cL : Nat} {ad am : Nat → Nat} {ob : Nat} {sa : Nat → Nat} (C1 : LC l p s m meth c b L xs D cA cL ad am ob sa) (hL : L ≤ 1536) {M N : Mem} {f : Nat → Int64} {H : Heap} {locs : List Loc} {ls : Array Slot} (i j : Nat) (hi : i + 3 ≤ L) (hj : j < 512) (hI : Inv M N) (hW : LW D cA cL ad am ob M N f H) (hS : va_S (A0 s) s.heap H locs) (hl : lv_has ls 7 [(0, .ref b), (1, .ref (ad 8)), (2, .ref (am 0)), (3, .ref ob), (4, .int (nI i))])
    (hend : ∀ (M N : Mem) (f : Nat → Int64) (H : Heap) (locs : List Loc) (ls : Array Slot), Inv M N → LW D cA cL ad am ob M N f H → va_S (A0 s) s.heap H locs → lv_has ls 7 [(0, .ref b), (1, .ref (ad 8)), (2, .ref (am 0)), (3, .ref ob), (4, .int (nI i))] → W p l e room_1 s m #[Value.ref b] below meth c H locs (19 + 4 * (j + 1)) (263275 + 24 * (j + 1)) (lw_Z below #[Value.ref b] s) (F0 m 1190 ls [])) : W p l e room_1 s m #[Value.ref b] below meth c H locs (19 + 4 * j) (263275 + 24 * j) (lw_Z below #[Value.ref b] s) (F0 m 834 ls []) := by
  obtain ⟨C0, hst, hK, hKL, hDD, hT, hN⟩ := C1
  obtain ⟨hx, hb, hr0, hml, hown, hts0, hX, hbl, hlocks, hgv⟩ := C0
  have hts : ∀ w ∈ wsL_law, w.before #[Value.ref b] s = true := fun w h => hts0 w (wsL_law_in w h)
  have S5 : CallFix p m c code 7 s #[Value.ref b] wsL_law RL := ⟨hx, hb, hml, hown, hts⟩
  have hbA : ¬ A0 s b := Nat.not_le.mpr hbl
  obtain ⟨r, q, hf, hq, hr, hthr, hval, hI2⟩ := sim_bestCard hI
  refine lv_aload_n hx hb dL_law_834 rfl (lv_at hl 1 rfl) ?_
  refine lv_aload_n hx hb dL_law_835 rfl (lv_at hl 3 rfl) ?_
  refine cLH S5 hK hKL hDD hT hN hW hS (As := [.ref (ad 8), .ref ob]) (kL_bestCard l D cA cL ad ob sa hst _ _ r hf hr) (vx_cwSW 2 hts gL_law_L_bestCard rfl rfl rfl (by decide +kernel) ⟨(Nat.le_of_ble_eq_true rfl), (Nat.le_of_ble_eq_true rfl)⟩) rfl hl.1 (st0 := _) (rest := []) rfl (Nat.le_of_ble_eq_true rfl) dL_law_836 ⟨(by show _ ≤ room_1.cells; have := rC; omega), (by show _ ≤ room_1.slots; have := rS; omega)⟩ (fun H locs f hg hW hS => ?_)
  refine lv_istore (lv' := [(5, .int (hcd 2 r)), (0, .ref b), (1, .ref (ad 8)), (2, .ref (am 0)), (3, .ref ob), (4, .int (nI i))]) hx hb dL_law_839 hl (by decide) rfl (fun ls hl => ?_)
  refine lv_aload_n hx hb dL_law_841 rfl (lv_at hl 3 rfl) ?_
  refine cLM S5 hK hDD hW hS (As := []) (kX6_bestCard l D cA am _ q hq) (cwV 0 hts gL_law_X6_bestCard rfl rfl rfl (by decide +kernel) ⟨(Nat.le_of_ble_eq_true rfl), (Nat.le_of_ble_eq_true rfl)⟩) rfl hl.1 (st0 := _) (rest := []) rfl (Nat.le_of_ble_eq_true rfl) dL_law_842 ⟨(by show _ ≤ room_1.cells; have := rC; omega), (by show _ ≤ room_1.slots; have := rS; omega)⟩ (fun H locs hW hS => ?_)
  refine lv_istore (lv' := [(6, .int q.1), (5, .int (hcd 2 r)), (0, .ref b), (1, .ref (ad 8)), (2, .ref (am 0)), (3, .ref ob), (4, .int (nI i))]) hx hb dL_law_845 hl (by decide) rfl (fun ls hl => ?_)
  refine lv_aload_n hx hb dL_law_847 rfl (lv_at hl 4 rfl) ?_
  refine cVM S5 hK hW.2.1 0 rfl rfl (As := []) (kX6_thrown l D cA am _) (cwV 0 hts gL_law_X6_thrown rfl rfl rfl (by decide +kernel) ⟨(Nat.le_of_ble_eq_true rfl), (Nat.le_of_ble_eq_true rfl)⟩) rfl hl.1 (st0 := _) (rest := []) rfl (Nat.le_of_ble_eq_true rfl) dL_law_848 ⟨(by show _ ≤ room_1.cells; have := rC; omega), (by show _ ≤ room_1.slots; have := rS; omega)⟩ ?_
  refine l_top hthr ?_
  refine lv_iload hx hb dL_law_851 (lv_at hl 1 rfl) ?_
  refine lv_icmp_eq (tgt := 858) hx hb dL_law_853 (by decide) (fun _ => ?_) (fun c9 => absurd rfl c9)
  refine lv_iload hx hb dL_law_858 (lv_at hl 1 rfl) ?_
  refine lv_if_ne (tgt := 875) hx hb dL_law_860 (by decide) (fun c5 => ?_) (fun c5 => ?_)
  · refine lv_goto (tgt := 1190) hx hb dL_law_875 (by decide) ?_
    refine W.widen (k := 19 + 4 * (j + 1)) (n := 263275 + 24 * (j + 1)) (by omega) (by omega) ?_
    exact hend _ _ _ _ _ _ hI2 hW hS (lv_sub hl [2, 3, 4, 5, 6] rfl)
  · have h0 := hcd0 c5
    refine lv_aload_n hx hb dL_law_863 rfl (lv_at hl 5 rfl) ?_
    refine lv_iconst (v := 0) hx hb dL_law_864 (by decide) ?_
    refine va_lald (tys := [(cL, .long)]) hx hb hKL hW.2.2 0 0 rfl rfl (vin_in (by decide)) dL_law_865 ?_
    refine l_topL (v := r.2.1.toInt64) (hg h0) ?_
    refine lv_iload hx hb dL_law_866 (lv_at hl 0 rfl) ?_
    refine lv_i2l (v := q.1.toInt64) hx hb dL_law_868 rfl ?_
    refine W.lcmp hx hb dL_law_869 ?_
    refine l_top (v := 0) (by rw [hval h0]; exact lg_cmp_self _) ?_
    refine lv_if_eq (tgt := 875) hx hb dL_law_870 (by decide) (fun _ => ?_) (fun c9 => absurd rfl c9)
    refine lv_goto (tgt := 1190) hx hb dL_law_875 (by decide) ?_
    refine W.widen (k := 19 + 4 * (j + 1)) (n := 263275 + 24 * (j + 1)) (by omega) (by omega) ?_
    exact hend _ _ _ _ _ _ hI2 hW hS (lv_sub hl [2, 3, 4, 5, 6] rfl)
set_option maxHeartbeats 4000000 in
set_option maxRecDepth 100000 in
theorem law_lowestEqual {p : Program} {l : Launch} {e : Env} {s : State} {m : MethodId} {below : List Frame} {meth : Method} {c : Code} {b L : Nat} {xs : Nat → Int32} {D : va_G} {cA cL : Nat} {ad am : Nat → Nat} {ob : Nat} {sa : Nat → Nat} (C1 : LC l p s m meth c b L xs D cA cL ad am ob sa) (hL : L ≤ 1536) {M N : Mem} {f : Nat → Int64} {H : Heap} {locs : List Loc} {ls : Array Slot} (i j : Nat) (hi : i + 3 ≤ L) (hj : j < 512) (hI : Inv M N) (hW : LW D cA cL ad am ob M N f H) (hS : va_S (A0 s) s.heap H locs) (hl : lv_has ls 7 [(0, .ref b), (1, .ref (ad 8)), (2, .ref (am 0)), (3, .ref ob), (4, .int (nI i))])
    (hend : ∀ (M N : Mem) (f : Nat → Int64) (H : Heap) (locs : List Loc) (ls : Array Slot), Inv M N → LW D cA cL ad am ob M N f H → va_S (A0 s) s.heap H locs → lv_has ls 7 [(0, .ref b), (1, .ref (ad 8)), (2, .ref (am 0)), (3, .ref ob), (4, .int (nI i))] → W p l e room_1 s m #[Value.ref b] below meth c H locs (19 + 4 * (j + 1)) (263275 + 24 * (j + 1)) (lw_Z below #[Value.ref b] s) (F0 m 1190 ls [])) : W p l e room_1 s m #[Value.ref b] below meth c H locs (19 + 4 * j) (263275 + 24 * j) (lw_Z below #[Value.ref b] s) (F0 m 878 ls []) := by
  obtain ⟨C0, hst, hK, hKL, hDD, hT, hN⟩ := C1
  obtain ⟨hx, hb, hr0, hml, hown, hts0, hX, hbl, hlocks, hgv⟩ := C0
  have hts : ∀ w ∈ wsL_law, w.before #[Value.ref b] s = true := fun w h => hts0 w (wsL_law_in w h)
  have S5 : CallFix p m c code 7 s #[Value.ref b] wsL_law RL := ⟨hx, hb, hml, hown, hts⟩
  have hbA : ¬ A0 s b := Nat.not_le.mpr hbl
  obtain ⟨p1, hp1⟩ : ∃ z, xs ((nI i + 1).toNatClampNeg) = z := ⟨_, rfl⟩
  have hv1 : vp_in (nI i + 1) L := by rw [show nI i + 1 = nI (i + 1) from nI_add i 1]; exact vp_in_nI (by omega) (by omega)
  obtain ⟨r, q, hf, hq, hr, hthr, hval, hI2⟩ := sim_lowestEqual hI p1
  refine lv_aload_n hx hb dL_law_878 rfl (lv_at hl 1 rfl) ?_
  refine lv_aload_n hx hb dL_law_879 rfl (lv_at hl 0 rfl) ?_
  refine lv_iload hx hb dL_law_880 (lv_at hl 4 rfl) ?_
  refine lv_iconst (v := 1) hx hb dL_law_882 (by decide) ?_
  refine lv_iadd hx hb dL_law_883 ?_
  refine va_sld hx hb hX hbl hbA hS hv1 dL_law_884 ?_
  refine l_top hp1 ?_
  refine lv_aload_n hx hb dL_law_885 rfl (lv_at hl 3 rfl) ?_
  refine cLH S5 hK hKL hDD hT hN hW hS (As := [.ref (ad 8), .int p1, .ref ob]) (kL_lowestEqual l D cA cL ad ob sa hst p1 _ _ r hf hr) (vx_cwSW 3 hts gL_law_L_lowestEqual rfl rfl rfl (by decide +kernel) ⟨(Nat.le_of_ble_eq_true rfl), (Nat.le_of_ble_eq_true rfl)⟩) rfl hl.1 (st0 := _) (rest := []) rfl (Nat.le_of_ble_eq_true rfl) dL_law_886 ⟨(by show _ ≤ room_1.cells; have := rC; omega), (by show _ ≤ room_1.slots; have := rS; omega)⟩ (fun H locs f hg hW hS => ?_)
  refine lv_istore (lv' := [(5, .int (hcd 1 r)), (0, .ref b), (1, .ref (ad 8)), (2, .ref (am 0)), (3, .ref ob), (4, .int (nI i))]) hx hb dL_law_889 hl (by decide) rfl (fun ls hl => ?_)
  refine lv_aload_n hx hb dL_law_891 rfl (lv_at hl 3 rfl) ?_
  refine lv_aload_n hx hb dL_law_892 rfl (lv_at hl 1 rfl) ?_
  refine lv_iload hx hb dL_law_893 (lv_at hl 5 rfl) ?_
  refine lv_iconst (v := 1) hx hb dL_law_895 (by decide) ?_
  refine lv_iadd hx hb dL_law_896 ?_
  refine va_sld hx hb hX hbl hbA hS hv1 dL_law_897 ?_
  refine l_top hp1 ?_
  refine cLM S5 hK hDD hW hS (As := [.int p1]) (kX6_lowestEqual l D cA am p1 _ q hq) (cwV 1 hts gL_law_X6_lowestEqual rfl rfl rfl (by decide +kernel) ⟨(Nat.le_of_ble_eq_true rfl), (Nat.le_of_ble_eq_true rfl)⟩) rfl hl.1 (st0 := _) (rest := []) rfl (Nat.le_of_ble_eq_true rfl) dL_law_898 ⟨(by show _ ≤ room_1.cells; have := rC; omega), (by show _ ≤ room_1.slots; have := rS; omega)⟩ (fun H locs hW hS => ?_)
  refine lv_istore (lv' := [(6, .int q.1), (5, .int (hcd 1 r)), (0, .ref b), (1, .ref (ad 8)), (2, .ref (am 0)), (3, .ref ob), (4, .int (nI i))]) hx hb dL_law_901 hl (by decide) rfl (fun ls hl => ?_)
  refine lv_aload_n hx hb dL_law_903 rfl (lv_at hl 4 rfl) ?_
  refine cVM S5 hK hW.2.1 0 rfl rfl (As := []) (kX6_thrown l D cA am _) (cwV 0 hts gL_law_X6_thrown rfl rfl rfl (by decide +kernel) ⟨(Nat.le_of_ble_eq_true rfl), (Nat.le_of_ble_eq_true rfl)⟩) rfl hl.1 (st0 := _) (rest := []) rfl (Nat.le_of_ble_eq_true rfl) dL_law_904 ⟨(by show _ ≤ room_1.cells; have := rC; omega), (by show _ ≤ room_1.slots; have := rS; omega)⟩ ?_
  refine l_top hthr ?_
  refine lv_iload hx hb dL_law_907 (lv_at hl 1 rfl) ?_
  refine lv_icmp_eq (tgt := 914) hx hb dL_law_909 (by decide) (fun _ => ?_) (fun c9 => absurd rfl c9)
  refine lv_iload hx hb dL_law_914 (lv_at hl 1 rfl) ?_
  refine lv_if_ne (tgt := 931) hx hb dL_law_916 (by decide) (fun c5 => ?_) (fun c5 => ?_)
  · refine lv_goto (tgt := 1190) hx hb dL_law_931 (by decide) ?_
    refine W.widen (k := 19 + 4 * (j + 1)) (n := 263275 + 24 * (j + 1)) (by omega) (by omega) ?_
    exact hend _ _ _ _ _ _ hI2 hW hS (lv_sub hl [2, 3, 4, 5, 6] rfl)
  · have h0 := hcd0 c5
    refine lv_aload_n hx hb dL_law_919 rfl (lv_at hl 5 rfl) ?_
    refine lv_iconst (v := 0) hx hb dL_law_920 (by decide) ?_
    refine va_lald (tys := [(cL, .long)]) hx hb hKL hW.2.2 0 0 rfl rfl (vin_in (by decide)) dL_law_921 ?_
    refine l_topL (v := r.2.1.toInt64) (hg h0) ?_
    refine lv_iload hx hb dL_law_922 (lv_at hl 0 rfl) ?_
    refine lv_i2l (v := q.1.toInt64) hx hb dL_law_924 rfl ?_
    refine W.lcmp hx hb dL_law_925 ?_
    refine l_top (v := 0) (by rw [hval h0]; exact lg_cmp_self _) ?_
    refine lv_if_eq (tgt := 931) hx hb dL_law_926 (by decide) (fun _ => ?_) (fun c9 => absurd rfl c9)
    refine lv_goto (tgt := 1190) hx hb dL_law_931 (by decide) ?_
    refine W.widen (k := 19 + 4 * (j + 1)) (n := 263275 + 24 * (j + 1)) (by omega) (by omega) ?_
    exact hend _ _ _ _ _ _ hI2 hW hS (lv_sub hl [2, 3, 4, 5, 6] rfl)
set_option maxHeartbeats 4000000 in
set_option maxRecDepth 100000 in
theorem law_unlike {p : Program} {l : Launch} {e : Env} {s : State} {m : MethodId} {below : List Frame} {meth : Method} {c : Code} {b L : Nat} {xs : Nat → Int32} {D : va_G} {cA cL : Nat} {ad am : Nat → Nat} {ob : Nat} {sa : Nat → Nat} (C1 : LC l p s m meth c b L xs D cA cL ad am ob sa) (hL : L ≤ 1536) {M N : Mem} {f : Nat → Int64} {H : Heap} {locs : List Loc} {ls : Array Slot} (i j : Nat) (hi : i + 3 ≤ L) (hj : j < 512) (hI : Inv M N) (hW : LW D cA cL ad am ob M N f H) (hS : va_S (A0 s) s.heap H locs) (hl : lv_has ls 7 [(0, .ref b), (1, .ref (ad 8)), (2, .ref (am 0)), (3, .ref ob), (4, .int (nI i))])
    (hend : ∀ (M N : Mem) (f : Nat → Int64) (H : Heap) (locs : List Loc) (ls : Array Slot), Inv M N → LW D cA cL ad am ob M N f H → va_S (A0 s) s.heap H locs → lv_has ls 7 [(0, .ref b), (1, .ref (ad 8)), (2, .ref (am 0)), (3, .ref ob), (4, .int (nI i))] → W p l e room_1 s m #[Value.ref b] below meth c H locs (19 + 4 * (j + 1)) (263275 + 24 * (j + 1)) (lw_Z below #[Value.ref b] s) (F0 m 1190 ls [])) : W p l e room_1 s m #[Value.ref b] below meth c H locs (19 + 4 * j) (263275 + 24 * j) (lw_Z below #[Value.ref b] s) (F0 m 934 ls []) := by
  obtain ⟨C0, hst, hK, hKL, hDD, hT, hN⟩ := C1
  obtain ⟨hx, hb, hr0, hml, hown, hts0, hX, hbl, hlocks, hgv⟩ := C0
  have hts : ∀ w ∈ wsL_law, w.before #[Value.ref b] s = true := fun w h => hts0 w (wsL_law_in w h)
  have S5 : CallFix p m c code 7 s #[Value.ref b] wsL_law RL := ⟨hx, hb, hml, hown, hts⟩
  have hbA : ¬ A0 s b := Nat.not_le.mpr hbl
  obtain ⟨p1, hp1⟩ : ∃ z, xs ((nI i + 1).toNatClampNeg) = z := ⟨_, rfl⟩
  have hv1 : vp_in (nI i + 1) L := by rw [show nI i + 1 = nI (i + 1) from nI_add i 1]; exact vp_in_nI (by omega) (by omega)
  obtain ⟨r, q, hf, hq, hr, hthr, hval, hI2⟩ := sim_unlike hI p1
  refine lv_aload_n hx hb dL_law_934 rfl (lv_at hl 1 rfl) ?_
  refine lv_aload_n hx hb dL_law_935 rfl (lv_at hl 0 rfl) ?_
  refine lv_iload hx hb dL_law_936 (lv_at hl 4 rfl) ?_
  refine lv_iconst (v := 1) hx hb dL_law_938 (by decide) ?_
  refine lv_iadd hx hb dL_law_939 ?_
  refine va_sld hx hb hX hbl hbA hS hv1 dL_law_940 ?_
  refine l_top hp1 ?_
  refine lv_aload_n hx hb dL_law_941 rfl (lv_at hl 3 rfl) ?_
  refine cLH S5 hK hKL hDD hT hN hW hS (As := [.ref (ad 8), .int p1, .ref ob]) (kL_unlike l D cA cL ad ob sa hst p1 _ _ r hf hr) (vx_cwSW 3 hts gL_law_L_unlike rfl rfl rfl (by decide +kernel) ⟨(Nat.le_of_ble_eq_true rfl), (Nat.le_of_ble_eq_true rfl)⟩) rfl hl.1 (st0 := _) (rest := []) rfl (Nat.le_of_ble_eq_true rfl) dL_law_942 ⟨(by show _ ≤ room_1.cells; have := rC; omega), (by show _ ≤ room_1.slots; have := rS; omega)⟩ (fun H locs f hg hW hS => ?_)
  refine lv_istore (lv' := [(5, .int (hcd 1 r)), (0, .ref b), (1, .ref (ad 8)), (2, .ref (am 0)), (3, .ref ob), (4, .int (nI i))]) hx hb dL_law_945 hl (by decide) rfl (fun ls hl => ?_)
  refine lv_aload_n hx hb dL_law_947 rfl (lv_at hl 3 rfl) ?_
  refine lv_aload_n hx hb dL_law_948 rfl (lv_at hl 1 rfl) ?_
  refine lv_iload hx hb dL_law_949 (lv_at hl 5 rfl) ?_
  refine lv_iconst (v := 1) hx hb dL_law_951 (by decide) ?_
  refine lv_iadd hx hb dL_law_952 ?_
  refine va_sld hx hb hX hbl hbA hS hv1 dL_law_953 ?_
  refine l_top hp1 ?_
  refine cLM S5 hK hDD hW hS (As := [.int p1]) (kX6_unlike l D cA am p1 _ q hq) (cwV 1 hts gL_law_X6_unlike rfl rfl rfl (by decide +kernel) ⟨(Nat.le_of_ble_eq_true rfl), (Nat.le_of_ble_eq_true rfl)⟩) rfl hl.1 (st0 := _) (rest := []) rfl (Nat.le_of_ble_eq_true rfl) dL_law_954 ⟨(by show _ ≤ room_1.cells; have := rC; omega), (by show _ ≤ room_1.slots; have := rS; omega)⟩ (fun H locs hW hS => ?_)
  refine lv_istore (lv' := [(6, .int q.1), (5, .int (hcd 1 r)), (0, .ref b), (1, .ref (ad 8)), (2, .ref (am 0)), (3, .ref ob), (4, .int (nI i))]) hx hb dL_law_957 hl (by decide) rfl (fun ls hl => ?_)
  refine lv_aload_n hx hb dL_law_959 rfl (lv_at hl 4 rfl) ?_
  refine cVM S5 hK hW.2.1 0 rfl rfl (As := []) (kX6_thrown l D cA am _) (cwV 0 hts gL_law_X6_thrown rfl rfl rfl (by decide +kernel) ⟨(Nat.le_of_ble_eq_true rfl), (Nat.le_of_ble_eq_true rfl)⟩) rfl hl.1 (st0 := _) (rest := []) rfl (Nat.le_of_ble_eq_true rfl) dL_law_960 ⟨(by show _ ≤ room_1.cells; have := rC; omega), (by show _ ≤ room_1.slots; have := rS; omega)⟩ ?_
  refine l_top hthr ?_
  refine lv_iload hx hb dL_law_963 (lv_at hl 1 rfl) ?_
  refine lv_icmp_eq (tgt := 970) hx hb dL_law_965 (by decide) (fun _ => ?_) (fun c9 => absurd rfl c9)
  refine lv_iload hx hb dL_law_970 (lv_at hl 1 rfl) ?_
  refine lv_if_ne (tgt := 987) hx hb dL_law_972 (by decide) (fun c5 => ?_) (fun c5 => ?_)
  · refine lv_goto (tgt := 1190) hx hb dL_law_987 (by decide) ?_
    refine W.widen (k := 19 + 4 * (j + 1)) (n := 263275 + 24 * (j + 1)) (by omega) (by omega) ?_
    exact hend _ _ _ _ _ _ hI2 hW hS (lv_sub hl [2, 3, 4, 5, 6] rfl)
  · have h0 := hcd0 c5
    refine lv_aload_n hx hb dL_law_975 rfl (lv_at hl 5 rfl) ?_
    refine lv_iconst (v := 0) hx hb dL_law_976 (by decide) ?_
    refine va_lald (tys := [(cL, .long)]) hx hb hKL hW.2.2 0 0 rfl rfl (vin_in (by decide)) dL_law_977 ?_
    refine l_topL (v := r.2.1.toInt64) (hg h0) ?_
    refine lv_iload hx hb dL_law_978 (lv_at hl 0 rfl) ?_
    refine lv_i2l (v := q.1.toInt64) hx hb dL_law_980 rfl ?_
    refine W.lcmp hx hb dL_law_981 ?_
    refine l_top (v := 0) (by rw [hval h0]; exact lg_cmp_self _) ?_
    refine lv_if_eq (tgt := 987) hx hb dL_law_982 (by decide) (fun _ => ?_) (fun c9 => absurd rfl c9)
    refine lv_goto (tgt := 1190) hx hb dL_law_987 (by decide) ?_
    refine W.widen (k := 19 + 4 * (j + 1)) (n := 263275 + 24 * (j + 1)) (by omega) (by omega) ?_
    exact hend _ _ _ _ _ _ hI2 hW hS (lv_sub hl [2, 3, 4, 5, 6] rfl)
set_option maxHeartbeats 4000000 in
set_option maxRecDepth 100000 in
theorem law_isTop {p : Program} {l : Launch} {e : Env} {s : State} {m : MethodId} {below : List Frame} {meth : Method} {c : Code} {b L : Nat} {xs : Nat → Int32} {D : va_G} {cA cL : Nat} {ad am : Nat → Nat} {ob : Nat} {sa : Nat → Nat} (C1 : LC l p s m meth c b L xs D cA cL ad am ob sa) (hL : L ≤ 1536) {M N : Mem} {f : Nat → Int64} {H : Heap} {locs : List Loc} {ls : Array Slot} (i j : Nat) (hi : i + 3 ≤ L) (hj : j < 512) (hI : Inv M N) (hW : LW D cA cL ad am ob M N f H) (hS : va_S (A0 s) s.heap H locs) (hl : lv_has ls 7 [(0, .ref b), (1, .ref (ad 8)), (2, .ref (am 0)), (3, .ref ob), (4, .int (nI i))])
    (hend : ∀ (M N : Mem) (f : Nat → Int64) (H : Heap) (locs : List Loc) (ls : Array Slot), Inv M N → LW D cA cL ad am ob M N f H → va_S (A0 s) s.heap H locs → lv_has ls 7 [(0, .ref b), (1, .ref (ad 8)), (2, .ref (am 0)), (3, .ref ob), (4, .int (nI i))] → W p l e room_1 s m #[Value.ref b] below meth c H locs (19 + 4 * (j + 1)) (263275 + 24 * (j + 1)) (lw_Z below #[Value.ref b] s) (F0 m 1190 ls [])) : W p l e room_1 s m #[Value.ref b] below meth c H locs (19 + 4 * j) (263275 + 24 * j) (lw_Z below #[Value.ref b] s) (F0 m 990 ls []) := by
  obtain ⟨C0, hst, hK, hKL, hDD, hT, hN⟩ := C1
  obtain ⟨hx, hb, hr0, hml, hown, hts0, hX, hbl, hlocks, hgv⟩ := C0
  have hts : ∀ w ∈ wsL_law, w.before #[Value.ref b] s = true := fun w h => hts0 w (wsL_law_in w h)
  have S5 : CallFix p m c code 7 s #[Value.ref b] wsL_law RL := ⟨hx, hb, hml, hown, hts⟩
  have hbA : ¬ A0 s b := Nat.not_le.mpr hbl
  obtain ⟨p1, hp1⟩ : ∃ z, xs ((nI i + 1).toNatClampNeg) = z := ⟨_, rfl⟩
  have hv1 : vp_in (nI i + 1) L := by rw [show nI i + 1 = nI (i + 1) from nI_add i 1]; exact vp_in_nI (by omega) (by omega)
  obtain ⟨r, q, hf, hq, hr, hthr, hval, hI2, hvb⟩ := sim_isTop hI p1
  refine lv_aload_n hx hb dL_law_990 rfl (lv_at hl 1 rfl) ?_
  refine lv_aload_n hx hb dL_law_991 rfl (lv_at hl 0 rfl) ?_
  refine lv_iload hx hb dL_law_992 (lv_at hl 4 rfl) ?_
  refine lv_iconst (v := 1) hx hb dL_law_994 (by decide) ?_
  refine lv_iadd hx hb dL_law_995 ?_
  refine va_sld hx hb hX hbl hbA hS hv1 dL_law_996 ?_
  refine l_top hp1 ?_
  refine lv_aload_n hx hb dL_law_997 rfl (lv_at hl 3 rfl) ?_
  refine cLH S5 hK hKL hDD hT hN hW hS (As := [.ref (ad 8), .int p1, .ref ob]) (kL_isTop l D cA cL ad ob sa hst p1 _ _ r hf hvb hr) (vx_cwSW 3 hts gL_law_L_isTop rfl rfl rfl (by decide +kernel) ⟨(Nat.le_of_ble_eq_true rfl), (Nat.le_of_ble_eq_true rfl)⟩) rfl hl.1 (st0 := _) (rest := []) rfl (Nat.le_of_ble_eq_true rfl) dL_law_998 ⟨(by show _ ≤ room_1.cells; have := rC; omega), (by show _ ≤ room_1.slots; have := rS; omega)⟩ (fun H locs f hg hW hS => ?_)
  refine lv_istore (lv' := [(5, .int (hcd 1 r)), (0, .ref b), (1, .ref (ad 8)), (2, .ref (am 0)), (3, .ref ob), (4, .int (nI i))]) hx hb dL_law_1001 hl (by decide) rfl (fun ls hl => ?_)
  refine lv_aload_n hx hb dL_law_1003 rfl (lv_at hl 3 rfl) ?_
  refine lv_aload_n hx hb dL_law_1004 rfl (lv_at hl 1 rfl) ?_
  refine lv_iload hx hb dL_law_1005 (lv_at hl 5 rfl) ?_
  refine lv_iconst (v := 1) hx hb dL_law_1007 (by decide) ?_
  refine lv_iadd hx hb dL_law_1008 ?_
  refine va_sld hx hb hX hbl hbA hS hv1 dL_law_1009 ?_
  refine l_top hp1 ?_
  refine cLM S5 hK hDD hW hS (As := [.int p1]) (kX6_isTop l D cA am p1 _ q hq) (cwV 1 hts gL_law_X6_isTop rfl rfl rfl (by decide +kernel) ⟨(Nat.le_of_ble_eq_true rfl), (Nat.le_of_ble_eq_true rfl)⟩) rfl hl.1 (st0 := _) (rest := []) rfl (Nat.le_of_ble_eq_true rfl) dL_law_1010 ⟨(by show _ ≤ room_1.cells; have := rC; omega), (by show _ ≤ room_1.slots; have := rS; omega)⟩ (fun H locs hW hS => ?_)
  refine lv_istore (lv' := [(6, .int q.1), (5, .int (hcd 1 r)), (0, .ref b), (1, .ref (ad 8)), (2, .ref (am 0)), (3, .ref ob), (4, .int (nI i))]) hx hb dL_law_1013 hl (by decide) rfl (fun ls hl => ?_)
  refine lv_aload_n hx hb dL_law_1015 rfl (lv_at hl 4 rfl) ?_
  refine cVM S5 hK hW.2.1 0 rfl rfl (As := []) (kX6_thrown l D cA am _) (cwV 0 hts gL_law_X6_thrown rfl rfl rfl (by decide +kernel) ⟨(Nat.le_of_ble_eq_true rfl), (Nat.le_of_ble_eq_true rfl)⟩) rfl hl.1 (st0 := _) (rest := []) rfl (Nat.le_of_ble_eq_true rfl) dL_law_1016 ⟨(by show _ ≤ room_1.cells; have := rC; omega), (by show _ ≤ room_1.slots; have := rS; omega)⟩ ?_
  refine l_top hthr ?_
  refine lv_iload hx hb dL_law_1019 (lv_at hl 1 rfl) ?_
  refine lv_icmp_eq (tgt := 1026) hx hb dL_law_1021 (by decide) (fun _ => ?_) (fun c9 => absurd rfl c9)
  refine lv_iload hx hb dL_law_1026 (lv_at hl 1 rfl) ?_
  refine lv_if_ne (tgt := 1050) hx hb dL_law_1028 (by decide) (fun c5 => ?_) (fun c5 => ?_)
  · refine lv_goto (tgt := 1190) hx hb dL_law_1050 (by decide) ?_
    refine W.widen (k := 19 + 4 * (j + 1)) (n := 263275 + 24 * (j + 1)) (by omega) (by omega) ?_
    exact hend _ _ _ _ _ _ hI2 hW hS (lv_sub hl [2, 3, 4, 5, 6] rfl)
  · have h0 := hcd0 c5
    refine lv_aload_n hx hb dL_law_1031 rfl (lv_at hl 5 rfl) ?_
    refine lv_iconst (v := 0) hx hb dL_law_1032 (by decide) ?_
    refine va_lald (tys := [(cL, .long)]) hx hb hKL hW.2.2 0 0 rfl rfl (vin_in (by decide)) dL_law_1033 ?_
    refine l_topL (v := r.2.1.toInt64) (hg h0) ?_
    refine lv_iload hx hb dL_law_1034 (lv_at hl 0 rfl) ?_
    refine lv_if_eq (tgt := 1043) hx hb dL_law_1036 (by decide) (fun c6 => ?_) (fun c6 => ?_)
    · refine lv_lconst (v := 0) hx hb dL_law_1043 rfl ?_
      refine W.lcmp hx hb dL_law_1044 ?_
      refine l_top (v := 0) (by rw [hval h0, c6]; exact lg_cmp_self _) ?_
      refine lv_if_eq (tgt := 1050) hx hb dL_law_1045 (by decide) (fun _ => ?_) (fun c9 => absurd rfl c9)
      refine lv_goto (tgt := 1190) hx hb dL_law_1050 (by decide) ?_
      refine W.widen (k := 19 + 4 * (j + 1)) (n := 263275 + 24 * (j + 1)) (by omega) (by omega) ?_
      exact hend _ _ _ _ _ _ hI2 hW hS (lv_sub hl [2, 3, 4, 5, 6] rfl)
    · refine lv_lconst (v := 1) hx hb dL_law_1039 rfl ?_
      refine lv_goto (tgt := 1044) hx hb dL_law_1040 (by decide) ?_
      refine W.lcmp hx hb dL_law_1044 ?_
      refine l_top (v := 0) (by rw [(vb_or hvb).resolve_left (fun z => c6 ((hval h0).symm.trans z))]; exact lg_cmp_self _) ?_
      refine lv_if_eq (tgt := 1050) hx hb dL_law_1045 (by decide) (fun _ => ?_) (fun c9 => absurd rfl c9)
      refine lv_goto (tgt := 1190) hx hb dL_law_1050 (by decide) ?_
      refine W.widen (k := 19 + 4 * (j + 1)) (n := 263275 + 24 * (j + 1)) (by omega) (by omega) ?_
      exact hend _ _ _ _ _ _ hI2 hW hS (lv_sub hl [2, 3, 4, 5, 6] rfl)
set_option maxHeartbeats 4000000 in
set_option maxRecDepth 100000 in
theorem law_quick {p : Program} {l : Launch} {e : Env} {s : State} {m : MethodId} {below : List Frame} {meth : Method} {c : Code} {b L : Nat} {xs : Nat → Int32} {D : va_G} {cA cL : Nat} {ad am : Nat → Nat} {ob : Nat} {sa : Nat → Nat} (C1 : LC l p s m meth c b L xs D cA cL ad am ob sa) (hL : L ≤ 1536) {M N : Mem} {f : Nat → Int64} {H : Heap} {locs : List Loc} {ls : Array Slot} (i j : Nat) (hi : i + 3 ≤ L) (hj : j < 512) (hI : Inv M N) (hW : LW D cA cL ad am ob M N f H) (hS : va_S (A0 s) s.heap H locs) (hl : lv_has ls 7 [(0, .ref b), (1, .ref (ad 8)), (2, .ref (am 0)), (3, .ref ob), (4, .int (nI i))])
    (hend : ∀ (M N : Mem) (f : Nat → Int64) (H : Heap) (locs : List Loc) (ls : Array Slot), Inv M N → LW D cA cL ad am ob M N f H → va_S (A0 s) s.heap H locs → lv_has ls 7 [(0, .ref b), (1, .ref (ad 8)), (2, .ref (am 0)), (3, .ref ob), (4, .int (nI i))] → W p l e room_1 s m #[Value.ref b] below meth c H locs (19 + 4 * (j + 1)) (263275 + 24 * (j + 1)) (lw_Z below #[Value.ref b] s) (F0 m 1190 ls [])) : W p l e room_1 s m #[Value.ref b] below meth c H locs (19 + 4 * j) (263275 + 24 * j) (lw_Z below #[Value.ref b] s) (F0 m 1053 ls []) := by
  obtain ⟨C0, hst, hK, hKL, hDD, hT, hN⟩ := C1
  obtain ⟨hx, hb, hr0, hml, hown, hts0, hX, hbl, hlocks, hgv⟩ := C0
  have hts : ∀ w ∈ wsL_law, w.before #[Value.ref b] s = true := fun w h => hts0 w (wsL_law_in w h)
  have S5 : CallFix p m c code 7 s #[Value.ref b] wsL_law RL := ⟨hx, hb, hml, hown, hts⟩
  have hbA : ¬ A0 s b := Nat.not_le.mpr hbl
  obtain ⟨p1, hp1⟩ : ∃ z, xs ((nI i + 1).toNatClampNeg) = z := ⟨_, rfl⟩
  have hv1 : vp_in (nI i + 1) L := by rw [show nI i + 1 = nI (i + 1) from nI_add i 1]; exact vp_in_nI (by omega) (by omega)
  obtain ⟨r, q, hf, hq, hr, hthr, hval, hI2⟩ := sim_quick hI p1
  refine lv_aload_n hx hb dL_law_1053 rfl (lv_at hl 1 rfl) ?_
  refine lv_aload_n hx hb dL_law_1054 rfl (lv_at hl 0 rfl) ?_
  refine lv_iload hx hb dL_law_1055 (lv_at hl 4 rfl) ?_
  refine lv_iconst (v := 1) hx hb dL_law_1057 (by decide) ?_
  refine lv_iadd hx hb dL_law_1058 ?_
  refine va_sld hx hb hX hbl hbA hS hv1 dL_law_1059 ?_
  refine l_top hp1 ?_
  refine lv_aload_n hx hb dL_law_1060 rfl (lv_at hl 3 rfl) ?_
  refine cLH S5 hK hKL hDD hT hN hW hS (As := [.ref (ad 8), .int p1, .ref ob]) (kL_quick l D cA cL ad ob sa hst p1 _ _ r hf hr) (vx_cwSW 3 hts gL_law_L_quick rfl rfl rfl (by decide +kernel) ⟨(Nat.le_of_ble_eq_true rfl), (Nat.le_of_ble_eq_true rfl)⟩) rfl hl.1 (st0 := _) (rest := []) rfl (Nat.le_of_ble_eq_true rfl) dL_law_1061 ⟨(by show _ ≤ room_1.cells; have := rC; omega), (by show _ ≤ room_1.slots; have := rS; omega)⟩ (fun H locs f hg hW hS => ?_)
  refine lv_istore (lv' := [(5, .int (hcd 1 r)), (0, .ref b), (1, .ref (ad 8)), (2, .ref (am 0)), (3, .ref ob), (4, .int (nI i))]) hx hb dL_law_1064 hl (by decide) rfl (fun ls hl => ?_)
  refine lv_aload_n hx hb dL_law_1066 rfl (lv_at hl 3 rfl) ?_
  refine lv_aload_n hx hb dL_law_1067 rfl (lv_at hl 1 rfl) ?_
  refine lv_iload hx hb dL_law_1068 (lv_at hl 5 rfl) ?_
  refine lv_iconst (v := 1) hx hb dL_law_1070 (by decide) ?_
  refine lv_iadd hx hb dL_law_1071 ?_
  refine va_sld hx hb hX hbl hbA hS hv1 dL_law_1072 ?_
  refine l_top hp1 ?_
  refine cLM S5 hK hDD hW hS (As := [.int p1]) (kX6_quick l D cA am p1 _ q hq) (cwV 1 hts gL_law_X6_quick rfl rfl rfl (by decide +kernel) ⟨(Nat.le_of_ble_eq_true rfl), (Nat.le_of_ble_eq_true rfl)⟩) rfl hl.1 (st0 := _) (rest := []) rfl (Nat.le_of_ble_eq_true rfl) dL_law_1073 ⟨(by show _ ≤ room_1.cells; have := rC; omega), (by show _ ≤ room_1.slots; have := rS; omega)⟩ (fun H locs hW hS => ?_)
  refine lv_istore (lv' := [(6, .int q.1), (5, .int (hcd 1 r)), (0, .ref b), (1, .ref (ad 8)), (2, .ref (am 0)), (3, .ref ob), (4, .int (nI i))]) hx hb dL_law_1076 hl (by decide) rfl (fun ls hl => ?_)
  refine lv_aload_n hx hb dL_law_1078 rfl (lv_at hl 4 rfl) ?_
  refine cVM S5 hK hW.2.1 0 rfl rfl (As := []) (kX6_thrown l D cA am _) (cwV 0 hts gL_law_X6_thrown rfl rfl rfl (by decide +kernel) ⟨(Nat.le_of_ble_eq_true rfl), (Nat.le_of_ble_eq_true rfl)⟩) rfl hl.1 (st0 := _) (rest := []) rfl (Nat.le_of_ble_eq_true rfl) dL_law_1079 ⟨(by show _ ≤ room_1.cells; have := rC; omega), (by show _ ≤ room_1.slots; have := rS; omega)⟩ ?_
  refine l_top hthr ?_
  refine lv_iload hx hb dL_law_1082 (lv_at hl 1 rfl) ?_
  refine lv_icmp_eq (tgt := 1089) hx hb dL_law_1084 (by decide) (fun _ => ?_) (fun c9 => absurd rfl c9)
  refine lv_iload hx hb dL_law_1089 (lv_at hl 1 rfl) ?_
  refine lv_if_ne (tgt := 1106) hx hb dL_law_1091 (by decide) (fun c5 => ?_) (fun c5 => ?_)
  · refine lv_goto (tgt := 1190) hx hb dL_law_1106 (by decide) ?_
    refine W.widen (k := 19 + 4 * (j + 1)) (n := 263275 + 24 * (j + 1)) (by omega) (by omega) ?_
    exact hend _ _ _ _ _ _ hI2 hW hS (lv_sub hl [2, 3, 4, 5, 6] rfl)
  · have h0 := hcd0 c5
    refine lv_aload_n hx hb dL_law_1094 rfl (lv_at hl 5 rfl) ?_
    refine lv_iconst (v := 0) hx hb dL_law_1095 (by decide) ?_
    refine va_lald (tys := [(cL, .long)]) hx hb hKL hW.2.2 0 0 rfl rfl (vin_in (by decide)) dL_law_1096 ?_
    refine l_topL (v := r.2.1.toInt64) (hg h0) ?_
    refine lv_iload hx hb dL_law_1097 (lv_at hl 0 rfl) ?_
    refine lv_i2l (v := q.1.toInt64) hx hb dL_law_1099 rfl ?_
    refine W.lcmp hx hb dL_law_1100 ?_
    refine l_top (v := 0) (by rw [hval h0]; exact lg_cmp_self _) ?_
    refine lv_if_eq (tgt := 1106) hx hb dL_law_1101 (by decide) (fun _ => ?_) (fun c9 => absurd rfl c9)
    refine lv_goto (tgt := 1190) hx hb dL_law_1106 (by decide) ?_
    refine W.widen (k := 19 + 4 * (j + 1)) (n := 263275 + 24 * (j + 1)) (by omega) (by omega) ?_
    exact hend _ _ _ _ _ _ hI2 hW hS (lv_sub hl [2, 3, 4, 5, 6] rfl)
set_option maxHeartbeats 4000000 in
set_option maxRecDepth 100000 in
theorem law_fork {p : Program} {l : Launch} {e : Env} {s : State} {m : MethodId} {below : List Frame} {meth : Method} {c : Code} {b L : Nat} {xs : Nat → Int32} {D : va_G} {cA cL : Nat} {ad am : Nat → Nat} {ob : Nat} {sa : Nat → Nat} (C1 : LC l p s m meth c b L xs D cA cL ad am ob sa) (hL : L ≤ 1536) {M N : Mem} {f : Nat → Int64} {H : Heap} {locs : List Loc} {ls : Array Slot} (i j : Nat) (hi : i + 3 ≤ L) (hj : j < 512) (hI : Inv M N) (hW : LW D cA cL ad am ob M N f H) (hS : va_S (A0 s) s.heap H locs) (hl : lv_has ls 7 [(0, .ref b), (1, .ref (ad 8)), (2, .ref (am 0)), (3, .ref ob), (4, .int (nI i))])
    (hend : ∀ (M N : Mem) (f : Nat → Int64) (H : Heap) (locs : List Loc) (ls : Array Slot), Inv M N → LW D cA cL ad am ob M N f H → va_S (A0 s) s.heap H locs → lv_has ls 7 [(0, .ref b), (1, .ref (ad 8)), (2, .ref (am 0)), (3, .ref ob), (4, .int (nI i))] → W p l e room_1 s m #[Value.ref b] below meth c H locs (19 + 4 * (j + 1)) (263275 + 24 * (j + 1)) (lw_Z below #[Value.ref b] s) (F0 m 1190 ls [])) : W p l e room_1 s m #[Value.ref b] below meth c H locs (19 + 4 * j) (263275 + 24 * j) (lw_Z below #[Value.ref b] s) (F0 m 1109 ls []) := by
  obtain ⟨C0, hst, hK, hKL, hDD, hT, hN⟩ := C1
  obtain ⟨hx, hb, hr0, hml, hown, hts0, hX, hbl, hlocks, hgv⟩ := C0
  have hts : ∀ w ∈ wsL_law, w.before #[Value.ref b] s = true := fun w h => hts0 w (wsL_law_in w h)
  have S5 : CallFix p m c code 7 s #[Value.ref b] wsL_law RL := ⟨hx, hb, hml, hown, hts⟩
  have hbA : ¬ A0 s b := Nat.not_le.mpr hbl
  obtain ⟨p1, hp1⟩ : ∃ z, xs ((nI i + 1).toNatClampNeg) = z := ⟨_, rfl⟩
  have hv1 : vp_in (nI i + 1) L := by rw [show nI i + 1 = nI (i + 1) from nI_add i 1]; exact vp_in_nI (by omega) (by omega)
  obtain ⟨p2, hp2⟩ : ∃ z, xs ((nI i + 2).toNatClampNeg) = z := ⟨_, rfl⟩
  have hv2 : vp_in (nI i + 2) L := by rw [show nI i + 2 = nI (i + 2) from nI_add i 2]; exact vp_in_nI (by omega) (by omega)
  obtain ⟨r, q, hf, hq, hr, hthr, hval, hI2⟩ := sim_fork hI p1 p2
  refine lv_aload_n hx hb dL_law_1109 rfl (lv_at hl 1 rfl) ?_
  refine lv_aload_n hx hb dL_law_1110 rfl (lv_at hl 0 rfl) ?_
  refine lv_iload hx hb dL_law_1111 (lv_at hl 4 rfl) ?_
  refine lv_iconst (v := 1) hx hb dL_law_1113 (by decide) ?_
  refine lv_iadd hx hb dL_law_1114 ?_
  refine va_sld hx hb hX hbl hbA hS hv1 dL_law_1115 ?_
  refine l_top hp1 ?_
  refine lv_aload_n hx hb dL_law_1116 rfl (lv_at hl 0 rfl) ?_
  refine lv_iload hx hb dL_law_1117 (lv_at hl 4 rfl) ?_
  refine lv_iconst (v := 2) hx hb dL_law_1119 (by decide) ?_
  refine lv_iadd hx hb dL_law_1120 ?_
  refine va_sld hx hb hX hbl hbA hS hv2 dL_law_1121 ?_
  refine l_top hp2 ?_
  refine lv_aload_n hx hb dL_law_1122 rfl (lv_at hl 3 rfl) ?_
  refine cLH S5 hK hKL hDD hT hN hW hS (As := [.ref (ad 8), .int p1, .int p2, .ref ob]) (kL_fork l D cA cL ad ob sa hst p1 p2 _ _ r hf hr) (vx_cwSW 4 hts gL_law_L_fork rfl rfl rfl (by decide +kernel) ⟨(Nat.le_of_ble_eq_true rfl), (Nat.le_of_ble_eq_true rfl)⟩) rfl hl.1 (st0 := _) (rest := []) rfl (Nat.le_of_ble_eq_true rfl) dL_law_1123 ⟨(by show _ ≤ room_1.cells; have := rC; omega), (by show _ ≤ room_1.slots; have := rS; omega)⟩ (fun H locs f hg hW hS => ?_)
  refine lv_istore (lv' := [(5, .int (hcd 1 r)), (0, .ref b), (1, .ref (ad 8)), (2, .ref (am 0)), (3, .ref ob), (4, .int (nI i))]) hx hb dL_law_1126 hl (by decide) rfl (fun ls hl => ?_)
  refine lv_aload_n hx hb dL_law_1128 rfl (lv_at hl 3 rfl) ?_
  refine lv_aload_n hx hb dL_law_1129 rfl (lv_at hl 1 rfl) ?_
  refine lv_iload hx hb dL_law_1130 (lv_at hl 5 rfl) ?_
  refine lv_iconst (v := 1) hx hb dL_law_1132 (by decide) ?_
  refine lv_iadd hx hb dL_law_1133 ?_
  refine va_sld hx hb hX hbl hbA hS hv1 dL_law_1134 ?_
  refine l_top hp1 ?_
  refine lv_aload_n hx hb dL_law_1135 rfl (lv_at hl 1 rfl) ?_
  refine lv_iload hx hb dL_law_1136 (lv_at hl 5 rfl) ?_
  refine lv_iconst (v := 2) hx hb dL_law_1138 (by decide) ?_
  refine lv_iadd hx hb dL_law_1139 ?_
  refine va_sld hx hb hX hbl hbA hS hv2 dL_law_1140 ?_
  refine l_top hp2 ?_
  refine cLM S5 hK hDD hW hS (As := [.int p1, .int p2]) (kX6_fork l D cA am p1 p2 _ q hq) (cwV 2 hts gL_law_X6_fork rfl rfl rfl (by decide +kernel) ⟨(Nat.le_of_ble_eq_true rfl), (Nat.le_of_ble_eq_true rfl)⟩) rfl hl.1 (st0 := _) (rest := []) rfl (Nat.le_of_ble_eq_true rfl) dL_law_1141 ⟨(by show _ ≤ room_1.cells; have := rC; omega), (by show _ ≤ room_1.slots; have := rS; omega)⟩ (fun H locs hW hS => ?_)
  refine lv_istore (lv' := [(6, .int q.1), (5, .int (hcd 1 r)), (0, .ref b), (1, .ref (ad 8)), (2, .ref (am 0)), (3, .ref ob), (4, .int (nI i))]) hx hb dL_law_1144 hl (by decide) rfl (fun ls hl => ?_)
  refine lv_aload_n hx hb dL_law_1146 rfl (lv_at hl 4 rfl) ?_
  refine cVM S5 hK hW.2.1 0 rfl rfl (As := []) (kX6_thrown l D cA am _) (cwV 0 hts gL_law_X6_thrown rfl rfl rfl (by decide +kernel) ⟨(Nat.le_of_ble_eq_true rfl), (Nat.le_of_ble_eq_true rfl)⟩) rfl hl.1 (st0 := _) (rest := []) rfl (Nat.le_of_ble_eq_true rfl) dL_law_1147 ⟨(by show _ ≤ room_1.cells; have := rC; omega), (by show _ ≤ room_1.slots; have := rS; omega)⟩ ?_
  refine l_top hthr ?_
  refine lv_iload hx hb dL_law_1150 (lv_at hl 1 rfl) ?_
  refine lv_icmp_eq (tgt := 1157) hx hb dL_law_1152 (by decide) (fun _ => ?_) (fun c9 => absurd rfl c9)
  refine lv_iload hx hb dL_law_1157 (lv_at hl 1 rfl) ?_
  refine lv_if_ne (tgt := 1174) hx hb dL_law_1159 (by decide) (fun c5 => ?_) (fun c5 => ?_)
  · refine lv_goto (tgt := 1190) hx hb dL_law_1174 (by decide) ?_
    refine W.widen (k := 19 + 4 * (j + 1)) (n := 263275 + 24 * (j + 1)) (by omega) (by omega) ?_
    exact hend _ _ _ _ _ _ hI2 hW hS (lv_sub hl [2, 3, 4, 5, 6] rfl)
  · have h0 := hcd0 c5
    refine lv_aload_n hx hb dL_law_1162 rfl (lv_at hl 5 rfl) ?_
    refine lv_iconst (v := 0) hx hb dL_law_1163 (by decide) ?_
    refine va_lald (tys := [(cL, .long)]) hx hb hKL hW.2.2 0 0 rfl rfl (vin_in (by decide)) dL_law_1164 ?_
    refine l_topL (v := r.2.1.toInt64) (hg h0) ?_
    refine lv_iload hx hb dL_law_1165 (lv_at hl 0 rfl) ?_
    refine lv_i2l (v := q.1.toInt64) hx hb dL_law_1167 rfl ?_
    refine W.lcmp hx hb dL_law_1168 ?_
    refine l_top (v := 0) (by rw [hval h0]; exact lg_cmp_self _) ?_
    refine lv_if_eq (tgt := 1174) hx hb dL_law_1169 (by decide) (fun _ => ?_) (fun c9 => absurd rfl c9)
    refine lv_goto (tgt := 1190) hx hb dL_law_1174 (by decide) ?_
    refine W.widen (k := 19 + 4 * (j + 1)) (n := 263275 + 24 * (j + 1)) (by omega) (by omega) ?_
    exact hend _ _ _ _ _ _ hI2 hW hS (lv_sub hl [2, 3, 4, 5, 6] rfl)
set_option maxHeartbeats 4000000 in
set_option maxRecDepth 100000 in
theorem law_goodForks {p : Program} {l : Launch} {e : Env} {s : State} {m : MethodId} {below : List Frame} {meth : Method} {c : Code} {b L : Nat} {xs : Nat → Int32} {D : va_G} {cA cL : Nat} {ad am : Nat → Nat} {ob : Nat} {sa : Nat → Nat} (C1 : LC l p s m meth c b L xs D cA cL ad am ob sa) (hL : L ≤ 1536) {M N : Mem} {f : Nat → Int64} {H : Heap} {locs : List Loc} {ls : Array Slot} (i j : Nat) (hi : i + 3 ≤ L) (hj : j < 512) (hI : Inv M N) (hW : LW D cA cL ad am ob M N f H) (hS : va_S (A0 s) s.heap H locs) (hl : lv_has ls 7 [(0, .ref b), (1, .ref (ad 8)), (2, .ref (am 0)), (3, .ref ob), (4, .int (nI i))])
    (hend : ∀ (M N : Mem) (f : Nat → Int64) (H : Heap) (locs : List Loc) (ls : Array Slot), Inv M N → LW D cA cL ad am ob M N f H → va_S (A0 s) s.heap H locs → lv_has ls 7 [(0, .ref b), (1, .ref (ad 8)), (2, .ref (am 0)), (3, .ref ob), (4, .int (nI i))] → W p l e room_1 s m #[Value.ref b] below meth c H locs (19 + 4 * (j + 1)) (263275 + 24 * (j + 1)) (lw_Z below #[Value.ref b] s) (F0 m 1190 ls [])) : W p l e room_1 s m #[Value.ref b] below meth c H locs (19 + 4 * j) (263275 + 24 * j) (lw_Z below #[Value.ref b] s) (F0 m 1177 ls []) := by
  obtain ⟨C0, hst, hK, hKL, hDD, hT, hN⟩ := C1
  obtain ⟨hx, hb, hr0, hml, hown, hts0, hX, hbl, hlocks, hgv⟩ := C0
  have hts : ∀ w ∈ wsL_law, w.before #[Value.ref b] s = true := fun w h => hts0 w (wsL_law_in w h)
  have S5 : CallFix p m c code 7 s #[Value.ref b] wsL_law RL := ⟨hx, hb, hml, hown, hts⟩
  have hbA : ¬ A0 s b := Nat.not_le.mpr hbl
  obtain ⟨v, q, hf, hq, hval, hI2⟩ := sim_goodForks hI
  refine lv_aload_n hx hb dL_law_1177 rfl (lv_at hl 1 rfl) ?_
  refine cVX S5 hK hW.1 8 rfl rfl (As := []) (kX5_goodForks l D cA ad _ v hf) (cwV 0 hts gL_law_X5_goodForks rfl rfl rfl (by decide +kernel) ⟨(Nat.le_of_ble_eq_true rfl), (Nat.le_of_ble_eq_true rfl)⟩) rfl hl.1 (st0 := _) (rest := []) rfl (Nat.le_of_ble_eq_true rfl) dL_law_1178 ⟨(by show _ ≤ room_1.cells; have := rC; omega), (by show _ ≤ room_1.slots; have := rS; omega)⟩ ?_
  refine lv_aload_n hx hb dL_law_1181 rfl (lv_at hl 2 rfl) ?_
  refine cLM S5 hK hDD hW hS (As := []) (kX6_goodForks l D cA am _ q hq) (cwV 0 hts gL_law_X6_goodForks rfl rfl rfl (by decide +kernel) ⟨(Nat.le_of_ble_eq_true rfl), (Nat.le_of_ble_eq_true rfl)⟩) rfl hl.1 (st0 := _) (rest := [.int v]) rfl (Nat.le_of_ble_eq_true rfl) dL_law_1182 ⟨(by show _ ≤ room_1.cells; have := rC; omega), (by show _ ≤ room_1.slots; have := rS; omega)⟩ (fun H locs hW hS => ?_)
  refine lv_icmp_eq (tgt := 1190) hx hb dL_law_1185 (by decide) (fun _ => ?_) (fun c9 => absurd hval c9)
  refine W.widen (k := 19 + 4 * (j + 1)) (n := 263275 + 24 * (j + 1)) (by omega) (by omega) ?_
  exact hend _ _ _ _ _ _ hI2 hW hS (lv_sub hl [0, 1, 2, 3, 4] rfl)
