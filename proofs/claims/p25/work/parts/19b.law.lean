/-! THE CLAIM OUT OF ONE WALK OF THE LAW'S BODY. Your part is whole_start (and what it stands on); all else here is the same for every law, but numbers. -/
def R_law : String := "OpenTricksLaw"
def lw_P (b : Addr) (xs : List Int32) (args : Array Value) (s : State) : Prop := args = #[.ref b] ∧ s.IntsAt b xs ∧ xs.length ≤ 260 ∧ (Jvm.Cond.and given_1 narrow_1).before args s = true
def lw_Q (_ : Array Value) (s : State) (o : Outcome) (t : State) : Prop := o = .returned (some (.int 1)) ∧ Framed s o t [] room_1.cells room_1.slots
def lw_Z (below : List Frame) (a : Array Value) (s : State) : State → Prop := fun t => ∃ o, t.status = .running ∧ Ended t below o ∧ lw_Q a s o t
/-- the law's own end, with 1 on the stack, nothing written that was there before, its room as the claim has it -/
theorem lw_ret {p : Program} {l : Launch} {e : Env} {s : State} {m : MethodId} {below : List Frame} {meth : Method} {c : Code} {b : Nat} (hx : p.tables.exec = Jvm.exec) (hb : c.code = code) (hr : meth.sig.returnType = ret) (hlocks : meth.locks = false) {pc : Nat} {H : Heap} {ls : Array Slot} (hdg : decode code pc = .ok (.ireturn, 1)) : W p l e room_1 s m #[Value.ref b] below meth c H [] room_1.cells room_1.slots (lw_Z below #[Value.ref b] s) (F0 m pc ls [.int 1]) := by
  intro T hT X
  obtain ⟨fs, hret, hrun, hended, hW, hframe⟩ := X.leave (v := some (.int 1)) (hlocks := hlocks) (fun h => by rw [hr] at h; cases h)
  have hmeth' : T.vm.method? m = some meth := X.method'
  refine ⟨T.setFrames fs, ?_, .returned (some (.int 1)), hrun, hended, rfl, ⟨_, rfl⟩, hW, hframe⟩
  jvm_step X.here [X.here.top, hx, hb, hdg, hmeth', hr, ret, narrow_b1]
  (try refine ⟨rfl, ?_⟩); (try refine ⟨rfl, ?_⟩)
  first | (intro acts; rw [hret _ acts rfl rfl rfl]) | rw [hret _ _ rfl rfl rfl]
  exact Steps.refl _
/-- what holds at the law's entry: the machine, the code, the tables' words (any of lw_tbl by 'hts w (by decide +kernel)'), the script of L ints xs at the cell b, what the Statement gives of the start (any of its parts by flat_of_before) -/
def lw_At (p : Program) (s : State) (m : MethodId) (meth : Method) (c : Code) (b L : Nat) (xs : Nat → Int32) : Prop :=
  p.tables.exec = Jvm.exec ∧ c.code = code ∧ meth.sig.returnType = ret ∧ c.maxLocals = 17 ∧ s.vm.findClass R_law = some m.cls ∧ (∀ w ∈ lw_tbl, w.before #[Value.ref b] s = true) ∧ va_X b L xs s s.heap ∧ b < s.heap.size ∧ meth.locks = false ∧ (Jvm.Cond.and given_1 narrow_1).before #[Value.ref b] s = true
def A0 (s : State) : Nat → Prop := fun q => s.heap.size ≤ q
def LC (p : Program) (s : State) (m : MethodId) (meth : Method) (c : Code) (b L : Nat) (xs : Nat → Int32) (D : va_G) (cA : Nat) (ad ah sa : Nat → Nat) : Prop :=
  lw_At p s m meth c b L xs ∧ va_K D vwCl [(cA, .int)] s ∧ (∀ M N : Mem, va_D (A0 s) (wX cA ad M ++ wH cA ah N)) ∧ TE (A0 s) sa s
theorem l_top {p : Program} {l : Launch} {e : Env} {R : Room} {s : State} {m : MethodId} {args : Array Value} {below : List Frame} {meth : Method} {c : Code} {H : Heap} {locs : List Loc} {cells slots : Nat} {Q : State → Prop} {pc : Nat} {ls : Array Slot} {rest : List Value} {x v : Int32} (h : x = v) (k : W p l e R s m args below meth c H locs cells slots Q (F0 m pc ls (.int v :: rest))) : W p l e R s m args below meth c H locs cells slots Q (F0 m pc ls (.int x :: rest)) := h ▸ k
theorem A0_X {s : State} {cA : Nat} {ad ah : Nat → Nat} {sz : Nat} (hD : ∀ M N : Mem, va_D (A0 s) (wX cA ad M ++ wH cA ah N)) (hz : s.heap.size ≤ sz) : ∀ q, AX ad sz q → A0 s q := by
  intro q h
  rcases h with ⟨k, hk, rfl⟩ | h
  · obtain ⟨z, hz⟩ := ad_at cA ad (fun _ _ => 0) k hk
    exact ((hD _ (fun _ _ => 0)).left).2 k _ hz
  · exact Nat.le_trans hz h
theorem A0_H {s : State} {cA : Nat} {ad ah : Nat → Nat} {sz : Nat} (hD : ∀ M N : Mem, va_D (A0 s) (wX cA ad M ++ wH cA ah N)) (hz : s.heap.size ≤ sz) : ∀ q, AXH ah sz q → A0 s q := by
  intro q h
  rcases h with ⟨k, hk, rfl⟩ | h
  · obtain ⟨z, hz⟩ := ah_at cA ah (fun _ _ => 0) k hk
    exact ((hD (fun _ _ => 0) _).right).2 k _ hz
  · exact Nat.le_trans hz h

set_option maxHeartbeats 20000000 in
set_option maxRecDepth 100000 in
theorem kL_law (l : Launch) (hst : l.stackTraces = false) {p : Program} {e : Env} {s : State} {m : MethodId} {below : List Frame} {meth : Method} {c : Code} {b L : Nat} {xs : Nat → Int32} {D : va_G} {cA : Nat} {ad ah sa : Nat → Nat} (C1 : LC p s m meth c b L xs D cA ad ah sa) (M N : Mem) (h : fL_law xs L M N = some 1) {H : Heap} {locs : List Loc} {ls : Array Slot} (hP : va_P D vwCl (wX cA ad M) H) (hQ : va_P D vwCl (wH cA ah N) H) (hS : va_S (A0 s) s.heap H locs) (hl : lv_has ls 17 [(0, .ref b), (1, .ref (ad 8)), (2, .ref (ah 0)), (3, .ref (ah 1)), (4, .ref (ah 2))]) : W p l e room_1 s m #[Value.ref b] below meth c H locs 12 1088 (lw_Z below #[Value.ref b] s) (F0 m 27 ls []) := by
  obtain ⟨C0, hK, hD, hT⟩ := C1
  obtain ⟨hx, hb, hr0, hml, hown, hts0, hX, hbl, hlocks, hgv⟩ := id C0
  have hown : s.vm.findClass RL = some m.cls := hown
  have hts : ∀ w ∈ wsL_law, w.before #[Value.ref b] s = true := fun w h => hts0 w (wsL_law_in w h)
  have S5 : CallFix p m c code 17 s #[Value.ref b] wsL_law RL := ⟨hx, hb, hml, hown, hts⟩
  have hbA : ¬ A0 s b := Nat.not_le.mpr hbl
  have hA : ∀ (H : Heap) (q : Nat), s.heap.size ≤ H.size → AX ad H.size q → A0 s q := fun H q hz h => A0_X hD hz q h
  have hAh : ∀ (H : Heap) (q : Nat), s.heap.size ≤ H.size → AXH ah H.size q → A0 s q := fun H q hz h => A0_H hD hz q h
  have hAy : ∀ (H : Heap) (q : Nat), s.heap.size ≤ H.size → AY ad ah H.size q → A0 s q := fun H q hz h => h.elim (hA H q hz) (hAh H q hz)
  have kend : ∀ (H : Heap) (locs : List Loc) (ls : Array Slot) {cells slots : Nat}, va_S (A0 s) s.heap H locs → cells ≤ room_1.cells → slots ≤ room_1.slots → W p l e room_1 s m #[Value.ref b] below meth c H locs cells slots (lw_Z below #[Value.ref b] s) (F0 m 979 ls [.int 1]) := by
    intro H locs ls cells slots hS h1 h2
    refine va_forget (fun q hq => hS.2.2 q hq) ?_
    refine W.widen (k := room_1.cells) (n := room_1.slots) h1 h2 ?_
    exact lw_ret hx hb hr0 hlocks dL_law_979
  have hMC : 22849 ≤ room_1.cells := Nat.le_of_ble_eq_true rfl
  have hMS : 168924 ≤ room_1.slots := Nat.le_of_ble_eq_true rfl
  unfold fL_law at h
  have R758 : ∀ (v5 : Int32) (v7 : Int32) (v8 : Int32) (M N : Mem) (r' : Int32 × Int32) (H : Heap) (locs : List Loc) (ls : Array Slot) (cells slots : Nat), fL_law_R758 xs L v5 v7 v8 M N = some r' → va_P D vwCl (wX cA ad M) H → va_P D vwCl (wH cA ah N) H → va_S (A0 s) s.heap H locs → cells + 0 ≤ room_1.cells → slots + 0 ≤ room_1.slots → lv_has ls 17 [(0, .ref b), (1, .ref (ad 8)), (2, .ref (ah 0)), (3, .ref (ah 1)), (4, .ref (ah 2)), (5, .int v5), (7, .int v7), (8, .int v8)] → (∀ (ls : Array Slot), lv_has ls 17 [(0, .ref b), (1, .ref (ad 8)), (2, .ref (ah 0)), (3, .ref (ah 1)), (4, .ref (ah 2)), (5, .int v5), (7, .int v7), (8, .int v8), (11, .int (r'.1)), (12, .int (r'.2))] → W p l e room_1 s m #[Value.ref b] below meth c H locs (cells + 0) (slots + 0) (lw_Z below #[Value.ref b] s) (F0 m 770 ls [])) → W p l e room_1 s m #[Value.ref b] below meth c H locs cells slots (lw_Z below #[Value.ref b] s) (F0 m 758 ls []) := by
    intro v5 v7 v8 M N r' H locs ls cells slots h hP hQ hS hc hs hl kk
    unfold fL_law_R758 at h
    refine lv_iload hx hb dL_law_758 (lv_at hl 7 rfl) ?_
    refine lv_iconst (v := 5) hx hb dL_law_760 (by decide) ?_
    refine r_idiv S5 dL_law_761 (by decide) ?_
    refine lv_bipush (v := 24) hx hb dL_law_762 (by decide) ?_
    refine r_irem S5 dL_law_764 (by decide) ?_
    refine lv_istore (lv' := [(11, .int (im (v8 / 5) 24)), (0, .ref b), (1, .ref (ad 8)), (2, .ref (ah 0)), (3, .ref (ah 1)), (4, .ref (ah 2)), (5, .int v5), (7, .int v7), (8, .int v8)]) hx hb dL_law_765 hl (by decide) rfl (fun ls hl => ?_)
    refine lv_iconst (v := 0) hx hb dL_law_767 (by decide) ?_
    refine lv_istore (lv' := [(12, .int 0), (11, .int (im (v8 / 5) 24)), (0, .ref b), (1, .ref (ad 8)), (2, .ref (ah 0)), (3, .ref (ah 1)), (4, .ref (ah 2)), (5, .int v5), (7, .int v7), (8, .int v8)]) hx hb dL_law_768 hl (by decide) rfl (fun ls hl => ?_)
    obtain rfl := Option.some.inj h
    refine W.widen (k := cells + 0) (n := slots + 0) (by omega) (by omega) ?_
    exact kk _ (lv_sub hl [2, 3, 4, 5, 6, 7, 8, 9, 1, 0] rfl)
  have R695 : ∀ (v5 : Int32) (v7 : Int32) (v11 : Int32) (M N : Mem) (r' : Int32 × Mem × Mem) (H : Heap) (locs : List Loc) (ls : Array Slot) (cells slots : Nat), fL_law_R695 xs L v5 v7 v11 M N = some r' → va_P D vwCl (wX cA ad M) H → va_P D vwCl (wH cA ah N) H → va_S (A0 s) s.heap H locs → cells + 1 ≤ room_1.cells → slots + 6 ≤ room_1.slots → lv_has ls 17 [(0, .ref b), (1, .ref (ad 8)), (2, .ref (ah 0)), (3, .ref (ah 1)), (4, .ref (ah 2)), (5, .int v5), (7, .int v7), (11, .int v11)] → (∀ (H : Heap) (locs : List Loc), va_P D vwCl (wX cA ad (r'.2.1)) H → va_P D vwCl (wH cA ah (r'.2.2)) H → va_S (A0 s) s.heap H locs → ∀ (ls : Array Slot), lv_has ls 17 [(0, .ref b), (1, .ref (ad 8)), (2, .ref (ah 0)), (3, .ref (ah 1)), (4, .ref (ah 2)), (5, .int v5), (6, .int (r'.1)), (7, .int v7), (11, .int v11)] → W p l e room_1 s m #[Value.ref b] below meth c H locs (cells + 1) (slots + 6) (lw_Z below #[Value.ref b] s) (F0 m 714 ls [])) → W p l e room_1 s m #[Value.ref b] below meth c H locs cells slots (lw_Z below #[Value.ref b] s) (F0 m 695 ls []) := by
    intro v5 v7 v11 M N r' H locs ls cells slots h hP hQ hS hc hs hl kk
    unfold fL_law_R695 at h
    refine lv_aload_n hx hb dL_law_695 rfl (lv_at hl 1 rfl) ?_
    refine lv_iconst (v := 3) hx hb dL_law_696 (by decide) ?_
    refine lv_iconst (v := 0) hx hb dL_law_697 (by decide) ?_
    refine lv_iconst (v := 0) hx hb dL_law_698 (by decide) ?_
    obtain ⟨g78, h⟩ := gd_some h
    refine cDY S5 hK hP hQ hD hS hT (fun _ h => hA _ _ hS.1 h) (As := [.ref (ad 8), .int 3, .int 0, .int 0]) (kL_does_3 l D cA ad sa hst 0 0 _ _ rfl g78) (vx_cwSW 4 hts gL_law_L_does rfl rfl rfl (by decide +kernel) ⟨(Nat.le_of_ble_eq_true rfl), (Nat.le_of_ble_eq_true rfl)⟩) rfl hl.1 (st0 := _) (rest := []) rfl (Nat.le_of_ble_eq_true rfl) dL_law_699 ⟨(by show _ ≤ room_1.cells; omega), (by show _ ≤ room_1.slots; omega)⟩ (fun H locs hP hQ hS => ?_)
    refine lv_iload hx hb dL_law_702 (lv_at hl 7 rfl) ?_
    refine lv_icmp_ne (tgt := 711) hx hb dL_law_704 (by decide) (fun c79 => ?_) (fun c79 => ?_)
    · rw [if_neg c79] at h
      refine lv_iconst (v := 0) hx hb dL_law_711 (by decide) ?_
      refine lv_istore (lv' := [(6, .int 0), (0, .ref b), (1, .ref (ad 8)), (2, .ref (ah 0)), (3, .ref (ah 1)), (4, .ref (ah 2)), (5, .int v5), (7, .int v7), (11, .int v11)]) hx hb dL_law_712 hl (by decide) rfl (fun ls hl => ?_)
      obtain rfl := Option.some.inj h
      refine W.widen (k := cells + 1) (n := slots + 6) (by omega) (by omega) ?_
      exact kk _ _ hP hQ hS _ (lv_sub hl [1, 2, 3, 4, 5, 6, 0, 7, 8] rfl)
    · rw [if_pos c79] at h
      refine lv_iconst (v := 1) hx hb dL_law_707 (by decide) ?_
      refine lv_goto (tgt := 712) hx hb dL_law_708 (by decide) ?_
      refine lv_istore (lv' := [(6, .int 1), (0, .ref b), (1, .ref (ad 8)), (2, .ref (ah 0)), (3, .ref (ah 1)), (4, .ref (ah 2)), (5, .int v5), (7, .int v7), (11, .int v11)]) hx hb dL_law_712 hl (by decide) rfl (fun ls hl => ?_)
      obtain rfl := Option.some.inj h
      refine W.widen (k := cells + 1) (n := slots + 6) (by omega) (by omega) ?_
      exact kk _ _ hP hQ hS _ (lv_sub hl [1, 2, 3, 4, 5, 6, 0, 7, 8] rfl)
  have R673 : ∀ (v5 : Int32) (v7 : Int32) (M N : Mem) (r' : Int32) (H : Heap) (locs : List Loc) (ls : Array Slot) (cells slots : Nat), fL_law_R673 xs L v5 v7 M N = some r' → va_P D vwCl (wX cA ad M) H → va_P D vwCl (wH cA ah N) H → va_S (A0 s) s.heap H locs → cells + 0 ≤ room_1.cells → slots + 0 ≤ room_1.slots → lv_has ls 17 [(0, .ref b), (1, .ref (ad 8)), (2, .ref (ah 0)), (3, .ref (ah 1)), (4, .ref (ah 2)), (5, .int v5), (7, .int v7)] → (∀ (ls : Array Slot), lv_has ls 17 [(0, .ref b), (1, .ref (ad 8)), (2, .ref (ah 0)), (3, .ref (ah 1)), (4, .ref (ah 2)), (5, .int v5), (7, .int v7), (11, .int (r'))] → W p l e room_1 s m #[Value.ref b] below meth c H locs (cells + 0) (slots + 0) (lw_Z below #[Value.ref b] s) (F0 m 695 ls [])) → W p l e room_1 s m #[Value.ref b] below meth c H locs cells slots (lw_Z below #[Value.ref b] s) (F0 m 673 ls []) := by
    intro v5 v7 M N r' H locs ls cells slots h hP hQ hS hc hs hl kk
    unfold fL_law_R673 at h
    refine lv_aload hx hb dL_law_673 (lv_at hl 4 rfl) ?_
    refine lv_iconst (v := 0) hx hb dL_law_675 (by decide) ?_
    refine alH2 S5 hK hQ (v := N 2 0) (by decide) rfl dL_law_676 ?_
    refine lv_if_ne (tgt := 685) hx hb dL_law_677 (by decide) (fun c76 => ?_) (fun c76 => ?_)
    · rw [if_neg c76] at h
      refine lv_aload_n hx hb dL_law_685 rfl (lv_at hl 3 rfl) ?_
      refine lv_aload hx hb dL_law_686 (lv_at hl 4 rfl) ?_
      refine lv_iconst (v := 0) hx hb dL_law_688 (by decide) ?_
      refine alH2 S5 hK hQ (v := N 2 0) (by decide) rfl dL_law_689 ?_
      refine lv_iconst (v := 1) hx hb dL_law_690 (by decide) ?_
      refine lv_isub hx hb dL_law_691 ?_
      obtain ⟨g77, h⟩ := gd_some h
      refine alH1 S5 hK hQ (v := N 1 (((N 2 0) - 1).toNatClampNeg)) g77 rfl dL_law_692 ?_
      refine lv_istore (lv' := [(11, .int (N 1 (((N 2 0) - 1).toNatClampNeg))), (0, .ref b), (1, .ref (ad 8)), (2, .ref (ah 0)), (3, .ref (ah 1)), (4, .ref (ah 2)), (5, .int v5), (7, .int v7)]) hx hb dL_law_693 hl (by decide) rfl (fun ls hl => ?_)
      obtain rfl := Option.some.inj h
      refine W.widen (k := cells + 0) (n := slots + 0) (by omega) (by omega) ?_
      exact kk _ (lv_sub hl [1, 2, 3, 4, 5, 6, 7, 0] rfl)
    · rw [if_pos c76] at h
      refine lv_bipush (v := (-13)) hx hb dL_law_680 (by decide) ?_
      refine lv_goto (tgt := 693) hx hb dL_law_682 (by decide) ?_
      refine lv_istore (lv' := [(11, .int ((-13))), (0, .ref b), (1, .ref (ad 8)), (2, .ref (ah 0)), (3, .ref (ah 1)), (4, .ref (ah 2)), (5, .int v5), (7, .int v7)]) hx hb dL_law_693 hl (by decide) rfl (fun ls hl => ?_)
      obtain rfl := Option.some.inj h
      refine W.widen (k := cells + 0) (n := slots + 0) (by omega) (by omega) ?_
      exact kk _ (lv_sub hl [1, 2, 3, 4, 5, 6, 7, 0] rfl)
  have R61 : ∀ (v5 : Int32) (M N : Mem) (r' : Int32 × Mem × Mem) (H : Heap) (locs : List Loc) (ls : Array Slot) (cells slots : Nat), fL_law_R61 xs L v5 M N = some r' → va_P D vwCl (wX cA ad M) H → va_P D vwCl (wH cA ah N) H → va_S (A0 s) s.heap H locs → cells + 328 ≤ room_1.cells → slots + 2465 ≤ room_1.slots → lv_has ls 17 [(0, .ref b), (1, .ref (ad 8)), (2, .ref (ah 0)), (3, .ref (ah 1)), (4, .ref (ah 2)), (5, .int v5)] → (∀ (H : Heap) (locs : List Loc), va_P D vwCl (wX cA ad (r'.2.1)) H → va_P D vwCl (wH cA ah (r'.2.2)) H → va_S (A0 s) s.heap H locs → ∀ (ls : Array Slot), lv_has ls 17 [(0, .ref b), (1, .ref (ad 8)), (2, .ref (ah 0)), (3, .ref (ah 1)), (4, .ref (ah 2)), (5, .int v5), (6, .int (r'.1))] → W p l e room_1 s m #[Value.ref b] below meth c H locs (cells + 328) (slots + 2465) (lw_Z below #[Value.ref b] s) (F0 m 90 ls [])) → W p l e room_1 s m #[Value.ref b] below meth c H locs cells slots (lw_Z below #[Value.ref b] s) (F0 m 61 ls []) := by
    intro v5 M N r' H locs ls cells slots h hP hQ hS hc hs hl kk
    unfold fL_law_R61 at h
    refine lv_aload_n hx hb dL_law_61 rfl (lv_at hl 1 rfl) ?_
    refine lv_aload_n hx hb dL_law_62 rfl (lv_at hl 2 rfl) ?_
    refine lv_aload_n hx hb dL_law_63 rfl (lv_at hl 3 rfl) ?_
    refine lv_aload hx hb dL_law_64 (lv_at hl 4 rfl) ?_
    obtain ⟨q10, hqq10, h⟩ := obind_some h
    refine cGY S5 hK hP hQ hD hS hT (fun _ h => hAy _ _ hS.1 h) (As := [.ref (ad 8), .ref (ah 0), .ref (ah 1), .ref (ah 2)]) (kL_isGame l D cA ad ah sa hst _ _ _ hqq10) (va_cwS 4 hts gL_law_L_isGame rfl rfl rfl (by decide +kernel) ⟨(Nat.le_of_ble_eq_true rfl), (Nat.le_of_ble_eq_true rfl)⟩) rfl hl.1 (st0 := _) (rest := []) rfl (Nat.le_of_ble_eq_true rfl) dL_law_66 ⟨(by show _ ≤ room_1.cells; omega), (by show _ ≤ room_1.slots; omega)⟩ (fun H locs hP hQ hS => ?_)
    refine lv_if_eq (tgt := 87) hx hb dL_law_69 (by decide) (fun c11 => ?_) (fun c11 => ?_)
    · rw [if_pos c11] at h
      refine lv_iconst (v := 0) hx hb dL_law_87 (by decide) ?_
      refine lv_istore (lv' := [(6, .int 0), (0, .ref b), (1, .ref (ad 8)), (2, .ref (ah 0)), (3, .ref (ah 1)), (4, .ref (ah 2)), (5, .int v5)]) hx hb dL_law_88 hl (by decide) rfl (fun ls hl => ?_)
      obtain rfl := Option.some.inj h
      refine W.widen (k := cells + 328) (n := slots + 2465) (by omega) (by omega) ?_
      exact kk _ _ hP hQ hS _ (lv_sub hl [1, 2, 3, 4, 5, 6, 0] rfl)
    · rw [if_neg c11] at h
      refine lv_aload_n hx hb dL_law_72 rfl (lv_at hl 1 rfl) ?_
      refine lv_aload_n hx hb dL_law_73 rfl (lv_at hl 2 rfl) ?_
      refine lv_aload_n hx hb dL_law_74 rfl (lv_at hl 3 rfl) ?_
      refine lv_aload hx hb dL_law_75 (lv_at hl 4 rfl) ?_
      obtain ⟨q12, hqq12, h⟩ := obind_some h
      refine cGY S5 hK hP hQ hD hS hT (fun _ h => hAy _ _ hS.1 h) (As := [.ref (ad 8), .ref (ah 0), .ref (ah 1), .ref (ah 2)]) (kL_isSolved l D cA ad ah sa hst _ _ _ hqq12) (va_cwS 4 hts gL_law_L_isSolved rfl rfl rfl (by decide +kernel) ⟨(Nat.le_of_ble_eq_true rfl), (Nat.le_of_ble_eq_true rfl)⟩) rfl hl.1 (st0 := _) (rest := []) rfl (Nat.le_of_ble_eq_true rfl) dL_law_77 ⟨(by show _ ≤ room_1.cells; omega), (by show _ ≤ room_1.slots; omega)⟩ (fun H locs hP hQ hS => ?_)
      refine lv_if_eq (tgt := 87) hx hb dL_law_80 (by decide) (fun c13 => ?_) (fun c13 => ?_)
      · rw [if_pos c13] at h
        refine lv_iconst (v := 0) hx hb dL_law_87 (by decide) ?_
        refine lv_istore (lv' := [(6, .int 0), (0, .ref b), (1, .ref (ad 8)), (2, .ref (ah 0)), (3, .ref (ah 1)), (4, .ref (ah 2)), (5, .int v5)]) hx hb dL_law_88 hl (by decide) rfl (fun ls hl => ?_)
        obtain rfl := Option.some.inj h
        refine W.widen (k := cells + 328) (n := slots + 2465) (by omega) (by omega) ?_
        exact kk _ _ hP hQ hS _ (lv_sub hl [1, 2, 3, 4, 5, 6, 0] rfl)
      · rw [if_neg c13] at h
        refine lv_iconst (v := 1) hx hb dL_law_83 (by decide) ?_
        refine lv_goto (tgt := 88) hx hb dL_law_84 (by decide) ?_
        refine lv_istore (lv' := [(6, .int 1), (0, .ref b), (1, .ref (ad 8)), (2, .ref (ah 0)), (3, .ref (ah 1)), (4, .ref (ah 2)), (5, .int v5)]) hx hb dL_law_88 hl (by decide) rfl (fun ls hl => ?_)
        obtain rfl := Option.some.inj h
        refine W.widen (k := cells + 328) (n := slots + 2465) (by omega) (by omega) ?_
        exact kk _ _ hP hQ hS _ (lv_sub hl [1, 2, 3, 4, 5, 6, 0] rfl)
  have R937 : ∀ (v5 : Int32) (v6 : Int32) (v7 : Int32) (M N : Mem) (r' : Int32 × Mem × Mem) (H : Heap) (locs : List Loc) (ls : Array Slot) (cells slots : Nat), fL_law_R937 xs L v5 v6 v7 M N = some r' → va_P D vwCl (wX cA ad M) H → va_P D vwCl (wH cA ah N) H → va_S (A0 s) s.heap H locs → cells + 328 ≤ room_1.cells → slots + 2465 ≤ room_1.slots → lv_has ls 17 [(0, .ref b), (1, .ref (ad 8)), (2, .ref (ah 0)), (3, .ref (ah 1)), (4, .ref (ah 2)), (5, .int v5), (6, .int v6), (7, .int v7)] → (∀ (H : Heap) (locs : List Loc), va_P D vwCl (wX cA ad (r'.2.1)) H → va_P D vwCl (wH cA ah (r'.2.2)) H → va_S (A0 s) s.heap H locs → ∀ (ls : Array Slot), lv_has ls 17 [(0, .ref b), (1, .ref (ad 8)), (2, .ref (ah 0)), (3, .ref (ah 1)), (4, .ref (ah 2)), (5, .int v5), (6, .int (r'.1)), (7, .int v7)] → W p l e room_1 s m #[Value.ref b] below meth c H locs (cells + 328) (slots + 2465) (lw_Z below #[Value.ref b] s) (F0 m 971 ls [])) → W p l e room_1 s m #[Value.ref b] below meth c H locs cells slots (lw_Z below #[Value.ref b] s) (F0 m 937 ls []) := by
    intro v5 v6 v7 M N r' H locs ls cells slots h hP hQ hS hc hs hl kk
    unfold fL_law_R937 at h
    refine lv_iload hx hb dL_law_937 (lv_at hl 6 rfl) ?_
    refine lv_if_eq (tgt := 968) hx hb dL_law_939 (by decide) (fun c31 => ?_) (fun c31 => ?_)
    · rw [if_pos c31] at h
      refine lv_iconst (v := 0) hx hb dL_law_968 (by decide) ?_
      refine lv_istore (lv' := [(6, .int 0), (0, .ref b), (1, .ref (ad 8)), (2, .ref (ah 0)), (3, .ref (ah 1)), (4, .ref (ah 2)), (5, .int v5), (7, .int v7)]) hx hb dL_law_969 hl (by decide) rfl (fun ls hl => ?_)
      obtain rfl := Option.some.inj h
      refine W.widen (k := cells + 328) (n := slots + 2465) (by omega) (by omega) ?_
      exact kk _ _ hP hQ hS _ (lv_sub hl [1, 2, 3, 4, 5, 6, 0, 7] rfl)
    · rw [if_neg c31] at h
      refine lv_aload_n hx hb dL_law_942 rfl (lv_at hl 1 rfl) ?_
      refine lv_aload_n hx hb dL_law_943 rfl (lv_at hl 2 rfl) ?_
      refine lv_aload_n hx hb dL_law_944 rfl (lv_at hl 3 rfl) ?_
      refine lv_aload hx hb dL_law_945 (lv_at hl 4 rfl) ?_
      obtain ⟨q32, hqq32, h⟩ := obind_some h
      refine cGY S5 hK hP hQ hD hS hT (fun _ h => hAy _ _ hS.1 h) (As := [.ref (ad 8), .ref (ah 0), .ref (ah 1), .ref (ah 2)]) (kL_isGame l D cA ad ah sa hst _ _ _ hqq32) (va_cwS 4 hts gL_law_L_isGame rfl rfl rfl (by decide +kernel) ⟨(Nat.le_of_ble_eq_true rfl), (Nat.le_of_ble_eq_true rfl)⟩) rfl hl.1 (st0 := _) (rest := []) rfl (Nat.le_of_ble_eq_true rfl) dL_law_947 ⟨(by show _ ≤ room_1.cells; omega), (by show _ ≤ room_1.slots; omega)⟩ (fun H locs hP hQ hS => ?_)
      refine lv_if_eq (tgt := 968) hx hb dL_law_950 (by decide) (fun c33 => ?_) (fun c33 => ?_)
      · rw [if_pos c33] at h
        refine lv_iconst (v := 0) hx hb dL_law_968 (by decide) ?_
        refine lv_istore (lv' := [(6, .int 0), (0, .ref b), (1, .ref (ad 8)), (2, .ref (ah 0)), (3, .ref (ah 1)), (4, .ref (ah 2)), (5, .int v5), (7, .int v7)]) hx hb dL_law_969 hl (by decide) rfl (fun ls hl => ?_)
        obtain rfl := Option.some.inj h
        refine W.widen (k := cells + 328) (n := slots + 2465) (by omega) (by omega) ?_
        exact kk _ _ hP hQ hS _ (lv_sub hl [1, 2, 3, 4, 5, 6, 0, 7] rfl)
      · rw [if_neg c33] at h
        refine lv_aload_n hx hb dL_law_953 rfl (lv_at hl 1 rfl) ?_
        refine lv_aload_n hx hb dL_law_954 rfl (lv_at hl 2 rfl) ?_
        refine lv_aload_n hx hb dL_law_955 rfl (lv_at hl 3 rfl) ?_
        refine lv_aload hx hb dL_law_956 (lv_at hl 4 rfl) ?_
        obtain ⟨q34, hqq34, h⟩ := obind_some h
        refine cGY S5 hK hP hQ hD hS hT (fun _ h => hAy _ _ hS.1 h) (As := [.ref (ad 8), .ref (ah 0), .ref (ah 1), .ref (ah 2)]) (kL_isSolved l D cA ad ah sa hst _ _ _ hqq34) (va_cwS 4 hts gL_law_L_isSolved rfl rfl rfl (by decide +kernel) ⟨(Nat.le_of_ble_eq_true rfl), (Nat.le_of_ble_eq_true rfl)⟩) rfl hl.1 (st0 := _) (rest := []) rfl (Nat.le_of_ble_eq_true rfl) dL_law_958 ⟨(by show _ ≤ room_1.cells; omega), (by show _ ≤ room_1.slots; omega)⟩ (fun H locs hP hQ hS => ?_)
        refine lv_if_eq (tgt := 968) hx hb dL_law_961 (by decide) (fun c35 => ?_) (fun c35 => ?_)
        · rw [if_pos c35] at h
          refine lv_iconst (v := 0) hx hb dL_law_968 (by decide) ?_
          refine lv_istore (lv' := [(6, .int 0), (0, .ref b), (1, .ref (ad 8)), (2, .ref (ah 0)), (3, .ref (ah 1)), (4, .ref (ah 2)), (5, .int v5), (7, .int v7)]) hx hb dL_law_969 hl (by decide) rfl (fun ls hl => ?_)
          obtain rfl := Option.some.inj h
          refine W.widen (k := cells + 328) (n := slots + 2465) (by omega) (by omega) ?_
          exact kk _ _ hP hQ hS _ (lv_sub hl [1, 2, 3, 4, 5, 6, 0, 7] rfl)
        · rw [if_neg c35] at h
          refine lv_iconst (v := 1) hx hb dL_law_964 (by decide) ?_
          refine lv_goto (tgt := 969) hx hb dL_law_965 (by decide) ?_
          refine lv_istore (lv' := [(6, .int 1), (0, .ref b), (1, .ref (ad 8)), (2, .ref (ah 0)), (3, .ref (ah 1)), (4, .ref (ah 2)), (5, .int v5), (7, .int v7)]) hx hb dL_law_969 hl (by decide) rfl (fun ls hl => ?_)
          obtain rfl := Option.some.inj h
          refine W.widen (k := cells + 328) (n := slots + 2465) (by omega) (by omega) ?_
          exact kk _ _ hP hQ hS _ (lv_sub hl [1, 2, 3, 4, 5, 6, 0, 7] rfl)
  have R590 : ∀ (v5 : Int32) (v6 : Int32) (v7 : Int32) (v8 : Int32) (v12 : Int32) (v13 : Int32) (M N : Mem) (r' : Int32 × Mem × Mem) (H : Heap) (locs : List Loc) (ls : Array Slot) (cells slots : Nat), fL_law_R590 xs L v5 v6 v7 v8 v12 v13 M N = some r' → va_P D vwCl (wX cA ad M) H → va_P D vwCl (wH cA ah N) H → va_S (A0 s) s.heap H locs → cells + 2 ≤ room_1.cells → slots + 12 ≤ room_1.slots → lv_has ls 17 [(0, .ref b), (1, .ref (ad 8)), (2, .ref (ah 0)), (3, .ref (ah 1)), (4, .ref (ah 2)), (5, .int v5), (6, .int v6), (7, .int v7), (8, .int v8), (12, .int v12), (13, .int v13)] → (∀ (H : Heap) (locs : List Loc), va_P D vwCl (wX cA ad (r'.2.1)) H → va_P D vwCl (wH cA ah (r'.2.2)) H → va_S (A0 s) s.heap H locs → ∀ (ls : Array Slot), lv_has ls 17 [(0, .ref b), (1, .ref (ad 8)), (2, .ref (ah 0)), (3, .ref (ah 1)), (4, .ref (ah 2)), (5, .int v5), (6, .int (r'.1)), (7, .int v7), (8, .int v8), (13, .int v13)] → W p l e room_1 s m #[Value.ref b] below meth c H locs (cells + 2) (slots + 12) (lw_Z below #[Value.ref b] s) (F0 m 627 ls [])) → W p l e room_1 s m #[Value.ref b] below meth c H locs cells slots (lw_Z below #[Value.ref b] s) (F0 m 590 ls []) := by
    intro v5 v6 v7 v8 v12 v13 M N r' H locs ls cells slots h hP hQ hS hc hs hl kk
    unfold fL_law_R590 at h
    refine lv_iload hx hb dL_law_590 (lv_at hl 6 rfl) ?_
    refine lv_if_eq (tgt := 624) hx hb dL_law_592 (by decide) (fun c67 => ?_) (fun c67 => ?_)
    · rw [if_pos c67] at h
      refine lv_iconst (v := 0) hx hb dL_law_624 (by decide) ?_
      refine lv_istore (lv' := [(6, .int 0), (0, .ref b), (1, .ref (ad 8)), (2, .ref (ah 0)), (3, .ref (ah 1)), (4, .ref (ah 2)), (5, .int v5), (7, .int v7), (8, .int v8), (12, .int v12), (13, .int v13)]) hx hb dL_law_625 hl (by decide) rfl (fun ls hl => ?_)
      obtain rfl := Option.some.inj h
      refine W.widen (k := cells + 2) (n := slots + 12) (by omega) (by omega) ?_
      exact kk _ _ hP hQ hS _ (lv_sub hl [1, 2, 3, 4, 5, 6, 0, 7, 8, 10] rfl)
    · rw [if_neg c67] at h
      refine lv_aload_n hx hb dL_law_595 rfl (lv_at hl 1 rfl) ?_
      refine lv_iconst (v := 1) hx hb dL_law_596 (by decide) ?_
      refine lv_iload hx hb dL_law_597 (lv_at hl 8 rfl) ?_
      refine lv_iconst (v := 4) hx hb dL_law_599 (by decide) ?_
      refine r_irem S5 dL_law_600 (by decide) ?_
      refine lv_iconst (v := 0) hx hb dL_law_601 (by decide) ?_
      obtain ⟨q69, hqq69, h⟩ := obind_some h
      obtain ⟨g68, h⟩ := gd_some h
      refine cDY S5 hK hP hQ hD hS hT (fun _ h => hA _ _ hS.1 h) (As := [.ref (ad 8), .int 1, .int (im v8 4), .int 0]) (kL_does_1 l D cA ad sa hst (im v8 4) 0 _ _ hqq69 g68) (vx_cwSW 4 hts gL_law_L_does rfl rfl rfl (by decide +kernel) ⟨(Nat.le_of_ble_eq_true rfl), (Nat.le_of_ble_eq_true rfl)⟩) rfl hl.1 (st0 := _) (rest := []) rfl (Nat.le_of_ble_eq_true rfl) dL_law_602 ⟨(by show _ ≤ room_1.cells; omega), (by show _ ≤ room_1.slots; omega)⟩ (fun H locs hP hQ hS => ?_)
      refine lv_iload hx hb dL_law_605 (lv_at hl 10 rfl) ?_
      refine lv_if_eq (tgt := 615) hx hb dL_law_607 (by decide) (fun c70 => ?_) (fun c70 => ?_)
      · rw [if_pos c70] at h
        refine lv_bipush (v := (-13)) hx hb dL_law_615 (by decide) ?_
        refine lv_icmp_ne (tgt := 624) hx hb dL_law_617 (by decide) (fun c71 => ?_) (fun c71 => ?_)
        · rw [if_neg c71] at h
          refine lv_iconst (v := 0) hx hb dL_law_624 (by decide) ?_
          refine lv_istore (lv' := [(6, .int 0), (0, .ref b), (1, .ref (ad 8)), (2, .ref (ah 0)), (3, .ref (ah 1)), (4, .ref (ah 2)), (5, .int v5), (7, .int v7), (8, .int v8), (12, .int v12), (13, .int v13)]) hx hb dL_law_625 hl (by decide) rfl (fun ls hl => ?_)
          obtain rfl := Option.some.inj h
          refine W.widen (k := cells + 2) (n := slots + 12) (by omega) (by omega) ?_
          exact kk _ _ hP hQ hS _ (lv_sub hl [1, 2, 3, 4, 5, 6, 0, 7, 8, 10] rfl)
        · rw [if_pos c71] at h
          refine lv_iconst (v := 1) hx hb dL_law_620 (by decide) ?_
          refine lv_goto (tgt := 625) hx hb dL_law_621 (by decide) ?_
          refine lv_istore (lv' := [(6, .int 1), (0, .ref b), (1, .ref (ad 8)), (2, .ref (ah 0)), (3, .ref (ah 1)), (4, .ref (ah 2)), (5, .int v5), (7, .int v7), (8, .int v8), (12, .int v12), (13, .int v13)]) hx hb dL_law_625 hl (by decide) rfl (fun ls hl => ?_)
          obtain rfl := Option.some.inj h
          refine W.widen (k := cells + 2) (n := slots + 12) (by omega) (by omega) ?_
          exact kk _ _ hP hQ hS _ (lv_sub hl [1, 2, 3, 4, 5, 6, 0, 7, 8, 10] rfl)
      · rw [if_neg c70] at h
        refine lv_iload hx hb dL_law_610 (lv_at hl 9 rfl) ?_
        refine lv_goto (tgt := 617) hx hb dL_law_612 (by decide) ?_
        refine lv_icmp_ne (tgt := 624) hx hb dL_law_617 (by decide) (fun c72 => ?_) (fun c72 => ?_)
        · rw [if_neg c72] at h
          refine lv_iconst (v := 0) hx hb dL_law_624 (by decide) ?_
          refine lv_istore (lv' := [(6, .int 0), (0, .ref b), (1, .ref (ad 8)), (2, .ref (ah 0)), (3, .ref (ah 1)), (4, .ref (ah 2)), (5, .int v5), (7, .int v7), (8, .int v8), (12, .int v12), (13, .int v13)]) hx hb dL_law_625 hl (by decide) rfl (fun ls hl => ?_)
          obtain rfl := Option.some.inj h
          refine W.widen (k := cells + 2) (n := slots + 12) (by omega) (by omega) ?_
          exact kk _ _ hP hQ hS _ (lv_sub hl [1, 2, 3, 4, 5, 6, 0, 7, 8, 10] rfl)
        · rw [if_pos c72] at h
          refine lv_iconst (v := 1) hx hb dL_law_620 (by decide) ?_
          refine lv_goto (tgt := 625) hx hb dL_law_621 (by decide) ?_
          refine lv_istore (lv' := [(6, .int 1), (0, .ref b), (1, .ref (ad 8)), (2, .ref (ah 0)), (3, .ref (ah 1)), (4, .ref (ah 2)), (5, .int v5), (7, .int v7), (8, .int v8), (12, .int v12), (13, .int v13)]) hx hb dL_law_625 hl (by decide) rfl (fun ls hl => ?_)
          obtain rfl := Option.some.inj h
          refine W.widen (k := cells + 2) (n := slots + 12) (by omega) (by omega) ?_
          exact kk _ _ hP hQ hS _ (lv_sub hl [1, 2, 3, 4, 5, 6, 0, 7, 8, 10] rfl)
  have R627 : ∀ (v5 : Int32) (v6 : Int32) (v7 : Int32) (v8 : Int32) (v13 : Int32) (M N : Mem) (r' : Mem × Mem) (H : Heap) (locs : List Loc) (ls : Array Slot) (cells slots : Nat), fL_law_R627 xs L v5 v6 v7 v8 v13 M N = some r' → va_P D vwCl (wX cA ad M) H → va_P D vwCl (wH cA ah N) H → va_S (A0 s) s.heap H locs → cells + 0 ≤ room_1.cells → slots + 0 ≤ room_1.slots → lv_has ls 17 [(0, .ref b), (1, .ref (ad 8)), (2, .ref (ah 0)), (3, .ref (ah 1)), (4, .ref (ah 2)), (5, .int v5), (6, .int v6), (7, .int v7), (8, .int v8), (13, .int v13)] → (∀ (H : Heap) (locs : List Loc), va_P D vwCl (wX cA ad (r'.1)) H → va_P D vwCl (wH cA ah (r'.2)) H → va_S (A0 s) s.heap H locs → ∀ (ls : Array Slot), lv_has ls 17 [(0, .ref b), (1, .ref (ad 8)), (2, .ref (ah 0)), (3, .ref (ah 1)), (4, .ref (ah 2)), (5, .int v5), (6, .int v6), (7, .int v7)] → W p l e room_1 s m #[Value.ref b] below meth c H locs (cells + 0) (slots + 0) (lw_Z below #[Value.ref b] s) (F0 m 937 ls [])) → W p l e room_1 s m #[Value.ref b] below meth c H locs cells slots (lw_Z below #[Value.ref b] s) (F0 m 627 ls []) := by
    intro v5 v6 v7 v8 v13 M N r' H locs ls cells slots h hP hQ hS hc hs hl kk
    unfold fL_law_R627 at h
    refine lv_aload hx hb dL_law_627 (lv_at hl 4 rfl) ?_
    refine lv_iconst (v := 3) hx hb dL_law_629 (by decide) ?_
    refine lv_iload hx hb dL_law_630 (lv_at hl 9 rfl) ?_
    refine lv_if_eq (tgt := 639) hx hb dL_law_632 (by decide) (fun c73 => ?_) (fun c73 => ?_)
    · rw [if_pos c73] at h
      refine lv_iconst (v := 0) hx hb dL_law_639 (by decide) ?_
      refine asY2 S5 hK hP hQ hD hS (by decide) (k := 3) rfl dL_law_640 (fun H locs hP hQ hS => ?_)
      refine lv_aload hx hb dL_law_641 (lv_at hl 4 rfl) ?_
      refine lv_iconst (v := 2) hx hb dL_law_643 (by decide) ?_
      refine lv_iload hx hb dL_law_644 (lv_at hl 9 rfl) ?_
      refine lv_if_eq (tgt := 656) hx hb dL_law_646 (by decide) (fun c74 => ?_) (fun c74 => ?_)
      · rw [if_pos c74] at h
        refine lv_iconst (v := 0) hx hb dL_law_656 (by decide) ?_
        refine asY2 S5 hK hP hQ hD hS (by decide) (k := 2) rfl dL_law_657 (fun H locs hP hQ hS => ?_)
        refine lv_goto (tgt := 937) hx hb dL_law_658 (by decide) ?_
        obtain rfl := Option.some.inj h
        refine W.widen (k := cells + 0) (n := slots + 0) (by omega) (by omega) ?_
        exact kk _ _ hP hQ hS _ (lv_sub hl [0, 1, 2, 3, 4, 5, 6, 7] rfl)
      · rw [if_neg c74] at h
        refine lv_iload hx hb dL_law_649 (lv_at hl 8 rfl) ?_
        refine lv_iconst (v := 4) hx hb dL_law_651 (by decide) ?_
        refine r_irem S5 dL_law_652 (by decide) ?_
        refine lv_goto (tgt := 657) hx hb dL_law_653 (by decide) ?_
        refine asY2 S5 hK hP hQ hD hS (by decide) (k := 2) rfl dL_law_657 (fun H locs hP hQ hS => ?_)
        refine lv_goto (tgt := 937) hx hb dL_law_658 (by decide) ?_
        obtain rfl := Option.some.inj h
        refine W.widen (k := cells + 0) (n := slots + 0) (by omega) (by omega) ?_
        exact kk _ _ hP hQ hS _ (lv_sub hl [0, 1, 2, 3, 4, 5, 6, 7] rfl)
    · rw [if_neg c73] at h
      refine lv_iconst (v := 1) hx hb dL_law_635 (by decide) ?_
      refine lv_goto (tgt := 640) hx hb dL_law_636 (by decide) ?_
      refine asY2 S5 hK hP hQ hD hS (by decide) (k := 3) rfl dL_law_640 (fun H locs hP hQ hS => ?_)
      refine lv_aload hx hb dL_law_641 (lv_at hl 4 rfl) ?_
      refine lv_iconst (v := 2) hx hb dL_law_643 (by decide) ?_
      refine lv_iload hx hb dL_law_644 (lv_at hl 9 rfl) ?_
      refine lv_if_eq (tgt := 656) hx hb dL_law_646 (by decide) (fun c75 => ?_) (fun c75 => ?_)
      · rw [if_pos c75] at h
        refine lv_iconst (v := 0) hx hb dL_law_656 (by decide) ?_
        refine asY2 S5 hK hP hQ hD hS (by decide) (k := 2) rfl dL_law_657 (fun H locs hP hQ hS => ?_)
        refine lv_goto (tgt := 937) hx hb dL_law_658 (by decide) ?_
        obtain rfl := Option.some.inj h
        refine W.widen (k := cells + 0) (n := slots + 0) (by omega) (by omega) ?_
        exact kk _ _ hP hQ hS _ (lv_sub hl [0, 1, 2, 3, 4, 5, 6, 7] rfl)
      · rw [if_neg c75] at h
        refine lv_iload hx hb dL_law_649 (lv_at hl 8 rfl) ?_
        refine lv_iconst (v := 4) hx hb dL_law_651 (by decide) ?_
        refine r_irem S5 dL_law_652 (by decide) ?_
        refine lv_goto (tgt := 657) hx hb dL_law_653 (by decide) ?_
        refine asY2 S5 hK hP hQ hD hS (by decide) (k := 2) rfl dL_law_657 (fun H locs hP hQ hS => ?_)
        refine lv_goto (tgt := 937) hx hb dL_law_658 (by decide) ?_
        obtain rfl := Option.some.inj h
        refine W.widen (k := cells + 0) (n := slots + 0) (by omega) (by omega) ?_
        exact kk _ _ hP hQ hS _ (lv_sub hl [0, 1, 2, 3, 4, 5, 6, 7] rfl)
  have R105 : ∀ (v5 : Int32) (v6 : Int32) (v7 : Int32) (M N : Mem) (r' : Int32) (H : Heap) (locs : List Loc) (ls : Array Slot) (cells slots : Nat), fL_law_R105 xs L v5 v6 v7 M N = some r' → va_P D vwCl (wX cA ad M) H → va_P D vwCl (wH cA ah N) H → va_S (A0 s) s.heap H locs → cells + 0 ≤ room_1.cells → slots + 0 ≤ room_1.slots → lv_has ls 17 [(0, .ref b), (1, .ref (ad 8)), (2, .ref (ah 0)), (3, .ref (ah 1)), (4, .ref (ah 2)), (5, .int v5), (6, .int v6), (7, .int v7)] → (∀ (ls : Array Slot), lv_has ls 17 [(0, .ref b), (1, .ref (ad 8)), (2, .ref (ah 0)), (3, .ref (ah 1)), (4, .ref (ah 2)), (5, .int v5), (6, .int v6), (7, .int v7), (8, .int (r'))] → W p l e room_1 s m #[Value.ref b] below meth c H locs (cells + 0) (slots + 0) (lw_Z below #[Value.ref b] s) (F0 m 145 ls [])) → W p l e room_1 s m #[Value.ref b] below meth c H locs cells slots (lw_Z below #[Value.ref b] s) (F0 m 105 ls []) := by
    intro v5 v6 v7 M N r' H locs ls cells slots h hP hQ hS hc hs hl kk
    unfold fL_law_R105 at h
    refine lv_iload hx hb dL_law_105 (lv_at hl 7 rfl) ?_
    refine lv_aload_n hx hb dL_law_107 rfl (lv_at hl 0 rfl) ?_
    refine va_slen hx hb hX hbl hbA hS dL_law_108 ?_
    refine lv_icmp_ge (tgt := 122) hx hb dL_law_109 (by decide) (fun c20 => ?_) (fun c20 => ?_)
    · rw [if_pos c20] at h
      refine r_ldc (v := 60013) S5 (List.mem_of_getElem? (i := 5) rfl) dL_law_122 ?_
      refine lv_iload hx hb dL_law_124 (lv_at hl 7 rfl) ?_
      refine lv_imul hx hb dL_law_126 ?_
      refine lv_iload hx hb dL_law_127 (lv_at hl 7 rfl) ?_
      refine lv_imul hx hb dL_law_129 ?_
      refine lv_sipush (v := 1511) hx hb dL_law_130 (by decide) ?_
      refine lv_iload hx hb dL_law_133 (lv_at hl 7 rfl) ?_
      refine lv_imul hx hb dL_law_135 ?_
      refine lv_iadd hx hb dL_law_136 ?_
      refine lv_bipush (v := 37) hx hb dL_law_137 (by decide) ?_
      refine lv_iadd hx hb dL_law_139 ?_
      refine r_ldc (v := 2147483647) S5 (List.mem_of_getElem? (i := 4) rfl) dL_law_140 ?_
      refine lv_iand hx hb dL_law_142 ?_
      refine lv_istore (lv' := [(8, .int (((((60013 * v7) * v7) + (1511 * v7)) + 37) &&& 2147483647)), (0, .ref b), (1, .ref (ad 8)), (2, .ref (ah 0)), (3, .ref (ah 1)), (4, .ref (ah 2)), (5, .int v5), (6, .int v6), (7, .int v7)]) hx hb dL_law_143 hl (by decide) rfl (fun ls hl => ?_)
      obtain rfl := Option.some.inj h
      refine W.widen (k := cells + 0) (n := slots + 0) (by omega) (by omega) ?_
      exact kk _ (lv_sub hl [1, 2, 3, 4, 5, 6, 7, 8, 0] rfl)
    · rw [if_neg c20] at h
      refine lv_aload_n hx hb dL_law_112 rfl (lv_at hl 0 rfl) ?_
      refine lv_iload hx hb dL_law_113 (lv_at hl 7 rfl) ?_
      obtain ⟨g21, h⟩ := gd_some h
      refine va_sld hx hb hX hbl hbA hS (vin_in g21) dL_law_115 ?_
      refine r_ldc (v := 2147483647) S5 (List.mem_of_getElem? (i := 4) rfl) dL_law_116 ?_
      refine lv_iand hx hb dL_law_118 ?_
      refine lv_goto (tgt := 143) hx hb dL_law_119 (by decide) ?_
      refine lv_istore (lv' := [(8, .int ((xs (v7.toNatClampNeg)) &&& 2147483647)), (0, .ref b), (1, .ref (ad 8)), (2, .ref (ah 0)), (3, .ref (ah 1)), (4, .ref (ah 2)), (5, .int v5), (6, .int v6), (7, .int v7)]) hx hb dL_law_143 hl (by decide) rfl (fun ls hl => ?_)
      obtain rfl := Option.some.inj h
      refine W.widen (k := cells + 0) (n := slots + 0) (by omega) (by omega) ?_
      exact kk _ (lv_sub hl [1, 2, 3, 4, 5, 6, 7, 8, 0] rfl)
  have R816 : ∀ (v5 : Int32) (v7 : Int32) (v11 : Int32) (M N : Mem) (r' : Int32 × Int32) (H : Heap) (locs : List Loc) (ls : Array Slot) (cells slots : Nat), fL_law_R816 xs L v5 v7 v11 M N = some r' → va_P D vwCl (wX cA ad M) H → va_P D vwCl (wH cA ah N) H → va_S (A0 s) s.heap H locs → cells + 0 ≤ room_1.cells → slots + 0 ≤ room_1.slots → lv_has ls 17 [(0, .ref b), (1, .ref (ad 8)), (2, .ref (ah 0)), (3, .ref (ah 1)), (4, .ref (ah 2)), (5, .int v5), (7, .int v7), (11, .int v11)] → (∀ (ls : Array Slot), lv_has ls 17 [(0, .ref b), (1, .ref (ad 8)), (2, .ref (ah 0)), (3, .ref (ah 1)), (4, .ref (ah 2)), (5, .int v5), (7, .int v7), (11, .int v11), (12, .int (r'.1)), (13, .int (r'.2))] → W p l e room_1 s m #[Value.ref b] below meth c H locs (cells + 0) (slots + 0) (lw_Z below #[Value.ref b] s) (F0 m 852 ls [])) → W p l e room_1 s m #[Value.ref b] below meth c H locs cells slots (lw_Z below #[Value.ref b] s) (F0 m 816 ls []) := by
    intro v5 v7 v11 M N r' H locs ls cells slots h hP hQ hS hc hs hl kk
    unfold fL_law_R816 at h
    refine lv_aload_n hx hb dL_law_816 rfl (lv_at hl 2 rfl) ?_
    refine lv_aload_n hx hb dL_law_817 rfl (lv_at hl 3 rfl) ?_
    refine lv_aload hx hb dL_law_818 (lv_at hl 4 rfl) ?_
    refine lv_aload hx hb dL_law_820 (lv_at hl 4 rfl) ?_
    refine lv_iconst (v := 0) hx hb dL_law_822 (by decide) ?_
    refine alH2 S5 hK hQ (v := N 2 0) (by decide) rfl dL_law_823 ?_
    refine lv_iload hx hb dL_law_824 (lv_at hl 7 rfl) ?_
    obtain ⟨q88, hqq88, h⟩ := obind_some h
    refine cSRH S5 hK hQ (As := [.ref (ah 0), .ref (ah 1), .ref (ah 2), .int (N 2 0), .int v11]) (kL_can l D cA ah _ _ _ _ hqq88) (va_cwS 5 hts gL_law_L_can rfl rfl rfl (by decide +kernel) ⟨(Nat.le_of_ble_eq_true rfl), (Nat.le_of_ble_eq_true rfl)⟩) rfl hl.1 (st0 := _) (rest := []) rfl (Nat.le_of_ble_eq_true rfl) dL_law_826 ⟨(by show _ ≤ room_1.cells; omega), (by show _ ≤ room_1.slots; omega)⟩ ?_
    refine lv_istore (lv' := [(12, .int q88), (0, .ref b), (1, .ref (ad 8)), (2, .ref (ah 0)), (3, .ref (ah 1)), (4, .ref (ah 2)), (5, .int v5), (7, .int v7), (11, .int v11)]) hx hb dL_law_829 hl (by decide) rfl (fun ls hl => ?_)
    refine lv_aload_n hx hb dL_law_831 rfl (lv_at hl 4 rfl) ?_
    refine lv_aload hx hb dL_law_832 (lv_at hl 5 rfl) ?_
    refine lv_aload hx hb dL_law_834 (lv_at hl 5 rfl) ?_
    refine lv_iconst (v := 0) hx hb dL_law_836 (by decide) ?_
    refine alH2 S5 hK hQ (v := N 2 0) (by decide) rfl dL_law_837 ?_
    obtain ⟨q89, hqq89, h⟩ := obind_some h
    refine cSRH S5 hK hQ (As := [.ref (ah 1), .ref (ah 2), .int (N 2 0)]) (kL_leader l D cA ah _ _ _ hqq89) (va_cwS 3 hts gL_law_L_leader rfl rfl rfl (by decide +kernel) ⟨(Nat.le_of_ble_eq_true rfl), (Nat.le_of_ble_eq_true rfl)⟩) rfl hl.1 (st0 := _) (rest := []) rfl (Nat.le_of_ble_eq_true rfl) dL_law_838 ⟨(by show _ ≤ room_1.cells; omega), (by show _ ≤ room_1.slots; omega)⟩ ?_
    refine lv_aload hx hb dL_law_841 (lv_at hl 5 rfl) ?_
    refine lv_iconst (v := 0) hx hb dL_law_843 (by decide) ?_
    refine alH2 S5 hK hQ (v := N 2 0) (by decide) rfl dL_law_844 ?_
    refine lv_iconst (v := 4) hx hb dL_law_845 (by decide) ?_
    refine r_irem S5 dL_law_846 (by decide) ?_
    refine lv_iadd hx hb dL_law_847 ?_
    refine lv_iconst (v := 4) hx hb dL_law_848 (by decide) ?_
    refine r_irem S5 dL_law_849 (by decide) ?_
    refine lv_istore (lv' := [(13, .int (im (q89 + (im (N 2 0) 4)) 4)), (12, .int q88), (0, .ref b), (1, .ref (ad 8)), (2, .ref (ah 0)), (3, .ref (ah 1)), (4, .ref (ah 2)), (5, .int v5), (7, .int v7), (11, .int v11)]) hx hb dL_law_850 hl (by decide) rfl (fun ls hl => ?_)
    obtain rfl := Option.some.inj h
    refine W.widen (k := cells + 0) (n := slots + 0) (by omega) (by omega) ?_
    exact kk _ (lv_sub hl [2, 3, 4, 5, 6, 7, 8, 9, 1, 0] rfl)
  have R319 : ∀ (v5 : Int32) (v6 : Int32) (v7 : Int32) (v8 : Int32) (v11 : Int32) (v12 : Int32) (M N : Mem) (r' : Int32 × Int32) (H : Heap) (locs : List Loc) (ls : Array Slot) (cells slots : Nat), fL_law_R319 xs L v5 v6 v7 v8 v11 v12 M N = some r' → va_P D vwCl (wX cA ad M) H → va_P D vwCl (wH cA ah N) H → va_S (A0 s) s.heap H locs → cells + 0 ≤ room_1.cells → slots + 0 ≤ room_1.slots → lv_has ls 17 [(0, .ref b), (1, .ref (ad 8)), (2, .ref (ah 0)), (3, .ref (ah 1)), (4, .ref (ah 2)), (5, .int v5), (6, .int v6), (7, .int v7), (8, .int v8), (11, .int v11), (12, .int v12)] → (∀ (ls : Array Slot), lv_has ls 17 [(0, .ref b), (1, .ref (ad 8)), (2, .ref (ah 0)), (3, .ref (ah 1)), (4, .ref (ah 2)), (5, .int v5), (6, .int v6), (7, .int v7), (8, .int v8), (11, .int v11), (12, .int v12), (13, .int (r'.1)), (14, .int (r'.2))] → W p l e room_1 s m #[Value.ref b] below meth c H locs (cells + 0) (slots + 0) (lw_Z below #[Value.ref b] s) (F0 m 355 ls [])) → W p l e room_1 s m #[Value.ref b] below meth c H locs cells slots (lw_Z below #[Value.ref b] s) (F0 m 319 ls []) := by
    intro v5 v6 v7 v8 v11 v12 M N r' H locs ls cells slots h hP hQ hS hc hs hl kk
    unfold fL_law_R319 at h
    refine lv_iload hx hb dL_law_319 (lv_at hl 8 rfl) ?_
    refine lv_bipush (v := 8) hx hb dL_law_321 (by decide) ?_
    refine r_idiv S5 dL_law_323 (by decide) ?_
    refine lv_iload hx hb dL_law_324 (lv_at hl 10 rfl) ?_
    refine lv_iadd hx hb dL_law_326 ?_
    refine lv_iconst (v := 4) hx hb dL_law_327 (by decide) ?_
    refine r_irem S5 dL_law_328 (by decide) ?_
    refine lv_istore (lv' := [(13, .int (im ((v8 / 8) + v12) 4)), (0, .ref b), (1, .ref (ad 8)), (2, .ref (ah 0)), (3, .ref (ah 1)), (4, .ref (ah 2)), (5, .int v5), (6, .int v6), (7, .int v7), (8, .int v8), (11, .int v11), (12, .int v12)]) hx hb dL_law_329 hl (by decide) rfl (fun ls hl => ?_)
    refine lv_iload hx hb dL_law_331 (lv_at hl 9 rfl) ?_
    refine lv_bipush (v := 32) hx hb dL_law_333 (by decide) ?_
    refine r_idiv S5 dL_law_335 (by decide) ?_
    refine lv_iload hx hb dL_law_336 (lv_at hl 11 rfl) ?_
    refine lv_iconst (v := 1) hx hb dL_law_338 (by decide) ?_
    refine lv_iload hx hb dL_law_339 (lv_at hl 9 rfl) ?_
    refine lv_bipush (v := 7) hx hb dL_law_341 (by decide) ?_
    refine r_idiv S5 dL_law_343 (by decide) ?_
    refine lv_bipush (v := 23) hx hb dL_law_344 (by decide) ?_
    refine r_irem S5 dL_law_346 (by decide) ?_
    refine lv_iadd hx hb dL_law_347 ?_
    refine lv_imul hx hb dL_law_348 ?_
    refine lv_iadd hx hb dL_law_349 ?_
    refine lv_bipush (v := 24) hx hb dL_law_350 (by decide) ?_
    refine r_irem S5 dL_law_352 (by decide) ?_
    refine lv_istore (lv' := [(14, .int (im ((v8 / 32) + (v12 * (1 + (im (v8 / 7) 23)))) 24)), (13, .int (im ((v8 / 8) + v12) 4)), (0, .ref b), (1, .ref (ad 8)), (2, .ref (ah 0)), (3, .ref (ah 1)), (4, .ref (ah 2)), (5, .int v5), (6, .int v6), (7, .int v7), (8, .int v8), (11, .int v11), (12, .int v12)]) hx hb dL_law_353 hl (by decide) rfl (fun ls hl => ?_)
    obtain rfl := Option.some.inj h
    refine W.widen (k := cells + 0) (n := slots + 0) (by omega) (by omega) ?_
    exact kk _ (lv_sub hl [2, 3, 4, 5, 6, 7, 8, 9, 10, 11, 12, 1, 0] rfl)
  have L770 : ∀ (n : Nat) (v5 : Int32) (v7 : Int32) (v8 : Int32) (v11 : Int32) (v12 : Int32) (M N : Mem) (r' : Int32) (H : Heap) (locs : List Loc) (ls : Array Slot) (cells slots : Nat), fL_law_L770 xs L n v5 v7 v8 v11 v12 M N = some r' → va_P D vwCl (wX cA ad M) H → va_P D vwCl (wH cA ah N) H → va_S (A0 s) s.heap H locs → cells + n * 0 ≤ room_1.cells → slots + n * 0 ≤ room_1.slots → lv_has ls 17 [(0, .ref b), (1, .ref (ad 8)), (2, .ref (ah 0)), (3, .ref (ah 1)), (4, .ref (ah 2)), (5, .int v5), (7, .int v7), (8, .int v8), (11, .int v11), (12, .int v12)] → (∀ (ls : Array Slot), lv_has ls 17 [(0, .ref b), (1, .ref (ad 8)), (2, .ref (ah 0)), (3, .ref (ah 1)), (4, .ref (ah 2)), (5, .int v5), (7, .int v7), (11, .int (r'))] → W p l e room_1 s m #[Value.ref b] below meth c H locs (cells + n * 0) (slots + n * 0) (lw_Z below #[Value.ref b] s) (F0 m 816 ls [])) → W p l e room_1 s m #[Value.ref b] below meth c H locs cells slots (lw_Z below #[Value.ref b] s) (F0 m 770 ls []) := by
    intro n
    induction n with
    | zero => intro v5 v7 v8 v11 v12 M N r' H locs ls cells slots h hP hQ hS hc hs hl kk; rw [fL_law_L770.eq_1] at h; cases h
    | succ n ih =>
      intro v5 v7 v8 v11 v12 M N r' H locs ls cells slots h hP hQ hS hc hs hl kk
      rw [fL_law_L770.eq_2] at h
      refine lv_iload hx hb dL_law_770 (lv_at hl 9 rfl) ?_
      refine lv_bipush (v := 24) hx hb dL_law_772 (by decide) ?_
      refine lv_icmp_ge (tgt := 816) hx hb dL_law_774 (by decide) (fun c84 => ?_) (fun c84 => ?_)
      · rw [if_pos c84] at h
        obtain rfl := Option.some.inj h
        refine W.widen (k := cells + (n + 1) * 0) (n := slots + (n + 1) * 0) (by omega) (by omega) ?_
        exact kk _ (lv_sub hl [0, 1, 2, 3, 4, 5, 6, 8] rfl)
      · rw [if_neg c84] at h
        refine lv_aload_n hx hb dL_law_777 rfl (lv_at hl 2 rfl) ?_
        refine lv_aload_n hx hb dL_law_778 rfl (lv_at hl 3 rfl) ?_
        refine lv_aload hx hb dL_law_779 (lv_at hl 4 rfl) ?_
        refine lv_aload hx hb dL_law_781 (lv_at hl 4 rfl) ?_
        refine lv_iconst (v := 0) hx hb dL_law_783 (by decide) ?_
        refine alH2 S5 hK hQ (v := N 2 0) (by decide) rfl dL_law_784 ?_
        refine lv_iload hx hb dL_law_785 (lv_at hl 8 rfl) ?_
        obtain ⟨q85, hqq85, h⟩ := obind_some h
        refine cSRH S5 hK hQ (As := [.ref (ah 0), .ref (ah 1), .ref (ah 2), .int (N 2 0), .int v11]) (kL_can l D cA ah _ _ _ _ hqq85) (va_cwS 5 hts gL_law_L_can rfl rfl rfl (by decide +kernel) ⟨(Nat.le_of_ble_eq_true rfl), (Nat.le_of_ble_eq_true rfl)⟩) rfl hl.1 (st0 := _) (rest := []) rfl (Nat.le_of_ble_eq_true rfl) dL_law_787 ⟨(by show _ ≤ room_1.cells; omega), (by show _ ≤ room_1.slots; omega)⟩ ?_
        refine lv_if_ne (tgt := 816) hx hb dL_law_790 (by decide) (fun c86 => ?_) (fun c86 => ?_)
        · rw [if_neg c86] at h
          obtain rfl := Option.some.inj h
          refine W.widen (k := cells + (n + 1) * 0) (n := slots + (n + 1) * 0) (by omega) (by omega) ?_
          exact kk _ (lv_sub hl [0, 1, 2, 3, 4, 5, 6, 8] rfl)
        · rw [if_pos c86] at h
          refine lv_iload hx hb dL_law_793 (lv_at hl 7 rfl) ?_
          refine lv_bipush (v := 7) hx hb dL_law_795 (by decide) ?_
          refine r_irem S5 dL_law_797 (by decide) ?_
          refine lv_if_le (tgt := 816) hx hb dL_law_798 (by decide) (fun c87 => ?_) (fun c87 => ?_)
          · rw [if_pos c87] at h
            obtain rfl := Option.some.inj h
            refine W.widen (k := cells + (n + 1) * 0) (n := slots + (n + 1) * 0) (by omega) (by omega) ?_
            exact kk _ (lv_sub hl [0, 1, 2, 3, 4, 5, 6, 8] rfl)
          · rw [if_neg c87] at h
            refine lv_iload hx hb dL_law_801 (lv_at hl 8 rfl) ?_
            refine lv_iconst (v := 1) hx hb dL_law_803 (by decide) ?_
            refine lv_iadd hx hb dL_law_804 ?_
            refine lv_bipush (v := 24) hx hb dL_law_805 (by decide) ?_
            refine r_irem S5 dL_law_807 (by decide) ?_
            refine lv_istore (lv' := [(11, .int (im (v11 + 1) 24)), (0, .ref b), (1, .ref (ad 8)), (2, .ref (ah 0)), (3, .ref (ah 1)), (4, .ref (ah 2)), (5, .int v5), (7, .int v7), (8, .int v8), (12, .int v12)]) hx hb dL_law_808 hl (by decide) rfl (fun ls hl => ?_)
            refine lv_iinc (v := v12 + 1) (lv' := [(12, .int (v12 + 1)), (11, .int (im (v11 + 1) 24)), (0, .ref b), (1, .ref (ad 8)), (2, .ref (ah 0)), (3, .ref (ah 1)), (4, .ref (ah 2)), (5, .int v5), (7, .int v7), (8, .int v8)]) hx hb dL_law_810 hl (k := 9) rfl rfl (by decide) rfl (fun ls hl => ?_)
            refine lv_goto (tgt := 770) hx hb dL_law_813 (by decide) ?_
            refine W.widen (k := cells + 0) (n := slots + 0) (by omega) (by omega) ?_
            exact ih _ _ _ _ _ _ _ _ _ _ _ _ _ h hP hQ hS (by omega) (by omega) (lv_sub hl [2, 3, 4, 5, 6, 7, 8, 9, 1, 0] rfl) (fun ls hl => W.widen (k := cells + (n + 1) * 0) (n := slots + (n + 1) * 0) (by omega) (by omega) (kk ls hl))
  have R27 : ∀ (M N : Mem) (r' : Int32) (H : Heap) (locs : List Loc) (ls : Array Slot) (cells slots : Nat), fL_law_R27 xs L M N = some r' → va_P D vwCl (wX cA ad M) H → va_P D vwCl (wH cA ah N) H → va_S (A0 s) s.heap H locs → cells + 0 ≤ room_1.cells → slots + 0 ≤ room_1.slots → lv_has ls 17 [(0, .ref b), (1, .ref (ad 8)), (2, .ref (ah 0)), (3, .ref (ah 1)), (4, .ref (ah 2))] → (∀ (ls : Array Slot), lv_has ls 17 [(0, .ref b), (1, .ref (ad 8)), (2, .ref (ah 0)), (3, .ref (ah 1)), (4, .ref (ah 2)), (5, .int (r'))] → W p l e room_1 s m #[Value.ref b] below meth c H locs (cells + 0) (slots + 0) (lw_Z below #[Value.ref b] s) (F0 m 61 ls [])) → W p l e room_1 s m #[Value.ref b] below meth c H locs cells slots (lw_Z below #[Value.ref b] s) (F0 m 27 ls []) := by
    intro M N r' H locs ls cells slots h hP hQ hS hc hs hl kk
    unfold fL_law_R27 at h
    refine lv_iconst (v := 1) hx hb dL_law_27 (by decide) ?_
    refine lv_aload_n hx hb dL_law_28 rfl (lv_at hl 0 rfl) ?_
    refine va_slen hx hb hX hbl hbA hS dL_law_29 ?_
    refine lv_if_le (tgt := 41) hx hb dL_law_30 (by decide) (fun c4 => ?_) (fun c4 => ?_)
    · rw [if_pos c4] at h
      refine lv_iconst (v := 1) hx hb dL_law_41 (by decide) ?_
      refine lv_iadd hx hb dL_law_42 ?_
      refine lv_aload_n hx hb dL_law_43 rfl (lv_at hl 0 rfl) ?_
      refine va_slen hx hb hX hbl hbA hS dL_law_44 ?_
      refine lv_iconst (v := 1) hx hb dL_law_45 (by decide) ?_
      refine lv_icmp_le (tgt := 57) hx hb dL_law_46 (by decide) (fun c5 => ?_) (fun c5 => ?_)
      · rw [if_pos c5] at h
        refine lv_iconst (v := 1) hx hb dL_law_57 (by decide) ?_
        refine lv_iadd hx hb dL_law_58 ?_
        refine lv_istore (lv' := [(5, .int ((1 + 1) + 1)), (0, .ref b), (1, .ref (ad 8)), (2, .ref (ah 0)), (3, .ref (ah 1)), (4, .ref (ah 2))]) hx hb dL_law_59 hl (by decide) rfl (fun ls hl => ?_)
        obtain rfl := Option.some.inj h
        refine W.widen (k := cells + 0) (n := slots + 0) (by omega) (by omega) ?_
        exact kk _ (lv_sub hl [1, 2, 3, 4, 5, 0] rfl)
      · rw [if_neg c5] at h
        refine lv_aload_n hx hb dL_law_49 rfl (lv_at hl 0 rfl) ?_
        refine lv_iconst (v := 1) hx hb dL_law_50 (by decide) ?_
        obtain ⟨g6, h⟩ := gd_some h
        refine va_sld hx hb hX hbl hbA hS (vin_in g6) dL_law_51 ?_
        refine lv_iconst (v := 1) hx hb dL_law_52 (by decide) ?_
        refine lv_iand hx hb dL_law_53 ?_
        refine lv_goto (tgt := 58) hx hb dL_law_54 (by decide) ?_
        refine lv_iadd hx hb dL_law_58 ?_
        refine lv_istore (lv' := [(5, .int ((1 + 1) + ((xs 1) &&& 1))), (0, .ref b), (1, .ref (ad 8)), (2, .ref (ah 0)), (3, .ref (ah 1)), (4, .ref (ah 2))]) hx hb dL_law_59 hl (by decide) rfl (fun ls hl => ?_)
        obtain rfl := Option.some.inj h
        refine W.widen (k := cells + 0) (n := slots + 0) (by omega) (by omega) ?_
        exact kk _ (lv_sub hl [1, 2, 3, 4, 5, 0] rfl)
    · rw [if_neg c4] at h
      refine lv_aload_n hx hb dL_law_33 rfl (lv_at hl 0 rfl) ?_
      refine lv_iconst (v := 0) hx hb dL_law_34 (by decide) ?_
      obtain ⟨g7, h⟩ := gd_some h
      refine va_sld hx hb hX hbl hbA hS (vin_in g7) dL_law_35 ?_
      refine lv_iconst (v := 1) hx hb dL_law_36 (by decide) ?_
      refine lv_iand hx hb dL_law_37 ?_
      refine lv_goto (tgt := 42) hx hb dL_law_38 (by decide) ?_
      refine lv_iadd hx hb dL_law_42 ?_
      refine lv_aload_n hx hb dL_law_43 rfl (lv_at hl 0 rfl) ?_
      refine va_slen hx hb hX hbl hbA hS dL_law_44 ?_
      refine lv_iconst (v := 1) hx hb dL_law_45 (by decide) ?_
      refine lv_icmp_le (tgt := 57) hx hb dL_law_46 (by decide) (fun c8 => ?_) (fun c8 => ?_)
      · rw [if_pos c8] at h
        refine lv_iconst (v := 1) hx hb dL_law_57 (by decide) ?_
        refine lv_iadd hx hb dL_law_58 ?_
        refine lv_istore (lv' := [(5, .int ((1 + ((xs 0) &&& 1)) + 1)), (0, .ref b), (1, .ref (ad 8)), (2, .ref (ah 0)), (3, .ref (ah 1)), (4, .ref (ah 2))]) hx hb dL_law_59 hl (by decide) rfl (fun ls hl => ?_)
        obtain rfl := Option.some.inj h
        refine W.widen (k := cells + 0) (n := slots + 0) (by omega) (by omega) ?_
        exact kk _ (lv_sub hl [1, 2, 3, 4, 5, 0] rfl)
      · rw [if_neg c8] at h
        refine lv_aload_n hx hb dL_law_49 rfl (lv_at hl 0 rfl) ?_
        refine lv_iconst (v := 1) hx hb dL_law_50 (by decide) ?_
        obtain ⟨g9, h⟩ := gd_some h
        refine va_sld hx hb hX hbl hbA hS (vin_in g9) dL_law_51 ?_
        refine lv_iconst (v := 1) hx hb dL_law_52 (by decide) ?_
        refine lv_iand hx hb dL_law_53 ?_
        refine lv_goto (tgt := 58) hx hb dL_law_54 (by decide) ?_
        refine lv_iadd hx hb dL_law_58 ?_
        refine lv_istore (lv' := [(5, .int ((1 + ((xs 0) &&& 1)) + ((xs 1) &&& 1))), (0, .ref b), (1, .ref (ad 8)), (2, .ref (ah 0)), (3, .ref (ah 1)), (4, .ref (ah 2))]) hx hb dL_law_59 hl (by decide) rfl (fun ls hl => ?_)
        obtain rfl := Option.some.inj h
        refine W.widen (k := cells + 0) (n := slots + 0) (by omega) (by omega) ?_
        exact kk _ (lv_sub hl [1, 2, 3, 4, 5, 0] rfl)
  have R852 : ∀ (v5 : Int32) (v7 : Int32) (v11 : Int32) (v12 : Int32) (v13 : Int32) (M N : Mem) (r' : Mem × Mem) (H : Heap) (locs : List Loc) (ls : Array Slot) (cells slots : Nat), fL_law_R852 xs L v5 v7 v11 v12 v13 M N = some r' → va_P D vwCl (wX cA ad M) H → va_P D vwCl (wH cA ah N) H → va_S (A0 s) s.heap H locs → cells + 0 ≤ room_1.cells → slots + 0 ≤ room_1.slots → lv_has ls 17 [(0, .ref b), (1, .ref (ad 8)), (2, .ref (ah 0)), (3, .ref (ah 1)), (4, .ref (ah 2)), (5, .int v5), (7, .int v7), (11, .int v11), (12, .int v12), (13, .int v13)] → (∀ (H : Heap) (locs : List Loc), va_P D vwCl (wX cA ad (r'.1)) H → va_P D vwCl (wH cA ah (r'.2)) H → va_S (A0 s) s.heap H locs → ∀ (ls : Array Slot), lv_has ls 17 [(0, .ref b), (1, .ref (ad 8)), (2, .ref (ah 0)), (3, .ref (ah 1)), (4, .ref (ah 2)), (5, .int v5), (7, .int v7), (11, .int v11), (12, .int v12)] → W p l e room_1 s m #[Value.ref b] below meth c H locs (cells + 0) (slots + 0) (lw_Z below #[Value.ref b] s) (F0 m 886 ls [])) → W p l e room_1 s m #[Value.ref b] below meth c H locs cells slots (lw_Z below #[Value.ref b] s) (F0 m 852 ls []) := by
    intro v5 v7 v11 v12 v13 M N r' H locs ls cells slots h hP hQ hS hc hs hl kk
    unfold fL_law_R852 at h
    refine lv_iload hx hb dL_law_852 (lv_at hl 8 rfl) ?_
    refine lv_if_eq (tgt := 886) hx hb dL_law_854 (by decide) (fun c90 => ?_) (fun c90 => ?_)
    · rw [if_pos c90] at h
      obtain rfl := Option.some.inj h
      refine W.widen (k := cells + 0) (n := slots + 0) (by omega) (by omega) ?_
      exact kk _ _ hP hQ hS _ (lv_sub hl [0, 1, 2, 3, 4, 5, 6, 7, 8] rfl)
    · rw [if_neg c90] at h
      refine lv_aload_n hx hb dL_law_857 rfl (lv_at hl 2 rfl) ?_
      refine lv_iload hx hb dL_law_858 (lv_at hl 9 rfl) ?_
      refine lv_dup2_11 hx hb dL_law_860 rfl rfl ?_
      obtain ⟨g91, h⟩ := gd_some h
      refine alH0 S5 hK hQ (v := N 0 v13.toNatClampNeg) g91 rfl dL_law_861 ?_
      refine lv_iconst (v := 1) hx hb dL_law_862 (by decide) ?_
      refine lv_iload hx hb dL_law_863 (lv_at hl 7 rfl) ?_
      refine r_ishl S5 dL_law_865 ?_
      refine lv_iconst (v := (-1)) hx hb dL_law_866 (by decide) ?_
      refine lv_ixor hx hb dL_law_867 ?_
      refine lv_iand hx hb dL_law_868 ?_
      obtain ⟨g92, h⟩ := gd_some h
      refine asY0 S5 hK hP hQ hD hS g92 (k := v13.toNatClampNeg) rfl dL_law_869 (fun H locs hP hQ hS => ?_)
      refine lv_aload_n hx hb dL_law_870 rfl (lv_at hl 3 rfl) ?_
      refine lv_aload hx hb dL_law_871 (lv_at hl 4 rfl) ?_
      refine lv_iconst (v := 0) hx hb dL_law_873 (by decide) ?_
      refine alH2 S5 hK hQ (v := N 2 0) (by decide) rfl dL_law_874 ?_
      refine lv_iload hx hb dL_law_875 (lv_at hl 7 rfl) ?_
      obtain ⟨g93, h⟩ := gd_some h
      refine asY1 S5 hK hP hQ hD hS g93 (k := (N 2 0).toNatClampNeg) rfl dL_law_877 (fun H locs hP hQ hS => ?_)
      refine lv_aload hx hb dL_law_878 (lv_at hl 4 rfl) ?_
      refine lv_iconst (v := 0) hx hb dL_law_880 (by decide) ?_
      refine lv_dup2_11 hx hb dL_law_881 rfl rfl ?_
      refine alH2 S5 hK hQ (v := N 2 0) (by decide) rfl dL_law_882 ?_
      refine lv_iconst (v := 1) hx hb dL_law_883 (by decide) ?_
      refine lv_iadd hx hb dL_law_884 ?_
      refine asY2 S5 hK hP hQ hD hS (by decide) (k := 0) rfl dL_law_885 (fun H locs hP hQ hS => ?_)
      obtain rfl := Option.some.inj h
      refine W.widen (k := cells + 0) (n := slots + 0) (by omega) (by omega) ?_
      exact kk _ _ hP hQ hS _ (lv_sub hl [0, 1, 2, 3, 4, 5, 6, 7, 8] rfl)
  have R145 : ∀ (v5 : Int32) (v6 : Int32) (v7 : Int32) (v8 : Int32) (M N : Mem) (r' : Int32 × Int32) (H : Heap) (locs : List Loc) (ls : Array Slot) (cells slots : Nat), fL_law_R145 xs L v5 v6 v7 v8 M N = some r' → va_P D vwCl (wX cA ad M) H → va_P D vwCl (wH cA ah N) H → va_S (A0 s) s.heap H locs → cells + 0 ≤ room_1.cells → slots + 0 ≤ room_1.slots → lv_has ls 17 [(0, .ref b), (1, .ref (ad 8)), (2, .ref (ah 0)), (3, .ref (ah 1)), (4, .ref (ah 2)), (5, .int v5), (6, .int v6), (7, .int v7), (8, .int v8)] → (∀ (ls : Array Slot), lv_has ls 17 [(0, .ref b), (1, .ref (ad 8)), (2, .ref (ah 0)), (3, .ref (ah 1)), (4, .ref (ah 2)), (5, .int v5), (6, .int v6), (7, .int v7), (8, .int v8), (9, .int (r'.1)), (10, .int (r'.2))] → W p l e room_1 s m #[Value.ref b] below meth c H locs (cells + 0) (slots + 0) (lw_Z below #[Value.ref b] s) (F0 m 182 ls [])) → W p l e room_1 s m #[Value.ref b] below meth c H locs cells slots (lw_Z below #[Value.ref b] s) (F0 m 145 ls []) := by
    intro v5 v6 v7 v8 M N r' H locs ls cells slots h hP hQ hS hc hs hl kk
    unfold fL_law_R145 at h
    refine lv_aload_n hx hb dL_law_145 rfl (lv_at hl 2 rfl) ?_
    refine lv_iconst (v := 0) hx hb dL_law_146 (by decide) ?_
    refine alH0 S5 hK hQ (v := N 0 0) (by decide) rfl dL_law_147 ?_
    refine lv_aload_n hx hb dL_law_148 rfl (lv_at hl 2 rfl) ?_
    refine lv_iconst (v := 1) hx hb dL_law_149 (by decide) ?_
    refine alH0 S5 hK hQ (v := N 0 1) (by decide) rfl dL_law_150 ?_
    refine lv_ior hx hb dL_law_151 ?_
    refine lv_aload_n hx hb dL_law_152 rfl (lv_at hl 2 rfl) ?_
    refine lv_iconst (v := 2) hx hb dL_law_153 (by decide) ?_
    refine alH0 S5 hK hQ (v := N 0 2) (by decide) rfl dL_law_154 ?_
    refine lv_ior hx hb dL_law_155 ?_
    refine lv_aload_n hx hb dL_law_156 rfl (lv_at hl 2 rfl) ?_
    refine lv_iconst (v := 3) hx hb dL_law_157 (by decide) ?_
    refine alH0 S5 hK hQ (v := N 0 3) (by decide) rfl dL_law_158 ?_
    refine lv_ior hx hb dL_law_159 ?_
    refine lv_istore (lv' := [(9, .int ((((N 0 0) ||| (N 0 1)) ||| (N 0 2)) ||| (N 0 3))), (0, .ref b), (1, .ref (ad 8)), (2, .ref (ah 0)), (3, .ref (ah 1)), (4, .ref (ah 2)), (5, .int v5), (6, .int v6), (7, .int v7), (8, .int v8)]) hx hb dL_law_160 hl (by decide) rfl (fun ls hl => ?_)
    refine lv_aload hx hb dL_law_162 (lv_at hl 5 rfl) ?_
    refine lv_iconst (v := 3) hx hb dL_law_164 (by decide) ?_
    refine alH2 S5 hK hQ (v := N 2 3) (by decide) rfl dL_law_165 ?_
    refine lv_iconst (v := 1) hx hb dL_law_166 (by decide) ?_
    refine lv_icmp_ne (tgt := 179) hx hb dL_law_167 (by decide) (fun c22 => ?_) (fun c22 => ?_)
    · rw [if_neg c22] at h
      refine lv_iconst (v := 0) hx hb dL_law_179 (by decide) ?_
      refine lv_istore (lv' := [(10, .int 0), (9, .int ((((N 0 0) ||| (N 0 1)) ||| (N 0 2)) ||| (N 0 3))), (0, .ref b), (1, .ref (ad 8)), (2, .ref (ah 0)), (3, .ref (ah 1)), (4, .ref (ah 2)), (5, .int v5), (6, .int v6), (7, .int v7), (8, .int v8)]) hx hb dL_law_180 hl (by decide) rfl (fun ls hl => ?_)
      obtain rfl := Option.some.inj h
      refine W.widen (k := cells + 0) (n := slots + 0) (by omega) (by omega) ?_
      exact kk _ (lv_sub hl [2, 3, 4, 5, 6, 7, 8, 9, 10, 1, 0] rfl)
    · rw [if_pos c22] at h
      refine lv_iload hx hb dL_law_170 (lv_at hl 0 rfl) ?_
      refine lv_if_ne (tgt := 179) hx hb dL_law_172 (by decide) (fun c23 => ?_) (fun c23 => ?_)
      · rw [if_neg c23] at h
        refine lv_iconst (v := 0) hx hb dL_law_179 (by decide) ?_
        refine lv_istore (lv' := [(10, .int 0), (9, .int ((((N 0 0) ||| (N 0 1)) ||| (N 0 2)) ||| (N 0 3))), (0, .ref b), (1, .ref (ad 8)), (2, .ref (ah 0)), (3, .ref (ah 1)), (4, .ref (ah 2)), (5, .int v5), (6, .int v6), (7, .int v7), (8, .int v8)]) hx hb dL_law_180 hl (by decide) rfl (fun ls hl => ?_)
        obtain rfl := Option.some.inj h
        refine W.widen (k := cells + 0) (n := slots + 0) (by omega) (by omega) ?_
        exact kk _ (lv_sub hl [2, 3, 4, 5, 6, 7, 8, 9, 10, 1, 0] rfl)
      · rw [if_pos c23] at h
        refine lv_iconst (v := 1) hx hb dL_law_175 (by decide) ?_
        refine lv_goto (tgt := 180) hx hb dL_law_176 (by decide) ?_
        refine lv_istore (lv' := [(10, .int 1), (9, .int ((((N 0 0) ||| (N 0 1)) ||| (N 0 2)) ||| (N 0 3))), (0, .ref b), (1, .ref (ad 8)), (2, .ref (ah 0)), (3, .ref (ah 1)), (4, .ref (ah 2)), (5, .int v5), (6, .int v6), (7, .int v7), (8, .int v8)]) hx hb dL_law_180 hl (by decide) rfl (fun ls hl => ?_)
        obtain rfl := Option.some.inj h
        refine W.widen (k := cells + 0) (n := slots + 0) (by omega) (by omega) ?_
        exact kk _ (lv_sub hl [2, 3, 4, 5, 6, 7, 8, 9, 10, 1, 0] rfl)
  have R886 : ∀ (v5 : Int32) (v7 : Int32) (v11 : Int32) (v12 : Int32) (M N : Mem) (r' : Int32 × Mem × Mem) (H : Heap) (locs : List Loc) (ls : Array Slot) (cells slots : Nat), fL_law_R886 xs L v5 v7 v11 v12 M N = some r' → va_P D vwCl (wX cA ad M) H → va_P D vwCl (wH cA ah N) H → va_S (A0 s) s.heap H locs → cells + 2 ≤ room_1.cells → slots + 12 ≤ room_1.slots → lv_has ls 17 [(0, .ref b), (1, .ref (ad 8)), (2, .ref (ah 0)), (3, .ref (ah 1)), (4, .ref (ah 2)), (5, .int v5), (7, .int v7), (11, .int v11), (12, .int v12)] → (∀ (H : Heap) (locs : List Loc), va_P D vwCl (wX cA ad (r'.2.1)) H → va_P D vwCl (wH cA ah (r'.2.2)) H → va_S (A0 s) s.heap H locs → ∀ (ls : Array Slot), lv_has ls 17 [(0, .ref b), (1, .ref (ad 8)), (2, .ref (ah 0)), (3, .ref (ah 1)), (4, .ref (ah 2)), (5, .int v5), (6, .int (r'.1)), (7, .int v7)] → W p l e room_1 s m #[Value.ref b] below meth c H locs (cells + 2) (slots + 12) (lw_Z below #[Value.ref b] s) (F0 m 937 ls [])) → W p l e room_1 s m #[Value.ref b] below meth c H locs cells slots (lw_Z below #[Value.ref b] s) (F0 m 886 ls []) := by
    intro v5 v7 v11 v12 M N r' H locs ls cells slots h hP hQ hS hc hs hl kk
    unfold fL_law_R886 at h
    refine lv_aload_n hx hb dL_law_886 rfl (lv_at hl 1 rfl) ?_
    refine lv_iconst (v := 2) hx hb dL_law_887 (by decide) ?_
    refine lv_iload hx hb dL_law_888 (lv_at hl 7 rfl) ?_
    refine lv_iconst (v := 0) hx hb dL_law_890 (by decide) ?_
    obtain ⟨q95, hqq95, h⟩ := obind_some h
    obtain ⟨g94, h⟩ := gd_some h
    refine cDY S5 hK hP hQ hD hS hT (fun _ h => hA _ _ hS.1 h) (As := [.ref (ad 8), .int 2, .int v11, .int 0]) (kL_does_2 l D cA ad sa hst v11 0 _ _ hqq95 g94) (vx_cwSW 4 hts gL_law_L_does rfl rfl rfl (by decide +kernel) ⟨(Nat.le_of_ble_eq_true rfl), (Nat.le_of_ble_eq_true rfl)⟩) rfl hl.1 (st0 := _) (rest := []) rfl (Nat.le_of_ble_eq_true rfl) dL_law_891 ⟨(by show _ ≤ room_1.cells; omega), (by show _ ≤ room_1.slots; omega)⟩ (fun H locs hP hQ hS => ?_)
    refine lv_iload hx hb dL_law_894 (lv_at hl 8 rfl) ?_
    refine lv_if_ne (tgt := 904) hx hb dL_law_896 (by decide) (fun c96 => ?_) (fun c96 => ?_)
    · rw [if_neg c96] at h
      refine lv_aload hx hb dL_law_904 (lv_at hl 4 rfl) ?_
      refine lv_iconst (v := 0) hx hb dL_law_906 (by decide) ?_
      refine alH2 S5 hK hQ (v := N 2 0) (by decide) rfl dL_law_907 ?_
      refine lv_iconst (v := 4) hx hb dL_law_908 (by decide) ?_
      refine r_irem S5 dL_law_909 (by decide) ?_
      refine lv_if_ne (tgt := 926) hx hb dL_law_910 (by decide) (fun c97 => ?_) (fun c97 => ?_)
      · rw [if_neg c97] at h
        refine lv_iconst (v := (-1)) hx hb dL_law_926 (by decide) ?_
        refine lv_icmp_ne (tgt := 934) hx hb dL_law_927 (by decide) (fun c98 => ?_) (fun c98 => ?_)
        · rw [if_neg c98] at h
          refine lv_iconst (v := 0) hx hb dL_law_934 (by decide) ?_
          refine lv_istore (lv' := [(6, .int 0), (0, .ref b), (1, .ref (ad 8)), (2, .ref (ah 0)), (3, .ref (ah 1)), (4, .ref (ah 2)), (5, .int v5), (7, .int v7), (11, .int v11), (12, .int v12)]) hx hb dL_law_935 hl (by decide) rfl (fun ls hl => ?_)
          obtain rfl := Option.some.inj h
          refine W.widen (k := cells + 2) (n := slots + 12) (by omega) (by omega) ?_
          exact kk _ _ hP hQ hS _ (lv_sub hl [1, 2, 3, 4, 5, 6, 0, 7] rfl)
        · rw [if_pos c98] at h
          refine lv_iconst (v := 1) hx hb dL_law_930 (by decide) ?_
          refine lv_goto (tgt := 935) hx hb dL_law_931 (by decide) ?_
          refine lv_istore (lv' := [(6, .int 1), (0, .ref b), (1, .ref (ad 8)), (2, .ref (ah 0)), (3, .ref (ah 1)), (4, .ref (ah 2)), (5, .int v5), (7, .int v7), (11, .int v11), (12, .int v12)]) hx hb dL_law_935 hl (by decide) rfl (fun ls hl => ?_)
          obtain rfl := Option.some.inj h
          refine W.widen (k := cells + 2) (n := slots + 12) (by omega) (by omega) ?_
          exact kk _ _ hP hQ hS _ (lv_sub hl [1, 2, 3, 4, 5, 6, 0, 7] rfl)
      · rw [if_pos c97] at h
        refine lv_aload_n hx hb dL_law_913 rfl (lv_at hl 3 rfl) ?_
        refine lv_aload hx hb dL_law_914 (lv_at hl 4 rfl) ?_
        refine lv_aload hx hb dL_law_916 (lv_at hl 4 rfl) ?_
        refine lv_iconst (v := 0) hx hb dL_law_918 (by decide) ?_
        refine alH2 S5 hK hQ (v := N 2 0) (by decide) rfl dL_law_919 ?_
        obtain ⟨q99, hqq99, h⟩ := obind_some h
        refine cSRH S5 hK hQ (As := [.ref (ah 1), .ref (ah 2), .int (N 2 0)]) (kL_leader l D cA ah _ _ _ hqq99) (va_cwS 3 hts gL_law_L_leader rfl rfl rfl (by decide +kernel) ⟨(Nat.le_of_ble_eq_true rfl), (Nat.le_of_ble_eq_true rfl)⟩) rfl hl.1 (st0 := _) (rest := [.int (dv q95)]) rfl (Nat.le_of_ble_eq_true rfl) dL_law_920 ⟨(by show _ ≤ room_1.cells; omega), (by show _ ≤ room_1.slots; omega)⟩ ?_
        refine lv_goto (tgt := 927) hx hb dL_law_923 (by decide) ?_
        refine lv_icmp_ne (tgt := 934) hx hb dL_law_927 (by decide) (fun c100 => ?_) (fun c100 => ?_)
        · rw [if_neg c100] at h
          refine lv_iconst (v := 0) hx hb dL_law_934 (by decide) ?_
          refine lv_istore (lv' := [(6, .int 0), (0, .ref b), (1, .ref (ad 8)), (2, .ref (ah 0)), (3, .ref (ah 1)), (4, .ref (ah 2)), (5, .int v5), (7, .int v7), (11, .int v11), (12, .int v12)]) hx hb dL_law_935 hl (by decide) rfl (fun ls hl => ?_)
          obtain rfl := Option.some.inj h
          refine W.widen (k := cells + 2) (n := slots + 12) (by omega) (by omega) ?_
          exact kk _ _ hP hQ hS _ (lv_sub hl [1, 2, 3, 4, 5, 6, 0, 7] rfl)
        · rw [if_pos c100] at h
          refine lv_iconst (v := 1) hx hb dL_law_930 (by decide) ?_
          refine lv_goto (tgt := 935) hx hb dL_law_931 (by decide) ?_
          refine lv_istore (lv' := [(6, .int 1), (0, .ref b), (1, .ref (ad 8)), (2, .ref (ah 0)), (3, .ref (ah 1)), (4, .ref (ah 2)), (5, .int v5), (7, .int v7), (11, .int v11), (12, .int v12)]) hx hb dL_law_935 hl (by decide) rfl (fun ls hl => ?_)
          obtain rfl := Option.some.inj h
          refine W.widen (k := cells + 2) (n := slots + 12) (by omega) (by omega) ?_
          exact kk _ _ hP hQ hS _ (lv_sub hl [1, 2, 3, 4, 5, 6, 0, 7] rfl)
    · rw [if_pos c96] at h
      refine lv_bipush (v := (-13)) hx hb dL_law_899 (by decide) ?_
      refine lv_goto (tgt := 927) hx hb dL_law_901 (by decide) ?_
      refine lv_icmp_ne (tgt := 934) hx hb dL_law_927 (by decide) (fun c101 => ?_) (fun c101 => ?_)
      · rw [if_neg c101] at h
        refine lv_iconst (v := 0) hx hb dL_law_934 (by decide) ?_
        refine lv_istore (lv' := [(6, .int 0), (0, .ref b), (1, .ref (ad 8)), (2, .ref (ah 0)), (3, .ref (ah 1)), (4, .ref (ah 2)), (5, .int v5), (7, .int v7), (11, .int v11), (12, .int v12)]) hx hb dL_law_935 hl (by decide) rfl (fun ls hl => ?_)
        obtain rfl := Option.some.inj h
        refine W.widen (k := cells + 2) (n := slots + 12) (by omega) (by omega) ?_
        exact kk _ _ hP hQ hS _ (lv_sub hl [1, 2, 3, 4, 5, 6, 0, 7] rfl)
      · rw [if_pos c101] at h
        refine lv_iconst (v := 1) hx hb dL_law_930 (by decide) ?_
        refine lv_goto (tgt := 935) hx hb dL_law_931 (by decide) ?_
        refine lv_istore (lv' := [(6, .int 1), (0, .ref b), (1, .ref (ad 8)), (2, .ref (ah 0)), (3, .ref (ah 1)), (4, .ref (ah 2)), (5, .int v5), (7, .int v7), (11, .int v11), (12, .int v12)]) hx hb dL_law_935 hl (by decide) rfl (fun ls hl => ?_)
        obtain rfl := Option.some.inj h
        refine W.widen (k := cells + 2) (n := slots + 12) (by omega) (by omega) ?_
        exact kk _ _ hP hQ hS _ (lv_sub hl [1, 2, 3, 4, 5, 6, 0, 7] rfl)
  have R537 : ∀ (v5 : Int32) (v6 : Int32) (v7 : Int32) (v8 : Int32) (M N : Mem) (r' : Int32 × Int32) (H : Heap) (locs : List Loc) (ls : Array Slot) (cells slots : Nat), fL_law_R537 xs L v5 v6 v7 v8 M N = some r' → va_P D vwCl (wX cA ad M) H → va_P D vwCl (wH cA ah N) H → va_S (A0 s) s.heap H locs → cells + 0 ≤ room_1.cells → slots + 0 ≤ room_1.slots → lv_has ls 17 [(0, .ref b), (1, .ref (ad 8)), (2, .ref (ah 0)), (3, .ref (ah 1)), (4, .ref (ah 2)), (5, .int v5), (6, .int v6), (7, .int v7), (8, .int v8)] → (∀ (ls : Array Slot), lv_has ls 17 [(0, .ref b), (1, .ref (ad 8)), (2, .ref (ah 0)), (3, .ref (ah 1)), (4, .ref (ah 2)), (5, .int v5), (6, .int v6), (7, .int v7), (8, .int v8), (12, .int (r'.1)), (13, .int (r'.2))] → W p l e room_1 s m #[Value.ref b] below meth c H locs (cells + 0) (slots + 0) (lw_Z below #[Value.ref b] s) (F0 m 590 ls [])) → W p l e room_1 s m #[Value.ref b] below meth c H locs cells slots (lw_Z below #[Value.ref b] s) (F0 m 537 ls []) := by
    intro v5 v6 v7 v8 M N r' H locs ls cells slots h hP hQ hS hc hs hl kk
    unfold fL_law_R537 at h
    refine lv_aload_n hx hb dL_law_537 rfl (lv_at hl 2 rfl) ?_
    refine lv_iconst (v := 0) hx hb dL_law_538 (by decide) ?_
    refine alH0 S5 hK hQ (v := N 0 0) (by decide) rfl dL_law_539 ?_
    obtain ⟨q59, hqq59, h⟩ := obind_some h
    refine cS S5 (As := [.int (N 0 0)]) (kL_size l _ _ hqq59) (va_cwS 1 hts gL_law_L_size rfl rfl rfl (by decide +kernel) ⟨(Nat.le_of_ble_eq_true rfl), (Nat.le_of_ble_eq_true rfl)⟩) rfl hl.1 (st0 := _) (rest := []) rfl (Nat.le_of_ble_eq_true rfl) dL_law_540 ⟨(by show _ ≤ room_1.cells; omega), (by show _ ≤ room_1.slots; omega)⟩ ?_
    refine lv_istore (lv' := [(12, .int q59), (0, .ref b), (1, .ref (ad 8)), (2, .ref (ah 0)), (3, .ref (ah 1)), (4, .ref (ah 2)), (5, .int v5), (6, .int v6), (7, .int v7), (8, .int v8)]) hx hb dL_law_543 hl (by decide) rfl (fun ls hl => ?_)
    refine lv_iload hx hb dL_law_545 (lv_at hl 0 rfl) ?_
    refine lv_if_le (tgt := 587) hx hb dL_law_547 (by decide) (fun c60 => ?_) (fun c60 => ?_)
    · rw [if_pos c60] at h
      refine lv_iconst (v := 0) hx hb dL_law_587 (by decide) ?_
      refine lv_istore (lv' := [(13, .int 0), (12, .int q59), (0, .ref b), (1, .ref (ad 8)), (2, .ref (ah 0)), (3, .ref (ah 1)), (4, .ref (ah 2)), (5, .int v5), (6, .int v6), (7, .int v7), (8, .int v8)]) hx hb dL_law_588 hl (by decide) rfl (fun ls hl => ?_)
      obtain rfl := Option.some.inj h
      refine W.widen (k := cells + 0) (n := slots + 0) (by omega) (by omega) ?_
      exact kk _ (lv_sub hl [2, 3, 4, 5, 6, 7, 8, 9, 10, 1, 0] rfl)
    · rw [if_neg c60] at h
      refine lv_aload_n hx hb dL_law_550 rfl (lv_at hl 3 rfl) ?_
      refine lv_iconst (v := 1) hx hb dL_law_551 (by decide) ?_
      refine alH0 S5 hK hQ (v := N 0 1) (by decide) rfl dL_law_552 ?_
      obtain ⟨q61, hqq61, h⟩ := obind_some h
      refine cS S5 (As := [.int (N 0 1)]) (kL_size l _ _ hqq61) (va_cwS 1 hts gL_law_L_size rfl rfl rfl (by decide +kernel) ⟨(Nat.le_of_ble_eq_true rfl), (Nat.le_of_ble_eq_true rfl)⟩) rfl hl.1 (st0 := _) (rest := []) rfl (Nat.le_of_ble_eq_true rfl) dL_law_553 ⟨(by show _ ≤ room_1.cells; omega), (by show _ ≤ room_1.slots; omega)⟩ ?_
      refine lv_iload hx hb dL_law_556 (lv_at hl 0 rfl) ?_
      refine lv_icmp_ne (tgt := 587) hx hb dL_law_558 (by decide) (fun c62 => ?_) (fun c62 => ?_)
      · rw [if_neg c62] at h
        refine lv_iconst (v := 0) hx hb dL_law_587 (by decide) ?_
        refine lv_istore (lv' := [(13, .int 0), (12, .int q59), (0, .ref b), (1, .ref (ad 8)), (2, .ref (ah 0)), (3, .ref (ah 1)), (4, .ref (ah 2)), (5, .int v5), (6, .int v6), (7, .int v7), (8, .int v8)]) hx hb dL_law_588 hl (by decide) rfl (fun ls hl => ?_)
        obtain rfl := Option.some.inj h
        refine W.widen (k := cells + 0) (n := slots + 0) (by omega) (by omega) ?_
        exact kk _ (lv_sub hl [2, 3, 4, 5, 6, 7, 8, 9, 10, 1, 0] rfl)
      · rw [if_pos c62] at h
        refine lv_aload_n hx hb dL_law_561 rfl (lv_at hl 3 rfl) ?_
        refine lv_iconst (v := 2) hx hb dL_law_562 (by decide) ?_
        refine alH0 S5 hK hQ (v := N 0 2) (by decide) rfl dL_law_563 ?_
        obtain ⟨q63, hqq63, h⟩ := obind_some h
        refine cS S5 (As := [.int (N 0 2)]) (kL_size l _ _ hqq63) (va_cwS 1 hts gL_law_L_size rfl rfl rfl (by decide +kernel) ⟨(Nat.le_of_ble_eq_true rfl), (Nat.le_of_ble_eq_true rfl)⟩) rfl hl.1 (st0 := _) (rest := []) rfl (Nat.le_of_ble_eq_true rfl) dL_law_564 ⟨(by show _ ≤ room_1.cells; omega), (by show _ ≤ room_1.slots; omega)⟩ ?_
        refine lv_iload hx hb dL_law_567 (lv_at hl 0 rfl) ?_
        refine lv_icmp_ne (tgt := 587) hx hb dL_law_569 (by decide) (fun c64 => ?_) (fun c64 => ?_)
        · rw [if_neg c64] at h
          refine lv_iconst (v := 0) hx hb dL_law_587 (by decide) ?_
          refine lv_istore (lv' := [(13, .int 0), (12, .int q59), (0, .ref b), (1, .ref (ad 8)), (2, .ref (ah 0)), (3, .ref (ah 1)), (4, .ref (ah 2)), (5, .int v5), (6, .int v6), (7, .int v7), (8, .int v8)]) hx hb dL_law_588 hl (by decide) rfl (fun ls hl => ?_)
          obtain rfl := Option.some.inj h
          refine W.widen (k := cells + 0) (n := slots + 0) (by omega) (by omega) ?_
          exact kk _ (lv_sub hl [2, 3, 4, 5, 6, 7, 8, 9, 10, 1, 0] rfl)
        · rw [if_pos c64] at h
          refine lv_aload_n hx hb dL_law_572 rfl (lv_at hl 3 rfl) ?_
          refine lv_iconst (v := 3) hx hb dL_law_573 (by decide) ?_
          refine alH0 S5 hK hQ (v := N 0 3) (by decide) rfl dL_law_574 ?_
          obtain ⟨q65, hqq65, h⟩ := obind_some h
          refine cS S5 (As := [.int (N 0 3)]) (kL_size l _ _ hqq65) (va_cwS 1 hts gL_law_L_size rfl rfl rfl (by decide +kernel) ⟨(Nat.le_of_ble_eq_true rfl), (Nat.le_of_ble_eq_true rfl)⟩) rfl hl.1 (st0 := _) (rest := []) rfl (Nat.le_of_ble_eq_true rfl) dL_law_575 ⟨(by show _ ≤ room_1.cells; omega), (by show _ ≤ room_1.slots; omega)⟩ ?_
          refine lv_iload hx hb dL_law_578 (lv_at hl 0 rfl) ?_
          refine lv_icmp_ne (tgt := 587) hx hb dL_law_580 (by decide) (fun c66 => ?_) (fun c66 => ?_)
          · rw [if_neg c66] at h
            refine lv_iconst (v := 0) hx hb dL_law_587 (by decide) ?_
            refine lv_istore (lv' := [(13, .int 0), (12, .int q59), (0, .ref b), (1, .ref (ad 8)), (2, .ref (ah 0)), (3, .ref (ah 1)), (4, .ref (ah 2)), (5, .int v5), (6, .int v6), (7, .int v7), (8, .int v8)]) hx hb dL_law_588 hl (by decide) rfl (fun ls hl => ?_)
            obtain rfl := Option.some.inj h
            refine W.widen (k := cells + 0) (n := slots + 0) (by omega) (by omega) ?_
            exact kk _ (lv_sub hl [2, 3, 4, 5, 6, 7, 8, 9, 10, 1, 0] rfl)
          · rw [if_pos c66] at h
            refine lv_iconst (v := 1) hx hb dL_law_583 (by decide) ?_
            refine lv_goto (tgt := 588) hx hb dL_law_584 (by decide) ?_
            refine lv_istore (lv' := [(13, .int 1), (12, .int q59), (0, .ref b), (1, .ref (ad 8)), (2, .ref (ah 0)), (3, .ref (ah 1)), (4, .ref (ah 2)), (5, .int v5), (6, .int v6), (7, .int v7), (8, .int v8)]) hx hb dL_law_588 hl (by decide) rfl (fun ls hl => ?_)
            obtain rfl := Option.some.inj h
            refine W.widen (k := cells + 0) (n := slots + 0) (by omega) (by omega) ?_
            exact kk _ (lv_sub hl [2, 3, 4, 5, 6, 7, 8, 9, 10, 1, 0] rfl)
  have R714 : ∀ (v5 : Int32) (v6 : Int32) (v7 : Int32) (v11 : Int32) (M N : Mem) (r' : Mem × Mem) (H : Heap) (locs : List Loc) (ls : Array Slot) (cells slots : Nat), fL_law_R714 xs L v5 v6 v7 v11 M N = some r' → va_P D vwCl (wX cA ad M) H → va_P D vwCl (wH cA ah N) H → va_S (A0 s) s.heap H locs → cells + 0 ≤ room_1.cells → slots + 0 ≤ room_1.slots → lv_has ls 17 [(0, .ref b), (1, .ref (ad 8)), (2, .ref (ah 0)), (3, .ref (ah 1)), (4, .ref (ah 2)), (5, .int v5), (6, .int v6), (7, .int v7), (11, .int v11)] → (∀ (H : Heap) (locs : List Loc), va_P D vwCl (wX cA ad (r'.1)) H → va_P D vwCl (wH cA ah (r'.2)) H → va_S (A0 s) s.heap H locs → ∀ (ls : Array Slot), lv_has ls 17 [(0, .ref b), (1, .ref (ad 8)), (2, .ref (ah 0)), (3, .ref (ah 1)), (4, .ref (ah 2)), (5, .int v5), (6, .int v6), (7, .int v7)] → W p l e room_1 s m #[Value.ref b] below meth c H locs (cells + 0) (slots + 0) (lw_Z below #[Value.ref b] s) (F0 m 937 ls [])) → W p l e room_1 s m #[Value.ref b] below meth c H locs cells slots (lw_Z below #[Value.ref b] s) (F0 m 714 ls []) := by
    intro v5 v6 v7 v11 M N r' H locs ls cells slots h hP hQ hS hc hs hl kk
    unfold fL_law_R714 at h
    refine lv_iload hx hb dL_law_714 (lv_at hl 8 rfl) ?_
    refine lv_if_lt (tgt := 755) hx hb dL_law_716 (by decide) (fun c80 => ?_) (fun c80 => ?_)
    · rw [if_pos c80] at h
      refine lv_goto (tgt := 937) hx hb dL_law_755 (by decide) ?_
      obtain rfl := Option.some.inj h
      refine W.widen (k := cells + 0) (n := slots + 0) (by omega) (by omega) ?_
      exact kk _ _ hP hQ hS _ (lv_sub hl [0, 1, 2, 3, 4, 5, 6, 7] rfl)
    · rw [if_neg c80] at h
      refine lv_aload hx hb dL_law_719 (lv_at hl 4 rfl) ?_
      refine lv_iconst (v := 0) hx hb dL_law_721 (by decide) ?_
      refine lv_dup2_11 hx hb dL_law_722 rfl rfl ?_
      refine alH2 S5 hK hQ (v := N 2 0) (by decide) rfl dL_law_723 ?_
      refine lv_iconst (v := 1) hx hb dL_law_724 (by decide) ?_
      refine lv_isub hx hb dL_law_725 ?_
      refine asY2 S5 hK hP hQ hD hS (by decide) (k := 0) rfl dL_law_726 (fun H locs hP hQ hS => ?_)
      refine lv_aload_n hx hb dL_law_727 rfl (lv_at hl 2 rfl) ?_
      refine lv_aload_n hx hb dL_law_728 rfl (lv_at hl 3 rfl) ?_
      refine lv_aload hx hb dL_law_729 (lv_at hl 4 rfl) ?_
      refine lv_aload hx hb dL_law_731 (lv_at hl 4 rfl) ?_
      refine lv_iconst (v := 0) hx hb dL_law_733 (by decide) ?_
      refine alH2 S5 hK hQ (v := (N 2 0) - 1) (by decide) rfl dL_law_734 ?_
      obtain ⟨q81, hqq81, h⟩ := obind_some h
      refine cSRH S5 hK hQ (As := [.ref (ah 1), .ref (ah 2), .int ((N 2 0) - 1)]) (kL_leader l D cA ah _ _ _ hqq81) (va_cwS 3 hts gL_law_L_leader rfl rfl rfl (by decide +kernel) ⟨(Nat.le_of_ble_eq_true rfl), (Nat.le_of_ble_eq_true rfl)⟩) rfl hl.1 (st0 := _) (rest := [.ref (ah 0)]) rfl (Nat.le_of_ble_eq_true rfl) dL_law_735 ⟨(by show _ ≤ room_1.cells; omega), (by show _ ≤ room_1.slots; omega)⟩ ?_
      refine lv_aload hx hb dL_law_738 (lv_at hl 4 rfl) ?_
      refine lv_iconst (v := 0) hx hb dL_law_740 (by decide) ?_
      refine alH2 S5 hK hQ (v := (N 2 0) - 1) (by decide) rfl dL_law_741 ?_
      refine lv_iconst (v := 4) hx hb dL_law_742 (by decide) ?_
      refine r_irem S5 dL_law_743 (by decide) ?_
      refine lv_iadd hx hb dL_law_744 ?_
      refine lv_iconst (v := 4) hx hb dL_law_745 (by decide) ?_
      refine r_irem S5 dL_law_746 (by decide) ?_
      refine lv_dup2_11 hx hb dL_law_747 rfl rfl ?_
      obtain ⟨g82, h⟩ := gd_some h
      refine alH0 S5 hK hQ (v := N 0 ((im (q81 + (im ((N 2 0) - 1) 4)) 4).toNatClampNeg)) g82 rfl dL_law_748 ?_
      refine lv_iconst (v := 1) hx hb dL_law_749 (by decide) ?_
      refine lv_iload hx hb dL_law_750 (lv_at hl 8 rfl) ?_
      refine r_ishl S5 dL_law_752 ?_
      refine lv_ior hx hb dL_law_753 ?_
      obtain ⟨g83, h⟩ := gd_some h
      refine asY0 S5 hK hP hQ hD hS g83 (k := (im (q81 + (im ((N 2 0) - 1) 4)) 4).toNatClampNeg) rfl dL_law_754 (fun H locs hP hQ hS => ?_)
      refine lv_goto (tgt := 937) hx hb dL_law_755 (by decide) ?_
      obtain rfl := Option.some.inj h
      refine W.widen (k := cells + 0) (n := slots + 0) (by omega) (by omega) ?_
      exact kk _ _ hP hQ hS _ (lv_sub hl [0, 1, 2, 3, 4, 5, 6, 7] rfl)
  have R473 : ∀ (v5 : Int32) (v6 : Int32) (v7 : Int32) (v8 : Int32) (v11 : Int32) (v12 : Int32) (v13 : Int32) (v14 : Int32) (v15 : Int32) (v16 : Int32) (M N : Mem) (r' : Int32 × Mem × Mem) (H : Heap) (locs : List Loc) (ls : Array Slot) (cells slots : Nat), fL_law_R473 xs L v5 v6 v7 v8 v11 v12 v13 v14 v15 v16 M N = some r' → va_P D vwCl (wX cA ad M) H → va_P D vwCl (wH cA ah N) H → va_S (A0 s) s.heap H locs → cells + 3 ≤ room_1.cells → slots + 18 ≤ room_1.slots → lv_has ls 17 [(0, .ref b), (1, .ref (ad 8)), (2, .ref (ah 0)), (3, .ref (ah 1)), (4, .ref (ah 2)), (5, .int v5), (6, .int v6), (7, .int v7), (8, .int v8), (11, .int v11), (12, .int v12), (13, .int v13), (14, .int v14), (15, .int v15), (16, .int v16)] → (∀ (H : Heap) (locs : List Loc), va_P D vwCl (wX cA ad (r'.2.1)) H → va_P D vwCl (wH cA ah (r'.2.2)) H → va_S (A0 s) s.heap H locs → ∀ (ls : Array Slot), lv_has ls 17 [(0, .ref b), (1, .ref (ad 8)), (2, .ref (ah 0)), (3, .ref (ah 1)), (4, .ref (ah 2)), (5, .int v5), (6, .int (r'.1)), (7, .int v7), (8, .int v8), (11, .int v11), (12, .int v12)] → W p l e room_1 s m #[Value.ref b] below meth c H locs (cells + 3) (slots + 18) (lw_Z below #[Value.ref b] s) (F0 m 531 ls [])) → W p l e room_1 s m #[Value.ref b] below meth c H locs cells slots (lw_Z below #[Value.ref b] s) (F0 m 473 ls []) := by
    intro v5 v6 v7 v8 v11 v12 v13 v14 v15 v16 M N r' H locs ls cells slots h hP hQ hS hc hs hl kk
    unfold fL_law_R473 at h
    refine lv_aload_n hx hb dL_law_473 rfl (lv_at hl 2 rfl) ?_
    refine lv_iload hx hb dL_law_474 (lv_at hl 11 rfl) ?_
    obtain ⟨g126, h⟩ := gd_some h
    refine alH0 S5 hK hQ (v := N 0 v13.toNatClampNeg) g126 rfl dL_law_476 ?_
    obtain ⟨q127, hqq127, h⟩ := obind_some h
    refine cS S5 (As := [.int (N 0 v13.toNatClampNeg)]) (kL_size l _ _ hqq127) (va_cwS 1 hts gL_law_L_size rfl rfl rfl (by decide +kernel) ⟨(Nat.le_of_ble_eq_true rfl), (Nat.le_of_ble_eq_true rfl)⟩) rfl hl.1 (st0 := _) (rest := []) rfl (Nat.le_of_ble_eq_true rfl) dL_law_477 ⟨(by show _ ≤ room_1.cells; omega), (by show _ ≤ room_1.slots; omega)⟩ ?_
    refine lv_iload hx hb dL_law_480 (lv_at hl 5 rfl) ?_
    refine lv_icmp_lt (tgt := 490) hx hb dL_law_482 (by decide) (fun c128 => ?_) (fun c128 => ?_)
    · rw [if_pos c128] at h
      refine lv_aload_n hx hb dL_law_490 rfl (lv_at hl 1 rfl) ?_
      refine lv_iconst (v := 0) hx hb dL_law_491 (by decide) ?_
      refine lv_iload hx hb dL_law_492 (lv_at hl 11 rfl) ?_
      refine lv_iload hx hb dL_law_494 (lv_at hl 12 rfl) ?_
      obtain ⟨g129, h⟩ := gd_some h
      refine cDY S5 hK hP hQ hD hS hT (fun _ h => hA _ _ hS.1 h) (As := [.ref (ad 8), .int 0, .int v13, .int v14]) (kL_does_0 l D cA ad sa hst v13 v14 _ _ rfl g129) (vx_cwSW 4 hts gL_law_L_does rfl rfl rfl (by decide +kernel) ⟨(Nat.le_of_ble_eq_true rfl), (Nat.le_of_ble_eq_true rfl)⟩) rfl hl.1 (st0 := _) (rest := []) rfl (Nat.le_of_ble_eq_true rfl) dL_law_496 ⟨(by show _ ≤ room_1.cells; omega), (by show _ ≤ room_1.slots; omega)⟩ (fun H locs hP hQ hS => ?_)
      refine lv_iload hx hb dL_law_499 (lv_at hl 14 rfl) ?_
      refine lv_icmp_ne (tgt := 508) hx hb dL_law_501 (by decide) (fun c130 => ?_) (fun c130 => ?_)
      · rw [if_neg c130] at h
        refine lv_iconst (v := 0) hx hb dL_law_508 (by decide) ?_
        refine lv_istore (lv' := [(6, .int 0), (0, .ref b), (1, .ref (ad 8)), (2, .ref (ah 0)), (3, .ref (ah 1)), (4, .ref (ah 2)), (5, .int v5), (7, .int v7), (8, .int v8), (11, .int v11), (12, .int v12), (13, .int v13), (14, .int v14), (15, .int v15), (16, .int v16)]) hx hb dL_law_509 hl (by decide) rfl (fun ls hl => ?_)
        refine lv_aload_n hx hb dL_law_511 rfl (lv_at hl 3 rfl) ?_
        refine lv_iload hx hb dL_law_512 (lv_at hl 11 rfl) ?_
        refine lv_dup2_11 hx hb dL_law_514 rfl rfl ?_
        obtain ⟨g131, h⟩ := gd_some h
        refine alH0 S5 hK hQ (v := N 0 v13.toNatClampNeg) g131 rfl dL_law_515 ?_
        refine lv_iload hx hb dL_law_516 (lv_at hl 13 rfl) ?_
        refine lv_if_eq (tgt := 528) hx hb dL_law_518 (by decide) (fun c132 => ?_) (fun c132 => ?_)
        · rw [if_pos c132] at h
          refine lv_iconst (v := 0) hx hb dL_law_528 (by decide) ?_
          refine lv_ior hx hb dL_law_529 ?_
          obtain ⟨g133, h⟩ := gd_some h
          refine asY0 S5 hK hP hQ hD hS g133 (k := v13.toNatClampNeg) rfl dL_law_530 (fun H locs hP hQ hS => ?_)
          obtain rfl := Option.some.inj h
          refine W.widen (k := cells + 3) (n := slots + 18) (by omega) (by omega) ?_
          exact kk _ _ hP hQ hS _ (lv_sub hl [1, 2, 3, 4, 5, 6, 0, 7, 8, 9, 10] rfl)
        · rw [if_neg c132] at h
          refine lv_iconst (v := 1) hx hb dL_law_521 (by decide) ?_
          refine lv_iload hx hb dL_law_522 (lv_at hl 12 rfl) ?_
          refine r_ishl S5 dL_law_524 ?_
          refine lv_goto (tgt := 529) hx hb dL_law_525 (by decide) ?_
          refine lv_ior hx hb dL_law_529 ?_
          obtain ⟨g134, h⟩ := gd_some h
          refine asY0 S5 hK hP hQ hD hS g134 (k := v13.toNatClampNeg) rfl dL_law_530 (fun H locs hP hQ hS => ?_)
          obtain rfl := Option.some.inj h
          refine W.widen (k := cells + 3) (n := slots + 18) (by omega) (by omega) ?_
          exact kk _ _ hP hQ hS _ (lv_sub hl [1, 2, 3, 4, 5, 6, 0, 7, 8, 9, 10] rfl)
      · rw [if_pos c130] at h
        refine lv_iconst (v := 1) hx hb dL_law_504 (by decide) ?_
        refine lv_goto (tgt := 509) hx hb dL_law_505 (by decide) ?_
        refine lv_istore (lv' := [(6, .int 1), (0, .ref b), (1, .ref (ad 8)), (2, .ref (ah 0)), (3, .ref (ah 1)), (4, .ref (ah 2)), (5, .int v5), (7, .int v7), (8, .int v8), (11, .int v11), (12, .int v12), (13, .int v13), (14, .int v14), (15, .int v15), (16, .int v16)]) hx hb dL_law_509 hl (by decide) rfl (fun ls hl => ?_)
        refine lv_aload_n hx hb dL_law_511 rfl (lv_at hl 3 rfl) ?_
        refine lv_iload hx hb dL_law_512 (lv_at hl 11 rfl) ?_
        refine lv_dup2_11 hx hb dL_law_514 rfl rfl ?_
        obtain ⟨g135, h⟩ := gd_some h
        refine alH0 S5 hK hQ (v := N 0 v13.toNatClampNeg) g135 rfl dL_law_515 ?_
        refine lv_iload hx hb dL_law_516 (lv_at hl 13 rfl) ?_
        refine lv_if_eq (tgt := 528) hx hb dL_law_518 (by decide) (fun c136 => ?_) (fun c136 => ?_)
        · rw [if_pos c136] at h
          refine lv_iconst (v := 0) hx hb dL_law_528 (by decide) ?_
          refine lv_ior hx hb dL_law_529 ?_
          obtain ⟨g137, h⟩ := gd_some h
          refine asY0 S5 hK hP hQ hD hS g137 (k := v13.toNatClampNeg) rfl dL_law_530 (fun H locs hP hQ hS => ?_)
          obtain rfl := Option.some.inj h
          refine W.widen (k := cells + 3) (n := slots + 18) (by omega) (by omega) ?_
          exact kk _ _ hP hQ hS _ (lv_sub hl [1, 2, 3, 4, 5, 6, 0, 7, 8, 9, 10] rfl)
        · rw [if_neg c136] at h
          refine lv_iconst (v := 1) hx hb dL_law_521 (by decide) ?_
          refine lv_iload hx hb dL_law_522 (lv_at hl 12 rfl) ?_
          refine r_ishl S5 dL_law_524 ?_
          refine lv_goto (tgt := 529) hx hb dL_law_525 (by decide) ?_
          refine lv_ior hx hb dL_law_529 ?_
          obtain ⟨g138, h⟩ := gd_some h
          refine asY0 S5 hK hP hQ hD hS g138 (k := v13.toNatClampNeg) rfl dL_law_530 (fun H locs hP hQ hS => ?_)
          obtain rfl := Option.some.inj h
          refine W.widen (k := cells + 3) (n := slots + 18) (by omega) (by omega) ?_
          exact kk _ _ hP hQ hS _ (lv_sub hl [1, 2, 3, 4, 5, 6, 0, 7, 8, 9, 10] rfl)
    · rw [if_neg c128] at h
      refine lv_iload hx hb dL_law_485 (lv_at hl 13 rfl) ?_
      refine lv_if_ne (tgt := 531) hx hb dL_law_487 (by decide) (fun c139 => ?_) (fun c139 => ?_)
      · rw [if_neg c139] at h
        obtain rfl := Option.some.inj h
        refine W.widen (k := cells + 3) (n := slots + 18) (by omega) (by omega) ?_
        exact kk _ _ hP hQ hS _ (lv_sub hl [0, 1, 2, 3, 4, 5, 6, 7, 8, 9, 10] rfl)
      · rw [if_pos c139] at h
        refine lv_aload_n hx hb dL_law_490 rfl (lv_at hl 1 rfl) ?_
        refine lv_iconst (v := 0) hx hb dL_law_491 (by decide) ?_
        refine lv_iload hx hb dL_law_492 (lv_at hl 11 rfl) ?_
        refine lv_iload hx hb dL_law_494 (lv_at hl 12 rfl) ?_
        obtain ⟨g140, h⟩ := gd_some h
        refine cDY S5 hK hP hQ hD hS hT (fun _ h => hA _ _ hS.1 h) (As := [.ref (ad 8), .int 0, .int v13, .int v14]) (kL_does_0 l D cA ad sa hst v13 v14 _ _ rfl g140) (vx_cwSW 4 hts gL_law_L_does rfl rfl rfl (by decide +kernel) ⟨(Nat.le_of_ble_eq_true rfl), (Nat.le_of_ble_eq_true rfl)⟩) rfl hl.1 (st0 := _) (rest := []) rfl (Nat.le_of_ble_eq_true rfl) dL_law_496 ⟨(by show _ ≤ room_1.cells; omega), (by show _ ≤ room_1.slots; omega)⟩ (fun H locs hP hQ hS => ?_)
        refine lv_iload hx hb dL_law_499 (lv_at hl 14 rfl) ?_
        refine lv_icmp_ne (tgt := 508) hx hb dL_law_501 (by decide) (fun c141 => ?_) (fun c141 => ?_)
        · rw [if_neg c141] at h
          refine lv_iconst (v := 0) hx hb dL_law_508 (by decide) ?_
          refine lv_istore (lv' := [(6, .int 0), (0, .ref b), (1, .ref (ad 8)), (2, .ref (ah 0)), (3, .ref (ah 1)), (4, .ref (ah 2)), (5, .int v5), (7, .int v7), (8, .int v8), (11, .int v11), (12, .int v12), (13, .int v13), (14, .int v14), (15, .int v15), (16, .int v16)]) hx hb dL_law_509 hl (by decide) rfl (fun ls hl => ?_)
          refine lv_aload_n hx hb dL_law_511 rfl (lv_at hl 3 rfl) ?_
          refine lv_iload hx hb dL_law_512 (lv_at hl 11 rfl) ?_
          refine lv_dup2_11 hx hb dL_law_514 rfl rfl ?_
          obtain ⟨g142, h⟩ := gd_some h
          refine alH0 S5 hK hQ (v := N 0 v13.toNatClampNeg) g142 rfl dL_law_515 ?_
          refine lv_iload hx hb dL_law_516 (lv_at hl 13 rfl) ?_
          refine lv_if_eq (tgt := 528) hx hb dL_law_518 (by decide) (fun c143 => ?_) (fun c143 => ?_)
          · rw [if_pos c143] at h
            refine lv_iconst (v := 0) hx hb dL_law_528 (by decide) ?_
            refine lv_ior hx hb dL_law_529 ?_
            obtain ⟨g144, h⟩ := gd_some h
            refine asY0 S5 hK hP hQ hD hS g144 (k := v13.toNatClampNeg) rfl dL_law_530 (fun H locs hP hQ hS => ?_)
            obtain rfl := Option.some.inj h
            refine W.widen (k := cells + 3) (n := slots + 18) (by omega) (by omega) ?_
            exact kk _ _ hP hQ hS _ (lv_sub hl [1, 2, 3, 4, 5, 6, 0, 7, 8, 9, 10] rfl)
          · rw [if_neg c143] at h
            refine lv_iconst (v := 1) hx hb dL_law_521 (by decide) ?_
            refine lv_iload hx hb dL_law_522 (lv_at hl 12 rfl) ?_
            refine r_ishl S5 dL_law_524 ?_
            refine lv_goto (tgt := 529) hx hb dL_law_525 (by decide) ?_
            refine lv_ior hx hb dL_law_529 ?_
            obtain ⟨g145, h⟩ := gd_some h
            refine asY0 S5 hK hP hQ hD hS g145 (k := v13.toNatClampNeg) rfl dL_law_530 (fun H locs hP hQ hS => ?_)
            obtain rfl := Option.some.inj h
            refine W.widen (k := cells + 3) (n := slots + 18) (by omega) (by omega) ?_
            exact kk _ _ hP hQ hS _ (lv_sub hl [1, 2, 3, 4, 5, 6, 0, 7, 8, 9, 10] rfl)
        · rw [if_pos c141] at h
          refine lv_iconst (v := 1) hx hb dL_law_504 (by decide) ?_
          refine lv_goto (tgt := 509) hx hb dL_law_505 (by decide) ?_
          refine lv_istore (lv' := [(6, .int 1), (0, .ref b), (1, .ref (ad 8)), (2, .ref (ah 0)), (3, .ref (ah 1)), (4, .ref (ah 2)), (5, .int v5), (7, .int v7), (8, .int v8), (11, .int v11), (12, .int v12), (13, .int v13), (14, .int v14), (15, .int v15), (16, .int v16)]) hx hb dL_law_509 hl (by decide) rfl (fun ls hl => ?_)
          refine lv_aload_n hx hb dL_law_511 rfl (lv_at hl 3 rfl) ?_
          refine lv_iload hx hb dL_law_512 (lv_at hl 11 rfl) ?_
          refine lv_dup2_11 hx hb dL_law_514 rfl rfl ?_
          obtain ⟨g146, h⟩ := gd_some h
          refine alH0 S5 hK hQ (v := N 0 v13.toNatClampNeg) g146 rfl dL_law_515 ?_
          refine lv_iload hx hb dL_law_516 (lv_at hl 13 rfl) ?_
          refine lv_if_eq (tgt := 528) hx hb dL_law_518 (by decide) (fun c147 => ?_) (fun c147 => ?_)
          · rw [if_pos c147] at h
            refine lv_iconst (v := 0) hx hb dL_law_528 (by decide) ?_
            refine lv_ior hx hb dL_law_529 ?_
            obtain ⟨g148, h⟩ := gd_some h
            refine asY0 S5 hK hP hQ hD hS g148 (k := v13.toNatClampNeg) rfl dL_law_530 (fun H locs hP hQ hS => ?_)
            obtain rfl := Option.some.inj h
            refine W.widen (k := cells + 3) (n := slots + 18) (by omega) (by omega) ?_
            exact kk _ _ hP hQ hS _ (lv_sub hl [1, 2, 3, 4, 5, 6, 0, 7, 8, 9, 10] rfl)
          · rw [if_neg c147] at h
            refine lv_iconst (v := 1) hx hb dL_law_521 (by decide) ?_
            refine lv_iload hx hb dL_law_522 (lv_at hl 12 rfl) ?_
            refine r_ishl S5 dL_law_524 ?_
            refine lv_goto (tgt := 529) hx hb dL_law_525 (by decide) ?_
            refine lv_ior hx hb dL_law_529 ?_
            obtain ⟨g149, h⟩ := gd_some h
            refine asY0 S5 hK hP hQ hD hS g149 (k := v13.toNatClampNeg) rfl dL_law_530 (fun H locs hP hQ hS => ?_)
            obtain rfl := Option.some.inj h
            refine W.widen (k := cells + 3) (n := slots + 18) (by omega) (by omega) ?_
            exact kk _ _ hP hQ hS _ (lv_sub hl [1, 2, 3, 4, 5, 6, 0, 7, 8, 9, 10] rfl)
  have L358 : ∀ (n : Nat) (v5 : Int32) (v6 : Int32) (v7 : Int32) (v8 : Int32) (v11 : Int32) (v12 : Int32) (v13 : Int32) (v14 : Int32) (v15 : Int32) (M N : Mem) (r' : Int32) (H : Heap) (locs : List Loc) (ls : Array Slot) (cells slots : Nat), fL_law_L358 xs L n v5 v6 v7 v8 v11 v12 v13 v14 v15 M N = some r' → va_P D vwCl (wX cA ad M) H → va_P D vwCl (wH cA ah N) H → va_S (A0 s) s.heap H locs → cells + n * 0 ≤ room_1.cells → slots + n * 0 ≤ room_1.slots → lv_has ls 17 [(0, .ref b), (1, .ref (ad 8)), (2, .ref (ah 0)), (3, .ref (ah 1)), (4, .ref (ah 2)), (5, .int v5), (6, .int v6), (7, .int v7), (8, .int v8), (11, .int v11), (12, .int v12), (13, .int v13), (14, .int v14), (15, .int v15)] → (∀ (ls : Array Slot), lv_has ls 17 [(0, .ref b), (1, .ref (ad 8)), (2, .ref (ah 0)), (3, .ref (ah 1)), (4, .ref (ah 2)), (5, .int v5), (6, .int v6), (7, .int v7), (8, .int v8), (11, .int v11), (12, .int v12), (13, .int v13), (14, .int (r'))] → W p l e room_1 s m #[Value.ref b] below meth c H locs (cells + n * 0) (slots + n * 0) (lw_Z below #[Value.ref b] s) (F0 m 411 ls [])) → W p l e room_1 s m #[Value.ref b] below meth c H locs cells slots (lw_Z below #[Value.ref b] s) (F0 m 358 ls []) := by
    intro n
    induction n with
    | zero => intro v5 v6 v7 v8 v11 v12 v13 v14 v15 M N r' H locs ls cells slots h hP hQ hS hc hs hl kk; rw [fL_law_L358.eq_1] at h; cases h
    | succ n ih =>
      intro v5 v6 v7 v8 v11 v12 v13 v14 v15 M N r' H locs ls cells slots h hP hQ hS hc hs hl kk
      rw [fL_law_L358.eq_2] at h
      refine lv_iload hx hb dL_law_358 (lv_at hl 13 rfl) ?_
      refine lv_bipush (v := 24) hx hb dL_law_360 (by decide) ?_
      refine lv_icmp_ge (tgt := 411) hx hb dL_law_362 (by decide) (fun c114 => ?_) (fun c114 => ?_)
      · rw [if_pos c114] at h
        obtain rfl := Option.some.inj h
        refine W.widen (k := cells + (n + 1) * 0) (n := slots + (n + 1) * 0) (by omega) (by omega) ?_
        exact kk _ (lv_sub hl [0, 1, 2, 3, 4, 5, 6, 7, 8, 9, 10, 11, 12] rfl)
      · rw [if_neg c114] at h
        refine lv_aload_n hx hb dL_law_365 rfl (lv_at hl 2 rfl) ?_
        refine lv_iconst (v := 0) hx hb dL_law_366 (by decide) ?_
        refine alH0 S5 hK hQ (v := N 0 0) (by decide) rfl dL_law_367 ?_
        refine lv_aload_n hx hb dL_law_368 rfl (lv_at hl 2 rfl) ?_
        refine lv_iconst (v := 1) hx hb dL_law_369 (by decide) ?_
        refine alH0 S5 hK hQ (v := N 0 1) (by decide) rfl dL_law_370 ?_
        refine lv_ior hx hb dL_law_371 ?_
        refine lv_aload_n hx hb dL_law_372 rfl (lv_at hl 2 rfl) ?_
        refine lv_iconst (v := 2) hx hb dL_law_373 (by decide) ?_
        refine alH0 S5 hK hQ (v := N 0 2) (by decide) rfl dL_law_374 ?_
        refine lv_ior hx hb dL_law_375 ?_
        refine lv_aload_n hx hb dL_law_376 rfl (lv_at hl 2 rfl) ?_
        refine lv_iconst (v := 3) hx hb dL_law_377 (by decide) ?_
        refine alH0 S5 hK hQ (v := N 0 3) (by decide) rfl dL_law_378 ?_
        refine lv_ior hx hb dL_law_379 ?_
        refine lv_iload hx hb dL_law_380 (lv_at hl 12 rfl) ?_
        refine cS S5 (As := [.int ((((N 0 0) ||| (N 0 1)) ||| (N 0 2)) ||| (N 0 3)), .int v14]) (kL_has l _ _) (va_cwS 2 hts gL_law_L_has rfl rfl rfl (by decide +kernel) ⟨(Nat.le_of_ble_eq_true rfl), (Nat.le_of_ble_eq_true rfl)⟩) rfl hl.1 (st0 := _) (rest := []) rfl (Nat.le_of_ble_eq_true rfl) dL_law_382 ⟨(by show _ ≤ room_1.cells; omega), (by show _ ≤ room_1.slots; omega)⟩ ?_
        refine lv_if_eq (tgt := 411) hx hb dL_law_385 (by decide) (fun c115 => ?_) (fun c115 => ?_)
        · rw [if_pos c115] at h
          obtain rfl := Option.some.inj h
          refine W.widen (k := cells + (n + 1) * 0) (n := slots + (n + 1) * 0) (by omega) (by omega) ?_
          exact kk _ (lv_sub hl [0, 1, 2, 3, 4, 5, 6, 7, 8, 9, 10, 11, 12] rfl)
        · rw [if_neg c115] at h
          refine lv_iload hx hb dL_law_388 (lv_at hl 10 rfl) ?_
          refine lv_iconst (v := 5) hx hb dL_law_390 (by decide) ?_
          refine r_irem S5 dL_law_391 (by decide) ?_
          refine lv_iconst (v := 4) hx hb dL_law_392 (by decide) ?_
          refine lv_icmp_ge (tgt := 411) hx hb dL_law_393 (by decide) (fun c116 => ?_) (fun c116 => ?_)
          · rw [if_pos c116] at h
            obtain rfl := Option.some.inj h
            refine W.widen (k := cells + (n + 1) * 0) (n := slots + (n + 1) * 0) (by omega) (by omega) ?_
            exact kk _ (lv_sub hl [0, 1, 2, 3, 4, 5, 6, 7, 8, 9, 10, 11, 12] rfl)
          · rw [if_neg c116] at h
            refine lv_iload hx hb dL_law_396 (lv_at hl 12 rfl) ?_
            refine lv_iconst (v := 5) hx hb dL_law_398 (by decide) ?_
            refine lv_iadd hx hb dL_law_399 ?_
            refine lv_bipush (v := 24) hx hb dL_law_400 (by decide) ?_
            refine r_irem S5 dL_law_402 (by decide) ?_
            refine lv_istore (lv' := [(14, .int (im (v14 + 5) 24)), (0, .ref b), (1, .ref (ad 8)), (2, .ref (ah 0)), (3, .ref (ah 1)), (4, .ref (ah 2)), (5, .int v5), (6, .int v6), (7, .int v7), (8, .int v8), (11, .int v11), (12, .int v12), (13, .int v13), (15, .int v15)]) hx hb dL_law_403 hl (by decide) rfl (fun ls hl => ?_)
            refine lv_iinc (v := v15 + 1) (lv' := [(15, .int (v15 + 1)), (14, .int (im (v14 + 5) 24)), (0, .ref b), (1, .ref (ad 8)), (2, .ref (ah 0)), (3, .ref (ah 1)), (4, .ref (ah 2)), (5, .int v5), (6, .int v6), (7, .int v7), (8, .int v8), (11, .int v11), (12, .int v12), (13, .int v13)]) hx hb dL_law_405 hl (k := 13) rfl rfl (by decide) rfl (fun ls hl => ?_)
            refine lv_goto (tgt := 358) hx hb dL_law_408 (by decide) ?_
            refine W.widen (k := cells + 0) (n := slots + 0) (by omega) (by omega) ?_
            exact ih _ _ _ _ _ _ _ _ _ _ _ _ _ _ _ _ _ h hP hQ hS (by omega) (by omega) (lv_sub hl [2, 3, 4, 5, 6, 7, 8, 9, 10, 11, 12, 13, 1, 0] rfl) (fun ls hl => W.widen (k := cells + (n + 1) * 0) (n := slots + (n + 1) * 0) (by omega) (by omega) (kk ls hl))
  have R411 : ∀ (v5 : Int32) (v6 : Int32) (v7 : Int32) (v8 : Int32) (v11 : Int32) (v12 : Int32) (v13 : Int32) (v14 : Int32) (M N : Mem) (r' : Int32 × Int32) (H : Heap) (locs : List Loc) (ls : Array Slot) (cells slots : Nat), fL_law_R411 xs L v5 v6 v7 v8 v11 v12 v13 v14 M N = some r' → va_P D vwCl (wX cA ad M) H → va_P D vwCl (wH cA ah N) H → va_S (A0 s) s.heap H locs → cells + 0 ≤ room_1.cells → slots + 0 ≤ room_1.slots → lv_has ls 17 [(0, .ref b), (1, .ref (ad 8)), (2, .ref (ah 0)), (3, .ref (ah 1)), (4, .ref (ah 2)), (5, .int v5), (6, .int v6), (7, .int v7), (8, .int v8), (11, .int v11), (12, .int v12), (13, .int v13), (14, .int v14)] → (∀ (ls : Array Slot), lv_has ls 17 [(0, .ref b), (1, .ref (ad 8)), (2, .ref (ah 0)), (3, .ref (ah 1)), (4, .ref (ah 2)), (5, .int v5), (6, .int v6), (7, .int v7), (8, .int v8), (11, .int v11), (12, .int v12), (13, .int v13), (14, .int v14), (15, .int (r'.1)), (16, .int (r'.2))] → W p l e room_1 s m #[Value.ref b] below meth c H locs (cells + 0) (slots + 0) (lw_Z below #[Value.ref b] s) (F0 m 473 ls [])) → W p l e room_1 s m #[Value.ref b] below meth c H locs cells slots (lw_Z below #[Value.ref b] s) (F0 m 411 ls []) := by
    intro v5 v6 v7 v8 v11 v12 v13 v14 M N r' H locs ls cells slots h hP hQ hS hc hs hl kk
    unfold fL_law_R411 at h
    refine lv_aload_n hx hb dL_law_411 rfl (lv_at hl 2 rfl) ?_
    refine lv_iconst (v := 0) hx hb dL_law_412 (by decide) ?_
    refine alH0 S5 hK hQ (v := N 0 0) (by decide) rfl dL_law_413 ?_
    refine lv_aload_n hx hb dL_law_414 rfl (lv_at hl 2 rfl) ?_
    refine lv_iconst (v := 1) hx hb dL_law_415 (by decide) ?_
    refine alH0 S5 hK hQ (v := N 0 1) (by decide) rfl dL_law_416 ?_
    refine lv_ior hx hb dL_law_417 ?_
    refine lv_aload_n hx hb dL_law_418 rfl (lv_at hl 2 rfl) ?_
    refine lv_iconst (v := 2) hx hb dL_law_419 (by decide) ?_
    refine alH0 S5 hK hQ (v := N 0 2) (by decide) rfl dL_law_420 ?_
    refine lv_ior hx hb dL_law_421 ?_
    refine lv_aload_n hx hb dL_law_422 rfl (lv_at hl 2 rfl) ?_
    refine lv_iconst (v := 3) hx hb dL_law_423 (by decide) ?_
    refine alH0 S5 hK hQ (v := N 0 3) (by decide) rfl dL_law_424 ?_
    refine lv_ior hx hb dL_law_425 ?_
    refine lv_iload hx hb dL_law_426 (lv_at hl 12 rfl) ?_
    refine cS S5 (As := [.int ((((N 0 0) ||| (N 0 1)) ||| (N 0 2)) ||| (N 0 3)), .int v14]) (kL_has l _ _) (va_cwS 2 hts gL_law_L_has rfl rfl rfl (by decide +kernel) ⟨(Nat.le_of_ble_eq_true rfl), (Nat.le_of_ble_eq_true rfl)⟩) rfl hl.1 (st0 := _) (rest := []) rfl (Nat.le_of_ble_eq_true rfl) dL_law_428 ⟨(by show _ ≤ room_1.cells; omega), (by show _ ≤ room_1.slots; omega)⟩ ?_
    refine lv_if_ne (tgt := 449) hx hb dL_law_431 (by decide) (fun c117 => ?_) (fun c117 => ?_)
    · rw [if_neg c117] at h
      refine lv_iconst (v := 0) hx hb dL_law_449 (by decide) ?_
      refine lv_istore (lv' := [(15, .int 0), (0, .ref b), (1, .ref (ad 8)), (2, .ref (ah 0)), (3, .ref (ah 1)), (4, .ref (ah 2)), (5, .int v5), (6, .int v6), (7, .int v7), (8, .int v8), (11, .int v11), (12, .int v12), (13, .int v13), (14, .int v14)]) hx hb dL_law_450 hl (by decide) rfl (fun ls hl => ?_)
      refine lv_iload hx hb dL_law_452 (lv_at hl 0 rfl) ?_
      refine lv_if_eq (tgt := 469) hx hb dL_law_454 (by decide) (fun c118 => ?_) (fun c118 => absurd c118 (by decide))
      refine lv_bipush (v := (-13)) hx hb dL_law_469 (by decide) ?_
      refine lv_istore (lv' := [(16, .int ((-13))), (15, .int 0), (0, .ref b), (1, .ref (ad 8)), (2, .ref (ah 0)), (3, .ref (ah 1)), (4, .ref (ah 2)), (5, .int v5), (6, .int v6), (7, .int v7), (8, .int v8), (11, .int v11), (12, .int v12), (13, .int v13), (14, .int v14)]) hx hb dL_law_471 hl (by decide) rfl (fun ls hl => ?_)
      obtain rfl := Option.some.inj h
      refine W.widen (k := cells + 0) (n := slots + 0) (by omega) (by omega) ?_
      exact kk _ (lv_sub hl [2, 3, 4, 5, 6, 7, 8, 9, 10, 11, 12, 13, 14, 1, 0] rfl)
    · rw [if_pos c117] at h
      refine lv_aload_n hx hb dL_law_434 rfl (lv_at hl 2 rfl) ?_
      refine lv_iload hx hb dL_law_435 (lv_at hl 11 rfl) ?_
      obtain ⟨g119, h⟩ := gd_some h
      refine alH0 S5 hK hQ (v := N 0 v13.toNatClampNeg) g119 rfl dL_law_437 ?_
      obtain ⟨q120, hqq120, h⟩ := obind_some h
      refine cS S5 (As := [.int (N 0 v13.toNatClampNeg)]) (kL_size l _ _ hqq120) (va_cwS 1 hts gL_law_L_size rfl rfl rfl (by decide +kernel) ⟨(Nat.le_of_ble_eq_true rfl), (Nat.le_of_ble_eq_true rfl)⟩) rfl hl.1 (st0 := _) (rest := []) rfl (Nat.le_of_ble_eq_true rfl) dL_law_438 ⟨(by show _ ≤ room_1.cells; omega), (by show _ ≤ room_1.slots; omega)⟩ ?_
      refine lv_iconst (v := 4) hx hb dL_law_441 (by decide) ?_
      refine lv_icmp_ge (tgt := 449) hx hb dL_law_442 (by decide) (fun c121 => ?_) (fun c121 => ?_)
      · rw [if_pos c121] at h
        refine lv_iconst (v := 0) hx hb dL_law_449 (by decide) ?_
        refine lv_istore (lv' := [(15, .int 0), (0, .ref b), (1, .ref (ad 8)), (2, .ref (ah 0)), (3, .ref (ah 1)), (4, .ref (ah 2)), (5, .int v5), (6, .int v6), (7, .int v7), (8, .int v8), (11, .int v11), (12, .int v12), (13, .int v13), (14, .int v14)]) hx hb dL_law_450 hl (by decide) rfl (fun ls hl => ?_)
        refine lv_iload hx hb dL_law_452 (lv_at hl 0 rfl) ?_
        refine lv_if_eq (tgt := 469) hx hb dL_law_454 (by decide) (fun c122 => ?_) (fun c122 => absurd c122 (by decide))
        refine lv_bipush (v := (-13)) hx hb dL_law_469 (by decide) ?_
        refine lv_istore (lv' := [(16, .int ((-13))), (15, .int 0), (0, .ref b), (1, .ref (ad 8)), (2, .ref (ah 0)), (3, .ref (ah 1)), (4, .ref (ah 2)), (5, .int v5), (6, .int v6), (7, .int v7), (8, .int v8), (11, .int v11), (12, .int v12), (13, .int v13), (14, .int v14)]) hx hb dL_law_471 hl (by decide) rfl (fun ls hl => ?_)
        obtain rfl := Option.some.inj h
        refine W.widen (k := cells + 0) (n := slots + 0) (by omega) (by omega) ?_
        exact kk _ (lv_sub hl [2, 3, 4, 5, 6, 7, 8, 9, 10, 11, 12, 13, 14, 1, 0] rfl)
      · rw [if_neg c121] at h
        refine lv_iconst (v := 1) hx hb dL_law_445 (by decide) ?_
        refine lv_goto (tgt := 450) hx hb dL_law_446 (by decide) ?_
        refine lv_istore (lv' := [(15, .int 1), (0, .ref b), (1, .ref (ad 8)), (2, .ref (ah 0)), (3, .ref (ah 1)), (4, .ref (ah 2)), (5, .int v5), (6, .int v6), (7, .int v7), (8, .int v8), (11, .int v11), (12, .int v12), (13, .int v13), (14, .int v14)]) hx hb dL_law_450 hl (by decide) rfl (fun ls hl => ?_)
        refine lv_iload hx hb dL_law_452 (lv_at hl 0 rfl) ?_
        refine lv_if_eq (tgt := 469) hx hb dL_law_454 (by decide) (fun c123 => absurd c123 (by decide)) (fun c123 => ?_)
        refine lv_aload_n hx hb dL_law_457 rfl (lv_at hl 3 rfl) ?_
        refine lv_iload hx hb dL_law_458 (lv_at hl 12 rfl) ?_
        obtain ⟨g124, h⟩ := gd_some h
        refine alH0 S5 hK hQ (v := N 0 v13.toNatClampNeg) g124 rfl dL_law_460 ?_
        obtain ⟨q125, hqq125, h⟩ := obind_some h
        refine cS S5 (As := [.int (N 0 v13.toNatClampNeg)]) (kL_size l _ _ hqq125) (va_cwS 1 hts gL_law_L_size rfl rfl rfl (by decide +kernel) ⟨(Nat.le_of_ble_eq_true rfl), (Nat.le_of_ble_eq_true rfl)⟩) rfl hl.1 (st0 := _) (rest := []) rfl (Nat.le_of_ble_eq_true rfl) dL_law_461 ⟨(by show _ ≤ room_1.cells; omega), (by show _ ≤ room_1.slots; omega)⟩ ?_
        refine lv_iconst (v := 1) hx hb dL_law_464 (by decide) ?_
        refine lv_iadd hx hb dL_law_465 ?_
        refine lv_goto (tgt := 471) hx hb dL_law_466 (by decide) ?_
        refine lv_istore (lv' := [(16, .int (q125 + 1)), (15, .int 1), (0, .ref b), (1, .ref (ad 8)), (2, .ref (ah 0)), (3, .ref (ah 1)), (4, .ref (ah 2)), (5, .int v5), (6, .int v6), (7, .int v7), (8, .int v8), (11, .int v11), (12, .int v12), (13, .int v13), (14, .int v14)]) hx hb dL_law_471 hl (by decide) rfl (fun ls hl => ?_)
        obtain rfl := Option.some.inj h
        refine W.widen (k := cells + 0) (n := slots + 0) (by omega) (by omega) ?_
        exact kk _ (lv_sub hl [2, 3, 4, 5, 6, 7, 8, 9, 10, 11, 12, 13, 14, 1, 0] rfl)
  have R199 : ∀ (v5 : Int32) (v7 : Int32) (v8 : Int32) (M N : Mem) (r' : Int32 × Mem × Mem) (H : Heap) (locs : List Loc) (ls : Array Slot) (cells slots : Nat), fL_law_R199 xs L v5 v7 v8 M N = some r' → va_P D vwCl (wX cA ad M) H → va_P D vwCl (wH cA ah N) H → va_S (A0 s) s.heap H locs → cells + 1 ≤ room_1.cells → slots + 6 ≤ room_1.slots → lv_has ls 17 [(0, .ref b), (1, .ref (ad 8)), (2, .ref (ah 0)), (3, .ref (ah 1)), (4, .ref (ah 2)), (5, .int v5), (7, .int v7), (8, .int v8)] → (∀ (H : Heap) (locs : List Loc), va_P D vwCl (wX cA ad (r'.2.1)) H → va_P D vwCl (wH cA ah (r'.2.2)) H → va_S (A0 s) s.heap H locs → ∀ (ls : Array Slot), lv_has ls 17 [(0, .ref b), (1, .ref (ad 8)), (2, .ref (ah 0)), (3, .ref (ah 1)), (4, .ref (ah 2)), (5, .int v5), (6, .int (r'.1)), (7, .int v7)] → W p l e room_1 s m #[Value.ref b] below meth c H locs (cells + 1) (slots + 6) (lw_Z below #[Value.ref b] s) (F0 m 937 ls [])) → W p l e room_1 s m #[Value.ref b] below meth c H locs cells slots (lw_Z below #[Value.ref b] s) (F0 m 199 ls []) := by
    intro v5 v7 v8 M N r' H locs ls cells slots h hP hQ hS hc hs hl kk
    unfold fL_law_R199 at h
    refine lv_aload hx hb dL_law_199 (lv_at hl 4 rfl) ?_
    refine lv_iconst (v := 1) hx hb dL_law_201 (by decide) ?_
    refine alH2 S5 hK hQ (v := N 2 1) (by decide) rfl dL_law_202 ?_
    refine lv_istore (lv' := [(11, .int (N 2 1)), (0, .ref b), (1, .ref (ad 8)), (2, .ref (ah 0)), (3, .ref (ah 1)), (4, .ref (ah 2)), (5, .int v5), (7, .int v7), (8, .int v8)]) hx hb dL_law_203 hl (by decide) rfl (fun ls hl => ?_)
    refine lv_aload hx hb dL_law_205 (lv_at hl 5 rfl) ?_
    refine lv_iconst (v := 1) hx hb dL_law_207 (by decide) ?_
    refine lv_iload hx hb dL_law_208 (lv_at hl 8 rfl) ?_
    refine lv_iconst (v := 4) hx hb dL_law_210 (by decide) ?_
    refine r_idiv S5 dL_law_211 (by decide) ?_
    refine lv_iconst (v := 5) hx hb dL_law_212 (by decide) ?_
    refine r_irem S5 dL_law_213 (by decide) ?_
    refine lv_iconst (v := 1) hx hb dL_law_214 (by decide) ?_
    refine lv_isub hx hb dL_law_215 ?_
    refine asY2 S5 hK hP hQ hD hS (by decide) (k := 1) rfl dL_law_216 (fun H locs hP hQ hS => ?_)
    refine lv_aload_n hx hb dL_law_217 rfl (lv_at hl 2 rfl) ?_
    refine lv_aload hx hb dL_law_218 (lv_at hl 5 rfl) ?_
    refine lv_iconst (v := 1) hx hb dL_law_220 (by decide) ?_
    refine alH2 S5 hK hQ (v := (im (v8 / 4) 5) - 1) (by decide) rfl dL_law_221 ?_
    obtain ⟨g36, h⟩ := gd_some h
    refine cTY S5 hK hP hQ hD hS hT (fun _ h => hA _ _ hS.1 h) (As := [.int ((im (v8 / 4) 5) - 1)]) (kX5_begin l D cA ad sa hst _ _) g36 (cwV 1 hts gL_law_X5_begin rfl rfl rfl (by decide +kernel) ⟨(Nat.le_of_ble_eq_true rfl), (Nat.le_of_ble_eq_true rfl)⟩) rfl hl.1 (st0 := _) (rest := []) rfl (Nat.le_of_ble_eq_true rfl) dL_law_222 ⟨(by show _ ≤ room_1.cells; omega), (by show _ ≤ room_1.slots; omega)⟩ (fun H locs hP hQ hS => ?_)
    refine lv_iload hx hb dL_law_225 (lv_at hl 0 rfl) ?_
    refine lv_icmp_ne (tgt := 234) hx hb dL_law_227 (by decide) (fun c37 => ?_) (fun c37 => ?_)
    · rw [if_neg c37] at h
      refine lv_iconst (v := 0) hx hb dL_law_234 (by decide) ?_
      refine lv_istore (lv' := [(6, .int 0), (11, .int (N 2 1)), (0, .ref b), (1, .ref (ad 8)), (2, .ref (ah 0)), (3, .ref (ah 1)), (4, .ref (ah 2)), (5, .int v5), (7, .int v7), (8, .int v8)]) hx hb dL_law_235 hl (by decide) rfl (fun ls hl => ?_)
      refine lv_aload hx hb dL_law_237 (lv_at hl 6 rfl) ?_
      refine lv_iconst (v := 0) hx hb dL_law_239 (by decide) ?_
      refine lv_iconst (v := 0) hx hb dL_law_240 (by decide) ?_
      refine asY2 S5 hK hP hQ hD hS (by decide) (k := 0) rfl dL_law_241 (fun H locs hP hQ hS => ?_)
      refine lv_aload hx hb dL_law_242 (lv_at hl 6 rfl) ?_
      refine lv_iconst (v := 3) hx hb dL_law_244 (by decide) ?_
      refine lv_iconst (v := 0) hx hb dL_law_245 (by decide) ?_
      refine asY2 S5 hK hP hQ hD hS (by decide) (k := 3) rfl dL_law_246 (fun H locs hP hQ hS => ?_)
      refine lv_aload_n hx hb dL_law_247 rfl (lv_at hl 4 rfl) ?_
      refine lv_iconst (v := 0) hx hb dL_law_248 (by decide) ?_
      refine lv_iconst (v := 0) hx hb dL_law_249 (by decide) ?_
      refine asY0 S5 hK hP hQ hD hS (by decide) (k := 0) rfl dL_law_250 (fun H locs hP hQ hS => ?_)
      refine lv_aload_n hx hb dL_law_251 rfl (lv_at hl 4 rfl) ?_
      refine lv_iconst (v := 1) hx hb dL_law_252 (by decide) ?_
      refine lv_iconst (v := 0) hx hb dL_law_253 (by decide) ?_
      refine asY0 S5 hK hP hQ hD hS (by decide) (k := 1) rfl dL_law_254 (fun H locs hP hQ hS => ?_)
      refine lv_aload_n hx hb dL_law_255 rfl (lv_at hl 4 rfl) ?_
      refine lv_iconst (v := 2) hx hb dL_law_256 (by decide) ?_
      refine lv_iconst (v := 0) hx hb dL_law_257 (by decide) ?_
      refine asY0 S5 hK hP hQ hD hS (by decide) (k := 2) rfl dL_law_258 (fun H locs hP hQ hS => ?_)
      refine lv_aload_n hx hb dL_law_259 rfl (lv_at hl 4 rfl) ?_
      refine lv_iconst (v := 3) hx hb dL_law_260 (by decide) ?_
      refine lv_iconst (v := 0) hx hb dL_law_261 (by decide) ?_
      refine asY0 S5 hK hP hQ hD hS (by decide) (k := 3) rfl dL_law_262 (fun H locs hP hQ hS => ?_)
      refine lv_aload hx hb dL_law_263 (lv_at hl 6 rfl) ?_
      refine lv_iconst (v := 2) hx hb dL_law_265 (by decide) ?_
      refine lv_iconst (v := 0) hx hb dL_law_266 (by decide) ?_
      refine asY2 S5 hK hP hQ hD hS (by decide) (k := 2) rfl dL_law_267 (fun H locs hP hQ hS => ?_)
      refine lv_goto (tgt := 937) hx hb dL_law_268 (by decide) ?_
      obtain rfl := Option.some.inj h
      refine W.widen (k := cells + 1) (n := slots + 6) (by omega) (by omega) ?_
      exact kk _ _ hP hQ hS _ (lv_sub hl [2, 3, 4, 5, 6, 7, 0, 8] rfl)
    · rw [if_pos c37] at h
      refine lv_iconst (v := 1) hx hb dL_law_230 (by decide) ?_
      refine lv_goto (tgt := 235) hx hb dL_law_231 (by decide) ?_
      refine lv_istore (lv' := [(6, .int 1), (11, .int (N 2 1)), (0, .ref b), (1, .ref (ad 8)), (2, .ref (ah 0)), (3, .ref (ah 1)), (4, .ref (ah 2)), (5, .int v5), (7, .int v7), (8, .int v8)]) hx hb dL_law_235 hl (by decide) rfl (fun ls hl => ?_)
      refine lv_aload hx hb dL_law_237 (lv_at hl 6 rfl) ?_
      refine lv_iconst (v := 0) hx hb dL_law_239 (by decide) ?_
      refine lv_iconst (v := 0) hx hb dL_law_240 (by decide) ?_
      refine asY2 S5 hK hP hQ hD hS (by decide) (k := 0) rfl dL_law_241 (fun H locs hP hQ hS => ?_)
      refine lv_aload hx hb dL_law_242 (lv_at hl 6 rfl) ?_
      refine lv_iconst (v := 3) hx hb dL_law_244 (by decide) ?_
      refine lv_iconst (v := 0) hx hb dL_law_245 (by decide) ?_
      refine asY2 S5 hK hP hQ hD hS (by decide) (k := 3) rfl dL_law_246 (fun H locs hP hQ hS => ?_)
      refine lv_aload_n hx hb dL_law_247 rfl (lv_at hl 4 rfl) ?_
      refine lv_iconst (v := 0) hx hb dL_law_248 (by decide) ?_
      refine lv_iconst (v := 0) hx hb dL_law_249 (by decide) ?_
      refine asY0 S5 hK hP hQ hD hS (by decide) (k := 0) rfl dL_law_250 (fun H locs hP hQ hS => ?_)
      refine lv_aload_n hx hb dL_law_251 rfl (lv_at hl 4 rfl) ?_
      refine lv_iconst (v := 1) hx hb dL_law_252 (by decide) ?_
      refine lv_iconst (v := 0) hx hb dL_law_253 (by decide) ?_
      refine asY0 S5 hK hP hQ hD hS (by decide) (k := 1) rfl dL_law_254 (fun H locs hP hQ hS => ?_)
      refine lv_aload_n hx hb dL_law_255 rfl (lv_at hl 4 rfl) ?_
      refine lv_iconst (v := 2) hx hb dL_law_256 (by decide) ?_
      refine lv_iconst (v := 0) hx hb dL_law_257 (by decide) ?_
      refine asY0 S5 hK hP hQ hD hS (by decide) (k := 2) rfl dL_law_258 (fun H locs hP hQ hS => ?_)
      refine lv_aload_n hx hb dL_law_259 rfl (lv_at hl 4 rfl) ?_
      refine lv_iconst (v := 3) hx hb dL_law_260 (by decide) ?_
      refine lv_iconst (v := 0) hx hb dL_law_261 (by decide) ?_
      refine asY0 S5 hK hP hQ hD hS (by decide) (k := 3) rfl dL_law_262 (fun H locs hP hQ hS => ?_)
      refine lv_aload hx hb dL_law_263 (lv_at hl 6 rfl) ?_
      refine lv_iconst (v := 2) hx hb dL_law_265 (by decide) ?_
      refine lv_iconst (v := 0) hx hb dL_law_266 (by decide) ?_
      refine asY2 S5 hK hP hQ hD hS (by decide) (k := 2) rfl dL_law_267 (fun H locs hP hQ hS => ?_)
      refine lv_goto (tgt := 937) hx hb dL_law_268 (by decide) ?_
      obtain rfl := Option.some.inj h
      refine W.widen (k := cells + 1) (n := slots + 6) (by omega) (by omega) ?_
      exact kk _ _ hP hQ hS _ (lv_sub hl [2, 3, 4, 5, 6, 7, 0, 8] rfl)
  have L293 : ∀ (n : Nat) (v5 : Int32) (v6 : Int32) (v7 : Int32) (v8 : Int32) (v11 : Int32) (v12 : Int32) (M N : Mem) (r' : Int32 × Mem × Mem) (H : Heap) (locs : List Loc) (ls : Array Slot) (cells slots : Nat), fL_law_L293 xs L n v5 v6 v7 v8 v11 v12 M N = some r' → va_P D vwCl (wX cA ad M) H → va_P D vwCl (wH cA ah N) H → va_S (A0 s) s.heap H locs → cells + n * 3 ≤ room_1.cells → slots + n * 18 ≤ room_1.slots → lv_has ls 17 [(0, .ref b), (1, .ref (ad 8)), (2, .ref (ah 0)), (3, .ref (ah 1)), (4, .ref (ah 2)), (5, .int v5), (6, .int v6), (7, .int v7), (8, .int v8), (11, .int v11), (12, .int v12)] → (∀ (H : Heap) (locs : List Loc), va_P D vwCl (wX cA ad (r'.2.1)) H → va_P D vwCl (wH cA ah (r'.2.2)) H → va_S (A0 s) s.heap H locs → ∀ (ls : Array Slot), lv_has ls 17 [(0, .ref b), (1, .ref (ad 8)), (2, .ref (ah 0)), (3, .ref (ah 1)), (4, .ref (ah 2)), (5, .int v5), (6, .int (r'.1)), (7, .int v7), (8, .int v8)] → W p l e room_1 s m #[Value.ref b] below meth c H locs (cells + n * 3) (slots + n * 18) (lw_Z below #[Value.ref b] s) (F0 m 537 ls [])) → W p l e room_1 s m #[Value.ref b] below meth c H locs cells slots (lw_Z below #[Value.ref b] s) (F0 m 293 ls []) := by
    intro n
    induction n with
    | zero => intro v5 v6 v7 v8 v11 v12 M N r' H locs ls cells slots h hP hQ hS hc hs hl kk; rw [fL_law_L293.eq_1] at h; cases h
    | succ n ih =>
      intro v5 v6 v7 v8 v11 v12 M N r' H locs ls cells slots h hP hQ hS hc hs hl kk
      rw [fL_law_L293.eq_2] at h
      refine lv_iload hx hb dL_law_293 (lv_at hl 10 rfl) ?_
      refine lv_iload hx hb dL_law_295 (lv_at hl 9 rfl) ?_
      refine lv_icmp_ge (tgt := 537) hx hb dL_law_297 (by decide) (fun c102 => ?_) (fun c102 => ?_)
      · rw [if_pos c102] at h
        obtain rfl := Option.some.inj h
        refine W.widen (k := cells + (n + 1) * 3) (n := slots + (n + 1) * 18) (by omega) (by omega) ?_
        exact kk _ _ hP hQ hS _ (lv_sub hl [0, 1, 2, 3, 4, 5, 6, 7, 8] rfl)
      · rw [if_neg c102] at h
        refine lv_iload hx hb dL_law_300 (lv_at hl 6 rfl) ?_
        refine lv_if_eq (tgt := 537) hx hb dL_law_302 (by decide) (fun c103 => ?_) (fun c103 => ?_)
        · rw [if_pos c103] at h
          obtain rfl := Option.some.inj h
          refine W.widen (k := cells + (n + 1) * 3) (n := slots + (n + 1) * 18) (by omega) (by omega) ?_
          exact kk _ _ hP hQ hS _ (lv_sub hl [0, 1, 2, 3, 4, 5, 6, 7, 8] rfl)
        · rw [if_neg c103] at h
          refine lv_iload hx hb dL_law_305 (lv_at hl 10 rfl) ?_
          refine lv_iconst (v := 5) hx hb dL_law_307 (by decide) ?_
          refine lv_icmp_lt (tgt := 319) hx hb dL_law_308 (by decide) (fun c104 => ?_) (fun c104 => ?_)
          · rw [if_pos c104] at h
            obtain ⟨q105, hqq105, h⟩ := obind_some h
            refine R319 _ _ _ _ _ _ _ _ _ _ _ _ _ _ hqq105 hP hQ hS (by omega) (by omega) (lv_sub hl [0, 1, 2, 3, 4, 5, 6, 7, 8, 9, 10] rfl) (fun ls hl => ?_)
            have hl := lv_sub (l' := [(0, .ref b), (1, .ref (ad 8)), (2, .ref (ah 0)), (3, .ref (ah 1)), (4, .ref (ah 2)), (5, .int v5), (6, .int v6), (7, .int v7), (8, .int v8), (11, .int v11), (12, .int v12), (13, .int q105.1), (14, .int q105.2)]) hl [0, 1, 2, 3, 4, 5, 6, 7, 8, 9, 10, 11, 12] rfl
            refine lv_iconst (v := 0) hx hb dL_law_355 (by decide) ?_
            refine lv_istore (lv' := [(15, .int 0), (0, .ref b), (1, .ref (ad 8)), (2, .ref (ah 0)), (3, .ref (ah 1)), (4, .ref (ah 2)), (5, .int v5), (6, .int v6), (7, .int v7), (8, .int v8), (11, .int v11), (12, .int v12), (13, .int q105.1), (14, .int q105.2)]) hx hb dL_law_356 hl (by decide) rfl (fun ls hl => ?_)
            obtain ⟨q106, hqq106, h⟩ := obind_some h
            refine L358 _ _ _ _ _ _ _ _ _ _ _ _ _ _ _ _ _ _ hqq106 hP hQ hS (by omega) (by omega) (lv_sub hl [1, 2, 3, 4, 5, 6, 7, 8, 9, 10, 11, 12, 13, 0] rfl) (fun ls hl => ?_)
            have hl := lv_sub (l' := [(0, .ref b), (1, .ref (ad 8)), (2, .ref (ah 0)), (3, .ref (ah 1)), (4, .ref (ah 2)), (5, .int v5), (6, .int v6), (7, .int v7), (8, .int v8), (11, .int v11), (12, .int v12), (13, .int q105.1), (14, .int q106)]) hl [0, 1, 2, 3, 4, 5, 6, 7, 8, 9, 10, 11, 12] rfl
            obtain ⟨q107, hqq107, h⟩ := obind_some h
            refine R411 _ _ _ _ _ _ _ _ _ _ _ _ _ _ _ _ hqq107 hP hQ hS (by omega) (by omega) (lv_sub hl [0, 1, 2, 3, 4, 5, 6, 7, 8, 9, 10, 11, 12] rfl) (fun ls hl => ?_)
            have hl := lv_sub (l' := [(0, .ref b), (1, .ref (ad 8)), (2, .ref (ah 0)), (3, .ref (ah 1)), (4, .ref (ah 2)), (5, .int v5), (6, .int v6), (7, .int v7), (8, .int v8), (11, .int v11), (12, .int v12), (13, .int q105.1), (14, .int q106), (15, .int q107.1), (16, .int q107.2)]) hl [0, 1, 2, 3, 4, 5, 6, 7, 8, 9, 10, 11, 12, 13, 14] rfl
            obtain ⟨q108, hqq108, h⟩ := obind_some h
            refine R473 _ _ _ _ _ _ _ _ _ _ _ _ _ _ _ _ _ _ hqq108 hP hQ hS (by omega) (by omega) (lv_sub hl [0, 1, 2, 3, 4, 5, 6, 7, 8, 9, 10, 11, 12, 13, 14] rfl) (fun H locs hP hQ hS ls hl => ?_)
            have hl := lv_sub (l' := [(0, .ref b), (1, .ref (ad 8)), (2, .ref (ah 0)), (3, .ref (ah 1)), (4, .ref (ah 2)), (5, .int v5), (6, .int q108.1), (7, .int v7), (8, .int v8), (11, .int v11), (12, .int v12)]) hl [0, 1, 2, 3, 4, 5, 6, 7, 8, 9, 10] rfl
            refine lv_iinc (v := v12 + 1) (lv' := [(12, .int (v12 + 1)), (0, .ref b), (1, .ref (ad 8)), (2, .ref (ah 0)), (3, .ref (ah 1)), (4, .ref (ah 2)), (5, .int v5), (6, .int q108.1), (7, .int v7), (8, .int v8), (11, .int v11)]) hx hb dL_law_531 hl (k := 10) rfl rfl (by decide) rfl (fun ls hl => ?_)
            refine lv_goto (tgt := 293) hx hb dL_law_534 (by decide) ?_
            refine W.widen (k := cells + 3) (n := slots + 18) (by omega) (by omega) ?_
            exact ih _ _ _ _ _ _ _ _ _ _ _ _ _ _ h hP hQ hS (by omega) (by omega) (lv_sub hl [1, 2, 3, 4, 5, 6, 7, 8, 9, 10, 0] rfl) (fun H locs hP hQ hS ls hl => W.widen (k := cells + (n + 1) * 3) (n := slots + (n + 1) * 18) (by omega) (by omega) (kk H locs hP hQ hS ls hl))
          · rw [if_neg c104] at h
            refine lv_iload hx hb dL_law_311 (lv_at hl 8 rfl) ?_
            refine lv_bipush (v := 8) hx hb dL_law_313 (by decide) ?_
            refine r_irem S5 dL_law_315 (by decide) ?_
            refine lv_if_le (tgt := 537) hx hb dL_law_316 (by decide) (fun c109 => ?_) (fun c109 => ?_)
            · rw [if_pos c109] at h
              obtain rfl := Option.some.inj h
              refine W.widen (k := cells + (n + 1) * 3) (n := slots + (n + 1) * 18) (by omega) (by omega) ?_
              exact kk _ _ hP hQ hS _ (lv_sub hl [0, 1, 2, 3, 4, 5, 6, 7, 8] rfl)
            · rw [if_neg c109] at h
              obtain ⟨q110, hqq110, h⟩ := obind_some h
              refine R319 _ _ _ _ _ _ _ _ _ _ _ _ _ _ hqq110 hP hQ hS (by omega) (by omega) (lv_sub hl [0, 1, 2, 3, 4, 5, 6, 7, 8, 9, 10] rfl) (fun ls hl => ?_)
              have hl := lv_sub (l' := [(0, .ref b), (1, .ref (ad 8)), (2, .ref (ah 0)), (3, .ref (ah 1)), (4, .ref (ah 2)), (5, .int v5), (6, .int v6), (7, .int v7), (8, .int v8), (11, .int v11), (12, .int v12), (13, .int q110.1), (14, .int q110.2)]) hl [0, 1, 2, 3, 4, 5, 6, 7, 8, 9, 10, 11, 12] rfl
              refine lv_iconst (v := 0) hx hb dL_law_355 (by decide) ?_
              refine lv_istore (lv' := [(15, .int 0), (0, .ref b), (1, .ref (ad 8)), (2, .ref (ah 0)), (3, .ref (ah 1)), (4, .ref (ah 2)), (5, .int v5), (6, .int v6), (7, .int v7), (8, .int v8), (11, .int v11), (12, .int v12), (13, .int q110.1), (14, .int q110.2)]) hx hb dL_law_356 hl (by decide) rfl (fun ls hl => ?_)
              obtain ⟨q111, hqq111, h⟩ := obind_some h
              refine L358 _ _ _ _ _ _ _ _ _ _ _ _ _ _ _ _ _ _ hqq111 hP hQ hS (by omega) (by omega) (lv_sub hl [1, 2, 3, 4, 5, 6, 7, 8, 9, 10, 11, 12, 13, 0] rfl) (fun ls hl => ?_)
              have hl := lv_sub (l' := [(0, .ref b), (1, .ref (ad 8)), (2, .ref (ah 0)), (3, .ref (ah 1)), (4, .ref (ah 2)), (5, .int v5), (6, .int v6), (7, .int v7), (8, .int v8), (11, .int v11), (12, .int v12), (13, .int q110.1), (14, .int q111)]) hl [0, 1, 2, 3, 4, 5, 6, 7, 8, 9, 10, 11, 12] rfl
              obtain ⟨q112, hqq112, h⟩ := obind_some h
              refine R411 _ _ _ _ _ _ _ _ _ _ _ _ _ _ _ _ hqq112 hP hQ hS (by omega) (by omega) (lv_sub hl [0, 1, 2, 3, 4, 5, 6, 7, 8, 9, 10, 11, 12] rfl) (fun ls hl => ?_)
              have hl := lv_sub (l' := [(0, .ref b), (1, .ref (ad 8)), (2, .ref (ah 0)), (3, .ref (ah 1)), (4, .ref (ah 2)), (5, .int v5), (6, .int v6), (7, .int v7), (8, .int v8), (11, .int v11), (12, .int v12), (13, .int q110.1), (14, .int q111), (15, .int q112.1), (16, .int q112.2)]) hl [0, 1, 2, 3, 4, 5, 6, 7, 8, 9, 10, 11, 12, 13, 14] rfl
              obtain ⟨q113, hqq113, h⟩ := obind_some h
              refine R473 _ _ _ _ _ _ _ _ _ _ _ _ _ _ _ _ _ _ hqq113 hP hQ hS (by omega) (by omega) (lv_sub hl [0, 1, 2, 3, 4, 5, 6, 7, 8, 9, 10, 11, 12, 13, 14] rfl) (fun H locs hP hQ hS ls hl => ?_)
              have hl := lv_sub (l' := [(0, .ref b), (1, .ref (ad 8)), (2, .ref (ah 0)), (3, .ref (ah 1)), (4, .ref (ah 2)), (5, .int v5), (6, .int q113.1), (7, .int v7), (8, .int v8), (11, .int v11), (12, .int v12)]) hl [0, 1, 2, 3, 4, 5, 6, 7, 8, 9, 10] rfl
              refine lv_iinc (v := v12 + 1) (lv' := [(12, .int (v12 + 1)), (0, .ref b), (1, .ref (ad 8)), (2, .ref (ah 0)), (3, .ref (ah 1)), (4, .ref (ah 2)), (5, .int v5), (6, .int q113.1), (7, .int v7), (8, .int v8), (11, .int v11)]) hx hb dL_law_531 hl (k := 10) rfl rfl (by decide) rfl (fun ls hl => ?_)
              refine lv_goto (tgt := 293) hx hb dL_law_534 (by decide) ?_
              refine W.widen (k := cells + 3) (n := slots + 18) (by omega) (by omega) ?_
              exact ih _ _ _ _ _ _ _ _ _ _ _ _ _ _ h hP hQ hS (by omega) (by omega) (lv_sub hl [1, 2, 3, 4, 5, 6, 7, 8, 9, 10, 0] rfl) (fun H locs hP hQ hS ls hl => W.widen (k := cells + (n + 1) * 3) (n := slots + (n + 1) * 18) (by omega) (by omega) (kk H locs hP hQ hS ls hl))
  have R278 : ∀ (v5 : Int32) (v6 : Int32) (v7 : Int32) (v8 : Int32) (v9 : Int32) (M N : Mem) (r' : Int32 × Mem × Mem) (H : Heap) (locs : List Loc) (ls : Array Slot) (cells slots : Nat), fL_law_R278 xs L v5 v6 v7 v8 v9 M N = some r' → va_P D vwCl (wX cA ad M) H → va_P D vwCl (wH cA ah N) H → va_S (A0 s) s.heap H locs → cells + 39 ≤ room_1.cells → slots + 234 ≤ room_1.slots → lv_has ls 17 [(0, .ref b), (1, .ref (ad 8)), (2, .ref (ah 0)), (3, .ref (ah 1)), (4, .ref (ah 2)), (5, .int v5), (6, .int v6), (7, .int v7), (8, .int v8), (9, .int v9)] → (∀ (H : Heap) (locs : List Loc), va_P D vwCl (wX cA ad (r'.2.1)) H → va_P D vwCl (wH cA ah (r'.2.2)) H → va_S (A0 s) s.heap H locs → ∀ (ls : Array Slot), lv_has ls 17 [(0, .ref b), (1, .ref (ad 8)), (2, .ref (ah 0)), (3, .ref (ah 1)), (4, .ref (ah 2)), (5, .int v5), (6, .int (r'.1)), (7, .int v7), (8, .int v8)] → W p l e room_1 s m #[Value.ref b] below meth c H locs (cells + 39) (slots + 234) (lw_Z below #[Value.ref b] s) (F0 m 537 ls [])) → W p l e room_1 s m #[Value.ref b] below meth c H locs cells slots (lw_Z below #[Value.ref b] s) (F0 m 278 ls []) := by
    intro v5 v6 v7 v8 v9 M N r' H locs ls cells slots h hP hQ hS hc hs hl kk
    unfold fL_law_R278 at h
    refine lv_iconst (v := 4) hx hb dL_law_278 (by decide) ?_
    refine lv_iload hx hb dL_law_279 (lv_at hl 5 rfl) ?_
    refine lv_imul hx hb dL_law_281 ?_
    refine lv_iload hx hb dL_law_282 (lv_at hl 9 rfl) ?_
    obtain ⟨q57, hqq57, h⟩ := obind_some h
    refine cS S5 (As := [.int v9]) (kL_size l _ _ hqq57) (va_cwS 1 hts gL_law_L_size rfl rfl rfl (by decide +kernel) ⟨(Nat.le_of_ble_eq_true rfl), (Nat.le_of_ble_eq_true rfl)⟩) rfl hl.1 (st0 := _) (rest := [.int (4 * v5)]) rfl (Nat.le_of_ble_eq_true rfl) dL_law_284 ⟨(by show _ ≤ room_1.cells; omega), (by show _ ≤ room_1.slots; omega)⟩ ?_
    refine lv_isub hx hb dL_law_287 ?_
    refine lv_istore (lv' := [(11, .int ((4 * v5) - q57)), (0, .ref b), (1, .ref (ad 8)), (2, .ref (ah 0)), (3, .ref (ah 1)), (4, .ref (ah 2)), (5, .int v5), (6, .int v6), (7, .int v7), (8, .int v8), (9, .int v9)]) hx hb dL_law_288 hl (by decide) rfl (fun ls hl => ?_)
    refine lv_iconst (v := 0) hx hb dL_law_290 (by decide) ?_
    refine lv_istore (lv' := [(12, .int 0), (11, .int ((4 * v5) - q57)), (0, .ref b), (1, .ref (ad 8)), (2, .ref (ah 0)), (3, .ref (ah 1)), (4, .ref (ah 2)), (5, .int v5), (6, .int v6), (7, .int v7), (8, .int v8), (9, .int v9)]) hx hb dL_law_291 hl (by decide) rfl (fun ls hl => ?_)
    obtain ⟨q58, hqq58, h⟩ := obind_some h
    refine L293 _ _ _ _ _ _ _ _ _ _ _ _ _ _ _ hqq58 hP hQ hS (by omega) (by omega) (lv_sub hl [2, 3, 4, 5, 6, 7, 8, 9, 10, 1, 0] rfl) (fun H locs hP hQ hS ls hl => ?_)
    have hl := lv_sub (l' := [(0, .ref b), (1, .ref (ad 8)), (2, .ref (ah 0)), (3, .ref (ah 1)), (4, .ref (ah 2)), (5, .int v5), (6, .int q58.1), (7, .int v7), (8, .int v8)]) hl [0, 1, 2, 3, 4, 5, 6, 7, 8] rfl
    obtain rfl := Option.some.inj h
    refine W.widen (k := cells + 39) (n := slots + 234) (by omega) (by omega) ?_
    exact kk _ _ hP hQ hS _ (lv_sub hl [0, 1, 2, 3, 4, 5, 6, 7, 8] rfl)
  have R661 : ∀ (v5 : Int32) (v7 : Int32) (v8 : Int32) (v10 : Int32) (M N : Mem) (r' : Int32 × Mem × Mem) (H : Heap) (locs : List Loc) (ls : Array Slot) (cells slots : Nat), fL_law_R661 xs L v5 v7 v8 v10 M N = some r' → va_P D vwCl (wX cA ad M) H → va_P D vwCl (wH cA ah N) H → va_S (A0 s) s.heap H locs → cells + 2 ≤ room_1.cells → slots + 12 ≤ room_1.slots → lv_has ls 17 [(0, .ref b), (1, .ref (ad 8)), (2, .ref (ah 0)), (3, .ref (ah 1)), (4, .ref (ah 2)), (5, .int v5), (7, .int v7), (8, .int v8), (10, .int v10)] → (∀ (H : Heap) (locs : List Loc), va_P D vwCl (wX cA ad (r'.2.1)) H → va_P D vwCl (wH cA ah (r'.2.2)) H → va_S (A0 s) s.heap H locs → ∀ (ls : Array Slot), lv_has ls 17 [(0, .ref b), (1, .ref (ad 8)), (2, .ref (ah 0)), (3, .ref (ah 1)), (4, .ref (ah 2)), (5, .int v5), (6, .int (r'.1)), (7, .int v7)] → W p l e room_1 s m #[Value.ref b] below meth c H locs (cells + 2) (slots + 12) (lw_Z below #[Value.ref b] s) (F0 m 937 ls [])) → W p l e room_1 s m #[Value.ref b] below meth c H locs cells slots (lw_Z below #[Value.ref b] s) (F0 m 661 ls []) := by
    intro v5 v7 v8 v10 M N r' H locs ls cells slots h hP hQ hS hc hs hl kk
    unfold fL_law_R661 at h
    refine lv_iload hx hb dL_law_661 (lv_at hl 7 rfl) ?_
    refine lv_iconst (v := 5) hx hb dL_law_663 (by decide) ?_
    refine r_irem S5 dL_law_664 (by decide) ?_
    refine lv_if_eq (tgt := 673) hx hb dL_law_665 (by decide) (fun c44 => ?_) (fun c44 => ?_)
    · rw [if_pos c44] at h
      obtain ⟨q45, hqq45, h⟩ := obind_some h
      refine R673 _ _ _ _ _ _ _ _ _ _ hqq45 hP hQ hS (by omega) (by omega) (lv_sub hl [0, 1, 2, 3, 4, 5, 6] rfl) (fun ls hl => ?_)
      have hl := lv_sub (l' := [(0, .ref b), (1, .ref (ad 8)), (2, .ref (ah 0)), (3, .ref (ah 1)), (4, .ref (ah 2)), (5, .int v5), (7, .int v7), (11, .int q45)]) hl [0, 1, 2, 3, 4, 5, 6, 7] rfl
      obtain ⟨q46, hqq46, h⟩ := obind_some h
      refine R695 _ _ _ _ _ _ _ _ _ _ _ hqq46 hP hQ hS (by omega) (by omega) (lv_sub hl [0, 1, 2, 3, 4, 5, 6, 7] rfl) (fun H locs hP hQ hS ls hl => ?_)
      have hl := lv_sub (l' := [(0, .ref b), (1, .ref (ad 8)), (2, .ref (ah 0)), (3, .ref (ah 1)), (4, .ref (ah 2)), (5, .int v5), (6, .int q46.1), (7, .int v7), (11, .int q45)]) hl [0, 1, 2, 3, 4, 5, 6, 7, 8] rfl
      obtain ⟨q47, hqq47, h⟩ := obind_some h
      refine R714 _ _ _ _ _ _ _ _ _ _ _ _ hqq47 hP hQ hS (by omega) (by omega) (lv_sub hl [0, 1, 2, 3, 4, 5, 6, 7, 8] rfl) (fun H locs hP hQ hS ls hl => ?_)
      have hl := lv_sub (l' := [(0, .ref b), (1, .ref (ad 8)), (2, .ref (ah 0)), (3, .ref (ah 1)), (4, .ref (ah 2)), (5, .int v5), (6, .int q46.1), (7, .int v7)]) hl [0, 1, 2, 3, 4, 5, 6, 7] rfl
      obtain rfl := Option.some.inj h
      refine W.widen (k := cells + 2) (n := slots + 12) (by omega) (by omega) ?_
      exact kk _ _ hP hQ hS _ (lv_sub hl [0, 1, 2, 3, 4, 5, 6, 7] rfl)
    · rw [if_neg c44] at h
      refine lv_iload hx hb dL_law_668 (lv_at hl 8 rfl) ?_
      refine lv_if_eq (tgt := 758) hx hb dL_law_670 (by decide) (fun c48 => ?_) (fun c48 => ?_)
      · rw [if_pos c48] at h
        obtain ⟨q49, hqq49, h⟩ := obind_some h
        refine R758 _ _ _ _ _ _ _ _ _ _ _ hqq49 hP hQ hS (by omega) (by omega) (lv_sub hl [0, 1, 2, 3, 4, 5, 6, 7] rfl) (fun ls hl => ?_)
        have hl := lv_sub (l' := [(0, .ref b), (1, .ref (ad 8)), (2, .ref (ah 0)), (3, .ref (ah 1)), (4, .ref (ah 2)), (5, .int v5), (7, .int v7), (8, .int v8), (11, .int q49.1), (12, .int q49.2)]) hl [0, 1, 2, 3, 4, 5, 6, 7, 8, 9] rfl
        obtain ⟨q50, hqq50, h⟩ := obind_some h
        refine L770 _ _ _ _ _ _ _ _ _ _ _ _ _ _ hqq50 hP hQ hS (by omega) (by omega) (lv_sub hl [0, 1, 2, 3, 4, 5, 6, 7, 8, 9] rfl) (fun ls hl => ?_)
        have hl := lv_sub (l' := [(0, .ref b), (1, .ref (ad 8)), (2, .ref (ah 0)), (3, .ref (ah 1)), (4, .ref (ah 2)), (5, .int v5), (7, .int v7), (11, .int q50)]) hl [0, 1, 2, 3, 4, 5, 6, 7] rfl
        obtain ⟨q51, hqq51, h⟩ := obind_some h
        refine R816 _ _ _ _ _ _ _ _ _ _ _ hqq51 hP hQ hS (by omega) (by omega) (lv_sub hl [0, 1, 2, 3, 4, 5, 6, 7] rfl) (fun ls hl => ?_)
        have hl := lv_sub (l' := [(0, .ref b), (1, .ref (ad 8)), (2, .ref (ah 0)), (3, .ref (ah 1)), (4, .ref (ah 2)), (5, .int v5), (7, .int v7), (11, .int q50), (12, .int q51.1), (13, .int q51.2)]) hl [0, 1, 2, 3, 4, 5, 6, 7, 8, 9] rfl
        obtain ⟨q52, hqq52, h⟩ := obind_some h
        refine R852 _ _ _ _ _ _ _ _ _ _ _ _ _ hqq52 hP hQ hS (by omega) (by omega) (lv_sub hl [0, 1, 2, 3, 4, 5, 6, 7, 8, 9] rfl) (fun H locs hP hQ hS ls hl => ?_)
        have hl := lv_sub (l' := [(0, .ref b), (1, .ref (ad 8)), (2, .ref (ah 0)), (3, .ref (ah 1)), (4, .ref (ah 2)), (5, .int v5), (7, .int v7), (11, .int q50), (12, .int q51.1)]) hl [0, 1, 2, 3, 4, 5, 6, 7, 8] rfl
        obtain ⟨q53, hqq53, h⟩ := obind_some h
        refine R886 _ _ _ _ _ _ _ _ _ _ _ _ hqq53 hP hQ hS (by omega) (by omega) (lv_sub hl [0, 1, 2, 3, 4, 5, 6, 7, 8] rfl) (fun H locs hP hQ hS ls hl => ?_)
        have hl := lv_sub (l' := [(0, .ref b), (1, .ref (ad 8)), (2, .ref (ah 0)), (3, .ref (ah 1)), (4, .ref (ah 2)), (5, .int v5), (6, .int q53.1), (7, .int v7)]) hl [0, 1, 2, 3, 4, 5, 6, 7] rfl
        obtain rfl := Option.some.inj h
        refine W.widen (k := cells + 2) (n := slots + 12) (by omega) (by omega) ?_
        exact kk _ _ hP hQ hS _ (lv_sub hl [0, 1, 2, 3, 4, 5, 6, 7] rfl)
      · rw [if_neg c48] at h
        obtain ⟨q54, hqq54, h⟩ := obind_some h
        refine R673 _ _ _ _ _ _ _ _ _ _ hqq54 hP hQ hS (by omega) (by omega) (lv_sub hl [0, 1, 2, 3, 4, 5, 6] rfl) (fun ls hl => ?_)
        have hl := lv_sub (l' := [(0, .ref b), (1, .ref (ad 8)), (2, .ref (ah 0)), (3, .ref (ah 1)), (4, .ref (ah 2)), (5, .int v5), (7, .int v7), (11, .int q54)]) hl [0, 1, 2, 3, 4, 5, 6, 7] rfl
        obtain ⟨q55, hqq55, h⟩ := obind_some h
        refine R695 _ _ _ _ _ _ _ _ _ _ _ hqq55 hP hQ hS (by omega) (by omega) (lv_sub hl [0, 1, 2, 3, 4, 5, 6, 7] rfl) (fun H locs hP hQ hS ls hl => ?_)
        have hl := lv_sub (l' := [(0, .ref b), (1, .ref (ad 8)), (2, .ref (ah 0)), (3, .ref (ah 1)), (4, .ref (ah 2)), (5, .int v5), (6, .int q55.1), (7, .int v7), (11, .int q54)]) hl [0, 1, 2, 3, 4, 5, 6, 7, 8] rfl
        obtain ⟨q56, hqq56, h⟩ := obind_some h
        refine R714 _ _ _ _ _ _ _ _ _ _ _ _ hqq56 hP hQ hS (by omega) (by omega) (lv_sub hl [0, 1, 2, 3, 4, 5, 6, 7, 8] rfl) (fun H locs hP hQ hS ls hl => ?_)
        have hl := lv_sub (l' := [(0, .ref b), (1, .ref (ad 8)), (2, .ref (ah 0)), (3, .ref (ah 1)), (4, .ref (ah 2)), (5, .int v5), (6, .int q55.1), (7, .int v7)]) hl [0, 1, 2, 3, 4, 5, 6, 7] rfl
        obtain rfl := Option.some.inj h
        refine W.widen (k := cells + 2) (n := slots + 12) (by omega) (by omega) ?_
        exact kk _ _ hP hQ hS _ (lv_sub hl [0, 1, 2, 3, 4, 5, 6, 7] rfl)
  have R271 : ∀ (v5 : Int32) (v6 : Int32) (v7 : Int32) (v8 : Int32) (v9 : Int32) (v10 : Int32) (M N : Mem) (r' : Int32 × Mem × Mem) (H : Heap) (locs : List Loc) (ls : Array Slot) (cells slots : Nat), fL_law_R271 xs L v5 v6 v7 v8 v9 v10 M N = some r' → va_P D vwCl (wX cA ad M) H → va_P D vwCl (wH cA ah N) H → va_S (A0 s) s.heap H locs → cells + 41 ≤ room_1.cells → slots + 246 ≤ room_1.slots → lv_has ls 17 [(0, .ref b), (1, .ref (ad 8)), (2, .ref (ah 0)), (3, .ref (ah 1)), (4, .ref (ah 2)), (5, .int v5), (6, .int v6), (7, .int v7), (8, .int v8), (9, .int v9), (10, .int v10)] → (∀ (H : Heap) (locs : List Loc), va_P D vwCl (wX cA ad (r'.2.1)) H → va_P D vwCl (wH cA ah (r'.2.2)) H → va_S (A0 s) s.heap H locs → ∀ (ls : Array Slot), lv_has ls 17 [(0, .ref b), (1, .ref (ad 8)), (2, .ref (ah 0)), (3, .ref (ah 1)), (4, .ref (ah 2)), (5, .int v5), (6, .int (r'.1)), (7, .int v7)] → W p l e room_1 s m #[Value.ref b] below meth c H locs (cells + 41) (slots + 246) (lw_Z below #[Value.ref b] s) (F0 m 937 ls [])) → W p l e room_1 s m #[Value.ref b] below meth c H locs cells slots (lw_Z below #[Value.ref b] s) (F0 m 271 ls []) := by
    intro v5 v6 v7 v8 v9 v10 M N r' H locs ls cells slots h hP hQ hS hc hs hl kk
    unfold fL_law_R271 at h
    refine lv_aload hx hb dL_law_271 (lv_at hl 4 rfl) ?_
    refine lv_iconst (v := 3) hx hb dL_law_273 (by decide) ?_
    refine alH2 S5 hK hQ (v := N 2 3) (by decide) rfl dL_law_274 ?_
    refine lv_if_ne (tgt := 661) hx hb dL_law_275 (by decide) (fun c38 => ?_) (fun c38 => ?_)
    · rw [if_neg c38] at h
      obtain ⟨q39, hqq39, h⟩ := obind_some h
      refine R661 _ _ _ _ _ _ _ _ _ _ _ _ hqq39 hP hQ hS (by omega) (by omega) (lv_sub hl [0, 1, 2, 3, 4, 5, 7, 8, 10] rfl) (fun H locs hP hQ hS ls hl => ?_)
      have hl := lv_sub (l' := [(0, .ref b), (1, .ref (ad 8)), (2, .ref (ah 0)), (3, .ref (ah 1)), (4, .ref (ah 2)), (5, .int v5), (6, .int q39.1), (7, .int v7)]) hl [0, 1, 2, 3, 4, 5, 6, 7] rfl
      obtain rfl := Option.some.inj h
      refine W.widen (k := cells + 41) (n := slots + 246) (by omega) (by omega) ?_
      exact kk _ _ hP hQ hS _ (lv_sub hl [0, 1, 2, 3, 4, 5, 6, 7] rfl)
    · rw [if_pos c38] at h
      obtain ⟨q40, hqq40, h⟩ := obind_some h
      refine R278 _ _ _ _ _ _ _ _ _ _ _ _ _ hqq40 hP hQ hS (by omega) (by omega) (lv_sub hl [0, 1, 2, 3, 4, 5, 6, 7, 8, 9] rfl) (fun H locs hP hQ hS ls hl => ?_)
      have hl := lv_sub (l' := [(0, .ref b), (1, .ref (ad 8)), (2, .ref (ah 0)), (3, .ref (ah 1)), (4, .ref (ah 2)), (5, .int v5), (6, .int q40.1), (7, .int v7), (8, .int v8)]) hl [0, 1, 2, 3, 4, 5, 6, 7, 8] rfl
      obtain ⟨q41, hqq41, h⟩ := obind_some h
      refine R537 _ _ _ _ _ _ _ _ _ _ _ _ hqq41 hP hQ hS (by omega) (by omega) (lv_sub hl [0, 1, 2, 3, 4, 5, 6, 7, 8] rfl) (fun ls hl => ?_)
      have hl := lv_sub (l' := [(0, .ref b), (1, .ref (ad 8)), (2, .ref (ah 0)), (3, .ref (ah 1)), (4, .ref (ah 2)), (5, .int v5), (6, .int q40.1), (7, .int v7), (8, .int v8), (12, .int q41.1), (13, .int q41.2)]) hl [0, 1, 2, 3, 4, 5, 6, 7, 8, 9, 10] rfl
      obtain ⟨q42, hqq42, h⟩ := obind_some h
      refine R590 _ _ _ _ _ _ _ _ _ _ _ _ _ _ hqq42 hP hQ hS (by omega) (by omega) (lv_sub hl [0, 1, 2, 3, 4, 5, 6, 7, 8, 9, 10] rfl) (fun H locs hP hQ hS ls hl => ?_)
      have hl := lv_sub (l' := [(0, .ref b), (1, .ref (ad 8)), (2, .ref (ah 0)), (3, .ref (ah 1)), (4, .ref (ah 2)), (5, .int v5), (6, .int q42.1), (7, .int v7), (8, .int v8), (13, .int q41.2)]) hl [0, 1, 2, 3, 4, 5, 6, 7, 8, 9] rfl
      obtain ⟨q43, hqq43, h⟩ := obind_some h
      refine R627 _ _ _ _ _ _ _ _ _ _ _ _ _ hqq43 hP hQ hS (by omega) (by omega) (lv_sub hl [0, 1, 2, 3, 4, 5, 6, 7, 8, 9] rfl) (fun H locs hP hQ hS ls hl => ?_)
      have hl := lv_sub (l' := [(0, .ref b), (1, .ref (ad 8)), (2, .ref (ah 0)), (3, .ref (ah 1)), (4, .ref (ah 2)), (5, .int v5), (6, .int q42.1), (7, .int v7)]) hl [0, 1, 2, 3, 4, 5, 6, 7] rfl
      obtain rfl := Option.some.inj h
      refine W.widen (k := cells + 41) (n := slots + 246) (by omega) (by omega) ?_
      exact kk _ _ hP hQ hS _ (lv_sub hl [0, 1, 2, 3, 4, 5, 6, 7] rfl)
  have R182 : ∀ (v5 : Int32) (v6 : Int32) (v7 : Int32) (v8 : Int32) (v9 : Int32) (v10 : Int32) (M N : Mem) (r' : Int32 × Mem × Mem) (H : Heap) (locs : List Loc) (ls : Array Slot) (cells slots : Nat), fL_law_R182 xs L v5 v6 v7 v8 v9 v10 M N = some r' → va_P D vwCl (wX cA ad M) H → va_P D vwCl (wH cA ah N) H → va_S (A0 s) s.heap H locs → cells + 41 ≤ room_1.cells → slots + 246 ≤ room_1.slots → lv_has ls 17 [(0, .ref b), (1, .ref (ad 8)), (2, .ref (ah 0)), (3, .ref (ah 1)), (4, .ref (ah 2)), (5, .int v5), (6, .int v6), (7, .int v7), (8, .int v8), (9, .int v9), (10, .int v10)] → (∀ (H : Heap) (locs : List Loc), va_P D vwCl (wX cA ad (r'.2.1)) H → va_P D vwCl (wH cA ah (r'.2.2)) H → va_S (A0 s) s.heap H locs → ∀ (ls : Array Slot), lv_has ls 17 [(0, .ref b), (1, .ref (ad 8)), (2, .ref (ah 0)), (3, .ref (ah 1)), (4, .ref (ah 2)), (5, .int v5), (6, .int (r'.1)), (7, .int v7)] → W p l e room_1 s m #[Value.ref b] below meth c H locs (cells + 41) (slots + 246) (lw_Z below #[Value.ref b] s) (F0 m 937 ls [])) → W p l e room_1 s m #[Value.ref b] below meth c H locs cells slots (lw_Z below #[Value.ref b] s) (F0 m 182 ls []) := by
    intro v5 v6 v7 v8 v9 v10 M N r' H locs ls cells slots h hP hQ hS hc hs hl kk
    unfold fL_law_R182 at h
    refine lv_iload hx hb dL_law_182 (lv_at hl 7 rfl) ?_
    refine lv_if_eq (tgt := 199) hx hb dL_law_184 (by decide) (fun c24 => ?_) (fun c24 => ?_)
    · rw [if_pos c24] at h
      obtain ⟨q25, hqq25, h⟩ := obind_some h
      refine R199 _ _ _ _ _ _ _ _ _ _ _ hqq25 hP hQ hS (by omega) (by omega) (lv_sub hl [0, 1, 2, 3, 4, 5, 7, 8] rfl) (fun H locs hP hQ hS ls hl => ?_)
      have hl := lv_sub (l' := [(0, .ref b), (1, .ref (ad 8)), (2, .ref (ah 0)), (3, .ref (ah 1)), (4, .ref (ah 2)), (5, .int v5), (6, .int q25.1), (7, .int v7)]) hl [0, 1, 2, 3, 4, 5, 6, 7] rfl
      obtain rfl := Option.some.inj h
      refine W.widen (k := cells + 41) (n := slots + 246) (by omega) (by omega) ?_
      exact kk _ _ hP hQ hS _ (lv_sub hl [0, 1, 2, 3, 4, 5, 6, 7] rfl)
    · rw [if_neg c24] at h
      refine lv_iload hx hb dL_law_187 (lv_at hl 10 rfl) ?_
      refine lv_if_eq (tgt := 271) hx hb dL_law_189 (by decide) (fun c26 => ?_) (fun c26 => ?_)
      · rw [if_pos c26] at h
        obtain ⟨q27, hqq27, h⟩ := obind_some h
        refine R271 _ _ _ _ _ _ _ _ _ _ _ _ _ _ hqq27 hP hQ hS (by omega) (by omega) (lv_sub hl [0, 1, 2, 3, 4, 5, 6, 7, 8, 9, 10] rfl) (fun H locs hP hQ hS ls hl => ?_)
        have hl := lv_sub (l' := [(0, .ref b), (1, .ref (ad 8)), (2, .ref (ah 0)), (3, .ref (ah 1)), (4, .ref (ah 2)), (5, .int v5), (6, .int q27.1), (7, .int v7)]) hl [0, 1, 2, 3, 4, 5, 6, 7] rfl
        obtain rfl := Option.some.inj h
        refine W.widen (k := cells + 41) (n := slots + 246) (by omega) (by omega) ?_
        exact kk _ _ hP hQ hS _ (lv_sub hl [0, 1, 2, 3, 4, 5, 6, 7] rfl)
      · rw [if_neg c26] at h
        refine lv_iload hx hb dL_law_192 (lv_at hl 8 rfl) ?_
        refine lv_iconst (v := 4) hx hb dL_law_194 (by decide) ?_
        refine r_irem S5 dL_law_195 (by decide) ?_
        refine lv_if_ne (tgt := 271) hx hb dL_law_196 (by decide) (fun c28 => ?_) (fun c28 => ?_)
        · rw [if_neg c28] at h
          obtain ⟨q29, hqq29, h⟩ := obind_some h
          refine R271 _ _ _ _ _ _ _ _ _ _ _ _ _ _ hqq29 hP hQ hS (by omega) (by omega) (lv_sub hl [0, 1, 2, 3, 4, 5, 6, 7, 8, 9, 10] rfl) (fun H locs hP hQ hS ls hl => ?_)
          have hl := lv_sub (l' := [(0, .ref b), (1, .ref (ad 8)), (2, .ref (ah 0)), (3, .ref (ah 1)), (4, .ref (ah 2)), (5, .int v5), (6, .int q29.1), (7, .int v7)]) hl [0, 1, 2, 3, 4, 5, 6, 7] rfl
          obtain rfl := Option.some.inj h
          refine W.widen (k := cells + 41) (n := slots + 246) (by omega) (by omega) ?_
          exact kk _ _ hP hQ hS _ (lv_sub hl [0, 1, 2, 3, 4, 5, 6, 7] rfl)
        · rw [if_pos c28] at h
          obtain ⟨q30, hqq30, h⟩ := obind_some h
          refine R199 _ _ _ _ _ _ _ _ _ _ _ hqq30 hP hQ hS (by omega) (by omega) (lv_sub hl [0, 1, 2, 3, 4, 5, 7, 8] rfl) (fun H locs hP hQ hS ls hl => ?_)
          have hl := lv_sub (l' := [(0, .ref b), (1, .ref (ad 8)), (2, .ref (ah 0)), (3, .ref (ah 1)), (4, .ref (ah 2)), (5, .int v5), (6, .int q30.1), (7, .int v7)]) hl [0, 1, 2, 3, 4, 5, 6, 7] rfl
          obtain rfl := Option.some.inj h
          refine W.widen (k := cells + 41) (n := slots + 246) (by omega) (by omega) ?_
          exact kk _ _ hP hQ hS _ (lv_sub hl [0, 1, 2, 3, 4, 5, 6, 7] rfl)
  have L93 : ∀ (n : Nat) (v5 : Int32) (v6 : Int32) (v7 : Int32) (M N : Mem) (r' : Int32 × Mem × Mem) (H : Heap) (locs : List Loc) (ls : Array Slot) (cells slots : Nat), fL_law_L93 xs L n v5 v6 v7 M N = some r' → va_P D vwCl (wX cA ad M) H → va_P D vwCl (wH cA ah N) H → va_S (A0 s) s.heap H locs → cells + n * 369 ≤ room_1.cells → slots + n * 2711 ≤ room_1.slots → lv_has ls 17 [(0, .ref b), (1, .ref (ad 8)), (2, .ref (ah 0)), (3, .ref (ah 1)), (4, .ref (ah 2)), (5, .int v5), (6, .int v6), (7, .int v7)] → (∀ (H : Heap) (locs : List Loc), va_P D vwCl (wX cA ad (r'.2.1)) H → va_P D vwCl (wH cA ah (r'.2.2)) H → va_S (A0 s) s.heap H locs → ∀ (ls : Array Slot), lv_has ls 17 [(6, .int (r'.1))] → W p l e room_1 s m #[Value.ref b] below meth c H locs (cells + n * 369) (slots + n * 2711) (lw_Z below #[Value.ref b] s) (F0 m 977 ls [])) → W p l e room_1 s m #[Value.ref b] below meth c H locs cells slots (lw_Z below #[Value.ref b] s) (F0 m 93 ls []) := by
    intro n
    induction n with
    | zero => intro v5 v6 v7 M N r' H locs ls cells slots h hP hQ hS hc hs hl kk; rw [fL_law_L93.eq_1] at h; cases h
    | succ n ih =>
      intro v5 v6 v7 M N r' H locs ls cells slots h hP hQ hS hc hs hl kk
      rw [fL_law_L93.eq_2] at h
      refine lv_iload hx hb dL_law_93 (lv_at hl 7 rfl) ?_
      refine lv_bipush (v := 60) hx hb dL_law_95 (by decide) ?_
      refine lv_icmp_ge (tgt := 977) hx hb dL_law_97 (by decide) (fun c14 => ?_) (fun c14 => ?_)
      · rw [if_pos c14] at h
        obtain rfl := Option.some.inj h
        refine W.widen (k := cells + (n + 1) * 369) (n := slots + (n + 1) * 2711) (by omega) (by omega) ?_
        exact kk _ _ hP hQ hS _ (lv_sub hl [6] rfl)
      · rw [if_neg c14] at h
        refine lv_iload hx hb dL_law_100 (lv_at hl 6 rfl) ?_
        refine lv_if_eq (tgt := 977) hx hb dL_law_102 (by decide) (fun c15 => ?_) (fun c15 => ?_)
        · rw [if_pos c15] at h
          obtain rfl := Option.some.inj h
          refine W.widen (k := cells + (n + 1) * 369) (n := slots + (n + 1) * 2711) (by omega) (by omega) ?_
          exact kk _ _ hP hQ hS _ (lv_sub hl [6] rfl)
        · rw [if_neg c15] at h
          obtain ⟨q16, hqq16, h⟩ := obind_some h
          refine R105 _ _ _ _ _ _ _ _ _ _ _ hqq16 hP hQ hS (by omega) (by omega) (lv_sub hl [0, 1, 2, 3, 4, 5, 6, 7] rfl) (fun ls hl => ?_)
          have hl := lv_sub (l' := [(0, .ref b), (1, .ref (ad 8)), (2, .ref (ah 0)), (3, .ref (ah 1)), (4, .ref (ah 2)), (5, .int v5), (6, .int v6), (7, .int v7), (8, .int q16)]) hl [0, 1, 2, 3, 4, 5, 6, 7, 8] rfl
          obtain ⟨q17, hqq17, h⟩ := obind_some h
          refine R145 _ _ _ _ _ _ _ _ _ _ _ _ hqq17 hP hQ hS (by omega) (by omega) (lv_sub hl [0, 1, 2, 3, 4, 5, 6, 7, 8] rfl) (fun ls hl => ?_)
          have hl := lv_sub (l' := [(0, .ref b), (1, .ref (ad 8)), (2, .ref (ah 0)), (3, .ref (ah 1)), (4, .ref (ah 2)), (5, .int v5), (6, .int v6), (7, .int v7), (8, .int q16), (9, .int q17.1), (10, .int q17.2)]) hl [0, 1, 2, 3, 4, 5, 6, 7, 8, 9, 10] rfl
          obtain ⟨q18, hqq18, h⟩ := obind_some h
          refine R182 _ _ _ _ _ _ _ _ _ _ _ _ _ _ hqq18 hP hQ hS (by omega) (by omega) (lv_sub hl [0, 1, 2, 3, 4, 5, 6, 7, 8, 9, 10] rfl) (fun H locs hP hQ hS ls hl => ?_)
          have hl := lv_sub (l' := [(0, .ref b), (1, .ref (ad 8)), (2, .ref (ah 0)), (3, .ref (ah 1)), (4, .ref (ah 2)), (5, .int v5), (6, .int q18.1), (7, .int v7)]) hl [0, 1, 2, 3, 4, 5, 6, 7] rfl
          obtain ⟨q19, hqq19, h⟩ := obind_some h
          refine R937 _ _ _ _ _ _ _ _ _ _ _ hqq19 hP hQ hS (by omega) (by omega) (lv_sub hl [0, 1, 2, 3, 4, 5, 6, 7] rfl) (fun H locs hP hQ hS ls hl => ?_)
          have hl := lv_sub (l' := [(0, .ref b), (1, .ref (ad 8)), (2, .ref (ah 0)), (3, .ref (ah 1)), (4, .ref (ah 2)), (5, .int v5), (6, .int q19.1), (7, .int v7)]) hl [0, 1, 2, 3, 4, 5, 6, 7] rfl
          refine lv_iinc (v := v7 + 1) (lv' := [(7, .int (v7 + 1)), (0, .ref b), (1, .ref (ad 8)), (2, .ref (ah 0)), (3, .ref (ah 1)), (4, .ref (ah 2)), (5, .int v5), (6, .int q19.1)]) hx hb dL_law_971 hl (k := 7) rfl rfl (by decide) rfl (fun ls hl => ?_)
          refine lv_goto (tgt := 93) hx hb dL_law_974 (by decide) ?_
          refine W.widen (k := cells + 369) (n := slots + 2711) (by omega) (by omega) ?_
          exact ih _ _ _ _ _ _ _ _ _ _ _ h hP hQ hS (by omega) (by omega) (lv_sub hl [1, 2, 3, 4, 5, 6, 7, 0] rfl) (fun H locs hP hQ hS ls hl => W.widen (k := cells + (n + 1) * 369) (n := slots + (n + 1) * 2711) (by omega) (by omega) (kk H locs hP hQ hS ls hl))
  obtain ⟨q1, hqq1, h⟩ := obind_some h
  refine R27 _ _ _ _ _ _ _ _ hqq1 hP hQ hS (by omega) (by omega) (lv_sub hl [0, 1, 2, 3, 4] rfl) (fun ls hl => ?_)
  have hl := lv_sub (l' := [(0, .ref b), (1, .ref (ad 8)), (2, .ref (ah 0)), (3, .ref (ah 1)), (4, .ref (ah 2)), (5, .int q1)]) hl [0, 1, 2, 3, 4, 5] rfl
  obtain ⟨q2, hqq2, h⟩ := obind_some h
  refine R61 _ _ _ _ _ _ _ _ _ hqq2 hP hQ hS (by omega) (by omega) (lv_sub hl [0, 1, 2, 3, 4, 5] rfl) (fun H locs hP hQ hS ls hl => ?_)
  have hl := lv_sub (l' := [(0, .ref b), (1, .ref (ad 8)), (2, .ref (ah 0)), (3, .ref (ah 1)), (4, .ref (ah 2)), (5, .int q1), (6, .int q2.1)]) hl [0, 1, 2, 3, 4, 5, 6] rfl
  refine lv_iconst (v := 0) hx hb dL_law_90 (by decide) ?_
  refine lv_istore (lv' := [(7, .int 0), (0, .ref b), (1, .ref (ad 8)), (2, .ref (ah 0)), (3, .ref (ah 1)), (4, .ref (ah 2)), (5, .int q1), (6, .int q2.1)]) hx hb dL_law_91 hl (by decide) rfl (fun ls hl => ?_)
  obtain ⟨q3, hqq3, h⟩ := obind_some h
  refine L93 _ _ _ _ _ _ _ _ _ _ _ _ hqq3 hP hQ hS (by omega) (by omega) (lv_sub hl [1, 2, 3, 4, 5, 6, 7, 0] rfl) (fun H locs hP hQ hS ls hl => ?_)
  have hl := lv_sub (l' := [(6, .int q3.1)]) hl [0] rfl
  refine lv_iload hx hb dL_law_977 (lv_at hl 0 rfl) ?_
  have e1 := Option.some.inj h
  refine l_top e1 ?_
  exact kend _ _ _ hS (by omega) (by omega)
