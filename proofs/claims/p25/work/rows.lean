section
-- ===== PART A: goes FIRST, ahead of the names: the tables' words, and 'selects' of the private methods out of them =====
/-- a private method of a class that the tables say can be made, by its rows of tables_1 -/
def lw_okq (q : MethodName × Nat) : Prop := (q.1.cls ≠ "java/lang/invoke/MethodHandle" ∧ q.1.cls ≠ "java/lang/invoke/VarHandle") ∧ Cond.instantiable q.1.cls q.2 ∈ tables_1 ∧ Cond.privateMethod q.1 ∈ tables_1 ∧ Cond.instanceMethod q.1 ∈ tables_1
theorem lw_p0 : lw_okq (⟨"java/lang/Throwable", "fillInStackTrace", "(I)Ljava/lang/Throwable;"⟩, 6) := ⟨⟨by decide +kernel, by decide +kernel⟩, List.mem_of_getElem? (i := 141) (by decide +kernel), List.mem_of_getElem? (i := 139) (by decide +kernel), List.mem_of_getElem? (i := 140) (by decide +kernel)⟩
theorem lw_p1 : lw_okq (⟨"OpenTricks$Game", "addTo", "(II)V"⟩, 8) := ⟨⟨by decide +kernel, by decide +kernel⟩, List.mem_of_getElem? (i := 24) (by decide +kernel), List.mem_of_getElem? (i := 240) (by decide +kernel), List.mem_of_getElem? (i := 241) (by decide +kernel)⟩
theorem lw_p2 : lw_okq (⟨"OpenTricks", "needPlayable", "(I)V"⟩, 3) := ⟨⟨by decide +kernel, by decide +kernel⟩, List.mem_of_getElem? (i := 16) (by decide +kernel), List.mem_of_getElem? (i := 269) (by decide +kernel), List.mem_of_getElem? (i := 270) (by decide +kernel)⟩
theorem lw_p3 : lw_okq (⟨"OpenTricks$Game", "tricksOver", "()I"⟩, 8) := ⟨⟨by decide +kernel, by decide +kernel⟩, List.mem_of_getElem? (i := 24) (by decide +kernel), List.mem_of_getElem? (i := 285) (by decide +kernel), List.mem_of_getElem? (i := 286) (by decide +kernel)⟩
theorem lw_p4 : lw_okq (⟨"OpenTricks$Game", "leaderOf", "(I)I"⟩, 8) := ⟨⟨by decide +kernel, by decide +kernel⟩, List.mem_of_getElem? (i := 24) (by decide +kernel), List.mem_of_getElem? (i := 289) (by decide +kernel), List.mem_of_getElem? (i := 290) (by decide +kernel)⟩
theorem lw_p5 : lw_okq (⟨"OpenTricks$Game", "laidAt", "(I)I"⟩, 8) := ⟨⟨by decide +kernel, by decide +kernel⟩, List.mem_of_getElem? (i := 24) (by decide +kernel), List.mem_of_getElem? (i := 301) (by decide +kernel), List.mem_of_getElem? (i := 302) (by decide +kernel)⟩
theorem lw_p6 : lw_okq (⟨"OpenTricks$Game", "dropFrom", "(II)V"⟩, 8) := ⟨⟨by decide +kernel, by decide +kernel⟩, List.mem_of_getElem? (i := 24) (by decide +kernel), List.mem_of_getElem? (i := 317) (by decide +kernel), List.mem_of_getElem? (i := 318) (by decide +kernel)⟩
theorem lw_p7 : lw_okq (⟨"OpenTricks$Game", "endTrick", "()I"⟩, 8) := ⟨⟨by decide +kernel, by decide +kernel⟩, List.mem_of_getElem? (i := 24) (by decide +kernel), List.mem_of_getElem? (i := 321) (by decide +kernel), List.mem_of_getElem? (i := 322) (by decide +kernel)⟩
theorem lw_p8 : lw_okq (⟨"OpenTricks$Game", "beats", "(II)Z"⟩, 8) := ⟨⟨by decide +kernel, by decide +kernel⟩, List.mem_of_getElem? (i := 24) (by decide +kernel), List.mem_of_getElem? (i := 325) (by decide +kernel), List.mem_of_getElem? (i := 326) (by decide +kernel)⟩
theorem lw_p9 : lw_okq (⟨"OpenTricks", "needStarted", "()V"⟩, 3) := ⟨⟨by decide +kernel, by decide +kernel⟩, List.mem_of_getElem? (i := 16) (by decide +kernel), List.mem_of_getElem? (i := 346) (by decide +kernel), List.mem_of_getElem? (i := 347) (by decide +kernel)⟩
theorem lw_p10 : lw_okq (⟨"OpenTricks$Solver", "search", "(III)I"⟩, 2) := ⟨⟨by decide +kernel, by decide +kernel⟩, List.mem_of_getElem? (i := 56) (by decide +kernel), List.mem_of_getElem? (i := 364) (by decide +kernel), List.mem_of_getElem? (i := 365) (by decide +kernel)⟩
theorem lw_p11 : lw_okq (⟨"OpenTricks$Solver", "tryPlays", "(III)I"⟩, 2) := ⟨⟨by decide +kernel, by decide +kernel⟩, List.mem_of_getElem? (i := 56) (by decide +kernel), List.mem_of_getElem? (i := 369) (by decide +kernel), List.mem_of_getElem? (i := 370) (by decide +kernel)⟩
theorem lw_p12 : lw_okq (⟨"OpenTricks$Kept", "entryOf", "(I)I"⟩, 1) := ⟨⟨by decide +kernel, by decide +kernel⟩, List.mem_of_getElem? (i := 62) (by decide +kernel), List.mem_of_getElem? (i := 431) (by decide +kernel), List.mem_of_getElem? (i := 432) (by decide +kernel)⟩
theorem lw_p13 : lw_okq (⟨"OpenTricks", "needInHand", "(I)V"⟩, 3) := ⟨⟨by decide +kernel, by decide +kernel⟩, List.mem_of_getElem? (i := 16) (by decide +kernel), List.mem_of_getElem? (i := 481) (by decide +kernel), List.mem_of_getElem? (i := 482) (by decide +kernel)⟩
def lw_privs_1 : List (MethodName × Nat) := [(⟨"java/lang/Throwable", "fillInStackTrace", "(I)Ljava/lang/Throwable;"⟩, 6), (⟨"OpenTricks$Game", "addTo", "(II)V"⟩, 8), (⟨"OpenTricks", "needPlayable", "(I)V"⟩, 3), (⟨"OpenTricks$Game", "tricksOver", "()I"⟩, 8), (⟨"OpenTricks$Game", "leaderOf", "(I)I"⟩, 8), (⟨"OpenTricks$Game", "laidAt", "(I)I"⟩, 8), (⟨"OpenTricks$Game", "dropFrom", "(II)V"⟩, 8), (⟨"OpenTricks$Game", "endTrick", "()I"⟩, 8), (⟨"OpenTricks$Game", "beats", "(II)Z"⟩, 8), (⟨"OpenTricks", "needStarted", "()V"⟩, 3), (⟨"OpenTricks$Solver", "search", "(III)I"⟩, 2), (⟨"OpenTricks$Solver", "tryPlays", "(III)I"⟩, 2), (⟨"OpenTricks$Kept", "entryOf", "(I)I"⟩, 1), (⟨"OpenTricks", "needInHand", "(I)V"⟩, 3)]
theorem lw_r1 : ∀ q ∈ lw_privs_1, lw_okq q := List.forall_mem_cons.mpr ⟨lw_p0, List.forall_mem_cons.mpr ⟨lw_p1, List.forall_mem_cons.mpr ⟨lw_p2, List.forall_mem_cons.mpr ⟨lw_p3, List.forall_mem_cons.mpr ⟨lw_p4, List.forall_mem_cons.mpr ⟨lw_p5, List.forall_mem_cons.mpr ⟨lw_p6, List.forall_mem_cons.mpr ⟨lw_p7, List.forall_mem_cons.mpr ⟨lw_p8, List.forall_mem_cons.mpr ⟨lw_p9, List.forall_mem_cons.mpr ⟨lw_p10, List.forall_mem_cons.mpr ⟨lw_p11, List.forall_mem_cons.mpr ⟨lw_p12, List.forall_mem_cons.mpr ⟨lw_p13, fun _ h => absurd h List.not_mem_nil⟩⟩⟩⟩⟩⟩⟩⟩⟩⟩⟩⟩⟩⟩
def lw_privs : List (MethodName × Nat) := lw_privs_1
def lw_tbl : List Cond := k2_sels lw_privs ++ tables_1
theorem lw_privs_ok : ∀ q ∈ lw_privs, lw_okq q := lw_r1
end
section
/-! ===== BEGIN words of one list among another's, by their places ===== -/
theorem goodIn_r {big : List Cond} (ws : List Cond) (ps : List Nat) (hp : ws = ps.filterMap (fun i => big[i]?)) (h : ws.all goodWord = true) : GoodIn big ws := by
  intro w hw
  have h1 := List.all_eq_true.mp h w hw
  rw [hp] at hw
  obtain ⟨i, -, hi⟩ := List.mem_filterMap.mp hw
  have hm : w ∈ big := by first | exact List.mem_of_getElem? hi | exact List.getElem?_mem hi
  exact ⟨hm, good_of_word h1⟩
theorem goodIn_app {big a b : List Cond} (ha : GoodIn big a) (hb : GoodIn big b) : GoodIn big (a ++ b) := fun w h => (List.mem_append.mp h).elim (ha w) (hb w)
theorem goodIn_ca {big a b : List Cond} {c : Cond} (ha : GoodIn big (c :: a)) (hb : GoodIn big b) : GoodIn big (c :: (a ++ b)) := fun w h => (List.mem_cons.mp h).elim (fun e => ha w (List.mem_cons.mpr (Or.inl e))) (fun h => (List.mem_append.mp h).elim (fun h => ha w (List.mem_cons.mpr (Or.inr h))) (hb w))
theorem goodIn_sub {big ws : List Cond} (hm : ∀ w ∈ ws, w ∈ big) (h : ws.all goodWord = true) : GoodIn big ws := fun w hw => ⟨hm w hw, good_of_word (List.all_eq_true.mp h w hw)⟩
/-! ===== END ===== -/

/-! ===== BEGIN exceptions that leave a method, and their catching by the caller (launches without stack traces) ===== -/
section VXA
/-! The laws vx_back, vx_callV, vx_callS, vx_callSW, vx_throw0, vx_throwS follow proofs of the library, with one case more: JvmDerived/Free/Laws.lean (Back.of_free), Shelf42/LK1.lean (callV, callS), Shelf/KitTraced.lean (throwNew0V, throwNewS). -/
/-- where a method has thrown q: the class by its name, the cell, what was written, the world -/
def vx_T (XC : String → State → State → Prop) (st : State) (q : Addr) (t : State) (mc ms : Nat) (free : Addr → Prop) : Prop :=
  ∃ (E : String) (ce : Cell) (L : List Loc), XC E st t ∧ t.heap[q]? = some ce ∧ ce.vm = .none ∧ st.vm.findClass E = some ce.cls ∧ st.WarmedH t.vm ∧ st.sameButNew ({ t with vm := st.vm } : State) L mc ms ∧ ∀ z ∈ L, free z.base
def vx_Q (Qc : Array Value → State → Outcome → State → Prop) (XC : String → State → State → Prop) (mc ms : Nat) (free : Addr → Prop) : Array Value → State → Outcome → State → Prop := fun a st o t =>
  (Qc a st o t ∧ ∃ L, FrameEnd st o t L mc ms ∧ ∀ q ∈ L, free q.base) ∨ ∃ q, o = .threw q ∧ vx_T XC st q t mc ms free
/-- a callee that returns or throws -/
def vx_Met (l : Launch) (y : MethodName) (ws : List Cond) (rm : Room) (Pc : Array Value → State → Prop) (Qc : Array Value → State → Outcome → State → Prop) (XC : String → State → State → Prop) (mc ms : Nat) (free : Addr → Prop) : Prop :=
  MetFree l y (headSpec ws rm) Pc (fun _ _ _ _ _ => True) (vx_Q Qc XC mc ms free)
def vx_Post (XC : String → State → State → Prop) (mc ms : Nat) (free : Addr → Prop) : Pt → Array Value → Addr → Pt → Prop := fun A a q B =>
  ∃ (g : JFrame) (mk : MethodId) (t : State) (L : List Loc) (E : String) (ce : Cell), B.U.heap = t.heap ∧ B.U.vm = t.vm ∧ XC E (A.U.calling g mk a) t ∧ t.heap[q]? = some ce ∧ ce.vm = .none ∧ A.U.vm.findClass E = some ce.cls ∧ B.locs = A.locs ++ L ∧ (∀ z ∈ L, free z.base) ∧ B.cells = A.cells + mc ∧ B.slots = A.slots + ms
def vx_Back (l : Launch) (R : Room) (p : Program) (e : Env) (below : List Frame) (s : State) (sargs : Array Value) (y : MethodName) (len W9 : Nat)
    (Pre : Pt → Array Value → Prop) (Post : Pt → Array Value → Option Value → Pt → Prop) (PostX : Pt → Array Value → Addr → Pt → Prop) : Prop :=
  ∀ (m : MethodId) (meth : Method) (c : Code) (A : Pt) (g : JFrame) (ig : Instr) (mk : MethodId) (a : Array Value),
    Stand p l e R s m sargs below meth c A.U A.locs A.cells A.slots → g.method = m → g.locals.size = c.maxLocals → decode c.code g.pc = .ok (ig, len) →
    2 * g.monitorRoom + (g.stack.map fun v => v.category).sum ≤ W9 → A.U.methodNamed? y = some mk → Pre A a →
    (∃ (v : Option Value) (B : Pt), Stand p l e R s m sargs below meth c B.U B.locs B.cells B.slots ∧ Post A a v B ∧
      Steps p.tables e below (doInvoke e (A.U.setTop g) [] mk a).1 (B.U.setTop { g with pc := g.pc + len, stack := v.toList ++ g.stack })) ∨
    (∃ (q : Addr) (B : Pt), Stand p l e R s m sargs below meth c B.U B.locs B.cells B.slots ∧ PostX A a q B ∧
      Steps p.tables e below (doInvoke e (A.U.setTop g) [] mk a).1 ((B.U.setTop g).pushFrame (.throwing q)))
section Payer
variable {l : Launch} {R : Room} {p : Program} {e : Env} {below : List Frame} {s : State} {sargs : Array Value} {y : MethodName} {len W9 : Nat}
theorem vx_back {ws : List Cond} {rm : Room} {Pc : Array Value → State → Prop} {Qc : Array Value → State → Outcome → State → Prop} {XC : String → State → State → Prop} {mc ms : Nat} {free : Addr → Prop} {bytes : ByteArray} {maxL : Nat} {ret : Option FieldType}
    (hM : vx_Met l y ws rm Pc Qc XC mc ms free) (hblind : FrameBlind Pc) (hrc : rm.cells = mc) (hrs : rm.slots = ms)
    (hframes : rm.frames + 1 ≤ R.frames) (hlocals : W9 + (maxL + 11) + rm.locals ≤ R.locals)
    (hws : ∀ w ∈ ws, ∀ a' U, s.WarmedH U.vm → w.before a' U = true) (hcode : Cond.code y bytes maxL ret ∈ ws) (hinit : ∀ a' U, s.WarmedH U.vm → (Cond.initialized y.cls).before a' U = true) :
    vx_Back l R p e below s sargs y len W9 (PreOf R mc ms Pc) (PostOf Qc mc ms free) (vx_Post XC mc ms free) := by
  intro m meth c A g ig mk a X hg hsize hdg hW hn hp
  have h1 : (headSpec ws rm).pre.before a A.U = true := atoms_intro fun w hw => hws w hw _ _ X.warmed
  have h2 : (Cond.code y bytes maxL ret).before a A.U = true := hws _ hcode _ _ X.warmed
  have h3 : (Cond.initialized y.cls).before a A.U = true := hinit _ _ X.warmed
  have h4 : A.cells + (headSpec ws rm).room.cells ≤ R.cells := by rw [show (headSpec ws rm).room.cells = mc from hrc]; exact hp.1
  have h5 : A.slots + (headSpec ws rm).room.slots ≤ R.slots := by rw [show (headSpec ws rm).room.slots = ms from hrs]; exact hp.2.1
  have hPc : Pc a (A.U.calling g mk a) := hblind _ _ _ _ hp.2.2
  obtain ⟨U, Ls, c0, s0⟩ := A
  dsimp only [Pt.U, Pt.locs, Pt.cells, Pt.slots] at h1 h2 h3 h4 h5 X hn hPc ⊢
  obtain ⟨methY, cY, hmY, hcY, -, hlY, -, -, -, -⟩ := Cond.code_spec hn h2
  obtain ⟨kY, hkY, -⟩ := className_of_methodNamed hn
  have hinitY : kY.init = .initialized := Cond.initialized_spec (findClass_of_methodNamed hn) hkY h3
  have h : At U g.method c below := by rw [hg]; exact X.here
  have hlocals9 : W9 + (maxL + 11) + (headSpec ws rm).room.locals ≤ R.locals := hlocals
  have happ : (headSpec ws rm).appliesLoose y e.platform (U.calling g mk a) = true :=
    Spec.appliesLoose_calling (g := g) h hdg hn hkY hinitY
      (X.room_calling (g := g) (R' := (headSpec ws rm).room) hsize hmY hcY hframes (by rw [hlY]; omega) h4 h5) h1
  obtain ⟨mid, hmid⟩ := h.above
  have hfr : (U.setTop g).frames = (.java g :: mid) ++ below := by rw [State.frames_setTop' g h.top, hmid]; rfl
  obtain ⟨o, s₂, hsteps, -, hend, hq⟩ := Steps.callFree hM p X.admits X.cas X.clock (acts := []) hfr happ hPc trivial
  have hq' : vx_Q Qc XC mc ms free a (U.calling g mk a) o s₂ := hq
  rw [State.frames_setTop' g h.top] at hend
  obtain ⟨g₀, hg0⟩ := Option.isSome_iff_exists.mp h.top
  obtain ⟨r, hr⟩ := State.topJava?_eq_some.mp hg0
  have hr' : (({ U with heap := s₂.heap, slotsUsed := s₂.slotsUsed } : State).setVm s₂.vm).frames = .java g₀ :: r := hr
  rcases hq' with ⟨hqc, L, hfe, hL⟩ | ⟨q, rfl, E, ce, L, hx, hce, hcv, hcl, hW₂, hsm, hL⟩
  · obtain ⟨⟨v, rfl⟩, hW₂, e2, q2, q3, q4, q5, q6⟩ := id hfe
    have e3 : s₂ = ({ (U.calling g mk a).setFrames s₂.frames with heap := s₂.heap, slotsUsed := s₂.slotsUsed } : State).setVm s₂.vm := by
      have : s₂ = ({ s₂ with vm := (U.calling g mk a).vm } : State).setVm s₂.vm := rfl
      rw [e2] at this
      exact this
    obtain ⟨c₂, i₂, len₂, hc₂, hd₂, hf₂⟩ := hend
    have hW' : U.WarmedH s₂.vm := hW₂
    have hcc : c₂ = c := by
      have h1 : s₂.code? g.method = U.code? g.method := by
        rw [State.code?_eq, State.code?_eq, hW'.alike.method?]
      exact Option.some.inj (hc₂.symm.trans (h1.trans h.code))
    subst hcc
    have hlen : len₂ = len := by rw [hdg] at hd₂; cases hd₂; rfl
    subst hlen
    have hs₂ : s₂ = (({ U with heap := s₂.heap, slotsUsed := s₂.slotsUsed } : State).setVm s₂.vm).setTop { g with pc := g.pc + len₂, stack := v.toList ++ g.stack } := by
      refine e3.trans ?_
      rw [hf₂, State.calling_eq h.top, State.setFrames_setFrames, State.setTop_of_frames _ hr', hr]
      rfl
    have hsame : U.sameButNew ({ U with heap := s₂.heap, slotsUsed := s₂.slotsUsed } : State) L mc ms := by
      refine ⟨?_, q2, q3, q4, q5, q6⟩
      obtain ⟨t, ht, -⟩ := State.frames_cons hr
      show ({ U with heap := s₂.heap, slotsUsed := s₂.slotsUsed } : State) = { U.setFrames U.frames with heap := s₂.heap, slotsUsed := s₂.slotsUsed }
      rw [State.setFrames_self ht]
    subst hg
    refine Or.inl ⟨v, ⟨(({ U with heap := s₂.heap, slotsUsed := s₂.slotsUsed } : State).setVm s₂.vm), Ls ++ L, c0 + mc, s0 + ms⟩,
      ⟨X.admits, X.cas, X.clock, X.frames, X.room, X.hears, X.method, X.code, (X.here.setHeapUsed s₂.heap s₂.slotsUsed).setVm hW'.alike, X.tail, State.WarmedH.trans X.warmed hW', X.limits, X.bytes, X.same.trans (hsame.setVm s.vm)⟩,
      ⟨g, mk, s₂, L, rfl, rfl, hqc, rfl, hL, rfl, rfl⟩, ?_⟩
    show Steps p.tables e below _ ((({ U with heap := s₂.heap, slotsUsed := s₂.slotsUsed } : State).setVm s₂.vm).setTop { g with pc := g.pc + len₂, stack := v.toList ++ g.stack })
    rw [← hs₂]
    exact hsteps
  · obtain ⟨e2, q2, q3, q4, q5, q6⟩ := id hsm
    have e3 : s₂ = ({ (U.calling g mk a).setFrames s₂.frames with heap := s₂.heap, slotsUsed := s₂.slotsUsed } : State).setVm s₂.vm := by
      have : s₂ = ({ s₂ with vm := (U.calling g mk a).vm } : State).setVm s₂.vm := rfl
      rw [e2] at this
      exact this
    have hf₂ : s₂.frames = .throwing q :: .java g :: U.frames.tail := hend
    have hW' : U.WarmedH s₂.vm := hW₂
    have hs₂ : s₂ = ((({ U with heap := s₂.heap, slotsUsed := s₂.slotsUsed } : State).setVm s₂.vm).setTop g).pushFrame (.throwing q) := by
      refine e3.trans ?_
      rw [hf₂, State.calling_eq h.top, State.setFrames_setFrames, State.pushFrame, State.frames_setTop _ hr', State.setTop_of_frames _ hr', State.setFrames_setFrames, hr]
      rfl
    have hsame : U.sameButNew ({ U with heap := s₂.heap, slotsUsed := s₂.slotsUsed } : State) L mc ms := by
      refine ⟨?_, q2, q3, q4, q5, q6⟩
      obtain ⟨t, ht, -⟩ := State.frames_cons hr
      show ({ U with heap := s₂.heap, slotsUsed := s₂.slotsUsed } : State) = { U.setFrames U.frames with heap := s₂.heap, slotsUsed := s₂.slotsUsed }
      rw [State.setFrames_self ht]
    subst hg
    refine Or.inr ⟨q, ⟨(({ U with heap := s₂.heap, slotsUsed := s₂.slotsUsed } : State).setVm s₂.vm), Ls ++ L, c0 + mc, s0 + ms⟩,
      ⟨X.admits, X.cas, X.clock, X.frames, X.room, X.hears, X.method, X.code, (X.here.setHeapUsed s₂.heap s₂.slotsUsed).setVm hW'.alike, X.tail, State.WarmedH.trans X.warmed hW', X.limits, X.bytes, X.same.trans (hsame.setVm s.vm)⟩,
      ⟨g, mk, s₂, L, E, ce, rfl, rfl, hx, hce, hcv, hcl, rfl, hL, rfl, rfl⟩, ?_⟩
    show Steps p.tables e below _ (((({ U with heap := s₂.heap, slotsUsed := s₂.slotsUsed } : State).setVm s₂.vm).setTop g).pushFrame (.throwing q))
    rw [← hs₂]
    exact hsteps
end Payer
section Calls
variable {p : Program} {l : Launch} {e : Env} {R : Room} {s : State} {m : MethodId} {args : Array Value} {below : List Frame} {meth : Method} {c : Code} {T : State} {locs : List Loc} {cells slots : Nat}
theorem vx_callV (X : Stand p l e R s m args below meth c T locs cells slots) (hexec : p.tables.exec = Jvm.exec) {own C : String} {index : Nat} {y : MethodName} {bytes : ByteArray} {maxL : Nat} {ret : Option FieldType}
    (hown : s.vm.findClass own = some m.cls) (hlink : (Cond.methodLink own index y).before args s = true) (hinst : (Cond.instanceMethod y).before args s = true) (hsel : (Cond.selects C y y).before args s = true)
    (hcode : (Cond.code y bytes maxL ret).before args s = true) (hy : y.cls ≠ "java/lang/invoke/MethodHandle" ∧ y.cls ≠ "java/lang/invoke/VarHandle")
    {W9 : Nat} {Pre : Pt → Array Value → Prop} {Post : Pt → Array Value → Option Value → Pt → Prop} {PostX : Pt → Array Value → Addr → Pt → Prop} (hK : vx_Back l R p e below s args y 3 W9 Pre Post PostX)
    {b : Addr} {cellB : Cell} (hcell : T.heap[b]? = some cellB) (hobj : cellB.vm.isStatics = false) (hcls : s.vm.findClass C = some cellB.cls)
    {g : JFrame} (hg : g.method = m) (hsize : g.locals.size = c.maxLocals) {argsL rest : List Value} (hlen : ∀ sig, parseMethodDescriptor y.desc = some sig → argsL.length = sig.parameters.length)
    (hstack : g.stack = argsL.reverse ++ .ref b :: rest) (hW : 2 * g.monitorRoom + (rest.map fun v => v.category).sum ≤ W9) (hdg : decode c.code g.pc = .ok (.invokevirtual index, 3))
    (hpre : ∀ vm₁, s.WarmedH vm₁ → Pre ⟨T.setVm vm₁, locs, cells, slots⟩ (Value.ref b :: argsL).toArray) :
    (∃ (v : Option Value) (vm₁ : Vm) (B : Pt), s.WarmedH vm₁ ∧ Stand p l e R s m args below meth c B.U B.locs B.cells B.slots ∧ Post ⟨T.setVm vm₁, locs, cells, slots⟩ (Value.ref b :: argsL).toArray v B ∧
      ∀ target, Steps p.tables e below (B.U.setTop { g with pc := g.pc + 3, stack := v.toList ++ rest }) target → Steps p.tables e below (T.setTop g) target) ∨
    (∃ (q : Addr) (vm₁ : Vm) (B : Pt), s.WarmedH vm₁ ∧ Stand p l e R s m args below meth c B.U B.locs B.cells B.slots ∧ PostX ⟨T.setVm vm₁, locs, cells, slots⟩ (Value.ref b :: argsL).toArray q B ∧
      Steps p.tables e below (T.setTop g) ((B.U.setTop { g with stack := rest }).pushFrame (.throwing q))) := by
  obtain ⟨mk, methM, hnamed, hmethM, hstM, habM⟩ := Cond.instanceMethod_spec hinst
  obtain ⟨methM', cM, hmethM', -, -, -, -, -, -, hsigM⟩ := Cond.code_spec hnamed hcode
  cases hmethM.symm.trans hmethM'
  obtain ⟨c2, r2, m2, q1, q2, q3, q4, kP, hkP, hkPi⟩ := Cond.selects_spec hsel
  cases hcls.symm.trans q1
  cases (State.methodFound?_of_named hnamed hy).symm.trans q2
  cases hnamed.symm.trans q3
  have hselP : selectMethod e.platform s.vm cellB.cls mk = .method mk := by rw [Launch.admits_selectMethod X.admits]; exact q4
  obtain ⟨vm₁, X₁, hstep₁⟩ := X.invokevirtual hexec hown hlink hnamed hmethM hstM hkP hkPi hy (a := b) (cell := cellB) hcell
    (fun z h => by rw [h] at hobj; cases hobj) hselP hmethM habM hkP hkPi (g := g) hg (argsL := argsL) (rest := rest) (hlen _ hsigM) hstack hdg
  rcases hK m meth c ⟨T.setVm vm₁, locs, cells, slots⟩ { g with stack := rest } (.invokevirtual index) mk (Value.ref b :: argsL).toArray X₁ hg hsize hdg hW (X₁.named hnamed) (hpre vm₁ X₁.warmed) with ⟨v, B, X', hpost, hsteps⟩ | ⟨q, B, X', hpost, hsteps⟩
  · exact Or.inl ⟨v, vm₁, B, X₁.warmed, X', hpost, fun target h => hstep₁ _ fun acts => by rw [doInvoke_state]; exact hsteps.trans h⟩
  · exact Or.inr ⟨q, vm₁, B, X₁.warmed, X', hpost, hstep₁ _ fun acts => by rw [doInvoke_state]; exact hsteps⟩
theorem vx_callS (X : Stand p l e R s m args below meth c T locs cells slots) (hexec : p.tables.exec = Jvm.exec) {own : String} {index : Nat} {y : MethodName} {bytes : ByteArray} {maxL : Nat} {ret : Option FieldType}
    (hown : s.vm.findClass own = some m.cls) (hlink : (Cond.methodLink own index y).before args s = true) (hstat : (Cond.static y).before args s = true) (hinit : (Cond.initialized y.cls).before args s = true)
    (hcode : (Cond.code y bytes maxL ret).before args s = true) (hy : y.cls ≠ "java/lang/invoke/MethodHandle" ∧ y.cls ≠ "java/lang/invoke/VarHandle")
    {W9 : Nat} {Pre : Pt → Array Value → Prop} {Post : Pt → Array Value → Option Value → Pt → Prop} {PostX : Pt → Array Value → Addr → Pt → Prop} (hK : vx_Back l R p e below s args y 3 W9 Pre Post PostX)
    {g : JFrame} (hg : g.method = m) (hsize : g.locals.size = c.maxLocals) {argsL rest : List Value} (hlen : ∀ sig, parseMethodDescriptor y.desc = some sig → argsL.length = sig.parameters.length)
    (hstack : g.stack = argsL.reverse ++ rest) (hW : 2 * g.monitorRoom + (rest.map fun v => v.category).sum ≤ W9) (hdg : decode c.code g.pc = .ok (.invokestatic index, 3))
    (hpre : ∀ vm₁, s.WarmedH vm₁ → Pre ⟨T.setVm vm₁, locs, cells, slots⟩ argsL.toArray) :
    (∃ (v : Option Value) (vm₁ : Vm) (B : Pt), s.WarmedH vm₁ ∧ Stand p l e R s m args below meth c B.U B.locs B.cells B.slots ∧ Post ⟨T.setVm vm₁, locs, cells, slots⟩ argsL.toArray v B ∧
      ∀ target, Steps p.tables e below (B.U.setTop { g with pc := g.pc + 3, stack := v.toList ++ rest }) target → Steps p.tables e below (T.setTop g) target) ∨
    (∃ (q : Addr) (vm₁ : Vm) (B : Pt), s.WarmedH vm₁ ∧ Stand p l e R s m args below meth c B.U B.locs B.cells B.slots ∧ PostX ⟨T.setVm vm₁, locs, cells, slots⟩ argsL.toArray q B ∧
      Steps p.tables e below (T.setTop g) ((B.U.setTop { g with stack := rest }).pushFrame (.throwing q))) := by
  obtain ⟨mk, hnamed⟩ := Cond.code_named hcode
  obtain ⟨methM, cM, hmethM, -, -, -, -, -, -, hsigM⟩ := Cond.code_spec hnamed hcode
  have hstatic : methM.isStatic = true := Cond.static_spec hnamed hmethM hstat
  obtain ⟨kP, hkP, -⟩ := className_of_methodNamed hnamed
  have hinitP : kP.init = .initialized := Cond.initialized_spec (findClass_of_methodNamed hnamed) hkP hinit
  obtain ⟨vm₁, X₁, hstep₁⟩ := X.invokestatic hexec hown hlink hnamed hmethM hstatic hkP hinitP hy (g := g) hg (argsL := argsL) (rest := rest) (hlen _ hsigM) hstack hdg
  rcases hK m meth c ⟨T.setVm vm₁, locs, cells, slots⟩ { g with stack := rest } (.invokestatic index) mk argsL.toArray X₁ hg hsize hdg hW (X₁.named hnamed) (hpre vm₁ X₁.warmed) with ⟨v, B, X', hpost, hsteps⟩ | ⟨q, B, X', hpost, hsteps⟩
  · exact Or.inl ⟨v, vm₁, B, X₁.warmed, X', hpost, fun target h => hstep₁ _ fun acts => by rw [doInvoke_state]; exact hsteps.trans h⟩
  · exact Or.inr ⟨q, vm₁, B, X₁.warmed, X', hpost, hstep₁ _ fun acts => by rw [doInvoke_state]; exact hsteps⟩
end Calls
theorem vx_cls {s : State} {T : State} {vm₁ : Vm} {E : String} {k : ClassId} (hW : s.WarmedH vm₁) (h : (T.setVm vm₁).vm.findClass E = some k) : s.vm.findClass E = some k := by
  have h1 : vm₁.findClass E = some k := h
  rw [hW.alike.findClass] at h1
  exact h1
/-- the method's frame g, with q thrown over it -/
def vx_W (p : Program) (l : Launch) (e : Env) (R : Room) (s : State) (m : MethodId) (args : Array Value) (below : List Frame) (meth : Method) (c : Code) (H : Heap) (locs : List Loc) (cells slots : Nat) (Q : State → Prop) (g : JFrame) (q : Addr) : Prop :=
  ∀ T : State, T.heap = H → Stand p l e R s m args below meth c T locs cells slots → ∃ t, Steps p.tables e below ((T.setTop g).pushFrame (.throwing q)) t ∧ Q t
def vx_Run (p : Program) (l : Launch) (e : Env) (R : Room) (s : State) (m : MethodId) (args : Array Value) (below : List Frame) (meth : Method) (c : Code) (H : Heap) (locs : List Loc) (cells slots mc ms : Nat) (g : JFrame) (rest : List Value) (Qa : State → Outcome → State → Prop) (XC : String → State → State → Prop) (free : Addr → Prop) : Prop :=
  ∀ T : State, T.heap = H → Stand p l e R s m args below meth c T locs cells slots →
    (∃ (v : Option Value) (st₀ t T' : State) (L : List Loc), st₀.heap = H ∧ Stand p l e R s m args below meth c T' (locs ++ L) (cells + mc) (slots + ms) ∧ (∀ q ∈ L, free q.base) ∧ T'.heap = t.heap ∧ T'.vm = t.vm ∧ Qa st₀ (.returned v) t ∧
      Goes p e below T g T' { g with pc := g.pc + 3, stack := v.toList ++ rest }) ∨
    (∃ (q : Addr) (st₀ t T' : State) (L : List Loc) (E : String) (ce : Cell), st₀.heap = H ∧ Stand p l e R s m args below meth c T' (locs ++ L) (cells + mc) (slots + ms) ∧ (∀ z ∈ L, free z.base) ∧ T'.heap = t.heap ∧ T'.vm = t.vm ∧ XC E st₀ t ∧ t.heap[q]? = some ce ∧ ce.vm = .none ∧ s.vm.findClass E = some ce.cls ∧
      Steps p.tables e below (T.setTop g) ((T'.setTop { g with stack := rest }).pushFrame (.throwing q)))
def vx_X {S : Type} (px : S → Prop) (B : String → S → State → Prop) (A : Nat → Prop) : String → State → State → Prop := fun E st t => ∃ u : S, px u ∧ B E u t ∧ va_F A st t
section Runs
variable {p : Program} {l : Launch} {e : Env} {R : Room} {s : State} {m : MethodId} {args : Array Value} {below : List Frame} {meth : Method} {c : Code} {H : Heap} {locs : List Loc} {cells slots : Nat}
variable {y : MethodName} {bytes cc : ByteArray} {maxL nL mc ms n index : Nat} {ret : Option FieldType} {ws : List Cond} {rm : Room} {Pc : Array Value → State → Prop} {Qc : Array Value → State → Outcome → State → Prop} {XC : String → State → State → Prop} {free : Addr → Prop} {Ts : List Cond} {own C : String} {b : Addr} {As rest : List Value} {g : JFrame}
theorem vx_callBack (cb : CallB R s args own index y bytes maxL ret ws rm mc ms n) (hM : vx_Met l y ws rm Pc Qc XC mc ms free) (hbl : FrameBlind Pc) : vx_Back l R p e below s args y 3 8 (PreOf R mc ms Pc) (PostOf Qc mc ms free) (vx_Post XC mc ms free) := by
  obtain ⟨hrc, hrs, hfr, hlo, hws, hcw, -, hini, -⟩ := cb
  exact vx_back (bytes := bytes) (maxL := maxL) (ret := ret) hM hbl hrc hrs hfr hlo hws hcw (fun a' U hW => word_at hW (Or.inl (by first | rfl | simp [Cond.onTables, Cond.keeps, Cond.steady])) hini)
theorem vx_runV (S : CallFix p m c cc nL s args Ts own) (hM : vx_Met l y ws rm Pc Qc XC mc ms free) (cw : CallW R s args own C index y bytes maxL ret ws rm mc ms n) (hp : PreV s H C b Pc As)
    (hg : g.method = m) (hn : As.length = n) (hsize : g.locals.size = nL) (hstack : g.stack = As.reverse ++ .ref b :: rest) (hW : 2 * g.monitorRoom + (rest.map fun v => v.category).sum ≤ 8) (hdg : decode cc g.pc = .ok (.invokevirtual index, 3)) (hf : cells + mc ≤ R.cells ∧ slots + ms ≤ R.slots) :
    vx_Run p l e R s m args below meth c H locs cells slots mc ms g rest (Qc (Value.ref b :: As).toArray) XC free := by
  have hK : vx_Back l R p e below s args y 3 8 (PreOf R mc ms Pc) (PostOf Qc mc ms free) (vx_Post XC mc ms free) := vx_callBack cw.1 hM hp.1
  obtain ⟨⟨-, -, -, -, -, -, hcode, -, hy, hlen, hl⟩, hin, hse⟩ := cw
  obtain ⟨hx, hb, hml, ho, -⟩ := S
  obtain ⟨-, ⟨cellB, hcB, hoB, hclB⟩, hPc⟩ := hp
  intro T hT X
  rcases vx_callV X hx (C := C) (bytes := bytes) (maxL := maxL) (ret := ret) ho hl hin hse hcode hy hK (by rw [hT]; exact hcB) hoB hclB hg (hsize.trans hml.symm) (argsL := As) (rest := rest) (fun sig h => hn.trans (hlen sig h)) hstack hW (by rw [hb]; exact hdg)
    (fun vm₁ hW₁ => ⟨hf.1, hf.2, hPc (T.setVm vm₁) hT hW₁⟩) with ⟨v, vm₁, ⟨U', l2, c2, s2⟩, hW₁, X', ⟨g', mk, t, L, e1, e2, hq, h1, hL, h2, h3⟩, st⟩ | ⟨q, vm₁, ⟨U', l2, c2, s2⟩, hW₁, X', ⟨g', mk, t, L, E, ce, e1, e2, hq, hce, hcv, hcl, h1, hL, h2, h3⟩, st⟩
  · dsimp only [Pt.U, Pt.locs, Pt.cells, Pt.slots] at X' e1 e2 h1 h2 h3 st
    subst h1; subst h2; subst h3
    exact Or.inl ⟨v, (T.setVm vm₁).calling g' mk (Value.ref b :: As).toArray, t, U', L, hT, X', hL, e1, e2, hq, st⟩
  · dsimp only [Pt.U, Pt.locs, Pt.cells, Pt.slots] at X' e1 e2 h1 h2 h3 st hcl
    subst h1; subst h2; subst h3
    exact Or.inr ⟨q, (T.setVm vm₁).calling g' mk (Value.ref b :: As).toArray, t, U', L, E, ce, hT, X', hL, e1, e2, hq, hce, hcv, vx_cls hW₁ hcl, st⟩
theorem vx_runS (S : CallFix p m c cc nL s args Ts own) (hM : vx_Met l y ws rm Pc Qc XC mc ms free) (cw : CallB R s args own index y bytes maxL ret ws rm mc ms n ∧ (Cond.static y).before args s = true) (hp : PreS s H Pc As)
    (hg : g.method = m) (hn : As.length = n) (hsize : g.locals.size = nL) (hstack : g.stack = As.reverse ++ rest) (hW : 2 * g.monitorRoom + (rest.map fun v => v.category).sum ≤ 8) (hdg : decode cc g.pc = .ok (.invokestatic index, 3)) (hf : cells + mc ≤ R.cells ∧ slots + ms ≤ R.slots) :
    vx_Run p l e R s m args below meth c H locs cells slots mc ms g rest (Qc As.toArray) XC free := by
  have hK : vx_Back l R p e below s args y 3 8 (PreOf R mc ms Pc) (PostOf Qc mc ms free) (vx_Post XC mc ms free) := vx_callBack cw.1 hM hp.1
  obtain ⟨⟨-, -, -, -, -, -, hcode, hini, hy, hlen, hl⟩, hstt⟩ := cw
  obtain ⟨hx, hb, hml, ho, -⟩ := S
  intro T hT X
  rcases vx_callS X hx (bytes := bytes) (maxL := maxL) (ret := ret) ho hl hstt hini hcode hy hK hg (hsize.trans hml.symm) (argsL := As) (rest := rest) (fun sig h => hn.trans (hlen sig h)) hstack hW (by rw [hb]; exact hdg)
    (fun vm₁ hW₁ => ⟨hf.1, hf.2, hp.2 (T.setVm vm₁) hT hW₁⟩) with ⟨v, vm₁, ⟨U', l2, c2, s2⟩, hW₁, X', ⟨g', mk, t, L, e1, e2, hq, h1, hL, h2, h3⟩, st⟩ | ⟨q, vm₁, ⟨U', l2, c2, s2⟩, hW₁, X', ⟨g', mk, t, L, E, ce, e1, e2, hq, hce, hcv, hcl, h1, hL, h2, h3⟩, st⟩
  · dsimp only [Pt.U, Pt.locs, Pt.cells, Pt.slots] at X' e1 e2 h1 h2 h3 st
    subst h1; subst h2; subst h3
    exact Or.inl ⟨v, (T.setVm vm₁).calling g' mk As.toArray, t, U', L, hT, X', hL, e1, e2, hq, st⟩
  · dsimp only [Pt.U, Pt.locs, Pt.cells, Pt.slots] at X' e1 e2 h1 h2 h3 st hcl
    subst h1; subst h2; subst h3
    exact Or.inr ⟨q, (T.setVm vm₁).calling g' mk As.toArray, t, U', L, E, ce, hT, X', hL, e1, e2, hq, hce, hcv, vx_cls hW₁ hcl, st⟩
end Runs
section Rows
variable {p : Program} {l : Launch} {e : Env} {R : Room} {s : State} {m : MethodId} {args : Array Value} {below : List Frame} {meth : Method} {c : Code} {H : Heap} {locs : List Loc} {cells slots : Nat} {Q : State → Prop}
variable {mc ms : Nat} {free : Addr → Prop} {A0 A1 : Nat → Prop} {H0 : Heap} {a : Array Value} {pc : Nat} {ls : Array Slot} {st0 rest : List Value}
theorem vx_keep {st₀ t T' : State} {L : List Loc} (h0 : st₀.heap = H) (e1 : T'.heap = t.heap) (hS : va_S A0 H0 H locs) (hA : ∀ q, q < H.size → A1 q → A0 q) (hf : ∀ q, free q → A0 q) (hL : ∀ q ∈ L, free q.base) (hF : va_F A1 st₀ t) :
    H.size ≤ T'.heap.size ∧ (∀ q : Nat, q < H.size → ¬ A1 q → T'.heap[q]? = H[q]?) ∧ va_S A0 H0 T'.heap (locs ++ L) := by
  obtain ⟨hz, hk⟩ := hF
  rw [h0] at hz hk
  exact ⟨by rw [e1]; exact hz, fun q h1 h2 => by rw [e1]; exact hk q h1 h2,
    ⟨Nat.le_trans hS.1 (by rw [e1]; exact hz), fun q h1 h2 => by rw [e1, hk q (Nat.lt_of_lt_of_le h1 hS.1) (fun z => h2 (hA q (Nat.lt_of_lt_of_le h1 hS.1) z))]; exact hS.2.1 q h1 h2, fun q hq => by
      rcases List.mem_append.mp hq with h | h
      · exact hS.2.2 q h
      · exact hf _ (hL q h)⟩⟩
theorem vx_calli {S SX : Type} {post : Int32 → S → Prop} {px : SX → Prop} {B : S → State → Prop} {BX : String → SX → State → Prop} {AX : Nat → Prop} (hr : vx_Run p l e R s m args below meth c H locs cells slots mc ms (F0 m pc ls st0) rest (va_Qi post B A1 a) (vx_X px BX AX) free) (hS : va_S A0 H0 H locs) (hA : ∀ q, q < H.size → A1 q → A0 q) (hf : ∀ q, free q → A0 q) (hAX : ∀ q, q < H.size → AX q → A0 q)
    (kx : ∀ (E : String) (ce : Cell) (q9 : Addr) (u : SX) (t : State) (H1 : Heap) (locs1 : List Loc), t.heap = H1 → s.vm.Alike t.vm → px u → BX E u t → H.size ≤ H1.size → (∀ q : Nat, q < H.size → ¬ AX q → H1[q]? = H[q]?) → va_S A0 H0 H1 locs1 → H1[q9]? = some ce → ce.vm = .none → s.vm.findClass E = some ce.cls → vx_W p l e R s m args below meth c H1 locs1 (cells + mc) (slots + ms) Q (F0 m pc ls rest) q9)
    (kk : ∀ (r : Int32) (u : S) (t : State) (H1 : Heap) (locs1 : List Loc), t.heap = H1 → s.vm.Alike t.vm → post r u → B u t → H.size ≤ H1.size → (∀ q : Nat, q < H.size → ¬ A1 q → H1[q]? = H[q]?) → va_S A0 H0 H1 locs1 → W p l e R s m args below meth c H1 locs1 (cells + mc) (slots + ms) Q (F0 m (pc + 3) ls (.int r :: rest))) : W p l e R s m args below meth c H locs cells slots Q (F0 m pc ls st0) := by
  intro T hT X
  rcases hr T hT X with ⟨v, st₀, t, T', L, h0, X', hL, e1, e2, ⟨⟨r, u, hv, hp, hb⟩, hF⟩, st⟩ | ⟨q, st₀, t, T', L, E, ce, h0, X', hL, e1, e2, ⟨u, hp, hb, hF⟩, hce, hcv, hcl, st⟩
  · cases hv
    obtain ⟨k1, k2, k3⟩ := vx_keep h0 e1 hS hA hf hL hF
    obtain ⟨t2, a1, b1⟩ := kk r u t T'.heap (locs ++ L) e1.symm (by rw [← e2]; exact X'.warmed.alike) hp hb k1 k2 k3 T' rfl X'
    exact ⟨t2, st t2 a1, b1⟩
  · obtain ⟨k1, k2, k3⟩ := vx_keep h0 e1 hS hAX hf hL hF
    obtain ⟨t2, a1, b1⟩ := kx E ce q u t T'.heap (locs ++ L) e1.symm (by rw [← e2]; exact X'.warmed.alike) hp hb k1 k2 k3 (by rw [e1]; exact hce) hcv hcl T' rfl X'
    exact ⟨t2, st.trans a1, b1⟩
theorem vx_calll {S SX : Type} {post : Int64 → S → Prop} {px : SX → Prop} {B : S → State → Prop} {BX : String → SX → State → Prop} {AX : Nat → Prop} (hr : vx_Run p l e R s m args below meth c H locs cells slots mc ms (F0 m pc ls st0) rest (va_Ql post B A1 a) (vx_X px BX AX) free) (hS : va_S A0 H0 H locs) (hA : ∀ q, q < H.size → A1 q → A0 q) (hf : ∀ q, free q → A0 q) (hAX : ∀ q, q < H.size → AX q → A0 q)
    (kx : ∀ (E : String) (ce : Cell) (q9 : Addr) (u : SX) (t : State) (H1 : Heap) (locs1 : List Loc), t.heap = H1 → s.vm.Alike t.vm → px u → BX E u t → H.size ≤ H1.size → (∀ q : Nat, q < H.size → ¬ AX q → H1[q]? = H[q]?) → va_S A0 H0 H1 locs1 → H1[q9]? = some ce → ce.vm = .none → s.vm.findClass E = some ce.cls → vx_W p l e R s m args below meth c H1 locs1 (cells + mc) (slots + ms) Q (F0 m pc ls rest) q9)
    (kk : ∀ (r : Int64) (u : S) (t : State) (H1 : Heap) (locs1 : List Loc), t.heap = H1 → s.vm.Alike t.vm → post r u → B u t → H.size ≤ H1.size → (∀ q : Nat, q < H.size → ¬ A1 q → H1[q]? = H[q]?) → va_S A0 H0 H1 locs1 → W p l e R s m args below meth c H1 locs1 (cells + mc) (slots + ms) Q (F0 m (pc + 3) ls (.long r :: rest))) : W p l e R s m args below meth c H locs cells slots Q (F0 m pc ls st0) := by
  intro T hT X
  rcases hr T hT X with ⟨v, st₀, t, T', L, h0, X', hL, e1, e2, ⟨⟨r, u, hv, hp, hb⟩, hF⟩, st⟩ | ⟨q, st₀, t, T', L, E, ce, h0, X', hL, e1, e2, ⟨u, hp, hb, hF⟩, hce, hcv, hcl, st⟩
  · cases hv
    obtain ⟨k1, k2, k3⟩ := vx_keep h0 e1 hS hA hf hL hF
    obtain ⟨t2, a1, b1⟩ := kk r u t T'.heap (locs ++ L) e1.symm (by rw [← e2]; exact X'.warmed.alike) hp hb k1 k2 k3 T' rfl X'
    exact ⟨t2, st t2 a1, b1⟩
  · obtain ⟨k1, k2, k3⟩ := vx_keep h0 e1 hS hAX hf hL hF
    obtain ⟨t2, a1, b1⟩ := kx E ce q u t T'.heap (locs ++ L) e1.symm (by rw [← e2]; exact X'.warmed.alike) hp hb k1 k2 k3 (by rw [e1]; exact hce) hcv hcl T' rfl X'
    exact ⟨t2, st.trans a1, b1⟩
theorem vx_callf {S SX : Type} {post : UInt32 → S → Prop} {px : SX → Prop} {B : S → State → Prop} {BX : String → SX → State → Prop} {AX : Nat → Prop} (hr : vx_Run p l e R s m args below meth c H locs cells slots mc ms (F0 m pc ls st0) rest (va_Qf post B A1 a) (vx_X px BX AX) free) (hS : va_S A0 H0 H locs) (hA : ∀ q, q < H.size → A1 q → A0 q) (hf : ∀ q, free q → A0 q) (hAX : ∀ q, q < H.size → AX q → A0 q)
    (kx : ∀ (E : String) (ce : Cell) (q9 : Addr) (u : SX) (t : State) (H1 : Heap) (locs1 : List Loc), t.heap = H1 → s.vm.Alike t.vm → px u → BX E u t → H.size ≤ H1.size → (∀ q : Nat, q < H.size → ¬ AX q → H1[q]? = H[q]?) → va_S A0 H0 H1 locs1 → H1[q9]? = some ce → ce.vm = .none → s.vm.findClass E = some ce.cls → vx_W p l e R s m args below meth c H1 locs1 (cells + mc) (slots + ms) Q (F0 m pc ls rest) q9)
    (kk : ∀ (r : UInt32) (u : S) (t : State) (H1 : Heap) (locs1 : List Loc), t.heap = H1 → s.vm.Alike t.vm → post r u → B u t → H.size ≤ H1.size → (∀ q : Nat, q < H.size → ¬ A1 q → H1[q]? = H[q]?) → va_S A0 H0 H1 locs1 → W p l e R s m args below meth c H1 locs1 (cells + mc) (slots + ms) Q (F0 m (pc + 3) ls (.float r :: rest))) : W p l e R s m args below meth c H locs cells slots Q (F0 m pc ls st0) := by
  intro T hT X
  rcases hr T hT X with ⟨v, st₀, t, T', L, h0, X', hL, e1, e2, ⟨⟨r, u, hv, hp, hb⟩, hF⟩, st⟩ | ⟨q, st₀, t, T', L, E, ce, h0, X', hL, e1, e2, ⟨u, hp, hb, hF⟩, hce, hcv, hcl, st⟩
  · cases hv
    obtain ⟨k1, k2, k3⟩ := vx_keep h0 e1 hS hA hf hL hF
    obtain ⟨t2, a1, b1⟩ := kk r u t T'.heap (locs ++ L) e1.symm (by rw [← e2]; exact X'.warmed.alike) hp hb k1 k2 k3 T' rfl X'
    exact ⟨t2, st t2 a1, b1⟩
  · obtain ⟨k1, k2, k3⟩ := vx_keep h0 e1 hS hAX hf hL hF
    obtain ⟨t2, a1, b1⟩ := kx E ce q u t T'.heap (locs ++ L) e1.symm (by rw [← e2]; exact X'.warmed.alike) hp hb k1 k2 k3 (by rw [e1]; exact hce) hcv hcl T' rfl X'
    exact ⟨t2, st.trans a1, b1⟩
theorem vx_calld {S SX : Type} {post : UInt64 → S → Prop} {px : SX → Prop} {B : S → State → Prop} {BX : String → SX → State → Prop} {AX : Nat → Prop} (hr : vx_Run p l e R s m args below meth c H locs cells slots mc ms (F0 m pc ls st0) rest (va_Qd post B A1 a) (vx_X px BX AX) free) (hS : va_S A0 H0 H locs) (hA : ∀ q, q < H.size → A1 q → A0 q) (hf : ∀ q, free q → A0 q) (hAX : ∀ q, q < H.size → AX q → A0 q)
    (kx : ∀ (E : String) (ce : Cell) (q9 : Addr) (u : SX) (t : State) (H1 : Heap) (locs1 : List Loc), t.heap = H1 → s.vm.Alike t.vm → px u → BX E u t → H.size ≤ H1.size → (∀ q : Nat, q < H.size → ¬ AX q → H1[q]? = H[q]?) → va_S A0 H0 H1 locs1 → H1[q9]? = some ce → ce.vm = .none → s.vm.findClass E = some ce.cls → vx_W p l e R s m args below meth c H1 locs1 (cells + mc) (slots + ms) Q (F0 m pc ls rest) q9)
    (kk : ∀ (r : UInt64) (u : S) (t : State) (H1 : Heap) (locs1 : List Loc), t.heap = H1 → s.vm.Alike t.vm → post r u → B u t → H.size ≤ H1.size → (∀ q : Nat, q < H.size → ¬ A1 q → H1[q]? = H[q]?) → va_S A0 H0 H1 locs1 → W p l e R s m args below meth c H1 locs1 (cells + mc) (slots + ms) Q (F0 m (pc + 3) ls (.double r :: rest))) : W p l e R s m args below meth c H locs cells slots Q (F0 m pc ls st0) := by
  intro T hT X
  rcases hr T hT X with ⟨v, st₀, t, T', L, h0, X', hL, e1, e2, ⟨⟨r, u, hv, hp, hb⟩, hF⟩, st⟩ | ⟨q, st₀, t, T', L, E, ce, h0, X', hL, e1, e2, ⟨u, hp, hb, hF⟩, hce, hcv, hcl, st⟩
  · cases hv
    obtain ⟨k1, k2, k3⟩ := vx_keep h0 e1 hS hA hf hL hF
    obtain ⟨t2, a1, b1⟩ := kk r u t T'.heap (locs ++ L) e1.symm (by rw [← e2]; exact X'.warmed.alike) hp hb k1 k2 k3 T' rfl X'
    exact ⟨t2, st t2 a1, b1⟩
  · obtain ⟨k1, k2, k3⟩ := vx_keep h0 e1 hS hAX hf hL hF
    obtain ⟨t2, a1, b1⟩ := kx E ce q u t T'.heap (locs ++ L) e1.symm (by rw [← e2]; exact X'.warmed.alike) hp hb k1 k2 k3 (by rw [e1]; exact hce) hcv hcl T' rfl X'
    exact ⟨t2, st.trans a1, b1⟩
theorem vx_callv {S SX : Type} {post : S → Prop} {px : SX → Prop} {B : S → State → Prop} {BX : String → SX → State → Prop} {AX : Nat → Prop} (hr : vx_Run p l e R s m args below meth c H locs cells slots mc ms (F0 m pc ls st0) rest (va_Qv post B A1 a) (vx_X px BX AX) free) (hS : va_S A0 H0 H locs) (hA : ∀ q, q < H.size → A1 q → A0 q) (hf : ∀ q, free q → A0 q) (hAX : ∀ q, q < H.size → AX q → A0 q)
    (kx : ∀ (E : String) (ce : Cell) (q9 : Addr) (u : SX) (t : State) (H1 : Heap) (locs1 : List Loc), t.heap = H1 → s.vm.Alike t.vm → px u → BX E u t → H.size ≤ H1.size → (∀ q : Nat, q < H.size → ¬ AX q → H1[q]? = H[q]?) → va_S A0 H0 H1 locs1 → H1[q9]? = some ce → ce.vm = .none → s.vm.findClass E = some ce.cls → vx_W p l e R s m args below meth c H1 locs1 (cells + mc) (slots + ms) Q (F0 m pc ls rest) q9)
    (kk : ∀ (u : S) (t : State) (H1 : Heap) (locs1 : List Loc), t.heap = H1 → s.vm.Alike t.vm → post u → B u t → H.size ≤ H1.size → (∀ q : Nat, q < H.size → ¬ A1 q → H1[q]? = H[q]?) → va_S A0 H0 H1 locs1 → W p l e R s m args below meth c H1 locs1 (cells + mc) (slots + ms) Q (F0 m (pc + 3) ls (rest))) : W p l e R s m args below meth c H locs cells slots Q (F0 m pc ls st0) := by
  intro T hT X
  rcases hr T hT X with ⟨v, st₀, t, T', L, h0, X', hL, e1, e2, ⟨⟨u, hv, hp, hb⟩, hF⟩, st⟩ | ⟨q, st₀, t, T', L, E, ce, h0, X', hL, e1, e2, ⟨u, hp, hb, hF⟩, hce, hcv, hcl, st⟩
  · cases hv
    obtain ⟨k1, k2, k3⟩ := vx_keep h0 e1 hS hA hf hL hF
    obtain ⟨t2, a1, b1⟩ := kk u t T'.heap (locs ++ L) e1.symm (by rw [← e2]; exact X'.warmed.alike) hp hb k1 k2 k3 T' rfl X'
    exact ⟨t2, st t2 a1, b1⟩
  · obtain ⟨k1, k2, k3⟩ := vx_keep h0 e1 hS hAX hf hL hF
    obtain ⟨t2, a1, b1⟩ := kx E ce q u t T'.heap (locs ++ L) e1.symm (by rw [← e2]; exact X'.warmed.alike) hp hb k1 k2 k3 (by rw [e1]; exact hce) hcv hcl T' rfl X'
    exact ⟨t2, st.trans a1, b1⟩
/-- caught by the row x of this method's table; the rows ahead don't take it -/
theorem vx_catch {own name : String} {E : String} {ce : Cell} {q : Addr} (hown : s.vm.findClass own = some m.cls) (pre : List ExceptionTableEntry) (x : ExceptionTableEntry) (suf : List ExceptionTableEntry) (hsplit : c.exceptionTable.toList = pre ++ x :: suf)
    (hpass : ∀ z ∈ pre, covers z pc = false ∨ (z.catchType ≠ 0 ∧ ∃ nm : String, (Cond.classLink own z.catchType nm).before args s = true ∧ va_Nc E nm s)) (hx : covers x pc = true) (h0 : x.catchType ≠ 0)
    (hlink : (Cond.classLink own x.catchType name).before args s = true) (hcast : (Cond.castable E name).before args s = true) (hcell : H[q]? = some ce) (hv : ce.vm = .none) (hcl : s.vm.findClass E = some ce.cls)
    (kk : W p l e R s m args below meth c H locs cells slots Q (F0 m x.handlerPc ls [.ref q])) : vx_W p l e R s m args below meth c H locs cells slots Q (F0 m pc ls rest) q := by
  intro T hT X
  have hpl : e.platform.magicAccessors = ({} : Platform).magicAccessors := by rw [X.admits.platform]
  obtain ⟨c3, c4, hc3, hc4, hasg⟩ := Cond.castable_spec hcast
  cases Option.some.inj (hc3.symm.trans hcl)
  obtain ⟨c5, hc5, hcl5⟩ := Cond.classLink_spec hown hlink e.platform hpl
  cases Option.some.inj (hc4.symm.trans hc5)
  obtain ⟨vm', X', st⟩ := X.thenCaughtThrough q (g := F0 m pc ls rest) rfl (Steps.refl _) (by rw [hT]; exact hcell) (by rw [hv]; rfl) (by obtain ⟨k9, h9, -⟩ := Vm.findClass_spec hcl; exact ⟨k9, h9⟩) pre x suf hsplit
    (fun z hz => by
      rcases hpass z hz with h | ⟨hz0, nm, hl1, hn1⟩
      · exact Or.inl h
      · obtain ⟨c6, hc6, hcl6⟩ := Cond.classLink_spec hown hl1 e.platform hpl
        obtain ⟨a8, b8, h1, h2, h3⟩ := hn1
        cases Option.some.inj (h1.symm.trans hcl)
        cases Option.some.inj (h2.symm.trans hc6)
        exact Or.inr ⟨hz0, _, hcl6, h3⟩) hx (Or.inr ⟨h0, c4, hcl5, hasg⟩)
  obtain ⟨t, a1, b1⟩ := kk (T.setVm vm') hT X'
  exact ⟨t, st.trans a1, b1⟩
end Rows
section Ends
variable {p : Program} {l : Launch} {e : Env} {R : Room} {s : State} {m : MethodId} {args : Array Value} {below : List Frame} {meth : Method} {c : Code} {H : Heap} {locs : List Loc} {cells slots : Nat} {Q : State → Prop}
variable {mc ms : Nat} {free : Addr → Prop} {A0 A1 : Nat → Prop} {H0 : Heap} {a : Array Value} {ls : Array Slot} {st0 rest : List Value}
variable {Qc : Array Value → State → Outcome → State → Prop} {XC : String → State → State → Prop}
/-- what a body that may throw owes at its end -/
def vx_MQ (below : List Frame) (Qc : Array Value → State → Outcome → State → Prop) (XC : String → State → State → Prop) (a : Array Value) (s : State) (mc ms : Nat) (free : Addr → Prop) : State → Prop := fun t =>
  ∃ o, t.status = .running ∧ Ended t below o ∧ vx_Q Qc XC mc ms free a s o t
theorem vx_ret {g : JFrame} {mc ms : Nat} (k : W p l e R s m args below meth c H locs cells slots (MQ below Qc args s mc ms free) g) : W p l e R s m args below meth c H locs cells slots (vx_MQ below Qc XC args s mc ms free) g := by
  intro T hT X
  obtain ⟨t, a1, o, b1, b2, b3, b4⟩ := k T hT X
  exact ⟨t, a1, o, b1, b2, Or.inl ⟨b3, b4⟩⟩
/-- not caught here: it goes on to the caller -/
theorem vx_widen {g : JFrame} {q : Addr} {k n : Nat} (h1 : cells ≤ k) (h2 : slots ≤ n) (kk : vx_W p l e R s m args below meth c H locs k n Q g q) : vx_W p l e R s m args below meth c H locs cells slots Q g q := fun T hT X => kk T hT (stand_widen X h1 h2)
theorem vx_out {pc : Nat} {E : String} {ce : Cell} {q : Addr} {mc ms : Nat} (hout : ∀ x ∈ c.exceptionTable.toList, covers x pc = false) (hlocks : meth.locks = false) (hcell : H[q]? = some ce) (hv : ce.vm = .none) (hcl : s.vm.findClass E = some ce.cls)
    (hx : ∀ t : State, t.heap = H → s.vm.Alike t.vm → XC E s t) (hf : ∀ z ∈ locs, free z.base) (hc : cells ≤ mc) (hs : slots ≤ ms) :
    vx_W p l e R s m args below meth c H locs cells slots (vx_MQ below Qc XC args s mc ms free) (F0 m pc ls rest) q := by
  intro T hT X
  obtain ⟨st1, hrun, hend, hW, hsm⟩ := X.leaveThrown q (g := F0 m pc ls rest) rfl rfl rfl hout hlocks
  have hcell9 : (T.setFrames (.throwing q :: below)).heap[q]? = some ce := by
    show T.heap[q]? = some ce
    rw [hT]; exact hcell
  exact ⟨_, st1, .threw q, hrun, hend, Or.inr ⟨q, rfl, E, ce, locs, hx _ hT hW.alike, hcell9, hv, hcl, hW, hsm.mono hc hs, hf⟩⟩
theorem vx_frame {U : State} {k n : Nat} (h : s.sameButNew ({ U with vm := s.vm } : State) locs k n) : s.heap.size ≤ U.heap.size ∧ ∀ q : Nat, q < s.heap.size → (∀ z ∈ locs, z.base ≠ q) → U.heap[q]? = s.heap[q]? := by
  obtain ⟨-, h2, -, -, -, h6⟩ := h
  refine ⟨h2, fun q hq hz => ?_⟩
  obtain ⟨c9, e1, e2, e3, e4⟩ := h6 q _ (Array.getElem?_eq_getElem hq)
  have hs : c9.slots = (s.heap[q]).slots := Array.ext_getElem? fun i => e4 i fun hm => hz _ hm rfl
  have h9 : c9 = s.heap[q] := by
    rw [hs] at e2
    exact e2
  have e5 : U.heap[q]? = some c9 := e1
  rw [e5, h9, Array.getElem?_eq_getElem hq]
/-- the words of a throw but the four that speak of the heap -/
def vx_no (w : Cond) : Bool := decide (w ≠ .isRef (.static Bundle.tN "UNASSIGNED_STACK" Bundle.steD)) && decide (w ≠ .isRef (.static Bundle.tN "SUPPRESSED_SENTINEL" Bundle.listD)) && decide (w ≠ .laysStatic Bundle.tN "UNASSIGNED_STACK" Bundle.steD) && decide (w ≠ .laysStatic Bundle.tN "SUPPRESSED_SENTINEL" Bundle.listD)
def vx_at0 (own : String) (ic : Nat) (X : String) (names : List String) : List Cond := (Bundle.ownAtoms0 own ic X names).filter vx_no
def vx_atS (own : String) (ic : Nat) (X : String) (names : List String) : List Cond := (Bundle.ownAtoms own ic X names).filter vx_no
/-- a word that the tables alone decide, or a good one -/
def vx_ot (w : Cond) : Bool := w.onTables || goodWord w
theorem vx_ot_at {args a' : Array Value} {s U : State} {w : Cond} (hW : s.WarmedH U.vm) (hvm : s.vm = U.vm) (hg : vx_ot w = true) (h : w.before args s = true) : w.before a' U = true := by
  simp only [vx_ot, Bool.or_eq_true] at hg
  rcases hg with hg | hg
  · exact va_tabs hg hvm h
  · exact word_at hW (good_of_word hg) h
/-- a list's words: the good ones out of the method's own list, the others by premises of their own -/
theorem vx_hat {args : Array Value} {s : State} {L B : List Cond} (h1 : ∀ w ∈ L.filter goodWord, w.before args s = true) (h2 : ∀ w ∈ L.filter (fun w => !goodWord w), w ∈ B) (h3 : ∀ w ∈ B, w.before args s = true) : ∀ w ∈ L, w.before args s = true := by
  intro w hw
  by_cases g : goodWord w = true
  · exact h1 w (List.mem_filter.mpr ⟨hw, g⟩)
  · refine h3 w (h2 w (List.mem_filter.mpr ⟨hw, ?_⟩))
    show (!goodWord w) = true
    cases hgw : goodWord w
    · rfl
    · exact absurd hgw g
theorem vx_c {args : Array Value} {s : State} {w : Cond} {B : List Cond} (h : w.before args s = true) (t : ∀ w ∈ B, w.before args s = true) : ∀ w' ∈ w :: B, w'.before args s = true := fun w' h' => (List.mem_cons.mp h').elim (fun e => by rw [e]; exact h) (t w')
theorem vx_n {args : Array Value} {s : State} : ∀ w ∈ ([] : List Cond), w.before args s = true := fun _ h => nomatch h
theorem vx_own {args : Array Value} {s : State} {L : List Cond} (h1 : ∀ w ∈ L.filter vx_no, w.before args s = true)
    (hU : (Cond.isRef (.static Bundle.tN "UNASSIGNED_STACK" Bundle.steD)).before args s = true) (hN : (Cond.isRef (.static Bundle.tN "SUPPRESSED_SENTINEL" Bundle.listD)).before args s = true)
    (lU : (Cond.laysStatic Bundle.tN "UNASSIGNED_STACK" Bundle.steD).before args s = true) (lN : (Cond.laysStatic Bundle.tN "SUPPRESSED_SENTINEL" Bundle.listD).before args s = true) : ∀ w ∈ L, w.before args s = true := by
  intro w hw
  by_cases e1 : w = .isRef (.static Bundle.tN "UNASSIGNED_STACK" Bundle.steD)
  · rw [e1]; exact hU
  · by_cases e2 : w = .isRef (.static Bundle.tN "SUPPRESSED_SENTINEL" Bundle.listD)
    · rw [e2]; exact hN
    · by_cases e3 : w = .laysStatic Bundle.tN "UNASSIGNED_STACK" Bundle.steD
      · rw [e3]; exact lU
      · by_cases e4 : w = .laysStatic Bundle.tN "SUPPRESSED_SENTINEL" Bundle.listD
        · rw [e4]; exact lN
        · exact h1 w (List.mem_filter.mpr ⟨hw, by unfold vx_no; rw [decide_eq_true e1, decide_eq_true e2, decide_eq_true e3, decide_eq_true e4]; rfl⟩)
/-- where a static field lies, its class's statics cell in H -/
def vx_L (C n d : String) (A : Nat → Prop) (U : State) (H : Heap) : Prop := ∃ (c : ClassId) (k : Class) (i : Nat) (f : Field) (a : Nat) (cell : Cell), U.vm.findClass C = some c ∧ U.fieldFound? C n d = some (c, k, i, f) ∧ f.isStatic = true ∧ k.statics = some a ∧ H[a]? = some cell ∧ cell.vm.isStatics = true ∧ cell.cls = c ∧ f.slot < cell.slots.size ∧ k.staticTypes[f.slot]? = some f.type ∧ ¬ A a
theorem vx_L.moved {C n d : String} {A : Nat → Prop} {u U : State} {H : Heap} (hvm : u.vm.Alike U.vm) (h : vx_L C n d A u H) : vx_L C n d A U H := by
  obtain ⟨c, k, i, f, a, cell, h1, h2, h3, h4, h5, h6, h7, h8, h9, h10⟩ := h
  obtain ⟨k', hi', he⟩ := State.fieldFound?_setVm hvm h2
  exact ⟨c, k', i, f, a, cell, by rw [hvm.findClass]; exact h1, hi', h3, by rw [he]; exact h4, h5, h6, h7, h8, by rw [he]; exact h9, h10⟩
theorem vx_L.kept {C n d : String} {A : Nat → Prop} {U : State} {H H1 : Heap} (h : vx_L C n d A U H) (hq : ∀ a : Nat, a < H.size → ¬ A a → H1[a]? = H[a]?) : vx_L C n d A U H1 := by
  obtain ⟨c, k, i, f, a, cell, h1, h2, h3, h4, h5, h6, h7, h8, h9, h10⟩ := h
  exact ⟨c, k, i, f, a, cell, h1, h2, h3, h4, by rw [hq a (Array.getElem?_eq_some_iff.mp h5).1 h10]; exact h5, h6, h7, h8, h9, h10⟩
theorem vx_L.narrow {C n d : String} {A B : Nat → Prop} {U : State} {H : Heap} (h : vx_L C n d A U H) (hAB : ∀ q, B q → A q) : vx_L C n d B U H := by
  obtain ⟨c, k, i, f, a, cell, h1, h2, h3, h4, h5, h6, h7, h8, h9, h10⟩ := h
  exact ⟨c, k, i, f, a, cell, h1, h2, h3, h4, h5, h6, h7, h8, h9, fun z => h10 (hAB _ z)⟩
theorem vx_L.word {C n d : String} {A : Nat → Prop} {s : State} {args : Array Value} (h : vx_L C n d A s s.heap) : (Cond.laysStatic C n d).before args s = true := by
  obtain ⟨c, k, i, f, a, cell, h1, h2, h3, h4, h5, h6, h7, h8, h9, -⟩ := h
  show (Cond.laysStatic C n d).holds args s none s [] = true
  exact Cond.laysStatic_of h1 h2 h3 h4 h5 h6 h7 h8 h9
/-- .. and what it holds: null or some reference -/
def vx_Zq (C n d : String) (A : Nat → Prop) (U : State) (H : Heap) : Prop := va_Zq C n d A U H ∧ vx_L C n d A U H
theorem vx_Zq.moved {C n d : String} {A : Nat → Prop} {u U : State} {H : Heap} (hvm : u.vm.Alike U.vm) (h : vx_Zq C n d A u H) : vx_Zq C n d A U H := ⟨va_Zq.moved hvm h.1, vx_L.moved hvm h.2⟩
theorem vx_Zq.kept {C n d : String} {A : Nat → Prop} {U : State} {H H1 : Heap} (h : vx_Zq C n d A U H) (hq : ∀ a : Nat, a < H.size → ¬ A a → H1[a]? = H[a]?) : vx_Zq C n d A U H1 := ⟨va_Zq.kept h.1 hq, vx_L.kept h.2 hq⟩
theorem vx_Zq.narrow {C n d : String} {A B : Nat → Prop} {U : State} {H : Heap} (h : vx_Zq C n d A U H) (hAB : ∀ q, B q → A q) : vx_Zq C n d B U H := ⟨va_Zq.narrow h.1 hAB, vx_L.narrow h.2 hAB⟩
theorem vx_Zqof {args : Array Value} {s : State} {C n d : String} {A : Nat → Prop} (hl : (Cond.laysStatic C n d).before args s = true) (hini : (Cond.initialized C).before args s = true) (h : (Cond.isRef (.static C n d)).before args s = true) (hA : ∀ a : Nat, a < s.heap.size → ¬ A a) : vx_Zq C n d A s s.heap := by
  refine ⟨va_Zqof hl hini h hA, ?_⟩
  obtain ⟨c, k, i, f, a, cell, h1, h2, h3, h4, h5, h6, h7, h8, h9⟩ := Cond.laysStatic_spec hl
  exact ⟨c, k, i, f, a, cell, h1, h2, h3, h4, h5, h6, h7, h8, h9, hA a (Array.getElem?_eq_some_iff.mp h5).1⟩
theorem vx_isRef {C n d : String} {v : Value} {A : Nat → Prop} {s : State} {args : Array Value} (h : va_Z C n d v A s s.heap) (hv : v.isRef = true) : (Cond.isRef (.static C n d)).before args s = true := by
  obtain ⟨cf, kf, fi, f, a, cell, h1, h2, h3, h4, h5, h6, h7, -⟩ := h
  have he : (Term.static C n d).eval args s none [] s = some v := by
    simp [Term.eval, State.fieldNamed?, h1, h2, h4, h5, h6, h7]
  simp only [Cond.before, Cond.holds, Cond.value, he]
  cases v <;> simp_all [Value.isRef]
theorem vx_isRefq {C n d : String} {A : Nat → Prop} {s : State} {args : Array Value} (h : va_Zq C n d A s s.heap) : (Cond.isRef (.static C n d)).before args s = true := by
  rcases h with h | ⟨t, h⟩
  · exact vx_isRef h rfl
  · exact vx_isRef h rfl
/-- the same frame, seen from here: as if the method were called anew in this heap -/
theorem vx_rebase {T : State} (X : Stand p l e R s m args below meth c T locs cells slots) {R' : Room} (hf : R'.frames ≤ R.frames) (hl : R'.locals ≤ R.locals) (hc : cells + R'.cells ≤ R.cells) (hs : slots + R'.slots ≤ R.slots) :
    Stand p l e R' ((T.setVm s.vm).setFrames (.invoking m args :: below)) m args below meth c T [] 0 0 := by
  have htop : (T.setVm s.vm).topJava?.isSome := X.here.top
  have hF : ((T.setVm s.vm).setFrames (.invoking m args :: below)).frames = .invoking m args :: below := State.frames_setFrames _ (State.cur_lt_of_top htop)
  obtain ⟨g₀, hg0⟩ := Option.isSome_iff_exists.mp htop
  obtain ⟨r, hr⟩ := State.topJava?_eq_some.mp hg0
  have hl9 : e.platform.stackLimits (T.setVm s.vm).me = e.platform.stackLimits s.me := X.limits
  have hb9 : (T.setVm s.vm).me.stackBytes = s.me.stackBytes := X.bytes
  refine ⟨X.admits, X.cas, X.clock, hF, ?_, X.hears, X.method, X.code, X.here, X.tail, X.warmed, ?_, ?_, ?_⟩
  · have h := X.room
    have hU : ((T.setVm s.vm).setFrames (.invoking m args :: below)).localsInUse = s.localsInUse := by
      rw [State.localsInUse_invoking hF (meth := meth) (c := c) X.method X.code, State.localsInUse_invoking X.frames X.method X.code]
    simp only [State.hasRoom, Bool.and_eq_true, decide_eq_true_eq] at h ⊢
    obtain ⟨⟨⟨⟨h1, h2, h3, h4, h5, h6⟩, h7⟩, h8⟩, h9⟩ := h
    rw [X.frames, List.length_cons] at h2 h3
    have q1 := X.heapSize
    have q2 := X.used
    simp only [hF, hU, List.length_cons, State.stackLimits_setFrames, State.stackBytes_setFrames, hl9, hb9]
    refine ⟨⟨⟨⟨by omega, by omega, by omega, by omega, by omega, h6⟩, ?_⟩, ?_⟩, X.book⟩
    · show T.heap.size + R'.cells ≤ e.platform.maxCells
      omega
    · show T.slotsUsed + R'.slots ≤ e.platform.maxSlots
      omega
  · rw [State.stackLimits_setFrames]; rfl
  · rw [State.stackBytes_setFrames]; rfl
  · refine ⟨?_, Nat.le_refl _, Nat.le_refl _, ?_, ?_, fun a c9 h9 => ⟨c9, h9, rfl, rfl, fun _ _ => rfl⟩⟩
    · obtain ⟨t, ht, -⟩ := State.frames_cons hr
      show T.setVm s.vm = { ((T.setVm s.vm).setFrames (.invoking m args :: below)).setFrames (T.setVm s.vm).frames with heap := T.heap, slotsUsed := T.slotsUsed }
      rw [State.setFrames_setFrames, State.setFrames_self ht]
      rfl
    · show T.slotsUsed = T.slotsUsed + ((T.heap.toList.drop T.heap.size).map (·.slots.size)).sum
      rw [List.drop_eq_nil_of_le (Nat.le_of_eq Array.length_toList)]
      rfl
    · show ((T.heap.toList.drop T.heap.size).map (·.slots.size)).sum ≤ 0
      rw [List.drop_eq_nil_of_le (Nat.le_of_eq Array.length_toList)]
      exact Nat.le_refl _
/-- 'throw new E()': new; dup; invokespecial; athrow -/
theorem vx_throw0 {cc : ByteArray} {pc : Nat} (hexec : p.tables.exec = Jvm.exec) (hb : c.code = cc) (hl : l.stackTraces = false) {own cls : String} {names : List String} {ik ic mc ms : Nat} {A : Nat → Prop}
    (hown : s.vm.findClass own = some m.cls) (hcls : Bundle.fit cls = true) (hnames : ∀ n ∈ names, Bundle.fit n = true)
    (hk : (Cond.classLink own ik cls).before args s = true) (hini : (Cond.initialized cls).before args s = true) (hat : ∀ w ∈ vx_at0 own ic cls names, w.before args s = true)
    (hgood : ∀ w ∈ Cond.classLink own ik cls :: Cond.initialized cls :: vx_at0 own ic cls names, vx_ot w = true)
    (hU : vx_Zq Bundle.tN "UNASSIGNED_STACK" Bundle.steD A s s.heap) (hN : vx_Zq Bundle.tN "SUPPRESSED_SENTINEL" Bundle.listD A s s.heap) (hS : va_S A s.heap H locs) (hsize : ls.size = c.maxLocals)
    (d0 : decode cc pc = .ok (.new ik, 3)) (d3 : decode cc (pc + 3) = .ok (.dup, 1)) (d4 : decode cc (pc + 4) = .ok (.invokespecial ic, 3)) (d7 : decode cc (pc + 7) = .ok (.athrow, 1))
    (hout : ∀ x ∈ c.exceptionTable.toList, covers x (pc + 7) = false)
    (hRframes : names.length + 3 < R.frames) (hRlocals : (rest.map fun v => v.category).sum + (13 * (names.length + 1) + 42) ≤ R.locals) (hRcells : cells + 1 ≤ R.cells) (hRslots : slots + 6 ≤ R.slots) (hlocks : meth.locks = false)
    (hx : ∀ t : State, s.vm.Alike t.vm → H.size ≤ t.heap.size → (∀ q : Nat, q < H.size → t.heap[q]? = H[q]?) → XC cls s t)
    (hf : ∀ z ∈ locs, free z.base) (hc : cells + 1 ≤ mc) (hs : slots + 6 ≤ ms) :
    W p l e R s m args below meth c H locs cells slots (vx_MQ below Qc XC args s mc ms free) (F0 m pc ls rest) := by
  intro T hT X
  have htr : e.platform.stackTraces = false := (show e.platform.stackTraces = l.stackTraces by rw [X.admits.platform]).trans hl
  have Y := vx_rebase X (R' := { frames := R.frames, locals := R.locals, cells := 1, slots := 6 }) (Nat.le_refl _) (Nat.le_refl _) hRcells hRslots
  obtain ⟨s', hA⟩ : ∃ z, z = (T.setVm s.vm).setFrames (.invoking m args :: below) := ⟨_, rfl⟩
  rw [← hA] at Y
  have hvm : s'.vm = s.vm := by rw [hA]; rfl
  have hhp : s'.heap = H := by rw [hA]; exact hT
  have hW0 : s.WarmedH s'.vm := by rw [hvm]; exact State.WarmedH.refl s
  have hat' : ∀ w ∈ vx_at0 own ic cls names, w.before args s' = true := fun w hw => vx_ot_at hW0 hvm.symm (hgood w (List.mem_cons_of_mem _ (List.mem_cons_of_mem _ hw))) (hat w hw)
  have hk' : (Cond.classLink own ik cls).before args s' = true := vx_ot_at hW0 hvm.symm (hgood _ List.mem_cons_self) hk
  have hini' : (Cond.initialized cls).before args s' = true := vx_ot_at hW0 hvm.symm (hgood _ (List.mem_cons_of_mem _ List.mem_cons_self)) hini
  have hU' : vx_Zq Bundle.tN "UNASSIGNED_STACK" Bundle.steD A s' s'.heap := by rw [hhp]; exact vx_Zq.moved hW0.alike (hU.kept hS.2.1)
  have hN' : vx_Zq Bundle.tN "SUPPRESSED_SENTINEL" Bundle.listD A s' s'.heap := by rw [hhp]; exact vx_Zq.moved hW0.alike (hN.kept hS.2.1)
  have h : ∀ w ∈ Bundle.ownAtoms0 own ic cls names, w.before args s' = true := vx_own hat' (vx_isRefq hU'.1) (vx_isRefq hN'.1) hU'.2.word hN'.2.word
  have hown' : s'.vm.findClass own = some m.cls := by rw [hvm]; exact hown
  have hins : (Cond.instantiable cls 6).before args s' = true := h _ (by simp [Bundle.ownAtoms0])
  obtain ⟨vm₁, cX, kX, hfX, hkX, -, -, X₁, st1⟩ := Y.newCold hexec (own := own) (C := cls) (index := ik) (n := 6) hown' hk' hins hini'
    (g := F0 m pc ls rest) rfl (by rw [hb]; exact d0) (Nat.le_refl _) (Nat.le_refl _)
  generalize hT1 : (T.setVm vm₁).pushCell { cls := cX, slots := kX.instanceTypes.map defaultValue, vm := .none } = T1 at X₁ st1
  have hcat : (Value.ref T.heap.size).category = 1 := rfl
  have hcellA : T1.heap[T.heap.size]? = some (freshCell cX kX) := by rw [← hT1]; exact State.heap_pushCell_size _ _
  have d3' : decode c.code (pc + 3) = .ok (.dup, 1) := by rw [hb]; exact d3
  obtain ⟨U, hsteps, hrun, hend, hW, hsame, ce, hce, hO⟩ := X₁.ctorThrow0 hexec htr (own := own) (cls := cls) (names := names) (ic := ic) hown' hcls hnames h (fun x hx => nomatch hx) hfX hkX hcellA (by rw [hhp, hT]; exact Nat.le_refl _)
    (g := { method := m, pc := pc + 4, locals := ls, stack := .ref T.heap.size :: .ref T.heap.size :: rest, locked := none }) rfl hsize rfl rfl (rest := rest) rfl
    (by rw [hb]; exact d4) (by rw [hb]; exact d7) hout hRframes (by simp only [List.map_cons, List.sum_cons, hcat]; omega) hlocks
  obtain ⟨f1, f2⟩ := vx_frame hsame
  rw [hhp] at f1 f2
  have hWs : s.WarmedH U.vm := State.WarmedH.trans hW0 hW
  have hcl : s.vm.findClass cls = some ce.cls := by
    have h9 := hO.cls
    rw [hvm] at h9
    exact h9
  have hall : s.sameButNew ({ U with vm := s.vm } : State) locs mc ms := by
    subst hA
    obtain ⟨e1, e2⟩ := hsame
    rw [State.setFrames_setFrames] at e1
    have h2 : (T.setVm s.vm).sameButNew ({ U with vm := s.vm } : State) [] (0 + 1) (0 + 6) := ⟨e1, e2⟩
    have h3 := X.same.trans h2
    rw [List.append_nil] at h3
    exact h3.mono hc hs
  refine ⟨U, ?_, .threw T.heap.size, hrun, hend, Or.inr ⟨T.heap.size, rfl, cls, ce, locs, hx U hWs.alike f1 (fun q hq => f2 q hq (fun z hz => nomatch hz)), hce, hO.vm, hcl, hWs, hall, hf⟩⟩
  refine st1 _ ?_
  show Steps p.tables e below (T1.setTop { method := m, pc := pc + 3, locals := ls, stack := .ref T.heap.size :: rest, locked := none }) _
  jvm_step X₁.here [X₁.here.top, hexec, d3', Value.category]
  exact hsteps
/-- 'throw new E("text")': new; dup; ldc; invokespecial; athrow -/
theorem vx_throwS {cc : ByteArray} {pc : Nat} (hexec : p.tables.exec = Jvm.exec) (hb : c.code = cc) (hl : l.stackTraces = false) {own cls text : String} {names : List String} {ik is ic mc ms sa : Nat} {A : Nat → Prop}
    (hown : s.vm.findClass own = some m.cls) (hcls : Bundle.fit cls = true) (hnames : ∀ n ∈ names, Bundle.fit n = true)
    (hk : (Cond.classLink own ik cls).before args s = true) (hini : (Cond.initialized cls).before args s = true) (hstr : vk_R own is text sa s) (hat : ∀ w ∈ vx_atS own ic cls names, w.before args s = true)
    (hgood : ∀ w ∈ Cond.classLink own ik cls :: Cond.initialized cls :: vx_atS own ic cls names, vx_ot w = true)
    (hU : vx_Zq Bundle.tN "UNASSIGNED_STACK" Bundle.steD A s s.heap) (hN : vx_Zq Bundle.tN "SUPPRESSED_SENTINEL" Bundle.listD A s s.heap) (hS : va_S A s.heap H locs) (hsize : ls.size = c.maxLocals)
    (d0 : decode cc pc = .ok (.new ik, 3)) (d3 : decode cc (pc + 3) = .ok (.dup, 1)) (d4 : decode cc (pc + 4) = .ok (.ldc is, 2)) (d6 : decode cc (pc + 6) = .ok (.invokespecial ic, 3)) (d9 : decode cc (pc + 9) = .ok (.athrow, 1))
    (hout : ∀ x ∈ c.exceptionTable.toList, covers x (pc + 9) = false)
    (hRframes : names.length + 3 < R.frames) (hRlocals : (rest.map fun v => v.category).sum + (13 * (names.length + 1) + 43) ≤ R.locals) (hRcells : cells + 1 ≤ R.cells) (hRslots : slots + 6 ≤ R.slots) (hlocks : meth.locks = false)
    (hx : ∀ t : State, s.vm.Alike t.vm → H.size ≤ t.heap.size → (∀ q : Nat, q < H.size → t.heap[q]? = H[q]?) → XC cls s t)
    (hf : ∀ z ∈ locs, free z.base) (hc : cells + 1 ≤ mc) (hs : slots + 6 ≤ ms) :
    W p l e R s m args below meth c H locs cells slots (vx_MQ below Qc XC args s mc ms free) (F0 m pc ls rest) := by
  intro T hT X
  have htr : e.platform.stackTraces = false := (show e.platform.stackTraces = l.stackTraces by rw [X.admits.platform]).trans hl
  have Y := vx_rebase X (R' := { frames := R.frames, locals := R.locals, cells := 1, slots := 6 }) (Nat.le_refl _) (Nat.le_refl _) hRcells hRslots
  obtain ⟨s', hA⟩ : ∃ z, z = (T.setVm s.vm).setFrames (.invoking m args :: below) := ⟨_, rfl⟩
  rw [← hA] at Y
  have hvm : s'.vm = s.vm := by rw [hA]; rfl
  have hhp : s'.heap = H := by rw [hA]; exact hT
  have hW0 : s.WarmedH s'.vm := by rw [hvm]; exact State.WarmedH.refl s
  have hat' : ∀ w ∈ vx_atS own ic cls names, w.before args s' = true := fun w hw => vx_ot_at hW0 hvm.symm (hgood w (List.mem_cons_of_mem _ (List.mem_cons_of_mem _ hw))) (hat w hw)
  have hk' : (Cond.classLink own ik cls).before args s' = true := vx_ot_at hW0 hvm.symm (hgood _ List.mem_cons_self) hk
  have hini' : (Cond.initialized cls).before args s' = true := vx_ot_at hW0 hvm.symm (hgood _ (List.mem_cons_of_mem _ List.mem_cons_self)) hini
  have hU' : vx_Zq Bundle.tN "UNASSIGNED_STACK" Bundle.steD A s' s'.heap := by rw [hhp]; exact vx_Zq.moved hW0.alike (hU.kept hS.2.1)
  have hN' : vx_Zq Bundle.tN "SUPPRESSED_SENTINEL" Bundle.listD A s' s'.heap := by rw [hhp]; exact vx_Zq.moved hW0.alike (hN.kept hS.2.1)
  have h : ∀ w ∈ Bundle.ownAtoms own ic cls names, w.before args s' = true := vx_own hat' (vx_isRefq hU'.1) (vx_isRefq hN'.1) hU'.2.word hN'.2.word
  have hown' : s'.vm.findClass own = some m.cls := by rw [hvm]; exact hown
  have hins : (Cond.instantiable cls 6).before args s' = true := h _ (by simp [Bundle.ownAtoms])
  obtain ⟨vm₁, cX, kX, hfX, hkX, -, -, X₁, st1⟩ := Y.newCold hexec (own := own) (C := cls) (index := ik) (n := 6) hown' hk' hins hini'
    (g := F0 m pc ls rest) rfl (by rw [hb]; exact d0) (Nat.le_refl _) (Nat.le_refl _)
  generalize hT1 : (T.setVm vm₁).pushCell { cls := cX, slots := kX.instanceTypes.map defaultValue, vm := .none } = T1 at X₁ st1
  have hcat : (Value.ref T.heap.size).category = 1 := rfl
  have hcellA : T1.heap[T.heap.size]? = some (freshCell cX kX) := by rw [← hT1]; exact State.heap_pushCell_size _ _
  have d3' : decode c.code (pc + 3) = .ok (.dup, 1) := by rw [hb]; exact d3
  have d4' : decode c.code (pc + 4) = .ok (.ldc is, 2) := by rw [hb]; exact d4
  have hstr' : vk_R own is text sa s' := vk_R.warm hW0 hstr
  obtain ⟨U, hsteps, hrun, hend, hW, hsame, ce, hce, hO⟩ := X₁.ctorThrowS hexec htr (own := own) (cls := cls) (names := names) (ic := ic) hown' hcls hnames h (fun x hx => nomatch hx) hfX hkX hcellA (by rw [hhp, hT]; exact Nat.le_refl _) (msg := .ref sa) rfl
    (g := { method := m, pc := pc + 6, locals := ls, stack := .ref sa :: .ref T.heap.size :: .ref T.heap.size :: rest, locked := none }) rfl hsize rfl rfl (rest := rest) rfl
    (by rw [hb]; exact d6) (by rw [hb]; exact d9) hout hRframes (by simp only [List.map_cons, List.sum_cons, hcat]; omega) hlocks
  obtain ⟨f1, f2⟩ := vx_frame hsame
  rw [hhp] at f1 f2
  have hWs : s.WarmedH U.vm := State.WarmedH.trans hW0 hW
  have hcl : s.vm.findClass cls = some ce.cls := by
    have h9 := hO.cls
    rw [hvm] at h9
    exact h9
  have hall : s.sameButNew ({ U with vm := s.vm } : State) locs mc ms := by
    subst hA
    obtain ⟨e1, e2⟩ := hsame
    rw [State.setFrames_setFrames] at e1
    have h2 : (T.setVm s.vm).sameButNew ({ U with vm := s.vm } : State) [] (0 + 1) (0 + 6) := ⟨e1, e2⟩
    have h3 := X.same.trans h2
    rw [List.append_nil] at h3
    exact h3.mono hc hs
  refine ⟨U, ?_, .threw T.heap.size, hrun, hend, Or.inr ⟨T.heap.size, rfl, cls, ce, locs, hx U hWs.alike f1 (fun q hq => f2 q hq (fun z hz => nomatch hz)), hce, hO.vm, hcl, hWs, hall, hf⟩⟩
  refine st1 _ ?_
  show Steps p.tables e below (T1.setTop { method := m, pc := pc + 3, locals := ls, stack := .ref T.heap.size :: rest, locked := none }) _
  jvm_step X₁.here [X₁.here.top, hexec, d3', Value.category]
  exact X₁.ldcString hexec (own := own) (text := text) (index := is) (a := sa) hown' hstr'.1 hstr'.2
    (g := { method := m, pc := pc + 4, locals := ls, stack := .ref T.heap.size :: .ref T.heap.size :: rest, locked := none }) rfl d4' _ hsteps
/-- 'throw new E("text")', the text by a wide index -/
theorem vx_throwSW {cc : ByteArray} {pc : Nat} (hexec : p.tables.exec = Jvm.exec) (hb : c.code = cc) (hl : l.stackTraces = false) {own cls text : String} {names : List String} {ik is ic mc ms sa : Nat} {A : Nat → Prop}
    (hown : s.vm.findClass own = some m.cls) (hcls : Bundle.fit cls = true) (hnames : ∀ n ∈ names, Bundle.fit n = true)
    (hk : (Cond.classLink own ik cls).before args s = true) (hini : (Cond.initialized cls).before args s = true) (hstr : vk_R own is text sa s) (hat : ∀ w ∈ vx_atS own ic cls names, w.before args s = true)
    (hgood : ∀ w ∈ Cond.classLink own ik cls :: Cond.initialized cls :: vx_atS own ic cls names, vx_ot w = true)
    (hU : vx_Zq Bundle.tN "UNASSIGNED_STACK" Bundle.steD A s s.heap) (hN : vx_Zq Bundle.tN "SUPPRESSED_SENTINEL" Bundle.listD A s s.heap) (hS : va_S A s.heap H locs) (hsize : ls.size = c.maxLocals)
    (d0 : decode cc pc = .ok (.new ik, 3)) (d3 : decode cc (pc + 3) = .ok (.dup, 1)) (d4 : decode cc (pc + 4) = .ok (.ldc_w is, 3)) (d7 : decode cc (pc + 7) = .ok (.invokespecial ic, 3)) (d10 : decode cc (pc + 10) = .ok (.athrow, 1))
    (hout : ∀ x ∈ c.exceptionTable.toList, covers x (pc + 10) = false)
    (hRframes : names.length + 3 < R.frames) (hRlocals : (rest.map fun v => v.category).sum + (13 * (names.length + 1) + 43) ≤ R.locals) (hRcells : cells + 1 ≤ R.cells) (hRslots : slots + 6 ≤ R.slots) (hlocks : meth.locks = false)
    (hx : ∀ t : State, s.vm.Alike t.vm → H.size ≤ t.heap.size → (∀ q : Nat, q < H.size → t.heap[q]? = H[q]?) → XC cls s t)
    (hf : ∀ z ∈ locs, free z.base) (hc : cells + 1 ≤ mc) (hs : slots + 6 ≤ ms) :
    W p l e R s m args below meth c H locs cells slots (vx_MQ below Qc XC args s mc ms free) (F0 m pc ls rest) := by
  intro T hT X
  have htr : e.platform.stackTraces = false := (show e.platform.stackTraces = l.stackTraces by rw [X.admits.platform]).trans hl
  have Y := vx_rebase X (R' := { frames := R.frames, locals := R.locals, cells := 1, slots := 6 }) (Nat.le_refl _) (Nat.le_refl _) hRcells hRslots
  obtain ⟨s', hA⟩ : ∃ z, z = (T.setVm s.vm).setFrames (.invoking m args :: below) := ⟨_, rfl⟩
  rw [← hA] at Y
  have hvm : s'.vm = s.vm := by rw [hA]; rfl
  have hhp : s'.heap = H := by rw [hA]; exact hT
  have hW0 : s.WarmedH s'.vm := by rw [hvm]; exact State.WarmedH.refl s
  have hat' : ∀ w ∈ vx_atS own ic cls names, w.before args s' = true := fun w hw => vx_ot_at hW0 hvm.symm (hgood w (List.mem_cons_of_mem _ (List.mem_cons_of_mem _ hw))) (hat w hw)
  have hk' : (Cond.classLink own ik cls).before args s' = true := vx_ot_at hW0 hvm.symm (hgood _ List.mem_cons_self) hk
  have hini' : (Cond.initialized cls).before args s' = true := vx_ot_at hW0 hvm.symm (hgood _ (List.mem_cons_of_mem _ List.mem_cons_self)) hini
  have hU' : vx_Zq Bundle.tN "UNASSIGNED_STACK" Bundle.steD A s' s'.heap := by rw [hhp]; exact vx_Zq.moved hW0.alike (hU.kept hS.2.1)
  have hN' : vx_Zq Bundle.tN "SUPPRESSED_SENTINEL" Bundle.listD A s' s'.heap := by rw [hhp]; exact vx_Zq.moved hW0.alike (hN.kept hS.2.1)
  have h : ∀ w ∈ Bundle.ownAtoms own ic cls names, w.before args s' = true := vx_own hat' (vx_isRefq hU'.1) (vx_isRefq hN'.1) hU'.2.word hN'.2.word
  have hown' : s'.vm.findClass own = some m.cls := by rw [hvm]; exact hown
  have hins : (Cond.instantiable cls 6).before args s' = true := h _ (by simp [Bundle.ownAtoms])
  obtain ⟨vm₁, cX, kX, hfX, hkX, -, -, X₁, st1⟩ := Y.newCold hexec (own := own) (C := cls) (index := ik) (n := 6) hown' hk' hins hini'
    (g := F0 m pc ls rest) rfl (by rw [hb]; exact d0) (Nat.le_refl _) (Nat.le_refl _)
  generalize hT1 : (T.setVm vm₁).pushCell { cls := cX, slots := kX.instanceTypes.map defaultValue, vm := .none } = T1 at X₁ st1
  have hcat : (Value.ref T.heap.size).category = 1 := rfl
  have hcellA : T1.heap[T.heap.size]? = some (freshCell cX kX) := by rw [← hT1]; exact State.heap_pushCell_size _ _
  have d3' : decode c.code (pc + 3) = .ok (.dup, 1) := by rw [hb]; exact d3
  have d4' : decode c.code (pc + 4) = .ok (.ldc_w is, 3) := by rw [hb]; exact d4
  have hstr' : vk_R own is text sa s' := vk_R.warm hW0 hstr
  obtain ⟨U, hsteps, hrun, hend, hW, hsame, ce, hce, hO⟩ := X₁.ctorThrowS hexec htr (own := own) (cls := cls) (names := names) (ic := ic) hown' hcls hnames h (fun x hx => nomatch hx) hfX hkX hcellA (by rw [hhp, hT]; exact Nat.le_refl _) (msg := .ref sa) rfl
    (g := { method := m, pc := pc + 7, locals := ls, stack := .ref sa :: .ref T.heap.size :: .ref T.heap.size :: rest, locked := none }) rfl hsize rfl rfl (rest := rest) rfl
    (by rw [hb]; exact d7) (by rw [hb]; exact d10) hout hRframes (by simp only [List.map_cons, List.sum_cons, hcat]; omega) hlocks
  obtain ⟨f1, f2⟩ := vx_frame hsame
  rw [hhp] at f1 f2
  have hWs : s.WarmedH U.vm := State.WarmedH.trans hW0 hW
  have hcl : s.vm.findClass cls = some ce.cls := by
    have h9 := hO.cls
    rw [hvm] at h9
    exact h9
  have hall : s.sameButNew ({ U with vm := s.vm } : State) locs mc ms := by
    subst hA
    obtain ⟨e1, e2⟩ := hsame
    rw [State.setFrames_setFrames] at e1
    have h2 : (T.setVm s.vm).sameButNew ({ U with vm := s.vm } : State) [] (0 + 1) (0 + 6) := ⟨e1, e2⟩
    have h3 := X.same.trans h2
    rw [List.append_nil] at h3
    exact h3.mono hc hs
  refine ⟨U, ?_, .threw T.heap.size, hrun, hend, Or.inr ⟨T.heap.size, rfl, cls, ce, locs, hx U hWs.alike f1 (fun q hq => f2 q hq (fun z hz => nomatch hz)), hce, hO.vm, hcl, hWs, hall, hf⟩⟩
  refine st1 _ ?_
  show Steps p.tables e below (T1.setTop { method := m, pc := pc + 3, locals := ls, stack := .ref T.heap.size :: rest, locked := none }) _
  jvm_step X₁.here [X₁.here.top, hexec, d3', Value.category]
  exact X₁.ldcStringW hexec (own := own) (text := text) (index := is) (a := sa) hown' hstr'.1 hstr'.2
    (g := { method := m, pc := pc + 4, locals := ls, stack := .ref T.heap.size :: .ref T.heap.size :: rest, locked := none }) rfl d4' _ hsteps
end Ends
section Bodies
variable {l : Launch}
theorem vx_ofW {y : MethodName} {ws ws' : List Cond} {rm : Room} {Pc : Array Value → State → Prop} {Qc : Array Value → State → Outcome → State → Prop} {XC : String → State → State → Prop} {mc ms : Nat} {free : Addr → Prop} {cc : ByteArray} {maxL : Nat} {ret : Option FieldType}
    (hy : plainName y.cls = true) (hw : ws = Cond.code y cc maxL ret :: ws')
    (body : ∀ p e s m args below meth c s₁, BodyLoose p l y (headSpec ws rm) cc maxL ret e s m args below meth c s₁ → c.maxLocals = maxL → (∀ x ∈ c.exceptionTable.toList, False) → Pc args s →
      W p l e (headSpec ws rm).room s m args below meth c s.heap [] 0 0 (vx_MQ below Qc XC args s mc ms free) (entryFrame m args maxL)) : vx_Met l y ws rm Pc Qc XC mc ms free := by
  refine MetFree.of_bodyS (code := cc) (maxLocals := maxL) (ret := ret) hy ?_ ?_
  · intro args s m h hn
    obtain ⟨meth, c, h1, h2, h3, h4, h5, h6, -, -⟩ := Cond.code_spec hn (atoms_spec (ws := ws) h _ (by rw [hw]; exact List.mem_cons_self))
    exact ⟨meth, c, h1, h2, h3, h4, h5, h6⟩
  · intro p e s m args below meth c s₁ B hml hP _
    have hh0 : s₁.heap = s.heap := by rw [B.state]; rfl
    have ht : ∀ x ∈ c.exceptionTable.toList, False := by
      obtain ⟨meth9, c9, h1, h2, -, -, -, -, h7, -⟩ := Cond.code_spec B.named (atoms_spec (ws := ws) B.pre _ (by rw [hw]; exact List.mem_cons_self))
      cases Option.some.inj (h1.symm.trans B.method)
      cases Option.some.inj (h2.symm.trans (Stand.of_body B).code)
      intro x hx
      rw [Array.isEmpty_iff.mp h7] at hx
      cases hx
    obtain ⟨t, a1, o, b1, b2, b3⟩ := body p e s m args below meth c s₁ B hml ht hP s₁ hh0 (Stand.of_body B)
    exact ⟨t, o, a1, b1, b2, b3⟩
/-- the table of a body with handlers -/
theorem vx_table {p : Program} {x y : MethodName} {S : Spec} {cc bytes : ByteArray} {maxL maxL' : Nat} {ret ret' : Option FieldType} {e : Env} {s s₁ : State} {m : MethodId} {args : Array Value} {below : List Frame} {meth : Method} {c : Code} {hh : List (Nat × Nat × Nat × Nat)}
    (B : BodyLoose p l y S cc maxL ret e s m args below meth c s₁) (h : (Cond.codeWith y bytes maxL' ret' hh).before args s = true) : c.exceptionTable.toList = tableOf hh := by
  obtain ⟨m9, meth9, c9, hn9, h1, h2, -, -, h6, -⟩ := Cond.codeWith_spec h
  cases Option.some.inj (hn9.symm.trans B.named)
  cases Option.some.inj (h1.symm.trans B.method)
  cases Option.some.inj (h2.symm.trans (Stand.of_body B).code)
  rw [← h6, table_eq]
end Bodies
end VXA
/-! ===== END ===== -/
/-! ===== BEGIN a static call of a method with an exception table ===== -/
section VXS
variable {p : Program} {l : Launch} {e : Env} {R : Room} {s : State} {m : MethodId} {args : Array Value} {below : List Frame} {meth : Method} {c : Code} {T : State} {H : Heap} {locs : List Loc} {cells slots : Nat}
abbrev vx_CSW (R : Room) (s : State) (args : Array Value) (own : String) (index : Nat) (y : MethodName) (bytes : ByteArray) (maxL : Nat) (ret : Option FieldType) (hh : List (Nat × Nat × Nat × Nat)) (ws : List Cond) (rm : Room) (mc ms n : Nat) : Prop :=
  (rm.cells = mc ∧ rm.slots = ms ∧ rm.frames + 1 ≤ R.frames ∧ 8 + (maxL + 11) + rm.locals ≤ R.locals ∧ (∀ w ∈ ws, ∀ (a' : Array Value) (U : State), s.WarmedH U.vm → w.before a' U = true) ∧ Cond.codeWith y bytes maxL ret hh ∈ ws) ∧
  (Cond.codeWith y bytes maxL ret hh).before args s = true ∧ (Cond.initialized y.cls).before args s = true ∧ (y.cls ≠ "java/lang/invoke/MethodHandle" ∧ y.cls ≠ "java/lang/invoke/VarHandle") ∧
  (∀ sig, parseMethodDescriptor y.desc = some sig → n = sig.parameters.length) ∧ (Cond.methodLink own index y).before args s = true ∧ (Cond.static y).before args s = true
theorem vx_cwSW {own : String} {index maxL mc ms : Nat} {y : MethodName} {bytes : ByteArray} {ret : Option FieldType} {hh : List (Nat × Nat × Nat × Nat)} {Ts ws ws' : List Cond} {rm : Room} (n : Nat) (ht : ∀ w ∈ Ts, w.before args s = true) (hT : GoodIn Ts (va_wsS own index y ws)) (hw : ws = Cond.codeWith y bytes maxL ret hh :: ws') (hrc : rm.cells = mc) (hrs : rm.slots = ms)
    (hd : y.cls ≠ "java/lang/invoke/MethodHandle" ∧ y.cls ≠ "java/lang/invoke/VarHandle" ∧ (parseMethodDescriptor y.desc).map (fun d => d.parameters.length) = some n) (hR : rm.frames + 1 ≤ R.frames ∧ 8 + (maxL + 11) + rm.locals ≤ R.locals) :
    vx_CSW R s args own index y bytes maxL ret hh ws rm mc ms n := by
  have ok : ∀ w ∈ va_wsS own index y ws, w.before args s = true := fun w h => ht w (hT w h).1
  have hG : GoodIn Ts ws := fun w h => hT w (by unfold va_wsS; exact List.mem_append_right _ h)
  have hc : Cond.codeWith y bytes maxL ret hh ∈ ws := by rw [hw]; exact List.mem_cons_self
  refine ⟨⟨hrc, hrs, hR.1, hR.2, pay_in ht hG, hc⟩, ht _ (hG _ hc).1, ok _ (by simp [va_wsS]), ⟨hd.1, hd.2.1⟩, fun sig h => ?_, ok _ (by simp [va_wsS]), ok _ (by simp [va_wsS])⟩
  have h2 := hd.2.2
  rw [h] at h2
  exact (Option.some.inj h2).symm
theorem vx_callSW (X : Stand p l e R s m args below meth c T locs cells slots) (hexec : p.tables.exec = Jvm.exec) {own : String} {index : Nat} {y : MethodName} {bytes : ByteArray} {maxL : Nat} {ret : Option FieldType} {hh : List (Nat × Nat × Nat × Nat)}
    (hown : s.vm.findClass own = some m.cls) (hlink : (Cond.methodLink own index y).before args s = true) (hstat : (Cond.static y).before args s = true) (hinit : (Cond.initialized y.cls).before args s = true)
    (hcode : (Cond.codeWith y bytes maxL ret hh).before args s = true) (hy : y.cls ≠ "java/lang/invoke/MethodHandle" ∧ y.cls ≠ "java/lang/invoke/VarHandle")
    {W9 : Nat} {Pre : Pt → Array Value → Prop} {Post : Pt → Array Value → Option Value → Pt → Prop} (hK : Back l R p e below s args y 3 W9 Pre Post)
    {g : JFrame} (hg : g.method = m) (hsize : g.locals.size = c.maxLocals) {argsL rest : List Value} (hlen : ∀ sig, parseMethodDescriptor y.desc = some sig → argsL.length = sig.parameters.length)
    (hstack : g.stack = argsL.reverse ++ rest) (hW : 2 * g.monitorRoom + (rest.map fun v => v.category).sum ≤ W9) (hdg : decode c.code g.pc = .ok (.invokestatic index, 3))
    (hpre : ∀ vm₁, s.WarmedH vm₁ → Pre ⟨T.setVm vm₁, locs, cells, slots⟩ argsL.toArray) :
    ∃ (v : Option Value) (vm₁ : Vm) (B : Pt), s.WarmedH vm₁ ∧ Stand p l e R s m args below meth c B.U B.locs B.cells B.slots ∧ Post ⟨T.setVm vm₁, locs, cells, slots⟩ argsL.toArray v B ∧
      ∀ target, Steps p.tables e below (B.U.setTop { g with pc := g.pc + 3, stack := v.toList ++ rest }) target → Steps p.tables e below (T.setTop g) target := by
  obtain ⟨mk, methM, cM, hnamed, hmethM, -, -, -, -, -, -, hsigM⟩ := Cond.codeWith_spec hcode
  have hstatic : methM.isStatic = true := Cond.static_spec hnamed hmethM hstat
  obtain ⟨kP, hkP, -⟩ := className_of_methodNamed hnamed
  have hinitP : kP.init = .initialized := Cond.initialized_spec (findClass_of_methodNamed hnamed) hkP hinit
  obtain ⟨vm₁, X₁, hstep₁⟩ := X.invokestatic hexec hown hlink hnamed hmethM hstatic hkP hinitP hy (g := g) hg (argsL := argsL) (rest := rest) (hlen _ hsigM) hstack hdg
  obtain ⟨v, B, X', hpost, hsteps⟩ := hK m meth c ⟨T.setVm vm₁, locs, cells, slots⟩ { g with stack := rest } (.invokestatic index) mk argsL.toArray X₁ hg hsize hdg hW (X₁.named hnamed) (hpre vm₁ X₁.warmed)
  exact ⟨v, vm₁, B, X₁.warmed, X', hpost, fun target h => hstep₁ _ fun acts => by rw [doInvoke_state]; exact hsteps.trans h⟩
theorem vx_runSW {y : MethodName} {bytes cc : ByteArray} {maxL nL mc ms n index : Nat} {ret : Option FieldType} {hh : List (Nat × Nat × Nat × Nat)} {ws : List Cond} {rm : Room} {Pc : Array Value → State → Prop} {Qc : Array Value → State → Outcome → State → Prop} {free : Addr → Prop} {Ts : List Cond} {own : String} {As rest : List Value} {g : JFrame}
    (S : CallFix p m c cc nL s args Ts own) (hM : Met l y ws rm Pc Qc mc ms free) (cw : vx_CSW R s args own index y bytes maxL ret hh ws rm mc ms n) (hp : PreS s H Pc As)
    (hg : g.method = m) (hn : As.length = n) (hsize : g.locals.size = nL) (hstack : g.stack = As.reverse ++ rest) (hW : 2 * g.monitorRoom + (rest.map fun v => v.category).sum ≤ 8) (hdg : decode cc g.pc = .ok (.invokestatic index, 3)) (hf : cells + mc ≤ R.cells ∧ slots + ms ≤ R.slots) :
    va_Run p l e R s m args below meth c H locs cells slots mc ms g rest (Qc As.toArray) (free) := by
  obtain ⟨⟨hrc, hrs, hfr, hlo, hws, hcw⟩, hcode, hini, hy, hlen, hl, hstt⟩ := cw
  have hK : Back l R p e below s args y 3 8 (PreOf R mc ms Pc) (PostOf Qc mc ms free) := va_backW (hh := hh) (bytes := bytes) (maxL := maxL) (ret := ret) hM hp.1 hrc hrs hfr hlo hws hcw (fun a' U hW => word_at hW (Or.inl (by first | rfl | simp [Cond.onTables, Cond.keeps, Cond.steady])) hini)
  obtain ⟨hx, hb, hml, ho, -⟩ := S
  intro T hT X
  obtain ⟨v, vm₁, ⟨U', l2, c2, s2⟩, hW₁, X', ⟨g', mk, t, L, e1, e2, hq, h1, hL, h2, h3⟩, st⟩ := vx_callSW X hx (hh := hh) (bytes := bytes) (maxL := maxL) (ret := ret) ho hl hstt hini hcode hy hK hg (hsize.trans hml.symm) (argsL := As) (rest := rest) (fun sig h => hn.trans (hlen sig h)) hstack hW (by rw [hb]; exact hdg)
    (fun vm₁ hW₁ => ⟨hf.1, hf.2, hp.2 (T.setVm vm₁) hT hW₁⟩)
  dsimp only [Pt.U, Pt.locs, Pt.cells, Pt.slots] at X' e1 e2 h1 h2 h3 st
  subst h1; subst h2; subst h3
  exact ⟨v, (T.setVm vm₁).calling g' mk As.toArray, t, U', L, hT, X', hL, e1, e2, hq, st⟩
/-- not caught here, past rows that name other classes: it goes on to the caller -/
theorem vx_outP {p : Program} {l : Launch} {e : Env} {R : Room} {s : State} {m : MethodId} {args : Array Value} {below : List Frame} {meth : Method} {c : Code} {H : Heap} {locs : List Loc} {cells slots : Nat} {free : Addr → Prop} {ls : Array Slot} {rest : List Value} {Qc : Array Value → State → Outcome → State → Prop} {XC : String → State → State → Prop}
    {pc : Nat} {own E : String} {ce : Cell} {q : Addr} {mc ms : Nat} (hown : s.vm.findClass own = some m.cls) (hlocks : meth.locks = false)
    (hpass : ∀ z ∈ c.exceptionTable.toList, covers z pc = false ∨ (z.catchType ≠ 0 ∧ ∃ nm : String, (Cond.classLink own z.catchType nm).before args s = true ∧ va_Nc E nm s)) (hcell : H[q]? = some ce) (hv : ce.vm = .none) (hcl : s.vm.findClass E = some ce.cls)
    (hx : ∀ t : State, t.heap = H → s.vm.Alike t.vm → XC E s t) (hf : ∀ z ∈ locs, free z.base) (hc : cells ≤ mc) (hs : slots ≤ ms) :
    vx_W p l e R s m args below meth c H locs cells slots (vx_MQ below Qc XC args s mc ms free) (F0 m pc ls rest) q := by
  intro T hT X
  have hpl : e.platform.magicAccessors = ({} : Platform).magicAccessors := by rw [X.admits.platform]
  obtain ⟨vm', hW', X', st⟩ := X.outThrough hlocks q (g := F0 m pc ls rest) rfl rfl rfl (cell := ce) (by rw [hT]; exact hcell) (by rw [hv]; rfl)
    (by obtain ⟨k9, h9, -⟩ := Vm.findClass_spec hcl; exact ⟨k9, h9⟩) (fun z hz => by
      rcases hpass z hz with h | ⟨hz0, nm, hl1, hn1⟩
      · exact Or.inl h
      · obtain ⟨c6, hc6, hcl6⟩ := Cond.classLink_spec hown hl1 e.platform hpl
        obtain ⟨a8, b8, h1, h2, h3⟩ := hn1
        cases Option.some.inj (h1.symm.trans hcl)
        cases Option.some.inj (h2.symm.trans hc6)
        exact Or.inr ⟨hz0, _, hcl6, h3⟩)
  obtain ⟨g₀, hfr⟩ := X'.frames_eq
  have hcell9 : ((T.setVm vm').setFrames (.throwing q :: below)).heap[q]? = some ce := by
    show T.heap[q]? = some ce
    rw [hT]; exact hcell
  have hend : Ended ((T.setVm vm').setFrames (.throwing q :: below)) below (.threw q) := State.frames_setFrames _ (State.cur_lt_of_frames hfr)
  refine ⟨(T.setVm vm').setFrames (.throwing q :: below), ?_, .threw q, X'.here.running, hend, Or.inr ⟨q, rfl, E, ce, locs, hx _ hT (X'.ends _).1.alike, hcell9, hv, hcl, (X'.ends _).1, (X'.ends _).2.mono hc hs, hf⟩⟩
  rw [X.pushThrowing_eq]
  exact st
/-- a thing of a world lies in the heap -/
theorem vx_lt {D : va_G} {cl : List vw_C} {ws : va_W} {H1 : Heap} (h : va_P D cl ws H1) {k : Nat} {q : Nat × va_E} (hk : ws[k]? = some q) : q.1 < H1.size := (h k q hk).lt
end VXS
/-! ===== END ===== -/
/-! ===== BEGIN methods with a table of their own: called by a name, returning or throwing ===== -/
section VXH
/-! vx_backW, vx_callVX, vx_callSX, vx_callVW, vx_runVW, vx_runVX, vx_runSX, vx_ofWH follow the same proofs as their sisters above (Free/Laws.lean, Shelf42/LK1.lean); vx_outP calls Shelf42/NT130.lean (outThrough). -/
section
variable {l : Launch} {R : Room} {p : Program} {e : Env} {below : List Frame} {s : State} {sargs : Array Value} {y : MethodName} {len W9 : Nat}
theorem vx_backW {ws : List Cond} {rm : Room} {Pc : Array Value → State → Prop} {Qc : Array Value → State → Outcome → State → Prop} {XC : String → State → State → Prop} {mc ms : Nat} {free : Addr → Prop} {bytes : ByteArray} {maxL : Nat} {ret : Option FieldType} {hh : List (Nat × Nat × Nat × Nat)}
    (hM : vx_Met l y ws rm Pc Qc XC mc ms free) (hblind : FrameBlind Pc) (hrc : rm.cells = mc) (hrs : rm.slots = ms)
    (hframes : rm.frames + 1 ≤ R.frames) (hlocals : W9 + (maxL + 11) + rm.locals ≤ R.locals)
    (hws : ∀ w ∈ ws, ∀ a' U, s.WarmedH U.vm → w.before a' U = true) (hcode : Cond.codeWith y bytes maxL ret hh ∈ ws) (hinit : ∀ a' U, s.WarmedH U.vm → (Cond.initialized y.cls).before a' U = true) :
    vx_Back l R p e below s sargs y len W9 (PreOf R mc ms Pc) (PostOf Qc mc ms free) (vx_Post XC mc ms free) := by
  intro m meth c A g ig mk a X hg hsize hdg hW hn hp
  have h1 : (headSpec ws rm).pre.before a A.U = true := atoms_intro fun w hw => hws w hw _ _ X.warmed
  have h2 : (Cond.codeWith y bytes maxL ret hh).before a A.U = true := hws _ hcode _ _ X.warmed
  have h3 : (Cond.initialized y.cls).before a A.U = true := hinit _ _ X.warmed
  have h4 : A.cells + (headSpec ws rm).room.cells ≤ R.cells := by rw [show (headSpec ws rm).room.cells = mc from hrc]; exact hp.1
  have h5 : A.slots + (headSpec ws rm).room.slots ≤ R.slots := by rw [show (headSpec ws rm).room.slots = ms from hrs]; exact hp.2.1
  have hPc : Pc a (A.U.calling g mk a) := hblind _ _ _ _ hp.2.2
  obtain ⟨U, Ls, c0, s0⟩ := A
  dsimp only [Pt.U, Pt.locs, Pt.cells, Pt.slots] at h1 h2 h3 h4 h5 X hn hPc ⊢
  obtain ⟨m9, methY, cY, hn9, hmY, hcY, -, hlY, -⟩ := Cond.codeWith_spec h2
  cases Option.some.inj (hn9.symm.trans hn)
  obtain ⟨kY, hkY, -⟩ := className_of_methodNamed hn
  have hinitY : kY.init = .initialized := Cond.initialized_spec (findClass_of_methodNamed hn) hkY h3
  have h : At U g.method c below := by rw [hg]; exact X.here
  have hlocals9 : W9 + (maxL + 11) + (headSpec ws rm).room.locals ≤ R.locals := hlocals
  have happ : (headSpec ws rm).appliesLoose y e.platform (U.calling g mk a) = true :=
    Spec.appliesLoose_calling (g := g) h hdg hn hkY hinitY
      (X.room_calling (g := g) (R' := (headSpec ws rm).room) hsize hmY hcY hframes (by rw [hlY]; omega) h4 h5) h1
  obtain ⟨mid, hmid⟩ := h.above
  have hfr : (U.setTop g).frames = (.java g :: mid) ++ below := by rw [State.frames_setTop' g h.top, hmid]; rfl
  obtain ⟨o, s₂, hsteps, -, hend, hq⟩ := Steps.callFree hM p X.admits X.cas X.clock (acts := []) hfr happ hPc trivial
  have hq' : vx_Q Qc XC mc ms free a (U.calling g mk a) o s₂ := hq
  rw [State.frames_setTop' g h.top] at hend
  obtain ⟨g₀, hg0⟩ := Option.isSome_iff_exists.mp h.top
  obtain ⟨r, hr⟩ := State.topJava?_eq_some.mp hg0
  have hr' : (({ U with heap := s₂.heap, slotsUsed := s₂.slotsUsed } : State).setVm s₂.vm).frames = .java g₀ :: r := hr
  rcases hq' with ⟨hqc, L, hfe, hL⟩ | ⟨q, rfl, E, ce, L, hx, hce, hcv, hcl, hW₂, hsm, hL⟩
  · obtain ⟨⟨v, rfl⟩, hW₂, e2, q2, q3, q4, q5, q6⟩ := id hfe
    have e3 : s₂ = ({ (U.calling g mk a).setFrames s₂.frames with heap := s₂.heap, slotsUsed := s₂.slotsUsed } : State).setVm s₂.vm := by
      have : s₂ = ({ s₂ with vm := (U.calling g mk a).vm } : State).setVm s₂.vm := rfl
      rw [e2] at this
      exact this
    obtain ⟨c₂, i₂, len₂, hc₂, hd₂, hf₂⟩ := hend
    have hW' : U.WarmedH s₂.vm := hW₂
    have hcc : c₂ = c := by
      have h1 : s₂.code? g.method = U.code? g.method := by
        rw [State.code?_eq, State.code?_eq, hW'.alike.method?]
      exact Option.some.inj (hc₂.symm.trans (h1.trans h.code))
    subst hcc
    have hlen : len₂ = len := by rw [hdg] at hd₂; cases hd₂; rfl
    subst hlen
    have hs₂ : s₂ = (({ U with heap := s₂.heap, slotsUsed := s₂.slotsUsed } : State).setVm s₂.vm).setTop { g with pc := g.pc + len₂, stack := v.toList ++ g.stack } := by
      refine e3.trans ?_
      rw [hf₂, State.calling_eq h.top, State.setFrames_setFrames, State.setTop_of_frames _ hr', hr]
      rfl
    have hsame : U.sameButNew ({ U with heap := s₂.heap, slotsUsed := s₂.slotsUsed } : State) L mc ms := by
      refine ⟨?_, q2, q3, q4, q5, q6⟩
      obtain ⟨t, ht, -⟩ := State.frames_cons hr
      show ({ U with heap := s₂.heap, slotsUsed := s₂.slotsUsed } : State) = { U.setFrames U.frames with heap := s₂.heap, slotsUsed := s₂.slotsUsed }
      rw [State.setFrames_self ht]
    subst hg
    refine Or.inl ⟨v, ⟨(({ U with heap := s₂.heap, slotsUsed := s₂.slotsUsed } : State).setVm s₂.vm), Ls ++ L, c0 + mc, s0 + ms⟩,
      ⟨X.admits, X.cas, X.clock, X.frames, X.room, X.hears, X.method, X.code, (X.here.setHeapUsed s₂.heap s₂.slotsUsed).setVm hW'.alike, X.tail, State.WarmedH.trans X.warmed hW', X.limits, X.bytes, X.same.trans (hsame.setVm s.vm)⟩,
      ⟨g, mk, s₂, L, rfl, rfl, hqc, rfl, hL, rfl, rfl⟩, ?_⟩
    show Steps p.tables e below _ ((({ U with heap := s₂.heap, slotsUsed := s₂.slotsUsed } : State).setVm s₂.vm).setTop { g with pc := g.pc + len₂, stack := v.toList ++ g.stack })
    rw [← hs₂]
    exact hsteps
  · obtain ⟨e2, q2, q3, q4, q5, q6⟩ := id hsm
    have e3 : s₂ = ({ (U.calling g mk a).setFrames s₂.frames with heap := s₂.heap, slotsUsed := s₂.slotsUsed } : State).setVm s₂.vm := by
      have : s₂ = ({ s₂ with vm := (U.calling g mk a).vm } : State).setVm s₂.vm := rfl
      rw [e2] at this
      exact this
    have hf₂ : s₂.frames = .throwing q :: .java g :: U.frames.tail := hend
    have hW' : U.WarmedH s₂.vm := hW₂
    have hs₂ : s₂ = ((({ U with heap := s₂.heap, slotsUsed := s₂.slotsUsed } : State).setVm s₂.vm).setTop g).pushFrame (.throwing q) := by
      refine e3.trans ?_
      rw [hf₂, State.calling_eq h.top, State.setFrames_setFrames, State.pushFrame, State.frames_setTop _ hr', State.setTop_of_frames _ hr', State.setFrames_setFrames, hr]
      rfl
    have hsame : U.sameButNew ({ U with heap := s₂.heap, slotsUsed := s₂.slotsUsed } : State) L mc ms := by
      refine ⟨?_, q2, q3, q4, q5, q6⟩
      obtain ⟨t, ht, -⟩ := State.frames_cons hr
      show ({ U with heap := s₂.heap, slotsUsed := s₂.slotsUsed } : State) = { U.setFrames U.frames with heap := s₂.heap, slotsUsed := s₂.slotsUsed }
      rw [State.setFrames_self ht]
    subst hg
    refine Or.inr ⟨q, ⟨(({ U with heap := s₂.heap, slotsUsed := s₂.slotsUsed } : State).setVm s₂.vm), Ls ++ L, c0 + mc, s0 + ms⟩,
      ⟨X.admits, X.cas, X.clock, X.frames, X.room, X.hears, X.method, X.code, (X.here.setHeapUsed s₂.heap s₂.slotsUsed).setVm hW'.alike, X.tail, State.WarmedH.trans X.warmed hW', X.limits, X.bytes, X.same.trans (hsame.setVm s.vm)⟩,
      ⟨g, mk, s₂, L, E, ce, rfl, rfl, hx, hce, hcv, hcl, rfl, hL, rfl, rfl⟩, ?_⟩
    show Steps p.tables e below _ (((({ U with heap := s₂.heap, slotsUsed := s₂.slotsUsed } : State).setVm s₂.vm).setTop g).pushFrame (.throwing q))
    rw [← hs₂]
    exact hsteps
end
variable {p : Program} {l : Launch} {e : Env} {R : Room} {s : State} {m : MethodId} {args : Array Value} {below : List Frame} {meth : Method} {c : Code} {T : State} {H : Heap} {locs : List Loc} {cells slots : Nat}
theorem vx_callVX (X : Stand p l e R s m args below meth c T locs cells slots) (hexec : p.tables.exec = Jvm.exec) {own C : String} {index : Nat} {y : MethodName} {bytes : ByteArray} {maxL : Nat} {ret : Option FieldType} {hh : List (Nat × Nat × Nat × Nat)}
    (hown : s.vm.findClass own = some m.cls) (hlink : (Cond.methodLink own index y).before args s = true) (hinst : (Cond.instanceMethod y).before args s = true) (hsel : (Cond.selects C y y).before args s = true)
    (hcode : (Cond.codeWith y bytes maxL ret hh).before args s = true) (hy : y.cls ≠ "java/lang/invoke/MethodHandle" ∧ y.cls ≠ "java/lang/invoke/VarHandle")
    {W9 : Nat} {Pre : Pt → Array Value → Prop} {Post : Pt → Array Value → Option Value → Pt → Prop} {PostX : Pt → Array Value → Addr → Pt → Prop} (hK : vx_Back l R p e below s args y 3 W9 Pre Post PostX)
    {b : Addr} {cellB : Cell} (hcell : T.heap[b]? = some cellB) (hobj : cellB.vm.isStatics = false) (hcls : s.vm.findClass C = some cellB.cls)
    {g : JFrame} (hg : g.method = m) (hsize : g.locals.size = c.maxLocals) {argsL rest : List Value} (hlen : ∀ sig, parseMethodDescriptor y.desc = some sig → argsL.length = sig.parameters.length)
    (hstack : g.stack = argsL.reverse ++ .ref b :: rest) (hW : 2 * g.monitorRoom + (rest.map fun v => v.category).sum ≤ W9) (hdg : decode c.code g.pc = .ok (.invokevirtual index, 3))
    (hpre : ∀ vm₁, s.WarmedH vm₁ → Pre ⟨T.setVm vm₁, locs, cells, slots⟩ (Value.ref b :: argsL).toArray) :
    (∃ (v : Option Value) (vm₁ : Vm) (B : Pt), s.WarmedH vm₁ ∧ Stand p l e R s m args below meth c B.U B.locs B.cells B.slots ∧ Post ⟨T.setVm vm₁, locs, cells, slots⟩ (Value.ref b :: argsL).toArray v B ∧
      ∀ target, Steps p.tables e below (B.U.setTop { g with pc := g.pc + 3, stack := v.toList ++ rest }) target → Steps p.tables e below (T.setTop g) target) ∨
    (∃ (q : Addr) (vm₁ : Vm) (B : Pt), s.WarmedH vm₁ ∧ Stand p l e R s m args below meth c B.U B.locs B.cells B.slots ∧ PostX ⟨T.setVm vm₁, locs, cells, slots⟩ (Value.ref b :: argsL).toArray q B ∧
      Steps p.tables e below (T.setTop g) ((B.U.setTop { g with stack := rest }).pushFrame (.throwing q))) := by
  obtain ⟨mk, methM, hnamed, hmethM, hstM, habM⟩ := Cond.instanceMethod_spec hinst
  obtain ⟨m8, methM', cM, hn8, hmethM', -, -, -, -, -, -, hsigM⟩ := Cond.codeWith_spec hcode
  cases Option.some.inj (hn8.symm.trans hnamed)
  cases hmethM.symm.trans hmethM'
  obtain ⟨c2, r2, m2, q1, q2, q3, q4, kP, hkP, hkPi⟩ := Cond.selects_spec hsel
  cases hcls.symm.trans q1
  cases (State.methodFound?_of_named hnamed hy).symm.trans q2
  cases hnamed.symm.trans q3
  have hselP : selectMethod e.platform s.vm cellB.cls mk = .method mk := by rw [Launch.admits_selectMethod X.admits]; exact q4
  obtain ⟨vm₁, X₁, hstep₁⟩ := X.invokevirtual hexec hown hlink hnamed hmethM hstM hkP hkPi hy (a := b) (cell := cellB) hcell
    (fun z h => by rw [h] at hobj; cases hobj) hselP hmethM habM hkP hkPi (g := g) hg (argsL := argsL) (rest := rest) (hlen _ hsigM) hstack hdg
  rcases hK m meth c ⟨T.setVm vm₁, locs, cells, slots⟩ { g with stack := rest } (.invokevirtual index) mk (Value.ref b :: argsL).toArray X₁ hg hsize hdg hW (X₁.named hnamed) (hpre vm₁ X₁.warmed) with ⟨v, B, X', hpost, hsteps⟩ | ⟨q, B, X', hpost, hsteps⟩
  · exact Or.inl ⟨v, vm₁, B, X₁.warmed, X', hpost, fun target h => hstep₁ _ fun acts => by rw [doInvoke_state]; exact hsteps.trans h⟩
  · exact Or.inr ⟨q, vm₁, B, X₁.warmed, X', hpost, hstep₁ _ fun acts => by rw [doInvoke_state]; exact hsteps⟩
theorem vx_callSX (X : Stand p l e R s m args below meth c T locs cells slots) (hexec : p.tables.exec = Jvm.exec) {own : String} {index : Nat} {y : MethodName} {bytes : ByteArray} {maxL : Nat} {ret : Option FieldType} {hh : List (Nat × Nat × Nat × Nat)}
    (hown : s.vm.findClass own = some m.cls) (hlink : (Cond.methodLink own index y).before args s = true) (hstat : (Cond.static y).before args s = true) (hinit : (Cond.initialized y.cls).before args s = true)
    (hcode : (Cond.codeWith y bytes maxL ret hh).before args s = true) (hy : y.cls ≠ "java/lang/invoke/MethodHandle" ∧ y.cls ≠ "java/lang/invoke/VarHandle")
    {W9 : Nat} {Pre : Pt → Array Value → Prop} {Post : Pt → Array Value → Option Value → Pt → Prop} {PostX : Pt → Array Value → Addr → Pt → Prop} (hK : vx_Back l R p e below s args y 3 W9 Pre Post PostX)
    {g : JFrame} (hg : g.method = m) (hsize : g.locals.size = c.maxLocals) {argsL rest : List Value} (hlen : ∀ sig, parseMethodDescriptor y.desc = some sig → argsL.length = sig.parameters.length)
    (hstack : g.stack = argsL.reverse ++ rest) (hW : 2 * g.monitorRoom + (rest.map fun v => v.category).sum ≤ W9) (hdg : decode c.code g.pc = .ok (.invokestatic index, 3))
    (hpre : ∀ vm₁, s.WarmedH vm₁ → Pre ⟨T.setVm vm₁, locs, cells, slots⟩ argsL.toArray) :
    (∃ (v : Option Value) (vm₁ : Vm) (B : Pt), s.WarmedH vm₁ ∧ Stand p l e R s m args below meth c B.U B.locs B.cells B.slots ∧ Post ⟨T.setVm vm₁, locs, cells, slots⟩ argsL.toArray v B ∧
      ∀ target, Steps p.tables e below (B.U.setTop { g with pc := g.pc + 3, stack := v.toList ++ rest }) target → Steps p.tables e below (T.setTop g) target) ∨
    (∃ (q : Addr) (vm₁ : Vm) (B : Pt), s.WarmedH vm₁ ∧ Stand p l e R s m args below meth c B.U B.locs B.cells B.slots ∧ PostX ⟨T.setVm vm₁, locs, cells, slots⟩ argsL.toArray q B ∧
      Steps p.tables e below (T.setTop g) ((B.U.setTop { g with stack := rest }).pushFrame (.throwing q))) := by
  obtain ⟨mk, methM, cM, hnamed, hmethM, -, -, -, -, -, -, hsigM⟩ := Cond.codeWith_spec hcode
  have hstatic : methM.isStatic = true := Cond.static_spec hnamed hmethM hstat
  obtain ⟨kP, hkP, -⟩ := className_of_methodNamed hnamed
  have hinitP : kP.init = .initialized := Cond.initialized_spec (findClass_of_methodNamed hnamed) hkP hinit
  obtain ⟨vm₁, X₁, hstep₁⟩ := X.invokestatic hexec hown hlink hnamed hmethM hstatic hkP hinitP hy (g := g) hg (argsL := argsL) (rest := rest) (hlen _ hsigM) hstack hdg
  rcases hK m meth c ⟨T.setVm vm₁, locs, cells, slots⟩ { g with stack := rest } (.invokestatic index) mk argsL.toArray X₁ hg hsize hdg hW (X₁.named hnamed) (hpre vm₁ X₁.warmed) with ⟨v, B, X', hpost, hsteps⟩ | ⟨q, B, X', hpost, hsteps⟩
  · exact Or.inl ⟨v, vm₁, B, X₁.warmed, X', hpost, fun target h => hstep₁ _ fun acts => by rw [doInvoke_state]; exact hsteps.trans h⟩
  · exact Or.inr ⟨q, vm₁, B, X₁.warmed, X', hpost, hstep₁ _ fun acts => by rw [doInvoke_state]; exact hsteps⟩
theorem vx_callVW (X : Stand p l e R s m args below meth c T locs cells slots) (hexec : p.tables.exec = Jvm.exec) {own C : String} {index : Nat} {y : MethodName} {bytes : ByteArray} {maxL : Nat} {ret : Option FieldType} {hh : List (Nat × Nat × Nat × Nat)}
    (hown : s.vm.findClass own = some m.cls) (hlink : (Cond.methodLink own index y).before args s = true) (hinst : (Cond.instanceMethod y).before args s = true) (hsel : (Cond.selects C y y).before args s = true)
    (hcode : (Cond.codeWith y bytes maxL ret hh).before args s = true) (hy : y.cls ≠ "java/lang/invoke/MethodHandle" ∧ y.cls ≠ "java/lang/invoke/VarHandle")
    {W9 : Nat} {Pre : Pt → Array Value → Prop} {Post : Pt → Array Value → Option Value → Pt → Prop} (hK : Back l R p e below s args y 3 W9 Pre Post)
    {b : Addr} {cellB : Cell} (hcell : T.heap[b]? = some cellB) (hobj : cellB.vm.isStatics = false) (hcls : s.vm.findClass C = some cellB.cls)
    {g : JFrame} (hg : g.method = m) (hsize : g.locals.size = c.maxLocals) {argsL rest : List Value} (hlen : ∀ sig, parseMethodDescriptor y.desc = some sig → argsL.length = sig.parameters.length)
    (hstack : g.stack = argsL.reverse ++ .ref b :: rest) (hW : 2 * g.monitorRoom + (rest.map fun v => v.category).sum ≤ W9) (hdg : decode c.code g.pc = .ok (.invokevirtual index, 3))
    (hpre : ∀ vm₁, s.WarmedH vm₁ → Pre ⟨T.setVm vm₁, locs, cells, slots⟩ (Value.ref b :: argsL).toArray) :
    ∃ (v : Option Value) (vm₁ : Vm) (B : Pt), s.WarmedH vm₁ ∧ Stand p l e R s m args below meth c B.U B.locs B.cells B.slots ∧ Post ⟨T.setVm vm₁, locs, cells, slots⟩ (Value.ref b :: argsL).toArray v B ∧
      ∀ target, Steps p.tables e below (B.U.setTop { g with pc := g.pc + 3, stack := v.toList ++ rest }) target → Steps p.tables e below (T.setTop g) target := by
  obtain ⟨mk, methM, hnamed, hmethM, hstM, habM⟩ := Cond.instanceMethod_spec hinst
  obtain ⟨m8, methM', cM, hn8, hmethM', -, -, -, -, -, -, hsigM⟩ := Cond.codeWith_spec hcode
  cases Option.some.inj (hn8.symm.trans hnamed)
  cases hmethM.symm.trans hmethM'
  obtain ⟨c2, r2, m2, q1, q2, q3, q4, kP, hkP, hkPi⟩ := Cond.selects_spec hsel
  cases hcls.symm.trans q1
  cases (State.methodFound?_of_named hnamed hy).symm.trans q2
  cases hnamed.symm.trans q3
  have hselP : selectMethod e.platform s.vm cellB.cls mk = .method mk := by rw [Launch.admits_selectMethod X.admits]; exact q4
  obtain ⟨vm₁, X₁, hstep₁⟩ := X.invokevirtual hexec hown hlink hnamed hmethM hstM hkP hkPi hy (a := b) (cell := cellB) hcell
    (fun z h => by rw [h] at hobj; cases hobj) hselP hmethM habM hkP hkPi (g := g) hg (argsL := argsL) (rest := rest) (hlen _ hsigM) hstack hdg
  obtain ⟨v, B, X', hpost, hsteps⟩ := hK m meth c ⟨T.setVm vm₁, locs, cells, slots⟩ { g with stack := rest } (.invokevirtual index) mk (Value.ref b :: argsL).toArray X₁ hg hsize hdg hW (X₁.named hnamed) (hpre vm₁ X₁.warmed)
  exact ⟨v, vm₁, B, X₁.warmed, X', hpost, fun target h => hstep₁ _ fun acts => by rw [doInvoke_state]; exact hsteps.trans h⟩
abbrev vx_CVW (R : Room) (s : State) (args : Array Value) (own C : String) (index : Nat) (y : MethodName) (bytes : ByteArray) (maxL : Nat) (ret : Option FieldType) (hh : List (Nat × Nat × Nat × Nat)) (ws : List Cond) (rm : Room) (mc ms n : Nat) : Prop :=
  (rm.cells = mc ∧ rm.slots = ms ∧ rm.frames + 1 ≤ R.frames ∧ 8 + (maxL + 11) + rm.locals ≤ R.locals ∧ (∀ w ∈ ws, ∀ (a' : Array Value) (U : State), s.WarmedH U.vm → w.before a' U = true) ∧ Cond.codeWith y bytes maxL ret hh ∈ ws) ∧
  (Cond.codeWith y bytes maxL ret hh).before args s = true ∧ (Cond.initialized y.cls).before args s = true ∧ (y.cls ≠ "java/lang/invoke/MethodHandle" ∧ y.cls ≠ "java/lang/invoke/VarHandle") ∧
  (∀ sig, parseMethodDescriptor y.desc = some sig → n = sig.parameters.length) ∧ (Cond.methodLink own index y).before args s = true ∧ (Cond.instanceMethod y).before args s = true ∧ (Cond.selects C y y).before args s = true
theorem vx_cwVW {own C : String} {index maxL mc ms : Nat} {y : MethodName} {bytes : ByteArray} {ret : Option FieldType} {hh : List (Nat × Nat × Nat × Nat)} {Ts ws ws' : List Cond} {rm : Room} (n : Nat) (ht : ∀ w ∈ Ts, w.before args s = true) (hT : GoodIn Ts (wsV own index C y ws)) (hw : ws = Cond.codeWith y bytes maxL ret hh :: ws') (hrc : rm.cells = mc) (hrs : rm.slots = ms)
    (hd : y.cls = C ∧ y.cls ≠ "java/lang/invoke/MethodHandle" ∧ y.cls ≠ "java/lang/invoke/VarHandle" ∧ (parseMethodDescriptor y.desc).map (fun d => d.parameters.length) = some n) (hR : rm.frames + 1 ≤ R.frames ∧ 8 + (maxL + 11) + rm.locals ≤ R.locals) :
    vx_CVW R s args own C index y bytes maxL ret hh ws rm mc ms n := by
  obtain ⟨hC, hd⟩ := hd
  subst hC
  have ok : ∀ w ∈ wsV own index y.cls y ws, w.before args s = true := fun w h => ht w (hT w h).1
  have hG : GoodIn Ts ws := fun w h => hT w (by unfold wsV; exact List.mem_append_right _ h)
  have hc : Cond.codeWith y bytes maxL ret hh ∈ ws := by rw [hw]; exact List.mem_cons_self
  refine ⟨⟨hrc, hrs, hR.1, hR.2, pay_in ht hG, hc⟩, ht _ (hG _ hc).1, ok _ (by simp [wsV]), ⟨hd.1, hd.2.1⟩, fun sig h => ?_, ok _ (by simp [wsV]), ok _ (by simp [wsV]), ok _ (by simp [wsV])⟩
  have h2 := hd.2.2
  rw [h] at h2
  exact (Option.some.inj h2).symm
theorem vx_runVW {y : MethodName} {bytes cc : ByteArray} {maxL nL mc ms n index : Nat} {ret : Option FieldType} {hh : List (Nat × Nat × Nat × Nat)} {ws : List Cond} {rm : Room} {Pc : Array Value → State → Prop} {Qc : Array Value → State → Outcome → State → Prop} {free : Addr → Prop} {Ts : List Cond} {own C : String} {b : Addr} {As rest : List Value} {g : JFrame}
    (S : CallFix p m c cc nL s args Ts own) (hM : Met l y ws rm Pc Qc mc ms free) (cw : vx_CVW R s args own C index y bytes maxL ret hh ws rm mc ms n) (hp : PreV s H C b Pc As)
    (hg : g.method = m) (hn : As.length = n) (hsize : g.locals.size = nL) (hstack : g.stack = As.reverse ++ .ref b :: rest) (hW : 2 * g.monitorRoom + (rest.map fun v => v.category).sum ≤ 8) (hdg : decode cc g.pc = .ok (.invokevirtual index, 3)) (hf : cells + mc ≤ R.cells ∧ slots + ms ≤ R.slots) :
    va_Run p l e R s m args below meth c H locs cells slots mc ms g rest (Qc (Value.ref b :: As).toArray) free := by
  obtain ⟨⟨hrc, hrs, hfr, hlo, hws, hcw⟩, hcode, hini, hy, hlen, hl, hin, hse⟩ := cw
  have hK : Back l R p e below s args y 3 8 (PreOf R mc ms Pc) (PostOf Qc mc ms free) := va_backW (hh := hh) (bytes := bytes) (maxL := maxL) (ret := ret) hM hp.1 hrc hrs hfr hlo hws hcw (fun a' U hW => word_at hW (Or.inl (by first | rfl | simp [Cond.onTables, Cond.keeps, Cond.steady])) hini)
  obtain ⟨hx, hb, hml, ho, -⟩ := S
  obtain ⟨-, ⟨cellB, hcB, hoB, hclB⟩, hPc⟩ := hp
  intro T hT X
  obtain ⟨v, vm₁, ⟨U', l2, c2, s2⟩, hW₁, X', ⟨g', mk, t, L, e1, e2, hq, h1, hL, h2, h3⟩, st⟩ := vx_callVW X hx (C := C) (hh := hh) (bytes := bytes) (maxL := maxL) (ret := ret) ho hl hin hse hcode hy hK (by rw [hT]; exact hcB) hoB hclB hg (hsize.trans hml.symm) (argsL := As) (rest := rest) (fun sig h => hn.trans (hlen sig h)) hstack hW (by rw [hb]; exact hdg)
    (fun vm₁ hW₁ => ⟨hf.1, hf.2, hPc (T.setVm vm₁) hT hW₁⟩)
  dsimp only [Pt.U, Pt.locs, Pt.cells, Pt.slots] at X' e1 e2 h1 h2 h3 st
  subst h1; subst h2; subst h3
  exact ⟨v, (T.setVm vm₁).calling g' mk (Value.ref b :: As).toArray, t, U', L, hT, X', hL, e1, e2, hq, st⟩
section
variable {y : MethodName} {bytes cc : ByteArray} {maxL nL mc ms n index : Nat} {ret : Option FieldType} {ws : List Cond} {rm : Room} {Pc : Array Value → State → Prop} {Qc : Array Value → State → Outcome → State → Prop} {XC : String → State → State → Prop} {free : Addr → Prop} {Ts : List Cond} {own C : String} {b : Addr} {As rest : List Value} {g : JFrame}
theorem vx_runVX {hh : List (Nat × Nat × Nat × Nat)} (S : CallFix p m c cc nL s args Ts own) (hM : vx_Met l y ws rm Pc Qc XC mc ms free) (cw : vx_CVW R s args own C index y bytes maxL ret hh ws rm mc ms n) (hp : PreV s H C b Pc As)
    (hg : g.method = m) (hn : As.length = n) (hsize : g.locals.size = nL) (hstack : g.stack = As.reverse ++ .ref b :: rest) (hW : 2 * g.monitorRoom + (rest.map fun v => v.category).sum ≤ 8) (hdg : decode cc g.pc = .ok (.invokevirtual index, 3)) (hf : cells + mc ≤ R.cells ∧ slots + ms ≤ R.slots) :
    vx_Run p l e R s m args below meth c H locs cells slots mc ms g rest (Qc (Value.ref b :: As).toArray) XC free := by
  obtain ⟨⟨hrc, hrs, hfr, hlo, hws, hcw⟩, hcode, hini, hy, hlen, hl, hin, hse⟩ := cw
  have hK : vx_Back l R p e below s args y 3 8 (PreOf R mc ms Pc) (PostOf Qc mc ms free) (vx_Post XC mc ms free) := vx_backW (hh := hh) (bytes := bytes) (maxL := maxL) (ret := ret) hM hp.1 hrc hrs hfr hlo hws hcw (fun a' U hW => word_at hW (Or.inl (by first | rfl | simp [Cond.onTables, Cond.keeps, Cond.steady])) hini)
  obtain ⟨hx, hb, hml, ho, -⟩ := S
  obtain ⟨-, ⟨cellB, hcB, hoB, hclB⟩, hPc⟩ := hp
  intro T hT X
  rcases vx_callVX X hx (C := C) (hh := hh) (bytes := bytes) (maxL := maxL) (ret := ret) ho hl hin hse hcode hy hK (by rw [hT]; exact hcB) hoB hclB hg (hsize.trans hml.symm) (argsL := As) (rest := rest) (fun sig h => hn.trans (hlen sig h)) hstack hW (by rw [hb]; exact hdg)
    (fun vm₁ hW₁ => ⟨hf.1, hf.2, hPc (T.setVm vm₁) hT hW₁⟩) with ⟨v, vm₁, ⟨U', l2, c2, s2⟩, hW₁, X', ⟨g', mk, t, L, e1, e2, hq, h1, hL, h2, h3⟩, st⟩ | ⟨q, vm₁, ⟨U', l2, c2, s2⟩, hW₁, X', ⟨g', mk, t, L, E, ce, e1, e2, hq, hce, hcv, hcl, h1, hL, h2, h3⟩, st⟩
  · dsimp only [Pt.U, Pt.locs, Pt.cells, Pt.slots] at X' e1 e2 h1 h2 h3 st
    subst h1; subst h2; subst h3
    exact Or.inl ⟨v, (T.setVm vm₁).calling g' mk (Value.ref b :: As).toArray, t, U', L, hT, X', hL, e1, e2, hq, st⟩
  · dsimp only [Pt.U, Pt.locs, Pt.cells, Pt.slots] at X' e1 e2 h1 h2 h3 st hcl
    subst h1; subst h2; subst h3
    exact Or.inr ⟨q, (T.setVm vm₁).calling g' mk (Value.ref b :: As).toArray, t, U', L, E, ce, hT, X', hL, e1, e2, hq, hce, hcv, vx_cls hW₁ hcl, st⟩
theorem vx_runSX {hh : List (Nat × Nat × Nat × Nat)} (S : CallFix p m c cc nL s args Ts own) (hM : vx_Met l y ws rm Pc Qc XC mc ms free) (cw : vx_CSW R s args own index y bytes maxL ret hh ws rm mc ms n) (hp : PreS s H Pc As)
    (hg : g.method = m) (hn : As.length = n) (hsize : g.locals.size = nL) (hstack : g.stack = As.reverse ++ rest) (hW : 2 * g.monitorRoom + (rest.map fun v => v.category).sum ≤ 8) (hdg : decode cc g.pc = .ok (.invokestatic index, 3)) (hf : cells + mc ≤ R.cells ∧ slots + ms ≤ R.slots) :
    vx_Run p l e R s m args below meth c H locs cells slots mc ms g rest (Qc As.toArray) XC free := by
  obtain ⟨⟨hrc, hrs, hfr, hlo, hws, hcw⟩, hcode, hini, hy, hlen, hl, hstt⟩ := cw
  have hK : vx_Back l R p e below s args y 3 8 (PreOf R mc ms Pc) (PostOf Qc mc ms free) (vx_Post XC mc ms free) := vx_backW (hh := hh) (bytes := bytes) (maxL := maxL) (ret := ret) hM hp.1 hrc hrs hfr hlo hws hcw (fun a' U hW => word_at hW (Or.inl (by first | rfl | simp [Cond.onTables, Cond.keeps, Cond.steady])) hini)
  obtain ⟨hx, hb, hml, ho, -⟩ := S
  intro T hT X
  rcases vx_callSX X hx (hh := hh) (bytes := bytes) (maxL := maxL) (ret := ret) ho hl hstt hini hcode hy hK hg (hsize.trans hml.symm) (argsL := As) (rest := rest) (fun sig h => hn.trans (hlen sig h)) hstack hW (by rw [hb]; exact hdg)
    (fun vm₁ hW₁ => ⟨hf.1, hf.2, hp.2 (T.setVm vm₁) hT hW₁⟩) with ⟨v, vm₁, ⟨U', l2, c2, s2⟩, hW₁, X', ⟨g', mk, t, L, e1, e2, hq, h1, hL, h2, h3⟩, st⟩ | ⟨q, vm₁, ⟨U', l2, c2, s2⟩, hW₁, X', ⟨g', mk, t, L, E, ce, e1, e2, hq, hce, hcv, hcl, h1, hL, h2, h3⟩, st⟩
  · dsimp only [Pt.U, Pt.locs, Pt.cells, Pt.slots] at X' e1 e2 h1 h2 h3 st
    subst h1; subst h2; subst h3
    exact Or.inl ⟨v, (T.setVm vm₁).calling g' mk As.toArray, t, U', L, hT, X', hL, e1, e2, hq, st⟩
  · dsimp only [Pt.U, Pt.locs, Pt.cells, Pt.slots] at X' e1 e2 h1 h2 h3 st hcl
    subst h1; subst h2; subst h3
    exact Or.inr ⟨q, (T.setVm vm₁).calling g' mk As.toArray, t, U', L, E, ce, hT, X', hL, e1, e2, hq, hce, hcv, vx_cls hW₁ hcl, st⟩
end
end VXH
theorem vx_ofWH {l : Launch} {y : MethodName} {ws ws' : List Cond} {rm : Room} {Pc : Array Value → State → Prop} {Qc : Array Value → State → Outcome → State → Prop} {XC : String → State → State → Prop} {mc ms : Nat} {free : Addr → Prop} {cc : ByteArray} {maxL : Nat} {ret : Option FieldType} {hh : List (Nat × Nat × Nat × Nat)}
    (hy : plainName y.cls = true) (hw : ws = Cond.codeWith y cc maxL ret hh :: ws')
    (body : ∀ p e s m args below meth c s₁, BodyLoose p l y (headSpec ws rm) cc maxL ret e s m args below meth c s₁ → c.maxLocals = maxL → Pc args s →
      W p l e (headSpec ws rm).room s m args below meth c s.heap [] 0 0 (vx_MQ below Qc XC args s mc ms free) (entryFrame m args maxL)) : vx_Met l y ws rm Pc Qc XC mc ms free := by
  refine MetFree.of_bodyS (code := cc) (maxLocals := maxL) (ret := ret) hy ?_ ?_
  · intro args s m h hn
    obtain ⟨m9, meth, c, hn9, h1, h2, h3, h4, -, h5, h6, -⟩ := Cond.codeWith_spec (atoms_spec (ws := ws) h _ (by rw [hw]; exact List.mem_cons_self))
    cases hn.symm.trans hn9
    exact ⟨meth, c, h1, h2, h3, h4, h5, h6⟩
  · intro p e s m args below meth c s₁ B hml hP _
    have hh0 : s₁.heap = s.heap := by rw [B.state]; rfl
    obtain ⟨t, a1, o, b1, b2, b3⟩ := body p e s m args below meth c s₁ B hml hP s₁ hh0 (Stand.of_body B)
    exact ⟨t, o, a1, b1, b2, b3⟩
/-! ===== END ===== -/

/-! ===== BEGIN printed: names, fields, word lists, decode rows ===== -/
def RX0 : String := "OpenTricks$Cards"
def TX0 : u_T := fun k => match k with
  | _ => ("", "", "", false)
def tyX0 : Nat → FieldType := fun k => match k with
  | _ => .int
abbrev wsX00 : List Cond := u_ws RX0 TX0 0
theorem nmX0 : ∀ a, a < 0 → ∀ b, b < 0 → a ≠ b → (TX0 a).2.1 ≠ (TX0 b).2.1 := by decide +kernel
theorem tyX0_ok : ∀ k, k < 0 → parseFieldDescriptor (TX0 k).2.2.1 = some (tyX0 k) := by decide +kernel
abbrev cX0_holds : ByteArray := prog_2_method_2_code
def yX0_holds : MethodName := ⟨RX0, "holds", "(II)Z"⟩
abbrev cX0_suitOf : ByteArray := prog_2_method_3_code
def yX0_suitOf : MethodName := ⟨RX0, "suitOf", "(I)I"⟩
abbrev cX0_suitSet : ByteArray := prog_2_method_4_code
def yX0_suitSet : MethodName := ⟨RX0, "suitSet", "(I)I"⟩
abbrev cX0_lowest : ByteArray := prog_2_method_5_code
def yX0_lowest : MethodName := ⟨RX0, "lowest", "(I)I"⟩
abbrev cX0_highest : ByteArray := prog_2_method_6_code
def yX0_highest : MethodName := ⟨RX0, "highest", "(I)I"⟩
abbrev cX0_sideOf : ByteArray := prog_2_method_7_code
def yX0_sideOf : MethodName := ⟨RX0, "sideOf", "(I)I"⟩
abbrev cX0_equalBelow : ByteArray := prog_2_method_8_code
def yX0_equalBelow : MethodName := ⟨RX0, "equalBelow", "(III)I"⟩
abbrev cX0_lowestOfEquals : ByteArray := prog_2_method_9_code
def yX0_lowestOfEquals : MethodName := ⟨RX0, "lowestOfEquals", "(II)I"⟩
def RX1 : String := "OpenTricks$Game"
def TX1 : u_T := fun k => match k with
  | 0 => ("OpenTricks$Game", "hands", "[I", true)
  | 1 => ("OpenTricks$Game", "laid", "[I", true)
  | 2 => ("OpenTricks$Game", "leaders", "[I", true)
  | 3 => ("OpenTricks$Game", "trump", "I", false)
  | 4 => ("OpenTricks$Game", "given", "I", false)
  | 5 => ("OpenTricks$Game", "open", "Z", false)
  | 6 => ("OpenTricks$Game", "tricks", "I", false)
  | _ => ("OpenTricks$Game", "laidCount", "I", false)
def tyX1 : Nat → FieldType := fun k => match k with
  | 0 => .array .int
  | 1 => .array .int
  | 2 => .array .int
  | 3 => .int
  | 4 => .int
  | 5 => .boolean
  | 6 => .int
  | _ => .int
abbrev wsX10 : List Cond := u_ws RX1 TX1 8
theorem nmX1 : ∀ a, a < 8 → ∀ b, b < 8 → a ≠ b → (TX1 a).2.1 ≠ (TX1 b).2.1 := by decide +kernel
theorem tyX1_ok : ∀ k, k < 8 → parseFieldDescriptor (TX1 k).2.2.1 = some (tyX1 k) := by decide +kernel
abbrev cX1_init : ByteArray := prog_3_method_1_code
def yX1_init : MethodName := ⟨RX1, "<init>", "()V"⟩
abbrev cX1_clearFor : ByteArray := prog_3_method_2_code
def yX1_clearFor : MethodName := ⟨RX1, "clearFor", "(I)I"⟩
abbrev cX1_canDeal : ByteArray := prog_3_method_3_code
def yX1_canDeal : MethodName := ⟨RX1, "canDeal", "(II)Z"⟩
abbrev cX1_deal : ByteArray := prog_3_method_4_code
def yX1_deal : MethodName := ⟨RX1, "deal", "(II)I"⟩
abbrev cX1_canOpen : ByteArray := prog_3_method_5_code
def yX1_canOpen : MethodName := ⟨RX1, "canOpen", "()Z"⟩
abbrev cX1_open : ByteArray := prog_3_method_6_code
def yX1_open : MethodName := ⟨RX1, "open", "(I)I"⟩
abbrev cX1_isOpen : ByteArray := prog_3_method_7_code
def yX1_isOpen : MethodName := ⟨RX1, "isOpen", "()Z"⟩
abbrev cX1_laidCount : ByteArray := prog_3_method_8_code
def yX1_laidCount : MethodName := ⟨RX1, "laidCount", "()I"⟩
abbrev cX1_cardsLeft : ByteArray := prog_3_method_9_code
def yX1_cardsLeft : MethodName := ⟨RX1, "cardsLeft", "()I"⟩
abbrev cX1_tricksLeft : ByteArray := prog_3_method_10_code
def yX1_tricksLeft : MethodName := ⟨RX1, "tricksLeft", "()I"⟩
abbrev cX1_tricksOver : ByteArray := prog_3_method_11_code
def yX1_tricksOver : MethodName := ⟨RX1, "tricksOver", "()I"⟩
abbrev cX1_trickSize : ByteArray := prog_3_method_12_code
def yX1_trickSize : MethodName := ⟨RX1, "trickSize", "()I"⟩
abbrev cX1_mover : ByteArray := prog_3_method_13_code
def yX1_mover : MethodName := ⟨RX1, "mover", "()I"⟩
abbrev cX1_leaderOf : ByteArray := prog_3_method_14_code
def yX1_leaderOf : MethodName := ⟨RX1, "leaderOf", "(I)I"⟩
abbrev cX1_laidAt : ByteArray := prog_3_method_15_code
def yX1_laidAt : MethodName := ⟨RX1, "laidAt", "(I)I"⟩
abbrev cX1_handOf : ByteArray := prog_3_method_16_code
def yX1_handOf : MethodName := ⟨RX1, "handOf", "(I)I"⟩
abbrev cX1_addTo : ByteArray := prog_3_method_17_code
def yX1_addTo : MethodName := ⟨RX1, "addTo", "(II)V"⟩
abbrev cX1_dropFrom : ByteArray := prog_3_method_18_code
def yX1_dropFrom : MethodName := ⟨RX1, "dropFrom", "(II)V"⟩
abbrev cX1_trickCard : ByteArray := prog_3_method_19_code
def yX1_trickCard : MethodName := ⟨RX1, "trickCard", "(I)I"⟩
abbrev cX1_playable : ByteArray := prog_3_method_20_code
def yX1_playable : MethodName := ⟨RX1, "playable", "()I"⟩
abbrev cX1_lay : ByteArray := prog_3_method_21_code
def yX1_lay : MethodName := ⟨RX1, "lay", "(I)I"⟩
abbrev cX1_endTrick : ByteArray := prog_3_method_22_code
def yX1_endTrick : MethodName := ⟨RX1, "endTrick", "()I"⟩
abbrev cX1_beats : ByteArray := prog_3_method_23_code
def yX1_beats : MethodName := ⟨RX1, "beats", "(II)Z"⟩
abbrev cX1_lift : ByteArray := prog_3_method_24_code
def yX1_lift : MethodName := ⟨RX1, "lift", "()I"⟩
abbrev cX1_tricksOf : ByteArray := prog_3_method_25_code
def yX1_tricksOf : MethodName := ⟨RX1, "tricksOf", "(I)I"⟩
abbrev cX1_inHands : ByteArray := prog_3_method_26_code
def yX1_inHands : MethodName := ⟨RX1, "inHands", "()I"⟩
abbrev cX1_inTrickSet : ByteArray := prog_3_method_27_code
def yX1_inTrickSet : MethodName := ⟨RX1, "inTrickSet", "()I"⟩
abbrev cX1_out : ByteArray := prog_3_method_28_code
def yX1_out : MethodName := ⟨RX1, "out", "()I"⟩
abbrev cX1_ownerOf : ByteArray := prog_3_method_29_code
def yX1_ownerOf : MethodName := ⟨RX1, "ownerOf", "(I)I"⟩
abbrev cX1_betweenTricks : ByteArray := prog_3_method_30_code
def yX1_betweenTricks : MethodName := ⟨RX1, "betweenTricks", "()I"⟩
def RX2 : String := "OpenTricks$Kept"
def TX2 : u_T := fun k => match k with
  | _ => ("OpenTricks$Kept", "entries", "[I", true)
def tyX2 : Nat → FieldType := fun k => match k with
  | _ => .array .int
abbrev wsX20 : List Cond := u_ws RX2 TX2 1
theorem nmX2 : ∀ a, a < 1 → ∀ b, b < 1 → a ≠ b → (TX2 a).2.1 ≠ (TX2 b).2.1 := by decide +kernel
theorem tyX2_ok : ∀ k, k < 1 → parseFieldDescriptor (TX2 k).2.2.1 = some (tyX2 k) := by decide +kernel
abbrev cX2_init : ByteArray := prog_4_method_1_code
def yX2_init : MethodName := ⟨RX2, "<init>", "()V"⟩
abbrev cX2_clear : ByteArray := prog_4_method_2_code
def yX2_clear : MethodName := ⟨RX2, "clear", "()V"⟩
abbrev cX2_leastAt : ByteArray := prog_4_method_3_code
def yX2_leastAt : MethodName := ⟨RX2, "leastAt", "(I)I"⟩
abbrev cX2_mostAt : ByteArray := prog_4_method_4_code
def yX2_mostAt : MethodName := ⟨RX2, "mostAt", "(II)I"⟩
abbrev cX2_put : ByteArray := prog_4_method_5_code
def yX2_put : MethodName := ⟨RX2, "put", "(III)V"⟩
abbrev cX2_entryOf : ByteArray := prog_4_method_6_code
def yX2_entryOf : MethodName := ⟨RX2, "entryOf", "(I)I"⟩
abbrev cX2_slotOf : ByteArray := prog_4_method_7_code
def yX2_slotOf : MethodName := ⟨RX2, "slotOf", "(I)I"⟩
def RX3 : String := "OpenTricks$Look"
def TX3 : u_T := fun k => match k with
  | _ => ("OpenTricks$Look", "game", "LOpenTricks$Game;", true)
def tyX3 : Nat → FieldType := fun k => match k with
  | _ => .object "OpenTricks$Game"
abbrev wsX30 : List Cond := u_ws RX3 TX3 1
theorem nmX3 : ∀ a, a < 1 → ∀ b, b < 1 → a ≠ b → (TX3 a).2.1 ≠ (TX3 b).2.1 := by decide +kernel
theorem tyX3_ok : ∀ k, k < 1 → parseFieldDescriptor (TX3 k).2.2.1 = some (tyX3 k) := by decide +kernel
abbrev cX3_init : ByteArray := prog_5_method_1_code
def yX3_init : MethodName := ⟨RX3, "<init>", "(LOpenTricks$Game;)V"⟩
abbrev cX3_lowestLike : ByteArray := prog_5_method_2_code
def yX3_lowestLike : MethodName := ⟨RX3, "lowestLike", "(I)I"⟩
abbrev cX3_isHighest : ByteArray := prog_5_method_3_code
def yX3_isHighest : MethodName := ⟨RX3, "isHighest", "(II)Z"⟩
abbrev cX3_quickTricks : ByteArray := prog_5_method_4_code
def yX3_quickTricks : MethodName := ⟨RX3, "quickTricks", "(I)I"⟩
abbrev cX3_forkKind : ByteArray := prog_5_method_5_code
def yX3_forkKind : MethodName := ⟨RX3, "forkKind", "(II)I"⟩
abbrev cX3_goodForksOf : ByteArray := prog_5_method_6_code
def yX3_goodForksOf : MethodName := ⟨RX3, "goodForksOf", "(I)I"⟩
def RX4 : String := "OpenTricks$Solver"
def TX4 : u_T := fun k => match k with
  | 0 => ("OpenTricks$Solver", "game", "LOpenTricks$Game;", true)
  | _ => ("OpenTricks$Solver", "kept", "LOpenTricks$Kept;", true)
def tyX4 : Nat → FieldType := fun k => match k with
  | 0 => .object "OpenTricks$Game"
  | _ => .object "OpenTricks$Kept"
abbrev wsX40 : List Cond := u_ws RX4 TX4 2
theorem nmX4 : ∀ a, a < 2 → ∀ b, b < 2 → a ≠ b → (TX4 a).2.1 ≠ (TX4 b).2.1 := by decide +kernel
theorem tyX4_ok : ∀ k, k < 2 → parseFieldDescriptor (TX4 k).2.2.1 = some (tyX4 k) := by decide +kernel
abbrev cX4_init : ByteArray := prog_6_method_1_code
def yX4_init : MethodName := ⟨RX4, "<init>", "(LOpenTricks$Game;)V"⟩
abbrev cX4_forget : ByteArray := prog_6_method_2_code
def yX4_forget : MethodName := ⟨RX4, "forget", "()V"⟩
abbrev cX4_mostOfSide0 : ByteArray := prog_6_method_3_code
def yX4_mostOfSide0 : MethodName := ⟨RX4, "mostOfSide0", "()I"⟩
abbrev cX4_worthOf : ByteArray := prog_6_method_4_code
def yX4_worthOf : MethodName := ⟨RX4, "worthOf", "(I)I"⟩
abbrev cX4_bestPlay : ByteArray := prog_6_method_5_code
def yX4_bestPlay : MethodName := ⟨RX4, "bestPlay", "()I"⟩
abbrev cX4_gainOf : ByteArray := prog_6_method_6_code
def yX4_gainOf : MethodName := ⟨RX4, "gainOf", "(I)I"⟩
abbrev cX4_search : ByteArray := prog_6_method_7_code
def yX4_search : MethodName := ⟨RX4, "search", "(III)I"⟩
abbrev cX4_tryPlays : ByteArray := prog_6_method_8_code
def yX4_tryPlays : MethodName := ⟨RX4, "tryPlays", "(III)I"⟩
abbrev cX4_byAllPlays : ByteArray := prog_6_method_9_code
def yX4_byAllPlays : MethodName := ⟨RX4, "byAllPlays", "(LOpenTricks$Game;I)I"⟩
def RX5 : String := "OpenTricks"
def TX5 : u_T := fun k => match k with
  | 0 => ("OpenTricks", "game", "LOpenTricks$Game;", true)
  | 1 => ("OpenTricks", "solver", "LOpenTricks$Solver;", true)
  | _ => ("OpenTricks", "look", "LOpenTricks$Look;", true)
def tyX5 : Nat → FieldType := fun k => match k with
  | 0 => .object "OpenTricks$Game"
  | 1 => .object "OpenTricks$Solver"
  | _ => .object "OpenTricks$Look"
abbrev wsX50 : List Cond := u_ws RX5 TX5 3
theorem nmX5 : ∀ a, a < 3 → ∀ b, b < 3 → a ≠ b → (TX5 a).2.1 ≠ (TX5 b).2.1 := by decide +kernel
theorem tyX5_ok : ∀ k, k < 3 → parseFieldDescriptor (TX5 k).2.2.1 = some (tyX5 k) := by decide +kernel
abbrev cX5_init : ByteArray := prog_1_method_1_code
def yX5_init : MethodName := ⟨RX5, "<init>", "()V"⟩
abbrev cX5_begin : ByteArray := prog_1_method_2_code
def yX5_begin : MethodName := ⟨RX5, "begin", "(I)I"⟩
abbrev cX5_give : ByteArray := prog_1_method_3_code
def yX5_give : MethodName := ⟨RX5, "give", "(II)I"⟩
abbrev cX5_start : ByteArray := prog_1_method_4_code
def yX5_start : MethodName := ⟨RX5, "start", "(I)I"⟩
abbrev cX5_isStarted : ByteArray := prog_1_method_5_code
def yX5_isStarted : MethodName := ⟨RX5, "isStarted", "()Z"⟩
abbrev cX5_play : ByteArray := prog_1_method_6_code
def yX5_play : MethodName := ⟨RX5, "play", "(I)I"⟩
abbrev cX5_takeBack : ByteArray := prog_1_method_7_code
def yX5_takeBack : MethodName := ⟨RX5, "takeBack", "()I"⟩
abbrev cX5_canPlay : ByteArray := prog_1_method_8_code
def yX5_canPlay : MethodName := ⟨RX5, "canPlay", "(I)Z"⟩
abbrev cX5_turn : ByteArray := prog_1_method_9_code
def yX5_turn : MethodName := ⟨RX5, "turn", "()I"⟩
abbrev cX5_hand : ByteArray := prog_1_method_10_code
def yX5_hand : MethodName := ⟨RX5, "hand", "(I)I"⟩
abbrev cX5_inTrick : ByteArray := prog_1_method_11_code
def yX5_inTrick : MethodName := ⟨RX5, "inTrick", "()I"⟩
abbrev cX5_cardIn : ByteArray := prog_1_method_12_code
def yX5_cardIn : MethodName := ⟨RX5, "cardIn", "(I)I"⟩
abbrev cX5_won : ByteArray := prog_1_method_13_code
def yX5_won : MethodName := ⟨RX5, "won", "(I)I"⟩
abbrev cX5_solve : ByteArray := prog_1_method_14_code
def yX5_solve : MethodName := ⟨RX5, "solve", "()I"⟩
abbrev cX5_solveByAll : ByteArray := prog_1_method_15_code
def yX5_solveByAll : MethodName := ⟨RX5, "solveByAll", "()I"⟩
abbrev cX5_value : ByteArray := prog_1_method_16_code
def yX5_value : MethodName := ⟨RX5, "value", "(I)I"⟩
abbrev cX5_bestCard : ByteArray := prog_1_method_17_code
def yX5_bestCard : MethodName := ⟨RX5, "bestCard", "()I"⟩
abbrev cX5_lowestEqual : ByteArray := prog_1_method_18_code
def yX5_lowestEqual : MethodName := ⟨RX5, "lowestEqual", "(I)I"⟩
abbrev cX5_unlike : ByteArray := prog_1_method_19_code
def yX5_unlike : MethodName := ⟨RX5, "unlike", "(I)I"⟩
abbrev cX5_isTop : ByteArray := prog_1_method_20_code
def yX5_isTop : MethodName := ⟨RX5, "isTop", "(I)Z"⟩
abbrev cX5_quick : ByteArray := prog_1_method_21_code
def yX5_quick : MethodName := ⟨RX5, "quick", "(I)I"⟩
abbrev cX5_fork : ByteArray := prog_1_method_22_code
def yX5_fork : MethodName := ⟨RX5, "fork", "(II)I"⟩
abbrev cX5_goodForks : ByteArray := prog_1_method_23_code
def yX5_goodForks : MethodName := ⟨RX5, "goodForks", "()I"⟩
abbrev cX5_needPlayer : ByteArray := prog_1_method_24_code
def yX5_needPlayer : MethodName := ⟨RX5, "needPlayer", "(I)V"⟩
abbrev cX5_needCard : ByteArray := prog_1_method_25_code
def yX5_needCard : MethodName := ⟨RX5, "needCard", "(I)V"⟩
abbrev cX5_needPlayable : ByteArray := prog_1_method_26_code
def yX5_needPlayable : MethodName := ⟨RX5, "needPlayable", "(I)V"⟩
abbrev cX5_needStarted : ByteArray := prog_1_method_27_code
def yX5_needStarted : MethodName := ⟨RX5, "needStarted", "()V"⟩
abbrev cX5_needInHand : ByteArray := prog_1_method_28_code
def yX5_needInHand : MethodName := ⟨RX5, "needInHand", "(I)V"⟩
def RX6 : String := "OpenTricksModel"
def TX6 : u_T := fun k => match k with
  | _ => ("", "", "", false)
def tyX6 : Nat → FieldType := fun k => match k with
  | _ => .int
abbrev wsX60 : List Cond := u_ws RX6 TX6 0
theorem nmX6 : ∀ a, a < 0 → ∀ b, b < 0 → a ≠ b → (TX6 a).2.1 ≠ (TX6 b).2.1 := by decide +kernel
theorem tyX6_ok : ∀ k, k < 0 → parseFieldDescriptor (TX6 k).2.2.1 = some (tyX6 k) := by decide +kernel
def RJ6 : String := "java/lang/Integer"
def TJ6 : u_T := fun k => match k with
  | _ => ("", "", "", false)
def tyJ6 : Nat → FieldType := fun k => match k with
  | _ => .int
abbrev wsJ60 : List Cond := u_ws RJ6 TJ6 0
theorem nmJ6 : ∀ a, a < 0 → ∀ b, b < 0 → a ≠ b → (TJ6 a).2.1 ≠ (TJ6 b).2.1 := by decide +kernel
theorem tyJ6_ok : ∀ k, k < 0 → parseFieldDescriptor (TJ6 k).2.2.1 = some (tyJ6 k) := by decide +kernel
abbrev cJ6_numberOfLeadingZeros_0f7a4 : ByteArray := prog_13_method_47_code
def yJ6_numberOfLeadingZeros_0f7a4 : MethodName := ⟨RJ6, "numberOfLeadingZeros", "(I)I"⟩
abbrev cJ6_numberOfTrailingZeros_0f7a4 : ByteArray := prog_13_method_48_code
def yJ6_numberOfTrailingZeros_0f7a4 : MethodName := ⟨RJ6, "numberOfTrailingZeros", "(I)I"⟩
abbrev cJ6_bitCount_0f7a4 : ByteArray := prog_13_method_49_code
def yJ6_bitCount_0f7a4 : MethodName := ⟨RJ6, "bitCount", "(I)I"⟩
def RJ9 : String := "java/lang/Math"
def TJ9 : u_T := fun k => match k with
  | _ => ("", "", "", false)
def tyJ9 : Nat → FieldType := fun k => match k with
  | _ => .int
abbrev wsJ90 : List Cond := u_ws RJ9 TJ9 0
theorem nmJ9 : ∀ a, a < 0 → ∀ b, b < 0 → a ≠ b → (TJ9 a).2.1 ≠ (TJ9 b).2.1 := by decide +kernel
theorem tyJ9_ok : ∀ k, k < 0 → parseFieldDescriptor (TJ9 k).2.2.1 = some (tyJ9 k) := by decide +kernel
abbrev cJ9_max_7cf53 : ByteArray := prog_14_method_65_code
def yJ9_max_7cf53 : MethodName := ⟨RJ9, "max", "(II)I"⟩
abbrev cJ9_min_7cf53 : ByteArray := prog_14_method_69_code
def yJ9_min_7cf53 : MethodName := ⟨RJ9, "min", "(II)I"⟩
def RJ0 : String := "java/lang/String"
def TJ0 : u_T := fun k => match k with
  | _ => ("", "", "", false)
def tyJ0 : Nat → FieldType := fun k => match k with
  | _ => .int
abbrev wsJ00 : List Cond := u_ws RJ0 TJ0 0
theorem nmJ0 : ∀ a, a < 0 → ∀ b, b < 0 → a ≠ b → (TJ0 a).2.1 ≠ (TJ0 b).2.1 := by decide +kernel
theorem tyJ0_ok : ∀ k, k < 0 → parseFieldDescriptor (TJ0 k).2.2.1 = some (tyJ0 k) := by decide +kernel
def RL : String := "OpenTricksLaw"
abbrev cL_has : ByteArray := method_2_code
def yL_has : MethodName := ⟨RL, "has", "(II)Z"⟩
abbrev cL_size : ByteArray := method_3_code
def yL_size : MethodName := ⟨RL, "size", "(I)I"⟩
abbrev cL_leader : ByteArray := method_4_code
def yL_leader : MethodName := ⟨RL, "leader", "([I[II)I"⟩
abbrev cL_tricks : ByteArray := method_5_code
def yL_tricks : MethodName := ⟨RL, "tricks", "([I[III)I"⟩
abbrev cL_can : ByteArray := method_6_code
def yL_can : MethodName := ⟨RL, "can", "([I[I[III)Z"⟩
abbrev cL_best : ByteArray := method_7_code
def yL_best : MethodName := ⟨RL, "best", "([I[I[I)I"⟩
abbrev cL_holder : ByteArray := method_8_code
def yL_holder : MethodName := ⟨RL, "holder", "([II)I"⟩
abbrev cL_isOnTable : ByteArray := method_9_code
def yL_isOnTable : MethodName := ⟨RL, "isOnTable", "([I[II)Z"⟩
abbrev cL_areEqual : ByteArray := method_10_code
def yL_areEqual : MethodName := ⟨RL, "areEqual", "([I[I[III)Z"⟩
abbrev cL_lowest : ByteArray := method_11_code
def yL_lowest : MethodName := ⟨RL, "lowest", "([I[I[II)I"⟩
abbrev cL_isTop : ByteArray := method_12_code
def yL_isTop : MethodName := ⟨RL, "isTop", "([I[I[II)Z"⟩
abbrev cL_fork : ByteArray := method_13_code
def yL_fork : MethodName := ⟨RL, "fork", "([III)I"⟩
abbrev cL_does : ByteArray := method_14_code
def yL_does : MethodName := ⟨RL, "does", "(LOpenTricks;III)I"⟩
abbrev cL_isGame : ByteArray := method_15_code
def yL_isGame : MethodName := ⟨RL, "isGame", "(LOpenTricks;[I[I[I)Z"⟩
abbrev cL_isSolved : ByteArray := method_16_code
def yL_isSolved : MethodName := ⟨RL, "isSolved", "(LOpenTricks;[I[I[I)Z"⟩
abbrev cL_law : ByteArray := code
def yL_law : MethodName := ⟨RL, "law", "([I)Z"⟩
def wsX0_holds : List Cond := .code yX0_holds cX0_holds 2 (some .boolean) :: ([])
def wsX0_suitOf : List Cond := .code yX0_suitOf cX0_suitOf 1 (some .int) :: ([])
def wsX0_suitSet : List Cond := .code yX0_suitSet cX0_suitSet 1 (some .int) :: ([])
def wsJ6_numberOfTrailingZeros_0f7a4 : List Cond := .code yJ6_numberOfTrailingZeros_0f7a4 cJ6_numberOfTrailingZeros_0f7a4 2 (some .int) :: ([.constant RJ6 264 (65536)])
def wsX0_lowest : List Cond := .code yX0_lowest cX0_lowest 1 (some .int) :: ([.methodLink RX0 9 yJ6_numberOfTrailingZeros_0f7a4, .static yJ6_numberOfTrailingZeros_0f7a4, .initialized RJ6, .code yJ6_numberOfTrailingZeros_0f7a4 cJ6_numberOfTrailingZeros_0f7a4 2 (some .int), .constant RJ6 264 (65536)])
def wsJ6_numberOfLeadingZeros_0f7a4 : List Cond := .code yJ6_numberOfLeadingZeros_0f7a4 cJ6_numberOfLeadingZeros_0f7a4 2 (some .int) :: ([.constant RJ6 264 (65536)])
def wsX0_highest : List Cond := .code yX0_highest cX0_highest 1 (some .int) :: ([.methodLink RX0 15 yJ6_numberOfLeadingZeros_0f7a4, .static yJ6_numberOfLeadingZeros_0f7a4, .initialized RJ6, .code yJ6_numberOfLeadingZeros_0f7a4 cJ6_numberOfLeadingZeros_0f7a4 2 (some .int), .constant RJ6 264 (65536)])
def wsX0_sideOf : List Cond := .code yX0_sideOf cX0_sideOf 1 (some .int) :: ([])
def wsX0_equalBelow : List Cond := .code yX0_equalBelow cX0_equalBelow 5 (some .int) :: ([.methodLink RX0 18 yX0_suitOf, .static yX0_suitOf, .initialized RX0, .code yX0_suitOf cX0_suitOf 1 (some .int), .methodLink RX0 21 yX0_holds, .static yX0_holds, .code yX0_holds cX0_holds 2 (some .boolean)])
def wsX0_lowestOfEquals : List Cond := .code yX0_lowestOfEquals cX0_lowestOfEquals 6 (some .int) :: ([.methodLink RX0 25 yX0_lowest, .static yX0_lowest, .initialized RX0, .code yX0_lowest cX0_lowest 1 (some .int), .methodLink RX0 9 yJ6_numberOfTrailingZeros_0f7a4, .static yJ6_numberOfTrailingZeros_0f7a4, .initialized RJ6, .code yJ6_numberOfTrailingZeros_0f7a4 cJ6_numberOfTrailingZeros_0f7a4 2 (some .int), .constant RJ6 264 (65536), .methodLink RX0 28 yX0_equalBelow, .static yX0_equalBelow, .code yX0_equalBelow cX0_equalBelow 5 (some .int), .methodLink RX0 18 yX0_suitOf, .static yX0_suitOf, .code yX0_suitOf cX0_suitOf 1 (some .int), .methodLink RX0 21 yX0_holds, .static yX0_holds, .code yX0_holds cX0_holds 2 (some .boolean)])
def wsX1_init : List Cond := .code yX1_init cX1_init 1 none :: ([.methodLink RX1 1 objectInit, .instanceMethod objectInit, .code objectInit ⟨#[0xb1]⟩ 1 none, .arrayClass .int, .fieldLink RX1 9 "OpenTricks$Game" "hands" "[I", .fieldLink RX1 15 "OpenTricks$Game" "laid" "[I", .fieldLink RX1 18 "OpenTricks$Game" "leaders" "[I", .fieldLink RX1 21 "OpenTricks$Game" "trump" "I"] ++ wsX10)
def wsX1_clearFor : List Cond := .code yX1_clearFor cX1_clearFor 4 (some .int) :: ([.fieldLink RX1 21 "OpenTricks$Game" "trump" "I", .fieldLink RX1 9 "OpenTricks$Game" "hands" "[I", .fieldLink RX1 25 "OpenTricks$Game" "given" "I", .fieldLink RX1 28 "OpenTricks$Game" "open" "Z", .fieldLink RX1 32 "OpenTricks$Game" "tricks" "I", .fieldLink RX1 35 "OpenTricks$Game" "laidCount" "I"] ++ wsX10)
def wsX1_handOf : List Cond := .code yX1_handOf cX1_handOf 2 (some .int) :: ([.fieldLink RX1 9 "OpenTricks$Game" "hands" "[I"] ++ wsX10)
def wsJ6_bitCount_0f7a4 : List Cond := .code yJ6_bitCount_0f7a4 cJ6_bitCount_0f7a4 1 (some .int) :: ([.constant RJ6 265 (1431655765), .constant RJ6 266 (858993459), .constant RJ6 267 (252645135)])
def wsX1_canDeal : List Cond := .code yX1_canDeal cX1_canDeal 3 (some .boolean) :: ([.fieldLink RX1 28 "OpenTricks$Game" "open" "Z", .fieldLink RX1 25 "OpenTricks$Game" "given" "I", .methodLink RX1 38 yX0_holds, .static yX0_holds, .initialized RX0, .code yX0_holds cX0_holds 2 (some .boolean), .methodLink RX1 42 yX1_handOf, .instanceMethod yX1_handOf, .selects RX1 yX1_handOf yX1_handOf, .initialized RX1, .code yX1_handOf cX1_handOf 2 (some .int), .fieldLink RX1 9 "OpenTricks$Game" "hands" "[I", .methodLink RX1 46 yJ6_bitCount_0f7a4, .static yJ6_bitCount_0f7a4, .initialized RJ6, .code yJ6_bitCount_0f7a4 cJ6_bitCount_0f7a4 1 (some .int), .constant RJ6 265 (1431655765), .constant RJ6 266 (858993459), .constant RJ6 267 (252645135)] ++ wsX10)
def wsX1_addTo : List Cond := .code yX1_addTo cX1_addTo 3 none :: ([.fieldLink RX1 9 "OpenTricks$Game" "hands" "[I"] ++ wsX10)
def wsX1_deal : List Cond := .code yX1_deal cX1_deal 3 (some .int) :: ([.fieldLink RX1 25 "OpenTricks$Game" "given" "I", .methodLink RX1 51 yX1_addTo, .instanceMethod yX1_addTo, .selects RX1 yX1_addTo yX1_addTo, .initialized RX1, .code yX1_addTo cX1_addTo 3 none, .fieldLink RX1 9 "OpenTricks$Game" "hands" "[I", .methodLink RX1 42 yX1_handOf, .instanceMethod yX1_handOf, .selects RX1 yX1_handOf yX1_handOf, .code yX1_handOf cX1_handOf 2 (some .int), .methodLink RX1 46 yJ6_bitCount_0f7a4, .static yJ6_bitCount_0f7a4, .initialized RJ6, .code yJ6_bitCount_0f7a4 cJ6_bitCount_0f7a4 1 (some .int), .constant RJ6 265 (1431655765), .constant RJ6 266 (858993459), .constant RJ6 267 (252645135)] ++ wsX10)
def wsX1_canOpen : List Cond := .code yX1_canOpen cX1_canOpen 3 (some .boolean) :: ([.fieldLink RX1 28 "OpenTricks$Game" "open" "Z", .methodLink RX1 42 yX1_handOf, .instanceMethod yX1_handOf, .selects RX1 yX1_handOf yX1_handOf, .initialized RX1, .code yX1_handOf cX1_handOf 2 (some .int), .fieldLink RX1 9 "OpenTricks$Game" "hands" "[I", .methodLink RX1 46 yJ6_bitCount_0f7a4, .static yJ6_bitCount_0f7a4, .initialized RJ6, .code yJ6_bitCount_0f7a4 cJ6_bitCount_0f7a4 1 (some .int), .constant RJ6 265 (1431655765), .constant RJ6 266 (858993459), .constant RJ6 267 (252645135)] ++ wsX10)
def wsX1_open : List Cond := .code yX1_open cX1_open 2 (some .int) :: ([.fieldLink RX1 28 "OpenTricks$Game" "open" "Z", .fieldLink RX1 32 "OpenTricks$Game" "tricks" "I", .fieldLink RX1 18 "OpenTricks$Game" "leaders" "[I", .methodLink RX1 42 yX1_handOf, .instanceMethod yX1_handOf, .selects RX1 yX1_handOf yX1_handOf, .initialized RX1, .code yX1_handOf cX1_handOf 2 (some .int), .fieldLink RX1 9 "OpenTricks$Game" "hands" "[I", .methodLink RX1 46 yJ6_bitCount_0f7a4, .static yJ6_bitCount_0f7a4, .initialized RJ6, .code yJ6_bitCount_0f7a4 cJ6_bitCount_0f7a4 1 (some .int), .constant RJ6 265 (1431655765), .constant RJ6 266 (858993459), .constant RJ6 267 (252645135)] ++ wsX10)
def wsX1_isOpen : List Cond := .code yX1_isOpen cX1_isOpen 1 (some .boolean) :: ([.fieldLink RX1 28 "OpenTricks$Game" "open" "Z"] ++ wsX10)
def wsX1_laidCount : List Cond := .code yX1_laidCount cX1_laidCount 1 (some .int) :: ([.fieldLink RX1 35 "OpenTricks$Game" "laidCount" "I"] ++ wsX10)
def wsX1_cardsLeft : List Cond := .code yX1_cardsLeft cX1_cardsLeft 1 (some .int) :: ([.fieldLink RX1 32 "OpenTricks$Game" "tricks" "I", .fieldLink RX1 35 "OpenTricks$Game" "laidCount" "I"] ++ wsX10)
def wsX1_tricksOver : List Cond := .code yX1_tricksOver cX1_tricksOver 1 (some .int) :: ([.fieldLink RX1 35 "OpenTricks$Game" "laidCount" "I"] ++ wsX10)
def wsX1_tricksLeft : List Cond := .code yX1_tricksLeft cX1_tricksLeft 1 (some .int) :: ([.fieldLink RX1 32 "OpenTricks$Game" "tricks" "I", .methodLink RX1 55 yX1_tricksOver, .instanceMethod yX1_tricksOver, .selects RX1 yX1_tricksOver yX1_tricksOver, .initialized RX1, .code yX1_tricksOver cX1_tricksOver 1 (some .int), .fieldLink RX1 35 "OpenTricks$Game" "laidCount" "I"] ++ wsX10)
def wsX1_trickSize : List Cond := .code yX1_trickSize cX1_trickSize 1 (some .int) :: ([.fieldLink RX1 35 "OpenTricks$Game" "laidCount" "I"] ++ wsX10)
def wsX1_leaderOf : List Cond := .code yX1_leaderOf cX1_leaderOf 2 (some .int) :: ([.fieldLink RX1 18 "OpenTricks$Game" "leaders" "[I"] ++ wsX10)
def wsX1_mover : List Cond := .code yX1_mover cX1_mover 1 (some .int) :: ([.fieldLink RX1 28 "OpenTricks$Game" "open" "Z", .methodLink RX1 59 yX1_cardsLeft, .instanceMethod yX1_cardsLeft, .selects RX1 yX1_cardsLeft yX1_cardsLeft, .initialized RX1, .code yX1_cardsLeft cX1_cardsLeft 1 (some .int), .fieldLink RX1 32 "OpenTricks$Game" "tricks" "I", .fieldLink RX1 35 "OpenTricks$Game" "laidCount" "I", .methodLink RX1 55 yX1_tricksOver, .instanceMethod yX1_tricksOver, .selects RX1 yX1_tricksOver yX1_tricksOver, .code yX1_tricksOver cX1_tricksOver 1 (some .int), .methodLink RX1 62 yX1_leaderOf, .instanceMethod yX1_leaderOf, .selects RX1 yX1_leaderOf yX1_leaderOf, .code yX1_leaderOf cX1_leaderOf 2 (some .int), .fieldLink RX1 18 "OpenTricks$Game" "leaders" "[I", .methodLink RX1 65 yX1_trickSize, .instanceMethod yX1_trickSize, .selects RX1 yX1_trickSize yX1_trickSize, .code yX1_trickSize cX1_trickSize 1 (some .int)] ++ wsX10)
def wsX1_laidAt : List Cond := .code yX1_laidAt cX1_laidAt 2 (some .int) :: ([.fieldLink RX1 15 "OpenTricks$Game" "laid" "[I"] ++ wsX10)
def wsX1_dropFrom : List Cond := .code yX1_dropFrom cX1_dropFrom 3 none :: ([.fieldLink RX1 9 "OpenTricks$Game" "hands" "[I"] ++ wsX10)
def wsX1_trickCard : List Cond := .code yX1_trickCard cX1_trickCard 2 (some .int) :: ([.fieldLink RX1 35 "OpenTricks$Game" "laidCount" "I", .methodLink RX1 65 yX1_trickSize, .instanceMethod yX1_trickSize, .selects RX1 yX1_trickSize yX1_trickSize, .initialized RX1, .code yX1_trickSize cX1_trickSize 1 (some .int), .methodLink RX1 68 yX1_laidAt, .instanceMethod yX1_laidAt, .selects RX1 yX1_laidAt yX1_laidAt, .code yX1_laidAt cX1_laidAt 2 (some .int), .fieldLink RX1 15 "OpenTricks$Game" "laid" "[I"] ++ wsX10)
def wsX1_playable_r1 : List Cond := [Cond.methodLink RX1 71 yX1_mover, Cond.instanceMethod yX1_mover, Cond.selects RX1 yX1_mover yX1_mover, Cond.initialized RX1, Cond.code yX1_mover cX1_mover 1 (some .int), Cond.fieldLink RX1 28 "OpenTricks$Game" "open" "Z", Cond.methodLink RX1 59 yX1_cardsLeft, Cond.instanceMethod yX1_cardsLeft, Cond.selects RX1 yX1_cardsLeft yX1_cardsLeft, Cond.code yX1_cardsLeft cX1_cardsLeft 1 (some .int), Cond.fieldLink RX1 32 "OpenTricks$Game" "tricks" "I", Cond.fieldLink RX1 35 "OpenTricks$Game" "laidCount" "I", Cond.methodLink RX1 55 yX1_tricksOver, Cond.instanceMethod yX1_tricksOver, Cond.selects RX1 yX1_tricksOver yX1_tricksOver, Cond.code yX1_tricksOver cX1_tricksOver 1 (some .int), Cond.methodLink RX1 62 yX1_leaderOf, Cond.instanceMethod yX1_leaderOf, Cond.selects RX1 yX1_leaderOf yX1_leaderOf, Cond.code yX1_leaderOf cX1_leaderOf 2 (some .int), Cond.fieldLink RX1 18 "OpenTricks$Game" "leaders" "[I", Cond.methodLink RX1 65 yX1_trickSize, Cond.instanceMethod yX1_trickSize, Cond.selects RX1 yX1_trickSize yX1_trickSize]
def wsX1_playable_r2 : List Cond := [Cond.code yX1_trickSize cX1_trickSize 1 (some .int), Cond.methodLink RX1 42 yX1_handOf, Cond.instanceMethod yX1_handOf, Cond.selects RX1 yX1_handOf yX1_handOf, Cond.code yX1_handOf cX1_handOf 2 (some .int), Cond.fieldLink RX1 9 "OpenTricks$Game" "hands" "[I", Cond.methodLink RX1 74 yX1_trickCard, Cond.instanceMethod yX1_trickCard, Cond.selects RX1 yX1_trickCard yX1_trickCard, Cond.code yX1_trickCard cX1_trickCard 2 (some .int), Cond.methodLink RX1 68 yX1_laidAt, Cond.instanceMethod yX1_laidAt, Cond.selects RX1 yX1_laidAt yX1_laidAt, Cond.code yX1_laidAt cX1_laidAt 2 (some .int), Cond.fieldLink RX1 15 "OpenTricks$Game" "laid" "[I", Cond.methodLink RX1 77 yX0_suitOf, Cond.static yX0_suitOf, Cond.initialized RX0, Cond.code yX0_suitOf cX0_suitOf 1 (some .int), Cond.methodLink RX1 80 yX0_suitSet, Cond.static yX0_suitSet, Cond.code yX0_suitSet cX0_suitSet 1 (some .int)]
def wsX1_playable : List Cond := .code yX1_playable cX1_playable 3 (some .int) :: ((wsX1_playable_r1 ++ wsX1_playable_r2) ++ wsX10)
def wsX1_beats : List Cond := .code yX1_beats cX1_beats 4 (some .boolean) :: ([.fieldLink RX1 21 "OpenTricks$Game" "trump" "I"] ++ wsX10)
def wsX1_endTrick : List Cond := .code yX1_endTrick cX1_endTrick 5 (some .int) :: ([.fieldLink RX1 35 "OpenTricks$Game" "laidCount" "I", .fieldLink RX1 18 "OpenTricks$Game" "leaders" "[I", .methodLink RX1 68 yX1_laidAt, .instanceMethod yX1_laidAt, .selects RX1 yX1_laidAt yX1_laidAt, .initialized RX1, .code yX1_laidAt cX1_laidAt 2 (some .int), .fieldLink RX1 15 "OpenTricks$Game" "laid" "[I", .methodLink RX1 89 yX1_beats, .instanceMethod yX1_beats, .selects RX1 yX1_beats yX1_beats, .code yX1_beats cX1_beats 4 (some .boolean), .fieldLink RX1 21 "OpenTricks$Game" "trump" "I", .methodLink RX1 55 yX1_tricksOver, .instanceMethod yX1_tricksOver, .selects RX1 yX1_tricksOver yX1_tricksOver, .code yX1_tricksOver cX1_tricksOver 1 (some .int), .methodLink RX1 62 yX1_leaderOf, .instanceMethod yX1_leaderOf, .selects RX1 yX1_leaderOf yX1_leaderOf, .code yX1_leaderOf cX1_leaderOf 2 (some .int)] ++ wsX10)
def wsX1_lay_r1 : List Cond := [Cond.fieldLink RX1 35 "OpenTricks$Game" "laidCount" "I", Cond.fieldLink RX1 15 "OpenTricks$Game" "laid" "[I", Cond.methodLink RX1 71 yX1_mover, Cond.instanceMethod yX1_mover, Cond.selects RX1 yX1_mover yX1_mover, Cond.initialized RX1, Cond.code yX1_mover cX1_mover 1 (some .int), Cond.fieldLink RX1 28 "OpenTricks$Game" "open" "Z", Cond.methodLink RX1 59 yX1_cardsLeft, Cond.instanceMethod yX1_cardsLeft, Cond.selects RX1 yX1_cardsLeft yX1_cardsLeft, Cond.code yX1_cardsLeft cX1_cardsLeft 1 (some .int), Cond.fieldLink RX1 32 "OpenTricks$Game" "tricks" "I", Cond.methodLink RX1 55 yX1_tricksOver, Cond.instanceMethod yX1_tricksOver, Cond.selects RX1 yX1_tricksOver yX1_tricksOver, Cond.code yX1_tricksOver cX1_tricksOver 1 (some .int), Cond.methodLink RX1 62 yX1_leaderOf, Cond.instanceMethod yX1_leaderOf, Cond.selects RX1 yX1_leaderOf yX1_leaderOf, Cond.code yX1_leaderOf cX1_leaderOf 2 (some .int), Cond.fieldLink RX1 18 "OpenTricks$Game" "leaders" "[I", Cond.methodLink RX1 65 yX1_trickSize, Cond.instanceMethod yX1_trickSize]
def wsX1_lay_r2 : List Cond := [Cond.selects RX1 yX1_trickSize yX1_trickSize, Cond.code yX1_trickSize cX1_trickSize 1 (some .int), Cond.methodLink RX1 83 yX1_dropFrom, Cond.instanceMethod yX1_dropFrom, Cond.selects RX1 yX1_dropFrom yX1_dropFrom, Cond.code yX1_dropFrom cX1_dropFrom 3 none, Cond.fieldLink RX1 9 "OpenTricks$Game" "hands" "[I", Cond.methodLink RX1 86 yX1_endTrick, Cond.instanceMethod yX1_endTrick, Cond.selects RX1 yX1_endTrick yX1_endTrick, Cond.code yX1_endTrick cX1_endTrick 5 (some .int), Cond.methodLink RX1 68 yX1_laidAt, Cond.instanceMethod yX1_laidAt, Cond.selects RX1 yX1_laidAt yX1_laidAt, Cond.code yX1_laidAt cX1_laidAt 2 (some .int), Cond.methodLink RX1 89 yX1_beats, Cond.instanceMethod yX1_beats, Cond.selects RX1 yX1_beats yX1_beats, Cond.code yX1_beats cX1_beats 4 (some .boolean), Cond.fieldLink RX1 21 "OpenTricks$Game" "trump" "I"]
def wsX1_lay : List Cond := .code yX1_lay cX1_lay 2 (some .int) :: ((wsX1_lay_r1 ++ wsX1_lay_r2) ++ wsX10)
def wsX1_lift_r1 : List Cond := [Cond.fieldLink RX1 35 "OpenTricks$Game" "laidCount" "I", Cond.methodLink RX1 68 yX1_laidAt, Cond.instanceMethod yX1_laidAt, Cond.selects RX1 yX1_laidAt yX1_laidAt, Cond.initialized RX1, Cond.code yX1_laidAt cX1_laidAt 2 (some .int), Cond.fieldLink RX1 15 "OpenTricks$Game" "laid" "[I", Cond.methodLink RX1 71 yX1_mover, Cond.instanceMethod yX1_mover, Cond.selects RX1 yX1_mover yX1_mover, Cond.code yX1_mover cX1_mover 1 (some .int), Cond.fieldLink RX1 28 "OpenTricks$Game" "open" "Z", Cond.methodLink RX1 59 yX1_cardsLeft, Cond.instanceMethod yX1_cardsLeft, Cond.selects RX1 yX1_cardsLeft yX1_cardsLeft, Cond.code yX1_cardsLeft cX1_cardsLeft 1 (some .int), Cond.fieldLink RX1 32 "OpenTricks$Game" "tricks" "I", Cond.methodLink RX1 55 yX1_tricksOver, Cond.instanceMethod yX1_tricksOver, Cond.selects RX1 yX1_tricksOver yX1_tricksOver, Cond.code yX1_tricksOver cX1_tricksOver 1 (some .int), Cond.methodLink RX1 62 yX1_leaderOf, Cond.instanceMethod yX1_leaderOf, Cond.selects RX1 yX1_leaderOf yX1_leaderOf]
def wsX1_lift_r2 : List Cond := [Cond.code yX1_leaderOf cX1_leaderOf 2 (some .int), Cond.fieldLink RX1 18 "OpenTricks$Game" "leaders" "[I", Cond.methodLink RX1 65 yX1_trickSize, Cond.instanceMethod yX1_trickSize, Cond.selects RX1 yX1_trickSize yX1_trickSize, Cond.code yX1_trickSize cX1_trickSize 1 (some .int), Cond.methodLink RX1 51 yX1_addTo, Cond.instanceMethod yX1_addTo, Cond.selects RX1 yX1_addTo yX1_addTo, Cond.code yX1_addTo cX1_addTo 3 none, Cond.fieldLink RX1 9 "OpenTricks$Game" "hands" "[I"]
def wsX1_lift : List Cond := .code yX1_lift cX1_lift 2 (some .int) :: ((wsX1_lift_r1 ++ wsX1_lift_r2) ++ wsX10)
def wsX1_tricksOf : List Cond := .code yX1_tricksOf cX1_tricksOf 4 (some .int) :: ([.methodLink RX1 55 yX1_tricksOver, .instanceMethod yX1_tricksOver, .selects RX1 yX1_tricksOver yX1_tricksOver, .initialized RX1, .code yX1_tricksOver cX1_tricksOver 1 (some .int), .fieldLink RX1 35 "OpenTricks$Game" "laidCount" "I", .methodLink RX1 62 yX1_leaderOf, .instanceMethod yX1_leaderOf, .selects RX1 yX1_leaderOf yX1_leaderOf, .code yX1_leaderOf cX1_leaderOf 2 (some .int), .fieldLink RX1 18 "OpenTricks$Game" "leaders" "[I", .methodLink RX1 92 yX0_sideOf, .static yX0_sideOf, .initialized RX0, .code yX0_sideOf cX0_sideOf 1 (some .int)] ++ wsX10)
def wsX1_inHands : List Cond := .code yX1_inHands cX1_inHands 3 (some .int) :: ([.fieldLink RX1 9 "OpenTricks$Game" "hands" "[I"] ++ wsX10)
def wsX1_inTrickSet : List Cond := .code yX1_inTrickSet cX1_inTrickSet 3 (some .int) :: ([.fieldLink RX1 35 "OpenTricks$Game" "laidCount" "I", .methodLink RX1 65 yX1_trickSize, .instanceMethod yX1_trickSize, .selects RX1 yX1_trickSize yX1_trickSize, .initialized RX1, .code yX1_trickSize cX1_trickSize 1 (some .int), .methodLink RX1 68 yX1_laidAt, .instanceMethod yX1_laidAt, .selects RX1 yX1_laidAt yX1_laidAt, .code yX1_laidAt cX1_laidAt 2 (some .int), .fieldLink RX1 15 "OpenTricks$Game" "laid" "[I"] ++ wsX10)
def wsX1_out : List Cond := .code yX1_out cX1_out 1 (some .int) :: ([.constant RX1 95 (16777215), .methodLink RX1 96 yX1_inHands, .instanceMethod yX1_inHands, .selects RX1 yX1_inHands yX1_inHands, .initialized RX1, .code yX1_inHands cX1_inHands 3 (some .int), .fieldLink RX1 9 "OpenTricks$Game" "hands" "[I", .methodLink RX1 99 yX1_inTrickSet, .instanceMethod yX1_inTrickSet, .selects RX1 yX1_inTrickSet yX1_inTrickSet, .code yX1_inTrickSet cX1_inTrickSet 3 (some .int), .fieldLink RX1 35 "OpenTricks$Game" "laidCount" "I", .methodLink RX1 65 yX1_trickSize, .instanceMethod yX1_trickSize, .selects RX1 yX1_trickSize yX1_trickSize, .code yX1_trickSize cX1_trickSize 1 (some .int), .methodLink RX1 68 yX1_laidAt, .instanceMethod yX1_laidAt, .selects RX1 yX1_laidAt yX1_laidAt, .code yX1_laidAt cX1_laidAt 2 (some .int), .fieldLink RX1 15 "OpenTricks$Game" "laid" "[I"] ++ wsX10)
def wsX1_ownerOf : List Cond := .code yX1_ownerOf cX1_ownerOf 3 (some .int) :: ([.fieldLink RX1 9 "OpenTricks$Game" "hands" "[I", .methodLink RX1 38 yX0_holds, .static yX0_holds, .initialized RX0, .code yX0_holds cX0_holds 2 (some .boolean)] ++ wsX10)
def wsX1_betweenTricks : List Cond := .code yX1_betweenTricks cX1_betweenTricks 1 (some .int) :: ([.methodLink RX1 96 yX1_inHands, .instanceMethod yX1_inHands, .selects RX1 yX1_inHands yX1_inHands, .initialized RX1, .code yX1_inHands cX1_inHands 3 (some .int), .fieldLink RX1 9 "OpenTricks$Game" "hands" "[I", .methodLink RX1 55 yX1_tricksOver, .instanceMethod yX1_tricksOver, .selects RX1 yX1_tricksOver yX1_tricksOver, .code yX1_tricksOver cX1_tricksOver 1 (some .int), .fieldLink RX1 35 "OpenTricks$Game" "laidCount" "I", .methodLink RX1 62 yX1_leaderOf, .instanceMethod yX1_leaderOf, .selects RX1 yX1_leaderOf yX1_leaderOf, .code yX1_leaderOf cX1_leaderOf 2 (some .int), .fieldLink RX1 18 "OpenTricks$Game" "leaders" "[I"] ++ wsX10)
def wsX2_init : List Cond := .code yX2_init cX2_init 1 none :: ([.methodLink RX2 3 objectInit, .instanceMethod objectInit, .code objectInit ⟨#[0xb1]⟩ 1 none, .arrayClass .int, .fieldLink RX2 9 "OpenTricks$Kept" "entries" "[I"] ++ wsX20)
def wsX2_clear : List Cond := .code yX2_clear cX2_clear 2 none :: ([.fieldLink RX2 9 "OpenTricks$Kept" "entries" "[I"] ++ wsX20)
def wsX2_slotOf : List Cond := .code yX2_slotOf cX2_slotOf 1 (some .int) :: ([.constant RX2 20 (-1640531535)])
def wsX2_entryOf : List Cond := .code yX2_entryOf cX2_entryOf 4 (some .int) :: ([.fieldLink RX2 9 "OpenTricks$Kept" "entries" "[I", .methodLink RX2 17 yX2_slotOf, .static yX2_slotOf, .initialized RX2, .code yX2_slotOf cX2_slotOf 1 (some .int), .constant RX2 20 (-1640531535)] ++ wsX20)
def wsX2_leastAt : List Cond := .code yX2_leastAt cX2_leastAt 2 (some .int) :: ([.methodLink RX2 13 yX2_entryOf, .instanceMethod yX2_entryOf, .selects RX2 yX2_entryOf yX2_entryOf, .initialized RX2, .code yX2_entryOf cX2_entryOf 4 (some .int), .fieldLink RX2 9 "OpenTricks$Kept" "entries" "[I", .methodLink RX2 17 yX2_slotOf, .static yX2_slotOf, .code yX2_slotOf cX2_slotOf 1 (some .int), .constant RX2 20 (-1640531535)] ++ wsX20)
def wsX2_mostAt : List Cond := .code yX2_mostAt cX2_mostAt 4 (some .int) :: ([.methodLink RX2 13 yX2_entryOf, .instanceMethod yX2_entryOf, .selects RX2 yX2_entryOf yX2_entryOf, .initialized RX2, .code yX2_entryOf cX2_entryOf 4 (some .int), .fieldLink RX2 9 "OpenTricks$Kept" "entries" "[I", .methodLink RX2 17 yX2_slotOf, .static yX2_slotOf, .code yX2_slotOf cX2_slotOf 1 (some .int), .constant RX2 20 (-1640531535)] ++ wsX20)
def wsX2_put : List Cond := .code yX2_put cX2_put 5 none :: ([.fieldLink RX2 9 "OpenTricks$Kept" "entries" "[I", .methodLink RX2 17 yX2_slotOf, .static yX2_slotOf, .initialized RX2, .code yX2_slotOf cX2_slotOf 1 (some .int), .constant RX2 20 (-1640531535)] ++ wsX20)
def wsX3_init : List Cond := .code yX3_init cX3_init 2 none :: ([.methodLink RX3 1 objectInit, .instanceMethod objectInit, .code objectInit ⟨#[0xb1]⟩ 1 none, .fieldLink RX3 7 "OpenTricks$Look" "game" "LOpenTricks$Game;"] ++ wsX30)
def wsX3_lowestLike_r1 : List Cond := [Cond.fieldLink RX3 7 "OpenTricks$Look" "game" "LOpenTricks$Game;", Cond.methodLink RX3 13 yX1_ownerOf, Cond.instanceMethod yX1_ownerOf, Cond.selects RX1 yX1_ownerOf yX1_ownerOf, Cond.initialized RX1, Cond.code yX1_ownerOf cX1_ownerOf 3 (some .int), Cond.fieldLink RX1 9 "OpenTricks$Game" "hands" "[I", Cond.methodLink RX1 38 yX0_holds, Cond.static yX0_holds, Cond.initialized RX0, Cond.code yX0_holds cX0_holds 2 (some .boolean), Cond.methodLink RX3 19 yX1_handOf, Cond.instanceMethod yX1_handOf, Cond.selects RX1 yX1_handOf yX1_handOf, Cond.code yX1_handOf cX1_handOf 2 (some .int), Cond.methodLink RX3 22 yX1_out, Cond.instanceMethod yX1_out, Cond.selects RX1 yX1_out yX1_out, Cond.code yX1_out cX1_out 1 (some .int), Cond.constant RX1 95 (16777215), Cond.methodLink RX1 96 yX1_inHands, Cond.instanceMethod yX1_inHands, Cond.selects RX1 yX1_inHands yX1_inHands, Cond.code yX1_inHands cX1_inHands 3 (some .int)]
def wsX3_lowestLike_r2 : List Cond := [Cond.methodLink RX1 99 yX1_inTrickSet, Cond.instanceMethod yX1_inTrickSet, Cond.selects RX1 yX1_inTrickSet yX1_inTrickSet, Cond.code yX1_inTrickSet cX1_inTrickSet 3 (some .int), Cond.fieldLink RX1 35 "OpenTricks$Game" "laidCount" "I", Cond.methodLink RX1 65 yX1_trickSize, Cond.instanceMethod yX1_trickSize, Cond.selects RX1 yX1_trickSize yX1_trickSize, Cond.code yX1_trickSize cX1_trickSize 1 (some .int), Cond.methodLink RX1 68 yX1_laidAt, Cond.instanceMethod yX1_laidAt, Cond.selects RX1 yX1_laidAt yX1_laidAt, Cond.code yX1_laidAt cX1_laidAt 2 (some .int), Cond.fieldLink RX1 15 "OpenTricks$Game" "laid" "[I", Cond.methodLink RX3 28 yX0_equalBelow, Cond.static yX0_equalBelow, Cond.code yX0_equalBelow cX0_equalBelow 5 (some .int), Cond.methodLink RX0 18 yX0_suitOf, Cond.static yX0_suitOf, Cond.code yX0_suitOf cX0_suitOf 1 (some .int), Cond.methodLink RX0 21 yX0_holds]
def wsX3_lowestLike : List Cond := .code yX3_lowestLike cX3_lowestLike 7 (some .int) :: ((wsX3_lowestLike_r1 ++ wsX3_lowestLike_r2) ++ wsX30 ++ wsX10)
def wsX3_isHighest_r1 : List Cond := [Cond.fieldLink RX3 7 "OpenTricks$Look" "game" "LOpenTricks$Game;", Cond.methodLink RX3 32 yX1_inHands, Cond.instanceMethod yX1_inHands, Cond.selects RX1 yX1_inHands yX1_inHands, Cond.initialized RX1, Cond.code yX1_inHands cX1_inHands 3 (some .int), Cond.fieldLink RX1 9 "OpenTricks$Game" "hands" "[I", Cond.methodLink RX3 19 yX1_handOf, Cond.instanceMethod yX1_handOf, Cond.selects RX1 yX1_handOf yX1_handOf, Cond.code yX1_handOf cX1_handOf 2 (some .int), Cond.methodLink RX3 35 yX1_inTrickSet, Cond.instanceMethod yX1_inTrickSet, Cond.selects RX1 yX1_inTrickSet yX1_inTrickSet, Cond.code yX1_inTrickSet cX1_inTrickSet 3 (some .int), Cond.fieldLink RX1 35 "OpenTricks$Game" "laidCount" "I", Cond.methodLink RX1 65 yX1_trickSize, Cond.instanceMethod yX1_trickSize, Cond.selects RX1 yX1_trickSize yX1_trickSize, Cond.code yX1_trickSize cX1_trickSize 1 (some .int), Cond.methodLink RX1 68 yX1_laidAt, Cond.instanceMethod yX1_laidAt, Cond.selects RX1 yX1_laidAt yX1_laidAt, Cond.code yX1_laidAt cX1_laidAt 2 (some .int)]
def wsX3_isHighest_r2 : List Cond := [Cond.fieldLink RX1 15 "OpenTricks$Game" "laid" "[I", Cond.methodLink RX3 38 yX0_suitOf, Cond.static yX0_suitOf, Cond.initialized RX0, Cond.code yX0_suitOf cX0_suitOf 1 (some .int), Cond.methodLink RX3 41 yX0_suitSet, Cond.static yX0_suitSet, Cond.code yX0_suitSet cX0_suitSet 1 (some .int), Cond.methodLink RX3 44 yX0_highest, Cond.static yX0_highest, Cond.code yX0_highest cX0_highest 1 (some .int), Cond.methodLink RX0 15 yJ6_numberOfLeadingZeros_0f7a4, Cond.static yJ6_numberOfLeadingZeros_0f7a4, Cond.initialized RJ6, Cond.code yJ6_numberOfLeadingZeros_0f7a4 cJ6_numberOfLeadingZeros_0f7a4 2 (some .int), Cond.constant RJ6 264 (65536)]
def wsX3_isHighest : List Cond := .code yX3_isHighest cX3_isHighest 4 (some .boolean) :: ((wsX3_isHighest_r1 ++ wsX3_isHighest_r2) ++ wsX30 ++ wsX10)
def wsX3_quickTricks_r1 : List Cond := [Cond.fieldLink RX3 7 "OpenTricks$Look" "game" "LOpenTricks$Game;", Cond.methodLink RX3 19 yX1_handOf, Cond.instanceMethod yX1_handOf, Cond.selects RX1 yX1_handOf yX1_handOf, Cond.initialized RX1, Cond.code yX1_handOf cX1_handOf 2 (some .int), Cond.fieldLink RX1 9 "OpenTricks$Game" "hands" "[I", Cond.methodLink RX3 47 yX0_holds, Cond.static yX0_holds, Cond.initialized RX0, Cond.code yX0_holds cX0_holds 2 (some .boolean), Cond.methodLink RX3 51 yX3_isHighest, Cond.instanceMethod yX3_isHighest, Cond.selects RX3 yX3_isHighest yX3_isHighest, Cond.initialized RX3, Cond.code yX3_isHighest cX3_isHighest 4 (some .boolean), Cond.methodLink RX3 32 yX1_inHands, Cond.instanceMethod yX1_inHands, Cond.selects RX1 yX1_inHands yX1_inHands, Cond.code yX1_inHands cX1_inHands 3 (some .int), Cond.methodLink RX3 35 yX1_inTrickSet, Cond.instanceMethod yX1_inTrickSet, Cond.selects RX1 yX1_inTrickSet yX1_inTrickSet, Cond.code yX1_inTrickSet cX1_inTrickSet 3 (some .int)]
def wsX3_quickTricks_r2 : List Cond := [Cond.fieldLink RX1 35 "OpenTricks$Game" "laidCount" "I", Cond.methodLink RX1 65 yX1_trickSize, Cond.instanceMethod yX1_trickSize, Cond.selects RX1 yX1_trickSize yX1_trickSize, Cond.code yX1_trickSize cX1_trickSize 1 (some .int), Cond.methodLink RX1 68 yX1_laidAt, Cond.instanceMethod yX1_laidAt, Cond.selects RX1 yX1_laidAt yX1_laidAt, Cond.code yX1_laidAt cX1_laidAt 2 (some .int), Cond.fieldLink RX1 15 "OpenTricks$Game" "laid" "[I", Cond.methodLink RX3 38 yX0_suitOf, Cond.static yX0_suitOf, Cond.code yX0_suitOf cX0_suitOf 1 (some .int), Cond.methodLink RX3 41 yX0_suitSet, Cond.static yX0_suitSet, Cond.code yX0_suitSet cX0_suitSet 1 (some .int), Cond.methodLink RX3 44 yX0_highest, Cond.static yX0_highest, Cond.code yX0_highest cX0_highest 1 (some .int), Cond.methodLink RX0 15 yJ6_numberOfLeadingZeros_0f7a4, Cond.static yJ6_numberOfLeadingZeros_0f7a4, Cond.initialized RJ6, Cond.code yJ6_numberOfLeadingZeros_0f7a4 cJ6_numberOfLeadingZeros_0f7a4 2 (some .int), Cond.constant RJ6 264 (65536)]
def wsX3_quickTricks : List Cond := .code yX3_quickTricks cX3_quickTricks 5 (some .int) :: ((wsX3_quickTricks_r1 ++ wsX3_quickTricks_r2) ++ wsX30 ++ wsX10)
def wsX3_forkKind_r1 : List Cond := [Cond.fieldLink RX3 7 "OpenTricks$Look" "game" "LOpenTricks$Game;", Cond.methodLink RX3 32 yX1_inHands, Cond.instanceMethod yX1_inHands, Cond.selects RX1 yX1_inHands yX1_inHands, Cond.initialized RX1, Cond.code yX1_inHands cX1_inHands 3 (some .int), Cond.fieldLink RX1 9 "OpenTricks$Game" "hands" "[I", Cond.methodLink RX3 41 yX0_suitSet, Cond.static yX0_suitSet, Cond.initialized RX0, Cond.code yX0_suitSet cX0_suitSet 1 (some .int), Cond.methodLink RX3 54 yJ6_bitCount_0f7a4, Cond.static yJ6_bitCount_0f7a4, Cond.initialized RJ6, Cond.code yJ6_bitCount_0f7a4 cJ6_bitCount_0f7a4 1 (some .int), Cond.constant RJ6 265 (1431655765), Cond.constant RJ6 266 (858993459), Cond.constant RJ6 267 (252645135), Cond.methodLink RX3 44 yX0_highest, Cond.static yX0_highest, Cond.code yX0_highest cX0_highest 1 (some .int), Cond.methodLink RX0 15 yJ6_numberOfLeadingZeros_0f7a4, Cond.static yJ6_numberOfLeadingZeros_0f7a4, Cond.code yJ6_numberOfLeadingZeros_0f7a4 cJ6_numberOfLeadingZeros_0f7a4 2 (some .int)]
def wsX3_forkKind_r2 : List Cond := [Cond.constant RJ6 264 (65536), Cond.methodLink RX3 13 yX1_ownerOf, Cond.instanceMethod yX1_ownerOf, Cond.selects RX1 yX1_ownerOf yX1_ownerOf, Cond.code yX1_ownerOf cX1_ownerOf 3 (some .int), Cond.methodLink RX1 38 yX0_holds, Cond.static yX0_holds, Cond.code yX0_holds cX0_holds 2 (some .boolean), Cond.methodLink RX3 59 yX0_sideOf, Cond.static yX0_sideOf, Cond.code yX0_sideOf cX0_sideOf 1 (some .int)]
def wsX3_forkKind : List Cond := .code yX3_forkKind cX3_forkKind 8 (some .int) :: ((wsX3_forkKind_r1 ++ wsX3_forkKind_r2) ++ wsX30 ++ wsX10)
def wsX3_goodForksOf_r1 : List Cond := [Cond.methodLink RX3 62 yX3_forkKind, Cond.instanceMethod yX3_forkKind, Cond.selects RX3 yX3_forkKind yX3_forkKind, Cond.initialized RX3, Cond.code yX3_forkKind cX3_forkKind 8 (some .int), Cond.fieldLink RX3 7 "OpenTricks$Look" "game" "LOpenTricks$Game;", Cond.methodLink RX3 32 yX1_inHands, Cond.instanceMethod yX1_inHands, Cond.selects RX1 yX1_inHands yX1_inHands, Cond.initialized RX1, Cond.code yX1_inHands cX1_inHands 3 (some .int), Cond.fieldLink RX1 9 "OpenTricks$Game" "hands" "[I", Cond.methodLink RX3 41 yX0_suitSet, Cond.static yX0_suitSet, Cond.initialized RX0, Cond.code yX0_suitSet cX0_suitSet 1 (some .int), Cond.methodLink RX3 54 yJ6_bitCount_0f7a4, Cond.static yJ6_bitCount_0f7a4, Cond.initialized RJ6, Cond.code yJ6_bitCount_0f7a4 cJ6_bitCount_0f7a4 1 (some .int), Cond.constant RJ6 265 (1431655765), Cond.constant RJ6 266 (858993459), Cond.constant RJ6 267 (252645135), Cond.methodLink RX3 44 yX0_highest]
def wsX3_goodForksOf_r2 : List Cond := [Cond.static yX0_highest, Cond.code yX0_highest cX0_highest 1 (some .int), Cond.methodLink RX0 15 yJ6_numberOfLeadingZeros_0f7a4, Cond.static yJ6_numberOfLeadingZeros_0f7a4, Cond.code yJ6_numberOfLeadingZeros_0f7a4 cJ6_numberOfLeadingZeros_0f7a4 2 (some .int), Cond.constant RJ6 264 (65536), Cond.methodLink RX3 13 yX1_ownerOf, Cond.instanceMethod yX1_ownerOf, Cond.selects RX1 yX1_ownerOf yX1_ownerOf, Cond.code yX1_ownerOf cX1_ownerOf 3 (some .int), Cond.methodLink RX1 38 yX0_holds, Cond.static yX0_holds, Cond.code yX0_holds cX0_holds 2 (some .boolean), Cond.methodLink RX3 59 yX0_sideOf, Cond.static yX0_sideOf, Cond.code yX0_sideOf cX0_sideOf 1 (some .int)]
def wsX3_goodForksOf : List Cond := .code yX3_goodForksOf cX3_goodForksOf 5 (some .int) :: ((wsX3_goodForksOf_r1 ++ wsX3_goodForksOf_r2) ++ wsX30 ++ wsX10)
def wsX4_init : List Cond := .code yX4_init cX4_init 2 none :: ([.methodLink RX4 1 objectInit, .instanceMethod objectInit, .code objectInit ⟨#[0xb1]⟩ 1 none, .fieldLink RX4 7 "OpenTricks$Solver" "game" "LOpenTricks$Game;", .classLink RX4 13 RX2, .instantiable RX2 1, .initialized RX2, .fieldLink RX4 16 "OpenTricks$Solver" "kept" "LOpenTricks$Kept;", .methodLink RX4 15 yX2_init, .instanceMethod yX2_init, .code yX2_init cX2_init 1 none, .methodLink RX2 3 objectInit, .arrayClass .int, .fieldLink RX2 9 "OpenTricks$Kept" "entries" "[I"] ++ wsX40 ++ wsX20)
def wsX4_forget : List Cond := .code yX4_forget cX4_forget 1 none :: ([.fieldLink RX4 16 "OpenTricks$Solver" "kept" "LOpenTricks$Kept;", .methodLink RX4 20 yX2_clear, .instanceMethod yX2_clear, .selects RX2 yX2_clear yX2_clear, .initialized RX2, .code yX2_clear cX2_clear 2 none, .fieldLink RX2 9 "OpenTricks$Kept" "entries" "[I"] ++ wsX40 ++ wsX20)
def wsX4_gainOf : List Cond := .code yX4_gainOf cX4_gainOf 1 (some .int) :: ([.methodLink RX4 39 yX0_sideOf, .static yX0_sideOf, .initialized RX0, .code yX0_sideOf cX0_sideOf 1 (some .int)])
def wsX4_search_r1 : List Cond := [Cond.fieldLink RX4 7 "OpenTricks$Solver" "game" "LOpenTricks$Game;", Cond.fieldLink RX4 16 "OpenTricks$Solver" "kept" "LOpenTricks$Kept;", Cond.methodLink RX4 85 Lib.Math.max.name, Cond.static Lib.Math.max.name, Cond.initialized "java/lang/Math", Cond.code Lib.Math.max.name Lib.Math.max.code 2 (some .int), Cond.methodLink RX4 90 Lib.Math.min.name, Cond.static Lib.Math.min.name, Cond.code Lib.Math.min.name Lib.Math.min.code 2 (some .int), Cond.methodLink RX4 70 yX1_trickSize, Cond.instanceMethod yX1_trickSize, Cond.selects RX1 yX1_trickSize yX1_trickSize, Cond.initialized RX1, Cond.code yX1_trickSize cX1_trickSize 1 (some .int), Cond.fieldLink RX1 35 "OpenTricks$Game" "laidCount" "I", Cond.methodLink RX4 73 yX4_tryPlays, Cond.instanceMethod yX4_tryPlays, Cond.selects RX4 yX4_tryPlays yX4_tryPlays, Cond.initialized RX4, Cond.methodLink RX4 76 yX1_betweenTricks, Cond.instanceMethod yX1_betweenTricks, Cond.selects RX1 yX1_betweenTricks yX1_betweenTricks, Cond.code yX1_betweenTricks cX1_betweenTricks 1 (some .int), Cond.methodLink RX1 96 yX1_inHands]
def wsX4_search_r2 : List Cond := [Cond.instanceMethod yX1_inHands, Cond.selects RX1 yX1_inHands yX1_inHands, Cond.code yX1_inHands cX1_inHands 3 (some .int), Cond.fieldLink RX1 9 "OpenTricks$Game" "hands" "[I", Cond.methodLink RX1 55 yX1_tricksOver, Cond.instanceMethod yX1_tricksOver, Cond.selects RX1 yX1_tricksOver yX1_tricksOver, Cond.code yX1_tricksOver cX1_tricksOver 1 (some .int), Cond.methodLink RX1 62 yX1_leaderOf, Cond.instanceMethod yX1_leaderOf, Cond.selects RX1 yX1_leaderOf yX1_leaderOf, Cond.code yX1_leaderOf cX1_leaderOf 2 (some .int), Cond.fieldLink RX1 18 "OpenTricks$Game" "leaders" "[I", Cond.methodLink RX4 79 yX2_leastAt, Cond.instanceMethod yX2_leastAt, Cond.selects RX2 yX2_leastAt yX2_leastAt, Cond.initialized RX2, Cond.code yX2_leastAt cX2_leastAt 2 (some .int), Cond.methodLink RX2 13 yX2_entryOf, Cond.instanceMethod yX2_entryOf, Cond.selects RX2 yX2_entryOf yX2_entryOf, Cond.code yX2_entryOf cX2_entryOf 4 (some .int), Cond.fieldLink RX2 9 "OpenTricks$Kept" "entries" "[I", Cond.methodLink RX2 17 yX2_slotOf]
def wsX4_search_r3 : List Cond := [Cond.static yX2_slotOf, Cond.code yX2_slotOf cX2_slotOf 1 (some .int), Cond.constant RX2 20 (-1640531535), Cond.methodLink RX4 82 yX2_mostAt, Cond.instanceMethod yX2_mostAt, Cond.selects RX2 yX2_mostAt yX2_mostAt, Cond.code yX2_mostAt cX2_mostAt 4 (some .int), Cond.methodLink RX4 93 yX2_put, Cond.instanceMethod yX2_put, Cond.selects RX2 yX2_put yX2_put, Cond.code yX2_put cX2_put 5 none, Cond.code yX4_tryPlays cX4_tryPlays 13 (some .int), Cond.methodLink RX4 36 yX1_mover, Cond.instanceMethod yX1_mover, Cond.selects RX1 yX1_mover yX1_mover, Cond.code yX1_mover cX1_mover 1 (some .int), Cond.fieldLink RX1 28 "OpenTricks$Game" "open" "Z", Cond.methodLink RX1 59 yX1_cardsLeft, Cond.instanceMethod yX1_cardsLeft, Cond.selects RX1 yX1_cardsLeft yX1_cardsLeft, Cond.code yX1_cardsLeft cX1_cardsLeft 1 (some .int), Cond.fieldLink RX1 32 "OpenTricks$Game" "tricks" "I", Cond.methodLink RX1 65 yX1_trickSize, Cond.methodLink RX4 39 yX0_sideOf]
def wsX4_search_r4 : List Cond := [Cond.static yX0_sideOf, Cond.initialized RX0, Cond.code yX0_sideOf cX0_sideOf 1 (some .int), Cond.methodLink RX4 54 yX1_playable, Cond.instanceMethod yX1_playable, Cond.selects RX1 yX1_playable yX1_playable, Cond.code yX1_playable cX1_playable 3 (some .int), Cond.methodLink RX1 71 yX1_mover, Cond.methodLink RX1 42 yX1_handOf, Cond.instanceMethod yX1_handOf, Cond.selects RX1 yX1_handOf yX1_handOf, Cond.code yX1_handOf cX1_handOf 2 (some .int), Cond.methodLink RX1 74 yX1_trickCard, Cond.instanceMethod yX1_trickCard, Cond.selects RX1 yX1_trickCard yX1_trickCard, Cond.code yX1_trickCard cX1_trickCard 2 (some .int), Cond.methodLink RX1 68 yX1_laidAt, Cond.instanceMethod yX1_laidAt, Cond.selects RX1 yX1_laidAt yX1_laidAt, Cond.code yX1_laidAt cX1_laidAt 2 (some .int), Cond.fieldLink RX1 15 "OpenTricks$Game" "laid" "[I", Cond.methodLink RX1 77 yX0_suitOf, Cond.static yX0_suitOf, Cond.code yX0_suitOf cX0_suitOf 1 (some .int)]
def wsX4_search_r5 : List Cond := [Cond.methodLink RX1 80 yX0_suitSet, Cond.static yX0_suitSet, Cond.code yX0_suitSet cX0_suitSet 1 (some .int), Cond.methodLink RX4 57 yX1_out, Cond.instanceMethod yX1_out, Cond.selects RX1 yX1_out yX1_out, Cond.code yX1_out cX1_out 1 (some .int), Cond.constant RX1 95 (16777215), Cond.methodLink RX1 99 yX1_inTrickSet, Cond.instanceMethod yX1_inTrickSet, Cond.selects RX1 yX1_inTrickSet yX1_inTrickSet, Cond.code yX1_inTrickSet cX1_inTrickSet 3 (some .int), Cond.methodLink RX4 60 yX0_lowestOfEquals, Cond.static yX0_lowestOfEquals, Cond.code yX0_lowestOfEquals cX0_lowestOfEquals 6 (some .int), Cond.methodLink RX0 25 yX0_lowest, Cond.static yX0_lowest, Cond.code yX0_lowest cX0_lowest 1 (some .int), Cond.methodLink RX0 9 yJ6_numberOfTrailingZeros_0f7a4, Cond.static yJ6_numberOfTrailingZeros_0f7a4, Cond.initialized RJ6, Cond.code yJ6_numberOfTrailingZeros_0f7a4 cJ6_numberOfTrailingZeros_0f7a4 2 (some .int), Cond.constant RJ6 264 (65536), Cond.methodLink RX0 28 yX0_equalBelow]
def wsX4_search_r6 : List Cond := [Cond.static yX0_equalBelow, Cond.code yX0_equalBelow cX0_equalBelow 5 (some .int), Cond.methodLink RX0 18 yX0_suitOf, Cond.methodLink RX0 21 yX0_holds, Cond.static yX0_holds, Cond.code yX0_holds cX0_holds 2 (some .boolean), Cond.methodLink RX4 97 yX0_highest, Cond.static yX0_highest, Cond.code yX0_highest cX0_highest 1 (some .int), Cond.methodLink RX0 15 yJ6_numberOfLeadingZeros_0f7a4, Cond.static yJ6_numberOfLeadingZeros_0f7a4, Cond.code yJ6_numberOfLeadingZeros_0f7a4 cJ6_numberOfLeadingZeros_0f7a4 2 (some .int), Cond.methodLink RX4 45 yX1_lay, Cond.instanceMethod yX1_lay, Cond.selects RX1 yX1_lay yX1_lay, Cond.code yX1_lay cX1_lay 2 (some .int), Cond.methodLink RX1 83 yX1_dropFrom, Cond.instanceMethod yX1_dropFrom, Cond.selects RX1 yX1_dropFrom yX1_dropFrom, Cond.code yX1_dropFrom cX1_dropFrom 3 none, Cond.methodLink RX1 86 yX1_endTrick, Cond.instanceMethod yX1_endTrick, Cond.selects RX1 yX1_endTrick yX1_endTrick, Cond.code yX1_endTrick cX1_endTrick 5 (some .int)]
def wsX4_search_r7 : List Cond := [Cond.methodLink RX1 89 yX1_beats, Cond.instanceMethod yX1_beats, Cond.selects RX1 yX1_beats yX1_beats, Cond.code yX1_beats cX1_beats 4 (some .boolean), Cond.fieldLink RX1 21 "OpenTricks$Game" "trump" "I", Cond.methodLink RX4 48 yX4_gainOf, Cond.static yX4_gainOf, Cond.code yX4_gainOf cX4_gainOf 1 (some .int), Cond.methodLink RX4 32 yX4_search, Cond.instanceMethod yX4_search, Cond.selects RX4 yX4_search yX4_search, Cond.methodLink RX4 51 yX1_lift, Cond.instanceMethod yX1_lift, Cond.selects RX1 yX1_lift yX1_lift, Cond.code yX1_lift cX1_lift 2 (some .int), Cond.methodLink RX1 51 yX1_addTo, Cond.instanceMethod yX1_addTo, Cond.selects RX1 yX1_addTo yX1_addTo, Cond.code yX1_addTo cX1_addTo 3 none]
def wsX4_search : List Cond := .code yX4_search cX4_search 10 (some .int) :: ((wsX4_search_r1 ++ (wsX4_search_r2 ++ (wsX4_search_r3 ++ (wsX4_search_r4 ++ (wsX4_search_r5 ++ (wsX4_search_r6 ++ wsX4_search_r7)))))) ++ wsX40 ++ wsX10 ++ wsX20)
def wsX4_tryPlays_r1 : List Cond := [Cond.fieldLink RX4 7 "OpenTricks$Solver" "game" "LOpenTricks$Game;", Cond.methodLink RX4 85 Lib.Math.max.name, Cond.static Lib.Math.max.name, Cond.initialized "java/lang/Math", Cond.code Lib.Math.max.name Lib.Math.max.code 2 (some .int), Cond.methodLink RX4 90 Lib.Math.min.name, Cond.static Lib.Math.min.name, Cond.code Lib.Math.min.name Lib.Math.min.code 2 (some .int), Cond.methodLink RX4 36 yX1_mover, Cond.instanceMethod yX1_mover, Cond.selects RX1 yX1_mover yX1_mover, Cond.initialized RX1, Cond.code yX1_mover cX1_mover 1 (some .int), Cond.fieldLink RX1 28 "OpenTricks$Game" "open" "Z", Cond.methodLink RX1 59 yX1_cardsLeft, Cond.instanceMethod yX1_cardsLeft, Cond.selects RX1 yX1_cardsLeft yX1_cardsLeft, Cond.code yX1_cardsLeft cX1_cardsLeft 1 (some .int), Cond.fieldLink RX1 32 "OpenTricks$Game" "tricks" "I", Cond.fieldLink RX1 35 "OpenTricks$Game" "laidCount" "I", Cond.methodLink RX1 55 yX1_tricksOver, Cond.instanceMethod yX1_tricksOver, Cond.selects RX1 yX1_tricksOver yX1_tricksOver, Cond.code yX1_tricksOver cX1_tricksOver 1 (some .int)]
def wsX4_tryPlays_r2 : List Cond := [Cond.methodLink RX1 62 yX1_leaderOf, Cond.instanceMethod yX1_leaderOf, Cond.selects RX1 yX1_leaderOf yX1_leaderOf, Cond.code yX1_leaderOf cX1_leaderOf 2 (some .int), Cond.fieldLink RX1 18 "OpenTricks$Game" "leaders" "[I", Cond.methodLink RX1 65 yX1_trickSize, Cond.instanceMethod yX1_trickSize, Cond.selects RX1 yX1_trickSize yX1_trickSize, Cond.code yX1_trickSize cX1_trickSize 1 (some .int), Cond.methodLink RX4 39 yX0_sideOf, Cond.static yX0_sideOf, Cond.initialized RX0, Cond.code yX0_sideOf cX0_sideOf 1 (some .int), Cond.methodLink RX4 54 yX1_playable, Cond.instanceMethod yX1_playable, Cond.selects RX1 yX1_playable yX1_playable, Cond.code yX1_playable cX1_playable 3 (some .int), Cond.methodLink RX1 71 yX1_mover, Cond.methodLink RX1 42 yX1_handOf, Cond.instanceMethod yX1_handOf, Cond.selects RX1 yX1_handOf yX1_handOf, Cond.code yX1_handOf cX1_handOf 2 (some .int), Cond.fieldLink RX1 9 "OpenTricks$Game" "hands" "[I", Cond.methodLink RX1 74 yX1_trickCard]
def wsX4_tryPlays_r3 : List Cond := [Cond.instanceMethod yX1_trickCard, Cond.selects RX1 yX1_trickCard yX1_trickCard, Cond.code yX1_trickCard cX1_trickCard 2 (some .int), Cond.methodLink RX1 68 yX1_laidAt, Cond.instanceMethod yX1_laidAt, Cond.selects RX1 yX1_laidAt yX1_laidAt, Cond.code yX1_laidAt cX1_laidAt 2 (some .int), Cond.fieldLink RX1 15 "OpenTricks$Game" "laid" "[I", Cond.methodLink RX1 77 yX0_suitOf, Cond.static yX0_suitOf, Cond.code yX0_suitOf cX0_suitOf 1 (some .int), Cond.methodLink RX1 80 yX0_suitSet, Cond.static yX0_suitSet, Cond.code yX0_suitSet cX0_suitSet 1 (some .int), Cond.methodLink RX4 57 yX1_out, Cond.instanceMethod yX1_out, Cond.selects RX1 yX1_out yX1_out, Cond.code yX1_out cX1_out 1 (some .int), Cond.constant RX1 95 (16777215), Cond.methodLink RX1 96 yX1_inHands, Cond.instanceMethod yX1_inHands, Cond.selects RX1 yX1_inHands yX1_inHands, Cond.code yX1_inHands cX1_inHands 3 (some .int), Cond.methodLink RX1 99 yX1_inTrickSet]
def wsX4_tryPlays_r4 : List Cond := [Cond.instanceMethod yX1_inTrickSet, Cond.selects RX1 yX1_inTrickSet yX1_inTrickSet, Cond.code yX1_inTrickSet cX1_inTrickSet 3 (some .int), Cond.methodLink RX4 60 yX0_lowestOfEquals, Cond.static yX0_lowestOfEquals, Cond.code yX0_lowestOfEquals cX0_lowestOfEquals 6 (some .int), Cond.methodLink RX0 25 yX0_lowest, Cond.static yX0_lowest, Cond.code yX0_lowest cX0_lowest 1 (some .int), Cond.methodLink RX0 9 yJ6_numberOfTrailingZeros_0f7a4, Cond.static yJ6_numberOfTrailingZeros_0f7a4, Cond.initialized RJ6, Cond.code yJ6_numberOfTrailingZeros_0f7a4 cJ6_numberOfTrailingZeros_0f7a4 2 (some .int), Cond.constant RJ6 264 (65536), Cond.methodLink RX0 28 yX0_equalBelow, Cond.static yX0_equalBelow, Cond.code yX0_equalBelow cX0_equalBelow 5 (some .int), Cond.methodLink RX0 18 yX0_suitOf, Cond.methodLink RX0 21 yX0_holds, Cond.static yX0_holds, Cond.code yX0_holds cX0_holds 2 (some .boolean), Cond.methodLink RX4 97 yX0_highest, Cond.static yX0_highest, Cond.code yX0_highest cX0_highest 1 (some .int)]
def wsX4_tryPlays_r5 : List Cond := [Cond.methodLink RX0 15 yJ6_numberOfLeadingZeros_0f7a4, Cond.static yJ6_numberOfLeadingZeros_0f7a4, Cond.code yJ6_numberOfLeadingZeros_0f7a4 cJ6_numberOfLeadingZeros_0f7a4 2 (some .int), Cond.methodLink RX4 45 yX1_lay, Cond.instanceMethod yX1_lay, Cond.selects RX1 yX1_lay yX1_lay, Cond.code yX1_lay cX1_lay 2 (some .int), Cond.methodLink RX1 83 yX1_dropFrom, Cond.instanceMethod yX1_dropFrom, Cond.selects RX1 yX1_dropFrom yX1_dropFrom, Cond.code yX1_dropFrom cX1_dropFrom 3 none, Cond.methodLink RX1 86 yX1_endTrick, Cond.instanceMethod yX1_endTrick, Cond.selects RX1 yX1_endTrick yX1_endTrick, Cond.code yX1_endTrick cX1_endTrick 5 (some .int), Cond.methodLink RX1 89 yX1_beats, Cond.instanceMethod yX1_beats, Cond.selects RX1 yX1_beats yX1_beats, Cond.code yX1_beats cX1_beats 4 (some .boolean), Cond.fieldLink RX1 21 "OpenTricks$Game" "trump" "I", Cond.methodLink RX4 48 yX4_gainOf, Cond.static yX4_gainOf, Cond.initialized RX4, Cond.code yX4_gainOf cX4_gainOf 1 (some .int)]
def wsX4_tryPlays_r6 : List Cond := [Cond.methodLink RX4 32 yX4_search, Cond.instanceMethod yX4_search, Cond.selects RX4 yX4_search yX4_search, Cond.methodLink RX4 51 yX1_lift, Cond.instanceMethod yX1_lift, Cond.selects RX1 yX1_lift yX1_lift, Cond.code yX1_lift cX1_lift 2 (some .int), Cond.methodLink RX1 51 yX1_addTo, Cond.instanceMethod yX1_addTo, Cond.selects RX1 yX1_addTo yX1_addTo, Cond.code yX1_addTo cX1_addTo 3 none, Cond.code yX4_search cX4_search 10 (some .int), Cond.fieldLink RX4 16 "OpenTricks$Solver" "kept" "LOpenTricks$Kept;", Cond.methodLink RX4 70 yX1_trickSize, Cond.methodLink RX4 73 yX4_tryPlays, Cond.instanceMethod yX4_tryPlays, Cond.selects RX4 yX4_tryPlays yX4_tryPlays, Cond.methodLink RX4 76 yX1_betweenTricks, Cond.instanceMethod yX1_betweenTricks, Cond.selects RX1 yX1_betweenTricks yX1_betweenTricks, Cond.code yX1_betweenTricks cX1_betweenTricks 1 (some .int), Cond.methodLink RX4 79 yX2_leastAt, Cond.instanceMethod yX2_leastAt, Cond.selects RX2 yX2_leastAt yX2_leastAt]
def wsX4_tryPlays_r7 : List Cond := [Cond.initialized RX2, Cond.code yX2_leastAt cX2_leastAt 2 (some .int), Cond.methodLink RX2 13 yX2_entryOf, Cond.instanceMethod yX2_entryOf, Cond.selects RX2 yX2_entryOf yX2_entryOf, Cond.code yX2_entryOf cX2_entryOf 4 (some .int), Cond.fieldLink RX2 9 "OpenTricks$Kept" "entries" "[I", Cond.methodLink RX2 17 yX2_slotOf, Cond.static yX2_slotOf, Cond.code yX2_slotOf cX2_slotOf 1 (some .int), Cond.constant RX2 20 (-1640531535), Cond.methodLink RX4 82 yX2_mostAt, Cond.instanceMethod yX2_mostAt, Cond.selects RX2 yX2_mostAt yX2_mostAt, Cond.code yX2_mostAt cX2_mostAt 4 (some .int), Cond.methodLink RX4 93 yX2_put, Cond.instanceMethod yX2_put, Cond.selects RX2 yX2_put yX2_put, Cond.code yX2_put cX2_put 5 none]
def wsX4_tryPlays : List Cond := .code yX4_tryPlays cX4_tryPlays 13 (some .int) :: ((wsX4_tryPlays_r1 ++ (wsX4_tryPlays_r2 ++ (wsX4_tryPlays_r3 ++ (wsX4_tryPlays_r4 ++ (wsX4_tryPlays_r5 ++ (wsX4_tryPlays_r6 ++ wsX4_tryPlays_r7)))))) ++ wsX40 ++ wsX10 ++ wsX20)
def wsX4_mostOfSide0_r1 : List Cond := [Cond.fieldLink RX4 7 "OpenTricks$Solver" "game" "LOpenTricks$Game;", Cond.methodLink RX4 23 yX1_cardsLeft, Cond.instanceMethod yX1_cardsLeft, Cond.selects RX1 yX1_cardsLeft yX1_cardsLeft, Cond.initialized RX1, Cond.code yX1_cardsLeft cX1_cardsLeft 1 (some .int), Cond.fieldLink RX1 32 "OpenTricks$Game" "tricks" "I", Cond.fieldLink RX1 35 "OpenTricks$Game" "laidCount" "I", Cond.methodLink RX4 29 yX1_tricksLeft, Cond.instanceMethod yX1_tricksLeft, Cond.selects RX1 yX1_tricksLeft yX1_tricksLeft, Cond.code yX1_tricksLeft cX1_tricksLeft 1 (some .int), Cond.methodLink RX1 55 yX1_tricksOver, Cond.instanceMethod yX1_tricksOver, Cond.selects RX1 yX1_tricksOver yX1_tricksOver, Cond.code yX1_tricksOver cX1_tricksOver 1 (some .int), Cond.methodLink RX4 32 yX4_search, Cond.instanceMethod yX4_search, Cond.selects RX4 yX4_search yX4_search, Cond.initialized RX4, Cond.code yX4_search cX4_search 10 (some .int), Cond.fieldLink RX4 16 "OpenTricks$Solver" "kept" "LOpenTricks$Kept;", Cond.methodLink RX4 85 Lib.Math.max.name, Cond.static Lib.Math.max.name]
def wsX4_mostOfSide0_r2 : List Cond := [Cond.initialized "java/lang/Math", Cond.code Lib.Math.max.name Lib.Math.max.code 2 (some .int), Cond.methodLink RX4 90 Lib.Math.min.name, Cond.static Lib.Math.min.name, Cond.code Lib.Math.min.name Lib.Math.min.code 2 (some .int), Cond.methodLink RX4 70 yX1_trickSize, Cond.instanceMethod yX1_trickSize, Cond.selects RX1 yX1_trickSize yX1_trickSize, Cond.code yX1_trickSize cX1_trickSize 1 (some .int), Cond.methodLink RX4 73 yX4_tryPlays, Cond.instanceMethod yX4_tryPlays, Cond.selects RX4 yX4_tryPlays yX4_tryPlays, Cond.methodLink RX4 76 yX1_betweenTricks, Cond.instanceMethod yX1_betweenTricks, Cond.selects RX1 yX1_betweenTricks yX1_betweenTricks, Cond.code yX1_betweenTricks cX1_betweenTricks 1 (some .int), Cond.methodLink RX1 96 yX1_inHands, Cond.instanceMethod yX1_inHands, Cond.selects RX1 yX1_inHands yX1_inHands, Cond.code yX1_inHands cX1_inHands 3 (some .int), Cond.fieldLink RX1 9 "OpenTricks$Game" "hands" "[I", Cond.methodLink RX1 62 yX1_leaderOf, Cond.instanceMethod yX1_leaderOf, Cond.selects RX1 yX1_leaderOf yX1_leaderOf]
def wsX4_mostOfSide0_r3 : List Cond := [Cond.code yX1_leaderOf cX1_leaderOf 2 (some .int), Cond.fieldLink RX1 18 "OpenTricks$Game" "leaders" "[I", Cond.methodLink RX4 79 yX2_leastAt, Cond.instanceMethod yX2_leastAt, Cond.selects RX2 yX2_leastAt yX2_leastAt, Cond.initialized RX2, Cond.code yX2_leastAt cX2_leastAt 2 (some .int), Cond.methodLink RX2 13 yX2_entryOf, Cond.instanceMethod yX2_entryOf, Cond.selects RX2 yX2_entryOf yX2_entryOf, Cond.code yX2_entryOf cX2_entryOf 4 (some .int), Cond.fieldLink RX2 9 "OpenTricks$Kept" "entries" "[I", Cond.methodLink RX2 17 yX2_slotOf, Cond.static yX2_slotOf, Cond.code yX2_slotOf cX2_slotOf 1 (some .int), Cond.constant RX2 20 (-1640531535), Cond.methodLink RX4 82 yX2_mostAt, Cond.instanceMethod yX2_mostAt, Cond.selects RX2 yX2_mostAt yX2_mostAt, Cond.code yX2_mostAt cX2_mostAt 4 (some .int), Cond.methodLink RX4 93 yX2_put, Cond.instanceMethod yX2_put, Cond.selects RX2 yX2_put yX2_put, Cond.code yX2_put cX2_put 5 none]
def wsX4_mostOfSide0_r4 : List Cond := [Cond.code yX4_tryPlays cX4_tryPlays 13 (some .int), Cond.methodLink RX4 36 yX1_mover, Cond.instanceMethod yX1_mover, Cond.selects RX1 yX1_mover yX1_mover, Cond.code yX1_mover cX1_mover 1 (some .int), Cond.fieldLink RX1 28 "OpenTricks$Game" "open" "Z", Cond.methodLink RX1 59 yX1_cardsLeft, Cond.methodLink RX1 65 yX1_trickSize, Cond.methodLink RX4 39 yX0_sideOf, Cond.static yX0_sideOf, Cond.initialized RX0, Cond.code yX0_sideOf cX0_sideOf 1 (some .int), Cond.methodLink RX4 54 yX1_playable, Cond.instanceMethod yX1_playable, Cond.selects RX1 yX1_playable yX1_playable, Cond.code yX1_playable cX1_playable 3 (some .int), Cond.methodLink RX1 71 yX1_mover, Cond.methodLink RX1 42 yX1_handOf, Cond.instanceMethod yX1_handOf, Cond.selects RX1 yX1_handOf yX1_handOf, Cond.code yX1_handOf cX1_handOf 2 (some .int), Cond.methodLink RX1 74 yX1_trickCard, Cond.instanceMethod yX1_trickCard, Cond.selects RX1 yX1_trickCard yX1_trickCard]
def wsX4_mostOfSide0_r5 : List Cond := [Cond.code yX1_trickCard cX1_trickCard 2 (some .int), Cond.methodLink RX1 68 yX1_laidAt, Cond.instanceMethod yX1_laidAt, Cond.selects RX1 yX1_laidAt yX1_laidAt, Cond.code yX1_laidAt cX1_laidAt 2 (some .int), Cond.fieldLink RX1 15 "OpenTricks$Game" "laid" "[I", Cond.methodLink RX1 77 yX0_suitOf, Cond.static yX0_suitOf, Cond.code yX0_suitOf cX0_suitOf 1 (some .int), Cond.methodLink RX1 80 yX0_suitSet, Cond.static yX0_suitSet, Cond.code yX0_suitSet cX0_suitSet 1 (some .int), Cond.methodLink RX4 57 yX1_out, Cond.instanceMethod yX1_out, Cond.selects RX1 yX1_out yX1_out, Cond.code yX1_out cX1_out 1 (some .int), Cond.constant RX1 95 (16777215), Cond.methodLink RX1 99 yX1_inTrickSet, Cond.instanceMethod yX1_inTrickSet, Cond.selects RX1 yX1_inTrickSet yX1_inTrickSet, Cond.code yX1_inTrickSet cX1_inTrickSet 3 (some .int), Cond.methodLink RX4 60 yX0_lowestOfEquals, Cond.static yX0_lowestOfEquals, Cond.code yX0_lowestOfEquals cX0_lowestOfEquals 6 (some .int)]
def wsX4_mostOfSide0_r6 : List Cond := [Cond.methodLink RX0 25 yX0_lowest, Cond.static yX0_lowest, Cond.code yX0_lowest cX0_lowest 1 (some .int), Cond.methodLink RX0 9 yJ6_numberOfTrailingZeros_0f7a4, Cond.static yJ6_numberOfTrailingZeros_0f7a4, Cond.initialized RJ6, Cond.code yJ6_numberOfTrailingZeros_0f7a4 cJ6_numberOfTrailingZeros_0f7a4 2 (some .int), Cond.constant RJ6 264 (65536), Cond.methodLink RX0 28 yX0_equalBelow, Cond.static yX0_equalBelow, Cond.code yX0_equalBelow cX0_equalBelow 5 (some .int), Cond.methodLink RX0 18 yX0_suitOf, Cond.methodLink RX0 21 yX0_holds, Cond.static yX0_holds, Cond.code yX0_holds cX0_holds 2 (some .boolean), Cond.methodLink RX4 97 yX0_highest, Cond.static yX0_highest, Cond.code yX0_highest cX0_highest 1 (some .int), Cond.methodLink RX0 15 yJ6_numberOfLeadingZeros_0f7a4, Cond.static yJ6_numberOfLeadingZeros_0f7a4, Cond.code yJ6_numberOfLeadingZeros_0f7a4 cJ6_numberOfLeadingZeros_0f7a4 2 (some .int), Cond.methodLink RX4 45 yX1_lay, Cond.instanceMethod yX1_lay, Cond.selects RX1 yX1_lay yX1_lay]
def wsX4_mostOfSide0_r7 : List Cond := [Cond.code yX1_lay cX1_lay 2 (some .int), Cond.methodLink RX1 83 yX1_dropFrom, Cond.instanceMethod yX1_dropFrom, Cond.selects RX1 yX1_dropFrom yX1_dropFrom, Cond.code yX1_dropFrom cX1_dropFrom 3 none, Cond.methodLink RX1 86 yX1_endTrick, Cond.instanceMethod yX1_endTrick, Cond.selects RX1 yX1_endTrick yX1_endTrick, Cond.code yX1_endTrick cX1_endTrick 5 (some .int), Cond.methodLink RX1 89 yX1_beats, Cond.instanceMethod yX1_beats, Cond.selects RX1 yX1_beats yX1_beats, Cond.code yX1_beats cX1_beats 4 (some .boolean), Cond.fieldLink RX1 21 "OpenTricks$Game" "trump" "I", Cond.methodLink RX4 48 yX4_gainOf, Cond.static yX4_gainOf, Cond.code yX4_gainOf cX4_gainOf 1 (some .int), Cond.methodLink RX4 51 yX1_lift, Cond.instanceMethod yX1_lift, Cond.selects RX1 yX1_lift yX1_lift, Cond.code yX1_lift cX1_lift 2 (some .int), Cond.methodLink RX1 51 yX1_addTo, Cond.instanceMethod yX1_addTo, Cond.selects RX1 yX1_addTo yX1_addTo]
def wsX4_mostOfSide0_r8 : List Cond := [Cond.code yX1_addTo cX1_addTo 3 none]
def wsX4_mostOfSide0 : List Cond := .code yX4_mostOfSide0 cX4_mostOfSide0 1 (some .int) :: ((wsX4_mostOfSide0_r1 ++ (wsX4_mostOfSide0_r2 ++ (wsX4_mostOfSide0_r3 ++ (wsX4_mostOfSide0_r4 ++ (wsX4_mostOfSide0_r5 ++ (wsX4_mostOfSide0_r6 ++ (wsX4_mostOfSide0_r7 ++ wsX4_mostOfSide0_r8))))))) ++ wsX40 ++ wsX10 ++ wsX20)
def wsX4_worthOf_r1 : List Cond := [Cond.fieldLink RX4 7 "OpenTricks$Solver" "game" "LOpenTricks$Game;", Cond.methodLink RX4 29 yX1_tricksLeft, Cond.instanceMethod yX1_tricksLeft, Cond.selects RX1 yX1_tricksLeft yX1_tricksLeft, Cond.initialized RX1, Cond.code yX1_tricksLeft cX1_tricksLeft 1 (some .int), Cond.fieldLink RX1 32 "OpenTricks$Game" "tricks" "I", Cond.methodLink RX1 55 yX1_tricksOver, Cond.instanceMethod yX1_tricksOver, Cond.selects RX1 yX1_tricksOver yX1_tricksOver, Cond.code yX1_tricksOver cX1_tricksOver 1 (some .int), Cond.fieldLink RX1 35 "OpenTricks$Game" "laidCount" "I", Cond.methodLink RX4 36 yX1_mover, Cond.instanceMethod yX1_mover, Cond.selects RX1 yX1_mover yX1_mover, Cond.code yX1_mover cX1_mover 1 (some .int), Cond.fieldLink RX1 28 "OpenTricks$Game" "open" "Z", Cond.methodLink RX1 59 yX1_cardsLeft, Cond.instanceMethod yX1_cardsLeft, Cond.selects RX1 yX1_cardsLeft yX1_cardsLeft, Cond.code yX1_cardsLeft cX1_cardsLeft 1 (some .int), Cond.methodLink RX1 62 yX1_leaderOf, Cond.instanceMethod yX1_leaderOf, Cond.selects RX1 yX1_leaderOf yX1_leaderOf]
def wsX4_worthOf_r2 : List Cond := [Cond.code yX1_leaderOf cX1_leaderOf 2 (some .int), Cond.fieldLink RX1 18 "OpenTricks$Game" "leaders" "[I", Cond.methodLink RX1 65 yX1_trickSize, Cond.instanceMethod yX1_trickSize, Cond.selects RX1 yX1_trickSize yX1_trickSize, Cond.code yX1_trickSize cX1_trickSize 1 (some .int), Cond.methodLink RX4 39 yX0_sideOf, Cond.static yX0_sideOf, Cond.initialized RX0, Cond.code yX0_sideOf cX0_sideOf 1 (some .int), Cond.methodLink RX4 45 yX1_lay, Cond.instanceMethod yX1_lay, Cond.selects RX1 yX1_lay yX1_lay, Cond.code yX1_lay cX1_lay 2 (some .int), Cond.fieldLink RX1 15 "OpenTricks$Game" "laid" "[I", Cond.methodLink RX1 71 yX1_mover, Cond.methodLink RX1 83 yX1_dropFrom, Cond.instanceMethod yX1_dropFrom, Cond.selects RX1 yX1_dropFrom yX1_dropFrom, Cond.code yX1_dropFrom cX1_dropFrom 3 none, Cond.fieldLink RX1 9 "OpenTricks$Game" "hands" "[I", Cond.methodLink RX1 86 yX1_endTrick, Cond.instanceMethod yX1_endTrick, Cond.selects RX1 yX1_endTrick yX1_endTrick]
def wsX4_worthOf_r3 : List Cond := [Cond.code yX1_endTrick cX1_endTrick 5 (some .int), Cond.methodLink RX1 68 yX1_laidAt, Cond.instanceMethod yX1_laidAt, Cond.selects RX1 yX1_laidAt yX1_laidAt, Cond.code yX1_laidAt cX1_laidAt 2 (some .int), Cond.methodLink RX1 89 yX1_beats, Cond.instanceMethod yX1_beats, Cond.selects RX1 yX1_beats yX1_beats, Cond.code yX1_beats cX1_beats 4 (some .boolean), Cond.fieldLink RX1 21 "OpenTricks$Game" "trump" "I", Cond.methodLink RX4 48 yX4_gainOf, Cond.static yX4_gainOf, Cond.initialized RX4, Cond.code yX4_gainOf cX4_gainOf 1 (some .int), Cond.methodLink RX4 23 yX1_cardsLeft, Cond.methodLink RX4 32 yX4_search, Cond.instanceMethod yX4_search, Cond.selects RX4 yX4_search yX4_search, Cond.code yX4_search cX4_search 10 (some .int), Cond.fieldLink RX4 16 "OpenTricks$Solver" "kept" "LOpenTricks$Kept;", Cond.methodLink RX4 85 Lib.Math.max.name, Cond.static Lib.Math.max.name, Cond.initialized "java/lang/Math", Cond.code Lib.Math.max.name Lib.Math.max.code 2 (some .int)]
def wsX4_worthOf_r4 : List Cond := [Cond.methodLink RX4 90 Lib.Math.min.name, Cond.static Lib.Math.min.name, Cond.code Lib.Math.min.name Lib.Math.min.code 2 (some .int), Cond.methodLink RX4 70 yX1_trickSize, Cond.methodLink RX4 73 yX4_tryPlays, Cond.instanceMethod yX4_tryPlays, Cond.selects RX4 yX4_tryPlays yX4_tryPlays, Cond.methodLink RX4 76 yX1_betweenTricks, Cond.instanceMethod yX1_betweenTricks, Cond.selects RX1 yX1_betweenTricks yX1_betweenTricks, Cond.code yX1_betweenTricks cX1_betweenTricks 1 (some .int), Cond.methodLink RX1 96 yX1_inHands, Cond.instanceMethod yX1_inHands, Cond.selects RX1 yX1_inHands yX1_inHands, Cond.code yX1_inHands cX1_inHands 3 (some .int), Cond.methodLink RX4 79 yX2_leastAt, Cond.instanceMethod yX2_leastAt, Cond.selects RX2 yX2_leastAt yX2_leastAt, Cond.initialized RX2, Cond.code yX2_leastAt cX2_leastAt 2 (some .int), Cond.methodLink RX2 13 yX2_entryOf, Cond.instanceMethod yX2_entryOf, Cond.selects RX2 yX2_entryOf yX2_entryOf, Cond.code yX2_entryOf cX2_entryOf 4 (some .int)]
def wsX4_worthOf_r5 : List Cond := [Cond.fieldLink RX2 9 "OpenTricks$Kept" "entries" "[I", Cond.methodLink RX2 17 yX2_slotOf, Cond.static yX2_slotOf, Cond.code yX2_slotOf cX2_slotOf 1 (some .int), Cond.constant RX2 20 (-1640531535), Cond.methodLink RX4 82 yX2_mostAt, Cond.instanceMethod yX2_mostAt, Cond.selects RX2 yX2_mostAt yX2_mostAt, Cond.code yX2_mostAt cX2_mostAt 4 (some .int), Cond.methodLink RX4 93 yX2_put, Cond.instanceMethod yX2_put, Cond.selects RX2 yX2_put yX2_put, Cond.code yX2_put cX2_put 5 none, Cond.code yX4_tryPlays cX4_tryPlays 13 (some .int), Cond.methodLink RX4 54 yX1_playable, Cond.instanceMethod yX1_playable, Cond.selects RX1 yX1_playable yX1_playable, Cond.code yX1_playable cX1_playable 3 (some .int), Cond.methodLink RX1 42 yX1_handOf, Cond.instanceMethod yX1_handOf, Cond.selects RX1 yX1_handOf yX1_handOf, Cond.code yX1_handOf cX1_handOf 2 (some .int), Cond.methodLink RX1 74 yX1_trickCard, Cond.instanceMethod yX1_trickCard]
def wsX4_worthOf_r6 : List Cond := [Cond.selects RX1 yX1_trickCard yX1_trickCard, Cond.code yX1_trickCard cX1_trickCard 2 (some .int), Cond.methodLink RX1 77 yX0_suitOf, Cond.static yX0_suitOf, Cond.code yX0_suitOf cX0_suitOf 1 (some .int), Cond.methodLink RX1 80 yX0_suitSet, Cond.static yX0_suitSet, Cond.code yX0_suitSet cX0_suitSet 1 (some .int), Cond.methodLink RX4 57 yX1_out, Cond.instanceMethod yX1_out, Cond.selects RX1 yX1_out yX1_out, Cond.code yX1_out cX1_out 1 (some .int), Cond.constant RX1 95 (16777215), Cond.methodLink RX1 99 yX1_inTrickSet, Cond.instanceMethod yX1_inTrickSet, Cond.selects RX1 yX1_inTrickSet yX1_inTrickSet, Cond.code yX1_inTrickSet cX1_inTrickSet 3 (some .int), Cond.methodLink RX4 60 yX0_lowestOfEquals, Cond.static yX0_lowestOfEquals, Cond.code yX0_lowestOfEquals cX0_lowestOfEquals 6 (some .int), Cond.methodLink RX0 25 yX0_lowest, Cond.static yX0_lowest, Cond.code yX0_lowest cX0_lowest 1 (some .int), Cond.methodLink RX0 9 yJ6_numberOfTrailingZeros_0f7a4]
def wsX4_worthOf_r7 : List Cond := [Cond.static yJ6_numberOfTrailingZeros_0f7a4, Cond.initialized RJ6, Cond.code yJ6_numberOfTrailingZeros_0f7a4 cJ6_numberOfTrailingZeros_0f7a4 2 (some .int), Cond.constant RJ6 264 (65536), Cond.methodLink RX0 28 yX0_equalBelow, Cond.static yX0_equalBelow, Cond.code yX0_equalBelow cX0_equalBelow 5 (some .int), Cond.methodLink RX0 18 yX0_suitOf, Cond.methodLink RX0 21 yX0_holds, Cond.static yX0_holds, Cond.code yX0_holds cX0_holds 2 (some .boolean), Cond.methodLink RX4 97 yX0_highest, Cond.static yX0_highest, Cond.code yX0_highest cX0_highest 1 (some .int), Cond.methodLink RX0 15 yJ6_numberOfLeadingZeros_0f7a4, Cond.static yJ6_numberOfLeadingZeros_0f7a4, Cond.code yJ6_numberOfLeadingZeros_0f7a4 cJ6_numberOfLeadingZeros_0f7a4 2 (some .int), Cond.methodLink RX4 51 yX1_lift, Cond.instanceMethod yX1_lift, Cond.selects RX1 yX1_lift yX1_lift, Cond.code yX1_lift cX1_lift 2 (some .int), Cond.methodLink RX1 51 yX1_addTo, Cond.instanceMethod yX1_addTo, Cond.selects RX1 yX1_addTo yX1_addTo]
def wsX4_worthOf_r8 : List Cond := [Cond.code yX1_addTo cX1_addTo 3 none]
def wsX4_worthOf : List Cond := .code yX4_worthOf cX4_worthOf 6 (some .int) :: ((wsX4_worthOf_r1 ++ (wsX4_worthOf_r2 ++ (wsX4_worthOf_r3 ++ (wsX4_worthOf_r4 ++ (wsX4_worthOf_r5 ++ (wsX4_worthOf_r6 ++ (wsX4_worthOf_r7 ++ wsX4_worthOf_r8))))))) ++ wsX40 ++ wsX10 ++ wsX20)
def wsX4_bestPlay_r1 : List Cond := [Cond.fieldLink RX4 7 "OpenTricks$Solver" "game" "LOpenTricks$Game;", Cond.methodLink RX4 54 yX1_playable, Cond.instanceMethod yX1_playable, Cond.selects RX1 yX1_playable yX1_playable, Cond.initialized RX1, Cond.code yX1_playable cX1_playable 3 (some .int), Cond.methodLink RX1 71 yX1_mover, Cond.instanceMethod yX1_mover, Cond.selects RX1 yX1_mover yX1_mover, Cond.code yX1_mover cX1_mover 1 (some .int), Cond.fieldLink RX1 28 "OpenTricks$Game" "open" "Z", Cond.methodLink RX1 59 yX1_cardsLeft, Cond.instanceMethod yX1_cardsLeft, Cond.selects RX1 yX1_cardsLeft yX1_cardsLeft, Cond.code yX1_cardsLeft cX1_cardsLeft 1 (some .int), Cond.fieldLink RX1 32 "OpenTricks$Game" "tricks" "I", Cond.fieldLink RX1 35 "OpenTricks$Game" "laidCount" "I", Cond.methodLink RX1 55 yX1_tricksOver, Cond.instanceMethod yX1_tricksOver, Cond.selects RX1 yX1_tricksOver yX1_tricksOver, Cond.code yX1_tricksOver cX1_tricksOver 1 (some .int), Cond.methodLink RX1 62 yX1_leaderOf, Cond.instanceMethod yX1_leaderOf, Cond.selects RX1 yX1_leaderOf yX1_leaderOf]
def wsX4_bestPlay_r2 : List Cond := [Cond.code yX1_leaderOf cX1_leaderOf 2 (some .int), Cond.fieldLink RX1 18 "OpenTricks$Game" "leaders" "[I", Cond.methodLink RX1 65 yX1_trickSize, Cond.instanceMethod yX1_trickSize, Cond.selects RX1 yX1_trickSize yX1_trickSize, Cond.code yX1_trickSize cX1_trickSize 1 (some .int), Cond.methodLink RX1 42 yX1_handOf, Cond.instanceMethod yX1_handOf, Cond.selects RX1 yX1_handOf yX1_handOf, Cond.code yX1_handOf cX1_handOf 2 (some .int), Cond.fieldLink RX1 9 "OpenTricks$Game" "hands" "[I", Cond.methodLink RX1 74 yX1_trickCard, Cond.instanceMethod yX1_trickCard, Cond.selects RX1 yX1_trickCard yX1_trickCard, Cond.code yX1_trickCard cX1_trickCard 2 (some .int), Cond.methodLink RX1 68 yX1_laidAt, Cond.instanceMethod yX1_laidAt, Cond.selects RX1 yX1_laidAt yX1_laidAt, Cond.code yX1_laidAt cX1_laidAt 2 (some .int), Cond.fieldLink RX1 15 "OpenTricks$Game" "laid" "[I", Cond.methodLink RX1 77 yX0_suitOf, Cond.static yX0_suitOf, Cond.initialized RX0, Cond.code yX0_suitOf cX0_suitOf 1 (some .int)]
def wsX4_bestPlay_r3 : List Cond := [Cond.methodLink RX1 80 yX0_suitSet, Cond.static yX0_suitSet, Cond.code yX0_suitSet cX0_suitSet 1 (some .int), Cond.methodLink RX4 57 yX1_out, Cond.instanceMethod yX1_out, Cond.selects RX1 yX1_out yX1_out, Cond.code yX1_out cX1_out 1 (some .int), Cond.constant RX1 95 (16777215), Cond.methodLink RX1 96 yX1_inHands, Cond.instanceMethod yX1_inHands, Cond.selects RX1 yX1_inHands yX1_inHands, Cond.code yX1_inHands cX1_inHands 3 (some .int), Cond.methodLink RX1 99 yX1_inTrickSet, Cond.instanceMethod yX1_inTrickSet, Cond.selects RX1 yX1_inTrickSet yX1_inTrickSet, Cond.code yX1_inTrickSet cX1_inTrickSet 3 (some .int), Cond.methodLink RX4 60 yX0_lowestOfEquals, Cond.static yX0_lowestOfEquals, Cond.code yX0_lowestOfEquals cX0_lowestOfEquals 6 (some .int), Cond.methodLink RX0 25 yX0_lowest, Cond.static yX0_lowest, Cond.code yX0_lowest cX0_lowest 1 (some .int), Cond.methodLink RX0 9 yJ6_numberOfTrailingZeros_0f7a4, Cond.static yJ6_numberOfTrailingZeros_0f7a4]
def wsX4_bestPlay_r4 : List Cond := [Cond.initialized RJ6, Cond.code yJ6_numberOfTrailingZeros_0f7a4 cJ6_numberOfTrailingZeros_0f7a4 2 (some .int), Cond.constant RJ6 264 (65536), Cond.methodLink RX0 28 yX0_equalBelow, Cond.static yX0_equalBelow, Cond.code yX0_equalBelow cX0_equalBelow 5 (some .int), Cond.methodLink RX0 18 yX0_suitOf, Cond.methodLink RX0 21 yX0_holds, Cond.static yX0_holds, Cond.code yX0_holds cX0_holds 2 (some .boolean), Cond.methodLink RX4 64 yX0_lowest, Cond.methodLink RX4 67 yX4_worthOf, Cond.instanceMethod yX4_worthOf, Cond.selects RX4 yX4_worthOf yX4_worthOf, Cond.initialized RX4, Cond.code yX4_worthOf cX4_worthOf 6 (some .int), Cond.methodLink RX4 29 yX1_tricksLeft, Cond.instanceMethod yX1_tricksLeft, Cond.selects RX1 yX1_tricksLeft yX1_tricksLeft, Cond.code yX1_tricksLeft cX1_tricksLeft 1 (some .int), Cond.methodLink RX4 36 yX1_mover, Cond.methodLink RX4 39 yX0_sideOf, Cond.static yX0_sideOf, Cond.code yX0_sideOf cX0_sideOf 1 (some .int)]
def wsX4_bestPlay_r5 : List Cond := [Cond.methodLink RX4 45 yX1_lay, Cond.instanceMethod yX1_lay, Cond.selects RX1 yX1_lay yX1_lay, Cond.code yX1_lay cX1_lay 2 (some .int), Cond.methodLink RX1 83 yX1_dropFrom, Cond.instanceMethod yX1_dropFrom, Cond.selects RX1 yX1_dropFrom yX1_dropFrom, Cond.code yX1_dropFrom cX1_dropFrom 3 none, Cond.methodLink RX1 86 yX1_endTrick, Cond.instanceMethod yX1_endTrick, Cond.selects RX1 yX1_endTrick yX1_endTrick, Cond.code yX1_endTrick cX1_endTrick 5 (some .int), Cond.methodLink RX1 89 yX1_beats, Cond.instanceMethod yX1_beats, Cond.selects RX1 yX1_beats yX1_beats, Cond.code yX1_beats cX1_beats 4 (some .boolean), Cond.fieldLink RX1 21 "OpenTricks$Game" "trump" "I", Cond.methodLink RX4 48 yX4_gainOf, Cond.static yX4_gainOf, Cond.code yX4_gainOf cX4_gainOf 1 (some .int), Cond.methodLink RX4 23 yX1_cardsLeft, Cond.methodLink RX4 32 yX4_search, Cond.instanceMethod yX4_search, Cond.selects RX4 yX4_search yX4_search]
def wsX4_bestPlay_r6 : List Cond := [Cond.code yX4_search cX4_search 10 (some .int), Cond.fieldLink RX4 16 "OpenTricks$Solver" "kept" "LOpenTricks$Kept;", Cond.methodLink RX4 85 Lib.Math.max.name, Cond.static Lib.Math.max.name, Cond.initialized "java/lang/Math", Cond.code Lib.Math.max.name Lib.Math.max.code 2 (some .int), Cond.methodLink RX4 90 Lib.Math.min.name, Cond.static Lib.Math.min.name, Cond.code Lib.Math.min.name Lib.Math.min.code 2 (some .int), Cond.methodLink RX4 70 yX1_trickSize, Cond.methodLink RX4 73 yX4_tryPlays, Cond.instanceMethod yX4_tryPlays, Cond.selects RX4 yX4_tryPlays yX4_tryPlays, Cond.methodLink RX4 76 yX1_betweenTricks, Cond.instanceMethod yX1_betweenTricks, Cond.selects RX1 yX1_betweenTricks yX1_betweenTricks, Cond.code yX1_betweenTricks cX1_betweenTricks 1 (some .int), Cond.methodLink RX4 79 yX2_leastAt, Cond.instanceMethod yX2_leastAt, Cond.selects RX2 yX2_leastAt yX2_leastAt, Cond.initialized RX2, Cond.code yX2_leastAt cX2_leastAt 2 (some .int), Cond.methodLink RX2 13 yX2_entryOf, Cond.instanceMethod yX2_entryOf]
def wsX4_bestPlay_r7 : List Cond := [Cond.selects RX2 yX2_entryOf yX2_entryOf, Cond.code yX2_entryOf cX2_entryOf 4 (some .int), Cond.fieldLink RX2 9 "OpenTricks$Kept" "entries" "[I", Cond.methodLink RX2 17 yX2_slotOf, Cond.static yX2_slotOf, Cond.code yX2_slotOf cX2_slotOf 1 (some .int), Cond.constant RX2 20 (-1640531535), Cond.methodLink RX4 82 yX2_mostAt, Cond.instanceMethod yX2_mostAt, Cond.selects RX2 yX2_mostAt yX2_mostAt, Cond.code yX2_mostAt cX2_mostAt 4 (some .int), Cond.methodLink RX4 93 yX2_put, Cond.instanceMethod yX2_put, Cond.selects RX2 yX2_put yX2_put, Cond.code yX2_put cX2_put 5 none, Cond.code yX4_tryPlays cX4_tryPlays 13 (some .int), Cond.methodLink RX4 97 yX0_highest, Cond.static yX0_highest, Cond.code yX0_highest cX0_highest 1 (some .int), Cond.methodLink RX0 15 yJ6_numberOfLeadingZeros_0f7a4, Cond.static yJ6_numberOfLeadingZeros_0f7a4, Cond.code yJ6_numberOfLeadingZeros_0f7a4 cJ6_numberOfLeadingZeros_0f7a4 2 (some .int), Cond.methodLink RX4 51 yX1_lift, Cond.instanceMethod yX1_lift]
def wsX4_bestPlay_r8 : List Cond := [Cond.selects RX1 yX1_lift yX1_lift, Cond.code yX1_lift cX1_lift 2 (some .int), Cond.methodLink RX1 51 yX1_addTo, Cond.instanceMethod yX1_addTo, Cond.selects RX1 yX1_addTo yX1_addTo, Cond.code yX1_addTo cX1_addTo 3 none]
def wsX4_bestPlay : List Cond := .code yX4_bestPlay cX4_bestPlay 7 (some .int) :: ((wsX4_bestPlay_r1 ++ (wsX4_bestPlay_r2 ++ (wsX4_bestPlay_r3 ++ (wsX4_bestPlay_r4 ++ (wsX4_bestPlay_r5 ++ (wsX4_bestPlay_r6 ++ (wsX4_bestPlay_r7 ++ wsX4_bestPlay_r8))))))) ++ wsX40 ++ wsX10 ++ wsX20)
def wsX4_byAllPlays_r1 : List Cond := [Cond.methodLink RX4 85 Lib.Math.max.name, Cond.static Lib.Math.max.name, Cond.initialized "java/lang/Math", Cond.code Lib.Math.max.name Lib.Math.max.code 2 (some .int), Cond.methodLink RX4 90 Lib.Math.min.name, Cond.static Lib.Math.min.name, Cond.code Lib.Math.min.name Lib.Math.min.code 2 (some .int), Cond.methodLink RX4 36 yX1_mover, Cond.instanceMethod yX1_mover, Cond.selects RX1 yX1_mover yX1_mover, Cond.initialized RX1, Cond.code yX1_mover cX1_mover 1 (some .int), Cond.fieldLink RX1 28 "OpenTricks$Game" "open" "Z", Cond.methodLink RX1 59 yX1_cardsLeft, Cond.instanceMethod yX1_cardsLeft, Cond.selects RX1 yX1_cardsLeft yX1_cardsLeft, Cond.code yX1_cardsLeft cX1_cardsLeft 1 (some .int), Cond.fieldLink RX1 32 "OpenTricks$Game" "tricks" "I", Cond.fieldLink RX1 35 "OpenTricks$Game" "laidCount" "I", Cond.methodLink RX1 55 yX1_tricksOver, Cond.instanceMethod yX1_tricksOver, Cond.selects RX1 yX1_tricksOver yX1_tricksOver, Cond.code yX1_tricksOver cX1_tricksOver 1 (some .int), Cond.methodLink RX1 62 yX1_leaderOf]
def wsX4_byAllPlays_r2 : List Cond := [Cond.instanceMethod yX1_leaderOf, Cond.selects RX1 yX1_leaderOf yX1_leaderOf, Cond.code yX1_leaderOf cX1_leaderOf 2 (some .int), Cond.fieldLink RX1 18 "OpenTricks$Game" "leaders" "[I", Cond.methodLink RX1 65 yX1_trickSize, Cond.instanceMethod yX1_trickSize, Cond.selects RX1 yX1_trickSize yX1_trickSize, Cond.code yX1_trickSize cX1_trickSize 1 (some .int), Cond.methodLink RX4 39 yX0_sideOf, Cond.static yX0_sideOf, Cond.initialized RX0, Cond.code yX0_sideOf cX0_sideOf 1 (some .int), Cond.methodLink RX4 54 yX1_playable, Cond.instanceMethod yX1_playable, Cond.selects RX1 yX1_playable yX1_playable, Cond.code yX1_playable cX1_playable 3 (some .int), Cond.methodLink RX1 71 yX1_mover, Cond.methodLink RX1 42 yX1_handOf, Cond.instanceMethod yX1_handOf, Cond.selects RX1 yX1_handOf yX1_handOf, Cond.code yX1_handOf cX1_handOf 2 (some .int), Cond.fieldLink RX1 9 "OpenTricks$Game" "hands" "[I", Cond.methodLink RX1 74 yX1_trickCard, Cond.instanceMethod yX1_trickCard]
def wsX4_byAllPlays_r3 : List Cond := [Cond.selects RX1 yX1_trickCard yX1_trickCard, Cond.code yX1_trickCard cX1_trickCard 2 (some .int), Cond.methodLink RX1 68 yX1_laidAt, Cond.instanceMethod yX1_laidAt, Cond.selects RX1 yX1_laidAt yX1_laidAt, Cond.code yX1_laidAt cX1_laidAt 2 (some .int), Cond.fieldLink RX1 15 "OpenTricks$Game" "laid" "[I", Cond.methodLink RX1 77 yX0_suitOf, Cond.static yX0_suitOf, Cond.code yX0_suitOf cX0_suitOf 1 (some .int), Cond.methodLink RX1 80 yX0_suitSet, Cond.static yX0_suitSet, Cond.code yX0_suitSet cX0_suitSet 1 (some .int), Cond.methodLink RX4 64 yX0_lowest, Cond.static yX0_lowest, Cond.code yX0_lowest cX0_lowest 1 (some .int), Cond.methodLink RX0 9 yJ6_numberOfTrailingZeros_0f7a4, Cond.static yJ6_numberOfTrailingZeros_0f7a4, Cond.initialized RJ6, Cond.code yJ6_numberOfTrailingZeros_0f7a4 cJ6_numberOfTrailingZeros_0f7a4 2 (some .int), Cond.constant RJ6 264 (65536), Cond.methodLink RX4 45 yX1_lay, Cond.instanceMethod yX1_lay, Cond.selects RX1 yX1_lay yX1_lay]
def wsX4_byAllPlays_r4 : List Cond := [Cond.code yX1_lay cX1_lay 2 (some .int), Cond.methodLink RX1 83 yX1_dropFrom, Cond.instanceMethod yX1_dropFrom, Cond.selects RX1 yX1_dropFrom yX1_dropFrom, Cond.code yX1_dropFrom cX1_dropFrom 3 none, Cond.methodLink RX1 86 yX1_endTrick, Cond.instanceMethod yX1_endTrick, Cond.selects RX1 yX1_endTrick yX1_endTrick, Cond.code yX1_endTrick cX1_endTrick 5 (some .int), Cond.methodLink RX1 89 yX1_beats, Cond.instanceMethod yX1_beats, Cond.selects RX1 yX1_beats yX1_beats, Cond.code yX1_beats cX1_beats 4 (some .boolean), Cond.fieldLink RX1 21 "OpenTricks$Game" "trump" "I", Cond.methodLink RX4 48 yX4_gainOf, Cond.static yX4_gainOf, Cond.initialized RX4, Cond.code yX4_gainOf cX4_gainOf 1 (some .int), Cond.methodLink RX4 100 yX4_byAllPlays, Cond.static yX4_byAllPlays, Cond.methodLink RX4 51 yX1_lift, Cond.instanceMethod yX1_lift, Cond.selects RX1 yX1_lift yX1_lift, Cond.code yX1_lift cX1_lift 2 (some .int)]
def wsX4_byAllPlays_r5 : List Cond := [Cond.methodLink RX1 51 yX1_addTo, Cond.instanceMethod yX1_addTo, Cond.selects RX1 yX1_addTo yX1_addTo, Cond.code yX1_addTo cX1_addTo 3 none]
def wsX4_byAllPlays : List Cond := .code yX4_byAllPlays cX4_byAllPlays 8 (some .int) :: ((wsX4_byAllPlays_r1 ++ (wsX4_byAllPlays_r2 ++ (wsX4_byAllPlays_r3 ++ (wsX4_byAllPlays_r4 ++ wsX4_byAllPlays_r5)))) ++ wsX10)
def wsX5_init_r1 : List Cond := [Cond.methodLink RX5 1 objectInit, Cond.instanceMethod objectInit, Cond.code objectInit ⟨#[0xb1]⟩ 1 none, Cond.classLink RX5 7 RX1, Cond.instantiable RX1 8, Cond.initialized RX1, Cond.fieldLink RX5 10 "OpenTricks" "game" "LOpenTricks$Game;", Cond.classLink RX5 16 RX4, Cond.instantiable RX4 2, Cond.initialized RX4, Cond.fieldLink RX5 21 "OpenTricks" "solver" "LOpenTricks$Solver;", Cond.classLink RX5 25 RX3, Cond.instantiable RX3 1, Cond.initialized RX3, Cond.fieldLink RX5 28 "OpenTricks" "look" "LOpenTricks$Look;", Cond.methodLink RX5 9 yX1_init, Cond.instanceMethod yX1_init, Cond.code yX1_init cX1_init 1 none, Cond.methodLink RX1 1 objectInit, Cond.arrayClass .int, Cond.fieldLink RX1 9 "OpenTricks$Game" "hands" "[I", Cond.fieldLink RX1 15 "OpenTricks$Game" "laid" "[I", Cond.fieldLink RX1 18 "OpenTricks$Game" "leaders" "[I", Cond.fieldLink RX1 21 "OpenTricks$Game" "trump" "I"]
def wsX5_init_r2 : List Cond := [Cond.methodLink RX5 18 yX4_init, Cond.instanceMethod yX4_init, Cond.code yX4_init cX4_init 2 none, Cond.methodLink RX4 1 objectInit, Cond.fieldLink RX4 7 "OpenTricks$Solver" "game" "LOpenTricks$Game;", Cond.classLink RX4 13 RX2, Cond.instantiable RX2 1, Cond.initialized RX2, Cond.fieldLink RX4 16 "OpenTricks$Solver" "kept" "LOpenTricks$Kept;", Cond.methodLink RX4 15 yX2_init, Cond.instanceMethod yX2_init, Cond.code yX2_init cX2_init 1 none, Cond.methodLink RX2 3 objectInit, Cond.fieldLink RX2 9 "OpenTricks$Kept" "entries" "[I", Cond.methodLink RX5 27 yX3_init, Cond.instanceMethod yX3_init, Cond.code yX3_init cX3_init 2 none, Cond.methodLink RX3 1 objectInit, Cond.fieldLink RX3 7 "OpenTricks$Look" "game" "LOpenTricks$Game;"]
def wsX5_init : List Cond := .code yX5_init cX5_init 1 none :: ((wsX5_init_r1 ++ wsX5_init_r2) ++ wsX10 ++ wsX50 ++ wsX40 ++ wsX30 ++ wsX20)
def wsX5_begin : List Cond := .code yX5_begin cX5_begin 2 (some .int) :: ([.classLink RX5 34 "java/lang/IllegalArgumentException", .initialized "java/lang/IllegalArgumentException", .fieldLink RX5 10 "OpenTricks" "game" "LOpenTricks$Game;", .methodLink RX5 41 yX1_clearFor, .instanceMethod yX1_clearFor, .selects RX1 yX1_clearFor yX1_clearFor, .initialized RX1, .code yX1_clearFor cX1_clearFor 4 (some .int), .fieldLink RX1 21 "OpenTricks$Game" "trump" "I", .fieldLink RX1 9 "OpenTricks$Game" "hands" "[I", .fieldLink RX1 25 "OpenTricks$Game" "given" "I", .fieldLink RX1 28 "OpenTricks$Game" "open" "Z", .fieldLink RX1 32 "OpenTricks$Game" "tricks" "I", .fieldLink RX1 35 "OpenTricks$Game" "laidCount" "I"] ++ wsX50 ++ wsX10 ++ (vx_atS RX5 38 "java/lang/IllegalArgumentException" ["java/lang/RuntimeException", "java/lang/Exception"]).filter goodWord)
def wsX5_needPlayer : List Cond := .code yX5_needPlayer cX5_needPlayer 1 none :: ([.classLink RX5 34 "java/lang/IllegalArgumentException", .initialized "java/lang/IllegalArgumentException"] ++ (vx_atS RX5 38 "java/lang/IllegalArgumentException" ["java/lang/RuntimeException", "java/lang/Exception"]).filter goodWord)
def wsX5_needCard : List Cond := .code yX5_needCard cX5_needCard 1 none :: ([.classLink RX5 34 "java/lang/IllegalArgumentException", .initialized "java/lang/IllegalArgumentException"] ++ (vx_atS RX5 38 "java/lang/IllegalArgumentException" ["java/lang/RuntimeException", "java/lang/Exception"]).filter goodWord)
def wsX5_give_r1 : List Cond := [Cond.classLink RX5 56 "java/lang/IllegalStateException", Cond.initialized "java/lang/IllegalStateException", Cond.fieldLink RX5 10 "OpenTricks" "game" "LOpenTricks$Game;", Cond.methodLink RX5 45 yX5_needPlayer, Cond.static yX5_needPlayer, Cond.initialized RX5, Cond.code yX5_needPlayer cX5_needPlayer 1 none, Cond.classLink RX5 34 "java/lang/IllegalArgumentException", Cond.initialized "java/lang/IllegalArgumentException", Cond.methodLink RX5 49 yX5_needCard, Cond.static yX5_needCard, Cond.code yX5_needCard cX5_needCard 1 none, Cond.methodLink RX5 52 yX1_canDeal, Cond.instanceMethod yX1_canDeal, Cond.selects RX1 yX1_canDeal yX1_canDeal, Cond.initialized RX1, Cond.code yX1_canDeal cX1_canDeal 3 (some .boolean), Cond.fieldLink RX1 28 "OpenTricks$Game" "open" "Z", Cond.fieldLink RX1 25 "OpenTricks$Game" "given" "I", Cond.methodLink RX1 38 yX0_holds, Cond.static yX0_holds, Cond.initialized RX0, Cond.code yX0_holds cX0_holds 2 (some .boolean), Cond.methodLink RX1 42 yX1_handOf]
def wsX5_give_r2 : List Cond := [Cond.instanceMethod yX1_handOf, Cond.selects RX1 yX1_handOf yX1_handOf, Cond.code yX1_handOf cX1_handOf 2 (some .int), Cond.fieldLink RX1 9 "OpenTricks$Game" "hands" "[I", Cond.methodLink RX1 46 yJ6_bitCount_0f7a4, Cond.static yJ6_bitCount_0f7a4, Cond.initialized RJ6, Cond.code yJ6_bitCount_0f7a4 cJ6_bitCount_0f7a4 1 (some .int), Cond.constant RJ6 265 (1431655765), Cond.constant RJ6 266 (858993459), Cond.constant RJ6 267 (252645135), Cond.methodLink RX5 61 yX1_deal, Cond.instanceMethod yX1_deal, Cond.selects RX1 yX1_deal yX1_deal, Cond.code yX1_deal cX1_deal 3 (some .int), Cond.methodLink RX1 51 yX1_addTo, Cond.instanceMethod yX1_addTo, Cond.selects RX1 yX1_addTo yX1_addTo, Cond.code yX1_addTo cX1_addTo 3 none]
def wsX5_give : List Cond := .code yX5_give cX5_give 3 (some .int) :: ((wsX5_give_r1 ++ wsX5_give_r2) ++ wsX50 ++ wsX10 ++ (vx_atS RX5 60 "java/lang/IllegalStateException" ["java/lang/RuntimeException", "java/lang/Exception"]).filter goodWord ++ (vx_atS RX5 38 "java/lang/IllegalArgumentException" ["java/lang/RuntimeException", "java/lang/Exception"]).filter goodWord)
def wsX5_start_r1 : List Cond := [Cond.classLink RX5 56 "java/lang/IllegalStateException", Cond.initialized "java/lang/IllegalStateException", Cond.fieldLink RX5 10 "OpenTricks" "game" "LOpenTricks$Game;", Cond.fieldLink RX5 21 "OpenTricks" "solver" "LOpenTricks$Solver;", Cond.methodLink RX5 45 yX5_needPlayer, Cond.static yX5_needPlayer, Cond.initialized RX5, Cond.code yX5_needPlayer cX5_needPlayer 1 none, Cond.classLink RX5 34 "java/lang/IllegalArgumentException", Cond.initialized "java/lang/IllegalArgumentException", Cond.methodLink RX5 65 yX1_canOpen, Cond.instanceMethod yX1_canOpen, Cond.selects RX1 yX1_canOpen yX1_canOpen, Cond.initialized RX1, Cond.code yX1_canOpen cX1_canOpen 3 (some .boolean), Cond.fieldLink RX1 28 "OpenTricks$Game" "open" "Z", Cond.methodLink RX1 42 yX1_handOf, Cond.instanceMethod yX1_handOf, Cond.selects RX1 yX1_handOf yX1_handOf, Cond.code yX1_handOf cX1_handOf 2 (some .int), Cond.fieldLink RX1 9 "OpenTricks$Game" "hands" "[I", Cond.methodLink RX1 46 yJ6_bitCount_0f7a4, Cond.static yJ6_bitCount_0f7a4, Cond.initialized RJ6]
def wsX5_start_r2 : List Cond := [Cond.code yJ6_bitCount_0f7a4 cJ6_bitCount_0f7a4 1 (some .int), Cond.constant RJ6 265 (1431655765), Cond.constant RJ6 266 (858993459), Cond.constant RJ6 267 (252645135), Cond.methodLink RX5 71 yX4_forget, Cond.instanceMethod yX4_forget, Cond.selects RX4 yX4_forget yX4_forget, Cond.initialized RX4, Cond.code yX4_forget cX4_forget 1 none, Cond.fieldLink RX4 16 "OpenTricks$Solver" "kept" "LOpenTricks$Kept;", Cond.methodLink RX4 20 yX2_clear, Cond.instanceMethod yX2_clear, Cond.selects RX2 yX2_clear yX2_clear, Cond.initialized RX2, Cond.code yX2_clear cX2_clear 2 none, Cond.fieldLink RX2 9 "OpenTricks$Kept" "entries" "[I", Cond.methodLink RX5 74 yX1_open, Cond.instanceMethod yX1_open, Cond.selects RX1 yX1_open yX1_open, Cond.code yX1_open cX1_open 2 (some .int), Cond.fieldLink RX1 32 "OpenTricks$Game" "tricks" "I", Cond.fieldLink RX1 18 "OpenTricks$Game" "leaders" "[I"]
def wsX5_start : List Cond := .code yX5_start cX5_start 2 (some .int) :: ((wsX5_start_r1 ++ wsX5_start_r2) ++ wsX50 ++ wsX10 ++ wsX40 ++ wsX20 ++ (vx_atS RX5 60 "java/lang/IllegalStateException" ["java/lang/RuntimeException", "java/lang/Exception"]).filter goodWord ++ (vx_atS RX5 38 "java/lang/IllegalArgumentException" ["java/lang/RuntimeException", "java/lang/Exception"]).filter goodWord)
def wsX5_isStarted : List Cond := .code yX5_isStarted cX5_isStarted 1 (some .boolean) :: ([.fieldLink RX5 10 "OpenTricks" "game" "LOpenTricks$Game;", .methodLink RX5 77 yX1_isOpen, .instanceMethod yX1_isOpen, .selects RX1 yX1_isOpen yX1_isOpen, .initialized RX1, .code yX1_isOpen cX1_isOpen 1 (some .boolean), .fieldLink RX1 28 "OpenTricks$Game" "open" "Z"] ++ wsX50 ++ wsX10)
def wsX5_needPlayable_r1 : List Cond := [Cond.classLink RX5 56 "java/lang/IllegalStateException", Cond.initialized "java/lang/IllegalStateException", Cond.fieldLink RX5 10 "OpenTricks" "game" "LOpenTricks$Game;", Cond.methodLink RX5 95 yX1_playable, Cond.instanceMethod yX1_playable, Cond.selects RX1 yX1_playable yX1_playable, Cond.initialized RX1, Cond.code yX1_playable cX1_playable 3 (some .int), Cond.methodLink RX1 71 yX1_mover, Cond.instanceMethod yX1_mover, Cond.selects RX1 yX1_mover yX1_mover, Cond.code yX1_mover cX1_mover 1 (some .int), Cond.fieldLink RX1 28 "OpenTricks$Game" "open" "Z", Cond.methodLink RX1 59 yX1_cardsLeft, Cond.instanceMethod yX1_cardsLeft, Cond.selects RX1 yX1_cardsLeft yX1_cardsLeft, Cond.code yX1_cardsLeft cX1_cardsLeft 1 (some .int), Cond.fieldLink RX1 32 "OpenTricks$Game" "tricks" "I", Cond.fieldLink RX1 35 "OpenTricks$Game" "laidCount" "I", Cond.methodLink RX1 55 yX1_tricksOver, Cond.instanceMethod yX1_tricksOver, Cond.selects RX1 yX1_tricksOver yX1_tricksOver, Cond.code yX1_tricksOver cX1_tricksOver 1 (some .int), Cond.methodLink RX1 62 yX1_leaderOf]
def wsX5_needPlayable_r2 : List Cond := [Cond.instanceMethod yX1_leaderOf, Cond.selects RX1 yX1_leaderOf yX1_leaderOf, Cond.code yX1_leaderOf cX1_leaderOf 2 (some .int), Cond.fieldLink RX1 18 "OpenTricks$Game" "leaders" "[I", Cond.methodLink RX1 65 yX1_trickSize, Cond.instanceMethod yX1_trickSize, Cond.selects RX1 yX1_trickSize yX1_trickSize, Cond.code yX1_trickSize cX1_trickSize 1 (some .int), Cond.methodLink RX1 42 yX1_handOf, Cond.instanceMethod yX1_handOf, Cond.selects RX1 yX1_handOf yX1_handOf, Cond.code yX1_handOf cX1_handOf 2 (some .int), Cond.fieldLink RX1 9 "OpenTricks$Game" "hands" "[I", Cond.methodLink RX1 74 yX1_trickCard, Cond.instanceMethod yX1_trickCard, Cond.selects RX1 yX1_trickCard yX1_trickCard, Cond.code yX1_trickCard cX1_trickCard 2 (some .int), Cond.methodLink RX1 68 yX1_laidAt, Cond.instanceMethod yX1_laidAt, Cond.selects RX1 yX1_laidAt yX1_laidAt, Cond.code yX1_laidAt cX1_laidAt 2 (some .int), Cond.fieldLink RX1 15 "OpenTricks$Game" "laid" "[I", Cond.methodLink RX1 77 yX0_suitOf, Cond.static yX0_suitOf]
def wsX5_needPlayable_r3 : List Cond := [Cond.initialized RX0, Cond.code yX0_suitOf cX0_suitOf 1 (some .int), Cond.methodLink RX1 80 yX0_suitSet, Cond.static yX0_suitSet, Cond.code yX0_suitSet cX0_suitSet 1 (some .int), Cond.methodLink RX5 98 yX0_holds, Cond.static yX0_holds, Cond.code yX0_holds cX0_holds 2 (some .boolean)]
def wsX5_needPlayable : List Cond := .code yX5_needPlayable cX5_needPlayable 2 none :: ((wsX5_needPlayable_r1 ++ (wsX5_needPlayable_r2 ++ wsX5_needPlayable_r3)) ++ wsX50 ++ wsX10 ++ (vx_atS RX5 60 "java/lang/IllegalStateException" ["java/lang/RuntimeException", "java/lang/Exception"]).filter goodWord)
def wsX5_play_r1 : List Cond := [Cond.fieldLink RX5 10 "OpenTricks" "game" "LOpenTricks$Game;", Cond.methodLink RX5 49 yX5_needCard, Cond.static yX5_needCard, Cond.initialized RX5, Cond.code yX5_needCard cX5_needCard 1 none, Cond.classLink RX5 34 "java/lang/IllegalArgumentException", Cond.initialized "java/lang/IllegalArgumentException", Cond.methodLink RX5 80 yX5_needPlayable, Cond.instanceMethod yX5_needPlayable, Cond.selects RX5 yX5_needPlayable yX5_needPlayable, Cond.code yX5_needPlayable cX5_needPlayable 2 none, Cond.classLink RX5 56 "java/lang/IllegalStateException", Cond.initialized "java/lang/IllegalStateException", Cond.methodLink RX5 95 yX1_playable, Cond.instanceMethod yX1_playable, Cond.selects RX1 yX1_playable yX1_playable, Cond.initialized RX1, Cond.code yX1_playable cX1_playable 3 (some .int), Cond.methodLink RX1 71 yX1_mover, Cond.instanceMethod yX1_mover, Cond.selects RX1 yX1_mover yX1_mover, Cond.code yX1_mover cX1_mover 1 (some .int), Cond.fieldLink RX1 28 "OpenTricks$Game" "open" "Z", Cond.methodLink RX1 59 yX1_cardsLeft]
def wsX5_play_r2 : List Cond := [Cond.instanceMethod yX1_cardsLeft, Cond.selects RX1 yX1_cardsLeft yX1_cardsLeft, Cond.code yX1_cardsLeft cX1_cardsLeft 1 (some .int), Cond.fieldLink RX1 32 "OpenTricks$Game" "tricks" "I", Cond.fieldLink RX1 35 "OpenTricks$Game" "laidCount" "I", Cond.methodLink RX1 55 yX1_tricksOver, Cond.instanceMethod yX1_tricksOver, Cond.selects RX1 yX1_tricksOver yX1_tricksOver, Cond.code yX1_tricksOver cX1_tricksOver 1 (some .int), Cond.methodLink RX1 62 yX1_leaderOf, Cond.instanceMethod yX1_leaderOf, Cond.selects RX1 yX1_leaderOf yX1_leaderOf, Cond.code yX1_leaderOf cX1_leaderOf 2 (some .int), Cond.fieldLink RX1 18 "OpenTricks$Game" "leaders" "[I", Cond.methodLink RX1 65 yX1_trickSize, Cond.instanceMethod yX1_trickSize, Cond.selects RX1 yX1_trickSize yX1_trickSize, Cond.code yX1_trickSize cX1_trickSize 1 (some .int), Cond.methodLink RX1 42 yX1_handOf, Cond.instanceMethod yX1_handOf, Cond.selects RX1 yX1_handOf yX1_handOf, Cond.code yX1_handOf cX1_handOf 2 (some .int), Cond.fieldLink RX1 9 "OpenTricks$Game" "hands" "[I", Cond.methodLink RX1 74 yX1_trickCard]
def wsX5_play_r3 : List Cond := [Cond.instanceMethod yX1_trickCard, Cond.selects RX1 yX1_trickCard yX1_trickCard, Cond.code yX1_trickCard cX1_trickCard 2 (some .int), Cond.methodLink RX1 68 yX1_laidAt, Cond.instanceMethod yX1_laidAt, Cond.selects RX1 yX1_laidAt yX1_laidAt, Cond.code yX1_laidAt cX1_laidAt 2 (some .int), Cond.fieldLink RX1 15 "OpenTricks$Game" "laid" "[I", Cond.methodLink RX1 77 yX0_suitOf, Cond.static yX0_suitOf, Cond.initialized RX0, Cond.code yX0_suitOf cX0_suitOf 1 (some .int), Cond.methodLink RX1 80 yX0_suitSet, Cond.static yX0_suitSet, Cond.code yX0_suitSet cX0_suitSet 1 (some .int), Cond.methodLink RX5 98 yX0_holds, Cond.static yX0_holds, Cond.code yX0_holds cX0_holds 2 (some .boolean), Cond.methodLink RX5 83 yX1_lay, Cond.instanceMethod yX1_lay, Cond.selects RX1 yX1_lay yX1_lay, Cond.code yX1_lay cX1_lay 2 (some .int), Cond.methodLink RX1 83 yX1_dropFrom, Cond.instanceMethod yX1_dropFrom]
def wsX5_play_r4 : List Cond := [Cond.selects RX1 yX1_dropFrom yX1_dropFrom, Cond.code yX1_dropFrom cX1_dropFrom 3 none, Cond.methodLink RX1 86 yX1_endTrick, Cond.instanceMethod yX1_endTrick, Cond.selects RX1 yX1_endTrick yX1_endTrick, Cond.code yX1_endTrick cX1_endTrick 5 (some .int), Cond.methodLink RX1 89 yX1_beats, Cond.instanceMethod yX1_beats, Cond.selects RX1 yX1_beats yX1_beats, Cond.code yX1_beats cX1_beats 4 (some .boolean), Cond.fieldLink RX1 21 "OpenTricks$Game" "trump" "I"]
def wsX5_play : List Cond := .code yX5_play cX5_play 2 (some .int) :: ((wsX5_play_r1 ++ (wsX5_play_r2 ++ (wsX5_play_r3 ++ wsX5_play_r4))) ++ wsX50 ++ wsX10 ++ (vx_atS RX5 38 "java/lang/IllegalArgumentException" ["java/lang/RuntimeException", "java/lang/Exception"]).filter goodWord ++ (vx_atS RX5 60 "java/lang/IllegalStateException" ["java/lang/RuntimeException", "java/lang/Exception"]).filter goodWord)
def wsX5_takeBack_r1 : List Cond := [Cond.classLink RX5 56 "java/lang/IllegalStateException", Cond.initialized "java/lang/IllegalStateException", Cond.fieldLink RX5 10 "OpenTricks" "game" "LOpenTricks$Game;", Cond.methodLink RX5 86 yX1_laidCount, Cond.instanceMethod yX1_laidCount, Cond.selects RX1 yX1_laidCount yX1_laidCount, Cond.initialized RX1, Cond.code yX1_laidCount cX1_laidCount 1 (some .int), Cond.fieldLink RX1 35 "OpenTricks$Game" "laidCount" "I", Cond.methodLink RX5 92 yX1_lift, Cond.instanceMethod yX1_lift, Cond.selects RX1 yX1_lift yX1_lift, Cond.code yX1_lift cX1_lift 2 (some .int), Cond.methodLink RX1 68 yX1_laidAt, Cond.instanceMethod yX1_laidAt, Cond.selects RX1 yX1_laidAt yX1_laidAt, Cond.code yX1_laidAt cX1_laidAt 2 (some .int), Cond.fieldLink RX1 15 "OpenTricks$Game" "laid" "[I", Cond.methodLink RX1 71 yX1_mover, Cond.instanceMethod yX1_mover, Cond.selects RX1 yX1_mover yX1_mover, Cond.code yX1_mover cX1_mover 1 (some .int), Cond.fieldLink RX1 28 "OpenTricks$Game" "open" "Z", Cond.methodLink RX1 59 yX1_cardsLeft]
def wsX5_takeBack_r2 : List Cond := [Cond.instanceMethod yX1_cardsLeft, Cond.selects RX1 yX1_cardsLeft yX1_cardsLeft, Cond.code yX1_cardsLeft cX1_cardsLeft 1 (some .int), Cond.fieldLink RX1 32 "OpenTricks$Game" "tricks" "I", Cond.methodLink RX1 55 yX1_tricksOver, Cond.instanceMethod yX1_tricksOver, Cond.selects RX1 yX1_tricksOver yX1_tricksOver, Cond.code yX1_tricksOver cX1_tricksOver 1 (some .int), Cond.methodLink RX1 62 yX1_leaderOf, Cond.instanceMethod yX1_leaderOf, Cond.selects RX1 yX1_leaderOf yX1_leaderOf, Cond.code yX1_leaderOf cX1_leaderOf 2 (some .int), Cond.fieldLink RX1 18 "OpenTricks$Game" "leaders" "[I", Cond.methodLink RX1 65 yX1_trickSize, Cond.instanceMethod yX1_trickSize, Cond.selects RX1 yX1_trickSize yX1_trickSize, Cond.code yX1_trickSize cX1_trickSize 1 (some .int), Cond.methodLink RX1 51 yX1_addTo, Cond.instanceMethod yX1_addTo, Cond.selects RX1 yX1_addTo yX1_addTo, Cond.code yX1_addTo cX1_addTo 3 none, Cond.fieldLink RX1 9 "OpenTricks$Game" "hands" "[I"]
def wsX5_takeBack : List Cond := .code yX5_takeBack cX5_takeBack 1 (some .int) :: ((wsX5_takeBack_r1 ++ wsX5_takeBack_r2) ++ wsX50 ++ wsX10 ++ (vx_atS RX5 60 "java/lang/IllegalStateException" ["java/lang/RuntimeException", "java/lang/Exception"]).filter goodWord)
def wsX5_canPlay_r1 : List Cond := [Cond.fieldLink RX5 10 "OpenTricks" "game" "LOpenTricks$Game;", Cond.methodLink RX5 49 yX5_needCard, Cond.static yX5_needCard, Cond.initialized RX5, Cond.code yX5_needCard cX5_needCard 1 none, Cond.classLink RX5 34 "java/lang/IllegalArgumentException", Cond.initialized "java/lang/IllegalArgumentException", Cond.methodLink RX5 95 yX1_playable, Cond.instanceMethod yX1_playable, Cond.selects RX1 yX1_playable yX1_playable, Cond.initialized RX1, Cond.code yX1_playable cX1_playable 3 (some .int), Cond.methodLink RX1 71 yX1_mover, Cond.instanceMethod yX1_mover, Cond.selects RX1 yX1_mover yX1_mover, Cond.code yX1_mover cX1_mover 1 (some .int), Cond.fieldLink RX1 28 "OpenTricks$Game" "open" "Z", Cond.methodLink RX1 59 yX1_cardsLeft, Cond.instanceMethod yX1_cardsLeft, Cond.selects RX1 yX1_cardsLeft yX1_cardsLeft, Cond.code yX1_cardsLeft cX1_cardsLeft 1 (some .int), Cond.fieldLink RX1 32 "OpenTricks$Game" "tricks" "I", Cond.fieldLink RX1 35 "OpenTricks$Game" "laidCount" "I", Cond.methodLink RX1 55 yX1_tricksOver]
def wsX5_canPlay_r2 : List Cond := [Cond.instanceMethod yX1_tricksOver, Cond.selects RX1 yX1_tricksOver yX1_tricksOver, Cond.code yX1_tricksOver cX1_tricksOver 1 (some .int), Cond.methodLink RX1 62 yX1_leaderOf, Cond.instanceMethod yX1_leaderOf, Cond.selects RX1 yX1_leaderOf yX1_leaderOf, Cond.code yX1_leaderOf cX1_leaderOf 2 (some .int), Cond.fieldLink RX1 18 "OpenTricks$Game" "leaders" "[I", Cond.methodLink RX1 65 yX1_trickSize, Cond.instanceMethod yX1_trickSize, Cond.selects RX1 yX1_trickSize yX1_trickSize, Cond.code yX1_trickSize cX1_trickSize 1 (some .int), Cond.methodLink RX1 42 yX1_handOf, Cond.instanceMethod yX1_handOf, Cond.selects RX1 yX1_handOf yX1_handOf, Cond.code yX1_handOf cX1_handOf 2 (some .int), Cond.fieldLink RX1 9 "OpenTricks$Game" "hands" "[I", Cond.methodLink RX1 74 yX1_trickCard, Cond.instanceMethod yX1_trickCard, Cond.selects RX1 yX1_trickCard yX1_trickCard, Cond.code yX1_trickCard cX1_trickCard 2 (some .int), Cond.methodLink RX1 68 yX1_laidAt, Cond.instanceMethod yX1_laidAt, Cond.selects RX1 yX1_laidAt yX1_laidAt]
def wsX5_canPlay_r3 : List Cond := [Cond.code yX1_laidAt cX1_laidAt 2 (some .int), Cond.fieldLink RX1 15 "OpenTricks$Game" "laid" "[I", Cond.methodLink RX1 77 yX0_suitOf, Cond.static yX0_suitOf, Cond.initialized RX0, Cond.code yX0_suitOf cX0_suitOf 1 (some .int), Cond.methodLink RX1 80 yX0_suitSet, Cond.static yX0_suitSet, Cond.code yX0_suitSet cX0_suitSet 1 (some .int), Cond.methodLink RX5 98 yX0_holds, Cond.static yX0_holds, Cond.code yX0_holds cX0_holds 2 (some .boolean)]
def wsX5_canPlay : List Cond := .code yX5_canPlay cX5_canPlay 2 (some .boolean) :: ((wsX5_canPlay_r1 ++ (wsX5_canPlay_r2 ++ wsX5_canPlay_r3)) ++ wsX50 ++ wsX10 ++ (vx_atS RX5 38 "java/lang/IllegalArgumentException" ["java/lang/RuntimeException", "java/lang/Exception"]).filter goodWord)
def wsX5_turn_r1 : List Cond := [Cond.fieldLink RX5 10 "OpenTricks" "game" "LOpenTricks$Game;", Cond.methodLink RX5 101 yX1_mover, Cond.instanceMethod yX1_mover, Cond.selects RX1 yX1_mover yX1_mover, Cond.initialized RX1, Cond.code yX1_mover cX1_mover 1 (some .int), Cond.fieldLink RX1 28 "OpenTricks$Game" "open" "Z", Cond.methodLink RX1 59 yX1_cardsLeft, Cond.instanceMethod yX1_cardsLeft, Cond.selects RX1 yX1_cardsLeft yX1_cardsLeft, Cond.code yX1_cardsLeft cX1_cardsLeft 1 (some .int), Cond.fieldLink RX1 32 "OpenTricks$Game" "tricks" "I", Cond.fieldLink RX1 35 "OpenTricks$Game" "laidCount" "I", Cond.methodLink RX1 55 yX1_tricksOver, Cond.instanceMethod yX1_tricksOver, Cond.selects RX1 yX1_tricksOver yX1_tricksOver, Cond.code yX1_tricksOver cX1_tricksOver 1 (some .int), Cond.methodLink RX1 62 yX1_leaderOf, Cond.instanceMethod yX1_leaderOf, Cond.selects RX1 yX1_leaderOf yX1_leaderOf, Cond.code yX1_leaderOf cX1_leaderOf 2 (some .int), Cond.fieldLink RX1 18 "OpenTricks$Game" "leaders" "[I", Cond.methodLink RX1 65 yX1_trickSize, Cond.instanceMethod yX1_trickSize]
def wsX5_turn_r2 : List Cond := [Cond.selects RX1 yX1_trickSize yX1_trickSize, Cond.code yX1_trickSize cX1_trickSize 1 (some .int)]
def wsX5_turn : List Cond := .code yX5_turn cX5_turn 1 (some .int) :: ((wsX5_turn_r1 ++ wsX5_turn_r2) ++ wsX50 ++ wsX10)
def wsX5_hand : List Cond := .code yX5_hand cX5_hand 2 (some .int) :: ([.fieldLink RX5 10 "OpenTricks" "game" "LOpenTricks$Game;", .methodLink RX5 45 yX5_needPlayer, .static yX5_needPlayer, .initialized RX5, .code yX5_needPlayer cX5_needPlayer 1 none, .classLink RX5 34 "java/lang/IllegalArgumentException", .initialized "java/lang/IllegalArgumentException", .methodLink RX5 104 yX1_handOf, .instanceMethod yX1_handOf, .selects RX1 yX1_handOf yX1_handOf, .initialized RX1, .code yX1_handOf cX1_handOf 2 (some .int), .fieldLink RX1 9 "OpenTricks$Game" "hands" "[I"] ++ wsX50 ++ wsX10 ++ (vx_atS RX5 38 "java/lang/IllegalArgumentException" ["java/lang/RuntimeException", "java/lang/Exception"]).filter goodWord)
def wsX5_inTrick : List Cond := .code yX5_inTrick cX5_inTrick 1 (some .int) :: ([.fieldLink RX5 10 "OpenTricks" "game" "LOpenTricks$Game;", .methodLink RX5 107 yX1_trickSize, .instanceMethod yX1_trickSize, .selects RX1 yX1_trickSize yX1_trickSize, .initialized RX1, .code yX1_trickSize cX1_trickSize 1 (some .int), .fieldLink RX1 35 "OpenTricks$Game" "laidCount" "I"] ++ wsX50 ++ wsX10)
def wsX5_cardIn : List Cond := .code yX5_cardIn cX5_cardIn 2 (some .int) :: ([.classLink RX5 110 "java/lang/IndexOutOfBoundsException", .initialized "java/lang/IndexOutOfBoundsException", .fieldLink RX5 10 "OpenTricks" "game" "LOpenTricks$Game;", .methodLink RX5 107 yX1_trickSize, .instanceMethod yX1_trickSize, .selects RX1 yX1_trickSize yX1_trickSize, .initialized RX1, .code yX1_trickSize cX1_trickSize 1 (some .int), .fieldLink RX1 35 "OpenTricks$Game" "laidCount" "I", .methodLink RX5 115 yX1_trickCard, .instanceMethod yX1_trickCard, .selects RX1 yX1_trickCard yX1_trickCard, .code yX1_trickCard cX1_trickCard 2 (some .int), .methodLink RX1 65 yX1_trickSize, .methodLink RX1 68 yX1_laidAt, .instanceMethod yX1_laidAt, .selects RX1 yX1_laidAt yX1_laidAt, .code yX1_laidAt cX1_laidAt 2 (some .int), .fieldLink RX1 15 "OpenTricks$Game" "laid" "[I"] ++ wsX50 ++ wsX10 ++ (vx_atS RX5 114 "java/lang/IndexOutOfBoundsException" ["java/lang/RuntimeException", "java/lang/Exception"]).filter goodWord)
def wsX5_won : List Cond := .code yX5_won cX5_won 2 (some .int) :: ([.classLink RX5 34 "java/lang/IllegalArgumentException", .initialized "java/lang/IllegalArgumentException", .fieldLink RX5 10 "OpenTricks" "game" "LOpenTricks$Game;", .methodLink RX5 120 yX1_tricksOf, .instanceMethod yX1_tricksOf, .selects RX1 yX1_tricksOf yX1_tricksOf, .initialized RX1, .code yX1_tricksOf cX1_tricksOf 4 (some .int), .methodLink RX1 55 yX1_tricksOver, .instanceMethod yX1_tricksOver, .selects RX1 yX1_tricksOver yX1_tricksOver, .code yX1_tricksOver cX1_tricksOver 1 (some .int), .fieldLink RX1 35 "OpenTricks$Game" "laidCount" "I", .methodLink RX1 62 yX1_leaderOf, .instanceMethod yX1_leaderOf, .selects RX1 yX1_leaderOf yX1_leaderOf, .code yX1_leaderOf cX1_leaderOf 2 (some .int), .fieldLink RX1 18 "OpenTricks$Game" "leaders" "[I", .methodLink RX1 92 yX0_sideOf, .static yX0_sideOf, .initialized RX0, .code yX0_sideOf cX0_sideOf 1 (some .int)] ++ wsX50 ++ wsX10 ++ (vx_atS RX5 38 "java/lang/IllegalArgumentException" ["java/lang/RuntimeException", "java/lang/Exception"]).filter goodWord)
def wsX5_needStarted : List Cond := .code yX5_needStarted cX5_needStarted 1 none :: ([.classLink RX5 56 "java/lang/IllegalStateException", .initialized "java/lang/IllegalStateException", .fieldLink RX5 10 "OpenTricks" "game" "LOpenTricks$Game;", .methodLink RX5 77 yX1_isOpen, .instanceMethod yX1_isOpen, .selects RX1 yX1_isOpen yX1_isOpen, .initialized RX1, .code yX1_isOpen cX1_isOpen 1 (some .boolean), .fieldLink RX1 28 "OpenTricks$Game" "open" "Z"] ++ wsX50 ++ wsX10 ++ (vx_atS RX5 60 "java/lang/IllegalStateException" ["java/lang/RuntimeException", "java/lang/Exception"]).filter goodWord)
def wsX5_solve_r1 : List Cond := [Cond.fieldLink RX5 21 "OpenTricks" "solver" "LOpenTricks$Solver;", Cond.methodLink RX5 123 yX5_needStarted, Cond.instanceMethod yX5_needStarted, Cond.selects RX5 yX5_needStarted yX5_needStarted, Cond.initialized RX5, Cond.code yX5_needStarted cX5_needStarted 1 none, Cond.classLink RX5 56 "java/lang/IllegalStateException", Cond.initialized "java/lang/IllegalStateException", Cond.fieldLink RX5 10 "OpenTricks" "game" "LOpenTricks$Game;", Cond.methodLink RX5 77 yX1_isOpen, Cond.instanceMethod yX1_isOpen, Cond.selects RX1 yX1_isOpen yX1_isOpen, Cond.initialized RX1, Cond.code yX1_isOpen cX1_isOpen 1 (some .boolean), Cond.fieldLink RX1 28 "OpenTricks$Game" "open" "Z", Cond.methodLink RX5 126 yX4_mostOfSide0, Cond.instanceMethod yX4_mostOfSide0, Cond.selects RX4 yX4_mostOfSide0 yX4_mostOfSide0, Cond.initialized RX4, Cond.code yX4_mostOfSide0 cX4_mostOfSide0 1 (some .int), Cond.fieldLink RX4 7 "OpenTricks$Solver" "game" "LOpenTricks$Game;", Cond.methodLink RX4 23 yX1_cardsLeft, Cond.instanceMethod yX1_cardsLeft, Cond.selects RX1 yX1_cardsLeft yX1_cardsLeft]
def wsX5_solve_r2 : List Cond := [Cond.code yX1_cardsLeft cX1_cardsLeft 1 (some .int), Cond.fieldLink RX1 32 "OpenTricks$Game" "tricks" "I", Cond.fieldLink RX1 35 "OpenTricks$Game" "laidCount" "I", Cond.methodLink RX4 29 yX1_tricksLeft, Cond.instanceMethod yX1_tricksLeft, Cond.selects RX1 yX1_tricksLeft yX1_tricksLeft, Cond.code yX1_tricksLeft cX1_tricksLeft 1 (some .int), Cond.methodLink RX1 55 yX1_tricksOver, Cond.instanceMethod yX1_tricksOver, Cond.selects RX1 yX1_tricksOver yX1_tricksOver, Cond.code yX1_tricksOver cX1_tricksOver 1 (some .int), Cond.methodLink RX4 32 yX4_search, Cond.instanceMethod yX4_search, Cond.selects RX4 yX4_search yX4_search, Cond.code yX4_search cX4_search 10 (some .int), Cond.fieldLink RX4 16 "OpenTricks$Solver" "kept" "LOpenTricks$Kept;", Cond.methodLink RX4 85 Lib.Math.max.name, Cond.static Lib.Math.max.name, Cond.initialized "java/lang/Math", Cond.code Lib.Math.max.name Lib.Math.max.code 2 (some .int), Cond.methodLink RX4 90 Lib.Math.min.name, Cond.static Lib.Math.min.name, Cond.code Lib.Math.min.name Lib.Math.min.code 2 (some .int), Cond.methodLink RX4 70 yX1_trickSize]
def wsX5_solve_r3 : List Cond := [Cond.instanceMethod yX1_trickSize, Cond.selects RX1 yX1_trickSize yX1_trickSize, Cond.code yX1_trickSize cX1_trickSize 1 (some .int), Cond.methodLink RX4 73 yX4_tryPlays, Cond.instanceMethod yX4_tryPlays, Cond.selects RX4 yX4_tryPlays yX4_tryPlays, Cond.methodLink RX4 76 yX1_betweenTricks, Cond.instanceMethod yX1_betweenTricks, Cond.selects RX1 yX1_betweenTricks yX1_betweenTricks, Cond.code yX1_betweenTricks cX1_betweenTricks 1 (some .int), Cond.methodLink RX1 96 yX1_inHands, Cond.instanceMethod yX1_inHands, Cond.selects RX1 yX1_inHands yX1_inHands, Cond.code yX1_inHands cX1_inHands 3 (some .int), Cond.fieldLink RX1 9 "OpenTricks$Game" "hands" "[I", Cond.methodLink RX1 62 yX1_leaderOf, Cond.instanceMethod yX1_leaderOf, Cond.selects RX1 yX1_leaderOf yX1_leaderOf, Cond.code yX1_leaderOf cX1_leaderOf 2 (some .int), Cond.fieldLink RX1 18 "OpenTricks$Game" "leaders" "[I", Cond.methodLink RX4 79 yX2_leastAt, Cond.instanceMethod yX2_leastAt, Cond.selects RX2 yX2_leastAt yX2_leastAt, Cond.initialized RX2]
def wsX5_solve_r4 : List Cond := [Cond.code yX2_leastAt cX2_leastAt 2 (some .int), Cond.methodLink RX2 13 yX2_entryOf, Cond.instanceMethod yX2_entryOf, Cond.selects RX2 yX2_entryOf yX2_entryOf, Cond.code yX2_entryOf cX2_entryOf 4 (some .int), Cond.fieldLink RX2 9 "OpenTricks$Kept" "entries" "[I", Cond.methodLink RX2 17 yX2_slotOf, Cond.static yX2_slotOf, Cond.code yX2_slotOf cX2_slotOf 1 (some .int), Cond.constant RX2 20 (-1640531535), Cond.methodLink RX4 82 yX2_mostAt, Cond.instanceMethod yX2_mostAt, Cond.selects RX2 yX2_mostAt yX2_mostAt, Cond.code yX2_mostAt cX2_mostAt 4 (some .int), Cond.methodLink RX4 93 yX2_put, Cond.instanceMethod yX2_put, Cond.selects RX2 yX2_put yX2_put, Cond.code yX2_put cX2_put 5 none, Cond.code yX4_tryPlays cX4_tryPlays 13 (some .int), Cond.methodLink RX4 36 yX1_mover, Cond.instanceMethod yX1_mover, Cond.selects RX1 yX1_mover yX1_mover, Cond.code yX1_mover cX1_mover 1 (some .int), Cond.methodLink RX1 59 yX1_cardsLeft]
def wsX5_solve_r5 : List Cond := [Cond.methodLink RX1 65 yX1_trickSize, Cond.methodLink RX4 39 yX0_sideOf, Cond.static yX0_sideOf, Cond.initialized RX0, Cond.code yX0_sideOf cX0_sideOf 1 (some .int), Cond.methodLink RX4 54 yX1_playable, Cond.instanceMethod yX1_playable, Cond.selects RX1 yX1_playable yX1_playable, Cond.code yX1_playable cX1_playable 3 (some .int), Cond.methodLink RX1 71 yX1_mover, Cond.methodLink RX1 42 yX1_handOf, Cond.instanceMethod yX1_handOf, Cond.selects RX1 yX1_handOf yX1_handOf, Cond.code yX1_handOf cX1_handOf 2 (some .int), Cond.methodLink RX1 74 yX1_trickCard, Cond.instanceMethod yX1_trickCard, Cond.selects RX1 yX1_trickCard yX1_trickCard, Cond.code yX1_trickCard cX1_trickCard 2 (some .int), Cond.methodLink RX1 68 yX1_laidAt, Cond.instanceMethod yX1_laidAt, Cond.selects RX1 yX1_laidAt yX1_laidAt, Cond.code yX1_laidAt cX1_laidAt 2 (some .int), Cond.fieldLink RX1 15 "OpenTricks$Game" "laid" "[I", Cond.methodLink RX1 77 yX0_suitOf]
def wsX5_solve_r6 : List Cond := [Cond.static yX0_suitOf, Cond.code yX0_suitOf cX0_suitOf 1 (some .int), Cond.methodLink RX1 80 yX0_suitSet, Cond.static yX0_suitSet, Cond.code yX0_suitSet cX0_suitSet 1 (some .int), Cond.methodLink RX4 57 yX1_out, Cond.instanceMethod yX1_out, Cond.selects RX1 yX1_out yX1_out, Cond.code yX1_out cX1_out 1 (some .int), Cond.constant RX1 95 (16777215), Cond.methodLink RX1 99 yX1_inTrickSet, Cond.instanceMethod yX1_inTrickSet, Cond.selects RX1 yX1_inTrickSet yX1_inTrickSet, Cond.code yX1_inTrickSet cX1_inTrickSet 3 (some .int), Cond.methodLink RX4 60 yX0_lowestOfEquals, Cond.static yX0_lowestOfEquals, Cond.code yX0_lowestOfEquals cX0_lowestOfEquals 6 (some .int), Cond.methodLink RX0 25 yX0_lowest, Cond.static yX0_lowest, Cond.code yX0_lowest cX0_lowest 1 (some .int), Cond.methodLink RX0 9 yJ6_numberOfTrailingZeros_0f7a4, Cond.static yJ6_numberOfTrailingZeros_0f7a4, Cond.initialized RJ6, Cond.code yJ6_numberOfTrailingZeros_0f7a4 cJ6_numberOfTrailingZeros_0f7a4 2 (some .int)]
def wsX5_solve_r7 : List Cond := [Cond.constant RJ6 264 (65536), Cond.methodLink RX0 28 yX0_equalBelow, Cond.static yX0_equalBelow, Cond.code yX0_equalBelow cX0_equalBelow 5 (some .int), Cond.methodLink RX0 18 yX0_suitOf, Cond.methodLink RX0 21 yX0_holds, Cond.static yX0_holds, Cond.code yX0_holds cX0_holds 2 (some .boolean), Cond.methodLink RX4 97 yX0_highest, Cond.static yX0_highest, Cond.code yX0_highest cX0_highest 1 (some .int), Cond.methodLink RX0 15 yJ6_numberOfLeadingZeros_0f7a4, Cond.static yJ6_numberOfLeadingZeros_0f7a4, Cond.code yJ6_numberOfLeadingZeros_0f7a4 cJ6_numberOfLeadingZeros_0f7a4 2 (some .int), Cond.methodLink RX4 45 yX1_lay, Cond.instanceMethod yX1_lay, Cond.selects RX1 yX1_lay yX1_lay, Cond.code yX1_lay cX1_lay 2 (some .int), Cond.methodLink RX1 83 yX1_dropFrom, Cond.instanceMethod yX1_dropFrom, Cond.selects RX1 yX1_dropFrom yX1_dropFrom, Cond.code yX1_dropFrom cX1_dropFrom 3 none, Cond.methodLink RX1 86 yX1_endTrick, Cond.instanceMethod yX1_endTrick]
def wsX5_solve_r8 : List Cond := [Cond.selects RX1 yX1_endTrick yX1_endTrick, Cond.code yX1_endTrick cX1_endTrick 5 (some .int), Cond.methodLink RX1 89 yX1_beats, Cond.instanceMethod yX1_beats, Cond.selects RX1 yX1_beats yX1_beats, Cond.code yX1_beats cX1_beats 4 (some .boolean), Cond.fieldLink RX1 21 "OpenTricks$Game" "trump" "I", Cond.methodLink RX4 48 yX4_gainOf, Cond.static yX4_gainOf, Cond.code yX4_gainOf cX4_gainOf 1 (some .int), Cond.methodLink RX4 51 yX1_lift, Cond.instanceMethod yX1_lift, Cond.selects RX1 yX1_lift yX1_lift, Cond.code yX1_lift cX1_lift 2 (some .int), Cond.methodLink RX1 51 yX1_addTo, Cond.instanceMethod yX1_addTo, Cond.selects RX1 yX1_addTo yX1_addTo, Cond.code yX1_addTo cX1_addTo 3 none]
def wsX5_solve : List Cond := .code yX5_solve cX5_solve 1 (some .int) :: ((wsX5_solve_r1 ++ (wsX5_solve_r2 ++ (wsX5_solve_r3 ++ (wsX5_solve_r4 ++ (wsX5_solve_r5 ++ (wsX5_solve_r6 ++ (wsX5_solve_r7 ++ wsX5_solve_r8))))))) ++ wsX50 ++ wsX10 ++ wsX40 ++ wsX20 ++ (vx_atS RX5 60 "java/lang/IllegalStateException" ["java/lang/RuntimeException", "java/lang/Exception"]).filter goodWord)
def wsX5_solveByAll_r1 : List Cond := [Cond.classLink RX5 56 "java/lang/IllegalStateException", Cond.initialized "java/lang/IllegalStateException", Cond.fieldLink RX5 10 "OpenTricks" "game" "LOpenTricks$Game;", Cond.methodLink RX5 123 yX5_needStarted, Cond.instanceMethod yX5_needStarted, Cond.selects RX5 yX5_needStarted yX5_needStarted, Cond.initialized RX5, Cond.code yX5_needStarted cX5_needStarted 1 none, Cond.methodLink RX5 77 yX1_isOpen, Cond.instanceMethod yX1_isOpen, Cond.selects RX1 yX1_isOpen yX1_isOpen, Cond.initialized RX1, Cond.code yX1_isOpen cX1_isOpen 1 (some .boolean), Cond.fieldLink RX1 28 "OpenTricks$Game" "open" "Z", Cond.methodLink RX5 129 yX1_cardsLeft, Cond.instanceMethod yX1_cardsLeft, Cond.selects RX1 yX1_cardsLeft yX1_cardsLeft, Cond.code yX1_cardsLeft cX1_cardsLeft 1 (some .int), Cond.fieldLink RX1 32 "OpenTricks$Game" "tricks" "I", Cond.fieldLink RX1 35 "OpenTricks$Game" "laidCount" "I", Cond.static yX4_byAllPlays, Cond.initialized RX4, Cond.code yX4_byAllPlays cX4_byAllPlays 8 (some .int), Cond.methodLink RX4 85 Lib.Math.max.name]
def wsX5_solveByAll_r2 : List Cond := [Cond.static Lib.Math.max.name, Cond.initialized "java/lang/Math", Cond.code Lib.Math.max.name Lib.Math.max.code 2 (some .int), Cond.methodLink RX4 90 Lib.Math.min.name, Cond.static Lib.Math.min.name, Cond.code Lib.Math.min.name Lib.Math.min.code 2 (some .int), Cond.methodLink RX4 36 yX1_mover, Cond.instanceMethod yX1_mover, Cond.selects RX1 yX1_mover yX1_mover, Cond.code yX1_mover cX1_mover 1 (some .int), Cond.methodLink RX1 59 yX1_cardsLeft, Cond.methodLink RX1 55 yX1_tricksOver, Cond.instanceMethod yX1_tricksOver, Cond.selects RX1 yX1_tricksOver yX1_tricksOver, Cond.code yX1_tricksOver cX1_tricksOver 1 (some .int), Cond.methodLink RX1 62 yX1_leaderOf, Cond.instanceMethod yX1_leaderOf, Cond.selects RX1 yX1_leaderOf yX1_leaderOf, Cond.code yX1_leaderOf cX1_leaderOf 2 (some .int), Cond.fieldLink RX1 18 "OpenTricks$Game" "leaders" "[I", Cond.methodLink RX1 65 yX1_trickSize, Cond.instanceMethod yX1_trickSize, Cond.selects RX1 yX1_trickSize yX1_trickSize, Cond.code yX1_trickSize cX1_trickSize 1 (some .int)]
def wsX5_solveByAll_r3 : List Cond := [Cond.methodLink RX4 39 yX0_sideOf, Cond.static yX0_sideOf, Cond.initialized RX0, Cond.code yX0_sideOf cX0_sideOf 1 (some .int), Cond.methodLink RX4 54 yX1_playable, Cond.instanceMethod yX1_playable, Cond.selects RX1 yX1_playable yX1_playable, Cond.code yX1_playable cX1_playable 3 (some .int), Cond.methodLink RX1 71 yX1_mover, Cond.methodLink RX1 42 yX1_handOf, Cond.instanceMethod yX1_handOf, Cond.selects RX1 yX1_handOf yX1_handOf, Cond.code yX1_handOf cX1_handOf 2 (some .int), Cond.fieldLink RX1 9 "OpenTricks$Game" "hands" "[I", Cond.methodLink RX1 74 yX1_trickCard, Cond.instanceMethod yX1_trickCard, Cond.selects RX1 yX1_trickCard yX1_trickCard, Cond.code yX1_trickCard cX1_trickCard 2 (some .int), Cond.methodLink RX1 68 yX1_laidAt, Cond.instanceMethod yX1_laidAt, Cond.selects RX1 yX1_laidAt yX1_laidAt, Cond.code yX1_laidAt cX1_laidAt 2 (some .int), Cond.fieldLink RX1 15 "OpenTricks$Game" "laid" "[I", Cond.methodLink RX1 77 yX0_suitOf]
def wsX5_solveByAll_r4 : List Cond := [Cond.static yX0_suitOf, Cond.code yX0_suitOf cX0_suitOf 1 (some .int), Cond.methodLink RX1 80 yX0_suitSet, Cond.static yX0_suitSet, Cond.code yX0_suitSet cX0_suitSet 1 (some .int), Cond.methodLink RX4 64 yX0_lowest, Cond.static yX0_lowest, Cond.code yX0_lowest cX0_lowest 1 (some .int), Cond.methodLink RX0 9 yJ6_numberOfTrailingZeros_0f7a4, Cond.static yJ6_numberOfTrailingZeros_0f7a4, Cond.initialized RJ6, Cond.code yJ6_numberOfTrailingZeros_0f7a4 cJ6_numberOfTrailingZeros_0f7a4 2 (some .int), Cond.constant RJ6 264 (65536), Cond.methodLink RX4 45 yX1_lay, Cond.instanceMethod yX1_lay, Cond.selects RX1 yX1_lay yX1_lay, Cond.code yX1_lay cX1_lay 2 (some .int), Cond.methodLink RX1 83 yX1_dropFrom, Cond.instanceMethod yX1_dropFrom, Cond.selects RX1 yX1_dropFrom yX1_dropFrom, Cond.code yX1_dropFrom cX1_dropFrom 3 none, Cond.methodLink RX1 86 yX1_endTrick, Cond.instanceMethod yX1_endTrick, Cond.selects RX1 yX1_endTrick yX1_endTrick]
def wsX5_solveByAll_r5 : List Cond := [Cond.code yX1_endTrick cX1_endTrick 5 (some .int), Cond.methodLink RX1 89 yX1_beats, Cond.instanceMethod yX1_beats, Cond.selects RX1 yX1_beats yX1_beats, Cond.code yX1_beats cX1_beats 4 (some .boolean), Cond.fieldLink RX1 21 "OpenTricks$Game" "trump" "I", Cond.methodLink RX4 48 yX4_gainOf, Cond.static yX4_gainOf, Cond.code yX4_gainOf cX4_gainOf 1 (some .int), Cond.methodLink RX4 100 yX4_byAllPlays, Cond.methodLink RX4 51 yX1_lift, Cond.instanceMethod yX1_lift, Cond.selects RX1 yX1_lift yX1_lift, Cond.code yX1_lift cX1_lift 2 (some .int), Cond.methodLink RX1 51 yX1_addTo, Cond.instanceMethod yX1_addTo, Cond.selects RX1 yX1_addTo yX1_addTo, Cond.code yX1_addTo cX1_addTo 3 none]
def wsX5_solveByAll : List Cond := .code yX5_solveByAll cX5_solveByAll 1 (some .int) :: ((wsX5_solveByAll_r1 ++ (wsX5_solveByAll_r2 ++ (wsX5_solveByAll_r3 ++ (wsX5_solveByAll_r4 ++ wsX5_solveByAll_r5)))) ++ wsX50 ++ wsX10 ++ (vx_atS RX5 60 "java/lang/IllegalStateException" ["java/lang/RuntimeException", "java/lang/Exception"]).filter goodWord)
def wsX5_value_r1 : List Cond := [Cond.fieldLink RX5 21 "OpenTricks" "solver" "LOpenTricks$Solver;", Cond.methodLink RX5 49 yX5_needCard, Cond.static yX5_needCard, Cond.initialized RX5, Cond.code yX5_needCard cX5_needCard 1 none, Cond.classLink RX5 34 "java/lang/IllegalArgumentException", Cond.initialized "java/lang/IllegalArgumentException", Cond.methodLink RX5 80 yX5_needPlayable, Cond.instanceMethod yX5_needPlayable, Cond.selects RX5 yX5_needPlayable yX5_needPlayable, Cond.code yX5_needPlayable cX5_needPlayable 2 none, Cond.classLink RX5 56 "java/lang/IllegalStateException", Cond.initialized "java/lang/IllegalStateException", Cond.fieldLink RX5 10 "OpenTricks" "game" "LOpenTricks$Game;", Cond.methodLink RX5 95 yX1_playable, Cond.instanceMethod yX1_playable, Cond.selects RX1 yX1_playable yX1_playable, Cond.initialized RX1, Cond.code yX1_playable cX1_playable 3 (some .int), Cond.methodLink RX1 71 yX1_mover, Cond.instanceMethod yX1_mover, Cond.selects RX1 yX1_mover yX1_mover, Cond.code yX1_mover cX1_mover 1 (some .int), Cond.fieldLink RX1 28 "OpenTricks$Game" "open" "Z"]
def wsX5_value_r2 : List Cond := [Cond.methodLink RX1 59 yX1_cardsLeft, Cond.instanceMethod yX1_cardsLeft, Cond.selects RX1 yX1_cardsLeft yX1_cardsLeft, Cond.code yX1_cardsLeft cX1_cardsLeft 1 (some .int), Cond.fieldLink RX1 32 "OpenTricks$Game" "tricks" "I", Cond.fieldLink RX1 35 "OpenTricks$Game" "laidCount" "I", Cond.methodLink RX1 55 yX1_tricksOver, Cond.instanceMethod yX1_tricksOver, Cond.selects RX1 yX1_tricksOver yX1_tricksOver, Cond.code yX1_tricksOver cX1_tricksOver 1 (some .int), Cond.methodLink RX1 62 yX1_leaderOf, Cond.instanceMethod yX1_leaderOf, Cond.selects RX1 yX1_leaderOf yX1_leaderOf, Cond.code yX1_leaderOf cX1_leaderOf 2 (some .int), Cond.fieldLink RX1 18 "OpenTricks$Game" "leaders" "[I", Cond.methodLink RX1 65 yX1_trickSize, Cond.instanceMethod yX1_trickSize, Cond.selects RX1 yX1_trickSize yX1_trickSize, Cond.code yX1_trickSize cX1_trickSize 1 (some .int), Cond.methodLink RX1 42 yX1_handOf, Cond.instanceMethod yX1_handOf, Cond.selects RX1 yX1_handOf yX1_handOf, Cond.code yX1_handOf cX1_handOf 2 (some .int), Cond.fieldLink RX1 9 "OpenTricks$Game" "hands" "[I"]
def wsX5_value_r3 : List Cond := [Cond.methodLink RX1 74 yX1_trickCard, Cond.instanceMethod yX1_trickCard, Cond.selects RX1 yX1_trickCard yX1_trickCard, Cond.code yX1_trickCard cX1_trickCard 2 (some .int), Cond.methodLink RX1 68 yX1_laidAt, Cond.instanceMethod yX1_laidAt, Cond.selects RX1 yX1_laidAt yX1_laidAt, Cond.code yX1_laidAt cX1_laidAt 2 (some .int), Cond.fieldLink RX1 15 "OpenTricks$Game" "laid" "[I", Cond.methodLink RX1 77 yX0_suitOf, Cond.static yX0_suitOf, Cond.initialized RX0, Cond.code yX0_suitOf cX0_suitOf 1 (some .int), Cond.methodLink RX1 80 yX0_suitSet, Cond.static yX0_suitSet, Cond.code yX0_suitSet cX0_suitSet 1 (some .int), Cond.methodLink RX5 98 yX0_holds, Cond.static yX0_holds, Cond.code yX0_holds cX0_holds 2 (some .boolean), Cond.methodLink RX5 138 yX4_worthOf, Cond.instanceMethod yX4_worthOf, Cond.selects RX4 yX4_worthOf yX4_worthOf, Cond.initialized RX4, Cond.code yX4_worthOf cX4_worthOf 6 (some .int)]
def wsX5_value_r4 : List Cond := [Cond.fieldLink RX4 7 "OpenTricks$Solver" "game" "LOpenTricks$Game;", Cond.methodLink RX4 29 yX1_tricksLeft, Cond.instanceMethod yX1_tricksLeft, Cond.selects RX1 yX1_tricksLeft yX1_tricksLeft, Cond.code yX1_tricksLeft cX1_tricksLeft 1 (some .int), Cond.methodLink RX4 36 yX1_mover, Cond.methodLink RX4 39 yX0_sideOf, Cond.static yX0_sideOf, Cond.code yX0_sideOf cX0_sideOf 1 (some .int), Cond.methodLink RX4 45 yX1_lay, Cond.instanceMethod yX1_lay, Cond.selects RX1 yX1_lay yX1_lay, Cond.code yX1_lay cX1_lay 2 (some .int), Cond.methodLink RX1 83 yX1_dropFrom, Cond.instanceMethod yX1_dropFrom, Cond.selects RX1 yX1_dropFrom yX1_dropFrom, Cond.code yX1_dropFrom cX1_dropFrom 3 none, Cond.methodLink RX1 86 yX1_endTrick, Cond.instanceMethod yX1_endTrick, Cond.selects RX1 yX1_endTrick yX1_endTrick, Cond.code yX1_endTrick cX1_endTrick 5 (some .int), Cond.methodLink RX1 89 yX1_beats, Cond.instanceMethod yX1_beats, Cond.selects RX1 yX1_beats yX1_beats]
def wsX5_value_r5 : List Cond := [Cond.code yX1_beats cX1_beats 4 (some .boolean), Cond.fieldLink RX1 21 "OpenTricks$Game" "trump" "I", Cond.methodLink RX4 48 yX4_gainOf, Cond.static yX4_gainOf, Cond.code yX4_gainOf cX4_gainOf 1 (some .int), Cond.methodLink RX4 23 yX1_cardsLeft, Cond.methodLink RX4 32 yX4_search, Cond.instanceMethod yX4_search, Cond.selects RX4 yX4_search yX4_search, Cond.code yX4_search cX4_search 10 (some .int), Cond.fieldLink RX4 16 "OpenTricks$Solver" "kept" "LOpenTricks$Kept;", Cond.methodLink RX4 85 Lib.Math.max.name, Cond.static Lib.Math.max.name, Cond.initialized "java/lang/Math", Cond.code Lib.Math.max.name Lib.Math.max.code 2 (some .int), Cond.methodLink RX4 90 Lib.Math.min.name, Cond.static Lib.Math.min.name, Cond.code Lib.Math.min.name Lib.Math.min.code 2 (some .int), Cond.methodLink RX4 70 yX1_trickSize, Cond.methodLink RX4 73 yX4_tryPlays, Cond.instanceMethod yX4_tryPlays, Cond.selects RX4 yX4_tryPlays yX4_tryPlays, Cond.methodLink RX4 76 yX1_betweenTricks, Cond.instanceMethod yX1_betweenTricks]
def wsX5_value_r6 : List Cond := [Cond.selects RX1 yX1_betweenTricks yX1_betweenTricks, Cond.code yX1_betweenTricks cX1_betweenTricks 1 (some .int), Cond.methodLink RX1 96 yX1_inHands, Cond.instanceMethod yX1_inHands, Cond.selects RX1 yX1_inHands yX1_inHands, Cond.code yX1_inHands cX1_inHands 3 (some .int), Cond.methodLink RX4 79 yX2_leastAt, Cond.instanceMethod yX2_leastAt, Cond.selects RX2 yX2_leastAt yX2_leastAt, Cond.initialized RX2, Cond.code yX2_leastAt cX2_leastAt 2 (some .int), Cond.methodLink RX2 13 yX2_entryOf, Cond.instanceMethod yX2_entryOf, Cond.selects RX2 yX2_entryOf yX2_entryOf, Cond.code yX2_entryOf cX2_entryOf 4 (some .int), Cond.fieldLink RX2 9 "OpenTricks$Kept" "entries" "[I", Cond.methodLink RX2 17 yX2_slotOf, Cond.static yX2_slotOf, Cond.code yX2_slotOf cX2_slotOf 1 (some .int), Cond.constant RX2 20 (-1640531535), Cond.methodLink RX4 82 yX2_mostAt, Cond.instanceMethod yX2_mostAt, Cond.selects RX2 yX2_mostAt yX2_mostAt, Cond.code yX2_mostAt cX2_mostAt 4 (some .int)]
def wsX5_value_r7 : List Cond := [Cond.methodLink RX4 93 yX2_put, Cond.instanceMethod yX2_put, Cond.selects RX2 yX2_put yX2_put, Cond.code yX2_put cX2_put 5 none, Cond.code yX4_tryPlays cX4_tryPlays 13 (some .int), Cond.methodLink RX4 54 yX1_playable, Cond.methodLink RX4 57 yX1_out, Cond.instanceMethod yX1_out, Cond.selects RX1 yX1_out yX1_out, Cond.code yX1_out cX1_out 1 (some .int), Cond.constant RX1 95 (16777215), Cond.methodLink RX1 99 yX1_inTrickSet, Cond.instanceMethod yX1_inTrickSet, Cond.selects RX1 yX1_inTrickSet yX1_inTrickSet, Cond.code yX1_inTrickSet cX1_inTrickSet 3 (some .int), Cond.methodLink RX4 60 yX0_lowestOfEquals, Cond.static yX0_lowestOfEquals, Cond.code yX0_lowestOfEquals cX0_lowestOfEquals 6 (some .int), Cond.methodLink RX0 25 yX0_lowest, Cond.static yX0_lowest, Cond.code yX0_lowest cX0_lowest 1 (some .int), Cond.methodLink RX0 9 yJ6_numberOfTrailingZeros_0f7a4, Cond.static yJ6_numberOfTrailingZeros_0f7a4, Cond.initialized RJ6]
def wsX5_value_r8 : List Cond := [Cond.code yJ6_numberOfTrailingZeros_0f7a4 cJ6_numberOfTrailingZeros_0f7a4 2 (some .int), Cond.constant RJ6 264 (65536), Cond.methodLink RX0 28 yX0_equalBelow, Cond.static yX0_equalBelow, Cond.code yX0_equalBelow cX0_equalBelow 5 (some .int), Cond.methodLink RX0 18 yX0_suitOf, Cond.methodLink RX0 21 yX0_holds, Cond.methodLink RX4 97 yX0_highest, Cond.static yX0_highest, Cond.code yX0_highest cX0_highest 1 (some .int), Cond.methodLink RX0 15 yJ6_numberOfLeadingZeros_0f7a4, Cond.static yJ6_numberOfLeadingZeros_0f7a4, Cond.code yJ6_numberOfLeadingZeros_0f7a4 cJ6_numberOfLeadingZeros_0f7a4 2 (some .int), Cond.methodLink RX4 51 yX1_lift, Cond.instanceMethod yX1_lift, Cond.selects RX1 yX1_lift yX1_lift, Cond.code yX1_lift cX1_lift 2 (some .int), Cond.methodLink RX1 51 yX1_addTo, Cond.instanceMethod yX1_addTo, Cond.selects RX1 yX1_addTo yX1_addTo, Cond.code yX1_addTo cX1_addTo 3 none]
def wsX5_value : List Cond := .code yX5_value cX5_value 2 (some .int) :: ((wsX5_value_r1 ++ (wsX5_value_r2 ++ (wsX5_value_r3 ++ (wsX5_value_r4 ++ (wsX5_value_r5 ++ (wsX5_value_r6 ++ (wsX5_value_r7 ++ wsX5_value_r8))))))) ++ wsX50 ++ wsX10 ++ wsX40 ++ wsX20 ++ (vx_atS RX5 38 "java/lang/IllegalArgumentException" ["java/lang/RuntimeException", "java/lang/Exception"]).filter goodWord ++ (vx_atS RX5 60 "java/lang/IllegalStateException" ["java/lang/RuntimeException", "java/lang/Exception"]).filter goodWord)
def wsX5_bestCard_r1 : List Cond := [Cond.classLink RX5 56 "java/lang/IllegalStateException", Cond.initialized "java/lang/IllegalStateException", Cond.fieldLink RX5 10 "OpenTricks" "game" "LOpenTricks$Game;", Cond.fieldLink RX5 21 "OpenTricks" "solver" "LOpenTricks$Solver;", Cond.methodLink RX5 101 yX1_mover, Cond.instanceMethod yX1_mover, Cond.selects RX1 yX1_mover yX1_mover, Cond.initialized RX1, Cond.code yX1_mover cX1_mover 1 (some .int), Cond.fieldLink RX1 28 "OpenTricks$Game" "open" "Z", Cond.methodLink RX1 59 yX1_cardsLeft, Cond.instanceMethod yX1_cardsLeft, Cond.selects RX1 yX1_cardsLeft yX1_cardsLeft, Cond.code yX1_cardsLeft cX1_cardsLeft 1 (some .int), Cond.fieldLink RX1 32 "OpenTricks$Game" "tricks" "I", Cond.fieldLink RX1 35 "OpenTricks$Game" "laidCount" "I", Cond.methodLink RX1 55 yX1_tricksOver, Cond.instanceMethod yX1_tricksOver, Cond.selects RX1 yX1_tricksOver yX1_tricksOver, Cond.code yX1_tricksOver cX1_tricksOver 1 (some .int), Cond.methodLink RX1 62 yX1_leaderOf, Cond.instanceMethod yX1_leaderOf, Cond.selects RX1 yX1_leaderOf yX1_leaderOf, Cond.code yX1_leaderOf cX1_leaderOf 2 (some .int)]
def wsX5_bestCard_r2 : List Cond := [Cond.fieldLink RX1 18 "OpenTricks$Game" "leaders" "[I", Cond.methodLink RX1 65 yX1_trickSize, Cond.instanceMethod yX1_trickSize, Cond.selects RX1 yX1_trickSize yX1_trickSize, Cond.code yX1_trickSize cX1_trickSize 1 (some .int), Cond.methodLink RX5 143 yX4_bestPlay, Cond.instanceMethod yX4_bestPlay, Cond.selects RX4 yX4_bestPlay yX4_bestPlay, Cond.initialized RX4, Cond.code yX4_bestPlay cX4_bestPlay 7 (some .int), Cond.fieldLink RX4 7 "OpenTricks$Solver" "game" "LOpenTricks$Game;", Cond.methodLink RX4 54 yX1_playable, Cond.instanceMethod yX1_playable, Cond.selects RX1 yX1_playable yX1_playable, Cond.code yX1_playable cX1_playable 3 (some .int), Cond.methodLink RX1 71 yX1_mover, Cond.methodLink RX1 42 yX1_handOf, Cond.instanceMethod yX1_handOf, Cond.selects RX1 yX1_handOf yX1_handOf, Cond.code yX1_handOf cX1_handOf 2 (some .int), Cond.fieldLink RX1 9 "OpenTricks$Game" "hands" "[I", Cond.methodLink RX1 74 yX1_trickCard, Cond.instanceMethod yX1_trickCard, Cond.selects RX1 yX1_trickCard yX1_trickCard]
def wsX5_bestCard_r3 : List Cond := [Cond.code yX1_trickCard cX1_trickCard 2 (some .int), Cond.methodLink RX1 68 yX1_laidAt, Cond.instanceMethod yX1_laidAt, Cond.selects RX1 yX1_laidAt yX1_laidAt, Cond.code yX1_laidAt cX1_laidAt 2 (some .int), Cond.fieldLink RX1 15 "OpenTricks$Game" "laid" "[I", Cond.methodLink RX1 77 yX0_suitOf, Cond.static yX0_suitOf, Cond.initialized RX0, Cond.code yX0_suitOf cX0_suitOf 1 (some .int), Cond.methodLink RX1 80 yX0_suitSet, Cond.static yX0_suitSet, Cond.code yX0_suitSet cX0_suitSet 1 (some .int), Cond.methodLink RX4 57 yX1_out, Cond.instanceMethod yX1_out, Cond.selects RX1 yX1_out yX1_out, Cond.code yX1_out cX1_out 1 (some .int), Cond.constant RX1 95 (16777215), Cond.methodLink RX1 96 yX1_inHands, Cond.instanceMethod yX1_inHands, Cond.selects RX1 yX1_inHands yX1_inHands, Cond.code yX1_inHands cX1_inHands 3 (some .int), Cond.methodLink RX1 99 yX1_inTrickSet, Cond.instanceMethod yX1_inTrickSet]
def wsX5_bestCard_r4 : List Cond := [Cond.selects RX1 yX1_inTrickSet yX1_inTrickSet, Cond.code yX1_inTrickSet cX1_inTrickSet 3 (some .int), Cond.methodLink RX4 60 yX0_lowestOfEquals, Cond.static yX0_lowestOfEquals, Cond.code yX0_lowestOfEquals cX0_lowestOfEquals 6 (some .int), Cond.methodLink RX0 25 yX0_lowest, Cond.static yX0_lowest, Cond.code yX0_lowest cX0_lowest 1 (some .int), Cond.methodLink RX0 9 yJ6_numberOfTrailingZeros_0f7a4, Cond.static yJ6_numberOfTrailingZeros_0f7a4, Cond.initialized RJ6, Cond.code yJ6_numberOfTrailingZeros_0f7a4 cJ6_numberOfTrailingZeros_0f7a4 2 (some .int), Cond.constant RJ6 264 (65536), Cond.methodLink RX0 28 yX0_equalBelow, Cond.static yX0_equalBelow, Cond.code yX0_equalBelow cX0_equalBelow 5 (some .int), Cond.methodLink RX0 18 yX0_suitOf, Cond.methodLink RX0 21 yX0_holds, Cond.static yX0_holds, Cond.code yX0_holds cX0_holds 2 (some .boolean), Cond.methodLink RX4 64 yX0_lowest, Cond.methodLink RX4 67 yX4_worthOf, Cond.instanceMethod yX4_worthOf, Cond.selects RX4 yX4_worthOf yX4_worthOf]
def wsX5_bestCard_r5 : List Cond := [Cond.code yX4_worthOf cX4_worthOf 6 (some .int), Cond.methodLink RX4 29 yX1_tricksLeft, Cond.instanceMethod yX1_tricksLeft, Cond.selects RX1 yX1_tricksLeft yX1_tricksLeft, Cond.code yX1_tricksLeft cX1_tricksLeft 1 (some .int), Cond.methodLink RX4 36 yX1_mover, Cond.methodLink RX4 39 yX0_sideOf, Cond.static yX0_sideOf, Cond.code yX0_sideOf cX0_sideOf 1 (some .int), Cond.methodLink RX4 45 yX1_lay, Cond.instanceMethod yX1_lay, Cond.selects RX1 yX1_lay yX1_lay, Cond.code yX1_lay cX1_lay 2 (some .int), Cond.methodLink RX1 83 yX1_dropFrom, Cond.instanceMethod yX1_dropFrom, Cond.selects RX1 yX1_dropFrom yX1_dropFrom, Cond.code yX1_dropFrom cX1_dropFrom 3 none, Cond.methodLink RX1 86 yX1_endTrick, Cond.instanceMethod yX1_endTrick, Cond.selects RX1 yX1_endTrick yX1_endTrick, Cond.code yX1_endTrick cX1_endTrick 5 (some .int), Cond.methodLink RX1 89 yX1_beats, Cond.instanceMethod yX1_beats, Cond.selects RX1 yX1_beats yX1_beats]
def wsX5_bestCard_r6 : List Cond := [Cond.code yX1_beats cX1_beats 4 (some .boolean), Cond.fieldLink RX1 21 "OpenTricks$Game" "trump" "I", Cond.methodLink RX4 48 yX4_gainOf, Cond.static yX4_gainOf, Cond.code yX4_gainOf cX4_gainOf 1 (some .int), Cond.methodLink RX4 23 yX1_cardsLeft, Cond.methodLink RX4 32 yX4_search, Cond.instanceMethod yX4_search, Cond.selects RX4 yX4_search yX4_search, Cond.code yX4_search cX4_search 10 (some .int), Cond.fieldLink RX4 16 "OpenTricks$Solver" "kept" "LOpenTricks$Kept;", Cond.methodLink RX4 85 Lib.Math.max.name, Cond.static Lib.Math.max.name, Cond.initialized "java/lang/Math", Cond.code Lib.Math.max.name Lib.Math.max.code 2 (some .int), Cond.methodLink RX4 90 Lib.Math.min.name, Cond.static Lib.Math.min.name, Cond.code Lib.Math.min.name Lib.Math.min.code 2 (some .int), Cond.methodLink RX4 70 yX1_trickSize, Cond.methodLink RX4 73 yX4_tryPlays, Cond.instanceMethod yX4_tryPlays, Cond.selects RX4 yX4_tryPlays yX4_tryPlays, Cond.methodLink RX4 76 yX1_betweenTricks, Cond.instanceMethod yX1_betweenTricks]
def wsX5_bestCard_r7 : List Cond := [Cond.selects RX1 yX1_betweenTricks yX1_betweenTricks, Cond.code yX1_betweenTricks cX1_betweenTricks 1 (some .int), Cond.methodLink RX4 79 yX2_leastAt, Cond.instanceMethod yX2_leastAt, Cond.selects RX2 yX2_leastAt yX2_leastAt, Cond.initialized RX2, Cond.code yX2_leastAt cX2_leastAt 2 (some .int), Cond.methodLink RX2 13 yX2_entryOf, Cond.instanceMethod yX2_entryOf, Cond.selects RX2 yX2_entryOf yX2_entryOf, Cond.code yX2_entryOf cX2_entryOf 4 (some .int), Cond.fieldLink RX2 9 "OpenTricks$Kept" "entries" "[I", Cond.methodLink RX2 17 yX2_slotOf, Cond.static yX2_slotOf, Cond.code yX2_slotOf cX2_slotOf 1 (some .int), Cond.constant RX2 20 (-1640531535), Cond.methodLink RX4 82 yX2_mostAt, Cond.instanceMethod yX2_mostAt, Cond.selects RX2 yX2_mostAt yX2_mostAt, Cond.code yX2_mostAt cX2_mostAt 4 (some .int), Cond.methodLink RX4 93 yX2_put, Cond.instanceMethod yX2_put, Cond.selects RX2 yX2_put yX2_put, Cond.code yX2_put cX2_put 5 none]
def wsX5_bestCard_r8 : List Cond := [Cond.code yX4_tryPlays cX4_tryPlays 13 (some .int), Cond.methodLink RX4 97 yX0_highest, Cond.static yX0_highest, Cond.code yX0_highest cX0_highest 1 (some .int), Cond.methodLink RX0 15 yJ6_numberOfLeadingZeros_0f7a4, Cond.static yJ6_numberOfLeadingZeros_0f7a4, Cond.code yJ6_numberOfLeadingZeros_0f7a4 cJ6_numberOfLeadingZeros_0f7a4 2 (some .int), Cond.methodLink RX4 51 yX1_lift, Cond.instanceMethod yX1_lift, Cond.selects RX1 yX1_lift yX1_lift, Cond.code yX1_lift cX1_lift 2 (some .int), Cond.methodLink RX1 51 yX1_addTo, Cond.instanceMethod yX1_addTo, Cond.selects RX1 yX1_addTo yX1_addTo, Cond.code yX1_addTo cX1_addTo 3 none]
def wsX5_bestCard : List Cond := .code yX5_bestCard cX5_bestCard 1 (some .int) :: ((wsX5_bestCard_r1 ++ (wsX5_bestCard_r2 ++ (wsX5_bestCard_r3 ++ (wsX5_bestCard_r4 ++ (wsX5_bestCard_r5 ++ (wsX5_bestCard_r6 ++ (wsX5_bestCard_r7 ++ wsX5_bestCard_r8))))))) ++ wsX50 ++ wsX10 ++ wsX40 ++ wsX20 ++ (vx_atS RX5 60 "java/lang/IllegalStateException" ["java/lang/RuntimeException", "java/lang/Exception"]).filter goodWord)
def wsX5_needInHand : List Cond := .code yX5_needInHand cX5_needInHand 2 none :: ([.classLink RX5 56 "java/lang/IllegalStateException", .initialized "java/lang/IllegalStateException", .fieldLink RX5 10 "OpenTricks" "game" "LOpenTricks$Game;", .methodLink RX5 163 yX1_ownerOf, .instanceMethod yX1_ownerOf, .selects RX1 yX1_ownerOf yX1_ownerOf, .initialized RX1, .code yX1_ownerOf cX1_ownerOf 3 (some .int), .fieldLink RX1 9 "OpenTricks$Game" "hands" "[I", .methodLink RX1 38 yX0_holds, .static yX0_holds, .initialized RX0, .code yX0_holds cX0_holds 2 (some .boolean)] ++ wsX50 ++ wsX10 ++ (vx_atS RX5 60 "java/lang/IllegalStateException" ["java/lang/RuntimeException", "java/lang/Exception"]).filter goodWord)
def wsX5_lowestEqual_r1 : List Cond := [Cond.fieldLink RX5 28 "OpenTricks" "look" "LOpenTricks$Look;", Cond.methodLink RX5 49 yX5_needCard, Cond.static yX5_needCard, Cond.initialized RX5, Cond.code yX5_needCard cX5_needCard 1 none, Cond.classLink RX5 34 "java/lang/IllegalArgumentException", Cond.initialized "java/lang/IllegalArgumentException", Cond.methodLink RX5 146 yX5_needInHand, Cond.instanceMethod yX5_needInHand, Cond.selects RX5 yX5_needInHand yX5_needInHand, Cond.code yX5_needInHand cX5_needInHand 2 none, Cond.classLink RX5 56 "java/lang/IllegalStateException", Cond.initialized "java/lang/IllegalStateException", Cond.fieldLink RX5 10 "OpenTricks" "game" "LOpenTricks$Game;", Cond.methodLink RX5 163 yX1_ownerOf, Cond.instanceMethod yX1_ownerOf, Cond.selects RX1 yX1_ownerOf yX1_ownerOf, Cond.initialized RX1, Cond.code yX1_ownerOf cX1_ownerOf 3 (some .int), Cond.fieldLink RX1 9 "OpenTricks$Game" "hands" "[I", Cond.methodLink RX1 38 yX0_holds, Cond.static yX0_holds, Cond.initialized RX0, Cond.code yX0_holds cX0_holds 2 (some .boolean)]
def wsX5_lowestEqual_r2 : List Cond := [Cond.methodLink RX5 149 yX3_lowestLike, Cond.instanceMethod yX3_lowestLike, Cond.selects RX3 yX3_lowestLike yX3_lowestLike, Cond.initialized RX3, Cond.code yX3_lowestLike cX3_lowestLike 7 (some .int), Cond.fieldLink RX3 7 "OpenTricks$Look" "game" "LOpenTricks$Game;", Cond.methodLink RX3 13 yX1_ownerOf, Cond.methodLink RX3 19 yX1_handOf, Cond.instanceMethod yX1_handOf, Cond.selects RX1 yX1_handOf yX1_handOf, Cond.code yX1_handOf cX1_handOf 2 (some .int), Cond.methodLink RX3 22 yX1_out, Cond.instanceMethod yX1_out, Cond.selects RX1 yX1_out yX1_out, Cond.code yX1_out cX1_out 1 (some .int), Cond.constant RX1 95 (16777215), Cond.methodLink RX1 96 yX1_inHands, Cond.instanceMethod yX1_inHands, Cond.selects RX1 yX1_inHands yX1_inHands, Cond.code yX1_inHands cX1_inHands 3 (some .int), Cond.methodLink RX1 99 yX1_inTrickSet, Cond.instanceMethod yX1_inTrickSet, Cond.selects RX1 yX1_inTrickSet yX1_inTrickSet, Cond.code yX1_inTrickSet cX1_inTrickSet 3 (some .int)]
def wsX5_lowestEqual_r3 : List Cond := [Cond.fieldLink RX1 35 "OpenTricks$Game" "laidCount" "I", Cond.methodLink RX1 65 yX1_trickSize, Cond.instanceMethod yX1_trickSize, Cond.selects RX1 yX1_trickSize yX1_trickSize, Cond.code yX1_trickSize cX1_trickSize 1 (some .int), Cond.methodLink RX1 68 yX1_laidAt, Cond.instanceMethod yX1_laidAt, Cond.selects RX1 yX1_laidAt yX1_laidAt, Cond.code yX1_laidAt cX1_laidAt 2 (some .int), Cond.fieldLink RX1 15 "OpenTricks$Game" "laid" "[I", Cond.methodLink RX3 28 yX0_equalBelow, Cond.static yX0_equalBelow, Cond.code yX0_equalBelow cX0_equalBelow 5 (some .int), Cond.methodLink RX0 18 yX0_suitOf, Cond.static yX0_suitOf, Cond.code yX0_suitOf cX0_suitOf 1 (some .int), Cond.methodLink RX0 21 yX0_holds]
def wsX5_lowestEqual : List Cond := .code yX5_lowestEqual cX5_lowestEqual 2 (some .int) :: ((wsX5_lowestEqual_r1 ++ (wsX5_lowestEqual_r2 ++ wsX5_lowestEqual_r3)) ++ wsX50 ++ wsX10 ++ wsX30 ++ (vx_atS RX5 38 "java/lang/IllegalArgumentException" ["java/lang/RuntimeException", "java/lang/Exception"]).filter goodWord ++ (vx_atS RX5 60 "java/lang/IllegalStateException" ["java/lang/RuntimeException", "java/lang/Exception"]).filter goodWord)
def wsX5_unlike_r1 : List Cond := [Cond.fieldLink RX5 10 "OpenTricks" "game" "LOpenTricks$Game;", Cond.methodLink RX5 45 yX5_needPlayer, Cond.static yX5_needPlayer, Cond.initialized RX5, Cond.code yX5_needPlayer cX5_needPlayer 1 none, Cond.classLink RX5 34 "java/lang/IllegalArgumentException", Cond.initialized "java/lang/IllegalArgumentException", Cond.methodLink RX5 104 yX1_handOf, Cond.instanceMethod yX1_handOf, Cond.selects RX1 yX1_handOf yX1_handOf, Cond.initialized RX1, Cond.code yX1_handOf cX1_handOf 2 (some .int), Cond.fieldLink RX1 9 "OpenTricks$Game" "hands" "[I", Cond.methodLink RX5 152 yX1_out, Cond.instanceMethod yX1_out, Cond.selects RX1 yX1_out yX1_out, Cond.code yX1_out cX1_out 1 (some .int), Cond.constant RX1 95 (16777215), Cond.methodLink RX1 96 yX1_inHands, Cond.instanceMethod yX1_inHands, Cond.selects RX1 yX1_inHands yX1_inHands, Cond.code yX1_inHands cX1_inHands 3 (some .int), Cond.methodLink RX1 99 yX1_inTrickSet, Cond.instanceMethod yX1_inTrickSet]
def wsX5_unlike_r2 : List Cond := [Cond.selects RX1 yX1_inTrickSet yX1_inTrickSet, Cond.code yX1_inTrickSet cX1_inTrickSet 3 (some .int), Cond.fieldLink RX1 35 "OpenTricks$Game" "laidCount" "I", Cond.methodLink RX1 65 yX1_trickSize, Cond.instanceMethod yX1_trickSize, Cond.selects RX1 yX1_trickSize yX1_trickSize, Cond.code yX1_trickSize cX1_trickSize 1 (some .int), Cond.methodLink RX1 68 yX1_laidAt, Cond.instanceMethod yX1_laidAt, Cond.selects RX1 yX1_laidAt yX1_laidAt, Cond.code yX1_laidAt cX1_laidAt 2 (some .int), Cond.fieldLink RX1 15 "OpenTricks$Game" "laid" "[I", Cond.methodLink RX5 155 yX0_lowestOfEquals, Cond.static yX0_lowestOfEquals, Cond.initialized RX0, Cond.code yX0_lowestOfEquals cX0_lowestOfEquals 6 (some .int), Cond.methodLink RX0 25 yX0_lowest, Cond.static yX0_lowest, Cond.code yX0_lowest cX0_lowest 1 (some .int), Cond.methodLink RX0 9 yJ6_numberOfTrailingZeros_0f7a4, Cond.static yJ6_numberOfTrailingZeros_0f7a4, Cond.initialized RJ6, Cond.code yJ6_numberOfTrailingZeros_0f7a4 cJ6_numberOfTrailingZeros_0f7a4 2 (some .int), Cond.constant RJ6 264 (65536)]
def wsX5_unlike_r3 : List Cond := [Cond.methodLink RX0 28 yX0_equalBelow, Cond.static yX0_equalBelow, Cond.code yX0_equalBelow cX0_equalBelow 5 (some .int), Cond.methodLink RX0 18 yX0_suitOf, Cond.static yX0_suitOf, Cond.code yX0_suitOf cX0_suitOf 1 (some .int), Cond.methodLink RX0 21 yX0_holds, Cond.static yX0_holds, Cond.code yX0_holds cX0_holds 2 (some .boolean), Cond.methodLink RX5 158 yJ6_bitCount_0f7a4, Cond.static yJ6_bitCount_0f7a4, Cond.code yJ6_bitCount_0f7a4 cJ6_bitCount_0f7a4 1 (some .int), Cond.constant RJ6 265 (1431655765), Cond.constant RJ6 266 (858993459), Cond.constant RJ6 267 (252645135)]
def wsX5_unlike : List Cond := .code yX5_unlike cX5_unlike 2 (some .int) :: ((wsX5_unlike_r1 ++ (wsX5_unlike_r2 ++ wsX5_unlike_r3)) ++ wsX50 ++ wsX10 ++ (vx_atS RX5 38 "java/lang/IllegalArgumentException" ["java/lang/RuntimeException", "java/lang/Exception"]).filter goodWord)
def wsX5_isTop_r1 : List Cond := [Cond.fieldLink RX5 28 "OpenTricks" "look" "LOpenTricks$Look;", Cond.fieldLink RX5 10 "OpenTricks" "game" "LOpenTricks$Game;", Cond.methodLink RX5 49 yX5_needCard, Cond.static yX5_needCard, Cond.initialized RX5, Cond.code yX5_needCard cX5_needCard 1 none, Cond.classLink RX5 34 "java/lang/IllegalArgumentException", Cond.initialized "java/lang/IllegalArgumentException", Cond.methodLink RX5 146 yX5_needInHand, Cond.instanceMethod yX5_needInHand, Cond.selects RX5 yX5_needInHand yX5_needInHand, Cond.code yX5_needInHand cX5_needInHand 2 none, Cond.classLink RX5 56 "java/lang/IllegalStateException", Cond.initialized "java/lang/IllegalStateException", Cond.methodLink RX5 163 yX1_ownerOf, Cond.instanceMethod yX1_ownerOf, Cond.selects RX1 yX1_ownerOf yX1_ownerOf, Cond.initialized RX1, Cond.code yX1_ownerOf cX1_ownerOf 3 (some .int), Cond.fieldLink RX1 9 "OpenTricks$Game" "hands" "[I", Cond.methodLink RX1 38 yX0_holds, Cond.static yX0_holds, Cond.initialized RX0, Cond.code yX0_holds cX0_holds 2 (some .boolean)]
def wsX5_isTop_r2 : List Cond := [Cond.methodLink RX5 166 yX3_isHighest, Cond.instanceMethod yX3_isHighest, Cond.selects RX3 yX3_isHighest yX3_isHighest, Cond.initialized RX3, Cond.code yX3_isHighest cX3_isHighest 4 (some .boolean), Cond.fieldLink RX3 7 "OpenTricks$Look" "game" "LOpenTricks$Game;", Cond.methodLink RX3 32 yX1_inHands, Cond.instanceMethod yX1_inHands, Cond.selects RX1 yX1_inHands yX1_inHands, Cond.code yX1_inHands cX1_inHands 3 (some .int), Cond.methodLink RX3 19 yX1_handOf, Cond.instanceMethod yX1_handOf, Cond.selects RX1 yX1_handOf yX1_handOf, Cond.code yX1_handOf cX1_handOf 2 (some .int), Cond.methodLink RX3 35 yX1_inTrickSet, Cond.instanceMethod yX1_inTrickSet, Cond.selects RX1 yX1_inTrickSet yX1_inTrickSet, Cond.code yX1_inTrickSet cX1_inTrickSet 3 (some .int), Cond.fieldLink RX1 35 "OpenTricks$Game" "laidCount" "I", Cond.methodLink RX1 65 yX1_trickSize, Cond.instanceMethod yX1_trickSize, Cond.selects RX1 yX1_trickSize yX1_trickSize, Cond.code yX1_trickSize cX1_trickSize 1 (some .int), Cond.methodLink RX1 68 yX1_laidAt]
def wsX5_isTop_r3 : List Cond := [Cond.instanceMethod yX1_laidAt, Cond.selects RX1 yX1_laidAt yX1_laidAt, Cond.code yX1_laidAt cX1_laidAt 2 (some .int), Cond.fieldLink RX1 15 "OpenTricks$Game" "laid" "[I", Cond.methodLink RX3 38 yX0_suitOf, Cond.static yX0_suitOf, Cond.code yX0_suitOf cX0_suitOf 1 (some .int), Cond.methodLink RX3 41 yX0_suitSet, Cond.static yX0_suitSet, Cond.code yX0_suitSet cX0_suitSet 1 (some .int), Cond.methodLink RX3 44 yX0_highest, Cond.static yX0_highest, Cond.code yX0_highest cX0_highest 1 (some .int), Cond.methodLink RX0 15 yJ6_numberOfLeadingZeros_0f7a4, Cond.static yJ6_numberOfLeadingZeros_0f7a4, Cond.initialized RJ6, Cond.code yJ6_numberOfLeadingZeros_0f7a4 cJ6_numberOfLeadingZeros_0f7a4 2 (some .int), Cond.constant RJ6 264 (65536)]
def wsX5_isTop : List Cond := .code yX5_isTop cX5_isTop 2 (some .boolean) :: ((wsX5_isTop_r1 ++ (wsX5_isTop_r2 ++ wsX5_isTop_r3)) ++ wsX50 ++ wsX10 ++ wsX30 ++ (vx_atS RX5 38 "java/lang/IllegalArgumentException" ["java/lang/RuntimeException", "java/lang/Exception"]).filter goodWord ++ (vx_atS RX5 60 "java/lang/IllegalStateException" ["java/lang/RuntimeException", "java/lang/Exception"]).filter goodWord)
def wsX5_quick_r1 : List Cond := [Cond.fieldLink RX5 28 "OpenTricks" "look" "LOpenTricks$Look;", Cond.methodLink RX5 45 yX5_needPlayer, Cond.static yX5_needPlayer, Cond.initialized RX5, Cond.code yX5_needPlayer cX5_needPlayer 1 none, Cond.classLink RX5 34 "java/lang/IllegalArgumentException", Cond.initialized "java/lang/IllegalArgumentException", Cond.methodLink RX5 169 yX3_quickTricks, Cond.instanceMethod yX3_quickTricks, Cond.selects RX3 yX3_quickTricks yX3_quickTricks, Cond.initialized RX3, Cond.code yX3_quickTricks cX3_quickTricks 5 (some .int), Cond.fieldLink RX3 7 "OpenTricks$Look" "game" "LOpenTricks$Game;", Cond.methodLink RX3 19 yX1_handOf, Cond.instanceMethod yX1_handOf, Cond.selects RX1 yX1_handOf yX1_handOf, Cond.initialized RX1, Cond.code yX1_handOf cX1_handOf 2 (some .int), Cond.fieldLink RX1 9 "OpenTricks$Game" "hands" "[I", Cond.methodLink RX3 47 yX0_holds, Cond.static yX0_holds, Cond.initialized RX0, Cond.code yX0_holds cX0_holds 2 (some .boolean), Cond.methodLink RX3 51 yX3_isHighest]
def wsX5_quick_r2 : List Cond := [Cond.instanceMethod yX3_isHighest, Cond.selects RX3 yX3_isHighest yX3_isHighest, Cond.code yX3_isHighest cX3_isHighest 4 (some .boolean), Cond.methodLink RX3 32 yX1_inHands, Cond.instanceMethod yX1_inHands, Cond.selects RX1 yX1_inHands yX1_inHands, Cond.code yX1_inHands cX1_inHands 3 (some .int), Cond.methodLink RX3 35 yX1_inTrickSet, Cond.instanceMethod yX1_inTrickSet, Cond.selects RX1 yX1_inTrickSet yX1_inTrickSet, Cond.code yX1_inTrickSet cX1_inTrickSet 3 (some .int), Cond.fieldLink RX1 35 "OpenTricks$Game" "laidCount" "I", Cond.methodLink RX1 65 yX1_trickSize, Cond.instanceMethod yX1_trickSize, Cond.selects RX1 yX1_trickSize yX1_trickSize, Cond.code yX1_trickSize cX1_trickSize 1 (some .int), Cond.methodLink RX1 68 yX1_laidAt, Cond.instanceMethod yX1_laidAt, Cond.selects RX1 yX1_laidAt yX1_laidAt, Cond.code yX1_laidAt cX1_laidAt 2 (some .int), Cond.fieldLink RX1 15 "OpenTricks$Game" "laid" "[I", Cond.methodLink RX3 38 yX0_suitOf, Cond.static yX0_suitOf, Cond.code yX0_suitOf cX0_suitOf 1 (some .int)]
def wsX5_quick_r3 : List Cond := [Cond.methodLink RX3 41 yX0_suitSet, Cond.static yX0_suitSet, Cond.code yX0_suitSet cX0_suitSet 1 (some .int), Cond.methodLink RX3 44 yX0_highest, Cond.static yX0_highest, Cond.code yX0_highest cX0_highest 1 (some .int), Cond.methodLink RX0 15 yJ6_numberOfLeadingZeros_0f7a4, Cond.static yJ6_numberOfLeadingZeros_0f7a4, Cond.initialized RJ6, Cond.code yJ6_numberOfLeadingZeros_0f7a4 cJ6_numberOfLeadingZeros_0f7a4 2 (some .int), Cond.constant RJ6 264 (65536)]
def wsX5_quick : List Cond := .code yX5_quick cX5_quick 2 (some .int) :: ((wsX5_quick_r1 ++ (wsX5_quick_r2 ++ wsX5_quick_r3)) ++ wsX50 ++ wsX30 ++ wsX10 ++ (vx_atS RX5 38 "java/lang/IllegalArgumentException" ["java/lang/RuntimeException", "java/lang/Exception"]).filter goodWord)
def wsX5_fork_r1 : List Cond := [Cond.classLink RX5 34 "java/lang/IllegalArgumentException", Cond.initialized "java/lang/IllegalArgumentException", Cond.fieldLink RX5 28 "OpenTricks" "look" "LOpenTricks$Look;", Cond.methodLink RX5 45 yX5_needPlayer, Cond.static yX5_needPlayer, Cond.initialized RX5, Cond.code yX5_needPlayer cX5_needPlayer 1 none, Cond.methodLink RX5 174 yX3_forkKind, Cond.instanceMethod yX3_forkKind, Cond.selects RX3 yX3_forkKind yX3_forkKind, Cond.initialized RX3, Cond.code yX3_forkKind cX3_forkKind 8 (some .int), Cond.fieldLink RX3 7 "OpenTricks$Look" "game" "LOpenTricks$Game;", Cond.methodLink RX3 32 yX1_inHands, Cond.instanceMethod yX1_inHands, Cond.selects RX1 yX1_inHands yX1_inHands, Cond.initialized RX1, Cond.code yX1_inHands cX1_inHands 3 (some .int), Cond.fieldLink RX1 9 "OpenTricks$Game" "hands" "[I", Cond.methodLink RX3 41 yX0_suitSet, Cond.static yX0_suitSet, Cond.initialized RX0, Cond.code yX0_suitSet cX0_suitSet 1 (some .int), Cond.methodLink RX3 54 yJ6_bitCount_0f7a4]
def wsX5_fork_r2 : List Cond := [Cond.static yJ6_bitCount_0f7a4, Cond.initialized RJ6, Cond.code yJ6_bitCount_0f7a4 cJ6_bitCount_0f7a4 1 (some .int), Cond.constant RJ6 265 (1431655765), Cond.constant RJ6 266 (858993459), Cond.constant RJ6 267 (252645135), Cond.methodLink RX3 44 yX0_highest, Cond.static yX0_highest, Cond.code yX0_highest cX0_highest 1 (some .int), Cond.methodLink RX0 15 yJ6_numberOfLeadingZeros_0f7a4, Cond.static yJ6_numberOfLeadingZeros_0f7a4, Cond.code yJ6_numberOfLeadingZeros_0f7a4 cJ6_numberOfLeadingZeros_0f7a4 2 (some .int), Cond.constant RJ6 264 (65536), Cond.methodLink RX3 13 yX1_ownerOf, Cond.instanceMethod yX1_ownerOf, Cond.selects RX1 yX1_ownerOf yX1_ownerOf, Cond.code yX1_ownerOf cX1_ownerOf 3 (some .int), Cond.methodLink RX1 38 yX0_holds, Cond.static yX0_holds, Cond.code yX0_holds cX0_holds 2 (some .boolean), Cond.methodLink RX3 59 yX0_sideOf, Cond.static yX0_sideOf, Cond.code yX0_sideOf cX0_sideOf 1 (some .int)]
def wsX5_fork : List Cond := .code yX5_fork cX5_fork 3 (some .int) :: ((wsX5_fork_r1 ++ wsX5_fork_r2) ++ wsX50 ++ wsX30 ++ wsX10 ++ (vx_atS RX5 38 "java/lang/IllegalArgumentException" ["java/lang/RuntimeException", "java/lang/Exception"]).filter goodWord)
def wsX5_goodForks_r1 : List Cond := [Cond.fieldLink RX5 28 "OpenTricks" "look" "LOpenTricks$Look;", Cond.methodLink RX5 177 yX3_goodForksOf, Cond.instanceMethod yX3_goodForksOf, Cond.selects RX3 yX3_goodForksOf yX3_goodForksOf, Cond.initialized RX3, Cond.code yX3_goodForksOf cX3_goodForksOf 5 (some .int), Cond.methodLink RX3 62 yX3_forkKind, Cond.instanceMethod yX3_forkKind, Cond.selects RX3 yX3_forkKind yX3_forkKind, Cond.code yX3_forkKind cX3_forkKind 8 (some .int), Cond.fieldLink RX3 7 "OpenTricks$Look" "game" "LOpenTricks$Game;", Cond.methodLink RX3 32 yX1_inHands, Cond.instanceMethod yX1_inHands, Cond.selects RX1 yX1_inHands yX1_inHands, Cond.initialized RX1, Cond.code yX1_inHands cX1_inHands 3 (some .int), Cond.fieldLink RX1 9 "OpenTricks$Game" "hands" "[I", Cond.methodLink RX3 41 yX0_suitSet, Cond.static yX0_suitSet, Cond.initialized RX0, Cond.code yX0_suitSet cX0_suitSet 1 (some .int), Cond.methodLink RX3 54 yJ6_bitCount_0f7a4, Cond.static yJ6_bitCount_0f7a4, Cond.initialized RJ6]
def wsX5_goodForks_r2 : List Cond := [Cond.code yJ6_bitCount_0f7a4 cJ6_bitCount_0f7a4 1 (some .int), Cond.constant RJ6 265 (1431655765), Cond.constant RJ6 266 (858993459), Cond.constant RJ6 267 (252645135), Cond.methodLink RX3 44 yX0_highest, Cond.static yX0_highest, Cond.code yX0_highest cX0_highest 1 (some .int), Cond.methodLink RX0 15 yJ6_numberOfLeadingZeros_0f7a4, Cond.static yJ6_numberOfLeadingZeros_0f7a4, Cond.code yJ6_numberOfLeadingZeros_0f7a4 cJ6_numberOfLeadingZeros_0f7a4 2 (some .int), Cond.constant RJ6 264 (65536), Cond.methodLink RX3 13 yX1_ownerOf, Cond.instanceMethod yX1_ownerOf, Cond.selects RX1 yX1_ownerOf yX1_ownerOf, Cond.code yX1_ownerOf cX1_ownerOf 3 (some .int), Cond.methodLink RX1 38 yX0_holds, Cond.static yX0_holds, Cond.code yX0_holds cX0_holds 2 (some .boolean), Cond.methodLink RX3 59 yX0_sideOf, Cond.static yX0_sideOf, Cond.code yX0_sideOf cX0_sideOf 1 (some .int)]
def wsX5_goodForks : List Cond := .code yX5_goodForks cX5_goodForks 1 (some .int) :: ((wsX5_goodForks_r1 ++ wsX5_goodForks_r2) ++ wsX50 ++ wsX30 ++ wsX10)
def wsJ9_max_7cf53 : List Cond := .code yJ9_max_7cf53 cJ9_max_7cf53 2 (some .int) :: ([])
def wsJ9_min_7cf53 : List Cond := .code yJ9_min_7cf53 cJ9_min_7cf53 2 (some .int) :: ([])
def wsL_has : List Cond := .code yL_has cL_has 2 (some .boolean) :: ([])
def wsL_size : List Cond := .code yL_size cL_size 3 (some .int) :: ([])
def wsL_leader : List Cond := .code yL_leader cL_leader 9 (some .int) :: ([])
def wsL_tricks : List Cond := .code yL_tricks cL_tricks 6 (some .int) :: ([.methodLink RL 7 yL_leader, .static yL_leader, .initialized RL, .code yL_leader cL_leader 9 (some .int)])
def wsL_can : List Cond := .code yL_can cL_can 7 (some .boolean) :: ([.methodLink RL 7 yL_leader, .static yL_leader, .initialized RL, .code yL_leader cL_leader 9 (some .int), .methodLink RL 13 yL_has, .static yL_has, .code yL_has cL_has 2 (some .boolean)])
def wsL_best : List Cond := .code yL_best cL_best 12 (some .int) :: ([.arrayClass .int, .methodLink RL 17 yL_size, .static yL_size, .initialized RL, .code yL_size cL_size 3 (some .int), .methodLink RL 21 yL_can, .static yL_can, .code yL_can cL_can 7 (some .boolean), .methodLink RL 7 yL_leader, .static yL_leader, .code yL_leader cL_leader 9 (some .int), .methodLink RL 13 yL_has, .static yL_has, .code yL_has cL_has 2 (some .boolean), .methodLink RL 25 yL_tricks, .static yL_tricks, .code yL_tricks cL_tricks 6 (some .int)])
def wsL_holder : List Cond := .code yL_holder cL_holder 2 (some .int) :: ([.methodLink RL 13 yL_has, .static yL_has, .initialized RL, .code yL_has cL_has 2 (some .boolean)])
def wsL_isOnTable : List Cond := .code yL_isOnTable cL_isOnTable 5 (some .boolean) :: ([])
def wsL_areEqual : List Cond := .code yL_areEqual cL_areEqual 7 (some .boolean) :: ([.methodLink RL 29 yL_holder, .static yL_holder, .initialized RL, .code yL_holder cL_holder 2 (some .int), .methodLink RL 13 yL_has, .static yL_has, .code yL_has cL_has 2 (some .boolean), .methodLink RL 33 yL_isOnTable, .static yL_isOnTable, .code yL_isOnTable cL_isOnTable 5 (some .boolean)])
def wsL_lowest : List Cond := .code yL_lowest cL_lowest 6 (some .int) :: ([.methodLink RL 29 yL_holder, .static yL_holder, .initialized RL, .code yL_holder cL_holder 2 (some .int), .methodLink RL 13 yL_has, .static yL_has, .code yL_has cL_has 2 (some .boolean), .methodLink RL 37 yL_areEqual, .static yL_areEqual, .code yL_areEqual cL_areEqual 7 (some .boolean), .methodLink RL 33 yL_isOnTable, .static yL_isOnTable, .code yL_isOnTable cL_isOnTable 5 (some .boolean)])
def wsL_isTop : List Cond := .code yL_isTop cL_isTop 6 (some .boolean) :: ([.methodLink RL 33 yL_isOnTable, .static yL_isOnTable, .initialized RL, .code yL_isOnTable cL_isOnTable 5 (some .boolean), .methodLink RL 29 yL_holder, .static yL_holder, .code yL_holder cL_holder 2 (some .int), .methodLink RL 13 yL_has, .static yL_has, .code yL_has cL_has 2 (some .boolean)])
def wsL_fork : List Cond := .code yL_fork cL_fork 7 (some .int) :: ([.arrayClass .int, .methodLink RL 13 yL_has, .static yL_has, .initialized RL, .code yL_has cL_has 2 (some .boolean), .methodLink RL 29 yL_holder, .static yL_holder, .code yL_holder cL_holder 2 (some .int)])
def wsL_does_r1 : List Cond := [Cond.classLink RL 75 "java/lang/IllegalStateException", Cond.methodLink RL 40 yX5_give, Cond.instanceMethod yX5_give, Cond.selects RX5 yX5_give yX5_give, Cond.initialized RX5, Cond.code yX5_give cX5_give 3 (some .int), Cond.classLink RX5 56 "java/lang/IllegalStateException", Cond.initialized "java/lang/IllegalStateException", Cond.fieldLink RX5 10 "OpenTricks" "game" "LOpenTricks$Game;", Cond.methodLink RX5 45 yX5_needPlayer, Cond.static yX5_needPlayer, Cond.code yX5_needPlayer cX5_needPlayer 1 none, Cond.classLink RX5 34 "java/lang/IllegalArgumentException", Cond.initialized "java/lang/IllegalArgumentException", Cond.methodLink RX5 49 yX5_needCard, Cond.static yX5_needCard, Cond.code yX5_needCard cX5_needCard 1 none, Cond.methodLink RX5 52 yX1_canDeal, Cond.instanceMethod yX1_canDeal, Cond.selects RX1 yX1_canDeal yX1_canDeal, Cond.initialized RX1, Cond.code yX1_canDeal cX1_canDeal 3 (some .boolean), Cond.fieldLink RX1 28 "OpenTricks$Game" "open" "Z", Cond.fieldLink RX1 25 "OpenTricks$Game" "given" "I"]
def wsL_does_r2 : List Cond := [Cond.methodLink RX1 38 yX0_holds, Cond.static yX0_holds, Cond.initialized RX0, Cond.code yX0_holds cX0_holds 2 (some .boolean), Cond.methodLink RX1 42 yX1_handOf, Cond.instanceMethod yX1_handOf, Cond.selects RX1 yX1_handOf yX1_handOf, Cond.code yX1_handOf cX1_handOf 2 (some .int), Cond.fieldLink RX1 9 "OpenTricks$Game" "hands" "[I", Cond.methodLink RX1 46 yJ6_bitCount_0f7a4, Cond.static yJ6_bitCount_0f7a4, Cond.initialized RJ6, Cond.code yJ6_bitCount_0f7a4 cJ6_bitCount_0f7a4 1 (some .int), Cond.constant RJ6 265 (1431655765), Cond.constant RJ6 266 (858993459), Cond.constant RJ6 267 (252645135), Cond.methodLink RX5 61 yX1_deal, Cond.instanceMethod yX1_deal, Cond.selects RX1 yX1_deal yX1_deal, Cond.code yX1_deal cX1_deal 3 (some .int), Cond.methodLink RX1 51 yX1_addTo, Cond.instanceMethod yX1_addTo, Cond.selects RX1 yX1_addTo yX1_addTo, Cond.code yX1_addTo cX1_addTo 3 none]
def wsL_does_r3 : List Cond := [Cond.methodLink RL 46 yX5_start, Cond.instanceMethod yX5_start, Cond.selects RX5 yX5_start yX5_start, Cond.code yX5_start cX5_start 2 (some .int), Cond.fieldLink RX5 21 "OpenTricks" "solver" "LOpenTricks$Solver;", Cond.methodLink RX5 65 yX1_canOpen, Cond.instanceMethod yX1_canOpen, Cond.selects RX1 yX1_canOpen yX1_canOpen, Cond.code yX1_canOpen cX1_canOpen 3 (some .boolean), Cond.methodLink RX5 71 yX4_forget, Cond.instanceMethod yX4_forget, Cond.selects RX4 yX4_forget yX4_forget, Cond.initialized RX4, Cond.code yX4_forget cX4_forget 1 none, Cond.fieldLink RX4 16 "OpenTricks$Solver" "kept" "LOpenTricks$Kept;", Cond.methodLink RX4 20 yX2_clear, Cond.instanceMethod yX2_clear, Cond.selects RX2 yX2_clear yX2_clear, Cond.initialized RX2, Cond.code yX2_clear cX2_clear 2 none, Cond.fieldLink RX2 9 "OpenTricks$Kept" "entries" "[I", Cond.methodLink RX5 74 yX1_open, Cond.instanceMethod yX1_open, Cond.selects RX1 yX1_open yX1_open]
def wsL_does_r4 : List Cond := [Cond.code yX1_open cX1_open 2 (some .int), Cond.fieldLink RX1 32 "OpenTricks$Game" "tricks" "I", Cond.fieldLink RX1 18 "OpenTricks$Game" "leaders" "[I", Cond.methodLink RL 49 yX5_play, Cond.instanceMethod yX5_play, Cond.selects RX5 yX5_play yX5_play, Cond.code yX5_play cX5_play 2 (some .int), Cond.methodLink RX5 80 yX5_needPlayable, Cond.instanceMethod yX5_needPlayable, Cond.selects RX5 yX5_needPlayable yX5_needPlayable, Cond.code yX5_needPlayable cX5_needPlayable 2 none, Cond.methodLink RX5 95 yX1_playable, Cond.instanceMethod yX1_playable, Cond.selects RX1 yX1_playable yX1_playable, Cond.code yX1_playable cX1_playable 3 (some .int), Cond.methodLink RX1 71 yX1_mover, Cond.instanceMethod yX1_mover, Cond.selects RX1 yX1_mover yX1_mover, Cond.code yX1_mover cX1_mover 1 (some .int), Cond.methodLink RX1 59 yX1_cardsLeft, Cond.instanceMethod yX1_cardsLeft, Cond.selects RX1 yX1_cardsLeft yX1_cardsLeft, Cond.code yX1_cardsLeft cX1_cardsLeft 1 (some .int), Cond.fieldLink RX1 35 "OpenTricks$Game" "laidCount" "I"]
def wsL_does_r5 : List Cond := [Cond.methodLink RX1 55 yX1_tricksOver, Cond.instanceMethod yX1_tricksOver, Cond.selects RX1 yX1_tricksOver yX1_tricksOver, Cond.code yX1_tricksOver cX1_tricksOver 1 (some .int), Cond.methodLink RX1 62 yX1_leaderOf, Cond.instanceMethod yX1_leaderOf, Cond.selects RX1 yX1_leaderOf yX1_leaderOf, Cond.code yX1_leaderOf cX1_leaderOf 2 (some .int), Cond.methodLink RX1 65 yX1_trickSize, Cond.instanceMethod yX1_trickSize, Cond.selects RX1 yX1_trickSize yX1_trickSize, Cond.code yX1_trickSize cX1_trickSize 1 (some .int), Cond.methodLink RX1 74 yX1_trickCard, Cond.instanceMethod yX1_trickCard, Cond.selects RX1 yX1_trickCard yX1_trickCard, Cond.code yX1_trickCard cX1_trickCard 2 (some .int), Cond.methodLink RX1 68 yX1_laidAt, Cond.instanceMethod yX1_laidAt, Cond.selects RX1 yX1_laidAt yX1_laidAt, Cond.code yX1_laidAt cX1_laidAt 2 (some .int), Cond.fieldLink RX1 15 "OpenTricks$Game" "laid" "[I", Cond.methodLink RX1 77 yX0_suitOf, Cond.static yX0_suitOf, Cond.code yX0_suitOf cX0_suitOf 1 (some .int)]
def wsL_does_r6 : List Cond := [Cond.methodLink RX1 80 yX0_suitSet, Cond.static yX0_suitSet, Cond.code yX0_suitSet cX0_suitSet 1 (some .int), Cond.methodLink RX5 98 yX0_holds, Cond.methodLink RX5 83 yX1_lay, Cond.instanceMethod yX1_lay, Cond.selects RX1 yX1_lay yX1_lay, Cond.code yX1_lay cX1_lay 2 (some .int), Cond.methodLink RX1 83 yX1_dropFrom, Cond.instanceMethod yX1_dropFrom, Cond.selects RX1 yX1_dropFrom yX1_dropFrom, Cond.code yX1_dropFrom cX1_dropFrom 3 none, Cond.methodLink RX1 86 yX1_endTrick, Cond.instanceMethod yX1_endTrick, Cond.selects RX1 yX1_endTrick yX1_endTrick, Cond.code yX1_endTrick cX1_endTrick 5 (some .int), Cond.methodLink RX1 89 yX1_beats, Cond.instanceMethod yX1_beats, Cond.selects RX1 yX1_beats yX1_beats, Cond.code yX1_beats cX1_beats 4 (some .boolean), Cond.fieldLink RX1 21 "OpenTricks$Game" "trump" "I", Cond.methodLink RL 52 yX5_takeBack, Cond.instanceMethod yX5_takeBack, Cond.selects RX5 yX5_takeBack yX5_takeBack]
def wsL_does_r7 : List Cond := [Cond.code yX5_takeBack cX5_takeBack 1 (some .int), Cond.methodLink RX5 86 yX1_laidCount, Cond.instanceMethod yX1_laidCount, Cond.selects RX1 yX1_laidCount yX1_laidCount, Cond.code yX1_laidCount cX1_laidCount 1 (some .int), Cond.methodLink RX5 92 yX1_lift, Cond.instanceMethod yX1_lift, Cond.selects RX1 yX1_lift yX1_lift, Cond.code yX1_lift cX1_lift 2 (some .int), Cond.methodLink RL 56 yX5_solve, Cond.instanceMethod yX5_solve, Cond.selects RX5 yX5_solve yX5_solve, Cond.code yX5_solve cX5_solve 1 (some .int), Cond.methodLink RX5 123 yX5_needStarted, Cond.instanceMethod yX5_needStarted, Cond.selects RX5 yX5_needStarted yX5_needStarted, Cond.code yX5_needStarted cX5_needStarted 1 none, Cond.methodLink RX5 77 yX1_isOpen, Cond.instanceMethod yX1_isOpen, Cond.selects RX1 yX1_isOpen yX1_isOpen, Cond.code yX1_isOpen cX1_isOpen 1 (some .boolean), Cond.methodLink RX5 126 yX4_mostOfSide0, Cond.instanceMethod yX4_mostOfSide0, Cond.selects RX4 yX4_mostOfSide0 yX4_mostOfSide0]
def wsL_does_r8 : List Cond := [Cond.code yX4_mostOfSide0 cX4_mostOfSide0 1 (some .int), Cond.fieldLink RX4 7 "OpenTricks$Solver" "game" "LOpenTricks$Game;", Cond.methodLink RX4 23 yX1_cardsLeft, Cond.methodLink RX4 29 yX1_tricksLeft, Cond.instanceMethod yX1_tricksLeft, Cond.selects RX1 yX1_tricksLeft yX1_tricksLeft, Cond.code yX1_tricksLeft cX1_tricksLeft 1 (some .int), Cond.methodLink RX4 32 yX4_search, Cond.instanceMethod yX4_search, Cond.selects RX4 yX4_search yX4_search, Cond.code yX4_search cX4_search 10 (some .int), Cond.methodLink RX4 85 Lib.Math.max.name, Cond.static Lib.Math.max.name, Cond.initialized "java/lang/Math", Cond.code Lib.Math.max.name Lib.Math.max.code 2 (some .int), Cond.methodLink RX4 90 Lib.Math.min.name, Cond.static Lib.Math.min.name, Cond.code Lib.Math.min.name Lib.Math.min.code 2 (some .int), Cond.methodLink RX4 70 yX1_trickSize, Cond.methodLink RX4 73 yX4_tryPlays, Cond.instanceMethod yX4_tryPlays, Cond.selects RX4 yX4_tryPlays yX4_tryPlays, Cond.methodLink RX4 76 yX1_betweenTricks, Cond.instanceMethod yX1_betweenTricks]
def wsL_does_r9 : List Cond := [Cond.selects RX1 yX1_betweenTricks yX1_betweenTricks, Cond.code yX1_betweenTricks cX1_betweenTricks 1 (some .int), Cond.methodLink RX1 96 yX1_inHands, Cond.instanceMethod yX1_inHands, Cond.selects RX1 yX1_inHands yX1_inHands, Cond.code yX1_inHands cX1_inHands 3 (some .int), Cond.methodLink RX4 79 yX2_leastAt, Cond.instanceMethod yX2_leastAt, Cond.selects RX2 yX2_leastAt yX2_leastAt, Cond.code yX2_leastAt cX2_leastAt 2 (some .int), Cond.methodLink RX2 13 yX2_entryOf, Cond.instanceMethod yX2_entryOf, Cond.selects RX2 yX2_entryOf yX2_entryOf, Cond.code yX2_entryOf cX2_entryOf 4 (some .int), Cond.methodLink RX2 17 yX2_slotOf, Cond.static yX2_slotOf, Cond.code yX2_slotOf cX2_slotOf 1 (some .int), Cond.constant RX2 20 (-1640531535), Cond.methodLink RX4 82 yX2_mostAt, Cond.instanceMethod yX2_mostAt, Cond.selects RX2 yX2_mostAt yX2_mostAt, Cond.code yX2_mostAt cX2_mostAt 4 (some .int), Cond.methodLink RX4 93 yX2_put, Cond.instanceMethod yX2_put]
def wsL_does_r10 : List Cond := [Cond.selects RX2 yX2_put yX2_put, Cond.code yX2_put cX2_put 5 none, Cond.code yX4_tryPlays cX4_tryPlays 13 (some .int), Cond.methodLink RX4 36 yX1_mover, Cond.methodLink RX4 39 yX0_sideOf, Cond.static yX0_sideOf, Cond.code yX0_sideOf cX0_sideOf 1 (some .int), Cond.methodLink RX4 54 yX1_playable, Cond.methodLink RX4 57 yX1_out, Cond.instanceMethod yX1_out, Cond.selects RX1 yX1_out yX1_out, Cond.code yX1_out cX1_out 1 (some .int), Cond.constant RX1 95 (16777215), Cond.methodLink RX1 99 yX1_inTrickSet, Cond.instanceMethod yX1_inTrickSet, Cond.selects RX1 yX1_inTrickSet yX1_inTrickSet, Cond.code yX1_inTrickSet cX1_inTrickSet 3 (some .int), Cond.methodLink RX4 60 yX0_lowestOfEquals, Cond.static yX0_lowestOfEquals, Cond.code yX0_lowestOfEquals cX0_lowestOfEquals 6 (some .int), Cond.methodLink RX0 25 yX0_lowest, Cond.static yX0_lowest, Cond.code yX0_lowest cX0_lowest 1 (some .int), Cond.methodLink RX0 9 yJ6_numberOfTrailingZeros_0f7a4]
def wsL_does_r11 : List Cond := [Cond.static yJ6_numberOfTrailingZeros_0f7a4, Cond.code yJ6_numberOfTrailingZeros_0f7a4 cJ6_numberOfTrailingZeros_0f7a4 2 (some .int), Cond.constant RJ6 264 (65536), Cond.methodLink RX0 28 yX0_equalBelow, Cond.static yX0_equalBelow, Cond.code yX0_equalBelow cX0_equalBelow 5 (some .int), Cond.methodLink RX0 18 yX0_suitOf, Cond.methodLink RX0 21 yX0_holds, Cond.methodLink RX4 97 yX0_highest, Cond.static yX0_highest, Cond.code yX0_highest cX0_highest 1 (some .int), Cond.methodLink RX0 15 yJ6_numberOfLeadingZeros_0f7a4, Cond.static yJ6_numberOfLeadingZeros_0f7a4, Cond.code yJ6_numberOfLeadingZeros_0f7a4 cJ6_numberOfLeadingZeros_0f7a4 2 (some .int), Cond.methodLink RX4 45 yX1_lay, Cond.methodLink RX4 48 yX4_gainOf, Cond.static yX4_gainOf, Cond.code yX4_gainOf cX4_gainOf 1 (some .int), Cond.methodLink RX4 51 yX1_lift, Cond.methodLink RL 59 yX5_solveByAll, Cond.instanceMethod yX5_solveByAll, Cond.selects RX5 yX5_solveByAll yX5_solveByAll, Cond.code yX5_solveByAll cX5_solveByAll 1 (some .int), Cond.methodLink RX5 129 yX1_cardsLeft]
def wsL_does_r12 : List Cond := [Cond.static yX4_byAllPlays, Cond.code yX4_byAllPlays cX4_byAllPlays 8 (some .int), Cond.methodLink RX4 64 yX0_lowest, Cond.methodLink RX4 100 yX4_byAllPlays, Cond.methodLink RL 62 yX5_value, Cond.instanceMethod yX5_value, Cond.selects RX5 yX5_value yX5_value, Cond.code yX5_value cX5_value 2 (some .int), Cond.methodLink RX5 138 yX4_worthOf, Cond.instanceMethod yX4_worthOf, Cond.selects RX4 yX4_worthOf yX4_worthOf, Cond.code yX4_worthOf cX4_worthOf 6 (some .int), Cond.methodLink RL 65 yX5_bestCard, Cond.instanceMethod yX5_bestCard, Cond.selects RX5 yX5_bestCard yX5_bestCard, Cond.code yX5_bestCard cX5_bestCard 1 (some .int), Cond.methodLink RX5 101 yX1_mover, Cond.methodLink RX5 143 yX4_bestPlay, Cond.instanceMethod yX4_bestPlay, Cond.selects RX4 yX4_bestPlay yX4_bestPlay, Cond.code yX4_bestPlay cX4_bestPlay 7 (some .int), Cond.methodLink RX4 67 yX4_worthOf, Cond.methodLink RL 68 yX5_lowestEqual, Cond.instanceMethod yX5_lowestEqual]
def wsL_does_r13 : List Cond := [Cond.selects RX5 yX5_lowestEqual yX5_lowestEqual, Cond.code yX5_lowestEqual cX5_lowestEqual 2 (some .int), Cond.fieldLink RX5 28 "OpenTricks" "look" "LOpenTricks$Look;", Cond.methodLink RX5 146 yX5_needInHand, Cond.instanceMethod yX5_needInHand, Cond.selects RX5 yX5_needInHand yX5_needInHand, Cond.code yX5_needInHand cX5_needInHand 2 none, Cond.methodLink RX5 163 yX1_ownerOf, Cond.instanceMethod yX1_ownerOf, Cond.selects RX1 yX1_ownerOf yX1_ownerOf, Cond.code yX1_ownerOf cX1_ownerOf 3 (some .int), Cond.methodLink RX5 149 yX3_lowestLike, Cond.instanceMethod yX3_lowestLike, Cond.selects RX3 yX3_lowestLike yX3_lowestLike, Cond.initialized RX3, Cond.code yX3_lowestLike cX3_lowestLike 7 (some .int), Cond.fieldLink RX3 7 "OpenTricks$Look" "game" "LOpenTricks$Game;", Cond.methodLink RX3 13 yX1_ownerOf, Cond.methodLink RX3 19 yX1_handOf, Cond.methodLink RX3 22 yX1_out, Cond.methodLink RX3 28 yX0_equalBelow, Cond.methodLink RL 71 yX5_isTop, Cond.instanceMethod yX5_isTop, Cond.selects RX5 yX5_isTop yX5_isTop]
def wsL_does_r14 : List Cond := [Cond.code yX5_isTop cX5_isTop 2 (some .boolean), Cond.methodLink RX5 166 yX3_isHighest, Cond.instanceMethod yX3_isHighest, Cond.selects RX3 yX3_isHighest yX3_isHighest, Cond.code yX3_isHighest cX3_isHighest 4 (some .boolean), Cond.methodLink RX3 32 yX1_inHands, Cond.methodLink RX3 35 yX1_inTrickSet, Cond.methodLink RX3 38 yX0_suitOf, Cond.methodLink RX3 41 yX0_suitSet, Cond.methodLink RX3 44 yX0_highest]
def wsL_does : List Cond := .codeWith yL_does cL_does 5 (some .int) [(0, 129, 130, 75)] :: ((wsL_does_r1 ++ (wsL_does_r2 ++ (wsL_does_r3 ++ (wsL_does_r4 ++ (wsL_does_r5 ++ (wsL_does_r6 ++ (wsL_does_r7 ++ (wsL_does_r8 ++ (wsL_does_r9 ++ (wsL_does_r10 ++ (wsL_does_r11 ++ (wsL_does_r12 ++ (wsL_does_r13 ++ wsL_does_r14))))))))))))) ++ wsX50 ++ wsX10 ++ wsX40 ++ wsX20 ++ wsX30 ++ (vx_atS RX5 60 "java/lang/IllegalStateException" ["java/lang/RuntimeException", "java/lang/Exception"]).filter goodWord ++ (vx_atS RX5 38 "java/lang/IllegalArgumentException" ["java/lang/RuntimeException", "java/lang/Exception"]).filter goodWord)
def wsL_isGame_r1 : List Cond := [Cond.methodLink RL 7 yL_leader, Cond.static yL_leader, Cond.initialized RL, Cond.code yL_leader cL_leader 9 (some .int), Cond.methodLink RL 77 yX5_isStarted, Cond.instanceMethod yX5_isStarted, Cond.selects RX5 yX5_isStarted yX5_isStarted, Cond.initialized RX5, Cond.code yX5_isStarted cX5_isStarted 1 (some .boolean), Cond.fieldLink RX5 10 "OpenTricks" "game" "LOpenTricks$Game;", Cond.methodLink RX5 77 yX1_isOpen, Cond.instanceMethod yX1_isOpen, Cond.selects RX1 yX1_isOpen yX1_isOpen, Cond.initialized RX1, Cond.code yX1_isOpen cX1_isOpen 1 (some .boolean), Cond.fieldLink RX1 28 "OpenTricks$Game" "open" "Z", Cond.methodLink RL 81 yX5_turn, Cond.instanceMethod yX5_turn, Cond.selects RX5 yX5_turn yX5_turn, Cond.code yX5_turn cX5_turn 1 (some .int), Cond.methodLink RX5 101 yX1_mover, Cond.instanceMethod yX1_mover, Cond.selects RX1 yX1_mover yX1_mover, Cond.code yX1_mover cX1_mover 1 (some .int)]
def wsL_isGame_r2 : List Cond := [Cond.methodLink RX1 59 yX1_cardsLeft, Cond.instanceMethod yX1_cardsLeft, Cond.selects RX1 yX1_cardsLeft yX1_cardsLeft, Cond.code yX1_cardsLeft cX1_cardsLeft 1 (some .int), Cond.fieldLink RX1 32 "OpenTricks$Game" "tricks" "I", Cond.fieldLink RX1 35 "OpenTricks$Game" "laidCount" "I", Cond.methodLink RX1 55 yX1_tricksOver, Cond.instanceMethod yX1_tricksOver, Cond.selects RX1 yX1_tricksOver yX1_tricksOver, Cond.code yX1_tricksOver cX1_tricksOver 1 (some .int), Cond.methodLink RX1 62 yX1_leaderOf, Cond.instanceMethod yX1_leaderOf, Cond.selects RX1 yX1_leaderOf yX1_leaderOf, Cond.code yX1_leaderOf cX1_leaderOf 2 (some .int), Cond.fieldLink RX1 18 "OpenTricks$Game" "leaders" "[I", Cond.methodLink RX1 65 yX1_trickSize, Cond.instanceMethod yX1_trickSize, Cond.selects RX1 yX1_trickSize yX1_trickSize, Cond.code yX1_trickSize cX1_trickSize 1 (some .int), Cond.methodLink RL 84 yX5_inTrick, Cond.instanceMethod yX5_inTrick, Cond.selects RX5 yX5_inTrick yX5_inTrick, Cond.code yX5_inTrick cX5_inTrick 1 (some .int), Cond.methodLink RX5 107 yX1_trickSize]
def wsL_isGame_r3 : List Cond := [Cond.methodLink RL 87 yX5_won, Cond.instanceMethod yX5_won, Cond.selects RX5 yX5_won yX5_won, Cond.code yX5_won cX5_won 2 (some .int), Cond.classLink RX5 34 "java/lang/IllegalArgumentException", Cond.initialized "java/lang/IllegalArgumentException", Cond.methodLink RX5 120 yX1_tricksOf, Cond.instanceMethod yX1_tricksOf, Cond.selects RX1 yX1_tricksOf yX1_tricksOf, Cond.code yX1_tricksOf cX1_tricksOf 4 (some .int), Cond.methodLink RX1 92 yX0_sideOf, Cond.static yX0_sideOf, Cond.initialized RX0, Cond.code yX0_sideOf cX0_sideOf 1 (some .int), Cond.methodLink RL 25 yL_tricks, Cond.static yL_tricks, Cond.code yL_tricks cL_tricks 6 (some .int), Cond.methodLink RL 90 yX5_cardIn, Cond.instanceMethod yX5_cardIn, Cond.selects RX5 yX5_cardIn yX5_cardIn, Cond.code yX5_cardIn cX5_cardIn 2 (some .int), Cond.classLink RX5 110 "java/lang/IndexOutOfBoundsException", Cond.initialized "java/lang/IndexOutOfBoundsException", Cond.methodLink RX5 115 yX1_trickCard]
def wsL_isGame_r4 : List Cond := [Cond.instanceMethod yX1_trickCard, Cond.selects RX1 yX1_trickCard yX1_trickCard, Cond.code yX1_trickCard cX1_trickCard 2 (some .int), Cond.methodLink RX1 68 yX1_laidAt, Cond.instanceMethod yX1_laidAt, Cond.selects RX1 yX1_laidAt yX1_laidAt, Cond.code yX1_laidAt cX1_laidAt 2 (some .int), Cond.fieldLink RX1 15 "OpenTricks$Game" "laid" "[I", Cond.methodLink RL 13 yL_has, Cond.static yL_has, Cond.code yL_has cL_has 2 (some .boolean), Cond.methodLink RL 93 yL_lowest, Cond.static yL_lowest, Cond.code yL_lowest cL_lowest 6 (some .int), Cond.methodLink RL 29 yL_holder, Cond.static yL_holder, Cond.code yL_holder cL_holder 2 (some .int), Cond.methodLink RL 37 yL_areEqual, Cond.static yL_areEqual, Cond.code yL_areEqual cL_areEqual 7 (some .boolean), Cond.methodLink RL 33 yL_isOnTable, Cond.static yL_isOnTable, Cond.code yL_isOnTable cL_isOnTable 5 (some .boolean), Cond.methodLink RL 97 yL_isTop]
def wsL_isGame_r5 : List Cond := [Cond.static yL_isTop, Cond.code yL_isTop cL_isTop 6 (some .boolean), Cond.methodLink RL 100 yX5_hand, Cond.instanceMethod yX5_hand, Cond.selects RX5 yX5_hand yX5_hand, Cond.code yX5_hand cX5_hand 2 (some .int), Cond.methodLink RX5 45 yX5_needPlayer, Cond.static yX5_needPlayer, Cond.code yX5_needPlayer cX5_needPlayer 1 none, Cond.methodLink RX5 104 yX1_handOf, Cond.instanceMethod yX1_handOf, Cond.selects RX1 yX1_handOf yX1_handOf, Cond.code yX1_handOf cX1_handOf 2 (some .int), Cond.fieldLink RX1 9 "OpenTricks$Game" "hands" "[I", Cond.methodLink RL 103 yX5_unlike, Cond.instanceMethod yX5_unlike, Cond.selects RX5 yX5_unlike yX5_unlike, Cond.code yX5_unlike cX5_unlike 2 (some .int), Cond.methodLink RX5 152 yX1_out, Cond.instanceMethod yX1_out, Cond.selects RX1 yX1_out yX1_out, Cond.code yX1_out cX1_out 1 (some .int), Cond.constant RX1 95 (16777215), Cond.methodLink RX1 96 yX1_inHands]
def wsL_isGame_r6 : List Cond := [Cond.instanceMethod yX1_inHands, Cond.selects RX1 yX1_inHands yX1_inHands, Cond.code yX1_inHands cX1_inHands 3 (some .int), Cond.methodLink RX1 99 yX1_inTrickSet, Cond.instanceMethod yX1_inTrickSet, Cond.selects RX1 yX1_inTrickSet yX1_inTrickSet, Cond.code yX1_inTrickSet cX1_inTrickSet 3 (some .int), Cond.methodLink RX5 155 yX0_lowestOfEquals, Cond.static yX0_lowestOfEquals, Cond.code yX0_lowestOfEquals cX0_lowestOfEquals 6 (some .int), Cond.methodLink RX0 25 yX0_lowest, Cond.static yX0_lowest, Cond.code yX0_lowest cX0_lowest 1 (some .int), Cond.methodLink RX0 9 yJ6_numberOfTrailingZeros_0f7a4, Cond.static yJ6_numberOfTrailingZeros_0f7a4, Cond.initialized RJ6, Cond.code yJ6_numberOfTrailingZeros_0f7a4 cJ6_numberOfTrailingZeros_0f7a4 2 (some .int), Cond.constant RJ6 264 (65536), Cond.methodLink RX0 28 yX0_equalBelow, Cond.static yX0_equalBelow, Cond.code yX0_equalBelow cX0_equalBelow 5 (some .int), Cond.methodLink RX0 18 yX0_suitOf, Cond.static yX0_suitOf, Cond.code yX0_suitOf cX0_suitOf 1 (some .int)]
def wsL_isGame_r7 : List Cond := [Cond.methodLink RX0 21 yX0_holds, Cond.static yX0_holds, Cond.code yX0_holds cX0_holds 2 (some .boolean), Cond.methodLink RX5 158 yJ6_bitCount_0f7a4, Cond.static yJ6_bitCount_0f7a4, Cond.code yJ6_bitCount_0f7a4 cJ6_bitCount_0f7a4 1 (some .int), Cond.constant RJ6 265 (1431655765), Cond.constant RJ6 266 (858993459), Cond.constant RJ6 267 (252645135), Cond.methodLink RL 106 yX5_quick, Cond.instanceMethod yX5_quick, Cond.selects RX5 yX5_quick yX5_quick, Cond.code yX5_quick cX5_quick 2 (some .int), Cond.fieldLink RX5 28 "OpenTricks" "look" "LOpenTricks$Look;", Cond.methodLink RX5 169 yX3_quickTricks, Cond.instanceMethod yX3_quickTricks, Cond.selects RX3 yX3_quickTricks yX3_quickTricks, Cond.initialized RX3, Cond.code yX3_quickTricks cX3_quickTricks 5 (some .int), Cond.fieldLink RX3 7 "OpenTricks$Look" "game" "LOpenTricks$Game;", Cond.methodLink RX3 19 yX1_handOf, Cond.methodLink RX3 47 yX0_holds, Cond.methodLink RX3 51 yX3_isHighest, Cond.instanceMethod yX3_isHighest]
def wsL_isGame_r8 : List Cond := [Cond.selects RX3 yX3_isHighest yX3_isHighest, Cond.code yX3_isHighest cX3_isHighest 4 (some .boolean), Cond.methodLink RX3 32 yX1_inHands, Cond.methodLink RX3 35 yX1_inTrickSet, Cond.methodLink RX3 38 yX0_suitOf, Cond.methodLink RX3 41 yX0_suitSet, Cond.static yX0_suitSet, Cond.code yX0_suitSet cX0_suitSet 1 (some .int), Cond.methodLink RX3 44 yX0_highest, Cond.static yX0_highest, Cond.code yX0_highest cX0_highest 1 (some .int), Cond.methodLink RX0 15 yJ6_numberOfLeadingZeros_0f7a4, Cond.static yJ6_numberOfLeadingZeros_0f7a4, Cond.code yJ6_numberOfLeadingZeros_0f7a4 cJ6_numberOfLeadingZeros_0f7a4 2 (some .int), Cond.methodLink RL 109 yL_fork, Cond.static yL_fork, Cond.code yL_fork cL_fork 7 (some .int), Cond.arrayClass .int, Cond.methodLink RL 113 yX5_fork, Cond.instanceMethod yX5_fork, Cond.selects RX5 yX5_fork yX5_fork, Cond.code yX5_fork cX5_fork 3 (some .int), Cond.methodLink RX5 174 yX3_forkKind, Cond.instanceMethod yX3_forkKind]
def wsL_isGame_r9 : List Cond := [Cond.selects RX3 yX3_forkKind yX3_forkKind, Cond.code yX3_forkKind cX3_forkKind 8 (some .int), Cond.methodLink RX3 54 yJ6_bitCount_0f7a4, Cond.methodLink RX3 13 yX1_ownerOf, Cond.instanceMethod yX1_ownerOf, Cond.selects RX1 yX1_ownerOf yX1_ownerOf, Cond.code yX1_ownerOf cX1_ownerOf 3 (some .int), Cond.methodLink RX1 38 yX0_holds, Cond.methodLink RX3 59 yX0_sideOf, Cond.methodLink RL 115 yX5_canPlay, Cond.instanceMethod yX5_canPlay, Cond.selects RX5 yX5_canPlay yX5_canPlay, Cond.code yX5_canPlay cX5_canPlay 2 (some .boolean), Cond.methodLink RX5 49 yX5_needCard, Cond.static yX5_needCard, Cond.code yX5_needCard cX5_needCard 1 none, Cond.methodLink RX5 95 yX1_playable, Cond.instanceMethod yX1_playable, Cond.selects RX1 yX1_playable yX1_playable, Cond.code yX1_playable cX1_playable 3 (some .int), Cond.methodLink RX1 71 yX1_mover, Cond.methodLink RX1 42 yX1_handOf, Cond.methodLink RX1 74 yX1_trickCard, Cond.methodLink RX1 77 yX0_suitOf]
def wsL_isGame_r10 : List Cond := [Cond.methodLink RX1 80 yX0_suitSet, Cond.methodLink RX5 98 yX0_holds, Cond.methodLink RL 21 yL_can, Cond.static yL_can, Cond.code yL_can cL_can 7 (some .boolean), Cond.methodLink RL 118 yL_does, Cond.static yL_does, Cond.codeWith yL_does cL_does 5 (some .int) [(0, 129, 130, 75)], Cond.classLink RL 75 "java/lang/IllegalStateException", Cond.methodLink RL 40 yX5_give, Cond.instanceMethod yX5_give, Cond.selects RX5 yX5_give yX5_give, Cond.code yX5_give cX5_give 3 (some .int), Cond.classLink RX5 56 "java/lang/IllegalStateException", Cond.initialized "java/lang/IllegalStateException", Cond.methodLink RX5 52 yX1_canDeal, Cond.instanceMethod yX1_canDeal, Cond.selects RX1 yX1_canDeal yX1_canDeal, Cond.code yX1_canDeal cX1_canDeal 3 (some .boolean), Cond.fieldLink RX1 25 "OpenTricks$Game" "given" "I", Cond.methodLink RX1 46 yJ6_bitCount_0f7a4, Cond.methodLink RX5 61 yX1_deal, Cond.instanceMethod yX1_deal, Cond.selects RX1 yX1_deal yX1_deal]
def wsL_isGame_r11 : List Cond := [Cond.code yX1_deal cX1_deal 3 (some .int), Cond.methodLink RX1 51 yX1_addTo, Cond.instanceMethod yX1_addTo, Cond.selects RX1 yX1_addTo yX1_addTo, Cond.code yX1_addTo cX1_addTo 3 none, Cond.methodLink RL 46 yX5_start, Cond.instanceMethod yX5_start, Cond.selects RX5 yX5_start yX5_start, Cond.code yX5_start cX5_start 2 (some .int), Cond.fieldLink RX5 21 "OpenTricks" "solver" "LOpenTricks$Solver;", Cond.methodLink RX5 65 yX1_canOpen, Cond.instanceMethod yX1_canOpen, Cond.selects RX1 yX1_canOpen yX1_canOpen, Cond.code yX1_canOpen cX1_canOpen 3 (some .boolean), Cond.methodLink RX5 71 yX4_forget, Cond.instanceMethod yX4_forget, Cond.selects RX4 yX4_forget yX4_forget, Cond.initialized RX4, Cond.code yX4_forget cX4_forget 1 none, Cond.fieldLink RX4 16 "OpenTricks$Solver" "kept" "LOpenTricks$Kept;", Cond.methodLink RX4 20 yX2_clear, Cond.instanceMethod yX2_clear, Cond.selects RX2 yX2_clear yX2_clear, Cond.initialized RX2]
def wsL_isGame_r12 : List Cond := [Cond.code yX2_clear cX2_clear 2 none, Cond.fieldLink RX2 9 "OpenTricks$Kept" "entries" "[I", Cond.methodLink RX5 74 yX1_open, Cond.instanceMethod yX1_open, Cond.selects RX1 yX1_open yX1_open, Cond.code yX1_open cX1_open 2 (some .int), Cond.methodLink RL 49 yX5_play, Cond.instanceMethod yX5_play, Cond.selects RX5 yX5_play yX5_play, Cond.code yX5_play cX5_play 2 (some .int), Cond.methodLink RX5 80 yX5_needPlayable, Cond.instanceMethod yX5_needPlayable, Cond.selects RX5 yX5_needPlayable yX5_needPlayable, Cond.code yX5_needPlayable cX5_needPlayable 2 none, Cond.methodLink RX5 83 yX1_lay, Cond.instanceMethod yX1_lay, Cond.selects RX1 yX1_lay yX1_lay, Cond.code yX1_lay cX1_lay 2 (some .int), Cond.methodLink RX1 83 yX1_dropFrom, Cond.instanceMethod yX1_dropFrom, Cond.selects RX1 yX1_dropFrom yX1_dropFrom, Cond.code yX1_dropFrom cX1_dropFrom 3 none, Cond.methodLink RX1 86 yX1_endTrick, Cond.instanceMethod yX1_endTrick]
def wsL_isGame_r13 : List Cond := [Cond.selects RX1 yX1_endTrick yX1_endTrick, Cond.code yX1_endTrick cX1_endTrick 5 (some .int), Cond.methodLink RX1 89 yX1_beats, Cond.instanceMethod yX1_beats, Cond.selects RX1 yX1_beats yX1_beats, Cond.code yX1_beats cX1_beats 4 (some .boolean), Cond.fieldLink RX1 21 "OpenTricks$Game" "trump" "I", Cond.methodLink RL 52 yX5_takeBack, Cond.instanceMethod yX5_takeBack, Cond.selects RX5 yX5_takeBack yX5_takeBack, Cond.code yX5_takeBack cX5_takeBack 1 (some .int), Cond.methodLink RX5 86 yX1_laidCount, Cond.instanceMethod yX1_laidCount, Cond.selects RX1 yX1_laidCount yX1_laidCount, Cond.code yX1_laidCount cX1_laidCount 1 (some .int), Cond.methodLink RX5 92 yX1_lift, Cond.instanceMethod yX1_lift, Cond.selects RX1 yX1_lift yX1_lift, Cond.code yX1_lift cX1_lift 2 (some .int), Cond.methodLink RL 56 yX5_solve, Cond.instanceMethod yX5_solve, Cond.selects RX5 yX5_solve yX5_solve, Cond.code yX5_solve cX5_solve 1 (some .int), Cond.methodLink RX5 123 yX5_needStarted]
def wsL_isGame_r14 : List Cond := [Cond.instanceMethod yX5_needStarted, Cond.selects RX5 yX5_needStarted yX5_needStarted, Cond.code yX5_needStarted cX5_needStarted 1 none, Cond.methodLink RX5 126 yX4_mostOfSide0, Cond.instanceMethod yX4_mostOfSide0, Cond.selects RX4 yX4_mostOfSide0 yX4_mostOfSide0, Cond.code yX4_mostOfSide0 cX4_mostOfSide0 1 (some .int), Cond.fieldLink RX4 7 "OpenTricks$Solver" "game" "LOpenTricks$Game;", Cond.methodLink RX4 23 yX1_cardsLeft, Cond.methodLink RX4 29 yX1_tricksLeft, Cond.instanceMethod yX1_tricksLeft, Cond.selects RX1 yX1_tricksLeft yX1_tricksLeft, Cond.code yX1_tricksLeft cX1_tricksLeft 1 (some .int), Cond.methodLink RX4 32 yX4_search, Cond.instanceMethod yX4_search, Cond.selects RX4 yX4_search yX4_search, Cond.code yX4_search cX4_search 10 (some .int), Cond.methodLink RX4 85 Lib.Math.max.name, Cond.static Lib.Math.max.name, Cond.initialized "java/lang/Math", Cond.code Lib.Math.max.name Lib.Math.max.code 2 (some .int), Cond.methodLink RX4 90 Lib.Math.min.name, Cond.static Lib.Math.min.name, Cond.code Lib.Math.min.name Lib.Math.min.code 2 (some .int)]
def wsL_isGame_r15 : List Cond := [Cond.methodLink RX4 70 yX1_trickSize, Cond.methodLink RX4 73 yX4_tryPlays, Cond.instanceMethod yX4_tryPlays, Cond.selects RX4 yX4_tryPlays yX4_tryPlays, Cond.methodLink RX4 76 yX1_betweenTricks, Cond.instanceMethod yX1_betweenTricks, Cond.selects RX1 yX1_betweenTricks yX1_betweenTricks, Cond.code yX1_betweenTricks cX1_betweenTricks 1 (some .int), Cond.methodLink RX4 79 yX2_leastAt, Cond.instanceMethod yX2_leastAt, Cond.selects RX2 yX2_leastAt yX2_leastAt, Cond.code yX2_leastAt cX2_leastAt 2 (some .int), Cond.methodLink RX2 13 yX2_entryOf, Cond.instanceMethod yX2_entryOf, Cond.selects RX2 yX2_entryOf yX2_entryOf, Cond.code yX2_entryOf cX2_entryOf 4 (some .int), Cond.methodLink RX2 17 yX2_slotOf, Cond.static yX2_slotOf, Cond.code yX2_slotOf cX2_slotOf 1 (some .int), Cond.constant RX2 20 (-1640531535), Cond.methodLink RX4 82 yX2_mostAt, Cond.instanceMethod yX2_mostAt, Cond.selects RX2 yX2_mostAt yX2_mostAt, Cond.code yX2_mostAt cX2_mostAt 4 (some .int)]
def wsL_isGame_r16 : List Cond := [Cond.methodLink RX4 93 yX2_put, Cond.instanceMethod yX2_put, Cond.selects RX2 yX2_put yX2_put, Cond.code yX2_put cX2_put 5 none, Cond.code yX4_tryPlays cX4_tryPlays 13 (some .int), Cond.methodLink RX4 36 yX1_mover, Cond.methodLink RX4 39 yX0_sideOf, Cond.methodLink RX4 54 yX1_playable, Cond.methodLink RX4 57 yX1_out, Cond.methodLink RX4 60 yX0_lowestOfEquals, Cond.methodLink RX4 97 yX0_highest, Cond.methodLink RX4 45 yX1_lay, Cond.methodLink RX4 48 yX4_gainOf, Cond.static yX4_gainOf, Cond.code yX4_gainOf cX4_gainOf 1 (some .int), Cond.methodLink RX4 51 yX1_lift, Cond.methodLink RL 59 yX5_solveByAll, Cond.instanceMethod yX5_solveByAll, Cond.selects RX5 yX5_solveByAll yX5_solveByAll, Cond.code yX5_solveByAll cX5_solveByAll 1 (some .int), Cond.methodLink RX5 129 yX1_cardsLeft, Cond.static yX4_byAllPlays, Cond.code yX4_byAllPlays cX4_byAllPlays 8 (some .int), Cond.methodLink RX4 64 yX0_lowest]
def wsL_isGame_r17 : List Cond := [Cond.methodLink RX4 100 yX4_byAllPlays, Cond.methodLink RL 62 yX5_value, Cond.instanceMethod yX5_value, Cond.selects RX5 yX5_value yX5_value, Cond.code yX5_value cX5_value 2 (some .int), Cond.methodLink RX5 138 yX4_worthOf, Cond.instanceMethod yX4_worthOf, Cond.selects RX4 yX4_worthOf yX4_worthOf, Cond.code yX4_worthOf cX4_worthOf 6 (some .int), Cond.methodLink RL 65 yX5_bestCard, Cond.instanceMethod yX5_bestCard, Cond.selects RX5 yX5_bestCard yX5_bestCard, Cond.code yX5_bestCard cX5_bestCard 1 (some .int), Cond.methodLink RX5 143 yX4_bestPlay, Cond.instanceMethod yX4_bestPlay, Cond.selects RX4 yX4_bestPlay yX4_bestPlay, Cond.code yX4_bestPlay cX4_bestPlay 7 (some .int), Cond.methodLink RX4 67 yX4_worthOf, Cond.methodLink RL 68 yX5_lowestEqual, Cond.instanceMethod yX5_lowestEqual, Cond.selects RX5 yX5_lowestEqual yX5_lowestEqual, Cond.code yX5_lowestEqual cX5_lowestEqual 2 (some .int), Cond.methodLink RX5 146 yX5_needInHand, Cond.instanceMethod yX5_needInHand]
def wsL_isGame_r18 : List Cond := [Cond.selects RX5 yX5_needInHand yX5_needInHand, Cond.code yX5_needInHand cX5_needInHand 2 none, Cond.methodLink RX5 163 yX1_ownerOf, Cond.methodLink RX5 149 yX3_lowestLike, Cond.instanceMethod yX3_lowestLike, Cond.selects RX3 yX3_lowestLike yX3_lowestLike, Cond.code yX3_lowestLike cX3_lowestLike 7 (some .int), Cond.methodLink RX3 22 yX1_out, Cond.methodLink RX3 28 yX0_equalBelow, Cond.methodLink RL 71 yX5_isTop, Cond.instanceMethod yX5_isTop, Cond.selects RX5 yX5_isTop yX5_isTop, Cond.code yX5_isTop cX5_isTop 2 (some .boolean), Cond.methodLink RX5 166 yX3_isHighest, Cond.methodLink RL 122 yX5_goodForks, Cond.instanceMethod yX5_goodForks, Cond.selects RX5 yX5_goodForks yX5_goodForks, Cond.code yX5_goodForks cX5_goodForks 1 (some .int), Cond.methodLink RX5 177 yX3_goodForksOf, Cond.instanceMethod yX3_goodForksOf, Cond.selects RX3 yX3_goodForksOf yX3_goodForksOf, Cond.code yX3_goodForksOf cX3_goodForksOf 5 (some .int), Cond.methodLink RX3 62 yX3_forkKind]
def wsL_isGame : List Cond := .code yL_isGame cL_isGame 14 (some .boolean) :: ((wsL_isGame_r1 ++ (wsL_isGame_r2 ++ (wsL_isGame_r3 ++ (wsL_isGame_r4 ++ (wsL_isGame_r5 ++ (wsL_isGame_r6 ++ (wsL_isGame_r7 ++ (wsL_isGame_r8 ++ (wsL_isGame_r9 ++ (wsL_isGame_r10 ++ (wsL_isGame_r11 ++ (wsL_isGame_r12 ++ (wsL_isGame_r13 ++ (wsL_isGame_r14 ++ (wsL_isGame_r15 ++ (wsL_isGame_r16 ++ (wsL_isGame_r17 ++ wsL_isGame_r18))))))))))))))))) ++ wsX50 ++ wsX10 ++ wsX30 ++ wsX40 ++ wsX20 ++ (vx_atS RX5 38 "java/lang/IllegalArgumentException" ["java/lang/RuntimeException", "java/lang/Exception"]).filter goodWord ++ (vx_atS RX5 114 "java/lang/IndexOutOfBoundsException" ["java/lang/RuntimeException", "java/lang/Exception"]).filter goodWord ++ (vx_atS RX5 60 "java/lang/IllegalStateException" ["java/lang/RuntimeException", "java/lang/Exception"]).filter goodWord)
def wsL_isSolved_r1 : List Cond := [Cond.methodLink RL 118 yL_does, Cond.static yL_does, Cond.initialized RL, Cond.codeWith yL_does cL_does 5 (some .int) [(0, 129, 130, 75)], Cond.classLink RL 75 "java/lang/IllegalStateException", Cond.methodLink RL 40 yX5_give, Cond.instanceMethod yX5_give, Cond.selects RX5 yX5_give yX5_give, Cond.initialized RX5, Cond.code yX5_give cX5_give 3 (some .int), Cond.classLink RX5 56 "java/lang/IllegalStateException", Cond.initialized "java/lang/IllegalStateException", Cond.fieldLink RX5 10 "OpenTricks" "game" "LOpenTricks$Game;", Cond.methodLink RX5 45 yX5_needPlayer, Cond.static yX5_needPlayer, Cond.code yX5_needPlayer cX5_needPlayer 1 none, Cond.classLink RX5 34 "java/lang/IllegalArgumentException", Cond.initialized "java/lang/IllegalArgumentException", Cond.methodLink RX5 49 yX5_needCard, Cond.static yX5_needCard, Cond.code yX5_needCard cX5_needCard 1 none, Cond.methodLink RX5 52 yX1_canDeal, Cond.instanceMethod yX1_canDeal, Cond.selects RX1 yX1_canDeal yX1_canDeal]
def wsL_isSolved_r2 : List Cond := [Cond.initialized RX1, Cond.code yX1_canDeal cX1_canDeal 3 (some .boolean), Cond.fieldLink RX1 28 "OpenTricks$Game" "open" "Z", Cond.fieldLink RX1 25 "OpenTricks$Game" "given" "I", Cond.methodLink RX1 38 yX0_holds, Cond.static yX0_holds, Cond.initialized RX0, Cond.code yX0_holds cX0_holds 2 (some .boolean), Cond.methodLink RX1 42 yX1_handOf, Cond.instanceMethod yX1_handOf, Cond.selects RX1 yX1_handOf yX1_handOf, Cond.code yX1_handOf cX1_handOf 2 (some .int), Cond.fieldLink RX1 9 "OpenTricks$Game" "hands" "[I", Cond.methodLink RX1 46 yJ6_bitCount_0f7a4, Cond.static yJ6_bitCount_0f7a4, Cond.initialized RJ6, Cond.code yJ6_bitCount_0f7a4 cJ6_bitCount_0f7a4 1 (some .int), Cond.constant RJ6 265 (1431655765), Cond.constant RJ6 266 (858993459), Cond.constant RJ6 267 (252645135), Cond.methodLink RX5 61 yX1_deal, Cond.instanceMethod yX1_deal, Cond.selects RX1 yX1_deal yX1_deal, Cond.code yX1_deal cX1_deal 3 (some .int)]
def wsL_isSolved_r3 : List Cond := [Cond.methodLink RX1 51 yX1_addTo, Cond.instanceMethod yX1_addTo, Cond.selects RX1 yX1_addTo yX1_addTo, Cond.code yX1_addTo cX1_addTo 3 none, Cond.methodLink RL 46 yX5_start, Cond.instanceMethod yX5_start, Cond.selects RX5 yX5_start yX5_start, Cond.code yX5_start cX5_start 2 (some .int), Cond.fieldLink RX5 21 "OpenTricks" "solver" "LOpenTricks$Solver;", Cond.methodLink RX5 65 yX1_canOpen, Cond.instanceMethod yX1_canOpen, Cond.selects RX1 yX1_canOpen yX1_canOpen, Cond.code yX1_canOpen cX1_canOpen 3 (some .boolean), Cond.methodLink RX5 71 yX4_forget, Cond.instanceMethod yX4_forget, Cond.selects RX4 yX4_forget yX4_forget, Cond.initialized RX4, Cond.code yX4_forget cX4_forget 1 none, Cond.fieldLink RX4 16 "OpenTricks$Solver" "kept" "LOpenTricks$Kept;", Cond.methodLink RX4 20 yX2_clear, Cond.instanceMethod yX2_clear, Cond.selects RX2 yX2_clear yX2_clear, Cond.initialized RX2, Cond.code yX2_clear cX2_clear 2 none]
def wsL_isSolved_r4 : List Cond := [Cond.fieldLink RX2 9 "OpenTricks$Kept" "entries" "[I", Cond.methodLink RX5 74 yX1_open, Cond.instanceMethod yX1_open, Cond.selects RX1 yX1_open yX1_open, Cond.code yX1_open cX1_open 2 (some .int), Cond.fieldLink RX1 32 "OpenTricks$Game" "tricks" "I", Cond.fieldLink RX1 18 "OpenTricks$Game" "leaders" "[I", Cond.methodLink RL 49 yX5_play, Cond.instanceMethod yX5_play, Cond.selects RX5 yX5_play yX5_play, Cond.code yX5_play cX5_play 2 (some .int), Cond.methodLink RX5 80 yX5_needPlayable, Cond.instanceMethod yX5_needPlayable, Cond.selects RX5 yX5_needPlayable yX5_needPlayable, Cond.code yX5_needPlayable cX5_needPlayable 2 none, Cond.methodLink RX5 95 yX1_playable, Cond.instanceMethod yX1_playable, Cond.selects RX1 yX1_playable yX1_playable, Cond.code yX1_playable cX1_playable 3 (some .int), Cond.methodLink RX1 71 yX1_mover, Cond.instanceMethod yX1_mover, Cond.selects RX1 yX1_mover yX1_mover, Cond.code yX1_mover cX1_mover 1 (some .int), Cond.methodLink RX1 59 yX1_cardsLeft]
def wsL_isSolved_r5 : List Cond := [Cond.instanceMethod yX1_cardsLeft, Cond.selects RX1 yX1_cardsLeft yX1_cardsLeft, Cond.code yX1_cardsLeft cX1_cardsLeft 1 (some .int), Cond.fieldLink RX1 35 "OpenTricks$Game" "laidCount" "I", Cond.methodLink RX1 55 yX1_tricksOver, Cond.instanceMethod yX1_tricksOver, Cond.selects RX1 yX1_tricksOver yX1_tricksOver, Cond.code yX1_tricksOver cX1_tricksOver 1 (some .int), Cond.methodLink RX1 62 yX1_leaderOf, Cond.instanceMethod yX1_leaderOf, Cond.selects RX1 yX1_leaderOf yX1_leaderOf, Cond.code yX1_leaderOf cX1_leaderOf 2 (some .int), Cond.methodLink RX1 65 yX1_trickSize, Cond.instanceMethod yX1_trickSize, Cond.selects RX1 yX1_trickSize yX1_trickSize, Cond.code yX1_trickSize cX1_trickSize 1 (some .int), Cond.methodLink RX1 74 yX1_trickCard, Cond.instanceMethod yX1_trickCard, Cond.selects RX1 yX1_trickCard yX1_trickCard, Cond.code yX1_trickCard cX1_trickCard 2 (some .int), Cond.methodLink RX1 68 yX1_laidAt, Cond.instanceMethod yX1_laidAt, Cond.selects RX1 yX1_laidAt yX1_laidAt, Cond.code yX1_laidAt cX1_laidAt 2 (some .int)]
def wsL_isSolved_r6 : List Cond := [Cond.fieldLink RX1 15 "OpenTricks$Game" "laid" "[I", Cond.methodLink RX1 77 yX0_suitOf, Cond.static yX0_suitOf, Cond.code yX0_suitOf cX0_suitOf 1 (some .int), Cond.methodLink RX1 80 yX0_suitSet, Cond.static yX0_suitSet, Cond.code yX0_suitSet cX0_suitSet 1 (some .int), Cond.methodLink RX5 98 yX0_holds, Cond.methodLink RX5 83 yX1_lay, Cond.instanceMethod yX1_lay, Cond.selects RX1 yX1_lay yX1_lay, Cond.code yX1_lay cX1_lay 2 (some .int), Cond.methodLink RX1 83 yX1_dropFrom, Cond.instanceMethod yX1_dropFrom, Cond.selects RX1 yX1_dropFrom yX1_dropFrom, Cond.code yX1_dropFrom cX1_dropFrom 3 none, Cond.methodLink RX1 86 yX1_endTrick, Cond.instanceMethod yX1_endTrick, Cond.selects RX1 yX1_endTrick yX1_endTrick, Cond.code yX1_endTrick cX1_endTrick 5 (some .int), Cond.methodLink RX1 89 yX1_beats, Cond.instanceMethod yX1_beats, Cond.selects RX1 yX1_beats yX1_beats, Cond.code yX1_beats cX1_beats 4 (some .boolean)]
def wsL_isSolved_r7 : List Cond := [Cond.fieldLink RX1 21 "OpenTricks$Game" "trump" "I", Cond.methodLink RL 52 yX5_takeBack, Cond.instanceMethod yX5_takeBack, Cond.selects RX5 yX5_takeBack yX5_takeBack, Cond.code yX5_takeBack cX5_takeBack 1 (some .int), Cond.methodLink RX5 86 yX1_laidCount, Cond.instanceMethod yX1_laidCount, Cond.selects RX1 yX1_laidCount yX1_laidCount, Cond.code yX1_laidCount cX1_laidCount 1 (some .int), Cond.methodLink RX5 92 yX1_lift, Cond.instanceMethod yX1_lift, Cond.selects RX1 yX1_lift yX1_lift, Cond.code yX1_lift cX1_lift 2 (some .int), Cond.methodLink RL 56 yX5_solve, Cond.instanceMethod yX5_solve, Cond.selects RX5 yX5_solve yX5_solve, Cond.code yX5_solve cX5_solve 1 (some .int), Cond.methodLink RX5 123 yX5_needStarted, Cond.instanceMethod yX5_needStarted, Cond.selects RX5 yX5_needStarted yX5_needStarted, Cond.code yX5_needStarted cX5_needStarted 1 none, Cond.methodLink RX5 77 yX1_isOpen, Cond.instanceMethod yX1_isOpen, Cond.selects RX1 yX1_isOpen yX1_isOpen]
def wsL_isSolved_r8 : List Cond := [Cond.code yX1_isOpen cX1_isOpen 1 (some .boolean), Cond.methodLink RX5 126 yX4_mostOfSide0, Cond.instanceMethod yX4_mostOfSide0, Cond.selects RX4 yX4_mostOfSide0 yX4_mostOfSide0, Cond.code yX4_mostOfSide0 cX4_mostOfSide0 1 (some .int), Cond.fieldLink RX4 7 "OpenTricks$Solver" "game" "LOpenTricks$Game;", Cond.methodLink RX4 23 yX1_cardsLeft, Cond.methodLink RX4 29 yX1_tricksLeft, Cond.instanceMethod yX1_tricksLeft, Cond.selects RX1 yX1_tricksLeft yX1_tricksLeft, Cond.code yX1_tricksLeft cX1_tricksLeft 1 (some .int), Cond.methodLink RX4 32 yX4_search, Cond.instanceMethod yX4_search, Cond.selects RX4 yX4_search yX4_search, Cond.code yX4_search cX4_search 10 (some .int), Cond.methodLink RX4 85 Lib.Math.max.name, Cond.static Lib.Math.max.name, Cond.initialized "java/lang/Math", Cond.code Lib.Math.max.name Lib.Math.max.code 2 (some .int), Cond.methodLink RX4 90 Lib.Math.min.name, Cond.static Lib.Math.min.name, Cond.code Lib.Math.min.name Lib.Math.min.code 2 (some .int), Cond.methodLink RX4 70 yX1_trickSize, Cond.methodLink RX4 73 yX4_tryPlays]
def wsL_isSolved_r9 : List Cond := [Cond.instanceMethod yX4_tryPlays, Cond.selects RX4 yX4_tryPlays yX4_tryPlays, Cond.methodLink RX4 76 yX1_betweenTricks, Cond.instanceMethod yX1_betweenTricks, Cond.selects RX1 yX1_betweenTricks yX1_betweenTricks, Cond.code yX1_betweenTricks cX1_betweenTricks 1 (some .int), Cond.methodLink RX1 96 yX1_inHands, Cond.instanceMethod yX1_inHands, Cond.selects RX1 yX1_inHands yX1_inHands, Cond.code yX1_inHands cX1_inHands 3 (some .int), Cond.methodLink RX4 79 yX2_leastAt, Cond.instanceMethod yX2_leastAt, Cond.selects RX2 yX2_leastAt yX2_leastAt, Cond.code yX2_leastAt cX2_leastAt 2 (some .int), Cond.methodLink RX2 13 yX2_entryOf, Cond.instanceMethod yX2_entryOf, Cond.selects RX2 yX2_entryOf yX2_entryOf, Cond.code yX2_entryOf cX2_entryOf 4 (some .int), Cond.methodLink RX2 17 yX2_slotOf, Cond.static yX2_slotOf, Cond.code yX2_slotOf cX2_slotOf 1 (some .int), Cond.constant RX2 20 (-1640531535), Cond.methodLink RX4 82 yX2_mostAt, Cond.instanceMethod yX2_mostAt]
def wsL_isSolved_r10 : List Cond := [Cond.selects RX2 yX2_mostAt yX2_mostAt, Cond.code yX2_mostAt cX2_mostAt 4 (some .int), Cond.methodLink RX4 93 yX2_put, Cond.instanceMethod yX2_put, Cond.selects RX2 yX2_put yX2_put, Cond.code yX2_put cX2_put 5 none, Cond.code yX4_tryPlays cX4_tryPlays 13 (some .int), Cond.methodLink RX4 36 yX1_mover, Cond.methodLink RX4 39 yX0_sideOf, Cond.static yX0_sideOf, Cond.code yX0_sideOf cX0_sideOf 1 (some .int), Cond.methodLink RX4 54 yX1_playable, Cond.methodLink RX4 57 yX1_out, Cond.instanceMethod yX1_out, Cond.selects RX1 yX1_out yX1_out, Cond.code yX1_out cX1_out 1 (some .int), Cond.constant RX1 95 (16777215), Cond.methodLink RX1 99 yX1_inTrickSet, Cond.instanceMethod yX1_inTrickSet, Cond.selects RX1 yX1_inTrickSet yX1_inTrickSet, Cond.code yX1_inTrickSet cX1_inTrickSet 3 (some .int), Cond.methodLink RX4 60 yX0_lowestOfEquals, Cond.static yX0_lowestOfEquals, Cond.code yX0_lowestOfEquals cX0_lowestOfEquals 6 (some .int)]
def wsL_isSolved_r11 : List Cond := [Cond.methodLink RX0 25 yX0_lowest, Cond.static yX0_lowest, Cond.code yX0_lowest cX0_lowest 1 (some .int), Cond.methodLink RX0 9 yJ6_numberOfTrailingZeros_0f7a4, Cond.static yJ6_numberOfTrailingZeros_0f7a4, Cond.code yJ6_numberOfTrailingZeros_0f7a4 cJ6_numberOfTrailingZeros_0f7a4 2 (some .int), Cond.constant RJ6 264 (65536), Cond.methodLink RX0 28 yX0_equalBelow, Cond.static yX0_equalBelow, Cond.code yX0_equalBelow cX0_equalBelow 5 (some .int), Cond.methodLink RX0 18 yX0_suitOf, Cond.methodLink RX0 21 yX0_holds, Cond.methodLink RX4 97 yX0_highest, Cond.static yX0_highest, Cond.code yX0_highest cX0_highest 1 (some .int), Cond.methodLink RX0 15 yJ6_numberOfLeadingZeros_0f7a4, Cond.static yJ6_numberOfLeadingZeros_0f7a4, Cond.code yJ6_numberOfLeadingZeros_0f7a4 cJ6_numberOfLeadingZeros_0f7a4 2 (some .int), Cond.methodLink RX4 45 yX1_lay, Cond.methodLink RX4 48 yX4_gainOf, Cond.static yX4_gainOf, Cond.code yX4_gainOf cX4_gainOf 1 (some .int), Cond.methodLink RX4 51 yX1_lift, Cond.methodLink RL 59 yX5_solveByAll]
def wsL_isSolved_r12 : List Cond := [Cond.instanceMethod yX5_solveByAll, Cond.selects RX5 yX5_solveByAll yX5_solveByAll, Cond.code yX5_solveByAll cX5_solveByAll 1 (some .int), Cond.methodLink RX5 129 yX1_cardsLeft, Cond.static yX4_byAllPlays, Cond.code yX4_byAllPlays cX4_byAllPlays 8 (some .int), Cond.methodLink RX4 64 yX0_lowest, Cond.methodLink RX4 100 yX4_byAllPlays, Cond.methodLink RL 62 yX5_value, Cond.instanceMethod yX5_value, Cond.selects RX5 yX5_value yX5_value, Cond.code yX5_value cX5_value 2 (some .int), Cond.methodLink RX5 138 yX4_worthOf, Cond.instanceMethod yX4_worthOf, Cond.selects RX4 yX4_worthOf yX4_worthOf, Cond.code yX4_worthOf cX4_worthOf 6 (some .int), Cond.methodLink RL 65 yX5_bestCard, Cond.instanceMethod yX5_bestCard, Cond.selects RX5 yX5_bestCard yX5_bestCard, Cond.code yX5_bestCard cX5_bestCard 1 (some .int), Cond.methodLink RX5 101 yX1_mover, Cond.methodLink RX5 143 yX4_bestPlay, Cond.instanceMethod yX4_bestPlay, Cond.selects RX4 yX4_bestPlay yX4_bestPlay]
def wsL_isSolved_r13 : List Cond := [Cond.code yX4_bestPlay cX4_bestPlay 7 (some .int), Cond.methodLink RX4 67 yX4_worthOf, Cond.methodLink RL 68 yX5_lowestEqual, Cond.instanceMethod yX5_lowestEqual, Cond.selects RX5 yX5_lowestEqual yX5_lowestEqual, Cond.code yX5_lowestEqual cX5_lowestEqual 2 (some .int), Cond.fieldLink RX5 28 "OpenTricks" "look" "LOpenTricks$Look;", Cond.methodLink RX5 146 yX5_needInHand, Cond.instanceMethod yX5_needInHand, Cond.selects RX5 yX5_needInHand yX5_needInHand, Cond.code yX5_needInHand cX5_needInHand 2 none, Cond.methodLink RX5 163 yX1_ownerOf, Cond.instanceMethod yX1_ownerOf, Cond.selects RX1 yX1_ownerOf yX1_ownerOf, Cond.code yX1_ownerOf cX1_ownerOf 3 (some .int), Cond.methodLink RX5 149 yX3_lowestLike, Cond.instanceMethod yX3_lowestLike, Cond.selects RX3 yX3_lowestLike yX3_lowestLike, Cond.initialized RX3, Cond.code yX3_lowestLike cX3_lowestLike 7 (some .int), Cond.fieldLink RX3 7 "OpenTricks$Look" "game" "LOpenTricks$Game;", Cond.methodLink RX3 13 yX1_ownerOf, Cond.methodLink RX3 19 yX1_handOf, Cond.methodLink RX3 22 yX1_out]
def wsL_isSolved_r14 : List Cond := [Cond.methodLink RX3 28 yX0_equalBelow, Cond.methodLink RL 71 yX5_isTop, Cond.instanceMethod yX5_isTop, Cond.selects RX5 yX5_isTop yX5_isTop, Cond.code yX5_isTop cX5_isTop 2 (some .boolean), Cond.methodLink RX5 166 yX3_isHighest, Cond.instanceMethod yX3_isHighest, Cond.selects RX3 yX3_isHighest yX3_isHighest, Cond.code yX3_isHighest cX3_isHighest 4 (some .boolean), Cond.methodLink RX3 32 yX1_inHands, Cond.methodLink RX3 35 yX1_inTrickSet, Cond.methodLink RX3 38 yX0_suitOf, Cond.methodLink RX3 41 yX0_suitSet, Cond.methodLink RX3 44 yX0_highest, Cond.methodLink RL 25 yL_tricks, Cond.static yL_tricks, Cond.code yL_tricks cL_tricks 6 (some .int), Cond.methodLink RL 7 yL_leader, Cond.static yL_leader, Cond.code yL_leader cL_leader 9 (some .int), Cond.methodLink RL 125 yL_best, Cond.static yL_best, Cond.code yL_best cL_best 12 (some .int), Cond.arrayClass .int]
def wsL_isSolved_r15 : List Cond := [Cond.methodLink RL 17 yL_size, Cond.static yL_size, Cond.code yL_size cL_size 3 (some .int), Cond.methodLink RL 21 yL_can, Cond.static yL_can, Cond.code yL_can cL_can 7 (some .boolean), Cond.methodLink RL 13 yL_has, Cond.static yL_has, Cond.code yL_has cL_has 2 (some .boolean)]
def wsL_isSolved : List Cond := .code yL_isSolved cL_isSolved 13 (some .boolean) :: ((wsL_isSolved_r1 ++ (wsL_isSolved_r2 ++ (wsL_isSolved_r3 ++ (wsL_isSolved_r4 ++ (wsL_isSolved_r5 ++ (wsL_isSolved_r6 ++ (wsL_isSolved_r7 ++ (wsL_isSolved_r8 ++ (wsL_isSolved_r9 ++ (wsL_isSolved_r10 ++ (wsL_isSolved_r11 ++ (wsL_isSolved_r12 ++ (wsL_isSolved_r13 ++ (wsL_isSolved_r14 ++ wsL_isSolved_r15)))))))))))))) ++ wsX50 ++ wsX10 ++ wsX40 ++ wsX20 ++ wsX30 ++ (vx_atS RX5 60 "java/lang/IllegalStateException" ["java/lang/RuntimeException", "java/lang/Exception"]).filter goodWord ++ (vx_atS RX5 38 "java/lang/IllegalArgumentException" ["java/lang/RuntimeException", "java/lang/Exception"]).filter goodWord)
def wsL_law0_r1 : List Cond := [Cond.classLink RL 41 RX5, Cond.instantiable RX5 3, Cond.initialized RX5, Cond.arrayClass .int, Cond.constant RL 137 (2147483647), Cond.constant RL 138 (60013), Cond.methodLink RL 129 yX5_init, Cond.instanceMethod yX5_init, Cond.code yX5_init cX5_init 1 none, Cond.methodLink RX5 1 objectInit, Cond.instanceMethod objectInit, Cond.code objectInit ⟨#[0xb1]⟩ 1 none, Cond.classLink RX5 7 RX1, Cond.instantiable RX1 8, Cond.initialized RX1, Cond.fieldLink RX5 10 "OpenTricks" "game" "LOpenTricks$Game;", Cond.classLink RX5 16 RX4, Cond.instantiable RX4 2, Cond.initialized RX4, Cond.fieldLink RX5 21 "OpenTricks" "solver" "LOpenTricks$Solver;", Cond.classLink RX5 25 RX3, Cond.instantiable RX3 1, Cond.initialized RX3, Cond.fieldLink RX5 28 "OpenTricks" "look" "LOpenTricks$Look;"]
def wsL_law0_r2 : List Cond := [Cond.methodLink RX5 9 yX1_init, Cond.instanceMethod yX1_init, Cond.code yX1_init cX1_init 1 none, Cond.methodLink RX1 1 objectInit, Cond.fieldLink RX1 9 "OpenTricks$Game" "hands" "[I", Cond.fieldLink RX1 15 "OpenTricks$Game" "laid" "[I", Cond.fieldLink RX1 18 "OpenTricks$Game" "leaders" "[I", Cond.fieldLink RX1 21 "OpenTricks$Game" "trump" "I", Cond.methodLink RX5 18 yX4_init, Cond.instanceMethod yX4_init, Cond.code yX4_init cX4_init 2 none, Cond.methodLink RX4 1 objectInit, Cond.fieldLink RX4 7 "OpenTricks$Solver" "game" "LOpenTricks$Game;", Cond.classLink RX4 13 RX2, Cond.instantiable RX2 1, Cond.initialized RX2, Cond.fieldLink RX4 16 "OpenTricks$Solver" "kept" "LOpenTricks$Kept;", Cond.methodLink RX4 15 yX2_init, Cond.instanceMethod yX2_init, Cond.code yX2_init cX2_init 1 none, Cond.methodLink RX2 3 objectInit, Cond.fieldLink RX2 9 "OpenTricks$Kept" "entries" "[I", Cond.methodLink RX5 27 yX3_init, Cond.instanceMethod yX3_init]
def wsL_law0_r3 : List Cond := [Cond.code yX3_init cX3_init 2 none, Cond.methodLink RX3 1 objectInit, Cond.fieldLink RX3 7 "OpenTricks$Look" "game" "LOpenTricks$Game;", Cond.methodLink RL 130 yL_isGame, Cond.static yL_isGame, Cond.initialized RL, Cond.code yL_isGame cL_isGame 14 (some .boolean), Cond.methodLink RL 7 yL_leader, Cond.static yL_leader, Cond.code yL_leader cL_leader 9 (some .int), Cond.methodLink RL 77 yX5_isStarted, Cond.instanceMethod yX5_isStarted, Cond.selects RX5 yX5_isStarted yX5_isStarted, Cond.code yX5_isStarted cX5_isStarted 1 (some .boolean), Cond.methodLink RX5 77 yX1_isOpen, Cond.instanceMethod yX1_isOpen, Cond.selects RX1 yX1_isOpen yX1_isOpen, Cond.code yX1_isOpen cX1_isOpen 1 (some .boolean), Cond.fieldLink RX1 28 "OpenTricks$Game" "open" "Z", Cond.methodLink RL 81 yX5_turn, Cond.instanceMethod yX5_turn, Cond.selects RX5 yX5_turn yX5_turn, Cond.code yX5_turn cX5_turn 1 (some .int), Cond.methodLink RX5 101 yX1_mover]
def wsL_law0_r4 : List Cond := [Cond.instanceMethod yX1_mover, Cond.selects RX1 yX1_mover yX1_mover, Cond.code yX1_mover cX1_mover 1 (some .int), Cond.methodLink RX1 59 yX1_cardsLeft, Cond.instanceMethod yX1_cardsLeft, Cond.selects RX1 yX1_cardsLeft yX1_cardsLeft, Cond.code yX1_cardsLeft cX1_cardsLeft 1 (some .int), Cond.fieldLink RX1 32 "OpenTricks$Game" "tricks" "I", Cond.fieldLink RX1 35 "OpenTricks$Game" "laidCount" "I", Cond.methodLink RX1 55 yX1_tricksOver, Cond.instanceMethod yX1_tricksOver, Cond.selects RX1 yX1_tricksOver yX1_tricksOver, Cond.code yX1_tricksOver cX1_tricksOver 1 (some .int), Cond.methodLink RX1 62 yX1_leaderOf, Cond.instanceMethod yX1_leaderOf, Cond.selects RX1 yX1_leaderOf yX1_leaderOf, Cond.code yX1_leaderOf cX1_leaderOf 2 (some .int), Cond.methodLink RX1 65 yX1_trickSize, Cond.instanceMethod yX1_trickSize, Cond.selects RX1 yX1_trickSize yX1_trickSize, Cond.code yX1_trickSize cX1_trickSize 1 (some .int), Cond.methodLink RL 84 yX5_inTrick, Cond.instanceMethod yX5_inTrick, Cond.selects RX5 yX5_inTrick yX5_inTrick]
def wsL_law0_r5 : List Cond := [Cond.code yX5_inTrick cX5_inTrick 1 (some .int), Cond.methodLink RX5 107 yX1_trickSize, Cond.methodLink RL 87 yX5_won, Cond.instanceMethod yX5_won, Cond.selects RX5 yX5_won yX5_won, Cond.code yX5_won cX5_won 2 (some .int), Cond.classLink RX5 34 "java/lang/IllegalArgumentException", Cond.initialized "java/lang/IllegalArgumentException", Cond.methodLink RX5 120 yX1_tricksOf, Cond.instanceMethod yX1_tricksOf, Cond.selects RX1 yX1_tricksOf yX1_tricksOf, Cond.code yX1_tricksOf cX1_tricksOf 4 (some .int), Cond.methodLink RX1 92 yX0_sideOf, Cond.static yX0_sideOf, Cond.initialized RX0, Cond.code yX0_sideOf cX0_sideOf 1 (some .int), Cond.methodLink RL 25 yL_tricks, Cond.static yL_tricks, Cond.code yL_tricks cL_tricks 6 (some .int), Cond.methodLink RL 90 yX5_cardIn, Cond.instanceMethod yX5_cardIn, Cond.selects RX5 yX5_cardIn yX5_cardIn, Cond.code yX5_cardIn cX5_cardIn 2 (some .int), Cond.classLink RX5 110 "java/lang/IndexOutOfBoundsException"]
def wsL_law0_r6 : List Cond := [Cond.initialized "java/lang/IndexOutOfBoundsException", Cond.methodLink RX5 115 yX1_trickCard, Cond.instanceMethod yX1_trickCard, Cond.selects RX1 yX1_trickCard yX1_trickCard, Cond.code yX1_trickCard cX1_trickCard 2 (some .int), Cond.methodLink RX1 68 yX1_laidAt, Cond.instanceMethod yX1_laidAt, Cond.selects RX1 yX1_laidAt yX1_laidAt, Cond.code yX1_laidAt cX1_laidAt 2 (some .int), Cond.methodLink RL 13 yL_has, Cond.static yL_has, Cond.code yL_has cL_has 2 (some .boolean), Cond.methodLink RL 93 yL_lowest, Cond.static yL_lowest, Cond.code yL_lowest cL_lowest 6 (some .int), Cond.methodLink RL 29 yL_holder, Cond.static yL_holder, Cond.code yL_holder cL_holder 2 (some .int), Cond.methodLink RL 37 yL_areEqual, Cond.static yL_areEqual, Cond.code yL_areEqual cL_areEqual 7 (some .boolean), Cond.methodLink RL 33 yL_isOnTable, Cond.static yL_isOnTable, Cond.code yL_isOnTable cL_isOnTable 5 (some .boolean)]
def wsL_law0_r7 : List Cond := [Cond.methodLink RL 97 yL_isTop, Cond.static yL_isTop, Cond.code yL_isTop cL_isTop 6 (some .boolean), Cond.methodLink RL 100 yX5_hand, Cond.instanceMethod yX5_hand, Cond.selects RX5 yX5_hand yX5_hand, Cond.code yX5_hand cX5_hand 2 (some .int), Cond.methodLink RX5 45 yX5_needPlayer, Cond.static yX5_needPlayer, Cond.code yX5_needPlayer cX5_needPlayer 1 none, Cond.methodLink RX5 104 yX1_handOf, Cond.instanceMethod yX1_handOf, Cond.selects RX1 yX1_handOf yX1_handOf, Cond.code yX1_handOf cX1_handOf 2 (some .int), Cond.methodLink RL 103 yX5_unlike, Cond.instanceMethod yX5_unlike, Cond.selects RX5 yX5_unlike yX5_unlike, Cond.code yX5_unlike cX5_unlike 2 (some .int), Cond.methodLink RX5 152 yX1_out, Cond.instanceMethod yX1_out, Cond.selects RX1 yX1_out yX1_out, Cond.code yX1_out cX1_out 1 (some .int), Cond.constant RX1 95 (16777215), Cond.methodLink RX1 96 yX1_inHands]
def wsL_law0_r8 : List Cond := [Cond.instanceMethod yX1_inHands, Cond.selects RX1 yX1_inHands yX1_inHands, Cond.code yX1_inHands cX1_inHands 3 (some .int), Cond.methodLink RX1 99 yX1_inTrickSet, Cond.instanceMethod yX1_inTrickSet, Cond.selects RX1 yX1_inTrickSet yX1_inTrickSet, Cond.code yX1_inTrickSet cX1_inTrickSet 3 (some .int), Cond.methodLink RX5 155 yX0_lowestOfEquals, Cond.static yX0_lowestOfEquals, Cond.code yX0_lowestOfEquals cX0_lowestOfEquals 6 (some .int), Cond.methodLink RX0 25 yX0_lowest, Cond.static yX0_lowest, Cond.code yX0_lowest cX0_lowest 1 (some .int), Cond.methodLink RX0 9 yJ6_numberOfTrailingZeros_0f7a4, Cond.static yJ6_numberOfTrailingZeros_0f7a4, Cond.initialized RJ6, Cond.code yJ6_numberOfTrailingZeros_0f7a4 cJ6_numberOfTrailingZeros_0f7a4 2 (some .int), Cond.constant RJ6 264 (65536), Cond.methodLink RX0 28 yX0_equalBelow, Cond.static yX0_equalBelow, Cond.code yX0_equalBelow cX0_equalBelow 5 (some .int), Cond.methodLink RX0 18 yX0_suitOf, Cond.static yX0_suitOf, Cond.code yX0_suitOf cX0_suitOf 1 (some .int)]
def wsL_law0_r9 : List Cond := [Cond.methodLink RX0 21 yX0_holds, Cond.static yX0_holds, Cond.code yX0_holds cX0_holds 2 (some .boolean), Cond.methodLink RX5 158 yJ6_bitCount_0f7a4, Cond.static yJ6_bitCount_0f7a4, Cond.code yJ6_bitCount_0f7a4 cJ6_bitCount_0f7a4 1 (some .int), Cond.constant RJ6 265 (1431655765), Cond.constant RJ6 266 (858993459), Cond.constant RJ6 267 (252645135), Cond.methodLink RL 106 yX5_quick, Cond.instanceMethod yX5_quick, Cond.selects RX5 yX5_quick yX5_quick, Cond.code yX5_quick cX5_quick 2 (some .int), Cond.methodLink RX5 169 yX3_quickTricks, Cond.instanceMethod yX3_quickTricks, Cond.selects RX3 yX3_quickTricks yX3_quickTricks, Cond.code yX3_quickTricks cX3_quickTricks 5 (some .int), Cond.methodLink RX3 19 yX1_handOf, Cond.methodLink RX3 47 yX0_holds, Cond.methodLink RX3 51 yX3_isHighest, Cond.instanceMethod yX3_isHighest, Cond.selects RX3 yX3_isHighest yX3_isHighest, Cond.code yX3_isHighest cX3_isHighest 4 (some .boolean), Cond.methodLink RX3 32 yX1_inHands]
def wsL_law0_r10 : List Cond := [Cond.methodLink RX3 35 yX1_inTrickSet, Cond.methodLink RX3 38 yX0_suitOf, Cond.methodLink RX3 41 yX0_suitSet, Cond.static yX0_suitSet, Cond.code yX0_suitSet cX0_suitSet 1 (some .int), Cond.methodLink RX3 44 yX0_highest, Cond.static yX0_highest, Cond.code yX0_highest cX0_highest 1 (some .int), Cond.methodLink RX0 15 yJ6_numberOfLeadingZeros_0f7a4, Cond.static yJ6_numberOfLeadingZeros_0f7a4, Cond.code yJ6_numberOfLeadingZeros_0f7a4 cJ6_numberOfLeadingZeros_0f7a4 2 (some .int), Cond.methodLink RL 109 yL_fork, Cond.static yL_fork, Cond.code yL_fork cL_fork 7 (some .int), Cond.methodLink RL 113 yX5_fork, Cond.instanceMethod yX5_fork, Cond.selects RX5 yX5_fork yX5_fork, Cond.code yX5_fork cX5_fork 3 (some .int), Cond.methodLink RX5 174 yX3_forkKind, Cond.instanceMethod yX3_forkKind, Cond.selects RX3 yX3_forkKind yX3_forkKind, Cond.code yX3_forkKind cX3_forkKind 8 (some .int), Cond.methodLink RX3 54 yJ6_bitCount_0f7a4, Cond.methodLink RX3 13 yX1_ownerOf]
def wsL_law0_r11 : List Cond := [Cond.instanceMethod yX1_ownerOf, Cond.selects RX1 yX1_ownerOf yX1_ownerOf, Cond.code yX1_ownerOf cX1_ownerOf 3 (some .int), Cond.methodLink RX1 38 yX0_holds, Cond.methodLink RX3 59 yX0_sideOf, Cond.methodLink RL 115 yX5_canPlay, Cond.instanceMethod yX5_canPlay, Cond.selects RX5 yX5_canPlay yX5_canPlay, Cond.code yX5_canPlay cX5_canPlay 2 (some .boolean), Cond.methodLink RX5 49 yX5_needCard, Cond.static yX5_needCard, Cond.code yX5_needCard cX5_needCard 1 none, Cond.methodLink RX5 95 yX1_playable, Cond.instanceMethod yX1_playable, Cond.selects RX1 yX1_playable yX1_playable, Cond.code yX1_playable cX1_playable 3 (some .int), Cond.methodLink RX1 71 yX1_mover, Cond.methodLink RX1 42 yX1_handOf, Cond.methodLink RX1 74 yX1_trickCard, Cond.methodLink RX1 77 yX0_suitOf, Cond.methodLink RX1 80 yX0_suitSet, Cond.methodLink RX5 98 yX0_holds, Cond.methodLink RL 21 yL_can, Cond.static yL_can]
def wsL_law0_r12 : List Cond := [Cond.code yL_can cL_can 7 (some .boolean), Cond.methodLink RL 118 yL_does, Cond.static yL_does, Cond.codeWith yL_does cL_does 5 (some .int) [(0, 129, 130, 75)], Cond.classLink RL 75 "java/lang/IllegalStateException", Cond.methodLink RL 40 yX5_give, Cond.instanceMethod yX5_give, Cond.selects RX5 yX5_give yX5_give, Cond.code yX5_give cX5_give 3 (some .int), Cond.classLink RX5 56 "java/lang/IllegalStateException", Cond.initialized "java/lang/IllegalStateException", Cond.methodLink RX5 52 yX1_canDeal, Cond.instanceMethod yX1_canDeal, Cond.selects RX1 yX1_canDeal yX1_canDeal, Cond.code yX1_canDeal cX1_canDeal 3 (some .boolean), Cond.fieldLink RX1 25 "OpenTricks$Game" "given" "I", Cond.methodLink RX1 46 yJ6_bitCount_0f7a4, Cond.methodLink RX5 61 yX1_deal, Cond.instanceMethod yX1_deal, Cond.selects RX1 yX1_deal yX1_deal, Cond.code yX1_deal cX1_deal 3 (some .int), Cond.methodLink RX1 51 yX1_addTo, Cond.instanceMethod yX1_addTo, Cond.selects RX1 yX1_addTo yX1_addTo]
def wsL_law0_r13 : List Cond := [Cond.code yX1_addTo cX1_addTo 3 none, Cond.methodLink RL 46 yX5_start, Cond.instanceMethod yX5_start, Cond.selects RX5 yX5_start yX5_start, Cond.code yX5_start cX5_start 2 (some .int), Cond.methodLink RX5 65 yX1_canOpen, Cond.instanceMethod yX1_canOpen, Cond.selects RX1 yX1_canOpen yX1_canOpen, Cond.code yX1_canOpen cX1_canOpen 3 (some .boolean), Cond.methodLink RX5 71 yX4_forget, Cond.instanceMethod yX4_forget, Cond.selects RX4 yX4_forget yX4_forget, Cond.code yX4_forget cX4_forget 1 none, Cond.methodLink RX4 20 yX2_clear, Cond.instanceMethod yX2_clear, Cond.selects RX2 yX2_clear yX2_clear, Cond.code yX2_clear cX2_clear 2 none, Cond.methodLink RX5 74 yX1_open, Cond.instanceMethod yX1_open, Cond.selects RX1 yX1_open yX1_open, Cond.code yX1_open cX1_open 2 (some .int), Cond.methodLink RL 49 yX5_play, Cond.instanceMethod yX5_play, Cond.selects RX5 yX5_play yX5_play]
def wsL_law0_r14 : List Cond := [Cond.code yX5_play cX5_play 2 (some .int), Cond.methodLink RX5 80 yX5_needPlayable, Cond.instanceMethod yX5_needPlayable, Cond.selects RX5 yX5_needPlayable yX5_needPlayable, Cond.code yX5_needPlayable cX5_needPlayable 2 none, Cond.methodLink RX5 83 yX1_lay, Cond.instanceMethod yX1_lay, Cond.selects RX1 yX1_lay yX1_lay, Cond.code yX1_lay cX1_lay 2 (some .int), Cond.methodLink RX1 83 yX1_dropFrom, Cond.instanceMethod yX1_dropFrom, Cond.selects RX1 yX1_dropFrom yX1_dropFrom, Cond.code yX1_dropFrom cX1_dropFrom 3 none, Cond.methodLink RX1 86 yX1_endTrick, Cond.instanceMethod yX1_endTrick, Cond.selects RX1 yX1_endTrick yX1_endTrick, Cond.code yX1_endTrick cX1_endTrick 5 (some .int), Cond.methodLink RX1 89 yX1_beats, Cond.instanceMethod yX1_beats, Cond.selects RX1 yX1_beats yX1_beats, Cond.code yX1_beats cX1_beats 4 (some .boolean), Cond.methodLink RL 52 yX5_takeBack, Cond.instanceMethod yX5_takeBack, Cond.selects RX5 yX5_takeBack yX5_takeBack]
def wsL_law0_r15 : List Cond := [Cond.code yX5_takeBack cX5_takeBack 1 (some .int), Cond.methodLink RX5 86 yX1_laidCount, Cond.instanceMethod yX1_laidCount, Cond.selects RX1 yX1_laidCount yX1_laidCount, Cond.code yX1_laidCount cX1_laidCount 1 (some .int), Cond.methodLink RX5 92 yX1_lift, Cond.instanceMethod yX1_lift, Cond.selects RX1 yX1_lift yX1_lift, Cond.code yX1_lift cX1_lift 2 (some .int), Cond.methodLink RL 56 yX5_solve, Cond.instanceMethod yX5_solve, Cond.selects RX5 yX5_solve yX5_solve, Cond.code yX5_solve cX5_solve 1 (some .int), Cond.methodLink RX5 123 yX5_needStarted, Cond.instanceMethod yX5_needStarted, Cond.selects RX5 yX5_needStarted yX5_needStarted, Cond.code yX5_needStarted cX5_needStarted 1 none, Cond.methodLink RX5 126 yX4_mostOfSide0, Cond.instanceMethod yX4_mostOfSide0, Cond.selects RX4 yX4_mostOfSide0 yX4_mostOfSide0, Cond.code yX4_mostOfSide0 cX4_mostOfSide0 1 (some .int), Cond.methodLink RX4 23 yX1_cardsLeft, Cond.methodLink RX4 29 yX1_tricksLeft, Cond.instanceMethod yX1_tricksLeft]
def wsL_law0_r16 : List Cond := [Cond.selects RX1 yX1_tricksLeft yX1_tricksLeft, Cond.code yX1_tricksLeft cX1_tricksLeft 1 (some .int), Cond.methodLink RX4 32 yX4_search, Cond.instanceMethod yX4_search, Cond.selects RX4 yX4_search yX4_search, Cond.code yX4_search cX4_search 10 (some .int), Cond.methodLink RX4 85 Lib.Math.max.name, Cond.static Lib.Math.max.name, Cond.initialized "java/lang/Math", Cond.code Lib.Math.max.name Lib.Math.max.code 2 (some .int), Cond.methodLink RX4 90 Lib.Math.min.name, Cond.static Lib.Math.min.name, Cond.code Lib.Math.min.name Lib.Math.min.code 2 (some .int), Cond.methodLink RX4 70 yX1_trickSize, Cond.methodLink RX4 73 yX4_tryPlays, Cond.instanceMethod yX4_tryPlays, Cond.selects RX4 yX4_tryPlays yX4_tryPlays, Cond.methodLink RX4 76 yX1_betweenTricks, Cond.instanceMethod yX1_betweenTricks, Cond.selects RX1 yX1_betweenTricks yX1_betweenTricks, Cond.code yX1_betweenTricks cX1_betweenTricks 1 (some .int), Cond.methodLink RX4 79 yX2_leastAt, Cond.instanceMethod yX2_leastAt, Cond.selects RX2 yX2_leastAt yX2_leastAt]
def wsL_law0_r17 : List Cond := [Cond.code yX2_leastAt cX2_leastAt 2 (some .int), Cond.methodLink RX2 13 yX2_entryOf, Cond.instanceMethod yX2_entryOf, Cond.selects RX2 yX2_entryOf yX2_entryOf, Cond.code yX2_entryOf cX2_entryOf 4 (some .int), Cond.methodLink RX2 17 yX2_slotOf, Cond.static yX2_slotOf, Cond.code yX2_slotOf cX2_slotOf 1 (some .int), Cond.constant RX2 20 (-1640531535), Cond.methodLink RX4 82 yX2_mostAt, Cond.instanceMethod yX2_mostAt, Cond.selects RX2 yX2_mostAt yX2_mostAt, Cond.code yX2_mostAt cX2_mostAt 4 (some .int), Cond.methodLink RX4 93 yX2_put, Cond.instanceMethod yX2_put, Cond.selects RX2 yX2_put yX2_put, Cond.code yX2_put cX2_put 5 none, Cond.code yX4_tryPlays cX4_tryPlays 13 (some .int), Cond.methodLink RX4 36 yX1_mover, Cond.methodLink RX4 39 yX0_sideOf, Cond.methodLink RX4 54 yX1_playable, Cond.methodLink RX4 57 yX1_out, Cond.methodLink RX4 60 yX0_lowestOfEquals, Cond.methodLink RX4 97 yX0_highest]
def wsL_law0_r18 : List Cond := [Cond.methodLink RX4 45 yX1_lay, Cond.methodLink RX4 48 yX4_gainOf, Cond.static yX4_gainOf, Cond.code yX4_gainOf cX4_gainOf 1 (some .int), Cond.methodLink RX4 51 yX1_lift, Cond.methodLink RL 59 yX5_solveByAll, Cond.instanceMethod yX5_solveByAll, Cond.selects RX5 yX5_solveByAll yX5_solveByAll, Cond.code yX5_solveByAll cX5_solveByAll 1 (some .int), Cond.methodLink RX5 129 yX1_cardsLeft, Cond.static yX4_byAllPlays, Cond.code yX4_byAllPlays cX4_byAllPlays 8 (some .int), Cond.methodLink RX4 64 yX0_lowest, Cond.methodLink RX4 100 yX4_byAllPlays, Cond.methodLink RL 62 yX5_value, Cond.instanceMethod yX5_value, Cond.selects RX5 yX5_value yX5_value, Cond.code yX5_value cX5_value 2 (some .int), Cond.methodLink RX5 138 yX4_worthOf, Cond.instanceMethod yX4_worthOf, Cond.selects RX4 yX4_worthOf yX4_worthOf, Cond.code yX4_worthOf cX4_worthOf 6 (some .int), Cond.methodLink RL 65 yX5_bestCard, Cond.instanceMethod yX5_bestCard]
def wsL_law0_r19 : List Cond := [Cond.selects RX5 yX5_bestCard yX5_bestCard, Cond.code yX5_bestCard cX5_bestCard 1 (some .int), Cond.methodLink RX5 143 yX4_bestPlay, Cond.instanceMethod yX4_bestPlay, Cond.selects RX4 yX4_bestPlay yX4_bestPlay, Cond.code yX4_bestPlay cX4_bestPlay 7 (some .int), Cond.methodLink RX4 67 yX4_worthOf, Cond.methodLink RL 68 yX5_lowestEqual, Cond.instanceMethod yX5_lowestEqual, Cond.selects RX5 yX5_lowestEqual yX5_lowestEqual, Cond.code yX5_lowestEqual cX5_lowestEqual 2 (some .int), Cond.methodLink RX5 146 yX5_needInHand, Cond.instanceMethod yX5_needInHand, Cond.selects RX5 yX5_needInHand yX5_needInHand, Cond.code yX5_needInHand cX5_needInHand 2 none, Cond.methodLink RX5 163 yX1_ownerOf, Cond.methodLink RX5 149 yX3_lowestLike, Cond.instanceMethod yX3_lowestLike, Cond.selects RX3 yX3_lowestLike yX3_lowestLike, Cond.code yX3_lowestLike cX3_lowestLike 7 (some .int), Cond.methodLink RX3 22 yX1_out, Cond.methodLink RX3 28 yX0_equalBelow, Cond.methodLink RL 71 yX5_isTop, Cond.instanceMethod yX5_isTop]
def wsL_law0_r20 : List Cond := [Cond.selects RX5 yX5_isTop yX5_isTop, Cond.code yX5_isTop cX5_isTop 2 (some .boolean), Cond.methodLink RX5 166 yX3_isHighest, Cond.methodLink RL 122 yX5_goodForks, Cond.instanceMethod yX5_goodForks, Cond.selects RX5 yX5_goodForks yX5_goodForks, Cond.code yX5_goodForks cX5_goodForks 1 (some .int), Cond.methodLink RX5 177 yX3_goodForksOf, Cond.instanceMethod yX3_goodForksOf, Cond.selects RX3 yX3_goodForksOf yX3_goodForksOf, Cond.code yX3_goodForksOf cX3_goodForksOf 5 (some .int), Cond.methodLink RX3 62 yX3_forkKind, Cond.methodLink RL 134 yL_isSolved, Cond.static yL_isSolved, Cond.code yL_isSolved cL_isSolved 13 (some .boolean), Cond.methodLink RL 125 yL_best, Cond.static yL_best, Cond.code yL_best cL_best 12 (some .int), Cond.methodLink RL 17 yL_size, Cond.static yL_size, Cond.code yL_size cL_size 3 (some .int), Cond.methodLink RL 139 yX5_begin, Cond.instanceMethod yX5_begin, Cond.selects RX5 yX5_begin yX5_begin]
def wsL_law0_r21 : List Cond := [Cond.code yX5_begin cX5_begin 2 (some .int), Cond.methodLink RX5 41 yX1_clearFor, Cond.instanceMethod yX1_clearFor, Cond.selects RX1 yX1_clearFor yX1_clearFor, Cond.code yX1_clearFor cX1_clearFor 4 (some .int)]
def wsL_law0 : List Cond := (wsL_law0_r1 ++ (wsL_law0_r2 ++ (wsL_law0_r3 ++ (wsL_law0_r4 ++ (wsL_law0_r5 ++ (wsL_law0_r6 ++ (wsL_law0_r7 ++ (wsL_law0_r8 ++ (wsL_law0_r9 ++ (wsL_law0_r10 ++ (wsL_law0_r11 ++ (wsL_law0_r12 ++ (wsL_law0_r13 ++ (wsL_law0_r14 ++ (wsL_law0_r15 ++ (wsL_law0_r16 ++ (wsL_law0_r17 ++ (wsL_law0_r18 ++ (wsL_law0_r19 ++ (wsL_law0_r20 ++ wsL_law0_r21)))))))))))))))))))) ++ wsX50 ++ wsX10 ++ wsX40 ++ wsX30 ++ wsX20 ++ ([] : List Cond)
def wsL_law : List Cond := wsL_law0 ++ (vx_atS RX5 38 "java/lang/IllegalArgumentException" ["java/lang/RuntimeException", "java/lang/Exception"]).filter goodWord ++ (vx_atS RX5 114 "java/lang/IndexOutOfBoundsException" ["java/lang/RuntimeException", "java/lang/Exception"]).filter goodWord ++ (vx_atS RX5 60 "java/lang/IllegalStateException" ["java/lang/RuntimeException", "java/lang/Exception"]).filter goodWord
set_option maxRecDepth 20000 in
theorem mem_r {big ws : List Cond} (ps : List Nat) (hp : ws = ps.filterMap (fun i => big[i]?)) : ∀ w ∈ ws, w ∈ big := by
  intro w hw
  rw [hp] at hw
  obtain ⟨i, -, hi⟩ := List.mem_filterMap.mp hw
  exact List.mem_of_getElem? hi
theorem wsL_law0_r1_in : ∀ w ∈ wsL_law0_r1, w ∈ lw_tbl := mem_r [29, 30, 15, 68, 644, 645, 31, 32, 33, 34, 35, 36, 37, 38, 16, 102, 69, 70, 17, 103, 92, 93, 19, 104] (by decide +kernel)
theorem wsL_law0_r2_in : ∀ w ∈ wsL_law0_r2, w ∈ lw_tbl := mem_r [39, 40, 41, 42, 43, 44, 45, 46, 71, 72, 73, 74, 85, 75, 76, 18, 86, 77, 78, 79, 80, 81, 94, 95] (by decide +kernel)
theorem wsL_law0_r3_in : ∀ w ∈ wsL_law0_r3, w ∈ lw_tbl := mem_r [96, 97, 98, 524, 525, 14, 526, 194, 195, 196, 527, 528, 529, 530, 363, 364, 365, 366, 48, 531, 532, 533, 534, 483] (by decide +kernel)
theorem wsL_law0_r4_in : ∀ w ∈ wsL_law0_r4, w ∈ lw_tbl := mem_r [291, 292, 293, 294, 295, 296, 297, 49, 50, 298, 300, 3, 301, 302, 304, 4, 305, 306, 307, 308, 309, 535, 536, 537] (by decide +kernel)
theorem wsL_law0_r5_in : ∀ w ∈ wsL_law0_r5, w ∈ lw_tbl := mem_r [538, 539, 540, 541, 542, 543, 116, 23, 545, 546, 547, 548, 549, 388, 24, 389, 550, 551, 552, 553, 554, 555, 556, 557] (by decide +kernel)
theorem wsL_law0_r6_in : ∀ w ∈ wsL_law0_r6, w ∈ lw_tbl := mem_r [25, 573, 311, 312, 313, 314, 316, 5, 317, 188, 189, 190, 574, 575, 576, 577, 578, 579, 580, 581, 582, 583, 584, 585] (by decide +kernel)
theorem wsL_law0_r7_in : ∀ w ∈ wsL_law0_r7, w ∈ lw_tbl := mem_r [586, 587, 588, 589, 590, 591, 592, 208, 209, 210, 593, 224, 225, 226, 594, 595, 596, 597, 598, 392, 393, 394, 395, 396] (by decide +kernel)
theorem wsL_law0_r8_in : ∀ w ∈ wsL_law0_r8, w ∈ lw_tbl := mem_r [397, 398, 399, 400, 401, 402, 403, 599, 405, 406, 407, 408, 409, 410, 411, 26, 412, 413, 414, 415, 416, 417, 319, 320] (by decide +kernel)
theorem wsL_law0_r9_in : ∀ w ∈ wsL_law0_r9, w ∈ lw_tbl := mem_r [418, 221, 222, 600, 228, 229, 230, 231, 232, 601, 602, 603, 604, 605, 606, 607, 608, 508, 609, 610, 516, 517, 518, 519] (by decide +kernel)
theorem wsL_law0_r10_in : ∀ w ∈ wsL_law0_r10, w ∈ lw_tbl := mem_r [520, 521, 522, 322, 323, 523, 420, 421, 422, 423, 424, 611, 612, 613, 614, 615, 616, 617, 619, 620, 621, 622, 623, 507] (by decide +kernel)
theorem wsL_law0_r11_in : ∀ w ∈ wsL_law0_r11, w ∈ lw_tbl := mem_r [499, 500, 501, 220, 624, 625, 626, 627, 628, 212, 213, 214, 286, 287, 288, 289, 290, 223, 310, 318, 321, 324, 197, 198] (by decide +kernel)
theorem wsL_law0_r12_in : ∀ w ∈ wsL_law0_r12, w ∈ lw_tbl := mem_r [199, 200, 201, 202, 203, 204, 205, 206, 207, 233, 27, 216, 217, 218, 219, 47, 227, 249, 250, 251, 252, 253, 255, 1] (by decide +kernel)
theorem wsL_law0_r13_in : ∀ w ∈ wsL_law0_r13, w ∈ lw_tbl := mem_r [256, 257, 258, 259, 260, 261, 262, 263, 264, 266, 267, 268, 269, 270, 271, 272, 273, 274, 275, 276, 277, 278, 279, 280] (by decide +kernel)
theorem wsL_law0_r14_in : ∀ w ∈ wsL_law0_r14, w ∈ lw_tbl := mem_r [281, 282, 284, 2, 285, 326, 327, 328, 329, 330, 332, 6, 333, 334, 336, 7, 337, 338, 340, 8, 341, 342, 343, 344] (by decide +kernel)
theorem wsL_law0_r15_in : ∀ w ∈ wsL_law0_r15, w ∈ lw_tbl := mem_r [345, 346, 347, 348, 349, 351, 352, 353, 354, 355, 356, 357, 358, 359, 361, 9, 362, 368, 369, 370, 371, 372, 373, 374] (by decide +kernel)
theorem wsL_law0_r16_in : ∀ w ∈ wsL_law0_r16, w ∈ lw_tbl := mem_r [375, 376, 377, 379, 10, 380, 430, 431, 28, 432, 433, 434, 435, 381, 382, 384, 11, 436, 437, 438, 439, 440, 441, 442] (by decide +kernel)
theorem wsL_law0_r17_in : ∀ w ∈ wsL_law0_r17, w ∈ lw_tbl := mem_r [443, 444, 446, 12, 447, 448, 449, 450, 451, 452, 453, 454, 455, 456, 457, 458, 459, 385, 386, 387, 390, 391, 404, 419] (by decide +kernel)
theorem wsL_law0_r18_in : ∀ w ∈ wsL_law0_r18, w ∈ lw_tbl := mem_r [425, 426, 427, 428, 429, 460, 461, 462, 463, 464, 467, 468, 469, 470, 471, 472, 473, 474, 475, 476, 477, 478, 479, 480] (by decide +kernel)
theorem wsL_law0_r19_in : ∀ w ∈ wsL_law0_r19, w ∈ lw_tbl := mem_r [481, 482, 485, 486, 487, 488, 489, 490, 491, 492, 493, 494, 496, 13, 497, 498, 503, 504, 505, 506, 509, 510, 511, 512] (by decide +kernel)
theorem wsL_law0_r20_in : ∀ w ∈ wsL_law0_r20, w ∈ lw_tbl := mem_r [513, 514, 515, 629, 630, 631, 632, 633, 634, 635, 636, 637, 638, 639, 640, 641, 642, 643, 191, 192, 193, 112, 113, 114] (by decide +kernel)
theorem wsL_law0_r21_in : ∀ w ∈ wsL_law0_r21, w ∈ lw_tbl := mem_r [115, 184, 185, 186, 187] (by decide +kernel)
theorem inTX5 : ∀ w ∈ wsX50, w ∈ lw_tbl := by decide +kernel
theorem inTX1 : ∀ w ∈ wsX10, w ∈ lw_tbl := by decide +kernel
theorem inTX4 : ∀ w ∈ wsX40, w ∈ lw_tbl := by decide +kernel
theorem inTX3 : ∀ w ∈ wsX30, w ∈ lw_tbl := by decide +kernel
theorem inTX2 : ∀ w ∈ wsX20, w ∈ lw_tbl := by decide +kernel
theorem wsL_law_in0 : ∀ w ∈ wsL_law0, w ∈ lw_tbl := fun w => fun h => (List.mem_append.mp h).elim (fun h => (List.mem_append.mp h).elim (fun h => (List.mem_append.mp h).elim (fun h => (List.mem_append.mp h).elim (fun h => (List.mem_append.mp h).elim (fun h => (List.mem_append.mp h).elim (fun h => (List.mem_append.mp h).elim (wsL_law0_r1_in w) (fun h => (List.mem_append.mp h).elim (wsL_law0_r2_in w) (fun h => (List.mem_append.mp h).elim (wsL_law0_r3_in w) (fun h => (List.mem_append.mp h).elim (wsL_law0_r4_in w) (fun h => (List.mem_append.mp h).elim (wsL_law0_r5_in w) (fun h => (List.mem_append.mp h).elim (wsL_law0_r6_in w) (fun h => (List.mem_append.mp h).elim (wsL_law0_r7_in w) (fun h => (List.mem_append.mp h).elim (wsL_law0_r8_in w) (fun h => (List.mem_append.mp h).elim (wsL_law0_r9_in w) (fun h => (List.mem_append.mp h).elim (wsL_law0_r10_in w) (fun h => (List.mem_append.mp h).elim (wsL_law0_r11_in w) (fun h => (List.mem_append.mp h).elim (wsL_law0_r12_in w) (fun h => (List.mem_append.mp h).elim (wsL_law0_r13_in w) (fun h => (List.mem_append.mp h).elim (wsL_law0_r14_in w) (fun h => (List.mem_append.mp h).elim (wsL_law0_r15_in w) (fun h => (List.mem_append.mp h).elim (wsL_law0_r16_in w) (fun h => (List.mem_append.mp h).elim (wsL_law0_r17_in w) (fun h => (List.mem_append.mp h).elim (wsL_law0_r18_in w) (fun h => (List.mem_append.mp h).elim (wsL_law0_r19_in w) (fun h => (List.mem_append.mp h).elim (wsL_law0_r20_in w) (fun h => wsL_law0_r21_in w h))))))))))))))))))))) (inTX5 w)) (inTX1 w)) (inTX4 w)) (inTX3 w)) (inTX2 w)) (fun h => nomatch h)
theorem wsL_law_x0 : ∀ w ∈ (vx_atS RX5 38 "java/lang/IllegalArgumentException" ["java/lang/RuntimeException", "java/lang/Exception"]).filter goodWord, w ∈ lw_tbl := by decide +kernel
theorem wsL_law_x1 : ∀ w ∈ (vx_atS RX5 114 "java/lang/IndexOutOfBoundsException" ["java/lang/RuntimeException", "java/lang/Exception"]).filter goodWord, w ∈ lw_tbl := by decide +kernel
theorem wsL_law_x2 : ∀ w ∈ (vx_atS RX5 60 "java/lang/IllegalStateException" ["java/lang/RuntimeException", "java/lang/Exception"]).filter goodWord, w ∈ lw_tbl := by decide +kernel
theorem wsL_law_in : ∀ w ∈ wsL_law, w ∈ lw_tbl := fun w h => (List.mem_append.mp h).elim (fun h => (List.mem_append.mp h).elim (fun h => (List.mem_append.mp h).elim (fun h => wsL_law_in0 w h) (fun h => wsL_law_x0 w h)) (fun h => wsL_law_x1 w h)) (fun h => wsL_law_x2 w h)
end
section
theorem gi_cons {big a : List Cond} {c : Cond} (hc : GoodIn big [c]) (ha : GoodIn big a) : GoodIn big (c :: a) := fun w h => (List.mem_cons.mp h).elim (fun e => hc w (List.mem_singleton.mpr e)) (ha w)
theorem inX0 : ∀ w ∈ wsX00, w ∈ lw_tbl := by decide +kernel
theorem inlX1 : ∀ w ∈ wsX10, w ∈ wsL_law := fun _ h => List.mem_append_left _ (List.mem_append_left _ (List.mem_append_left _ (List.mem_append_left _ (List.mem_append_left _ (List.mem_append_left _ (List.mem_append_left _ (List.mem_append_right _ h)))))))
theorem inX1 : ∀ w ∈ wsX10, w ∈ lw_tbl := fun w h => wsL_law_in w (inlX1 w h)
theorem inlX2 : ∀ w ∈ wsX20, w ∈ wsL_law := fun _ h => List.mem_append_left _ (List.mem_append_left _ (List.mem_append_left _ (List.mem_append_left _ (List.mem_append_right _ h))))
theorem inX2 : ∀ w ∈ wsX20, w ∈ lw_tbl := fun w h => wsL_law_in w (inlX2 w h)
theorem inlX3 : ∀ w ∈ wsX30, w ∈ wsL_law := fun _ h => List.mem_append_left _ (List.mem_append_left _ (List.mem_append_left _ (List.mem_append_left _ (List.mem_append_left _ (List.mem_append_right _ h)))))
theorem inX3 : ∀ w ∈ wsX30, w ∈ lw_tbl := fun w h => wsL_law_in w (inlX3 w h)
theorem inlX4 : ∀ w ∈ wsX40, w ∈ wsL_law := fun _ h => List.mem_append_left _ (List.mem_append_left _ (List.mem_append_left _ (List.mem_append_left _ (List.mem_append_left _ (List.mem_append_left _ (List.mem_append_right _ h))))))
theorem inX4 : ∀ w ∈ wsX40, w ∈ lw_tbl := fun w h => wsL_law_in w (inlX4 w h)
theorem inlX5 : ∀ w ∈ wsX50, w ∈ wsL_law := fun _ h => List.mem_append_left _ (List.mem_append_left _ (List.mem_append_left _ (List.mem_append_left _ (List.mem_append_left _ (List.mem_append_left _ (List.mem_append_left _ (List.mem_append_left _ (List.mem_append_right _ h))))))))
theorem inX5 : ∀ w ∈ wsX50, w ∈ lw_tbl := fun w h => wsL_law_in w (inlX5 w h)
theorem inX6 : ∀ w ∈ wsX60, w ∈ lw_tbl := by decide +kernel
theorem inJ6 : ∀ w ∈ wsJ60, w ∈ lw_tbl := by decide +kernel
theorem inJ9 : ∀ w ∈ wsJ90, w ∈ lw_tbl := by decide +kernel
theorem inJ0 : ∀ w ∈ wsJ00, w ∈ lw_tbl := by decide +kernel
theorem dX0_holds_0 : decode cX0_holds 0 = .ok (.iload_n 0, 1) := by decide +kernel
theorem dX0_holds_1 : decode cX0_holds 1 = .ok (.iconst 1, 1) := by decide +kernel
theorem dX0_holds_2 : decode cX0_holds 2 = .ok (.iload_n 1, 1) := by decide +kernel
theorem dX0_holds_3 : decode cX0_holds 3 = .ok (.ishl, 1) := by decide +kernel
theorem dX0_holds_4 : decode cX0_holds 4 = .ok (.iand, 1) := by decide +kernel
theorem dX0_holds_5 : decode cX0_holds 5 = .ok (.ifCond .eq 7, 3) := by decide +kernel
theorem dX0_holds_8 : decode cX0_holds 8 = .ok (.iconst 1, 1) := by decide +kernel
theorem dX0_holds_9 : decode cX0_holds 9 = .ok (.goto 4, 3) := by decide +kernel
theorem dX0_holds_12 : decode cX0_holds 12 = .ok (.iconst 0, 1) := by decide +kernel
theorem dX0_holds_13 : decode cX0_holds 13 = .ok (.ireturn, 1) := by decide +kernel
theorem dX0_suitOf_0 : decode cX0_suitOf 0 = .ok (.iload_n 0, 1) := by decide +kernel
theorem dX0_suitOf_1 : decode cX0_suitOf 1 = .ok (.bipush 6, 2) := by decide +kernel
theorem dX0_suitOf_3 : decode cX0_suitOf 3 = .ok (.idiv, 1) := by decide +kernel
theorem dX0_suitOf_4 : decode cX0_suitOf 4 = .ok (.ireturn, 1) := by decide +kernel
theorem dX0_suitSet_0 : decode cX0_suitSet 0 = .ok (.bipush 63, 2) := by decide +kernel
theorem dX0_suitSet_2 : decode cX0_suitSet 2 = .ok (.iload_n 0, 1) := by decide +kernel
theorem dX0_suitSet_3 : decode cX0_suitSet 3 = .ok (.bipush 6, 2) := by decide +kernel
theorem dX0_suitSet_5 : decode cX0_suitSet 5 = .ok (.imul, 1) := by decide +kernel
theorem dX0_suitSet_6 : decode cX0_suitSet 6 = .ok (.ishl, 1) := by decide +kernel
theorem dX0_suitSet_7 : decode cX0_suitSet 7 = .ok (.ireturn, 1) := by decide +kernel
set_option maxRecDepth 20000 in
theorem ggX0_lowest_J6_numberOfTrailingZeros_0f7a4 : GoodIn wsX0_lowest wsJ6_numberOfTrailingZeros_0f7a4 := goodIn_r _ [4, 5] (by decide +kernel) (by decide +kernel)
set_option maxRecDepth 20000 in
theorem gX0_lowest_J6_numberOfTrailingZeros_0f7a4 : GoodIn wsX0_lowest (va_wsS RX0 9 yJ6_numberOfTrailingZeros_0f7a4 wsJ6_numberOfTrailingZeros_0f7a4) := goodIn_app (goodIn_of _ (by decide +kernel)) ggX0_lowest_J6_numberOfTrailingZeros_0f7a4
theorem dX0_lowest_0 : decode cX0_lowest 0 = .ok (.iload_n 0, 1) := by decide +kernel
theorem dX0_lowest_1 : decode cX0_lowest 1 = .ok (.invokestatic 9, 3) := by decide +kernel
theorem dX0_lowest_4 : decode cX0_lowest 4 = .ok (.ireturn, 1) := by decide +kernel
set_option maxRecDepth 20000 in
theorem ggX0_highest_J6_numberOfLeadingZeros_0f7a4 : GoodIn wsX0_highest wsJ6_numberOfLeadingZeros_0f7a4 := goodIn_r _ [4, 5] (by decide +kernel) (by decide +kernel)
set_option maxRecDepth 20000 in
theorem gX0_highest_J6_numberOfLeadingZeros_0f7a4 : GoodIn wsX0_highest (va_wsS RX0 15 yJ6_numberOfLeadingZeros_0f7a4 wsJ6_numberOfLeadingZeros_0f7a4) := goodIn_app (goodIn_of _ (by decide +kernel)) ggX0_highest_J6_numberOfLeadingZeros_0f7a4
theorem dX0_highest_0 : decode cX0_highest 0 = .ok (.bipush 31, 2) := by decide +kernel
theorem dX0_highest_2 : decode cX0_highest 2 = .ok (.iload_n 0, 1) := by decide +kernel
theorem dX0_highest_3 : decode cX0_highest 3 = .ok (.invokestatic 15, 3) := by decide +kernel
theorem dX0_highest_6 : decode cX0_highest 6 = .ok (.isub, 1) := by decide +kernel
theorem dX0_highest_7 : decode cX0_highest 7 = .ok (.ireturn, 1) := by decide +kernel
theorem dX0_sideOf_0 : decode cX0_sideOf 0 = .ok (.iload_n 0, 1) := by decide +kernel
theorem dX0_sideOf_1 : decode cX0_sideOf 1 = .ok (.iconst 2, 1) := by decide +kernel
theorem dX0_sideOf_2 : decode cX0_sideOf 2 = .ok (.irem, 1) := by decide +kernel
theorem dX0_sideOf_3 : decode cX0_sideOf 3 = .ok (.ireturn, 1) := by decide +kernel
set_option maxRecDepth 20000 in
theorem ggX0_equalBelow_X0_suitOf : GoodIn wsX0_equalBelow wsX0_suitOf := goodIn_r _ [4] (by decide +kernel) (by decide +kernel)
set_option maxRecDepth 20000 in
theorem gX0_equalBelow_X0_suitOf : GoodIn wsX0_equalBelow (va_wsS RX0 18 yX0_suitOf wsX0_suitOf) := goodIn_app (goodIn_of _ (by decide +kernel)) ggX0_equalBelow_X0_suitOf
set_option maxRecDepth 20000 in
theorem ggX0_equalBelow_X0_holds : GoodIn wsX0_equalBelow wsX0_holds := goodIn_r _ [7] (by decide +kernel) (by decide +kernel)
set_option maxRecDepth 20000 in
theorem gX0_equalBelow_X0_holds : GoodIn wsX0_equalBelow (va_wsS RX0 21 yX0_holds wsX0_holds) := goodIn_app (goodIn_of _ (by decide +kernel)) ggX0_equalBelow_X0_holds
theorem dX0_equalBelow_0 : decode cX0_equalBelow 0 = .ok (.iload_n 0, 1) := by decide +kernel
theorem dX0_equalBelow_1 : decode cX0_equalBelow 1 = .ok (.invokestatic 18, 3) := by decide +kernel
theorem dX0_equalBelow_4 : decode cX0_equalBelow 4 = .ok (.bipush 6, 2) := by decide +kernel
theorem dX0_equalBelow_6 : decode cX0_equalBelow 6 = .ok (.imul, 1) := by decide +kernel
theorem dX0_equalBelow_7 : decode cX0_equalBelow 7 = .ok (.istore_n 3, 1) := by decide +kernel
theorem dX0_equalBelow_8 : decode cX0_equalBelow 8 = .ok (.iload_n 0, 1) := by decide +kernel
theorem dX0_equalBelow_9 : decode cX0_equalBelow 9 = .ok (.iconst 1, 1) := by decide +kernel
theorem dX0_equalBelow_10 : decode cX0_equalBelow 10 = .ok (.isub, 1) := by decide +kernel
theorem dX0_equalBelow_11 : decode cX0_equalBelow 11 = .ok (.istore 4, 2) := by decide +kernel
theorem dX0_equalBelow_13 : decode cX0_equalBelow 13 = .ok (.iload 4, 2) := by decide +kernel
theorem dX0_equalBelow_15 : decode cX0_equalBelow 15 = .ok (.iload_n 3, 1) := by decide +kernel
theorem dX0_equalBelow_16 : decode cX0_equalBelow 16 = .ok (.if_icmp .lt 32, 3) := by decide +kernel
theorem dX0_equalBelow_19 : decode cX0_equalBelow 19 = .ok (.iload_n 1, 1) := by decide +kernel
theorem dX0_equalBelow_20 : decode cX0_equalBelow 20 = .ok (.iload 4, 2) := by decide +kernel
theorem dX0_equalBelow_22 : decode cX0_equalBelow 22 = .ok (.invokestatic 21, 3) := by decide +kernel
theorem dX0_equalBelow_25 : decode cX0_equalBelow 25 = .ok (.ifCond .eq 6, 3) := by decide +kernel
theorem dX0_equalBelow_28 : decode cX0_equalBelow 28 = .ok (.iload 4, 2) := by decide +kernel
theorem dX0_equalBelow_30 : decode cX0_equalBelow 30 = .ok (.ireturn, 1) := by decide +kernel
theorem dX0_equalBelow_31 : decode cX0_equalBelow 31 = .ok (.iload_n 2, 1) := by decide +kernel
theorem dX0_equalBelow_32 : decode cX0_equalBelow 32 = .ok (.iload 4, 2) := by decide +kernel
theorem dX0_equalBelow_34 : decode cX0_equalBelow 34 = .ok (.invokestatic 21, 3) := by decide +kernel
theorem dX0_equalBelow_37 : decode cX0_equalBelow 37 = .ok (.ifCond .ne 5, 3) := by decide +kernel
theorem dX0_equalBelow_40 : decode cX0_equalBelow 40 = .ok (.iconst (-1), 1) := by decide +kernel
theorem dX0_equalBelow_41 : decode cX0_equalBelow 41 = .ok (.ireturn, 1) := by decide +kernel
theorem dX0_equalBelow_42 : decode cX0_equalBelow 42 = .ok (.iinc 4 (-1), 3) := by decide +kernel
theorem dX0_equalBelow_45 : decode cX0_equalBelow 45 = .ok (.goto (-32), 3) := by decide +kernel
theorem dX0_equalBelow_48 : decode cX0_equalBelow 48 = .ok (.iconst (-1), 1) := by decide +kernel
theorem dX0_equalBelow_49 : decode cX0_equalBelow 49 = .ok (.ireturn, 1) := by decide +kernel
set_option maxRecDepth 20000 in
theorem ggX0_lowestOfEquals_X0_lowest : GoodIn wsX0_lowestOfEquals wsX0_lowest := goodIn_r _ [4, 5, 6, 7, 8, 9] (by decide +kernel) (by decide +kernel)
set_option maxRecDepth 20000 in
theorem gX0_lowestOfEquals_X0_lowest : GoodIn wsX0_lowestOfEquals (va_wsS RX0 25 yX0_lowest wsX0_lowest) := goodIn_app (goodIn_of _ (by decide +kernel)) ggX0_lowestOfEquals_X0_lowest
set_option maxRecDepth 20000 in
theorem ggX0_lowestOfEquals_X0_equalBelow : GoodIn wsX0_lowestOfEquals wsX0_equalBelow := goodIn_r _ [12, 13, 14, 3, 15, 16, 17, 18] (by decide +kernel) (by decide +kernel)
set_option maxRecDepth 20000 in
theorem gX0_lowestOfEquals_X0_equalBelow : GoodIn wsX0_lowestOfEquals (va_wsS RX0 28 yX0_equalBelow wsX0_equalBelow) := goodIn_app (goodIn_of _ (by decide +kernel)) ggX0_lowestOfEquals_X0_equalBelow
theorem dX0_lowestOfEquals_0 : decode cX0_lowestOfEquals 0 = .ok (.iconst 0, 1) := by decide +kernel
theorem dX0_lowestOfEquals_1 : decode cX0_lowestOfEquals 1 = .ok (.istore_n 2, 1) := by decide +kernel
theorem dX0_lowestOfEquals_2 : decode cX0_lowestOfEquals 2 = .ok (.iload_n 0, 1) := by decide +kernel
theorem dX0_lowestOfEquals_3 : decode cX0_lowestOfEquals 3 = .ok (.istore_n 3, 1) := by decide +kernel
theorem dX0_lowestOfEquals_4 : decode cX0_lowestOfEquals 4 = .ok (.iconst 0, 1) := by decide +kernel
theorem dX0_lowestOfEquals_5 : decode cX0_lowestOfEquals 5 = .ok (.istore 4, 2) := by decide +kernel
theorem dX0_lowestOfEquals_7 : decode cX0_lowestOfEquals 7 = .ok (.iload 4, 2) := by decide +kernel
theorem dX0_lowestOfEquals_9 : decode cX0_lowestOfEquals 9 = .ok (.iconst 4, 1) := by decide +kernel
theorem dX0_lowestOfEquals_10 : decode cX0_lowestOfEquals 10 = .ok (.if_icmp .ge 46, 3) := by decide +kernel
theorem dX0_lowestOfEquals_13 : decode cX0_lowestOfEquals 13 = .ok (.iload_n 3, 1) := by decide +kernel
theorem dX0_lowestOfEquals_14 : decode cX0_lowestOfEquals 14 = .ok (.ifCond .eq 42, 3) := by decide +kernel
theorem dX0_lowestOfEquals_17 : decode cX0_lowestOfEquals 17 = .ok (.iload_n 3, 1) := by decide +kernel
theorem dX0_lowestOfEquals_18 : decode cX0_lowestOfEquals 18 = .ok (.invokestatic 25, 3) := by decide +kernel
theorem dX0_lowestOfEquals_21 : decode cX0_lowestOfEquals 21 = .ok (.istore 5, 2) := by decide +kernel
theorem dX0_lowestOfEquals_23 : decode cX0_lowestOfEquals 23 = .ok (.iload_n 3, 1) := by decide +kernel
theorem dX0_lowestOfEquals_24 : decode cX0_lowestOfEquals 24 = .ok (.iconst 1, 1) := by decide +kernel
theorem dX0_lowestOfEquals_25 : decode cX0_lowestOfEquals 25 = .ok (.iload 5, 2) := by decide +kernel
theorem dX0_lowestOfEquals_27 : decode cX0_lowestOfEquals 27 = .ok (.ishl, 1) := by decide +kernel
theorem dX0_lowestOfEquals_28 : decode cX0_lowestOfEquals 28 = .ok (.iconst (-1), 1) := by decide +kernel
theorem dX0_lowestOfEquals_29 : decode cX0_lowestOfEquals 29 = .ok (.ixor, 1) := by decide +kernel
theorem dX0_lowestOfEquals_30 : decode cX0_lowestOfEquals 30 = .ok (.iand, 1) := by decide +kernel
theorem dX0_lowestOfEquals_31 : decode cX0_lowestOfEquals 31 = .ok (.istore_n 3, 1) := by decide +kernel
theorem dX0_lowestOfEquals_32 : decode cX0_lowestOfEquals 32 = .ok (.iload 5, 2) := by decide +kernel
theorem dX0_lowestOfEquals_34 : decode cX0_lowestOfEquals 34 = .ok (.iload_n 0, 1) := by decide +kernel
theorem dX0_lowestOfEquals_35 : decode cX0_lowestOfEquals 35 = .ok (.iload_n 1, 1) := by decide +kernel
theorem dX0_lowestOfEquals_36 : decode cX0_lowestOfEquals 36 = .ok (.invokestatic 28, 3) := by decide +kernel
theorem dX0_lowestOfEquals_39 : decode cX0_lowestOfEquals 39 = .ok (.iconst (-1), 1) := by decide +kernel
theorem dX0_lowestOfEquals_40 : decode cX0_lowestOfEquals 40 = .ok (.if_icmp .ne 10, 3) := by decide +kernel
theorem dX0_lowestOfEquals_43 : decode cX0_lowestOfEquals 43 = .ok (.iload_n 2, 1) := by decide +kernel
theorem dX0_lowestOfEquals_44 : decode cX0_lowestOfEquals 44 = .ok (.iconst 1, 1) := by decide +kernel
theorem dX0_lowestOfEquals_45 : decode cX0_lowestOfEquals 45 = .ok (.iload 5, 2) := by decide +kernel
theorem dX0_lowestOfEquals_47 : decode cX0_lowestOfEquals 47 = .ok (.ishl, 1) := by decide +kernel
theorem dX0_lowestOfEquals_48 : decode cX0_lowestOfEquals 48 = .ok (.ior, 1) := by decide +kernel
theorem dX0_lowestOfEquals_49 : decode cX0_lowestOfEquals 49 = .ok (.istore_n 2, 1) := by decide +kernel
theorem dX0_lowestOfEquals_50 : decode cX0_lowestOfEquals 50 = .ok (.iinc 4 1, 3) := by decide +kernel
theorem dX0_lowestOfEquals_53 : decode cX0_lowestOfEquals 53 = .ok (.goto (-46), 3) := by decide +kernel
theorem dX0_lowestOfEquals_56 : decode cX0_lowestOfEquals 56 = .ok (.iload_n 2, 1) := by decide +kernel
theorem dX0_lowestOfEquals_57 : decode cX0_lowestOfEquals 57 = .ok (.ireturn, 1) := by decide +kernel
theorem dX1_init_0 : decode cX1_init 0 = .ok (.aload_n 0, 1) := by decide +kernel
theorem dX1_init_1 : decode cX1_init 1 = .ok (.invokespecial 1, 3) := by decide +kernel
theorem dX1_init_4 : decode cX1_init 4 = .ok (.aload_n 0, 1) := by decide +kernel
theorem dX1_init_5 : decode cX1_init 5 = .ok (.iconst 4, 1) := by decide +kernel
theorem dX1_init_6 : decode cX1_init 6 = .ok (.newarray .int, 2) := by decide +kernel
theorem dX1_init_8 : decode cX1_init 8 = .ok (.putfield 9, 3) := by decide +kernel
theorem dX1_init_11 : decode cX1_init 11 = .ok (.aload_n 0, 1) := by decide +kernel
theorem dX1_init_12 : decode cX1_init 12 = .ok (.bipush 16, 2) := by decide +kernel
theorem dX1_init_14 : decode cX1_init 14 = .ok (.newarray .int, 2) := by decide +kernel
theorem dX1_init_16 : decode cX1_init 16 = .ok (.putfield 15, 3) := by decide +kernel
theorem dX1_init_19 : decode cX1_init 19 = .ok (.aload_n 0, 1) := by decide +kernel
theorem dX1_init_20 : decode cX1_init 20 = .ok (.iconst 5, 1) := by decide +kernel
theorem dX1_init_21 : decode cX1_init 21 = .ok (.newarray .int, 2) := by decide +kernel
theorem dX1_init_23 : decode cX1_init 23 = .ok (.putfield 18, 3) := by decide +kernel
theorem dX1_init_26 : decode cX1_init 26 = .ok (.aload_n 0, 1) := by decide +kernel
theorem dX1_init_27 : decode cX1_init 27 = .ok (.iconst (-1), 1) := by decide +kernel
theorem dX1_init_28 : decode cX1_init 28 = .ok (.putfield 21, 3) := by decide +kernel
theorem dX1_init_31 : decode cX1_init 31 = .ok (.return_, 1) := by decide +kernel
theorem dX1_clearFor_0 : decode cX1_clearFor 0 = .ok (.aload_n 0, 1) := by decide +kernel
theorem dX1_clearFor_1 : decode cX1_clearFor 1 = .ok (.getfield 21, 3) := by decide +kernel
theorem dX1_clearFor_4 : decode cX1_clearFor 4 = .ok (.istore_n 2, 1) := by decide +kernel
theorem dX1_clearFor_5 : decode cX1_clearFor 5 = .ok (.aload_n 0, 1) := by decide +kernel
theorem dX1_clearFor_6 : decode cX1_clearFor 6 = .ok (.iload_n 1, 1) := by decide +kernel
theorem dX1_clearFor_7 : decode cX1_clearFor 7 = .ok (.putfield 21, 3) := by decide +kernel
theorem dX1_clearFor_10 : decode cX1_clearFor 10 = .ok (.iconst 0, 1) := by decide +kernel
theorem dX1_clearFor_11 : decode cX1_clearFor 11 = .ok (.istore_n 3, 1) := by decide +kernel
theorem dX1_clearFor_12 : decode cX1_clearFor 12 = .ok (.iload_n 3, 1) := by decide +kernel
theorem dX1_clearFor_13 : decode cX1_clearFor 13 = .ok (.aload_n 0, 1) := by decide +kernel
theorem dX1_clearFor_14 : decode cX1_clearFor 14 = .ok (.getfield 9, 3) := by decide +kernel
theorem dX1_clearFor_17 : decode cX1_clearFor 17 = .ok (.arraylength, 1) := by decide +kernel
theorem dX1_clearFor_18 : decode cX1_clearFor 18 = .ok (.if_icmp .ge 16, 3) := by decide +kernel
theorem dX1_clearFor_21 : decode cX1_clearFor 21 = .ok (.aload_n 0, 1) := by decide +kernel
theorem dX1_clearFor_22 : decode cX1_clearFor 22 = .ok (.getfield 9, 3) := by decide +kernel
theorem dX1_clearFor_25 : decode cX1_clearFor 25 = .ok (.iload_n 3, 1) := by decide +kernel
theorem dX1_clearFor_26 : decode cX1_clearFor 26 = .ok (.iconst 0, 1) := by decide +kernel
theorem dX1_clearFor_27 : decode cX1_clearFor 27 = .ok (.iastore, 1) := by decide +kernel
theorem dX1_clearFor_28 : decode cX1_clearFor 28 = .ok (.iinc 3 1, 3) := by decide +kernel
theorem dX1_clearFor_31 : decode cX1_clearFor 31 = .ok (.goto (-19), 3) := by decide +kernel
theorem dX1_clearFor_34 : decode cX1_clearFor 34 = .ok (.aload_n 0, 1) := by decide +kernel
theorem dX1_clearFor_35 : decode cX1_clearFor 35 = .ok (.iconst 0, 1) := by decide +kernel
theorem dX1_clearFor_36 : decode cX1_clearFor 36 = .ok (.putfield 25, 3) := by decide +kernel
theorem dX1_clearFor_39 : decode cX1_clearFor 39 = .ok (.aload_n 0, 1) := by decide +kernel
theorem dX1_clearFor_40 : decode cX1_clearFor 40 = .ok (.iconst 0, 1) := by decide +kernel
theorem dX1_clearFor_41 : decode cX1_clearFor 41 = .ok (.putfield 28, 3) := by decide +kernel
theorem dX1_clearFor_44 : decode cX1_clearFor 44 = .ok (.aload_n 0, 1) := by decide +kernel
theorem dX1_clearFor_45 : decode cX1_clearFor 45 = .ok (.iconst 0, 1) := by decide +kernel
theorem dX1_clearFor_46 : decode cX1_clearFor 46 = .ok (.putfield 32, 3) := by decide +kernel
theorem dX1_clearFor_49 : decode cX1_clearFor 49 = .ok (.aload_n 0, 1) := by decide +kernel
theorem dX1_clearFor_50 : decode cX1_clearFor 50 = .ok (.iconst 0, 1) := by decide +kernel
theorem dX1_clearFor_51 : decode cX1_clearFor 51 = .ok (.putfield 35, 3) := by decide +kernel
theorem dX1_clearFor_54 : decode cX1_clearFor 54 = .ok (.iload_n 2, 1) := by decide +kernel
theorem dX1_clearFor_55 : decode cX1_clearFor 55 = .ok (.ireturn, 1) := by decide +kernel
set_option maxRecDepth 20000 in
theorem ggX1_canDeal_X0_holds : GoodIn wsX1_canDeal wsX0_holds := goodIn_r _ [6] (by decide +kernel) (by decide +kernel)
set_option maxRecDepth 20000 in
theorem gX1_canDeal_X0_holds : GoodIn wsX1_canDeal (va_wsS RX1 38 yX0_holds wsX0_holds) := goodIn_app (goodIn_of _ (by decide +kernel)) ggX1_canDeal_X0_holds
set_option maxRecDepth 20000 in
theorem ggX1_canDeal_X1_handOf : GoodIn wsX1_canDeal wsX1_handOf := goodIn_r _ [11, 12, 20, 21, 22, 23, 24, 25, 26, 27] (by decide +kernel) (by decide +kernel)
set_option maxRecDepth 20000 in
theorem gX1_canDeal_X1_handOf : GoodIn wsX1_canDeal (wsV RX1 42 RX1 yX1_handOf wsX1_handOf) := goodIn_app (goodIn_of _ (by decide +kernel)) ggX1_canDeal_X1_handOf
set_option maxRecDepth 20000 in
theorem ggX1_canDeal_J6_bitCount_0f7a4 : GoodIn wsX1_canDeal wsJ6_bitCount_0f7a4 := goodIn_r _ [16, 17, 18, 19] (by decide +kernel) (by decide +kernel)
set_option maxRecDepth 20000 in
theorem gX1_canDeal_J6_bitCount_0f7a4 : GoodIn wsX1_canDeal (va_wsS RX1 46 yJ6_bitCount_0f7a4 wsJ6_bitCount_0f7a4) := goodIn_app (goodIn_of _ (by decide +kernel)) ggX1_canDeal_J6_bitCount_0f7a4
theorem dX1_canDeal_0 : decode cX1_canDeal 0 = .ok (.aload_n 0, 1) := by decide +kernel
theorem dX1_canDeal_1 : decode cX1_canDeal 1 = .ok (.getfield 28, 3) := by decide +kernel
theorem dX1_canDeal_4 : decode cX1_canDeal 4 = .ok (.ifCond .ne 30, 3) := by decide +kernel
theorem dX1_canDeal_7 : decode cX1_canDeal 7 = .ok (.aload_n 0, 1) := by decide +kernel
theorem dX1_canDeal_8 : decode cX1_canDeal 8 = .ok (.getfield 25, 3) := by decide +kernel
theorem dX1_canDeal_11 : decode cX1_canDeal 11 = .ok (.iload_n 2, 1) := by decide +kernel
theorem dX1_canDeal_12 : decode cX1_canDeal 12 = .ok (.invokestatic 38, 3) := by decide +kernel
theorem dX1_canDeal_15 : decode cX1_canDeal 15 = .ok (.ifCond .ne 19, 3) := by decide +kernel
theorem dX1_canDeal_18 : decode cX1_canDeal 18 = .ok (.aload_n 0, 1) := by decide +kernel
theorem dX1_canDeal_19 : decode cX1_canDeal 19 = .ok (.iload_n 1, 1) := by decide +kernel
theorem dX1_canDeal_20 : decode cX1_canDeal 20 = .ok (.invokevirtual 42, 3) := by decide +kernel
theorem dX1_canDeal_23 : decode cX1_canDeal 23 = .ok (.invokestatic 46, 3) := by decide +kernel
theorem dX1_canDeal_26 : decode cX1_canDeal 26 = .ok (.iconst 4, 1) := by decide +kernel
theorem dX1_canDeal_27 : decode cX1_canDeal 27 = .ok (.if_icmp .ge 7, 3) := by decide +kernel
theorem dX1_canDeal_30 : decode cX1_canDeal 30 = .ok (.iconst 1, 1) := by decide +kernel
theorem dX1_canDeal_31 : decode cX1_canDeal 31 = .ok (.goto 4, 3) := by decide +kernel
theorem dX1_canDeal_34 : decode cX1_canDeal 34 = .ok (.iconst 0, 1) := by decide +kernel
theorem dX1_canDeal_35 : decode cX1_canDeal 35 = .ok (.ireturn, 1) := by decide +kernel
set_option maxRecDepth 20000 in
theorem ggX1_deal_X1_addTo : GoodIn wsX1_deal wsX1_addTo := goodIn_r _ [6, 7, 19, 20, 21, 22, 23, 24, 25, 26] (by decide +kernel) (by decide +kernel)
set_option maxRecDepth 20000 in
theorem gX1_deal_X1_addTo : GoodIn wsX1_deal (wsV RX1 51 RX1 yX1_addTo wsX1_addTo) := goodIn_app (goodIn_of _ (by decide +kernel)) ggX1_deal_X1_addTo
set_option maxRecDepth 20000 in
theorem ggX1_deal_X1_handOf : GoodIn wsX1_deal wsX1_handOf := goodIn_r _ [11, 7, 19, 20, 21, 22, 23, 24, 25, 26] (by decide +kernel) (by decide +kernel)
set_option maxRecDepth 20000 in
theorem gX1_deal_X1_handOf : GoodIn wsX1_deal (wsV RX1 42 RX1 yX1_handOf wsX1_handOf) := goodIn_app (goodIn_of _ (by decide +kernel)) ggX1_deal_X1_handOf
set_option maxRecDepth 20000 in
theorem ggX1_deal_J6_bitCount_0f7a4 : GoodIn wsX1_deal wsJ6_bitCount_0f7a4 := goodIn_r _ [15, 16, 17, 18] (by decide +kernel) (by decide +kernel)
set_option maxRecDepth 20000 in
theorem gX1_deal_J6_bitCount_0f7a4 : GoodIn wsX1_deal (va_wsS RX1 46 yJ6_bitCount_0f7a4 wsJ6_bitCount_0f7a4) := goodIn_app (goodIn_of _ (by decide +kernel)) ggX1_deal_J6_bitCount_0f7a4
theorem dX1_deal_0 : decode cX1_deal 0 = .ok (.aload_n 0, 1) := by decide +kernel
theorem dX1_deal_1 : decode cX1_deal 1 = .ok (.dup, 1) := by decide +kernel
theorem dX1_deal_2 : decode cX1_deal 2 = .ok (.getfield 25, 3) := by decide +kernel
theorem dX1_deal_5 : decode cX1_deal 5 = .ok (.iconst 1, 1) := by decide +kernel
theorem dX1_deal_6 : decode cX1_deal 6 = .ok (.iload_n 2, 1) := by decide +kernel
theorem dX1_deal_7 : decode cX1_deal 7 = .ok (.ishl, 1) := by decide +kernel
theorem dX1_deal_8 : decode cX1_deal 8 = .ok (.ior, 1) := by decide +kernel
theorem dX1_deal_9 : decode cX1_deal 9 = .ok (.putfield 25, 3) := by decide +kernel
theorem dX1_deal_12 : decode cX1_deal 12 = .ok (.aload_n 0, 1) := by decide +kernel
theorem dX1_deal_13 : decode cX1_deal 13 = .ok (.iload_n 1, 1) := by decide +kernel
theorem dX1_deal_14 : decode cX1_deal 14 = .ok (.iload_n 2, 1) := by decide +kernel
theorem dX1_deal_15 : decode cX1_deal 15 = .ok (.invokevirtual 51, 3) := by decide +kernel
theorem dX1_deal_18 : decode cX1_deal 18 = .ok (.aload_n 0, 1) := by decide +kernel
theorem dX1_deal_19 : decode cX1_deal 19 = .ok (.iload_n 1, 1) := by decide +kernel
theorem dX1_deal_20 : decode cX1_deal 20 = .ok (.invokevirtual 42, 3) := by decide +kernel
theorem dX1_deal_23 : decode cX1_deal 23 = .ok (.invokestatic 46, 3) := by decide +kernel
theorem dX1_deal_26 : decode cX1_deal 26 = .ok (.ireturn, 1) := by decide +kernel
set_option maxRecDepth 20000 in
theorem ggX1_canOpen_X1_handOf : GoodIn wsX1_canOpen wsX1_handOf := goodIn_r _ [6, 7, 15, 16, 17, 18, 19, 20, 21, 22] (by decide +kernel) (by decide +kernel)
set_option maxRecDepth 20000 in
theorem gX1_canOpen_X1_handOf : GoodIn wsX1_canOpen (wsV RX1 42 RX1 yX1_handOf wsX1_handOf) := goodIn_app (goodIn_of _ (by decide +kernel)) ggX1_canOpen_X1_handOf
set_option maxRecDepth 20000 in
theorem ggX1_canOpen_J6_bitCount_0f7a4 : GoodIn wsX1_canOpen wsJ6_bitCount_0f7a4 := goodIn_r _ [11, 12, 13, 14] (by decide +kernel) (by decide +kernel)
set_option maxRecDepth 20000 in
theorem gX1_canOpen_J6_bitCount_0f7a4 : GoodIn wsX1_canOpen (va_wsS RX1 46 yJ6_bitCount_0f7a4 wsJ6_bitCount_0f7a4) := goodIn_app (goodIn_of _ (by decide +kernel)) ggX1_canOpen_J6_bitCount_0f7a4
theorem dX1_canOpen_0 : decode cX1_canOpen 0 = .ok (.aload_n 0, 1) := by decide +kernel
theorem dX1_canOpen_1 : decode cX1_canOpen 1 = .ok (.iconst 0, 1) := by decide +kernel
theorem dX1_canOpen_2 : decode cX1_canOpen 2 = .ok (.invokevirtual 42, 3) := by decide +kernel
theorem dX1_canOpen_5 : decode cX1_canOpen 5 = .ok (.invokestatic 46, 3) := by decide +kernel
theorem dX1_canOpen_8 : decode cX1_canOpen 8 = .ok (.istore_n 1, 1) := by decide +kernel
theorem dX1_canOpen_9 : decode cX1_canOpen 9 = .ok (.aload_n 0, 1) := by decide +kernel
theorem dX1_canOpen_10 : decode cX1_canOpen 10 = .ok (.getfield 28, 3) := by decide +kernel
theorem dX1_canOpen_13 : decode cX1_canOpen 13 = .ok (.ifCond .ne 7, 3) := by decide +kernel
theorem dX1_canOpen_16 : decode cX1_canOpen 16 = .ok (.iload_n 1, 1) := by decide +kernel
theorem dX1_canOpen_17 : decode cX1_canOpen 17 = .ok (.ifCond .ne 5, 3) := by decide +kernel
theorem dX1_canOpen_20 : decode cX1_canOpen 20 = .ok (.iconst 0, 1) := by decide +kernel
theorem dX1_canOpen_21 : decode cX1_canOpen 21 = .ok (.ireturn, 1) := by decide +kernel
theorem dX1_canOpen_22 : decode cX1_canOpen 22 = .ok (.iconst 1, 1) := by decide +kernel
theorem dX1_canOpen_23 : decode cX1_canOpen 23 = .ok (.istore_n 2, 1) := by decide +kernel
theorem dX1_canOpen_24 : decode cX1_canOpen 24 = .ok (.iload_n 2, 1) := by decide +kernel
theorem dX1_canOpen_25 : decode cX1_canOpen 25 = .ok (.iconst 4, 1) := by decide +kernel
theorem dX1_canOpen_26 : decode cX1_canOpen 26 = .ok (.if_icmp .ge 23, 3) := by decide +kernel
theorem dX1_canOpen_29 : decode cX1_canOpen 29 = .ok (.aload_n 0, 1) := by decide +kernel
theorem dX1_canOpen_30 : decode cX1_canOpen 30 = .ok (.iload_n 2, 1) := by decide +kernel
theorem dX1_canOpen_31 : decode cX1_canOpen 31 = .ok (.invokevirtual 42, 3) := by decide +kernel
theorem dX1_canOpen_34 : decode cX1_canOpen 34 = .ok (.invokestatic 46, 3) := by decide +kernel
theorem dX1_canOpen_37 : decode cX1_canOpen 37 = .ok (.iload_n 1, 1) := by decide +kernel
theorem dX1_canOpen_38 : decode cX1_canOpen 38 = .ok (.if_icmp .eq 5, 3) := by decide +kernel
theorem dX1_canOpen_41 : decode cX1_canOpen 41 = .ok (.iconst 0, 1) := by decide +kernel
theorem dX1_canOpen_42 : decode cX1_canOpen 42 = .ok (.ireturn, 1) := by decide +kernel
theorem dX1_canOpen_43 : decode cX1_canOpen 43 = .ok (.iinc 2 1, 3) := by decide +kernel
theorem dX1_canOpen_46 : decode cX1_canOpen 46 = .ok (.goto (-22), 3) := by decide +kernel
theorem dX1_canOpen_49 : decode cX1_canOpen 49 = .ok (.iconst 1, 1) := by decide +kernel
theorem dX1_canOpen_50 : decode cX1_canOpen 50 = .ok (.ireturn, 1) := by decide +kernel
set_option maxRecDepth 20000 in
theorem ggX1_open_X1_handOf : GoodIn wsX1_open wsX1_handOf := goodIn_r _ [8, 9, 17, 18, 19, 20, 21, 22, 23, 24] (by decide +kernel) (by decide +kernel)
set_option maxRecDepth 20000 in
theorem gX1_open_X1_handOf : GoodIn wsX1_open (wsV RX1 42 RX1 yX1_handOf wsX1_handOf) := goodIn_app (goodIn_of _ (by decide +kernel)) ggX1_open_X1_handOf
set_option maxRecDepth 20000 in
theorem ggX1_open_J6_bitCount_0f7a4 : GoodIn wsX1_open wsJ6_bitCount_0f7a4 := goodIn_r _ [13, 14, 15, 16] (by decide +kernel) (by decide +kernel)
set_option maxRecDepth 20000 in
theorem gX1_open_J6_bitCount_0f7a4 : GoodIn wsX1_open (va_wsS RX1 46 yJ6_bitCount_0f7a4 wsJ6_bitCount_0f7a4) := goodIn_app (goodIn_of _ (by decide +kernel)) ggX1_open_J6_bitCount_0f7a4
theorem dX1_open_0 : decode cX1_open 0 = .ok (.aload_n 0, 1) := by decide +kernel
theorem dX1_open_1 : decode cX1_open 1 = .ok (.iconst 1, 1) := by decide +kernel
theorem dX1_open_2 : decode cX1_open 2 = .ok (.putfield 28, 3) := by decide +kernel
theorem dX1_open_5 : decode cX1_open 5 = .ok (.aload_n 0, 1) := by decide +kernel
theorem dX1_open_6 : decode cX1_open 6 = .ok (.aload_n 0, 1) := by decide +kernel
theorem dX1_open_7 : decode cX1_open 7 = .ok (.iconst 0, 1) := by decide +kernel
theorem dX1_open_8 : decode cX1_open 8 = .ok (.invokevirtual 42, 3) := by decide +kernel
theorem dX1_open_11 : decode cX1_open 11 = .ok (.invokestatic 46, 3) := by decide +kernel
theorem dX1_open_14 : decode cX1_open 14 = .ok (.putfield 32, 3) := by decide +kernel
theorem dX1_open_17 : decode cX1_open 17 = .ok (.aload_n 0, 1) := by decide +kernel
theorem dX1_open_18 : decode cX1_open 18 = .ok (.getfield 18, 3) := by decide +kernel
theorem dX1_open_21 : decode cX1_open 21 = .ok (.iconst 0, 1) := by decide +kernel
theorem dX1_open_22 : decode cX1_open 22 = .ok (.iload_n 1, 1) := by decide +kernel
theorem dX1_open_23 : decode cX1_open 23 = .ok (.iastore, 1) := by decide +kernel
theorem dX1_open_24 : decode cX1_open 24 = .ok (.aload_n 0, 1) := by decide +kernel
theorem dX1_open_25 : decode cX1_open 25 = .ok (.getfield 32, 3) := by decide +kernel
theorem dX1_open_28 : decode cX1_open 28 = .ok (.ireturn, 1) := by decide +kernel
theorem dX1_isOpen_0 : decode cX1_isOpen 0 = .ok (.aload_n 0, 1) := by decide +kernel
theorem dX1_isOpen_1 : decode cX1_isOpen 1 = .ok (.getfield 28, 3) := by decide +kernel
theorem dX1_isOpen_4 : decode cX1_isOpen 4 = .ok (.ireturn, 1) := by decide +kernel
theorem dX1_laidCount_0 : decode cX1_laidCount 0 = .ok (.aload_n 0, 1) := by decide +kernel
theorem dX1_laidCount_1 : decode cX1_laidCount 1 = .ok (.getfield 35, 3) := by decide +kernel
theorem dX1_laidCount_4 : decode cX1_laidCount 4 = .ok (.ireturn, 1) := by decide +kernel
theorem dX1_cardsLeft_0 : decode cX1_cardsLeft 0 = .ok (.aload_n 0, 1) := by decide +kernel
theorem dX1_cardsLeft_1 : decode cX1_cardsLeft 1 = .ok (.getfield 32, 3) := by decide +kernel
theorem dX1_cardsLeft_4 : decode cX1_cardsLeft 4 = .ok (.iconst 4, 1) := by decide +kernel
theorem dX1_cardsLeft_5 : decode cX1_cardsLeft 5 = .ok (.imul, 1) := by decide +kernel
theorem dX1_cardsLeft_6 : decode cX1_cardsLeft 6 = .ok (.aload_n 0, 1) := by decide +kernel
theorem dX1_cardsLeft_7 : decode cX1_cardsLeft 7 = .ok (.getfield 35, 3) := by decide +kernel
theorem dX1_cardsLeft_10 : decode cX1_cardsLeft 10 = .ok (.isub, 1) := by decide +kernel
theorem dX1_cardsLeft_11 : decode cX1_cardsLeft 11 = .ok (.ireturn, 1) := by decide +kernel
set_option maxRecDepth 20000 in
theorem ggX1_tricksLeft_X1_tricksOver : GoodIn wsX1_tricksLeft wsX1_tricksOver := goodIn_r _ [6, 7, 8, 9, 10, 11, 12, 13, 14, 15] (by decide +kernel) (by decide +kernel)
set_option maxRecDepth 20000 in
theorem gX1_tricksLeft_X1_tricksOver : GoodIn wsX1_tricksLeft (wsV RX1 55 RX1 yX1_tricksOver wsX1_tricksOver) := goodIn_app (goodIn_of _ (by decide +kernel)) ggX1_tricksLeft_X1_tricksOver
theorem dX1_tricksLeft_0 : decode cX1_tricksLeft 0 = .ok (.aload_n 0, 1) := by decide +kernel
theorem dX1_tricksLeft_1 : decode cX1_tricksLeft 1 = .ok (.getfield 32, 3) := by decide +kernel
theorem dX1_tricksLeft_4 : decode cX1_tricksLeft 4 = .ok (.aload_n 0, 1) := by decide +kernel
theorem dX1_tricksLeft_5 : decode cX1_tricksLeft 5 = .ok (.invokevirtual 55, 3) := by decide +kernel
theorem dX1_tricksLeft_8 : decode cX1_tricksLeft 8 = .ok (.isub, 1) := by decide +kernel
theorem dX1_tricksLeft_9 : decode cX1_tricksLeft 9 = .ok (.ireturn, 1) := by decide +kernel
theorem dX1_tricksOver_0 : decode cX1_tricksOver 0 = .ok (.aload_n 0, 1) := by decide +kernel
theorem dX1_tricksOver_1 : decode cX1_tricksOver 1 = .ok (.getfield 35, 3) := by decide +kernel
theorem dX1_tricksOver_4 : decode cX1_tricksOver 4 = .ok (.iconst 4, 1) := by decide +kernel
theorem dX1_tricksOver_5 : decode cX1_tricksOver 5 = .ok (.idiv, 1) := by decide +kernel
theorem dX1_tricksOver_6 : decode cX1_tricksOver 6 = .ok (.ireturn, 1) := by decide +kernel
theorem dX1_trickSize_0 : decode cX1_trickSize 0 = .ok (.aload_n 0, 1) := by decide +kernel
theorem dX1_trickSize_1 : decode cX1_trickSize 1 = .ok (.getfield 35, 3) := by decide +kernel
theorem dX1_trickSize_4 : decode cX1_trickSize 4 = .ok (.iconst 4, 1) := by decide +kernel
theorem dX1_trickSize_5 : decode cX1_trickSize 5 = .ok (.irem, 1) := by decide +kernel
theorem dX1_trickSize_6 : decode cX1_trickSize 6 = .ok (.ireturn, 1) := by decide +kernel
set_option maxRecDepth 20000 in
theorem ggX1_mover_X1_cardsLeft : GoodIn wsX1_mover wsX1_cardsLeft := goodIn_r _ [6, 7, 8, 22, 23, 24, 25, 26, 27, 28, 29] (by decide +kernel) (by decide +kernel)
set_option maxRecDepth 20000 in
theorem gX1_mover_X1_cardsLeft : GoodIn wsX1_mover (wsV RX1 59 RX1 yX1_cardsLeft wsX1_cardsLeft) := goodIn_app (goodIn_of _ (by decide +kernel)) ggX1_mover_X1_cardsLeft
set_option maxRecDepth 20000 in
theorem ggX1_mover_X1_tricksOver : GoodIn wsX1_mover wsX1_tricksOver := goodIn_r _ [12, 8, 22, 23, 24, 25, 26, 27, 28, 29] (by decide +kernel) (by decide +kernel)
set_option maxRecDepth 20000 in
theorem gX1_mover_X1_tricksOver : GoodIn wsX1_mover (wsV RX1 55 RX1 yX1_tricksOver wsX1_tricksOver) := goodIn_app (goodIn_of _ (by decide +kernel)) ggX1_mover_X1_tricksOver
set_option maxRecDepth 20000 in
theorem ggX1_mover_X1_leaderOf : GoodIn wsX1_mover wsX1_leaderOf := goodIn_r _ [16, 17, 22, 23, 24, 25, 26, 27, 28, 29] (by decide +kernel) (by decide +kernel)
set_option maxRecDepth 20000 in
theorem gX1_mover_X1_leaderOf : GoodIn wsX1_mover (wsV RX1 62 RX1 yX1_leaderOf wsX1_leaderOf) := goodIn_app (goodIn_of _ (by decide +kernel)) ggX1_mover_X1_leaderOf
set_option maxRecDepth 20000 in
theorem ggX1_mover_X1_trickSize : GoodIn wsX1_mover wsX1_trickSize := goodIn_r _ [21, 8, 22, 23, 24, 25, 26, 27, 28, 29] (by decide +kernel) (by decide +kernel)
set_option maxRecDepth 20000 in
theorem gX1_mover_X1_trickSize : GoodIn wsX1_mover (wsV RX1 65 RX1 yX1_trickSize wsX1_trickSize) := goodIn_app (goodIn_of _ (by decide +kernel)) ggX1_mover_X1_trickSize
theorem dX1_mover_0 : decode cX1_mover 0 = .ok (.aload_n 0, 1) := by decide +kernel
theorem dX1_mover_1 : decode cX1_mover 1 = .ok (.getfield 28, 3) := by decide +kernel
theorem dX1_mover_4 : decode cX1_mover 4 = .ok (.ifCond .eq 10, 3) := by decide +kernel
theorem dX1_mover_7 : decode cX1_mover 7 = .ok (.aload_n 0, 1) := by decide +kernel
theorem dX1_mover_8 : decode cX1_mover 8 = .ok (.invokevirtual 59, 3) := by decide +kernel
theorem dX1_mover_11 : decode cX1_mover 11 = .ok (.ifCond .gt 5, 3) := by decide +kernel
theorem dX1_mover_14 : decode cX1_mover 14 = .ok (.iconst (-1), 1) := by decide +kernel
theorem dX1_mover_15 : decode cX1_mover 15 = .ok (.ireturn, 1) := by decide +kernel
theorem dX1_mover_16 : decode cX1_mover 16 = .ok (.aload_n 0, 1) := by decide +kernel
theorem dX1_mover_17 : decode cX1_mover 17 = .ok (.aload_n 0, 1) := by decide +kernel
theorem dX1_mover_18 : decode cX1_mover 18 = .ok (.invokevirtual 55, 3) := by decide +kernel
theorem dX1_mover_21 : decode cX1_mover 21 = .ok (.invokevirtual 62, 3) := by decide +kernel
theorem dX1_mover_24 : decode cX1_mover 24 = .ok (.aload_n 0, 1) := by decide +kernel
theorem dX1_mover_25 : decode cX1_mover 25 = .ok (.invokevirtual 65, 3) := by decide +kernel
theorem dX1_mover_28 : decode cX1_mover 28 = .ok (.iadd, 1) := by decide +kernel
theorem dX1_mover_29 : decode cX1_mover 29 = .ok (.iconst 4, 1) := by decide +kernel
theorem dX1_mover_30 : decode cX1_mover 30 = .ok (.irem, 1) := by decide +kernel
theorem dX1_mover_31 : decode cX1_mover 31 = .ok (.ireturn, 1) := by decide +kernel
theorem dX1_leaderOf_0 : decode cX1_leaderOf 0 = .ok (.iload_n 1, 1) := by decide +kernel
theorem dX1_leaderOf_1 : decode cX1_leaderOf 1 = .ok (.ifCond .lt 21, 3) := by decide +kernel
theorem dX1_leaderOf_4 : decode cX1_leaderOf 4 = .ok (.iload_n 1, 1) := by decide +kernel
theorem dX1_leaderOf_5 : decode cX1_leaderOf 5 = .ok (.aload_n 0, 1) := by decide +kernel
theorem dX1_leaderOf_6 : decode cX1_leaderOf 6 = .ok (.getfield 18, 3) := by decide +kernel
theorem dX1_leaderOf_9 : decode cX1_leaderOf 9 = .ok (.arraylength, 1) := by decide +kernel
theorem dX1_leaderOf_10 : decode cX1_leaderOf 10 = .ok (.if_icmp .ge 12, 3) := by decide +kernel
theorem dX1_leaderOf_13 : decode cX1_leaderOf 13 = .ok (.aload_n 0, 1) := by decide +kernel
theorem dX1_leaderOf_14 : decode cX1_leaderOf 14 = .ok (.getfield 18, 3) := by decide +kernel
theorem dX1_leaderOf_17 : decode cX1_leaderOf 17 = .ok (.iload_n 1, 1) := by decide +kernel
theorem dX1_leaderOf_18 : decode cX1_leaderOf 18 = .ok (.iaload, 1) := by decide +kernel
theorem dX1_leaderOf_19 : decode cX1_leaderOf 19 = .ok (.goto 4, 3) := by decide +kernel
theorem dX1_leaderOf_22 : decode cX1_leaderOf 22 = .ok (.iconst 0, 1) := by decide +kernel
theorem dX1_leaderOf_23 : decode cX1_leaderOf 23 = .ok (.ireturn, 1) := by decide +kernel
theorem dX1_laidAt_0 : decode cX1_laidAt 0 = .ok (.iload_n 1, 1) := by decide +kernel
theorem dX1_laidAt_1 : decode cX1_laidAt 1 = .ok (.ifCond .lt 21, 3) := by decide +kernel
theorem dX1_laidAt_4 : decode cX1_laidAt 4 = .ok (.iload_n 1, 1) := by decide +kernel
theorem dX1_laidAt_5 : decode cX1_laidAt 5 = .ok (.aload_n 0, 1) := by decide +kernel
theorem dX1_laidAt_6 : decode cX1_laidAt 6 = .ok (.getfield 15, 3) := by decide +kernel
theorem dX1_laidAt_9 : decode cX1_laidAt 9 = .ok (.arraylength, 1) := by decide +kernel
theorem dX1_laidAt_10 : decode cX1_laidAt 10 = .ok (.if_icmp .ge 12, 3) := by decide +kernel
theorem dX1_laidAt_13 : decode cX1_laidAt 13 = .ok (.aload_n 0, 1) := by decide +kernel
theorem dX1_laidAt_14 : decode cX1_laidAt 14 = .ok (.getfield 15, 3) := by decide +kernel
theorem dX1_laidAt_17 : decode cX1_laidAt 17 = .ok (.iload_n 1, 1) := by decide +kernel
theorem dX1_laidAt_18 : decode cX1_laidAt 18 = .ok (.iaload, 1) := by decide +kernel
theorem dX1_laidAt_19 : decode cX1_laidAt 19 = .ok (.goto 4, 3) := by decide +kernel
theorem dX1_laidAt_22 : decode cX1_laidAt 22 = .ok (.iconst 0, 1) := by decide +kernel
theorem dX1_laidAt_23 : decode cX1_laidAt 23 = .ok (.ireturn, 1) := by decide +kernel
theorem dX1_handOf_0 : decode cX1_handOf 0 = .ok (.iload_n 1, 1) := by decide +kernel
theorem dX1_handOf_1 : decode cX1_handOf 1 = .ok (.ifCond .lt 21, 3) := by decide +kernel
theorem dX1_handOf_4 : decode cX1_handOf 4 = .ok (.iload_n 1, 1) := by decide +kernel
theorem dX1_handOf_5 : decode cX1_handOf 5 = .ok (.aload_n 0, 1) := by decide +kernel
theorem dX1_handOf_6 : decode cX1_handOf 6 = .ok (.getfield 9, 3) := by decide +kernel
theorem dX1_handOf_9 : decode cX1_handOf 9 = .ok (.arraylength, 1) := by decide +kernel
theorem dX1_handOf_10 : decode cX1_handOf 10 = .ok (.if_icmp .ge 12, 3) := by decide +kernel
theorem dX1_handOf_13 : decode cX1_handOf 13 = .ok (.aload_n 0, 1) := by decide +kernel
theorem dX1_handOf_14 : decode cX1_handOf 14 = .ok (.getfield 9, 3) := by decide +kernel
theorem dX1_handOf_17 : decode cX1_handOf 17 = .ok (.iload_n 1, 1) := by decide +kernel
theorem dX1_handOf_18 : decode cX1_handOf 18 = .ok (.iaload, 1) := by decide +kernel
theorem dX1_handOf_19 : decode cX1_handOf 19 = .ok (.goto 4, 3) := by decide +kernel
theorem dX1_handOf_22 : decode cX1_handOf 22 = .ok (.iconst 0, 1) := by decide +kernel
theorem dX1_handOf_23 : decode cX1_handOf 23 = .ok (.ireturn, 1) := by decide +kernel
theorem dX1_addTo_0 : decode cX1_addTo 0 = .ok (.iload_n 1, 1) := by decide +kernel
theorem dX1_addTo_1 : decode cX1_addTo 1 = .ok (.ifCond .lt 24, 3) := by decide +kernel
theorem dX1_addTo_4 : decode cX1_addTo 4 = .ok (.iload_n 1, 1) := by decide +kernel
theorem dX1_addTo_5 : decode cX1_addTo 5 = .ok (.aload_n 0, 1) := by decide +kernel
theorem dX1_addTo_6 : decode cX1_addTo 6 = .ok (.getfield 9, 3) := by decide +kernel
theorem dX1_addTo_9 : decode cX1_addTo 9 = .ok (.arraylength, 1) := by decide +kernel
theorem dX1_addTo_10 : decode cX1_addTo 10 = .ok (.if_icmp .ge 15, 3) := by decide +kernel
theorem dX1_addTo_13 : decode cX1_addTo 13 = .ok (.aload_n 0, 1) := by decide +kernel
theorem dX1_addTo_14 : decode cX1_addTo 14 = .ok (.getfield 9, 3) := by decide +kernel
theorem dX1_addTo_17 : decode cX1_addTo 17 = .ok (.iload_n 1, 1) := by decide +kernel
theorem dX1_addTo_18 : decode cX1_addTo 18 = .ok (.dup2, 1) := by decide +kernel
theorem dX1_addTo_19 : decode cX1_addTo 19 = .ok (.iaload, 1) := by decide +kernel
theorem dX1_addTo_20 : decode cX1_addTo 20 = .ok (.iconst 1, 1) := by decide +kernel
theorem dX1_addTo_21 : decode cX1_addTo 21 = .ok (.iload_n 2, 1) := by decide +kernel
theorem dX1_addTo_22 : decode cX1_addTo 22 = .ok (.ishl, 1) := by decide +kernel
theorem dX1_addTo_23 : decode cX1_addTo 23 = .ok (.ior, 1) := by decide +kernel
theorem dX1_addTo_24 : decode cX1_addTo 24 = .ok (.iastore, 1) := by decide +kernel
theorem dX1_addTo_25 : decode cX1_addTo 25 = .ok (.return_, 1) := by decide +kernel
theorem dX1_dropFrom_0 : decode cX1_dropFrom 0 = .ok (.iload_n 1, 1) := by decide +kernel
theorem dX1_dropFrom_1 : decode cX1_dropFrom 1 = .ok (.ifCond .lt 26, 3) := by decide +kernel
theorem dX1_dropFrom_4 : decode cX1_dropFrom 4 = .ok (.iload_n 1, 1) := by decide +kernel
theorem dX1_dropFrom_5 : decode cX1_dropFrom 5 = .ok (.aload_n 0, 1) := by decide +kernel
theorem dX1_dropFrom_6 : decode cX1_dropFrom 6 = .ok (.getfield 9, 3) := by decide +kernel
theorem dX1_dropFrom_9 : decode cX1_dropFrom 9 = .ok (.arraylength, 1) := by decide +kernel
theorem dX1_dropFrom_10 : decode cX1_dropFrom 10 = .ok (.if_icmp .ge 17, 3) := by decide +kernel
theorem dX1_dropFrom_13 : decode cX1_dropFrom 13 = .ok (.aload_n 0, 1) := by decide +kernel
theorem dX1_dropFrom_14 : decode cX1_dropFrom 14 = .ok (.getfield 9, 3) := by decide +kernel
theorem dX1_dropFrom_17 : decode cX1_dropFrom 17 = .ok (.iload_n 1, 1) := by decide +kernel
theorem dX1_dropFrom_18 : decode cX1_dropFrom 18 = .ok (.dup2, 1) := by decide +kernel
end
section
theorem dX1_dropFrom_19 : decode cX1_dropFrom 19 = .ok (.iaload, 1) := by decide +kernel
theorem dX1_dropFrom_20 : decode cX1_dropFrom 20 = .ok (.iconst 1, 1) := by decide +kernel
theorem dX1_dropFrom_21 : decode cX1_dropFrom 21 = .ok (.iload_n 2, 1) := by decide +kernel
theorem dX1_dropFrom_22 : decode cX1_dropFrom 22 = .ok (.ishl, 1) := by decide +kernel
theorem dX1_dropFrom_23 : decode cX1_dropFrom 23 = .ok (.iconst (-1), 1) := by decide +kernel
theorem dX1_dropFrom_24 : decode cX1_dropFrom 24 = .ok (.ixor, 1) := by decide +kernel
theorem dX1_dropFrom_25 : decode cX1_dropFrom 25 = .ok (.iand, 1) := by decide +kernel
theorem dX1_dropFrom_26 : decode cX1_dropFrom 26 = .ok (.iastore, 1) := by decide +kernel
theorem dX1_dropFrom_27 : decode cX1_dropFrom 27 = .ok (.return_, 1) := by decide +kernel
set_option maxRecDepth 20000 in
theorem ggX1_trickCard_X1_trickSize : GoodIn wsX1_trickCard wsX1_trickSize := goodIn_r _ [6, 1, 12, 13, 14, 15, 16, 17, 18, 19] (by decide +kernel) (by decide +kernel)
set_option maxRecDepth 20000 in
theorem gX1_trickCard_X1_trickSize : GoodIn wsX1_trickCard (wsV RX1 65 RX1 yX1_trickSize wsX1_trickSize) := goodIn_app (goodIn_of _ (by decide +kernel)) ggX1_trickCard_X1_trickSize
set_option maxRecDepth 20000 in
theorem ggX1_trickCard_X1_laidAt : GoodIn wsX1_trickCard wsX1_laidAt := goodIn_r _ [10, 11, 12, 13, 14, 15, 16, 17, 18, 19] (by decide +kernel) (by decide +kernel)
set_option maxRecDepth 20000 in
theorem gX1_trickCard_X1_laidAt : GoodIn wsX1_trickCard (wsV RX1 68 RX1 yX1_laidAt wsX1_laidAt) := goodIn_app (goodIn_of _ (by decide +kernel)) ggX1_trickCard_X1_laidAt
theorem dX1_trickCard_0 : decode cX1_trickCard 0 = .ok (.aload_n 0, 1) := by decide +kernel
theorem dX1_trickCard_1 : decode cX1_trickCard 1 = .ok (.aload_n 0, 1) := by decide +kernel
theorem dX1_trickCard_2 : decode cX1_trickCard 2 = .ok (.getfield 35, 3) := by decide +kernel
theorem dX1_trickCard_5 : decode cX1_trickCard 5 = .ok (.aload_n 0, 1) := by decide +kernel
theorem dX1_trickCard_6 : decode cX1_trickCard 6 = .ok (.invokevirtual 65, 3) := by decide +kernel
theorem dX1_trickCard_9 : decode cX1_trickCard 9 = .ok (.isub, 1) := by decide +kernel
theorem dX1_trickCard_10 : decode cX1_trickCard 10 = .ok (.iload_n 1, 1) := by decide +kernel
theorem dX1_trickCard_11 : decode cX1_trickCard 11 = .ok (.iadd, 1) := by decide +kernel
theorem dX1_trickCard_12 : decode cX1_trickCard 12 = .ok (.invokevirtual 68, 3) := by decide +kernel
theorem dX1_trickCard_15 : decode cX1_trickCard 15 = .ok (.ireturn, 1) := by decide +kernel
set_option maxRecDepth 20000 in
theorem ggX1_playable_X1_mover : GoodIn wsX1_playable wsX1_mover := goodIn_r _ [5, 6, 7, 8, 9, 4, 10, 11, 12, 13, 14, 15, 16, 17, 18, 19, 20, 21, 22, 23, 24, 25, 47, 48, 49, 50, 51, 52, 53, 54] (by decide +kernel) (by decide +kernel)
set_option maxRecDepth 20000 in
theorem gX1_playable_X1_mover : GoodIn wsX1_playable (wsV RX1 71 RX1 yX1_mover wsX1_mover) := goodIn_app (goodIn_of _ (by decide +kernel)) ggX1_playable_X1_mover
set_option maxRecDepth 20000 in
theorem ggX1_playable_X1_handOf : GoodIn wsX1_playable wsX1_handOf := goodIn_r _ [29, 30, 47, 48, 49, 50, 51, 52, 53, 54] (by decide +kernel) (by decide +kernel)
set_option maxRecDepth 20000 in
theorem gX1_playable_X1_handOf : GoodIn wsX1_playable (wsV RX1 42 RX1 yX1_handOf wsX1_handOf) := goodIn_app (goodIn_of _ (by decide +kernel)) ggX1_playable_X1_handOf
set_option maxRecDepth 20000 in
theorem ggX1_playable_X1_trickSize : GoodIn wsX1_playable wsX1_trickSize := goodIn_r _ [25, 12, 47, 48, 49, 50, 51, 52, 53, 54] (by decide +kernel) (by decide +kernel)
set_option maxRecDepth 20000 in
theorem gX1_playable_X1_trickSize : GoodIn wsX1_playable (wsV RX1 65 RX1 yX1_trickSize wsX1_trickSize) := goodIn_app (goodIn_of _ (by decide +kernel)) ggX1_playable_X1_trickSize
set_option maxRecDepth 20000 in
theorem ggX1_playable_X1_trickCard : GoodIn wsX1_playable wsX1_trickCard := goodIn_r _ [34, 12, 22, 23, 24, 4, 25, 35, 36, 37, 38, 39, 47, 48, 49, 50, 51, 52, 53, 54] (by decide +kernel) (by decide +kernel)
set_option maxRecDepth 20000 in
theorem gX1_playable_X1_trickCard : GoodIn wsX1_playable (wsV RX1 74 RX1 yX1_trickCard wsX1_trickCard) := goodIn_app (goodIn_of _ (by decide +kernel)) ggX1_playable_X1_trickCard
set_option maxRecDepth 20000 in
theorem ggX1_playable_X0_suitOf : GoodIn wsX1_playable wsX0_suitOf := goodIn_r _ [43] (by decide +kernel) (by decide +kernel)
set_option maxRecDepth 20000 in
theorem gX1_playable_X0_suitOf : GoodIn wsX1_playable (va_wsS RX1 77 yX0_suitOf wsX0_suitOf) := goodIn_app (goodIn_of _ (by decide +kernel)) ggX1_playable_X0_suitOf
set_option maxRecDepth 20000 in
theorem ggX1_playable_X0_suitSet : GoodIn wsX1_playable wsX0_suitSet := goodIn_r _ [46] (by decide +kernel) (by decide +kernel)
set_option maxRecDepth 20000 in
theorem gX1_playable_X0_suitSet : GoodIn wsX1_playable (va_wsS RX1 80 yX0_suitSet wsX0_suitSet) := goodIn_app (goodIn_of _ (by decide +kernel)) ggX1_playable_X0_suitSet
theorem dX1_playable_0 : decode cX1_playable 0 = .ok (.aload_n 0, 1) := by decide +kernel
theorem dX1_playable_1 : decode cX1_playable 1 = .ok (.aload_n 0, 1) := by decide +kernel
theorem dX1_playable_2 : decode cX1_playable 2 = .ok (.invokevirtual 71, 3) := by decide +kernel
theorem dX1_playable_5 : decode cX1_playable 5 = .ok (.invokevirtual 42, 3) := by decide +kernel
theorem dX1_playable_8 : decode cX1_playable 8 = .ok (.istore_n 1, 1) := by decide +kernel
theorem dX1_playable_9 : decode cX1_playable 9 = .ok (.aload_n 0, 1) := by decide +kernel
theorem dX1_playable_10 : decode cX1_playable 10 = .ok (.invokevirtual 65, 3) := by decide +kernel
theorem dX1_playable_13 : decode cX1_playable 13 = .ok (.ifCond .ne 5, 3) := by decide +kernel
theorem dX1_playable_16 : decode cX1_playable 16 = .ok (.iload_n 1, 1) := by decide +kernel
theorem dX1_playable_17 : decode cX1_playable 17 = .ok (.ireturn, 1) := by decide +kernel
theorem dX1_playable_18 : decode cX1_playable 18 = .ok (.iload_n 1, 1) := by decide +kernel
theorem dX1_playable_19 : decode cX1_playable 19 = .ok (.aload_n 0, 1) := by decide +kernel
theorem dX1_playable_20 : decode cX1_playable 20 = .ok (.iconst 0, 1) := by decide +kernel
theorem dX1_playable_21 : decode cX1_playable 21 = .ok (.invokevirtual 74, 3) := by decide +kernel
theorem dX1_playable_24 : decode cX1_playable 24 = .ok (.invokestatic 77, 3) := by decide +kernel
theorem dX1_playable_27 : decode cX1_playable 27 = .ok (.invokestatic 80, 3) := by decide +kernel
theorem dX1_playable_30 : decode cX1_playable 30 = .ok (.iand, 1) := by decide +kernel
theorem dX1_playable_31 : decode cX1_playable 31 = .ok (.istore_n 2, 1) := by decide +kernel
theorem dX1_playable_32 : decode cX1_playable 32 = .ok (.iload_n 2, 1) := by decide +kernel
theorem dX1_playable_33 : decode cX1_playable 33 = .ok (.ifCond .ne 7, 3) := by decide +kernel
theorem dX1_playable_36 : decode cX1_playable 36 = .ok (.iload_n 1, 1) := by decide +kernel
theorem dX1_playable_37 : decode cX1_playable 37 = .ok (.goto 4, 3) := by decide +kernel
theorem dX1_playable_40 : decode cX1_playable 40 = .ok (.iload_n 2, 1) := by decide +kernel
theorem dX1_playable_41 : decode cX1_playable 41 = .ok (.ireturn, 1) := by decide +kernel
set_option maxRecDepth 20000 in
theorem ggX1_lay_X1_mover : GoodIn wsX1_lay wsX1_mover := goodIn_r _ [7, 8, 9, 10, 11, 6, 12, 13, 1, 14, 15, 16, 17, 18, 19, 20, 21, 22, 23, 24, 25, 26, 45, 46, 47, 48, 49, 50, 51, 52] (by decide +kernel) (by decide +kernel)
set_option maxRecDepth 20000 in
theorem gX1_lay_X1_mover : GoodIn wsX1_lay (wsV RX1 71 RX1 yX1_mover wsX1_mover) := goodIn_app (goodIn_of _ (by decide +kernel)) ggX1_lay_X1_mover
set_option maxRecDepth 20000 in
theorem ggX1_lay_X1_dropFrom : GoodIn wsX1_lay wsX1_dropFrom := goodIn_r _ [30, 31, 45, 46, 47, 48, 49, 50, 51, 52] (by decide +kernel) (by decide +kernel)
set_option maxRecDepth 20000 in
theorem gX1_lay_X1_dropFrom : GoodIn wsX1_lay (wsV RX1 83 RX1 yX1_dropFrom wsX1_dropFrom) := goodIn_app (goodIn_of _ (by decide +kernel)) ggX1_lay_X1_dropFrom
set_option maxRecDepth 20000 in
theorem ggX1_lay_X1_trickSize : GoodIn wsX1_lay wsX1_trickSize := goodIn_r _ [26, 1, 45, 46, 47, 48, 49, 50, 51, 52] (by decide +kernel) (by decide +kernel)
set_option maxRecDepth 20000 in
theorem gX1_lay_X1_trickSize : GoodIn wsX1_lay (wsV RX1 65 RX1 yX1_trickSize wsX1_trickSize) := goodIn_app (goodIn_of _ (by decide +kernel)) ggX1_lay_X1_trickSize
set_option maxRecDepth 20000 in
theorem ggX1_lay_X1_endTrick : GoodIn wsX1_lay wsX1_endTrick := goodIn_r _ [35, 1, 22, 36, 37, 38, 6, 39, 2, 40, 41, 42, 43, 44, 14, 15, 16, 17, 18, 19, 20, 21, 45, 46, 47, 48, 49, 50, 51, 52] (by decide +kernel) (by decide +kernel)
set_option maxRecDepth 20000 in
theorem gX1_lay_X1_endTrick : GoodIn wsX1_lay (wsV RX1 86 RX1 yX1_endTrick wsX1_endTrick) := goodIn_app (goodIn_of _ (by decide +kernel)) ggX1_lay_X1_endTrick
theorem dX1_lay_0 : decode cX1_lay 0 = .ok (.aload_n 0, 1) := by decide +kernel
theorem dX1_lay_1 : decode cX1_lay 1 = .ok (.getfield 35, 3) := by decide +kernel
theorem dX1_lay_4 : decode cX1_lay 4 = .ok (.ifCond .lt 15, 3) := by decide +kernel
theorem dX1_lay_7 : decode cX1_lay 7 = .ok (.aload_n 0, 1) := by decide +kernel
theorem dX1_lay_8 : decode cX1_lay 8 = .ok (.getfield 35, 3) := by decide +kernel
theorem dX1_lay_11 : decode cX1_lay 11 = .ok (.aload_n 0, 1) := by decide +kernel
theorem dX1_lay_12 : decode cX1_lay 12 = .ok (.getfield 15, 3) := by decide +kernel
theorem dX1_lay_15 : decode cX1_lay 15 = .ok (.arraylength, 1) := by decide +kernel
theorem dX1_lay_16 : decode cX1_lay 16 = .ok (.if_icmp .lt 5, 3) := by decide +kernel
theorem dX1_lay_19 : decode cX1_lay 19 = .ok (.iconst (-1), 1) := by decide +kernel
theorem dX1_lay_20 : decode cX1_lay 20 = .ok (.ireturn, 1) := by decide +kernel
theorem dX1_lay_21 : decode cX1_lay 21 = .ok (.aload_n 0, 1) := by decide +kernel
theorem dX1_lay_22 : decode cX1_lay 22 = .ok (.aload_n 0, 1) := by decide +kernel
theorem dX1_lay_23 : decode cX1_lay 23 = .ok (.invokevirtual 71, 3) := by decide +kernel
theorem dX1_lay_26 : decode cX1_lay 26 = .ok (.iload_n 1, 1) := by decide +kernel
theorem dX1_lay_27 : decode cX1_lay 27 = .ok (.invokevirtual 83, 3) := by decide +kernel
theorem dX1_lay_30 : decode cX1_lay 30 = .ok (.aload_n 0, 1) := by decide +kernel
theorem dX1_lay_31 : decode cX1_lay 31 = .ok (.getfield 15, 3) := by decide +kernel
theorem dX1_lay_34 : decode cX1_lay 34 = .ok (.aload_n 0, 1) := by decide +kernel
theorem dX1_lay_35 : decode cX1_lay 35 = .ok (.getfield 35, 3) := by decide +kernel
theorem dX1_lay_38 : decode cX1_lay 38 = .ok (.iload_n 1, 1) := by decide +kernel
theorem dX1_lay_39 : decode cX1_lay 39 = .ok (.iastore, 1) := by decide +kernel
theorem dX1_lay_40 : decode cX1_lay 40 = .ok (.aload_n 0, 1) := by decide +kernel
theorem dX1_lay_41 : decode cX1_lay 41 = .ok (.dup, 1) := by decide +kernel
theorem dX1_lay_42 : decode cX1_lay 42 = .ok (.getfield 35, 3) := by decide +kernel
theorem dX1_lay_45 : decode cX1_lay 45 = .ok (.iconst 1, 1) := by decide +kernel
theorem dX1_lay_46 : decode cX1_lay 46 = .ok (.iadd, 1) := by decide +kernel
theorem dX1_lay_47 : decode cX1_lay 47 = .ok (.putfield 35, 3) := by decide +kernel
theorem dX1_lay_50 : decode cX1_lay 50 = .ok (.aload_n 0, 1) := by decide +kernel
theorem dX1_lay_51 : decode cX1_lay 51 = .ok (.invokevirtual 65, 3) := by decide +kernel
theorem dX1_lay_54 : decode cX1_lay 54 = .ok (.ifCond .eq 5, 3) := by decide +kernel
theorem dX1_lay_57 : decode cX1_lay 57 = .ok (.iconst (-1), 1) := by decide +kernel
theorem dX1_lay_58 : decode cX1_lay 58 = .ok (.ireturn, 1) := by decide +kernel
theorem dX1_lay_59 : decode cX1_lay 59 = .ok (.aload_n 0, 1) := by decide +kernel
theorem dX1_lay_60 : decode cX1_lay 60 = .ok (.invokevirtual 86, 3) := by decide +kernel
theorem dX1_lay_63 : decode cX1_lay 63 = .ok (.ireturn, 1) := by decide +kernel
set_option maxRecDepth 20000 in
theorem ggX1_endTrick_X1_laidAt : GoodIn wsX1_endTrick wsX1_laidAt := goodIn_r _ [7, 8, 22, 23, 24, 25, 26, 27, 28, 29] (by decide +kernel) (by decide +kernel)
set_option maxRecDepth 20000 in
theorem gX1_endTrick_X1_laidAt : GoodIn wsX1_endTrick (wsV RX1 68 RX1 yX1_laidAt wsX1_laidAt) := goodIn_app (goodIn_of _ (by decide +kernel)) ggX1_endTrick_X1_laidAt
set_option maxRecDepth 20000 in
theorem ggX1_endTrick_X1_beats : GoodIn wsX1_endTrick wsX1_beats := goodIn_r _ [12, 13, 22, 23, 24, 25, 26, 27, 28, 29] (by decide +kernel) (by decide +kernel)
set_option maxRecDepth 20000 in
theorem gX1_endTrick_X1_beats : GoodIn wsX1_endTrick (wsV RX1 89 RX1 yX1_beats wsX1_beats) := goodIn_app (goodIn_of _ (by decide +kernel)) ggX1_endTrick_X1_beats
set_option maxRecDepth 20000 in
theorem ggX1_endTrick_X1_tricksOver : GoodIn wsX1_endTrick wsX1_tricksOver := goodIn_r _ [17, 1, 22, 23, 24, 25, 26, 27, 28, 29] (by decide +kernel) (by decide +kernel)
set_option maxRecDepth 20000 in
theorem gX1_endTrick_X1_tricksOver : GoodIn wsX1_endTrick (wsV RX1 55 RX1 yX1_tricksOver wsX1_tricksOver) := goodIn_app (goodIn_of _ (by decide +kernel)) ggX1_endTrick_X1_tricksOver
set_option maxRecDepth 20000 in
theorem ggX1_endTrick_X1_leaderOf : GoodIn wsX1_endTrick wsX1_leaderOf := goodIn_r _ [21, 2, 22, 23, 24, 25, 26, 27, 28, 29] (by decide +kernel) (by decide +kernel)
set_option maxRecDepth 20000 in
theorem gX1_endTrick_X1_leaderOf : GoodIn wsX1_endTrick (wsV RX1 62 RX1 yX1_leaderOf wsX1_leaderOf) := goodIn_app (goodIn_of _ (by decide +kernel)) ggX1_endTrick_X1_leaderOf
theorem dX1_endTrick_0 : decode cX1_endTrick 0 = .ok (.aload_n 0, 1) := by decide +kernel
theorem dX1_endTrick_1 : decode cX1_endTrick 1 = .ok (.getfield 35, 3) := by decide +kernel
theorem dX1_endTrick_4 : decode cX1_endTrick 4 = .ok (.iconst 4, 1) := by decide +kernel
theorem dX1_endTrick_5 : decode cX1_endTrick 5 = .ok (.isub, 1) := by decide +kernel
theorem dX1_endTrick_6 : decode cX1_endTrick 6 = .ok (.istore_n 1, 1) := by decide +kernel
theorem dX1_endTrick_7 : decode cX1_endTrick 7 = .ok (.iconst 0, 1) := by decide +kernel
theorem dX1_endTrick_8 : decode cX1_endTrick 8 = .ok (.istore_n 2, 1) := by decide +kernel
theorem dX1_endTrick_9 : decode cX1_endTrick 9 = .ok (.iconst 1, 1) := by decide +kernel
theorem dX1_endTrick_10 : decode cX1_endTrick 10 = .ok (.istore_n 3, 1) := by decide +kernel
theorem dX1_endTrick_11 : decode cX1_endTrick 11 = .ok (.iload_n 3, 1) := by decide +kernel
theorem dX1_endTrick_12 : decode cX1_endTrick 12 = .ok (.iconst 4, 1) := by decide +kernel
theorem dX1_endTrick_13 : decode cX1_endTrick 13 = .ok (.if_icmp .ge 32, 3) := by decide +kernel
theorem dX1_endTrick_16 : decode cX1_endTrick 16 = .ok (.aload_n 0, 1) := by decide +kernel
theorem dX1_endTrick_17 : decode cX1_endTrick 17 = .ok (.aload_n 0, 1) := by decide +kernel
theorem dX1_endTrick_18 : decode cX1_endTrick 18 = .ok (.iload_n 1, 1) := by decide +kernel
theorem dX1_endTrick_19 : decode cX1_endTrick 19 = .ok (.iload_n 3, 1) := by decide +kernel
theorem dX1_endTrick_20 : decode cX1_endTrick 20 = .ok (.iadd, 1) := by decide +kernel
theorem dX1_endTrick_21 : decode cX1_endTrick 21 = .ok (.invokevirtual 68, 3) := by decide +kernel
theorem dX1_endTrick_24 : decode cX1_endTrick 24 = .ok (.aload_n 0, 1) := by decide +kernel
theorem dX1_endTrick_25 : decode cX1_endTrick 25 = .ok (.iload_n 1, 1) := by decide +kernel
theorem dX1_endTrick_26 : decode cX1_endTrick 26 = .ok (.iload_n 2, 1) := by decide +kernel
theorem dX1_endTrick_27 : decode cX1_endTrick 27 = .ok (.iadd, 1) := by decide +kernel
theorem dX1_endTrick_28 : decode cX1_endTrick 28 = .ok (.invokevirtual 68, 3) := by decide +kernel
theorem dX1_endTrick_31 : decode cX1_endTrick 31 = .ok (.invokevirtual 89, 3) := by decide +kernel
theorem dX1_endTrick_34 : decode cX1_endTrick 34 = .ok (.ifCond .eq 5, 3) := by decide +kernel
theorem dX1_endTrick_37 : decode cX1_endTrick 37 = .ok (.iload_n 3, 1) := by decide +kernel
theorem dX1_endTrick_38 : decode cX1_endTrick 38 = .ok (.istore_n 2, 1) := by decide +kernel
theorem dX1_endTrick_39 : decode cX1_endTrick 39 = .ok (.iinc 3 1, 3) := by decide +kernel
theorem dX1_endTrick_42 : decode cX1_endTrick 42 = .ok (.goto (-31), 3) := by decide +kernel
theorem dX1_endTrick_45 : decode cX1_endTrick 45 = .ok (.aload_n 0, 1) := by decide +kernel
theorem dX1_endTrick_46 : decode cX1_endTrick 46 = .ok (.invokevirtual 55, 3) := by decide +kernel
theorem dX1_endTrick_49 : decode cX1_endTrick 49 = .ok (.istore_n 3, 1) := by decide +kernel
theorem dX1_endTrick_50 : decode cX1_endTrick 50 = .ok (.aload_n 0, 1) := by decide +kernel
theorem dX1_endTrick_51 : decode cX1_endTrick 51 = .ok (.iload_n 3, 1) := by decide +kernel
theorem dX1_endTrick_52 : decode cX1_endTrick 52 = .ok (.iconst 1, 1) := by decide +kernel
theorem dX1_endTrick_53 : decode cX1_endTrick 53 = .ok (.isub, 1) := by decide +kernel
theorem dX1_endTrick_54 : decode cX1_endTrick 54 = .ok (.invokevirtual 62, 3) := by decide +kernel
theorem dX1_endTrick_57 : decode cX1_endTrick 57 = .ok (.iload_n 2, 1) := by decide +kernel
theorem dX1_endTrick_58 : decode cX1_endTrick 58 = .ok (.iadd, 1) := by decide +kernel
theorem dX1_endTrick_59 : decode cX1_endTrick 59 = .ok (.iconst 4, 1) := by decide +kernel
theorem dX1_endTrick_60 : decode cX1_endTrick 60 = .ok (.irem, 1) := by decide +kernel
theorem dX1_endTrick_61 : decode cX1_endTrick 61 = .ok (.istore 4, 2) := by decide +kernel
theorem dX1_endTrick_63 : decode cX1_endTrick 63 = .ok (.iload_n 3, 1) := by decide +kernel
theorem dX1_endTrick_64 : decode cX1_endTrick 64 = .ok (.ifCond .lt 20, 3) := by decide +kernel
theorem dX1_endTrick_67 : decode cX1_endTrick 67 = .ok (.iload_n 3, 1) := by decide +kernel
theorem dX1_endTrick_68 : decode cX1_endTrick 68 = .ok (.aload_n 0, 1) := by decide +kernel
theorem dX1_endTrick_69 : decode cX1_endTrick 69 = .ok (.getfield 18, 3) := by decide +kernel
theorem dX1_endTrick_72 : decode cX1_endTrick 72 = .ok (.arraylength, 1) := by decide +kernel
theorem dX1_endTrick_73 : decode cX1_endTrick 73 = .ok (.if_icmp .ge 11, 3) := by decide +kernel
theorem dX1_endTrick_76 : decode cX1_endTrick 76 = .ok (.aload_n 0, 1) := by decide +kernel
theorem dX1_endTrick_77 : decode cX1_endTrick 77 = .ok (.getfield 18, 3) := by decide +kernel
theorem dX1_endTrick_80 : decode cX1_endTrick 80 = .ok (.iload_n 3, 1) := by decide +kernel
theorem dX1_endTrick_81 : decode cX1_endTrick 81 = .ok (.iload 4, 2) := by decide +kernel
theorem dX1_endTrick_83 : decode cX1_endTrick 83 = .ok (.iastore, 1) := by decide +kernel
theorem dX1_endTrick_84 : decode cX1_endTrick 84 = .ok (.iload 4, 2) := by decide +kernel
theorem dX1_endTrick_86 : decode cX1_endTrick 86 = .ok (.ireturn, 1) := by decide +kernel
theorem dX1_beats_0 : decode cX1_beats 0 = .ok (.iload_n 1, 1) := by decide +kernel
theorem dX1_beats_1 : decode cX1_beats 1 = .ok (.bipush 6, 2) := by decide +kernel
theorem dX1_beats_3 : decode cX1_beats 3 = .ok (.idiv, 1) := by decide +kernel
theorem dX1_beats_4 : decode cX1_beats 4 = .ok (.istore_n 3, 1) := by decide +kernel
theorem dX1_beats_5 : decode cX1_beats 5 = .ok (.iload_n 3, 1) := by decide +kernel
theorem dX1_beats_6 : decode cX1_beats 6 = .ok (.iload_n 2, 1) := by decide +kernel
theorem dX1_beats_7 : decode cX1_beats 7 = .ok (.bipush 6, 2) := by decide +kernel
theorem dX1_beats_9 : decode cX1_beats 9 = .ok (.idiv, 1) := by decide +kernel
theorem dX1_beats_10 : decode cX1_beats 10 = .ok (.if_icmp .ne 16, 3) := by decide +kernel
theorem dX1_beats_13 : decode cX1_beats 13 = .ok (.iload_n 1, 1) := by decide +kernel
theorem dX1_beats_14 : decode cX1_beats 14 = .ok (.iload_n 2, 1) := by decide +kernel
theorem dX1_beats_15 : decode cX1_beats 15 = .ok (.if_icmp .le 7, 3) := by decide +kernel
theorem dX1_beats_18 : decode cX1_beats 18 = .ok (.iconst 1, 1) := by decide +kernel
theorem dX1_beats_19 : decode cX1_beats 19 = .ok (.goto 20, 3) := by decide +kernel
theorem dX1_beats_22 : decode cX1_beats 22 = .ok (.iconst 0, 1) := by decide +kernel
theorem dX1_beats_23 : decode cX1_beats 23 = .ok (.goto 16, 3) := by decide +kernel
theorem dX1_beats_26 : decode cX1_beats 26 = .ok (.iload_n 3, 1) := by decide +kernel
theorem dX1_beats_27 : decode cX1_beats 27 = .ok (.aload_n 0, 1) := by decide +kernel
theorem dX1_beats_28 : decode cX1_beats 28 = .ok (.getfield 21, 3) := by decide +kernel
theorem dX1_beats_31 : decode cX1_beats 31 = .ok (.if_icmp .ne 7, 3) := by decide +kernel
theorem dX1_beats_34 : decode cX1_beats 34 = .ok (.iconst 1, 1) := by decide +kernel
theorem dX1_beats_35 : decode cX1_beats 35 = .ok (.goto 4, 3) := by decide +kernel
theorem dX1_beats_38 : decode cX1_beats 38 = .ok (.iconst 0, 1) := by decide +kernel
theorem dX1_beats_39 : decode cX1_beats 39 = .ok (.ireturn, 1) := by decide +kernel
set_option maxRecDepth 20000 in
theorem ggX1_lift_X1_laidAt : GoodIn wsX1_lift wsX1_laidAt := goodIn_r _ [6, 7, 36, 37, 38, 39, 40, 41, 42, 43] (by decide +kernel) (by decide +kernel)
set_option maxRecDepth 20000 in
theorem gX1_lift_X1_laidAt : GoodIn wsX1_lift (wsV RX1 68 RX1 yX1_laidAt wsX1_laidAt) := goodIn_app (goodIn_of _ (by decide +kernel)) ggX1_lift_X1_laidAt
set_option maxRecDepth 20000 in
theorem ggX1_lift_X1_mover : GoodIn wsX1_lift wsX1_mover := goodIn_r _ [11, 12, 13, 14, 15, 5, 16, 17, 1, 18, 19, 20, 21, 22, 23, 24, 25, 26, 27, 28, 29, 30, 36, 37, 38, 39, 40, 41, 42, 43] (by decide +kernel) (by decide +kernel)
set_option maxRecDepth 20000 in
theorem gX1_lift_X1_mover : GoodIn wsX1_lift (wsV RX1 71 RX1 yX1_mover wsX1_mover) := goodIn_app (goodIn_of _ (by decide +kernel)) ggX1_lift_X1_mover
set_option maxRecDepth 20000 in
theorem ggX1_lift_X1_addTo : GoodIn wsX1_lift wsX1_addTo := goodIn_r _ [34, 35, 36, 37, 38, 39, 40, 41, 42, 43] (by decide +kernel) (by decide +kernel)
set_option maxRecDepth 20000 in
theorem gX1_lift_X1_addTo : GoodIn wsX1_lift (wsV RX1 51 RX1 yX1_addTo wsX1_addTo) := goodIn_app (goodIn_of _ (by decide +kernel)) ggX1_lift_X1_addTo
theorem dX1_lift_0 : decode cX1_lift 0 = .ok (.aload_n 0, 1) := by decide +kernel
theorem dX1_lift_1 : decode cX1_lift 1 = .ok (.getfield 35, 3) := by decide +kernel
theorem dX1_lift_4 : decode cX1_lift 4 = .ok (.ifCond .gt 5, 3) := by decide +kernel
theorem dX1_lift_7 : decode cX1_lift 7 = .ok (.iconst (-1), 1) := by decide +kernel
theorem dX1_lift_8 : decode cX1_lift 8 = .ok (.ireturn, 1) := by decide +kernel
theorem dX1_lift_9 : decode cX1_lift 9 = .ok (.aload_n 0, 1) := by decide +kernel
theorem dX1_lift_10 : decode cX1_lift 10 = .ok (.dup, 1) := by decide +kernel
theorem dX1_lift_11 : decode cX1_lift 11 = .ok (.getfield 35, 3) := by decide +kernel
theorem dX1_lift_14 : decode cX1_lift 14 = .ok (.iconst 1, 1) := by decide +kernel
theorem dX1_lift_15 : decode cX1_lift 15 = .ok (.isub, 1) := by decide +kernel
theorem dX1_lift_16 : decode cX1_lift 16 = .ok (.putfield 35, 3) := by decide +kernel
theorem dX1_lift_19 : decode cX1_lift 19 = .ok (.aload_n 0, 1) := by decide +kernel
theorem dX1_lift_20 : decode cX1_lift 20 = .ok (.aload_n 0, 1) := by decide +kernel
theorem dX1_lift_21 : decode cX1_lift 21 = .ok (.getfield 35, 3) := by decide +kernel
theorem dX1_lift_24 : decode cX1_lift 24 = .ok (.invokevirtual 68, 3) := by decide +kernel
theorem dX1_lift_27 : decode cX1_lift 27 = .ok (.istore_n 1, 1) := by decide +kernel
theorem dX1_lift_28 : decode cX1_lift 28 = .ok (.aload_n 0, 1) := by decide +kernel
theorem dX1_lift_29 : decode cX1_lift 29 = .ok (.aload_n 0, 1) := by decide +kernel
theorem dX1_lift_30 : decode cX1_lift 30 = .ok (.invokevirtual 71, 3) := by decide +kernel
theorem dX1_lift_33 : decode cX1_lift 33 = .ok (.iload_n 1, 1) := by decide +kernel
theorem dX1_lift_34 : decode cX1_lift 34 = .ok (.invokevirtual 51, 3) := by decide +kernel
theorem dX1_lift_37 : decode cX1_lift 37 = .ok (.iload_n 1, 1) := by decide +kernel
theorem dX1_lift_38 : decode cX1_lift 38 = .ok (.ireturn, 1) := by decide +kernel
set_option maxRecDepth 20000 in
theorem ggX1_tricksOf_X1_tricksOver : GoodIn wsX1_tricksOf wsX1_tricksOver := goodIn_r _ [5, 6, 16, 17, 18, 19, 20, 21, 22, 23] (by decide +kernel) (by decide +kernel)
set_option maxRecDepth 20000 in
theorem gX1_tricksOf_X1_tricksOver : GoodIn wsX1_tricksOf (wsV RX1 55 RX1 yX1_tricksOver wsX1_tricksOver) := goodIn_app (goodIn_of _ (by decide +kernel)) ggX1_tricksOf_X1_tricksOver
set_option maxRecDepth 20000 in
theorem ggX1_tricksOf_X1_leaderOf : GoodIn wsX1_tricksOf wsX1_leaderOf := goodIn_r _ [10, 11, 16, 17, 18, 19, 20, 21, 22, 23] (by decide +kernel) (by decide +kernel)
set_option maxRecDepth 20000 in
theorem gX1_tricksOf_X1_leaderOf : GoodIn wsX1_tricksOf (wsV RX1 62 RX1 yX1_leaderOf wsX1_leaderOf) := goodIn_app (goodIn_of _ (by decide +kernel)) ggX1_tricksOf_X1_leaderOf
set_option maxRecDepth 20000 in
theorem ggX1_tricksOf_X0_sideOf : GoodIn wsX1_tricksOf wsX0_sideOf := goodIn_r _ [15] (by decide +kernel) (by decide +kernel)
set_option maxRecDepth 20000 in
theorem gX1_tricksOf_X0_sideOf : GoodIn wsX1_tricksOf (va_wsS RX1 92 yX0_sideOf wsX0_sideOf) := goodIn_app (goodIn_of _ (by decide +kernel)) ggX1_tricksOf_X0_sideOf
theorem dX1_tricksOf_0 : decode cX1_tricksOf 0 = .ok (.iconst 0, 1) := by decide +kernel
theorem dX1_tricksOf_1 : decode cX1_tricksOf 1 = .ok (.istore_n 2, 1) := by decide +kernel
theorem dX1_tricksOf_2 : decode cX1_tricksOf 2 = .ok (.iconst 1, 1) := by decide +kernel
theorem dX1_tricksOf_3 : decode cX1_tricksOf 3 = .ok (.istore_n 3, 1) := by decide +kernel
theorem dX1_tricksOf_4 : decode cX1_tricksOf 4 = .ok (.iload_n 3, 1) := by decide +kernel
theorem dX1_tricksOf_5 : decode cX1_tricksOf 5 = .ok (.aload_n 0, 1) := by decide +kernel
theorem dX1_tricksOf_6 : decode cX1_tricksOf 6 = .ok (.invokevirtual 55, 3) := by decide +kernel
theorem dX1_tricksOf_9 : decode cX1_tricksOf 9 = .ok (.if_icmp .gt 24, 3) := by decide +kernel
theorem dX1_tricksOf_12 : decode cX1_tricksOf 12 = .ok (.aload_n 0, 1) := by decide +kernel
theorem dX1_tricksOf_13 : decode cX1_tricksOf 13 = .ok (.iload_n 3, 1) := by decide +kernel
theorem dX1_tricksOf_14 : decode cX1_tricksOf 14 = .ok (.invokevirtual 62, 3) := by decide +kernel
theorem dX1_tricksOf_17 : decode cX1_tricksOf 17 = .ok (.invokestatic 92, 3) := by decide +kernel
theorem dX1_tricksOf_20 : decode cX1_tricksOf 20 = .ok (.iload_n 1, 1) := by decide +kernel
theorem dX1_tricksOf_21 : decode cX1_tricksOf 21 = .ok (.if_icmp .ne 6, 3) := by decide +kernel
theorem dX1_tricksOf_24 : decode cX1_tricksOf 24 = .ok (.iinc 2 1, 3) := by decide +kernel
theorem dX1_tricksOf_27 : decode cX1_tricksOf 27 = .ok (.iinc 3 1, 3) := by decide +kernel
theorem dX1_tricksOf_30 : decode cX1_tricksOf 30 = .ok (.goto (-26), 3) := by decide +kernel
theorem dX1_tricksOf_33 : decode cX1_tricksOf 33 = .ok (.iload_n 2, 1) := by decide +kernel
theorem dX1_tricksOf_34 : decode cX1_tricksOf 34 = .ok (.ireturn, 1) := by decide +kernel
theorem dX1_inHands_0 : decode cX1_inHands 0 = .ok (.iconst 0, 1) := by decide +kernel
theorem dX1_inHands_1 : decode cX1_inHands 1 = .ok (.istore_n 1, 1) := by decide +kernel
theorem dX1_inHands_2 : decode cX1_inHands 2 = .ok (.iconst 0, 1) := by decide +kernel
theorem dX1_inHands_3 : decode cX1_inHands 3 = .ok (.istore_n 2, 1) := by decide +kernel
theorem dX1_inHands_4 : decode cX1_inHands 4 = .ok (.iload_n 2, 1) := by decide +kernel
theorem dX1_inHands_5 : decode cX1_inHands 5 = .ok (.aload_n 0, 1) := by decide +kernel
theorem dX1_inHands_6 : decode cX1_inHands 6 = .ok (.getfield 9, 3) := by decide +kernel
theorem dX1_inHands_9 : decode cX1_inHands 9 = .ok (.arraylength, 1) := by decide +kernel
theorem dX1_inHands_10 : decode cX1_inHands 10 = .ok (.if_icmp .ge 18, 3) := by decide +kernel
theorem dX1_inHands_13 : decode cX1_inHands 13 = .ok (.iload_n 1, 1) := by decide +kernel
theorem dX1_inHands_14 : decode cX1_inHands 14 = .ok (.aload_n 0, 1) := by decide +kernel
theorem dX1_inHands_15 : decode cX1_inHands 15 = .ok (.getfield 9, 3) := by decide +kernel
theorem dX1_inHands_18 : decode cX1_inHands 18 = .ok (.iload_n 2, 1) := by decide +kernel
theorem dX1_inHands_19 : decode cX1_inHands 19 = .ok (.iaload, 1) := by decide +kernel
theorem dX1_inHands_20 : decode cX1_inHands 20 = .ok (.ior, 1) := by decide +kernel
theorem dX1_inHands_21 : decode cX1_inHands 21 = .ok (.istore_n 1, 1) := by decide +kernel
theorem dX1_inHands_22 : decode cX1_inHands 22 = .ok (.iinc 2 1, 3) := by decide +kernel
theorem dX1_inHands_25 : decode cX1_inHands 25 = .ok (.goto (-21), 3) := by decide +kernel
theorem dX1_inHands_28 : decode cX1_inHands 28 = .ok (.iload_n 1, 1) := by decide +kernel
theorem dX1_inHands_29 : decode cX1_inHands 29 = .ok (.ireturn, 1) := by decide +kernel
set_option maxRecDepth 20000 in
theorem ggX1_inTrickSet_X1_trickSize : GoodIn wsX1_inTrickSet wsX1_trickSize := goodIn_r _ [6, 1, 12, 13, 14, 15, 16, 17, 18, 19] (by decide +kernel) (by decide +kernel)
set_option maxRecDepth 20000 in
theorem gX1_inTrickSet_X1_trickSize : GoodIn wsX1_inTrickSet (wsV RX1 65 RX1 yX1_trickSize wsX1_trickSize) := goodIn_app (goodIn_of _ (by decide +kernel)) ggX1_inTrickSet_X1_trickSize
set_option maxRecDepth 20000 in
theorem ggX1_inTrickSet_X1_laidAt : GoodIn wsX1_inTrickSet wsX1_laidAt := goodIn_r _ [10, 11, 12, 13, 14, 15, 16, 17, 18, 19] (by decide +kernel) (by decide +kernel)
set_option maxRecDepth 20000 in
theorem gX1_inTrickSet_X1_laidAt : GoodIn wsX1_inTrickSet (wsV RX1 68 RX1 yX1_laidAt wsX1_laidAt) := goodIn_app (goodIn_of _ (by decide +kernel)) ggX1_inTrickSet_X1_laidAt
theorem dX1_inTrickSet_0 : decode cX1_inTrickSet 0 = .ok (.iconst 0, 1) := by decide +kernel
theorem dX1_inTrickSet_1 : decode cX1_inTrickSet 1 = .ok (.istore_n 1, 1) := by decide +kernel
theorem dX1_inTrickSet_2 : decode cX1_inTrickSet 2 = .ok (.aload_n 0, 1) := by decide +kernel
theorem dX1_inTrickSet_3 : decode cX1_inTrickSet 3 = .ok (.getfield 35, 3) := by decide +kernel
theorem dX1_inTrickSet_6 : decode cX1_inTrickSet 6 = .ok (.aload_n 0, 1) := by decide +kernel
theorem dX1_inTrickSet_7 : decode cX1_inTrickSet 7 = .ok (.invokevirtual 65, 3) := by decide +kernel
theorem dX1_inTrickSet_10 : decode cX1_inTrickSet 10 = .ok (.isub, 1) := by decide +kernel
theorem dX1_inTrickSet_11 : decode cX1_inTrickSet 11 = .ok (.istore_n 2, 1) := by decide +kernel
theorem dX1_inTrickSet_12 : decode cX1_inTrickSet 12 = .ok (.iload_n 2, 1) := by decide +kernel
theorem dX1_inTrickSet_13 : decode cX1_inTrickSet 13 = .ok (.aload_n 0, 1) := by decide +kernel
theorem dX1_inTrickSet_14 : decode cX1_inTrickSet 14 = .ok (.getfield 35, 3) := by decide +kernel
theorem dX1_inTrickSet_17 : decode cX1_inTrickSet 17 = .ok (.if_icmp .ge 19, 3) := by decide +kernel
theorem dX1_inTrickSet_20 : decode cX1_inTrickSet 20 = .ok (.iload_n 1, 1) := by decide +kernel
theorem dX1_inTrickSet_21 : decode cX1_inTrickSet 21 = .ok (.iconst 1, 1) := by decide +kernel
theorem dX1_inTrickSet_22 : decode cX1_inTrickSet 22 = .ok (.aload_n 0, 1) := by decide +kernel
theorem dX1_inTrickSet_23 : decode cX1_inTrickSet 23 = .ok (.iload_n 2, 1) := by decide +kernel
theorem dX1_inTrickSet_24 : decode cX1_inTrickSet 24 = .ok (.invokevirtual 68, 3) := by decide +kernel
theorem dX1_inTrickSet_27 : decode cX1_inTrickSet 27 = .ok (.ishl, 1) := by decide +kernel
theorem dX1_inTrickSet_28 : decode cX1_inTrickSet 28 = .ok (.ior, 1) := by decide +kernel
theorem dX1_inTrickSet_29 : decode cX1_inTrickSet 29 = .ok (.istore_n 1, 1) := by decide +kernel
theorem dX1_inTrickSet_30 : decode cX1_inTrickSet 30 = .ok (.iinc 2 1, 3) := by decide +kernel
theorem dX1_inTrickSet_33 : decode cX1_inTrickSet 33 = .ok (.goto (-21), 3) := by decide +kernel
theorem dX1_inTrickSet_36 : decode cX1_inTrickSet 36 = .ok (.iload_n 1, 1) := by decide +kernel
theorem dX1_inTrickSet_37 : decode cX1_inTrickSet 37 = .ok (.ireturn, 1) := by decide +kernel
set_option maxRecDepth 20000 in
theorem ggX1_out_X1_inHands : GoodIn wsX1_out wsX1_inHands := goodIn_r _ [6, 7, 22, 23, 24, 25, 26, 27, 28, 29] (by decide +kernel) (by decide +kernel)
set_option maxRecDepth 20000 in
theorem gX1_out_X1_inHands : GoodIn wsX1_out (wsV RX1 96 RX1 yX1_inHands wsX1_inHands) := goodIn_app (goodIn_of _ (by decide +kernel)) ggX1_out_X1_inHands
set_option maxRecDepth 20000 in
theorem ggX1_out_X1_inTrickSet : GoodIn wsX1_out wsX1_inTrickSet := goodIn_r _ [11, 12, 13, 14, 15, 5, 16, 17, 18, 19, 20, 21, 22, 23, 24, 25, 26, 27, 28, 29] (by decide +kernel) (by decide +kernel)
set_option maxRecDepth 20000 in
theorem gX1_out_X1_inTrickSet : GoodIn wsX1_out (wsV RX1 99 RX1 yX1_inTrickSet wsX1_inTrickSet) := goodIn_app (goodIn_of _ (by decide +kernel)) ggX1_out_X1_inTrickSet
theorem dX1_out_0 : decode cX1_out 0 = .ok (.ldc 95, 2) := by decide +kernel
theorem dX1_out_2 : decode cX1_out 2 = .ok (.aload_n 0, 1) := by decide +kernel
theorem dX1_out_3 : decode cX1_out 3 = .ok (.invokevirtual 96, 3) := by decide +kernel
theorem dX1_out_6 : decode cX1_out 6 = .ok (.aload_n 0, 1) := by decide +kernel
theorem dX1_out_7 : decode cX1_out 7 = .ok (.invokevirtual 99, 3) := by decide +kernel
theorem dX1_out_10 : decode cX1_out 10 = .ok (.ior, 1) := by decide +kernel
theorem dX1_out_11 : decode cX1_out 11 = .ok (.iconst (-1), 1) := by decide +kernel
theorem dX1_out_12 : decode cX1_out 12 = .ok (.ixor, 1) := by decide +kernel
theorem dX1_out_13 : decode cX1_out 13 = .ok (.iand, 1) := by decide +kernel
theorem dX1_out_14 : decode cX1_out 14 = .ok (.ireturn, 1) := by decide +kernel
set_option maxRecDepth 20000 in
theorem ggX1_ownerOf_X0_holds : GoodIn wsX1_ownerOf wsX0_holds := goodIn_r _ [5] (by decide +kernel) (by decide +kernel)
set_option maxRecDepth 20000 in
theorem gX1_ownerOf_X0_holds : GoodIn wsX1_ownerOf (va_wsS RX1 38 yX0_holds wsX0_holds) := goodIn_app (goodIn_of _ (by decide +kernel)) ggX1_ownerOf_X0_holds
theorem dX1_ownerOf_0 : decode cX1_ownerOf 0 = .ok (.iconst 0, 1) := by decide +kernel
theorem dX1_ownerOf_1 : decode cX1_ownerOf 1 = .ok (.istore_n 2, 1) := by decide +kernel
theorem dX1_ownerOf_2 : decode cX1_ownerOf 2 = .ok (.iload_n 2, 1) := by decide +kernel
theorem dX1_ownerOf_3 : decode cX1_ownerOf 3 = .ok (.aload_n 0, 1) := by decide +kernel
theorem dX1_ownerOf_4 : decode cX1_ownerOf 4 = .ok (.getfield 9, 3) := by decide +kernel
theorem dX1_ownerOf_7 : decode cX1_ownerOf 7 = .ok (.arraylength, 1) := by decide +kernel
theorem dX1_ownerOf_8 : decode cX1_ownerOf 8 = .ok (.if_icmp .ge 24, 3) := by decide +kernel
theorem dX1_ownerOf_11 : decode cX1_ownerOf 11 = .ok (.aload_n 0, 1) := by decide +kernel
theorem dX1_ownerOf_12 : decode cX1_ownerOf 12 = .ok (.getfield 9, 3) := by decide +kernel
theorem dX1_ownerOf_15 : decode cX1_ownerOf 15 = .ok (.iload_n 2, 1) := by decide +kernel
theorem dX1_ownerOf_16 : decode cX1_ownerOf 16 = .ok (.iaload, 1) := by decide +kernel
theorem dX1_ownerOf_17 : decode cX1_ownerOf 17 = .ok (.iload_n 1, 1) := by decide +kernel
theorem dX1_ownerOf_18 : decode cX1_ownerOf 18 = .ok (.invokestatic 38, 3) := by decide +kernel
theorem dX1_ownerOf_21 : decode cX1_ownerOf 21 = .ok (.ifCond .eq 5, 3) := by decide +kernel
theorem dX1_ownerOf_24 : decode cX1_ownerOf 24 = .ok (.iload_n 2, 1) := by decide +kernel
theorem dX1_ownerOf_25 : decode cX1_ownerOf 25 = .ok (.ireturn, 1) := by decide +kernel
theorem dX1_ownerOf_26 : decode cX1_ownerOf 26 = .ok (.iinc 2 1, 3) := by decide +kernel
theorem dX1_ownerOf_29 : decode cX1_ownerOf 29 = .ok (.goto (-27), 3) := by decide +kernel
theorem dX1_ownerOf_32 : decode cX1_ownerOf 32 = .ok (.iconst (-1), 1) := by decide +kernel
theorem dX1_ownerOf_33 : decode cX1_ownerOf 33 = .ok (.ireturn, 1) := by decide +kernel
set_option maxRecDepth 20000 in
theorem ggX1_betweenTricks_X1_inHands : GoodIn wsX1_betweenTricks wsX1_inHands := goodIn_r _ [5, 6, 17, 18, 19, 20, 21, 22, 23, 24] (by decide +kernel) (by decide +kernel)
set_option maxRecDepth 20000 in
theorem gX1_betweenTricks_X1_inHands : GoodIn wsX1_betweenTricks (wsV RX1 96 RX1 yX1_inHands wsX1_inHands) := goodIn_app (goodIn_of _ (by decide +kernel)) ggX1_betweenTricks_X1_inHands
set_option maxRecDepth 20000 in
theorem ggX1_betweenTricks_X1_tricksOver : GoodIn wsX1_betweenTricks wsX1_tricksOver := goodIn_r _ [10, 11, 17, 18, 19, 20, 21, 22, 23, 24] (by decide +kernel) (by decide +kernel)
set_option maxRecDepth 20000 in
theorem gX1_betweenTricks_X1_tricksOver : GoodIn wsX1_betweenTricks (wsV RX1 55 RX1 yX1_tricksOver wsX1_tricksOver) := goodIn_app (goodIn_of _ (by decide +kernel)) ggX1_betweenTricks_X1_tricksOver
set_option maxRecDepth 20000 in
theorem ggX1_betweenTricks_X1_leaderOf : GoodIn wsX1_betweenTricks wsX1_leaderOf := goodIn_r _ [15, 16, 17, 18, 19, 20, 21, 22, 23, 24] (by decide +kernel) (by decide +kernel)
set_option maxRecDepth 20000 in
theorem gX1_betweenTricks_X1_leaderOf : GoodIn wsX1_betweenTricks (wsV RX1 62 RX1 yX1_leaderOf wsX1_leaderOf) := goodIn_app (goodIn_of _ (by decide +kernel)) ggX1_betweenTricks_X1_leaderOf
theorem dX1_betweenTricks_0 : decode cX1_betweenTricks 0 = .ok (.aload_n 0, 1) := by decide +kernel
theorem dX1_betweenTricks_1 : decode cX1_betweenTricks 1 = .ok (.invokevirtual 96, 3) := by decide +kernel
theorem dX1_betweenTricks_4 : decode cX1_betweenTricks 4 = .ok (.aload_n 0, 1) := by decide +kernel
theorem dX1_betweenTricks_5 : decode cX1_betweenTricks 5 = .ok (.aload_n 0, 1) := by decide +kernel
theorem dX1_betweenTricks_6 : decode cX1_betweenTricks 6 = .ok (.invokevirtual 55, 3) := by decide +kernel
theorem dX1_betweenTricks_9 : decode cX1_betweenTricks 9 = .ok (.invokevirtual 62, 3) := by decide +kernel
theorem dX1_betweenTricks_12 : decode cX1_betweenTricks 12 = .ok (.bipush 24, 2) := by decide +kernel
theorem dX1_betweenTricks_14 : decode cX1_betweenTricks 14 = .ok (.ishl, 1) := by decide +kernel
theorem dX1_betweenTricks_15 : decode cX1_betweenTricks 15 = .ok (.ior, 1) := by decide +kernel
theorem dX1_betweenTricks_16 : decode cX1_betweenTricks 16 = .ok (.ireturn, 1) := by decide +kernel
theorem dX2_init_0 : decode cX2_init 0 = .ok (.aload_n 0, 1) := by decide +kernel
theorem dX2_init_1 : decode cX2_init 1 = .ok (.invokespecial 3, 3) := by decide +kernel
theorem dX2_init_4 : decode cX2_init 4 = .ok (.aload_n 0, 1) := by decide +kernel
theorem dX2_init_5 : decode cX2_init 5 = .ok (.sipush 1024, 3) := by decide +kernel
theorem dX2_init_8 : decode cX2_init 8 = .ok (.newarray .int, 2) := by decide +kernel
theorem dX2_init_10 : decode cX2_init 10 = .ok (.putfield 9, 3) := by decide +kernel
theorem dX2_init_13 : decode cX2_init 13 = .ok (.return_, 1) := by decide +kernel
theorem dX2_clear_0 : decode cX2_clear 0 = .ok (.iconst 0, 1) := by decide +kernel
theorem dX2_clear_1 : decode cX2_clear 1 = .ok (.istore_n 1, 1) := by decide +kernel
theorem dX2_clear_2 : decode cX2_clear 2 = .ok (.iload_n 1, 1) := by decide +kernel
theorem dX2_clear_3 : decode cX2_clear 3 = .ok (.aload_n 0, 1) := by decide +kernel
theorem dX2_clear_4 : decode cX2_clear 4 = .ok (.getfield 9, 3) := by decide +kernel
theorem dX2_clear_7 : decode cX2_clear 7 = .ok (.arraylength, 1) := by decide +kernel
theorem dX2_clear_8 : decode cX2_clear 8 = .ok (.if_icmp .ge 16, 3) := by decide +kernel
theorem dX2_clear_11 : decode cX2_clear 11 = .ok (.aload_n 0, 1) := by decide +kernel
theorem dX2_clear_12 : decode cX2_clear 12 = .ok (.getfield 9, 3) := by decide +kernel
theorem dX2_clear_15 : decode cX2_clear 15 = .ok (.iload_n 1, 1) := by decide +kernel
theorem dX2_clear_16 : decode cX2_clear 16 = .ok (.iconst 0, 1) := by decide +kernel
theorem dX2_clear_17 : decode cX2_clear 17 = .ok (.iastore, 1) := by decide +kernel
theorem dX2_clear_18 : decode cX2_clear 18 = .ok (.iinc 1 1, 3) := by decide +kernel
theorem dX2_clear_21 : decode cX2_clear 21 = .ok (.goto (-19), 3) := by decide +kernel
theorem dX2_clear_24 : decode cX2_clear 24 = .ok (.return_, 1) := by decide +kernel
set_option maxRecDepth 20000 in
theorem ggX2_leastAt_X2_entryOf : GoodIn wsX2_leastAt wsX2_entryOf := goodIn_r _ [5, 6, 7, 8, 4, 9, 10, 11] (by decide +kernel) (by decide +kernel)
set_option maxRecDepth 20000 in
theorem gX2_leastAt_X2_entryOf : GoodIn wsX2_leastAt (wsV RX2 13 RX2 yX2_entryOf wsX2_entryOf) := goodIn_app (goodIn_of _ (by decide +kernel)) ggX2_leastAt_X2_entryOf
theorem dX2_leastAt_0 : decode cX2_leastAt 0 = .ok (.aload_n 0, 1) := by decide +kernel
theorem dX2_leastAt_1 : decode cX2_leastAt 1 = .ok (.iload_n 1, 1) := by decide +kernel
theorem dX2_leastAt_2 : decode cX2_leastAt 2 = .ok (.invokevirtual 13, 3) := by decide +kernel
theorem dX2_leastAt_5 : decode cX2_leastAt 5 = .ok (.bipush 7, 2) := by decide +kernel
theorem dX2_leastAt_7 : decode cX2_leastAt 7 = .ok (.iand, 1) := by decide +kernel
theorem dX2_leastAt_8 : decode cX2_leastAt 8 = .ok (.ireturn, 1) := by decide +kernel
set_option maxRecDepth 20000 in
theorem ggX2_mostAt_X2_entryOf : GoodIn wsX2_mostAt wsX2_entryOf := goodIn_r _ [5, 6, 7, 8, 4, 9, 10, 11] (by decide +kernel) (by decide +kernel)
set_option maxRecDepth 20000 in
theorem gX2_mostAt_X2_entryOf : GoodIn wsX2_mostAt (wsV RX2 13 RX2 yX2_entryOf wsX2_entryOf) := goodIn_app (goodIn_of _ (by decide +kernel)) ggX2_mostAt_X2_entryOf
theorem dX2_mostAt_0 : decode cX2_mostAt 0 = .ok (.aload_n 0, 1) := by decide +kernel
theorem dX2_mostAt_1 : decode cX2_mostAt 1 = .ok (.iload_n 1, 1) := by decide +kernel
theorem dX2_mostAt_2 : decode cX2_mostAt 2 = .ok (.invokevirtual 13, 3) := by decide +kernel
theorem dX2_mostAt_5 : decode cX2_mostAt 5 = .ok (.istore_n 3, 1) := by decide +kernel
theorem dX2_mostAt_6 : decode cX2_mostAt 6 = .ok (.iload_n 3, 1) := by decide +kernel
theorem dX2_mostAt_7 : decode cX2_mostAt 7 = .ok (.ifCond .ne 7, 3) := by decide +kernel
theorem dX2_mostAt_10 : decode cX2_mostAt 10 = .ok (.iload_n 2, 1) := by decide +kernel
theorem dX2_mostAt_11 : decode cX2_mostAt 11 = .ok (.goto 9, 3) := by decide +kernel
theorem dX2_mostAt_14 : decode cX2_mostAt 14 = .ok (.iload_n 3, 1) := by decide +kernel
end
section
theorem dX2_mostAt_15 : decode cX2_mostAt 15 = .ok (.iconst 3, 1) := by decide +kernel
theorem dX2_mostAt_16 : decode cX2_mostAt 16 = .ok (.iushr, 1) := by decide +kernel
theorem dX2_mostAt_17 : decode cX2_mostAt 17 = .ok (.bipush 7, 2) := by decide +kernel
theorem dX2_mostAt_19 : decode cX2_mostAt 19 = .ok (.iand, 1) := by decide +kernel
theorem dX2_mostAt_20 : decode cX2_mostAt 20 = .ok (.ireturn, 1) := by decide +kernel
set_option maxRecDepth 20000 in
theorem ggX2_put_X2_slotOf : GoodIn wsX2_put wsX2_slotOf := goodIn_r _ [5, 6] (by decide +kernel) (by decide +kernel)
set_option maxRecDepth 20000 in
theorem gX2_put_X2_slotOf : GoodIn wsX2_put (va_wsS RX2 17 yX2_slotOf wsX2_slotOf) := goodIn_app (goodIn_of _ (by decide +kernel)) ggX2_put_X2_slotOf
theorem dX2_put_0 : decode cX2_put 0 = .ok (.iload_n 1, 1) := by decide +kernel
theorem dX2_put_1 : decode cX2_put 1 = .ok (.invokestatic 17, 3) := by decide +kernel
theorem dX2_put_4 : decode cX2_put 4 = .ok (.istore 4, 2) := by decide +kernel
theorem dX2_put_6 : decode cX2_put 6 = .ok (.iload 4, 2) := by decide +kernel
theorem dX2_put_8 : decode cX2_put 8 = .ok (.ifCond .lt 30, 3) := by decide +kernel
theorem dX2_put_11 : decode cX2_put 11 = .ok (.iload 4, 2) := by decide +kernel
theorem dX2_put_13 : decode cX2_put 13 = .ok (.aload_n 0, 1) := by decide +kernel
theorem dX2_put_14 : decode cX2_put 14 = .ok (.getfield 9, 3) := by decide +kernel
theorem dX2_put_17 : decode cX2_put 17 = .ok (.arraylength, 1) := by decide +kernel
theorem dX2_put_18 : decode cX2_put 18 = .ok (.if_icmp .ge 20, 3) := by decide +kernel
theorem dX2_put_21 : decode cX2_put 21 = .ok (.aload_n 0, 1) := by decide +kernel
theorem dX2_put_22 : decode cX2_put 22 = .ok (.getfield 9, 3) := by decide +kernel
theorem dX2_put_25 : decode cX2_put 25 = .ok (.iload 4, 2) := by decide +kernel
theorem dX2_put_27 : decode cX2_put 27 = .ok (.iload_n 1, 1) := by decide +kernel
theorem dX2_put_28 : decode cX2_put 28 = .ok (.bipush 6, 2) := by decide +kernel
theorem dX2_put_30 : decode cX2_put 30 = .ok (.ishl, 1) := by decide +kernel
theorem dX2_put_31 : decode cX2_put 31 = .ok (.iload_n 3, 1) := by decide +kernel
theorem dX2_put_32 : decode cX2_put 32 = .ok (.iconst 3, 1) := by decide +kernel
theorem dX2_put_33 : decode cX2_put 33 = .ok (.ishl, 1) := by decide +kernel
theorem dX2_put_34 : decode cX2_put 34 = .ok (.ior, 1) := by decide +kernel
theorem dX2_put_35 : decode cX2_put 35 = .ok (.iload_n 2, 1) := by decide +kernel
theorem dX2_put_36 : decode cX2_put 36 = .ok (.ior, 1) := by decide +kernel
theorem dX2_put_37 : decode cX2_put 37 = .ok (.iastore, 1) := by decide +kernel
theorem dX2_put_38 : decode cX2_put 38 = .ok (.return_, 1) := by decide +kernel
set_option maxRecDepth 20000 in
theorem ggX2_entryOf_X2_slotOf : GoodIn wsX2_entryOf wsX2_slotOf := goodIn_r _ [5, 6] (by decide +kernel) (by decide +kernel)
set_option maxRecDepth 20000 in
theorem gX2_entryOf_X2_slotOf : GoodIn wsX2_entryOf (va_wsS RX2 17 yX2_slotOf wsX2_slotOf) := goodIn_app (goodIn_of _ (by decide +kernel)) ggX2_entryOf_X2_slotOf
theorem dX2_entryOf_0 : decode cX2_entryOf 0 = .ok (.iload_n 1, 1) := by decide +kernel
theorem dX2_entryOf_1 : decode cX2_entryOf 1 = .ok (.invokestatic 17, 3) := by decide +kernel
theorem dX2_entryOf_4 : decode cX2_entryOf 4 = .ok (.istore_n 2, 1) := by decide +kernel
theorem dX2_entryOf_5 : decode cX2_entryOf 5 = .ok (.iload_n 2, 1) := by decide +kernel
theorem dX2_entryOf_6 : decode cX2_entryOf 6 = .ok (.ifCond .lt 12, 3) := by decide +kernel
theorem dX2_entryOf_9 : decode cX2_entryOf 9 = .ok (.iload_n 2, 1) := by decide +kernel
theorem dX2_entryOf_10 : decode cX2_entryOf 10 = .ok (.aload_n 0, 1) := by decide +kernel
theorem dX2_entryOf_11 : decode cX2_entryOf 11 = .ok (.getfield 9, 3) := by decide +kernel
theorem dX2_entryOf_14 : decode cX2_entryOf 14 = .ok (.arraylength, 1) := by decide +kernel
theorem dX2_entryOf_15 : decode cX2_entryOf 15 = .ok (.if_icmp .lt 5, 3) := by decide +kernel
theorem dX2_entryOf_18 : decode cX2_entryOf 18 = .ok (.iconst 0, 1) := by decide +kernel
theorem dX2_entryOf_19 : decode cX2_entryOf 19 = .ok (.ireturn, 1) := by decide +kernel
theorem dX2_entryOf_20 : decode cX2_entryOf 20 = .ok (.aload_n 0, 1) := by decide +kernel
theorem dX2_entryOf_21 : decode cX2_entryOf 21 = .ok (.getfield 9, 3) := by decide +kernel
theorem dX2_entryOf_24 : decode cX2_entryOf 24 = .ok (.iload_n 2, 1) := by decide +kernel
theorem dX2_entryOf_25 : decode cX2_entryOf 25 = .ok (.iaload, 1) := by decide +kernel
theorem dX2_entryOf_26 : decode cX2_entryOf 26 = .ok (.istore_n 3, 1) := by decide +kernel
theorem dX2_entryOf_27 : decode cX2_entryOf 27 = .ok (.iload_n 3, 1) := by decide +kernel
theorem dX2_entryOf_28 : decode cX2_entryOf 28 = .ok (.bipush 6, 2) := by decide +kernel
theorem dX2_entryOf_30 : decode cX2_entryOf 30 = .ok (.iushr, 1) := by decide +kernel
theorem dX2_entryOf_31 : decode cX2_entryOf 31 = .ok (.iload_n 1, 1) := by decide +kernel
theorem dX2_entryOf_32 : decode cX2_entryOf 32 = .ok (.if_icmp .ne 7, 3) := by decide +kernel
theorem dX2_entryOf_35 : decode cX2_entryOf 35 = .ok (.iload_n 3, 1) := by decide +kernel
theorem dX2_entryOf_36 : decode cX2_entryOf 36 = .ok (.goto 4, 3) := by decide +kernel
theorem dX2_entryOf_39 : decode cX2_entryOf 39 = .ok (.iconst 0, 1) := by decide +kernel
theorem dX2_entryOf_40 : decode cX2_entryOf 40 = .ok (.ireturn, 1) := by decide +kernel
theorem dX2_slotOf_0 : decode cX2_slotOf 0 = .ok (.iload_n 0, 1) := by decide +kernel
theorem dX2_slotOf_1 : decode cX2_slotOf 1 = .ok (.ldc 20, 2) := by decide +kernel
theorem dX2_slotOf_3 : decode cX2_slotOf 3 = .ok (.imul, 1) := by decide +kernel
theorem dX2_slotOf_4 : decode cX2_slotOf 4 = .ok (.bipush 22, 2) := by decide +kernel
theorem dX2_slotOf_6 : decode cX2_slotOf 6 = .ok (.iushr, 1) := by decide +kernel
theorem dX2_slotOf_7 : decode cX2_slotOf 7 = .ok (.ireturn, 1) := by decide +kernel
theorem dX3_init_0 : decode cX3_init 0 = .ok (.aload_n 0, 1) := by decide +kernel
theorem dX3_init_1 : decode cX3_init 1 = .ok (.invokespecial 1, 3) := by decide +kernel
theorem dX3_init_4 : decode cX3_init 4 = .ok (.aload_n 0, 1) := by decide +kernel
theorem dX3_init_5 : decode cX3_init 5 = .ok (.aload_n 1, 1) := by decide +kernel
theorem dX3_init_6 : decode cX3_init 6 = .ok (.putfield 7, 3) := by decide +kernel
theorem dX3_init_9 : decode cX3_init 9 = .ok (.return_, 1) := by decide +kernel
set_option maxRecDepth 20000 in
theorem ggX3_lowestLike_X1_ownerOf : GoodIn wsX3_lowestLike wsX1_ownerOf := goodIn_r _ [6, 7, 8, 9, 10, 11, 47, 48, 49, 50, 51, 52, 53, 54] (by decide +kernel) (by decide +kernel)
set_option maxRecDepth 20000 in
theorem gX3_lowestLike_X1_ownerOf : GoodIn wsX3_lowestLike (wsV RX3 13 RX1 yX1_ownerOf wsX1_ownerOf) := goodIn_app (goodIn_of _ (by decide +kernel)) ggX3_lowestLike_X1_ownerOf
set_option maxRecDepth 20000 in
theorem ggX3_lowestLike_X1_handOf : GoodIn wsX3_lowestLike wsX1_handOf := goodIn_r _ [15, 7, 47, 48, 49, 50, 51, 52, 53, 54] (by decide +kernel) (by decide +kernel)
set_option maxRecDepth 20000 in
theorem gX3_lowestLike_X1_handOf : GoodIn wsX3_lowestLike (wsV RX3 19 RX1 yX1_handOf wsX1_handOf) := goodIn_app (goodIn_of _ (by decide +kernel)) ggX3_lowestLike_X1_handOf
set_option maxRecDepth 20000 in
theorem ggX3_lowestLike_X1_out : GoodIn wsX3_lowestLike wsX1_out := goodIn_r _ [19, 20, 21, 22, 23, 5, 24, 7, 25, 26, 27, 28, 29, 30, 31, 32, 33, 34, 35, 36, 37, 38, 47, 48, 49, 50, 51, 52, 53, 54] (by decide +kernel) (by decide +kernel)
set_option maxRecDepth 20000 in
theorem gX3_lowestLike_X1_out : GoodIn wsX3_lowestLike (wsV RX3 22 RX1 yX1_out wsX1_out) := goodIn_app (goodIn_of _ (by decide +kernel)) ggX3_lowestLike_X1_out
set_option maxRecDepth 20000 in
theorem ggX3_lowestLike_X0_equalBelow : GoodIn wsX3_lowestLike wsX0_equalBelow := goodIn_r _ [41, 42, 43, 10, 44, 45, 9, 11] (by decide +kernel) (by decide +kernel)
set_option maxRecDepth 20000 in
theorem gX3_lowestLike_X0_equalBelow : GoodIn wsX3_lowestLike (va_wsS RX3 28 yX0_equalBelow wsX0_equalBelow) := goodIn_app (goodIn_of _ (by decide +kernel)) ggX3_lowestLike_X0_equalBelow
theorem dX3_lowestLike_0 : decode cX3_lowestLike 0 = .ok (.aload_n 0, 1) := by decide +kernel
theorem dX3_lowestLike_1 : decode cX3_lowestLike 1 = .ok (.getfield 7, 3) := by decide +kernel
theorem dX3_lowestLike_4 : decode cX3_lowestLike 4 = .ok (.aload_n 0, 1) := by decide +kernel
theorem dX3_lowestLike_5 : decode cX3_lowestLike 5 = .ok (.getfield 7, 3) := by decide +kernel
theorem dX3_lowestLike_8 : decode cX3_lowestLike 8 = .ok (.iload_n 1, 1) := by decide +kernel
theorem dX3_lowestLike_9 : decode cX3_lowestLike 9 = .ok (.invokevirtual 13, 3) := by decide +kernel
theorem dX3_lowestLike_12 : decode cX3_lowestLike 12 = .ok (.invokevirtual 19, 3) := by decide +kernel
theorem dX3_lowestLike_15 : decode cX3_lowestLike 15 = .ok (.istore_n 2, 1) := by decide +kernel
theorem dX3_lowestLike_16 : decode cX3_lowestLike 16 = .ok (.aload_n 0, 1) := by decide +kernel
theorem dX3_lowestLike_17 : decode cX3_lowestLike 17 = .ok (.getfield 7, 3) := by decide +kernel
theorem dX3_lowestLike_20 : decode cX3_lowestLike 20 = .ok (.invokevirtual 22, 3) := by decide +kernel
theorem dX3_lowestLike_23 : decode cX3_lowestLike 23 = .ok (.istore_n 3, 1) := by decide +kernel
theorem dX3_lowestLike_24 : decode cX3_lowestLike 24 = .ok (.iload_n 1, 1) := by decide +kernel
theorem dX3_lowestLike_25 : decode cX3_lowestLike 25 = .ok (.istore 4, 2) := by decide +kernel
theorem dX3_lowestLike_27 : decode cX3_lowestLike 27 = .ok (.iconst 0, 1) := by decide +kernel
theorem dX3_lowestLike_28 : decode cX3_lowestLike 28 = .ok (.istore 5, 2) := by decide +kernel
theorem dX3_lowestLike_30 : decode cX3_lowestLike 30 = .ok (.iload 5, 2) := by decide +kernel
theorem dX3_lowestLike_32 : decode cX3_lowestLike 32 = .ok (.bipush 6, 2) := by decide +kernel
theorem dX3_lowestLike_34 : decode cX3_lowestLike 34 = .ok (.if_icmp .ge 31, 3) := by decide +kernel
theorem dX3_lowestLike_37 : decode cX3_lowestLike 37 = .ok (.iload 4, 2) := by decide +kernel
theorem dX3_lowestLike_39 : decode cX3_lowestLike 39 = .ok (.iload_n 2, 1) := by decide +kernel
theorem dX3_lowestLike_40 : decode cX3_lowestLike 40 = .ok (.iload_n 3, 1) := by decide +kernel
theorem dX3_lowestLike_41 : decode cX3_lowestLike 41 = .ok (.invokestatic 28, 3) := by decide +kernel
theorem dX3_lowestLike_44 : decode cX3_lowestLike 44 = .ok (.istore 6, 2) := by decide +kernel
theorem dX3_lowestLike_46 : decode cX3_lowestLike 46 = .ok (.iload 6, 2) := by decide +kernel
theorem dX3_lowestLike_48 : decode cX3_lowestLike 48 = .ok (.iconst (-1), 1) := by decide +kernel
theorem dX3_lowestLike_49 : decode cX3_lowestLike 49 = .ok (.if_icmp .ne 6, 3) := by decide +kernel
theorem dX3_lowestLike_52 : decode cX3_lowestLike 52 = .ok (.iload 4, 2) := by decide +kernel
theorem dX3_lowestLike_54 : decode cX3_lowestLike 54 = .ok (.ireturn, 1) := by decide +kernel
theorem dX3_lowestLike_55 : decode cX3_lowestLike 55 = .ok (.iload 6, 2) := by decide +kernel
theorem dX3_lowestLike_57 : decode cX3_lowestLike 57 = .ok (.istore 4, 2) := by decide +kernel
theorem dX3_lowestLike_59 : decode cX3_lowestLike 59 = .ok (.iinc 5 1, 3) := by decide +kernel
theorem dX3_lowestLike_62 : decode cX3_lowestLike 62 = .ok (.goto (-32), 3) := by decide +kernel
theorem dX3_lowestLike_65 : decode cX3_lowestLike 65 = .ok (.iload 4, 2) := by decide +kernel
theorem dX3_lowestLike_67 : decode cX3_lowestLike 67 = .ok (.ireturn, 1) := by decide +kernel
set_option maxRecDepth 20000 in
theorem ggX3_isHighest_X1_inHands : GoodIn wsX3_isHighest wsX1_inHands := goodIn_r _ [6, 7, 42, 43, 44, 45, 46, 47, 48, 49] (by decide +kernel) (by decide +kernel)
set_option maxRecDepth 20000 in
theorem gX3_isHighest_X1_inHands : GoodIn wsX3_isHighest (wsV RX3 32 RX1 yX1_inHands wsX1_inHands) := goodIn_app (goodIn_of _ (by decide +kernel)) ggX3_isHighest_X1_inHands
set_option maxRecDepth 20000 in
theorem ggX3_isHighest_X1_handOf : GoodIn wsX3_isHighest wsX1_handOf := goodIn_r _ [11, 7, 42, 43, 44, 45, 46, 47, 48, 49] (by decide +kernel) (by decide +kernel)
set_option maxRecDepth 20000 in
theorem gX3_isHighest_X1_handOf : GoodIn wsX3_isHighest (wsV RX3 19 RX1 yX1_handOf wsX1_handOf) := goodIn_app (goodIn_of _ (by decide +kernel)) ggX3_isHighest_X1_handOf
set_option maxRecDepth 20000 in
theorem ggX3_isHighest_X1_inTrickSet : GoodIn wsX3_isHighest wsX1_inTrickSet := goodIn_r _ [15, 16, 17, 18, 19, 5, 20, 21, 22, 23, 24, 25, 42, 43, 44, 45, 46, 47, 48, 49] (by decide +kernel) (by decide +kernel)
set_option maxRecDepth 20000 in
theorem gX3_isHighest_X1_inTrickSet : GoodIn wsX3_isHighest (wsV RX3 35 RX1 yX1_inTrickSet wsX1_inTrickSet) := goodIn_app (goodIn_of _ (by decide +kernel)) ggX3_isHighest_X1_inTrickSet
set_option maxRecDepth 20000 in
theorem ggX3_isHighest_X0_suitOf : GoodIn wsX3_isHighest wsX0_suitOf := goodIn_r _ [29] (by decide +kernel) (by decide +kernel)
set_option maxRecDepth 20000 in
theorem gX3_isHighest_X0_suitOf : GoodIn wsX3_isHighest (va_wsS RX3 38 yX0_suitOf wsX0_suitOf) := goodIn_app (goodIn_of _ (by decide +kernel)) ggX3_isHighest_X0_suitOf
set_option maxRecDepth 20000 in
theorem ggX3_isHighest_X0_suitSet : GoodIn wsX3_isHighest wsX0_suitSet := goodIn_r _ [32] (by decide +kernel) (by decide +kernel)
set_option maxRecDepth 20000 in
theorem gX3_isHighest_X0_suitSet : GoodIn wsX3_isHighest (va_wsS RX3 41 yX0_suitSet wsX0_suitSet) := goodIn_app (goodIn_of _ (by decide +kernel)) ggX3_isHighest_X0_suitSet
set_option maxRecDepth 20000 in
theorem ggX3_isHighest_X0_highest : GoodIn wsX3_isHighest wsX0_highest := goodIn_r _ [35, 36, 37, 38, 39, 40] (by decide +kernel) (by decide +kernel)
set_option maxRecDepth 20000 in
theorem gX3_isHighest_X0_highest : GoodIn wsX3_isHighest (va_wsS RX3 44 yX0_highest wsX0_highest) := goodIn_app (goodIn_of _ (by decide +kernel)) ggX3_isHighest_X0_highest
theorem dX3_isHighest_0 : decode cX3_isHighest 0 = .ok (.aload_n 0, 1) := by decide +kernel
theorem dX3_isHighest_1 : decode cX3_isHighest 1 = .ok (.getfield 7, 3) := by decide +kernel
theorem dX3_isHighest_4 : decode cX3_isHighest 4 = .ok (.invokevirtual 32, 3) := by decide +kernel
theorem dX3_isHighest_7 : decode cX3_isHighest 7 = .ok (.aload_n 0, 1) := by decide +kernel
theorem dX3_isHighest_8 : decode cX3_isHighest 8 = .ok (.getfield 7, 3) := by decide +kernel
theorem dX3_isHighest_11 : decode cX3_isHighest 11 = .ok (.iload_n 2, 1) := by decide +kernel
theorem dX3_isHighest_12 : decode cX3_isHighest 12 = .ok (.invokevirtual 19, 3) := by decide +kernel
theorem dX3_isHighest_15 : decode cX3_isHighest 15 = .ok (.iconst (-1), 1) := by decide +kernel
theorem dX3_isHighest_16 : decode cX3_isHighest 16 = .ok (.ixor, 1) := by decide +kernel
theorem dX3_isHighest_17 : decode cX3_isHighest 17 = .ok (.iand, 1) := by decide +kernel
theorem dX3_isHighest_18 : decode cX3_isHighest 18 = .ok (.aload_n 0, 1) := by decide +kernel
theorem dX3_isHighest_19 : decode cX3_isHighest 19 = .ok (.getfield 7, 3) := by decide +kernel
theorem dX3_isHighest_22 : decode cX3_isHighest 22 = .ok (.invokevirtual 35, 3) := by decide +kernel
theorem dX3_isHighest_25 : decode cX3_isHighest 25 = .ok (.ior, 1) := by decide +kernel
theorem dX3_isHighest_26 : decode cX3_isHighest 26 = .ok (.istore_n 3, 1) := by decide +kernel
theorem dX3_isHighest_27 : decode cX3_isHighest 27 = .ok (.iload_n 3, 1) := by decide +kernel
theorem dX3_isHighest_28 : decode cX3_isHighest 28 = .ok (.iload_n 1, 1) := by decide +kernel
theorem dX3_isHighest_29 : decode cX3_isHighest 29 = .ok (.invokestatic 38, 3) := by decide +kernel
theorem dX3_isHighest_32 : decode cX3_isHighest 32 = .ok (.invokestatic 41, 3) := by decide +kernel
theorem dX3_isHighest_35 : decode cX3_isHighest 35 = .ok (.iand, 1) := by decide +kernel
theorem dX3_isHighest_36 : decode cX3_isHighest 36 = .ok (.invokestatic 44, 3) := by decide +kernel
theorem dX3_isHighest_39 : decode cX3_isHighest 39 = .ok (.iload_n 1, 1) := by decide +kernel
theorem dX3_isHighest_40 : decode cX3_isHighest 40 = .ok (.if_icmp .ge 7, 3) := by decide +kernel
theorem dX3_isHighest_43 : decode cX3_isHighest 43 = .ok (.iconst 1, 1) := by decide +kernel
theorem dX3_isHighest_44 : decode cX3_isHighest 44 = .ok (.goto 4, 3) := by decide +kernel
theorem dX3_isHighest_47 : decode cX3_isHighest 47 = .ok (.iconst 0, 1) := by decide +kernel
theorem dX3_isHighest_48 : decode cX3_isHighest 48 = .ok (.ireturn, 1) := by decide +kernel
set_option maxRecDepth 20000 in
theorem ggX3_quickTricks_X1_handOf : GoodIn wsX3_quickTricks wsX1_handOf := goodIn_r _ [6, 7, 50, 51, 52, 53, 54, 55, 56, 57] (by decide +kernel) (by decide +kernel)
set_option maxRecDepth 20000 in
theorem gX3_quickTricks_X1_handOf : GoodIn wsX3_quickTricks (wsV RX3 19 RX1 yX1_handOf wsX1_handOf) := goodIn_app (goodIn_of _ (by decide +kernel)) ggX3_quickTricks_X1_handOf
set_option maxRecDepth 20000 in
theorem ggX3_quickTricks_X0_holds : GoodIn wsX3_quickTricks wsX0_holds := goodIn_r _ [11] (by decide +kernel) (by decide +kernel)
set_option maxRecDepth 20000 in
theorem gX3_quickTricks_X0_holds : GoodIn wsX3_quickTricks (va_wsS RX3 47 yX0_holds wsX0_holds) := goodIn_app (goodIn_of _ (by decide +kernel)) ggX3_quickTricks_X0_holds
set_option maxRecDepth 20000 in
theorem ggX3_quickTricks_X3_isHighest : GoodIn wsX3_quickTricks wsX3_isHighest := goodIn_r _ [16, 1, 17, 18, 19, 5, 20, 7, 2, 3, 4, 6, 21, 22, 23, 24, 25, 26, 27, 28, 29, 30, 31, 32, 33, 34, 35, 36, 10, 37, 38, 39, 40, 41, 42, 43, 44, 45, 46, 47, 48, 49, 50, 51, 52, 53, 54, 55, 56, 57] (by decide +kernel) (by decide +kernel)
set_option maxRecDepth 20000 in
theorem gX3_quickTricks_X3_isHighest : GoodIn wsX3_quickTricks (wsV RX3 51 RX3 yX3_isHighest wsX3_isHighest) := goodIn_app (goodIn_of _ (by decide +kernel)) ggX3_quickTricks_X3_isHighest
theorem dX3_quickTricks_0 : decode cX3_quickTricks 0 = .ok (.aload_n 0, 1) := by decide +kernel
theorem dX3_quickTricks_1 : decode cX3_quickTricks 1 = .ok (.getfield 7, 3) := by decide +kernel
theorem dX3_quickTricks_4 : decode cX3_quickTricks 4 = .ok (.iload_n 1, 1) := by decide +kernel
theorem dX3_quickTricks_5 : decode cX3_quickTricks 5 = .ok (.invokevirtual 19, 3) := by decide +kernel
theorem dX3_quickTricks_8 : decode cX3_quickTricks 8 = .ok (.istore_n 2, 1) := by decide +kernel
theorem dX3_quickTricks_9 : decode cX3_quickTricks 9 = .ok (.iconst 0, 1) := by decide +kernel
theorem dX3_quickTricks_10 : decode cX3_quickTricks 10 = .ok (.istore_n 3, 1) := by decide +kernel
theorem dX3_quickTricks_11 : decode cX3_quickTricks 11 = .ok (.iconst 0, 1) := by decide +kernel
theorem dX3_quickTricks_12 : decode cX3_quickTricks 12 = .ok (.istore 4, 2) := by decide +kernel
theorem dX3_quickTricks_14 : decode cX3_quickTricks 14 = .ok (.iload 4, 2) := by decide +kernel
theorem dX3_quickTricks_16 : decode cX3_quickTricks 16 = .ok (.bipush 24, 2) := by decide +kernel
theorem dX3_quickTricks_18 : decode cX3_quickTricks 18 = .ok (.if_icmp .ge 31, 3) := by decide +kernel
theorem dX3_quickTricks_21 : decode cX3_quickTricks 21 = .ok (.iload_n 2, 1) := by decide +kernel
theorem dX3_quickTricks_22 : decode cX3_quickTricks 22 = .ok (.iload 4, 2) := by decide +kernel
theorem dX3_quickTricks_24 : decode cX3_quickTricks 24 = .ok (.invokestatic 47, 3) := by decide +kernel
theorem dX3_quickTricks_27 : decode cX3_quickTricks 27 = .ok (.ifCond .eq 16, 3) := by decide +kernel
theorem dX3_quickTricks_30 : decode cX3_quickTricks 30 = .ok (.aload_n 0, 1) := by decide +kernel
theorem dX3_quickTricks_31 : decode cX3_quickTricks 31 = .ok (.iload 4, 2) := by decide +kernel
theorem dX3_quickTricks_33 : decode cX3_quickTricks 33 = .ok (.iload_n 1, 1) := by decide +kernel
theorem dX3_quickTricks_34 : decode cX3_quickTricks 34 = .ok (.invokevirtual 51, 3) := by decide +kernel
theorem dX3_quickTricks_37 : decode cX3_quickTricks 37 = .ok (.ifCond .eq 6, 3) := by decide +kernel
theorem dX3_quickTricks_40 : decode cX3_quickTricks 40 = .ok (.iinc 3 1, 3) := by decide +kernel
theorem dX3_quickTricks_43 : decode cX3_quickTricks 43 = .ok (.iinc 4 1, 3) := by decide +kernel
theorem dX3_quickTricks_46 : decode cX3_quickTricks 46 = .ok (.goto (-32), 3) := by decide +kernel
theorem dX3_quickTricks_49 : decode cX3_quickTricks 49 = .ok (.iload_n 3, 1) := by decide +kernel
theorem dX3_quickTricks_50 : decode cX3_quickTricks 50 = .ok (.ireturn, 1) := by decide +kernel
set_option maxRecDepth 20000 in
theorem ggX3_forkKind_X1_inHands : GoodIn wsX3_forkKind wsX1_inHands := goodIn_r _ [6, 7, 37, 38, 39, 40, 41, 42, 43, 44] (by decide +kernel) (by decide +kernel)
set_option maxRecDepth 20000 in
theorem gX3_forkKind_X1_inHands : GoodIn wsX3_forkKind (wsV RX3 32 RX1 yX1_inHands wsX1_inHands) := goodIn_app (goodIn_of _ (by decide +kernel)) ggX3_forkKind_X1_inHands
set_option maxRecDepth 20000 in
theorem ggX3_forkKind_X0_suitSet : GoodIn wsX3_forkKind wsX0_suitSet := goodIn_r _ [11] (by decide +kernel) (by decide +kernel)
set_option maxRecDepth 20000 in
theorem gX3_forkKind_X0_suitSet : GoodIn wsX3_forkKind (va_wsS RX3 41 yX0_suitSet wsX0_suitSet) := goodIn_app (goodIn_of _ (by decide +kernel)) ggX3_forkKind_X0_suitSet
set_option maxRecDepth 20000 in
theorem ggX3_forkKind_J6_bitCount_0f7a4 : GoodIn wsX3_forkKind wsJ6_bitCount_0f7a4 := goodIn_r _ [15, 16, 17, 18] (by decide +kernel) (by decide +kernel)
set_option maxRecDepth 20000 in
theorem gX3_forkKind_J6_bitCount_0f7a4 : GoodIn wsX3_forkKind (va_wsS RX3 54 yJ6_bitCount_0f7a4 wsJ6_bitCount_0f7a4) := goodIn_app (goodIn_of _ (by decide +kernel)) ggX3_forkKind_J6_bitCount_0f7a4
set_option maxRecDepth 20000 in
theorem ggX3_forkKind_X0_highest : GoodIn wsX3_forkKind wsX0_highest := goodIn_r _ [21, 22, 23, 14, 24, 25] (by decide +kernel) (by decide +kernel)
set_option maxRecDepth 20000 in
theorem gX3_forkKind_X0_highest : GoodIn wsX3_forkKind (va_wsS RX3 44 yX0_highest wsX0_highest) := goodIn_app (goodIn_of _ (by decide +kernel)) ggX3_forkKind_X0_highest
set_option maxRecDepth 20000 in
theorem ggX3_forkKind_X1_ownerOf : GoodIn wsX3_forkKind wsX1_ownerOf := goodIn_r _ [29, 7, 30, 31, 10, 32, 37, 38, 39, 40, 41, 42, 43, 44] (by decide +kernel) (by decide +kernel)
set_option maxRecDepth 20000 in
theorem gX3_forkKind_X1_ownerOf : GoodIn wsX3_forkKind (wsV RX3 13 RX1 yX1_ownerOf wsX1_ownerOf) := goodIn_app (goodIn_of _ (by decide +kernel)) ggX3_forkKind_X1_ownerOf
set_option maxRecDepth 20000 in
theorem ggX3_forkKind_X0_sideOf : GoodIn wsX3_forkKind wsX0_sideOf := goodIn_r _ [35] (by decide +kernel) (by decide +kernel)
set_option maxRecDepth 20000 in
theorem gX3_forkKind_X0_sideOf : GoodIn wsX3_forkKind (va_wsS RX3 59 yX0_sideOf wsX0_sideOf) := goodIn_app (goodIn_of _ (by decide +kernel)) ggX3_forkKind_X0_sideOf
theorem dX3_forkKind_0 : decode cX3_forkKind 0 = .ok (.aload_n 0, 1) := by decide +kernel
theorem dX3_forkKind_1 : decode cX3_forkKind 1 = .ok (.getfield 7, 3) := by decide +kernel
theorem dX3_forkKind_4 : decode cX3_forkKind 4 = .ok (.invokevirtual 32, 3) := by decide +kernel
theorem dX3_forkKind_7 : decode cX3_forkKind 7 = .ok (.iload_n 2, 1) := by decide +kernel
theorem dX3_forkKind_8 : decode cX3_forkKind 8 = .ok (.invokestatic 41, 3) := by decide +kernel
theorem dX3_forkKind_11 : decode cX3_forkKind 11 = .ok (.iand, 1) := by decide +kernel
theorem dX3_forkKind_12 : decode cX3_forkKind 12 = .ok (.istore_n 3, 1) := by decide +kernel
theorem dX3_forkKind_13 : decode cX3_forkKind 13 = .ok (.iload_n 3, 1) := by decide +kernel
theorem dX3_forkKind_14 : decode cX3_forkKind 14 = .ok (.invokestatic 54, 3) := by decide +kernel
theorem dX3_forkKind_17 : decode cX3_forkKind 17 = .ok (.iconst 3, 1) := by decide +kernel
theorem dX3_forkKind_18 : decode cX3_forkKind 18 = .ok (.if_icmp .ge 5, 3) := by decide +kernel
theorem dX3_forkKind_21 : decode cX3_forkKind 21 = .ok (.iconst 0, 1) := by decide +kernel
theorem dX3_forkKind_22 : decode cX3_forkKind 22 = .ok (.ireturn, 1) := by decide +kernel
theorem dX3_forkKind_23 : decode cX3_forkKind 23 = .ok (.iload_n 3, 1) := by decide +kernel
theorem dX3_forkKind_24 : decode cX3_forkKind 24 = .ok (.invokestatic 44, 3) := by decide +kernel
theorem dX3_forkKind_27 : decode cX3_forkKind 27 = .ok (.istore 4, 2) := by decide +kernel
theorem dX3_forkKind_29 : decode cX3_forkKind 29 = .ok (.iload_n 3, 1) := by decide +kernel
theorem dX3_forkKind_30 : decode cX3_forkKind 30 = .ok (.iconst 1, 1) := by decide +kernel
theorem dX3_forkKind_31 : decode cX3_forkKind 31 = .ok (.iload 4, 2) := by decide +kernel
theorem dX3_forkKind_33 : decode cX3_forkKind 33 = .ok (.ishl, 1) := by decide +kernel
theorem dX3_forkKind_34 : decode cX3_forkKind 34 = .ok (.iconst (-1), 1) := by decide +kernel
theorem dX3_forkKind_35 : decode cX3_forkKind 35 = .ok (.ixor, 1) := by decide +kernel
theorem dX3_forkKind_36 : decode cX3_forkKind 36 = .ok (.iand, 1) := by decide +kernel
theorem dX3_forkKind_37 : decode cX3_forkKind 37 = .ok (.invokestatic 44, 3) := by decide +kernel
theorem dX3_forkKind_40 : decode cX3_forkKind 40 = .ok (.istore 5, 2) := by decide +kernel
theorem dX3_forkKind_42 : decode cX3_forkKind 42 = .ok (.iload_n 3, 1) := by decide +kernel
theorem dX3_forkKind_43 : decode cX3_forkKind 43 = .ok (.iconst 1, 1) := by decide +kernel
theorem dX3_forkKind_44 : decode cX3_forkKind 44 = .ok (.iload 4, 2) := by decide +kernel
theorem dX3_forkKind_46 : decode cX3_forkKind 46 = .ok (.ishl, 1) := by decide +kernel
theorem dX3_forkKind_47 : decode cX3_forkKind 47 = .ok (.iconst (-1), 1) := by decide +kernel
theorem dX3_forkKind_48 : decode cX3_forkKind 48 = .ok (.ixor, 1) := by decide +kernel
theorem dX3_forkKind_49 : decode cX3_forkKind 49 = .ok (.iand, 1) := by decide +kernel
theorem dX3_forkKind_50 : decode cX3_forkKind 50 = .ok (.iconst 1, 1) := by decide +kernel
theorem dX3_forkKind_51 : decode cX3_forkKind 51 = .ok (.iload 5, 2) := by decide +kernel
theorem dX3_forkKind_53 : decode cX3_forkKind 53 = .ok (.ishl, 1) := by decide +kernel
theorem dX3_forkKind_54 : decode cX3_forkKind 54 = .ok (.iconst (-1), 1) := by decide +kernel
theorem dX3_forkKind_55 : decode cX3_forkKind 55 = .ok (.ixor, 1) := by decide +kernel
theorem dX3_forkKind_56 : decode cX3_forkKind 56 = .ok (.iand, 1) := by decide +kernel
theorem dX3_forkKind_57 : decode cX3_forkKind 57 = .ok (.invokestatic 44, 3) := by decide +kernel
theorem dX3_forkKind_60 : decode cX3_forkKind 60 = .ok (.istore 6, 2) := by decide +kernel
theorem dX3_forkKind_62 : decode cX3_forkKind 62 = .ok (.aload_n 0, 1) := by decide +kernel
theorem dX3_forkKind_63 : decode cX3_forkKind 63 = .ok (.getfield 7, 3) := by decide +kernel
theorem dX3_forkKind_66 : decode cX3_forkKind 66 = .ok (.iload 5, 2) := by decide +kernel
theorem dX3_forkKind_68 : decode cX3_forkKind 68 = .ok (.invokevirtual 13, 3) := by decide +kernel
theorem dX3_forkKind_71 : decode cX3_forkKind 71 = .ok (.istore 7, 2) := by decide +kernel
theorem dX3_forkKind_73 : decode cX3_forkKind 73 = .ok (.aload_n 0, 1) := by decide +kernel
theorem dX3_forkKind_74 : decode cX3_forkKind 74 = .ok (.getfield 7, 3) := by decide +kernel
theorem dX3_forkKind_77 : decode cX3_forkKind 77 = .ok (.iload 4, 2) := by decide +kernel
theorem dX3_forkKind_79 : decode cX3_forkKind 79 = .ok (.invokevirtual 13, 3) := by decide +kernel
theorem dX3_forkKind_82 : decode cX3_forkKind 82 = .ok (.iload_n 1, 1) := by decide +kernel
theorem dX3_forkKind_83 : decode cX3_forkKind 83 = .ok (.if_icmp .ne 28, 3) := by decide +kernel
theorem dX3_forkKind_86 : decode cX3_forkKind 86 = .ok (.aload_n 0, 1) := by decide +kernel
theorem dX3_forkKind_87 : decode cX3_forkKind 87 = .ok (.getfield 7, 3) := by decide +kernel
theorem dX3_forkKind_90 : decode cX3_forkKind 90 = .ok (.iload 6, 2) := by decide +kernel
theorem dX3_forkKind_92 : decode cX3_forkKind 92 = .ok (.invokevirtual 13, 3) := by decide +kernel
theorem dX3_forkKind_95 : decode cX3_forkKind 95 = .ok (.iload_n 1, 1) := by decide +kernel
theorem dX3_forkKind_96 : decode cX3_forkKind 96 = .ok (.if_icmp .ne 15, 3) := by decide +kernel
theorem dX3_forkKind_99 : decode cX3_forkKind 99 = .ok (.iload 7, 2) := by decide +kernel
theorem dX3_forkKind_101 : decode cX3_forkKind 101 = .ok (.invokestatic 59, 3) := by decide +kernel
theorem dX3_forkKind_104 : decode cX3_forkKind 104 = .ok (.iload_n 1, 1) := by decide +kernel
theorem dX3_forkKind_105 : decode cX3_forkKind 105 = .ok (.invokestatic 59, 3) := by decide +kernel
theorem dX3_forkKind_108 : decode cX3_forkKind 108 = .ok (.if_icmp .ne 5, 3) := by decide +kernel
theorem dX3_forkKind_111 : decode cX3_forkKind 111 = .ok (.iconst 0, 1) := by decide +kernel
theorem dX3_forkKind_112 : decode cX3_forkKind 112 = .ok (.ireturn, 1) := by decide +kernel
theorem dX3_forkKind_113 : decode cX3_forkKind 113 = .ok (.iload 7, 2) := by decide +kernel
theorem dX3_forkKind_115 : decode cX3_forkKind 115 = .ok (.iconst 1, 1) := by decide +kernel
theorem dX3_forkKind_116 : decode cX3_forkKind 116 = .ok (.iadd, 1) := by decide +kernel
theorem dX3_forkKind_117 : decode cX3_forkKind 117 = .ok (.iconst 4, 1) := by decide +kernel
theorem dX3_forkKind_118 : decode cX3_forkKind 118 = .ok (.irem, 1) := by decide +kernel
theorem dX3_forkKind_119 : decode cX3_forkKind 119 = .ok (.iload_n 1, 1) := by decide +kernel
theorem dX3_forkKind_120 : decode cX3_forkKind 120 = .ok (.if_icmp .ne 7, 3) := by decide +kernel
theorem dX3_forkKind_123 : decode cX3_forkKind 123 = .ok (.iconst 2, 1) := by decide +kernel
theorem dX3_forkKind_124 : decode cX3_forkKind 124 = .ok (.goto 4, 3) := by decide +kernel
theorem dX3_forkKind_127 : decode cX3_forkKind 127 = .ok (.iconst 1, 1) := by decide +kernel
theorem dX3_forkKind_128 : decode cX3_forkKind 128 = .ok (.ireturn, 1) := by decide +kernel
set_option maxRecDepth 20000 in
theorem ggX3_goodForksOf_X3_forkKind : GoodIn wsX3_goodForksOf wsX3_forkKind := goodIn_r _ [5, 6, 7, 8, 9, 10, 11, 12, 13, 14, 15, 16, 17, 18, 19, 20, 21, 22, 23, 24, 25, 26, 27, 28, 29, 30, 31, 32, 33, 34, 35, 36, 37, 38, 39, 40, 41, 42, 43, 44, 45, 46, 47, 48, 49] (by decide +kernel) (by decide +kernel)
set_option maxRecDepth 20000 in
theorem gX3_goodForksOf_X3_forkKind : GoodIn wsX3_goodForksOf (wsV RX3 62 RX3 yX3_forkKind wsX3_forkKind) := goodIn_app (goodIn_of _ (by decide +kernel)) ggX3_goodForksOf_X3_forkKind
theorem dX3_goodForksOf_0 : decode cX3_goodForksOf 0 = .ok (.iconst 0, 1) := by decide +kernel
theorem dX3_goodForksOf_1 : decode cX3_goodForksOf 1 = .ok (.istore_n 2, 1) := by decide +kernel
theorem dX3_goodForksOf_2 : decode cX3_goodForksOf 2 = .ok (.iload_n 1, 1) := by decide +kernel
theorem dX3_goodForksOf_3 : decode cX3_goodForksOf 3 = .ok (.istore_n 3, 1) := by decide +kernel
theorem dX3_goodForksOf_4 : decode cX3_goodForksOf 4 = .ok (.iload_n 3, 1) := by decide +kernel
theorem dX3_goodForksOf_5 : decode cX3_goodForksOf 5 = .ok (.iconst 4, 1) := by decide +kernel
theorem dX3_goodForksOf_6 : decode cX3_goodForksOf 6 = .ok (.if_icmp .ge 38, 3) := by decide +kernel
theorem dX3_goodForksOf_9 : decode cX3_goodForksOf 9 = .ok (.iconst 0, 1) := by decide +kernel
theorem dX3_goodForksOf_10 : decode cX3_goodForksOf 10 = .ok (.istore 4, 2) := by decide +kernel
theorem dX3_goodForksOf_12 : decode cX3_goodForksOf 12 = .ok (.iload 4, 2) := by decide +kernel
theorem dX3_goodForksOf_14 : decode cX3_goodForksOf 14 = .ok (.iconst 4, 1) := by decide +kernel
theorem dX3_goodForksOf_15 : decode cX3_goodForksOf 15 = .ok (.if_icmp .ge 23, 3) := by decide +kernel
theorem dX3_goodForksOf_18 : decode cX3_goodForksOf 18 = .ok (.aload_n 0, 1) := by decide +kernel
theorem dX3_goodForksOf_19 : decode cX3_goodForksOf 19 = .ok (.iload_n 3, 1) := by decide +kernel
theorem dX3_goodForksOf_20 : decode cX3_goodForksOf 20 = .ok (.iload 4, 2) := by decide +kernel
theorem dX3_goodForksOf_22 : decode cX3_goodForksOf 22 = .ok (.invokevirtual 62, 3) := by decide +kernel
theorem dX3_goodForksOf_25 : decode cX3_goodForksOf 25 = .ok (.iconst 2, 1) := by decide +kernel
theorem dX3_goodForksOf_26 : decode cX3_goodForksOf 26 = .ok (.if_icmp .ne 6, 3) := by decide +kernel
theorem dX3_goodForksOf_29 : decode cX3_goodForksOf 29 = .ok (.iinc 2 1, 3) := by decide +kernel
theorem dX3_goodForksOf_32 : decode cX3_goodForksOf 32 = .ok (.iinc 4 1, 3) := by decide +kernel
theorem dX3_goodForksOf_35 : decode cX3_goodForksOf 35 = .ok (.goto (-23), 3) := by decide +kernel
theorem dX3_goodForksOf_38 : decode cX3_goodForksOf 38 = .ok (.iinc 3 2, 3) := by decide +kernel
theorem dX3_goodForksOf_41 : decode cX3_goodForksOf 41 = .ok (.goto (-37), 3) := by decide +kernel
theorem dX3_goodForksOf_44 : decode cX3_goodForksOf 44 = .ok (.iload_n 2, 1) := by decide +kernel
theorem dX3_goodForksOf_45 : decode cX3_goodForksOf 45 = .ok (.ireturn, 1) := by decide +kernel
set_option maxRecDepth 20000 in
theorem ggX4_init_X2_init : GoodIn wsX4_init wsX2_init := goodIn_r _ [11, 12, 2, 3, 13, 14, 17] (by decide +kernel) (by decide +kernel)
set_option maxRecDepth 20000 in
theorem gX4_init_X2_init : GoodIn wsX4_init (wsX2_init) := ggX4_init_X2_init
theorem dX4_init_0 : decode cX4_init 0 = .ok (.aload_n 0, 1) := by decide +kernel
theorem dX4_init_1 : decode cX4_init 1 = .ok (.invokespecial 1, 3) := by decide +kernel
theorem dX4_init_4 : decode cX4_init 4 = .ok (.aload_n 0, 1) := by decide +kernel
theorem dX4_init_5 : decode cX4_init 5 = .ok (.aload_n 1, 1) := by decide +kernel
theorem dX4_init_6 : decode cX4_init 6 = .ok (.putfield 7, 3) := by decide +kernel
theorem dX4_init_9 : decode cX4_init 9 = .ok (.aload_n 0, 1) := by decide +kernel
theorem dX4_init_10 : decode cX4_init 10 = .ok (.new 13, 3) := by decide +kernel
theorem dX4_init_13 : decode cX4_init 13 = .ok (.dup, 1) := by decide +kernel
theorem dX4_init_14 : decode cX4_init 14 = .ok (.invokespecial 15, 3) := by decide +kernel
theorem dX4_init_17 : decode cX4_init 17 = .ok (.putfield 16, 3) := by decide +kernel
theorem dX4_init_20 : decode cX4_init 20 = .ok (.return_, 1) := by decide +kernel
set_option maxRecDepth 20000 in
theorem ggX4_forget_X2_clear : GoodIn wsX4_forget wsX2_clear := goodIn_r _ [6, 7, 10] (by decide +kernel) (by decide +kernel)
set_option maxRecDepth 20000 in
theorem gX4_forget_X2_clear : GoodIn wsX4_forget (wsV RX4 20 RX2 yX2_clear wsX2_clear) := goodIn_app (goodIn_of _ (by decide +kernel)) ggX4_forget_X2_clear
theorem dX4_forget_0 : decode cX4_forget 0 = .ok (.aload_n 0, 1) := by decide +kernel
theorem dX4_forget_1 : decode cX4_forget 1 = .ok (.getfield 16, 3) := by decide +kernel
theorem dX4_forget_4 : decode cX4_forget 4 = .ok (.invokevirtual 20, 3) := by decide +kernel
theorem dX4_forget_7 : decode cX4_forget 7 = .ok (.return_, 1) := by decide +kernel
set_option maxRecDepth 20000 in
theorem ggX4_mostOfSide0_X1_cardsLeft : GoodIn wsX4_mostOfSide0 wsX1_cardsLeft := goodIn_r _ [6, 7, 8, 172, 173, 174, 175, 176, 177, 178, 179] (by decide +kernel) (by decide +kernel)
set_option maxRecDepth 20000 in
theorem gX4_mostOfSide0_X1_cardsLeft : GoodIn wsX4_mostOfSide0 (wsV RX4 23 RX1 yX1_cardsLeft wsX1_cardsLeft) := goodIn_app (goodIn_of _ (by decide +kernel)) ggX4_mostOfSide0_X1_cardsLeft
set_option maxRecDepth 20000 in
theorem ggX4_mostOfSide0_X1_tricksLeft : GoodIn wsX4_mostOfSide0 wsX1_tricksLeft := goodIn_r _ [12, 7, 13, 14, 15, 5, 16, 8, 172, 173, 174, 175, 176, 177, 178, 179] (by decide +kernel) (by decide +kernel)
set_option maxRecDepth 20000 in
theorem gX4_mostOfSide0_X1_tricksLeft : GoodIn wsX4_mostOfSide0 (wsV RX4 29 RX1 yX1_tricksLeft wsX1_tricksLeft) := goodIn_app (goodIn_of _ (by decide +kernel)) ggX4_mostOfSide0_X1_tricksLeft
set_option maxRecDepth 20000 in
theorem ggX4_mostOfSide0_X4_search : GoodIn wsX4_mostOfSide0 wsX4_search := goodIn_r _ [21, 1, 22, 23, 24, 25, 26, 27, 28, 29, 30, 31, 32, 5, 33, 8, 34, 35, 36, 20, 37, 38, 39, 40, 41, 42, 43, 44, 45, 13, 14, 15, 16, 46, 47, 48, 49, 50, 51, 52, 53, 54, 55, 56, 57, 58, 59, 60, 61, 62, 63, 64, 65, 66, 67, 68, 69, 70, 71, 72, 73, 74, 75, 76, 77, 78, 79, 3, 4, 6, 7, 80, 81, 82, 83, 84, 85, 86, 87, 88, 89, 90, 91, 92, 93, 94, 95, 96, 97, 98, 99, 100, 101, 102, 103, 104, 105, 106, 107, 108, 109, 110, 111, 112, 113, 114, 115, 116, 117, 118, 119, 120, 121, 122, 123, 124, 125, 126, 127, 128, 129, 130, 131, 132, 133, 134, 135, 136, 137, 138, 139, 140, 141, 142, 143, 144, 145, 146, 147, 148, 149, 150, 151, 152, 153, 154, 155, 156, 157, 158, 159, 160, 161, 17, 18, 19, 162, 163, 164, 165, 166, 167, 168, 169, 170, 171, 172, 173, 174, 175, 176, 177, 178, 179, 180] (by decide +kernel) (by decide +kernel)
set_option maxRecDepth 20000 in
theorem gX4_mostOfSide0_X4_search : GoodIn wsX4_mostOfSide0 (wsV RX4 32 RX4 yX4_search wsX4_search) := goodIn_app (goodIn_of _ (by decide +kernel)) ggX4_mostOfSide0_X4_search
theorem dX4_mostOfSide0_0 : decode cX4_mostOfSide0 0 = .ok (.aload_n 0, 1) := by decide +kernel
theorem dX4_mostOfSide0_1 : decode cX4_mostOfSide0 1 = .ok (.aload_n 0, 1) := by decide +kernel
theorem dX4_mostOfSide0_2 : decode cX4_mostOfSide0 2 = .ok (.getfield 7, 3) := by decide +kernel
theorem dX4_mostOfSide0_5 : decode cX4_mostOfSide0 5 = .ok (.invokevirtual 23, 3) := by decide +kernel
theorem dX4_mostOfSide0_8 : decode cX4_mostOfSide0 8 = .ok (.iconst 0, 1) := by decide +kernel
theorem dX4_mostOfSide0_9 : decode cX4_mostOfSide0 9 = .ok (.aload_n 0, 1) := by decide +kernel
theorem dX4_mostOfSide0_10 : decode cX4_mostOfSide0 10 = .ok (.getfield 7, 3) := by decide +kernel
theorem dX4_mostOfSide0_13 : decode cX4_mostOfSide0 13 = .ok (.invokevirtual 29, 3) := by decide +kernel
theorem dX4_mostOfSide0_16 : decode cX4_mostOfSide0 16 = .ok (.invokevirtual 32, 3) := by decide +kernel
theorem dX4_mostOfSide0_19 : decode cX4_mostOfSide0 19 = .ok (.ireturn, 1) := by decide +kernel
set_option maxRecDepth 20000 in
theorem ggX4_worthOf_X1_tricksLeft : GoodIn wsX4_worthOf wsX1_tricksLeft := goodIn_r _ [6, 7, 8, 9, 10, 5, 11, 12, 172, 173, 174, 175, 176, 177, 178, 179] (by decide +kernel) (by decide +kernel)
set_option maxRecDepth 20000 in
theorem gX4_worthOf_X1_tricksLeft : GoodIn wsX4_worthOf (wsV RX4 29 RX1 yX1_tricksLeft wsX1_tricksLeft) := goodIn_app (goodIn_of _ (by decide +kernel)) ggX4_worthOf_X1_tricksLeft
set_option maxRecDepth 20000 in
theorem ggX4_worthOf_X1_mover : GoodIn wsX4_worthOf wsX1_mover := goodIn_r _ [16, 17, 18, 19, 20, 5, 21, 7, 12, 8, 9, 10, 11, 22, 23, 24, 25, 26, 27, 28, 29, 30, 172, 173, 174, 175, 176, 177, 178, 179] (by decide +kernel) (by decide +kernel)
set_option maxRecDepth 20000 in
theorem gX4_worthOf_X1_mover : GoodIn wsX4_worthOf (wsV RX4 36 RX1 yX1_mover wsX1_mover) := goodIn_app (goodIn_of _ (by decide +kernel)) ggX4_worthOf_X1_mover
set_option maxRecDepth 20000 in
theorem ggX4_worthOf_X0_sideOf : GoodIn wsX4_worthOf wsX0_sideOf := goodIn_r _ [34] (by decide +kernel) (by decide +kernel)
set_option maxRecDepth 20000 in
theorem gX4_worthOf_X0_sideOf : GoodIn wsX4_worthOf (va_wsS RX4 39 yX0_sideOf wsX0_sideOf) := goodIn_app (goodIn_of _ (by decide +kernel)) ggX4_worthOf_X0_sideOf
set_option maxRecDepth 20000 in
theorem ggX4_worthOf_X1_lay : GoodIn wsX4_worthOf wsX1_lay := goodIn_r _ [38, 12, 39, 40, 14, 15, 5, 16, 17, 18, 19, 20, 21, 7, 8, 9, 10, 11, 22, 23, 24, 25, 26, 27, 28, 29, 30, 41, 42, 43, 44, 45, 46, 47, 48, 49, 50, 51, 52, 53, 54, 55, 56, 57, 58, 172, 173, 174, 175, 176, 177, 178, 179] (by decide +kernel) (by decide +kernel)
set_option maxRecDepth 20000 in
theorem gX4_worthOf_X1_lay : GoodIn wsX4_worthOf (wsV RX4 45 RX1 yX1_lay wsX1_lay) := goodIn_app (goodIn_of _ (by decide +kernel)) ggX4_worthOf_X1_lay
set_option maxRecDepth 20000 in
theorem ggX4_worthOf_X4_gainOf : GoodIn wsX4_worthOf wsX4_gainOf := goodIn_r _ [62, 31, 32, 33, 34] (by decide +kernel) (by decide +kernel)
set_option maxRecDepth 20000 in
theorem gX4_worthOf_X4_gainOf : GoodIn wsX4_worthOf (va_wsS RX4 48 yX4_gainOf wsX4_gainOf) := goodIn_app (goodIn_of _ (by decide +kernel)) ggX4_worthOf_X4_gainOf
set_option maxRecDepth 20000 in
theorem ggX4_worthOf_X1_cardsLeft : GoodIn wsX4_worthOf wsX1_cardsLeft := goodIn_r _ [21, 7, 12, 172, 173, 174, 175, 176, 177, 178, 179] (by decide +kernel) (by decide +kernel)
set_option maxRecDepth 20000 in
theorem gX4_worthOf_X1_cardsLeft : GoodIn wsX4_worthOf (wsV RX4 23 RX1 yX1_cardsLeft wsX1_cardsLeft) := goodIn_app (goodIn_of _ (by decide +kernel)) ggX4_worthOf_X1_cardsLeft
set_option maxRecDepth 20000 in
theorem ggX4_worthOf_X4_search : GoodIn wsX4_worthOf wsX4_search := goodIn_r _ [67, 1, 68, 69, 70, 71, 72, 73, 74, 75, 76, 28, 29, 5, 30, 12, 77, 78, 79, 61, 80, 81, 82, 83, 84, 85, 86, 87, 45, 8, 9, 10, 11, 22, 23, 24, 25, 26, 88, 89, 90, 91, 92, 93, 94, 95, 96, 97, 98, 99, 100, 101, 102, 103, 104, 105, 106, 107, 108, 109, 110, 13, 14, 15, 16, 17, 18, 19, 20, 21, 7, 27, 31, 32, 33, 34, 111, 112, 113, 114, 40, 115, 116, 117, 118, 119, 120, 121, 122, 50, 51, 52, 53, 39, 123, 124, 125, 126, 127, 128, 129, 130, 131, 132, 133, 134, 135, 136, 137, 138, 139, 140, 141, 142, 143, 144, 145, 146, 147, 148, 149, 150, 151, 152, 153, 154, 155, 156, 157, 158, 159, 160, 161, 35, 36, 37, 38, 41, 42, 43, 44, 46, 47, 48, 49, 54, 55, 56, 57, 58, 59, 60, 62, 64, 65, 66, 162, 163, 164, 165, 166, 167, 168, 169, 170, 171, 172, 173, 174, 175, 176, 177, 178, 179, 180] (by decide +kernel) (by decide +kernel)
set_option maxRecDepth 20000 in
theorem gX4_worthOf_X4_search : GoodIn wsX4_worthOf (wsV RX4 32 RX4 yX4_search wsX4_search) := goodIn_app (goodIn_of _ (by decide +kernel)) ggX4_worthOf_X4_search
set_option maxRecDepth 20000 in
theorem ggX4_worthOf_X1_lift : GoodIn wsX4_worthOf wsX1_lift := goodIn_r _ [165, 12, 50, 51, 52, 5, 53, 39, 40, 14, 15, 16, 17, 18, 19, 20, 21, 7, 8, 9, 10, 11, 22, 23, 24, 25, 26, 27, 28, 29, 30, 166, 167, 168, 169, 45, 172, 173, 174, 175, 176, 177, 178, 179] (by decide +kernel) (by decide +kernel)
set_option maxRecDepth 20000 in
theorem gX4_worthOf_X1_lift : GoodIn wsX4_worthOf (wsV RX4 51 RX1 yX1_lift wsX1_lift) := goodIn_app (goodIn_of _ (by decide +kernel)) ggX4_worthOf_X1_lift
theorem dX4_worthOf_0 : decode cX4_worthOf 0 = .ok (.aload_n 0, 1) := by decide +kernel
theorem dX4_worthOf_1 : decode cX4_worthOf 1 = .ok (.getfield 7, 3) := by decide +kernel
theorem dX4_worthOf_4 : decode cX4_worthOf 4 = .ok (.invokevirtual 29, 3) := by decide +kernel
theorem dX4_worthOf_7 : decode cX4_worthOf 7 = .ok (.istore_n 2, 1) := by decide +kernel
theorem dX4_worthOf_8 : decode cX4_worthOf 8 = .ok (.aload_n 0, 1) := by decide +kernel
theorem dX4_worthOf_9 : decode cX4_worthOf 9 = .ok (.getfield 7, 3) := by decide +kernel
theorem dX4_worthOf_12 : decode cX4_worthOf 12 = .ok (.invokevirtual 36, 3) := by decide +kernel
theorem dX4_worthOf_15 : decode cX4_worthOf 15 = .ok (.invokestatic 39, 3) := by decide +kernel
theorem dX4_worthOf_18 : decode cX4_worthOf 18 = .ok (.istore_n 3, 1) := by decide +kernel
theorem dX4_worthOf_19 : decode cX4_worthOf 19 = .ok (.aload_n 0, 1) := by decide +kernel
theorem dX4_worthOf_20 : decode cX4_worthOf 20 = .ok (.getfield 7, 3) := by decide +kernel
theorem dX4_worthOf_23 : decode cX4_worthOf 23 = .ok (.iload_n 1, 1) := by decide +kernel
theorem dX4_worthOf_24 : decode cX4_worthOf 24 = .ok (.invokevirtual 45, 3) := by decide +kernel
theorem dX4_worthOf_27 : decode cX4_worthOf 27 = .ok (.invokestatic 48, 3) := by decide +kernel
theorem dX4_worthOf_30 : decode cX4_worthOf 30 = .ok (.istore 4, 2) := by decide +kernel
theorem dX4_worthOf_32 : decode cX4_worthOf 32 = .ok (.iload 4, 2) := by decide +kernel
theorem dX4_worthOf_34 : decode cX4_worthOf 34 = .ok (.aload_n 0, 1) := by decide +kernel
theorem dX4_worthOf_35 : decode cX4_worthOf 35 = .ok (.aload_n 0, 1) := by decide +kernel
theorem dX4_worthOf_36 : decode cX4_worthOf 36 = .ok (.getfield 7, 3) := by decide +kernel
theorem dX4_worthOf_39 : decode cX4_worthOf 39 = .ok (.invokevirtual 23, 3) := by decide +kernel
theorem dX4_worthOf_42 : decode cX4_worthOf 42 = .ok (.iconst 0, 1) := by decide +kernel
theorem dX4_worthOf_43 : decode cX4_worthOf 43 = .ok (.iload_n 2, 1) := by decide +kernel
theorem dX4_worthOf_44 : decode cX4_worthOf 44 = .ok (.invokevirtual 32, 3) := by decide +kernel
theorem dX4_worthOf_47 : decode cX4_worthOf 47 = .ok (.iadd, 1) := by decide +kernel
theorem dX4_worthOf_48 : decode cX4_worthOf 48 = .ok (.istore 5, 2) := by decide +kernel
theorem dX4_worthOf_50 : decode cX4_worthOf 50 = .ok (.aload_n 0, 1) := by decide +kernel
theorem dX4_worthOf_51 : decode cX4_worthOf 51 = .ok (.getfield 7, 3) := by decide +kernel
theorem dX4_worthOf_54 : decode cX4_worthOf 54 = .ok (.invokevirtual 51, 3) := by decide +kernel
theorem dX4_worthOf_57 : decode cX4_worthOf 57 = .ok (.pop, 1) := by decide +kernel
theorem dX4_worthOf_58 : decode cX4_worthOf 58 = .ok (.iload_n 3, 1) := by decide +kernel
end
section
theorem dX4_worthOf_59 : decode cX4_worthOf 59 = .ok (.ifCond .ne 8, 3) := by decide +kernel
theorem dX4_worthOf_62 : decode cX4_worthOf 62 = .ok (.iload 5, 2) := by decide +kernel
theorem dX4_worthOf_64 : decode cX4_worthOf 64 = .ok (.goto 7, 3) := by decide +kernel
theorem dX4_worthOf_67 : decode cX4_worthOf 67 = .ok (.iload_n 2, 1) := by decide +kernel
theorem dX4_worthOf_68 : decode cX4_worthOf 68 = .ok (.iload 5, 2) := by decide +kernel
theorem dX4_worthOf_70 : decode cX4_worthOf 70 = .ok (.isub, 1) := by decide +kernel
theorem dX4_worthOf_71 : decode cX4_worthOf 71 = .ok (.ireturn, 1) := by decide +kernel
set_option maxRecDepth 20000 in
theorem ggX4_bestPlay_X1_playable : GoodIn wsX4_bestPlay wsX1_playable := goodIn_r _ [6, 7, 8, 9, 5, 10, 11, 12, 13, 14, 15, 16, 17, 18, 19, 20, 21, 22, 23, 24, 25, 26, 27, 28, 29, 30, 31, 32, 33, 34, 35, 36, 37, 38, 39, 40, 41, 42, 43, 44, 45, 46, 47, 48, 49, 50, 51, 177, 178, 179, 180, 181, 182, 183, 184] (by decide +kernel) (by decide +kernel)
set_option maxRecDepth 20000 in
theorem gX4_bestPlay_X1_playable : GoodIn wsX4_bestPlay (wsV RX4 54 RX1 yX1_playable wsX1_playable) := goodIn_app (goodIn_of _ (by decide +kernel)) ggX4_bestPlay_X1_playable
set_option maxRecDepth 20000 in
theorem ggX4_bestPlay_X1_out : GoodIn wsX4_bestPlay wsX1_out := goodIn_r _ [55, 56, 57, 58, 59, 5, 60, 35, 61, 62, 63, 64, 17, 27, 28, 29, 30, 40, 41, 42, 43, 44, 177, 178, 179, 180, 181, 182, 183, 184] (by decide +kernel) (by decide +kernel)
set_option maxRecDepth 20000 in
theorem gX4_bestPlay_X1_out : GoodIn wsX4_bestPlay (wsV RX4 57 RX1 yX1_out wsX1_out) := goodIn_app (goodIn_of _ (by decide +kernel)) ggX4_bestPlay_X1_out
set_option maxRecDepth 20000 in
theorem ggX4_bestPlay_X0_lowestOfEquals : GoodIn wsX4_bestPlay wsX0_lowestOfEquals := goodIn_r _ [67, 68, 69, 47, 70, 71, 72, 73, 74, 75, 76, 77, 78, 79, 46, 48, 80, 81, 82] (by decide +kernel) (by decide +kernel)
set_option maxRecDepth 20000 in
theorem gX4_bestPlay_X0_lowestOfEquals : GoodIn wsX4_bestPlay (va_wsS RX4 60 yX0_lowestOfEquals wsX0_lowestOfEquals) := goodIn_app (goodIn_of _ (by decide +kernel)) ggX4_bestPlay_X0_lowestOfEquals
set_option maxRecDepth 20000 in
theorem ggX4_bestPlay_X0_lowest : GoodIn wsX4_bestPlay wsX0_lowest := goodIn_r _ [70, 71, 72, 73, 74, 75] (by decide +kernel) (by decide +kernel)
set_option maxRecDepth 20000 in
theorem gX4_bestPlay_X0_lowest : GoodIn wsX4_bestPlay (va_wsS RX4 64 yX0_lowest wsX0_lowest) := goodIn_app (goodIn_of _ (by decide +kernel)) ggX4_bestPlay_X0_lowest
set_option maxRecDepth 20000 in
theorem ggX4_bestPlay_X4_worthOf : GoodIn wsX4_bestPlay wsX4_worthOf := goodIn_r _ [88, 1, 89, 90, 91, 5, 92, 16, 18, 19, 20, 21, 17, 93, 8, 9, 10, 11, 12, 13, 14, 15, 22, 23, 24, 25, 26, 27, 28, 29, 30, 94, 95, 47, 96, 97, 98, 99, 100, 44, 7, 101, 102, 103, 104, 35, 105, 106, 107, 108, 40, 41, 42, 43, 109, 110, 111, 112, 113, 114, 115, 87, 116, 117, 118, 119, 120, 121, 122, 123, 124, 125, 126, 127, 128, 129, 130, 131, 132, 133, 134, 135, 136, 137, 57, 58, 59, 60, 138, 139, 140, 141, 142, 143, 144, 145, 146, 147, 148, 149, 150, 151, 152, 153, 154, 155, 156, 157, 158, 159, 160, 2, 3, 4, 6, 31, 32, 33, 34, 36, 37, 38, 39, 45, 46, 48, 49, 50, 51, 52, 53, 54, 55, 56, 61, 62, 63, 64, 65, 66, 67, 68, 69, 70, 71, 72, 73, 74, 75, 76, 77, 78, 79, 80, 81, 82, 161, 162, 163, 164, 165, 166, 167, 168, 169, 170, 171, 172, 173, 174, 175, 176, 177, 178, 179, 180, 181, 182, 183, 184, 185] (by decide +kernel) (by decide +kernel)
set_option maxRecDepth 20000 in
theorem gX4_bestPlay_X4_worthOf : GoodIn wsX4_bestPlay (wsV RX4 67 RX4 yX4_worthOf wsX4_worthOf) := goodIn_app (goodIn_of _ (by decide +kernel)) ggX4_bestPlay_X4_worthOf
theorem dX4_bestPlay_0 : decode cX4_bestPlay 0 = .ok (.aload_n 0, 1) := by decide +kernel
theorem dX4_bestPlay_1 : decode cX4_bestPlay 1 = .ok (.getfield 7, 3) := by decide +kernel
theorem dX4_bestPlay_4 : decode cX4_bestPlay 4 = .ok (.invokevirtual 54, 3) := by decide +kernel
theorem dX4_bestPlay_7 : decode cX4_bestPlay 7 = .ok (.aload_n 0, 1) := by decide +kernel
theorem dX4_bestPlay_8 : decode cX4_bestPlay 8 = .ok (.getfield 7, 3) := by decide +kernel
theorem dX4_bestPlay_11 : decode cX4_bestPlay 11 = .ok (.invokevirtual 57, 3) := by decide +kernel
theorem dX4_bestPlay_14 : decode cX4_bestPlay 14 = .ok (.invokestatic 60, 3) := by decide +kernel
theorem dX4_bestPlay_17 : decode cX4_bestPlay 17 = .ok (.istore_n 1, 1) := by decide +kernel
theorem dX4_bestPlay_18 : decode cX4_bestPlay 18 = .ok (.iconst (-1), 1) := by decide +kernel
theorem dX4_bestPlay_19 : decode cX4_bestPlay 19 = .ok (.istore_n 2, 1) := by decide +kernel
theorem dX4_bestPlay_20 : decode cX4_bestPlay 20 = .ok (.iconst (-1), 1) := by decide +kernel
theorem dX4_bestPlay_21 : decode cX4_bestPlay 21 = .ok (.istore_n 3, 1) := by decide +kernel
theorem dX4_bestPlay_22 : decode cX4_bestPlay 22 = .ok (.iconst 0, 1) := by decide +kernel
theorem dX4_bestPlay_23 : decode cX4_bestPlay 23 = .ok (.istore 4, 2) := by decide +kernel
theorem dX4_bestPlay_25 : decode cX4_bestPlay 25 = .ok (.iload 4, 2) := by decide +kernel
theorem dX4_bestPlay_27 : decode cX4_bestPlay 27 = .ok (.iconst 4, 1) := by decide +kernel
theorem dX4_bestPlay_28 : decode cX4_bestPlay 28 = .ok (.if_icmp .ge 48, 3) := by decide +kernel
theorem dX4_bestPlay_31 : decode cX4_bestPlay 31 = .ok (.iload_n 1, 1) := by decide +kernel
theorem dX4_bestPlay_32 : decode cX4_bestPlay 32 = .ok (.ifCond .eq 44, 3) := by decide +kernel
theorem dX4_bestPlay_35 : decode cX4_bestPlay 35 = .ok (.iload_n 1, 1) := by decide +kernel
theorem dX4_bestPlay_36 : decode cX4_bestPlay 36 = .ok (.invokestatic 64, 3) := by decide +kernel
theorem dX4_bestPlay_39 : decode cX4_bestPlay 39 = .ok (.istore 5, 2) := by decide +kernel
theorem dX4_bestPlay_41 : decode cX4_bestPlay 41 = .ok (.iload_n 1, 1) := by decide +kernel
theorem dX4_bestPlay_42 : decode cX4_bestPlay 42 = .ok (.iconst 1, 1) := by decide +kernel
theorem dX4_bestPlay_43 : decode cX4_bestPlay 43 = .ok (.iload 5, 2) := by decide +kernel
theorem dX4_bestPlay_45 : decode cX4_bestPlay 45 = .ok (.ishl, 1) := by decide +kernel
theorem dX4_bestPlay_46 : decode cX4_bestPlay 46 = .ok (.iconst (-1), 1) := by decide +kernel
theorem dX4_bestPlay_47 : decode cX4_bestPlay 47 = .ok (.ixor, 1) := by decide +kernel
theorem dX4_bestPlay_48 : decode cX4_bestPlay 48 = .ok (.iand, 1) := by decide +kernel
theorem dX4_bestPlay_49 : decode cX4_bestPlay 49 = .ok (.istore_n 1, 1) := by decide +kernel
theorem dX4_bestPlay_50 : decode cX4_bestPlay 50 = .ok (.aload_n 0, 1) := by decide +kernel
theorem dX4_bestPlay_51 : decode cX4_bestPlay 51 = .ok (.iload 5, 2) := by decide +kernel
theorem dX4_bestPlay_53 : decode cX4_bestPlay 53 = .ok (.invokevirtual 67, 3) := by decide +kernel
theorem dX4_bestPlay_56 : decode cX4_bestPlay 56 = .ok (.istore 6, 2) := by decide +kernel
theorem dX4_bestPlay_58 : decode cX4_bestPlay 58 = .ok (.iload 6, 2) := by decide +kernel
theorem dX4_bestPlay_60 : decode cX4_bestPlay 60 = .ok (.iload_n 3, 1) := by decide +kernel
theorem dX4_bestPlay_61 : decode cX4_bestPlay 61 = .ok (.if_icmp .le 9, 3) := by decide +kernel
theorem dX4_bestPlay_64 : decode cX4_bestPlay 64 = .ok (.iload 6, 2) := by decide +kernel
theorem dX4_bestPlay_66 : decode cX4_bestPlay 66 = .ok (.istore_n 3, 1) := by decide +kernel
theorem dX4_bestPlay_67 : decode cX4_bestPlay 67 = .ok (.iload 5, 2) := by decide +kernel
theorem dX4_bestPlay_69 : decode cX4_bestPlay 69 = .ok (.istore_n 2, 1) := by decide +kernel
theorem dX4_bestPlay_70 : decode cX4_bestPlay 70 = .ok (.iinc 4 1, 3) := by decide +kernel
theorem dX4_bestPlay_73 : decode cX4_bestPlay 73 = .ok (.goto (-48), 3) := by decide +kernel
theorem dX4_bestPlay_76 : decode cX4_bestPlay 76 = .ok (.iload_n 2, 1) := by decide +kernel
theorem dX4_bestPlay_77 : decode cX4_bestPlay 77 = .ok (.ireturn, 1) := by decide +kernel
set_option maxRecDepth 20000 in
theorem ggX4_gainOf_X0_sideOf : GoodIn wsX4_gainOf wsX0_sideOf := goodIn_r _ [4] (by decide +kernel) (by decide +kernel)
set_option maxRecDepth 20000 in
theorem gX4_gainOf_X0_sideOf : GoodIn wsX4_gainOf (va_wsS RX4 39 yX0_sideOf wsX0_sideOf) := goodIn_app (goodIn_of _ (by decide +kernel)) ggX4_gainOf_X0_sideOf
theorem dX4_gainOf_0 : decode cX4_gainOf 0 = .ok (.iload_n 0, 1) := by decide +kernel
theorem dX4_gainOf_1 : decode cX4_gainOf 1 = .ok (.iconst (-1), 1) := by decide +kernel
theorem dX4_gainOf_2 : decode cX4_gainOf 2 = .ok (.if_icmp .eq 14, 3) := by decide +kernel
theorem dX4_gainOf_5 : decode cX4_gainOf 5 = .ok (.iload_n 0, 1) := by decide +kernel
theorem dX4_gainOf_6 : decode cX4_gainOf 6 = .ok (.invokestatic 39, 3) := by decide +kernel
theorem dX4_gainOf_9 : decode cX4_gainOf 9 = .ok (.ifCond .ne 7, 3) := by decide +kernel
theorem dX4_gainOf_12 : decode cX4_gainOf 12 = .ok (.iconst 1, 1) := by decide +kernel
theorem dX4_gainOf_13 : decode cX4_gainOf 13 = .ok (.goto 4, 3) := by decide +kernel
theorem dX4_gainOf_16 : decode cX4_gainOf 16 = .ok (.iconst 0, 1) := by decide +kernel
theorem dX4_gainOf_17 : decode cX4_gainOf 17 = .ok (.ireturn, 1) := by decide +kernel
set_option maxRecDepth 20000 in
theorem ggX4_search_X1_trickSize : GoodIn wsX4_search wsX1_trickSize := goodIn_r _ [14, 15, 166, 167, 168, 169, 170, 171, 172, 173] (by decide +kernel) (by decide +kernel)
set_option maxRecDepth 20000 in
theorem gX4_search_X1_trickSize : GoodIn wsX4_search (wsV RX4 70 RX1 yX1_trickSize wsX1_trickSize) := goodIn_app (goodIn_of _ (by decide +kernel)) ggX4_search_X1_trickSize
set_option maxRecDepth 20000 in
theorem ggX4_search_X4_tryPlays : GoodIn wsX4_search wsX4_tryPlays := goodIn_r _ [60, 1, 3, 4, 5, 6, 7, 8, 9, 61, 62, 63, 13, 64, 65, 66, 67, 68, 69, 70, 15, 29, 30, 31, 32, 33, 34, 35, 36, 37, 71, 11, 12, 14, 72, 73, 74, 75, 76, 77, 78, 79, 80, 81, 82, 83, 84, 28, 85, 86, 87, 88, 89, 90, 91, 92, 93, 94, 95, 96, 97, 98, 99, 100, 101, 102, 103, 104, 24, 25, 26, 27, 105, 106, 107, 108, 109, 110, 111, 112, 113, 114, 115, 116, 117, 118, 119, 120, 121, 122, 123, 124, 125, 126, 127, 128, 129, 130, 131, 132, 133, 134, 135, 136, 137, 138, 139, 140, 141, 142, 143, 144, 145, 146, 147, 148, 149, 150, 151, 19, 152, 153, 154, 155, 156, 157, 158, 159, 160, 161, 162, 163, 0, 2, 10, 16, 17, 18, 20, 21, 22, 23, 38, 39, 40, 41, 42, 43, 44, 45, 46, 47, 48, 49, 50, 51, 52, 53, 54, 55, 56, 57, 58, 59, 164, 165, 166, 167, 168, 169, 170, 171, 172, 173, 174] (by decide +kernel) (by decide +kernel)
set_option maxRecDepth 20000 in
theorem gX4_search_X4_tryPlays : GoodIn wsX4_search (wsV RX4 73 RX4 yX4_tryPlays wsX4_tryPlays) := goodIn_app (goodIn_of _ (by decide +kernel)) ggX4_search_X4_tryPlays
set_option maxRecDepth 20000 in
theorem ggX4_search_X1_betweenTricks : GoodIn wsX4_search wsX1_betweenTricks := goodIn_r _ [23, 24, 25, 26, 13, 27, 28, 29, 30, 31, 32, 15, 33, 34, 35, 36, 37, 166, 167, 168, 169, 170, 171, 172, 173] (by decide +kernel) (by decide +kernel)
set_option maxRecDepth 20000 in
theorem gX4_search_X1_betweenTricks : GoodIn wsX4_search (wsV RX4 76 RX1 yX1_betweenTricks wsX1_betweenTricks) := goodIn_app (goodIn_of _ (by decide +kernel)) ggX4_search_X1_betweenTricks
set_option maxRecDepth 20000 in
theorem ggX4_search_X2_leastAt : GoodIn wsX4_search wsX2_leastAt := goodIn_r _ [42, 43, 44, 45, 41, 46, 47, 48, 49, 50, 51, 174] (by decide +kernel) (by decide +kernel)
set_option maxRecDepth 20000 in
theorem gX4_search_X2_leastAt : GoodIn wsX4_search (wsV RX4 79 RX2 yX2_leastAt wsX2_leastAt) := goodIn_app (goodIn_of _ (by decide +kernel)) ggX4_search_X2_leastAt
set_option maxRecDepth 20000 in
theorem ggX4_search_X2_mostAt : GoodIn wsX4_search wsX2_mostAt := goodIn_r _ [55, 43, 44, 45, 41, 46, 47, 48, 49, 50, 51, 174] (by decide +kernel) (by decide +kernel)
set_option maxRecDepth 20000 in
theorem gX4_search_X2_mostAt : GoodIn wsX4_search (wsV RX4 82 RX2 yX2_mostAt wsX2_mostAt) := goodIn_app (goodIn_of _ (by decide +kernel)) ggX4_search_X2_mostAt
set_option maxRecDepth 20000 in
theorem ggX4_search_X2_put : GoodIn wsX4_search wsX2_put := goodIn_r _ [59, 47, 48, 49, 41, 50, 51, 174] (by decide +kernel) (by decide +kernel)
set_option maxRecDepth 20000 in
theorem gX4_search_X2_put : GoodIn wsX4_search (wsV RX4 93 RX2 yX2_put wsX2_put) := goodIn_app (goodIn_of _ (by decide +kernel)) ggX4_search_X2_put
theorem dX4_search_0 : decode cX4_search 0 = .ok (.iload_n 1, 1) := by decide +kernel
theorem dX4_search_1 : decode cX4_search 1 = .ok (.ifCond .gt 5, 3) := by decide +kernel
theorem dX4_search_4 : decode cX4_search 4 = .ok (.iconst 0, 1) := by decide +kernel
theorem dX4_search_5 : decode cX4_search 5 = .ok (.ireturn, 1) := by decide +kernel
theorem dX4_search_6 : decode cX4_search 6 = .ok (.aload_n 0, 1) := by decide +kernel
theorem dX4_search_7 : decode cX4_search 7 = .ok (.getfield 7, 3) := by decide +kernel
theorem dX4_search_10 : decode cX4_search 10 = .ok (.invokevirtual 70, 3) := by decide +kernel
theorem dX4_search_13 : decode cX4_search 13 = .ok (.ifCond .eq 11, 3) := by decide +kernel
theorem dX4_search_16 : decode cX4_search 16 = .ok (.aload_n 0, 1) := by decide +kernel
theorem dX4_search_17 : decode cX4_search 17 = .ok (.iload_n 1, 1) := by decide +kernel
theorem dX4_search_18 : decode cX4_search 18 = .ok (.iload_n 2, 1) := by decide +kernel
theorem dX4_search_19 : decode cX4_search 19 = .ok (.iload_n 3, 1) := by decide +kernel
theorem dX4_search_20 : decode cX4_search 20 = .ok (.invokevirtual 73, 3) := by decide +kernel
theorem dX4_search_23 : decode cX4_search 23 = .ok (.ireturn, 1) := by decide +kernel
theorem dX4_search_24 : decode cX4_search 24 = .ok (.aload_n 0, 1) := by decide +kernel
theorem dX4_search_25 : decode cX4_search 25 = .ok (.getfield 7, 3) := by decide +kernel
theorem dX4_search_28 : decode cX4_search 28 = .ok (.invokevirtual 76, 3) := by decide +kernel
theorem dX4_search_31 : decode cX4_search 31 = .ok (.istore 4, 2) := by decide +kernel
theorem dX4_search_33 : decode cX4_search 33 = .ok (.aload_n 0, 1) := by decide +kernel
theorem dX4_search_34 : decode cX4_search 34 = .ok (.getfield 16, 3) := by decide +kernel
theorem dX4_search_37 : decode cX4_search 37 = .ok (.iload 4, 2) := by decide +kernel
theorem dX4_search_39 : decode cX4_search 39 = .ok (.invokevirtual 79, 3) := by decide +kernel
theorem dX4_search_42 : decode cX4_search 42 = .ok (.istore 5, 2) := by decide +kernel
theorem dX4_search_44 : decode cX4_search 44 = .ok (.aload_n 0, 1) := by decide +kernel
theorem dX4_search_45 : decode cX4_search 45 = .ok (.getfield 16, 3) := by decide +kernel
theorem dX4_search_48 : decode cX4_search 48 = .ok (.iload 4, 2) := by decide +kernel
theorem dX4_search_50 : decode cX4_search 50 = .ok (.iload_n 1, 1) := by decide +kernel
theorem dX4_search_51 : decode cX4_search 51 = .ok (.iconst 4, 1) := by decide +kernel
theorem dX4_search_52 : decode cX4_search 52 = .ok (.idiv, 1) := by decide +kernel
theorem dX4_search_53 : decode cX4_search 53 = .ok (.invokevirtual 82, 3) := by decide +kernel
theorem dX4_search_56 : decode cX4_search 56 = .ok (.istore 6, 2) := by decide +kernel
theorem dX4_search_58 : decode cX4_search 58 = .ok (.iload 5, 2) := by decide +kernel
theorem dX4_search_60 : decode cX4_search 60 = .ok (.iload_n 3, 1) := by decide +kernel
theorem dX4_search_61 : decode cX4_search 61 = .ok (.if_icmp .ge 10, 3) := by decide +kernel
theorem dX4_search_64 : decode cX4_search 64 = .ok (.iload 5, 2) := by decide +kernel
theorem dX4_search_66 : decode cX4_search 66 = .ok (.iload 6, 2) := by decide +kernel
theorem dX4_search_68 : decode cX4_search 68 = .ok (.if_icmp .ne 6, 3) := by decide +kernel
theorem dX4_search_71 : decode cX4_search 71 = .ok (.iload 5, 2) := by decide +kernel
theorem dX4_search_73 : decode cX4_search 73 = .ok (.ireturn, 1) := by decide +kernel
theorem dX4_search_74 : decode cX4_search 74 = .ok (.iload 6, 2) := by decide +kernel
theorem dX4_search_76 : decode cX4_search 76 = .ok (.iload_n 2, 1) := by decide +kernel
theorem dX4_search_77 : decode cX4_search 77 = .ok (.if_icmp .gt 6, 3) := by decide +kernel
theorem dX4_search_80 : decode cX4_search 80 = .ok (.iload 6, 2) := by decide +kernel
theorem dX4_search_82 : decode cX4_search 82 = .ok (.ireturn, 1) := by decide +kernel
theorem dX4_search_83 : decode cX4_search 83 = .ok (.iload_n 2, 1) := by decide +kernel
theorem dX4_search_84 : decode cX4_search 84 = .ok (.iload 5, 2) := by decide +kernel
theorem dX4_search_86 : decode cX4_search 86 = .ok (.invokestatic 85, 3) := by decide +kernel
theorem dX4_search_89 : decode cX4_search 89 = .ok (.istore 7, 2) := by decide +kernel
theorem dX4_search_91 : decode cX4_search 91 = .ok (.iload_n 3, 1) := by decide +kernel
theorem dX4_search_92 : decode cX4_search 92 = .ok (.iload 6, 2) := by decide +kernel
theorem dX4_search_94 : decode cX4_search 94 = .ok (.invokestatic 90, 3) := by decide +kernel
theorem dX4_search_97 : decode cX4_search 97 = .ok (.istore 8, 2) := by decide +kernel
theorem dX4_search_99 : decode cX4_search 99 = .ok (.aload_n 0, 1) := by decide +kernel
theorem dX4_search_100 : decode cX4_search 100 = .ok (.iload_n 1, 1) := by decide +kernel
theorem dX4_search_101 : decode cX4_search 101 = .ok (.iload 7, 2) := by decide +kernel
theorem dX4_search_103 : decode cX4_search 103 = .ok (.iload 8, 2) := by decide +kernel
theorem dX4_search_105 : decode cX4_search 105 = .ok (.invokevirtual 73, 3) := by decide +kernel
theorem dX4_search_108 : decode cX4_search 108 = .ok (.istore 9, 2) := by decide +kernel
theorem dX4_search_110 : decode cX4_search 110 = .ok (.aload_n 0, 1) := by decide +kernel
theorem dX4_search_111 : decode cX4_search 111 = .ok (.getfield 16, 3) := by decide +kernel
theorem dX4_search_114 : decode cX4_search 114 = .ok (.iload 4, 2) := by decide +kernel
theorem dX4_search_116 : decode cX4_search 116 = .ok (.iload 9, 2) := by decide +kernel
theorem dX4_search_118 : decode cX4_search 118 = .ok (.iload 7, 2) := by decide +kernel
theorem dX4_search_120 : decode cX4_search 120 = .ok (.if_icmp .le 8, 3) := by decide +kernel
theorem dX4_search_123 : decode cX4_search 123 = .ok (.iload 9, 2) := by decide +kernel
theorem dX4_search_125 : decode cX4_search 125 = .ok (.goto 5, 3) := by decide +kernel
theorem dX4_search_128 : decode cX4_search 128 = .ok (.iload 5, 2) := by decide +kernel
theorem dX4_search_130 : decode cX4_search 130 = .ok (.iload 9, 2) := by decide +kernel
theorem dX4_search_132 : decode cX4_search 132 = .ok (.iload 8, 2) := by decide +kernel
theorem dX4_search_134 : decode cX4_search 134 = .ok (.if_icmp .ge 8, 3) := by decide +kernel
theorem dX4_search_137 : decode cX4_search 137 = .ok (.iload 9, 2) := by decide +kernel
theorem dX4_search_139 : decode cX4_search 139 = .ok (.goto 5, 3) := by decide +kernel
theorem dX4_search_142 : decode cX4_search 142 = .ok (.iload 6, 2) := by decide +kernel
theorem dX4_search_144 : decode cX4_search 144 = .ok (.invokevirtual 93, 3) := by decide +kernel
theorem dX4_search_147 : decode cX4_search 147 = .ok (.iload 9, 2) := by decide +kernel
theorem dX4_search_149 : decode cX4_search 149 = .ok (.ireturn, 1) := by decide +kernel
set_option maxRecDepth 20000 in
theorem ggX4_tryPlays_X1_mover : GoodIn wsX4_tryPlays wsX1_mover := goodIn_r _ [13, 14, 15, 16, 17, 12, 18, 19, 20, 21, 22, 23, 24, 25, 26, 27, 28, 29, 30, 31, 32, 33, 166, 167, 168, 169, 170, 171, 172, 173] (by decide +kernel) (by decide +kernel)
set_option maxRecDepth 20000 in
theorem gX4_tryPlays_X1_mover : GoodIn wsX4_tryPlays (wsV RX4 36 RX1 yX1_mover wsX1_mover) := goodIn_app (goodIn_of _ (by decide +kernel)) ggX4_tryPlays_X1_mover
set_option maxRecDepth 20000 in
theorem ggX4_tryPlays_X0_sideOf : GoodIn wsX4_tryPlays wsX0_sideOf := goodIn_r _ [37] (by decide +kernel) (by decide +kernel)
set_option maxRecDepth 20000 in
theorem gX4_tryPlays_X0_sideOf : GoodIn wsX4_tryPlays (va_wsS RX4 39 yX0_sideOf wsX0_sideOf) := goodIn_app (goodIn_of _ (by decide +kernel)) ggX4_tryPlays_X0_sideOf
set_option maxRecDepth 20000 in
theorem ggX4_tryPlays_X1_playable : GoodIn wsX4_tryPlays wsX1_playable := goodIn_r _ [41, 42, 10, 11, 12, 13, 14, 15, 16, 17, 18, 19, 20, 21, 22, 23, 24, 25, 26, 27, 28, 29, 30, 31, 32, 33, 43, 44, 45, 46, 47, 48, 49, 50, 51, 52, 53, 54, 55, 56, 57, 58, 36, 59, 60, 61, 62, 166, 167, 168, 169, 170, 171, 172, 173] (by decide +kernel) (by decide +kernel)
set_option maxRecDepth 20000 in
theorem gX4_tryPlays_X1_playable : GoodIn wsX4_tryPlays (wsV RX4 54 RX1 yX1_playable wsX1_playable) := goodIn_app (goodIn_of _ (by decide +kernel)) ggX4_tryPlays_X1_playable
set_option maxRecDepth 20000 in
theorem ggX4_tryPlays_X1_out : GoodIn wsX4_tryPlays wsX1_out := goodIn_r _ [66, 67, 68, 69, 70, 12, 71, 47, 72, 73, 74, 75, 20, 30, 31, 32, 33, 52, 53, 54, 55, 56, 166, 167, 168, 169, 170, 171, 172, 173] (by decide +kernel) (by decide +kernel)
set_option maxRecDepth 20000 in
theorem gX4_tryPlays_X1_out : GoodIn wsX4_tryPlays (wsV RX4 57 RX1 yX1_out wsX1_out) := goodIn_app (goodIn_of _ (by decide +kernel)) ggX4_tryPlays_X1_out
set_option maxRecDepth 20000 in
theorem ggX4_tryPlays_X0_lowestOfEquals : GoodIn wsX4_tryPlays wsX0_lowestOfEquals := goodIn_r _ [78, 79, 80, 36, 81, 82, 83, 84, 85, 86, 87, 88, 89, 90, 58, 59, 91, 92, 93] (by decide +kernel) (by decide +kernel)
set_option maxRecDepth 20000 in
theorem gX4_tryPlays_X0_lowestOfEquals : GoodIn wsX4_tryPlays (va_wsS RX4 60 yX0_lowestOfEquals wsX0_lowestOfEquals) := goodIn_app (goodIn_of _ (by decide +kernel)) ggX4_tryPlays_X0_lowestOfEquals
set_option maxRecDepth 20000 in
theorem ggX4_tryPlays_X0_highest : GoodIn wsX4_tryPlays wsX0_highest := goodIn_r _ [96, 97, 98, 84, 99, 86] (by decide +kernel) (by decide +kernel)
set_option maxRecDepth 20000 in
theorem gX4_tryPlays_X0_highest : GoodIn wsX4_tryPlays (va_wsS RX4 97 yX0_highest wsX0_highest) := goodIn_app (goodIn_of _ (by decide +kernel)) ggX4_tryPlays_X0_highest
set_option maxRecDepth 20000 in
theorem ggX4_tryPlays_X1_lay : GoodIn wsX4_tryPlays wsX1_lay := goodIn_r _ [103, 20, 56, 42, 10, 11, 12, 13, 14, 15, 16, 17, 18, 19, 21, 22, 23, 24, 25, 26, 27, 28, 29, 30, 31, 32, 33, 104, 105, 106, 107, 47, 108, 109, 110, 111, 52, 53, 54, 55, 112, 113, 114, 115, 116, 166, 167, 168, 169, 170, 171, 172, 173] (by decide +kernel) (by decide +kernel)
set_option maxRecDepth 20000 in
theorem gX4_tryPlays_X1_lay : GoodIn wsX4_tryPlays (wsV RX4 45 RX1 yX1_lay wsX1_lay) := goodIn_app (goodIn_of _ (by decide +kernel)) ggX4_tryPlays_X1_lay
set_option maxRecDepth 20000 in
theorem ggX4_tryPlays_X4_gainOf : GoodIn wsX4_tryPlays wsX4_gainOf := goodIn_r _ [120, 34, 35, 36, 37] (by decide +kernel) (by decide +kernel)
set_option maxRecDepth 20000 in
theorem gX4_tryPlays_X4_gainOf : GoodIn wsX4_tryPlays (va_wsS RX4 48 yX4_gainOf wsX4_gainOf) := goodIn_app (goodIn_of _ (by decide +kernel)) ggX4_tryPlays_X4_gainOf
set_option maxRecDepth 20000 in
theorem ggX4_tryPlays_X4_search : GoodIn wsX4_tryPlays wsX4_search := goodIn_r _ [132, 1, 133, 2, 3, 4, 5, 6, 7, 8, 134, 31, 32, 12, 33, 20, 135, 136, 137, 119, 138, 139, 140, 141, 68, 69, 70, 71, 47, 21, 22, 23, 24, 25, 26, 27, 28, 29, 142, 143, 144, 145, 146, 147, 148, 149, 150, 151, 152, 153, 154, 155, 156, 157, 158, 159, 160, 161, 162, 163, 0, 9, 10, 11, 13, 14, 15, 16, 17, 18, 19, 30, 34, 35, 36, 37, 38, 39, 40, 41, 42, 43, 44, 45, 46, 48, 49, 50, 51, 52, 53, 54, 55, 56, 57, 58, 59, 60, 61, 62, 63, 64, 65, 66, 67, 72, 73, 74, 75, 76, 77, 78, 79, 80, 81, 82, 83, 84, 85, 86, 87, 88, 89, 90, 91, 92, 93, 94, 95, 96, 97, 98, 99, 100, 101, 102, 103, 104, 105, 106, 107, 108, 109, 110, 111, 112, 113, 114, 115, 116, 117, 118, 120, 121, 122, 123, 124, 125, 126, 127, 128, 129, 130, 131, 164, 165, 166, 167, 168, 169, 170, 171, 172, 173, 174] (by decide +kernel) (by decide +kernel)
set_option maxRecDepth 20000 in
theorem gX4_tryPlays_X4_search : GoodIn wsX4_tryPlays (wsV RX4 32 RX4 yX4_search wsX4_search) := goodIn_app (goodIn_of _ (by decide +kernel)) ggX4_tryPlays_X4_search
set_option maxRecDepth 20000 in
theorem ggX4_tryPlays_X1_lift : GoodIn wsX4_tryPlays wsX1_lift := goodIn_r _ [127, 20, 52, 53, 54, 12, 55, 56, 42, 10, 11, 13, 14, 15, 16, 17, 18, 19, 21, 22, 23, 24, 25, 26, 27, 28, 29, 30, 31, 32, 33, 128, 129, 130, 131, 47, 166, 167, 168, 169, 170, 171, 172, 173] (by decide +kernel) (by decide +kernel)
set_option maxRecDepth 20000 in
theorem gX4_tryPlays_X1_lift : GoodIn wsX4_tryPlays (wsV RX4 51 RX1 yX1_lift wsX1_lift) := goodIn_app (goodIn_of _ (by decide +kernel)) ggX4_tryPlays_X1_lift
theorem dX4_tryPlays_0 : decode cX4_tryPlays 0 = .ok (.aload_n 0, 1) := by decide +kernel
theorem dX4_tryPlays_1 : decode cX4_tryPlays 1 = .ok (.getfield 7, 3) := by decide +kernel
theorem dX4_tryPlays_4 : decode cX4_tryPlays 4 = .ok (.invokevirtual 36, 3) := by decide +kernel
theorem dX4_tryPlays_7 : decode cX4_tryPlays 7 = .ok (.invokestatic 39, 3) := by decide +kernel
theorem dX4_tryPlays_10 : decode cX4_tryPlays 10 = .ok (.ifCond .ne 7, 3) := by decide +kernel
theorem dX4_tryPlays_13 : decode cX4_tryPlays 13 = .ok (.iconst 1, 1) := by decide +kernel
theorem dX4_tryPlays_14 : decode cX4_tryPlays 14 = .ok (.goto 4, 3) := by decide +kernel
theorem dX4_tryPlays_17 : decode cX4_tryPlays 17 = .ok (.iconst 0, 1) := by decide +kernel
theorem dX4_tryPlays_18 : decode cX4_tryPlays 18 = .ok (.istore 4, 2) := by decide +kernel
theorem dX4_tryPlays_20 : decode cX4_tryPlays 20 = .ok (.aload_n 0, 1) := by decide +kernel
theorem dX4_tryPlays_21 : decode cX4_tryPlays 21 = .ok (.getfield 7, 3) := by decide +kernel
theorem dX4_tryPlays_24 : decode cX4_tryPlays 24 = .ok (.invokevirtual 54, 3) := by decide +kernel
theorem dX4_tryPlays_27 : decode cX4_tryPlays 27 = .ok (.aload_n 0, 1) := by decide +kernel
theorem dX4_tryPlays_28 : decode cX4_tryPlays 28 = .ok (.getfield 7, 3) := by decide +kernel
theorem dX4_tryPlays_31 : decode cX4_tryPlays 31 = .ok (.invokevirtual 57, 3) := by decide +kernel
theorem dX4_tryPlays_34 : decode cX4_tryPlays 34 = .ok (.invokestatic 60, 3) := by decide +kernel
theorem dX4_tryPlays_37 : decode cX4_tryPlays 37 = .ok (.istore 5, 2) := by decide +kernel
theorem dX4_tryPlays_39 : decode cX4_tryPlays 39 = .ok (.iload_n 2, 1) := by decide +kernel
theorem dX4_tryPlays_40 : decode cX4_tryPlays 40 = .ok (.istore 6, 2) := by decide +kernel
theorem dX4_tryPlays_42 : decode cX4_tryPlays 42 = .ok (.iload_n 3, 1) := by decide +kernel
theorem dX4_tryPlays_43 : decode cX4_tryPlays 43 = .ok (.istore 7, 2) := by decide +kernel
theorem dX4_tryPlays_45 : decode cX4_tryPlays 45 = .ok (.iload 4, 2) := by decide +kernel
theorem dX4_tryPlays_47 : decode cX4_tryPlays 47 = .ok (.ifCond .eq 7, 3) := by decide +kernel
theorem dX4_tryPlays_50 : decode cX4_tryPlays 50 = .ok (.iconst (-1), 1) := by decide +kernel
theorem dX4_tryPlays_51 : decode cX4_tryPlays 51 = .ok (.goto 4, 3) := by decide +kernel
theorem dX4_tryPlays_54 : decode cX4_tryPlays 54 = .ok (.iconst 5, 1) := by decide +kernel
theorem dX4_tryPlays_55 : decode cX4_tryPlays 55 = .ok (.istore 8, 2) := by decide +kernel
theorem dX4_tryPlays_57 : decode cX4_tryPlays 57 = .ok (.iconst 0, 1) := by decide +kernel
theorem dX4_tryPlays_58 : decode cX4_tryPlays 58 = .ok (.istore 9, 2) := by decide +kernel
theorem dX4_tryPlays_60 : decode cX4_tryPlays 60 = .ok (.iload 9, 2) := by decide +kernel
theorem dX4_tryPlays_62 : decode cX4_tryPlays 62 = .ok (.iconst 4, 1) := by decide +kernel
theorem dX4_tryPlays_63 : decode cX4_tryPlays 63 = .ok (.if_icmp .ge 127, 3) := by decide +kernel
theorem dX4_tryPlays_66 : decode cX4_tryPlays 66 = .ok (.iload 5, 2) := by decide +kernel
theorem dX4_tryPlays_68 : decode cX4_tryPlays 68 = .ok (.ifCond .eq 122, 3) := by decide +kernel
theorem dX4_tryPlays_71 : decode cX4_tryPlays 71 = .ok (.iload 6, 2) := by decide +kernel
theorem dX4_tryPlays_73 : decode cX4_tryPlays 73 = .ok (.iload 7, 2) := by decide +kernel
theorem dX4_tryPlays_75 : decode cX4_tryPlays 75 = .ok (.if_icmp .ge 115, 3) := by decide +kernel
theorem dX4_tryPlays_78 : decode cX4_tryPlays 78 = .ok (.iload 5, 2) := by decide +kernel
theorem dX4_tryPlays_80 : decode cX4_tryPlays 80 = .ok (.invokestatic 97, 3) := by decide +kernel
theorem dX4_tryPlays_83 : decode cX4_tryPlays 83 = .ok (.istore 10, 2) := by decide +kernel
theorem dX4_tryPlays_85 : decode cX4_tryPlays 85 = .ok (.iload 5, 2) := by decide +kernel
theorem dX4_tryPlays_87 : decode cX4_tryPlays 87 = .ok (.iconst 1, 1) := by decide +kernel
theorem dX4_tryPlays_88 : decode cX4_tryPlays 88 = .ok (.iload 10, 2) := by decide +kernel
theorem dX4_tryPlays_90 : decode cX4_tryPlays 90 = .ok (.ishl, 1) := by decide +kernel
theorem dX4_tryPlays_91 : decode cX4_tryPlays 91 = .ok (.iconst (-1), 1) := by decide +kernel
theorem dX4_tryPlays_92 : decode cX4_tryPlays 92 = .ok (.ixor, 1) := by decide +kernel
theorem dX4_tryPlays_93 : decode cX4_tryPlays 93 = .ok (.iand, 1) := by decide +kernel
theorem dX4_tryPlays_94 : decode cX4_tryPlays 94 = .ok (.istore 5, 2) := by decide +kernel
theorem dX4_tryPlays_96 : decode cX4_tryPlays 96 = .ok (.aload_n 0, 1) := by decide +kernel
theorem dX4_tryPlays_97 : decode cX4_tryPlays 97 = .ok (.getfield 7, 3) := by decide +kernel
theorem dX4_tryPlays_100 : decode cX4_tryPlays 100 = .ok (.iload 10, 2) := by decide +kernel
theorem dX4_tryPlays_102 : decode cX4_tryPlays 102 = .ok (.invokevirtual 45, 3) := by decide +kernel
theorem dX4_tryPlays_105 : decode cX4_tryPlays 105 = .ok (.invokestatic 48, 3) := by decide +kernel
theorem dX4_tryPlays_108 : decode cX4_tryPlays 108 = .ok (.istore 11, 2) := by decide +kernel
theorem dX4_tryPlays_110 : decode cX4_tryPlays 110 = .ok (.iload 11, 2) := by decide +kernel
theorem dX4_tryPlays_112 : decode cX4_tryPlays 112 = .ok (.aload_n 0, 1) := by decide +kernel
theorem dX4_tryPlays_113 : decode cX4_tryPlays 113 = .ok (.iload_n 1, 1) := by decide +kernel
theorem dX4_tryPlays_114 : decode cX4_tryPlays 114 = .ok (.iconst 1, 1) := by decide +kernel
theorem dX4_tryPlays_115 : decode cX4_tryPlays 115 = .ok (.isub, 1) := by decide +kernel
theorem dX4_tryPlays_116 : decode cX4_tryPlays 116 = .ok (.iload 6, 2) := by decide +kernel
theorem dX4_tryPlays_118 : decode cX4_tryPlays 118 = .ok (.iload 11, 2) := by decide +kernel
theorem dX4_tryPlays_120 : decode cX4_tryPlays 120 = .ok (.isub, 1) := by decide +kernel
theorem dX4_tryPlays_121 : decode cX4_tryPlays 121 = .ok (.iload 7, 2) := by decide +kernel
theorem dX4_tryPlays_123 : decode cX4_tryPlays 123 = .ok (.iload 11, 2) := by decide +kernel
theorem dX4_tryPlays_125 : decode cX4_tryPlays 125 = .ok (.isub, 1) := by decide +kernel
theorem dX4_tryPlays_126 : decode cX4_tryPlays 126 = .ok (.invokevirtual 32, 3) := by decide +kernel
theorem dX4_tryPlays_129 : decode cX4_tryPlays 129 = .ok (.iadd, 1) := by decide +kernel
theorem dX4_tryPlays_130 : decode cX4_tryPlays 130 = .ok (.istore 12, 2) := by decide +kernel
theorem dX4_tryPlays_132 : decode cX4_tryPlays 132 = .ok (.aload_n 0, 1) := by decide +kernel
theorem dX4_tryPlays_133 : decode cX4_tryPlays 133 = .ok (.getfield 7, 3) := by decide +kernel
theorem dX4_tryPlays_136 : decode cX4_tryPlays 136 = .ok (.invokevirtual 51, 3) := by decide +kernel
theorem dX4_tryPlays_139 : decode cX4_tryPlays 139 = .ok (.pop, 1) := by decide +kernel
theorem dX4_tryPlays_140 : decode cX4_tryPlays 140 = .ok (.iload 4, 2) := by decide +kernel
theorem dX4_tryPlays_142 : decode cX4_tryPlays 142 = .ok (.ifCond .eq 24, 3) := by decide +kernel
theorem dX4_tryPlays_145 : decode cX4_tryPlays 145 = .ok (.iload 8, 2) := by decide +kernel
theorem dX4_tryPlays_147 : decode cX4_tryPlays 147 = .ok (.iload 12, 2) := by decide +kernel
theorem dX4_tryPlays_149 : decode cX4_tryPlays 149 = .ok (.invokestatic 85, 3) := by decide +kernel
theorem dX4_tryPlays_152 : decode cX4_tryPlays 152 = .ok (.istore 8, 2) := by decide +kernel
theorem dX4_tryPlays_154 : decode cX4_tryPlays 154 = .ok (.iload 6, 2) := by decide +kernel
theorem dX4_tryPlays_156 : decode cX4_tryPlays 156 = .ok (.iload 8, 2) := by decide +kernel
theorem dX4_tryPlays_158 : decode cX4_tryPlays 158 = .ok (.invokestatic 85, 3) := by decide +kernel
theorem dX4_tryPlays_161 : decode cX4_tryPlays 161 = .ok (.istore 6, 2) := by decide +kernel
theorem dX4_tryPlays_163 : decode cX4_tryPlays 163 = .ok (.goto 21, 3) := by decide +kernel
theorem dX4_tryPlays_166 : decode cX4_tryPlays 166 = .ok (.iload 8, 2) := by decide +kernel
theorem dX4_tryPlays_168 : decode cX4_tryPlays 168 = .ok (.iload 12, 2) := by decide +kernel
theorem dX4_tryPlays_170 : decode cX4_tryPlays 170 = .ok (.invokestatic 90, 3) := by decide +kernel
theorem dX4_tryPlays_173 : decode cX4_tryPlays 173 = .ok (.istore 8, 2) := by decide +kernel
theorem dX4_tryPlays_175 : decode cX4_tryPlays 175 = .ok (.iload 7, 2) := by decide +kernel
theorem dX4_tryPlays_177 : decode cX4_tryPlays 177 = .ok (.iload 8, 2) := by decide +kernel
theorem dX4_tryPlays_179 : decode cX4_tryPlays 179 = .ok (.invokestatic 90, 3) := by decide +kernel
theorem dX4_tryPlays_182 : decode cX4_tryPlays 182 = .ok (.istore 7, 2) := by decide +kernel
theorem dX4_tryPlays_184 : decode cX4_tryPlays 184 = .ok (.iinc 9 1, 3) := by decide +kernel
theorem dX4_tryPlays_187 : decode cX4_tryPlays 187 = .ok (.goto (-127), 3) := by decide +kernel
theorem dX4_tryPlays_190 : decode cX4_tryPlays 190 = .ok (.iload 8, 2) := by decide +kernel
theorem dX4_tryPlays_192 : decode cX4_tryPlays 192 = .ok (.ireturn, 1) := by decide +kernel
set_option maxRecDepth 20000 in
theorem ggX4_byAllPlays_X1_mover : GoodIn wsX4_byAllPlays wsX1_mover := goodIn_r _ [12, 13, 14, 15, 16, 11, 17, 18, 19, 20, 21, 22, 23, 24, 25, 26, 27, 28, 29, 30, 31, 32, 101, 102, 103, 104, 105, 106, 107, 108] (by decide +kernel) (by decide +kernel)
set_option maxRecDepth 20000 in
theorem gX4_byAllPlays_X1_mover : GoodIn wsX4_byAllPlays (wsV RX4 36 RX1 yX1_mover wsX1_mover) := goodIn_app (goodIn_of _ (by decide +kernel)) ggX4_byAllPlays_X1_mover
set_option maxRecDepth 20000 in
theorem ggX4_byAllPlays_X0_sideOf : GoodIn wsX4_byAllPlays wsX0_sideOf := goodIn_r _ [36] (by decide +kernel) (by decide +kernel)
set_option maxRecDepth 20000 in
theorem gX4_byAllPlays_X0_sideOf : GoodIn wsX4_byAllPlays (va_wsS RX4 39 yX0_sideOf wsX0_sideOf) := goodIn_app (goodIn_of _ (by decide +kernel)) ggX4_byAllPlays_X0_sideOf
set_option maxRecDepth 20000 in
theorem ggX4_byAllPlays_X1_playable : GoodIn wsX4_byAllPlays wsX1_playable := goodIn_r _ [40, 41, 9, 10, 11, 12, 13, 14, 15, 16, 17, 18, 19, 20, 21, 22, 23, 24, 25, 26, 27, 28, 29, 30, 31, 32, 42, 43, 44, 45, 46, 47, 48, 49, 50, 51, 52, 53, 54, 55, 56, 57, 35, 58, 59, 60, 61, 101, 102, 103, 104, 105, 106, 107, 108] (by decide +kernel) (by decide +kernel)
set_option maxRecDepth 20000 in
theorem gX4_byAllPlays_X1_playable : GoodIn wsX4_byAllPlays (wsV RX4 54 RX1 yX1_playable wsX1_playable) := goodIn_app (goodIn_of _ (by decide +kernel)) ggX4_byAllPlays_X1_playable
set_option maxRecDepth 20000 in
theorem ggX4_byAllPlays_X0_lowest : GoodIn wsX4_byAllPlays wsX0_lowest := goodIn_r _ [64, 65, 66, 67, 68, 69] (by decide +kernel) (by decide +kernel)
set_option maxRecDepth 20000 in
theorem gX4_byAllPlays_X0_lowest : GoodIn wsX4_byAllPlays (va_wsS RX4 64 yX0_lowest wsX0_lowest) := goodIn_app (goodIn_of _ (by decide +kernel)) ggX4_byAllPlays_X0_lowest
set_option maxRecDepth 20000 in
theorem ggX4_byAllPlays_X1_lay : GoodIn wsX4_byAllPlays wsX1_lay := goodIn_r _ [73, 19, 55, 41, 9, 10, 11, 12, 13, 14, 15, 16, 17, 18, 20, 21, 22, 23, 24, 25, 26, 27, 28, 29, 30, 31, 32, 74, 75, 76, 77, 46, 78, 79, 80, 81, 51, 52, 53, 54, 82, 83, 84, 85, 86, 101, 102, 103, 104, 105, 106, 107, 108] (by decide +kernel) (by decide +kernel)
set_option maxRecDepth 20000 in
theorem gX4_byAllPlays_X1_lay : GoodIn wsX4_byAllPlays (wsV RX4 45 RX1 yX1_lay wsX1_lay) := goodIn_app (goodIn_of _ (by decide +kernel)) ggX4_byAllPlays_X1_lay
set_option maxRecDepth 20000 in
theorem ggX4_byAllPlays_X4_gainOf : GoodIn wsX4_byAllPlays wsX4_gainOf := goodIn_r _ [90, 33, 34, 35, 36] (by decide +kernel) (by decide +kernel)
set_option maxRecDepth 20000 in
theorem gX4_byAllPlays_X4_gainOf : GoodIn wsX4_byAllPlays (va_wsS RX4 48 yX4_gainOf wsX4_gainOf) := goodIn_app (goodIn_of _ (by decide +kernel)) ggX4_byAllPlays_X4_gainOf
set_option maxRecDepth 20000 in
theorem ggX4_byAllPlays_X4_byAllPlays : GoodIn wsX4_byAllPlays wsX4_byAllPlays := goodIn_r _ [0, 1, 2, 3, 4, 5, 6, 7, 8, 9, 10, 11, 12, 13, 14, 15, 16, 17, 18, 19, 20, 21, 22, 23, 24, 25, 26, 27, 28, 29, 30, 31, 32, 33, 34, 35, 36, 37, 38, 39, 40, 41, 42, 43, 44, 45, 46, 47, 48, 49, 50, 51, 52, 53, 54, 55, 56, 57, 58, 59, 60, 61, 62, 63, 64, 65, 66, 67, 68, 69, 70, 71, 72, 73, 74, 75, 76, 77, 78, 79, 80, 81, 82, 83, 84, 85, 86, 87, 88, 89, 90, 91, 92, 93, 94, 95, 96, 97, 98, 99, 100, 101, 102, 103, 104, 105, 106, 107, 108] (by decide +kernel) (by decide +kernel)
set_option maxRecDepth 20000 in
theorem gX4_byAllPlays_X4_byAllPlays : GoodIn wsX4_byAllPlays (va_wsS RX4 100 yX4_byAllPlays wsX4_byAllPlays) := goodIn_app (goodIn_of _ (by decide +kernel)) ggX4_byAllPlays_X4_byAllPlays
set_option maxRecDepth 20000 in
theorem ggX4_byAllPlays_X1_lift : GoodIn wsX4_byAllPlays wsX1_lift := goodIn_r _ [96, 19, 51, 52, 53, 11, 54, 55, 41, 9, 10, 12, 13, 14, 15, 16, 17, 18, 20, 21, 22, 23, 24, 25, 26, 27, 28, 29, 30, 31, 32, 97, 98, 99, 100, 46, 101, 102, 103, 104, 105, 106, 107, 108] (by decide +kernel) (by decide +kernel)
set_option maxRecDepth 20000 in
theorem gX4_byAllPlays_X1_lift : GoodIn wsX4_byAllPlays (wsV RX4 51 RX1 yX1_lift wsX1_lift) := goodIn_app (goodIn_of _ (by decide +kernel)) ggX4_byAllPlays_X1_lift
theorem dX4_byAllPlays_0 : decode cX4_byAllPlays 0 = .ok (.iload_n 1, 1) := by decide +kernel
theorem dX4_byAllPlays_1 : decode cX4_byAllPlays 1 = .ok (.ifCond .gt 5, 3) := by decide +kernel
theorem dX4_byAllPlays_4 : decode cX4_byAllPlays 4 = .ok (.iconst 0, 1) := by decide +kernel
theorem dX4_byAllPlays_5 : decode cX4_byAllPlays 5 = .ok (.ireturn, 1) := by decide +kernel
theorem dX4_byAllPlays_6 : decode cX4_byAllPlays 6 = .ok (.aload_n 0, 1) := by decide +kernel
theorem dX4_byAllPlays_7 : decode cX4_byAllPlays 7 = .ok (.invokevirtual 36, 3) := by decide +kernel
theorem dX4_byAllPlays_10 : decode cX4_byAllPlays 10 = .ok (.invokestatic 39, 3) := by decide +kernel
theorem dX4_byAllPlays_13 : decode cX4_byAllPlays 13 = .ok (.ifCond .ne 7, 3) := by decide +kernel
theorem dX4_byAllPlays_16 : decode cX4_byAllPlays 16 = .ok (.iconst 1, 1) := by decide +kernel
theorem dX4_byAllPlays_17 : decode cX4_byAllPlays 17 = .ok (.goto 4, 3) := by decide +kernel
theorem dX4_byAllPlays_20 : decode cX4_byAllPlays 20 = .ok (.iconst 0, 1) := by decide +kernel
theorem dX4_byAllPlays_21 : decode cX4_byAllPlays 21 = .ok (.istore_n 2, 1) := by decide +kernel
theorem dX4_byAllPlays_22 : decode cX4_byAllPlays 22 = .ok (.aload_n 0, 1) := by decide +kernel
theorem dX4_byAllPlays_23 : decode cX4_byAllPlays 23 = .ok (.invokevirtual 54, 3) := by decide +kernel
theorem dX4_byAllPlays_26 : decode cX4_byAllPlays 26 = .ok (.istore_n 3, 1) := by decide +kernel
theorem dX4_byAllPlays_27 : decode cX4_byAllPlays 27 = .ok (.iload_n 2, 1) := by decide +kernel
theorem dX4_byAllPlays_28 : decode cX4_byAllPlays 28 = .ok (.ifCond .eq 7, 3) := by decide +kernel
theorem dX4_byAllPlays_31 : decode cX4_byAllPlays 31 = .ok (.iconst (-1), 1) := by decide +kernel
theorem dX4_byAllPlays_32 : decode cX4_byAllPlays 32 = .ok (.goto 4, 3) := by decide +kernel
theorem dX4_byAllPlays_35 : decode cX4_byAllPlays 35 = .ok (.iconst 5, 1) := by decide +kernel
theorem dX4_byAllPlays_36 : decode cX4_byAllPlays 36 = .ok (.istore 4, 2) := by decide +kernel
theorem dX4_byAllPlays_38 : decode cX4_byAllPlays 38 = .ok (.iconst 0, 1) := by decide +kernel
theorem dX4_byAllPlays_39 : decode cX4_byAllPlays 39 = .ok (.istore 5, 2) := by decide +kernel
theorem dX4_byAllPlays_41 : decode cX4_byAllPlays 41 = .ok (.iload 5, 2) := by decide +kernel
theorem dX4_byAllPlays_43 : decode cX4_byAllPlays 43 = .ok (.iconst 4, 1) := by decide +kernel
theorem dX4_byAllPlays_44 : decode cX4_byAllPlays 44 = .ok (.if_icmp .ge 75, 3) := by decide +kernel
theorem dX4_byAllPlays_47 : decode cX4_byAllPlays 47 = .ok (.iload_n 3, 1) := by decide +kernel
theorem dX4_byAllPlays_48 : decode cX4_byAllPlays 48 = .ok (.ifCond .eq 71, 3) := by decide +kernel
theorem dX4_byAllPlays_51 : decode cX4_byAllPlays 51 = .ok (.iload_n 3, 1) := by decide +kernel
theorem dX4_byAllPlays_52 : decode cX4_byAllPlays 52 = .ok (.invokestatic 64, 3) := by decide +kernel
theorem dX4_byAllPlays_55 : decode cX4_byAllPlays 55 = .ok (.istore 6, 2) := by decide +kernel
theorem dX4_byAllPlays_57 : decode cX4_byAllPlays 57 = .ok (.iload_n 3, 1) := by decide +kernel
theorem dX4_byAllPlays_58 : decode cX4_byAllPlays 58 = .ok (.iconst 1, 1) := by decide +kernel
theorem dX4_byAllPlays_59 : decode cX4_byAllPlays 59 = .ok (.iload 6, 2) := by decide +kernel
theorem dX4_byAllPlays_61 : decode cX4_byAllPlays 61 = .ok (.ishl, 1) := by decide +kernel
theorem dX4_byAllPlays_62 : decode cX4_byAllPlays 62 = .ok (.iconst (-1), 1) := by decide +kernel
theorem dX4_byAllPlays_63 : decode cX4_byAllPlays 63 = .ok (.ixor, 1) := by decide +kernel
theorem dX4_byAllPlays_64 : decode cX4_byAllPlays 64 = .ok (.iand, 1) := by decide +kernel
theorem dX4_byAllPlays_65 : decode cX4_byAllPlays 65 = .ok (.istore_n 3, 1) := by decide +kernel
theorem dX4_byAllPlays_66 : decode cX4_byAllPlays 66 = .ok (.aload_n 0, 1) := by decide +kernel
theorem dX4_byAllPlays_67 : decode cX4_byAllPlays 67 = .ok (.iload 6, 2) := by decide +kernel
theorem dX4_byAllPlays_69 : decode cX4_byAllPlays 69 = .ok (.invokevirtual 45, 3) := by decide +kernel
theorem dX4_byAllPlays_72 : decode cX4_byAllPlays 72 = .ok (.invokestatic 48, 3) := by decide +kernel
theorem dX4_byAllPlays_75 : decode cX4_byAllPlays 75 = .ok (.aload_n 0, 1) := by decide +kernel
theorem dX4_byAllPlays_76 : decode cX4_byAllPlays 76 = .ok (.iload_n 1, 1) := by decide +kernel
theorem dX4_byAllPlays_77 : decode cX4_byAllPlays 77 = .ok (.iconst 1, 1) := by decide +kernel
theorem dX4_byAllPlays_78 : decode cX4_byAllPlays 78 = .ok (.isub, 1) := by decide +kernel
theorem dX4_byAllPlays_79 : decode cX4_byAllPlays 79 = .ok (.invokestatic 100, 3) := by decide +kernel
theorem dX4_byAllPlays_82 : decode cX4_byAllPlays 82 = .ok (.iadd, 1) := by decide +kernel
theorem dX4_byAllPlays_83 : decode cX4_byAllPlays 83 = .ok (.istore 7, 2) := by decide +kernel
theorem dX4_byAllPlays_85 : decode cX4_byAllPlays 85 = .ok (.aload_n 0, 1) := by decide +kernel
theorem dX4_byAllPlays_86 : decode cX4_byAllPlays 86 = .ok (.invokevirtual 51, 3) := by decide +kernel
theorem dX4_byAllPlays_89 : decode cX4_byAllPlays 89 = .ok (.pop, 1) := by decide +kernel
theorem dX4_byAllPlays_90 : decode cX4_byAllPlays 90 = .ok (.iload_n 2, 1) := by decide +kernel
theorem dX4_byAllPlays_91 : decode cX4_byAllPlays 91 = .ok (.ifCond .eq 13, 3) := by decide +kernel
theorem dX4_byAllPlays_94 : decode cX4_byAllPlays 94 = .ok (.iload 4, 2) := by decide +kernel
theorem dX4_byAllPlays_96 : decode cX4_byAllPlays 96 = .ok (.iload 7, 2) := by decide +kernel
theorem dX4_byAllPlays_98 : decode cX4_byAllPlays 98 = .ok (.invokestatic 85, 3) := by decide +kernel
theorem dX4_byAllPlays_101 : decode cX4_byAllPlays 101 = .ok (.goto 10, 3) := by decide +kernel
theorem dX4_byAllPlays_104 : decode cX4_byAllPlays 104 = .ok (.iload 4, 2) := by decide +kernel
theorem dX4_byAllPlays_106 : decode cX4_byAllPlays 106 = .ok (.iload 7, 2) := by decide +kernel
theorem dX4_byAllPlays_108 : decode cX4_byAllPlays 108 = .ok (.invokestatic 90, 3) := by decide +kernel
theorem dX4_byAllPlays_111 : decode cX4_byAllPlays 111 = .ok (.istore 4, 2) := by decide +kernel
theorem dX4_byAllPlays_113 : decode cX4_byAllPlays 113 = .ok (.iinc 5 1, 3) := by decide +kernel
theorem dX4_byAllPlays_116 : decode cX4_byAllPlays 116 = .ok (.goto (-75), 3) := by decide +kernel
theorem dX4_byAllPlays_119 : decode cX4_byAllPlays 119 = .ok (.iload 4, 2) := by decide +kernel
theorem dX4_byAllPlays_121 : decode cX4_byAllPlays 121 = .ok (.ireturn, 1) := by decide +kernel
set_option maxRecDepth 20000 in
theorem ggX5_init_X1_init : GoodIn wsX5_init wsX1_init := goodIn_r _ [18, 19, 2, 3, 20, 21, 22, 23, 24, 44, 45, 46, 47, 48, 49, 50, 51] (by decide +kernel) (by decide +kernel)
set_option maxRecDepth 20000 in
theorem gX5_init_X1_init : GoodIn wsX5_init (wsX1_init) := ggX5_init_X1_init
set_option maxRecDepth 20000 in
theorem ggX5_init_X4_init : GoodIn wsX5_init wsX4_init := goodIn_r _ [27, 28, 2, 3, 29, 30, 31, 32, 33, 34, 35, 36, 37, 20, 38, 55, 56, 58] (by decide +kernel) (by decide +kernel)
set_option maxRecDepth 20000 in
theorem gX5_init_X4_init : GoodIn wsX5_init (wsX4_init) := ggX5_init_X4_init
set_option maxRecDepth 20000 in
theorem ggX5_init_X3_init : GoodIn wsX5_init wsX3_init := goodIn_r _ [41, 42, 2, 3, 43, 57] (by decide +kernel) (by decide +kernel)
set_option maxRecDepth 20000 in
theorem gX5_init_X3_init : GoodIn wsX5_init (wsX3_init) := ggX5_init_X3_init
theorem dX5_init_0 : decode cX5_init 0 = .ok (.aload_n 0, 1) := by decide +kernel
theorem dX5_init_1 : decode cX5_init 1 = .ok (.invokespecial 1, 3) := by decide +kernel
theorem dX5_init_4 : decode cX5_init 4 = .ok (.aload_n 0, 1) := by decide +kernel
theorem dX5_init_5 : decode cX5_init 5 = .ok (.new 7, 3) := by decide +kernel
theorem dX5_init_8 : decode cX5_init 8 = .ok (.dup, 1) := by decide +kernel
theorem dX5_init_9 : decode cX5_init 9 = .ok (.invokespecial 9, 3) := by decide +kernel
theorem dX5_init_12 : decode cX5_init 12 = .ok (.putfield 10, 3) := by decide +kernel
theorem dX5_init_15 : decode cX5_init 15 = .ok (.aload_n 0, 1) := by decide +kernel
theorem dX5_init_16 : decode cX5_init 16 = .ok (.new 16, 3) := by decide +kernel
theorem dX5_init_19 : decode cX5_init 19 = .ok (.dup, 1) := by decide +kernel
theorem dX5_init_20 : decode cX5_init 20 = .ok (.aload_n 0, 1) := by decide +kernel
theorem dX5_init_21 : decode cX5_init 21 = .ok (.getfield 10, 3) := by decide +kernel
theorem dX5_init_24 : decode cX5_init 24 = .ok (.invokespecial 18, 3) := by decide +kernel
theorem dX5_init_27 : decode cX5_init 27 = .ok (.putfield 21, 3) := by decide +kernel
theorem dX5_init_30 : decode cX5_init 30 = .ok (.aload_n 0, 1) := by decide +kernel
theorem dX5_init_31 : decode cX5_init 31 = .ok (.new 25, 3) := by decide +kernel
theorem dX5_init_34 : decode cX5_init 34 = .ok (.dup, 1) := by decide +kernel
theorem dX5_init_35 : decode cX5_init 35 = .ok (.aload_n 0, 1) := by decide +kernel
end
section
theorem dX5_init_36 : decode cX5_init 36 = .ok (.getfield 10, 3) := by decide +kernel
theorem dX5_init_39 : decode cX5_init 39 = .ok (.invokespecial 27, 3) := by decide +kernel
theorem dX5_init_42 : decode cX5_init 42 = .ok (.putfield 28, 3) := by decide +kernel
theorem dX5_init_45 : decode cX5_init 45 = .ok (.return_, 1) := by decide +kernel
set_option maxRecDepth 20000 in
theorem ggX5_begin_X1_clearFor : GoodIn wsX5_begin wsX1_clearFor := goodIn_r _ [8, 9, 10, 11, 12, 13, 14, 18, 19, 20, 21, 22, 23, 24, 25] (by decide +kernel) (by decide +kernel)
set_option maxRecDepth 20000 in
theorem gX5_begin_X1_clearFor : GoodIn wsX5_begin (wsV RX5 41 RX1 yX1_clearFor wsX1_clearFor) := goodIn_app (goodIn_of _ (by decide +kernel)) ggX5_begin_X1_clearFor
theorem dX5_begin_0 : decode cX5_begin 0 = .ok (.iload_n 1, 1) := by decide +kernel
theorem dX5_begin_1 : decode cX5_begin 1 = .ok (.iconst (-1), 1) := by decide +kernel
theorem dX5_begin_2 : decode cX5_begin 2 = .ok (.if_icmp .lt 8, 3) := by decide +kernel
theorem dX5_begin_5 : decode cX5_begin 5 = .ok (.iload_n 1, 1) := by decide +kernel
theorem dX5_begin_6 : decode cX5_begin 6 = .ok (.iconst 4, 1) := by decide +kernel
theorem dX5_begin_7 : decode cX5_begin 7 = .ok (.if_icmp .lt 13, 3) := by decide +kernel
theorem dX5_begin_10 : decode cX5_begin 10 = .ok (.new 34, 3) := by decide +kernel
theorem dX5_begin_13 : decode cX5_begin 13 = .ok (.dup, 1) := by decide +kernel
theorem dX5_begin_14 : decode cX5_begin 14 = .ok (.ldc 36, 2) := by decide +kernel
theorem dX5_begin_16 : decode cX5_begin 16 = .ok (.invokespecial 38, 3) := by decide +kernel
theorem dX5_begin_19 : decode cX5_begin 19 = .ok (.athrow, 1) := by decide +kernel
theorem dX5_begin_20 : decode cX5_begin 20 = .ok (.aload_n 0, 1) := by decide +kernel
theorem dX5_begin_21 : decode cX5_begin 21 = .ok (.getfield 10, 3) := by decide +kernel
theorem dX5_begin_24 : decode cX5_begin 24 = .ok (.iload_n 1, 1) := by decide +kernel
theorem dX5_begin_25 : decode cX5_begin 25 = .ok (.invokevirtual 41, 3) := by decide +kernel
theorem dX5_begin_28 : decode cX5_begin 28 = .ok (.ireturn, 1) := by decide +kernel
set_option maxRecDepth 20000 in
theorem ggX5_give_X5_needPlayer : GoodIn wsX5_give wsX5_needPlayer := goodIn_ca (goodIn_r _ [7, 8, 9] (by decide +kernel) (by decide +kernel)) (goodIn_sub (fun _ h => List.mem_cons_of_mem _ (List.mem_append_right _ h)) (by decide +kernel))
set_option maxRecDepth 20000 in
theorem gX5_give_X5_needPlayer : GoodIn wsX5_give (va_wsS RX5 45 yX5_needPlayer wsX5_needPlayer) := goodIn_app (goodIn_of _ (by decide +kernel)) ggX5_give_X5_needPlayer
set_option maxRecDepth 20000 in
theorem ggX5_give_X5_needCard : GoodIn wsX5_give wsX5_needCard := goodIn_ca (goodIn_r _ [12, 8, 9] (by decide +kernel) (by decide +kernel)) (goodIn_sub (fun _ h => List.mem_cons_of_mem _ (List.mem_append_right _ h)) (by decide +kernel))
set_option maxRecDepth 20000 in
theorem gX5_give_X5_needCard : GoodIn wsX5_give (va_wsS RX5 49 yX5_needCard wsX5_needCard) := goodIn_app (goodIn_of _ (by decide +kernel)) ggX5_give_X5_needCard
set_option maxRecDepth 20000 in
theorem ggX5_give_X1_canDeal : GoodIn wsX5_give wsX1_canDeal := goodIn_r _ [17, 18, 19, 20, 21, 22, 23, 24, 25, 26, 16, 27, 28, 29, 30, 31, 32, 33, 34, 35, 47, 48, 49, 50, 51, 52, 53, 54] (by decide +kernel) (by decide +kernel)
set_option maxRecDepth 20000 in
theorem gX5_give_X1_canDeal : GoodIn wsX5_give (wsV RX5 52 RX1 yX1_canDeal wsX1_canDeal) := goodIn_app (goodIn_of _ (by decide +kernel)) ggX5_give_X1_canDeal
set_option maxRecDepth 20000 in
theorem ggX5_give_X1_deal : GoodIn wsX5_give wsX1_deal := goodIn_r _ [39, 19, 40, 41, 42, 16, 43, 28, 24, 25, 26, 27, 29, 30, 31, 32, 33, 34, 35, 47, 48, 49, 50, 51, 52, 53, 54] (by decide +kernel) (by decide +kernel)
set_option maxRecDepth 20000 in
theorem gX5_give_X1_deal : GoodIn wsX5_give (wsV RX5 61 RX1 yX1_deal wsX1_deal) := goodIn_app (goodIn_of _ (by decide +kernel)) ggX5_give_X1_deal
theorem dX5_give_0 : decode cX5_give 0 = .ok (.iload_n 1, 1) := by decide +kernel
theorem dX5_give_1 : decode cX5_give 1 = .ok (.invokestatic 45, 3) := by decide +kernel
theorem dX5_give_4 : decode cX5_give 4 = .ok (.iload_n 2, 1) := by decide +kernel
theorem dX5_give_5 : decode cX5_give 5 = .ok (.invokestatic 49, 3) := by decide +kernel
theorem dX5_give_8 : decode cX5_give 8 = .ok (.aload_n 0, 1) := by decide +kernel
theorem dX5_give_9 : decode cX5_give 9 = .ok (.getfield 10, 3) := by decide +kernel
theorem dX5_give_12 : decode cX5_give 12 = .ok (.iload_n 1, 1) := by decide +kernel
theorem dX5_give_13 : decode cX5_give 13 = .ok (.iload_n 2, 1) := by decide +kernel
theorem dX5_give_14 : decode cX5_give 14 = .ok (.invokevirtual 52, 3) := by decide +kernel
theorem dX5_give_17 : decode cX5_give 17 = .ok (.ifCond .ne 13, 3) := by decide +kernel
theorem dX5_give_20 : decode cX5_give 20 = .ok (.new 56, 3) := by decide +kernel
theorem dX5_give_23 : decode cX5_give 23 = .ok (.dup, 1) := by decide +kernel
theorem dX5_give_24 : decode cX5_give 24 = .ok (.ldc 58, 2) := by decide +kernel
theorem dX5_give_26 : decode cX5_give 26 = .ok (.invokespecial 60, 3) := by decide +kernel
theorem dX5_give_29 : decode cX5_give 29 = .ok (.athrow, 1) := by decide +kernel
theorem dX5_give_30 : decode cX5_give 30 = .ok (.aload_n 0, 1) := by decide +kernel
theorem dX5_give_31 : decode cX5_give 31 = .ok (.getfield 10, 3) := by decide +kernel
theorem dX5_give_34 : decode cX5_give 34 = .ok (.iload_n 1, 1) := by decide +kernel
theorem dX5_give_35 : decode cX5_give 35 = .ok (.iload_n 2, 1) := by decide +kernel
theorem dX5_give_36 : decode cX5_give 36 = .ok (.invokevirtual 61, 3) := by decide +kernel
theorem dX5_give_39 : decode cX5_give 39 = .ok (.ireturn, 1) := by decide +kernel
set_option maxRecDepth 20000 in
theorem ggX5_start_X5_needPlayer : GoodIn wsX5_start wsX5_needPlayer := goodIn_ca (goodIn_r _ [8, 9, 10] (by decide +kernel) (by decide +kernel)) (goodIn_sub (fun _ h => List.mem_cons_of_mem _ (List.mem_append_right _ h)) (by decide +kernel))
set_option maxRecDepth 20000 in
theorem gX5_start_X5_needPlayer : GoodIn wsX5_start (va_wsS RX5 45 yX5_needPlayer wsX5_needPlayer) := goodIn_app (goodIn_of _ (by decide +kernel)) ggX5_start_X5_needPlayer
set_option maxRecDepth 20000 in
theorem ggX5_start_X1_canOpen : GoodIn wsX5_start wsX1_canOpen := goodIn_r _ [15, 16, 17, 18, 19, 14, 20, 21, 22, 23, 24, 25, 26, 27, 28, 50, 51, 52, 53, 54, 55, 56, 57] (by decide +kernel) (by decide +kernel)
set_option maxRecDepth 20000 in
theorem gX5_start_X1_canOpen : GoodIn wsX5_start (wsV RX5 65 RX1 yX1_canOpen wsX1_canOpen) := goodIn_app (goodIn_of _ (by decide +kernel)) ggX5_start_X1_canOpen
set_option maxRecDepth 20000 in
theorem ggX5_start_X4_forget : GoodIn wsX5_start wsX4_forget := goodIn_r _ [33, 34, 35, 36, 37, 38, 39, 40, 58, 59, 60] (by decide +kernel) (by decide +kernel)
set_option maxRecDepth 20000 in
theorem gX5_start_X4_forget : GoodIn wsX5_start (wsV RX5 71 RX4 yX4_forget wsX4_forget) := goodIn_app (goodIn_of _ (by decide +kernel)) ggX5_start_X4_forget
set_option maxRecDepth 20000 in
theorem ggX5_start_X1_open : GoodIn wsX5_start wsX1_open := goodIn_r _ [44, 16, 45, 46, 17, 18, 19, 14, 20, 21, 22, 23, 24, 25, 26, 27, 28, 50, 51, 52, 53, 54, 55, 56, 57] (by decide +kernel) (by decide +kernel)
set_option maxRecDepth 20000 in
theorem gX5_start_X1_open : GoodIn wsX5_start (wsV RX5 74 RX1 yX1_open wsX1_open) := goodIn_app (goodIn_of _ (by decide +kernel)) ggX5_start_X1_open
theorem dX5_start_0 : decode cX5_start 0 = .ok (.iload_n 1, 1) := by decide +kernel
theorem dX5_start_1 : decode cX5_start 1 = .ok (.invokestatic 45, 3) := by decide +kernel
theorem dX5_start_4 : decode cX5_start 4 = .ok (.aload_n 0, 1) := by decide +kernel
theorem dX5_start_5 : decode cX5_start 5 = .ok (.getfield 10, 3) := by decide +kernel
theorem dX5_start_8 : decode cX5_start 8 = .ok (.invokevirtual 65, 3) := by decide +kernel
theorem dX5_start_11 : decode cX5_start 11 = .ok (.ifCond .ne 13, 3) := by decide +kernel
theorem dX5_start_14 : decode cX5_start 14 = .ok (.new 56, 3) := by decide +kernel
theorem dX5_start_17 : decode cX5_start 17 = .ok (.dup, 1) := by decide +kernel
theorem dX5_start_18 : decode cX5_start 18 = .ok (.ldc 69, 2) := by decide +kernel
theorem dX5_start_20 : decode cX5_start 20 = .ok (.invokespecial 60, 3) := by decide +kernel
theorem dX5_start_23 : decode cX5_start 23 = .ok (.athrow, 1) := by decide +kernel
theorem dX5_start_24 : decode cX5_start 24 = .ok (.aload_n 0, 1) := by decide +kernel
theorem dX5_start_25 : decode cX5_start 25 = .ok (.getfield 21, 3) := by decide +kernel
theorem dX5_start_28 : decode cX5_start 28 = .ok (.invokevirtual 71, 3) := by decide +kernel
theorem dX5_start_31 : decode cX5_start 31 = .ok (.aload_n 0, 1) := by decide +kernel
theorem dX5_start_32 : decode cX5_start 32 = .ok (.getfield 10, 3) := by decide +kernel
theorem dX5_start_35 : decode cX5_start 35 = .ok (.iload_n 1, 1) := by decide +kernel
theorem dX5_start_36 : decode cX5_start 36 = .ok (.invokevirtual 74, 3) := by decide +kernel
theorem dX5_start_39 : decode cX5_start 39 = .ok (.ireturn, 1) := by decide +kernel
set_option maxRecDepth 20000 in
theorem ggX5_isStarted_X1_isOpen : GoodIn wsX5_isStarted wsX1_isOpen := goodIn_r _ [6, 7, 11, 12, 13, 14, 15, 16, 17, 18] (by decide +kernel) (by decide +kernel)
set_option maxRecDepth 20000 in
theorem gX5_isStarted_X1_isOpen : GoodIn wsX5_isStarted (wsV RX5 77 RX1 yX1_isOpen wsX1_isOpen) := goodIn_app (goodIn_of _ (by decide +kernel)) ggX5_isStarted_X1_isOpen
theorem dX5_isStarted_0 : decode cX5_isStarted 0 = .ok (.aload_n 0, 1) := by decide +kernel
theorem dX5_isStarted_1 : decode cX5_isStarted 1 = .ok (.getfield 10, 3) := by decide +kernel
theorem dX5_isStarted_4 : decode cX5_isStarted 4 = .ok (.invokevirtual 77, 3) := by decide +kernel
theorem dX5_isStarted_7 : decode cX5_isStarted 7 = .ok (.ireturn, 1) := by decide +kernel
set_option maxRecDepth 20000 in
theorem ggX5_play_X5_needCard : GoodIn wsX5_play wsX5_needCard := goodIn_ca (goodIn_r _ [5, 6, 7] (by decide +kernel) (by decide +kernel)) (goodIn_sub (fun _ h => List.mem_cons_of_mem _ (List.mem_append_left _ (List.mem_append_right _ h))) (by decide +kernel))
set_option maxRecDepth 20000 in
theorem gX5_play_X5_needCard : GoodIn wsX5_play (va_wsS RX5 49 yX5_needCard wsX5_needCard) := goodIn_app (goodIn_of _ (by decide +kernel)) ggX5_play_X5_needCard
set_option maxRecDepth 20000 in
theorem ggX5_play_X5_needPlayable : GoodIn wsX5_play wsX5_needPlayable := goodIn_ca (goodIn_r _ [11, 12, 13, 1, 14, 15, 16, 17, 18, 19, 20, 21, 22, 23, 24, 25, 26, 27, 28, 29, 30, 31, 32, 33, 34, 35, 36, 37, 38, 39, 40, 41, 42, 43, 44, 45, 46, 47, 48, 49, 50, 51, 52, 53, 54, 55, 56, 57, 58, 59, 60, 61, 62, 63, 64, 65, 66, 84, 85, 86, 87, 88, 89, 90, 91, 92, 93, 94] (by decide +kernel) (by decide +kernel)) (goodIn_sub (fun _ h => List.mem_cons_of_mem _ (List.mem_append_right _ h)) (by decide +kernel))
set_option maxRecDepth 20000 in
theorem gX5_play_X5_needPlayable : GoodIn wsX5_play (wsV RX5 80 RX5 yX5_needPlayable wsX5_needPlayable) := goodIn_app (goodIn_of _ (by decide +kernel)) ggX5_play_X5_needPlayable
set_option maxRecDepth 20000 in
theorem ggX5_play_X1_lay : GoodIn wsX5_play wsX1_lay := goodIn_r _ [70, 29, 56, 19, 20, 21, 17, 22, 23, 24, 25, 26, 27, 28, 30, 31, 32, 33, 34, 35, 36, 37, 38, 39, 40, 41, 42, 71, 72, 73, 74, 47, 75, 76, 77, 78, 52, 53, 54, 55, 79, 80, 81, 82, 83, 87, 88, 89, 90, 91, 92, 93, 94] (by decide +kernel) (by decide +kernel)
set_option maxRecDepth 20000 in
theorem gX5_play_X1_lay : GoodIn wsX5_play (wsV RX5 83 RX1 yX1_lay wsX1_lay) := goodIn_app (goodIn_of _ (by decide +kernel)) ggX5_play_X1_lay
theorem dX5_play_0 : decode cX5_play 0 = .ok (.iload_n 1, 1) := by decide +kernel
theorem dX5_play_1 : decode cX5_play 1 = .ok (.invokestatic 49, 3) := by decide +kernel
theorem dX5_play_4 : decode cX5_play 4 = .ok (.aload_n 0, 1) := by decide +kernel
theorem dX5_play_5 : decode cX5_play 5 = .ok (.iload_n 1, 1) := by decide +kernel
theorem dX5_play_6 : decode cX5_play 6 = .ok (.invokevirtual 80, 3) := by decide +kernel
theorem dX5_play_9 : decode cX5_play 9 = .ok (.aload_n 0, 1) := by decide +kernel
theorem dX5_play_10 : decode cX5_play 10 = .ok (.getfield 10, 3) := by decide +kernel
theorem dX5_play_13 : decode cX5_play 13 = .ok (.iload_n 1, 1) := by decide +kernel
theorem dX5_play_14 : decode cX5_play 14 = .ok (.invokevirtual 83, 3) := by decide +kernel
theorem dX5_play_17 : decode cX5_play 17 = .ok (.ireturn, 1) := by decide +kernel
set_option maxRecDepth 20000 in
theorem ggX5_takeBack_X1_laidCount : GoodIn wsX5_takeBack wsX1_laidCount := goodIn_r _ [8, 9, 50, 51, 52, 53, 54, 55, 56, 57] (by decide +kernel) (by decide +kernel)
set_option maxRecDepth 20000 in
theorem gX5_takeBack_X1_laidCount : GoodIn wsX5_takeBack (wsV RX5 86 RX1 yX1_laidCount wsX1_laidCount) := goodIn_app (goodIn_of _ (by decide +kernel)) ggX5_takeBack_X1_laidCount
set_option maxRecDepth 20000 in
theorem ggX5_takeBack_X1_lift : GoodIn wsX5_takeBack wsX1_lift := goodIn_r _ [13, 9, 14, 15, 16, 7, 17, 18, 19, 20, 21, 22, 23, 24, 25, 26, 27, 28, 29, 30, 31, 32, 33, 34, 35, 36, 37, 38, 39, 40, 41, 42, 43, 44, 45, 46, 50, 51, 52, 53, 54, 55, 56, 57] (by decide +kernel) (by decide +kernel)
set_option maxRecDepth 20000 in
theorem gX5_takeBack_X1_lift : GoodIn wsX5_takeBack (wsV RX5 92 RX1 yX1_lift wsX1_lift) := goodIn_app (goodIn_of _ (by decide +kernel)) ggX5_takeBack_X1_lift
theorem dX5_takeBack_0 : decode cX5_takeBack 0 = .ok (.aload_n 0, 1) := by decide +kernel
theorem dX5_takeBack_1 : decode cX5_takeBack 1 = .ok (.getfield 10, 3) := by decide +kernel
theorem dX5_takeBack_4 : decode cX5_takeBack 4 = .ok (.invokevirtual 86, 3) := by decide +kernel
theorem dX5_takeBack_7 : decode cX5_takeBack 7 = .ok (.ifCond .ne 13, 3) := by decide +kernel
theorem dX5_takeBack_10 : decode cX5_takeBack 10 = .ok (.new 56, 3) := by decide +kernel
theorem dX5_takeBack_13 : decode cX5_takeBack 13 = .ok (.dup, 1) := by decide +kernel
theorem dX5_takeBack_14 : decode cX5_takeBack 14 = .ok (.ldc 90, 2) := by decide +kernel
theorem dX5_takeBack_16 : decode cX5_takeBack 16 = .ok (.invokespecial 60, 3) := by decide +kernel
theorem dX5_takeBack_19 : decode cX5_takeBack 19 = .ok (.athrow, 1) := by decide +kernel
theorem dX5_takeBack_20 : decode cX5_takeBack 20 = .ok (.aload_n 0, 1) := by decide +kernel
theorem dX5_takeBack_21 : decode cX5_takeBack 21 = .ok (.getfield 10, 3) := by decide +kernel
theorem dX5_takeBack_24 : decode cX5_takeBack 24 = .ok (.invokevirtual 92, 3) := by decide +kernel
theorem dX5_takeBack_27 : decode cX5_takeBack 27 = .ok (.ireturn, 1) := by decide +kernel
set_option maxRecDepth 20000 in
theorem ggX5_canPlay_X5_needCard : GoodIn wsX5_canPlay wsX5_needCard := goodIn_ca (goodIn_r _ [5, 6, 7] (by decide +kernel) (by decide +kernel)) (goodIn_sub (fun _ h => List.mem_cons_of_mem _ (List.mem_append_right _ h)) (by decide +kernel))
set_option maxRecDepth 20000 in
theorem gX5_canPlay_X5_needCard : GoodIn wsX5_canPlay (va_wsS RX5 49 yX5_needCard wsX5_needCard) := goodIn_app (goodIn_of _ (by decide +kernel)) ggX5_canPlay_X5_needCard
set_option maxRecDepth 20000 in
theorem ggX5_canPlay_X1_playable : GoodIn wsX5_canPlay wsX1_playable := goodIn_r _ [12, 13, 14, 15, 11, 16, 17, 18, 19, 20, 21, 22, 23, 24, 25, 26, 27, 28, 29, 30, 31, 32, 33, 34, 35, 36, 37, 38, 39, 40, 41, 42, 43, 44, 45, 46, 47, 48, 49, 50, 51, 52, 53, 54, 55, 56, 57, 64, 65, 66, 67, 68, 69, 70, 71] (by decide +kernel) (by decide +kernel)
set_option maxRecDepth 20000 in
theorem gX5_canPlay_X1_playable : GoodIn wsX5_canPlay (wsV RX5 95 RX1 yX1_playable wsX1_playable) := goodIn_app (goodIn_of _ (by decide +kernel)) ggX5_canPlay_X1_playable
set_option maxRecDepth 20000 in
theorem ggX5_canPlay_X0_holds : GoodIn wsX5_canPlay wsX0_holds := goodIn_r _ [60] (by decide +kernel) (by decide +kernel)
set_option maxRecDepth 20000 in
theorem gX5_canPlay_X0_holds : GoodIn wsX5_canPlay (va_wsS RX5 98 yX0_holds wsX0_holds) := goodIn_app (goodIn_of _ (by decide +kernel)) ggX5_canPlay_X0_holds
theorem dX5_canPlay_0 : decode cX5_canPlay 0 = .ok (.iload_n 1, 1) := by decide +kernel
theorem dX5_canPlay_1 : decode cX5_canPlay 1 = .ok (.invokestatic 49, 3) := by decide +kernel
theorem dX5_canPlay_4 : decode cX5_canPlay 4 = .ok (.aload_n 0, 1) := by decide +kernel
theorem dX5_canPlay_5 : decode cX5_canPlay 5 = .ok (.getfield 10, 3) := by decide +kernel
theorem dX5_canPlay_8 : decode cX5_canPlay 8 = .ok (.invokevirtual 95, 3) := by decide +kernel
theorem dX5_canPlay_11 : decode cX5_canPlay 11 = .ok (.iload_n 1, 1) := by decide +kernel
theorem dX5_canPlay_12 : decode cX5_canPlay 12 = .ok (.invokestatic 98, 3) := by decide +kernel
theorem dX5_canPlay_15 : decode cX5_canPlay 15 = .ok (.ireturn, 1) := by decide +kernel
set_option maxRecDepth 20000 in
theorem ggX5_turn_X1_mover : GoodIn wsX5_turn wsX1_mover := goodIn_r _ [6, 7, 8, 9, 10, 5, 11, 12, 13, 14, 15, 16, 17, 18, 19, 20, 21, 22, 23, 24, 25, 26, 30, 31, 32, 33, 34, 35, 36, 37] (by decide +kernel) (by decide +kernel)
set_option maxRecDepth 20000 in
theorem gX5_turn_X1_mover : GoodIn wsX5_turn (wsV RX5 101 RX1 yX1_mover wsX1_mover) := goodIn_app (goodIn_of _ (by decide +kernel)) ggX5_turn_X1_mover
theorem dX5_turn_0 : decode cX5_turn 0 = .ok (.aload_n 0, 1) := by decide +kernel
theorem dX5_turn_1 : decode cX5_turn 1 = .ok (.getfield 10, 3) := by decide +kernel
theorem dX5_turn_4 : decode cX5_turn 4 = .ok (.invokevirtual 101, 3) := by decide +kernel
theorem dX5_turn_7 : decode cX5_turn 7 = .ok (.ireturn, 1) := by decide +kernel
set_option maxRecDepth 20000 in
theorem ggX5_hand_X5_needPlayer : GoodIn wsX5_hand wsX5_needPlayer := goodIn_ca (goodIn_r _ [5, 6, 7] (by decide +kernel) (by decide +kernel)) (goodIn_sub (fun _ h => List.mem_cons_of_mem _ (List.mem_append_right _ h)) (by decide +kernel))
set_option maxRecDepth 20000 in
theorem gX5_hand_X5_needPlayer : GoodIn wsX5_hand (va_wsS RX5 45 yX5_needPlayer wsX5_needPlayer) := goodIn_app (goodIn_of _ (by decide +kernel)) ggX5_hand_X5_needPlayer
set_option maxRecDepth 20000 in
theorem ggX5_hand_X1_handOf : GoodIn wsX5_hand wsX1_handOf := goodIn_r _ [12, 13, 17, 18, 19, 20, 21, 22, 23, 24] (by decide +kernel) (by decide +kernel)
set_option maxRecDepth 20000 in
theorem gX5_hand_X1_handOf : GoodIn wsX5_hand (wsV RX5 104 RX1 yX1_handOf wsX1_handOf) := goodIn_app (goodIn_of _ (by decide +kernel)) ggX5_hand_X1_handOf
theorem dX5_hand_0 : decode cX5_hand 0 = .ok (.iload_n 1, 1) := by decide +kernel
theorem dX5_hand_1 : decode cX5_hand 1 = .ok (.invokestatic 45, 3) := by decide +kernel
theorem dX5_hand_4 : decode cX5_hand 4 = .ok (.aload_n 0, 1) := by decide +kernel
theorem dX5_hand_5 : decode cX5_hand 5 = .ok (.getfield 10, 3) := by decide +kernel
theorem dX5_hand_8 : decode cX5_hand 8 = .ok (.iload_n 1, 1) := by decide +kernel
theorem dX5_hand_9 : decode cX5_hand 9 = .ok (.invokevirtual 104, 3) := by decide +kernel
theorem dX5_hand_12 : decode cX5_hand 12 = .ok (.ireturn, 1) := by decide +kernel
set_option maxRecDepth 20000 in
theorem ggX5_inTrick_X1_trickSize : GoodIn wsX5_inTrick wsX1_trickSize := goodIn_r _ [6, 7, 11, 12, 13, 14, 15, 16, 17, 18] (by decide +kernel) (by decide +kernel)
set_option maxRecDepth 20000 in
theorem gX5_inTrick_X1_trickSize : GoodIn wsX5_inTrick (wsV RX5 107 RX1 yX1_trickSize wsX1_trickSize) := goodIn_app (goodIn_of _ (by decide +kernel)) ggX5_inTrick_X1_trickSize
theorem dX5_inTrick_0 : decode cX5_inTrick 0 = .ok (.aload_n 0, 1) := by decide +kernel
theorem dX5_inTrick_1 : decode cX5_inTrick 1 = .ok (.getfield 10, 3) := by decide +kernel
theorem dX5_inTrick_4 : decode cX5_inTrick 4 = .ok (.invokevirtual 107, 3) := by decide +kernel
theorem dX5_inTrick_7 : decode cX5_inTrick 7 = .ok (.ireturn, 1) := by decide +kernel
set_option maxRecDepth 20000 in
theorem ggX5_cardIn_X1_trickSize : GoodIn wsX5_cardIn wsX1_trickSize := goodIn_r _ [8, 9, 23, 24, 25, 26, 27, 28, 29, 30] (by decide +kernel) (by decide +kernel)
set_option maxRecDepth 20000 in
theorem gX5_cardIn_X1_trickSize : GoodIn wsX5_cardIn (wsV RX5 107 RX1 yX1_trickSize wsX1_trickSize) := goodIn_app (goodIn_of _ (by decide +kernel)) ggX5_cardIn_X1_trickSize
set_option maxRecDepth 20000 in
theorem ggX5_cardIn_X1_trickCard : GoodIn wsX5_cardIn wsX1_trickCard := goodIn_r _ [13, 9, 14, 5, 6, 7, 8, 15, 16, 17, 18, 19, 23, 24, 25, 26, 27, 28, 29, 30] (by decide +kernel) (by decide +kernel)
set_option maxRecDepth 20000 in
theorem gX5_cardIn_X1_trickCard : GoodIn wsX5_cardIn (wsV RX5 115 RX1 yX1_trickCard wsX1_trickCard) := goodIn_app (goodIn_of _ (by decide +kernel)) ggX5_cardIn_X1_trickCard
theorem dX5_cardIn_0 : decode cX5_cardIn 0 = .ok (.iload_n 1, 1) := by decide +kernel
theorem dX5_cardIn_1 : decode cX5_cardIn 1 = .ok (.ifCond .lt 14, 3) := by decide +kernel
theorem dX5_cardIn_4 : decode cX5_cardIn 4 = .ok (.iload_n 1, 1) := by decide +kernel
theorem dX5_cardIn_5 : decode cX5_cardIn 5 = .ok (.aload_n 0, 1) := by decide +kernel
theorem dX5_cardIn_6 : decode cX5_cardIn 6 = .ok (.getfield 10, 3) := by decide +kernel
theorem dX5_cardIn_9 : decode cX5_cardIn 9 = .ok (.invokevirtual 107, 3) := by decide +kernel
theorem dX5_cardIn_12 : decode cX5_cardIn 12 = .ok (.if_icmp .lt 13, 3) := by decide +kernel
theorem dX5_cardIn_15 : decode cX5_cardIn 15 = .ok (.new 110, 3) := by decide +kernel
theorem dX5_cardIn_18 : decode cX5_cardIn 18 = .ok (.dup, 1) := by decide +kernel
theorem dX5_cardIn_19 : decode cX5_cardIn 19 = .ok (.ldc 112, 2) := by decide +kernel
theorem dX5_cardIn_21 : decode cX5_cardIn 21 = .ok (.invokespecial 114, 3) := by decide +kernel
theorem dX5_cardIn_24 : decode cX5_cardIn 24 = .ok (.athrow, 1) := by decide +kernel
theorem dX5_cardIn_25 : decode cX5_cardIn 25 = .ok (.aload_n 0, 1) := by decide +kernel
theorem dX5_cardIn_26 : decode cX5_cardIn 26 = .ok (.getfield 10, 3) := by decide +kernel
theorem dX5_cardIn_29 : decode cX5_cardIn 29 = .ok (.iload_n 1, 1) := by decide +kernel
theorem dX5_cardIn_30 : decode cX5_cardIn 30 = .ok (.invokevirtual 115, 3) := by decide +kernel
theorem dX5_cardIn_33 : decode cX5_cardIn 33 = .ok (.ireturn, 1) := by decide +kernel
set_option maxRecDepth 20000 in
theorem ggX5_won_X1_tricksOf : GoodIn wsX5_won wsX1_tricksOf := goodIn_r _ [8, 9, 10, 11, 7, 12, 13, 14, 15, 16, 17, 18, 19, 20, 21, 22, 26, 27, 28, 29, 30, 31, 32, 33] (by decide +kernel) (by decide +kernel)
set_option maxRecDepth 20000 in
theorem gX5_won_X1_tricksOf : GoodIn wsX5_won (wsV RX5 120 RX1 yX1_tricksOf wsX1_tricksOf) := goodIn_app (goodIn_of _ (by decide +kernel)) ggX5_won_X1_tricksOf
theorem dX5_won_0 : decode cX5_won 0 = .ok (.iload_n 1, 1) := by decide +kernel
theorem dX5_won_1 : decode cX5_won 1 = .ok (.ifCond .lt 8, 3) := by decide +kernel
theorem dX5_won_4 : decode cX5_won 4 = .ok (.iload_n 1, 1) := by decide +kernel
theorem dX5_won_5 : decode cX5_won 5 = .ok (.iconst 2, 1) := by decide +kernel
theorem dX5_won_6 : decode cX5_won 6 = .ok (.if_icmp .lt 13, 3) := by decide +kernel
theorem dX5_won_9 : decode cX5_won 9 = .ok (.new 34, 3) := by decide +kernel
theorem dX5_won_12 : decode cX5_won 12 = .ok (.dup, 1) := by decide +kernel
theorem dX5_won_13 : decode cX5_won 13 = .ok (.ldc 118, 2) := by decide +kernel
theorem dX5_won_15 : decode cX5_won 15 = .ok (.invokespecial 38, 3) := by decide +kernel
theorem dX5_won_18 : decode cX5_won 18 = .ok (.athrow, 1) := by decide +kernel
theorem dX5_won_19 : decode cX5_won 19 = .ok (.aload_n 0, 1) := by decide +kernel
theorem dX5_won_20 : decode cX5_won 20 = .ok (.getfield 10, 3) := by decide +kernel
theorem dX5_won_23 : decode cX5_won 23 = .ok (.iload_n 1, 1) := by decide +kernel
theorem dX5_won_24 : decode cX5_won 24 = .ok (.invokevirtual 120, 3) := by decide +kernel
theorem dX5_won_27 : decode cX5_won 27 = .ok (.ireturn, 1) := by decide +kernel
set_option maxRecDepth 20000 in
theorem ggX5_solve_X5_needStarted : GoodIn wsX5_solve wsX5_needStarted := goodIn_ca (goodIn_r _ [6, 7, 8, 9, 10, 11, 12, 13, 14, 15, 187, 188, 189, 190, 191, 192, 193, 194, 195, 196, 197] (by decide +kernel) (by decide +kernel)) (goodIn_sub (fun _ h => List.mem_cons_of_mem _ (List.mem_append_right _ h)) (by decide +kernel))
set_option maxRecDepth 20000 in
theorem gX5_solve_X5_needStarted : GoodIn wsX5_solve (wsV RX5 123 RX5 yX5_needStarted wsX5_needStarted) := goodIn_app (goodIn_of _ (by decide +kernel)) ggX5_solve_X5_needStarted
set_option maxRecDepth 20000 in
theorem ggX5_solve_X4_mostOfSide0 : GoodIn wsX5_solve wsX4_mostOfSide0 := goodIn_r _ [20, 21, 22, 23, 24, 13, 25, 26, 27, 28, 29, 30, 31, 32, 33, 34, 35, 36, 37, 38, 19, 39, 40, 41, 42, 43, 44, 45, 46, 47, 48, 49, 50, 51, 52, 53, 54, 55, 56, 57, 58, 59, 60, 61, 62, 63, 64, 65, 66, 67, 68, 69, 70, 71, 72, 73, 74, 75, 76, 77, 78, 79, 80, 81, 82, 83, 84, 85, 86, 87, 88, 89, 90, 91, 92, 93, 94, 95, 15, 96, 97, 98, 99, 100, 101, 102, 103, 104, 105, 106, 107, 108, 109, 110, 111, 112, 113, 114, 115, 116, 117, 118, 119, 120, 121, 122, 123, 124, 125, 126, 127, 128, 129, 130, 131, 132, 133, 134, 135, 136, 137, 138, 139, 140, 141, 142, 143, 144, 145, 146, 147, 148, 149, 150, 151, 152, 153, 154, 155, 156, 157, 158, 159, 160, 161, 162, 163, 164, 165, 166, 167, 168, 169, 170, 171, 172, 173, 174, 175, 176, 177, 178, 179, 180, 181, 182, 183, 184, 185, 186, 198, 199, 190, 191, 192, 193, 194, 195, 196, 197, 200] (by decide +kernel) (by decide +kernel)
set_option maxRecDepth 20000 in
theorem gX5_solve_X4_mostOfSide0 : GoodIn wsX5_solve (wsV RX5 126 RX4 yX4_mostOfSide0 wsX4_mostOfSide0) := goodIn_app (goodIn_of _ (by decide +kernel)) ggX5_solve_X4_mostOfSide0
theorem dX5_solve_0 : decode cX5_solve 0 = .ok (.aload_n 0, 1) := by decide +kernel
theorem dX5_solve_1 : decode cX5_solve 1 = .ok (.invokevirtual 123, 3) := by decide +kernel
theorem dX5_solve_4 : decode cX5_solve 4 = .ok (.aload_n 0, 1) := by decide +kernel
theorem dX5_solve_5 : decode cX5_solve 5 = .ok (.getfield 21, 3) := by decide +kernel
theorem dX5_solve_8 : decode cX5_solve 8 = .ok (.invokevirtual 126, 3) := by decide +kernel
theorem dX5_solve_11 : decode cX5_solve 11 = .ok (.ireturn, 1) := by decide +kernel
set_option maxRecDepth 20000 in
theorem ggX5_solveByAll_X5_needStarted : GoodIn wsX5_solveByAll wsX5_needStarted := goodIn_ca (goodIn_r _ [8, 1, 2, 3, 9, 10, 11, 12, 13, 14, 115, 116, 117, 118, 119, 120, 121, 122, 123, 124, 125] (by decide +kernel) (by decide +kernel)) (goodIn_sub (fun _ h => List.mem_cons_of_mem _ (List.mem_append_right _ h)) (by decide +kernel))
set_option maxRecDepth 20000 in
theorem gX5_solveByAll_X5_needStarted : GoodIn wsX5_solveByAll (wsV RX5 123 RX5 yX5_needStarted wsX5_needStarted) := goodIn_app (goodIn_of _ (by decide +kernel)) ggX5_solveByAll_X5_needStarted
set_option maxRecDepth 20000 in
theorem ggX5_solveByAll_X1_cardsLeft : GoodIn wsX5_solveByAll wsX1_cardsLeft := goodIn_r _ [18, 19, 20, 118, 119, 120, 121, 122, 123, 124, 125] (by decide +kernel) (by decide +kernel)
set_option maxRecDepth 20000 in
theorem gX5_solveByAll_X1_cardsLeft : GoodIn wsX5_solveByAll (wsV RX5 129 RX1 yX1_cardsLeft wsX1_cardsLeft) := goodIn_app (goodIn_of _ (by decide +kernel)) ggX5_solveByAll_X1_cardsLeft
set_option maxRecDepth 20000 in
theorem ggX5_solveByAll_X4_byAllPlays : GoodIn wsX5_solveByAll wsX4_byAllPlays := goodIn_r _ [23, 24, 25, 26, 27, 28, 29, 30, 31, 32, 33, 12, 34, 14, 35, 16, 17, 18, 19, 20, 36, 37, 38, 39, 40, 41, 42, 43, 44, 45, 46, 47, 48, 49, 50, 51, 52, 53, 54, 55, 56, 57, 58, 59, 60, 61, 62, 63, 64, 65, 66, 67, 68, 69, 70, 71, 72, 73, 74, 75, 76, 77, 78, 79, 80, 81, 82, 83, 84, 85, 86, 87, 88, 89, 90, 91, 92, 93, 94, 95, 96, 97, 98, 99, 100, 101, 102, 103, 104, 22, 105, 106, 21, 107, 108, 109, 110, 111, 112, 113, 114, 118, 119, 120, 121, 122, 123, 124, 125] (by decide +kernel) (by decide +kernel)
set_option maxRecDepth 20000 in
theorem gX5_solveByAll_X4_byAllPlays_n134 : GoodIn wsX5_solveByAll (wsX4_byAllPlays) := ggX5_solveByAll_X4_byAllPlays
theorem dX5_solveByAll_0 : decode cX5_solveByAll 0 = .ok (.aload_n 0, 1) := by decide +kernel
theorem dX5_solveByAll_1 : decode cX5_solveByAll 1 = .ok (.invokevirtual 123, 3) := by decide +kernel
theorem dX5_solveByAll_4 : decode cX5_solveByAll 4 = .ok (.aload_n 0, 1) := by decide +kernel
theorem dX5_solveByAll_5 : decode cX5_solveByAll 5 = .ok (.getfield 10, 3) := by decide +kernel
theorem dX5_solveByAll_8 : decode cX5_solveByAll 8 = .ok (.invokevirtual 129, 3) := by decide +kernel
theorem dX5_solveByAll_11 : decode cX5_solveByAll 11 = .ok (.bipush 12, 2) := by decide +kernel
theorem dX5_solveByAll_13 : decode cX5_solveByAll 13 = .ok (.if_icmp .le 13, 3) := by decide +kernel
theorem dX5_solveByAll_16 : decode cX5_solveByAll 16 = .ok (.new 56, 3) := by decide +kernel
theorem dX5_solveByAll_19 : decode cX5_solveByAll 19 = .ok (.dup, 1) := by decide +kernel
theorem dX5_solveByAll_20 : decode cX5_solveByAll 20 = .ok (.ldc 132, 2) := by decide +kernel
theorem dX5_solveByAll_22 : decode cX5_solveByAll 22 = .ok (.invokespecial 60, 3) := by decide +kernel
theorem dX5_solveByAll_25 : decode cX5_solveByAll 25 = .ok (.athrow, 1) := by decide +kernel
theorem dX5_solveByAll_26 : decode cX5_solveByAll 26 = .ok (.aload_n 0, 1) := by decide +kernel
theorem dX5_solveByAll_27 : decode cX5_solveByAll 27 = .ok (.getfield 10, 3) := by decide +kernel
theorem dX5_solveByAll_30 : decode cX5_solveByAll 30 = .ok (.aload_n 0, 1) := by decide +kernel
theorem dX5_solveByAll_31 : decode cX5_solveByAll 31 = .ok (.getfield 10, 3) := by decide +kernel
theorem dX5_solveByAll_34 : decode cX5_solveByAll 34 = .ok (.invokevirtual 129, 3) := by decide +kernel
theorem dX5_solveByAll_37 : decode cX5_solveByAll 37 = .ok (.invokestatic 134, 3) := by decide +kernel
theorem dX5_solveByAll_40 : decode cX5_solveByAll 40 = .ok (.ireturn, 1) := by decide +kernel
set_option maxRecDepth 20000 in
theorem ggX5_value_X5_needCard : GoodIn wsX5_value wsX5_needCard := goodIn_ca (goodIn_r _ [5, 6, 7] (by decide +kernel) (by decide +kernel)) (goodIn_sub (fun _ h => List.mem_cons_of_mem _ (List.mem_append_left _ (List.mem_append_right _ h))) (by decide +kernel))
set_option maxRecDepth 20000 in
theorem gX5_value_X5_needCard : GoodIn wsX5_value (va_wsS RX5 49 yX5_needCard wsX5_needCard) := goodIn_app (goodIn_of _ (by decide +kernel)) ggX5_value_X5_needCard
set_option maxRecDepth 20000 in
theorem ggX5_value_X5_needPlayable : GoodIn wsX5_value wsX5_needPlayable := goodIn_ca (goodIn_r _ [11, 12, 13, 14, 15, 16, 17, 18, 19, 20, 21, 22, 23, 24, 25, 26, 27, 28, 29, 30, 31, 32, 33, 34, 35, 36, 37, 38, 39, 40, 41, 42, 43, 44, 45, 46, 47, 48, 49, 50, 51, 52, 53, 54, 55, 56, 57, 58, 59, 60, 61, 62, 63, 64, 65, 66, 67, 190, 191, 192, 193, 194, 195, 196, 197, 198, 199, 200] (by decide +kernel) (by decide +kernel)) (goodIn_sub (fun _ h => List.mem_cons_of_mem _ (List.mem_append_right _ h)) (by decide +kernel))
set_option maxRecDepth 20000 in
theorem gX5_value_X5_needPlayable : GoodIn wsX5_value (wsV RX5 80 RX5 yX5_needPlayable wsX5_needPlayable) := goodIn_app (goodIn_of _ (by decide +kernel)) ggX5_value_X5_needPlayable
set_option maxRecDepth 20000 in
theorem ggX5_value_X4_worthOf : GoodIn wsX5_value wsX4_worthOf := goodIn_r _ [72, 73, 74, 75, 76, 18, 77, 29, 31, 32, 33, 34, 30, 78, 21, 22, 23, 24, 25, 26, 27, 28, 35, 36, 37, 38, 39, 40, 41, 42, 43, 79, 80, 60, 81, 82, 83, 84, 85, 57, 20, 86, 87, 88, 89, 48, 90, 91, 92, 93, 53, 54, 55, 56, 94, 95, 96, 97, 98, 99, 100, 71, 101, 102, 103, 104, 105, 106, 107, 108, 109, 110, 111, 112, 113, 114, 115, 116, 117, 118, 119, 120, 121, 122, 123, 124, 125, 126, 127, 128, 129, 130, 131, 132, 133, 134, 135, 136, 137, 138, 139, 140, 141, 142, 143, 144, 145, 146, 147, 148, 149, 150, 16, 17, 19, 44, 45, 46, 47, 49, 50, 51, 52, 58, 59, 61, 62, 63, 64, 151, 152, 153, 154, 155, 156, 157, 158, 159, 160, 161, 162, 163, 164, 165, 166, 167, 168, 169, 170, 171, 172, 173, 174, 175, 66, 67, 176, 177, 178, 179, 180, 181, 182, 183, 184, 185, 186, 187, 188, 189, 201, 202, 193, 194, 195, 196, 197, 198, 199, 200, 203] (by decide +kernel) (by decide +kernel)
set_option maxRecDepth 20000 in
theorem gX5_value_X4_worthOf : GoodIn wsX5_value (wsV RX5 138 RX4 yX4_worthOf wsX4_worthOf) := goodIn_app (goodIn_of _ (by decide +kernel)) ggX5_value_X4_worthOf
theorem dX5_value_0 : decode cX5_value 0 = .ok (.iload_n 1, 1) := by decide +kernel
theorem dX5_value_1 : decode cX5_value 1 = .ok (.invokestatic 49, 3) := by decide +kernel
theorem dX5_value_4 : decode cX5_value 4 = .ok (.aload_n 0, 1) := by decide +kernel
theorem dX5_value_5 : decode cX5_value 5 = .ok (.iload_n 1, 1) := by decide +kernel
theorem dX5_value_6 : decode cX5_value 6 = .ok (.invokevirtual 80, 3) := by decide +kernel
theorem dX5_value_9 : decode cX5_value 9 = .ok (.aload_n 0, 1) := by decide +kernel
theorem dX5_value_10 : decode cX5_value 10 = .ok (.getfield 21, 3) := by decide +kernel
theorem dX5_value_13 : decode cX5_value 13 = .ok (.iload_n 1, 1) := by decide +kernel
theorem dX5_value_14 : decode cX5_value 14 = .ok (.invokevirtual 138, 3) := by decide +kernel
theorem dX5_value_17 : decode cX5_value 17 = .ok (.ireturn, 1) := by decide +kernel
set_option maxRecDepth 20000 in
theorem ggX5_bestCard_X1_mover : GoodIn wsX5_bestCard wsX1_mover := goodIn_r _ [9, 10, 11, 12, 13, 8, 14, 15, 16, 17, 18, 19, 20, 21, 22, 23, 24, 25, 26, 27, 28, 29, 187, 188, 189, 190, 191, 192, 193, 194] (by decide +kernel) (by decide +kernel)
set_option maxRecDepth 20000 in
theorem gX5_bestCard_X1_mover : GoodIn wsX5_bestCard (wsV RX5 101 RX1 yX1_mover wsX1_mover) := goodIn_app (goodIn_of _ (by decide +kernel)) ggX5_bestCard_X1_mover
set_option maxRecDepth 20000 in
theorem ggX5_bestCard_X4_bestPlay : GoodIn wsX5_bestCard wsX4_bestPlay := goodIn_r _ [34, 35, 36, 37, 38, 8, 39, 40, 6, 7, 9, 10, 11, 12, 13, 14, 15, 16, 17, 18, 19, 20, 21, 22, 23, 24, 25, 26, 27, 28, 29, 41, 42, 43, 44, 45, 46, 47, 48, 49, 50, 51, 52, 53, 54, 55, 56, 57, 58, 59, 60, 61, 62, 63, 64, 65, 66, 67, 68, 69, 70, 71, 72, 73, 74, 75, 76, 77, 78, 79, 80, 81, 82, 83, 84, 85, 86, 87, 88, 89, 90, 91, 92, 93, 94, 95, 96, 33, 97, 98, 99, 100, 101, 102, 103, 104, 105, 106, 107, 108, 109, 110, 111, 112, 113, 114, 115, 116, 117, 118, 119, 120, 121, 122, 123, 124, 125, 126, 127, 128, 129, 130, 131, 132, 133, 134, 135, 136, 137, 138, 139, 140, 141, 142, 143, 144, 145, 146, 147, 148, 149, 150, 151, 152, 153, 154, 155, 156, 157, 158, 159, 160, 161, 162, 163, 164, 165, 166, 167, 168, 169, 170, 171, 172, 173, 174, 175, 176, 177, 178, 179, 180, 181, 182, 183, 195, 196, 187, 188, 189, 190, 191, 192, 193, 194, 197] (by decide +kernel) (by decide +kernel)
set_option maxRecDepth 20000 in
theorem gX5_bestCard_X4_bestPlay : GoodIn wsX5_bestCard (wsV RX5 143 RX4 yX4_bestPlay wsX4_bestPlay) := goodIn_app (goodIn_of _ (by decide +kernel)) ggX5_bestCard_X4_bestPlay
theorem dX5_bestCard_0 : decode cX5_bestCard 0 = .ok (.aload_n 0, 1) := by decide +kernel
theorem dX5_bestCard_1 : decode cX5_bestCard 1 = .ok (.getfield 10, 3) := by decide +kernel
theorem dX5_bestCard_4 : decode cX5_bestCard 4 = .ok (.invokevirtual 101, 3) := by decide +kernel
theorem dX5_bestCard_7 : decode cX5_bestCard 7 = .ok (.iconst (-1), 1) := by decide +kernel
theorem dX5_bestCard_8 : decode cX5_bestCard 8 = .ok (.if_icmp .ne 13, 3) := by decide +kernel
theorem dX5_bestCard_11 : decode cX5_bestCard 11 = .ok (.new 56, 3) := by decide +kernel
theorem dX5_bestCard_14 : decode cX5_bestCard 14 = .ok (.dup, 1) := by decide +kernel
theorem dX5_bestCard_15 : decode cX5_bestCard 15 = .ok (.ldc 141, 2) := by decide +kernel
theorem dX5_bestCard_17 : decode cX5_bestCard 17 = .ok (.invokespecial 60, 3) := by decide +kernel
theorem dX5_bestCard_20 : decode cX5_bestCard 20 = .ok (.athrow, 1) := by decide +kernel
theorem dX5_bestCard_21 : decode cX5_bestCard 21 = .ok (.aload_n 0, 1) := by decide +kernel
theorem dX5_bestCard_22 : decode cX5_bestCard 22 = .ok (.getfield 21, 3) := by decide +kernel
theorem dX5_bestCard_25 : decode cX5_bestCard 25 = .ok (.invokevirtual 143, 3) := by decide +kernel
theorem dX5_bestCard_28 : decode cX5_bestCard 28 = .ok (.ireturn, 1) := by decide +kernel
set_option maxRecDepth 20000 in
theorem ggX5_lowestEqual_X5_needCard : GoodIn wsX5_lowestEqual wsX5_needCard := goodIn_ca (goodIn_r _ [5, 6, 7] (by decide +kernel) (by decide +kernel)) (goodIn_sub (fun _ h => List.mem_cons_of_mem _ (List.mem_append_left _ (List.mem_append_right _ h))) (by decide +kernel))
set_option maxRecDepth 20000 in
theorem gX5_lowestEqual_X5_needCard : GoodIn wsX5_lowestEqual (va_wsS RX5 49 yX5_needCard wsX5_needCard) := goodIn_app (goodIn_of _ (by decide +kernel)) ggX5_lowestEqual_X5_needCard
set_option maxRecDepth 20000 in
theorem ggX5_lowestEqual_X5_needInHand : GoodIn wsX5_lowestEqual wsX5_needInHand := goodIn_ca (goodIn_r _ [11, 12, 13, 14, 15, 16, 17, 18, 19, 20, 21, 22, 23, 24, 66, 67, 68, 69, 70, 71, 72, 73, 74, 75, 76] (by decide +kernel) (by decide +kernel)) (goodIn_sub (fun _ h => List.mem_cons_of_mem _ (List.mem_append_right _ h)) (by decide +kernel))
set_option maxRecDepth 20000 in
theorem gX5_lowestEqual_X5_needInHand : GoodIn wsX5_lowestEqual (wsV RX5 146 RX5 yX5_needInHand wsX5_needInHand) := goodIn_app (goodIn_of _ (by decide +kernel)) ggX5_lowestEqual_X5_needInHand
set_option maxRecDepth 20000 in
theorem ggX5_lowestEqual_X3_lowestLike : GoodIn wsX5_lowestEqual wsX3_lowestLike := goodIn_r _ [29, 30, 31, 16, 17, 18, 19, 20, 21, 22, 23, 24, 32, 33, 34, 35, 36, 37, 38, 39, 40, 41, 42, 43, 44, 45, 46, 47, 48, 49, 50, 51, 52, 53, 54, 55, 56, 57, 58, 59, 60, 61, 62, 63, 64, 65, 77, 69, 70, 71, 72, 73, 74, 75, 76] (by decide +kernel) (by decide +kernel)
set_option maxRecDepth 20000 in
theorem gX5_lowestEqual_X3_lowestLike : GoodIn wsX5_lowestEqual (wsV RX5 149 RX3 yX3_lowestLike wsX3_lowestLike) := goodIn_app (goodIn_of _ (by decide +kernel)) ggX5_lowestEqual_X3_lowestLike
theorem dX5_lowestEqual_0 : decode cX5_lowestEqual 0 = .ok (.iload_n 1, 1) := by decide +kernel
theorem dX5_lowestEqual_1 : decode cX5_lowestEqual 1 = .ok (.invokestatic 49, 3) := by decide +kernel
theorem dX5_lowestEqual_4 : decode cX5_lowestEqual 4 = .ok (.aload_n 0, 1) := by decide +kernel
theorem dX5_lowestEqual_5 : decode cX5_lowestEqual 5 = .ok (.iload_n 1, 1) := by decide +kernel
theorem dX5_lowestEqual_6 : decode cX5_lowestEqual 6 = .ok (.invokevirtual 146, 3) := by decide +kernel
theorem dX5_lowestEqual_9 : decode cX5_lowestEqual 9 = .ok (.aload_n 0, 1) := by decide +kernel
theorem dX5_lowestEqual_10 : decode cX5_lowestEqual 10 = .ok (.getfield 28, 3) := by decide +kernel
theorem dX5_lowestEqual_13 : decode cX5_lowestEqual 13 = .ok (.iload_n 1, 1) := by decide +kernel
theorem dX5_lowestEqual_14 : decode cX5_lowestEqual 14 = .ok (.invokevirtual 149, 3) := by decide +kernel
theorem dX5_lowestEqual_17 : decode cX5_lowestEqual 17 = .ok (.ireturn, 1) := by decide +kernel
set_option maxRecDepth 20000 in
theorem ggX5_unlike_X5_needPlayer : GoodIn wsX5_unlike wsX5_needPlayer := goodIn_ca (goodIn_r _ [5, 6, 7] (by decide +kernel) (by decide +kernel)) (goodIn_sub (fun _ h => List.mem_cons_of_mem _ (List.mem_append_right _ h)) (by decide +kernel))
set_option maxRecDepth 20000 in
theorem gX5_unlike_X5_needPlayer : GoodIn wsX5_unlike (va_wsS RX5 45 yX5_needPlayer wsX5_needPlayer) := goodIn_app (goodIn_of _ (by decide +kernel)) ggX5_unlike_X5_needPlayer
set_option maxRecDepth 20000 in
theorem ggX5_unlike_X1_handOf : GoodIn wsX5_unlike wsX1_handOf := goodIn_r _ [12, 13, 67, 68, 69, 70, 71, 72, 73, 74] (by decide +kernel) (by decide +kernel)
set_option maxRecDepth 20000 in
theorem gX5_unlike_X1_handOf : GoodIn wsX5_unlike (wsV RX5 104 RX1 yX1_handOf wsX1_handOf) := goodIn_app (goodIn_of _ (by decide +kernel)) ggX5_unlike_X1_handOf
set_option maxRecDepth 20000 in
theorem ggX5_unlike_X1_out : GoodIn wsX5_unlike wsX1_out := goodIn_r _ [17, 18, 19, 20, 21, 11, 22, 13, 23, 24, 25, 26, 27, 28, 29, 30, 31, 32, 33, 34, 35, 36, 67, 68, 69, 70, 71, 72, 73, 74] (by decide +kernel) (by decide +kernel)
set_option maxRecDepth 20000 in
theorem gX5_unlike_X1_out : GoodIn wsX5_unlike (wsV RX5 152 RX1 yX1_out wsX1_out) := goodIn_app (goodIn_of _ (by decide +kernel)) ggX5_unlike_X1_out
set_option maxRecDepth 20000 in
theorem ggX5_unlike_X0_lowestOfEquals : GoodIn wsX5_unlike wsX0_lowestOfEquals := goodIn_r _ [40, 41, 42, 39, 43, 44, 45, 46, 47, 48, 49, 50, 51, 52, 53, 54, 55, 56, 57] (by decide +kernel) (by decide +kernel)
set_option maxRecDepth 20000 in
theorem gX5_unlike_X0_lowestOfEquals : GoodIn wsX5_unlike (va_wsS RX5 155 yX0_lowestOfEquals wsX0_lowestOfEquals) := goodIn_app (goodIn_of _ (by decide +kernel)) ggX5_unlike_X0_lowestOfEquals
set_option maxRecDepth 20000 in
theorem ggX5_unlike_J6_bitCount_0f7a4 : GoodIn wsX5_unlike wsJ6_bitCount_0f7a4 := goodIn_r _ [60, 61, 62, 63] (by decide +kernel) (by decide +kernel)
set_option maxRecDepth 20000 in
theorem gX5_unlike_J6_bitCount_0f7a4 : GoodIn wsX5_unlike (va_wsS RX5 158 yJ6_bitCount_0f7a4 wsJ6_bitCount_0f7a4) := goodIn_app (goodIn_of _ (by decide +kernel)) ggX5_unlike_J6_bitCount_0f7a4
theorem dX5_unlike_0 : decode cX5_unlike 0 = .ok (.iload_n 1, 1) := by decide +kernel
theorem dX5_unlike_1 : decode cX5_unlike 1 = .ok (.invokestatic 45, 3) := by decide +kernel
theorem dX5_unlike_4 : decode cX5_unlike 4 = .ok (.aload_n 0, 1) := by decide +kernel
theorem dX5_unlike_5 : decode cX5_unlike 5 = .ok (.getfield 10, 3) := by decide +kernel
theorem dX5_unlike_8 : decode cX5_unlike 8 = .ok (.iload_n 1, 1) := by decide +kernel
theorem dX5_unlike_9 : decode cX5_unlike 9 = .ok (.invokevirtual 104, 3) := by decide +kernel
theorem dX5_unlike_12 : decode cX5_unlike 12 = .ok (.aload_n 0, 1) := by decide +kernel
theorem dX5_unlike_13 : decode cX5_unlike 13 = .ok (.getfield 10, 3) := by decide +kernel
theorem dX5_unlike_16 : decode cX5_unlike 16 = .ok (.invokevirtual 152, 3) := by decide +kernel
theorem dX5_unlike_19 : decode cX5_unlike 19 = .ok (.invokestatic 155, 3) := by decide +kernel
theorem dX5_unlike_22 : decode cX5_unlike 22 = .ok (.invokestatic 158, 3) := by decide +kernel
theorem dX5_unlike_25 : decode cX5_unlike 25 = .ok (.ireturn, 1) := by decide +kernel
set_option maxRecDepth 20000 in
theorem ggX5_isTop_X5_needCard : GoodIn wsX5_isTop wsX5_needCard := goodIn_ca (goodIn_r _ [6, 7, 8] (by decide +kernel) (by decide +kernel)) (goodIn_sub (fun _ h => List.mem_cons_of_mem _ (List.mem_append_left _ (List.mem_append_right _ h))) (by decide +kernel))
set_option maxRecDepth 20000 in
theorem gX5_isTop_X5_needCard : GoodIn wsX5_isTop (va_wsS RX5 49 yX5_needCard wsX5_needCard) := goodIn_app (goodIn_of _ (by decide +kernel)) ggX5_isTop_X5_needCard
set_option maxRecDepth 20000 in
theorem ggX5_isTop_X5_needInHand : GoodIn wsX5_isTop wsX5_needInHand := goodIn_ca (goodIn_r _ [12, 13, 14, 2, 15, 16, 17, 18, 19, 20, 21, 22, 23, 24, 67, 68, 69, 70, 71, 72, 73, 74, 75, 76, 77] (by decide +kernel) (by decide +kernel)) (goodIn_sub (fun _ h => List.mem_cons_of_mem _ (List.mem_append_right _ h)) (by decide +kernel))
set_option maxRecDepth 20000 in
theorem gX5_isTop_X5_needInHand : GoodIn wsX5_isTop (wsV RX5 146 RX5 yX5_needInHand wsX5_needInHand) := goodIn_app (goodIn_of _ (by decide +kernel)) ggX5_isTop_X5_needInHand
set_option maxRecDepth 20000 in
theorem ggX5_isTop_X1_ownerOf : GoodIn wsX5_isTop wsX1_ownerOf := goodIn_r _ [19, 20, 21, 22, 23, 24, 70, 71, 72, 73, 74, 75, 76, 77] (by decide +kernel) (by decide +kernel)
set_option maxRecDepth 20000 in
theorem gX5_isTop_X1_ownerOf : GoodIn wsX5_isTop (wsV RX5 163 RX1 yX1_ownerOf wsX1_ownerOf) := goodIn_app (goodIn_of _ (by decide +kernel)) ggX5_isTop_X1_ownerOf
set_option maxRecDepth 20000 in
theorem ggX5_isTop_X3_isHighest : GoodIn wsX5_isTop wsX3_isHighest := goodIn_r _ [29, 30, 31, 32, 33, 18, 34, 20, 35, 36, 37, 38, 39, 40, 41, 42, 43, 44, 45, 46, 47, 48, 49, 50, 51, 52, 53, 54, 23, 55, 56, 57, 58, 59, 60, 61, 62, 63, 64, 65, 66, 78, 70, 71, 72, 73, 74, 75, 76, 77] (by decide +kernel) (by decide +kernel)
set_option maxRecDepth 20000 in
theorem gX5_isTop_X3_isHighest : GoodIn wsX5_isTop (wsV RX5 166 RX3 yX3_isHighest wsX3_isHighest) := goodIn_app (goodIn_of _ (by decide +kernel)) ggX5_isTop_X3_isHighest
theorem dX5_isTop_0 : decode cX5_isTop 0 = .ok (.iload_n 1, 1) := by decide +kernel
theorem dX5_isTop_1 : decode cX5_isTop 1 = .ok (.invokestatic 49, 3) := by decide +kernel
theorem dX5_isTop_4 : decode cX5_isTop 4 = .ok (.aload_n 0, 1) := by decide +kernel
theorem dX5_isTop_5 : decode cX5_isTop 5 = .ok (.iload_n 1, 1) := by decide +kernel
theorem dX5_isTop_6 : decode cX5_isTop 6 = .ok (.invokevirtual 146, 3) := by decide +kernel
theorem dX5_isTop_9 : decode cX5_isTop 9 = .ok (.aload_n 0, 1) := by decide +kernel
theorem dX5_isTop_10 : decode cX5_isTop 10 = .ok (.getfield 28, 3) := by decide +kernel
theorem dX5_isTop_13 : decode cX5_isTop 13 = .ok (.iload_n 1, 1) := by decide +kernel
theorem dX5_isTop_14 : decode cX5_isTop 14 = .ok (.aload_n 0, 1) := by decide +kernel
theorem dX5_isTop_15 : decode cX5_isTop 15 = .ok (.getfield 10, 3) := by decide +kernel
theorem dX5_isTop_18 : decode cX5_isTop 18 = .ok (.iload_n 1, 1) := by decide +kernel
theorem dX5_isTop_19 : decode cX5_isTop 19 = .ok (.invokevirtual 163, 3) := by decide +kernel
theorem dX5_isTop_22 : decode cX5_isTop 22 = .ok (.invokevirtual 166, 3) := by decide +kernel
theorem dX5_isTop_25 : decode cX5_isTop 25 = .ok (.ireturn, 1) := by decide +kernel
set_option maxRecDepth 20000 in
theorem ggX5_quick_X5_needPlayer : GoodIn wsX5_quick wsX5_needPlayer := goodIn_ca (goodIn_r _ [5, 6, 7] (by decide +kernel) (by decide +kernel)) (goodIn_sub (fun _ h => List.mem_cons_of_mem _ (List.mem_append_right _ h)) (by decide +kernel))
set_option maxRecDepth 20000 in
theorem gX5_quick_X5_needPlayer : GoodIn wsX5_quick (va_wsS RX5 45 yX5_needPlayer wsX5_needPlayer) := goodIn_app (goodIn_of _ (by decide +kernel)) ggX5_quick_X5_needPlayer
set_option maxRecDepth 20000 in
theorem ggX5_quick_X3_quickTricks : GoodIn wsX5_quick wsX3_quickTricks := goodIn_r _ [12, 13, 14, 15, 16, 17, 18, 19, 20, 21, 22, 23, 24, 25, 26, 11, 27, 28, 29, 30, 31, 32, 33, 34, 35, 36, 37, 38, 39, 40, 41, 42, 43, 44, 45, 46, 47, 48, 49, 50, 51, 52, 53, 54, 55, 56, 57, 58, 59, 63, 64, 65, 66, 67, 68, 69, 70, 71] (by decide +kernel) (by decide +kernel)
set_option maxRecDepth 20000 in
theorem gX5_quick_X3_quickTricks : GoodIn wsX5_quick (wsV RX5 169 RX3 yX3_quickTricks wsX3_quickTricks) := goodIn_app (goodIn_of _ (by decide +kernel)) ggX5_quick_X3_quickTricks
theorem dX5_quick_0 : decode cX5_quick 0 = .ok (.iload_n 1, 1) := by decide +kernel
theorem dX5_quick_1 : decode cX5_quick 1 = .ok (.invokestatic 45, 3) := by decide +kernel
theorem dX5_quick_4 : decode cX5_quick 4 = .ok (.aload_n 0, 1) := by decide +kernel
theorem dX5_quick_5 : decode cX5_quick 5 = .ok (.getfield 28, 3) := by decide +kernel
theorem dX5_quick_8 : decode cX5_quick 8 = .ok (.iload_n 1, 1) := by decide +kernel
theorem dX5_quick_9 : decode cX5_quick 9 = .ok (.invokevirtual 169, 3) := by decide +kernel
theorem dX5_quick_12 : decode cX5_quick 12 = .ok (.ireturn, 1) := by decide +kernel
set_option maxRecDepth 20000 in
theorem ggX5_fork_X5_needPlayer : GoodIn wsX5_fork wsX5_needPlayer := goodIn_ca (goodIn_r _ [7, 1, 2] (by decide +kernel) (by decide +kernel)) (goodIn_sub (fun _ h => List.mem_cons_of_mem _ (List.mem_append_right _ h)) (by decide +kernel))
set_option maxRecDepth 20000 in
theorem gX5_fork_X5_needPlayer : GoodIn wsX5_fork (va_wsS RX5 45 yX5_needPlayer wsX5_needPlayer) := goodIn_app (goodIn_of _ (by decide +kernel)) ggX5_fork_X5_needPlayer
set_option maxRecDepth 20000 in
theorem ggX5_fork_X3_forkKind : GoodIn wsX5_fork wsX3_forkKind := goodIn_r _ [12, 13, 14, 15, 16, 17, 18, 19, 20, 21, 22, 23, 24, 25, 26, 27, 28, 29, 30, 31, 32, 33, 34, 35, 36, 37, 38, 39, 40, 41, 42, 43, 44, 45, 46, 47, 51, 52, 53, 54, 55, 56, 57, 58, 59] (by decide +kernel) (by decide +kernel)
set_option maxRecDepth 20000 in
theorem gX5_fork_X3_forkKind : GoodIn wsX5_fork (wsV RX5 174 RX3 yX3_forkKind wsX3_forkKind) := goodIn_app (goodIn_of _ (by decide +kernel)) ggX5_fork_X3_forkKind
theorem dX5_fork_0 : decode cX5_fork 0 = .ok (.iload_n 1, 1) := by decide +kernel
theorem dX5_fork_1 : decode cX5_fork 1 = .ok (.invokestatic 45, 3) := by decide +kernel
theorem dX5_fork_4 : decode cX5_fork 4 = .ok (.iload_n 2, 1) := by decide +kernel
theorem dX5_fork_5 : decode cX5_fork 5 = .ok (.ifCond .lt 8, 3) := by decide +kernel
theorem dX5_fork_8 : decode cX5_fork 8 = .ok (.iload_n 2, 1) := by decide +kernel
theorem dX5_fork_9 : decode cX5_fork 9 = .ok (.iconst 4, 1) := by decide +kernel
theorem dX5_fork_10 : decode cX5_fork 10 = .ok (.if_icmp .lt 13, 3) := by decide +kernel
theorem dX5_fork_13 : decode cX5_fork 13 = .ok (.new 34, 3) := by decide +kernel
theorem dX5_fork_16 : decode cX5_fork 16 = .ok (.dup, 1) := by decide +kernel
theorem dX5_fork_17 : decode cX5_fork 17 = .ok (.ldc 172, 2) := by decide +kernel
theorem dX5_fork_19 : decode cX5_fork 19 = .ok (.invokespecial 38, 3) := by decide +kernel
theorem dX5_fork_22 : decode cX5_fork 22 = .ok (.athrow, 1) := by decide +kernel
end
section
theorem dX5_fork_23 : decode cX5_fork 23 = .ok (.aload_n 0, 1) := by decide +kernel
theorem dX5_fork_24 : decode cX5_fork 24 = .ok (.getfield 28, 3) := by decide +kernel
theorem dX5_fork_27 : decode cX5_fork 27 = .ok (.iload_n 1, 1) := by decide +kernel
theorem dX5_fork_28 : decode cX5_fork 28 = .ok (.iload_n 2, 1) := by decide +kernel
theorem dX5_fork_29 : decode cX5_fork 29 = .ok (.invokevirtual 174, 3) := by decide +kernel
theorem dX5_fork_32 : decode cX5_fork 32 = .ok (.ireturn, 1) := by decide +kernel
set_option maxRecDepth 20000 in
theorem ggX5_goodForks_X3_goodForksOf : GoodIn wsX5_goodForks wsX3_goodForksOf := goodIn_r _ [6, 7, 8, 9, 5, 10, 11, 12, 13, 14, 15, 16, 17, 18, 19, 20, 21, 22, 23, 24, 25, 26, 27, 28, 29, 30, 31, 32, 33, 34, 35, 36, 37, 38, 39, 40, 41, 42, 43, 44, 45, 49, 50, 51, 52, 53, 54, 55, 56, 57] (by decide +kernel) (by decide +kernel)
set_option maxRecDepth 20000 in
theorem gX5_goodForks_X3_goodForksOf : GoodIn wsX5_goodForks (wsV RX5 177 RX3 yX3_goodForksOf wsX3_goodForksOf) := goodIn_app (goodIn_of _ (by decide +kernel)) ggX5_goodForks_X3_goodForksOf
theorem dX5_goodForks_0 : decode cX5_goodForks 0 = .ok (.aload_n 0, 1) := by decide +kernel
theorem dX5_goodForks_1 : decode cX5_goodForks 1 = .ok (.getfield 28, 3) := by decide +kernel
theorem dX5_goodForks_4 : decode cX5_goodForks 4 = .ok (.iconst 0, 1) := by decide +kernel
theorem dX5_goodForks_5 : decode cX5_goodForks 5 = .ok (.invokevirtual 177, 3) := by decide +kernel
theorem dX5_goodForks_8 : decode cX5_goodForks 8 = .ok (.aload_n 0, 1) := by decide +kernel
theorem dX5_goodForks_9 : decode cX5_goodForks 9 = .ok (.getfield 28, 3) := by decide +kernel
theorem dX5_goodForks_12 : decode cX5_goodForks 12 = .ok (.iconst 1, 1) := by decide +kernel
theorem dX5_goodForks_13 : decode cX5_goodForks 13 = .ok (.invokevirtual 177, 3) := by decide +kernel
theorem dX5_goodForks_16 : decode cX5_goodForks 16 = .ok (.isub, 1) := by decide +kernel
theorem dX5_goodForks_17 : decode cX5_goodForks 17 = .ok (.ireturn, 1) := by decide +kernel
theorem dX5_needPlayer_0 : decode cX5_needPlayer 0 = .ok (.iload_n 0, 1) := by decide +kernel
theorem dX5_needPlayer_1 : decode cX5_needPlayer 1 = .ok (.ifCond .lt 8, 3) := by decide +kernel
theorem dX5_needPlayer_4 : decode cX5_needPlayer 4 = .ok (.iload_n 0, 1) := by decide +kernel
theorem dX5_needPlayer_5 : decode cX5_needPlayer 5 = .ok (.iconst 4, 1) := by decide +kernel
theorem dX5_needPlayer_6 : decode cX5_needPlayer 6 = .ok (.if_icmp .lt 13, 3) := by decide +kernel
theorem dX5_needPlayer_9 : decode cX5_needPlayer 9 = .ok (.new 34, 3) := by decide +kernel
theorem dX5_needPlayer_12 : decode cX5_needPlayer 12 = .ok (.dup, 1) := by decide +kernel
theorem dX5_needPlayer_13 : decode cX5_needPlayer 13 = .ok (.ldc 180, 2) := by decide +kernel
theorem dX5_needPlayer_15 : decode cX5_needPlayer 15 = .ok (.invokespecial 38, 3) := by decide +kernel
theorem dX5_needPlayer_18 : decode cX5_needPlayer 18 = .ok (.athrow, 1) := by decide +kernel
theorem dX5_needPlayer_19 : decode cX5_needPlayer 19 = .ok (.return_, 1) := by decide +kernel
theorem dX5_needCard_0 : decode cX5_needCard 0 = .ok (.iload_n 0, 1) := by decide +kernel
theorem dX5_needCard_1 : decode cX5_needCard 1 = .ok (.ifCond .lt 9, 3) := by decide +kernel
theorem dX5_needCard_4 : decode cX5_needCard 4 = .ok (.iload_n 0, 1) := by decide +kernel
theorem dX5_needCard_5 : decode cX5_needCard 5 = .ok (.bipush 24, 2) := by decide +kernel
theorem dX5_needCard_7 : decode cX5_needCard 7 = .ok (.if_icmp .lt 13, 3) := by decide +kernel
theorem dX5_needCard_10 : decode cX5_needCard 10 = .ok (.new 34, 3) := by decide +kernel
theorem dX5_needCard_13 : decode cX5_needCard 13 = .ok (.dup, 1) := by decide +kernel
theorem dX5_needCard_14 : decode cX5_needCard 14 = .ok (.ldc 182, 2) := by decide +kernel
theorem dX5_needCard_16 : decode cX5_needCard 16 = .ok (.invokespecial 38, 3) := by decide +kernel
theorem dX5_needCard_19 : decode cX5_needCard 19 = .ok (.athrow, 1) := by decide +kernel
theorem dX5_needCard_20 : decode cX5_needCard 20 = .ok (.return_, 1) := by decide +kernel
set_option maxRecDepth 20000 in
theorem ggX5_needPlayable_X1_playable : GoodIn wsX5_needPlayable wsX1_playable := goodIn_r _ [8, 9, 10, 11, 7, 12, 13, 14, 15, 16, 17, 18, 19, 20, 21, 22, 23, 24, 25, 26, 27, 28, 29, 30, 31, 32, 33, 34, 35, 36, 37, 38, 39, 40, 41, 42, 43, 44, 45, 46, 47, 48, 49, 50, 51, 52, 53, 60, 61, 62, 63, 64, 65, 66, 67] (by decide +kernel) (by decide +kernel)
set_option maxRecDepth 20000 in
theorem gX5_needPlayable_X1_playable : GoodIn wsX5_needPlayable (wsV RX5 95 RX1 yX1_playable wsX1_playable) := goodIn_app (goodIn_of _ (by decide +kernel)) ggX5_needPlayable_X1_playable
set_option maxRecDepth 20000 in
theorem ggX5_needPlayable_X0_holds : GoodIn wsX5_needPlayable wsX0_holds := goodIn_r _ [56] (by decide +kernel) (by decide +kernel)
set_option maxRecDepth 20000 in
theorem gX5_needPlayable_X0_holds : GoodIn wsX5_needPlayable (va_wsS RX5 98 yX0_holds wsX0_holds) := goodIn_app (goodIn_of _ (by decide +kernel)) ggX5_needPlayable_X0_holds
theorem dX5_needPlayable_0 : decode cX5_needPlayable 0 = .ok (.aload_n 0, 1) := by decide +kernel
theorem dX5_needPlayable_1 : decode cX5_needPlayable 1 = .ok (.getfield 10, 3) := by decide +kernel
theorem dX5_needPlayable_4 : decode cX5_needPlayable 4 = .ok (.invokevirtual 95, 3) := by decide +kernel
theorem dX5_needPlayable_7 : decode cX5_needPlayable 7 = .ok (.iload_n 1, 1) := by decide +kernel
theorem dX5_needPlayable_8 : decode cX5_needPlayable 8 = .ok (.invokestatic 98, 3) := by decide +kernel
theorem dX5_needPlayable_11 : decode cX5_needPlayable 11 = .ok (.ifCond .ne 13, 3) := by decide +kernel
theorem dX5_needPlayable_14 : decode cX5_needPlayable 14 = .ok (.new 56, 3) := by decide +kernel
theorem dX5_needPlayable_17 : decode cX5_needPlayable 17 = .ok (.dup, 1) := by decide +kernel
theorem dX5_needPlayable_18 : decode cX5_needPlayable 18 = .ok (.ldc 184, 2) := by decide +kernel
theorem dX5_needPlayable_20 : decode cX5_needPlayable 20 = .ok (.invokespecial 60, 3) := by decide +kernel
theorem dX5_needPlayable_23 : decode cX5_needPlayable 23 = .ok (.athrow, 1) := by decide +kernel
theorem dX5_needPlayable_24 : decode cX5_needPlayable 24 = .ok (.return_, 1) := by decide +kernel
set_option maxRecDepth 20000 in
theorem ggX5_needStarted_X1_isOpen : GoodIn wsX5_needStarted wsX1_isOpen := goodIn_r _ [8, 9, 13, 14, 15, 16, 17, 18, 19, 20] (by decide +kernel) (by decide +kernel)
set_option maxRecDepth 20000 in
theorem gX5_needStarted_X1_isOpen : GoodIn wsX5_needStarted (wsV RX5 77 RX1 yX1_isOpen wsX1_isOpen) := goodIn_app (goodIn_of _ (by decide +kernel)) ggX5_needStarted_X1_isOpen
theorem dX5_needStarted_0 : decode cX5_needStarted 0 = .ok (.aload_n 0, 1) := by decide +kernel
theorem dX5_needStarted_1 : decode cX5_needStarted 1 = .ok (.getfield 10, 3) := by decide +kernel
theorem dX5_needStarted_4 : decode cX5_needStarted 4 = .ok (.invokevirtual 77, 3) := by decide +kernel
theorem dX5_needStarted_7 : decode cX5_needStarted 7 = .ok (.ifCond .ne 13, 3) := by decide +kernel
theorem dX5_needStarted_10 : decode cX5_needStarted 10 = .ok (.new 56, 3) := by decide +kernel
theorem dX5_needStarted_13 : decode cX5_needStarted 13 = .ok (.dup, 1) := by decide +kernel
theorem dX5_needStarted_14 : decode cX5_needStarted 14 = .ok (.ldc 186, 2) := by decide +kernel
theorem dX5_needStarted_16 : decode cX5_needStarted 16 = .ok (.invokespecial 60, 3) := by decide +kernel
theorem dX5_needStarted_19 : decode cX5_needStarted 19 = .ok (.athrow, 1) := by decide +kernel
theorem dX5_needStarted_20 : decode cX5_needStarted 20 = .ok (.return_, 1) := by decide +kernel
set_option maxRecDepth 20000 in
theorem ggX5_needInHand_X1_ownerOf : GoodIn wsX5_needInHand wsX1_ownerOf := goodIn_r _ [8, 9, 10, 11, 12, 13, 17, 18, 19, 20, 21, 22, 23, 24] (by decide +kernel) (by decide +kernel)
set_option maxRecDepth 20000 in
theorem gX5_needInHand_X1_ownerOf : GoodIn wsX5_needInHand (wsV RX5 163 RX1 yX1_ownerOf wsX1_ownerOf) := goodIn_app (goodIn_of _ (by decide +kernel)) ggX5_needInHand_X1_ownerOf
theorem dX5_needInHand_0 : decode cX5_needInHand 0 = .ok (.aload_n 0, 1) := by decide +kernel
theorem dX5_needInHand_1 : decode cX5_needInHand 1 = .ok (.getfield 10, 3) := by decide +kernel
theorem dX5_needInHand_4 : decode cX5_needInHand 4 = .ok (.iload_n 1, 1) := by decide +kernel
theorem dX5_needInHand_5 : decode cX5_needInHand 5 = .ok (.invokevirtual 163, 3) := by decide +kernel
theorem dX5_needInHand_8 : decode cX5_needInHand 8 = .ok (.iconst (-1), 1) := by decide +kernel
theorem dX5_needInHand_9 : decode cX5_needInHand 9 = .ok (.if_icmp .ne 13, 3) := by decide +kernel
theorem dX5_needInHand_12 : decode cX5_needInHand 12 = .ok (.new 56, 3) := by decide +kernel
theorem dX5_needInHand_15 : decode cX5_needInHand 15 = .ok (.dup, 1) := by decide +kernel
theorem dX5_needInHand_16 : decode cX5_needInHand 16 = .ok (.ldc 188, 2) := by decide +kernel
theorem dX5_needInHand_18 : decode cX5_needInHand 18 = .ok (.invokespecial 60, 3) := by decide +kernel
theorem dX5_needInHand_21 : decode cX5_needInHand 21 = .ok (.athrow, 1) := by decide +kernel
theorem dX5_needInHand_22 : decode cX5_needInHand 22 = .ok (.return_, 1) := by decide +kernel
theorem dJ6_numberOfLeadingZeros_0f7a4_0 : decode cJ6_numberOfLeadingZeros_0f7a4 0 = .ok (.iload_n 0, 1) := by decide +kernel
theorem dJ6_numberOfLeadingZeros_0f7a4_1 : decode cJ6_numberOfLeadingZeros_0f7a4 1 = .ok (.ifCond .gt 14, 3) := by decide +kernel
theorem dJ6_numberOfLeadingZeros_0f7a4_4 : decode cJ6_numberOfLeadingZeros_0f7a4 4 = .ok (.iload_n 0, 1) := by decide +kernel
theorem dJ6_numberOfLeadingZeros_0f7a4_5 : decode cJ6_numberOfLeadingZeros_0f7a4 5 = .ok (.ifCond .ne 8, 3) := by decide +kernel
theorem dJ6_numberOfLeadingZeros_0f7a4_8 : decode cJ6_numberOfLeadingZeros_0f7a4 8 = .ok (.bipush 32, 2) := by decide +kernel
theorem dJ6_numberOfLeadingZeros_0f7a4_10 : decode cJ6_numberOfLeadingZeros_0f7a4 10 = .ok (.goto 4, 3) := by decide +kernel
theorem dJ6_numberOfLeadingZeros_0f7a4_13 : decode cJ6_numberOfLeadingZeros_0f7a4 13 = .ok (.iconst 0, 1) := by decide +kernel
theorem dJ6_numberOfLeadingZeros_0f7a4_14 : decode cJ6_numberOfLeadingZeros_0f7a4 14 = .ok (.ireturn, 1) := by decide +kernel
theorem dJ6_numberOfLeadingZeros_0f7a4_15 : decode cJ6_numberOfLeadingZeros_0f7a4 15 = .ok (.bipush 31, 2) := by decide +kernel
theorem dJ6_numberOfLeadingZeros_0f7a4_17 : decode cJ6_numberOfLeadingZeros_0f7a4 17 = .ok (.istore_n 1, 1) := by decide +kernel
theorem dJ6_numberOfLeadingZeros_0f7a4_18 : decode cJ6_numberOfLeadingZeros_0f7a4 18 = .ok (.iload_n 0, 1) := by decide +kernel
theorem dJ6_numberOfLeadingZeros_0f7a4_19 : decode cJ6_numberOfLeadingZeros_0f7a4 19 = .ok (.ldc_w 264, 3) := by decide +kernel
theorem dJ6_numberOfLeadingZeros_0f7a4_22 : decode cJ6_numberOfLeadingZeros_0f7a4 22 = .ok (.if_icmp .lt 11, 3) := by decide +kernel
theorem dJ6_numberOfLeadingZeros_0f7a4_25 : decode cJ6_numberOfLeadingZeros_0f7a4 25 = .ok (.iinc 1 (-16), 3) := by decide +kernel
theorem dJ6_numberOfLeadingZeros_0f7a4_28 : decode cJ6_numberOfLeadingZeros_0f7a4 28 = .ok (.iload_n 0, 1) := by decide +kernel
theorem dJ6_numberOfLeadingZeros_0f7a4_29 : decode cJ6_numberOfLeadingZeros_0f7a4 29 = .ok (.bipush 16, 2) := by decide +kernel
theorem dJ6_numberOfLeadingZeros_0f7a4_31 : decode cJ6_numberOfLeadingZeros_0f7a4 31 = .ok (.iushr, 1) := by decide +kernel
theorem dJ6_numberOfLeadingZeros_0f7a4_32 : decode cJ6_numberOfLeadingZeros_0f7a4 32 = .ok (.istore_n 0, 1) := by decide +kernel
theorem dJ6_numberOfLeadingZeros_0f7a4_33 : decode cJ6_numberOfLeadingZeros_0f7a4 33 = .ok (.iload_n 0, 1) := by decide +kernel
theorem dJ6_numberOfLeadingZeros_0f7a4_34 : decode cJ6_numberOfLeadingZeros_0f7a4 34 = .ok (.sipush 256, 3) := by decide +kernel
theorem dJ6_numberOfLeadingZeros_0f7a4_37 : decode cJ6_numberOfLeadingZeros_0f7a4 37 = .ok (.if_icmp .lt 11, 3) := by decide +kernel
theorem dJ6_numberOfLeadingZeros_0f7a4_40 : decode cJ6_numberOfLeadingZeros_0f7a4 40 = .ok (.iinc 1 (-8), 3) := by decide +kernel
theorem dJ6_numberOfLeadingZeros_0f7a4_43 : decode cJ6_numberOfLeadingZeros_0f7a4 43 = .ok (.iload_n 0, 1) := by decide +kernel
theorem dJ6_numberOfLeadingZeros_0f7a4_44 : decode cJ6_numberOfLeadingZeros_0f7a4 44 = .ok (.bipush 8, 2) := by decide +kernel
theorem dJ6_numberOfLeadingZeros_0f7a4_46 : decode cJ6_numberOfLeadingZeros_0f7a4 46 = .ok (.iushr, 1) := by decide +kernel
theorem dJ6_numberOfLeadingZeros_0f7a4_47 : decode cJ6_numberOfLeadingZeros_0f7a4 47 = .ok (.istore_n 0, 1) := by decide +kernel
theorem dJ6_numberOfLeadingZeros_0f7a4_48 : decode cJ6_numberOfLeadingZeros_0f7a4 48 = .ok (.iload_n 0, 1) := by decide +kernel
theorem dJ6_numberOfLeadingZeros_0f7a4_49 : decode cJ6_numberOfLeadingZeros_0f7a4 49 = .ok (.bipush 16, 2) := by decide +kernel
theorem dJ6_numberOfLeadingZeros_0f7a4_51 : decode cJ6_numberOfLeadingZeros_0f7a4 51 = .ok (.if_icmp .lt 10, 3) := by decide +kernel
theorem dJ6_numberOfLeadingZeros_0f7a4_54 : decode cJ6_numberOfLeadingZeros_0f7a4 54 = .ok (.iinc 1 (-4), 3) := by decide +kernel
theorem dJ6_numberOfLeadingZeros_0f7a4_57 : decode cJ6_numberOfLeadingZeros_0f7a4 57 = .ok (.iload_n 0, 1) := by decide +kernel
theorem dJ6_numberOfLeadingZeros_0f7a4_58 : decode cJ6_numberOfLeadingZeros_0f7a4 58 = .ok (.iconst 4, 1) := by decide +kernel
theorem dJ6_numberOfLeadingZeros_0f7a4_59 : decode cJ6_numberOfLeadingZeros_0f7a4 59 = .ok (.iushr, 1) := by decide +kernel
theorem dJ6_numberOfLeadingZeros_0f7a4_60 : decode cJ6_numberOfLeadingZeros_0f7a4 60 = .ok (.istore_n 0, 1) := by decide +kernel
theorem dJ6_numberOfLeadingZeros_0f7a4_61 : decode cJ6_numberOfLeadingZeros_0f7a4 61 = .ok (.iload_n 0, 1) := by decide +kernel
theorem dJ6_numberOfLeadingZeros_0f7a4_62 : decode cJ6_numberOfLeadingZeros_0f7a4 62 = .ok (.iconst 4, 1) := by decide +kernel
theorem dJ6_numberOfLeadingZeros_0f7a4_63 : decode cJ6_numberOfLeadingZeros_0f7a4 63 = .ok (.if_icmp .lt 10, 3) := by decide +kernel
theorem dJ6_numberOfLeadingZeros_0f7a4_66 : decode cJ6_numberOfLeadingZeros_0f7a4 66 = .ok (.iinc 1 (-2), 3) := by decide +kernel
theorem dJ6_numberOfLeadingZeros_0f7a4_69 : decode cJ6_numberOfLeadingZeros_0f7a4 69 = .ok (.iload_n 0, 1) := by decide +kernel
theorem dJ6_numberOfLeadingZeros_0f7a4_70 : decode cJ6_numberOfLeadingZeros_0f7a4 70 = .ok (.iconst 2, 1) := by decide +kernel
theorem dJ6_numberOfLeadingZeros_0f7a4_71 : decode cJ6_numberOfLeadingZeros_0f7a4 71 = .ok (.iushr, 1) := by decide +kernel
theorem dJ6_numberOfLeadingZeros_0f7a4_72 : decode cJ6_numberOfLeadingZeros_0f7a4 72 = .ok (.istore_n 0, 1) := by decide +kernel
theorem dJ6_numberOfLeadingZeros_0f7a4_73 : decode cJ6_numberOfLeadingZeros_0f7a4 73 = .ok (.iload_n 1, 1) := by decide +kernel
theorem dJ6_numberOfLeadingZeros_0f7a4_74 : decode cJ6_numberOfLeadingZeros_0f7a4 74 = .ok (.iload_n 0, 1) := by decide +kernel
theorem dJ6_numberOfLeadingZeros_0f7a4_75 : decode cJ6_numberOfLeadingZeros_0f7a4 75 = .ok (.iconst 1, 1) := by decide +kernel
theorem dJ6_numberOfLeadingZeros_0f7a4_76 : decode cJ6_numberOfLeadingZeros_0f7a4 76 = .ok (.iushr, 1) := by decide +kernel
theorem dJ6_numberOfLeadingZeros_0f7a4_77 : decode cJ6_numberOfLeadingZeros_0f7a4 77 = .ok (.isub, 1) := by decide +kernel
theorem dJ6_numberOfLeadingZeros_0f7a4_78 : decode cJ6_numberOfLeadingZeros_0f7a4 78 = .ok (.ireturn, 1) := by decide +kernel
theorem dJ6_numberOfTrailingZeros_0f7a4_0 : decode cJ6_numberOfTrailingZeros_0f7a4 0 = .ok (.iload_n 0, 1) := by decide +kernel
theorem dJ6_numberOfTrailingZeros_0f7a4_1 : decode cJ6_numberOfTrailingZeros_0f7a4 1 = .ok (.iconst (-1), 1) := by decide +kernel
theorem dJ6_numberOfTrailingZeros_0f7a4_2 : decode cJ6_numberOfTrailingZeros_0f7a4 2 = .ok (.ixor, 1) := by decide +kernel
theorem dJ6_numberOfTrailingZeros_0f7a4_3 : decode cJ6_numberOfTrailingZeros_0f7a4 3 = .ok (.iload_n 0, 1) := by decide +kernel
theorem dJ6_numberOfTrailingZeros_0f7a4_4 : decode cJ6_numberOfTrailingZeros_0f7a4 4 = .ok (.iconst 1, 1) := by decide +kernel
theorem dJ6_numberOfTrailingZeros_0f7a4_5 : decode cJ6_numberOfTrailingZeros_0f7a4 5 = .ok (.isub, 1) := by decide +kernel
theorem dJ6_numberOfTrailingZeros_0f7a4_6 : decode cJ6_numberOfTrailingZeros_0f7a4 6 = .ok (.iand, 1) := by decide +kernel
theorem dJ6_numberOfTrailingZeros_0f7a4_7 : decode cJ6_numberOfTrailingZeros_0f7a4 7 = .ok (.istore_n 0, 1) := by decide +kernel
theorem dJ6_numberOfTrailingZeros_0f7a4_8 : decode cJ6_numberOfTrailingZeros_0f7a4 8 = .ok (.iload_n 0, 1) := by decide +kernel
theorem dJ6_numberOfTrailingZeros_0f7a4_9 : decode cJ6_numberOfTrailingZeros_0f7a4 9 = .ok (.ifCond .gt 8, 3) := by decide +kernel
theorem dJ6_numberOfTrailingZeros_0f7a4_12 : decode cJ6_numberOfTrailingZeros_0f7a4 12 = .ok (.iload_n 0, 1) := by decide +kernel
theorem dJ6_numberOfTrailingZeros_0f7a4_13 : decode cJ6_numberOfTrailingZeros_0f7a4 13 = .ok (.bipush 32, 2) := by decide +kernel
theorem dJ6_numberOfTrailingZeros_0f7a4_15 : decode cJ6_numberOfTrailingZeros_0f7a4 15 = .ok (.iand, 1) := by decide +kernel
theorem dJ6_numberOfTrailingZeros_0f7a4_16 : decode cJ6_numberOfTrailingZeros_0f7a4 16 = .ok (.ireturn, 1) := by decide +kernel
theorem dJ6_numberOfTrailingZeros_0f7a4_17 : decode cJ6_numberOfTrailingZeros_0f7a4 17 = .ok (.iconst 1, 1) := by decide +kernel
theorem dJ6_numberOfTrailingZeros_0f7a4_18 : decode cJ6_numberOfTrailingZeros_0f7a4 18 = .ok (.istore_n 1, 1) := by decide +kernel
theorem dJ6_numberOfTrailingZeros_0f7a4_19 : decode cJ6_numberOfTrailingZeros_0f7a4 19 = .ok (.iload_n 0, 1) := by decide +kernel
theorem dJ6_numberOfTrailingZeros_0f7a4_20 : decode cJ6_numberOfTrailingZeros_0f7a4 20 = .ok (.ldc_w 264, 3) := by decide +kernel
theorem dJ6_numberOfTrailingZeros_0f7a4_23 : decode cJ6_numberOfTrailingZeros_0f7a4 23 = .ok (.if_icmp .le 11, 3) := by decide +kernel
theorem dJ6_numberOfTrailingZeros_0f7a4_26 : decode cJ6_numberOfTrailingZeros_0f7a4 26 = .ok (.iinc 1 16, 3) := by decide +kernel
theorem dJ6_numberOfTrailingZeros_0f7a4_29 : decode cJ6_numberOfTrailingZeros_0f7a4 29 = .ok (.iload_n 0, 1) := by decide +kernel
theorem dJ6_numberOfTrailingZeros_0f7a4_30 : decode cJ6_numberOfTrailingZeros_0f7a4 30 = .ok (.bipush 16, 2) := by decide +kernel
theorem dJ6_numberOfTrailingZeros_0f7a4_32 : decode cJ6_numberOfTrailingZeros_0f7a4 32 = .ok (.iushr, 1) := by decide +kernel
theorem dJ6_numberOfTrailingZeros_0f7a4_33 : decode cJ6_numberOfTrailingZeros_0f7a4 33 = .ok (.istore_n 0, 1) := by decide +kernel
theorem dJ6_numberOfTrailingZeros_0f7a4_34 : decode cJ6_numberOfTrailingZeros_0f7a4 34 = .ok (.iload_n 0, 1) := by decide +kernel
theorem dJ6_numberOfTrailingZeros_0f7a4_35 : decode cJ6_numberOfTrailingZeros_0f7a4 35 = .ok (.sipush 256, 3) := by decide +kernel
theorem dJ6_numberOfTrailingZeros_0f7a4_38 : decode cJ6_numberOfTrailingZeros_0f7a4 38 = .ok (.if_icmp .le 11, 3) := by decide +kernel
theorem dJ6_numberOfTrailingZeros_0f7a4_41 : decode cJ6_numberOfTrailingZeros_0f7a4 41 = .ok (.iinc 1 8, 3) := by decide +kernel
theorem dJ6_numberOfTrailingZeros_0f7a4_44 : decode cJ6_numberOfTrailingZeros_0f7a4 44 = .ok (.iload_n 0, 1) := by decide +kernel
theorem dJ6_numberOfTrailingZeros_0f7a4_45 : decode cJ6_numberOfTrailingZeros_0f7a4 45 = .ok (.bipush 8, 2) := by decide +kernel
theorem dJ6_numberOfTrailingZeros_0f7a4_47 : decode cJ6_numberOfTrailingZeros_0f7a4 47 = .ok (.iushr, 1) := by decide +kernel
theorem dJ6_numberOfTrailingZeros_0f7a4_48 : decode cJ6_numberOfTrailingZeros_0f7a4 48 = .ok (.istore_n 0, 1) := by decide +kernel
theorem dJ6_numberOfTrailingZeros_0f7a4_49 : decode cJ6_numberOfTrailingZeros_0f7a4 49 = .ok (.iload_n 0, 1) := by decide +kernel
theorem dJ6_numberOfTrailingZeros_0f7a4_50 : decode cJ6_numberOfTrailingZeros_0f7a4 50 = .ok (.bipush 16, 2) := by decide +kernel
theorem dJ6_numberOfTrailingZeros_0f7a4_52 : decode cJ6_numberOfTrailingZeros_0f7a4 52 = .ok (.if_icmp .le 10, 3) := by decide +kernel
theorem dJ6_numberOfTrailingZeros_0f7a4_55 : decode cJ6_numberOfTrailingZeros_0f7a4 55 = .ok (.iinc 1 4, 3) := by decide +kernel
theorem dJ6_numberOfTrailingZeros_0f7a4_58 : decode cJ6_numberOfTrailingZeros_0f7a4 58 = .ok (.iload_n 0, 1) := by decide +kernel
theorem dJ6_numberOfTrailingZeros_0f7a4_59 : decode cJ6_numberOfTrailingZeros_0f7a4 59 = .ok (.iconst 4, 1) := by decide +kernel
theorem dJ6_numberOfTrailingZeros_0f7a4_60 : decode cJ6_numberOfTrailingZeros_0f7a4 60 = .ok (.iushr, 1) := by decide +kernel
theorem dJ6_numberOfTrailingZeros_0f7a4_61 : decode cJ6_numberOfTrailingZeros_0f7a4 61 = .ok (.istore_n 0, 1) := by decide +kernel
theorem dJ6_numberOfTrailingZeros_0f7a4_62 : decode cJ6_numberOfTrailingZeros_0f7a4 62 = .ok (.iload_n 0, 1) := by decide +kernel
theorem dJ6_numberOfTrailingZeros_0f7a4_63 : decode cJ6_numberOfTrailingZeros_0f7a4 63 = .ok (.iconst 4, 1) := by decide +kernel
theorem dJ6_numberOfTrailingZeros_0f7a4_64 : decode cJ6_numberOfTrailingZeros_0f7a4 64 = .ok (.if_icmp .le 10, 3) := by decide +kernel
theorem dJ6_numberOfTrailingZeros_0f7a4_67 : decode cJ6_numberOfTrailingZeros_0f7a4 67 = .ok (.iinc 1 2, 3) := by decide +kernel
theorem dJ6_numberOfTrailingZeros_0f7a4_70 : decode cJ6_numberOfTrailingZeros_0f7a4 70 = .ok (.iload_n 0, 1) := by decide +kernel
theorem dJ6_numberOfTrailingZeros_0f7a4_71 : decode cJ6_numberOfTrailingZeros_0f7a4 71 = .ok (.iconst 2, 1) := by decide +kernel
theorem dJ6_numberOfTrailingZeros_0f7a4_72 : decode cJ6_numberOfTrailingZeros_0f7a4 72 = .ok (.iushr, 1) := by decide +kernel
theorem dJ6_numberOfTrailingZeros_0f7a4_73 : decode cJ6_numberOfTrailingZeros_0f7a4 73 = .ok (.istore_n 0, 1) := by decide +kernel
theorem dJ6_numberOfTrailingZeros_0f7a4_74 : decode cJ6_numberOfTrailingZeros_0f7a4 74 = .ok (.iload_n 1, 1) := by decide +kernel
theorem dJ6_numberOfTrailingZeros_0f7a4_75 : decode cJ6_numberOfTrailingZeros_0f7a4 75 = .ok (.iload_n 0, 1) := by decide +kernel
theorem dJ6_numberOfTrailingZeros_0f7a4_76 : decode cJ6_numberOfTrailingZeros_0f7a4 76 = .ok (.iconst 1, 1) := by decide +kernel
theorem dJ6_numberOfTrailingZeros_0f7a4_77 : decode cJ6_numberOfTrailingZeros_0f7a4 77 = .ok (.iushr, 1) := by decide +kernel
theorem dJ6_numberOfTrailingZeros_0f7a4_78 : decode cJ6_numberOfTrailingZeros_0f7a4 78 = .ok (.iadd, 1) := by decide +kernel
theorem dJ6_numberOfTrailingZeros_0f7a4_79 : decode cJ6_numberOfTrailingZeros_0f7a4 79 = .ok (.ireturn, 1) := by decide +kernel
theorem dJ6_bitCount_0f7a4_0 : decode cJ6_bitCount_0f7a4 0 = .ok (.iload_n 0, 1) := by decide +kernel
theorem dJ6_bitCount_0f7a4_1 : decode cJ6_bitCount_0f7a4 1 = .ok (.iload_n 0, 1) := by decide +kernel
theorem dJ6_bitCount_0f7a4_2 : decode cJ6_bitCount_0f7a4 2 = .ok (.iconst 1, 1) := by decide +kernel
theorem dJ6_bitCount_0f7a4_3 : decode cJ6_bitCount_0f7a4 3 = .ok (.iushr, 1) := by decide +kernel
theorem dJ6_bitCount_0f7a4_4 : decode cJ6_bitCount_0f7a4 4 = .ok (.ldc_w 265, 3) := by decide +kernel
theorem dJ6_bitCount_0f7a4_7 : decode cJ6_bitCount_0f7a4 7 = .ok (.iand, 1) := by decide +kernel
theorem dJ6_bitCount_0f7a4_8 : decode cJ6_bitCount_0f7a4 8 = .ok (.isub, 1) := by decide +kernel
theorem dJ6_bitCount_0f7a4_9 : decode cJ6_bitCount_0f7a4 9 = .ok (.istore_n 0, 1) := by decide +kernel
theorem dJ6_bitCount_0f7a4_10 : decode cJ6_bitCount_0f7a4 10 = .ok (.iload_n 0, 1) := by decide +kernel
theorem dJ6_bitCount_0f7a4_11 : decode cJ6_bitCount_0f7a4 11 = .ok (.ldc_w 266, 3) := by decide +kernel
theorem dJ6_bitCount_0f7a4_14 : decode cJ6_bitCount_0f7a4 14 = .ok (.iand, 1) := by decide +kernel
theorem dJ6_bitCount_0f7a4_15 : decode cJ6_bitCount_0f7a4 15 = .ok (.iload_n 0, 1) := by decide +kernel
theorem dJ6_bitCount_0f7a4_16 : decode cJ6_bitCount_0f7a4 16 = .ok (.iconst 2, 1) := by decide +kernel
theorem dJ6_bitCount_0f7a4_17 : decode cJ6_bitCount_0f7a4 17 = .ok (.iushr, 1) := by decide +kernel
theorem dJ6_bitCount_0f7a4_18 : decode cJ6_bitCount_0f7a4 18 = .ok (.ldc_w 266, 3) := by decide +kernel
theorem dJ6_bitCount_0f7a4_21 : decode cJ6_bitCount_0f7a4 21 = .ok (.iand, 1) := by decide +kernel
theorem dJ6_bitCount_0f7a4_22 : decode cJ6_bitCount_0f7a4 22 = .ok (.iadd, 1) := by decide +kernel
theorem dJ6_bitCount_0f7a4_23 : decode cJ6_bitCount_0f7a4 23 = .ok (.istore_n 0, 1) := by decide +kernel
theorem dJ6_bitCount_0f7a4_24 : decode cJ6_bitCount_0f7a4 24 = .ok (.iload_n 0, 1) := by decide +kernel
theorem dJ6_bitCount_0f7a4_25 : decode cJ6_bitCount_0f7a4 25 = .ok (.iload_n 0, 1) := by decide +kernel
theorem dJ6_bitCount_0f7a4_26 : decode cJ6_bitCount_0f7a4 26 = .ok (.iconst 4, 1) := by decide +kernel
theorem dJ6_bitCount_0f7a4_27 : decode cJ6_bitCount_0f7a4 27 = .ok (.iushr, 1) := by decide +kernel
theorem dJ6_bitCount_0f7a4_28 : decode cJ6_bitCount_0f7a4 28 = .ok (.iadd, 1) := by decide +kernel
theorem dJ6_bitCount_0f7a4_29 : decode cJ6_bitCount_0f7a4 29 = .ok (.ldc_w 267, 3) := by decide +kernel
theorem dJ6_bitCount_0f7a4_32 : decode cJ6_bitCount_0f7a4 32 = .ok (.iand, 1) := by decide +kernel
theorem dJ6_bitCount_0f7a4_33 : decode cJ6_bitCount_0f7a4 33 = .ok (.istore_n 0, 1) := by decide +kernel
theorem dJ6_bitCount_0f7a4_34 : decode cJ6_bitCount_0f7a4 34 = .ok (.iload_n 0, 1) := by decide +kernel
theorem dJ6_bitCount_0f7a4_35 : decode cJ6_bitCount_0f7a4 35 = .ok (.iload_n 0, 1) := by decide +kernel
theorem dJ6_bitCount_0f7a4_36 : decode cJ6_bitCount_0f7a4 36 = .ok (.bipush 8, 2) := by decide +kernel
theorem dJ6_bitCount_0f7a4_38 : decode cJ6_bitCount_0f7a4 38 = .ok (.iushr, 1) := by decide +kernel
theorem dJ6_bitCount_0f7a4_39 : decode cJ6_bitCount_0f7a4 39 = .ok (.iadd, 1) := by decide +kernel
theorem dJ6_bitCount_0f7a4_40 : decode cJ6_bitCount_0f7a4 40 = .ok (.istore_n 0, 1) := by decide +kernel
theorem dJ6_bitCount_0f7a4_41 : decode cJ6_bitCount_0f7a4 41 = .ok (.iload_n 0, 1) := by decide +kernel
theorem dJ6_bitCount_0f7a4_42 : decode cJ6_bitCount_0f7a4 42 = .ok (.iload_n 0, 1) := by decide +kernel
theorem dJ6_bitCount_0f7a4_43 : decode cJ6_bitCount_0f7a4 43 = .ok (.bipush 16, 2) := by decide +kernel
theorem dJ6_bitCount_0f7a4_45 : decode cJ6_bitCount_0f7a4 45 = .ok (.iushr, 1) := by decide +kernel
theorem dJ6_bitCount_0f7a4_46 : decode cJ6_bitCount_0f7a4 46 = .ok (.iadd, 1) := by decide +kernel
theorem dJ6_bitCount_0f7a4_47 : decode cJ6_bitCount_0f7a4 47 = .ok (.istore_n 0, 1) := by decide +kernel
theorem dJ6_bitCount_0f7a4_48 : decode cJ6_bitCount_0f7a4 48 = .ok (.iload_n 0, 1) := by decide +kernel
theorem dJ6_bitCount_0f7a4_49 : decode cJ6_bitCount_0f7a4 49 = .ok (.bipush 63, 2) := by decide +kernel
theorem dJ6_bitCount_0f7a4_51 : decode cJ6_bitCount_0f7a4 51 = .ok (.iand, 1) := by decide +kernel
theorem dJ6_bitCount_0f7a4_52 : decode cJ6_bitCount_0f7a4 52 = .ok (.ireturn, 1) := by decide +kernel
theorem dJ9_max_7cf53_0 : decode cJ9_max_7cf53 0 = .ok (.iload_n 0, 1) := by decide +kernel
theorem dJ9_max_7cf53_1 : decode cJ9_max_7cf53 1 = .ok (.iload_n 1, 1) := by decide +kernel
theorem dJ9_max_7cf53_2 : decode cJ9_max_7cf53 2 = .ok (.if_icmp .lt 7, 3) := by decide +kernel
theorem dJ9_max_7cf53_5 : decode cJ9_max_7cf53 5 = .ok (.iload_n 0, 1) := by decide +kernel
theorem dJ9_max_7cf53_6 : decode cJ9_max_7cf53 6 = .ok (.goto 4, 3) := by decide +kernel
theorem dJ9_max_7cf53_9 : decode cJ9_max_7cf53 9 = .ok (.iload_n 1, 1) := by decide +kernel
theorem dJ9_max_7cf53_10 : decode cJ9_max_7cf53 10 = .ok (.ireturn, 1) := by decide +kernel
theorem dJ9_min_7cf53_0 : decode cJ9_min_7cf53 0 = .ok (.iload_n 0, 1) := by decide +kernel
theorem dJ9_min_7cf53_1 : decode cJ9_min_7cf53 1 = .ok (.iload_n 1, 1) := by decide +kernel
theorem dJ9_min_7cf53_2 : decode cJ9_min_7cf53 2 = .ok (.if_icmp .gt 7, 3) := by decide +kernel
theorem dJ9_min_7cf53_5 : decode cJ9_min_7cf53 5 = .ok (.iload_n 0, 1) := by decide +kernel
theorem dJ9_min_7cf53_6 : decode cJ9_min_7cf53 6 = .ok (.goto 4, 3) := by decide +kernel
theorem dJ9_min_7cf53_9 : decode cJ9_min_7cf53 9 = .ok (.iload_n 1, 1) := by decide +kernel
theorem dJ9_min_7cf53_10 : decode cJ9_min_7cf53 10 = .ok (.ireturn, 1) := by decide +kernel
theorem dL_has_0 : decode cL_has 0 = .ok (.iload_n 0, 1) := by decide +kernel
theorem dL_has_1 : decode cL_has 1 = .ok (.iload_n 1, 1) := by decide +kernel
theorem dL_has_2 : decode cL_has 2 = .ok (.ishr, 1) := by decide +kernel
theorem dL_has_3 : decode cL_has 3 = .ok (.iconst 1, 1) := by decide +kernel
theorem dL_has_4 : decode cL_has 4 = .ok (.iand, 1) := by decide +kernel
theorem dL_has_5 : decode cL_has 5 = .ok (.iconst 1, 1) := by decide +kernel
theorem dL_has_6 : decode cL_has 6 = .ok (.if_icmp .ne 7, 3) := by decide +kernel
theorem dL_has_9 : decode cL_has 9 = .ok (.iconst 1, 1) := by decide +kernel
theorem dL_has_10 : decode cL_has 10 = .ok (.goto 4, 3) := by decide +kernel
theorem dL_has_13 : decode cL_has 13 = .ok (.iconst 0, 1) := by decide +kernel
theorem dL_has_14 : decode cL_has 14 = .ok (.ireturn, 1) := by decide +kernel
theorem dL_size_0 : decode cL_size 0 = .ok (.iconst 0, 1) := by decide +kernel
theorem dL_size_1 : decode cL_size 1 = .ok (.istore_n 1, 1) := by decide +kernel
theorem dL_size_2 : decode cL_size 2 = .ok (.iload_n 0, 1) := by decide +kernel
theorem dL_size_3 : decode cL_size 3 = .ok (.istore_n 2, 1) := by decide +kernel
theorem dL_size_4 : decode cL_size 4 = .ok (.iload_n 2, 1) := by decide +kernel
theorem dL_size_5 : decode cL_size 5 = .ok (.ifCond .eq 15, 3) := by decide +kernel
theorem dL_size_8 : decode cL_size 8 = .ok (.iinc 1 1, 3) := by decide +kernel
theorem dL_size_11 : decode cL_size 11 = .ok (.iload_n 2, 1) := by decide +kernel
theorem dL_size_12 : decode cL_size 12 = .ok (.iload_n 2, 1) := by decide +kernel
theorem dL_size_13 : decode cL_size 13 = .ok (.iconst 1, 1) := by decide +kernel
theorem dL_size_14 : decode cL_size 14 = .ok (.isub, 1) := by decide +kernel
theorem dL_size_15 : decode cL_size 15 = .ok (.iand, 1) := by decide +kernel
theorem dL_size_16 : decode cL_size 16 = .ok (.istore_n 2, 1) := by decide +kernel
theorem dL_size_17 : decode cL_size 17 = .ok (.goto (-13), 3) := by decide +kernel
theorem dL_size_20 : decode cL_size 20 = .ok (.iload_n 1, 1) := by decide +kernel
theorem dL_size_21 : decode cL_size 21 = .ok (.ireturn, 1) := by decide +kernel
theorem dL_leader_0 : decode cL_leader 0 = .ok (.aload_n 1, 1) := by decide +kernel
theorem dL_leader_1 : decode cL_leader 1 = .ok (.iconst 2, 1) := by decide +kernel
theorem dL_leader_2 : decode cL_leader 2 = .ok (.iaload, 1) := by decide +kernel
theorem dL_leader_3 : decode cL_leader 3 = .ok (.istore_n 3, 1) := by decide +kernel
theorem dL_leader_4 : decode cL_leader 4 = .ok (.iconst 0, 1) := by decide +kernel
theorem dL_leader_5 : decode cL_leader 5 = .ok (.istore 4, 2) := by decide +kernel
theorem dL_leader_7 : decode cL_leader 7 = .ok (.iload 4, 2) := by decide +kernel
theorem dL_leader_9 : decode cL_leader 9 = .ok (.iconst 4, 1) := by decide +kernel
theorem dL_leader_10 : decode cL_leader 10 = .ok (.iadd, 1) := by decide +kernel
theorem dL_leader_11 : decode cL_leader 11 = .ok (.iload_n 2, 1) := by decide +kernel
theorem dL_leader_12 : decode cL_leader 12 = .ok (.if_icmp .gt 118, 3) := by decide +kernel
theorem dL_leader_15 : decode cL_leader 15 = .ok (.iload 4, 2) := by decide +kernel
theorem dL_leader_17 : decode cL_leader 17 = .ok (.istore 5, 2) := by decide +kernel
theorem dL_leader_19 : decode cL_leader 19 = .ok (.iload 4, 2) := by decide +kernel
theorem dL_leader_21 : decode cL_leader 21 = .ok (.iconst 1, 1) := by decide +kernel
theorem dL_leader_22 : decode cL_leader 22 = .ok (.iadd, 1) := by decide +kernel
theorem dL_leader_23 : decode cL_leader 23 = .ok (.istore 6, 2) := by decide +kernel
theorem dL_leader_25 : decode cL_leader 25 = .ok (.iload 6, 2) := by decide +kernel
theorem dL_leader_27 : decode cL_leader 27 = .ok (.iload 4, 2) := by decide +kernel
theorem dL_leader_29 : decode cL_leader 29 = .ok (.iconst 4, 1) := by decide +kernel
theorem dL_leader_30 : decode cL_leader 30 = .ok (.iadd, 1) := by decide +kernel
theorem dL_leader_31 : decode cL_leader 31 = .ok (.if_icmp .ge 83, 3) := by decide +kernel
theorem dL_leader_34 : decode cL_leader 34 = .ok (.aload_n 0, 1) := by decide +kernel
theorem dL_leader_35 : decode cL_leader 35 = .ok (.iload 6, 2) := by decide +kernel
theorem dL_leader_37 : decode cL_leader 37 = .ok (.iaload, 1) := by decide +kernel
theorem dL_leader_38 : decode cL_leader 38 = .ok (.bipush 6, 2) := by decide +kernel
theorem dL_leader_40 : decode cL_leader 40 = .ok (.idiv, 1) := by decide +kernel
theorem dL_leader_41 : decode cL_leader 41 = .ok (.aload_n 1, 1) := by decide +kernel
theorem dL_leader_42 : decode cL_leader 42 = .ok (.iconst 1, 1) := by decide +kernel
theorem dL_leader_43 : decode cL_leader 43 = .ok (.iaload, 1) := by decide +kernel
theorem dL_leader_44 : decode cL_leader 44 = .ok (.if_icmp .ne 7, 3) := by decide +kernel
theorem dL_leader_47 : decode cL_leader 47 = .ok (.iconst 1, 1) := by decide +kernel
theorem dL_leader_48 : decode cL_leader 48 = .ok (.goto 4, 3) := by decide +kernel
theorem dL_leader_51 : decode cL_leader 51 = .ok (.iconst 0, 1) := by decide +kernel
theorem dL_leader_52 : decode cL_leader 52 = .ok (.istore 7, 2) := by decide +kernel
theorem dL_leader_54 : decode cL_leader 54 = .ok (.aload_n 0, 1) := by decide +kernel
theorem dL_leader_55 : decode cL_leader 55 = .ok (.iload 6, 2) := by decide +kernel
theorem dL_leader_57 : decode cL_leader 57 = .ok (.iaload, 1) := by decide +kernel
theorem dL_leader_58 : decode cL_leader 58 = .ok (.bipush 6, 2) := by decide +kernel
theorem dL_leader_60 : decode cL_leader 60 = .ok (.idiv, 1) := by decide +kernel
theorem dL_leader_61 : decode cL_leader 61 = .ok (.aload_n 0, 1) := by decide +kernel
theorem dL_leader_62 : decode cL_leader 62 = .ok (.iload 5, 2) := by decide +kernel
theorem dL_leader_64 : decode cL_leader 64 = .ok (.iaload, 1) := by decide +kernel
theorem dL_leader_65 : decode cL_leader 65 = .ok (.bipush 6, 2) := by decide +kernel
theorem dL_leader_67 : decode cL_leader 67 = .ok (.idiv, 1) := by decide +kernel
theorem dL_leader_68 : decode cL_leader 68 = .ok (.if_icmp .ne 22, 3) := by decide +kernel
theorem dL_leader_71 : decode cL_leader 71 = .ok (.aload_n 0, 1) := by decide +kernel
theorem dL_leader_72 : decode cL_leader 72 = .ok (.iload 6, 2) := by decide +kernel
theorem dL_leader_74 : decode cL_leader 74 = .ok (.iaload, 1) := by decide +kernel
theorem dL_leader_75 : decode cL_leader 75 = .ok (.aload_n 0, 1) := by decide +kernel
theorem dL_leader_76 : decode cL_leader 76 = .ok (.iload 5, 2) := by decide +kernel
theorem dL_leader_78 : decode cL_leader 78 = .ok (.iaload, 1) := by decide +kernel
theorem dL_leader_79 : decode cL_leader 79 = .ok (.if_icmp .le 7, 3) := by decide +kernel
theorem dL_leader_82 : decode cL_leader 82 = .ok (.iconst 1, 1) := by decide +kernel
theorem dL_leader_83 : decode cL_leader 83 = .ok (.goto 9, 3) := by decide +kernel
theorem dL_leader_86 : decode cL_leader 86 = .ok (.iconst 0, 1) := by decide +kernel
theorem dL_leader_87 : decode cL_leader 87 = .ok (.goto 5, 3) := by decide +kernel
theorem dL_leader_90 : decode cL_leader 90 = .ok (.iload 7, 2) := by decide +kernel
theorem dL_leader_92 : decode cL_leader 92 = .ok (.istore 8, 2) := by decide +kernel
theorem dL_leader_94 : decode cL_leader 94 = .ok (.iload 8, 2) := by decide +kernel
theorem dL_leader_96 : decode cL_leader 96 = .ok (.ifCond .eq 8, 3) := by decide +kernel
theorem dL_leader_99 : decode cL_leader 99 = .ok (.iload 6, 2) := by decide +kernel
theorem dL_leader_101 : decode cL_leader 101 = .ok (.goto 5, 3) := by decide +kernel
theorem dL_leader_104 : decode cL_leader 104 = .ok (.iload 5, 2) := by decide +kernel
theorem dL_leader_106 : decode cL_leader 106 = .ok (.istore 5, 2) := by decide +kernel
theorem dL_leader_108 : decode cL_leader 108 = .ok (.iinc 6 1, 3) := by decide +kernel
theorem dL_leader_111 : decode cL_leader 111 = .ok (.goto (-86), 3) := by decide +kernel
theorem dL_leader_114 : decode cL_leader 114 = .ok (.iload_n 3, 1) := by decide +kernel
theorem dL_leader_115 : decode cL_leader 115 = .ok (.iload 5, 2) := by decide +kernel
theorem dL_leader_117 : decode cL_leader 117 = .ok (.iadd, 1) := by decide +kernel
theorem dL_leader_118 : decode cL_leader 118 = .ok (.iload 4, 2) := by decide +kernel
theorem dL_leader_120 : decode cL_leader 120 = .ok (.isub, 1) := by decide +kernel
theorem dL_leader_121 : decode cL_leader 121 = .ok (.iconst 4, 1) := by decide +kernel
theorem dL_leader_122 : decode cL_leader 122 = .ok (.irem, 1) := by decide +kernel
theorem dL_leader_123 : decode cL_leader 123 = .ok (.istore_n 3, 1) := by decide +kernel
theorem dL_leader_124 : decode cL_leader 124 = .ok (.iinc 4 4, 3) := by decide +kernel
theorem dL_leader_127 : decode cL_leader 127 = .ok (.goto (-120), 3) := by decide +kernel
theorem dL_leader_130 : decode cL_leader 130 = .ok (.iload_n 3, 1) := by decide +kernel
theorem dL_leader_131 : decode cL_leader 131 = .ok (.ireturn, 1) := by decide +kernel
set_option maxRecDepth 20000 in
theorem ggL_tricks_L_leader : GoodIn wsL_tricks wsL_leader := goodIn_r _ [4] (by decide +kernel) (by decide +kernel)
set_option maxRecDepth 20000 in
theorem gL_tricks_L_leader : GoodIn wsL_tricks (va_wsS RL 7 yL_leader wsL_leader) := goodIn_app (goodIn_of _ (by decide +kernel)) ggL_tricks_L_leader
theorem dL_tricks_0 : decode cL_tricks 0 = .ok (.iconst 0, 1) := by decide +kernel
theorem dL_tricks_1 : decode cL_tricks 1 = .ok (.istore 4, 2) := by decide +kernel
theorem dL_tricks_3 : decode cL_tricks 3 = .ok (.iconst 4, 1) := by decide +kernel
theorem dL_tricks_4 : decode cL_tricks 4 = .ok (.istore 5, 2) := by decide +kernel
theorem dL_tricks_6 : decode cL_tricks 6 = .ok (.iload 5, 2) := by decide +kernel
theorem dL_tricks_8 : decode cL_tricks 8 = .ok (.iload_n 2, 1) := by decide +kernel
theorem dL_tricks_9 : decode cL_tricks 9 = .ok (.if_icmp .gt 32, 3) := by decide +kernel
theorem dL_tricks_12 : decode cL_tricks 12 = .ok (.iload 4, 2) := by decide +kernel
theorem dL_tricks_14 : decode cL_tricks 14 = .ok (.aload_n 0, 1) := by decide +kernel
theorem dL_tricks_15 : decode cL_tricks 15 = .ok (.aload_n 1, 1) := by decide +kernel
theorem dL_tricks_16 : decode cL_tricks 16 = .ok (.iload 5, 2) := by decide +kernel
theorem dL_tricks_18 : decode cL_tricks 18 = .ok (.invokestatic 7, 3) := by decide +kernel
theorem dL_tricks_21 : decode cL_tricks 21 = .ok (.iconst 2, 1) := by decide +kernel
theorem dL_tricks_22 : decode cL_tricks 22 = .ok (.irem, 1) := by decide +kernel
theorem dL_tricks_23 : decode cL_tricks 23 = .ok (.iload_n 3, 1) := by decide +kernel
theorem dL_tricks_24 : decode cL_tricks 24 = .ok (.if_icmp .ne 7, 3) := by decide +kernel
theorem dL_tricks_27 : decode cL_tricks 27 = .ok (.iconst 1, 1) := by decide +kernel
theorem dL_tricks_28 : decode cL_tricks 28 = .ok (.goto 4, 3) := by decide +kernel
theorem dL_tricks_31 : decode cL_tricks 31 = .ok (.iconst 0, 1) := by decide +kernel
theorem dL_tricks_32 : decode cL_tricks 32 = .ok (.iadd, 1) := by decide +kernel
theorem dL_tricks_33 : decode cL_tricks 33 = .ok (.istore 4, 2) := by decide +kernel
theorem dL_tricks_35 : decode cL_tricks 35 = .ok (.iinc 5 4, 3) := by decide +kernel
theorem dL_tricks_38 : decode cL_tricks 38 = .ok (.goto (-32), 3) := by decide +kernel
theorem dL_tricks_41 : decode cL_tricks 41 = .ok (.iload 4, 2) := by decide +kernel
theorem dL_tricks_43 : decode cL_tricks 43 = .ok (.ireturn, 1) := by decide +kernel
set_option maxRecDepth 20000 in
theorem ggL_can_L_leader : GoodIn wsL_can wsL_leader := goodIn_r _ [4] (by decide +kernel) (by decide +kernel)
set_option maxRecDepth 20000 in
theorem gL_can_L_leader : GoodIn wsL_can (va_wsS RL 7 yL_leader wsL_leader) := goodIn_app (goodIn_of _ (by decide +kernel)) ggL_can_L_leader
set_option maxRecDepth 20000 in
theorem ggL_can_L_has : GoodIn wsL_can wsL_has := goodIn_r _ [7] (by decide +kernel) (by decide +kernel)
set_option maxRecDepth 20000 in
theorem gL_can_L_has : GoodIn wsL_can (va_wsS RL 13 yL_has wsL_has) := goodIn_app (goodIn_of _ (by decide +kernel)) ggL_can_L_has
theorem dL_can_0 : decode cL_can 0 = .ok (.aload_n 1, 1) := by decide +kernel
theorem dL_can_1 : decode cL_can 1 = .ok (.aload_n 2, 1) := by decide +kernel
theorem dL_can_2 : decode cL_can 2 = .ok (.iload_n 3, 1) := by decide +kernel
theorem dL_can_3 : decode cL_can 3 = .ok (.invokestatic 7, 3) := by decide +kernel
theorem dL_can_6 : decode cL_can 6 = .ok (.iload_n 3, 1) := by decide +kernel
theorem dL_can_7 : decode cL_can 7 = .ok (.iconst 4, 1) := by decide +kernel
theorem dL_can_8 : decode cL_can 8 = .ok (.irem, 1) := by decide +kernel
theorem dL_can_9 : decode cL_can 9 = .ok (.iadd, 1) := by decide +kernel
theorem dL_can_10 : decode cL_can 10 = .ok (.iconst 4, 1) := by decide +kernel
theorem dL_can_11 : decode cL_can 11 = .ok (.irem, 1) := by decide +kernel
theorem dL_can_12 : decode cL_can 12 = .ok (.istore 5, 2) := by decide +kernel
theorem dL_can_14 : decode cL_can 14 = .ok (.aload_n 0, 1) := by decide +kernel
theorem dL_can_15 : decode cL_can 15 = .ok (.iload 5, 2) := by decide +kernel
theorem dL_can_17 : decode cL_can 17 = .ok (.iaload, 1) := by decide +kernel
theorem dL_can_18 : decode cL_can 18 = .ok (.iload 4, 2) := by decide +kernel
theorem dL_can_20 : decode cL_can 20 = .ok (.invokestatic 13, 3) := by decide +kernel
theorem dL_can_23 : decode cL_can 23 = .ok (.ifCond .ne 5, 3) := by decide +kernel
theorem dL_can_26 : decode cL_can 26 = .ok (.iconst 0, 1) := by decide +kernel
theorem dL_can_27 : decode cL_can 27 = .ok (.ireturn, 1) := by decide +kernel
theorem dL_can_28 : decode cL_can 28 = .ok (.iload_n 3, 1) := by decide +kernel
theorem dL_can_29 : decode cL_can 29 = .ok (.iconst 4, 1) := by decide +kernel
theorem dL_can_30 : decode cL_can 30 = .ok (.irem, 1) := by decide +kernel
theorem dL_can_31 : decode cL_can 31 = .ok (.ifCond .ne 11, 3) := by decide +kernel
theorem dL_can_34 : decode cL_can 34 = .ok (.iload 4, 2) := by decide +kernel
theorem dL_can_36 : decode cL_can 36 = .ok (.bipush 6, 2) := by decide +kernel
theorem dL_can_38 : decode cL_can 38 = .ok (.idiv, 1) := by decide +kernel
theorem dL_can_39 : decode cL_can 39 = .ok (.goto 13, 3) := by decide +kernel
theorem dL_can_42 : decode cL_can 42 = .ok (.aload_n 1, 1) := by decide +kernel
theorem dL_can_43 : decode cL_can 43 = .ok (.iload_n 3, 1) := by decide +kernel
theorem dL_can_44 : decode cL_can 44 = .ok (.iload_n 3, 1) := by decide +kernel
theorem dL_can_45 : decode cL_can 45 = .ok (.iconst 4, 1) := by decide +kernel
theorem dL_can_46 : decode cL_can 46 = .ok (.irem, 1) := by decide +kernel
theorem dL_can_47 : decode cL_can 47 = .ok (.isub, 1) := by decide +kernel
theorem dL_can_48 : decode cL_can 48 = .ok (.iaload, 1) := by decide +kernel
theorem dL_can_49 : decode cL_can 49 = .ok (.bipush 6, 2) := by decide +kernel
theorem dL_can_51 : decode cL_can 51 = .ok (.idiv, 1) := by decide +kernel
theorem dL_can_52 : decode cL_can 52 = .ok (.istore 6, 2) := by decide +kernel
theorem dL_can_54 : decode cL_can 54 = .ok (.iload 4, 2) := by decide +kernel
theorem dL_can_56 : decode cL_can 56 = .ok (.bipush 6, 2) := by decide +kernel
theorem dL_can_58 : decode cL_can 58 = .ok (.idiv, 1) := by decide +kernel
theorem dL_can_59 : decode cL_can 59 = .ok (.iload 6, 2) := by decide +kernel
theorem dL_can_61 : decode cL_can 61 = .ok (.if_icmp .eq 19, 3) := by decide +kernel
theorem dL_can_64 : decode cL_can 64 = .ok (.aload_n 0, 1) := by decide +kernel
theorem dL_can_65 : decode cL_can 65 = .ok (.iload 5, 2) := by decide +kernel
theorem dL_can_67 : decode cL_can 67 = .ok (.iaload, 1) := by decide +kernel
theorem dL_can_68 : decode cL_can 68 = .ok (.bipush 6, 2) := by decide +kernel
theorem dL_can_70 : decode cL_can 70 = .ok (.iload 6, 2) := by decide +kernel
theorem dL_can_72 : decode cL_can 72 = .ok (.imul, 1) := by decide +kernel
theorem dL_can_73 : decode cL_can 73 = .ok (.ishr, 1) := by decide +kernel
theorem dL_can_74 : decode cL_can 74 = .ok (.bipush 63, 2) := by decide +kernel
theorem dL_can_76 : decode cL_can 76 = .ok (.iand, 1) := by decide +kernel
theorem dL_can_77 : decode cL_can 77 = .ok (.ifCond .ne 7, 3) := by decide +kernel
theorem dL_can_80 : decode cL_can 80 = .ok (.iconst 1, 1) := by decide +kernel
theorem dL_can_81 : decode cL_can 81 = .ok (.goto 4, 3) := by decide +kernel
theorem dL_can_84 : decode cL_can 84 = .ok (.iconst 0, 1) := by decide +kernel
theorem dL_can_85 : decode cL_can 85 = .ok (.ireturn, 1) := by decide +kernel
set_option maxRecDepth 20000 in
theorem ggL_best_L_size : GoodIn wsL_best wsL_size := goodIn_r _ [5] (by decide +kernel) (by decide +kernel)
set_option maxRecDepth 20000 in
theorem gL_best_L_size : GoodIn wsL_best (va_wsS RL 17 yL_size wsL_size) := goodIn_app (goodIn_of _ (by decide +kernel)) ggL_best_L_size
set_option maxRecDepth 20000 in
theorem ggL_best_L_can : GoodIn wsL_best wsL_can := goodIn_r _ [8, 9, 10, 4, 11, 12, 13, 14] (by decide +kernel) (by decide +kernel)
set_option maxRecDepth 20000 in
theorem gL_best_L_can : GoodIn wsL_best (va_wsS RL 21 yL_can wsL_can) := goodIn_app (goodIn_of _ (by decide +kernel)) ggL_best_L_can
set_option maxRecDepth 20000 in
theorem ggL_best_L_leader : GoodIn wsL_best wsL_leader := goodIn_r _ [11] (by decide +kernel) (by decide +kernel)
set_option maxRecDepth 20000 in
theorem gL_best_L_leader : GoodIn wsL_best (va_wsS RL 7 yL_leader wsL_leader) := goodIn_app (goodIn_of _ (by decide +kernel)) ggL_best_L_leader
set_option maxRecDepth 20000 in
theorem ggL_best_L_tricks : GoodIn wsL_best wsL_tricks := goodIn_r _ [17, 9, 10, 4, 11] (by decide +kernel) (by decide +kernel)
set_option maxRecDepth 20000 in
theorem gL_best_L_tricks : GoodIn wsL_best (va_wsS RL 25 yL_tricks wsL_tricks) := goodIn_app (goodIn_of _ (by decide +kernel)) ggL_best_L_tricks
end
section
theorem dL_best_0 : decode cL_best 0 = .ok (.aload_n 2, 1) := by decide +kernel
theorem dL_best_1 : decode cL_best 1 = .ok (.iconst 0, 1) := by decide +kernel
theorem dL_best_2 : decode cL_best 2 = .ok (.iaload, 1) := by decide +kernel
theorem dL_best_3 : decode cL_best 3 = .ok (.istore_n 3, 1) := by decide +kernel
theorem dL_best_4 : decode cL_best 4 = .ok (.iload_n 3, 1) := by decide +kernel
theorem dL_best_5 : decode cL_best 5 = .ok (.aload_n 0, 1) := by decide +kernel
theorem dL_best_6 : decode cL_best 6 = .ok (.iconst 0, 1) := by decide +kernel
theorem dL_best_7 : decode cL_best 7 = .ok (.iaload, 1) := by decide +kernel
theorem dL_best_8 : decode cL_best 8 = .ok (.invokestatic 17, 3) := by decide +kernel
theorem dL_best_11 : decode cL_best 11 = .ok (.iadd, 1) := by decide +kernel
theorem dL_best_12 : decode cL_best 12 = .ok (.aload_n 0, 1) := by decide +kernel
theorem dL_best_13 : decode cL_best 13 = .ok (.iconst 1, 1) := by decide +kernel
theorem dL_best_14 : decode cL_best 14 = .ok (.iaload, 1) := by decide +kernel
theorem dL_best_15 : decode cL_best 15 = .ok (.invokestatic 17, 3) := by decide +kernel
theorem dL_best_18 : decode cL_best 18 = .ok (.iadd, 1) := by decide +kernel
theorem dL_best_19 : decode cL_best 19 = .ok (.aload_n 0, 1) := by decide +kernel
theorem dL_best_20 : decode cL_best 20 = .ok (.iconst 2, 1) := by decide +kernel
theorem dL_best_21 : decode cL_best 21 = .ok (.iaload, 1) := by decide +kernel
theorem dL_best_22 : decode cL_best 22 = .ok (.invokestatic 17, 3) := by decide +kernel
theorem dL_best_25 : decode cL_best 25 = .ok (.iadd, 1) := by decide +kernel
theorem dL_best_26 : decode cL_best 26 = .ok (.aload_n 0, 1) := by decide +kernel
theorem dL_best_27 : decode cL_best 27 = .ok (.iconst 3, 1) := by decide +kernel
theorem dL_best_28 : decode cL_best 28 = .ok (.iaload, 1) := by decide +kernel
theorem dL_best_29 : decode cL_best 29 = .ok (.invokestatic 17, 3) := by decide +kernel
theorem dL_best_32 : decode cL_best 32 = .ok (.iadd, 1) := by decide +kernel
theorem dL_best_33 : decode cL_best 33 = .ok (.istore 4, 2) := by decide +kernel
theorem dL_best_35 : decode cL_best 35 = .ok (.bipush 17, 2) := by decide +kernel
theorem dL_best_37 : decode cL_best 37 = .ok (.newarray .int, 2) := by decide +kernel
theorem dL_best_39 : decode cL_best 39 = .ok (.astore 5, 2) := by decide +kernel
theorem dL_best_41 : decode cL_best 41 = .ok (.bipush 17, 2) := by decide +kernel
theorem dL_best_43 : decode cL_best 43 = .ok (.newarray .int, 2) := by decide +kernel
theorem dL_best_45 : decode cL_best 45 = .ok (.astore 6, 2) := by decide +kernel
theorem dL_best_47 : decode cL_best 47 = .ok (.iload_n 3, 1) := by decide +kernel
theorem dL_best_48 : decode cL_best 48 = .ok (.istore 7, 2) := by decide +kernel
theorem dL_best_50 : decode cL_best 50 = .ok (.aload 5, 2) := by decide +kernel
theorem dL_best_52 : decode cL_best 52 = .ok (.iload 7, 2) := by decide +kernel
theorem dL_best_54 : decode cL_best 54 = .ok (.iconst 0, 1) := by decide +kernel
theorem dL_best_55 : decode cL_best 55 = .ok (.iastore, 1) := by decide +kernel
theorem dL_best_56 : decode cL_best 56 = .ok (.aload 6, 2) := by decide +kernel
theorem dL_best_58 : decode cL_best 58 = .ok (.iload 7, 2) := by decide +kernel
theorem dL_best_60 : decode cL_best 60 = .ok (.iconst (-1), 1) := by decide +kernel
theorem dL_best_61 : decode cL_best 61 = .ok (.iastore, 1) := by decide +kernel
theorem dL_best_62 : decode cL_best 62 = .ok (.iload 7, 2) := by decide +kernel
theorem dL_best_64 : decode cL_best 64 = .ok (.iload 4, 2) := by decide +kernel
theorem dL_best_66 : decode cL_best 66 = .ok (.if_icmp .ne 8, 3) := by decide +kernel
theorem dL_best_69 : decode cL_best 69 = .ok (.bipush 24, 2) := by decide +kernel
theorem dL_best_71 : decode cL_best 71 = .ok (.goto 8, 3) := by decide +kernel
theorem dL_best_74 : decode cL_best 74 = .ok (.aload 5, 2) := by decide +kernel
theorem dL_best_76 : decode cL_best 76 = .ok (.iload 7, 2) := by decide +kernel
theorem dL_best_78 : decode cL_best 78 = .ok (.iaload, 1) := by decide +kernel
theorem dL_best_79 : decode cL_best 79 = .ok (.istore 8, 2) := by decide +kernel
theorem dL_best_81 : decode cL_best 81 = .ok (.iload 8, 2) := by decide +kernel
theorem dL_best_83 : decode cL_best 83 = .ok (.bipush 24, 2) := by decide +kernel
theorem dL_best_85 : decode cL_best 85 = .ok (.if_icmp .ge 22, 3) := by decide +kernel
theorem dL_best_88 : decode cL_best 88 = .ok (.aload_n 0, 1) := by decide +kernel
theorem dL_best_89 : decode cL_best 89 = .ok (.aload_n 1, 1) := by decide +kernel
theorem dL_best_90 : decode cL_best 90 = .ok (.aload_n 2, 1) := by decide +kernel
theorem dL_best_91 : decode cL_best 91 = .ok (.iload 7, 2) := by decide +kernel
theorem dL_best_93 : decode cL_best 93 = .ok (.iload 8, 2) := by decide +kernel
theorem dL_best_95 : decode cL_best 95 = .ok (.invokestatic 21, 3) := by decide +kernel
theorem dL_best_98 : decode cL_best 98 = .ok (.ifCond .ne 9, 3) := by decide +kernel
theorem dL_best_101 : decode cL_best 101 = .ok (.iinc 8 1, 3) := by decide +kernel
theorem dL_best_104 : decode cL_best 104 = .ok (.goto (-23), 3) := by decide +kernel
theorem dL_best_107 : decode cL_best 107 = .ok (.iload 8, 2) := by decide +kernel
theorem dL_best_109 : decode cL_best 109 = .ok (.bipush 24, 2) := by decide +kernel
theorem dL_best_111 : decode cL_best 111 = .ok (.if_icmp .ge 65, 3) := by decide +kernel
theorem dL_best_114 : decode cL_best 114 = .ok (.aload_n 1, 1) := by decide +kernel
theorem dL_best_115 : decode cL_best 115 = .ok (.aload_n 2, 1) := by decide +kernel
theorem dL_best_116 : decode cL_best 116 = .ok (.iload 7, 2) := by decide +kernel
theorem dL_best_118 : decode cL_best 118 = .ok (.invokestatic 7, 3) := by decide +kernel
theorem dL_best_121 : decode cL_best 121 = .ok (.iload 7, 2) := by decide +kernel
theorem dL_best_123 : decode cL_best 123 = .ok (.iconst 4, 1) := by decide +kernel
theorem dL_best_124 : decode cL_best 124 = .ok (.irem, 1) := by decide +kernel
theorem dL_best_125 : decode cL_best 125 = .ok (.iadd, 1) := by decide +kernel
theorem dL_best_126 : decode cL_best 126 = .ok (.iconst 4, 1) := by decide +kernel
theorem dL_best_127 : decode cL_best 127 = .ok (.irem, 1) := by decide +kernel
theorem dL_best_128 : decode cL_best 128 = .ok (.istore 9, 2) := by decide +kernel
theorem dL_best_130 : decode cL_best 130 = .ok (.aload_n 0, 1) := by decide +kernel
theorem dL_best_131 : decode cL_best 131 = .ok (.iload 9, 2) := by decide +kernel
theorem dL_best_133 : decode cL_best 133 = .ok (.dup2, 1) := by decide +kernel
theorem dL_best_134 : decode cL_best 134 = .ok (.iaload, 1) := by decide +kernel
theorem dL_best_135 : decode cL_best 135 = .ok (.iconst 1, 1) := by decide +kernel
theorem dL_best_136 : decode cL_best 136 = .ok (.iload 8, 2) := by decide +kernel
theorem dL_best_138 : decode cL_best 138 = .ok (.ishl, 1) := by decide +kernel
theorem dL_best_139 : decode cL_best 139 = .ok (.iconst (-1), 1) := by decide +kernel
theorem dL_best_140 : decode cL_best 140 = .ok (.ixor, 1) := by decide +kernel
theorem dL_best_141 : decode cL_best 141 = .ok (.iand, 1) := by decide +kernel
theorem dL_best_142 : decode cL_best 142 = .ok (.iastore, 1) := by decide +kernel
theorem dL_best_143 : decode cL_best 143 = .ok (.aload_n 1, 1) := by decide +kernel
theorem dL_best_144 : decode cL_best 144 = .ok (.iload 7, 2) := by decide +kernel
theorem dL_best_146 : decode cL_best 146 = .ok (.iload 8, 2) := by decide +kernel
theorem dL_best_148 : decode cL_best 148 = .ok (.iastore, 1) := by decide +kernel
theorem dL_best_149 : decode cL_best 149 = .ok (.aload 5, 2) := by decide +kernel
theorem dL_best_151 : decode cL_best 151 = .ok (.iload 7, 2) := by decide +kernel
theorem dL_best_153 : decode cL_best 153 = .ok (.iload 8, 2) := by decide +kernel
theorem dL_best_155 : decode cL_best 155 = .ok (.iconst 1, 1) := by decide +kernel
theorem dL_best_156 : decode cL_best 156 = .ok (.iadd, 1) := by decide +kernel
theorem dL_best_157 : decode cL_best 157 = .ok (.iastore, 1) := by decide +kernel
theorem dL_best_158 : decode cL_best 158 = .ok (.iinc 7 1, 3) := by decide +kernel
theorem dL_best_161 : decode cL_best 161 = .ok (.aload 5, 2) := by decide +kernel
theorem dL_best_163 : decode cL_best 163 = .ok (.iload 7, 2) := by decide +kernel
theorem dL_best_165 : decode cL_best 165 = .ok (.iconst 0, 1) := by decide +kernel
theorem dL_best_166 : decode cL_best 166 = .ok (.iastore, 1) := by decide +kernel
theorem dL_best_167 : decode cL_best 167 = .ok (.aload 6, 2) := by decide +kernel
theorem dL_best_169 : decode cL_best 169 = .ok (.iload 7, 2) := by decide +kernel
theorem dL_best_171 : decode cL_best 171 = .ok (.iconst (-1), 1) := by decide +kernel
theorem dL_best_172 : decode cL_best 172 = .ok (.iastore, 1) := by decide +kernel
theorem dL_best_173 : decode cL_best 173 = .ok (.goto 134, 3) := by decide +kernel
theorem dL_best_176 : decode cL_best 176 = .ok (.iload 7, 2) := by decide +kernel
theorem dL_best_178 : decode cL_best 178 = .ok (.iload 4, 2) := by decide +kernel
theorem dL_best_180 : decode cL_best 180 = .ok (.if_icmp .ne 14, 3) := by decide +kernel
theorem dL_best_183 : decode cL_best 183 = .ok (.aload_n 1, 1) := by decide +kernel
theorem dL_best_184 : decode cL_best 184 = .ok (.aload_n 2, 1) := by decide +kernel
theorem dL_best_185 : decode cL_best 185 = .ok (.iload 4, 2) := by decide +kernel
theorem dL_best_187 : decode cL_best 187 = .ok (.iconst 0, 1) := by decide +kernel
theorem dL_best_188 : decode cL_best 188 = .ok (.invokestatic 25, 3) := by decide +kernel
theorem dL_best_191 : decode cL_best 191 = .ok (.goto 8, 3) := by decide +kernel
theorem dL_best_194 : decode cL_best 194 = .ok (.aload 6, 2) := by decide +kernel
theorem dL_best_196 : decode cL_best 196 = .ok (.iload 7, 2) := by decide +kernel
theorem dL_best_198 : decode cL_best 198 = .ok (.iaload, 1) := by decide +kernel
theorem dL_best_199 : decode cL_best 199 = .ok (.istore 9, 2) := by decide +kernel
theorem dL_best_201 : decode cL_best 201 = .ok (.iload 7, 2) := by decide +kernel
theorem dL_best_203 : decode cL_best 203 = .ok (.iload_n 3, 1) := by decide +kernel
theorem dL_best_204 : decode cL_best 204 = .ok (.if_icmp .ne 6, 3) := by decide +kernel
theorem dL_best_207 : decode cL_best 207 = .ok (.iload 9, 2) := by decide +kernel
theorem dL_best_209 : decode cL_best 209 = .ok (.ireturn, 1) := by decide +kernel
theorem dL_best_210 : decode cL_best 210 = .ok (.iinc 7 (-1), 3) := by decide +kernel
theorem dL_best_213 : decode cL_best 213 = .ok (.aload_n 1, 1) := by decide +kernel
theorem dL_best_214 : decode cL_best 214 = .ok (.aload_n 2, 1) := by decide +kernel
theorem dL_best_215 : decode cL_best 215 = .ok (.iload 7, 2) := by decide +kernel
theorem dL_best_217 : decode cL_best 217 = .ok (.invokestatic 7, 3) := by decide +kernel
theorem dL_best_220 : decode cL_best 220 = .ok (.iload 7, 2) := by decide +kernel
theorem dL_best_222 : decode cL_best 222 = .ok (.iconst 4, 1) := by decide +kernel
theorem dL_best_223 : decode cL_best 223 = .ok (.irem, 1) := by decide +kernel
theorem dL_best_224 : decode cL_best 224 = .ok (.iadd, 1) := by decide +kernel
theorem dL_best_225 : decode cL_best 225 = .ok (.iconst 4, 1) := by decide +kernel
theorem dL_best_226 : decode cL_best 226 = .ok (.irem, 1) := by decide +kernel
theorem dL_best_227 : decode cL_best 227 = .ok (.istore 10, 2) := by decide +kernel
theorem dL_best_229 : decode cL_best 229 = .ok (.aload_n 0, 1) := by decide +kernel
theorem dL_best_230 : decode cL_best 230 = .ok (.iload 10, 2) := by decide +kernel
theorem dL_best_232 : decode cL_best 232 = .ok (.dup2, 1) := by decide +kernel
theorem dL_best_233 : decode cL_best 233 = .ok (.iaload, 1) := by decide +kernel
theorem dL_best_234 : decode cL_best 234 = .ok (.iconst 1, 1) := by decide +kernel
theorem dL_best_235 : decode cL_best 235 = .ok (.aload_n 1, 1) := by decide +kernel
theorem dL_best_236 : decode cL_best 236 = .ok (.iload 7, 2) := by decide +kernel
theorem dL_best_238 : decode cL_best 238 = .ok (.iaload, 1) := by decide +kernel
theorem dL_best_239 : decode cL_best 239 = .ok (.ishl, 1) := by decide +kernel
theorem dL_best_240 : decode cL_best 240 = .ok (.ior, 1) := by decide +kernel
theorem dL_best_241 : decode cL_best 241 = .ok (.iastore, 1) := by decide +kernel
theorem dL_best_242 : decode cL_best 242 = .ok (.aload 6, 2) := by decide +kernel
theorem dL_best_244 : decode cL_best 244 = .ok (.iload 7, 2) := by decide +kernel
theorem dL_best_246 : decode cL_best 246 = .ok (.iaload, 1) := by decide +kernel
theorem dL_best_247 : decode cL_best 247 = .ok (.ifCond .lt 33, 3) := by decide +kernel
theorem dL_best_250 : decode cL_best 250 = .ok (.iload 10, 2) := by decide +kernel
theorem dL_best_252 : decode cL_best 252 = .ok (.iconst 2, 1) := by decide +kernel
theorem dL_best_253 : decode cL_best 253 = .ok (.irem, 1) := by decide +kernel
theorem dL_best_254 : decode cL_best 254 = .ok (.ifCond .ne 16, 3) := by decide +kernel
theorem dL_best_257 : decode cL_best 257 = .ok (.iload 9, 2) := by decide +kernel
theorem dL_best_259 : decode cL_best 259 = .ok (.aload 6, 2) := by decide +kernel
theorem dL_best_261 : decode cL_best 261 = .ok (.iload 7, 2) := by decide +kernel
theorem dL_best_263 : decode cL_best 263 = .ok (.iaload, 1) := by decide +kernel
theorem dL_best_264 : decode cL_best 264 = .ok (.if_icmp .le 20, 3) := by decide +kernel
theorem dL_best_267 : decode cL_best 267 = .ok (.goto 13, 3) := by decide +kernel
theorem dL_best_270 : decode cL_best 270 = .ok (.iload 9, 2) := by decide +kernel
theorem dL_best_272 : decode cL_best 272 = .ok (.aload 6, 2) := by decide +kernel
theorem dL_best_274 : decode cL_best 274 = .ok (.iload 7, 2) := by decide +kernel
theorem dL_best_276 : decode cL_best 276 = .ok (.iaload, 1) := by decide +kernel
theorem dL_best_277 : decode cL_best 277 = .ok (.if_icmp .ge 7, 3) := by decide +kernel
theorem dL_best_280 : decode cL_best 280 = .ok (.iconst 1, 1) := by decide +kernel
theorem dL_best_281 : decode cL_best 281 = .ok (.goto 4, 3) := by decide +kernel
theorem dL_best_284 : decode cL_best 284 = .ok (.iconst 0, 1) := by decide +kernel
theorem dL_best_285 : decode cL_best 285 = .ok (.istore 11, 2) := by decide +kernel
theorem dL_best_287 : decode cL_best 287 = .ok (.aload 6, 2) := by decide +kernel
theorem dL_best_289 : decode cL_best 289 = .ok (.iload 7, 2) := by decide +kernel
theorem dL_best_291 : decode cL_best 291 = .ok (.iload 11, 2) := by decide +kernel
theorem dL_best_293 : decode cL_best 293 = .ok (.ifCond .eq 8, 3) := by decide +kernel
theorem dL_best_296 : decode cL_best 296 = .ok (.iload 9, 2) := by decide +kernel
theorem dL_best_298 : decode cL_best 298 = .ok (.goto 8, 3) := by decide +kernel
theorem dL_best_301 : decode cL_best 301 = .ok (.aload 6, 2) := by decide +kernel
theorem dL_best_303 : decode cL_best 303 = .ok (.iload 7, 2) := by decide +kernel
theorem dL_best_305 : decode cL_best 305 = .ok (.iaload, 1) := by decide +kernel
theorem dL_best_306 : decode cL_best 306 = .ok (.iastore, 1) := by decide +kernel
theorem dL_best_307 : decode cL_best 307 = .ok (.goto (-245), 3) := by decide +kernel
set_option maxRecDepth 20000 in
theorem ggL_holder_L_has : GoodIn wsL_holder wsL_has := goodIn_r _ [4] (by decide +kernel) (by decide +kernel)
set_option maxRecDepth 20000 in
theorem gL_holder_L_has : GoodIn wsL_holder (va_wsS RL 13 yL_has wsL_has) := goodIn_app (goodIn_of _ (by decide +kernel)) ggL_holder_L_has
theorem dL_holder_0 : decode cL_holder 0 = .ok (.aload_n 0, 1) := by decide +kernel
theorem dL_holder_1 : decode cL_holder 1 = .ok (.iconst 0, 1) := by decide +kernel
theorem dL_holder_2 : decode cL_holder 2 = .ok (.iaload, 1) := by decide +kernel
theorem dL_holder_3 : decode cL_holder 3 = .ok (.iload_n 1, 1) := by decide +kernel
theorem dL_holder_4 : decode cL_holder 4 = .ok (.invokestatic 13, 3) := by decide +kernel
theorem dL_holder_7 : decode cL_holder 7 = .ok (.ifCond .eq 7, 3) := by decide +kernel
theorem dL_holder_10 : decode cL_holder 10 = .ok (.iconst 0, 1) := by decide +kernel
theorem dL_holder_11 : decode cL_holder 11 = .ok (.goto 46, 3) := by decide +kernel
theorem dL_holder_14 : decode cL_holder 14 = .ok (.aload_n 0, 1) := by decide +kernel
theorem dL_holder_15 : decode cL_holder 15 = .ok (.iconst 1, 1) := by decide +kernel
theorem dL_holder_16 : decode cL_holder 16 = .ok (.iaload, 1) := by decide +kernel
theorem dL_holder_17 : decode cL_holder 17 = .ok (.iload_n 1, 1) := by decide +kernel
theorem dL_holder_18 : decode cL_holder 18 = .ok (.invokestatic 13, 3) := by decide +kernel
theorem dL_holder_21 : decode cL_holder 21 = .ok (.ifCond .eq 7, 3) := by decide +kernel
theorem dL_holder_24 : decode cL_holder 24 = .ok (.iconst 1, 1) := by decide +kernel
theorem dL_holder_25 : decode cL_holder 25 = .ok (.goto 32, 3) := by decide +kernel
theorem dL_holder_28 : decode cL_holder 28 = .ok (.aload_n 0, 1) := by decide +kernel
theorem dL_holder_29 : decode cL_holder 29 = .ok (.iconst 2, 1) := by decide +kernel
theorem dL_holder_30 : decode cL_holder 30 = .ok (.iaload, 1) := by decide +kernel
theorem dL_holder_31 : decode cL_holder 31 = .ok (.iload_n 1, 1) := by decide +kernel
theorem dL_holder_32 : decode cL_holder 32 = .ok (.invokestatic 13, 3) := by decide +kernel
theorem dL_holder_35 : decode cL_holder 35 = .ok (.ifCond .eq 7, 3) := by decide +kernel
theorem dL_holder_38 : decode cL_holder 38 = .ok (.iconst 2, 1) := by decide +kernel
theorem dL_holder_39 : decode cL_holder 39 = .ok (.goto 18, 3) := by decide +kernel
theorem dL_holder_42 : decode cL_holder 42 = .ok (.aload_n 0, 1) := by decide +kernel
theorem dL_holder_43 : decode cL_holder 43 = .ok (.iconst 3, 1) := by decide +kernel
theorem dL_holder_44 : decode cL_holder 44 = .ok (.iaload, 1) := by decide +kernel
theorem dL_holder_45 : decode cL_holder 45 = .ok (.iload_n 1, 1) := by decide +kernel
theorem dL_holder_46 : decode cL_holder 46 = .ok (.invokestatic 13, 3) := by decide +kernel
theorem dL_holder_49 : decode cL_holder 49 = .ok (.ifCond .eq 7, 3) := by decide +kernel
theorem dL_holder_52 : decode cL_holder 52 = .ok (.iconst 3, 1) := by decide +kernel
theorem dL_holder_53 : decode cL_holder 53 = .ok (.goto 4, 3) := by decide +kernel
theorem dL_holder_56 : decode cL_holder 56 = .ok (.iconst (-1), 1) := by decide +kernel
theorem dL_holder_57 : decode cL_holder 57 = .ok (.ireturn, 1) := by decide +kernel
theorem dL_isOnTable_0 : decode cL_isOnTable 0 = .ok (.iconst 0, 1) := by decide +kernel
theorem dL_isOnTable_1 : decode cL_isOnTable 1 = .ok (.istore_n 3, 1) := by decide +kernel
theorem dL_isOnTable_2 : decode cL_isOnTable 2 = .ok (.aload_n 1, 1) := by decide +kernel
theorem dL_isOnTable_3 : decode cL_isOnTable 3 = .ok (.iconst 0, 1) := by decide +kernel
theorem dL_isOnTable_4 : decode cL_isOnTable 4 = .ok (.iaload, 1) := by decide +kernel
theorem dL_isOnTable_5 : decode cL_isOnTable 5 = .ok (.aload_n 1, 1) := by decide +kernel
theorem dL_isOnTable_6 : decode cL_isOnTable 6 = .ok (.iconst 0, 1) := by decide +kernel
theorem dL_isOnTable_7 : decode cL_isOnTable 7 = .ok (.iaload, 1) := by decide +kernel
theorem dL_isOnTable_8 : decode cL_isOnTable 8 = .ok (.iconst 4, 1) := by decide +kernel
theorem dL_isOnTable_9 : decode cL_isOnTable 9 = .ok (.irem, 1) := by decide +kernel
theorem dL_isOnTable_10 : decode cL_isOnTable 10 = .ok (.isub, 1) := by decide +kernel
theorem dL_isOnTable_11 : decode cL_isOnTable 11 = .ok (.istore 4, 2) := by decide +kernel
theorem dL_isOnTable_13 : decode cL_isOnTable 13 = .ok (.iload 4, 2) := by decide +kernel
theorem dL_isOnTable_15 : decode cL_isOnTable 15 = .ok (.aload_n 1, 1) := by decide +kernel
theorem dL_isOnTable_16 : decode cL_isOnTable 16 = .ok (.iconst 0, 1) := by decide +kernel
theorem dL_isOnTable_17 : decode cL_isOnTable 17 = .ok (.iaload, 1) := by decide +kernel
theorem dL_isOnTable_18 : decode cL_isOnTable 18 = .ok (.if_icmp .ge 27, 3) := by decide +kernel
theorem dL_isOnTable_21 : decode cL_isOnTable 21 = .ok (.iload_n 3, 1) := by decide +kernel
theorem dL_isOnTable_22 : decode cL_isOnTable 22 = .ok (.ifCond .ne 11, 3) := by decide +kernel
theorem dL_isOnTable_25 : decode cL_isOnTable 25 = .ok (.aload_n 0, 1) := by decide +kernel
theorem dL_isOnTable_26 : decode cL_isOnTable 26 = .ok (.iload 4, 2) := by decide +kernel
theorem dL_isOnTable_28 : decode cL_isOnTable 28 = .ok (.iaload, 1) := by decide +kernel
theorem dL_isOnTable_29 : decode cL_isOnTable 29 = .ok (.iload_n 2, 1) := by decide +kernel
theorem dL_isOnTable_30 : decode cL_isOnTable 30 = .ok (.if_icmp .ne 7, 3) := by decide +kernel
theorem dL_isOnTable_33 : decode cL_isOnTable 33 = .ok (.iconst 1, 1) := by decide +kernel
theorem dL_isOnTable_34 : decode cL_isOnTable 34 = .ok (.goto 4, 3) := by decide +kernel
theorem dL_isOnTable_37 : decode cL_isOnTable 37 = .ok (.iconst 0, 1) := by decide +kernel
theorem dL_isOnTable_38 : decode cL_isOnTable 38 = .ok (.istore_n 3, 1) := by decide +kernel
theorem dL_isOnTable_39 : decode cL_isOnTable 39 = .ok (.iinc 4 1, 3) := by decide +kernel
theorem dL_isOnTable_42 : decode cL_isOnTable 42 = .ok (.goto (-29), 3) := by decide +kernel
theorem dL_isOnTable_45 : decode cL_isOnTable 45 = .ok (.iload_n 3, 1) := by decide +kernel
theorem dL_isOnTable_46 : decode cL_isOnTable 46 = .ok (.ireturn, 1) := by decide +kernel
set_option maxRecDepth 20000 in
theorem ggL_areEqual_L_holder : GoodIn wsL_areEqual wsL_holder := goodIn_r _ [4, 5, 6, 3, 7] (by decide +kernel) (by decide +kernel)
set_option maxRecDepth 20000 in
theorem gL_areEqual_L_holder : GoodIn wsL_areEqual (va_wsS RL 29 yL_holder wsL_holder) := goodIn_app (goodIn_of _ (by decide +kernel)) ggL_areEqual_L_holder
set_option maxRecDepth 20000 in
theorem ggL_areEqual_L_isOnTable : GoodIn wsL_areEqual wsL_isOnTable := goodIn_r _ [10] (by decide +kernel) (by decide +kernel)
set_option maxRecDepth 20000 in
theorem gL_areEqual_L_isOnTable : GoodIn wsL_areEqual (va_wsS RL 33 yL_isOnTable wsL_isOnTable) := goodIn_app (goodIn_of _ (by decide +kernel)) ggL_areEqual_L_isOnTable
theorem dL_areEqual_0 : decode cL_areEqual 0 = .ok (.iload_n 3, 1) := by decide +kernel
theorem dL_areEqual_1 : decode cL_areEqual 1 = .ok (.bipush 6, 2) := by decide +kernel
theorem dL_areEqual_3 : decode cL_areEqual 3 = .ok (.idiv, 1) := by decide +kernel
theorem dL_areEqual_4 : decode cL_areEqual 4 = .ok (.iload 4, 2) := by decide +kernel
theorem dL_areEqual_6 : decode cL_areEqual 6 = .ok (.bipush 6, 2) := by decide +kernel
theorem dL_areEqual_8 : decode cL_areEqual 8 = .ok (.idiv, 1) := by decide +kernel
theorem dL_areEqual_9 : decode cL_areEqual 9 = .ok (.if_icmp .ne 21, 3) := by decide +kernel
theorem dL_areEqual_12 : decode cL_areEqual 12 = .ok (.aload_n 0, 1) := by decide +kernel
theorem dL_areEqual_13 : decode cL_areEqual 13 = .ok (.iload_n 3, 1) := by decide +kernel
theorem dL_areEqual_14 : decode cL_areEqual 14 = .ok (.invokestatic 29, 3) := by decide +kernel
theorem dL_areEqual_17 : decode cL_areEqual 17 = .ok (.aload_n 0, 1) := by decide +kernel
theorem dL_areEqual_18 : decode cL_areEqual 18 = .ok (.iload 4, 2) := by decide +kernel
theorem dL_areEqual_20 : decode cL_areEqual 20 = .ok (.invokestatic 29, 3) := by decide +kernel
theorem dL_areEqual_23 : decode cL_areEqual 23 = .ok (.if_icmp .ne 7, 3) := by decide +kernel
theorem dL_areEqual_26 : decode cL_areEqual 26 = .ok (.iconst 1, 1) := by decide +kernel
theorem dL_areEqual_27 : decode cL_areEqual 27 = .ok (.goto 4, 3) := by decide +kernel
theorem dL_areEqual_30 : decode cL_areEqual 30 = .ok (.iconst 0, 1) := by decide +kernel
theorem dL_areEqual_31 : decode cL_areEqual 31 = .ok (.istore 5, 2) := by decide +kernel
theorem dL_areEqual_33 : decode cL_areEqual 33 = .ok (.iload_n 3, 1) := by decide +kernel
theorem dL_areEqual_34 : decode cL_areEqual 34 = .ok (.iconst 1, 1) := by decide +kernel
theorem dL_areEqual_35 : decode cL_areEqual 35 = .ok (.iadd, 1) := by decide +kernel
theorem dL_areEqual_36 : decode cL_areEqual 36 = .ok (.istore 6, 2) := by decide +kernel
theorem dL_areEqual_38 : decode cL_areEqual 38 = .ok (.iload 6, 2) := by decide +kernel
theorem dL_areEqual_40 : decode cL_areEqual 40 = .ok (.iload 4, 2) := by decide +kernel
theorem dL_areEqual_42 : decode cL_areEqual 42 = .ok (.if_icmp .ge 54, 3) := by decide +kernel
theorem dL_areEqual_45 : decode cL_areEqual 45 = .ok (.iload 5, 2) := by decide +kernel
theorem dL_areEqual_47 : decode cL_areEqual 47 = .ok (.ifCond .eq 40, 3) := by decide +kernel
theorem dL_areEqual_50 : decode cL_areEqual 50 = .ok (.aload_n 1, 1) := by decide +kernel
theorem dL_areEqual_51 : decode cL_areEqual 51 = .ok (.aload_n 2, 1) := by decide +kernel
theorem dL_areEqual_52 : decode cL_areEqual 52 = .ok (.iload 6, 2) := by decide +kernel
theorem dL_areEqual_54 : decode cL_areEqual 54 = .ok (.invokestatic 33, 3) := by decide +kernel
theorem dL_areEqual_57 : decode cL_areEqual 57 = .ok (.ifCond .ne 30, 3) := by decide +kernel
theorem dL_areEqual_60 : decode cL_areEqual 60 = .ok (.aload_n 0, 1) := by decide +kernel
theorem dL_areEqual_61 : decode cL_areEqual 61 = .ok (.iload 6, 2) := by decide +kernel
theorem dL_areEqual_63 : decode cL_areEqual 63 = .ok (.invokestatic 29, 3) := by decide +kernel
theorem dL_areEqual_66 : decode cL_areEqual 66 = .ok (.ifCond .lt 17, 3) := by decide +kernel
theorem dL_areEqual_69 : decode cL_areEqual 69 = .ok (.aload_n 0, 1) := by decide +kernel
theorem dL_areEqual_70 : decode cL_areEqual 70 = .ok (.iload 6, 2) := by decide +kernel
theorem dL_areEqual_72 : decode cL_areEqual 72 = .ok (.invokestatic 29, 3) := by decide +kernel
theorem dL_areEqual_75 : decode cL_areEqual 75 = .ok (.aload_n 0, 1) := by decide +kernel
theorem dL_areEqual_76 : decode cL_areEqual 76 = .ok (.iload_n 3, 1) := by decide +kernel
theorem dL_areEqual_77 : decode cL_areEqual 77 = .ok (.invokestatic 29, 3) := by decide +kernel
theorem dL_areEqual_80 : decode cL_areEqual 80 = .ok (.if_icmp .ne 7, 3) := by decide +kernel
theorem dL_areEqual_83 : decode cL_areEqual 83 = .ok (.iconst 1, 1) := by decide +kernel
theorem dL_areEqual_84 : decode cL_areEqual 84 = .ok (.goto 4, 3) := by decide +kernel
theorem dL_areEqual_87 : decode cL_areEqual 87 = .ok (.iconst 0, 1) := by decide +kernel
theorem dL_areEqual_88 : decode cL_areEqual 88 = .ok (.istore 5, 2) := by decide +kernel
theorem dL_areEqual_90 : decode cL_areEqual 90 = .ok (.iinc 6 1, 3) := by decide +kernel
theorem dL_areEqual_93 : decode cL_areEqual 93 = .ok (.goto (-55), 3) := by decide +kernel
theorem dL_areEqual_96 : decode cL_areEqual 96 = .ok (.iload 5, 2) := by decide +kernel
theorem dL_areEqual_98 : decode cL_areEqual 98 = .ok (.ireturn, 1) := by decide +kernel
set_option maxRecDepth 20000 in
theorem ggL_lowest_L_holder : GoodIn wsL_lowest wsL_holder := goodIn_r _ [4, 5, 6, 3, 7] (by decide +kernel) (by decide +kernel)
set_option maxRecDepth 20000 in
theorem gL_lowest_L_holder : GoodIn wsL_lowest (va_wsS RL 29 yL_holder wsL_holder) := goodIn_app (goodIn_of _ (by decide +kernel)) ggL_lowest_L_holder
set_option maxRecDepth 20000 in
theorem ggL_lowest_L_areEqual : GoodIn wsL_lowest wsL_areEqual := goodIn_r _ [10, 1, 2, 3, 4, 5, 6, 7, 11, 12, 13] (by decide +kernel) (by decide +kernel)
set_option maxRecDepth 20000 in
theorem gL_lowest_L_areEqual : GoodIn wsL_lowest (va_wsS RL 37 yL_areEqual wsL_areEqual) := goodIn_app (goodIn_of _ (by decide +kernel)) ggL_lowest_L_areEqual
theorem dL_lowest_0 : decode cL_lowest 0 = .ok (.iload_n 3, 1) := by decide +kernel
theorem dL_lowest_1 : decode cL_lowest 1 = .ok (.istore 4, 2) := by decide +kernel
theorem dL_lowest_3 : decode cL_lowest 3 = .ok (.iload_n 3, 1) := by decide +kernel
theorem dL_lowest_4 : decode cL_lowest 4 = .ok (.iconst 1, 1) := by decide +kernel
theorem dL_lowest_5 : decode cL_lowest 5 = .ok (.isub, 1) := by decide +kernel
theorem dL_lowest_6 : decode cL_lowest 6 = .ok (.istore 5, 2) := by decide +kernel
theorem dL_lowest_8 : decode cL_lowest 8 = .ok (.iload 5, 2) := by decide +kernel
theorem dL_lowest_10 : decode cL_lowest 10 = .ok (.ifCond .lt 44, 3) := by decide +kernel
theorem dL_lowest_13 : decode cL_lowest 13 = .ok (.aload_n 0, 1) := by decide +kernel
theorem dL_lowest_14 : decode cL_lowest 14 = .ok (.iload 5, 2) := by decide +kernel
theorem dL_lowest_16 : decode cL_lowest 16 = .ok (.invokestatic 29, 3) := by decide +kernel
theorem dL_lowest_19 : decode cL_lowest 19 = .ok (.aload_n 0, 1) := by decide +kernel
theorem dL_lowest_20 : decode cL_lowest 20 = .ok (.iload_n 3, 1) := by decide +kernel
theorem dL_lowest_21 : decode cL_lowest 21 = .ok (.invokestatic 29, 3) := by decide +kernel
theorem dL_lowest_24 : decode cL_lowest 24 = .ok (.if_icmp .ne 20, 3) := by decide +kernel
theorem dL_lowest_27 : decode cL_lowest 27 = .ok (.aload_n 0, 1) := by decide +kernel
theorem dL_lowest_28 : decode cL_lowest 28 = .ok (.aload_n 1, 1) := by decide +kernel
theorem dL_lowest_29 : decode cL_lowest 29 = .ok (.aload_n 2, 1) := by decide +kernel
theorem dL_lowest_30 : decode cL_lowest 30 = .ok (.iload 5, 2) := by decide +kernel
theorem dL_lowest_32 : decode cL_lowest 32 = .ok (.iload_n 3, 1) := by decide +kernel
theorem dL_lowest_33 : decode cL_lowest 33 = .ok (.invokestatic 37, 3) := by decide +kernel
theorem dL_lowest_36 : decode cL_lowest 36 = .ok (.ifCond .eq 8, 3) := by decide +kernel
theorem dL_lowest_39 : decode cL_lowest 39 = .ok (.iload 5, 2) := by decide +kernel
theorem dL_lowest_41 : decode cL_lowest 41 = .ok (.goto 5, 3) := by decide +kernel
theorem dL_lowest_44 : decode cL_lowest 44 = .ok (.iload 4, 2) := by decide +kernel
theorem dL_lowest_46 : decode cL_lowest 46 = .ok (.istore 4, 2) := by decide +kernel
theorem dL_lowest_48 : decode cL_lowest 48 = .ok (.iinc 5 (-1), 3) := by decide +kernel
theorem dL_lowest_51 : decode cL_lowest 51 = .ok (.goto (-43), 3) := by decide +kernel
theorem dL_lowest_54 : decode cL_lowest 54 = .ok (.iload 4, 2) := by decide +kernel
theorem dL_lowest_56 : decode cL_lowest 56 = .ok (.ireturn, 1) := by decide +kernel
set_option maxRecDepth 20000 in
theorem ggL_isTop_L_isOnTable : GoodIn wsL_isTop wsL_isOnTable := goodIn_r _ [4] (by decide +kernel) (by decide +kernel)
set_option maxRecDepth 20000 in
theorem gL_isTop_L_isOnTable : GoodIn wsL_isTop (va_wsS RL 33 yL_isOnTable wsL_isOnTable) := goodIn_app (goodIn_of _ (by decide +kernel)) ggL_isTop_L_isOnTable
set_option maxRecDepth 20000 in
theorem ggL_isTop_L_holder : GoodIn wsL_isTop wsL_holder := goodIn_r _ [7, 8, 9, 3, 10] (by decide +kernel) (by decide +kernel)
set_option maxRecDepth 20000 in
theorem gL_isTop_L_holder : GoodIn wsL_isTop (va_wsS RL 29 yL_holder wsL_holder) := goodIn_app (goodIn_of _ (by decide +kernel)) ggL_isTop_L_holder
theorem dL_isTop_0 : decode cL_isTop 0 = .ok (.iconst 1, 1) := by decide +kernel
theorem dL_isTop_1 : decode cL_isTop 1 = .ok (.istore 4, 2) := by decide +kernel
theorem dL_isTop_3 : decode cL_isTop 3 = .ok (.iload_n 3, 1) := by decide +kernel
theorem dL_isTop_4 : decode cL_isTop 4 = .ok (.iconst 1, 1) := by decide +kernel
theorem dL_isTop_5 : decode cL_isTop 5 = .ok (.iadd, 1) := by decide +kernel
theorem dL_isTop_6 : decode cL_isTop 6 = .ok (.istore 5, 2) := by decide +kernel
theorem dL_isTop_8 : decode cL_isTop 8 = .ok (.iload 5, 2) := by decide +kernel
theorem dL_isTop_10 : decode cL_isTop 10 = .ok (.bipush 24, 2) := by decide +kernel
theorem dL_isTop_12 : decode cL_isTop 12 = .ok (.if_icmp .ge 66, 3) := by decide +kernel
theorem dL_isTop_15 : decode cL_isTop 15 = .ok (.iload 5, 2) := by decide +kernel
theorem dL_isTop_17 : decode cL_isTop 17 = .ok (.bipush 6, 2) := by decide +kernel
theorem dL_isTop_19 : decode cL_isTop 19 = .ok (.idiv, 1) := by decide +kernel
theorem dL_isTop_20 : decode cL_isTop 20 = .ok (.iload_n 3, 1) := by decide +kernel
theorem dL_isTop_21 : decode cL_isTop 21 = .ok (.bipush 6, 2) := by decide +kernel
theorem dL_isTop_23 : decode cL_isTop 23 = .ok (.idiv, 1) := by decide +kernel
theorem dL_isTop_24 : decode cL_isTop 24 = .ok (.if_icmp .ne 54, 3) := by decide +kernel
theorem dL_isTop_27 : decode cL_isTop 27 = .ok (.iload 4, 2) := by decide +kernel
theorem dL_isTop_29 : decode cL_isTop 29 = .ok (.ifCond .eq 40, 3) := by decide +kernel
theorem dL_isTop_32 : decode cL_isTop 32 = .ok (.aload_n 1, 1) := by decide +kernel
theorem dL_isTop_33 : decode cL_isTop 33 = .ok (.aload_n 2, 1) := by decide +kernel
theorem dL_isTop_34 : decode cL_isTop 34 = .ok (.iload 5, 2) := by decide +kernel
theorem dL_isTop_36 : decode cL_isTop 36 = .ok (.invokestatic 33, 3) := by decide +kernel
theorem dL_isTop_39 : decode cL_isTop 39 = .ok (.ifCond .ne 30, 3) := by decide +kernel
theorem dL_isTop_42 : decode cL_isTop 42 = .ok (.aload_n 0, 1) := by decide +kernel
theorem dL_isTop_43 : decode cL_isTop 43 = .ok (.iload 5, 2) := by decide +kernel
theorem dL_isTop_45 : decode cL_isTop 45 = .ok (.invokestatic 29, 3) := by decide +kernel
theorem dL_isTop_48 : decode cL_isTop 48 = .ok (.ifCond .lt 17, 3) := by decide +kernel
theorem dL_isTop_51 : decode cL_isTop 51 = .ok (.aload_n 0, 1) := by decide +kernel
theorem dL_isTop_52 : decode cL_isTop 52 = .ok (.iload 5, 2) := by decide +kernel
theorem dL_isTop_54 : decode cL_isTop 54 = .ok (.invokestatic 29, 3) := by decide +kernel
theorem dL_isTop_57 : decode cL_isTop 57 = .ok (.aload_n 0, 1) := by decide +kernel
theorem dL_isTop_58 : decode cL_isTop 58 = .ok (.iload_n 3, 1) := by decide +kernel
theorem dL_isTop_59 : decode cL_isTop 59 = .ok (.invokestatic 29, 3) := by decide +kernel
theorem dL_isTop_62 : decode cL_isTop 62 = .ok (.if_icmp .ne 7, 3) := by decide +kernel
theorem dL_isTop_65 : decode cL_isTop 65 = .ok (.iconst 1, 1) := by decide +kernel
theorem dL_isTop_66 : decode cL_isTop 66 = .ok (.goto 4, 3) := by decide +kernel
theorem dL_isTop_69 : decode cL_isTop 69 = .ok (.iconst 0, 1) := by decide +kernel
theorem dL_isTop_70 : decode cL_isTop 70 = .ok (.istore 4, 2) := by decide +kernel
theorem dL_isTop_72 : decode cL_isTop 72 = .ok (.iinc 5 1, 3) := by decide +kernel
theorem dL_isTop_75 : decode cL_isTop 75 = .ok (.goto (-67), 3) := by decide +kernel
theorem dL_isTop_78 : decode cL_isTop 78 = .ok (.iload 4, 2) := by decide +kernel
theorem dL_isTop_80 : decode cL_isTop 80 = .ok (.ireturn, 1) := by decide +kernel
set_option maxRecDepth 20000 in
theorem ggL_fork_L_has : GoodIn wsL_fork wsL_has := goodIn_r _ [5] (by decide +kernel) (by decide +kernel)
set_option maxRecDepth 20000 in
theorem gL_fork_L_has : GoodIn wsL_fork (va_wsS RL 13 yL_has wsL_has) := goodIn_app (goodIn_of _ (by decide +kernel)) ggL_fork_L_has
set_option maxRecDepth 20000 in
theorem ggL_fork_L_holder : GoodIn wsL_fork wsL_holder := goodIn_r _ [8, 2, 3, 4, 5] (by decide +kernel) (by decide +kernel)
set_option maxRecDepth 20000 in
theorem gL_fork_L_holder : GoodIn wsL_fork (va_wsS RL 29 yL_holder wsL_holder) := goodIn_app (goodIn_of _ (by decide +kernel)) ggL_fork_L_holder
theorem dL_fork_0 : decode cL_fork 0 = .ok (.aload_n 0, 1) := by decide +kernel
theorem dL_fork_1 : decode cL_fork 1 = .ok (.iconst 0, 1) := by decide +kernel
theorem dL_fork_2 : decode cL_fork 2 = .ok (.iaload, 1) := by decide +kernel
theorem dL_fork_3 : decode cL_fork 3 = .ok (.aload_n 0, 1) := by decide +kernel
theorem dL_fork_4 : decode cL_fork 4 = .ok (.iconst 1, 1) := by decide +kernel
theorem dL_fork_5 : decode cL_fork 5 = .ok (.iaload, 1) := by decide +kernel
theorem dL_fork_6 : decode cL_fork 6 = .ok (.ior, 1) := by decide +kernel
theorem dL_fork_7 : decode cL_fork 7 = .ok (.aload_n 0, 1) := by decide +kernel
theorem dL_fork_8 : decode cL_fork 8 = .ok (.iconst 2, 1) := by decide +kernel
theorem dL_fork_9 : decode cL_fork 9 = .ok (.iaload, 1) := by decide +kernel
theorem dL_fork_10 : decode cL_fork 10 = .ok (.ior, 1) := by decide +kernel
theorem dL_fork_11 : decode cL_fork 11 = .ok (.aload_n 0, 1) := by decide +kernel
theorem dL_fork_12 : decode cL_fork 12 = .ok (.iconst 3, 1) := by decide +kernel
theorem dL_fork_13 : decode cL_fork 13 = .ok (.iaload, 1) := by decide +kernel
theorem dL_fork_14 : decode cL_fork 14 = .ok (.ior, 1) := by decide +kernel
theorem dL_fork_15 : decode cL_fork 15 = .ok (.bipush 6, 2) := by decide +kernel
theorem dL_fork_17 : decode cL_fork 17 = .ok (.iload_n 2, 1) := by decide +kernel
theorem dL_fork_18 : decode cL_fork 18 = .ok (.imul, 1) := by decide +kernel
theorem dL_fork_19 : decode cL_fork 19 = .ok (.ishr, 1) := by decide +kernel
theorem dL_fork_20 : decode cL_fork 20 = .ok (.bipush 63, 2) := by decide +kernel
theorem dL_fork_22 : decode cL_fork 22 = .ok (.iand, 1) := by decide +kernel
theorem dL_fork_23 : decode cL_fork 23 = .ok (.istore_n 3, 1) := by decide +kernel
theorem dL_fork_24 : decode cL_fork 24 = .ok (.iconst 3, 1) := by decide +kernel
theorem dL_fork_25 : decode cL_fork 25 = .ok (.newarray .int, 2) := by decide +kernel
theorem dL_fork_27 : decode cL_fork 27 = .ok (.astore 4, 2) := by decide +kernel
theorem dL_fork_29 : decode cL_fork 29 = .ok (.iconst 0, 1) := by decide +kernel
theorem dL_fork_30 : decode cL_fork 30 = .ok (.istore 5, 2) := by decide +kernel
theorem dL_fork_32 : decode cL_fork 32 = .ok (.iload 5, 2) := by decide +kernel
theorem dL_fork_34 : decode cL_fork 34 = .ok (.iconst 3, 1) := by decide +kernel
theorem dL_fork_35 : decode cL_fork 35 = .ok (.if_icmp .ge 64, 3) := by decide +kernel
theorem dL_fork_38 : decode cL_fork 38 = .ok (.iconst 5, 1) := by decide +kernel
theorem dL_fork_39 : decode cL_fork 39 = .ok (.istore 6, 2) := by decide +kernel
theorem dL_fork_41 : decode cL_fork 41 = .ok (.iload 6, 2) := by decide +kernel
theorem dL_fork_43 : decode cL_fork 43 = .ok (.ifCond .lt 18, 3) := by decide +kernel
theorem dL_fork_46 : decode cL_fork 46 = .ok (.iload_n 3, 1) := by decide +kernel
theorem dL_fork_47 : decode cL_fork 47 = .ok (.iload 6, 2) := by decide +kernel
theorem dL_fork_49 : decode cL_fork 49 = .ok (.invokestatic 13, 3) := by decide +kernel
theorem dL_fork_52 : decode cL_fork 52 = .ok (.ifCond .ne 9, 3) := by decide +kernel
theorem dL_fork_55 : decode cL_fork 55 = .ok (.iinc 6 (-1), 3) := by decide +kernel
theorem dL_fork_58 : decode cL_fork 58 = .ok (.goto (-17), 3) := by decide +kernel
theorem dL_fork_61 : decode cL_fork 61 = .ok (.iload 6, 2) := by decide +kernel
theorem dL_fork_63 : decode cL_fork 63 = .ok (.ifCond .ge 5, 3) := by decide +kernel
end
section
theorem dL_fork_66 : decode cL_fork 66 = .ok (.iconst 0, 1) := by decide +kernel
theorem dL_fork_67 : decode cL_fork 67 = .ok (.ireturn, 1) := by decide +kernel
theorem dL_fork_68 : decode cL_fork 68 = .ok (.aload 4, 2) := by decide +kernel
theorem dL_fork_70 : decode cL_fork 70 = .ok (.iload 5, 2) := by decide +kernel
theorem dL_fork_72 : decode cL_fork 72 = .ok (.aload_n 0, 1) := by decide +kernel
theorem dL_fork_73 : decode cL_fork 73 = .ok (.bipush 6, 2) := by decide +kernel
theorem dL_fork_75 : decode cL_fork 75 = .ok (.iload_n 2, 1) := by decide +kernel
theorem dL_fork_76 : decode cL_fork 76 = .ok (.imul, 1) := by decide +kernel
theorem dL_fork_77 : decode cL_fork 77 = .ok (.iload 6, 2) := by decide +kernel
theorem dL_fork_79 : decode cL_fork 79 = .ok (.iadd, 1) := by decide +kernel
theorem dL_fork_80 : decode cL_fork 80 = .ok (.invokestatic 29, 3) := by decide +kernel
theorem dL_fork_83 : decode cL_fork 83 = .ok (.iastore, 1) := by decide +kernel
theorem dL_fork_84 : decode cL_fork 84 = .ok (.iload_n 3, 1) := by decide +kernel
theorem dL_fork_85 : decode cL_fork 85 = .ok (.iconst 1, 1) := by decide +kernel
theorem dL_fork_86 : decode cL_fork 86 = .ok (.iload 6, 2) := by decide +kernel
theorem dL_fork_88 : decode cL_fork 88 = .ok (.ishl, 1) := by decide +kernel
theorem dL_fork_89 : decode cL_fork 89 = .ok (.iconst (-1), 1) := by decide +kernel
theorem dL_fork_90 : decode cL_fork 90 = .ok (.ixor, 1) := by decide +kernel
theorem dL_fork_91 : decode cL_fork 91 = .ok (.iand, 1) := by decide +kernel
theorem dL_fork_92 : decode cL_fork 92 = .ok (.istore_n 3, 1) := by decide +kernel
theorem dL_fork_93 : decode cL_fork 93 = .ok (.iinc 5 1, 3) := by decide +kernel
theorem dL_fork_96 : decode cL_fork 96 = .ok (.goto (-64), 3) := by decide +kernel
theorem dL_fork_99 : decode cL_fork 99 = .ok (.aload 4, 2) := by decide +kernel
theorem dL_fork_101 : decode cL_fork 101 = .ok (.iconst 0, 1) := by decide +kernel
theorem dL_fork_102 : decode cL_fork 102 = .ok (.iaload, 1) := by decide +kernel
theorem dL_fork_103 : decode cL_fork 103 = .ok (.iload_n 1, 1) := by decide +kernel
theorem dL_fork_104 : decode cL_fork 104 = .ok (.if_icmp .ne 22, 3) := by decide +kernel
theorem dL_fork_107 : decode cL_fork 107 = .ok (.aload 4, 2) := by decide +kernel
theorem dL_fork_109 : decode cL_fork 109 = .ok (.iconst 2, 1) := by decide +kernel
theorem dL_fork_110 : decode cL_fork 110 = .ok (.iaload, 1) := by decide +kernel
theorem dL_fork_111 : decode cL_fork 111 = .ok (.iload_n 1, 1) := by decide +kernel
theorem dL_fork_112 : decode cL_fork 112 = .ok (.if_icmp .ne 14, 3) := by decide +kernel
theorem dL_fork_115 : decode cL_fork 115 = .ok (.aload 4, 2) := by decide +kernel
theorem dL_fork_117 : decode cL_fork 117 = .ok (.iconst 1, 1) := by decide +kernel
theorem dL_fork_118 : decode cL_fork 118 = .ok (.iaload, 1) := by decide +kernel
theorem dL_fork_119 : decode cL_fork 119 = .ok (.iload_n 1, 1) := by decide +kernel
theorem dL_fork_120 : decode cL_fork 120 = .ok (.isub, 1) := by decide +kernel
theorem dL_fork_121 : decode cL_fork 121 = .ok (.iconst 1, 1) := by decide +kernel
theorem dL_fork_122 : decode cL_fork 122 = .ok (.iand, 1) := by decide +kernel
theorem dL_fork_123 : decode cL_fork 123 = .ok (.ifCond .ne 7, 3) := by decide +kernel
theorem dL_fork_126 : decode cL_fork 126 = .ok (.iconst 0, 1) := by decide +kernel
theorem dL_fork_127 : decode cL_fork 127 = .ok (.goto 20, 3) := by decide +kernel
theorem dL_fork_130 : decode cL_fork 130 = .ok (.aload 4, 2) := by decide +kernel
theorem dL_fork_132 : decode cL_fork 132 = .ok (.iconst 1, 1) := by decide +kernel
theorem dL_fork_133 : decode cL_fork 133 = .ok (.iaload, 1) := by decide +kernel
theorem dL_fork_134 : decode cL_fork 134 = .ok (.iload_n 1, 1) := by decide +kernel
theorem dL_fork_135 : decode cL_fork 135 = .ok (.iconst 3, 1) := by decide +kernel
theorem dL_fork_136 : decode cL_fork 136 = .ok (.iadd, 1) := by decide +kernel
theorem dL_fork_137 : decode cL_fork 137 = .ok (.iconst 4, 1) := by decide +kernel
theorem dL_fork_138 : decode cL_fork 138 = .ok (.irem, 1) := by decide +kernel
theorem dL_fork_139 : decode cL_fork 139 = .ok (.if_icmp .ne 7, 3) := by decide +kernel
theorem dL_fork_142 : decode cL_fork 142 = .ok (.iconst 2, 1) := by decide +kernel
theorem dL_fork_143 : decode cL_fork 143 = .ok (.goto 4, 3) := by decide +kernel
theorem dL_fork_146 : decode cL_fork 146 = .ok (.iconst 1, 1) := by decide +kernel
theorem dL_fork_147 : decode cL_fork 147 = .ok (.ireturn, 1) := by decide +kernel
set_option maxRecDepth 20000 in
theorem ggL_does_X5_give : GoodIn wsL_does wsX5_give := goodIn_ca (goodIn_ca (goodIn_r _ [6, 7, 8, 9, 10, 11, 5, 12, 13, 14, 15, 16, 17, 18, 19, 20, 21, 22, 23, 24, 25, 26, 27, 28, 29, 30, 31, 32, 33, 34, 35, 36, 37, 38, 39, 40, 41, 42, 43, 44, 45, 46, 47, 48, 323, 324, 325, 326, 327, 328, 329, 330, 331, 332, 333] (by decide +kernel) (by decide +kernel)) (goodIn_sub (fun _ h => List.mem_cons_of_mem _ (List.mem_append_left _ (List.mem_append_right _ h))) (by decide +kernel))) (goodIn_sub (fun _ h => List.mem_cons_of_mem _ (List.mem_append_right _ h)) (by decide +kernel))
set_option maxRecDepth 20000 in
theorem gL_does_X5_give : GoodIn wsL_does (wsV RL 40 RX5 yX5_give wsX5_give) := goodIn_app (goodIn_of _ (by decide +kernel)) ggL_does_X5_give
set_option maxRecDepth 20000 in
theorem ggL_does_X5_start : GoodIn wsL_does wsX5_start := goodIn_ca (goodIn_ca (goodIn_r _ [52, 7, 8, 9, 53, 10, 11, 5, 12, 13, 14, 54, 55, 56, 21, 57, 23, 29, 30, 31, 32, 33, 34, 35, 36, 37, 38, 39, 40, 58, 59, 60, 61, 62, 63, 64, 65, 66, 67, 68, 69, 70, 71, 72, 73, 74, 75, 323, 324, 325, 326, 327, 328, 329, 330, 331, 332, 333, 334, 335, 336] (by decide +kernel) (by decide +kernel)) (goodIn_sub (fun _ h => List.mem_cons_of_mem _ (List.mem_append_left _ (List.mem_append_right _ h))) (by decide +kernel))) (goodIn_sub (fun _ h => List.mem_cons_of_mem _ (List.mem_append_right _ h)) (by decide +kernel))
set_option maxRecDepth 20000 in
theorem gL_does_X5_start : GoodIn wsL_does (wsV RL 46 RX5 yX5_start wsX5_start) := goodIn_app (goodIn_of _ (by decide +kernel)) ggL_does_X5_start
set_option maxRecDepth 20000 in
theorem ggL_does_X5_play : GoodIn wsL_does wsX5_play := goodIn_ca (goodIn_ca (goodIn_r _ [79, 9, 15, 16, 5, 17, 13, 14, 80, 81, 82, 83, 7, 8, 84, 85, 86, 21, 87, 88, 89, 90, 91, 23, 92, 93, 94, 95, 74, 96, 97, 98, 99, 100, 101, 102, 103, 104, 75, 105, 106, 107, 108, 29, 30, 31, 32, 33, 109, 110, 111, 112, 113, 114, 115, 116, 117, 118, 119, 27, 120, 121, 122, 123, 124, 26, 28, 125, 126, 127, 128, 129, 130, 131, 132, 133, 134, 135, 136, 137, 138, 139, 140, 141, 323, 324, 325, 326, 327, 328, 329, 330, 331, 332, 333] (by decide +kernel) (by decide +kernel)) (goodIn_sub (fun _ h => List.mem_cons_of_mem _ (List.mem_append_right _ h)) (by decide +kernel))) (goodIn_sub (fun _ h => List.mem_cons_of_mem _ (List.mem_append_left _ (List.mem_append_right _ h))) (by decide +kernel))
set_option maxRecDepth 20000 in
theorem gL_does_X5_play : GoodIn wsL_does (wsV RL 49 RX5 yX5_play wsX5_play) := goodIn_app (goodIn_of _ (by decide +kernel)) ggL_does_X5_play
set_option maxRecDepth 20000 in
theorem ggL_does_X5_takeBack : GoodIn wsL_does wsX5_takeBack := goodIn_ca (goodIn_r _ [145, 7, 8, 9, 146, 147, 148, 21, 149, 96, 150, 151, 152, 153, 113, 114, 115, 116, 117, 88, 89, 90, 91, 23, 92, 93, 94, 95, 74, 97, 98, 99, 100, 101, 102, 103, 104, 75, 105, 106, 107, 108, 45, 46, 47, 48, 33, 323, 324, 325, 326, 327, 328, 329, 330, 331, 332, 333] (by decide +kernel) (by decide +kernel)) (goodIn_sub (fun _ h => List.mem_cons_of_mem _ (List.mem_append_left _ (List.mem_append_right _ h))) (by decide +kernel))
set_option maxRecDepth 20000 in
theorem gL_does_X5_takeBack : GoodIn wsL_does (wsV RL 52 RX5 yX5_takeBack wsX5_takeBack) := goodIn_app (goodIn_of _ (by decide +kernel)) ggL_does_X5_takeBack
set_option maxRecDepth 20000 in
theorem ggL_does_X5_solve : GoodIn wsL_does wsX5_solve := goodIn_ca (goodIn_r _ [157, 53, 158, 159, 160, 5, 161, 7, 8, 9, 162, 163, 164, 21, 165, 23, 166, 167, 168, 61, 169, 170, 171, 93, 94, 95, 74, 96, 172, 173, 174, 175, 97, 98, 99, 100, 176, 177, 178, 179, 63, 180, 181, 182, 183, 184, 185, 186, 187, 106, 107, 108, 188, 189, 190, 191, 192, 193, 194, 195, 196, 197, 198, 33, 101, 102, 103, 104, 75, 199, 200, 201, 67, 202, 203, 204, 205, 206, 69, 207, 208, 209, 210, 211, 212, 213, 214, 215, 216, 217, 218, 219, 220, 89, 90, 91, 92, 105, 221, 222, 27, 223, 224, 85, 86, 87, 88, 29, 30, 31, 32, 109, 110, 111, 112, 113, 114, 115, 116, 117, 118, 119, 120, 121, 122, 123, 225, 226, 227, 228, 229, 230, 231, 232, 233, 234, 235, 236, 237, 238, 239, 240, 241, 36, 242, 243, 244, 245, 246, 247, 248, 26, 28, 249, 250, 251, 252, 253, 254, 255, 126, 127, 128, 129, 130, 131, 132, 133, 134, 135, 136, 137, 138, 139, 140, 141, 256, 257, 258, 259, 151, 152, 153, 45, 46, 47, 48, 323, 324, 325, 326, 327, 328, 329, 330, 331, 332, 333, 334, 335, 336] (by decide +kernel) (by decide +kernel)) (goodIn_sub (fun _ h => List.mem_cons_of_mem _ (List.mem_append_left _ (List.mem_append_right _ h))) (by decide +kernel))
set_option maxRecDepth 20000 in
theorem gL_does_X5_solve : GoodIn wsL_does (wsV RL 56 RX5 yX5_solve wsX5_solve) := goodIn_app (goodIn_of _ (by decide +kernel)) ggL_does_X5_solve
set_option maxRecDepth 20000 in
theorem ggL_does_X5_solveByAll : GoodIn wsL_does wsX5_solveByAll := goodIn_ca (goodIn_r _ [263, 7, 8, 9, 158, 159, 160, 5, 161, 162, 163, 164, 21, 165, 23, 264, 93, 94, 95, 74, 96, 265, 61, 266, 180, 181, 182, 183, 184, 185, 186, 220, 89, 90, 91, 92, 97, 98, 99, 100, 101, 102, 103, 104, 75, 105, 106, 107, 108, 221, 222, 27, 223, 224, 85, 86, 87, 88, 29, 30, 31, 32, 33, 109, 110, 111, 112, 113, 114, 115, 116, 117, 118, 119, 120, 121, 122, 123, 267, 238, 239, 240, 241, 36, 242, 243, 255, 126, 127, 128, 129, 130, 131, 132, 133, 134, 135, 136, 137, 138, 139, 140, 141, 256, 257, 258, 268, 259, 151, 152, 153, 45, 46, 47, 48, 323, 324, 325, 326, 327, 328, 329, 330, 331, 332, 333] (by decide +kernel) (by decide +kernel)) (goodIn_sub (fun _ h => List.mem_cons_of_mem _ (List.mem_append_left _ (List.mem_append_right _ h))) (by decide +kernel))
set_option maxRecDepth 20000 in
theorem gL_does_X5_solveByAll : GoodIn wsL_does (wsV RL 59 RX5 yX5_solveByAll wsX5_solveByAll) := goodIn_app (goodIn_of _ (by decide +kernel)) ggL_does_X5_solveByAll
set_option maxRecDepth 20000 in
theorem ggL_does_X5_value : GoodIn wsL_does wsX5_value := goodIn_ca (goodIn_ca (goodIn_r _ [272, 53, 15, 16, 5, 17, 13, 14, 80, 81, 82, 83, 7, 8, 9, 84, 85, 86, 21, 87, 88, 89, 90, 91, 23, 92, 93, 94, 95, 74, 96, 97, 98, 99, 100, 101, 102, 103, 104, 75, 105, 106, 107, 108, 29, 30, 31, 32, 33, 109, 110, 111, 112, 113, 114, 115, 116, 117, 118, 119, 27, 120, 121, 122, 123, 124, 26, 28, 273, 274, 275, 61, 276, 170, 172, 173, 174, 175, 220, 221, 222, 223, 255, 126, 127, 128, 129, 130, 131, 132, 133, 134, 135, 136, 137, 138, 139, 140, 141, 256, 257, 258, 171, 176, 177, 178, 179, 63, 180, 181, 182, 183, 184, 185, 186, 187, 188, 189, 190, 191, 192, 193, 194, 195, 196, 197, 198, 199, 200, 201, 67, 202, 203, 204, 205, 206, 69, 207, 208, 209, 210, 211, 212, 213, 214, 215, 216, 217, 218, 219, 224, 225, 226, 227, 228, 229, 230, 231, 232, 233, 234, 235, 236, 237, 238, 239, 240, 241, 36, 242, 243, 244, 245, 246, 247, 248, 249, 250, 251, 252, 253, 254, 259, 151, 152, 153, 45, 46, 47, 48, 323, 324, 325, 326, 327, 328, 329, 330, 331, 332, 333, 334, 335, 336] (by decide +kernel) (by decide +kernel)) (goodIn_sub (fun _ h => List.mem_cons_of_mem _ (List.mem_append_right _ h)) (by decide +kernel))) (goodIn_sub (fun _ h => List.mem_cons_of_mem _ (List.mem_append_left _ (List.mem_append_right _ h))) (by decide +kernel))
set_option maxRecDepth 20000 in
theorem gL_does_X5_value : GoodIn wsL_does (wsV RL 62 RX5 yX5_value wsX5_value) := goodIn_app (goodIn_of _ (by decide +kernel)) ggL_does_X5_value
set_option maxRecDepth 20000 in
theorem ggL_does_X5_bestCard : GoodIn wsL_does wsX5_bestCard := goodIn_ca (goodIn_r _ [280, 7, 8, 9, 53, 281, 89, 90, 21, 91, 23, 92, 93, 94, 95, 74, 96, 97, 98, 99, 100, 101, 102, 103, 104, 75, 105, 106, 107, 108, 282, 283, 284, 61, 285, 170, 224, 85, 86, 87, 88, 29, 30, 31, 32, 33, 109, 110, 111, 112, 113, 114, 115, 116, 117, 118, 119, 27, 120, 121, 122, 123, 225, 226, 227, 228, 229, 195, 196, 197, 198, 230, 231, 232, 233, 234, 235, 236, 237, 238, 239, 240, 241, 36, 242, 243, 244, 245, 246, 247, 248, 26, 28, 267, 286, 274, 275, 276, 172, 173, 174, 175, 220, 221, 222, 223, 255, 126, 127, 128, 129, 130, 131, 132, 133, 134, 135, 136, 137, 138, 139, 140, 141, 256, 257, 258, 171, 176, 177, 178, 179, 63, 180, 181, 182, 183, 184, 185, 186, 187, 188, 189, 190, 191, 192, 193, 194, 199, 200, 201, 67, 202, 203, 204, 205, 206, 69, 207, 208, 209, 210, 211, 212, 213, 214, 215, 216, 217, 218, 219, 249, 250, 251, 252, 253, 254, 259, 151, 152, 153, 45, 46, 47, 48, 323, 324, 325, 326, 327, 328, 329, 330, 331, 332, 333, 334, 335, 336] (by decide +kernel) (by decide +kernel)) (goodIn_sub (fun _ h => List.mem_cons_of_mem _ (List.mem_append_left _ (List.mem_append_right _ h))) (by decide +kernel))
set_option maxRecDepth 20000 in
theorem gL_does_X5_bestCard : GoodIn wsL_does (wsV RL 65 RX5 yX5_bestCard wsX5_bestCard) := goodIn_app (goodIn_of _ (by decide +kernel)) ggL_does_X5_bestCard
set_option maxRecDepth 20000 in
theorem ggL_does_X5_lowestEqual : GoodIn wsL_does wsX5_lowestEqual := goodIn_ca (goodIn_ca (goodIn_r _ [290, 291, 15, 16, 5, 17, 13, 14, 292, 293, 294, 295, 7, 8, 9, 296, 297, 298, 21, 299, 33, 25, 26, 27, 28, 300, 301, 302, 303, 304, 305, 306, 307, 30, 31, 32, 308, 226, 227, 228, 229, 195, 196, 197, 198, 230, 231, 232, 233, 96, 105, 106, 107, 108, 113, 114, 115, 116, 117, 309, 245, 246, 247, 119, 120, 248, 323, 324, 325, 326, 327, 328, 329, 330, 331, 332, 333, 337] (by decide +kernel) (by decide +kernel)) (goodIn_sub (fun _ h => List.mem_cons_of_mem _ (List.mem_append_right _ h)) (by decide +kernel))) (goodIn_sub (fun _ h => List.mem_cons_of_mem _ (List.mem_append_left _ (List.mem_append_right _ h))) (by decide +kernel))
set_option maxRecDepth 20000 in
theorem gL_does_X5_lowestEqual : GoodIn wsL_does (wsV RL 68 RX5 yX5_lowestEqual wsX5_lowestEqual) := goodIn_app (goodIn_of _ (by decide +kernel)) ggL_does_X5_lowestEqual
set_option maxRecDepth 20000 in
theorem ggL_does_X5_isTop : GoodIn wsL_does wsX5_isTop := goodIn_ca (goodIn_ca (goodIn_r _ [313, 291, 9, 15, 16, 5, 17, 13, 14, 292, 293, 294, 295, 7, 8, 296, 297, 298, 21, 299, 33, 25, 26, 27, 28, 314, 315, 316, 303, 317, 305, 318, 196, 197, 198, 307, 30, 31, 32, 319, 231, 232, 233, 96, 105, 106, 107, 108, 113, 114, 115, 116, 117, 320, 119, 120, 321, 122, 123, 322, 250, 251, 252, 253, 36, 254, 243, 323, 324, 325, 326, 327, 328, 329, 330, 331, 332, 333, 337] (by decide +kernel) (by decide +kernel)) (goodIn_sub (fun _ h => List.mem_cons_of_mem _ (List.mem_append_right _ h)) (by decide +kernel))) (goodIn_sub (fun _ h => List.mem_cons_of_mem _ (List.mem_append_left _ (List.mem_append_right _ h))) (by decide +kernel))
set_option maxRecDepth 20000 in
theorem gL_does_X5_isTop : GoodIn wsL_does (wsV RL 71 RX5 yX5_isTop wsX5_isTop) := goodIn_app (goodIn_of _ (by decide +kernel)) ggL_does_X5_isTop
theorem dL_does_0 : decode cL_does 0 = .ok (.iload_n 1, 1) := by decide +kernel
theorem dL_does_1 : decode cL_does 1 = .ok (.ifCond .ne 12, 3) := by decide +kernel
theorem dL_does_4 : decode cL_does 4 = .ok (.aload_n 0, 1) := by decide +kernel
theorem dL_does_5 : decode cL_does 5 = .ok (.iload_n 2, 1) := by decide +kernel
theorem dL_does_6 : decode cL_does 6 = .ok (.iload_n 3, 1) := by decide +kernel
theorem dL_does_7 : decode cL_does 7 = .ok (.invokevirtual 40, 3) := by decide +kernel
theorem dL_does_10 : decode cL_does 10 = .ok (.goto 119, 3) := by decide +kernel
theorem dL_does_13 : decode cL_does 13 = .ok (.iload_n 1, 1) := by decide +kernel
theorem dL_does_14 : decode cL_does 14 = .ok (.iconst 1, 1) := by decide +kernel
theorem dL_does_15 : decode cL_does 15 = .ok (.if_icmp .ne 11, 3) := by decide +kernel
theorem dL_does_18 : decode cL_does 18 = .ok (.aload_n 0, 1) := by decide +kernel
theorem dL_does_19 : decode cL_does 19 = .ok (.iload_n 2, 1) := by decide +kernel
theorem dL_does_20 : decode cL_does 20 = .ok (.invokevirtual 46, 3) := by decide +kernel
theorem dL_does_23 : decode cL_does 23 = .ok (.goto 106, 3) := by decide +kernel
theorem dL_does_26 : decode cL_does 26 = .ok (.iload_n 1, 1) := by decide +kernel
theorem dL_does_27 : decode cL_does 27 = .ok (.iconst 2, 1) := by decide +kernel
theorem dL_does_28 : decode cL_does 28 = .ok (.if_icmp .ne 11, 3) := by decide +kernel
theorem dL_does_31 : decode cL_does 31 = .ok (.aload_n 0, 1) := by decide +kernel
theorem dL_does_32 : decode cL_does 32 = .ok (.iload_n 2, 1) := by decide +kernel
theorem dL_does_33 : decode cL_does 33 = .ok (.invokevirtual 49, 3) := by decide +kernel
theorem dL_does_36 : decode cL_does 36 = .ok (.goto 93, 3) := by decide +kernel
theorem dL_does_39 : decode cL_does 39 = .ok (.iload_n 1, 1) := by decide +kernel
theorem dL_does_40 : decode cL_does 40 = .ok (.iconst 3, 1) := by decide +kernel
theorem dL_does_41 : decode cL_does 41 = .ok (.if_icmp .ne 10, 3) := by decide +kernel
theorem dL_does_44 : decode cL_does 44 = .ok (.aload_n 0, 1) := by decide +kernel
theorem dL_does_45 : decode cL_does 45 = .ok (.invokevirtual 52, 3) := by decide +kernel
theorem dL_does_48 : decode cL_does 48 = .ok (.goto 81, 3) := by decide +kernel
theorem dL_does_51 : decode cL_does 51 = .ok (.iload_n 1, 1) := by decide +kernel
theorem dL_does_52 : decode cL_does 52 = .ok (.iconst 4, 1) := by decide +kernel
theorem dL_does_53 : decode cL_does 53 = .ok (.if_icmp .ne 10, 3) := by decide +kernel
theorem dL_does_56 : decode cL_does 56 = .ok (.aload_n 0, 1) := by decide +kernel
theorem dL_does_57 : decode cL_does 57 = .ok (.invokevirtual 56, 3) := by decide +kernel
theorem dL_does_60 : decode cL_does 60 = .ok (.goto 69, 3) := by decide +kernel
theorem dL_does_63 : decode cL_does 63 = .ok (.iload_n 1, 1) := by decide +kernel
theorem dL_does_64 : decode cL_does 64 = .ok (.iconst 5, 1) := by decide +kernel
theorem dL_does_65 : decode cL_does 65 = .ok (.if_icmp .ne 10, 3) := by decide +kernel
theorem dL_does_68 : decode cL_does 68 = .ok (.aload_n 0, 1) := by decide +kernel
theorem dL_does_69 : decode cL_does 69 = .ok (.invokevirtual 59, 3) := by decide +kernel
theorem dL_does_72 : decode cL_does 72 = .ok (.goto 57, 3) := by decide +kernel
theorem dL_does_75 : decode cL_does 75 = .ok (.iload_n 1, 1) := by decide +kernel
theorem dL_does_76 : decode cL_does 76 = .ok (.bipush 6, 2) := by decide +kernel
theorem dL_does_78 : decode cL_does 78 = .ok (.if_icmp .ne 11, 3) := by decide +kernel
theorem dL_does_81 : decode cL_does 81 = .ok (.aload_n 0, 1) := by decide +kernel
theorem dL_does_82 : decode cL_does 82 = .ok (.iload_n 2, 1) := by decide +kernel
theorem dL_does_83 : decode cL_does 83 = .ok (.invokevirtual 62, 3) := by decide +kernel
theorem dL_does_86 : decode cL_does 86 = .ok (.goto 43, 3) := by decide +kernel
theorem dL_does_89 : decode cL_does 89 = .ok (.iload_n 1, 1) := by decide +kernel
theorem dL_does_90 : decode cL_does 90 = .ok (.bipush 7, 2) := by decide +kernel
theorem dL_does_92 : decode cL_does 92 = .ok (.if_icmp .ne 10, 3) := by decide +kernel
theorem dL_does_95 : decode cL_does 95 = .ok (.aload_n 0, 1) := by decide +kernel
theorem dL_does_96 : decode cL_does 96 = .ok (.invokevirtual 65, 3) := by decide +kernel
theorem dL_does_99 : decode cL_does 99 = .ok (.goto 30, 3) := by decide +kernel
theorem dL_does_102 : decode cL_does 102 = .ok (.iload_n 1, 1) := by decide +kernel
theorem dL_does_103 : decode cL_does 103 = .ok (.bipush 8, 2) := by decide +kernel
theorem dL_does_105 : decode cL_does 105 = .ok (.if_icmp .ne 11, 3) := by decide +kernel
theorem dL_does_108 : decode cL_does 108 = .ok (.aload_n 0, 1) := by decide +kernel
theorem dL_does_109 : decode cL_does 109 = .ok (.iload_n 2, 1) := by decide +kernel
theorem dL_does_110 : decode cL_does 110 = .ok (.invokevirtual 68, 3) := by decide +kernel
theorem dL_does_113 : decode cL_does 113 = .ok (.goto 16, 3) := by decide +kernel
theorem dL_does_116 : decode cL_does 116 = .ok (.aload_n 0, 1) := by decide +kernel
theorem dL_does_117 : decode cL_does 117 = .ok (.iload_n 2, 1) := by decide +kernel
theorem dL_does_118 : decode cL_does 118 = .ok (.invokevirtual 71, 3) := by decide +kernel
theorem dL_does_121 : decode cL_does 121 = .ok (.ifCond .eq 7, 3) := by decide +kernel
theorem dL_does_124 : decode cL_does 124 = .ok (.iconst 1, 1) := by decide +kernel
theorem dL_does_125 : decode cL_does 125 = .ok (.goto 4, 3) := by decide +kernel
theorem dL_does_128 : decode cL_does 128 = .ok (.iconst 0, 1) := by decide +kernel
theorem dL_does_129 : decode cL_does 129 = .ok (.ireturn, 1) := by decide +kernel
theorem dL_does_130 : decode cL_does 130 = .ok (.astore 4, 2) := by decide +kernel
theorem dL_does_132 : decode cL_does 132 = .ok (.bipush (-13), 2) := by decide +kernel
theorem dL_does_134 : decode cL_does 134 = .ok (.ireturn, 1) := by decide +kernel
set_option maxRecDepth 20000 in
theorem ggL_isGame_L_leader : GoodIn wsL_isGame wsL_leader := goodIn_r _ [4] (by decide +kernel) (by decide +kernel)
set_option maxRecDepth 20000 in
theorem gL_isGame_L_leader : GoodIn wsL_isGame (va_wsS RL 7 yL_leader wsL_leader) := goodIn_app (goodIn_of _ (by decide +kernel)) ggL_isGame_L_leader
set_option maxRecDepth 20000 in
theorem ggL_isGame_X5_isStarted : GoodIn wsL_isGame wsX5_isStarted := goodIn_r _ [9, 10, 11, 12, 13, 14, 15, 16, 432, 433, 434, 435, 436, 437, 438, 439, 440, 441, 442] (by decide +kernel) (by decide +kernel)
set_option maxRecDepth 20000 in
theorem gL_isGame_X5_isStarted : GoodIn wsL_isGame (wsV RL 77 RX5 yX5_isStarted wsX5_isStarted) := goodIn_app (goodIn_of _ (by decide +kernel)) ggL_isGame_X5_isStarted
set_option maxRecDepth 20000 in
theorem ggL_isGame_X5_turn : GoodIn wsL_isGame wsX5_turn := goodIn_r _ [20, 10, 21, 22, 23, 14, 24, 16, 25, 26, 27, 28, 29, 30, 31, 32, 33, 34, 35, 36, 37, 38, 39, 40, 41, 42, 43, 432, 433, 434, 435, 436, 437, 438, 439, 440, 441, 442] (by decide +kernel) (by decide +kernel)
set_option maxRecDepth 20000 in
theorem gL_isGame_X5_turn : GoodIn wsL_isGame (wsV RL 81 RX5 yX5_turn wsX5_turn) := goodIn_app (goodIn_of _ (by decide +kernel)) ggL_isGame_X5_turn
set_option maxRecDepth 20000 in
theorem ggL_isGame_X5_inTrick : GoodIn wsL_isGame wsX5_inTrick := goodIn_r _ [47, 10, 48, 41, 42, 14, 43, 30, 432, 433, 434, 435, 436, 437, 438, 439, 440, 441, 442] (by decide +kernel) (by decide +kernel)
set_option maxRecDepth 20000 in
theorem gL_isGame_X5_inTrick : GoodIn wsL_isGame (wsV RL 84 RX5 yX5_inTrick wsX5_inTrick) := goodIn_app (goodIn_of _ (by decide +kernel)) ggL_isGame_X5_inTrick
set_option maxRecDepth 20000 in
theorem ggL_isGame_X5_won : GoodIn wsL_isGame wsX5_won := goodIn_ca (goodIn_r _ [52, 53, 54, 10, 55, 56, 57, 14, 58, 31, 32, 33, 34, 30, 35, 36, 37, 38, 39, 59, 60, 61, 62, 432, 433, 434, 435, 436, 437, 438, 439, 440, 441, 442] (by decide +kernel) (by decide +kernel)) (goodIn_sub (fun _ h => List.mem_cons_of_mem _ (List.mem_append_left _ (List.mem_append_left _ (List.mem_append_right _ h)))) (by decide +kernel))
set_option maxRecDepth 20000 in
theorem gL_isGame_X5_won : GoodIn wsL_isGame (wsV RL 87 RX5 yX5_won wsX5_won) := goodIn_app (goodIn_of _ (by decide +kernel)) ggL_isGame_X5_won
set_option maxRecDepth 20000 in
theorem ggL_isGame_L_tricks : GoodIn wsL_isGame wsL_tricks := goodIn_r _ [65, 1, 2, 3, 4] (by decide +kernel) (by decide +kernel)
set_option maxRecDepth 20000 in
theorem gL_isGame_L_tricks : GoodIn wsL_isGame (va_wsS RL 25 yL_tricks wsL_tricks) := goodIn_app (goodIn_of _ (by decide +kernel)) ggL_isGame_L_tricks
set_option maxRecDepth 20000 in
theorem ggL_isGame_X5_cardIn : GoodIn wsL_isGame wsX5_cardIn := goodIn_ca (goodIn_r _ [69, 70, 71, 10, 48, 41, 42, 14, 43, 30, 72, 73, 74, 75, 40, 76, 77, 78, 79, 80, 432, 433, 434, 435, 436, 437, 438, 439, 440, 441, 442] (by decide +kernel) (by decide +kernel)) (goodIn_sub (fun _ h => List.mem_cons_of_mem _ (List.mem_append_left _ (List.mem_append_right _ h))) (by decide +kernel))
set_option maxRecDepth 20000 in
theorem gL_isGame_X5_cardIn : GoodIn wsL_isGame (wsV RL 90 RX5 yX5_cardIn wsX5_cardIn) := goodIn_app (goodIn_of _ (by decide +kernel)) ggL_isGame_X5_cardIn
set_option maxRecDepth 20000 in
theorem ggL_isGame_L_has : GoodIn wsL_isGame wsL_has := goodIn_r _ [83] (by decide +kernel) (by decide +kernel)
set_option maxRecDepth 20000 in
theorem gL_isGame_L_has : GoodIn wsL_isGame (va_wsS RL 13 yL_has wsL_has) := goodIn_app (goodIn_of _ (by decide +kernel)) ggL_isGame_L_has
set_option maxRecDepth 20000 in
theorem ggL_isGame_L_lowest : GoodIn wsL_isGame wsL_lowest := goodIn_r _ [86, 87, 88, 3, 89, 81, 82, 83, 90, 91, 92, 93, 94, 95] (by decide +kernel) (by decide +kernel)
set_option maxRecDepth 20000 in
theorem gL_isGame_L_lowest : GoodIn wsL_isGame (va_wsS RL 93 yL_lowest wsL_lowest) := goodIn_app (goodIn_of _ (by decide +kernel)) ggL_isGame_L_lowest
set_option maxRecDepth 20000 in
theorem ggL_isGame_L_isTop : GoodIn wsL_isGame wsL_isTop := goodIn_r _ [98, 93, 94, 3, 95, 87, 88, 89, 81, 82, 83] (by decide +kernel) (by decide +kernel)
set_option maxRecDepth 20000 in
theorem gL_isGame_L_isTop : GoodIn wsL_isGame (va_wsS RL 97 yL_isTop wsL_isTop) := goodIn_app (goodIn_of _ (by decide +kernel)) ggL_isGame_L_isTop
set_option maxRecDepth 20000 in
theorem ggL_isGame_X5_hand : GoodIn wsL_isGame wsX5_hand := goodIn_ca (goodIn_r _ [102, 10, 103, 104, 8, 105, 53, 54, 106, 107, 108, 14, 109, 110, 432, 433, 434, 435, 436, 437, 438, 439, 440, 441, 442] (by decide +kernel) (by decide +kernel)) (goodIn_sub (fun _ h => List.mem_cons_of_mem _ (List.mem_append_left _ (List.mem_append_left _ (List.mem_append_right _ h)))) (by decide +kernel))
set_option maxRecDepth 20000 in
theorem gL_isGame_X5_hand : GoodIn wsL_isGame (wsV RL 100 RX5 yX5_hand wsX5_hand) := goodIn_app (goodIn_of _ (by decide +kernel)) ggL_isGame_X5_hand
set_option maxRecDepth 20000 in
theorem ggL_isGame_X5_unlike : GoodIn wsL_isGame wsX5_unlike := goodIn_ca (goodIn_r _ [114, 10, 103, 104, 8, 105, 53, 54, 106, 107, 108, 14, 109, 110, 115, 116, 117, 118, 119, 120, 121, 122, 123, 124, 125, 126, 127, 30, 40, 41, 42, 43, 76, 77, 78, 79, 80, 128, 129, 61, 130, 131, 132, 133, 134, 135, 136, 137, 138, 139, 140, 141, 142, 143, 144, 145, 146, 147, 148, 149, 150, 151, 152, 153, 432, 433, 434, 435, 436, 437, 438, 439, 440, 441, 442] (by decide +kernel) (by decide +kernel)) (goodIn_sub (fun _ h => List.mem_cons_of_mem _ (List.mem_append_left _ (List.mem_append_left _ (List.mem_append_right _ h)))) (by decide +kernel))
set_option maxRecDepth 20000 in
theorem gL_isGame_X5_unlike : GoodIn wsL_isGame (wsV RL 103 RX5 yX5_unlike wsX5_unlike) := goodIn_app (goodIn_of _ (by decide +kernel)) ggL_isGame_X5_unlike
set_option maxRecDepth 20000 in
theorem ggL_isGame_X5_quick : GoodIn wsL_isGame wsX5_quick := goodIn_ca (goodIn_r _ [157, 158, 103, 104, 8, 105, 53, 54, 159, 160, 161, 162, 163, 164, 165, 107, 108, 14, 109, 110, 166, 146, 61, 147, 167, 168, 169, 170, 171, 121, 122, 123, 172, 125, 126, 127, 30, 40, 41, 42, 43, 76, 77, 78, 79, 80, 173, 143, 144, 174, 175, 176, 177, 178, 179, 180, 181, 136, 182, 138, 432, 433, 434, 443, 435, 436, 437, 438, 439, 440, 441, 442] (by decide +kernel) (by decide +kernel)) (goodIn_sub (fun _ h => List.mem_cons_of_mem _ (List.mem_append_left _ (List.mem_append_left _ (List.mem_append_right _ h)))) (by decide +kernel))
set_option maxRecDepth 20000 in
theorem gL_isGame_X5_quick : GoodIn wsL_isGame (wsV RL 106 RX5 yX5_quick wsX5_quick) := goodIn_app (goodIn_of _ (by decide +kernel)) ggL_isGame_X5_quick
set_option maxRecDepth 20000 in
theorem ggL_isGame_L_fork : GoodIn wsL_isGame wsL_fork := goodIn_r _ [185, 186, 81, 82, 3, 83, 87, 88, 89] (by decide +kernel) (by decide +kernel)
set_option maxRecDepth 20000 in
theorem gL_isGame_L_fork : GoodIn wsL_isGame (va_wsS RL 109 yL_fork wsL_fork) := goodIn_app (goodIn_of _ (by decide +kernel)) ggL_isGame_L_fork
set_option maxRecDepth 20000 in
theorem ggL_isGame_X5_fork : GoodIn wsL_isGame wsX5_fork := goodIn_ca (goodIn_r _ [190, 53, 54, 158, 103, 104, 8, 105, 191, 192, 193, 162, 194, 164, 171, 121, 122, 14, 123, 110, 174, 175, 61, 176, 195, 149, 136, 150, 151, 152, 153, 177, 178, 179, 180, 181, 182, 138, 196, 197, 198, 199, 200, 146, 147, 201, 60, 62, 432, 433, 434, 443, 435, 436, 437, 438, 439, 440, 441, 442] (by decide +kernel) (by decide +kernel)) (goodIn_sub (fun _ h => List.mem_cons_of_mem _ (List.mem_append_left _ (List.mem_append_left _ (List.mem_append_right _ h)))) (by decide +kernel))
set_option maxRecDepth 20000 in
theorem gL_isGame_X5_fork : GoodIn wsL_isGame (wsV RL 113 RX5 yX5_fork wsX5_fork) := goodIn_app (goodIn_of _ (by decide +kernel)) ggL_isGame_X5_fork
set_option maxRecDepth 20000 in
theorem ggL_isGame_X5_canPlay : GoodIn wsL_isGame wsX5_canPlay := goodIn_ca (goodIn_r _ [205, 10, 206, 207, 8, 208, 53, 54, 209, 210, 211, 14, 212, 213, 22, 23, 24, 16, 25, 26, 27, 28, 29, 30, 31, 32, 33, 34, 35, 36, 37, 38, 39, 40, 41, 42, 43, 214, 107, 108, 109, 110, 215, 73, 74, 75, 76, 77, 78, 79, 80, 216, 143, 61, 144, 217, 175, 176, 218, 146, 147, 432, 433, 434, 435, 436, 437, 438, 439, 440, 441, 442] (by decide +kernel) (by decide +kernel)) (goodIn_sub (fun _ h => List.mem_cons_of_mem _ (List.mem_append_left _ (List.mem_append_left _ (List.mem_append_right _ h)))) (by decide +kernel))
set_option maxRecDepth 20000 in
theorem gL_isGame_X5_canPlay : GoodIn wsL_isGame (wsV RL 115 RX5 yX5_canPlay wsX5_canPlay) := goodIn_app (goodIn_of _ (by decide +kernel)) ggL_isGame_X5_canPlay
set_option maxRecDepth 20000 in
theorem ggL_isGame_L_can : GoodIn wsL_isGame wsL_can := goodIn_r _ [221, 1, 2, 3, 4, 81, 82, 83] (by decide +kernel) (by decide +kernel)
set_option maxRecDepth 20000 in
theorem gL_isGame_L_can : GoodIn wsL_isGame (va_wsS RL 21 yL_can wsL_can) := goodIn_app (goodIn_of _ (by decide +kernel)) ggL_isGame_L_can
set_option maxRecDepth 20000 in
theorem ggL_isGame_L_does : GoodIn wsL_isGame wsL_does := goodIn_ca (goodIn_ca (goodIn_r _ [224, 225, 226, 227, 228, 8, 229, 230, 231, 10, 103, 104, 105, 53, 54, 206, 207, 208, 232, 233, 234, 14, 235, 16, 236, 200, 146, 61, 147, 214, 107, 108, 109, 110, 237, 149, 136, 150, 151, 152, 153, 238, 239, 240, 241, 242, 243, 244, 245, 246, 247, 248, 249, 250, 251, 252, 253, 254, 255, 256, 257, 258, 259, 260, 261, 262, 263, 264, 265, 266, 267, 268, 269, 270, 29, 39, 271, 272, 273, 274, 275, 276, 277, 278, 209, 210, 211, 212, 213, 22, 23, 24, 25, 26, 27, 28, 30, 31, 32, 33, 34, 35, 36, 37, 38, 40, 41, 42, 43, 215, 73, 74, 75, 76, 77, 78, 79, 80, 216, 143, 144, 217, 175, 176, 218, 279, 280, 281, 282, 283, 284, 285, 286, 287, 288, 289, 290, 291, 292, 293, 294, 295, 296, 297, 298, 299, 300, 301, 302, 303, 304, 305, 306, 307, 308, 309, 310, 311, 312, 313, 314, 315, 11, 12, 13, 15, 316, 317, 318, 319, 320, 321, 322, 323, 324, 325, 326, 327, 328, 329, 330, 331, 332, 333, 334, 335, 336, 337, 338, 339, 340, 341, 342, 343, 344, 120, 121, 122, 123, 345, 346, 347, 348, 349, 350, 351, 352, 353, 354, 355, 356, 357, 358, 359, 360, 361, 362, 363, 364, 365, 366, 367, 60, 62, 368, 369, 116, 117, 118, 119, 124, 125, 126, 127, 370, 129, 130, 131, 132, 133, 134, 135, 137, 138, 139, 140, 141, 142, 145, 371, 178, 179, 180, 181, 182, 372, 373, 374, 375, 376, 377, 378, 379, 380, 381, 382, 383, 384, 385, 386, 387, 388, 389, 390, 391, 392, 393, 394, 395, 396, 397, 21, 398, 399, 400, 401, 402, 403, 404, 405, 406, 158, 407, 408, 409, 410, 411, 197, 198, 199, 412, 413, 414, 162, 415, 164, 196, 165, 416, 417, 418, 419, 420, 421, 422, 168, 169, 170, 171, 172, 173, 174, 177, 432, 433, 434, 435, 436, 437, 438, 439, 440, 441, 442, 444, 445, 446, 443] (by decide +kernel) (by decide +kernel)) (goodIn_sub (fun _ h => List.mem_cons_of_mem _ (List.mem_append_right _ h)) (by decide +kernel))) (goodIn_sub (fun _ h => List.mem_cons_of_mem _ (List.mem_append_left _ (List.mem_append_left _ (List.mem_append_right _ h)))) (by decide +kernel))
set_option maxRecDepth 20000 in
theorem gL_isGame_L_does : GoodIn wsL_isGame (va_wsS RL 118 yL_does wsL_does) := goodIn_app (goodIn_of _ (by decide +kernel)) ggL_isGame_L_does
set_option maxRecDepth 20000 in
theorem ggL_isGame_X5_goodForks : GoodIn wsL_isGame wsX5_goodForks := goodIn_r _ [426, 158, 427, 428, 429, 162, 430, 431, 192, 193, 194, 164, 171, 121, 122, 14, 123, 110, 174, 175, 61, 176, 195, 149, 136, 150, 151, 152, 153, 177, 178, 179, 180, 181, 182, 138, 196, 197, 198, 199, 200, 146, 147, 201, 60, 62, 432, 433, 434, 443, 435, 436, 437, 438, 439, 440, 441, 442] (by decide +kernel) (by decide +kernel)
set_option maxRecDepth 20000 in
theorem gL_isGame_X5_goodForks : GoodIn wsL_isGame (wsV RL 122 RX5 yX5_goodForks wsX5_goodForks) := goodIn_app (goodIn_of _ (by decide +kernel)) ggL_isGame_X5_goodForks
theorem dL_isGame_0 : decode cL_isGame 0 = .ok (.aload_n 1, 1) := by decide +kernel
theorem dL_isGame_1 : decode cL_isGame 1 = .ok (.iconst 0, 1) := by decide +kernel
theorem dL_isGame_2 : decode cL_isGame 2 = .ok (.iaload, 1) := by decide +kernel
theorem dL_isGame_3 : decode cL_isGame 3 = .ok (.aload_n 1, 1) := by decide +kernel
theorem dL_isGame_4 : decode cL_isGame 4 = .ok (.iconst 1, 1) := by decide +kernel
theorem dL_isGame_5 : decode cL_isGame 5 = .ok (.iaload, 1) := by decide +kernel
theorem dL_isGame_6 : decode cL_isGame 6 = .ok (.ior, 1) := by decide +kernel
theorem dL_isGame_7 : decode cL_isGame 7 = .ok (.aload_n 1, 1) := by decide +kernel
theorem dL_isGame_8 : decode cL_isGame 8 = .ok (.iconst 2, 1) := by decide +kernel
theorem dL_isGame_9 : decode cL_isGame 9 = .ok (.iaload, 1) := by decide +kernel
theorem dL_isGame_10 : decode cL_isGame 10 = .ok (.ior, 1) := by decide +kernel
theorem dL_isGame_11 : decode cL_isGame 11 = .ok (.aload_n 1, 1) := by decide +kernel
theorem dL_isGame_12 : decode cL_isGame 12 = .ok (.iconst 3, 1) := by decide +kernel
theorem dL_isGame_13 : decode cL_isGame 13 = .ok (.iaload, 1) := by decide +kernel
theorem dL_isGame_14 : decode cL_isGame 14 = .ok (.ior, 1) := by decide +kernel
theorem dL_isGame_15 : decode cL_isGame 15 = .ok (.istore 4, 2) := by decide +kernel
theorem dL_isGame_17 : decode cL_isGame 17 = .ok (.aload_n 3, 1) := by decide +kernel
theorem dL_isGame_18 : decode cL_isGame 18 = .ok (.iconst 0, 1) := by decide +kernel
theorem dL_isGame_19 : decode cL_isGame 19 = .ok (.iaload, 1) := by decide +kernel
theorem dL_isGame_20 : decode cL_isGame 20 = .ok (.iconst 4, 1) := by decide +kernel
theorem dL_isGame_21 : decode cL_isGame 21 = .ok (.irem, 1) := by decide +kernel
theorem dL_isGame_22 : decode cL_isGame 22 = .ok (.istore 5, 2) := by decide +kernel
theorem dL_isGame_24 : decode cL_isGame 24 = .ok (.aload_n 3, 1) := by decide +kernel
theorem dL_isGame_25 : decode cL_isGame 25 = .ok (.iconst 3, 1) := by decide +kernel
theorem dL_isGame_26 : decode cL_isGame 26 = .ok (.iaload, 1) := by decide +kernel
theorem dL_isGame_27 : decode cL_isGame 27 = .ok (.ifCond .eq 8, 3) := by decide +kernel
theorem dL_isGame_30 : decode cL_isGame 30 = .ok (.iload 4, 2) := by decide +kernel
theorem dL_isGame_32 : decode cL_isGame 32 = .ok (.ifCond .ne 7, 3) := by decide +kernel
theorem dL_isGame_35 : decode cL_isGame 35 = .ok (.iconst (-1), 1) := by decide +kernel
theorem dL_isGame_36 : decode cL_isGame 36 = .ok (.goto 16, 3) := by decide +kernel
theorem dL_isGame_39 : decode cL_isGame 39 = .ok (.aload_n 2, 1) := by decide +kernel
theorem dL_isGame_40 : decode cL_isGame 40 = .ok (.aload_n 3, 1) := by decide +kernel
theorem dL_isGame_41 : decode cL_isGame 41 = .ok (.aload_n 3, 1) := by decide +kernel
theorem dL_isGame_42 : decode cL_isGame 42 = .ok (.iconst 0, 1) := by decide +kernel
theorem dL_isGame_43 : decode cL_isGame 43 = .ok (.iaload, 1) := by decide +kernel
theorem dL_isGame_44 : decode cL_isGame 44 = .ok (.invokestatic 7, 3) := by decide +kernel
theorem dL_isGame_47 : decode cL_isGame 47 = .ok (.iload 5, 2) := by decide +kernel
theorem dL_isGame_49 : decode cL_isGame 49 = .ok (.iadd, 1) := by decide +kernel
theorem dL_isGame_50 : decode cL_isGame 50 = .ok (.iconst 4, 1) := by decide +kernel
theorem dL_isGame_51 : decode cL_isGame 51 = .ok (.irem, 1) := by decide +kernel
theorem dL_isGame_52 : decode cL_isGame 52 = .ok (.istore 6, 2) := by decide +kernel
theorem dL_isGame_54 : decode cL_isGame 54 = .ok (.aload_n 0, 1) := by decide +kernel
theorem dL_isGame_55 : decode cL_isGame 55 = .ok (.invokevirtual 77, 3) := by decide +kernel
theorem dL_isGame_58 : decode cL_isGame 58 = .ok (.aload_n 3, 1) := by decide +kernel
theorem dL_isGame_59 : decode cL_isGame 59 = .ok (.iconst 3, 1) := by decide +kernel
theorem dL_isGame_60 : decode cL_isGame 60 = .ok (.iaload, 1) := by decide +kernel
theorem dL_isGame_61 : decode cL_isGame 61 = .ok (.iconst 1, 1) := by decide +kernel
theorem dL_isGame_62 : decode cL_isGame 62 = .ok (.if_icmp .ne 7, 3) := by decide +kernel
theorem dL_isGame_65 : decode cL_isGame 65 = .ok (.iconst 1, 1) := by decide +kernel
theorem dL_isGame_66 : decode cL_isGame 66 = .ok (.goto 4, 3) := by decide +kernel
theorem dL_isGame_69 : decode cL_isGame 69 = .ok (.iconst 0, 1) := by decide +kernel
theorem dL_isGame_70 : decode cL_isGame 70 = .ok (.if_icmp .ne 59, 3) := by decide +kernel
theorem dL_isGame_73 : decode cL_isGame 73 = .ok (.aload_n 0, 1) := by decide +kernel
theorem dL_isGame_74 : decode cL_isGame 74 = .ok (.invokevirtual 81, 3) := by decide +kernel
theorem dL_isGame_77 : decode cL_isGame 77 = .ok (.iload 6, 2) := by decide +kernel
theorem dL_isGame_79 : decode cL_isGame 79 = .ok (.if_icmp .ne 50, 3) := by decide +kernel
theorem dL_isGame_82 : decode cL_isGame 82 = .ok (.aload_n 0, 1) := by decide +kernel
theorem dL_isGame_83 : decode cL_isGame 83 = .ok (.invokevirtual 84, 3) := by decide +kernel
theorem dL_isGame_86 : decode cL_isGame 86 = .ok (.iload 5, 2) := by decide +kernel
theorem dL_isGame_88 : decode cL_isGame 88 = .ok (.if_icmp .ne 41, 3) := by decide +kernel
theorem dL_isGame_91 : decode cL_isGame 91 = .ok (.aload_n 0, 1) := by decide +kernel
theorem dL_isGame_92 : decode cL_isGame 92 = .ok (.iconst 0, 1) := by decide +kernel
theorem dL_isGame_93 : decode cL_isGame 93 = .ok (.invokevirtual 87, 3) := by decide +kernel
theorem dL_isGame_96 : decode cL_isGame 96 = .ok (.aload_n 2, 1) := by decide +kernel
theorem dL_isGame_97 : decode cL_isGame 97 = .ok (.aload_n 3, 1) := by decide +kernel
theorem dL_isGame_98 : decode cL_isGame 98 = .ok (.aload_n 3, 1) := by decide +kernel
theorem dL_isGame_99 : decode cL_isGame 99 = .ok (.iconst 0, 1) := by decide +kernel
theorem dL_isGame_100 : decode cL_isGame 100 = .ok (.iaload, 1) := by decide +kernel
theorem dL_isGame_101 : decode cL_isGame 101 = .ok (.iconst 0, 1) := by decide +kernel
theorem dL_isGame_102 : decode cL_isGame 102 = .ok (.invokestatic 25, 3) := by decide +kernel
theorem dL_isGame_105 : decode cL_isGame 105 = .ok (.if_icmp .ne 24, 3) := by decide +kernel
theorem dL_isGame_108 : decode cL_isGame 108 = .ok (.aload_n 0, 1) := by decide +kernel
theorem dL_isGame_109 : decode cL_isGame 109 = .ok (.iconst 1, 1) := by decide +kernel
theorem dL_isGame_110 : decode cL_isGame 110 = .ok (.invokevirtual 87, 3) := by decide +kernel
theorem dL_isGame_113 : decode cL_isGame 113 = .ok (.aload_n 2, 1) := by decide +kernel
theorem dL_isGame_114 : decode cL_isGame 114 = .ok (.aload_n 3, 1) := by decide +kernel
theorem dL_isGame_115 : decode cL_isGame 115 = .ok (.aload_n 3, 1) := by decide +kernel
theorem dL_isGame_116 : decode cL_isGame 116 = .ok (.iconst 0, 1) := by decide +kernel
theorem dL_isGame_117 : decode cL_isGame 117 = .ok (.iaload, 1) := by decide +kernel
theorem dL_isGame_118 : decode cL_isGame 118 = .ok (.iconst 1, 1) := by decide +kernel
theorem dL_isGame_119 : decode cL_isGame 119 = .ok (.invokestatic 25, 3) := by decide +kernel
theorem dL_isGame_122 : decode cL_isGame 122 = .ok (.if_icmp .ne 7, 3) := by decide +kernel
theorem dL_isGame_125 : decode cL_isGame 125 = .ok (.iconst 1, 1) := by decide +kernel
theorem dL_isGame_126 : decode cL_isGame 126 = .ok (.goto 4, 3) := by decide +kernel
theorem dL_isGame_129 : decode cL_isGame 129 = .ok (.iconst 0, 1) := by decide +kernel
theorem dL_isGame_130 : decode cL_isGame 130 = .ok (.istore 7, 2) := by decide +kernel
theorem dL_isGame_132 : decode cL_isGame 132 = .ok (.iconst 0, 1) := by decide +kernel
theorem dL_isGame_133 : decode cL_isGame 133 = .ok (.istore 8, 2) := by decide +kernel
theorem dL_isGame_135 : decode cL_isGame 135 = .ok (.iload 8, 2) := by decide +kernel
theorem dL_isGame_137 : decode cL_isGame 137 = .ok (.iload 5, 2) := by decide +kernel
theorem dL_isGame_139 : decode cL_isGame 139 = .ok (.if_icmp .ge 41, 3) := by decide +kernel
theorem dL_isGame_142 : decode cL_isGame 142 = .ok (.iload 7, 2) := by decide +kernel
theorem dL_isGame_144 : decode cL_isGame 144 = .ok (.ifCond .eq 36, 3) := by decide +kernel
theorem dL_isGame_147 : decode cL_isGame 147 = .ok (.aload_n 0, 1) := by decide +kernel
theorem dL_isGame_148 : decode cL_isGame 148 = .ok (.iload 8, 2) := by decide +kernel
theorem dL_isGame_150 : decode cL_isGame 150 = .ok (.invokevirtual 90, 3) := by decide +kernel
theorem dL_isGame_153 : decode cL_isGame 153 = .ok (.aload_n 2, 1) := by decide +kernel
theorem dL_isGame_154 : decode cL_isGame 154 = .ok (.aload_n 3, 1) := by decide +kernel
theorem dL_isGame_155 : decode cL_isGame 155 = .ok (.iconst 0, 1) := by decide +kernel
theorem dL_isGame_156 : decode cL_isGame 156 = .ok (.iaload, 1) := by decide +kernel
theorem dL_isGame_157 : decode cL_isGame 157 = .ok (.iload 5, 2) := by decide +kernel
theorem dL_isGame_159 : decode cL_isGame 159 = .ok (.isub, 1) := by decide +kernel
theorem dL_isGame_160 : decode cL_isGame 160 = .ok (.iload 8, 2) := by decide +kernel
theorem dL_isGame_162 : decode cL_isGame 162 = .ok (.iadd, 1) := by decide +kernel
theorem dL_isGame_163 : decode cL_isGame 163 = .ok (.iaload, 1) := by decide +kernel
theorem dL_isGame_164 : decode cL_isGame 164 = .ok (.if_icmp .ne 7, 3) := by decide +kernel
theorem dL_isGame_167 : decode cL_isGame 167 = .ok (.iconst 1, 1) := by decide +kernel
theorem dL_isGame_168 : decode cL_isGame 168 = .ok (.goto 4, 3) := by decide +kernel
theorem dL_isGame_171 : decode cL_isGame 171 = .ok (.iconst 0, 1) := by decide +kernel
theorem dL_isGame_172 : decode cL_isGame 172 = .ok (.istore 7, 2) := by decide +kernel
theorem dL_isGame_174 : decode cL_isGame 174 = .ok (.iinc 8 1, 3) := by decide +kernel
theorem dL_isGame_177 : decode cL_isGame 177 = .ok (.goto (-42), 3) := by decide +kernel
theorem dL_isGame_180 : decode cL_isGame 180 = .ok (.iconst 0, 1) := by decide +kernel
theorem dL_isGame_181 : decode cL_isGame 181 = .ok (.istore 8, 2) := by decide +kernel
theorem dL_isGame_183 : decode cL_isGame 183 = .ok (.iconst 0, 1) := by decide +kernel
theorem dL_isGame_184 : decode cL_isGame 184 = .ok (.istore 9, 2) := by decide +kernel
theorem dL_isGame_186 : decode cL_isGame 186 = .ok (.iload 9, 2) := by decide +kernel
theorem dL_isGame_188 : decode cL_isGame 188 = .ok (.iconst 4, 1) := by decide +kernel
theorem dL_isGame_189 : decode cL_isGame 189 = .ok (.if_icmp .ge 219, 3) := by decide +kernel
theorem dL_isGame_192 : decode cL_isGame 192 = .ok (.iload 7, 2) := by decide +kernel
theorem dL_isGame_194 : decode cL_isGame 194 = .ok (.ifCond .eq 214, 3) := by decide +kernel
theorem dL_isGame_197 : decode cL_isGame 197 = .ok (.iconst 0, 1) := by decide +kernel
theorem dL_isGame_198 : decode cL_isGame 198 = .ok (.istore 10, 2) := by decide +kernel
theorem dL_isGame_200 : decode cL_isGame 200 = .ok (.iconst 0, 1) := by decide +kernel
theorem dL_isGame_201 : decode cL_isGame 201 = .ok (.istore 11, 2) := by decide +kernel
theorem dL_isGame_203 : decode cL_isGame 203 = .ok (.iconst 0, 1) := by decide +kernel
theorem dL_isGame_204 : decode cL_isGame 204 = .ok (.istore 12, 2) := by decide +kernel
theorem dL_isGame_206 : decode cL_isGame 206 = .ok (.iload 12, 2) := by decide +kernel
theorem dL_isGame_208 : decode cL_isGame 208 = .ok (.bipush 24, 2) := by decide +kernel
theorem dL_isGame_210 : decode cL_isGame 210 = .ok (.if_icmp .ge 77, 3) := by decide +kernel
theorem dL_isGame_213 : decode cL_isGame 213 = .ok (.iload 10, 2) := by decide +kernel
theorem dL_isGame_215 : decode cL_isGame 215 = .ok (.aload_n 1, 1) := by decide +kernel
theorem dL_isGame_216 : decode cL_isGame 216 = .ok (.iload 9, 2) := by decide +kernel
theorem dL_isGame_218 : decode cL_isGame 218 = .ok (.iaload, 1) := by decide +kernel
theorem dL_isGame_219 : decode cL_isGame 219 = .ok (.iload 12, 2) := by decide +kernel
theorem dL_isGame_221 : decode cL_isGame 221 = .ok (.invokestatic 13, 3) := by decide +kernel
theorem dL_isGame_224 : decode cL_isGame 224 = .ok (.ifCond .eq 20, 3) := by decide +kernel
theorem dL_isGame_227 : decode cL_isGame 227 = .ok (.aload_n 1, 1) := by decide +kernel
theorem dL_isGame_228 : decode cL_isGame 228 = .ok (.aload_n 2, 1) := by decide +kernel
theorem dL_isGame_229 : decode cL_isGame 229 = .ok (.aload_n 3, 1) := by decide +kernel
theorem dL_isGame_230 : decode cL_isGame 230 = .ok (.iload 12, 2) := by decide +kernel
theorem dL_isGame_232 : decode cL_isGame 232 = .ok (.invokestatic 93, 3) := by decide +kernel
theorem dL_isGame_235 : decode cL_isGame 235 = .ok (.iload 12, 2) := by decide +kernel
theorem dL_isGame_237 : decode cL_isGame 237 = .ok (.if_icmp .ne 7, 3) := by decide +kernel
theorem dL_isGame_240 : decode cL_isGame 240 = .ok (.iconst 1, 1) := by decide +kernel
theorem dL_isGame_241 : decode cL_isGame 241 = .ok (.goto 4, 3) := by decide +kernel
theorem dL_isGame_244 : decode cL_isGame 244 = .ok (.iconst 0, 1) := by decide +kernel
theorem dL_isGame_245 : decode cL_isGame 245 = .ok (.iadd, 1) := by decide +kernel
theorem dL_isGame_246 : decode cL_isGame 246 = .ok (.istore 10, 2) := by decide +kernel
theorem dL_isGame_248 : decode cL_isGame 248 = .ok (.iload 11, 2) := by decide +kernel
theorem dL_isGame_250 : decode cL_isGame 250 = .ok (.aload_n 1, 1) := by decide +kernel
theorem dL_isGame_251 : decode cL_isGame 251 = .ok (.iload 9, 2) := by decide +kernel
theorem dL_isGame_253 : decode cL_isGame 253 = .ok (.iaload, 1) := by decide +kernel
theorem dL_isGame_254 : decode cL_isGame 254 = .ok (.iload 12, 2) := by decide +kernel
theorem dL_isGame_256 : decode cL_isGame 256 = .ok (.invokestatic 13, 3) := by decide +kernel
theorem dL_isGame_259 : decode cL_isGame 259 = .ok (.ifCond .eq 18, 3) := by decide +kernel
theorem dL_isGame_262 : decode cL_isGame 262 = .ok (.aload_n 1, 1) := by decide +kernel
theorem dL_isGame_263 : decode cL_isGame 263 = .ok (.aload_n 2, 1) := by decide +kernel
theorem dL_isGame_264 : decode cL_isGame 264 = .ok (.aload_n 3, 1) := by decide +kernel
theorem dL_isGame_265 : decode cL_isGame 265 = .ok (.iload 12, 2) := by decide +kernel
theorem dL_isGame_267 : decode cL_isGame 267 = .ok (.invokestatic 97, 3) := by decide +kernel
theorem dL_isGame_270 : decode cL_isGame 270 = .ok (.ifCond .eq 7, 3) := by decide +kernel
theorem dL_isGame_273 : decode cL_isGame 273 = .ok (.iconst 1, 1) := by decide +kernel
theorem dL_isGame_274 : decode cL_isGame 274 = .ok (.goto 4, 3) := by decide +kernel
theorem dL_isGame_277 : decode cL_isGame 277 = .ok (.iconst 0, 1) := by decide +kernel
theorem dL_isGame_278 : decode cL_isGame 278 = .ok (.iadd, 1) := by decide +kernel
theorem dL_isGame_279 : decode cL_isGame 279 = .ok (.istore 11, 2) := by decide +kernel
theorem dL_isGame_281 : decode cL_isGame 281 = .ok (.iinc 12 1, 3) := by decide +kernel
theorem dL_isGame_284 : decode cL_isGame 284 = .ok (.goto (-78), 3) := by decide +kernel
theorem dL_isGame_287 : decode cL_isGame 287 = .ok (.aload_n 0, 1) := by decide +kernel
theorem dL_isGame_288 : decode cL_isGame 288 = .ok (.iload 9, 2) := by decide +kernel
theorem dL_isGame_290 : decode cL_isGame 290 = .ok (.invokevirtual 100, 3) := by decide +kernel
theorem dL_isGame_293 : decode cL_isGame 293 = .ok (.aload_n 1, 1) := by decide +kernel
theorem dL_isGame_294 : decode cL_isGame 294 = .ok (.iload 9, 2) := by decide +kernel
theorem dL_isGame_296 : decode cL_isGame 296 = .ok (.iaload, 1) := by decide +kernel
theorem dL_isGame_297 : decode cL_isGame 297 = .ok (.if_icmp .ne 29, 3) := by decide +kernel
theorem dL_isGame_300 : decode cL_isGame 300 = .ok (.aload_n 0, 1) := by decide +kernel
theorem dL_isGame_301 : decode cL_isGame 301 = .ok (.iload 9, 2) := by decide +kernel
theorem dL_isGame_303 : decode cL_isGame 303 = .ok (.invokevirtual 103, 3) := by decide +kernel
theorem dL_isGame_306 : decode cL_isGame 306 = .ok (.iload 10, 2) := by decide +kernel
theorem dL_isGame_308 : decode cL_isGame 308 = .ok (.if_icmp .ne 18, 3) := by decide +kernel
theorem dL_isGame_311 : decode cL_isGame 311 = .ok (.aload_n 0, 1) := by decide +kernel
theorem dL_isGame_312 : decode cL_isGame 312 = .ok (.iload 9, 2) := by decide +kernel
theorem dL_isGame_314 : decode cL_isGame 314 = .ok (.invokevirtual 106, 3) := by decide +kernel
theorem dL_isGame_317 : decode cL_isGame 317 = .ok (.iload 11, 2) := by decide +kernel
theorem dL_isGame_319 : decode cL_isGame 319 = .ok (.if_icmp .ne 7, 3) := by decide +kernel
theorem dL_isGame_322 : decode cL_isGame 322 = .ok (.iconst 1, 1) := by decide +kernel
theorem dL_isGame_323 : decode cL_isGame 323 = .ok (.goto 4, 3) := by decide +kernel
theorem dL_isGame_326 : decode cL_isGame 326 = .ok (.iconst 0, 1) := by decide +kernel
theorem dL_isGame_327 : decode cL_isGame 327 = .ok (.istore 7, 2) := by decide +kernel
theorem dL_isGame_329 : decode cL_isGame 329 = .ok (.iconst 0, 1) := by decide +kernel
theorem dL_isGame_330 : decode cL_isGame 330 = .ok (.istore 12, 2) := by decide +kernel
theorem dL_isGame_332 : decode cL_isGame 332 = .ok (.iload 12, 2) := by decide +kernel
theorem dL_isGame_334 : decode cL_isGame 334 = .ok (.iconst 4, 1) := by decide +kernel
theorem dL_isGame_335 : decode cL_isGame 335 = .ok (.if_icmp .ge 67, 3) := by decide +kernel
theorem dL_isGame_338 : decode cL_isGame 338 = .ok (.iload 7, 2) := by decide +kernel
theorem dL_isGame_340 : decode cL_isGame 340 = .ok (.ifCond .eq 62, 3) := by decide +kernel
theorem dL_isGame_343 : decode cL_isGame 343 = .ok (.aload_n 1, 1) := by decide +kernel
theorem dL_isGame_344 : decode cL_isGame 344 = .ok (.iload 9, 2) := by decide +kernel
theorem dL_isGame_346 : decode cL_isGame 346 = .ok (.iload 12, 2) := by decide +kernel
theorem dL_isGame_348 : decode cL_isGame 348 = .ok (.invokestatic 109, 3) := by decide +kernel
theorem dL_isGame_351 : decode cL_isGame 351 = .ok (.istore 13, 2) := by decide +kernel
theorem dL_isGame_353 : decode cL_isGame 353 = .ok (.iload 8, 2) := by decide +kernel
theorem dL_isGame_355 : decode cL_isGame 355 = .ok (.iload 13, 2) := by decide +kernel
theorem dL_isGame_357 : decode cL_isGame 357 = .ok (.iconst 2, 1) := by decide +kernel
theorem dL_isGame_358 : decode cL_isGame 358 = .ok (.if_icmp .ne 14, 3) := by decide +kernel
theorem dL_isGame_361 : decode cL_isGame 361 = .ok (.iconst 1, 1) := by decide +kernel
theorem dL_isGame_362 : decode cL_isGame 362 = .ok (.iload 9, 2) := by decide +kernel
theorem dL_isGame_364 : decode cL_isGame 364 = .ok (.iconst 2, 1) := by decide +kernel
end
section
theorem dL_isGame_365 : decode cL_isGame 365 = .ok (.irem, 1) := by decide +kernel
theorem dL_isGame_366 : decode cL_isGame 366 = .ok (.iconst 2, 1) := by decide +kernel
theorem dL_isGame_367 : decode cL_isGame 367 = .ok (.imul, 1) := by decide +kernel
theorem dL_isGame_368 : decode cL_isGame 368 = .ok (.isub, 1) := by decide +kernel
theorem dL_isGame_369 : decode cL_isGame 369 = .ok (.goto 4, 3) := by decide +kernel
theorem dL_isGame_372 : decode cL_isGame 372 = .ok (.iconst 0, 1) := by decide +kernel
theorem dL_isGame_373 : decode cL_isGame 373 = .ok (.iadd, 1) := by decide +kernel
theorem dL_isGame_374 : decode cL_isGame 374 = .ok (.istore 8, 2) := by decide +kernel
theorem dL_isGame_376 : decode cL_isGame 376 = .ok (.aload_n 0, 1) := by decide +kernel
theorem dL_isGame_377 : decode cL_isGame 377 = .ok (.iload 9, 2) := by decide +kernel
theorem dL_isGame_379 : decode cL_isGame 379 = .ok (.iload 12, 2) := by decide +kernel
theorem dL_isGame_381 : decode cL_isGame 381 = .ok (.invokevirtual 113, 3) := by decide +kernel
theorem dL_isGame_384 : decode cL_isGame 384 = .ok (.iload 13, 2) := by decide +kernel
theorem dL_isGame_386 : decode cL_isGame 386 = .ok (.if_icmp .ne 7, 3) := by decide +kernel
theorem dL_isGame_389 : decode cL_isGame 389 = .ok (.iconst 1, 1) := by decide +kernel
theorem dL_isGame_390 : decode cL_isGame 390 = .ok (.goto 4, 3) := by decide +kernel
theorem dL_isGame_393 : decode cL_isGame 393 = .ok (.iconst 0, 1) := by decide +kernel
theorem dL_isGame_394 : decode cL_isGame 394 = .ok (.istore 7, 2) := by decide +kernel
theorem dL_isGame_396 : decode cL_isGame 396 = .ok (.iinc 12 1, 3) := by decide +kernel
theorem dL_isGame_399 : decode cL_isGame 399 = .ok (.goto (-67), 3) := by decide +kernel
theorem dL_isGame_402 : decode cL_isGame 402 = .ok (.iinc 9 1, 3) := by decide +kernel
theorem dL_isGame_405 : decode cL_isGame 405 = .ok (.goto (-219), 3) := by decide +kernel
theorem dL_isGame_408 : decode cL_isGame 408 = .ok (.iconst 0, 1) := by decide +kernel
theorem dL_isGame_409 : decode cL_isGame 409 = .ok (.istore 9, 2) := by decide +kernel
theorem dL_isGame_411 : decode cL_isGame 411 = .ok (.iload 9, 2) := by decide +kernel
theorem dL_isGame_413 : decode cL_isGame 413 = .ok (.bipush 24, 2) := by decide +kernel
theorem dL_isGame_415 : decode cL_isGame 415 = .ok (.if_icmp .ge 131, 3) := by decide +kernel
theorem dL_isGame_418 : decode cL_isGame 418 = .ok (.iload 7, 2) := by decide +kernel
theorem dL_isGame_420 : decode cL_isGame 420 = .ok (.ifCond .eq 126, 3) := by decide +kernel
theorem dL_isGame_423 : decode cL_isGame 423 = .ok (.iload 4, 2) := by decide +kernel
theorem dL_isGame_425 : decode cL_isGame 425 = .ok (.iload 9, 2) := by decide +kernel
theorem dL_isGame_427 : decode cL_isGame 427 = .ok (.invokestatic 13, 3) := by decide +kernel
theorem dL_isGame_430 : decode cL_isGame 430 = .ok (.istore 10, 2) := by decide +kernel
theorem dL_isGame_432 : decode cL_isGame 432 = .ok (.aload_n 0, 1) := by decide +kernel
theorem dL_isGame_433 : decode cL_isGame 433 = .ok (.iload 9, 2) := by decide +kernel
theorem dL_isGame_435 : decode cL_isGame 435 = .ok (.invokevirtual 115, 3) := by decide +kernel
theorem dL_isGame_438 : decode cL_isGame 438 = .ok (.iload 6, 2) := by decide +kernel
theorem dL_isGame_440 : decode cL_isGame 440 = .ok (.ifCond .lt 21, 3) := by decide +kernel
theorem dL_isGame_443 : decode cL_isGame 443 = .ok (.aload_n 1, 1) := by decide +kernel
theorem dL_isGame_444 : decode cL_isGame 444 = .ok (.aload_n 2, 1) := by decide +kernel
theorem dL_isGame_445 : decode cL_isGame 445 = .ok (.aload_n 3, 1) := by decide +kernel
theorem dL_isGame_446 : decode cL_isGame 446 = .ok (.aload_n 3, 1) := by decide +kernel
theorem dL_isGame_447 : decode cL_isGame 447 = .ok (.iconst 0, 1) := by decide +kernel
theorem dL_isGame_448 : decode cL_isGame 448 = .ok (.iaload, 1) := by decide +kernel
theorem dL_isGame_449 : decode cL_isGame 449 = .ok (.iload 9, 2) := by decide +kernel
theorem dL_isGame_451 : decode cL_isGame 451 = .ok (.invokestatic 21, 3) := by decide +kernel
theorem dL_isGame_454 : decode cL_isGame 454 = .ok (.ifCond .eq 7, 3) := by decide +kernel
theorem dL_isGame_457 : decode cL_isGame 457 = .ok (.iconst 1, 1) := by decide +kernel
theorem dL_isGame_458 : decode cL_isGame 458 = .ok (.goto 4, 3) := by decide +kernel
theorem dL_isGame_461 : decode cL_isGame 461 = .ok (.iconst 0, 1) := by decide +kernel
theorem dL_isGame_462 : decode cL_isGame 462 = .ok (.if_icmp .ne 75, 3) := by decide +kernel
theorem dL_isGame_465 : decode cL_isGame 465 = .ok (.aload_n 0, 1) := by decide +kernel
theorem dL_isGame_466 : decode cL_isGame 466 = .ok (.bipush 8, 2) := by decide +kernel
theorem dL_isGame_468 : decode cL_isGame 468 = .ok (.iload 9, 2) := by decide +kernel
theorem dL_isGame_470 : decode cL_isGame 470 = .ok (.iconst 0, 1) := by decide +kernel
theorem dL_isGame_471 : decode cL_isGame 471 = .ok (.invokestatic 118, 3) := by decide +kernel
theorem dL_isGame_474 : decode cL_isGame 474 = .ok (.iload 10, 2) := by decide +kernel
theorem dL_isGame_476 : decode cL_isGame 476 = .ok (.ifCond .eq 14, 3) := by decide +kernel
theorem dL_isGame_479 : decode cL_isGame 479 = .ok (.aload_n 1, 1) := by decide +kernel
theorem dL_isGame_480 : decode cL_isGame 480 = .ok (.aload_n 2, 1) := by decide +kernel
theorem dL_isGame_481 : decode cL_isGame 481 = .ok (.aload_n 3, 1) := by decide +kernel
theorem dL_isGame_482 : decode cL_isGame 482 = .ok (.iload 9, 2) := by decide +kernel
theorem dL_isGame_484 : decode cL_isGame 484 = .ok (.invokestatic 93, 3) := by decide +kernel
theorem dL_isGame_487 : decode cL_isGame 487 = .ok (.goto 5, 3) := by decide +kernel
theorem dL_isGame_490 : decode cL_isGame 490 = .ok (.bipush (-13), 2) := by decide +kernel
theorem dL_isGame_492 : decode cL_isGame 492 = .ok (.if_icmp .ne 45, 3) := by decide +kernel
theorem dL_isGame_495 : decode cL_isGame 495 = .ok (.aload_n 0, 1) := by decide +kernel
theorem dL_isGame_496 : decode cL_isGame 496 = .ok (.bipush 9, 2) := by decide +kernel
theorem dL_isGame_498 : decode cL_isGame 498 = .ok (.iload 9, 2) := by decide +kernel
theorem dL_isGame_500 : decode cL_isGame 500 = .ok (.iconst 0, 1) := by decide +kernel
theorem dL_isGame_501 : decode cL_isGame 501 = .ok (.invokestatic 118, 3) := by decide +kernel
theorem dL_isGame_504 : decode cL_isGame 504 = .ok (.iload 10, 2) := by decide +kernel
theorem dL_isGame_506 : decode cL_isGame 506 = .ok (.ifCond .ne 8, 3) := by decide +kernel
theorem dL_isGame_509 : decode cL_isGame 509 = .ok (.bipush (-13), 2) := by decide +kernel
theorem dL_isGame_511 : decode cL_isGame 511 = .ok (.goto 19, 3) := by decide +kernel
theorem dL_isGame_514 : decode cL_isGame 514 = .ok (.aload_n 1, 1) := by decide +kernel
theorem dL_isGame_515 : decode cL_isGame 515 = .ok (.aload_n 2, 1) := by decide +kernel
theorem dL_isGame_516 : decode cL_isGame 516 = .ok (.aload_n 3, 1) := by decide +kernel
theorem dL_isGame_517 : decode cL_isGame 517 = .ok (.iload 9, 2) := by decide +kernel
theorem dL_isGame_519 : decode cL_isGame 519 = .ok (.invokestatic 97, 3) := by decide +kernel
theorem dL_isGame_522 : decode cL_isGame 522 = .ok (.ifCond .eq 7, 3) := by decide +kernel
theorem dL_isGame_525 : decode cL_isGame 525 = .ok (.iconst 1, 1) := by decide +kernel
theorem dL_isGame_526 : decode cL_isGame 526 = .ok (.goto 4, 3) := by decide +kernel
theorem dL_isGame_529 : decode cL_isGame 529 = .ok (.iconst 0, 1) := by decide +kernel
theorem dL_isGame_530 : decode cL_isGame 530 = .ok (.if_icmp .ne 7, 3) := by decide +kernel
theorem dL_isGame_533 : decode cL_isGame 533 = .ok (.iconst 1, 1) := by decide +kernel
theorem dL_isGame_534 : decode cL_isGame 534 = .ok (.goto 4, 3) := by decide +kernel
theorem dL_isGame_537 : decode cL_isGame 537 = .ok (.iconst 0, 1) := by decide +kernel
theorem dL_isGame_538 : decode cL_isGame 538 = .ok (.istore 7, 2) := by decide +kernel
theorem dL_isGame_540 : decode cL_isGame 540 = .ok (.iinc 9 1, 3) := by decide +kernel
theorem dL_isGame_543 : decode cL_isGame 543 = .ok (.goto (-132), 3) := by decide +kernel
theorem dL_isGame_546 : decode cL_isGame 546 = .ok (.iload 7, 2) := by decide +kernel
theorem dL_isGame_548 : decode cL_isGame 548 = .ok (.ifCond .eq 16, 3) := by decide +kernel
theorem dL_isGame_551 : decode cL_isGame 551 = .ok (.aload_n 0, 1) := by decide +kernel
theorem dL_isGame_552 : decode cL_isGame 552 = .ok (.invokevirtual 122, 3) := by decide +kernel
theorem dL_isGame_555 : decode cL_isGame 555 = .ok (.iload 8, 2) := by decide +kernel
theorem dL_isGame_557 : decode cL_isGame 557 = .ok (.if_icmp .ne 7, 3) := by decide +kernel
theorem dL_isGame_560 : decode cL_isGame 560 = .ok (.iconst 1, 1) := by decide +kernel
theorem dL_isGame_561 : decode cL_isGame 561 = .ok (.goto 4, 3) := by decide +kernel
theorem dL_isGame_564 : decode cL_isGame 564 = .ok (.iconst 0, 1) := by decide +kernel
theorem dL_isGame_565 : decode cL_isGame 565 = .ok (.ireturn, 1) := by decide +kernel
set_option maxRecDepth 20000 in
theorem ggL_isSolved_L_does : GoodIn wsL_isSolved wsL_does := goodIn_ca (goodIn_ca (goodIn_r _ [4, 5, 6, 7, 8, 9, 10, 11, 12, 13, 14, 15, 16, 17, 18, 19, 20, 21, 22, 23, 24, 25, 26, 27, 28, 29, 30, 31, 32, 33, 34, 35, 36, 37, 38, 39, 40, 41, 42, 43, 44, 45, 46, 47, 48, 49, 50, 51, 52, 53, 54, 55, 56, 57, 58, 59, 60, 61, 62, 63, 64, 65, 66, 67, 68, 69, 70, 71, 72, 73, 74, 75, 76, 77, 78, 79, 80, 81, 82, 83, 84, 85, 86, 87, 88, 89, 90, 91, 92, 93, 94, 95, 96, 97, 98, 99, 100, 101, 102, 103, 104, 105, 106, 107, 108, 109, 110, 111, 112, 113, 114, 115, 116, 117, 118, 119, 120, 121, 122, 123, 124, 125, 126, 127, 128, 129, 130, 131, 132, 133, 134, 135, 136, 137, 138, 139, 140, 141, 142, 143, 144, 145, 146, 147, 148, 149, 150, 151, 152, 153, 154, 155, 156, 157, 158, 159, 160, 161, 162, 163, 164, 165, 166, 167, 168, 169, 170, 171, 172, 173, 174, 175, 176, 177, 178, 179, 180, 181, 182, 183, 184, 185, 186, 187, 188, 189, 190, 191, 192, 193, 194, 195, 196, 197, 198, 199, 200, 201, 202, 203, 204, 205, 206, 207, 208, 209, 210, 211, 212, 213, 214, 215, 216, 217, 218, 219, 220, 221, 222, 223, 224, 225, 226, 227, 228, 229, 230, 231, 232, 233, 234, 235, 236, 237, 238, 239, 240, 241, 242, 243, 244, 245, 246, 247, 248, 249, 250, 251, 252, 253, 254, 255, 256, 257, 258, 259, 260, 261, 262, 263, 264, 265, 266, 267, 268, 269, 270, 271, 272, 273, 274, 275, 276, 277, 278, 279, 280, 281, 282, 283, 284, 285, 286, 287, 288, 289, 290, 291, 292, 293, 294, 295, 296, 297, 298, 299, 300, 301, 302, 303, 304, 305, 306, 307, 308, 309, 310, 311, 312, 313, 314, 315, 316, 317, 318, 319, 320, 321, 322, 323, 324, 325, 326, 346, 347, 348, 349, 350, 351, 352, 353, 354, 355, 356, 357, 358, 359, 360] (by decide +kernel) (by decide +kernel)) (goodIn_sub (fun _ h => List.mem_cons_of_mem _ (List.mem_append_left _ (List.mem_append_right _ h))) (by decide +kernel))) (goodIn_sub (fun _ h => List.mem_cons_of_mem _ (List.mem_append_right _ h)) (by decide +kernel))
set_option maxRecDepth 20000 in
theorem gL_isSolved_L_does : GoodIn wsL_isSolved (va_wsS RL 118 yL_does wsL_does) := goodIn_app (goodIn_of _ (by decide +kernel)) ggL_isSolved_L_does
set_option maxRecDepth 20000 in
theorem ggL_isSolved_L_tricks : GoodIn wsL_isSolved wsL_tricks := goodIn_r _ [329, 330, 331, 3, 332] (by decide +kernel) (by decide +kernel)
set_option maxRecDepth 20000 in
theorem gL_isSolved_L_tricks : GoodIn wsL_isSolved (va_wsS RL 25 yL_tricks wsL_tricks) := goodIn_app (goodIn_of _ (by decide +kernel)) ggL_isSolved_L_tricks
set_option maxRecDepth 20000 in
theorem ggL_isSolved_L_best : GoodIn wsL_isSolved wsL_best := goodIn_r _ [335, 336, 337, 338, 3, 339, 340, 341, 342, 330, 331, 332, 343, 344, 345, 327, 328, 329] (by decide +kernel) (by decide +kernel)
set_option maxRecDepth 20000 in
theorem gL_isSolved_L_best : GoodIn wsL_isSolved (va_wsS RL 125 yL_best wsL_best) := goodIn_app (goodIn_of _ (by decide +kernel)) ggL_isSolved_L_best
set_option maxRecDepth 20000 in
theorem ggL_isSolved_L_size : GoodIn wsL_isSolved wsL_size := goodIn_r _ [339] (by decide +kernel) (by decide +kernel)
set_option maxRecDepth 20000 in
theorem gL_isSolved_L_size : GoodIn wsL_isSolved (va_wsS RL 17 yL_size wsL_size) := goodIn_app (goodIn_of _ (by decide +kernel)) ggL_isSolved_L_size
set_option maxRecDepth 20000 in
theorem ggL_isSolved_L_leader : GoodIn wsL_isSolved wsL_leader := goodIn_r _ [332] (by decide +kernel) (by decide +kernel)
set_option maxRecDepth 20000 in
theorem gL_isSolved_L_leader : GoodIn wsL_isSolved (va_wsS RL 7 yL_leader wsL_leader) := goodIn_app (goodIn_of _ (by decide +kernel)) ggL_isSolved_L_leader
set_option maxRecDepth 20000 in
theorem ggL_isSolved_L_can : GoodIn wsL_isSolved wsL_can := goodIn_r _ [342, 330, 331, 3, 332, 343, 344, 345] (by decide +kernel) (by decide +kernel)
set_option maxRecDepth 20000 in
theorem gL_isSolved_L_can : GoodIn wsL_isSolved (va_wsS RL 21 yL_can wsL_can) := goodIn_app (goodIn_of _ (by decide +kernel)) ggL_isSolved_L_can
theorem dL_isSolved_0 : decode cL_isSolved 0 = .ok (.aload_n 3, 1) := by decide +kernel
theorem dL_isSolved_1 : decode cL_isSolved 1 = .ok (.iconst 3, 1) := by decide +kernel
theorem dL_isSolved_2 : decode cL_isSolved 2 = .ok (.iaload, 1) := by decide +kernel
theorem dL_isSolved_3 : decode cL_isSolved 3 = .ok (.ifCond .ne 59, 3) := by decide +kernel
theorem dL_isSolved_6 : decode cL_isSolved 6 = .ok (.aload_n 0, 1) := by decide +kernel
theorem dL_isSolved_7 : decode cL_isSolved 7 = .ok (.iconst 4, 1) := by decide +kernel
theorem dL_isSolved_8 : decode cL_isSolved 8 = .ok (.iconst 0, 1) := by decide +kernel
theorem dL_isSolved_9 : decode cL_isSolved 9 = .ok (.iconst 0, 1) := by decide +kernel
theorem dL_isSolved_10 : decode cL_isSolved 10 = .ok (.invokestatic 118, 3) := by decide +kernel
theorem dL_isSolved_13 : decode cL_isSolved 13 = .ok (.bipush (-13), 2) := by decide +kernel
theorem dL_isSolved_15 : decode cL_isSolved 15 = .ok (.if_icmp .ne 45, 3) := by decide +kernel
theorem dL_isSolved_18 : decode cL_isSolved 18 = .ok (.aload_n 0, 1) := by decide +kernel
theorem dL_isSolved_19 : decode cL_isSolved 19 = .ok (.iconst 5, 1) := by decide +kernel
theorem dL_isSolved_20 : decode cL_isSolved 20 = .ok (.iconst 0, 1) := by decide +kernel
theorem dL_isSolved_21 : decode cL_isSolved 21 = .ok (.iconst 0, 1) := by decide +kernel
theorem dL_isSolved_22 : decode cL_isSolved 22 = .ok (.invokestatic 118, 3) := by decide +kernel
theorem dL_isSolved_25 : decode cL_isSolved 25 = .ok (.bipush (-13), 2) := by decide +kernel
theorem dL_isSolved_27 : decode cL_isSolved 27 = .ok (.if_icmp .ne 33, 3) := by decide +kernel
theorem dL_isSolved_30 : decode cL_isSolved 30 = .ok (.aload_n 0, 1) := by decide +kernel
theorem dL_isSolved_31 : decode cL_isSolved 31 = .ok (.bipush 7, 2) := by decide +kernel
theorem dL_isSolved_33 : decode cL_isSolved 33 = .ok (.iconst 0, 1) := by decide +kernel
theorem dL_isSolved_34 : decode cL_isSolved 34 = .ok (.iconst 0, 1) := by decide +kernel
theorem dL_isSolved_35 : decode cL_isSolved 35 = .ok (.invokestatic 118, 3) := by decide +kernel
theorem dL_isSolved_38 : decode cL_isSolved 38 = .ok (.bipush (-13), 2) := by decide +kernel
theorem dL_isSolved_40 : decode cL_isSolved 40 = .ok (.if_icmp .ne 20, 3) := by decide +kernel
theorem dL_isSolved_43 : decode cL_isSolved 43 = .ok (.aload_n 0, 1) := by decide +kernel
theorem dL_isSolved_44 : decode cL_isSolved 44 = .ok (.bipush 6, 2) := by decide +kernel
theorem dL_isSolved_46 : decode cL_isSolved 46 = .ok (.iconst 3, 1) := by decide +kernel
theorem dL_isSolved_47 : decode cL_isSolved 47 = .ok (.iconst 0, 1) := by decide +kernel
theorem dL_isSolved_48 : decode cL_isSolved 48 = .ok (.invokestatic 118, 3) := by decide +kernel
theorem dL_isSolved_51 : decode cL_isSolved 51 = .ok (.bipush (-13), 2) := by decide +kernel
theorem dL_isSolved_53 : decode cL_isSolved 53 = .ok (.if_icmp .ne 7, 3) := by decide +kernel
theorem dL_isSolved_56 : decode cL_isSolved 56 = .ok (.iconst 1, 1) := by decide +kernel
theorem dL_isSolved_57 : decode cL_isSolved 57 = .ok (.goto 4, 3) := by decide +kernel
theorem dL_isSolved_60 : decode cL_isSolved 60 = .ok (.iconst 0, 1) := by decide +kernel
theorem dL_isSolved_61 : decode cL_isSolved 61 = .ok (.ireturn, 1) := by decide +kernel
theorem dL_isSolved_62 : decode cL_isSolved 62 = .ok (.aload_n 2, 1) := by decide +kernel
theorem dL_isSolved_63 : decode cL_isSolved 63 = .ok (.aload_n 3, 1) := by decide +kernel
theorem dL_isSolved_64 : decode cL_isSolved 64 = .ok (.aload_n 3, 1) := by decide +kernel
theorem dL_isSolved_65 : decode cL_isSolved 65 = .ok (.iconst 0, 1) := by decide +kernel
theorem dL_isSolved_66 : decode cL_isSolved 66 = .ok (.iaload, 1) := by decide +kernel
theorem dL_isSolved_67 : decode cL_isSolved 67 = .ok (.iconst 0, 1) := by decide +kernel
theorem dL_isSolved_68 : decode cL_isSolved 68 = .ok (.invokestatic 25, 3) := by decide +kernel
theorem dL_isSolved_71 : decode cL_isSolved 71 = .ok (.istore 4, 2) := by decide +kernel
theorem dL_isSolved_73 : decode cL_isSolved 73 = .ok (.aload_n 1, 1) := by decide +kernel
theorem dL_isSolved_74 : decode cL_isSolved 74 = .ok (.aload_n 2, 1) := by decide +kernel
theorem dL_isSolved_75 : decode cL_isSolved 75 = .ok (.aload_n 3, 1) := by decide +kernel
theorem dL_isSolved_76 : decode cL_isSolved 76 = .ok (.invokestatic 125, 3) := by decide +kernel
theorem dL_isSolved_79 : decode cL_isSolved 79 = .ok (.iload 4, 2) := by decide +kernel
theorem dL_isSolved_81 : decode cL_isSolved 81 = .ok (.isub, 1) := by decide +kernel
theorem dL_isSolved_82 : decode cL_isSolved 82 = .ok (.istore 5, 2) := by decide +kernel
theorem dL_isSolved_84 : decode cL_isSolved 84 = .ok (.aload_n 3, 1) := by decide +kernel
theorem dL_isSolved_85 : decode cL_isSolved 85 = .ok (.iconst 0, 1) := by decide +kernel
theorem dL_isSolved_86 : decode cL_isSolved 86 = .ok (.iaload, 1) := by decide +kernel
theorem dL_isSolved_87 : decode cL_isSolved 87 = .ok (.aload_n 1, 1) := by decide +kernel
theorem dL_isSolved_88 : decode cL_isSolved 88 = .ok (.iconst 0, 1) := by decide +kernel
theorem dL_isSolved_89 : decode cL_isSolved 89 = .ok (.iaload, 1) := by decide +kernel
theorem dL_isSolved_90 : decode cL_isSolved 90 = .ok (.invokestatic 17, 3) := by decide +kernel
theorem dL_isSolved_93 : decode cL_isSolved 93 = .ok (.iadd, 1) := by decide +kernel
theorem dL_isSolved_94 : decode cL_isSolved 94 = .ok (.aload_n 1, 1) := by decide +kernel
theorem dL_isSolved_95 : decode cL_isSolved 95 = .ok (.iconst 1, 1) := by decide +kernel
theorem dL_isSolved_96 : decode cL_isSolved 96 = .ok (.iaload, 1) := by decide +kernel
theorem dL_isSolved_97 : decode cL_isSolved 97 = .ok (.invokestatic 17, 3) := by decide +kernel
theorem dL_isSolved_100 : decode cL_isSolved 100 = .ok (.iadd, 1) := by decide +kernel
theorem dL_isSolved_101 : decode cL_isSolved 101 = .ok (.aload_n 1, 1) := by decide +kernel
theorem dL_isSolved_102 : decode cL_isSolved 102 = .ok (.iconst 2, 1) := by decide +kernel
theorem dL_isSolved_103 : decode cL_isSolved 103 = .ok (.iaload, 1) := by decide +kernel
theorem dL_isSolved_104 : decode cL_isSolved 104 = .ok (.invokestatic 17, 3) := by decide +kernel
theorem dL_isSolved_107 : decode cL_isSolved 107 = .ok (.iadd, 1) := by decide +kernel
theorem dL_isSolved_108 : decode cL_isSolved 108 = .ok (.aload_n 1, 1) := by decide +kernel
theorem dL_isSolved_109 : decode cL_isSolved 109 = .ok (.iconst 3, 1) := by decide +kernel
theorem dL_isSolved_110 : decode cL_isSolved 110 = .ok (.iaload, 1) := by decide +kernel
theorem dL_isSolved_111 : decode cL_isSolved 111 = .ok (.invokestatic 17, 3) := by decide +kernel
theorem dL_isSolved_114 : decode cL_isSolved 114 = .ok (.iadd, 1) := by decide +kernel
theorem dL_isSolved_115 : decode cL_isSolved 115 = .ok (.iconst 4, 1) := by decide +kernel
theorem dL_isSolved_116 : decode cL_isSolved 116 = .ok (.idiv, 1) := by decide +kernel
theorem dL_isSolved_117 : decode cL_isSolved 117 = .ok (.aload_n 3, 1) := by decide +kernel
theorem dL_isSolved_118 : decode cL_isSolved 118 = .ok (.iconst 0, 1) := by decide +kernel
theorem dL_isSolved_119 : decode cL_isSolved 119 = .ok (.iaload, 1) := by decide +kernel
theorem dL_isSolved_120 : decode cL_isSolved 120 = .ok (.iconst 4, 1) := by decide +kernel
theorem dL_isSolved_121 : decode cL_isSolved 121 = .ok (.idiv, 1) := by decide +kernel
theorem dL_isSolved_122 : decode cL_isSolved 122 = .ok (.isub, 1) := by decide +kernel
theorem dL_isSolved_123 : decode cL_isSolved 123 = .ok (.istore 6, 2) := by decide +kernel
theorem dL_isSolved_125 : decode cL_isSolved 125 = .ok (.aload_n 2, 1) := by decide +kernel
theorem dL_isSolved_126 : decode cL_isSolved 126 = .ok (.aload_n 3, 1) := by decide +kernel
theorem dL_isSolved_127 : decode cL_isSolved 127 = .ok (.aload_n 3, 1) := by decide +kernel
theorem dL_isSolved_128 : decode cL_isSolved 128 = .ok (.iconst 0, 1) := by decide +kernel
theorem dL_isSolved_129 : decode cL_isSolved 129 = .ok (.iaload, 1) := by decide +kernel
theorem dL_isSolved_130 : decode cL_isSolved 130 = .ok (.invokestatic 7, 3) := by decide +kernel
theorem dL_isSolved_133 : decode cL_isSolved 133 = .ok (.aload_n 3, 1) := by decide +kernel
theorem dL_isSolved_134 : decode cL_isSolved 134 = .ok (.iconst 0, 1) := by decide +kernel
theorem dL_isSolved_135 : decode cL_isSolved 135 = .ok (.iaload, 1) := by decide +kernel
theorem dL_isSolved_136 : decode cL_isSolved 136 = .ok (.iconst 4, 1) := by decide +kernel
theorem dL_isSolved_137 : decode cL_isSolved 137 = .ok (.irem, 1) := by decide +kernel
theorem dL_isSolved_138 : decode cL_isSolved 138 = .ok (.iadd, 1) := by decide +kernel
theorem dL_isSolved_139 : decode cL_isSolved 139 = .ok (.iconst 4, 1) := by decide +kernel
theorem dL_isSolved_140 : decode cL_isSolved 140 = .ok (.irem, 1) := by decide +kernel
theorem dL_isSolved_141 : decode cL_isSolved 141 = .ok (.istore 7, 2) := by decide +kernel
theorem dL_isSolved_143 : decode cL_isSolved 143 = .ok (.aload_n 0, 1) := by decide +kernel
theorem dL_isSolved_144 : decode cL_isSolved 144 = .ok (.iconst 4, 1) := by decide +kernel
theorem dL_isSolved_145 : decode cL_isSolved 145 = .ok (.iconst 0, 1) := by decide +kernel
theorem dL_isSolved_146 : decode cL_isSolved 146 = .ok (.iconst 0, 1) := by decide +kernel
theorem dL_isSolved_147 : decode cL_isSolved 147 = .ok (.invokestatic 118, 3) := by decide +kernel
theorem dL_isSolved_150 : decode cL_isSolved 150 = .ok (.iload 5, 2) := by decide +kernel
theorem dL_isSolved_152 : decode cL_isSolved 152 = .ok (.if_icmp .ne 19, 3) := by decide +kernel
theorem dL_isSolved_155 : decode cL_isSolved 155 = .ok (.aload_n 0, 1) := by decide +kernel
theorem dL_isSolved_156 : decode cL_isSolved 156 = .ok (.iconst 5, 1) := by decide +kernel
theorem dL_isSolved_157 : decode cL_isSolved 157 = .ok (.iconst 0, 1) := by decide +kernel
theorem dL_isSolved_158 : decode cL_isSolved 158 = .ok (.iconst 0, 1) := by decide +kernel
theorem dL_isSolved_159 : decode cL_isSolved 159 = .ok (.invokestatic 118, 3) := by decide +kernel
theorem dL_isSolved_162 : decode cL_isSolved 162 = .ok (.iload 5, 2) := by decide +kernel
theorem dL_isSolved_164 : decode cL_isSolved 164 = .ok (.if_icmp .ne 7, 3) := by decide +kernel
theorem dL_isSolved_167 : decode cL_isSolved 167 = .ok (.iconst 1, 1) := by decide +kernel
theorem dL_isSolved_168 : decode cL_isSolved 168 = .ok (.goto 4, 3) := by decide +kernel
theorem dL_isSolved_171 : decode cL_isSolved 171 = .ok (.iconst 0, 1) := by decide +kernel
theorem dL_isSolved_172 : decode cL_isSolved 172 = .ok (.istore 8, 2) := by decide +kernel
theorem dL_isSolved_174 : decode cL_isSolved 174 = .ok (.iconst (-1), 1) := by decide +kernel
theorem dL_isSolved_175 : decode cL_isSolved 175 = .ok (.istore 9, 2) := by decide +kernel
theorem dL_isSolved_177 : decode cL_isSolved 177 = .ok (.bipush (-13), 2) := by decide +kernel
theorem dL_isSolved_179 : decode cL_isSolved 179 = .ok (.istore 10, 2) := by decide +kernel
theorem dL_isSolved_181 : decode cL_isSolved 181 = .ok (.iconst 0, 1) := by decide +kernel
theorem dL_isSolved_182 : decode cL_isSolved 182 = .ok (.istore 11, 2) := by decide +kernel
theorem dL_isSolved_184 : decode cL_isSolved 184 = .ok (.iload 11, 2) := by decide +kernel
theorem dL_isSolved_186 : decode cL_isSolved 186 = .ok (.bipush 24, 2) := by decide +kernel
theorem dL_isSolved_188 : decode cL_isSolved 188 = .ok (.if_icmp .ge 160, 3) := by decide +kernel
theorem dL_isSolved_191 : decode cL_isSolved 191 = .ok (.iload 8, 2) := by decide +kernel
theorem dL_isSolved_193 : decode cL_isSolved 193 = .ok (.ifCond .eq 155, 3) := by decide +kernel
theorem dL_isSolved_196 : decode cL_isSolved 196 = .ok (.bipush (-13), 2) := by decide +kernel
theorem dL_isSolved_198 : decode cL_isSolved 198 = .ok (.istore 12, 2) := by decide +kernel
theorem dL_isSolved_200 : decode cL_isSolved 200 = .ok (.aload_n 1, 1) := by decide +kernel
theorem dL_isSolved_201 : decode cL_isSolved 201 = .ok (.aload_n 2, 1) := by decide +kernel
theorem dL_isSolved_202 : decode cL_isSolved 202 = .ok (.aload_n 3, 1) := by decide +kernel
theorem dL_isSolved_203 : decode cL_isSolved 203 = .ok (.aload_n 3, 1) := by decide +kernel
theorem dL_isSolved_204 : decode cL_isSolved 204 = .ok (.iconst 0, 1) := by decide +kernel
theorem dL_isSolved_205 : decode cL_isSolved 205 = .ok (.iaload, 1) := by decide +kernel
theorem dL_isSolved_206 : decode cL_isSolved 206 = .ok (.iload 11, 2) := by decide +kernel
theorem dL_isSolved_208 : decode cL_isSolved 208 = .ok (.invokestatic 21, 3) := by decide +kernel
theorem dL_isSolved_211 : decode cL_isSolved 211 = .ok (.ifCond .eq 110, 3) := by decide +kernel
theorem dL_isSolved_214 : decode cL_isSolved 214 = .ok (.aload_n 1, 1) := by decide +kernel
theorem dL_isSolved_215 : decode cL_isSolved 215 = .ok (.iload 7, 2) := by decide +kernel
theorem dL_isSolved_217 : decode cL_isSolved 217 = .ok (.dup2, 1) := by decide +kernel
theorem dL_isSolved_218 : decode cL_isSolved 218 = .ok (.iaload, 1) := by decide +kernel
theorem dL_isSolved_219 : decode cL_isSolved 219 = .ok (.iconst 1, 1) := by decide +kernel
theorem dL_isSolved_220 : decode cL_isSolved 220 = .ok (.iload 11, 2) := by decide +kernel
theorem dL_isSolved_222 : decode cL_isSolved 222 = .ok (.ishl, 1) := by decide +kernel
theorem dL_isSolved_223 : decode cL_isSolved 223 = .ok (.iconst (-1), 1) := by decide +kernel
theorem dL_isSolved_224 : decode cL_isSolved 224 = .ok (.ixor, 1) := by decide +kernel
theorem dL_isSolved_225 : decode cL_isSolved 225 = .ok (.iand, 1) := by decide +kernel
theorem dL_isSolved_226 : decode cL_isSolved 226 = .ok (.iastore, 1) := by decide +kernel
theorem dL_isSolved_227 : decode cL_isSolved 227 = .ok (.aload_n 2, 1) := by decide +kernel
theorem dL_isSolved_228 : decode cL_isSolved 228 = .ok (.aload_n 3, 1) := by decide +kernel
theorem dL_isSolved_229 : decode cL_isSolved 229 = .ok (.iconst 0, 1) := by decide +kernel
theorem dL_isSolved_230 : decode cL_isSolved 230 = .ok (.iaload, 1) := by decide +kernel
theorem dL_isSolved_231 : decode cL_isSolved 231 = .ok (.iload 11, 2) := by decide +kernel
theorem dL_isSolved_233 : decode cL_isSolved 233 = .ok (.iastore, 1) := by decide +kernel
theorem dL_isSolved_234 : decode cL_isSolved 234 = .ok (.aload_n 3, 1) := by decide +kernel
theorem dL_isSolved_235 : decode cL_isSolved 235 = .ok (.iconst 0, 1) := by decide +kernel
theorem dL_isSolved_236 : decode cL_isSolved 236 = .ok (.dup2, 1) := by decide +kernel
theorem dL_isSolved_237 : decode cL_isSolved 237 = .ok (.iaload, 1) := by decide +kernel
theorem dL_isSolved_238 : decode cL_isSolved 238 = .ok (.iconst 1, 1) := by decide +kernel
theorem dL_isSolved_239 : decode cL_isSolved 239 = .ok (.iadd, 1) := by decide +kernel
theorem dL_isSolved_240 : decode cL_isSolved 240 = .ok (.iastore, 1) := by decide +kernel
theorem dL_isSolved_241 : decode cL_isSolved 241 = .ok (.aload_n 1, 1) := by decide +kernel
theorem dL_isSolved_242 : decode cL_isSolved 242 = .ok (.aload_n 2, 1) := by decide +kernel
theorem dL_isSolved_243 : decode cL_isSolved 243 = .ok (.aload_n 3, 1) := by decide +kernel
theorem dL_isSolved_244 : decode cL_isSolved 244 = .ok (.invokestatic 125, 3) := by decide +kernel
theorem dL_isSolved_247 : decode cL_isSolved 247 = .ok (.iload 4, 2) := by decide +kernel
theorem dL_isSolved_249 : decode cL_isSolved 249 = .ok (.isub, 1) := by decide +kernel
theorem dL_isSolved_250 : decode cL_isSolved 250 = .ok (.istore 12, 2) := by decide +kernel
theorem dL_isSolved_252 : decode cL_isSolved 252 = .ok (.aload_n 3, 1) := by decide +kernel
theorem dL_isSolved_253 : decode cL_isSolved 253 = .ok (.iconst 0, 1) := by decide +kernel
theorem dL_isSolved_254 : decode cL_isSolved 254 = .ok (.dup2, 1) := by decide +kernel
theorem dL_isSolved_255 : decode cL_isSolved 255 = .ok (.iaload, 1) := by decide +kernel
theorem dL_isSolved_256 : decode cL_isSolved 256 = .ok (.iconst 1, 1) := by decide +kernel
theorem dL_isSolved_257 : decode cL_isSolved 257 = .ok (.isub, 1) := by decide +kernel
theorem dL_isSolved_258 : decode cL_isSolved 258 = .ok (.iastore, 1) := by decide +kernel
theorem dL_isSolved_259 : decode cL_isSolved 259 = .ok (.aload_n 1, 1) := by decide +kernel
theorem dL_isSolved_260 : decode cL_isSolved 260 = .ok (.iload 7, 2) := by decide +kernel
theorem dL_isSolved_262 : decode cL_isSolved 262 = .ok (.dup2, 1) := by decide +kernel
theorem dL_isSolved_263 : decode cL_isSolved 263 = .ok (.iaload, 1) := by decide +kernel
theorem dL_isSolved_264 : decode cL_isSolved 264 = .ok (.iconst 1, 1) := by decide +kernel
theorem dL_isSolved_265 : decode cL_isSolved 265 = .ok (.iload 11, 2) := by decide +kernel
theorem dL_isSolved_267 : decode cL_isSolved 267 = .ok (.ishl, 1) := by decide +kernel
theorem dL_isSolved_268 : decode cL_isSolved 268 = .ok (.ior, 1) := by decide +kernel
theorem dL_isSolved_269 : decode cL_isSolved 269 = .ok (.iastore, 1) := by decide +kernel
theorem dL_isSolved_270 : decode cL_isSolved 270 = .ok (.iload 7, 2) := by decide +kernel
theorem dL_isSolved_272 : decode cL_isSolved 272 = .ok (.iconst 2, 1) := by decide +kernel
theorem dL_isSolved_273 : decode cL_isSolved 273 = .ok (.irem, 1) := by decide +kernel
theorem dL_isSolved_274 : decode cL_isSolved 274 = .ok (.ifCond .ne 8, 3) := by decide +kernel
theorem dL_isSolved_277 : decode cL_isSolved 277 = .ok (.iload 12, 2) := by decide +kernel
theorem dL_isSolved_279 : decode cL_isSolved 279 = .ok (.goto 8, 3) := by decide +kernel
theorem dL_isSolved_282 : decode cL_isSolved 282 = .ok (.iload 6, 2) := by decide +kernel
theorem dL_isSolved_284 : decode cL_isSolved 284 = .ok (.iload 12, 2) := by decide +kernel
theorem dL_isSolved_286 : decode cL_isSolved 286 = .ok (.isub, 1) := by decide +kernel
theorem dL_isSolved_287 : decode cL_isSolved 287 = .ok (.istore 12, 2) := by decide +kernel
theorem dL_isSolved_289 : decode cL_isSolved 289 = .ok (.iload 12, 2) := by decide +kernel
theorem dL_isSolved_291 : decode cL_isSolved 291 = .ok (.iload 9, 2) := by decide +kernel
theorem dL_isSolved_293 : decode cL_isSolved 293 = .ok (.if_icmp .le 8, 3) := by decide +kernel
theorem dL_isSolved_296 : decode cL_isSolved 296 = .ok (.iload 11, 2) := by decide +kernel
theorem dL_isSolved_298 : decode cL_isSolved 298 = .ok (.goto 5, 3) := by decide +kernel
theorem dL_isSolved_301 : decode cL_isSolved 301 = .ok (.iload 10, 2) := by decide +kernel
theorem dL_isSolved_303 : decode cL_isSolved 303 = .ok (.istore 10, 2) := by decide +kernel
theorem dL_isSolved_305 : decode cL_isSolved 305 = .ok (.iload 12, 2) := by decide +kernel
theorem dL_isSolved_307 : decode cL_isSolved 307 = .ok (.iload 9, 2) := by decide +kernel
theorem dL_isSolved_309 : decode cL_isSolved 309 = .ok (.if_icmp .le 8, 3) := by decide +kernel
theorem dL_isSolved_312 : decode cL_isSolved 312 = .ok (.iload 12, 2) := by decide +kernel
theorem dL_isSolved_314 : decode cL_isSolved 314 = .ok (.goto 5, 3) := by decide +kernel
theorem dL_isSolved_317 : decode cL_isSolved 317 = .ok (.iload 9, 2) := by decide +kernel
theorem dL_isSolved_319 : decode cL_isSolved 319 = .ok (.istore 9, 2) := by decide +kernel
theorem dL_isSolved_321 : decode cL_isSolved 321 = .ok (.aload_n 0, 1) := by decide +kernel
theorem dL_isSolved_322 : decode cL_isSolved 322 = .ok (.bipush 6, 2) := by decide +kernel
theorem dL_isSolved_324 : decode cL_isSolved 324 = .ok (.iload 11, 2) := by decide +kernel
theorem dL_isSolved_326 : decode cL_isSolved 326 = .ok (.iconst 0, 1) := by decide +kernel
theorem dL_isSolved_327 : decode cL_isSolved 327 = .ok (.invokestatic 118, 3) := by decide +kernel
theorem dL_isSolved_330 : decode cL_isSolved 330 = .ok (.iload 12, 2) := by decide +kernel
theorem dL_isSolved_332 : decode cL_isSolved 332 = .ok (.if_icmp .ne 7, 3) := by decide +kernel
theorem dL_isSolved_335 : decode cL_isSolved 335 = .ok (.iconst 1, 1) := by decide +kernel
theorem dL_isSolved_336 : decode cL_isSolved 336 = .ok (.goto 4, 3) := by decide +kernel
theorem dL_isSolved_339 : decode cL_isSolved 339 = .ok (.iconst 0, 1) := by decide +kernel
theorem dL_isSolved_340 : decode cL_isSolved 340 = .ok (.istore 8, 2) := by decide +kernel
theorem dL_isSolved_342 : decode cL_isSolved 342 = .ok (.iinc 11 1, 3) := by decide +kernel
theorem dL_isSolved_345 : decode cL_isSolved 345 = .ok (.goto (-161), 3) := by decide +kernel
theorem dL_isSolved_348 : decode cL_isSolved 348 = .ok (.iload 8, 2) := by decide +kernel
theorem dL_isSolved_350 : decode cL_isSolved 350 = .ok (.ifCond .eq 20, 3) := by decide +kernel
theorem dL_isSolved_353 : decode cL_isSolved 353 = .ok (.aload_n 0, 1) := by decide +kernel
theorem dL_isSolved_354 : decode cL_isSolved 354 = .ok (.bipush 7, 2) := by decide +kernel
theorem dL_isSolved_356 : decode cL_isSolved 356 = .ok (.iconst 0, 1) := by decide +kernel
theorem dL_isSolved_357 : decode cL_isSolved 357 = .ok (.iconst 0, 1) := by decide +kernel
theorem dL_isSolved_358 : decode cL_isSolved 358 = .ok (.invokestatic 118, 3) := by decide +kernel
theorem dL_isSolved_361 : decode cL_isSolved 361 = .ok (.iload 10, 2) := by decide +kernel
theorem dL_isSolved_363 : decode cL_isSolved 363 = .ok (.if_icmp .ne 7, 3) := by decide +kernel
theorem dL_isSolved_366 : decode cL_isSolved 366 = .ok (.iconst 1, 1) := by decide +kernel
theorem dL_isSolved_367 : decode cL_isSolved 367 = .ok (.goto 4, 3) := by decide +kernel
theorem dL_isSolved_370 : decode cL_isSolved 370 = .ok (.iconst 0, 1) := by decide +kernel
theorem dL_isSolved_371 : decode cL_isSolved 371 = .ok (.ireturn, 1) := by decide +kernel
end
section
set_option maxRecDepth 20000 in
theorem ggL_law_X5_init : GoodIn wsL_law wsX5_init := goodIn_r _ [8, 9, 10, 11, 12, 13, 14, 15, 16, 17, 18, 19, 20, 21, 22, 23, 24, 25, 26, 27, 3, 28, 29, 30, 31, 32, 33, 34, 35, 36, 37, 38, 39, 40, 41, 42, 43, 44, 45, 46, 47, 48, 49, 50, 488, 489, 490, 491, 492, 493, 494, 495, 485, 486, 487, 496, 497, 498, 499] (by decide +kernel) (by decide +kernel)
set_option maxRecDepth 20000 in
theorem gL_law_X5_init : GoodIn wsL_law (wsX5_init) := ggL_law_X5_init

set_option maxRecDepth 20000 in
theorem gq_wsL_isGame_r1 : GoodIn wsL_law wsL_isGame_r1 := goodIn_r _ [55, 56, 53, 57, 58, 59, 60, 2, 61, 15, 62, 63, 64, 14, 65, 66, 67, 68, 69, 70, 71, 72, 73, 74] (by decide +kernel) (by decide +kernel)
set_option maxRecDepth 20000 in
theorem gq_wsL_isGame_r2 : GoodIn wsL_law wsL_isGame_r2 := goodIn_r _ [75, 76, 77, 78, 79, 80, 81, 82, 83, 84, 85, 86, 87, 88, 30, 89, 90, 91, 92, 93, 94, 95, 96, 97] (by decide +kernel) (by decide +kernel)
set_option maxRecDepth 20000 in
theorem gq_wsL_isGame_r3 : GoodIn wsL_law wsL_isGame_r3 := goodIn_r _ [98, 99, 100, 101, 102, 103, 104, 105, 106, 107, 108, 109, 110, 111, 112, 113, 114, 115, 116, 117, 118, 119, 120, 121] (by decide +kernel) (by decide +kernel)
set_option maxRecDepth 20000 in
theorem gq_wsL_isGame_r4 : GoodIn wsL_law wsL_isGame_r4 := goodIn_r _ [122, 123, 124, 125, 126, 127, 128, 29, 129, 130, 131, 132, 133, 134, 135, 136, 137, 138, 139, 140, 141, 142, 143, 144] (by decide +kernel) (by decide +kernel)
set_option maxRecDepth 20000 in
theorem gq_wsL_isGame_r5 : GoodIn wsL_law wsL_isGame_r5 := goodIn_r _ [145, 146, 147, 148, 149, 150, 151, 152, 153, 154, 155, 156, 157, 28, 158, 159, 160, 161, 162, 163, 164, 165, 166, 167] (by decide +kernel) (by decide +kernel)
set_option maxRecDepth 20000 in
theorem gq_wsL_isGame_r6 : GoodIn wsL_law wsL_isGame_r6 := goodIn_r _ [168, 169, 170, 171, 172, 173, 174, 175, 176, 177, 178, 179, 180, 181, 182, 183, 184, 185, 186, 187, 188, 189, 190, 191] (by decide +kernel) (by decide +kernel)
set_option maxRecDepth 20000 in
theorem gq_wsL_isGame_r7 : GoodIn wsL_law wsL_isGame_r7 := goodIn_r _ [192, 193, 194, 195, 196, 197, 198, 199, 200, 201, 202, 203, 204, 23, 205, 206, 207, 22, 208, 50, 209, 210, 211, 212] (by decide +kernel) (by decide +kernel)
set_option maxRecDepth 20000 in
theorem gq_wsL_isGame_r8 : GoodIn wsL_law wsL_isGame_r8 := goodIn_r _ [213, 214, 215, 216, 217, 218, 219, 220, 221, 222, 223, 224, 225, 226, 227, 228, 229, 3, 230, 231, 232, 233, 234, 235] (by decide +kernel) (by decide +kernel)
set_option maxRecDepth 20000 in
theorem gq_wsL_isGame_r9 : GoodIn wsL_law wsL_isGame_r9 := goodIn_r _ [236, 237, 238, 239, 240, 241, 242, 243, 244, 245, 246, 247, 248, 249, 250, 251, 252, 253, 254, 255, 256, 257, 258, 259] (by decide +kernel) (by decide +kernel)
set_option maxRecDepth 20000 in
theorem gq_wsL_isGame_r10 : GoodIn wsL_law wsL_isGame_r10 := goodIn_r _ [260, 261, 262, 263, 264, 265, 266, 267, 268, 269, 270, 271, 272, 273, 274, 275, 276, 277, 278, 279, 280, 281, 282, 283] (by decide +kernel) (by decide +kernel)
set_option maxRecDepth 20000 in
theorem gq_wsL_isGame_r11 : GoodIn wsL_law wsL_isGame_r11 := goodIn_r _ [284, 285, 286, 287, 288, 289, 290, 291, 292, 19, 293, 294, 295, 296, 297, 298, 299, 18, 300, 40, 301, 302, 303, 39] (by decide +kernel) (by decide +kernel)
set_option maxRecDepth 20000 in
theorem gq_wsL_isGame_r12 : GoodIn wsL_law wsL_isGame_r12 := goodIn_r _ [304, 45, 305, 306, 307, 308, 309, 310, 311, 312, 313, 314, 315, 316, 317, 318, 319, 320, 321, 322, 323, 324, 325, 326] (by decide +kernel) (by decide +kernel)
set_option maxRecDepth 20000 in
theorem gq_wsL_isGame_r13 : GoodIn wsL_law wsL_isGame_r13 := goodIn_r _ [327, 328, 329, 330, 331, 332, 31, 333, 334, 335, 336, 337, 338, 339, 340, 341, 342, 343, 344, 345, 346, 347, 348, 349] (by decide +kernel) (by decide +kernel)
set_option maxRecDepth 20000 in
theorem gq_wsL_isGame_r14 : GoodIn wsL_law wsL_isGame_r14 := goodIn_r _ [350, 351, 352, 353, 354, 355, 356, 36, 357, 358, 359, 360, 361, 362, 363, 364, 365, 366, 367, 368, 369, 370, 371, 372] (by decide +kernel) (by decide +kernel)
set_option maxRecDepth 20000 in
theorem gq_wsL_isGame_r15 : GoodIn wsL_law wsL_isGame_r15 := goodIn_r _ [373, 374, 375, 376, 377, 378, 379, 380, 381, 382, 383, 384, 385, 386, 387, 388, 389, 390, 391, 392, 393, 394, 395, 396] (by decide +kernel) (by decide +kernel)
set_option maxRecDepth 20000 in
theorem gq_wsL_isGame_r16 : GoodIn wsL_law wsL_isGame_r16 := goodIn_r _ [397, 398, 399, 400, 401, 402, 403, 404, 405, 406, 407, 408, 409, 410, 411, 412, 413, 414, 415, 416, 417, 418, 419, 420] (by decide +kernel) (by decide +kernel)
set_option maxRecDepth 20000 in
theorem gq_wsL_isGame_r17 : GoodIn wsL_law wsL_isGame_r17 := goodIn_r _ [421, 422, 423, 424, 425, 426, 427, 428, 429, 430, 431, 432, 433, 434, 435, 436, 437, 438, 439, 440, 441, 442, 443, 444] (by decide +kernel) (by decide +kernel)
set_option maxRecDepth 20000 in
theorem gq_wsL_isGame_r18 : GoodIn wsL_law wsL_isGame_r18 := goodIn_r _ [445, 446, 447, 448, 449, 450, 451, 452, 453, 454, 455, 456, 457, 458, 459, 460, 461, 462, 463, 464, 465, 466, 467] (by decide +kernel) (by decide +kernel)
set_option maxRecDepth 20000 in
theorem gq_L_isGame_h : GoodIn wsL_law [.code yL_isGame cL_isGame 14 (some .boolean)] := goodIn_r _ [54] (by decide +kernel) (by decide +kernel)
theorem ggL_law_L_isGame : GoodIn wsL_law wsL_isGame := gi_cons gq_L_isGame_h (goodIn_app (goodIn_app (goodIn_app (goodIn_app (goodIn_app (goodIn_app (goodIn_app (goodIn_app (goodIn_app gq_wsL_isGame_r1 (goodIn_app gq_wsL_isGame_r2 (goodIn_app gq_wsL_isGame_r3 (goodIn_app gq_wsL_isGame_r4 (goodIn_app gq_wsL_isGame_r5 (goodIn_app gq_wsL_isGame_r6 (goodIn_app gq_wsL_isGame_r7 (goodIn_app gq_wsL_isGame_r8 (goodIn_app gq_wsL_isGame_r9 (goodIn_app gq_wsL_isGame_r10 (goodIn_app gq_wsL_isGame_r11 (goodIn_app gq_wsL_isGame_r12 (goodIn_app gq_wsL_isGame_r13 (goodIn_app gq_wsL_isGame_r14 (goodIn_app gq_wsL_isGame_r15 (goodIn_app gq_wsL_isGame_r16 (goodIn_app gq_wsL_isGame_r17 (gq_wsL_isGame_r18)))))))))))))))))) (goodIn_sub inlX5 (by decide +kernel))) (goodIn_sub inlX1 (by decide +kernel))) (goodIn_sub inlX3 (by decide +kernel))) (goodIn_sub inlX4 (by decide +kernel))) (goodIn_sub inlX2 (by decide +kernel))) (goodIn_sub (fun _ h => List.mem_append_left _ (List.mem_append_left _ (List.mem_append_right _ h))) (by decide +kernel))) (goodIn_sub (fun _ h => List.mem_append_left _ (List.mem_append_right _ h)) (by decide +kernel))) (goodIn_sub (fun _ h => List.mem_append_right _ h) (by decide +kernel)))
set_option maxRecDepth 20000 in
theorem gL_law_L_isGame : GoodIn wsL_law (va_wsS RL 130 yL_isGame wsL_isGame) := goodIn_app (goodIn_of _ (by decide +kernel)) ggL_law_L_isGame

set_option maxRecDepth 20000 in
theorem gq_wsL_isSolved_r1 : GoodIn wsL_law wsL_isSolved_r1 := goodIn_r _ [265, 266, 53, 267, 268, 269, 270, 271, 2, 272, 273, 274, 15, 151, 152, 153, 102, 103, 249, 250, 251, 275, 276, 277] (by decide +kernel) (by decide +kernel)
set_option maxRecDepth 20000 in
theorem gq_wsL_isSolved_r2 : GoodIn wsL_law wsL_isSolved_r2 := goodIn_r _ [14, 278, 66, 279, 243, 193, 110, 194, 257, 155, 156, 157, 28, 280, 196, 183, 197, 198, 199, 200, 281, 282, 283, 284] (by decide +kernel) (by decide +kernel)
set_option maxRecDepth 20000 in
theorem gq_wsL_isSolved_r3 : GoodIn wsL_law wsL_isSolved_r3 := goodIn_r _ [285, 286, 287, 288, 289, 290, 291, 292, 19, 293, 294, 295, 296, 297, 298, 299, 18, 300, 40, 301, 302, 303, 39, 304] (by decide +kernel) (by decide +kernel)
set_option maxRecDepth 20000 in
theorem gq_wsL_isSolved_r4 : GoodIn wsL_law wsL_isSolved_r4 := goodIn_r _ [45, 305, 306, 307, 308, 79, 30, 309, 310, 311, 312, 313, 314, 315, 316, 252, 253, 254, 255, 256, 72, 73, 74, 75] (by decide +kernel) (by decide +kernel)
set_option maxRecDepth 20000 in
theorem gq_wsL_isSolved_r5 : GoodIn wsL_law wsL_isSolved_r5 := goodIn_r _ [76, 77, 78, 80, 81, 82, 83, 84, 85, 86, 87, 88, 89, 90, 91, 92, 258, 122, 123, 124, 125, 126, 127, 128] (by decide +kernel) (by decide +kernel)
set_option maxRecDepth 20000 in
theorem gq_wsL_isSolved_r6 : GoodIn wsL_law wsL_isSolved_r6 := goodIn_r _ [29, 259, 190, 191, 260, 219, 220, 261, 317, 318, 319, 320, 321, 322, 323, 324, 325, 326, 327, 328, 329, 330, 331, 332] (by decide +kernel) (by decide +kernel)
set_option maxRecDepth 20000 in
theorem gq_wsL_isSolved_r7 : GoodIn wsL_law wsL_isSolved_r7 := goodIn_r _ [31, 333, 334, 335, 336, 337, 338, 339, 340, 341, 342, 343, 344, 345, 346, 347, 348, 349, 350, 351, 352, 62, 63, 64] (by decide +kernel) (by decide +kernel)
set_option maxRecDepth 20000 in
theorem gq_wsL_isSolved_r8 : GoodIn wsL_law wsL_isSolved_r8 := goodIn_r _ [65, 353, 354, 355, 356, 36, 357, 358, 359, 360, 361, 362, 363, 364, 365, 366, 367, 368, 369, 370, 371, 372, 373, 374] (by decide +kernel) (by decide +kernel)
set_option maxRecDepth 20000 in
theorem gq_wsL_isSolved_r9 : GoodIn wsL_law wsL_isSolved_r9 := goodIn_r _ [375, 376, 377, 378, 379, 380, 167, 168, 169, 170, 381, 382, 383, 384, 385, 386, 387, 388, 389, 390, 391, 392, 393, 394] (by decide +kernel) (by decide +kernel)
set_option maxRecDepth 20000 in
theorem gq_wsL_isSolved_r10 : GoodIn wsL_law wsL_isSolved_r10 := goodIn_r _ [395, 396, 397, 398, 399, 400, 401, 402, 403, 109, 111, 404, 405, 163, 164, 165, 166, 171, 172, 173, 174, 406, 176, 177] (by decide +kernel) (by decide +kernel)
set_option maxRecDepth 20000 in
theorem gq_wsL_isSolved_r11 : GoodIn wsL_law wsL_isSolved_r11 := goodIn_r _ [178, 179, 180, 181, 182, 184, 185, 186, 187, 188, 189, 192, 407, 222, 223, 224, 225, 226, 408, 409, 410, 411, 412, 413] (by decide +kernel) (by decide +kernel)
set_option maxRecDepth 20000 in
theorem gq_wsL_isSolved_r12 : GoodIn wsL_law wsL_isSolved_r12 := goodIn_r _ [414, 415, 416, 417, 418, 419, 420, 421, 422, 423, 424, 425, 426, 427, 428, 429, 430, 431, 432, 433, 71, 434, 435, 436] (by decide +kernel) (by decide +kernel)
set_option maxRecDepth 20000 in
theorem gq_wsL_isSolved_r13 : GoodIn wsL_law wsL_isSolved_r13 := goodIn_r _ [437, 438, 439, 440, 441, 442, 23, 443, 444, 445, 446, 447, 240, 241, 242, 448, 449, 450, 22, 451, 50, 239, 209, 452] (by decide +kernel) (by decide +kernel)
set_option maxRecDepth 20000 in
theorem gq_wsL_isSolved_r14 : GoodIn wsL_law wsL_isSolved_r14 := goodIn_r _ [453, 454, 455, 456, 457, 458, 212, 213, 214, 215, 216, 217, 218, 221, 112, 113, 114, 55, 56, 57, 471, 472, 473, 3] (by decide +kernel) (by decide +kernel)
set_option maxRecDepth 20000 in
theorem gq_wsL_isSolved_r15 : GoodIn wsL_law wsL_isSolved_r15 := goodIn_r _ [474, 475, 476, 262, 263, 264, 129, 130, 131] (by decide +kernel) (by decide +kernel)
set_option maxRecDepth 20000 in
theorem gq_L_isSolved_h : GoodIn wsL_law [.code yL_isSolved cL_isSolved 13 (some .boolean)] := goodIn_r _ [470] (by decide +kernel) (by decide +kernel)
theorem ggL_law_L_isSolved : GoodIn wsL_law wsL_isSolved := gi_cons gq_L_isSolved_h (goodIn_app (goodIn_app (goodIn_app (goodIn_app (goodIn_app (goodIn_app (goodIn_app (goodIn_app gq_wsL_isSolved_r1 (goodIn_app gq_wsL_isSolved_r2 (goodIn_app gq_wsL_isSolved_r3 (goodIn_app gq_wsL_isSolved_r4 (goodIn_app gq_wsL_isSolved_r5 (goodIn_app gq_wsL_isSolved_r6 (goodIn_app gq_wsL_isSolved_r7 (goodIn_app gq_wsL_isSolved_r8 (goodIn_app gq_wsL_isSolved_r9 (goodIn_app gq_wsL_isSolved_r10 (goodIn_app gq_wsL_isSolved_r11 (goodIn_app gq_wsL_isSolved_r12 (goodIn_app gq_wsL_isSolved_r13 (goodIn_app gq_wsL_isSolved_r14 (gq_wsL_isSolved_r15))))))))))))))) (goodIn_sub inlX5 (by decide +kernel))) (goodIn_sub inlX1 (by decide +kernel))) (goodIn_sub inlX4 (by decide +kernel))) (goodIn_sub inlX2 (by decide +kernel))) (goodIn_sub inlX3 (by decide +kernel))) (goodIn_sub (fun _ h => List.mem_append_right _ h) (by decide +kernel))) (goodIn_sub (fun _ h => List.mem_append_left _ (List.mem_append_left _ (List.mem_append_right _ h))) (by decide +kernel)))
set_option maxRecDepth 20000 in
theorem gL_law_L_isSolved : GoodIn wsL_law (va_wsS RL 134 yL_isSolved wsL_isSolved) := goodIn_app (goodIn_of _ (by decide +kernel)) ggL_law_L_isSolved
set_option maxRecDepth 20000 in
theorem ggL_law_X5_begin : GoodIn wsL_law wsX5_begin := goodIn_ca (goodIn_r _ [480, 102, 103, 15, 481, 482, 483, 14, 484, 31, 28, 279, 66, 79, 80, 485, 486, 487, 488, 489, 490, 491, 492, 493, 494, 495] (by decide +kernel) (by decide +kernel)) (goodIn_sub (fun _ h => List.mem_append_left _ (List.mem_append_left _ (List.mem_append_right _ h))) (by decide +kernel))
set_option maxRecDepth 20000 in
theorem gL_law_X5_begin : GoodIn wsL_law (wsV RL 139 RX5 yX5_begin wsX5_begin) := goodIn_app (goodIn_of _ (by decide +kernel)) ggL_law_X5_begin
set_option maxRecDepth 20000 in
theorem ggL_law_L_size : GoodIn wsL_law wsL_size := goodIn_r _ [476] (by decide +kernel) (by decide +kernel)
set_option maxRecDepth 20000 in
theorem gL_law_L_size : GoodIn wsL_law (va_wsS RL 17 yL_size wsL_size) := goodIn_app (goodIn_of _ (by decide +kernel)) ggL_law_L_size
set_option maxRecDepth 20000 in
theorem ggL_law_L_has : GoodIn wsL_law wsL_has := goodIn_r _ [131] (by decide +kernel) (by decide +kernel)
set_option maxRecDepth 20000 in
theorem gL_law_L_has : GoodIn wsL_law (va_wsS RL 13 yL_has wsL_has) := goodIn_app (goodIn_of _ (by decide +kernel)) ggL_law_L_has
set_option maxRecDepth 20000 in
theorem ggL_law_L_does : GoodIn wsL_law wsL_does := goodIn_ca (goodIn_ca (goodIn_r _ [267, 268, 269, 270, 271, 2, 272, 273, 274, 15, 151, 152, 153, 102, 103, 249, 250, 251, 275, 276, 277, 14, 278, 66, 279, 243, 193, 110, 194, 257, 155, 156, 157, 28, 280, 196, 183, 197, 198, 199, 200, 281, 282, 283, 284, 285, 286, 287, 288, 289, 290, 291, 292, 19, 293, 294, 295, 296, 297, 298, 299, 18, 300, 40, 301, 302, 303, 39, 304, 45, 305, 306, 307, 308, 79, 30, 309, 310, 311, 312, 313, 314, 315, 316, 252, 253, 254, 255, 256, 72, 73, 74, 75, 76, 77, 78, 80, 81, 82, 83, 84, 85, 86, 87, 88, 89, 90, 91, 92, 258, 122, 123, 124, 125, 126, 127, 128, 29, 259, 190, 191, 260, 219, 220, 261, 317, 318, 319, 320, 321, 322, 323, 324, 325, 326, 327, 328, 329, 330, 331, 332, 31, 333, 334, 335, 336, 337, 338, 339, 340, 341, 342, 343, 344, 345, 346, 347, 348, 349, 350, 351, 352, 62, 63, 64, 65, 353, 354, 355, 356, 36, 357, 358, 359, 360, 361, 362, 363, 364, 365, 366, 367, 368, 369, 370, 371, 372, 373, 374, 375, 376, 377, 378, 379, 380, 167, 168, 169, 170, 381, 382, 383, 384, 385, 386, 387, 388, 389, 390, 391, 392, 393, 394, 395, 396, 397, 398, 399, 400, 401, 402, 403, 109, 111, 404, 405, 163, 164, 165, 166, 171, 172, 173, 174, 406, 176, 177, 178, 179, 180, 181, 182, 184, 185, 186, 187, 188, 189, 192, 407, 222, 223, 224, 225, 226, 408, 409, 410, 411, 412, 413, 414, 415, 416, 417, 418, 419, 420, 421, 422, 423, 424, 425, 426, 427, 428, 429, 430, 431, 432, 433, 71, 434, 435, 436, 437, 438, 439, 440, 441, 442, 23, 443, 444, 445, 446, 447, 240, 241, 242, 448, 449, 450, 22, 451, 50, 239, 209, 452, 453, 454, 455, 456, 457, 458, 212, 213, 214, 215, 216, 217, 218, 221, 485, 486, 487, 488, 489, 490, 491, 492, 493, 494, 495, 496, 497, 499, 498] (by decide +kernel) (by decide +kernel)) (goodIn_sub (fun _ h => List.mem_append_right _ h) (by decide +kernel))) (goodIn_sub (fun _ h => List.mem_append_left _ (List.mem_append_left _ (List.mem_append_right _ h))) (by decide +kernel))
set_option maxRecDepth 20000 in
theorem gL_law_L_does : GoodIn wsL_law (va_wsS RL 118 yL_does wsL_does) := goodIn_app (goodIn_of _ (by decide +kernel)) ggL_law_L_does
set_option maxRecDepth 20000 in
theorem ggL_law_L_leader : GoodIn wsL_law wsL_leader := goodIn_r _ [57] (by decide +kernel) (by decide +kernel)
set_option maxRecDepth 20000 in
theorem gL_law_L_leader : GoodIn wsL_law (va_wsS RL 7 yL_leader wsL_leader) := goodIn_app (goodIn_of _ (by decide +kernel)) ggL_law_L_leader
set_option maxRecDepth 20000 in
theorem ggL_law_L_can : GoodIn wsL_law wsL_can := goodIn_r _ [264, 55, 56, 53, 57, 129, 130, 131] (by decide +kernel) (by decide +kernel)
set_option maxRecDepth 20000 in
theorem gL_law_L_can : GoodIn wsL_law (va_wsS RL 21 yL_can wsL_can) := goodIn_app (goodIn_of _ (by decide +kernel)) ggL_law_L_can
abbrev vwCl : List vw_C := [(RX1, TX1, 8), (RX2, TX2, 1), (RX3, TX3, 1), (RX4, TX4, 2), (RX5, TX5, 3)]
end
section
theorem dL_law_0 : decode cL_law 0 = .ok (.new 41, 3) := by decide +kernel
theorem dL_law_3 : decode cL_law 3 = .ok (.dup, 1) := by decide +kernel
theorem dL_law_4 : decode cL_law 4 = .ok (.invokespecial 129, 3) := by decide +kernel
theorem dL_law_7 : decode cL_law 7 = .ok (.astore_n 1, 1) := by decide +kernel
theorem dL_law_8 : decode cL_law 8 = .ok (.iconst 4, 1) := by decide +kernel
theorem dL_law_9 : decode cL_law 9 = .ok (.newarray .int, 2) := by decide +kernel
theorem dL_law_11 : decode cL_law 11 = .ok (.astore_n 2, 1) := by decide +kernel
theorem dL_law_12 : decode cL_law 12 = .ok (.bipush 16, 2) := by decide +kernel
theorem dL_law_14 : decode cL_law 14 = .ok (.newarray .int, 2) := by decide +kernel
theorem dL_law_16 : decode cL_law 16 = .ok (.astore_n 3, 1) := by decide +kernel
theorem dL_law_17 : decode cL_law 17 = .ok (.iconst 4, 1) := by decide +kernel
theorem dL_law_18 : decode cL_law 18 = .ok (.newarray .int, 2) := by decide +kernel
theorem dL_law_20 : decode cL_law 20 = .ok (.astore 4, 2) := by decide +kernel
theorem dL_law_22 : decode cL_law 22 = .ok (.aload 4, 2) := by decide +kernel
theorem dL_law_24 : decode cL_law 24 = .ok (.iconst 1, 1) := by decide +kernel
theorem dL_law_25 : decode cL_law 25 = .ok (.iconst (-1), 1) := by decide +kernel
theorem dL_law_26 : decode cL_law 26 = .ok (.iastore, 1) := by decide +kernel
theorem dL_law_27 : decode cL_law 27 = .ok (.iconst 1, 1) := by decide +kernel
theorem dL_law_28 : decode cL_law 28 = .ok (.aload_n 0, 1) := by decide +kernel
theorem dL_law_29 : decode cL_law 29 = .ok (.arraylength, 1) := by decide +kernel
theorem dL_law_30 : decode cL_law 30 = .ok (.ifCond .le 11, 3) := by decide +kernel
theorem dL_law_33 : decode cL_law 33 = .ok (.aload_n 0, 1) := by decide +kernel
theorem dL_law_34 : decode cL_law 34 = .ok (.iconst 0, 1) := by decide +kernel
theorem dL_law_35 : decode cL_law 35 = .ok (.iaload, 1) := by decide +kernel
theorem dL_law_36 : decode cL_law 36 = .ok (.iconst 1, 1) := by decide +kernel
theorem dL_law_37 : decode cL_law 37 = .ok (.iand, 1) := by decide +kernel
theorem dL_law_38 : decode cL_law 38 = .ok (.goto 4, 3) := by decide +kernel
theorem dL_law_41 : decode cL_law 41 = .ok (.iconst 1, 1) := by decide +kernel
theorem dL_law_42 : decode cL_law 42 = .ok (.iadd, 1) := by decide +kernel
theorem dL_law_43 : decode cL_law 43 = .ok (.aload_n 0, 1) := by decide +kernel
theorem dL_law_44 : decode cL_law 44 = .ok (.arraylength, 1) := by decide +kernel
theorem dL_law_45 : decode cL_law 45 = .ok (.iconst 1, 1) := by decide +kernel
theorem dL_law_46 : decode cL_law 46 = .ok (.if_icmp .le 11, 3) := by decide +kernel
theorem dL_law_49 : decode cL_law 49 = .ok (.aload_n 0, 1) := by decide +kernel
theorem dL_law_50 : decode cL_law 50 = .ok (.iconst 1, 1) := by decide +kernel
theorem dL_law_51 : decode cL_law 51 = .ok (.iaload, 1) := by decide +kernel
theorem dL_law_52 : decode cL_law 52 = .ok (.iconst 1, 1) := by decide +kernel
theorem dL_law_53 : decode cL_law 53 = .ok (.iand, 1) := by decide +kernel
theorem dL_law_54 : decode cL_law 54 = .ok (.goto 4, 3) := by decide +kernel
theorem dL_law_57 : decode cL_law 57 = .ok (.iconst 1, 1) := by decide +kernel
theorem dL_law_58 : decode cL_law 58 = .ok (.iadd, 1) := by decide +kernel
theorem dL_law_59 : decode cL_law 59 = .ok (.istore 5, 2) := by decide +kernel
theorem dL_law_61 : decode cL_law 61 = .ok (.aload_n 1, 1) := by decide +kernel
theorem dL_law_62 : decode cL_law 62 = .ok (.aload_n 2, 1) := by decide +kernel
theorem dL_law_63 : decode cL_law 63 = .ok (.aload_n 3, 1) := by decide +kernel
theorem dL_law_64 : decode cL_law 64 = .ok (.aload 4, 2) := by decide +kernel
theorem dL_law_66 : decode cL_law 66 = .ok (.invokestatic 130, 3) := by decide +kernel
theorem dL_law_69 : decode cL_law 69 = .ok (.ifCond .eq 18, 3) := by decide +kernel
theorem dL_law_72 : decode cL_law 72 = .ok (.aload_n 1, 1) := by decide +kernel
theorem dL_law_73 : decode cL_law 73 = .ok (.aload_n 2, 1) := by decide +kernel
theorem dL_law_74 : decode cL_law 74 = .ok (.aload_n 3, 1) := by decide +kernel
theorem dL_law_75 : decode cL_law 75 = .ok (.aload 4, 2) := by decide +kernel
theorem dL_law_77 : decode cL_law 77 = .ok (.invokestatic 134, 3) := by decide +kernel
theorem dL_law_80 : decode cL_law 80 = .ok (.ifCond .eq 7, 3) := by decide +kernel
theorem dL_law_83 : decode cL_law 83 = .ok (.iconst 1, 1) := by decide +kernel
theorem dL_law_84 : decode cL_law 84 = .ok (.goto 4, 3) := by decide +kernel
theorem dL_law_87 : decode cL_law 87 = .ok (.iconst 0, 1) := by decide +kernel
theorem dL_law_88 : decode cL_law 88 = .ok (.istore 6, 2) := by decide +kernel
theorem dL_law_90 : decode cL_law 90 = .ok (.iconst 0, 1) := by decide +kernel
theorem dL_law_91 : decode cL_law 91 = .ok (.istore 7, 2) := by decide +kernel
theorem dL_law_93 : decode cL_law 93 = .ok (.iload 7, 2) := by decide +kernel
theorem dL_law_95 : decode cL_law 95 = .ok (.bipush 60, 2) := by decide +kernel
theorem dL_law_97 : decode cL_law 97 = .ok (.if_icmp .ge 880, 3) := by decide +kernel
theorem dL_law_100 : decode cL_law 100 = .ok (.iload 6, 2) := by decide +kernel
theorem dL_law_102 : decode cL_law 102 = .ok (.ifCond .eq 875, 3) := by decide +kernel
theorem dL_law_105 : decode cL_law 105 = .ok (.iload 7, 2) := by decide +kernel
theorem dL_law_107 : decode cL_law 107 = .ok (.aload_n 0, 1) := by decide +kernel
theorem dL_law_108 : decode cL_law 108 = .ok (.arraylength, 1) := by decide +kernel
theorem dL_law_109 : decode cL_law 109 = .ok (.if_icmp .ge 13, 3) := by decide +kernel
theorem dL_law_112 : decode cL_law 112 = .ok (.aload_n 0, 1) := by decide +kernel
theorem dL_law_113 : decode cL_law 113 = .ok (.iload 7, 2) := by decide +kernel
theorem dL_law_115 : decode cL_law 115 = .ok (.iaload, 1) := by decide +kernel
theorem dL_law_116 : decode cL_law 116 = .ok (.ldc 137, 2) := by decide +kernel
theorem dL_law_118 : decode cL_law 118 = .ok (.iand, 1) := by decide +kernel
theorem dL_law_119 : decode cL_law 119 = .ok (.goto 24, 3) := by decide +kernel
theorem dL_law_122 : decode cL_law 122 = .ok (.ldc 138, 2) := by decide +kernel
theorem dL_law_124 : decode cL_law 124 = .ok (.iload 7, 2) := by decide +kernel
theorem dL_law_126 : decode cL_law 126 = .ok (.imul, 1) := by decide +kernel
theorem dL_law_127 : decode cL_law 127 = .ok (.iload 7, 2) := by decide +kernel
theorem dL_law_129 : decode cL_law 129 = .ok (.imul, 1) := by decide +kernel
theorem dL_law_130 : decode cL_law 130 = .ok (.sipush 1511, 3) := by decide +kernel
theorem dL_law_133 : decode cL_law 133 = .ok (.iload 7, 2) := by decide +kernel
theorem dL_law_135 : decode cL_law 135 = .ok (.imul, 1) := by decide +kernel
theorem dL_law_136 : decode cL_law 136 = .ok (.iadd, 1) := by decide +kernel
theorem dL_law_137 : decode cL_law 137 = .ok (.bipush 37, 2) := by decide +kernel
theorem dL_law_139 : decode cL_law 139 = .ok (.iadd, 1) := by decide +kernel
theorem dL_law_140 : decode cL_law 140 = .ok (.ldc 137, 2) := by decide +kernel
theorem dL_law_142 : decode cL_law 142 = .ok (.iand, 1) := by decide +kernel
theorem dL_law_143 : decode cL_law 143 = .ok (.istore 8, 2) := by decide +kernel
theorem dL_law_145 : decode cL_law 145 = .ok (.aload_n 2, 1) := by decide +kernel
theorem dL_law_146 : decode cL_law 146 = .ok (.iconst 0, 1) := by decide +kernel
theorem dL_law_147 : decode cL_law 147 = .ok (.iaload, 1) := by decide +kernel
theorem dL_law_148 : decode cL_law 148 = .ok (.aload_n 2, 1) := by decide +kernel
theorem dL_law_149 : decode cL_law 149 = .ok (.iconst 1, 1) := by decide +kernel
theorem dL_law_150 : decode cL_law 150 = .ok (.iaload, 1) := by decide +kernel
theorem dL_law_151 : decode cL_law 151 = .ok (.ior, 1) := by decide +kernel
theorem dL_law_152 : decode cL_law 152 = .ok (.aload_n 2, 1) := by decide +kernel
theorem dL_law_153 : decode cL_law 153 = .ok (.iconst 2, 1) := by decide +kernel
theorem dL_law_154 : decode cL_law 154 = .ok (.iaload, 1) := by decide +kernel
theorem dL_law_155 : decode cL_law 155 = .ok (.ior, 1) := by decide +kernel
theorem dL_law_156 : decode cL_law 156 = .ok (.aload_n 2, 1) := by decide +kernel
theorem dL_law_157 : decode cL_law 157 = .ok (.iconst 3, 1) := by decide +kernel
theorem dL_law_158 : decode cL_law 158 = .ok (.iaload, 1) := by decide +kernel
theorem dL_law_159 : decode cL_law 159 = .ok (.ior, 1) := by decide +kernel
theorem dL_law_160 : decode cL_law 160 = .ok (.istore 9, 2) := by decide +kernel
theorem dL_law_162 : decode cL_law 162 = .ok (.aload 4, 2) := by decide +kernel
theorem dL_law_164 : decode cL_law 164 = .ok (.iconst 3, 1) := by decide +kernel
theorem dL_law_165 : decode cL_law 165 = .ok (.iaload, 1) := by decide +kernel
theorem dL_law_166 : decode cL_law 166 = .ok (.iconst 1, 1) := by decide +kernel
theorem dL_law_167 : decode cL_law 167 = .ok (.if_icmp .ne 12, 3) := by decide +kernel
theorem dL_law_170 : decode cL_law 170 = .ok (.iload 9, 2) := by decide +kernel
theorem dL_law_172 : decode cL_law 172 = .ok (.ifCond .ne 7, 3) := by decide +kernel
theorem dL_law_175 : decode cL_law 175 = .ok (.iconst 1, 1) := by decide +kernel
theorem dL_law_176 : decode cL_law 176 = .ok (.goto 4, 3) := by decide +kernel
theorem dL_law_179 : decode cL_law 179 = .ok (.iconst 0, 1) := by decide +kernel
theorem dL_law_180 : decode cL_law 180 = .ok (.istore 10, 2) := by decide +kernel
theorem dL_law_182 : decode cL_law 182 = .ok (.iload 7, 2) := by decide +kernel
theorem dL_law_184 : decode cL_law 184 = .ok (.ifCond .eq 15, 3) := by decide +kernel
theorem dL_law_187 : decode cL_law 187 = .ok (.iload 10, 2) := by decide +kernel
theorem dL_law_189 : decode cL_law 189 = .ok (.ifCond .eq 82, 3) := by decide +kernel
theorem dL_law_192 : decode cL_law 192 = .ok (.iload 8, 2) := by decide +kernel
theorem dL_law_194 : decode cL_law 194 = .ok (.iconst 4, 1) := by decide +kernel
theorem dL_law_195 : decode cL_law 195 = .ok (.irem, 1) := by decide +kernel
theorem dL_law_196 : decode cL_law 196 = .ok (.ifCond .ne 75, 3) := by decide +kernel
theorem dL_law_199 : decode cL_law 199 = .ok (.aload 4, 2) := by decide +kernel
theorem dL_law_201 : decode cL_law 201 = .ok (.iconst 1, 1) := by decide +kernel
theorem dL_law_202 : decode cL_law 202 = .ok (.iaload, 1) := by decide +kernel
theorem dL_law_203 : decode cL_law 203 = .ok (.istore 11, 2) := by decide +kernel
theorem dL_law_205 : decode cL_law 205 = .ok (.aload 4, 2) := by decide +kernel
theorem dL_law_207 : decode cL_law 207 = .ok (.iconst 1, 1) := by decide +kernel
theorem dL_law_208 : decode cL_law 208 = .ok (.iload 8, 2) := by decide +kernel
theorem dL_law_210 : decode cL_law 210 = .ok (.iconst 4, 1) := by decide +kernel
theorem dL_law_211 : decode cL_law 211 = .ok (.idiv, 1) := by decide +kernel
theorem dL_law_212 : decode cL_law 212 = .ok (.iconst 5, 1) := by decide +kernel
theorem dL_law_213 : decode cL_law 213 = .ok (.irem, 1) := by decide +kernel
theorem dL_law_214 : decode cL_law 214 = .ok (.iconst 1, 1) := by decide +kernel
theorem dL_law_215 : decode cL_law 215 = .ok (.isub, 1) := by decide +kernel
theorem dL_law_216 : decode cL_law 216 = .ok (.iastore, 1) := by decide +kernel
theorem dL_law_217 : decode cL_law 217 = .ok (.aload_n 1, 1) := by decide +kernel
theorem dL_law_218 : decode cL_law 218 = .ok (.aload 4, 2) := by decide +kernel
theorem dL_law_220 : decode cL_law 220 = .ok (.iconst 1, 1) := by decide +kernel
theorem dL_law_221 : decode cL_law 221 = .ok (.iaload, 1) := by decide +kernel
theorem dL_law_222 : decode cL_law 222 = .ok (.invokevirtual 139, 3) := by decide +kernel
theorem dL_law_225 : decode cL_law 225 = .ok (.iload 11, 2) := by decide +kernel
theorem dL_law_227 : decode cL_law 227 = .ok (.if_icmp .ne 7, 3) := by decide +kernel
theorem dL_law_230 : decode cL_law 230 = .ok (.iconst 1, 1) := by decide +kernel
theorem dL_law_231 : decode cL_law 231 = .ok (.goto 4, 3) := by decide +kernel
theorem dL_law_234 : decode cL_law 234 = .ok (.iconst 0, 1) := by decide +kernel
theorem dL_law_235 : decode cL_law 235 = .ok (.istore 6, 2) := by decide +kernel
theorem dL_law_237 : decode cL_law 237 = .ok (.aload 4, 2) := by decide +kernel
theorem dL_law_239 : decode cL_law 239 = .ok (.iconst 0, 1) := by decide +kernel
theorem dL_law_240 : decode cL_law 240 = .ok (.iconst 0, 1) := by decide +kernel
theorem dL_law_241 : decode cL_law 241 = .ok (.iastore, 1) := by decide +kernel
theorem dL_law_242 : decode cL_law 242 = .ok (.aload 4, 2) := by decide +kernel
theorem dL_law_244 : decode cL_law 244 = .ok (.iconst 3, 1) := by decide +kernel
theorem dL_law_245 : decode cL_law 245 = .ok (.iconst 0, 1) := by decide +kernel
theorem dL_law_246 : decode cL_law 246 = .ok (.iastore, 1) := by decide +kernel
theorem dL_law_247 : decode cL_law 247 = .ok (.aload_n 2, 1) := by decide +kernel
theorem dL_law_248 : decode cL_law 248 = .ok (.iconst 0, 1) := by decide +kernel
theorem dL_law_249 : decode cL_law 249 = .ok (.iconst 0, 1) := by decide +kernel
theorem dL_law_250 : decode cL_law 250 = .ok (.iastore, 1) := by decide +kernel
theorem dL_law_251 : decode cL_law 251 = .ok (.aload_n 2, 1) := by decide +kernel
theorem dL_law_252 : decode cL_law 252 = .ok (.iconst 1, 1) := by decide +kernel
theorem dL_law_253 : decode cL_law 253 = .ok (.iconst 0, 1) := by decide +kernel
theorem dL_law_254 : decode cL_law 254 = .ok (.iastore, 1) := by decide +kernel
theorem dL_law_255 : decode cL_law 255 = .ok (.aload_n 2, 1) := by decide +kernel
theorem dL_law_256 : decode cL_law 256 = .ok (.iconst 2, 1) := by decide +kernel
theorem dL_law_257 : decode cL_law 257 = .ok (.iconst 0, 1) := by decide +kernel
theorem dL_law_258 : decode cL_law 258 = .ok (.iastore, 1) := by decide +kernel
theorem dL_law_259 : decode cL_law 259 = .ok (.aload_n 2, 1) := by decide +kernel
theorem dL_law_260 : decode cL_law 260 = .ok (.iconst 3, 1) := by decide +kernel
theorem dL_law_261 : decode cL_law 261 = .ok (.iconst 0, 1) := by decide +kernel
theorem dL_law_262 : decode cL_law 262 = .ok (.iastore, 1) := by decide +kernel
theorem dL_law_263 : decode cL_law 263 = .ok (.aload 4, 2) := by decide +kernel
theorem dL_law_265 : decode cL_law 265 = .ok (.iconst 2, 1) := by decide +kernel
theorem dL_law_266 : decode cL_law 266 = .ok (.iconst 0, 1) := by decide +kernel
theorem dL_law_267 : decode cL_law 267 = .ok (.iastore, 1) := by decide +kernel
theorem dL_law_268 : decode cL_law 268 = .ok (.goto 669, 3) := by decide +kernel
theorem dL_law_271 : decode cL_law 271 = .ok (.aload 4, 2) := by decide +kernel
theorem dL_law_273 : decode cL_law 273 = .ok (.iconst 3, 1) := by decide +kernel
theorem dL_law_274 : decode cL_law 274 = .ok (.iaload, 1) := by decide +kernel
theorem dL_law_275 : decode cL_law 275 = .ok (.ifCond .ne 386, 3) := by decide +kernel
theorem dL_law_278 : decode cL_law 278 = .ok (.iconst 4, 1) := by decide +kernel
theorem dL_law_279 : decode cL_law 279 = .ok (.iload 5, 2) := by decide +kernel
theorem dL_law_281 : decode cL_law 281 = .ok (.imul, 1) := by decide +kernel
theorem dL_law_282 : decode cL_law 282 = .ok (.iload 9, 2) := by decide +kernel
theorem dL_law_284 : decode cL_law 284 = .ok (.invokestatic 17, 3) := by decide +kernel
theorem dL_law_287 : decode cL_law 287 = .ok (.isub, 1) := by decide +kernel
theorem dL_law_288 : decode cL_law 288 = .ok (.istore 11, 2) := by decide +kernel
theorem dL_law_290 : decode cL_law 290 = .ok (.iconst 0, 1) := by decide +kernel
theorem dL_law_291 : decode cL_law 291 = .ok (.istore 12, 2) := by decide +kernel
theorem dL_law_293 : decode cL_law 293 = .ok (.iload 12, 2) := by decide +kernel
theorem dL_law_295 : decode cL_law 295 = .ok (.iload 11, 2) := by decide +kernel
theorem dL_law_297 : decode cL_law 297 = .ok (.if_icmp .ge 240, 3) := by decide +kernel
theorem dL_law_300 : decode cL_law 300 = .ok (.iload 6, 2) := by decide +kernel
theorem dL_law_302 : decode cL_law 302 = .ok (.ifCond .eq 235, 3) := by decide +kernel
theorem dL_law_305 : decode cL_law 305 = .ok (.iload 12, 2) := by decide +kernel
theorem dL_law_307 : decode cL_law 307 = .ok (.iconst 5, 1) := by decide +kernel
theorem dL_law_308 : decode cL_law 308 = .ok (.if_icmp .lt 11, 3) := by decide +kernel
theorem dL_law_311 : decode cL_law 311 = .ok (.iload 8, 2) := by decide +kernel
theorem dL_law_313 : decode cL_law 313 = .ok (.bipush 8, 2) := by decide +kernel
theorem dL_law_315 : decode cL_law 315 = .ok (.irem, 1) := by decide +kernel
theorem dL_law_316 : decode cL_law 316 = .ok (.ifCond .le 221, 3) := by decide +kernel
theorem dL_law_319 : decode cL_law 319 = .ok (.iload 8, 2) := by decide +kernel
theorem dL_law_321 : decode cL_law 321 = .ok (.bipush 8, 2) := by decide +kernel
theorem dL_law_323 : decode cL_law 323 = .ok (.idiv, 1) := by decide +kernel
theorem dL_law_324 : decode cL_law 324 = .ok (.iload 12, 2) := by decide +kernel
theorem dL_law_326 : decode cL_law 326 = .ok (.iadd, 1) := by decide +kernel
theorem dL_law_327 : decode cL_law 327 = .ok (.iconst 4, 1) := by decide +kernel
theorem dL_law_328 : decode cL_law 328 = .ok (.irem, 1) := by decide +kernel
theorem dL_law_329 : decode cL_law 329 = .ok (.istore 13, 2) := by decide +kernel
theorem dL_law_331 : decode cL_law 331 = .ok (.iload 8, 2) := by decide +kernel
theorem dL_law_333 : decode cL_law 333 = .ok (.bipush 32, 2) := by decide +kernel
theorem dL_law_335 : decode cL_law 335 = .ok (.idiv, 1) := by decide +kernel
theorem dL_law_336 : decode cL_law 336 = .ok (.iload 12, 2) := by decide +kernel
theorem dL_law_338 : decode cL_law 338 = .ok (.iconst 1, 1) := by decide +kernel
theorem dL_law_339 : decode cL_law 339 = .ok (.iload 8, 2) := by decide +kernel
theorem dL_law_341 : decode cL_law 341 = .ok (.bipush 7, 2) := by decide +kernel
theorem dL_law_343 : decode cL_law 343 = .ok (.idiv, 1) := by decide +kernel
theorem dL_law_344 : decode cL_law 344 = .ok (.bipush 23, 2) := by decide +kernel
theorem dL_law_346 : decode cL_law 346 = .ok (.irem, 1) := by decide +kernel
theorem dL_law_347 : decode cL_law 347 = .ok (.iadd, 1) := by decide +kernel
theorem dL_law_348 : decode cL_law 348 = .ok (.imul, 1) := by decide +kernel
theorem dL_law_349 : decode cL_law 349 = .ok (.iadd, 1) := by decide +kernel
theorem dL_law_350 : decode cL_law 350 = .ok (.bipush 24, 2) := by decide +kernel
theorem dL_law_352 : decode cL_law 352 = .ok (.irem, 1) := by decide +kernel
theorem dL_law_353 : decode cL_law 353 = .ok (.istore 14, 2) := by decide +kernel
theorem dL_law_355 : decode cL_law 355 = .ok (.iconst 0, 1) := by decide +kernel
theorem dL_law_356 : decode cL_law 356 = .ok (.istore 15, 2) := by decide +kernel
theorem dL_law_358 : decode cL_law 358 = .ok (.iload 15, 2) := by decide +kernel
theorem dL_law_360 : decode cL_law 360 = .ok (.bipush 24, 2) := by decide +kernel
theorem dL_law_362 : decode cL_law 362 = .ok (.if_icmp .ge 49, 3) := by decide +kernel
theorem dL_law_365 : decode cL_law 365 = .ok (.aload_n 2, 1) := by decide +kernel
theorem dL_law_366 : decode cL_law 366 = .ok (.iconst 0, 1) := by decide +kernel
theorem dL_law_367 : decode cL_law 367 = .ok (.iaload, 1) := by decide +kernel
theorem dL_law_368 : decode cL_law 368 = .ok (.aload_n 2, 1) := by decide +kernel
theorem dL_law_369 : decode cL_law 369 = .ok (.iconst 1, 1) := by decide +kernel
theorem dL_law_370 : decode cL_law 370 = .ok (.iaload, 1) := by decide +kernel
theorem dL_law_371 : decode cL_law 371 = .ok (.ior, 1) := by decide +kernel
theorem dL_law_372 : decode cL_law 372 = .ok (.aload_n 2, 1) := by decide +kernel
theorem dL_law_373 : decode cL_law 373 = .ok (.iconst 2, 1) := by decide +kernel
theorem dL_law_374 : decode cL_law 374 = .ok (.iaload, 1) := by decide +kernel
theorem dL_law_375 : decode cL_law 375 = .ok (.ior, 1) := by decide +kernel
theorem dL_law_376 : decode cL_law 376 = .ok (.aload_n 2, 1) := by decide +kernel
theorem dL_law_377 : decode cL_law 377 = .ok (.iconst 3, 1) := by decide +kernel
theorem dL_law_378 : decode cL_law 378 = .ok (.iaload, 1) := by decide +kernel
theorem dL_law_379 : decode cL_law 379 = .ok (.ior, 1) := by decide +kernel
theorem dL_law_380 : decode cL_law 380 = .ok (.iload 14, 2) := by decide +kernel
theorem dL_law_382 : decode cL_law 382 = .ok (.invokestatic 13, 3) := by decide +kernel
theorem dL_law_385 : decode cL_law 385 = .ok (.ifCond .eq 26, 3) := by decide +kernel
theorem dL_law_388 : decode cL_law 388 = .ok (.iload 12, 2) := by decide +kernel
theorem dL_law_390 : decode cL_law 390 = .ok (.iconst 5, 1) := by decide +kernel
theorem dL_law_391 : decode cL_law 391 = .ok (.irem, 1) := by decide +kernel
theorem dL_law_392 : decode cL_law 392 = .ok (.iconst 4, 1) := by decide +kernel
theorem dL_law_393 : decode cL_law 393 = .ok (.if_icmp .ge 18, 3) := by decide +kernel
theorem dL_law_396 : decode cL_law 396 = .ok (.iload 14, 2) := by decide +kernel
theorem dL_law_398 : decode cL_law 398 = .ok (.iconst 5, 1) := by decide +kernel
theorem dL_law_399 : decode cL_law 399 = .ok (.iadd, 1) := by decide +kernel
theorem dL_law_400 : decode cL_law 400 = .ok (.bipush 24, 2) := by decide +kernel
theorem dL_law_402 : decode cL_law 402 = .ok (.irem, 1) := by decide +kernel
theorem dL_law_403 : decode cL_law 403 = .ok (.istore 14, 2) := by decide +kernel
theorem dL_law_405 : decode cL_law 405 = .ok (.iinc 15 1, 3) := by decide +kernel
theorem dL_law_408 : decode cL_law 408 = .ok (.goto (-50), 3) := by decide +kernel
theorem dL_law_411 : decode cL_law 411 = .ok (.aload_n 2, 1) := by decide +kernel
theorem dL_law_412 : decode cL_law 412 = .ok (.iconst 0, 1) := by decide +kernel
theorem dL_law_413 : decode cL_law 413 = .ok (.iaload, 1) := by decide +kernel
theorem dL_law_414 : decode cL_law 414 = .ok (.aload_n 2, 1) := by decide +kernel
theorem dL_law_415 : decode cL_law 415 = .ok (.iconst 1, 1) := by decide +kernel
theorem dL_law_416 : decode cL_law 416 = .ok (.iaload, 1) := by decide +kernel
theorem dL_law_417 : decode cL_law 417 = .ok (.ior, 1) := by decide +kernel
theorem dL_law_418 : decode cL_law 418 = .ok (.aload_n 2, 1) := by decide +kernel
theorem dL_law_419 : decode cL_law 419 = .ok (.iconst 2, 1) := by decide +kernel
theorem dL_law_420 : decode cL_law 420 = .ok (.iaload, 1) := by decide +kernel
theorem dL_law_421 : decode cL_law 421 = .ok (.ior, 1) := by decide +kernel
theorem dL_law_422 : decode cL_law 422 = .ok (.aload_n 2, 1) := by decide +kernel
theorem dL_law_423 : decode cL_law 423 = .ok (.iconst 3, 1) := by decide +kernel
theorem dL_law_424 : decode cL_law 424 = .ok (.iaload, 1) := by decide +kernel
theorem dL_law_425 : decode cL_law 425 = .ok (.ior, 1) := by decide +kernel
theorem dL_law_426 : decode cL_law 426 = .ok (.iload 14, 2) := by decide +kernel
theorem dL_law_428 : decode cL_law 428 = .ok (.invokestatic 13, 3) := by decide +kernel
theorem dL_law_431 : decode cL_law 431 = .ok (.ifCond .ne 18, 3) := by decide +kernel
theorem dL_law_434 : decode cL_law 434 = .ok (.aload_n 2, 1) := by decide +kernel
theorem dL_law_435 : decode cL_law 435 = .ok (.iload 13, 2) := by decide +kernel
theorem dL_law_437 : decode cL_law 437 = .ok (.iaload, 1) := by decide +kernel
theorem dL_law_438 : decode cL_law 438 = .ok (.invokestatic 17, 3) := by decide +kernel
theorem dL_law_441 : decode cL_law 441 = .ok (.iconst 4, 1) := by decide +kernel
theorem dL_law_442 : decode cL_law 442 = .ok (.if_icmp .ge 7, 3) := by decide +kernel
theorem dL_law_445 : decode cL_law 445 = .ok (.iconst 1, 1) := by decide +kernel
theorem dL_law_446 : decode cL_law 446 = .ok (.goto 4, 3) := by decide +kernel
theorem dL_law_449 : decode cL_law 449 = .ok (.iconst 0, 1) := by decide +kernel
theorem dL_law_450 : decode cL_law 450 = .ok (.istore 15, 2) := by decide +kernel
theorem dL_law_452 : decode cL_law 452 = .ok (.iload 15, 2) := by decide +kernel
theorem dL_law_454 : decode cL_law 454 = .ok (.ifCond .eq 15, 3) := by decide +kernel
theorem dL_law_457 : decode cL_law 457 = .ok (.aload_n 2, 1) := by decide +kernel
theorem dL_law_458 : decode cL_law 458 = .ok (.iload 13, 2) := by decide +kernel
theorem dL_law_460 : decode cL_law 460 = .ok (.iaload, 1) := by decide +kernel
theorem dL_law_461 : decode cL_law 461 = .ok (.invokestatic 17, 3) := by decide +kernel
theorem dL_law_464 : decode cL_law 464 = .ok (.iconst 1, 1) := by decide +kernel
theorem dL_law_465 : decode cL_law 465 = .ok (.iadd, 1) := by decide +kernel
theorem dL_law_466 : decode cL_law 466 = .ok (.goto 5, 3) := by decide +kernel
theorem dL_law_469 : decode cL_law 469 = .ok (.bipush (-13), 2) := by decide +kernel
theorem dL_law_471 : decode cL_law 471 = .ok (.istore 16, 2) := by decide +kernel
theorem dL_law_473 : decode cL_law 473 = .ok (.aload_n 2, 1) := by decide +kernel
theorem dL_law_474 : decode cL_law 474 = .ok (.iload 13, 2) := by decide +kernel
theorem dL_law_476 : decode cL_law 476 = .ok (.iaload, 1) := by decide +kernel
theorem dL_law_477 : decode cL_law 477 = .ok (.invokestatic 17, 3) := by decide +kernel
theorem dL_law_480 : decode cL_law 480 = .ok (.iload 5, 2) := by decide +kernel
theorem dL_law_482 : decode cL_law 482 = .ok (.if_icmp .lt 8, 3) := by decide +kernel
theorem dL_law_485 : decode cL_law 485 = .ok (.iload 15, 2) := by decide +kernel
theorem dL_law_487 : decode cL_law 487 = .ok (.ifCond .ne 44, 3) := by decide +kernel
theorem dL_law_490 : decode cL_law 490 = .ok (.aload_n 1, 1) := by decide +kernel
theorem dL_law_491 : decode cL_law 491 = .ok (.iconst 0, 1) := by decide +kernel
theorem dL_law_492 : decode cL_law 492 = .ok (.iload 13, 2) := by decide +kernel
theorem dL_law_494 : decode cL_law 494 = .ok (.iload 14, 2) := by decide +kernel
theorem dL_law_496 : decode cL_law 496 = .ok (.invokestatic 118, 3) := by decide +kernel
theorem dL_law_499 : decode cL_law 499 = .ok (.iload 16, 2) := by decide +kernel
theorem dL_law_501 : decode cL_law 501 = .ok (.if_icmp .ne 7, 3) := by decide +kernel
theorem dL_law_504 : decode cL_law 504 = .ok (.iconst 1, 1) := by decide +kernel
theorem dL_law_505 : decode cL_law 505 = .ok (.goto 4, 3) := by decide +kernel
theorem dL_law_508 : decode cL_law 508 = .ok (.iconst 0, 1) := by decide +kernel
theorem dL_law_509 : decode cL_law 509 = .ok (.istore 6, 2) := by decide +kernel
theorem dL_law_511 : decode cL_law 511 = .ok (.aload_n 2, 1) := by decide +kernel
theorem dL_law_512 : decode cL_law 512 = .ok (.iload 13, 2) := by decide +kernel
theorem dL_law_514 : decode cL_law 514 = .ok (.dup2, 1) := by decide +kernel
theorem dL_law_515 : decode cL_law 515 = .ok (.iaload, 1) := by decide +kernel
theorem dL_law_516 : decode cL_law 516 = .ok (.iload 15, 2) := by decide +kernel
theorem dL_law_518 : decode cL_law 518 = .ok (.ifCond .eq 10, 3) := by decide +kernel
theorem dL_law_521 : decode cL_law 521 = .ok (.iconst 1, 1) := by decide +kernel
theorem dL_law_522 : decode cL_law 522 = .ok (.iload 14, 2) := by decide +kernel
theorem dL_law_524 : decode cL_law 524 = .ok (.ishl, 1) := by decide +kernel
theorem dL_law_525 : decode cL_law 525 = .ok (.goto 4, 3) := by decide +kernel
theorem dL_law_528 : decode cL_law 528 = .ok (.iconst 0, 1) := by decide +kernel
theorem dL_law_529 : decode cL_law 529 = .ok (.ior, 1) := by decide +kernel
theorem dL_law_530 : decode cL_law 530 = .ok (.iastore, 1) := by decide +kernel
theorem dL_law_531 : decode cL_law 531 = .ok (.iinc 12 1, 3) := by decide +kernel
theorem dL_law_534 : decode cL_law 534 = .ok (.goto (-241), 3) := by decide +kernel
theorem dL_law_537 : decode cL_law 537 = .ok (.aload_n 2, 1) := by decide +kernel
theorem dL_law_538 : decode cL_law 538 = .ok (.iconst 0, 1) := by decide +kernel
theorem dL_law_539 : decode cL_law 539 = .ok (.iaload, 1) := by decide +kernel
theorem dL_law_540 : decode cL_law 540 = .ok (.invokestatic 17, 3) := by decide +kernel
theorem dL_law_543 : decode cL_law 543 = .ok (.istore 12, 2) := by decide +kernel
theorem dL_law_545 : decode cL_law 545 = .ok (.iload 12, 2) := by decide +kernel
theorem dL_law_547 : decode cL_law 547 = .ok (.ifCond .le 40, 3) := by decide +kernel
theorem dL_law_550 : decode cL_law 550 = .ok (.aload_n 2, 1) := by decide +kernel
theorem dL_law_551 : decode cL_law 551 = .ok (.iconst 1, 1) := by decide +kernel
theorem dL_law_552 : decode cL_law 552 = .ok (.iaload, 1) := by decide +kernel
theorem dL_law_553 : decode cL_law 553 = .ok (.invokestatic 17, 3) := by decide +kernel
theorem dL_law_556 : decode cL_law 556 = .ok (.iload 12, 2) := by decide +kernel
theorem dL_law_558 : decode cL_law 558 = .ok (.if_icmp .ne 29, 3) := by decide +kernel
theorem dL_law_561 : decode cL_law 561 = .ok (.aload_n 2, 1) := by decide +kernel
theorem dL_law_562 : decode cL_law 562 = .ok (.iconst 2, 1) := by decide +kernel
theorem dL_law_563 : decode cL_law 563 = .ok (.iaload, 1) := by decide +kernel
theorem dL_law_564 : decode cL_law 564 = .ok (.invokestatic 17, 3) := by decide +kernel
theorem dL_law_567 : decode cL_law 567 = .ok (.iload 12, 2) := by decide +kernel
theorem dL_law_569 : decode cL_law 569 = .ok (.if_icmp .ne 18, 3) := by decide +kernel
theorem dL_law_572 : decode cL_law 572 = .ok (.aload_n 2, 1) := by decide +kernel
theorem dL_law_573 : decode cL_law 573 = .ok (.iconst 3, 1) := by decide +kernel
theorem dL_law_574 : decode cL_law 574 = .ok (.iaload, 1) := by decide +kernel
theorem dL_law_575 : decode cL_law 575 = .ok (.invokestatic 17, 3) := by decide +kernel
theorem dL_law_578 : decode cL_law 578 = .ok (.iload 12, 2) := by decide +kernel
theorem dL_law_580 : decode cL_law 580 = .ok (.if_icmp .ne 7, 3) := by decide +kernel
theorem dL_law_583 : decode cL_law 583 = .ok (.iconst 1, 1) := by decide +kernel
theorem dL_law_584 : decode cL_law 584 = .ok (.goto 4, 3) := by decide +kernel
theorem dL_law_587 : decode cL_law 587 = .ok (.iconst 0, 1) := by decide +kernel
theorem dL_law_588 : decode cL_law 588 = .ok (.istore 13, 2) := by decide +kernel
theorem dL_law_590 : decode cL_law 590 = .ok (.iload 6, 2) := by decide +kernel
theorem dL_law_592 : decode cL_law 592 = .ok (.ifCond .eq 32, 3) := by decide +kernel
theorem dL_law_595 : decode cL_law 595 = .ok (.aload_n 1, 1) := by decide +kernel
theorem dL_law_596 : decode cL_law 596 = .ok (.iconst 1, 1) := by decide +kernel
theorem dL_law_597 : decode cL_law 597 = .ok (.iload 8, 2) := by decide +kernel
theorem dL_law_599 : decode cL_law 599 = .ok (.iconst 4, 1) := by decide +kernel
theorem dL_law_600 : decode cL_law 600 = .ok (.irem, 1) := by decide +kernel
theorem dL_law_601 : decode cL_law 601 = .ok (.iconst 0, 1) := by decide +kernel
theorem dL_law_602 : decode cL_law 602 = .ok (.invokestatic 118, 3) := by decide +kernel
theorem dL_law_605 : decode cL_law 605 = .ok (.iload 13, 2) := by decide +kernel
theorem dL_law_607 : decode cL_law 607 = .ok (.ifCond .eq 8, 3) := by decide +kernel
theorem dL_law_610 : decode cL_law 610 = .ok (.iload 12, 2) := by decide +kernel
theorem dL_law_612 : decode cL_law 612 = .ok (.goto 5, 3) := by decide +kernel
theorem dL_law_615 : decode cL_law 615 = .ok (.bipush (-13), 2) := by decide +kernel
theorem dL_law_617 : decode cL_law 617 = .ok (.if_icmp .ne 7, 3) := by decide +kernel
theorem dL_law_620 : decode cL_law 620 = .ok (.iconst 1, 1) := by decide +kernel
theorem dL_law_621 : decode cL_law 621 = .ok (.goto 4, 3) := by decide +kernel
theorem dL_law_624 : decode cL_law 624 = .ok (.iconst 0, 1) := by decide +kernel
theorem dL_law_625 : decode cL_law 625 = .ok (.istore 6, 2) := by decide +kernel
theorem dL_law_627 : decode cL_law 627 = .ok (.aload 4, 2) := by decide +kernel
theorem dL_law_629 : decode cL_law 629 = .ok (.iconst 3, 1) := by decide +kernel
theorem dL_law_630 : decode cL_law 630 = .ok (.iload 13, 2) := by decide +kernel
theorem dL_law_632 : decode cL_law 632 = .ok (.ifCond .eq 7, 3) := by decide +kernel
theorem dL_law_635 : decode cL_law 635 = .ok (.iconst 1, 1) := by decide +kernel
theorem dL_law_636 : decode cL_law 636 = .ok (.goto 4, 3) := by decide +kernel
theorem dL_law_639 : decode cL_law 639 = .ok (.iconst 0, 1) := by decide +kernel
theorem dL_law_640 : decode cL_law 640 = .ok (.iastore, 1) := by decide +kernel
theorem dL_law_641 : decode cL_law 641 = .ok (.aload 4, 2) := by decide +kernel
theorem dL_law_643 : decode cL_law 643 = .ok (.iconst 2, 1) := by decide +kernel
theorem dL_law_644 : decode cL_law 644 = .ok (.iload 13, 2) := by decide +kernel
theorem dL_law_646 : decode cL_law 646 = .ok (.ifCond .eq 10, 3) := by decide +kernel
theorem dL_law_649 : decode cL_law 649 = .ok (.iload 8, 2) := by decide +kernel
theorem dL_law_651 : decode cL_law 651 = .ok (.iconst 4, 1) := by decide +kernel
theorem dL_law_652 : decode cL_law 652 = .ok (.irem, 1) := by decide +kernel
theorem dL_law_653 : decode cL_law 653 = .ok (.goto 4, 3) := by decide +kernel
theorem dL_law_656 : decode cL_law 656 = .ok (.iconst 0, 1) := by decide +kernel
theorem dL_law_657 : decode cL_law 657 = .ok (.iastore, 1) := by decide +kernel
theorem dL_law_658 : decode cL_law 658 = .ok (.goto 279, 3) := by decide +kernel
theorem dL_law_661 : decode cL_law 661 = .ok (.iload 8, 2) := by decide +kernel
theorem dL_law_663 : decode cL_law 663 = .ok (.iconst 5, 1) := by decide +kernel
theorem dL_law_664 : decode cL_law 664 = .ok (.irem, 1) := by decide +kernel
theorem dL_law_665 : decode cL_law 665 = .ok (.ifCond .eq 8, 3) := by decide +kernel
theorem dL_law_668 : decode cL_law 668 = .ok (.iload 10, 2) := by decide +kernel
theorem dL_law_670 : decode cL_law 670 = .ok (.ifCond .eq 88, 3) := by decide +kernel
theorem dL_law_673 : decode cL_law 673 = .ok (.aload 4, 2) := by decide +kernel
theorem dL_law_675 : decode cL_law 675 = .ok (.iconst 0, 1) := by decide +kernel
theorem dL_law_676 : decode cL_law 676 = .ok (.iaload, 1) := by decide +kernel
theorem dL_law_677 : decode cL_law 677 = .ok (.ifCond .ne 8, 3) := by decide +kernel
theorem dL_law_680 : decode cL_law 680 = .ok (.bipush (-13), 2) := by decide +kernel
theorem dL_law_682 : decode cL_law 682 = .ok (.goto 11, 3) := by decide +kernel
theorem dL_law_685 : decode cL_law 685 = .ok (.aload_n 3, 1) := by decide +kernel
theorem dL_law_686 : decode cL_law 686 = .ok (.aload 4, 2) := by decide +kernel
theorem dL_law_688 : decode cL_law 688 = .ok (.iconst 0, 1) := by decide +kernel
theorem dL_law_689 : decode cL_law 689 = .ok (.iaload, 1) := by decide +kernel
theorem dL_law_690 : decode cL_law 690 = .ok (.iconst 1, 1) := by decide +kernel
theorem dL_law_691 : decode cL_law 691 = .ok (.isub, 1) := by decide +kernel
theorem dL_law_692 : decode cL_law 692 = .ok (.iaload, 1) := by decide +kernel
theorem dL_law_693 : decode cL_law 693 = .ok (.istore 11, 2) := by decide +kernel
theorem dL_law_695 : decode cL_law 695 = .ok (.aload_n 1, 1) := by decide +kernel
theorem dL_law_696 : decode cL_law 696 = .ok (.iconst 3, 1) := by decide +kernel
theorem dL_law_697 : decode cL_law 697 = .ok (.iconst 0, 1) := by decide +kernel
theorem dL_law_698 : decode cL_law 698 = .ok (.iconst 0, 1) := by decide +kernel
theorem dL_law_699 : decode cL_law 699 = .ok (.invokestatic 118, 3) := by decide +kernel
theorem dL_law_702 : decode cL_law 702 = .ok (.iload 11, 2) := by decide +kernel
theorem dL_law_704 : decode cL_law 704 = .ok (.if_icmp .ne 7, 3) := by decide +kernel
theorem dL_law_707 : decode cL_law 707 = .ok (.iconst 1, 1) := by decide +kernel
theorem dL_law_708 : decode cL_law 708 = .ok (.goto 4, 3) := by decide +kernel
theorem dL_law_711 : decode cL_law 711 = .ok (.iconst 0, 1) := by decide +kernel
theorem dL_law_712 : decode cL_law 712 = .ok (.istore 6, 2) := by decide +kernel
theorem dL_law_714 : decode cL_law 714 = .ok (.iload 11, 2) := by decide +kernel
theorem dL_law_716 : decode cL_law 716 = .ok (.ifCond .lt 39, 3) := by decide +kernel
theorem dL_law_719 : decode cL_law 719 = .ok (.aload 4, 2) := by decide +kernel
theorem dL_law_721 : decode cL_law 721 = .ok (.iconst 0, 1) := by decide +kernel
theorem dL_law_722 : decode cL_law 722 = .ok (.dup2, 1) := by decide +kernel
theorem dL_law_723 : decode cL_law 723 = .ok (.iaload, 1) := by decide +kernel
theorem dL_law_724 : decode cL_law 724 = .ok (.iconst 1, 1) := by decide +kernel
theorem dL_law_725 : decode cL_law 725 = .ok (.isub, 1) := by decide +kernel
theorem dL_law_726 : decode cL_law 726 = .ok (.iastore, 1) := by decide +kernel
theorem dL_law_727 : decode cL_law 727 = .ok (.aload_n 2, 1) := by decide +kernel
theorem dL_law_728 : decode cL_law 728 = .ok (.aload_n 3, 1) := by decide +kernel
theorem dL_law_729 : decode cL_law 729 = .ok (.aload 4, 2) := by decide +kernel
theorem dL_law_731 : decode cL_law 731 = .ok (.aload 4, 2) := by decide +kernel
theorem dL_law_733 : decode cL_law 733 = .ok (.iconst 0, 1) := by decide +kernel
theorem dL_law_734 : decode cL_law 734 = .ok (.iaload, 1) := by decide +kernel
theorem dL_law_735 : decode cL_law 735 = .ok (.invokestatic 7, 3) := by decide +kernel
theorem dL_law_738 : decode cL_law 738 = .ok (.aload 4, 2) := by decide +kernel
theorem dL_law_740 : decode cL_law 740 = .ok (.iconst 0, 1) := by decide +kernel
theorem dL_law_741 : decode cL_law 741 = .ok (.iaload, 1) := by decide +kernel
theorem dL_law_742 : decode cL_law 742 = .ok (.iconst 4, 1) := by decide +kernel
theorem dL_law_743 : decode cL_law 743 = .ok (.irem, 1) := by decide +kernel
theorem dL_law_744 : decode cL_law 744 = .ok (.iadd, 1) := by decide +kernel
theorem dL_law_745 : decode cL_law 745 = .ok (.iconst 4, 1) := by decide +kernel
theorem dL_law_746 : decode cL_law 746 = .ok (.irem, 1) := by decide +kernel
theorem dL_law_747 : decode cL_law 747 = .ok (.dup2, 1) := by decide +kernel
theorem dL_law_748 : decode cL_law 748 = .ok (.iaload, 1) := by decide +kernel
theorem dL_law_749 : decode cL_law 749 = .ok (.iconst 1, 1) := by decide +kernel
theorem dL_law_750 : decode cL_law 750 = .ok (.iload 11, 2) := by decide +kernel
theorem dL_law_752 : decode cL_law 752 = .ok (.ishl, 1) := by decide +kernel
theorem dL_law_753 : decode cL_law 753 = .ok (.ior, 1) := by decide +kernel
theorem dL_law_754 : decode cL_law 754 = .ok (.iastore, 1) := by decide +kernel
theorem dL_law_755 : decode cL_law 755 = .ok (.goto 182, 3) := by decide +kernel
theorem dL_law_758 : decode cL_law 758 = .ok (.iload 8, 2) := by decide +kernel
theorem dL_law_760 : decode cL_law 760 = .ok (.iconst 5, 1) := by decide +kernel
theorem dL_law_761 : decode cL_law 761 = .ok (.idiv, 1) := by decide +kernel
theorem dL_law_762 : decode cL_law 762 = .ok (.bipush 24, 2) := by decide +kernel
theorem dL_law_764 : decode cL_law 764 = .ok (.irem, 1) := by decide +kernel
theorem dL_law_765 : decode cL_law 765 = .ok (.istore 11, 2) := by decide +kernel
theorem dL_law_767 : decode cL_law 767 = .ok (.iconst 0, 1) := by decide +kernel
theorem dL_law_768 : decode cL_law 768 = .ok (.istore 12, 2) := by decide +kernel
theorem dL_law_770 : decode cL_law 770 = .ok (.iload 12, 2) := by decide +kernel
theorem dL_law_772 : decode cL_law 772 = .ok (.bipush 24, 2) := by decide +kernel
theorem dL_law_774 : decode cL_law 774 = .ok (.if_icmp .ge 42, 3) := by decide +kernel
theorem dL_law_777 : decode cL_law 777 = .ok (.aload_n 2, 1) := by decide +kernel
theorem dL_law_778 : decode cL_law 778 = .ok (.aload_n 3, 1) := by decide +kernel
theorem dL_law_779 : decode cL_law 779 = .ok (.aload 4, 2) := by decide +kernel
theorem dL_law_781 : decode cL_law 781 = .ok (.aload 4, 2) := by decide +kernel
theorem dL_law_783 : decode cL_law 783 = .ok (.iconst 0, 1) := by decide +kernel
theorem dL_law_784 : decode cL_law 784 = .ok (.iaload, 1) := by decide +kernel
theorem dL_law_785 : decode cL_law 785 = .ok (.iload 11, 2) := by decide +kernel
theorem dL_law_787 : decode cL_law 787 = .ok (.invokestatic 21, 3) := by decide +kernel
theorem dL_law_790 : decode cL_law 790 = .ok (.ifCond .ne 26, 3) := by decide +kernel
theorem dL_law_793 : decode cL_law 793 = .ok (.iload 8, 2) := by decide +kernel
theorem dL_law_795 : decode cL_law 795 = .ok (.bipush 7, 2) := by decide +kernel
theorem dL_law_797 : decode cL_law 797 = .ok (.irem, 1) := by decide +kernel
theorem dL_law_798 : decode cL_law 798 = .ok (.ifCond .le 18, 3) := by decide +kernel
theorem dL_law_801 : decode cL_law 801 = .ok (.iload 11, 2) := by decide +kernel
theorem dL_law_803 : decode cL_law 803 = .ok (.iconst 1, 1) := by decide +kernel
theorem dL_law_804 : decode cL_law 804 = .ok (.iadd, 1) := by decide +kernel
theorem dL_law_805 : decode cL_law 805 = .ok (.bipush 24, 2) := by decide +kernel
theorem dL_law_807 : decode cL_law 807 = .ok (.irem, 1) := by decide +kernel
theorem dL_law_808 : decode cL_law 808 = .ok (.istore 11, 2) := by decide +kernel
theorem dL_law_810 : decode cL_law 810 = .ok (.iinc 12 1, 3) := by decide +kernel
theorem dL_law_813 : decode cL_law 813 = .ok (.goto (-43), 3) := by decide +kernel
theorem dL_law_816 : decode cL_law 816 = .ok (.aload_n 2, 1) := by decide +kernel
theorem dL_law_817 : decode cL_law 817 = .ok (.aload_n 3, 1) := by decide +kernel
theorem dL_law_818 : decode cL_law 818 = .ok (.aload 4, 2) := by decide +kernel
theorem dL_law_820 : decode cL_law 820 = .ok (.aload 4, 2) := by decide +kernel
theorem dL_law_822 : decode cL_law 822 = .ok (.iconst 0, 1) := by decide +kernel
theorem dL_law_823 : decode cL_law 823 = .ok (.iaload, 1) := by decide +kernel
theorem dL_law_824 : decode cL_law 824 = .ok (.iload 11, 2) := by decide +kernel
theorem dL_law_826 : decode cL_law 826 = .ok (.invokestatic 21, 3) := by decide +kernel
theorem dL_law_829 : decode cL_law 829 = .ok (.istore 12, 2) := by decide +kernel
theorem dL_law_831 : decode cL_law 831 = .ok (.aload_n 3, 1) := by decide +kernel
theorem dL_law_832 : decode cL_law 832 = .ok (.aload 4, 2) := by decide +kernel
theorem dL_law_834 : decode cL_law 834 = .ok (.aload 4, 2) := by decide +kernel
theorem dL_law_836 : decode cL_law 836 = .ok (.iconst 0, 1) := by decide +kernel
theorem dL_law_837 : decode cL_law 837 = .ok (.iaload, 1) := by decide +kernel
theorem dL_law_838 : decode cL_law 838 = .ok (.invokestatic 7, 3) := by decide +kernel
theorem dL_law_841 : decode cL_law 841 = .ok (.aload 4, 2) := by decide +kernel
theorem dL_law_843 : decode cL_law 843 = .ok (.iconst 0, 1) := by decide +kernel
theorem dL_law_844 : decode cL_law 844 = .ok (.iaload, 1) := by decide +kernel
theorem dL_law_845 : decode cL_law 845 = .ok (.iconst 4, 1) := by decide +kernel
theorem dL_law_846 : decode cL_law 846 = .ok (.irem, 1) := by decide +kernel
theorem dL_law_847 : decode cL_law 847 = .ok (.iadd, 1) := by decide +kernel
theorem dL_law_848 : decode cL_law 848 = .ok (.iconst 4, 1) := by decide +kernel
theorem dL_law_849 : decode cL_law 849 = .ok (.irem, 1) := by decide +kernel
theorem dL_law_850 : decode cL_law 850 = .ok (.istore 13, 2) := by decide +kernel
theorem dL_law_852 : decode cL_law 852 = .ok (.iload 12, 2) := by decide +kernel
theorem dL_law_854 : decode cL_law 854 = .ok (.ifCond .eq 32, 3) := by decide +kernel
theorem dL_law_857 : decode cL_law 857 = .ok (.aload_n 2, 1) := by decide +kernel
theorem dL_law_858 : decode cL_law 858 = .ok (.iload 13, 2) := by decide +kernel
theorem dL_law_860 : decode cL_law 860 = .ok (.dup2, 1) := by decide +kernel
theorem dL_law_861 : decode cL_law 861 = .ok (.iaload, 1) := by decide +kernel
theorem dL_law_862 : decode cL_law 862 = .ok (.iconst 1, 1) := by decide +kernel
theorem dL_law_863 : decode cL_law 863 = .ok (.iload 11, 2) := by decide +kernel
theorem dL_law_865 : decode cL_law 865 = .ok (.ishl, 1) := by decide +kernel
theorem dL_law_866 : decode cL_law 866 = .ok (.iconst (-1), 1) := by decide +kernel
theorem dL_law_867 : decode cL_law 867 = .ok (.ixor, 1) := by decide +kernel
theorem dL_law_868 : decode cL_law 868 = .ok (.iand, 1) := by decide +kernel
theorem dL_law_869 : decode cL_law 869 = .ok (.iastore, 1) := by decide +kernel
theorem dL_law_870 : decode cL_law 870 = .ok (.aload_n 3, 1) := by decide +kernel
theorem dL_law_871 : decode cL_law 871 = .ok (.aload 4, 2) := by decide +kernel
theorem dL_law_873 : decode cL_law 873 = .ok (.iconst 0, 1) := by decide +kernel
theorem dL_law_874 : decode cL_law 874 = .ok (.iaload, 1) := by decide +kernel
theorem dL_law_875 : decode cL_law 875 = .ok (.iload 11, 2) := by decide +kernel
theorem dL_law_877 : decode cL_law 877 = .ok (.iastore, 1) := by decide +kernel
theorem dL_law_878 : decode cL_law 878 = .ok (.aload 4, 2) := by decide +kernel
theorem dL_law_880 : decode cL_law 880 = .ok (.iconst 0, 1) := by decide +kernel
theorem dL_law_881 : decode cL_law 881 = .ok (.dup2, 1) := by decide +kernel
theorem dL_law_882 : decode cL_law 882 = .ok (.iaload, 1) := by decide +kernel
theorem dL_law_883 : decode cL_law 883 = .ok (.iconst 1, 1) := by decide +kernel
theorem dL_law_884 : decode cL_law 884 = .ok (.iadd, 1) := by decide +kernel
theorem dL_law_885 : decode cL_law 885 = .ok (.iastore, 1) := by decide +kernel
theorem dL_law_886 : decode cL_law 886 = .ok (.aload_n 1, 1) := by decide +kernel
theorem dL_law_887 : decode cL_law 887 = .ok (.iconst 2, 1) := by decide +kernel
theorem dL_law_888 : decode cL_law 888 = .ok (.iload 11, 2) := by decide +kernel
theorem dL_law_890 : decode cL_law 890 = .ok (.iconst 0, 1) := by decide +kernel
theorem dL_law_891 : decode cL_law 891 = .ok (.invokestatic 118, 3) := by decide +kernel
theorem dL_law_894 : decode cL_law 894 = .ok (.iload 12, 2) := by decide +kernel
theorem dL_law_896 : decode cL_law 896 = .ok (.ifCond .ne 8, 3) := by decide +kernel
theorem dL_law_899 : decode cL_law 899 = .ok (.bipush (-13), 2) := by decide +kernel
theorem dL_law_901 : decode cL_law 901 = .ok (.goto 26, 3) := by decide +kernel
theorem dL_law_904 : decode cL_law 904 = .ok (.aload 4, 2) := by decide +kernel
theorem dL_law_906 : decode cL_law 906 = .ok (.iconst 0, 1) := by decide +kernel
theorem dL_law_907 : decode cL_law 907 = .ok (.iaload, 1) := by decide +kernel
theorem dL_law_908 : decode cL_law 908 = .ok (.iconst 4, 1) := by decide +kernel
theorem dL_law_909 : decode cL_law 909 = .ok (.irem, 1) := by decide +kernel
theorem dL_law_910 : decode cL_law 910 = .ok (.ifCond .ne 16, 3) := by decide +kernel
theorem dL_law_913 : decode cL_law 913 = .ok (.aload_n 3, 1) := by decide +kernel
theorem dL_law_914 : decode cL_law 914 = .ok (.aload 4, 2) := by decide +kernel
theorem dL_law_916 : decode cL_law 916 = .ok (.aload 4, 2) := by decide +kernel
theorem dL_law_918 : decode cL_law 918 = .ok (.iconst 0, 1) := by decide +kernel
theorem dL_law_919 : decode cL_law 919 = .ok (.iaload, 1) := by decide +kernel
theorem dL_law_920 : decode cL_law 920 = .ok (.invokestatic 7, 3) := by decide +kernel
theorem dL_law_923 : decode cL_law 923 = .ok (.goto 4, 3) := by decide +kernel
theorem dL_law_926 : decode cL_law 926 = .ok (.iconst (-1), 1) := by decide +kernel
theorem dL_law_927 : decode cL_law 927 = .ok (.if_icmp .ne 7, 3) := by decide +kernel
theorem dL_law_930 : decode cL_law 930 = .ok (.iconst 1, 1) := by decide +kernel
theorem dL_law_931 : decode cL_law 931 = .ok (.goto 4, 3) := by decide +kernel
theorem dL_law_934 : decode cL_law 934 = .ok (.iconst 0, 1) := by decide +kernel
theorem dL_law_935 : decode cL_law 935 = .ok (.istore 6, 2) := by decide +kernel
theorem dL_law_937 : decode cL_law 937 = .ok (.iload 6, 2) := by decide +kernel
theorem dL_law_939 : decode cL_law 939 = .ok (.ifCond .eq 29, 3) := by decide +kernel
theorem dL_law_942 : decode cL_law 942 = .ok (.aload_n 1, 1) := by decide +kernel
theorem dL_law_943 : decode cL_law 943 = .ok (.aload_n 2, 1) := by decide +kernel
theorem dL_law_944 : decode cL_law 944 = .ok (.aload_n 3, 1) := by decide +kernel
theorem dL_law_945 : decode cL_law 945 = .ok (.aload 4, 2) := by decide +kernel
theorem dL_law_947 : decode cL_law 947 = .ok (.invokestatic 130, 3) := by decide +kernel
theorem dL_law_950 : decode cL_law 950 = .ok (.ifCond .eq 18, 3) := by decide +kernel
theorem dL_law_953 : decode cL_law 953 = .ok (.aload_n 1, 1) := by decide +kernel
theorem dL_law_954 : decode cL_law 954 = .ok (.aload_n 2, 1) := by decide +kernel
theorem dL_law_955 : decode cL_law 955 = .ok (.aload_n 3, 1) := by decide +kernel
theorem dL_law_956 : decode cL_law 956 = .ok (.aload 4, 2) := by decide +kernel
theorem dL_law_958 : decode cL_law 958 = .ok (.invokestatic 134, 3) := by decide +kernel
theorem dL_law_961 : decode cL_law 961 = .ok (.ifCond .eq 7, 3) := by decide +kernel
theorem dL_law_964 : decode cL_law 964 = .ok (.iconst 1, 1) := by decide +kernel
theorem dL_law_965 : decode cL_law 965 = .ok (.goto 4, 3) := by decide +kernel
theorem dL_law_968 : decode cL_law 968 = .ok (.iconst 0, 1) := by decide +kernel
theorem dL_law_969 : decode cL_law 969 = .ok (.istore 6, 2) := by decide +kernel
theorem dL_law_971 : decode cL_law 971 = .ok (.iinc 7 1, 3) := by decide +kernel
theorem dL_law_974 : decode cL_law 974 = .ok (.goto (-881), 3) := by decide +kernel
theorem dL_law_977 : decode cL_law 977 = .ok (.iload 6, 2) := by decide +kernel
theorem dL_law_979 : decode cL_law 979 = .ok (.ireturn, 1) := by decide +kernel
end
