section
-- ===== PART A: goes FIRST, ahead of the names: the tables' words, and 'selects' of the private methods out of them =====
/-- a private method of a class that the tables say can be made, by its rows of tables_1 -/
def lw_okq (q : MethodName × Nat) : Prop := (q.1.cls ≠ "java/lang/invoke/MethodHandle" ∧ q.1.cls ≠ "java/lang/invoke/VarHandle") ∧ Cond.instantiable q.1.cls q.2 ∈ tables_1 ∧ Cond.privateMethod q.1 ∈ tables_1 ∧ Cond.instanceMethod q.1 ∈ tables_1
theorem lw_p0 : lw_okq (⟨"PairedTexts", "textOf", "(I)LPairedTexts$Text;"⟩, 4) := ⟨⟨by decide +kernel, by decide +kernel⟩, List.mem_of_getElem? (i := 16) (by decide +kernel), List.mem_of_getElem? (i := 93) (by decide +kernel), List.mem_of_getElem? (i := 94) (by decide +kernel)⟩
theorem lw_p1 : lw_okq (⟨"java/lang/Throwable", "fillInStackTrace", "(I)Ljava/lang/Throwable;"⟩, 6) := ⟨⟨by decide +kernel, by decide +kernel⟩, List.mem_of_getElem? (i := 139) (by decide +kernel), List.mem_of_getElem? (i := 137) (by decide +kernel), List.mem_of_getElem? (i := 138) (by decide +kernel)⟩
theorem lw_p2 : lw_okq (⟨"PairedTexts", "draftBecomesTextOf", "(I)I"⟩, 4) := ⟨⟨by decide +kernel, by decide +kernel⟩, List.mem_of_getElem? (i := 16) (by decide +kernel), List.mem_of_getElem? (i := 256) (by decide +kernel), List.mem_of_getElem? (i := 257) (by decide +kernel)⟩
theorem lw_p3 : lw_okq (⟨"PairedTexts", "requirePattern", "()V"⟩, 4) := ⟨⟨by decide +kernel, by decide +kernel⟩, List.mem_of_getElem? (i := 16) (by decide +kernel), List.mem_of_getElem? (i := 360) (by decide +kernel), List.mem_of_getElem? (i := 361) (by decide +kernel)⟩
theorem lw_p4 : lw_okq (⟨"PairedTextsModel", "isRange", "(III)Z"⟩, 11) := ⟨⟨by decide +kernel, by decide +kernel⟩, List.mem_of_getElem? (i := 431) (by decide +kernel), List.mem_of_getElem? (i := 495) (by decide +kernel), List.mem_of_getElem? (i := 496) (by decide +kernel)⟩
theorem lw_p5 : lw_okq (⟨"PairedTextsModel", "add", "(III)V"⟩, 11) := ⟨⟨by decide +kernel, by decide +kernel⟩, List.mem_of_getElem? (i := 431) (by decide +kernel), List.mem_of_getElem? (i := 499) (by decide +kernel), List.mem_of_getElem? (i := 500) (by decide +kernel)⟩
theorem lw_p6 : lw_okq (⟨"PairedTextsModel", "become", "(I)I"⟩, 11) := ⟨⟨by decide +kernel, by decide +kernel⟩, List.mem_of_getElem? (i := 431) (by decide +kernel), List.mem_of_getElem? (i := 503) (by decide +kernel), List.mem_of_getElem? (i := 504) (by decide +kernel)⟩
theorem lw_p7 : lw_okq (⟨"PairedTextsModel", "addRest", "(IIIII)V"⟩, 11) := ⟨⟨by decide +kernel, by decide +kernel⟩, List.mem_of_getElem? (i := 431) (by decide +kernel), List.mem_of_getElem? (i := 523) (by decide +kernel), List.mem_of_getElem? (i := 524) (by decide +kernel)⟩
theorem lw_p8 : lw_okq (⟨"PairedTextsModel", "common", "(IIII)I"⟩, 11) := ⟨⟨by decide +kernel, by decide +kernel⟩, List.mem_of_getElem? (i := 431) (by decide +kernel), List.mem_of_getElem? (i := 536) (by decide +kernel), List.mem_of_getElem? (i := 537) (by decide +kernel)⟩
theorem lw_p9 : lw_okq (⟨"PairedTextsModel", "stands", "(III)Z"⟩, 11) := ⟨⟨by decide +kernel, by decide +kernel⟩, List.mem_of_getElem? (i := 431) (by decide +kernel), List.mem_of_getElem? (i := 573) (by decide +kernel), List.mem_of_getElem? (i := 574) (by decide +kernel)⟩
theorem lw_p10 : lw_okq (⟨"PairedTextsModel", "read", "(IIII)V"⟩, 11) := ⟨⟨by decide +kernel, by decide +kernel⟩, List.mem_of_getElem? (i := 431) (by decide +kernel), List.mem_of_getElem? (i := 593) (by decide +kernel), List.mem_of_getElem? (i := 594) (by decide +kernel)⟩
def lw_privs_1 : List (MethodName × Nat) := [(⟨"PairedTexts", "textOf", "(I)LPairedTexts$Text;"⟩, 4), (⟨"java/lang/Throwable", "fillInStackTrace", "(I)Ljava/lang/Throwable;"⟩, 6), (⟨"PairedTexts", "draftBecomesTextOf", "(I)I"⟩, 4), (⟨"PairedTexts", "requirePattern", "()V"⟩, 4), (⟨"PairedTextsModel", "isRange", "(III)Z"⟩, 11), (⟨"PairedTextsModel", "add", "(III)V"⟩, 11), (⟨"PairedTextsModel", "become", "(I)I"⟩, 11), (⟨"PairedTextsModel", "addRest", "(IIIII)V"⟩, 11), (⟨"PairedTextsModel", "common", "(IIII)I"⟩, 11), (⟨"PairedTextsModel", "stands", "(III)Z"⟩, 11), (⟨"PairedTextsModel", "read", "(IIII)V"⟩, 11)]
theorem lw_r1 : ∀ q ∈ lw_privs_1, lw_okq q := List.forall_mem_cons.mpr ⟨lw_p0, List.forall_mem_cons.mpr ⟨lw_p1, List.forall_mem_cons.mpr ⟨lw_p2, List.forall_mem_cons.mpr ⟨lw_p3, List.forall_mem_cons.mpr ⟨lw_p4, List.forall_mem_cons.mpr ⟨lw_p5, List.forall_mem_cons.mpr ⟨lw_p6, List.forall_mem_cons.mpr ⟨lw_p7, List.forall_mem_cons.mpr ⟨lw_p8, List.forall_mem_cons.mpr ⟨lw_p9, List.forall_mem_cons.mpr ⟨lw_p10, fun _ h => absurd h List.not_mem_nil⟩⟩⟩⟩⟩⟩⟩⟩⟩⟩⟩
def lw_privs : List (MethodName × Nat) := lw_privs_1
def lw_tbl : List Cond := k2_sels lw_privs ++ tables_1
theorem lw_privs_ok : ∀ q ∈ lw_privs, lw_okq q := lw_r1
end
section
/-! Throwing: a method that throws (its contract MetTh), a call of it, the exception laid over a frame (WT), out of a method, into a handler. -/
/-- the object that is thrown: of the class X, at x -/
def tx_Obj (X : String) (x : Nat) (t : State) : Prop := ∃ cell : Cell, t.heap[x]? = some cell ∧ cell.vm.isStatics = false ∧ t.vm.findClass X = some cell.cls
/-- nothing that was there has changed -/
def tx_Old (H H1 : Heap) : Prop := H.size ≤ H1.size ∧ ∀ q : Nat, q < H.size → H1[q]? = H[q]?
theorem tx_Old.rf {H : Heap} : tx_Old H H := ⟨Nat.le_refl _, fun _ _ => rfl⟩
theorem tx_Old.tr {H H1 H2 : Heap} (a : tx_Old H H1) (b : tx_Old H1 H2) : tx_Old H H2 := ⟨Nat.le_trans a.1 b.1, fun q h => (b.2 q (Nat.lt_of_lt_of_le h a.1)).trans (a.2 q h)⟩
def tx_Q (X : String) (st : State) (o : Outcome) (t : State) : Prop := ∃ x : Nat, o = .threw x ∧ tx_Obj X x t ∧ tx_Old st.heap t.heap
def tx_End (st t : State) (mc ms : Nat) : Prop := st.WarmedH t.vm ∧ st.sameButNew ({ t with vm := st.vm } : State) [] mc ms
/-- the contract of a method that throws: from every state with Pc an object of the class X is thrown, at most mc cells of ms slots are new, nothing old changes -/
def MetTh (l : Launch) (y : MethodName) (ws : List Cond) (rm : Room) (Pc : Array Value → State → Prop) (X : String) (mc ms : Nat) : Prop :=
  MetFree l y (headSpec ws rm) Pc (fun _ _ _ _ _ => True) (fun _ st o t => tx_Q X st o t ∧ tx_End st t mc ms)
def TQ (below : List Frame) (X : String) (s : State) (mc ms : Nat) : State → Prop := fun t => ∃ o, t.status = .running ∧ Ended t below o ∧ tx_Q X s o t ∧ tx_End s t mc ms
section TXA
variable {p : Program} {l : Launch} {e : Env} {R : Room} {s : State} {m : MethodId} {args : Array Value} {below : List Frame} {meth : Method} {c : Code} {H : Heap} {locs : List Loc} {cells slots : Nat} {Q : State → Prop}
/-- the machine, now with the exception x laid over the frame g, heap H, comes to a state with Q -/
def WT (p : Program) (l : Launch) (e : Env) (R : Room) (s : State) (m : MethodId) (args : Array Value) (below : List Frame) (meth : Method) (c : Code) (H : Heap) (locs : List Loc) (cells slots : Nat) (Q : State → Prop) (g : JFrame) (x : Nat) : Prop :=
  ∀ T : State, T.heap = H → Stand p l e R s m args below meth c T locs cells slots → ∃ t, Steps p.tables e below ((T.setTop g).pushFrame (.throwing x)) t ∧ Q t
theorem MetTh.ofW {y : MethodName} {ws ws' : List Cond} {rm : Room} {Pc : Array Value → State → Prop} {X : String} {mc ms : Nat} {cc : ByteArray} {maxL : Nat} {ret : Option FieldType}
    (hy : plainName y.cls = true) (hw : ws = Cond.code y cc maxL ret :: ws')
    (body : ∀ p e s m args below meth c s₁, BodyLoose p l y (headSpec ws rm) cc maxL ret e s m args below meth c s₁ → c.maxLocals = maxL → Pc args s →
      W p l e (headSpec ws rm).room s m args below meth c s.heap [] 0 0 (TQ below X s mc ms) (entryFrame m args maxL)) : MetTh l y ws rm Pc X mc ms := by
  refine MetFree.of_bodyS (code := cc) (maxLocals := maxL) (ret := ret) hy ?_ ?_
  · intro args s m h hn
    obtain ⟨meth, c, h1, h2, h3, h4, h5, h6, -, -⟩ := Cond.code_spec hn (atoms_spec (ws := ws) h _ (by rw [hw]; exact List.mem_cons_self))
    exact ⟨meth, c, h1, h2, h3, h4, h5, h6⟩
  · intro p e s m args below meth c s₁ B hml hP _
    have hh0 : s₁.heap = s.heap := by rw [B.state]; rfl
    obtain ⟨t, a1, o, b1, b2, b3⟩ := body p e s m args below meth c s₁ B hml hP s₁ hh0 (Stand.of_body B)
    exact ⟨t, o, a1, b1, b2, b3⟩
/-- out of a method that has no handlers -/
theorem WT.leave {X : String} {mc ms : Nat} {g : JFrame} {x : Nat} (hlocks : meth.locks = false) (hno : c.exceptionTable.isEmpty = true) (hg : g.method = m) (hlk : g.locked = none) (hen : g.entered = [])
    (hold : tx_Old s.heap H) (hobj : ∃ cell : Cell, H[x]? = some cell ∧ cell.vm.isStatics = false ∧ s.vm.findClass X = some cell.cls) (hl : ∀ q ∈ locs, s.heap.size ≤ q.base) (hc : cells ≤ mc) (hs : slots ≤ ms) :
    WT p l e R s m args below meth c H locs cells slots (TQ below X s mc ms) g x := by
  intro T hT S
  have S0 : Stand p l e R s m args below meth c T ([] ++ locs) cells slots := by rw [List.nil_append]; exact S
  have S1 := Stand.forget S0 hl
  have hem : ∀ z ∈ c.exceptionTable.toList, covers z g.pc = false := by
    have h0 : c.exceptionTable.size = 0 := by simpa [Array.isEmpty] using hno
    have h1 : c.exceptionTable.toList = [] := List.eq_nil_of_length_eq_zero (by simpa using h0)
    intro z hz
    rw [h1] at hz
    cases hz
  obtain ⟨hwalk, hrun, hend, hW, hsame⟩ := S1.leaveThrown x hg hlk hen hem hlocks
  obtain ⟨cell, o1, o2, o3⟩ := hobj
  refine ⟨_, hwalk, .threw x, hrun, hend, ⟨x, rfl, ⟨cell, ?_, o2, ?_⟩, ?_⟩, hW, hsame.mono hc hs⟩
  · show T.heap[x]? = some cell
    rw [hT]; exact o1
  · have hal := S1.warmed.alike
    show T.vm.findClass X = some cell.cls
    rw [hal.findClass]; exact o3
  · show tx_Old s.heap T.heap
    rw [hT]; exact hold
/-- athrow -/
theorem WT.athrow {cc : ByteArray} {pc : Nat} {ls : Array Slot} {x : Nat} {rest : List Value} (hexec : p.tables.exec = Jvm.exec) (hb : c.code = cc) (hdg : decode cc pc = .ok (.athrow, 1))
    (k : WT p l e R s m args below meth c H locs cells slots Q (F0 m pc ls rest) x) : W p l e R s m args below meth c H locs cells slots Q (F0 m pc ls (.ref x :: rest)) := by
  intro T hT S
  obtain ⟨t, a1, b1⟩ := k T hT S
  refine ⟨t, ?_, b1⟩
  subst hb
  jvm_step S.here [hexec, hdg, athrow.wp_sem]
  exact a1
end TXA
section TXB
variable {p : Program} {l : Launch} {e : Env} {R : Room} {s : State} {m : MethodId} {args : Array Value} {below : List Frame} {meth : Method} {c : Code} {locs : List Loc} {cells slots : Nat}
variable {y : MethodName} {bytes : ByteArray} {maxL : Nat} {ret : Option FieldType} {ws : List Cond} {rm : Room} {Pc : Array Value → State → Prop} {X : String} {mc ms W0 : Nat}
/-- a method that throws, called: the exception lies over the caller's frame -/
theorem tx_back (hM : MetTh l y ws rm Pc X mc ms) (hblind : FrameBlind Pc) (hrc : rm.cells = mc) (hrs : rm.slots = ms)
    (hframes : rm.frames + 1 ≤ R.frames) (hlocals : W0 + (maxL + 11) + rm.locals ≤ R.locals)
    (hws : ∀ w ∈ ws, ∀ (a' : Array Value) (U : State), s.WarmedH U.vm → w.before a' U = true) (hcode : Cond.code y bytes maxL ret ∈ ws) (hinit : ∀ (a' : Array Value) (U : State), s.WarmedH U.vm → (Cond.initialized y.cls).before a' U = true)
    {U : State} (S : Stand p l e R s m args below meth c U locs cells slots) {g : JFrame} (hg : g.method = m) (hsize : g.locals.size = c.maxLocals) {ig : Instr} {len : Nat} (hdg : decode c.code g.pc = .ok (ig, len))
    (hW : 2 * g.monitorRoom + (g.stack.map fun v => v.category).sum ≤ W0) {mk : MethodId} (hn : U.methodNamed? y = some mk) {a : Array Value} (hcl : cells + mc ≤ R.cells) (hsl : slots + ms ≤ R.slots) (hP : Pc a U) :
    ∃ (x : Nat) (T' : State), Stand p l e R s m args below meth c T' locs (cells + mc) (slots + ms) ∧ tx_Old U.heap T'.heap ∧ tx_Obj X x T' ∧
      Steps p.tables e below (doInvoke e (U.setTop g) [] mk a).1 ((T'.setTop g).pushFrame (.throwing x)) := by
  obtain ⟨methY, cY, hmY, hcY, -, hlY, -, -, -, -⟩ := Cond.code_spec hn (hws _ hcode a U S.warmed)
  obtain ⟨kY, hkY, -⟩ := className_of_methodNamed hn
  have hinitY : kY.init = .initialized := Cond.initialized_spec (findClass_of_methodNamed hn) hkY (hinit a U S.warmed)
  have h : At U g.method c below := by rw [hg]; exact S.here
  have happ : (headSpec ws rm).appliesLoose y e.platform (U.calling g mk a) = true :=
    Spec.appliesLoose_calling (g := g) h hdg hn hkY hinitY
      (S.room_calling (g := g) (R' := (headSpec ws rm).room) hsize hmY hcY hframes (by rw [hlY]; show _ + _ + _ + rm.locals ≤ _; omega) (by show cells + rm.cells ≤ _; rw [hrc]; exact hcl) (by show slots + rm.slots ≤ _; rw [hrs]; exact hsl)) (atoms_intro fun w hw => hws w hw _ _ S.warmed)
  obtain ⟨mid, hmid⟩ := h.above
  have hfr : (U.setTop g).frames = (.java g :: mid) ++ below := by rw [State.frames_setTop' g h.top, hmid]; rfl
  obtain ⟨o, s₂, hsteps, -, hend, hq⟩ := Steps.callFree hM p S.admits S.cas S.clock (acts := []) hfr happ (hblind _ _ _ _ hP) trivial
  have hq' : tx_Q X (U.calling g mk a) o s₂ ∧ tx_End (U.calling g mk a) s₂ mc ms := hq
  obtain ⟨⟨x, rfl, hobj, hold⟩, hW₂, e2, q2, q3, q4, q5, q6⟩ := hq'
  rw [State.frames_setTop' g h.top] at hend
  have hf₂ : s₂.frames = .throwing x :: .java g :: U.frames.tail := hend
  have hW' : U.WarmedH s₂.vm := hW₂
  have e3 : s₂ = ({ (U.calling g mk a).setFrames s₂.frames with heap := s₂.heap, slotsUsed := s₂.slotsUsed } : State).setVm s₂.vm := by
    have : s₂ = ({ s₂ with vm := (U.calling g mk a).vm } : State).setVm s₂.vm := rfl
    rw [e2] at this
    exact this
  obtain ⟨g₀, hg0⟩ := Option.isSome_iff_exists.mp h.top
  obtain ⟨r, hr⟩ := State.topJava?_eq_some.mp hg0
  have hr' : (({ U with heap := s₂.heap, slotsUsed := s₂.slotsUsed } : State).setVm s₂.vm).frames = .java g₀ :: r := hr
  have hcur : (({ U with heap := s₂.heap, slotsUsed := s₂.slotsUsed } : State).setVm s₂.vm).cur < (({ U with heap := s₂.heap, slotsUsed := s₂.slotsUsed } : State).setVm s₂.vm).threads.size := State.cur_lt_of_frames hr'
  have hs₂ : s₂ = ((({ U with heap := s₂.heap, slotsUsed := s₂.slotsUsed } : State).setVm s₂.vm).setTop g).pushFrame (.throwing x) := by
    refine e3.trans ?_
    rw [State.setTop_of_frames _ hr', State.pushFrame, State.frames_setFrames _ hcur, State.setFrames_setFrames, hf₂, State.calling_eq h.top, State.setFrames_setFrames, hr]
    rfl
  have hsame : U.sameButNew ({ U with heap := s₂.heap, slotsUsed := s₂.slotsUsed } : State) [] mc ms := by
    refine ⟨?_, q2, q3, q4, q5, q6⟩
    obtain ⟨t, ht, -⟩ := State.frames_cons hr
    show ({ U with heap := s₂.heap, slotsUsed := s₂.slotsUsed } : State) = { U.setFrames U.frames with heap := s₂.heap, slotsUsed := s₂.slotsUsed }
    rw [State.setFrames_self ht]
  subst hg
  have hst := S.same.trans (hsame.setVm s.vm)
  rw [List.append_nil] at hst
  refine ⟨x, (({ U with heap := s₂.heap, slotsUsed := s₂.slotsUsed } : State).setVm s₂.vm),
    ⟨S.admits, S.cas, S.clock, S.frames, S.room, S.hears, S.method, S.code, (S.here.setHeapUsed s₂.heap s₂.slotsUsed).setVm hW'.alike, S.tail, State.WarmedH.trans S.warmed hW', S.limits, S.bytes, hst⟩, hold, hobj, ?_⟩
  rw [← hs₂]
  exact hsteps
end TXB
end
section
/-! Calls of methods that throw; the making of an exception with a text; handlers; methods with handlers. -/
section TXC
variable {p : Program} {l : Launch} {e : Env} {R : Room} {s : State} {m : MethodId} {args : Array Value} {below : List Frame} {meth : Method} {c : Code} {H : Heap} {locs : List Loc} {cells slots : Nat} {Q : State → Prop}
variable {y : MethodName} {bytes cc : ByteArray} {maxL nL n index pc : Nat} {ret : Option FieldType} {ws Ts : List Cond} {rm : Room} {Pc : Array Value → State → Prop} {X own C : String} {mc ms : Nat} {As rest st0 : List Value} {ls : Array Slot} {b : Addr}
/-- what stands behind a call that threw: the old cells as they were, the object thrown -/
def tx_Th (X : String) (s : State) (H H1 : Heap) (x : Nat) : Prop := tx_Old H H1 ∧ ∃ cell : Cell, H1[x]? = some cell ∧ cell.vm.isStatics = false ∧ s.vm.findClass X = some cell.cls
theorem W.callSTh (S : CallFix p m c cc nL s args Ts own) (hM : MetTh l y ws rm Pc X mc ms) (cw : CallB R s args own index y bytes maxL ret ws rm mc ms n ∧ (Cond.static y).before args s = true) (hp : PreS s H Pc As)
    (hn : As.length = n) (hsize : ls.size = nL) (hstack : st0 = As.reverse ++ rest) (hW : (rest.map fun v => v.category).sum ≤ 8) (hdg : decode cc pc = .ok (.invokestatic index, 3)) (hf : cells + mc ≤ R.cells ∧ slots + ms ≤ R.slots)
    (kk : ∀ (x : Nat) (H1 : Heap), tx_Th X s H H1 x → WT p l e R s m args below meth c H1 locs (cells + mc) (slots + ms) Q (F0 m pc ls rest) x) : W p l e R s m args below meth c H locs cells slots Q (F0 m pc ls st0) := by
  obtain ⟨⟨hrc, hrs, hfr, hlo, hws, hcw, hcode, hini, hy, hlen, hl⟩, hstt⟩ := cw
  obtain ⟨hx, hb, hml, ho, -⟩ := S
  subst hstack
  intro T hT S0
  obtain ⟨mk, hnamed⟩ := Cond.code_named hcode
  obtain ⟨methM, cM, hmethM, -, -, -, -, -, -, hsigM⟩ := Cond.code_spec hnamed hcode
  have hstatic : methM.isStatic = true := Cond.static_spec hnamed hmethM hstt
  obtain ⟨kP, hkP, -⟩ := className_of_methodNamed hnamed
  have hinitP : kP.init = .initialized := Cond.initialized_spec (findClass_of_methodNamed hnamed) hkP hini
  have hdg' : decode c.code (F0 m pc ls (As.reverse ++ rest)).pc = .ok (.invokestatic index, 3) := by rw [hb]; exact hdg
  obtain ⟨vm₁, X₁, hstep₁⟩ := S0.invokestatic hx ho hl hnamed hmethM hstatic hkP hinitP hy (g := F0 m pc ls (As.reverse ++ rest)) rfl (argsL := As) (rest := rest) (hn.trans (hlen _ hsigM)) rfl hdg'
  obtain ⟨x, T', X', hold, hobj, hsteps⟩ := tx_back (W0 := 8) (bytes := bytes) (maxL := maxL) (ret := ret) hM hp.1 hrc hrs hfr hlo hws hcw (fun a' U hW => word_at hW (Or.inl (by first | rfl | simp [Cond.onTables, Cond.keeps, Cond.steady])) hini)
    X₁ (g := { F0 m pc ls (As.reverse ++ rest) with stack := rest }) rfl (hsize.trans hml.symm) (ig := .invokestatic index) (len := 3) hdg' (by show 2 * 0 + (rest.map fun v => v.category).sum ≤ 8; omega) (X₁.named hnamed) (a := As.toArray) hf.1 hf.2 (hp.2 (T.setVm vm₁) hT X₁.warmed)
  obtain ⟨cell, o1, o2, o3⟩ := hobj
  have hold' : tx_Old H T'.heap := by
    have h0 : (T.setVm vm₁).heap = H := hT
    rw [h0] at hold
    exact hold
  obtain ⟨t, a1, b1⟩ := kk x T'.heap ⟨hold', cell, o1, o2, by rw [← X'.warmed.alike.findClass]; exact o3⟩ T' rfl X'
  exact ⟨t, hstep₁ _ fun acts => by rw [doInvoke_state]; exact hsteps.trans a1, b1⟩
theorem W.callVTh (S : CallFix p m c cc nL s args Ts own) (hM : MetTh l y ws rm Pc X mc ms) (cw : CallW R s args own C index y bytes maxL ret ws rm mc ms n) (hp : PreV s H C b Pc As)
    (hn : As.length = n) (hsize : ls.size = nL) (hstack : st0 = As.reverse ++ .ref b :: rest) (hW : (rest.map fun v => v.category).sum ≤ 8) (hdg : decode cc pc = .ok (.invokevirtual index, 3)) (hf : cells + mc ≤ R.cells ∧ slots + ms ≤ R.slots)
    (kk : ∀ (x : Nat) (H1 : Heap), tx_Th X s H H1 x → WT p l e R s m args below meth c H1 locs (cells + mc) (slots + ms) Q (F0 m pc ls rest) x) : W p l e R s m args below meth c H locs cells slots Q (F0 m pc ls st0) := by
  obtain ⟨⟨hrc, hrs, hfr, hlo, hws, hcw, hcode, hini, hy, hlen, hl⟩, hinst, hsel⟩ := cw
  obtain ⟨hx, hb, hml, ho, -⟩ := S
  obtain ⟨hblind, ⟨cellB, hcB, hoB, hclB⟩, hPc⟩ := hp
  subst hstack
  intro T hT S0
  obtain ⟨mk, methM, hnamed, hmethM, hstM, habM⟩ := Cond.instanceMethod_spec hinst
  obtain ⟨methM', cM, hmethM', -, -, -, -, -, -, hsigM⟩ := Cond.code_spec hnamed hcode
  cases hmethM.symm.trans hmethM'
  obtain ⟨c2, r2, m2, q1, q2, q3, q4, kP, hkP, hkPi⟩ := Cond.selects_spec hsel
  cases hclB.symm.trans q1
  cases (State.methodFound?_of_named hnamed hy).symm.trans q2
  cases hnamed.symm.trans q3
  have hselP : selectMethod e.platform s.vm cellB.cls mk = .method mk := by rw [Launch.admits_selectMethod S0.admits]; exact q4
  have hdg' : decode c.code (F0 m pc ls (As.reverse ++ .ref b :: rest)).pc = .ok (.invokevirtual index, 3) := by rw [hb]; exact hdg
  obtain ⟨vm₁, X₁, hstep₁⟩ := S0.invokevirtual hx ho hl hnamed hmethM hstM hkP hkPi hy (a := b) (cell := cellB) (by rw [hT]; exact hcB)
    (fun z h => by rw [h] at hoB; cases hoB) hselP hmethM habM hkP hkPi (g := F0 m pc ls (As.reverse ++ .ref b :: rest)) rfl (argsL := As) (rest := rest) (hn.trans (hlen _ hsigM)) rfl hdg'
  obtain ⟨x, T', X', hold, hobj, hsteps⟩ := tx_back (W0 := 8) (bytes := bytes) (maxL := maxL) (ret := ret) hM hblind hrc hrs hfr hlo hws hcw (fun a' U hW => word_at hW (Or.inl (by first | rfl | simp [Cond.onTables, Cond.keeps, Cond.steady])) hini)
    X₁ (g := { F0 m pc ls (As.reverse ++ .ref b :: rest) with stack := rest }) rfl (hsize.trans hml.symm) (ig := .invokevirtual index) (len := 3) hdg' (by show 2 * 0 + (rest.map fun v => v.category).sum ≤ 8; omega) (X₁.named hnamed) (a := (Value.ref b :: As).toArray) hf.1 hf.2 (hPc (T.setVm vm₁) hT X₁.warmed)
  obtain ⟨cell, o1, o2, o3⟩ := hobj
  have hold' : tx_Old H T'.heap := by
    have h0 : (T.setVm vm₁).heap = H := hT
    rw [h0] at hold
    exact hold
  obtain ⟨t, a1, b1⟩ := kk x T'.heap ⟨hold', cell, o1, o2, by rw [← X'.warmed.alike.findClass]; exact o3⟩ T' rfl X'
  exact ⟨t, hstep₁ _ fun acts => by rw [doInvoke_state]; exact hsteps.trans a1, b1⟩
/-- the end of 'throw new X("..")': the constructor and athrow, out of a method without handlers -/
theorem W.throwS (hexec : p.tables.exec = Jvm.exec) (htr : l.stackTraces = false) (hb : c.code = cc) (hlocks : meth.locks = false) (hno : c.exceptionTable.isEmpty = true) {names : List String} {ic : Nat}
    (hown : s.vm.findClass own = some m.cls) (hcls : Bundle.fit X = true) (hnames : ∀ n ∈ names, Bundle.fit n = true) (h : ∀ a ∈ Bundle.ownAtoms own ic X names, a.before args s = true)
    {x : Nat} {cX : ClassId} {kX : Class} (hf : s.vm.findClass X = some cX) (hk : s.vm.classes[cX]? = some kX) (hcell : H[x]? = some (blank cX kX)) (hnew : s.heap.size ≤ x) {q : Nat}
    (hml : c.maxLocals = ls.size) (hd6 : decode cc pc = .ok (.invokespecial ic, 3)) (hd9 : decode cc (pc + 3) = .ok (.athrow, 1))
    (hRf : names.length + 3 < R.frames) (hRl : 1 + (13 * (names.length + 1) + 42) ≤ R.locals) (hcl : cells ≤ mc) (hsl : slots ≤ ms) :
    W p l e R s m args below meth c H [] cells slots (TQ below X s mc ms) (F0 m pc ls [.ref q, .ref x, .ref x]) := by
  intro T hT S
  have hem : ∀ z ∈ c.exceptionTable.toList, covers z (pc + 3) = false := by
    have h0 : c.exceptionTable.size = 0 := by simpa [Array.isEmpty] using hno
    have h1 : c.exceptionTable.toList = [] := List.eq_nil_of_length_eq_zero (by simpa using h0)
    intro z hz
    rw [h1] at hz
    cases hz
  have htr' : e.platform.stackTraces = false := by rw [S.admits.platform]; exact htr
  obtain ⟨U, hst, hrun, hend, hW, hsame, ce, hce, hO⟩ := S.ctorThrowS hexec htr' hown hcls hnames h (fun z hz => by cases hz) hf hk (by rw [hT]; exact hcell) hnew (msg := .ref q) rfl (g := F0 m pc ls [.ref q, .ref x, .ref x]) rfl hml.symm rfl rfl (rest := []) rfl (by rw [hb]; exact hd6) (by rw [hb]; exact hd9) hem hRf (by show 2 * 0 + 1 + _ ≤ _; omega) hlocks
  refine ⟨U, hst, .threw x, hrun, hend, ⟨x, rfl, ⟨ce, hce, by rw [hO.vm]; rfl, ?_⟩, ?_⟩, hW, hsame.mono hcl hsl⟩
  · rw [hW.alike.findClass]; exact hO.cls
  · refine ⟨hsame.2.1, fun z hz => ?_⟩
    have hz2 : s.heap[z]? = some s.heap[z] := Array.getElem?_eq_getElem hz
    rw [hz2]
    exact hsame.old_cell hz2
end TXC
section TXD
variable {e : Env} {s S : State} {f : JFrame} {x : Addr} {cell : Cell}
theorem tx_step {z : ExceptionTableEntry} {t : List ExceptionTableEntry} {k : ClassId} {Q : Handler → Pre} {E : CtlPost} {d : Bool} {acts : List Action} (hz : covers z f.pc = true) (h0 : z.catchType ≠ 0)
    (hl : S.vm.ClassLinks e.platform f.method.cls z.catchType k) (hcell : S.heap[x]? = some cell) (hobj : ∀ k, cell.vm ≠ .statics k) (h1 : ∃ k, S.vm.classes[cell.cls]? = some k) (h2 : ∃ k', S.vm.classes[k]? = some k') :
    wp (findHandler.go f x (z :: t)) Q E e d acts S ↔ if S.vm.assignable cell.cls k = true then Q (.found z.handlerPc) d acts (S.setVm (S.vm.noted f.method.cls z.catchType (.cls k))) else wp (findHandler.go f x t) Q E e d acts (S.setVm (S.vm.noted f.method.cls z.catchType (.cls k))) := by
  simp only [covers] at hz
  obtain ⟨ha, ht⟩ := (resolveClass_links e.toSetting hl).op (op := VmOp.resolveClass f.method.cls z.catchType) rfl
  have hal : S.vm.Alike (S.vm.noted f.method.cls z.catchType (.cls k)) := (Vm.Alike.refl S.vm).noted _ _ _
  obtain ⟨k1, hk1⟩ := h1
  obtain ⟨k2, hk2⟩ := h2
  obtain ⟨k1', hk1', -⟩ := hal.2.2 _ _ hk1
  obtain ⟨k2', hk2', -⟩ := hal.2.2 _ _ hk2
  have hfit : (S.vm.noted f.method.cls z.catchType (.cls k)).assignable cell.cls k = S.vm.assignable cell.cls k := by rw [hal.assignable]
  cases hh : S.vm.assignable cell.cls k <;> rw [hh] at hfit <;> simp [findHandler.go, hz, h0, ha, ht, hcell, hobj, hk1', hk2', hfit, VmOp.dirties, VmOp.acts]
/-- a row of a table of handlers: it links to a class to which objects of the class k can, or can't, be assigned -/
def tx_row (s : State) (args : Array Value) (own : String) (k : ClassId) (z : ExceptionTableEntry) (b : Bool) : Prop :=
  z.catchType ≠ 0 ∧ ∃ (N : String) (cN : ClassId), (Cond.classLink own z.catchType N).before args s = true ∧ s.vm.findClass N = some cN ∧ s.vm.assignable k cN = b
theorem tx_go {args : Array Value} {own : String} (hown : s.vm.findClass own = some f.method.cls) (hpl : e.platform.magicAccessors = ({} : Platform).magicAccessors) (hobj : ∀ k, cell.vm ≠ .statics k) (hk : ∃ k, s.vm.classes[cell.cls]? = some k)
    {r : ExceptionTableEntry} {rest : List ExceptionTableEntry} (hr : covers r f.pc = true) (hyes : tx_row s args own cell.cls r true) :
    ∀ (pre : List ExceptionTableEntry) (S : State), s.WarmedH S.vm → S.heap[x]? = some cell → (∀ z ∈ pre, covers z f.pc = true ∧ tx_row s args own cell.cls z false) →
      ∃ vm', s.WarmedH vm' ∧ ∀ (Q : Handler → Pre) (E : CtlPost) (d : Bool) (acts : List Action), wp (findHandler.go f x (pre ++ r :: rest)) Q E e d acts S ↔ Q (.found r.handlerPc) d acts (S.setVm vm') := by
  have one : ∀ (z : ExceptionTableEntry) (b : Bool), tx_row s args own cell.cls z b → ∃ k, s.vm.ClassLinks e.platform f.method.cls z.catchType k ∧ (∃ k', s.vm.classes[k]? = some k') ∧ s.vm.assignable cell.cls k = b := by
    intro z b ⟨_, N, cN, h1, h2, h3⟩
    obtain ⟨k, hk1, hk2⟩ := Cond.classLink_spec hown h1 e.platform hpl
    cases h2.symm.trans hk1
    exact ⟨cN, hk2, Vm.classAt_of_findClass h2, h3⟩
  have warm : ∀ (z : ExceptionTableEntry) (b : Bool) (S : State), tx_row s args own cell.cls z b → s.WarmedH S.vm → ∃ k, S.vm.ClassLinks e.platform f.method.cls z.catchType k ∧ (∃ k', S.vm.classes[k]? = some k') ∧ S.vm.assignable cell.cls k = b ∧ s.WarmedH (S.vm.noted f.method.cls z.catchType (.cls k)) := by
    intro z b S hz hW
    obtain ⟨k, a1, ⟨a2, a3⟩, a4⟩ := one z b hz
    obtain ⟨_, _, _, _, hd, _, _, _, _, _, _, hopen⟩ := a1.here
    obtain ⟨k', b2, -⟩ := hW.alike.2.2 _ _ a3
    exact ⟨k, hW.classLinks a1, ⟨k', b2⟩, by rw [hW.alike.assignable]; exact a4, hW.noted hd hopen (State.rightAt_cls a1)⟩
  obtain ⟨k0, hk0⟩ := hk
  intro pre
  induction pre with
  | nil =>
    intro S hW hcell _
    obtain ⟨k0', hk0', -⟩ := hW.alike.2.2 _ _ hk0
    obtain ⟨k, a1, a2, a3, a4⟩ := warm r true S hyes hW
    exact ⟨_, a4, fun Q E d acts => by rw [List.nil_append, tx_step hr hyes.1 a1 hcell hobj ⟨k0', hk0'⟩ a2, if_pos a3]⟩
  | cons z t ih =>
    intro S hW hcell hpass
    obtain ⟨k0', hk0', -⟩ := hW.alike.2.2 _ _ hk0
    obtain ⟨hz, hzr⟩ := hpass z List.mem_cons_self
    obtain ⟨k, a1, a2, a3, a4⟩ := warm z false S hzr hW
    obtain ⟨vm', b1, b2⟩ := ih (S.setVm (S.vm.noted f.method.cls z.catchType (.cls k))) a4 hcell (fun u hu => hpass u (List.mem_cons_of_mem _ hu))
    exact ⟨vm', b1, fun Q E d acts => by rw [List.cons_append, tx_step hz hzr.1 a1 hcell hobj ⟨k0', hk0'⟩ a2, if_neg (by rw [a3]; decide)]; exact b2 Q E d acts⟩
/-- into a handler -/
theorem tx_caught {tb : Tables} {target : State} {g : JFrame} {c : Code} {below : List Frame} (h : At S g.method c below) {pc : Nat} {vm' : Vm}
    (hfind : ∀ (Q : Handler → Pre) (E : CtlPost) (d : Bool) (acts : List Action), wp (findHandler g x) Q E e d acts ((S.setTop g).pushFrame (.throwing x)) ↔ Q (.found pc) d acts (((S.setTop g).pushFrame (.throwing x)).setVm vm'))
    (hrest : Steps tb e below ((S.setVm vm').setTop { g with pc := pc, stack := [.ref x] }) target) : Steps tb e below ((S.setTop g).pushFrame (.throwing x)) target := by
  obtain ⟨hgo, hw⟩ := h.throwing x
  refine Steps.head hgo hw ?_
  have key : (stepThrowing e ((S.setTop g).pushFrame (.throwing x)) x (.java g :: S.frames.tail)).1 = (((S.setTop g).pushFrame (.throwing x)).setVm vm').setFrames (.java { g with pc := pc, stack := [.ref x] } :: S.frames.tail) := by
    simp only [stepThrowing, searchFrame, vmDo]
    generalize hr : Sem.go _ e false [] ((S.setTop g).pushFrame (.throwing x)) = res
    obtain ⟨as, rfl, ha⟩ := Sem.eq_ok_of hr (a := Handler.found pc) (s' := ((S.setTop g).pushFrame (.throwing x)).setVm vm') (acts' := []) (by simp [hfind _ _ _ _])
    rfl
  rw [stepThread_throwing (frames_entered h.top _), key]
  obtain ⟨g₀, hg⟩ := Option.isSome_iff_exists.mp h.top
  obtain ⟨r, hr⟩ := State.topJava?_eq_some.mp hg
  have hr' : (S.setVm vm').frames = .java g₀ :: r := hr
  rw [State.setTop_of_frames _ hr'] at hrest
  have e1 : (((S.setTop g).pushFrame (.throwing x)).setVm vm').setFrames (.java { g with pc := pc, stack := [.ref x] } :: S.frames.tail) = (S.setVm vm').setFrames (.java { g with pc := pc, stack := [.ref x] } :: r) := by
    rw [State.pushFrame, State.setTop_of_frames _ hr, State.setFrames_setFrames, hr]
    show ((S.setVm vm').setFrames _).setFrames _ = _
    rw [State.setFrames_setFrames]
    rfl
  rw [e1]
  exact hrest
end TXD
section TXE
variable {p : Program} {l : Launch} {e : Env} {R : Room} {s : State} {m : MethodId} {args : Array Value} {below : List Frame} {meth : Method} {c : Code} {H : Heap} {locs : List Loc} {cells slots : Nat} {Q : State → Prop}
theorem WT.catch {own : String} {ls : Array Slot} {pc : Nat} {st : List Value} {x : Nat} {cell : Cell} (hown : s.vm.findClass own = some m.cls) (hcell : H[x]? = some cell) (hobj : cell.vm.isStatics = false) (hk : ∃ k, s.vm.classes[cell.cls]? = some k)
    (pre rest : List ExceptionTableEntry) (r : ExceptionTableEntry) (hsplit : c.exceptionTable.toList = pre ++ r :: rest) (hpre : ∀ z ∈ pre, covers z pc = true ∧ tx_row s args own cell.cls z false) (hr : covers r pc = true) (hyes : tx_row s args own cell.cls r true)
    (k : W p l e R s m args below meth c H locs cells slots Q (F0 m r.handlerPc ls [.ref x])) : WT p l e R s m args below meth c H locs cells slots Q (F0 m pc ls st) x := by
  intro T hT S
  have hpl : e.platform.magicAccessors = ({} : Platform).magicAccessors := by rw [S.admits.platform]
  have hvm : (((T.setTop (F0 m pc ls st)).pushFrame (.throwing x))).vm = T.vm := Stand.throwing_vm T _ x
  have hheap : (((T.setTop (F0 m pc ls st)).pushFrame (.throwing x))).heap = T.heap := Stand.throwing_heap T _ x
  obtain ⟨vm', hW', hf⟩ := tx_go (e := e) (s := s) (f := F0 m pc ls st) (x := x) (cell := cell) (args := args) (own := own) hown hpl (VmData.ne_statics_of hobj) hk (rest := rest) hr hyes pre ((T.setTop (F0 m pc ls st)).pushFrame (.throwing x)) (by rw [hvm]; exact S.warmed) (by rw [hheap, hT]; exact hcell) hpre
  obtain ⟨t, a1, b1⟩ := k (T.setVm vm') hT (S.noted hW')
  refine ⟨t, tx_caught (vm' := vm') (pc := r.handlerPc) (g := F0 m pc ls st) S.here (fun Q E d acts => ?_) a1, b1⟩
  rw [W.findHandler_eq (by rw [hvm]; exact S.method') S.code, hsplit]
  exact hf Q E d acts
/-- a contract of a method with handlers, out of its walk -/
theorem Met.ofWH {y : MethodName} {ws ws' : List Cond} {rm : Room} {Pc : Array Value → State → Prop} {Qc : Array Value → State → Outcome → State → Prop} {mc ms : Nat} {free : Addr → Prop} {cc : ByteArray} {maxL : Nat} {ret : Option FieldType} {hs : List (Nat × Nat × Nat × Nat)}
    (hy : plainName y.cls = true) (hw : ws = Cond.codeWith y cc maxL ret hs :: ws')
    (body : ∀ p e s m args below meth c s₁, BodyLoose p l y (headSpec ws rm) cc maxL ret e s m args below meth c s₁ → c.maxLocals = maxL → c.exceptionTable.toList = tableOf hs → Pc args s →
      W p l e (headSpec ws rm).room s m args below meth c s.heap [] 0 0 (MQ below Qc args s mc ms free) (entryFrame m args maxL)) : Met l y ws rm Pc Qc mc ms free := by
  refine MetFree.of_bodyS (code := cc) (maxLocals := maxL) (ret := ret) hy ?_ ?_
  · intro args s m h hn
    obtain ⟨m', meth, c, h0, h1, h2, h3, h4, -, h5, h6, -⟩ := Cond.codeWith_spec (atoms_spec (ws := ws) h _ (by rw [hw]; exact List.mem_cons_self))
    cases hn.symm.trans h0
    exact ⟨meth, c, h1, h2, h3, h4, h5, h6⟩
  · intro p e s m args below meth c s₁ B hml hP _
    have hh0 : s₁.heap = s.heap := by rw [B.state]; rfl
    have htab : c.exceptionTable.toList = tableOf hs := by
      obtain ⟨m', meth', c', h0, h1, h2, -, -, h5, -⟩ := Cond.codeWith_spec (atoms_spec (ws := ws) B.pre _ (by rw [hw]; exact List.mem_cons_self))
      cases B.named.symm.trans h0
      cases B.method.symm.trans h1
      cases (Stand.of_body B).code.symm.trans h2
      rw [← h5, table_eq]
    obtain ⟨t, a1, o, b1, b2, b3⟩ := body p e s m args below meth c s₁ B hml htab hP s₁ hh0 (Stand.of_body B)
    exact ⟨t, o, a1, b1, b2, ⟨b3.1, b3.2⟩⟩
end TXE
end
section
/-! Contracts that return or throw (MetX), and how a contract of one end comes out of them. -/
def tx_FE (st t : State) (L : List Loc) (mc ms : Nat) : Prop := st.WarmedH t.vm ∧ st.sameButNew ({ t with vm := st.vm } : State) L mc ms
def MetX (l : Launch) (y : MethodName) (ws : List Cond) (rm : Room) (Pc : Array Value → State → Prop) (Qc : Array Value → State → Outcome → State → Prop) (mc ms : Nat) (free : Addr → Prop) : Prop :=
  MetFree l y (headSpec ws rm) Pc (fun _ _ _ _ _ => True) (fun a st o t => Qc a st o t ∧ ∃ L, tx_FE st t L mc ms ∧ ∀ q ∈ L, free q.base)
def MQX (below : List Frame) (Qc : Array Value → State → Outcome → State → Prop) (a : Array Value) (s : State) (mc ms : Nat) (free : Addr → Prop) : State → Prop := fun t =>
  ∃ o, t.status = .running ∧ Ended t below o ∧ Qc a s o t ∧ ∃ L, tx_FE s t L mc ms ∧ ∀ q ∈ L, free q.base
section TXF
variable {p : Program} {l : Launch} {e : Env} {R : Room} {s : State} {m : MethodId} {args : Array Value} {below : List Frame} {meth : Method} {c : Code} {H : Heap} {locs : List Loc} {cells slots : Nat} {Q Q' : State → Prop}
variable {y : MethodName} {ws ws' : List Cond} {rm : Room} {Pc : Array Value → State → Prop} {Qc : Array Value → State → Outcome → State → Prop} {mc ms : Nat} {free : Addr → Prop} {cc : ByteArray} {maxL : Nat} {ret : Option FieldType}
theorem W.mono {g : JFrame} (h : ∀ t, Q t → Q' t) (k : W p l e R s m args below meth c H locs cells slots Q g) : W p l e R s m args below meth c H locs cells slots Q' g := by
  intro T hT S
  obtain ⟨t, a1, b1⟩ := k T hT S
  exact ⟨t, a1, h t b1⟩
theorem MQ.toX {t : State} (h : MQ below Qc args s mc ms free t) : MQX below Qc args s mc ms free t := by
  obtain ⟨o, h1, h2, h3, L, ⟨-, h4, h5⟩, h6⟩ := h
  exact ⟨o, h1, h2, h3, L, ⟨h4, h5⟩, h6⟩
theorem W.toX {g : JFrame} (k : W p l e R s m args below meth c H locs cells slots (MQ below Qc args s mc ms free) g) : W p l e R s m args below meth c H locs cells slots (MQX below Qc args s mc ms free) g := W.mono (fun _ h => MQ.toX h) k
theorem MetX.ofW (hy : plainName y.cls = true) (hw : ws = Cond.code y cc maxL ret :: ws')
    (body : ∀ p e s m args below meth c s₁, BodyLoose p l y (headSpec ws rm) cc maxL ret e s m args below meth c s₁ → c.maxLocals = maxL → Pc args s →
      W p l e (headSpec ws rm).room s m args below meth c s.heap [] 0 0 (MQX below Qc args s mc ms free) (entryFrame m args maxL)) : MetX l y ws rm Pc Qc mc ms free := by
  refine MetFree.of_bodyS (code := cc) (maxLocals := maxL) (ret := ret) hy ?_ ?_
  · intro args s m h hn
    obtain ⟨meth, c, h1, h2, h3, h4, h5, h6, -, -⟩ := Cond.code_spec hn (atoms_spec (ws := ws) h _ (by rw [hw]; exact List.mem_cons_self))
    exact ⟨meth, c, h1, h2, h3, h4, h5, h6⟩
  · intro p e s m args below meth c s₁ B hml hP _
    have hh0 : s₁.heap = s.heap := by rw [B.state]; rfl
    obtain ⟨t, a1, o, b1, b2, b3⟩ := body p e s m args below meth c s₁ B hml hP s₁ hh0 (Stand.of_body B)
    exact ⟨t, o, a1, b1, b2, b3⟩
theorem WT.widen {g : JFrame} {x k n : Nat} (h1 : cells ≤ k) (h2 : slots ≤ n) (kk : WT p l e R s m args below meth c H locs k n Q g x) : WT p l e R s m args below meth c H locs cells slots Q g x :=
  fun T hT S => kk T hT { S with same := S.same.mono h1 h2 }
/-- out of a method that has no handlers, its contract one of two ends -/
theorem WT.leaveX {g : JFrame} {x : Nat} (hlocks : meth.locks = false) (hno : c.exceptionTable.isEmpty = true) (hg : g.method = m) (hlk : g.locked = none) (hen : g.entered = [])
    (hq : ∀ t : State, t.heap = H → s.WarmedH t.vm → Qc args s (.threw x) t) (hf : ∀ q ∈ locs, free q.base) :
    WT p l e R s m args below meth c H locs cells slots (MQX below Qc args s cells slots free) g x := by
  intro T hT S
  have hem : ∀ z ∈ c.exceptionTable.toList, covers z g.pc = false := by
    have h0 : c.exceptionTable.size = 0 := by simpa [Array.isEmpty] using hno
    have h1 : c.exceptionTable.toList = [] := List.eq_nil_of_length_eq_zero (by simpa using h0)
    intro z hz
    rw [h1] at hz
    cases hz
  obtain ⟨hwalk, hrun, hend, hW, hsame⟩ := S.leaveThrown x hg hlk hen hem hlocks
  exact ⟨_, hwalk, .threw x, hrun, hend, hq _ hT hW, locs, ⟨hW, hsame⟩, hf⟩
/-- the contract of a method that returns -/
theorem MetX.toMet {Qc' : Array Value → State → Outcome → State → Prop} (h : MetX l y ws rm Pc Qc mc ms free) (hq : ∀ a st o t, Qc a st o t → Qc' a st o t) (hr : ∀ a st o t, Qc a st o t → ∃ v, o = .returned v) : Met l y ws rm Pc Qc' mc ms free := by
  intro p e h1 h2 h3 s m args below h4 h5 h6 h7
  obtain ⟨n, o, g1, g2, g3, g4, L, g5, g6⟩ := h p e h1 h2 h3 s m args below h4 h5 h6 h7
  exact ⟨n, o, g1, g2, g3, hq _ _ _ _ g4, L, ⟨hr _ _ _ _ g4, g5.1, g5.2⟩, g6⟩
/-- the contract of a method that throws, with nothing old changed -/
theorem MetX.toTh {X : String} (h : MetX l y ws rm Pc Qc mc ms free) (hq : ∀ a st o t, Qc a st o t → tx_Q X st o t) : MetTh l y ws rm Pc X mc ms := by
  intro p e h1 h2 h3 s m args below h4 h5 h6 h7
  obtain ⟨n, o, g1, g2, g3, g4, L, g5, g6⟩ := h p e h1 h2 h3 s m args below h4 h5 h6 h7
  have hQ := hq _ _ _ _ g4
  refine ⟨n, o, g1, g2, g3, hQ, g5.1, ?_⟩
  obtain ⟨x, -, -, hold⟩ := hQ
  obtain ⟨e1, e2, e3, e4, e5, e6⟩ := g5.2
  refine ⟨e1, e2, e3, e4, e5, fun a c hc => ⟨c, ?_, rfl, rfl, fun _ _ => rfl⟩⟩
  have hlt : a < s.heap.size := (Array.getElem?_eq_some_iff.mp hc).1
  show (stepsAlone p.tables e n s).heap[a]? = some c
  rw [hold.2 a hlt]
  exact hc
end TXF
/-- static references that nobody writes, read as the words ask -/
theorem tx_isRef {C n d : String} {A : Nat → Prop} {U : State} {args : Array Value} (h : va_Zq C n d A U U.heap) : (Cond.isRef (.static C n d)).before args U = true := by
  rcases h with ⟨cf, kf, fi, f, a, cell, h1, h2, h3, h4, h5, h6, h7, h8⟩ | ⟨t, cf, kf, fi, f, a, cell, h1, h2, h3, h4, h5, h6, h7, h8⟩
  · have he : (Term.static C n d).eval args U none [] U = cell.slots[f.slot]? := by simp [Term.eval, State.fieldNamed?, h1, h2, h4, h5, h6]
    simp [Cond.before, Cond.holds, Cond.value, he, h7]
  · have he : (Term.static C n d).eval args U none [] U = cell.slots[f.slot]? := by simp [Term.eval, State.fieldNamed?, h1, h2, h4, h5, h6]
    simp [Cond.before, Cond.holds, Cond.value, he, h7]
section TXG
variable {p : Program} {l : Launch} {e : Env} {R : Room} {s : State} {m : MethodId} {args : Array Value} {below : List Frame} {meth : Method} {c : Code} {H : Heap} {locs : List Loc} {cells slots : Nat}
variable {y : MethodName} {bytes cc : ByteArray} {maxL nL n index mc ms : Nat} {ret : Option FieldType} {ws Ts : List Cond} {rm : Room} {Pc : Array Value → State → Prop} {Qc : Array Value → State → Outcome → State → Prop} {free : Addr → Prop} {own : String} {As rest : List Value} {g : JFrame} {hs : List (Nat × Nat × Nat × Nat)}
/-- a static method with handlers, called -/
theorem va_runSH (S : CallFix p m c cc nL s args Ts own) (hM : Met l y ws rm Pc Qc mc ms free) (hrc : rm.cells = mc) (hrs : rm.slots = ms) (hfr : rm.frames + 1 ≤ R.frames) (hlo : 8 + (maxL + 11) + rm.locals ≤ R.locals)
    (hws : ∀ w ∈ ws, ∀ (a' : Array Value) (U : State), s.WarmedH U.vm → w.before a' U = true) (hcw : Cond.codeWith y bytes maxL ret hs ∈ ws) (hcode : (Cond.codeWith y bytes maxL ret hs).before args s = true) (hini : (Cond.initialized y.cls).before args s = true)
    (hy : y.cls ≠ "java/lang/invoke/MethodHandle" ∧ y.cls ≠ "java/lang/invoke/VarHandle") (hlen : ∀ sig, parseMethodDescriptor y.desc = some sig → n = sig.parameters.length) (hl : (Cond.methodLink own index y).before args s = true) (hstt : (Cond.static y).before args s = true) (hp : PreS s H Pc As)
    (hg : g.method = m) (hn : As.length = n) (hsize : g.locals.size = nL) (hstack : g.stack = As.reverse ++ rest) (hW : 2 * g.monitorRoom + (rest.map fun v => v.category).sum ≤ 8) (hdg : decode cc g.pc = .ok (.invokestatic index, 3)) (hf : cells + mc ≤ R.cells ∧ slots + ms ≤ R.slots) :
    va_Run p l e R s m args below meth c H locs cells slots mc ms g rest (Qc As.toArray) (free) := by
  have hK : Back l R p e below s args y 3 8 (PreOf R mc ms Pc) (PostOf Qc mc ms free) := by
    refine Back.of_freeWith (S := headSpec ws rm) (P := Pc) (K := fun _ _ _ _ _ => True) (Q := fun a st o t => Qc a st o t ∧ ∃ L, FrameEnd st o t L mc ms ∧ ∀ q ∈ L, free q.base) (bytes := bytes) (maxL := maxL) (ret := ret) (handlers := hs)
      (E := fun a st o t L k n => k = mc ∧ n = ms ∧ ∀ q ∈ L, free q.base) hM hfr hlo ?_ ?_ (fun _ _ _ _ _ _ _ _ _ => trivial) ?_ ?_
    · intro m meth c A a X hp
      exact ⟨atoms_intro fun w hw => hws w hw _ _ X.warmed, hws _ hcw _ _ X.warmed, word_at X.warmed (Or.inl (by first | rfl | simp [Cond.onTables, Cond.keeps, Cond.steady])) hini, by rw [show (headSpec ws rm).room.cells = mc from hrc]; exact hp.1, by rw [show (headSpec ws rm).room.slots = ms from hrs]; exact hp.2.1⟩
    · intro m meth c A a g mk X hp'
      exact hp.1 _ _ _ _ hp'.2.2
    · intro a st o t ⟨hq, L, hF, hL⟩
      exact ⟨L, mc, ms, hF, rfl, rfl, hL⟩
    · intro m meth c A a g mk v t L k n X hp hq hF ⟨e1, e2, hL⟩
      subst e1; subst e2
      exact ⟨g, mk, t, L, rfl, rfl, hq.1, rfl, hL, rfl, rfl⟩
  obtain ⟨hx, hb, hml, ho, -⟩ := S
  intro T hT X
  obtain ⟨mk, methM, cM, hnamed, hmethM, -, -, -, -, -, -, hsigM⟩ := Cond.codeWith_spec hcode
  have hstatic : methM.isStatic = true := Cond.static_spec hnamed hmethM hstt
  obtain ⟨kP, hkP, -⟩ := className_of_methodNamed hnamed
  have hinitP : kP.init = .initialized := Cond.initialized_spec (findClass_of_methodNamed hnamed) hkP hini
  have hdg' : decode c.code g.pc = .ok (.invokestatic index, 3) := by rw [hb]; exact hdg
  obtain ⟨vm₁, X₁, hstep₁⟩ := X.invokestatic hx ho hl hnamed hmethM hstatic hkP hinitP hy (g := g) hg (argsL := As) (rest := rest) (hn.trans (hlen _ hsigM)) hstack hdg'
  obtain ⟨v, ⟨U', l2, c2, s2⟩, X', ⟨g', mk', t, L, e1, e2, hq, h1, hL, h2, h3⟩, hsteps⟩ := hK m meth c ⟨T.setVm vm₁, locs, cells, slots⟩ { g with stack := rest } (.invokestatic index) mk As.toArray X₁ hg (hsize.trans hml.symm) hdg' hW (X₁.named hnamed) ⟨hf.1, hf.2, hp.2 (T.setVm vm₁) hT X₁.warmed⟩
  dsimp only [Pt.U, Pt.locs, Pt.cells, Pt.slots] at X' e1 e2 h1 h2 h3 hsteps
  subst h1; subst h2; subst h3
  exact ⟨v, (T.setVm vm₁).calling g' mk' As.toArray, t, U', L, hT, X', hL, e1, e2, hq, fun target h => hstep₁ _ fun acts => by rw [doInvoke_state]; exact hsteps.trans h⟩
end TXG
end
section
/-! One world for all: n cells at the addresses ad, holding en; all of them, and all that is made, lie from base on. -/
def gw (ad : Nat → Nat) (en : Nat → va_E) (n : Nat) : va_W := (List.range n).map (fun i => (ad i, en i))
abbrev gA (base : Nat) : Nat → Prop := fun q => base ≤ q
theorem gw_at {ad : Nat → Nat} {en : Nat → va_E} {n i : Nat} (h : i < n) : (gw ad en n)[i]? = some (ad i, en i) := by
  unfold gw
  rw [List.getElem?_map, List.getElem?_range h]
  rfl
theorem gw_none {ad : Nat → Nat} {en : Nat → va_E} {n i : Nat} (h : ¬ i < n) : (gw ad en n)[i]? = none := by
  unfold gw
  simp [Nat.not_lt.mp h]
theorem gw_set {ad : Nat → Nat} {en : Nat → va_E} {n i : Nat} {x : va_E} (hi : i < n) : (gw ad en n).set i (ad i, x) = gw ad (va_up en i x) n := by
  apply List.ext_getElem?
  intro j
  rw [List.getElem?_set]
  by_cases hj : j < n
  · rw [gw_at hj, gw_at hj]
    by_cases hij : i = j
    · subst hij
      have hl : i < (gw ad en n).length := by unfold gw; simpa using hi
      simp [hl, va_up]
    · have hji : ¬ j = i := fun h => hij h.symm
      simp [hij, hji, va_up]
  · rw [gw_none hj, gw_none hj]
    by_cases hij : i = j
    · subst hij; exact absurd hi hj
    · simp [hij]
theorem gw_eq {ad : Nat → Nat} {e1 e2 : Nat → va_E} {n : Nat} (h : ∀ j, j < n → e1 j = e2 j) : gw ad e1 n = gw ad e2 n := by
  unfold gw
  apply List.map_congr_left
  intro i hi
  rw [h i (List.mem_range.mp hi)]
theorem gw_D {ad : Nat → Nat} {en : Nat → va_E} {n base : Nat} (hinj : ∀ i j, i < n → j < n → ad i = ad j → i = j) (hb : ∀ i, i < n → base ≤ ad i) : va_D (gA base) (gw ad en n) := by
  have lt : ∀ (i : Nat) (p : Nat × va_E), (gw ad en n)[i]? = some p → i < n ∧ p = (ad i, en i) := by
    intro i p h
    by_cases hi : i < n
    · rw [gw_at hi] at h; exact ⟨hi, (Option.some.inj h).symm⟩
    · rw [gw_none hi] at h; cases h
  refine ⟨fun i j p q hp hq hpq => ?_, fun k q hk => ?_⟩
  · obtain ⟨h1, rfl⟩ := lt i p hp
    obtain ⟨h2, rfl⟩ := lt j q hq
    exact hinj i j h1 h2 hpq
  · obtain ⟨h1, rfl⟩ := lt k q hk
    exact hb k h1
/-- where the world lies -/
def gGeo (ad : Nat → Nat) (n base : Nat) : Prop := (∀ i j, i < n → j < n → ad i = ad j → i = j) ∧ ∀ i, i < n → base ≤ ad i
theorem gGeo.D {ad : Nat → Nat} {en : Nat → va_E} {n base : Nat} (h : gGeo ad n base) : va_D (gA base) (gw ad en n) := gw_D h.1 h.2
section GWR
variable {p : Program} {l : Launch} {e : Env} {R : Room} {s : State} {m : MethodId} {args : Array Value} {below : List Frame} {meth : Method} {c : Code} {H : Heap} {locs : List Loc} {cells slots : Nat} {Q : State → Prop}
variable {cc : ByteArray} {pc nL : Nat} {ls : Array Slot} {rest : List Value} {D : va_G} {cl : List vw_C} {tys : List (ClassId × FieldType)} {H0 : Heap} {ad : Nat → Nat} {en : Nat → va_E} {n base : Nat} {Ts : List Cond} {own C : String} {T : u_T} {N ci index : Nat}
theorem g_get (F : CallFix p m c cc nL s args Ts own) (hK : va_K D cl tys s) (hP : va_P D cl (gw ad en n) H) (i : Nat) (hi : i < n) {fs : List Value} (he : en i = .inr (ci, fs)) (hc : cl[ci]? = some (C, T, N)) (hin : ∀ w ∈ u_ws C T N, w ∈ Ts) (k : Nat) (hk : k < N)
    (hlink : Cond.fieldLink own index (T k).1 (T k).2.1 (T k).2.2.1 ∈ Ts) {v : Value} (hv : fs[k]? = some v) (hdg : decode cc pc = .ok (.getfield index, 3))
    (kk : W p l e R s m args below meth c H locs cells slots Q (F0 m (pc + 3) ls (v :: rest))) : W p l e R s m args below meth c H locs cells slots Q (F0 m pc ls (.ref (ad i) :: rest)) :=
  va_get F.1 F.2.1 F.2.2.2.2 hin F.2.2.2.1 hK hP i (by rw [gw_at hi, he]) hc k hk (F.2.2.2.2 _ hlink) (fun _ h => h) hv hdg kk
theorem g_put (F : CallFix p m c cc nL s args Ts own) (hK : va_K D cl tys s) (G : gGeo ad n base) (hP : va_P D cl (gw ad en n) H) (hS : va_S (gA base) H0 H locs) (i : Nat) (hi : i < n) {fs : List Value} (he : en i = .inr (ci, fs)) (hc : cl[ci]? = some (C, T, N)) (hin : ∀ w ∈ u_ws C T N, w ∈ Ts)
    (ty0 : Nat → FieldType) (hty : ∀ k, k < N → parseFieldDescriptor (T k).2.2.1 = some (ty0 k)) (hnm : ∀ a, a < N → ∀ b, b < N → a ≠ b → (T a).2.1 ≠ (T b).2.1) (k : Nat) (hk : k < N)
    (hlink : Cond.fieldLink own index (T k).1 (T k).2.1 (T k).2.2.1 ∈ Ts) (hfin : (T k).2.2.2 = false) {ty : FieldType} {v : Value} (hd : parseFieldDescriptor (T k).2.2.1 = some ty) (hn : narrow ty v = v) (hfit : fits ty v = true) (hl : k < fs.length) (hdg : decode cc pc = .ok (.putfield index, 3))
    (kk : ∀ (H1 : Heap) (locs1 : List Loc), va_P D cl (gw ad (va_up en i (.inr (ci, fs.set k v))) n) H1 → va_S (gA base) H0 H1 locs1 → W p l e R s m args below meth c H1 locs1 cells slots Q (F0 m (pc + 3) ls rest)) : W p l e R s m args below meth c H locs cells slots Q (F0 m pc ls (v :: .ref (ad i) :: rest)) :=
  va_put F.1 F.2.1 F.2.2.2.2 hin ty0 hty hnm F.2.2.2.1 hK hP G.D hS i (by rw [gw_at hi, he]) hc k hk (F.2.2.2.2 _ hlink) (fun _ h => h) hfin hd hn hfit hl hdg (fun H1 locs1 h1 _ h3 => kk H1 locs1 (by rw [gw_set hi] at h1; exact h1) h3)
theorem g_iald (F : CallFix p m c cc nL s args Ts own) (hK : va_K D cl tys s) (hP : va_P D cl (gw ad en n) H) (i : Nat) (hi : i < n) (t0 : Nat) {cA : ClassId} {k : Nat} {f : Nat → Int32} (he : en i = .inl (cA, k, .inl f)) (ht : tys[t0]? = some (cA, .int)) {j : Int32} (hin : vp_in j k) (hdg : decode cc pc = .ok (.iaload, 1))
    (kk : W p l e R s m args below meth c H locs cells slots Q (F0 m (pc + 1) ls (.int (f j.toNatClampNeg) :: rest))) : W p l e R s m args below meth c H locs cells slots Q (F0 m pc ls (.int j :: .ref (ad i) :: rest)) :=
  va_iald F.1 F.2.1 hK hP i t0 (by rw [gw_at hi, he]) ht hin hdg kk
theorem g_zald (F : CallFix p m c cc nL s args Ts own) (hK : va_K D cl tys s) (hP : va_P D cl (gw ad en n) H) (i : Nat) (hi : i < n) (t0 : Nat) {cA : ClassId} {k : Nat} {f : Nat → Int32} (he : en i = .inl (cA, k, .inl f)) (ht : tys[t0]? = some (cA, .boolean)) {j : Int32} (hin : vp_in j k) (hdg : decode cc pc = .ok (.baload, 1))
    (kk : W p l e R s m args below meth c H locs cells slots Q (F0 m (pc + 1) ls (.int (f j.toNatClampNeg) :: rest))) : W p l e R s m args below meth c H locs cells slots Q (F0 m pc ls (.int j :: .ref (ad i) :: rest)) :=
  va_zald F.1 F.2.1 hK hP i t0 (by rw [gw_at hi, he]) ht hin hdg kk
theorem g_aald (F : CallFix p m c cc nL s args Ts own) (hK : va_K D cl tys s) (hP : va_P D cl (gw ad en n) H) (i : Nat) (hi : i < n) (t0 : Nat) {cA : ClassId} {k : Nat} {B : String} {f : Nat → Option Nat} (he : en i = .inl (cA, k, .inr (.inr (.inr (.inr f))))) (ht : tys[t0]? = some (cA, .object B)) {j : Int32} (hin : vp_in j k) (hdg : decode cc pc = .ok (.aaload, 1))
    (kk : W p l e R s m args below meth c H locs cells slots Q (F0 m (pc + 1) ls (va_rf (f j.toNatClampNeg) :: rest))) : W p l e R s m args below meth c H locs cells slots Q (F0 m pc ls (.int j :: .ref (ad i) :: rest)) :=
  va_aldq F.1 F.2.1 hK hP i t0 (by rw [gw_at hi, he]) ht hin hdg kk
theorem g_iast (F : CallFix p m c cc nL s args Ts own) (hK : va_K D cl tys s) (G : gGeo ad n base) (hP : va_P D cl (gw ad en n) H) (hS : va_S (gA base) H0 H locs) (i : Nat) (hi : i < n) (t0 : Nat) {cA : ClassId} {k : Nat} {f : Nat → Int32} (he : en i = .inl (cA, k, .inl f)) (ht : tys[t0]? = some (cA, .int)) {j x : Int32} (hin : vp_in j k) (hdg : decode cc pc = .ok (.iastore, 1))
    (kk : ∀ (H1 : Heap) (locs1 : List Loc), va_P D cl (gw ad (va_up en i (.inl (cA, k, .inl (upd f j.toNatClampNeg x)))) n) H1 → va_S (gA base) H0 H1 locs1 → W p l e R s m args below meth c H1 locs1 cells slots Q (F0 m (pc + 1) ls rest)) : W p l e R s m args below meth c H locs cells slots Q (F0 m pc ls (.int x :: .int j :: .ref (ad i) :: rest)) :=
  va_iast F.1 F.2.1 hK hP G.D hS i t0 (by rw [gw_at hi, he]) ht hin hdg (fun H1 locs1 h1 _ h3 => kk H1 locs1 (by rw [gw_set hi] at h1; exact h1) h3)
theorem g_zast (F : CallFix p m c cc nL s args Ts own) (hK : va_K D cl tys s) (G : gGeo ad n base) (hP : va_P D cl (gw ad en n) H) (hS : va_S (gA base) H0 H locs) (i : Nat) (hi : i < n) (t0 : Nat) {cA : ClassId} {k : Nat} {f : Nat → Int32} (he : en i = .inl (cA, k, .inl f)) (ht : tys[t0]? = some (cA, .boolean)) {j x : Int32} (hin : vp_in j k) (hdg : decode cc pc = .ok (.bastore, 1))
    (kk : ∀ (H1 : Heap) (locs1 : List Loc), va_P D cl (gw ad (va_up en i (.inl (cA, k, .inl (upd f j.toNatClampNeg (vp_nar .boolean x))))) n) H1 → va_S (gA base) H0 H1 locs1 → W p l e R s m args below meth c H1 locs1 cells slots Q (F0 m (pc + 1) ls rest)) : W p l e R s m args below meth c H locs cells slots Q (F0 m pc ls (.int x :: .int j :: .ref (ad i) :: rest)) :=
  va_zast F.1 F.2.1 hK hP G.D hS i t0 (by rw [gw_at hi, he]) ht hin hdg (fun H1 locs1 h1 _ h3 => kk H1 locs1 (by rw [gw_set hi] at h1; exact h1) h3)
theorem g_aast (F : CallFix p m c cc nL s args Ts own) (hK : va_K D cl tys s) (G : gGeo ad n base) (hP : va_P D cl (gw ad en n) H) (hS : va_S (gA base) H0 H locs) (i : Nat) (hi : i < n) (t0 qk : Nat) (hq : qk < n) {cA : ClassId} {k : Nat} {r : vw_C} {vs : List Value} {f : Nat → Option Nat} (he : en i = .inl (cA, k, .inr (.inr (.inr (.inr f))))) (ht : tys[t0]? = some (cA, .object r.1)) (hv : en qk = .inr (ci, vs)) (hc : cl[ci]? = some r) {j : Int32} (hin : vp_in j k) (hdg : decode cc pc = .ok (.aastore, 1))
    (kk : ∀ (H1 : Heap) (locs1 : List Loc), va_P D cl (gw ad (va_up en i (.inl (cA, k, .inr (.inr (.inr (.inr (va_up f j.toNatClampNeg (some (ad qk))))))))) n) H1 → va_S (gA base) H0 H1 locs1 → W p l e R s m args below meth c H1 locs1 cells slots Q (F0 m (pc + 1) ls rest)) : W p l e R s m args below meth c H locs cells slots Q (F0 m pc ls (.ref (ad qk) :: .int j :: .ref (ad i) :: rest)) :=
  va_astq F.1 F.2.1 hK hP G.D hS i t0 qk ci (by rw [gw_at hi, he]) ht (by rw [gw_at hq, hv]) hc hin hdg (fun H1 locs1 h1 _ h3 => kk H1 locs1 (by rw [gw_set hi] at h1; exact h1) h3)
theorem g_lald (F : CallFix p m c cc nL s args Ts own) (hK : va_K D cl tys s) (hP : va_P D cl (gw ad en n) H) (i : Nat) (hi : i < n) (t0 : Nat) {cA : ClassId} {k : Nat} {f : Nat → Int64} (he : en i = .inl (cA, k, .inr (.inl f))) (ht : tys[t0]? = some (cA, .long)) {j : Int32} (hin : vp_in j k) (hdg : decode cc pc = .ok (.laload, 1))
    (kk : W p l e R s m args below meth c H locs cells slots Q (F0 m (pc + 1) ls (.long (f j.toNatClampNeg) :: rest))) : W p l e R s m args below meth c H locs cells slots Q (F0 m pc ls (.int j :: .ref (ad i) :: rest)) :=
  va_lald F.1 F.2.1 hK hP i t0 (by rw [gw_at hi, he]) ht hin hdg kk
theorem g_last (F : CallFix p m c cc nL s args Ts own) (hK : va_K D cl tys s) (G : gGeo ad n base) (hP : va_P D cl (gw ad en n) H) (hS : va_S (gA base) H0 H locs) (i : Nat) (hi : i < n) (t0 : Nat) {cA : ClassId} {k : Nat} {f : Nat → Int64} (he : en i = .inl (cA, k, .inr (.inl f))) (ht : tys[t0]? = some (cA, .long)) {j : Int32} {x : Int64} (hin : vp_in j k) (hdg : decode cc pc = .ok (.lastore, 1))
    (kk : ∀ (H1 : Heap) (locs1 : List Loc), va_P D cl (gw ad (va_up en i (.inl (cA, k, .inr (.inl (vp_updL f j.toNatClampNeg x))))) n) H1 → va_S (gA base) H0 H1 locs1 → W p l e R s m args below meth c H1 locs1 cells slots Q (F0 m (pc + 1) ls rest)) : W p l e R s m args below meth c H locs cells slots Q (F0 m pc ls (.long x :: .int j :: .ref (ad i) :: rest)) :=
  va_last F.1 F.2.1 hK hP G.D hS i t0 (by rw [gw_at hi, he]) ht hin hdg (fun H1 locs1 h1 _ h3 => kk H1 locs1 (by rw [gw_set hi] at h1; exact h1) h3)
theorem g_copy (F : CallFix p m c cc nL s args Ts own) (hsz : ls.size = nL) (hK : va_K D cl tys s) (G : gGeo ad n base) (hP : va_P D cl (gw ad en n) H) (hS : va_S (gA base) H0 H locs) (i0 i1 : Nat) (h0 : i0 < n) (h1 : i1 < n) (t0 t1 : Nat) {c0 c1 : ClassId} {n0 n1 : Nat} {f g : Nat → Int32} {ty : FieldType}
    (he0 : en i0 = .inl (c0, n0, .inl f)) (he1 : en i1 = .inl (c1, n1, .inl g)) (ht0 : tys[t0]? = some (c0, ty)) (ht1 : tys[t1]? = some (c1, ty)) (hprim : refKind ty = false)
    (w1 : Cond.methodLink own index arraycopyName ∈ Ts) (w2 : Cond.native arraycopyName ∈ Ts) (w3 : Cond.static arraycopyName ∈ Ts) (w4 : Cond.initialized "java/lang/System" ∈ Ts)
    {sp dp k : Int32} (a1 : ¬ sp < 0) (a2 : ¬ dp < 0) (a3 : ¬ k < 0) (a4 : sp.toNatClampNeg + k.toNatClampNeg ≤ n0) (a5 : dp.toNatClampNeg + k.toNatClampNeg ≤ n1) (hfit : ∀ i, i < k.toNatClampNeg → fits ty (.int (f (sp.toNatClampNeg + i))) = true)
    (hframes : 1 ≤ R.frames) (hlocals : (rest.map fun v => v.category).sum + (nativeFrameWords "java/lang/System" "arraycopy" 5 + 11) ≤ R.locals) (hdg : decode cc pc = .ok (.invokestatic index, 3))
    (kk : ∀ (H1 : Heap) (locs1 : List Loc), va_P D cl (gw ad (va_up en i1 (.inl (c1, n1, .inl (va_cpy f g sp.toNatClampNeg dp.toNatClampNeg k.toNatClampNeg)))) n) H1 → va_S (gA base) H0 H1 locs1 → W p l e R s m args below meth c H1 locs1 cells slots Q (F0 m (pc + 3) ls rest)) :
    W p l e R s m args below meth c H locs cells slots Q (F0 m pc ls (.int k :: .int dp :: .ref (ad i1) :: .int sp :: .ref (ad i0) :: rest)) :=
  va_copyi F.1 F.2.1 (by rw [F.2.2.1, hsz]) F.2.2.2.1 (F.2.2.2.2 _ w1) (F.2.2.2.2 _ w2) (F.2.2.2.2 _ w3) (F.2.2.2.2 _ w4) hK hP G.D hS i0 i1 t0 t1 (by rw [gw_at h0, he0]) (by rw [gw_at h1, he1]) ht0 ht1 hprim a1 a2 a3 a4 a5 hfit hframes hlocals hdg
    (fun H1 locs1 q1 _ q3 => kk H1 locs1 (by rw [gw_set h1] at q1; exact q1) q3)
end GWR
/-- a contract's start and end over the world -/
def gPc (tw : State → Prop) (D : va_G) (cl : List vw_C) (ad : Nat → Nat) (n base : Nat) (en : Nat → va_E) (av : List Value) : Array Value → State → Prop := va_Pc av (fun U => tw U ∧ base ≤ U.heap.size ∧ va_P D cl (gw ad en n) U.heap)
def gQc (D : va_G) (cl : List vw_C) (ad : Nat → Nat) (n base : Nat) (r : Option Value) (Post : (Nat → va_E) → Prop) : Array Value → State → Outcome → State → Prop := fun _ st o t => o = .returned r ∧ (∃ en' : Nat → va_E, Post en' ∧ va_P D cl (gw ad en' n) t.heap) ∧ va_F (gA base) st t
/-- the same, where it may throw: xs names what, k which of them (0: it returns) -/
def gQx (D : va_G) (cl : List vw_C) (ad : Nat → Nat) (n base : Nat) (xs : List String) (k : Nat) (r : Option Value) (Post : (Nat → va_E) → Prop) : Array Value → State → Outcome → State → Prop := fun a st o t =>
  (k = 0 ∧ gQc D cl ad n base r Post a st o t) ∨ (k ≠ 0 ∧ tx_Q (xs.getD (k - 1) "") st o t)
section GWC
variable {p : Program} {l : Launch} {e : Env} {R : Room} {s : State} {m : MethodId} {args : Array Value} {below : List Frame} {meth : Method} {c : Code} {H : Heap} {locs : List Loc} {cells slots : Nat} {Q : State → Prop}
variable {pc : Nat} {ls : Array Slot} {rest st0 : List Value} {D : va_G} {cl : List vw_C} {H0 : Heap} {ad : Nat → Nat} {n base mc ms : Nat} {r : Option Value} {Post : (Nat → va_E) → Prop} {a : Array Value}
/-- behind a call -/
theorem g_call (hr : va_Run p l e R s m args below meth c H locs cells slots mc ms (F0 m pc ls st0) rest (gQc D cl ad n base r Post a) (gA base)) (hS : va_S (gA base) H0 H locs)
    (kk : ∀ (en' : Nat → va_E) (H1 : Heap) (locs1 : List Loc), Post en' → va_P D cl (gw ad en' n) H1 → va_S (gA base) H0 H1 locs1 → W p l e R s m args below meth c H1 locs1 (cells + mc) (slots + ms) Q (F0 m (pc + 3) ls (r.toList ++ rest))) : W p l e R s m args below meth c H locs cells slots Q (F0 m pc ls st0) := by
  intro T hT X
  obtain ⟨v, st₀, t, T', L, h0, X', hL, e1, e2, ⟨hv, ⟨en', hp, hP⟩, hz, hk⟩, st⟩ := hr T hT X
  cases hv
  rw [h0] at hz hk
  obtain ⟨t2, a1, b1⟩ := kk en' T'.heap (locs ++ L) hp (by rw [e1]; exact hP)
    ⟨Nat.le_trans hS.1 (by rw [e1]; exact hz), fun q h1 h2 => by rw [e1, hk q (Nat.lt_of_lt_of_le h1 hS.1) h2]; exact hS.2.1 q h1 h2, fun q hq => by
      rcases List.mem_append.mp hq with h | h
      · exact hS.2.2 q h
      · exact hL q h⟩ T' rfl X'
  exact ⟨t2, st t2 a1, b1⟩
end GWC
end
section
/-! ===== lN n to 2^64: shifts, and, or, masks, one bit ===== -/
theorem wb_tb (n : Nat) : (lN n).toBitVec = BitVec.ofNat 64 n := rfl
theorem wb_inj {a b : Int64} (h : a.toBitVec = b.toBitVec) : a = b := Int64.toBitVec_inj.mp h
theorem wb_tn {n : Nat} (h : n < 2 ^ 64) : (lN n).toBitVec.toNat = n := by rw [wb_tb, BitVec.toNat_ofNat, Nat.mod_eq_of_lt h]
theorem wb_of (x : Int64) : ∃ n, n < 2 ^ 64 ∧ x = lN n := ⟨x.toBitVec.toNat, x.toBitVec.isLt, wb_inj (by rw [wb_tb]; simp)⟩
theorem wb_of32 (x : Int32) : ∃ n, n < 2 ^ 32 ∧ x = nI n := ⟨x.toBitVec.toNat, x.toBitVec.isLt, Int32.toBitVec_inj.mp (by show _ = BitVec.ofNat 32 _; simp)⟩
theorem wb_c : ∀ k, k < 64 → ((nI k).toInt64 &&& 63) = lN k := by decide +kernel
theorem wb_cu : ∀ k, k < 64 → ((nI k).toInt64.toUInt64 &&& Int64.toUInt64 63) = UInt64.ofNat k := by decide +kernel
theorem wb_sm : ∀ k, k < 64 → (BitVec.ofNat 64 k).smod 64 = BitVec.ofNat 64 k := by decide +kernel
theorem wb_pw {a b : Nat} (h : a ≤ b) : 2 ^ b = 2 ^ a * 2 ^ (b - a) := by rw [← Nat.pow_add]; congr 1; omega
theorem wb_lt2 {a b : Nat} (h : a < b) : 2 ^ a < 2 ^ b := Nat.pow_lt_pow_right (by decide) h
theorem wb_mod (n : Nat) : lN n = lN (n % 2 ^ 64) := wb_inj (by rw [wb_tb, wb_tb]; apply BitVec.eq_of_toNat_eq; rw [BitVec.toNat_ofNat, BitVec.toNat_ofNat, Nat.mod_mod])
theorem wb_shr {n k : Nat} (hn : n < 2 ^ 64) (hk : k < 64) : ((lN n).toUInt64 >>> ((nI k).toInt64.toUInt64 &&& Int64.toUInt64 63)).toInt64 = lN (n / 2 ^ k) := by
  rw [wb_cu k hk]
  apply wb_inj
  apply BitVec.eq_of_toNat_eq
  show ((lN n).toUInt64 >>> UInt64.ofNat k).toNat = (BitVec.ofNat 64 _).toNat
  have h1 : (UInt64.ofNat k).toNat = k := by
    show (BitVec.ofNat 64 k).toNat = k
    rw [BitVec.toNat_ofNat, Nat.mod_eq_of_lt (by omega)]
  have h2 : (lN n).toUInt64.toNat = n := wb_tn hn
  rw [UInt64.toNat_shiftRight, h1, h2, Nat.mod_eq_of_lt hk, Nat.shiftRight_eq_div_pow, BitVec.toNat_ofNat, Nat.mod_eq_of_lt (Nat.lt_of_le_of_lt (Nat.div_le_self _ _) hn)]
theorem wb_shl (n : Nat) {k : Nat} (hk : k < 64) : lN n <<< ((nI k).toInt64 &&& 63) = lN (n * 2 ^ k) := by
  rw [wb_c k hk]
  apply wb_inj
  rw [Int64.toBitVec_shiftLeft, wb_tb, wb_tb, wb_tb, wb_sm k hk]
  apply BitVec.eq_of_toNat_eq
  rw [BitVec.shiftLeft_eq', BitVec.toNat_shiftLeft, BitVec.toNat_ofNat, BitVec.toNat_ofNat, BitVec.toNat_ofNat, Nat.mod_eq_of_lt (show k < 2 ^ 64 by omega), Nat.shiftLeft_eq, Nat.mul_mod, Nat.mod_mod, ← Nat.mul_mod]
theorem wb_and {a b : Nat} (ha : a < 2 ^ 64) (hb : b < 2 ^ 64) : lN a &&& lN b = lN (a &&& b) := by
  apply wb_inj
  rw [Int64.toBitVec_and, wb_tb, wb_tb, wb_tb]
  apply BitVec.eq_of_toNat_eq
  rw [BitVec.toNat_and, BitVec.toNat_ofNat, BitVec.toNat_ofNat, BitVec.toNat_ofNat, Nat.mod_eq_of_lt ha, Nat.mod_eq_of_lt hb, Nat.mod_eq_of_lt (Nat.and_lt_two_pow _ hb)]
theorem wb_or {a b : Nat} (ha : a < 2 ^ 64) (hb : b < 2 ^ 64) : lN a ||| lN b = lN (a ||| b) := by
  apply wb_inj
  rw [Int64.toBitVec_or, wb_tb, wb_tb, wb_tb]
  apply BitVec.eq_of_toNat_eq
  rw [BitVec.toNat_or, BitVec.toNat_ofNat, BitVec.toNat_ofNat, BitVec.toNat_ofNat, Nat.mod_eq_of_lt ha, Nat.mod_eq_of_lt hb, Nat.mod_eq_of_lt (Nat.or_lt_two_pow ha hb)]
theorem wb_mask {n k : Nat} (hn : n < 2 ^ 64) (hk : k < 64) : lN n &&& lN (2 ^ k - 1) = lN (n % 2 ^ k) := by
  rw [wb_and hn (by have := wb_lt2 hk; omega), Nat.and_two_pow_sub_one_eq_mod]
theorem wb_a1 {n : Nat} (hn : n < 2 ^ 64) : lN n &&& 1 = lN (n % 2) := wb_mask (k := 1) hn (by decide)
theorem wb_bit {n k : Nat} (hn : n < 2 ^ 64) (hk : k < 64) : ((lN n).toUInt64 >>> ((nI k).toInt64.toUInt64 &&& Int64.toUInt64 63)).toInt64 &&& 1 = lN (n / 2 ^ k % 2) := by
  rw [wb_shr hn hk, wb_a1 (Nat.lt_of_le_of_lt (Nat.div_le_self _ _) hn)]
theorem wb_xor {q k : Nat} (hk : k < 63) (h : 2 ^ k ≤ q) (h2 : q < 2 ^ (k + 1)) : lN q ^^^ lN (2 ^ k) = lN (q - 2 ^ k) := by
  obtain ⟨r, rfl⟩ : ∃ r, q = 2 ^ k + r := ⟨q - 2 ^ k, by omega⟩
  have hr : r < 2 ^ k := by rw [Nat.pow_succ] at h2; omega
  have hx : (2 ^ k + r) ^^^ 2 ^ k = r := by
    apply Nat.eq_of_testBit_eq
    intro i
    rw [Nat.testBit_xor, Nat.testBit_two_pow]
    rcases Nat.lt_trichotomy i k with h | h | h
    · rw [Nat.testBit_two_pow_add_gt h]
      simp [show ¬ k = i by omega]
    · subst h
      rw [Nat.testBit_two_pow_add_eq]
      simp
    · have a1 : 2 ^ (k + 1) ≤ 2 ^ i := Nat.pow_le_pow_right (by decide) h
      rw [Nat.testBit_lt_two_pow (show 2 ^ k + r < 2 ^ i by omega), Nat.testBit_lt_two_pow (show r < 2 ^ i by omega)]
      simp [show ¬ k = i by omega]
  have b1 := wb_lt2 (show k + 1 < 64 by omega)
  have b2 := wb_lt2 (show k < 64 by omega)
  apply wb_inj
  rw [Int64.toBitVec_xor, wb_tb, wb_tb, wb_tb]
  apply BitVec.eq_of_toNat_eq
  rw [BitVec.toNat_xor, BitVec.toNat_ofNat, BitVec.toNat_ofNat, BitVec.toNat_ofNat, Nat.mod_eq_of_lt (by omega : 2 ^ k + r < 2 ^ 64), Nat.mod_eq_of_lt b2, hx, Nat.add_sub_cancel_left, Nat.mod_eq_of_lt (by omega)]
/-! ===== Int64 as an unsigned number: uN x ===== -/
def uN (x : Int64) : Nat := x.toUInt64.toNat
theorem uN_lt (x : Int64) : uN x < 18446744073709551616 := x.toUInt64.toNat_lt
theorem uN_inj {x y : Int64} (h : uN x = uN y) : x = y := congrArg UInt64.toInt64 (UInt64.toNat_inj.mp h)
theorem uN_add (x y : Int64) : uN (x + y) = (uN x + uN y) % 18446744073709551616 := by
  show (x.toUInt64 + y.toUInt64).toNat = _
  exact UInt64.toNat_add _ _
theorem uN_mul (x y : Int64) : uN (x * y) = (uN x * uN y) % 18446744073709551616 := by
  show (x.toUInt64 * y.toUInt64).toNat = _
  exact UInt64.toNat_mul _ _
theorem uN_shl (x : Int64) : uN (x <<< ((1 : Int32).toInt64 &&& 63)) = (2 * uN x) % 18446744073709551616 := by
  have h : (((1 : Int32).toInt64 &&& 63).toBitVec.smod 64).toNat = 1 := by decide
  show (x.toBitVec <<< (((1 : Int32).toInt64 &&& 63).toBitVec.smod 64).toNat).toNat = _
  rw [h, BitVec.toNat_shiftLeft, Nat.shiftLeft_eq, Nat.mul_comm]
  rfl
theorem uN_shr (x : Int64) (s : UInt64) : uN (x.toUInt64 >>> s).toInt64 = uN x / 2 ^ (s.toNat % 64) := by
  show (x.toUInt64 >>> s).toNat = _
  rw [UInt64.toNat_shiftRight, Nat.shiftRight_eq_div_pow]
  rfl
theorem uN_s32 (x : Int64) : uN (x.toUInt64 >>> ((32 : Int32).toInt64.toUInt64 &&& Int64.toUInt64 63)).toInt64 = uN x / 4294967296 := by
  have h : ((32 : Int32).toInt64.toUInt64 &&& Int64.toUInt64 63).toNat % 64 = 32 := by decide
  rw [uN_shr, h]
theorem uN_s63 (x : Int64) : uN (x.toUInt64 >>> ((63 : Int32).toInt64.toUInt64 &&& Int64.toUInt64 63)).toInt64 = uN x / 9223372036854775808 := by
  have h : ((63 : Int32).toInt64.toUInt64 &&& Int64.toUInt64 63).toNat % 64 = 63 := by decide
  rw [uN_shr, h]
theorem uN_lo (x : Int64) : uN (x &&& 4294967295) = uN x % 4294967296 := by
  show (x.toUInt64 &&& Int64.toUInt64 4294967295).toNat = _
  rw [UInt64.toNat_and]
  exact Nat.and_two_pow_sub_one_eq_mod _ 32
theorem uN_bit (x : Int64) : (x &&& 1) = 0 ↔ uN x % 2 = 0 := by
  have h : uN (x &&& 1) = uN x % 2 := by
    show (x.toUInt64 &&& Int64.toUInt64 1).toNat = _
    rw [UInt64.toNat_and]
    exact Nat.and_two_pow_sub_one_eq_mod _ 1
  rw [← h]
  exact ⟨fun z => by rw [z]; rfl, fun z => uN_inj (z.trans rfl)⟩
theorem uN_or {x y : Int64} (hy : uN y < 2) : uN ((x <<< ((1 : Int32).toInt64 &&& 63)) ||| y) = (2 * uN x) % 18446744073709551616 + uN y := by
  have h1 : uN ((x <<< ((1 : Int32).toInt64 &&& 63)) ||| y) = uN (x <<< ((1 : Int32).toInt64 &&& 63)) ||| uN y := UInt64.toNat_or _ _
  have h2 : (2 * uN x) % 18446744073709551616 = 2 ^ 1 * (uN x % 9223372036854775808) := by omega
  rw [h1, uN_shl, h2]
  exact (Nat.two_pow_add_eq_or_of_lt (i := 1) hy _).symm
theorem nat_xor {a : Nat} (h : a < 18446744073709551616) : a ^^^ 2 ^ 63 = (a + 9223372036854775808) % 18446744073709551616 := by
  have h1 : (a ^^^ 2 ^ 63) % 2 ^ 63 = a % 2 ^ 63 := by rw [Nat.xor_mod_two_pow, Nat.mod_self, Nat.xor_zero]
  have h2 : (a ^^^ 2 ^ 63) / 2 ^ 63 = (a / 2 ^ 63) ^^^ 1 := by rw [Nat.xor_div_two_pow, Nat.div_self (Nat.two_pow_pos 63)]
  have h3 : a / 2 ^ 63 = 0 ∨ a / 2 ^ 63 = 1 := by omega
  generalize a ^^^ 2 ^ 63 = t at h1 h2
  rcases h3 with h3 | h3
  · rw [h3] at h2
    have h2 : t / 2 ^ 63 = 1 := h2
    omega
  · rw [h3] at h2
    have h2 : t / 2 ^ 63 = 0 := h2
    omega
theorem uN_xor (x : Int64) : uN (x ^^^ (-9223372036854775808)) = (uN x + 9223372036854775808) % 18446744073709551616 := by
  rw [← nat_xor (uN_lt x)]
  exact UInt64.toNat_xor _ _
theorem uN_int (x : Int64) : x.toInt = if 2 * uN x < 18446744073709551616 then (uN x : Int) else (uN x : Int) - 18446744073709551616 := BitVec.toInt_eq_toNat_cond _
theorem uN_le (x y : Int64) : (x ^^^ (-9223372036854775808)) ≤ (y ^^^ (-9223372036854775808)) ↔ uN x ≤ uN y := by
  have hx := uN_lt x
  have hy := uN_lt y
  rw [Int64.le_iff_toInt_le, uN_int, uN_int, uN_xor, uN_xor]
  omega
theorem uN_sk (x : Int64) {k : Nat} (hk : k < 64) : uN (x.toUInt64 >>> ((nI k).toInt64.toUInt64 &&& Int64.toUInt64 63)).toInt64 = uN x / 2 ^ k := by
  have h : ((nI k).toInt64.toUInt64 &&& Int64.toUInt64 63).toNat % 64 = k := by
    rw [nI_l (by omega), UInt64.toNat_and]
    have e : (lN k).toUInt64.toNat = k % 2 ^ 64 := rfl
    have e2 : (Int64.toUInt64 63).toNat = 2 ^ 6 - 1 := by decide
    rw [e, e2, Nat.and_two_pow_sub_one_eq_mod]
    omega
  rw [uN_shr, h]
/-- byte k of a long -/
def byt (v : Int64) (k : Nat) : Nat := uN v / 2 ^ (8 * k) % 256
theorem byt_lt (v : Int64) (k : Nat) : byt v k < 256 := Nat.mod_lt _ (by decide)
theorem by_low (y : Int64) : y.toInt32 &&& 255 = nI (uN y % 256) := by
  rw [pk_and _ 8 (by decide)]
  have h : y.toInt32.toBitVec.toNat = uN y % 2 ^ 32 := by
    rw [Int64.toBitVec_toInt32, BitVec.signExtend_eq_setWidth_of_le _ (by decide), BitVec.toNat_setWidth]
    rfl
  rw [h]
  congr 1
  omega
theorem by_cls (v : Int64) {k : Nat} (hk : k < 8) : ((v.toUInt64 >>> ((nI (8 * k)).toInt64.toUInt64 &&& Int64.toUInt64 63)).toInt64).toInt32 &&& 255 = nI (byt v k) := by
  rw [by_low, uN_sk v (by omega)]
  rfl
theorem by_mod (v : Int64) {k : Nat} (hk : k < 8) : ((v >>> ((nI (8 * k)).toInt64 &&& 63)) &&& 255).toInt32 = nI (byt v k) := by
  have h1 : ∀ z : Int64, (z &&& 255).toInt32 = nI (uN z % 256) := by
    intro z
    obtain ⟨n, hn, rfl⟩ := wb_of z
    have e : (255 : Int64) = lN (2 ^ 8 - 1) := by decide
    have e2 : uN (lN n) = n := wb_tn hn
    rw [e, wb_mask hn (by decide), lN_i, e2]
  rw [h1]
  unfold byt
  congr 1
  rw [wb_c (8 * k) (by omega)]
  have e : uN (v >>> lN (8 * k)) = (v.toBitVec.sshiftRight (8 * k)).toNat := by
    show ((v >>> lN (8 * k)).toBitVec).toNat = _
    rw [Int64.toBitVec_shiftRight, wb_tb, wb_sm _ (by omega), BitVec.sshiftRight_eq', BitVec.toNat_ofNat, Nat.mod_eq_of_lt (by omega)]
  rw [e]
  apply Nat.eq_of_testBit_eq
  intro i
  rw [show (256 : Nat) = 2 ^ 8 from rfl, Nat.testBit_mod_two_pow, Nat.testBit_mod_two_pow, Nat.testBit_div_two_pow]
  by_cases hi : i < 8
  · have h2 : (v.toBitVec.sshiftRight (8 * k)).getLsbD i = v.toBitVec.getLsbD (8 * k + i) := by
      rw [BitVec.getLsbD_sshiftRight]
      have a1 : ¬ 64 ≤ i := by omega
      have a2 : 8 * k + i < 64 := by omega
      simp [a1, a2]
    have h3 : (v.toBitVec.sshiftRight (8 * k)).toNat.testBit i = v.toBitVec.toNat.testBit (8 * k + i) := h2
    rw [h3, Nat.add_comm]
    rfl
  · simp [hi]
/-- one byte more: the name of the longer range -/
def nm (a b : Nat) : Nat := (1000003 * a + b + 1) % 2305843009213693951
theorem nm_lt (a b : Nat) : nm a b < 2305843009213693951 := Nat.mod_lt _ (by decide)
theorem nm_cls (a b : Nat) : ((1000003 * (a / 2147483648)) / 1073741824 + ((1000003 * (a / 2147483648)) % 1073741824) * 2147483648 + 1000003 * (a % 2147483648) + b + 1) % 2305843009213693951 = nm a b := by
  unfold nm
  have h : 1000003 * a + b + 1 = ((1000003 * (a / 2147483648)) / 1073741824 + ((1000003 * (a / 2147483648)) % 1073741824) * 2147483648 + 1000003 * (a % 2147483648) + b + 1) + 2305843009213693951 * ((1000003 * (a / 2147483648)) / 1073741824) := by omega
  rw [h, Nat.add_mul_mod_self_left]
theorem nm_mod (a b : Nat) (ha : a < 2305843009213693951) : ∀ h t r : Nat, h = ((a / 1099511627776) * 1000003) / 2097152 + (((a / 1099511627776) * 1000003) % 2097152) * 1099511627776 → h < 2305843009213693951 ∧
    (t = (if h + (a % 1099511627776) * 1000003 ≥ 2305843009213693951 then h + (a % 1099511627776) * 1000003 - 2305843009213693951 else h + (a % 1099511627776) * 1000003) → t < 2305843009213693951 ∧
    (b < 256 → r = (if t + (b + 1) ≥ 2305843009213693951 then t + (b + 1) - 2305843009213693951 else t + (b + 1)) → r = nm a b)) := by
  intro h t r hh
  have h1 : a / 1099511627776 < 2097152 := by omega
  refine ⟨by omega, fun ht => ⟨?_, fun hb hr => ?_⟩⟩
  · split at ht <;> omega
  · have key : 1000003 * a = h + (a % 1099511627776) * 1000003 + 2305843009213693951 * (((a / 1099511627776) * 1000003) / 2097152) := by omega
    have ht2 : ∃ u : Nat, h + (a % 1099511627776) * 1000003 = t + 2305843009213693951 * u ∧ t < 2305843009213693951 := by
      split at ht
      · exact ⟨1, by omega, by omega⟩
      · exact ⟨0, by omega, by omega⟩
    obtain ⟨u, hu, ht3⟩ := ht2
    have hr2 : ∃ w : Nat, t + (b + 1) = r + 2305843009213693951 * w ∧ r < 2305843009213693951 := by
      split at hr
      · exact ⟨1, by omega, by omega⟩
      · exact ⟨0, by omega, by omega⟩
    obtain ⟨w, hw, hr3⟩ := hr2
    unfold nm
    have : 1000003 * a + b + 1 = r + 2305843009213693951 * (w + u + ((a / 1099511627776) * 1000003) / 2097152) := by omega
    rw [this, Nat.add_mul_mod_self_left, Nat.mod_eq_of_lt hr3]
end
section
/-! What the document says, over numbers: four texts (lengths n, bytes b), the pattern (p, q), the automaton (x: next, c: accepting). -/
abbrev Ab : Type := (Nat → Nat) × (Nat → Nat → Nat) × Nat × (Nat → Nat) × (Nat → Nat) × (Nat → Nat)
def a_n (a : Ab) : Nat → Nat := a.1
def a_b (a : Ab) : Nat → Nat → Nat := a.2.1
def a_p (a : Ab) : Nat := a.2.2.1
def a_q (a : Ab) : Nat → Nat := a.2.2.2.1
def a_x (a : Ab) : Nat → Nat := a.2.2.2.2.1
def a_c (a : Ab) : Nat → Nat := a.2.2.2.2.2
def a_ok (a : Ab) : Prop := (∀ d, d < 4 → a_n a d ≤ 1000) ∧ (∀ d i, d < 4 → i < a_n a d → a_b a d i < 256) ∧ a_p a ≤ 16 ∧ (∀ k, k < a_p a → a_q a k < 256) ∧ (∀ q, q < 2048 → a_x a q < 8) ∧ ∀ q, q < 8 → a_c a q < 2
/-- text d becomes the k bytes f -/
def a_set (a : Ab) (d k : Nat) (f : Nat → Nat) : Ab := (fun e => if e = d then k else a_n a e, fun e => if e = d then f else a_b a e, a.2.2)
theorem a_set_n (a : Ab) (d k : Nat) (f : Nat → Nat) (e : Nat) : a_n (a_set a d k f) e = if e = d then k else a_n a e := rfl
theorem a_set_b (a : Ab) (d k : Nat) (f : Nat → Nat) (e : Nat) : a_b (a_set a d k f) e = if e = d then f else a_b a e := rfl
theorem a_set_ok {a : Ab} {d k : Nat} {f : Nat → Nat} (h : a_ok a) (hk : k ≤ 1000) (hf : ∀ i, i < k → f i < 256) : a_ok (a_set a d k f) := by
  obtain ⟨h1, h2, h3⟩ := h
  refine ⟨fun e he => ?_, fun e i he hi => ?_, h3⟩
  · rw [a_set_n]; split
    · exact hk
    · exact h1 e he
  · rw [a_set_n] at hi
    rw [a_set_b]
    by_cases hed : e = d
    · rw [if_pos hed] at hi ⊢; exact hf i hi
    · rw [if_neg hed] at hi ⊢; exact h2 e i he hi
/-- row r of S becomes f -/
def sr (S : Nat → Nat → Int32) (r : Nat) (f : Nat → Int32) : Nat → Nat → Int32 := fun r' => if r' = r then f else S r'
theorem sr_s {S : Nat → Nat → Int32} {r : Nat} {f : Nat → Int32} : sr S r f r = f := if_pos rfl
theorem sr_n {S : Nat → Nat → Int32} {r r' : Nat} {f : Nat → Int32} (h : r' ≠ r) : sr S r f r' = S r' := if_neg h
/-- the class's cells hold a: text d lies at the place pi d, the draft at dr; rows of S: 0 to 4 bytes by place, 5 sizes by place, 6 pattern, 7 its size, 8 next, 9 accepting -/
def RepC (pi : Nat → Nat) (dr : Nat) (S : Nat → Nat → Int32) (a : Ab) : Prop :=
  (∀ d, d < 4 → pi d < 5 ∧ pi d ≠ dr) ∧ dr < 5 ∧ (∀ d e, d < 4 → e < 4 → pi d = pi e → d = e) ∧ (∀ d, d < 4 → S 5 (pi d) = nI (a_n a d)) ∧ (∀ d i, d < 4 → i < a_n a d → S (pi d) i = nI (a_b a d i)) ∧
  S 7 0 = nI (a_p a) ∧ (∀ k, k < a_p a → S 6 k = nI (a_q a k)) ∧ (∀ q, q < 2048 → S 8 q = nI (a_x a q)) ∧ ∀ q, q < 8 → S 9 q = nI (a_c a q)
/-- the draft holds the k bytes g -/
def RepD (dr : Nat) (S : Nat → Nat → Int32) (k : Nat) (g : Nat → Nat) : Prop := S 5 dr = nI k ∧ ∀ i, i < k → S dr i = nI (g i)
/-- the reference's cells hold a: rows of M: 0 numbers (0 code, 1 drafted, 2 patternSize, 3 state, 4 many), 1 texts, 2 sizes, 3 draft, 4 pattern, 5 next, 6 accepts -/
def RepM (M : Nat → Nat → Int32) (a : Ab) : Prop :=
  (∀ d, d < 4 → M 2 d = nI (a_n a d)) ∧ (∀ d i, d < 4 → i < a_n a d → M 1 (1000 * d + i) = nI (a_b a d i)) ∧ M 0 2 = nI (a_p a) ∧ (∀ k, k < a_p a → M 4 k = nI (a_q a k)) ∧ (∀ q, q < 2048 → M 5 q = nI (a_x a q)) ∧ ∀ q, q < 8 → M 6 q = nI (a_c a q)
def RepDM (M : Nat → Nat → Int32) (k : Nat) (g : Nat → Nat) : Prop := M 0 1 = nI k ∧ ∀ i, i < k → M 3 i = nI (g i)
theorem RepC.off {pi : Nat → Nat} {dr : Nat} {S S' : Nat → Nat → Int32} {a : Ab} (h : RepC pi dr S a) (h1 : ∀ r, r ≠ dr → r ≠ 5 → S' r = S r) (h2 : ∀ q, q ≠ dr → S' 5 q = S 5 q) : RepC pi dr S' a := by
  obtain ⟨c1, c2, c3, c4, c5, c6, c7, c8, c9⟩ := h
  refine ⟨c1, c2, c3, fun d hd => ?_, fun d i hd hi => ?_, ?_, fun k hk => ?_, fun q hq => ?_, fun q hq => ?_⟩
  · rw [h2 _ (c1 d hd).2]; exact c4 d hd
  · rw [h1 _ (c1 d hd).2 (by have := (c1 d hd).1; omega)]; exact c5 d i hd hi
  · rw [h1 7 (by omega) (by omega)]; exact c6
  · rw [h1 6 (by omega) (by omega)]; exact c7 k hk
  · rw [h1 8 (by omega) (by omega)]; exact c8 q hq
  · rw [h1 9 (by omega) (by omega)]; exact c9 q hq
/-- the draft becomes text e -/
theorem RepC.swap {pi : Nat → Nat} {dr : Nat} {S : Nat → Nat → Int32} {a : Ab} {e k : Nat} {g : Nat → Nat} (h : RepC pi dr S a) (hd : RepD dr S k g) (he : e < 4) : RepC (va_up pi e dr) (pi e) S (a_set a e k g) := by
  obtain ⟨c1, c2, c3, c4, c5, c6⟩ := h
  have up : ∀ d, va_up pi e dr d = if d = e then dr else pi d := fun d => rfl
  refine ⟨fun d hd' => ?_, (c1 e he).1, fun d d' h1 h2 h3 => ?_, fun d h1 => ?_, fun d i h1 h2 => ?_, c6⟩
  · rw [up]; split
    · exact ⟨c2, fun z => (c1 e he).2 z.symm⟩
    · exact ⟨(c1 d hd').1, fun z => by have := c3 d e hd' he z; contradiction⟩
  · rw [up, up] at h3
    by_cases x1 : d = e <;> by_cases x2 : d' = e
    · rw [x1, x2]
    · rw [if_pos x1, if_neg x2] at h3; exact absurd h3.symm (c1 d' h2).2
    · rw [if_neg x1, if_pos x2] at h3; exact absurd h3 (c1 d h1).2
    · rw [if_neg x1, if_neg x2] at h3; exact c3 d d' h1 h2 h3
  · rw [up, a_set_n]
    by_cases x1 : d = e
    · rw [if_pos x1, if_pos x1]; exact hd.1
    · rw [if_neg x1, if_neg x1]; exact c4 d h1
  · rw [a_set_n] at h2
    rw [up, a_set_b]
    by_cases x1 : d = e
    · rw [if_pos x1] at h2 ⊢
      rw [if_pos x1]; exact hd.2 i h2
    · rw [if_neg x1] at h2 ⊢
      rw [if_neg x1]; exact c5 d i h1 h2
theorem RepC.to {pi : Nat → Nat} {dr : Nat} {S : Nat → Nat → Int32} {a : Ab} {e k k' : Nat} {g g' : Nat → Nat} (h : RepC pi dr S (a_set a e k g)) (hk : k = k') (hg : ∀ i, i < k → g i = g' i) : RepC pi dr S (a_set a e k' g') := by
  subst hk
  obtain ⟨c1, c2, c3, c4, c5, c6⟩ := h
  refine ⟨c1, c2, c3, c4, fun d i h1 h2 => ?_, c6⟩
  have h5 := c5 d i h1 h2
  rw [a_set_n] at h2
  rw [a_set_b] at h5 ⊢
  by_cases x1 : d = e
  · rw [if_pos x1] at h2 h5 ⊢; rw [← hg i h2]; exact h5
  · rw [if_neg x1] at h5 ⊢; exact h5
theorem RepM.to {M : Nat → Nat → Int32} {a : Ab} {e k k' : Nat} {g g' : Nat → Nat} (h : RepM M (a_set a e k g)) (hk : k = k') (hg : ∀ i, i < k → g i = g' i) : RepM M (a_set a e k' g') := by
  subst hk
  obtain ⟨c4, c5, c6⟩ := h
  refine ⟨c4, fun d i h1 h2 => ?_, c6⟩
  have h5 := c5 d i h1 h2
  rw [a_set_n] at h2
  rw [a_set_b] at h5 ⊢
  by_cases x1 : d = e
  · rw [if_pos x1] at h2 h5 ⊢; rw [← hg i h2]; exact h5
  · rw [if_neg x1] at h5 ⊢; exact h5
/-- k bytes g, behind them the bytes f -/
def cat (g : Nat → Nat) (k : Nat) (f : Nat → Nat) : Nat → Nat := fun i => if i < k then g i else f (i - k)
/-- a range of a text laid behind the draft -/
theorem RepD.add {pi : Nat → Nat} {dr : Nat} {S : Nat → Nat → Int32} {a : Ab} {d k f w : Nat} {g : Nat → Nat} (h : RepC pi dr S a) (hd : RepD dr S k g) (h4 : d < 4) (hr : f + w ≤ a_n a d) :
    RepC pi dr (sr (sr S dr (va_cpy (S (pi d)) (S dr) f k w)) 5 (upd (S 5) dr (nI (k + w)))) a ∧ RepD dr (sr (sr S dr (va_cpy (S (pi d)) (S dr) f k w)) 5 (upd (S 5) dr (nI (k + w)))) (k + w) (cat g k (fun i => a_b a d (f + i))) := by
  have hdr : dr < 5 := h.2.1
  have n5 : dr ≠ 5 := by omega
  refine ⟨h.off (fun r h1 h2 => ?_) (fun q hq => ?_), ?_, fun i hi => ?_⟩
  · rw [sr_n h2, sr_n h1]
  · rw [sr_s]; exact pk_un hq
  · rw [sr_s]; exact pk_us
  · rw [sr_n n5, sr_s]
    unfold cat
    by_cases hik : i < k
    · rw [pk_cpy_out (Or.inl hik), if_pos hik]; exact hd.2 i hik
    · rw [pk_cpy_in (by omega) (by omega), if_neg hik]
      exact h.2.2.2.2.1 d (f + (i - k)) h4 (by omega)
theorem RepD.clear {pi : Nat → Nat} {dr : Nat} {S : Nat → Nat → Int32} {a : Ab} (h : RepC pi dr S a) (g : Nat → Nat) : RepC pi dr (sr S 5 (upd (S 5) dr 0)) a ∧ RepD dr (sr S 5 (upd (S 5) dr 0)) 0 g := by
  have hdr : dr < 5 := h.2.1
  refine ⟨h.off (fun r h1 h2 => sr_n h2) (fun q hq => ?_), ?_, fun i hi => absurd hi (Nat.not_lt_zero _)⟩
  · rw [sr_s]; exact pk_un hq
  · rw [sr_s]; exact pk_us
end
section
/-! The making of the world: a cell more. -/
theorem gw_push {ad : Nat → Nat} {en : Nat → va_E} {n q : Nat} {x : va_E} : gw ad en n ++ [(q, x)] = gw (va_up ad n q) (va_up en n x) (n + 1) := by
  unfold gw
  rw [List.range_succ, List.map_append]
  congr 1
  · apply List.map_congr_left
    intro i hi
    have h := List.mem_range.mp hi
    have hne : i ≠ n := Nat.ne_of_lt h
    simp [va_up, hne]
  · simp [va_up]
theorem gGeo.of {ad : Nat → Nat} {en : Nat → va_E} {n base : Nat} (h : va_D (gA base) (gw ad en n)) : gGeo ad n base :=
  ⟨fun i j hi hj e => h.1 i j _ _ (gw_at hi) (gw_at hj) e, fun i hi => h.2 i _ (gw_at hi)⟩
section GWN
variable {p : Program} {l : Launch} {e : Env} {R : Room} {s : State} {m : MethodId} {args : Array Value} {below : List Frame} {meth : Method} {c : Code} {H : Heap} {locs : List Loc} {cells slots : Nat} {Q : State → Prop}
variable {cc : ByteArray} {pc nL : Nat} {ls : Array Slot} {rest : List Value} {D : va_G} {cl : List vw_C} {tys : List (ClassId × FieldType)} {H0 : Heap} {ad : Nat → Nat} {en : Nat → va_E} {n base : Nat} {Ts : List Cond} {own C : String} {T : u_T} {N ci index : Nat}
theorem g_new (F : CallFix p m c cc nL s args Ts own) (hK : va_K D cl tys s) (G : gGeo ad n base) (hP : va_P D cl (gw ad en n) H) (hS : va_S (gA base) H0 H locs) (hB : base ≤ H0.size) (hc : cl[ci]? = some (C, T, N)) (hin : ∀ w ∈ u_ws C T N, w ∈ Ts) (ty : Nat → FieldType) (hty : ∀ k, k < N → parseFieldDescriptor (T k).2.2.1 = some (ty k))
    (w1 : Cond.classLink own index C ∈ Ts) (w2 : Cond.instantiable C N ∈ Ts) (w3 : Cond.initialized C ∈ Ts) {fs : List Value} (hfs : ∀ j, j < N → defaultValue (ty j) = vp_V fs j) (hcells : cells + 1 ≤ R.cells) (hslots : slots + N ≤ R.slots) (hdg : decode cc pc = .ok (.new index, 3))
    (kk : ∀ (q : Nat) (H1 : Heap), gGeo (va_up ad n q) (n + 1) base → va_P D cl (gw (va_up ad n q) (va_up en n (.inr (ci, fs))) (n + 1)) H1 → va_S (gA base) H0 H1 locs →
      W p l e R s m args below meth c H1 locs (cells + 1) (slots + N) Q (F0 m (pc + 3) ls (.ref q :: rest))) : W p l e R s m args below meth c H locs cells slots Q (F0 m pc ls rest) :=
  va_new F.1 F.2.1 F.2.2.2.2 hin ty hty F.2.2.2.1 (F.2.2.2.2 _ w1) (F.2.2.2.2 _ w2) (F.2.2.2.2 _ w3) hK hP G.D hS (fun q h => Nat.le_trans hB h) hc hfs hcells hslots hdg
    (fun q H1 h1 h2 h3 => by rw [gw_push] at h1 h2; exact kk q H1 (gGeo.of h2) h1 h3)
theorem g_newa (F : CallFix p m c cc nL s args Ts own) (hK : va_K D cl tys s) (G : gGeo ad n base) (hP : va_P D cl (gw ad en n) H) (hS : va_S (gA base) H0 H locs) (hB : base ≤ H0.size) {atype : ArrayType} (w1 : Cond.arrayClass (newarray.typeOf atype) ∈ Ts) {ty : FieldType} (hty : newarray.typeOf atype = ty) (hprim : ∀ B, ty ≠ .object B) (t0 : Nat) {cA : ClassId} (ht : tys[t0]? = some (cA, ty))
    {k : Int32} {N' : Nat} {a0 : vp_A} (ha : ∀ cA : ClassId, vp_cell cA a0 = arrV cA N' (fun _ => defaultValue ty)) (hn : ¬ k < 0) (hN : k.toNatClampNeg = N') (hbytes : N' * componentBytes ty ≤ 536870912) (hcells : cells + 1 ≤ R.cells) (hslots : slots + N' ≤ R.slots) (hdg : decode cc pc = .ok (.newarray atype, 2))
    (kk : ∀ (q : Nat) (H1 : Heap), gGeo (va_up ad n q) (n + 1) base → va_P D cl (gw (va_up ad n q) (va_up en n (.inl (cA, a0))) (n + 1)) H1 → va_S (gA base) H0 H1 locs →
      W p l e R s m args below meth c H1 locs (cells + 1) (slots + N') Q (F0 m (pc + 2) ls (.ref q :: rest))) : W p l e R s m args below meth c H locs cells slots Q (F0 m pc ls (.int k :: rest)) := by
  refine va_newa F.1 F.2.1 (F.2.2.2.2 _ w1) hty hK hP G.D hS (fun q h => Nat.le_trans hB h) ha hn hN hbytes hcells hslots hdg (fun q cB H1 h0 h1 h2 h3 => ?_)
  have hx : (tys ++ [(cB, ty)])[tys.length]? = some (cB, ty) := by simp
  have r1 := (h0.2 _ _ hx).2
  have r2 := (hK.2 _ _ ht).2
  have hcc : cB = cA := by
    cases ty with
    | object B => exact absurd rfl (hprim B)
    | _ => exact Option.some.inj (r1.symm.trans r2)
  subst hcc
  rw [gw_push] at h1 h2
  exact kk q H1 (gGeo.of h2) h1 h3
theorem g_newq (F : CallFix p m c cc nL s args Ts own) (hK : va_K D cl tys s) (G : gGeo ad n base) (hP : va_P D cl (gw ad en n) H) (hS : va_S (gA base) H0 H locs) (hB : base ≤ H0.size) {B : String} (w1 : Cond.classLink own index B ∈ Ts) (hover : va_AO B s) (t0 : Nat) {cA : ClassId} (ht : tys[t0]? = some (cA, .object B))
    {k : Int32} {N' : Nat} (hn : ¬ k < 0) (hN : k.toNatClampNeg = N') (hbytes : N' * 4 ≤ 536870912) (hcells : cells + 1 ≤ R.cells) (hslots : slots + N' ≤ R.slots) (hdg : decode cc pc = .ok (.anewarray index, 3))
    (kk : ∀ (q : Nat) (H1 : Heap), gGeo (va_up ad n q) (n + 1) base → va_P D cl (gw (va_up ad n q) (va_up en n (.inl (cA, N', .inr (.inr (.inr (.inr (fun _ => none))))))) (n + 1)) H1 → va_S (gA base) H0 H1 locs →
      W p l e R s m args below meth c H1 locs (cells + 1) (slots + N') Q (F0 m (pc + 3) ls (.ref q :: rest))) : W p l e R s m args below meth c H locs cells slots Q (F0 m pc ls (.int k :: rest)) := by
  refine va_newq F.1 F.2.1 F.2.2.2.1 (F.2.2.2.2 _ w1) hover hK hP G.D hS (fun q h => Nat.le_trans hB h) hn hN hbytes hcells hslots hdg (fun q cB H1 h0 h1 h2 h3 => ?_)
  have hx : (tys ++ [(cB, .object B)])[tys.length]? = some (cB, FieldType.object B) := by simp
  obtain ⟨_, _, _, _, _, r1⟩ := (h0.2 _ _ hx).2
  obtain ⟨_, _, _, _, _, r2⟩ := (hK.2 _ _ ht).2
  have hcc : cB = cA := Option.some.inj (r1.symm.trans r2)
  subst hcc
  rw [gw_push] at h1 h2
  exact kk q H1 (gGeo.of h2) h1 h3
end GWN
end
