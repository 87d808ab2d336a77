/-! Calls of methods that throw; the making of an exception with a text; handlers; methods with handlers. -/
section TXC
variable {p : Program} {l : Launch} {e : Env} {R : Room} {s : State} {m : MethodId} {args : Array Value} {below : List Frame} {meth : Method} {c : Code} {H : Heap} {locs : List Loc} {cells slots : Nat} {Q : State → Prop}
variable {y : MethodName} {bytes cc : ByteArray} {maxL nL n index pc : Nat} {ret : Option FieldType} {ws Ts : List Cond} {rm : Room} {Pc : Array Value → State → Prop} {X own C : String} {mc ms : Nat} {As rest st0 : List Value} {ls : Array Slot} {b : Addr}
/-- what stands behind a call that threw: the old cells as they were, the object thrown -/
def tx_Th (X : String) (s : State) (H H1 : Heap) (x : Nat) : Prop := tx_Old H H1 ∧ ∃ cell : Cell, H1[x]? = some cell ∧ cell.vm.isStatics = false ∧ s.vm.findClass X = some cell.cls
theorem W.callSTh (S : CallFix p m c cc nL s args Ts own) (hM : MetTh l y ws rm Pc X mc ms) (cw : CallB R s args own index y bytes maxL ret ws rm mc ms n ∧ (Cond.static y).before args s = true) (hp : PreS s H Pc As)
    (hn : As.length = n) (hsize : ls.size = nL) (hstack : st0 = As.reverse ++ rest) (hW : (rest.map fun v => v.category).sum ≤ 8) (hdg : decode cc pc = .ok (.invokestatic index, 3)) (hf : cells + mc ≤ R.cells ∧ slots + ms ≤ R.slots)
    (kk : ∀ (x : Nat) (H1 : Heap), tx_Th X s H H1 x → WT p l e R s m args below meth c H1 locs (cells + mc) (slots + ms) Q (F0 m pc ls rest) x) : W p l e R s m args below meth c H locs cells slots Q (F0 m pc ls st0) := by
  obtain ⟨⟨hrc, hrs, hfr, hlo, hws, hcw, hcode, hini, hy, hlen, hl⟩, hstt⟩ := cw
  obtain ⟨hx, hb, hml, ho, -⟩ := S
  subst hstack
  intro T hT S0
  obtain ⟨mk, hnamed⟩ := Cond.code_named hcode
  obtain ⟨methM, cM, hmethM, -, -, -, -, -, -, hsigM⟩ := Cond.code_spec hnamed hcode
  have hstatic : methM.isStatic = true := Cond.static_spec hnamed hmethM hstt
  obtain ⟨kP, hkP, -⟩ := className_of_methodNamed hnamed
  have hinitP : kP.init = .initialized := Cond.initialized_spec (findClass_of_methodNamed hnamed) hkP hini
  have hdg' : decode c.code (F0 m pc ls (As.reverse ++ rest)).pc = .ok (.invokestatic index, 3) := by rw [hb]; exact hdg
  obtain ⟨vm₁, X₁, hstep₁⟩ := S0.invokestatic hx ho hl hnamed hmethM hstatic hkP hinitP hy (g := F0 m pc ls (As.reverse ++ rest)) rfl (argsL := As) (rest := rest) (hn.trans (hlen _ hsigM)) rfl hdg'
  obtain ⟨x, T', X', hold, hobj, hsteps⟩ := tx_back (W0 := 8) (bytes := bytes) (maxL := maxL) (ret := ret) hM hp.1 hrc hrs hfr hlo hws hcw (fun a' U hW => word_at hW (Or.inl (by first | rfl | simp [Cond.onTables, Cond.keeps, Cond.steady])) hini)
    X₁ (g := { F0 m pc ls (As.reverse ++ rest) with stack := rest }) rfl (hsize.trans hml.symm) (ig := .invokestatic index) (len := 3) hdg' (by show 2 * 0 + (rest.map fun v => v.category).sum ≤ 8; omega) (X₁.named hnamed) (a := As.toArray) hf.1 hf.2 (hp.2 (T.setVm vm₁) hT X₁.warmed)
  obtain ⟨cell, o1, o2, o3⟩ := hobj
  have hold' : tx_Old H T'.heap := by
    have h0 : (T.setVm vm₁).heap = H := hT
    rw [h0] at hold
    exact hold
  obtain ⟨t, a1, b1⟩ := kk x T'.heap ⟨hold', cell, o1, o2, by rw [← X'.warmed.alike.findClass]; exact o3⟩ T' rfl X'
  exact ⟨t, hstep₁ _ fun acts => by rw [doInvoke_state]; exact hsteps.trans a1, b1⟩
theorem W.callVTh (S : CallFix p m c cc nL s args Ts own) (hM : MetTh l y ws rm Pc X mc ms) (cw : CallW R s args own C index y bytes maxL ret ws rm mc ms n) (hp : PreV s H C b Pc As)
    (hn : As.length = n) (hsize : ls.size = nL) (hstack : st0 = As.reverse ++ .ref b :: rest) (hW : (rest.map fun v => v.category).sum ≤ 8) (hdg : decode cc pc = .ok (.invokevirtual index, 3)) (hf : cells + mc ≤ R.cells ∧ slots + ms ≤ R.slots)
    (kk : ∀ (x : Nat) (H1 : Heap), tx_Th X s H H1 x → WT p l e R s m args below meth c H1 locs (cells + mc) (slots + ms) Q (F0 m pc ls rest) x) : W p l e R s m args below meth c H locs cells slots Q (F0 m pc ls st0) := by
  obtain ⟨⟨hrc, hrs, hfr, hlo, hws, hcw, hcode, hini, hy, hlen, hl⟩, hinst, hsel⟩ := cw
  obtain ⟨hx, hb, hml, ho, -⟩ := S
  obtain ⟨hblind, ⟨cellB, hcB, hoB, hclB⟩, hPc⟩ := hp
  subst hstack
  intro T hT S0
  obtain ⟨mk, methM, hnamed, hmethM, hstM, habM⟩ := Cond.instanceMethod_spec hinst
  obtain ⟨methM', cM, hmethM', -, -, -, -, -, -, hsigM⟩ := Cond.code_spec hnamed hcode
  cases hmethM.symm.trans hmethM'
  obtain ⟨c2, r2, m2, q1, q2, q3, q4, kP, hkP, hkPi⟩ := Cond.selects_spec hsel
  cases hclB.symm.trans q1
  cases (State.methodFound?_of_named hnamed hy).symm.trans q2
  cases hnamed.symm.trans q3
  have hselP : selectMethod e.platform s.vm cellB.cls mk = .method mk := by rw [Launch.admits_selectMethod S0.admits]; exact q4
  have hdg' : decode c.code (F0 m pc ls (As.reverse ++ .ref b :: rest)).pc = .ok (.invokevirtual index, 3) := by rw [hb]; exact hdg
  obtain ⟨vm₁, X₁, hstep₁⟩ := S0.invokevirtual hx ho hl hnamed hmethM hstM hkP hkPi hy (a := b) (cell := cellB) (by rw [hT]; exact hcB)
    (fun z h => by rw [h] at hoB; cases hoB) hselP hmethM habM hkP hkPi (g := F0 m pc ls (As.reverse ++ .ref b :: rest)) rfl (argsL := As) (rest := rest) (hn.trans (hlen _ hsigM)) rfl hdg'
  obtain ⟨x, T', X', hold, hobj, hsteps⟩ := tx_back (W0 := 8) (bytes := bytes) (maxL := maxL) (ret := ret) hM hblind hrc hrs hfr hlo hws hcw (fun a' U hW => word_at hW (Or.inl (by first | rfl | simp [Cond.onTables, Cond.keeps, Cond.steady])) hini)
    X₁ (g := { F0 m pc ls (As.reverse ++ .ref b :: rest) with stack := rest }) rfl (hsize.trans hml.symm) (ig := .invokevirtual index) (len := 3) hdg' (by show 2 * 0 + (rest.map fun v => v.category).sum ≤ 8; omega) (X₁.named hnamed) (a := (Value.ref b :: As).toArray) hf.1 hf.2 (hPc (T.setVm vm₁) hT X₁.warmed)
  obtain ⟨cell, o1, o2, o3⟩ := hobj
  have hold' : tx_Old H T'.heap := by
    have h0 : (T.setVm vm₁).heap = H := hT
    rw [h0] at hold
    exact hold
  obtain ⟨t, a1, b1⟩ := kk x T'.heap ⟨hold', cell, o1, o2, by rw [← X'.warmed.alike.findClass]; exact o3⟩ T' rfl X'
  exact ⟨t, hstep₁ _ fun acts => by rw [doInvoke_state]; exact hsteps.trans a1, b1⟩
/-- the end of 'throw new X("..")': the constructor and athrow, out of a method without handlers -/
theorem W.throwS (hexec : p.tables.exec = Jvm.exec) (htr : l.stackTraces = false) (hb : c.code = cc) (hlocks : meth.locks = false) (hno : c.exceptionTable.isEmpty = true) {names : List String} {ic : Nat}
    (hown : s.vm.findClass own = some m.cls) (hcls : Bundle.fit X = true) (hnames : ∀ n ∈ names, Bundle.fit n = true) (h : ∀ a ∈ Bundle.ownAtoms own ic X names, a.before args s = true)
    {x : Nat} {cX : ClassId} {kX : Class} (hf : s.vm.findClass X = some cX) (hk : s.vm.classes[cX]? = some kX) (hcell : H[x]? = some (blank cX kX)) (hnew : s.heap.size ≤ x) {q : Nat}
    (hml : c.maxLocals = ls.size) (hd6 : decode cc pc = .ok (.invokespecial ic, 3)) (hd9 : decode cc (pc + 3) = .ok (.athrow, 1))
    (hRf : names.length + 3 < R.frames) (hRl : 1 + (13 * (names.length + 1) + 42) ≤ R.locals) (hcl : cells ≤ mc) (hsl : slots ≤ ms) :
    W p l e R s m args below meth c H [] cells slots (TQ below X s mc ms) (F0 m pc ls [.ref q, .ref x, .ref x]) := by
  intro T hT S
  have hem : ∀ z ∈ c.exceptionTable.toList, covers z (pc + 3) = false := by
    have h0 : c.exceptionTable.size = 0 := by simpa [Array.isEmpty] using hno
    have h1 : c.exceptionTable.toList = [] := List.eq_nil_of_length_eq_zero (by simpa using h0)
    intro z hz
    rw [h1] at hz
    cases hz
  have htr' : e.platform.stackTraces = false := by rw [S.admits.platform]; exact htr
  obtain ⟨U, hst, hrun, hend, hW, hsame, ce, hce, hO⟩ := S.ctorThrowS hexec htr' hown hcls hnames h (fun z hz => by cases hz) hf hk (by rw [hT]; exact hcell) hnew (msg := .ref q) rfl (g := F0 m pc ls [.ref q, .ref x, .ref x]) rfl hml.symm rfl rfl (rest := []) rfl (by rw [hb]; exact hd6) (by rw [hb]; exact hd9) hem hRf (by show 2 * 0 + 1 + _ ≤ _; omega) hlocks
  refine ⟨U, hst, .threw x, hrun, hend, ⟨x, rfl, ⟨ce, hce, by rw [hO.vm]; rfl, ?_⟩, ?_⟩, hW, hsame.mono hcl hsl⟩
  · rw [hW.alike.findClass]; exact hO.cls
  · refine ⟨hsame.2.1, fun z hz => ?_⟩
    have hz2 : s.heap[z]? = some s.heap[z] := Array.getElem?_eq_getElem hz
    rw [hz2]
    exact hsame.old_cell hz2
end TXC
section TXD
variable {e : Env} {s S : State} {f : JFrame} {x : Addr} {cell : Cell}
theorem tx_step {z : ExceptionTableEntry} {t : List ExceptionTableEntry} {k : ClassId} {Q : Handler → Pre} {E : CtlPost} {d : Bool} {acts : List Action} (hz : covers z f.pc = true) (h0 : z.catchType ≠ 0)
    (hl : S.vm.ClassLinks e.platform f.method.cls z.catchType k) (hcell : S.heap[x]? = some cell) (hobj : ∀ k, cell.vm ≠ .statics k) (h1 : ∃ k, S.vm.classes[cell.cls]? = some k) (h2 : ∃ k', S.vm.classes[k]? = some k') :
    wp (findHandler.go f x (z :: t)) Q E e d acts S ↔ if S.vm.assignable cell.cls k = true then Q (.found z.handlerPc) d acts (S.setVm (S.vm.noted f.method.cls z.catchType (.cls k))) else wp (findHandler.go f x t) Q E e d acts (S.setVm (S.vm.noted f.method.cls z.catchType (.cls k))) := by
  simp only [covers] at hz
  obtain ⟨ha, ht⟩ := (resolveClass_links e.toSetting hl).op (op := VmOp.resolveClass f.method.cls z.catchType) rfl
  have hal : S.vm.Alike (S.vm.noted f.method.cls z.catchType (.cls k)) := (Vm.Alike.refl S.vm).noted _ _ _
  obtain ⟨k1, hk1⟩ := h1
  obtain ⟨k2, hk2⟩ := h2
  obtain ⟨k1', hk1', -⟩ := hal.2.2 _ _ hk1
  obtain ⟨k2', hk2', -⟩ := hal.2.2 _ _ hk2
  have hfit : (S.vm.noted f.method.cls z.catchType (.cls k)).assignable cell.cls k = S.vm.assignable cell.cls k := by rw [hal.assignable]
  cases hh : S.vm.assignable cell.cls k <;> rw [hh] at hfit <;> simp [findHandler.go, hz, h0, ha, ht, hcell, hobj, hk1', hk2', hfit, VmOp.dirties, VmOp.acts]
/-- a row of a table of handlers: it links to a class to which objects of the class k can, or can't, be assigned -/
def tx_row (s : State) (args : Array Value) (own : String) (k : ClassId) (z : ExceptionTableEntry) (b : Bool) : Prop :=
  z.catchType ≠ 0 ∧ ∃ (N : String) (cN : ClassId), (Cond.classLink own z.catchType N).before args s = true ∧ s.vm.findClass N = some cN ∧ s.vm.assignable k cN = b
theorem tx_go {args : Array Value} {own : String} (hown : s.vm.findClass own = some f.method.cls) (hpl : e.platform.magicAccessors = ({} : Platform).magicAccessors) (hobj : ∀ k, cell.vm ≠ .statics k) (hk : ∃ k, s.vm.classes[cell.cls]? = some k)
    {r : ExceptionTableEntry} {rest : List ExceptionTableEntry} (hr : covers r f.pc = true) (hyes : tx_row s args own cell.cls r true) :
    ∀ (pre : List ExceptionTableEntry) (S : State), s.WarmedH S.vm → S.heap[x]? = some cell → (∀ z ∈ pre, covers z f.pc = true ∧ tx_row s args own cell.cls z false) →
      ∃ vm', s.WarmedH vm' ∧ ∀ (Q : Handler → Pre) (E : CtlPost) (d : Bool) (acts : List Action), wp (findHandler.go f x (pre ++ r :: rest)) Q E e d acts S ↔ Q (.found r.handlerPc) d acts (S.setVm vm') := by
  have one : ∀ (z : ExceptionTableEntry) (b : Bool), tx_row s args own cell.cls z b → ∃ k, s.vm.ClassLinks e.platform f.method.cls z.catchType k ∧ (∃ k', s.vm.classes[k]? = some k') ∧ s.vm.assignable cell.cls k = b := by
    intro z b ⟨_, N, cN, h1, h2, h3⟩
    obtain ⟨k, hk1, hk2⟩ := Cond.classLink_spec hown h1 e.platform hpl
    cases h2.symm.trans hk1
    exact ⟨cN, hk2, Vm.classAt_of_findClass h2, h3⟩
  have warm : ∀ (z : ExceptionTableEntry) (b : Bool) (S : State), tx_row s args own cell.cls z b → s.WarmedH S.vm → ∃ k, S.vm.ClassLinks e.platform f.method.cls z.catchType k ∧ (∃ k', S.vm.classes[k]? = some k') ∧ S.vm.assignable cell.cls k = b ∧ s.WarmedH (S.vm.noted f.method.cls z.catchType (.cls k)) := by
    intro z b S hz hW
    obtain ⟨k, a1, ⟨a2, a3⟩, a4⟩ := one z b hz
    obtain ⟨_, _, _, _, hd, _, _, _, _, _, _, hopen⟩ := a1.here
    obtain ⟨k', b2, -⟩ := hW.alike.2.2 _ _ a3
    exact ⟨k, hW.classLinks a1, ⟨k', b2⟩, by rw [hW.alike.assignable]; exact a4, hW.noted hd hopen (State.rightAt_cls a1)⟩
  obtain ⟨k0, hk0⟩ := hk
  intro pre
  induction pre with
  | nil =>
    intro S hW hcell _
    obtain ⟨k0', hk0', -⟩ := hW.alike.2.2 _ _ hk0
    obtain ⟨k, a1, a2, a3, a4⟩ := warm r true S hyes hW
    exact ⟨_, a4, fun Q E d acts => by rw [List.nil_append, tx_step hr hyes.1 a1 hcell hobj ⟨k0', hk0'⟩ a2, if_pos a3]⟩
  | cons z t ih =>
    intro S hW hcell hpass
    obtain ⟨k0', hk0', -⟩ := hW.alike.2.2 _ _ hk0
    obtain ⟨hz, hzr⟩ := hpass z List.mem_cons_self
    obtain ⟨k, a1, a2, a3, a4⟩ := warm z false S hzr hW
    obtain ⟨vm', b1, b2⟩ := ih (S.setVm (S.vm.noted f.method.cls z.catchType (.cls k))) a4 hcell (fun u hu => hpass u (List.mem_cons_of_mem _ hu))
    exact ⟨vm', b1, fun Q E d acts => by rw [List.cons_append, tx_step hz hzr.1 a1 hcell hobj ⟨k0', hk0'⟩ a2, if_neg (by rw [a3]; decide)]; exact b2 Q E d acts⟩
/-- into a handler -/
theorem tx_caught {tb : Tables} {target : State} {g : JFrame} {c : Code} {below : List Frame} (h : At S g.method c below) {pc : Nat} {vm' : Vm}
    (hfind : ∀ (Q : Handler → Pre) (E : CtlPost) (d : Bool) (acts : List Action), wp (findHandler g x) Q E e d acts ((S.setTop g).pushFrame (.throwing x)) ↔ Q (.found pc) d acts (((S.setTop g).pushFrame (.throwing x)).setVm vm'))
    (hrest : Steps tb e below ((S.setVm vm').setTop { g with pc := pc, stack := [.ref x] }) target) : Steps tb e below ((S.setTop g).pushFrame (.throwing x)) target := by
  obtain ⟨hgo, hw⟩ := h.throwing x
  refine Steps.head hgo hw ?_
  have key : (stepThrowing e ((S.setTop g).pushFrame (.throwing x)) x (.java g :: S.frames.tail)).1 = (((S.setTop g).pushFrame (.throwing x)).setVm vm').setFrames (.java { g with pc := pc, stack := [.ref x] } :: S.frames.tail) := by
    simp only [stepThrowing, searchFrame, vmDo]
    generalize hr : Sem.go _ e false [] ((S.setTop g).pushFrame (.throwing x)) = res
    obtain ⟨as, rfl, ha⟩ := Sem.eq_ok_of hr (a := Handler.found pc) (s' := ((S.setTop g).pushFrame (.throwing x)).setVm vm') (acts' := []) (by simp [hfind _ _ _ _])
    rfl
  rw [stepThread_throwing (frames_entered h.top _), key]
  obtain ⟨g₀, hg⟩ := Option.isSome_iff_exists.mp h.top
  obtain ⟨r, hr⟩ := State.topJava?_eq_some.mp hg
  have hr' : (S.setVm vm').frames = .java g₀ :: r := hr
  rw [State.setTop_of_frames _ hr'] at hrest
  have e1 : (((S.setTop g).pushFrame (.throwing x)).setVm vm').setFrames (.java { g with pc := pc, stack := [.ref x] } :: S.frames.tail) = (S.setVm vm').setFrames (.java { g with pc := pc, stack := [.ref x] } :: r) := by
    rw [State.pushFrame, State.setTop_of_frames _ hr, State.setFrames_setFrames, hr]
    show ((S.setVm vm').setFrames _).setFrames _ = _
    rw [State.setFrames_setFrames]
    rfl
  rw [e1]
  exact hrest
end TXD
section TXE
variable {p : Program} {l : Launch} {e : Env} {R : Room} {s : State} {m : MethodId} {args : Array Value} {below : List Frame} {meth : Method} {c : Code} {H : Heap} {locs : List Loc} {cells slots : Nat} {Q : State → Prop}
theorem WT.catch {own : String} {ls : Array Slot} {pc : Nat} {st : List Value} {x : Nat} {cell : Cell} (hown : s.vm.findClass own = some m.cls) (hcell : H[x]? = some cell) (hobj : cell.vm.isStatics = false) (hk : ∃ k, s.vm.classes[cell.cls]? = some k)
    (pre rest : List ExceptionTableEntry) (r : ExceptionTableEntry) (hsplit : c.exceptionTable.toList = pre ++ r :: rest) (hpre : ∀ z ∈ pre, covers z pc = true ∧ tx_row s args own cell.cls z false) (hr : covers r pc = true) (hyes : tx_row s args own cell.cls r true)
    (k : W p l e R s m args below meth c H locs cells slots Q (F0 m r.handlerPc ls [.ref x])) : WT p l e R s m args below meth c H locs cells slots Q (F0 m pc ls st) x := by
  intro T hT S
  have hpl : e.platform.magicAccessors = ({} : Platform).magicAccessors := by rw [S.admits.platform]
  have hvm : (((T.setTop (F0 m pc ls st)).pushFrame (.throwing x))).vm = T.vm := Stand.throwing_vm T _ x
  have hheap : (((T.setTop (F0 m pc ls st)).pushFrame (.throwing x))).heap = T.heap := Stand.throwing_heap T _ x
  obtain ⟨vm', hW', hf⟩ := tx_go (e := e) (s := s) (f := F0 m pc ls st) (x := x) (cell := cell) (args := args) (own := own) hown hpl (VmData.ne_statics_of hobj) hk (rest := rest) hr hyes pre ((T.setTop (F0 m pc ls st)).pushFrame (.throwing x)) (by rw [hvm]; exact S.warmed) (by rw [hheap, hT]; exact hcell) hpre
  obtain ⟨t, a1, b1⟩ := k (T.setVm vm') hT (S.noted hW')
  refine ⟨t, tx_caught (vm' := vm') (pc := r.handlerPc) (g := F0 m pc ls st) S.here (fun Q E d acts => ?_) a1, b1⟩
  rw [W.findHandler_eq (by rw [hvm]; exact S.method') S.code, hsplit]
  exact hf Q E d acts
/-- a contract of a method with handlers, out of its walk -/
theorem Met.ofWH {y : MethodName} {ws ws' : List Cond} {rm : Room} {Pc : Array Value → State → Prop} {Qc : Array Value → State → Outcome → State → Prop} {mc ms : Nat} {free : Addr → Prop} {cc : ByteArray} {maxL : Nat} {ret : Option FieldType} {hs : List (Nat × Nat × Nat × Nat)}
    (hy : plainName y.cls = true) (hw : ws = Cond.codeWith y cc maxL ret hs :: ws')
    (body : ∀ p e s m args below meth c s₁, BodyLoose p l y (headSpec ws rm) cc maxL ret e s m args below meth c s₁ → c.maxLocals = maxL → c.exceptionTable.toList = tableOf hs → Pc args s →
      W p l e (headSpec ws rm).room s m args below meth c s.heap [] 0 0 (MQ below Qc args s mc ms free) (entryFrame m args maxL)) : Met l y ws rm Pc Qc mc ms free := by
  refine MetFree.of_bodyS (code := cc) (maxLocals := maxL) (ret := ret) hy ?_ ?_
  · intro args s m h hn
    obtain ⟨m', meth, c, h0, h1, h2, h3, h4, -, h5, h6, -⟩ := Cond.codeWith_spec (atoms_spec (ws := ws) h _ (by rw [hw]; exact List.mem_cons_self))
    cases hn.symm.trans h0
    exact ⟨meth, c, h1, h2, h3, h4, h5, h6⟩
  · intro p e s m args below meth c s₁ B hml hP _
    have hh0 : s₁.heap = s.heap := by rw [B.state]; rfl
    have htab : c.exceptionTable.toList = tableOf hs := by
      obtain ⟨m', meth', c', h0, h1, h2, -, -, h5, -⟩ := Cond.codeWith_spec (atoms_spec (ws := ws) B.pre _ (by rw [hw]; exact List.mem_cons_self))
      cases B.named.symm.trans h0
      cases B.method.symm.trans h1
      cases (Stand.of_body B).code.symm.trans h2
      rw [← h5, table_eq]
    obtain ⟨t, a1, o, b1, b2, b3⟩ := body p e s m args below meth c s₁ B hml htab hP s₁ hh0 (Stand.of_body B)
    exact ⟨t, o, a1, b1, b2, ⟨b3.1, b3.2⟩⟩
end TXE
