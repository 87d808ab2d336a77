/-! Calls of methods that return or throw, by a method that has handlers. -/
section TXX
variable {p : Program} {l : Launch} {e : Env} {R : Room} {s : State} {m : MethodId} {args : Array Value} {below : List Frame} {meth : Method} {c : Code} {locs : List Loc} {cells slots : Nat}
variable {y : MethodName} {bytes : ByteArray} {maxL : Nat} {ret : Option FieldType} {ws : List Cond} {rm : Room} {Pc : Array Value → State → Prop} {Qc : Array Value → State → Outcome → State → Prop} {free : Addr → Prop} {mc ms W0 : Nat}
/-- a method that throws here, called: the exception lies over the caller's frame -/
theorem tx_backX (hM : MetX l y ws rm Pc Qc mc ms free) (hth : ∀ a st o t, Qc a st o t → ∃ x, o = .threw x) (hblind : FrameBlind Pc) (hrc : rm.cells = mc) (hrs : rm.slots = ms)
    (hframes : rm.frames + 1 ≤ R.frames) (hlocals : W0 + (maxL + 11) + rm.locals ≤ R.locals)
    (hws : ∀ w ∈ ws, ∀ (a' : Array Value) (U : State), s.WarmedH U.vm → w.before a' U = true) (hcode : Cond.code y bytes maxL ret ∈ ws) (hinit : ∀ (a' : Array Value) (U : State), s.WarmedH U.vm → (Cond.initialized y.cls).before a' U = true)
    {U : State} (S : Stand p l e R s m args below meth c U locs cells slots) {g : JFrame} (hg : g.method = m) (hsize : g.locals.size = c.maxLocals) {ig : Instr} {len : Nat} (hdg : decode c.code g.pc = .ok (ig, len))
    (hW : 2 * g.monitorRoom + (g.stack.map fun v => v.category).sum ≤ W0) {mk : MethodId} (hn : U.methodNamed? y = some mk) {a : Array Value} (hcl : cells + mc ≤ R.cells) (hsl : slots + ms ≤ R.slots) (hP : Pc a U) :
    ∃ (x : Nat) (T' : State) (L : List Loc), Stand p l e R s m args below meth c T' (locs ++ L) (cells + mc) (slots + ms) ∧ (∀ q ∈ L, free q.base) ∧ (∃ t : State, t.heap = T'.heap ∧ t.vm = T'.vm ∧ Qc a (U.calling g mk a) (.threw x) t) ∧
      Steps p.tables e below (doInvoke e (U.setTop g) [] mk a).1 ((T'.setTop g).pushFrame (.throwing x)) := by
  obtain ⟨methY, cY, hmY, hcY, -, hlY, -, -, -, -⟩ := Cond.code_spec hn (hws _ hcode a U S.warmed)
  obtain ⟨kY, hkY, -⟩ := className_of_methodNamed hn
  have hinitY : kY.init = .initialized := Cond.initialized_spec (findClass_of_methodNamed hn) hkY (hinit a U S.warmed)
  have h : At U g.method c below := by rw [hg]; exact S.here
  have happ : (headSpec ws rm).appliesLoose y e.platform (U.calling g mk a) = true :=
    Spec.appliesLoose_calling (g := g) h hdg hn hkY hinitY
      (S.room_calling (g := g) (R' := (headSpec ws rm).room) hsize hmY hcY hframes (by rw [hlY]; show _ + _ + _ + rm.locals ≤ _; omega) (by show cells + rm.cells ≤ _; rw [hrc]; exact hcl) (by show slots + rm.slots ≤ _; rw [hrs]; exact hsl)) (atoms_intro fun w hw => hws w hw _ _ S.warmed)
  obtain ⟨mid, hmid⟩ := h.above
  have hfr : (U.setTop g).frames = (.java g :: mid) ++ below := by rw [State.frames_setTop' g h.top, hmid]; rfl
  obtain ⟨o, s₂, hsteps, -, hend, hq⟩ := Steps.callFree hM p S.admits S.cas S.clock (acts := []) hfr happ (hblind _ _ _ _ hP) trivial
  have hq' : Qc a (U.calling g mk a) o s₂ ∧ ∃ L, tx_FE (U.calling g mk a) s₂ L mc ms ∧ ∀ q ∈ L, free q.base := hq
  obtain ⟨hqc, L, ⟨hW₂, e2, q2, q3, q4, q5, q6⟩, hL⟩ := hq'
  obtain ⟨x, rfl⟩ := hth _ _ _ _ hqc
  rw [State.frames_setTop' g h.top] at hend
  have hf₂ : s₂.frames = .throwing x :: .java g :: U.frames.tail := hend
  have hW' : U.WarmedH s₂.vm := hW₂
  have e3 : s₂ = ({ (U.calling g mk a).setFrames s₂.frames with heap := s₂.heap, slotsUsed := s₂.slotsUsed } : State).setVm s₂.vm := by
    have : s₂ = ({ s₂ with vm := (U.calling g mk a).vm } : State).setVm s₂.vm := rfl
    rw [e2] at this
    exact this
  obtain ⟨g₀, hg0⟩ := Option.isSome_iff_exists.mp h.top
  obtain ⟨r, hr⟩ := State.topJava?_eq_some.mp hg0
  have hr' : (({ U with heap := s₂.heap, slotsUsed := s₂.slotsUsed } : State).setVm s₂.vm).frames = .java g₀ :: r := hr
  have hcur : (({ U with heap := s₂.heap, slotsUsed := s₂.slotsUsed } : State).setVm s₂.vm).cur < (({ U with heap := s₂.heap, slotsUsed := s₂.slotsUsed } : State).setVm s₂.vm).threads.size := State.cur_lt_of_frames hr'
  have hs₂ : s₂ = ((({ U with heap := s₂.heap, slotsUsed := s₂.slotsUsed } : State).setVm s₂.vm).setTop g).pushFrame (.throwing x) := by
    refine e3.trans ?_
    rw [State.setTop_of_frames _ hr', State.pushFrame, State.frames_setFrames _ hcur, State.setFrames_setFrames, hf₂, State.calling_eq h.top, State.setFrames_setFrames, hr]
    rfl
  have hsame : U.sameButNew ({ U with heap := s₂.heap, slotsUsed := s₂.slotsUsed } : State) L mc ms := by
    refine ⟨?_, q2, q3, q4, q5, q6⟩
    obtain ⟨t, ht, -⟩ := State.frames_cons hr
    show ({ U with heap := s₂.heap, slotsUsed := s₂.slotsUsed } : State) = { U.setFrames U.frames with heap := s₂.heap, slotsUsed := s₂.slotsUsed }
    rw [State.setFrames_self ht]
  subst hg
  have hst := S.same.trans (hsame.setVm s.vm)
  refine ⟨x, (({ U with heap := s₂.heap, slotsUsed := s₂.slotsUsed } : State).setVm s₂.vm), L,
    ⟨S.admits, S.cas, S.clock, S.frames, S.room, S.hears, S.method, S.code, (S.here.setHeapUsed s₂.heap s₂.slotsUsed).setVm hW'.alike, S.tail, State.WarmedH.trans S.warmed hW', S.limits, S.bytes, hst⟩, hL, ⟨s₂, rfl, rfl, hqc⟩, ?_⟩
  rw [← hs₂]
  exact hsteps
end TXX
section TXY
variable {p : Program} {l : Launch} {e : Env} {R : Room} {s : State} {m : MethodId} {args : Array Value} {below : List Frame} {meth : Method} {c : Code} {H : Heap} {locs : List Loc} {cells slots : Nat} {Q : State → Prop}
variable {y : MethodName} {bytes cc : ByteArray} {maxL nL n index pc : Nat} {ret : Option FieldType} {ws Ts : List Cond} {rm : Room} {Pc : Array Value → State → Prop} {Qc : Array Value → State → Outcome → State → Prop} {free : Addr → Prop} {own C : String} {mc ms : Nat} {As rest st0 : List Value} {ls : Array Slot} {b : Addr}
theorem W.callVX (S : CallFix p m c cc nL s args Ts own) (hM : MetX l y ws rm Pc Qc mc ms free) (hth : ∀ a st o t, Qc a st o t → ∃ x, o = .threw x) (cw : CallW R s args own C index y bytes maxL ret ws rm mc ms n) (hp : PreV s H C b Pc As)
    (hn : As.length = n) (hsize : ls.size = nL) (hstack : st0 = As.reverse ++ .ref b :: rest) (hW : (rest.map fun v => v.category).sum ≤ 8) (hdg : decode cc pc = .ok (.invokevirtual index, 3)) (hf : cells + mc ≤ R.cells ∧ slots + ms ≤ R.slots)
    (kk : ∀ (x : Nat) (H1 : Heap) (L : List Loc) (st t : State), st.heap = H → t.heap = H1 → s.WarmedH t.vm → (∀ q ∈ L, free q.base) → Qc (Value.ref b :: As).toArray st (.threw x) t → WT p l e R s m args below meth c H1 (locs ++ L) (cells + mc) (slots + ms) Q (F0 m pc ls rest) x) : W p l e R s m args below meth c H locs cells slots Q (F0 m pc ls st0) := by
  obtain ⟨⟨hrc, hrs, hfr, hlo, hws, hcw, hcode, hini, hy, hlen, hl⟩, hinst, hsel⟩ := cw
  obtain ⟨hx, hb, hml, ho, -⟩ := S
  obtain ⟨hblind, ⟨cellB, hcB, hoB, hclB⟩, hPc⟩ := hp
  subst hstack
  intro T hT S0
  obtain ⟨mk, methM, hnamed, hmethM, hstM, habM⟩ := Cond.instanceMethod_spec hinst
  obtain ⟨methM', cM, hmethM', -, -, -, -, -, -, hsigM⟩ := Cond.code_spec hnamed hcode
  cases hmethM.symm.trans hmethM'
  obtain ⟨c2, r2, m2, q1, q2, q3, q4, kP, hkP, hkPi⟩ := Cond.selects_spec hsel
  cases hclB.symm.trans q1
  cases (State.methodFound?_of_named hnamed hy).symm.trans q2
  cases hnamed.symm.trans q3
  have hselP : selectMethod e.platform s.vm cellB.cls mk = .method mk := by rw [Launch.admits_selectMethod S0.admits]; exact q4
  have hdg' : decode c.code (F0 m pc ls (As.reverse ++ .ref b :: rest)).pc = .ok (.invokevirtual index, 3) := by rw [hb]; exact hdg
  obtain ⟨vm₁, X₁, hstep₁⟩ := S0.invokevirtual hx ho hl hnamed hmethM hstM hkP hkPi hy (a := b) (cell := cellB) (by rw [hT]; exact hcB)
    (fun z h => by rw [h] at hoB; cases hoB) hselP hmethM habM hkP hkPi (g := F0 m pc ls (As.reverse ++ .ref b :: rest)) rfl (argsL := As) (rest := rest) (hn.trans (hlen _ hsigM)) rfl hdg'
  obtain ⟨x, T', L, X', hL, ⟨t0, ht1, ht2, hqc⟩, hsteps⟩ := tx_backX (W0 := 8) (bytes := bytes) (maxL := maxL) (ret := ret) hM hth hblind hrc hrs hfr hlo hws hcw (fun a' U hW => word_at hW (Or.inl (by first | rfl | simp [Cond.onTables, Cond.keeps, Cond.steady])) hini)
    X₁ (g := { F0 m pc ls (As.reverse ++ .ref b :: rest) with stack := rest }) rfl (hsize.trans hml.symm) (ig := .invokevirtual index) (len := 3) hdg' (by show 2 * 0 + (rest.map fun v => v.category).sum ≤ 8; omega) (X₁.named hnamed) (a := (Value.ref b :: As).toArray) hf.1 hf.2 (hPc (T.setVm vm₁) hT X₁.warmed)
  obtain ⟨t, a1, b1⟩ := kk x T'.heap L _ t0 (show (State.calling (T.setVm vm₁) { F0 m pc ls (As.reverse ++ .ref b :: rest) with stack := rest } mk (Value.ref b :: As).toArray).heap = H from hT) ht1 (by rw [ht2]; exact X'.warmed) hL hqc T' rfl X'
  exact ⟨t, hstep₁ _ fun acts => by rw [doInvoke_state]; exact hsteps.trans a1, b1⟩
end TXY
theorem gX_met {l : Launch} {y : MethodName} {ws : List Cond} {rm : Room} {Pc : Array Value → State → Prop} {D : va_G} {ad : Nat → Nat} {n base mc ms k : Nat} {e0 : Nat → va_E} {xs : List String} {r : Option Value} {Post : (Nat → va_E) → Prop} {free : Addr → Prop}
    (hM : MetX l y ws rm Pc (gQx D cl ad n base e0 xs k r Post) mc ms free) (hk : k = 0) : Met l y ws rm Pc (gQc D cl ad n base r Post) mc ms free :=
  hM.toMet (fun a st o t h => by
    rcases h with h | h
    · exact h.2
    · exact absurd hk h.1) (fun a st o t h => by
    rcases h with h | h
    · exact ⟨_, h.2.1⟩
    · exact absurd hk h.1)
section GCX
variable {p : Program} {l : Launch} {e : Env} {R : Room} {s : State} {m : MethodId} {args : Array Value} {below : List Frame} {meth : Method} {c : Code} {H : Heap} {locs : List Loc} {cells slots : Nat} {Q : State → Prop}
variable {cc bytes : ByteArray} {pc nL maxL k index : Nat} {ls : Array Slot} {rest st0 As : List Value} {D : va_G} {cI cZ cT cJ : ClassId} {ad : Nat → Nat} {en : Nat → va_E} {n base : Nat} {own : String} {y : MethodName} {ret : Option FieldType} {rm : Room} {r : Option Value} {Post : (Nat → va_E) → Prop} {xs : List String} {kx : Nat}
/-- a method of an object that throws here, called by one that has handlers -/
theorem g_VX (F : CallFix p m c cc nL s args tws own) (htw : tw D cI cZ cT cJ base s) (hB : base ≤ s.heap.size) (hS : va_S (gA base) s.heap H locs) (hP : va_P D cl (gw ad en n) H) (i : Nat) (hi : i < n) {ci N : Nat} {T : u_T} {fs : List Value} (he : en i = .inr (ci, fs)) (hc : cl[ci]? = some (y.cls, T, N))
    (hM : MetX l y (Cond.code y bytes maxL ret :: tws) rm (gPc (tw D cI cZ cT cJ base) D cl ad n base en (.ref (ad i) :: As)) (gQx D cl ad n base en xs kx r Post) 1 6 (gA base)) (hk : kx ≠ 0)
    (w1 : Cond.methodLink own index y ∈ tws) (w2 : Cond.instanceMethod y ∈ tws) (w5 : Cond.selects y.cls y y ∈ tws) (w3 : Cond.initialized y.cls ∈ tws) (w4 : Cond.code y bytes maxL ret ∈ tws)
    (hd : y.cls ≠ "java/lang/invoke/MethodHandle" ∧ y.cls ≠ "java/lang/invoke/VarHandle" ∧ (parseMethodDescriptor y.desc).map (fun d => d.parameters.length) = some k) (hrc : rm.cells = 1) (hrs : rm.slots = 6) (hR : rm.frames + 1 ≤ R.frames ∧ 8 + (maxL + 11) + rm.locals ≤ R.locals)
    (hn : As.length = k) (hsize : ls.size = nL) (hstack : st0 = As.reverse ++ .ref (ad i) :: rest) (hW : (rest.map fun v => v.category).sum ≤ 8) (hdg : decode cc pc = .ok (.invokevirtual index, 3)) (hf : cells + 1 ≤ R.cells ∧ slots + 6 ≤ R.slots)
    (kk : ∀ (x : Nat) (H1 : Heap) (locs1 : List Loc), (∃ cell : Cell, H1[x]? = some cell ∧ cell.vm.isStatics = false ∧ s.vm.findClass (xs.getD (kx - 1) "") = some cell.cls) → va_P D cl (gw ad en n) H1 → va_S (gA base) s.heap H1 locs1 → WT p l e R s m args below meth c H1 locs1 (cells + 1) (slots + 6) Q (F0 m pc ls rest) x) :
    W p l e R s m args below meth c H locs cells slots Q (F0 m pc ls st0) := by
  refine W.callVX (C := y.cls) F hM (fun a st o t h => ?_) ⟨callB_of k F.2.2.2.2 (g_good w4) rfl hrc hrs (F.2.2.2.2 _ w3) (F.2.2.2.2 _ w1) hd hR, F.2.2.2.2 _ w2, F.2.2.2.2 _ w5⟩ (g_preV htw hB hS hP hi he hc) hn hsize hstack hW hdg hf (fun x H1 L st t hst ht hWt hL hq => ?_)
  · rcases h with h | h
    · exact absurd h.1 hk
    · exact ⟨_, h.2.choose_spec.1⟩
  · rcases hq with h | ⟨-, x', hx', ⟨cell, o1, o2, o3⟩, hP1, hz, hkp⟩
    · exact absurd h.1 hk
    · cases hx'
      subst ht
      rw [hst] at hz hkp
      exact kk x _ _ ⟨cell, o1, o2, by rw [← hWt.alike.findClass]; exact o3⟩ hP1 ⟨Nat.le_trans hS.1 hz, fun q h1 h2 => by rw [hkp q (Nat.lt_of_lt_of_le h1 hS.1) h2]; exact hS.2.1 q h1 h2, fun q hq => by
        rcases List.mem_append.mp hq with h | h
        · exact hS.2.2 q h
        · exact hL q h⟩
/-- rows of a table of handlers -/
theorem tx_rY {X : String} {k0 : ClassId} {z : ExceptionTableEntry} (F : CallFix p m c cc nL s args tws own) (h0 : z.catchType ≠ 0) (hl : Cond.classLink own z.catchType X ∈ tws) (hX : s.vm.findClass X = some k0) : tx_row s args own k0 z true :=
  ⟨h0, X, k0, F.2.2.2.2 _ hl, hX, va_asg _ _⟩
theorem tx_rN {k0 : ClassId} {z : ExceptionTableEntry} (F : CallFix p m c cc nL s args tws own) (htw : tw D cI cZ cT cJ base s) (i j : Nat) (hi : i < 4) (hj : j < 4) (hij : i ≠ j) (h0 : z.catchType ≠ 0) (hl : Cond.classLink own z.catchType (xN j) ∈ tws) (hX : s.vm.findClass (xN i) = some k0) : tx_row s args own k0 z false := by
  obtain ⟨ci, cj, a1, a2, a3⟩ := htw.2.2.2.2.2.2.2 i j hi hj hij
  cases hX.symm.trans a1
  exact ⟨h0, xN j, cj, F.2.2.2.2 _ hl, a2, a3⟩
end GCX
