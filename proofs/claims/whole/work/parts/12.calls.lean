/-! Calls in the one world. -/
theorem g_good {w : Cond} (h : w ∈ tws) : GoodIn tws (w :: tws) := fun v hv => by
  rcases List.mem_cons.mp hv with rfl | hv
  · exact ⟨h, good_of_word (tws_good h)⟩
  · exact ⟨hv, good_of_word (tws_good hv)⟩
section GCL
variable {p : Program} {l : Launch} {e : Env} {R : Room} {s : State} {m : MethodId} {args : Array Value} {below : List Frame} {meth : Method} {c : Code} {H : Heap} {locs : List Loc} {cells slots : Nat} {Q : State → Prop}
variable {cc bytes : ByteArray} {pc nL maxL k index mc ms : Nat} {ls : Array Slot} {rest st0 As : List Value} {D : va_G} {cI cZ cT cJ : ClassId} {ad : Nat → Nat} {en : Nat → va_E} {n base : Nat} {own C : String} {y : MethodName} {ret : Option FieldType} {rm : Room} {r : Option Value} {Post : (Nat → va_E) → Prop}
theorem g_blind : FrameBlind (gPc (tw D cI cZ cT cJ base) D cl ad n base en As) := fun a U g mk h => by
  obtain ⟨h0, h1, h2, h3⟩ := h
  exact ⟨h0, h1.calling, h2, h3⟩
theorem g_preS (htw : tw D cI cZ cT cJ base s) (hB : base ≤ s.heap.size) (hS : va_S (gA base) s.heap H locs) (hP : va_P D cl (gw ad en n) H) : PreS s H (gPc (tw D cI cZ cT cJ base) D cl ad n base en As) As :=
  ⟨g_blind, fun U hU hW => ⟨rfl, htw.moved hW (fun q h1 h2 => by rw [hU]; exact hS.2.1 q h1 h2), by rw [hU]; exact Nat.le_trans hB hS.1, by rw [hU]; exact hP⟩⟩
theorem g_recv {tys : List (ClassId × FieldType)} {i ci N : Nat} {T : u_T} {fs : List Value} (hK : va_K D cl tys s) (hP : va_P D cl (gw ad en n) H) (hi : i < n) (he : en i = .inr (ci, fs)) (hc : cl[ci]? = some (C, T, N)) : ∃ cellB : Cell, H[ad i]? = some cellB ∧ cellB.vm.isStatics = false ∧ s.vm.findClass C = some cellB.cls := by
  obtain ⟨r, h1, cell, q1, q2, q3, q4⟩ := hP i (ad i, .inr (ci, fs)) (by rw [gw_at hi, he])
  have hr : r = (C, T, N) := Option.some.inj (h1.symm.trans hc)
  subst hr
  obtain ⟨-, hfc, -⟩ := hK.1 ci _ hc
  exact ⟨cell, q1, by rw [q3]; rfl, by rw [q2]; exact hfc⟩
theorem g_preV {i ci N : Nat} {T : u_T} {fs : List Value} (htw : tw D cI cZ cT cJ base s) (hB : base ≤ s.heap.size) (hS : va_S (gA base) s.heap H locs) (hP : va_P D cl (gw ad en n) H) (hi : i < n) (he : en i = .inr (ci, fs)) (hc : cl[ci]? = some (C, T, N)) : PreV s H C (ad i) (gPc (tw D cI cZ cT cJ base) D cl ad n base en (.ref (ad i) :: As)) As :=
  ⟨g_blind, g_recv htw.1 hP hi he hc, (g_preS (As := .ref (ad i) :: As) htw hB hS hP).2⟩
/-- a static method, called -/
theorem g_S (F : CallFix p m c cc nL s args tws own) (htw : tw D cI cZ cT cJ base s) (hB : base ≤ s.heap.size) (hS : va_S (gA base) s.heap H locs) (hP : va_P D cl (gw ad en n) H)
    (hM : Met l y (Cond.code y bytes maxL ret :: tws) rm (gPc (tw D cI cZ cT cJ base) D cl ad n base en As) (gQc D cl ad n base r Post) mc ms (gA base))
    (w1 : Cond.methodLink own index y ∈ tws) (w2 : Cond.static y ∈ tws) (w3 : Cond.initialized y.cls ∈ tws) (w4 : Cond.code y bytes maxL ret ∈ tws)
    (hd : y.cls ≠ "java/lang/invoke/MethodHandle" ∧ y.cls ≠ "java/lang/invoke/VarHandle" ∧ (parseMethodDescriptor y.desc).map (fun d => d.parameters.length) = some k) (hrc : rm.cells = mc) (hrs : rm.slots = ms) (hR : rm.frames + 1 ≤ R.frames ∧ 8 + (maxL + 11) + rm.locals ≤ R.locals)
    (hn : As.length = k) (hsize : ls.size = nL) (hstack : st0 = As.reverse ++ rest) (hW : (rest.map fun v => v.category).sum ≤ 8) (hdg : decode cc pc = .ok (.invokestatic index, 3)) (hf : cells + mc ≤ R.cells ∧ slots + ms ≤ R.slots)
    (kk : ∀ (en' : Nat → va_E) (H1 : Heap) (locs1 : List Loc), Post en' → va_P D cl (gw ad en' n) H1 → va_S (gA base) s.heap H1 locs1 → W p l e R s m args below meth c H1 locs1 (cells + mc) (slots + ms) Q (F0 m (pc + 3) ls (r.toList ++ rest))) : W p l e R s m args below meth c H locs cells slots Q (F0 m pc ls st0) :=
  g_call (va_runS (As := As) (rest := rest) F hM ⟨callB_of k F.2.2.2.2 (g_good w4) rfl hrc hrs (F.2.2.2.2 _ w3) (F.2.2.2.2 _ w1) hd hR, F.2.2.2.2 _ w2⟩ (g_preS htw hB hS hP) rfl hn hsize hstack (lv_room hW) hdg hf) hS kk
/-- a method of an object, called -/
theorem g_V (F : CallFix p m c cc nL s args tws own) (htw : tw D cI cZ cT cJ base s) (hB : base ≤ s.heap.size) (hS : va_S (gA base) s.heap H locs) (hP : va_P D cl (gw ad en n) H) (i : Nat) (hi : i < n) {ci N : Nat} {T : u_T} {fs : List Value} (he : en i = .inr (ci, fs)) (hc : cl[ci]? = some (y.cls, T, N))
    (hM : Met l y (Cond.code y bytes maxL ret :: tws) rm (gPc (tw D cI cZ cT cJ base) D cl ad n base en (.ref (ad i) :: As)) (gQc D cl ad n base r Post) mc ms (gA base))
    (w1 : Cond.methodLink own index y ∈ tws) (w2 : Cond.instanceMethod y ∈ tws) (w5 : Cond.selects y.cls y y ∈ tws) (w3 : Cond.initialized y.cls ∈ tws) (w4 : Cond.code y bytes maxL ret ∈ tws)
    (hd : y.cls ≠ "java/lang/invoke/MethodHandle" ∧ y.cls ≠ "java/lang/invoke/VarHandle" ∧ (parseMethodDescriptor y.desc).map (fun d => d.parameters.length) = some k) (hrc : rm.cells = mc) (hrs : rm.slots = ms) (hR : rm.frames + 1 ≤ R.frames ∧ 8 + (maxL + 11) + rm.locals ≤ R.locals)
    (hn : As.length = k) (hsize : ls.size = nL) (hstack : st0 = As.reverse ++ .ref (ad i) :: rest) (hW : (rest.map fun v => v.category).sum ≤ 8) (hdg : decode cc pc = .ok (.invokevirtual index, 3)) (hf : cells + mc ≤ R.cells ∧ slots + ms ≤ R.slots)
    (kk : ∀ (en' : Nat → va_E) (H1 : Heap) (locs1 : List Loc), Post en' → va_P D cl (gw ad en' n) H1 → va_S (gA base) s.heap H1 locs1 → W p l e R s m args below meth c H1 locs1 (cells + mc) (slots + ms) Q (F0 m (pc + 3) ls (r.toList ++ rest))) : W p l e R s m args below meth c H locs cells slots Q (F0 m pc ls st0) :=
  g_call (va_runV (As := As) (rest := rest) (C := y.cls) F hM ⟨callB_of k F.2.2.2.2 (g_good w4) rfl hrc hrs (F.2.2.2.2 _ w3) (F.2.2.2.2 _ w1) hd hR, F.2.2.2.2 _ w2, F.2.2.2.2 _ w5⟩ (g_preV htw hB hS hP hi he hc) rfl hn hsize hstack (lv_room hW) hdg hf) hS kk
/-- a static method of a nest mate, called -/
theorem g_SN (F : CallFix p m c cc nL s args tws own) (htw : tw D cI cZ cT cJ base s) (hB : base ≤ s.heap.size) (hS : va_S (gA base) s.heap H locs) (hP : va_P D cl (gw ad en n) H)
    (hM : Met l y (Cond.code y bytes maxL ret :: tws) rm (gPc (tw D cI cZ cT cJ base) D cl ad n base en As) (gQc D cl ad n base r Post) mc ms (gA base))
    (w1 : (own, index, y) ∈ nws) (w2 : Cond.static y ∈ tws) (w3 : Cond.initialized y.cls ∈ tws) (w4 : Cond.code y bytes maxL ret ∈ tws)
    (hd : y.cls ≠ "java/lang/invoke/MethodHandle" ∧ y.cls ≠ "java/lang/invoke/VarHandle" ∧ (parseMethodDescriptor y.desc).map (fun d => d.parameters.length) = some k) (hrc : rm.cells = mc) (hrs : rm.slots = ms) (hR : rm.frames + 1 ≤ R.frames ∧ 8 + (maxL + 11) + rm.locals ≤ R.locals)
    (hn : As.length = k) (hsize : ls.size = nL) (hstack : st0 = As.reverse ++ rest) (hW : (rest.map fun v => v.category).sum ≤ 8) (hdg : decode cc pc = .ok (.invokestatic index, 3)) (hf : cells + mc ≤ R.cells ∧ slots + ms ≤ R.slots)
    (kk : ∀ (en' : Nat → va_E) (H1 : Heap) (locs1 : List Loc), Post en' → va_P D cl (gw ad en' n) H1 → va_S (gA base) s.heap H1 locs1 → W p l e R s m args below meth c H1 locs1 (cells + mc) (slots + ms) Q (F0 m (pc + 3) ls (r.toList ++ rest))) : W p l e R s m args below meth c H locs cells slots Q (F0 m pc ls st0) :=
  g_call (va_runSN (As := As) (rest := rest) (host := "PairedTexts") F hM ⟨va_cnB k F.2.2.2.2 (g_good w4) rfl hrc hrs (htw.2.1 _ w1) (F.2.2.2.2 _ w3) hd hR, F.2.2.2.2 _ w2, trivial⟩ (g_preS htw hB hS hP) rfl hn hsize hstack (lv_room hW) hdg hf) hS kk
variable {xs : List String} {X : String} {kx : Nat}
/-- behind a call that threw: the world, and what is below base, as they were -/
theorem g_Th {x : Nat} {H1 : Heap} (hS : va_S (gA base) s.heap H locs) (hP : va_P D cl (gw ad en n) H) (hTh : tx_Th X s H H1 x) : va_S (gA base) s.heap H1 locs ∧ va_P D cl (gw ad en n) H1 :=
  ⟨⟨Nat.le_trans hS.1 hTh.1.1, fun q h1 h2 => (hTh.1.2 q (Nat.lt_of_lt_of_le h1 hS.1)).trans (hS.2.1 q h1 h2), hS.2.2⟩, fun k q hk => (hP k q hk).kept (hTh.1.2 q.1 (hP k q hk).lt)⟩
/-- a static method that throws, called by one that has no handlers, ere anything was done -/
theorem g_ST0 (F : CallFix p m c cc nL s args tws own) (hlocks : meth.locks = false) (hno : c.exceptionTable.isEmpty = true) (htw : tw D cI cZ cT cJ base s) (hB : base ≤ s.heap.size) (hP : va_P D cl (gw ad en n) s.heap)
    (hM : MetTh l y (Cond.code y bytes maxL ret :: tws) rm (gPc (tw D cI cZ cT cJ base) D cl ad n base en As) X 1 6)
    (w1 : Cond.methodLink own index y ∈ tws) (w2 : Cond.static y ∈ tws) (w3 : Cond.initialized y.cls ∈ tws) (w4 : Cond.code y bytes maxL ret ∈ tws)
    (hd : y.cls ≠ "java/lang/invoke/MethodHandle" ∧ y.cls ≠ "java/lang/invoke/VarHandle" ∧ (parseMethodDescriptor y.desc).map (fun d => d.parameters.length) = some k) (hrc : rm.cells = 1) (hrs : rm.slots = 6) (hR : rm.frames + 1 ≤ R.frames ∧ 8 + (maxL + 11) + rm.locals ≤ R.locals)
    (hn : As.length = k) (hsize : ls.size = nL) (hstack : st0 = As.reverse ++ rest) (hW : (rest.map fun v => v.category).sum ≤ 8) (hdg : decode cc pc = .ok (.invokestatic index, 3)) (hf : 1 ≤ R.cells ∧ 6 ≤ R.slots) :
    W p l e R s m args below meth c s.heap [] 0 0 (TQ below X s 1 6) (F0 m pc ls st0) := by
  refine W.callSTh F hM ⟨callB_of k F.2.2.2.2 (g_good w4) rfl hrc hrs (F.2.2.2.2 _ w3) (F.2.2.2.2 _ w1) hd hR, F.2.2.2.2 _ w2⟩ (g_preS htw hB va_S.rf hP) hn hsize hstack hW hdg ⟨by omega, by omega⟩ (fun x H1 hTh => ?_)
  exact WT.leave hlocks hno rfl rfl rfl hTh.1 hTh.2 (fun q h => by cases h) (Nat.le_refl _) (Nat.le_refl _)
/-- a static method that throws, called by one that has no handlers -/
theorem g_STh (F : CallFix p m c cc nL s args tws own) (hlocks : meth.locks = false) (hno : c.exceptionTable.isEmpty = true) (htw : tw D cI cZ cT cJ base s) (hB : base ≤ s.heap.size) (hS : va_S (gA base) s.heap H locs) (hP : va_P D cl (gw ad en n) H)
    (hM : MetTh l y (Cond.code y bytes maxL ret :: tws) rm (gPc (tw D cI cZ cT cJ base) D cl ad n base en As) X 1 6)
    (w1 : Cond.methodLink own index y ∈ tws) (w2 : Cond.static y ∈ tws) (w3 : Cond.initialized y.cls ∈ tws) (w4 : Cond.code y bytes maxL ret ∈ tws)
    (hd : y.cls ≠ "java/lang/invoke/MethodHandle" ∧ y.cls ≠ "java/lang/invoke/VarHandle" ∧ (parseMethodDescriptor y.desc).map (fun d => d.parameters.length) = some k) (hrc : rm.cells = 1) (hrs : rm.slots = 6) (hR : rm.frames + 1 ≤ R.frames ∧ 8 + (maxL + 11) + rm.locals ≤ R.locals)
    (hn : As.length = k) (hsize : ls.size = nL) (hstack : st0 = As.reverse ++ rest) (hW : (rest.map fun v => v.category).sum ≤ 8) (hdg : decode cc pc = .ok (.invokestatic index, 3)) (hf : 1 ≤ R.cells ∧ 6 ≤ R.slots) (hk : kx ≠ 0) (hX : xs.getD (kx - 1) "" = X) :
    W p l e R s m args below meth c H locs 0 0 (MQX below (gQx D cl ad n base en xs kx r Post) args s 1 6 (gA base)) (F0 m pc ls st0) := by
  refine W.callSTh F hM ⟨callB_of k F.2.2.2.2 (g_good w4) rfl hrc hrs (F.2.2.2.2 _ w3) (F.2.2.2.2 _ w1) hd hR, F.2.2.2.2 _ w2⟩ (g_preS htw hB hS hP) hn hsize hstack hW hdg ⟨by omega, by omega⟩ (fun x H1 hTh => ?_)
  obtain ⟨hS1, hP1⟩ := g_Th hS hP hTh
  obtain ⟨hold, cell, o1, o2, o3⟩ := hTh
  exact WT.leaveX hlocks hno rfl rfl rfl (fun t ht hWt => Or.inr ⟨hk, x, rfl, ⟨cell, by rw [ht]; exact o1, o2, by rw [hWt.alike.findClass, hX]; exact o3⟩, by rw [ht]; exact hP1, hS1.F ht⟩) hS1.2.2
/-- the same, a method of an object -/
theorem g_VTh (F : CallFix p m c cc nL s args tws own) (hlocks : meth.locks = false) (hno : c.exceptionTable.isEmpty = true) (htw : tw D cI cZ cT cJ base s) (hB : base ≤ s.heap.size) (hS : va_S (gA base) s.heap H locs) (hP : va_P D cl (gw ad en n) H) (i : Nat) (hi : i < n) {ci N : Nat} {T : u_T} {fs : List Value} (he : en i = .inr (ci, fs)) (hc : cl[ci]? = some (y.cls, T, N))
    (hM : MetTh l y (Cond.code y bytes maxL ret :: tws) rm (gPc (tw D cI cZ cT cJ base) D cl ad n base en (.ref (ad i) :: As)) X 1 6)
    (w1 : Cond.methodLink own index y ∈ tws) (w2 : Cond.instanceMethod y ∈ tws) (w5 : Cond.selects y.cls y y ∈ tws) (w3 : Cond.initialized y.cls ∈ tws) (w4 : Cond.code y bytes maxL ret ∈ tws)
    (hd : y.cls ≠ "java/lang/invoke/MethodHandle" ∧ y.cls ≠ "java/lang/invoke/VarHandle" ∧ (parseMethodDescriptor y.desc).map (fun d => d.parameters.length) = some k) (hrc : rm.cells = 1) (hrs : rm.slots = 6) (hR : rm.frames + 1 ≤ R.frames ∧ 8 + (maxL + 11) + rm.locals ≤ R.locals)
    (hn : As.length = k) (hsize : ls.size = nL) (hstack : st0 = As.reverse ++ .ref (ad i) :: rest) (hW : (rest.map fun v => v.category).sum ≤ 8) (hdg : decode cc pc = .ok (.invokevirtual index, 3)) (hf : 1 ≤ R.cells ∧ 6 ≤ R.slots) (hk : kx ≠ 0) (hX : xs.getD (kx - 1) "" = X) :
    W p l e R s m args below meth c H locs 0 0 (MQX below (gQx D cl ad n base en xs kx r Post) args s 1 6 (gA base)) (F0 m pc ls st0) := by
  refine W.callVTh (C := y.cls) F hM ⟨callB_of k F.2.2.2.2 (g_good w4) rfl hrc hrs (F.2.2.2.2 _ w3) (F.2.2.2.2 _ w1) hd hR, F.2.2.2.2 _ w2, F.2.2.2.2 _ w5⟩ (g_preV htw hB hS hP hi he hc) hn hsize hstack hW hdg ⟨by omega, by omega⟩ (fun x H1 hTh => ?_)
  obtain ⟨hS1, hP1⟩ := g_Th hS hP hTh
  obtain ⟨hold, cell, o1, o2, o3⟩ := hTh
  exact WT.leaveX hlocks hno rfl rfl rfl (fun t ht hWt => Or.inr ⟨hk, x, rfl, ⟨cell, by rw [ht]; exact o1, o2, by rw [hWt.alike.findClass, hX]; exact o3⟩, by rw [ht]; exact hP1, hS1.F ht⟩) hS1.2.2
end GCL
