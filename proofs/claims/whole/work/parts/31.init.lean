/-! The making of the objects. -/
theorem va_up_up {α : Type} (f : Nat → α) (k : Nat) (x y : α) : va_up (va_up f k x) k y = va_up f k y := by
  funext j
  unfold va_up
  by_cases h : j = k <;> simp [h]
theorem arr_q {c : ClassId} {n : Nat} {f g : Nat → Option Nat} (h : ∀ j, j < n → f j = g j) : vp_cell c (n, .inr (.inr (.inr (.inr f)))) = vp_cell c (n, .inr (.inr (.inr (.inr g)))) := by
  rw [vp_cell_q, vp_cell_q]
  unfold arrV
  congr 2
  funext j
  show va_rf (f j.val) = va_rf (g j.val)
  rw [h j.val j.isLt]
/-- an array of references, said otherwise -/
theorem P_q {D : va_G} {cl : List vw_C} {ad : Nat → Nat} {en : Nat → va_E} {n i k : Nat} {c : ClassId} {f g : Nat → Option Nat} {H : Heap} (hP : va_P D cl (gw ad en n) H) (he : en i = .inl (c, k, .inr (.inr (.inr (.inr f))))) (hi : i < n) (h : ∀ j, j < k → f j = g j) : va_P D cl (gw ad (va_up en i (.inl (c, k, .inr (.inr (.inr (.inr g)))))) n) H := by
  intro j q hq
  by_cases hj : j < n
  · rw [gw_at hj] at hq
    cases hq
    have h0 := hP j _ (gw_at hj)
    by_cases e : j = i
    · subst e
      rw [he] at h0
      rw [va_up_self]
      have h1 : H[ad j]? = some (vp_cell c (k, .inr (.inr (.inr (.inr f))))) := h0
      rw [arr_q h] at h1
      exact h1
    · rw [va_up_ne _ _ e]; exact h0
  · rw [gw_none hj] at hq; cases hq
def gQn (base : Nat) (Post : Heap → Prop) : Array Value → State → Outcome → State → Prop := fun _ st o t => o = .returned none ∧ Post t.heap ∧ va_F (gA base) st t
section GIN
variable {p : Program} {l : Launch} {e : Env} {R : Room} {s : State} {m : MethodId} {args : Array Value} {below : List Frame} {meth : Method} {c : Code} {H : Heap} {locs : List Loc} {cells slots : Nat} {Q : State → Prop}
variable {cc bytes : ByteArray} {pc nL maxL index mc ms : Nat} {ls : Array Slot} {rest st0 : List Value} {D : va_G} {cI cZ cT cJ : ClassId} {H0 : Heap} {ad : Nat → Nat} {en : Nat → va_E} {n base b : Nat} {own C : String} {y : MethodName} {rm : Room} {Post : Heap → Prop} {a : Array Value} {T : u_T} {N ci : Nat}
theorem g_callN (hr : va_Run p l e R s m args below meth c H locs cells slots mc ms (F0 m pc ls st0) rest (gQn base Post a) (gA base)) (hS : va_S (gA base) H0 H locs)
    (kk : ∀ (H1 : Heap) (locs1 : List Loc), Post H1 → va_S (gA base) H0 H1 locs1 → W p l e R s m args below meth c H1 locs1 (cells + mc) (slots + ms) Q (F0 m (pc + 3) ls rest)) : W p l e R s m args below meth c H locs cells slots Q (F0 m pc ls st0) := by
  intro T hT X
  obtain ⟨v, st₀, t, T', L, h0, X', hL, e1, e2, ⟨hv, hp, hz, hk⟩, st⟩ := hr T hT X
  cases hv
  rw [h0] at hz hk
  obtain ⟨t2, a1, b1⟩ := kk T'.heap (locs ++ L) (by rw [e1]; exact hp)
    ⟨Nat.le_trans hS.1 (by rw [e1]; exact hz), fun q h1 h2 => by rw [e1, hk q (Nat.lt_of_lt_of_le h1 hS.1) h2]; exact hS.2.1 q h1 h2, fun q hq => by
      rcases List.mem_append.mp hq with h | h
      · exact hS.2.2 q h
      · exact hL q h⟩ T' rfl X'
  exact ⟨t2, st t2 a1, b1⟩
/-- a constructor of a nest mate, called -/
theorem g_IN (F : CallFix p m c cc nL s args tws own) (htw : tw D cI cZ cT cJ base s) (hB : base ≤ s.heap.size) (hS : va_S (gA base) s.heap H locs) (hP : va_P D cl (gw ad en n) H)
    (hM : Met l y (Cond.code y bytes maxL none :: tws) rm (gPc (tw D cI cZ cT cJ base) D cl ad n base en [.ref b]) (gQn base Post) mc ms (gA base))
    (w1 : (own, index, y) ∈ nws) (w2 : Cond.instanceMethod y ∈ tws) (w3 : Cond.initialized y.cls ∈ tws) (w4 : Cond.code y bytes maxL none ∈ tws) (hy1 : y.name = "<init>")
    (hd : y.cls ≠ "java/lang/invoke/MethodHandle" ∧ y.cls ≠ "java/lang/invoke/VarHandle" ∧ (parseMethodDescriptor y.desc).map (fun d => d.parameters.length) = some 0) (hrc : rm.cells = mc) (hrs : rm.slots = ms) (hR : rm.frames + 1 ≤ R.frames ∧ 8 + (maxL + 11) + rm.locals ≤ R.locals)
    (hsize : ls.size = nL) (hW : (rest.map fun v => v.category).sum ≤ 8) (hdg : decode cc pc = .ok (.invokespecial index, 3)) (hf : cells + mc ≤ R.cells ∧ slots + ms ≤ R.slots)
    (kk : ∀ (H1 : Heap) (locs1 : List Loc), Post H1 → va_S (gA base) s.heap H1 locs1 → W p l e R s m args below meth c H1 locs1 (cells + mc) (slots + ms) Q (F0 m (pc + 3) ls rest)) : W p l e R s m args below meth c H locs cells slots Q (F0 m pc ls (.ref b :: rest)) :=
  g_callN (va_runIN (As := []) (b := b) (rest := rest) (host := "PairedTexts") F hM ⟨va_cnB 0 F.2.2.2.2 (g_good w4) rfl hrc hrs (htw.2.1 _ w1) (F.2.2.2.2 _ w3) hd hR, hy1, F.2.2.2.2 _ w2⟩ (g_preS htw hB hS hP) rfl rfl hsize rfl (lv_room hW) hdg hf) hS kk
/-- a constructor, called -/
theorem g_I (F : CallFix p m c cc nL s args tws own) (htw : tw D cI cZ cT cJ base s) (hB : base ≤ s.heap.size) (hS : va_S (gA base) s.heap H locs) (hP : va_P D cl (gw ad en n) H)
    (hM : Met l y (Cond.code y bytes maxL none :: tws) rm (gPc (tw D cI cZ cT cJ base) D cl ad n base en [.ref b]) (gQn base Post) mc ms (gA base))
    (w1 : Cond.methodLink own index y ∈ tws) (w2 : Cond.instanceMethod y ∈ tws) (w3 : Cond.initialized y.cls ∈ tws) (w4 : Cond.code y bytes maxL none ∈ tws) (hy1 : y.name = "<init>")
    (hd : y.cls ≠ "java/lang/invoke/MethodHandle" ∧ y.cls ≠ "java/lang/invoke/VarHandle" ∧ (parseMethodDescriptor y.desc).map (fun d => d.parameters.length) = some 0) (hrc : rm.cells = mc) (hrs : rm.slots = ms) (hR : rm.frames + 1 ≤ R.frames ∧ 8 + (maxL + 11) + rm.locals ≤ R.locals)
    (hsize : ls.size = nL) (hW : (rest.map fun v => v.category).sum ≤ 8) (hdg : decode cc pc = .ok (.invokespecial index, 3)) (hf : cells + mc ≤ R.cells ∧ slots + ms ≤ R.slots)
    (kk : ∀ (H1 : Heap) (locs1 : List Loc), Post H1 → va_S (gA base) s.heap H1 locs1 → W p l e R s m args below meth c H1 locs1 (cells + mc) (slots + ms) Q (F0 m (pc + 3) ls rest)) : W p l e R s m args below meth c H locs cells slots Q (F0 m pc ls (.ref b :: rest)) :=
  g_callN (va_runI (As := []) (b := b) (rest := rest) F hM ⟨callB_of 0 F.2.2.2.2 (g_good w4) rfl hrc hrs (F.2.2.2.2 _ w3) (F.2.2.2.2 _ w1) hd hR, hy1, F.2.2.2.2 _ w2⟩ (g_preS htw hB hS hP) rfl rfl hsize rfl (lv_room hW) hdg hf) hS kk
theorem g_putF {tys : List (ClassId × FieldType)} (F : CallFix p m c cc nL s args tws own) (hin2 : meth.name = "<init>") (hK : va_K D cl tys s) (G : gGeo ad n base) (hP : va_P D cl (gw ad en n) H) (hS : va_S (gA base) H0 H locs) (i : Nat) (hi : i < n) {fs : List Value} (he : en i = .inr (ci, fs)) (hc : cl[ci]? = some (C, T, N)) (hin : ∀ w ∈ u_ws C T N, w ∈ tws)
    (ty0 : Nat → FieldType) (hty : ∀ k, k < N → parseFieldDescriptor (T k).2.2.1 = some (ty0 k)) (hnm : ∀ a, a < N → ∀ b, b < N → a ≠ b → (T a).2.1 ≠ (T b).2.1) (k : Nat) (hk : k < N)
    (hlink : Cond.fieldLink own index (T k).1 (T k).2.1 (T k).2.2.1 ∈ tws) (hfin : (T k).2.2.2 = true) (hdecl : (T k).1 = own) {ty : FieldType} {v : Value} (hd : parseFieldDescriptor (T k).2.2.1 = some ty) (hn : narrow ty v = v) (hfit : fits ty v = true) (hl : k < fs.length) (hdg : decode cc pc = .ok (.putfield index, 3))
    (kk : ∀ (H1 : Heap) (locs1 : List Loc), va_P D cl (gw ad (va_up en i (.inr (ci, fs.set k v))) n) H1 → va_S (gA base) H0 H1 locs1 → W p l e R s m args below meth c H1 locs1 cells slots Q (F0 m (pc + 3) ls rest)) : W p l e R s m args below meth c H locs cells slots Q (F0 m pc ls (v :: .ref (ad i) :: rest)) :=
  va_putF F.1 F.2.1 F.2.2.2.2 hin ty0 hty hnm F.2.2.2.1 hK hP G.D hS i (by rw [gw_at hi, he]) hc k hk (F.2.2.2.2 _ hlink) (fun _ h => h) hfin hin2 hdecl hd hn hfit hl hdg (fun H1 locs1 h1 _ h3 => kk H1 locs1 (by rw [gw_set hi] at h1; exact h1) h3)
end GIN
section Q1
variable {l : Launch} {D : va_G} {cI cZ cT cJ : ClassId} {base : Nat} {ad : Nat → Nat}
set_option maxHeartbeats 4000000 in
set_option maxRecDepth 100000 in
theorem c_T_init_2 {e0 : Nat → va_E} (G : gGeo ad 3 base) (he : e0 2 = .inr (1, [.null, .int 0])) : Met l yT_init (Cond.code yT_init bT_init 1 none :: tws) { frames := 1, cells := 1, slots := 1000, locals := 20 } (gPc (tw D cI cZ cT cJ base) D cl ad 3 base e0 [.ref (ad 2)]) (gQn base (fun H => ∃ q : Nat, gGeo (va_up ad 3 q) 4 base ∧ va_P D cl (gw (va_up ad 3 q) (va_up (va_up e0 3 (.inl (cI, 1000, .inl (fun _ => 0)))) 2 (.inr (1, [.ref q, .int 0]))) 4) H)) 1 1000 (gA base) := by
  refine Met.ofW (cc := bT_init) (maxL := 1) (ret := none) (by decide) rfl ?_
  intro p e s m args below meth c s₁ B hml hv
  obtain ⟨rfl, htw, hB, hP⟩ := hv
  have hin2 : meth.name = "<init>" := (name_of_methodNamed B.named B.method).1
  have hx := B.exec
  have hb := B.bytes
  have hr := B.returns
  have hts0 := atoms_spec (ws := Cond.code yT_init bT_init 1 none :: tws) B.pre
  have hts : ∀ w ∈ tws, w.before _ s = true := fun w h => hts0 w (List.mem_cons_of_mem _ h)
  have hown : s.vm.findClass "PairedTexts$Text" = some m.cls := findClass_of_methodNamed B.named
  have F : CallFix p m c bT_init 1 s _ tws "PairedTexts$Text" := ⟨hx, hb, hml, hown, hts⟩
  have hK := htw.1
  have hS : va_S (gA base) s.heap s.heap [] := va_S.rf
  have hl := lv_entry ([.ref (ad 2)]) (n := 1) (Nat.le_of_ble_eq_true rfl)
  rw [lg_entry_eq]
  generalize (lg_sl ([.ref (ad 2)]) ++ List.replicate (1 - (lg_sl ([.ref (ad 2)])).length) Slot.unset).toArray = ls at hl ⊢
  have hl : lv_has ls 1 [(0, .ref (ad 2))] := hl
  refine lv_aload_n hx hb dT_init_0 rfl (lv_at hl 0 rfl) ?_
  refine W.objInit hx hb hown (hts _ k1_29) (hts _ k1_21) (hts _ k1_22) rfl (by rw [hml]; exact hl.1) rfl dT_init_1 (Nat.le_of_ble_eq_true rfl) (Nat.le_of_ble_eq_true rfl) ?_
  show W _ _ _ _ _ _ _ _ _ _ _ _ _ _ _ (F0 m 4 ls [])
  refine lv_aload_n hx hb dT_init_4 rfl (lv_at hl 0 rfl) ?_
  refine lv_sipush (v := 1000) hx hb dT_init_5 (by decide) ?_
  refine g_newa (atype := .int) (N' := 1000) (a0 := (1000, .inl (fun _ => 0))) (cA := cI) F hK G hP hS hB k1_40 (ty := .int) rfl (fun B h => by cases h) 0 rfl (fun cA => rfl) (by decide) (by decide) (by decide) (Nat.le_of_ble_eq_true rfl) (Nat.le_of_ble_eq_true rfl) dT_init_8 (fun q3 H G hP hS => ?_)
  have he : va_up e0 3 (.inl (cI, 1000, .inl (fun _ => 0))) 2 = .inr (1, [.null, .int 0]) := he
  refine g_putF F hin2 hK G hP hS (2) (by decide) he rfl iT tT tT_ok nT 0 (by decide) k1_30 rfl rfl (ty := .array .int) (by decide +kernel) rfl rfl (Nat.le_of_ble_eq_true rfl) dT_init_10 (fun H locs hP hS => ?_)
  rw [show (([.null, .int 0] : List Value).set 0 (.ref q3)) = [.ref q3, .int 0] from rfl] at hP
  refine lv_aload_n hx hb dT_init_13 rfl (lv_at hl 0 rfl) ?_
  refine lv_iconst (v := 0) hx hb dT_init_14 (by decide) ?_
  refine g_put F hK G hP hS (2) (by decide) rfl rfl iT tT tT_ok nT 1 (by decide) k1_33 rfl (ty := .int) (by decide +kernel) rfl rfl (Nat.le_of_ble_eq_true rfl) dT_init_15 (fun H locs hP hS => ?_)
  rw [va_up_up] at hP
  refine W.widen (k := 1) (n := 1000) (Nat.le_of_ble_eq_true rfl) (Nat.le_of_ble_eq_true rfl) ?_
  exact W.vret hx hb hr (fun t ht hW => ⟨rfl, by rw [ht]; exact ⟨q3, G, hP⟩, hS.F ht⟩) hS.2.2 dT_init_18
set_option maxHeartbeats 4000000 in
set_option maxRecDepth 100000 in
theorem c_T_init_4 {e0 : Nat → va_E} (G : gGeo ad 5 base) (he : e0 4 = .inr (1, [.null, .int 0])) : Met l yT_init (Cond.code yT_init bT_init 1 none :: tws) { frames := 1, cells := 1, slots := 1000, locals := 20 } (gPc (tw D cI cZ cT cJ base) D cl ad 5 base e0 [.ref (ad 4)]) (gQn base (fun H => ∃ q : Nat, gGeo (va_up ad 5 q) 6 base ∧ va_P D cl (gw (va_up ad 5 q) (va_up (va_up e0 5 (.inl (cI, 1000, .inl (fun _ => 0)))) 4 (.inr (1, [.ref q, .int 0]))) 6) H)) 1 1000 (gA base) := by
  refine Met.ofW (cc := bT_init) (maxL := 1) (ret := none) (by decide) rfl ?_
  intro p e s m args below meth c s₁ B hml hv
  obtain ⟨rfl, htw, hB, hP⟩ := hv
  have hin2 : meth.name = "<init>" := (name_of_methodNamed B.named B.method).1
  have hx := B.exec
  have hb := B.bytes
  have hr := B.returns
  have hts0 := atoms_spec (ws := Cond.code yT_init bT_init 1 none :: tws) B.pre
  have hts : ∀ w ∈ tws, w.before _ s = true := fun w h => hts0 w (List.mem_cons_of_mem _ h)
  have hown : s.vm.findClass "PairedTexts$Text" = some m.cls := findClass_of_methodNamed B.named
  have F : CallFix p m c bT_init 1 s _ tws "PairedTexts$Text" := ⟨hx, hb, hml, hown, hts⟩
  have hK := htw.1
  have hS : va_S (gA base) s.heap s.heap [] := va_S.rf
  have hl := lv_entry ([.ref (ad 4)]) (n := 1) (Nat.le_of_ble_eq_true rfl)
  rw [lg_entry_eq]
  generalize (lg_sl ([.ref (ad 4)]) ++ List.replicate (1 - (lg_sl ([.ref (ad 4)])).length) Slot.unset).toArray = ls at hl ⊢
  have hl : lv_has ls 1 [(0, .ref (ad 4))] := hl
  refine lv_aload_n hx hb dT_init_0 rfl (lv_at hl 0 rfl) ?_
  refine W.objInit hx hb hown (hts _ k1_29) (hts _ k1_21) (hts _ k1_22) rfl (by rw [hml]; exact hl.1) rfl dT_init_1 (Nat.le_of_ble_eq_true rfl) (Nat.le_of_ble_eq_true rfl) ?_
  show W _ _ _ _ _ _ _ _ _ _ _ _ _ _ _ (F0 m 4 ls [])
  refine lv_aload_n hx hb dT_init_4 rfl (lv_at hl 0 rfl) ?_
  refine lv_sipush (v := 1000) hx hb dT_init_5 (by decide) ?_
  refine g_newa (atype := .int) (N' := 1000) (a0 := (1000, .inl (fun _ => 0))) (cA := cI) F hK G hP hS hB k1_40 (ty := .int) rfl (fun B h => by cases h) 0 rfl (fun cA => rfl) (by decide) (by decide) (by decide) (Nat.le_of_ble_eq_true rfl) (Nat.le_of_ble_eq_true rfl) dT_init_8 (fun q5 H G hP hS => ?_)
  have he : va_up e0 5 (.inl (cI, 1000, .inl (fun _ => 0))) 4 = .inr (1, [.null, .int 0]) := he
  refine g_putF F hin2 hK G hP hS (4) (by decide) he rfl iT tT tT_ok nT 0 (by decide) k1_30 rfl rfl (ty := .array .int) (by decide +kernel) rfl rfl (Nat.le_of_ble_eq_true rfl) dT_init_10 (fun H locs hP hS => ?_)
  rw [show (([.null, .int 0] : List Value).set 0 (.ref q5)) = [.ref q5, .int 0] from rfl] at hP
  refine lv_aload_n hx hb dT_init_13 rfl (lv_at hl 0 rfl) ?_
  refine lv_iconst (v := 0) hx hb dT_init_14 (by decide) ?_
  refine g_put F hK G hP hS (4) (by decide) rfl rfl iT tT tT_ok nT 1 (by decide) k1_33 rfl (ty := .int) (by decide +kernel) rfl rfl (Nat.le_of_ble_eq_true rfl) dT_init_15 (fun H locs hP hS => ?_)
  rw [va_up_up] at hP
  refine W.widen (k := 1) (n := 1000) (Nat.le_of_ble_eq_true rfl) (Nat.le_of_ble_eq_true rfl) ?_
  exact W.vret hx hb hr (fun t ht hW => ⟨rfl, by rw [ht]; exact ⟨q5, G, hP⟩, hS.F ht⟩) hS.2.2 dT_init_18
set_option maxHeartbeats 4000000 in
set_option maxRecDepth 100000 in
theorem c_T_init_6 {e0 : Nat → va_E} (G : gGeo ad 7 base) (he : e0 6 = .inr (1, [.null, .int 0])) : Met l yT_init (Cond.code yT_init bT_init 1 none :: tws) { frames := 1, cells := 1, slots := 1000, locals := 20 } (gPc (tw D cI cZ cT cJ base) D cl ad 7 base e0 [.ref (ad 6)]) (gQn base (fun H => ∃ q : Nat, gGeo (va_up ad 7 q) 8 base ∧ va_P D cl (gw (va_up ad 7 q) (va_up (va_up e0 7 (.inl (cI, 1000, .inl (fun _ => 0)))) 6 (.inr (1, [.ref q, .int 0]))) 8) H)) 1 1000 (gA base) := by
  refine Met.ofW (cc := bT_init) (maxL := 1) (ret := none) (by decide) rfl ?_
  intro p e s m args below meth c s₁ B hml hv
  obtain ⟨rfl, htw, hB, hP⟩ := hv
  have hin2 : meth.name = "<init>" := (name_of_methodNamed B.named B.method).1
  have hx := B.exec
  have hb := B.bytes
  have hr := B.returns
  have hts0 := atoms_spec (ws := Cond.code yT_init bT_init 1 none :: tws) B.pre
  have hts : ∀ w ∈ tws, w.before _ s = true := fun w h => hts0 w (List.mem_cons_of_mem _ h)
  have hown : s.vm.findClass "PairedTexts$Text" = some m.cls := findClass_of_methodNamed B.named
  have F : CallFix p m c bT_init 1 s _ tws "PairedTexts$Text" := ⟨hx, hb, hml, hown, hts⟩
  have hK := htw.1
  have hS : va_S (gA base) s.heap s.heap [] := va_S.rf
  have hl := lv_entry ([.ref (ad 6)]) (n := 1) (Nat.le_of_ble_eq_true rfl)
  rw [lg_entry_eq]
  generalize (lg_sl ([.ref (ad 6)]) ++ List.replicate (1 - (lg_sl ([.ref (ad 6)])).length) Slot.unset).toArray = ls at hl ⊢
  have hl : lv_has ls 1 [(0, .ref (ad 6))] := hl
  refine lv_aload_n hx hb dT_init_0 rfl (lv_at hl 0 rfl) ?_
  refine W.objInit hx hb hown (hts _ k1_29) (hts _ k1_21) (hts _ k1_22) rfl (by rw [hml]; exact hl.1) rfl dT_init_1 (Nat.le_of_ble_eq_true rfl) (Nat.le_of_ble_eq_true rfl) ?_
  show W _ _ _ _ _ _ _ _ _ _ _ _ _ _ _ (F0 m 4 ls [])
  refine lv_aload_n hx hb dT_init_4 rfl (lv_at hl 0 rfl) ?_
  refine lv_sipush (v := 1000) hx hb dT_init_5 (by decide) ?_
  refine g_newa (atype := .int) (N' := 1000) (a0 := (1000, .inl (fun _ => 0))) (cA := cI) F hK G hP hS hB k1_40 (ty := .int) rfl (fun B h => by cases h) 0 rfl (fun cA => rfl) (by decide) (by decide) (by decide) (Nat.le_of_ble_eq_true rfl) (Nat.le_of_ble_eq_true rfl) dT_init_8 (fun q7 H G hP hS => ?_)
  have he : va_up e0 7 (.inl (cI, 1000, .inl (fun _ => 0))) 6 = .inr (1, [.null, .int 0]) := he
  refine g_putF F hin2 hK G hP hS (6) (by decide) he rfl iT tT tT_ok nT 0 (by decide) k1_30 rfl rfl (ty := .array .int) (by decide +kernel) rfl rfl (Nat.le_of_ble_eq_true rfl) dT_init_10 (fun H locs hP hS => ?_)
  rw [show (([.null, .int 0] : List Value).set 0 (.ref q7)) = [.ref q7, .int 0] from rfl] at hP
  refine lv_aload_n hx hb dT_init_13 rfl (lv_at hl 0 rfl) ?_
  refine lv_iconst (v := 0) hx hb dT_init_14 (by decide) ?_
  refine g_put F hK G hP hS (6) (by decide) rfl rfl iT tT tT_ok nT 1 (by decide) k1_33 rfl (ty := .int) (by decide +kernel) rfl rfl (Nat.le_of_ble_eq_true rfl) dT_init_15 (fun H locs hP hS => ?_)
  rw [va_up_up] at hP
  refine W.widen (k := 1) (n := 1000) (Nat.le_of_ble_eq_true rfl) (Nat.le_of_ble_eq_true rfl) ?_
  exact W.vret hx hb hr (fun t ht hW => ⟨rfl, by rw [ht]; exact ⟨q7, G, hP⟩, hS.F ht⟩) hS.2.2 dT_init_18
set_option maxHeartbeats 4000000 in
set_option maxRecDepth 100000 in
theorem c_T_init_8 {e0 : Nat → va_E} (G : gGeo ad 9 base) (he : e0 8 = .inr (1, [.null, .int 0])) : Met l yT_init (Cond.code yT_init bT_init 1 none :: tws) { frames := 1, cells := 1, slots := 1000, locals := 20 } (gPc (tw D cI cZ cT cJ base) D cl ad 9 base e0 [.ref (ad 8)]) (gQn base (fun H => ∃ q : Nat, gGeo (va_up ad 9 q) 10 base ∧ va_P D cl (gw (va_up ad 9 q) (va_up (va_up e0 9 (.inl (cI, 1000, .inl (fun _ => 0)))) 8 (.inr (1, [.ref q, .int 0]))) 10) H)) 1 1000 (gA base) := by
  refine Met.ofW (cc := bT_init) (maxL := 1) (ret := none) (by decide) rfl ?_
  intro p e s m args below meth c s₁ B hml hv
  obtain ⟨rfl, htw, hB, hP⟩ := hv
  have hin2 : meth.name = "<init>" := (name_of_methodNamed B.named B.method).1
  have hx := B.exec
  have hb := B.bytes
  have hr := B.returns
  have hts0 := atoms_spec (ws := Cond.code yT_init bT_init 1 none :: tws) B.pre
  have hts : ∀ w ∈ tws, w.before _ s = true := fun w h => hts0 w (List.mem_cons_of_mem _ h)
  have hown : s.vm.findClass "PairedTexts$Text" = some m.cls := findClass_of_methodNamed B.named
  have F : CallFix p m c bT_init 1 s _ tws "PairedTexts$Text" := ⟨hx, hb, hml, hown, hts⟩
  have hK := htw.1
  have hS : va_S (gA base) s.heap s.heap [] := va_S.rf
  have hl := lv_entry ([.ref (ad 8)]) (n := 1) (Nat.le_of_ble_eq_true rfl)
  rw [lg_entry_eq]
  generalize (lg_sl ([.ref (ad 8)]) ++ List.replicate (1 - (lg_sl ([.ref (ad 8)])).length) Slot.unset).toArray = ls at hl ⊢
  have hl : lv_has ls 1 [(0, .ref (ad 8))] := hl
  refine lv_aload_n hx hb dT_init_0 rfl (lv_at hl 0 rfl) ?_
  refine W.objInit hx hb hown (hts _ k1_29) (hts _ k1_21) (hts _ k1_22) rfl (by rw [hml]; exact hl.1) rfl dT_init_1 (Nat.le_of_ble_eq_true rfl) (Nat.le_of_ble_eq_true rfl) ?_
  show W _ _ _ _ _ _ _ _ _ _ _ _ _ _ _ (F0 m 4 ls [])
  refine lv_aload_n hx hb dT_init_4 rfl (lv_at hl 0 rfl) ?_
  refine lv_sipush (v := 1000) hx hb dT_init_5 (by decide) ?_
  refine g_newa (atype := .int) (N' := 1000) (a0 := (1000, .inl (fun _ => 0))) (cA := cI) F hK G hP hS hB k1_40 (ty := .int) rfl (fun B h => by cases h) 0 rfl (fun cA => rfl) (by decide) (by decide) (by decide) (Nat.le_of_ble_eq_true rfl) (Nat.le_of_ble_eq_true rfl) dT_init_8 (fun q9 H G hP hS => ?_)
  have he : va_up e0 9 (.inl (cI, 1000, .inl (fun _ => 0))) 8 = .inr (1, [.null, .int 0]) := he
  refine g_putF F hin2 hK G hP hS (8) (by decide) he rfl iT tT tT_ok nT 0 (by decide) k1_30 rfl rfl (ty := .array .int) (by decide +kernel) rfl rfl (Nat.le_of_ble_eq_true rfl) dT_init_10 (fun H locs hP hS => ?_)
  rw [show (([.null, .int 0] : List Value).set 0 (.ref q9)) = [.ref q9, .int 0] from rfl] at hP
  refine lv_aload_n hx hb dT_init_13 rfl (lv_at hl 0 rfl) ?_
  refine lv_iconst (v := 0) hx hb dT_init_14 (by decide) ?_
  refine g_put F hK G hP hS (8) (by decide) rfl rfl iT tT tT_ok nT 1 (by decide) k1_33 rfl (ty := .int) (by decide +kernel) rfl rfl (Nat.le_of_ble_eq_true rfl) dT_init_15 (fun H locs hP hS => ?_)
  rw [va_up_up] at hP
  refine W.widen (k := 1) (n := 1000) (Nat.le_of_ble_eq_true rfl) (Nat.le_of_ble_eq_true rfl) ?_
  exact W.vret hx hb hr (fun t ht hW => ⟨rfl, by rw [ht]; exact ⟨q9, G, hP⟩, hS.F ht⟩) hS.2.2 dT_init_18
set_option maxHeartbeats 4000000 in
set_option maxRecDepth 100000 in
theorem c_T_init_10 {e0 : Nat → va_E} (G : gGeo ad 11 base) (he : e0 10 = .inr (1, [.null, .int 0])) : Met l yT_init (Cond.code yT_init bT_init 1 none :: tws) { frames := 1, cells := 1, slots := 1000, locals := 20 } (gPc (tw D cI cZ cT cJ base) D cl ad 11 base e0 [.ref (ad 10)]) (gQn base (fun H => ∃ q : Nat, gGeo (va_up ad 11 q) 12 base ∧ va_P D cl (gw (va_up ad 11 q) (va_up (va_up e0 11 (.inl (cI, 1000, .inl (fun _ => 0)))) 10 (.inr (1, [.ref q, .int 0]))) 12) H)) 1 1000 (gA base) := by
  refine Met.ofW (cc := bT_init) (maxL := 1) (ret := none) (by decide) rfl ?_
  intro p e s m args below meth c s₁ B hml hv
  obtain ⟨rfl, htw, hB, hP⟩ := hv
  have hin2 : meth.name = "<init>" := (name_of_methodNamed B.named B.method).1
  have hx := B.exec
  have hb := B.bytes
  have hr := B.returns
  have hts0 := atoms_spec (ws := Cond.code yT_init bT_init 1 none :: tws) B.pre
  have hts : ∀ w ∈ tws, w.before _ s = true := fun w h => hts0 w (List.mem_cons_of_mem _ h)
  have hown : s.vm.findClass "PairedTexts$Text" = some m.cls := findClass_of_methodNamed B.named
  have F : CallFix p m c bT_init 1 s _ tws "PairedTexts$Text" := ⟨hx, hb, hml, hown, hts⟩
  have hK := htw.1
  have hS : va_S (gA base) s.heap s.heap [] := va_S.rf
  have hl := lv_entry ([.ref (ad 10)]) (n := 1) (Nat.le_of_ble_eq_true rfl)
  rw [lg_entry_eq]
  generalize (lg_sl ([.ref (ad 10)]) ++ List.replicate (1 - (lg_sl ([.ref (ad 10)])).length) Slot.unset).toArray = ls at hl ⊢
  have hl : lv_has ls 1 [(0, .ref (ad 10))] := hl
  refine lv_aload_n hx hb dT_init_0 rfl (lv_at hl 0 rfl) ?_
  refine W.objInit hx hb hown (hts _ k1_29) (hts _ k1_21) (hts _ k1_22) rfl (by rw [hml]; exact hl.1) rfl dT_init_1 (Nat.le_of_ble_eq_true rfl) (Nat.le_of_ble_eq_true rfl) ?_
  show W _ _ _ _ _ _ _ _ _ _ _ _ _ _ _ (F0 m 4 ls [])
  refine lv_aload_n hx hb dT_init_4 rfl (lv_at hl 0 rfl) ?_
  refine lv_sipush (v := 1000) hx hb dT_init_5 (by decide) ?_
  refine g_newa (atype := .int) (N' := 1000) (a0 := (1000, .inl (fun _ => 0))) (cA := cI) F hK G hP hS hB k1_40 (ty := .int) rfl (fun B h => by cases h) 0 rfl (fun cA => rfl) (by decide) (by decide) (by decide) (Nat.le_of_ble_eq_true rfl) (Nat.le_of_ble_eq_true rfl) dT_init_8 (fun q11 H G hP hS => ?_)
  have he : va_up e0 11 (.inl (cI, 1000, .inl (fun _ => 0))) 10 = .inr (1, [.null, .int 0]) := he
  refine g_putF F hin2 hK G hP hS (10) (by decide) he rfl iT tT tT_ok nT 0 (by decide) k1_30 rfl rfl (ty := .array .int) (by decide +kernel) rfl rfl (Nat.le_of_ble_eq_true rfl) dT_init_10 (fun H locs hP hS => ?_)
  rw [show (([.null, .int 0] : List Value).set 0 (.ref q11)) = [.ref q11, .int 0] from rfl] at hP
  refine lv_aload_n hx hb dT_init_13 rfl (lv_at hl 0 rfl) ?_
  refine lv_iconst (v := 0) hx hb dT_init_14 (by decide) ?_
  refine g_put F hK G hP hS (10) (by decide) rfl rfl iT tT tT_ok nT 1 (by decide) k1_33 rfl (ty := .int) (by decide +kernel) rfl rfl (Nat.le_of_ble_eq_true rfl) dT_init_15 (fun H locs hP hS => ?_)
  rw [va_up_up] at hP
  refine W.widen (k := 1) (n := 1000) (Nat.le_of_ble_eq_true rfl) (Nat.le_of_ble_eq_true rfl) ?_
  exact W.vret hx hb hr (fun t ht hW => ⟨rfl, by rw [ht]; exact ⟨q11, G, hP⟩, hS.F ht⟩) hS.2.2 dT_init_18
set_option maxHeartbeats 4000000 in
set_option maxRecDepth 100000 in
theorem c_Q_init_12 {e0 : Nat → va_E} (G : gGeo ad 13 base) (he : e0 12 = .inr (2, [.null, .int 0])) : Met l yQ_init (Cond.code yQ_init bQ_init 1 none :: tws) { frames := 1, cells := 1, slots := 16, locals := 20 } (gPc (tw D cI cZ cT cJ base) D cl ad 13 base e0 [.ref (ad 12)]) (gQn base (fun H => ∃ q : Nat, gGeo (va_up ad 13 q) 14 base ∧ va_P D cl (gw (va_up ad 13 q) (va_up (va_up e0 13 (.inl (cI, 16, .inl (fun _ => 0)))) 12 (.inr (2, [.ref q, .int 0]))) 14) H)) 1 16 (gA base) := by
  refine Met.ofW (cc := bQ_init) (maxL := 1) (ret := none) (by decide) rfl ?_
  intro p e s m args below meth c s₁ B hml hv
  obtain ⟨rfl, htw, hB, hP⟩ := hv
  have hin2 : meth.name = "<init>" := (name_of_methodNamed B.named B.method).1
  have hx := B.exec
  have hb := B.bytes
  have hr := B.returns
  have hts0 := atoms_spec (ws := Cond.code yQ_init bQ_init 1 none :: tws) B.pre
  have hts : ∀ w ∈ tws, w.before _ s = true := fun w h => hts0 w (List.mem_cons_of_mem _ h)
  have hown : s.vm.findClass "PairedTexts$Pattern" = some m.cls := findClass_of_methodNamed B.named
  have F : CallFix p m c bQ_init 1 s _ tws "PairedTexts$Pattern" := ⟨hx, hb, hml, hown, hts⟩
  have hK := htw.1
  have hS : va_S (gA base) s.heap s.heap [] := va_S.rf
  have hl := lv_entry ([.ref (ad 12)]) (n := 1) (Nat.le_of_ble_eq_true rfl)
  rw [lg_entry_eq]
  generalize (lg_sl ([.ref (ad 12)]) ++ List.replicate (1 - (lg_sl ([.ref (ad 12)])).length) Slot.unset).toArray = ls at hl ⊢
  have hl : lv_has ls 1 [(0, .ref (ad 12))] := hl
  refine lv_aload_n hx hb dQ_init_0 rfl (lv_at hl 0 rfl) ?_
  refine W.objInit hx hb hown (hts _ k1_46) (hts _ k1_21) (hts _ k1_22) rfl (by rw [hml]; exact hl.1) rfl dQ_init_1 (Nat.le_of_ble_eq_true rfl) (Nat.le_of_ble_eq_true rfl) ?_
  show W _ _ _ _ _ _ _ _ _ _ _ _ _ _ _ (F0 m 4 ls [])
  refine lv_aload_n hx hb dQ_init_4 rfl (lv_at hl 0 rfl) ?_
  refine lv_bipush (v := 16) hx hb dQ_init_5 (by decide) ?_
  refine g_newa (atype := .int) (N' := 16) (a0 := (16, .inl (fun _ => 0))) (cA := cI) F hK G hP hS hB k1_40 (ty := .int) rfl (fun B h => by cases h) 0 rfl (fun cA => rfl) (by decide) (by decide) (by decide) (Nat.le_of_ble_eq_true rfl) (Nat.le_of_ble_eq_true rfl) dQ_init_7 (fun q13 H G hP hS => ?_)
  have he : va_up e0 13 (.inl (cI, 16, .inl (fun _ => 0))) 12 = .inr (2, [.null, .int 0]) := he
  refine g_putF F hin2 hK G hP hS (12) (by decide) he rfl iQ tQ tQ_ok nQ 0 (by decide) k1_47 rfl rfl (ty := .array .int) (by decide +kernel) rfl rfl (Nat.le_of_ble_eq_true rfl) dQ_init_9 (fun H locs hP hS => ?_)
  rw [show (([.null, .int 0] : List Value).set 0 (.ref q13)) = [.ref q13, .int 0] from rfl] at hP
  refine lv_aload_n hx hb dQ_init_12 rfl (lv_at hl 0 rfl) ?_
  refine lv_iconst (v := 0) hx hb dQ_init_13 (by decide) ?_
  refine g_put F hK G hP hS (12) (by decide) rfl rfl iQ tQ tQ_ok nQ 1 (by decide) k1_48 rfl (ty := .int) (by decide +kernel) rfl rfl (Nat.le_of_ble_eq_true rfl) dQ_init_14 (fun H locs hP hS => ?_)
  rw [va_up_up] at hP
  refine W.widen (k := 1) (n := 16) (Nat.le_of_ble_eq_true rfl) (Nat.le_of_ble_eq_true rfl) ?_
  exact W.vret hx hb hr (fun t ht hW => ⟨rfl, by rw [ht]; exact ⟨q13, G, hP⟩, hS.F ht⟩) hS.2.2 dQ_init_17
set_option maxHeartbeats 4000000 in
set_option maxRecDepth 100000 in
theorem c_A_init {e0 : Nat → va_E} (G : gGeo ad 15 base) (he : e0 14 = .inr (3, [.null, .null])) : Met l yA_init (Cond.code yA_init bA_init 1 none :: tws) { frames := 1, cells := 2, slots := 2056, locals := 20 } (gPc (tw D cI cZ cT cJ base) D cl ad 15 base e0 [.ref (ad 14)]) (gQn base (fun H => ∃ q1 q2 : Nat, gGeo (va_up (va_up ad 15 q1) 16 q2) 17 base ∧ va_P D cl (gw (va_up (va_up ad 15 q1) 16 q2) (va_up (va_up (va_up e0 15 (.inl (cI, 2048, .inl (fun _ => 0)))) 16 (.inl (cZ, 8, .inl (fun _ => 0)))) 14 (.inr (3, [.ref q1, .ref q2]))) 17) H)) 2 2056 (gA base) := by
  refine Met.ofW (cc := bA_init) (maxL := 1) (ret := none) (by decide) rfl ?_
  intro p e s m args below meth c s₁ B hml hv
  obtain ⟨rfl, htw, hB, hP⟩ := hv
  have hin2 : meth.name = "<init>" := (name_of_methodNamed B.named B.method).1
  have hx := B.exec
  have hb := B.bytes
  have hr := B.returns
  have hts0 := atoms_spec (ws := Cond.code yA_init bA_init 1 none :: tws) B.pre
  have hts : ∀ w ∈ tws, w.before _ s = true := fun w h => hts0 w (List.mem_cons_of_mem _ h)
  have hown : s.vm.findClass "PairedTexts$Automaton" = some m.cls := findClass_of_methodNamed B.named
  have F : CallFix p m c bA_init 1 s _ tws "PairedTexts$Automaton" := ⟨hx, hb, hml, hown, hts⟩
  have hK := htw.1
  have hS : va_S (gA base) s.heap s.heap [] := va_S.rf
  have hl := lv_entry ([.ref (ad 14)]) (n := 1) (Nat.le_of_ble_eq_true rfl)
  rw [lg_entry_eq]
  generalize (lg_sl ([.ref (ad 14)]) ++ List.replicate (1 - (lg_sl ([.ref (ad 14)])).length) Slot.unset).toArray = ls at hl ⊢
  have hl : lv_has ls 1 [(0, .ref (ad 14))] := hl
  refine lv_aload_n hx hb dA_init_0 rfl (lv_at hl 0 rfl) ?_
  refine W.objInit hx hb hown (hts _ k1_60) (hts _ k1_21) (hts _ k1_22) rfl (by rw [hml]; exact hl.1) rfl dA_init_1 (Nat.le_of_ble_eq_true rfl) (Nat.le_of_ble_eq_true rfl) ?_
  show W _ _ _ _ _ _ _ _ _ _ _ _ _ _ _ (F0 m 4 ls [])
  refine lv_aload_n hx hb dA_init_4 rfl (lv_at hl 0 rfl) ?_
  refine lv_sipush (v := 2048) hx hb dA_init_5 (by decide) ?_
  refine g_newa (atype := .int) (N' := 2048) (a0 := (2048, .inl (fun _ => 0))) (cA := cI) F hK G hP hS hB k1_40 (ty := .int) rfl (fun B h => by cases h) 0 rfl (fun cA => rfl) (by decide) (by decide) (by decide) (Nat.le_of_ble_eq_true rfl) (Nat.le_of_ble_eq_true rfl) dA_init_8 (fun q15 H G hP hS => ?_)
  have he : va_up e0 15 (.inl (cI, 2048, .inl (fun _ => 0))) 14 = .inr (3, [.null, .null]) := he
  refine g_putF F hin2 hK G hP hS (14) (by decide) he rfl iA tA tA_ok nA 0 (by decide) k1_61 rfl rfl (ty := .array .int) (by decide +kernel) rfl rfl (Nat.le_of_ble_eq_true rfl) dA_init_10 (fun H locs hP hS => ?_)
  refine lv_aload_n hx hb dA_init_13 rfl (lv_at hl 0 rfl) ?_
  refine lv_bipush (v := 8) hx hb dA_init_14 (by decide) ?_
  refine g_newa (atype := .boolean) (N' := 8) (a0 := (8, .inl (fun _ => 0))) (cA := cZ) F hK G hP hS hB k1_69 (ty := .boolean) rfl (fun B h => by cases h) 1 rfl (fun cA => rfl) (by decide) (by decide) (by decide) (Nat.le_of_ble_eq_true rfl) (Nat.le_of_ble_eq_true rfl) dA_init_16 (fun q16 H G hP hS => ?_)
  refine g_putF F hin2 hK G hP hS (14) (by decide) rfl rfl iA tA tA_ok nA 1 (by decide) k1_62 rfl rfl (ty := .array .boolean) (by decide +kernel) rfl rfl (Nat.le_of_ble_eq_true rfl) dA_init_18 (fun H locs hP hS => ?_)
  have hP := P_of (e2 := va_up (va_up (va_up e0 15 (.inl (cI, 2048, .inl (fun _ => 0)))) 16 (.inl (cZ, 8, .inl (fun _ => 0)))) 14 (.inr (3, [.ref q15, .ref q16]))) hP (fun j _ => by unfold va_up; by_cases h1 : j = 14 <;> by_cases h2 : j = 15 <;> by_cases h3 : j = 16 <;> simp_all <;> rfl)
  refine W.widen (k := 2) (n := 2056) (Nat.le_of_ble_eq_true rfl) (Nat.le_of_ble_eq_true rfl) ?_
  exact W.vret hx hb hr (fun t ht hW => ⟨rfl, by rw [ht]; exact ⟨q15, q16, G, hP⟩, hS.F ht⟩) hS.2.2 dA_init_21
end Q1
