/-! What a call must hold, and what is thrown else. -/
section M2
variable {l : Launch} {D : va_G} {cI cZ cT cJ : ClassId} {base : Nat} {ad : Nat → Nat} {pi : Nat → Nat} {dr : Nat} {S M : Nat → Nat → Int32} {o : Nat → Int64}
set_option maxHeartbeats 4000000 in
set_option maxRecDepth 100000 in
theorem c_P_requireDocument {e0 : Nat → va_E} {d : Int32} (h0 : 0 ≤ d.toInt) (h4 : d.toInt < 4) : Met l yP_requireDocument (Cond.code yP_requireDocument bP_requireDocument 1 none :: tws) { frames := 6, cells := 0, slots := 0, locals := 82 } (gPc (tw D cI cZ cT cJ base) D cl ad 25 base (e0) [.int d]) (gQc D cl ad 25 base none (fun e => e = e0)) 0 0 (gA base) := by
  refine Met.ofW (cc := bP_requireDocument) (maxL := 1) (ret := none) (by decide) rfl ?_
  intro p e s m args below meth c s₁ B hml hv
  obtain ⟨rfl, htw, hB, hP⟩ := hv
  have hx := B.exec
  have hb := B.bytes
  have hr := B.returns
  have hts0 := atoms_spec (ws := Cond.code yP_requireDocument bP_requireDocument 1 none :: tws) B.pre
  have hts : ∀ w ∈ tws, w.before _ s = true := fun w h => hts0 w (List.mem_cons_of_mem _ h)
  have hown : s.vm.findClass "PairedTexts" = some m.cls := findClass_of_methodNamed B.named
  have hlocks := B.notSynchronized
  have hno := B.noHandlers (hts0 _ List.mem_cons_self)
  have F : CallFix p m c bP_requireDocument 1 s _ tws "PairedTexts" := ⟨hx, hb, hml, hown, hts⟩
  have hK := htw.1
  have hS : va_S (gA base) s.heap s.heap [] := va_S.rf
  have hl := lv_entry ([.int d]) (n := 1) (Nat.le_of_ble_eq_true rfl)
  rw [lg_entry_eq]
  generalize (lg_sl ([.int d]) ++ List.replicate (1 - (lg_sl ([.int d])).length) Slot.unset).toArray = ls at hl ⊢
  have hl : lv_has ls 1 [(0, .int d)] := hl
  have z0 : (0 : Int32).toInt = 0 := rfl
  have z4 : (4 : Int32).toInt = 4 := rfl
  refine lv_iload_n hx hb dP_requireDocument_0 rfl (lv_at hl 0 rfl) ?_
  refine lv_if_lt (tgt := 9) hx hb dP_requireDocument_1 (by decide) (fun hc => absurd hc (by rw [Int32.lt_iff_toInt_lt]; omega)) (fun _ => ?_)
  refine lv_iload_n hx hb dP_requireDocument_4 rfl (lv_at hl 0 rfl) ?_
  refine lv_iconst (v := 4) hx hb dP_requireDocument_5 (by decide) ?_
  refine lv_icmp_lt (tgt := 19) hx hb dP_requireDocument_6 (by decide) (fun _ => ?_) (fun hc => absurd (Int32.lt_iff_toInt_lt.mpr (by omega)) hc)
  exact W.vret hx hb hr (fun t ht hW => ⟨rfl, ⟨_, rfl, by rw [ht]; exact hP⟩, hS.F ht⟩) hS.2.2 dP_requireDocument_19
set_option maxHeartbeats 4000000 in
set_option maxRecDepth 100000 in
theorem c_P_requireDocument_th (hst : l.stackTraces = false) {e0 : Nat → va_E} {d : Int32} (h : d.toInt < 0 ∨ 4 ≤ d.toInt) : MetTh l yP_requireDocument (Cond.code yP_requireDocument bP_requireDocument 1 none :: tws) { frames := 6, cells := 1, slots := 6, locals := 82 } (gPc (tw D cI cZ cT cJ base) D cl ad 25 base (e0) [.int d]) "java/lang/IllegalArgumentException" 1 6 := by
  refine MetTh.ofW (cc := bP_requireDocument) (maxL := 1) (ret := none) (by decide) rfl ?_
  intro p e s m args below meth c s₁ B hml hv
  obtain ⟨rfl, htw, hB, hP⟩ := hv
  have hx := B.exec
  have hb := B.bytes
  have hr := B.returns
  have hts0 := atoms_spec (ws := Cond.code yP_requireDocument bP_requireDocument 1 none :: tws) B.pre
  have hts : ∀ w ∈ tws, w.before _ s = true := fun w h => hts0 w (List.mem_cons_of_mem _ h)
  have hown : s.vm.findClass "PairedTexts" = some m.cls := findClass_of_methodNamed B.named
  have hlocks := B.notSynchronized
  have hno := B.noHandlers (hts0 _ List.mem_cons_self)
  have F : CallFix p m c bP_requireDocument 1 s _ tws "PairedTexts" := ⟨hx, hb, hml, hown, hts⟩
  have hK := htw.1
  have hS : va_S (gA base) s.heap s.heap [] := va_S.rf
  have hl := lv_entry ([.int d]) (n := 1) (Nat.le_of_ble_eq_true rfl)
  rw [lg_entry_eq]
  generalize (lg_sl ([.int d]) ++ List.replicate (1 - (lg_sl ([.int d])).length) Slot.unset).toArray = ls at hl ⊢
  have hl : lv_has ls 1 [(0, .int d)] := hl
  have z0 : (0 : Int32).toInt = 0 := rfl
  have z4 : (4 : Int32).toInt = 4 := rfl
  refine lv_iload_n hx hb dP_requireDocument_0 rfl (lv_at hl 0 rfl) ?_
  refine lv_if_lt (tgt := 9) hx hb dP_requireDocument_1 (by decide) (fun hc => ?_) (fun hc => ?_)
  · exact g_throw F hst hlocks hno htw (X := "java/lang/IllegalArgumentException") (by decide +kernel) k1_99 k1_100 k1_9 (oa_IAE hts htw) (List.mem_of_getElem? (l := strs) (i := 0) rfl) hl.1 (Nat.le_of_ble_eq_true rfl) (Nat.le_of_ble_eq_true rfl) (Nat.le_of_ble_eq_true rfl) (Nat.le_of_ble_eq_true rfl) dP_requireDocument_9 dP_requireDocument_12 dP_requireDocument_13 dP_requireDocument_15 dP_requireDocument_18
  · rw [Int32.lt_iff_toInt_lt] at hc
    refine lv_iload_n hx hb dP_requireDocument_4 rfl (lv_at hl 0 rfl) ?_
    refine lv_iconst (v := 4) hx hb dP_requireDocument_5 (by decide) ?_
    refine lv_icmp_lt (tgt := 19) hx hb dP_requireDocument_6 (by decide) (fun hc => absurd hc (by rw [Int32.lt_iff_toInt_lt]; omega)) (fun _ => ?_)
    exact g_throw F hst hlocks hno htw (X := "java/lang/IllegalArgumentException") (by decide +kernel) k1_99 k1_100 k1_9 (oa_IAE hts htw) (List.mem_of_getElem? (l := strs) (i := 0) rfl) hl.1 (Nat.le_of_ble_eq_true rfl) (Nat.le_of_ble_eq_true rfl) (Nat.le_of_ble_eq_true rfl) (Nat.le_of_ble_eq_true rfl) dP_requireDocument_9 dP_requireDocument_12 dP_requireDocument_13 dP_requireDocument_15 dP_requireDocument_18
set_option maxHeartbeats 4000000 in
set_option maxRecDepth 100000 in
theorem c_P_requireState {e0 : Nat → va_E} {d : Int32} (h0 : 0 ≤ d.toInt) (h4 : d.toInt < 8) : Met l yP_requireState (Cond.code yP_requireState bP_requireState 1 none :: tws) { frames := 6, cells := 0, slots := 0, locals := 82 } (gPc (tw D cI cZ cT cJ base) D cl ad 25 base (e0) [.int d]) (gQc D cl ad 25 base none (fun e => e = e0)) 0 0 (gA base) := by
  refine Met.ofW (cc := bP_requireState) (maxL := 1) (ret := none) (by decide) rfl ?_
  intro p e s m args below meth c s₁ B hml hv
  obtain ⟨rfl, htw, hB, hP⟩ := hv
  have hx := B.exec
  have hb := B.bytes
  have hr := B.returns
  have hts0 := atoms_spec (ws := Cond.code yP_requireState bP_requireState 1 none :: tws) B.pre
  have hts : ∀ w ∈ tws, w.before _ s = true := fun w h => hts0 w (List.mem_cons_of_mem _ h)
  have hown : s.vm.findClass "PairedTexts" = some m.cls := findClass_of_methodNamed B.named
  have hlocks := B.notSynchronized
  have hno := B.noHandlers (hts0 _ List.mem_cons_self)
  have F : CallFix p m c bP_requireState 1 s _ tws "PairedTexts" := ⟨hx, hb, hml, hown, hts⟩
  have hK := htw.1
  have hS : va_S (gA base) s.heap s.heap [] := va_S.rf
  have hl := lv_entry ([.int d]) (n := 1) (Nat.le_of_ble_eq_true rfl)
  rw [lg_entry_eq]
  generalize (lg_sl ([.int d]) ++ List.replicate (1 - (lg_sl ([.int d])).length) Slot.unset).toArray = ls at hl ⊢
  have hl : lv_has ls 1 [(0, .int d)] := hl
  have z0 : (0 : Int32).toInt = 0 := rfl
  have z4 : (8 : Int32).toInt = 8 := rfl
  refine lv_iload_n hx hb dP_requireState_0 rfl (lv_at hl 0 rfl) ?_
  refine lv_if_lt (tgt := 10) hx hb dP_requireState_1 (by decide) (fun hc => absurd hc (by rw [Int32.lt_iff_toInt_lt]; omega)) (fun _ => ?_)
  refine lv_iload_n hx hb dP_requireState_4 rfl (lv_at hl 0 rfl) ?_
  refine lv_bipush (v := 8) hx hb dP_requireState_5 (by decide) ?_
  refine lv_icmp_lt (tgt := 20) hx hb dP_requireState_7 (by decide) (fun _ => ?_) (fun hc => absurd (Int32.lt_iff_toInt_lt.mpr (by omega)) hc)
  exact W.vret hx hb hr (fun t ht hW => ⟨rfl, ⟨_, rfl, by rw [ht]; exact hP⟩, hS.F ht⟩) hS.2.2 dP_requireState_20
set_option maxHeartbeats 4000000 in
set_option maxRecDepth 100000 in
theorem c_P_requireState_th (hst : l.stackTraces = false) {e0 : Nat → va_E} {d : Int32} (h : d.toInt < 0 ∨ 8 ≤ d.toInt) : MetTh l yP_requireState (Cond.code yP_requireState bP_requireState 1 none :: tws) { frames := 6, cells := 1, slots := 6, locals := 82 } (gPc (tw D cI cZ cT cJ base) D cl ad 25 base (e0) [.int d]) "java/lang/IllegalArgumentException" 1 6 := by
  refine MetTh.ofW (cc := bP_requireState) (maxL := 1) (ret := none) (by decide) rfl ?_
  intro p e s m args below meth c s₁ B hml hv
  obtain ⟨rfl, htw, hB, hP⟩ := hv
  have hx := B.exec
  have hb := B.bytes
  have hr := B.returns
  have hts0 := atoms_spec (ws := Cond.code yP_requireState bP_requireState 1 none :: tws) B.pre
  have hts : ∀ w ∈ tws, w.before _ s = true := fun w h => hts0 w (List.mem_cons_of_mem _ h)
  have hown : s.vm.findClass "PairedTexts" = some m.cls := findClass_of_methodNamed B.named
  have hlocks := B.notSynchronized
  have hno := B.noHandlers (hts0 _ List.mem_cons_self)
  have F : CallFix p m c bP_requireState 1 s _ tws "PairedTexts" := ⟨hx, hb, hml, hown, hts⟩
  have hK := htw.1
  have hS : va_S (gA base) s.heap s.heap [] := va_S.rf
  have hl := lv_entry ([.int d]) (n := 1) (Nat.le_of_ble_eq_true rfl)
  rw [lg_entry_eq]
  generalize (lg_sl ([.int d]) ++ List.replicate (1 - (lg_sl ([.int d])).length) Slot.unset).toArray = ls at hl ⊢
  have hl : lv_has ls 1 [(0, .int d)] := hl
  have z0 : (0 : Int32).toInt = 0 := rfl
  have z4 : (8 : Int32).toInt = 8 := rfl
  refine lv_iload_n hx hb dP_requireState_0 rfl (lv_at hl 0 rfl) ?_
  refine lv_if_lt (tgt := 10) hx hb dP_requireState_1 (by decide) (fun hc => ?_) (fun hc => ?_)
  · exact g_throw F hst hlocks hno htw (X := "java/lang/IllegalArgumentException") (by decide +kernel) k1_99 k1_100 k1_9 (oa_IAE hts htw) (List.mem_of_getElem? (l := strs) (i := 5) rfl) hl.1 (Nat.le_of_ble_eq_true rfl) (Nat.le_of_ble_eq_true rfl) (Nat.le_of_ble_eq_true rfl) (Nat.le_of_ble_eq_true rfl) dP_requireState_10 dP_requireState_13 dP_requireState_14 dP_requireState_16 dP_requireState_19
  · rw [Int32.lt_iff_toInt_lt] at hc
    refine lv_iload_n hx hb dP_requireState_4 rfl (lv_at hl 0 rfl) ?_
    refine lv_bipush (v := 8) hx hb dP_requireState_5 (by decide) ?_
    refine lv_icmp_lt (tgt := 20) hx hb dP_requireState_7 (by decide) (fun hc => absurd hc (by rw [Int32.lt_iff_toInt_lt]; omega)) (fun _ => ?_)
    exact g_throw F hst hlocks hno htw (X := "java/lang/IllegalArgumentException") (by decide +kernel) k1_99 k1_100 k1_9 (oa_IAE hts htw) (List.mem_of_getElem? (l := strs) (i := 5) rfl) hl.1 (Nat.le_of_ble_eq_true rfl) (Nat.le_of_ble_eq_true rfl) (Nat.le_of_ble_eq_true rfl) (Nat.le_of_ble_eq_true rfl) dP_requireState_10 dP_requireState_13 dP_requireState_14 dP_requireState_16 dP_requireState_19
set_option maxHeartbeats 4000000 in
set_option maxRecDepth 100000 in
theorem c_P_requireArgument {e0 : Nat → va_E} : Met l yP_requireArgument (Cond.code yP_requireArgument bP_requireArgument 1 none :: tws) { frames := 6, cells := 0, slots := 0, locals := 82 } (gPc (tw D cI cZ cT cJ base) D cl ad 25 base (e0) [.int 1]) (gQc D cl ad 25 base none (fun e => e = e0)) 0 0 (gA base) := by
  refine Met.ofW (cc := bP_requireArgument) (maxL := 1) (ret := none) (by decide) rfl ?_
  intro p e s m args below meth c s₁ B hml hv
  obtain ⟨rfl, htw, hB, hP⟩ := hv
  have hx := B.exec
  have hb := B.bytes
  have hr := B.returns
  have hts0 := atoms_spec (ws := Cond.code yP_requireArgument bP_requireArgument 1 none :: tws) B.pre
  have hts : ∀ w ∈ tws, w.before _ s = true := fun w h => hts0 w (List.mem_cons_of_mem _ h)
  have hown : s.vm.findClass "PairedTexts" = some m.cls := findClass_of_methodNamed B.named
  have hlocks := B.notSynchronized
  have hno := B.noHandlers (hts0 _ List.mem_cons_self)
  have F : CallFix p m c bP_requireArgument 1 s _ tws "PairedTexts" := ⟨hx, hb, hml, hown, hts⟩
  have hK := htw.1
  have hS : va_S (gA base) s.heap s.heap [] := va_S.rf
  have hl := lv_entry ([.int 1]) (n := 1) (Nat.le_of_ble_eq_true rfl)
  rw [lg_entry_eq]
  generalize (lg_sl ([.int 1]) ++ List.replicate (1 - (lg_sl ([.int 1])).length) Slot.unset).toArray = ls at hl ⊢
  have hl : lv_has ls 1 [(0, .int 1)] := hl
  refine lv_iload_n hx hb dP_requireArgument_0 rfl (lv_at hl 0 rfl) ?_
  refine lv_if_ne (tgt := 14) hx hb dP_requireArgument_1 (by decide) (fun _ => ?_) (fun hc => absurd hc (by decide))
  exact W.vret hx hb hr (fun t ht hW => ⟨rfl, ⟨_, rfl, by rw [ht]; exact hP⟩, hS.F ht⟩) hS.2.2 dP_requireArgument_14
set_option maxHeartbeats 4000000 in
set_option maxRecDepth 100000 in
theorem c_P_requireArgument_th (hst : l.stackTraces = false) {e0 : Nat → va_E} : MetTh l yP_requireArgument (Cond.code yP_requireArgument bP_requireArgument 1 none :: tws) { frames := 6, cells := 1, slots := 6, locals := 82 } (gPc (tw D cI cZ cT cJ base) D cl ad 25 base (e0) [.int 0]) "java/lang/IllegalArgumentException" 1 6 := by
  refine MetTh.ofW (cc := bP_requireArgument) (maxL := 1) (ret := none) (by decide) rfl ?_
  intro p e s m args below meth c s₁ B hml hv
  obtain ⟨rfl, htw, hB, hP⟩ := hv
  have hx := B.exec
  have hb := B.bytes
  have hr := B.returns
  have hts0 := atoms_spec (ws := Cond.code yP_requireArgument bP_requireArgument 1 none :: tws) B.pre
  have hts : ∀ w ∈ tws, w.before _ s = true := fun w h => hts0 w (List.mem_cons_of_mem _ h)
  have hown : s.vm.findClass "PairedTexts" = some m.cls := findClass_of_methodNamed B.named
  have hlocks := B.notSynchronized
  have hno := B.noHandlers (hts0 _ List.mem_cons_self)
  have F : CallFix p m c bP_requireArgument 1 s _ tws "PairedTexts" := ⟨hx, hb, hml, hown, hts⟩
  have hK := htw.1
  have hS : va_S (gA base) s.heap s.heap [] := va_S.rf
  have hl := lv_entry ([.int 0]) (n := 1) (Nat.le_of_ble_eq_true rfl)
  rw [lg_entry_eq]
  generalize (lg_sl ([.int 0]) ++ List.replicate (1 - (lg_sl ([.int 0])).length) Slot.unset).toArray = ls at hl ⊢
  have hl : lv_has ls 1 [(0, .int 0)] := hl
  refine lv_iload_n hx hb dP_requireArgument_0 rfl (lv_at hl 0 rfl) ?_
  refine lv_if_ne (tgt := 14) hx hb dP_requireArgument_1 (by decide) (fun hc => absurd (by decide) hc) (fun _ => ?_)
  exact g_throw F hst hlocks hno htw (X := "java/lang/IllegalArgumentException") (by decide +kernel) k1_99 k1_100 k1_9 (oa_IAE hts htw) (List.mem_of_getElem? (l := strs) (i := 1) rfl) hl.1 (Nat.le_of_ble_eq_true rfl) (Nat.le_of_ble_eq_true rfl) (Nat.le_of_ble_eq_true rfl) (Nat.le_of_ble_eq_true rfl) dP_requireArgument_4 dP_requireArgument_7 dP_requireArgument_8 dP_requireArgument_10 dP_requireArgument_13
set_option maxHeartbeats 4000000 in
set_option maxRecDepth 100000 in
theorem c_P_requireInside {e0 : Nat → va_E} : Met l yP_requireInside (Cond.code yP_requireInside bP_requireInside 1 none :: tws) { frames := 6, cells := 0, slots := 0, locals := 82 } (gPc (tw D cI cZ cT cJ base) D cl ad 25 base (e0) [.int 1]) (gQc D cl ad 25 base none (fun e => e = e0)) 0 0 (gA base) := by
  refine Met.ofW (cc := bP_requireInside) (maxL := 1) (ret := none) (by decide) rfl ?_
  intro p e s m args below meth c s₁ B hml hv
  obtain ⟨rfl, htw, hB, hP⟩ := hv
  have hx := B.exec
  have hb := B.bytes
  have hr := B.returns
  have hts0 := atoms_spec (ws := Cond.code yP_requireInside bP_requireInside 1 none :: tws) B.pre
  have hts : ∀ w ∈ tws, w.before _ s = true := fun w h => hts0 w (List.mem_cons_of_mem _ h)
  have hown : s.vm.findClass "PairedTexts" = some m.cls := findClass_of_methodNamed B.named
  have hlocks := B.notSynchronized
  have hno := B.noHandlers (hts0 _ List.mem_cons_self)
  have F : CallFix p m c bP_requireInside 1 s _ tws "PairedTexts" := ⟨hx, hb, hml, hown, hts⟩
  have hK := htw.1
  have hS : va_S (gA base) s.heap s.heap [] := va_S.rf
  have hl := lv_entry ([.int 1]) (n := 1) (Nat.le_of_ble_eq_true rfl)
  rw [lg_entry_eq]
  generalize (lg_sl ([.int 1]) ++ List.replicate (1 - (lg_sl ([.int 1])).length) Slot.unset).toArray = ls at hl ⊢
  have hl : lv_has ls 1 [(0, .int 1)] := hl
  refine lv_iload_n hx hb dP_requireInside_0 rfl (lv_at hl 0 rfl) ?_
  refine lv_if_ne (tgt := 14) hx hb dP_requireInside_1 (by decide) (fun _ => ?_) (fun hc => absurd hc (by decide))
  exact W.vret hx hb hr (fun t ht hW => ⟨rfl, ⟨_, rfl, by rw [ht]; exact hP⟩, hS.F ht⟩) hS.2.2 dP_requireInside_14
set_option maxHeartbeats 4000000 in
set_option maxRecDepth 100000 in
theorem c_P_requireInside_th (hst : l.stackTraces = false) {e0 : Nat → va_E} : MetTh l yP_requireInside (Cond.code yP_requireInside bP_requireInside 1 none :: tws) { frames := 6, cells := 1, slots := 6, locals := 82 } (gPc (tw D cI cZ cT cJ base) D cl ad 25 base (e0) [.int 0]) "java/lang/IndexOutOfBoundsException" 1 6 := by
  refine MetTh.ofW (cc := bP_requireInside) (maxL := 1) (ret := none) (by decide) rfl ?_
  intro p e s m args below meth c s₁ B hml hv
  obtain ⟨rfl, htw, hB, hP⟩ := hv
  have hx := B.exec
  have hb := B.bytes
  have hr := B.returns
  have hts0 := atoms_spec (ws := Cond.code yP_requireInside bP_requireInside 1 none :: tws) B.pre
  have hts : ∀ w ∈ tws, w.before _ s = true := fun w h => hts0 w (List.mem_cons_of_mem _ h)
  have hown : s.vm.findClass "PairedTexts" = some m.cls := findClass_of_methodNamed B.named
  have hlocks := B.notSynchronized
  have hno := B.noHandlers (hts0 _ List.mem_cons_self)
  have F : CallFix p m c bP_requireInside 1 s _ tws "PairedTexts" := ⟨hx, hb, hml, hown, hts⟩
  have hK := htw.1
  have hS : va_S (gA base) s.heap s.heap [] := va_S.rf
  have hl := lv_entry ([.int 0]) (n := 1) (Nat.le_of_ble_eq_true rfl)
  rw [lg_entry_eq]
  generalize (lg_sl ([.int 0]) ++ List.replicate (1 - (lg_sl ([.int 0])).length) Slot.unset).toArray = ls at hl ⊢
  have hl : lv_has ls 1 [(0, .int 0)] := hl
  refine lv_iload_n hx hb dP_requireInside_0 rfl (lv_at hl 0 rfl) ?_
  refine lv_if_ne (tgt := 14) hx hb dP_requireInside_1 (by decide) (fun hc => absurd (by decide) hc) (fun _ => ?_)
  exact g_throw F hst hlocks hno htw (X := "java/lang/IndexOutOfBoundsException") (by decide +kernel) k1_217 k1_218 k1_11 (oa_IOO hts htw) (List.mem_of_getElem? (l := strs) (i := 3) rfl) hl.1 (Nat.le_of_ble_eq_true rfl) (Nat.le_of_ble_eq_true rfl) (Nat.le_of_ble_eq_true rfl) (Nat.le_of_ble_eq_true rfl) dP_requireInside_4 dP_requireInside_7 dP_requireInside_8 dP_requireInside_10 dP_requireInside_13
set_option maxHeartbeats 4000000 in
set_option maxRecDepth 100000 in
theorem c_P_requireRoom {e0 : Nat → va_E} {v : Int64} (h : v.toInt ≤ 1000) : Met l yP_requireRoom (Cond.code yP_requireRoom bP_requireRoom 2 none :: tws) { frames := 6, cells := 0, slots := 0, locals := 82 } (gPc (tw D cI cZ cT cJ base) D cl ad 25 base (e0) [.long v]) (gQc D cl ad 25 base none (fun e => e = e0)) 0 0 (gA base) := by
  refine Met.ofW (cc := bP_requireRoom) (maxL := 2) (ret := none) (by decide) rfl ?_
  intro p e s m args below meth c s₁ B hml hv
  obtain ⟨rfl, htw, hB, hP⟩ := hv
  have hx := B.exec
  have hb := B.bytes
  have hr := B.returns
  have hts0 := atoms_spec (ws := Cond.code yP_requireRoom bP_requireRoom 2 none :: tws) B.pre
  have hts : ∀ w ∈ tws, w.before _ s = true := fun w h => hts0 w (List.mem_cons_of_mem _ h)
  have hown : s.vm.findClass "PairedTexts" = some m.cls := findClass_of_methodNamed B.named
  have hlocks := B.notSynchronized
  have hno := B.noHandlers (hts0 _ List.mem_cons_self)
  have F : CallFix p m c bP_requireRoom 2 s _ tws "PairedTexts" := ⟨hx, hb, hml, hown, hts⟩
  have hK := htw.1
  have hS : va_S (gA base) s.heap s.heap [] := va_S.rf
  have hl := lv_entry ([.long v]) (n := 2) (Nat.le_of_ble_eq_true rfl)
  rw [lg_entry_eq]
  generalize (lg_sl ([.long v]) ++ List.replicate (2 - (lg_sl ([.long v])).length) Slot.unset).toArray = ls at hl ⊢
  have hl : lv_has ls 2 [(0, .long v)] := hl
  have z0 : (1000 : Int64).toInt = 1000 := rfl
  refine lv_lload_n hx hb dP_requireRoom_0 rfl (lv_at hl 0 rfl) ?_
  refine lv_ldc2 (v := 1000) hx hb hown (hts _ k1_175) dP_requireRoom_1 ?_
  refine W.lcmp hx hb dP_requireRoom_4 ?_
  refine lv_if_le (tgt := 18) hx hb dP_requireRoom_5 (by decide) (fun _ => ?_) (fun hc => absurd (by rw [lg_cmp_le, Int64.le_iff_toInt_le]; omega) hc)
  exact W.vret hx hb hr (fun t ht hW => ⟨rfl, ⟨_, rfl, by rw [ht]; exact hP⟩, hS.F ht⟩) hS.2.2 dP_requireRoom_18
set_option maxHeartbeats 4000000 in
set_option maxRecDepth 100000 in
theorem c_P_requireRoom_th (hst : l.stackTraces = false) {e0 : Nat → va_E} {v : Int64} (h : 1000 < v.toInt) : MetTh l yP_requireRoom (Cond.code yP_requireRoom bP_requireRoom 2 none :: tws) { frames := 6, cells := 1, slots := 6, locals := 82 } (gPc (tw D cI cZ cT cJ base) D cl ad 25 base (e0) [.long v]) "java/lang/UnsupportedOperationException" 1 6 := by
  refine MetTh.ofW (cc := bP_requireRoom) (maxL := 2) (ret := none) (by decide) rfl ?_
  intro p e s m args below meth c s₁ B hml hv
  obtain ⟨rfl, htw, hB, hP⟩ := hv
  have hx := B.exec
  have hb := B.bytes
  have hr := B.returns
  have hts0 := atoms_spec (ws := Cond.code yP_requireRoom bP_requireRoom 2 none :: tws) B.pre
  have hts : ∀ w ∈ tws, w.before _ s = true := fun w h => hts0 w (List.mem_cons_of_mem _ h)
  have hown : s.vm.findClass "PairedTexts" = some m.cls := findClass_of_methodNamed B.named
  have hlocks := B.notSynchronized
  have hno := B.noHandlers (hts0 _ List.mem_cons_self)
  have F : CallFix p m c bP_requireRoom 2 s _ tws "PairedTexts" := ⟨hx, hb, hml, hown, hts⟩
  have hK := htw.1
  have hS : va_S (gA base) s.heap s.heap [] := va_S.rf
  have hl := lv_entry ([.long v]) (n := 2) (Nat.le_of_ble_eq_true rfl)
  rw [lg_entry_eq]
  generalize (lg_sl ([.long v]) ++ List.replicate (2 - (lg_sl ([.long v])).length) Slot.unset).toArray = ls at hl ⊢
  have hl : lv_has ls 2 [(0, .long v)] := hl
  have z0 : (1000 : Int64).toInt = 1000 := rfl
  refine lv_lload_n hx hb dP_requireRoom_0 rfl (lv_at hl 0 rfl) ?_
  refine lv_ldc2 (v := 1000) hx hb hown (hts _ k1_175) dP_requireRoom_1 ?_
  refine W.lcmp hx hb dP_requireRoom_4 ?_
  refine lv_if_le (tgt := 18) hx hb dP_requireRoom_5 (by decide) (fun hc => absurd hc (by rw [lg_cmp_le, Int64.le_iff_toInt_le]; omega)) (fun _ => ?_)
  exact g_throw F hst hlocks hno htw (X := "java/lang/UnsupportedOperationException") (by decide +kernel) k1_176 k1_177 k1_10 (oa_UOE hts htw) (List.mem_of_getElem? (l := strs) (i := 2) rfl) hl.1 (Nat.le_of_ble_eq_true rfl) (Nat.le_of_ble_eq_true rfl) (Nat.le_of_ble_eq_true rfl) (Nat.le_of_ble_eq_true rfl) dP_requireRoom_8 dP_requireRoom_11 dP_requireRoom_12 dP_requireRoom_14 dP_requireRoom_17
set_option maxHeartbeats 4000000 in
set_option maxRecDepth 100000 in
theorem c_P_requirePattern (h : S 7 0 ≠ 0) : Met l yP_requirePattern (Cond.code yP_requirePattern bP_requirePattern 1 none :: tws) { frames := 6, cells := 0, slots := 0, locals := 82 } (gPc (tw D cI cZ cT cJ base) D cl ad 25 base (en ad cI cZ cT cJ pi dr S M o) [.ref (ad 0)]) (gQc D cl ad 25 base none (fun e => e = en ad cI cZ cT cJ pi dr S M o)) 0 0 (gA base) := by
  refine Met.ofW (cc := bP_requirePattern) (maxL := 1) (ret := none) (by decide) rfl ?_
  intro p e s m args below meth c s₁ B hml hv
  obtain ⟨rfl, htw, hB, hP⟩ := hv
  have hx := B.exec
  have hb := B.bytes
  have hr := B.returns
  have hts0 := atoms_spec (ws := Cond.code yP_requirePattern bP_requirePattern 1 none :: tws) B.pre
  have hts : ∀ w ∈ tws, w.before _ s = true := fun w h => hts0 w (List.mem_cons_of_mem _ h)
  have hown : s.vm.findClass "PairedTexts" = some m.cls := findClass_of_methodNamed B.named
  have hlocks := B.notSynchronized
  have hno := B.noHandlers (hts0 _ List.mem_cons_self)
  have F : CallFix p m c bP_requirePattern 1 s _ tws "PairedTexts" := ⟨hx, hb, hml, hown, hts⟩
  have hK := htw.1
  have hS : va_S (gA base) s.heap s.heap [] := va_S.rf
  have hl := lv_entry ([.ref (ad 0)]) (n := 1) (Nat.le_of_ble_eq_true rfl)
  rw [lg_entry_eq]
  generalize (lg_sl ([.ref (ad 0)]) ++ List.replicate (1 - (lg_sl ([.ref (ad 0)])).length) Slot.unset).toArray = ls at hl ⊢
  have hl : lv_has ls 1 [(0, .ref (ad 0))] := hl
  refine lv_aload_n hx hb dP_requirePattern_0 rfl (lv_at hl 0 rfl) ?_
  refine g_get F hK hP (0) (by decide) rfl rfl iP 1 (by decide) k1_71 rfl dP_requirePattern_1 ?_
  refine g_get F hK hP (12) (by decide) rfl rfl iQ 1 (by decide) k1_49 rfl dP_requirePattern_4 ?_
  refine lv_if_ne (tgt := 20) hx hb dP_requirePattern_7 (by decide) (fun _ => ?_) (fun hc => absurd hc h)
  exact W.vret hx hb hr (fun t ht hW => ⟨rfl, ⟨_, rfl, by rw [ht]; exact hP⟩, hS.F ht⟩) hS.2.2 dP_requirePattern_20
set_option maxHeartbeats 4000000 in
set_option maxRecDepth 100000 in
theorem c_P_requirePattern_th (hst : l.stackTraces = false) (h : S 7 0 = 0) : MetTh l yP_requirePattern (Cond.code yP_requirePattern bP_requirePattern 1 none :: tws) { frames := 6, cells := 1, slots := 6, locals := 82 } (gPc (tw D cI cZ cT cJ base) D cl ad 25 base (en ad cI cZ cT cJ pi dr S M o) [.ref (ad 0)]) "java/lang/IllegalStateException" 1 6 := by
  refine MetTh.ofW (cc := bP_requirePattern) (maxL := 1) (ret := none) (by decide) rfl ?_
  intro p e s m args below meth c s₁ B hml hv
  obtain ⟨rfl, htw, hB, hP⟩ := hv
  have hx := B.exec
  have hb := B.bytes
  have hr := B.returns
  have hts0 := atoms_spec (ws := Cond.code yP_requirePattern bP_requirePattern 1 none :: tws) B.pre
  have hts : ∀ w ∈ tws, w.before _ s = true := fun w h => hts0 w (List.mem_cons_of_mem _ h)
  have hown : s.vm.findClass "PairedTexts" = some m.cls := findClass_of_methodNamed B.named
  have hlocks := B.notSynchronized
  have hno := B.noHandlers (hts0 _ List.mem_cons_self)
  have F : CallFix p m c bP_requirePattern 1 s _ tws "PairedTexts" := ⟨hx, hb, hml, hown, hts⟩
  have hK := htw.1
  have hS : va_S (gA base) s.heap s.heap [] := va_S.rf
  have hl := lv_entry ([.ref (ad 0)]) (n := 1) (Nat.le_of_ble_eq_true rfl)
  rw [lg_entry_eq]
  generalize (lg_sl ([.ref (ad 0)]) ++ List.replicate (1 - (lg_sl ([.ref (ad 0)])).length) Slot.unset).toArray = ls at hl ⊢
  have hl : lv_has ls 1 [(0, .ref (ad 0))] := hl
  refine lv_aload_n hx hb dP_requirePattern_0 rfl (lv_at hl 0 rfl) ?_
  refine g_get F hK hP (0) (by decide) rfl rfl iP 1 (by decide) k1_71 rfl dP_requirePattern_1 ?_
  refine g_get F hK hP (12) (by decide) rfl rfl iQ 1 (by decide) k1_49 rfl dP_requirePattern_4 ?_
  refine lv_if_ne (tgt := 20) hx hb dP_requirePattern_7 (by decide) (fun hc => absurd h hc) (fun _ => ?_)
  exact g_throw F hst hlocks hno htw (X := "java/lang/IllegalStateException") (by decide +kernel) k2_123 k2_124 k1_14 (oa_ISE hts htw) (List.mem_of_getElem? (l := strs) (i := 4) rfl) hl.1 (Nat.le_of_ble_eq_true rfl) (Nat.le_of_ble_eq_true rfl) (Nat.le_of_ble_eq_true rfl) (Nat.le_of_ble_eq_true rfl) dP_requirePattern_10 dP_requirePattern_13 dP_requirePattern_14 dP_requirePattern_16 dP_requirePattern_19
set_option maxHeartbeats 4000000 in
set_option maxRecDepth 100000 in
theorem c_P_textOf {k : Nat} (hk : k < 4) : Met l yP_textOf (Cond.code yP_textOf bP_textOf 2 (some (.object "PairedTexts$Text")) :: tws) { frames := 7, cells := 0, slots := 0, locals := 102 } (gPc (tw D cI cZ cT cJ base) D cl ad 25 base (en ad cI cZ cT cJ pi dr S M o) [.ref (ad 0), .int (nI k)]) (gQc D cl ad 25 base (some (.ref (ad (2 + 2 * pi k)))) (fun e => e = en ad cI cZ cT cJ pi dr S M o)) 0 0 (gA base) := by
  refine Met.ofW (cc := bP_textOf) (maxL := 2) (ret := (some (.object "PairedTexts$Text"))) (by decide) rfl ?_
  intro p e s m args below meth c s₁ B hml hv
  obtain ⟨rfl, htw, hB, hP⟩ := hv
  have hx := B.exec
  have hb := B.bytes
  have hr := B.returns
  have hts0 := atoms_spec (ws := Cond.code yP_textOf bP_textOf 2 (some (.object "PairedTexts$Text")) :: tws) B.pre
  have hts : ∀ w ∈ tws, w.before _ s = true := fun w h => hts0 w (List.mem_cons_of_mem _ h)
  have hown : s.vm.findClass "PairedTexts" = some m.cls := findClass_of_methodNamed B.named
  have hlocks := B.notSynchronized
  have hno := B.noHandlers (hts0 _ List.mem_cons_self)
  have F : CallFix p m c bP_textOf 2 s _ tws "PairedTexts" := ⟨hx, hb, hml, hown, hts⟩
  have hK := htw.1
  have hS : va_S (gA base) s.heap s.heap [] := va_S.rf
  have hl := lv_entry ([.ref (ad 0), .int (nI k)]) (n := 2) (Nat.le_of_ble_eq_true rfl)
  rw [lg_entry_eq]
  generalize (lg_sl ([.ref (ad 0), .int (nI k)]) ++ List.replicate (2 - (lg_sl ([.ref (ad 0), .int (nI k)])).length) Slot.unset).toArray = ls at hl ⊢
  have hl : lv_has ls 2 [(0, .ref (ad 0)), (1, .int (nI k))] := hl
  have zk : (nI k).toInt = k := nI_toInt (by omega)
  refine lv_iload_n hx hb dP_textOf_0 rfl (lv_at hl 1 rfl) ?_
  refine g_S (k := 1) F htw hB hS hP (c_P_requireDocument (by omega) (by omega)) k1_96 k1_97 k1_1 k1_98 (by decide +kernel) rfl rfl ⟨Nat.le_of_ble_eq_true rfl, Nat.le_of_ble_eq_true rfl⟩ rfl hl.1 rfl (Nat.le_of_ble_eq_true rfl) dP_textOf_1 ⟨Nat.le_of_ble_eq_true rfl, Nat.le_of_ble_eq_true rfl⟩ (fun en1 H locs he hP hS => ?_)
  obtain rfl := he
  refine lv_aload_n hx hb dP_textOf_4 rfl (lv_at hl 0 rfl) ?_
  refine g_get F hK hP (0) (by decide) rfl rfl iP 0 (by decide) k1_70 rfl dP_textOf_5 ?_
  refine lv_iload_n hx hb dP_textOf_8 rfl (lv_at hl 1 rfl) ?_
  refine g_aald F hK hP (1) (by decide) 2 rfl rfl (vp_in_nI hk (by omega)) dP_textOf_9 ?_
  rw [nI_clamp (show k < 2 ^ 31 by omega)]
  exact W.aret hx hb hr (Or.inl ⟨_, rfl⟩) (Or.inr ⟨_, rfl⟩) (fun t ht hW => ⟨rfl, ⟨_, rfl, by rw [ht]; exact hP⟩, hS.F ht⟩) hS.2.2 dP_textOf_10
set_option maxHeartbeats 4000000 in
set_option maxRecDepth 100000 in
theorem c_P_textOf_th (hst : l.stackTraces = false) {d : Int32} (h : d.toInt < 0 ∨ 4 ≤ d.toInt) : MetTh l yP_textOf (Cond.code yP_textOf bP_textOf 2 (some (.object "PairedTexts$Text")) :: tws) { frames := 7, cells := 1, slots := 6, locals := 102 } (gPc (tw D cI cZ cT cJ base) D cl ad 25 base (en ad cI cZ cT cJ pi dr S M o) [.ref (ad 0), .int d]) "java/lang/IllegalArgumentException" 1 6 := by
  refine MetTh.ofW (cc := bP_textOf) (maxL := 2) (ret := (some (.object "PairedTexts$Text"))) (by decide) rfl ?_
  intro p e s m args below meth c s₁ B hml hv
  obtain ⟨rfl, htw, hB, hP⟩ := hv
  have hx := B.exec
  have hb := B.bytes
  have hr := B.returns
  have hts0 := atoms_spec (ws := Cond.code yP_textOf bP_textOf 2 (some (.object "PairedTexts$Text")) :: tws) B.pre
  have hts : ∀ w ∈ tws, w.before _ s = true := fun w h => hts0 w (List.mem_cons_of_mem _ h)
  have hown : s.vm.findClass "PairedTexts" = some m.cls := findClass_of_methodNamed B.named
  have hlocks := B.notSynchronized
  have hno := B.noHandlers (hts0 _ List.mem_cons_self)
  have F : CallFix p m c bP_textOf 2 s _ tws "PairedTexts" := ⟨hx, hb, hml, hown, hts⟩
  have hK := htw.1
  have hS : va_S (gA base) s.heap s.heap [] := va_S.rf
  have hl := lv_entry ([.ref (ad 0), .int d]) (n := 2) (Nat.le_of_ble_eq_true rfl)
  rw [lg_entry_eq]
  generalize (lg_sl ([.ref (ad 0), .int d]) ++ List.replicate (2 - (lg_sl ([.ref (ad 0), .int d])).length) Slot.unset).toArray = ls at hl ⊢
  have hl : lv_has ls 2 [(0, .ref (ad 0)), (1, .int d)] := hl
  refine lv_iload_n hx hb dP_textOf_0 rfl (lv_at hl 1 rfl) ?_
  exact g_ST0 (k := 1) F hlocks hno htw hB hP (c_P_requireDocument_th hst h) k1_96 k1_97 k1_1 k1_98 (by decide +kernel) rfl rfl ⟨Nat.le_of_ble_eq_true rfl, Nat.le_of_ble_eq_true rfl⟩ rfl hl.1 rfl (Nat.le_of_ble_eq_true rfl) dP_textOf_1 ⟨Nat.le_of_ble_eq_true rfl, Nat.le_of_ble_eq_true rfl⟩
set_option maxHeartbeats 4000000 in
set_option maxRecDepth 100000 in
theorem c_P_draftBecomesTextOf (G : gGeo ad 25 base) {k : Nat} (hk : k < 4) (hp : pi k < 5) (hdr : dr < 5) : Met l yP_draftBecomesTextOf (Cond.code yP_draftBecomesTextOf bP_draftBecomesTextOf 3 (some .int) :: tws) { frames := 0, cells := 0, slots := 0, locals := 0 } (gPc (tw D cI cZ cT cJ base) D cl ad 25 base (en ad cI cZ cT cJ pi dr S M o) [.ref (ad 0), .int (nI k)]) (gQc D cl ad 25 base (some (.int (S 5 dr))) (fun e => e = en ad cI cZ cT cJ (va_up pi k dr) (pi k) S M o)) 0 0 (gA base) := by
  refine Met.ofW (cc := bP_draftBecomesTextOf) (maxL := 3) (ret := (some .int)) (by decide) rfl ?_
  intro p e s m args below meth c s₁ B hml hv
  obtain ⟨rfl, htw, hB, hP⟩ := hv
  have hx := B.exec
  have hb := B.bytes
  have hr := B.returns
  have hts0 := atoms_spec (ws := Cond.code yP_draftBecomesTextOf bP_draftBecomesTextOf 3 (some .int) :: tws) B.pre
  have hts : ∀ w ∈ tws, w.before _ s = true := fun w h => hts0 w (List.mem_cons_of_mem _ h)
  have hown : s.vm.findClass "PairedTexts" = some m.cls := findClass_of_methodNamed B.named
  have hlocks := B.notSynchronized
  have hno := B.noHandlers (hts0 _ List.mem_cons_self)
  have F : CallFix p m c bP_draftBecomesTextOf 3 s _ tws "PairedTexts" := ⟨hx, hb, hml, hown, hts⟩
  have hK := htw.1
  have hS : va_S (gA base) s.heap s.heap [] := va_S.rf
  have hl := lv_entry ([.ref (ad 0), .int (nI k)]) (n := 3) (Nat.le_of_ble_eq_true rfl)
  rw [lg_entry_eq]
  generalize (lg_sl ([.ref (ad 0), .int (nI k)]) ++ List.replicate (3 - (lg_sl ([.ref (ad 0), .int (nI k)])).length) Slot.unset).toArray = ls at hl ⊢
  have hl : lv_has ls 3 [(0, .ref (ad 0)), (1, .int (nI k))] := hl
  have ck : (nI k).toNatClampNeg = k := nI_clamp (by omega)
  refine lv_aload_n hx hb dP_draftBecomesTextOf_0 rfl (lv_at hl 0 rfl) ?_
  refine g_get F hK hP (0) (by decide) rfl rfl iP 0 (by decide) k1_70 rfl dP_draftBecomesTextOf_1 ?_
  refine lv_iload_n hx hb dP_draftBecomesTextOf_4 rfl (lv_at hl 1 rfl) ?_
  refine g_aald F hK hP (1) (by decide) 2 rfl rfl (vp_in_nI hk (by omega)) dP_draftBecomesTextOf_5 ?_
  rw [ck]
  refine lv_astore_n hx hb dP_draftBecomesTextOf_6 rfl hl (by decide) rfl (fun ls hl => ?_)
  have hl : lv_has ls 3 [(2, .ref _), (0, .ref _), (1, .int _)] := hl
  refine lv_aload_n hx hb dP_draftBecomesTextOf_7 rfl (lv_at hl 1 rfl) ?_
  refine g_get F hK hP (0) (by decide) rfl rfl iP 0 (by decide) k1_70 rfl dP_draftBecomesTextOf_8 ?_
  refine lv_iload_n hx hb dP_draftBecomesTextOf_11 rfl (lv_at hl 2 rfl) ?_
  refine lv_aload_n hx hb dP_draftBecomesTextOf_12 rfl (lv_at hl 1 rfl) ?_
  refine g_get F hK hP (0) (by decide) rfl rfl iP 3 (by decide) k1_73 rfl dP_draftBecomesTextOf_13 ?_
  refine g_aast F hK G hP hS 1 (by decide) 2 (2 + 2 * dr) (by omega) rfl rfl (en_T _ _ _ _ _ _ _ _ _ _ hdr) rfl (vp_in_nI hk (by omega)) dP_draftBecomesTextOf_16 (fun H locs hP hS => ?_)
  rw [ck] at hP
  have hP := P_of hP (en_pi _ _ _ _ _ _ _ _ _ _ _ _)
  refine lv_aload_n hx hb dP_draftBecomesTextOf_17 rfl (lv_at hl 1 rfl) ?_
  refine lv_aload_n hx hb dP_draftBecomesTextOf_18 rfl (lv_at hl 0 rfl) ?_
  refine g_put F hK G hP hS (0) (by decide) rfl rfl iP tP tP_ok nP 3 (by decide) k1_73 rfl (ty := .object "PairedTexts$Text") (by decide +kernel) rfl rfl (Nat.le_of_ble_eq_true rfl) dP_draftBecomesTextOf_19 (fun H locs hP hS => ?_)
  have hP := P_of hP (en_dr _ _ _ _ _ _ _ _ _ _ _)
  refine lv_aload_n hx hb dP_draftBecomesTextOf_22 rfl (lv_at hl 1 rfl) ?_
  refine g_get F hK hP (0) (by decide) rfl rfl iP 0 (by decide) k1_70 rfl dP_draftBecomesTextOf_23 ?_
  refine lv_iload_n hx hb dP_draftBecomesTextOf_26 rfl (lv_at hl 2 rfl) ?_
  refine g_aald F hK hP (1) (by decide) 2 rfl rfl (vp_in_nI hk (by omega)) dP_draftBecomesTextOf_27 ?_
  rw [ck]
  have ev : va_up pi k dr k = dr := if_pos rfl
  rw [ev]
  refine g_get F hK hP (2 + 2 * dr) (by omega) (en_T _ _ _ _ _ _ _ _ _ _ hdr) rfl iT 1 (by decide) k1_34 rfl dP_draftBecomesTextOf_28 ?_
  exact W.iret hx hb hr (fun t ht hW => ⟨rfl, ⟨_, rfl, by rw [ht]; exact hP⟩, hS.F ht⟩) hS.2.2 dP_draftBecomesTextOf_31
end M2
