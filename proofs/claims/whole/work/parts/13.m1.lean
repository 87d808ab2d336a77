/-! The class's small methods. -/
theorem P_of {D : va_G} {cl : List vw_C} {ad : Nat → Nat} {e1 e2 : Nat → va_E} {n : Nat} {H : Heap} (h : va_P D cl (gw ad e1 n) H) (he : ∀ j, j < n → e1 j = e2 j) : va_P D cl (gw ad e2 n) H := by rw [← gw_eq he]; exact h
/-- 0 ≤ f ≤ t ≤ n -/
def rgL (f : Int32) (t : Int64) (n : Nat) : Bool := decide (0 ≤ f.toInt ∧ f.toInt ≤ t.toInt ∧ t.toInt ≤ (n : Int))
def pcL (f : Int32) (n : Nat) : Bool := decide (0 ≤ f.toInt ∧ f.toInt ≤ (n : Int))
section M1
variable {l : Launch} {D : va_G} {cI cZ cT cJ : ClassId} {base : Nat} {ad : Nat → Nat} {pi : Nat → Nat} {dr : Nat} {S M : Nat → Nat → Int32} {o : Nat → Int64}
set_option maxHeartbeats 4000000 in
set_option maxRecDepth 100000 in
theorem c_T_clear (G : gGeo ad 25 base) {q : Nat} (hq : q < 5) : Met l yT_clear (Cond.code yT_clear bT_clear 1 none :: tws) { frames := 0, cells := 0, slots := 0, locals := 0 } (gPc (tw D cI cZ cT cJ base) D cl ad 25 base (en ad cI cZ cT cJ pi dr S M o) [.ref (ad (2 + 2 * q))]) (gQc D cl ad 25 base none (fun e => e = en ad cI cZ cT cJ pi dr (sr S 5 (upd (S 5) q 0)) M o)) 0 0 (gA base) := by
  refine Met.ofW (cc := bT_clear) (maxL := 1) (ret := none) (by decide) rfl ?_
  intro p e s m args below meth c s₁ B hml hv
  obtain ⟨rfl, htw, hB, hP⟩ := hv
  have hx := B.exec
  have hb := B.bytes
  have hr := B.returns
  have hts0 := atoms_spec (ws := Cond.code yT_clear bT_clear 1 none :: tws) B.pre
  have hts : ∀ w ∈ tws, w.before _ s = true := fun w h => hts0 w (List.mem_cons_of_mem _ h)
  have hown : s.vm.findClass "PairedTexts$Text" = some m.cls := findClass_of_methodNamed B.named
  have hlocks := B.notSynchronized
  have hno := B.noHandlers (hts0 _ List.mem_cons_self)
  have F : CallFix p m c bT_clear 1 s _ tws "PairedTexts$Text" := ⟨hx, hb, hml, hown, hts⟩
  have hK := htw.1
  have hS : va_S (gA base) s.heap s.heap [] := va_S.rf
  have hl := lv_entry ([.ref (ad (2 + 2 * q))]) (n := 1) (Nat.le_of_ble_eq_true rfl)
  rw [lg_entry_eq]
  generalize (lg_sl ([.ref (ad (2 + 2 * q))]) ++ List.replicate (1 - (lg_sl ([.ref (ad (2 + 2 * q))])).length) Slot.unset).toArray = ls at hl ⊢
  have hl : lv_has ls 1 [(0, .ref (ad (2 + 2 * q)))] := hl
  refine lv_aload_n hx hb dT_clear_0 rfl (lv_at hl 0 rfl) ?_
  refine lv_iconst (v := 0) hx hb dT_clear_1 (by decide) ?_
  refine g_put F hK G hP hS (2 + 2 * q) (by omega) (en_T _ _ _ _ _ _ _ _ _ _ hq) rfl iT tT tT_ok nT 1 (by decide) k1_33 rfl (ty := .int) (by decide +kernel) rfl rfl (Nat.le_of_ble_eq_true rfl) dT_clear_2 (fun H locs hP hS => ?_)
  have hP := P_of hP (en_sz _ _ _ _ _ _ _ _ _ _ _ hq)
  exact W.vret hx hb hr (fun t ht hW => ⟨rfl, ⟨_, rfl, by rw [ht]; exact hP⟩, hS.F ht⟩) hS.2.2 dT_clear_5
set_option maxHeartbeats 4000000 in
set_option maxRecDepth 100000 in
theorem c_T_add (G : gGeo ad 25 base) {q k : Nat} (hq : q < 5) (hk : k < 1000) (h5 : S 5 q = nI k) (b : Int32) : Met l yT_add (Cond.code yT_add bT_add 2 none :: tws) { frames := 0, cells := 0, slots := 0, locals := 0 } (gPc (tw D cI cZ cT cJ base) D cl ad 25 base (en ad cI cZ cT cJ pi dr S M o) [.ref (ad (2 + 2 * q)), .int b]) (gQc D cl ad 25 base none (fun e => e = en ad cI cZ cT cJ pi dr (sr (sr S q (upd (S q) k b)) 5 (upd (S 5) q (nI (k + 1)))) M o)) 0 0 (gA base) := by
  refine Met.ofW (cc := bT_add) (maxL := 2) (ret := none) (by decide) rfl ?_
  intro p e s m args below meth c s₁ B hml hv
  obtain ⟨rfl, htw, hB, hP⟩ := hv
  have hx := B.exec
  have hb := B.bytes
  have hr := B.returns
  have hts0 := atoms_spec (ws := Cond.code yT_add bT_add 2 none :: tws) B.pre
  have hts : ∀ w ∈ tws, w.before _ s = true := fun w h => hts0 w (List.mem_cons_of_mem _ h)
  have hown : s.vm.findClass "PairedTexts$Text" = some m.cls := findClass_of_methodNamed B.named
  have hlocks := B.notSynchronized
  have hno := B.noHandlers (hts0 _ List.mem_cons_self)
  have F : CallFix p m c bT_add 2 s _ tws "PairedTexts$Text" := ⟨hx, hb, hml, hown, hts⟩
  have hK := htw.1
  have hS : va_S (gA base) s.heap s.heap [] := va_S.rf
  have hl := lv_entry ([.ref (ad (2 + 2 * q)), .int b]) (n := 2) (Nat.le_of_ble_eq_true rfl)
  rw [lg_entry_eq]
  generalize (lg_sl ([.ref (ad (2 + 2 * q)), .int b]) ++ List.replicate (2 - (lg_sl ([.ref (ad (2 + 2 * q)), .int b])).length) Slot.unset).toArray = ls at hl ⊢
  have hl : lv_has ls 2 [(0, .ref (ad (2 + 2 * q))), (1, .int b)] := hl
  refine lv_aload_n hx hb dT_add_0 rfl (lv_at hl 0 rfl) ?_
  refine g_get F hK hP (2 + 2 * q) (by omega) (en_T _ _ _ _ _ _ _ _ _ _ hq) rfl iT 0 (by decide) k1_30 rfl dT_add_1 ?_
  refine lv_aload_n hx hb dT_add_4 rfl (lv_at hl 0 rfl) ?_
  refine g_get F hK hP (2 + 2 * q) (by omega) (en_T _ _ _ _ _ _ _ _ _ _ hq) rfl iT 1 (by decide) k1_33 rfl dT_add_5 ?_
  refine lv_iload_n hx hb dT_add_8 rfl (lv_at hl 1 rfl) ?_
  refine g_iast F hK G hP hS (3 + 2 * q) (by omega) 0 (en_B _ _ _ _ _ _ _ _ _ _ hq) rfl (by rw [h5]; exact vp_in_nI hk (by omega)) dT_add_9 (fun H locs hP hS => ?_)
  rw [h5, nI_clamp (show k < 2 ^ 31 by omega)] at hP
  have hP := P_of hP (en_by _ _ _ _ _ _ _ _ _ _ _ hq)
  refine lv_aload_n hx hb dT_add_10 rfl (lv_at hl 0 rfl) ?_
  refine lv_dup hx hb dT_add_11 rfl ?_
  refine g_get F hK hP (2 + 2 * q) (by omega) (en_T _ _ _ _ _ _ _ _ _ _ hq) rfl iT 1 (by decide) k1_33 rfl dT_add_12 ?_
  refine lv_iconst (v := 1) hx hb dT_add_15 (by decide) ?_
  refine lv_iadd hx hb dT_add_16 ?_
  refine g_put F hK G hP hS (2 + 2 * q) (by omega) (en_T _ _ _ _ _ _ _ _ _ _ hq) rfl iT tT tT_ok nT 1 (by decide) k1_33 rfl (ty := .int) (by decide +kernel) rfl rfl (Nat.le_of_ble_eq_true rfl) dT_add_17 (fun H locs hP hS => ?_)
  have hP := P_of hP (en_sz _ _ _ _ _ _ _ _ _ _ _ hq)
  rw [sr_n (show (5 : Nat) ≠ q by omega), h5, nI_1] at hP
  exact W.vret hx hb hr (fun t ht hW => ⟨rfl, ⟨_, rfl, by rw [ht]; exact hP⟩, hS.F ht⟩) hS.2.2 dT_add_20
set_option maxHeartbeats 4000000 in
set_option maxRecDepth 100000 in
theorem c_P_byteOf {e0 : Nat → va_E} (v : Int64) {k : Nat} (hk : k < 8) : Met l yP_byteOf (Cond.code yP_byteOf bP_byteOf 3 (some .int) :: tws) { frames := 0, cells := 0, slots := 0, locals := 0 } (gPc (tw D cI cZ cT cJ base) D cl ad 25 base (e0) [.long v, .int (nI k)]) (gQc D cl ad 25 base (some (.int (nI (byt v k)))) (fun e => e = e0)) 0 0 (gA base) := by
  refine Met.ofW (cc := bP_byteOf) (maxL := 3) (ret := (some .int)) (by decide) rfl ?_
  intro p e s m args below meth c s₁ B hml hv
  obtain ⟨rfl, htw, hB, hP⟩ := hv
  have hx := B.exec
  have hb := B.bytes
  have hr := B.returns
  have hts0 := atoms_spec (ws := Cond.code yP_byteOf bP_byteOf 3 (some .int) :: tws) B.pre
  have hts : ∀ w ∈ tws, w.before _ s = true := fun w h => hts0 w (List.mem_cons_of_mem _ h)
  have hown : s.vm.findClass "PairedTexts" = some m.cls := findClass_of_methodNamed B.named
  have hlocks := B.notSynchronized
  have hno := B.noHandlers (hts0 _ List.mem_cons_self)
  have F : CallFix p m c bP_byteOf 3 s _ tws "PairedTexts" := ⟨hx, hb, hml, hown, hts⟩
  have hK := htw.1
  have hS : va_S (gA base) s.heap s.heap [] := va_S.rf
  have hl := lv_entry ([.long v, .int (nI k)]) (n := 3) (Nat.le_of_ble_eq_true rfl)
  rw [lg_entry_eq]
  generalize (lg_sl ([.long v, .int (nI k)]) ++ List.replicate (3 - (lg_sl ([.long v, .int (nI k)])).length) Slot.unset).toArray = ls at hl ⊢
  have hl : lv_has ls 3 [(0, .long v), (2, .int (nI k))] := hl
  refine lv_lload_n hx hb dP_byteOf_0 rfl (lv_at hl 0 rfl) ?_
  refine lv_bipush (v := 8) hx hb dP_byteOf_1 (by decide) ?_
  refine lv_iload_n hx hb dP_byteOf_3 rfl (lv_at hl 1 rfl) ?_
  refine lv_imul hx hb dP_byteOf_4 ?_
  have e8 : (8 : Int32) * nI k = nI (8 * k) := pk_mul 8 k
  rw [e8]
  refine lv_lushr hx hb dP_byteOf_5 rfl ?_
  refine lv_l2i hx hb dP_byteOf_6 rfl ?_
  refine lv_sipush (v := 255) hx hb dP_byteOf_7 (by decide) ?_
  refine lv_iand hx hb dP_byteOf_10 ?_
  rw [by_cls v hk]
  exact W.iret hx hb hr (fun t ht hW => ⟨rfl, ⟨_, rfl, by rw [ht]; exact hP⟩, hS.F ht⟩) hS.2.2 dP_byteOf_11
set_option maxHeartbeats 4000000 in
set_option maxRecDepth 100000 in
theorem c_A_nextOf {s0 b : Nat} (hs : s0 < 8) (hb0 : b < 256) : Met l yA_nextOf (Cond.code yA_nextOf bA_nextOf 3 (some .int) :: tws) { frames := 0, cells := 0, slots := 0, locals := 0 } (gPc (tw D cI cZ cT cJ base) D cl ad 25 base (en ad cI cZ cT cJ pi dr S M o) [.ref (ad 14), .int (nI s0), .int (nI b)]) (gQc D cl ad 25 base (some (.int (S 8 (256 * s0 + b)))) (fun e => e = en ad cI cZ cT cJ pi dr S M o)) 0 0 (gA base) := by
  refine Met.ofW (cc := bA_nextOf) (maxL := 3) (ret := (some .int)) (by decide) rfl ?_
  intro p e s m args below meth c s₁ B hml hv
  obtain ⟨rfl, htw, hB, hP⟩ := hv
  have hx := B.exec
  have hb := B.bytes
  have hr := B.returns
  have hts0 := atoms_spec (ws := Cond.code yA_nextOf bA_nextOf 3 (some .int) :: tws) B.pre
  have hts : ∀ w ∈ tws, w.before _ s = true := fun w h => hts0 w (List.mem_cons_of_mem _ h)
  have hown : s.vm.findClass "PairedTexts$Automaton" = some m.cls := findClass_of_methodNamed B.named
  have hlocks := B.notSynchronized
  have hno := B.noHandlers (hts0 _ List.mem_cons_self)
  have F : CallFix p m c bA_nextOf 3 s _ tws "PairedTexts$Automaton" := ⟨hx, hb, hml, hown, hts⟩
  have hK := htw.1
  have hS : va_S (gA base) s.heap s.heap [] := va_S.rf
  have hl := lv_entry ([.ref (ad 14), .int (nI s0), .int (nI b)]) (n := 3) (Nat.le_of_ble_eq_true rfl)
  rw [lg_entry_eq]
  generalize (lg_sl ([.ref (ad 14), .int (nI s0), .int (nI b)]) ++ List.replicate (3 - (lg_sl ([.ref (ad 14), .int (nI s0), .int (nI b)])).length) Slot.unset).toArray = ls at hl ⊢
  have hl : lv_has ls 3 [(0, .ref (ad 14)), (1, .int (nI s0)), (2, .int (nI b))] := hl
  refine lv_aload_n hx hb dA_nextOf_0 rfl (lv_at hl 0 rfl) ?_
  refine g_get F hK hP (14) (by decide) rfl rfl iA 0 (by decide) k1_61 rfl dA_nextOf_1 ?_
  refine lv_iload_n hx hb dA_nextOf_4 rfl (lv_at hl 1 rfl) ?_
  refine lv_sipush (v := 256) hx hb dA_nextOf_5 (by decide) ?_
  refine lv_imul hx hb dA_nextOf_8 ?_
  refine lv_iload_n hx hb dA_nextOf_9 rfl (lv_at hl 2 rfl) ?_
  refine lv_iadd hx hb dA_nextOf_10 ?_
  have e1 : nI s0 * 256 + nI b = nI (256 * s0 + b) := by rw [show (256 : Int32) = nI 256 from rfl, pk_mul, nI_add, Nat.mul_comm]
  rw [e1]
  refine g_iald F hK hP (15) (by decide) 0 rfl rfl (vp_in_nI (show 256 * s0 + b < 2048 by omega) (by omega)) dA_nextOf_11 ?_
  rw [nI_clamp (show 256 * s0 + b < 2 ^ 31 by omega)]
  exact W.iret hx hb hr (fun t ht hW => ⟨rfl, ⟨_, rfl, by rw [ht]; exact hP⟩, hS.F ht⟩) hS.2.2 dA_nextOf_12
set_option maxHeartbeats 4000000 in
set_option maxRecDepth 100000 in
theorem c_A_setNext (G : gGeo ad 25 base) {s0 b : Nat} (hs : s0 < 8) (hb0 : b < 256) (t0 : Int32) : Met l yA_setNext (Cond.code yA_setNext bA_setNext 4 none :: tws) { frames := 0, cells := 0, slots := 0, locals := 0 } (gPc (tw D cI cZ cT cJ base) D cl ad 25 base (en ad cI cZ cT cJ pi dr S M o) [.ref (ad 14), .int (nI s0), .int (nI b), .int t0]) (gQc D cl ad 25 base none (fun e => e = en ad cI cZ cT cJ pi dr (sr S 8 (upd (S 8) (256 * s0 + b) t0)) M o)) 0 0 (gA base) := by
  refine Met.ofW (cc := bA_setNext) (maxL := 4) (ret := none) (by decide) rfl ?_
  intro p e s m args below meth c s₁ B hml hv
  obtain ⟨rfl, htw, hB, hP⟩ := hv
  have hx := B.exec
  have hb := B.bytes
  have hr := B.returns
  have hts0 := atoms_spec (ws := Cond.code yA_setNext bA_setNext 4 none :: tws) B.pre
  have hts : ∀ w ∈ tws, w.before _ s = true := fun w h => hts0 w (List.mem_cons_of_mem _ h)
  have hown : s.vm.findClass "PairedTexts$Automaton" = some m.cls := findClass_of_methodNamed B.named
  have hlocks := B.notSynchronized
  have hno := B.noHandlers (hts0 _ List.mem_cons_self)
  have F : CallFix p m c bA_setNext 4 s _ tws "PairedTexts$Automaton" := ⟨hx, hb, hml, hown, hts⟩
  have hK := htw.1
  have hS : va_S (gA base) s.heap s.heap [] := va_S.rf
  have hl := lv_entry ([.ref (ad 14), .int (nI s0), .int (nI b), .int t0]) (n := 4) (Nat.le_of_ble_eq_true rfl)
  rw [lg_entry_eq]
  generalize (lg_sl ([.ref (ad 14), .int (nI s0), .int (nI b), .int t0]) ++ List.replicate (4 - (lg_sl ([.ref (ad 14), .int (nI s0), .int (nI b), .int t0])).length) Slot.unset).toArray = ls at hl ⊢
  have hl : lv_has ls 4 [(0, .ref (ad 14)), (1, .int (nI s0)), (2, .int (nI b)), (3, .int t0)] := hl
  refine lv_aload_n hx hb dA_setNext_0 rfl (lv_at hl 0 rfl) ?_
  refine g_get F hK hP (14) (by decide) rfl rfl iA 0 (by decide) k1_61 rfl dA_setNext_1 ?_
  refine lv_iload_n hx hb dA_setNext_4 rfl (lv_at hl 1 rfl) ?_
  refine lv_sipush (v := 256) hx hb dA_setNext_5 (by decide) ?_
  refine lv_imul hx hb dA_setNext_8 ?_
  refine lv_iload_n hx hb dA_setNext_9 rfl (lv_at hl 2 rfl) ?_
  refine lv_iadd hx hb dA_setNext_10 ?_
  refine lv_iload_n hx hb dA_setNext_11 rfl (lv_at hl 3 rfl) ?_
  have e1 : nI s0 * 256 + nI b = nI (256 * s0 + b) := by rw [show (256 : Int32) = nI 256 from rfl, pk_mul, nI_add, Nat.mul_comm]
  rw [e1]
  refine g_iast F hK G hP hS (15) (by decide) 0 rfl rfl (vp_in_nI (show 256 * s0 + b < 2048 by omega) (by omega)) dA_setNext_12 (fun H locs hP hS => ?_)
  rw [nI_clamp (show 256 * s0 + b < 2 ^ 31 by omega)] at hP
  have hP := P_of hP (en_nx _ _ _ _ _ _ _ _ _ _ _)
  exact W.vret hx hb hr (fun t ht hW => ⟨rfl, ⟨_, rfl, by rw [ht]; exact hP⟩, hS.F ht⟩) hS.2.2 dA_setNext_13
set_option maxHeartbeats 4000000 in
set_option maxRecDepth 100000 in
theorem c_T_hasRange {q n : Nat} (hq : q < 5) (hn : n ≤ 1000) (h5 : S 5 q = nI n) (f : Int32) (t : Int64) : Met l yT_hasRange (Cond.code yT_hasRange bT_hasRange 4 (some .boolean) :: tws) { frames := 0, cells := 0, slots := 0, locals := 0 } (gPc (tw D cI cZ cT cJ base) D cl ad 25 base (en ad cI cZ cT cJ pi dr S M o) [.ref (ad (2 + 2 * q)), .int f, .long t]) (gQc D cl ad 25 base (some (.int (if rgL f t n then 1 else 0))) (fun e => e = en ad cI cZ cT cJ pi dr S M o)) 0 0 (gA base) := by
  refine Met.ofW (cc := bT_hasRange) (maxL := 4) (ret := (some .boolean)) (by decide) rfl ?_
  intro p e s m args below meth c s₁ B hml hv
  obtain ⟨rfl, htw, hB, hP⟩ := hv
  have hx := B.exec
  have hb := B.bytes
  have hr := B.returns
  have hts0 := atoms_spec (ws := Cond.code yT_hasRange bT_hasRange 4 (some .boolean) :: tws) B.pre
  have hts : ∀ w ∈ tws, w.before _ s = true := fun w h => hts0 w (List.mem_cons_of_mem _ h)
  have hown : s.vm.findClass "PairedTexts$Text" = some m.cls := findClass_of_methodNamed B.named
  have hlocks := B.notSynchronized
  have hno := B.noHandlers (hts0 _ List.mem_cons_self)
  have F : CallFix p m c bT_hasRange 4 s _ tws "PairedTexts$Text" := ⟨hx, hb, hml, hown, hts⟩
  have hK := htw.1
  have hS : va_S (gA base) s.heap s.heap [] := va_S.rf
  have hl := lv_entry ([.ref (ad (2 + 2 * q)), .int f, .long t]) (n := 4) (Nat.le_of_ble_eq_true rfl)
  rw [lg_entry_eq]
  generalize (lg_sl ([.ref (ad (2 + 2 * q)), .int f, .long t]) ++ List.replicate (4 - (lg_sl ([.ref (ad (2 + 2 * q)), .int f, .long t])).length) Slot.unset).toArray = ls at hl ⊢
  have hl : lv_has ls 4 [(0, .ref (ad (2 + 2 * q))), (1, .int f), (2, .long t)] := hl
  have z0 : (0 : Int32).toInt = 0 := rfl
  have zn : (nI n).toInt = n := nI_toInt (by omega)
  refine lv_iconst (v := 0) hx hb dT_hasRange_0 (by decide) ?_
  refine lv_iload_n hx hb dT_hasRange_1 rfl (lv_at hl 1 rfl) ?_
  refine lv_icmp_gt (tgt := 26) hx hb dT_hasRange_2 (by decide) (fun hc => ?_) (fun hc => ?_)
  · rw [Int32.lt_iff_toInt_lt] at hc
    refine lv_iconst (v := 0) hx hb dT_hasRange_26 (by decide) ?_
    have hv : (if rgL f t n then (1 : Int32) else 0) = 0 := if_neg (by unfold rgL; simp only [decide_eq_true_eq]; omega)
    exact W.zret hx hb hr rfl (fun t ht hW => ⟨by rw [hv], ⟨_, rfl, by rw [ht]; exact hP⟩, hS.F ht⟩) hS.2.2 dT_hasRange_27
  · rw [Int32.lt_iff_toInt_lt] at hc
    refine lv_iload_n hx hb dT_hasRange_5 rfl (lv_at hl 1 rfl) ?_
    refine lv_i2l hx hb dT_hasRange_6 rfl ?_
    refine lv_lload_n hx hb dT_hasRange_7 rfl (lv_at hl 2 rfl) ?_
    refine W.lcmp hx hb dT_hasRange_8 ?_
    refine lv_if_gt (tgt := 26) hx hb dT_hasRange_9 (by decide) (fun hd => ?_) (fun hd => ?_)
    · rw [lg_cmp_gt, Int64.lt_iff_toInt_lt, Int32.toInt_toInt64] at hd
      refine lv_iconst (v := 0) hx hb dT_hasRange_26 (by decide) ?_
      have hv : (if rgL f t n then (1 : Int32) else 0) = 0 := if_neg (by unfold rgL; simp only [decide_eq_true_eq]; omega)
      exact W.zret hx hb hr rfl (fun t ht hW => ⟨by rw [hv], ⟨_, rfl, by rw [ht]; exact hP⟩, hS.F ht⟩) hS.2.2 dT_hasRange_27
    · rw [lg_cmp_gt, Int64.lt_iff_toInt_lt, Int32.toInt_toInt64] at hd
      refine lv_lload_n hx hb dT_hasRange_12 rfl (lv_at hl 2 rfl) ?_
      refine lv_aload_n hx hb dT_hasRange_13 rfl (lv_at hl 0 rfl) ?_
      refine g_get F hK hP (2 + 2 * q) (by omega) (en_T _ _ _ _ _ _ _ _ _ _ hq) rfl iT 1 (by decide) k1_33 rfl dT_hasRange_14 ?_
      refine lv_i2l hx hb dT_hasRange_17 rfl ?_
      refine W.lcmp hx hb dT_hasRange_18 ?_
      refine lv_if_gt (tgt := 26) hx hb dT_hasRange_19 (by decide) (fun hg => ?_) (fun hg => ?_)
      · rw [lg_cmp_gt, Int64.lt_iff_toInt_lt, Int32.toInt_toInt64, h5, zn] at hg
        refine lv_iconst (v := 0) hx hb dT_hasRange_26 (by decide) ?_
        have hv : (if rgL f t n then (1 : Int32) else 0) = 0 := if_neg (by unfold rgL; simp only [decide_eq_true_eq]; omega)
        exact W.zret hx hb hr rfl (fun t ht hW => ⟨by rw [hv], ⟨_, rfl, by rw [ht]; exact hP⟩, hS.F ht⟩) hS.2.2 dT_hasRange_27
      · rw [lg_cmp_gt, Int64.lt_iff_toInt_lt, Int32.toInt_toInt64, h5, zn] at hg
        refine lv_iconst (v := 1) hx hb dT_hasRange_22 (by decide) ?_
        refine lv_goto (tgt := 27) hx hb dT_hasRange_23 (by decide) ?_
        have hv : (if rgL f t n then (1 : Int32) else 0) = 1 := if_pos (by unfold rgL; simp only [decide_eq_true_eq]; omega)
        exact W.zret hx hb hr rfl (fun t ht hW => ⟨by rw [hv], ⟨_, rfl, by rw [ht]; exact hP⟩, hS.F ht⟩) hS.2.2 dT_hasRange_27
set_option maxHeartbeats 4000000 in
set_option maxRecDepth 100000 in
theorem c_T_hasPiece {q n : Nat} (hq : q < 5) (hn : n ≤ 1000) (h5 : S 5 q = nI n) (f : Int32) : Met l yT_hasPiece (Cond.code yT_hasPiece bT_hasPiece 2 (some .boolean) :: tws) { frames := 0, cells := 0, slots := 0, locals := 0 } (gPc (tw D cI cZ cT cJ base) D cl ad 25 base (en ad cI cZ cT cJ pi dr S M o) [.ref (ad (2 + 2 * q)), .int f]) (gQc D cl ad 25 base (some (.int (if pcL f n then 1 else 0))) (fun e => e = en ad cI cZ cT cJ pi dr S M o)) 0 0 (gA base) := by
  refine Met.ofW (cc := bT_hasPiece) (maxL := 2) (ret := (some .boolean)) (by decide) rfl ?_
  intro p e s m args below meth c s₁ B hml hv
  obtain ⟨rfl, htw, hB, hP⟩ := hv
  have hx := B.exec
  have hb := B.bytes
  have hr := B.returns
  have hts0 := atoms_spec (ws := Cond.code yT_hasPiece bT_hasPiece 2 (some .boolean) :: tws) B.pre
  have hts : ∀ w ∈ tws, w.before _ s = true := fun w h => hts0 w (List.mem_cons_of_mem _ h)
  have hown : s.vm.findClass "PairedTexts$Text" = some m.cls := findClass_of_methodNamed B.named
  have hlocks := B.notSynchronized
  have hno := B.noHandlers (hts0 _ List.mem_cons_self)
  have F : CallFix p m c bT_hasPiece 2 s _ tws "PairedTexts$Text" := ⟨hx, hb, hml, hown, hts⟩
  have hK := htw.1
  have hS : va_S (gA base) s.heap s.heap [] := va_S.rf
  have hl := lv_entry ([.ref (ad (2 + 2 * q)), .int f]) (n := 2) (Nat.le_of_ble_eq_true rfl)
  rw [lg_entry_eq]
  generalize (lg_sl ([.ref (ad (2 + 2 * q)), .int f]) ++ List.replicate (2 - (lg_sl ([.ref (ad (2 + 2 * q)), .int f])).length) Slot.unset).toArray = ls at hl ⊢
  have hl : lv_has ls 2 [(0, .ref (ad (2 + 2 * q))), (1, .int f)] := hl
  have z0 : (0 : Int32).toInt = 0 := rfl
  have zn : (nI n).toInt = n := nI_toInt (by omega)
  refine lv_iconst (v := 0) hx hb dT_hasPiece_0 (by decide) ?_
  refine lv_iload_n hx hb dT_hasPiece_1 rfl (lv_at hl 1 rfl) ?_
  refine lv_icmp_gt (tgt := 17) hx hb dT_hasPiece_2 (by decide) (fun hc => ?_) (fun hc => ?_)
  · rw [Int32.lt_iff_toInt_lt] at hc
    refine lv_iconst (v := 0) hx hb dT_hasPiece_17 (by decide) ?_
    have hv : (if pcL f n then (1 : Int32) else 0) = 0 := if_neg (by unfold pcL; simp only [decide_eq_true_eq]; omega)
    exact W.zret hx hb hr rfl (fun t ht hW => ⟨by rw [hv], ⟨_, rfl, by rw [ht]; exact hP⟩, hS.F ht⟩) hS.2.2 dT_hasPiece_18
  · rw [Int32.lt_iff_toInt_lt] at hc
    refine lv_iload_n hx hb dT_hasPiece_5 rfl (lv_at hl 1 rfl) ?_
    refine lv_aload_n hx hb dT_hasPiece_6 rfl (lv_at hl 0 rfl) ?_
    refine g_get F hK hP (2 + 2 * q) (by omega) (en_T _ _ _ _ _ _ _ _ _ _ hq) rfl iT 1 (by decide) k1_33 rfl dT_hasPiece_7 ?_
    refine lv_icmp_gt (tgt := 17) hx hb dT_hasPiece_10 (by decide) (fun hg => ?_) (fun hg => ?_)
    · rw [Int32.lt_iff_toInt_lt, h5, zn] at hg
      refine lv_iconst (v := 0) hx hb dT_hasPiece_17 (by decide) ?_
      have hv : (if pcL f n then (1 : Int32) else 0) = 0 := if_neg (by unfold pcL; simp only [decide_eq_true_eq]; omega)
      exact W.zret hx hb hr rfl (fun t ht hW => ⟨by rw [hv], ⟨_, rfl, by rw [ht]; exact hP⟩, hS.F ht⟩) hS.2.2 dT_hasPiece_18
    · rw [Int32.lt_iff_toInt_lt, h5, zn] at hg
      refine lv_iconst (v := 1) hx hb dT_hasPiece_13 (by decide) ?_
      refine lv_goto (tgt := 18) hx hb dT_hasPiece_14 (by decide) ?_
      have hv : (if pcL f n then (1 : Int32) else 0) = 1 := if_pos (by unfold pcL; simp only [decide_eq_true_eq]; omega)
      exact W.zret hx hb hr rfl (fun t ht hW => ⟨by rw [hv], ⟨_, rfl, by rw [ht]; exact hP⟩, hS.F ht⟩) hS.2.2 dT_hasPiece_18
set_option maxHeartbeats 4000000 in
set_option maxRecDepth 100000 in
theorem c_T_addRange (G : gGeo ad 25 base) {q z k f t : Nat} (hq : q < 5) (hz : z < 5) (hft : f ≤ t) (ht : t ≤ 1000) (hk : k + (t - f) ≤ 1000) (h5 : S 5 q = nI k) : Met l yT_addRange (Cond.code yT_addRange bT_addRange 4 none :: tws) { frames := 1, cells := 0, slots := 0, locals := 26 } (gPc (tw D cI cZ cT cJ base) D cl ad 25 base (en ad cI cZ cT cJ pi dr S M o) [.ref (ad (2 + 2 * q)), .ref (ad (2 + 2 * z)), .int (nI f), .int (nI t)]) (gQc D cl ad 25 base none (fun e => e = en ad cI cZ cT cJ pi dr (sr (sr S q (va_cpy (S z) (S q) f k (t - f))) 5 (upd (S 5) q (nI (k + (t - f))))) M o)) 0 0 (gA base) := by
  refine Met.ofW (cc := bT_addRange) (maxL := 4) (ret := none) (by decide) rfl ?_
  intro p e s m args below meth c s₁ B hml hv
  obtain ⟨rfl, htw, hB, hP⟩ := hv
  have hx := B.exec
  have hb := B.bytes
  have hr := B.returns
  have hts0 := atoms_spec (ws := Cond.code yT_addRange bT_addRange 4 none :: tws) B.pre
  have hts : ∀ w ∈ tws, w.before _ s = true := fun w h => hts0 w (List.mem_cons_of_mem _ h)
  have hown : s.vm.findClass "PairedTexts$Text" = some m.cls := findClass_of_methodNamed B.named
  have hlocks := B.notSynchronized
  have hno := B.noHandlers (hts0 _ List.mem_cons_self)
  have F : CallFix p m c bT_addRange 4 s _ tws "PairedTexts$Text" := ⟨hx, hb, hml, hown, hts⟩
  have hK := htw.1
  have hS : va_S (gA base) s.heap s.heap [] := va_S.rf
  have hl := lv_entry ([.ref (ad (2 + 2 * q)), .ref (ad (2 + 2 * z)), .int (nI f), .int (nI t)]) (n := 4) (Nat.le_of_ble_eq_true rfl)
  rw [lg_entry_eq]
  generalize (lg_sl ([.ref (ad (2 + 2 * q)), .ref (ad (2 + 2 * z)), .int (nI f), .int (nI t)]) ++ List.replicate (4 - (lg_sl ([.ref (ad (2 + 2 * q)), .ref (ad (2 + 2 * z)), .int (nI f), .int (nI t)])).length) Slot.unset).toArray = ls at hl ⊢
  have hl : lv_has ls 4 [(0, .ref (ad (2 + 2 * q))), (1, .ref (ad (2 + 2 * z))), (2, .int (nI f)), (3, .int (nI t))] := hl
  have cf : (nI f).toNatClampNeg = f := nI_clamp (by omega)
  have ck : (nI k).toNatClampNeg = k := nI_clamp (by omega)
  have cw : (nI (t - f)).toNatClampNeg = t - f := nI_clamp (by omega)
  refine lv_aload_n hx hb dT_addRange_0 rfl (lv_at hl 1 rfl) ?_
  refine g_get F hK hP (2 + 2 * z) (by omega) (en_T _ _ _ _ _ _ _ _ _ _ hz) rfl iT 0 (by decide) k1_30 rfl dT_addRange_1 ?_
  refine lv_iload_n hx hb dT_addRange_4 rfl (lv_at hl 2 rfl) ?_
  refine lv_aload_n hx hb dT_addRange_5 rfl (lv_at hl 0 rfl) ?_
  refine g_get F hK hP (2 + 2 * q) (by omega) (en_T _ _ _ _ _ _ _ _ _ _ hq) rfl iT 0 (by decide) k1_30 rfl dT_addRange_6 ?_
  refine lv_aload_n hx hb dT_addRange_9 rfl (lv_at hl 0 rfl) ?_
  refine g_get F hK hP (2 + 2 * q) (by omega) (en_T _ _ _ _ _ _ _ _ _ _ hq) rfl iT 1 (by decide) k1_33 rfl dT_addRange_10 ?_
  refine lv_iload_n hx hb dT_addRange_13 rfl (lv_at hl 3 rfl) ?_
  refine lv_iload_n hx hb dT_addRange_14 rfl (lv_at hl 2 rfl) ?_
  refine lv_isub hx hb dT_addRange_15 ?_
  rw [h5, pk_sub hft]
  refine g_copy F hl.1 hK G hP hS (3 + 2 * z) (3 + 2 * q) (by omega) (by omega) 0 0 (en_B _ _ _ _ _ _ _ _ _ _ hz) (en_B _ _ _ _ _ _ _ _ _ _ hq) rfl rfl rfl k2_12 k2_14 k2_13 k1_12 (nI_pos (by omega)) (nI_pos (by omega)) (nI_pos (by omega)) (by rw [cf, cw]; omega) (by rw [ck, cw]; omega) (fun _ _ => rfl) (Nat.le_of_ble_eq_true rfl) (Nat.le_of_ble_eq_true rfl) dT_addRange_16 (fun H locs hP hS => ?_)
  rw [cf, ck, cw] at hP
  have hP := P_of hP (en_by _ _ _ _ _ _ _ _ _ _ _ hq)
  refine lv_aload_n hx hb dT_addRange_19 rfl (lv_at hl 0 rfl) ?_
  refine lv_dup hx hb dT_addRange_20 rfl ?_
  refine g_get F hK hP (2 + 2 * q) (by omega) (en_T _ _ _ _ _ _ _ _ _ _ hq) rfl iT 1 (by decide) k1_33 rfl dT_addRange_21 ?_
  refine lv_iload_n hx hb dT_addRange_24 rfl (lv_at hl 3 rfl) ?_
  refine lv_iload_n hx hb dT_addRange_25 rfl (lv_at hl 2 rfl) ?_
  refine lv_isub hx hb dT_addRange_26 ?_
  refine lv_iadd hx hb dT_addRange_27 ?_
  refine g_put F hK G hP hS (2 + 2 * q) (by omega) (en_T _ _ _ _ _ _ _ _ _ _ hq) rfl iT tT tT_ok nT 1 (by decide) k1_33 rfl (ty := .int) (by decide +kernel) rfl rfl (Nat.le_of_ble_eq_true rfl) dT_addRange_28 (fun H locs hP hS => ?_)
  have hP := P_of hP (en_sz _ _ _ _ _ _ _ _ _ _ _ hq)
  rw [sr_n (show (5 : Nat) ≠ q by omega), h5, pk_sub hft, nI_add] at hP
  exact W.vret hx hb hr (fun t ht hW => ⟨rfl, ⟨_, rfl, by rw [ht]; exact hP⟩, hS.F ht⟩) hS.2.2 dT_addRange_31
end M1
