/-! The law's own small methods: a call of the class, its exception as a number. -/
section P2
variable {l : Launch} {D : va_G} {cI cZ cT cJ : ClassId} {base : Nat} {ad : Nat → Nat} {pi : Nat → Nat} {dr : Nat} {S M : Nat → Nat → Int32} {o : Nat → Int64} {a : Ab}
set_option maxHeartbeats 4000000 in
set_option maxRecDepth 100000 in
theorem c_L_write (hst : l.stackTraces = false) (G : gGeo ad 25 base) (ha : a_ok a) (hC : RepC pi dr S a) (d : Int32) (v : Int64) (n : Int32) : Met l yL_write (Cond.codeWith yL_write bL_write 7 (some .int) [(0, 13, 16, 13), (0, 13, 20, 15)] :: tws) { frames := 9, cells := 1, slots := 6, locals := 149 } (gPc (tw D cI cZ cT cJ base) D cl ad 25 base (en ad cI cZ cT cJ pi dr S M o) [.ref (ad 0), .int d, .long v, .int n, .ref (ad 24)]) (gQc D cl ad 25 base (some (.int (nI (c_write a d n)))) (fun e => ∃ (pi1 : Nat → Nat) (dr1 : Nat) (S1 : Nat → Nat → Int32) (o1 : Nat → Int64), e = en ad cI cZ cT cJ pi1 dr1 S1 M o1 ∧ RepC pi1 dr1 S1 (if c_write a d n = 0 then x_write a d v n else a) ∧ (c_write a d n = 0 → o1 0 = (nI (a_n a (ix d) + ix n)).toInt64))) 1 6 (gA base) := by
  refine Met.ofWH (cc := bL_write) (maxL := 7) (ret := (some .int)) (hs := [(0, 13, 16, 13), (0, 13, 20, 15)]) (by decide) rfl ?_
  intro p e s m args below meth c s₁ B hml htab hv
  obtain ⟨rfl, htw, hB, hP⟩ := hv
  have hx := B.exec
  have hb := B.bytes
  have hr := B.returns
  have hts0 := atoms_spec (ws := Cond.codeWith yL_write bL_write 7 (some .int) [(0, 13, 16, 13), (0, 13, 20, 15)] :: tws) B.pre
  have hts : ∀ w ∈ tws, w.before _ s = true := fun w h => hts0 w (List.mem_cons_of_mem _ h)
  have hown : s.vm.findClass "PairedTextsLaw" = some m.cls := findClass_of_methodNamed B.named
  have F : CallFix p m c bL_write 7 s _ tws "PairedTextsLaw" := ⟨hx, hb, hml, hown, hts⟩
  have hK := htw.1
  have hS : va_S (gA base) s.heap s.heap [] := va_S.rf
  have hl := lv_entry ([.ref (ad 0), .int d, .long v, .int n, .ref (ad 24)]) (n := 7) (Nat.le_of_ble_eq_true rfl)
  rw [lg_entry_eq]
  generalize (lg_sl ([.ref (ad 0), .int d, .long v, .int n, .ref (ad 24)]) ++ List.replicate (7 - (lg_sl ([.ref (ad 0), .int d, .long v, .int n, .ref (ad 24)])).length) Slot.unset).toArray = ls at hl ⊢
  have hl : lv_has ls 7 [(0, .ref (ad 0)), (1, .int d), (2, .long v), (4, .int n), (5, .ref (ad 24))] := hl
  refine lv_aload hx hb dL_write_0 (lv_at hl 4 rfl) ?_
  refine lv_iconst (v := 0) hx hb dL_write_2 (by decide) ?_
  refine lv_aload_n hx hb dL_write_3 rfl (lv_at hl 0 rfl) ?_
  refine lv_iload_n hx hb dL_write_4 rfl (lv_at hl 1 rfl) ?_
  refine lv_lload_n hx hb dL_write_5 rfl (lv_at hl 2 rfl) ?_
  refine lv_iload hx hb dL_write_6 (lv_at hl 3 rfl) ?_
  have hkk : c_write a d n = 0 ∨ c_write a d n = 1 ∨ c_write a d n = 2 := by unfold c_write; (repeat' split) <;> simp
  rcases hkk with hk1 | hk1 | hk1
  · refine g_V (k := 3) F htw hB hS hP (0) (by decide) rfl rfl (gX_met (c_P_write hst G ha hC d v n) hk1) k1_88 k1_89 k1_90 k1_1 k1_91 (by decide +kernel) rfl rfl ⟨Nat.le_of_ble_eq_true rfl, Nat.le_of_ble_eq_true rfl⟩ rfl hl.1 rfl (Nat.le_of_ble_eq_true rfl) dL_write_8 ⟨Nat.le_of_ble_eq_true rfl, Nat.le_of_ble_eq_true rfl⟩ (fun en1 H locs he hP hS => ?_)
    obtain ⟨pi, dr, S, rfl, hC⟩ := he
    refine lv_i2l hx hb dL_write_11 rfl ?_
    refine g_last F hK G hP hS (24) (by decide) 3 rfl rfl (vp_in_nI (n := 0) (N := 1) (by decide) (by decide)) dL_write_12 (fun H locs hP hS => ?_)
    have hP := P_of hP (en_o _ _ _ _ _ _ _ _ _ _ _)
    refine lv_goto (tgt := 24) hx hb dL_write_13 (by decide) ?_
    refine lv_iconst (v := 0) hx hb dL_write_24 (by decide) ?_
    exact W.iret hx hb hr (fun t ht hW => ⟨by rw [hk1]; rfl, ⟨_, ⟨_, _, _, _, rfl, by rw [hk1, if_pos rfl]; exact hC, fun _ => (pk_uLs : vp_updL o 0 _ 0 = _)⟩, by rw [ht]; exact hP⟩, hS.F ht⟩) hS.2.2 dL_write_25
  · refine g_VX (k := 3) F htw hB hS hP (0) (by decide) rfl rfl (c_P_write hst G ha hC d v n) (by rw [hk1]; decide) k1_88 k1_89 k1_90 k1_1 k1_91 (by decide +kernel) rfl rfl ⟨Nat.le_of_ble_eq_true rfl, Nat.le_of_ble_eq_true rfl⟩ rfl hl.1 rfl (Nat.le_of_ble_eq_true rfl) dL_write_8 ⟨Nat.le_of_ble_eq_true rfl, Nat.le_of_ble_eq_true rfl⟩ (fun x H locs hO hP hS => ?_)
    obtain ⟨cell, o1, o2, o3⟩ := hO
    rw [hk1] at o3
    have o3 : s.vm.findClass "java/lang/IllegalArgumentException" = some cell.cls := o3
    refine WT.catch (own := "PairedTextsLaw") hown o1 o2 (Vm.classAt_of_findClass o3) [] [(⟨0, 13, 20, 15⟩ : ExceptionTableEntry)] (⟨0, 13, 16, 13⟩ : ExceptionTableEntry) (by rw [htab]; rfl) (fun z hz => absurd hz (by simp)) (by decide) (tx_rY F (by decide) k1_86 o3) ?_
    show W _ _ _ _ _ _ _ _ _ _ _ _ _ _ _ (F0 m 16 ls [Value.ref x])
    refine lv_astore hx hb dL_write_16 hl (by decide) rfl (fun ls hl => ?_)
    have hl : lv_has ls 7 [(6, .ref _), (0, .ref _), (1, .int _), (2, .long _), (4, .int _), (5, .ref _)] := hl
    refine lv_iconst (v := 1) hx hb dL_write_18 (by decide) ?_
    exact W.iret hx hb hr (fun t ht hW => ⟨by rw [hk1]; rfl, ⟨_, ⟨_, _, _, _, rfl, by rw [hk1]; exact hC, fun h => absurd (hk1.symm.trans h) (by decide)⟩, by rw [ht]; exact hP⟩, hS.F ht⟩) hS.2.2 dL_write_19
  · refine g_VX (k := 3) F htw hB hS hP (0) (by decide) rfl rfl (c_P_write hst G ha hC d v n) (by rw [hk1]; decide) k1_88 k1_89 k1_90 k1_1 k1_91 (by decide +kernel) rfl rfl ⟨Nat.le_of_ble_eq_true rfl, Nat.le_of_ble_eq_true rfl⟩ rfl hl.1 rfl (Nat.le_of_ble_eq_true rfl) dL_write_8 ⟨Nat.le_of_ble_eq_true rfl, Nat.le_of_ble_eq_true rfl⟩ (fun x H locs hO hP hS => ?_)
    obtain ⟨cell, o1, o2, o3⟩ := hO
    rw [hk1] at o3
    have o3 : s.vm.findClass "java/lang/UnsupportedOperationException" = some cell.cls := o3
    refine WT.catch (own := "PairedTextsLaw") hown o1 o2 (Vm.classAt_of_findClass o3) [(⟨0, 13, 16, 13⟩ : ExceptionTableEntry)] [] (⟨0, 13, 20, 15⟩ : ExceptionTableEntry) (by rw [htab]; rfl) (fun z hz => by obtain rfl := List.mem_singleton.mp hz; exact ⟨by decide, tx_rN F htw 2 0 (by decide) (by decide) (by decide) (by decide) k1_86 o3⟩) (by decide) (tx_rY F (by decide) k1_87 o3) ?_
    show W _ _ _ _ _ _ _ _ _ _ _ _ _ _ _ (F0 m 20 ls [Value.ref x])
    refine lv_astore hx hb dL_write_20 hl (by decide) rfl (fun ls hl => ?_)
    have hl : lv_has ls 7 [(6, .ref _), (0, .ref _), (1, .int _), (2, .long _), (4, .int _), (5, .ref _)] := hl
    refine lv_iconst (v := 2) hx hb dL_write_22 (by decide) ?_
    exact W.iret hx hb hr (fun t ht hW => ⟨by rw [hk1]; rfl, ⟨_, ⟨_, _, _, _, rfl, by rw [hk1]; exact hC, fun h => absurd (hk1.symm.trans h) (by decide)⟩, by rw [ht]; exact hP⟩, hS.F ht⟩) hS.2.2 dL_write_23
set_option maxHeartbeats 4000000 in
set_option maxRecDepth 100000 in
theorem c_L_length (hst : l.stackTraces = false) (G : gGeo ad 25 base) (ha : a_ok a) (hC : RepC pi dr S a) (d : Int32) : Met l yL_length (Cond.codeWith yL_length bL_length 4 (some .int) [(0, 9, 12, 13)] :: tws) { frames := 9, cells := 1, slots := 6, locals := 144 } (gPc (tw D cI cZ cT cJ base) D cl ad 25 base (en ad cI cZ cT cJ pi dr S M o) [.ref (ad 0), .int d, .ref (ad 24)]) (gQc D cl ad 25 base (some (.int (nI (c_length d)))) (fun e => ∃ (pi1 : Nat → Nat) (dr1 : Nat) (S1 : Nat → Nat → Int32) (o1 : Nat → Int64), e = en ad cI cZ cT cJ pi1 dr1 S1 M o1 ∧ RepC pi1 dr1 S1 (if c_length d = 0 then a else a) ∧ (c_length d = 0 → o1 0 = (nI (a_n a (ix d))).toInt64))) 1 6 (gA base) := by
  refine Met.ofWH (cc := bL_length) (maxL := 4) (ret := (some .int)) (hs := [(0, 9, 12, 13)]) (by decide) rfl ?_
  intro p e s m args below meth c s₁ B hml htab hv
  obtain ⟨rfl, htw, hB, hP⟩ := hv
  have hx := B.exec
  have hb := B.bytes
  have hr := B.returns
  have hts0 := atoms_spec (ws := Cond.codeWith yL_length bL_length 4 (some .int) [(0, 9, 12, 13)] :: tws) B.pre
  have hts : ∀ w ∈ tws, w.before _ s = true := fun w h => hts0 w (List.mem_cons_of_mem _ h)
  have hown : s.vm.findClass "PairedTextsLaw" = some m.cls := findClass_of_methodNamed B.named
  have F : CallFix p m c bL_length 4 s _ tws "PairedTextsLaw" := ⟨hx, hb, hml, hown, hts⟩
  have hK := htw.1
  have hS : va_S (gA base) s.heap s.heap [] := va_S.rf
  have hl := lv_entry ([.ref (ad 0), .int d, .ref (ad 24)]) (n := 4) (Nat.le_of_ble_eq_true rfl)
  rw [lg_entry_eq]
  generalize (lg_sl ([.ref (ad 0), .int d, .ref (ad 24)]) ++ List.replicate (4 - (lg_sl ([.ref (ad 0), .int d, .ref (ad 24)])).length) Slot.unset).toArray = ls at hl ⊢
  have hl : lv_has ls 4 [(0, .ref (ad 0)), (1, .int d), (2, .ref (ad 24))] := hl
  refine lv_aload_n hx hb dL_length_0 rfl (lv_at hl 2 rfl) ?_
  refine lv_iconst (v := 0) hx hb dL_length_1 (by decide) ?_
  refine lv_aload_n hx hb dL_length_2 rfl (lv_at hl 0 rfl) ?_
  refine lv_iload_n hx hb dL_length_3 rfl (lv_at hl 1 rfl) ?_
  have hkk : c_length d = 0 ∨ c_length d = 1 := by unfold c_length; (repeat' split) <;> simp
  rcases hkk with hk1 | hk1
  · refine g_V (k := 1) F htw hB hS hP (0) (by decide) rfl rfl (gX_met (c_P_length hst G ha hC d) hk1) k1_202 k1_203 k1_204 k1_1 k1_205 (by decide +kernel) rfl rfl ⟨Nat.le_of_ble_eq_true rfl, Nat.le_of_ble_eq_true rfl⟩ rfl hl.1 rfl (Nat.le_of_ble_eq_true rfl) dL_length_4 ⟨Nat.le_of_ble_eq_true rfl, Nat.le_of_ble_eq_true rfl⟩ (fun en1 H locs he hP hS => ?_)
    obtain ⟨pi, dr, S, rfl, hC⟩ := he
    refine lv_i2l hx hb dL_length_7 rfl ?_
    refine g_last F hK G hP hS (24) (by decide) 3 rfl rfl (vp_in_nI (n := 0) (N := 1) (by decide) (by decide)) dL_length_8 (fun H locs hP hS => ?_)
    have hP := P_of hP (en_o _ _ _ _ _ _ _ _ _ _ _)
    refine lv_goto (tgt := 15) hx hb dL_length_9 (by decide) ?_
    refine lv_iconst (v := 0) hx hb dL_length_15 (by decide) ?_
    exact W.iret hx hb hr (fun t ht hW => ⟨by rw [hk1]; rfl, ⟨_, ⟨_, _, _, _, rfl, by rw [hk1, if_pos rfl]; exact hC, fun _ => (pk_uLs : vp_updL o 0 _ 0 = _)⟩, by rw [ht]; exact hP⟩, hS.F ht⟩) hS.2.2 dL_length_16
  · refine g_VX (k := 1) F htw hB hS hP (0) (by decide) rfl rfl (c_P_length hst G ha hC d) (by rw [hk1]; decide) k1_202 k1_203 k1_204 k1_1 k1_205 (by decide +kernel) rfl rfl ⟨Nat.le_of_ble_eq_true rfl, Nat.le_of_ble_eq_true rfl⟩ rfl hl.1 rfl (Nat.le_of_ble_eq_true rfl) dL_length_4 ⟨Nat.le_of_ble_eq_true rfl, Nat.le_of_ble_eq_true rfl⟩ (fun x H locs hO hP hS => ?_)
    obtain ⟨cell, o1, o2, o3⟩ := hO
    rw [hk1] at o3
    have o3 : s.vm.findClass "java/lang/IllegalArgumentException" = some cell.cls := o3
    refine WT.catch (own := "PairedTextsLaw") hown o1 o2 (Vm.classAt_of_findClass o3) [] [] (⟨0, 9, 12, 13⟩ : ExceptionTableEntry) (by rw [htab]; rfl) (fun z hz => absurd hz (by simp)) (by decide) (tx_rY F (by decide) k1_86 o3) ?_
    show W _ _ _ _ _ _ _ _ _ _ _ _ _ _ _ (F0 m 12 ls [Value.ref x])
    refine lv_astore_n hx hb dL_length_12 rfl hl (by decide) rfl (fun ls hl => ?_)
    have hl : lv_has ls 4 [(3, .ref _), (0, .ref _), (1, .int _), (2, .ref _)] := hl
    refine lv_iconst (v := 1) hx hb dL_length_13 (by decide) ?_
    exact W.iret hx hb hr (fun t ht hW => ⟨by rw [hk1]; rfl, ⟨_, ⟨_, _, _, _, rfl, by rw [hk1]; exact hC, fun h => absurd (hk1.symm.trans h) (by decide)⟩, by rw [ht]; exact hP⟩, hS.F ht⟩) hS.2.2 dL_length_14
set_option maxHeartbeats 4000000 in
set_option maxRecDepth 100000 in
theorem c_L_byteAt (hst : l.stackTraces = false) (G : gGeo ad 25 base) (ha : a_ok a) (hC : RepC pi dr S a) (d : Int32) (i : Int32) : Met l yL_byteAt (Cond.codeWith yL_byteAt bL_byteAt 5 (some .int) [(0, 10, 13, 13), (0, 10, 17, 25)] :: tws) { frames := 9, cells := 1, slots := 6, locals := 146 } (gPc (tw D cI cZ cT cJ base) D cl ad 25 base (en ad cI cZ cT cJ pi dr S M o) [.ref (ad 0), .int d, .int i, .ref (ad 24)]) (gQc D cl ad 25 base (some (.int (nI (c_byteAt a d i)))) (fun e => ∃ (pi1 : Nat → Nat) (dr1 : Nat) (S1 : Nat → Nat → Int32) (o1 : Nat → Int64), e = en ad cI cZ cT cJ pi1 dr1 S1 M o1 ∧ RepC pi1 dr1 S1 (if c_byteAt a d i = 0 then a else a) ∧ (c_byteAt a d i = 0 → o1 0 = (nI (a_b a (ix d) (ix i))).toInt64))) 1 6 (gA base) := by
  refine Met.ofWH (cc := bL_byteAt) (maxL := 5) (ret := (some .int)) (hs := [(0, 10, 13, 13), (0, 10, 17, 25)]) (by decide) rfl ?_
  intro p e s m args below meth c s₁ B hml htab hv
  obtain ⟨rfl, htw, hB, hP⟩ := hv
  have hx := B.exec
  have hb := B.bytes
  have hr := B.returns
  have hts0 := atoms_spec (ws := Cond.codeWith yL_byteAt bL_byteAt 5 (some .int) [(0, 10, 13, 13), (0, 10, 17, 25)] :: tws) B.pre
  have hts : ∀ w ∈ tws, w.before _ s = true := fun w h => hts0 w (List.mem_cons_of_mem _ h)
  have hown : s.vm.findClass "PairedTextsLaw" = some m.cls := findClass_of_methodNamed B.named
  have F : CallFix p m c bL_byteAt 5 s _ tws "PairedTextsLaw" := ⟨hx, hb, hml, hown, hts⟩
  have hK := htw.1
  have hS : va_S (gA base) s.heap s.heap [] := va_S.rf
  have hl := lv_entry ([.ref (ad 0), .int d, .int i, .ref (ad 24)]) (n := 5) (Nat.le_of_ble_eq_true rfl)
  rw [lg_entry_eq]
  generalize (lg_sl ([.ref (ad 0), .int d, .int i, .ref (ad 24)]) ++ List.replicate (5 - (lg_sl ([.ref (ad 0), .int d, .int i, .ref (ad 24)])).length) Slot.unset).toArray = ls at hl ⊢
  have hl : lv_has ls 5 [(0, .ref (ad 0)), (1, .int d), (2, .int i), (3, .ref (ad 24))] := hl
  refine lv_aload_n hx hb dL_byteAt_0 rfl (lv_at hl 3 rfl) ?_
  refine lv_iconst (v := 0) hx hb dL_byteAt_1 (by decide) ?_
  refine lv_aload_n hx hb dL_byteAt_2 rfl (lv_at hl 0 rfl) ?_
  refine lv_iload_n hx hb dL_byteAt_3 rfl (lv_at hl 1 rfl) ?_
  refine lv_iload_n hx hb dL_byteAt_4 rfl (lv_at hl 2 rfl) ?_
  have hkk : c_byteAt a d i = 0 ∨ c_byteAt a d i = 1 ∨ c_byteAt a d i = 2 := by unfold c_byteAt; (repeat' split) <;> simp
  rcases hkk with hk1 | hk1 | hk1
  · refine g_V (k := 2) F htw hB hS hP (0) (by decide) rfl rfl (gX_met (c_P_byteAt hst G ha hC d i) hk1) k1_210 k1_211 k1_212 k1_1 k1_213 (by decide +kernel) rfl rfl ⟨Nat.le_of_ble_eq_true rfl, Nat.le_of_ble_eq_true rfl⟩ rfl hl.1 rfl (Nat.le_of_ble_eq_true rfl) dL_byteAt_5 ⟨Nat.le_of_ble_eq_true rfl, Nat.le_of_ble_eq_true rfl⟩ (fun en1 H locs he hP hS => ?_)
    obtain ⟨pi, dr, S, rfl, hC⟩ := he
    refine lv_i2l hx hb dL_byteAt_8 rfl ?_
    refine g_last F hK G hP hS (24) (by decide) 3 rfl rfl (vp_in_nI (n := 0) (N := 1) (by decide) (by decide)) dL_byteAt_9 (fun H locs hP hS => ?_)
    have hP := P_of hP (en_o _ _ _ _ _ _ _ _ _ _ _)
    refine lv_goto (tgt := 21) hx hb dL_byteAt_10 (by decide) ?_
    refine lv_iconst (v := 0) hx hb dL_byteAt_21 (by decide) ?_
    exact W.iret hx hb hr (fun t ht hW => ⟨by rw [hk1]; rfl, ⟨_, ⟨_, _, _, _, rfl, by rw [hk1, if_pos rfl]; exact hC, fun _ => (pk_uLs : vp_updL o 0 _ 0 = _)⟩, by rw [ht]; exact hP⟩, hS.F ht⟩) hS.2.2 dL_byteAt_22
  · refine g_VX (k := 2) F htw hB hS hP (0) (by decide) rfl rfl (c_P_byteAt hst G ha hC d i) (by rw [hk1]; decide) k1_210 k1_211 k1_212 k1_1 k1_213 (by decide +kernel) rfl rfl ⟨Nat.le_of_ble_eq_true rfl, Nat.le_of_ble_eq_true rfl⟩ rfl hl.1 rfl (Nat.le_of_ble_eq_true rfl) dL_byteAt_5 ⟨Nat.le_of_ble_eq_true rfl, Nat.le_of_ble_eq_true rfl⟩ (fun x H locs hO hP hS => ?_)
    obtain ⟨cell, o1, o2, o3⟩ := hO
    rw [hk1] at o3
    have o3 : s.vm.findClass "java/lang/IllegalArgumentException" = some cell.cls := o3
    refine WT.catch (own := "PairedTextsLaw") hown o1 o2 (Vm.classAt_of_findClass o3) [] [(⟨0, 10, 17, 25⟩ : ExceptionTableEntry)] (⟨0, 10, 13, 13⟩ : ExceptionTableEntry) (by rw [htab]; rfl) (fun z hz => absurd hz (by simp)) (by decide) (tx_rY F (by decide) k1_86 o3) ?_
    show W _ _ _ _ _ _ _ _ _ _ _ _ _ _ _ (F0 m 13 ls [Value.ref x])
    refine lv_astore hx hb dL_byteAt_13 hl (by decide) rfl (fun ls hl => ?_)
    have hl : lv_has ls 5 [(4, .ref _), (0, .ref _), (1, .int _), (2, .int _), (3, .ref _)] := hl
    refine lv_iconst (v := 1) hx hb dL_byteAt_15 (by decide) ?_
    exact W.iret hx hb hr (fun t ht hW => ⟨by rw [hk1]; rfl, ⟨_, ⟨_, _, _, _, rfl, by rw [hk1]; exact hC, fun h => absurd (hk1.symm.trans h) (by decide)⟩, by rw [ht]; exact hP⟩, hS.F ht⟩) hS.2.2 dL_byteAt_16
  · refine g_VX (k := 2) F htw hB hS hP (0) (by decide) rfl rfl (c_P_byteAt hst G ha hC d i) (by rw [hk1]; decide) k1_210 k1_211 k1_212 k1_1 k1_213 (by decide +kernel) rfl rfl ⟨Nat.le_of_ble_eq_true rfl, Nat.le_of_ble_eq_true rfl⟩ rfl hl.1 rfl (Nat.le_of_ble_eq_true rfl) dL_byteAt_5 ⟨Nat.le_of_ble_eq_true rfl, Nat.le_of_ble_eq_true rfl⟩ (fun x H locs hO hP hS => ?_)
    obtain ⟨cell, o1, o2, o3⟩ := hO
    rw [hk1] at o3
    have o3 : s.vm.findClass "java/lang/IndexOutOfBoundsException" = some cell.cls := o3
    refine WT.catch (own := "PairedTextsLaw") hown o1 o2 (Vm.classAt_of_findClass o3) [(⟨0, 10, 13, 13⟩ : ExceptionTableEntry)] [] (⟨0, 10, 17, 25⟩ : ExceptionTableEntry) (by rw [htab]; rfl) (fun z hz => by obtain rfl := List.mem_singleton.mp hz; exact ⟨by decide, tx_rN F htw 1 0 (by decide) (by decide) (by decide) (by decide) k1_86 o3⟩) (by decide) (tx_rY F (by decide) k1_209 o3) ?_
    show W _ _ _ _ _ _ _ _ _ _ _ _ _ _ _ (F0 m 17 ls [Value.ref x])
    refine lv_astore hx hb dL_byteAt_17 hl (by decide) rfl (fun ls hl => ?_)
    have hl : lv_has ls 5 [(4, .ref _), (0, .ref _), (1, .int _), (2, .int _), (3, .ref _)] := hl
    refine lv_iconst (v := 2) hx hb dL_byteAt_19 (by decide) ?_
    exact W.iret hx hb hr (fun t ht hW => ⟨by rw [hk1]; rfl, ⟨_, ⟨_, _, _, _, rfl, by rw [hk1]; exact hC, fun h => absurd (hk1.symm.trans h) (by decide)⟩, by rw [ht]; exact hP⟩, hS.F ht⟩) hS.2.2 dL_byteAt_20
set_option maxHeartbeats 4000000 in
set_option maxRecDepth 100000 in
theorem c_L_copy (hst : l.stackTraces = false) (G : gGeo ad 25 base) (ha : a_ok a) (hC : RepC pi dr S a) (d : Int32) (f : Int32) (t : Int32) (d2 : Int32) : Met l yL_copy (Cond.codeWith yL_copy bL_copy 7 (some .int) [(0, 14, 17, 13), (0, 14, 21, 25)] :: tws) { frames := 9, cells := 1, slots := 6, locals := 148 } (gPc (tw D cI cZ cT cJ base) D cl ad 25 base (en ad cI cZ cT cJ pi dr S M o) [.ref (ad 0), .int d, .int f, .int t, .int d2, .ref (ad 24)]) (gQc D cl ad 25 base (some (.int (nI (c_copy a d f t d2)))) (fun e => ∃ (pi1 : Nat → Nat) (dr1 : Nat) (S1 : Nat → Nat → Int32) (o1 : Nat → Int64), e = en ad cI cZ cT cJ pi1 dr1 S1 M o1 ∧ RepC pi1 dr1 S1 (if c_copy a d f t d2 = 0 then x_copy a d f t d2 else a) ∧ (c_copy a d f t d2 = 0 → o1 0 = (nI (ix t - ix f)).toInt64))) 1 6 (gA base) := by
  refine Met.ofWH (cc := bL_copy) (maxL := 7) (ret := (some .int)) (hs := [(0, 14, 17, 13), (0, 14, 21, 25)]) (by decide) rfl ?_
  intro p e s m args below meth c s₁ B hml htab hv
  obtain ⟨rfl, htw, hB, hP⟩ := hv
  have hx := B.exec
  have hb := B.bytes
  have hr := B.returns
  have hts0 := atoms_spec (ws := Cond.codeWith yL_copy bL_copy 7 (some .int) [(0, 14, 17, 13), (0, 14, 21, 25)] :: tws) B.pre
  have hts : ∀ w ∈ tws, w.before _ s = true := fun w h => hts0 w (List.mem_cons_of_mem _ h)
  have hown : s.vm.findClass "PairedTextsLaw" = some m.cls := findClass_of_methodNamed B.named
  have F : CallFix p m c bL_copy 7 s _ tws "PairedTextsLaw" := ⟨hx, hb, hml, hown, hts⟩
  have hK := htw.1
  have hS : va_S (gA base) s.heap s.heap [] := va_S.rf
  have hl := lv_entry ([.ref (ad 0), .int d, .int f, .int t, .int d2, .ref (ad 24)]) (n := 7) (Nat.le_of_ble_eq_true rfl)
  rw [lg_entry_eq]
  generalize (lg_sl ([.ref (ad 0), .int d, .int f, .int t, .int d2, .ref (ad 24)]) ++ List.replicate (7 - (lg_sl ([.ref (ad 0), .int d, .int f, .int t, .int d2, .ref (ad 24)])).length) Slot.unset).toArray = ls at hl ⊢
  have hl : lv_has ls 7 [(0, .ref (ad 0)), (1, .int d), (2, .int f), (3, .int t), (4, .int d2), (5, .ref (ad 24))] := hl
  refine lv_aload hx hb dL_copy_0 (lv_at hl 5 rfl) ?_
  refine lv_iconst (v := 0) hx hb dL_copy_2 (by decide) ?_
  refine lv_aload_n hx hb dL_copy_3 rfl (lv_at hl 0 rfl) ?_
  refine lv_iload_n hx hb dL_copy_4 rfl (lv_at hl 1 rfl) ?_
  refine lv_iload_n hx hb dL_copy_5 rfl (lv_at hl 2 rfl) ?_
  refine lv_iload_n hx hb dL_copy_6 rfl (lv_at hl 3 rfl) ?_
  refine lv_iload hx hb dL_copy_7 (lv_at hl 4 rfl) ?_
  have hkk : c_copy a d f t d2 = 0 ∨ c_copy a d f t d2 = 1 ∨ c_copy a d f t d2 = 2 := by unfold c_copy; (repeat' split) <;> simp
  rcases hkk with hk1 | hk1 | hk1
  · refine g_V (k := 4) F htw hB hS hP (0) (by decide) rfl rfl (gX_met (c_P_copy hst G ha hC d f t d2) hk1) k1_236 k1_237 k1_238 k1_1 k1_239 (by decide +kernel) rfl rfl ⟨Nat.le_of_ble_eq_true rfl, Nat.le_of_ble_eq_true rfl⟩ rfl hl.1 rfl (Nat.le_of_ble_eq_true rfl) dL_copy_9 ⟨Nat.le_of_ble_eq_true rfl, Nat.le_of_ble_eq_true rfl⟩ (fun en1 H locs he hP hS => ?_)
    obtain ⟨pi, dr, S, rfl, hC⟩ := he
    refine lv_i2l hx hb dL_copy_12 rfl ?_
    refine g_last F hK G hP hS (24) (by decide) 3 rfl rfl (vp_in_nI (n := 0) (N := 1) (by decide) (by decide)) dL_copy_13 (fun H locs hP hS => ?_)
    have hP := P_of hP (en_o _ _ _ _ _ _ _ _ _ _ _)
    refine lv_goto (tgt := 25) hx hb dL_copy_14 (by decide) ?_
    refine lv_iconst (v := 0) hx hb dL_copy_25 (by decide) ?_
    exact W.iret hx hb hr (fun t ht hW => ⟨by rw [hk1]; rfl, ⟨_, ⟨_, _, _, _, rfl, by rw [hk1, if_pos rfl]; exact hC, fun _ => (pk_uLs : vp_updL o 0 _ 0 = _)⟩, by rw [ht]; exact hP⟩, hS.F ht⟩) hS.2.2 dL_copy_26
  · refine g_VX (k := 4) F htw hB hS hP (0) (by decide) rfl rfl (c_P_copy hst G ha hC d f t d2) (by rw [hk1]; decide) k1_236 k1_237 k1_238 k1_1 k1_239 (by decide +kernel) rfl rfl ⟨Nat.le_of_ble_eq_true rfl, Nat.le_of_ble_eq_true rfl⟩ rfl hl.1 rfl (Nat.le_of_ble_eq_true rfl) dL_copy_9 ⟨Nat.le_of_ble_eq_true rfl, Nat.le_of_ble_eq_true rfl⟩ (fun x H locs hO hP hS => ?_)
    obtain ⟨cell, o1, o2, o3⟩ := hO
    rw [hk1] at o3
    have o3 : s.vm.findClass "java/lang/IllegalArgumentException" = some cell.cls := o3
    refine WT.catch (own := "PairedTextsLaw") hown o1 o2 (Vm.classAt_of_findClass o3) [] [(⟨0, 14, 21, 25⟩ : ExceptionTableEntry)] (⟨0, 14, 17, 13⟩ : ExceptionTableEntry) (by rw [htab]; rfl) (fun z hz => absurd hz (by simp)) (by decide) (tx_rY F (by decide) k1_86 o3) ?_
    show W _ _ _ _ _ _ _ _ _ _ _ _ _ _ _ (F0 m 17 ls [Value.ref x])
    refine lv_astore hx hb dL_copy_17 hl (by decide) rfl (fun ls hl => ?_)
    have hl : lv_has ls 7 [(6, .ref _), (0, .ref _), (1, .int _), (2, .int _), (3, .int _), (4, .int _), (5, .ref _)] := hl
    refine lv_iconst (v := 1) hx hb dL_copy_19 (by decide) ?_
    exact W.iret hx hb hr (fun t ht hW => ⟨by rw [hk1]; rfl, ⟨_, ⟨_, _, _, _, rfl, by rw [hk1]; exact hC, fun h => absurd (hk1.symm.trans h) (by decide)⟩, by rw [ht]; exact hP⟩, hS.F ht⟩) hS.2.2 dL_copy_20
  · refine g_VX (k := 4) F htw hB hS hP (0) (by decide) rfl rfl (c_P_copy hst G ha hC d f t d2) (by rw [hk1]; decide) k1_236 k1_237 k1_238 k1_1 k1_239 (by decide +kernel) rfl rfl ⟨Nat.le_of_ble_eq_true rfl, Nat.le_of_ble_eq_true rfl⟩ rfl hl.1 rfl (Nat.le_of_ble_eq_true rfl) dL_copy_9 ⟨Nat.le_of_ble_eq_true rfl, Nat.le_of_ble_eq_true rfl⟩ (fun x H locs hO hP hS => ?_)
    obtain ⟨cell, o1, o2, o3⟩ := hO
    rw [hk1] at o3
    have o3 : s.vm.findClass "java/lang/IndexOutOfBoundsException" = some cell.cls := o3
    refine WT.catch (own := "PairedTextsLaw") hown o1 o2 (Vm.classAt_of_findClass o3) [(⟨0, 14, 17, 13⟩ : ExceptionTableEntry)] [] (⟨0, 14, 21, 25⟩ : ExceptionTableEntry) (by rw [htab]; rfl) (fun z hz => by obtain rfl := List.mem_singleton.mp hz; exact ⟨by decide, tx_rN F htw 1 0 (by decide) (by decide) (by decide) (by decide) k1_86 o3⟩) (by decide) (tx_rY F (by decide) k1_209 o3) ?_
    show W _ _ _ _ _ _ _ _ _ _ _ _ _ _ _ (F0 m 21 ls [Value.ref x])
    refine lv_astore hx hb dL_copy_21 hl (by decide) rfl (fun ls hl => ?_)
    have hl : lv_has ls 7 [(6, .ref _), (0, .ref _), (1, .int _), (2, .int _), (3, .int _), (4, .int _), (5, .ref _)] := hl
    refine lv_iconst (v := 2) hx hb dL_copy_23 (by decide) ?_
    exact W.iret hx hb hr (fun t ht hW => ⟨by rw [hk1]; rfl, ⟨_, ⟨_, _, _, _, rfl, by rw [hk1]; exact hC, fun h => absurd (hk1.symm.trans h) (by decide)⟩, by rw [ht]; exact hP⟩, hS.F ht⟩) hS.2.2 dL_copy_24
set_option maxHeartbeats 4000000 in
set_option maxRecDepth 100000 in
theorem c_L_join (hst : l.stackTraces = false) (G : gGeo ad 25 base) (ha : a_ok a) (hC : RepC pi dr S a) (d : Int32) (d2 : Int32) (d3 : Int32) : Met l yL_join (Cond.codeWith yL_join bL_join 6 (some .int) [(0, 12, 15, 13), (0, 12, 19, 15)] :: tws) { frames := 9, cells := 1, slots := 6, locals := 148 } (gPc (tw D cI cZ cT cJ base) D cl ad 25 base (en ad cI cZ cT cJ pi dr S M o) [.ref (ad 0), .int d, .int d2, .int d3, .ref (ad 24)]) (gQc D cl ad 25 base (some (.int (nI (c_join a d d2 d3)))) (fun e => ∃ (pi1 : Nat → Nat) (dr1 : Nat) (S1 : Nat → Nat → Int32) (o1 : Nat → Int64), e = en ad cI cZ cT cJ pi1 dr1 S1 M o1 ∧ RepC pi1 dr1 S1 (if c_join a d d2 d3 = 0 then x_join a d d2 d3 else a) ∧ (c_join a d d2 d3 = 0 → o1 0 = (nI (a_n a (ix d) + a_n a (ix d2))).toInt64))) 1 6 (gA base) := by
  refine Met.ofWH (cc := bL_join) (maxL := 6) (ret := (some .int)) (hs := [(0, 12, 15, 13), (0, 12, 19, 15)]) (by decide) rfl ?_
  intro p e s m args below meth c s₁ B hml htab hv
  obtain ⟨rfl, htw, hB, hP⟩ := hv
  have hx := B.exec
  have hb := B.bytes
  have hr := B.returns
  have hts0 := atoms_spec (ws := Cond.codeWith yL_join bL_join 6 (some .int) [(0, 12, 15, 13), (0, 12, 19, 15)] :: tws) B.pre
  have hts : ∀ w ∈ tws, w.before _ s = true := fun w h => hts0 w (List.mem_cons_of_mem _ h)
  have hown : s.vm.findClass "PairedTextsLaw" = some m.cls := findClass_of_methodNamed B.named
  have F : CallFix p m c bL_join 6 s _ tws "PairedTextsLaw" := ⟨hx, hb, hml, hown, hts⟩
  have hK := htw.1
  have hS : va_S (gA base) s.heap s.heap [] := va_S.rf
  have hl := lv_entry ([.ref (ad 0), .int d, .int d2, .int d3, .ref (ad 24)]) (n := 6) (Nat.le_of_ble_eq_true rfl)
  rw [lg_entry_eq]
  generalize (lg_sl ([.ref (ad 0), .int d, .int d2, .int d3, .ref (ad 24)]) ++ List.replicate (6 - (lg_sl ([.ref (ad 0), .int d, .int d2, .int d3, .ref (ad 24)])).length) Slot.unset).toArray = ls at hl ⊢
  have hl : lv_has ls 6 [(0, .ref (ad 0)), (1, .int d), (2, .int d2), (3, .int d3), (4, .ref (ad 24))] := hl
  refine lv_aload hx hb dL_join_0 (lv_at hl 4 rfl) ?_
  refine lv_iconst (v := 0) hx hb dL_join_2 (by decide) ?_
  refine lv_aload_n hx hb dL_join_3 rfl (lv_at hl 0 rfl) ?_
  refine lv_iload_n hx hb dL_join_4 rfl (lv_at hl 1 rfl) ?_
  refine lv_iload_n hx hb dL_join_5 rfl (lv_at hl 2 rfl) ?_
  refine lv_iload_n hx hb dL_join_6 rfl (lv_at hl 3 rfl) ?_
  have hkk : c_join a d d2 d3 = 0 ∨ c_join a d d2 d3 = 1 ∨ c_join a d d2 d3 = 2 := by unfold c_join; (repeat' split) <;> simp
  rcases hkk with hk1 | hk1 | hk1
  · refine g_V (k := 3) F htw hB hS hP (0) (by decide) rfl rfl (gX_met (c_P_join hst G ha hC d d2 d3) hk1) k2_22 k2_23 k2_24 k1_1 k2_25 (by decide +kernel) rfl rfl ⟨Nat.le_of_ble_eq_true rfl, Nat.le_of_ble_eq_true rfl⟩ rfl hl.1 rfl (Nat.le_of_ble_eq_true rfl) dL_join_7 ⟨Nat.le_of_ble_eq_true rfl, Nat.le_of_ble_eq_true rfl⟩ (fun en1 H locs he hP hS => ?_)
    obtain ⟨pi, dr, S, rfl, hC⟩ := he
    refine lv_i2l hx hb dL_join_10 rfl ?_
    refine g_last F hK G hP hS (24) (by decide) 3 rfl rfl (vp_in_nI (n := 0) (N := 1) (by decide) (by decide)) dL_join_11 (fun H locs hP hS => ?_)
    have hP := P_of hP (en_o _ _ _ _ _ _ _ _ _ _ _)
    refine lv_goto (tgt := 23) hx hb dL_join_12 (by decide) ?_
    refine lv_iconst (v := 0) hx hb dL_join_23 (by decide) ?_
    exact W.iret hx hb hr (fun t ht hW => ⟨by rw [hk1]; rfl, ⟨_, ⟨_, _, _, _, rfl, by rw [hk1, if_pos rfl]; exact hC, fun _ => (pk_uLs : vp_updL o 0 _ 0 = _)⟩, by rw [ht]; exact hP⟩, hS.F ht⟩) hS.2.2 dL_join_24
  · refine g_VX (k := 3) F htw hB hS hP (0) (by decide) rfl rfl (c_P_join hst G ha hC d d2 d3) (by rw [hk1]; decide) k2_22 k2_23 k2_24 k1_1 k2_25 (by decide +kernel) rfl rfl ⟨Nat.le_of_ble_eq_true rfl, Nat.le_of_ble_eq_true rfl⟩ rfl hl.1 rfl (Nat.le_of_ble_eq_true rfl) dL_join_7 ⟨Nat.le_of_ble_eq_true rfl, Nat.le_of_ble_eq_true rfl⟩ (fun x H locs hO hP hS => ?_)
    obtain ⟨cell, o1, o2, o3⟩ := hO
    rw [hk1] at o3
    have o3 : s.vm.findClass "java/lang/IllegalArgumentException" = some cell.cls := o3
    refine WT.catch (own := "PairedTextsLaw") hown o1 o2 (Vm.classAt_of_findClass o3) [] [(⟨0, 12, 19, 15⟩ : ExceptionTableEntry)] (⟨0, 12, 15, 13⟩ : ExceptionTableEntry) (by rw [htab]; rfl) (fun z hz => absurd hz (by simp)) (by decide) (tx_rY F (by decide) k1_86 o3) ?_
    show W _ _ _ _ _ _ _ _ _ _ _ _ _ _ _ (F0 m 15 ls [Value.ref x])
    refine lv_astore hx hb dL_join_15 hl (by decide) rfl (fun ls hl => ?_)
    have hl : lv_has ls 6 [(5, .ref _), (0, .ref _), (1, .int _), (2, .int _), (3, .int _), (4, .ref _)] := hl
    refine lv_iconst (v := 1) hx hb dL_join_17 (by decide) ?_
    exact W.iret hx hb hr (fun t ht hW => ⟨by rw [hk1]; rfl, ⟨_, ⟨_, _, _, _, rfl, by rw [hk1]; exact hC, fun h => absurd (hk1.symm.trans h) (by decide)⟩, by rw [ht]; exact hP⟩, hS.F ht⟩) hS.2.2 dL_join_18
  · refine g_VX (k := 3) F htw hB hS hP (0) (by decide) rfl rfl (c_P_join hst G ha hC d d2 d3) (by rw [hk1]; decide) k2_22 k2_23 k2_24 k1_1 k2_25 (by decide +kernel) rfl rfl ⟨Nat.le_of_ble_eq_true rfl, Nat.le_of_ble_eq_true rfl⟩ rfl hl.1 rfl (Nat.le_of_ble_eq_true rfl) dL_join_7 ⟨Nat.le_of_ble_eq_true rfl, Nat.le_of_ble_eq_true rfl⟩ (fun x H locs hO hP hS => ?_)
    obtain ⟨cell, o1, o2, o3⟩ := hO
    rw [hk1] at o3
    have o3 : s.vm.findClass "java/lang/UnsupportedOperationException" = some cell.cls := o3
    refine WT.catch (own := "PairedTextsLaw") hown o1 o2 (Vm.classAt_of_findClass o3) [(⟨0, 12, 15, 13⟩ : ExceptionTableEntry)] [] (⟨0, 12, 19, 15⟩ : ExceptionTableEntry) (by rw [htab]; rfl) (fun z hz => by obtain rfl := List.mem_singleton.mp hz; exact ⟨by decide, tx_rN F htw 2 0 (by decide) (by decide) (by decide) (by decide) k1_86 o3⟩) (by decide) (tx_rY F (by decide) k1_87 o3) ?_
    show W _ _ _ _ _ _ _ _ _ _ _ _ _ _ _ (F0 m 19 ls [Value.ref x])
    refine lv_astore hx hb dL_join_19 hl (by decide) rfl (fun ls hl => ?_)
    have hl : lv_has ls 6 [(5, .ref _), (0, .ref _), (1, .int _), (2, .int _), (3, .int _), (4, .ref _)] := hl
    refine lv_iconst (v := 2) hx hb dL_join_21 (by decide) ?_
    exact W.iret hx hb hr (fun t ht hW => ⟨by rw [hk1]; rfl, ⟨_, ⟨_, _, _, _, rfl, by rw [hk1]; exact hC, fun h => absurd (hk1.symm.trans h) (by decide)⟩, by rw [ht]; exact hP⟩, hS.F ht⟩) hS.2.2 dL_join_22
set_option maxHeartbeats 4000000 in
set_option maxRecDepth 100000 in
theorem c_L_insert (hst : l.stackTraces = false) (G : gGeo ad 25 base) (ha : a_ok a) (hC : RepC pi dr S a) (d : Int32) (q : Int32) (d2 : Int32) (f : Int32) (t : Int32) : Met l yL_insert (Cond.codeWith yL_insert bL_insert 8 (some .int) [(0, 16, 19, 13), (0, 16, 23, 25), (0, 16, 27, 15)] :: tws) { frames := 9, cells := 1, slots := 6, locals := 150 } (gPc (tw D cI cZ cT cJ base) D cl ad 25 base (en ad cI cZ cT cJ pi dr S M o) [.ref (ad 0), .int d, .int q, .int d2, .int f, .int t, .ref (ad 24)]) (gQc D cl ad 25 base (some (.int (nI (c_insert a d q d2 f t)))) (fun e => ∃ (pi1 : Nat → Nat) (dr1 : Nat) (S1 : Nat → Nat → Int32) (o1 : Nat → Int64), e = en ad cI cZ cT cJ pi1 dr1 S1 M o1 ∧ RepC pi1 dr1 S1 (if c_insert a d q d2 f t = 0 then x_insert a d q d2 f t else a) ∧ (c_insert a d q d2 f t = 0 → o1 0 = (nI (a_n a (ix d) + (ix t - ix f))).toInt64))) 1 6 (gA base) := by
  refine Met.ofWH (cc := bL_insert) (maxL := 8) (ret := (some .int)) (hs := [(0, 16, 19, 13), (0, 16, 23, 25), (0, 16, 27, 15)]) (by decide) rfl ?_
  intro p e s m args below meth c s₁ B hml htab hv
  obtain ⟨rfl, htw, hB, hP⟩ := hv
  have hx := B.exec
  have hb := B.bytes
  have hr := B.returns
  have hts0 := atoms_spec (ws := Cond.codeWith yL_insert bL_insert 8 (some .int) [(0, 16, 19, 13), (0, 16, 23, 25), (0, 16, 27, 15)] :: tws) B.pre
  have hts : ∀ w ∈ tws, w.before _ s = true := fun w h => hts0 w (List.mem_cons_of_mem _ h)
  have hown : s.vm.findClass "PairedTextsLaw" = some m.cls := findClass_of_methodNamed B.named
  have F : CallFix p m c bL_insert 8 s _ tws "PairedTextsLaw" := ⟨hx, hb, hml, hown, hts⟩
  have hK := htw.1
  have hS : va_S (gA base) s.heap s.heap [] := va_S.rf
  have hl := lv_entry ([.ref (ad 0), .int d, .int q, .int d2, .int f, .int t, .ref (ad 24)]) (n := 8) (Nat.le_of_ble_eq_true rfl)
  rw [lg_entry_eq]
  generalize (lg_sl ([.ref (ad 0), .int d, .int q, .int d2, .int f, .int t, .ref (ad 24)]) ++ List.replicate (8 - (lg_sl ([.ref (ad 0), .int d, .int q, .int d2, .int f, .int t, .ref (ad 24)])).length) Slot.unset).toArray = ls at hl ⊢
  have hl : lv_has ls 8 [(0, .ref (ad 0)), (1, .int d), (2, .int q), (3, .int d2), (4, .int f), (5, .int t), (6, .ref (ad 24))] := hl
  refine lv_aload hx hb dL_insert_0 (lv_at hl 6 rfl) ?_
  refine lv_iconst (v := 0) hx hb dL_insert_2 (by decide) ?_
  refine lv_aload_n hx hb dL_insert_3 rfl (lv_at hl 0 rfl) ?_
  refine lv_iload_n hx hb dL_insert_4 rfl (lv_at hl 1 rfl) ?_
  refine lv_iload_n hx hb dL_insert_5 rfl (lv_at hl 2 rfl) ?_
  refine lv_iload_n hx hb dL_insert_6 rfl (lv_at hl 3 rfl) ?_
  refine lv_iload hx hb dL_insert_7 (lv_at hl 4 rfl) ?_
  refine lv_iload hx hb dL_insert_9 (lv_at hl 5 rfl) ?_
  have hkk : c_insert a d q d2 f t = 0 ∨ c_insert a d q d2 f t = 1 ∨ c_insert a d q d2 f t = 2 ∨ c_insert a d q d2 f t = 3 := by unfold c_insert; (repeat' split) <;> simp
  rcases hkk with hk1 | hk1 | hk1 | hk1
  · refine g_V (k := 5) F htw hB hS hP (0) (by decide) rfl rfl (gX_met (c_P_insert hst G ha hC d q d2 f t) hk1) k2_29 k2_30 k2_31 k1_1 k2_32 (by decide +kernel) rfl rfl ⟨Nat.le_of_ble_eq_true rfl, Nat.le_of_ble_eq_true rfl⟩ rfl hl.1 rfl (Nat.le_of_ble_eq_true rfl) dL_insert_11 ⟨Nat.le_of_ble_eq_true rfl, Nat.le_of_ble_eq_true rfl⟩ (fun en1 H locs he hP hS => ?_)
    obtain ⟨pi, dr, S, rfl, hC⟩ := he
    refine lv_i2l hx hb dL_insert_14 rfl ?_
    refine g_last F hK G hP hS (24) (by decide) 3 rfl rfl (vp_in_nI (n := 0) (N := 1) (by decide) (by decide)) dL_insert_15 (fun H locs hP hS => ?_)
    have hP := P_of hP (en_o _ _ _ _ _ _ _ _ _ _ _)
    refine lv_goto (tgt := 31) hx hb dL_insert_16 (by decide) ?_
    refine lv_iconst (v := 0) hx hb dL_insert_31 (by decide) ?_
    exact W.iret hx hb hr (fun t ht hW => ⟨by rw [hk1]; rfl, ⟨_, ⟨_, _, _, _, rfl, by rw [hk1, if_pos rfl]; exact hC, fun _ => (pk_uLs : vp_updL o 0 _ 0 = _)⟩, by rw [ht]; exact hP⟩, hS.F ht⟩) hS.2.2 dL_insert_32
  · refine g_VX (k := 5) F htw hB hS hP (0) (by decide) rfl rfl (c_P_insert hst G ha hC d q d2 f t) (by rw [hk1]; decide) k2_29 k2_30 k2_31 k1_1 k2_32 (by decide +kernel) rfl rfl ⟨Nat.le_of_ble_eq_true rfl, Nat.le_of_ble_eq_true rfl⟩ rfl hl.1 rfl (Nat.le_of_ble_eq_true rfl) dL_insert_11 ⟨Nat.le_of_ble_eq_true rfl, Nat.le_of_ble_eq_true rfl⟩ (fun x H locs hO hP hS => ?_)
    obtain ⟨cell, o1, o2, o3⟩ := hO
    rw [hk1] at o3
    have o3 : s.vm.findClass "java/lang/IllegalArgumentException" = some cell.cls := o3
    refine WT.catch (own := "PairedTextsLaw") hown o1 o2 (Vm.classAt_of_findClass o3) [] [(⟨0, 16, 23, 25⟩ : ExceptionTableEntry), (⟨0, 16, 27, 15⟩ : ExceptionTableEntry)] (⟨0, 16, 19, 13⟩ : ExceptionTableEntry) (by rw [htab]; rfl) (fun z hz => absurd hz (by simp)) (by decide) (tx_rY F (by decide) k1_86 o3) ?_
    show W _ _ _ _ _ _ _ _ _ _ _ _ _ _ _ (F0 m 19 ls [Value.ref x])
    refine lv_astore hx hb dL_insert_19 hl (by decide) rfl (fun ls hl => ?_)
    have hl : lv_has ls 8 [(7, .ref _), (0, .ref _), (1, .int _), (2, .int _), (3, .int _), (4, .int _), (5, .int _), (6, .ref _)] := hl
    refine lv_iconst (v := 1) hx hb dL_insert_21 (by decide) ?_
    exact W.iret hx hb hr (fun t ht hW => ⟨by rw [hk1]; rfl, ⟨_, ⟨_, _, _, _, rfl, by rw [hk1]; exact hC, fun h => absurd (hk1.symm.trans h) (by decide)⟩, by rw [ht]; exact hP⟩, hS.F ht⟩) hS.2.2 dL_insert_22
  · refine g_VX (k := 5) F htw hB hS hP (0) (by decide) rfl rfl (c_P_insert hst G ha hC d q d2 f t) (by rw [hk1]; decide) k2_29 k2_30 k2_31 k1_1 k2_32 (by decide +kernel) rfl rfl ⟨Nat.le_of_ble_eq_true rfl, Nat.le_of_ble_eq_true rfl⟩ rfl hl.1 rfl (Nat.le_of_ble_eq_true rfl) dL_insert_11 ⟨Nat.le_of_ble_eq_true rfl, Nat.le_of_ble_eq_true rfl⟩ (fun x H locs hO hP hS => ?_)
    obtain ⟨cell, o1, o2, o3⟩ := hO
    rw [hk1] at o3
    have o3 : s.vm.findClass "java/lang/IndexOutOfBoundsException" = some cell.cls := o3
    refine WT.catch (own := "PairedTextsLaw") hown o1 o2 (Vm.classAt_of_findClass o3) [(⟨0, 16, 19, 13⟩ : ExceptionTableEntry)] [(⟨0, 16, 27, 15⟩ : ExceptionTableEntry)] (⟨0, 16, 23, 25⟩ : ExceptionTableEntry) (by rw [htab]; rfl) (fun z hz => by obtain rfl := List.mem_singleton.mp hz; exact ⟨by decide, tx_rN F htw 1 0 (by decide) (by decide) (by decide) (by decide) k1_86 o3⟩) (by decide) (tx_rY F (by decide) k1_209 o3) ?_
    show W _ _ _ _ _ _ _ _ _ _ _ _ _ _ _ (F0 m 23 ls [Value.ref x])
    refine lv_astore hx hb dL_insert_23 hl (by decide) rfl (fun ls hl => ?_)
    have hl : lv_has ls 8 [(7, .ref _), (0, .ref _), (1, .int _), (2, .int _), (3, .int _), (4, .int _), (5, .int _), (6, .ref _)] := hl
    refine lv_iconst (v := 2) hx hb dL_insert_25 (by decide) ?_
    exact W.iret hx hb hr (fun t ht hW => ⟨by rw [hk1]; rfl, ⟨_, ⟨_, _, _, _, rfl, by rw [hk1]; exact hC, fun h => absurd (hk1.symm.trans h) (by decide)⟩, by rw [ht]; exact hP⟩, hS.F ht⟩) hS.2.2 dL_insert_26
  · refine g_VX (k := 5) F htw hB hS hP (0) (by decide) rfl rfl (c_P_insert hst G ha hC d q d2 f t) (by rw [hk1]; decide) k2_29 k2_30 k2_31 k1_1 k2_32 (by decide +kernel) rfl rfl ⟨Nat.le_of_ble_eq_true rfl, Nat.le_of_ble_eq_true rfl⟩ rfl hl.1 rfl (Nat.le_of_ble_eq_true rfl) dL_insert_11 ⟨Nat.le_of_ble_eq_true rfl, Nat.le_of_ble_eq_true rfl⟩ (fun x H locs hO hP hS => ?_)
    obtain ⟨cell, o1, o2, o3⟩ := hO
    rw [hk1] at o3
    have o3 : s.vm.findClass "java/lang/UnsupportedOperationException" = some cell.cls := o3
    refine WT.catch (own := "PairedTextsLaw") hown o1 o2 (Vm.classAt_of_findClass o3) [(⟨0, 16, 19, 13⟩ : ExceptionTableEntry), (⟨0, 16, 23, 25⟩ : ExceptionTableEntry)] [] (⟨0, 16, 27, 15⟩ : ExceptionTableEntry) (by rw [htab]; rfl) (fun z hz => by rcases List.mem_cons.mp hz with rfl | hz2; (exact ⟨by decide, tx_rN F htw 2 0 (by decide) (by decide) (by decide) (by decide) k1_86 o3⟩); (obtain rfl := List.mem_singleton.mp hz2; exact ⟨by decide, tx_rN F htw 2 1 (by decide) (by decide) (by decide) (by decide) k1_209 o3⟩)) (by decide) (tx_rY F (by decide) k1_87 o3) ?_
    show W _ _ _ _ _ _ _ _ _ _ _ _ _ _ _ (F0 m 27 ls [Value.ref x])
    refine lv_astore hx hb dL_insert_27 hl (by decide) rfl (fun ls hl => ?_)
    have hl : lv_has ls 8 [(7, .ref _), (0, .ref _), (1, .int _), (2, .int _), (3, .int _), (4, .int _), (5, .int _), (6, .ref _)] := hl
    refine lv_iconst (v := 3) hx hb dL_insert_29 (by decide) ?_
    exact W.iret hx hb hr (fun t ht hW => ⟨by rw [hk1]; rfl, ⟨_, ⟨_, _, _, _, rfl, by rw [hk1]; exact hC, fun h => absurd (hk1.symm.trans h) (by decide)⟩, by rw [ht]; exact hP⟩, hS.F ht⟩) hS.2.2 dL_insert_30
set_option maxHeartbeats 4000000 in
set_option maxRecDepth 100000 in
theorem c_L_delete (hst : l.stackTraces = false) (G : gGeo ad 25 base) (ha : a_ok a) (hC : RepC pi dr S a) (d : Int32) (f : Int32) (t : Int32) : Met l yL_delete (Cond.codeWith yL_delete bL_delete 6 (some .int) [(0, 12, 15, 13), (0, 12, 19, 25)] :: tws) { frames := 9, cells := 1, slots := 6, locals := 147 } (gPc (tw D cI cZ cT cJ base) D cl ad 25 base (en ad cI cZ cT cJ pi dr S M o) [.ref (ad 0), .int d, .int f, .int t, .ref (ad 24)]) (gQc D cl ad 25 base (some (.int (nI (c_delete a d f t)))) (fun e => ∃ (pi1 : Nat → Nat) (dr1 : Nat) (S1 : Nat → Nat → Int32) (o1 : Nat → Int64), e = en ad cI cZ cT cJ pi1 dr1 S1 M o1 ∧ RepC pi1 dr1 S1 (if c_delete a d f t = 0 then x_delete a d f t else a) ∧ (c_delete a d f t = 0 → o1 0 = (nI (a_n a (ix d) - (ix t - ix f))).toInt64))) 1 6 (gA base) := by
  refine Met.ofWH (cc := bL_delete) (maxL := 6) (ret := (some .int)) (hs := [(0, 12, 15, 13), (0, 12, 19, 25)]) (by decide) rfl ?_
  intro p e s m args below meth c s₁ B hml htab hv
  obtain ⟨rfl, htw, hB, hP⟩ := hv
  have hx := B.exec
  have hb := B.bytes
  have hr := B.returns
  have hts0 := atoms_spec (ws := Cond.codeWith yL_delete bL_delete 6 (some .int) [(0, 12, 15, 13), (0, 12, 19, 25)] :: tws) B.pre
  have hts : ∀ w ∈ tws, w.before _ s = true := fun w h => hts0 w (List.mem_cons_of_mem _ h)
  have hown : s.vm.findClass "PairedTextsLaw" = some m.cls := findClass_of_methodNamed B.named
  have F : CallFix p m c bL_delete 6 s _ tws "PairedTextsLaw" := ⟨hx, hb, hml, hown, hts⟩
  have hK := htw.1
  have hS : va_S (gA base) s.heap s.heap [] := va_S.rf
  have hl := lv_entry ([.ref (ad 0), .int d, .int f, .int t, .ref (ad 24)]) (n := 6) (Nat.le_of_ble_eq_true rfl)
  rw [lg_entry_eq]
  generalize (lg_sl ([.ref (ad 0), .int d, .int f, .int t, .ref (ad 24)]) ++ List.replicate (6 - (lg_sl ([.ref (ad 0), .int d, .int f, .int t, .ref (ad 24)])).length) Slot.unset).toArray = ls at hl ⊢
  have hl : lv_has ls 6 [(0, .ref (ad 0)), (1, .int d), (2, .int f), (3, .int t), (4, .ref (ad 24))] := hl
  refine lv_aload hx hb dL_delete_0 (lv_at hl 4 rfl) ?_
  refine lv_iconst (v := 0) hx hb dL_delete_2 (by decide) ?_
  refine lv_aload_n hx hb dL_delete_3 rfl (lv_at hl 0 rfl) ?_
  refine lv_iload_n hx hb dL_delete_4 rfl (lv_at hl 1 rfl) ?_
  refine lv_iload_n hx hb dL_delete_5 rfl (lv_at hl 2 rfl) ?_
  refine lv_iload_n hx hb dL_delete_6 rfl (lv_at hl 3 rfl) ?_
  have hkk : c_delete a d f t = 0 ∨ c_delete a d f t = 1 ∨ c_delete a d f t = 2 := by unfold c_delete; (repeat' split) <;> simp
  rcases hkk with hk1 | hk1 | hk1
  · refine g_V (k := 3) F htw hB hS hP (0) (by decide) rfl rfl (gX_met (c_P_delete hst G ha hC d f t) hk1) k2_40 k2_41 k2_42 k1_1 k2_43 (by decide +kernel) rfl rfl ⟨Nat.le_of_ble_eq_true rfl, Nat.le_of_ble_eq_true rfl⟩ rfl hl.1 rfl (Nat.le_of_ble_eq_true rfl) dL_delete_7 ⟨Nat.le_of_ble_eq_true rfl, Nat.le_of_ble_eq_true rfl⟩ (fun en1 H locs he hP hS => ?_)
    obtain ⟨pi, dr, S, rfl, hC⟩ := he
    refine lv_i2l hx hb dL_delete_10 rfl ?_
    refine g_last F hK G hP hS (24) (by decide) 3 rfl rfl (vp_in_nI (n := 0) (N := 1) (by decide) (by decide)) dL_delete_11 (fun H locs hP hS => ?_)
    have hP := P_of hP (en_o _ _ _ _ _ _ _ _ _ _ _)
    refine lv_goto (tgt := 23) hx hb dL_delete_12 (by decide) ?_
    refine lv_iconst (v := 0) hx hb dL_delete_23 (by decide) ?_
    exact W.iret hx hb hr (fun t ht hW => ⟨by rw [hk1]; rfl, ⟨_, ⟨_, _, _, _, rfl, by rw [hk1, if_pos rfl]; exact hC, fun _ => (pk_uLs : vp_updL o 0 _ 0 = _)⟩, by rw [ht]; exact hP⟩, hS.F ht⟩) hS.2.2 dL_delete_24
  · refine g_VX (k := 3) F htw hB hS hP (0) (by decide) rfl rfl (c_P_delete hst G ha hC d f t) (by rw [hk1]; decide) k2_40 k2_41 k2_42 k1_1 k2_43 (by decide +kernel) rfl rfl ⟨Nat.le_of_ble_eq_true rfl, Nat.le_of_ble_eq_true rfl⟩ rfl hl.1 rfl (Nat.le_of_ble_eq_true rfl) dL_delete_7 ⟨Nat.le_of_ble_eq_true rfl, Nat.le_of_ble_eq_true rfl⟩ (fun x H locs hO hP hS => ?_)
    obtain ⟨cell, o1, o2, o3⟩ := hO
    rw [hk1] at o3
    have o3 : s.vm.findClass "java/lang/IllegalArgumentException" = some cell.cls := o3
    refine WT.catch (own := "PairedTextsLaw") hown o1 o2 (Vm.classAt_of_findClass o3) [] [(⟨0, 12, 19, 25⟩ : ExceptionTableEntry)] (⟨0, 12, 15, 13⟩ : ExceptionTableEntry) (by rw [htab]; rfl) (fun z hz => absurd hz (by simp)) (by decide) (tx_rY F (by decide) k1_86 o3) ?_
    show W _ _ _ _ _ _ _ _ _ _ _ _ _ _ _ (F0 m 15 ls [Value.ref x])
    refine lv_astore hx hb dL_delete_15 hl (by decide) rfl (fun ls hl => ?_)
    have hl : lv_has ls 6 [(5, .ref _), (0, .ref _), (1, .int _), (2, .int _), (3, .int _), (4, .ref _)] := hl
    refine lv_iconst (v := 1) hx hb dL_delete_17 (by decide) ?_
    exact W.iret hx hb hr (fun t ht hW => ⟨by rw [hk1]; rfl, ⟨_, ⟨_, _, _, _, rfl, by rw [hk1]; exact hC, fun h => absurd (hk1.symm.trans h) (by decide)⟩, by rw [ht]; exact hP⟩, hS.F ht⟩) hS.2.2 dL_delete_18
  · refine g_VX (k := 3) F htw hB hS hP (0) (by decide) rfl rfl (c_P_delete hst G ha hC d f t) (by rw [hk1]; decide) k2_40 k2_41 k2_42 k1_1 k2_43 (by decide +kernel) rfl rfl ⟨Nat.le_of_ble_eq_true rfl, Nat.le_of_ble_eq_true rfl⟩ rfl hl.1 rfl (Nat.le_of_ble_eq_true rfl) dL_delete_7 ⟨Nat.le_of_ble_eq_true rfl, Nat.le_of_ble_eq_true rfl⟩ (fun x H locs hO hP hS => ?_)
    obtain ⟨cell, o1, o2, o3⟩ := hO
    rw [hk1] at o3
    have o3 : s.vm.findClass "java/lang/IndexOutOfBoundsException" = some cell.cls := o3
    refine WT.catch (own := "PairedTextsLaw") hown o1 o2 (Vm.classAt_of_findClass o3) [(⟨0, 12, 15, 13⟩ : ExceptionTableEntry)] [] (⟨0, 12, 19, 25⟩ : ExceptionTableEntry) (by rw [htab]; rfl) (fun z hz => by obtain rfl := List.mem_singleton.mp hz; exact ⟨by decide, tx_rN F htw 1 0 (by decide) (by decide) (by decide) (by decide) k1_86 o3⟩) (by decide) (tx_rY F (by decide) k1_209 o3) ?_
    show W _ _ _ _ _ _ _ _ _ _ _ _ _ _ _ (F0 m 19 ls [Value.ref x])
    refine lv_astore hx hb dL_delete_19 hl (by decide) rfl (fun ls hl => ?_)
    have hl : lv_has ls 6 [(5, .ref _), (0, .ref _), (1, .int _), (2, .int _), (3, .int _), (4, .ref _)] := hl
    refine lv_iconst (v := 2) hx hb dL_delete_21 (by decide) ?_
    exact W.iret hx hb hr (fun t ht hW => ⟨by rw [hk1]; rfl, ⟨_, ⟨_, _, _, _, rfl, by rw [hk1]; exact hC, fun h => absurd (hk1.symm.trans h) (by decide)⟩, by rw [ht]; exact hP⟩, hS.F ht⟩) hS.2.2 dL_delete_22
set_option maxHeartbeats 4000000 in
set_option maxRecDepth 100000 in
theorem c_L_move (hst : l.stackTraces = false) (G : gGeo ad 25 base) (ha : a_ok a) (hC : RepC pi dr S a) (d : Int32) (f : Int32) (t : Int32) (q : Int32) : Met l yL_move (Cond.codeWith yL_move bL_move 7 (some .int) [(0, 14, 17, 13), (0, 14, 21, 25)] :: tws) { frames := 9, cells := 1, slots := 6, locals := 149 } (gPc (tw D cI cZ cT cJ base) D cl ad 25 base (en ad cI cZ cT cJ pi dr S M o) [.ref (ad 0), .int d, .int f, .int t, .int q, .ref (ad 24)]) (gQc D cl ad 25 base (some (.int (nI (c_move a d f t q)))) (fun e => ∃ (pi1 : Nat → Nat) (dr1 : Nat) (S1 : Nat → Nat → Int32) (o1 : Nat → Int64), e = en ad cI cZ cT cJ pi1 dr1 S1 M o1 ∧ RepC pi1 dr1 S1 (if c_move a d f t q = 0 then x_move a d f t q else a) ∧ (c_move a d f t q = 0 → o1 0 = (nI (a_n a (ix d))).toInt64))) 1 6 (gA base) := by
  refine Met.ofWH (cc := bL_move) (maxL := 7) (ret := (some .int)) (hs := [(0, 14, 17, 13), (0, 14, 21, 25)]) (by decide) rfl ?_
  intro p e s m args below meth c s₁ B hml htab hv
  obtain ⟨rfl, htw, hB, hP⟩ := hv
  have hx := B.exec
  have hb := B.bytes
  have hr := B.returns
  have hts0 := atoms_spec (ws := Cond.codeWith yL_move bL_move 7 (some .int) [(0, 14, 17, 13), (0, 14, 21, 25)] :: tws) B.pre
  have hts : ∀ w ∈ tws, w.before _ s = true := fun w h => hts0 w (List.mem_cons_of_mem _ h)
  have hown : s.vm.findClass "PairedTextsLaw" = some m.cls := findClass_of_methodNamed B.named
  have F : CallFix p m c bL_move 7 s _ tws "PairedTextsLaw" := ⟨hx, hb, hml, hown, hts⟩
  have hK := htw.1
  have hS : va_S (gA base) s.heap s.heap [] := va_S.rf
  have hl := lv_entry ([.ref (ad 0), .int d, .int f, .int t, .int q, .ref (ad 24)]) (n := 7) (Nat.le_of_ble_eq_true rfl)
  rw [lg_entry_eq]
  generalize (lg_sl ([.ref (ad 0), .int d, .int f, .int t, .int q, .ref (ad 24)]) ++ List.replicate (7 - (lg_sl ([.ref (ad 0), .int d, .int f, .int t, .int q, .ref (ad 24)])).length) Slot.unset).toArray = ls at hl ⊢
  have hl : lv_has ls 7 [(0, .ref (ad 0)), (1, .int d), (2, .int f), (3, .int t), (4, .int q), (5, .ref (ad 24))] := hl
  refine lv_aload hx hb dL_move_0 (lv_at hl 5 rfl) ?_
  refine lv_iconst (v := 0) hx hb dL_move_2 (by decide) ?_
  refine lv_aload_n hx hb dL_move_3 rfl (lv_at hl 0 rfl) ?_
  refine lv_iload_n hx hb dL_move_4 rfl (lv_at hl 1 rfl) ?_
  refine lv_iload_n hx hb dL_move_5 rfl (lv_at hl 2 rfl) ?_
  refine lv_iload_n hx hb dL_move_6 rfl (lv_at hl 3 rfl) ?_
  refine lv_iload hx hb dL_move_7 (lv_at hl 4 rfl) ?_
  have hkk : c_move a d f t q = 0 ∨ c_move a d f t q = 1 ∨ c_move a d f t q = 2 := by unfold c_move; (repeat' split) <;> simp
  rcases hkk with hk1 | hk1 | hk1
  · refine g_V (k := 4) F htw hB hS hP (0) (by decide) rfl rfl (gX_met (c_P_move hst G ha hC d f t q) hk1) k2_47 k2_48 k2_49 k1_1 k2_50 (by decide +kernel) rfl rfl ⟨Nat.le_of_ble_eq_true rfl, Nat.le_of_ble_eq_true rfl⟩ rfl hl.1 rfl (Nat.le_of_ble_eq_true rfl) dL_move_9 ⟨Nat.le_of_ble_eq_true rfl, Nat.le_of_ble_eq_true rfl⟩ (fun en1 H locs he hP hS => ?_)
    obtain ⟨pi, dr, S, rfl, hC⟩ := he
    refine lv_i2l hx hb dL_move_12 rfl ?_
    refine g_last F hK G hP hS (24) (by decide) 3 rfl rfl (vp_in_nI (n := 0) (N := 1) (by decide) (by decide)) dL_move_13 (fun H locs hP hS => ?_)
    have hP := P_of hP (en_o _ _ _ _ _ _ _ _ _ _ _)
    refine lv_goto (tgt := 25) hx hb dL_move_14 (by decide) ?_
    refine lv_iconst (v := 0) hx hb dL_move_25 (by decide) ?_
    exact W.iret hx hb hr (fun t ht hW => ⟨by rw [hk1]; rfl, ⟨_, ⟨_, _, _, _, rfl, by rw [hk1, if_pos rfl]; exact hC, fun _ => (pk_uLs : vp_updL o 0 _ 0 = _)⟩, by rw [ht]; exact hP⟩, hS.F ht⟩) hS.2.2 dL_move_26
  · refine g_VX (k := 4) F htw hB hS hP (0) (by decide) rfl rfl (c_P_move hst G ha hC d f t q) (by rw [hk1]; decide) k2_47 k2_48 k2_49 k1_1 k2_50 (by decide +kernel) rfl rfl ⟨Nat.le_of_ble_eq_true rfl, Nat.le_of_ble_eq_true rfl⟩ rfl hl.1 rfl (Nat.le_of_ble_eq_true rfl) dL_move_9 ⟨Nat.le_of_ble_eq_true rfl, Nat.le_of_ble_eq_true rfl⟩ (fun x H locs hO hP hS => ?_)
    obtain ⟨cell, o1, o2, o3⟩ := hO
    rw [hk1] at o3
    have o3 : s.vm.findClass "java/lang/IllegalArgumentException" = some cell.cls := o3
    refine WT.catch (own := "PairedTextsLaw") hown o1 o2 (Vm.classAt_of_findClass o3) [] [(⟨0, 14, 21, 25⟩ : ExceptionTableEntry)] (⟨0, 14, 17, 13⟩ : ExceptionTableEntry) (by rw [htab]; rfl) (fun z hz => absurd hz (by simp)) (by decide) (tx_rY F (by decide) k1_86 o3) ?_
    show W _ _ _ _ _ _ _ _ _ _ _ _ _ _ _ (F0 m 17 ls [Value.ref x])
    refine lv_astore hx hb dL_move_17 hl (by decide) rfl (fun ls hl => ?_)
    have hl : lv_has ls 7 [(6, .ref _), (0, .ref _), (1, .int _), (2, .int _), (3, .int _), (4, .int _), (5, .ref _)] := hl
    refine lv_iconst (v := 1) hx hb dL_move_19 (by decide) ?_
    exact W.iret hx hb hr (fun t ht hW => ⟨by rw [hk1]; rfl, ⟨_, ⟨_, _, _, _, rfl, by rw [hk1]; exact hC, fun h => absurd (hk1.symm.trans h) (by decide)⟩, by rw [ht]; exact hP⟩, hS.F ht⟩) hS.2.2 dL_move_20
  · refine g_VX (k := 4) F htw hB hS hP (0) (by decide) rfl rfl (c_P_move hst G ha hC d f t q) (by rw [hk1]; decide) k2_47 k2_48 k2_49 k1_1 k2_50 (by decide +kernel) rfl rfl ⟨Nat.le_of_ble_eq_true rfl, Nat.le_of_ble_eq_true rfl⟩ rfl hl.1 rfl (Nat.le_of_ble_eq_true rfl) dL_move_9 ⟨Nat.le_of_ble_eq_true rfl, Nat.le_of_ble_eq_true rfl⟩ (fun x H locs hO hP hS => ?_)
    obtain ⟨cell, o1, o2, o3⟩ := hO
    rw [hk1] at o3
    have o3 : s.vm.findClass "java/lang/IndexOutOfBoundsException" = some cell.cls := o3
    refine WT.catch (own := "PairedTextsLaw") hown o1 o2 (Vm.classAt_of_findClass o3) [(⟨0, 14, 17, 13⟩ : ExceptionTableEntry)] [] (⟨0, 14, 21, 25⟩ : ExceptionTableEntry) (by rw [htab]; rfl) (fun z hz => by obtain rfl := List.mem_singleton.mp hz; exact ⟨by decide, tx_rN F htw 1 0 (by decide) (by decide) (by decide) (by decide) k1_86 o3⟩) (by decide) (tx_rY F (by decide) k1_209 o3) ?_
    show W _ _ _ _ _ _ _ _ _ _ _ _ _ _ _ (F0 m 21 ls [Value.ref x])
    refine lv_astore hx hb dL_move_21 hl (by decide) rfl (fun ls hl => ?_)
    have hl : lv_has ls 7 [(6, .ref _), (0, .ref _), (1, .int _), (2, .int _), (3, .int _), (4, .int _), (5, .ref _)] := hl
    refine lv_iconst (v := 2) hx hb dL_move_23 (by decide) ?_
    exact W.iret hx hb hr (fun t ht hW => ⟨by rw [hk1]; rfl, ⟨_, ⟨_, _, _, _, rfl, by rw [hk1]; exact hC, fun h => absurd (hk1.symm.trans h) (by decide)⟩, by rw [ht]; exact hP⟩, hS.F ht⟩) hS.2.2 dL_move_24
set_option maxHeartbeats 4000000 in
set_option maxRecDepth 100000 in
theorem c_L_repeat (hst : l.stackTraces = false) (G : gGeo ad 25 base) (ha : a_ok a) (hC : RepC pi dr S a) (d : Int32) (f : Int32) (t : Int32) (n : Int32) : Met l yL_repeat (Cond.codeWith yL_repeat bL_repeat 7 (some .int) [(0, 14, 17, 13), (0, 14, 21, 25), (0, 14, 25, 15)] :: tws) { frames := 9, cells := 1, slots := 6, locals := 152 } (gPc (tw D cI cZ cT cJ base) D cl ad 25 base (en ad cI cZ cT cJ pi dr S M o) [.ref (ad 0), .int d, .int f, .int t, .int n, .ref (ad 24)]) (gQc D cl ad 25 base (some (.int (nI (c_repeat a d f t n)))) (fun e => ∃ (pi1 : Nat → Nat) (dr1 : Nat) (S1 : Nat → Nat → Int32) (o1 : Nat → Int64), e = en ad cI cZ cT cJ pi1 dr1 S1 M o1 ∧ RepC pi1 dr1 S1 (if c_repeat a d f t n = 0 then x_repeat a d f t n else a) ∧ (c_repeat a d f t n = 0 → o1 0 = (nI (a_n a (ix d) - (ix t - ix f) + ix n * (ix t - ix f))).toInt64))) 1 6 (gA base) := by
  refine Met.ofWH (cc := bL_repeat) (maxL := 7) (ret := (some .int)) (hs := [(0, 14, 17, 13), (0, 14, 21, 25), (0, 14, 25, 15)]) (by decide) rfl ?_
  intro p e s m args below meth c s₁ B hml htab hv
  obtain ⟨rfl, htw, hB, hP⟩ := hv
  have hx := B.exec
  have hb := B.bytes
  have hr := B.returns
  have hts0 := atoms_spec (ws := Cond.codeWith yL_repeat bL_repeat 7 (some .int) [(0, 14, 17, 13), (0, 14, 21, 25), (0, 14, 25, 15)] :: tws) B.pre
  have hts : ∀ w ∈ tws, w.before _ s = true := fun w h => hts0 w (List.mem_cons_of_mem _ h)
  have hown : s.vm.findClass "PairedTextsLaw" = some m.cls := findClass_of_methodNamed B.named
  have F : CallFix p m c bL_repeat 7 s _ tws "PairedTextsLaw" := ⟨hx, hb, hml, hown, hts⟩
  have hK := htw.1
  have hS : va_S (gA base) s.heap s.heap [] := va_S.rf
  have hl := lv_entry ([.ref (ad 0), .int d, .int f, .int t, .int n, .ref (ad 24)]) (n := 7) (Nat.le_of_ble_eq_true rfl)
  rw [lg_entry_eq]
  generalize (lg_sl ([.ref (ad 0), .int d, .int f, .int t, .int n, .ref (ad 24)]) ++ List.replicate (7 - (lg_sl ([.ref (ad 0), .int d, .int f, .int t, .int n, .ref (ad 24)])).length) Slot.unset).toArray = ls at hl ⊢
  have hl : lv_has ls 7 [(0, .ref (ad 0)), (1, .int d), (2, .int f), (3, .int t), (4, .int n), (5, .ref (ad 24))] := hl
  refine lv_aload hx hb dL_repeat_0 (lv_at hl 5 rfl) ?_
  refine lv_iconst (v := 0) hx hb dL_repeat_2 (by decide) ?_
  refine lv_aload_n hx hb dL_repeat_3 rfl (lv_at hl 0 rfl) ?_
  refine lv_iload_n hx hb dL_repeat_4 rfl (lv_at hl 1 rfl) ?_
  refine lv_iload_n hx hb dL_repeat_5 rfl (lv_at hl 2 rfl) ?_
  refine lv_iload_n hx hb dL_repeat_6 rfl (lv_at hl 3 rfl) ?_
  refine lv_iload hx hb dL_repeat_7 (lv_at hl 4 rfl) ?_
  have hkk : c_repeat a d f t n = 0 ∨ c_repeat a d f t n = 1 ∨ c_repeat a d f t n = 2 ∨ c_repeat a d f t n = 3 := by unfold c_repeat; (repeat' split) <;> simp
  rcases hkk with hk1 | hk1 | hk1 | hk1
  · refine g_V (k := 4) F htw hB hS hP (0) (by decide) rfl rfl (gX_met (c_P_repeat hst G ha hC d f t n) hk1) k2_54 k2_55 k2_56 k1_1 k2_57 (by decide +kernel) rfl rfl ⟨Nat.le_of_ble_eq_true rfl, Nat.le_of_ble_eq_true rfl⟩ rfl hl.1 rfl (Nat.le_of_ble_eq_true rfl) dL_repeat_9 ⟨Nat.le_of_ble_eq_true rfl, Nat.le_of_ble_eq_true rfl⟩ (fun en1 H locs he hP hS => ?_)
    obtain ⟨pi, dr, S, rfl, hC⟩ := he
    refine lv_i2l hx hb dL_repeat_12 rfl ?_
    refine g_last F hK G hP hS (24) (by decide) 3 rfl rfl (vp_in_nI (n := 0) (N := 1) (by decide) (by decide)) dL_repeat_13 (fun H locs hP hS => ?_)
    have hP := P_of hP (en_o _ _ _ _ _ _ _ _ _ _ _)
    refine lv_goto (tgt := 29) hx hb dL_repeat_14 (by decide) ?_
    refine lv_iconst (v := 0) hx hb dL_repeat_29 (by decide) ?_
    exact W.iret hx hb hr (fun t ht hW => ⟨by rw [hk1]; rfl, ⟨_, ⟨_, _, _, _, rfl, by rw [hk1, if_pos rfl]; exact hC, fun _ => (pk_uLs : vp_updL o 0 _ 0 = _)⟩, by rw [ht]; exact hP⟩, hS.F ht⟩) hS.2.2 dL_repeat_30
  · refine g_VX (k := 4) F htw hB hS hP (0) (by decide) rfl rfl (c_P_repeat hst G ha hC d f t n) (by rw [hk1]; decide) k2_54 k2_55 k2_56 k1_1 k2_57 (by decide +kernel) rfl rfl ⟨Nat.le_of_ble_eq_true rfl, Nat.le_of_ble_eq_true rfl⟩ rfl hl.1 rfl (Nat.le_of_ble_eq_true rfl) dL_repeat_9 ⟨Nat.le_of_ble_eq_true rfl, Nat.le_of_ble_eq_true rfl⟩ (fun x H locs hO hP hS => ?_)
    obtain ⟨cell, o1, o2, o3⟩ := hO
    rw [hk1] at o3
    have o3 : s.vm.findClass "java/lang/IllegalArgumentException" = some cell.cls := o3
    refine WT.catch (own := "PairedTextsLaw") hown o1 o2 (Vm.classAt_of_findClass o3) [] [(⟨0, 14, 21, 25⟩ : ExceptionTableEntry), (⟨0, 14, 25, 15⟩ : ExceptionTableEntry)] (⟨0, 14, 17, 13⟩ : ExceptionTableEntry) (by rw [htab]; rfl) (fun z hz => absurd hz (by simp)) (by decide) (tx_rY F (by decide) k1_86 o3) ?_
    show W _ _ _ _ _ _ _ _ _ _ _ _ _ _ _ (F0 m 17 ls [Value.ref x])
    refine lv_astore hx hb dL_repeat_17 hl (by decide) rfl (fun ls hl => ?_)
    have hl : lv_has ls 7 [(6, .ref _), (0, .ref _), (1, .int _), (2, .int _), (3, .int _), (4, .int _), (5, .ref _)] := hl
    refine lv_iconst (v := 1) hx hb dL_repeat_19 (by decide) ?_
    exact W.iret hx hb hr (fun t ht hW => ⟨by rw [hk1]; rfl, ⟨_, ⟨_, _, _, _, rfl, by rw [hk1]; exact hC, fun h => absurd (hk1.symm.trans h) (by decide)⟩, by rw [ht]; exact hP⟩, hS.F ht⟩) hS.2.2 dL_repeat_20
  · refine g_VX (k := 4) F htw hB hS hP (0) (by decide) rfl rfl (c_P_repeat hst G ha hC d f t n) (by rw [hk1]; decide) k2_54 k2_55 k2_56 k1_1 k2_57 (by decide +kernel) rfl rfl ⟨Nat.le_of_ble_eq_true rfl, Nat.le_of_ble_eq_true rfl⟩ rfl hl.1 rfl (Nat.le_of_ble_eq_true rfl) dL_repeat_9 ⟨Nat.le_of_ble_eq_true rfl, Nat.le_of_ble_eq_true rfl⟩ (fun x H locs hO hP hS => ?_)
    obtain ⟨cell, o1, o2, o3⟩ := hO
    rw [hk1] at o3
    have o3 : s.vm.findClass "java/lang/IndexOutOfBoundsException" = some cell.cls := o3
    refine WT.catch (own := "PairedTextsLaw") hown o1 o2 (Vm.classAt_of_findClass o3) [(⟨0, 14, 17, 13⟩ : ExceptionTableEntry)] [(⟨0, 14, 25, 15⟩ : ExceptionTableEntry)] (⟨0, 14, 21, 25⟩ : ExceptionTableEntry) (by rw [htab]; rfl) (fun z hz => by obtain rfl := List.mem_singleton.mp hz; exact ⟨by decide, tx_rN F htw 1 0 (by decide) (by decide) (by decide) (by decide) k1_86 o3⟩) (by decide) (tx_rY F (by decide) k1_209 o3) ?_
    show W _ _ _ _ _ _ _ _ _ _ _ _ _ _ _ (F0 m 21 ls [Value.ref x])
    refine lv_astore hx hb dL_repeat_21 hl (by decide) rfl (fun ls hl => ?_)
    have hl : lv_has ls 7 [(6, .ref _), (0, .ref _), (1, .int _), (2, .int _), (3, .int _), (4, .int _), (5, .ref _)] := hl
    refine lv_iconst (v := 2) hx hb dL_repeat_23 (by decide) ?_
    exact W.iret hx hb hr (fun t ht hW => ⟨by rw [hk1]; rfl, ⟨_, ⟨_, _, _, _, rfl, by rw [hk1]; exact hC, fun h => absurd (hk1.symm.trans h) (by decide)⟩, by rw [ht]; exact hP⟩, hS.F ht⟩) hS.2.2 dL_repeat_24
  · refine g_VX (k := 4) F htw hB hS hP (0) (by decide) rfl rfl (c_P_repeat hst G ha hC d f t n) (by rw [hk1]; decide) k2_54 k2_55 k2_56 k1_1 k2_57 (by decide +kernel) rfl rfl ⟨Nat.le_of_ble_eq_true rfl, Nat.le_of_ble_eq_true rfl⟩ rfl hl.1 rfl (Nat.le_of_ble_eq_true rfl) dL_repeat_9 ⟨Nat.le_of_ble_eq_true rfl, Nat.le_of_ble_eq_true rfl⟩ (fun x H locs hO hP hS => ?_)
    obtain ⟨cell, o1, o2, o3⟩ := hO
    rw [hk1] at o3
    have o3 : s.vm.findClass "java/lang/UnsupportedOperationException" = some cell.cls := o3
    refine WT.catch (own := "PairedTextsLaw") hown o1 o2 (Vm.classAt_of_findClass o3) [(⟨0, 14, 17, 13⟩ : ExceptionTableEntry), (⟨0, 14, 21, 25⟩ : ExceptionTableEntry)] [] (⟨0, 14, 25, 15⟩ : ExceptionTableEntry) (by rw [htab]; rfl) (fun z hz => by rcases List.mem_cons.mp hz with rfl | hz2; (exact ⟨by decide, tx_rN F htw 2 0 (by decide) (by decide) (by decide) (by decide) k1_86 o3⟩); (obtain rfl := List.mem_singleton.mp hz2; exact ⟨by decide, tx_rN F htw 2 1 (by decide) (by decide) (by decide) (by decide) k1_209 o3⟩)) (by decide) (tx_rY F (by decide) k1_87 o3) ?_
    show W _ _ _ _ _ _ _ _ _ _ _ _ _ _ _ (F0 m 25 ls [Value.ref x])
    refine lv_astore hx hb dL_repeat_25 hl (by decide) rfl (fun ls hl => ?_)
    have hl : lv_has ls 7 [(6, .ref _), (0, .ref _), (1, .int _), (2, .int _), (3, .int _), (4, .int _), (5, .ref _)] := hl
    refine lv_iconst (v := 3) hx hb dL_repeat_27 (by decide) ?_
    exact W.iret hx hb hr (fun t ht hW => ⟨by rw [hk1]; rfl, ⟨_, ⟨_, _, _, _, rfl, by rw [hk1]; exact hC, fun h => absurd (hk1.symm.trans h) (by decide)⟩, by rw [ht]; exact hP⟩, hS.F ht⟩) hS.2.2 dL_repeat_28
set_option maxHeartbeats 4000000 in
set_option maxRecDepth 100000 in
theorem c_L_same (hst : l.stackTraces = false) (G : gGeo ad 25 base) (ha : a_ok a) (hC : RepC pi dr S a) (d : Int32) (i : Int32) (d2 : Int32) (j : Int32) (n : Int32) : Met l yL_same (Cond.codeWith yL_same bL_same 8 (some .int) [(0, 23, 26, 13), (0, 23, 30, 25)] :: tws) { frames := 9, cells := 1, slots := 6, locals := 150 } (gPc (tw D cI cZ cT cJ base) D cl ad 25 base (en ad cI cZ cT cJ pi dr S M o) [.ref (ad 0), .int d, .int i, .int d2, .int j, .int n, .ref (ad 24)]) (gQc D cl ad 25 base (some (.int (nI (c_same a d i d2 j n)))) (fun e => ∃ (pi1 : Nat → Nat) (dr1 : Nat) (S1 : Nat → Nat → Int32) (o1 : Nat → Int64), e = en ad cI cZ cT cJ pi1 dr1 S1 M o1 ∧ RepC pi1 dr1 S1 (if c_same a d i d2 j n = 0 then a else a) ∧ (c_same a d i d2 j n = 0 → o1 0 = (if ix n ≤ cpr a (ix d) (ix i) (ix d2) (ix j) then (1 : Int64) else 0)))) 1 6 (gA base) := by
  refine Met.ofWH (cc := bL_same) (maxL := 8) (ret := (some .int)) (hs := [(0, 23, 26, 13), (0, 23, 30, 25)]) (by decide) rfl ?_
  intro p e s m args below meth c s₁ B hml htab hv
  obtain ⟨rfl, htw, hB, hP⟩ := hv
  have hx := B.exec
  have hb := B.bytes
  have hr := B.returns
  have hts0 := atoms_spec (ws := Cond.codeWith yL_same bL_same 8 (some .int) [(0, 23, 26, 13), (0, 23, 30, 25)] :: tws) B.pre
  have hts : ∀ w ∈ tws, w.before _ s = true := fun w h => hts0 w (List.mem_cons_of_mem _ h)
  have hown : s.vm.findClass "PairedTextsLaw" = some m.cls := findClass_of_methodNamed B.named
  have F : CallFix p m c bL_same 8 s _ tws "PairedTextsLaw" := ⟨hx, hb, hml, hown, hts⟩
  have hK := htw.1
  have hS : va_S (gA base) s.heap s.heap [] := va_S.rf
  have hl := lv_entry ([.ref (ad 0), .int d, .int i, .int d2, .int j, .int n, .ref (ad 24)]) (n := 8) (Nat.le_of_ble_eq_true rfl)
  rw [lg_entry_eq]
  generalize (lg_sl ([.ref (ad 0), .int d, .int i, .int d2, .int j, .int n, .ref (ad 24)]) ++ List.replicate (8 - (lg_sl ([.ref (ad 0), .int d, .int i, .int d2, .int j, .int n, .ref (ad 24)])).length) Slot.unset).toArray = ls at hl ⊢
  have hl : lv_has ls 8 [(0, .ref (ad 0)), (1, .int d), (2, .int i), (3, .int d2), (4, .int j), (5, .int n), (6, .ref (ad 24))] := hl
  refine lv_aload hx hb dL_same_0 (lv_at hl 6 rfl) ?_
  refine lv_iconst (v := 0) hx hb dL_same_2 (by decide) ?_
  refine lv_aload_n hx hb dL_same_3 rfl (lv_at hl 0 rfl) ?_
  refine lv_iload_n hx hb dL_same_4 rfl (lv_at hl 1 rfl) ?_
  refine lv_iload_n hx hb dL_same_5 rfl (lv_at hl 2 rfl) ?_
  refine lv_iload_n hx hb dL_same_6 rfl (lv_at hl 3 rfl) ?_
  refine lv_iload hx hb dL_same_7 (lv_at hl 4 rfl) ?_
  refine lv_iload hx hb dL_same_9 (lv_at hl 5 rfl) ?_
  have hkk : c_same a d i d2 j n = 0 ∨ c_same a d i d2 j n = 1 ∨ c_same a d i d2 j n = 2 := by unfold c_same; (repeat' split) <;> simp
  rcases hkk with hk1 | hk1 | hk1
  · refine g_V (k := 5) F htw hB hS hP (0) (by decide) rfl rfl (gX_met (c_P_same hst G ha hC d i d2 j n) hk1) k2_61 k2_62 k2_63 k1_1 k2_64 (by decide +kernel) rfl rfl ⟨Nat.le_of_ble_eq_true rfl, Nat.le_of_ble_eq_true rfl⟩ rfl hl.1 rfl (Nat.le_of_ble_eq_true rfl) dL_same_11 ⟨Nat.le_of_ble_eq_true rfl, Nat.le_of_ble_eq_true rfl⟩ (fun en1 H locs he hP hS => ?_)
    obtain ⟨pi, dr, S, rfl, hC⟩ := he
    by_cases hcp : ix n ≤ cpr a (ix d) (ix i) (ix d2) (ix j)
    · have hv : (if ix n ≤ cpr a (ix d) (ix i) (ix d2) (ix j) then (1 : Int64) else 0) = 1 := if_pos hcp
      refine lv_if_eq (tgt := 21) hx hb dL_same_14 (by decide) (fun hc => absurd hc (by rw [if_pos hcp]; decide)) (fun _ => ?_)
      refine lv_lconst (v := 1) hx hb dL_same_17 (by decide) ?_
      refine lv_goto (tgt := 22) hx hb dL_same_18 (by decide) ?_
      refine g_last F hK G hP hS (24) (by decide) 3 rfl rfl (vp_in_nI (n := 0) (N := 1) (by decide) (by decide)) dL_same_22 (fun H locs hP hS => ?_)
      have hP := P_of hP (en_o _ _ _ _ _ _ _ _ _ _ _)
      refine lv_goto (tgt := 34) hx hb dL_same_23 (by decide) ?_
      refine lv_iconst (v := 0) hx hb dL_same_34 (by decide) ?_
      exact W.iret hx hb hr (fun t ht hW => ⟨by rw [hk1]; rfl, ⟨_, ⟨_, _, _, _, rfl, by rw [hk1, if_pos rfl]; exact hC, fun _ => (pk_uLs : vp_updL o 0 _ 0 = _).trans hv.symm⟩, by rw [ht]; exact hP⟩, hS.F ht⟩) hS.2.2 dL_same_35
    · have hv : (if ix n ≤ cpr a (ix d) (ix i) (ix d2) (ix j) then (1 : Int64) else 0) = 0 := if_neg hcp
      refine lv_if_eq (tgt := 21) hx hb dL_same_14 (by decide) (fun _ => ?_) (fun hc => absurd (if_neg hcp) hc)
      refine lv_lconst (v := 0) hx hb dL_same_21 (by decide) ?_
      refine g_last F hK G hP hS (24) (by decide) 3 rfl rfl (vp_in_nI (n := 0) (N := 1) (by decide) (by decide)) dL_same_22 (fun H locs hP hS => ?_)
      have hP := P_of hP (en_o _ _ _ _ _ _ _ _ _ _ _)
      refine lv_goto (tgt := 34) hx hb dL_same_23 (by decide) ?_
      refine lv_iconst (v := 0) hx hb dL_same_34 (by decide) ?_
      exact W.iret hx hb hr (fun t ht hW => ⟨by rw [hk1]; rfl, ⟨_, ⟨_, _, _, _, rfl, by rw [hk1, if_pos rfl]; exact hC, fun _ => (pk_uLs : vp_updL o 0 _ 0 = _).trans hv.symm⟩, by rw [ht]; exact hP⟩, hS.F ht⟩) hS.2.2 dL_same_35
  · refine g_VX (k := 5) F htw hB hS hP (0) (by decide) rfl rfl (c_P_same hst G ha hC d i d2 j n) (by rw [hk1]; decide) k2_61 k2_62 k2_63 k1_1 k2_64 (by decide +kernel) rfl rfl ⟨Nat.le_of_ble_eq_true rfl, Nat.le_of_ble_eq_true rfl⟩ rfl hl.1 rfl (Nat.le_of_ble_eq_true rfl) dL_same_11 ⟨Nat.le_of_ble_eq_true rfl, Nat.le_of_ble_eq_true rfl⟩ (fun x H locs hO hP hS => ?_)
    obtain ⟨cell, o1, o2, o3⟩ := hO
    rw [hk1] at o3
    have o3 : s.vm.findClass "java/lang/IllegalArgumentException" = some cell.cls := o3
    refine WT.catch (own := "PairedTextsLaw") hown o1 o2 (Vm.classAt_of_findClass o3) [] [(⟨0, 23, 30, 25⟩ : ExceptionTableEntry)] (⟨0, 23, 26, 13⟩ : ExceptionTableEntry) (by rw [htab]; rfl) (fun z hz => absurd hz (by simp)) (by decide) (tx_rY F (by decide) k1_86 o3) ?_
    show W _ _ _ _ _ _ _ _ _ _ _ _ _ _ _ (F0 m 26 ls [Value.ref x])
    refine lv_astore hx hb dL_same_26 hl (by decide) rfl (fun ls hl => ?_)
    have hl : lv_has ls 8 [(7, .ref _), (0, .ref _), (1, .int _), (2, .int _), (3, .int _), (4, .int _), (5, .int _), (6, .ref _)] := hl
    refine lv_iconst (v := 1) hx hb dL_same_28 (by decide) ?_
    exact W.iret hx hb hr (fun t ht hW => ⟨by rw [hk1]; rfl, ⟨_, ⟨_, _, _, _, rfl, by rw [hk1]; exact hC, fun h => absurd (hk1.symm.trans h) (by decide)⟩, by rw [ht]; exact hP⟩, hS.F ht⟩) hS.2.2 dL_same_29
  · refine g_VX (k := 5) F htw hB hS hP (0) (by decide) rfl rfl (c_P_same hst G ha hC d i d2 j n) (by rw [hk1]; decide) k2_61 k2_62 k2_63 k1_1 k2_64 (by decide +kernel) rfl rfl ⟨Nat.le_of_ble_eq_true rfl, Nat.le_of_ble_eq_true rfl⟩ rfl hl.1 rfl (Nat.le_of_ble_eq_true rfl) dL_same_11 ⟨Nat.le_of_ble_eq_true rfl, Nat.le_of_ble_eq_true rfl⟩ (fun x H locs hO hP hS => ?_)
    obtain ⟨cell, o1, o2, o3⟩ := hO
    rw [hk1] at o3
    have o3 : s.vm.findClass "java/lang/IndexOutOfBoundsException" = some cell.cls := o3
    refine WT.catch (own := "PairedTextsLaw") hown o1 o2 (Vm.classAt_of_findClass o3) [(⟨0, 23, 26, 13⟩ : ExceptionTableEntry)] [] (⟨0, 23, 30, 25⟩ : ExceptionTableEntry) (by rw [htab]; rfl) (fun z hz => by obtain rfl := List.mem_singleton.mp hz; exact ⟨by decide, tx_rN F htw 1 0 (by decide) (by decide) (by decide) (by decide) k1_86 o3⟩) (by decide) (tx_rY F (by decide) k1_209 o3) ?_
    show W _ _ _ _ _ _ _ _ _ _ _ _ _ _ _ (F0 m 30 ls [Value.ref x])
    refine lv_astore hx hb dL_same_30 hl (by decide) rfl (fun ls hl => ?_)
    have hl : lv_has ls 8 [(7, .ref _), (0, .ref _), (1, .int _), (2, .int _), (3, .int _), (4, .int _), (5, .int _), (6, .ref _)] := hl
    refine lv_iconst (v := 2) hx hb dL_same_32 (by decide) ?_
    exact W.iret hx hb hr (fun t ht hW => ⟨by rw [hk1]; rfl, ⟨_, ⟨_, _, _, _, rfl, by rw [hk1]; exact hC, fun h => absurd (hk1.symm.trans h) (by decide)⟩, by rw [ht]; exact hP⟩, hS.F ht⟩) hS.2.2 dL_same_33
set_option maxHeartbeats 4000000 in
set_option maxRecDepth 100000 in
theorem c_L_prefix (hst : l.stackTraces = false) (G : gGeo ad 25 base) (ha : a_ok a) (hC : RepC pi dr S a) (d : Int32) (i : Int32) (d2 : Int32) (j : Int32) : Met l yL_prefix (Cond.codeWith yL_prefix bL_prefix 7 (some .int) [(0, 14, 17, 13), (0, 14, 21, 25)] :: tws) { frames := 9, cells := 1, slots := 6, locals := 149 } (gPc (tw D cI cZ cT cJ base) D cl ad 25 base (en ad cI cZ cT cJ pi dr S M o) [.ref (ad 0), .int d, .int i, .int d2, .int j, .ref (ad 24)]) (gQc D cl ad 25 base (some (.int (nI (c_prefix a d i d2 j)))) (fun e => ∃ (pi1 : Nat → Nat) (dr1 : Nat) (S1 : Nat → Nat → Int32) (o1 : Nat → Int64), e = en ad cI cZ cT cJ pi1 dr1 S1 M o1 ∧ RepC pi1 dr1 S1 (if c_prefix a d i d2 j = 0 then a else a) ∧ (c_prefix a d i d2 j = 0 → o1 0 = (nI (cpr a (ix d) (ix i) (ix d2) (ix j))).toInt64))) 1 6 (gA base) := by
  refine Met.ofWH (cc := bL_prefix) (maxL := 7) (ret := (some .int)) (hs := [(0, 14, 17, 13), (0, 14, 21, 25)]) (by decide) rfl ?_
  intro p e s m args below meth c s₁ B hml htab hv
  obtain ⟨rfl, htw, hB, hP⟩ := hv
  have hx := B.exec
  have hb := B.bytes
  have hr := B.returns
  have hts0 := atoms_spec (ws := Cond.codeWith yL_prefix bL_prefix 7 (some .int) [(0, 14, 17, 13), (0, 14, 21, 25)] :: tws) B.pre
  have hts : ∀ w ∈ tws, w.before _ s = true := fun w h => hts0 w (List.mem_cons_of_mem _ h)
  have hown : s.vm.findClass "PairedTextsLaw" = some m.cls := findClass_of_methodNamed B.named
  have F : CallFix p m c bL_prefix 7 s _ tws "PairedTextsLaw" := ⟨hx, hb, hml, hown, hts⟩
  have hK := htw.1
  have hS : va_S (gA base) s.heap s.heap [] := va_S.rf
  have hl := lv_entry ([.ref (ad 0), .int d, .int i, .int d2, .int j, .ref (ad 24)]) (n := 7) (Nat.le_of_ble_eq_true rfl)
  rw [lg_entry_eq]
  generalize (lg_sl ([.ref (ad 0), .int d, .int i, .int d2, .int j, .ref (ad 24)]) ++ List.replicate (7 - (lg_sl ([.ref (ad 0), .int d, .int i, .int d2, .int j, .ref (ad 24)])).length) Slot.unset).toArray = ls at hl ⊢
  have hl : lv_has ls 7 [(0, .ref (ad 0)), (1, .int d), (2, .int i), (3, .int d2), (4, .int j), (5, .ref (ad 24))] := hl
  refine lv_aload hx hb dL_prefix_0 (lv_at hl 5 rfl) ?_
  refine lv_iconst (v := 0) hx hb dL_prefix_2 (by decide) ?_
  refine lv_aload_n hx hb dL_prefix_3 rfl (lv_at hl 0 rfl) ?_
  refine lv_iload_n hx hb dL_prefix_4 rfl (lv_at hl 1 rfl) ?_
  refine lv_iload_n hx hb dL_prefix_5 rfl (lv_at hl 2 rfl) ?_
  refine lv_iload_n hx hb dL_prefix_6 rfl (lv_at hl 3 rfl) ?_
  refine lv_iload hx hb dL_prefix_7 (lv_at hl 4 rfl) ?_
  have hkk : c_prefix a d i d2 j = 0 ∨ c_prefix a d i d2 j = 1 ∨ c_prefix a d i d2 j = 2 := by unfold c_prefix; (repeat' split) <;> simp
  rcases hkk with hk1 | hk1 | hk1
  · refine g_V (k := 4) F htw hB hS hP (0) (by decide) rfl rfl (gX_met (c_P_prefix hst G ha hC d i d2 j) hk1) k2_74 k2_75 k2_76 k1_1 k2_77 (by decide +kernel) rfl rfl ⟨Nat.le_of_ble_eq_true rfl, Nat.le_of_ble_eq_true rfl⟩ rfl hl.1 rfl (Nat.le_of_ble_eq_true rfl) dL_prefix_9 ⟨Nat.le_of_ble_eq_true rfl, Nat.le_of_ble_eq_true rfl⟩ (fun en1 H locs he hP hS => ?_)
    obtain ⟨pi, dr, S, rfl, hC⟩ := he
    refine lv_i2l hx hb dL_prefix_12 rfl ?_
    refine g_last F hK G hP hS (24) (by decide) 3 rfl rfl (vp_in_nI (n := 0) (N := 1) (by decide) (by decide)) dL_prefix_13 (fun H locs hP hS => ?_)
    have hP := P_of hP (en_o _ _ _ _ _ _ _ _ _ _ _)
    refine lv_goto (tgt := 25) hx hb dL_prefix_14 (by decide) ?_
    refine lv_iconst (v := 0) hx hb dL_prefix_25 (by decide) ?_
    exact W.iret hx hb hr (fun t ht hW => ⟨by rw [hk1]; rfl, ⟨_, ⟨_, _, _, _, rfl, by rw [hk1, if_pos rfl]; exact hC, fun _ => (pk_uLs : vp_updL o 0 _ 0 = _)⟩, by rw [ht]; exact hP⟩, hS.F ht⟩) hS.2.2 dL_prefix_26
  · refine g_VX (k := 4) F htw hB hS hP (0) (by decide) rfl rfl (c_P_prefix hst G ha hC d i d2 j) (by rw [hk1]; decide) k2_74 k2_75 k2_76 k1_1 k2_77 (by decide +kernel) rfl rfl ⟨Nat.le_of_ble_eq_true rfl, Nat.le_of_ble_eq_true rfl⟩ rfl hl.1 rfl (Nat.le_of_ble_eq_true rfl) dL_prefix_9 ⟨Nat.le_of_ble_eq_true rfl, Nat.le_of_ble_eq_true rfl⟩ (fun x H locs hO hP hS => ?_)
    obtain ⟨cell, o1, o2, o3⟩ := hO
    rw [hk1] at o3
    have o3 : s.vm.findClass "java/lang/IllegalArgumentException" = some cell.cls := o3
    refine WT.catch (own := "PairedTextsLaw") hown o1 o2 (Vm.classAt_of_findClass o3) [] [(⟨0, 14, 21, 25⟩ : ExceptionTableEntry)] (⟨0, 14, 17, 13⟩ : ExceptionTableEntry) (by rw [htab]; rfl) (fun z hz => absurd hz (by simp)) (by decide) (tx_rY F (by decide) k1_86 o3) ?_
    show W _ _ _ _ _ _ _ _ _ _ _ _ _ _ _ (F0 m 17 ls [Value.ref x])
    refine lv_astore hx hb dL_prefix_17 hl (by decide) rfl (fun ls hl => ?_)
    have hl : lv_has ls 7 [(6, .ref _), (0, .ref _), (1, .int _), (2, .int _), (3, .int _), (4, .int _), (5, .ref _)] := hl
    refine lv_iconst (v := 1) hx hb dL_prefix_19 (by decide) ?_
    exact W.iret hx hb hr (fun t ht hW => ⟨by rw [hk1]; rfl, ⟨_, ⟨_, _, _, _, rfl, by rw [hk1]; exact hC, fun h => absurd (hk1.symm.trans h) (by decide)⟩, by rw [ht]; exact hP⟩, hS.F ht⟩) hS.2.2 dL_prefix_20
  · refine g_VX (k := 4) F htw hB hS hP (0) (by decide) rfl rfl (c_P_prefix hst G ha hC d i d2 j) (by rw [hk1]; decide) k2_74 k2_75 k2_76 k1_1 k2_77 (by decide +kernel) rfl rfl ⟨Nat.le_of_ble_eq_true rfl, Nat.le_of_ble_eq_true rfl⟩ rfl hl.1 rfl (Nat.le_of_ble_eq_true rfl) dL_prefix_9 ⟨Nat.le_of_ble_eq_true rfl, Nat.le_of_ble_eq_true rfl⟩ (fun x H locs hO hP hS => ?_)
    obtain ⟨cell, o1, o2, o3⟩ := hO
    rw [hk1] at o3
    have o3 : s.vm.findClass "java/lang/IndexOutOfBoundsException" = some cell.cls := o3
    refine WT.catch (own := "PairedTextsLaw") hown o1 o2 (Vm.classAt_of_findClass o3) [(⟨0, 14, 17, 13⟩ : ExceptionTableEntry)] [] (⟨0, 14, 21, 25⟩ : ExceptionTableEntry) (by rw [htab]; rfl) (fun z hz => by obtain rfl := List.mem_singleton.mp hz; exact ⟨by decide, tx_rN F htw 1 0 (by decide) (by decide) (by decide) (by decide) k1_86 o3⟩) (by decide) (tx_rY F (by decide) k1_209 o3) ?_
    show W _ _ _ _ _ _ _ _ _ _ _ _ _ _ _ (F0 m 21 ls [Value.ref x])
    refine lv_astore hx hb dL_prefix_21 hl (by decide) rfl (fun ls hl => ?_)
    have hl : lv_has ls 7 [(6, .ref _), (0, .ref _), (1, .int _), (2, .int _), (3, .int _), (4, .int _), (5, .ref _)] := hl
    refine lv_iconst (v := 2) hx hb dL_prefix_23 (by decide) ?_
    exact W.iret hx hb hr (fun t ht hW => ⟨by rw [hk1]; rfl, ⟨_, ⟨_, _, _, _, rfl, by rw [hk1]; exact hC, fun h => absurd (hk1.symm.trans h) (by decide)⟩, by rw [ht]; exact hP⟩, hS.F ht⟩) hS.2.2 dL_prefix_24
set_option maxHeartbeats 4000000 in
set_option maxRecDepth 100000 in
theorem c_L_order (hst : l.stackTraces = false) (G : gGeo ad 25 base) (ha : a_ok a) (hC : RepC pi dr S a) (d : Int32) (i : Int32) (d2 : Int32) (j : Int32) : Met l yL_order (Cond.codeWith yL_order bL_order 7 (some .int) [(0, 14, 17, 13), (0, 14, 21, 25)] :: tws) { frames := 9, cells := 1, slots := 6, locals := 152 } (gPc (tw D cI cZ cT cJ base) D cl ad 25 base (en ad cI cZ cT cJ pi dr S M o) [.ref (ad 0), .int d, .int i, .int d2, .int j, .ref (ad 24)]) (gQc D cl ad 25 base (some (.int (nI (c_prefix a d i d2 j)))) (fun e => ∃ (pi1 : Nat → Nat) (dr1 : Nat) (S1 : Nat → Nat → Int32) (o1 : Nat → Int64), e = en ad cI cZ cT cJ pi1 dr1 S1 M o1 ∧ RepC pi1 dr1 S1 (if c_prefix a d i d2 j = 0 then a else a) ∧ (c_prefix a d i d2 j = 0 → o1 0 = (r_order a (ix d) (ix i) (ix d2) (ix j)).toInt64))) 1 6 (gA base) := by
  refine Met.ofWH (cc := bL_order) (maxL := 7) (ret := (some .int)) (hs := [(0, 14, 17, 13), (0, 14, 21, 25)]) (by decide) rfl ?_
  intro p e s m args below meth c s₁ B hml htab hv
  obtain ⟨rfl, htw, hB, hP⟩ := hv
  have hx := B.exec
  have hb := B.bytes
  have hr := B.returns
  have hts0 := atoms_spec (ws := Cond.codeWith yL_order bL_order 7 (some .int) [(0, 14, 17, 13), (0, 14, 21, 25)] :: tws) B.pre
  have hts : ∀ w ∈ tws, w.before _ s = true := fun w h => hts0 w (List.mem_cons_of_mem _ h)
  have hown : s.vm.findClass "PairedTextsLaw" = some m.cls := findClass_of_methodNamed B.named
  have F : CallFix p m c bL_order 7 s _ tws "PairedTextsLaw" := ⟨hx, hb, hml, hown, hts⟩
  have hK := htw.1
  have hS : va_S (gA base) s.heap s.heap [] := va_S.rf
  have hl := lv_entry ([.ref (ad 0), .int d, .int i, .int d2, .int j, .ref (ad 24)]) (n := 7) (Nat.le_of_ble_eq_true rfl)
  rw [lg_entry_eq]
  generalize (lg_sl ([.ref (ad 0), .int d, .int i, .int d2, .int j, .ref (ad 24)]) ++ List.replicate (7 - (lg_sl ([.ref (ad 0), .int d, .int i, .int d2, .int j, .ref (ad 24)])).length) Slot.unset).toArray = ls at hl ⊢
  have hl : lv_has ls 7 [(0, .ref (ad 0)), (1, .int d), (2, .int i), (3, .int d2), (4, .int j), (5, .ref (ad 24))] := hl
  refine lv_aload hx hb dL_order_0 (lv_at hl 5 rfl) ?_
  refine lv_iconst (v := 0) hx hb dL_order_2 (by decide) ?_
  refine lv_aload_n hx hb dL_order_3 rfl (lv_at hl 0 rfl) ?_
  refine lv_iload_n hx hb dL_order_4 rfl (lv_at hl 1 rfl) ?_
  refine lv_iload_n hx hb dL_order_5 rfl (lv_at hl 2 rfl) ?_
  refine lv_iload_n hx hb dL_order_6 rfl (lv_at hl 3 rfl) ?_
  refine lv_iload hx hb dL_order_7 (lv_at hl 4 rfl) ?_
  have hkk : c_prefix a d i d2 j = 0 ∨ c_prefix a d i d2 j = 1 ∨ c_prefix a d i d2 j = 2 := by unfold c_prefix; (repeat' split) <;> simp
  rcases hkk with hk1 | hk1 | hk1
  · refine g_V (k := 4) F htw hB hS hP (0) (by decide) rfl rfl (gX_met (c_P_order hst G ha hC d i d2 j) hk1) k2_81 k2_82 k2_83 k1_1 k2_84 (by decide +kernel) rfl rfl ⟨Nat.le_of_ble_eq_true rfl, Nat.le_of_ble_eq_true rfl⟩ rfl hl.1 rfl (Nat.le_of_ble_eq_true rfl) dL_order_9 ⟨Nat.le_of_ble_eq_true rfl, Nat.le_of_ble_eq_true rfl⟩ (fun en1 H locs he hP hS => ?_)
    obtain ⟨pi, dr, S, rfl, hC⟩ := he
    refine lv_i2l hx hb dL_order_12 rfl ?_
    refine g_last F hK G hP hS (24) (by decide) 3 rfl rfl (vp_in_nI (n := 0) (N := 1) (by decide) (by decide)) dL_order_13 (fun H locs hP hS => ?_)
    have hP := P_of hP (en_o _ _ _ _ _ _ _ _ _ _ _)
    refine lv_goto (tgt := 25) hx hb dL_order_14 (by decide) ?_
    refine lv_iconst (v := 0) hx hb dL_order_25 (by decide) ?_
    exact W.iret hx hb hr (fun t ht hW => ⟨by rw [hk1]; rfl, ⟨_, ⟨_, _, _, _, rfl, by rw [hk1, if_pos rfl]; exact hC, fun _ => (pk_uLs : vp_updL o 0 _ 0 = _)⟩, by rw [ht]; exact hP⟩, hS.F ht⟩) hS.2.2 dL_order_26
  · refine g_VX (k := 4) F htw hB hS hP (0) (by decide) rfl rfl (c_P_order hst G ha hC d i d2 j) (by rw [hk1]; decide) k2_81 k2_82 k2_83 k1_1 k2_84 (by decide +kernel) rfl rfl ⟨Nat.le_of_ble_eq_true rfl, Nat.le_of_ble_eq_true rfl⟩ rfl hl.1 rfl (Nat.le_of_ble_eq_true rfl) dL_order_9 ⟨Nat.le_of_ble_eq_true rfl, Nat.le_of_ble_eq_true rfl⟩ (fun x H locs hO hP hS => ?_)
    obtain ⟨cell, o1, o2, o3⟩ := hO
    rw [hk1] at o3
    have o3 : s.vm.findClass "java/lang/IllegalArgumentException" = some cell.cls := o3
    refine WT.catch (own := "PairedTextsLaw") hown o1 o2 (Vm.classAt_of_findClass o3) [] [(⟨0, 14, 21, 25⟩ : ExceptionTableEntry)] (⟨0, 14, 17, 13⟩ : ExceptionTableEntry) (by rw [htab]; rfl) (fun z hz => absurd hz (by simp)) (by decide) (tx_rY F (by decide) k1_86 o3) ?_
    show W _ _ _ _ _ _ _ _ _ _ _ _ _ _ _ (F0 m 17 ls [Value.ref x])
    refine lv_astore hx hb dL_order_17 hl (by decide) rfl (fun ls hl => ?_)
    have hl : lv_has ls 7 [(6, .ref _), (0, .ref _), (1, .int _), (2, .int _), (3, .int _), (4, .int _), (5, .ref _)] := hl
    refine lv_iconst (v := 1) hx hb dL_order_19 (by decide) ?_
    exact W.iret hx hb hr (fun t ht hW => ⟨by rw [hk1]; rfl, ⟨_, ⟨_, _, _, _, rfl, by rw [hk1]; exact hC, fun h => absurd (hk1.symm.trans h) (by decide)⟩, by rw [ht]; exact hP⟩, hS.F ht⟩) hS.2.2 dL_order_20
  · refine g_VX (k := 4) F htw hB hS hP (0) (by decide) rfl rfl (c_P_order hst G ha hC d i d2 j) (by rw [hk1]; decide) k2_81 k2_82 k2_83 k1_1 k2_84 (by decide +kernel) rfl rfl ⟨Nat.le_of_ble_eq_true rfl, Nat.le_of_ble_eq_true rfl⟩ rfl hl.1 rfl (Nat.le_of_ble_eq_true rfl) dL_order_9 ⟨Nat.le_of_ble_eq_true rfl, Nat.le_of_ble_eq_true rfl⟩ (fun x H locs hO hP hS => ?_)
    obtain ⟨cell, o1, o2, o3⟩ := hO
    rw [hk1] at o3
    have o3 : s.vm.findClass "java/lang/IndexOutOfBoundsException" = some cell.cls := o3
    refine WT.catch (own := "PairedTextsLaw") hown o1 o2 (Vm.classAt_of_findClass o3) [(⟨0, 14, 17, 13⟩ : ExceptionTableEntry)] [] (⟨0, 14, 21, 25⟩ : ExceptionTableEntry) (by rw [htab]; rfl) (fun z hz => by obtain rfl := List.mem_singleton.mp hz; exact ⟨by decide, tx_rN F htw 1 0 (by decide) (by decide) (by decide) (by decide) k1_86 o3⟩) (by decide) (tx_rY F (by decide) k1_209 o3) ?_
    show W _ _ _ _ _ _ _ _ _ _ _ _ _ _ _ (F0 m 21 ls [Value.ref x])
    refine lv_astore hx hb dL_order_21 hl (by decide) rfl (fun ls hl => ?_)
    have hl : lv_has ls 7 [(6, .ref _), (0, .ref _), (1, .int _), (2, .int _), (3, .int _), (4, .int _), (5, .ref _)] := hl
    refine lv_iconst (v := 2) hx hb dL_order_23 (by decide) ?_
    exact W.iret hx hb hr (fun t ht hW => ⟨by rw [hk1]; rfl, ⟨_, ⟨_, _, _, _, rfl, by rw [hk1]; exact hC, fun h => absurd (hk1.symm.trans h) (by decide)⟩, by rw [ht]; exact hP⟩, hS.F ht⟩) hS.2.2 dL_order_24
set_option maxHeartbeats 4000000 in
set_option maxRecDepth 100000 in
theorem c_L_name (hst : l.stackTraces = false) (G : gGeo ad 25 base) (ha : a_ok a) (hC : RepC pi dr S a) (d : Int32) (f : Int32) (t : Int32) : Met l yL_name (Cond.codeWith yL_name bL_name 6 (some .int) [(0, 11, 14, 13), (0, 11, 18, 25)] :: tws) { frames := 9, cells := 1, slots := 6, locals := 150 } (gPc (tw D cI cZ cT cJ base) D cl ad 25 base (en ad cI cZ cT cJ pi dr S M o) [.ref (ad 0), .int d, .int f, .int t, .ref (ad 24)]) (gQc D cl ad 25 base (some (.int (nI (c_name a d f t)))) (fun e => ∃ (pi1 : Nat → Nat) (dr1 : Nat) (S1 : Nat → Nat → Int32) (o1 : Nat → Int64), e = en ad cI cZ cT cJ pi1 dr1 S1 M o1 ∧ RepC pi1 dr1 S1 (if c_name a d f t = 0 then a else a) ∧ (c_name a d f t = 0 → o1 0 = (lN (nms (a_b a (ix d)) (ix f) (ix t - ix f)))))) 1 6 (gA base) := by
  refine Met.ofWH (cc := bL_name) (maxL := 6) (ret := (some .int)) (hs := [(0, 11, 14, 13), (0, 11, 18, 25)]) (by decide) rfl ?_
  intro p e s m args below meth c s₁ B hml htab hv
  obtain ⟨rfl, htw, hB, hP⟩ := hv
  have hx := B.exec
  have hb := B.bytes
  have hr := B.returns
  have hts0 := atoms_spec (ws := Cond.codeWith yL_name bL_name 6 (some .int) [(0, 11, 14, 13), (0, 11, 18, 25)] :: tws) B.pre
  have hts : ∀ w ∈ tws, w.before _ s = true := fun w h => hts0 w (List.mem_cons_of_mem _ h)
  have hown : s.vm.findClass "PairedTextsLaw" = some m.cls := findClass_of_methodNamed B.named
  have F : CallFix p m c bL_name 6 s _ tws "PairedTextsLaw" := ⟨hx, hb, hml, hown, hts⟩
  have hK := htw.1
  have hS : va_S (gA base) s.heap s.heap [] := va_S.rf
  have hl := lv_entry ([.ref (ad 0), .int d, .int f, .int t, .ref (ad 24)]) (n := 6) (Nat.le_of_ble_eq_true rfl)
  rw [lg_entry_eq]
  generalize (lg_sl ([.ref (ad 0), .int d, .int f, .int t, .ref (ad 24)]) ++ List.replicate (6 - (lg_sl ([.ref (ad 0), .int d, .int f, .int t, .ref (ad 24)])).length) Slot.unset).toArray = ls at hl ⊢
  have hl : lv_has ls 6 [(0, .ref (ad 0)), (1, .int d), (2, .int f), (3, .int t), (4, .ref (ad 24))] := hl
  refine lv_aload hx hb dL_name_0 (lv_at hl 4 rfl) ?_
  refine lv_iconst (v := 0) hx hb dL_name_2 (by decide) ?_
  refine lv_aload_n hx hb dL_name_3 rfl (lv_at hl 0 rfl) ?_
  refine lv_iload_n hx hb dL_name_4 rfl (lv_at hl 1 rfl) ?_
  refine lv_iload_n hx hb dL_name_5 rfl (lv_at hl 2 rfl) ?_
  refine lv_iload_n hx hb dL_name_6 rfl (lv_at hl 3 rfl) ?_
  have hkk : c_name a d f t = 0 ∨ c_name a d f t = 1 ∨ c_name a d f t = 2 := by unfold c_name; (repeat' split) <;> simp
  rcases hkk with hk1 | hk1 | hk1
  · refine g_V (k := 3) F htw hB hS hP (0) (by decide) rfl rfl (gX_met (c_P_name hst G ha hC d f t) hk1) k2_88 k2_89 k2_90 k1_1 k2_91 (by decide +kernel) rfl rfl ⟨Nat.le_of_ble_eq_true rfl, Nat.le_of_ble_eq_true rfl⟩ rfl hl.1 rfl (Nat.le_of_ble_eq_true rfl) dL_name_7 ⟨Nat.le_of_ble_eq_true rfl, Nat.le_of_ble_eq_true rfl⟩ (fun en1 H locs he hP hS => ?_)
    obtain ⟨pi, dr, S, rfl, hC⟩ := he
    refine g_last F hK G hP hS (24) (by decide) 3 rfl rfl (vp_in_nI (n := 0) (N := 1) (by decide) (by decide)) dL_name_10 (fun H locs hP hS => ?_)
    have hP := P_of hP (en_o _ _ _ _ _ _ _ _ _ _ _)
    refine lv_goto (tgt := 22) hx hb dL_name_11 (by decide) ?_
    refine lv_iconst (v := 0) hx hb dL_name_22 (by decide) ?_
    exact W.iret hx hb hr (fun t ht hW => ⟨by rw [hk1]; rfl, ⟨_, ⟨_, _, _, _, rfl, by rw [hk1, if_pos rfl]; exact hC, fun _ => (pk_uLs : vp_updL o 0 _ 0 = _)⟩, by rw [ht]; exact hP⟩, hS.F ht⟩) hS.2.2 dL_name_23
  · refine g_VX (k := 3) F htw hB hS hP (0) (by decide) rfl rfl (c_P_name hst G ha hC d f t) (by rw [hk1]; decide) k2_88 k2_89 k2_90 k1_1 k2_91 (by decide +kernel) rfl rfl ⟨Nat.le_of_ble_eq_true rfl, Nat.le_of_ble_eq_true rfl⟩ rfl hl.1 rfl (Nat.le_of_ble_eq_true rfl) dL_name_7 ⟨Nat.le_of_ble_eq_true rfl, Nat.le_of_ble_eq_true rfl⟩ (fun x H locs hO hP hS => ?_)
    obtain ⟨cell, o1, o2, o3⟩ := hO
    rw [hk1] at o3
    have o3 : s.vm.findClass "java/lang/IllegalArgumentException" = some cell.cls := o3
    refine WT.catch (own := "PairedTextsLaw") hown o1 o2 (Vm.classAt_of_findClass o3) [] [(⟨0, 11, 18, 25⟩ : ExceptionTableEntry)] (⟨0, 11, 14, 13⟩ : ExceptionTableEntry) (by rw [htab]; rfl) (fun z hz => absurd hz (by simp)) (by decide) (tx_rY F (by decide) k1_86 o3) ?_
    show W _ _ _ _ _ _ _ _ _ _ _ _ _ _ _ (F0 m 14 ls [Value.ref x])
    refine lv_astore hx hb dL_name_14 hl (by decide) rfl (fun ls hl => ?_)
    have hl : lv_has ls 6 [(5, .ref _), (0, .ref _), (1, .int _), (2, .int _), (3, .int _), (4, .ref _)] := hl
    refine lv_iconst (v := 1) hx hb dL_name_16 (by decide) ?_
    exact W.iret hx hb hr (fun t ht hW => ⟨by rw [hk1]; rfl, ⟨_, ⟨_, _, _, _, rfl, by rw [hk1]; exact hC, fun h => absurd (hk1.symm.trans h) (by decide)⟩, by rw [ht]; exact hP⟩, hS.F ht⟩) hS.2.2 dL_name_17
  · refine g_VX (k := 3) F htw hB hS hP (0) (by decide) rfl rfl (c_P_name hst G ha hC d f t) (by rw [hk1]; decide) k2_88 k2_89 k2_90 k1_1 k2_91 (by decide +kernel) rfl rfl ⟨Nat.le_of_ble_eq_true rfl, Nat.le_of_ble_eq_true rfl⟩ rfl hl.1 rfl (Nat.le_of_ble_eq_true rfl) dL_name_7 ⟨Nat.le_of_ble_eq_true rfl, Nat.le_of_ble_eq_true rfl⟩ (fun x H locs hO hP hS => ?_)
    obtain ⟨cell, o1, o2, o3⟩ := hO
    rw [hk1] at o3
    have o3 : s.vm.findClass "java/lang/IndexOutOfBoundsException" = some cell.cls := o3
    refine WT.catch (own := "PairedTextsLaw") hown o1 o2 (Vm.classAt_of_findClass o3) [(⟨0, 11, 14, 13⟩ : ExceptionTableEntry)] [] (⟨0, 11, 18, 25⟩ : ExceptionTableEntry) (by rw [htab]; rfl) (fun z hz => by obtain rfl := List.mem_singleton.mp hz; exact ⟨by decide, tx_rN F htw 1 0 (by decide) (by decide) (by decide) (by decide) k1_86 o3⟩) (by decide) (tx_rY F (by decide) k1_209 o3) ?_
    show W _ _ _ _ _ _ _ _ _ _ _ _ _ _ _ (F0 m 18 ls [Value.ref x])
    refine lv_astore hx hb dL_name_18 hl (by decide) rfl (fun ls hl => ?_)
    have hl : lv_has ls 6 [(5, .ref _), (0, .ref _), (1, .int _), (2, .int _), (3, .int _), (4, .ref _)] := hl
    refine lv_iconst (v := 2) hx hb dL_name_20 (by decide) ?_
    exact W.iret hx hb hr (fun t ht hW => ⟨by rw [hk1]; rfl, ⟨_, ⟨_, _, _, _, rfl, by rw [hk1]; exact hC, fun h => absurd (hk1.symm.trans h) (by decide)⟩, by rw [ht]; exact hP⟩, hS.F ht⟩) hS.2.2 dL_name_21
set_option maxHeartbeats 4000000 in
set_option maxRecDepth 100000 in
theorem c_L_pattern (hst : l.stackTraces = false) (G : gGeo ad 25 base) (ha : a_ok a) (hC : RepC pi dr S a) (lo : Int64) (hi : Int64) (n : Int32) : Met l yL_pattern (Cond.codeWith yL_pattern bL_pattern 7 (some .int) [(0, 8, 11, 13)] :: tws) { frames := 8, cells := 1, slots := 6, locals := 127 } (gPc (tw D cI cZ cT cJ base) D cl ad 25 base (en ad cI cZ cT cJ pi dr S M o) [.ref (ad 0), .long lo, .long hi, .int n]) (gQc D cl ad 25 base (some (.int (nI (c_pattern n)))) (fun e => ∃ (pi1 : Nat → Nat) (dr1 : Nat) (S1 : Nat → Nat → Int32) (o1 : Nat → Int64), e = en ad cI cZ cT cJ pi1 dr1 S1 M o1 ∧ RepC pi1 dr1 S1 (if c_pattern n = 0 then x_pattern a lo hi n else a))) 1 6 (gA base) := by
  refine Met.ofWH (cc := bL_pattern) (maxL := 7) (ret := (some .int)) (hs := [(0, 8, 11, 13)]) (by decide) rfl ?_
  intro p e s m args below meth c s₁ B hml htab hv
  obtain ⟨rfl, htw, hB, hP⟩ := hv
  have hx := B.exec
  have hb := B.bytes
  have hr := B.returns
  have hts0 := atoms_spec (ws := Cond.codeWith yL_pattern bL_pattern 7 (some .int) [(0, 8, 11, 13)] :: tws) B.pre
  have hts : ∀ w ∈ tws, w.before _ s = true := fun w h => hts0 w (List.mem_cons_of_mem _ h)
  have hown : s.vm.findClass "PairedTextsLaw" = some m.cls := findClass_of_methodNamed B.named
  have F : CallFix p m c bL_pattern 7 s _ tws "PairedTextsLaw" := ⟨hx, hb, hml, hown, hts⟩
  have hK := htw.1
  have hS : va_S (gA base) s.heap s.heap [] := va_S.rf
  have hl := lv_entry ([.ref (ad 0), .long lo, .long hi, .int n]) (n := 7) (Nat.le_of_ble_eq_true rfl)
  rw [lg_entry_eq]
  generalize (lg_sl ([.ref (ad 0), .long lo, .long hi, .int n]) ++ List.replicate (7 - (lg_sl ([.ref (ad 0), .long lo, .long hi, .int n])).length) Slot.unset).toArray = ls at hl ⊢
  have hl : lv_has ls 7 [(0, .ref (ad 0)), (1, .long lo), (3, .long hi), (5, .int n)] := hl
  refine lv_aload_n hx hb dL_pattern_0 rfl (lv_at hl 0 rfl) ?_
  refine lv_lload_n hx hb dL_pattern_1 rfl (lv_at hl 1 rfl) ?_
  refine lv_lload_n hx hb dL_pattern_2 rfl (lv_at hl 2 rfl) ?_
  refine lv_iload hx hb dL_pattern_3 (lv_at hl 3 rfl) ?_
  have hkk : c_pattern n = 0 ∨ c_pattern n = 1 := by unfold c_pattern; (repeat' split) <;> simp
  rcases hkk with hk1 | hk1
  · refine g_V (k := 3) F htw hB hS hP (0) (by decide) rfl rfl (gX_met (c_P_pattern hst G ha hC lo hi n) hk1) k2_102 k2_103 k2_104 k1_1 k2_105 (by decide +kernel) rfl rfl ⟨Nat.le_of_ble_eq_true rfl, Nat.le_of_ble_eq_true rfl⟩ rfl hl.1 rfl (Nat.le_of_ble_eq_true rfl) dL_pattern_5 ⟨Nat.le_of_ble_eq_true rfl, Nat.le_of_ble_eq_true rfl⟩ (fun en1 H locs he hP hS => ?_)
    obtain ⟨pi, dr, S, rfl, hC⟩ := he
    refine lv_goto (tgt := 15) hx hb dL_pattern_8 (by decide) ?_
    refine lv_iconst (v := 0) hx hb dL_pattern_15 (by decide) ?_
    exact W.iret hx hb hr (fun t ht hW => ⟨by rw [hk1]; rfl, ⟨_, ⟨_, _, _, _, rfl, by rw [hk1, if_pos rfl]; exact hC⟩, by rw [ht]; exact hP⟩, hS.F ht⟩) hS.2.2 dL_pattern_16
  · refine g_VX (k := 3) F htw hB hS hP (0) (by decide) rfl rfl (c_P_pattern hst G ha hC lo hi n) (by rw [hk1]; decide) k2_102 k2_103 k2_104 k1_1 k2_105 (by decide +kernel) rfl rfl ⟨Nat.le_of_ble_eq_true rfl, Nat.le_of_ble_eq_true rfl⟩ rfl hl.1 rfl (Nat.le_of_ble_eq_true rfl) dL_pattern_5 ⟨Nat.le_of_ble_eq_true rfl, Nat.le_of_ble_eq_true rfl⟩ (fun x H locs hO hP hS => ?_)
    obtain ⟨cell, o1, o2, o3⟩ := hO
    rw [hk1] at o3
    have o3 : s.vm.findClass "java/lang/IllegalArgumentException" = some cell.cls := o3
    refine WT.catch (own := "PairedTextsLaw") hown o1 o2 (Vm.classAt_of_findClass o3) [] [] (⟨0, 8, 11, 13⟩ : ExceptionTableEntry) (by rw [htab]; rfl) (fun z hz => absurd hz (by simp)) (by decide) (tx_rY F (by decide) k1_86 o3) ?_
    show W _ _ _ _ _ _ _ _ _ _ _ _ _ _ _ (F0 m 11 ls [Value.ref x])
    refine lv_astore hx hb dL_pattern_11 hl (by decide) rfl (fun ls hl => ?_)
    have hl : lv_has ls 7 [(6, .ref _), (0, .ref _), (1, .long _), (3, .long _), (5, .int _)] := hl
    refine lv_iconst (v := 1) hx hb dL_pattern_13 (by decide) ?_
    exact W.iret hx hb hr (fun t ht hW => ⟨by rw [hk1]; rfl, ⟨_, ⟨_, _, _, _, rfl, by rw [hk1]; exact hC⟩, by rw [ht]; exact hP⟩, hS.F ht⟩) hS.2.2 dL_pattern_14
set_option maxHeartbeats 4000000 in
set_option maxRecDepth 100000 in
theorem c_L_count (hst : l.stackTraces = false) (G : gGeo ad 25 base) (ha : a_ok a) (hC : RepC pi dr S a) (d : Int32) (f : Int32) (t : Int32) : Met l yL_count (Cond.codeWith yL_count bL_count 6 (some .int) [(0, 12, 15, 13), (0, 12, 19, 25), (0, 12, 23, 69)] :: tws) { frames := 9, cells := 1, slots := 6, locals := 149 } (gPc (tw D cI cZ cT cJ base) D cl ad 25 base (en ad cI cZ cT cJ pi dr S M o) [.ref (ad 0), .int d, .int f, .int t, .ref (ad 24)]) (gQc D cl ad 25 base (some (.int (nI (c_count a d f t)))) (fun e => ∃ (pi1 : Nat → Nat) (dr1 : Nat) (S1 : Nat → Nat → Int32) (o1 : Nat → Int64), e = en ad cI cZ cT cJ pi1 dr1 S1 M o1 ∧ RepC pi1 dr1 S1 (if c_count a d f t = 0 then a else a) ∧ (c_count a d f t = 0 → o1 0 = (nI (cnt a (ix d) (ix f) (ix t) (ix t - ix f))).toInt64))) 1 6 (gA base) := by
  refine Met.ofWH (cc := bL_count) (maxL := 6) (ret := (some .int)) (hs := [(0, 12, 15, 13), (0, 12, 19, 25), (0, 12, 23, 69)]) (by decide) rfl ?_
  intro p e s m args below meth c s₁ B hml htab hv
  obtain ⟨rfl, htw, hB, hP⟩ := hv
  have hx := B.exec
  have hb := B.bytes
  have hr := B.returns
  have hts0 := atoms_spec (ws := Cond.codeWith yL_count bL_count 6 (some .int) [(0, 12, 15, 13), (0, 12, 19, 25), (0, 12, 23, 69)] :: tws) B.pre
  have hts : ∀ w ∈ tws, w.before _ s = true := fun w h => hts0 w (List.mem_cons_of_mem _ h)
  have hown : s.vm.findClass "PairedTextsLaw" = some m.cls := findClass_of_methodNamed B.named
  have F : CallFix p m c bL_count 6 s _ tws "PairedTextsLaw" := ⟨hx, hb, hml, hown, hts⟩
  have hK := htw.1
  have hS : va_S (gA base) s.heap s.heap [] := va_S.rf
  have hl := lv_entry ([.ref (ad 0), .int d, .int f, .int t, .ref (ad 24)]) (n := 6) (Nat.le_of_ble_eq_true rfl)
  rw [lg_entry_eq]
  generalize (lg_sl ([.ref (ad 0), .int d, .int f, .int t, .ref (ad 24)]) ++ List.replicate (6 - (lg_sl ([.ref (ad 0), .int d, .int f, .int t, .ref (ad 24)])).length) Slot.unset).toArray = ls at hl ⊢
  have hl : lv_has ls 6 [(0, .ref (ad 0)), (1, .int d), (2, .int f), (3, .int t), (4, .ref (ad 24))] := hl
  refine lv_aload hx hb dL_count_0 (lv_at hl 4 rfl) ?_
  refine lv_iconst (v := 0) hx hb dL_count_2 (by decide) ?_
  refine lv_aload_n hx hb dL_count_3 rfl (lv_at hl 0 rfl) ?_
  refine lv_iload_n hx hb dL_count_4 rfl (lv_at hl 1 rfl) ?_
  refine lv_iload_n hx hb dL_count_5 rfl (lv_at hl 2 rfl) ?_
  refine lv_iload_n hx hb dL_count_6 rfl (lv_at hl 3 rfl) ?_
  have hkk : c_count a d f t = 0 ∨ c_count a d f t = 1 ∨ c_count a d f t = 2 ∨ c_count a d f t = 3 := by unfold c_count; (repeat' split) <;> simp
  rcases hkk with hk1 | hk1 | hk1 | hk1
  · refine g_V (k := 3) F htw hB hS hP (0) (by decide) rfl rfl (gX_met (c_P_count hst G ha hC d f t) hk1) k2_115 k2_116 k2_117 k1_1 k2_118 (by decide +kernel) rfl rfl ⟨Nat.le_of_ble_eq_true rfl, Nat.le_of_ble_eq_true rfl⟩ rfl hl.1 rfl (Nat.le_of_ble_eq_true rfl) dL_count_7 ⟨Nat.le_of_ble_eq_true rfl, Nat.le_of_ble_eq_true rfl⟩ (fun en1 H locs he hP hS => ?_)
    obtain ⟨pi, dr, S, rfl, hC⟩ := he
    refine lv_i2l hx hb dL_count_10 rfl ?_
    refine g_last F hK G hP hS (24) (by decide) 3 rfl rfl (vp_in_nI (n := 0) (N := 1) (by decide) (by decide)) dL_count_11 (fun H locs hP hS => ?_)
    have hP := P_of hP (en_o _ _ _ _ _ _ _ _ _ _ _)
    refine lv_goto (tgt := 27) hx hb dL_count_12 (by decide) ?_
    refine lv_iconst (v := 0) hx hb dL_count_27 (by decide) ?_
    exact W.iret hx hb hr (fun t ht hW => ⟨by rw [hk1]; rfl, ⟨_, ⟨_, _, _, _, rfl, by rw [hk1, if_pos rfl]; exact hC, fun _ => (pk_uLs : vp_updL o 0 _ 0 = _)⟩, by rw [ht]; exact hP⟩, hS.F ht⟩) hS.2.2 dL_count_28
  · refine g_VX (k := 3) F htw hB hS hP (0) (by decide) rfl rfl (c_P_count hst G ha hC d f t) (by rw [hk1]; decide) k2_115 k2_116 k2_117 k1_1 k2_118 (by decide +kernel) rfl rfl ⟨Nat.le_of_ble_eq_true rfl, Nat.le_of_ble_eq_true rfl⟩ rfl hl.1 rfl (Nat.le_of_ble_eq_true rfl) dL_count_7 ⟨Nat.le_of_ble_eq_true rfl, Nat.le_of_ble_eq_true rfl⟩ (fun x H locs hO hP hS => ?_)
    obtain ⟨cell, o1, o2, o3⟩ := hO
    rw [hk1] at o3
    have o3 : s.vm.findClass "java/lang/IllegalArgumentException" = some cell.cls := o3
    refine WT.catch (own := "PairedTextsLaw") hown o1 o2 (Vm.classAt_of_findClass o3) [] [(⟨0, 12, 19, 25⟩ : ExceptionTableEntry), (⟨0, 12, 23, 69⟩ : ExceptionTableEntry)] (⟨0, 12, 15, 13⟩ : ExceptionTableEntry) (by rw [htab]; rfl) (fun z hz => absurd hz (by simp)) (by decide) (tx_rY F (by decide) k1_86 o3) ?_
    show W _ _ _ _ _ _ _ _ _ _ _ _ _ _ _ (F0 m 15 ls [Value.ref x])
    refine lv_astore hx hb dL_count_15 hl (by decide) rfl (fun ls hl => ?_)
    have hl : lv_has ls 6 [(5, .ref _), (0, .ref _), (1, .int _), (2, .int _), (3, .int _), (4, .ref _)] := hl
    refine lv_iconst (v := 1) hx hb dL_count_17 (by decide) ?_
    exact W.iret hx hb hr (fun t ht hW => ⟨by rw [hk1]; rfl, ⟨_, ⟨_, _, _, _, rfl, by rw [hk1]; exact hC, fun h => absurd (hk1.symm.trans h) (by decide)⟩, by rw [ht]; exact hP⟩, hS.F ht⟩) hS.2.2 dL_count_18
  · refine g_VX (k := 3) F htw hB hS hP (0) (by decide) rfl rfl (c_P_count hst G ha hC d f t) (by rw [hk1]; decide) k2_115 k2_116 k2_117 k1_1 k2_118 (by decide +kernel) rfl rfl ⟨Nat.le_of_ble_eq_true rfl, Nat.le_of_ble_eq_true rfl⟩ rfl hl.1 rfl (Nat.le_of_ble_eq_true rfl) dL_count_7 ⟨Nat.le_of_ble_eq_true rfl, Nat.le_of_ble_eq_true rfl⟩ (fun x H locs hO hP hS => ?_)
    obtain ⟨cell, o1, o2, o3⟩ := hO
    rw [hk1] at o3
    have o3 : s.vm.findClass "java/lang/IndexOutOfBoundsException" = some cell.cls := o3
    refine WT.catch (own := "PairedTextsLaw") hown o1 o2 (Vm.classAt_of_findClass o3) [(⟨0, 12, 15, 13⟩ : ExceptionTableEntry)] [(⟨0, 12, 23, 69⟩ : ExceptionTableEntry)] (⟨0, 12, 19, 25⟩ : ExceptionTableEntry) (by rw [htab]; rfl) (fun z hz => by obtain rfl := List.mem_singleton.mp hz; exact ⟨by decide, tx_rN F htw 1 0 (by decide) (by decide) (by decide) (by decide) k1_86 o3⟩) (by decide) (tx_rY F (by decide) k1_209 o3) ?_
    show W _ _ _ _ _ _ _ _ _ _ _ _ _ _ _ (F0 m 19 ls [Value.ref x])
    refine lv_astore hx hb dL_count_19 hl (by decide) rfl (fun ls hl => ?_)
    have hl : lv_has ls 6 [(5, .ref _), (0, .ref _), (1, .int _), (2, .int _), (3, .int _), (4, .ref _)] := hl
    refine lv_iconst (v := 2) hx hb dL_count_21 (by decide) ?_
    exact W.iret hx hb hr (fun t ht hW => ⟨by rw [hk1]; rfl, ⟨_, ⟨_, _, _, _, rfl, by rw [hk1]; exact hC, fun h => absurd (hk1.symm.trans h) (by decide)⟩, by rw [ht]; exact hP⟩, hS.F ht⟩) hS.2.2 dL_count_22
  · refine g_VX (k := 3) F htw hB hS hP (0) (by decide) rfl rfl (c_P_count hst G ha hC d f t) (by rw [hk1]; decide) k2_115 k2_116 k2_117 k1_1 k2_118 (by decide +kernel) rfl rfl ⟨Nat.le_of_ble_eq_true rfl, Nat.le_of_ble_eq_true rfl⟩ rfl hl.1 rfl (Nat.le_of_ble_eq_true rfl) dL_count_7 ⟨Nat.le_of_ble_eq_true rfl, Nat.le_of_ble_eq_true rfl⟩ (fun x H locs hO hP hS => ?_)
    obtain ⟨cell, o1, o2, o3⟩ := hO
    rw [hk1] at o3
    have o3 : s.vm.findClass "java/lang/IllegalStateException" = some cell.cls := o3
    refine WT.catch (own := "PairedTextsLaw") hown o1 o2 (Vm.classAt_of_findClass o3) [(⟨0, 12, 15, 13⟩ : ExceptionTableEntry), (⟨0, 12, 19, 25⟩ : ExceptionTableEntry)] [] (⟨0, 12, 23, 69⟩ : ExceptionTableEntry) (by rw [htab]; rfl) (fun z hz => by rcases List.mem_cons.mp hz with rfl | hz2; (exact ⟨by decide, tx_rN F htw 3 0 (by decide) (by decide) (by decide) (by decide) k1_86 o3⟩); (obtain rfl := List.mem_singleton.mp hz2; exact ⟨by decide, tx_rN F htw 3 1 (by decide) (by decide) (by decide) (by decide) k1_209 o3⟩)) (by decide) (tx_rY F (by decide) k2_114 o3) ?_
    show W _ _ _ _ _ _ _ _ _ _ _ _ _ _ _ (F0 m 23 ls [Value.ref x])
    refine lv_astore hx hb dL_count_23 hl (by decide) rfl (fun ls hl => ?_)
    have hl : lv_has ls 6 [(5, .ref _), (0, .ref _), (1, .int _), (2, .int _), (3, .int _), (4, .ref _)] := hl
    refine lv_iconst (v := 3) hx hb dL_count_25 (by decide) ?_
    exact W.iret hx hb hr (fun t ht hW => ⟨by rw [hk1]; rfl, ⟨_, ⟨_, _, _, _, rfl, by rw [hk1]; exact hC, fun h => absurd (hk1.symm.trans h) (by decide)⟩, by rw [ht]; exact hP⟩, hS.F ht⟩) hS.2.2 dL_count_26
set_option maxHeartbeats 4000000 in
set_option maxRecDepth 100000 in
theorem c_L_find (hst : l.stackTraces = false) (G : gGeo ad 25 base) (ha : a_ok a) (hC : RepC pi dr S a) (d : Int32) (i : Int32) (n : Int32) : Met l yL_find (Cond.codeWith yL_find bL_find 6 (some .int) [(0, 12, 15, 13), (0, 12, 19, 25), (0, 12, 23, 69)] :: tws) { frames := 9, cells := 1, slots := 6, locals := 149 } (gPc (tw D cI cZ cT cJ base) D cl ad 25 base (en ad cI cZ cT cJ pi dr S M o) [.ref (ad 0), .int d, .int i, .int n, .ref (ad 24)]) (gQc D cl ad 25 base (some (.int (nI (c_find a d i n)))) (fun e => ∃ (pi1 : Nat → Nat) (dr1 : Nat) (S1 : Nat → Nat → Int32) (o1 : Nat → Int64), e = en ad cI cZ cT cJ pi1 dr1 S1 M o1 ∧ RepC pi1 dr1 S1 (if c_find a d i n = 0 then a else a) ∧ (c_find a d i n = 0 → o1 0 = (fnd a (ix d) (a_n a (ix d)) (a_n a (ix d) - ix i) (ix i) (ix n)).toInt64))) 1 6 (gA base) := by
  refine Met.ofWH (cc := bL_find) (maxL := 6) (ret := (some .int)) (hs := [(0, 12, 15, 13), (0, 12, 19, 25), (0, 12, 23, 69)]) (by decide) rfl ?_
  intro p e s m args below meth c s₁ B hml htab hv
  obtain ⟨rfl, htw, hB, hP⟩ := hv
  have hx := B.exec
  have hb := B.bytes
  have hr := B.returns
  have hts0 := atoms_spec (ws := Cond.codeWith yL_find bL_find 6 (some .int) [(0, 12, 15, 13), (0, 12, 19, 25), (0, 12, 23, 69)] :: tws) B.pre
  have hts : ∀ w ∈ tws, w.before _ s = true := fun w h => hts0 w (List.mem_cons_of_mem _ h)
  have hown : s.vm.findClass "PairedTextsLaw" = some m.cls := findClass_of_methodNamed B.named
  have F : CallFix p m c bL_find 6 s _ tws "PairedTextsLaw" := ⟨hx, hb, hml, hown, hts⟩
  have hK := htw.1
  have hS : va_S (gA base) s.heap s.heap [] := va_S.rf
  have hl := lv_entry ([.ref (ad 0), .int d, .int i, .int n, .ref (ad 24)]) (n := 6) (Nat.le_of_ble_eq_true rfl)
  rw [lg_entry_eq]
  generalize (lg_sl ([.ref (ad 0), .int d, .int i, .int n, .ref (ad 24)]) ++ List.replicate (6 - (lg_sl ([.ref (ad 0), .int d, .int i, .int n, .ref (ad 24)])).length) Slot.unset).toArray = ls at hl ⊢
  have hl : lv_has ls 6 [(0, .ref (ad 0)), (1, .int d), (2, .int i), (3, .int n), (4, .ref (ad 24))] := hl
  refine lv_aload hx hb dL_find_0 (lv_at hl 4 rfl) ?_
  refine lv_iconst (v := 0) hx hb dL_find_2 (by decide) ?_
  refine lv_aload_n hx hb dL_find_3 rfl (lv_at hl 0 rfl) ?_
  refine lv_iload_n hx hb dL_find_4 rfl (lv_at hl 1 rfl) ?_
  refine lv_iload_n hx hb dL_find_5 rfl (lv_at hl 2 rfl) ?_
  refine lv_iload_n hx hb dL_find_6 rfl (lv_at hl 3 rfl) ?_
  have hkk : c_find a d i n = 0 ∨ c_find a d i n = 1 ∨ c_find a d i n = 2 ∨ c_find a d i n = 3 := by unfold c_find; (repeat' split) <;> simp
  rcases hkk with hk1 | hk1 | hk1 | hk1
  · refine g_V (k := 3) F htw hB hS hP (0) (by decide) rfl rfl (gX_met (c_P_find hst G ha hC d i n) hk1) k2_146 k2_147 k2_148 k1_1 k2_149 (by decide +kernel) rfl rfl ⟨Nat.le_of_ble_eq_true rfl, Nat.le_of_ble_eq_true rfl⟩ rfl hl.1 rfl (Nat.le_of_ble_eq_true rfl) dL_find_7 ⟨Nat.le_of_ble_eq_true rfl, Nat.le_of_ble_eq_true rfl⟩ (fun en1 H locs he hP hS => ?_)
    obtain ⟨pi, dr, S, rfl, hC⟩ := he
    refine lv_i2l hx hb dL_find_10 rfl ?_
    refine g_last F hK G hP hS (24) (by decide) 3 rfl rfl (vp_in_nI (n := 0) (N := 1) (by decide) (by decide)) dL_find_11 (fun H locs hP hS => ?_)
    have hP := P_of hP (en_o _ _ _ _ _ _ _ _ _ _ _)
    refine lv_goto (tgt := 27) hx hb dL_find_12 (by decide) ?_
    refine lv_iconst (v := 0) hx hb dL_find_27 (by decide) ?_
    exact W.iret hx hb hr (fun t ht hW => ⟨by rw [hk1]; rfl, ⟨_, ⟨_, _, _, _, rfl, by rw [hk1, if_pos rfl]; exact hC, fun _ => (pk_uLs : vp_updL o 0 _ 0 = _)⟩, by rw [ht]; exact hP⟩, hS.F ht⟩) hS.2.2 dL_find_28
  · refine g_VX (k := 3) F htw hB hS hP (0) (by decide) rfl rfl (c_P_find hst G ha hC d i n) (by rw [hk1]; decide) k2_146 k2_147 k2_148 k1_1 k2_149 (by decide +kernel) rfl rfl ⟨Nat.le_of_ble_eq_true rfl, Nat.le_of_ble_eq_true rfl⟩ rfl hl.1 rfl (Nat.le_of_ble_eq_true rfl) dL_find_7 ⟨Nat.le_of_ble_eq_true rfl, Nat.le_of_ble_eq_true rfl⟩ (fun x H locs hO hP hS => ?_)
    obtain ⟨cell, o1, o2, o3⟩ := hO
    rw [hk1] at o3
    have o3 : s.vm.findClass "java/lang/IllegalArgumentException" = some cell.cls := o3
    refine WT.catch (own := "PairedTextsLaw") hown o1 o2 (Vm.classAt_of_findClass o3) [] [(⟨0, 12, 19, 25⟩ : ExceptionTableEntry), (⟨0, 12, 23, 69⟩ : ExceptionTableEntry)] (⟨0, 12, 15, 13⟩ : ExceptionTableEntry) (by rw [htab]; rfl) (fun z hz => absurd hz (by simp)) (by decide) (tx_rY F (by decide) k1_86 o3) ?_
    show W _ _ _ _ _ _ _ _ _ _ _ _ _ _ _ (F0 m 15 ls [Value.ref x])
    refine lv_astore hx hb dL_find_15 hl (by decide) rfl (fun ls hl => ?_)
    have hl : lv_has ls 6 [(5, .ref _), (0, .ref _), (1, .int _), (2, .int _), (3, .int _), (4, .ref _)] := hl
    refine lv_iconst (v := 1) hx hb dL_find_17 (by decide) ?_
    exact W.iret hx hb hr (fun t ht hW => ⟨by rw [hk1]; rfl, ⟨_, ⟨_, _, _, _, rfl, by rw [hk1]; exact hC, fun h => absurd (hk1.symm.trans h) (by decide)⟩, by rw [ht]; exact hP⟩, hS.F ht⟩) hS.2.2 dL_find_18
  · refine g_VX (k := 3) F htw hB hS hP (0) (by decide) rfl rfl (c_P_find hst G ha hC d i n) (by rw [hk1]; decide) k2_146 k2_147 k2_148 k1_1 k2_149 (by decide +kernel) rfl rfl ⟨Nat.le_of_ble_eq_true rfl, Nat.le_of_ble_eq_true rfl⟩ rfl hl.1 rfl (Nat.le_of_ble_eq_true rfl) dL_find_7 ⟨Nat.le_of_ble_eq_true rfl, Nat.le_of_ble_eq_true rfl⟩ (fun x H locs hO hP hS => ?_)
    obtain ⟨cell, o1, o2, o3⟩ := hO
    rw [hk1] at o3
    have o3 : s.vm.findClass "java/lang/IndexOutOfBoundsException" = some cell.cls := o3
    refine WT.catch (own := "PairedTextsLaw") hown o1 o2 (Vm.classAt_of_findClass o3) [(⟨0, 12, 15, 13⟩ : ExceptionTableEntry)] [(⟨0, 12, 23, 69⟩ : ExceptionTableEntry)] (⟨0, 12, 19, 25⟩ : ExceptionTableEntry) (by rw [htab]; rfl) (fun z hz => by obtain rfl := List.mem_singleton.mp hz; exact ⟨by decide, tx_rN F htw 1 0 (by decide) (by decide) (by decide) (by decide) k1_86 o3⟩) (by decide) (tx_rY F (by decide) k1_209 o3) ?_
    show W _ _ _ _ _ _ _ _ _ _ _ _ _ _ _ (F0 m 19 ls [Value.ref x])
    refine lv_astore hx hb dL_find_19 hl (by decide) rfl (fun ls hl => ?_)
    have hl : lv_has ls 6 [(5, .ref _), (0, .ref _), (1, .int _), (2, .int _), (3, .int _), (4, .ref _)] := hl
    refine lv_iconst (v := 2) hx hb dL_find_21 (by decide) ?_
    exact W.iret hx hb hr (fun t ht hW => ⟨by rw [hk1]; rfl, ⟨_, ⟨_, _, _, _, rfl, by rw [hk1]; exact hC, fun h => absurd (hk1.symm.trans h) (by decide)⟩, by rw [ht]; exact hP⟩, hS.F ht⟩) hS.2.2 dL_find_22
  · refine g_VX (k := 3) F htw hB hS hP (0) (by decide) rfl rfl (c_P_find hst G ha hC d i n) (by rw [hk1]; decide) k2_146 k2_147 k2_148 k1_1 k2_149 (by decide +kernel) rfl rfl ⟨Nat.le_of_ble_eq_true rfl, Nat.le_of_ble_eq_true rfl⟩ rfl hl.1 rfl (Nat.le_of_ble_eq_true rfl) dL_find_7 ⟨Nat.le_of_ble_eq_true rfl, Nat.le_of_ble_eq_true rfl⟩ (fun x H locs hO hP hS => ?_)
    obtain ⟨cell, o1, o2, o3⟩ := hO
    rw [hk1] at o3
    have o3 : s.vm.findClass "java/lang/IllegalStateException" = some cell.cls := o3
    refine WT.catch (own := "PairedTextsLaw") hown o1 o2 (Vm.classAt_of_findClass o3) [(⟨0, 12, 15, 13⟩ : ExceptionTableEntry), (⟨0, 12, 19, 25⟩ : ExceptionTableEntry)] [] (⟨0, 12, 23, 69⟩ : ExceptionTableEntry) (by rw [htab]; rfl) (fun z hz => by rcases List.mem_cons.mp hz with rfl | hz2; (exact ⟨by decide, tx_rN F htw 3 0 (by decide) (by decide) (by decide) (by decide) k1_86 o3⟩); (obtain rfl := List.mem_singleton.mp hz2; exact ⟨by decide, tx_rN F htw 3 1 (by decide) (by decide) (by decide) (by decide) k1_209 o3⟩)) (by decide) (tx_rY F (by decide) k2_114 o3) ?_
    show W _ _ _ _ _ _ _ _ _ _ _ _ _ _ _ (F0 m 23 ls [Value.ref x])
    refine lv_astore hx hb dL_find_23 hl (by decide) rfl (fun ls hl => ?_)
    have hl : lv_has ls 6 [(5, .ref _), (0, .ref _), (1, .int _), (2, .int _), (3, .int _), (4, .ref _)] := hl
    refine lv_iconst (v := 3) hx hb dL_find_25 (by decide) ?_
    exact W.iret hx hb hr (fun t ht hW => ⟨by rw [hk1]; rfl, ⟨_, ⟨_, _, _, _, rfl, by rw [hk1]; exact hC, fun h => absurd (hk1.symm.trans h) (by decide)⟩, by rw [ht]; exact hP⟩, hS.F ht⟩) hS.2.2 dL_find_26
set_option maxHeartbeats 4000000 in
set_option maxRecDepth 100000 in
theorem c_L_lead (hst : l.stackTraces = false) (G : gGeo ad 25 base) (ha : a_ok a) (hC : RepC pi dr S a) (s0 : Int32) (lo : Int32) (hi : Int32) (t0 : Int32) : Met l yL_lead (Cond.codeWith yL_lead bL_lead 6 (some .int) [(0, 9, 12, 13)] :: tws) { frames := 8, cells := 1, slots := 6, locals := 127 } (gPc (tw D cI cZ cT cJ base) D cl ad 25 base (en ad cI cZ cT cJ pi dr S M o) [.ref (ad 0), .int s0, .int lo, .int hi, .int t0]) (gQc D cl ad 25 base (some (.int (nI (c_lead s0 lo hi t0)))) (fun e => ∃ (pi1 : Nat → Nat) (dr1 : Nat) (S1 : Nat → Nat → Int32) (o1 : Nat → Int64), e = en ad cI cZ cT cJ pi1 dr1 S1 M o1 ∧ RepC pi1 dr1 S1 (if c_lead s0 lo hi t0 = 0 then x_lead a s0 lo hi t0 else a))) 1 6 (gA base) := by
  refine Met.ofWH (cc := bL_lead) (maxL := 6) (ret := (some .int)) (hs := [(0, 9, 12, 13)]) (by decide) rfl ?_
  intro p e s m args below meth c s₁ B hml htab hv
  obtain ⟨rfl, htw, hB, hP⟩ := hv
  have hx := B.exec
  have hb := B.bytes
  have hr := B.returns
  have hts0 := atoms_spec (ws := Cond.codeWith yL_lead bL_lead 6 (some .int) [(0, 9, 12, 13)] :: tws) B.pre
  have hts : ∀ w ∈ tws, w.before _ s = true := fun w h => hts0 w (List.mem_cons_of_mem _ h)
  have hown : s.vm.findClass "PairedTextsLaw" = some m.cls := findClass_of_methodNamed B.named
  have F : CallFix p m c bL_lead 6 s _ tws "PairedTextsLaw" := ⟨hx, hb, hml, hown, hts⟩
  have hK := htw.1
  have hS : va_S (gA base) s.heap s.heap [] := va_S.rf
  have hl := lv_entry ([.ref (ad 0), .int s0, .int lo, .int hi, .int t0]) (n := 6) (Nat.le_of_ble_eq_true rfl)
  rw [lg_entry_eq]
  generalize (lg_sl ([.ref (ad 0), .int s0, .int lo, .int hi, .int t0]) ++ List.replicate (6 - (lg_sl ([.ref (ad 0), .int s0, .int lo, .int hi, .int t0])).length) Slot.unset).toArray = ls at hl ⊢
  have hl : lv_has ls 6 [(0, .ref (ad 0)), (1, .int s0), (2, .int lo), (3, .int hi), (4, .int t0)] := hl
  refine lv_aload_n hx hb dL_lead_0 rfl (lv_at hl 0 rfl) ?_
  refine lv_iload_n hx hb dL_lead_1 rfl (lv_at hl 1 rfl) ?_
  refine lv_iload_n hx hb dL_lead_2 rfl (lv_at hl 2 rfl) ?_
  refine lv_iload_n hx hb dL_lead_3 rfl (lv_at hl 3 rfl) ?_
  refine lv_iload hx hb dL_lead_4 (lv_at hl 4 rfl) ?_
  have hkk : c_lead s0 lo hi t0 = 0 ∨ c_lead s0 lo hi t0 = 1 := by unfold c_lead; (repeat' split) <;> simp
  rcases hkk with hk1 | hk1
  · refine g_V (k := 4) F htw hB hS hP (0) (by decide) rfl rfl (gX_met (c_P_lead hst G ha hC s0 lo hi t0) hk1) k2_153 k2_154 k2_155 k1_1 k2_156 (by decide +kernel) rfl rfl ⟨Nat.le_of_ble_eq_true rfl, Nat.le_of_ble_eq_true rfl⟩ rfl hl.1 rfl (Nat.le_of_ble_eq_true rfl) dL_lead_6 ⟨Nat.le_of_ble_eq_true rfl, Nat.le_of_ble_eq_true rfl⟩ (fun en1 H locs he hP hS => ?_)
    obtain ⟨pi, dr, S, rfl, hC⟩ := he
    refine lv_goto (tgt := 16) hx hb dL_lead_9 (by decide) ?_
    refine lv_iconst (v := 0) hx hb dL_lead_16 (by decide) ?_
    exact W.iret hx hb hr (fun t ht hW => ⟨by rw [hk1]; rfl, ⟨_, ⟨_, _, _, _, rfl, by rw [hk1, if_pos rfl]; exact hC⟩, by rw [ht]; exact hP⟩, hS.F ht⟩) hS.2.2 dL_lead_17
  · refine g_VX (k := 4) F htw hB hS hP (0) (by decide) rfl rfl (c_P_lead hst G ha hC s0 lo hi t0) (by rw [hk1]; decide) k2_153 k2_154 k2_155 k1_1 k2_156 (by decide +kernel) rfl rfl ⟨Nat.le_of_ble_eq_true rfl, Nat.le_of_ble_eq_true rfl⟩ rfl hl.1 rfl (Nat.le_of_ble_eq_true rfl) dL_lead_6 ⟨Nat.le_of_ble_eq_true rfl, Nat.le_of_ble_eq_true rfl⟩ (fun x H locs hO hP hS => ?_)
    obtain ⟨cell, o1, o2, o3⟩ := hO
    rw [hk1] at o3
    have o3 : s.vm.findClass "java/lang/IllegalArgumentException" = some cell.cls := o3
    refine WT.catch (own := "PairedTextsLaw") hown o1 o2 (Vm.classAt_of_findClass o3) [] [] (⟨0, 9, 12, 13⟩ : ExceptionTableEntry) (by rw [htab]; rfl) (fun z hz => absurd hz (by simp)) (by decide) (tx_rY F (by decide) k1_86 o3) ?_
    show W _ _ _ _ _ _ _ _ _ _ _ _ _ _ _ (F0 m 12 ls [Value.ref x])
    refine lv_astore hx hb dL_lead_12 hl (by decide) rfl (fun ls hl => ?_)
    have hl : lv_has ls 6 [(5, .ref _), (0, .ref _), (1, .int _), (2, .int _), (3, .int _), (4, .int _)] := hl
    refine lv_iconst (v := 1) hx hb dL_lead_14 (by decide) ?_
    exact W.iret hx hb hr (fun t ht hW => ⟨by rw [hk1]; rfl, ⟨_, ⟨_, _, _, _, rfl, by rw [hk1]; exact hC⟩, by rw [ht]; exact hP⟩, hS.F ht⟩) hS.2.2 dL_lead_15
set_option maxHeartbeats 4000000 in
set_option maxRecDepth 100000 in
theorem c_L_accept (hst : l.stackTraces = false) (G : gGeo ad 25 base) (ha : a_ok a) (hC : RepC pi dr S a) (s0 : Int32) {b : Nat} (hb2 : b < 2) : Met l yL_accept (Cond.codeWith yL_accept bL_accept 4 (some .int) [(0, 6, 9, 13)] :: tws) { frames := 8, cells := 1, slots := 6, locals := 124 } (gPc (tw D cI cZ cT cJ base) D cl ad 25 base (en ad cI cZ cT cJ pi dr S M o) [.ref (ad 0), .int s0, .int (nI b)]) (gQc D cl ad 25 base (some (.int (nI (c_accept s0)))) (fun e => ∃ (pi1 : Nat → Nat) (dr1 : Nat) (S1 : Nat → Nat → Int32) (o1 : Nat → Int64), e = en ad cI cZ cT cJ pi1 dr1 S1 M o1 ∧ RepC pi1 dr1 S1 (if c_accept s0 = 0 then x_accept a s0 b else a))) 1 6 (gA base) := by
  refine Met.ofWH (cc := bL_accept) (maxL := 4) (ret := (some .int)) (hs := [(0, 6, 9, 13)]) (by decide) rfl ?_
  intro p e s m args below meth c s₁ B hml htab hv
  obtain ⟨rfl, htw, hB, hP⟩ := hv
  have hx := B.exec
  have hb := B.bytes
  have hr := B.returns
  have hts0 := atoms_spec (ws := Cond.codeWith yL_accept bL_accept 4 (some .int) [(0, 6, 9, 13)] :: tws) B.pre
  have hts : ∀ w ∈ tws, w.before _ s = true := fun w h => hts0 w (List.mem_cons_of_mem _ h)
  have hown : s.vm.findClass "PairedTextsLaw" = some m.cls := findClass_of_methodNamed B.named
  have F : CallFix p m c bL_accept 4 s _ tws "PairedTextsLaw" := ⟨hx, hb, hml, hown, hts⟩
  have hK := htw.1
  have hS : va_S (gA base) s.heap s.heap [] := va_S.rf
  have hl := lv_entry ([.ref (ad 0), .int s0, .int (nI b)]) (n := 4) (Nat.le_of_ble_eq_true rfl)
  rw [lg_entry_eq]
  generalize (lg_sl ([.ref (ad 0), .int s0, .int (nI b)]) ++ List.replicate (4 - (lg_sl ([.ref (ad 0), .int s0, .int (nI b)])).length) Slot.unset).toArray = ls at hl ⊢
  have hl : lv_has ls 4 [(0, .ref (ad 0)), (1, .int s0), (2, .int (nI b))] := hl
  refine lv_aload_n hx hb dL_accept_0 rfl (lv_at hl 0 rfl) ?_
  refine lv_iload_n hx hb dL_accept_1 rfl (lv_at hl 1 rfl) ?_
  refine lv_iload_n hx hb dL_accept_2 rfl (lv_at hl 2 rfl) ?_
  have hkk : c_accept s0 = 0 ∨ c_accept s0 = 1 := by unfold c_accept; (repeat' split) <;> simp
  rcases hkk with hk1 | hk1
  · refine g_V (k := 2) F htw hB hS hP (0) (by decide) rfl rfl (gX_met (c_P_accept hst G ha hC s0 hb2) hk1) k2_168 k2_169 k2_170 k1_1 k2_171 (by decide +kernel) rfl rfl ⟨Nat.le_of_ble_eq_true rfl, Nat.le_of_ble_eq_true rfl⟩ rfl hl.1 rfl (Nat.le_of_ble_eq_true rfl) dL_accept_3 ⟨Nat.le_of_ble_eq_true rfl, Nat.le_of_ble_eq_true rfl⟩ (fun en1 H locs he hP hS => ?_)
    obtain ⟨pi, dr, S, rfl, hC⟩ := he
    refine lv_goto (tgt := 12) hx hb dL_accept_6 (by decide) ?_
    refine lv_iconst (v := 0) hx hb dL_accept_12 (by decide) ?_
    exact W.iret hx hb hr (fun t ht hW => ⟨by rw [hk1]; rfl, ⟨_, ⟨_, _, _, _, rfl, by rw [hk1, if_pos rfl]; exact hC⟩, by rw [ht]; exact hP⟩, hS.F ht⟩) hS.2.2 dL_accept_13
  · refine g_VX (k := 2) F htw hB hS hP (0) (by decide) rfl rfl (c_P_accept hst G ha hC s0 hb2) (by rw [hk1]; decide) k2_168 k2_169 k2_170 k1_1 k2_171 (by decide +kernel) rfl rfl ⟨Nat.le_of_ble_eq_true rfl, Nat.le_of_ble_eq_true rfl⟩ rfl hl.1 rfl (Nat.le_of_ble_eq_true rfl) dL_accept_3 ⟨Nat.le_of_ble_eq_true rfl, Nat.le_of_ble_eq_true rfl⟩ (fun x H locs hO hP hS => ?_)
    obtain ⟨cell, o1, o2, o3⟩ := hO
    rw [hk1] at o3
    have o3 : s.vm.findClass "java/lang/IllegalArgumentException" = some cell.cls := o3
    refine WT.catch (own := "PairedTextsLaw") hown o1 o2 (Vm.classAt_of_findClass o3) [] [] (⟨0, 6, 9, 13⟩ : ExceptionTableEntry) (by rw [htab]; rfl) (fun z hz => absurd hz (by simp)) (by decide) (tx_rY F (by decide) k1_86 o3) ?_
    show W _ _ _ _ _ _ _ _ _ _ _ _ _ _ _ (F0 m 9 ls [Value.ref x])
    refine lv_astore_n hx hb dL_accept_9 rfl hl (by decide) rfl (fun ls hl => ?_)
    have hl : lv_has ls 4 [(3, .ref _), (0, .ref _), (1, .int _), (2, .int _)] := hl
    refine lv_iconst (v := 1) hx hb dL_accept_10 (by decide) ?_
    exact W.iret hx hb hr (fun t ht hW => ⟨by rw [hk1]; rfl, ⟨_, ⟨_, _, _, _, rfl, by rw [hk1]; exact hC⟩, by rw [ht]; exact hP⟩, hS.F ht⟩) hS.2.2 dL_accept_11
set_option maxHeartbeats 4000000 in
set_option maxRecDepth 100000 in
theorem c_L_run (hst : l.stackTraces = false) (G : gGeo ad 25 base) (ha : a_ok a) (hC : RepC pi dr S a) (d : Int32) (f : Int32) (t : Int32) (s0 : Int32) : Met l yL_run (Cond.codeWith yL_run bL_run 7 (some .int) [(0, 14, 17, 13), (0, 14, 21, 25)] :: tws) { frames := 9, cells := 1, slots := 6, locals := 150 } (gPc (tw D cI cZ cT cJ base) D cl ad 25 base (en ad cI cZ cT cJ pi dr S M o) [.ref (ad 0), .int d, .int f, .int t, .int s0, .ref (ad 24)]) (gQc D cl ad 25 base (some (.int (nI (c_run a d f t s0)))) (fun e => ∃ (pi1 : Nat → Nat) (dr1 : Nat) (S1 : Nat → Nat → Int32) (o1 : Nat → Int64), e = en ad cI cZ cT cJ pi1 dr1 S1 M o1 ∧ RepC pi1 dr1 S1 (if c_run a d f t s0 = 0 then a else a) ∧ (c_run a d f t s0 = 0 → o1 0 = (nI (rns a (ix d) (ix f) (ix s0) (ix t - ix f))).toInt64))) 1 6 (gA base) := by
  refine Met.ofWH (cc := bL_run) (maxL := 7) (ret := (some .int)) (hs := [(0, 14, 17, 13), (0, 14, 21, 25)]) (by decide) rfl ?_
  intro p e s m args below meth c s₁ B hml htab hv
  obtain ⟨rfl, htw, hB, hP⟩ := hv
  have hx := B.exec
  have hb := B.bytes
  have hr := B.returns
  have hts0 := atoms_spec (ws := Cond.codeWith yL_run bL_run 7 (some .int) [(0, 14, 17, 13), (0, 14, 21, 25)] :: tws) B.pre
  have hts : ∀ w ∈ tws, w.before _ s = true := fun w h => hts0 w (List.mem_cons_of_mem _ h)
  have hown : s.vm.findClass "PairedTextsLaw" = some m.cls := findClass_of_methodNamed B.named
  have F : CallFix p m c bL_run 7 s _ tws "PairedTextsLaw" := ⟨hx, hb, hml, hown, hts⟩
  have hK := htw.1
  have hS : va_S (gA base) s.heap s.heap [] := va_S.rf
  have hl := lv_entry ([.ref (ad 0), .int d, .int f, .int t, .int s0, .ref (ad 24)]) (n := 7) (Nat.le_of_ble_eq_true rfl)
  rw [lg_entry_eq]
  generalize (lg_sl ([.ref (ad 0), .int d, .int f, .int t, .int s0, .ref (ad 24)]) ++ List.replicate (7 - (lg_sl ([.ref (ad 0), .int d, .int f, .int t, .int s0, .ref (ad 24)])).length) Slot.unset).toArray = ls at hl ⊢
  have hl : lv_has ls 7 [(0, .ref (ad 0)), (1, .int d), (2, .int f), (3, .int t), (4, .int s0), (5, .ref (ad 24))] := hl
  refine lv_aload hx hb dL_run_0 (lv_at hl 5 rfl) ?_
  refine lv_iconst (v := 0) hx hb dL_run_2 (by decide) ?_
  refine lv_aload_n hx hb dL_run_3 rfl (lv_at hl 0 rfl) ?_
  refine lv_iload_n hx hb dL_run_4 rfl (lv_at hl 1 rfl) ?_
  refine lv_iload_n hx hb dL_run_5 rfl (lv_at hl 2 rfl) ?_
  refine lv_iload_n hx hb dL_run_6 rfl (lv_at hl 3 rfl) ?_
  refine lv_iload hx hb dL_run_7 (lv_at hl 4 rfl) ?_
  have hkk : c_run a d f t s0 = 0 ∨ c_run a d f t s0 = 1 ∨ c_run a d f t s0 = 2 := by unfold c_run; (repeat' split) <;> simp
  rcases hkk with hk1 | hk1 | hk1
  · refine g_V (k := 4) F htw hB hS hP (0) (by decide) rfl rfl (gX_met (c_P_run hst G ha hC d f t s0) hk1) k2_175 k2_176 k2_177 k1_1 k2_178 (by decide +kernel) rfl rfl ⟨Nat.le_of_ble_eq_true rfl, Nat.le_of_ble_eq_true rfl⟩ rfl hl.1 rfl (Nat.le_of_ble_eq_true rfl) dL_run_9 ⟨Nat.le_of_ble_eq_true rfl, Nat.le_of_ble_eq_true rfl⟩ (fun en1 H locs he hP hS => ?_)
    obtain ⟨pi, dr, S, rfl, hC⟩ := he
    refine lv_i2l hx hb dL_run_12 rfl ?_
    refine g_last F hK G hP hS (24) (by decide) 3 rfl rfl (vp_in_nI (n := 0) (N := 1) (by decide) (by decide)) dL_run_13 (fun H locs hP hS => ?_)
    have hP := P_of hP (en_o _ _ _ _ _ _ _ _ _ _ _)
    refine lv_goto (tgt := 25) hx hb dL_run_14 (by decide) ?_
    refine lv_iconst (v := 0) hx hb dL_run_25 (by decide) ?_
    exact W.iret hx hb hr (fun t ht hW => ⟨by rw [hk1]; rfl, ⟨_, ⟨_, _, _, _, rfl, by rw [hk1, if_pos rfl]; exact hC, fun _ => (pk_uLs : vp_updL o 0 _ 0 = _)⟩, by rw [ht]; exact hP⟩, hS.F ht⟩) hS.2.2 dL_run_26
  · refine g_VX (k := 4) F htw hB hS hP (0) (by decide) rfl rfl (c_P_run hst G ha hC d f t s0) (by rw [hk1]; decide) k2_175 k2_176 k2_177 k1_1 k2_178 (by decide +kernel) rfl rfl ⟨Nat.le_of_ble_eq_true rfl, Nat.le_of_ble_eq_true rfl⟩ rfl hl.1 rfl (Nat.le_of_ble_eq_true rfl) dL_run_9 ⟨Nat.le_of_ble_eq_true rfl, Nat.le_of_ble_eq_true rfl⟩ (fun x H locs hO hP hS => ?_)
    obtain ⟨cell, o1, o2, o3⟩ := hO
    rw [hk1] at o3
    have o3 : s.vm.findClass "java/lang/IllegalArgumentException" = some cell.cls := o3
    refine WT.catch (own := "PairedTextsLaw") hown o1 o2 (Vm.classAt_of_findClass o3) [] [(⟨0, 14, 21, 25⟩ : ExceptionTableEntry)] (⟨0, 14, 17, 13⟩ : ExceptionTableEntry) (by rw [htab]; rfl) (fun z hz => absurd hz (by simp)) (by decide) (tx_rY F (by decide) k1_86 o3) ?_
    show W _ _ _ _ _ _ _ _ _ _ _ _ _ _ _ (F0 m 17 ls [Value.ref x])
    refine lv_astore hx hb dL_run_17 hl (by decide) rfl (fun ls hl => ?_)
    have hl : lv_has ls 7 [(6, .ref _), (0, .ref _), (1, .int _), (2, .int _), (3, .int _), (4, .int _), (5, .ref _)] := hl
    refine lv_iconst (v := 1) hx hb dL_run_19 (by decide) ?_
    exact W.iret hx hb hr (fun t ht hW => ⟨by rw [hk1]; rfl, ⟨_, ⟨_, _, _, _, rfl, by rw [hk1]; exact hC, fun h => absurd (hk1.symm.trans h) (by decide)⟩, by rw [ht]; exact hP⟩, hS.F ht⟩) hS.2.2 dL_run_20
  · refine g_VX (k := 4) F htw hB hS hP (0) (by decide) rfl rfl (c_P_run hst G ha hC d f t s0) (by rw [hk1]; decide) k2_175 k2_176 k2_177 k1_1 k2_178 (by decide +kernel) rfl rfl ⟨Nat.le_of_ble_eq_true rfl, Nat.le_of_ble_eq_true rfl⟩ rfl hl.1 rfl (Nat.le_of_ble_eq_true rfl) dL_run_9 ⟨Nat.le_of_ble_eq_true rfl, Nat.le_of_ble_eq_true rfl⟩ (fun x H locs hO hP hS => ?_)
    obtain ⟨cell, o1, o2, o3⟩ := hO
    rw [hk1] at o3
    have o3 : s.vm.findClass "java/lang/IndexOutOfBoundsException" = some cell.cls := o3
    refine WT.catch (own := "PairedTextsLaw") hown o1 o2 (Vm.classAt_of_findClass o3) [(⟨0, 14, 17, 13⟩ : ExceptionTableEntry)] [] (⟨0, 14, 21, 25⟩ : ExceptionTableEntry) (by rw [htab]; rfl) (fun z hz => by obtain rfl := List.mem_singleton.mp hz; exact ⟨by decide, tx_rN F htw 1 0 (by decide) (by decide) (by decide) (by decide) k1_86 o3⟩) (by decide) (tx_rY F (by decide) k1_209 o3) ?_
    show W _ _ _ _ _ _ _ _ _ _ _ _ _ _ _ (F0 m 21 ls [Value.ref x])
    refine lv_astore hx hb dL_run_21 hl (by decide) rfl (fun ls hl => ?_)
    have hl : lv_has ls 7 [(6, .ref _), (0, .ref _), (1, .int _), (2, .int _), (3, .int _), (4, .int _), (5, .ref _)] := hl
    refine lv_iconst (v := 2) hx hb dL_run_23 (by decide) ?_
    exact W.iret hx hb hr (fun t ht hW => ⟨by rw [hk1]; rfl, ⟨_, ⟨_, _, _, _, rfl, by rw [hk1]; exact hC, fun h => absurd (hk1.symm.trans h) (by decide)⟩, by rw [ht]; exact hP⟩, hS.F ht⟩) hS.2.2 dL_run_24
set_option maxHeartbeats 4000000 in
set_option maxRecDepth 100000 in
theorem c_L_accepted (hst : l.stackTraces = false) (G : gGeo ad 25 base) (ha : a_ok a) (hC : RepC pi dr S a) (d : Int32) (f : Int32) (t : Int32) (s0 : Int32) : Met l yL_accepted (Cond.codeWith yL_accepted bL_accepted 7 (some .int) [(0, 14, 17, 13), (0, 14, 21, 25)] :: tws) { frames := 9, cells := 1, slots := 6, locals := 151 } (gPc (tw D cI cZ cT cJ base) D cl ad 25 base (en ad cI cZ cT cJ pi dr S M o) [.ref (ad 0), .int d, .int f, .int t, .int s0, .ref (ad 24)]) (gQc D cl ad 25 base (some (.int (nI (c_run a d f t s0)))) (fun e => ∃ (pi1 : Nat → Nat) (dr1 : Nat) (S1 : Nat → Nat → Int32) (o1 : Nat → Int64), e = en ad cI cZ cT cJ pi1 dr1 S1 M o1 ∧ RepC pi1 dr1 S1 (if c_run a d f t s0 = 0 then a else a) ∧ (c_run a d f t s0 = 0 → o1 0 = (nI (acs a (ix d) (ix f) (ix s0) (ix t - ix f))).toInt64))) 1 6 (gA base) := by
  refine Met.ofWH (cc := bL_accepted) (maxL := 7) (ret := (some .int)) (hs := [(0, 14, 17, 13), (0, 14, 21, 25)]) (by decide) rfl ?_
  intro p e s m args below meth c s₁ B hml htab hv
  obtain ⟨rfl, htw, hB, hP⟩ := hv
  have hx := B.exec
  have hb := B.bytes
  have hr := B.returns
  have hts0 := atoms_spec (ws := Cond.codeWith yL_accepted bL_accepted 7 (some .int) [(0, 14, 17, 13), (0, 14, 21, 25)] :: tws) B.pre
  have hts : ∀ w ∈ tws, w.before _ s = true := fun w h => hts0 w (List.mem_cons_of_mem _ h)
  have hown : s.vm.findClass "PairedTextsLaw" = some m.cls := findClass_of_methodNamed B.named
  have F : CallFix p m c bL_accepted 7 s _ tws "PairedTextsLaw" := ⟨hx, hb, hml, hown, hts⟩
  have hK := htw.1
  have hS : va_S (gA base) s.heap s.heap [] := va_S.rf
  have hl := lv_entry ([.ref (ad 0), .int d, .int f, .int t, .int s0, .ref (ad 24)]) (n := 7) (Nat.le_of_ble_eq_true rfl)
  rw [lg_entry_eq]
  generalize (lg_sl ([.ref (ad 0), .int d, .int f, .int t, .int s0, .ref (ad 24)]) ++ List.replicate (7 - (lg_sl ([.ref (ad 0), .int d, .int f, .int t, .int s0, .ref (ad 24)])).length) Slot.unset).toArray = ls at hl ⊢
  have hl : lv_has ls 7 [(0, .ref (ad 0)), (1, .int d), (2, .int f), (3, .int t), (4, .int s0), (5, .ref (ad 24))] := hl
  refine lv_aload hx hb dL_accepted_0 (lv_at hl 5 rfl) ?_
  refine lv_iconst (v := 0) hx hb dL_accepted_2 (by decide) ?_
  refine lv_aload_n hx hb dL_accepted_3 rfl (lv_at hl 0 rfl) ?_
  refine lv_iload_n hx hb dL_accepted_4 rfl (lv_at hl 1 rfl) ?_
  refine lv_iload_n hx hb dL_accepted_5 rfl (lv_at hl 2 rfl) ?_
  refine lv_iload_n hx hb dL_accepted_6 rfl (lv_at hl 3 rfl) ?_
  refine lv_iload hx hb dL_accepted_7 (lv_at hl 4 rfl) ?_
  have hkk : c_run a d f t s0 = 0 ∨ c_run a d f t s0 = 1 ∨ c_run a d f t s0 = 2 := by unfold c_run; (repeat' split) <;> simp
  rcases hkk with hk1 | hk1 | hk1
  · refine g_V (k := 4) F htw hB hS hP (0) (by decide) rfl rfl (gX_met (c_P_accepted hst G ha hC d f t s0) hk1) k2_186 k2_187 k2_188 k1_1 k2_189 (by decide +kernel) rfl rfl ⟨Nat.le_of_ble_eq_true rfl, Nat.le_of_ble_eq_true rfl⟩ rfl hl.1 rfl (Nat.le_of_ble_eq_true rfl) dL_accepted_9 ⟨Nat.le_of_ble_eq_true rfl, Nat.le_of_ble_eq_true rfl⟩ (fun en1 H locs he hP hS => ?_)
    obtain ⟨pi, dr, S, rfl, hC⟩ := he
    refine lv_i2l hx hb dL_accepted_12 rfl ?_
    refine g_last F hK G hP hS (24) (by decide) 3 rfl rfl (vp_in_nI (n := 0) (N := 1) (by decide) (by decide)) dL_accepted_13 (fun H locs hP hS => ?_)
    have hP := P_of hP (en_o _ _ _ _ _ _ _ _ _ _ _)
    refine lv_goto (tgt := 25) hx hb dL_accepted_14 (by decide) ?_
    refine lv_iconst (v := 0) hx hb dL_accepted_25 (by decide) ?_
    exact W.iret hx hb hr (fun t ht hW => ⟨by rw [hk1]; rfl, ⟨_, ⟨_, _, _, _, rfl, by rw [hk1, if_pos rfl]; exact hC, fun _ => (pk_uLs : vp_updL o 0 _ 0 = _)⟩, by rw [ht]; exact hP⟩, hS.F ht⟩) hS.2.2 dL_accepted_26
  · refine g_VX (k := 4) F htw hB hS hP (0) (by decide) rfl rfl (c_P_accepted hst G ha hC d f t s0) (by rw [hk1]; decide) k2_186 k2_187 k2_188 k1_1 k2_189 (by decide +kernel) rfl rfl ⟨Nat.le_of_ble_eq_true rfl, Nat.le_of_ble_eq_true rfl⟩ rfl hl.1 rfl (Nat.le_of_ble_eq_true rfl) dL_accepted_9 ⟨Nat.le_of_ble_eq_true rfl, Nat.le_of_ble_eq_true rfl⟩ (fun x H locs hO hP hS => ?_)
    obtain ⟨cell, o1, o2, o3⟩ := hO
    rw [hk1] at o3
    have o3 : s.vm.findClass "java/lang/IllegalArgumentException" = some cell.cls := o3
    refine WT.catch (own := "PairedTextsLaw") hown o1 o2 (Vm.classAt_of_findClass o3) [] [(⟨0, 14, 21, 25⟩ : ExceptionTableEntry)] (⟨0, 14, 17, 13⟩ : ExceptionTableEntry) (by rw [htab]; rfl) (fun z hz => absurd hz (by simp)) (by decide) (tx_rY F (by decide) k1_86 o3) ?_
    show W _ _ _ _ _ _ _ _ _ _ _ _ _ _ _ (F0 m 17 ls [Value.ref x])
    refine lv_astore hx hb dL_accepted_17 hl (by decide) rfl (fun ls hl => ?_)
    have hl : lv_has ls 7 [(6, .ref _), (0, .ref _), (1, .int _), (2, .int _), (3, .int _), (4, .int _), (5, .ref _)] := hl
    refine lv_iconst (v := 1) hx hb dL_accepted_19 (by decide) ?_
    exact W.iret hx hb hr (fun t ht hW => ⟨by rw [hk1]; rfl, ⟨_, ⟨_, _, _, _, rfl, by rw [hk1]; exact hC, fun h => absurd (hk1.symm.trans h) (by decide)⟩, by rw [ht]; exact hP⟩, hS.F ht⟩) hS.2.2 dL_accepted_20
  · refine g_VX (k := 4) F htw hB hS hP (0) (by decide) rfl rfl (c_P_accepted hst G ha hC d f t s0) (by rw [hk1]; decide) k2_186 k2_187 k2_188 k1_1 k2_189 (by decide +kernel) rfl rfl ⟨Nat.le_of_ble_eq_true rfl, Nat.le_of_ble_eq_true rfl⟩ rfl hl.1 rfl (Nat.le_of_ble_eq_true rfl) dL_accepted_9 ⟨Nat.le_of_ble_eq_true rfl, Nat.le_of_ble_eq_true rfl⟩ (fun x H locs hO hP hS => ?_)
    obtain ⟨cell, o1, o2, o3⟩ := hO
    rw [hk1] at o3
    have o3 : s.vm.findClass "java/lang/IndexOutOfBoundsException" = some cell.cls := o3
    refine WT.catch (own := "PairedTextsLaw") hown o1 o2 (Vm.classAt_of_findClass o3) [(⟨0, 14, 17, 13⟩ : ExceptionTableEntry)] [] (⟨0, 14, 21, 25⟩ : ExceptionTableEntry) (by rw [htab]; rfl) (fun z hz => by obtain rfl := List.mem_singleton.mp hz; exact ⟨by decide, tx_rN F htw 1 0 (by decide) (by decide) (by decide) (by decide) k1_86 o3⟩) (by decide) (tx_rY F (by decide) k1_209 o3) ?_
    show W _ _ _ _ _ _ _ _ _ _ _ _ _ _ _ (F0 m 21 ls [Value.ref x])
    refine lv_astore hx hb dL_accepted_21 hl (by decide) rfl (fun ls hl => ?_)
    have hl : lv_has ls 7 [(6, .ref _), (0, .ref _), (1, .int _), (2, .int _), (3, .int _), (4, .int _), (5, .ref _)] := hl
    refine lv_iconst (v := 2) hx hb dL_accepted_23 (by decide) ?_
    exact W.iret hx hb hr (fun t ht hW => ⟨by rw [hk1]; rfl, ⟨_, ⟨_, _, _, _, rfl, by rw [hk1]; exact hC, fun h => absurd (hk1.symm.trans h) (by decide)⟩, by rw [ht]; exact hP⟩, hS.F ht⟩) hS.2.2 dL_accepted_24
end P2
