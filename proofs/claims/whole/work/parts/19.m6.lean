/-! The class's calls: length, byteAt, copy, join, delete, insert. -/
section M6
variable {l : Launch} {D : va_G} {cI cZ cT cJ : ClassId} {base : Nat} {ad : Nat → Nat} {pi : Nat → Nat} {dr : Nat} {S M : Nat → Nat → Int32} {o : Nat → Int64} {a : Ab}
set_option maxHeartbeats 4000000 in
set_option maxRecDepth 100000 in
theorem c_P_length (hst : l.stackTraces = false) (G : gGeo ad 25 base) (ha : a_ok a) (hC : RepC pi dr S a) (d : Int32) : MetX l yP_length (Cond.code yP_length bP_length 2 (some .int) :: tws) { frames := 8, cells := 1, slots := 6, locals := 123 } (gPc (tw D cI cZ cT cJ base) D cl ad 25 base (en ad cI cZ cT cJ pi dr S M o) [.ref (ad 0), .int d]) (gQx D cl ad 25 base (en ad cI cZ cT cJ pi dr S M o) ["java/lang/IllegalArgumentException"] (c_length d) (some (.int (nI (a_n a (ix d))))) (fun e => ∃ (pi1 : Nat → Nat) (dr1 : Nat) (S1 : Nat → Nat → Int32), e = en ad cI cZ cT cJ pi1 dr1 S1 M o ∧ RepC pi1 dr1 S1 (a))) 1 6 (gA base) := by
  refine MetX.ofW (cc := bP_length) (maxL := 2) (ret := (some .int)) (by decide) rfl ?_
  intro p e s m args below meth c s₁ B hml hv
  obtain ⟨rfl, htw, hB, hP⟩ := hv
  have hx := B.exec
  have hb := B.bytes
  have hr := B.returns
  have hts0 := atoms_spec (ws := Cond.code yP_length bP_length 2 (some .int) :: tws) B.pre
  have hts : ∀ w ∈ tws, w.before _ s = true := fun w h => hts0 w (List.mem_cons_of_mem _ h)
  have hown : s.vm.findClass "PairedTexts" = some m.cls := findClass_of_methodNamed B.named
  have hlocks := B.notSynchronized
  have hno := B.noHandlers (hts0 _ List.mem_cons_self)
  have F : CallFix p m c bP_length 2 s _ tws "PairedTexts" := ⟨hx, hb, hml, hown, hts⟩
  have hK := htw.1
  have hS : va_S (gA base) s.heap s.heap [] := va_S.rf
  have hl := lv_entry ([.ref (ad 0), .int d]) (n := 2) (Nat.le_of_ble_eq_true rfl)
  rw [lg_entry_eq]
  generalize (lg_sl ([.ref (ad 0), .int d]) ++ List.replicate (2 - (lg_sl ([.ref (ad 0), .int d])).length) Slot.unset).toArray = ls at hl ⊢
  have hl : lv_has ls 2 [(0, .ref (ad 0)), (1, .int d)] := hl
  have hdr := hC.2.1
  refine lv_aload_n hx hb dP_length_0 rfl (lv_at hl 0 rfl) ?_
  refine lv_iload_n hx hb dP_length_1 rfl (lv_at hl 1 rfl) ?_
  rcases dk_or d with hd | ⟨k, hk, rfl⟩
  · have hk1 : (c_length d) = 1 := by simp [c_length, hd.1]
    exact g_VTh (k := 1) F hlocks hno htw hB hS hP (0) (by decide) rfl rfl (c_P_textOf_th hst hd.2) k1_92 k1_94 k0_0 k1_1 k1_95 (by decide +kernel) rfl rfl ⟨Nat.le_of_ble_eq_true rfl, Nat.le_of_ble_eq_true rfl⟩ rfl hl.1 rfl (Nat.le_of_ble_eq_true rfl) dP_length_2 ⟨Nat.le_of_ble_eq_true rfl, Nat.le_of_ble_eq_true rfl⟩ (by rw [hk1]; decide) (by rw [hk1]; rfl)
  refine g_V (k := 1) F htw hB hS hP (0) (by decide) rfl rfl (c_P_textOf hk) k1_92 k1_94 k0_0 k1_1 k1_95 (by decide +kernel) rfl rfl ⟨Nat.le_of_ble_eq_true rfl, Nat.le_of_ble_eq_true rfl⟩ rfl hl.1 rfl (Nat.le_of_ble_eq_true rfl) dP_length_2 ⟨Nat.le_of_ble_eq_true rfl, Nat.le_of_ble_eq_true rfl⟩ (fun en1 H locs he hP hS => ?_)
  obtain rfl := he
  have hp_k := (hC.1 k hk).1
  have hn_k := ha.1 k hk
  have h5_k := hC.2.2.2.1 k hk
  refine g_get F hK hP (2 + 2 * pi k) (by omega) (en_T _ _ _ _ _ _ _ _ _ _ hp_k) rfl iT 1 (by decide) k1_34 rfl dP_length_5 ?_
  rw [h5_k]
  have hk1 : (c_length (nI k)) = 0 := by simp [c_length, dk_nI hk, ix_nI (show k < 2 ^ 31 by omega)]
  refine W.widen (k := 1) (n := 6) (by decide) (by decide) ?_
  exact W.toX (W.iret hx hb hr (fun t ht hW => Or.inl ⟨hk1, ⟨by simp [dk_nI hk, ix_nI (show k < 2 ^ 31 by omega)], ⟨_, ⟨_, _, _, rfl, hC⟩, by rw [ht]; exact hP⟩, hS.F ht⟩⟩) hS.2.2 dP_length_8)
set_option maxHeartbeats 4000000 in
set_option maxRecDepth 100000 in
theorem c_P_byteAt (hst : l.stackTraces = false) (G : gGeo ad 25 base) (ha : a_ok a) (hC : RepC pi dr S a) (d i : Int32) : MetX l yP_byteAt (Cond.code yP_byteAt bP_byteAt 4 (some .int) :: tws) { frames := 8, cells := 1, slots := 6, locals := 123 } (gPc (tw D cI cZ cT cJ base) D cl ad 25 base (en ad cI cZ cT cJ pi dr S M o) [.ref (ad 0), .int d, .int i]) (gQx D cl ad 25 base (en ad cI cZ cT cJ pi dr S M o) ["java/lang/IllegalArgumentException", "java/lang/IndexOutOfBoundsException"] (c_byteAt a d i) (some (.int (nI (a_b a (ix d) (ix i))))) (fun e => ∃ (pi1 : Nat → Nat) (dr1 : Nat) (S1 : Nat → Nat → Int32), e = en ad cI cZ cT cJ pi1 dr1 S1 M o ∧ RepC pi1 dr1 S1 (a))) 1 6 (gA base) := by
  refine MetX.ofW (cc := bP_byteAt) (maxL := 4) (ret := (some .int)) (by decide) rfl ?_
  intro p e s m args below meth c s₁ B hml hv
  obtain ⟨rfl, htw, hB, hP⟩ := hv
  have hx := B.exec
  have hb := B.bytes
  have hr := B.returns
  have hts0 := atoms_spec (ws := Cond.code yP_byteAt bP_byteAt 4 (some .int) :: tws) B.pre
  have hts : ∀ w ∈ tws, w.before _ s = true := fun w h => hts0 w (List.mem_cons_of_mem _ h)
  have hown : s.vm.findClass "PairedTexts" = some m.cls := findClass_of_methodNamed B.named
  have hlocks := B.notSynchronized
  have hno := B.noHandlers (hts0 _ List.mem_cons_self)
  have F : CallFix p m c bP_byteAt 4 s _ tws "PairedTexts" := ⟨hx, hb, hml, hown, hts⟩
  have hK := htw.1
  have hS : va_S (gA base) s.heap s.heap [] := va_S.rf
  have hl := lv_entry ([.ref (ad 0), .int d, .int i]) (n := 4) (Nat.le_of_ble_eq_true rfl)
  rw [lg_entry_eq]
  generalize (lg_sl ([.ref (ad 0), .int d, .int i]) ++ List.replicate (4 - (lg_sl ([.ref (ad 0), .int d, .int i])).length) Slot.unset).toArray = ls at hl ⊢
  have hl : lv_has ls 4 [(0, .ref (ad 0)), (1, .int d), (2, .int i)] := hl
  have hdr := hC.2.1
  have z0 : (0 : Int32).toInt = 0 := rfl
  refine lv_aload_n hx hb dP_byteAt_0 rfl (lv_at hl 0 rfl) ?_
  refine lv_iload_n hx hb dP_byteAt_1 rfl (lv_at hl 1 rfl) ?_
  rcases dk_or d with hd | ⟨k, hk, rfl⟩
  · have hk1 : (c_byteAt a d i) = 1 := by simp [c_byteAt, hd.1]
    exact g_VTh (k := 1) F hlocks hno htw hB hS hP (0) (by decide) rfl rfl (c_P_textOf_th hst hd.2) k1_92 k1_94 k0_0 k1_1 k1_95 (by decide +kernel) rfl rfl ⟨Nat.le_of_ble_eq_true rfl, Nat.le_of_ble_eq_true rfl⟩ rfl hl.1 rfl (Nat.le_of_ble_eq_true rfl) dP_byteAt_2 ⟨Nat.le_of_ble_eq_true rfl, Nat.le_of_ble_eq_true rfl⟩ (by rw [hk1]; decide) (by rw [hk1]; rfl)
  refine g_V (k := 1) F htw hB hS hP (0) (by decide) rfl rfl (c_P_textOf hk) k1_92 k1_94 k0_0 k1_1 k1_95 (by decide +kernel) rfl rfl ⟨Nat.le_of_ble_eq_true rfl, Nat.le_of_ble_eq_true rfl⟩ rfl hl.1 rfl (Nat.le_of_ble_eq_true rfl) dP_byteAt_2 ⟨Nat.le_of_ble_eq_true rfl, Nat.le_of_ble_eq_true rfl⟩ (fun en1 H locs he hP hS => ?_)
  obtain rfl := he
  have hp_k := (hC.1 k hk).1
  have hn_k := ha.1 k hk
  have h5_k := hC.2.2.2.1 k hk
  refine lv_astore_n hx hb dP_byteAt_5 rfl hl (by decide) rfl (fun ls hl => ?_)
  have hl : lv_has ls 4 [(3, .ref _), (0, .ref _), (1, .int _), (2, .int _)] := hl
  refine lv_iload_n hx hb dP_byteAt_6 rfl (lv_at hl 3 rfl) ?_
  have zn := nI_toInt (show a_n a k < 2 ^ 31 by omega)
  rcases in_or i hn_k with hr | ⟨j, hj, rfl⟩
  · have hk1 : (c_byteAt a (nI k) i) = 2 := by simp [c_byteAt, dk_nI hk, ix_nI (show k < 2 ^ 31 by omega), hr.1]
    refine lv_if_lt (tgt := 22) hx hb dP_byteAt_7 (by decide) (fun hc => ?_) (fun hc => ?_)
    · refine lv_iconst (v := 0) hx hb dP_byteAt_22 (by decide) ?_
      exact g_STh (k := 1) F hlocks hno htw hB hS hP (c_P_requireInside_th hst) k1_214 k1_215 k1_1 k1_216 (by decide +kernel) rfl rfl ⟨Nat.le_of_ble_eq_true rfl, Nat.le_of_ble_eq_true rfl⟩ rfl hl.1 rfl (Nat.le_of_ble_eq_true rfl) dP_byteAt_23 ⟨Nat.le_of_ble_eq_true rfl, Nat.le_of_ble_eq_true rfl⟩ (by rw [hk1]; decide) (by rw [hk1]; rfl)
    · rw [Int32.lt_iff_toInt_lt] at hc
      refine lv_iload_n hx hb dP_byteAt_10 rfl (lv_at hl 3 rfl) ?_
      refine lv_aload_n hx hb dP_byteAt_11 rfl (lv_at hl 0 rfl) ?_
      refine g_get F hK hP (2 + 2 * pi k) (by omega) (en_T _ _ _ _ _ _ _ _ _ _ hp_k) rfl iT 1 (by decide) k1_34 rfl dP_byteAt_12 ?_
      refine lv_icmp_ge (tgt := 22) hx hb dP_byteAt_15 (by decide) (fun _ => ?_) (fun hc => absurd (by rw [Int32.le_iff_toInt_le, h5_k]; omega) hc)
      refine lv_iconst (v := 0) hx hb dP_byteAt_22 (by decide) ?_
      exact g_STh (k := 1) F hlocks hno htw hB hS hP (c_P_requireInside_th hst) k1_214 k1_215 k1_1 k1_216 (by decide +kernel) rfl rfl ⟨Nat.le_of_ble_eq_true rfl, Nat.le_of_ble_eq_true rfl⟩ rfl hl.1 rfl (Nat.le_of_ble_eq_true rfl) dP_byteAt_23 ⟨Nat.le_of_ble_eq_true rfl, Nat.le_of_ble_eq_true rfl⟩ (by rw [hk1]; decide) (by rw [hk1]; rfl)
  have zj := nI_toInt (show j < 2 ^ 31 by omega)
  refine lv_if_lt (tgt := 22) hx hb dP_byteAt_7 (by decide) (fun hc => absurd hc (by rw [Int32.lt_iff_toInt_lt]; omega)) (fun _ => ?_)
  refine lv_iload_n hx hb dP_byteAt_10 rfl (lv_at hl 3 rfl) ?_
  refine lv_aload_n hx hb dP_byteAt_11 rfl (lv_at hl 0 rfl) ?_
  refine g_get F hK hP (2 + 2 * pi k) (by omega) (en_T _ _ _ _ _ _ _ _ _ _ hp_k) rfl iT 1 (by decide) k1_34 rfl dP_byteAt_12 ?_
  refine lv_icmp_ge (tgt := 22) hx hb dP_byteAt_15 (by decide) (fun hc => absurd hc (by rw [Int32.le_iff_toInt_le, h5_k]; omega)) (fun _ => ?_)
  refine lv_iconst (v := 1) hx hb dP_byteAt_18 (by decide) ?_
  refine lv_goto (tgt := 23) hx hb dP_byteAt_19 (by decide) ?_
  refine g_S (k := 1) F htw hB hS hP (c_P_requireInside) k1_214 k1_215 k1_1 k1_216 (by decide +kernel) rfl rfl ⟨Nat.le_of_ble_eq_true rfl, Nat.le_of_ble_eq_true rfl⟩ rfl hl.1 rfl (Nat.le_of_ble_eq_true rfl) dP_byteAt_23 ⟨Nat.le_of_ble_eq_true rfl, Nat.le_of_ble_eq_true rfl⟩ (fun en1 H locs he hP hS => ?_)
  obtain rfl := he
  refine lv_aload_n hx hb dP_byteAt_26 rfl (lv_at hl 0 rfl) ?_
  refine g_get F hK hP (2 + 2 * pi k) (by omega) (en_T _ _ _ _ _ _ _ _ _ _ hp_k) rfl iT 0 (by decide) k1_32 rfl dP_byteAt_27 ?_
  refine lv_iload_n hx hb dP_byteAt_30 rfl (lv_at hl 3 rfl) ?_
  refine g_iald F hK hP (3 + 2 * pi k) (by omega) 0 (en_B _ _ _ _ _ _ _ _ _ _ hp_k) rfl (vp_in_nI (show j < 1000 by omega) (by omega)) dP_byteAt_31 ?_
  rw [nI_clamp (show j < 2 ^ 31 by omega), hC.2.2.2.2.1 k j hk hj]
  have hk1 : (c_byteAt a (nI k) (nI j)) = 0 := by simp [c_byteAt, dk_nI hk, ix_nI (show k < 2 ^ 31 by omega), in_nI hj hn_k, ix_nI (show j < 2 ^ 31 by omega)]
  refine W.widen (k := 1) (n := 6) (by decide) (by decide) ?_
  exact W.toX (W.iret hx hb hr (fun t ht hW => Or.inl ⟨hk1, ⟨by simp [dk_nI hk, ix_nI (show k < 2 ^ 31 by omega), in_nI hj hn_k, ix_nI (show j < 2 ^ 31 by omega)], ⟨_, ⟨_, _, _, rfl, hC⟩, by rw [ht]; exact hP⟩, hS.F ht⟩⟩) hS.2.2 dP_byteAt_32)
set_option maxHeartbeats 4000000 in
set_option maxRecDepth 100000 in
theorem c_P_copy (hst : l.stackTraces = false) (G : gGeo ad 25 base) (ha : a_ok a) (hC : RepC pi dr S a) (d f t d2 : Int32) : MetX l yP_copy (Cond.code yP_copy bP_copy 6 (some .int) :: tws) { frames := 8, cells := 1, slots := 6, locals := 123 } (gPc (tw D cI cZ cT cJ base) D cl ad 25 base (en ad cI cZ cT cJ pi dr S M o) [.ref (ad 0), .int d, .int f, .int t, .int d2]) (gQx D cl ad 25 base (en ad cI cZ cT cJ pi dr S M o) ["java/lang/IllegalArgumentException", "java/lang/IndexOutOfBoundsException"] (c_copy a d f t d2) (some (.int (nI (ix t - ix f)))) (fun e => ∃ (pi1 : Nat → Nat) (dr1 : Nat) (S1 : Nat → Nat → Int32), e = en ad cI cZ cT cJ pi1 dr1 S1 M o ∧ RepC pi1 dr1 S1 (x_copy a d f t d2))) 1 6 (gA base) := by
  refine MetX.ofW (cc := bP_copy) (maxL := 6) (ret := (some .int)) (by decide) rfl ?_
  intro p e s m args below meth c s₁ B hml hv
  obtain ⟨rfl, htw, hB, hP⟩ := hv
  have hx := B.exec
  have hb := B.bytes
  have hr := B.returns
  have hts0 := atoms_spec (ws := Cond.code yP_copy bP_copy 6 (some .int) :: tws) B.pre
  have hts : ∀ w ∈ tws, w.before _ s = true := fun w h => hts0 w (List.mem_cons_of_mem _ h)
  have hown : s.vm.findClass "PairedTexts" = some m.cls := findClass_of_methodNamed B.named
  have hlocks := B.notSynchronized
  have hno := B.noHandlers (hts0 _ List.mem_cons_self)
  have F : CallFix p m c bP_copy 6 s _ tws "PairedTexts" := ⟨hx, hb, hml, hown, hts⟩
  have hK := htw.1
  have hS : va_S (gA base) s.heap s.heap [] := va_S.rf
  have hl := lv_entry ([.ref (ad 0), .int d, .int f, .int t, .int d2]) (n := 6) (Nat.le_of_ble_eq_true rfl)
  rw [lg_entry_eq]
  generalize (lg_sl ([.ref (ad 0), .int d, .int f, .int t, .int d2]) ++ List.replicate (6 - (lg_sl ([.ref (ad 0), .int d, .int f, .int t, .int d2])).length) Slot.unset).toArray = ls at hl ⊢
  have hl : lv_has ls 6 [(0, .ref (ad 0)), (1, .int d), (2, .int f), (3, .int t), (4, .int d2)] := hl
  have hdr := hC.2.1
  refine lv_aload_n hx hb dP_copy_0 rfl (lv_at hl 0 rfl) ?_
  refine lv_iload_n hx hb dP_copy_1 rfl (lv_at hl 1 rfl) ?_
  rcases dk_or d with hd | ⟨k, hk, rfl⟩
  · have hk1 : (c_copy a d f t d2) = 1 := by simp [c_copy, hd.1]
    exact g_VTh (k := 1) F hlocks hno htw hB hS hP (0) (by decide) rfl rfl (c_P_textOf_th hst hd.2) k1_92 k1_94 k0_0 k1_1 k1_95 (by decide +kernel) rfl rfl ⟨Nat.le_of_ble_eq_true rfl, Nat.le_of_ble_eq_true rfl⟩ rfl hl.1 rfl (Nat.le_of_ble_eq_true rfl) dP_copy_2 ⟨Nat.le_of_ble_eq_true rfl, Nat.le_of_ble_eq_true rfl⟩ (by rw [hk1]; decide) (by rw [hk1]; rfl)
  refine g_V (k := 1) F htw hB hS hP (0) (by decide) rfl rfl (c_P_textOf hk) k1_92 k1_94 k0_0 k1_1 k1_95 (by decide +kernel) rfl rfl ⟨Nat.le_of_ble_eq_true rfl, Nat.le_of_ble_eq_true rfl⟩ rfl hl.1 rfl (Nat.le_of_ble_eq_true rfl) dP_copy_2 ⟨Nat.le_of_ble_eq_true rfl, Nat.le_of_ble_eq_true rfl⟩ (fun en1 H locs he hP hS => ?_)
  obtain rfl := he
  have hp_k := (hC.1 k hk).1
  have hn_k := ha.1 k hk
  have h5_k := hC.2.2.2.1 k hk
  refine lv_astore hx hb dP_copy_5 hl (by decide) rfl (fun ls hl => ?_)
  have hl : lv_has ls 6 [(5, .ref _), (0, .ref _), (1, .int _), (2, .int _), (3, .int _), (4, .int _)] := hl
  refine lv_iload hx hb dP_copy_7 (lv_at hl 5 rfl) ?_
  rcases dk_or d2 with hd | ⟨g, hg, rfl⟩
  · have hk1 : (c_copy a (nI k) f t d2) = 1 := by simp [c_copy, dk_nI hk, ix_nI (show k < 2 ^ 31 by omega), hd.1]
    exact g_STh (k := 1) F hlocks hno htw hB hS hP (c_P_requireDocument_th hst hd.2) k1_96 k1_97 k1_1 k1_98 (by decide +kernel) rfl rfl ⟨Nat.le_of_ble_eq_true rfl, Nat.le_of_ble_eq_true rfl⟩ rfl hl.1 rfl (Nat.le_of_ble_eq_true rfl) dP_copy_9 ⟨Nat.le_of_ble_eq_true rfl, Nat.le_of_ble_eq_true rfl⟩ (by rw [hk1]; decide) (by rw [hk1]; rfl)
  refine g_S (k := 1) F htw hB hS hP (c_P_requireDocument (by have := nI_toInt (show g < 2 ^ 31 by omega); omega) (by have := nI_toInt (show g < 2 ^ 31 by omega); omega)) k1_96 k1_97 k1_1 k1_98 (by decide +kernel) rfl rfl ⟨Nat.le_of_ble_eq_true rfl, Nat.le_of_ble_eq_true rfl⟩ rfl hl.1 rfl (Nat.le_of_ble_eq_true rfl) dP_copy_9 ⟨Nat.le_of_ble_eq_true rfl, Nat.le_of_ble_eq_true rfl⟩ (fun en1 H locs he hP hS => ?_)
  obtain rfl := he
  have hp_g := (hC.1 g hg).1
  have hn_g := ha.1 g hg
  have h5_g := hC.2.2.2.1 g hg
  refine lv_aload hx hb dP_copy_12 (lv_at hl 0 rfl) ?_
  refine lv_iload_n hx hb dP_copy_14 rfl (lv_at hl 3 rfl) ?_
  refine lv_iload_n hx hb dP_copy_15 rfl (lv_at hl 4 rfl) ?_
  refine lv_i2l hx hb dP_copy_16 rfl ?_
  refine g_V (k := 2) F htw hB hS hP (2 + 2 * pi k) (by omega) (en_T _ _ _ _ _ _ _ _ _ _ hp_k) rfl (c_rng hC ha hk f t) k2_0 k2_1 k2_2 k1_2 k2_3 (by decide +kernel) rfl rfl ⟨Nat.le_of_ble_eq_true rfl, Nat.le_of_ble_eq_true rfl⟩ rfl hl.1 rfl (Nat.le_of_ble_eq_true rfl) dP_copy_17 ⟨Nat.le_of_ble_eq_true rfl, Nat.le_of_ble_eq_true rfl⟩ (fun en1 H locs he hP hS => ?_)
  obtain rfl := he
  rcases rg_or f t hn_k with hr | ⟨f1, t1, hft, htn, rfl, rfl⟩
  · have hk1 : (c_copy a (nI k) f t (nI g)) = 2 := by simp [c_copy, dk_nI hk, ix_nI (show k < 2 ^ 31 by omega), dk_nI hg, ix_nI (show g < 2 ^ 31 by omega), hr]
    rw [show (if rg f t (a_n a k) then (1 : Int32) else 0) = 0 from by rw [hr]; rfl]
    exact g_STh (k := 1) F hlocks hno htw hB hS hP (c_P_requireInside_th hst) k1_214 k1_215 k1_1 k1_216 (by decide +kernel) rfl rfl ⟨Nat.le_of_ble_eq_true rfl, Nat.le_of_ble_eq_true rfl⟩ rfl hl.1 rfl (Nat.le_of_ble_eq_true rfl) dP_copy_20 ⟨Nat.le_of_ble_eq_true rfl, Nat.le_of_ble_eq_true rfl⟩ (by rw [hk1]; decide) (by rw [hk1]; rfl)
  rw [show (if rg (nI f1) (nI t1) (a_n a k) then (1 : Int32) else 0) = 1 from if_pos (rg_nI hft htn hn_k)]
  refine g_S (k := 1) F htw hB hS hP (c_P_requireInside) k1_214 k1_215 k1_1 k1_216 (by decide +kernel) rfl rfl ⟨Nat.le_of_ble_eq_true rfl, Nat.le_of_ble_eq_true rfl⟩ rfl hl.1 rfl (Nat.le_of_ble_eq_true rfl) dP_copy_20 ⟨Nat.le_of_ble_eq_true rfl, Nat.le_of_ble_eq_true rfl⟩ (fun en1 H locs he hP hS => ?_)
  obtain rfl := he
  refine lv_aload_n hx hb dP_copy_23 rfl (lv_at hl 1 rfl) ?_
  refine g_get F hK hP (0) (by decide) rfl rfl iP 3 (by decide) k1_73 rfl dP_copy_24 ?_
  refine g_V (k := 0) F htw hB hS hP (2 + 2 * dr) (by omega) (en_T _ _ _ _ _ _ _ _ _ _ hdr) rfl (c_clr G hC (fun _ => 0)) k2_4 k2_5 k2_6 k1_2 k2_7 (by decide +kernel) rfl rfl ⟨Nat.le_of_ble_eq_true rfl, Nat.le_of_ble_eq_true rfl⟩ rfl hl.1 rfl (Nat.le_of_ble_eq_true rfl) dP_copy_27 ⟨Nat.le_of_ble_eq_true rfl, Nat.le_of_ble_eq_true rfl⟩ (fun en1 H locs he hP hS => ?_)
  obtain ⟨S, rfl, hC, hDr⟩ := he
  refine lv_aload_n hx hb dP_copy_30 rfl (lv_at hl 1 rfl) ?_
  refine g_get F hK hP (0) (by decide) rfl rfl iP 3 (by decide) k1_73 rfl dP_copy_31 ?_
  refine lv_aload hx hb dP_copy_34 (lv_at hl 0 rfl) ?_
  refine lv_iload_n hx hb dP_copy_36 rfl (lv_at hl 3 rfl) ?_
  refine lv_iload_n hx hb dP_copy_37 rfl (lv_at hl 4 rfl) ?_
  refine g_V (k := 3) F htw hB hS hP (2 + 2 * dr) (by omega) (en_T _ _ _ _ _ _ _ _ _ _ hdr) rfl (c_addR G hC hDr hk (by omega) (by omega) hn_k (by omega)) k2_8 k2_9 k2_10 k1_2 k2_11 (by decide +kernel) rfl rfl ⟨Nat.le_of_ble_eq_true rfl, Nat.le_of_ble_eq_true rfl⟩ rfl hl.1 rfl (Nat.le_of_ble_eq_true rfl) dP_copy_38 ⟨Nat.le_of_ble_eq_true rfl, Nat.le_of_ble_eq_true rfl⟩ (fun en1 H locs he hP hS => ?_)
  obtain ⟨S, rfl, hC, hDr⟩ := he
  refine lv_aload_n hx hb dP_copy_41 rfl (lv_at hl 1 rfl) ?_
  refine lv_iload hx hb dP_copy_42 (lv_at hl 5 rfl) ?_
  refine g_V (k := 1) F htw hB hS hP (0) (by decide) rfl rfl (c_swap G hC hDr hg) k2_15 k2_17 k0_2 k1_1 k2_18 (by decide +kernel) rfl rfl ⟨Nat.le_of_ble_eq_true rfl, Nat.le_of_ble_eq_true rfl⟩ rfl hl.1 rfl (Nat.le_of_ble_eq_true rfl) dP_copy_44 ⟨Nat.le_of_ble_eq_true rfl, Nat.le_of_ble_eq_true rfl⟩ (fun en1 H locs he hP hS => ?_)
  obtain ⟨pi1, dr1, S, rfl, hC⟩ := he
  have hC := hC.to (k' := t1 - f1) (g' := fun i => a_b a k (f1 + i)) (by omega) (fun i _ => by simp [cat])
  rw [Nat.zero_add]
  have hk1 : (c_copy a (nI k) (nI f1) (nI t1) (nI g)) = 0 := by simp [c_copy, dk_nI hk, ix_nI (show k < 2 ^ 31 by omega), dk_nI hg, ix_nI (show g < 2 ^ 31 by omega), rg_nI hft htn hn_k, ix_nI (show f1 < 2 ^ 31 by omega), ix_nI (show t1 < 2 ^ 31 by omega)]
  refine W.widen (k := 1) (n := 6) (by decide) (by decide) ?_
  exact W.toX (W.iret hx hb hr (fun t ht hW => Or.inl ⟨hk1, ⟨by simp [dk_nI hk, ix_nI (show k < 2 ^ 31 by omega), dk_nI hg, ix_nI (show g < 2 ^ 31 by omega), rg_nI hft htn hn_k, ix_nI (show f1 < 2 ^ 31 by omega), ix_nI (show t1 < 2 ^ 31 by omega)], ⟨_, ⟨_, _, _, rfl, by simpa [x_copy, dk_nI hk, ix_nI (show k < 2 ^ 31 by omega), dk_nI hg, ix_nI (show g < 2 ^ 31 by omega), rg_nI hft htn hn_k, ix_nI (show f1 < 2 ^ 31 by omega), ix_nI (show t1 < 2 ^ 31 by omega)] using hC⟩, by rw [ht]; exact hP⟩, hS.F ht⟩⟩) hS.2.2 dP_copy_47)
set_option maxHeartbeats 4000000 in
set_option maxRecDepth 100000 in
theorem c_P_join (hst : l.stackTraces = false) (G : gGeo ad 25 base) (ha : a_ok a) (hC : RepC pi dr S a) (d d2 d3 : Int32) : MetX l yP_join (Cond.code yP_join bP_join 6 (some .int) :: tws) { frames := 8, cells := 1, slots := 6, locals := 123 } (gPc (tw D cI cZ cT cJ base) D cl ad 25 base (en ad cI cZ cT cJ pi dr S M o) [.ref (ad 0), .int d, .int d2, .int d3]) (gQx D cl ad 25 base (en ad cI cZ cT cJ pi dr S M o) ["java/lang/IllegalArgumentException", "java/lang/UnsupportedOperationException"] (c_join a d d2 d3) (some (.int (nI (a_n a (ix d) + a_n a (ix d2))))) (fun e => ∃ (pi1 : Nat → Nat) (dr1 : Nat) (S1 : Nat → Nat → Int32), e = en ad cI cZ cT cJ pi1 dr1 S1 M o ∧ RepC pi1 dr1 S1 (x_join a d d2 d3))) 1 6 (gA base) := by
  refine MetX.ofW (cc := bP_join) (maxL := 6) (ret := (some .int)) (by decide) rfl ?_
  intro p e s m args below meth c s₁ B hml hv
  obtain ⟨rfl, htw, hB, hP⟩ := hv
  have hx := B.exec
  have hb := B.bytes
  have hr := B.returns
  have hts0 := atoms_spec (ws := Cond.code yP_join bP_join 6 (some .int) :: tws) B.pre
  have hts : ∀ w ∈ tws, w.before _ s = true := fun w h => hts0 w (List.mem_cons_of_mem _ h)
  have hown : s.vm.findClass "PairedTexts" = some m.cls := findClass_of_methodNamed B.named
  have hlocks := B.notSynchronized
  have hno := B.noHandlers (hts0 _ List.mem_cons_self)
  have F : CallFix p m c bP_join 6 s _ tws "PairedTexts" := ⟨hx, hb, hml, hown, hts⟩
  have hK := htw.1
  have hS : va_S (gA base) s.heap s.heap [] := va_S.rf
  have hl := lv_entry ([.ref (ad 0), .int d, .int d2, .int d3]) (n := 6) (Nat.le_of_ble_eq_true rfl)
  rw [lg_entry_eq]
  generalize (lg_sl ([.ref (ad 0), .int d, .int d2, .int d3]) ++ List.replicate (6 - (lg_sl ([.ref (ad 0), .int d, .int d2, .int d3])).length) Slot.unset).toArray = ls at hl ⊢
  have hl : lv_has ls 6 [(0, .ref (ad 0)), (1, .int d), (2, .int d2), (3, .int d3)] := hl
  have hdr := hC.2.1
  refine lv_aload_n hx hb dP_join_0 rfl (lv_at hl 0 rfl) ?_
  refine lv_iload_n hx hb dP_join_1 rfl (lv_at hl 1 rfl) ?_
  rcases dk_or d with hd | ⟨k, hk, rfl⟩
  · have hk1 : (c_join a d d2 d3) = 1 := by simp [c_join, hd.1]
    exact g_VTh (k := 1) F hlocks hno htw hB hS hP (0) (by decide) rfl rfl (c_P_textOf_th hst hd.2) k1_92 k1_94 k0_0 k1_1 k1_95 (by decide +kernel) rfl rfl ⟨Nat.le_of_ble_eq_true rfl, Nat.le_of_ble_eq_true rfl⟩ rfl hl.1 rfl (Nat.le_of_ble_eq_true rfl) dP_join_2 ⟨Nat.le_of_ble_eq_true rfl, Nat.le_of_ble_eq_true rfl⟩ (by rw [hk1]; decide) (by rw [hk1]; rfl)
  refine g_V (k := 1) F htw hB hS hP (0) (by decide) rfl rfl (c_P_textOf hk) k1_92 k1_94 k0_0 k1_1 k1_95 (by decide +kernel) rfl rfl ⟨Nat.le_of_ble_eq_true rfl, Nat.le_of_ble_eq_true rfl⟩ rfl hl.1 rfl (Nat.le_of_ble_eq_true rfl) dP_join_2 ⟨Nat.le_of_ble_eq_true rfl, Nat.le_of_ble_eq_true rfl⟩ (fun en1 H locs he hP hS => ?_)
  obtain rfl := he
  have hp_k := (hC.1 k hk).1
  have hn_k := ha.1 k hk
  have h5_k := hC.2.2.2.1 k hk
  refine lv_astore hx hb dP_join_5 hl (by decide) rfl (fun ls hl => ?_)
  have hl : lv_has ls 6 [(4, .ref _), (0, .ref _), (1, .int _), (2, .int _), (3, .int _)] := hl
  refine lv_aload_n hx hb dP_join_7 rfl (lv_at hl 1 rfl) ?_
  refine lv_iload_n hx hb dP_join_8 rfl (lv_at hl 3 rfl) ?_
  rcases dk_or d2 with hd | ⟨j, hj, rfl⟩
  · have hk1 : (c_join a (nI k) d2 d3) = 1 := by simp [c_join, dk_nI hk, ix_nI (show k < 2 ^ 31 by omega), hd.1]
    exact g_VTh (k := 1) F hlocks hno htw hB hS hP (0) (by decide) rfl rfl (c_P_textOf_th hst hd.2) k1_92 k1_94 k0_0 k1_1 k1_95 (by decide +kernel) rfl rfl ⟨Nat.le_of_ble_eq_true rfl, Nat.le_of_ble_eq_true rfl⟩ rfl hl.1 rfl (Nat.le_of_ble_eq_true rfl) dP_join_9 ⟨Nat.le_of_ble_eq_true rfl, Nat.le_of_ble_eq_true rfl⟩ (by rw [hk1]; decide) (by rw [hk1]; rfl)
  refine g_V (k := 1) F htw hB hS hP (0) (by decide) rfl rfl (c_P_textOf hj) k1_92 k1_94 k0_0 k1_1 k1_95 (by decide +kernel) rfl rfl ⟨Nat.le_of_ble_eq_true rfl, Nat.le_of_ble_eq_true rfl⟩ rfl hl.1 rfl (Nat.le_of_ble_eq_true rfl) dP_join_9 ⟨Nat.le_of_ble_eq_true rfl, Nat.le_of_ble_eq_true rfl⟩ (fun en1 H locs he hP hS => ?_)
  obtain rfl := he
  have hp_j := (hC.1 j hj).1
  have hn_j := ha.1 j hj
  have h5_j := hC.2.2.2.1 j hj
  refine lv_astore hx hb dP_join_12 hl (by decide) rfl (fun ls hl => ?_)
  have hl : lv_has ls 6 [(5, .ref _), (4, .ref _), (0, .ref _), (1, .int _), (2, .int _), (3, .int _)] := hl
  refine lv_iload_n hx hb dP_join_14 rfl (lv_at hl 5 rfl) ?_
  rcases dk_or d3 with hd | ⟨i, hi, rfl⟩
  · have hk1 : (c_join a (nI k) (nI j) d3) = 1 := by simp [c_join, dk_nI hk, ix_nI (show k < 2 ^ 31 by omega), dk_nI hj, ix_nI (show j < 2 ^ 31 by omega), hd.1]
    exact g_STh (k := 1) F hlocks hno htw hB hS hP (c_P_requireDocument_th hst hd.2) k1_96 k1_97 k1_1 k1_98 (by decide +kernel) rfl rfl ⟨Nat.le_of_ble_eq_true rfl, Nat.le_of_ble_eq_true rfl⟩ rfl hl.1 rfl (Nat.le_of_ble_eq_true rfl) dP_join_15 ⟨Nat.le_of_ble_eq_true rfl, Nat.le_of_ble_eq_true rfl⟩ (by rw [hk1]; decide) (by rw [hk1]; rfl)
  refine g_S (k := 1) F htw hB hS hP (c_P_requireDocument (by have := nI_toInt (show i < 2 ^ 31 by omega); omega) (by have := nI_toInt (show i < 2 ^ 31 by omega); omega)) k1_96 k1_97 k1_1 k1_98 (by decide +kernel) rfl rfl ⟨Nat.le_of_ble_eq_true rfl, Nat.le_of_ble_eq_true rfl⟩ rfl hl.1 rfl (Nat.le_of_ble_eq_true rfl) dP_join_15 ⟨Nat.le_of_ble_eq_true rfl, Nat.le_of_ble_eq_true rfl⟩ (fun en1 H locs he hP hS => ?_)
  obtain rfl := he
  have hp_i := (hC.1 i hi).1
  have hn_i := ha.1 i hi
  have h5_i := hC.2.2.2.1 i hi
  refine lv_aload hx hb dP_join_18 (lv_at hl 1 rfl) ?_
  refine g_get F hK hP (2 + 2 * pi k) (by omega) (en_T _ _ _ _ _ _ _ _ _ _ hp_k) rfl iT 1 (by decide) k1_34 rfl dP_join_20 ?_
  refine lv_aload hx hb dP_join_23 (lv_at hl 0 rfl) ?_
  refine g_get F hK hP (2 + 2 * pi j) (by omega) (en_T _ _ _ _ _ _ _ _ _ _ hp_j) rfl iT 1 (by decide) k1_34 rfl dP_join_25 ?_
  refine lv_iadd hx hb dP_join_28 ?_
  refine lv_i2l hx hb dP_join_29 rfl ?_
  rw [h5_k, h5_j, nI_add, nI_l (show a_n a k + a_n a j < 2 ^ 31 by omega)]
  have zr := lN_toInt (show a_n a k + a_n a j < 2 ^ 31 by omega)
  by_cases hg : a_n a k + a_n a j ≤ 1000
  · refine g_S (k := 1) F htw hB hS hP (c_P_requireRoom (by omega)) k1_172 k1_173 k1_1 k1_174 (by decide +kernel) rfl rfl ⟨Nat.le_of_ble_eq_true rfl, Nat.le_of_ble_eq_true rfl⟩ rfl hl.1 rfl (Nat.le_of_ble_eq_true rfl) dP_join_30 ⟨Nat.le_of_ble_eq_true rfl, Nat.le_of_ble_eq_true rfl⟩ (fun en1 H locs he hP hS => ?_)
    obtain rfl := he
    refine lv_aload_n hx hb dP_join_33 rfl (lv_at hl 2 rfl) ?_
    refine g_get F hK hP (0) (by decide) rfl rfl iP 3 (by decide) k1_73 rfl dP_join_34 ?_
    refine g_V (k := 0) F htw hB hS hP (2 + 2 * dr) (by omega) (en_T _ _ _ _ _ _ _ _ _ _ hdr) rfl (c_clr G hC (fun _ => 0)) k2_4 k2_5 k2_6 k1_2 k2_7 (by decide +kernel) rfl rfl ⟨Nat.le_of_ble_eq_true rfl, Nat.le_of_ble_eq_true rfl⟩ rfl hl.1 rfl (Nat.le_of_ble_eq_true rfl) dP_join_37 ⟨Nat.le_of_ble_eq_true rfl, Nat.le_of_ble_eq_true rfl⟩ (fun en1 H locs he hP hS => ?_)
    obtain ⟨S, rfl, hC, hDr⟩ := he
    refine lv_aload_n hx hb dP_join_40 rfl (lv_at hl 2 rfl) ?_
    refine g_get F hK hP (0) (by decide) rfl rfl iP 3 (by decide) k1_73 rfl dP_join_41 ?_
    refine lv_aload hx hb dP_join_44 (lv_at hl 1 rfl) ?_
    refine lv_iconst (v := 0) hx hb dP_join_46 (by decide) ?_
    refine lv_aload hx hb dP_join_47 (lv_at hl 1 rfl) ?_
    refine g_get F hK hP (2 + 2 * pi k) (by omega) (en_T _ _ _ _ _ _ _ _ _ _ hp_k) rfl iT 1 (by decide) k1_34 rfl dP_join_49 ?_
    rw [hC.2.2.2.1 k hk]
    rw [show (0 : Int32) = nI 0 from rfl]
    refine g_V (k := 3) F htw hB hS hP (2 + 2 * dr) (by omega) (en_T _ _ _ _ _ _ _ _ _ _ hdr) rfl (c_addR G hC hDr hk (by omega) (by omega) hn_k (by omega)) k2_8 k2_9 k2_10 k1_2 k2_11 (by decide +kernel) rfl rfl ⟨Nat.le_of_ble_eq_true rfl, Nat.le_of_ble_eq_true rfl⟩ rfl hl.1 rfl (Nat.le_of_ble_eq_true rfl) dP_join_52 ⟨Nat.le_of_ble_eq_true rfl, Nat.le_of_ble_eq_true rfl⟩ (fun en1 H locs he hP hS => ?_)
    obtain ⟨S, rfl, hC, hDr⟩ := he
    refine lv_aload_n hx hb dP_join_55 rfl (lv_at hl 2 rfl) ?_
    refine g_get F hK hP (0) (by decide) rfl rfl iP 3 (by decide) k1_73 rfl dP_join_56 ?_
    refine lv_aload hx hb dP_join_59 (lv_at hl 0 rfl) ?_
    refine lv_iconst (v := 0) hx hb dP_join_61 (by decide) ?_
    refine lv_aload hx hb dP_join_62 (lv_at hl 0 rfl) ?_
    refine g_get F hK hP (2 + 2 * pi j) (by omega) (en_T _ _ _ _ _ _ _ _ _ _ hp_j) rfl iT 1 (by decide) k1_34 rfl dP_join_64 ?_
    rw [hC.2.2.2.1 j hj]
    rw [show (0 : Int32) = nI 0 from rfl]
    refine g_V (k := 3) F htw hB hS hP (2 + 2 * dr) (by omega) (en_T _ _ _ _ _ _ _ _ _ _ hdr) rfl (c_addR G hC hDr hj (by omega) (by omega) hn_j (by omega)) k2_8 k2_9 k2_10 k1_2 k2_11 (by decide +kernel) rfl rfl ⟨Nat.le_of_ble_eq_true rfl, Nat.le_of_ble_eq_true rfl⟩ rfl hl.1 rfl (Nat.le_of_ble_eq_true rfl) dP_join_67 ⟨Nat.le_of_ble_eq_true rfl, Nat.le_of_ble_eq_true rfl⟩ (fun en1 H locs he hP hS => ?_)
    obtain ⟨S, rfl, hC, hDr⟩ := he
    refine lv_aload_n hx hb dP_join_70 rfl (lv_at hl 2 rfl) ?_
    refine lv_iload_n hx hb dP_join_71 rfl (lv_at hl 5 rfl) ?_
    refine g_V (k := 1) F htw hB hS hP (0) (by decide) rfl rfl (c_swap G hC hDr hi) k2_15 k2_17 k0_2 k1_1 k2_18 (by decide +kernel) rfl rfl ⟨Nat.le_of_ble_eq_true rfl, Nat.le_of_ble_eq_true rfl⟩ rfl hl.1 rfl (Nat.le_of_ble_eq_true rfl) dP_join_72 ⟨Nat.le_of_ble_eq_true rfl, Nat.le_of_ble_eq_true rfl⟩ (fun en1 H locs he hP hS => ?_)
    obtain ⟨pi1, dr1, S, rfl, hC⟩ := he
    have hC := hC.to (k' := a_n a k + a_n a j) (g' := cat (a_b a k) (a_n a k) (a_b a j)) (by omega) (fun i hi => by simp [cat])
    rw [show 0 + (a_n a k - 0) + (a_n a j - 0) = a_n a k + a_n a j by omega]
    have hk1 : (c_join a (nI k) (nI j) (nI i)) = 0 := by simp [c_join, dk_nI hk, ix_nI (show k < 2 ^ 31 by omega), dk_nI hj, ix_nI (show j < 2 ^ 31 by omega), dk_nI hi, ix_nI (show i < 2 ^ 31 by omega), hg]
    refine W.widen (k := 1) (n := 6) (by decide) (by decide) ?_
    exact W.toX (W.iret hx hb hr (fun t ht hW => Or.inl ⟨hk1, ⟨by simp [dk_nI hk, ix_nI (show k < 2 ^ 31 by omega), dk_nI hj, ix_nI (show j < 2 ^ 31 by omega), dk_nI hi, ix_nI (show i < 2 ^ 31 by omega), hg], ⟨_, ⟨_, _, _, rfl, by simpa [x_join, dk_nI hk, ix_nI (show k < 2 ^ 31 by omega), dk_nI hj, ix_nI (show j < 2 ^ 31 by omega), dk_nI hi, ix_nI (show i < 2 ^ 31 by omega), hg] using hC⟩, by rw [ht]; exact hP⟩, hS.F ht⟩⟩) hS.2.2 dP_join_75)
  · have hk1 : (c_join a (nI k) (nI j) (nI i)) = 2 := by simp [c_join, hg, dk_nI hk, ix_nI (show k < 2 ^ 31 by omega), dk_nI hj, ix_nI (show j < 2 ^ 31 by omega), dk_nI hi, ix_nI (show i < 2 ^ 31 by omega)]
    exact g_STh (k := 1) F hlocks hno htw hB hS hP (c_P_requireRoom_th hst (by omega)) k1_172 k1_173 k1_1 k1_174 (by decide +kernel) rfl rfl ⟨Nat.le_of_ble_eq_true rfl, Nat.le_of_ble_eq_true rfl⟩ rfl hl.1 rfl (Nat.le_of_ble_eq_true rfl) dP_join_30 ⟨Nat.le_of_ble_eq_true rfl, Nat.le_of_ble_eq_true rfl⟩ (by rw [hk1]; decide) (by rw [hk1]; rfl)
set_option maxHeartbeats 4000000 in
set_option maxRecDepth 100000 in
theorem c_P_delete (hst : l.stackTraces = false) (G : gGeo ad 25 base) (ha : a_ok a) (hC : RepC pi dr S a) (d f t : Int32) : MetX l yP_delete (Cond.code yP_delete bP_delete 5 (some .int) :: tws) { frames := 8, cells := 1, slots := 6, locals := 123 } (gPc (tw D cI cZ cT cJ base) D cl ad 25 base (en ad cI cZ cT cJ pi dr S M o) [.ref (ad 0), .int d, .int f, .int t]) (gQx D cl ad 25 base (en ad cI cZ cT cJ pi dr S M o) ["java/lang/IllegalArgumentException", "java/lang/IndexOutOfBoundsException"] (c_delete a d f t) (some (.int (nI (a_n a (ix d) - (ix t - ix f))))) (fun e => ∃ (pi1 : Nat → Nat) (dr1 : Nat) (S1 : Nat → Nat → Int32), e = en ad cI cZ cT cJ pi1 dr1 S1 M o ∧ RepC pi1 dr1 S1 (x_delete a d f t))) 1 6 (gA base) := by
  refine MetX.ofW (cc := bP_delete) (maxL := 5) (ret := (some .int)) (by decide) rfl ?_
  intro p e s m args below meth c s₁ B hml hv
  obtain ⟨rfl, htw, hB, hP⟩ := hv
  have hx := B.exec
  have hb := B.bytes
  have hr := B.returns
  have hts0 := atoms_spec (ws := Cond.code yP_delete bP_delete 5 (some .int) :: tws) B.pre
  have hts : ∀ w ∈ tws, w.before _ s = true := fun w h => hts0 w (List.mem_cons_of_mem _ h)
  have hown : s.vm.findClass "PairedTexts" = some m.cls := findClass_of_methodNamed B.named
  have hlocks := B.notSynchronized
  have hno := B.noHandlers (hts0 _ List.mem_cons_self)
  have F : CallFix p m c bP_delete 5 s _ tws "PairedTexts" := ⟨hx, hb, hml, hown, hts⟩
  have hK := htw.1
  have hS : va_S (gA base) s.heap s.heap [] := va_S.rf
  have hl := lv_entry ([.ref (ad 0), .int d, .int f, .int t]) (n := 5) (Nat.le_of_ble_eq_true rfl)
  rw [lg_entry_eq]
  generalize (lg_sl ([.ref (ad 0), .int d, .int f, .int t]) ++ List.replicate (5 - (lg_sl ([.ref (ad 0), .int d, .int f, .int t])).length) Slot.unset).toArray = ls at hl ⊢
  have hl : lv_has ls 5 [(0, .ref (ad 0)), (1, .int d), (2, .int f), (3, .int t)] := hl
  have hdr := hC.2.1
  refine lv_aload_n hx hb dP_delete_0 rfl (lv_at hl 0 rfl) ?_
  refine lv_iload_n hx hb dP_delete_1 rfl (lv_at hl 1 rfl) ?_
  rcases dk_or d with hd | ⟨k, hk, rfl⟩
  · have hk1 : (c_delete a d f t) = 1 := by simp [c_delete, hd.1]
    exact g_VTh (k := 1) F hlocks hno htw hB hS hP (0) (by decide) rfl rfl (c_P_textOf_th hst hd.2) k1_92 k1_94 k0_0 k1_1 k1_95 (by decide +kernel) rfl rfl ⟨Nat.le_of_ble_eq_true rfl, Nat.le_of_ble_eq_true rfl⟩ rfl hl.1 rfl (Nat.le_of_ble_eq_true rfl) dP_delete_2 ⟨Nat.le_of_ble_eq_true rfl, Nat.le_of_ble_eq_true rfl⟩ (by rw [hk1]; decide) (by rw [hk1]; rfl)
  refine g_V (k := 1) F htw hB hS hP (0) (by decide) rfl rfl (c_P_textOf hk) k1_92 k1_94 k0_0 k1_1 k1_95 (by decide +kernel) rfl rfl ⟨Nat.le_of_ble_eq_true rfl, Nat.le_of_ble_eq_true rfl⟩ rfl hl.1 rfl (Nat.le_of_ble_eq_true rfl) dP_delete_2 ⟨Nat.le_of_ble_eq_true rfl, Nat.le_of_ble_eq_true rfl⟩ (fun en1 H locs he hP hS => ?_)
  obtain rfl := he
  have hp_k := (hC.1 k hk).1
  have hn_k := ha.1 k hk
  have h5_k := hC.2.2.2.1 k hk
  refine lv_astore hx hb dP_delete_5 hl (by decide) rfl (fun ls hl => ?_)
  have hl : lv_has ls 5 [(4, .ref _), (0, .ref _), (1, .int _), (2, .int _), (3, .int _)] := hl
  refine lv_aload hx hb dP_delete_7 (lv_at hl 0 rfl) ?_
  refine lv_iload_n hx hb dP_delete_9 rfl (lv_at hl 3 rfl) ?_
  refine lv_iload_n hx hb dP_delete_10 rfl (lv_at hl 4 rfl) ?_
  refine lv_i2l hx hb dP_delete_11 rfl ?_
  refine g_V (k := 2) F htw hB hS hP (2 + 2 * pi k) (by omega) (en_T _ _ _ _ _ _ _ _ _ _ hp_k) rfl (c_rng hC ha hk f t) k2_0 k2_1 k2_2 k1_2 k2_3 (by decide +kernel) rfl rfl ⟨Nat.le_of_ble_eq_true rfl, Nat.le_of_ble_eq_true rfl⟩ rfl hl.1 rfl (Nat.le_of_ble_eq_true rfl) dP_delete_12 ⟨Nat.le_of_ble_eq_true rfl, Nat.le_of_ble_eq_true rfl⟩ (fun en1 H locs he hP hS => ?_)
  obtain rfl := he
  rcases rg_or f t hn_k with hr | ⟨f1, t1, hft, htn, rfl, rfl⟩
  · have hk1 : (c_delete a (nI k) f t) = 2 := by simp [c_delete, dk_nI hk, ix_nI (show k < 2 ^ 31 by omega), hr]
    rw [show (if rg f t (a_n a k) then (1 : Int32) else 0) = 0 from by rw [hr]; rfl]
    exact g_STh (k := 1) F hlocks hno htw hB hS hP (c_P_requireInside_th hst) k1_214 k1_215 k1_1 k1_216 (by decide +kernel) rfl rfl ⟨Nat.le_of_ble_eq_true rfl, Nat.le_of_ble_eq_true rfl⟩ rfl hl.1 rfl (Nat.le_of_ble_eq_true rfl) dP_delete_15 ⟨Nat.le_of_ble_eq_true rfl, Nat.le_of_ble_eq_true rfl⟩ (by rw [hk1]; decide) (by rw [hk1]; rfl)
  rw [show (if rg (nI f1) (nI t1) (a_n a k) then (1 : Int32) else 0) = 1 from if_pos (rg_nI hft htn hn_k)]
  refine g_S (k := 1) F htw hB hS hP (c_P_requireInside) k1_214 k1_215 k1_1 k1_216 (by decide +kernel) rfl rfl ⟨Nat.le_of_ble_eq_true rfl, Nat.le_of_ble_eq_true rfl⟩ rfl hl.1 rfl (Nat.le_of_ble_eq_true rfl) dP_delete_15 ⟨Nat.le_of_ble_eq_true rfl, Nat.le_of_ble_eq_true rfl⟩ (fun en1 H locs he hP hS => ?_)
  obtain rfl := he
  refine lv_aload_n hx hb dP_delete_18 rfl (lv_at hl 1 rfl) ?_
  refine g_get F hK hP (0) (by decide) rfl rfl iP 3 (by decide) k1_73 rfl dP_delete_19 ?_
  refine g_V (k := 0) F htw hB hS hP (2 + 2 * dr) (by omega) (en_T _ _ _ _ _ _ _ _ _ _ hdr) rfl (c_clr G hC (fun _ => 0)) k2_4 k2_5 k2_6 k1_2 k2_7 (by decide +kernel) rfl rfl ⟨Nat.le_of_ble_eq_true rfl, Nat.le_of_ble_eq_true rfl⟩ rfl hl.1 rfl (Nat.le_of_ble_eq_true rfl) dP_delete_22 ⟨Nat.le_of_ble_eq_true rfl, Nat.le_of_ble_eq_true rfl⟩ (fun en1 H locs he hP hS => ?_)
  obtain ⟨S, rfl, hC, hDr⟩ := he
  refine lv_aload_n hx hb dP_delete_25 rfl (lv_at hl 1 rfl) ?_
  refine g_get F hK hP (0) (by decide) rfl rfl iP 3 (by decide) k1_73 rfl dP_delete_26 ?_
  refine lv_aload hx hb dP_delete_29 (lv_at hl 0 rfl) ?_
  refine lv_iconst (v := 0) hx hb dP_delete_31 (by decide) ?_
  refine lv_iload_n hx hb dP_delete_32 rfl (lv_at hl 3 rfl) ?_
  rw [show (0 : Int32) = nI 0 from rfl]
  refine g_V (k := 3) F htw hB hS hP (2 + 2 * dr) (by omega) (en_T _ _ _ _ _ _ _ _ _ _ hdr) rfl (c_addR G hC hDr hk (by omega) (by omega) hn_k (by omega)) k2_8 k2_9 k2_10 k1_2 k2_11 (by decide +kernel) rfl rfl ⟨Nat.le_of_ble_eq_true rfl, Nat.le_of_ble_eq_true rfl⟩ rfl hl.1 rfl (Nat.le_of_ble_eq_true rfl) dP_delete_33 ⟨Nat.le_of_ble_eq_true rfl, Nat.le_of_ble_eq_true rfl⟩ (fun en1 H locs he hP hS => ?_)
  obtain ⟨S, rfl, hC, hDr⟩ := he
  refine lv_aload_n hx hb dP_delete_36 rfl (lv_at hl 1 rfl) ?_
  refine g_get F hK hP (0) (by decide) rfl rfl iP 3 (by decide) k1_73 rfl dP_delete_37 ?_
  refine lv_aload hx hb dP_delete_40 (lv_at hl 0 rfl) ?_
  refine lv_iload_n hx hb dP_delete_42 rfl (lv_at hl 4 rfl) ?_
  refine lv_aload hx hb dP_delete_43 (lv_at hl 0 rfl) ?_
  refine g_get F hK hP (2 + 2 * pi k) (by omega) (en_T _ _ _ _ _ _ _ _ _ _ hp_k) rfl iT 1 (by decide) k1_34 rfl dP_delete_45 ?_
  rw [hC.2.2.2.1 k hk]
  refine g_V (k := 3) F htw hB hS hP (2 + 2 * dr) (by omega) (en_T _ _ _ _ _ _ _ _ _ _ hdr) rfl (c_addR G hC hDr hk (by omega) (by omega) hn_k (by omega)) k2_8 k2_9 k2_10 k1_2 k2_11 (by decide +kernel) rfl rfl ⟨Nat.le_of_ble_eq_true rfl, Nat.le_of_ble_eq_true rfl⟩ rfl hl.1 rfl (Nat.le_of_ble_eq_true rfl) dP_delete_48 ⟨Nat.le_of_ble_eq_true rfl, Nat.le_of_ble_eq_true rfl⟩ (fun en1 H locs he hP hS => ?_)
  obtain ⟨S, rfl, hC, hDr⟩ := he
  refine lv_aload_n hx hb dP_delete_51 rfl (lv_at hl 1 rfl) ?_
  refine lv_iload_n hx hb dP_delete_52 rfl (lv_at hl 2 rfl) ?_
  refine g_V (k := 1) F htw hB hS hP (0) (by decide) rfl rfl (c_swap G hC hDr hk) k2_15 k2_17 k0_2 k1_1 k2_18 (by decide +kernel) rfl rfl ⟨Nat.le_of_ble_eq_true rfl, Nat.le_of_ble_eq_true rfl⟩ rfl hl.1 rfl (Nat.le_of_ble_eq_true rfl) dP_delete_53 ⟨Nat.le_of_ble_eq_true rfl, Nat.le_of_ble_eq_true rfl⟩ (fun en1 H locs he hP hS => ?_)
  obtain ⟨pi1, dr1, S, rfl, hC⟩ := he
  have hC := hC.to (k' := a_n a k - (t1 - f1)) (g' := cat (a_b a k) f1 (fun i => a_b a k (t1 + i))) (by omega) (fun i hi => by simp [cat])
  rw [show 0 + (f1 - 0) + (a_n a k - t1) = a_n a k - (t1 - f1) by omega]
  have hk1 : (c_delete a (nI k) (nI f1) (nI t1)) = 0 := by simp [c_delete, dk_nI hk, ix_nI (show k < 2 ^ 31 by omega), rg_nI hft htn hn_k, ix_nI (show f1 < 2 ^ 31 by omega), ix_nI (show t1 < 2 ^ 31 by omega)]
  refine W.widen (k := 1) (n := 6) (by decide) (by decide) ?_
  exact W.toX (W.iret hx hb hr (fun t ht hW => Or.inl ⟨hk1, ⟨by simp [dk_nI hk, ix_nI (show k < 2 ^ 31 by omega), rg_nI hft htn hn_k, ix_nI (show f1 < 2 ^ 31 by omega), ix_nI (show t1 < 2 ^ 31 by omega)], ⟨_, ⟨_, _, _, rfl, by simpa [x_delete, dk_nI hk, ix_nI (show k < 2 ^ 31 by omega), rg_nI hft htn hn_k, ix_nI (show f1 < 2 ^ 31 by omega), ix_nI (show t1 < 2 ^ 31 by omega)] using hC⟩, by rw [ht]; exact hP⟩, hS.F ht⟩⟩) hS.2.2 dP_delete_56)
set_option maxHeartbeats 4000000 in
set_option maxRecDepth 100000 in
theorem c_P_insert (hst : l.stackTraces = false) (G : gGeo ad 25 base) (ha : a_ok a) (hC : RepC pi dr S a) (d q d2 f t : Int32) : MetX l yP_insert (Cond.code yP_insert bP_insert 8 (some .int) :: tws) { frames := 8, cells := 1, slots := 6, locals := 123 } (gPc (tw D cI cZ cT cJ base) D cl ad 25 base (en ad cI cZ cT cJ pi dr S M o) [.ref (ad 0), .int d, .int q, .int d2, .int f, .int t]) (gQx D cl ad 25 base (en ad cI cZ cT cJ pi dr S M o) ["java/lang/IllegalArgumentException", "java/lang/IndexOutOfBoundsException", "java/lang/UnsupportedOperationException"] (c_insert a d q d2 f t) (some (.int (nI (a_n a (ix d) + (ix t - ix f))))) (fun e => ∃ (pi1 : Nat → Nat) (dr1 : Nat) (S1 : Nat → Nat → Int32), e = en ad cI cZ cT cJ pi1 dr1 S1 M o ∧ RepC pi1 dr1 S1 (x_insert a d q d2 f t))) 1 6 (gA base) := by
  refine MetX.ofW (cc := bP_insert) (maxL := 8) (ret := (some .int)) (by decide) rfl ?_
  intro p e s m args below meth c s₁ B hml hv
  obtain ⟨rfl, htw, hB, hP⟩ := hv
  have hx := B.exec
  have hb := B.bytes
  have hr := B.returns
  have hts0 := atoms_spec (ws := Cond.code yP_insert bP_insert 8 (some .int) :: tws) B.pre
  have hts : ∀ w ∈ tws, w.before _ s = true := fun w h => hts0 w (List.mem_cons_of_mem _ h)
  have hown : s.vm.findClass "PairedTexts" = some m.cls := findClass_of_methodNamed B.named
  have hlocks := B.notSynchronized
  have hno := B.noHandlers (hts0 _ List.mem_cons_self)
  have F : CallFix p m c bP_insert 8 s _ tws "PairedTexts" := ⟨hx, hb, hml, hown, hts⟩
  have hK := htw.1
  have hS : va_S (gA base) s.heap s.heap [] := va_S.rf
  have hl := lv_entry ([.ref (ad 0), .int d, .int q, .int d2, .int f, .int t]) (n := 8) (Nat.le_of_ble_eq_true rfl)
  rw [lg_entry_eq]
  generalize (lg_sl ([.ref (ad 0), .int d, .int q, .int d2, .int f, .int t]) ++ List.replicate (8 - (lg_sl ([.ref (ad 0), .int d, .int q, .int d2, .int f, .int t])).length) Slot.unset).toArray = ls at hl ⊢
  have hl : lv_has ls 8 [(0, .ref (ad 0)), (1, .int d), (2, .int q), (3, .int d2), (4, .int f), (5, .int t)] := hl
  have hdr := hC.2.1
  refine lv_aload_n hx hb dP_insert_0 rfl (lv_at hl 0 rfl) ?_
  refine lv_iload_n hx hb dP_insert_1 rfl (lv_at hl 1 rfl) ?_
  rcases dk_or d with hd | ⟨k, hk, rfl⟩
  · have hk1 : (c_insert a d q d2 f t) = 1 := by simp [c_insert, hd.1]
    exact g_VTh (k := 1) F hlocks hno htw hB hS hP (0) (by decide) rfl rfl (c_P_textOf_th hst hd.2) k1_92 k1_94 k0_0 k1_1 k1_95 (by decide +kernel) rfl rfl ⟨Nat.le_of_ble_eq_true rfl, Nat.le_of_ble_eq_true rfl⟩ rfl hl.1 rfl (Nat.le_of_ble_eq_true rfl) dP_insert_2 ⟨Nat.le_of_ble_eq_true rfl, Nat.le_of_ble_eq_true rfl⟩ (by rw [hk1]; decide) (by rw [hk1]; rfl)
  refine g_V (k := 1) F htw hB hS hP (0) (by decide) rfl rfl (c_P_textOf hk) k1_92 k1_94 k0_0 k1_1 k1_95 (by decide +kernel) rfl rfl ⟨Nat.le_of_ble_eq_true rfl, Nat.le_of_ble_eq_true rfl⟩ rfl hl.1 rfl (Nat.le_of_ble_eq_true rfl) dP_insert_2 ⟨Nat.le_of_ble_eq_true rfl, Nat.le_of_ble_eq_true rfl⟩ (fun en1 H locs he hP hS => ?_)
  obtain rfl := he
  have hp_k := (hC.1 k hk).1
  have hn_k := ha.1 k hk
  have h5_k := hC.2.2.2.1 k hk
  refine lv_astore hx hb dP_insert_5 hl (by decide) rfl (fun ls hl => ?_)
  have hl : lv_has ls 8 [(6, .ref _), (0, .ref _), (1, .int _), (2, .int _), (3, .int _), (4, .int _), (5, .int _)] := hl
  refine lv_aload_n hx hb dP_insert_7 rfl (lv_at hl 1 rfl) ?_
  refine lv_iload_n hx hb dP_insert_8 rfl (lv_at hl 4 rfl) ?_
  rcases dk_or d2 with hd | ⟨j, hj, rfl⟩
  · have hk1 : (c_insert a (nI k) q d2 f t) = 1 := by simp [c_insert, dk_nI hk, ix_nI (show k < 2 ^ 31 by omega), hd.1]
    exact g_VTh (k := 1) F hlocks hno htw hB hS hP (0) (by decide) rfl rfl (c_P_textOf_th hst hd.2) k1_92 k1_94 k0_0 k1_1 k1_95 (by decide +kernel) rfl rfl ⟨Nat.le_of_ble_eq_true rfl, Nat.le_of_ble_eq_true rfl⟩ rfl hl.1 rfl (Nat.le_of_ble_eq_true rfl) dP_insert_9 ⟨Nat.le_of_ble_eq_true rfl, Nat.le_of_ble_eq_true rfl⟩ (by rw [hk1]; decide) (by rw [hk1]; rfl)
  refine g_V (k := 1) F htw hB hS hP (0) (by decide) rfl rfl (c_P_textOf hj) k1_92 k1_94 k0_0 k1_1 k1_95 (by decide +kernel) rfl rfl ⟨Nat.le_of_ble_eq_true rfl, Nat.le_of_ble_eq_true rfl⟩ rfl hl.1 rfl (Nat.le_of_ble_eq_true rfl) dP_insert_9 ⟨Nat.le_of_ble_eq_true rfl, Nat.le_of_ble_eq_true rfl⟩ (fun en1 H locs he hP hS => ?_)
  obtain rfl := he
  have hp_j := (hC.1 j hj).1
  have hn_j := ha.1 j hj
  have h5_j := hC.2.2.2.1 j hj
  refine lv_astore hx hb dP_insert_12 hl (by decide) rfl (fun ls hl => ?_)
  have hl : lv_has ls 8 [(7, .ref _), (6, .ref _), (0, .ref _), (1, .int _), (2, .int _), (3, .int _), (4, .int _), (5, .int _)] := hl
  refine lv_aload hx hb dP_insert_14 (lv_at hl 0 rfl) ?_
  refine lv_iload hx hb dP_insert_16 (lv_at hl 6 rfl) ?_
  refine lv_iload hx hb dP_insert_18 (lv_at hl 7 rfl) ?_
  refine lv_i2l hx hb dP_insert_20 rfl ?_
  refine g_V (k := 2) F htw hB hS hP (2 + 2 * pi j) (by omega) (en_T _ _ _ _ _ _ _ _ _ _ hp_j) rfl (c_rng hC ha hj f t) k2_0 k2_1 k2_2 k1_2 k2_3 (by decide +kernel) rfl rfl ⟨Nat.le_of_ble_eq_true rfl, Nat.le_of_ble_eq_true rfl⟩ rfl hl.1 rfl (Nat.le_of_ble_eq_true rfl) dP_insert_21 ⟨Nat.le_of_ble_eq_true rfl, Nat.le_of_ble_eq_true rfl⟩ (fun en1 H locs he hP hS => ?_)
  obtain rfl := he
  rcases rg_or f t hn_j with hg | ⟨f1, t1, hft, htn, rfl, rfl⟩
  · have hk1 : (c_insert a (nI k) q (nI j) f t) = 2 := by simp [c_insert, dk_nI hk, ix_nI (show k < 2 ^ 31 by omega), dk_nI hj, ix_nI (show j < 2 ^ 31 by omega), hg]
    rw [show (if rg f t (a_n a j) then (1 : Int32) else 0) = 0 from by rw [hg]; rfl]
    refine lv_if_eq (tgt := 40) hx hb dP_insert_24 (by decide) (fun _ => ?_) (fun hc => absurd rfl hc)
    refine lv_iconst (v := 0) hx hb dP_insert_40 (by decide) ?_
    exact g_STh (k := 1) F hlocks hno htw hB hS hP (c_P_requireInside_th hst) k1_214 k1_215 k1_1 k1_216 (by decide +kernel) rfl rfl ⟨Nat.le_of_ble_eq_true rfl, Nat.le_of_ble_eq_true rfl⟩ rfl hl.1 rfl (Nat.le_of_ble_eq_true rfl) dP_insert_41 ⟨Nat.le_of_ble_eq_true rfl, Nat.le_of_ble_eq_true rfl⟩ (by rw [hk1]; decide) (by rw [hk1]; rfl)
  rw [show (if rg (nI f1) (nI t1) (a_n a j) then (1 : Int32) else 0) = 1 from if_pos (rg_nI hft htn hn_j)]
  refine lv_if_eq (tgt := 40) hx hb dP_insert_24 (by decide) (fun hc => absurd hc (by decide)) (fun _ => ?_)
  refine lv_aload hx hb dP_insert_27 (lv_at hl 1 rfl) ?_
  refine lv_iload_n hx hb dP_insert_29 rfl (lv_at hl 4 rfl) ?_
  refine g_V (k := 1) F htw hB hS hP (2 + 2 * pi k) (by omega) (en_T _ _ _ _ _ _ _ _ _ _ hp_k) rfl (c_pce hC ha hk q) k2_33 k2_34 k2_35 k1_2 k2_36 (by decide +kernel) rfl rfl ⟨Nat.le_of_ble_eq_true rfl, Nat.le_of_ble_eq_true rfl⟩ rfl hl.1 rfl (Nat.le_of_ble_eq_true rfl) dP_insert_30 ⟨Nat.le_of_ble_eq_true rfl, Nat.le_of_ble_eq_true rfl⟩ (fun en1 H locs he hP hS => ?_)
  obtain rfl := he
  rcases pc_or q hn_k with hg | ⟨b, hb1, rfl⟩
  · have hk1 : (c_insert a (nI k) q (nI j) (nI f1) (nI t1)) = 2 := by simp [c_insert, dk_nI hk, ix_nI (show k < 2 ^ 31 by omega), dk_nI hj, ix_nI (show j < 2 ^ 31 by omega), rg_nI hft htn hn_j, ix_nI (show f1 < 2 ^ 31 by omega), ix_nI (show t1 < 2 ^ 31 by omega), hg]
    rw [show (if pcL q (a_n a k) then (1 : Int32) else 0) = 0 from by rw [hg]; rfl]
    refine lv_if_eq (tgt := 40) hx hb dP_insert_33 (by decide) (fun _ => ?_) (fun hc => absurd rfl hc)
    refine lv_iconst (v := 0) hx hb dP_insert_40 (by decide) ?_
    exact g_STh (k := 1) F hlocks hno htw hB hS hP (c_P_requireInside_th hst) k1_214 k1_215 k1_1 k1_216 (by decide +kernel) rfl rfl ⟨Nat.le_of_ble_eq_true rfl, Nat.le_of_ble_eq_true rfl⟩ rfl hl.1 rfl (Nat.le_of_ble_eq_true rfl) dP_insert_41 ⟨Nat.le_of_ble_eq_true rfl, Nat.le_of_ble_eq_true rfl⟩ (by rw [hk1]; decide) (by rw [hk1]; rfl)
  rw [show (if pcL (nI b) (a_n a k) then (1 : Int32) else 0) = 1 from if_pos (pc_nI hb1 hn_k)]
  refine lv_if_eq (tgt := 40) hx hb dP_insert_33 (by decide) (fun hc => absurd hc (by decide)) (fun _ => ?_)
  refine lv_iconst (v := 1) hx hb dP_insert_36 (by decide) ?_
  refine lv_goto (tgt := 41) hx hb dP_insert_37 (by decide) ?_
  refine g_S (k := 1) F htw hB hS hP (c_P_requireInside) k1_214 k1_215 k1_1 k1_216 (by decide +kernel) rfl rfl ⟨Nat.le_of_ble_eq_true rfl, Nat.le_of_ble_eq_true rfl⟩ rfl hl.1 rfl (Nat.le_of_ble_eq_true rfl) dP_insert_41 ⟨Nat.le_of_ble_eq_true rfl, Nat.le_of_ble_eq_true rfl⟩ (fun en1 H locs he hP hS => ?_)
  obtain rfl := he
  refine lv_aload hx hb dP_insert_44 (lv_at hl 1 rfl) ?_
  refine g_get F hK hP (2 + 2 * pi k) (by omega) (en_T _ _ _ _ _ _ _ _ _ _ hp_k) rfl iT 1 (by decide) k1_34 rfl dP_insert_46 ?_
  refine lv_iload hx hb dP_insert_49 (lv_at hl 7 rfl) ?_
  refine lv_iload hx hb dP_insert_51 (lv_at hl 6 rfl) ?_
  refine lv_isub hx hb dP_insert_53 ?_
  refine lv_iadd hx hb dP_insert_54 ?_
  refine lv_i2l hx hb dP_insert_55 rfl ?_
  rw [h5_k, pk_sub hft, nI_add, nI_l (show a_n a k + (t1 - f1) < 2 ^ 31 by omega)]
  have zr := lN_toInt (show a_n a k + (t1 - f1) < 2 ^ 31 by omega)
  by_cases hg : a_n a k + (t1 - f1) ≤ 1000
  · refine g_S (k := 1) F htw hB hS hP (c_P_requireRoom (by omega)) k1_172 k1_173 k1_1 k1_174 (by decide +kernel) rfl rfl ⟨Nat.le_of_ble_eq_true rfl, Nat.le_of_ble_eq_true rfl⟩ rfl hl.1 rfl (Nat.le_of_ble_eq_true rfl) dP_insert_56 ⟨Nat.le_of_ble_eq_true rfl, Nat.le_of_ble_eq_true rfl⟩ (fun en1 H locs he hP hS => ?_)
    obtain rfl := he
    refine lv_aload_n hx hb dP_insert_59 rfl (lv_at hl 2 rfl) ?_
    refine g_get F hK hP (0) (by decide) rfl rfl iP 3 (by decide) k1_73 rfl dP_insert_60 ?_
    refine g_V (k := 0) F htw hB hS hP (2 + 2 * dr) (by omega) (en_T _ _ _ _ _ _ _ _ _ _ hdr) rfl (c_clr G hC (fun _ => 0)) k2_4 k2_5 k2_6 k1_2 k2_7 (by decide +kernel) rfl rfl ⟨Nat.le_of_ble_eq_true rfl, Nat.le_of_ble_eq_true rfl⟩ rfl hl.1 rfl (Nat.le_of_ble_eq_true rfl) dP_insert_63 ⟨Nat.le_of_ble_eq_true rfl, Nat.le_of_ble_eq_true rfl⟩ (fun en1 H locs he hP hS => ?_)
    obtain ⟨S, rfl, hC, hDr⟩ := he
    refine lv_aload_n hx hb dP_insert_66 rfl (lv_at hl 2 rfl) ?_
    refine g_get F hK hP (0) (by decide) rfl rfl iP 3 (by decide) k1_73 rfl dP_insert_67 ?_
    refine lv_aload hx hb dP_insert_70 (lv_at hl 1 rfl) ?_
    refine lv_iconst (v := 0) hx hb dP_insert_72 (by decide) ?_
    refine lv_iload_n hx hb dP_insert_73 rfl (lv_at hl 4 rfl) ?_
    rw [show (0 : Int32) = nI 0 from rfl]
    refine g_V (k := 3) F htw hB hS hP (2 + 2 * dr) (by omega) (en_T _ _ _ _ _ _ _ _ _ _ hdr) rfl (c_addR G hC hDr hk (by omega) (by omega) hn_k (by omega)) k2_8 k2_9 k2_10 k1_2 k2_11 (by decide +kernel) rfl rfl ⟨Nat.le_of_ble_eq_true rfl, Nat.le_of_ble_eq_true rfl⟩ rfl hl.1 rfl (Nat.le_of_ble_eq_true rfl) dP_insert_74 ⟨Nat.le_of_ble_eq_true rfl, Nat.le_of_ble_eq_true rfl⟩ (fun en1 H locs he hP hS => ?_)
    obtain ⟨S, rfl, hC, hDr⟩ := he
    refine lv_aload_n hx hb dP_insert_77 rfl (lv_at hl 2 rfl) ?_
    refine g_get F hK hP (0) (by decide) rfl rfl iP 3 (by decide) k1_73 rfl dP_insert_78 ?_
    refine lv_aload hx hb dP_insert_81 (lv_at hl 0 rfl) ?_
    refine lv_iload hx hb dP_insert_83 (lv_at hl 6 rfl) ?_
    refine lv_iload hx hb dP_insert_85 (lv_at hl 7 rfl) ?_
    refine g_V (k := 3) F htw hB hS hP (2 + 2 * dr) (by omega) (en_T _ _ _ _ _ _ _ _ _ _ hdr) rfl (c_addR G hC hDr hj (by omega) (by omega) hn_j (by omega)) k2_8 k2_9 k2_10 k1_2 k2_11 (by decide +kernel) rfl rfl ⟨Nat.le_of_ble_eq_true rfl, Nat.le_of_ble_eq_true rfl⟩ rfl hl.1 rfl (Nat.le_of_ble_eq_true rfl) dP_insert_87 ⟨Nat.le_of_ble_eq_true rfl, Nat.le_of_ble_eq_true rfl⟩ (fun en1 H locs he hP hS => ?_)
    obtain ⟨S, rfl, hC, hDr⟩ := he
    refine lv_aload_n hx hb dP_insert_90 rfl (lv_at hl 2 rfl) ?_
    refine g_get F hK hP (0) (by decide) rfl rfl iP 3 (by decide) k1_73 rfl dP_insert_91 ?_
    refine lv_aload hx hb dP_insert_94 (lv_at hl 1 rfl) ?_
    refine lv_iload_n hx hb dP_insert_96 rfl (lv_at hl 4 rfl) ?_
    refine lv_aload hx hb dP_insert_97 (lv_at hl 1 rfl) ?_
    refine g_get F hK hP (2 + 2 * pi k) (by omega) (en_T _ _ _ _ _ _ _ _ _ _ hp_k) rfl iT 1 (by decide) k1_34 rfl dP_insert_99 ?_
    rw [hC.2.2.2.1 k hk]
    refine g_V (k := 3) F htw hB hS hP (2 + 2 * dr) (by omega) (en_T _ _ _ _ _ _ _ _ _ _ hdr) rfl (c_addR G hC hDr hk (by omega) (by omega) hn_k (by omega)) k2_8 k2_9 k2_10 k1_2 k2_11 (by decide +kernel) rfl rfl ⟨Nat.le_of_ble_eq_true rfl, Nat.le_of_ble_eq_true rfl⟩ rfl hl.1 rfl (Nat.le_of_ble_eq_true rfl) dP_insert_102 ⟨Nat.le_of_ble_eq_true rfl, Nat.le_of_ble_eq_true rfl⟩ (fun en1 H locs he hP hS => ?_)
    obtain ⟨S, rfl, hC, hDr⟩ := he
    refine lv_aload_n hx hb dP_insert_105 rfl (lv_at hl 2 rfl) ?_
    refine lv_iload_n hx hb dP_insert_106 rfl (lv_at hl 3 rfl) ?_
    refine g_V (k := 1) F htw hB hS hP (0) (by decide) rfl rfl (c_swap G hC hDr hk) k2_15 k2_17 k0_2 k1_1 k2_18 (by decide +kernel) rfl rfl ⟨Nat.le_of_ble_eq_true rfl, Nat.le_of_ble_eq_true rfl⟩ rfl hl.1 rfl (Nat.le_of_ble_eq_true rfl) dP_insert_107 ⟨Nat.le_of_ble_eq_true rfl, Nat.le_of_ble_eq_true rfl⟩ (fun en1 H locs he hP hS => ?_)
    obtain ⟨pi1, dr1, S, rfl, hC⟩ := he
    have hC := hC.to (k' := a_n a k + (t1 - f1)) (g' := cat (cat (a_b a k) b (fun i => a_b a j (f1 + i))) (b + (t1 - f1)) (fun i => a_b a k (b + i))) (by omega) (fun i hi => by simp [cat])
    rw [show 0 + (b - 0) + (t1 - f1) + (a_n a k - b) = a_n a k + (t1 - f1) by omega]
    have hk1 : (c_insert a (nI k) (nI b) (nI j) (nI f1) (nI t1)) = 0 := by simp [c_insert, dk_nI hk, ix_nI (show k < 2 ^ 31 by omega), dk_nI hj, ix_nI (show j < 2 ^ 31 by omega), rg_nI hft htn hn_j, ix_nI (show f1 < 2 ^ 31 by omega), ix_nI (show t1 < 2 ^ 31 by omega), pc_nI hb1 hn_k, ix_nI (show b < 2 ^ 31 by omega), hg]
    refine W.widen (k := 1) (n := 6) (by decide) (by decide) ?_
    exact W.toX (W.iret hx hb hr (fun t ht hW => Or.inl ⟨hk1, ⟨by simp [dk_nI hk, ix_nI (show k < 2 ^ 31 by omega), dk_nI hj, ix_nI (show j < 2 ^ 31 by omega), rg_nI hft htn hn_j, ix_nI (show f1 < 2 ^ 31 by omega), ix_nI (show t1 < 2 ^ 31 by omega), pc_nI hb1 hn_k, ix_nI (show b < 2 ^ 31 by omega), hg], ⟨_, ⟨_, _, _, rfl, by simpa [x_insert, dk_nI hk, ix_nI (show k < 2 ^ 31 by omega), dk_nI hj, ix_nI (show j < 2 ^ 31 by omega), rg_nI hft htn hn_j, ix_nI (show f1 < 2 ^ 31 by omega), ix_nI (show t1 < 2 ^ 31 by omega), pc_nI hb1 hn_k, ix_nI (show b < 2 ^ 31 by omega), hg] using hC⟩, by rw [ht]; exact hP⟩, hS.F ht⟩⟩) hS.2.2 dP_insert_110)
  · have hk1 : (c_insert a (nI k) (nI b) (nI j) (nI f1) (nI t1)) = 3 := by simp [c_insert, hg, dk_nI hk, ix_nI (show k < 2 ^ 31 by omega), dk_nI hj, ix_nI (show j < 2 ^ 31 by omega), rg_nI hft htn hn_j, ix_nI (show f1 < 2 ^ 31 by omega), ix_nI (show t1 < 2 ^ 31 by omega), pc_nI hb1 hn_k, ix_nI (show b < 2 ^ 31 by omega)]
    exact g_STh (k := 1) F hlocks hno htw hB hS hP (c_P_requireRoom_th hst (by omega)) k1_172 k1_173 k1_1 k1_174 (by decide +kernel) rfl rfl ⟨Nat.le_of_ble_eq_true rfl, Nat.le_of_ble_eq_true rfl⟩ rfl hl.1 rfl (Nat.le_of_ble_eq_true rfl) dP_insert_56 ⟨Nat.le_of_ble_eq_true rfl, Nat.le_of_ble_eq_true rfl⟩ (by rw [hk1]; decide) (by rw [hk1]; rfl)
end M6
