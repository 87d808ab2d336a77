/-! The reference's calls: length, byteAt, copy, join, insert, delete, move. -/
section N2
variable {l : Launch} {D : va_G} {cI cZ cT cJ : ClassId} {base : Nat} {ad : Nat → Nat} {pi : Nat → Nat} {dr : Nat} {S M : Nat → Nat → Int32} {o : Nat → Int64} {a : Ab}
set_option maxHeartbeats 4000000 in
set_option maxRecDepth 100000 in
theorem c_M_length (G : gGeo ad 25 base) (ha : a_ok a) (hR : RepM M a) (d : Int32) : Met l yM_length (Cond.code yM_length bM_length 2 (some .int) :: tws) { frames := 1, cells := 0, slots := 0, locals := 20 } (gPc (tw D cI cZ cT cJ base) D cl ad 25 base (en ad cI cZ cT cJ pi dr S M o) [.ref (ad 17), .int d]) (gQc D cl ad 25 base (some (.int (if (c_length d) = 0 then (nI (a_n a (ix d))) else 0))) (fun e => ∃ M1 : Nat → Nat → Int32, e = en ad cI cZ cT cJ pi dr S M1 o ∧ M1 0 0 = nI (c_length d) ∧ RepM M1 (if (c_length d) = 0 then a else a))) 0 0 (gA base) := by
  refine Met.ofW (cc := bM_length) (maxL := 2) (ret := (some .int)) (by decide) rfl ?_
  intro p e s m args below meth c s₁ B hml hv
  obtain ⟨rfl, htw, hB, hP⟩ := hv
  have hx := B.exec
  have hb := B.bytes
  have hr := B.returns
  have hts0 := atoms_spec (ws := Cond.code yM_length bM_length 2 (some .int) :: tws) B.pre
  have hts : ∀ w ∈ tws, w.before _ s = true := fun w h => hts0 w (List.mem_cons_of_mem _ h)
  have hown : s.vm.findClass "PairedTextsModel" = some m.cls := findClass_of_methodNamed B.named
  have hlocks := B.notSynchronized
  have hno := B.noHandlers (hts0 _ List.mem_cons_self)
  have F : CallFix p m c bM_length 2 s _ tws "PairedTextsModel" := ⟨hx, hb, hml, hown, hts⟩
  have hK := htw.1
  have hS : va_S (gA base) s.heap s.heap [] := va_S.rf
  have hl := lv_entry ([.ref (ad 17), .int d]) (n := 2) (Nat.le_of_ble_eq_true rfl)
  rw [lg_entry_eq]
  generalize (lg_sl ([.ref (ad 17), .int d]) ++ List.replicate (2 - (lg_sl ([.ref (ad 17), .int d])).length) Slot.unset).toArray = ls at hl ⊢
  have hl : lv_has ls 2 [(0, .ref (ad 17)), (1, .int d)] := hl
  have z0 : (0 : Int32).toInt = 0 := rfl
  refine lv_aload_n hx hb dM_length_0 rfl (lv_at hl 0 rfl) ?_
  refine lv_iload_n hx hb dM_length_1 rfl (lv_at hl 1 rfl) ?_
  rcases dk_or d with hd | ⟨k, hk, rfl⟩
  · have hk1 : (c_length d) = 1 := by simp [c_length, hd.1]
    refine g_S (k := 1) F htw hB hS hP (c_M_isDocument d) k2_238 k2_239 k1_5 k3_0 (by decide +kernel) rfl rfl ⟨Nat.le_of_ble_eq_true rfl, Nat.le_of_ble_eq_true rfl⟩ rfl hl.1 rfl (Nat.le_of_ble_eq_true rfl) dM_length_2 ⟨Nat.le_of_ble_eq_true rfl, Nat.le_of_ble_eq_true rfl⟩ (fun en1 H locs he hP hS => ?_)
    obtain rfl := he
    refine lv_if_eq (tgt := 12) hx hb dM_length_5 (by decide) (fun _ => ?_) (fun hc => absurd (show (if dk d then (1 : Int32) else 0) = 0 by rw [hd.1]; rfl) hc)
    refine lv_iconst (v := 1) hx hb dM_length_12 (by decide) ?_
    refine g_put F hK G hP hS (17) (by decide) rfl rfl iM tM tM_ok nM 0 (by decide) k2_196 rfl (ty := .int) (by decide +kernel) rfl rfl (Nat.le_of_ble_eq_true rfl) dM_length_13 (fun H locs hP hS => ?_)
    have hP := P_of hP (en_m_code _ _ _ _ _ _ _ _ _ _ _)
    obtain ⟨M, hP, hR, h00⟩ : ∃ M1 : Nat → Nat → Int32, va_P D cl (gw ad (en ad cI cZ cT cJ pi dr S M1 o) 25) H ∧ RepM M1 a ∧ M1 0 0 = nI 1 := ⟨_, hP, hR.num (by decide), rfl⟩
    refine lv_aload_n hx hb dM_length_16 rfl (lv_at hl 0 rfl) ?_
    refine g_get F hK hP (17) (by decide) rfl rfl iM 0 (by decide) k2_196 rfl dM_length_17 ?_
    rw [h00]
    refine lv_if_le (tgt := 27) hx hb dM_length_20 (by decide) (fun hc => absurd hc (show ¬ nI 1 ≤ 0 by decide)) (fun _ => ?_)
    refine lv_iconst (v := 0) hx hb dM_length_23 (by decide) ?_
    refine lv_goto (tgt := 33) hx hb dM_length_24 (by decide) ?_
    exact W.iret hx hb hr (fun t ht hW => ⟨by rw [hk1]; rfl, ⟨_, ⟨M, rfl, by rw [hk1]; exact h00, by rw [hk1]; exact hR⟩, by rw [ht]; exact hP⟩, hS.F ht⟩) hS.2.2 dM_length_33
  refine g_S (k := 1) F htw hB hS hP (c_M_isDocument (nI k)) k2_238 k2_239 k1_5 k3_0 (by decide +kernel) rfl rfl ⟨Nat.le_of_ble_eq_true rfl, Nat.le_of_ble_eq_true rfl⟩ rfl hl.1 rfl (Nat.le_of_ble_eq_true rfl) dM_length_2 ⟨Nat.le_of_ble_eq_true rfl, Nat.le_of_ble_eq_true rfl⟩ (fun en1 H locs he hP hS => ?_)
  obtain rfl := he
  refine lv_if_eq (tgt := 12) hx hb dM_length_5 (by decide) (fun hc => absurd hc (show ¬ (if dk (nI k) then (1 : Int32) else 0) = 0 by rw [dk_nI hk]; decide)) (fun _ => ?_)
  have hn_k := ha.1 k hk
  have hk1 : (c_length (nI k)) = 0 := by simp [c_length, dk_nI hk, ix_nI (show k < 2 ^ 31 by omega)]
  refine lv_iconst (v := 0) hx hb dM_length_8 (by decide) ?_
  refine lv_goto (tgt := 13) hx hb dM_length_9 (by decide) ?_
  refine g_put F hK G hP hS (17) (by decide) rfl rfl iM tM tM_ok nM 0 (by decide) k2_196 rfl (ty := .int) (by decide +kernel) rfl rfl (Nat.le_of_ble_eq_true rfl) dM_length_13 (fun H locs hP hS => ?_)
  have hP := P_of hP (en_m_code _ _ _ _ _ _ _ _ _ _ _)
  obtain ⟨M, hP, hR, h00⟩ : ∃ M1 : Nat → Nat → Int32, va_P D cl (gw ad (en ad cI cZ cT cJ pi dr S M1 o) 25) H ∧ RepM M1 a ∧ M1 0 0 = nI 0 := ⟨_, hP, hR.num (by decide), rfl⟩
  refine lv_aload_n hx hb dM_length_16 rfl (lv_at hl 0 rfl) ?_
  refine g_get F hK hP (17) (by decide) rfl rfl iM 0 (by decide) k2_196 rfl dM_length_17 ?_
  rw [h00]
  refine lv_if_le (tgt := 27) hx hb dM_length_20 (by decide) (fun _ => ?_) (fun hc => absurd (show  nI 0 ≤ 0 by decide) hc)
  refine lv_aload_n hx hb dM_length_27 rfl (lv_at hl 0 rfl) ?_
  refine g_get F hK hP (17) (by decide) rfl rfl iM 2 (by decide) k2_198 rfl dM_length_28 ?_
  refine lv_iload_n hx hb dM_length_31 rfl (lv_at hl 1 rfl) ?_
  refine g_iald F hK hP (19) (by decide) 0 rfl rfl (vp_in_nI hk (by omega)) dM_length_32 ?_
  rw [nI_clamp (show k < 2 ^ 31 by omega), hR.1 k hk]
  exact W.iret hx hb hr (fun t ht hW => ⟨by rw [hk1, if_pos rfl]; simp [dk_nI hk, ix_nI (show k < 2 ^ 31 by omega)], ⟨_, ⟨M, rfl, by rw [hk1]; exact h00, by rw [hk1, if_pos rfl]; exact hR⟩, by rw [ht]; exact hP⟩, hS.F ht⟩) hS.2.2 dM_length_33
set_option maxHeartbeats 4000000 in
set_option maxRecDepth 100000 in
theorem c_M_byteAt (G : gGeo ad 25 base) (ha : a_ok a) (hR : RepM M a) (d i : Int32) : Met l yM_byteAt (Cond.code yM_byteAt bM_byteAt 3 (some .int) :: tws) { frames := 1, cells := 0, slots := 0, locals := 20 } (gPc (tw D cI cZ cT cJ base) D cl ad 25 base (en ad cI cZ cT cJ pi dr S M o) [.ref (ad 17), .int d, .int i]) (gQc D cl ad 25 base (some (.int (if (c_byteAt a d i) = 0 then (nI (a_b a (ix d) (ix i))) else 0))) (fun e => ∃ M1 : Nat → Nat → Int32, e = en ad cI cZ cT cJ pi dr S M1 o ∧ M1 0 0 = nI (c_byteAt a d i) ∧ RepM M1 (if (c_byteAt a d i) = 0 then a else a))) 0 0 (gA base) := by
  refine Met.ofW (cc := bM_byteAt) (maxL := 3) (ret := (some .int)) (by decide) rfl ?_
  intro p e s m args below meth c s₁ B hml hv
  obtain ⟨rfl, htw, hB, hP⟩ := hv
  have hx := B.exec
  have hb := B.bytes
  have hr := B.returns
  have hts0 := atoms_spec (ws := Cond.code yM_byteAt bM_byteAt 3 (some .int) :: tws) B.pre
  have hts : ∀ w ∈ tws, w.before _ s = true := fun w h => hts0 w (List.mem_cons_of_mem _ h)
  have hown : s.vm.findClass "PairedTextsModel" = some m.cls := findClass_of_methodNamed B.named
  have hlocks := B.notSynchronized
  have hno := B.noHandlers (hts0 _ List.mem_cons_self)
  have F : CallFix p m c bM_byteAt 3 s _ tws "PairedTextsModel" := ⟨hx, hb, hml, hown, hts⟩
  have hK := htw.1
  have hS : va_S (gA base) s.heap s.heap [] := va_S.rf
  have hl := lv_entry ([.ref (ad 17), .int d, .int i]) (n := 3) (Nat.le_of_ble_eq_true rfl)
  rw [lg_entry_eq]
  generalize (lg_sl ([.ref (ad 17), .int d, .int i]) ++ List.replicate (3 - (lg_sl ([.ref (ad 17), .int d, .int i])).length) Slot.unset).toArray = ls at hl ⊢
  have hl : lv_has ls 3 [(0, .ref (ad 17)), (1, .int d), (2, .int i)] := hl
  have z0 : (0 : Int32).toInt = 0 := rfl
  refine lv_aload_n hx hb dM_byteAt_0 rfl (lv_at hl 0 rfl) ?_
  refine lv_iload_n hx hb dM_byteAt_1 rfl (lv_at hl 1 rfl) ?_
  rcases dk_or d with hd | ⟨k, hk, rfl⟩
  · have hk1 : (c_byteAt a d i) = 1 := by simp [c_byteAt, hd.1]
    refine g_S (k := 1) F htw hB hS hP (c_M_isDocument d) k2_238 k2_239 k1_5 k3_0 (by decide +kernel) rfl rfl ⟨Nat.le_of_ble_eq_true rfl, Nat.le_of_ble_eq_true rfl⟩ rfl hl.1 rfl (Nat.le_of_ble_eq_true rfl) dM_byteAt_2 ⟨Nat.le_of_ble_eq_true rfl, Nat.le_of_ble_eq_true rfl⟩ (fun en1 H locs he hP hS => ?_)
    obtain rfl := he
    refine lv_if_ne (tgt := 12) hx hb dM_byteAt_5 (by decide) (fun hc => absurd (show (if dk d then (1 : Int32) else 0) = 0 by rw [hd.1]; rfl) hc) (fun _ => ?_)
    refine lv_iconst (v := 1) hx hb dM_byteAt_8 (by decide) ?_
    refine lv_goto (tgt := 31) hx hb dM_byteAt_9 (by decide) ?_
    refine g_put F hK G hP hS (17) (by decide) rfl rfl iM tM tM_ok nM 0 (by decide) k2_196 rfl (ty := .int) (by decide +kernel) rfl rfl (Nat.le_of_ble_eq_true rfl) dM_byteAt_31 (fun H locs hP hS => ?_)
    have hP := P_of hP (en_m_code _ _ _ _ _ _ _ _ _ _ _)
    obtain ⟨M, hP, hR, h00⟩ : ∃ M1 : Nat → Nat → Int32, va_P D cl (gw ad (en ad cI cZ cT cJ pi dr S M1 o) 25) H ∧ RepM M1 a ∧ M1 0 0 = nI 1 := ⟨_, hP, hR.num (by decide), rfl⟩
    refine lv_aload_n hx hb dM_byteAt_34 rfl (lv_at hl 0 rfl) ?_
    refine g_get F hK hP (17) (by decide) rfl rfl iM 0 (by decide) k2_196 rfl dM_byteAt_35 ?_
    rw [h00]
    refine lv_if_le (tgt := 45) hx hb dM_byteAt_38 (by decide) (fun hc => absurd hc (show ¬ nI 1 ≤ 0 by decide)) (fun _ => ?_)
    refine lv_iconst (v := 0) hx hb dM_byteAt_41 (by decide) ?_
    refine lv_goto (tgt := 57) hx hb dM_byteAt_42 (by decide) ?_
    exact W.iret hx hb hr (fun t ht hW => ⟨by rw [hk1]; rfl, ⟨_, ⟨M, rfl, by rw [hk1]; exact h00, by rw [hk1]; exact hR⟩, by rw [ht]; exact hP⟩, hS.F ht⟩) hS.2.2 dM_byteAt_57
  refine g_S (k := 1) F htw hB hS hP (c_M_isDocument (nI k)) k2_238 k2_239 k1_5 k3_0 (by decide +kernel) rfl rfl ⟨Nat.le_of_ble_eq_true rfl, Nat.le_of_ble_eq_true rfl⟩ rfl hl.1 rfl (Nat.le_of_ble_eq_true rfl) dM_byteAt_2 ⟨Nat.le_of_ble_eq_true rfl, Nat.le_of_ble_eq_true rfl⟩ (fun en1 H locs he hP hS => ?_)
  obtain rfl := he
  refine lv_if_ne (tgt := 12) hx hb dM_byteAt_5 (by decide) (fun _ => ?_) (fun hc => absurd hc (show ¬ (if dk (nI k) then (1 : Int32) else 0) = 0 by rw [dk_nI hk]; decide))
  have hn_k := ha.1 k hk
  refine lv_iload_n hx hb dM_byteAt_12 rfl (lv_at hl 2 rfl) ?_
  have zk := nI_toInt (show a_n a k < 2 ^ 31 by omega)
  rcases in_or i hn_k with hg | ⟨j, hj, rfl⟩
  · have hk1 : (c_byteAt a (nI k) i) = 2 := by simp [c_byteAt, dk_nI hk, ix_nI (show k < 2 ^ 31 by omega), hg.1]
    refine lv_if_lt (tgt := 26) hx hb dM_byteAt_13 (by decide) (fun hc => ?_) (fun hc => ?_)
    · refine lv_iconst (v := 2) hx hb dM_byteAt_26 (by decide) ?_
      refine lv_goto (tgt := 31) hx hb dM_byteAt_27 (by decide) ?_
      refine g_put F hK G hP hS (17) (by decide) rfl rfl iM tM tM_ok nM 0 (by decide) k2_196 rfl (ty := .int) (by decide +kernel) rfl rfl (Nat.le_of_ble_eq_true rfl) dM_byteAt_31 (fun H locs hP hS => ?_)
      have hP := P_of hP (en_m_code _ _ _ _ _ _ _ _ _ _ _)
      obtain ⟨M, hP, hR, h00⟩ : ∃ M1 : Nat → Nat → Int32, va_P D cl (gw ad (en ad cI cZ cT cJ pi dr S M1 o) 25) H ∧ RepM M1 a ∧ M1 0 0 = nI 2 := ⟨_, hP, hR.num (by decide), rfl⟩
      refine lv_aload_n hx hb dM_byteAt_34 rfl (lv_at hl 0 rfl) ?_
      refine g_get F hK hP (17) (by decide) rfl rfl iM 0 (by decide) k2_196 rfl dM_byteAt_35 ?_
      rw [h00]
      refine lv_if_le (tgt := 45) hx hb dM_byteAt_38 (by decide) (fun hc => absurd hc (show ¬ nI 2 ≤ 0 by decide)) (fun _ => ?_)
      refine lv_iconst (v := 0) hx hb dM_byteAt_41 (by decide) ?_
      refine lv_goto (tgt := 57) hx hb dM_byteAt_42 (by decide) ?_
      exact W.iret hx hb hr (fun t ht hW => ⟨by rw [hk1]; rfl, ⟨_, ⟨M, rfl, by rw [hk1]; exact h00, by rw [hk1]; exact hR⟩, by rw [ht]; exact hP⟩, hS.F ht⟩) hS.2.2 dM_byteAt_57
    · simp only [Int32.lt_iff_toInt_lt, Int32.le_iff_toInt_le] at hc
      refine lv_iload_n hx hb dM_byteAt_16 rfl (lv_at hl 2 rfl) ?_
      refine lv_aload_n hx hb dM_byteAt_17 rfl (lv_at hl 0 rfl) ?_
      refine g_get F hK hP (17) (by decide) rfl rfl iM 2 (by decide) k2_198 rfl dM_byteAt_18 ?_
      refine lv_iload_n hx hb dM_byteAt_21 rfl (lv_at hl 1 rfl) ?_
      refine g_iald F hK hP (19) (by decide) 0 rfl rfl (vp_in_nI hk (by omega)) dM_byteAt_22 ?_
      rw [nI_clamp (show k < 2 ^ 31 by omega), hR.1 k hk]
      refine lv_icmp_lt (tgt := 30) hx hb dM_byteAt_23 (by decide) (fun hc => absurd hc (by simp only [Int32.lt_iff_toInt_lt, Int32.le_iff_toInt_le]; omega)) (fun _ => ?_)
      refine lv_iconst (v := 2) hx hb dM_byteAt_26 (by decide) ?_
      refine lv_goto (tgt := 31) hx hb dM_byteAt_27 (by decide) ?_
      refine g_put F hK G hP hS (17) (by decide) rfl rfl iM tM tM_ok nM 0 (by decide) k2_196 rfl (ty := .int) (by decide +kernel) rfl rfl (Nat.le_of_ble_eq_true rfl) dM_byteAt_31 (fun H locs hP hS => ?_)
      have hP := P_of hP (en_m_code _ _ _ _ _ _ _ _ _ _ _)
      obtain ⟨M, hP, hR, h00⟩ : ∃ M1 : Nat → Nat → Int32, va_P D cl (gw ad (en ad cI cZ cT cJ pi dr S M1 o) 25) H ∧ RepM M1 a ∧ M1 0 0 = nI 2 := ⟨_, hP, hR.num (by decide), rfl⟩
      refine lv_aload_n hx hb dM_byteAt_34 rfl (lv_at hl 0 rfl) ?_
      refine g_get F hK hP (17) (by decide) rfl rfl iM 0 (by decide) k2_196 rfl dM_byteAt_35 ?_
      rw [h00]
      refine lv_if_le (tgt := 45) hx hb dM_byteAt_38 (by decide) (fun hc => absurd hc (show ¬ nI 2 ≤ 0 by decide)) (fun _ => ?_)
      refine lv_iconst (v := 0) hx hb dM_byteAt_41 (by decide) ?_
      refine lv_goto (tgt := 57) hx hb dM_byteAt_42 (by decide) ?_
      exact W.iret hx hb hr (fun t ht hW => ⟨by rw [hk1]; rfl, ⟨_, ⟨M, rfl, by rw [hk1]; exact h00, by rw [hk1]; exact hR⟩, by rw [ht]; exact hP⟩, hS.F ht⟩) hS.2.2 dM_byteAt_57
  have zj := nI_toInt (show j < 2 ^ 31 by omega)
  have hk1 : (c_byteAt a (nI k) (nI j)) = 0 := by simp [c_byteAt, dk_nI hk, ix_nI (show k < 2 ^ 31 by omega), in_nI hj hn_k, ix_nI (show j < 2 ^ 31 by omega)]
  refine lv_if_lt (tgt := 26) hx hb dM_byteAt_13 (by decide) (fun hc => absurd hc (by simp only [Int32.lt_iff_toInt_lt, Int32.le_iff_toInt_le]; omega)) (fun _ => ?_)
  refine lv_iload_n hx hb dM_byteAt_16 rfl (lv_at hl 2 rfl) ?_
  refine lv_aload_n hx hb dM_byteAt_17 rfl (lv_at hl 0 rfl) ?_
  refine g_get F hK hP (17) (by decide) rfl rfl iM 2 (by decide) k2_198 rfl dM_byteAt_18 ?_
  refine lv_iload_n hx hb dM_byteAt_21 rfl (lv_at hl 1 rfl) ?_
  refine g_iald F hK hP (19) (by decide) 0 rfl rfl (vp_in_nI hk (by omega)) dM_byteAt_22 ?_
  rw [nI_clamp (show k < 2 ^ 31 by omega), hR.1 k hk]
  refine lv_icmp_lt (tgt := 30) hx hb dM_byteAt_23 (by decide) (fun _ => ?_) (fun hc => absurd (by simp only [Int32.lt_iff_toInt_lt, Int32.le_iff_toInt_le]; omega) hc)
  refine lv_iconst (v := 0) hx hb dM_byteAt_30 (by decide) ?_
  refine g_put F hK G hP hS (17) (by decide) rfl rfl iM tM tM_ok nM 0 (by decide) k2_196 rfl (ty := .int) (by decide +kernel) rfl rfl (Nat.le_of_ble_eq_true rfl) dM_byteAt_31 (fun H locs hP hS => ?_)
  have hP := P_of hP (en_m_code _ _ _ _ _ _ _ _ _ _ _)
  obtain ⟨M, hP, hR, h00⟩ : ∃ M1 : Nat → Nat → Int32, va_P D cl (gw ad (en ad cI cZ cT cJ pi dr S M1 o) 25) H ∧ RepM M1 a ∧ M1 0 0 = nI 0 := ⟨_, hP, hR.num (by decide), rfl⟩
  refine lv_aload_n hx hb dM_byteAt_34 rfl (lv_at hl 0 rfl) ?_
  refine g_get F hK hP (17) (by decide) rfl rfl iM 0 (by decide) k2_196 rfl dM_byteAt_35 ?_
  rw [h00]
  refine lv_if_le (tgt := 45) hx hb dM_byteAt_38 (by decide) (fun _ => ?_) (fun hc => absurd (show  nI 0 ≤ 0 by decide) hc)
  refine lv_aload_n hx hb dM_byteAt_45 rfl (lv_at hl 0 rfl) ?_
  refine g_get F hK hP (17) (by decide) rfl rfl iM 1 (by decide) k2_197 rfl dM_byteAt_46 ?_
  refine lv_sipush (v := 1000) hx hb dM_byteAt_49 (by decide) ?_
  refine lv_iload_n hx hb dM_byteAt_52 rfl (lv_at hl 1 rfl) ?_
  refine lv_imul hx hb dM_byteAt_53 ?_
  refine lv_iload_n hx hb dM_byteAt_54 rfl (lv_at hl 2 rfl) ?_
  refine lv_iadd hx hb dM_byteAt_55 ?_
  rw [k_at]
  refine g_iald F hK hP (18) (by decide) 0 rfl rfl (vp_in_nI (show 1000 * k + j < 4000 by omega) (by omega)) dM_byteAt_56 ?_
  rw [nI_clamp (show 1000 * k + j < 2 ^ 31 by omega), hR.2.1 k j hk hj]
  exact W.iret hx hb hr (fun t ht hW => ⟨by rw [hk1, if_pos rfl]; simp [dk_nI hk, ix_nI (show k < 2 ^ 31 by omega), in_nI hj hn_k, ix_nI (show j < 2 ^ 31 by omega)], ⟨_, ⟨M, rfl, by rw [hk1]; exact h00, by rw [hk1, if_pos rfl]; exact hR⟩, by rw [ht]; exact hP⟩, hS.F ht⟩) hS.2.2 dM_byteAt_57
set_option maxHeartbeats 4000000 in
set_option maxRecDepth 100000 in
theorem c_M_copy (G : gGeo ad 25 base) (ha : a_ok a) (hR : RepM M a) (d f t d2 : Int32) : Met l yM_copy (Cond.code yM_copy bM_copy 5 (some .int) :: tws) { frames := 1, cells := 0, slots := 0, locals := 24 } (gPc (tw D cI cZ cT cJ base) D cl ad 25 base (en ad cI cZ cT cJ pi dr S M o) [.ref (ad 17), .int d, .int f, .int t, .int d2]) (gQc D cl ad 25 base (some (.int (if (c_copy a d f t d2) = 0 then (nI (ix t - ix f)) else 0))) (fun e => ∃ M1 : Nat → Nat → Int32, e = en ad cI cZ cT cJ pi dr S M1 o ∧ M1 0 0 = nI (c_copy a d f t d2) ∧ RepM M1 (if (c_copy a d f t d2) = 0 then x_copy a d f t d2 else a))) 0 0 (gA base) := by
  refine Met.ofW (cc := bM_copy) (maxL := 5) (ret := (some .int)) (by decide) rfl ?_
  intro p e s m args below meth c s₁ B hml hv
  obtain ⟨rfl, htw, hB, hP⟩ := hv
  have hx := B.exec
  have hb := B.bytes
  have hr := B.returns
  have hts0 := atoms_spec (ws := Cond.code yM_copy bM_copy 5 (some .int) :: tws) B.pre
  have hts : ∀ w ∈ tws, w.before _ s = true := fun w h => hts0 w (List.mem_cons_of_mem _ h)
  have hown : s.vm.findClass "PairedTextsModel" = some m.cls := findClass_of_methodNamed B.named
  have hlocks := B.notSynchronized
  have hno := B.noHandlers (hts0 _ List.mem_cons_self)
  have F : CallFix p m c bM_copy 5 s _ tws "PairedTextsModel" := ⟨hx, hb, hml, hown, hts⟩
  have hK := htw.1
  have hS : va_S (gA base) s.heap s.heap [] := va_S.rf
  have hl := lv_entry ([.ref (ad 17), .int d, .int f, .int t, .int d2]) (n := 5) (Nat.le_of_ble_eq_true rfl)
  rw [lg_entry_eq]
  generalize (lg_sl ([.ref (ad 17), .int d, .int f, .int t, .int d2]) ++ List.replicate (5 - (lg_sl ([.ref (ad 17), .int d, .int f, .int t, .int d2])).length) Slot.unset).toArray = ls at hl ⊢
  have hl : lv_has ls 5 [(0, .ref (ad 17)), (1, .int d), (2, .int f), (3, .int t), (4, .int d2)] := hl
  have z0 : (0 : Int32).toInt = 0 := rfl
  refine lv_aload_n hx hb dM_copy_0 rfl (lv_at hl 0 rfl) ?_
  refine lv_iload_n hx hb dM_copy_1 rfl (lv_at hl 1 rfl) ?_
  rcases dk_or d with hd | ⟨k, hk, rfl⟩
  · have hk1 : (c_copy a d f t d2) = 1 := by simp [c_copy, hd.1]
    refine g_S (k := 1) F htw hB hS hP (c_M_isDocument d) k2_238 k2_239 k1_5 k3_0 (by decide +kernel) rfl rfl ⟨Nat.le_of_ble_eq_true rfl, Nat.le_of_ble_eq_true rfl⟩ rfl hl.1 rfl (Nat.le_of_ble_eq_true rfl) dM_copy_2 ⟨Nat.le_of_ble_eq_true rfl, Nat.le_of_ble_eq_true rfl⟩ (fun en1 H locs he hP hS => ?_)
    obtain rfl := he
    refine lv_if_eq (tgt := 16) hx hb dM_copy_5 (by decide) (fun _ => ?_) (fun hc => absurd (show (if dk d then (1 : Int32) else 0) = 0 by rw [hd.1]; rfl) hc)
    refine lv_iconst (v := 1) hx hb dM_copy_16 (by decide) ?_
    refine lv_goto (tgt := 35) hx hb dM_copy_17 (by decide) ?_
    refine g_put F hK G hP hS (17) (by decide) rfl rfl iM tM tM_ok nM 0 (by decide) k2_196 rfl (ty := .int) (by decide +kernel) rfl rfl (Nat.le_of_ble_eq_true rfl) dM_copy_35 (fun H locs hP hS => ?_)
    have hP := P_of hP (en_m_code _ _ _ _ _ _ _ _ _ _ _)
    obtain ⟨M, hP, hR, h00⟩ : ∃ M1 : Nat → Nat → Int32, va_P D cl (gw ad (en ad cI cZ cT cJ pi dr S M1 o) 25) H ∧ RepM M1 a ∧ M1 0 0 = nI 1 := ⟨_, hP, hR.num (by decide), rfl⟩
    refine lv_aload_n hx hb dM_copy_38 rfl (lv_at hl 0 rfl) ?_
    refine g_get F hK hP (17) (by decide) rfl rfl iM 0 (by decide) k2_196 rfl dM_copy_39 ?_
    rw [h00]
    refine lv_if_le (tgt := 47) hx hb dM_copy_42 (by decide) (fun hc => absurd hc (show ¬ nI 1 ≤ 0 by decide)) (fun _ => ?_)
    refine lv_iconst (v := 0) hx hb dM_copy_45 (by decide) ?_
    exact W.iret hx hb hr (fun t ht hW => ⟨by rw [hk1]; rfl, ⟨_, ⟨M, rfl, by rw [hk1]; exact h00, by rw [hk1]; exact hR⟩, by rw [ht]; exact hP⟩, hS.F ht⟩) hS.2.2 dM_copy_46
  refine g_S (k := 1) F htw hB hS hP (c_M_isDocument (nI k)) k2_238 k2_239 k1_5 k3_0 (by decide +kernel) rfl rfl ⟨Nat.le_of_ble_eq_true rfl, Nat.le_of_ble_eq_true rfl⟩ rfl hl.1 rfl (Nat.le_of_ble_eq_true rfl) dM_copy_2 ⟨Nat.le_of_ble_eq_true rfl, Nat.le_of_ble_eq_true rfl⟩ (fun en1 H locs he hP hS => ?_)
  obtain rfl := he
  refine lv_if_eq (tgt := 16) hx hb dM_copy_5 (by decide) (fun hc => absurd hc (show ¬ (if dk (nI k) then (1 : Int32) else 0) = 0 by rw [dk_nI hk]; decide)) (fun _ => ?_)
  have hn_k := ha.1 k hk
  refine lv_iload hx hb dM_copy_8 (lv_at hl 4 rfl) ?_
  rcases dk_or d2 with hd | ⟨g, hg, rfl⟩
  · have hk1 : (c_copy a (nI k) f t d2) = 1 := by simp [c_copy, dk_nI hk, ix_nI (show k < 2 ^ 31 by omega), hd.1]
    refine g_S (k := 1) F htw hB hS hP (c_M_isDocument d2) k2_238 k2_239 k1_5 k3_0 (by decide +kernel) rfl rfl ⟨Nat.le_of_ble_eq_true rfl, Nat.le_of_ble_eq_true rfl⟩ rfl hl.1 rfl (Nat.le_of_ble_eq_true rfl) dM_copy_10 ⟨Nat.le_of_ble_eq_true rfl, Nat.le_of_ble_eq_true rfl⟩ (fun en1 H locs he hP hS => ?_)
    obtain rfl := he
    refine lv_if_ne (tgt := 20) hx hb dM_copy_13 (by decide) (fun hc => absurd (show (if dk d2 then (1 : Int32) else 0) = 0 by rw [hd.1]; rfl) hc) (fun _ => ?_)
    refine lv_iconst (v := 1) hx hb dM_copy_16 (by decide) ?_
    refine lv_goto (tgt := 35) hx hb dM_copy_17 (by decide) ?_
    refine g_put F hK G hP hS (17) (by decide) rfl rfl iM tM tM_ok nM 0 (by decide) k2_196 rfl (ty := .int) (by decide +kernel) rfl rfl (Nat.le_of_ble_eq_true rfl) dM_copy_35 (fun H locs hP hS => ?_)
    have hP := P_of hP (en_m_code _ _ _ _ _ _ _ _ _ _ _)
    obtain ⟨M, hP, hR, h00⟩ : ∃ M1 : Nat → Nat → Int32, va_P D cl (gw ad (en ad cI cZ cT cJ pi dr S M1 o) 25) H ∧ RepM M1 a ∧ M1 0 0 = nI 1 := ⟨_, hP, hR.num (by decide), rfl⟩
    refine lv_aload_n hx hb dM_copy_38 rfl (lv_at hl 0 rfl) ?_
    refine g_get F hK hP (17) (by decide) rfl rfl iM 0 (by decide) k2_196 rfl dM_copy_39 ?_
    rw [h00]
    refine lv_if_le (tgt := 47) hx hb dM_copy_42 (by decide) (fun hc => absurd hc (show ¬ nI 1 ≤ 0 by decide)) (fun _ => ?_)
    refine lv_iconst (v := 0) hx hb dM_copy_45 (by decide) ?_
    exact W.iret hx hb hr (fun t ht hW => ⟨by rw [hk1]; rfl, ⟨_, ⟨M, rfl, by rw [hk1]; exact h00, by rw [hk1]; exact hR⟩, by rw [ht]; exact hP⟩, hS.F ht⟩) hS.2.2 dM_copy_46
  refine g_S (k := 1) F htw hB hS hP (c_M_isDocument (nI g)) k2_238 k2_239 k1_5 k3_0 (by decide +kernel) rfl rfl ⟨Nat.le_of_ble_eq_true rfl, Nat.le_of_ble_eq_true rfl⟩ rfl hl.1 rfl (Nat.le_of_ble_eq_true rfl) dM_copy_10 ⟨Nat.le_of_ble_eq_true rfl, Nat.le_of_ble_eq_true rfl⟩ (fun en1 H locs he hP hS => ?_)
  obtain rfl := he
  refine lv_if_ne (tgt := 20) hx hb dM_copy_13 (by decide) (fun _ => ?_) (fun hc => absurd hc (show ¬ (if dk (nI g) then (1 : Int32) else 0) = 0 by rw [dk_nI hg]; decide))
  have hn_g := ha.1 g hg
  refine lv_aload_n hx hb dM_copy_20 rfl (lv_at hl 0 rfl) ?_
  refine lv_iload_n hx hb dM_copy_21 rfl (lv_at hl 1 rfl) ?_
  refine lv_iload_n hx hb dM_copy_22 rfl (lv_at hl 2 rfl) ?_
  refine lv_iload_n hx hb dM_copy_23 rfl (lv_at hl 3 rfl) ?_
  rcases rg_or f t hn_k with hgr | ⟨f1, t1, hft, htn, rfl, rfl⟩
  · have hk1 : (c_copy a (nI k) f t (nI g)) = 2 := by simp [c_copy, dk_nI hk, ix_nI (show k < 2 ^ 31 by omega), dk_nI hg, ix_nI (show g < 2 ^ 31 by omega), hgr]
    refine g_V (k := 3) F htw hB hS hP (17) (by decide) rfl rfl (c_M_isRange hk hn_k (hR.1 k hk) f t) k3_14 k3_16 k0_4 k1_5 k3_17 (by decide +kernel) rfl rfl ⟨Nat.le_of_ble_eq_true rfl, Nat.le_of_ble_eq_true rfl⟩ rfl hl.1 rfl (Nat.le_of_ble_eq_true rfl) dM_copy_24 ⟨Nat.le_of_ble_eq_true rfl, Nat.le_of_ble_eq_true rfl⟩ (fun en1 H locs he hP hS => ?_)
    obtain rfl := he
    refine lv_if_ne (tgt := 34) hx hb dM_copy_27 (by decide) (fun hc => absurd (show (if rg f t (a_n a k) then (1 : Int32) else 0) = 0 by rw [hgr]; rfl) hc) (fun _ => ?_)
    refine lv_iconst (v := 2) hx hb dM_copy_30 (by decide) ?_
    refine lv_goto (tgt := 35) hx hb dM_copy_31 (by decide) ?_
    refine g_put F hK G hP hS (17) (by decide) rfl rfl iM tM tM_ok nM 0 (by decide) k2_196 rfl (ty := .int) (by decide +kernel) rfl rfl (Nat.le_of_ble_eq_true rfl) dM_copy_35 (fun H locs hP hS => ?_)
    have hP := P_of hP (en_m_code _ _ _ _ _ _ _ _ _ _ _)
    obtain ⟨M, hP, hR, h00⟩ : ∃ M1 : Nat → Nat → Int32, va_P D cl (gw ad (en ad cI cZ cT cJ pi dr S M1 o) 25) H ∧ RepM M1 a ∧ M1 0 0 = nI 2 := ⟨_, hP, hR.num (by decide), rfl⟩
    refine lv_aload_n hx hb dM_copy_38 rfl (lv_at hl 0 rfl) ?_
    refine g_get F hK hP (17) (by decide) rfl rfl iM 0 (by decide) k2_196 rfl dM_copy_39 ?_
    rw [h00]
    refine lv_if_le (tgt := 47) hx hb dM_copy_42 (by decide) (fun hc => absurd hc (show ¬ nI 2 ≤ 0 by decide)) (fun _ => ?_)
    refine lv_iconst (v := 0) hx hb dM_copy_45 (by decide) ?_
    exact W.iret hx hb hr (fun t ht hW => ⟨by rw [hk1]; rfl, ⟨_, ⟨M, rfl, by rw [hk1]; exact h00, by rw [hk1]; exact hR⟩, by rw [ht]; exact hP⟩, hS.F ht⟩) hS.2.2 dM_copy_46
  refine g_V (k := 3) F htw hB hS hP (17) (by decide) rfl rfl (c_M_isRange hk hn_k (hR.1 k hk) (nI f1) (nI t1)) k3_14 k3_16 k0_4 k1_5 k3_17 (by decide +kernel) rfl rfl ⟨Nat.le_of_ble_eq_true rfl, Nat.le_of_ble_eq_true rfl⟩ rfl hl.1 rfl (Nat.le_of_ble_eq_true rfl) dM_copy_24 ⟨Nat.le_of_ble_eq_true rfl, Nat.le_of_ble_eq_true rfl⟩ (fun en1 H locs he hP hS => ?_)
  obtain rfl := he
  refine lv_if_ne (tgt := 34) hx hb dM_copy_27 (by decide) (fun _ => ?_) (fun hc => absurd hc (show ¬ (if rg (nI f1) (nI t1) (a_n a k) then (1 : Int32) else 0) = 0 by rw [rg_nI hft htn hn_k]; decide))
  have hk1 : (c_copy a (nI k) (nI f1) (nI t1) (nI g)) = 0 := by simp [c_copy, dk_nI hk, ix_nI (show k < 2 ^ 31 by omega), dk_nI hg, ix_nI (show g < 2 ^ 31 by omega), rg_nI hft htn hn_k, ix_nI (show f1 < 2 ^ 31 by omega), ix_nI (show t1 < 2 ^ 31 by omega)]
  refine lv_iconst (v := 0) hx hb dM_copy_34 (by decide) ?_
  refine g_put F hK G hP hS (17) (by decide) rfl rfl iM tM tM_ok nM 0 (by decide) k2_196 rfl (ty := .int) (by decide +kernel) rfl rfl (Nat.le_of_ble_eq_true rfl) dM_copy_35 (fun H locs hP hS => ?_)
  have hP := P_of hP (en_m_code _ _ _ _ _ _ _ _ _ _ _)
  obtain ⟨M, hP, hR, h00⟩ : ∃ M1 : Nat → Nat → Int32, va_P D cl (gw ad (en ad cI cZ cT cJ pi dr S M1 o) 25) H ∧ RepM M1 a ∧ M1 0 0 = nI 0 := ⟨_, hP, hR.num (by decide), rfl⟩
  refine lv_aload_n hx hb dM_copy_38 rfl (lv_at hl 0 rfl) ?_
  refine g_get F hK hP (17) (by decide) rfl rfl iM 0 (by decide) k2_196 rfl dM_copy_39 ?_
  rw [h00]
  refine lv_if_le (tgt := 47) hx hb dM_copy_42 (by decide) (fun _ => ?_) (fun hc => absurd (show  nI 0 ≤ 0 by decide) hc)
  refine lv_aload_n hx hb dM_copy_47 rfl (lv_at hl 0 rfl) ?_
  refine lv_iconst (v := 0) hx hb dM_copy_48 (by decide) ?_
  refine g_put F hK G hP hS (17) (by decide) rfl rfl iM tM tM_ok nM 4 (by decide) k2_200 rfl (ty := .int) (by decide +kernel) rfl rfl (Nat.le_of_ble_eq_true rfl) dM_copy_49 (fun H locs hP hS => ?_)
  have hP := P_of hP (en_m_drafted _ _ _ _ _ _ _ _ _ _ _)
  obtain ⟨M, hP, hR, h00, hD⟩ : ∃ M1 : Nat → Nat → Int32, va_P D cl (gw ad (en ad cI cZ cT cJ pi dr S M1 o) 25) H ∧ RepM M1 a ∧ M1 0 0 = nI 0 ∧ RepDM M1 0 (fun _ => 0) := ⟨_, hP, hR.num (by decide), h00, rfl, fun i hi => absurd hi (Nat.not_lt_zero _)⟩
  refine lv_aload_n hx hb dM_copy_52 rfl (lv_at hl 0 rfl) ?_
  refine lv_iload_n hx hb dM_copy_53 rfl (lv_at hl 1 rfl) ?_
  refine lv_iload_n hx hb dM_copy_54 rfl (lv_at hl 2 rfl) ?_
  refine lv_iload_n hx hb dM_copy_55 rfl (lv_at hl 3 rfl) ?_
  refine g_V (k := 3) F htw hB hS hP (17) (by decide) rfl rfl (c_M_add G ha hR h00 hD hk (by omega) (by omega) (by omega)) k3_18 k3_20 k0_5 k1_5 k3_21 (by decide +kernel) rfl rfl ⟨Nat.le_of_ble_eq_true rfl, Nat.le_of_ble_eq_true rfl⟩ rfl hl.1 rfl (Nat.le_of_ble_eq_true rfl) dM_copy_56 ⟨Nat.le_of_ble_eq_true rfl, Nat.le_of_ble_eq_true rfl⟩ (fun en1 H locs he hP hS => ?_)
  obtain ⟨M, rfl, h00, hR, hD⟩ := he
  refine lv_aload_n hx hb dM_copy_59 rfl (lv_at hl 0 rfl) ?_
  refine lv_iload hx hb dM_copy_60 (lv_at hl 4 rfl) ?_
  refine g_V (k := 1) F htw hB hS hP (17) (by decide) rfl rfl (c_M_become G ha hR h00 hD hg (by omega)) k3_22 k3_24 k0_6 k1_5 k3_25 (by decide +kernel) rfl rfl ⟨Nat.le_of_ble_eq_true rfl, Nat.le_of_ble_eq_true rfl⟩ rfl hl.1 rfl (Nat.le_of_ble_eq_true rfl) dM_copy_62 ⟨Nat.le_of_ble_eq_true rfl, Nat.le_of_ble_eq_true rfl⟩ (fun en1 H locs he hP hS => ?_)
  obtain ⟨M, rfl, h00, hR⟩ := he
  have hR := hR.to (k' := t1 - f1) (g' := fun i => a_b a k (f1 + i)) (by omega) (fun i _ => by simp [cat])
  rw [Nat.zero_add]
  exact W.iret hx hb hr (fun t ht hW => ⟨by rw [hk1, if_pos rfl]; simp [dk_nI hk, ix_nI (show k < 2 ^ 31 by omega), dk_nI hg, ix_nI (show g < 2 ^ 31 by omega), rg_nI hft htn hn_k, ix_nI (show f1 < 2 ^ 31 by omega), ix_nI (show t1 < 2 ^ 31 by omega)], ⟨_, ⟨M, rfl, by rw [hk1]; exact h00, by rw [hk1, if_pos rfl]; exact (by simpa [x_copy, dk_nI hk, ix_nI (show k < 2 ^ 31 by omega), dk_nI hg, ix_nI (show g < 2 ^ 31 by omega), rg_nI hft htn hn_k, ix_nI (show f1 < 2 ^ 31 by omega), ix_nI (show t1 < 2 ^ 31 by omega)] using hR)⟩, by rw [ht]; exact hP⟩, hS.F ht⟩) hS.2.2 dM_copy_65
set_option maxHeartbeats 4000000 in
set_option maxRecDepth 100000 in
theorem c_M_join (G : gGeo ad 25 base) (ha : a_ok a) (hR : RepM M a) (d d2 d3 : Int32) : Met l yM_join (Cond.code yM_join bM_join 4 (some .int) :: tws) { frames := 1, cells := 0, slots := 0, locals := 24 } (gPc (tw D cI cZ cT cJ base) D cl ad 25 base (en ad cI cZ cT cJ pi dr S M o) [.ref (ad 17), .int d, .int d2, .int d3]) (gQc D cl ad 25 base (some (.int (if (c_join a d d2 d3) = 0 then (nI (a_n a (ix d) + a_n a (ix d2))) else 0))) (fun e => ∃ M1 : Nat → Nat → Int32, e = en ad cI cZ cT cJ pi dr S M1 o ∧ M1 0 0 = nI (c_join a d d2 d3) ∧ RepM M1 (if (c_join a d d2 d3) = 0 then x_join a d d2 d3 else a))) 0 0 (gA base) := by
  refine Met.ofW (cc := bM_join) (maxL := 4) (ret := (some .int)) (by decide) rfl ?_
  intro p e s m args below meth c s₁ B hml hv
  obtain ⟨rfl, htw, hB, hP⟩ := hv
  have hx := B.exec
  have hb := B.bytes
  have hr := B.returns
  have hts0 := atoms_spec (ws := Cond.code yM_join bM_join 4 (some .int) :: tws) B.pre
  have hts : ∀ w ∈ tws, w.before _ s = true := fun w h => hts0 w (List.mem_cons_of_mem _ h)
  have hown : s.vm.findClass "PairedTextsModel" = some m.cls := findClass_of_methodNamed B.named
  have hlocks := B.notSynchronized
  have hno := B.noHandlers (hts0 _ List.mem_cons_self)
  have F : CallFix p m c bM_join 4 s _ tws "PairedTextsModel" := ⟨hx, hb, hml, hown, hts⟩
  have hK := htw.1
  have hS : va_S (gA base) s.heap s.heap [] := va_S.rf
  have hl := lv_entry ([.ref (ad 17), .int d, .int d2, .int d3]) (n := 4) (Nat.le_of_ble_eq_true rfl)
  rw [lg_entry_eq]
  generalize (lg_sl ([.ref (ad 17), .int d, .int d2, .int d3]) ++ List.replicate (4 - (lg_sl ([.ref (ad 17), .int d, .int d2, .int d3])).length) Slot.unset).toArray = ls at hl ⊢
  have hl : lv_has ls 4 [(0, .ref (ad 17)), (1, .int d), (2, .int d2), (3, .int d3)] := hl
  have z0 : (0 : Int32).toInt = 0 := rfl
  refine lv_aload_n hx hb dM_join_0 rfl (lv_at hl 0 rfl) ?_
  refine lv_iload_n hx hb dM_join_1 rfl (lv_at hl 1 rfl) ?_
  rcases dk_or d with hd | ⟨k, hk, rfl⟩
  · have hk1 : (c_join a d d2 d3) = 1 := by simp [c_join, hd.1]
    refine g_S (k := 1) F htw hB hS hP (c_M_isDocument d) k2_238 k2_239 k1_5 k3_0 (by decide +kernel) rfl rfl ⟨Nat.le_of_ble_eq_true rfl, Nat.le_of_ble_eq_true rfl⟩ rfl hl.1 rfl (Nat.le_of_ble_eq_true rfl) dM_join_2 ⟨Nat.le_of_ble_eq_true rfl, Nat.le_of_ble_eq_true rfl⟩ (fun en1 H locs he hP hS => ?_)
    obtain rfl := he
    refine lv_if_eq (tgt := 22) hx hb dM_join_5 (by decide) (fun _ => ?_) (fun hc => absurd (show (if dk d then (1 : Int32) else 0) = 0 by rw [hd.1]; rfl) hc)
    refine lv_iconst (v := 1) hx hb dM_join_22 (by decide) ?_
    refine lv_goto (tgt := 50) hx hb dM_join_23 (by decide) ?_
    refine g_put F hK G hP hS (17) (by decide) rfl rfl iM tM tM_ok nM 0 (by decide) k2_196 rfl (ty := .int) (by decide +kernel) rfl rfl (Nat.le_of_ble_eq_true rfl) dM_join_50 (fun H locs hP hS => ?_)
    have hP := P_of hP (en_m_code _ _ _ _ _ _ _ _ _ _ _)
    obtain ⟨M, hP, hR, h00⟩ : ∃ M1 : Nat → Nat → Int32, va_P D cl (gw ad (en ad cI cZ cT cJ pi dr S M1 o) 25) H ∧ RepM M1 a ∧ M1 0 0 = nI 1 := ⟨_, hP, hR.num (by decide), rfl⟩
    refine lv_aload_n hx hb dM_join_53 rfl (lv_at hl 0 rfl) ?_
    refine g_get F hK hP (17) (by decide) rfl rfl iM 0 (by decide) k2_196 rfl dM_join_54 ?_
    rw [h00]
    refine lv_if_le (tgt := 62) hx hb dM_join_57 (by decide) (fun hc => absurd hc (show ¬ nI 1 ≤ 0 by decide)) (fun _ => ?_)
    refine lv_iconst (v := 0) hx hb dM_join_60 (by decide) ?_
    exact W.iret hx hb hr (fun t ht hW => ⟨by rw [hk1]; rfl, ⟨_, ⟨M, rfl, by rw [hk1]; exact h00, by rw [hk1]; exact hR⟩, by rw [ht]; exact hP⟩, hS.F ht⟩) hS.2.2 dM_join_61
  refine g_S (k := 1) F htw hB hS hP (c_M_isDocument (nI k)) k2_238 k2_239 k1_5 k3_0 (by decide +kernel) rfl rfl ⟨Nat.le_of_ble_eq_true rfl, Nat.le_of_ble_eq_true rfl⟩ rfl hl.1 rfl (Nat.le_of_ble_eq_true rfl) dM_join_2 ⟨Nat.le_of_ble_eq_true rfl, Nat.le_of_ble_eq_true rfl⟩ (fun en1 H locs he hP hS => ?_)
  obtain rfl := he
  refine lv_if_eq (tgt := 22) hx hb dM_join_5 (by decide) (fun hc => absurd hc (show ¬ (if dk (nI k) then (1 : Int32) else 0) = 0 by rw [dk_nI hk]; decide)) (fun _ => ?_)
  have hn_k := ha.1 k hk
  refine lv_iload_n hx hb dM_join_8 rfl (lv_at hl 2 rfl) ?_
  rcases dk_or d2 with hd | ⟨j, hj, rfl⟩
  · have hk1 : (c_join a (nI k) d2 d3) = 1 := by simp [c_join, dk_nI hk, ix_nI (show k < 2 ^ 31 by omega), hd.1]
    refine g_S (k := 1) F htw hB hS hP (c_M_isDocument d2) k2_238 k2_239 k1_5 k3_0 (by decide +kernel) rfl rfl ⟨Nat.le_of_ble_eq_true rfl, Nat.le_of_ble_eq_true rfl⟩ rfl hl.1 rfl (Nat.le_of_ble_eq_true rfl) dM_join_9 ⟨Nat.le_of_ble_eq_true rfl, Nat.le_of_ble_eq_true rfl⟩ (fun en1 H locs he hP hS => ?_)
    obtain rfl := he
    refine lv_if_eq (tgt := 22) hx hb dM_join_12 (by decide) (fun _ => ?_) (fun hc => absurd (show (if dk d2 then (1 : Int32) else 0) = 0 by rw [hd.1]; rfl) hc)
    refine lv_iconst (v := 1) hx hb dM_join_22 (by decide) ?_
    refine lv_goto (tgt := 50) hx hb dM_join_23 (by decide) ?_
    refine g_put F hK G hP hS (17) (by decide) rfl rfl iM tM tM_ok nM 0 (by decide) k2_196 rfl (ty := .int) (by decide +kernel) rfl rfl (Nat.le_of_ble_eq_true rfl) dM_join_50 (fun H locs hP hS => ?_)
    have hP := P_of hP (en_m_code _ _ _ _ _ _ _ _ _ _ _)
    obtain ⟨M, hP, hR, h00⟩ : ∃ M1 : Nat → Nat → Int32, va_P D cl (gw ad (en ad cI cZ cT cJ pi dr S M1 o) 25) H ∧ RepM M1 a ∧ M1 0 0 = nI 1 := ⟨_, hP, hR.num (by decide), rfl⟩
    refine lv_aload_n hx hb dM_join_53 rfl (lv_at hl 0 rfl) ?_
    refine g_get F hK hP (17) (by decide) rfl rfl iM 0 (by decide) k2_196 rfl dM_join_54 ?_
    rw [h00]
    refine lv_if_le (tgt := 62) hx hb dM_join_57 (by decide) (fun hc => absurd hc (show ¬ nI 1 ≤ 0 by decide)) (fun _ => ?_)
    refine lv_iconst (v := 0) hx hb dM_join_60 (by decide) ?_
    exact W.iret hx hb hr (fun t ht hW => ⟨by rw [hk1]; rfl, ⟨_, ⟨M, rfl, by rw [hk1]; exact h00, by rw [hk1]; exact hR⟩, by rw [ht]; exact hP⟩, hS.F ht⟩) hS.2.2 dM_join_61
  refine g_S (k := 1) F htw hB hS hP (c_M_isDocument (nI j)) k2_238 k2_239 k1_5 k3_0 (by decide +kernel) rfl rfl ⟨Nat.le_of_ble_eq_true rfl, Nat.le_of_ble_eq_true rfl⟩ rfl hl.1 rfl (Nat.le_of_ble_eq_true rfl) dM_join_9 ⟨Nat.le_of_ble_eq_true rfl, Nat.le_of_ble_eq_true rfl⟩ (fun en1 H locs he hP hS => ?_)
  obtain rfl := he
  refine lv_if_eq (tgt := 22) hx hb dM_join_12 (by decide) (fun hc => absurd hc (show ¬ (if dk (nI j) then (1 : Int32) else 0) = 0 by rw [dk_nI hj]; decide)) (fun _ => ?_)
  have hn_j := ha.1 j hj
  refine lv_iload_n hx hb dM_join_15 rfl (lv_at hl 3 rfl) ?_
  rcases dk_or d3 with hd | ⟨i, hi, rfl⟩
  · have hk1 : (c_join a (nI k) (nI j) d3) = 1 := by simp [c_join, dk_nI hk, ix_nI (show k < 2 ^ 31 by omega), dk_nI hj, ix_nI (show j < 2 ^ 31 by omega), hd.1]
    refine g_S (k := 1) F htw hB hS hP (c_M_isDocument d3) k2_238 k2_239 k1_5 k3_0 (by decide +kernel) rfl rfl ⟨Nat.le_of_ble_eq_true rfl, Nat.le_of_ble_eq_true rfl⟩ rfl hl.1 rfl (Nat.le_of_ble_eq_true rfl) dM_join_16 ⟨Nat.le_of_ble_eq_true rfl, Nat.le_of_ble_eq_true rfl⟩ (fun en1 H locs he hP hS => ?_)
    obtain rfl := he
    refine lv_if_ne (tgt := 26) hx hb dM_join_19 (by decide) (fun hc => absurd (show (if dk d3 then (1 : Int32) else 0) = 0 by rw [hd.1]; rfl) hc) (fun _ => ?_)
    refine lv_iconst (v := 1) hx hb dM_join_22 (by decide) ?_
    refine lv_goto (tgt := 50) hx hb dM_join_23 (by decide) ?_
    refine g_put F hK G hP hS (17) (by decide) rfl rfl iM tM tM_ok nM 0 (by decide) k2_196 rfl (ty := .int) (by decide +kernel) rfl rfl (Nat.le_of_ble_eq_true rfl) dM_join_50 (fun H locs hP hS => ?_)
    have hP := P_of hP (en_m_code _ _ _ _ _ _ _ _ _ _ _)
    obtain ⟨M, hP, hR, h00⟩ : ∃ M1 : Nat → Nat → Int32, va_P D cl (gw ad (en ad cI cZ cT cJ pi dr S M1 o) 25) H ∧ RepM M1 a ∧ M1 0 0 = nI 1 := ⟨_, hP, hR.num (by decide), rfl⟩
    refine lv_aload_n hx hb dM_join_53 rfl (lv_at hl 0 rfl) ?_
    refine g_get F hK hP (17) (by decide) rfl rfl iM 0 (by decide) k2_196 rfl dM_join_54 ?_
    rw [h00]
    refine lv_if_le (tgt := 62) hx hb dM_join_57 (by decide) (fun hc => absurd hc (show ¬ nI 1 ≤ 0 by decide)) (fun _ => ?_)
    refine lv_iconst (v := 0) hx hb dM_join_60 (by decide) ?_
    exact W.iret hx hb hr (fun t ht hW => ⟨by rw [hk1]; rfl, ⟨_, ⟨M, rfl, by rw [hk1]; exact h00, by rw [hk1]; exact hR⟩, by rw [ht]; exact hP⟩, hS.F ht⟩) hS.2.2 dM_join_61
  refine g_S (k := 1) F htw hB hS hP (c_M_isDocument (nI i)) k2_238 k2_239 k1_5 k3_0 (by decide +kernel) rfl rfl ⟨Nat.le_of_ble_eq_true rfl, Nat.le_of_ble_eq_true rfl⟩ rfl hl.1 rfl (Nat.le_of_ble_eq_true rfl) dM_join_16 ⟨Nat.le_of_ble_eq_true rfl, Nat.le_of_ble_eq_true rfl⟩ (fun en1 H locs he hP hS => ?_)
  obtain rfl := he
  refine lv_if_ne (tgt := 26) hx hb dM_join_19 (by decide) (fun _ => ?_) (fun hc => absurd hc (show ¬ (if dk (nI i) then (1 : Int32) else 0) = 0 by rw [dk_nI hi]; decide))
  have hn_i := ha.1 i hi
  refine lv_aload_n hx hb dM_join_26 rfl (lv_at hl 0 rfl) ?_
  refine g_get F hK hP (17) (by decide) rfl rfl iM 2 (by decide) k2_198 rfl dM_join_27 ?_
  refine lv_iload_n hx hb dM_join_30 rfl (lv_at hl 1 rfl) ?_
  refine g_iald F hK hP (19) (by decide) 0 rfl rfl (vp_in_nI hk (by omega)) dM_join_31 ?_
  rw [nI_clamp (show k < 2 ^ 31 by omega), hR.1 k hk]
  refine lv_aload_n hx hb dM_join_32 rfl (lv_at hl 0 rfl) ?_
  refine g_get F hK hP (17) (by decide) rfl rfl iM 2 (by decide) k2_198 rfl dM_join_33 ?_
  refine lv_iload_n hx hb dM_join_36 rfl (lv_at hl 2 rfl) ?_
  refine g_iald F hK hP (19) (by decide) 0 rfl rfl (vp_in_nI hj (by omega)) dM_join_37 ?_
  rw [nI_clamp (show j < 2 ^ 31 by omega), hR.1 j hj]
  refine lv_iadd hx hb dM_join_38 ?_
  rw [nI_add]
  refine lv_sipush (v := 1000) hx hb dM_join_39 (by decide) ?_
  by_cases hg : a_n a k + a_n a j ≤ 1000
  · have hk1 : (c_join a (nI k) (nI j) (nI i)) = 0 := by simp [c_join, dk_nI hk, ix_nI (show k < 2 ^ 31 by omega), dk_nI hj, ix_nI (show j < 2 ^ 31 by omega), dk_nI hi, ix_nI (show i < 2 ^ 31 by omega), hg]
    refine lv_icmp_le (tgt := 49) hx hb dM_join_42 (by decide) (fun _ => ?_) (fun hc => absurd (by rw [show (1000 : Int32) = nI 1000 from rfl, nI_leI (by omega) (by omega)]; omega) hc)
    refine lv_iconst (v := 0) hx hb dM_join_49 (by decide) ?_
    refine g_put F hK G hP hS (17) (by decide) rfl rfl iM tM tM_ok nM 0 (by decide) k2_196 rfl (ty := .int) (by decide +kernel) rfl rfl (Nat.le_of_ble_eq_true rfl) dM_join_50 (fun H locs hP hS => ?_)
    have hP := P_of hP (en_m_code _ _ _ _ _ _ _ _ _ _ _)
    obtain ⟨M, hP, hR, h00⟩ : ∃ M1 : Nat → Nat → Int32, va_P D cl (gw ad (en ad cI cZ cT cJ pi dr S M1 o) 25) H ∧ RepM M1 a ∧ M1 0 0 = nI 0 := ⟨_, hP, hR.num (by decide), rfl⟩
    refine lv_aload_n hx hb dM_join_53 rfl (lv_at hl 0 rfl) ?_
    refine g_get F hK hP (17) (by decide) rfl rfl iM 0 (by decide) k2_196 rfl dM_join_54 ?_
    rw [h00]
    refine lv_if_le (tgt := 62) hx hb dM_join_57 (by decide) (fun _ => ?_) (fun hc => absurd (show  nI 0 ≤ 0 by decide) hc)
    refine lv_aload_n hx hb dM_join_62 rfl (lv_at hl 0 rfl) ?_
    refine lv_iconst (v := 0) hx hb dM_join_63 (by decide) ?_
    refine g_put F hK G hP hS (17) (by decide) rfl rfl iM tM tM_ok nM 4 (by decide) k2_200 rfl (ty := .int) (by decide +kernel) rfl rfl (Nat.le_of_ble_eq_true rfl) dM_join_64 (fun H locs hP hS => ?_)
    have hP := P_of hP (en_m_drafted _ _ _ _ _ _ _ _ _ _ _)
    obtain ⟨M, hP, hR, h00, hD⟩ : ∃ M1 : Nat → Nat → Int32, va_P D cl (gw ad (en ad cI cZ cT cJ pi dr S M1 o) 25) H ∧ RepM M1 a ∧ M1 0 0 = nI 0 ∧ RepDM M1 0 (fun _ => 0) := ⟨_, hP, hR.num (by decide), h00, rfl, fun i hi => absurd hi (Nat.not_lt_zero _)⟩
    refine lv_aload_n hx hb dM_join_67 rfl (lv_at hl 0 rfl) ?_
    refine lv_iload_n hx hb dM_join_68 rfl (lv_at hl 1 rfl) ?_
    refine lv_iconst (v := 0) hx hb dM_join_69 (by decide) ?_
    refine lv_aload_n hx hb dM_join_70 rfl (lv_at hl 0 rfl) ?_
    refine g_get F hK hP (17) (by decide) rfl rfl iM 2 (by decide) k2_198 rfl dM_join_71 ?_
    refine lv_iload_n hx hb dM_join_74 rfl (lv_at hl 1 rfl) ?_
    refine g_iald F hK hP (19) (by decide) 0 rfl rfl (vp_in_nI hk (by omega)) dM_join_75 ?_
    rw [nI_clamp (show k < 2 ^ 31 by omega), hR.1 k hk]
    rw [show (0 : Int32) = nI 0 from rfl]
    refine g_V (k := 3) F htw hB hS hP (17) (by decide) rfl rfl (c_M_add G ha hR h00 hD hk (by omega) (by omega) (by omega)) k3_18 k3_20 k0_5 k1_5 k3_21 (by decide +kernel) rfl rfl ⟨Nat.le_of_ble_eq_true rfl, Nat.le_of_ble_eq_true rfl⟩ rfl hl.1 rfl (Nat.le_of_ble_eq_true rfl) dM_join_76 ⟨Nat.le_of_ble_eq_true rfl, Nat.le_of_ble_eq_true rfl⟩ (fun en1 H locs he hP hS => ?_)
    obtain ⟨M, rfl, h00, hR, hD⟩ := he
    refine lv_aload_n hx hb dM_join_79 rfl (lv_at hl 0 rfl) ?_
    refine lv_iload_n hx hb dM_join_80 rfl (lv_at hl 2 rfl) ?_
    refine lv_iconst (v := 0) hx hb dM_join_81 (by decide) ?_
    refine lv_aload_n hx hb dM_join_82 rfl (lv_at hl 0 rfl) ?_
    refine g_get F hK hP (17) (by decide) rfl rfl iM 2 (by decide) k2_198 rfl dM_join_83 ?_
    refine lv_iload_n hx hb dM_join_86 rfl (lv_at hl 2 rfl) ?_
    refine g_iald F hK hP (19) (by decide) 0 rfl rfl (vp_in_nI hj (by omega)) dM_join_87 ?_
    rw [nI_clamp (show j < 2 ^ 31 by omega), hR.1 j hj]
    rw [show (0 : Int32) = nI 0 from rfl]
    refine g_V (k := 3) F htw hB hS hP (17) (by decide) rfl rfl (c_M_add G ha hR h00 hD hj (by omega) (by omega) (by omega)) k3_18 k3_20 k0_5 k1_5 k3_21 (by decide +kernel) rfl rfl ⟨Nat.le_of_ble_eq_true rfl, Nat.le_of_ble_eq_true rfl⟩ rfl hl.1 rfl (Nat.le_of_ble_eq_true rfl) dM_join_88 ⟨Nat.le_of_ble_eq_true rfl, Nat.le_of_ble_eq_true rfl⟩ (fun en1 H locs he hP hS => ?_)
    obtain ⟨M, rfl, h00, hR, hD⟩ := he
    refine lv_aload_n hx hb dM_join_91 rfl (lv_at hl 0 rfl) ?_
    refine lv_iload_n hx hb dM_join_92 rfl (lv_at hl 3 rfl) ?_
    refine g_V (k := 1) F htw hB hS hP (17) (by decide) rfl rfl (c_M_become G ha hR h00 hD hi (by omega)) k3_22 k3_24 k0_6 k1_5 k3_25 (by decide +kernel) rfl rfl ⟨Nat.le_of_ble_eq_true rfl, Nat.le_of_ble_eq_true rfl⟩ rfl hl.1 rfl (Nat.le_of_ble_eq_true rfl) dM_join_93 ⟨Nat.le_of_ble_eq_true rfl, Nat.le_of_ble_eq_true rfl⟩ (fun en1 H locs he hP hS => ?_)
    obtain ⟨M, rfl, h00, hR⟩ := he
    have hR := hR.to (k' := a_n a k + a_n a j) (g' := cat (a_b a k) (a_n a k) (a_b a j)) (by omega) (fun i hi => by simp [cat])
    rw [show 0 + (a_n a k - 0) + (a_n a j - 0) = a_n a k + a_n a j by omega]
    exact W.iret hx hb hr (fun t ht hW => ⟨by rw [hk1, if_pos rfl]; simp [dk_nI hk, ix_nI (show k < 2 ^ 31 by omega), dk_nI hj, ix_nI (show j < 2 ^ 31 by omega), dk_nI hi, ix_nI (show i < 2 ^ 31 by omega), hg], ⟨_, ⟨M, rfl, by rw [hk1]; exact h00, by rw [hk1, if_pos rfl]; exact (by simpa [x_join, dk_nI hk, ix_nI (show k < 2 ^ 31 by omega), dk_nI hj, ix_nI (show j < 2 ^ 31 by omega), dk_nI hi, ix_nI (show i < 2 ^ 31 by omega), hg] using hR)⟩, by rw [ht]; exact hP⟩, hS.F ht⟩) hS.2.2 dM_join_96
  · have hk1 : (c_join a (nI k) (nI j) (nI i)) = 2 := by simp [c_join, hg, dk_nI hk, ix_nI (show k < 2 ^ 31 by omega), dk_nI hj, ix_nI (show j < 2 ^ 31 by omega), dk_nI hi, ix_nI (show i < 2 ^ 31 by omega)]
    refine lv_icmp_le (tgt := 49) hx hb dM_join_42 (by decide) (fun hc => absurd hc (by rw [show (1000 : Int32) = nI 1000 from rfl, nI_leI (by omega) (by omega)]; omega)) (fun _ => ?_)
    refine lv_iconst (v := 2) hx hb dM_join_45 (by decide) ?_
    refine lv_goto (tgt := 50) hx hb dM_join_46 (by decide) ?_
    refine g_put F hK G hP hS (17) (by decide) rfl rfl iM tM tM_ok nM 0 (by decide) k2_196 rfl (ty := .int) (by decide +kernel) rfl rfl (Nat.le_of_ble_eq_true rfl) dM_join_50 (fun H locs hP hS => ?_)
    have hP := P_of hP (en_m_code _ _ _ _ _ _ _ _ _ _ _)
    obtain ⟨M, hP, hR, h00⟩ : ∃ M1 : Nat → Nat → Int32, va_P D cl (gw ad (en ad cI cZ cT cJ pi dr S M1 o) 25) H ∧ RepM M1 a ∧ M1 0 0 = nI 2 := ⟨_, hP, hR.num (by decide), rfl⟩
    refine lv_aload_n hx hb dM_join_53 rfl (lv_at hl 0 rfl) ?_
    refine g_get F hK hP (17) (by decide) rfl rfl iM 0 (by decide) k2_196 rfl dM_join_54 ?_
    rw [h00]
    refine lv_if_le (tgt := 62) hx hb dM_join_57 (by decide) (fun hc => absurd hc (show ¬ nI 2 ≤ 0 by decide)) (fun _ => ?_)
    refine lv_iconst (v := 0) hx hb dM_join_60 (by decide) ?_
    exact W.iret hx hb hr (fun t ht hW => ⟨by rw [hk1]; rfl, ⟨_, ⟨M, rfl, by rw [hk1]; exact h00, by rw [hk1]; exact hR⟩, by rw [ht]; exact hP⟩, hS.F ht⟩) hS.2.2 dM_join_61
set_option maxHeartbeats 4000000 in
set_option maxRecDepth 100000 in
theorem c_M_delete (G : gGeo ad 25 base) (ha : a_ok a) (hR : RepM M a) (d f t : Int32) : Met l yM_delete (Cond.code yM_delete bM_delete 4 (some .int) :: tws) { frames := 1, cells := 0, slots := 0, locals := 24 } (gPc (tw D cI cZ cT cJ base) D cl ad 25 base (en ad cI cZ cT cJ pi dr S M o) [.ref (ad 17), .int d, .int f, .int t]) (gQc D cl ad 25 base (some (.int (if (c_delete a d f t) = 0 then (nI (a_n a (ix d) - (ix t - ix f))) else 0))) (fun e => ∃ M1 : Nat → Nat → Int32, e = en ad cI cZ cT cJ pi dr S M1 o ∧ M1 0 0 = nI (c_delete a d f t) ∧ RepM M1 (if (c_delete a d f t) = 0 then x_delete a d f t else a))) 0 0 (gA base) := by
  refine Met.ofW (cc := bM_delete) (maxL := 4) (ret := (some .int)) (by decide) rfl ?_
  intro p e s m args below meth c s₁ B hml hv
  obtain ⟨rfl, htw, hB, hP⟩ := hv
  have hx := B.exec
  have hb := B.bytes
  have hr := B.returns
  have hts0 := atoms_spec (ws := Cond.code yM_delete bM_delete 4 (some .int) :: tws) B.pre
  have hts : ∀ w ∈ tws, w.before _ s = true := fun w h => hts0 w (List.mem_cons_of_mem _ h)
  have hown : s.vm.findClass "PairedTextsModel" = some m.cls := findClass_of_methodNamed B.named
  have hlocks := B.notSynchronized
  have hno := B.noHandlers (hts0 _ List.mem_cons_self)
  have F : CallFix p m c bM_delete 4 s _ tws "PairedTextsModel" := ⟨hx, hb, hml, hown, hts⟩
  have hK := htw.1
  have hS : va_S (gA base) s.heap s.heap [] := va_S.rf
  have hl := lv_entry ([.ref (ad 17), .int d, .int f, .int t]) (n := 4) (Nat.le_of_ble_eq_true rfl)
  rw [lg_entry_eq]
  generalize (lg_sl ([.ref (ad 17), .int d, .int f, .int t]) ++ List.replicate (4 - (lg_sl ([.ref (ad 17), .int d, .int f, .int t])).length) Slot.unset).toArray = ls at hl ⊢
  have hl : lv_has ls 4 [(0, .ref (ad 17)), (1, .int d), (2, .int f), (3, .int t)] := hl
  have z0 : (0 : Int32).toInt = 0 := rfl
  refine lv_aload_n hx hb dM_delete_0 rfl (lv_at hl 0 rfl) ?_
  refine lv_iload_n hx hb dM_delete_1 rfl (lv_at hl 1 rfl) ?_
  rcases dk_or d with hd | ⟨k, hk, rfl⟩
  · have hk1 : (c_delete a d f t) = 1 := by simp [c_delete, hd.1]
    refine g_S (k := 1) F htw hB hS hP (c_M_isDocument d) k2_238 k2_239 k1_5 k3_0 (by decide +kernel) rfl rfl ⟨Nat.le_of_ble_eq_true rfl, Nat.le_of_ble_eq_true rfl⟩ rfl hl.1 rfl (Nat.le_of_ble_eq_true rfl) dM_delete_2 ⟨Nat.le_of_ble_eq_true rfl, Nat.le_of_ble_eq_true rfl⟩ (fun en1 H locs he hP hS => ?_)
    obtain rfl := he
    refine lv_if_ne (tgt := 12) hx hb dM_delete_5 (by decide) (fun hc => absurd (show (if dk d then (1 : Int32) else 0) = 0 by rw [hd.1]; rfl) hc) (fun _ => ?_)
    refine lv_iconst (v := 1) hx hb dM_delete_8 (by decide) ?_
    refine lv_goto (tgt := 27) hx hb dM_delete_9 (by decide) ?_
    refine g_put F hK G hP hS (17) (by decide) rfl rfl iM tM tM_ok nM 0 (by decide) k2_196 rfl (ty := .int) (by decide +kernel) rfl rfl (Nat.le_of_ble_eq_true rfl) dM_delete_27 (fun H locs hP hS => ?_)
    have hP := P_of hP (en_m_code _ _ _ _ _ _ _ _ _ _ _)
    obtain ⟨M, hP, hR, h00⟩ : ∃ M1 : Nat → Nat → Int32, va_P D cl (gw ad (en ad cI cZ cT cJ pi dr S M1 o) 25) H ∧ RepM M1 a ∧ M1 0 0 = nI 1 := ⟨_, hP, hR.num (by decide), rfl⟩
    refine lv_aload_n hx hb dM_delete_30 rfl (lv_at hl 0 rfl) ?_
    refine g_get F hK hP (17) (by decide) rfl rfl iM 0 (by decide) k2_196 rfl dM_delete_31 ?_
    rw [h00]
    refine lv_if_le (tgt := 39) hx hb dM_delete_34 (by decide) (fun hc => absurd hc (show ¬ nI 1 ≤ 0 by decide)) (fun _ => ?_)
    refine lv_iconst (v := 0) hx hb dM_delete_37 (by decide) ?_
    exact W.iret hx hb hr (fun t ht hW => ⟨by rw [hk1]; rfl, ⟨_, ⟨M, rfl, by rw [hk1]; exact h00, by rw [hk1]; exact hR⟩, by rw [ht]; exact hP⟩, hS.F ht⟩) hS.2.2 dM_delete_38
  refine g_S (k := 1) F htw hB hS hP (c_M_isDocument (nI k)) k2_238 k2_239 k1_5 k3_0 (by decide +kernel) rfl rfl ⟨Nat.le_of_ble_eq_true rfl, Nat.le_of_ble_eq_true rfl⟩ rfl hl.1 rfl (Nat.le_of_ble_eq_true rfl) dM_delete_2 ⟨Nat.le_of_ble_eq_true rfl, Nat.le_of_ble_eq_true rfl⟩ (fun en1 H locs he hP hS => ?_)
  obtain rfl := he
  refine lv_if_ne (tgt := 12) hx hb dM_delete_5 (by decide) (fun _ => ?_) (fun hc => absurd hc (show ¬ (if dk (nI k) then (1 : Int32) else 0) = 0 by rw [dk_nI hk]; decide))
  have hn_k := ha.1 k hk
  refine lv_aload_n hx hb dM_delete_12 rfl (lv_at hl 0 rfl) ?_
  refine lv_iload_n hx hb dM_delete_13 rfl (lv_at hl 1 rfl) ?_
  refine lv_iload_n hx hb dM_delete_14 rfl (lv_at hl 2 rfl) ?_
  refine lv_iload_n hx hb dM_delete_15 rfl (lv_at hl 3 rfl) ?_
  rcases rg_or f t hn_k with hgr | ⟨f1, t1, hft, htn, rfl, rfl⟩
  · have hk1 : (c_delete a (nI k) f t) = 2 := by simp [c_delete, dk_nI hk, ix_nI (show k < 2 ^ 31 by omega), hgr]
    refine g_V (k := 3) F htw hB hS hP (17) (by decide) rfl rfl (c_M_isRange hk hn_k (hR.1 k hk) f t) k3_14 k3_16 k0_4 k1_5 k3_17 (by decide +kernel) rfl rfl ⟨Nat.le_of_ble_eq_true rfl, Nat.le_of_ble_eq_true rfl⟩ rfl hl.1 rfl (Nat.le_of_ble_eq_true rfl) dM_delete_16 ⟨Nat.le_of_ble_eq_true rfl, Nat.le_of_ble_eq_true rfl⟩ (fun en1 H locs he hP hS => ?_)
    obtain rfl := he
    refine lv_if_ne (tgt := 26) hx hb dM_delete_19 (by decide) (fun hc => absurd (show (if rg f t (a_n a k) then (1 : Int32) else 0) = 0 by rw [hgr]; rfl) hc) (fun _ => ?_)
    refine lv_iconst (v := 2) hx hb dM_delete_22 (by decide) ?_
    refine lv_goto (tgt := 27) hx hb dM_delete_23 (by decide) ?_
    refine g_put F hK G hP hS (17) (by decide) rfl rfl iM tM tM_ok nM 0 (by decide) k2_196 rfl (ty := .int) (by decide +kernel) rfl rfl (Nat.le_of_ble_eq_true rfl) dM_delete_27 (fun H locs hP hS => ?_)
    have hP := P_of hP (en_m_code _ _ _ _ _ _ _ _ _ _ _)
    obtain ⟨M, hP, hR, h00⟩ : ∃ M1 : Nat → Nat → Int32, va_P D cl (gw ad (en ad cI cZ cT cJ pi dr S M1 o) 25) H ∧ RepM M1 a ∧ M1 0 0 = nI 2 := ⟨_, hP, hR.num (by decide), rfl⟩
    refine lv_aload_n hx hb dM_delete_30 rfl (lv_at hl 0 rfl) ?_
    refine g_get F hK hP (17) (by decide) rfl rfl iM 0 (by decide) k2_196 rfl dM_delete_31 ?_
    rw [h00]
    refine lv_if_le (tgt := 39) hx hb dM_delete_34 (by decide) (fun hc => absurd hc (show ¬ nI 2 ≤ 0 by decide)) (fun _ => ?_)
    refine lv_iconst (v := 0) hx hb dM_delete_37 (by decide) ?_
    exact W.iret hx hb hr (fun t ht hW => ⟨by rw [hk1]; rfl, ⟨_, ⟨M, rfl, by rw [hk1]; exact h00, by rw [hk1]; exact hR⟩, by rw [ht]; exact hP⟩, hS.F ht⟩) hS.2.2 dM_delete_38
  refine g_V (k := 3) F htw hB hS hP (17) (by decide) rfl rfl (c_M_isRange hk hn_k (hR.1 k hk) (nI f1) (nI t1)) k3_14 k3_16 k0_4 k1_5 k3_17 (by decide +kernel) rfl rfl ⟨Nat.le_of_ble_eq_true rfl, Nat.le_of_ble_eq_true rfl⟩ rfl hl.1 rfl (Nat.le_of_ble_eq_true rfl) dM_delete_16 ⟨Nat.le_of_ble_eq_true rfl, Nat.le_of_ble_eq_true rfl⟩ (fun en1 H locs he hP hS => ?_)
  obtain rfl := he
  refine lv_if_ne (tgt := 26) hx hb dM_delete_19 (by decide) (fun _ => ?_) (fun hc => absurd hc (show ¬ (if rg (nI f1) (nI t1) (a_n a k) then (1 : Int32) else 0) = 0 by rw [rg_nI hft htn hn_k]; decide))
  have hk1 : (c_delete a (nI k) (nI f1) (nI t1)) = 0 := by simp [c_delete, dk_nI hk, ix_nI (show k < 2 ^ 31 by omega), rg_nI hft htn hn_k, ix_nI (show f1 < 2 ^ 31 by omega), ix_nI (show t1 < 2 ^ 31 by omega)]
  refine lv_iconst (v := 0) hx hb dM_delete_26 (by decide) ?_
  refine g_put F hK G hP hS (17) (by decide) rfl rfl iM tM tM_ok nM 0 (by decide) k2_196 rfl (ty := .int) (by decide +kernel) rfl rfl (Nat.le_of_ble_eq_true rfl) dM_delete_27 (fun H locs hP hS => ?_)
  have hP := P_of hP (en_m_code _ _ _ _ _ _ _ _ _ _ _)
  obtain ⟨M, hP, hR, h00⟩ : ∃ M1 : Nat → Nat → Int32, va_P D cl (gw ad (en ad cI cZ cT cJ pi dr S M1 o) 25) H ∧ RepM M1 a ∧ M1 0 0 = nI 0 := ⟨_, hP, hR.num (by decide), rfl⟩
  refine lv_aload_n hx hb dM_delete_30 rfl (lv_at hl 0 rfl) ?_
  refine g_get F hK hP (17) (by decide) rfl rfl iM 0 (by decide) k2_196 rfl dM_delete_31 ?_
  rw [h00]
  refine lv_if_le (tgt := 39) hx hb dM_delete_34 (by decide) (fun _ => ?_) (fun hc => absurd (show  nI 0 ≤ 0 by decide) hc)
  refine lv_aload_n hx hb dM_delete_39 rfl (lv_at hl 0 rfl) ?_
  refine lv_iconst (v := 0) hx hb dM_delete_40 (by decide) ?_
  refine g_put F hK G hP hS (17) (by decide) rfl rfl iM tM tM_ok nM 4 (by decide) k2_200 rfl (ty := .int) (by decide +kernel) rfl rfl (Nat.le_of_ble_eq_true rfl) dM_delete_41 (fun H locs hP hS => ?_)
  have hP := P_of hP (en_m_drafted _ _ _ _ _ _ _ _ _ _ _)
  obtain ⟨M, hP, hR, h00, hD⟩ : ∃ M1 : Nat → Nat → Int32, va_P D cl (gw ad (en ad cI cZ cT cJ pi dr S M1 o) 25) H ∧ RepM M1 a ∧ M1 0 0 = nI 0 ∧ RepDM M1 0 (fun _ => 0) := ⟨_, hP, hR.num (by decide), h00, rfl, fun i hi => absurd hi (Nat.not_lt_zero _)⟩
  refine lv_aload_n hx hb dM_delete_44 rfl (lv_at hl 0 rfl) ?_
  refine lv_iload_n hx hb dM_delete_45 rfl (lv_at hl 1 rfl) ?_
  refine lv_iconst (v := 0) hx hb dM_delete_46 (by decide) ?_
  refine lv_iload_n hx hb dM_delete_47 rfl (lv_at hl 2 rfl) ?_
  rw [show (0 : Int32) = nI 0 from rfl]
  refine g_V (k := 3) F htw hB hS hP (17) (by decide) rfl rfl (c_M_add G ha hR h00 hD hk (by omega) (by omega) (by omega)) k3_18 k3_20 k0_5 k1_5 k3_21 (by decide +kernel) rfl rfl ⟨Nat.le_of_ble_eq_true rfl, Nat.le_of_ble_eq_true rfl⟩ rfl hl.1 rfl (Nat.le_of_ble_eq_true rfl) dM_delete_48 ⟨Nat.le_of_ble_eq_true rfl, Nat.le_of_ble_eq_true rfl⟩ (fun en1 H locs he hP hS => ?_)
  obtain ⟨M, rfl, h00, hR, hD⟩ := he
  refine lv_aload_n hx hb dM_delete_51 rfl (lv_at hl 0 rfl) ?_
  refine lv_iload_n hx hb dM_delete_52 rfl (lv_at hl 1 rfl) ?_
  refine lv_iload_n hx hb dM_delete_53 rfl (lv_at hl 3 rfl) ?_
  refine lv_aload_n hx hb dM_delete_54 rfl (lv_at hl 0 rfl) ?_
  refine g_get F hK hP (17) (by decide) rfl rfl iM 2 (by decide) k2_198 rfl dM_delete_55 ?_
  refine lv_iload_n hx hb dM_delete_58 rfl (lv_at hl 1 rfl) ?_
  refine g_iald F hK hP (19) (by decide) 0 rfl rfl (vp_in_nI hk (by omega)) dM_delete_59 ?_
  rw [nI_clamp (show k < 2 ^ 31 by omega), hR.1 k hk]
  refine g_V (k := 3) F htw hB hS hP (17) (by decide) rfl rfl (c_M_add G ha hR h00 hD hk (by omega) (by omega) (by omega)) k3_18 k3_20 k0_5 k1_5 k3_21 (by decide +kernel) rfl rfl ⟨Nat.le_of_ble_eq_true rfl, Nat.le_of_ble_eq_true rfl⟩ rfl hl.1 rfl (Nat.le_of_ble_eq_true rfl) dM_delete_60 ⟨Nat.le_of_ble_eq_true rfl, Nat.le_of_ble_eq_true rfl⟩ (fun en1 H locs he hP hS => ?_)
  obtain ⟨M, rfl, h00, hR, hD⟩ := he
  refine lv_aload_n hx hb dM_delete_63 rfl (lv_at hl 0 rfl) ?_
  refine lv_iload_n hx hb dM_delete_64 rfl (lv_at hl 1 rfl) ?_
  refine g_V (k := 1) F htw hB hS hP (17) (by decide) rfl rfl (c_M_become G ha hR h00 hD hk (by omega)) k3_22 k3_24 k0_6 k1_5 k3_25 (by decide +kernel) rfl rfl ⟨Nat.le_of_ble_eq_true rfl, Nat.le_of_ble_eq_true rfl⟩ rfl hl.1 rfl (Nat.le_of_ble_eq_true rfl) dM_delete_65 ⟨Nat.le_of_ble_eq_true rfl, Nat.le_of_ble_eq_true rfl⟩ (fun en1 H locs he hP hS => ?_)
  obtain ⟨M, rfl, h00, hR⟩ := he
  have hR := hR.to (k' := a_n a k - (t1 - f1)) (g' := cat (a_b a k) f1 (fun i => a_b a k (t1 + i))) (by omega) (fun i hi => by simp [cat])
  rw [show 0 + (f1 - 0) + (a_n a k - t1) = a_n a k - (t1 - f1) by omega]
  exact W.iret hx hb hr (fun t ht hW => ⟨by rw [hk1, if_pos rfl]; simp [dk_nI hk, ix_nI (show k < 2 ^ 31 by omega), rg_nI hft htn hn_k, ix_nI (show f1 < 2 ^ 31 by omega), ix_nI (show t1 < 2 ^ 31 by omega)], ⟨_, ⟨M, rfl, by rw [hk1]; exact h00, by rw [hk1, if_pos rfl]; exact (by simpa [x_delete, dk_nI hk, ix_nI (show k < 2 ^ 31 by omega), rg_nI hft htn hn_k, ix_nI (show f1 < 2 ^ 31 by omega), ix_nI (show t1 < 2 ^ 31 by omega)] using hR)⟩, by rw [ht]; exact hP⟩, hS.F ht⟩) hS.2.2 dM_delete_68
set_option maxHeartbeats 4000000 in
set_option maxRecDepth 100000 in
theorem c_M_insert (G : gGeo ad 25 base) (ha : a_ok a) (hR : RepM M a) (d q d2 f t : Int32) : Met l yM_insert (Cond.code yM_insert bM_insert 6 (some .int) :: tws) { frames := 1, cells := 0, slots := 0, locals := 24 } (gPc (tw D cI cZ cT cJ base) D cl ad 25 base (en ad cI cZ cT cJ pi dr S M o) [.ref (ad 17), .int d, .int q, .int d2, .int f, .int t]) (gQc D cl ad 25 base (some (.int (if (c_insert a d q d2 f t) = 0 then (nI (a_n a (ix d) + (ix t - ix f))) else 0))) (fun e => ∃ M1 : Nat → Nat → Int32, e = en ad cI cZ cT cJ pi dr S M1 o ∧ M1 0 0 = nI (c_insert a d q d2 f t) ∧ RepM M1 (if (c_insert a d q d2 f t) = 0 then x_insert a d q d2 f t else a))) 0 0 (gA base) := by
  refine Met.ofW (cc := bM_insert) (maxL := 6) (ret := (some .int)) (by decide) rfl ?_
  intro p e s m args below meth c s₁ B hml hv
  obtain ⟨rfl, htw, hB, hP⟩ := hv
  have hx := B.exec
  have hb := B.bytes
  have hr := B.returns
  have hts0 := atoms_spec (ws := Cond.code yM_insert bM_insert 6 (some .int) :: tws) B.pre
  have hts : ∀ w ∈ tws, w.before _ s = true := fun w h => hts0 w (List.mem_cons_of_mem _ h)
  have hown : s.vm.findClass "PairedTextsModel" = some m.cls := findClass_of_methodNamed B.named
  have hlocks := B.notSynchronized
  have hno := B.noHandlers (hts0 _ List.mem_cons_self)
  have F : CallFix p m c bM_insert 6 s _ tws "PairedTextsModel" := ⟨hx, hb, hml, hown, hts⟩
  have hK := htw.1
  have hS : va_S (gA base) s.heap s.heap [] := va_S.rf
  have hl := lv_entry ([.ref (ad 17), .int d, .int q, .int d2, .int f, .int t]) (n := 6) (Nat.le_of_ble_eq_true rfl)
  rw [lg_entry_eq]
  generalize (lg_sl ([.ref (ad 17), .int d, .int q, .int d2, .int f, .int t]) ++ List.replicate (6 - (lg_sl ([.ref (ad 17), .int d, .int q, .int d2, .int f, .int t])).length) Slot.unset).toArray = ls at hl ⊢
  have hl : lv_has ls 6 [(0, .ref (ad 17)), (1, .int d), (2, .int q), (3, .int d2), (4, .int f), (5, .int t)] := hl
  have z0 : (0 : Int32).toInt = 0 := rfl
  refine lv_aload_n hx hb dM_insert_0 rfl (lv_at hl 0 rfl) ?_
  refine lv_iload_n hx hb dM_insert_1 rfl (lv_at hl 1 rfl) ?_
  rcases dk_or d with hd | ⟨k, hk, rfl⟩
  · have hk1 : (c_insert a d q d2 f t) = 1 := by simp [c_insert, hd.1]
    refine g_S (k := 1) F htw hB hS hP (c_M_isDocument d) k2_238 k2_239 k1_5 k3_0 (by decide +kernel) rfl rfl ⟨Nat.le_of_ble_eq_true rfl, Nat.le_of_ble_eq_true rfl⟩ rfl hl.1 rfl (Nat.le_of_ble_eq_true rfl) dM_insert_2 ⟨Nat.le_of_ble_eq_true rfl, Nat.le_of_ble_eq_true rfl⟩ (fun en1 H locs he hP hS => ?_)
    obtain rfl := he
    refine lv_if_eq (tgt := 15) hx hb dM_insert_5 (by decide) (fun _ => ?_) (fun hc => absurd (show (if dk d then (1 : Int32) else 0) = 0 by rw [hd.1]; rfl) hc)
    refine lv_iconst (v := 1) hx hb dM_insert_15 (by decide) ?_
    refine lv_goto (tgt := 72) hx hb dM_insert_16 (by decide) ?_
    refine g_put F hK G hP hS (17) (by decide) rfl rfl iM tM tM_ok nM 0 (by decide) k2_196 rfl (ty := .int) (by decide +kernel) rfl rfl (Nat.le_of_ble_eq_true rfl) dM_insert_72 (fun H locs hP hS => ?_)
    have hP := P_of hP (en_m_code _ _ _ _ _ _ _ _ _ _ _)
    obtain ⟨M, hP, hR, h00⟩ : ∃ M1 : Nat → Nat → Int32, va_P D cl (gw ad (en ad cI cZ cT cJ pi dr S M1 o) 25) H ∧ RepM M1 a ∧ M1 0 0 = nI 1 := ⟨_, hP, hR.num (by decide), rfl⟩
    refine lv_aload_n hx hb dM_insert_75 rfl (lv_at hl 0 rfl) ?_
    refine g_get F hK hP (17) (by decide) rfl rfl iM 0 (by decide) k2_196 rfl dM_insert_76 ?_
    rw [h00]
    refine lv_if_le (tgt := 84) hx hb dM_insert_79 (by decide) (fun hc => absurd hc (show ¬ nI 1 ≤ 0 by decide)) (fun _ => ?_)
    refine lv_iconst (v := 0) hx hb dM_insert_82 (by decide) ?_
    exact W.iret hx hb hr (fun t ht hW => ⟨by rw [hk1]; rfl, ⟨_, ⟨M, rfl, by rw [hk1]; exact h00, by rw [hk1]; exact hR⟩, by rw [ht]; exact hP⟩, hS.F ht⟩) hS.2.2 dM_insert_83
  refine g_S (k := 1) F htw hB hS hP (c_M_isDocument (nI k)) k2_238 k2_239 k1_5 k3_0 (by decide +kernel) rfl rfl ⟨Nat.le_of_ble_eq_true rfl, Nat.le_of_ble_eq_true rfl⟩ rfl hl.1 rfl (Nat.le_of_ble_eq_true rfl) dM_insert_2 ⟨Nat.le_of_ble_eq_true rfl, Nat.le_of_ble_eq_true rfl⟩ (fun en1 H locs he hP hS => ?_)
  obtain rfl := he
  refine lv_if_eq (tgt := 15) hx hb dM_insert_5 (by decide) (fun hc => absurd hc (show ¬ (if dk (nI k) then (1 : Int32) else 0) = 0 by rw [dk_nI hk]; decide)) (fun _ => ?_)
  have hn_k := ha.1 k hk
  refine lv_iload_n hx hb dM_insert_8 rfl (lv_at hl 3 rfl) ?_
  rcases dk_or d2 with hd | ⟨j, hj, rfl⟩
  · have hk1 : (c_insert a (nI k) q d2 f t) = 1 := by simp [c_insert, dk_nI hk, ix_nI (show k < 2 ^ 31 by omega), hd.1]
    refine g_S (k := 1) F htw hB hS hP (c_M_isDocument d2) k2_238 k2_239 k1_5 k3_0 (by decide +kernel) rfl rfl ⟨Nat.le_of_ble_eq_true rfl, Nat.le_of_ble_eq_true rfl⟩ rfl hl.1 rfl (Nat.le_of_ble_eq_true rfl) dM_insert_9 ⟨Nat.le_of_ble_eq_true rfl, Nat.le_of_ble_eq_true rfl⟩ (fun en1 H locs he hP hS => ?_)
    obtain rfl := he
    refine lv_if_ne (tgt := 19) hx hb dM_insert_12 (by decide) (fun hc => absurd (show (if dk d2 then (1 : Int32) else 0) = 0 by rw [hd.1]; rfl) hc) (fun _ => ?_)
    refine lv_iconst (v := 1) hx hb dM_insert_15 (by decide) ?_
    refine lv_goto (tgt := 72) hx hb dM_insert_16 (by decide) ?_
    refine g_put F hK G hP hS (17) (by decide) rfl rfl iM tM tM_ok nM 0 (by decide) k2_196 rfl (ty := .int) (by decide +kernel) rfl rfl (Nat.le_of_ble_eq_true rfl) dM_insert_72 (fun H locs hP hS => ?_)
    have hP := P_of hP (en_m_code _ _ _ _ _ _ _ _ _ _ _)
    obtain ⟨M, hP, hR, h00⟩ : ∃ M1 : Nat → Nat → Int32, va_P D cl (gw ad (en ad cI cZ cT cJ pi dr S M1 o) 25) H ∧ RepM M1 a ∧ M1 0 0 = nI 1 := ⟨_, hP, hR.num (by decide), rfl⟩
    refine lv_aload_n hx hb dM_insert_75 rfl (lv_at hl 0 rfl) ?_
    refine g_get F hK hP (17) (by decide) rfl rfl iM 0 (by decide) k2_196 rfl dM_insert_76 ?_
    rw [h00]
    refine lv_if_le (tgt := 84) hx hb dM_insert_79 (by decide) (fun hc => absurd hc (show ¬ nI 1 ≤ 0 by decide)) (fun _ => ?_)
    refine lv_iconst (v := 0) hx hb dM_insert_82 (by decide) ?_
    exact W.iret hx hb hr (fun t ht hW => ⟨by rw [hk1]; rfl, ⟨_, ⟨M, rfl, by rw [hk1]; exact h00, by rw [hk1]; exact hR⟩, by rw [ht]; exact hP⟩, hS.F ht⟩) hS.2.2 dM_insert_83
  refine g_S (k := 1) F htw hB hS hP (c_M_isDocument (nI j)) k2_238 k2_239 k1_5 k3_0 (by decide +kernel) rfl rfl ⟨Nat.le_of_ble_eq_true rfl, Nat.le_of_ble_eq_true rfl⟩ rfl hl.1 rfl (Nat.le_of_ble_eq_true rfl) dM_insert_9 ⟨Nat.le_of_ble_eq_true rfl, Nat.le_of_ble_eq_true rfl⟩ (fun en1 H locs he hP hS => ?_)
  obtain rfl := he
  refine lv_if_ne (tgt := 19) hx hb dM_insert_12 (by decide) (fun _ => ?_) (fun hc => absurd hc (show ¬ (if dk (nI j) then (1 : Int32) else 0) = 0 by rw [dk_nI hj]; decide))
  have hn_j := ha.1 j hj
  refine lv_aload_n hx hb dM_insert_19 rfl (lv_at hl 0 rfl) ?_
  refine lv_iload_n hx hb dM_insert_20 rfl (lv_at hl 3 rfl) ?_
  refine lv_iload hx hb dM_insert_21 (lv_at hl 4 rfl) ?_
  refine lv_iload hx hb dM_insert_23 (lv_at hl 5 rfl) ?_
  rcases rg_or f t hn_j with hgr | ⟨f1, t1, hft, htn, rfl, rfl⟩
  · have hk1 : (c_insert a (nI k) q (nI j) f t) = 2 := by simp [c_insert, dk_nI hk, ix_nI (show k < 2 ^ 31 by omega), dk_nI hj, ix_nI (show j < 2 ^ 31 by omega), hgr]
    refine g_V (k := 3) F htw hB hS hP (17) (by decide) rfl rfl (c_M_isRange hj hn_j (hR.1 j hj) f t) k3_14 k3_16 k0_4 k1_5 k3_17 (by decide +kernel) rfl rfl ⟨Nat.le_of_ble_eq_true rfl, Nat.le_of_ble_eq_true rfl⟩ rfl hl.1 rfl (Nat.le_of_ble_eq_true rfl) dM_insert_25 ⟨Nat.le_of_ble_eq_true rfl, Nat.le_of_ble_eq_true rfl⟩ (fun en1 H locs he hP hS => ?_)
    obtain rfl := he
    refine lv_if_eq (tgt := 45) hx hb dM_insert_28 (by decide) (fun _ => ?_) (fun hc => absurd (show (if rg f t (a_n a j) then (1 : Int32) else 0) = 0 by rw [hgr]; rfl) hc)
    refine lv_iconst (v := 2) hx hb dM_insert_45 (by decide) ?_
    refine lv_goto (tgt := 72) hx hb dM_insert_46 (by decide) ?_
    refine g_put F hK G hP hS (17) (by decide) rfl rfl iM tM tM_ok nM 0 (by decide) k2_196 rfl (ty := .int) (by decide +kernel) rfl rfl (Nat.le_of_ble_eq_true rfl) dM_insert_72 (fun H locs hP hS => ?_)
    have hP := P_of hP (en_m_code _ _ _ _ _ _ _ _ _ _ _)
    obtain ⟨M, hP, hR, h00⟩ : ∃ M1 : Nat → Nat → Int32, va_P D cl (gw ad (en ad cI cZ cT cJ pi dr S M1 o) 25) H ∧ RepM M1 a ∧ M1 0 0 = nI 2 := ⟨_, hP, hR.num (by decide), rfl⟩
    refine lv_aload_n hx hb dM_insert_75 rfl (lv_at hl 0 rfl) ?_
    refine g_get F hK hP (17) (by decide) rfl rfl iM 0 (by decide) k2_196 rfl dM_insert_76 ?_
    rw [h00]
    refine lv_if_le (tgt := 84) hx hb dM_insert_79 (by decide) (fun hc => absurd hc (show ¬ nI 2 ≤ 0 by decide)) (fun _ => ?_)
    refine lv_iconst (v := 0) hx hb dM_insert_82 (by decide) ?_
    exact W.iret hx hb hr (fun t ht hW => ⟨by rw [hk1]; rfl, ⟨_, ⟨M, rfl, by rw [hk1]; exact h00, by rw [hk1]; exact hR⟩, by rw [ht]; exact hP⟩, hS.F ht⟩) hS.2.2 dM_insert_83
  refine g_V (k := 3) F htw hB hS hP (17) (by decide) rfl rfl (c_M_isRange hj hn_j (hR.1 j hj) (nI f1) (nI t1)) k3_14 k3_16 k0_4 k1_5 k3_17 (by decide +kernel) rfl rfl ⟨Nat.le_of_ble_eq_true rfl, Nat.le_of_ble_eq_true rfl⟩ rfl hl.1 rfl (Nat.le_of_ble_eq_true rfl) dM_insert_25 ⟨Nat.le_of_ble_eq_true rfl, Nat.le_of_ble_eq_true rfl⟩ (fun en1 H locs he hP hS => ?_)
  obtain rfl := he
  refine lv_if_eq (tgt := 45) hx hb dM_insert_28 (by decide) (fun hc => absurd hc (show ¬ (if rg (nI f1) (nI t1) (a_n a j) then (1 : Int32) else 0) = 0 by rw [rg_nI hft htn hn_j]; decide)) (fun _ => ?_)
  refine lv_iload_n hx hb dM_insert_31 rfl (lv_at hl 2 rfl) ?_
  have zk := nI_toInt (show a_n a k < 2 ^ 31 by omega)
  rcases pc_or q hn_k with hg | ⟨b, hb1, rfl⟩
  · have hk1 : (c_insert a (nI k) q (nI j) (nI f1) (nI t1)) = 2 := by simp [c_insert, dk_nI hk, ix_nI (show k < 2 ^ 31 by omega), dk_nI hj, ix_nI (show j < 2 ^ 31 by omega), rg_nI hft htn hn_j, ix_nI (show f1 < 2 ^ 31 by omega), ix_nI (show t1 < 2 ^ 31 by omega), hg]
    have hg2 : q.toInt < 0 ∨ (a_n a k : Int) < q.toInt := by unfold pcL at hg; simp only [decide_eq_false_iff_not] at hg; omega
    refine lv_if_lt (tgt := 45) hx hb dM_insert_32 (by decide) (fun hc => ?_) (fun hc => ?_)
    · refine lv_iconst (v := 2) hx hb dM_insert_45 (by decide) ?_
      refine lv_goto (tgt := 72) hx hb dM_insert_46 (by decide) ?_
      refine g_put F hK G hP hS (17) (by decide) rfl rfl iM tM tM_ok nM 0 (by decide) k2_196 rfl (ty := .int) (by decide +kernel) rfl rfl (Nat.le_of_ble_eq_true rfl) dM_insert_72 (fun H locs hP hS => ?_)
      have hP := P_of hP (en_m_code _ _ _ _ _ _ _ _ _ _ _)
      obtain ⟨M, hP, hR, h00⟩ : ∃ M1 : Nat → Nat → Int32, va_P D cl (gw ad (en ad cI cZ cT cJ pi dr S M1 o) 25) H ∧ RepM M1 a ∧ M1 0 0 = nI 2 := ⟨_, hP, hR.num (by decide), rfl⟩
      refine lv_aload_n hx hb dM_insert_75 rfl (lv_at hl 0 rfl) ?_
      refine g_get F hK hP (17) (by decide) rfl rfl iM 0 (by decide) k2_196 rfl dM_insert_76 ?_
      rw [h00]
      refine lv_if_le (tgt := 84) hx hb dM_insert_79 (by decide) (fun hc => absurd hc (show ¬ nI 2 ≤ 0 by decide)) (fun _ => ?_)
      refine lv_iconst (v := 0) hx hb dM_insert_82 (by decide) ?_
      exact W.iret hx hb hr (fun t ht hW => ⟨by rw [hk1]; rfl, ⟨_, ⟨M, rfl, by rw [hk1]; exact h00, by rw [hk1]; exact hR⟩, by rw [ht]; exact hP⟩, hS.F ht⟩) hS.2.2 dM_insert_83
    · simp only [Int32.lt_iff_toInt_lt, Int32.le_iff_toInt_le] at hc
      refine lv_iload_n hx hb dM_insert_35 rfl (lv_at hl 2 rfl) ?_
      refine lv_aload_n hx hb dM_insert_36 rfl (lv_at hl 0 rfl) ?_
      refine g_get F hK hP (17) (by decide) rfl rfl iM 2 (by decide) k2_198 rfl dM_insert_37 ?_
      refine lv_iload_n hx hb dM_insert_40 rfl (lv_at hl 1 rfl) ?_
      refine g_iald F hK hP (19) (by decide) 0 rfl rfl (vp_in_nI hk (by omega)) dM_insert_41 ?_
      rw [nI_clamp (show k < 2 ^ 31 by omega), hR.1 k hk]
      refine lv_icmp_le (tgt := 49) hx hb dM_insert_42 (by decide) (fun hc => absurd hc (by simp only [Int32.lt_iff_toInt_lt, Int32.le_iff_toInt_le]; omega)) (fun _ => ?_)
      refine lv_iconst (v := 2) hx hb dM_insert_45 (by decide) ?_
      refine lv_goto (tgt := 72) hx hb dM_insert_46 (by decide) ?_
      refine g_put F hK G hP hS (17) (by decide) rfl rfl iM tM tM_ok nM 0 (by decide) k2_196 rfl (ty := .int) (by decide +kernel) rfl rfl (Nat.le_of_ble_eq_true rfl) dM_insert_72 (fun H locs hP hS => ?_)
      have hP := P_of hP (en_m_code _ _ _ _ _ _ _ _ _ _ _)
      obtain ⟨M, hP, hR, h00⟩ : ∃ M1 : Nat → Nat → Int32, va_P D cl (gw ad (en ad cI cZ cT cJ pi dr S M1 o) 25) H ∧ RepM M1 a ∧ M1 0 0 = nI 2 := ⟨_, hP, hR.num (by decide), rfl⟩
      refine lv_aload_n hx hb dM_insert_75 rfl (lv_at hl 0 rfl) ?_
      refine g_get F hK hP (17) (by decide) rfl rfl iM 0 (by decide) k2_196 rfl dM_insert_76 ?_
      rw [h00]
      refine lv_if_le (tgt := 84) hx hb dM_insert_79 (by decide) (fun hc => absurd hc (show ¬ nI 2 ≤ 0 by decide)) (fun _ => ?_)
      refine lv_iconst (v := 0) hx hb dM_insert_82 (by decide) ?_
      exact W.iret hx hb hr (fun t ht hW => ⟨by rw [hk1]; rfl, ⟨_, ⟨M, rfl, by rw [hk1]; exact h00, by rw [hk1]; exact hR⟩, by rw [ht]; exact hP⟩, hS.F ht⟩) hS.2.2 dM_insert_83
  have zb := nI_toInt (show b < 2 ^ 31 by omega)
  refine lv_if_lt (tgt := 45) hx hb dM_insert_32 (by decide) (fun hc => absurd hc (by simp only [Int32.lt_iff_toInt_lt, Int32.le_iff_toInt_le]; omega)) (fun _ => ?_)
  refine lv_iload_n hx hb dM_insert_35 rfl (lv_at hl 2 rfl) ?_
  refine lv_aload_n hx hb dM_insert_36 rfl (lv_at hl 0 rfl) ?_
  refine g_get F hK hP (17) (by decide) rfl rfl iM 2 (by decide) k2_198 rfl dM_insert_37 ?_
  refine lv_iload_n hx hb dM_insert_40 rfl (lv_at hl 1 rfl) ?_
  refine g_iald F hK hP (19) (by decide) 0 rfl rfl (vp_in_nI hk (by omega)) dM_insert_41 ?_
  rw [nI_clamp (show k < 2 ^ 31 by omega), hR.1 k hk]
  refine lv_icmp_le (tgt := 49) hx hb dM_insert_42 (by decide) (fun _ => ?_) (fun hc => absurd (by simp only [Int32.lt_iff_toInt_lt, Int32.le_iff_toInt_le]; omega) hc)
  refine lv_aload_n hx hb dM_insert_49 rfl (lv_at hl 0 rfl) ?_
  refine g_get F hK hP (17) (by decide) rfl rfl iM 2 (by decide) k2_198 rfl dM_insert_50 ?_
  refine lv_iload_n hx hb dM_insert_53 rfl (lv_at hl 1 rfl) ?_
  refine g_iald F hK hP (19) (by decide) 0 rfl rfl (vp_in_nI hk (by omega)) dM_insert_54 ?_
  rw [nI_clamp (show k < 2 ^ 31 by omega), hR.1 k hk]
  refine lv_iload hx hb dM_insert_55 (lv_at hl 5 rfl) ?_
  refine lv_iadd hx hb dM_insert_57 ?_
  rw [nI_add]
  refine lv_iload hx hb dM_insert_58 (lv_at hl 4 rfl) ?_
  refine lv_isub hx hb dM_insert_60 ?_
  rw [pk_sub (show f1 ≤ a_n a k + t1 by omega)]
  refine lv_sipush (v := 1000) hx hb dM_insert_61 (by decide) ?_
  by_cases hg : a_n a k + (t1 - f1) ≤ 1000
  · have hk1 : (c_insert a (nI k) (nI b) (nI j) (nI f1) (nI t1)) = 0 := by simp [c_insert, dk_nI hk, ix_nI (show k < 2 ^ 31 by omega), dk_nI hj, ix_nI (show j < 2 ^ 31 by omega), rg_nI hft htn hn_j, ix_nI (show f1 < 2 ^ 31 by omega), ix_nI (show t1 < 2 ^ 31 by omega), pc_nI hb1 hn_k, ix_nI (show b < 2 ^ 31 by omega), hg]
    refine lv_icmp_le (tgt := 71) hx hb dM_insert_64 (by decide) (fun _ => ?_) (fun hc => absurd (by rw [show (1000 : Int32) = nI 1000 from rfl, nI_leI (by omega) (by omega)]; omega) hc)
    refine lv_iconst (v := 0) hx hb dM_insert_71 (by decide) ?_
    refine g_put F hK G hP hS (17) (by decide) rfl rfl iM tM tM_ok nM 0 (by decide) k2_196 rfl (ty := .int) (by decide +kernel) rfl rfl (Nat.le_of_ble_eq_true rfl) dM_insert_72 (fun H locs hP hS => ?_)
    have hP := P_of hP (en_m_code _ _ _ _ _ _ _ _ _ _ _)
    obtain ⟨M, hP, hR, h00⟩ : ∃ M1 : Nat → Nat → Int32, va_P D cl (gw ad (en ad cI cZ cT cJ pi dr S M1 o) 25) H ∧ RepM M1 a ∧ M1 0 0 = nI 0 := ⟨_, hP, hR.num (by decide), rfl⟩
    refine lv_aload_n hx hb dM_insert_75 rfl (lv_at hl 0 rfl) ?_
    refine g_get F hK hP (17) (by decide) rfl rfl iM 0 (by decide) k2_196 rfl dM_insert_76 ?_
    rw [h00]
    refine lv_if_le (tgt := 84) hx hb dM_insert_79 (by decide) (fun _ => ?_) (fun hc => absurd (show  nI 0 ≤ 0 by decide) hc)
    refine lv_aload_n hx hb dM_insert_84 rfl (lv_at hl 0 rfl) ?_
    refine lv_iconst (v := 0) hx hb dM_insert_85 (by decide) ?_
    refine g_put F hK G hP hS (17) (by decide) rfl rfl iM tM tM_ok nM 4 (by decide) k2_200 rfl (ty := .int) (by decide +kernel) rfl rfl (Nat.le_of_ble_eq_true rfl) dM_insert_86 (fun H locs hP hS => ?_)
    have hP := P_of hP (en_m_drafted _ _ _ _ _ _ _ _ _ _ _)
    obtain ⟨M, hP, hR, h00, hD⟩ : ∃ M1 : Nat → Nat → Int32, va_P D cl (gw ad (en ad cI cZ cT cJ pi dr S M1 o) 25) H ∧ RepM M1 a ∧ M1 0 0 = nI 0 ∧ RepDM M1 0 (fun _ => 0) := ⟨_, hP, hR.num (by decide), h00, rfl, fun i hi => absurd hi (Nat.not_lt_zero _)⟩
    refine lv_aload_n hx hb dM_insert_89 rfl (lv_at hl 0 rfl) ?_
    refine lv_iload_n hx hb dM_insert_90 rfl (lv_at hl 1 rfl) ?_
    refine lv_iconst (v := 0) hx hb dM_insert_91 (by decide) ?_
    refine lv_iload_n hx hb dM_insert_92 rfl (lv_at hl 2 rfl) ?_
    rw [show (0 : Int32) = nI 0 from rfl]
    refine g_V (k := 3) F htw hB hS hP (17) (by decide) rfl rfl (c_M_add G ha hR h00 hD hk (by omega) (by omega) (by omega)) k3_18 k3_20 k0_5 k1_5 k3_21 (by decide +kernel) rfl rfl ⟨Nat.le_of_ble_eq_true rfl, Nat.le_of_ble_eq_true rfl⟩ rfl hl.1 rfl (Nat.le_of_ble_eq_true rfl) dM_insert_93 ⟨Nat.le_of_ble_eq_true rfl, Nat.le_of_ble_eq_true rfl⟩ (fun en1 H locs he hP hS => ?_)
    obtain ⟨M, rfl, h00, hR, hD⟩ := he
    refine lv_aload_n hx hb dM_insert_96 rfl (lv_at hl 0 rfl) ?_
    refine lv_iload_n hx hb dM_insert_97 rfl (lv_at hl 3 rfl) ?_
    refine lv_iload hx hb dM_insert_98 (lv_at hl 4 rfl) ?_
    refine lv_iload hx hb dM_insert_100 (lv_at hl 5 rfl) ?_
    refine g_V (k := 3) F htw hB hS hP (17) (by decide) rfl rfl (c_M_add G ha hR h00 hD hj (by omega) (by omega) (by omega)) k3_18 k3_20 k0_5 k1_5 k3_21 (by decide +kernel) rfl rfl ⟨Nat.le_of_ble_eq_true rfl, Nat.le_of_ble_eq_true rfl⟩ rfl hl.1 rfl (Nat.le_of_ble_eq_true rfl) dM_insert_102 ⟨Nat.le_of_ble_eq_true rfl, Nat.le_of_ble_eq_true rfl⟩ (fun en1 H locs he hP hS => ?_)
    obtain ⟨M, rfl, h00, hR, hD⟩ := he
    refine lv_aload_n hx hb dM_insert_105 rfl (lv_at hl 0 rfl) ?_
    refine lv_iload_n hx hb dM_insert_106 rfl (lv_at hl 1 rfl) ?_
    refine lv_iload_n hx hb dM_insert_107 rfl (lv_at hl 2 rfl) ?_
    refine lv_aload_n hx hb dM_insert_108 rfl (lv_at hl 0 rfl) ?_
    refine g_get F hK hP (17) (by decide) rfl rfl iM 2 (by decide) k2_198 rfl dM_insert_109 ?_
    refine lv_iload_n hx hb dM_insert_112 rfl (lv_at hl 1 rfl) ?_
    refine g_iald F hK hP (19) (by decide) 0 rfl rfl (vp_in_nI hk (by omega)) dM_insert_113 ?_
    rw [nI_clamp (show k < 2 ^ 31 by omega), hR.1 k hk]
    refine g_V (k := 3) F htw hB hS hP (17) (by decide) rfl rfl (c_M_add G ha hR h00 hD hk (by omega) (by omega) (by omega)) k3_18 k3_20 k0_5 k1_5 k3_21 (by decide +kernel) rfl rfl ⟨Nat.le_of_ble_eq_true rfl, Nat.le_of_ble_eq_true rfl⟩ rfl hl.1 rfl (Nat.le_of_ble_eq_true rfl) dM_insert_114 ⟨Nat.le_of_ble_eq_true rfl, Nat.le_of_ble_eq_true rfl⟩ (fun en1 H locs he hP hS => ?_)
    obtain ⟨M, rfl, h00, hR, hD⟩ := he
    refine lv_aload_n hx hb dM_insert_117 rfl (lv_at hl 0 rfl) ?_
    refine lv_iload_n hx hb dM_insert_118 rfl (lv_at hl 1 rfl) ?_
    refine g_V (k := 1) F htw hB hS hP (17) (by decide) rfl rfl (c_M_become G ha hR h00 hD hk (by omega)) k3_22 k3_24 k0_6 k1_5 k3_25 (by decide +kernel) rfl rfl ⟨Nat.le_of_ble_eq_true rfl, Nat.le_of_ble_eq_true rfl⟩ rfl hl.1 rfl (Nat.le_of_ble_eq_true rfl) dM_insert_119 ⟨Nat.le_of_ble_eq_true rfl, Nat.le_of_ble_eq_true rfl⟩ (fun en1 H locs he hP hS => ?_)
    obtain ⟨M, rfl, h00, hR⟩ := he
    have hR := hR.to (k' := a_n a k + (t1 - f1)) (g' := cat (cat (a_b a k) b (fun i => a_b a j (f1 + i))) (b + (t1 - f1)) (fun i => a_b a k (b + i))) (by omega) (fun i hi => by simp [cat])
    rw [show 0 + (b - 0) + (t1 - f1) + (a_n a k - b) = a_n a k + (t1 - f1) by omega]
    exact W.iret hx hb hr (fun t ht hW => ⟨by rw [hk1, if_pos rfl]; simp [dk_nI hk, ix_nI (show k < 2 ^ 31 by omega), dk_nI hj, ix_nI (show j < 2 ^ 31 by omega), rg_nI hft htn hn_j, ix_nI (show f1 < 2 ^ 31 by omega), ix_nI (show t1 < 2 ^ 31 by omega), pc_nI hb1 hn_k, ix_nI (show b < 2 ^ 31 by omega), hg], ⟨_, ⟨M, rfl, by rw [hk1]; exact h00, by rw [hk1, if_pos rfl]; exact (by simpa [x_insert, dk_nI hk, ix_nI (show k < 2 ^ 31 by omega), dk_nI hj, ix_nI (show j < 2 ^ 31 by omega), rg_nI hft htn hn_j, ix_nI (show f1 < 2 ^ 31 by omega), ix_nI (show t1 < 2 ^ 31 by omega), pc_nI hb1 hn_k, ix_nI (show b < 2 ^ 31 by omega), hg] using hR)⟩, by rw [ht]; exact hP⟩, hS.F ht⟩) hS.2.2 dM_insert_122
  · have hk1 : (c_insert a (nI k) (nI b) (nI j) (nI f1) (nI t1)) = 3 := by simp [c_insert, hg, dk_nI hk, ix_nI (show k < 2 ^ 31 by omega), dk_nI hj, ix_nI (show j < 2 ^ 31 by omega), rg_nI hft htn hn_j, ix_nI (show f1 < 2 ^ 31 by omega), ix_nI (show t1 < 2 ^ 31 by omega), pc_nI hb1 hn_k, ix_nI (show b < 2 ^ 31 by omega)]
    refine lv_icmp_le (tgt := 71) hx hb dM_insert_64 (by decide) (fun hc => absurd hc (by rw [show (1000 : Int32) = nI 1000 from rfl, nI_leI (by omega) (by omega)]; omega)) (fun _ => ?_)
    refine lv_iconst (v := 3) hx hb dM_insert_67 (by decide) ?_
    refine lv_goto (tgt := 72) hx hb dM_insert_68 (by decide) ?_
    refine g_put F hK G hP hS (17) (by decide) rfl rfl iM tM tM_ok nM 0 (by decide) k2_196 rfl (ty := .int) (by decide +kernel) rfl rfl (Nat.le_of_ble_eq_true rfl) dM_insert_72 (fun H locs hP hS => ?_)
    have hP := P_of hP (en_m_code _ _ _ _ _ _ _ _ _ _ _)
    obtain ⟨M, hP, hR, h00⟩ : ∃ M1 : Nat → Nat → Int32, va_P D cl (gw ad (en ad cI cZ cT cJ pi dr S M1 o) 25) H ∧ RepM M1 a ∧ M1 0 0 = nI 3 := ⟨_, hP, hR.num (by decide), rfl⟩
    refine lv_aload_n hx hb dM_insert_75 rfl (lv_at hl 0 rfl) ?_
    refine g_get F hK hP (17) (by decide) rfl rfl iM 0 (by decide) k2_196 rfl dM_insert_76 ?_
    rw [h00]
    refine lv_if_le (tgt := 84) hx hb dM_insert_79 (by decide) (fun hc => absurd hc (show ¬ nI 3 ≤ 0 by decide)) (fun _ => ?_)
    refine lv_iconst (v := 0) hx hb dM_insert_82 (by decide) ?_
    exact W.iret hx hb hr (fun t ht hW => ⟨by rw [hk1]; rfl, ⟨_, ⟨M, rfl, by rw [hk1]; exact h00, by rw [hk1]; exact hR⟩, by rw [ht]; exact hP⟩, hS.F ht⟩) hS.2.2 dM_insert_83
set_option maxHeartbeats 4000000 in
set_option maxRecDepth 100000 in
theorem c_M_move (G : gGeo ad 25 base) (ha : a_ok a) (hR : RepM M a) (d f t q : Int32) : Met l yM_move (Cond.code yM_move bM_move 5 (some .int) :: tws) { frames := 2, cells := 0, slots := 0, locals := 51 } (gPc (tw D cI cZ cT cJ base) D cl ad 25 base (en ad cI cZ cT cJ pi dr S M o) [.ref (ad 17), .int d, .int f, .int t, .int q]) (gQc D cl ad 25 base (some (.int (if (c_move a d f t q) = 0 then (nI (a_n a (ix d))) else 0))) (fun e => ∃ M1 : Nat → Nat → Int32, e = en ad cI cZ cT cJ pi dr S M1 o ∧ M1 0 0 = nI (c_move a d f t q) ∧ RepM M1 (if (c_move a d f t q) = 0 then x_move a d f t q else a))) 0 0 (gA base) := by
  refine Met.ofW (cc := bM_move) (maxL := 5) (ret := (some .int)) (by decide) rfl ?_
  intro p e s m args below meth c s₁ B hml hv
  obtain ⟨rfl, htw, hB, hP⟩ := hv
  have hx := B.exec
  have hb := B.bytes
  have hr := B.returns
  have hts0 := atoms_spec (ws := Cond.code yM_move bM_move 5 (some .int) :: tws) B.pre
  have hts : ∀ w ∈ tws, w.before _ s = true := fun w h => hts0 w (List.mem_cons_of_mem _ h)
  have hown : s.vm.findClass "PairedTextsModel" = some m.cls := findClass_of_methodNamed B.named
  have hlocks := B.notSynchronized
  have hno := B.noHandlers (hts0 _ List.mem_cons_self)
  have F : CallFix p m c bM_move 5 s _ tws "PairedTextsModel" := ⟨hx, hb, hml, hown, hts⟩
  have hK := htw.1
  have hS : va_S (gA base) s.heap s.heap [] := va_S.rf
  have hl := lv_entry ([.ref (ad 17), .int d, .int f, .int t, .int q]) (n := 5) (Nat.le_of_ble_eq_true rfl)
  rw [lg_entry_eq]
  generalize (lg_sl ([.ref (ad 17), .int d, .int f, .int t, .int q]) ++ List.replicate (5 - (lg_sl ([.ref (ad 17), .int d, .int f, .int t, .int q])).length) Slot.unset).toArray = ls at hl ⊢
  have hl : lv_has ls 5 [(0, .ref (ad 17)), (1, .int d), (2, .int f), (3, .int t), (4, .int q)] := hl
  have z0 : (0 : Int32).toInt = 0 := rfl
  refine lv_aload_n hx hb dM_move_0 rfl (lv_at hl 0 rfl) ?_
  refine lv_iload_n hx hb dM_move_1 rfl (lv_at hl 1 rfl) ?_
  rcases dk_or d with hd | ⟨k, hk, rfl⟩
  · have hk1 : (c_move a d f t q) = 1 := by simp [c_move, hd.1]
    refine g_S (k := 1) F htw hB hS hP (c_M_isDocument d) k2_238 k2_239 k1_5 k3_0 (by decide +kernel) rfl rfl ⟨Nat.le_of_ble_eq_true rfl, Nat.le_of_ble_eq_true rfl⟩ rfl hl.1 rfl (Nat.le_of_ble_eq_true rfl) dM_move_2 ⟨Nat.le_of_ble_eq_true rfl, Nat.le_of_ble_eq_true rfl⟩ (fun en1 H locs he hP hS => ?_)
    obtain rfl := he
    refine lv_if_ne (tgt := 12) hx hb dM_move_5 (by decide) (fun hc => absurd (show (if dk d then (1 : Int32) else 0) = 0 by rw [hd.1]; rfl) hc) (fun _ => ?_)
    refine lv_iconst (v := 1) hx hb dM_move_8 (by decide) ?_
    refine lv_goto (tgt := 47) hx hb dM_move_9 (by decide) ?_
    refine g_put F hK G hP hS (17) (by decide) rfl rfl iM tM tM_ok nM 0 (by decide) k2_196 rfl (ty := .int) (by decide +kernel) rfl rfl (Nat.le_of_ble_eq_true rfl) dM_move_47 (fun H locs hP hS => ?_)
    have hP := P_of hP (en_m_code _ _ _ _ _ _ _ _ _ _ _)
    obtain ⟨M, hP, hR, h00⟩ : ∃ M1 : Nat → Nat → Int32, va_P D cl (gw ad (en ad cI cZ cT cJ pi dr S M1 o) 25) H ∧ RepM M1 a ∧ M1 0 0 = nI 1 := ⟨_, hP, hR.num (by decide), rfl⟩
    refine lv_aload_n hx hb dM_move_50 rfl (lv_at hl 0 rfl) ?_
    refine g_get F hK hP (17) (by decide) rfl rfl iM 0 (by decide) k2_196 rfl dM_move_51 ?_
    rw [h00]
    refine lv_if_le (tgt := 59) hx hb dM_move_54 (by decide) (fun hc => absurd hc (show ¬ nI 1 ≤ 0 by decide)) (fun _ => ?_)
    refine lv_iconst (v := 0) hx hb dM_move_57 (by decide) ?_
    exact W.iret hx hb hr (fun t ht hW => ⟨by rw [hk1]; rfl, ⟨_, ⟨M, rfl, by rw [hk1]; exact h00, by rw [hk1]; exact hR⟩, by rw [ht]; exact hP⟩, hS.F ht⟩) hS.2.2 dM_move_58
  refine g_S (k := 1) F htw hB hS hP (c_M_isDocument (nI k)) k2_238 k2_239 k1_5 k3_0 (by decide +kernel) rfl rfl ⟨Nat.le_of_ble_eq_true rfl, Nat.le_of_ble_eq_true rfl⟩ rfl hl.1 rfl (Nat.le_of_ble_eq_true rfl) dM_move_2 ⟨Nat.le_of_ble_eq_true rfl, Nat.le_of_ble_eq_true rfl⟩ (fun en1 H locs he hP hS => ?_)
  obtain rfl := he
  refine lv_if_ne (tgt := 12) hx hb dM_move_5 (by decide) (fun _ => ?_) (fun hc => absurd hc (show ¬ (if dk (nI k) then (1 : Int32) else 0) = 0 by rw [dk_nI hk]; decide))
  have hn_k := ha.1 k hk
  refine lv_aload_n hx hb dM_move_12 rfl (lv_at hl 0 rfl) ?_
  refine lv_iload_n hx hb dM_move_13 rfl (lv_at hl 1 rfl) ?_
  refine lv_iload_n hx hb dM_move_14 rfl (lv_at hl 2 rfl) ?_
  refine lv_iload_n hx hb dM_move_15 rfl (lv_at hl 3 rfl) ?_
  rcases rg_or f t hn_k with hgr | ⟨f1, t1, hft, htn, rfl, rfl⟩
  · have hk1 : (c_move a (nI k) f t q) = 2 := by simp [c_move, dk_nI hk, ix_nI (show k < 2 ^ 31 by omega), hgr]
    refine g_V (k := 3) F htw hB hS hP (17) (by decide) rfl rfl (c_M_isRange hk hn_k (hR.1 k hk) f t) k3_14 k3_16 k0_4 k1_5 k3_17 (by decide +kernel) rfl rfl ⟨Nat.le_of_ble_eq_true rfl, Nat.le_of_ble_eq_true rfl⟩ rfl hl.1 rfl (Nat.le_of_ble_eq_true rfl) dM_move_16 ⟨Nat.le_of_ble_eq_true rfl, Nat.le_of_ble_eq_true rfl⟩ (fun en1 H locs he hP hS => ?_)
    obtain rfl := he
    refine lv_if_eq (tgt := 42) hx hb dM_move_19 (by decide) (fun _ => ?_) (fun hc => absurd (show (if rg f t (a_n a k) then (1 : Int32) else 0) = 0 by rw [hgr]; rfl) hc)
    refine lv_iconst (v := 2) hx hb dM_move_42 (by decide) ?_
    refine lv_goto (tgt := 47) hx hb dM_move_43 (by decide) ?_
    refine g_put F hK G hP hS (17) (by decide) rfl rfl iM tM tM_ok nM 0 (by decide) k2_196 rfl (ty := .int) (by decide +kernel) rfl rfl (Nat.le_of_ble_eq_true rfl) dM_move_47 (fun H locs hP hS => ?_)
    have hP := P_of hP (en_m_code _ _ _ _ _ _ _ _ _ _ _)
    obtain ⟨M, hP, hR, h00⟩ : ∃ M1 : Nat → Nat → Int32, va_P D cl (gw ad (en ad cI cZ cT cJ pi dr S M1 o) 25) H ∧ RepM M1 a ∧ M1 0 0 = nI 2 := ⟨_, hP, hR.num (by decide), rfl⟩
    refine lv_aload_n hx hb dM_move_50 rfl (lv_at hl 0 rfl) ?_
    refine g_get F hK hP (17) (by decide) rfl rfl iM 0 (by decide) k2_196 rfl dM_move_51 ?_
    rw [h00]
    refine lv_if_le (tgt := 59) hx hb dM_move_54 (by decide) (fun hc => absurd hc (show ¬ nI 2 ≤ 0 by decide)) (fun _ => ?_)
    refine lv_iconst (v := 0) hx hb dM_move_57 (by decide) ?_
    exact W.iret hx hb hr (fun t ht hW => ⟨by rw [hk1]; rfl, ⟨_, ⟨M, rfl, by rw [hk1]; exact h00, by rw [hk1]; exact hR⟩, by rw [ht]; exact hP⟩, hS.F ht⟩) hS.2.2 dM_move_58
  refine g_V (k := 3) F htw hB hS hP (17) (by decide) rfl rfl (c_M_isRange hk hn_k (hR.1 k hk) (nI f1) (nI t1)) k3_14 k3_16 k0_4 k1_5 k3_17 (by decide +kernel) rfl rfl ⟨Nat.le_of_ble_eq_true rfl, Nat.le_of_ble_eq_true rfl⟩ rfl hl.1 rfl (Nat.le_of_ble_eq_true rfl) dM_move_16 ⟨Nat.le_of_ble_eq_true rfl, Nat.le_of_ble_eq_true rfl⟩ (fun en1 H locs he hP hS => ?_)
  obtain rfl := he
  refine lv_if_eq (tgt := 42) hx hb dM_move_19 (by decide) (fun hc => absurd hc (show ¬ (if rg (nI f1) (nI t1) (a_n a k) then (1 : Int32) else 0) = 0 by rw [rg_nI hft htn hn_k]; decide)) (fun _ => ?_)
  refine lv_iload hx hb dM_move_22 (lv_at hl 4 rfl) ?_
  have hwn : a_n a k - (t1 - f1) ≤ 1000 := by omega
  have zk := nI_toInt (show a_n a k - (t1 - f1) < 2 ^ 31 by omega)
  rcases pc_or q hwn with hg | ⟨b, hb1, rfl⟩
  · have hk1 : (c_move a (nI k) (nI f1) (nI t1) q) = 2 := by simp [c_move, dk_nI hk, ix_nI (show k < 2 ^ 31 by omega), rg_nI hft htn hn_k, ix_nI (show f1 < 2 ^ 31 by omega), ix_nI (show t1 < 2 ^ 31 by omega), hg]
    have hg2 : q.toInt < 0 ∨ ((a_n a k - (t1 - f1) : Nat) : Int) < q.toInt := by unfold pcL at hg; simp only [decide_eq_false_iff_not] at hg; omega
    refine lv_if_lt (tgt := 42) hx hb dM_move_24 (by decide) (fun hc => ?_) (fun hc => ?_)
    · refine lv_iconst (v := 2) hx hb dM_move_42 (by decide) ?_
      refine lv_goto (tgt := 47) hx hb dM_move_43 (by decide) ?_
      refine g_put F hK G hP hS (17) (by decide) rfl rfl iM tM tM_ok nM 0 (by decide) k2_196 rfl (ty := .int) (by decide +kernel) rfl rfl (Nat.le_of_ble_eq_true rfl) dM_move_47 (fun H locs hP hS => ?_)
      have hP := P_of hP (en_m_code _ _ _ _ _ _ _ _ _ _ _)
      obtain ⟨M, hP, hR, h00⟩ : ∃ M1 : Nat → Nat → Int32, va_P D cl (gw ad (en ad cI cZ cT cJ pi dr S M1 o) 25) H ∧ RepM M1 a ∧ M1 0 0 = nI 2 := ⟨_, hP, hR.num (by decide), rfl⟩
      refine lv_aload_n hx hb dM_move_50 rfl (lv_at hl 0 rfl) ?_
      refine g_get F hK hP (17) (by decide) rfl rfl iM 0 (by decide) k2_196 rfl dM_move_51 ?_
      rw [h00]
      refine lv_if_le (tgt := 59) hx hb dM_move_54 (by decide) (fun hc => absurd hc (show ¬ nI 2 ≤ 0 by decide)) (fun _ => ?_)
      refine lv_iconst (v := 0) hx hb dM_move_57 (by decide) ?_
      exact W.iret hx hb hr (fun t ht hW => ⟨by rw [hk1]; rfl, ⟨_, ⟨M, rfl, by rw [hk1]; exact h00, by rw [hk1]; exact hR⟩, by rw [ht]; exact hP⟩, hS.F ht⟩) hS.2.2 dM_move_58
    · simp only [Int32.lt_iff_toInt_lt, Int32.le_iff_toInt_le] at hc
      refine lv_iload hx hb dM_move_27 (lv_at hl 4 rfl) ?_
      refine lv_aload_n hx hb dM_move_29 rfl (lv_at hl 0 rfl) ?_
      refine g_get F hK hP (17) (by decide) rfl rfl iM 2 (by decide) k2_198 rfl dM_move_30 ?_
      refine lv_iload_n hx hb dM_move_33 rfl (lv_at hl 1 rfl) ?_
      refine g_iald F hK hP (19) (by decide) 0 rfl rfl (vp_in_nI hk (by omega)) dM_move_34 ?_
      rw [nI_clamp (show k < 2 ^ 31 by omega), hR.1 k hk]
      refine lv_iload_n hx hb dM_move_35 rfl (lv_at hl 3 rfl) ?_
      refine lv_iload_n hx hb dM_move_36 rfl (lv_at hl 2 rfl) ?_
      refine lv_isub hx hb dM_move_37 ?_
      rw [pk_sub hft]
      refine lv_isub hx hb dM_move_38 ?_
      rw [pk_sub (show t1 - f1 ≤ a_n a k by omega)]
      refine lv_icmp_le (tgt := 46) hx hb dM_move_39 (by decide) (fun hc => absurd hc (by simp only [Int32.lt_iff_toInt_lt, Int32.le_iff_toInt_le]; omega)) (fun _ => ?_)
      refine lv_iconst (v := 2) hx hb dM_move_42 (by decide) ?_
      refine lv_goto (tgt := 47) hx hb dM_move_43 (by decide) ?_
      refine g_put F hK G hP hS (17) (by decide) rfl rfl iM tM tM_ok nM 0 (by decide) k2_196 rfl (ty := .int) (by decide +kernel) rfl rfl (Nat.le_of_ble_eq_true rfl) dM_move_47 (fun H locs hP hS => ?_)
      have hP := P_of hP (en_m_code _ _ _ _ _ _ _ _ _ _ _)
      obtain ⟨M, hP, hR, h00⟩ : ∃ M1 : Nat → Nat → Int32, va_P D cl (gw ad (en ad cI cZ cT cJ pi dr S M1 o) 25) H ∧ RepM M1 a ∧ M1 0 0 = nI 2 := ⟨_, hP, hR.num (by decide), rfl⟩
      refine lv_aload_n hx hb dM_move_50 rfl (lv_at hl 0 rfl) ?_
      refine g_get F hK hP (17) (by decide) rfl rfl iM 0 (by decide) k2_196 rfl dM_move_51 ?_
      rw [h00]
      refine lv_if_le (tgt := 59) hx hb dM_move_54 (by decide) (fun hc => absurd hc (show ¬ nI 2 ≤ 0 by decide)) (fun _ => ?_)
      refine lv_iconst (v := 0) hx hb dM_move_57 (by decide) ?_
      exact W.iret hx hb hr (fun t ht hW => ⟨by rw [hk1]; rfl, ⟨_, ⟨M, rfl, by rw [hk1]; exact h00, by rw [hk1]; exact hR⟩, by rw [ht]; exact hP⟩, hS.F ht⟩) hS.2.2 dM_move_58
  have zb := nI_toInt (show b < 2 ^ 31 by omega)
  have hk1 : (c_move a (nI k) (nI f1) (nI t1) (nI b)) = 0 := by simp [c_move, dk_nI hk, ix_nI (show k < 2 ^ 31 by omega), rg_nI hft htn hn_k, ix_nI (show f1 < 2 ^ 31 by omega), ix_nI (show t1 < 2 ^ 31 by omega), pc_nI hb1 hwn, ix_nI (show b < 2 ^ 31 by omega)]
  refine lv_if_lt (tgt := 42) hx hb dM_move_24 (by decide) (fun hc => absurd hc (by simp only [Int32.lt_iff_toInt_lt, Int32.le_iff_toInt_le]; omega)) (fun _ => ?_)
  refine lv_iload hx hb dM_move_27 (lv_at hl 4 rfl) ?_
  refine lv_aload_n hx hb dM_move_29 rfl (lv_at hl 0 rfl) ?_
  refine g_get F hK hP (17) (by decide) rfl rfl iM 2 (by decide) k2_198 rfl dM_move_30 ?_
  refine lv_iload_n hx hb dM_move_33 rfl (lv_at hl 1 rfl) ?_
  refine g_iald F hK hP (19) (by decide) 0 rfl rfl (vp_in_nI hk (by omega)) dM_move_34 ?_
  rw [nI_clamp (show k < 2 ^ 31 by omega), hR.1 k hk]
  refine lv_iload_n hx hb dM_move_35 rfl (lv_at hl 3 rfl) ?_
  refine lv_iload_n hx hb dM_move_36 rfl (lv_at hl 2 rfl) ?_
  refine lv_isub hx hb dM_move_37 ?_
  rw [pk_sub hft]
  refine lv_isub hx hb dM_move_38 ?_
  rw [pk_sub (show t1 - f1 ≤ a_n a k by omega)]
  refine lv_icmp_le (tgt := 46) hx hb dM_move_39 (by decide) (fun _ => ?_) (fun hc => absurd (by simp only [Int32.lt_iff_toInt_lt, Int32.le_iff_toInt_le]; omega) hc)
  refine lv_iconst (v := 0) hx hb dM_move_46 (by decide) ?_
  refine g_put F hK G hP hS (17) (by decide) rfl rfl iM tM tM_ok nM 0 (by decide) k2_196 rfl (ty := .int) (by decide +kernel) rfl rfl (Nat.le_of_ble_eq_true rfl) dM_move_47 (fun H locs hP hS => ?_)
  have hP := P_of hP (en_m_code _ _ _ _ _ _ _ _ _ _ _)
  obtain ⟨M, hP, hR, h00⟩ : ∃ M1 : Nat → Nat → Int32, va_P D cl (gw ad (en ad cI cZ cT cJ pi dr S M1 o) 25) H ∧ RepM M1 a ∧ M1 0 0 = nI 0 := ⟨_, hP, hR.num (by decide), rfl⟩
  refine lv_aload_n hx hb dM_move_50 rfl (lv_at hl 0 rfl) ?_
  refine g_get F hK hP (17) (by decide) rfl rfl iM 0 (by decide) k2_196 rfl dM_move_51 ?_
  rw [h00]
  refine lv_if_le (tgt := 59) hx hb dM_move_54 (by decide) (fun _ => ?_) (fun hc => absurd (show  nI 0 ≤ 0 by decide) hc)
  refine lv_aload_n hx hb dM_move_59 rfl (lv_at hl 0 rfl) ?_
  refine lv_iconst (v := 0) hx hb dM_move_60 (by decide) ?_
  refine g_put F hK G hP hS (17) (by decide) rfl rfl iM tM tM_ok nM 4 (by decide) k2_200 rfl (ty := .int) (by decide +kernel) rfl rfl (Nat.le_of_ble_eq_true rfl) dM_move_61 (fun H locs hP hS => ?_)
  have hP := P_of hP (en_m_drafted _ _ _ _ _ _ _ _ _ _ _)
  obtain ⟨M, hP, hR, h00, hD⟩ : ∃ M1 : Nat → Nat → Int32, va_P D cl (gw ad (en ad cI cZ cT cJ pi dr S M1 o) 25) H ∧ RepM M1 a ∧ M1 0 0 = nI 0 ∧ RepDM M1 0 (fun _ => 0) := ⟨_, hP, hR.num (by decide), h00, rfl, fun i hi => absurd hi (Nat.not_lt_zero _)⟩
  refine lv_aload_n hx hb dM_move_64 rfl (lv_at hl 0 rfl) ?_
  refine lv_iload_n hx hb dM_move_65 rfl (lv_at hl 1 rfl) ?_
  refine lv_iload_n hx hb dM_move_66 rfl (lv_at hl 2 rfl) ?_
  refine lv_iload_n hx hb dM_move_67 rfl (lv_at hl 3 rfl) ?_
  refine lv_iconst (v := 0) hx hb dM_move_68 (by decide) ?_
  refine lv_iload hx hb dM_move_69 (lv_at hl 4 rfl) ?_
  rw [show (0 : Int32) = nI 0 from rfl]
  refine g_V (k := 5) F htw hB hS hP (17) (by decide) rfl rfl (c_M_addRest G ha hR h00 hD hk hft htn (by omega) (by omega) (by omega)) k3_42 k3_44 k0_7 k1_5 k3_45 (by decide +kernel) rfl rfl ⟨Nat.le_of_ble_eq_true rfl, Nat.le_of_ble_eq_true rfl⟩ rfl hl.1 rfl (Nat.le_of_ble_eq_true rfl) dM_move_71 ⟨Nat.le_of_ble_eq_true rfl, Nat.le_of_ble_eq_true rfl⟩ (fun en1 H locs he hP hS => ?_)
  obtain ⟨M, rfl, h00, hR, hD⟩ := he
  refine lv_aload_n hx hb dM_move_74 rfl (lv_at hl 0 rfl) ?_
  refine lv_iload_n hx hb dM_move_75 rfl (lv_at hl 1 rfl) ?_
  refine lv_iload_n hx hb dM_move_76 rfl (lv_at hl 2 rfl) ?_
  refine lv_iload_n hx hb dM_move_77 rfl (lv_at hl 3 rfl) ?_
  refine g_V (k := 3) F htw hB hS hP (17) (by decide) rfl rfl (c_M_add G ha hR h00 hD hk (by omega) (by omega) (by omega)) k3_18 k3_20 k0_5 k1_5 k3_21 (by decide +kernel) rfl rfl ⟨Nat.le_of_ble_eq_true rfl, Nat.le_of_ble_eq_true rfl⟩ rfl hl.1 rfl (Nat.le_of_ble_eq_true rfl) dM_move_78 ⟨Nat.le_of_ble_eq_true rfl, Nat.le_of_ble_eq_true rfl⟩ (fun en1 H locs he hP hS => ?_)
  obtain ⟨M, rfl, h00, hR, hD⟩ := he
  refine lv_aload_n hx hb dM_move_81 rfl (lv_at hl 0 rfl) ?_
  refine lv_iload_n hx hb dM_move_82 rfl (lv_at hl 1 rfl) ?_
  refine lv_iload_n hx hb dM_move_83 rfl (lv_at hl 2 rfl) ?_
  refine lv_iload_n hx hb dM_move_84 rfl (lv_at hl 3 rfl) ?_
  refine lv_iload hx hb dM_move_85 (lv_at hl 4 rfl) ?_
  refine lv_aload_n hx hb dM_move_87 rfl (lv_at hl 0 rfl) ?_
  refine g_get F hK hP (17) (by decide) rfl rfl iM 2 (by decide) k2_198 rfl dM_move_88 ?_
  refine lv_iload_n hx hb dM_move_91 rfl (lv_at hl 1 rfl) ?_
  refine g_iald F hK hP (19) (by decide) 0 rfl rfl (vp_in_nI hk (by omega)) dM_move_92 ?_
  rw [nI_clamp (show k < 2 ^ 31 by omega), hR.1 k hk]
  refine lv_iload_n hx hb dM_move_93 rfl (lv_at hl 3 rfl) ?_
  refine lv_iload_n hx hb dM_move_94 rfl (lv_at hl 2 rfl) ?_
  refine lv_isub hx hb dM_move_95 ?_
  rw [pk_sub hft]
  refine lv_isub hx hb dM_move_96 ?_
  rw [pk_sub (show t1 - f1 ≤ a_n a k by omega)]
  refine g_V (k := 5) F htw hB hS hP (17) (by decide) rfl rfl (c_M_addRest G ha hR h00 hD hk hft htn (by omega) (by omega) (by omega)) k3_42 k3_44 k0_7 k1_5 k3_45 (by decide +kernel) rfl rfl ⟨Nat.le_of_ble_eq_true rfl, Nat.le_of_ble_eq_true rfl⟩ rfl hl.1 rfl (Nat.le_of_ble_eq_true rfl) dM_move_97 ⟨Nat.le_of_ble_eq_true rfl, Nat.le_of_ble_eq_true rfl⟩ (fun en1 H locs he hP hS => ?_)
  obtain ⟨M, rfl, h00, hR, hD⟩ := he
  refine lv_aload_n hx hb dM_move_100 rfl (lv_at hl 0 rfl) ?_
  refine lv_iload_n hx hb dM_move_101 rfl (lv_at hl 1 rfl) ?_
  refine g_V (k := 1) F htw hB hS hP (17) (by decide) rfl rfl (c_M_become G ha hR h00 hD hk (by omega)) k3_22 k3_24 k0_6 k1_5 k3_25 (by decide +kernel) rfl rfl ⟨Nat.le_of_ble_eq_true rfl, Nat.le_of_ble_eq_true rfl⟩ rfl hl.1 rfl (Nat.le_of_ble_eq_true rfl) dM_move_102 ⟨Nat.le_of_ble_eq_true rfl, Nat.le_of_ble_eq_true rfl⟩ (fun en1 H locs he hP hS => ?_)
  obtain ⟨M, rfl, h00, hR⟩ := he
  have hR := hR.to (k' := a_n a k) (g' := cat (cat (rst (a_b a k) f1 (t1 - f1)) b (fun i => a_b a k (f1 + i))) (b + (t1 - f1)) (fun i => rst (a_b a k) f1 (t1 - f1) (b + i))) (by omega) (fun i hi => by simp only [cat, rst]; (repeat' split) <;> first | (exfalso; omega) | (congr 1; omega))
  rw [show 0 + (b - 0) + (t1 - f1) + (a_n a k - (t1 - f1) - b) = a_n a k by omega]
  exact W.iret hx hb hr (fun t ht hW => ⟨by rw [hk1, if_pos rfl]; simp [dk_nI hk, ix_nI (show k < 2 ^ 31 by omega), rg_nI hft htn hn_k, ix_nI (show f1 < 2 ^ 31 by omega), ix_nI (show t1 < 2 ^ 31 by omega), pc_nI hb1 hwn, ix_nI (show b < 2 ^ 31 by omega)], ⟨_, ⟨M, rfl, by rw [hk1]; exact h00, by rw [hk1, if_pos rfl]; exact (by simpa [x_move, dk_nI hk, ix_nI (show k < 2 ^ 31 by omega), rg_nI hft htn hn_k, ix_nI (show f1 < 2 ^ 31 by omega), ix_nI (show t1 < 2 ^ 31 by omega), pc_nI hb1 hwn, ix_nI (show b < 2 ^ 31 by omega)] using hR)⟩, by rw [ht]; exact hP⟩, hS.F ht⟩) hS.2.2 dM_move_105
end N2
