/-! The reference's calls: lead, accept, run, accepted. -/
theorem RepM.sx {M : Nat → Nat → Int32} {a : Ab} {f : Nat → Int32} {g : Nat → Nat} (h : RepM M a) (hf : ∀ q, q < 2048 → f q = nI (g q)) : RepM (sr M 5 f) (a_n a, a_b a, a_p a, a_q a, g, a_c a) := by
  obtain ⟨c4, c5, c6, c7, c8, c9⟩ := h
  refine ⟨fun d hd => ?_, fun d i hd hi => ?_, ?_, fun k hk => ?_, fun q hq => ?_, fun q hq => ?_⟩
  · rw [sr_n (by decide)]; exact c4 d hd
  · rw [sr_n (by decide)]; exact c5 d i hd hi
  · rw [sr_n (by decide)]; exact c6
  · rw [sr_n (by decide)]; exact c7 k hk
  · rw [sr_s]; exact hf q hq
  · rw [sr_n (by decide)]; exact c9 q hq
theorem RepM.sc {M : Nat → Nat → Int32} {a : Ab} {f : Nat → Int32} {g : Nat → Nat} (h : RepM M a) (hf : ∀ q, q < 8 → f q = nI (g q)) : RepM (sr M 6 f) (a_n a, a_b a, a_p a, a_q a, a_x a, g) := by
  obtain ⟨c4, c5, c6, c7, c8, c9⟩ := h
  refine ⟨fun d hd => ?_, fun d i hd hi => ?_, ?_, fun k hk => ?_, fun q hq => ?_, fun q hq => ?_⟩
  · rw [sr_n (by decide)]; exact c4 d hd
  · rw [sr_n (by decide)]; exact c5 d i hd hi
  · rw [sr_n (by decide)]; exact c6
  · rw [sr_n (by decide)]; exact c7 k hk
  · rw [sr_n (by decide)]; exact c8 q hq
  · rw [sr_s]; exact hf q hq
theorem k_at2 (d i : Nat) : (256 : Int32) * nI d + nI i = nI (256 * d + i) := by rw [show (256 : Int32) = nI 256 from rfl, pk_mul, nI_add]
section N5
variable {l : Launch} {D : va_G} {cI cZ cT cJ : ClassId} {base : Nat} {ad : Nat → Nat} {pi : Nat → Nat} {dr : Nat} {S M : Nat → Nat → Int32} {o : Nat → Int64} {a : Ab}
set_option maxHeartbeats 4000000 in
set_option maxRecDepth 100000 in
theorem c_M_lead (G : gGeo ad 25 base) (ha : a_ok a) (hR : RepM M a) (s0 lo hi t0 : Int32) : Met l yM_lead (Cond.code yM_lead bM_lead 6 none :: tws) { frames := 0, cells := 0, slots := 0, locals := 0 } (gPc (tw D cI cZ cT cJ base) D cl ad 25 base (en ad cI cZ cT cJ pi dr S M o) [.ref (ad 17), .int s0, .int lo, .int hi, .int t0]) (gQc D cl ad 25 base none (fun e => ∃ M1 : Nat → Nat → Int32, e = en ad cI cZ cT cJ pi dr S M1 o ∧ M1 0 0 = nI (c_lead s0 lo hi t0) ∧ RepM M1 (if (c_lead s0 lo hi t0) = 0 then x_lead a s0 lo hi t0 else a))) 0 0 (gA base) := by
  refine Met.ofW (cc := bM_lead) (maxL := 6) (ret := none) (by decide) rfl ?_
  intro p e s m args below meth c s₁ B hml hv
  obtain ⟨rfl, htw, hB, hP⟩ := hv
  have hx := B.exec
  have hb := B.bytes
  have hr := B.returns
  have hts0 := atoms_spec (ws := Cond.code yM_lead bM_lead 6 none :: tws) B.pre
  have hts : ∀ w ∈ tws, w.before _ s = true := fun w h => hts0 w (List.mem_cons_of_mem _ h)
  have hown : s.vm.findClass "PairedTextsModel" = some m.cls := findClass_of_methodNamed B.named
  have hlocks := B.notSynchronized
  have hno := B.noHandlers (hts0 _ List.mem_cons_self)
  have F : CallFix p m c bM_lead 6 s _ tws "PairedTextsModel" := ⟨hx, hb, hml, hown, hts⟩
  have hK := htw.1
  have hS : va_S (gA base) s.heap s.heap [] := va_S.rf
  have hl := lv_entry ([.ref (ad 17), .int s0, .int lo, .int hi, .int t0]) (n := 6) (Nat.le_of_ble_eq_true rfl)
  rw [lg_entry_eq]
  generalize (lg_sl ([.ref (ad 17), .int s0, .int lo, .int hi, .int t0]) ++ List.replicate (6 - (lg_sl ([.ref (ad 17), .int s0, .int lo, .int hi, .int t0])).length) Slot.unset).toArray = ls at hl ⊢
  have hl : lv_has ls 6 [(0, .ref (ad 17)), (1, .int s0), (2, .int lo), (3, .int hi), (4, .int t0)] := hl
  have z0 : (0 : Int32).toInt = 0 := rfl
  have z7 : (7 : Int32).toInt = 7 := rfl
  have z8 : (255 : Int32).toInt = 255 := rfl
  refine lv_aload_n hx hb dM_lead_0 rfl (lv_at hl 0 rfl) ?_
  refine lv_iload_n hx hb dM_lead_1 rfl (lv_at hl 1 rfl) ?_
  refine lv_if_lt (tgt := 39) hx hb dM_lead_2 (by decide) (fun q0 => ?_) (fun q0 => ?_)
  · simp only [Int32.lt_iff_toInt_lt, Int32.le_iff_toInt_le] at q0
    have hk1 : c_lead s0 lo hi t0 = 1 := by unfold c_lead; rw [if_neg]; unfold sk; simp only [Bool.and_eq_true, decide_eq_true_eq]; omega
    refine lv_iconst (v := 1) hx hb dM_lead_39 (by decide) ?_
    refine lv_goto (tgt := 44) hx hb dM_lead_40 (by decide) ?_
    refine g_put F hK G hP hS (17) (by decide) rfl rfl iM tM tM_ok nM 0 (by decide) k2_196 rfl (ty := .int) (by decide +kernel) rfl rfl (Nat.le_of_ble_eq_true rfl) dM_lead_44 (fun H locs hP hS => ?_)
    have hP := P_of hP (en_m_code _ _ _ _ _ _ _ _ _ _ _)
    obtain ⟨M, hP, hR, h00⟩ : ∃ M1 : Nat → Nat → Int32, va_P D cl (gw ad (en ad cI cZ cT cJ pi dr S M1 o) 25) H ∧ RepM M1 a ∧ M1 0 0 = nI 1 := ⟨_, hP, hR.num (by decide), rfl⟩
    refine lv_iload_n hx hb dM_lead_47 rfl (lv_at hl 2 rfl) ?_
    refine lv_istore hx hb dM_lead_48 hl (by decide) rfl (fun ls hl => ?_)
    have hl : lv_has ls 6 [(5, .int _), (0, .ref _), (1, .int _), (2, .int _), (3, .int _), (4, .int _)] := hl
    refine lv_iload hx hb dM_lead_50 (lv_at hl 0 rfl) ?_
    refine lv_iload_n hx hb dM_lead_52 rfl (lv_at hl 4 rfl) ?_
    refine lv_icmp_gt (tgt := 84) hx hb dM_lead_53 (by decide) (fun hc => ?_) (fun hc => ?_)
    · exact W.vret hx hb hr (fun t ht hW => ⟨rfl, ⟨_, ⟨M, rfl, by rw [hk1]; exact h00, by rw [hk1]; exact hR⟩, by rw [ht]; exact hP⟩, hS.F ht⟩) hS.2.2 dM_lead_84
    · refine lv_aload_n hx hb dM_lead_56 rfl (lv_at hl 1 rfl) ?_
      refine g_get F hK hP (17) (by decide) rfl rfl iM 0 (by decide) k2_196 rfl dM_lead_57 ?_
      rw [h00]
      refine lv_if_ne (tgt := 84) hx hb dM_lead_60 (by decide) (fun _ => ?_) (fun hc => absurd hc (show ¬ nI 1 = 0 by decide))
      exact W.vret hx hb hr (fun t ht hW => ⟨rfl, ⟨_, ⟨M, rfl, by rw [hk1]; exact h00, by rw [hk1]; exact hR⟩, by rw [ht]; exact hP⟩, hS.F ht⟩) hS.2.2 dM_lead_84
  · simp only [Int32.lt_iff_toInt_lt, Int32.le_iff_toInt_le] at q0
    refine lv_iload_n hx hb dM_lead_5 rfl (lv_at hl 1 rfl) ?_
    refine lv_bipush (v := 7) hx hb dM_lead_6 (by decide) ?_
    refine lv_icmp_gt (tgt := 39) hx hb dM_lead_8 (by decide) (fun q1 => ?_) (fun q1 => ?_)
    · simp only [Int32.lt_iff_toInt_lt, Int32.le_iff_toInt_le] at q1
      have hk1 : c_lead s0 lo hi t0 = 1 := by unfold c_lead; rw [if_neg]; unfold sk; simp only [Bool.and_eq_true, decide_eq_true_eq]; omega
      refine lv_iconst (v := 1) hx hb dM_lead_39 (by decide) ?_
      refine lv_goto (tgt := 44) hx hb dM_lead_40 (by decide) ?_
      refine g_put F hK G hP hS (17) (by decide) rfl rfl iM tM tM_ok nM 0 (by decide) k2_196 rfl (ty := .int) (by decide +kernel) rfl rfl (Nat.le_of_ble_eq_true rfl) dM_lead_44 (fun H locs hP hS => ?_)
      have hP := P_of hP (en_m_code _ _ _ _ _ _ _ _ _ _ _)
      obtain ⟨M, hP, hR, h00⟩ : ∃ M1 : Nat → Nat → Int32, va_P D cl (gw ad (en ad cI cZ cT cJ pi dr S M1 o) 25) H ∧ RepM M1 a ∧ M1 0 0 = nI 1 := ⟨_, hP, hR.num (by decide), rfl⟩
      refine lv_iload_n hx hb dM_lead_47 rfl (lv_at hl 2 rfl) ?_
      refine lv_istore hx hb dM_lead_48 hl (by decide) rfl (fun ls hl => ?_)
      have hl : lv_has ls 6 [(5, .int _), (0, .ref _), (1, .int _), (2, .int _), (3, .int _), (4, .int _)] := hl
      refine lv_iload hx hb dM_lead_50 (lv_at hl 0 rfl) ?_
      refine lv_iload_n hx hb dM_lead_52 rfl (lv_at hl 4 rfl) ?_
      refine lv_icmp_gt (tgt := 84) hx hb dM_lead_53 (by decide) (fun hc => ?_) (fun hc => ?_)
      · exact W.vret hx hb hr (fun t ht hW => ⟨rfl, ⟨_, ⟨M, rfl, by rw [hk1]; exact h00, by rw [hk1]; exact hR⟩, by rw [ht]; exact hP⟩, hS.F ht⟩) hS.2.2 dM_lead_84
      · refine lv_aload_n hx hb dM_lead_56 rfl (lv_at hl 1 rfl) ?_
        refine g_get F hK hP (17) (by decide) rfl rfl iM 0 (by decide) k2_196 rfl dM_lead_57 ?_
        rw [h00]
        refine lv_if_ne (tgt := 84) hx hb dM_lead_60 (by decide) (fun _ => ?_) (fun hc => absurd hc (show ¬ nI 1 = 0 by decide))
        exact W.vret hx hb hr (fun t ht hW => ⟨rfl, ⟨_, ⟨M, rfl, by rw [hk1]; exact h00, by rw [hk1]; exact hR⟩, by rw [ht]; exact hP⟩, hS.F ht⟩) hS.2.2 dM_lead_84
    · simp only [Int32.lt_iff_toInt_lt, Int32.le_iff_toInt_le] at q1
      refine lv_iload hx hb dM_lead_11 (lv_at hl 4 rfl) ?_
      refine lv_if_lt (tgt := 39) hx hb dM_lead_13 (by decide) (fun q2 => ?_) (fun q2 => ?_)
      · simp only [Int32.lt_iff_toInt_lt, Int32.le_iff_toInt_le] at q2
        have hk1 : c_lead s0 lo hi t0 = 1 := by unfold c_lead; rw [if_neg]; unfold sk; simp only [Bool.and_eq_true, decide_eq_true_eq]; omega
        refine lv_iconst (v := 1) hx hb dM_lead_39 (by decide) ?_
        refine lv_goto (tgt := 44) hx hb dM_lead_40 (by decide) ?_
        refine g_put F hK G hP hS (17) (by decide) rfl rfl iM tM tM_ok nM 0 (by decide) k2_196 rfl (ty := .int) (by decide +kernel) rfl rfl (Nat.le_of_ble_eq_true rfl) dM_lead_44 (fun H locs hP hS => ?_)
        have hP := P_of hP (en_m_code _ _ _ _ _ _ _ _ _ _ _)
        obtain ⟨M, hP, hR, h00⟩ : ∃ M1 : Nat → Nat → Int32, va_P D cl (gw ad (en ad cI cZ cT cJ pi dr S M1 o) 25) H ∧ RepM M1 a ∧ M1 0 0 = nI 1 := ⟨_, hP, hR.num (by decide), rfl⟩
        refine lv_iload_n hx hb dM_lead_47 rfl (lv_at hl 2 rfl) ?_
        refine lv_istore hx hb dM_lead_48 hl (by decide) rfl (fun ls hl => ?_)
        have hl : lv_has ls 6 [(5, .int _), (0, .ref _), (1, .int _), (2, .int _), (3, .int _), (4, .int _)] := hl
        refine lv_iload hx hb dM_lead_50 (lv_at hl 0 rfl) ?_
        refine lv_iload_n hx hb dM_lead_52 rfl (lv_at hl 4 rfl) ?_
        refine lv_icmp_gt (tgt := 84) hx hb dM_lead_53 (by decide) (fun hc => ?_) (fun hc => ?_)
        · exact W.vret hx hb hr (fun t ht hW => ⟨rfl, ⟨_, ⟨M, rfl, by rw [hk1]; exact h00, by rw [hk1]; exact hR⟩, by rw [ht]; exact hP⟩, hS.F ht⟩) hS.2.2 dM_lead_84
        · refine lv_aload_n hx hb dM_lead_56 rfl (lv_at hl 1 rfl) ?_
          refine g_get F hK hP (17) (by decide) rfl rfl iM 0 (by decide) k2_196 rfl dM_lead_57 ?_
          rw [h00]
          refine lv_if_ne (tgt := 84) hx hb dM_lead_60 (by decide) (fun _ => ?_) (fun hc => absurd hc (show ¬ nI 1 = 0 by decide))
          exact W.vret hx hb hr (fun t ht hW => ⟨rfl, ⟨_, ⟨M, rfl, by rw [hk1]; exact h00, by rw [hk1]; exact hR⟩, by rw [ht]; exact hP⟩, hS.F ht⟩) hS.2.2 dM_lead_84
      · simp only [Int32.lt_iff_toInt_lt, Int32.le_iff_toInt_le] at q2
        refine lv_iload hx hb dM_lead_16 (lv_at hl 4 rfl) ?_
        refine lv_bipush (v := 7) hx hb dM_lead_18 (by decide) ?_
        refine lv_icmp_gt (tgt := 39) hx hb dM_lead_20 (by decide) (fun q3 => ?_) (fun q3 => ?_)
        · simp only [Int32.lt_iff_toInt_lt, Int32.le_iff_toInt_le] at q3
          have hk1 : c_lead s0 lo hi t0 = 1 := by unfold c_lead; rw [if_neg]; unfold sk; simp only [Bool.and_eq_true, decide_eq_true_eq]; omega
          refine lv_iconst (v := 1) hx hb dM_lead_39 (by decide) ?_
          refine lv_goto (tgt := 44) hx hb dM_lead_40 (by decide) ?_
          refine g_put F hK G hP hS (17) (by decide) rfl rfl iM tM tM_ok nM 0 (by decide) k2_196 rfl (ty := .int) (by decide +kernel) rfl rfl (Nat.le_of_ble_eq_true rfl) dM_lead_44 (fun H locs hP hS => ?_)
          have hP := P_of hP (en_m_code _ _ _ _ _ _ _ _ _ _ _)
          obtain ⟨M, hP, hR, h00⟩ : ∃ M1 : Nat → Nat → Int32, va_P D cl (gw ad (en ad cI cZ cT cJ pi dr S M1 o) 25) H ∧ RepM M1 a ∧ M1 0 0 = nI 1 := ⟨_, hP, hR.num (by decide), rfl⟩
          refine lv_iload_n hx hb dM_lead_47 rfl (lv_at hl 2 rfl) ?_
          refine lv_istore hx hb dM_lead_48 hl (by decide) rfl (fun ls hl => ?_)
          have hl : lv_has ls 6 [(5, .int _), (0, .ref _), (1, .int _), (2, .int _), (3, .int _), (4, .int _)] := hl
          refine lv_iload hx hb dM_lead_50 (lv_at hl 0 rfl) ?_
          refine lv_iload_n hx hb dM_lead_52 rfl (lv_at hl 4 rfl) ?_
          refine lv_icmp_gt (tgt := 84) hx hb dM_lead_53 (by decide) (fun hc => ?_) (fun hc => ?_)
          · exact W.vret hx hb hr (fun t ht hW => ⟨rfl, ⟨_, ⟨M, rfl, by rw [hk1]; exact h00, by rw [hk1]; exact hR⟩, by rw [ht]; exact hP⟩, hS.F ht⟩) hS.2.2 dM_lead_84
          · refine lv_aload_n hx hb dM_lead_56 rfl (lv_at hl 1 rfl) ?_
            refine g_get F hK hP (17) (by decide) rfl rfl iM 0 (by decide) k2_196 rfl dM_lead_57 ?_
            rw [h00]
            refine lv_if_ne (tgt := 84) hx hb dM_lead_60 (by decide) (fun _ => ?_) (fun hc => absurd hc (show ¬ nI 1 = 0 by decide))
            exact W.vret hx hb hr (fun t ht hW => ⟨rfl, ⟨_, ⟨M, rfl, by rw [hk1]; exact h00, by rw [hk1]; exact hR⟩, by rw [ht]; exact hP⟩, hS.F ht⟩) hS.2.2 dM_lead_84
        · simp only [Int32.lt_iff_toInt_lt, Int32.le_iff_toInt_le] at q3
          refine lv_iload_n hx hb dM_lead_23 rfl (lv_at hl 2 rfl) ?_
          refine lv_if_lt (tgt := 39) hx hb dM_lead_24 (by decide) (fun q4 => ?_) (fun q4 => ?_)
          · simp only [Int32.lt_iff_toInt_lt, Int32.le_iff_toInt_le] at q4
            have hk1 : c_lead s0 lo hi t0 = 1 := by unfold c_lead; rw [if_neg]; unfold sk; simp only [Bool.and_eq_true, decide_eq_true_eq]; omega
            refine lv_iconst (v := 1) hx hb dM_lead_39 (by decide) ?_
            refine lv_goto (tgt := 44) hx hb dM_lead_40 (by decide) ?_
            refine g_put F hK G hP hS (17) (by decide) rfl rfl iM tM tM_ok nM 0 (by decide) k2_196 rfl (ty := .int) (by decide +kernel) rfl rfl (Nat.le_of_ble_eq_true rfl) dM_lead_44 (fun H locs hP hS => ?_)
            have hP := P_of hP (en_m_code _ _ _ _ _ _ _ _ _ _ _)
            obtain ⟨M, hP, hR, h00⟩ : ∃ M1 : Nat → Nat → Int32, va_P D cl (gw ad (en ad cI cZ cT cJ pi dr S M1 o) 25) H ∧ RepM M1 a ∧ M1 0 0 = nI 1 := ⟨_, hP, hR.num (by decide), rfl⟩
            refine lv_iload_n hx hb dM_lead_47 rfl (lv_at hl 2 rfl) ?_
            refine lv_istore hx hb dM_lead_48 hl (by decide) rfl (fun ls hl => ?_)
            have hl : lv_has ls 6 [(5, .int _), (0, .ref _), (1, .int _), (2, .int _), (3, .int _), (4, .int _)] := hl
            refine lv_iload hx hb dM_lead_50 (lv_at hl 0 rfl) ?_
            refine lv_iload_n hx hb dM_lead_52 rfl (lv_at hl 4 rfl) ?_
            refine lv_icmp_gt (tgt := 84) hx hb dM_lead_53 (by decide) (fun hc => ?_) (fun hc => ?_)
            · exact W.vret hx hb hr (fun t ht hW => ⟨rfl, ⟨_, ⟨M, rfl, by rw [hk1]; exact h00, by rw [hk1]; exact hR⟩, by rw [ht]; exact hP⟩, hS.F ht⟩) hS.2.2 dM_lead_84
            · refine lv_aload_n hx hb dM_lead_56 rfl (lv_at hl 1 rfl) ?_
              refine g_get F hK hP (17) (by decide) rfl rfl iM 0 (by decide) k2_196 rfl dM_lead_57 ?_
              rw [h00]
              refine lv_if_ne (tgt := 84) hx hb dM_lead_60 (by decide) (fun _ => ?_) (fun hc => absurd hc (show ¬ nI 1 = 0 by decide))
              exact W.vret hx hb hr (fun t ht hW => ⟨rfl, ⟨_, ⟨M, rfl, by rw [hk1]; exact h00, by rw [hk1]; exact hR⟩, by rw [ht]; exact hP⟩, hS.F ht⟩) hS.2.2 dM_lead_84
          · simp only [Int32.lt_iff_toInt_lt, Int32.le_iff_toInt_le] at q4
            refine lv_iload_n hx hb dM_lead_27 rfl (lv_at hl 2 rfl) ?_
            refine lv_iload_n hx hb dM_lead_28 rfl (lv_at hl 3 rfl) ?_
            refine lv_icmp_gt (tgt := 39) hx hb dM_lead_29 (by decide) (fun q5 => ?_) (fun q5 => ?_)
            · simp only [Int32.lt_iff_toInt_lt, Int32.le_iff_toInt_le] at q5
              have hk1 : c_lead s0 lo hi t0 = 1 := by unfold c_lead; rw [if_neg]; unfold sk; simp only [Bool.and_eq_true, decide_eq_true_eq]; omega
              refine lv_iconst (v := 1) hx hb dM_lead_39 (by decide) ?_
              refine lv_goto (tgt := 44) hx hb dM_lead_40 (by decide) ?_
              refine g_put F hK G hP hS (17) (by decide) rfl rfl iM tM tM_ok nM 0 (by decide) k2_196 rfl (ty := .int) (by decide +kernel) rfl rfl (Nat.le_of_ble_eq_true rfl) dM_lead_44 (fun H locs hP hS => ?_)
              have hP := P_of hP (en_m_code _ _ _ _ _ _ _ _ _ _ _)
              obtain ⟨M, hP, hR, h00⟩ : ∃ M1 : Nat → Nat → Int32, va_P D cl (gw ad (en ad cI cZ cT cJ pi dr S M1 o) 25) H ∧ RepM M1 a ∧ M1 0 0 = nI 1 := ⟨_, hP, hR.num (by decide), rfl⟩
              refine lv_iload_n hx hb dM_lead_47 rfl (lv_at hl 2 rfl) ?_
              refine lv_istore hx hb dM_lead_48 hl (by decide) rfl (fun ls hl => ?_)
              have hl : lv_has ls 6 [(5, .int _), (0, .ref _), (1, .int _), (2, .int _), (3, .int _), (4, .int _)] := hl
              refine lv_iload hx hb dM_lead_50 (lv_at hl 0 rfl) ?_
              refine lv_iload_n hx hb dM_lead_52 rfl (lv_at hl 4 rfl) ?_
              refine lv_icmp_gt (tgt := 84) hx hb dM_lead_53 (by decide) (fun hc => ?_) (fun hc => ?_)
              · exact W.vret hx hb hr (fun t ht hW => ⟨rfl, ⟨_, ⟨M, rfl, by rw [hk1]; exact h00, by rw [hk1]; exact hR⟩, by rw [ht]; exact hP⟩, hS.F ht⟩) hS.2.2 dM_lead_84
              · refine lv_aload_n hx hb dM_lead_56 rfl (lv_at hl 1 rfl) ?_
                refine g_get F hK hP (17) (by decide) rfl rfl iM 0 (by decide) k2_196 rfl dM_lead_57 ?_
                rw [h00]
                refine lv_if_ne (tgt := 84) hx hb dM_lead_60 (by decide) (fun _ => ?_) (fun hc => absurd hc (show ¬ nI 1 = 0 by decide))
                exact W.vret hx hb hr (fun t ht hW => ⟨rfl, ⟨_, ⟨M, rfl, by rw [hk1]; exact h00, by rw [hk1]; exact hR⟩, by rw [ht]; exact hP⟩, hS.F ht⟩) hS.2.2 dM_lead_84
            · simp only [Int32.lt_iff_toInt_lt, Int32.le_iff_toInt_le] at q5
              refine lv_iload_n hx hb dM_lead_32 rfl (lv_at hl 3 rfl) ?_
              refine lv_sipush (v := 255) hx hb dM_lead_33 (by decide) ?_
              refine lv_icmp_le (tgt := 43) hx hb dM_lead_36 (by decide) (fun q6 => ?_) (fun q6 => ?_)
              · simp only [Int32.lt_iff_toInt_lt, Int32.le_iff_toInt_le] at q6
                have hk1 : c_lead s0 lo hi t0 = 0 := by unfold c_lead; rw [if_pos]; unfold sk; simp only [Bool.and_eq_true, decide_eq_true_eq]; omega
                have y_k := ix_toInt (show 0 ≤ s0.toInt by omega)
                have x_k := nI_ix (show 0 ≤ s0.toInt by omega)
                generalize ix s0 = k at y_k x_k
                subst x_k
                have y_l1 := ix_toInt (show 0 ≤ lo.toInt by omega)
                have x_l1 := nI_ix (show 0 ≤ lo.toInt by omega)
                generalize ix lo = l1 at y_l1 x_l1
                subst x_l1
                have y_h9 := ix_toInt (show 0 ≤ hi.toInt by omega)
                have x_h9 := nI_ix (show 0 ≤ hi.toInt by omega)
                generalize ix hi = h9 at y_h9 x_h9
                subst x_h9
                have y_g := ix_toInt (show 0 ≤ t0.toInt by omega)
                have x_g := nI_ix (show 0 ≤ t0.toInt by omega)
                generalize ix t0 = g at y_g x_g
                subst x_g
                have hk : k < 8 := by omega
                have hg : g < 8 := by omega
                have hh : l1 ≤ h9 ∧ h9 < 256 := by omega
                refine lv_iconst (v := 0) hx hb dM_lead_43 (by decide) ?_
                refine g_put F hK G hP hS (17) (by decide) rfl rfl iM tM tM_ok nM 0 (by decide) k2_196 rfl (ty := .int) (by decide +kernel) rfl rfl (Nat.le_of_ble_eq_true rfl) dM_lead_44 (fun H locs hP hS => ?_)
                have hP := P_of hP (en_m_code _ _ _ _ _ _ _ _ _ _ _)
                obtain ⟨M, hP, hR, h00⟩ : ∃ M1 : Nat → Nat → Int32, va_P D cl (gw ad (en ad cI cZ cT cJ pi dr S M1 o) 25) H ∧ RepM M1 a ∧ M1 0 0 = nI 0 := ⟨_, hP, hR.num (by decide), rfl⟩
                refine lv_iload_n hx hb dM_lead_47 rfl (lv_at hl 2 rfl) ?_
                refine lv_istore hx hb dM_lead_48 hl (by decide) rfl (fun ls hl => ?_)
                have hl : lv_has ls 6 [(5, .int _), (0, .ref _), (1, .int _), (2, .int _), (3, .int _), (4, .int _)] := hl
                have hl : lv_has ls 6 [(5, .int (nI (l1 + 0))), (0, .ref (ad 17)), (1, .int (nI k)), (2, .int (nI l1)), (3, .int (nI h9)), (4, .int (nI g))] := hl
                have hR : RepM M (a_n a, a_b a, a_p a, a_q a, fill (a_x a) (256 * k + l1) g 0, a_c a) := by rw [fill_0]; exact hR
                refine W.loop (α := Nat × (Nat → Nat → Int32)) (fun t a1 ls H locs => l1 + a1.1 + t = h9 + 1 ∧ a1.2 0 0 = nI 0 ∧ RepM a1.2 (a_n a, a_b a, a_p a, a_q a, fill (a_x a) (256 * k + l1) g a1.1, a_c a) ∧ lv_has ls 6 [(5, .int (nI (l1 + a1.1))), (0, .ref (ad 17)), (1, .int (nI k)), (2, .int (nI l1)), (3, .int (nI h9)), (4, .int (nI g))] ∧ va_P D cl (gw ad (en ad cI cZ cT cJ pi dr S a1.2 o) 25) H ∧ va_S (gA base) s.heap H locs) ?_ (t := (h9 + 1 - l1)) (a := (0, M)) ⟨by show l1 + 0 + (h9 + 1 - l1) = h9 + 1; omega, h00, hR, hl, hP, hS⟩
                clear hl hP hS
                intro t a1 ls H locs hI ih
                obtain ⟨u, M⟩ := a1
                obtain ⟨i0, i1, i2, hl, hP, hS⟩ := hI
                try dsimp only at i0 i1 i2 hl hP
                have h00 := i1
                by_cases ht : t = 0
                · have hu : h9 + 1 - l1 = u := by omega
                  refine lv_iload hx hb dM_lead_50 (lv_at hl 0 rfl) ?_
                  refine lv_iload_n hx hb dM_lead_52 rfl (lv_at hl 4 rfl) ?_
                  refine lv_icmp_gt (tgt := 84) hx hb dM_lead_53 (by decide) (fun _ => ?_) (fun hc => absurd (by rw [nI_ltI (by omega) (by omega)]; omega) hc)
                  exact W.vret hx hb hr (fun t ht hW => ⟨rfl, ⟨_, ⟨M, rfl, by rw [hk1]; exact h00, by rw [hk1, if_pos rfl]; exact (by simpa [x_lead, hu, ix_nI (show k < 2 ^ 31 by omega), ix_nI (show l1 < 2 ^ 31 by omega), ix_nI (show h9 < 2 ^ 31 by omega), ix_nI (show g < 2 ^ 31 by omega)] using i2)⟩, by rw [ht]; exact hP⟩, hS.F ht⟩) hS.2.2 dM_lead_84
                · refine lv_iload hx hb dM_lead_50 (lv_at hl 0 rfl) ?_
                  refine lv_iload_n hx hb dM_lead_52 rfl (lv_at hl 4 rfl) ?_
                  refine lv_icmp_gt (tgt := 84) hx hb dM_lead_53 (by decide) (fun hc => absurd hc (by rw [nI_ltI (by omega) (by omega)]; omega)) (fun _ => ?_)
                  refine lv_aload_n hx hb dM_lead_56 rfl (lv_at hl 1 rfl) ?_
                  refine g_get F hK hP (17) (by decide) rfl rfl iM 0 (by decide) k2_196 rfl dM_lead_57 ?_
                  rw [h00]
                  refine lv_if_ne (tgt := 84) hx hb dM_lead_60 (by decide) (fun hc => absurd (show  nI 0 = 0 by decide) hc) (fun _ => ?_)
                  refine lv_aload_n hx hb dM_lead_63 rfl (lv_at hl 1 rfl) ?_
                  refine g_get F hK hP (17) (by decide) rfl rfl iM 7 (by decide) k2_203 rfl dM_lead_64 ?_
                  refine lv_sipush (v := 256) hx hb dM_lead_67 (by decide) ?_
                  refine lv_iload_n hx hb dM_lead_70 rfl (lv_at hl 2 rfl) ?_
                  refine lv_imul hx hb dM_lead_71 ?_
                  refine lv_iload hx hb dM_lead_72 (lv_at hl 0 rfl) ?_
                  refine lv_iadd hx hb dM_lead_74 ?_
                  rw [k_at2]
                  refine lv_iload hx hb dM_lead_75 (lv_at hl 5 rfl) ?_
                  refine g_iast F hK G hP hS (22) (by decide) 0 rfl rfl (vp_in_nI (show 256 * k + (l1 + u) < 2048 by omega) (by omega)) dM_lead_77 (fun H locs hP hS => ?_)
                  rw [nI_clamp (show 256 * k + (l1 + u) < 2 ^ 31 by omega)] at hP
                  have hP := P_of hP (en_m_next _ _ _ _ _ _ _ _ _ _ _)
                  have hR1 : RepM (sr M 5 (upd (M 5) (256 * k + (l1 + u)) (nI g))) (a_n a, a_b a, a_p a, a_q a, fill (a_x a) (256 * k + l1) g (u + 1), a_c a) := i2.sx (by rw [← Nat.add_assoc]; exact fill_up i2.2.2.2.2.1)
                  refine lv_iinc (k := 0) hx hb dM_lead_78 hl rfl rfl (by decide) rfl (fun ls hl => ?_)
                  have hl : lv_has ls 6 [(5, .int _), (0, .ref _), (1, .int _), (2, .int _), (3, .int _), (4, .int _)] := hl
                  refine lv_goto (tgt := 50) hx hb dM_lead_81 (by decide) ?_
                  have hl : lv_has ls 6 [(5, .int (nI (l1 + (u + 1)))), (0, .ref (ad 17)), (1, .int (nI k)), (2, .int (nI l1)), (3, .int (nI h9)), (4, .int (nI g))] := by rw [← Nat.add_assoc, ← nI_1]; exact hl
                  exact ih (t - 1) (u + 1, (sr M 5 (upd (M 5) (256 * k + (l1 + u)) (nI g)))) _ _ _ (by omega) ⟨by show l1 + (u + 1) + (t - 1) = h9 + 1; omega, i1, hR1, hl, hP, hS⟩
              · simp only [Int32.lt_iff_toInt_lt, Int32.le_iff_toInt_le] at q6
                have hk1 : c_lead s0 lo hi t0 = 1 := by unfold c_lead; rw [if_neg]; unfold sk; simp only [Bool.and_eq_true, decide_eq_true_eq]; omega
                refine lv_iconst (v := 1) hx hb dM_lead_39 (by decide) ?_
                refine lv_goto (tgt := 44) hx hb dM_lead_40 (by decide) ?_
                refine g_put F hK G hP hS (17) (by decide) rfl rfl iM tM tM_ok nM 0 (by decide) k2_196 rfl (ty := .int) (by decide +kernel) rfl rfl (Nat.le_of_ble_eq_true rfl) dM_lead_44 (fun H locs hP hS => ?_)
                have hP := P_of hP (en_m_code _ _ _ _ _ _ _ _ _ _ _)
                obtain ⟨M, hP, hR, h00⟩ : ∃ M1 : Nat → Nat → Int32, va_P D cl (gw ad (en ad cI cZ cT cJ pi dr S M1 o) 25) H ∧ RepM M1 a ∧ M1 0 0 = nI 1 := ⟨_, hP, hR.num (by decide), rfl⟩
                refine lv_iload_n hx hb dM_lead_47 rfl (lv_at hl 2 rfl) ?_
                refine lv_istore hx hb dM_lead_48 hl (by decide) rfl (fun ls hl => ?_)
                have hl : lv_has ls 6 [(5, .int _), (0, .ref _), (1, .int _), (2, .int _), (3, .int _), (4, .int _)] := hl
                refine lv_iload hx hb dM_lead_50 (lv_at hl 0 rfl) ?_
                refine lv_iload_n hx hb dM_lead_52 rfl (lv_at hl 4 rfl) ?_
                refine lv_icmp_gt (tgt := 84) hx hb dM_lead_53 (by decide) (fun hc => ?_) (fun hc => ?_)
                · exact W.vret hx hb hr (fun t ht hW => ⟨rfl, ⟨_, ⟨M, rfl, by rw [hk1]; exact h00, by rw [hk1]; exact hR⟩, by rw [ht]; exact hP⟩, hS.F ht⟩) hS.2.2 dM_lead_84
                · refine lv_aload_n hx hb dM_lead_56 rfl (lv_at hl 1 rfl) ?_
                  refine g_get F hK hP (17) (by decide) rfl rfl iM 0 (by decide) k2_196 rfl dM_lead_57 ?_
                  rw [h00]
                  refine lv_if_ne (tgt := 84) hx hb dM_lead_60 (by decide) (fun _ => ?_) (fun hc => absurd hc (show ¬ nI 1 = 0 by decide))
                  exact W.vret hx hb hr (fun t ht hW => ⟨rfl, ⟨_, ⟨M, rfl, by rw [hk1]; exact h00, by rw [hk1]; exact hR⟩, by rw [ht]; exact hP⟩, hS.F ht⟩) hS.2.2 dM_lead_84
set_option maxHeartbeats 4000000 in
set_option maxRecDepth 100000 in
theorem c_M_accept (G : gGeo ad 25 base) (ha : a_ok a) (hR : RepM M a) (s0 : Int32) {b : Nat} (hb2 : b < 2) : Met l yM_accept (Cond.code yM_accept bM_accept 3 none :: tws) { frames := 0, cells := 0, slots := 0, locals := 0 } (gPc (tw D cI cZ cT cJ base) D cl ad 25 base (en ad cI cZ cT cJ pi dr S M o) [.ref (ad 17), .int s0, .int (nI b)]) (gQc D cl ad 25 base none (fun e => ∃ M1 : Nat → Nat → Int32, e = en ad cI cZ cT cJ pi dr S M1 o ∧ M1 0 0 = nI (c_accept s0) ∧ RepM M1 (if (c_accept s0) = 0 then x_accept a s0 b else a))) 0 0 (gA base) := by
  refine Met.ofW (cc := bM_accept) (maxL := 3) (ret := none) (by decide) rfl ?_
  intro p e s m args below meth c s₁ B hml hv
  obtain ⟨rfl, htw, hB, hP⟩ := hv
  have hx := B.exec
  have hb := B.bytes
  have hr := B.returns
  have hts0 := atoms_spec (ws := Cond.code yM_accept bM_accept 3 none :: tws) B.pre
  have hts : ∀ w ∈ tws, w.before _ s = true := fun w h => hts0 w (List.mem_cons_of_mem _ h)
  have hown : s.vm.findClass "PairedTextsModel" = some m.cls := findClass_of_methodNamed B.named
  have hlocks := B.notSynchronized
  have hno := B.noHandlers (hts0 _ List.mem_cons_self)
  have F : CallFix p m c bM_accept 3 s _ tws "PairedTextsModel" := ⟨hx, hb, hml, hown, hts⟩
  have hK := htw.1
  have hS : va_S (gA base) s.heap s.heap [] := va_S.rf
  have hl := lv_entry ([.ref (ad 17), .int s0, .int (nI b)]) (n := 3) (Nat.le_of_ble_eq_true rfl)
  rw [lg_entry_eq]
  generalize (lg_sl ([.ref (ad 17), .int s0, .int (nI b)]) ++ List.replicate (3 - (lg_sl ([.ref (ad 17), .int s0, .int (nI b)])).length) Slot.unset).toArray = ls at hl ⊢
  have hl : lv_has ls 3 [(0, .ref (ad 17)), (1, .int s0), (2, .int (nI b))] := hl
  have z0 : (0 : Int32).toInt = 0 := rfl
  have z7 : (7 : Int32).toInt = 7 := rfl
  refine lv_aload_n hx hb dM_accept_0 rfl (lv_at hl 0 rfl) ?_
  refine lv_iload_n hx hb dM_accept_1 rfl (lv_at hl 1 rfl) ?_
  rcases sk_or s0 with hd | ⟨k, hk, rfl⟩
  · have hk1 : (c_accept s0) = 1 := by simp [c_accept, hd.1]
    refine lv_if_lt (tgt := 11) hx hb dM_accept_2 (by decide) (fun hc => ?_) (fun hc => ?_)
    · refine lv_iconst (v := 1) hx hb dM_accept_11 (by decide) ?_
      refine lv_goto (tgt := 16) hx hb dM_accept_12 (by decide) ?_
      refine g_put F hK G hP hS (17) (by decide) rfl rfl iM tM tM_ok nM 0 (by decide) k2_196 rfl (ty := .int) (by decide +kernel) rfl rfl (Nat.le_of_ble_eq_true rfl) dM_accept_16 (fun H locs hP hS => ?_)
      have hP := P_of hP (en_m_code _ _ _ _ _ _ _ _ _ _ _)
      obtain ⟨M, hP, hR, h00⟩ : ∃ M1 : Nat → Nat → Int32, va_P D cl (gw ad (en ad cI cZ cT cJ pi dr S M1 o) 25) H ∧ RepM M1 a ∧ M1 0 0 = nI 1 := ⟨_, hP, hR.num (by decide), rfl⟩
      refine lv_aload_n hx hb dM_accept_19 rfl (lv_at hl 0 rfl) ?_
      refine g_get F hK hP (17) (by decide) rfl rfl iM 0 (by decide) k2_196 rfl dM_accept_20 ?_
      rw [h00]
      refine lv_if_ne (tgt := 33) hx hb dM_accept_23 (by decide) (fun _ => ?_) (fun hc => absurd hc (show ¬ nI 1 = 0 by decide))
      exact W.vret hx hb hr (fun t ht hW => ⟨rfl, ⟨_, ⟨M, rfl, by rw [hk1]; exact h00, by rw [hk1]; exact hR⟩, by rw [ht]; exact hP⟩, hS.F ht⟩) hS.2.2 dM_accept_33
    · simp only [Int32.lt_iff_toInt_lt, Int32.le_iff_toInt_le] at hc
      refine lv_iload_n hx hb dM_accept_5 rfl (lv_at hl 1 rfl) ?_
      refine lv_bipush (v := 7) hx hb dM_accept_6 (by decide) ?_
      refine lv_icmp_le (tgt := 15) hx hb dM_accept_8 (by decide) (fun hc => absurd hc (by simp only [Int32.lt_iff_toInt_lt, Int32.le_iff_toInt_le]; omega)) (fun _ => ?_)
      refine lv_iconst (v := 1) hx hb dM_accept_11 (by decide) ?_
      refine lv_goto (tgt := 16) hx hb dM_accept_12 (by decide) ?_
      refine g_put F hK G hP hS (17) (by decide) rfl rfl iM tM tM_ok nM 0 (by decide) k2_196 rfl (ty := .int) (by decide +kernel) rfl rfl (Nat.le_of_ble_eq_true rfl) dM_accept_16 (fun H locs hP hS => ?_)
      have hP := P_of hP (en_m_code _ _ _ _ _ _ _ _ _ _ _)
      obtain ⟨M, hP, hR, h00⟩ : ∃ M1 : Nat → Nat → Int32, va_P D cl (gw ad (en ad cI cZ cT cJ pi dr S M1 o) 25) H ∧ RepM M1 a ∧ M1 0 0 = nI 1 := ⟨_, hP, hR.num (by decide), rfl⟩
      refine lv_aload_n hx hb dM_accept_19 rfl (lv_at hl 0 rfl) ?_
      refine g_get F hK hP (17) (by decide) rfl rfl iM 0 (by decide) k2_196 rfl dM_accept_20 ?_
      rw [h00]
      refine lv_if_ne (tgt := 33) hx hb dM_accept_23 (by decide) (fun _ => ?_) (fun hc => absurd hc (show ¬ nI 1 = 0 by decide))
      exact W.vret hx hb hr (fun t ht hW => ⟨rfl, ⟨_, ⟨M, rfl, by rw [hk1]; exact h00, by rw [hk1]; exact hR⟩, by rw [ht]; exact hP⟩, hS.F ht⟩) hS.2.2 dM_accept_33
  have hk1 : (c_accept (nI k)) = 0 := by simp [c_accept, sk_nI hk, ix_nI (show k < 2 ^ 31 by omega)]
  have zk := nI_toInt (show k < 2 ^ 31 by omega)
  refine lv_if_lt (tgt := 11) hx hb dM_accept_2 (by decide) (fun hc => absurd hc (by simp only [Int32.lt_iff_toInt_lt, Int32.le_iff_toInt_le]; omega)) (fun _ => ?_)
  refine lv_iload_n hx hb dM_accept_5 rfl (lv_at hl 1 rfl) ?_
  refine lv_bipush (v := 7) hx hb dM_accept_6 (by decide) ?_
  refine lv_icmp_le (tgt := 15) hx hb dM_accept_8 (by decide) (fun _ => ?_) (fun hc => absurd (by simp only [Int32.lt_iff_toInt_lt, Int32.le_iff_toInt_le]; omega) hc)
  refine lv_iconst (v := 0) hx hb dM_accept_15 (by decide) ?_
  refine g_put F hK G hP hS (17) (by decide) rfl rfl iM tM tM_ok nM 0 (by decide) k2_196 rfl (ty := .int) (by decide +kernel) rfl rfl (Nat.le_of_ble_eq_true rfl) dM_accept_16 (fun H locs hP hS => ?_)
  have hP := P_of hP (en_m_code _ _ _ _ _ _ _ _ _ _ _)
  obtain ⟨M, hP, hR, h00⟩ : ∃ M1 : Nat → Nat → Int32, va_P D cl (gw ad (en ad cI cZ cT cJ pi dr S M1 o) 25) H ∧ RepM M1 a ∧ M1 0 0 = nI 0 := ⟨_, hP, hR.num (by decide), rfl⟩
  refine lv_aload_n hx hb dM_accept_19 rfl (lv_at hl 0 rfl) ?_
  refine g_get F hK hP (17) (by decide) rfl rfl iM 0 (by decide) k2_196 rfl dM_accept_20 ?_
  rw [h00]
  refine lv_if_ne (tgt := 33) hx hb dM_accept_23 (by decide) (fun hc => absurd (show  nI 0 = 0 by decide) hc) (fun _ => ?_)
  refine lv_aload_n hx hb dM_accept_26 rfl (lv_at hl 0 rfl) ?_
  refine g_get F hK hP (17) (by decide) rfl rfl iM 8 (by decide) k2_204 rfl dM_accept_27 ?_
  refine lv_iload_n hx hb dM_accept_30 rfl (lv_at hl 1 rfl) ?_
  refine lv_iload_n hx hb dM_accept_31 rfl (lv_at hl 2 rfl) ?_
  refine g_zast F hK G hP hS (23) (by decide) 1 rfl rfl (vp_in_nI hk (by omega)) dM_accept_32 (fun H locs hP hS => ?_)
  rw [nI_clamp (show k < 2 ^ 31 by omega), show vp_nar .boolean (nI b) = nI b from (show b = 0 ∨ b = 1 by omega).elim (fun h => by rw [h]; rfl) (fun h => by rw [h]; rfl)] at hP
  have hP := P_of hP (en_m_acc _ _ _ _ _ _ _ _ _ _ _)
  have h0 : ∀ q, q < 8 → M 6 q = nI (fill (a_c a) k b 0 q) := by rw [fill_0]; exact hR.2.2.2.2.2
  have hR := hR.sc (f := upd (M 6) k (nI b)) (g := fill (a_c a) k b 1) (fill_up h0)
  exact W.vret hx hb hr (fun t ht hW => ⟨rfl, ⟨_, ⟨sr M 6 (upd (M 6) k (nI b)), rfl, by rw [hk1]; exact h00, by rw [hk1, if_pos rfl]; simpa [x_accept, sk_nI hk, ix_nI (show k < 2 ^ 31 by omega)] using hR⟩, by rw [ht]; exact hP⟩, hS.F ht⟩) hS.2.2 dM_accept_33
set_option maxHeartbeats 4000000 in
set_option maxRecDepth 100000 in
theorem c_M_read (G : gGeo ad 25 base) (ha : a_ok a) (hR : RepM M a) (d f t s0 : Int32) : Met l yM_read (Cond.code yM_read bM_read 6 none :: tws) { frames := 1, cells := 0, slots := 0, locals := 23 } (gPc (tw D cI cZ cT cJ base) D cl ad 25 base (en ad cI cZ cT cJ pi dr S M o) [.ref (ad 17), .int d, .int f, .int t, .int s0]) (gQc D cl ad 25 base none (fun e => ∃ M1 : Nat → Nat → Int32, e = en ad cI cZ cT cJ pi dr S M1 o ∧ M1 0 0 = nI (c_run a d f t s0) ∧ RepM M1 a ∧ ((c_run a d f t s0) = 0 → M1 0 3 = nI (rns a (ix d) (ix f) (ix s0) (ix t - ix f)) ∧ M1 0 4 = nI (acs a (ix d) (ix f) (ix s0) (ix t - ix f))))) 0 0 (gA base) := by
  refine Met.ofW (cc := bM_read) (maxL := 6) (ret := none) (by decide) rfl ?_
  intro p e s m args below meth c s₁ B hml hv
  obtain ⟨rfl, htw, hB, hP⟩ := hv
  have hx := B.exec
  have hb := B.bytes
  have hr := B.returns
  have hts0 := atoms_spec (ws := Cond.code yM_read bM_read 6 none :: tws) B.pre
  have hts : ∀ w ∈ tws, w.before _ s = true := fun w h => hts0 w (List.mem_cons_of_mem _ h)
  have hown : s.vm.findClass "PairedTextsModel" = some m.cls := findClass_of_methodNamed B.named
  have hlocks := B.notSynchronized
  have hno := B.noHandlers (hts0 _ List.mem_cons_self)
  have F : CallFix p m c bM_read 6 s _ tws "PairedTextsModel" := ⟨hx, hb, hml, hown, hts⟩
  have hK := htw.1
  have hS : va_S (gA base) s.heap s.heap [] := va_S.rf
  have hl := lv_entry ([.ref (ad 17), .int d, .int f, .int t, .int s0]) (n := 6) (Nat.le_of_ble_eq_true rfl)
  rw [lg_entry_eq]
  generalize (lg_sl ([.ref (ad 17), .int d, .int f, .int t, .int s0]) ++ List.replicate (6 - (lg_sl ([.ref (ad 17), .int d, .int f, .int t, .int s0])).length) Slot.unset).toArray = ls at hl ⊢
  have hl : lv_has ls 6 [(0, .ref (ad 17)), (1, .int d), (2, .int f), (3, .int t), (4, .int s0)] := hl
  have z0 : (0 : Int32).toInt = 0 := rfl
  have z7 : (7 : Int32).toInt = 7 := rfl
  refine lv_aload_n hx hb dM_read_0 rfl (lv_at hl 0 rfl) ?_
  refine lv_iload_n hx hb dM_read_1 rfl (lv_at hl 1 rfl) ?_
  rcases dk_or d with hd | ⟨k, hk, rfl⟩
  · have hk1 : (c_run a d f t s0) = 1 := by simp [c_run, hd.1]
    refine g_S (k := 1) F htw hB hS hP (c_M_isDocument d) k2_238 k2_239 k1_5 k3_0 (by decide +kernel) rfl rfl ⟨Nat.le_of_ble_eq_true rfl, Nat.le_of_ble_eq_true rfl⟩ rfl hl.1 rfl (Nat.le_of_ble_eq_true rfl) dM_read_2 ⟨Nat.le_of_ble_eq_true rfl, Nat.le_of_ble_eq_true rfl⟩ (fun en1 H locs he hP hS => ?_)
    obtain rfl := he
    refine lv_if_eq (tgt := 20) hx hb dM_read_5 (by decide) (fun _ => ?_) (fun hc => absurd (show (if dk d then (1 : Int32) else 0) = 0 by rw [hd.1]; rfl) hc)
    refine lv_iconst (v := 1) hx hb dM_read_20 (by decide) ?_
    refine lv_goto (tgt := 39) hx hb dM_read_21 (by decide) ?_
    refine g_put F hK G hP hS (17) (by decide) rfl rfl iM tM tM_ok nM 0 (by decide) k2_196 rfl (ty := .int) (by decide +kernel) rfl rfl (Nat.le_of_ble_eq_true rfl) dM_read_39 (fun H locs hP hS => ?_)
    have hP := P_of hP (en_m_code _ _ _ _ _ _ _ _ _ _ _)
    obtain ⟨M, hP, hR, h00⟩ : ∃ M1 : Nat → Nat → Int32, va_P D cl (gw ad (en ad cI cZ cT cJ pi dr S M1 o) 25) H ∧ RepM M1 a ∧ M1 0 0 = nI 1 := ⟨_, hP, hR.num (by decide), rfl⟩
    refine lv_aload_n hx hb dM_read_42 rfl (lv_at hl 0 rfl) ?_
    refine g_get F hK hP (17) (by decide) rfl rfl iM 0 (by decide) k2_196 rfl dM_read_43 ?_
    rw [h00]
    refine lv_if_le (tgt := 50) hx hb dM_read_46 (by decide) (fun hc => absurd hc (show ¬ nI 1 ≤ 0 by decide)) (fun _ => ?_)
    exact W.vret hx hb hr (fun t ht hW => ⟨rfl, ⟨_, ⟨M, rfl, by rw [hk1]; exact h00, hR, fun h => absurd (hk1.symm.trans h) (by decide)⟩, by rw [ht]; exact hP⟩, hS.F ht⟩) hS.2.2 dM_read_49
  refine g_S (k := 1) F htw hB hS hP (c_M_isDocument (nI k)) k2_238 k2_239 k1_5 k3_0 (by decide +kernel) rfl rfl ⟨Nat.le_of_ble_eq_true rfl, Nat.le_of_ble_eq_true rfl⟩ rfl hl.1 rfl (Nat.le_of_ble_eq_true rfl) dM_read_2 ⟨Nat.le_of_ble_eq_true rfl, Nat.le_of_ble_eq_true rfl⟩ (fun en1 H locs he hP hS => ?_)
  obtain rfl := he
  refine lv_if_eq (tgt := 20) hx hb dM_read_5 (by decide) (fun hc => absurd hc (show ¬ (if dk (nI k) then (1 : Int32) else 0) = 0 by rw [dk_nI hk]; decide)) (fun _ => ?_)
  have hn_k := ha.1 k hk
  refine lv_iload hx hb dM_read_8 (lv_at hl 4 rfl) ?_
  rcases sk_or s0 with hd | ⟨g, hg, rfl⟩
  · have hk1 : (c_run a (nI k) f t s0) = 1 := by simp [c_run, dk_nI hk, ix_nI (show k < 2 ^ 31 by omega), hd.1]
    refine lv_if_lt (tgt := 20) hx hb dM_read_10 (by decide) (fun hc => ?_) (fun hc => ?_)
    · refine lv_iconst (v := 1) hx hb dM_read_20 (by decide) ?_
      refine lv_goto (tgt := 39) hx hb dM_read_21 (by decide) ?_
      refine g_put F hK G hP hS (17) (by decide) rfl rfl iM tM tM_ok nM 0 (by decide) k2_196 rfl (ty := .int) (by decide +kernel) rfl rfl (Nat.le_of_ble_eq_true rfl) dM_read_39 (fun H locs hP hS => ?_)
      have hP := P_of hP (en_m_code _ _ _ _ _ _ _ _ _ _ _)
      obtain ⟨M, hP, hR, h00⟩ : ∃ M1 : Nat → Nat → Int32, va_P D cl (gw ad (en ad cI cZ cT cJ pi dr S M1 o) 25) H ∧ RepM M1 a ∧ M1 0 0 = nI 1 := ⟨_, hP, hR.num (by decide), rfl⟩
      refine lv_aload_n hx hb dM_read_42 rfl (lv_at hl 0 rfl) ?_
      refine g_get F hK hP (17) (by decide) rfl rfl iM 0 (by decide) k2_196 rfl dM_read_43 ?_
      rw [h00]
      refine lv_if_le (tgt := 50) hx hb dM_read_46 (by decide) (fun hc => absurd hc (show ¬ nI 1 ≤ 0 by decide)) (fun _ => ?_)
      exact W.vret hx hb hr (fun t ht hW => ⟨rfl, ⟨_, ⟨M, rfl, by rw [hk1]; exact h00, hR, fun h => absurd (hk1.symm.trans h) (by decide)⟩, by rw [ht]; exact hP⟩, hS.F ht⟩) hS.2.2 dM_read_49
    · simp only [Int32.lt_iff_toInt_lt, Int32.le_iff_toInt_le] at hc
      refine lv_iload hx hb dM_read_13 (lv_at hl 4 rfl) ?_
      refine lv_bipush (v := 7) hx hb dM_read_15 (by decide) ?_
      refine lv_icmp_le (tgt := 24) hx hb dM_read_17 (by decide) (fun hc => absurd hc (by simp only [Int32.lt_iff_toInt_lt, Int32.le_iff_toInt_le]; omega)) (fun _ => ?_)
      refine lv_iconst (v := 1) hx hb dM_read_20 (by decide) ?_
      refine lv_goto (tgt := 39) hx hb dM_read_21 (by decide) ?_
      refine g_put F hK G hP hS (17) (by decide) rfl rfl iM tM tM_ok nM 0 (by decide) k2_196 rfl (ty := .int) (by decide +kernel) rfl rfl (Nat.le_of_ble_eq_true rfl) dM_read_39 (fun H locs hP hS => ?_)
      have hP := P_of hP (en_m_code _ _ _ _ _ _ _ _ _ _ _)
      obtain ⟨M, hP, hR, h00⟩ : ∃ M1 : Nat → Nat → Int32, va_P D cl (gw ad (en ad cI cZ cT cJ pi dr S M1 o) 25) H ∧ RepM M1 a ∧ M1 0 0 = nI 1 := ⟨_, hP, hR.num (by decide), rfl⟩
      refine lv_aload_n hx hb dM_read_42 rfl (lv_at hl 0 rfl) ?_
      refine g_get F hK hP (17) (by decide) rfl rfl iM 0 (by decide) k2_196 rfl dM_read_43 ?_
      rw [h00]
      refine lv_if_le (tgt := 50) hx hb dM_read_46 (by decide) (fun hc => absurd hc (show ¬ nI 1 ≤ 0 by decide)) (fun _ => ?_)
      exact W.vret hx hb hr (fun t ht hW => ⟨rfl, ⟨_, ⟨M, rfl, by rw [hk1]; exact h00, hR, fun h => absurd (hk1.symm.trans h) (by decide)⟩, by rw [ht]; exact hP⟩, hS.F ht⟩) hS.2.2 dM_read_49
  have zk := nI_toInt (show g < 2 ^ 31 by omega)
  refine lv_if_lt (tgt := 20) hx hb dM_read_10 (by decide) (fun hc => absurd hc (by simp only [Int32.lt_iff_toInt_lt, Int32.le_iff_toInt_le]; omega)) (fun _ => ?_)
  refine lv_iload hx hb dM_read_13 (lv_at hl 4 rfl) ?_
  refine lv_bipush (v := 7) hx hb dM_read_15 (by decide) ?_
  refine lv_icmp_le (tgt := 24) hx hb dM_read_17 (by decide) (fun _ => ?_) (fun hc => absurd (by simp only [Int32.lt_iff_toInt_lt, Int32.le_iff_toInt_le]; omega) hc)
  refine lv_aload_n hx hb dM_read_24 rfl (lv_at hl 0 rfl) ?_
  refine lv_iload_n hx hb dM_read_25 rfl (lv_at hl 1 rfl) ?_
  refine lv_iload_n hx hb dM_read_26 rfl (lv_at hl 2 rfl) ?_
  refine lv_iload_n hx hb dM_read_27 rfl (lv_at hl 3 rfl) ?_
  rcases rg_or f t hn_k with hgr | ⟨f1, t1, hft, htn, rfl, rfl⟩
  · have hk1 : (c_run a (nI k) f t (nI g)) = 2 := by simp [c_run, dk_nI hk, ix_nI (show k < 2 ^ 31 by omega), sk_nI hg, ix_nI (show g < 2 ^ 31 by omega), hgr]
    refine g_V (k := 3) F htw hB hS hP (17) (by decide) rfl rfl (c_M_isRange hk hn_k (hR.1 k hk) f t) k3_14 k3_16 k0_4 k1_5 k3_17 (by decide +kernel) rfl rfl ⟨Nat.le_of_ble_eq_true rfl, Nat.le_of_ble_eq_true rfl⟩ rfl hl.1 rfl (Nat.le_of_ble_eq_true rfl) dM_read_28 ⟨Nat.le_of_ble_eq_true rfl, Nat.le_of_ble_eq_true rfl⟩ (fun en1 H locs he hP hS => ?_)
    obtain rfl := he
    refine lv_if_ne (tgt := 38) hx hb dM_read_31 (by decide) (fun hc => absurd (show (if rg f t (a_n a k) then (1 : Int32) else 0) = 0 by rw [hgr]; rfl) hc) (fun _ => ?_)
    refine lv_iconst (v := 2) hx hb dM_read_34 (by decide) ?_
    refine lv_goto (tgt := 39) hx hb dM_read_35 (by decide) ?_
    refine g_put F hK G hP hS (17) (by decide) rfl rfl iM tM tM_ok nM 0 (by decide) k2_196 rfl (ty := .int) (by decide +kernel) rfl rfl (Nat.le_of_ble_eq_true rfl) dM_read_39 (fun H locs hP hS => ?_)
    have hP := P_of hP (en_m_code _ _ _ _ _ _ _ _ _ _ _)
    obtain ⟨M, hP, hR, h00⟩ : ∃ M1 : Nat → Nat → Int32, va_P D cl (gw ad (en ad cI cZ cT cJ pi dr S M1 o) 25) H ∧ RepM M1 a ∧ M1 0 0 = nI 2 := ⟨_, hP, hR.num (by decide), rfl⟩
    refine lv_aload_n hx hb dM_read_42 rfl (lv_at hl 0 rfl) ?_
    refine g_get F hK hP (17) (by decide) rfl rfl iM 0 (by decide) k2_196 rfl dM_read_43 ?_
    rw [h00]
    refine lv_if_le (tgt := 50) hx hb dM_read_46 (by decide) (fun hc => absurd hc (show ¬ nI 2 ≤ 0 by decide)) (fun _ => ?_)
    exact W.vret hx hb hr (fun t ht hW => ⟨rfl, ⟨_, ⟨M, rfl, by rw [hk1]; exact h00, hR, fun h => absurd (hk1.symm.trans h) (by decide)⟩, by rw [ht]; exact hP⟩, hS.F ht⟩) hS.2.2 dM_read_49
  refine g_V (k := 3) F htw hB hS hP (17) (by decide) rfl rfl (c_M_isRange hk hn_k (hR.1 k hk) (nI f1) (nI t1)) k3_14 k3_16 k0_4 k1_5 k3_17 (by decide +kernel) rfl rfl ⟨Nat.le_of_ble_eq_true rfl, Nat.le_of_ble_eq_true rfl⟩ rfl hl.1 rfl (Nat.le_of_ble_eq_true rfl) dM_read_28 ⟨Nat.le_of_ble_eq_true rfl, Nat.le_of_ble_eq_true rfl⟩ (fun en1 H locs he hP hS => ?_)
  obtain rfl := he
  refine lv_if_ne (tgt := 38) hx hb dM_read_31 (by decide) (fun _ => ?_) (fun hc => absurd hc (show ¬ (if rg (nI f1) (nI t1) (a_n a k) then (1 : Int32) else 0) = 0 by rw [rg_nI hft htn hn_k]; decide))
  have hk1 : (c_run a (nI k) (nI f1) (nI t1) (nI g)) = 0 := by simp [c_run, dk_nI hk, ix_nI (show k < 2 ^ 31 by omega), sk_nI hg, ix_nI (show g < 2 ^ 31 by omega), rg_nI hft htn hn_k, ix_nI (show f1 < 2 ^ 31 by omega), ix_nI (show t1 < 2 ^ 31 by omega)]
  refine lv_iconst (v := 0) hx hb dM_read_38 (by decide) ?_
  refine g_put F hK G hP hS (17) (by decide) rfl rfl iM tM tM_ok nM 0 (by decide) k2_196 rfl (ty := .int) (by decide +kernel) rfl rfl (Nat.le_of_ble_eq_true rfl) dM_read_39 (fun H locs hP hS => ?_)
  have hP := P_of hP (en_m_code _ _ _ _ _ _ _ _ _ _ _)
  obtain ⟨M, hP, hR, h00⟩ : ∃ M1 : Nat → Nat → Int32, va_P D cl (gw ad (en ad cI cZ cT cJ pi dr S M1 o) 25) H ∧ RepM M1 a ∧ M1 0 0 = nI 0 := ⟨_, hP, hR.num (by decide), rfl⟩
  refine lv_aload_n hx hb dM_read_42 rfl (lv_at hl 0 rfl) ?_
  refine g_get F hK hP (17) (by decide) rfl rfl iM 0 (by decide) k2_196 rfl dM_read_43 ?_
  rw [h00]
  refine lv_if_le (tgt := 50) hx hb dM_read_46 (by decide) (fun _ => ?_) (fun hc => absurd (show  nI 0 ≤ 0 by decide) hc)
  refine lv_aload_n hx hb dM_read_50 rfl (lv_at hl 0 rfl) ?_
  refine lv_iload hx hb dM_read_51 (lv_at hl 4 rfl) ?_
  refine g_put F hK G hP hS (17) (by decide) rfl rfl iM tM tM_ok nM 9 (by decide) k2_205 rfl (ty := .int) (by decide +kernel) rfl rfl (Nat.le_of_ble_eq_true rfl) dM_read_53 (fun H locs hP hS => ?_)
  have hP := P_of hP (en_m_state _ _ _ _ _ _ _ _ _ _ _)
  obtain ⟨M, hP, hR, h00, h03⟩ : ∃ M1 : Nat → Nat → Int32, va_P D cl (gw ad (en ad cI cZ cT cJ pi dr S M1 o) 25) H ∧ RepM M1 a ∧ M1 0 0 = nI 0 ∧ M1 0 3 = nI (rns a k f1 g 0) := ⟨_, hP, hR.num (by decide), h00, rfl⟩
  refine lv_aload_n hx hb dM_read_56 rfl (lv_at hl 0 rfl) ?_
  refine lv_aload_n hx hb dM_read_57 rfl (lv_at hl 0 rfl) ?_
  refine g_get F hK hP (17) (by decide) rfl rfl iM 8 (by decide) k2_204 rfl dM_read_58 ?_
  refine lv_iload hx hb dM_read_61 (lv_at hl 4 rfl) ?_
  refine g_zald F hK hP (23) (by decide) 1 rfl rfl (vp_in_nI hg (by omega)) dM_read_63 ?_
  rw [nI_clamp (show g < 2 ^ 31 by omega), hR.2.2.2.2.2 g hg]
  have hac := ha.2.2.2.2.2 g hg
  refine lv_if_eq (tgt := 71) hx hb dM_read_64 (by decide) (fun hc => ?_) (fun hc => ?_)
  · rw [show (0 : Int32) = nI 0 from rfl, nI_eq (by omega) (by omega)] at hc
    refine lv_iconst (v := 0) hx hb dM_read_71 (by decide) ?_
    refine g_put F hK G hP hS (17) (by decide) rfl rfl iM tM tM_ok nM 10 (by decide) k2_206 rfl (ty := .int) (by decide +kernel) rfl rfl (Nat.le_of_ble_eq_true rfl) dM_read_72 (fun H locs hP hS => ?_)
    have hP := P_of hP (en_m_many _ _ _ _ _ _ _ _ _ _ _)
    obtain ⟨M, hP, hR, h00, h03, h04⟩ : ∃ M1 : Nat → Nat → Int32, va_P D cl (gw ad (en ad cI cZ cT cJ pi dr S M1 o) 25) H ∧ RepM M1 a ∧ M1 0 0 = nI 0 ∧ M1 0 3 = nI (rns a k f1 g 0) ∧ M1 0 4 = nI (acs a k f1 g 0) := ⟨_, hP, hR.num (by decide), h00, h03, by rw [show acs a k f1 g 0 = 0 from (show a_c a g = 0 by omega)]; rfl⟩
    refine lv_iload_n hx hb dM_read_75 rfl (lv_at hl 2 rfl) ?_
    refine lv_istore hx hb dM_read_76 hl (by decide) rfl (fun ls hl => ?_)
    have hl : lv_has ls 6 [(5, .int _), (0, .ref _), (1, .int _), (2, .int _), (3, .int _), (4, .int _)] := hl
    have hl : lv_has ls 6 [(5, .int (nI (f1 + 0))), (0, .ref (ad 17)), (1, .int (nI k)), (2, .int (nI f1)), (3, .int (nI t1)), (4, .int (nI g))] := hl
    refine W.loop (α := Nat × (Nat → Nat → Int32)) (fun t a1 ls H locs => f1 + a1.1 + t = t1 ∧ a1.2 0 0 = nI 0 ∧ RepM a1.2 a ∧ a1.2 0 3 = nI (rns a k f1 g a1.1) ∧ a1.2 0 4 = nI (acs a k f1 g a1.1) ∧ lv_has ls 6 [(5, .int (nI (f1 + a1.1))), (0, .ref (ad 17)), (1, .int (nI k)), (2, .int (nI f1)), (3, .int (nI t1)), (4, .int (nI g))] ∧ va_P D cl (gw ad (en ad cI cZ cT cJ pi dr S a1.2 o) 25) H ∧ va_S (gA base) s.heap H locs) ?_ (t := (t1 - f1)) (a := (0, M)) ⟨by show f1 + 0 + (t1 - f1) = t1; omega, h00, hR, h03, h04, hl, hP, hS⟩
    clear hl hP hS
    intro t a1 ls H locs hI ih
    obtain ⟨u, M⟩ := a1
    obtain ⟨i0, i1, i2, i3, i4, hl, hP, hS⟩ := hI
    try dsimp only at i0 i1 i2 i3 i4 hl hP
    have h00 := i1
    have hR := i2
    by_cases ht : t = 0
    · have hu : t1 - f1 = u := by omega
      refine lv_iload hx hb dM_read_78 (lv_at hl 0 rfl) ?_
      refine lv_iload_n hx hb dM_read_80 rfl (lv_at hl 4 rfl) ?_
      refine lv_icmp_ge (tgt := 150) hx hb dM_read_81 (by decide) (fun _ => ?_) (fun hc => absurd (by rw [nI_leI (by omega) (by omega)]; omega) hc)
      exact W.vret hx hb hr (fun t ht hW => ⟨rfl, ⟨_, ⟨M, rfl, by rw [hk1]; exact h00, hR, fun _ => by simpa [hu, ix_nI (show k < 2 ^ 31 by omega), ix_nI (show g < 2 ^ 31 by omega), ix_nI (show f1 < 2 ^ 31 by omega), ix_nI (show t1 < 2 ^ 31 by omega)] using ⟨i3, i4⟩⟩, by rw [ht]; exact hP⟩, hS.F ht⟩) hS.2.2 dM_read_150
    · refine lv_iload hx hb dM_read_78 (lv_at hl 0 rfl) ?_
      refine lv_iload_n hx hb dM_read_80 rfl (lv_at hl 4 rfl) ?_
      refine lv_icmp_ge (tgt := 150) hx hb dM_read_81 (by decide) (fun hc => absurd hc (by rw [nI_leI (by omega) (by omega)]; omega)) (fun _ => ?_)
      refine lv_aload_n hx hb dM_read_84 rfl (lv_at hl 1 rfl) ?_
      refine lv_aload_n hx hb dM_read_85 rfl (lv_at hl 1 rfl) ?_
      refine g_get F hK hP (17) (by decide) rfl rfl iM 7 (by decide) k2_203 rfl dM_read_86 ?_
      refine lv_sipush (v := 256) hx hb dM_read_89 (by decide) ?_
      refine lv_aload_n hx hb dM_read_92 rfl (lv_at hl 1 rfl) ?_
      refine g_get F hK hP (17) (by decide) rfl rfl iM 9 (by decide) k2_205 rfl dM_read_93 ?_
      rw [i3]
      refine lv_imul hx hb dM_read_96 ?_
      refine lv_aload_n hx hb dM_read_97 rfl (lv_at hl 1 rfl) ?_
      refine g_get F hK hP (17) (by decide) rfl rfl iM 1 (by decide) k2_197 rfl dM_read_98 ?_
      refine lv_sipush (v := 1000) hx hb dM_read_101 (by decide) ?_
      refine lv_iload_n hx hb dM_read_104 rfl (lv_at hl 2 rfl) ?_
      refine lv_imul hx hb dM_read_105 ?_
      refine lv_iload hx hb dM_read_106 (lv_at hl 0 rfl) ?_
      refine lv_iadd hx hb dM_read_108 ?_
      rw [k_at]
      refine g_iald F hK hP (18) (by decide) 0 rfl rfl (vp_in_nI (show 1000 * k + (f1 + u) < 4000 by omega) (by omega)) dM_read_109 ?_
      rw [nI_clamp (show 1000 * k + (f1 + u) < 2 ^ 31 by omega), hR.2.1 k (f1 + u) hk (by omega)]
      have hrs : rns a k f1 g u < 8 := rns_lt ha hk hg u (by omega)
      have hbb := ha.2.1 k (f1 + u) hk (by omega)
      refine lv_iadd hx hb dM_read_110 ?_
      rw [k_at2]
      refine g_iald F hK hP (22) (by decide) 0 rfl rfl (vp_in_nI (show 256 * rns a k f1 g u + a_b a k (f1 + u) < 2048 by omega) (by omega)) dM_read_111 ?_
      rw [nI_clamp (show 256 * rns a k f1 g u + a_b a k (f1 + u) < 2 ^ 31 by omega), hR.2.2.2.2.1 _ (show 256 * rns a k f1 g u + a_b a k (f1 + u) < 2048 by omega)]
      have hr2 : rns a k f1 g (u + 1) < 8 := rns_lt ha hk hg (u + 1) (by omega)
      rw [show a_x a (256 * rns a k f1 g u + a_b a k (f1 + u)) = rns a k f1 g (u + 1) from rfl]
      refine g_put F hK G hP hS (17) (by decide) rfl rfl iM tM tM_ok nM 9 (by decide) k2_205 rfl (ty := .int) (by decide +kernel) rfl rfl (Nat.le_of_ble_eq_true rfl) dM_read_112 (fun H locs hP hS => ?_)
      have hP := P_of hP (en_m_state _ _ _ _ _ _ _ _ _ _ _)
      obtain ⟨M, hP, hR, h00, h03, h04⟩ : ∃ M1 : Nat → Nat → Int32, va_P D cl (gw ad (en ad cI cZ cT cJ pi dr S M1 o) 25) H ∧ RepM M1 a ∧ M1 0 0 = nI 0 ∧ M1 0 3 = nI (rns a k f1 g (u + 1)) ∧ M1 0 4 = nI (acs a k f1 g u) := ⟨_, hP, hR.num (by decide), h00, rfl, i4⟩
      refine lv_aload_n hx hb dM_read_115 rfl (lv_at hl 1 rfl) ?_
      refine lv_aload_n hx hb dM_read_116 rfl (lv_at hl 1 rfl) ?_
      refine g_get F hK hP (17) (by decide) rfl rfl iM 8 (by decide) k2_204 rfl dM_read_117 ?_
      refine lv_aload_n hx hb dM_read_120 rfl (lv_at hl 1 rfl) ?_
      refine g_get F hK hP (17) (by decide) rfl rfl iM 9 (by decide) k2_205 rfl dM_read_121 ?_
      rw [h03]
      refine g_zald F hK hP (23) (by decide) 1 rfl rfl (vp_in_nI hr2 (by omega)) dM_read_124 ?_
      rw [nI_clamp (show rns a k f1 g (u + 1) < 2 ^ 31 by omega), hR.2.2.2.2.2 _ hr2]
      have ha2 := ha.2.2.2.2.2 _ hr2
      refine lv_if_eq (tgt := 137) hx hb dM_read_125 (by decide) (fun hz => ?_) (fun hz => ?_)
      · rw [show (0 : Int32) = nI 0 from rfl, nI_eq (by omega) (by omega)] at hz
        refine lv_aload_n hx hb dM_read_137 rfl (lv_at hl 1 rfl) ?_
        refine g_get F hK hP (17) (by decide) rfl rfl iM 10 (by decide) k2_206 rfl dM_read_138 ?_
        rw [h04]
        refine g_put F hK G hP hS (17) (by decide) rfl rfl iM tM tM_ok nM 10 (by decide) k2_206 rfl (ty := .int) (by decide +kernel) rfl rfl (Nat.le_of_ble_eq_true rfl) dM_read_141 (fun H locs hP hS => ?_)
        have hP := P_of hP (en_m_many _ _ _ _ _ _ _ _ _ _ _)
        obtain ⟨M, hP, hR, h00, h03, h04⟩ : ∃ M1 : Nat → Nat → Int32, va_P D cl (gw ad (en ad cI cZ cT cJ pi dr S M1 o) 25) H ∧ RepM M1 a ∧ M1 0 0 = nI 0 ∧ M1 0 3 = nI (rns a k f1 g (u + 1)) ∧ M1 0 4 = nI (acs a k f1 g (u + 1)) := ⟨_, hP, hR.num (by decide), h00, h03, by rw [show acs a k f1 g (u + 1) = acs a k f1 g u from (show acs a k f1 g u + a_c a (rns a k f1 g (u + 1)) = _ by omega)]; rfl⟩
        refine lv_iinc (k := 0) hx hb dM_read_144 hl rfl rfl (by decide) rfl (fun ls hl => ?_)
        have hl : lv_has ls 6 [(5, .int _), (0, .ref _), (1, .int _), (2, .int _), (3, .int _), (4, .int _)] := hl
        refine lv_goto (tgt := 78) hx hb dM_read_147 (by decide) ?_
        have hl : lv_has ls 6 [(5, .int (nI (f1 + (u + 1)))), (0, .ref (ad 17)), (1, .int (nI k)), (2, .int (nI f1)), (3, .int (nI t1)), (4, .int (nI g))] := by rw [← Nat.add_assoc, ← nI_1]; exact hl
        exact ih (t - 1) (u + 1, M) _ _ _ (by omega) ⟨by show f1 + (u + 1) + (t - 1) = t1; omega, h00, hR, h03, h04, hl, hP, hS⟩
      · rw [show (0 : Int32) = nI 0 from rfl, nI_eq (by omega) (by omega)] at hz
        refine lv_aload_n hx hb dM_read_128 rfl (lv_at hl 1 rfl) ?_
        refine g_get F hK hP (17) (by decide) rfl rfl iM 10 (by decide) k2_206 rfl dM_read_129 ?_
        refine lv_iconst (v := 1) hx hb dM_read_132 (by decide) ?_
        refine lv_iadd hx hb dM_read_133 ?_
        refine lv_goto (tgt := 141) hx hb dM_read_134 (by decide) ?_
        rw [h04, nI_1]
        refine g_put F hK G hP hS (17) (by decide) rfl rfl iM tM tM_ok nM 10 (by decide) k2_206 rfl (ty := .int) (by decide +kernel) rfl rfl (Nat.le_of_ble_eq_true rfl) dM_read_141 (fun H locs hP hS => ?_)
        have hP := P_of hP (en_m_many _ _ _ _ _ _ _ _ _ _ _)
        obtain ⟨M, hP, hR, h00, h03, h04⟩ : ∃ M1 : Nat → Nat → Int32, va_P D cl (gw ad (en ad cI cZ cT cJ pi dr S M1 o) 25) H ∧ RepM M1 a ∧ M1 0 0 = nI 0 ∧ M1 0 3 = nI (rns a k f1 g (u + 1)) ∧ M1 0 4 = nI (acs a k f1 g (u + 1)) := ⟨_, hP, hR.num (by decide), h00, h03, by rw [show acs a k f1 g (u + 1) = acs a k f1 g u + 1 from (show acs a k f1 g u + a_c a (rns a k f1 g (u + 1)) = _ by omega)]; rfl⟩
        refine lv_iinc (k := 0) hx hb dM_read_144 hl rfl rfl (by decide) rfl (fun ls hl => ?_)
        have hl : lv_has ls 6 [(5, .int _), (0, .ref _), (1, .int _), (2, .int _), (3, .int _), (4, .int _)] := hl
        refine lv_goto (tgt := 78) hx hb dM_read_147 (by decide) ?_
        have hl : lv_has ls 6 [(5, .int (nI (f1 + (u + 1)))), (0, .ref (ad 17)), (1, .int (nI k)), (2, .int (nI f1)), (3, .int (nI t1)), (4, .int (nI g))] := by rw [← Nat.add_assoc, ← nI_1]; exact hl
        exact ih (t - 1) (u + 1, M) _ _ _ (by omega) ⟨by show f1 + (u + 1) + (t - 1) = t1; omega, h00, hR, h03, h04, hl, hP, hS⟩
  · rw [show (0 : Int32) = nI 0 from rfl, nI_eq (by omega) (by omega)] at hc
    refine lv_iconst (v := 1) hx hb dM_read_67 (by decide) ?_
    refine lv_goto (tgt := 72) hx hb dM_read_68 (by decide) ?_
    refine g_put F hK G hP hS (17) (by decide) rfl rfl iM tM tM_ok nM 10 (by decide) k2_206 rfl (ty := .int) (by decide +kernel) rfl rfl (Nat.le_of_ble_eq_true rfl) dM_read_72 (fun H locs hP hS => ?_)
    have hP := P_of hP (en_m_many _ _ _ _ _ _ _ _ _ _ _)
    obtain ⟨M, hP, hR, h00, h03, h04⟩ : ∃ M1 : Nat → Nat → Int32, va_P D cl (gw ad (en ad cI cZ cT cJ pi dr S M1 o) 25) H ∧ RepM M1 a ∧ M1 0 0 = nI 0 ∧ M1 0 3 = nI (rns a k f1 g 0) ∧ M1 0 4 = nI (acs a k f1 g 0) := ⟨_, hP, hR.num (by decide), h00, h03, by rw [show acs a k f1 g 0 = 1 from (show a_c a g = 1 by omega)]; rfl⟩
    refine lv_iload_n hx hb dM_read_75 rfl (lv_at hl 2 rfl) ?_
    refine lv_istore hx hb dM_read_76 hl (by decide) rfl (fun ls hl => ?_)
    have hl : lv_has ls 6 [(5, .int _), (0, .ref _), (1, .int _), (2, .int _), (3, .int _), (4, .int _)] := hl
    have hl : lv_has ls 6 [(5, .int (nI (f1 + 0))), (0, .ref (ad 17)), (1, .int (nI k)), (2, .int (nI f1)), (3, .int (nI t1)), (4, .int (nI g))] := hl
    refine W.loop (α := Nat × (Nat → Nat → Int32)) (fun t a1 ls H locs => f1 + a1.1 + t = t1 ∧ a1.2 0 0 = nI 0 ∧ RepM a1.2 a ∧ a1.2 0 3 = nI (rns a k f1 g a1.1) ∧ a1.2 0 4 = nI (acs a k f1 g a1.1) ∧ lv_has ls 6 [(5, .int (nI (f1 + a1.1))), (0, .ref (ad 17)), (1, .int (nI k)), (2, .int (nI f1)), (3, .int (nI t1)), (4, .int (nI g))] ∧ va_P D cl (gw ad (en ad cI cZ cT cJ pi dr S a1.2 o) 25) H ∧ va_S (gA base) s.heap H locs) ?_ (t := (t1 - f1)) (a := (0, M)) ⟨by show f1 + 0 + (t1 - f1) = t1; omega, h00, hR, h03, h04, hl, hP, hS⟩
    clear hl hP hS
    intro t a1 ls H locs hI ih
    obtain ⟨u, M⟩ := a1
    obtain ⟨i0, i1, i2, i3, i4, hl, hP, hS⟩ := hI
    try dsimp only at i0 i1 i2 i3 i4 hl hP
    have h00 := i1
    have hR := i2
    by_cases ht : t = 0
    · have hu : t1 - f1 = u := by omega
      refine lv_iload hx hb dM_read_78 (lv_at hl 0 rfl) ?_
      refine lv_iload_n hx hb dM_read_80 rfl (lv_at hl 4 rfl) ?_
      refine lv_icmp_ge (tgt := 150) hx hb dM_read_81 (by decide) (fun _ => ?_) (fun hc => absurd (by rw [nI_leI (by omega) (by omega)]; omega) hc)
      exact W.vret hx hb hr (fun t ht hW => ⟨rfl, ⟨_, ⟨M, rfl, by rw [hk1]; exact h00, hR, fun _ => by simpa [hu, ix_nI (show k < 2 ^ 31 by omega), ix_nI (show g < 2 ^ 31 by omega), ix_nI (show f1 < 2 ^ 31 by omega), ix_nI (show t1 < 2 ^ 31 by omega)] using ⟨i3, i4⟩⟩, by rw [ht]; exact hP⟩, hS.F ht⟩) hS.2.2 dM_read_150
    · refine lv_iload hx hb dM_read_78 (lv_at hl 0 rfl) ?_
      refine lv_iload_n hx hb dM_read_80 rfl (lv_at hl 4 rfl) ?_
      refine lv_icmp_ge (tgt := 150) hx hb dM_read_81 (by decide) (fun hc => absurd hc (by rw [nI_leI (by omega) (by omega)]; omega)) (fun _ => ?_)
      refine lv_aload_n hx hb dM_read_84 rfl (lv_at hl 1 rfl) ?_
      refine lv_aload_n hx hb dM_read_85 rfl (lv_at hl 1 rfl) ?_
      refine g_get F hK hP (17) (by decide) rfl rfl iM 7 (by decide) k2_203 rfl dM_read_86 ?_
      refine lv_sipush (v := 256) hx hb dM_read_89 (by decide) ?_
      refine lv_aload_n hx hb dM_read_92 rfl (lv_at hl 1 rfl) ?_
      refine g_get F hK hP (17) (by decide) rfl rfl iM 9 (by decide) k2_205 rfl dM_read_93 ?_
      rw [i3]
      refine lv_imul hx hb dM_read_96 ?_
      refine lv_aload_n hx hb dM_read_97 rfl (lv_at hl 1 rfl) ?_
      refine g_get F hK hP (17) (by decide) rfl rfl iM 1 (by decide) k2_197 rfl dM_read_98 ?_
      refine lv_sipush (v := 1000) hx hb dM_read_101 (by decide) ?_
      refine lv_iload_n hx hb dM_read_104 rfl (lv_at hl 2 rfl) ?_
      refine lv_imul hx hb dM_read_105 ?_
      refine lv_iload hx hb dM_read_106 (lv_at hl 0 rfl) ?_
      refine lv_iadd hx hb dM_read_108 ?_
      rw [k_at]
      refine g_iald F hK hP (18) (by decide) 0 rfl rfl (vp_in_nI (show 1000 * k + (f1 + u) < 4000 by omega) (by omega)) dM_read_109 ?_
      rw [nI_clamp (show 1000 * k + (f1 + u) < 2 ^ 31 by omega), hR.2.1 k (f1 + u) hk (by omega)]
      have hrs : rns a k f1 g u < 8 := rns_lt ha hk hg u (by omega)
      have hbb := ha.2.1 k (f1 + u) hk (by omega)
      refine lv_iadd hx hb dM_read_110 ?_
      rw [k_at2]
      refine g_iald F hK hP (22) (by decide) 0 rfl rfl (vp_in_nI (show 256 * rns a k f1 g u + a_b a k (f1 + u) < 2048 by omega) (by omega)) dM_read_111 ?_
      rw [nI_clamp (show 256 * rns a k f1 g u + a_b a k (f1 + u) < 2 ^ 31 by omega), hR.2.2.2.2.1 _ (show 256 * rns a k f1 g u + a_b a k (f1 + u) < 2048 by omega)]
      have hr2 : rns a k f1 g (u + 1) < 8 := rns_lt ha hk hg (u + 1) (by omega)
      rw [show a_x a (256 * rns a k f1 g u + a_b a k (f1 + u)) = rns a k f1 g (u + 1) from rfl]
      refine g_put F hK G hP hS (17) (by decide) rfl rfl iM tM tM_ok nM 9 (by decide) k2_205 rfl (ty := .int) (by decide +kernel) rfl rfl (Nat.le_of_ble_eq_true rfl) dM_read_112 (fun H locs hP hS => ?_)
      have hP := P_of hP (en_m_state _ _ _ _ _ _ _ _ _ _ _)
      obtain ⟨M, hP, hR, h00, h03, h04⟩ : ∃ M1 : Nat → Nat → Int32, va_P D cl (gw ad (en ad cI cZ cT cJ pi dr S M1 o) 25) H ∧ RepM M1 a ∧ M1 0 0 = nI 0 ∧ M1 0 3 = nI (rns a k f1 g (u + 1)) ∧ M1 0 4 = nI (acs a k f1 g u) := ⟨_, hP, hR.num (by decide), h00, rfl, i4⟩
      refine lv_aload_n hx hb dM_read_115 rfl (lv_at hl 1 rfl) ?_
      refine lv_aload_n hx hb dM_read_116 rfl (lv_at hl 1 rfl) ?_
      refine g_get F hK hP (17) (by decide) rfl rfl iM 8 (by decide) k2_204 rfl dM_read_117 ?_
      refine lv_aload_n hx hb dM_read_120 rfl (lv_at hl 1 rfl) ?_
      refine g_get F hK hP (17) (by decide) rfl rfl iM 9 (by decide) k2_205 rfl dM_read_121 ?_
      rw [h03]
      refine g_zald F hK hP (23) (by decide) 1 rfl rfl (vp_in_nI hr2 (by omega)) dM_read_124 ?_
      rw [nI_clamp (show rns a k f1 g (u + 1) < 2 ^ 31 by omega), hR.2.2.2.2.2 _ hr2]
      have ha2 := ha.2.2.2.2.2 _ hr2
      refine lv_if_eq (tgt := 137) hx hb dM_read_125 (by decide) (fun hz => ?_) (fun hz => ?_)
      · rw [show (0 : Int32) = nI 0 from rfl, nI_eq (by omega) (by omega)] at hz
        refine lv_aload_n hx hb dM_read_137 rfl (lv_at hl 1 rfl) ?_
        refine g_get F hK hP (17) (by decide) rfl rfl iM 10 (by decide) k2_206 rfl dM_read_138 ?_
        rw [h04]
        refine g_put F hK G hP hS (17) (by decide) rfl rfl iM tM tM_ok nM 10 (by decide) k2_206 rfl (ty := .int) (by decide +kernel) rfl rfl (Nat.le_of_ble_eq_true rfl) dM_read_141 (fun H locs hP hS => ?_)
        have hP := P_of hP (en_m_many _ _ _ _ _ _ _ _ _ _ _)
        obtain ⟨M, hP, hR, h00, h03, h04⟩ : ∃ M1 : Nat → Nat → Int32, va_P D cl (gw ad (en ad cI cZ cT cJ pi dr S M1 o) 25) H ∧ RepM M1 a ∧ M1 0 0 = nI 0 ∧ M1 0 3 = nI (rns a k f1 g (u + 1)) ∧ M1 0 4 = nI (acs a k f1 g (u + 1)) := ⟨_, hP, hR.num (by decide), h00, h03, by rw [show acs a k f1 g (u + 1) = acs a k f1 g u from (show acs a k f1 g u + a_c a (rns a k f1 g (u + 1)) = _ by omega)]; rfl⟩
        refine lv_iinc (k := 0) hx hb dM_read_144 hl rfl rfl (by decide) rfl (fun ls hl => ?_)
        have hl : lv_has ls 6 [(5, .int _), (0, .ref _), (1, .int _), (2, .int _), (3, .int _), (4, .int _)] := hl
        refine lv_goto (tgt := 78) hx hb dM_read_147 (by decide) ?_
        have hl : lv_has ls 6 [(5, .int (nI (f1 + (u + 1)))), (0, .ref (ad 17)), (1, .int (nI k)), (2, .int (nI f1)), (3, .int (nI t1)), (4, .int (nI g))] := by rw [← Nat.add_assoc, ← nI_1]; exact hl
        exact ih (t - 1) (u + 1, M) _ _ _ (by omega) ⟨by show f1 + (u + 1) + (t - 1) = t1; omega, h00, hR, h03, h04, hl, hP, hS⟩
      · rw [show (0 : Int32) = nI 0 from rfl, nI_eq (by omega) (by omega)] at hz
        refine lv_aload_n hx hb dM_read_128 rfl (lv_at hl 1 rfl) ?_
        refine g_get F hK hP (17) (by decide) rfl rfl iM 10 (by decide) k2_206 rfl dM_read_129 ?_
        refine lv_iconst (v := 1) hx hb dM_read_132 (by decide) ?_
        refine lv_iadd hx hb dM_read_133 ?_
        refine lv_goto (tgt := 141) hx hb dM_read_134 (by decide) ?_
        rw [h04, nI_1]
        refine g_put F hK G hP hS (17) (by decide) rfl rfl iM tM tM_ok nM 10 (by decide) k2_206 rfl (ty := .int) (by decide +kernel) rfl rfl (Nat.le_of_ble_eq_true rfl) dM_read_141 (fun H locs hP hS => ?_)
        have hP := P_of hP (en_m_many _ _ _ _ _ _ _ _ _ _ _)
        obtain ⟨M, hP, hR, h00, h03, h04⟩ : ∃ M1 : Nat → Nat → Int32, va_P D cl (gw ad (en ad cI cZ cT cJ pi dr S M1 o) 25) H ∧ RepM M1 a ∧ M1 0 0 = nI 0 ∧ M1 0 3 = nI (rns a k f1 g (u + 1)) ∧ M1 0 4 = nI (acs a k f1 g (u + 1)) := ⟨_, hP, hR.num (by decide), h00, h03, by rw [show acs a k f1 g (u + 1) = acs a k f1 g u + 1 from (show acs a k f1 g u + a_c a (rns a k f1 g (u + 1)) = _ by omega)]; rfl⟩
        refine lv_iinc (k := 0) hx hb dM_read_144 hl rfl rfl (by decide) rfl (fun ls hl => ?_)
        have hl : lv_has ls 6 [(5, .int _), (0, .ref _), (1, .int _), (2, .int _), (3, .int _), (4, .int _)] := hl
        refine lv_goto (tgt := 78) hx hb dM_read_147 (by decide) ?_
        have hl : lv_has ls 6 [(5, .int (nI (f1 + (u + 1)))), (0, .ref (ad 17)), (1, .int (nI k)), (2, .int (nI f1)), (3, .int (nI t1)), (4, .int (nI g))] := by rw [← Nat.add_assoc, ← nI_1]; exact hl
        exact ih (t - 1) (u + 1, M) _ _ _ (by omega) ⟨by show f1 + (u + 1) + (t - 1) = t1; omega, h00, hR, h03, h04, hl, hP, hS⟩
set_option maxHeartbeats 4000000 in
set_option maxRecDepth 100000 in
theorem c_M_run (G : gGeo ad 25 base) (ha : a_ok a) (hR : RepM M a) (d f t s0 : Int32) : Met l yM_run (Cond.code yM_run bM_run 5 (some .int) :: tws) { frames := 2, cells := 0, slots := 0, locals := 48 } (gPc (tw D cI cZ cT cJ base) D cl ad 25 base (en ad cI cZ cT cJ pi dr S M o) [.ref (ad 17), .int d, .int f, .int t, .int s0]) (gQc D cl ad 25 base (some (.int (if (c_run a d f t s0) = 0 then (nI (rns a (ix d) (ix f) (ix s0) (ix t - ix f))) else 0))) (fun e => ∃ M1 : Nat → Nat → Int32, e = en ad cI cZ cT cJ pi dr S M1 o ∧ M1 0 0 = nI (c_run a d f t s0) ∧ RepM M1 (if (c_run a d f t s0) = 0 then a else a))) 0 0 (gA base) := by
  refine Met.ofW (cc := bM_run) (maxL := 5) (ret := (some .int)) (by decide) rfl ?_
  intro p e s m args below meth c s₁ B hml hv
  obtain ⟨rfl, htw, hB, hP⟩ := hv
  have hx := B.exec
  have hb := B.bytes
  have hr := B.returns
  have hts0 := atoms_spec (ws := Cond.code yM_run bM_run 5 (some .int) :: tws) B.pre
  have hts : ∀ w ∈ tws, w.before _ s = true := fun w h => hts0 w (List.mem_cons_of_mem _ h)
  have hown : s.vm.findClass "PairedTextsModel" = some m.cls := findClass_of_methodNamed B.named
  have hlocks := B.notSynchronized
  have hno := B.noHandlers (hts0 _ List.mem_cons_self)
  have F : CallFix p m c bM_run 5 s _ tws "PairedTextsModel" := ⟨hx, hb, hml, hown, hts⟩
  have hK := htw.1
  have hS : va_S (gA base) s.heap s.heap [] := va_S.rf
  have hl := lv_entry ([.ref (ad 17), .int d, .int f, .int t, .int s0]) (n := 5) (Nat.le_of_ble_eq_true rfl)
  rw [lg_entry_eq]
  generalize (lg_sl ([.ref (ad 17), .int d, .int f, .int t, .int s0]) ++ List.replicate (5 - (lg_sl ([.ref (ad 17), .int d, .int f, .int t, .int s0])).length) Slot.unset).toArray = ls at hl ⊢
  have hl : lv_has ls 5 [(0, .ref (ad 17)), (1, .int d), (2, .int f), (3, .int t), (4, .int s0)] := hl
  have z0 : (0 : Int32).toInt = 0 := rfl
  refine lv_aload_n hx hb dM_run_0 rfl (lv_at hl 0 rfl) ?_
  refine lv_iload_n hx hb dM_run_1 rfl (lv_at hl 1 rfl) ?_
  refine lv_iload_n hx hb dM_run_2 rfl (lv_at hl 2 rfl) ?_
  refine lv_iload_n hx hb dM_run_3 rfl (lv_at hl 3 rfl) ?_
  refine lv_iload hx hb dM_run_4 (lv_at hl 4 rfl) ?_
  refine g_V (k := 4) F htw hB hS hP (17) (by decide) rfl rfl (c_M_read G ha hR d f t s0) k3_112 k3_114 k0_10 k1_5 k3_115 (by decide +kernel) rfl rfl ⟨Nat.le_of_ble_eq_true rfl, Nat.le_of_ble_eq_true rfl⟩ rfl hl.1 rfl (Nat.le_of_ble_eq_true rfl) dM_run_6 ⟨Nat.le_of_ble_eq_true rfl, Nat.le_of_ble_eq_true rfl⟩ (fun en1 H locs he hP hS => ?_)
  obtain ⟨M, rfl, h00, hR, hX⟩ := he
  refine lv_aload_n hx hb dM_run_9 rfl (lv_at hl 0 rfl) ?_
  refine g_get F hK hP (17) (by decide) rfl rfl iM 0 (by decide) k2_196 rfl dM_run_10 ?_
  rw [h00]
  have hkk : (c_run a d f t s0) = 0 ∨ (c_run a d f t s0) = 1 ∨ (c_run a d f t s0) = 2 := by unfold c_run; split; (split <;> simp); simp
  rcases hkk with hk1 | hk1 | hk1
  · rw [hk1] at h00
    rw [hk1]
    refine lv_if_le (tgt := 20) hx hb dM_run_13 (by decide) (fun _ => ?_) (fun hc => absurd (show nI 0 ≤ 0 by decide) hc)
    refine lv_aload_n hx hb dM_run_20 rfl (lv_at hl 0 rfl) ?_
    refine g_get F hK hP (17) (by decide) rfl rfl iM 9 (by decide) k2_205 rfl dM_run_21 ?_
    rw [(hX hk1).1]
    exact W.iret hx hb hr (fun t ht hW => ⟨rfl, ⟨_, ⟨M, rfl, h00, by simpa using hR⟩, by rw [ht]; exact hP⟩, hS.F ht⟩) hS.2.2 dM_run_24
  · rw [hk1] at h00
    rw [hk1]
    refine lv_if_le (tgt := 20) hx hb dM_run_13 (by decide) (fun hc => absurd hc (show ¬ nI 1 ≤ 0 by decide)) (fun _ => ?_)
    refine lv_iconst (v := 0) hx hb dM_run_16 (by decide) ?_
    refine lv_goto (tgt := 24) hx hb dM_run_17 (by decide) ?_
    exact W.iret hx hb hr (fun t ht hW => ⟨rfl, ⟨_, ⟨M, rfl, h00, by simpa using hR⟩, by rw [ht]; exact hP⟩, hS.F ht⟩) hS.2.2 dM_run_24
  · rw [hk1] at h00
    rw [hk1]
    refine lv_if_le (tgt := 20) hx hb dM_run_13 (by decide) (fun hc => absurd hc (show ¬ nI 2 ≤ 0 by decide)) (fun _ => ?_)
    refine lv_iconst (v := 0) hx hb dM_run_16 (by decide) ?_
    refine lv_goto (tgt := 24) hx hb dM_run_17 (by decide) ?_
    exact W.iret hx hb hr (fun t ht hW => ⟨rfl, ⟨_, ⟨M, rfl, h00, by simpa using hR⟩, by rw [ht]; exact hP⟩, hS.F ht⟩) hS.2.2 dM_run_24
set_option maxHeartbeats 4000000 in
set_option maxRecDepth 100000 in
theorem c_M_accepted (G : gGeo ad 25 base) (ha : a_ok a) (hR : RepM M a) (d f t s0 : Int32) : Met l yM_accepted (Cond.code yM_accepted bM_accepted 5 (some .int) :: tws) { frames := 2, cells := 0, slots := 0, locals := 48 } (gPc (tw D cI cZ cT cJ base) D cl ad 25 base (en ad cI cZ cT cJ pi dr S M o) [.ref (ad 17), .int d, .int f, .int t, .int s0]) (gQc D cl ad 25 base (some (.int (if (c_run a d f t s0) = 0 then (nI (acs a (ix d) (ix f) (ix s0) (ix t - ix f))) else 0))) (fun e => ∃ M1 : Nat → Nat → Int32, e = en ad cI cZ cT cJ pi dr S M1 o ∧ M1 0 0 = nI (c_run a d f t s0) ∧ RepM M1 (if (c_run a d f t s0) = 0 then a else a))) 0 0 (gA base) := by
  refine Met.ofW (cc := bM_accepted) (maxL := 5) (ret := (some .int)) (by decide) rfl ?_
  intro p e s m args below meth c s₁ B hml hv
  obtain ⟨rfl, htw, hB, hP⟩ := hv
  have hx := B.exec
  have hb := B.bytes
  have hr := B.returns
  have hts0 := atoms_spec (ws := Cond.code yM_accepted bM_accepted 5 (some .int) :: tws) B.pre
  have hts : ∀ w ∈ tws, w.before _ s = true := fun w h => hts0 w (List.mem_cons_of_mem _ h)
  have hown : s.vm.findClass "PairedTextsModel" = some m.cls := findClass_of_methodNamed B.named
  have hlocks := B.notSynchronized
  have hno := B.noHandlers (hts0 _ List.mem_cons_self)
  have F : CallFix p m c bM_accepted 5 s _ tws "PairedTextsModel" := ⟨hx, hb, hml, hown, hts⟩
  have hK := htw.1
  have hS : va_S (gA base) s.heap s.heap [] := va_S.rf
  have hl := lv_entry ([.ref (ad 17), .int d, .int f, .int t, .int s0]) (n := 5) (Nat.le_of_ble_eq_true rfl)
  rw [lg_entry_eq]
  generalize (lg_sl ([.ref (ad 17), .int d, .int f, .int t, .int s0]) ++ List.replicate (5 - (lg_sl ([.ref (ad 17), .int d, .int f, .int t, .int s0])).length) Slot.unset).toArray = ls at hl ⊢
  have hl : lv_has ls 5 [(0, .ref (ad 17)), (1, .int d), (2, .int f), (3, .int t), (4, .int s0)] := hl
  have z0 : (0 : Int32).toInt = 0 := rfl
  refine lv_aload_n hx hb dM_accepted_0 rfl (lv_at hl 0 rfl) ?_
  refine lv_iload_n hx hb dM_accepted_1 rfl (lv_at hl 1 rfl) ?_
  refine lv_iload_n hx hb dM_accepted_2 rfl (lv_at hl 2 rfl) ?_
  refine lv_iload_n hx hb dM_accepted_3 rfl (lv_at hl 3 rfl) ?_
  refine lv_iload hx hb dM_accepted_4 (lv_at hl 4 rfl) ?_
  refine g_V (k := 4) F htw hB hS hP (17) (by decide) rfl rfl (c_M_read G ha hR d f t s0) k3_112 k3_114 k0_10 k1_5 k3_115 (by decide +kernel) rfl rfl ⟨Nat.le_of_ble_eq_true rfl, Nat.le_of_ble_eq_true rfl⟩ rfl hl.1 rfl (Nat.le_of_ble_eq_true rfl) dM_accepted_6 ⟨Nat.le_of_ble_eq_true rfl, Nat.le_of_ble_eq_true rfl⟩ (fun en1 H locs he hP hS => ?_)
  obtain ⟨M, rfl, h00, hR, hX⟩ := he
  refine lv_aload_n hx hb dM_accepted_9 rfl (lv_at hl 0 rfl) ?_
  refine g_get F hK hP (17) (by decide) rfl rfl iM 0 (by decide) k2_196 rfl dM_accepted_10 ?_
  rw [h00]
  have hkk : (c_run a d f t s0) = 0 ∨ (c_run a d f t s0) = 1 ∨ (c_run a d f t s0) = 2 := by unfold c_run; split; (split <;> simp); simp
  rcases hkk with hk1 | hk1 | hk1
  · rw [hk1] at h00
    rw [hk1]
    refine lv_if_le (tgt := 20) hx hb dM_accepted_13 (by decide) (fun _ => ?_) (fun hc => absurd (show nI 0 ≤ 0 by decide) hc)
    refine lv_aload_n hx hb dM_accepted_20 rfl (lv_at hl 0 rfl) ?_
    refine g_get F hK hP (17) (by decide) rfl rfl iM 10 (by decide) k2_206 rfl dM_accepted_21 ?_
    rw [(hX hk1).2]
    exact W.iret hx hb hr (fun t ht hW => ⟨rfl, ⟨_, ⟨M, rfl, h00, by simpa using hR⟩, by rw [ht]; exact hP⟩, hS.F ht⟩) hS.2.2 dM_accepted_24
  · rw [hk1] at h00
    rw [hk1]
    refine lv_if_le (tgt := 20) hx hb dM_accepted_13 (by decide) (fun hc => absurd hc (show ¬ nI 1 ≤ 0 by decide)) (fun _ => ?_)
    refine lv_iconst (v := 0) hx hb dM_accepted_16 (by decide) ?_
    refine lv_goto (tgt := 24) hx hb dM_accepted_17 (by decide) ?_
    exact W.iret hx hb hr (fun t ht hW => ⟨rfl, ⟨_, ⟨M, rfl, h00, by simpa using hR⟩, by rw [ht]; exact hP⟩, hS.F ht⟩) hS.2.2 dM_accepted_24
  · rw [hk1] at h00
    rw [hk1]
    refine lv_if_le (tgt := 20) hx hb dM_accepted_13 (by decide) (fun hc => absurd hc (show ¬ nI 2 ≤ 0 by decide)) (fun _ => ?_)
    refine lv_iconst (v := 0) hx hb dM_accepted_16 (by decide) ?_
    refine lv_goto (tgt := 24) hx hb dM_accepted_17 (by decide) ?_
    exact W.iret hx hb hr (fun t ht hW => ⟨rfl, ⟨_, ⟨M, rfl, h00, by simpa using hR⟩, by rw [ht]; exact hP⟩, hS.F ht⟩) hS.2.2 dM_accepted_24
end N5
