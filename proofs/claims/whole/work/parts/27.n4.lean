/-! The reference's calls: prefix, order, name, pattern, count, find. -/
theorem RepM.pat {M : Nat → Nat → Int32} {a : Ab} {g : Nat → Nat} {n : Nat} (h : RepM M a) : RepM (sr (sr M 4 (fil (M 4) g n)) 0 (upd (M 0) 2 (nI n))) (a_n a, a_b a, n, g, a_x a, a_c a) := by
  obtain ⟨c4, c5, c6, c7, c8, c9⟩ := h
  refine ⟨fun d hd => ?_, fun d i hd hi => ?_, ?_, fun k hk => ?_, fun q hq => ?_, fun q hq => ?_⟩
  · rw [sr_n (by decide), sr_n (by decide)]; exact c4 d hd
  · rw [sr_n (by decide), sr_n (by decide)]; exact c5 d i hd hi
  · rw [sr_s]; exact pk_us
  · rw [sr_n (by decide), sr_s]; exact if_pos hk
  · rw [sr_n (by decide), sr_n (by decide)]; exact c8 q hq
  · rw [sr_n (by decide), sr_n (by decide)]; exact c9 q hq
theorem nI_dec {v : Nat} (h : 1 ≤ v) : nI v + Int32.ofInt (-1) = nI (v - 1) := by
  rw [← pk_sub h, Int32.sub_eq_add_neg]
  rfl
theorem nm_sm {a b : Nat} (ha : a < 2305843009213693951) (hb : b < 256) : sm (((a / 1099511627776) * 1000003) / 2097152 + (((a / 1099511627776) * 1000003) % 2097152) * 1099511627776 + (a % 1099511627776) * 1000003) < 2305843009213693951 ∧ sm (sm (((a / 1099511627776) * 1000003) / 2097152 + (((a / 1099511627776) * 1000003) % 2097152) * 1099511627776 + (a % 1099511627776) * 1000003) + (b + 1)) = nm a b := by
  have h1 := (nm_mod a b ha _ (sm (((a / 1099511627776) * 1000003) / 2097152 + (((a / 1099511627776) * 1000003) % 2097152) * 1099511627776 + (a % 1099511627776) * 1000003)) (sm (sm (((a / 1099511627776) * 1000003) / 2097152 + (((a / 1099511627776) * 1000003) % 2097152) * 1099511627776 + (a % 1099511627776) * 1000003) + (b + 1))) rfl).2 rfl
  exact ⟨h1.1, h1.2 hb rfl⟩
section N4
variable {l : Launch} {D : va_G} {cI cZ cT cJ : ClassId} {base : Nat} {ad : Nat → Nat} {pi : Nat → Nat} {dr : Nat} {S M : Nat → Nat → Int32} {o : Nat → Int64} {a : Ab}
set_option maxHeartbeats 4000000 in
set_option maxRecDepth 100000 in
theorem c_M_prefix (G : gGeo ad 25 base) (ha : a_ok a) (hR : RepM M a) (d i d2 j : Int32) : Met l yM_prefix (Cond.code yM_prefix bM_prefix 6 (some .int) :: tws) { frames := 1, cells := 0, slots := 0, locals := 25 } (gPc (tw D cI cZ cT cJ base) D cl ad 25 base (en ad cI cZ cT cJ pi dr S M o) [.ref (ad 17), .int d, .int i, .int d2, .int j]) (gQc D cl ad 25 base (some (.int (if (c_prefix a d i d2 j) = 0 then (nI (cpr a (ix d) (ix i) (ix d2) (ix j))) else 0))) (fun e => ∃ M1 : Nat → Nat → Int32, e = en ad cI cZ cT cJ pi dr S M1 o ∧ M1 0 0 = nI (c_prefix a d i d2 j) ∧ RepM M1 (if (c_prefix a d i d2 j) = 0 then a else a))) 0 0 (gA base) := by
  refine Met.ofW (cc := bM_prefix) (maxL := 6) (ret := (some .int)) (by decide) rfl ?_
  intro p e s m args below meth c s₁ B hml hv
  obtain ⟨rfl, htw, hB, hP⟩ := hv
  have hx := B.exec
  have hb := B.bytes
  have hr := B.returns
  have hts0 := atoms_spec (ws := Cond.code yM_prefix bM_prefix 6 (some .int) :: tws) B.pre
  have hts : ∀ w ∈ tws, w.before _ s = true := fun w h => hts0 w (List.mem_cons_of_mem _ h)
  have hown : s.vm.findClass "PairedTextsModel" = some m.cls := findClass_of_methodNamed B.named
  have hlocks := B.notSynchronized
  have hno := B.noHandlers (hts0 _ List.mem_cons_self)
  have F : CallFix p m c bM_prefix 6 s _ tws "PairedTextsModel" := ⟨hx, hb, hml, hown, hts⟩
  have hK := htw.1
  have hS : va_S (gA base) s.heap s.heap [] := va_S.rf
  have hl := lv_entry ([.ref (ad 17), .int d, .int i, .int d2, .int j]) (n := 6) (Nat.le_of_ble_eq_true rfl)
  rw [lg_entry_eq]
  generalize (lg_sl ([.ref (ad 17), .int d, .int i, .int d2, .int j]) ++ List.replicate (6 - (lg_sl ([.ref (ad 17), .int d, .int i, .int d2, .int j])).length) Slot.unset).toArray = ls at hl ⊢
  have hl : lv_has ls 6 [(0, .ref (ad 17)), (1, .int d), (2, .int i), (3, .int d2), (4, .int j)] := hl
  have z0 : (0 : Int32).toInt = 0 := rfl
  refine lv_iload_n hx hb dM_prefix_0 rfl (lv_at hl 1 rfl) ?_
  rcases dk_or d with hd | ⟨k, hk, rfl⟩
  · have hk1 : (c_prefix a d i d2 j) = 1 := by simp [c_prefix, hd.1]
    refine g_S (k := 1) F htw hB hS hP (c_M_isDocument d) k2_238 k2_239 k1_5 k3_0 (by decide +kernel) rfl rfl ⟨Nat.le_of_ble_eq_true rfl, Nat.le_of_ble_eq_true rfl⟩ rfl hl.1 rfl (Nat.le_of_ble_eq_true rfl) dM_prefix_1 ⟨Nat.le_of_ble_eq_true rfl, Nat.le_of_ble_eq_true rfl⟩ (fun en1 H locs he hP hS => ?_)
    obtain rfl := he
    refine lv_if_eq (tgt := 18) hx hb dM_prefix_4 (by decide) (fun _ => ?_) (fun hc => absurd (show (if dk d then (1 : Int32) else 0) = 0 by rw [hd.1]; rfl) hc)
    refine lv_iconst (v := 0) hx hb dM_prefix_18 (by decide) ?_
    refine lv_istore hx hb dM_prefix_19 hl (by decide) rfl (fun ls hl => ?_)
    have hl : lv_has ls 6 [(5, .int _), (0, .ref _), (1, .int _), (2, .int _), (3, .int _), (4, .int _)] := hl
    refine lv_aload_n hx hb dM_prefix_21 rfl (lv_at hl 1 rfl) ?_
    refine lv_iload hx hb dM_prefix_22 (lv_at hl 0 rfl) ?_
    refine lv_iload_n hx hb dM_prefix_24 rfl (lv_at hl 3 rfl) ?_
    refine lv_iload hx hb dM_prefix_25 (lv_at hl 5 rfl) ?_
    refine lv_iload hx hb dM_prefix_27 (lv_at hl 0 rfl) ?_
    refine lv_if_eq (tgt := 41) hx hb dM_prefix_29 (by decide) (fun _ => ?_) (fun hc => absurd (rfl : (0 : Int32) = 0) hc)
    refine lv_iconst (v := 0) hx hb dM_prefix_41 (by decide) ?_
    refine lv_iload hx hb dM_prefix_42 (lv_at hl 0 rfl) ?_
    refine lv_if_eq (tgt := 56) hx hb dM_prefix_44 (by decide) (fun _ => ?_) (fun hc => absurd (rfl : (0 : Int32) = 0) hc)
    refine lv_iconst (v := 0) hx hb dM_prefix_56 (by decide) ?_
    refine g_S (k := 5) F htw hB hS hP (c_M_pieces_no i j 0 0) k3_63 k3_64 k1_5 k3_65 (by decide +kernel) rfl rfl ⟨Nat.le_of_ble_eq_true rfl, Nat.le_of_ble_eq_true rfl⟩ rfl hl.1 rfl (Nat.le_of_ble_eq_true rfl) dM_prefix_57 ⟨Nat.le_of_ble_eq_true rfl, Nat.le_of_ble_eq_true rfl⟩ (fun en1 H locs he hP hS => ?_)
    obtain rfl := he
    refine g_put F hK G hP hS (17) (by decide) rfl rfl iM tM tM_ok nM 0 (by decide) k2_196 rfl (ty := .int) (by decide +kernel) rfl rfl (Nat.le_of_ble_eq_true rfl) dM_prefix_60 (fun H locs hP hS => ?_)
    have hP := P_of hP (en_m_code _ _ _ _ _ _ _ _ _ _ _)
    obtain ⟨M, hP, hR, h00⟩ : ∃ M1 : Nat → Nat → Int32, va_P D cl (gw ad (en ad cI cZ cT cJ pi dr S M1 o) 25) H ∧ RepM M1 a ∧ M1 0 0 = nI 1 := ⟨_, hP, hR.num (by decide), rfl⟩
    refine lv_aload_n hx hb dM_prefix_63 rfl (lv_at hl 1 rfl) ?_
    refine g_get F hK hP (17) (by decide) rfl rfl iM 0 (by decide) k2_196 rfl dM_prefix_64 ?_
    rw [h00]
    refine lv_if_le (tgt := 74) hx hb dM_prefix_67 (by decide) (fun hc => absurd hc (show ¬ nI 1 ≤ 0 by decide)) (fun _ => ?_)
    refine lv_iconst (v := 0) hx hb dM_prefix_70 (by decide) ?_
    refine lv_goto (tgt := 83) hx hb dM_prefix_71 (by decide) ?_
    exact W.iret hx hb hr (fun t ht hW => ⟨by rw [hk1]; rfl, ⟨_, ⟨M, rfl, by rw [hk1]; exact h00, by rw [hk1]; exact hR⟩, by rw [ht]; exact hP⟩, hS.F ht⟩) hS.2.2 dM_prefix_83
  refine g_S (k := 1) F htw hB hS hP (c_M_isDocument (nI k)) k2_238 k2_239 k1_5 k3_0 (by decide +kernel) rfl rfl ⟨Nat.le_of_ble_eq_true rfl, Nat.le_of_ble_eq_true rfl⟩ rfl hl.1 rfl (Nat.le_of_ble_eq_true rfl) dM_prefix_1 ⟨Nat.le_of_ble_eq_true rfl, Nat.le_of_ble_eq_true rfl⟩ (fun en1 H locs he hP hS => ?_)
  obtain rfl := he
  refine lv_if_eq (tgt := 18) hx hb dM_prefix_4 (by decide) (fun hc => absurd hc (show ¬ (if dk (nI k) then (1 : Int32) else 0) = 0 by rw [dk_nI hk]; decide)) (fun _ => ?_)
  have hn_k := ha.1 k hk
  refine lv_iload_n hx hb dM_prefix_7 rfl (lv_at hl 3 rfl) ?_
  rcases dk_or d2 with hd | ⟨g, hg, rfl⟩
  · have hk1 : (c_prefix a (nI k) i d2 j) = 1 := by simp [c_prefix, dk_nI hk, ix_nI (show k < 2 ^ 31 by omega), hd.1]
    refine g_S (k := 1) F htw hB hS hP (c_M_isDocument d2) k2_238 k2_239 k1_5 k3_0 (by decide +kernel) rfl rfl ⟨Nat.le_of_ble_eq_true rfl, Nat.le_of_ble_eq_true rfl⟩ rfl hl.1 rfl (Nat.le_of_ble_eq_true rfl) dM_prefix_8 ⟨Nat.le_of_ble_eq_true rfl, Nat.le_of_ble_eq_true rfl⟩ (fun en1 H locs he hP hS => ?_)
    obtain rfl := he
    refine lv_if_eq (tgt := 18) hx hb dM_prefix_11 (by decide) (fun _ => ?_) (fun hc => absurd (show (if dk d2 then (1 : Int32) else 0) = 0 by rw [hd.1]; rfl) hc)
    refine lv_iconst (v := 0) hx hb dM_prefix_18 (by decide) ?_
    refine lv_istore hx hb dM_prefix_19 hl (by decide) rfl (fun ls hl => ?_)
    have hl : lv_has ls 6 [(5, .int _), (0, .ref _), (1, .int _), (2, .int _), (3, .int _), (4, .int _)] := hl
    refine lv_aload_n hx hb dM_prefix_21 rfl (lv_at hl 1 rfl) ?_
    refine lv_iload hx hb dM_prefix_22 (lv_at hl 0 rfl) ?_
    refine lv_iload_n hx hb dM_prefix_24 rfl (lv_at hl 3 rfl) ?_
    refine lv_iload hx hb dM_prefix_25 (lv_at hl 5 rfl) ?_
    refine lv_iload hx hb dM_prefix_27 (lv_at hl 0 rfl) ?_
    refine lv_if_eq (tgt := 41) hx hb dM_prefix_29 (by decide) (fun _ => ?_) (fun hc => absurd (rfl : (0 : Int32) = 0) hc)
    refine lv_iconst (v := 0) hx hb dM_prefix_41 (by decide) ?_
    refine lv_iload hx hb dM_prefix_42 (lv_at hl 0 rfl) ?_
    refine lv_if_eq (tgt := 56) hx hb dM_prefix_44 (by decide) (fun _ => ?_) (fun hc => absurd (rfl : (0 : Int32) = 0) hc)
    refine lv_iconst (v := 0) hx hb dM_prefix_56 (by decide) ?_
    refine g_S (k := 5) F htw hB hS hP (c_M_pieces_no i j 0 0) k3_63 k3_64 k1_5 k3_65 (by decide +kernel) rfl rfl ⟨Nat.le_of_ble_eq_true rfl, Nat.le_of_ble_eq_true rfl⟩ rfl hl.1 rfl (Nat.le_of_ble_eq_true rfl) dM_prefix_57 ⟨Nat.le_of_ble_eq_true rfl, Nat.le_of_ble_eq_true rfl⟩ (fun en1 H locs he hP hS => ?_)
    obtain rfl := he
    refine g_put F hK G hP hS (17) (by decide) rfl rfl iM tM tM_ok nM 0 (by decide) k2_196 rfl (ty := .int) (by decide +kernel) rfl rfl (Nat.le_of_ble_eq_true rfl) dM_prefix_60 (fun H locs hP hS => ?_)
    have hP := P_of hP (en_m_code _ _ _ _ _ _ _ _ _ _ _)
    obtain ⟨M, hP, hR, h00⟩ : ∃ M1 : Nat → Nat → Int32, va_P D cl (gw ad (en ad cI cZ cT cJ pi dr S M1 o) 25) H ∧ RepM M1 a ∧ M1 0 0 = nI 1 := ⟨_, hP, hR.num (by decide), rfl⟩
    refine lv_aload_n hx hb dM_prefix_63 rfl (lv_at hl 1 rfl) ?_
    refine g_get F hK hP (17) (by decide) rfl rfl iM 0 (by decide) k2_196 rfl dM_prefix_64 ?_
    rw [h00]
    refine lv_if_le (tgt := 74) hx hb dM_prefix_67 (by decide) (fun hc => absurd hc (show ¬ nI 1 ≤ 0 by decide)) (fun _ => ?_)
    refine lv_iconst (v := 0) hx hb dM_prefix_70 (by decide) ?_
    refine lv_goto (tgt := 83) hx hb dM_prefix_71 (by decide) ?_
    exact W.iret hx hb hr (fun t ht hW => ⟨by rw [hk1]; rfl, ⟨_, ⟨M, rfl, by rw [hk1]; exact h00, by rw [hk1]; exact hR⟩, by rw [ht]; exact hP⟩, hS.F ht⟩) hS.2.2 dM_prefix_83
  refine g_S (k := 1) F htw hB hS hP (c_M_isDocument (nI g)) k2_238 k2_239 k1_5 k3_0 (by decide +kernel) rfl rfl ⟨Nat.le_of_ble_eq_true rfl, Nat.le_of_ble_eq_true rfl⟩ rfl hl.1 rfl (Nat.le_of_ble_eq_true rfl) dM_prefix_8 ⟨Nat.le_of_ble_eq_true rfl, Nat.le_of_ble_eq_true rfl⟩ (fun en1 H locs he hP hS => ?_)
  obtain rfl := he
  refine lv_if_eq (tgt := 18) hx hb dM_prefix_11 (by decide) (fun hc => absurd hc (show ¬ (if dk (nI g) then (1 : Int32) else 0) = 0 by rw [dk_nI hg]; decide)) (fun _ => ?_)
  have hn_g := ha.1 g hg
  refine lv_iconst (v := 1) hx hb dM_prefix_14 (by decide) ?_
  refine lv_goto (tgt := 19) hx hb dM_prefix_15 (by decide) ?_
  refine lv_istore hx hb dM_prefix_19 hl (by decide) rfl (fun ls hl => ?_)
  have hl : lv_has ls 6 [(5, .int _), (0, .ref _), (1, .int _), (2, .int _), (3, .int _), (4, .int _)] := hl
  refine lv_aload_n hx hb dM_prefix_21 rfl (lv_at hl 1 rfl) ?_
  refine lv_iload hx hb dM_prefix_22 (lv_at hl 0 rfl) ?_
  refine lv_iload_n hx hb dM_prefix_24 rfl (lv_at hl 3 rfl) ?_
  refine lv_iload hx hb dM_prefix_25 (lv_at hl 5 rfl) ?_
  refine lv_iload hx hb dM_prefix_27 (lv_at hl 0 rfl) ?_
  refine lv_if_eq (tgt := 41) hx hb dM_prefix_29 (by decide) (fun hc => absurd hc (show ¬ (1 : Int32) = 0 by decide)) (fun _ => ?_)
  refine lv_aload_n hx hb dM_prefix_32 rfl (lv_at hl 1 rfl) ?_
  refine g_get F hK hP (17) (by decide) rfl rfl iM 2 (by decide) k2_198 rfl dM_prefix_33 ?_
  refine lv_iload_n hx hb dM_prefix_36 rfl (lv_at hl 2 rfl) ?_
  refine g_iald F hK hP (19) (by decide) 0 rfl rfl (vp_in_nI hk (by omega)) dM_prefix_37 ?_
  rw [nI_clamp (show k < 2 ^ 31 by omega), hR.1 k hk]
  refine lv_goto (tgt := 42) hx hb dM_prefix_38 (by decide) ?_
  refine lv_iload hx hb dM_prefix_42 (lv_at hl 0 rfl) ?_
  refine lv_if_eq (tgt := 56) hx hb dM_prefix_44 (by decide) (fun hc => absurd hc (show ¬ (1 : Int32) = 0 by decide)) (fun _ => ?_)
  refine lv_aload_n hx hb dM_prefix_47 rfl (lv_at hl 1 rfl) ?_
  refine g_get F hK hP (17) (by decide) rfl rfl iM 2 (by decide) k2_198 rfl dM_prefix_48 ?_
  refine lv_iload_n hx hb dM_prefix_51 rfl (lv_at hl 4 rfl) ?_
  refine g_iald F hK hP (19) (by decide) 0 rfl rfl (vp_in_nI hg (by omega)) dM_prefix_52 ?_
  rw [nI_clamp (show g < 2 ^ 31 by omega), hR.1 g hg]
  refine lv_goto (tgt := 57) hx hb dM_prefix_53 (by decide) ?_
  refine g_S (k := 5) F htw hB hS hP (c_M_pieces i j hn_k hn_g) k3_63 k3_64 k1_5 k3_65 (by decide +kernel) rfl rfl ⟨Nat.le_of_ble_eq_true rfl, Nat.le_of_ble_eq_true rfl⟩ rfl hl.1 rfl (Nat.le_of_ble_eq_true rfl) dM_prefix_57 ⟨Nat.le_of_ble_eq_true rfl, Nat.le_of_ble_eq_true rfl⟩ (fun en1 H locs he hP hS => ?_)
  obtain rfl := he
  rcases pc_or i hn_k with hg0 | ⟨x, hx1, rfl⟩
  · have hk1 : (c_prefix a (nI k) i (nI g) j) = 2 := by simp [c_prefix, dk_nI hk, ix_nI (show k < 2 ^ 31 by omega), dk_nI hg, ix_nI (show g < 2 ^ 31 by omega), hg0]
    rw [show (if pcL i (a_n a k) && pcL j (a_n a g) then (0 : Int32) else 2) = 2 from if_neg (by simp [hg0])]
    refine g_put F hK G hP hS (17) (by decide) rfl rfl iM tM tM_ok nM 0 (by decide) k2_196 rfl (ty := .int) (by decide +kernel) rfl rfl (Nat.le_of_ble_eq_true rfl) dM_prefix_60 (fun H locs hP hS => ?_)
    have hP := P_of hP (en_m_code _ _ _ _ _ _ _ _ _ _ _)
    obtain ⟨M, hP, hR, h00⟩ : ∃ M1 : Nat → Nat → Int32, va_P D cl (gw ad (en ad cI cZ cT cJ pi dr S M1 o) 25) H ∧ RepM M1 a ∧ M1 0 0 = nI 2 := ⟨_, hP, hR.num (by decide), rfl⟩
    refine lv_aload_n hx hb dM_prefix_63 rfl (lv_at hl 1 rfl) ?_
    refine g_get F hK hP (17) (by decide) rfl rfl iM 0 (by decide) k2_196 rfl dM_prefix_64 ?_
    rw [h00]
    refine lv_if_le (tgt := 74) hx hb dM_prefix_67 (by decide) (fun hc => absurd hc (show ¬ nI 2 ≤ 0 by decide)) (fun _ => ?_)
    refine lv_iconst (v := 0) hx hb dM_prefix_70 (by decide) ?_
    refine lv_goto (tgt := 83) hx hb dM_prefix_71 (by decide) ?_
    exact W.iret hx hb hr (fun t ht hW => ⟨by rw [hk1]; rfl, ⟨_, ⟨M, rfl, by rw [hk1]; exact h00, by rw [hk1]; exact hR⟩, by rw [ht]; exact hP⟩, hS.F ht⟩) hS.2.2 dM_prefix_83
  rcases pc_or j hn_g with hg1 | ⟨z, hz1, rfl⟩
  · have hk1 : (c_prefix a (nI k) (nI x) (nI g) j) = 2 := by simp [c_prefix, dk_nI hk, ix_nI (show k < 2 ^ 31 by omega), dk_nI hg, ix_nI (show g < 2 ^ 31 by omega), pc_nI hx1 hn_k, ix_nI (show x < 2 ^ 31 by omega), hg1]
    rw [show (if pcL (nI x) (a_n a k) && pcL j (a_n a g) then (0 : Int32) else 2) = 2 from if_neg (by simp [hg1])]
    refine g_put F hK G hP hS (17) (by decide) rfl rfl iM tM tM_ok nM 0 (by decide) k2_196 rfl (ty := .int) (by decide +kernel) rfl rfl (Nat.le_of_ble_eq_true rfl) dM_prefix_60 (fun H locs hP hS => ?_)
    have hP := P_of hP (en_m_code _ _ _ _ _ _ _ _ _ _ _)
    obtain ⟨M, hP, hR, h00⟩ : ∃ M1 : Nat → Nat → Int32, va_P D cl (gw ad (en ad cI cZ cT cJ pi dr S M1 o) 25) H ∧ RepM M1 a ∧ M1 0 0 = nI 2 := ⟨_, hP, hR.num (by decide), rfl⟩
    refine lv_aload_n hx hb dM_prefix_63 rfl (lv_at hl 1 rfl) ?_
    refine g_get F hK hP (17) (by decide) rfl rfl iM 0 (by decide) k2_196 rfl dM_prefix_64 ?_
    rw [h00]
    refine lv_if_le (tgt := 74) hx hb dM_prefix_67 (by decide) (fun hc => absurd hc (show ¬ nI 2 ≤ 0 by decide)) (fun _ => ?_)
    refine lv_iconst (v := 0) hx hb dM_prefix_70 (by decide) ?_
    refine lv_goto (tgt := 83) hx hb dM_prefix_71 (by decide) ?_
    exact W.iret hx hb hr (fun t ht hW => ⟨by rw [hk1]; rfl, ⟨_, ⟨M, rfl, by rw [hk1]; exact h00, by rw [hk1]; exact hR⟩, by rw [ht]; exact hP⟩, hS.F ht⟩) hS.2.2 dM_prefix_83
  rw [show (if pcL (nI x) (a_n a k) && pcL (nI z) (a_n a g) then (0 : Int32) else 2) = 0 from if_pos (by rw [pc_nI hx1 hn_k, pc_nI hz1 hn_g]; rfl)]
  have hk1 : (c_prefix a (nI k) (nI x) (nI g) (nI z)) = 0 := by simp [c_prefix, dk_nI hk, ix_nI (show k < 2 ^ 31 by omega), dk_nI hg, ix_nI (show g < 2 ^ 31 by omega), pc_nI hx1 hn_k, ix_nI (show x < 2 ^ 31 by omega), pc_nI hz1 hn_g, ix_nI (show z < 2 ^ 31 by omega)]
  refine g_put F hK G hP hS (17) (by decide) rfl rfl iM tM tM_ok nM 0 (by decide) k2_196 rfl (ty := .int) (by decide +kernel) rfl rfl (Nat.le_of_ble_eq_true rfl) dM_prefix_60 (fun H locs hP hS => ?_)
  have hP := P_of hP (en_m_code _ _ _ _ _ _ _ _ _ _ _)
  obtain ⟨M, hP, hR, h00⟩ : ∃ M1 : Nat → Nat → Int32, va_P D cl (gw ad (en ad cI cZ cT cJ pi dr S M1 o) 25) H ∧ RepM M1 a ∧ M1 0 0 = nI 0 := ⟨_, hP, hR.num (by decide), rfl⟩
  refine lv_aload_n hx hb dM_prefix_63 rfl (lv_at hl 1 rfl) ?_
  refine g_get F hK hP (17) (by decide) rfl rfl iM 0 (by decide) k2_196 rfl dM_prefix_64 ?_
  rw [h00]
  refine lv_if_le (tgt := 74) hx hb dM_prefix_67 (by decide) (fun _ => ?_) (fun hc => absurd (show  nI 0 ≤ 0 by decide) hc)
  refine lv_aload_n hx hb dM_prefix_74 rfl (lv_at hl 1 rfl) ?_
  refine lv_iload_n hx hb dM_prefix_75 rfl (lv_at hl 2 rfl) ?_
  refine lv_iload_n hx hb dM_prefix_76 rfl (lv_at hl 3 rfl) ?_
  refine lv_iload_n hx hb dM_prefix_77 rfl (lv_at hl 4 rfl) ?_
  refine lv_iload hx hb dM_prefix_78 (lv_at hl 5 rfl) ?_
  refine g_V (k := 4) F htw hB hS hP (17) (by decide) rfl rfl (c_M_common ha hR hk hg hx1 hz1) k3_55 k3_57 k0_8 k1_5 k3_58 (by decide +kernel) rfl rfl ⟨Nat.le_of_ble_eq_true rfl, Nat.le_of_ble_eq_true rfl⟩ rfl hl.1 rfl (Nat.le_of_ble_eq_true rfl) dM_prefix_80 ⟨Nat.le_of_ble_eq_true rfl, Nat.le_of_ble_eq_true rfl⟩ (fun en1 H locs he hP hS => ?_)
  obtain rfl := he
  exact W.iret hx hb hr (fun t ht hW => ⟨by rw [hk1, if_pos rfl]; simp [dk_nI hk, ix_nI (show k < 2 ^ 31 by omega), dk_nI hg, ix_nI (show g < 2 ^ 31 by omega), pc_nI hx1 hn_k, ix_nI (show x < 2 ^ 31 by omega), pc_nI hz1 hn_g, ix_nI (show z < 2 ^ 31 by omega)], ⟨_, ⟨M, rfl, by rw [hk1]; exact h00, by rw [hk1, if_pos rfl]; exact hR⟩, by rw [ht]; exact hP⟩, hS.F ht⟩) hS.2.2 dM_prefix_83
set_option maxHeartbeats 4000000 in
set_option maxRecDepth 100000 in
theorem c_M_order (G : gGeo ad 25 base) (ha : a_ok a) (hR : RepM M a) (d i d2 j : Int32) : Met l yM_order (Cond.code yM_order bM_order 9 (some .int) :: tws) { frames := 1, cells := 0, slots := 0, locals := 25 } (gPc (tw D cI cZ cT cJ base) D cl ad 25 base (en ad cI cZ cT cJ pi dr S M o) [.ref (ad 17), .int d, .int i, .int d2, .int j]) (gQc D cl ad 25 base (some (.int (if (c_prefix a d i d2 j) = 0 then (r_order a (ix d) (ix i) (ix d2) (ix j)) else 0))) (fun e => ∃ M1 : Nat → Nat → Int32, e = en ad cI cZ cT cJ pi dr S M1 o ∧ M1 0 0 = nI (c_prefix a d i d2 j) ∧ RepM M1 (if (c_prefix a d i d2 j) = 0 then a else a))) 0 0 (gA base) := by
  refine Met.ofW (cc := bM_order) (maxL := 9) (ret := (some .int)) (by decide) rfl ?_
  intro p e s m args below meth c s₁ B hml hv
  obtain ⟨rfl, htw, hB, hP⟩ := hv
  have hx := B.exec
  have hb := B.bytes
  have hr := B.returns
  have hts0 := atoms_spec (ws := Cond.code yM_order bM_order 9 (some .int) :: tws) B.pre
  have hts : ∀ w ∈ tws, w.before _ s = true := fun w h => hts0 w (List.mem_cons_of_mem _ h)
  have hown : s.vm.findClass "PairedTextsModel" = some m.cls := findClass_of_methodNamed B.named
  have hlocks := B.notSynchronized
  have hno := B.noHandlers (hts0 _ List.mem_cons_self)
  have F : CallFix p m c bM_order 9 s _ tws "PairedTextsModel" := ⟨hx, hb, hml, hown, hts⟩
  have hK := htw.1
  have hS : va_S (gA base) s.heap s.heap [] := va_S.rf
  have hl := lv_entry ([.ref (ad 17), .int d, .int i, .int d2, .int j]) (n := 9) (Nat.le_of_ble_eq_true rfl)
  rw [lg_entry_eq]
  generalize (lg_sl ([.ref (ad 17), .int d, .int i, .int d2, .int j]) ++ List.replicate (9 - (lg_sl ([.ref (ad 17), .int d, .int i, .int d2, .int j])).length) Slot.unset).toArray = ls at hl ⊢
  have hl : lv_has ls 9 [(0, .ref (ad 17)), (1, .int d), (2, .int i), (3, .int d2), (4, .int j)] := hl
  have z0 : (0 : Int32).toInt = 0 := rfl
  refine lv_iload_n hx hb dM_order_0 rfl (lv_at hl 1 rfl) ?_
  rcases dk_or d with hd | ⟨k, hk, rfl⟩
  · have hk1 : (c_prefix a d i d2 j) = 1 := by simp [c_prefix, hd.1]
    refine g_S (k := 1) F htw hB hS hP (c_M_isDocument d) k2_238 k2_239 k1_5 k3_0 (by decide +kernel) rfl rfl ⟨Nat.le_of_ble_eq_true rfl, Nat.le_of_ble_eq_true rfl⟩ rfl hl.1 rfl (Nat.le_of_ble_eq_true rfl) dM_order_1 ⟨Nat.le_of_ble_eq_true rfl, Nat.le_of_ble_eq_true rfl⟩ (fun en1 H locs he hP hS => ?_)
    obtain rfl := he
    refine lv_if_eq (tgt := 18) hx hb dM_order_4 (by decide) (fun _ => ?_) (fun hc => absurd (show (if dk d then (1 : Int32) else 0) = 0 by rw [hd.1]; rfl) hc)
    refine lv_iconst (v := 0) hx hb dM_order_18 (by decide) ?_
    refine lv_istore hx hb dM_order_19 hl (by decide) rfl (fun ls hl => ?_)
    have hl : lv_has ls 9 [(5, .int _), (0, .ref _), (1, .int _), (2, .int _), (3, .int _), (4, .int _)] := hl
    refine lv_aload_n hx hb dM_order_21 rfl (lv_at hl 1 rfl) ?_
    refine lv_iload hx hb dM_order_22 (lv_at hl 0 rfl) ?_
    refine lv_iload_n hx hb dM_order_24 rfl (lv_at hl 3 rfl) ?_
    refine lv_iload hx hb dM_order_25 (lv_at hl 5 rfl) ?_
    refine lv_iload hx hb dM_order_27 (lv_at hl 0 rfl) ?_
    refine lv_if_eq (tgt := 41) hx hb dM_order_29 (by decide) (fun _ => ?_) (fun hc => absurd (rfl : (0 : Int32) = 0) hc)
    refine lv_iconst (v := 0) hx hb dM_order_41 (by decide) ?_
    refine lv_iload hx hb dM_order_42 (lv_at hl 0 rfl) ?_
    refine lv_if_eq (tgt := 56) hx hb dM_order_44 (by decide) (fun _ => ?_) (fun hc => absurd (rfl : (0 : Int32) = 0) hc)
    refine lv_iconst (v := 0) hx hb dM_order_56 (by decide) ?_
    refine g_S (k := 5) F htw hB hS hP (c_M_pieces_no i j 0 0) k3_63 k3_64 k1_5 k3_65 (by decide +kernel) rfl rfl ⟨Nat.le_of_ble_eq_true rfl, Nat.le_of_ble_eq_true rfl⟩ rfl hl.1 rfl (Nat.le_of_ble_eq_true rfl) dM_order_57 ⟨Nat.le_of_ble_eq_true rfl, Nat.le_of_ble_eq_true rfl⟩ (fun en1 H locs he hP hS => ?_)
    obtain rfl := he
    refine g_put F hK G hP hS (17) (by decide) rfl rfl iM tM tM_ok nM 0 (by decide) k2_196 rfl (ty := .int) (by decide +kernel) rfl rfl (Nat.le_of_ble_eq_true rfl) dM_order_60 (fun H locs hP hS => ?_)
    have hP := P_of hP (en_m_code _ _ _ _ _ _ _ _ _ _ _)
    obtain ⟨M, hP, hR, h00⟩ : ∃ M1 : Nat → Nat → Int32, va_P D cl (gw ad (en ad cI cZ cT cJ pi dr S M1 o) 25) H ∧ RepM M1 a ∧ M1 0 0 = nI 1 := ⟨_, hP, hR.num (by decide), rfl⟩
    refine lv_aload_n hx hb dM_order_63 rfl (lv_at hl 1 rfl) ?_
    refine g_get F hK hP (17) (by decide) rfl rfl iM 0 (by decide) k2_196 rfl dM_order_64 ?_
    rw [h00]
    refine lv_if_le (tgt := 72) hx hb dM_order_67 (by decide) (fun hc => absurd hc (show ¬ nI 1 ≤ 0 by decide)) (fun _ => ?_)
    refine lv_iconst (v := 0) hx hb dM_order_70 (by decide) ?_
    exact W.iret hx hb hr (fun t ht hW => ⟨by rw [hk1]; rfl, ⟨_, ⟨M, rfl, by rw [hk1]; exact h00, by rw [hk1]; exact hR⟩, by rw [ht]; exact hP⟩, hS.F ht⟩) hS.2.2 dM_order_71
  refine g_S (k := 1) F htw hB hS hP (c_M_isDocument (nI k)) k2_238 k2_239 k1_5 k3_0 (by decide +kernel) rfl rfl ⟨Nat.le_of_ble_eq_true rfl, Nat.le_of_ble_eq_true rfl⟩ rfl hl.1 rfl (Nat.le_of_ble_eq_true rfl) dM_order_1 ⟨Nat.le_of_ble_eq_true rfl, Nat.le_of_ble_eq_true rfl⟩ (fun en1 H locs he hP hS => ?_)
  obtain rfl := he
  refine lv_if_eq (tgt := 18) hx hb dM_order_4 (by decide) (fun hc => absurd hc (show ¬ (if dk (nI k) then (1 : Int32) else 0) = 0 by rw [dk_nI hk]; decide)) (fun _ => ?_)
  have hn_k := ha.1 k hk
  refine lv_iload_n hx hb dM_order_7 rfl (lv_at hl 3 rfl) ?_
  rcases dk_or d2 with hd | ⟨g, hg, rfl⟩
  · have hk1 : (c_prefix a (nI k) i d2 j) = 1 := by simp [c_prefix, dk_nI hk, ix_nI (show k < 2 ^ 31 by omega), hd.1]
    refine g_S (k := 1) F htw hB hS hP (c_M_isDocument d2) k2_238 k2_239 k1_5 k3_0 (by decide +kernel) rfl rfl ⟨Nat.le_of_ble_eq_true rfl, Nat.le_of_ble_eq_true rfl⟩ rfl hl.1 rfl (Nat.le_of_ble_eq_true rfl) dM_order_8 ⟨Nat.le_of_ble_eq_true rfl, Nat.le_of_ble_eq_true rfl⟩ (fun en1 H locs he hP hS => ?_)
    obtain rfl := he
    refine lv_if_eq (tgt := 18) hx hb dM_order_11 (by decide) (fun _ => ?_) (fun hc => absurd (show (if dk d2 then (1 : Int32) else 0) = 0 by rw [hd.1]; rfl) hc)
    refine lv_iconst (v := 0) hx hb dM_order_18 (by decide) ?_
    refine lv_istore hx hb dM_order_19 hl (by decide) rfl (fun ls hl => ?_)
    have hl : lv_has ls 9 [(5, .int _), (0, .ref _), (1, .int _), (2, .int _), (3, .int _), (4, .int _)] := hl
    refine lv_aload_n hx hb dM_order_21 rfl (lv_at hl 1 rfl) ?_
    refine lv_iload hx hb dM_order_22 (lv_at hl 0 rfl) ?_
    refine lv_iload_n hx hb dM_order_24 rfl (lv_at hl 3 rfl) ?_
    refine lv_iload hx hb dM_order_25 (lv_at hl 5 rfl) ?_
    refine lv_iload hx hb dM_order_27 (lv_at hl 0 rfl) ?_
    refine lv_if_eq (tgt := 41) hx hb dM_order_29 (by decide) (fun _ => ?_) (fun hc => absurd (rfl : (0 : Int32) = 0) hc)
    refine lv_iconst (v := 0) hx hb dM_order_41 (by decide) ?_
    refine lv_iload hx hb dM_order_42 (lv_at hl 0 rfl) ?_
    refine lv_if_eq (tgt := 56) hx hb dM_order_44 (by decide) (fun _ => ?_) (fun hc => absurd (rfl : (0 : Int32) = 0) hc)
    refine lv_iconst (v := 0) hx hb dM_order_56 (by decide) ?_
    refine g_S (k := 5) F htw hB hS hP (c_M_pieces_no i j 0 0) k3_63 k3_64 k1_5 k3_65 (by decide +kernel) rfl rfl ⟨Nat.le_of_ble_eq_true rfl, Nat.le_of_ble_eq_true rfl⟩ rfl hl.1 rfl (Nat.le_of_ble_eq_true rfl) dM_order_57 ⟨Nat.le_of_ble_eq_true rfl, Nat.le_of_ble_eq_true rfl⟩ (fun en1 H locs he hP hS => ?_)
    obtain rfl := he
    refine g_put F hK G hP hS (17) (by decide) rfl rfl iM tM tM_ok nM 0 (by decide) k2_196 rfl (ty := .int) (by decide +kernel) rfl rfl (Nat.le_of_ble_eq_true rfl) dM_order_60 (fun H locs hP hS => ?_)
    have hP := P_of hP (en_m_code _ _ _ _ _ _ _ _ _ _ _)
    obtain ⟨M, hP, hR, h00⟩ : ∃ M1 : Nat → Nat → Int32, va_P D cl (gw ad (en ad cI cZ cT cJ pi dr S M1 o) 25) H ∧ RepM M1 a ∧ M1 0 0 = nI 1 := ⟨_, hP, hR.num (by decide), rfl⟩
    refine lv_aload_n hx hb dM_order_63 rfl (lv_at hl 1 rfl) ?_
    refine g_get F hK hP (17) (by decide) rfl rfl iM 0 (by decide) k2_196 rfl dM_order_64 ?_
    rw [h00]
    refine lv_if_le (tgt := 72) hx hb dM_order_67 (by decide) (fun hc => absurd hc (show ¬ nI 1 ≤ 0 by decide)) (fun _ => ?_)
    refine lv_iconst (v := 0) hx hb dM_order_70 (by decide) ?_
    exact W.iret hx hb hr (fun t ht hW => ⟨by rw [hk1]; rfl, ⟨_, ⟨M, rfl, by rw [hk1]; exact h00, by rw [hk1]; exact hR⟩, by rw [ht]; exact hP⟩, hS.F ht⟩) hS.2.2 dM_order_71
  refine g_S (k := 1) F htw hB hS hP (c_M_isDocument (nI g)) k2_238 k2_239 k1_5 k3_0 (by decide +kernel) rfl rfl ⟨Nat.le_of_ble_eq_true rfl, Nat.le_of_ble_eq_true rfl⟩ rfl hl.1 rfl (Nat.le_of_ble_eq_true rfl) dM_order_8 ⟨Nat.le_of_ble_eq_true rfl, Nat.le_of_ble_eq_true rfl⟩ (fun en1 H locs he hP hS => ?_)
  obtain rfl := he
  refine lv_if_eq (tgt := 18) hx hb dM_order_11 (by decide) (fun hc => absurd hc (show ¬ (if dk (nI g) then (1 : Int32) else 0) = 0 by rw [dk_nI hg]; decide)) (fun _ => ?_)
  have hn_g := ha.1 g hg
  refine lv_iconst (v := 1) hx hb dM_order_14 (by decide) ?_
  refine lv_goto (tgt := 19) hx hb dM_order_15 (by decide) ?_
  refine lv_istore hx hb dM_order_19 hl (by decide) rfl (fun ls hl => ?_)
  have hl : lv_has ls 9 [(5, .int _), (0, .ref _), (1, .int _), (2, .int _), (3, .int _), (4, .int _)] := hl
  refine lv_aload_n hx hb dM_order_21 rfl (lv_at hl 1 rfl) ?_
  refine lv_iload hx hb dM_order_22 (lv_at hl 0 rfl) ?_
  refine lv_iload_n hx hb dM_order_24 rfl (lv_at hl 3 rfl) ?_
  refine lv_iload hx hb dM_order_25 (lv_at hl 5 rfl) ?_
  refine lv_iload hx hb dM_order_27 (lv_at hl 0 rfl) ?_
  refine lv_if_eq (tgt := 41) hx hb dM_order_29 (by decide) (fun hc => absurd hc (show ¬ (1 : Int32) = 0 by decide)) (fun _ => ?_)
  refine lv_aload_n hx hb dM_order_32 rfl (lv_at hl 1 rfl) ?_
  refine g_get F hK hP (17) (by decide) rfl rfl iM 2 (by decide) k2_198 rfl dM_order_33 ?_
  refine lv_iload_n hx hb dM_order_36 rfl (lv_at hl 2 rfl) ?_
  refine g_iald F hK hP (19) (by decide) 0 rfl rfl (vp_in_nI hk (by omega)) dM_order_37 ?_
  rw [nI_clamp (show k < 2 ^ 31 by omega), hR.1 k hk]
  refine lv_goto (tgt := 42) hx hb dM_order_38 (by decide) ?_
  refine lv_iload hx hb dM_order_42 (lv_at hl 0 rfl) ?_
  refine lv_if_eq (tgt := 56) hx hb dM_order_44 (by decide) (fun hc => absurd hc (show ¬ (1 : Int32) = 0 by decide)) (fun _ => ?_)
  refine lv_aload_n hx hb dM_order_47 rfl (lv_at hl 1 rfl) ?_
  refine g_get F hK hP (17) (by decide) rfl rfl iM 2 (by decide) k2_198 rfl dM_order_48 ?_
  refine lv_iload_n hx hb dM_order_51 rfl (lv_at hl 4 rfl) ?_
  refine g_iald F hK hP (19) (by decide) 0 rfl rfl (vp_in_nI hg (by omega)) dM_order_52 ?_
  rw [nI_clamp (show g < 2 ^ 31 by omega), hR.1 g hg]
  refine lv_goto (tgt := 57) hx hb dM_order_53 (by decide) ?_
  refine g_S (k := 5) F htw hB hS hP (c_M_pieces i j hn_k hn_g) k3_63 k3_64 k1_5 k3_65 (by decide +kernel) rfl rfl ⟨Nat.le_of_ble_eq_true rfl, Nat.le_of_ble_eq_true rfl⟩ rfl hl.1 rfl (Nat.le_of_ble_eq_true rfl) dM_order_57 ⟨Nat.le_of_ble_eq_true rfl, Nat.le_of_ble_eq_true rfl⟩ (fun en1 H locs he hP hS => ?_)
  obtain rfl := he
  rcases pc_or i hn_k with hg0 | ⟨x, hx1, rfl⟩
  · have hk1 : (c_prefix a (nI k) i (nI g) j) = 2 := by simp [c_prefix, dk_nI hk, ix_nI (show k < 2 ^ 31 by omega), dk_nI hg, ix_nI (show g < 2 ^ 31 by omega), hg0]
    rw [show (if pcL i (a_n a k) && pcL j (a_n a g) then (0 : Int32) else 2) = 2 from if_neg (by simp [hg0])]
    refine g_put F hK G hP hS (17) (by decide) rfl rfl iM tM tM_ok nM 0 (by decide) k2_196 rfl (ty := .int) (by decide +kernel) rfl rfl (Nat.le_of_ble_eq_true rfl) dM_order_60 (fun H locs hP hS => ?_)
    have hP := P_of hP (en_m_code _ _ _ _ _ _ _ _ _ _ _)
    obtain ⟨M, hP, hR, h00⟩ : ∃ M1 : Nat → Nat → Int32, va_P D cl (gw ad (en ad cI cZ cT cJ pi dr S M1 o) 25) H ∧ RepM M1 a ∧ M1 0 0 = nI 2 := ⟨_, hP, hR.num (by decide), rfl⟩
    refine lv_aload_n hx hb dM_order_63 rfl (lv_at hl 1 rfl) ?_
    refine g_get F hK hP (17) (by decide) rfl rfl iM 0 (by decide) k2_196 rfl dM_order_64 ?_
    rw [h00]
    refine lv_if_le (tgt := 72) hx hb dM_order_67 (by decide) (fun hc => absurd hc (show ¬ nI 2 ≤ 0 by decide)) (fun _ => ?_)
    refine lv_iconst (v := 0) hx hb dM_order_70 (by decide) ?_
    exact W.iret hx hb hr (fun t ht hW => ⟨by rw [hk1]; rfl, ⟨_, ⟨M, rfl, by rw [hk1]; exact h00, by rw [hk1]; exact hR⟩, by rw [ht]; exact hP⟩, hS.F ht⟩) hS.2.2 dM_order_71
  rcases pc_or j hn_g with hg1 | ⟨z, hz1, rfl⟩
  · have hk1 : (c_prefix a (nI k) (nI x) (nI g) j) = 2 := by simp [c_prefix, dk_nI hk, ix_nI (show k < 2 ^ 31 by omega), dk_nI hg, ix_nI (show g < 2 ^ 31 by omega), pc_nI hx1 hn_k, ix_nI (show x < 2 ^ 31 by omega), hg1]
    rw [show (if pcL (nI x) (a_n a k) && pcL j (a_n a g) then (0 : Int32) else 2) = 2 from if_neg (by simp [hg1])]
    refine g_put F hK G hP hS (17) (by decide) rfl rfl iM tM tM_ok nM 0 (by decide) k2_196 rfl (ty := .int) (by decide +kernel) rfl rfl (Nat.le_of_ble_eq_true rfl) dM_order_60 (fun H locs hP hS => ?_)
    have hP := P_of hP (en_m_code _ _ _ _ _ _ _ _ _ _ _)
    obtain ⟨M, hP, hR, h00⟩ : ∃ M1 : Nat → Nat → Int32, va_P D cl (gw ad (en ad cI cZ cT cJ pi dr S M1 o) 25) H ∧ RepM M1 a ∧ M1 0 0 = nI 2 := ⟨_, hP, hR.num (by decide), rfl⟩
    refine lv_aload_n hx hb dM_order_63 rfl (lv_at hl 1 rfl) ?_
    refine g_get F hK hP (17) (by decide) rfl rfl iM 0 (by decide) k2_196 rfl dM_order_64 ?_
    rw [h00]
    refine lv_if_le (tgt := 72) hx hb dM_order_67 (by decide) (fun hc => absurd hc (show ¬ nI 2 ≤ 0 by decide)) (fun _ => ?_)
    refine lv_iconst (v := 0) hx hb dM_order_70 (by decide) ?_
    exact W.iret hx hb hr (fun t ht hW => ⟨by rw [hk1]; rfl, ⟨_, ⟨M, rfl, by rw [hk1]; exact h00, by rw [hk1]; exact hR⟩, by rw [ht]; exact hP⟩, hS.F ht⟩) hS.2.2 dM_order_71
  rw [show (if pcL (nI x) (a_n a k) && pcL (nI z) (a_n a g) then (0 : Int32) else 2) = 0 from if_pos (by rw [pc_nI hx1 hn_k, pc_nI hz1 hn_g]; rfl)]
  have hk1 : (c_prefix a (nI k) (nI x) (nI g) (nI z)) = 0 := by simp [c_prefix, dk_nI hk, ix_nI (show k < 2 ^ 31 by omega), dk_nI hg, ix_nI (show g < 2 ^ 31 by omega), pc_nI hx1 hn_k, ix_nI (show x < 2 ^ 31 by omega), pc_nI hz1 hn_g, ix_nI (show z < 2 ^ 31 by omega)]
  refine g_put F hK G hP hS (17) (by decide) rfl rfl iM tM tM_ok nM 0 (by decide) k2_196 rfl (ty := .int) (by decide +kernel) rfl rfl (Nat.le_of_ble_eq_true rfl) dM_order_60 (fun H locs hP hS => ?_)
  have hP := P_of hP (en_m_code _ _ _ _ _ _ _ _ _ _ _)
  obtain ⟨M, hP, hR, h00⟩ : ∃ M1 : Nat → Nat → Int32, va_P D cl (gw ad (en ad cI cZ cT cJ pi dr S M1 o) 25) H ∧ RepM M1 a ∧ M1 0 0 = nI 0 := ⟨_, hP, hR.num (by decide), rfl⟩
  refine lv_aload_n hx hb dM_order_63 rfl (lv_at hl 1 rfl) ?_
  refine g_get F hK hP (17) (by decide) rfl rfl iM 0 (by decide) k2_196 rfl dM_order_64 ?_
  rw [h00]
  refine lv_if_le (tgt := 72) hx hb dM_order_67 (by decide) (fun _ => ?_) (fun hc => absurd (show  nI 0 ≤ 0 by decide) hc)
  refine lv_aload_n hx hb dM_order_72 rfl (lv_at hl 1 rfl) ?_
  refine lv_iload_n hx hb dM_order_73 rfl (lv_at hl 2 rfl) ?_
  refine lv_iload_n hx hb dM_order_74 rfl (lv_at hl 3 rfl) ?_
  refine lv_iload_n hx hb dM_order_75 rfl (lv_at hl 4 rfl) ?_
  refine lv_iload hx hb dM_order_76 (lv_at hl 5 rfl) ?_
  refine g_V (k := 4) F htw hB hS hP (17) (by decide) rfl rfl (c_M_common ha hR hk hg hx1 hz1) k3_55 k3_57 k0_8 k1_5 k3_58 (by decide +kernel) rfl rfl ⟨Nat.le_of_ble_eq_true rfl, Nat.le_of_ble_eq_true rfl⟩ rfl hl.1 rfl (Nat.le_of_ble_eq_true rfl) dM_order_78 ⟨Nat.le_of_ble_eq_true rfl, Nat.le_of_ble_eq_true rfl⟩ (fun en1 H locs he hP hS => ?_)
  obtain rfl := he
  have hcb : cpr a k x g z ≤ min (a_n a k - x) (a_n a g - z) := by have := (cpx_le (fun c => decide (a_b a k (x + c) = a_b a g (z + c))) (min (a_n a k - x) (a_n a g - z)) 0).2; unfold cpr; omega
  have hro : r_order a k x g z = (if x + cpr a k x g z = a_n a k ∧ z + cpr a k x g z = a_n a g then 0 else if x + cpr a k x g z = a_n a k then -1 else if z + cpr a k x g z = a_n a g then 1 else if a_b a k (x + cpr a k x g z) < a_b a g (z + cpr a k x g z) then -1 else 1) := rfl
  generalize cpr a k x g z = c0 at hcb hro ⊢
  refine lv_istore hx hb dM_order_81 hl (by decide) rfl (fun ls hl => ?_)
  have hl : lv_has ls 9 [(6, .int _), (5, .int _), (0, .ref _), (1, .int _), (2, .int _), (3, .int _), (4, .int _)] := hl
  refine lv_iload_n hx hb dM_order_83 rfl (lv_at hl 4 rfl) ?_
  refine lv_iload hx hb dM_order_84 (lv_at hl 0 rfl) ?_
  refine lv_iadd hx hb dM_order_86 ?_
  rw [nI_add]
  refine lv_aload_n hx hb dM_order_87 rfl (lv_at hl 2 rfl) ?_
  refine g_get F hK hP (17) (by decide) rfl rfl iM 2 (by decide) k2_198 rfl dM_order_88 ?_
  refine lv_iload_n hx hb dM_order_91 rfl (lv_at hl 3 rfl) ?_
  refine g_iald F hK hP (19) (by decide) 0 rfl rfl (vp_in_nI hk (by omega)) dM_order_92 ?_
  rw [nI_clamp (show k < 2 ^ 31 by omega), hR.1 k hk]
  refine lv_icmp_ne (tgt := 100) hx hb dM_order_93 (by decide) (fun h1 => ?_) (fun h1 => ?_)
  · rw [nI_eq (by omega) (by omega)] at h1
    refine lv_iconst (v := 0) hx hb dM_order_100 (by decide) ?_
    refine lv_istore hx hb dM_order_101 hl (by decide) rfl (fun ls hl => ?_)
    have hl : lv_has ls 9 [(7, .int _), (6, .int _), (5, .int _), (0, .ref _), (1, .int _), (2, .int _), (3, .int _), (4, .int _)] := hl
    refine lv_iload hx hb dM_order_103 (lv_at hl 7 rfl) ?_
    refine lv_iload hx hb dM_order_105 (lv_at hl 1 rfl) ?_
    refine lv_iadd hx hb dM_order_107 ?_
    rw [nI_add]
    refine lv_aload_n hx hb dM_order_108 rfl (lv_at hl 3 rfl) ?_
    refine g_get F hK hP (17) (by decide) rfl rfl iM 2 (by decide) k2_198 rfl dM_order_109 ?_
    refine lv_iload_n hx hb dM_order_112 rfl (lv_at hl 6 rfl) ?_
    refine g_iald F hK hP (19) (by decide) 0 rfl rfl (vp_in_nI hg (by omega)) dM_order_113 ?_
    rw [nI_clamp (show g < 2 ^ 31 by omega), hR.1 g hg]
    refine lv_icmp_ne (tgt := 121) hx hb dM_order_114 (by decide) (fun h2 => ?_) (fun h2 => ?_)
    · rw [nI_eq (by omega) (by omega)] at h2
      refine lv_iconst (v := 0) hx hb dM_order_121 (by decide) ?_
      refine lv_istore hx hb dM_order_122 hl (by decide) rfl (fun ls hl => ?_)
      have hl : lv_has ls 9 [(8, .int _), (7, .int _), (6, .int _), (5, .int _), (0, .ref _), (1, .int _), (2, .int _), (3, .int _), (4, .int _)] := hl
      refine lv_iload hx hb dM_order_124 (lv_at hl 1 rfl) ?_
      refine lv_if_ne (tgt := 134) hx hb dM_order_126 (by decide) (fun hc => absurd (rfl : (0 : Int32) = 0) hc) (fun _ => ?_)
      refine lv_iload hx hb dM_order_129 (lv_at hl 0 rfl) ?_
      refine lv_if_eq (tgt := 159) hx hb dM_order_131 (by decide) (fun _ => ?_) (fun hc => absurd (rfl : (0 : Int32) = 0) hc)
      refine lv_aload_n hx hb dM_order_159 rfl (lv_at hl 4 rfl) ?_
      refine g_get F hK hP (17) (by decide) rfl rfl iM 1 (by decide) k2_197 rfl dM_order_160 ?_
      refine lv_sipush (v := 1000) hx hb dM_order_163 (by decide) ?_
      refine lv_iload_n hx hb dM_order_166 rfl (lv_at hl 5 rfl) ?_
      refine lv_imul hx hb dM_order_167 ?_
      refine lv_iload_n hx hb dM_order_168 rfl (lv_at hl 6 rfl) ?_
      refine lv_iadd hx hb dM_order_169 ?_
      rw [k_at]
      refine lv_iload hx hb dM_order_170 (lv_at hl 2 rfl) ?_
      refine lv_iadd hx hb dM_order_172 ?_
      rw [nI_add]
      refine g_iald F hK hP (18) (by decide) 0 rfl rfl (vp_in_nI (show 1000 * k + x + c0 < 4000 by omega) (by omega)) dM_order_173 ?_
      rw [nI_clamp (show 1000 * k + x + c0 < 2 ^ 31 by omega), Nat.add_assoc (1000 * k) x c0, hR.2.1 k (x + c0) hk (by omega)]
      refine lv_aload_n hx hb dM_order_174 rfl (lv_at hl 4 rfl) ?_
      refine g_get F hK hP (17) (by decide) rfl rfl iM 1 (by decide) k2_197 rfl dM_order_175 ?_
      refine lv_sipush (v := 1000) hx hb dM_order_178 (by decide) ?_
      refine lv_iload_n hx hb dM_order_181 rfl (lv_at hl 7 rfl) ?_
      refine lv_imul hx hb dM_order_182 ?_
      refine lv_iload hx hb dM_order_183 (lv_at hl 8 rfl) ?_
      refine lv_iadd hx hb dM_order_185 ?_
      rw [k_at]
      refine lv_iload hx hb dM_order_186 (lv_at hl 2 rfl) ?_
      refine lv_iadd hx hb dM_order_188 ?_
      rw [nI_add]
      refine g_iald F hK hP (18) (by decide) 0 rfl rfl (vp_in_nI (show 1000 * g + z + c0 < 4000 by omega) (by omega)) dM_order_189 ?_
      rw [nI_clamp (show 1000 * g + z + c0 < 2 ^ 31 by omega), Nat.add_assoc (1000 * g) z c0, hR.2.1 g (z + c0) hg (by omega)]
      have q1 := ha.2.1 k (x + c0) hk (by omega)
      have q2 := ha.2.1 g (z + c0) hg (by omega)
      refine lv_icmp_ge (tgt := 197) hx hb dM_order_190 (by decide) (fun h3 => ?_) (fun h3 => ?_)
      · rw [nI_leI (by omega) (by omega)] at h3
        have hv : r_order a k x g z = 1 := by rw [hro]; simp [h1, h2, show ¬ a_b a k (x + c0) < a_b a g (z + c0) by omega]
        refine lv_iconst (v := 1) hx hb dM_order_197 (by decide) ?_
        exact W.iret hx hb hr (fun t ht hW => ⟨by rw [hk1, if_pos rfl]; simp [hv, dk_nI hk, ix_nI (show k < 2 ^ 31 by omega), dk_nI hg, ix_nI (show g < 2 ^ 31 by omega), pc_nI hx1 hn_k, ix_nI (show x < 2 ^ 31 by omega), pc_nI hz1 hn_g, ix_nI (show z < 2 ^ 31 by omega)], ⟨_, ⟨M, rfl, by rw [hk1]; exact h00, by rw [hk1, if_pos rfl]; exact hR⟩, by rw [ht]; exact hP⟩, hS.F ht⟩) hS.2.2 dM_order_198
      · rw [nI_leI (by omega) (by omega)] at h3
        have hv : r_order a k x g z = -1 := by rw [hro]; simp [h1, h2, show  a_b a k (x + c0) < a_b a g (z + c0) by omega]
        refine lv_iconst (v := (-1)) hx hb dM_order_193 (by decide) ?_
        refine lv_goto (tgt := 198) hx hb dM_order_194 (by decide) ?_
        exact W.iret hx hb hr (fun t ht hW => ⟨by rw [hk1, if_pos rfl]; simp [hv, dk_nI hk, ix_nI (show k < 2 ^ 31 by omega), dk_nI hg, ix_nI (show g < 2 ^ 31 by omega), pc_nI hx1 hn_k, ix_nI (show x < 2 ^ 31 by omega), pc_nI hz1 hn_g, ix_nI (show z < 2 ^ 31 by omega)], ⟨_, ⟨M, rfl, by rw [hk1]; exact h00, by rw [hk1, if_pos rfl]; exact hR⟩, by rw [ht]; exact hP⟩, hS.F ht⟩) hS.2.2 dM_order_198
    · rw [nI_eq (by omega) (by omega)] at h2
      refine lv_iconst (v := 1) hx hb dM_order_117 (by decide) ?_
      refine lv_goto (tgt := 122) hx hb dM_order_118 (by decide) ?_
      refine lv_istore hx hb dM_order_122 hl (by decide) rfl (fun ls hl => ?_)
      have hl : lv_has ls 9 [(8, .int _), (7, .int _), (6, .int _), (5, .int _), (0, .ref _), (1, .int _), (2, .int _), (3, .int _), (4, .int _)] := hl
      refine lv_iload hx hb dM_order_124 (lv_at hl 1 rfl) ?_
      refine lv_if_ne (tgt := 134) hx hb dM_order_126 (by decide) (fun hc => absurd (rfl : (0 : Int32) = 0) hc) (fun _ => ?_)
      refine lv_iload hx hb dM_order_129 (lv_at hl 0 rfl) ?_
      refine lv_if_eq (tgt := 159) hx hb dM_order_131 (by decide) (fun hc => absurd hc (show ¬ (1 : Int32) = 0 by decide)) (fun _ => ?_)
      refine lv_iload hx hb dM_order_134 (lv_at hl 1 rfl) ?_
      refine lv_if_eq (tgt := 148) hx hb dM_order_136 (by decide) (fun _ => ?_) (fun hc => absurd (rfl : (0 : Int32) = 0) hc)
      refine lv_iload hx hb dM_order_148 (lv_at hl 1 rfl) ?_
      refine lv_if_eq (tgt := 157) hx hb dM_order_150 (by decide) (fun _ => ?_) (fun hc => absurd (rfl : (0 : Int32) = 0) hc)
      have hv : r_order a k x g z = 1 := by rw [hro]; simp [h1, h2]
      refine lv_iconst (v := 1) hx hb dM_order_157 (by decide) ?_
      exact W.iret hx hb hr (fun t ht hW => ⟨by rw [hk1, if_pos rfl]; simp [hv, dk_nI hk, ix_nI (show k < 2 ^ 31 by omega), dk_nI hg, ix_nI (show g < 2 ^ 31 by omega), pc_nI hx1 hn_k, ix_nI (show x < 2 ^ 31 by omega), pc_nI hz1 hn_g, ix_nI (show z < 2 ^ 31 by omega)], ⟨_, ⟨M, rfl, by rw [hk1]; exact h00, by rw [hk1, if_pos rfl]; exact hR⟩, by rw [ht]; exact hP⟩, hS.F ht⟩) hS.2.2 dM_order_158
  · rw [nI_eq (by omega) (by omega)] at h1
    refine lv_iconst (v := 1) hx hb dM_order_96 (by decide) ?_
    refine lv_goto (tgt := 101) hx hb dM_order_97 (by decide) ?_
    refine lv_istore hx hb dM_order_101 hl (by decide) rfl (fun ls hl => ?_)
    have hl : lv_has ls 9 [(7, .int _), (6, .int _), (5, .int _), (0, .ref _), (1, .int _), (2, .int _), (3, .int _), (4, .int _)] := hl
    refine lv_iload hx hb dM_order_103 (lv_at hl 7 rfl) ?_
    refine lv_iload hx hb dM_order_105 (lv_at hl 1 rfl) ?_
    refine lv_iadd hx hb dM_order_107 ?_
    rw [nI_add]
    refine lv_aload_n hx hb dM_order_108 rfl (lv_at hl 3 rfl) ?_
    refine g_get F hK hP (17) (by decide) rfl rfl iM 2 (by decide) k2_198 rfl dM_order_109 ?_
    refine lv_iload_n hx hb dM_order_112 rfl (lv_at hl 6 rfl) ?_
    refine g_iald F hK hP (19) (by decide) 0 rfl rfl (vp_in_nI hg (by omega)) dM_order_113 ?_
    rw [nI_clamp (show g < 2 ^ 31 by omega), hR.1 g hg]
    refine lv_icmp_ne (tgt := 121) hx hb dM_order_114 (by decide) (fun h2 => ?_) (fun h2 => ?_)
    · rw [nI_eq (by omega) (by omega)] at h2
      refine lv_iconst (v := 0) hx hb dM_order_121 (by decide) ?_
      refine lv_istore hx hb dM_order_122 hl (by decide) rfl (fun ls hl => ?_)
      have hl : lv_has ls 9 [(8, .int _), (7, .int _), (6, .int _), (5, .int _), (0, .ref _), (1, .int _), (2, .int _), (3, .int _), (4, .int _)] := hl
      refine lv_iload hx hb dM_order_124 (lv_at hl 1 rfl) ?_
      refine lv_if_ne (tgt := 134) hx hb dM_order_126 (by decide) (fun _ => ?_) (fun hc => absurd hc (show ¬ (1 : Int32) = 0 by decide))
      refine lv_iload hx hb dM_order_134 (lv_at hl 1 rfl) ?_
      refine lv_if_eq (tgt := 148) hx hb dM_order_136 (by decide) (fun hc => absurd hc (show ¬ (1 : Int32) = 0 by decide)) (fun _ => ?_)
      refine lv_iload hx hb dM_order_139 (lv_at hl 0 rfl) ?_
      refine lv_if_eq (tgt := 148) hx hb dM_order_141 (by decide) (fun _ => ?_) (fun hc => absurd (rfl : (0 : Int32) = 0) hc)
      refine lv_iload hx hb dM_order_148 (lv_at hl 1 rfl) ?_
      refine lv_if_eq (tgt := 157) hx hb dM_order_150 (by decide) (fun hc => absurd hc (show ¬ (1 : Int32) = 0 by decide)) (fun _ => ?_)
      have hv : r_order a k x g z = -1 := by rw [hro]; simp [h1, h2]
      refine lv_iconst (v := (-1)) hx hb dM_order_153 (by decide) ?_
      refine lv_goto (tgt := 158) hx hb dM_order_154 (by decide) ?_
      exact W.iret hx hb hr (fun t ht hW => ⟨by rw [hk1, if_pos rfl]; simp [hv, dk_nI hk, ix_nI (show k < 2 ^ 31 by omega), dk_nI hg, ix_nI (show g < 2 ^ 31 by omega), pc_nI hx1 hn_k, ix_nI (show x < 2 ^ 31 by omega), pc_nI hz1 hn_g, ix_nI (show z < 2 ^ 31 by omega)], ⟨_, ⟨M, rfl, by rw [hk1]; exact h00, by rw [hk1, if_pos rfl]; exact hR⟩, by rw [ht]; exact hP⟩, hS.F ht⟩) hS.2.2 dM_order_158
    · rw [nI_eq (by omega) (by omega)] at h2
      refine lv_iconst (v := 1) hx hb dM_order_117 (by decide) ?_
      refine lv_goto (tgt := 122) hx hb dM_order_118 (by decide) ?_
      refine lv_istore hx hb dM_order_122 hl (by decide) rfl (fun ls hl => ?_)
      have hl : lv_has ls 9 [(8, .int _), (7, .int _), (6, .int _), (5, .int _), (0, .ref _), (1, .int _), (2, .int _), (3, .int _), (4, .int _)] := hl
      refine lv_iload hx hb dM_order_124 (lv_at hl 1 rfl) ?_
      refine lv_if_ne (tgt := 134) hx hb dM_order_126 (by decide) (fun _ => ?_) (fun hc => absurd hc (show ¬ (1 : Int32) = 0 by decide))
      refine lv_iload hx hb dM_order_134 (lv_at hl 1 rfl) ?_
      refine lv_if_eq (tgt := 148) hx hb dM_order_136 (by decide) (fun hc => absurd hc (show ¬ (1 : Int32) = 0 by decide)) (fun _ => ?_)
      refine lv_iload hx hb dM_order_139 (lv_at hl 0 rfl) ?_
      refine lv_if_eq (tgt := 148) hx hb dM_order_141 (by decide) (fun hc => absurd hc (show ¬ (1 : Int32) = 0 by decide)) (fun _ => ?_)
      have hv : r_order a k x g z = 0 := by rw [hro]; simp [h1, h2]
      refine lv_iconst (v := 0) hx hb dM_order_144 (by decide) ?_
      refine lv_goto (tgt := 158) hx hb dM_order_145 (by decide) ?_
      exact W.iret hx hb hr (fun t ht hW => ⟨by rw [hk1, if_pos rfl]; simp [hv, dk_nI hk, ix_nI (show k < 2 ^ 31 by omega), dk_nI hg, ix_nI (show g < 2 ^ 31 by omega), pc_nI hx1 hn_k, ix_nI (show x < 2 ^ 31 by omega), pc_nI hz1 hn_g, ix_nI (show z < 2 ^ 31 by omega)], ⟨_, ⟨M, rfl, by rw [hk1]; exact h00, by rw [hk1, if_pos rfl]; exact hR⟩, by rw [ht]; exact hP⟩, hS.F ht⟩) hS.2.2 dM_order_158
set_option maxHeartbeats 4000000 in
set_option maxRecDepth 100000 in
theorem c_M_name (G : gGeo ad 25 base) (ha : a_ok a) (hR : RepM M a) (d f t : Int32) : Met l yM_name (Cond.code yM_name bM_name 7 (some .long) :: tws) { frames := 2, cells := 0, slots := 0, locals := 54 } (gPc (tw D cI cZ cT cJ base) D cl ad 25 base (en ad cI cZ cT cJ pi dr S M o) [.ref (ad 17), .int d, .int f, .int t]) (gQc D cl ad 25 base (some (.long (if (c_name a d f t) = 0 then (lN (nms (a_b a (ix d)) (ix f) (ix t - ix f))) else 0))) (fun e => ∃ M1 : Nat → Nat → Int32, e = en ad cI cZ cT cJ pi dr S M1 o ∧ M1 0 0 = nI (c_name a d f t) ∧ RepM M1 (if (c_name a d f t) = 0 then a else a))) 0 0 (gA base) := by
  refine Met.ofW (cc := bM_name) (maxL := 7) (ret := (some .long)) (by decide) rfl ?_
  intro p e s m args below meth c s₁ B hml hv
  obtain ⟨rfl, htw, hB, hP⟩ := hv
  have hx := B.exec
  have hb := B.bytes
  have hr := B.returns
  have hts0 := atoms_spec (ws := Cond.code yM_name bM_name 7 (some .long) :: tws) B.pre
  have hts : ∀ w ∈ tws, w.before _ s = true := fun w h => hts0 w (List.mem_cons_of_mem _ h)
  have hown : s.vm.findClass "PairedTextsModel" = some m.cls := findClass_of_methodNamed B.named
  have hlocks := B.notSynchronized
  have hno := B.noHandlers (hts0 _ List.mem_cons_self)
  have F : CallFix p m c bM_name 7 s _ tws "PairedTextsModel" := ⟨hx, hb, hml, hown, hts⟩
  have hK := htw.1
  have hS : va_S (gA base) s.heap s.heap [] := va_S.rf
  have hl := lv_entry ([.ref (ad 17), .int d, .int f, .int t]) (n := 7) (Nat.le_of_ble_eq_true rfl)
  rw [lg_entry_eq]
  generalize (lg_sl ([.ref (ad 17), .int d, .int f, .int t]) ++ List.replicate (7 - (lg_sl ([.ref (ad 17), .int d, .int f, .int t])).length) Slot.unset).toArray = ls at hl ⊢
  have hl : lv_has ls 7 [(0, .ref (ad 17)), (1, .int d), (2, .int f), (3, .int t)] := hl
  have z0 : (0 : Int32).toInt = 0 := rfl
  refine lv_aload_n hx hb dM_name_0 rfl (lv_at hl 0 rfl) ?_
  refine lv_iload_n hx hb dM_name_1 rfl (lv_at hl 1 rfl) ?_
  rcases dk_or d with hd | ⟨k, hk, rfl⟩
  · have hk1 : (c_name a d f t) = 1 := by simp [c_name, hd.1]
    refine g_S (k := 1) F htw hB hS hP (c_M_isDocument d) k2_238 k2_239 k1_5 k3_0 (by decide +kernel) rfl rfl ⟨Nat.le_of_ble_eq_true rfl, Nat.le_of_ble_eq_true rfl⟩ rfl hl.1 rfl (Nat.le_of_ble_eq_true rfl) dM_name_2 ⟨Nat.le_of_ble_eq_true rfl, Nat.le_of_ble_eq_true rfl⟩ (fun en1 H locs he hP hS => ?_)
    obtain rfl := he
    refine lv_if_ne (tgt := 12) hx hb dM_name_5 (by decide) (fun hc => absurd (show (if dk d then (1 : Int32) else 0) = 0 by rw [hd.1]; rfl) hc) (fun _ => ?_)
    refine lv_iconst (v := 1) hx hb dM_name_8 (by decide) ?_
    refine lv_goto (tgt := 27) hx hb dM_name_9 (by decide) ?_
    refine g_put F hK G hP hS (17) (by decide) rfl rfl iM tM tM_ok nM 0 (by decide) k2_196 rfl (ty := .int) (by decide +kernel) rfl rfl (Nat.le_of_ble_eq_true rfl) dM_name_27 (fun H locs hP hS => ?_)
    have hP := P_of hP (en_m_code _ _ _ _ _ _ _ _ _ _ _)
    obtain ⟨M, hP, hR, h00⟩ : ∃ M1 : Nat → Nat → Int32, va_P D cl (gw ad (en ad cI cZ cT cJ pi dr S M1 o) 25) H ∧ RepM M1 a ∧ M1 0 0 = nI 1 := ⟨_, hP, hR.num (by decide), rfl⟩
    refine lv_lconst (v := 0) hx hb dM_name_30 (by decide) ?_
    refine lv_lstore hx hb dM_name_31 hl (by decide) rfl (fun ls hl => ?_)
    have hl : lv_has ls 7 [(4, .long _), (0, .ref _), (1, .int _), (2, .int _), (3, .int _)] := hl
    refine lv_iload_n hx hb dM_name_33 rfl (lv_at hl 3 rfl) ?_
    refine lv_istore hx hb dM_name_34 hl (by decide) rfl (fun ls hl => ?_)
    have hl : lv_has ls 7 [(6, .int _), (4, .long _), (0, .ref _), (1, .int _), (2, .int _), (3, .int _)] := hl
    refine lv_iload hx hb dM_name_36 (lv_at hl 0 rfl) ?_
    refine lv_iload_n hx hb dM_name_38 rfl (lv_at hl 5 rfl) ?_
    refine lv_icmp_ge (tgt := 81) hx hb dM_name_39 (by decide) (fun hc => ?_) (fun hc => ?_)
    · refine lv_lload hx hb dM_name_81 (lv_at hl 1 rfl) ?_
      exact W.lret hx hb hr (fun t ht hW => ⟨by rw [hk1]; rfl, ⟨_, ⟨M, rfl, by rw [hk1]; exact h00, by rw [hk1]; exact hR⟩, by rw [ht]; exact hP⟩, hS.F ht⟩) hS.2.2 dM_name_83
    · refine lv_aload_n hx hb dM_name_42 rfl (lv_at hl 2 rfl) ?_
      refine g_get F hK hP (17) (by decide) rfl rfl iM 0 (by decide) k2_196 rfl dM_name_43 ?_
      rw [h00]
      refine lv_if_ne (tgt := 81) hx hb dM_name_46 (by decide) (fun _ => ?_) (fun hc => absurd hc (show ¬ nI 1 = 0 by decide))
      refine lv_lload hx hb dM_name_81 (lv_at hl 1 rfl) ?_
      exact W.lret hx hb hr (fun t ht hW => ⟨by rw [hk1]; rfl, ⟨_, ⟨M, rfl, by rw [hk1]; exact h00, by rw [hk1]; exact hR⟩, by rw [ht]; exact hP⟩, hS.F ht⟩) hS.2.2 dM_name_83
  refine g_S (k := 1) F htw hB hS hP (c_M_isDocument (nI k)) k2_238 k2_239 k1_5 k3_0 (by decide +kernel) rfl rfl ⟨Nat.le_of_ble_eq_true rfl, Nat.le_of_ble_eq_true rfl⟩ rfl hl.1 rfl (Nat.le_of_ble_eq_true rfl) dM_name_2 ⟨Nat.le_of_ble_eq_true rfl, Nat.le_of_ble_eq_true rfl⟩ (fun en1 H locs he hP hS => ?_)
  obtain rfl := he
  refine lv_if_ne (tgt := 12) hx hb dM_name_5 (by decide) (fun _ => ?_) (fun hc => absurd hc (show ¬ (if dk (nI k) then (1 : Int32) else 0) = 0 by rw [dk_nI hk]; decide))
  have hn_k := ha.1 k hk
  refine lv_aload_n hx hb dM_name_12 rfl (lv_at hl 0 rfl) ?_
  refine lv_iload_n hx hb dM_name_13 rfl (lv_at hl 1 rfl) ?_
  refine lv_iload_n hx hb dM_name_14 rfl (lv_at hl 2 rfl) ?_
  refine lv_iload_n hx hb dM_name_15 rfl (lv_at hl 3 rfl) ?_
  rcases rg_or f t hn_k with hgr | ⟨f1, t1, hft, htn, rfl, rfl⟩
  · have hk1 : (c_name a (nI k) f t) = 2 := by simp [c_name, dk_nI hk, ix_nI (show k < 2 ^ 31 by omega), hgr]
    refine g_V (k := 3) F htw hB hS hP (17) (by decide) rfl rfl (c_M_isRange hk hn_k (hR.1 k hk) f t) k3_14 k3_16 k0_4 k1_5 k3_17 (by decide +kernel) rfl rfl ⟨Nat.le_of_ble_eq_true rfl, Nat.le_of_ble_eq_true rfl⟩ rfl hl.1 rfl (Nat.le_of_ble_eq_true rfl) dM_name_16 ⟨Nat.le_of_ble_eq_true rfl, Nat.le_of_ble_eq_true rfl⟩ (fun en1 H locs he hP hS => ?_)
    obtain rfl := he
    refine lv_if_ne (tgt := 26) hx hb dM_name_19 (by decide) (fun hc => absurd (show (if rg f t (a_n a k) then (1 : Int32) else 0) = 0 by rw [hgr]; rfl) hc) (fun _ => ?_)
    refine lv_iconst (v := 2) hx hb dM_name_22 (by decide) ?_
    refine lv_goto (tgt := 27) hx hb dM_name_23 (by decide) ?_
    refine g_put F hK G hP hS (17) (by decide) rfl rfl iM tM tM_ok nM 0 (by decide) k2_196 rfl (ty := .int) (by decide +kernel) rfl rfl (Nat.le_of_ble_eq_true rfl) dM_name_27 (fun H locs hP hS => ?_)
    have hP := P_of hP (en_m_code _ _ _ _ _ _ _ _ _ _ _)
    obtain ⟨M, hP, hR, h00⟩ : ∃ M1 : Nat → Nat → Int32, va_P D cl (gw ad (en ad cI cZ cT cJ pi dr S M1 o) 25) H ∧ RepM M1 a ∧ M1 0 0 = nI 2 := ⟨_, hP, hR.num (by decide), rfl⟩
    refine lv_lconst (v := 0) hx hb dM_name_30 (by decide) ?_
    refine lv_lstore hx hb dM_name_31 hl (by decide) rfl (fun ls hl => ?_)
    have hl : lv_has ls 7 [(4, .long _), (0, .ref _), (1, .int _), (2, .int _), (3, .int _)] := hl
    refine lv_iload_n hx hb dM_name_33 rfl (lv_at hl 3 rfl) ?_
    refine lv_istore hx hb dM_name_34 hl (by decide) rfl (fun ls hl => ?_)
    have hl : lv_has ls 7 [(6, .int _), (4, .long _), (0, .ref _), (1, .int _), (2, .int _), (3, .int _)] := hl
    refine lv_iload hx hb dM_name_36 (lv_at hl 0 rfl) ?_
    refine lv_iload_n hx hb dM_name_38 rfl (lv_at hl 5 rfl) ?_
    refine lv_icmp_ge (tgt := 81) hx hb dM_name_39 (by decide) (fun hc => ?_) (fun hc => ?_)
    · refine lv_lload hx hb dM_name_81 (lv_at hl 1 rfl) ?_
      exact W.lret hx hb hr (fun t ht hW => ⟨by rw [hk1]; rfl, ⟨_, ⟨M, rfl, by rw [hk1]; exact h00, by rw [hk1]; exact hR⟩, by rw [ht]; exact hP⟩, hS.F ht⟩) hS.2.2 dM_name_83
    · refine lv_aload_n hx hb dM_name_42 rfl (lv_at hl 2 rfl) ?_
      refine g_get F hK hP (17) (by decide) rfl rfl iM 0 (by decide) k2_196 rfl dM_name_43 ?_
      rw [h00]
      refine lv_if_ne (tgt := 81) hx hb dM_name_46 (by decide) (fun _ => ?_) (fun hc => absurd hc (show ¬ nI 2 = 0 by decide))
      refine lv_lload hx hb dM_name_81 (lv_at hl 1 rfl) ?_
      exact W.lret hx hb hr (fun t ht hW => ⟨by rw [hk1]; rfl, ⟨_, ⟨M, rfl, by rw [hk1]; exact h00, by rw [hk1]; exact hR⟩, by rw [ht]; exact hP⟩, hS.F ht⟩) hS.2.2 dM_name_83
  refine g_V (k := 3) F htw hB hS hP (17) (by decide) rfl rfl (c_M_isRange hk hn_k (hR.1 k hk) (nI f1) (nI t1)) k3_14 k3_16 k0_4 k1_5 k3_17 (by decide +kernel) rfl rfl ⟨Nat.le_of_ble_eq_true rfl, Nat.le_of_ble_eq_true rfl⟩ rfl hl.1 rfl (Nat.le_of_ble_eq_true rfl) dM_name_16 ⟨Nat.le_of_ble_eq_true rfl, Nat.le_of_ble_eq_true rfl⟩ (fun en1 H locs he hP hS => ?_)
  obtain rfl := he
  refine lv_if_ne (tgt := 26) hx hb dM_name_19 (by decide) (fun _ => ?_) (fun hc => absurd hc (show ¬ (if rg (nI f1) (nI t1) (a_n a k) then (1 : Int32) else 0) = 0 by rw [rg_nI hft htn hn_k]; decide))
  have hk1 : (c_name a (nI k) (nI f1) (nI t1)) = 0 := by simp [c_name, dk_nI hk, ix_nI (show k < 2 ^ 31 by omega), rg_nI hft htn hn_k, ix_nI (show f1 < 2 ^ 31 by omega), ix_nI (show t1 < 2 ^ 31 by omega)]
  refine lv_iconst (v := 0) hx hb dM_name_26 (by decide) ?_
  refine g_put F hK G hP hS (17) (by decide) rfl rfl iM tM tM_ok nM 0 (by decide) k2_196 rfl (ty := .int) (by decide +kernel) rfl rfl (Nat.le_of_ble_eq_true rfl) dM_name_27 (fun H locs hP hS => ?_)
  have hP := P_of hP (en_m_code _ _ _ _ _ _ _ _ _ _ _)
  obtain ⟨M, hP, hR, h00⟩ : ∃ M1 : Nat → Nat → Int32, va_P D cl (gw ad (en ad cI cZ cT cJ pi dr S M1 o) 25) H ∧ RepM M1 a ∧ M1 0 0 = nI 0 := ⟨_, hP, hR.num (by decide), rfl⟩
  refine lv_lconst (v := 0) hx hb dM_name_30 (by decide) ?_
  refine lv_lstore hx hb dM_name_31 hl (by decide) rfl (fun ls hl => ?_)
  have hl : lv_has ls 7 [(4, .long _), (0, .ref _), (1, .int _), (2, .int _), (3, .int _)] := hl
  refine lv_iload_n hx hb dM_name_33 rfl (lv_at hl 3 rfl) ?_
  refine lv_istore hx hb dM_name_34 hl (by decide) rfl (fun ls hl => ?_)
  have hl : lv_has ls 7 [(6, .int _), (4, .long _), (0, .ref _), (1, .int _), (2, .int _), (3, .int _)] := hl
  have hl : lv_has ls 7 [(6, .int (nI (f1 + 0))), (4, .long (lN (nms (a_b a k) f1 0))), (0, .ref (ad 17)), (1, .int (nI k)), (2, .int (nI f1)), (3, .int (nI t1))] := hl
  refine W.loop (α := Nat) (fun t a1 ls H locs => f1 + a1 + t = t1 ∧ lv_has ls 7 [(6, .int (nI (f1 + a1))), (4, .long (lN (nms (a_b a k) f1 a1))), (0, .ref (ad 17)), (1, .int (nI k)), (2, .int (nI f1)), (3, .int (nI t1))] ∧ va_P D cl (gw ad (en ad cI cZ cT cJ pi dr S M o) 25) H ∧ va_S (gA base) s.heap H locs) ?_ (t := (t1 - f1)) (a := 0) ⟨by show f1 + 0 + (t1 - f1) = t1; omega, hl, hP, hS⟩
  clear hl hP hS
  intro t a1 ls H locs hI ih
  obtain ⟨i0, hl, hP, hS⟩ := hI
  try dsimp only at i0 hl hP
  by_cases ht : t = 0
  · have hu : t1 - f1 = a1 := by omega
    refine lv_iload hx hb dM_name_36 (lv_at hl 0 rfl) ?_
    refine lv_iload_n hx hb dM_name_38 rfl (lv_at hl 5 rfl) ?_
    refine lv_icmp_ge (tgt := 81) hx hb dM_name_39 (by decide) (fun _ => ?_) (fun hc => absurd (by rw [nI_leI (by omega) (by omega)]; omega) hc)
    refine lv_lload hx hb dM_name_81 (lv_at hl 1 rfl) ?_
    exact W.lret hx hb hr (fun t ht hW => ⟨by rw [hk1, if_pos rfl]; simp [hu, dk_nI hk, ix_nI (show k < 2 ^ 31 by omega), rg_nI hft htn hn_k, ix_nI (show f1 < 2 ^ 31 by omega), ix_nI (show t1 < 2 ^ 31 by omega)], ⟨_, ⟨M, rfl, by rw [hk1]; exact h00, by rw [hk1, if_pos rfl]; exact hR⟩, by rw [ht]; exact hP⟩, hS.F ht⟩) hS.2.2 dM_name_83
  · refine lv_iload hx hb dM_name_36 (lv_at hl 0 rfl) ?_
    refine lv_iload_n hx hb dM_name_38 rfl (lv_at hl 5 rfl) ?_
    refine lv_icmp_ge (tgt := 81) hx hb dM_name_39 (by decide) (fun hc => absurd hc (by rw [nI_leI (by omega) (by omega)]; omega)) (fun _ => ?_)
    refine lv_aload_n hx hb dM_name_42 rfl (lv_at hl 2 rfl) ?_
    refine g_get F hK hP (17) (by decide) rfl rfl iM 0 (by decide) k2_196 rfl dM_name_43 ?_
    rw [h00]
    refine lv_if_ne (tgt := 81) hx hb dM_name_46 (by decide) (fun hc => absurd (show  nI 0 = 0 by decide) hc) (fun _ => ?_)
    refine lv_lload hx hb dM_name_49 (lv_at hl 1 rfl) ?_
    have hb2 := ha.2.1 k (f1 + a1) hk (by omega)
    have hnl := nms_lt (a_b a k) f1 a1
    have hnm := nm_sm hnl hb2
    refine g_S (k := 1) F htw hB hS hP (c_M_times hnl) k3_74 k3_75 k1_5 k3_76 (by decide +kernel) rfl rfl ⟨Nat.le_of_ble_eq_true rfl, Nat.le_of_ble_eq_true rfl⟩ rfl hl.1 rfl (Nat.le_of_ble_eq_true rfl) dM_name_51 ⟨Nat.le_of_ble_eq_true rfl, Nat.le_of_ble_eq_true rfl⟩ (fun en1 H locs he hP hS => ?_)
    obtain rfl := he
    refine lv_aload_n hx hb dM_name_54 rfl (lv_at hl 2 rfl) ?_
    refine g_get F hK hP (17) (by decide) rfl rfl iM 1 (by decide) k2_197 rfl dM_name_55 ?_
    refine lv_sipush (v := 1000) hx hb dM_name_58 (by decide) ?_
    refine lv_iload_n hx hb dM_name_61 rfl (lv_at hl 3 rfl) ?_
    refine lv_imul hx hb dM_name_62 ?_
    refine lv_iload hx hb dM_name_63 (lv_at hl 0 rfl) ?_
    refine lv_iadd hx hb dM_name_65 ?_
    rw [k_at]
    refine g_iald F hK hP (18) (by decide) 0 rfl rfl (vp_in_nI (show 1000 * k + (f1 + a1) < 4000 by omega) (by omega)) dM_name_66 ?_
    rw [nI_clamp (show 1000 * k + (f1 + a1) < 2 ^ 31 by omega), hR.2.1 k (f1 + a1) hk (by omega)]
    refine lv_i2l hx hb dM_name_67 rfl ?_
    rw [nI_l (show a_b a k (f1 + a1) < 2 ^ 31 by omega)]
    refine lv_lconst (v := 1) hx hb dM_name_68 (by decide) ?_
    refine lv_ladd hx hb dM_name_69 ?_
    rw [lN_1]
    refine g_S (k := 2) F htw hB hS hP (c_M_sum (y := a_b a k (f1 + a1) + 1) (by have := hnm.1; omega)) k3_81 k3_82 k1_5 k3_83 (by decide +kernel) rfl rfl ⟨Nat.le_of_ble_eq_true rfl, Nat.le_of_ble_eq_true rfl⟩ rfl hl.1 rfl (Nat.le_of_ble_eq_true rfl) dM_name_70 ⟨Nat.le_of_ble_eq_true rfl, Nat.le_of_ble_eq_true rfl⟩ (fun en1 H locs he hP hS => ?_)
    obtain rfl := he
    rw [show sm (sm _ + (a_b a k (f1 + a1) + 1)) = nms (a_b a k) f1 (a1 + 1) from hnm.2]
    refine lv_lstore hx hb dM_name_73 hl (by decide) rfl (fun ls hl => ?_)
    have hl : lv_has ls 7 [(4, .long _), (6, .int _), (0, .ref _), (1, .int _), (2, .int _), (3, .int _)] := hl
    refine lv_iinc (k := 1) hx hb dM_name_75 hl rfl rfl (by decide) rfl (fun ls hl => ?_)
    have hl : lv_has ls 7 [(6, .int _), (4, .long _), (0, .ref _), (1, .int _), (2, .int _), (3, .int _)] := hl
    refine lv_goto (tgt := 36) hx hb dM_name_78 (by decide) ?_
    have hl : lv_has ls 7 [(6, .int (nI (f1 + (a1 + 1)))), (4, .long (lN (nms (a_b a k) f1 (a1 + 1)))), (0, .ref (ad 17)), (1, .int (nI k)), (2, .int (nI f1)), (3, .int (nI t1))] := by rw [← Nat.add_assoc, ← nI_1]; exact hl
    exact ih (t - 1) (a1 + 1) _ _ _ (by omega) ⟨by show f1 + (a1 + 1) + (t - 1) = t1; omega, hl, hP, hS⟩
set_option maxHeartbeats 4000000 in
set_option maxRecDepth 100000 in
theorem c_M_pattern (G : gGeo ad 25 base) (ha : a_ok a) (hR : RepM M a) (lo hi : Int64) (n : Int32) : Met l yM_pattern (Cond.code yM_pattern bM_pattern 7 none :: tws) { frames := 0, cells := 0, slots := 0, locals := 0 } (gPc (tw D cI cZ cT cJ base) D cl ad 25 base (en ad cI cZ cT cJ pi dr S M o) [.ref (ad 17), .long lo, .long hi, .int n]) (gQc D cl ad 25 base none (fun e => ∃ M1 : Nat → Nat → Int32, e = en ad cI cZ cT cJ pi dr S M1 o ∧ M1 0 0 = nI (c_pattern n) ∧ RepM M1 (if (c_pattern n) = 0 then x_pattern a lo hi n else a))) 0 0 (gA base) := by
  refine Met.ofW (cc := bM_pattern) (maxL := 7) (ret := none) (by decide) rfl ?_
  intro p e s m args below meth c s₁ B hml hv
  obtain ⟨rfl, htw, hB, hP⟩ := hv
  have hx := B.exec
  have hb := B.bytes
  have hr := B.returns
  have hts0 := atoms_spec (ws := Cond.code yM_pattern bM_pattern 7 none :: tws) B.pre
  have hts : ∀ w ∈ tws, w.before _ s = true := fun w h => hts0 w (List.mem_cons_of_mem _ h)
  have hown : s.vm.findClass "PairedTextsModel" = some m.cls := findClass_of_methodNamed B.named
  have hlocks := B.notSynchronized
  have hno := B.noHandlers (hts0 _ List.mem_cons_self)
  have F : CallFix p m c bM_pattern 7 s _ tws "PairedTextsModel" := ⟨hx, hb, hml, hown, hts⟩
  have hK := htw.1
  have hS : va_S (gA base) s.heap s.heap [] := va_S.rf
  have hl := lv_entry ([.ref (ad 17), .long lo, .long hi, .int n]) (n := 7) (Nat.le_of_ble_eq_true rfl)
  rw [lg_entry_eq]
  generalize (lg_sl ([.ref (ad 17), .long lo, .long hi, .int n]) ++ List.replicate (7 - (lg_sl ([.ref (ad 17), .long lo, .long hi, .int n])).length) Slot.unset).toArray = ls at hl ⊢
  have hl : lv_has ls 7 [(0, .ref (ad 17)), (1, .long lo), (3, .long hi), (5, .int n)] := hl
  have z0 : (0 : Int32).toInt = 0 := rfl
  have z1 : (1 : Int32).toInt = 1 := rfl
  have z8 : (16 : Int32).toInt = 16 := rfl
  refine lv_aload_n hx hb dM_pattern_0 rfl (lv_at hl 0 rfl) ?_
  refine lv_iload hx hb dM_pattern_1 (lv_at hl 3 rfl) ?_
  refine lv_iconst (v := 1) hx hb dM_pattern_3 (by decide) ?_
  rcases bt_or n 16 with hg0 | ⟨j, hj1, hj8, rfl⟩
  · have hk1 : (c_pattern n) = 1 := by simp [c_pattern, show btw n 1 16 = false from hg0.1]
    refine lv_icmp_lt (tgt := 14) hx hb dM_pattern_4 (by decide) (fun hc => ?_) (fun hc => ?_)
    · refine lv_iconst (v := 1) hx hb dM_pattern_14 (by decide) ?_
      refine lv_goto (tgt := 19) hx hb dM_pattern_15 (by decide) ?_
      refine g_put F hK G hP hS (17) (by decide) rfl rfl iM tM tM_ok nM 0 (by decide) k2_196 rfl (ty := .int) (by decide +kernel) rfl rfl (Nat.le_of_ble_eq_true rfl) dM_pattern_19 (fun H locs hP hS => ?_)
      have hP := P_of hP (en_m_code _ _ _ _ _ _ _ _ _ _ _)
      obtain ⟨M, hP, hR, h00⟩ : ∃ M1 : Nat → Nat → Int32, va_P D cl (gw ad (en ad cI cZ cT cJ pi dr S M1 o) 25) H ∧ RepM M1 a ∧ M1 0 0 = nI 1 := ⟨_, hP, hR.num (by decide), rfl⟩
      refine lv_iconst (v := 0) hx hb dM_pattern_22 (by decide) ?_
      refine lv_istore hx hb dM_pattern_23 hl (by decide) rfl (fun ls hl => ?_)
      have hl : lv_has ls 7 [(6, .int _), (0, .ref _), (1, .long _), (3, .long _), (5, .int _)] := hl
      refine lv_iload hx hb dM_pattern_25 (lv_at hl 0 rfl) ?_
      refine lv_iload hx hb dM_pattern_27 (lv_at hl 4 rfl) ?_
      refine lv_icmp_ge (tgt := 84) hx hb dM_pattern_29 (by decide) (fun hc => ?_) (fun hc => ?_)
      · refine lv_aload_n hx hb dM_pattern_84 rfl (lv_at hl 1 rfl) ?_
        refine lv_aload_n hx hb dM_pattern_85 rfl (lv_at hl 1 rfl) ?_
        refine g_get F hK hP (17) (by decide) rfl rfl iM 0 (by decide) k2_196 rfl dM_pattern_86 ?_
        rw [h00]
        refine lv_if_ne (tgt := 97) hx hb dM_pattern_89 (by decide) (fun _ => ?_) (fun hc => absurd hc (show ¬ nI 1 = 0 by decide))
        refine lv_aload_n hx hb dM_pattern_97 rfl (lv_at hl 1 rfl) ?_
        refine g_get F hK hP (17) (by decide) rfl rfl iM 5 (by decide) k2_201 rfl dM_pattern_98 ?_
        refine g_put F hK G hP hS (17) (by decide) rfl rfl iM tM tM_ok nM 5 (by decide) k2_201 rfl (ty := .int) (by decide +kernel) rfl rfl (Nat.le_of_ble_eq_true rfl) dM_pattern_101 (fun H locs hP hS => ?_)
        have hP := P_of hP (en_m_ps _ _ _ _ _ _ _ _ _ _ _)
        obtain ⟨M, hP, hR, h00⟩ : ∃ M1 : Nat → Nat → Int32, va_P D cl (gw ad (en ad cI cZ cT cJ pi dr S M1 o) 25) H ∧ RepM M1 a ∧ M1 0 0 = nI 1 := ⟨_, hP, hR.off (fun r h1 _ => sr_n h1) (by rw [sr_s]; exact pk_us), h00⟩
        exact W.vret hx hb hr (fun t ht hW => ⟨rfl, ⟨_, ⟨M, rfl, by rw [hk1]; exact h00, by rw [hk1]; exact hR⟩, by rw [ht]; exact hP⟩, hS.F ht⟩) hS.2.2 dM_pattern_104
      · refine lv_aload_n hx hb dM_pattern_32 rfl (lv_at hl 1 rfl) ?_
        refine g_get F hK hP (17) (by decide) rfl rfl iM 0 (by decide) k2_196 rfl dM_pattern_33 ?_
        rw [h00]
        refine lv_if_ne (tgt := 84) hx hb dM_pattern_36 (by decide) (fun _ => ?_) (fun hc => absurd hc (show ¬ nI 1 = 0 by decide))
        refine lv_aload_n hx hb dM_pattern_84 rfl (lv_at hl 1 rfl) ?_
        refine lv_aload_n hx hb dM_pattern_85 rfl (lv_at hl 1 rfl) ?_
        refine g_get F hK hP (17) (by decide) rfl rfl iM 0 (by decide) k2_196 rfl dM_pattern_86 ?_
        rw [h00]
        refine lv_if_ne (tgt := 97) hx hb dM_pattern_89 (by decide) (fun _ => ?_) (fun hc => absurd hc (show ¬ nI 1 = 0 by decide))
        refine lv_aload_n hx hb dM_pattern_97 rfl (lv_at hl 1 rfl) ?_
        refine g_get F hK hP (17) (by decide) rfl rfl iM 5 (by decide) k2_201 rfl dM_pattern_98 ?_
        refine g_put F hK G hP hS (17) (by decide) rfl rfl iM tM tM_ok nM 5 (by decide) k2_201 rfl (ty := .int) (by decide +kernel) rfl rfl (Nat.le_of_ble_eq_true rfl) dM_pattern_101 (fun H locs hP hS => ?_)
        have hP := P_of hP (en_m_ps _ _ _ _ _ _ _ _ _ _ _)
        obtain ⟨M, hP, hR, h00⟩ : ∃ M1 : Nat → Nat → Int32, va_P D cl (gw ad (en ad cI cZ cT cJ pi dr S M1 o) 25) H ∧ RepM M1 a ∧ M1 0 0 = nI 1 := ⟨_, hP, hR.off (fun r h1 _ => sr_n h1) (by rw [sr_s]; exact pk_us), h00⟩
        exact W.vret hx hb hr (fun t ht hW => ⟨rfl, ⟨_, ⟨M, rfl, by rw [hk1]; exact h00, by rw [hk1]; exact hR⟩, by rw [ht]; exact hP⟩, hS.F ht⟩) hS.2.2 dM_pattern_104
    · simp only [Int32.lt_iff_toInt_lt, Int32.le_iff_toInt_le] at hc
      refine lv_iload hx hb dM_pattern_7 (lv_at hl 3 rfl) ?_
      refine lv_bipush (v := 16) hx hb dM_pattern_9 (by decide) ?_
      refine lv_icmp_le (tgt := 18) hx hb dM_pattern_11 (by decide) (fun hc => absurd hc (by simp only [Int32.lt_iff_toInt_lt, Int32.le_iff_toInt_le]; omega)) (fun _ => ?_)
      refine lv_iconst (v := 1) hx hb dM_pattern_14 (by decide) ?_
      refine lv_goto (tgt := 19) hx hb dM_pattern_15 (by decide) ?_
      refine g_put F hK G hP hS (17) (by decide) rfl rfl iM tM tM_ok nM 0 (by decide) k2_196 rfl (ty := .int) (by decide +kernel) rfl rfl (Nat.le_of_ble_eq_true rfl) dM_pattern_19 (fun H locs hP hS => ?_)
      have hP := P_of hP (en_m_code _ _ _ _ _ _ _ _ _ _ _)
      obtain ⟨M, hP, hR, h00⟩ : ∃ M1 : Nat → Nat → Int32, va_P D cl (gw ad (en ad cI cZ cT cJ pi dr S M1 o) 25) H ∧ RepM M1 a ∧ M1 0 0 = nI 1 := ⟨_, hP, hR.num (by decide), rfl⟩
      refine lv_iconst (v := 0) hx hb dM_pattern_22 (by decide) ?_
      refine lv_istore hx hb dM_pattern_23 hl (by decide) rfl (fun ls hl => ?_)
      have hl : lv_has ls 7 [(6, .int _), (0, .ref _), (1, .long _), (3, .long _), (5, .int _)] := hl
      refine lv_iload hx hb dM_pattern_25 (lv_at hl 0 rfl) ?_
      refine lv_iload hx hb dM_pattern_27 (lv_at hl 4 rfl) ?_
      refine lv_icmp_ge (tgt := 84) hx hb dM_pattern_29 (by decide) (fun hc => ?_) (fun hc => ?_)
      · refine lv_aload_n hx hb dM_pattern_84 rfl (lv_at hl 1 rfl) ?_
        refine lv_aload_n hx hb dM_pattern_85 rfl (lv_at hl 1 rfl) ?_
        refine g_get F hK hP (17) (by decide) rfl rfl iM 0 (by decide) k2_196 rfl dM_pattern_86 ?_
        rw [h00]
        refine lv_if_ne (tgt := 97) hx hb dM_pattern_89 (by decide) (fun _ => ?_) (fun hc => absurd hc (show ¬ nI 1 = 0 by decide))
        refine lv_aload_n hx hb dM_pattern_97 rfl (lv_at hl 1 rfl) ?_
        refine g_get F hK hP (17) (by decide) rfl rfl iM 5 (by decide) k2_201 rfl dM_pattern_98 ?_
        refine g_put F hK G hP hS (17) (by decide) rfl rfl iM tM tM_ok nM 5 (by decide) k2_201 rfl (ty := .int) (by decide +kernel) rfl rfl (Nat.le_of_ble_eq_true rfl) dM_pattern_101 (fun H locs hP hS => ?_)
        have hP := P_of hP (en_m_ps _ _ _ _ _ _ _ _ _ _ _)
        obtain ⟨M, hP, hR, h00⟩ : ∃ M1 : Nat → Nat → Int32, va_P D cl (gw ad (en ad cI cZ cT cJ pi dr S M1 o) 25) H ∧ RepM M1 a ∧ M1 0 0 = nI 1 := ⟨_, hP, hR.off (fun r h1 _ => sr_n h1) (by rw [sr_s]; exact pk_us), h00⟩
        exact W.vret hx hb hr (fun t ht hW => ⟨rfl, ⟨_, ⟨M, rfl, by rw [hk1]; exact h00, by rw [hk1]; exact hR⟩, by rw [ht]; exact hP⟩, hS.F ht⟩) hS.2.2 dM_pattern_104
      · refine lv_aload_n hx hb dM_pattern_32 rfl (lv_at hl 1 rfl) ?_
        refine g_get F hK hP (17) (by decide) rfl rfl iM 0 (by decide) k2_196 rfl dM_pattern_33 ?_
        rw [h00]
        refine lv_if_ne (tgt := 84) hx hb dM_pattern_36 (by decide) (fun _ => ?_) (fun hc => absurd hc (show ¬ nI 1 = 0 by decide))
        refine lv_aload_n hx hb dM_pattern_84 rfl (lv_at hl 1 rfl) ?_
        refine lv_aload_n hx hb dM_pattern_85 rfl (lv_at hl 1 rfl) ?_
        refine g_get F hK hP (17) (by decide) rfl rfl iM 0 (by decide) k2_196 rfl dM_pattern_86 ?_
        rw [h00]
        refine lv_if_ne (tgt := 97) hx hb dM_pattern_89 (by decide) (fun _ => ?_) (fun hc => absurd hc (show ¬ nI 1 = 0 by decide))
        refine lv_aload_n hx hb dM_pattern_97 rfl (lv_at hl 1 rfl) ?_
        refine g_get F hK hP (17) (by decide) rfl rfl iM 5 (by decide) k2_201 rfl dM_pattern_98 ?_
        refine g_put F hK G hP hS (17) (by decide) rfl rfl iM tM tM_ok nM 5 (by decide) k2_201 rfl (ty := .int) (by decide +kernel) rfl rfl (Nat.le_of_ble_eq_true rfl) dM_pattern_101 (fun H locs hP hS => ?_)
        have hP := P_of hP (en_m_ps _ _ _ _ _ _ _ _ _ _ _)
        obtain ⟨M, hP, hR, h00⟩ : ∃ M1 : Nat → Nat → Int32, va_P D cl (gw ad (en ad cI cZ cT cJ pi dr S M1 o) 25) H ∧ RepM M1 a ∧ M1 0 0 = nI 1 := ⟨_, hP, hR.off (fun r h1 _ => sr_n h1) (by rw [sr_s]; exact pk_us), h00⟩
        exact W.vret hx hb hr (fun t ht hW => ⟨rfl, ⟨_, ⟨M, rfl, by rw [hk1]; exact h00, by rw [hk1]; exact hR⟩, by rw [ht]; exact hP⟩, hS.F ht⟩) hS.2.2 dM_pattern_104
  have zj := nI_toInt (show j < 2 ^ 31 by omega)
  have hk1 : (c_pattern (nI j)) = 0 := by simp [c_pattern, show btw (nI j) 1 16 = true from bt_nI (b := 16) hj1 hj8 (by decide), ix_nI (show j < 2 ^ 31 by omega)]
  refine lv_icmp_lt (tgt := 14) hx hb dM_pattern_4 (by decide) (fun hc => absurd hc (by simp only [Int32.lt_iff_toInt_lt, Int32.le_iff_toInt_le]; omega)) (fun _ => ?_)
  refine lv_iload hx hb dM_pattern_7 (lv_at hl 3 rfl) ?_
  refine lv_bipush (v := 16) hx hb dM_pattern_9 (by decide) ?_
  refine lv_icmp_le (tgt := 18) hx hb dM_pattern_11 (by decide) (fun _ => ?_) (fun hc => absurd (by simp only [Int32.lt_iff_toInt_lt, Int32.le_iff_toInt_le]; omega) hc)
  refine lv_iconst (v := 0) hx hb dM_pattern_18 (by decide) ?_
  refine g_put F hK G hP hS (17) (by decide) rfl rfl iM tM tM_ok nM 0 (by decide) k2_196 rfl (ty := .int) (by decide +kernel) rfl rfl (Nat.le_of_ble_eq_true rfl) dM_pattern_19 (fun H locs hP hS => ?_)
  have hP := P_of hP (en_m_code _ _ _ _ _ _ _ _ _ _ _)
  obtain ⟨M, hP, hR, h00⟩ : ∃ M1 : Nat → Nat → Int32, va_P D cl (gw ad (en ad cI cZ cT cJ pi dr S M1 o) 25) H ∧ RepM M1 a ∧ M1 0 0 = nI 0 := ⟨_, hP, hR.num (by decide), rfl⟩
  refine lv_iconst (v := 0) hx hb dM_pattern_22 (by decide) ?_
  refine lv_istore hx hb dM_pattern_23 hl (by decide) rfl (fun ls hl => ?_)
  have hl : lv_has ls 7 [(6, .int _), (0, .ref _), (1, .long _), (3, .long _), (5, .int _)] := hl
  have hP := P_of hP (show ∀ j, j < 25 → en ad cI cZ cT cJ pi dr S M o j = en ad cI cZ cT cJ pi dr S (sr M 4 (fil (M 4) (pbyt lo hi) 0)) o j from fun j _ => by rw [sr_id fil_0])
  refine W.loop (α := Nat) (fun t a1 ls H locs => a1 + t = j ∧ lv_has ls 7 [(6, .int (nI a1)), (0, .ref (ad 17)), (1, .long lo), (3, .long hi), (5, .int (nI j))] ∧ va_P D cl (gw ad (en ad cI cZ cT cJ pi dr S (sr M 4 (fil (M 4) (pbyt lo hi) a1)) o) 25) H ∧ va_S (gA base) s.heap H locs) ?_ (t := j) (a := 0) ⟨by omega, hl, hP, hS⟩
  clear hl hP hS
  intro t a1 ls H locs hI ih
  obtain ⟨i0, hl, hP, hS⟩ := hI
  try dsimp only at i0 hl hP
  have h01 : (sr M 4 (fil (M 4) (pbyt lo hi) a1)) 0 0 = nI 0 := h00
  by_cases ht : t = 0
  · have hu : j = a1 := by omega
    subst hu
    refine lv_iload hx hb dM_pattern_25 (lv_at hl 0 rfl) ?_
    refine lv_iload hx hb dM_pattern_27 (lv_at hl 4 rfl) ?_
    refine lv_icmp_ge (tgt := 84) hx hb dM_pattern_29 (by decide) (fun _ => ?_) (fun hc => absurd (by rw [nI_leI (by omega) (by omega)]; omega) hc)
    refine lv_aload_n hx hb dM_pattern_84 rfl (lv_at hl 1 rfl) ?_
    refine lv_aload_n hx hb dM_pattern_85 rfl (lv_at hl 1 rfl) ?_
    refine g_get F hK hP (17) (by decide) rfl rfl iM 0 (by decide) k2_196 rfl dM_pattern_86 ?_
    rw [h01]
    refine lv_if_ne (tgt := 97) hx hb dM_pattern_89 (by decide) (fun hc => absurd (rfl : nI 0 = 0) hc) (fun _ => ?_)
    refine lv_iload hx hb dM_pattern_92 (lv_at hl 4 rfl) ?_
    refine lv_goto (tgt := 101) hx hb dM_pattern_94 (by decide) ?_
    refine g_put F hK G hP hS (17) (by decide) rfl rfl iM tM tM_ok nM 5 (by decide) k2_201 rfl (ty := .int) (by decide +kernel) rfl rfl (Nat.le_of_ble_eq_true rfl) dM_pattern_101 (fun H locs hP hS => ?_)
    have hP := P_of hP (en_m_ps _ _ _ _ _ _ _ _ _ _ _)
    exact W.vret hx hb hr (fun t ht hW => ⟨rfl, ⟨_, ⟨(sr (sr M 4 (fil (M 4) (pbyt lo hi) j)) 0 (upd (M 0) 2 (nI j))), rfl, by rw [hk1]; exact h00, by rw [hk1, if_pos rfl]; simpa [x_pattern, show btw (nI j) 1 16 = true from bt_nI (b := 16) hj1 hj8 (by decide), ix_nI (show j < 2 ^ 31 by omega)] using hR.pat (g := pbyt lo hi) (n := j)⟩, by rw [ht]; exact hP⟩, hS.F ht⟩) hS.2.2 dM_pattern_104
  · refine lv_iload hx hb dM_pattern_25 (lv_at hl 0 rfl) ?_
    refine lv_iload hx hb dM_pattern_27 (lv_at hl 4 rfl) ?_
    refine lv_icmp_ge (tgt := 84) hx hb dM_pattern_29 (by decide) (fun hc => absurd hc (by rw [nI_leI (by omega) (by omega)]; omega)) (fun _ => ?_)
    refine lv_aload_n hx hb dM_pattern_32 rfl (lv_at hl 1 rfl) ?_
    refine g_get F hK hP (17) (by decide) rfl rfl iM 0 (by decide) k2_196 rfl dM_pattern_33 ?_
    rw [h01]
    refine lv_if_ne (tgt := 84) hx hb dM_pattern_36 (by decide) (fun hc => absurd (rfl : nI 0 = 0) hc) (fun _ => ?_)
    refine lv_aload_n hx hb dM_pattern_39 rfl (lv_at hl 1 rfl) ?_
    refine g_get F hK hP (17) (by decide) rfl rfl iM 6 (by decide) k2_202 rfl dM_pattern_40 ?_
    refine lv_iload hx hb dM_pattern_43 (lv_at hl 0 rfl) ?_
    refine lv_iload hx hb dM_pattern_45 (lv_at hl 0 rfl) ?_
    refine lv_bipush (v := 8) hx hb dM_pattern_47 (by decide) ?_
    refine lv_icmp_ge (tgt := 62) hx hb dM_pattern_49 (by decide) (fun hc => ?_) (fun hc => ?_)
    · rw [show (8 : Int32) = nI 8 from rfl, nI_leI (by omega) (by omega)] at hc
      refine lv_lload_n hx hb dM_pattern_62 rfl (lv_at hl 3 rfl) ?_
      refine lv_bipush (v := 8) hx hb dM_pattern_63 (by decide) ?_
      refine lv_iload hx hb dM_pattern_65 (lv_at hl 0 rfl) ?_
      refine lv_imul hx hb dM_pattern_67 ?_
      refine lv_bipush (v := 64) hx hb dM_pattern_68 (by decide) ?_
      refine lv_isub hx hb dM_pattern_70 ?_
      rw [show (8 : Int32) * nI a1 - 64 = nI (8 * (a1 - 8)) by rw [show (8 : Int32) = nI 8 from rfl, pk_mul, show (64 : Int32) = nI 64 from rfl, pk_sub (by omega)]; congr 1; omega]
      refine lv_lshr hx hb dM_pattern_71 rfl ?_
      refine lv_ldc2 (v := 255) hx hb hown (hts _ k3_1) dM_pattern_72 ?_
      refine lv_land hx hb dM_pattern_75 ?_
      refine lv_l2i hx hb dM_pattern_76 rfl ?_
      rw [by_mod hi (show a1 - 8 < 8 by omega), show byt hi (a1 - 8) = pbyt lo hi a1 from (if_neg (by omega)).symm]
      refine g_iast F hK G hP hS (21) (by decide) 0 rfl rfl (vp_in_nI (show a1 < 16 by omega) (by omega)) dM_pattern_77 (fun H locs hP hS => ?_)
      rw [nI_clamp (show a1 < 2 ^ 31 by omega), sr_s, fil_s] at hP
      have hP := P_of hP (en_m_pat _ _ _ _ _ _ _ _ _ _ _)
      rw [sr_sr] at hP
      refine lv_iinc (k := 0) hx hb dM_pattern_78 hl rfl rfl (by decide) rfl (fun ls hl => ?_)
      have hl : lv_has ls 7 [(6, .int _), (0, .ref _), (1, .long _), (3, .long _), (5, .int _)] := hl
      refine lv_goto (tgt := 25) hx hb dM_pattern_81 (by decide) ?_
      have hl : lv_has ls 7 [(6, .int (nI (a1 + 1))), (0, .ref (ad 17)), (1, .long lo), (3, .long hi), (5, .int (nI j))] := by rw [← nI_1]; exact hl
      exact ih (t - 1) (a1 + 1) _ _ _ (by omega) ⟨by omega, hl, hP, hS⟩
    · rw [show (8 : Int32) = nI 8 from rfl, nI_leI (by omega) (by omega)] at hc
      refine lv_lload_n hx hb dM_pattern_52 rfl (lv_at hl 2 rfl) ?_
      refine lv_bipush (v := 8) hx hb dM_pattern_53 (by decide) ?_
      refine lv_iload hx hb dM_pattern_55 (lv_at hl 0 rfl) ?_
      refine lv_imul hx hb dM_pattern_57 ?_
      rw [show (8 : Int32) * nI a1 = nI (8 * a1) from pk_mul 8 a1]
      refine lv_lshr hx hb dM_pattern_58 rfl ?_
      refine lv_goto (tgt := 72) hx hb dM_pattern_59 (by decide) ?_
      refine lv_ldc2 (v := 255) hx hb hown (hts _ k3_1) dM_pattern_72 ?_
      refine lv_land hx hb dM_pattern_75 ?_
      refine lv_l2i hx hb dM_pattern_76 rfl ?_
      rw [by_mod lo (show a1 < 8 by omega), show byt lo a1 = pbyt lo hi a1 from (if_pos (by omega)).symm]
      refine g_iast F hK G hP hS (21) (by decide) 0 rfl rfl (vp_in_nI (show a1 < 16 by omega) (by omega)) dM_pattern_77 (fun H locs hP hS => ?_)
      rw [nI_clamp (show a1 < 2 ^ 31 by omega), sr_s, fil_s] at hP
      have hP := P_of hP (en_m_pat _ _ _ _ _ _ _ _ _ _ _)
      rw [sr_sr] at hP
      refine lv_iinc (k := 0) hx hb dM_pattern_78 hl rfl rfl (by decide) rfl (fun ls hl => ?_)
      have hl : lv_has ls 7 [(6, .int _), (0, .ref _), (1, .long _), (3, .long _), (5, .int _)] := hl
      refine lv_goto (tgt := 25) hx hb dM_pattern_81 (by decide) ?_
      have hl : lv_has ls 7 [(6, .int (nI (a1 + 1))), (0, .ref (ad 17)), (1, .long lo), (3, .long hi), (5, .int (nI j))] := by rw [← nI_1]; exact hl
      exact ih (t - 1) (a1 + 1) _ _ _ (by omega) ⟨by omega, hl, hP, hS⟩
set_option maxHeartbeats 4000000 in
set_option maxRecDepth 100000 in
theorem c_M_count (G : gGeo ad 25 base) (ha : a_ok a) (hR : RepM M a) (d f t : Int32) : Met l yM_count (Cond.code yM_count bM_count 6 (some .int) :: tws) { frames := 1, cells := 0, slots := 0, locals := 25 } (gPc (tw D cI cZ cT cJ base) D cl ad 25 base (en ad cI cZ cT cJ pi dr S M o) [.ref (ad 17), .int d, .int f, .int t]) (gQc D cl ad 25 base (some (.int (if (c_count a d f t) = 0 then (nI (cnt a (ix d) (ix f) (ix t) (ix t - ix f))) else 0))) (fun e => ∃ M1 : Nat → Nat → Int32, e = en ad cI cZ cT cJ pi dr S M1 o ∧ M1 0 0 = nI (c_count a d f t) ∧ RepM M1 (if (c_count a d f t) = 0 then a else a))) 0 0 (gA base) := by
  refine Met.ofW (cc := bM_count) (maxL := 6) (ret := (some .int)) (by decide) rfl ?_
  intro p e s m args below meth c s₁ B hml hv
  obtain ⟨rfl, htw, hB, hP⟩ := hv
  have hx := B.exec
  have hb := B.bytes
  have hr := B.returns
  have hts0 := atoms_spec (ws := Cond.code yM_count bM_count 6 (some .int) :: tws) B.pre
  have hts : ∀ w ∈ tws, w.before _ s = true := fun w h => hts0 w (List.mem_cons_of_mem _ h)
  have hown : s.vm.findClass "PairedTextsModel" = some m.cls := findClass_of_methodNamed B.named
  have hlocks := B.notSynchronized
  have hno := B.noHandlers (hts0 _ List.mem_cons_self)
  have F : CallFix p m c bM_count 6 s _ tws "PairedTextsModel" := ⟨hx, hb, hml, hown, hts⟩
  have hK := htw.1
  have hS : va_S (gA base) s.heap s.heap [] := va_S.rf
  have hl := lv_entry ([.ref (ad 17), .int d, .int f, .int t]) (n := 6) (Nat.le_of_ble_eq_true rfl)
  rw [lg_entry_eq]
  generalize (lg_sl ([.ref (ad 17), .int d, .int f, .int t]) ++ List.replicate (6 - (lg_sl ([.ref (ad 17), .int d, .int f, .int t])).length) Slot.unset).toArray = ls at hl ⊢
  have hl : lv_has ls 6 [(0, .ref (ad 17)), (1, .int d), (2, .int f), (3, .int t)] := hl
  have z0 : (0 : Int32).toInt = 0 := rfl
  refine lv_aload_n hx hb dM_count_0 rfl (lv_at hl 0 rfl) ?_
  refine lv_iload_n hx hb dM_count_1 rfl (lv_at hl 1 rfl) ?_
  rcases dk_or d with hd | ⟨k, hk, rfl⟩
  · have hk1 : (c_count a d f t) = 1 := by simp [c_count, hd.1]
    refine g_S (k := 1) F htw hB hS hP (c_M_isDocument d) k2_238 k2_239 k1_5 k3_0 (by decide +kernel) rfl rfl ⟨Nat.le_of_ble_eq_true rfl, Nat.le_of_ble_eq_true rfl⟩ rfl hl.1 rfl (Nat.le_of_ble_eq_true rfl) dM_count_2 ⟨Nat.le_of_ble_eq_true rfl, Nat.le_of_ble_eq_true rfl⟩ (fun en1 H locs he hP hS => ?_)
    obtain rfl := he
    refine lv_if_ne (tgt := 12) hx hb dM_count_5 (by decide) (fun hc => absurd (show (if dk d then (1 : Int32) else 0) = 0 by rw [hd.1]; rfl) hc) (fun _ => ?_)
    refine lv_iconst (v := 1) hx hb dM_count_8 (by decide) ?_
    refine lv_goto (tgt := 38) hx hb dM_count_9 (by decide) ?_
    refine g_put F hK G hP hS (17) (by decide) rfl rfl iM tM tM_ok nM 0 (by decide) k2_196 rfl (ty := .int) (by decide +kernel) rfl rfl (Nat.le_of_ble_eq_true rfl) dM_count_38 (fun H locs hP hS => ?_)
    have hP := P_of hP (en_m_code _ _ _ _ _ _ _ _ _ _ _)
    obtain ⟨M, hP, hR, h00⟩ : ∃ M1 : Nat → Nat → Int32, va_P D cl (gw ad (en ad cI cZ cT cJ pi dr S M1 o) 25) H ∧ RepM M1 a ∧ M1 0 0 = nI 1 := ⟨_, hP, hR.num (by decide), rfl⟩
    refine lv_iconst (v := 0) hx hb dM_count_41 (by decide) ?_
    refine lv_istore hx hb dM_count_42 hl (by decide) rfl (fun ls hl => ?_)
    have hl : lv_has ls 6 [(4, .int _), (0, .ref _), (1, .int _), (2, .int _), (3, .int _)] := hl
    refine lv_iload_n hx hb dM_count_44 rfl (lv_at hl 3 rfl) ?_
    refine lv_istore hx hb dM_count_45 hl (by decide) rfl (fun ls hl => ?_)
    have hl : lv_has ls 6 [(5, .int _), (4, .int _), (0, .ref _), (1, .int _), (2, .int _), (3, .int _)] := hl
    refine lv_iload hx hb dM_count_47 (lv_at hl 0 rfl) ?_
    refine lv_iload_n hx hb dM_count_49 rfl (lv_at hl 5 rfl) ?_
    refine lv_icmp_ge (tgt := 88) hx hb dM_count_50 (by decide) (fun hc => ?_) (fun hc => ?_)
    · refine lv_iload hx hb dM_count_88 (lv_at hl 1 rfl) ?_
      exact W.iret hx hb hr (fun t ht hW => ⟨by rw [hk1]; rfl, ⟨_, ⟨M, rfl, by rw [hk1]; exact h00, by rw [hk1]; exact hR⟩, by rw [ht]; exact hP⟩, hS.F ht⟩) hS.2.2 dM_count_90
    · refine lv_aload_n hx hb dM_count_53 rfl (lv_at hl 2 rfl) ?_
      refine g_get F hK hP (17) (by decide) rfl rfl iM 0 (by decide) k2_196 rfl dM_count_54 ?_
      rw [h00]
      refine lv_if_ne (tgt := 88) hx hb dM_count_57 (by decide) (fun _ => ?_) (fun hc => absurd hc (show ¬ nI 1 = 0 by decide))
      refine lv_iload hx hb dM_count_88 (lv_at hl 1 rfl) ?_
      exact W.iret hx hb hr (fun t ht hW => ⟨by rw [hk1]; rfl, ⟨_, ⟨M, rfl, by rw [hk1]; exact h00, by rw [hk1]; exact hR⟩, by rw [ht]; exact hP⟩, hS.F ht⟩) hS.2.2 dM_count_90
  refine g_S (k := 1) F htw hB hS hP (c_M_isDocument (nI k)) k2_238 k2_239 k1_5 k3_0 (by decide +kernel) rfl rfl ⟨Nat.le_of_ble_eq_true rfl, Nat.le_of_ble_eq_true rfl⟩ rfl hl.1 rfl (Nat.le_of_ble_eq_true rfl) dM_count_2 ⟨Nat.le_of_ble_eq_true rfl, Nat.le_of_ble_eq_true rfl⟩ (fun en1 H locs he hP hS => ?_)
  obtain rfl := he
  refine lv_if_ne (tgt := 12) hx hb dM_count_5 (by decide) (fun _ => ?_) (fun hc => absurd hc (show ¬ (if dk (nI k) then (1 : Int32) else 0) = 0 by rw [dk_nI hk]; decide))
  have hn_k := ha.1 k hk
  refine lv_aload_n hx hb dM_count_12 rfl (lv_at hl 0 rfl) ?_
  refine lv_iload_n hx hb dM_count_13 rfl (lv_at hl 1 rfl) ?_
  refine lv_iload_n hx hb dM_count_14 rfl (lv_at hl 2 rfl) ?_
  refine lv_iload_n hx hb dM_count_15 rfl (lv_at hl 3 rfl) ?_
  rcases rg_or f t hn_k with hgr | ⟨f1, t1, hft, htn, rfl, rfl⟩
  · have hk1 : (c_count a (nI k) f t) = 2 := by simp [c_count, dk_nI hk, ix_nI (show k < 2 ^ 31 by omega), hgr]
    refine g_V (k := 3) F htw hB hS hP (17) (by decide) rfl rfl (c_M_isRange hk hn_k (hR.1 k hk) f t) k3_14 k3_16 k0_4 k1_5 k3_17 (by decide +kernel) rfl rfl ⟨Nat.le_of_ble_eq_true rfl, Nat.le_of_ble_eq_true rfl⟩ rfl hl.1 rfl (Nat.le_of_ble_eq_true rfl) dM_count_16 ⟨Nat.le_of_ble_eq_true rfl, Nat.le_of_ble_eq_true rfl⟩ (fun en1 H locs he hP hS => ?_)
    obtain rfl := he
    refine lv_if_ne (tgt := 26) hx hb dM_count_19 (by decide) (fun hc => absurd (show (if rg f t (a_n a k) then (1 : Int32) else 0) = 0 by rw [hgr]; rfl) hc) (fun _ => ?_)
    refine lv_iconst (v := 2) hx hb dM_count_22 (by decide) ?_
    refine lv_goto (tgt := 38) hx hb dM_count_23 (by decide) ?_
    refine g_put F hK G hP hS (17) (by decide) rfl rfl iM tM tM_ok nM 0 (by decide) k2_196 rfl (ty := .int) (by decide +kernel) rfl rfl (Nat.le_of_ble_eq_true rfl) dM_count_38 (fun H locs hP hS => ?_)
    have hP := P_of hP (en_m_code _ _ _ _ _ _ _ _ _ _ _)
    obtain ⟨M, hP, hR, h00⟩ : ∃ M1 : Nat → Nat → Int32, va_P D cl (gw ad (en ad cI cZ cT cJ pi dr S M1 o) 25) H ∧ RepM M1 a ∧ M1 0 0 = nI 2 := ⟨_, hP, hR.num (by decide), rfl⟩
    refine lv_iconst (v := 0) hx hb dM_count_41 (by decide) ?_
    refine lv_istore hx hb dM_count_42 hl (by decide) rfl (fun ls hl => ?_)
    have hl : lv_has ls 6 [(4, .int _), (0, .ref _), (1, .int _), (2, .int _), (3, .int _)] := hl
    refine lv_iload_n hx hb dM_count_44 rfl (lv_at hl 3 rfl) ?_
    refine lv_istore hx hb dM_count_45 hl (by decide) rfl (fun ls hl => ?_)
    have hl : lv_has ls 6 [(5, .int _), (4, .int _), (0, .ref _), (1, .int _), (2, .int _), (3, .int _)] := hl
    refine lv_iload hx hb dM_count_47 (lv_at hl 0 rfl) ?_
    refine lv_iload_n hx hb dM_count_49 rfl (lv_at hl 5 rfl) ?_
    refine lv_icmp_ge (tgt := 88) hx hb dM_count_50 (by decide) (fun hc => ?_) (fun hc => ?_)
    · refine lv_iload hx hb dM_count_88 (lv_at hl 1 rfl) ?_
      exact W.iret hx hb hr (fun t ht hW => ⟨by rw [hk1]; rfl, ⟨_, ⟨M, rfl, by rw [hk1]; exact h00, by rw [hk1]; exact hR⟩, by rw [ht]; exact hP⟩, hS.F ht⟩) hS.2.2 dM_count_90
    · refine lv_aload_n hx hb dM_count_53 rfl (lv_at hl 2 rfl) ?_
      refine g_get F hK hP (17) (by decide) rfl rfl iM 0 (by decide) k2_196 rfl dM_count_54 ?_
      rw [h00]
      refine lv_if_ne (tgt := 88) hx hb dM_count_57 (by decide) (fun _ => ?_) (fun hc => absurd hc (show ¬ nI 2 = 0 by decide))
      refine lv_iload hx hb dM_count_88 (lv_at hl 1 rfl) ?_
      exact W.iret hx hb hr (fun t ht hW => ⟨by rw [hk1]; rfl, ⟨_, ⟨M, rfl, by rw [hk1]; exact h00, by rw [hk1]; exact hR⟩, by rw [ht]; exact hP⟩, hS.F ht⟩) hS.2.2 dM_count_90
  refine g_V (k := 3) F htw hB hS hP (17) (by decide) rfl rfl (c_M_isRange hk hn_k (hR.1 k hk) (nI f1) (nI t1)) k3_14 k3_16 k0_4 k1_5 k3_17 (by decide +kernel) rfl rfl ⟨Nat.le_of_ble_eq_true rfl, Nat.le_of_ble_eq_true rfl⟩ rfl hl.1 rfl (Nat.le_of_ble_eq_true rfl) dM_count_16 ⟨Nat.le_of_ble_eq_true rfl, Nat.le_of_ble_eq_true rfl⟩ (fun en1 H locs he hP hS => ?_)
  obtain rfl := he
  refine lv_if_ne (tgt := 26) hx hb dM_count_19 (by decide) (fun _ => ?_) (fun hc => absurd hc (show ¬ (if rg (nI f1) (nI t1) (a_n a k) then (1 : Int32) else 0) = 0 by rw [rg_nI hft htn hn_k]; decide))
  refine lv_aload_n hx hb dM_count_26 rfl (lv_at hl 0 rfl) ?_
  refine g_get F hK hP (17) (by decide) rfl rfl iM 5 (by decide) k2_201 rfl dM_count_27 ?_
  have hpn := ha.2.2.1
  have e7 := hR.2.2.1
  by_cases hp0 : a_p a = 0
  · have hk1 : (c_count a (nI k) (nI f1) (nI t1)) = 3 := by simp [c_count, dk_nI hk, ix_nI (show k < 2 ^ 31 by omega), rg_nI hft htn hn_k, ix_nI (show f1 < 2 ^ 31 by omega), ix_nI (show t1 < 2 ^ 31 by omega), hp0]
    refine lv_if_ne (tgt := 37) hx hb dM_count_30 (by decide) (fun hc => absurd (by rw [e7, hp0]; rfl) hc) (fun _ => ?_)
    refine lv_iconst (v := 3) hx hb dM_count_33 (by decide) ?_
    refine lv_goto (tgt := 38) hx hb dM_count_34 (by decide) ?_
    refine g_put F hK G hP hS (17) (by decide) rfl rfl iM tM tM_ok nM 0 (by decide) k2_196 rfl (ty := .int) (by decide +kernel) rfl rfl (Nat.le_of_ble_eq_true rfl) dM_count_38 (fun H locs hP hS => ?_)
    have hP := P_of hP (en_m_code _ _ _ _ _ _ _ _ _ _ _)
    obtain ⟨M, hP, hR, h00⟩ : ∃ M1 : Nat → Nat → Int32, va_P D cl (gw ad (en ad cI cZ cT cJ pi dr S M1 o) 25) H ∧ RepM M1 a ∧ M1 0 0 = nI 3 := ⟨_, hP, hR.num (by decide), rfl⟩
    refine lv_iconst (v := 0) hx hb dM_count_41 (by decide) ?_
    refine lv_istore hx hb dM_count_42 hl (by decide) rfl (fun ls hl => ?_)
    have hl : lv_has ls 6 [(4, .int _), (0, .ref _), (1, .int _), (2, .int _), (3, .int _)] := hl
    refine lv_iload_n hx hb dM_count_44 rfl (lv_at hl 3 rfl) ?_
    refine lv_istore hx hb dM_count_45 hl (by decide) rfl (fun ls hl => ?_)
    have hl : lv_has ls 6 [(5, .int _), (4, .int _), (0, .ref _), (1, .int _), (2, .int _), (3, .int _)] := hl
    refine lv_iload hx hb dM_count_47 (lv_at hl 0 rfl) ?_
    refine lv_iload_n hx hb dM_count_49 rfl (lv_at hl 5 rfl) ?_
    refine lv_icmp_ge (tgt := 88) hx hb dM_count_50 (by decide) (fun hc => ?_) (fun hc => ?_)
    · refine lv_iload hx hb dM_count_88 (lv_at hl 1 rfl) ?_
      exact W.iret hx hb hr (fun t ht hW => ⟨by rw [hk1]; rfl, ⟨_, ⟨M, rfl, by rw [hk1]; exact h00, by rw [hk1]; exact hR⟩, by rw [ht]; exact hP⟩, hS.F ht⟩) hS.2.2 dM_count_90
    · refine lv_aload_n hx hb dM_count_53 rfl (lv_at hl 2 rfl) ?_
      refine g_get F hK hP (17) (by decide) rfl rfl iM 0 (by decide) k2_196 rfl dM_count_54 ?_
      rw [h00]
      refine lv_if_ne (tgt := 88) hx hb dM_count_57 (by decide) (fun _ => ?_) (fun hc => absurd hc (show ¬ nI 3 = 0 by decide))
      refine lv_iload hx hb dM_count_88 (lv_at hl 1 rfl) ?_
      exact W.iret hx hb hr (fun t ht hW => ⟨by rw [hk1]; rfl, ⟨_, ⟨M, rfl, by rw [hk1]; exact h00, by rw [hk1]; exact hR⟩, by rw [ht]; exact hP⟩, hS.F ht⟩) hS.2.2 dM_count_90
  · have hk1 : (c_count a (nI k) (nI f1) (nI t1)) = 0 := by simp [c_count, dk_nI hk, ix_nI (show k < 2 ^ 31 by omega), rg_nI hft htn hn_k, ix_nI (show f1 < 2 ^ 31 by omega), ix_nI (show t1 < 2 ^ 31 by omega), hp0]
    refine lv_if_ne (tgt := 37) hx hb dM_count_30 (by decide) (fun _ => ?_) (fun hc => absurd hc (by rw [e7]; exact nI_ne0 (by omega) (by omega)))
    refine lv_iconst (v := 0) hx hb dM_count_37 (by decide) ?_
    refine g_put F hK G hP hS (17) (by decide) rfl rfl iM tM tM_ok nM 0 (by decide) k2_196 rfl (ty := .int) (by decide +kernel) rfl rfl (Nat.le_of_ble_eq_true rfl) dM_count_38 (fun H locs hP hS => ?_)
    have hP := P_of hP (en_m_code _ _ _ _ _ _ _ _ _ _ _)
    obtain ⟨M, hP, hR, h00⟩ : ∃ M1 : Nat → Nat → Int32, va_P D cl (gw ad (en ad cI cZ cT cJ pi dr S M1 o) 25) H ∧ RepM M1 a ∧ M1 0 0 = nI 0 := ⟨_, hP, hR.num (by decide), rfl⟩
    refine lv_iconst (v := 0) hx hb dM_count_41 (by decide) ?_
    refine lv_istore hx hb dM_count_42 hl (by decide) rfl (fun ls hl => ?_)
    have hl : lv_has ls 6 [(4, .int _), (0, .ref _), (1, .int _), (2, .int _), (3, .int _)] := hl
    refine lv_iload_n hx hb dM_count_44 rfl (lv_at hl 3 rfl) ?_
    refine lv_istore hx hb dM_count_45 hl (by decide) rfl (fun ls hl => ?_)
    have hl : lv_has ls 6 [(5, .int _), (4, .int _), (0, .ref _), (1, .int _), (2, .int _), (3, .int _)] := hl
    have hl : lv_has ls 6 [(5, .int (nI (f1 + 0))), (4, .int (nI (cnt a k f1 t1 0))), (0, .ref (ad 17)), (1, .int (nI k)), (2, .int (nI f1)), (3, .int (nI t1))] := hl
    refine W.loop (α := Nat) (fun t a1 ls H locs => f1 + a1 + t = t1 ∧ lv_has ls 6 [(5, .int (nI (f1 + a1))), (4, .int (nI (cnt a k f1 t1 a1))), (0, .ref (ad 17)), (1, .int (nI k)), (2, .int (nI f1)), (3, .int (nI t1))] ∧ va_P D cl (gw ad (en ad cI cZ cT cJ pi dr S M o) 25) H ∧ va_S (gA base) s.heap H locs) ?_ (t := (t1 - f1)) (a := 0) ⟨by show f1 + 0 + (t1 - f1) = t1; omega, hl, hP, hS⟩
    clear hl hP hS
    intro t a1 ls H locs hI ih
    obtain ⟨i0, hl, hP, hS⟩ := hI
    try dsimp only at i0 hl hP
    by_cases ht : t = 0
    · have hu : t1 - f1 = a1 := by omega
      refine lv_iload hx hb dM_count_47 (lv_at hl 0 rfl) ?_
      refine lv_iload_n hx hb dM_count_49 rfl (lv_at hl 5 rfl) ?_
      refine lv_icmp_ge (tgt := 88) hx hb dM_count_50 (by decide) (fun _ => ?_) (fun hc => absurd (by rw [nI_leI (by omega) (by omega)]; omega) hc)
      refine lv_iload hx hb dM_count_88 (lv_at hl 1 rfl) ?_
      exact W.iret hx hb hr (fun t ht hW => ⟨by rw [hk1, if_pos rfl]; simp [hu, dk_nI hk, ix_nI (show k < 2 ^ 31 by omega), rg_nI hft htn hn_k, ix_nI (show f1 < 2 ^ 31 by omega), ix_nI (show t1 < 2 ^ 31 by omega), hp0], ⟨_, ⟨M, rfl, by rw [hk1]; exact h00, by rw [hk1, if_pos rfl]; exact hR⟩, by rw [ht]; exact hP⟩, hS.F ht⟩) hS.2.2 dM_count_90
    · refine lv_iload hx hb dM_count_47 (lv_at hl 0 rfl) ?_
      refine lv_iload_n hx hb dM_count_49 rfl (lv_at hl 5 rfl) ?_
      refine lv_icmp_ge (tgt := 88) hx hb dM_count_50 (by decide) (fun hc => absurd hc (by rw [nI_leI (by omega) (by omega)]; omega)) (fun _ => ?_)
      refine lv_aload_n hx hb dM_count_53 rfl (lv_at hl 2 rfl) ?_
      refine g_get F hK hP (17) (by decide) rfl rfl iM 0 (by decide) k2_196 rfl dM_count_54 ?_
      rw [h00]
      refine lv_if_ne (tgt := 88) hx hb dM_count_57 (by decide) (fun hc => absurd (show  nI 0 = 0 by decide) hc) (fun _ => ?_)
      refine lv_aload_n hx hb dM_count_60 rfl (lv_at hl 2 rfl) ?_
      refine lv_iload_n hx hb dM_count_61 rfl (lv_at hl 3 rfl) ?_
      refine lv_iload hx hb dM_count_62 (lv_at hl 0 rfl) ?_
      refine lv_iload_n hx hb dM_count_64 rfl (lv_at hl 5 rfl) ?_
      refine g_V (k := 3) F htw hB hS hP (17) (by decide) rfl rfl (c_M_stands ha hR hk (show f1 + a1 ≤ t1 by omega) htn) k3_92 k3_94 k0_9 k1_5 k3_95 (by decide +kernel) rfl rfl ⟨Nat.le_of_ble_eq_true rfl, Nat.le_of_ble_eq_true rfl⟩ rfl hl.1 rfl (Nat.le_of_ble_eq_true rfl) dM_count_65 ⟨Nat.le_of_ble_eq_true rfl, Nat.le_of_ble_eq_true rfl⟩ (fun en1 H locs he hP hS => ?_)
      obtain rfl := he
      by_cases hs : stB a k (f1 + a1) t1 = true
      · rw [if_pos hs]
        refine lv_if_eq (tgt := 78) hx hb dM_count_68 (by decide) (fun hc => absurd hc (by decide)) (fun _ => ?_)
        refine lv_iload hx hb dM_count_71 (lv_at hl 1 rfl) ?_
        refine lv_iconst (v := 1) hx hb dM_count_73 (by decide) ?_
        refine lv_iadd hx hb dM_count_74 ?_
        refine lv_goto (tgt := 80) hx hb dM_count_75 (by decide) ?_
        refine lv_istore hx hb dM_count_80 hl (by decide) rfl (fun ls hl => ?_)
        have hl : lv_has ls 6 [(4, .int _), (5, .int _), (0, .ref _), (1, .int _), (2, .int _), (3, .int _)] := hl
        refine lv_iinc (k := 1) hx hb dM_count_82 hl rfl rfl (by decide) rfl (fun ls hl => ?_)
        have hl : lv_has ls 6 [(5, .int _), (4, .int _), (0, .ref _), (1, .int _), (2, .int _), (3, .int _)] := hl
        refine lv_goto (tgt := 47) hx hb dM_count_85 (by decide) ?_
        have hl : lv_has ls 6 [(5, .int (nI (f1 + (a1 + 1)))), (4, .int (nI (cnt a k f1 t1 (a1 + 1)))), (0, .ref (ad 17)), (1, .int (nI k)), (2, .int (nI f1)), (3, .int (nI t1))] := by unfold cnt; rw [if_pos hs, ← Nat.add_assoc, ← nI_1, ← nI_1]; exact hl
        exact ih (t - 1) (a1 + 1) _ _ _ (by omega) ⟨by show f1 + (a1 + 1) + (t - 1) = t1; omega, hl, hP, hS⟩
      · rw [if_neg hs]
        refine lv_if_eq (tgt := 78) hx hb dM_count_68 (by decide) (fun _ => ?_) (fun hc => absurd rfl hc)
        refine lv_iload hx hb dM_count_78 (lv_at hl 1 rfl) ?_
        refine lv_istore hx hb dM_count_80 hl (by decide) rfl (fun ls hl => ?_)
        have hl : lv_has ls 6 [(4, .int _), (5, .int _), (0, .ref _), (1, .int _), (2, .int _), (3, .int _)] := hl
        refine lv_iinc (k := 1) hx hb dM_count_82 hl rfl rfl (by decide) rfl (fun ls hl => ?_)
        have hl : lv_has ls 6 [(5, .int _), (4, .int _), (0, .ref _), (1, .int _), (2, .int _), (3, .int _)] := hl
        refine lv_goto (tgt := 47) hx hb dM_count_85 (by decide) ?_
        have hl : lv_has ls 6 [(5, .int (nI (f1 + (a1 + 1)))), (4, .int (nI (cnt a k f1 t1 (a1 + 1)))), (0, .ref (ad 17)), (1, .int (nI k)), (2, .int (nI f1)), (3, .int (nI t1))] := by unfold cnt; rw [if_neg hs, ← Nat.add_assoc, ← nI_1]; exact hl
        exact ih (t - 1) (a1 + 1) _ _ _ (by omega) ⟨by show f1 + (a1 + 1) + (t - 1) = t1; omega, hl, hP, hS⟩
set_option maxHeartbeats 4000000 in
set_option maxRecDepth 100000 in
theorem c_M_find (G : gGeo ad 25 base) (ha : a_ok a) (hR : RepM M a) (d i n : Int32) : Met l yM_find (Cond.code yM_find bM_find 6 (some .int) :: tws) { frames := 1, cells := 0, slots := 0, locals := 25 } (gPc (tw D cI cZ cT cJ base) D cl ad 25 base (en ad cI cZ cT cJ pi dr S M o) [.ref (ad 17), .int d, .int i, .int n]) (gQc D cl ad 25 base (some (.int (if (c_find a d i n) = 0 then (fnd a (ix d) (a_n a (ix d)) (a_n a (ix d) - ix i) (ix i) (ix n)) else 0))) (fun e => ∃ M1 : Nat → Nat → Int32, e = en ad cI cZ cT cJ pi dr S M1 o ∧ M1 0 0 = nI (c_find a d i n) ∧ RepM M1 (if (c_find a d i n) = 0 then a else a))) 0 0 (gA base) := by
  refine Met.ofW (cc := bM_find) (maxL := 6) (ret := (some .int)) (by decide) rfl ?_
  intro p e s m args below meth c s₁ B hml hv
  obtain ⟨rfl, htw, hB, hP⟩ := hv
  have hx := B.exec
  have hb := B.bytes
  have hr := B.returns
  have hts0 := atoms_spec (ws := Cond.code yM_find bM_find 6 (some .int) :: tws) B.pre
  have hts : ∀ w ∈ tws, w.before _ s = true := fun w h => hts0 w (List.mem_cons_of_mem _ h)
  have hown : s.vm.findClass "PairedTextsModel" = some m.cls := findClass_of_methodNamed B.named
  have hlocks := B.notSynchronized
  have hno := B.noHandlers (hts0 _ List.mem_cons_self)
  have F : CallFix p m c bM_find 6 s _ tws "PairedTextsModel" := ⟨hx, hb, hml, hown, hts⟩
  have hK := htw.1
  have hS : va_S (gA base) s.heap s.heap [] := va_S.rf
  have hl := lv_entry ([.ref (ad 17), .int d, .int i, .int n]) (n := 6) (Nat.le_of_ble_eq_true rfl)
  rw [lg_entry_eq]
  generalize (lg_sl ([.ref (ad 17), .int d, .int i, .int n]) ++ List.replicate (6 - (lg_sl ([.ref (ad 17), .int d, .int i, .int n])).length) Slot.unset).toArray = ls at hl ⊢
  have hl : lv_has ls 6 [(0, .ref (ad 17)), (1, .int d), (2, .int i), (3, .int n)] := hl
  have z0 : (0 : Int32).toInt = 0 := rfl
  refine lv_aload_n hx hb dM_find_0 rfl (lv_at hl 0 rfl) ?_
  refine lv_iload_n hx hb dM_find_1 rfl (lv_at hl 1 rfl) ?_
  rcases dk_or d with hd | ⟨k, hk, rfl⟩
  · have hk1 : (c_find a d i n) = 1 := by simp [c_find, hd.1]
    refine g_S (k := 1) F htw hB hS hP (c_M_isDocument d) k2_238 k2_239 k1_5 k3_0 (by decide +kernel) rfl rfl ⟨Nat.le_of_ble_eq_true rfl, Nat.le_of_ble_eq_true rfl⟩ rfl hl.1 rfl (Nat.le_of_ble_eq_true rfl) dM_find_2 ⟨Nat.le_of_ble_eq_true rfl, Nat.le_of_ble_eq_true rfl⟩ (fun en1 H locs he hP hS => ?_)
    obtain rfl := he
    refine lv_if_eq (tgt := 12) hx hb dM_find_5 (by decide) (fun _ => ?_) (fun hc => absurd (show (if dk d then (1 : Int32) else 0) = 0 by rw [hd.1]; rfl) hc)
    refine lv_iconst (v := 1) hx hb dM_find_12 (by decide) ?_
    refine lv_goto (tgt := 46) hx hb dM_find_13 (by decide) ?_
    refine g_put F hK G hP hS (17) (by decide) rfl rfl iM tM tM_ok nM 0 (by decide) k2_196 rfl (ty := .int) (by decide +kernel) rfl rfl (Nat.le_of_ble_eq_true rfl) dM_find_46 (fun H locs hP hS => ?_)
    have hP := P_of hP (en_m_code _ _ _ _ _ _ _ _ _ _ _)
    obtain ⟨M, hP, hR, h00⟩ : ∃ M1 : Nat → Nat → Int32, va_P D cl (gw ad (en ad cI cZ cT cJ pi dr S M1 o) 25) H ∧ RepM M1 a ∧ M1 0 0 = nI 1 := ⟨_, hP, hR.num (by decide), rfl⟩
    refine lv_aload_n hx hb dM_find_49 rfl (lv_at hl 0 rfl) ?_
    refine g_get F hK hP (17) (by decide) rfl rfl iM 0 (by decide) k2_196 rfl dM_find_50 ?_
    rw [h00]
    refine lv_if_le (tgt := 58) hx hb dM_find_53 (by decide) (fun hc => absurd hc (show ¬ nI 1 ≤ 0 by decide)) (fun _ => ?_)
    refine lv_iconst (v := 0) hx hb dM_find_56 (by decide) ?_
    exact W.iret hx hb hr (fun t ht hW => ⟨by rw [hk1]; rfl, ⟨_, ⟨M, rfl, by rw [hk1]; exact h00, by rw [hk1]; exact hR⟩, by rw [ht]; exact hP⟩, hS.F ht⟩) hS.2.2 dM_find_57
  refine g_S (k := 1) F htw hB hS hP (c_M_isDocument (nI k)) k2_238 k2_239 k1_5 k3_0 (by decide +kernel) rfl rfl ⟨Nat.le_of_ble_eq_true rfl, Nat.le_of_ble_eq_true rfl⟩ rfl hl.1 rfl (Nat.le_of_ble_eq_true rfl) dM_find_2 ⟨Nat.le_of_ble_eq_true rfl, Nat.le_of_ble_eq_true rfl⟩ (fun en1 H locs he hP hS => ?_)
  obtain rfl := he
  refine lv_if_eq (tgt := 12) hx hb dM_find_5 (by decide) (fun hc => absurd hc (show ¬ (if dk (nI k) then (1 : Int32) else 0) = 0 by rw [dk_nI hk]; decide)) (fun _ => ?_)
  have hn_k := ha.1 k hk
  refine lv_iload_n hx hb dM_find_8 rfl (lv_at hl 3 rfl) ?_
  rcases nn_or n with hg0 | ⟨j, hj, rfl⟩
  · have hk1 : (c_find a (nI k) i n) = 1 := by simp [c_find, dk_nI hk, ix_nI (show k < 2 ^ 31 by omega), hg0.1]
    refine lv_if_ge (tgt := 16) hx hb dM_find_9 (by decide) (fun hc => absurd hc (by simp only [Int32.lt_iff_toInt_lt, Int32.le_iff_toInt_le]; omega)) (fun _ => ?_)
    refine lv_iconst (v := 1) hx hb dM_find_12 (by decide) ?_
    refine lv_goto (tgt := 46) hx hb dM_find_13 (by decide) ?_
    refine g_put F hK G hP hS (17) (by decide) rfl rfl iM tM tM_ok nM 0 (by decide) k2_196 rfl (ty := .int) (by decide +kernel) rfl rfl (Nat.le_of_ble_eq_true rfl) dM_find_46 (fun H locs hP hS => ?_)
    have hP := P_of hP (en_m_code _ _ _ _ _ _ _ _ _ _ _)
    obtain ⟨M, hP, hR, h00⟩ : ∃ M1 : Nat → Nat → Int32, va_P D cl (gw ad (en ad cI cZ cT cJ pi dr S M1 o) 25) H ∧ RepM M1 a ∧ M1 0 0 = nI 1 := ⟨_, hP, hR.num (by decide), rfl⟩
    refine lv_aload_n hx hb dM_find_49 rfl (lv_at hl 0 rfl) ?_
    refine g_get F hK hP (17) (by decide) rfl rfl iM 0 (by decide) k2_196 rfl dM_find_50 ?_
    rw [h00]
    refine lv_if_le (tgt := 58) hx hb dM_find_53 (by decide) (fun hc => absurd hc (show ¬ nI 1 ≤ 0 by decide)) (fun _ => ?_)
    refine lv_iconst (v := 0) hx hb dM_find_56 (by decide) ?_
    exact W.iret hx hb hr (fun t ht hW => ⟨by rw [hk1]; rfl, ⟨_, ⟨M, rfl, by rw [hk1]; exact h00, by rw [hk1]; exact hR⟩, by rw [ht]; exact hP⟩, hS.F ht⟩) hS.2.2 dM_find_57
  have zj := nI_toInt hj
  refine lv_if_ge (tgt := 16) hx hb dM_find_9 (by decide) (fun _ => ?_) (fun hc => absurd (by simp only [Int32.lt_iff_toInt_lt, Int32.le_iff_toInt_le]; omega) hc)
  refine lv_iload_n hx hb dM_find_16 rfl (lv_at hl 2 rfl) ?_
  have zk := nI_toInt (show a_n a k < 2 ^ 31 by omega)
  rcases pc_or i hn_k with hg | ⟨x, hx1, rfl⟩
  · have hk1 : (c_find a (nI k) i (nI j)) = 2 := by simp [c_find, dk_nI hk, ix_nI (show k < 2 ^ 31 by omega), nn_nI hj, ix_nI hj, hg]
    have hg2 : i.toInt < 0 ∨ (a_n a k : Int) < i.toInt := by unfold pcL at hg; simp only [decide_eq_false_iff_not] at hg; omega
    refine lv_if_lt (tgt := 30) hx hb dM_find_17 (by decide) (fun hc => ?_) (fun hc => ?_)
    · refine lv_iconst (v := 2) hx hb dM_find_30 (by decide) ?_
      refine lv_goto (tgt := 46) hx hb dM_find_31 (by decide) ?_
      refine g_put F hK G hP hS (17) (by decide) rfl rfl iM tM tM_ok nM 0 (by decide) k2_196 rfl (ty := .int) (by decide +kernel) rfl rfl (Nat.le_of_ble_eq_true rfl) dM_find_46 (fun H locs hP hS => ?_)
      have hP := P_of hP (en_m_code _ _ _ _ _ _ _ _ _ _ _)
      obtain ⟨M, hP, hR, h00⟩ : ∃ M1 : Nat → Nat → Int32, va_P D cl (gw ad (en ad cI cZ cT cJ pi dr S M1 o) 25) H ∧ RepM M1 a ∧ M1 0 0 = nI 2 := ⟨_, hP, hR.num (by decide), rfl⟩
      refine lv_aload_n hx hb dM_find_49 rfl (lv_at hl 0 rfl) ?_
      refine g_get F hK hP (17) (by decide) rfl rfl iM 0 (by decide) k2_196 rfl dM_find_50 ?_
      rw [h00]
      refine lv_if_le (tgt := 58) hx hb dM_find_53 (by decide) (fun hc => absurd hc (show ¬ nI 2 ≤ 0 by decide)) (fun _ => ?_)
      refine lv_iconst (v := 0) hx hb dM_find_56 (by decide) ?_
      exact W.iret hx hb hr (fun t ht hW => ⟨by rw [hk1]; rfl, ⟨_, ⟨M, rfl, by rw [hk1]; exact h00, by rw [hk1]; exact hR⟩, by rw [ht]; exact hP⟩, hS.F ht⟩) hS.2.2 dM_find_57
    · simp only [Int32.lt_iff_toInt_lt, Int32.le_iff_toInt_le] at hc
      refine lv_iload_n hx hb dM_find_20 rfl (lv_at hl 2 rfl) ?_
      refine lv_aload_n hx hb dM_find_21 rfl (lv_at hl 0 rfl) ?_
      refine g_get F hK hP (17) (by decide) rfl rfl iM 2 (by decide) k2_198 rfl dM_find_22 ?_
      refine lv_iload_n hx hb dM_find_25 rfl (lv_at hl 1 rfl) ?_
      refine g_iald F hK hP (19) (by decide) 0 rfl rfl (vp_in_nI hk (by omega)) dM_find_26 ?_
      rw [nI_clamp (show k < 2 ^ 31 by omega), hR.1 k hk]
      refine lv_icmp_le (tgt := 34) hx hb dM_find_27 (by decide) (fun hc => absurd hc (by simp only [Int32.lt_iff_toInt_lt, Int32.le_iff_toInt_le]; omega)) (fun _ => ?_)
      refine lv_iconst (v := 2) hx hb dM_find_30 (by decide) ?_
      refine lv_goto (tgt := 46) hx hb dM_find_31 (by decide) ?_
      refine g_put F hK G hP hS (17) (by decide) rfl rfl iM tM tM_ok nM 0 (by decide) k2_196 rfl (ty := .int) (by decide +kernel) rfl rfl (Nat.le_of_ble_eq_true rfl) dM_find_46 (fun H locs hP hS => ?_)
      have hP := P_of hP (en_m_code _ _ _ _ _ _ _ _ _ _ _)
      obtain ⟨M, hP, hR, h00⟩ : ∃ M1 : Nat → Nat → Int32, va_P D cl (gw ad (en ad cI cZ cT cJ pi dr S M1 o) 25) H ∧ RepM M1 a ∧ M1 0 0 = nI 2 := ⟨_, hP, hR.num (by decide), rfl⟩
      refine lv_aload_n hx hb dM_find_49 rfl (lv_at hl 0 rfl) ?_
      refine g_get F hK hP (17) (by decide) rfl rfl iM 0 (by decide) k2_196 rfl dM_find_50 ?_
      rw [h00]
      refine lv_if_le (tgt := 58) hx hb dM_find_53 (by decide) (fun hc => absurd hc (show ¬ nI 2 ≤ 0 by decide)) (fun _ => ?_)
      refine lv_iconst (v := 0) hx hb dM_find_56 (by decide) ?_
      exact W.iret hx hb hr (fun t ht hW => ⟨by rw [hk1]; rfl, ⟨_, ⟨M, rfl, by rw [hk1]; exact h00, by rw [hk1]; exact hR⟩, by rw [ht]; exact hP⟩, hS.F ht⟩) hS.2.2 dM_find_57
  have zb := nI_toInt (show x < 2 ^ 31 by omega)
  refine lv_if_lt (tgt := 30) hx hb dM_find_17 (by decide) (fun hc => absurd hc (by simp only [Int32.lt_iff_toInt_lt, Int32.le_iff_toInt_le]; omega)) (fun _ => ?_)
  refine lv_iload_n hx hb dM_find_20 rfl (lv_at hl 2 rfl) ?_
  refine lv_aload_n hx hb dM_find_21 rfl (lv_at hl 0 rfl) ?_
  refine g_get F hK hP (17) (by decide) rfl rfl iM 2 (by decide) k2_198 rfl dM_find_22 ?_
  refine lv_iload_n hx hb dM_find_25 rfl (lv_at hl 1 rfl) ?_
  refine g_iald F hK hP (19) (by decide) 0 rfl rfl (vp_in_nI hk (by omega)) dM_find_26 ?_
  rw [nI_clamp (show k < 2 ^ 31 by omega), hR.1 k hk]
  refine lv_icmp_le (tgt := 34) hx hb dM_find_27 (by decide) (fun _ => ?_) (fun hc => absurd (by simp only [Int32.lt_iff_toInt_lt, Int32.le_iff_toInt_le]; omega) hc)
  refine lv_aload_n hx hb dM_find_34 rfl (lv_at hl 0 rfl) ?_
  refine g_get F hK hP (17) (by decide) rfl rfl iM 5 (by decide) k2_201 rfl dM_find_35 ?_
  have hpn := ha.2.2.1
  have e7 := hR.2.2.1
  by_cases hp0 : a_p a = 0
  · have hk1 : (c_find a (nI k) (nI x) (nI j)) = 3 := by simp [c_find, dk_nI hk, ix_nI (show k < 2 ^ 31 by omega), nn_nI hj, ix_nI hj, pc_nI hx1 hn_k, ix_nI (show x < 2 ^ 31 by omega), hp0]
    refine lv_if_ne (tgt := 45) hx hb dM_find_38 (by decide) (fun hc => absurd (by rw [e7, hp0]; rfl) hc) (fun _ => ?_)
    refine lv_iconst (v := 3) hx hb dM_find_41 (by decide) ?_
    refine lv_goto (tgt := 46) hx hb dM_find_42 (by decide) ?_
    refine g_put F hK G hP hS (17) (by decide) rfl rfl iM tM tM_ok nM 0 (by decide) k2_196 rfl (ty := .int) (by decide +kernel) rfl rfl (Nat.le_of_ble_eq_true rfl) dM_find_46 (fun H locs hP hS => ?_)
    have hP := P_of hP (en_m_code _ _ _ _ _ _ _ _ _ _ _)
    obtain ⟨M, hP, hR, h00⟩ : ∃ M1 : Nat → Nat → Int32, va_P D cl (gw ad (en ad cI cZ cT cJ pi dr S M1 o) 25) H ∧ RepM M1 a ∧ M1 0 0 = nI 3 := ⟨_, hP, hR.num (by decide), rfl⟩
    refine lv_aload_n hx hb dM_find_49 rfl (lv_at hl 0 rfl) ?_
    refine g_get F hK hP (17) (by decide) rfl rfl iM 0 (by decide) k2_196 rfl dM_find_50 ?_
    rw [h00]
    refine lv_if_le (tgt := 58) hx hb dM_find_53 (by decide) (fun hc => absurd hc (show ¬ nI 3 ≤ 0 by decide)) (fun _ => ?_)
    refine lv_iconst (v := 0) hx hb dM_find_56 (by decide) ?_
    exact W.iret hx hb hr (fun t ht hW => ⟨by rw [hk1]; rfl, ⟨_, ⟨M, rfl, by rw [hk1]; exact h00, by rw [hk1]; exact hR⟩, by rw [ht]; exact hP⟩, hS.F ht⟩) hS.2.2 dM_find_57
  · have hk1 : (c_find a (nI k) (nI x) (nI j)) = 0 := by simp [c_find, dk_nI hk, ix_nI (show k < 2 ^ 31 by omega), nn_nI hj, ix_nI hj, pc_nI hx1 hn_k, ix_nI (show x < 2 ^ 31 by omega), hp0]
    refine lv_if_ne (tgt := 45) hx hb dM_find_38 (by decide) (fun _ => ?_) (fun hc => absurd hc (by rw [e7]; exact nI_ne0 (by omega) (by omega)))
    refine lv_iconst (v := 0) hx hb dM_find_45 (by decide) ?_
    refine g_put F hK G hP hS (17) (by decide) rfl rfl iM tM tM_ok nM 0 (by decide) k2_196 rfl (ty := .int) (by decide +kernel) rfl rfl (Nat.le_of_ble_eq_true rfl) dM_find_46 (fun H locs hP hS => ?_)
    have hP := P_of hP (en_m_code _ _ _ _ _ _ _ _ _ _ _)
    obtain ⟨M, hP, hR, h00⟩ : ∃ M1 : Nat → Nat → Int32, va_P D cl (gw ad (en ad cI cZ cT cJ pi dr S M1 o) 25) H ∧ RepM M1 a ∧ M1 0 0 = nI 0 := ⟨_, hP, hR.num (by decide), rfl⟩
    refine lv_aload_n hx hb dM_find_49 rfl (lv_at hl 0 rfl) ?_
    refine g_get F hK hP (17) (by decide) rfl rfl iM 0 (by decide) k2_196 rfl dM_find_50 ?_
    rw [h00]
    refine lv_if_le (tgt := 58) hx hb dM_find_53 (by decide) (fun _ => ?_) (fun hc => absurd (show  nI 0 ≤ 0 by decide) hc)
    refine lv_iload_n hx hb dM_find_58 rfl (lv_at hl 3 rfl) ?_
    refine lv_istore hx hb dM_find_59 hl (by decide) rfl (fun ls hl => ?_)
    have hl : lv_has ls 6 [(4, .int _), (0, .ref _), (1, .int _), (2, .int _), (3, .int _)] := hl
    refine lv_iload_n hx hb dM_find_61 rfl (lv_at hl 3 rfl) ?_
    refine lv_istore hx hb dM_find_62 hl (by decide) rfl (fun ls hl => ?_)
    have hl : lv_has ls 6 [(5, .int _), (4, .int _), (0, .ref _), (1, .int _), (2, .int _), (3, .int _)] := hl
    refine W.loop (α := Nat × Nat) (fun t a1 ls H locs => a1.1 + t = a_n a k ∧ a1.2 < 2 ^ 31 ∧ fnd a k (a_n a k) t a1.1 a1.2 = fnd a k (a_n a k) (a_n a k - x) x j ∧ lv_has ls 6 [(5, .int (nI a1.1)), (4, .int (nI a1.2)), (0, .ref (ad 17)), (1, .int (nI k)), (2, .int (nI x)), (3, .int (nI j))] ∧ va_P D cl (gw ad (en ad cI cZ cT cJ pi dr S M o) 25) H ∧ va_S (gA base) s.heap H locs) ?_ (t := (a_n a k - x)) (a := (x, j)) ⟨by show x + (a_n a k - x) = a_n a k; omega, hj, rfl, hl, hP, hS⟩
    clear hl hP hS
    intro t a1 ls H locs hI ih
    obtain ⟨u, v⟩ := a1
    obtain ⟨i0, i1, i2, hl, hP, hS⟩ := hI
    try dsimp only at i0 i1 i2 hl hP
    by_cases ht : t = 0
    · subst ht
      refine lv_iload hx hb dM_find_64 (lv_at hl 0 rfl) ?_
      refine lv_aload_n hx hb dM_find_66 rfl (lv_at hl 2 rfl) ?_
      refine g_get F hK hP (17) (by decide) rfl rfl iM 2 (by decide) k2_198 rfl dM_find_67 ?_
      refine lv_iload_n hx hb dM_find_70 rfl (lv_at hl 3 rfl) ?_
      refine g_iald F hK hP (19) (by decide) 0 rfl rfl (vp_in_nI hk (by omega)) dM_find_71 ?_
      rw [nI_clamp (show k < 2 ^ 31 by omega), hR.1 k hk]
      refine lv_icmp_ge (tgt := 108) hx hb dM_find_72 (by decide) (fun _ => ?_) (fun hc => absurd (by rw [nI_leI (by omega) (by omega)]; omega) hc)
      refine lv_iconst (v := (-1)) hx hb dM_find_108 (by decide) ?_
      have i2 : (-1 : Int32) = fnd a k (a_n a k) (a_n a k - x) x j := i2
      exact W.iret hx hb hr (fun t ht hW => ⟨by rw [hk1, if_pos rfl]; simp [← i2, dk_nI hk, ix_nI (show k < 2 ^ 31 by omega), nn_nI hj, ix_nI hj, pc_nI hx1 hn_k, ix_nI (show x < 2 ^ 31 by omega), hp0], ⟨_, ⟨M, rfl, by rw [hk1]; exact h00, by rw [hk1, if_pos rfl]; exact hR⟩, by rw [ht]; exact hP⟩, hS.F ht⟩) hS.2.2 dM_find_109
    · obtain ⟨t, rfl⟩ : ∃ z, t = z + 1 := ⟨t - 1, by omega⟩
      have i2 : (if stB a k u (a_n a k) then (if v = 0 then nI u else fnd a k (a_n a k) t (u + 1) (v - 1)) else fnd a k (a_n a k) t (u + 1) v) = fnd a k (a_n a k) (a_n a k - x) x j := i2
      refine lv_iload hx hb dM_find_64 (lv_at hl 0 rfl) ?_
      refine lv_aload_n hx hb dM_find_66 rfl (lv_at hl 2 rfl) ?_
      refine g_get F hK hP (17) (by decide) rfl rfl iM 2 (by decide) k2_198 rfl dM_find_67 ?_
      refine lv_iload_n hx hb dM_find_70 rfl (lv_at hl 3 rfl) ?_
      refine g_iald F hK hP (19) (by decide) 0 rfl rfl (vp_in_nI hk (by omega)) dM_find_71 ?_
      rw [nI_clamp (show k < 2 ^ 31 by omega), hR.1 k hk]
      refine lv_icmp_ge (tgt := 108) hx hb dM_find_72 (by decide) (fun hc => absurd hc (by rw [nI_leI (by omega) (by omega)]; omega)) (fun _ => ?_)
      refine lv_aload_n hx hb dM_find_75 rfl (lv_at hl 2 rfl) ?_
      refine lv_iload_n hx hb dM_find_76 rfl (lv_at hl 3 rfl) ?_
      refine lv_iload hx hb dM_find_77 (lv_at hl 0 rfl) ?_
      refine lv_aload_n hx hb dM_find_79 rfl (lv_at hl 2 rfl) ?_
      refine g_get F hK hP (17) (by decide) rfl rfl iM 2 (by decide) k2_198 rfl dM_find_80 ?_
      refine lv_iload_n hx hb dM_find_83 rfl (lv_at hl 3 rfl) ?_
      refine g_iald F hK hP (19) (by decide) 0 rfl rfl (vp_in_nI hk (by omega)) dM_find_84 ?_
      rw [nI_clamp (show k < 2 ^ 31 by omega), hR.1 k hk]
      refine g_V (k := 3) F htw hB hS hP (17) (by decide) rfl rfl (c_M_stands ha hR hk (show u ≤ a_n a k by omega) (Nat.le_refl _)) k3_92 k3_94 k0_9 k1_5 k3_95 (by decide +kernel) rfl rfl ⟨Nat.le_of_ble_eq_true rfl, Nat.le_of_ble_eq_true rfl⟩ rfl hl.1 rfl (Nat.le_of_ble_eq_true rfl) dM_find_85 ⟨Nat.le_of_ble_eq_true rfl, Nat.le_of_ble_eq_true rfl⟩ (fun en1 H locs he hP hS => ?_)
      obtain rfl := he
      by_cases hs : stB a k u (a_n a k) = true
      · rw [if_pos hs] at i2
        rw [if_pos hs]
        refine lv_if_eq (tgt := 102) hx hb dM_find_88 (by decide) (fun hc => absurd hc (by decide)) (fun _ => ?_)
        refine lv_iload hx hb dM_find_91 (lv_at hl 1 rfl) ?_
        refine lv_if_ne (tgt := 99) hx hb dM_find_93 (by decide) (fun hc => ?_) (fun hc => ?_)
        · rw [show (0 : Int32) = nI 0 from rfl, nI_eq (by omega) (by omega)] at hc
          rw [if_neg hc] at i2
          refine lv_iinc (k := 1) hx hb dM_find_99 hl rfl rfl (by decide) rfl (fun ls hl => ?_)
          have hl : lv_has ls 6 [(4, .int _), (5, .int _), (0, .ref _), (1, .int _), (2, .int _), (3, .int _)] := hl
          refine lv_iinc (k := 1) hx hb dM_find_102 hl rfl rfl (by decide) rfl (fun ls hl => ?_)
          have hl : lv_has ls 6 [(5, .int _), (4, .int _), (0, .ref _), (1, .int _), (2, .int _), (3, .int _)] := hl
          refine lv_goto (tgt := 64) hx hb dM_find_105 (by decide) ?_
          have hl : lv_has ls 6 [(5, .int (nI (u + 1))), (4, .int (nI (v - 1))), (0, .ref (ad 17)), (1, .int (nI k)), (2, .int (nI x)), (3, .int (nI j))] := by rw [← nI_1, ← nI_dec (show 1 ≤ v by omega)]; exact hl
          exact ih t (u + 1, v - 1) _ _ _ (by omega) ⟨by show u + 1 + t = a_n a k; omega, by show v - 1 < 2 ^ 31; omega, i2, hl, hP, hS⟩
        · rw [show (0 : Int32) = nI 0 from rfl, nI_eq (by omega) (by omega)] at hc
          rw [if_pos hc] at i2
          refine lv_iload hx hb dM_find_96 (lv_at hl 0 rfl) ?_
          exact W.iret hx hb hr (fun t ht hW => ⟨by rw [hk1, if_pos rfl]; simp [← i2, dk_nI hk, ix_nI (show k < 2 ^ 31 by omega), nn_nI hj, ix_nI hj, pc_nI hx1 hn_k, ix_nI (show x < 2 ^ 31 by omega), hp0], ⟨_, ⟨M, rfl, by rw [hk1]; exact h00, by rw [hk1, if_pos rfl]; exact hR⟩, by rw [ht]; exact hP⟩, hS.F ht⟩) hS.2.2 dM_find_98
      · rw [if_neg hs] at i2
        rw [if_neg hs]
        refine lv_if_eq (tgt := 102) hx hb dM_find_88 (by decide) (fun _ => ?_) (fun hc => absurd rfl hc)
        refine lv_iinc (k := 0) hx hb dM_find_102 hl rfl rfl (by decide) rfl (fun ls hl => ?_)
        have hl : lv_has ls 6 [(5, .int _), (4, .int _), (0, .ref _), (1, .int _), (2, .int _), (3, .int _)] := hl
        refine lv_goto (tgt := 64) hx hb dM_find_105 (by decide) ?_
        have hl : lv_has ls 6 [(5, .int (nI (u + 1))), (4, .int (nI v)), (0, .ref (ad 17)), (1, .int (nI k)), (2, .int (nI x)), (3, .int (nI j))] := by rw [← nI_1]; exact hl
        exact ih t (u + 1, v) _ _ _ (by omega) ⟨by show u + 1 + t = a_n a k; omega, i1, i2, hl, hP, hS⟩
end N4
