/-! The reference's calls: write, repeat, same, prefix, order. -/
theorem RepM.self {M : Nat → Nat → Int32} {a : Ab} {k : Nat} {g : Nat → Nat} (h : RepM M a) (hg : ∀ i, i < a_n a k → g i = a_b a k i) : RepM M (a_set a k (a_n a k) g) := by
  obtain ⟨c4, c5, c6⟩ := h
  refine ⟨fun d hd => ?_, fun d i hd hi => ?_, c6⟩
  · rw [a_set_n]
    by_cases e : d = k
    · rw [if_pos e, ← e]; exact c4 d hd
    · rw [if_neg e]; exact c4 d hd
  · rw [a_set_n] at hi
    rw [a_set_b]
    by_cases e : d = k
    · rw [if_pos e] at hi ⊢; rw [hg i hi, ← e]; exact c5 d i hd (by rw [e]; exact hi)
    · rw [if_neg e] at hi ⊢; exact c5 d i hd hi
theorem RepM.addb {M : Nat → Nat → Int32} {a : Ab} {k m b : Nat} {g : Nat → Nat} (h : RepM M (a_set a k m g)) (ha : a_ok a) (hm : m < 1000) (hb : g m = b) : RepM (sr (sr M 1 (upd (M 1) (1000 * k + m) (nI b))) 2 (upd (M 2) k (nI (m + 1)))) (a_set a k (m + 1) g) := by
  obtain ⟨c4, c5, c6, c7, c8, c9⟩ := h
  refine ⟨fun d2 hd2 => ?_, fun d2 i hd2 hi => ?_, ?_, fun k hk => ?_, fun q hq => ?_, fun q hq => ?_⟩
  · have h4 := c4 d2 hd2
    rw [a_set_n] at h4 ⊢
    rw [sr_s]
    unfold upd
    by_cases e : d2 = k
    · rw [if_pos e, if_pos e]
    · rw [if_neg e] at h4 ⊢; rw [if_neg e]; exact h4
  · have h1 := ha.1 d2 hd2
    have h5 := c5 d2 i hd2
    rw [a_set_n, a_set_b] at h5
    rw [a_set_n] at hi
    rw [sr_n (by decide), sr_s, a_set_b]
    unfold upd
    by_cases e : d2 = k
    · rw [if_pos e] at hi h5
      rw [if_pos e] at h5
      rw [if_pos e]
      by_cases e2 : i = m
      · rw [if_pos (by omega), e2, hb]
      · rw [if_neg (by omega)]; exact h5 (by omega)
    · rw [if_neg e] at hi h5
      rw [if_neg e] at h5
      rw [if_neg e, if_neg (by omega)]; exact h5 hi
  · rw [sr_n (by decide), sr_n (by decide)]; exact c6
  · rw [sr_n (by decide), sr_n (by decide)]; exact c7 k hk
  · rw [sr_n (by decide), sr_n (by decide)]; exact c8 q hq
  · rw [sr_n (by decide), sr_n (by decide)]; exact c9 q hq
theorem l_rep {A j W : Nat} (h : W ≤ A) : lN A + (lN j - 1) * lN W = lN (A - W + j * W) := by
  have e : lN A = lN (A - W) + lN W := by rw [lN_add]; congr 1; omega
  rw [e, ← lN_add, ← lN_mul]
  generalize lN (A - W) = x
  generalize lN W = w
  generalize lN j = y
  grind
theorem i_sub {A u : Nat} (hA : A ≤ 1000) (hu : u < 2 ^ 31) : (nI A - nI u).toInt = (A : Int) - u := by
  rw [Int32.toInt_sub, nI_toInt (by omega), nI_toInt hu]
  apply Int.bmod_eq_of_le <;> omega
section N3
variable {l : Launch} {D : va_G} {cI cZ cT cJ : ClassId} {base : Nat} {ad : Nat → Nat} {pi : Nat → Nat} {dr : Nat} {S M : Nat → Nat → Int32} {o : Nat → Int64} {a : Ab}
set_option maxHeartbeats 4000000 in
set_option maxRecDepth 100000 in
theorem c_M_write (G : gGeo ad 25 base) (ha : a_ok a) (hR : RepM M a) (d : Int32) (v : Int64) (n : Int32) : Met l yM_write (Cond.code yM_write bM_write 6 (some .int) :: tws) { frames := 1, cells := 0, slots := 0, locals := 20 } (gPc (tw D cI cZ cT cJ base) D cl ad 25 base (en ad cI cZ cT cJ pi dr S M o) [.ref (ad 17), .int d, .long v, .int n]) (gQc D cl ad 25 base (some (.int (if (c_write a d n) = 0 then (nI (a_n a (ix d) + ix n)) else 0))) (fun e => ∃ M1 : Nat → Nat → Int32, e = en ad cI cZ cT cJ pi dr S M1 o ∧ M1 0 0 = nI (c_write a d n) ∧ RepM M1 (if (c_write a d n) = 0 then x_write a d v n else a))) 0 0 (gA base) := by
  refine Met.ofW (cc := bM_write) (maxL := 6) (ret := (some .int)) (by decide) rfl ?_
  intro p e s m args below meth c s₁ B hml hv
  obtain ⟨rfl, htw, hB, hP⟩ := hv
  have hx := B.exec
  have hb := B.bytes
  have hr := B.returns
  have hts0 := atoms_spec (ws := Cond.code yM_write bM_write 6 (some .int) :: tws) B.pre
  have hts : ∀ w ∈ tws, w.before _ s = true := fun w h => hts0 w (List.mem_cons_of_mem _ h)
  have hown : s.vm.findClass "PairedTextsModel" = some m.cls := findClass_of_methodNamed B.named
  have hlocks := B.notSynchronized
  have hno := B.noHandlers (hts0 _ List.mem_cons_self)
  have F : CallFix p m c bM_write 6 s _ tws "PairedTextsModel" := ⟨hx, hb, hml, hown, hts⟩
  have hK := htw.1
  have hS : va_S (gA base) s.heap s.heap [] := va_S.rf
  have hl := lv_entry ([.ref (ad 17), .int d, .long v, .int n]) (n := 6) (Nat.le_of_ble_eq_true rfl)
  rw [lg_entry_eq]
  generalize (lg_sl ([.ref (ad 17), .int d, .long v, .int n]) ++ List.replicate (6 - (lg_sl ([.ref (ad 17), .int d, .long v, .int n])).length) Slot.unset).toArray = ls at hl ⊢
  have hl : lv_has ls 6 [(0, .ref (ad 17)), (1, .int d), (2, .long v), (4, .int n)] := hl
  have z0 : (0 : Int32).toInt = 0 := rfl
  have z1 : (1 : Int32).toInt = 1 := rfl
  have z8 : (8 : Int32).toInt = 8 := rfl
  refine lv_aload_n hx hb dM_write_0 rfl (lv_at hl 0 rfl) ?_
  refine lv_iload_n hx hb dM_write_1 rfl (lv_at hl 1 rfl) ?_
  rcases dk_or d with hd | ⟨k, hk, rfl⟩
  · have hk1 : (c_write a d n) = 1 := by simp [c_write, hd.1]
    refine g_S (k := 1) F htw hB hS hP (c_M_isDocument d) k2_238 k2_239 k1_5 k3_0 (by decide +kernel) rfl rfl ⟨Nat.le_of_ble_eq_true rfl, Nat.le_of_ble_eq_true rfl⟩ rfl hl.1 rfl (Nat.le_of_ble_eq_true rfl) dM_write_2 ⟨Nat.le_of_ble_eq_true rfl, Nat.le_of_ble_eq_true rfl⟩ (fun en1 H locs he hP hS => ?_)
    obtain rfl := he
    refine lv_if_eq (tgt := 21) hx hb dM_write_5 (by decide) (fun _ => ?_) (fun hc => absurd (show (if dk d then (1 : Int32) else 0) = 0 by rw [hd.1]; rfl) hc)
    refine lv_iconst (v := 1) hx hb dM_write_21 (by decide) ?_
    refine lv_goto (tgt := 45) hx hb dM_write_22 (by decide) ?_
    refine g_put F hK G hP hS (17) (by decide) rfl rfl iM tM tM_ok nM 0 (by decide) k2_196 rfl (ty := .int) (by decide +kernel) rfl rfl (Nat.le_of_ble_eq_true rfl) dM_write_45 (fun H locs hP hS => ?_)
    have hP := P_of hP (en_m_code _ _ _ _ _ _ _ _ _ _ _)
    obtain ⟨M, hP, hR, h00⟩ : ∃ M1 : Nat → Nat → Int32, va_P D cl (gw ad (en ad cI cZ cT cJ pi dr S M1 o) 25) H ∧ RepM M1 a ∧ M1 0 0 = nI 1 := ⟨_, hP, hR.num (by decide), rfl⟩
    refine lv_aload_n hx hb dM_write_48 rfl (lv_at hl 0 rfl) ?_
    refine g_get F hK hP (17) (by decide) rfl rfl iM 0 (by decide) k2_196 rfl dM_write_49 ?_
    rw [h00]
    refine lv_if_le (tgt := 57) hx hb dM_write_52 (by decide) (fun hc => absurd hc (show ¬ nI 1 ≤ 0 by decide)) (fun _ => ?_)
    refine lv_iconst (v := 0) hx hb dM_write_55 (by decide) ?_
    exact W.iret hx hb hr (fun t ht hW => ⟨by rw [hk1]; rfl, ⟨_, ⟨M, rfl, by rw [hk1]; exact h00, by rw [hk1]; exact hR⟩, by rw [ht]; exact hP⟩, hS.F ht⟩) hS.2.2 dM_write_56
  refine g_S (k := 1) F htw hB hS hP (c_M_isDocument (nI k)) k2_238 k2_239 k1_5 k3_0 (by decide +kernel) rfl rfl ⟨Nat.le_of_ble_eq_true rfl, Nat.le_of_ble_eq_true rfl⟩ rfl hl.1 rfl (Nat.le_of_ble_eq_true rfl) dM_write_2 ⟨Nat.le_of_ble_eq_true rfl, Nat.le_of_ble_eq_true rfl⟩ (fun en1 H locs he hP hS => ?_)
  obtain rfl := he
  refine lv_if_eq (tgt := 21) hx hb dM_write_5 (by decide) (fun hc => absurd hc (show ¬ (if dk (nI k) then (1 : Int32) else 0) = 0 by rw [dk_nI hk]; decide)) (fun _ => ?_)
  have hn_k := ha.1 k hk
  refine lv_iload hx hb dM_write_8 (lv_at hl 3 rfl) ?_
  refine lv_iconst (v := 1) hx hb dM_write_10 (by decide) ?_
  rcases bt_or n 8 with hg | ⟨j, hj1, hj8, rfl⟩
  · have hk1 : (c_write a (nI k) n) = 1 := by simp [c_write, dk_nI hk, ix_nI (show k < 2 ^ 31 by omega), show btw n 1 8 = false from hg.1]
    refine lv_icmp_lt (tgt := 21) hx hb dM_write_11 (by decide) (fun hc => ?_) (fun hc => ?_)
    · refine lv_iconst (v := 1) hx hb dM_write_21 (by decide) ?_
      refine lv_goto (tgt := 45) hx hb dM_write_22 (by decide) ?_
      refine g_put F hK G hP hS (17) (by decide) rfl rfl iM tM tM_ok nM 0 (by decide) k2_196 rfl (ty := .int) (by decide +kernel) rfl rfl (Nat.le_of_ble_eq_true rfl) dM_write_45 (fun H locs hP hS => ?_)
      have hP := P_of hP (en_m_code _ _ _ _ _ _ _ _ _ _ _)
      obtain ⟨M, hP, hR, h00⟩ : ∃ M1 : Nat → Nat → Int32, va_P D cl (gw ad (en ad cI cZ cT cJ pi dr S M1 o) 25) H ∧ RepM M1 a ∧ M1 0 0 = nI 1 := ⟨_, hP, hR.num (by decide), rfl⟩
      refine lv_aload_n hx hb dM_write_48 rfl (lv_at hl 0 rfl) ?_
      refine g_get F hK hP (17) (by decide) rfl rfl iM 0 (by decide) k2_196 rfl dM_write_49 ?_
      rw [h00]
      refine lv_if_le (tgt := 57) hx hb dM_write_52 (by decide) (fun hc => absurd hc (show ¬ nI 1 ≤ 0 by decide)) (fun _ => ?_)
      refine lv_iconst (v := 0) hx hb dM_write_55 (by decide) ?_
      exact W.iret hx hb hr (fun t ht hW => ⟨by rw [hk1]; rfl, ⟨_, ⟨M, rfl, by rw [hk1]; exact h00, by rw [hk1]; exact hR⟩, by rw [ht]; exact hP⟩, hS.F ht⟩) hS.2.2 dM_write_56
    · simp only [Int32.lt_iff_toInt_lt, Int32.le_iff_toInt_le] at hc
      refine lv_iload hx hb dM_write_14 (lv_at hl 3 rfl) ?_
      refine lv_bipush (v := 8) hx hb dM_write_16 (by decide) ?_
      refine lv_icmp_le (tgt := 25) hx hb dM_write_18 (by decide) (fun hc => absurd hc (by simp only [Int32.lt_iff_toInt_lt, Int32.le_iff_toInt_le]; omega)) (fun _ => ?_)
      refine lv_iconst (v := 1) hx hb dM_write_21 (by decide) ?_
      refine lv_goto (tgt := 45) hx hb dM_write_22 (by decide) ?_
      refine g_put F hK G hP hS (17) (by decide) rfl rfl iM tM tM_ok nM 0 (by decide) k2_196 rfl (ty := .int) (by decide +kernel) rfl rfl (Nat.le_of_ble_eq_true rfl) dM_write_45 (fun H locs hP hS => ?_)
      have hP := P_of hP (en_m_code _ _ _ _ _ _ _ _ _ _ _)
      obtain ⟨M, hP, hR, h00⟩ : ∃ M1 : Nat → Nat → Int32, va_P D cl (gw ad (en ad cI cZ cT cJ pi dr S M1 o) 25) H ∧ RepM M1 a ∧ M1 0 0 = nI 1 := ⟨_, hP, hR.num (by decide), rfl⟩
      refine lv_aload_n hx hb dM_write_48 rfl (lv_at hl 0 rfl) ?_
      refine g_get F hK hP (17) (by decide) rfl rfl iM 0 (by decide) k2_196 rfl dM_write_49 ?_
      rw [h00]
      refine lv_if_le (tgt := 57) hx hb dM_write_52 (by decide) (fun hc => absurd hc (show ¬ nI 1 ≤ 0 by decide)) (fun _ => ?_)
      refine lv_iconst (v := 0) hx hb dM_write_55 (by decide) ?_
      exact W.iret hx hb hr (fun t ht hW => ⟨by rw [hk1]; rfl, ⟨_, ⟨M, rfl, by rw [hk1]; exact h00, by rw [hk1]; exact hR⟩, by rw [ht]; exact hP⟩, hS.F ht⟩) hS.2.2 dM_write_56
  have zj := nI_toInt (show j < 2 ^ 31 by omega)
  refine lv_icmp_lt (tgt := 21) hx hb dM_write_11 (by decide) (fun hc => absurd hc (by simp only [Int32.lt_iff_toInt_lt, Int32.le_iff_toInt_le]; omega)) (fun _ => ?_)
  refine lv_iload hx hb dM_write_14 (lv_at hl 3 rfl) ?_
  refine lv_bipush (v := 8) hx hb dM_write_16 (by decide) ?_
  refine lv_icmp_le (tgt := 25) hx hb dM_write_18 (by decide) (fun _ => ?_) (fun hc => absurd (by simp only [Int32.lt_iff_toInt_lt, Int32.le_iff_toInt_le]; omega) hc)
  refine lv_aload_n hx hb dM_write_25 rfl (lv_at hl 0 rfl) ?_
  refine g_get F hK hP (17) (by decide) rfl rfl iM 2 (by decide) k2_198 rfl dM_write_26 ?_
  refine lv_iload_n hx hb dM_write_29 rfl (lv_at hl 1 rfl) ?_
  refine g_iald F hK hP (19) (by decide) 0 rfl rfl (vp_in_nI hk (by omega)) dM_write_30 ?_
  rw [nI_clamp (show k < 2 ^ 31 by omega), hR.1 k hk]
  refine lv_iload hx hb dM_write_31 (lv_at hl 3 rfl) ?_
  refine lv_iadd hx hb dM_write_33 ?_
  rw [nI_add]
  refine lv_sipush (v := 1000) hx hb dM_write_34 (by decide) ?_
  by_cases hg : a_n a k + j ≤ 1000
  · have hk1 : (c_write a (nI k) (nI j)) = 0 := by simp [c_write, dk_nI hk, ix_nI (show k < 2 ^ 31 by omega), show btw (nI j) 1 8 = true from bt_nI (b := 8) hj1 hj8 (by decide), ix_nI (show j < 2 ^ 31 by omega), hg]
    refine lv_icmp_le (tgt := 44) hx hb dM_write_37 (by decide) (fun _ => ?_) (fun hc => absurd (by rw [show (1000 : Int32) = nI 1000 from rfl, nI_leI (by omega) (by omega)]; omega) hc)
    refine lv_iconst (v := 0) hx hb dM_write_44 (by decide) ?_
    refine g_put F hK G hP hS (17) (by decide) rfl rfl iM tM tM_ok nM 0 (by decide) k2_196 rfl (ty := .int) (by decide +kernel) rfl rfl (Nat.le_of_ble_eq_true rfl) dM_write_45 (fun H locs hP hS => ?_)
    have hP := P_of hP (en_m_code _ _ _ _ _ _ _ _ _ _ _)
    obtain ⟨M, hP, hR, h00⟩ : ∃ M1 : Nat → Nat → Int32, va_P D cl (gw ad (en ad cI cZ cT cJ pi dr S M1 o) 25) H ∧ RepM M1 a ∧ M1 0 0 = nI 0 := ⟨_, hP, hR.num (by decide), rfl⟩
    refine lv_aload_n hx hb dM_write_48 rfl (lv_at hl 0 rfl) ?_
    refine g_get F hK hP (17) (by decide) rfl rfl iM 0 (by decide) k2_196 rfl dM_write_49 ?_
    rw [h00]
    refine lv_if_le (tgt := 57) hx hb dM_write_52 (by decide) (fun _ => ?_) (fun hc => absurd (show  nI 0 ≤ 0 by decide) hc)
    refine lv_iconst (v := 0) hx hb dM_write_57 (by decide) ?_
    refine lv_istore hx hb dM_write_58 hl (by decide) rfl (fun ls hl => ?_)
    have hl : lv_has ls 6 [(5, .int _), (0, .ref _), (1, .int _), (2, .long _), (4, .int _)] := hl
    have hR := hR.self (k := k) (g := (cat (a_b a k) (a_n a k) (byt v))) (fun i hi => by simp [cat, hi])
    refine W.loop (α := Nat × (Nat → Nat → Int32)) (fun t a1 ls H locs => a1.1 + t = j ∧ a1.2 0 0 = nI 0 ∧ RepM a1.2 (a_set a k (a_n a k + a1.1) (cat (a_b a k) (a_n a k) (byt v))) ∧ lv_has ls 6 [(5, .int (nI a1.1)), (0, .ref (ad 17)), (1, .int (nI k)), (2, .long v), (4, .int (nI j))] ∧ va_P D cl (gw ad (en ad cI cZ cT cJ pi dr S a1.2 o) 25) H ∧ va_S (gA base) s.heap H locs) ?_ (t := j) (a := (0, M)) ⟨by show 0 + j = j; omega, h00, hR, hl, hP, hS⟩
    clear hl hP hS
    intro t a1 ls H locs hI ih
    obtain ⟨u, M⟩ := a1
    obtain ⟨i0, i1, i2, hl, hP, hS⟩ := hI
    try dsimp only at i0 i1 i2 hl hP
    have h2 : M 2 k = nI (a_n a k + u) := by have := i2.1 k hk; rw [a_set_n, if_pos rfl] at this; exact this
    by_cases ht : t = 0
    · have hu : j = u := by omega
      subst hu
      refine lv_iload hx hb dM_write_60 (lv_at hl 0 rfl) ?_
      refine lv_iload hx hb dM_write_62 (lv_at hl 4 rfl) ?_
      refine lv_icmp_ge (tgt := 112) hx hb dM_write_64 (by decide) (fun _ => ?_) (fun hc => absurd (by rw [nI_leI (by omega) (by omega)]; omega) hc)
      refine lv_aload_n hx hb dM_write_112 rfl (lv_at hl 1 rfl) ?_
      refine g_get F hK hP (17) (by decide) rfl rfl iM 2 (by decide) k2_198 rfl dM_write_113 ?_
      refine lv_iload_n hx hb dM_write_116 rfl (lv_at hl 2 rfl) ?_
      refine g_iald F hK hP (19) (by decide) 0 rfl rfl (vp_in_nI hk (by omega)) dM_write_117 ?_
      rw [nI_clamp (show k < 2 ^ 31 by omega), h2]
      have h00 := i1
      exact W.iret hx hb hr (fun t ht hW => ⟨by rw [hk1, if_pos rfl]; simp [dk_nI hk, ix_nI (show k < 2 ^ 31 by omega), show btw (nI j) 1 8 = true from bt_nI (b := 8) hj1 hj8 (by decide), ix_nI (show j < 2 ^ 31 by omega), hg], ⟨_, ⟨M, rfl, by rw [hk1]; exact h00, by rw [hk1, if_pos rfl]; exact (by simpa [x_write, dk_nI hk, ix_nI (show k < 2 ^ 31 by omega), show btw (nI j) 1 8 = true from bt_nI (b := 8) hj1 hj8 (by decide), ix_nI (show j < 2 ^ 31 by omega), hg] using i2)⟩, by rw [ht]; exact hP⟩, hS.F ht⟩) hS.2.2 dM_write_118
    · refine lv_iload hx hb dM_write_60 (lv_at hl 0 rfl) ?_
      refine lv_iload hx hb dM_write_62 (lv_at hl 4 rfl) ?_
      refine lv_icmp_ge (tgt := 112) hx hb dM_write_64 (by decide) (fun hc => absurd hc (by rw [nI_leI (by omega) (by omega)]; omega)) (fun _ => ?_)
      refine lv_aload_n hx hb dM_write_67 rfl (lv_at hl 1 rfl) ?_
      refine g_get F hK hP (17) (by decide) rfl rfl iM 1 (by decide) k2_197 rfl dM_write_68 ?_
      refine lv_sipush (v := 1000) hx hb dM_write_71 (by decide) ?_
      refine lv_iload_n hx hb dM_write_74 rfl (lv_at hl 2 rfl) ?_
      refine lv_imul hx hb dM_write_75 ?_
      refine lv_aload_n hx hb dM_write_76 rfl (lv_at hl 1 rfl) ?_
      refine g_get F hK hP (17) (by decide) rfl rfl iM 2 (by decide) k2_198 rfl dM_write_77 ?_
      refine lv_iload_n hx hb dM_write_80 rfl (lv_at hl 2 rfl) ?_
      refine g_iald F hK hP (19) (by decide) 0 rfl rfl (vp_in_nI hk (by omega)) dM_write_81 ?_
      rw [nI_clamp (show k < 2 ^ 31 by omega), h2]
      refine lv_iadd hx hb dM_write_82 ?_
      rw [k_at]
      refine lv_lload_n hx hb dM_write_83 rfl (lv_at hl 3 rfl) ?_
      refine lv_bipush (v := 8) hx hb dM_write_84 (by decide) ?_
      refine lv_iload hx hb dM_write_86 (lv_at hl 0 rfl) ?_
      refine lv_imul hx hb dM_write_88 ?_
      rw [show (8 : Int32) * nI u = nI (8 * u) from pk_mul 8 u]
      refine lv_lshr hx hb dM_write_89 rfl ?_
      refine lv_ldc2 (v := 255) hx hb hown (hts _ k3_1) dM_write_90 ?_
      refine lv_land hx hb dM_write_93 ?_
      refine lv_l2i hx hb dM_write_94 rfl ?_
      rw [by_mod v (show u < 8 by omega)]
      refine g_iast F hK G hP hS (18) (by decide) 0 rfl rfl (vp_in_nI (show 1000 * k + (a_n a k + u) < 4000 by omega) (by omega)) dM_write_95 (fun H locs hP hS => ?_)
      rw [nI_clamp (show 1000 * k + (a_n a k + u) < 2 ^ 31 by omega)] at hP
      have hP := P_of hP (en_m_texts _ _ _ _ _ _ _ _ _ _ _)
      refine lv_aload_n hx hb dM_write_96 rfl (lv_at hl 1 rfl) ?_
      refine g_get F hK hP (17) (by decide) rfl rfl iM 2 (by decide) k2_198 rfl dM_write_97 ?_
      refine lv_iload_n hx hb dM_write_100 rfl (lv_at hl 2 rfl) ?_
      refine lv_dup2_11 hx hb dM_write_101 rfl rfl ?_
      refine g_iald F hK hP (19) (by decide) 0 rfl rfl (vp_in_nI hk (by omega)) dM_write_102 ?_
      rw [nI_clamp (show k < 2 ^ 31 by omega), sr_n (show (2 : Nat) ≠ 1 by decide), h2]
      refine lv_iconst (v := 1) hx hb dM_write_103 (by decide) ?_
      refine lv_iadd hx hb dM_write_104 ?_
      rw [nI_1]
      refine g_iast F hK G hP hS (19) (by decide) 0 rfl rfl (vp_in_nI hk (by omega)) dM_write_105 (fun H locs hP hS => ?_)
      rw [nI_clamp (show k < 2 ^ 31 by omega)] at hP
      have hP := P_of hP (en_m_sizes _ _ _ _ _ _ _ _ _ _ _)
      have hR1 : RepM (sr (sr M 1 (upd (M 1) (1000 * k + (a_n a k + u)) (nI (byt v u)))) 2 (upd (M 2) k (nI (a_n a k + u + 1)))) (a_set a k (a_n a k + (u + 1)) (cat (a_b a k) (a_n a k) (byt v))) := i2.addb ha (by omega) (by unfold cat; rw [if_neg (by omega)]; congr 1; omega)
      refine lv_iinc (k := 0) hx hb dM_write_106 hl rfl rfl (by decide) rfl (fun ls hl => ?_)
      have hl : lv_has ls 6 [(5, .int _), (0, .ref _), (1, .int _), (2, .long _), (4, .int _)] := hl
      refine lv_goto (tgt := 60) hx hb dM_write_109 (by decide) ?_
      have hl : lv_has ls 6 [(5, .int (nI (u + 1))), (0, .ref (ad 17)), (1, .int (nI k)), (2, .long v), (4, .int (nI j))] := by rw [← nI_1]; exact hl
      exact ih (t - 1) (u + 1, (sr (sr M 1 (upd (M 1) (1000 * k + (a_n a k + u)) (nI (byt v u)))) 2 (upd (M 2) k (nI (a_n a k + u + 1))))) _ _ _ (by omega) ⟨by show u + 1 + (t - 1) = j; omega, i1, hR1, hl, hP, hS⟩
  · have hk1 : (c_write a (nI k) (nI j)) = 2 := by simp [c_write, hg, dk_nI hk, ix_nI (show k < 2 ^ 31 by omega), show btw (nI j) 1 8 = true from bt_nI (b := 8) hj1 hj8 (by decide), ix_nI (show j < 2 ^ 31 by omega)]
    refine lv_icmp_le (tgt := 44) hx hb dM_write_37 (by decide) (fun hc => absurd hc (by rw [show (1000 : Int32) = nI 1000 from rfl, nI_leI (by omega) (by omega)]; omega)) (fun _ => ?_)
    refine lv_iconst (v := 2) hx hb dM_write_40 (by decide) ?_
    refine lv_goto (tgt := 45) hx hb dM_write_41 (by decide) ?_
    refine g_put F hK G hP hS (17) (by decide) rfl rfl iM tM tM_ok nM 0 (by decide) k2_196 rfl (ty := .int) (by decide +kernel) rfl rfl (Nat.le_of_ble_eq_true rfl) dM_write_45 (fun H locs hP hS => ?_)
    have hP := P_of hP (en_m_code _ _ _ _ _ _ _ _ _ _ _)
    obtain ⟨M, hP, hR, h00⟩ : ∃ M1 : Nat → Nat → Int32, va_P D cl (gw ad (en ad cI cZ cT cJ pi dr S M1 o) 25) H ∧ RepM M1 a ∧ M1 0 0 = nI 2 := ⟨_, hP, hR.num (by decide), rfl⟩
    refine lv_aload_n hx hb dM_write_48 rfl (lv_at hl 0 rfl) ?_
    refine g_get F hK hP (17) (by decide) rfl rfl iM 0 (by decide) k2_196 rfl dM_write_49 ?_
    rw [h00]
    refine lv_if_le (tgt := 57) hx hb dM_write_52 (by decide) (fun hc => absurd hc (show ¬ nI 2 ≤ 0 by decide)) (fun _ => ?_)
    refine lv_iconst (v := 0) hx hb dM_write_55 (by decide) ?_
    exact W.iret hx hb hr (fun t ht hW => ⟨by rw [hk1]; rfl, ⟨_, ⟨M, rfl, by rw [hk1]; exact h00, by rw [hk1]; exact hR⟩, by rw [ht]; exact hP⟩, hS.F ht⟩) hS.2.2 dM_write_56
set_option maxHeartbeats 4000000 in
set_option maxRecDepth 100000 in
theorem c_M_repeat (G : gGeo ad 25 base) (ha : a_ok a) (hR : RepM M a) (d f t n : Int32) : Met l yM_repeat (Cond.code yM_repeat bM_repeat 6 (some .int) :: tws) { frames := 1, cells := 0, slots := 0, locals := 24 } (gPc (tw D cI cZ cT cJ base) D cl ad 25 base (en ad cI cZ cT cJ pi dr S M o) [.ref (ad 17), .int d, .int f, .int t, .int n]) (gQc D cl ad 25 base (some (.int (if (c_repeat a d f t n) = 0 then (nI (a_n a (ix d) - (ix t - ix f) + ix n * (ix t - ix f))) else 0))) (fun e => ∃ M1 : Nat → Nat → Int32, e = en ad cI cZ cT cJ pi dr S M1 o ∧ M1 0 0 = nI (c_repeat a d f t n) ∧ RepM M1 (if (c_repeat a d f t n) = 0 then x_repeat a d f t n else a))) 0 0 (gA base) := by
  refine Met.ofW (cc := bM_repeat) (maxL := 6) (ret := (some .int)) (by decide) rfl ?_
  intro p e s m args below meth c s₁ B hml hv
  obtain ⟨rfl, htw, hB, hP⟩ := hv
  have hx := B.exec
  have hb := B.bytes
  have hr := B.returns
  have hts0 := atoms_spec (ws := Cond.code yM_repeat bM_repeat 6 (some .int) :: tws) B.pre
  have hts : ∀ w ∈ tws, w.before _ s = true := fun w h => hts0 w (List.mem_cons_of_mem _ h)
  have hown : s.vm.findClass "PairedTextsModel" = some m.cls := findClass_of_methodNamed B.named
  have hlocks := B.notSynchronized
  have hno := B.noHandlers (hts0 _ List.mem_cons_self)
  have F : CallFix p m c bM_repeat 6 s _ tws "PairedTextsModel" := ⟨hx, hb, hml, hown, hts⟩
  have hK := htw.1
  have hS : va_S (gA base) s.heap s.heap [] := va_S.rf
  have hl := lv_entry ([.ref (ad 17), .int d, .int f, .int t, .int n]) (n := 6) (Nat.le_of_ble_eq_true rfl)
  rw [lg_entry_eq]
  generalize (lg_sl ([.ref (ad 17), .int d, .int f, .int t, .int n]) ++ List.replicate (6 - (lg_sl ([.ref (ad 17), .int d, .int f, .int t, .int n])).length) Slot.unset).toArray = ls at hl ⊢
  have hl : lv_has ls 6 [(0, .ref (ad 17)), (1, .int d), (2, .int f), (3, .int t), (4, .int n)] := hl
  have z0 : (0 : Int32).toInt = 0 := rfl
  refine lv_aload_n hx hb dM_repeat_0 rfl (lv_at hl 0 rfl) ?_
  refine lv_iload_n hx hb dM_repeat_1 rfl (lv_at hl 1 rfl) ?_
  rcases dk_or d with hd | ⟨k, hk, rfl⟩
  · have hk1 : (c_repeat a d f t n) = 1 := by simp [c_repeat, hd.1]
    refine g_S (k := 1) F htw hB hS hP (c_M_isDocument d) k2_238 k2_239 k1_5 k3_0 (by decide +kernel) rfl rfl ⟨Nat.le_of_ble_eq_true rfl, Nat.le_of_ble_eq_true rfl⟩ rfl hl.1 rfl (Nat.le_of_ble_eq_true rfl) dM_repeat_2 ⟨Nat.le_of_ble_eq_true rfl, Nat.le_of_ble_eq_true rfl⟩ (fun en1 H locs he hP hS => ?_)
    obtain rfl := he
    refine lv_if_eq (tgt := 13) hx hb dM_repeat_5 (by decide) (fun _ => ?_) (fun hc => absurd (show (if dk d then (1 : Int32) else 0) = 0 by rw [hd.1]; rfl) hc)
    refine lv_iconst (v := 1) hx hb dM_repeat_13 (by decide) ?_
    refine lv_goto (tgt := 32) hx hb dM_repeat_14 (by decide) ?_
    refine g_put F hK G hP hS (17) (by decide) rfl rfl iM tM tM_ok nM 0 (by decide) k2_196 rfl (ty := .int) (by decide +kernel) rfl rfl (Nat.le_of_ble_eq_true rfl) dM_repeat_32 (fun H locs hP hS => ?_)
    have hP := P_of hP (en_m_code _ _ _ _ _ _ _ _ _ _ _)
    obtain ⟨M, hP, hR, h00⟩ : ∃ M1 : Nat → Nat → Int32, va_P D cl (gw ad (en ad cI cZ cT cJ pi dr S M1 o) 25) H ∧ RepM M1 a ∧ M1 0 0 = nI 1 := ⟨_, hP, hR.num (by decide), rfl⟩
    refine lv_aload_n hx hb dM_repeat_35 rfl (lv_at hl 0 rfl) ?_
    refine g_get F hK hP (17) (by decide) rfl rfl iM 0 (by decide) k2_196 rfl dM_repeat_36 ?_
    rw [h00]
    refine lv_if_ne (tgt := 72) hx hb dM_repeat_39 (by decide) (fun _ => ?_) (fun hc => absurd hc (show ¬ nI 1 = 0 by decide))
    refine lv_aload_n hx hb dM_repeat_72 rfl (lv_at hl 0 rfl) ?_
    refine g_get F hK hP (17) (by decide) rfl rfl iM 0 (by decide) k2_196 rfl dM_repeat_73 ?_
    rw [h00]
    refine lv_if_le (tgt := 81) hx hb dM_repeat_76 (by decide) (fun hc => absurd hc (show ¬ nI 1 ≤ 0 by decide)) (fun _ => ?_)
    refine lv_iconst (v := 0) hx hb dM_repeat_79 (by decide) ?_
    exact W.iret hx hb hr (fun t ht hW => ⟨by rw [hk1]; rfl, ⟨_, ⟨M, rfl, by rw [hk1]; exact h00, by rw [hk1]; exact hR⟩, by rw [ht]; exact hP⟩, hS.F ht⟩) hS.2.2 dM_repeat_80
  refine g_S (k := 1) F htw hB hS hP (c_M_isDocument (nI k)) k2_238 k2_239 k1_5 k3_0 (by decide +kernel) rfl rfl ⟨Nat.le_of_ble_eq_true rfl, Nat.le_of_ble_eq_true rfl⟩ rfl hl.1 rfl (Nat.le_of_ble_eq_true rfl) dM_repeat_2 ⟨Nat.le_of_ble_eq_true rfl, Nat.le_of_ble_eq_true rfl⟩ (fun en1 H locs he hP hS => ?_)
  obtain rfl := he
  refine lv_if_eq (tgt := 13) hx hb dM_repeat_5 (by decide) (fun hc => absurd hc (show ¬ (if dk (nI k) then (1 : Int32) else 0) = 0 by rw [dk_nI hk]; decide)) (fun _ => ?_)
  have hn_k := ha.1 k hk
  refine lv_iload hx hb dM_repeat_8 (lv_at hl 4 rfl) ?_
  rcases nn_or n with hg | ⟨j, hj, rfl⟩
  · have hk1 : (c_repeat a (nI k) f t n) = 1 := by simp [c_repeat, dk_nI hk, ix_nI (show k < 2 ^ 31 by omega), hg.1]
    refine lv_if_ge (tgt := 17) hx hb dM_repeat_10 (by decide) (fun hc => absurd hc (by simp only [Int32.lt_iff_toInt_lt, Int32.le_iff_toInt_le]; omega)) (fun _ => ?_)
    refine lv_iconst (v := 1) hx hb dM_repeat_13 (by decide) ?_
    refine lv_goto (tgt := 32) hx hb dM_repeat_14 (by decide) ?_
    refine g_put F hK G hP hS (17) (by decide) rfl rfl iM tM tM_ok nM 0 (by decide) k2_196 rfl (ty := .int) (by decide +kernel) rfl rfl (Nat.le_of_ble_eq_true rfl) dM_repeat_32 (fun H locs hP hS => ?_)
    have hP := P_of hP (en_m_code _ _ _ _ _ _ _ _ _ _ _)
    obtain ⟨M, hP, hR, h00⟩ : ∃ M1 : Nat → Nat → Int32, va_P D cl (gw ad (en ad cI cZ cT cJ pi dr S M1 o) 25) H ∧ RepM M1 a ∧ M1 0 0 = nI 1 := ⟨_, hP, hR.num (by decide), rfl⟩
    refine lv_aload_n hx hb dM_repeat_35 rfl (lv_at hl 0 rfl) ?_
    refine g_get F hK hP (17) (by decide) rfl rfl iM 0 (by decide) k2_196 rfl dM_repeat_36 ?_
    rw [h00]
    refine lv_if_ne (tgt := 72) hx hb dM_repeat_39 (by decide) (fun _ => ?_) (fun hc => absurd hc (show ¬ nI 1 = 0 by decide))
    refine lv_aload_n hx hb dM_repeat_72 rfl (lv_at hl 0 rfl) ?_
    refine g_get F hK hP (17) (by decide) rfl rfl iM 0 (by decide) k2_196 rfl dM_repeat_73 ?_
    rw [h00]
    refine lv_if_le (tgt := 81) hx hb dM_repeat_76 (by decide) (fun hc => absurd hc (show ¬ nI 1 ≤ 0 by decide)) (fun _ => ?_)
    refine lv_iconst (v := 0) hx hb dM_repeat_79 (by decide) ?_
    exact W.iret hx hb hr (fun t ht hW => ⟨by rw [hk1]; rfl, ⟨_, ⟨M, rfl, by rw [hk1]; exact h00, by rw [hk1]; exact hR⟩, by rw [ht]; exact hP⟩, hS.F ht⟩) hS.2.2 dM_repeat_80
  have zj := nI_toInt hj
  refine lv_if_ge (tgt := 17) hx hb dM_repeat_10 (by decide) (fun _ => ?_) (fun hc => absurd (by simp only [Int32.lt_iff_toInt_lt, Int32.le_iff_toInt_le]; omega) hc)
  refine lv_aload_n hx hb dM_repeat_17 rfl (lv_at hl 0 rfl) ?_
  refine lv_iload_n hx hb dM_repeat_18 rfl (lv_at hl 1 rfl) ?_
  refine lv_iload_n hx hb dM_repeat_19 rfl (lv_at hl 2 rfl) ?_
  refine lv_iload_n hx hb dM_repeat_20 rfl (lv_at hl 3 rfl) ?_
  rcases rg_or f t hn_k with hgr | ⟨f1, t1, hft, htn, rfl, rfl⟩
  · have hk1 : (c_repeat a (nI k) f t (nI j)) = 2 := by simp [c_repeat, dk_nI hk, ix_nI (show k < 2 ^ 31 by omega), nn_nI hj, ix_nI hj, hgr]
    refine g_V (k := 3) F htw hB hS hP (17) (by decide) rfl rfl (c_M_isRange hk hn_k (hR.1 k hk) f t) k3_14 k3_16 k0_4 k1_5 k3_17 (by decide +kernel) rfl rfl ⟨Nat.le_of_ble_eq_true rfl, Nat.le_of_ble_eq_true rfl⟩ rfl hl.1 rfl (Nat.le_of_ble_eq_true rfl) dM_repeat_21 ⟨Nat.le_of_ble_eq_true rfl, Nat.le_of_ble_eq_true rfl⟩ (fun en1 H locs he hP hS => ?_)
    obtain rfl := he
    refine lv_if_ne (tgt := 31) hx hb dM_repeat_24 (by decide) (fun hc => absurd (show (if rg f t (a_n a k) then (1 : Int32) else 0) = 0 by rw [hgr]; rfl) hc) (fun _ => ?_)
    refine lv_iconst (v := 2) hx hb dM_repeat_27 (by decide) ?_
    refine lv_goto (tgt := 32) hx hb dM_repeat_28 (by decide) ?_
    refine g_put F hK G hP hS (17) (by decide) rfl rfl iM tM tM_ok nM 0 (by decide) k2_196 rfl (ty := .int) (by decide +kernel) rfl rfl (Nat.le_of_ble_eq_true rfl) dM_repeat_32 (fun H locs hP hS => ?_)
    have hP := P_of hP (en_m_code _ _ _ _ _ _ _ _ _ _ _)
    obtain ⟨M, hP, hR, h00⟩ : ∃ M1 : Nat → Nat → Int32, va_P D cl (gw ad (en ad cI cZ cT cJ pi dr S M1 o) 25) H ∧ RepM M1 a ∧ M1 0 0 = nI 2 := ⟨_, hP, hR.num (by decide), rfl⟩
    refine lv_aload_n hx hb dM_repeat_35 rfl (lv_at hl 0 rfl) ?_
    refine g_get F hK hP (17) (by decide) rfl rfl iM 0 (by decide) k2_196 rfl dM_repeat_36 ?_
    rw [h00]
    refine lv_if_ne (tgt := 72) hx hb dM_repeat_39 (by decide) (fun _ => ?_) (fun hc => absurd hc (show ¬ nI 2 = 0 by decide))
    refine lv_aload_n hx hb dM_repeat_72 rfl (lv_at hl 0 rfl) ?_
    refine g_get F hK hP (17) (by decide) rfl rfl iM 0 (by decide) k2_196 rfl dM_repeat_73 ?_
    rw [h00]
    refine lv_if_le (tgt := 81) hx hb dM_repeat_76 (by decide) (fun hc => absurd hc (show ¬ nI 2 ≤ 0 by decide)) (fun _ => ?_)
    refine lv_iconst (v := 0) hx hb dM_repeat_79 (by decide) ?_
    exact W.iret hx hb hr (fun t ht hW => ⟨by rw [hk1]; rfl, ⟨_, ⟨M, rfl, by rw [hk1]; exact h00, by rw [hk1]; exact hR⟩, by rw [ht]; exact hP⟩, hS.F ht⟩) hS.2.2 dM_repeat_80
  refine g_V (k := 3) F htw hB hS hP (17) (by decide) rfl rfl (c_M_isRange hk hn_k (hR.1 k hk) (nI f1) (nI t1)) k3_14 k3_16 k0_4 k1_5 k3_17 (by decide +kernel) rfl rfl ⟨Nat.le_of_ble_eq_true rfl, Nat.le_of_ble_eq_true rfl⟩ rfl hl.1 rfl (Nat.le_of_ble_eq_true rfl) dM_repeat_21 ⟨Nat.le_of_ble_eq_true rfl, Nat.le_of_ble_eq_true rfl⟩ (fun en1 H locs he hP hS => ?_)
  obtain rfl := he
  refine lv_if_ne (tgt := 31) hx hb dM_repeat_24 (by decide) (fun _ => ?_) (fun hc => absurd hc (show ¬ (if rg (nI f1) (nI t1) (a_n a k) then (1 : Int32) else 0) = 0 by rw [rg_nI hft htn hn_k]; decide))
  refine lv_iconst (v := 0) hx hb dM_repeat_31 (by decide) ?_
  refine g_put F hK G hP hS (17) (by decide) rfl rfl iM tM tM_ok nM 0 (by decide) k2_196 rfl (ty := .int) (by decide +kernel) rfl rfl (Nat.le_of_ble_eq_true rfl) dM_repeat_32 (fun H locs hP hS => ?_)
  have hP := P_of hP (en_m_code _ _ _ _ _ _ _ _ _ _ _)
  obtain ⟨M, hP, hR, h00⟩ : ∃ M1 : Nat → Nat → Int32, va_P D cl (gw ad (en ad cI cZ cT cJ pi dr S M1 o) 25) H ∧ RepM M1 a ∧ M1 0 0 = nI 0 := ⟨_, hP, hR.num (by decide), rfl⟩
  refine lv_aload_n hx hb dM_repeat_35 rfl (lv_at hl 0 rfl) ?_
  refine g_get F hK hP (17) (by decide) rfl rfl iM 0 (by decide) k2_196 rfl dM_repeat_36 ?_
  rw [h00]
  refine lv_if_ne (tgt := 72) hx hb dM_repeat_39 (by decide) (fun hc => absurd (show  nI 0 = 0 by decide) hc) (fun _ => ?_)
  refine lv_aload_n hx hb dM_repeat_42 rfl (lv_at hl 0 rfl) ?_
  refine g_get F hK hP (17) (by decide) rfl rfl iM 2 (by decide) k2_198 rfl dM_repeat_43 ?_
  refine lv_iload_n hx hb dM_repeat_46 rfl (lv_at hl 1 rfl) ?_
  refine g_iald F hK hP (19) (by decide) 0 rfl rfl (vp_in_nI hk (by omega)) dM_repeat_47 ?_
  rw [nI_clamp (show k < 2 ^ 31 by omega), hR.1 k hk]
  refine lv_i2l hx hb dM_repeat_48 rfl ?_
  rw [nI_l (show a_n a k < 2 ^ 31 by omega)]
  refine lv_iload hx hb dM_repeat_49 (lv_at hl 4 rfl) ?_
  refine lv_i2l hx hb dM_repeat_51 rfl ?_
  rw [nI_l hj]
  refine lv_lconst (v := 1) hx hb dM_repeat_52 (by decide) ?_
  refine lv_lsub hx hb dM_repeat_53 ?_
  refine lv_iload_n hx hb dM_repeat_54 rfl (lv_at hl 3 rfl) ?_
  refine lv_iload_n hx hb dM_repeat_55 rfl (lv_at hl 2 rfl) ?_
  refine lv_isub hx hb dM_repeat_56 ?_
  rw [pk_sub hft]
  refine lv_i2l hx hb dM_repeat_57 rfl ?_
  rw [nI_l (show t1 - f1 < 2 ^ 31 by omega)]
  refine lv_lmul hx hb dM_repeat_58 ?_
  refine lv_ladd hx hb dM_repeat_59 ?_
  rw [l_rep (show t1 - f1 ≤ a_n a k by omega)]
  have hjw : j * (t1 - f1) ≤ 2147483648 * 1000 := Nat.mul_le_mul (by omega) (by omega)
  refine lv_ldc2 (v := 1000) hx hb hown (hts _ k3_50) dM_repeat_60 ?_
  refine W.lcmp hx hb dM_repeat_63 ?_
  by_cases hg : a_n a k - (t1 - f1) + j * (t1 - f1) ≤ 1000
  · have hk1 : (c_repeat a (nI k) (nI f1) (nI t1) (nI j)) = 0 := by simp [c_repeat, dk_nI hk, ix_nI (show k < 2 ^ 31 by omega), nn_nI hj, ix_nI hj, rg_nI hft htn hn_k, ix_nI (show f1 < 2 ^ 31 by omega), ix_nI (show t1 < 2 ^ 31 by omega), hg]
    refine lv_if_le (tgt := 72) hx hb dM_repeat_64 (by decide) (fun _ => ?_) (fun hc => absurd (by rw [lg_cmp_le, show (1000 : Int64) = lN 1000 from rfl, pk_lLE (by omega) (by decide)]; omega) hc)
    refine lv_aload_n hx hb dM_repeat_72 rfl (lv_at hl 0 rfl) ?_
    refine g_get F hK hP (17) (by decide) rfl rfl iM 0 (by decide) k2_196 rfl dM_repeat_73 ?_
    rw [h00]
    refine lv_if_le (tgt := 81) hx hb dM_repeat_76 (by decide) (fun _ => ?_) (fun hc => absurd (show  nI 0 ≤ 0 by decide) hc)
    refine lv_aload_n hx hb dM_repeat_81 rfl (lv_at hl 0 rfl) ?_
    refine lv_iconst (v := 0) hx hb dM_repeat_82 (by decide) ?_
    refine g_put F hK G hP hS (17) (by decide) rfl rfl iM tM tM_ok nM 4 (by decide) k2_200 rfl (ty := .int) (by decide +kernel) rfl rfl (Nat.le_of_ble_eq_true rfl) dM_repeat_83 (fun H locs hP hS => ?_)
    have hP := P_of hP (en_m_drafted _ _ _ _ _ _ _ _ _ _ _)
    obtain ⟨M, hP, hR, h00, hD⟩ : ∃ M1 : Nat → Nat → Int32, va_P D cl (gw ad (en ad cI cZ cT cJ pi dr S M1 o) 25) H ∧ RepM M1 a ∧ M1 0 0 = nI 0 ∧ RepDM M1 0 (fun _ => 0) := ⟨_, hP, hR.num (by decide), h00, rfl, fun i hi => absurd hi (Nat.not_lt_zero _)⟩
    refine lv_aload_n hx hb dM_repeat_86 rfl (lv_at hl 0 rfl) ?_
    refine lv_iload_n hx hb dM_repeat_87 rfl (lv_at hl 1 rfl) ?_
    refine lv_iconst (v := 0) hx hb dM_repeat_88 (by decide) ?_
    refine lv_iload_n hx hb dM_repeat_89 rfl (lv_at hl 2 rfl) ?_
    rw [show (0 : Int32) = nI 0 from rfl]
    refine g_V (k := 3) F htw hB hS hP (17) (by decide) rfl rfl (c_M_add G ha hR h00 hD hk (by omega) (by omega) (by omega)) k3_18 k3_20 k0_5 k1_5 k3_21 (by decide +kernel) rfl rfl ⟨Nat.le_of_ble_eq_true rfl, Nat.le_of_ble_eq_true rfl⟩ rfl hl.1 rfl (Nat.le_of_ble_eq_true rfl) dM_repeat_90 ⟨Nat.le_of_ble_eq_true rfl, Nat.le_of_ble_eq_true rfl⟩ (fun en1 H locs he hP hS => ?_)
    obtain ⟨M, rfl, h00, hR, hD⟩ := he
    refine lv_iconst (v := 0) hx hb dM_repeat_93 (by decide) ?_
    refine lv_istore hx hb dM_repeat_94 hl (by decide) rfl (fun ls hl => ?_)
    have hl : lv_has ls 6 [(5, .int _), (0, .ref _), (1, .int _), (2, .int _), (3, .int _), (4, .int _)] := hl
    have hD := hD.to (k' := f1 + 0 * (t1 - f1)) (g' := rep (a_b a k) f1 (t1 - f1) 0) (by omega) (fun i hi => by simp [cat, rep])
    by_cases hft2 : f1 = t1
    · have hw0 : 0 * (t1 - f1) = j * (t1 - f1) := by rw [hft2]; simp
      refine lv_iload hx hb dM_repeat_96 (lv_at hl 0 rfl) ?_
      refine lv_iload hx hb dM_repeat_98 (lv_at hl 5 rfl) ?_
      refine lv_icmp_ge (tgt := 121) hx hb dM_repeat_100 (by decide) (fun hc => ?_) (fun hc => ?_)
      · refine lv_aload_n hx hb dM_repeat_121 rfl (lv_at hl 1 rfl) ?_
        refine lv_iload_n hx hb dM_repeat_122 rfl (lv_at hl 2 rfl) ?_
        refine lv_iload_n hx hb dM_repeat_123 rfl (lv_at hl 4 rfl) ?_
        refine lv_aload_n hx hb dM_repeat_124 rfl (lv_at hl 1 rfl) ?_
        refine g_get F hK hP (17) (by decide) rfl rfl iM 2 (by decide) k2_198 rfl dM_repeat_125 ?_
        refine lv_iload_n hx hb dM_repeat_128 rfl (lv_at hl 2 rfl) ?_
        refine g_iald F hK hP (19) (by decide) 0 rfl rfl (vp_in_nI hk (by omega)) dM_repeat_129 ?_
        rw [nI_clamp (show k < 2 ^ 31 by omega), hR.1 k hk]
        refine g_V (k := 3) F htw hB hS hP (17) (by decide) rfl rfl (c_M_add G ha hR h00 hD hk (by omega) (by omega) (by omega)) k3_18 k3_20 k0_5 k1_5 k3_21 (by decide +kernel) rfl rfl ⟨Nat.le_of_ble_eq_true rfl, Nat.le_of_ble_eq_true rfl⟩ rfl hl.1 rfl (Nat.le_of_ble_eq_true rfl) dM_repeat_130 ⟨Nat.le_of_ble_eq_true rfl, Nat.le_of_ble_eq_true rfl⟩ (fun en1 H locs he hP hS => ?_)
        obtain ⟨M, rfl, h00, hR, hD⟩ := he
        refine lv_aload_n hx hb dM_repeat_133 rfl (lv_at hl 1 rfl) ?_
        refine lv_iload_n hx hb dM_repeat_134 rfl (lv_at hl 2 rfl) ?_
        refine g_V (k := 1) F htw hB hS hP (17) (by decide) rfl rfl (c_M_become G ha hR h00 hD hk (by omega)) k3_22 k3_24 k0_6 k1_5 k3_25 (by decide +kernel) rfl rfl ⟨Nat.le_of_ble_eq_true rfl, Nat.le_of_ble_eq_true rfl⟩ rfl hl.1 rfl (Nat.le_of_ble_eq_true rfl) dM_repeat_135 ⟨Nat.le_of_ble_eq_true rfl, Nat.le_of_ble_eq_true rfl⟩ (fun en1 H locs he hP hS => ?_)
        obtain ⟨M, rfl, h00, hR⟩ := he
        have hR := hR.to (k' := a_n a k - (t1 - f1) + j * (t1 - f1)) (g' := cat (rep (a_b a k) f1 (t1 - f1) (if nI f1 = nI t1 then 0 else j)) (f1 + j * (t1 - f1)) (fun i => a_b a k (t1 + i))) (by rw [hw0]; omega) (fun i hi => by rw [hw0]; congr 2; simp only [nI_eq (show f1 < 2 ^ 31 by omega) (show t1 < 2 ^ 31 by omega)]; rw [if_pos hft2])
        rw [hw0, show f1 + j * (t1 - f1) + (a_n a k - t1) = a_n a k - (t1 - f1) + j * (t1 - f1) by omega]
        exact W.iret hx hb hr (fun t ht hW => ⟨by rw [hk1, if_pos rfl]; simp [dk_nI hk, ix_nI (show k < 2 ^ 31 by omega), nn_nI hj, ix_nI hj, rg_nI hft htn hn_k, ix_nI (show f1 < 2 ^ 31 by omega), ix_nI (show t1 < 2 ^ 31 by omega), hg], ⟨_, ⟨M, rfl, by rw [hk1]; exact h00, by rw [hk1, if_pos rfl]; exact (by simpa [x_repeat, dk_nI hk, ix_nI (show k < 2 ^ 31 by omega), nn_nI hj, ix_nI hj, rg_nI hft htn hn_k, ix_nI (show f1 < 2 ^ 31 by omega), ix_nI (show t1 < 2 ^ 31 by omega), hg] using hR)⟩, by rw [ht]; exact hP⟩, hS.F ht⟩) hS.2.2 dM_repeat_138
      · refine lv_iload_n hx hb dM_repeat_103 rfl (lv_at hl 3 rfl) ?_
        refine lv_iload_n hx hb dM_repeat_104 rfl (lv_at hl 4 rfl) ?_
        refine lv_icmp_ge (tgt := 121) hx hb dM_repeat_105 (by decide) (fun _ => ?_) (fun hc => absurd (by rw [nI_leI (by omega) (by omega)]; omega) hc)
        refine lv_aload_n hx hb dM_repeat_121 rfl (lv_at hl 1 rfl) ?_
        refine lv_iload_n hx hb dM_repeat_122 rfl (lv_at hl 2 rfl) ?_
        refine lv_iload_n hx hb dM_repeat_123 rfl (lv_at hl 4 rfl) ?_
        refine lv_aload_n hx hb dM_repeat_124 rfl (lv_at hl 1 rfl) ?_
        refine g_get F hK hP (17) (by decide) rfl rfl iM 2 (by decide) k2_198 rfl dM_repeat_125 ?_
        refine lv_iload_n hx hb dM_repeat_128 rfl (lv_at hl 2 rfl) ?_
        refine g_iald F hK hP (19) (by decide) 0 rfl rfl (vp_in_nI hk (by omega)) dM_repeat_129 ?_
        rw [nI_clamp (show k < 2 ^ 31 by omega), hR.1 k hk]
        refine g_V (k := 3) F htw hB hS hP (17) (by decide) rfl rfl (c_M_add G ha hR h00 hD hk (by omega) (by omega) (by omega)) k3_18 k3_20 k0_5 k1_5 k3_21 (by decide +kernel) rfl rfl ⟨Nat.le_of_ble_eq_true rfl, Nat.le_of_ble_eq_true rfl⟩ rfl hl.1 rfl (Nat.le_of_ble_eq_true rfl) dM_repeat_130 ⟨Nat.le_of_ble_eq_true rfl, Nat.le_of_ble_eq_true rfl⟩ (fun en1 H locs he hP hS => ?_)
        obtain ⟨M, rfl, h00, hR, hD⟩ := he
        refine lv_aload_n hx hb dM_repeat_133 rfl (lv_at hl 1 rfl) ?_
        refine lv_iload_n hx hb dM_repeat_134 rfl (lv_at hl 2 rfl) ?_
        refine g_V (k := 1) F htw hB hS hP (17) (by decide) rfl rfl (c_M_become G ha hR h00 hD hk (by omega)) k3_22 k3_24 k0_6 k1_5 k3_25 (by decide +kernel) rfl rfl ⟨Nat.le_of_ble_eq_true rfl, Nat.le_of_ble_eq_true rfl⟩ rfl hl.1 rfl (Nat.le_of_ble_eq_true rfl) dM_repeat_135 ⟨Nat.le_of_ble_eq_true rfl, Nat.le_of_ble_eq_true rfl⟩ (fun en1 H locs he hP hS => ?_)
        obtain ⟨M, rfl, h00, hR⟩ := he
        have hR := hR.to (k' := a_n a k - (t1 - f1) + j * (t1 - f1)) (g' := cat (rep (a_b a k) f1 (t1 - f1) (if nI f1 = nI t1 then 0 else j)) (f1 + j * (t1 - f1)) (fun i => a_b a k (t1 + i))) (by rw [hw0]; omega) (fun i hi => by rw [hw0]; congr 2; simp only [nI_eq (show f1 < 2 ^ 31 by omega) (show t1 < 2 ^ 31 by omega)]; rw [if_pos hft2])
        rw [hw0, show f1 + j * (t1 - f1) + (a_n a k - t1) = a_n a k - (t1 - f1) + j * (t1 - f1) by omega]
        exact W.iret hx hb hr (fun t ht hW => ⟨by rw [hk1, if_pos rfl]; simp [dk_nI hk, ix_nI (show k < 2 ^ 31 by omega), nn_nI hj, ix_nI hj, rg_nI hft htn hn_k, ix_nI (show f1 < 2 ^ 31 by omega), ix_nI (show t1 < 2 ^ 31 by omega), hg], ⟨_, ⟨M, rfl, by rw [hk1]; exact h00, by rw [hk1, if_pos rfl]; exact (by simpa [x_repeat, dk_nI hk, ix_nI (show k < 2 ^ 31 by omega), nn_nI hj, ix_nI hj, rg_nI hft htn hn_k, ix_nI (show f1 < 2 ^ 31 by omega), ix_nI (show t1 < 2 ^ 31 by omega), hg] using hR)⟩, by rw [ht]; exact hP⟩, hS.F ht⟩) hS.2.2 dM_repeat_138
    · refine W.loop (α := Nat × (Nat → Nat → Int32)) (fun t a1 ls H locs => a1.1 + t = j ∧ a1.2 0 0 = nI 0 ∧ RepM a1.2 a ∧ RepDM a1.2 (f1 + a1.1 * (t1 - f1)) (rep (a_b a k) f1 (t1 - f1) a1.1) ∧ lv_has ls 6 [(5, .int (nI a1.1)), (0, .ref (ad 17)), (1, .int (nI k)), (2, .int (nI f1)), (3, .int (nI t1)), (4, .int (nI j))] ∧ va_P D cl (gw ad (en ad cI cZ cT cJ pi dr S a1.2 o) 25) H ∧ va_S (gA base) s.heap H locs) ?_ (t := j) (a := (0, M)) ⟨by show 0 + j = j; omega, h00, hR, hD, hl, hP, hS⟩
      clear hl hP hS
      intro t a1 ls H locs hI ih
      obtain ⟨u, M⟩ := a1
      obtain ⟨i0, i1, i2, i3, hl, hP, hS⟩ := hI
      try dsimp only at i0 i1 i2 i3 hl hP
      have h00 := i1
      have hR := i2
      have hD := i3
      by_cases ht : t = 0
      · have hu : j = u := by omega
        subst hu
        refine lv_iload hx hb dM_repeat_96 (lv_at hl 0 rfl) ?_
        refine lv_iload hx hb dM_repeat_98 (lv_at hl 5 rfl) ?_
        refine lv_icmp_ge (tgt := 121) hx hb dM_repeat_100 (by decide) (fun _ => ?_) (fun hc => absurd (by rw [nI_leI (by omega) (by omega)]; omega) hc)
        refine lv_aload_n hx hb dM_repeat_121 rfl (lv_at hl 1 rfl) ?_
        refine lv_iload_n hx hb dM_repeat_122 rfl (lv_at hl 2 rfl) ?_
        refine lv_iload_n hx hb dM_repeat_123 rfl (lv_at hl 4 rfl) ?_
        refine lv_aload_n hx hb dM_repeat_124 rfl (lv_at hl 1 rfl) ?_
        refine g_get F hK hP (17) (by decide) rfl rfl iM 2 (by decide) k2_198 rfl dM_repeat_125 ?_
        refine lv_iload_n hx hb dM_repeat_128 rfl (lv_at hl 2 rfl) ?_
        refine g_iald F hK hP (19) (by decide) 0 rfl rfl (vp_in_nI hk (by omega)) dM_repeat_129 ?_
        rw [nI_clamp (show k < 2 ^ 31 by omega), hR.1 k hk]
        refine g_V (k := 3) F htw hB hS hP (17) (by decide) rfl rfl (c_M_add G ha hR h00 hD hk (by omega) (by omega) (by omega)) k3_18 k3_20 k0_5 k1_5 k3_21 (by decide +kernel) rfl rfl ⟨Nat.le_of_ble_eq_true rfl, Nat.le_of_ble_eq_true rfl⟩ rfl hl.1 rfl (Nat.le_of_ble_eq_true rfl) dM_repeat_130 ⟨Nat.le_of_ble_eq_true rfl, Nat.le_of_ble_eq_true rfl⟩ (fun en1 H locs he hP hS => ?_)
        obtain ⟨M, rfl, h00, hR, hD⟩ := he
        refine lv_aload_n hx hb dM_repeat_133 rfl (lv_at hl 1 rfl) ?_
        refine lv_iload_n hx hb dM_repeat_134 rfl (lv_at hl 2 rfl) ?_
        refine g_V (k := 1) F htw hB hS hP (17) (by decide) rfl rfl (c_M_become G ha hR h00 hD hk (by omega)) k3_22 k3_24 k0_6 k1_5 k3_25 (by decide +kernel) rfl rfl ⟨Nat.le_of_ble_eq_true rfl, Nat.le_of_ble_eq_true rfl⟩ rfl hl.1 rfl (Nat.le_of_ble_eq_true rfl) dM_repeat_135 ⟨Nat.le_of_ble_eq_true rfl, Nat.le_of_ble_eq_true rfl⟩ (fun en1 H locs he hP hS => ?_)
        obtain ⟨M, rfl, h00, hR⟩ := he
        have hR := hR.to (k' := a_n a k - (t1 - f1) + j * (t1 - f1)) (g' := cat (rep (a_b a k) f1 (t1 - f1) (if nI f1 = nI t1 then 0 else j)) (f1 + j * (t1 - f1)) (fun i => a_b a k (t1 + i))) (by omega) (fun i hi => by congr 2; simp only [nI_eq (show f1 < 2 ^ 31 by omega) (show t1 < 2 ^ 31 by omega)]; rw [if_neg hft2])
        rw [show f1 + j * (t1 - f1) + (a_n a k - t1) = a_n a k - (t1 - f1) + j * (t1 - f1) by omega]
        exact W.iret hx hb hr (fun t ht hW => ⟨by rw [hk1, if_pos rfl]; simp [dk_nI hk, ix_nI (show k < 2 ^ 31 by omega), nn_nI hj, ix_nI hj, rg_nI hft htn hn_k, ix_nI (show f1 < 2 ^ 31 by omega), ix_nI (show t1 < 2 ^ 31 by omega), hg], ⟨_, ⟨M, rfl, by rw [hk1]; exact h00, by rw [hk1, if_pos rfl]; exact (by simpa [x_repeat, dk_nI hk, ix_nI (show k < 2 ^ 31 by omega), nn_nI hj, ix_nI hj, rg_nI hft htn hn_k, ix_nI (show f1 < 2 ^ 31 by omega), ix_nI (show t1 < 2 ^ 31 by omega), hg] using hR)⟩, by rw [ht]; exact hP⟩, hS.F ht⟩) hS.2.2 dM_repeat_138
      · refine lv_iload hx hb dM_repeat_96 (lv_at hl 0 rfl) ?_
        refine lv_iload hx hb dM_repeat_98 (lv_at hl 5 rfl) ?_
        refine lv_icmp_ge (tgt := 121) hx hb dM_repeat_100 (by decide) (fun hc => absurd hc (by rw [nI_leI (by omega) (by omega)]; omega)) (fun _ => ?_)
        refine lv_iload_n hx hb dM_repeat_103 rfl (lv_at hl 3 rfl) ?_
        refine lv_iload_n hx hb dM_repeat_104 rfl (lv_at hl 4 rfl) ?_
        refine lv_icmp_ge (tgt := 121) hx hb dM_repeat_105 (by decide) (fun hc => absurd hc (by rw [nI_leI (by omega) (by omega)]; omega)) (fun _ => ?_)
        refine lv_aload_n hx hb dM_repeat_108 rfl (lv_at hl 1 rfl) ?_
        refine lv_iload_n hx hb dM_repeat_109 rfl (lv_at hl 2 rfl) ?_
        refine lv_iload_n hx hb dM_repeat_110 rfl (lv_at hl 3 rfl) ?_
        refine lv_iload_n hx hb dM_repeat_111 rfl (lv_at hl 4 rfl) ?_
        have hm1 : (u + 1) * (t1 - f1) ≤ j * (t1 - f1) := Nat.mul_le_mul (by omega) (Nat.le_refl _)
        have hm2 : (u + 1) * (t1 - f1) = u * (t1 - f1) + (t1 - f1) := Nat.succ_mul _ _
        refine g_V (k := 3) F htw hB hS hP (17) (by decide) rfl rfl (c_M_add G ha hR h00 hD hk (by omega) (by omega) (by omega)) k3_18 k3_20 k0_5 k1_5 k3_21 (by decide +kernel) rfl rfl ⟨Nat.le_of_ble_eq_true rfl, Nat.le_of_ble_eq_true rfl⟩ rfl hl.1 rfl (Nat.le_of_ble_eq_true rfl) dM_repeat_112 ⟨Nat.le_of_ble_eq_true rfl, Nat.le_of_ble_eq_true rfl⟩ (fun en1 H locs he hP hS => ?_)
        obtain ⟨M, rfl, h00, hR, hD⟩ := he
        refine lv_iinc (k := 0) hx hb dM_repeat_115 hl rfl rfl (by decide) rfl (fun ls hl => ?_)
        have hl : lv_has ls 6 [(5, .int _), (0, .ref _), (1, .int _), (2, .int _), (3, .int _), (4, .int _)] := hl
        refine lv_goto (tgt := 96) hx hb dM_repeat_118 (by decide) ?_
        have hD := hD.to (k' := f1 + (u + 1) * (t1 - f1)) (g' := rep (a_b a k) f1 (t1 - f1) (u + 1)) (by omega) (fun i hi => rfl)
        have hl : lv_has ls 6 [(5, .int (nI (u + 1))), (0, .ref (ad 17)), (1, .int (nI k)), (2, .int (nI f1)), (3, .int (nI t1)), (4, .int (nI j))] := by rw [← nI_1]; exact hl
        exact ih (t - 1) (u + 1, M) _ _ _ (by omega) ⟨by show u + 1 + (t - 1) = j; omega, h00, hR, hD, hl, hP, hS⟩
  · have hk1 : (c_repeat a (nI k) (nI f1) (nI t1) (nI j)) = 3 := by simp [c_repeat, hg, dk_nI hk, ix_nI (show k < 2 ^ 31 by omega), nn_nI hj, ix_nI hj, rg_nI hft htn hn_k, ix_nI (show f1 < 2 ^ 31 by omega), ix_nI (show t1 < 2 ^ 31 by omega)]
    refine lv_if_le (tgt := 72) hx hb dM_repeat_64 (by decide) (fun hc => absurd hc (by rw [lg_cmp_le, show (1000 : Int64) = lN 1000 from rfl, pk_lLE (by omega) (by decide)]; omega)) (fun _ => ?_)
    refine lv_aload_n hx hb dM_repeat_67 rfl (lv_at hl 0 rfl) ?_
    refine lv_iconst (v := 3) hx hb dM_repeat_68 (by decide) ?_
    refine g_put F hK G hP hS (17) (by decide) rfl rfl iM tM tM_ok nM 0 (by decide) k2_196 rfl (ty := .int) (by decide +kernel) rfl rfl (Nat.le_of_ble_eq_true rfl) dM_repeat_69 (fun H locs hP hS => ?_)
    have hP := P_of hP (en_m_code _ _ _ _ _ _ _ _ _ _ _)
    obtain ⟨M, hP, hR, h00⟩ : ∃ M1 : Nat → Nat → Int32, va_P D cl (gw ad (en ad cI cZ cT cJ pi dr S M1 o) 25) H ∧ RepM M1 a ∧ M1 0 0 = nI 3 := ⟨_, hP, hR.num (by decide), rfl⟩
    refine lv_aload_n hx hb dM_repeat_72 rfl (lv_at hl 0 rfl) ?_
    refine g_get F hK hP (17) (by decide) rfl rfl iM 0 (by decide) k2_196 rfl dM_repeat_73 ?_
    rw [h00]
    refine lv_if_le (tgt := 81) hx hb dM_repeat_76 (by decide) (fun hc => absurd hc (show ¬ nI 3 ≤ 0 by decide)) (fun _ => ?_)
    refine lv_iconst (v := 0) hx hb dM_repeat_79 (by decide) ?_
    exact W.iret hx hb hr (fun t ht hW => ⟨by rw [hk1]; rfl, ⟨_, ⟨M, rfl, by rw [hk1]; exact h00, by rw [hk1]; exact hR⟩, by rw [ht]; exact hP⟩, hS.F ht⟩) hS.2.2 dM_repeat_80
set_option maxHeartbeats 4000000 in
set_option maxRecDepth 100000 in
theorem c_M_same (G : gGeo ad 25 base) (ha : a_ok a) (hR : RepM M a) (d i d2 j n : Int32) : Met l yM_same (Cond.code yM_same bM_same 6 (some .boolean) :: tws) { frames := 1, cells := 0, slots := 0, locals := 25 } (gPc (tw D cI cZ cT cJ base) D cl ad 25 base (en ad cI cZ cT cJ pi dr S M o) [.ref (ad 17), .int d, .int i, .int d2, .int j, .int n]) (gQc D cl ad 25 base (some (.int (if (c_same a d i d2 j n) = 0 then (if ix n ≤ cpr a (ix d) (ix i) (ix d2) (ix j) then 1 else 0) else 0))) (fun e => ∃ M1 : Nat → Nat → Int32, e = en ad cI cZ cT cJ pi dr S M1 o ∧ M1 0 0 = nI (c_same a d i d2 j n) ∧ RepM M1 (if (c_same a d i d2 j n) = 0 then a else a))) 0 0 (gA base) := by
  refine Met.ofW (cc := bM_same) (maxL := 6) (ret := (some .boolean)) (by decide) rfl ?_
  intro p e s m args below meth c s₁ B hml hv
  obtain ⟨rfl, htw, hB, hP⟩ := hv
  have hx := B.exec
  have hb := B.bytes
  have hr := B.returns
  have hts0 := atoms_spec (ws := Cond.code yM_same bM_same 6 (some .boolean) :: tws) B.pre
  have hts : ∀ w ∈ tws, w.before _ s = true := fun w h => hts0 w (List.mem_cons_of_mem _ h)
  have hown : s.vm.findClass "PairedTextsModel" = some m.cls := findClass_of_methodNamed B.named
  have hlocks := B.notSynchronized
  have hno := B.noHandlers (hts0 _ List.mem_cons_self)
  have F : CallFix p m c bM_same 6 s _ tws "PairedTextsModel" := ⟨hx, hb, hml, hown, hts⟩
  have hK := htw.1
  have hS : va_S (gA base) s.heap s.heap [] := va_S.rf
  have hl := lv_entry ([.ref (ad 17), .int d, .int i, .int d2, .int j, .int n]) (n := 6) (Nat.le_of_ble_eq_true rfl)
  rw [lg_entry_eq]
  generalize (lg_sl ([.ref (ad 17), .int d, .int i, .int d2, .int j, .int n]) ++ List.replicate (6 - (lg_sl ([.ref (ad 17), .int d, .int i, .int d2, .int j, .int n])).length) Slot.unset).toArray = ls at hl ⊢
  have hl : lv_has ls 6 [(0, .ref (ad 17)), (1, .int d), (2, .int i), (3, .int d2), (4, .int j), (5, .int n)] := hl
  have z0 : (0 : Int32).toInt = 0 := rfl
  refine lv_aload_n hx hb dM_same_0 rfl (lv_at hl 0 rfl) ?_
  refine lv_iload_n hx hb dM_same_1 rfl (lv_at hl 1 rfl) ?_
  rcases dk_or d with hd | ⟨k, hk, rfl⟩
  · have hk1 : (c_same a d i d2 j n) = 1 := by simp [c_same, hd.1]
    refine g_S (k := 1) F htw hB hS hP (c_M_isDocument d) k2_238 k2_239 k1_5 k3_0 (by decide +kernel) rfl rfl ⟨Nat.le_of_ble_eq_true rfl, Nat.le_of_ble_eq_true rfl⟩ rfl hl.1 rfl (Nat.le_of_ble_eq_true rfl) dM_same_2 ⟨Nat.le_of_ble_eq_true rfl, Nat.le_of_ble_eq_true rfl⟩ (fun en1 H locs he hP hS => ?_)
    obtain rfl := he
    refine lv_if_eq (tgt := 20) hx hb dM_same_5 (by decide) (fun _ => ?_) (fun hc => absurd (show (if dk d then (1 : Int32) else 0) = 0 by rw [hd.1]; rfl) hc)
    refine lv_iconst (v := 1) hx hb dM_same_20 (by decide) ?_
    refine lv_goto (tgt := 25) hx hb dM_same_21 (by decide) ?_
    refine g_put F hK G hP hS (17) (by decide) rfl rfl iM tM tM_ok nM 0 (by decide) k2_196 rfl (ty := .int) (by decide +kernel) rfl rfl (Nat.le_of_ble_eq_true rfl) dM_same_25 (fun H locs hP hS => ?_)
    have hP := P_of hP (en_m_code _ _ _ _ _ _ _ _ _ _ _)
    obtain ⟨M, hP, hR, h00⟩ : ∃ M1 : Nat → Nat → Int32, va_P D cl (gw ad (en ad cI cZ cT cJ pi dr S M1 o) 25) H ∧ RepM M1 a ∧ M1 0 0 = nI 1 := ⟨_, hP, hR.num (by decide), rfl⟩
    refine lv_aload_n hx hb dM_same_28 rfl (lv_at hl 0 rfl) ?_
    refine g_get F hK hP (17) (by decide) rfl rfl iM 0 (by decide) k2_196 rfl dM_same_29 ?_
    rw [h00]
    refine lv_if_ne (tgt := 76) hx hb dM_same_32 (by decide) (fun _ => ?_) (fun hc => absurd hc (show ¬ nI 1 = 0 by decide))
    refine lv_aload_n hx hb dM_same_76 rfl (lv_at hl 0 rfl) ?_
    refine g_get F hK hP (17) (by decide) rfl rfl iM 0 (by decide) k2_196 rfl dM_same_77 ?_
    rw [h00]
    refine lv_if_ne (tgt := 101) hx hb dM_same_80 (by decide) (fun _ => ?_) (fun hc => absurd hc (show ¬ nI 1 = 0 by decide))
    refine lv_iconst (v := 0) hx hb dM_same_101 (by decide) ?_
    exact W.zret hx hb hr rfl (fun t ht hW => ⟨by rw [hk1]; rfl, ⟨_, ⟨M, rfl, by rw [hk1]; exact h00, by rw [hk1]; exact hR⟩, by rw [ht]; exact hP⟩, hS.F ht⟩) hS.2.2 dM_same_102
  refine g_S (k := 1) F htw hB hS hP (c_M_isDocument (nI k)) k2_238 k2_239 k1_5 k3_0 (by decide +kernel) rfl rfl ⟨Nat.le_of_ble_eq_true rfl, Nat.le_of_ble_eq_true rfl⟩ rfl hl.1 rfl (Nat.le_of_ble_eq_true rfl) dM_same_2 ⟨Nat.le_of_ble_eq_true rfl, Nat.le_of_ble_eq_true rfl⟩ (fun en1 H locs he hP hS => ?_)
  obtain rfl := he
  refine lv_if_eq (tgt := 20) hx hb dM_same_5 (by decide) (fun hc => absurd hc (show ¬ (if dk (nI k) then (1 : Int32) else 0) = 0 by rw [dk_nI hk]; decide)) (fun _ => ?_)
  have hn_k := ha.1 k hk
  refine lv_iload_n hx hb dM_same_8 rfl (lv_at hl 3 rfl) ?_
  rcases dk_or d2 with hd | ⟨g, hg, rfl⟩
  · have hk1 : (c_same a (nI k) i d2 j n) = 1 := by simp [c_same, dk_nI hk, ix_nI (show k < 2 ^ 31 by omega), hd.1]
    refine g_S (k := 1) F htw hB hS hP (c_M_isDocument d2) k2_238 k2_239 k1_5 k3_0 (by decide +kernel) rfl rfl ⟨Nat.le_of_ble_eq_true rfl, Nat.le_of_ble_eq_true rfl⟩ rfl hl.1 rfl (Nat.le_of_ble_eq_true rfl) dM_same_9 ⟨Nat.le_of_ble_eq_true rfl, Nat.le_of_ble_eq_true rfl⟩ (fun en1 H locs he hP hS => ?_)
    obtain rfl := he
    refine lv_if_eq (tgt := 20) hx hb dM_same_12 (by decide) (fun _ => ?_) (fun hc => absurd (show (if dk d2 then (1 : Int32) else 0) = 0 by rw [hd.1]; rfl) hc)
    refine lv_iconst (v := 1) hx hb dM_same_20 (by decide) ?_
    refine lv_goto (tgt := 25) hx hb dM_same_21 (by decide) ?_
    refine g_put F hK G hP hS (17) (by decide) rfl rfl iM tM tM_ok nM 0 (by decide) k2_196 rfl (ty := .int) (by decide +kernel) rfl rfl (Nat.le_of_ble_eq_true rfl) dM_same_25 (fun H locs hP hS => ?_)
    have hP := P_of hP (en_m_code _ _ _ _ _ _ _ _ _ _ _)
    obtain ⟨M, hP, hR, h00⟩ : ∃ M1 : Nat → Nat → Int32, va_P D cl (gw ad (en ad cI cZ cT cJ pi dr S M1 o) 25) H ∧ RepM M1 a ∧ M1 0 0 = nI 1 := ⟨_, hP, hR.num (by decide), rfl⟩
    refine lv_aload_n hx hb dM_same_28 rfl (lv_at hl 0 rfl) ?_
    refine g_get F hK hP (17) (by decide) rfl rfl iM 0 (by decide) k2_196 rfl dM_same_29 ?_
    rw [h00]
    refine lv_if_ne (tgt := 76) hx hb dM_same_32 (by decide) (fun _ => ?_) (fun hc => absurd hc (show ¬ nI 1 = 0 by decide))
    refine lv_aload_n hx hb dM_same_76 rfl (lv_at hl 0 rfl) ?_
    refine g_get F hK hP (17) (by decide) rfl rfl iM 0 (by decide) k2_196 rfl dM_same_77 ?_
    rw [h00]
    refine lv_if_ne (tgt := 101) hx hb dM_same_80 (by decide) (fun _ => ?_) (fun hc => absurd hc (show ¬ nI 1 = 0 by decide))
    refine lv_iconst (v := 0) hx hb dM_same_101 (by decide) ?_
    exact W.zret hx hb hr rfl (fun t ht hW => ⟨by rw [hk1]; rfl, ⟨_, ⟨M, rfl, by rw [hk1]; exact h00, by rw [hk1]; exact hR⟩, by rw [ht]; exact hP⟩, hS.F ht⟩) hS.2.2 dM_same_102
  refine g_S (k := 1) F htw hB hS hP (c_M_isDocument (nI g)) k2_238 k2_239 k1_5 k3_0 (by decide +kernel) rfl rfl ⟨Nat.le_of_ble_eq_true rfl, Nat.le_of_ble_eq_true rfl⟩ rfl hl.1 rfl (Nat.le_of_ble_eq_true rfl) dM_same_9 ⟨Nat.le_of_ble_eq_true rfl, Nat.le_of_ble_eq_true rfl⟩ (fun en1 H locs he hP hS => ?_)
  obtain rfl := he
  refine lv_if_eq (tgt := 20) hx hb dM_same_12 (by decide) (fun hc => absurd hc (show ¬ (if dk (nI g) then (1 : Int32) else 0) = 0 by rw [dk_nI hg]; decide)) (fun _ => ?_)
  have hn_g := ha.1 g hg
  refine lv_iload hx hb dM_same_15 (lv_at hl 5 rfl) ?_
  rcases nn_or n with hg0 | ⟨u, hu, rfl⟩
  · have hk1 : (c_same a (nI k) i (nI g) j n) = 1 := by simp [c_same, dk_nI hk, ix_nI (show k < 2 ^ 31 by omega), dk_nI hg, ix_nI (show g < 2 ^ 31 by omega), hg0.1]
    refine lv_if_ge (tgt := 24) hx hb dM_same_17 (by decide) (fun hc => absurd hc (by simp only [Int32.lt_iff_toInt_lt, Int32.le_iff_toInt_le]; omega)) (fun _ => ?_)
    refine lv_iconst (v := 1) hx hb dM_same_20 (by decide) ?_
    refine lv_goto (tgt := 25) hx hb dM_same_21 (by decide) ?_
    refine g_put F hK G hP hS (17) (by decide) rfl rfl iM tM tM_ok nM 0 (by decide) k2_196 rfl (ty := .int) (by decide +kernel) rfl rfl (Nat.le_of_ble_eq_true rfl) dM_same_25 (fun H locs hP hS => ?_)
    have hP := P_of hP (en_m_code _ _ _ _ _ _ _ _ _ _ _)
    obtain ⟨M, hP, hR, h00⟩ : ∃ M1 : Nat → Nat → Int32, va_P D cl (gw ad (en ad cI cZ cT cJ pi dr S M1 o) 25) H ∧ RepM M1 a ∧ M1 0 0 = nI 1 := ⟨_, hP, hR.num (by decide), rfl⟩
    refine lv_aload_n hx hb dM_same_28 rfl (lv_at hl 0 rfl) ?_
    refine g_get F hK hP (17) (by decide) rfl rfl iM 0 (by decide) k2_196 rfl dM_same_29 ?_
    rw [h00]
    refine lv_if_ne (tgt := 76) hx hb dM_same_32 (by decide) (fun _ => ?_) (fun hc => absurd hc (show ¬ nI 1 = 0 by decide))
    refine lv_aload_n hx hb dM_same_76 rfl (lv_at hl 0 rfl) ?_
    refine g_get F hK hP (17) (by decide) rfl rfl iM 0 (by decide) k2_196 rfl dM_same_77 ?_
    rw [h00]
    refine lv_if_ne (tgt := 101) hx hb dM_same_80 (by decide) (fun _ => ?_) (fun hc => absurd hc (show ¬ nI 1 = 0 by decide))
    refine lv_iconst (v := 0) hx hb dM_same_101 (by decide) ?_
    exact W.zret hx hb hr rfl (fun t ht hW => ⟨by rw [hk1]; rfl, ⟨_, ⟨M, rfl, by rw [hk1]; exact h00, by rw [hk1]; exact hR⟩, by rw [ht]; exact hP⟩, hS.F ht⟩) hS.2.2 dM_same_102
  have zu := nI_toInt hu
  refine lv_if_ge (tgt := 24) hx hb dM_same_17 (by decide) (fun _ => ?_) (fun hc => absurd (by simp only [Int32.lt_iff_toInt_lt, Int32.le_iff_toInt_le]; omega) hc)
  refine lv_iconst (v := 0) hx hb dM_same_24 (by decide) ?_
  refine g_put F hK G hP hS (17) (by decide) rfl rfl iM tM tM_ok nM 0 (by decide) k2_196 rfl (ty := .int) (by decide +kernel) rfl rfl (Nat.le_of_ble_eq_true rfl) dM_same_25 (fun H locs hP hS => ?_)
  have hP := P_of hP (en_m_code _ _ _ _ _ _ _ _ _ _ _)
  obtain ⟨M, hP, hR, h00⟩ : ∃ M1 : Nat → Nat → Int32, va_P D cl (gw ad (en ad cI cZ cT cJ pi dr S M1 o) 25) H ∧ RepM M1 a ∧ M1 0 0 = nI 0 := ⟨_, hP, hR.num (by decide), rfl⟩
  refine lv_aload_n hx hb dM_same_28 rfl (lv_at hl 0 rfl) ?_
  refine g_get F hK hP (17) (by decide) rfl rfl iM 0 (by decide) k2_196 rfl dM_same_29 ?_
  rw [h00]
  refine lv_if_ne (tgt := 76) hx hb dM_same_32 (by decide) (fun hc => absurd (show  nI 0 = 0 by decide) hc) (fun _ => ?_)
  refine lv_iload_n hx hb dM_same_35 rfl (lv_at hl 2 rfl) ?_
  have y1 := i_sub hn_k hu
  have y2 := i_sub hn_g hu
  refine lv_if_lt (tgt := 71) hx hb dM_same_36 (by decide) (fun q0 => ?_) (fun q0 => ?_)
  · simp only [Int32.lt_iff_toInt_lt, Int32.le_iff_toInt_le] at q0
    have hsm : (smL i (nI u) (a_n a k) && smL j (nI u) (a_n a g)) = false := by rw [Bool.eq_false_iff]; unfold smL; simp only [ne_eq, Bool.and_eq_true, decide_eq_true_eq]; omega
    have hk1 : (c_same a (nI k) i (nI g) j (nI u)) = 2 := by unfold c_same; rw [ix_nI (show k < 2 ^ 31 by omega), ix_nI (show g < 2 ^ 31 by omega), hsm, dk_nI hk, dk_nI hg, nn_nI hu]; rfl
    refine lv_aload_n hx hb dM_same_71 rfl (lv_at hl 0 rfl) ?_
    refine lv_iconst (v := 2) hx hb dM_same_72 (by decide) ?_
    refine g_put F hK G hP hS (17) (by decide) rfl rfl iM tM tM_ok nM 0 (by decide) k2_196 rfl (ty := .int) (by decide +kernel) rfl rfl (Nat.le_of_ble_eq_true rfl) dM_same_73 (fun H locs hP hS => ?_)
    have hP := P_of hP (en_m_code _ _ _ _ _ _ _ _ _ _ _)
    obtain ⟨M, hP, hR, h00⟩ : ∃ M1 : Nat → Nat → Int32, va_P D cl (gw ad (en ad cI cZ cT cJ pi dr S M1 o) 25) H ∧ RepM M1 a ∧ M1 0 0 = nI 2 := ⟨_, hP, hR.num (by decide), rfl⟩
    refine lv_aload_n hx hb dM_same_76 rfl (lv_at hl 0 rfl) ?_
    refine g_get F hK hP (17) (by decide) rfl rfl iM 0 (by decide) k2_196 rfl dM_same_77 ?_
    rw [h00]
    refine lv_if_ne (tgt := 101) hx hb dM_same_80 (by decide) (fun _ => ?_) (fun hc => absurd hc (show ¬ nI 2 = 0 by decide))
    refine lv_iconst (v := 0) hx hb dM_same_101 (by decide) ?_
    exact W.zret hx hb hr rfl (fun t ht hW => ⟨by rw [hk1]; rfl, ⟨_, ⟨M, rfl, by rw [hk1]; exact h00, by rw [hk1]; exact hR⟩, by rw [ht]; exact hP⟩, hS.F ht⟩) hS.2.2 dM_same_102
  · simp only [Int32.lt_iff_toInt_lt, Int32.le_iff_toInt_le] at q0
    refine lv_iload hx hb dM_same_39 (lv_at hl 4 rfl) ?_
    refine lv_if_lt (tgt := 71) hx hb dM_same_41 (by decide) (fun q1 => ?_) (fun q1 => ?_)
    · simp only [Int32.lt_iff_toInt_lt, Int32.le_iff_toInt_le] at q1
      have hsm : (smL i (nI u) (a_n a k) && smL j (nI u) (a_n a g)) = false := by rw [Bool.eq_false_iff]; unfold smL; simp only [ne_eq, Bool.and_eq_true, decide_eq_true_eq]; omega
      have hk1 : (c_same a (nI k) i (nI g) j (nI u)) = 2 := by unfold c_same; rw [ix_nI (show k < 2 ^ 31 by omega), ix_nI (show g < 2 ^ 31 by omega), hsm, dk_nI hk, dk_nI hg, nn_nI hu]; rfl
      refine lv_aload_n hx hb dM_same_71 rfl (lv_at hl 0 rfl) ?_
      refine lv_iconst (v := 2) hx hb dM_same_72 (by decide) ?_
      refine g_put F hK G hP hS (17) (by decide) rfl rfl iM tM tM_ok nM 0 (by decide) k2_196 rfl (ty := .int) (by decide +kernel) rfl rfl (Nat.le_of_ble_eq_true rfl) dM_same_73 (fun H locs hP hS => ?_)
      have hP := P_of hP (en_m_code _ _ _ _ _ _ _ _ _ _ _)
      obtain ⟨M, hP, hR, h00⟩ : ∃ M1 : Nat → Nat → Int32, va_P D cl (gw ad (en ad cI cZ cT cJ pi dr S M1 o) 25) H ∧ RepM M1 a ∧ M1 0 0 = nI 2 := ⟨_, hP, hR.num (by decide), rfl⟩
      refine lv_aload_n hx hb dM_same_76 rfl (lv_at hl 0 rfl) ?_
      refine g_get F hK hP (17) (by decide) rfl rfl iM 0 (by decide) k2_196 rfl dM_same_77 ?_
      rw [h00]
      refine lv_if_ne (tgt := 101) hx hb dM_same_80 (by decide) (fun _ => ?_) (fun hc => absurd hc (show ¬ nI 2 = 0 by decide))
      refine lv_iconst (v := 0) hx hb dM_same_101 (by decide) ?_
      exact W.zret hx hb hr rfl (fun t ht hW => ⟨by rw [hk1]; rfl, ⟨_, ⟨M, rfl, by rw [hk1]; exact h00, by rw [hk1]; exact hR⟩, by rw [ht]; exact hP⟩, hS.F ht⟩) hS.2.2 dM_same_102
    · simp only [Int32.lt_iff_toInt_lt, Int32.le_iff_toInt_le] at q1
      refine lv_iload_n hx hb dM_same_44 rfl (lv_at hl 2 rfl) ?_
      refine lv_aload_n hx hb dM_same_45 rfl (lv_at hl 0 rfl) ?_
      refine g_get F hK hP (17) (by decide) rfl rfl iM 2 (by decide) k2_198 rfl dM_same_46 ?_
      refine lv_iload_n hx hb dM_same_49 rfl (lv_at hl 1 rfl) ?_
      refine g_iald F hK hP (19) (by decide) 0 rfl rfl (vp_in_nI hk (by omega)) dM_same_50 ?_
      rw [nI_clamp (show k < 2 ^ 31 by omega), hR.1 k hk]
      refine lv_iload hx hb dM_same_51 (lv_at hl 5 rfl) ?_
      refine lv_isub hx hb dM_same_53 ?_
      refine lv_icmp_gt (tgt := 71) hx hb dM_same_54 (by decide) (fun q2 => ?_) (fun q2 => ?_)
      · simp only [Int32.lt_iff_toInt_lt, Int32.le_iff_toInt_le] at q2
        have hsm : (smL i (nI u) (a_n a k) && smL j (nI u) (a_n a g)) = false := by rw [Bool.eq_false_iff]; unfold smL; simp only [ne_eq, Bool.and_eq_true, decide_eq_true_eq]; omega
        have hk1 : (c_same a (nI k) i (nI g) j (nI u)) = 2 := by unfold c_same; rw [ix_nI (show k < 2 ^ 31 by omega), ix_nI (show g < 2 ^ 31 by omega), hsm, dk_nI hk, dk_nI hg, nn_nI hu]; rfl
        refine lv_aload_n hx hb dM_same_71 rfl (lv_at hl 0 rfl) ?_
        refine lv_iconst (v := 2) hx hb dM_same_72 (by decide) ?_
        refine g_put F hK G hP hS (17) (by decide) rfl rfl iM tM tM_ok nM 0 (by decide) k2_196 rfl (ty := .int) (by decide +kernel) rfl rfl (Nat.le_of_ble_eq_true rfl) dM_same_73 (fun H locs hP hS => ?_)
        have hP := P_of hP (en_m_code _ _ _ _ _ _ _ _ _ _ _)
        obtain ⟨M, hP, hR, h00⟩ : ∃ M1 : Nat → Nat → Int32, va_P D cl (gw ad (en ad cI cZ cT cJ pi dr S M1 o) 25) H ∧ RepM M1 a ∧ M1 0 0 = nI 2 := ⟨_, hP, hR.num (by decide), rfl⟩
        refine lv_aload_n hx hb dM_same_76 rfl (lv_at hl 0 rfl) ?_
        refine g_get F hK hP (17) (by decide) rfl rfl iM 0 (by decide) k2_196 rfl dM_same_77 ?_
        rw [h00]
        refine lv_if_ne (tgt := 101) hx hb dM_same_80 (by decide) (fun _ => ?_) (fun hc => absurd hc (show ¬ nI 2 = 0 by decide))
        refine lv_iconst (v := 0) hx hb dM_same_101 (by decide) ?_
        exact W.zret hx hb hr rfl (fun t ht hW => ⟨by rw [hk1]; rfl, ⟨_, ⟨M, rfl, by rw [hk1]; exact h00, by rw [hk1]; exact hR⟩, by rw [ht]; exact hP⟩, hS.F ht⟩) hS.2.2 dM_same_102
      · simp only [Int32.lt_iff_toInt_lt, Int32.le_iff_toInt_le] at q2
        refine lv_iload hx hb dM_same_57 (lv_at hl 4 rfl) ?_
        refine lv_aload_n hx hb dM_same_59 rfl (lv_at hl 0 rfl) ?_
        refine g_get F hK hP (17) (by decide) rfl rfl iM 2 (by decide) k2_198 rfl dM_same_60 ?_
        refine lv_iload_n hx hb dM_same_63 rfl (lv_at hl 3 rfl) ?_
        refine g_iald F hK hP (19) (by decide) 0 rfl rfl (vp_in_nI hg (by omega)) dM_same_64 ?_
        rw [nI_clamp (show g < 2 ^ 31 by omega), hR.1 g hg]
        refine lv_iload hx hb dM_same_65 (lv_at hl 5 rfl) ?_
        refine lv_isub hx hb dM_same_67 ?_
        refine lv_icmp_le (tgt := 76) hx hb dM_same_68 (by decide) (fun q3 => ?_) (fun q3 => ?_)
        · simp only [Int32.lt_iff_toInt_lt, Int32.le_iff_toInt_le] at q3
          have hx0 := ix_toInt (show 0 ≤ i.toInt by omega)
          have hx2 := nI_ix (show 0 ≤ i.toInt by omega)
          have hy0 := ix_toInt (show 0 ≤ j.toInt by omega)
          have hy2 := nI_ix (show 0 ≤ j.toInt by omega)
          have hsm : (smL i (nI u) (a_n a k) && smL j (nI u) (a_n a g)) = true := by unfold smL; simp only [Bool.and_eq_true, decide_eq_true_eq]; omega
          have hk1 : (c_same a (nI k) i (nI g) j (nI u)) = 0 := by unfold c_same; rw [ix_nI (show k < 2 ^ 31 by omega), ix_nI (show g < 2 ^ 31 by omega), hsm, dk_nI hk, dk_nI hg, nn_nI hu]; rfl
          generalize ix i = x at hx0 hx2 ⊢
          generalize ix j = y at hy0 hy2 ⊢
          subst hx2
          subst hy2
          refine lv_aload_n hx hb dM_same_76 rfl (lv_at hl 0 rfl) ?_
          refine g_get F hK hP (17) (by decide) rfl rfl iM 0 (by decide) k2_196 rfl dM_same_77 ?_
          rw [h00]
          refine lv_if_ne (tgt := 101) hx hb dM_same_80 (by decide) (fun hc => absurd (show  nI 0 = 0 by decide) hc) (fun _ => ?_)
          refine lv_aload_n hx hb dM_same_83 rfl (lv_at hl 0 rfl) ?_
          refine lv_iload_n hx hb dM_same_84 rfl (lv_at hl 1 rfl) ?_
          refine lv_iload_n hx hb dM_same_85 rfl (lv_at hl 2 rfl) ?_
          refine lv_iload_n hx hb dM_same_86 rfl (lv_at hl 3 rfl) ?_
          refine lv_iload hx hb dM_same_87 (lv_at hl 4 rfl) ?_
          refine g_V (k := 4) F htw hB hS hP (17) (by decide) rfl rfl (c_M_common ha hR hk hg (show x ≤ a_n a k by omega) (show y ≤ a_n a g by omega)) k3_55 k3_57 k0_8 k1_5 k3_58 (by decide +kernel) rfl rfl ⟨Nat.le_of_ble_eq_true rfl, Nat.le_of_ble_eq_true rfl⟩ rfl hl.1 rfl (Nat.le_of_ble_eq_true rfl) dM_same_89 ⟨Nat.le_of_ble_eq_true rfl, Nat.le_of_ble_eq_true rfl⟩ (fun en1 H locs he hP hS => ?_)
          obtain rfl := he
          have hcb : cpr a k x g y ≤ 1000 := by have := (cpx_le (fun c => decide (a_b a k (x + c) = a_b a g (y + c))) (min (a_n a k - x) (a_n a g - y)) 0).2; unfold cpr; omega
          refine lv_iload hx hb dM_same_92 (lv_at hl 5 rfl) ?_
          refine lv_icmp_lt (tgt := 101) hx hb dM_same_94 (by decide) (fun h1 => ?_) (fun h1 => ?_)
          · rw [nI_ltI (by omega) (by omega)] at h1
            refine lv_iconst (v := 0) hx hb dM_same_101 (by decide) ?_
            have hv : (if u ≤ cpr a k x g y then (1 : Int32) else 0) = 0 := if_neg (by omega)
            exact W.zret hx hb hr rfl (fun t ht hW => ⟨by rw [hk1, if_pos rfl, ix_nI hu, ix_nI (show k < 2 ^ 31 by omega), ix_nI (show g < 2 ^ 31 by omega)]; simp only [ix_nI (show x < 2 ^ 31 by omega), ix_nI (show y < 2 ^ 31 by omega), hv], ⟨_, ⟨M, rfl, by rw [hk1]; exact h00, by rw [hk1, if_pos rfl]; exact hR⟩, by rw [ht]; exact hP⟩, hS.F ht⟩) hS.2.2 dM_same_102
          · rw [nI_ltI (by omega) (by omega)] at h1
            refine lv_iconst (v := 1) hx hb dM_same_97 (by decide) ?_
            refine lv_goto (tgt := 102) hx hb dM_same_98 (by decide) ?_
            have hv : (if u ≤ cpr a k x g y then (1 : Int32) else 0) = 1 := if_pos (by omega)
            exact W.zret hx hb hr rfl (fun t ht hW => ⟨by rw [hk1, if_pos rfl, ix_nI hu, ix_nI (show k < 2 ^ 31 by omega), ix_nI (show g < 2 ^ 31 by omega)]; simp only [ix_nI (show x < 2 ^ 31 by omega), ix_nI (show y < 2 ^ 31 by omega), hv], ⟨_, ⟨M, rfl, by rw [hk1]; exact h00, by rw [hk1, if_pos rfl]; exact hR⟩, by rw [ht]; exact hP⟩, hS.F ht⟩) hS.2.2 dM_same_102
        · simp only [Int32.lt_iff_toInt_lt, Int32.le_iff_toInt_le] at q3
          have hsm : (smL i (nI u) (a_n a k) && smL j (nI u) (a_n a g)) = false := by rw [Bool.eq_false_iff]; unfold smL; simp only [ne_eq, Bool.and_eq_true, decide_eq_true_eq]; omega
          have hk1 : (c_same a (nI k) i (nI g) j (nI u)) = 2 := by unfold c_same; rw [ix_nI (show k < 2 ^ 31 by omega), ix_nI (show g < 2 ^ 31 by omega), hsm, dk_nI hk, dk_nI hg, nn_nI hu]; rfl
          refine lv_aload_n hx hb dM_same_71 rfl (lv_at hl 0 rfl) ?_
          refine lv_iconst (v := 2) hx hb dM_same_72 (by decide) ?_
          refine g_put F hK G hP hS (17) (by decide) rfl rfl iM tM tM_ok nM 0 (by decide) k2_196 rfl (ty := .int) (by decide +kernel) rfl rfl (Nat.le_of_ble_eq_true rfl) dM_same_73 (fun H locs hP hS => ?_)
          have hP := P_of hP (en_m_code _ _ _ _ _ _ _ _ _ _ _)
          obtain ⟨M, hP, hR, h00⟩ : ∃ M1 : Nat → Nat → Int32, va_P D cl (gw ad (en ad cI cZ cT cJ pi dr S M1 o) 25) H ∧ RepM M1 a ∧ M1 0 0 = nI 2 := ⟨_, hP, hR.num (by decide), rfl⟩
          refine lv_aload_n hx hb dM_same_76 rfl (lv_at hl 0 rfl) ?_
          refine g_get F hK hP (17) (by decide) rfl rfl iM 0 (by decide) k2_196 rfl dM_same_77 ?_
          rw [h00]
          refine lv_if_ne (tgt := 101) hx hb dM_same_80 (by decide) (fun _ => ?_) (fun hc => absurd hc (show ¬ nI 2 = 0 by decide))
          refine lv_iconst (v := 0) hx hb dM_same_101 (by decide) ?_
          exact W.zret hx hb hr rfl (fun t ht hW => ⟨by rw [hk1]; rfl, ⟨_, ⟨M, rfl, by rw [hk1]; exact h00, by rw [hk1]; exact hR⟩, by rw [ht]; exact hP⟩, hS.F ht⟩) hS.2.2 dM_same_102
end N3
