/-! The class's calls: lead, accept, run, accepted. -/
theorem fill_0 {g : Nat → Nat} {p v : Nat} : fill g p v 0 = g := by
  funext q
  unfold fill
  rw [if_neg (by omega)]
theorem fill_up {S8 : Nat → Int32} {g : Nat → Nat} {p v k N : Nat} (h : ∀ q, q < N → S8 q = nI (fill g p v k q)) : ∀ q, q < N → upd S8 (p + k) (nI v) q = nI (fill g p v (k + 1) q) := by
  intro q hq
  rw [← fill_s]
  unfold upd
  by_cases e1 : q = p + k
  · rw [if_pos e1, if_pos e1]
  · rw [if_neg e1, if_neg e1]; exact h q hq
section M10
variable {l : Launch} {D : va_G} {cI cZ cT cJ : ClassId} {base : Nat} {ad : Nat → Nat} {pi : Nat → Nat} {dr : Nat} {S M : Nat → Nat → Int32} {o : Nat → Int64} {a : Ab}
set_option maxHeartbeats 4000000 in
set_option maxRecDepth 100000 in
theorem c_P_lead (hst : l.stackTraces = false) (G : gGeo ad 25 base) (ha : a_ok a) (hC : RepC pi dr S a) (s0 lo hi t0 : Int32) : MetX l yP_lead (Cond.code yP_lead bP_lead 6 none :: tws) { frames := 7, cells := 1, slots := 6, locals := 102 } (gPc (tw D cI cZ cT cJ base) D cl ad 25 base (en ad cI cZ cT cJ pi dr S M o) [.ref (ad 0), .int s0, .int lo, .int hi, .int t0]) (gQx D cl ad 25 base (en ad cI cZ cT cJ pi dr S M o) ["java/lang/IllegalArgumentException"] (c_lead s0 lo hi t0) none (fun e => ∃ (pi1 : Nat → Nat) (dr1 : Nat) (S1 : Nat → Nat → Int32), e = en ad cI cZ cT cJ pi1 dr1 S1 M o ∧ RepC pi1 dr1 S1 (x_lead a s0 lo hi t0))) 1 6 (gA base) := by
  refine MetX.ofW (cc := bP_lead) (maxL := 6) (ret := none) (by decide) rfl ?_
  intro p e s m args below meth c s₁ B hml hv
  obtain ⟨rfl, htw, hB, hP⟩ := hv
  have hx := B.exec
  have hb := B.bytes
  have hr := B.returns
  have hts0 := atoms_spec (ws := Cond.code yP_lead bP_lead 6 none :: tws) B.pre
  have hts : ∀ w ∈ tws, w.before _ s = true := fun w h => hts0 w (List.mem_cons_of_mem _ h)
  have hown : s.vm.findClass "PairedTexts" = some m.cls := findClass_of_methodNamed B.named
  have hlocks := B.notSynchronized
  have hno := B.noHandlers (hts0 _ List.mem_cons_self)
  have F : CallFix p m c bP_lead 6 s _ tws "PairedTexts" := ⟨hx, hb, hml, hown, hts⟩
  have hK := htw.1
  have hS : va_S (gA base) s.heap s.heap [] := va_S.rf
  have hl := lv_entry ([.ref (ad 0), .int s0, .int lo, .int hi, .int t0]) (n := 6) (Nat.le_of_ble_eq_true rfl)
  rw [lg_entry_eq]
  generalize (lg_sl ([.ref (ad 0), .int s0, .int lo, .int hi, .int t0]) ++ List.replicate (6 - (lg_sl ([.ref (ad 0), .int s0, .int lo, .int hi, .int t0])).length) Slot.unset).toArray = ls at hl ⊢
  have hl : lv_has ls 6 [(0, .ref (ad 0)), (1, .int s0), (2, .int lo), (3, .int hi), (4, .int t0)] := hl
  have hdr := hC.2.1
  have z0 : (0 : Int32).toInt = 0 := rfl
  have z8 : (256 : Int32).toInt = 256 := rfl
  refine lv_iload_n hx hb dP_lead_0 rfl (lv_at hl 1 rfl) ?_
  rcases sk_or s0 with hd | ⟨k, hk, rfl⟩
  · have hk1 : (c_lead s0 lo hi t0) = 1 := by simp [c_lead, hd.1]
    exact g_STh (k := 1) F hlocks hno htw hB hS hP (c_P_requireState_th hst hd.2) k2_157 k2_158 k1_1 k2_159 (by decide +kernel) rfl rfl ⟨Nat.le_of_ble_eq_true rfl, Nat.le_of_ble_eq_true rfl⟩ rfl hl.1 rfl (Nat.le_of_ble_eq_true rfl) dP_lead_1 ⟨Nat.le_of_ble_eq_true rfl, Nat.le_of_ble_eq_true rfl⟩ (by rw [hk1]; decide) (by rw [hk1]; rfl)
  refine g_S (k := 1) F htw hB hS hP (c_P_requireState (by have := nI_toInt (show k < 2 ^ 31 by omega); omega) (by have := nI_toInt (show k < 2 ^ 31 by omega); omega)) k2_157 k2_158 k1_1 k2_159 (by decide +kernel) rfl rfl ⟨Nat.le_of_ble_eq_true rfl, Nat.le_of_ble_eq_true rfl⟩ rfl hl.1 rfl (Nat.le_of_ble_eq_true rfl) dP_lead_1 ⟨Nat.le_of_ble_eq_true rfl, Nat.le_of_ble_eq_true rfl⟩ (fun en1 H locs he hP hS => ?_)
  obtain rfl := he
  refine lv_iload hx hb dP_lead_4 (lv_at hl 4 rfl) ?_
  rcases sk_or t0 with hd | ⟨g, hg, rfl⟩
  · have hk1 : (c_lead (nI k) lo hi t0) = 1 := by simp [c_lead, sk_nI hk, ix_nI (show k < 2 ^ 31 by omega), hd.1]
    exact g_STh (k := 1) F hlocks hno htw hB hS hP (c_P_requireState_th hst hd.2) k2_157 k2_158 k1_1 k2_159 (by decide +kernel) rfl rfl ⟨Nat.le_of_ble_eq_true rfl, Nat.le_of_ble_eq_true rfl⟩ rfl hl.1 rfl (Nat.le_of_ble_eq_true rfl) dP_lead_6 ⟨Nat.le_of_ble_eq_true rfl, Nat.le_of_ble_eq_true rfl⟩ (by rw [hk1]; decide) (by rw [hk1]; rfl)
  refine g_S (k := 1) F htw hB hS hP (c_P_requireState (by have := nI_toInt (show g < 2 ^ 31 by omega); omega) (by have := nI_toInt (show g < 2 ^ 31 by omega); omega)) k2_157 k2_158 k1_1 k2_159 (by decide +kernel) rfl rfl ⟨Nat.le_of_ble_eq_true rfl, Nat.le_of_ble_eq_true rfl⟩ rfl hl.1 rfl (Nat.le_of_ble_eq_true rfl) dP_lead_6 ⟨Nat.le_of_ble_eq_true rfl, Nat.le_of_ble_eq_true rfl⟩ (fun en1 H locs he hP hS => ?_)
  obtain rfl := he
  refine lv_iconst (v := 0) hx hb dP_lead_9 (by decide) ?_
  refine lv_iload_n hx hb dP_lead_10 rfl (lv_at hl 2 rfl) ?_
  by_cases hq : 0 ≤ lo.toInt ∧ lo.toInt ≤ hi.toInt ∧ hi.toInt < 256
  · have hk1 : (c_lead (nI k) lo hi (nI g)) = 0 := by simp only [c_lead, sk_nI hk, ix_nI (show k < 2 ^ 31 by omega), sk_nI hg, ix_nI (show g < 2 ^ 31 by omega), hq, decide_true, Bool.and_true]; rfl
    have q1 := ix_toInt hq.1
    have q2 := ix_toInt (show 0 ≤ hi.toInt by omega)
    refine lv_icmp_gt (tgt := 30) hx hb dP_lead_11 (by decide) (fun hc => absurd hc (by rw [Int32.lt_iff_toInt_lt]; omega)) (fun _ => ?_)
    refine lv_iload_n hx hb dP_lead_14 rfl (lv_at hl 2 rfl) ?_
    refine lv_iload_n hx hb dP_lead_15 rfl (lv_at hl 3 rfl) ?_
    refine lv_icmp_gt (tgt := 30) hx hb dP_lead_16 (by decide) (fun hc => absurd hc (by rw [Int32.lt_iff_toInt_lt]; omega)) (fun _ => ?_)
    refine lv_iload_n hx hb dP_lead_19 rfl (lv_at hl 3 rfl) ?_
    refine lv_sipush (v := 256) hx hb dP_lead_20 (by decide) ?_
    refine lv_icmp_ge (tgt := 30) hx hb dP_lead_23 (by decide) (fun hc => absurd hc (by rw [Int32.le_iff_toInt_le]; omega)) (fun _ => ?_)
    refine lv_iconst (v := 1) hx hb dP_lead_26 (by decide) ?_
    refine lv_goto (tgt := 31) hx hb dP_lead_27 (by decide) ?_
    refine g_S (k := 1) F htw hB hS hP (c_P_requireArgument) k1_168 k1_169 k1_1 k1_170 (by decide +kernel) rfl rfl ⟨Nat.le_of_ble_eq_true rfl, Nat.le_of_ble_eq_true rfl⟩ rfl hl.1 rfl (Nat.le_of_ble_eq_true rfl) dP_lead_31 ⟨Nat.le_of_ble_eq_true rfl, Nat.le_of_ble_eq_true rfl⟩ (fun en1 H locs he hP hS => ?_)
    obtain rfl := he
    refine lv_iload_n hx hb dP_lead_34 rfl (lv_at hl 2 rfl) ?_
    refine lv_istore hx hb dP_lead_35 hl (by decide) rfl (fun ls hl => ?_)
    have hl : lv_has ls 6 [(5, .int _), (0, .ref _), (1, .int _), (2, .int _), (3, .int _), (4, .int _)] := hl
    generalize hL : ix lo = l1 at q1
    generalize hH : ix hi = h9 at q2
    have eL : lo = nI l1 := by rw [← hL]; exact nI_ix hq.1
    have eH : hi = nI h9 := by rw [← hH]; exact nI_ix (by omega)
    have hl : lv_has ls 6 [(5, .int (nI (l1 + 0))), (0, .ref (ad 0)), (1, .int (nI k)), (2, .int lo), (3, .int (nI h9)), (4, .int (nI g))] := by rw [← eH, Nat.add_zero, ← eL]; exact hl
    have hC : RepC pi dr S (a_n a, a_b a, a_p a, a_q a, fill (a_x a) (256 * k + l1) g 0, a_c a) := by rw [fill_0]; exact hC
    refine W.loop (α := Nat × (Nat → Nat → Int32)) (fun t a1 ls H locs => l1 + a1.1 + t = h9 + 1 ∧ RepC pi dr a1.2 (a_n a, a_b a, a_p a, a_q a, fill (a_x a) (256 * k + l1) g a1.1, a_c a) ∧ lv_has ls 6 [(5, .int (nI (l1 + a1.1))), (0, .ref (ad 0)), (1, .int (nI k)), (2, .int lo), (3, .int (nI h9)), (4, .int (nI g))] ∧ va_P D cl (gw ad (en ad cI cZ cT cJ pi dr a1.2 M o) 25) H ∧ va_S (gA base) s.heap H locs) ?_ (t := (h9 + 1 - l1)) (a := (0, S)) ⟨by show l1 + 0 + (h9 + 1 - l1) = h9 + 1; omega, hC, hl, hP, hS⟩
    clear hl hP hS
    intro t a1 ls H locs hI ih
    obtain ⟨u, S⟩ := a1
    obtain ⟨i0, i1, hl, hP, hS⟩ := hI
    try dsimp only at i0 i1 hl hP
    by_cases ht : t = 0
    · have hu : h9 + 1 - l1 = u := by omega
      refine lv_iload hx hb dP_lead_37 (lv_at hl 0 rfl) ?_
      refine lv_iload_n hx hb dP_lead_39 rfl (lv_at hl 4 rfl) ?_
      refine lv_icmp_gt (tgt := 61) hx hb dP_lead_40 (by decide) (fun _ => ?_) (fun hc => absurd (by rw [nI_ltI (by omega) (by omega)]; omega) hc)
      refine W.widen (k := 1) (n := 6) (by decide) (by decide) ?_
      exact W.toX (W.vret hx hb hr (fun t ht hW => Or.inl ⟨hk1, ⟨rfl, ⟨_, ⟨_, _, _, rfl, by simpa [x_lead, hL, hH, hu, ix_nI (show k < 2 ^ 31 by omega), ix_nI (show g < 2 ^ 31 by omega)] using i1⟩, by rw [ht]; exact hP⟩, hS.F ht⟩⟩) hS.2.2 dP_lead_61)
    · refine lv_iload hx hb dP_lead_37 (lv_at hl 0 rfl) ?_
      refine lv_iload_n hx hb dP_lead_39 rfl (lv_at hl 4 rfl) ?_
      refine lv_icmp_gt (tgt := 61) hx hb dP_lead_40 (by decide) (fun hc => absurd hc (by rw [nI_ltI (by omega) (by omega)]; omega)) (fun _ => ?_)
      refine lv_aload_n hx hb dP_lead_43 rfl (lv_at hl 1 rfl) ?_
      refine g_get F hK hP (0) (by decide) rfl rfl iP 2 (by decide) k1_72 rfl dP_lead_44 ?_
      refine lv_iload_n hx hb dP_lead_47 rfl (lv_at hl 2 rfl) ?_
      refine lv_iload hx hb dP_lead_48 (lv_at hl 0 rfl) ?_
      refine lv_iload hx hb dP_lead_50 (lv_at hl 5 rfl) ?_
      refine g_V (k := 3) F htw hB hS hP (14) (by decide) rfl rfl (c_A_setNext G hk (show l1 + u < 256 by omega) (nI g)) k2_161 k2_162 k2_163 k1_4 k2_164 (by decide +kernel) rfl rfl ⟨Nat.le_of_ble_eq_true rfl, Nat.le_of_ble_eq_true rfl⟩ rfl hl.1 rfl (Nat.le_of_ble_eq_true rfl) dP_lead_52 ⟨Nat.le_of_ble_eq_true rfl, Nat.le_of_ble_eq_true rfl⟩ (fun en1 H locs he hP hS => ?_)
      obtain rfl := he
      refine lv_iinc (k := 0) hx hb dP_lead_55 hl rfl rfl (by decide) rfl (fun ls hl => ?_)
      have hl : lv_has ls 6 [(5, .int _), (0, .ref _), (1, .int _), (2, .int _), (3, .int _), (4, .int _)] := hl
      refine lv_goto (tgt := 37) hx hb dP_lead_58 (by decide) ?_
      have hC := i1.sx (f := upd (S 8) (256 * k + (l1 + u)) (nI g)) (g := fill (a_x a) (256 * k + l1) g (u + 1)) (by rw [← Nat.add_assoc]; exact fill_up i1.2.2.2.2.2.2.2.1)
      have hl : lv_has ls 6 [(5, .int (nI (l1 + (u + 1)))), (0, .ref (ad 0)), (1, .int (nI k)), (2, .int lo), (3, .int (nI h9)), (4, .int (nI g))] := by rw [← Nat.add_assoc, ← nI_1]; exact hl
      exact ih (t - 1) (u + 1, _) _ _ _ (by omega) ⟨by show l1 + (u + 1) + (t - 1) = h9 + 1; omega, hC, hl, hP, hS⟩
  · have hk1 : (c_lead (nI k) lo hi (nI g)) = 1 := by simp only [c_lead, sk_nI hk, ix_nI (show k < 2 ^ 31 by omega), sk_nI hg, ix_nI (show g < 2 ^ 31 by omega), hq, decide_false, Bool.and_false]; rfl
    refine lv_icmp_gt (tgt := 30) hx hb dP_lead_11 (by decide) (fun h1 => ?_) (fun h1 => ?_)
    · refine lv_iconst (v := 0) hx hb dP_lead_30 (by decide) ?_
      exact g_STh (k := 1) F hlocks hno htw hB hS hP (c_P_requireArgument_th hst) k1_168 k1_169 k1_1 k1_170 (by decide +kernel) rfl rfl ⟨Nat.le_of_ble_eq_true rfl, Nat.le_of_ble_eq_true rfl⟩ rfl hl.1 rfl (Nat.le_of_ble_eq_true rfl) dP_lead_31 ⟨Nat.le_of_ble_eq_true rfl, Nat.le_of_ble_eq_true rfl⟩ (by rw [hk1]; decide) (by rw [hk1]; rfl)
    · rw [Int32.lt_iff_toInt_lt] at h1
      refine lv_iload_n hx hb dP_lead_14 rfl (lv_at hl 2 rfl) ?_
      refine lv_iload_n hx hb dP_lead_15 rfl (lv_at hl 3 rfl) ?_
      refine lv_icmp_gt (tgt := 30) hx hb dP_lead_16 (by decide) (fun h2 => ?_) (fun h2 => ?_)
      · refine lv_iconst (v := 0) hx hb dP_lead_30 (by decide) ?_
        exact g_STh (k := 1) F hlocks hno htw hB hS hP (c_P_requireArgument_th hst) k1_168 k1_169 k1_1 k1_170 (by decide +kernel) rfl rfl ⟨Nat.le_of_ble_eq_true rfl, Nat.le_of_ble_eq_true rfl⟩ rfl hl.1 rfl (Nat.le_of_ble_eq_true rfl) dP_lead_31 ⟨Nat.le_of_ble_eq_true rfl, Nat.le_of_ble_eq_true rfl⟩ (by rw [hk1]; decide) (by rw [hk1]; rfl)
      · rw [Int32.lt_iff_toInt_lt] at h2
        refine lv_iload_n hx hb dP_lead_19 rfl (lv_at hl 3 rfl) ?_
        refine lv_sipush (v := 256) hx hb dP_lead_20 (by decide) ?_
        refine lv_icmp_ge (tgt := 30) hx hb dP_lead_23 (by decide) (fun _ => ?_) (fun hc => absurd (by rw [Int32.le_iff_toInt_le]; omega) hc)
        refine lv_iconst (v := 0) hx hb dP_lead_30 (by decide) ?_
        exact g_STh (k := 1) F hlocks hno htw hB hS hP (c_P_requireArgument_th hst) k1_168 k1_169 k1_1 k1_170 (by decide +kernel) rfl rfl ⟨Nat.le_of_ble_eq_true rfl, Nat.le_of_ble_eq_true rfl⟩ rfl hl.1 rfl (Nat.le_of_ble_eq_true rfl) dP_lead_31 ⟨Nat.le_of_ble_eq_true rfl, Nat.le_of_ble_eq_true rfl⟩ (by rw [hk1]; decide) (by rw [hk1]; rfl)
set_option maxHeartbeats 4000000 in
set_option maxRecDepth 100000 in
theorem c_P_accept (hst : l.stackTraces = false) (G : gGeo ad 25 base) (ha : a_ok a) (hC : RepC pi dr S a) (s0 : Int32) {b : Nat} (hb2 : b < 2) : MetX l yP_accept (Cond.code yP_accept bP_accept 3 none :: tws) { frames := 7, cells := 1, slots := 6, locals := 102 } (gPc (tw D cI cZ cT cJ base) D cl ad 25 base (en ad cI cZ cT cJ pi dr S M o) [.ref (ad 0), .int s0, .int (nI b)]) (gQx D cl ad 25 base (en ad cI cZ cT cJ pi dr S M o) ["java/lang/IllegalArgumentException"] (c_accept s0) none (fun e => ∃ (pi1 : Nat → Nat) (dr1 : Nat) (S1 : Nat → Nat → Int32), e = en ad cI cZ cT cJ pi1 dr1 S1 M o ∧ RepC pi1 dr1 S1 (x_accept a s0 b))) 1 6 (gA base) := by
  refine MetX.ofW (cc := bP_accept) (maxL := 3) (ret := none) (by decide) rfl ?_
  intro p e s m args below meth c s₁ B hml hv
  obtain ⟨rfl, htw, hB, hP⟩ := hv
  have hx := B.exec
  have hb := B.bytes
  have hr := B.returns
  have hts0 := atoms_spec (ws := Cond.code yP_accept bP_accept 3 none :: tws) B.pre
  have hts : ∀ w ∈ tws, w.before _ s = true := fun w h => hts0 w (List.mem_cons_of_mem _ h)
  have hown : s.vm.findClass "PairedTexts" = some m.cls := findClass_of_methodNamed B.named
  have hlocks := B.notSynchronized
  have hno := B.noHandlers (hts0 _ List.mem_cons_self)
  have F : CallFix p m c bP_accept 3 s _ tws "PairedTexts" := ⟨hx, hb, hml, hown, hts⟩
  have hK := htw.1
  have hS : va_S (gA base) s.heap s.heap [] := va_S.rf
  have hl := lv_entry ([.ref (ad 0), .int s0, .int (nI b)]) (n := 3) (Nat.le_of_ble_eq_true rfl)
  rw [lg_entry_eq]
  generalize (lg_sl ([.ref (ad 0), .int s0, .int (nI b)]) ++ List.replicate (3 - (lg_sl ([.ref (ad 0), .int s0, .int (nI b)])).length) Slot.unset).toArray = ls at hl ⊢
  have hl : lv_has ls 3 [(0, .ref (ad 0)), (1, .int s0), (2, .int (nI b))] := hl
  have hdr := hC.2.1
  refine lv_iload_n hx hb dP_accept_0 rfl (lv_at hl 1 rfl) ?_
  rcases sk_or s0 with hd | ⟨k, hk, rfl⟩
  · have hk1 : (c_accept s0) = 1 := by simp [c_accept, hd.1]
    exact g_STh (k := 1) F hlocks hno htw hB hS hP (c_P_requireState_th hst hd.2) k2_157 k2_158 k1_1 k2_159 (by decide +kernel) rfl rfl ⟨Nat.le_of_ble_eq_true rfl, Nat.le_of_ble_eq_true rfl⟩ rfl hl.1 rfl (Nat.le_of_ble_eq_true rfl) dP_accept_1 ⟨Nat.le_of_ble_eq_true rfl, Nat.le_of_ble_eq_true rfl⟩ (by rw [hk1]; decide) (by rw [hk1]; rfl)
  refine g_S (k := 1) F htw hB hS hP (c_P_requireState (by have := nI_toInt (show k < 2 ^ 31 by omega); omega) (by have := nI_toInt (show k < 2 ^ 31 by omega); omega)) k2_157 k2_158 k1_1 k2_159 (by decide +kernel) rfl rfl ⟨Nat.le_of_ble_eq_true rfl, Nat.le_of_ble_eq_true rfl⟩ rfl hl.1 rfl (Nat.le_of_ble_eq_true rfl) dP_accept_1 ⟨Nat.le_of_ble_eq_true rfl, Nat.le_of_ble_eq_true rfl⟩ (fun en1 H locs he hP hS => ?_)
  obtain rfl := he
  refine lv_aload_n hx hb dP_accept_4 rfl (lv_at hl 0 rfl) ?_
  refine g_get F hK hP (0) (by decide) rfl rfl iP 2 (by decide) k1_72 rfl dP_accept_5 ?_
  refine g_get F hK hP (14) (by decide) rfl rfl iA 1 (by decide) k1_63 rfl dP_accept_8 ?_
  refine lv_iload_n hx hb dP_accept_11 rfl (lv_at hl 1 rfl) ?_
  refine lv_iload_n hx hb dP_accept_12 rfl (lv_at hl 2 rfl) ?_
  refine g_zast F hK G hP hS (16) (by decide) 1 rfl rfl (vp_in_nI hk (by omega)) dP_accept_13 (fun H locs hP hS => ?_)
  rw [nI_clamp (show k < 2 ^ 31 by omega), show vp_nar .boolean (nI b) = nI b from (show b = 0 ∨ b = 1 by omega).elim (fun h => by rw [h]; rfl) (fun h => by rw [h]; rfl)] at hP
  have hP := P_of hP (en_ac _ _ _ _ _ _ _ _ _ _ _)
  have h0 : ∀ q, q < 8 → S 9 q = nI (fill (a_c a) k b 0 q) := by rw [fill_0]; exact hC.2.2.2.2.2.2.2.2
  have hC := hC.sc (f := upd (S 9) k (nI b)) (g := fill (a_c a) k b 1) (fill_up h0)
  have hk1 : (c_accept (nI k)) = 0 := by simp [c_accept, sk_nI hk, ix_nI (show k < 2 ^ 31 by omega)]
  refine W.widen (k := 1) (n := 6) (by decide) (by decide) ?_
  exact W.toX (W.vret hx hb hr (fun t ht hW => Or.inl ⟨hk1, ⟨rfl, ⟨_, ⟨_, _, _, rfl, by simpa [x_accept, sk_nI hk, ix_nI (show k < 2 ^ 31 by omega)] using hC⟩, by rw [ht]; exact hP⟩, hS.F ht⟩⟩) hS.2.2 dP_accept_14)
set_option maxHeartbeats 4000000 in
set_option maxRecDepth 100000 in
theorem c_P_run (hst : l.stackTraces = false) (G : gGeo ad 25 base) (ha : a_ok a) (hC : RepC pi dr S a) (d f t s0 : Int32) : MetX l yP_run (Cond.code yP_run bP_run 8 (some .int) :: tws) { frames := 8, cells := 1, slots := 6, locals := 123 } (gPc (tw D cI cZ cT cJ base) D cl ad 25 base (en ad cI cZ cT cJ pi dr S M o) [.ref (ad 0), .int d, .int f, .int t, .int s0]) (gQx D cl ad 25 base (en ad cI cZ cT cJ pi dr S M o) ["java/lang/IllegalArgumentException", "java/lang/IndexOutOfBoundsException"] (c_run a d f t s0) (some (.int (nI (rns a (ix d) (ix f) (ix s0) (ix t - ix f))))) (fun e => ∃ (pi1 : Nat → Nat) (dr1 : Nat) (S1 : Nat → Nat → Int32), e = en ad cI cZ cT cJ pi1 dr1 S1 M o ∧ RepC pi1 dr1 S1 (a))) 1 6 (gA base) := by
  refine MetX.ofW (cc := bP_run) (maxL := 8) (ret := (some .int)) (by decide) rfl ?_
  intro p e s m args below meth c s₁ B hml hv
  obtain ⟨rfl, htw, hB, hP⟩ := hv
  have hx := B.exec
  have hb := B.bytes
  have hr := B.returns
  have hts0 := atoms_spec (ws := Cond.code yP_run bP_run 8 (some .int) :: tws) B.pre
  have hts : ∀ w ∈ tws, w.before _ s = true := fun w h => hts0 w (List.mem_cons_of_mem _ h)
  have hown : s.vm.findClass "PairedTexts" = some m.cls := findClass_of_methodNamed B.named
  have hlocks := B.notSynchronized
  have hno := B.noHandlers (hts0 _ List.mem_cons_self)
  have F : CallFix p m c bP_run 8 s _ tws "PairedTexts" := ⟨hx, hb, hml, hown, hts⟩
  have hK := htw.1
  have hS : va_S (gA base) s.heap s.heap [] := va_S.rf
  have hl := lv_entry ([.ref (ad 0), .int d, .int f, .int t, .int s0]) (n := 8) (Nat.le_of_ble_eq_true rfl)
  rw [lg_entry_eq]
  generalize (lg_sl ([.ref (ad 0), .int d, .int f, .int t, .int s0]) ++ List.replicate (8 - (lg_sl ([.ref (ad 0), .int d, .int f, .int t, .int s0])).length) Slot.unset).toArray = ls at hl ⊢
  have hl : lv_has ls 8 [(0, .ref (ad 0)), (1, .int d), (2, .int f), (3, .int t), (4, .int s0)] := hl
  have hdr := hC.2.1
  refine lv_aload_n hx hb dP_run_0 rfl (lv_at hl 0 rfl) ?_
  refine lv_iload_n hx hb dP_run_1 rfl (lv_at hl 1 rfl) ?_
  rcases dk_or d with hd | ⟨k, hk, rfl⟩
  · have hk1 : (c_run a d f t s0) = 1 := by simp [c_run, hd.1]
    exact g_VTh (k := 1) F hlocks hno htw hB hS hP (0) (by decide) rfl rfl (c_P_textOf_th hst hd.2) k1_92 k1_94 k0_0 k1_1 k1_95 (by decide +kernel) rfl rfl ⟨Nat.le_of_ble_eq_true rfl, Nat.le_of_ble_eq_true rfl⟩ rfl hl.1 rfl (Nat.le_of_ble_eq_true rfl) dP_run_2 ⟨Nat.le_of_ble_eq_true rfl, Nat.le_of_ble_eq_true rfl⟩ (by rw [hk1]; decide) (by rw [hk1]; rfl)
  refine g_V (k := 1) F htw hB hS hP (0) (by decide) rfl rfl (c_P_textOf hk) k1_92 k1_94 k0_0 k1_1 k1_95 (by decide +kernel) rfl rfl ⟨Nat.le_of_ble_eq_true rfl, Nat.le_of_ble_eq_true rfl⟩ rfl hl.1 rfl (Nat.le_of_ble_eq_true rfl) dP_run_2 ⟨Nat.le_of_ble_eq_true rfl, Nat.le_of_ble_eq_true rfl⟩ (fun en1 H locs he hP hS => ?_)
  obtain rfl := he
  have hp_k := (hC.1 k hk).1
  have hn_k := ha.1 k hk
  have h5_k := hC.2.2.2.1 k hk
  refine lv_astore hx hb dP_run_5 hl (by decide) rfl (fun ls hl => ?_)
  have hl : lv_has ls 8 [(5, .ref _), (0, .ref _), (1, .int _), (2, .int _), (3, .int _), (4, .int _)] := hl
  refine lv_iload hx hb dP_run_7 (lv_at hl 5 rfl) ?_
  rcases sk_or s0 with hd | ⟨g, hg, rfl⟩
  · have hk1 : (c_run a (nI k) f t s0) = 1 := by simp [c_run, dk_nI hk, ix_nI (show k < 2 ^ 31 by omega), hd.1]
    exact g_STh (k := 1) F hlocks hno htw hB hS hP (c_P_requireState_th hst hd.2) k2_157 k2_158 k1_1 k2_159 (by decide +kernel) rfl rfl ⟨Nat.le_of_ble_eq_true rfl, Nat.le_of_ble_eq_true rfl⟩ rfl hl.1 rfl (Nat.le_of_ble_eq_true rfl) dP_run_9 ⟨Nat.le_of_ble_eq_true rfl, Nat.le_of_ble_eq_true rfl⟩ (by rw [hk1]; decide) (by rw [hk1]; rfl)
  refine g_S (k := 1) F htw hB hS hP (c_P_requireState (by have := nI_toInt (show g < 2 ^ 31 by omega); omega) (by have := nI_toInt (show g < 2 ^ 31 by omega); omega)) k2_157 k2_158 k1_1 k2_159 (by decide +kernel) rfl rfl ⟨Nat.le_of_ble_eq_true rfl, Nat.le_of_ble_eq_true rfl⟩ rfl hl.1 rfl (Nat.le_of_ble_eq_true rfl) dP_run_9 ⟨Nat.le_of_ble_eq_true rfl, Nat.le_of_ble_eq_true rfl⟩ (fun en1 H locs he hP hS => ?_)
  obtain rfl := he
  refine lv_aload hx hb dP_run_12 (lv_at hl 0 rfl) ?_
  refine lv_iload_n hx hb dP_run_14 rfl (lv_at hl 3 rfl) ?_
  refine lv_iload_n hx hb dP_run_15 rfl (lv_at hl 4 rfl) ?_
  refine lv_i2l hx hb dP_run_16 rfl ?_
  refine g_V (k := 2) F htw hB hS hP (2 + 2 * pi k) (by omega) (en_T _ _ _ _ _ _ _ _ _ _ hp_k) rfl (c_rng hC ha hk f t) k2_0 k2_1 k2_2 k1_2 k2_3 (by decide +kernel) rfl rfl ⟨Nat.le_of_ble_eq_true rfl, Nat.le_of_ble_eq_true rfl⟩ rfl hl.1 rfl (Nat.le_of_ble_eq_true rfl) dP_run_17 ⟨Nat.le_of_ble_eq_true rfl, Nat.le_of_ble_eq_true rfl⟩ (fun en1 H locs he hP hS => ?_)
  obtain rfl := he
  rcases rg_or f t hn_k with hr | ⟨f1, t1, hft, htn, rfl, rfl⟩
  · have hk1 : (c_run a (nI k) f t (nI g)) = 2 := by simp [c_run, dk_nI hk, ix_nI (show k < 2 ^ 31 by omega), sk_nI hg, ix_nI (show g < 2 ^ 31 by omega), hr]
    rw [show (if rg f t (a_n a k) then (1 : Int32) else 0) = 0 from by rw [hr]; rfl]
    exact g_STh (k := 1) F hlocks hno htw hB hS hP (c_P_requireInside_th hst) k1_214 k1_215 k1_1 k1_216 (by decide +kernel) rfl rfl ⟨Nat.le_of_ble_eq_true rfl, Nat.le_of_ble_eq_true rfl⟩ rfl hl.1 rfl (Nat.le_of_ble_eq_true rfl) dP_run_20 ⟨Nat.le_of_ble_eq_true rfl, Nat.le_of_ble_eq_true rfl⟩ (by rw [hk1]; decide) (by rw [hk1]; rfl)
  rw [show (if rg (nI f1) (nI t1) (a_n a k) then (1 : Int32) else 0) = 1 from if_pos (rg_nI hft htn hn_k)]
  refine g_S (k := 1) F htw hB hS hP (c_P_requireInside) k1_214 k1_215 k1_1 k1_216 (by decide +kernel) rfl rfl ⟨Nat.le_of_ble_eq_true rfl, Nat.le_of_ble_eq_true rfl⟩ rfl hl.1 rfl (Nat.le_of_ble_eq_true rfl) dP_run_20 ⟨Nat.le_of_ble_eq_true rfl, Nat.le_of_ble_eq_true rfl⟩ (fun en1 H locs he hP hS => ?_)
  obtain rfl := he
  have hk1 : (c_run a (nI k) (nI f1) (nI t1) (nI g)) = 0 := by simp [c_run, dk_nI hk, ix_nI (show k < 2 ^ 31 by omega), sk_nI hg, ix_nI (show g < 2 ^ 31 by omega), rg_nI hft htn hn_k, ix_nI (show f1 < 2 ^ 31 by omega), ix_nI (show t1 < 2 ^ 31 by omega)]
  refine lv_iload hx hb dP_run_23 (lv_at hl 5 rfl) ?_
  refine lv_istore hx hb dP_run_25 hl (by decide) rfl (fun ls hl => ?_)
  have hl : lv_has ls 8 [(6, .int _), (5, .ref _), (0, .ref _), (1, .int _), (2, .int _), (3, .int _), (4, .int _)] := hl
  refine lv_iload_n hx hb dP_run_27 rfl (lv_at hl 4 rfl) ?_
  refine lv_istore hx hb dP_run_28 hl (by decide) rfl (fun ls hl => ?_)
  have hl : lv_has ls 8 [(7, .int _), (6, .int _), (5, .ref _), (0, .ref _), (1, .int _), (2, .int _), (3, .int _), (4, .int _)] := hl
  have hl : lv_has ls 8 [(7, .int (nI (f1 + 0))), (6, .int (nI (rns a k f1 g 0))), (5, .ref (ad (2 + 2 * pi k))), (0, .ref (ad 0)), (1, .int (nI k)), (2, .int (nI f1)), (3, .int (nI t1)), (4, .int (nI g))] := hl
  refine W.loop (α := Nat) (fun t a1 ls H locs => f1 + a1 + t = t1 ∧ lv_has ls 8 [(7, .int (nI (f1 + a1))), (6, .int (nI (rns a k f1 g a1))), (5, .ref (ad (2 + 2 * pi k))), (0, .ref (ad 0)), (1, .int (nI k)), (2, .int (nI f1)), (3, .int (nI t1)), (4, .int (nI g))] ∧ va_P D cl (gw ad (en ad cI cZ cT cJ pi dr S M o) 25) H ∧ va_S (gA base) s.heap H locs) ?_ (t := (t1 - f1)) (a := 0) ⟨by show f1 + 0 + (t1 - f1) = t1; omega, hl, hP, hS⟩
  clear hl hP hS
  intro t a1 ls H locs hI ih
  obtain ⟨i0, hl, hP, hS⟩ := hI
  try dsimp only at i0 hl hP
  by_cases ht : t = 0
  · have hu : t1 - f1 = a1 := by omega
    refine lv_iload hx hb dP_run_30 (lv_at hl 0 rfl) ?_
    refine lv_iload_n hx hb dP_run_32 rfl (lv_at hl 6 rfl) ?_
    refine lv_icmp_ge (tgt := 61) hx hb dP_run_33 (by decide) (fun _ => ?_) (fun hc => absurd (by rw [nI_leI (by omega) (by omega)]; omega) hc)
    refine lv_iload hx hb dP_run_61 (lv_at hl 1 rfl) ?_
    refine W.widen (k := 1) (n := 6) (by decide) (by decide) ?_
    exact W.toX (W.iret hx hb hr (fun t ht hW => Or.inl ⟨hk1, ⟨by simp [hu, dk_nI hk, ix_nI (show k < 2 ^ 31 by omega), sk_nI hg, ix_nI (show g < 2 ^ 31 by omega), rg_nI hft htn hn_k, ix_nI (show f1 < 2 ^ 31 by omega), ix_nI (show t1 < 2 ^ 31 by omega)], ⟨_, ⟨_, _, _, rfl, hC⟩, by rw [ht]; exact hP⟩, hS.F ht⟩⟩) hS.2.2 dP_run_63)
  · refine lv_iload hx hb dP_run_30 (lv_at hl 0 rfl) ?_
    refine lv_iload_n hx hb dP_run_32 rfl (lv_at hl 6 rfl) ?_
    refine lv_icmp_ge (tgt := 61) hx hb dP_run_33 (by decide) (fun hc => absurd hc (by rw [nI_leI (by omega) (by omega)]; omega)) (fun _ => ?_)
    refine lv_aload_n hx hb dP_run_36 rfl (lv_at hl 3 rfl) ?_
    refine g_get F hK hP (0) (by decide) rfl rfl iP 2 (by decide) k1_72 rfl dP_run_37 ?_
    refine lv_iload hx hb dP_run_40 (lv_at hl 1 rfl) ?_
    refine lv_aload hx hb dP_run_42 (lv_at hl 2 rfl) ?_
    refine g_get F hK hP (2 + 2 * pi k) (by omega) (en_T _ _ _ _ _ _ _ _ _ _ hp_k) rfl iT 0 (by decide) k1_32 rfl dP_run_44 ?_
    refine lv_iload hx hb dP_run_47 (lv_at hl 0 rfl) ?_
    refine g_iald F hK hP (3 + 2 * pi k) (by omega) 0 (en_B _ _ _ _ _ _ _ _ _ _ hp_k) rfl (vp_in_nI (show f1 + a1 < 1000 by omega) (by omega)) dP_run_49 ?_
    rw [nI_clamp (show f1 + a1 < 2 ^ 31 by omega), hC.2.2.2.2.1 k (f1 + a1) hk (by omega)]
    have hrs : rns a k f1 g a1 < 8 := rns_lt ha hk hg a1 (by omega)
    have hbb := ha.2.1 k (f1 + a1) hk (by omega)
    refine g_V (k := 2) F htw hB hS hP (14) (by decide) rfl rfl (c_nxt hC hrs hbb) k2_179 k2_180 k2_181 k1_4 k2_182 (by decide +kernel) rfl rfl ⟨Nat.le_of_ble_eq_true rfl, Nat.le_of_ble_eq_true rfl⟩ rfl hl.1 rfl (Nat.le_of_ble_eq_true rfl) dP_run_50 ⟨Nat.le_of_ble_eq_true rfl, Nat.le_of_ble_eq_true rfl⟩ (fun en1 H locs he hP hS => ?_)
    obtain rfl := he
    refine lv_istore hx hb dP_run_53 hl (by decide) rfl (fun ls hl => ?_)
    have hl : lv_has ls 8 [(6, .int _), (7, .int _), (5, .ref _), (0, .ref _), (1, .int _), (2, .int _), (3, .int _), (4, .int _)] := hl
    refine lv_iinc (k := 1) hx hb dP_run_55 hl rfl rfl (by decide) rfl (fun ls hl => ?_)
    have hl : lv_has ls 8 [(7, .int _), (6, .int _), (5, .ref _), (0, .ref _), (1, .int _), (2, .int _), (3, .int _), (4, .int _)] := hl
    refine lv_goto (tgt := 30) hx hb dP_run_58 (by decide) ?_
    have hl : lv_has ls 8 [(7, .int (nI (f1 + (a1 + 1)))), (6, .int (nI (rns a k f1 g (a1 + 1)))), (5, .ref (ad (2 + 2 * pi k))), (0, .ref (ad 0)), (1, .int (nI k)), (2, .int (nI f1)), (3, .int (nI t1)), (4, .int (nI g))] := by rw [← Nat.add_assoc, ← nI_1]; exact hl
    exact ih (t - 1) (a1 + 1) _ _ _ (by omega) ⟨by show f1 + (a1 + 1) + (t - 1) = t1; omega, hl, hP, hS⟩
set_option maxHeartbeats 4000000 in
set_option maxRecDepth 100000 in
theorem c_P_accepted (hst : l.stackTraces = false) (G : gGeo ad 25 base) (ha : a_ok a) (hC : RepC pi dr S a) (d f t s0 : Int32) : MetX l yP_accepted (Cond.code yP_accepted bP_accepted 9 (some .int) :: tws) { frames := 8, cells := 1, slots := 6, locals := 123 } (gPc (tw D cI cZ cT cJ base) D cl ad 25 base (en ad cI cZ cT cJ pi dr S M o) [.ref (ad 0), .int d, .int f, .int t, .int s0]) (gQx D cl ad 25 base (en ad cI cZ cT cJ pi dr S M o) ["java/lang/IllegalArgumentException", "java/lang/IndexOutOfBoundsException"] (c_run a d f t s0) (some (.int (nI (acs a (ix d) (ix f) (ix s0) (ix t - ix f))))) (fun e => ∃ (pi1 : Nat → Nat) (dr1 : Nat) (S1 : Nat → Nat → Int32), e = en ad cI cZ cT cJ pi1 dr1 S1 M o ∧ RepC pi1 dr1 S1 (a))) 1 6 (gA base) := by
  refine MetX.ofW (cc := bP_accepted) (maxL := 9) (ret := (some .int)) (by decide) rfl ?_
  intro p e s m args below meth c s₁ B hml hv
  obtain ⟨rfl, htw, hB, hP⟩ := hv
  have hx := B.exec
  have hb := B.bytes
  have hr := B.returns
  have hts0 := atoms_spec (ws := Cond.code yP_accepted bP_accepted 9 (some .int) :: tws) B.pre
  have hts : ∀ w ∈ tws, w.before _ s = true := fun w h => hts0 w (List.mem_cons_of_mem _ h)
  have hown : s.vm.findClass "PairedTexts" = some m.cls := findClass_of_methodNamed B.named
  have hlocks := B.notSynchronized
  have hno := B.noHandlers (hts0 _ List.mem_cons_self)
  have F : CallFix p m c bP_accepted 9 s _ tws "PairedTexts" := ⟨hx, hb, hml, hown, hts⟩
  have hK := htw.1
  have hS : va_S (gA base) s.heap s.heap [] := va_S.rf
  have hl := lv_entry ([.ref (ad 0), .int d, .int f, .int t, .int s0]) (n := 9) (Nat.le_of_ble_eq_true rfl)
  rw [lg_entry_eq]
  generalize (lg_sl ([.ref (ad 0), .int d, .int f, .int t, .int s0]) ++ List.replicate (9 - (lg_sl ([.ref (ad 0), .int d, .int f, .int t, .int s0])).length) Slot.unset).toArray = ls at hl ⊢
  have hl : lv_has ls 9 [(0, .ref (ad 0)), (1, .int d), (2, .int f), (3, .int t), (4, .int s0)] := hl
  have hdr := hC.2.1
  refine lv_aload_n hx hb dP_accepted_0 rfl (lv_at hl 0 rfl) ?_
  refine lv_iload_n hx hb dP_accepted_1 rfl (lv_at hl 1 rfl) ?_
  rcases dk_or d with hd | ⟨k, hk, rfl⟩
  · have hk1 : (c_run a d f t s0) = 1 := by simp [c_run, hd.1]
    exact g_VTh (k := 1) F hlocks hno htw hB hS hP (0) (by decide) rfl rfl (c_P_textOf_th hst hd.2) k1_92 k1_94 k0_0 k1_1 k1_95 (by decide +kernel) rfl rfl ⟨Nat.le_of_ble_eq_true rfl, Nat.le_of_ble_eq_true rfl⟩ rfl hl.1 rfl (Nat.le_of_ble_eq_true rfl) dP_accepted_2 ⟨Nat.le_of_ble_eq_true rfl, Nat.le_of_ble_eq_true rfl⟩ (by rw [hk1]; decide) (by rw [hk1]; rfl)
  refine g_V (k := 1) F htw hB hS hP (0) (by decide) rfl rfl (c_P_textOf hk) k1_92 k1_94 k0_0 k1_1 k1_95 (by decide +kernel) rfl rfl ⟨Nat.le_of_ble_eq_true rfl, Nat.le_of_ble_eq_true rfl⟩ rfl hl.1 rfl (Nat.le_of_ble_eq_true rfl) dP_accepted_2 ⟨Nat.le_of_ble_eq_true rfl, Nat.le_of_ble_eq_true rfl⟩ (fun en1 H locs he hP hS => ?_)
  obtain rfl := he
  have hp_k := (hC.1 k hk).1
  have hn_k := ha.1 k hk
  have h5_k := hC.2.2.2.1 k hk
  refine lv_astore hx hb dP_accepted_5 hl (by decide) rfl (fun ls hl => ?_)
  have hl : lv_has ls 9 [(5, .ref _), (0, .ref _), (1, .int _), (2, .int _), (3, .int _), (4, .int _)] := hl
  refine lv_iload hx hb dP_accepted_7 (lv_at hl 5 rfl) ?_
  rcases sk_or s0 with hd | ⟨g, hg, rfl⟩
  · have hk1 : (c_run a (nI k) f t s0) = 1 := by simp [c_run, dk_nI hk, ix_nI (show k < 2 ^ 31 by omega), hd.1]
    exact g_STh (k := 1) F hlocks hno htw hB hS hP (c_P_requireState_th hst hd.2) k2_157 k2_158 k1_1 k2_159 (by decide +kernel) rfl rfl ⟨Nat.le_of_ble_eq_true rfl, Nat.le_of_ble_eq_true rfl⟩ rfl hl.1 rfl (Nat.le_of_ble_eq_true rfl) dP_accepted_9 ⟨Nat.le_of_ble_eq_true rfl, Nat.le_of_ble_eq_true rfl⟩ (by rw [hk1]; decide) (by rw [hk1]; rfl)
  refine g_S (k := 1) F htw hB hS hP (c_P_requireState (by have := nI_toInt (show g < 2 ^ 31 by omega); omega) (by have := nI_toInt (show g < 2 ^ 31 by omega); omega)) k2_157 k2_158 k1_1 k2_159 (by decide +kernel) rfl rfl ⟨Nat.le_of_ble_eq_true rfl, Nat.le_of_ble_eq_true rfl⟩ rfl hl.1 rfl (Nat.le_of_ble_eq_true rfl) dP_accepted_9 ⟨Nat.le_of_ble_eq_true rfl, Nat.le_of_ble_eq_true rfl⟩ (fun en1 H locs he hP hS => ?_)
  obtain rfl := he
  refine lv_aload hx hb dP_accepted_12 (lv_at hl 0 rfl) ?_
  refine lv_iload_n hx hb dP_accepted_14 rfl (lv_at hl 3 rfl) ?_
  refine lv_iload_n hx hb dP_accepted_15 rfl (lv_at hl 4 rfl) ?_
  refine lv_i2l hx hb dP_accepted_16 rfl ?_
  refine g_V (k := 2) F htw hB hS hP (2 + 2 * pi k) (by omega) (en_T _ _ _ _ _ _ _ _ _ _ hp_k) rfl (c_rng hC ha hk f t) k2_0 k2_1 k2_2 k1_2 k2_3 (by decide +kernel) rfl rfl ⟨Nat.le_of_ble_eq_true rfl, Nat.le_of_ble_eq_true rfl⟩ rfl hl.1 rfl (Nat.le_of_ble_eq_true rfl) dP_accepted_17 ⟨Nat.le_of_ble_eq_true rfl, Nat.le_of_ble_eq_true rfl⟩ (fun en1 H locs he hP hS => ?_)
  obtain rfl := he
  rcases rg_or f t hn_k with hr | ⟨f1, t1, hft, htn, rfl, rfl⟩
  · have hk1 : (c_run a (nI k) f t (nI g)) = 2 := by simp [c_run, dk_nI hk, ix_nI (show k < 2 ^ 31 by omega), sk_nI hg, ix_nI (show g < 2 ^ 31 by omega), hr]
    rw [show (if rg f t (a_n a k) then (1 : Int32) else 0) = 0 from by rw [hr]; rfl]
    exact g_STh (k := 1) F hlocks hno htw hB hS hP (c_P_requireInside_th hst) k1_214 k1_215 k1_1 k1_216 (by decide +kernel) rfl rfl ⟨Nat.le_of_ble_eq_true rfl, Nat.le_of_ble_eq_true rfl⟩ rfl hl.1 rfl (Nat.le_of_ble_eq_true rfl) dP_accepted_20 ⟨Nat.le_of_ble_eq_true rfl, Nat.le_of_ble_eq_true rfl⟩ (by rw [hk1]; decide) (by rw [hk1]; rfl)
  rw [show (if rg (nI f1) (nI t1) (a_n a k) then (1 : Int32) else 0) = 1 from if_pos (rg_nI hft htn hn_k)]
  refine g_S (k := 1) F htw hB hS hP (c_P_requireInside) k1_214 k1_215 k1_1 k1_216 (by decide +kernel) rfl rfl ⟨Nat.le_of_ble_eq_true rfl, Nat.le_of_ble_eq_true rfl⟩ rfl hl.1 rfl (Nat.le_of_ble_eq_true rfl) dP_accepted_20 ⟨Nat.le_of_ble_eq_true rfl, Nat.le_of_ble_eq_true rfl⟩ (fun en1 H locs he hP hS => ?_)
  obtain rfl := he
  have hk1 : (c_run a (nI k) (nI f1) (nI t1) (nI g)) = 0 := by simp [c_run, dk_nI hk, ix_nI (show k < 2 ^ 31 by omega), sk_nI hg, ix_nI (show g < 2 ^ 31 by omega), rg_nI hft htn hn_k, ix_nI (show f1 < 2 ^ 31 by omega), ix_nI (show t1 < 2 ^ 31 by omega)]
  refine lv_iload hx hb dP_accepted_23 (lv_at hl 5 rfl) ?_
  refine lv_istore hx hb dP_accepted_25 hl (by decide) rfl (fun ls hl => ?_)
  have hl : lv_has ls 9 [(6, .int _), (5, .ref _), (0, .ref _), (1, .int _), (2, .int _), (3, .int _), (4, .int _)] := hl
  refine lv_aload_n hx hb dP_accepted_27 rfl (lv_at hl 2 rfl) ?_
  refine g_get F hK hP (0) (by decide) rfl rfl iP 2 (by decide) k1_72 rfl dP_accepted_28 ?_
  refine g_get F hK hP (14) (by decide) rfl rfl iA 1 (by decide) k1_63 rfl dP_accepted_31 ?_
  refine lv_iload hx hb dP_accepted_34 (lv_at hl 0 rfl) ?_
  refine g_zald F hK hP (16) (by decide) 1 rfl rfl (vp_in_nI hg (by omega)) dP_accepted_36 ?_
  rw [nI_clamp (show g < 2 ^ 31 by omega), hC.2.2.2.2.2.2.2.2 g hg]
  have hac := ha.2.2.2.2.2 g hg
  have hacx := hac
  refine lv_if_eq (tgt := 44) hx hb dP_accepted_37 (by decide) (fun hc => ?_) (fun hc => ?_)
  · rw [show (0 : Int32) = nI 0 from rfl, nI_eq (by omega) (by omega)] at hc
    refine lv_iconst (v := 0) hx hb dP_accepted_44 (by decide) ?_
    refine lv_istore hx hb dP_accepted_45 hl (by decide) rfl (fun ls hl => ?_)
    have hl : lv_has ls 9 [(7, .int _), (6, .int _), (5, .ref _), (0, .ref _), (1, .int _), (2, .int _), (3, .int _), (4, .int _)] := hl
    refine lv_iload_n hx hb dP_accepted_47 rfl (lv_at hl 5 rfl) ?_
    refine lv_istore hx hb dP_accepted_48 hl (by decide) rfl (fun ls hl => ?_)
    have hl : lv_has ls 9 [(8, .int _), (7, .int _), (6, .int _), (5, .ref _), (0, .ref _), (1, .int _), (2, .int _), (3, .int _), (4, .int _)] := hl
    have hl : lv_has ls 9 [(8, .int (nI (f1 + 0))), (7, .int (nI (acs a k f1 g 0))), (6, .int (nI (rns a k f1 g 0))), (5, .ref (ad (2 + 2 * pi k))), (0, .ref (ad 0)), (1, .int (nI k)), (2, .int (nI f1)), (3, .int (nI t1)), (4, .int (nI g))] := by rw [show acs a k f1 g 0 = 0 from (show a_c a g = 0 by omega)]; exact hl
    refine W.loop (α := Nat) (fun t a1 ls H locs => f1 + a1 + t = t1 ∧ lv_has ls 9 [(8, .int (nI (f1 + a1))), (7, .int (nI (acs a k f1 g a1))), (6, .int (nI (rns a k f1 g a1))), (5, .ref (ad (2 + 2 * pi k))), (0, .ref (ad 0)), (1, .int (nI k)), (2, .int (nI f1)), (3, .int (nI t1)), (4, .int (nI g))] ∧ va_P D cl (gw ad (en ad cI cZ cT cJ pi dr S M o) 25) H ∧ va_S (gA base) s.heap H locs) ?_ (t := (t1 - f1)) (a := 0) ⟨by show f1 + 0 + (t1 - f1) = t1; omega, hl, hP, hS⟩
    clear hl hP hS
    intro t a1 ls H locs hI ih
    obtain ⟨i0, hl, hP, hS⟩ := hI
    try dsimp only at i0 hl hP
    by_cases ht : t = 0
    · have hu : t1 - f1 = a1 := by omega
      refine lv_iload hx hb dP_accepted_50 (lv_at hl 0 rfl) ?_
      refine lv_iload_n hx hb dP_accepted_52 rfl (lv_at hl 7 rfl) ?_
      refine lv_icmp_ge (tgt := 97) hx hb dP_accepted_53 (by decide) (fun _ => ?_) (fun hc => absurd (by rw [nI_leI (by omega) (by omega)]; omega) hc)
      refine lv_iload hx hb dP_accepted_97 (lv_at hl 1 rfl) ?_
      refine W.widen (k := 1) (n := 6) (by decide) (by decide) ?_
      exact W.toX (W.iret hx hb hr (fun t ht hW => Or.inl ⟨hk1, ⟨by simp [hu, dk_nI hk, ix_nI (show k < 2 ^ 31 by omega), sk_nI hg, ix_nI (show g < 2 ^ 31 by omega), rg_nI hft htn hn_k, ix_nI (show f1 < 2 ^ 31 by omega), ix_nI (show t1 < 2 ^ 31 by omega)], ⟨_, ⟨_, _, _, rfl, hC⟩, by rw [ht]; exact hP⟩, hS.F ht⟩⟩) hS.2.2 dP_accepted_99)
    · refine lv_iload hx hb dP_accepted_50 (lv_at hl 0 rfl) ?_
      refine lv_iload_n hx hb dP_accepted_52 rfl (lv_at hl 7 rfl) ?_
      refine lv_icmp_ge (tgt := 97) hx hb dP_accepted_53 (by decide) (fun hc => absurd hc (by rw [nI_leI (by omega) (by omega)]; omega)) (fun _ => ?_)
      refine lv_aload_n hx hb dP_accepted_56 rfl (lv_at hl 4 rfl) ?_
      refine g_get F hK hP (0) (by decide) rfl rfl iP 2 (by decide) k1_72 rfl dP_accepted_57 ?_
      refine lv_iload hx hb dP_accepted_60 (lv_at hl 2 rfl) ?_
      refine lv_aload hx hb dP_accepted_62 (lv_at hl 3 rfl) ?_
      refine g_get F hK hP (2 + 2 * pi k) (by omega) (en_T _ _ _ _ _ _ _ _ _ _ hp_k) rfl iT 0 (by decide) k1_32 rfl dP_accepted_64 ?_
      refine lv_iload hx hb dP_accepted_67 (lv_at hl 0 rfl) ?_
      refine g_iald F hK hP (3 + 2 * pi k) (by omega) 0 (en_B _ _ _ _ _ _ _ _ _ _ hp_k) rfl (vp_in_nI (show f1 + a1 < 1000 by omega) (by omega)) dP_accepted_69 ?_
      rw [nI_clamp (show f1 + a1 < 2 ^ 31 by omega), hC.2.2.2.2.1 k (f1 + a1) hk (by omega)]
      have hrs : rns a k f1 g a1 < 8 := rns_lt ha hk hg a1 (by omega)
      have hbb := ha.2.1 k (f1 + a1) hk (by omega)
      refine g_V (k := 2) F htw hB hS hP (14) (by decide) rfl rfl (c_nxt hC hrs hbb) k2_179 k2_180 k2_181 k1_4 k2_182 (by decide +kernel) rfl rfl ⟨Nat.le_of_ble_eq_true rfl, Nat.le_of_ble_eq_true rfl⟩ rfl hl.1 rfl (Nat.le_of_ble_eq_true rfl) dP_accepted_70 ⟨Nat.le_of_ble_eq_true rfl, Nat.le_of_ble_eq_true rfl⟩ (fun en1 H locs he hP hS => ?_)
      obtain rfl := he
      refine lv_istore hx hb dP_accepted_73 hl (by decide) rfl (fun ls hl => ?_)
      have hl : lv_has ls 9 [(6, .int _), (8, .int _), (7, .int _), (5, .ref _), (0, .ref _), (1, .int _), (2, .int _), (3, .int _), (4, .int _)] := hl
      refine lv_aload_n hx hb dP_accepted_75 rfl (lv_at hl 4 rfl) ?_
      refine g_get F hK hP (0) (by decide) rfl rfl iP 2 (by decide) k1_72 rfl dP_accepted_76 ?_
      refine g_get F hK hP (14) (by decide) rfl rfl iA 1 (by decide) k1_63 rfl dP_accepted_79 ?_
      refine lv_iload hx hb dP_accepted_82 (lv_at hl 0 rfl) ?_
      have hr2 : rns a k f1 g (a1 + 1) < 8 := rns_lt ha hk hg (a1 + 1) (by omega)
      rw [show a_x a (256 * rns a k f1 g a1 + a_b a k (f1 + a1)) = rns a k f1 g (a1 + 1) from rfl]
      refine g_zald F hK hP (16) (by decide) 1 rfl rfl (vp_in_nI hr2 (by omega)) dP_accepted_84 ?_
      rw [nI_clamp (show rns a k f1 g (a1 + 1) < 2 ^ 31 by omega), hC.2.2.2.2.2.2.2.2 _ hr2]
      have ha2 := ha.2.2.2.2.2 _ hr2
      refine lv_if_eq (tgt := 91) hx hb dP_accepted_85 (by decide) (fun hz => ?_) (fun hz => ?_)
      · rw [show (0 : Int32) = nI 0 from rfl, nI_eq (by omega) (by omega)] at hz
        refine lv_iinc (k := 1) hx hb dP_accepted_91 hl rfl rfl (by decide) rfl (fun ls hl => ?_)
        have hl : lv_has ls 9 [(8, .int _), (6, .int _), (7, .int _), (5, .ref _), (0, .ref _), (1, .int _), (2, .int _), (3, .int _), (4, .int _)] := hl
        refine lv_goto (tgt := 50) hx hb dP_accepted_94 (by decide) ?_
        have hl : lv_has ls 9 [(8, .int (nI (f1 + (a1 + 1)))), (7, .int (nI (acs a k f1 g (a1 + 1)))), (6, .int (nI (rns a k f1 g (a1 + 1)))), (5, .ref (ad (2 + 2 * pi k))), (0, .ref (ad 0)), (1, .int (nI k)), (2, .int (nI f1)), (3, .int (nI t1)), (4, .int (nI g))] := (lv_sub hl [0, 2, 1, 3, 4, 5, 6, 7, 8] rfl : lv_has ls 9 _) |> fun hl => by rw [show acs a k f1 g (a1 + 1) = acs a k f1 g a1 from (show acs a k f1 g a1 + a_c a (rns a k f1 g (a1 + 1)) = _ by omega), ← Nat.add_assoc, ← nI_1]; exact hl
        exact ih (t - 1) (a1 + 1) _ _ _ (by omega) ⟨by show f1 + (a1 + 1) + (t - 1) = t1; omega, hl, hP, hS⟩
      · rw [show (0 : Int32) = nI 0 from rfl, nI_eq (by omega) (by omega)] at hz
        refine lv_iinc (k := 2) hx hb dP_accepted_88 hl rfl rfl (by decide) rfl (fun ls hl => ?_)
        have hl : lv_has ls 9 [(7, .int _), (6, .int _), (8, .int _), (5, .ref _), (0, .ref _), (1, .int _), (2, .int _), (3, .int _), (4, .int _)] := hl
        refine lv_iinc (k := 2) hx hb dP_accepted_91 hl rfl rfl (by decide) rfl (fun ls hl => ?_)
        have hl : lv_has ls 9 [(8, .int _), (7, .int _), (6, .int _), (5, .ref _), (0, .ref _), (1, .int _), (2, .int _), (3, .int _), (4, .int _)] := hl
        refine lv_goto (tgt := 50) hx hb dP_accepted_94 (by decide) ?_
        have hl : lv_has ls 9 [(8, .int (nI (f1 + (a1 + 1)))), (7, .int (nI (acs a k f1 g (a1 + 1)))), (6, .int (nI (rns a k f1 g (a1 + 1)))), (5, .ref (ad (2 + 2 * pi k))), (0, .ref (ad 0)), (1, .int (nI k)), (2, .int (nI f1)), (3, .int (nI t1)), (4, .int (nI g))] := by rw [show acs a k f1 g (a1 + 1) = acs a k f1 g a1 + 1 from (show acs a k f1 g a1 + a_c a (rns a k f1 g (a1 + 1)) = _ by omega), ← Nat.add_assoc, ← nI_1, ← nI_1]; exact hl
        exact ih (t - 1) (a1 + 1) _ _ _ (by omega) ⟨by show f1 + (a1 + 1) + (t - 1) = t1; omega, hl, hP, hS⟩
  · rw [show (0 : Int32) = nI 0 from rfl, nI_eq (by omega) (by omega)] at hc
    refine lv_iconst (v := 1) hx hb dP_accepted_40 (by decide) ?_
    refine lv_goto (tgt := 45) hx hb dP_accepted_41 (by decide) ?_
    refine lv_istore hx hb dP_accepted_45 hl (by decide) rfl (fun ls hl => ?_)
    have hl : lv_has ls 9 [(7, .int _), (6, .int _), (5, .ref _), (0, .ref _), (1, .int _), (2, .int _), (3, .int _), (4, .int _)] := hl
    refine lv_iload_n hx hb dP_accepted_47 rfl (lv_at hl 5 rfl) ?_
    refine lv_istore hx hb dP_accepted_48 hl (by decide) rfl (fun ls hl => ?_)
    have hl : lv_has ls 9 [(8, .int _), (7, .int _), (6, .int _), (5, .ref _), (0, .ref _), (1, .int _), (2, .int _), (3, .int _), (4, .int _)] := hl
    have hl : lv_has ls 9 [(8, .int (nI (f1 + 0))), (7, .int (nI (acs a k f1 g 0))), (6, .int (nI (rns a k f1 g 0))), (5, .ref (ad (2 + 2 * pi k))), (0, .ref (ad 0)), (1, .int (nI k)), (2, .int (nI f1)), (3, .int (nI t1)), (4, .int (nI g))] := by rw [show acs a k f1 g 0 = 1 from (show a_c a g = 1 by omega)]; exact hl
    refine W.loop (α := Nat) (fun t a1 ls H locs => f1 + a1 + t = t1 ∧ lv_has ls 9 [(8, .int (nI (f1 + a1))), (7, .int (nI (acs a k f1 g a1))), (6, .int (nI (rns a k f1 g a1))), (5, .ref (ad (2 + 2 * pi k))), (0, .ref (ad 0)), (1, .int (nI k)), (2, .int (nI f1)), (3, .int (nI t1)), (4, .int (nI g))] ∧ va_P D cl (gw ad (en ad cI cZ cT cJ pi dr S M o) 25) H ∧ va_S (gA base) s.heap H locs) ?_ (t := (t1 - f1)) (a := 0) ⟨by show f1 + 0 + (t1 - f1) = t1; omega, hl, hP, hS⟩
    clear hl hP hS
    intro t a1 ls H locs hI ih
    obtain ⟨i0, hl, hP, hS⟩ := hI
    try dsimp only at i0 hl hP
    by_cases ht : t = 0
    · have hu : t1 - f1 = a1 := by omega
      refine lv_iload hx hb dP_accepted_50 (lv_at hl 0 rfl) ?_
      refine lv_iload_n hx hb dP_accepted_52 rfl (lv_at hl 7 rfl) ?_
      refine lv_icmp_ge (tgt := 97) hx hb dP_accepted_53 (by decide) (fun _ => ?_) (fun hc => absurd (by rw [nI_leI (by omega) (by omega)]; omega) hc)
      refine lv_iload hx hb dP_accepted_97 (lv_at hl 1 rfl) ?_
      refine W.widen (k := 1) (n := 6) (by decide) (by decide) ?_
      exact W.toX (W.iret hx hb hr (fun t ht hW => Or.inl ⟨hk1, ⟨by simp [hu, dk_nI hk, ix_nI (show k < 2 ^ 31 by omega), sk_nI hg, ix_nI (show g < 2 ^ 31 by omega), rg_nI hft htn hn_k, ix_nI (show f1 < 2 ^ 31 by omega), ix_nI (show t1 < 2 ^ 31 by omega)], ⟨_, ⟨_, _, _, rfl, hC⟩, by rw [ht]; exact hP⟩, hS.F ht⟩⟩) hS.2.2 dP_accepted_99)
    · refine lv_iload hx hb dP_accepted_50 (lv_at hl 0 rfl) ?_
      refine lv_iload_n hx hb dP_accepted_52 rfl (lv_at hl 7 rfl) ?_
      refine lv_icmp_ge (tgt := 97) hx hb dP_accepted_53 (by decide) (fun hc => absurd hc (by rw [nI_leI (by omega) (by omega)]; omega)) (fun _ => ?_)
      refine lv_aload_n hx hb dP_accepted_56 rfl (lv_at hl 4 rfl) ?_
      refine g_get F hK hP (0) (by decide) rfl rfl iP 2 (by decide) k1_72 rfl dP_accepted_57 ?_
      refine lv_iload hx hb dP_accepted_60 (lv_at hl 2 rfl) ?_
      refine lv_aload hx hb dP_accepted_62 (lv_at hl 3 rfl) ?_
      refine g_get F hK hP (2 + 2 * pi k) (by omega) (en_T _ _ _ _ _ _ _ _ _ _ hp_k) rfl iT 0 (by decide) k1_32 rfl dP_accepted_64 ?_
      refine lv_iload hx hb dP_accepted_67 (lv_at hl 0 rfl) ?_
      refine g_iald F hK hP (3 + 2 * pi k) (by omega) 0 (en_B _ _ _ _ _ _ _ _ _ _ hp_k) rfl (vp_in_nI (show f1 + a1 < 1000 by omega) (by omega)) dP_accepted_69 ?_
      rw [nI_clamp (show f1 + a1 < 2 ^ 31 by omega), hC.2.2.2.2.1 k (f1 + a1) hk (by omega)]
      have hrs : rns a k f1 g a1 < 8 := rns_lt ha hk hg a1 (by omega)
      have hbb := ha.2.1 k (f1 + a1) hk (by omega)
      refine g_V (k := 2) F htw hB hS hP (14) (by decide) rfl rfl (c_nxt hC hrs hbb) k2_179 k2_180 k2_181 k1_4 k2_182 (by decide +kernel) rfl rfl ⟨Nat.le_of_ble_eq_true rfl, Nat.le_of_ble_eq_true rfl⟩ rfl hl.1 rfl (Nat.le_of_ble_eq_true rfl) dP_accepted_70 ⟨Nat.le_of_ble_eq_true rfl, Nat.le_of_ble_eq_true rfl⟩ (fun en1 H locs he hP hS => ?_)
      obtain rfl := he
      refine lv_istore hx hb dP_accepted_73 hl (by decide) rfl (fun ls hl => ?_)
      have hl : lv_has ls 9 [(6, .int _), (8, .int _), (7, .int _), (5, .ref _), (0, .ref _), (1, .int _), (2, .int _), (3, .int _), (4, .int _)] := hl
      refine lv_aload_n hx hb dP_accepted_75 rfl (lv_at hl 4 rfl) ?_
      refine g_get F hK hP (0) (by decide) rfl rfl iP 2 (by decide) k1_72 rfl dP_accepted_76 ?_
      refine g_get F hK hP (14) (by decide) rfl rfl iA 1 (by decide) k1_63 rfl dP_accepted_79 ?_
      refine lv_iload hx hb dP_accepted_82 (lv_at hl 0 rfl) ?_
      have hr2 : rns a k f1 g (a1 + 1) < 8 := rns_lt ha hk hg (a1 + 1) (by omega)
      rw [show a_x a (256 * rns a k f1 g a1 + a_b a k (f1 + a1)) = rns a k f1 g (a1 + 1) from rfl]
      refine g_zald F hK hP (16) (by decide) 1 rfl rfl (vp_in_nI hr2 (by omega)) dP_accepted_84 ?_
      rw [nI_clamp (show rns a k f1 g (a1 + 1) < 2 ^ 31 by omega), hC.2.2.2.2.2.2.2.2 _ hr2]
      have ha2 := ha.2.2.2.2.2 _ hr2
      refine lv_if_eq (tgt := 91) hx hb dP_accepted_85 (by decide) (fun hz => ?_) (fun hz => ?_)
      · rw [show (0 : Int32) = nI 0 from rfl, nI_eq (by omega) (by omega)] at hz
        refine lv_iinc (k := 1) hx hb dP_accepted_91 hl rfl rfl (by decide) rfl (fun ls hl => ?_)
        have hl : lv_has ls 9 [(8, .int _), (6, .int _), (7, .int _), (5, .ref _), (0, .ref _), (1, .int _), (2, .int _), (3, .int _), (4, .int _)] := hl
        refine lv_goto (tgt := 50) hx hb dP_accepted_94 (by decide) ?_
        have hl : lv_has ls 9 [(8, .int (nI (f1 + (a1 + 1)))), (7, .int (nI (acs a k f1 g (a1 + 1)))), (6, .int (nI (rns a k f1 g (a1 + 1)))), (5, .ref (ad (2 + 2 * pi k))), (0, .ref (ad 0)), (1, .int (nI k)), (2, .int (nI f1)), (3, .int (nI t1)), (4, .int (nI g))] := (lv_sub hl [0, 2, 1, 3, 4, 5, 6, 7, 8] rfl : lv_has ls 9 _) |> fun hl => by rw [show acs a k f1 g (a1 + 1) = acs a k f1 g a1 from (show acs a k f1 g a1 + a_c a (rns a k f1 g (a1 + 1)) = _ by omega), ← Nat.add_assoc, ← nI_1]; exact hl
        exact ih (t - 1) (a1 + 1) _ _ _ (by omega) ⟨by show f1 + (a1 + 1) + (t - 1) = t1; omega, hl, hP, hS⟩
      · rw [show (0 : Int32) = nI 0 from rfl, nI_eq (by omega) (by omega)] at hz
        refine lv_iinc (k := 2) hx hb dP_accepted_88 hl rfl rfl (by decide) rfl (fun ls hl => ?_)
        have hl : lv_has ls 9 [(7, .int _), (6, .int _), (8, .int _), (5, .ref _), (0, .ref _), (1, .int _), (2, .int _), (3, .int _), (4, .int _)] := hl
        refine lv_iinc (k := 2) hx hb dP_accepted_91 hl rfl rfl (by decide) rfl (fun ls hl => ?_)
        have hl : lv_has ls 9 [(8, .int _), (7, .int _), (6, .int _), (5, .ref _), (0, .ref _), (1, .int _), (2, .int _), (3, .int _), (4, .int _)] := hl
        refine lv_goto (tgt := 50) hx hb dP_accepted_94 (by decide) ?_
        have hl : lv_has ls 9 [(8, .int (nI (f1 + (a1 + 1)))), (7, .int (nI (acs a k f1 g (a1 + 1)))), (6, .int (nI (rns a k f1 g (a1 + 1)))), (5, .ref (ad (2 + 2 * pi k))), (0, .ref (ad 0)), (1, .int (nI k)), (2, .int (nI f1)), (3, .int (nI t1)), (4, .int (nI g))] := by rw [show acs a k f1 g (a1 + 1) = acs a k f1 g a1 + 1 from (show acs a k f1 g a1 + a_c a (rns a k f1 g (a1 + 1)) = _ by omega), ← Nat.add_assoc, ← nI_1, ← nI_1]; exact hl
        exact ih (t - 1) (a1 + 1) _ _ _ (by omega) ⟨by show f1 + (a1 + 1) + (t - 1) = t1; omega, hl, hP, hS⟩
end M10
