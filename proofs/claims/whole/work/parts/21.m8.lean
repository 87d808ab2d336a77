/-! The class's calls: prefix, order, same, name, pattern, count, find, lead, accept, run, accepted. -/
theorem l_add (x y : Int32) : (x.toInt64 + y.toInt64).toInt = x.toInt + y.toInt := by
  rw [Int64.toInt_add, Int32.toInt_toInt64, Int32.toInt_toInt64]
  have h1 := Int32.toInt_lt x
  have h2 := Int32.le_toInt x
  have h3 := Int32.toInt_lt y
  have h4 := Int32.le_toInt y
  apply Int.bmod_eq_of_le <;> omega
theorem rgL_sm (i : Int32) {j : Nat} (hj : j < 2 ^ 31) (N : Nat) : rgL i (i.toInt64 + (nI j).toInt64) N = smL i (nI j) N := by
  have := nI_toInt hj
  unfold rgL smL
  rw [l_add]
  congr 1
  apply propext
  omega
theorem sm_or (i : Int32) {j N : Nat} (hj : j < 2 ^ 31) (hN : N ≤ 1000) : smL i (nI j) N = false ∨ ∃ i', i' + j ≤ N ∧ i = nI i' := by
  have := nI_toInt hj
  by_cases h : 0 ≤ i.toInt ∧ i.toInt + (nI j).toInt ≤ (N : Int)
  · have h1 := ix_toInt h.1
    exact Or.inr ⟨ix i, by omega, nI_ix h.1⟩
  · exact Or.inl (by unfold smL; simp only [decide_eq_false_iff_not]; exact h)
theorem sm_nI {i j N : Nat} (h : i + j ≤ N) (hN : N ≤ 1000) : smL (nI i) (nI j) N = true := by
  have := nI_toInt (show i < 2 ^ 31 by omega)
  have := nI_toInt (show j < 2 ^ 31 by omega)
  unfold smL; simp only [decide_eq_true_eq]; omega
theorem RepC.pat {pi : Nat → Nat} {dr : Nat} {S : Nat → Nat → Int32} {a : Ab} {g : Nat → Nat} {n : Nat} (h : RepC pi dr S a) : RepC pi dr (sr (sr S 6 (fil (S 6) g n)) 7 (upd (S 7) 0 (nI n))) (a_n a, a_b a, n, g, a_x a, a_c a) := by
  obtain ⟨c1, c2, c3, c4, c5, c6, c7, c8, c9⟩ := h
  have row : ∀ r, r ≠ 6 → r ≠ 7 → sr (sr S 6 (fil (S 6) g n)) 7 (upd (S 7) 0 (nI n)) r = S r := fun r h1 h2 => by rw [sr_n h2, sr_n h1]
  refine ⟨c1, c2, c3, fun d hd => ?_, fun d i hd hi => ?_, ?_, fun q hq => ?_, fun q hq => ?_, fun q hq => ?_⟩
  · rw [row 5 (by decide) (by decide)]; exact c4 d hd
  · have := (c1 d hd).1; rw [row _ (by omega) (by omega)]; exact c5 d i hd hi
  · rw [sr_s]; exact pk_us
  · rw [sr_n (by decide), sr_s]; exact if_pos hq
  · rw [row 8 (by decide) (by decide)]; exact c8 q hq
  · rw [row 9 (by decide) (by decide)]; exact c9 q hq
theorem RepC.sx {pi : Nat → Nat} {dr : Nat} {S : Nat → Nat → Int32} {a : Ab} {f : Nat → Int32} {g : Nat → Nat} (h : RepC pi dr S a) (hf : ∀ q, q < 2048 → f q = nI (g q)) : RepC pi dr (sr S 8 f) (a_n a, a_b a, a_p a, a_q a, g, a_c a) := by
  obtain ⟨c1, c2, c3, c4, c5, c6, c7, c8, c9⟩ := h
  refine ⟨c1, c2, c3, fun d hd => ?_, fun d i hd hi => ?_, ?_, fun q hq => ?_, fun q hq => ?_, fun q hq => ?_⟩
  · rw [sr_n (by decide)]; exact c4 d hd
  · have := (c1 d hd).1; rw [sr_n (by omega)]; exact c5 d i hd hi
  · rw [sr_n (by decide)]; exact c6
  · rw [sr_n (by decide)]; exact c7 q hq
  · rw [sr_s]; exact hf q hq
  · rw [sr_n (by decide)]; exact c9 q hq
theorem RepC.sc {pi : Nat → Nat} {dr : Nat} {S : Nat → Nat → Int32} {a : Ab} {f : Nat → Int32} {g : Nat → Nat} (h : RepC pi dr S a) (hf : ∀ q, q < 8 → f q = nI (g q)) : RepC pi dr (sr S 9 f) (a_n a, a_b a, a_p a, a_q a, a_x a, g) := by
  obtain ⟨c1, c2, c3, c4, c5, c6, c7, c8, c9⟩ := h
  refine ⟨c1, c2, c3, fun d hd => ?_, fun d i hd hi => ?_, ?_, fun q hq => ?_, fun q hq => ?_, fun q hq => ?_⟩
  · rw [sr_n (by decide)]; exact c4 d hd
  · have := (c1 d hd).1; rw [sr_n (by omega)]; exact c5 d i hd hi
  · rw [sr_n (by decide)]; exact c6
  · rw [sr_n (by decide)]; exact c7 q hq
  · rw [sr_n (by decide)]; exact c8 q hq
  · rw [sr_s]; exact hf q hq
section M8
variable {l : Launch} {D : va_G} {cI cZ cT cJ : ClassId} {base : Nat} {ad : Nat → Nat} {pi : Nat → Nat} {dr : Nat} {S M : Nat → Nat → Int32} {o : Nat → Int64} {a : Ab}
theorem c_cmn (hC : RepC pi dr S a) (ha : a_ok a) {d d2 i j : Nat} (hd : d < 4) (hd2 : d2 < 4) (hi : i ≤ a_n a d) (hj : j ≤ a_n a d2) : Met l yP_commonBeginning (Cond.code yP_commonBeginning bP_commonBeginning 6 (some .int) :: tws) { frames := 1, cells := 0, slots := 0, locals := 21 } (gPc (tw D cI cZ cT cJ base) D cl ad 25 base (en ad cI cZ cT cJ pi dr S M o) [.ref (ad (2 + 2 * pi d)), .int (nI i), .ref (ad (2 + 2 * pi d2)), .int (nI j)]) (gQc D cl ad 25 base (some (.int (nI (cpr a d i d2 j)))) (fun e => e = en ad cI cZ cT cJ pi dr S M o)) 0 0 (gA base) := by
  refine gQ_imp (c_P_commonBeginning (hC.1 d hd).1 (hC.1 d2 hd2).1 (ha.1 d hd) (ha.1 d2 hd2) hi hj (hC.2.2.2.1 d hd) (hC.2.2.2.1 d2 hd2)) ?_ (fun e he => he)
  unfold cpr
  rw [cpx_congr]
  intro c _ hc
  have h1 := ha.2.1 d (i + c) hd (by omega)
  have h2 := ha.2.1 d2 (j + c) hd2 (by omega)
  rw [hC.2.2.2.2.1 d (i + c) hd (by omega), hC.2.2.2.2.1 d2 (j + c) hd2 (by omega)]
  congr 1
  exact propext (nI_eq (by omega) (by omega))
theorem c_std (hC : RepC pi dr S a) (ha : a_ok a) {d i e0 : Nat} (hd : d < 4) (hi : i ≤ e0) (he : e0 ≤ a_n a d) : Met l yQ_standsAt (Cond.code yQ_standsAt bQ_standsAt 5 (some .boolean) :: tws) { frames := 0, cells := 0, slots := 0, locals := 0 } (gPc (tw D cI cZ cT cJ base) D cl ad 25 base (en ad cI cZ cT cJ pi dr S M o) [.ref (ad 12), .ref (ad (2 + 2 * pi d)), .int (nI i), .int (nI e0)]) (gQc D cl ad 25 base (some (.int (if stB a d i e0 then 1 else 0))) (fun e => e = en ad cI cZ cT cJ pi dr S M o)) 0 0 (gA base) := by
  refine gQ_imp (c_Q_standsAt (hC.1 d hd).1 hi (by have := ha.1 d hd; omega) ha.2.2.1 hC.2.2.2.2.2.1) ?_ (fun e he => he)
  have h : (decide (a_p a ≤ e0 - i) && alb (fun k => decide (S (pi d) (i + k) = S 6 k)) (a_p a) 0) = stB a d i e0 := by
    unfold stB
    by_cases hp : a_p a ≤ e0 - i
    · congr 1
      refine alb_congr _ _ (fun k _ hk => ?_)
      have h1 := ha.2.1 d (i + k) hd (by omega)
      have h2 := ha.2.2.2.1 k (by omega)
      rw [hC.2.2.2.2.1 d (i + k) hd (by omega), hC.2.2.2.2.2.2.1 k (by omega)]
      congr 1
      exact propext (nI_eq (by omega) (by omega))
    · simp [hp]
  rw [h]
theorem c_nxt (hC : RepC pi dr S a) {s0 b : Nat} (hs : s0 < 8) (hb : b < 256) : Met l yA_nextOf (Cond.code yA_nextOf bA_nextOf 3 (some .int) :: tws) { frames := 0, cells := 0, slots := 0, locals := 0 } (gPc (tw D cI cZ cT cJ base) D cl ad 25 base (en ad cI cZ cT cJ pi dr S M o) [.ref (ad 14), .int (nI s0), .int (nI b)]) (gQc D cl ad 25 base (some (.int (nI (a_x a (256 * s0 + b))))) (fun e => e = en ad cI cZ cT cJ pi dr S M o)) 0 0 (gA base) :=
  gQ_imp (c_A_nextOf hs hb) (by rw [hC.2.2.2.2.2.2.2.1 _ (by omega)]) (fun e he => he)
set_option maxHeartbeats 4000000 in
set_option maxRecDepth 100000 in
theorem c_P_prefix (hst : l.stackTraces = false) (G : gGeo ad 25 base) (ha : a_ok a) (hC : RepC pi dr S a) (d i d2 j : Int32) : MetX l yP_prefix (Cond.code yP_prefix bP_prefix 7 (some .int) :: tws) { frames := 8, cells := 1, slots := 6, locals := 123 } (gPc (tw D cI cZ cT cJ base) D cl ad 25 base (en ad cI cZ cT cJ pi dr S M o) [.ref (ad 0), .int d, .int i, .int d2, .int j]) (gQx D cl ad 25 base (en ad cI cZ cT cJ pi dr S M o) ["java/lang/IllegalArgumentException", "java/lang/IndexOutOfBoundsException"] (c_prefix a d i d2 j) (some (.int (nI (cpr a (ix d) (ix i) (ix d2) (ix j))))) (fun e => ∃ (pi1 : Nat → Nat) (dr1 : Nat) (S1 : Nat → Nat → Int32), e = en ad cI cZ cT cJ pi1 dr1 S1 M o ∧ RepC pi1 dr1 S1 (a))) 1 6 (gA base) := by
  refine MetX.ofW (cc := bP_prefix) (maxL := 7) (ret := (some .int)) (by decide) rfl ?_
  intro p e s m args below meth c s₁ B hml hv
  obtain ⟨rfl, htw, hB, hP⟩ := hv
  have hx := B.exec
  have hb := B.bytes
  have hr := B.returns
  have hts0 := atoms_spec (ws := Cond.code yP_prefix bP_prefix 7 (some .int) :: tws) B.pre
  have hts : ∀ w ∈ tws, w.before _ s = true := fun w h => hts0 w (List.mem_cons_of_mem _ h)
  have hown : s.vm.findClass "PairedTexts" = some m.cls := findClass_of_methodNamed B.named
  have hlocks := B.notSynchronized
  have hno := B.noHandlers (hts0 _ List.mem_cons_self)
  have F : CallFix p m c bP_prefix 7 s _ tws "PairedTexts" := ⟨hx, hb, hml, hown, hts⟩
  have hK := htw.1
  have hS : va_S (gA base) s.heap s.heap [] := va_S.rf
  have hl := lv_entry ([.ref (ad 0), .int d, .int i, .int d2, .int j]) (n := 7) (Nat.le_of_ble_eq_true rfl)
  rw [lg_entry_eq]
  generalize (lg_sl ([.ref (ad 0), .int d, .int i, .int d2, .int j]) ++ List.replicate (7 - (lg_sl ([.ref (ad 0), .int d, .int i, .int d2, .int j])).length) Slot.unset).toArray = ls at hl ⊢
  have hl : lv_has ls 7 [(0, .ref (ad 0)), (1, .int d), (2, .int i), (3, .int d2), (4, .int j)] := hl
  have hdr := hC.2.1
  refine lv_aload_n hx hb dP_prefix_0 rfl (lv_at hl 0 rfl) ?_
  refine lv_iload_n hx hb dP_prefix_1 rfl (lv_at hl 1 rfl) ?_
  rcases dk_or d with hd | ⟨k, hk, rfl⟩
  · have hk1 : (c_prefix a d i d2 j) = 1 := by simp [c_prefix, hd.1]
    exact g_VTh (k := 1) F hlocks hno htw hB hS hP (0) (by decide) rfl rfl (c_P_textOf_th hst hd.2) k1_92 k1_94 k0_0 k1_1 k1_95 (by decide +kernel) rfl rfl ⟨Nat.le_of_ble_eq_true rfl, Nat.le_of_ble_eq_true rfl⟩ rfl hl.1 rfl (Nat.le_of_ble_eq_true rfl) dP_prefix_2 ⟨Nat.le_of_ble_eq_true rfl, Nat.le_of_ble_eq_true rfl⟩ (by rw [hk1]; decide) (by rw [hk1]; rfl)
  refine g_V (k := 1) F htw hB hS hP (0) (by decide) rfl rfl (c_P_textOf hk) k1_92 k1_94 k0_0 k1_1 k1_95 (by decide +kernel) rfl rfl ⟨Nat.le_of_ble_eq_true rfl, Nat.le_of_ble_eq_true rfl⟩ rfl hl.1 rfl (Nat.le_of_ble_eq_true rfl) dP_prefix_2 ⟨Nat.le_of_ble_eq_true rfl, Nat.le_of_ble_eq_true rfl⟩ (fun en1 H locs he hP hS => ?_)
  obtain rfl := he
  have hp_k := (hC.1 k hk).1
  have hn_k := ha.1 k hk
  have h5_k := hC.2.2.2.1 k hk
  refine lv_astore hx hb dP_prefix_5 hl (by decide) rfl (fun ls hl => ?_)
  have hl : lv_has ls 7 [(5, .ref _), (0, .ref _), (1, .int _), (2, .int _), (3, .int _), (4, .int _)] := hl
  refine lv_aload_n hx hb dP_prefix_7 rfl (lv_at hl 1 rfl) ?_
  refine lv_iload_n hx hb dP_prefix_8 rfl (lv_at hl 4 rfl) ?_
  rcases dk_or d2 with hd | ⟨g, hg, rfl⟩
  · have hk1 : (c_prefix a (nI k) i d2 j) = 1 := by simp [c_prefix, dk_nI hk, ix_nI (show k < 2 ^ 31 by omega), hd.1]
    exact g_VTh (k := 1) F hlocks hno htw hB hS hP (0) (by decide) rfl rfl (c_P_textOf_th hst hd.2) k1_92 k1_94 k0_0 k1_1 k1_95 (by decide +kernel) rfl rfl ⟨Nat.le_of_ble_eq_true rfl, Nat.le_of_ble_eq_true rfl⟩ rfl hl.1 rfl (Nat.le_of_ble_eq_true rfl) dP_prefix_9 ⟨Nat.le_of_ble_eq_true rfl, Nat.le_of_ble_eq_true rfl⟩ (by rw [hk1]; decide) (by rw [hk1]; rfl)
  refine g_V (k := 1) F htw hB hS hP (0) (by decide) rfl rfl (c_P_textOf hg) k1_92 k1_94 k0_0 k1_1 k1_95 (by decide +kernel) rfl rfl ⟨Nat.le_of_ble_eq_true rfl, Nat.le_of_ble_eq_true rfl⟩ rfl hl.1 rfl (Nat.le_of_ble_eq_true rfl) dP_prefix_9 ⟨Nat.le_of_ble_eq_true rfl, Nat.le_of_ble_eq_true rfl⟩ (fun en1 H locs he hP hS => ?_)
  obtain rfl := he
  have hp_g := (hC.1 g hg).1
  have hn_g := ha.1 g hg
  have h5_g := hC.2.2.2.1 g hg
  refine lv_astore hx hb dP_prefix_12 hl (by decide) rfl (fun ls hl => ?_)
  have hl : lv_has ls 7 [(6, .ref _), (5, .ref _), (0, .ref _), (1, .int _), (2, .int _), (3, .int _), (4, .int _)] := hl
  refine lv_aload hx hb dP_prefix_14 (lv_at hl 1 rfl) ?_
  refine lv_iload_n hx hb dP_prefix_16 rfl (lv_at hl 4 rfl) ?_
  refine g_V (k := 1) F htw hB hS hP (2 + 2 * pi k) (by omega) (en_T _ _ _ _ _ _ _ _ _ _ hp_k) rfl (c_pce hC ha hk i) k2_33 k2_34 k2_35 k1_2 k2_36 (by decide +kernel) rfl rfl ⟨Nat.le_of_ble_eq_true rfl, Nat.le_of_ble_eq_true rfl⟩ rfl hl.1 rfl (Nat.le_of_ble_eq_true rfl) dP_prefix_17 ⟨Nat.le_of_ble_eq_true rfl, Nat.le_of_ble_eq_true rfl⟩ (fun en1 H locs he hP hS => ?_)
  obtain rfl := he
  rcases pc_or i hn_k with hg0 | ⟨x, hx1, rfl⟩
  · have hk1 : (c_prefix a (nI k) i (nI g) j) = 2 := by simp [c_prefix, dk_nI hk, ix_nI (show k < 2 ^ 31 by omega), dk_nI hg, ix_nI (show g < 2 ^ 31 by omega), hg0]
    rw [show (if pcL i (a_n a k) then (1 : Int32) else 0) = 0 from by rw [hg0]; rfl]
    refine lv_if_eq (tgt := 37) hx hb dP_prefix_20 (by decide) (fun _ => ?_) (fun hc => absurd rfl hc)
    refine lv_iconst (v := 0) hx hb dP_prefix_37 (by decide) ?_
    exact g_STh (k := 1) F hlocks hno htw hB hS hP (c_P_requireInside_th hst) k1_214 k1_215 k1_1 k1_216 (by decide +kernel) rfl rfl ⟨Nat.le_of_ble_eq_true rfl, Nat.le_of_ble_eq_true rfl⟩ rfl hl.1 rfl (Nat.le_of_ble_eq_true rfl) dP_prefix_38 ⟨Nat.le_of_ble_eq_true rfl, Nat.le_of_ble_eq_true rfl⟩ (by rw [hk1]; decide) (by rw [hk1]; rfl)
  rw [show (if pcL (nI x) (a_n a k) then (1 : Int32) else 0) = 1 from if_pos (pc_nI hx1 hn_k)]
  refine lv_if_eq (tgt := 37) hx hb dP_prefix_20 (by decide) (fun hc => absurd hc (by decide)) (fun _ => ?_)
  refine lv_aload hx hb dP_prefix_23 (lv_at hl 0 rfl) ?_
  refine lv_iload hx hb dP_prefix_25 (lv_at hl 6 rfl) ?_
  refine g_V (k := 1) F htw hB hS hP (2 + 2 * pi g) (by omega) (en_T _ _ _ _ _ _ _ _ _ _ hp_g) rfl (c_pce hC ha hg j) k2_33 k2_34 k2_35 k1_2 k2_36 (by decide +kernel) rfl rfl ⟨Nat.le_of_ble_eq_true rfl, Nat.le_of_ble_eq_true rfl⟩ rfl hl.1 rfl (Nat.le_of_ble_eq_true rfl) dP_prefix_27 ⟨Nat.le_of_ble_eq_true rfl, Nat.le_of_ble_eq_true rfl⟩ (fun en1 H locs he hP hS => ?_)
  obtain rfl := he
  rcases pc_or j hn_g with hg1 | ⟨z, hz1, rfl⟩
  · have hk1 : (c_prefix a (nI k) (nI x) (nI g) j) = 2 := by simp [c_prefix, dk_nI hk, ix_nI (show k < 2 ^ 31 by omega), dk_nI hg, ix_nI (show g < 2 ^ 31 by omega), pc_nI hx1 hn_k, ix_nI (show x < 2 ^ 31 by omega), hg1]
    rw [show (if pcL j (a_n a g) then (1 : Int32) else 0) = 0 from by rw [hg1]; rfl]
    refine lv_if_eq (tgt := 37) hx hb dP_prefix_30 (by decide) (fun _ => ?_) (fun hc => absurd rfl hc)
    refine lv_iconst (v := 0) hx hb dP_prefix_37 (by decide) ?_
    exact g_STh (k := 1) F hlocks hno htw hB hS hP (c_P_requireInside_th hst) k1_214 k1_215 k1_1 k1_216 (by decide +kernel) rfl rfl ⟨Nat.le_of_ble_eq_true rfl, Nat.le_of_ble_eq_true rfl⟩ rfl hl.1 rfl (Nat.le_of_ble_eq_true rfl) dP_prefix_38 ⟨Nat.le_of_ble_eq_true rfl, Nat.le_of_ble_eq_true rfl⟩ (by rw [hk1]; decide) (by rw [hk1]; rfl)
  rw [show (if pcL (nI z) (a_n a g) then (1 : Int32) else 0) = 1 from if_pos (pc_nI hz1 hn_g)]
  refine lv_if_eq (tgt := 37) hx hb dP_prefix_30 (by decide) (fun hc => absurd hc (by decide)) (fun _ => ?_)
  refine lv_iconst (v := 1) hx hb dP_prefix_33 (by decide) ?_
  refine lv_goto (tgt := 38) hx hb dP_prefix_34 (by decide) ?_
  refine g_S (k := 1) F htw hB hS hP (c_P_requireInside) k1_214 k1_215 k1_1 k1_216 (by decide +kernel) rfl rfl ⟨Nat.le_of_ble_eq_true rfl, Nat.le_of_ble_eq_true rfl⟩ rfl hl.1 rfl (Nat.le_of_ble_eq_true rfl) dP_prefix_38 ⟨Nat.le_of_ble_eq_true rfl, Nat.le_of_ble_eq_true rfl⟩ (fun en1 H locs he hP hS => ?_)
  obtain rfl := he
  refine lv_aload hx hb dP_prefix_41 (lv_at hl 1 rfl) ?_
  refine lv_iload_n hx hb dP_prefix_43 rfl (lv_at hl 4 rfl) ?_
  refine lv_aload hx hb dP_prefix_44 (lv_at hl 0 rfl) ?_
  refine lv_iload hx hb dP_prefix_46 (lv_at hl 6 rfl) ?_
  refine g_S (k := 4) F htw hB hS hP (c_cmn hC ha hk hg hx1 hz1) k2_65 k2_66 k1_1 k2_67 (by decide +kernel) rfl rfl ⟨Nat.le_of_ble_eq_true rfl, Nat.le_of_ble_eq_true rfl⟩ rfl hl.1 rfl (Nat.le_of_ble_eq_true rfl) dP_prefix_48 ⟨Nat.le_of_ble_eq_true rfl, Nat.le_of_ble_eq_true rfl⟩ (fun en1 H locs he hP hS => ?_)
  obtain rfl := he
  have hk1 : (c_prefix a (nI k) (nI x) (nI g) (nI z)) = 0 := by simp [c_prefix, dk_nI hk, ix_nI (show k < 2 ^ 31 by omega), dk_nI hg, ix_nI (show g < 2 ^ 31 by omega), pc_nI hx1 hn_k, ix_nI (show x < 2 ^ 31 by omega), pc_nI hz1 hn_g, ix_nI (show z < 2 ^ 31 by omega)]
  refine W.widen (k := 1) (n := 6) (by decide) (by decide) ?_
  exact W.toX (W.iret hx hb hr (fun t ht hW => Or.inl ⟨hk1, ⟨by simp [dk_nI hk, ix_nI (show k < 2 ^ 31 by omega), dk_nI hg, ix_nI (show g < 2 ^ 31 by omega), pc_nI hx1 hn_k, ix_nI (show x < 2 ^ 31 by omega), pc_nI hz1 hn_g, ix_nI (show z < 2 ^ 31 by omega)], ⟨_, ⟨_, _, _, rfl, hC⟩, by rw [ht]; exact hP⟩, hS.F ht⟩⟩) hS.2.2 dP_prefix_51)
set_option maxHeartbeats 4000000 in
set_option maxRecDepth 100000 in
theorem c_P_order (hst : l.stackTraces = false) (G : gGeo ad 25 base) (ha : a_ok a) (hC : RepC pi dr S a) (d i d2 j : Int32) : MetX l yP_order (Cond.code yP_order bP_order 10 (some .int) :: tws) { frames := 8, cells := 1, slots := 6, locals := 123 } (gPc (tw D cI cZ cT cJ base) D cl ad 25 base (en ad cI cZ cT cJ pi dr S M o) [.ref (ad 0), .int d, .int i, .int d2, .int j]) (gQx D cl ad 25 base (en ad cI cZ cT cJ pi dr S M o) ["java/lang/IllegalArgumentException", "java/lang/IndexOutOfBoundsException"] (c_prefix a d i d2 j) (some (.int (r_order a (ix d) (ix i) (ix d2) (ix j)))) (fun e => ∃ (pi1 : Nat → Nat) (dr1 : Nat) (S1 : Nat → Nat → Int32), e = en ad cI cZ cT cJ pi1 dr1 S1 M o ∧ RepC pi1 dr1 S1 (a))) 1 6 (gA base) := by
  refine MetX.ofW (cc := bP_order) (maxL := 10) (ret := (some .int)) (by decide) rfl ?_
  intro p e s m args below meth c s₁ B hml hv
  obtain ⟨rfl, htw, hB, hP⟩ := hv
  have hx := B.exec
  have hb := B.bytes
  have hr := B.returns
  have hts0 := atoms_spec (ws := Cond.code yP_order bP_order 10 (some .int) :: tws) B.pre
  have hts : ∀ w ∈ tws, w.before _ s = true := fun w h => hts0 w (List.mem_cons_of_mem _ h)
  have hown : s.vm.findClass "PairedTexts" = some m.cls := findClass_of_methodNamed B.named
  have hlocks := B.notSynchronized
  have hno := B.noHandlers (hts0 _ List.mem_cons_self)
  have F : CallFix p m c bP_order 10 s _ tws "PairedTexts" := ⟨hx, hb, hml, hown, hts⟩
  have hK := htw.1
  have hS : va_S (gA base) s.heap s.heap [] := va_S.rf
  have hl := lv_entry ([.ref (ad 0), .int d, .int i, .int d2, .int j]) (n := 10) (Nat.le_of_ble_eq_true rfl)
  rw [lg_entry_eq]
  generalize (lg_sl ([.ref (ad 0), .int d, .int i, .int d2, .int j]) ++ List.replicate (10 - (lg_sl ([.ref (ad 0), .int d, .int i, .int d2, .int j])).length) Slot.unset).toArray = ls at hl ⊢
  have hl : lv_has ls 10 [(0, .ref (ad 0)), (1, .int d), (2, .int i), (3, .int d2), (4, .int j)] := hl
  have hdr := hC.2.1
  refine lv_aload_n hx hb dP_order_0 rfl (lv_at hl 0 rfl) ?_
  refine lv_iload_n hx hb dP_order_1 rfl (lv_at hl 1 rfl) ?_
  rcases dk_or d with hd | ⟨k, hk, rfl⟩
  · have hk1 : (c_prefix a d i d2 j) = 1 := by simp [c_prefix, hd.1]
    exact g_VTh (k := 1) F hlocks hno htw hB hS hP (0) (by decide) rfl rfl (c_P_textOf_th hst hd.2) k1_92 k1_94 k0_0 k1_1 k1_95 (by decide +kernel) rfl rfl ⟨Nat.le_of_ble_eq_true rfl, Nat.le_of_ble_eq_true rfl⟩ rfl hl.1 rfl (Nat.le_of_ble_eq_true rfl) dP_order_2 ⟨Nat.le_of_ble_eq_true rfl, Nat.le_of_ble_eq_true rfl⟩ (by rw [hk1]; decide) (by rw [hk1]; rfl)
  refine g_V (k := 1) F htw hB hS hP (0) (by decide) rfl rfl (c_P_textOf hk) k1_92 k1_94 k0_0 k1_1 k1_95 (by decide +kernel) rfl rfl ⟨Nat.le_of_ble_eq_true rfl, Nat.le_of_ble_eq_true rfl⟩ rfl hl.1 rfl (Nat.le_of_ble_eq_true rfl) dP_order_2 ⟨Nat.le_of_ble_eq_true rfl, Nat.le_of_ble_eq_true rfl⟩ (fun en1 H locs he hP hS => ?_)
  obtain rfl := he
  have hp_k := (hC.1 k hk).1
  have hn_k := ha.1 k hk
  have h5_k := hC.2.2.2.1 k hk
  refine lv_astore hx hb dP_order_5 hl (by decide) rfl (fun ls hl => ?_)
  have hl : lv_has ls 10 [(5, .ref _), (0, .ref _), (1, .int _), (2, .int _), (3, .int _), (4, .int _)] := hl
  refine lv_aload_n hx hb dP_order_7 rfl (lv_at hl 1 rfl) ?_
  refine lv_iload_n hx hb dP_order_8 rfl (lv_at hl 4 rfl) ?_
  rcases dk_or d2 with hd | ⟨g, hg, rfl⟩
  · have hk1 : (c_prefix a (nI k) i d2 j) = 1 := by simp [c_prefix, dk_nI hk, ix_nI (show k < 2 ^ 31 by omega), hd.1]
    exact g_VTh (k := 1) F hlocks hno htw hB hS hP (0) (by decide) rfl rfl (c_P_textOf_th hst hd.2) k1_92 k1_94 k0_0 k1_1 k1_95 (by decide +kernel) rfl rfl ⟨Nat.le_of_ble_eq_true rfl, Nat.le_of_ble_eq_true rfl⟩ rfl hl.1 rfl (Nat.le_of_ble_eq_true rfl) dP_order_9 ⟨Nat.le_of_ble_eq_true rfl, Nat.le_of_ble_eq_true rfl⟩ (by rw [hk1]; decide) (by rw [hk1]; rfl)
  refine g_V (k := 1) F htw hB hS hP (0) (by decide) rfl rfl (c_P_textOf hg) k1_92 k1_94 k0_0 k1_1 k1_95 (by decide +kernel) rfl rfl ⟨Nat.le_of_ble_eq_true rfl, Nat.le_of_ble_eq_true rfl⟩ rfl hl.1 rfl (Nat.le_of_ble_eq_true rfl) dP_order_9 ⟨Nat.le_of_ble_eq_true rfl, Nat.le_of_ble_eq_true rfl⟩ (fun en1 H locs he hP hS => ?_)
  obtain rfl := he
  have hp_g := (hC.1 g hg).1
  have hn_g := ha.1 g hg
  have h5_g := hC.2.2.2.1 g hg
  refine lv_astore hx hb dP_order_12 hl (by decide) rfl (fun ls hl => ?_)
  have hl : lv_has ls 10 [(6, .ref _), (5, .ref _), (0, .ref _), (1, .int _), (2, .int _), (3, .int _), (4, .int _)] := hl
  refine lv_aload hx hb dP_order_14 (lv_at hl 1 rfl) ?_
  refine lv_iload_n hx hb dP_order_16 rfl (lv_at hl 4 rfl) ?_
  refine g_V (k := 1) F htw hB hS hP (2 + 2 * pi k) (by omega) (en_T _ _ _ _ _ _ _ _ _ _ hp_k) rfl (c_pce hC ha hk i) k2_33 k2_34 k2_35 k1_2 k2_36 (by decide +kernel) rfl rfl ⟨Nat.le_of_ble_eq_true rfl, Nat.le_of_ble_eq_true rfl⟩ rfl hl.1 rfl (Nat.le_of_ble_eq_true rfl) dP_order_17 ⟨Nat.le_of_ble_eq_true rfl, Nat.le_of_ble_eq_true rfl⟩ (fun en1 H locs he hP hS => ?_)
  obtain rfl := he
  rcases pc_or i hn_k with hg0 | ⟨x, hx1, rfl⟩
  · have hk1 : (c_prefix a (nI k) i (nI g) j) = 2 := by simp [c_prefix, dk_nI hk, ix_nI (show k < 2 ^ 31 by omega), dk_nI hg, ix_nI (show g < 2 ^ 31 by omega), hg0]
    rw [show (if pcL i (a_n a k) then (1 : Int32) else 0) = 0 from by rw [hg0]; rfl]
    refine lv_if_eq (tgt := 37) hx hb dP_order_20 (by decide) (fun _ => ?_) (fun hc => absurd rfl hc)
    refine lv_iconst (v := 0) hx hb dP_order_37 (by decide) ?_
    exact g_STh (k := 1) F hlocks hno htw hB hS hP (c_P_requireInside_th hst) k1_214 k1_215 k1_1 k1_216 (by decide +kernel) rfl rfl ⟨Nat.le_of_ble_eq_true rfl, Nat.le_of_ble_eq_true rfl⟩ rfl hl.1 rfl (Nat.le_of_ble_eq_true rfl) dP_order_38 ⟨Nat.le_of_ble_eq_true rfl, Nat.le_of_ble_eq_true rfl⟩ (by rw [hk1]; decide) (by rw [hk1]; rfl)
  rw [show (if pcL (nI x) (a_n a k) then (1 : Int32) else 0) = 1 from if_pos (pc_nI hx1 hn_k)]
  refine lv_if_eq (tgt := 37) hx hb dP_order_20 (by decide) (fun hc => absurd hc (by decide)) (fun _ => ?_)
  refine lv_aload hx hb dP_order_23 (lv_at hl 0 rfl) ?_
  refine lv_iload hx hb dP_order_25 (lv_at hl 6 rfl) ?_
  refine g_V (k := 1) F htw hB hS hP (2 + 2 * pi g) (by omega) (en_T _ _ _ _ _ _ _ _ _ _ hp_g) rfl (c_pce hC ha hg j) k2_33 k2_34 k2_35 k1_2 k2_36 (by decide +kernel) rfl rfl ⟨Nat.le_of_ble_eq_true rfl, Nat.le_of_ble_eq_true rfl⟩ rfl hl.1 rfl (Nat.le_of_ble_eq_true rfl) dP_order_27 ⟨Nat.le_of_ble_eq_true rfl, Nat.le_of_ble_eq_true rfl⟩ (fun en1 H locs he hP hS => ?_)
  obtain rfl := he
  rcases pc_or j hn_g with hg1 | ⟨z, hz1, rfl⟩
  · have hk1 : (c_prefix a (nI k) (nI x) (nI g) j) = 2 := by simp [c_prefix, dk_nI hk, ix_nI (show k < 2 ^ 31 by omega), dk_nI hg, ix_nI (show g < 2 ^ 31 by omega), pc_nI hx1 hn_k, ix_nI (show x < 2 ^ 31 by omega), hg1]
    rw [show (if pcL j (a_n a g) then (1 : Int32) else 0) = 0 from by rw [hg1]; rfl]
    refine lv_if_eq (tgt := 37) hx hb dP_order_30 (by decide) (fun _ => ?_) (fun hc => absurd rfl hc)
    refine lv_iconst (v := 0) hx hb dP_order_37 (by decide) ?_
    exact g_STh (k := 1) F hlocks hno htw hB hS hP (c_P_requireInside_th hst) k1_214 k1_215 k1_1 k1_216 (by decide +kernel) rfl rfl ⟨Nat.le_of_ble_eq_true rfl, Nat.le_of_ble_eq_true rfl⟩ rfl hl.1 rfl (Nat.le_of_ble_eq_true rfl) dP_order_38 ⟨Nat.le_of_ble_eq_true rfl, Nat.le_of_ble_eq_true rfl⟩ (by rw [hk1]; decide) (by rw [hk1]; rfl)
  rw [show (if pcL (nI z) (a_n a g) then (1 : Int32) else 0) = 1 from if_pos (pc_nI hz1 hn_g)]
  refine lv_if_eq (tgt := 37) hx hb dP_order_30 (by decide) (fun hc => absurd hc (by decide)) (fun _ => ?_)
  refine lv_iconst (v := 1) hx hb dP_order_33 (by decide) ?_
  refine lv_goto (tgt := 38) hx hb dP_order_34 (by decide) ?_
  refine g_S (k := 1) F htw hB hS hP (c_P_requireInside) k1_214 k1_215 k1_1 k1_216 (by decide +kernel) rfl rfl ⟨Nat.le_of_ble_eq_true rfl, Nat.le_of_ble_eq_true rfl⟩ rfl hl.1 rfl (Nat.le_of_ble_eq_true rfl) dP_order_38 ⟨Nat.le_of_ble_eq_true rfl, Nat.le_of_ble_eq_true rfl⟩ (fun en1 H locs he hP hS => ?_)
  obtain rfl := he
  refine lv_aload hx hb dP_order_41 (lv_at hl 1 rfl) ?_
  refine lv_iload_n hx hb dP_order_43 rfl (lv_at hl 4 rfl) ?_
  refine lv_aload hx hb dP_order_44 (lv_at hl 0 rfl) ?_
  refine lv_iload hx hb dP_order_46 (lv_at hl 6 rfl) ?_
  refine g_S (k := 4) F htw hB hS hP (c_cmn hC ha hk hg hx1 hz1) k2_65 k2_66 k1_1 k2_67 (by decide +kernel) rfl rfl ⟨Nat.le_of_ble_eq_true rfl, Nat.le_of_ble_eq_true rfl⟩ rfl hl.1 rfl (Nat.le_of_ble_eq_true rfl) dP_order_48 ⟨Nat.le_of_ble_eq_true rfl, Nat.le_of_ble_eq_true rfl⟩ (fun en1 H locs he hP hS => ?_)
  obtain rfl := he
  have hk1 : (c_prefix a (nI k) (nI x) (nI g) (nI z)) = 0 := by simp [c_prefix, dk_nI hk, ix_nI (show k < 2 ^ 31 by omega), dk_nI hg, ix_nI (show g < 2 ^ 31 by omega), pc_nI hx1 hn_k, ix_nI (show x < 2 ^ 31 by omega), pc_nI hz1 hn_g, ix_nI (show z < 2 ^ 31 by omega)]
  have hcb : cpr a k x g z ≤ min (a_n a k - x) (a_n a g - z) := by have := (cpx_le (fun c => decide (a_b a k (x + c) = a_b a g (z + c))) (min (a_n a k - x) (a_n a g - z)) 0).2; unfold cpr; omega
  have hro : r_order a k x g z = (if x + cpr a k x g z = a_n a k ∧ z + cpr a k x g z = a_n a g then 0 else if x + cpr a k x g z = a_n a k then -1 else if z + cpr a k x g z = a_n a g then 1 else if a_b a k (x + cpr a k x g z) < a_b a g (z + cpr a k x g z) then -1 else 1) := rfl
  generalize cpr a k x g z = c0 at hcb hro ⊢
  refine lv_istore hx hb dP_order_51 hl (by decide) rfl (fun ls hl => ?_)
  have hl : lv_has ls 10 [(7, .int _), (6, .ref _), (5, .ref _), (0, .ref _), (1, .int _), (2, .int _), (3, .int _), (4, .int _)] := hl
  refine lv_iload_n hx hb dP_order_53 rfl (lv_at hl 5 rfl) ?_
  refine lv_iload hx hb dP_order_54 (lv_at hl 0 rfl) ?_
  refine lv_iadd hx hb dP_order_56 ?_
  refine lv_aload hx hb dP_order_57 (lv_at hl 2 rfl) ?_
  refine g_get F hK hP (2 + 2 * pi k) (by omega) (en_T _ _ _ _ _ _ _ _ _ _ hp_k) rfl iT 1 (by decide) k1_34 rfl dP_order_59 ?_
  rw [h5_k, nI_add]
  refine lv_icmp_ne (tgt := 69) hx hb dP_order_62 (by decide) (fun h1 => ?_) (fun h1 => ?_)
  · rw [nI_eq (by omega) (by omega)] at h1
    refine lv_iconst (v := 0) hx hb dP_order_69 (by decide) ?_
    refine lv_istore hx hb dP_order_70 hl (by decide) rfl (fun ls hl => ?_)
    have hl : lv_has ls 10 [(8, .int _), (7, .int _), (6, .ref _), (5, .ref _), (0, .ref _), (1, .int _), (2, .int _), (3, .int _), (4, .int _)] := hl
    refine lv_iload hx hb dP_order_72 (lv_at hl 8 rfl) ?_
    refine lv_iload hx hb dP_order_74 (lv_at hl 1 rfl) ?_
    refine lv_iadd hx hb dP_order_76 ?_
    refine lv_aload hx hb dP_order_77 (lv_at hl 2 rfl) ?_
    refine g_get F hK hP (2 + 2 * pi g) (by omega) (en_T _ _ _ _ _ _ _ _ _ _ hp_g) rfl iT 1 (by decide) k1_34 rfl dP_order_79 ?_
    rw [h5_g, nI_add]
    refine lv_icmp_ne (tgt := 89) hx hb dP_order_82 (by decide) (fun h2 => ?_) (fun h2 => ?_)
    · rw [nI_eq (by omega) (by omega)] at h2
      refine lv_iconst (v := 0) hx hb dP_order_89 (by decide) ?_
      refine lv_istore hx hb dP_order_90 hl (by decide) rfl (fun ls hl => ?_)
      have hl : lv_has ls 10 [(9, .int _), (8, .int _), (7, .int _), (6, .ref _), (5, .ref _), (0, .ref _), (1, .int _), (2, .int _), (3, .int _), (4, .int _)] := hl
      refine lv_iload hx hb dP_order_92 (lv_at hl 1 rfl) ?_
      refine lv_if_eq (tgt := 104) hx hb dP_order_94 (by decide) (fun _ => ?_) (fun hc => absurd rfl hc)
      refine lv_iload hx hb dP_order_104 (lv_at hl 1 rfl) ?_
      refine lv_if_eq (tgt := 111) hx hb dP_order_106 (by decide) (fun _ => ?_) (fun hc => absurd rfl hc)
      refine lv_iload hx hb dP_order_111 (lv_at hl 0 rfl) ?_
      refine lv_if_eq (tgt := 118) hx hb dP_order_113 (by decide) (fun _ => ?_) (fun hc => absurd rfl hc)
      refine lv_aload hx hb dP_order_118 (lv_at hl 4 rfl) ?_
      refine g_get F hK hP (2 + 2 * pi k) (by omega) (en_T _ _ _ _ _ _ _ _ _ _ hp_k) rfl iT 0 (by decide) k1_32 rfl dP_order_120 ?_
      refine lv_iload_n hx hb dP_order_123 rfl (lv_at hl 7 rfl) ?_
      refine lv_iload hx hb dP_order_124 (lv_at hl 2 rfl) ?_
      refine lv_iadd hx hb dP_order_126 ?_
      rw [nI_add]
      refine g_iald F hK hP (3 + 2 * pi k) (by omega) 0 (en_B _ _ _ _ _ _ _ _ _ _ hp_k) rfl (vp_in_nI (show x + c0 < 1000 by omega) (by omega)) dP_order_127 ?_
      rw [nI_clamp (show x + c0 < 2 ^ 31 by omega), hC.2.2.2.2.1 k (x + c0) hk (by omega)]
      refine lv_aload hx hb dP_order_128 (lv_at hl 3 rfl) ?_
      refine g_get F hK hP (2 + 2 * pi g) (by omega) (en_T _ _ _ _ _ _ _ _ _ _ hp_g) rfl iT 0 (by decide) k1_32 rfl dP_order_130 ?_
      refine lv_iload hx hb dP_order_133 (lv_at hl 9 rfl) ?_
      refine lv_iload hx hb dP_order_135 (lv_at hl 2 rfl) ?_
      refine lv_iadd hx hb dP_order_137 ?_
      rw [nI_add]
      refine g_iald F hK hP (3 + 2 * pi g) (by omega) 0 (en_B _ _ _ _ _ _ _ _ _ _ hp_g) rfl (vp_in_nI (show z + c0 < 1000 by omega) (by omega)) dP_order_138 ?_
      rw [nI_clamp (show z + c0 < 2 ^ 31 by omega), hC.2.2.2.2.1 g (z + c0) hg (by omega)]
      have q1 := ha.2.1 k (x + c0) hk (by omega)
      have q2 := ha.2.1 g (z + c0) hg (by omega)
      refine lv_icmp_ge (tgt := 146) hx hb dP_order_139 (by decide) (fun h3 => ?_) (fun h3 => ?_)
      · rw [nI_leI (by omega) (by omega)] at h3
        refine lv_iconst (v := 1) hx hb dP_order_146 (by decide) ?_
        have hv : r_order a k x g z = 1 := by rw [hro]; simp [h1, h2, show ¬ a_b a k (x + c0) < a_b a g (z + c0) by omega]
        refine W.widen (k := 1) (n := 6) (by decide) (by decide) ?_
        exact W.toX (W.iret hx hb hr (fun t ht hW => Or.inl ⟨hk1, ⟨by simp [hv, dk_nI hk, ix_nI (show k < 2 ^ 31 by omega), dk_nI hg, ix_nI (show g < 2 ^ 31 by omega), pc_nI hx1 hn_k, ix_nI (show x < 2 ^ 31 by omega), pc_nI hz1 hn_g, ix_nI (show z < 2 ^ 31 by omega)], ⟨_, ⟨_, _, _, rfl, hC⟩, by rw [ht]; exact hP⟩, hS.F ht⟩⟩) hS.2.2 dP_order_147)
      · rw [nI_leI (by omega) (by omega)] at h3
        refine lv_iconst (v := (-1)) hx hb dP_order_142 (by decide) ?_
        refine lv_goto (tgt := 147) hx hb dP_order_143 (by decide) ?_
        have hv : r_order a k x g z = -1 := by rw [hro]; simp [h1, h2, show  a_b a k (x + c0) < a_b a g (z + c0) by omega]
        refine W.widen (k := 1) (n := 6) (by decide) (by decide) ?_
        exact W.toX (W.iret hx hb hr (fun t ht hW => Or.inl ⟨hk1, ⟨by simp [hv, dk_nI hk, ix_nI (show k < 2 ^ 31 by omega), dk_nI hg, ix_nI (show g < 2 ^ 31 by omega), pc_nI hx1 hn_k, ix_nI (show x < 2 ^ 31 by omega), pc_nI hz1 hn_g, ix_nI (show z < 2 ^ 31 by omega)], ⟨_, ⟨_, _, _, rfl, hC⟩, by rw [ht]; exact hP⟩, hS.F ht⟩⟩) hS.2.2 dP_order_147)
    · rw [nI_eq (by omega) (by omega)] at h2
      refine lv_iconst (v := 1) hx hb dP_order_85 (by decide) ?_
      refine lv_goto (tgt := 90) hx hb dP_order_86 (by decide) ?_
      refine lv_istore hx hb dP_order_90 hl (by decide) rfl (fun ls hl => ?_)
      have hl : lv_has ls 10 [(9, .int _), (8, .int _), (7, .int _), (6, .ref _), (5, .ref _), (0, .ref _), (1, .int _), (2, .int _), (3, .int _), (4, .int _)] := hl
      refine lv_iload hx hb dP_order_92 (lv_at hl 1 rfl) ?_
      refine lv_if_eq (tgt := 104) hx hb dP_order_94 (by decide) (fun _ => ?_) (fun hc => absurd rfl hc)
      refine lv_iload hx hb dP_order_104 (lv_at hl 1 rfl) ?_
      refine lv_if_eq (tgt := 111) hx hb dP_order_106 (by decide) (fun _ => ?_) (fun hc => absurd rfl hc)
      refine lv_iload hx hb dP_order_111 (lv_at hl 0 rfl) ?_
      refine lv_if_eq (tgt := 118) hx hb dP_order_113 (by decide) (fun hc => absurd hc (by decide)) (fun _ => ?_)
      refine lv_iconst (v := 1) hx hb dP_order_116 (by decide) ?_
      have hv : r_order a k x g z = 1 := by rw [hro]; simp [h1, h2]
      refine W.widen (k := 1) (n := 6) (by decide) (by decide) ?_
      exact W.toX (W.iret hx hb hr (fun t ht hW => Or.inl ⟨hk1, ⟨by simp [hv, dk_nI hk, ix_nI (show k < 2 ^ 31 by omega), dk_nI hg, ix_nI (show g < 2 ^ 31 by omega), pc_nI hx1 hn_k, ix_nI (show x < 2 ^ 31 by omega), pc_nI hz1 hn_g, ix_nI (show z < 2 ^ 31 by omega)], ⟨_, ⟨_, _, _, rfl, hC⟩, by rw [ht]; exact hP⟩, hS.F ht⟩⟩) hS.2.2 dP_order_117)
  · rw [nI_eq (by omega) (by omega)] at h1
    refine lv_iconst (v := 1) hx hb dP_order_65 (by decide) ?_
    refine lv_goto (tgt := 70) hx hb dP_order_66 (by decide) ?_
    refine lv_istore hx hb dP_order_70 hl (by decide) rfl (fun ls hl => ?_)
    have hl : lv_has ls 10 [(8, .int _), (7, .int _), (6, .ref _), (5, .ref _), (0, .ref _), (1, .int _), (2, .int _), (3, .int _), (4, .int _)] := hl
    refine lv_iload hx hb dP_order_72 (lv_at hl 8 rfl) ?_
    refine lv_iload hx hb dP_order_74 (lv_at hl 1 rfl) ?_
    refine lv_iadd hx hb dP_order_76 ?_
    refine lv_aload hx hb dP_order_77 (lv_at hl 2 rfl) ?_
    refine g_get F hK hP (2 + 2 * pi g) (by omega) (en_T _ _ _ _ _ _ _ _ _ _ hp_g) rfl iT 1 (by decide) k1_34 rfl dP_order_79 ?_
    rw [h5_g, nI_add]
    refine lv_icmp_ne (tgt := 89) hx hb dP_order_82 (by decide) (fun h2 => ?_) (fun h2 => ?_)
    · rw [nI_eq (by omega) (by omega)] at h2
      refine lv_iconst (v := 0) hx hb dP_order_89 (by decide) ?_
      refine lv_istore hx hb dP_order_90 hl (by decide) rfl (fun ls hl => ?_)
      have hl : lv_has ls 10 [(9, .int _), (8, .int _), (7, .int _), (6, .ref _), (5, .ref _), (0, .ref _), (1, .int _), (2, .int _), (3, .int _), (4, .int _)] := hl
      refine lv_iload hx hb dP_order_92 (lv_at hl 1 rfl) ?_
      refine lv_if_eq (tgt := 104) hx hb dP_order_94 (by decide) (fun hc => absurd hc (by decide)) (fun _ => ?_)
      refine lv_iload hx hb dP_order_97 (lv_at hl 0 rfl) ?_
      refine lv_if_eq (tgt := 104) hx hb dP_order_99 (by decide) (fun _ => ?_) (fun hc => absurd rfl hc)
      refine lv_iload hx hb dP_order_104 (lv_at hl 1 rfl) ?_
      refine lv_if_eq (tgt := 111) hx hb dP_order_106 (by decide) (fun hc => absurd hc (by decide)) (fun _ => ?_)
      refine lv_iconst (v := (-1)) hx hb dP_order_109 (by decide) ?_
      have hv : r_order a k x g z = -1 := by rw [hro]; simp [h1, h2]
      refine W.widen (k := 1) (n := 6) (by decide) (by decide) ?_
      exact W.toX (W.iret hx hb hr (fun t ht hW => Or.inl ⟨hk1, ⟨by simp [hv, dk_nI hk, ix_nI (show k < 2 ^ 31 by omega), dk_nI hg, ix_nI (show g < 2 ^ 31 by omega), pc_nI hx1 hn_k, ix_nI (show x < 2 ^ 31 by omega), pc_nI hz1 hn_g, ix_nI (show z < 2 ^ 31 by omega)], ⟨_, ⟨_, _, _, rfl, hC⟩, by rw [ht]; exact hP⟩, hS.F ht⟩⟩) hS.2.2 dP_order_110)
    · rw [nI_eq (by omega) (by omega)] at h2
      refine lv_iconst (v := 1) hx hb dP_order_85 (by decide) ?_
      refine lv_goto (tgt := 90) hx hb dP_order_86 (by decide) ?_
      refine lv_istore hx hb dP_order_90 hl (by decide) rfl (fun ls hl => ?_)
      have hl : lv_has ls 10 [(9, .int _), (8, .int _), (7, .int _), (6, .ref _), (5, .ref _), (0, .ref _), (1, .int _), (2, .int _), (3, .int _), (4, .int _)] := hl
      refine lv_iload hx hb dP_order_92 (lv_at hl 1 rfl) ?_
      refine lv_if_eq (tgt := 104) hx hb dP_order_94 (by decide) (fun hc => absurd hc (by decide)) (fun _ => ?_)
      refine lv_iload hx hb dP_order_97 (lv_at hl 0 rfl) ?_
      refine lv_if_eq (tgt := 104) hx hb dP_order_99 (by decide) (fun hc => absurd hc (by decide)) (fun _ => ?_)
      refine lv_iconst (v := 0) hx hb dP_order_102 (by decide) ?_
      have hv : r_order a k x g z = 0 := by rw [hro]; simp [h1, h2]
      refine W.widen (k := 1) (n := 6) (by decide) (by decide) ?_
      exact W.toX (W.iret hx hb hr (fun t ht hW => Or.inl ⟨hk1, ⟨by simp [hv, dk_nI hk, ix_nI (show k < 2 ^ 31 by omega), dk_nI hg, ix_nI (show g < 2 ^ 31 by omega), pc_nI hx1 hn_k, ix_nI (show x < 2 ^ 31 by omega), pc_nI hz1 hn_g, ix_nI (show z < 2 ^ 31 by omega)], ⟨_, ⟨_, _, _, rfl, hC⟩, by rw [ht]; exact hP⟩, hS.F ht⟩⟩) hS.2.2 dP_order_103)
end M8
