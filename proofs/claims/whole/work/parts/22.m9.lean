/-! The class's calls: same, name, pattern, count, find, lead, accept, run, accepted. -/
theorem fill_s {g : Nat → Nat} {p v k q : Nat} : (if q = p + k then v else fill g p v k q) = fill g p v (k + 1) q := by
  unfold fill
  by_cases h1 : q = p + k
  · rw [if_pos h1, if_pos (by omega)]
  · rw [if_neg h1]
    by_cases h2 : p ≤ q ∧ q < p + k
    · rw [if_pos h2, if_pos (by omega)]
    · rw [if_neg h2, if_neg (by omega)]
section M9
variable {l : Launch} {D : va_G} {cI cZ cT cJ : ClassId} {base : Nat} {ad : Nat → Nat} {pi : Nat → Nat} {dr : Nat} {S M : Nat → Nat → Int32} {o : Nat → Int64} {a : Ab}
set_option maxHeartbeats 4000000 in
set_option maxRecDepth 100000 in
theorem c_P_same (hst : l.stackTraces = false) (G : gGeo ad 25 base) (ha : a_ok a) (hC : RepC pi dr S a) (d i d2 j n : Int32) : MetX l yP_same (Cond.code yP_same bP_same 8 (some .boolean) :: tws) { frames := 8, cells := 1, slots := 6, locals := 123 } (gPc (tw D cI cZ cT cJ base) D cl ad 25 base (en ad cI cZ cT cJ pi dr S M o) [.ref (ad 0), .int d, .int i, .int d2, .int j, .int n]) (gQx D cl ad 25 base (en ad cI cZ cT cJ pi dr S M o) ["java/lang/IllegalArgumentException", "java/lang/IndexOutOfBoundsException"] (c_same a d i d2 j n) (some (.int (if ix n ≤ cpr a (ix d) (ix i) (ix d2) (ix j) then 1 else 0))) (fun e => ∃ (pi1 : Nat → Nat) (dr1 : Nat) (S1 : Nat → Nat → Int32), e = en ad cI cZ cT cJ pi1 dr1 S1 M o ∧ RepC pi1 dr1 S1 (a))) 1 6 (gA base) := by
  refine MetX.ofW (cc := bP_same) (maxL := 8) (ret := (some .boolean)) (by decide) rfl ?_
  intro p e s m args below meth c s₁ B hml hv
  obtain ⟨rfl, htw, hB, hP⟩ := hv
  have hx := B.exec
  have hb := B.bytes
  have hr := B.returns
  have hts0 := atoms_spec (ws := Cond.code yP_same bP_same 8 (some .boolean) :: tws) B.pre
  have hts : ∀ w ∈ tws, w.before _ s = true := fun w h => hts0 w (List.mem_cons_of_mem _ h)
  have hown : s.vm.findClass "PairedTexts" = some m.cls := findClass_of_methodNamed B.named
  have hlocks := B.notSynchronized
  have hno := B.noHandlers (hts0 _ List.mem_cons_self)
  have F : CallFix p m c bP_same 8 s _ tws "PairedTexts" := ⟨hx, hb, hml, hown, hts⟩
  have hK := htw.1
  have hS : va_S (gA base) s.heap s.heap [] := va_S.rf
  have hl := lv_entry ([.ref (ad 0), .int d, .int i, .int d2, .int j, .int n]) (n := 8) (Nat.le_of_ble_eq_true rfl)
  rw [lg_entry_eq]
  generalize (lg_sl ([.ref (ad 0), .int d, .int i, .int d2, .int j, .int n]) ++ List.replicate (8 - (lg_sl ([.ref (ad 0), .int d, .int i, .int d2, .int j, .int n])).length) Slot.unset).toArray = ls at hl ⊢
  have hl : lv_has ls 8 [(0, .ref (ad 0)), (1, .int d), (2, .int i), (3, .int d2), (4, .int j), (5, .int n)] := hl
  have hdr := hC.2.1
  have z0 : (0 : Int32).toInt = 0 := rfl
  refine lv_aload_n hx hb dP_same_0 rfl (lv_at hl 0 rfl) ?_
  refine lv_iload_n hx hb dP_same_1 rfl (lv_at hl 1 rfl) ?_
  rcases dk_or d with hd | ⟨k, hk, rfl⟩
  · have hk1 : (c_same a d i d2 j n) = 1 := by simp [c_same, hd.1]
    exact g_VTh (k := 1) F hlocks hno htw hB hS hP (0) (by decide) rfl rfl (c_P_textOf_th hst hd.2) k1_92 k1_94 k0_0 k1_1 k1_95 (by decide +kernel) rfl rfl ⟨Nat.le_of_ble_eq_true rfl, Nat.le_of_ble_eq_true rfl⟩ rfl hl.1 rfl (Nat.le_of_ble_eq_true rfl) dP_same_2 ⟨Nat.le_of_ble_eq_true rfl, Nat.le_of_ble_eq_true rfl⟩ (by rw [hk1]; decide) (by rw [hk1]; rfl)
  refine g_V (k := 1) F htw hB hS hP (0) (by decide) rfl rfl (c_P_textOf hk) k1_92 k1_94 k0_0 k1_1 k1_95 (by decide +kernel) rfl rfl ⟨Nat.le_of_ble_eq_true rfl, Nat.le_of_ble_eq_true rfl⟩ rfl hl.1 rfl (Nat.le_of_ble_eq_true rfl) dP_same_2 ⟨Nat.le_of_ble_eq_true rfl, Nat.le_of_ble_eq_true rfl⟩ (fun en1 H locs he hP hS => ?_)
  obtain rfl := he
  have hp_k := (hC.1 k hk).1
  have hn_k := ha.1 k hk
  have h5_k := hC.2.2.2.1 k hk
  refine lv_astore hx hb dP_same_5 hl (by decide) rfl (fun ls hl => ?_)
  have hl : lv_has ls 8 [(6, .ref _), (0, .ref _), (1, .int _), (2, .int _), (3, .int _), (4, .int _), (5, .int _)] := hl
  refine lv_aload_n hx hb dP_same_7 rfl (lv_at hl 1 rfl) ?_
  refine lv_iload_n hx hb dP_same_8 rfl (lv_at hl 4 rfl) ?_
  rcases dk_or d2 with hd | ⟨g, hg, rfl⟩
  · have hk1 : (c_same a (nI k) i d2 j n) = 1 := by simp [c_same, dk_nI hk, ix_nI (show k < 2 ^ 31 by omega), hd.1]
    exact g_VTh (k := 1) F hlocks hno htw hB hS hP (0) (by decide) rfl rfl (c_P_textOf_th hst hd.2) k1_92 k1_94 k0_0 k1_1 k1_95 (by decide +kernel) rfl rfl ⟨Nat.le_of_ble_eq_true rfl, Nat.le_of_ble_eq_true rfl⟩ rfl hl.1 rfl (Nat.le_of_ble_eq_true rfl) dP_same_9 ⟨Nat.le_of_ble_eq_true rfl, Nat.le_of_ble_eq_true rfl⟩ (by rw [hk1]; decide) (by rw [hk1]; rfl)
  refine g_V (k := 1) F htw hB hS hP (0) (by decide) rfl rfl (c_P_textOf hg) k1_92 k1_94 k0_0 k1_1 k1_95 (by decide +kernel) rfl rfl ⟨Nat.le_of_ble_eq_true rfl, Nat.le_of_ble_eq_true rfl⟩ rfl hl.1 rfl (Nat.le_of_ble_eq_true rfl) dP_same_9 ⟨Nat.le_of_ble_eq_true rfl, Nat.le_of_ble_eq_true rfl⟩ (fun en1 H locs he hP hS => ?_)
  obtain rfl := he
  have hp_g := (hC.1 g hg).1
  have hn_g := ha.1 g hg
  have h5_g := hC.2.2.2.1 g hg
  refine lv_astore hx hb dP_same_12 hl (by decide) rfl (fun ls hl => ?_)
  have hl : lv_has ls 8 [(7, .ref _), (6, .ref _), (0, .ref _), (1, .int _), (2, .int _), (3, .int _), (4, .int _), (5, .int _)] := hl
  refine lv_iload hx hb dP_same_14 (lv_at hl 7 rfl) ?_
  rcases nn_or n with hg0 | ⟨u, hu, rfl⟩
  · have hk1 : (c_same a (nI k) i (nI g) j n) = 1 := by simp [c_same, dk_nI hk, ix_nI (show k < 2 ^ 31 by omega), dk_nI hg, ix_nI (show g < 2 ^ 31 by omega), hg0.1]
    refine lv_if_lt (tgt := 23) hx hb dP_same_16 (by decide) (fun _ => ?_) (fun hc => absurd (by rw [Int32.lt_iff_toInt_lt]; omega) hc)
    refine lv_iconst (v := 0) hx hb dP_same_23 (by decide) ?_
    exact g_STh (k := 1) F hlocks hno htw hB hS hP (c_P_requireArgument_th hst) k1_168 k1_169 k1_1 k1_170 (by decide +kernel) rfl rfl ⟨Nat.le_of_ble_eq_true rfl, Nat.le_of_ble_eq_true rfl⟩ rfl hl.1 rfl (Nat.le_of_ble_eq_true rfl) dP_same_24 ⟨Nat.le_of_ble_eq_true rfl, Nat.le_of_ble_eq_true rfl⟩ (by rw [hk1]; decide) (by rw [hk1]; rfl)
  have zu := nI_toInt hu
  refine lv_if_lt (tgt := 23) hx hb dP_same_16 (by decide) (fun hc => absurd hc (by rw [Int32.lt_iff_toInt_lt]; omega)) (fun _ => ?_)
  refine lv_iconst (v := 1) hx hb dP_same_19 (by decide) ?_
  refine lv_goto (tgt := 24) hx hb dP_same_20 (by decide) ?_
  refine g_S (k := 1) F htw hB hS hP (c_P_requireArgument) k1_168 k1_169 k1_1 k1_170 (by decide +kernel) rfl rfl ⟨Nat.le_of_ble_eq_true rfl, Nat.le_of_ble_eq_true rfl⟩ rfl hl.1 rfl (Nat.le_of_ble_eq_true rfl) dP_same_24 ⟨Nat.le_of_ble_eq_true rfl, Nat.le_of_ble_eq_true rfl⟩ (fun en1 H locs he hP hS => ?_)
  obtain rfl := he
  refine lv_aload hx hb dP_same_27 (lv_at hl 1 rfl) ?_
  refine lv_iload_n hx hb dP_same_29 rfl (lv_at hl 4 rfl) ?_
  refine lv_iload_n hx hb dP_same_30 rfl (lv_at hl 4 rfl) ?_
  refine lv_i2l hx hb dP_same_31 rfl ?_
  refine lv_iload hx hb dP_same_32 (lv_at hl 7 rfl) ?_
  refine lv_i2l hx hb dP_same_34 rfl ?_
  refine lv_ladd hx hb dP_same_35 ?_
  refine g_V (k := 2) F htw hB hS hP (2 + 2 * pi k) (by omega) (en_T _ _ _ _ _ _ _ _ _ _ hp_k) rfl (c_T_hasRange hp_k hn_k h5_k i (i.toInt64 + (nI u).toInt64)) k2_0 k2_1 k2_2 k1_2 k2_3 (by decide +kernel) rfl rfl ⟨Nat.le_of_ble_eq_true rfl, Nat.le_of_ble_eq_true rfl⟩ rfl hl.1 rfl (Nat.le_of_ble_eq_true rfl) dP_same_36 ⟨Nat.le_of_ble_eq_true rfl, Nat.le_of_ble_eq_true rfl⟩ (fun en1 H locs he hP hS => ?_)
  obtain rfl := he
  rw [rgL_sm i hu]
  rcases sm_or i hu hn_k with hg0 | ⟨x, hx1, rfl⟩
  · have hk1 : (c_same a (nI k) i (nI g) j (nI u)) = 2 := by simp [c_same, dk_nI hk, ix_nI (show k < 2 ^ 31 by omega), dk_nI hg, ix_nI (show g < 2 ^ 31 by omega), nn_nI hu, ix_nI hu, hg0]
    rw [show (if smL i (nI u) (a_n a k) then (1 : Int32) else 0) = 0 from by rw [hg0]; rfl]
    refine lv_if_eq (tgt := 63) hx hb dP_same_39 (by decide) (fun _ => ?_) (fun hc => absurd rfl hc)
    refine lv_iconst (v := 0) hx hb dP_same_63 (by decide) ?_
    exact g_STh (k := 1) F hlocks hno htw hB hS hP (c_P_requireInside_th hst) k1_214 k1_215 k1_1 k1_216 (by decide +kernel) rfl rfl ⟨Nat.le_of_ble_eq_true rfl, Nat.le_of_ble_eq_true rfl⟩ rfl hl.1 rfl (Nat.le_of_ble_eq_true rfl) dP_same_64 ⟨Nat.le_of_ble_eq_true rfl, Nat.le_of_ble_eq_true rfl⟩ (by rw [hk1]; decide) (by rw [hk1]; rfl)
  rw [show (if smL (nI x) (nI u) (a_n a k) then (1 : Int32) else 0) = 1 from if_pos (sm_nI hx1 hn_k)]
  refine lv_if_eq (tgt := 63) hx hb dP_same_39 (by decide) (fun hc => absurd hc (by decide)) (fun _ => ?_)
  refine lv_aload hx hb dP_same_42 (lv_at hl 0 rfl) ?_
  refine lv_iload hx hb dP_same_44 (lv_at hl 6 rfl) ?_
  refine lv_iload hx hb dP_same_46 (lv_at hl 6 rfl) ?_
  refine lv_i2l hx hb dP_same_48 rfl ?_
  refine lv_iload hx hb dP_same_49 (lv_at hl 7 rfl) ?_
  refine lv_i2l hx hb dP_same_51 rfl ?_
  refine lv_ladd hx hb dP_same_52 ?_
  refine g_V (k := 2) F htw hB hS hP (2 + 2 * pi g) (by omega) (en_T _ _ _ _ _ _ _ _ _ _ hp_g) rfl (c_T_hasRange hp_g hn_g h5_g j (j.toInt64 + (nI u).toInt64)) k2_0 k2_1 k2_2 k1_2 k2_3 (by decide +kernel) rfl rfl ⟨Nat.le_of_ble_eq_true rfl, Nat.le_of_ble_eq_true rfl⟩ rfl hl.1 rfl (Nat.le_of_ble_eq_true rfl) dP_same_53 ⟨Nat.le_of_ble_eq_true rfl, Nat.le_of_ble_eq_true rfl⟩ (fun en1 H locs he hP hS => ?_)
  obtain rfl := he
  rw [rgL_sm j hu]
  rcases sm_or j hu hn_g with hg0 | ⟨z, hz1, rfl⟩
  · have hk1 : (c_same a (nI k) (nI x) (nI g) j (nI u)) = 2 := by simp [c_same, dk_nI hk, ix_nI (show k < 2 ^ 31 by omega), dk_nI hg, ix_nI (show g < 2 ^ 31 by omega), nn_nI hu, ix_nI hu, sm_nI hx1 hn_k, ix_nI (show x < 2 ^ 31 by omega), hg0]
    rw [show (if smL j (nI u) (a_n a g) then (1 : Int32) else 0) = 0 from by rw [hg0]; rfl]
    refine lv_if_eq (tgt := 63) hx hb dP_same_56 (by decide) (fun _ => ?_) (fun hc => absurd rfl hc)
    refine lv_iconst (v := 0) hx hb dP_same_63 (by decide) ?_
    exact g_STh (k := 1) F hlocks hno htw hB hS hP (c_P_requireInside_th hst) k1_214 k1_215 k1_1 k1_216 (by decide +kernel) rfl rfl ⟨Nat.le_of_ble_eq_true rfl, Nat.le_of_ble_eq_true rfl⟩ rfl hl.1 rfl (Nat.le_of_ble_eq_true rfl) dP_same_64 ⟨Nat.le_of_ble_eq_true rfl, Nat.le_of_ble_eq_true rfl⟩ (by rw [hk1]; decide) (by rw [hk1]; rfl)
  rw [show (if smL (nI z) (nI u) (a_n a g) then (1 : Int32) else 0) = 1 from if_pos (sm_nI hz1 hn_g)]
  refine lv_if_eq (tgt := 63) hx hb dP_same_56 (by decide) (fun hc => absurd hc (by decide)) (fun _ => ?_)
  refine lv_iconst (v := 1) hx hb dP_same_59 (by decide) ?_
  refine lv_goto (tgt := 64) hx hb dP_same_60 (by decide) ?_
  refine g_S (k := 1) F htw hB hS hP (c_P_requireInside) k1_214 k1_215 k1_1 k1_216 (by decide +kernel) rfl rfl ⟨Nat.le_of_ble_eq_true rfl, Nat.le_of_ble_eq_true rfl⟩ rfl hl.1 rfl (Nat.le_of_ble_eq_true rfl) dP_same_64 ⟨Nat.le_of_ble_eq_true rfl, Nat.le_of_ble_eq_true rfl⟩ (fun en1 H locs he hP hS => ?_)
  obtain rfl := he
  refine lv_aload hx hb dP_same_67 (lv_at hl 1 rfl) ?_
  refine lv_iload_n hx hb dP_same_69 rfl (lv_at hl 4 rfl) ?_
  refine lv_aload hx hb dP_same_70 (lv_at hl 0 rfl) ?_
  refine lv_iload hx hb dP_same_72 (lv_at hl 6 rfl) ?_
  refine g_S (k := 4) F htw hB hS hP (c_cmn hC ha hk hg (show x ≤ a_n a k by omega) (show z ≤ a_n a g by omega)) k2_65 k2_66 k1_1 k2_67 (by decide +kernel) rfl rfl ⟨Nat.le_of_ble_eq_true rfl, Nat.le_of_ble_eq_true rfl⟩ rfl hl.1 rfl (Nat.le_of_ble_eq_true rfl) dP_same_74 ⟨Nat.le_of_ble_eq_true rfl, Nat.le_of_ble_eq_true rfl⟩ (fun en1 H locs he hP hS => ?_)
  obtain rfl := he
  have hk1 : (c_same a (nI k) (nI x) (nI g) (nI z) (nI u)) = 0 := by simp [c_same, dk_nI hk, ix_nI (show k < 2 ^ 31 by omega), dk_nI hg, ix_nI (show g < 2 ^ 31 by omega), nn_nI hu, ix_nI hu, sm_nI hx1 hn_k, ix_nI (show x < 2 ^ 31 by omega), sm_nI hz1 hn_g, ix_nI (show z < 2 ^ 31 by omega)]
  have hcb : cpr a k x g z ≤ 1000 := by have := (cpx_le (fun c => decide (a_b a k (x + c) = a_b a g (z + c))) (min (a_n a k - x) (a_n a g - z)) 0).2; unfold cpr; omega
  refine lv_iload hx hb dP_same_77 (lv_at hl 7 rfl) ?_
  refine lv_icmp_lt (tgt := 86) hx hb dP_same_79 (by decide) (fun h1 => ?_) (fun h1 => ?_)
  · rw [nI_ltI (by omega) (by omega)] at h1
    refine lv_iconst (v := 0) hx hb dP_same_86 (by decide) ?_
    have hv : (if u ≤ cpr a k x g z then (1 : Int32) else 0) = 0 := if_neg (by omega)
    refine W.widen (k := 1) (n := 6) (by decide) (by decide) ?_
    exact W.toX (W.zret hx hb hr rfl (fun t ht hW => Or.inl ⟨hk1, ⟨by simp only [ix_nI (show k < 2 ^ 31 by omega), ix_nI (show g < 2 ^ 31 by omega), ix_nI hu, ix_nI (show x < 2 ^ 31 by omega), ix_nI (show z < 2 ^ 31 by omega), hv], ⟨_, ⟨_, _, _, rfl, hC⟩, by rw [ht]; exact hP⟩, hS.F ht⟩⟩) hS.2.2 dP_same_87)
  · rw [nI_ltI (by omega) (by omega)] at h1
    refine lv_iconst (v := 1) hx hb dP_same_82 (by decide) ?_
    refine lv_goto (tgt := 87) hx hb dP_same_83 (by decide) ?_
    have hv : (if u ≤ cpr a k x g z then (1 : Int32) else 0) = 1 := if_pos (by omega)
    refine W.widen (k := 1) (n := 6) (by decide) (by decide) ?_
    exact W.toX (W.zret hx hb hr rfl (fun t ht hW => Or.inl ⟨hk1, ⟨by simp only [ix_nI (show k < 2 ^ 31 by omega), ix_nI (show g < 2 ^ 31 by omega), ix_nI hu, ix_nI (show x < 2 ^ 31 by omega), ix_nI (show z < 2 ^ 31 by omega), hv], ⟨_, ⟨_, _, _, rfl, hC⟩, by rw [ht]; exact hP⟩, hS.F ht⟩⟩) hS.2.2 dP_same_87)
set_option maxHeartbeats 4000000 in
set_option maxRecDepth 100000 in
theorem c_P_name (hst : l.stackTraces = false) (G : gGeo ad 25 base) (ha : a_ok a) (hC : RepC pi dr S a) (d f t : Int32) : MetX l yP_name (Cond.code yP_name bP_name 8 (some .long) :: tws) { frames := 8, cells := 1, slots := 6, locals := 123 } (gPc (tw D cI cZ cT cJ base) D cl ad 25 base (en ad cI cZ cT cJ pi dr S M o) [.ref (ad 0), .int d, .int f, .int t]) (gQx D cl ad 25 base (en ad cI cZ cT cJ pi dr S M o) ["java/lang/IllegalArgumentException", "java/lang/IndexOutOfBoundsException"] (c_name a d f t) (some (.long (lN (nms (a_b a (ix d)) (ix f) (ix t - ix f))))) (fun e => ∃ (pi1 : Nat → Nat) (dr1 : Nat) (S1 : Nat → Nat → Int32), e = en ad cI cZ cT cJ pi1 dr1 S1 M o ∧ RepC pi1 dr1 S1 (a))) 1 6 (gA base) := by
  refine MetX.ofW (cc := bP_name) (maxL := 8) (ret := (some .long)) (by decide) rfl ?_
  intro p e s m args below meth c s₁ B hml hv
  obtain ⟨rfl, htw, hB, hP⟩ := hv
  have hx := B.exec
  have hb := B.bytes
  have hr := B.returns
  have hts0 := atoms_spec (ws := Cond.code yP_name bP_name 8 (some .long) :: tws) B.pre
  have hts : ∀ w ∈ tws, w.before _ s = true := fun w h => hts0 w (List.mem_cons_of_mem _ h)
  have hown : s.vm.findClass "PairedTexts" = some m.cls := findClass_of_methodNamed B.named
  have hlocks := B.notSynchronized
  have hno := B.noHandlers (hts0 _ List.mem_cons_self)
  have F : CallFix p m c bP_name 8 s _ tws "PairedTexts" := ⟨hx, hb, hml, hown, hts⟩
  have hK := htw.1
  have hS : va_S (gA base) s.heap s.heap [] := va_S.rf
  have hl := lv_entry ([.ref (ad 0), .int d, .int f, .int t]) (n := 8) (Nat.le_of_ble_eq_true rfl)
  rw [lg_entry_eq]
  generalize (lg_sl ([.ref (ad 0), .int d, .int f, .int t]) ++ List.replicate (8 - (lg_sl ([.ref (ad 0), .int d, .int f, .int t])).length) Slot.unset).toArray = ls at hl ⊢
  have hl : lv_has ls 8 [(0, .ref (ad 0)), (1, .int d), (2, .int f), (3, .int t)] := hl
  have hdr := hC.2.1
  refine lv_aload_n hx hb dP_name_0 rfl (lv_at hl 0 rfl) ?_
  refine lv_iload_n hx hb dP_name_1 rfl (lv_at hl 1 rfl) ?_
  rcases dk_or d with hd | ⟨k, hk, rfl⟩
  · have hk1 : (c_name a d f t) = 1 := by simp [c_name, hd.1]
    exact g_VTh (k := 1) F hlocks hno htw hB hS hP (0) (by decide) rfl rfl (c_P_textOf_th hst hd.2) k1_92 k1_94 k0_0 k1_1 k1_95 (by decide +kernel) rfl rfl ⟨Nat.le_of_ble_eq_true rfl, Nat.le_of_ble_eq_true rfl⟩ rfl hl.1 rfl (Nat.le_of_ble_eq_true rfl) dP_name_2 ⟨Nat.le_of_ble_eq_true rfl, Nat.le_of_ble_eq_true rfl⟩ (by rw [hk1]; decide) (by rw [hk1]; rfl)
  refine g_V (k := 1) F htw hB hS hP (0) (by decide) rfl rfl (c_P_textOf hk) k1_92 k1_94 k0_0 k1_1 k1_95 (by decide +kernel) rfl rfl ⟨Nat.le_of_ble_eq_true rfl, Nat.le_of_ble_eq_true rfl⟩ rfl hl.1 rfl (Nat.le_of_ble_eq_true rfl) dP_name_2 ⟨Nat.le_of_ble_eq_true rfl, Nat.le_of_ble_eq_true rfl⟩ (fun en1 H locs he hP hS => ?_)
  obtain rfl := he
  have hp_k := (hC.1 k hk).1
  have hn_k := ha.1 k hk
  have h5_k := hC.2.2.2.1 k hk
  refine lv_astore hx hb dP_name_5 hl (by decide) rfl (fun ls hl => ?_)
  have hl : lv_has ls 8 [(4, .ref _), (0, .ref _), (1, .int _), (2, .int _), (3, .int _)] := hl
  refine lv_aload hx hb dP_name_7 (lv_at hl 0 rfl) ?_
  refine lv_iload_n hx hb dP_name_9 rfl (lv_at hl 3 rfl) ?_
  refine lv_iload_n hx hb dP_name_10 rfl (lv_at hl 4 rfl) ?_
  refine lv_i2l hx hb dP_name_11 rfl ?_
  refine g_V (k := 2) F htw hB hS hP (2 + 2 * pi k) (by omega) (en_T _ _ _ _ _ _ _ _ _ _ hp_k) rfl (c_rng hC ha hk f t) k2_0 k2_1 k2_2 k1_2 k2_3 (by decide +kernel) rfl rfl ⟨Nat.le_of_ble_eq_true rfl, Nat.le_of_ble_eq_true rfl⟩ rfl hl.1 rfl (Nat.le_of_ble_eq_true rfl) dP_name_12 ⟨Nat.le_of_ble_eq_true rfl, Nat.le_of_ble_eq_true rfl⟩ (fun en1 H locs he hP hS => ?_)
  obtain rfl := he
  rcases rg_or f t hn_k with hr | ⟨f1, t1, hft, htn, rfl, rfl⟩
  · have hk1 : (c_name a (nI k) f t) = 2 := by simp [c_name, dk_nI hk, ix_nI (show k < 2 ^ 31 by omega), hr]
    rw [show (if rg f t (a_n a k) then (1 : Int32) else 0) = 0 from by rw [hr]; rfl]
    exact g_STh (k := 1) F hlocks hno htw hB hS hP (c_P_requireInside_th hst) k1_214 k1_215 k1_1 k1_216 (by decide +kernel) rfl rfl ⟨Nat.le_of_ble_eq_true rfl, Nat.le_of_ble_eq_true rfl⟩ rfl hl.1 rfl (Nat.le_of_ble_eq_true rfl) dP_name_15 ⟨Nat.le_of_ble_eq_true rfl, Nat.le_of_ble_eq_true rfl⟩ (by rw [hk1]; decide) (by rw [hk1]; rfl)
  rw [show (if rg (nI f1) (nI t1) (a_n a k) then (1 : Int32) else 0) = 1 from if_pos (rg_nI hft htn hn_k)]
  refine g_S (k := 1) F htw hB hS hP (c_P_requireInside) k1_214 k1_215 k1_1 k1_216 (by decide +kernel) rfl rfl ⟨Nat.le_of_ble_eq_true rfl, Nat.le_of_ble_eq_true rfl⟩ rfl hl.1 rfl (Nat.le_of_ble_eq_true rfl) dP_name_15 ⟨Nat.le_of_ble_eq_true rfl, Nat.le_of_ble_eq_true rfl⟩ (fun en1 H locs he hP hS => ?_)
  obtain rfl := he
  have hk1 : (c_name a (nI k) (nI f1) (nI t1)) = 0 := by simp [c_name, dk_nI hk, ix_nI (show k < 2 ^ 31 by omega), rg_nI hft htn hn_k, ix_nI (show f1 < 2 ^ 31 by omega), ix_nI (show t1 < 2 ^ 31 by omega)]
  refine lv_lconst (v := 0) hx hb dP_name_18 (by decide) ?_
  refine lv_lstore hx hb dP_name_19 hl (by decide) rfl (fun ls hl => ?_)
  have hl : lv_has ls 8 [(5, .long _), (4, .ref _), (0, .ref _), (1, .int _), (2, .int _), (3, .int _)] := hl
  refine lv_iload_n hx hb dP_name_21 rfl (lv_at hl 4 rfl) ?_
  refine lv_istore hx hb dP_name_22 hl (by decide) rfl (fun ls hl => ?_)
  have hl : lv_has ls 8 [(7, .int _), (5, .long _), (4, .ref _), (0, .ref _), (1, .int _), (2, .int _), (3, .int _)] := hl
  have hl : lv_has ls 8 [(7, .int (nI (f1 + 0))), (5, .long (lN (nms (a_b a k) f1 0))), (4, .ref (ad (2 + 2 * pi k))), (0, .ref (ad 0)), (1, .int (nI k)), (2, .int (nI f1)), (3, .int (nI t1))] := hl
  refine W.loop (α := Nat) (fun t a1 ls H locs => f1 + a1 + t = t1 ∧ lv_has ls 8 [(7, .int (nI (f1 + a1))), (5, .long (lN (nms (a_b a k) f1 a1))), (4, .ref (ad (2 + 2 * pi k))), (0, .ref (ad 0)), (1, .int (nI k)), (2, .int (nI f1)), (3, .int (nI t1))] ∧ va_P D cl (gw ad (en ad cI cZ cT cJ pi dr S M o) 25) H ∧ va_S (gA base) s.heap H locs) ?_ (t := (t1 - f1)) (a := 0) ⟨by show f1 + 0 + (t1 - f1) = t1; omega, hl, hP, hS⟩
  clear hl hP hS
  intro t a1 ls H locs hI ih
  obtain ⟨i0, hl, hP, hS⟩ := hI
  try dsimp only at i0 hl hP
  by_cases ht : t = 0
  · have hu : t1 - f1 = a1 := by omega
    refine lv_iload hx hb dP_name_24 (lv_at hl 0 rfl) ?_
    refine lv_iload_n hx hb dP_name_26 rfl (lv_at hl 6 rfl) ?_
    refine lv_icmp_ge (tgt := 51) hx hb dP_name_27 (by decide) (fun _ => ?_) (fun hc => absurd (by rw [nI_leI (by omega) (by omega)]; omega) hc)
    refine lv_lload hx hb dP_name_51 (lv_at hl 1 rfl) ?_
    refine W.widen (k := 1) (n := 6) (by decide) (by decide) ?_
    exact W.toX (W.lret hx hb hr (fun t ht hW => Or.inl ⟨hk1, ⟨by simp [hu, dk_nI hk, ix_nI (show k < 2 ^ 31 by omega), rg_nI hft htn hn_k, ix_nI (show f1 < 2 ^ 31 by omega), ix_nI (show t1 < 2 ^ 31 by omega)], ⟨_, ⟨_, _, _, rfl, hC⟩, by rw [ht]; exact hP⟩, hS.F ht⟩⟩) hS.2.2 dP_name_53)
  · refine lv_iload hx hb dP_name_24 (lv_at hl 0 rfl) ?_
    refine lv_iload_n hx hb dP_name_26 rfl (lv_at hl 6 rfl) ?_
    refine lv_icmp_ge (tgt := 51) hx hb dP_name_27 (by decide) (fun hc => absurd hc (by rw [nI_leI (by omega) (by omega)]; omega)) (fun _ => ?_)
    refine lv_lload hx hb dP_name_30 (lv_at hl 1 rfl) ?_
    refine lv_aload hx hb dP_name_32 (lv_at hl 2 rfl) ?_
    refine g_get F hK hP (2 + 2 * pi k) (by omega) (en_T _ _ _ _ _ _ _ _ _ _ hp_k) rfl iT 0 (by decide) k1_32 rfl dP_name_34 ?_
    refine lv_iload hx hb dP_name_37 (lv_at hl 0 rfl) ?_
    refine g_iald F hK hP (3 + 2 * pi k) (by omega) 0 (en_B _ _ _ _ _ _ _ _ _ _ hp_k) rfl (vp_in_nI (show f1 + a1 < 1000 by omega) (by omega)) dP_name_39 ?_
    rw [nI_clamp (show f1 + a1 < 2 ^ 31 by omega), hC.2.2.2.2.1 k (f1 + a1) hk (by omega)]
    refine g_S (k := 2) F htw hB hS hP (c_P_nameWithOneMore (nms_lt _ _ _) (ha.2.1 k (f1 + a1) hk (by omega))) k2_92 k2_93 k1_1 k2_94 (by decide +kernel) rfl rfl ⟨Nat.le_of_ble_eq_true rfl, Nat.le_of_ble_eq_true rfl⟩ rfl hl.1 rfl (Nat.le_of_ble_eq_true rfl) dP_name_40 ⟨Nat.le_of_ble_eq_true rfl, Nat.le_of_ble_eq_true rfl⟩ (fun en1 H locs he hP hS => ?_)
    obtain rfl := he
    refine lv_lstore hx hb dP_name_43 hl (by decide) rfl (fun ls hl => ?_)
    have hl : lv_has ls 8 [(5, .long _), (7, .int _), (4, .ref _), (0, .ref _), (1, .int _), (2, .int _), (3, .int _)] := hl
    refine lv_iinc (k := 1) hx hb dP_name_45 hl rfl rfl (by decide) rfl (fun ls hl => ?_)
    have hl : lv_has ls 8 [(7, .int _), (5, .long _), (4, .ref _), (0, .ref _), (1, .int _), (2, .int _), (3, .int _)] := hl
    refine lv_goto (tgt := 24) hx hb dP_name_48 (by decide) ?_
    have hl : lv_has ls 8 [(7, .int (nI (f1 + (a1 + 1)))), (5, .long (lN (nms (a_b a k) f1 (a1 + 1)))), (4, .ref (ad (2 + 2 * pi k))), (0, .ref (ad 0)), (1, .int (nI k)), (2, .int (nI f1)), (3, .int (nI t1))] := by rw [← Nat.add_assoc, ← nI_1]; exact hl
    exact ih (t - 1) (a1 + 1) _ _ _ (by omega) ⟨by show f1 + (a1 + 1) + (t - 1) = t1; omega, hl, hP, hS⟩
set_option maxHeartbeats 4000000 in
set_option maxRecDepth 100000 in
theorem c_P_pattern (hst : l.stackTraces = false) (G : gGeo ad 25 base) (ha : a_ok a) (hC : RepC pi dr S a) (lo hi : Int64) (n : Int32) : MetX l yP_pattern (Cond.code yP_pattern bP_pattern 6 none :: tws) { frames := 7, cells := 1, slots := 6, locals := 102 } (gPc (tw D cI cZ cT cJ base) D cl ad 25 base (en ad cI cZ cT cJ pi dr S M o) [.ref (ad 0), .long lo, .long hi, .int n]) (gQx D cl ad 25 base (en ad cI cZ cT cJ pi dr S M o) ["java/lang/IllegalArgumentException"] (c_pattern n) none (fun e => ∃ (pi1 : Nat → Nat) (dr1 : Nat) (S1 : Nat → Nat → Int32), e = en ad cI cZ cT cJ pi1 dr1 S1 M o ∧ RepC pi1 dr1 S1 (x_pattern a lo hi n))) 1 6 (gA base) := by
  refine MetX.ofW (cc := bP_pattern) (maxL := 6) (ret := none) (by decide) rfl ?_
  intro p e s m args below meth c s₁ B hml hv
  obtain ⟨rfl, htw, hB, hP⟩ := hv
  have hx := B.exec
  have hb := B.bytes
  have hr := B.returns
  have hts0 := atoms_spec (ws := Cond.code yP_pattern bP_pattern 6 none :: tws) B.pre
  have hts : ∀ w ∈ tws, w.before _ s = true := fun w h => hts0 w (List.mem_cons_of_mem _ h)
  have hown : s.vm.findClass "PairedTexts" = some m.cls := findClass_of_methodNamed B.named
  have hlocks := B.notSynchronized
  have hno := B.noHandlers (hts0 _ List.mem_cons_self)
  have F : CallFix p m c bP_pattern 6 s _ tws "PairedTexts" := ⟨hx, hb, hml, hown, hts⟩
  have hK := htw.1
  have hS : va_S (gA base) s.heap s.heap [] := va_S.rf
  have hl := lv_entry ([.ref (ad 0), .long lo, .long hi, .int n]) (n := 6) (Nat.le_of_ble_eq_true rfl)
  rw [lg_entry_eq]
  generalize (lg_sl ([.ref (ad 0), .long lo, .long hi, .int n]) ++ List.replicate (6 - (lg_sl ([.ref (ad 0), .long lo, .long hi, .int n])).length) Slot.unset).toArray = ls at hl ⊢
  have hl : lv_has ls 6 [(0, .ref (ad 0)), (1, .long lo), (3, .long hi), (5, .int n)] := hl
  have hdr := hC.2.1
  have z1 : (1 : Int32).toInt = 1 := rfl
  have z8 : (16 : Int32).toInt = 16 := rfl
  refine lv_iload hx hb dP_pattern_0 (lv_at hl 3 rfl) ?_
  refine lv_iconst (v := 1) hx hb dP_pattern_2 (by decide) ?_
  rcases bt_or n 16 with hg0 | ⟨j, hj1, hj8, rfl⟩
  · have hk1 : (c_pattern n) = 1 := by simp [c_pattern, show btw n 1 16 = false from hg0.1]
    refine lv_icmp_lt (tgt := 17) hx hb dP_pattern_3 (by decide) (fun hc => ?_) (fun hc => ?_)
    · refine lv_iconst (v := 0) hx hb dP_pattern_17 (by decide) ?_
      exact g_STh (k := 1) F hlocks hno htw hB hS hP (c_P_requireArgument_th hst) k1_168 k1_169 k1_1 k1_170 (by decide +kernel) rfl rfl ⟨Nat.le_of_ble_eq_true rfl, Nat.le_of_ble_eq_true rfl⟩ rfl hl.1 rfl (Nat.le_of_ble_eq_true rfl) dP_pattern_18 ⟨Nat.le_of_ble_eq_true rfl, Nat.le_of_ble_eq_true rfl⟩ (by rw [hk1]; decide) (by rw [hk1]; rfl)
    · rw [Int32.lt_iff_toInt_lt] at hc
      refine lv_iload hx hb dP_pattern_6 (lv_at hl 3 rfl) ?_
      refine lv_bipush (v := 16) hx hb dP_pattern_8 (by decide) ?_
      refine lv_icmp_gt (tgt := 17) hx hb dP_pattern_10 (by decide) (fun _ => ?_) (fun hc => absurd (by rw [Int32.lt_iff_toInt_lt]; omega) hc)
      refine lv_iconst (v := 0) hx hb dP_pattern_17 (by decide) ?_
      exact g_STh (k := 1) F hlocks hno htw hB hS hP (c_P_requireArgument_th hst) k1_168 k1_169 k1_1 k1_170 (by decide +kernel) rfl rfl ⟨Nat.le_of_ble_eq_true rfl, Nat.le_of_ble_eq_true rfl⟩ rfl hl.1 rfl (Nat.le_of_ble_eq_true rfl) dP_pattern_18 ⟨Nat.le_of_ble_eq_true rfl, Nat.le_of_ble_eq_true rfl⟩ (by rw [hk1]; decide) (by rw [hk1]; rfl)
  have zj := nI_toInt (show j < 2 ^ 31 by omega)
  refine lv_icmp_lt (tgt := 17) hx hb dP_pattern_3 (by decide) (fun hc => absurd hc (by rw [Int32.lt_iff_toInt_lt]; omega)) (fun _ => ?_)
  refine lv_iload hx hb dP_pattern_6 (lv_at hl 3 rfl) ?_
  refine lv_bipush (v := 16) hx hb dP_pattern_8 (by decide) ?_
  refine lv_icmp_gt (tgt := 17) hx hb dP_pattern_10 (by decide) (fun hc => absurd hc (by rw [Int32.lt_iff_toInt_lt]; omega)) (fun _ => ?_)
  refine lv_iconst (v := 1) hx hb dP_pattern_13 (by decide) ?_
  refine lv_goto (tgt := 18) hx hb dP_pattern_14 (by decide) ?_
  refine g_S (k := 1) F htw hB hS hP (c_P_requireArgument) k1_168 k1_169 k1_1 k1_170 (by decide +kernel) rfl rfl ⟨Nat.le_of_ble_eq_true rfl, Nat.le_of_ble_eq_true rfl⟩ rfl hl.1 rfl (Nat.le_of_ble_eq_true rfl) dP_pattern_18 ⟨Nat.le_of_ble_eq_true rfl, Nat.le_of_ble_eq_true rfl⟩ (fun en1 H locs he hP hS => ?_)
  obtain rfl := he
  refine lv_aload_n hx hb dP_pattern_21 rfl (lv_at hl 0 rfl) ?_
  refine g_get F hK hP (0) (by decide) rfl rfl iP 1 (by decide) k1_71 rfl dP_pattern_22 ?_
  refine lv_lload_n hx hb dP_pattern_25 rfl (lv_at hl 1 rfl) ?_
  refine lv_lload_n hx hb dP_pattern_26 rfl (lv_at hl 2 rfl) ?_
  refine lv_iload hx hb dP_pattern_27 (lv_at hl 3 rfl) ?_
  refine g_V (k := 3) F htw hB hS hP (12) (by decide) rfl rfl (c_Q_become G lo hi hj8) k2_106 k2_107 k2_108 k1_3 k2_109 (by decide +kernel) rfl rfl ⟨Nat.le_of_ble_eq_true rfl, Nat.le_of_ble_eq_true rfl⟩ rfl hl.1 rfl (Nat.le_of_ble_eq_true rfl) dP_pattern_29 ⟨Nat.le_of_ble_eq_true rfl, Nat.le_of_ble_eq_true rfl⟩ (fun en1 H locs he hP hS => ?_)
  obtain rfl := he
  have hC := hC.pat (g := pbyt lo hi) (n := j)
  have hk1 : (c_pattern (nI j)) = 0 := by simp [c_pattern, show btw (nI j) 1 16 = true from bt_nI (b := 16) hj1 hj8 (by decide), ix_nI (show j < 2 ^ 31 by omega)]
  refine W.widen (k := 1) (n := 6) (by decide) (by decide) ?_
  exact W.toX (W.vret hx hb hr (fun t ht hW => Or.inl ⟨hk1, ⟨rfl, ⟨_, ⟨_, _, _, rfl, by simpa [x_pattern, show btw (nI j) 1 16 = true from bt_nI (b := 16) hj1 hj8 (by decide), ix_nI (show j < 2 ^ 31 by omega)] using hC⟩, by rw [ht]; exact hP⟩, hS.F ht⟩⟩) hS.2.2 dP_pattern_32)
set_option maxHeartbeats 4000000 in
set_option maxRecDepth 100000 in
theorem c_P_count (hst : l.stackTraces = false) (G : gGeo ad 25 base) (ha : a_ok a) (hC : RepC pi dr S a) (d f t : Int32) : MetX l yP_count (Cond.code yP_count bP_count 7 (some .int) :: tws) { frames := 8, cells := 1, slots := 6, locals := 123 } (gPc (tw D cI cZ cT cJ base) D cl ad 25 base (en ad cI cZ cT cJ pi dr S M o) [.ref (ad 0), .int d, .int f, .int t]) (gQx D cl ad 25 base (en ad cI cZ cT cJ pi dr S M o) ["java/lang/IllegalArgumentException", "java/lang/IndexOutOfBoundsException", "java/lang/IllegalStateException"] (c_count a d f t) (some (.int (nI (cnt a (ix d) (ix f) (ix t) (ix t - ix f))))) (fun e => ∃ (pi1 : Nat → Nat) (dr1 : Nat) (S1 : Nat → Nat → Int32), e = en ad cI cZ cT cJ pi1 dr1 S1 M o ∧ RepC pi1 dr1 S1 (a))) 1 6 (gA base) := by
  refine MetX.ofW (cc := bP_count) (maxL := 7) (ret := (some .int)) (by decide) rfl ?_
  intro p e s m args below meth c s₁ B hml hv
  obtain ⟨rfl, htw, hB, hP⟩ := hv
  have hx := B.exec
  have hb := B.bytes
  have hr := B.returns
  have hts0 := atoms_spec (ws := Cond.code yP_count bP_count 7 (some .int) :: tws) B.pre
  have hts : ∀ w ∈ tws, w.before _ s = true := fun w h => hts0 w (List.mem_cons_of_mem _ h)
  have hown : s.vm.findClass "PairedTexts" = some m.cls := findClass_of_methodNamed B.named
  have hlocks := B.notSynchronized
  have hno := B.noHandlers (hts0 _ List.mem_cons_self)
  have F : CallFix p m c bP_count 7 s _ tws "PairedTexts" := ⟨hx, hb, hml, hown, hts⟩
  have hK := htw.1
  have hS : va_S (gA base) s.heap s.heap [] := va_S.rf
  have hl := lv_entry ([.ref (ad 0), .int d, .int f, .int t]) (n := 7) (Nat.le_of_ble_eq_true rfl)
  rw [lg_entry_eq]
  generalize (lg_sl ([.ref (ad 0), .int d, .int f, .int t]) ++ List.replicate (7 - (lg_sl ([.ref (ad 0), .int d, .int f, .int t])).length) Slot.unset).toArray = ls at hl ⊢
  have hl : lv_has ls 7 [(0, .ref (ad 0)), (1, .int d), (2, .int f), (3, .int t)] := hl
  have hdr := hC.2.1
  refine lv_aload_n hx hb dP_count_0 rfl (lv_at hl 0 rfl) ?_
  refine lv_iload_n hx hb dP_count_1 rfl (lv_at hl 1 rfl) ?_
  rcases dk_or d with hd | ⟨k, hk, rfl⟩
  · have hk1 : (c_count a d f t) = 1 := by simp [c_count, hd.1]
    exact g_VTh (k := 1) F hlocks hno htw hB hS hP (0) (by decide) rfl rfl (c_P_textOf_th hst hd.2) k1_92 k1_94 k0_0 k1_1 k1_95 (by decide +kernel) rfl rfl ⟨Nat.le_of_ble_eq_true rfl, Nat.le_of_ble_eq_true rfl⟩ rfl hl.1 rfl (Nat.le_of_ble_eq_true rfl) dP_count_2 ⟨Nat.le_of_ble_eq_true rfl, Nat.le_of_ble_eq_true rfl⟩ (by rw [hk1]; decide) (by rw [hk1]; rfl)
  refine g_V (k := 1) F htw hB hS hP (0) (by decide) rfl rfl (c_P_textOf hk) k1_92 k1_94 k0_0 k1_1 k1_95 (by decide +kernel) rfl rfl ⟨Nat.le_of_ble_eq_true rfl, Nat.le_of_ble_eq_true rfl⟩ rfl hl.1 rfl (Nat.le_of_ble_eq_true rfl) dP_count_2 ⟨Nat.le_of_ble_eq_true rfl, Nat.le_of_ble_eq_true rfl⟩ (fun en1 H locs he hP hS => ?_)
  obtain rfl := he
  have hp_k := (hC.1 k hk).1
  have hn_k := ha.1 k hk
  have h5_k := hC.2.2.2.1 k hk
  refine lv_astore hx hb dP_count_5 hl (by decide) rfl (fun ls hl => ?_)
  have hl : lv_has ls 7 [(4, .ref _), (0, .ref _), (1, .int _), (2, .int _), (3, .int _)] := hl
  refine lv_aload hx hb dP_count_7 (lv_at hl 0 rfl) ?_
  refine lv_iload_n hx hb dP_count_9 rfl (lv_at hl 3 rfl) ?_
  refine lv_iload_n hx hb dP_count_10 rfl (lv_at hl 4 rfl) ?_
  refine lv_i2l hx hb dP_count_11 rfl ?_
  refine g_V (k := 2) F htw hB hS hP (2 + 2 * pi k) (by omega) (en_T _ _ _ _ _ _ _ _ _ _ hp_k) rfl (c_rng hC ha hk f t) k2_0 k2_1 k2_2 k1_2 k2_3 (by decide +kernel) rfl rfl ⟨Nat.le_of_ble_eq_true rfl, Nat.le_of_ble_eq_true rfl⟩ rfl hl.1 rfl (Nat.le_of_ble_eq_true rfl) dP_count_12 ⟨Nat.le_of_ble_eq_true rfl, Nat.le_of_ble_eq_true rfl⟩ (fun en1 H locs he hP hS => ?_)
  obtain rfl := he
  rcases rg_or f t hn_k with hr | ⟨f1, t1, hft, htn, rfl, rfl⟩
  · have hk1 : (c_count a (nI k) f t) = 2 := by simp [c_count, dk_nI hk, ix_nI (show k < 2 ^ 31 by omega), hr]
    rw [show (if rg f t (a_n a k) then (1 : Int32) else 0) = 0 from by rw [hr]; rfl]
    exact g_STh (k := 1) F hlocks hno htw hB hS hP (c_P_requireInside_th hst) k1_214 k1_215 k1_1 k1_216 (by decide +kernel) rfl rfl ⟨Nat.le_of_ble_eq_true rfl, Nat.le_of_ble_eq_true rfl⟩ rfl hl.1 rfl (Nat.le_of_ble_eq_true rfl) dP_count_15 ⟨Nat.le_of_ble_eq_true rfl, Nat.le_of_ble_eq_true rfl⟩ (by rw [hk1]; decide) (by rw [hk1]; rfl)
  rw [show (if rg (nI f1) (nI t1) (a_n a k) then (1 : Int32) else 0) = 1 from if_pos (rg_nI hft htn hn_k)]
  refine g_S (k := 1) F htw hB hS hP (c_P_requireInside) k1_214 k1_215 k1_1 k1_216 (by decide +kernel) rfl rfl ⟨Nat.le_of_ble_eq_true rfl, Nat.le_of_ble_eq_true rfl⟩ rfl hl.1 rfl (Nat.le_of_ble_eq_true rfl) dP_count_15 ⟨Nat.le_of_ble_eq_true rfl, Nat.le_of_ble_eq_true rfl⟩ (fun en1 H locs he hP hS => ?_)
  obtain rfl := he
  refine lv_aload_n hx hb dP_count_18 rfl (lv_at hl 1 rfl) ?_
  have hpn := ha.2.2.1
  by_cases hp0 : a_p a = 0
  · have hk1 : (c_count a (nI k) (nI f1) (nI t1)) = 3 := by simp [c_count, dk_nI hk, ix_nI (show k < 2 ^ 31 by omega), rg_nI hft htn hn_k, ix_nI (show f1 < 2 ^ 31 by omega), ix_nI (show t1 < 2 ^ 31 by omega), hp0]
    exact g_VTh (k := 0) F hlocks hno htw hB hS hP (0) (by decide) rfl rfl (c_P_requirePattern_th hst (by rw [hC.2.2.2.2.2.1, hp0]; rfl)) k2_119 k2_121 k0_3 k1_1 k2_122 (by decide +kernel) rfl rfl ⟨Nat.le_of_ble_eq_true rfl, Nat.le_of_ble_eq_true rfl⟩ rfl hl.1 rfl (Nat.le_of_ble_eq_true rfl) dP_count_19 ⟨Nat.le_of_ble_eq_true rfl, Nat.le_of_ble_eq_true rfl⟩ (by rw [hk1]; decide) (by rw [hk1]; rfl)
  · have hk1 : (c_count a (nI k) (nI f1) (nI t1)) = 0 := by simp [c_count, dk_nI hk, ix_nI (show k < 2 ^ 31 by omega), rg_nI hft htn hn_k, ix_nI (show f1 < 2 ^ 31 by omega), ix_nI (show t1 < 2 ^ 31 by omega), hp0]
    refine g_V (k := 0) F htw hB hS hP (0) (by decide) rfl rfl (c_P_requirePattern (by rw [hC.2.2.2.2.2.1]; exact nI_ne0 (by omega) (by omega))) k2_119 k2_121 k0_3 k1_1 k2_122 (by decide +kernel) rfl rfl ⟨Nat.le_of_ble_eq_true rfl, Nat.le_of_ble_eq_true rfl⟩ rfl hl.1 rfl (Nat.le_of_ble_eq_true rfl) dP_count_19 ⟨Nat.le_of_ble_eq_true rfl, Nat.le_of_ble_eq_true rfl⟩ (fun en1 H locs he hP hS => ?_)
    obtain rfl := he
    refine lv_iconst (v := 0) hx hb dP_count_22 (by decide) ?_
    refine lv_istore hx hb dP_count_23 hl (by decide) rfl (fun ls hl => ?_)
    have hl : lv_has ls 7 [(5, .int _), (4, .ref _), (0, .ref _), (1, .int _), (2, .int _), (3, .int _)] := hl
    refine lv_iload_n hx hb dP_count_25 rfl (lv_at hl 4 rfl) ?_
    refine lv_istore hx hb dP_count_26 hl (by decide) rfl (fun ls hl => ?_)
    have hl : lv_has ls 7 [(6, .int _), (5, .int _), (4, .ref _), (0, .ref _), (1, .int _), (2, .int _), (3, .int _)] := hl
    have hl : lv_has ls 7 [(6, .int (nI (f1 + 0))), (5, .int (nI (cnt a k f1 t1 0))), (4, .ref (ad (2 + 2 * pi k))), (0, .ref (ad 0)), (1, .int (nI k)), (2, .int (nI f1)), (3, .int (nI t1))] := hl
    refine W.loop (α := Nat) (fun t a1 ls H locs => f1 + a1 + t = t1 ∧ lv_has ls 7 [(6, .int (nI (f1 + a1))), (5, .int (nI (cnt a k f1 t1 a1))), (4, .ref (ad (2 + 2 * pi k))), (0, .ref (ad 0)), (1, .int (nI k)), (2, .int (nI f1)), (3, .int (nI t1))] ∧ va_P D cl (gw ad (en ad cI cZ cT cJ pi dr S M o) 25) H ∧ va_S (gA base) s.heap H locs) ?_ (t := (t1 - f1)) (a := 0) ⟨by show f1 + 0 + (t1 - f1) = t1; omega, hl, hP, hS⟩
    clear hl hP hS
    intro t a1 ls H locs hI ih
    obtain ⟨i0, hl, hP, hS⟩ := hI
    try dsimp only at i0 hl hP
    by_cases ht : t = 0
    · have hu : t1 - f1 = a1 := by omega
      refine lv_iload hx hb dP_count_28 (lv_at hl 0 rfl) ?_
      refine lv_iload_n hx hb dP_count_30 rfl (lv_at hl 6 rfl) ?_
      refine lv_icmp_ge (tgt := 58) hx hb dP_count_31 (by decide) (fun _ => ?_) (fun hc => absurd (by rw [nI_leI (by omega) (by omega)]; omega) hc)
      refine lv_iload hx hb dP_count_58 (lv_at hl 1 rfl) ?_
      refine W.widen (k := 1) (n := 6) (by decide) (by decide) ?_
      exact W.toX (W.iret hx hb hr (fun t ht hW => Or.inl ⟨hk1, ⟨by simp [hu, dk_nI hk, ix_nI (show k < 2 ^ 31 by omega), rg_nI hft htn hn_k, ix_nI (show f1 < 2 ^ 31 by omega), ix_nI (show t1 < 2 ^ 31 by omega), hp0], ⟨_, ⟨_, _, _, rfl, hC⟩, by rw [ht]; exact hP⟩, hS.F ht⟩⟩) hS.2.2 dP_count_60)
    · refine lv_iload hx hb dP_count_28 (lv_at hl 0 rfl) ?_
      refine lv_iload_n hx hb dP_count_30 rfl (lv_at hl 6 rfl) ?_
      refine lv_icmp_ge (tgt := 58) hx hb dP_count_31 (by decide) (fun hc => absurd hc (by rw [nI_leI (by omega) (by omega)]; omega)) (fun _ => ?_)
      refine lv_aload_n hx hb dP_count_34 rfl (lv_at hl 3 rfl) ?_
      refine g_get F hK hP (0) (by decide) rfl rfl iP 1 (by decide) k1_71 rfl dP_count_35 ?_
      refine lv_aload hx hb dP_count_38 (lv_at hl 2 rfl) ?_
      refine lv_iload hx hb dP_count_40 (lv_at hl 0 rfl) ?_
      refine lv_iload_n hx hb dP_count_42 rfl (lv_at hl 6 rfl) ?_
      refine g_V (k := 3) F htw hB hS hP (12) (by decide) rfl rfl (c_std hC ha hk (show f1 + a1 ≤ t1 by omega) htn) k2_139 k2_140 k2_141 k1_3 k2_142 (by decide +kernel) rfl rfl ⟨Nat.le_of_ble_eq_true rfl, Nat.le_of_ble_eq_true rfl⟩ rfl hl.1 rfl (Nat.le_of_ble_eq_true rfl) dP_count_43 ⟨Nat.le_of_ble_eq_true rfl, Nat.le_of_ble_eq_true rfl⟩ (fun en1 H locs he hP hS => ?_)
      obtain rfl := he
      by_cases hs : stB a k (f1 + a1) t1 = true
      · rw [if_pos hs]
        refine lv_if_eq (tgt := 52) hx hb dP_count_46 (by decide) (fun hc => absurd hc (by decide)) (fun _ => ?_)
        refine lv_iinc (k := 1) hx hb dP_count_49 hl rfl rfl (by decide) rfl (fun ls hl => ?_)
        have hl : lv_has ls 7 [(5, .int _), (6, .int _), (4, .ref _), (0, .ref _), (1, .int _), (2, .int _), (3, .int _)] := hl
        refine lv_iinc (k := 1) hx hb dP_count_52 hl rfl rfl (by decide) rfl (fun ls hl => ?_)
        have hl : lv_has ls 7 [(6, .int _), (5, .int _), (4, .ref _), (0, .ref _), (1, .int _), (2, .int _), (3, .int _)] := hl
        refine lv_goto (tgt := 28) hx hb dP_count_55 (by decide) ?_
        have hl : lv_has ls 7 [(6, .int (nI (f1 + (a1 + 1)))), (5, .int (nI (cnt a k f1 t1 (a1 + 1)))), (4, .ref (ad (2 + 2 * pi k))), (0, .ref (ad 0)), (1, .int (nI k)), (2, .int (nI f1)), (3, .int (nI t1))] := by unfold cnt; rw [if_pos hs, ← Nat.add_assoc, ← nI_1, ← nI_1]; exact hl
        exact ih (t - 1) (a1 + 1) _ _ _ (by omega) ⟨by show f1 + (a1 + 1) + (t - 1) = t1; omega, hl, hP, hS⟩
      · rw [if_neg hs]
        refine lv_if_eq (tgt := 52) hx hb dP_count_46 (by decide) (fun _ => ?_) (fun hc => absurd rfl hc)
        refine lv_iinc (k := 0) hx hb dP_count_52 hl rfl rfl (by decide) rfl (fun ls hl => ?_)
        have hl : lv_has ls 7 [(6, .int _), (5, .int _), (4, .ref _), (0, .ref _), (1, .int _), (2, .int _), (3, .int _)] := hl
        refine lv_goto (tgt := 28) hx hb dP_count_55 (by decide) ?_
        have hl : lv_has ls 7 [(6, .int (nI (f1 + (a1 + 1)))), (5, .int (nI (cnt a k f1 t1 (a1 + 1)))), (4, .ref (ad (2 + 2 * pi k))), (0, .ref (ad 0)), (1, .int (nI k)), (2, .int (nI f1)), (3, .int (nI t1))] := by unfold cnt; rw [if_neg hs, ← Nat.add_assoc, ← nI_1]; exact hl
        exact ih (t - 1) (a1 + 1) _ _ _ (by omega) ⟨by show f1 + (a1 + 1) + (t - 1) = t1; omega, hl, hP, hS⟩
set_option maxHeartbeats 4000000 in
set_option maxRecDepth 100000 in
theorem c_P_find (hst : l.stackTraces = false) (G : gGeo ad 25 base) (ha : a_ok a) (hC : RepC pi dr S a) (d i n : Int32) : MetX l yP_find (Cond.code yP_find bP_find 7 (some .int) :: tws) { frames := 8, cells := 1, slots := 6, locals := 123 } (gPc (tw D cI cZ cT cJ base) D cl ad 25 base (en ad cI cZ cT cJ pi dr S M o) [.ref (ad 0), .int d, .int i, .int n]) (gQx D cl ad 25 base (en ad cI cZ cT cJ pi dr S M o) ["java/lang/IllegalArgumentException", "java/lang/IndexOutOfBoundsException", "java/lang/IllegalStateException"] (c_find a d i n) (some (.int (fnd a (ix d) (a_n a (ix d)) (a_n a (ix d) - ix i) (ix i) (ix n)))) (fun e => ∃ (pi1 : Nat → Nat) (dr1 : Nat) (S1 : Nat → Nat → Int32), e = en ad cI cZ cT cJ pi1 dr1 S1 M o ∧ RepC pi1 dr1 S1 (a))) 1 6 (gA base) := by
  refine MetX.ofW (cc := bP_find) (maxL := 7) (ret := (some .int)) (by decide) rfl ?_
  intro p e s m args below meth c s₁ B hml hv
  obtain ⟨rfl, htw, hB, hP⟩ := hv
  have hx := B.exec
  have hb := B.bytes
  have hr := B.returns
  have hts0 := atoms_spec (ws := Cond.code yP_find bP_find 7 (some .int) :: tws) B.pre
  have hts : ∀ w ∈ tws, w.before _ s = true := fun w h => hts0 w (List.mem_cons_of_mem _ h)
  have hown : s.vm.findClass "PairedTexts" = some m.cls := findClass_of_methodNamed B.named
  have hlocks := B.notSynchronized
  have hno := B.noHandlers (hts0 _ List.mem_cons_self)
  have F : CallFix p m c bP_find 7 s _ tws "PairedTexts" := ⟨hx, hb, hml, hown, hts⟩
  have hK := htw.1
  have hS : va_S (gA base) s.heap s.heap [] := va_S.rf
  have hl := lv_entry ([.ref (ad 0), .int d, .int i, .int n]) (n := 7) (Nat.le_of_ble_eq_true rfl)
  rw [lg_entry_eq]
  generalize (lg_sl ([.ref (ad 0), .int d, .int i, .int n]) ++ List.replicate (7 - (lg_sl ([.ref (ad 0), .int d, .int i, .int n])).length) Slot.unset).toArray = ls at hl ⊢
  have hl : lv_has ls 7 [(0, .ref (ad 0)), (1, .int d), (2, .int i), (3, .int n)] := hl
  have hdr := hC.2.1
  have z0 : (0 : Int32).toInt = 0 := rfl
  refine lv_aload_n hx hb dP_find_0 rfl (lv_at hl 0 rfl) ?_
  refine lv_iload_n hx hb dP_find_1 rfl (lv_at hl 1 rfl) ?_
  rcases dk_or d with hd | ⟨k, hk, rfl⟩
  · have hk1 : (c_find a d i n) = 1 := by simp [c_find, hd.1]
    exact g_VTh (k := 1) F hlocks hno htw hB hS hP (0) (by decide) rfl rfl (c_P_textOf_th hst hd.2) k1_92 k1_94 k0_0 k1_1 k1_95 (by decide +kernel) rfl rfl ⟨Nat.le_of_ble_eq_true rfl, Nat.le_of_ble_eq_true rfl⟩ rfl hl.1 rfl (Nat.le_of_ble_eq_true rfl) dP_find_2 ⟨Nat.le_of_ble_eq_true rfl, Nat.le_of_ble_eq_true rfl⟩ (by rw [hk1]; decide) (by rw [hk1]; rfl)
  refine g_V (k := 1) F htw hB hS hP (0) (by decide) rfl rfl (c_P_textOf hk) k1_92 k1_94 k0_0 k1_1 k1_95 (by decide +kernel) rfl rfl ⟨Nat.le_of_ble_eq_true rfl, Nat.le_of_ble_eq_true rfl⟩ rfl hl.1 rfl (Nat.le_of_ble_eq_true rfl) dP_find_2 ⟨Nat.le_of_ble_eq_true rfl, Nat.le_of_ble_eq_true rfl⟩ (fun en1 H locs he hP hS => ?_)
  obtain rfl := he
  have hp_k := (hC.1 k hk).1
  have hn_k := ha.1 k hk
  have h5_k := hC.2.2.2.1 k hk
  refine lv_astore hx hb dP_find_5 hl (by decide) rfl (fun ls hl => ?_)
  have hl : lv_has ls 7 [(4, .ref _), (0, .ref _), (1, .int _), (2, .int _), (3, .int _)] := hl
  refine lv_iload_n hx hb dP_find_7 rfl (lv_at hl 4 rfl) ?_
  rcases nn_or n with hg0 | ⟨j, hj, rfl⟩
  · have hk1 : (c_find a (nI k) i n) = 1 := by simp [c_find, dk_nI hk, ix_nI (show k < 2 ^ 31 by omega), hg0.1]
    refine lv_if_lt (tgt := 15) hx hb dP_find_8 (by decide) (fun _ => ?_) (fun hc => absurd (by rw [Int32.lt_iff_toInt_lt]; omega) hc)
    refine lv_iconst (v := 0) hx hb dP_find_15 (by decide) ?_
    exact g_STh (k := 1) F hlocks hno htw hB hS hP (c_P_requireArgument_th hst) k1_168 k1_169 k1_1 k1_170 (by decide +kernel) rfl rfl ⟨Nat.le_of_ble_eq_true rfl, Nat.le_of_ble_eq_true rfl⟩ rfl hl.1 rfl (Nat.le_of_ble_eq_true rfl) dP_find_16 ⟨Nat.le_of_ble_eq_true rfl, Nat.le_of_ble_eq_true rfl⟩ (by rw [hk1]; decide) (by rw [hk1]; rfl)
  have zj := nI_toInt hj
  refine lv_if_lt (tgt := 15) hx hb dP_find_8 (by decide) (fun hc => absurd hc (by rw [Int32.lt_iff_toInt_lt]; omega)) (fun _ => ?_)
  refine lv_iconst (v := 1) hx hb dP_find_11 (by decide) ?_
  refine lv_goto (tgt := 16) hx hb dP_find_12 (by decide) ?_
  refine g_S (k := 1) F htw hB hS hP (c_P_requireArgument) k1_168 k1_169 k1_1 k1_170 (by decide +kernel) rfl rfl ⟨Nat.le_of_ble_eq_true rfl, Nat.le_of_ble_eq_true rfl⟩ rfl hl.1 rfl (Nat.le_of_ble_eq_true rfl) dP_find_16 ⟨Nat.le_of_ble_eq_true rfl, Nat.le_of_ble_eq_true rfl⟩ (fun en1 H locs he hP hS => ?_)
  obtain rfl := he
  refine lv_aload hx hb dP_find_19 (lv_at hl 0 rfl) ?_
  refine lv_iload_n hx hb dP_find_21 rfl (lv_at hl 3 rfl) ?_
  refine g_V (k := 1) F htw hB hS hP (2 + 2 * pi k) (by omega) (en_T _ _ _ _ _ _ _ _ _ _ hp_k) rfl (c_pce hC ha hk i) k2_33 k2_34 k2_35 k1_2 k2_36 (by decide +kernel) rfl rfl ⟨Nat.le_of_ble_eq_true rfl, Nat.le_of_ble_eq_true rfl⟩ rfl hl.1 rfl (Nat.le_of_ble_eq_true rfl) dP_find_22 ⟨Nat.le_of_ble_eq_true rfl, Nat.le_of_ble_eq_true rfl⟩ (fun en1 H locs he hP hS => ?_)
  obtain rfl := he
  rcases pc_or i hn_k with hg0 | ⟨x, hx1, rfl⟩
  · have hk1 : (c_find a (nI k) i (nI j)) = 2 := by simp [c_find, dk_nI hk, ix_nI (show k < 2 ^ 31 by omega), nn_nI hj, ix_nI hj, hg0]
    rw [show (if pcL i (a_n a k) then (1 : Int32) else 0) = 0 from by rw [hg0]; rfl]
    exact g_STh (k := 1) F hlocks hno htw hB hS hP (c_P_requireInside_th hst) k1_214 k1_215 k1_1 k1_216 (by decide +kernel) rfl rfl ⟨Nat.le_of_ble_eq_true rfl, Nat.le_of_ble_eq_true rfl⟩ rfl hl.1 rfl (Nat.le_of_ble_eq_true rfl) dP_find_25 ⟨Nat.le_of_ble_eq_true rfl, Nat.le_of_ble_eq_true rfl⟩ (by rw [hk1]; decide) (by rw [hk1]; rfl)
  rw [show (if pcL (nI x) (a_n a k) then (1 : Int32) else 0) = 1 from if_pos (pc_nI hx1 hn_k)]
  refine g_S (k := 1) F htw hB hS hP (c_P_requireInside) k1_214 k1_215 k1_1 k1_216 (by decide +kernel) rfl rfl ⟨Nat.le_of_ble_eq_true rfl, Nat.le_of_ble_eq_true rfl⟩ rfl hl.1 rfl (Nat.le_of_ble_eq_true rfl) dP_find_25 ⟨Nat.le_of_ble_eq_true rfl, Nat.le_of_ble_eq_true rfl⟩ (fun en1 H locs he hP hS => ?_)
  obtain rfl := he
  refine lv_aload_n hx hb dP_find_28 rfl (lv_at hl 1 rfl) ?_
  have hpn := ha.2.2.1
  by_cases hp0 : a_p a = 0
  · have hk1 : (c_find a (nI k) (nI x) (nI j)) = 3 := by simp [c_find, dk_nI hk, ix_nI (show k < 2 ^ 31 by omega), nn_nI hj, ix_nI hj, pc_nI hx1 hn_k, ix_nI (show x < 2 ^ 31 by omega), hp0]
    exact g_VTh (k := 0) F hlocks hno htw hB hS hP (0) (by decide) rfl rfl (c_P_requirePattern_th hst (by rw [hC.2.2.2.2.2.1, hp0]; rfl)) k2_119 k2_121 k0_3 k1_1 k2_122 (by decide +kernel) rfl rfl ⟨Nat.le_of_ble_eq_true rfl, Nat.le_of_ble_eq_true rfl⟩ rfl hl.1 rfl (Nat.le_of_ble_eq_true rfl) dP_find_29 ⟨Nat.le_of_ble_eq_true rfl, Nat.le_of_ble_eq_true rfl⟩ (by rw [hk1]; decide) (by rw [hk1]; rfl)
  · have hk1 : (c_find a (nI k) (nI x) (nI j)) = 0 := by simp [c_find, dk_nI hk, ix_nI (show k < 2 ^ 31 by omega), nn_nI hj, ix_nI hj, pc_nI hx1 hn_k, ix_nI (show x < 2 ^ 31 by omega), hp0]
    refine g_V (k := 0) F htw hB hS hP (0) (by decide) rfl rfl (c_P_requirePattern (by rw [hC.2.2.2.2.2.1]; exact nI_ne0 (by omega) (by omega))) k2_119 k2_121 k0_3 k1_1 k2_122 (by decide +kernel) rfl rfl ⟨Nat.le_of_ble_eq_true rfl, Nat.le_of_ble_eq_true rfl⟩ rfl hl.1 rfl (Nat.le_of_ble_eq_true rfl) dP_find_29 ⟨Nat.le_of_ble_eq_true rfl, Nat.le_of_ble_eq_true rfl⟩ (fun en1 H locs he hP hS => ?_)
    obtain rfl := he
    refine lv_iconst (v := 0) hx hb dP_find_32 (by decide) ?_
    refine lv_istore hx hb dP_find_33 hl (by decide) rfl (fun ls hl => ?_)
    have hl : lv_has ls 7 [(5, .int _), (4, .ref _), (0, .ref _), (1, .int _), (2, .int _), (3, .int _)] := hl
    refine lv_iload_n hx hb dP_find_35 rfl (lv_at hl 4 rfl) ?_
    refine lv_istore hx hb dP_find_36 hl (by decide) rfl (fun ls hl => ?_)
    have hl : lv_has ls 7 [(6, .int _), (5, .int _), (4, .ref _), (0, .ref _), (1, .int _), (2, .int _), (3, .int _)] := hl
    refine W.loop (α := Nat × Nat) (fun t a1 ls H locs => a1.1 + t = a_n a k ∧ a1.2 ≤ j ∧ a1.2 ≤ a1.1 ∧ fnd a k (a_n a k) t a1.1 (j - a1.2) = fnd a k (a_n a k) (a_n a k - x) x j ∧ lv_has ls 7 [(6, .int (nI a1.1)), (5, .int (nI a1.2)), (4, .ref (ad (2 + 2 * pi k))), (0, .ref (ad 0)), (1, .int (nI k)), (2, .int (nI x)), (3, .int (nI j))] ∧ va_P D cl (gw ad (en ad cI cZ cT cJ pi dr S M o) 25) H ∧ va_S (gA base) s.heap H locs) ?_ (t := (a_n a k - x)) (a := (x, 0)) ⟨by show x + (a_n a k - x) = a_n a k; omega, Nat.zero_le _, Nat.zero_le _, rfl, hl, hP, hS⟩
    clear hl hP hS
    intro t a1 ls H locs hI ih
    obtain ⟨u, v⟩ := a1
    obtain ⟨i0, i1, i2, i3, hl, hP, hS⟩ := hI
    try dsimp only at i0 i1 i2 i3 hl hP
    by_cases ht : t = 0
    · subst ht
      refine lv_iload hx hb dP_find_38 (lv_at hl 0 rfl) ?_
      refine lv_aload hx hb dP_find_40 (lv_at hl 2 rfl) ?_
      refine g_get F hK hP (2 + 2 * pi k) (by omega) (en_T _ _ _ _ _ _ _ _ _ _ hp_k) rfl iT 1 (by decide) k1_34 rfl dP_find_42 ?_
      refine lv_icmp_ge (tgt := 85) hx hb dP_find_45 (by decide) (fun _ => ?_) (fun hc => absurd (by rw [h5_k, nI_leI (by omega) (by omega)]; omega) hc)
      refine lv_iconst (v := (-1)) hx hb dP_find_85 (by decide) ?_
      have i3 : (-1 : Int32) = fnd a k (a_n a k) (a_n a k - x) x j := i3
      refine W.widen (k := 1) (n := 6) (by decide) (by decide) ?_
      exact W.toX (W.iret hx hb hr (fun t ht hW => Or.inl ⟨hk1, ⟨by simp [← i3, dk_nI hk, ix_nI (show k < 2 ^ 31 by omega), nn_nI hj, ix_nI hj, pc_nI hx1 hn_k, ix_nI (show x < 2 ^ 31 by omega), hp0], ⟨_, ⟨_, _, _, rfl, hC⟩, by rw [ht]; exact hP⟩, hS.F ht⟩⟩) hS.2.2 dP_find_86)
    · obtain ⟨t, rfl⟩ : ∃ z, t = z + 1 := ⟨t - 1, by omega⟩
      have i3 : (if stB a k u (a_n a k) then (if j - v = 0 then nI u else fnd a k (a_n a k) t (u + 1) (j - v - 1)) else fnd a k (a_n a k) t (u + 1) (j - v)) = fnd a k (a_n a k) (a_n a k - x) x j := i3
      refine lv_iload hx hb dP_find_38 (lv_at hl 0 rfl) ?_
      refine lv_aload hx hb dP_find_40 (lv_at hl 2 rfl) ?_
      refine g_get F hK hP (2 + 2 * pi k) (by omega) (en_T _ _ _ _ _ _ _ _ _ _ hp_k) rfl iT 1 (by decide) k1_34 rfl dP_find_42 ?_
      refine lv_icmp_ge (tgt := 85) hx hb dP_find_45 (by decide) (fun hc => absurd hc (by rw [h5_k, nI_leI (by omega) (by omega)]; omega)) (fun _ => ?_)
      refine lv_aload_n hx hb dP_find_48 rfl (lv_at hl 3 rfl) ?_
      refine g_get F hK hP (0) (by decide) rfl rfl iP 1 (by decide) k1_71 rfl dP_find_49 ?_
      refine lv_aload hx hb dP_find_52 (lv_at hl 2 rfl) ?_
      refine lv_iload hx hb dP_find_54 (lv_at hl 0 rfl) ?_
      refine lv_aload hx hb dP_find_56 (lv_at hl 2 rfl) ?_
      refine g_get F hK hP (2 + 2 * pi k) (by omega) (en_T _ _ _ _ _ _ _ _ _ _ hp_k) rfl iT 1 (by decide) k1_34 rfl dP_find_58 ?_
      rw [h5_k]
      refine g_V (k := 3) F htw hB hS hP (12) (by decide) rfl rfl (c_std hC ha hk (show u ≤ a_n a k by omega) (Nat.le_refl _)) k2_139 k2_140 k2_141 k1_3 k2_142 (by decide +kernel) rfl rfl ⟨Nat.le_of_ble_eq_true rfl, Nat.le_of_ble_eq_true rfl⟩ rfl hl.1 rfl (Nat.le_of_ble_eq_true rfl) dP_find_61 ⟨Nat.le_of_ble_eq_true rfl, Nat.le_of_ble_eq_true rfl⟩ (fun en1 H locs he hP hS => ?_)
      obtain rfl := he
      by_cases hs : stB a k u (a_n a k) = true
      · rw [if_pos hs] at i3
        rw [if_pos hs]
        refine lv_if_eq (tgt := 79) hx hb dP_find_64 (by decide) (fun hc => absurd hc (by decide)) (fun _ => ?_)
        refine lv_iload hx hb dP_find_67 (lv_at hl 1 rfl) ?_
        refine lv_iload_n hx hb dP_find_69 rfl (lv_at hl 6 rfl) ?_
        refine lv_icmp_ne (tgt := 76) hx hb dP_find_70 (by decide) (fun hc => ?_) (fun hc => ?_)
        · rw [nI_eq (by omega) (by omega)] at hc
          rw [if_neg (by omega), Nat.sub_sub] at i3
          refine lv_iinc (k := 1) hx hb dP_find_76 hl rfl rfl (by decide) rfl (fun ls hl => ?_)
          have hl : lv_has ls 7 [(5, .int _), (6, .int _), (4, .ref _), (0, .ref _), (1, .int _), (2, .int _), (3, .int _)] := hl
          refine lv_iinc (k := 1) hx hb dP_find_79 hl rfl rfl (by decide) rfl (fun ls hl => ?_)
          have hl : lv_has ls 7 [(6, .int _), (5, .int _), (4, .ref _), (0, .ref _), (1, .int _), (2, .int _), (3, .int _)] := hl
          refine lv_goto (tgt := 38) hx hb dP_find_82 (by decide) ?_
          have hl : lv_has ls 7 [(6, .int (nI (u + 1))), (5, .int (nI (v + 1))), (4, .ref (ad (2 + 2 * pi k))), (0, .ref (ad 0)), (1, .int (nI k)), (2, .int (nI x)), (3, .int (nI j))] := by rw [← nI_1, ← nI_1]; exact hl
          exact ih t (u + 1, v + 1) _ _ _ (by omega) ⟨by show u + 1 + t = a_n a k; omega, by show v + 1 ≤ j; omega, by show v + 1 ≤ u + 1; omega, i3, hl, hP, hS⟩
        · rw [nI_eq (by omega) (by omega)] at hc
          rw [if_pos (by omega)] at i3
          refine lv_iload hx hb dP_find_73 (lv_at hl 0 rfl) ?_
          refine W.widen (k := 1) (n := 6) (by decide) (by decide) ?_
          exact W.toX (W.iret hx hb hr (fun t ht hW => Or.inl ⟨hk1, ⟨by simp [← i3, dk_nI hk, ix_nI (show k < 2 ^ 31 by omega), nn_nI hj, ix_nI hj, pc_nI hx1 hn_k, ix_nI (show x < 2 ^ 31 by omega), hp0], ⟨_, ⟨_, _, _, rfl, hC⟩, by rw [ht]; exact hP⟩, hS.F ht⟩⟩) hS.2.2 dP_find_75)
      · rw [if_neg hs] at i3
        rw [if_neg hs]
        refine lv_if_eq (tgt := 79) hx hb dP_find_64 (by decide) (fun _ => ?_) (fun hc => absurd rfl hc)
        refine lv_iinc (k := 0) hx hb dP_find_79 hl rfl rfl (by decide) rfl (fun ls hl => ?_)
        have hl : lv_has ls 7 [(6, .int _), (5, .int _), (4, .ref _), (0, .ref _), (1, .int _), (2, .int _), (3, .int _)] := hl
        refine lv_goto (tgt := 38) hx hb dP_find_82 (by decide) ?_
        have hl : lv_has ls 7 [(6, .int (nI (u + 1))), (5, .int (nI v)), (4, .ref (ad (2 + 2 * pi k))), (0, .ref (ad 0)), (1, .int (nI k)), (2, .int (nI x)), (3, .int (nI j))] := by rw [← nI_1]; exact hl
        exact ih t (u + 1, v) _ _ _ (by omega) ⟨by show u + 1 + t = a_n a k; omega, i1, by show v ≤ u + 1; omega, i3, hl, hP, hS⟩
end M9
