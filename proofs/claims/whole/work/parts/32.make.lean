/-! The making of the object and of the reference. -/
theorem all17 {P : Nat → Prop} (h0 : P 0) (h1 : P 1) (h2 : P 2) (h3 : P 3) (h4 : P 4) (h5 : P 5) (h6 : P 6) (h7 : P 7) (h8 : P 8) (h9 : P 9) (h10 : P 10) (h11 : P 11) (h12 : P 12) (h13 : P 13) (h14 : P 14) (h15 : P 15) (h16 : P 16) : ∀ j, j < 17 → P j
  | 0, _ => h0
  | 1, _ => h1
  | 2, _ => h2
  | 3, _ => h3
  | 4, _ => h4
  | 5, _ => h5
  | 6, _ => h6
  | 7, _ => h7
  | 8, _ => h8
  | 9, _ => h9
  | 10, _ => h10
  | 11, _ => h11
  | 12, _ => h12
  | 13, _ => h13
  | 14, _ => h14
  | 15, _ => h15
  | 16, _ => h16
  | n + 17, h => absurd h (by omega)
section Q2
variable {l : Launch} {D : va_G} {cI cZ cT cJ : ClassId} {base : Nat} {ad : Nat → Nat}
set_option maxHeartbeats 4000000 in
set_option maxRecDepth 100000 in
theorem c_P_init {e0 : Nat → va_E} (G : gGeo ad 1 base) (he : e0 0 = .inr (0, [.null, .null, .null, .null])) : Met l yP_init (Cond.code yP_init bP_init 2 none :: tws) { frames := 2, cells := 16, slots := 7090, locals := 40 } (gPc (tw D cI cZ cT cJ base) D cl ad 1 base e0 [.ref (ad 0)]) (gQn base (fun H => ∃ q1 q2 q3 q4 q5 q6 q7 q8 q9 q10 q11 q12 q13 q14 q15 q16 : Nat, gGeo (va_up (va_up (va_up (va_up (va_up (va_up (va_up (va_up (va_up (va_up (va_up (va_up (va_up (va_up (va_up (va_up ad 1 q1) 2 q2) 3 q3) 4 q4) 5 q5) 6 q6) 7 q7) 8 q8) 9 q9) 10 q10) 11 q11) 12 q12) 13 q13) 14 q14) 15 q15) 16 q16) 17 base ∧ va_P D cl (gw (va_up (va_up (va_up (va_up (va_up (va_up (va_up (va_up (va_up (va_up (va_up (va_up (va_up (va_up (va_up (va_up ad 1 q1) 2 q2) 3 q3) 4 q4) 5 q5) 6 q6) 7 q7) 8 q8) 9 q9) 10 q10) 11 q11) 12 q12) 13 q13) 14 q14) 15 q15) 16 q16) (en (va_up (va_up (va_up (va_up (va_up (va_up (va_up (va_up (va_up (va_up (va_up (va_up (va_up (va_up (va_up (va_up ad 1 q1) 2 q2) 3 q3) 4 q4) 5 q5) 6 q6) 7 q7) 8 q8) 9 q9) 10 q10) 11 q11) 12 q12) 13 q13) 14 q14) 15 q15) 16 q16) cI cZ cT cJ (fun d => d) 4 (fun _ _ => 0) (fun _ _ => 0) (fun _ => 0)) 17) H)) 16 7090 (gA base) := by
  refine Met.ofW (cc := bP_init) (maxL := 2) (ret := none) (by decide) rfl ?_
  intro p e s m args below meth c s₁ B hml hv
  obtain ⟨rfl, htw, hB, hP⟩ := hv
  have hin2 : meth.name = "<init>" := (name_of_methodNamed B.named B.method).1
  have hx := B.exec
  have hb := B.bytes
  have hr := B.returns
  have hts0 := atoms_spec (ws := Cond.code yP_init bP_init 2 none :: tws) B.pre
  have hts : ∀ w ∈ tws, w.before _ s = true := fun w h => hts0 w (List.mem_cons_of_mem _ h)
  have hown : s.vm.findClass "PairedTexts" = some m.cls := findClass_of_methodNamed B.named
  have F : CallFix p m c bP_init 2 s _ tws "PairedTexts" := ⟨hx, hb, hml, hown, hts⟩
  have hK := htw.1
  have hS : va_S (gA base) s.heap s.heap [] := va_S.rf
  have hl := lv_entry ([.ref (ad 0)]) (n := 2) (Nat.le_of_ble_eq_true rfl)
  rw [lg_entry_eq]
  generalize (lg_sl ([.ref (ad 0)]) ++ List.replicate (2 - (lg_sl ([.ref (ad 0)])).length) Slot.unset).toArray = ls at hl ⊢
  have hl : lv_has ls 2 [(0, .ref (ad 0))] := hl
  refine lv_aload_n hx hb dP_init_0 rfl (lv_at hl 0 rfl) ?_
  refine W.objInit hx hb hown (hts _ k1_20) (hts _ k1_21) (hts _ k1_22) rfl (by rw [hml]; exact hl.1) rfl dP_init_1 (Nat.le_of_ble_eq_true rfl) (Nat.le_of_ble_eq_true rfl) ?_
  show W _ _ _ _ _ _ _ _ _ _ _ _ _ _ _ (F0 m 4 ls [])
  refine lv_aload_n hx hb dP_init_4 rfl (lv_at hl 0 rfl) ?_
  refine lv_iconst (v := 4) hx hb dP_init_5 (by decide) ?_
  refine g_newq (N' := 4) (cA := cT) F hK G hP hS hB k1_23 htw.2.2.2.2.2.1 2 rfl (by decide) (by decide) (by decide) (Nat.le_of_ble_eq_true rfl) (Nat.le_of_ble_eq_true rfl) dP_init_6 (fun q1 H G hP hS => ?_)
  refine g_putF F hin2 hK G hP hS (0) (by decide) he rfl iP tP tP_ok nP 0 (by decide) k1_70 rfl rfl (ty := .array (.object "PairedTexts$Text")) (by decide +kernel) rfl rfl (Nat.le_of_ble_eq_true rfl) dP_init_9 (fun H locs hP hS => ?_)
  refine lv_iconst (v := 0) hx hb dP_init_12 (by decide) ?_
  refine lv_istore_n hx hb dP_init_13 rfl hl (by decide) rfl (fun ls hl => ?_)
  have hl : lv_has ls 2 [(1, .int _), (0, .ref _)] := hl
  have hl : lv_has ls 2 [(1, .int (nI 0)), (0, .ref (ad 0))] := hl
  refine lv_iload_n hx hb dP_init_14 rfl (lv_at hl 0 rfl) ?_
  refine lv_iconst (v := 4) hx hb dP_init_15 (by decide) ?_
  refine lv_icmp_ge (tgt := 38) hx hb dP_init_16 (by decide) (fun hc => absurd hc (by decide)) (fun _ => ?_)
  refine lv_aload_n hx hb dP_init_19 rfl (lv_at hl 1 rfl) ?_
  refine g_get F hK hP (0) (by decide) rfl rfl iP 0 (by decide) k1_70 rfl dP_init_20 ?_
  refine lv_iload_n hx hb dP_init_23 rfl (lv_at hl 0 rfl) ?_
  refine g_new (ci := 1) (fs := [.null, .int 0]) F hK G hP hS hB rfl iT tT tT_ok k1_23 k1_25 k1_2 (fun j hj => by rcases (show j = 0 ∨ j = 1 by omega) with rfl | rfl <;> rfl) (Nat.le_of_ble_eq_true rfl) (Nat.le_of_ble_eq_true rfl) dP_init_24 (fun q2 H G hP hS => ?_)
  refine lv_dup hx hb dP_init_27 rfl ?_
  refine g_IN F htw hB hS hP (c_T_init_2 G rfl) (List.mem_of_getElem? (i := 0) rfl) k1_27 k1_2 k1_28 rfl (by decide +kernel) rfl rfl ⟨Nat.le_of_ble_eq_true rfl, Nat.le_of_ble_eq_true rfl⟩ hl.1 (Nat.le_of_ble_eq_true rfl) dP_init_28 ⟨Nat.le_of_ble_eq_true rfl, Nat.le_of_ble_eq_true rfl⟩ (fun H locs hQ hS => ?_)
  obtain ⟨q3, G, hP⟩ := hQ
  refine g_aast (r := ("PairedTexts$Text", FT, 2)) F hK G hP hS (1) (by decide) 2 2 (by decide) rfl rfl rfl rfl (vp_in_nI (n := 0) (N := 4) (by decide) (by decide)) dP_init_31 (fun H locs hP hS => ?_)
  rw [nI_clamp (show 0 < 2 ^ 31 by decide)] at hP
  refine lv_iinc (k := 0) hx hb dP_init_32 hl rfl rfl (by decide) rfl (fun ls hl => ?_)
  have hl : lv_has ls 2 [(1, .int _), (0, .ref _)] := hl
  refine lv_goto (tgt := 14) hx hb dP_init_35 (by decide) ?_
  have h1 : nI 0 + Int32.ofInt 1 = nI 1 := by decide
  rw [h1] at hl
  refine lv_iload_n hx hb dP_init_14 rfl (lv_at hl 0 rfl) ?_
  refine lv_iconst (v := 4) hx hb dP_init_15 (by decide) ?_
  refine lv_icmp_ge (tgt := 38) hx hb dP_init_16 (by decide) (fun hc => absurd hc (by decide)) (fun _ => ?_)
  refine lv_aload_n hx hb dP_init_19 rfl (lv_at hl 1 rfl) ?_
  refine g_get F hK hP (0) (by decide) rfl rfl iP 0 (by decide) k1_70 rfl dP_init_20 ?_
  refine lv_iload_n hx hb dP_init_23 rfl (lv_at hl 0 rfl) ?_
  refine g_new (ci := 1) (fs := [.null, .int 0]) F hK G hP hS hB rfl iT tT tT_ok k1_23 k1_25 k1_2 (fun j hj => by rcases (show j = 0 ∨ j = 1 by omega) with rfl | rfl <;> rfl) (Nat.le_of_ble_eq_true rfl) (Nat.le_of_ble_eq_true rfl) dP_init_24 (fun q4 H G hP hS => ?_)
  refine lv_dup hx hb dP_init_27 rfl ?_
  refine g_IN F htw hB hS hP (c_T_init_4 G rfl) (List.mem_of_getElem? (i := 0) rfl) k1_27 k1_2 k1_28 rfl (by decide +kernel) rfl rfl ⟨Nat.le_of_ble_eq_true rfl, Nat.le_of_ble_eq_true rfl⟩ hl.1 (Nat.le_of_ble_eq_true rfl) dP_init_28 ⟨Nat.le_of_ble_eq_true rfl, Nat.le_of_ble_eq_true rfl⟩ (fun H locs hQ hS => ?_)
  obtain ⟨q5, G, hP⟩ := hQ
  refine g_aast (r := ("PairedTexts$Text", FT, 2)) F hK G hP hS (1) (by decide) 2 4 (by decide) rfl rfl rfl rfl (vp_in_nI (n := 1) (N := 4) (by decide) (by decide)) dP_init_31 (fun H locs hP hS => ?_)
  rw [nI_clamp (show 1 < 2 ^ 31 by decide)] at hP
  refine lv_iinc (k := 0) hx hb dP_init_32 hl rfl rfl (by decide) rfl (fun ls hl => ?_)
  have hl : lv_has ls 2 [(1, .int _), (0, .ref _)] := hl
  refine lv_goto (tgt := 14) hx hb dP_init_35 (by decide) ?_
  have h1 : nI 1 + Int32.ofInt 1 = nI 2 := by decide
  rw [h1] at hl
  refine lv_iload_n hx hb dP_init_14 rfl (lv_at hl 0 rfl) ?_
  refine lv_iconst (v := 4) hx hb dP_init_15 (by decide) ?_
  refine lv_icmp_ge (tgt := 38) hx hb dP_init_16 (by decide) (fun hc => absurd hc (by decide)) (fun _ => ?_)
  refine lv_aload_n hx hb dP_init_19 rfl (lv_at hl 1 rfl) ?_
  refine g_get F hK hP (0) (by decide) rfl rfl iP 0 (by decide) k1_70 rfl dP_init_20 ?_
  refine lv_iload_n hx hb dP_init_23 rfl (lv_at hl 0 rfl) ?_
  refine g_new (ci := 1) (fs := [.null, .int 0]) F hK G hP hS hB rfl iT tT tT_ok k1_23 k1_25 k1_2 (fun j hj => by rcases (show j = 0 ∨ j = 1 by omega) with rfl | rfl <;> rfl) (Nat.le_of_ble_eq_true rfl) (Nat.le_of_ble_eq_true rfl) dP_init_24 (fun q6 H G hP hS => ?_)
  refine lv_dup hx hb dP_init_27 rfl ?_
  refine g_IN F htw hB hS hP (c_T_init_6 G rfl) (List.mem_of_getElem? (i := 0) rfl) k1_27 k1_2 k1_28 rfl (by decide +kernel) rfl rfl ⟨Nat.le_of_ble_eq_true rfl, Nat.le_of_ble_eq_true rfl⟩ hl.1 (Nat.le_of_ble_eq_true rfl) dP_init_28 ⟨Nat.le_of_ble_eq_true rfl, Nat.le_of_ble_eq_true rfl⟩ (fun H locs hQ hS => ?_)
  obtain ⟨q7, G, hP⟩ := hQ
  refine g_aast (r := ("PairedTexts$Text", FT, 2)) F hK G hP hS (1) (by decide) 2 6 (by decide) rfl rfl rfl rfl (vp_in_nI (n := 2) (N := 4) (by decide) (by decide)) dP_init_31 (fun H locs hP hS => ?_)
  rw [nI_clamp (show 2 < 2 ^ 31 by decide)] at hP
  refine lv_iinc (k := 0) hx hb dP_init_32 hl rfl rfl (by decide) rfl (fun ls hl => ?_)
  have hl : lv_has ls 2 [(1, .int _), (0, .ref _)] := hl
  refine lv_goto (tgt := 14) hx hb dP_init_35 (by decide) ?_
  have h1 : nI 2 + Int32.ofInt 1 = nI 3 := by decide
  rw [h1] at hl
  refine lv_iload_n hx hb dP_init_14 rfl (lv_at hl 0 rfl) ?_
  refine lv_iconst (v := 4) hx hb dP_init_15 (by decide) ?_
  refine lv_icmp_ge (tgt := 38) hx hb dP_init_16 (by decide) (fun hc => absurd hc (by decide)) (fun _ => ?_)
  refine lv_aload_n hx hb dP_init_19 rfl (lv_at hl 1 rfl) ?_
  refine g_get F hK hP (0) (by decide) rfl rfl iP 0 (by decide) k1_70 rfl dP_init_20 ?_
  refine lv_iload_n hx hb dP_init_23 rfl (lv_at hl 0 rfl) ?_
  refine g_new (ci := 1) (fs := [.null, .int 0]) F hK G hP hS hB rfl iT tT tT_ok k1_23 k1_25 k1_2 (fun j hj => by rcases (show j = 0 ∨ j = 1 by omega) with rfl | rfl <;> rfl) (Nat.le_of_ble_eq_true rfl) (Nat.le_of_ble_eq_true rfl) dP_init_24 (fun q8 H G hP hS => ?_)
  refine lv_dup hx hb dP_init_27 rfl ?_
  refine g_IN F htw hB hS hP (c_T_init_8 G rfl) (List.mem_of_getElem? (i := 0) rfl) k1_27 k1_2 k1_28 rfl (by decide +kernel) rfl rfl ⟨Nat.le_of_ble_eq_true rfl, Nat.le_of_ble_eq_true rfl⟩ hl.1 (Nat.le_of_ble_eq_true rfl) dP_init_28 ⟨Nat.le_of_ble_eq_true rfl, Nat.le_of_ble_eq_true rfl⟩ (fun H locs hQ hS => ?_)
  obtain ⟨q9, G, hP⟩ := hQ
  refine g_aast (r := ("PairedTexts$Text", FT, 2)) F hK G hP hS (1) (by decide) 2 8 (by decide) rfl rfl rfl rfl (vp_in_nI (n := 3) (N := 4) (by decide) (by decide)) dP_init_31 (fun H locs hP hS => ?_)
  rw [nI_clamp (show 3 < 2 ^ 31 by decide)] at hP
  refine lv_iinc (k := 0) hx hb dP_init_32 hl rfl rfl (by decide) rfl (fun ls hl => ?_)
  have hl : lv_has ls 2 [(1, .int _), (0, .ref _)] := hl
  refine lv_goto (tgt := 14) hx hb dP_init_35 (by decide) ?_
  have h1 : nI 3 + Int32.ofInt 1 = nI 4 := by decide
  rw [h1] at hl
  refine lv_iload_n hx hb dP_init_14 rfl (lv_at hl 0 rfl) ?_
  refine lv_iconst (v := 4) hx hb dP_init_15 (by decide) ?_
  refine lv_icmp_ge (tgt := 38) hx hb dP_init_16 (by decide) (fun _ => ?_) (fun hc => absurd (by decide) hc)
  refine lv_aload_n hx hb dP_init_38 rfl (lv_at hl 1 rfl) ?_
  refine g_new (ci := 1) (fs := [.null, .int 0]) F hK G hP hS hB rfl iT tT tT_ok k1_23 k1_25 k1_2 (fun j hj => by rcases (show j = 0 ∨ j = 1 by omega) with rfl | rfl <;> rfl) (Nat.le_of_ble_eq_true rfl) (Nat.le_of_ble_eq_true rfl) dP_init_39 (fun q10 H G hP hS => ?_)
  refine lv_dup hx hb dP_init_42 rfl ?_
  refine g_IN F htw hB hS hP (c_T_init_10 G rfl) (List.mem_of_getElem? (i := 0) rfl) k1_27 k1_2 k1_28 rfl (by decide +kernel) rfl rfl ⟨Nat.le_of_ble_eq_true rfl, Nat.le_of_ble_eq_true rfl⟩ hl.1 (Nat.le_of_ble_eq_true rfl) dP_init_43 ⟨Nat.le_of_ble_eq_true rfl, Nat.le_of_ble_eq_true rfl⟩ (fun H locs hQ hS => ?_)
  obtain ⟨q11, G, hP⟩ := hQ
  refine g_put F hK G hP hS (0) (by decide) rfl rfl iP tP tP_ok nP 3 (by decide) k1_73 rfl (ty := .object "PairedTexts$Text") (by decide +kernel) rfl rfl (Nat.le_of_ble_eq_true rfl) dP_init_46 (fun H locs hP hS => ?_)
  refine lv_aload_n hx hb dP_init_49 rfl (lv_at hl 1 rfl) ?_
  refine g_new (ci := 2) (fs := [.null, .int 0]) F hK G hP hS hB rfl iQ tQ tQ_ok k1_41 k1_42 k1_3 (fun j hj => by rcases (show j = 0 ∨ j = 1 by omega) with rfl | rfl <;> rfl) (Nat.le_of_ble_eq_true rfl) (Nat.le_of_ble_eq_true rfl) dP_init_50 (fun q12 H G hP hS => ?_)
  refine lv_dup hx hb dP_init_53 rfl ?_
  refine g_IN F htw hB hS hP (c_Q_init_12 G rfl) (List.mem_of_getElem? (i := 1) rfl) k1_44 k1_3 k1_45 rfl (by decide +kernel) rfl rfl ⟨Nat.le_of_ble_eq_true rfl, Nat.le_of_ble_eq_true rfl⟩ hl.1 (Nat.le_of_ble_eq_true rfl) dP_init_54 ⟨Nat.le_of_ble_eq_true rfl, Nat.le_of_ble_eq_true rfl⟩ (fun H locs hQ hS => ?_)
  obtain ⟨q13, G, hP⟩ := hQ
  refine g_putF F hin2 hK G hP hS (0) (by decide) rfl rfl iP tP tP_ok nP 1 (by decide) k1_71 rfl rfl (ty := .object "PairedTexts$Pattern") (by decide +kernel) rfl rfl (Nat.le_of_ble_eq_true rfl) dP_init_57 (fun H locs hP hS => ?_)
  refine lv_aload_n hx hb dP_init_60 rfl (lv_at hl 1 rfl) ?_
  refine g_new (ci := 3) (fs := [.null, .null]) F hK G hP hS hB rfl iA tA tA_ok k1_55 k1_56 k1_4 (fun j hj => by rcases (show j = 0 ∨ j = 1 by omega) with rfl | rfl <;> rfl) (Nat.le_of_ble_eq_true rfl) (Nat.le_of_ble_eq_true rfl) dP_init_61 (fun q14 H G hP hS => ?_)
  refine lv_dup hx hb dP_init_64 rfl ?_
  refine g_IN F htw hB hS hP (c_A_init G rfl) (List.mem_of_getElem? (i := 2) rfl) k1_58 k1_4 k1_59 rfl (by decide +kernel) rfl rfl ⟨Nat.le_of_ble_eq_true rfl, Nat.le_of_ble_eq_true rfl⟩ hl.1 (Nat.le_of_ble_eq_true rfl) dP_init_65 ⟨Nat.le_of_ble_eq_true rfl, Nat.le_of_ble_eq_true rfl⟩ (fun H locs hQ hS => ?_)
  obtain ⟨q15, q16, G, hP⟩ := hQ
  refine g_putF F hin2 hK G hP hS (0) (by decide) rfl rfl iP tP tP_ok nP 2 (by decide) k1_72 rfl rfl (ty := .object "PairedTexts$Automaton") (by decide +kernel) rfl rfl (Nat.le_of_ble_eq_true rfl) dP_init_68 (fun H locs hP hS => ?_)
  have hP := P_q (i := 1) (g := fun d => some ((va_up (va_up (va_up (va_up (va_up (va_up (va_up (va_up (va_up (va_up (va_up (va_up (va_up (va_up (va_up (va_up ad 1 q1) 2 q2) 3 q3) 4 q4) 5 q5) 6 q6) 7 q7) 8 q8) 9 q9) 10 q10) 11 q11) 12 q12) 13 q13) 14 q14) 15 q15) 16 q16) (2 + 2 * d))) hP rfl (by decide) (fun j hj => by rcases (show j = 0 ∨ j = 1 ∨ j = 2 ∨ j = 3 by omega) with rfl | rfl | rfl | rfl <;> rfl)
  have hP := P_of (e2 := en (va_up (va_up (va_up (va_up (va_up (va_up (va_up (va_up (va_up (va_up (va_up (va_up (va_up (va_up (va_up (va_up ad 1 q1) 2 q2) 3 q3) 4 q4) 5 q5) 6 q6) 7 q7) 8 q8) 9 q9) 10 q10) 11 q11) 12 q12) 13 q13) 14 q14) 15 q15) 16 q16) cI cZ cT cJ (fun d => d) 4 (fun _ _ => 0) (fun _ _ => 0) (fun _ => 0)) hP (all17 rfl rfl rfl rfl rfl rfl rfl rfl rfl rfl rfl rfl rfl rfl rfl rfl rfl)
  refine W.widen (k := 16) (n := 7090) (Nat.le_of_ble_eq_true rfl) (Nat.le_of_ble_eq_true rfl) ?_
  exact W.vret hx hb hr (fun t ht hW => ⟨rfl, by rw [ht]; exact ⟨q1, q2, q3, q4, q5, q6, q7, q8, q9, q10, q11, q12, q13, q14, q15, q16, G, hP⟩, hS.F ht⟩) hS.2.2 dP_init_71
set_option maxHeartbeats 4000000 in
set_option maxRecDepth 100000 in
theorem c_M_init {e0 : Nat → va_E} (G : gGeo ad 18 base) (he : e0 17 = .inr (4, [.int 0, .null, .null, .null, .int 0, .int 0, .null, .null, .null, .int 0, .int 0])) : Met l yM_init (Cond.code yM_init bM_init 1 none :: tws) { frames := 1, cells := 6, slots := 7076, locals := 20 } (gPc (tw D cI cZ cT cJ base) D cl ad 18 base e0 [.ref (ad 17)]) (gQn base (fun H => ∃ q18 q19 q20 q21 q22 q23 : Nat, gGeo (va_up (va_up (va_up (va_up (va_up (va_up ad 18 q18) 19 q19) 20 q20) 21 q21) 22 q22) 23 q23) 24 base ∧ va_P D cl (gw (va_up (va_up (va_up (va_up (va_up (va_up ad 18 q18) 19 q19) 20 q20) 21 q21) 22 q22) 23 q23) (va_up (va_up (va_up (va_up (va_up (va_up (va_up (va_up (va_up (va_up (va_up (va_up (e0) 18 (.inl (cI, 4000, .inl (fun _ => 0)))) 17 (.inr (4, [.int 0, .ref q18, .null, .null, .int 0, .int 0, .null, .null, .null, .int 0, .int 0]))) 19 (.inl (cI, 4, .inl (fun _ => 0)))) 17 (.inr (4, [.int 0, .ref q18, .ref q19, .null, .int 0, .int 0, .null, .null, .null, .int 0, .int 0]))) 20 (.inl (cI, 1000, .inl (fun _ => 0)))) 17 (.inr (4, [.int 0, .ref q18, .ref q19, .ref q20, .int 0, .int 0, .null, .null, .null, .int 0, .int 0]))) 21 (.inl (cI, 16, .inl (fun _ => 0)))) 17 (.inr (4, [.int 0, .ref q18, .ref q19, .ref q20, .int 0, .int 0, .ref q21, .null, .null, .int 0, .int 0]))) 22 (.inl (cI, 2048, .inl (fun _ => 0)))) 17 (.inr (4, [.int 0, .ref q18, .ref q19, .ref q20, .int 0, .int 0, .ref q21, .ref q22, .null, .int 0, .int 0]))) 23 (.inl (cZ, 8, .inl (fun _ => 0)))) 17 (.inr (4, [.int 0, .ref q18, .ref q19, .ref q20, .int 0, .int 0, .ref q21, .ref q22, .ref q23, .int 0, .int 0]))) 24) H)) 6 7076 (gA base) := by
  refine Met.ofW (cc := bM_init) (maxL := 1) (ret := none) (by decide) rfl ?_
  intro p e s m args below meth c s₁ B hml hv
  obtain ⟨rfl, htw, hB, hP⟩ := hv
  have hin2 : meth.name = "<init>" := (name_of_methodNamed B.named B.method).1
  have hx := B.exec
  have hb := B.bytes
  have hr := B.returns
  have hts0 := atoms_spec (ws := Cond.code yM_init bM_init 1 none :: tws) B.pre
  have hts : ∀ w ∈ tws, w.before _ s = true := fun w h => hts0 w (List.mem_cons_of_mem _ h)
  have hown : s.vm.findClass "PairedTextsModel" = some m.cls := findClass_of_methodNamed B.named
  have F : CallFix p m c bM_init 1 s _ tws "PairedTextsModel" := ⟨hx, hb, hml, hown, hts⟩
  have hK := htw.1
  have hS : va_S (gA base) s.heap s.heap [] := va_S.rf
  have hl := lv_entry ([.ref (ad 17)]) (n := 1) (Nat.le_of_ble_eq_true rfl)
  rw [lg_entry_eq]
  generalize (lg_sl ([.ref (ad 17)]) ++ List.replicate (1 - (lg_sl ([.ref (ad 17)])).length) Slot.unset).toArray = ls at hl ⊢
  have hl : lv_has ls 1 [(0, .ref (ad 17))] := hl
  refine lv_aload_n hx hb dM_init_0 rfl (lv_at hl 0 rfl) ?_
  refine W.objInit hx hb hown (hts _ k2_195) (hts _ k1_21) (hts _ k1_22) rfl (by rw [hml]; exact hl.1) rfl dM_init_1 (Nat.le_of_ble_eq_true rfl) (Nat.le_of_ble_eq_true rfl) ?_
  show W _ _ _ _ _ _ _ _ _ _ _ _ _ _ _ (F0 m 4 ls [])
  refine lv_aload_n hx hb dM_init_4 rfl (lv_at hl 0 rfl) ?_
  refine lv_sipush (v := 4000) hx hb dM_init_5 (by decide) ?_
  refine g_newa (atype := .int) (N' := 4000) (a0 := (4000, .inl (fun _ => 0))) (cA := cI) F hK G hP hS hB k1_40 (ty := .int) rfl (fun B h => by cases h) 0 rfl (fun cA => rfl) (by decide) (by decide) (by decide) (Nat.le_of_ble_eq_true rfl) (Nat.le_of_ble_eq_true rfl) dM_init_8 (fun q18 H G hP hS => ?_)
  refine g_putF F hin2 hK G hP hS (17) (by decide) he rfl iM tM tM_ok nM 1 (by decide) k2_197 rfl rfl (ty := .array .int) (by decide +kernel) rfl rfl (Nat.le_of_ble_eq_true rfl) dM_init_10 (fun H locs hP hS => ?_)
  refine lv_aload_n hx hb dM_init_13 rfl (lv_at hl 0 rfl) ?_
  refine lv_iconst (v := 4) hx hb dM_init_14 (by decide) ?_
  refine g_newa (atype := .int) (N' := 4) (a0 := (4, .inl (fun _ => 0))) (cA := cI) F hK G hP hS hB k1_40 (ty := .int) rfl (fun B h => by cases h) 0 rfl (fun cA => rfl) (by decide) (by decide) (by decide) (Nat.le_of_ble_eq_true rfl) (Nat.le_of_ble_eq_true rfl) dM_init_15 (fun q19 H G hP hS => ?_)
  refine g_putF F hin2 hK G hP hS (17) (by decide) rfl rfl iM tM tM_ok nM 2 (by decide) k2_198 rfl rfl (ty := .array .int) (by decide +kernel) rfl rfl (Nat.le_of_ble_eq_true rfl) dM_init_17 (fun H locs hP hS => ?_)
  refine lv_aload_n hx hb dM_init_20 rfl (lv_at hl 0 rfl) ?_
  refine lv_sipush (v := 1000) hx hb dM_init_21 (by decide) ?_
  refine g_newa (atype := .int) (N' := 1000) (a0 := (1000, .inl (fun _ => 0))) (cA := cI) F hK G hP hS hB k1_40 (ty := .int) rfl (fun B h => by cases h) 0 rfl (fun cA => rfl) (by decide) (by decide) (by decide) (Nat.le_of_ble_eq_true rfl) (Nat.le_of_ble_eq_true rfl) dM_init_24 (fun q20 H G hP hS => ?_)
  refine g_putF F hin2 hK G hP hS (17) (by decide) rfl rfl iM tM tM_ok nM 3 (by decide) k2_199 rfl rfl (ty := .array .int) (by decide +kernel) rfl rfl (Nat.le_of_ble_eq_true rfl) dM_init_26 (fun H locs hP hS => ?_)
  refine lv_aload_n hx hb dM_init_29 rfl (lv_at hl 0 rfl) ?_
  refine lv_bipush (v := 16) hx hb dM_init_30 (by decide) ?_
  refine g_newa (atype := .int) (N' := 16) (a0 := (16, .inl (fun _ => 0))) (cA := cI) F hK G hP hS hB k1_40 (ty := .int) rfl (fun B h => by cases h) 0 rfl (fun cA => rfl) (by decide) (by decide) (by decide) (Nat.le_of_ble_eq_true rfl) (Nat.le_of_ble_eq_true rfl) dM_init_32 (fun q21 H G hP hS => ?_)
  refine g_putF F hin2 hK G hP hS (17) (by decide) rfl rfl iM tM tM_ok nM 6 (by decide) k2_202 rfl rfl (ty := .array .int) (by decide +kernel) rfl rfl (Nat.le_of_ble_eq_true rfl) dM_init_34 (fun H locs hP hS => ?_)
  refine lv_aload_n hx hb dM_init_37 rfl (lv_at hl 0 rfl) ?_
  refine lv_sipush (v := 2048) hx hb dM_init_38 (by decide) ?_
  refine g_newa (atype := .int) (N' := 2048) (a0 := (2048, .inl (fun _ => 0))) (cA := cI) F hK G hP hS hB k1_40 (ty := .int) rfl (fun B h => by cases h) 0 rfl (fun cA => rfl) (by decide) (by decide) (by decide) (Nat.le_of_ble_eq_true rfl) (Nat.le_of_ble_eq_true rfl) dM_init_41 (fun q22 H G hP hS => ?_)
  refine g_putF F hin2 hK G hP hS (17) (by decide) rfl rfl iM tM tM_ok nM 7 (by decide) k2_203 rfl rfl (ty := .array .int) (by decide +kernel) rfl rfl (Nat.le_of_ble_eq_true rfl) dM_init_43 (fun H locs hP hS => ?_)
  refine lv_aload_n hx hb dM_init_46 rfl (lv_at hl 0 rfl) ?_
  refine lv_bipush (v := 8) hx hb dM_init_47 (by decide) ?_
  refine g_newa (atype := .boolean) (N' := 8) (a0 := (8, .inl (fun _ => 0))) (cA := cZ) F hK G hP hS hB k1_69 (ty := .boolean) rfl (fun B h => by cases h) 1 rfl (fun cA => rfl) (by decide) (by decide) (by decide) (Nat.le_of_ble_eq_true rfl) (Nat.le_of_ble_eq_true rfl) dM_init_49 (fun q23 H G hP hS => ?_)
  refine g_putF F hin2 hK G hP hS (17) (by decide) rfl rfl iM tM tM_ok nM 8 (by decide) k2_204 rfl rfl (ty := .array .boolean) (by decide +kernel) rfl rfl (Nat.le_of_ble_eq_true rfl) dM_init_51 (fun H locs hP hS => ?_)
  refine W.widen (k := 6) (n := 7076) (Nat.le_of_ble_eq_true rfl) (Nat.le_of_ble_eq_true rfl) ?_
  exact W.vret hx hb hr (fun t ht hW => ⟨rfl, by rw [ht]; exact ⟨q18, q19, q20, q21, q22, q23, G, hP⟩, hS.F ht⟩) hS.2.2 dM_init_54
end Q2
