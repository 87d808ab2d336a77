/-! The class's calls: write, move, repeat. -/
theorem RepD.to {dr : Nat} {S : Nat → Nat → Int32} {k k' : Nat} {g g' : Nat → Nat} (h : RepD dr S k g) (hk : k = k') (hg : ∀ i, i < k → g i = g' i) : RepD dr S k' g' := by
  subst hk
  exact ⟨h.1, fun i hi => by rw [h.2 i hi, hg i hi]⟩
theorem RepC.self {pi : Nat → Nat} {dr : Nat} {S : Nat → Nat → Int32} {a : Ab} {k : Nat} {g : Nat → Nat} (h : RepC pi dr S a) (hg : ∀ i, i < a_n a k → g i = a_b a k i) : RepC pi dr S (a_set a k (a_n a k) g) := by
  obtain ⟨c1, c2, c3, c4, c5, c6⟩ := h
  refine ⟨c1, c2, c3, fun d hd => ?_, fun d i hd hi => ?_, c6⟩
  · rw [a_set_n]; split
    · next h => subst h; exact c4 d hd
    · exact c4 d hd
  · rw [a_set_n] at hi
    rw [a_set_b]
    by_cases x1 : d = k
    · subst x1; rw [if_pos rfl] at hi ⊢; rw [hg i hi]; exact c5 d i hd hi
    · rw [if_neg x1] at hi ⊢; exact c5 d i hd hi
theorem RepC.addb {pi : Nat → Nat} {dr : Nat} {S : Nat → Nat → Int32} {a : Ab} {k m b0 : Nat} {g : Nat → Nat} (h : RepC pi dr S (a_set a k m g)) (hk : k < 4) (hb : g m = b0) :
    RepC pi dr (sr (sr S (pi k) (upd (S (pi k)) m (nI b0))) 5 (upd (S 5) (pi k) (nI (m + 1)))) (a_set a k (m + 1) g) := by
  obtain ⟨c1, c2, c3, c4, c5, c6, c7, c8, c9⟩ := h
  have hp := (c1 k hk).1
  have row : ∀ r, r ≠ 5 → r ≠ pi k → sr (sr S (pi k) (upd (S (pi k)) m (nI b0))) 5 (upd (S 5) (pi k) (nI (m + 1))) r = S r := fun r h1 h2 => by rw [sr_n h1, sr_n h2]
  refine ⟨c1, c2, c3, fun d hd => ?_, fun d i hd hi => ?_, ?_, fun q hq => ?_, fun q hq => ?_, fun q hq => ?_⟩
  · rw [sr_s, a_set_n]
    by_cases x1 : d = k
    · rw [if_pos x1, x1]; exact pk_us
    · rw [if_neg x1, pk_un (fun z => x1 (c3 d k hd hk z))]
      have := c4 d hd
      rw [a_set_n, if_neg x1] at this
      exact this
  · rw [a_set_n] at hi
    have hp2 := (c1 d hd).1
    by_cases x1 : d = k
    · subst x1
      rw [if_pos rfl] at hi
      rw [sr_n (by omega), sr_s, a_set_b, if_pos rfl]
      by_cases x2 : i = m
      · rw [x2, hb]; exact pk_us
      · rw [pk_un x2]
        have := c5 d i hd (by rw [a_set_n, if_pos rfl]; omega)
        rw [a_set_b, if_pos rfl] at this
        exact this
    · rw [if_neg x1] at hi
      rw [row _ (by omega) (fun z => x1 (c3 d k hd hk z)), a_set_b, if_neg x1]
      have := c5 d i hd (by rw [a_set_n, if_neg x1]; exact hi)
      rw [a_set_b, if_neg x1] at this
      exact this
  · rw [row 7 (by decide) (by omega)]; exact c6
  · rw [row 6 (by decide) (by omega)]; exact c7 q hq
  · rw [row 8 (by decide) (by omega)]; exact c8 q hq
  · rw [row 9 (by decide) (by omega)]; exact c9 q hq
section M7
variable {l : Launch} {D : va_G} {cI cZ cT cJ : ClassId} {base : Nat} {ad : Nat → Nat} {pi : Nat → Nat} {dr : Nat} {S M : Nat → Nat → Int32} {o : Nat → Int64} {a : Ab}
theorem c_addB (G : gGeo ad 25 base) {k m b0 : Nat} {g : Nat → Nat} (hC : RepC pi dr S (a_set a k m g)) (hk : k < 4) (hm : m < 1000) (hb : g m = b0) : Met l yT_add (Cond.code yT_add bT_add 2 none :: tws) { frames := 0, cells := 0, slots := 0, locals := 0 } (gPc (tw D cI cZ cT cJ base) D cl ad 25 base (en ad cI cZ cT cJ pi dr S M o) [.ref (ad (2 + 2 * pi k)), .int (nI b0)]) (gQc D cl ad 25 base none (fun e => ∃ S1 : Nat → Nat → Int32, e = en ad cI cZ cT cJ pi dr S1 M o ∧ RepC pi dr S1 (a_set a k (m + 1) g))) 0 0 (gA base) :=
  gQ_imp (c_T_add G (hC.1 k hk).1 hm (by have := hC.2.2.2.1 k hk; rw [a_set_n, if_pos rfl] at this; exact this) (nI b0)) rfl (fun e he => ⟨_, he, hC.addb hk hb⟩)
set_option maxHeartbeats 4000000 in
set_option maxRecDepth 100000 in
theorem c_P_write (hst : l.stackTraces = false) (G : gGeo ad 25 base) (ha : a_ok a) (hC : RepC pi dr S a) (d : Int32) (v : Int64) (n : Int32) : MetX l yP_write (Cond.code yP_write bP_write 7 (some .int) :: tws) { frames := 8, cells := 1, slots := 6, locals := 123 } (gPc (tw D cI cZ cT cJ base) D cl ad 25 base (en ad cI cZ cT cJ pi dr S M o) [.ref (ad 0), .int d, .long v, .int n]) (gQx D cl ad 25 base (en ad cI cZ cT cJ pi dr S M o) ["java/lang/IllegalArgumentException", "java/lang/UnsupportedOperationException"] (c_write a d n) (some (.int (nI (a_n a (ix d) + ix n)))) (fun e => ∃ (pi1 : Nat → Nat) (dr1 : Nat) (S1 : Nat → Nat → Int32), e = en ad cI cZ cT cJ pi1 dr1 S1 M o ∧ RepC pi1 dr1 S1 (x_write a d v n))) 1 6 (gA base) := by
  refine MetX.ofW (cc := bP_write) (maxL := 7) (ret := (some .int)) (by decide) rfl ?_
  intro p e s m args below meth c s₁ B hml hv
  obtain ⟨rfl, htw, hB, hP⟩ := hv
  have hx := B.exec
  have hb := B.bytes
  have hr := B.returns
  have hts0 := atoms_spec (ws := Cond.code yP_write bP_write 7 (some .int) :: tws) B.pre
  have hts : ∀ w ∈ tws, w.before _ s = true := fun w h => hts0 w (List.mem_cons_of_mem _ h)
  have hown : s.vm.findClass "PairedTexts" = some m.cls := findClass_of_methodNamed B.named
  have hlocks := B.notSynchronized
  have hno := B.noHandlers (hts0 _ List.mem_cons_self)
  have F : CallFix p m c bP_write 7 s _ tws "PairedTexts" := ⟨hx, hb, hml, hown, hts⟩
  have hK := htw.1
  have hS : va_S (gA base) s.heap s.heap [] := va_S.rf
  have hl := lv_entry ([.ref (ad 0), .int d, .long v, .int n]) (n := 7) (Nat.le_of_ble_eq_true rfl)
  rw [lg_entry_eq]
  generalize (lg_sl ([.ref (ad 0), .int d, .long v, .int n]) ++ List.replicate (7 - (lg_sl ([.ref (ad 0), .int d, .long v, .int n])).length) Slot.unset).toArray = ls at hl ⊢
  have hl : lv_has ls 7 [(0, .ref (ad 0)), (1, .int d), (2, .long v), (4, .int n)] := hl
  have hdr := hC.2.1
  have z1 : (1 : Int32).toInt = 1 := rfl
  have z8 : (8 : Int32).toInt = 8 := rfl
  refine lv_aload_n hx hb dP_write_0 rfl (lv_at hl 0 rfl) ?_
  refine lv_iload_n hx hb dP_write_1 rfl (lv_at hl 1 rfl) ?_
  rcases dk_or d with hd | ⟨k, hk, rfl⟩
  · have hk1 : (c_write a d n) = 1 := by simp [c_write, hd.1]
    exact g_VTh (k := 1) F hlocks hno htw hB hS hP (0) (by decide) rfl rfl (c_P_textOf_th hst hd.2) k1_92 k1_94 k0_0 k1_1 k1_95 (by decide +kernel) rfl rfl ⟨Nat.le_of_ble_eq_true rfl, Nat.le_of_ble_eq_true rfl⟩ rfl hl.1 rfl (Nat.le_of_ble_eq_true rfl) dP_write_2 ⟨Nat.le_of_ble_eq_true rfl, Nat.le_of_ble_eq_true rfl⟩ (by rw [hk1]; decide) (by rw [hk1]; rfl)
  refine g_V (k := 1) F htw hB hS hP (0) (by decide) rfl rfl (c_P_textOf hk) k1_92 k1_94 k0_0 k1_1 k1_95 (by decide +kernel) rfl rfl ⟨Nat.le_of_ble_eq_true rfl, Nat.le_of_ble_eq_true rfl⟩ rfl hl.1 rfl (Nat.le_of_ble_eq_true rfl) dP_write_2 ⟨Nat.le_of_ble_eq_true rfl, Nat.le_of_ble_eq_true rfl⟩ (fun en1 H locs he hP hS => ?_)
  obtain rfl := he
  have hp_k := (hC.1 k hk).1
  have hn_k := ha.1 k hk
  have h5_k := hC.2.2.2.1 k hk
  refine lv_astore hx hb dP_write_5 hl (by decide) rfl (fun ls hl => ?_)
  have hl : lv_has ls 7 [(5, .ref _), (0, .ref _), (1, .int _), (2, .long _), (4, .int _)] := hl
  refine lv_iload hx hb dP_write_7 (lv_at hl 4 rfl) ?_
  refine lv_iconst (v := 1) hx hb dP_write_9 (by decide) ?_
  rcases bt_or n 8 with hg | ⟨j, hj1, hj8, rfl⟩
  · have hk1 : (c_write a (nI k) n) = 1 := by simp [c_write, dk_nI hk, ix_nI (show k < 2 ^ 31 by omega), show btw n 1 8 = false from hg.1]
    refine lv_icmp_lt (tgt := 24) hx hb dP_write_10 (by decide) (fun hc => ?_) (fun hc => ?_)
    · refine lv_iconst (v := 0) hx hb dP_write_24 (by decide) ?_
      exact g_STh (k := 1) F hlocks hno htw hB hS hP (c_P_requireArgument_th hst) k1_168 k1_169 k1_1 k1_170 (by decide +kernel) rfl rfl ⟨Nat.le_of_ble_eq_true rfl, Nat.le_of_ble_eq_true rfl⟩ rfl hl.1 rfl (Nat.le_of_ble_eq_true rfl) dP_write_25 ⟨Nat.le_of_ble_eq_true rfl, Nat.le_of_ble_eq_true rfl⟩ (by rw [hk1]; decide) (by rw [hk1]; rfl)
    · rw [Int32.lt_iff_toInt_lt] at hc
      refine lv_iload hx hb dP_write_13 (lv_at hl 4 rfl) ?_
      refine lv_bipush (v := 8) hx hb dP_write_15 (by decide) ?_
      refine lv_icmp_gt (tgt := 24) hx hb dP_write_17 (by decide) (fun _ => ?_) (fun hc => absurd (by rw [Int32.lt_iff_toInt_lt]; omega) hc)
      refine lv_iconst (v := 0) hx hb dP_write_24 (by decide) ?_
      exact g_STh (k := 1) F hlocks hno htw hB hS hP (c_P_requireArgument_th hst) k1_168 k1_169 k1_1 k1_170 (by decide +kernel) rfl rfl ⟨Nat.le_of_ble_eq_true rfl, Nat.le_of_ble_eq_true rfl⟩ rfl hl.1 rfl (Nat.le_of_ble_eq_true rfl) dP_write_25 ⟨Nat.le_of_ble_eq_true rfl, Nat.le_of_ble_eq_true rfl⟩ (by rw [hk1]; decide) (by rw [hk1]; rfl)
  have zj := nI_toInt (show j < 2 ^ 31 by omega)
  refine lv_icmp_lt (tgt := 24) hx hb dP_write_10 (by decide) (fun hc => absurd hc (by rw [Int32.lt_iff_toInt_lt]; omega)) (fun _ => ?_)
  refine lv_iload hx hb dP_write_13 (lv_at hl 4 rfl) ?_
  refine lv_bipush (v := 8) hx hb dP_write_15 (by decide) ?_
  refine lv_icmp_gt (tgt := 24) hx hb dP_write_17 (by decide) (fun hc => absurd hc (by rw [Int32.lt_iff_toInt_lt]; omega)) (fun _ => ?_)
  refine lv_iconst (v := 1) hx hb dP_write_20 (by decide) ?_
  refine lv_goto (tgt := 25) hx hb dP_write_21 (by decide) ?_
  refine g_S (k := 1) F htw hB hS hP (c_P_requireArgument) k1_168 k1_169 k1_1 k1_170 (by decide +kernel) rfl rfl ⟨Nat.le_of_ble_eq_true rfl, Nat.le_of_ble_eq_true rfl⟩ rfl hl.1 rfl (Nat.le_of_ble_eq_true rfl) dP_write_25 ⟨Nat.le_of_ble_eq_true rfl, Nat.le_of_ble_eq_true rfl⟩ (fun en1 H locs he hP hS => ?_)
  obtain rfl := he
  refine lv_aload hx hb dP_write_28 (lv_at hl 0 rfl) ?_
  refine g_get F hK hP (2 + 2 * pi k) (by omega) (en_T _ _ _ _ _ _ _ _ _ _ hp_k) rfl iT 1 (by decide) k1_34 rfl dP_write_30 ?_
  refine lv_iload hx hb dP_write_33 (lv_at hl 4 rfl) ?_
  refine lv_iadd hx hb dP_write_35 ?_
  refine lv_i2l hx hb dP_write_36 rfl ?_
  rw [h5_k, nI_add, nI_l (show a_n a k + j < 2 ^ 31 by omega)]
  have zr := lN_toInt (show a_n a k + j < 2 ^ 31 by omega)
  by_cases hg : a_n a k + j ≤ 1000
  · refine g_S (k := 1) F htw hB hS hP (c_P_requireRoom (by omega)) k1_172 k1_173 k1_1 k1_174 (by decide +kernel) rfl rfl ⟨Nat.le_of_ble_eq_true rfl, Nat.le_of_ble_eq_true rfl⟩ rfl hl.1 rfl (Nat.le_of_ble_eq_true rfl) dP_write_37 ⟨Nat.le_of_ble_eq_true rfl, Nat.le_of_ble_eq_true rfl⟩ (fun en1 H locs he hP hS => ?_)
    obtain rfl := he
    refine lv_iconst (v := 0) hx hb dP_write_40 (by decide) ?_
    refine lv_istore hx hb dP_write_41 hl (by decide) rfl (fun ls hl => ?_)
    have hl : lv_has ls 7 [(6, .int _), (5, .ref _), (0, .ref _), (1, .int _), (2, .long _), (4, .int _)] := hl
    have hC := hC.self (k := k) (g := (cat (a_b a k) (a_n a k) (byt v))) (fun i hi => by simp [cat, hi])
    refine W.loop (α := Nat × (Nat → Nat → Int32)) (fun t a1 ls H locs => a1.1 + t = j ∧ RepC pi dr a1.2 (a_set a k (a_n a k + a1.1) (cat (a_b a k) (a_n a k) (byt v))) ∧ lv_has ls 7 [(6, .int (nI a1.1)), (5, .ref (ad (2 + 2 * pi k))), (0, .ref (ad 0)), (1, .int (nI k)), (2, .long v), (4, .int (nI j))] ∧ va_P D cl (gw ad (en ad cI cZ cT cJ pi dr a1.2 M o) 25) H ∧ va_S (gA base) s.heap H locs) ?_ (t := j) (a := (0, S)) ⟨by show 0 + j = j; omega, hC, hl, hP, hS⟩
    clear hl hP hS
    intro t a1 ls H locs hI ih
    obtain ⟨u, S⟩ := a1
    obtain ⟨i0, i1, hl, hP, hS⟩ := hI
    try dsimp only at i0 i1 hl hP
    by_cases ht : t = 0
    · have hu : j = u := by omega
      subst hu
      refine lv_iload hx hb dP_write_43 (lv_at hl 0 rfl) ?_
      refine lv_iload hx hb dP_write_45 (lv_at hl 5 rfl) ?_
      refine lv_icmp_ge (tgt := 67) hx hb dP_write_47 (by decide) (fun _ => ?_) (fun hc => absurd (by rw [nI_leI (by omega) (by omega)]; omega) hc)
      refine lv_aload hx hb dP_write_67 (lv_at hl 1 rfl) ?_
      refine g_get F hK hP (2 + 2 * pi k) (by omega) (en_T _ _ _ _ _ _ _ _ _ _ hp_k) rfl iT 1 (by decide) k1_34 rfl dP_write_69 ?_
      have h5 := i1.2.2.2.1 k hk
      rw [a_set_n, if_pos rfl] at h5
      rw [h5]
      have hk1 : (c_write a (nI k) (nI j)) = 0 := by simp [c_write, dk_nI hk, ix_nI (show k < 2 ^ 31 by omega), show btw (nI j) 1 8 = true from bt_nI (b := 8) hj1 hj8 (by decide), ix_nI (show j < 2 ^ 31 by omega), hg]
      refine W.widen (k := 1) (n := 6) (by decide) (by decide) ?_
      exact W.toX (W.iret hx hb hr (fun t ht hW => Or.inl ⟨hk1, ⟨by simp [dk_nI hk, ix_nI (show k < 2 ^ 31 by omega), show btw (nI j) 1 8 = true from bt_nI (b := 8) hj1 hj8 (by decide), ix_nI (show j < 2 ^ 31 by omega), hg], ⟨_, ⟨_, _, _, rfl, by simpa [x_write, dk_nI hk, ix_nI (show k < 2 ^ 31 by omega), show btw (nI j) 1 8 = true from bt_nI (b := 8) hj1 hj8 (by decide), ix_nI (show j < 2 ^ 31 by omega), hg] using i1⟩, by rw [ht]; exact hP⟩, hS.F ht⟩⟩) hS.2.2 dP_write_72)
    · refine lv_iload hx hb dP_write_43 (lv_at hl 0 rfl) ?_
      refine lv_iload hx hb dP_write_45 (lv_at hl 5 rfl) ?_
      refine lv_icmp_ge (tgt := 67) hx hb dP_write_47 (by decide) (fun hc => absurd hc (by rw [nI_leI (by omega) (by omega)]; omega)) (fun _ => ?_)
      refine lv_aload hx hb dP_write_50 (lv_at hl 1 rfl) ?_
      refine lv_lload_n hx hb dP_write_52 rfl (lv_at hl 4 rfl) ?_
      refine lv_iload hx hb dP_write_53 (lv_at hl 0 rfl) ?_
      refine g_S (k := 2) F htw hB hS hP (c_P_byteOf v (k := u) (by omega)) k1_192 k1_193 k1_1 k1_194 (by decide +kernel) rfl rfl ⟨Nat.le_of_ble_eq_true rfl, Nat.le_of_ble_eq_true rfl⟩ rfl hl.1 rfl (Nat.le_of_ble_eq_true rfl) dP_write_55 ⟨Nat.le_of_ble_eq_true rfl, Nat.le_of_ble_eq_true rfl⟩ (fun en1 H locs he hP hS => ?_)
      obtain rfl := he
      refine g_V (k := 1) F htw hB hS hP (2 + 2 * pi k) (by omega) (en_T _ _ _ _ _ _ _ _ _ _ hp_k) rfl (c_addB G i1 hk (by omega) (by unfold cat; rw [if_neg (by omega)]; congr 1; omega)) k1_195 k1_196 k1_197 k1_2 k1_198 (by decide +kernel) rfl rfl ⟨Nat.le_of_ble_eq_true rfl, Nat.le_of_ble_eq_true rfl⟩ rfl hl.1 rfl (Nat.le_of_ble_eq_true rfl) dP_write_58 ⟨Nat.le_of_ble_eq_true rfl, Nat.le_of_ble_eq_true rfl⟩ (fun en1 H locs he hP hS => ?_)
      obtain ⟨S, rfl, i1⟩ := he
      refine lv_iinc (k := 0) hx hb dP_write_61 hl rfl rfl (by decide) rfl (fun ls hl => ?_)
      have hl : lv_has ls 7 [(6, .int _), (5, .ref _), (0, .ref _), (1, .int _), (2, .long _), (4, .int _)] := hl
      refine lv_goto (tgt := 43) hx hb dP_write_64 (by decide) ?_
      have hl : lv_has ls 7 [(6, .int (nI (u + 1))), (5, .ref (ad (2 + 2 * pi k))), (0, .ref (ad 0)), (1, .int (nI k)), (2, .long v), (4, .int (nI j))] := by rw [← nI_1]; exact hl
      exact ih (t - 1) (u + 1, S) _ _ _ (by omega) ⟨by show u + 1 + (t - 1) = j; omega, i1, hl, hP, hS⟩
  · have hk1 : (c_write a (nI k) (nI j)) = 2 := by simp [c_write, hg, dk_nI hk, ix_nI (show k < 2 ^ 31 by omega), show btw (nI j) 1 8 = true from bt_nI (b := 8) hj1 hj8 (by decide), ix_nI (show j < 2 ^ 31 by omega)]
    exact g_STh (k := 1) F hlocks hno htw hB hS hP (c_P_requireRoom_th hst (by omega)) k1_172 k1_173 k1_1 k1_174 (by decide +kernel) rfl rfl ⟨Nat.le_of_ble_eq_true rfl, Nat.le_of_ble_eq_true rfl⟩ rfl hl.1 rfl (Nat.le_of_ble_eq_true rfl) dP_write_37 ⟨Nat.le_of_ble_eq_true rfl, Nat.le_of_ble_eq_true rfl⟩ (by rw [hk1]; decide) (by rw [hk1]; rfl)
set_option maxHeartbeats 4000000 in
set_option maxRecDepth 100000 in
theorem c_P_move (hst : l.stackTraces = false) (G : gGeo ad 25 base) (ha : a_ok a) (hC : RepC pi dr S a) (d f t q : Int32) : MetX l yP_move (Cond.code yP_move bP_move 7 (some .int) :: tws) { frames := 8, cells := 1, slots := 6, locals := 123 } (gPc (tw D cI cZ cT cJ base) D cl ad 25 base (en ad cI cZ cT cJ pi dr S M o) [.ref (ad 0), .int d, .int f, .int t, .int q]) (gQx D cl ad 25 base (en ad cI cZ cT cJ pi dr S M o) ["java/lang/IllegalArgumentException", "java/lang/IndexOutOfBoundsException"] (c_move a d f t q) (some (.int (nI (a_n a (ix d))))) (fun e => ∃ (pi1 : Nat → Nat) (dr1 : Nat) (S1 : Nat → Nat → Int32), e = en ad cI cZ cT cJ pi1 dr1 S1 M o ∧ RepC pi1 dr1 S1 (x_move a d f t q))) 1 6 (gA base) := by
  refine MetX.ofW (cc := bP_move) (maxL := 7) (ret := (some .int)) (by decide) rfl ?_
  intro p e s m args below meth c s₁ B hml hv
  obtain ⟨rfl, htw, hB, hP⟩ := hv
  have hx := B.exec
  have hb := B.bytes
  have hr := B.returns
  have hts0 := atoms_spec (ws := Cond.code yP_move bP_move 7 (some .int) :: tws) B.pre
  have hts : ∀ w ∈ tws, w.before _ s = true := fun w h => hts0 w (List.mem_cons_of_mem _ h)
  have hown : s.vm.findClass "PairedTexts" = some m.cls := findClass_of_methodNamed B.named
  have hlocks := B.notSynchronized
  have hno := B.noHandlers (hts0 _ List.mem_cons_self)
  have F : CallFix p m c bP_move 7 s _ tws "PairedTexts" := ⟨hx, hb, hml, hown, hts⟩
  have hK := htw.1
  have hS : va_S (gA base) s.heap s.heap [] := va_S.rf
  have hl := lv_entry ([.ref (ad 0), .int d, .int f, .int t, .int q]) (n := 7) (Nat.le_of_ble_eq_true rfl)
  rw [lg_entry_eq]
  generalize (lg_sl ([.ref (ad 0), .int d, .int f, .int t, .int q]) ++ List.replicate (7 - (lg_sl ([.ref (ad 0), .int d, .int f, .int t, .int q])).length) Slot.unset).toArray = ls at hl ⊢
  have hl : lv_has ls 7 [(0, .ref (ad 0)), (1, .int d), (2, .int f), (3, .int t), (4, .int q)] := hl
  have hdr := hC.2.1
  have z0 : (0 : Int32).toInt = 0 := rfl
  refine lv_aload_n hx hb dP_move_0 rfl (lv_at hl 0 rfl) ?_
  refine lv_iload_n hx hb dP_move_1 rfl (lv_at hl 1 rfl) ?_
  rcases dk_or d with hd | ⟨k, hk, rfl⟩
  · have hk1 : (c_move a d f t q) = 1 := by simp [c_move, hd.1]
    exact g_VTh (k := 1) F hlocks hno htw hB hS hP (0) (by decide) rfl rfl (c_P_textOf_th hst hd.2) k1_92 k1_94 k0_0 k1_1 k1_95 (by decide +kernel) rfl rfl ⟨Nat.le_of_ble_eq_true rfl, Nat.le_of_ble_eq_true rfl⟩ rfl hl.1 rfl (Nat.le_of_ble_eq_true rfl) dP_move_2 ⟨Nat.le_of_ble_eq_true rfl, Nat.le_of_ble_eq_true rfl⟩ (by rw [hk1]; decide) (by rw [hk1]; rfl)
  refine g_V (k := 1) F htw hB hS hP (0) (by decide) rfl rfl (c_P_textOf hk) k1_92 k1_94 k0_0 k1_1 k1_95 (by decide +kernel) rfl rfl ⟨Nat.le_of_ble_eq_true rfl, Nat.le_of_ble_eq_true rfl⟩ rfl hl.1 rfl (Nat.le_of_ble_eq_true rfl) dP_move_2 ⟨Nat.le_of_ble_eq_true rfl, Nat.le_of_ble_eq_true rfl⟩ (fun en1 H locs he hP hS => ?_)
  obtain rfl := he
  have hp_k := (hC.1 k hk).1
  have hn_k := ha.1 k hk
  have h5_k := hC.2.2.2.1 k hk
  refine lv_astore hx hb dP_move_5 hl (by decide) rfl (fun ls hl => ?_)
  have hl : lv_has ls 7 [(5, .ref _), (0, .ref _), (1, .int _), (2, .int _), (3, .int _), (4, .int _)] := hl
  refine lv_aload hx hb dP_move_7 (lv_at hl 0 rfl) ?_
  refine lv_iload_n hx hb dP_move_9 rfl (lv_at hl 3 rfl) ?_
  refine lv_iload_n hx hb dP_move_10 rfl (lv_at hl 4 rfl) ?_
  refine lv_i2l hx hb dP_move_11 rfl ?_
  refine g_V (k := 2) F htw hB hS hP (2 + 2 * pi k) (by omega) (en_T _ _ _ _ _ _ _ _ _ _ hp_k) rfl (c_rng hC ha hk f t) k2_0 k2_1 k2_2 k1_2 k2_3 (by decide +kernel) rfl rfl ⟨Nat.le_of_ble_eq_true rfl, Nat.le_of_ble_eq_true rfl⟩ rfl hl.1 rfl (Nat.le_of_ble_eq_true rfl) dP_move_12 ⟨Nat.le_of_ble_eq_true rfl, Nat.le_of_ble_eq_true rfl⟩ (fun en1 H locs he hP hS => ?_)
  obtain rfl := he
  rcases rg_or f t hn_k with hr | ⟨f1, t1, hft, htn, rfl, rfl⟩
  · have hk1 : (c_move a (nI k) f t q) = 2 := by simp [c_move, dk_nI hk, ix_nI (show k < 2 ^ 31 by omega), hr]
    rw [show (if rg f t (a_n a k) then (1 : Int32) else 0) = 0 from by rw [hr]; rfl]
    exact g_STh (k := 1) F hlocks hno htw hB hS hP (c_P_requireInside_th hst) k1_214 k1_215 k1_1 k1_216 (by decide +kernel) rfl rfl ⟨Nat.le_of_ble_eq_true rfl, Nat.le_of_ble_eq_true rfl⟩ rfl hl.1 rfl (Nat.le_of_ble_eq_true rfl) dP_move_15 ⟨Nat.le_of_ble_eq_true rfl, Nat.le_of_ble_eq_true rfl⟩ (by rw [hk1]; decide) (by rw [hk1]; rfl)
  rw [show (if rg (nI f1) (nI t1) (a_n a k) then (1 : Int32) else 0) = 1 from if_pos (rg_nI hft htn hn_k)]
  refine g_S (k := 1) F htw hB hS hP (c_P_requireInside) k1_214 k1_215 k1_1 k1_216 (by decide +kernel) rfl rfl ⟨Nat.le_of_ble_eq_true rfl, Nat.le_of_ble_eq_true rfl⟩ rfl hl.1 rfl (Nat.le_of_ble_eq_true rfl) dP_move_15 ⟨Nat.le_of_ble_eq_true rfl, Nat.le_of_ble_eq_true rfl⟩ (fun en1 H locs he hP hS => ?_)
  obtain rfl := he
  refine lv_iload_n hx hb dP_move_18 rfl (lv_at hl 4 rfl) ?_
  refine lv_iload_n hx hb dP_move_19 rfl (lv_at hl 3 rfl) ?_
  refine lv_isub hx hb dP_move_20 ?_
  rw [pk_sub hft]
  refine lv_istore hx hb dP_move_21 hl (by decide) rfl (fun ls hl => ?_)
  have hl : lv_has ls 7 [(6, .int _), (5, .ref _), (0, .ref _), (1, .int _), (2, .int _), (3, .int _), (4, .int _)] := hl
  refine lv_iload hx hb dP_move_23 (lv_at hl 6 rfl) ?_
  rcases pc_or q (show a_n a k - (t1 - f1) ≤ 1000 by omega) with hg | ⟨b, hb1, rfl⟩
  · have hk1 : (c_move a (nI k) (nI f1) (nI t1) q) = 2 := by simp [c_move, dk_nI hk, ix_nI (show k < 2 ^ 31 by omega), rg_nI hft htn hn_k, ix_nI (show f1 < 2 ^ 31 by omega), ix_nI (show t1 < 2 ^ 31 by omega), hg]
    have hg2 : q.toInt < 0 ∨ ((a_n a k - (t1 - f1) : Nat) : Int) < q.toInt := by unfold pcL at hg; simp only [decide_eq_false_iff_not] at hg; omega
    refine lv_if_lt (tgt := 45) hx hb dP_move_25 (by decide) (fun hc => ?_) (fun hc => ?_)
    · refine lv_iconst (v := 0) hx hb dP_move_45 (by decide) ?_
      exact g_STh (k := 1) F hlocks hno htw hB hS hP (c_P_requireInside_th hst) k1_214 k1_215 k1_1 k1_216 (by decide +kernel) rfl rfl ⟨Nat.le_of_ble_eq_true rfl, Nat.le_of_ble_eq_true rfl⟩ rfl hl.1 rfl (Nat.le_of_ble_eq_true rfl) dP_move_46 ⟨Nat.le_of_ble_eq_true rfl, Nat.le_of_ble_eq_true rfl⟩ (by rw [hk1]; decide) (by rw [hk1]; rfl)
    · rw [Int32.lt_iff_toInt_lt] at hc
      refine lv_iload hx hb dP_move_28 (lv_at hl 6 rfl) ?_
      refine lv_aload hx hb dP_move_30 (lv_at hl 1 rfl) ?_
      refine g_get F hK hP (2 + 2 * pi k) (by omega) (en_T _ _ _ _ _ _ _ _ _ _ hp_k) rfl iT 1 (by decide) k1_34 rfl dP_move_32 ?_
      refine lv_iload hx hb dP_move_35 (lv_at hl 0 rfl) ?_
      refine lv_isub hx hb dP_move_37 ?_
      have zz := nI_toInt (show a_n a k - (t1 - f1) < 2 ^ 31 by omega)
      rw [h5_k, pk_sub (by omega)]
      refine lv_icmp_gt (tgt := 45) hx hb dP_move_38 (by decide) (fun _ => ?_) (fun hc => absurd (by rw [Int32.lt_iff_toInt_lt]; omega) hc)
      refine lv_iconst (v := 0) hx hb dP_move_45 (by decide) ?_
      exact g_STh (k := 1) F hlocks hno htw hB hS hP (c_P_requireInside_th hst) k1_214 k1_215 k1_1 k1_216 (by decide +kernel) rfl rfl ⟨Nat.le_of_ble_eq_true rfl, Nat.le_of_ble_eq_true rfl⟩ rfl hl.1 rfl (Nat.le_of_ble_eq_true rfl) dP_move_46 ⟨Nat.le_of_ble_eq_true rfl, Nat.le_of_ble_eq_true rfl⟩ (by rw [hk1]; decide) (by rw [hk1]; rfl)
  have zb := nI_toInt (show b < 2 ^ 31 by omega)
  refine lv_if_lt (tgt := 45) hx hb dP_move_25 (by decide) (fun hc => absurd hc (by rw [Int32.lt_iff_toInt_lt]; omega)) (fun _ => ?_)
  refine lv_iload hx hb dP_move_28 (lv_at hl 6 rfl) ?_
  refine lv_aload hx hb dP_move_30 (lv_at hl 1 rfl) ?_
  refine g_get F hK hP (2 + 2 * pi k) (by omega) (en_T _ _ _ _ _ _ _ _ _ _ hp_k) rfl iT 1 (by decide) k1_34 rfl dP_move_32 ?_
  refine lv_iload hx hb dP_move_35 (lv_at hl 0 rfl) ?_
  refine lv_isub hx hb dP_move_37 ?_
  rw [h5_k, pk_sub (by omega)]
  refine lv_icmp_gt (tgt := 45) hx hb dP_move_38 (by decide) (fun hc => absurd hc (by rw [nI_ltI (by omega) (by omega)]; omega)) (fun _ => ?_)
  refine lv_iconst (v := 1) hx hb dP_move_41 (by decide) ?_
  refine lv_goto (tgt := 46) hx hb dP_move_42 (by decide) ?_
  refine g_S (k := 1) F htw hB hS hP (c_P_requireInside) k1_214 k1_215 k1_1 k1_216 (by decide +kernel) rfl rfl ⟨Nat.le_of_ble_eq_true rfl, Nat.le_of_ble_eq_true rfl⟩ rfl hl.1 rfl (Nat.le_of_ble_eq_true rfl) dP_move_46 ⟨Nat.le_of_ble_eq_true rfl, Nat.le_of_ble_eq_true rfl⟩ (fun en1 H locs he hP hS => ?_)
  obtain rfl := he
  refine lv_aload_n hx hb dP_move_49 rfl (lv_at hl 2 rfl) ?_
  refine g_get F hK hP (0) (by decide) rfl rfl iP 3 (by decide) k1_73 rfl dP_move_50 ?_
  refine g_V (k := 0) F htw hB hS hP (2 + 2 * dr) (by omega) (en_T _ _ _ _ _ _ _ _ _ _ hdr) rfl (c_clr G hC (fun _ => 0)) k2_4 k2_5 k2_6 k1_2 k2_7 (by decide +kernel) rfl rfl ⟨Nat.le_of_ble_eq_true rfl, Nat.le_of_ble_eq_true rfl⟩ rfl hl.1 rfl (Nat.le_of_ble_eq_true rfl) dP_move_53 ⟨Nat.le_of_ble_eq_true rfl, Nat.le_of_ble_eq_true rfl⟩ (fun en1 H locs he hP hS => ?_)
  obtain ⟨S, rfl, hC, hDr⟩ := he
  refine lv_iload hx hb dP_move_56 (lv_at hl 6 rfl) ?_
  refine lv_iload_n hx hb dP_move_58 rfl (lv_at hl 4 rfl) ?_
  have hk1 : (c_move a (nI k) (nI f1) (nI t1) (nI b)) = 0 := by simp [c_move, dk_nI hk, ix_nI (show k < 2 ^ 31 by omega), rg_nI hft htn hn_k, ix_nI (show f1 < 2 ^ 31 by omega), ix_nI (show t1 < 2 ^ 31 by omega), pc_nI hb1 (show a_n a k - (t1 - f1) ≤ 1000 by omega), ix_nI (show b < 2 ^ 31 by omega)]
  refine lv_icmp_gt (tgt := 115) hx hb dP_move_59 (by decide) (fun hc => ?_) (fun hc => ?_)
  · rw [nI_ltI (by omega) (by omega)] at hc
    refine lv_aload_n hx hb dP_move_115 rfl (lv_at hl 2 rfl) ?_
    refine g_get F hK hP (0) (by decide) rfl rfl iP 3 (by decide) k1_73 rfl dP_move_116 ?_
    refine lv_aload hx hb dP_move_119 (lv_at hl 1 rfl) ?_
    refine lv_iconst (v := 0) hx hb dP_move_121 (by decide) ?_
    refine lv_iload_n hx hb dP_move_122 rfl (lv_at hl 4 rfl) ?_
    rw [show (0 : Int32) = nI 0 from rfl]
    refine g_V (k := 3) F htw hB hS hP (2 + 2 * dr) (by omega) (en_T _ _ _ _ _ _ _ _ _ _ hdr) rfl (c_addR G hC hDr hk (by omega) (by omega) hn_k (by omega)) k2_8 k2_9 k2_10 k1_2 k2_11 (by decide +kernel) rfl rfl ⟨Nat.le_of_ble_eq_true rfl, Nat.le_of_ble_eq_true rfl⟩ rfl hl.1 rfl (Nat.le_of_ble_eq_true rfl) dP_move_123 ⟨Nat.le_of_ble_eq_true rfl, Nat.le_of_ble_eq_true rfl⟩ (fun en1 H locs he hP hS => ?_)
    obtain ⟨S, rfl, hC, hDr⟩ := he
    refine lv_aload_n hx hb dP_move_126 rfl (lv_at hl 2 rfl) ?_
    refine g_get F hK hP (0) (by decide) rfl rfl iP 3 (by decide) k1_73 rfl dP_move_127 ?_
    refine lv_aload hx hb dP_move_130 (lv_at hl 1 rfl) ?_
    refine lv_iload_n hx hb dP_move_132 rfl (lv_at hl 5 rfl) ?_
    refine lv_iload hx hb dP_move_133 (lv_at hl 6 rfl) ?_
    refine lv_iload hx hb dP_move_135 (lv_at hl 0 rfl) ?_
    refine lv_iadd hx hb dP_move_137 ?_
    rw [nI_add]
    refine g_V (k := 3) F htw hB hS hP (2 + 2 * dr) (by omega) (en_T _ _ _ _ _ _ _ _ _ _ hdr) rfl (c_addR G hC hDr hk (by omega) (by omega) hn_k (by omega)) k2_8 k2_9 k2_10 k1_2 k2_11 (by decide +kernel) rfl rfl ⟨Nat.le_of_ble_eq_true rfl, Nat.le_of_ble_eq_true rfl⟩ rfl hl.1 rfl (Nat.le_of_ble_eq_true rfl) dP_move_138 ⟨Nat.le_of_ble_eq_true rfl, Nat.le_of_ble_eq_true rfl⟩ (fun en1 H locs he hP hS => ?_)
    obtain ⟨S, rfl, hC, hDr⟩ := he
    refine lv_aload_n hx hb dP_move_141 rfl (lv_at hl 2 rfl) ?_
    refine g_get F hK hP (0) (by decide) rfl rfl iP 3 (by decide) k1_73 rfl dP_move_142 ?_
    refine lv_aload hx hb dP_move_145 (lv_at hl 1 rfl) ?_
    refine lv_iload_n hx hb dP_move_147 rfl (lv_at hl 4 rfl) ?_
    refine lv_iload_n hx hb dP_move_148 rfl (lv_at hl 5 rfl) ?_
    refine g_V (k := 3) F htw hB hS hP (2 + 2 * dr) (by omega) (en_T _ _ _ _ _ _ _ _ _ _ hdr) rfl (c_addR G hC hDr hk (by omega) (by omega) hn_k (by omega)) k2_8 k2_9 k2_10 k1_2 k2_11 (by decide +kernel) rfl rfl ⟨Nat.le_of_ble_eq_true rfl, Nat.le_of_ble_eq_true rfl⟩ rfl hl.1 rfl (Nat.le_of_ble_eq_true rfl) dP_move_149 ⟨Nat.le_of_ble_eq_true rfl, Nat.le_of_ble_eq_true rfl⟩ (fun en1 H locs he hP hS => ?_)
    obtain ⟨S, rfl, hC, hDr⟩ := he
    refine lv_aload_n hx hb dP_move_152 rfl (lv_at hl 2 rfl) ?_
    refine g_get F hK hP (0) (by decide) rfl rfl iP 3 (by decide) k1_73 rfl dP_move_153 ?_
    refine lv_aload hx hb dP_move_156 (lv_at hl 1 rfl) ?_
    refine lv_iload hx hb dP_move_158 (lv_at hl 6 rfl) ?_
    refine lv_iload hx hb dP_move_160 (lv_at hl 0 rfl) ?_
    refine lv_iadd hx hb dP_move_162 ?_
    refine lv_aload hx hb dP_move_163 (lv_at hl 1 rfl) ?_
    refine g_get F hK hP (2 + 2 * pi k) (by omega) (en_T _ _ _ _ _ _ _ _ _ _ hp_k) rfl iT 1 (by decide) k1_34 rfl dP_move_165 ?_
    rw [nI_add, hC.2.2.2.1 k hk]
    refine g_V (k := 3) F htw hB hS hP (2 + 2 * dr) (by omega) (en_T _ _ _ _ _ _ _ _ _ _ hdr) rfl (c_addR G hC hDr hk (by omega) (by omega) hn_k (by omega)) k2_8 k2_9 k2_10 k1_2 k2_11 (by decide +kernel) rfl rfl ⟨Nat.le_of_ble_eq_true rfl, Nat.le_of_ble_eq_true rfl⟩ rfl hl.1 rfl (Nat.le_of_ble_eq_true rfl) dP_move_168 ⟨Nat.le_of_ble_eq_true rfl, Nat.le_of_ble_eq_true rfl⟩ (fun en1 H locs he hP hS => ?_)
    obtain ⟨S, rfl, hC, hDr⟩ := he
    refine lv_aload_n hx hb dP_move_171 rfl (lv_at hl 2 rfl) ?_
    refine lv_iload_n hx hb dP_move_172 rfl (lv_at hl 3 rfl) ?_
    refine g_V (k := 1) F htw hB hS hP (0) (by decide) rfl rfl (c_swap G hC hDr hk) k2_15 k2_17 k0_2 k1_1 k2_18 (by decide +kernel) rfl rfl ⟨Nat.le_of_ble_eq_true rfl, Nat.le_of_ble_eq_true rfl⟩ rfl hl.1 rfl (Nat.le_of_ble_eq_true rfl) dP_move_173 ⟨Nat.le_of_ble_eq_true rfl, Nat.le_of_ble_eq_true rfl⟩ (fun en1 H locs he hP hS => ?_)
    obtain ⟨pi1, dr1, S, rfl, hC⟩ := he
    have hC := hC.to (k' := a_n a k) (g' := cat (cat (rst (a_b a k) f1 (t1 - f1)) b (fun i => a_b a k (f1 + i))) (b + (t1 - f1)) (fun i => rst (a_b a k) f1 (t1 - f1) (b + i))) (by omega) (fun i hi => by simp only [cat, rst]; (repeat' split) <;> first | (exfalso; omega) | (congr 1; omega))
    rw [show 0 + (f1 - 0) + (b + (t1 - f1) - t1) + (t1 - f1) + (a_n a k - (b + (t1 - f1))) = a_n a k by omega]
    refine W.widen (k := 1) (n := 6) (by decide) (by decide) ?_
    exact W.toX (W.iret hx hb hr (fun t ht hW => Or.inl ⟨hk1, ⟨by simp [dk_nI hk, ix_nI (show k < 2 ^ 31 by omega), rg_nI hft htn hn_k, ix_nI (show f1 < 2 ^ 31 by omega), ix_nI (show t1 < 2 ^ 31 by omega), pc_nI hb1 (show a_n a k - (t1 - f1) ≤ 1000 by omega), ix_nI (show b < 2 ^ 31 by omega)], ⟨_, ⟨_, _, _, rfl, by simpa [x_move, dk_nI hk, ix_nI (show k < 2 ^ 31 by omega), rg_nI hft htn hn_k, ix_nI (show f1 < 2 ^ 31 by omega), ix_nI (show t1 < 2 ^ 31 by omega), pc_nI hb1 (show a_n a k - (t1 - f1) ≤ 1000 by omega), ix_nI (show b < 2 ^ 31 by omega)] using hC⟩, by rw [ht]; exact hP⟩, hS.F ht⟩⟩) hS.2.2 dP_move_176)
  · rw [nI_ltI (by omega) (by omega)] at hc
    refine lv_aload_n hx hb dP_move_62 rfl (lv_at hl 2 rfl) ?_
    refine g_get F hK hP (0) (by decide) rfl rfl iP 3 (by decide) k1_73 rfl dP_move_63 ?_
    refine lv_aload hx hb dP_move_66 (lv_at hl 1 rfl) ?_
    refine lv_iconst (v := 0) hx hb dP_move_68 (by decide) ?_
    refine lv_iload hx hb dP_move_69 (lv_at hl 6 rfl) ?_
    rw [show (0 : Int32) = nI 0 from rfl]
    refine g_V (k := 3) F htw hB hS hP (2 + 2 * dr) (by omega) (en_T _ _ _ _ _ _ _ _ _ _ hdr) rfl (c_addR G hC hDr hk (by omega) (by omega) hn_k (by omega)) k2_8 k2_9 k2_10 k1_2 k2_11 (by decide +kernel) rfl rfl ⟨Nat.le_of_ble_eq_true rfl, Nat.le_of_ble_eq_true rfl⟩ rfl hl.1 rfl (Nat.le_of_ble_eq_true rfl) dP_move_71 ⟨Nat.le_of_ble_eq_true rfl, Nat.le_of_ble_eq_true rfl⟩ (fun en1 H locs he hP hS => ?_)
    obtain ⟨S, rfl, hC, hDr⟩ := he
    refine lv_aload_n hx hb dP_move_74 rfl (lv_at hl 2 rfl) ?_
    refine g_get F hK hP (0) (by decide) rfl rfl iP 3 (by decide) k1_73 rfl dP_move_75 ?_
    refine lv_aload hx hb dP_move_78 (lv_at hl 1 rfl) ?_
    refine lv_iload_n hx hb dP_move_80 rfl (lv_at hl 4 rfl) ?_
    refine lv_iload_n hx hb dP_move_81 rfl (lv_at hl 5 rfl) ?_
    refine g_V (k := 3) F htw hB hS hP (2 + 2 * dr) (by omega) (en_T _ _ _ _ _ _ _ _ _ _ hdr) rfl (c_addR G hC hDr hk (by omega) (by omega) hn_k (by omega)) k2_8 k2_9 k2_10 k1_2 k2_11 (by decide +kernel) rfl rfl ⟨Nat.le_of_ble_eq_true rfl, Nat.le_of_ble_eq_true rfl⟩ rfl hl.1 rfl (Nat.le_of_ble_eq_true rfl) dP_move_82 ⟨Nat.le_of_ble_eq_true rfl, Nat.le_of_ble_eq_true rfl⟩ (fun en1 H locs he hP hS => ?_)
    obtain ⟨S, rfl, hC, hDr⟩ := he
    refine lv_aload_n hx hb dP_move_85 rfl (lv_at hl 2 rfl) ?_
    refine g_get F hK hP (0) (by decide) rfl rfl iP 3 (by decide) k1_73 rfl dP_move_86 ?_
    refine lv_aload hx hb dP_move_89 (lv_at hl 1 rfl) ?_
    refine lv_iload hx hb dP_move_91 (lv_at hl 6 rfl) ?_
    refine lv_iload_n hx hb dP_move_93 rfl (lv_at hl 4 rfl) ?_
    refine g_V (k := 3) F htw hB hS hP (2 + 2 * dr) (by omega) (en_T _ _ _ _ _ _ _ _ _ _ hdr) rfl (c_addR G hC hDr hk (by omega) (by omega) hn_k (by omega)) k2_8 k2_9 k2_10 k1_2 k2_11 (by decide +kernel) rfl rfl ⟨Nat.le_of_ble_eq_true rfl, Nat.le_of_ble_eq_true rfl⟩ rfl hl.1 rfl (Nat.le_of_ble_eq_true rfl) dP_move_94 ⟨Nat.le_of_ble_eq_true rfl, Nat.le_of_ble_eq_true rfl⟩ (fun en1 H locs he hP hS => ?_)
    obtain ⟨S, rfl, hC, hDr⟩ := he
    refine lv_aload_n hx hb dP_move_97 rfl (lv_at hl 2 rfl) ?_
    refine g_get F hK hP (0) (by decide) rfl rfl iP 3 (by decide) k1_73 rfl dP_move_98 ?_
    refine lv_aload hx hb dP_move_101 (lv_at hl 1 rfl) ?_
    refine lv_iload_n hx hb dP_move_103 rfl (lv_at hl 5 rfl) ?_
    refine lv_aload hx hb dP_move_104 (lv_at hl 1 rfl) ?_
    refine g_get F hK hP (2 + 2 * pi k) (by omega) (en_T _ _ _ _ _ _ _ _ _ _ hp_k) rfl iT 1 (by decide) k1_34 rfl dP_move_106 ?_
    rw [hC.2.2.2.1 k hk]
    refine g_V (k := 3) F htw hB hS hP (2 + 2 * dr) (by omega) (en_T _ _ _ _ _ _ _ _ _ _ hdr) rfl (c_addR G hC hDr hk (by omega) (by omega) hn_k (by omega)) k2_8 k2_9 k2_10 k1_2 k2_11 (by decide +kernel) rfl rfl ⟨Nat.le_of_ble_eq_true rfl, Nat.le_of_ble_eq_true rfl⟩ rfl hl.1 rfl (Nat.le_of_ble_eq_true rfl) dP_move_109 ⟨Nat.le_of_ble_eq_true rfl, Nat.le_of_ble_eq_true rfl⟩ (fun en1 H locs he hP hS => ?_)
    obtain ⟨S, rfl, hC, hDr⟩ := he
    refine lv_goto (tgt := 171) hx hb dP_move_112 (by decide) ?_
    refine lv_aload_n hx hb dP_move_171 rfl (lv_at hl 2 rfl) ?_
    refine lv_iload_n hx hb dP_move_172 rfl (lv_at hl 3 rfl) ?_
    refine g_V (k := 1) F htw hB hS hP (0) (by decide) rfl rfl (c_swap G hC hDr hk) k2_15 k2_17 k0_2 k1_1 k2_18 (by decide +kernel) rfl rfl ⟨Nat.le_of_ble_eq_true rfl, Nat.le_of_ble_eq_true rfl⟩ rfl hl.1 rfl (Nat.le_of_ble_eq_true rfl) dP_move_173 ⟨Nat.le_of_ble_eq_true rfl, Nat.le_of_ble_eq_true rfl⟩ (fun en1 H locs he hP hS => ?_)
    obtain ⟨pi1, dr1, S, rfl, hC⟩ := he
    have hC := hC.to (k' := a_n a k) (g' := cat (cat (rst (a_b a k) f1 (t1 - f1)) b (fun i => a_b a k (f1 + i))) (b + (t1 - f1)) (fun i => rst (a_b a k) f1 (t1 - f1) (b + i))) (by omega) (fun i hi => by simp only [cat, rst]; (repeat' split) <;> first | (exfalso; omega) | (congr 1; omega))
    rw [show 0 + (b - 0) + (t1 - f1) + (f1 - b) + (a_n a k - t1) = a_n a k by omega]
    refine W.widen (k := 1) (n := 6) (by decide) (by decide) ?_
    exact W.toX (W.iret hx hb hr (fun t ht hW => Or.inl ⟨hk1, ⟨by simp [dk_nI hk, ix_nI (show k < 2 ^ 31 by omega), rg_nI hft htn hn_k, ix_nI (show f1 < 2 ^ 31 by omega), ix_nI (show t1 < 2 ^ 31 by omega), pc_nI hb1 (show a_n a k - (t1 - f1) ≤ 1000 by omega), ix_nI (show b < 2 ^ 31 by omega)], ⟨_, ⟨_, _, _, rfl, by simpa [x_move, dk_nI hk, ix_nI (show k < 2 ^ 31 by omega), rg_nI hft htn hn_k, ix_nI (show f1 < 2 ^ 31 by omega), ix_nI (show t1 < 2 ^ 31 by omega), pc_nI hb1 (show a_n a k - (t1 - f1) ≤ 1000 by omega), ix_nI (show b < 2 ^ 31 by omega)] using hC⟩, by rw [ht]; exact hP⟩, hS.F ht⟩⟩) hS.2.2 dP_move_176)
set_option maxHeartbeats 4000000 in
set_option maxRecDepth 100000 in
theorem c_P_repeat (hst : l.stackTraces = false) (G : gGeo ad 25 base) (ha : a_ok a) (hC : RepC pi dr S a) (d f t n : Int32) : MetX l yP_repeat (Cond.code yP_repeat bP_repeat 10 (some .int) :: tws) { frames := 8, cells := 1, slots := 6, locals := 123 } (gPc (tw D cI cZ cT cJ base) D cl ad 25 base (en ad cI cZ cT cJ pi dr S M o) [.ref (ad 0), .int d, .int f, .int t, .int n]) (gQx D cl ad 25 base (en ad cI cZ cT cJ pi dr S M o) ["java/lang/IllegalArgumentException", "java/lang/IndexOutOfBoundsException", "java/lang/UnsupportedOperationException"] (c_repeat a d f t n) (some (.int (nI (a_n a (ix d) - (ix t - ix f) + ix n * (ix t - ix f))))) (fun e => ∃ (pi1 : Nat → Nat) (dr1 : Nat) (S1 : Nat → Nat → Int32), e = en ad cI cZ cT cJ pi1 dr1 S1 M o ∧ RepC pi1 dr1 S1 (x_repeat a d f t n))) 1 6 (gA base) := by
  refine MetX.ofW (cc := bP_repeat) (maxL := 10) (ret := (some .int)) (by decide) rfl ?_
  intro p e s m args below meth c s₁ B hml hv
  obtain ⟨rfl, htw, hB, hP⟩ := hv
  have hx := B.exec
  have hb := B.bytes
  have hr := B.returns
  have hts0 := atoms_spec (ws := Cond.code yP_repeat bP_repeat 10 (some .int) :: tws) B.pre
  have hts : ∀ w ∈ tws, w.before _ s = true := fun w h => hts0 w (List.mem_cons_of_mem _ h)
  have hown : s.vm.findClass "PairedTexts" = some m.cls := findClass_of_methodNamed B.named
  have hlocks := B.notSynchronized
  have hno := B.noHandlers (hts0 _ List.mem_cons_self)
  have F : CallFix p m c bP_repeat 10 s _ tws "PairedTexts" := ⟨hx, hb, hml, hown, hts⟩
  have hK := htw.1
  have hS : va_S (gA base) s.heap s.heap [] := va_S.rf
  have hl := lv_entry ([.ref (ad 0), .int d, .int f, .int t, .int n]) (n := 10) (Nat.le_of_ble_eq_true rfl)
  rw [lg_entry_eq]
  generalize (lg_sl ([.ref (ad 0), .int d, .int f, .int t, .int n]) ++ List.replicate (10 - (lg_sl ([.ref (ad 0), .int d, .int f, .int t, .int n])).length) Slot.unset).toArray = ls at hl ⊢
  have hl : lv_has ls 10 [(0, .ref (ad 0)), (1, .int d), (2, .int f), (3, .int t), (4, .int n)] := hl
  have hdr := hC.2.1
  have z0 : (0 : Int32).toInt = 0 := rfl
  refine lv_aload_n hx hb dP_repeat_0 rfl (lv_at hl 0 rfl) ?_
  refine lv_iload_n hx hb dP_repeat_1 rfl (lv_at hl 1 rfl) ?_
  rcases dk_or d with hd | ⟨k, hk, rfl⟩
  · have hk1 : (c_repeat a d f t n) = 1 := by simp [c_repeat, hd.1]
    exact g_VTh (k := 1) F hlocks hno htw hB hS hP (0) (by decide) rfl rfl (c_P_textOf_th hst hd.2) k1_92 k1_94 k0_0 k1_1 k1_95 (by decide +kernel) rfl rfl ⟨Nat.le_of_ble_eq_true rfl, Nat.le_of_ble_eq_true rfl⟩ rfl hl.1 rfl (Nat.le_of_ble_eq_true rfl) dP_repeat_2 ⟨Nat.le_of_ble_eq_true rfl, Nat.le_of_ble_eq_true rfl⟩ (by rw [hk1]; decide) (by rw [hk1]; rfl)
  refine g_V (k := 1) F htw hB hS hP (0) (by decide) rfl rfl (c_P_textOf hk) k1_92 k1_94 k0_0 k1_1 k1_95 (by decide +kernel) rfl rfl ⟨Nat.le_of_ble_eq_true rfl, Nat.le_of_ble_eq_true rfl⟩ rfl hl.1 rfl (Nat.le_of_ble_eq_true rfl) dP_repeat_2 ⟨Nat.le_of_ble_eq_true rfl, Nat.le_of_ble_eq_true rfl⟩ (fun en1 H locs he hP hS => ?_)
  obtain rfl := he
  have hp_k := (hC.1 k hk).1
  have hn_k := ha.1 k hk
  have h5_k := hC.2.2.2.1 k hk
  refine lv_astore hx hb dP_repeat_5 hl (by decide) rfl (fun ls hl => ?_)
  have hl : lv_has ls 10 [(5, .ref _), (0, .ref _), (1, .int _), (2, .int _), (3, .int _), (4, .int _)] := hl
  refine lv_iload hx hb dP_repeat_7 (lv_at hl 5 rfl) ?_
  rcases nn_or n with hg | ⟨j, hj, rfl⟩
  · have hk1 : (c_repeat a (nI k) f t n) = 1 := by simp [c_repeat, dk_nI hk, ix_nI (show k < 2 ^ 31 by omega), hg.1]
    refine lv_if_lt (tgt := 16) hx hb dP_repeat_9 (by decide) (fun _ => ?_) (fun hc => absurd (by rw [Int32.lt_iff_toInt_lt]; omega) hc)
    refine lv_iconst (v := 0) hx hb dP_repeat_16 (by decide) ?_
    exact g_STh (k := 1) F hlocks hno htw hB hS hP (c_P_requireArgument_th hst) k1_168 k1_169 k1_1 k1_170 (by decide +kernel) rfl rfl ⟨Nat.le_of_ble_eq_true rfl, Nat.le_of_ble_eq_true rfl⟩ rfl hl.1 rfl (Nat.le_of_ble_eq_true rfl) dP_repeat_17 ⟨Nat.le_of_ble_eq_true rfl, Nat.le_of_ble_eq_true rfl⟩ (by rw [hk1]; decide) (by rw [hk1]; rfl)
  have zj := nI_toInt hj
  refine lv_if_lt (tgt := 16) hx hb dP_repeat_9 (by decide) (fun hc => absurd hc (by rw [Int32.lt_iff_toInt_lt]; omega)) (fun _ => ?_)
  refine lv_iconst (v := 1) hx hb dP_repeat_12 (by decide) ?_
  refine lv_goto (tgt := 17) hx hb dP_repeat_13 (by decide) ?_
  refine g_S (k := 1) F htw hB hS hP (c_P_requireArgument) k1_168 k1_169 k1_1 k1_170 (by decide +kernel) rfl rfl ⟨Nat.le_of_ble_eq_true rfl, Nat.le_of_ble_eq_true rfl⟩ rfl hl.1 rfl (Nat.le_of_ble_eq_true rfl) dP_repeat_17 ⟨Nat.le_of_ble_eq_true rfl, Nat.le_of_ble_eq_true rfl⟩ (fun en1 H locs he hP hS => ?_)
  obtain rfl := he
  refine lv_aload hx hb dP_repeat_20 (lv_at hl 0 rfl) ?_
  refine lv_iload_n hx hb dP_repeat_22 rfl (lv_at hl 3 rfl) ?_
  refine lv_iload_n hx hb dP_repeat_23 rfl (lv_at hl 4 rfl) ?_
  refine lv_i2l hx hb dP_repeat_24 rfl ?_
  refine g_V (k := 2) F htw hB hS hP (2 + 2 * pi k) (by omega) (en_T _ _ _ _ _ _ _ _ _ _ hp_k) rfl (c_rng hC ha hk f t) k2_0 k2_1 k2_2 k1_2 k2_3 (by decide +kernel) rfl rfl ⟨Nat.le_of_ble_eq_true rfl, Nat.le_of_ble_eq_true rfl⟩ rfl hl.1 rfl (Nat.le_of_ble_eq_true rfl) dP_repeat_25 ⟨Nat.le_of_ble_eq_true rfl, Nat.le_of_ble_eq_true rfl⟩ (fun en1 H locs he hP hS => ?_)
  obtain rfl := he
  rcases rg_or f t hn_k with hr | ⟨f1, t1, hft, htn, rfl, rfl⟩
  · have hk1 : (c_repeat a (nI k) f t (nI j)) = 2 := by simp [c_repeat, dk_nI hk, ix_nI (show k < 2 ^ 31 by omega), nn_nI hj, ix_nI hj, hr]
    rw [show (if rg f t (a_n a k) then (1 : Int32) else 0) = 0 from by rw [hr]; rfl]
    exact g_STh (k := 1) F hlocks hno htw hB hS hP (c_P_requireInside_th hst) k1_214 k1_215 k1_1 k1_216 (by decide +kernel) rfl rfl ⟨Nat.le_of_ble_eq_true rfl, Nat.le_of_ble_eq_true rfl⟩ rfl hl.1 rfl (Nat.le_of_ble_eq_true rfl) dP_repeat_28 ⟨Nat.le_of_ble_eq_true rfl, Nat.le_of_ble_eq_true rfl⟩ (by rw [hk1]; decide) (by rw [hk1]; rfl)
  rw [show (if rg (nI f1) (nI t1) (a_n a k) then (1 : Int32) else 0) = 1 from if_pos (rg_nI hft htn hn_k)]
  refine g_S (k := 1) F htw hB hS hP (c_P_requireInside) k1_214 k1_215 k1_1 k1_216 (by decide +kernel) rfl rfl ⟨Nat.le_of_ble_eq_true rfl, Nat.le_of_ble_eq_true rfl⟩ rfl hl.1 rfl (Nat.le_of_ble_eq_true rfl) dP_repeat_28 ⟨Nat.le_of_ble_eq_true rfl, Nat.le_of_ble_eq_true rfl⟩ (fun en1 H locs he hP hS => ?_)
  obtain rfl := he
  refine lv_iload hx hb dP_repeat_31 (lv_at hl 5 rfl) ?_
  refine lv_i2l hx hb dP_repeat_33 rfl ?_
  refine lv_iload_n hx hb dP_repeat_34 rfl (lv_at hl 4 rfl) ?_
  refine lv_iload_n hx hb dP_repeat_35 rfl (lv_at hl 3 rfl) ?_
  refine lv_isub hx hb dP_repeat_36 ?_
  rw [nI_l hj, pk_sub hft]
  refine lv_i2l hx hb dP_repeat_37 rfl ?_
  rw [nI_l (show t1 - f1 < 2 ^ 31 by omega)]
  refine lv_lmul hx hb dP_repeat_38 ?_
  rw [lN_mul]
  refine lv_lstore hx hb dP_repeat_39 hl (by decide) rfl (fun ls hl => ?_)
  have hl : lv_has ls 10 [(6, .long _), (5, .ref _), (0, .ref _), (1, .int _), (2, .int _), (3, .int _), (4, .int _)] := hl
  refine lv_aload hx hb dP_repeat_41 (lv_at hl 1 rfl) ?_
  refine g_get F hK hP (2 + 2 * pi k) (by omega) (en_T _ _ _ _ _ _ _ _ _ _ hp_k) rfl iT 1 (by decide) k1_34 rfl dP_repeat_43 ?_
  refine lv_iload_n hx hb dP_repeat_46 rfl (lv_at hl 5 rfl) ?_
  refine lv_iload_n hx hb dP_repeat_47 rfl (lv_at hl 4 rfl) ?_
  refine lv_isub hx hb dP_repeat_48 ?_
  refine lv_isub hx hb dP_repeat_49 ?_
  rw [h5_k, pk_sub hft, pk_sub (show t1 - f1 ≤ a_n a k by omega)]
  refine lv_i2l hx hb dP_repeat_50 rfl ?_
  refine lv_lload hx hb dP_repeat_51 (lv_at hl 0 rfl) ?_
  refine lv_ladd hx hb dP_repeat_53 ?_
  rw [nI_l (show a_n a k - (t1 - f1) < 2 ^ 31 by omega), lN_add]
  have hjw : j * (t1 - f1) ≤ 2147483648 * 1000 := Nat.mul_le_mul (by omega) (by omega)
  have zr := pk_lT (show a_n a k - (t1 - f1) + j * (t1 - f1) < 2 ^ 63 by omega)
  by_cases hg : a_n a k - (t1 - f1) + j * (t1 - f1) ≤ 1000
  · have hk1 : (c_repeat a (nI k) (nI f1) (nI t1) (nI j)) = 0 := by simp [c_repeat, dk_nI hk, ix_nI (show k < 2 ^ 31 by omega), nn_nI hj, ix_nI hj, rg_nI hft htn hn_k, ix_nI (show f1 < 2 ^ 31 by omega), ix_nI (show t1 < 2 ^ 31 by omega), hg]
    refine g_S (k := 1) F htw hB hS hP (c_P_requireRoom (by omega)) k1_172 k1_173 k1_1 k1_174 (by decide +kernel) rfl rfl ⟨Nat.le_of_ble_eq_true rfl, Nat.le_of_ble_eq_true rfl⟩ rfl hl.1 rfl (Nat.le_of_ble_eq_true rfl) dP_repeat_54 ⟨Nat.le_of_ble_eq_true rfl, Nat.le_of_ble_eq_true rfl⟩ (fun en1 H locs he hP hS => ?_)
    obtain rfl := he
    obtain ⟨T0, hT0⟩ : ∃ T0 : Nat, T0 = if f1 = t1 then 0 else j := ⟨_, rfl⟩
    have hTw : T0 * (t1 - f1) = j * (t1 - f1) := by by_cases h : f1 = t1 <;> simp [hT0, h]
    have hT1 : T0 < 2 ^ 31 := by rw [hT0]; split <;> omega
    refine lv_iload_n hx hb dP_repeat_57 rfl (lv_at hl 4 rfl) ?_
    refine lv_iload_n hx hb dP_repeat_58 rfl (lv_at hl 5 rfl) ?_
    refine lv_icmp_ne (tgt := 66) hx hb dP_repeat_59 (by decide) (fun hc => ?_) (fun hc => ?_)
    · rw [nI_eq (by omega) (by omega)] at hc
      have hT2 : j = T0 := by rw [hT0, if_neg hc]
      refine lv_iload hx hb dP_repeat_66 (lv_at hl 6 rfl) ?_
      have hT3 := hT2
      refine lv_istore hx hb dP_repeat_68 hl (by decide) rfl (fun ls hl => ?_)
      have hl : lv_has ls 10 [(8, .int _), (6, .long _), (5, .ref _), (0, .ref _), (1, .int _), (2, .int _), (3, .int _), (4, .int _)] := hl
      have hl : lv_has ls 10 [(8, .int (nI T0)), (6, .long (lN (j * (t1 - f1)))), (5, .ref (ad (2 + 2 * pi k))), (0, .ref (ad 0)), (1, .int (nI k)), (2, .int (nI f1)), (3, .int (nI t1)), (4, .int (nI j))] := by rw [← hT2]; exact hl
      refine lv_aload_n hx hb dP_repeat_70 rfl (lv_at hl 3 rfl) ?_
      refine g_get F hK hP (0) (by decide) rfl rfl iP 3 (by decide) k1_73 rfl dP_repeat_71 ?_
      refine g_V (k := 0) F htw hB hS hP (2 + 2 * dr) (by omega) (en_T _ _ _ _ _ _ _ _ _ _ hdr) rfl (c_clr G hC (fun _ => 0)) k2_4 k2_5 k2_6 k1_2 k2_7 (by decide +kernel) rfl rfl ⟨Nat.le_of_ble_eq_true rfl, Nat.le_of_ble_eq_true rfl⟩ rfl hl.1 rfl (Nat.le_of_ble_eq_true rfl) dP_repeat_74 ⟨Nat.le_of_ble_eq_true rfl, Nat.le_of_ble_eq_true rfl⟩ (fun en1 H locs he hP hS => ?_)
      obtain ⟨S, rfl, hC, hDr⟩ := he
      refine lv_aload_n hx hb dP_repeat_77 rfl (lv_at hl 3 rfl) ?_
      refine g_get F hK hP (0) (by decide) rfl rfl iP 3 (by decide) k1_73 rfl dP_repeat_78 ?_
      refine lv_aload hx hb dP_repeat_81 (lv_at hl 2 rfl) ?_
      refine lv_iconst (v := 0) hx hb dP_repeat_83 (by decide) ?_
      refine lv_iload_n hx hb dP_repeat_84 rfl (lv_at hl 5 rfl) ?_
      rw [show (0 : Int32) = nI 0 from rfl]
      refine g_V (k := 3) F htw hB hS hP (2 + 2 * dr) (by omega) (en_T _ _ _ _ _ _ _ _ _ _ hdr) rfl (c_addR G hC hDr hk (by omega) (by omega) hn_k (by omega)) k2_8 k2_9 k2_10 k1_2 k2_11 (by decide +kernel) rfl rfl ⟨Nat.le_of_ble_eq_true rfl, Nat.le_of_ble_eq_true rfl⟩ rfl hl.1 rfl (Nat.le_of_ble_eq_true rfl) dP_repeat_85 ⟨Nat.le_of_ble_eq_true rfl, Nat.le_of_ble_eq_true rfl⟩ (fun en1 H locs he hP hS => ?_)
      obtain ⟨S, rfl, hC, hDr⟩ := he
      refine lv_iconst (v := 0) hx hb dP_repeat_88 (by decide) ?_
      refine lv_istore hx hb dP_repeat_89 hl (by decide) rfl (fun ls hl => ?_)
      have hl : lv_has ls 10 [(9, .int _), (8, .int _), (6, .long _), (5, .ref _), (0, .ref _), (1, .int _), (2, .int _), (3, .int _), (4, .int _)] := hl
      have hDr := hDr.to (k' := f1 + 0 * (t1 - f1)) (g' := rep (a_b a k) f1 (t1 - f1) 0) (by omega) (fun i hi => by simp [cat, rep])
      refine W.loop (α := Nat × (Nat → Nat → Int32)) (fun t a1 ls H locs => a1.1 + t = T0 ∧ RepC pi dr a1.2 a ∧ RepD dr a1.2 (f1 + a1.1 * (t1 - f1)) (rep (a_b a k) f1 (t1 - f1) a1.1) ∧ lv_has ls 10 [(9, .int (nI a1.1)), (8, .int (nI T0)), (6, .long (lN (j * (t1 - f1)))), (5, .ref (ad (2 + 2 * pi k))), (0, .ref (ad 0)), (1, .int (nI k)), (2, .int (nI f1)), (3, .int (nI t1)), (4, .int (nI j))] ∧ va_P D cl (gw ad (en ad cI cZ cT cJ pi dr a1.2 M o) 25) H ∧ va_S (gA base) s.heap H locs) ?_ (t := T0) (a := (0, S)) ⟨by show 0 + T0 = T0; omega, hC, hDr, hl, hP, hS⟩
      clear hl hP hS
      intro t a1 ls H locs hI ih
      obtain ⟨u, S⟩ := a1
      obtain ⟨i0, i1, i2, hl, hP, hS⟩ := hI
      try dsimp only at i0 i1 i2 hl hP
      by_cases ht : t = 0
      · have hu : T0 = u := by omega
        subst hu
        refine lv_iload hx hb dP_repeat_91 (lv_at hl 0 rfl) ?_
        refine lv_iload hx hb dP_repeat_93 (lv_at hl 1 rfl) ?_
        refine lv_icmp_ge (tgt := 115) hx hb dP_repeat_95 (by decide) (fun _ => ?_) (fun hc => absurd (by rw [nI_leI (by omega) (by omega)]; omega) hc)
        refine lv_aload_n hx hb dP_repeat_115 rfl (lv_at hl 4 rfl) ?_
        refine g_get F hK hP (0) (by decide) rfl rfl iP 3 (by decide) k1_73 rfl dP_repeat_116 ?_
        refine lv_aload hx hb dP_repeat_119 (lv_at hl 3 rfl) ?_
        refine lv_iload_n hx hb dP_repeat_121 rfl (lv_at hl 7 rfl) ?_
        refine lv_aload hx hb dP_repeat_122 (lv_at hl 3 rfl) ?_
        refine g_get F hK hP (2 + 2 * pi k) (by omega) (en_T _ _ _ _ _ _ _ _ _ _ hp_k) rfl iT 1 (by decide) k1_34 rfl dP_repeat_124 ?_
        have hC := i1
        have hDr := i2
        rw [hC.2.2.2.1 k hk]
        refine g_V (k := 3) F htw hB hS hP (2 + 2 * dr) (by omega) (en_T _ _ _ _ _ _ _ _ _ _ hdr) rfl (c_addR G hC hDr hk (by omega) (by omega) hn_k (by omega)) k2_8 k2_9 k2_10 k1_2 k2_11 (by decide +kernel) rfl rfl ⟨Nat.le_of_ble_eq_true rfl, Nat.le_of_ble_eq_true rfl⟩ rfl hl.1 rfl (Nat.le_of_ble_eq_true rfl) dP_repeat_127 ⟨Nat.le_of_ble_eq_true rfl, Nat.le_of_ble_eq_true rfl⟩ (fun en1 H locs he hP hS => ?_)
        obtain ⟨S, rfl, hC, hDr⟩ := he
        refine lv_aload_n hx hb dP_repeat_130 rfl (lv_at hl 4 rfl) ?_
        refine lv_iload_n hx hb dP_repeat_131 rfl (lv_at hl 5 rfl) ?_
        refine g_V (k := 1) F htw hB hS hP (0) (by decide) rfl rfl (c_swap G hC hDr hk) k2_15 k2_17 k0_2 k1_1 k2_18 (by decide +kernel) rfl rfl ⟨Nat.le_of_ble_eq_true rfl, Nat.le_of_ble_eq_true rfl⟩ rfl hl.1 rfl (Nat.le_of_ble_eq_true rfl) dP_repeat_132 ⟨Nat.le_of_ble_eq_true rfl, Nat.le_of_ble_eq_true rfl⟩ (fun en1 H locs he hP hS => ?_)
        obtain ⟨pi1, dr1, S, rfl, hC⟩ := he
        have hC := hC.to (k' := a_n a k - (t1 - f1) + j * (t1 - f1)) (g' := cat (rep (a_b a k) f1 (t1 - f1) (if nI f1 = nI t1 then 0 else j)) (f1 + j * (t1 - f1)) (fun i => a_b a k (t1 + i))) (by omega) (fun i hi => by rw [hTw]; congr 2; rw [hT0]; simp only [nI_eq (show f1 < 2 ^ 31 by omega) (show t1 < 2 ^ 31 by omega)])
        rw [hTw, show f1 + j * (t1 - f1) + (a_n a k - t1) = a_n a k - (t1 - f1) + j * (t1 - f1) by omega]
        refine W.widen (k := 1) (n := 6) (by decide) (by decide) ?_
        exact W.toX (W.iret hx hb hr (fun t ht hW => Or.inl ⟨hk1, ⟨by simp [dk_nI hk, ix_nI (show k < 2 ^ 31 by omega), nn_nI hj, ix_nI hj, rg_nI hft htn hn_k, ix_nI (show f1 < 2 ^ 31 by omega), ix_nI (show t1 < 2 ^ 31 by omega), hg], ⟨_, ⟨_, _, _, rfl, by simpa [x_repeat, dk_nI hk, ix_nI (show k < 2 ^ 31 by omega), nn_nI hj, ix_nI hj, rg_nI hft htn hn_k, ix_nI (show f1 < 2 ^ 31 by omega), ix_nI (show t1 < 2 ^ 31 by omega), hg] using hC⟩, by rw [ht]; exact hP⟩, hS.F ht⟩⟩) hS.2.2 dP_repeat_135)
      · refine lv_iload hx hb dP_repeat_91 (lv_at hl 0 rfl) ?_
        refine lv_iload hx hb dP_repeat_93 (lv_at hl 1 rfl) ?_
        refine lv_icmp_ge (tgt := 115) hx hb dP_repeat_95 (by decide) (fun hc => absurd hc (by rw [nI_leI (by omega) (by omega)]; omega)) (fun _ => ?_)
        refine lv_aload_n hx hb dP_repeat_98 rfl (lv_at hl 4 rfl) ?_
        refine g_get F hK hP (0) (by decide) rfl rfl iP 3 (by decide) k1_73 rfl dP_repeat_99 ?_
        refine lv_aload hx hb dP_repeat_102 (lv_at hl 3 rfl) ?_
        refine lv_iload_n hx hb dP_repeat_104 rfl (lv_at hl 6 rfl) ?_
        refine lv_iload_n hx hb dP_repeat_105 rfl (lv_at hl 7 rfl) ?_
        have hC := i1
        have hDr := i2
        have hm1 : (u + 1) * (t1 - f1) ≤ T0 * (t1 - f1) := Nat.mul_le_mul (by omega) (Nat.le_refl _)
        have hm2 : (u + 1) * (t1 - f1) = u * (t1 - f1) + (t1 - f1) := Nat.succ_mul _ _
        refine g_V (k := 3) F htw hB hS hP (2 + 2 * dr) (by omega) (en_T _ _ _ _ _ _ _ _ _ _ hdr) rfl (c_addR G hC hDr hk (by omega) (by omega) hn_k (by omega)) k2_8 k2_9 k2_10 k1_2 k2_11 (by decide +kernel) rfl rfl ⟨Nat.le_of_ble_eq_true rfl, Nat.le_of_ble_eq_true rfl⟩ rfl hl.1 rfl (Nat.le_of_ble_eq_true rfl) dP_repeat_106 ⟨Nat.le_of_ble_eq_true rfl, Nat.le_of_ble_eq_true rfl⟩ (fun en1 H locs he hP hS => ?_)
        obtain ⟨S, rfl, hC, hDr⟩ := he
        refine lv_iinc (k := 0) hx hb dP_repeat_109 hl rfl rfl (by decide) rfl (fun ls hl => ?_)
        have hl : lv_has ls 10 [(9, .int _), (8, .int _), (6, .long _), (5, .ref _), (0, .ref _), (1, .int _), (2, .int _), (3, .int _), (4, .int _)] := hl
        refine lv_goto (tgt := 91) hx hb dP_repeat_112 (by decide) ?_
        have hDr := hDr.to (k' := f1 + (u + 1) * (t1 - f1)) (g' := rep (a_b a k) f1 (t1 - f1) (u + 1)) (by omega) (fun i hi => rfl)
        have hl : lv_has ls 10 [(9, .int (nI (u + 1))), (8, .int (nI T0)), (6, .long (lN (j * (t1 - f1)))), (5, .ref (ad (2 + 2 * pi k))), (0, .ref (ad 0)), (1, .int (nI k)), (2, .int (nI f1)), (3, .int (nI t1)), (4, .int (nI j))] := by rw [← nI_1]; exact hl
        exact ih (t - 1) (u + 1, S) _ _ _ (by omega) ⟨by show u + 1 + (t - 1) = T0; omega, hC, hDr, hl, hP, hS⟩
    · rw [nI_eq (by omega) (by omega)] at hc
      have hT2 : T0 = 0 := by rw [hT0, if_pos hc]
      refine lv_iconst (v := 0) hx hb dP_repeat_62 (by decide) ?_
      refine lv_goto (tgt := 68) hx hb dP_repeat_63 (by decide) ?_
      refine lv_istore hx hb dP_repeat_68 hl (by decide) rfl (fun ls hl => ?_)
      have hl : lv_has ls 10 [(8, .int _), (6, .long _), (5, .ref _), (0, .ref _), (1, .int _), (2, .int _), (3, .int _), (4, .int _)] := hl
      have hl : lv_has ls 10 [(8, .int (nI T0)), (6, .long (lN (j * (t1 - f1)))), (5, .ref (ad (2 + 2 * pi k))), (0, .ref (ad 0)), (1, .int (nI k)), (2, .int (nI f1)), (3, .int (nI t1)), (4, .int (nI j))] := by rw [hT2]; exact hl
      refine lv_aload_n hx hb dP_repeat_70 rfl (lv_at hl 3 rfl) ?_
      refine g_get F hK hP (0) (by decide) rfl rfl iP 3 (by decide) k1_73 rfl dP_repeat_71 ?_
      refine g_V (k := 0) F htw hB hS hP (2 + 2 * dr) (by omega) (en_T _ _ _ _ _ _ _ _ _ _ hdr) rfl (c_clr G hC (fun _ => 0)) k2_4 k2_5 k2_6 k1_2 k2_7 (by decide +kernel) rfl rfl ⟨Nat.le_of_ble_eq_true rfl, Nat.le_of_ble_eq_true rfl⟩ rfl hl.1 rfl (Nat.le_of_ble_eq_true rfl) dP_repeat_74 ⟨Nat.le_of_ble_eq_true rfl, Nat.le_of_ble_eq_true rfl⟩ (fun en1 H locs he hP hS => ?_)
      obtain ⟨S, rfl, hC, hDr⟩ := he
      refine lv_aload_n hx hb dP_repeat_77 rfl (lv_at hl 3 rfl) ?_
      refine g_get F hK hP (0) (by decide) rfl rfl iP 3 (by decide) k1_73 rfl dP_repeat_78 ?_
      refine lv_aload hx hb dP_repeat_81 (lv_at hl 2 rfl) ?_
      refine lv_iconst (v := 0) hx hb dP_repeat_83 (by decide) ?_
      refine lv_iload_n hx hb dP_repeat_84 rfl (lv_at hl 5 rfl) ?_
      rw [show (0 : Int32) = nI 0 from rfl]
      refine g_V (k := 3) F htw hB hS hP (2 + 2 * dr) (by omega) (en_T _ _ _ _ _ _ _ _ _ _ hdr) rfl (c_addR G hC hDr hk (by omega) (by omega) hn_k (by omega)) k2_8 k2_9 k2_10 k1_2 k2_11 (by decide +kernel) rfl rfl ⟨Nat.le_of_ble_eq_true rfl, Nat.le_of_ble_eq_true rfl⟩ rfl hl.1 rfl (Nat.le_of_ble_eq_true rfl) dP_repeat_85 ⟨Nat.le_of_ble_eq_true rfl, Nat.le_of_ble_eq_true rfl⟩ (fun en1 H locs he hP hS => ?_)
      obtain ⟨S, rfl, hC, hDr⟩ := he
      refine lv_iconst (v := 0) hx hb dP_repeat_88 (by decide) ?_
      refine lv_istore hx hb dP_repeat_89 hl (by decide) rfl (fun ls hl => ?_)
      have hl : lv_has ls 10 [(9, .int _), (8, .int _), (6, .long _), (5, .ref _), (0, .ref _), (1, .int _), (2, .int _), (3, .int _), (4, .int _)] := hl
      have hDr := hDr.to (k' := f1 + 0 * (t1 - f1)) (g' := rep (a_b a k) f1 (t1 - f1) 0) (by omega) (fun i hi => by simp [cat, rep])
      refine W.loop (α := Nat × (Nat → Nat → Int32)) (fun t a1 ls H locs => a1.1 + t = T0 ∧ RepC pi dr a1.2 a ∧ RepD dr a1.2 (f1 + a1.1 * (t1 - f1)) (rep (a_b a k) f1 (t1 - f1) a1.1) ∧ lv_has ls 10 [(9, .int (nI a1.1)), (8, .int (nI T0)), (6, .long (lN (j * (t1 - f1)))), (5, .ref (ad (2 + 2 * pi k))), (0, .ref (ad 0)), (1, .int (nI k)), (2, .int (nI f1)), (3, .int (nI t1)), (4, .int (nI j))] ∧ va_P D cl (gw ad (en ad cI cZ cT cJ pi dr a1.2 M o) 25) H ∧ va_S (gA base) s.heap H locs) ?_ (t := T0) (a := (0, S)) ⟨by show 0 + T0 = T0; omega, hC, hDr, hl, hP, hS⟩
      clear hl hP hS
      intro t a1 ls H locs hI ih
      obtain ⟨u, S⟩ := a1
      obtain ⟨i0, i1, i2, hl, hP, hS⟩ := hI
      try dsimp only at i0 i1 i2 hl hP
      by_cases ht : t = 0
      · have hu : T0 = u := by omega
        subst hu
        refine lv_iload hx hb dP_repeat_91 (lv_at hl 0 rfl) ?_
        refine lv_iload hx hb dP_repeat_93 (lv_at hl 1 rfl) ?_
        refine lv_icmp_ge (tgt := 115) hx hb dP_repeat_95 (by decide) (fun _ => ?_) (fun hc => absurd (by rw [nI_leI (by omega) (by omega)]; omega) hc)
        refine lv_aload_n hx hb dP_repeat_115 rfl (lv_at hl 4 rfl) ?_
        refine g_get F hK hP (0) (by decide) rfl rfl iP 3 (by decide) k1_73 rfl dP_repeat_116 ?_
        refine lv_aload hx hb dP_repeat_119 (lv_at hl 3 rfl) ?_
        refine lv_iload_n hx hb dP_repeat_121 rfl (lv_at hl 7 rfl) ?_
        refine lv_aload hx hb dP_repeat_122 (lv_at hl 3 rfl) ?_
        refine g_get F hK hP (2 + 2 * pi k) (by omega) (en_T _ _ _ _ _ _ _ _ _ _ hp_k) rfl iT 1 (by decide) k1_34 rfl dP_repeat_124 ?_
        have hC := i1
        have hDr := i2
        rw [hC.2.2.2.1 k hk]
        refine g_V (k := 3) F htw hB hS hP (2 + 2 * dr) (by omega) (en_T _ _ _ _ _ _ _ _ _ _ hdr) rfl (c_addR G hC hDr hk (by omega) (by omega) hn_k (by omega)) k2_8 k2_9 k2_10 k1_2 k2_11 (by decide +kernel) rfl rfl ⟨Nat.le_of_ble_eq_true rfl, Nat.le_of_ble_eq_true rfl⟩ rfl hl.1 rfl (Nat.le_of_ble_eq_true rfl) dP_repeat_127 ⟨Nat.le_of_ble_eq_true rfl, Nat.le_of_ble_eq_true rfl⟩ (fun en1 H locs he hP hS => ?_)
        obtain ⟨S, rfl, hC, hDr⟩ := he
        refine lv_aload_n hx hb dP_repeat_130 rfl (lv_at hl 4 rfl) ?_
        refine lv_iload_n hx hb dP_repeat_131 rfl (lv_at hl 5 rfl) ?_
        refine g_V (k := 1) F htw hB hS hP (0) (by decide) rfl rfl (c_swap G hC hDr hk) k2_15 k2_17 k0_2 k1_1 k2_18 (by decide +kernel) rfl rfl ⟨Nat.le_of_ble_eq_true rfl, Nat.le_of_ble_eq_true rfl⟩ rfl hl.1 rfl (Nat.le_of_ble_eq_true rfl) dP_repeat_132 ⟨Nat.le_of_ble_eq_true rfl, Nat.le_of_ble_eq_true rfl⟩ (fun en1 H locs he hP hS => ?_)
        obtain ⟨pi1, dr1, S, rfl, hC⟩ := he
        have hC := hC.to (k' := a_n a k - (t1 - f1) + j * (t1 - f1)) (g' := cat (rep (a_b a k) f1 (t1 - f1) (if nI f1 = nI t1 then 0 else j)) (f1 + j * (t1 - f1)) (fun i => a_b a k (t1 + i))) (by omega) (fun i hi => by rw [hTw]; congr 2; rw [hT0]; simp only [nI_eq (show f1 < 2 ^ 31 by omega) (show t1 < 2 ^ 31 by omega)])
        rw [hTw, show f1 + j * (t1 - f1) + (a_n a k - t1) = a_n a k - (t1 - f1) + j * (t1 - f1) by omega]
        refine W.widen (k := 1) (n := 6) (by decide) (by decide) ?_
        exact W.toX (W.iret hx hb hr (fun t ht hW => Or.inl ⟨hk1, ⟨by simp [dk_nI hk, ix_nI (show k < 2 ^ 31 by omega), nn_nI hj, ix_nI hj, rg_nI hft htn hn_k, ix_nI (show f1 < 2 ^ 31 by omega), ix_nI (show t1 < 2 ^ 31 by omega), hg], ⟨_, ⟨_, _, _, rfl, by simpa [x_repeat, dk_nI hk, ix_nI (show k < 2 ^ 31 by omega), nn_nI hj, ix_nI hj, rg_nI hft htn hn_k, ix_nI (show f1 < 2 ^ 31 by omega), ix_nI (show t1 < 2 ^ 31 by omega), hg] using hC⟩, by rw [ht]; exact hP⟩, hS.F ht⟩⟩) hS.2.2 dP_repeat_135)
      · refine lv_iload hx hb dP_repeat_91 (lv_at hl 0 rfl) ?_
        refine lv_iload hx hb dP_repeat_93 (lv_at hl 1 rfl) ?_
        refine lv_icmp_ge (tgt := 115) hx hb dP_repeat_95 (by decide) (fun hc => absurd hc (by rw [nI_leI (by omega) (by omega)]; omega)) (fun _ => ?_)
        refine lv_aload_n hx hb dP_repeat_98 rfl (lv_at hl 4 rfl) ?_
        refine g_get F hK hP (0) (by decide) rfl rfl iP 3 (by decide) k1_73 rfl dP_repeat_99 ?_
        refine lv_aload hx hb dP_repeat_102 (lv_at hl 3 rfl) ?_
        refine lv_iload_n hx hb dP_repeat_104 rfl (lv_at hl 6 rfl) ?_
        refine lv_iload_n hx hb dP_repeat_105 rfl (lv_at hl 7 rfl) ?_
        have hC := i1
        have hDr := i2
        have hm1 : (u + 1) * (t1 - f1) ≤ T0 * (t1 - f1) := Nat.mul_le_mul (by omega) (Nat.le_refl _)
        have hm2 : (u + 1) * (t1 - f1) = u * (t1 - f1) + (t1 - f1) := Nat.succ_mul _ _
        refine g_V (k := 3) F htw hB hS hP (2 + 2 * dr) (by omega) (en_T _ _ _ _ _ _ _ _ _ _ hdr) rfl (c_addR G hC hDr hk (by omega) (by omega) hn_k (by omega)) k2_8 k2_9 k2_10 k1_2 k2_11 (by decide +kernel) rfl rfl ⟨Nat.le_of_ble_eq_true rfl, Nat.le_of_ble_eq_true rfl⟩ rfl hl.1 rfl (Nat.le_of_ble_eq_true rfl) dP_repeat_106 ⟨Nat.le_of_ble_eq_true rfl, Nat.le_of_ble_eq_true rfl⟩ (fun en1 H locs he hP hS => ?_)
        obtain ⟨S, rfl, hC, hDr⟩ := he
        refine lv_iinc (k := 0) hx hb dP_repeat_109 hl rfl rfl (by decide) rfl (fun ls hl => ?_)
        have hl : lv_has ls 10 [(9, .int _), (8, .int _), (6, .long _), (5, .ref _), (0, .ref _), (1, .int _), (2, .int _), (3, .int _), (4, .int _)] := hl
        refine lv_goto (tgt := 91) hx hb dP_repeat_112 (by decide) ?_
        have hDr := hDr.to (k' := f1 + (u + 1) * (t1 - f1)) (g' := rep (a_b a k) f1 (t1 - f1) (u + 1)) (by omega) (fun i hi => rfl)
        have hl : lv_has ls 10 [(9, .int (nI (u + 1))), (8, .int (nI T0)), (6, .long (lN (j * (t1 - f1)))), (5, .ref (ad (2 + 2 * pi k))), (0, .ref (ad 0)), (1, .int (nI k)), (2, .int (nI f1)), (3, .int (nI t1)), (4, .int (nI j))] := by rw [← nI_1]; exact hl
        exact ih (t - 1) (u + 1, S) _ _ _ (by omega) ⟨by show u + 1 + (t - 1) = T0; omega, hC, hDr, hl, hP, hS⟩
  · have hk1 : (c_repeat a (nI k) (nI f1) (nI t1) (nI j)) = 3 := by simp [c_repeat, hg, dk_nI hk, ix_nI (show k < 2 ^ 31 by omega), nn_nI hj, ix_nI hj, rg_nI hft htn hn_k, ix_nI (show f1 < 2 ^ 31 by omega), ix_nI (show t1 < 2 ^ 31 by omega)]
    exact g_STh (k := 1) F hlocks hno htw hB hS hP (c_P_requireRoom_th hst (by omega)) k1_172 k1_173 k1_1 k1_174 (by decide +kernel) rfl rfl ⟨Nat.le_of_ble_eq_true rfl, Nat.le_of_ble_eq_true rfl⟩ rfl hl.1 rfl (Nat.le_of_ble_eq_true rfl) dP_repeat_54 ⟨Nat.le_of_ble_eq_true rfl, Nat.le_of_ble_eq_true rfl⟩ (by rw [hk1]; decide) (by rw [hk1]; rfl)
end M7
