/-! THE CLAIM OUT OF ONE WALK OF THE LAW'S BODY. Your part is whole_start (and what it stands on); all else here is the same for every law, but numbers. -/
def R_law : String := "PairedTextsLaw"
def lw_P (b : Addr) (xs : List Int32) (args : Array Value) (s : State) : Prop := args = #[.ref b] ∧ s.IntsAt b xs ∧ xs.length ≤ 3072 ∧ (Jvm.Cond.and given_1 narrow_1).before args s = true
def lw_Q (_ : Array Value) (s : State) (o : Outcome) (t : State) : Prop := o = .returned (some (.int 1)) ∧ Framed s o t [] 601024 7293034
def lw_Z (below : List Frame) (a : Array Value) (s : State) : State → Prop := fun t => ∃ o, t.status = .running ∧ Ended t below o ∧ lw_Q a s o t
/-- the law's own end, with 1 on the stack, nothing written that was there before, its room as the claim has it -/
theorem lw_ret {p : Program} {l : Launch} {e : Env} {s : State} {m : MethodId} {below : List Frame} {meth : Method} {c : Code} {b : Nat} (hx : p.tables.exec = Jvm.exec) (hb : c.code = code) (hr : meth.sig.returnType = ret) (hlocks : meth.locks = false) {pc : Nat} {H : Heap} {ls : Array Slot} (hdg : decode code pc = .ok (.ireturn, 1)) : W p l e room_1 s m #[Value.ref b] below meth c H [] 601024 7293034 (lw_Z below #[Value.ref b] s) (F0 m pc ls [.int 1]) := by
  intro T hT X
  obtain ⟨fs, hret, hrun, hended, hW, hframe⟩ := X.leave (v := some (.int 1)) (hlocks := hlocks) (fun h => by rw [hr] at h; cases h)
  have hmeth' : T.vm.method? m = some meth := X.method'
  refine ⟨T.setFrames fs, ?_, .returned (some (.int 1)), hrun, hended, rfl, ⟨_, rfl⟩, hW, hframe⟩
  jvm_step X.here [X.here.top, hx, hb, hdg, hmeth', hr, ret, narrow_b1]
  (try refine ⟨rfl, ?_⟩); (try refine ⟨rfl, ?_⟩)
  first | (intro acts; rw [hret _ acts rfl rfl rfl]) | rw [hret _ _ rfl rfl rfl]
  exact Steps.refl _
/-- what holds at the law's entry: the machine, the code, the tables' words (any of lw_tbl by 'hts w (by decide +kernel)'), the script of L ints xs at the cell b, what the Statement gives of the start (any of its parts by flat_of_before) -/
def lw_At (p : Program) (s : State) (m : MethodId) (meth : Method) (c : Code) (b L : Nat) (xs : Nat → Int32) : Prop :=
  p.tables.exec = Jvm.exec ∧ c.code = code ∧ meth.sig.returnType = ret ∧ c.maxLocals = 8 ∧ s.vm.findClass R_law = some m.cls ∧ (∀ w ∈ lw_tbl, w.before #[Value.ref b] s = true) ∧ va_X b L xs s s.heap ∧ b < s.heap.size ∧ meth.locks = false ∧ (Jvm.Cond.and given_1 narrow_1).before #[Value.ref b] s = true
def a0 : Ab := (fun _ => 0, fun _ _ => 0, 0, fun _ => 0, fun _ => 0, fun _ => 0)
theorem aok0 : aok a0 := ⟨fun _ => Nat.zero_le _, fun _ _ => by show 0 < 256; decide, Nat.zero_le _, fun _ => by show 0 < 256; decide, fun _ => by show 0 < 8; decide, fun _ => by show 0 < 2; decide⟩
theorem RepC0 : RepC (fun d => d) 4 (fun _ _ => 0) a0 := ⟨fun d hd => ⟨by show d < 5; omega, by show d ≠ 4; omega⟩, by decide, fun d e _ _ h => h, fun _ _ => rfl, fun _ _ _ _ => rfl, rfl, fun _ _ => rfl, fun _ _ => rfl, fun _ _ => rfl⟩
theorem RepM0 : RepM (fun _ _ => 0) a0 := ⟨fun _ _ => rfl, fun _ _ _ _ => rfl, rfl, fun _ _ => rfl, fun _ _ => rfl, fun _ _ => rfl⟩
set_option maxHeartbeats 4000000 in
set_option maxRecDepth 100000 in
theorem law_loop {p : Program} {l : Launch} {e : Env} {s : State} {m : MethodId} {below : List Frame} {meth : Method} {c : Code} {D : va_G} {cI cZ cT cJ : ClassId} {b L : Nat} {xs : Nat → Int32} {ad : Nat → Nat} {ls : Array Slot} {H : Heap} {locs : List Loc} (hst : l.stackTraces = false) (hr : meth.sig.returnType = ret) (hlocks : meth.locks = false) (F : CallFix p m c code 8 s #[Value.ref b] tws "PairedTextsLaw") (htw : tw D cI cZ cT cJ s.heap.size s) (G : gGeo ad 25 s.heap.size) (hX : va_X b L xs s s.heap) (hbl : b < s.heap.size) (hL : L ≤ 3072) (hl : lv_has ls 8 [(4, .int (nI (6 * 0))), (3, .ref (ad 24)), (2, .ref (ad 17)), (1, .ref (ad 0)), (0, .ref b)]) (hP : va_P D cl (gw ad (en ad cI cZ cT cJ (fun d => d) 4 (fun _ _ => 0) (fun _ _ => 0) (fun _ => 0)) 25) H) (hS : va_S (gA s.heap.size) s.heap H locs) : W p l e room_1 s m #[Value.ref b] below meth c H locs (601024 - 512) (7293034 - 6 * 512) (lw_Z below #[Value.ref b] s) (F0 m 23 ls []) := by
  have hx := F.1
  have hb := F.2.1
  have hbA : ¬ gA s.heap.size b := fun h => absurd hbl (Nat.not_lt.mpr h)
  refine W.loopC (fun t => 601024 - t) (fun t => 7293034 - 6 * t) (α := Nat × (Nat → Nat) × Nat × (Nat → Nat → Int32) × (Nat → Nat → Int32) × (Nat → Int64) × Ab) (fun t z ls H locs => z.1 + t = 512 ∧ aok z.2.2.2.2.2.2 ∧ RepC z.2.1 z.2.2.1 z.2.2.2.1 z.2.2.2.2.2.2 ∧ RepM z.2.2.2.2.1 z.2.2.2.2.2.2 ∧ lv_has ls 8 [(4, .int (nI (6 * z.1))), (3, .ref (ad 24)), (2, .ref (ad 17)), (1, .ref (ad 0)), (0, .ref b)] ∧ va_P D cl (gw ad (en ad cI cZ cT cJ z.2.1 z.2.2.1 z.2.2.2.1 z.2.2.2.2.1 z.2.2.2.2.2.1) 25) H ∧ va_S (gA s.heap.size) s.heap H locs) ?_ (t := 512) (a := (0, (fun d => d), 4, (fun _ _ => 0), (fun _ _ => 0), (fun _ => 0), a0)) ⟨rfl, aok0, RepC0, RepM0, hl, hP, hS⟩
  clear hl hP hS
  intro t z ls H locs hI ih
  obtain ⟨u, pi, dr, S, M, o, a⟩ := z
  obtain ⟨i0, hA, hC, hR, hl, hP, hS⟩ := hI
  dsimp only at i0 hA hC hR hl hP ih ⊢
  have kk : 1 ≤ t → ∀ (pi : Nat → Nat) (dr : Nat) (S M : Nat → Nat → Int32) (o : Nat → Int64) (a : Ab) (ls : Array Slot) (H : Heap) (locs : List Loc), aok a → RepC pi dr S a → RepM M a → lv_has ls 8 [(4, .int (nI (6 * u))), (3, .ref (ad 24)), (2, .ref (ad 17)), (1, .ref (ad 0)), (0, .ref b)] → va_P D cl (gw ad (en ad cI cZ cT cJ pi dr S M o) 25) H → va_S (gA s.heap.size) s.heap H locs → W p l e room_1 s m #[Value.ref b] below meth c H locs (601024 - t + 1) (7293034 - 6 * t + 6) (lw_Z below #[Value.ref b] s) (F0 m 1890 ls []) := by
    intro ht pi dr S M o a ls H locs hA hC hR hl hP hS
    refine lv_iinc (k := 0) hx hb dL_law_1890 hl rfl rfl (by decide) rfl (fun ls hl => ?_)
    have hl : lv_has ls 8 [(4, .int _), (3, .ref _), (2, .ref _), (1, .ref _), (0, .ref _)] := hl
    refine lv_goto (tgt := 23) hx hb dL_law_1893 (by decide) ?_
    have hl : lv_has ls 8 [(4, .int (nI (6 * (u + 1)))), (3, .ref (ad 24)), (2, .ref (ad 17)), (1, .ref (ad 0)), (0, .ref b)] := by rw [show nI (6 * (u + 1)) = nI (6 * u) + Int32.ofInt 6 from (nI_add .. : nI (6 * u) + nI 6 = nI (6 * u + 6)).symm]; exact hl
    refine W.widen (k := 601024 - (t - 1)) (n := 7293034 - 6 * (t - 1)) (by omega) (by omega) ?_
    exact ih (t - 1) (u + 1, pi, dr, S, M, o, a) _ _ _ (by omega) ⟨by show u + 1 + (t - 1) = 512; omega, hA, hC, hR, hl, hP, hS⟩
  refine lv_iload hx hb dL_law_23 (lv_at hl 0 rfl) ?_
  refine lv_aload_n hx hb dL_law_25 rfl (lv_at hl 4 rfl) ?_
  refine va_slen hx hb hX hbl hbA hS dL_law_26 ?_
  rw [show Int32.ofNat L = nI L from rfl]
  refine lv_bipush (v := 6) hx hb dL_law_27 (by decide) ?_
  refine lv_isub hx hb dL_law_29 ?_
  have y1 : (nI L - 6).toInt = (L : Int) - 6 := pk_sub_toInt (b := 6) (by omega) (by decide)
  have y2 := nI_toInt (show 6 * u < 2 ^ 31 by omega)
  refine lv_icmp_gt (tgt := 1896) hx hb dL_law_30 (by decide) (fun hc => ?_) (fun hc => ?_)
  · refine W.widen (k := 601024) (n := 7293034) (by omega) (by omega) ?_
    refine lv_iconst (v := 1) hx hb dL_law_1896 (by decide) ?_
    exact va_forget hS.2.2 (lw_ret hx hb hr hlocks dL_law_1897)
  · simp only [Int32.lt_iff_toInt_lt, Int32.le_iff_toInt_le] at hc
    have hu : 6 * u + 6 ≤ L := by omega
    have ht : 1 ≤ t := by omega
    have kk := kk ht
    refine lv_aload_n hx hb dL_law_33 rfl (lv_at hl 4 rfl) ?_
    refine lv_iload hx hb dL_law_34 (lv_at hl 0 rfl) ?_
    refine va_sld hx hb hX hbl hbA hS (vp_in_nI (show 6 * u < L by omega) (by omega)) dL_law_36 ?_
    rw [nI_clamp (show 6 * u < 2 ^ 31 by omega)]
    refine lv_bipush (v := 31) hx hb dL_law_37 (by decide) ?_
    refine lv_iand hx hb dL_law_39 ?_
    obtain ⟨v, hv, ev⟩ := pk_andE (xs (6 * u)) (m := 31) 5 (by decide)
    rw [ev]
    by_cases h20 : v < 20
    · rcases (show v = 0 ∨ v = 1 ∨ v = 2 ∨ v = 3 ∨ v = 4 ∨ v = 5 ∨ v = 6 ∨ v = 7 ∨ v = 8 ∨ v = 9 ∨ v = 10 ∨ v = 11 ∨ v = 12 ∨ v = 13 ∨ v = 14 ∨ v = 15 ∨ v = 16 ∨ v = 17 ∨ v = 18 ∨ v = 19 by omega) with rfl | rfl | rfl | rfl | rfl | rfl | rfl | rfl | rfl | rfl | rfl | rfl | rfl | rfl | rfl | rfl | rfl | rfl | rfl | rfl
      · refine lv_tableIn (tgt := 136) hx hb dL_law_40 (by decide) (by decide) (off := 96) (by decide) (by decide) ?_
        exact law_write hst F htw (Nat.le_refl _) G hX hbl hbA hL hu hA hC hR hl hP hS (by omega) (by omega) kk
      · refine lv_tableIn (tgt := 248) hx hb dL_law_40 (by decide) (by decide) (off := 208) (by decide) (by decide) ?_
        exact law_length hst F htw (Nat.le_refl _) G hX hbl hbA hL hu hA hC hR hl hP hS (by omega) (by omega) kk
      · refine lv_tableIn (tgt := 304) hx hb dL_law_40 (by decide) (by decide) (off := 264) (by decide) (by decide) ?_
        exact law_byteAt hst F htw (Nat.le_refl _) G hX hbl hbA hL hu hA hC hR hl hP hS (by omega) (by omega) kk
      · refine lv_tableIn (tgt := 372) hx hb dL_law_40 (by decide) (by decide) (off := 332) (by decide) (by decide) ?_
        exact law_copy hst F htw (Nat.le_refl _) G hX hbl hbA hL hu hA hC hR hl hP hS (by omega) (by omega) kk
      · refine lv_tableIn (tgt := 464) hx hb dL_law_40 (by decide) (by decide) (off := 424) (by decide) (by decide) ?_
        exact law_join hst F htw (Nat.le_refl _) G hX hbl hbA hL hu hA hC hR hl hP hS (by omega) (by omega) kk
      · refine lv_tableIn (tgt := 544) hx hb dL_law_40 (by decide) (by decide) (off := 504) (by decide) (by decide) ?_
        exact law_insert hst F htw (Nat.le_refl _) G hX hbl hbA hL hu hA hC hR hl hP hS (by omega) (by omega) kk
      · refine lv_tableIn (tgt := 648) hx hb dL_law_40 (by decide) (by decide) (off := 608) (by decide) (by decide) ?_
        exact law_delete hst F htw (Nat.le_refl _) G hX hbl hbA hL hu hA hC hR hl hP hS (by omega) (by omega) kk
      · refine lv_tableIn (tgt := 728) hx hb dL_law_40 (by decide) (by decide) (off := 688) (by decide) (by decide) ?_
        exact law_move hst F htw (Nat.le_refl _) G hX hbl hbA hL hu hA hC hR hl hP hS (by omega) (by omega) kk
      · refine lv_tableIn (tgt := 820) hx hb dL_law_40 (by decide) (by decide) (off := 780) (by decide) (by decide) ?_
        exact law_repeat hst F htw (Nat.le_refl _) G hX hbl hbA hL hu hA hC hR hl hP hS (by omega) (by omega) kk
      · refine lv_tableIn (tgt := 912) hx hb dL_law_40 (by decide) (by decide) (off := 872) (by decide) (by decide) ?_
        exact law_same hst F htw (Nat.le_refl _) G hX hbl hbA hL hu hA hC hR hl hP hS (by omega) (by omega) kk
      · refine lv_tableIn (tgt := 1023) hx hb dL_law_40 (by decide) (by decide) (off := 983) (by decide) (by decide) ?_
        exact law_prefix hst F htw (Nat.le_refl _) G hX hbl hbA hL hu hA hC hR hl hP hS (by omega) (by omega) kk
      · refine lv_tableIn (tgt := 1115) hx hb dL_law_40 (by decide) (by decide) (off := 1075) (by decide) (by decide) ?_
        exact law_order hst F htw (Nat.le_refl _) G hX hbl hbA hL hu hA hC hR hl hP hS (by omega) (by omega) kk
      · refine lv_tableIn (tgt := 1207) hx hb dL_law_40 (by decide) (by decide) (off := 1167) (by decide) (by decide) ?_
        exact law_name hst F htw (Nat.le_refl _) G hX hbl hbA hL hu hA hC hR hl hP hS (by omega) (by omega) kk
      · refine lv_tableIn (tgt := 1286) hx hb dL_law_40 (by decide) (by decide) (off := 1246) (by decide) (by decide) ?_
        exact law_pattern hst F htw (Nat.le_refl _) G hX hbl hbA hL hu hA hC hR hl hP hS (by omega) (by omega) kk
      · refine lv_tableIn (tgt := 1410) hx hb dL_law_40 (by decide) (by decide) (off := 1370) (by decide) (by decide) ?_
        exact law_count hst F htw (Nat.le_refl _) G hX hbl hbA hL hu hA hC hR hl hP hS (by omega) (by omega) kk
      · refine lv_tableIn (tgt := 1490) hx hb dL_law_40 (by decide) (by decide) (off := 1450) (by decide) (by decide) ?_
        exact law_find hst F htw (Nat.le_refl _) G hX hbl hbA hL hu hA hC hR hl hP hS (by omega) (by omega) kk
      · refine lv_tableIn (tgt := 1570) hx hb dL_law_40 (by decide) (by decide) (off := 1530) (by decide) (by decide) ?_
        exact law_lead hst F htw (Nat.le_refl _) G hX hbl hbA hL hu hA hC hR hl hP hS (by omega) (by omega) kk
      · refine lv_tableIn (tgt := 1642) hx hb dL_law_40 (by decide) (by decide) (off := 1602) (by decide) (by decide) ?_
        exact law_accept hst F htw (Nat.le_refl _) G hX hbl hbA hL hu hA hC hR hl hP hS (by omega) (by omega) kk
      · refine lv_tableIn (tgt := 1706) hx hb dL_law_40 (by decide) (by decide) (off := 1666) (by decide) (by decide) ?_
        exact law_run hst F htw (Nat.le_refl _) G hX hbl hbA hL hu hA hC hR hl hP hS (by omega) (by omega) kk
      · refine lv_tableIn (tgt := 1798) hx hb dL_law_40 (by decide) (by decide) (off := 1758) (by decide) (by decide) ?_
        exact law_accepted hst F htw (Nat.le_refl _) G hX hbl hbA hL hu hA hC hR hl hP hS (by omega) (by omega) kk
    · refine lv_tableOut (tgt := 1890) hx hb dL_law_40 (Or.inr (by have := nI_toInt (show v < 2 ^ 31 by omega); omega)) (by decide) ?_
      exact W.widen (Nat.le_succ _) (Nat.le_add_right _ 6) (kk _ _ _ _ _ _ _ _ _ hA hC hR hl hP hS)
set_option maxHeartbeats 4000000 in
set_option maxRecDepth 100000 in
theorem whole_start {p : Program} {e : Env} {s : State} {m : MethodId} {below : List Frame} {meth : Method} {c : Code} (l : Launch) (hst : l.stackTraces = false) {b L : Nat} {xs : Nat → Int32} (hL : L ≤ 3072) (C0 : lw_At p s m meth c b L xs) : W p l e room_1 s m #[Value.ref b] below meth c s.heap [] 0 0 (lw_Z below #[Value.ref b] s) (entryFrame m ([Value.ref b] : List Value).toArray 8) := by
  obtain ⟨hx, hb, hr, hml, hown0, hts0, hX, hbl, hlocks, hgv⟩ := C0
  obtain ⟨D, cI, cZ, cT, cJ, htw⟩ := tw_start hts0 hgv
  have hts : ∀ w ∈ tws, w.before #[Value.ref b] s = true := fun w h => hts0 w (List.mem_filter.mp h).1
  have hown : s.vm.findClass "PairedTextsLaw" = some m.cls := hown0
  have F : CallFix p m c code 8 s #[Value.ref b] tws "PairedTextsLaw" := ⟨hx, hb, hml, hown, hts⟩
  have hK := htw.1
  have hB : s.heap.size ≤ s.heap.size := Nat.le_refl _
  have hS : va_S (gA s.heap.size) s.heap s.heap [] := va_S.rf
  have G : gGeo (fun _ => 0) 0 s.heap.size := ⟨fun i j hi => absurd hi (Nat.not_lt_zero _), fun i hi => absurd hi (Nat.not_lt_zero _)⟩
  have hP : va_P D cl (gw (fun _ => 0) (fun _ => .inr (0, [])) 0) s.heap := fun k q hk => by rw [gw_none (Nat.not_lt_zero _)] at hk; cases hk
  have hl := lv_entry ([Value.ref b]) (n := 8) (Nat.le_of_ble_eq_true rfl)
  rw [lg_entry_eq]
  generalize (lg_sl ([Value.ref b]) ++ List.replicate (8 - (lg_sl ([Value.ref b])).length) Slot.unset).toArray = ls at hl ⊢
  have hl : lv_has ls 8 [(0, .ref b)] := hl
  refine g_new (ci := 0) (fs := [.null, .null, .null, .null]) F hK G hP hS hB rfl iP tP tP_ok k1_15 k1_16 k1_1 (fun j hj => by rcases (show j = 0 ∨ j = 1 ∨ j = 2 ∨ j = 3 by omega) with rfl | rfl | rfl | rfl <;> rfl) (Nat.le_of_ble_eq_true rfl) (Nat.le_of_ble_eq_true rfl) dL_law_0 (fun q0 H G hP hS => ?_)
  refine lv_dup hx hb dL_law_3 rfl ?_
  refine g_I F htw hB hS hP (c_P_init G rfl) k1_17 k1_18 k1_1 k1_19 rfl (by decide +kernel) rfl rfl ⟨Nat.le_of_ble_eq_true rfl, Nat.le_of_ble_eq_true rfl⟩ hl.1 (Nat.le_of_ble_eq_true rfl) dL_law_4 ⟨Nat.le_of_ble_eq_true rfl, Nat.le_of_ble_eq_true rfl⟩ (fun H locs hQ hS => ?_)
  obtain ⟨q1, q2, q3, q4, q5, q6, q7, q8, q9, q10, q11, q12, q13, q14, q15, q16, G, hP⟩ := hQ
  refine lv_astore_n hx hb dL_law_7 rfl hl (by decide) rfl (fun ls hl => ?_)
  have hl : lv_has ls 8 [(1, .ref _), (0, .ref _)] := hl
  refine g_new (ci := 4) (fs := [.int 0, .null, .null, .null, .int 0, .int 0, .null, .null, .null, .int 0, .int 0]) F hK G hP hS hB rfl iM tM tM_ok k2_190 k2_191 k1_5 (fun j hj => by rcases (show j = 0 ∨ j = 1 ∨ j = 2 ∨ j = 3 ∨ j = 4 ∨ j = 5 ∨ j = 6 ∨ j = 7 ∨ j = 8 ∨ j = 9 ∨ j = 10 by omega) with rfl | rfl | rfl | rfl | rfl | rfl | rfl | rfl | rfl | rfl | rfl <;> rfl) (Nat.le_of_ble_eq_true rfl) (Nat.le_of_ble_eq_true rfl) dL_law_8 (fun q17 H G hP hS => ?_)
  refine lv_dup hx hb dL_law_11 rfl ?_
  refine g_I F htw hB hS hP (c_M_init G rfl) k2_192 k2_193 k1_5 k2_194 rfl (by decide +kernel) rfl rfl ⟨Nat.le_of_ble_eq_true rfl, Nat.le_of_ble_eq_true rfl⟩ hl.1 (Nat.le_of_ble_eq_true rfl) dL_law_12 ⟨Nat.le_of_ble_eq_true rfl, Nat.le_of_ble_eq_true rfl⟩ (fun H locs hQ hS => ?_)
  obtain ⟨q18, q19, q20, q21, q22, q23, G, hP⟩ := hQ
  refine lv_astore_n hx hb dL_law_15 rfl hl (by decide) rfl (fun ls hl => ?_)
  have hl : lv_has ls 8 [(2, .ref _), (1, .ref _), (0, .ref _)] := hl
  refine lv_iconst (v := 1) hx hb dL_law_16 (by decide) ?_
  refine g_newa (atype := .long) (N' := 1) (a0 := (1, .inr (.inl (fun _ => 0)))) (cA := cJ) F hK G hP hS hB k3_121 (ty := .long) rfl (fun B h => by cases h) 3 rfl (fun cA => rfl) (by decide) (by decide) (by decide) (Nat.le_of_ble_eq_true rfl) (Nat.le_of_ble_eq_true rfl) dL_law_17 (fun q24 H G hP hS => ?_)
  refine lv_astore_n hx hb dL_law_19 rfl hl (by decide) rfl (fun ls hl => ?_)
  have hl : lv_has ls 8 [(3, .ref _), (2, .ref _), (1, .ref _), (0, .ref _)] := hl
  refine lv_iconst (v := 0) hx hb dL_law_20 (by decide) ?_
  refine lv_istore hx hb dL_law_21 hl (by decide) rfl (fun ls hl => ?_)
  have hl : lv_has ls 8 [(4, .int _), (3, .ref _), (2, .ref _), (1, .ref _), (0, .ref _)] := hl
  have hP := P_q (i := 1) (g := fun d => some ((va_up (va_up (va_up (va_up (va_up (va_up (va_up (va_up (va_up (va_up (va_up (va_up (va_up (va_up (va_up (va_up (va_up (va_up (va_up (va_up (va_up (va_up (va_up (va_up (va_up (fun _ => 0) 0 q0) 1 q1) 2 q2) 3 q3) 4 q4) 5 q5) 6 q6) 7 q7) 8 q8) 9 q9) 10 q10) 11 q11) 12 q12) 13 q13) 14 q14) 15 q15) 16 q16) 17 q17) 18 q18) 19 q19) 20 q20) 21 q21) 22 q22) 23 q23) 24 q24) (2 + 2 * d))) hP rfl (by decide) (fun j hj => by rcases (show j = 0 ∨ j = 1 ∨ j = 2 ∨ j = 3 by omega) with rfl | rfl | rfl | rfl <;> rfl)
  have hP := P_of (e2 := en (va_up (va_up (va_up (va_up (va_up (va_up (va_up (va_up (va_up (va_up (va_up (va_up (va_up (va_up (va_up (va_up (va_up (va_up (va_up (va_up (va_up (va_up (va_up (va_up (va_up (fun _ => 0) 0 q0) 1 q1) 2 q2) 3 q3) 4 q4) 5 q5) 6 q6) 7 q7) 8 q8) 9 q9) 10 q10) 11 q11) 12 q12) 13 q13) 14 q14) 15 q15) 16 q16) 17 q17) 18 q18) 19 q19) 20 q20) 21 q21) 22 q22) 23 q23) 24 q24) cI cZ cT cJ (fun d => d) 4 (fun _ _ => 0) (fun _ _ => 0) (fun _ => 0)) hP (all25 rfl rfl rfl rfl rfl rfl rfl rfl rfl rfl rfl rfl rfl rfl rfl rfl rfl rfl rfl rfl rfl rfl rfl rfl rfl)
  obtain ⟨ad, G, hP, hl⟩ : ∃ ad : Nat → Nat, gGeo ad 25 s.heap.size ∧ va_P D cl (gw ad (en ad cI cZ cT cJ (fun d => d) 4 (fun _ _ => 0) (fun _ _ => 0) (fun _ => 0)) 25) _ ∧ lv_has ls 8 [(4, .int (nI (6 * 0))), (3, .ref (ad 24)), (2, .ref (ad 17)), (1, .ref (ad 0)), (0, .ref b)] := ⟨_, G, hP, hl⟩
  refine W.widen (k := 601024 - 512) (n := 7293034 - 6 * 512) (Nat.le_of_ble_eq_true rfl) (Nat.le_of_ble_eq_true rfl) ?_
  exact law_loop hst hr hlocks F htw G hX hbl hL hl hP hS
set_option maxHeartbeats 4000000 in
theorem lw_walk (l : Launch) (hst : l.stackTraces = false) (b : Addr) (xs : List Int32) : MetFree l x (headSpec (Jvm.Cond.code x code maxLocals ret :: tables_1) room_1) (lw_P b xs) (fun _ _ _ _ _ => True) lw_Q := by
  refine MetFree.of_bodyS (code := code) (maxLocals := maxLocals) (ret := ret) (by decide) ?_ ?_
  · intro args s m h hn
    obtain ⟨meth, c, h1, h2, h3, h4, h5, h6, -, -⟩ := Cond.code_spec hn (atoms_spec (ws := Jvm.Cond.code x code maxLocals ret :: tables_1) h _ List.mem_cons_self)
    exact ⟨meth, c, h1, h2, h3, h4, h5, h6⟩
  · intro p e s m args below meth c s₁ B hml0 hP _
    obtain ⟨rfl, hx, hbd, hgv⟩ := hP
    obtain ⟨scr, harrAt, hlist, hof, hsmall⟩ := hx
    obtain ⟨hcb, hkn, -, -⟩ := State.arrayAt?_spec harrAt
    have hown : s.vm.findClass R_law = some m.cls := findClass_of_methodNamed B.named
    have hts0 : ∀ c ∈ (Jvm.Cond.code x code maxLocals ret :: tables_1), c.before #[Value.ref b] s = true := atoms_spec (ws := Jvm.Cond.code x code maxLocals ret :: tables_1) B.pre
    have hts : ∀ w ∈ lw_tbl, w.before #[Value.ref b] s = true := k2_hts_sels lw_privs (fun w hw => hts0 w (List.mem_cons_of_mem _ hw)) lw_privs_ok
    have hml : c.maxLocals = 8 := B.maxLocals_eq (hts0 _ List.mem_cons_self)
    have X₀ : Stand p l e room_1 s m #[Value.ref b] below meth c s₁ [] 0 0 := Stand.of_body B
    have hh0 : s₁.heap = s.heap := by rw [B.state]; rfl
    have hsz : scr.slots.size = xs.length := by rw [← Array.length_toList, hlist, List.length_map]
    have hval : ∀ j : Nat, j < xs.length → scr.slots[j]? = some (.int (xs.getD j 0)) := fun j hj => by
      rw [← Array.getElem?_toList, hlist]
      simp [hj]
    have hbl : b < s.heap.size := (Array.getElem?_eq_some_iff.mp hcb).1
    have hX : va_X b xs.length (fun j => xs.getD j 0) s s.heap := ⟨scr, hcb, hof, hkn, hsz, hval⟩
    have K : W p l e room_1 s m #[Value.ref b] below meth c s₁.heap [] 0 0 (lw_Z below #[Value.ref b] s) (entryFrame m ([Value.ref b] : List Value).toArray 8) := by
      rw [hh0]
      exact whole_start l hst hbd ⟨B.exec, B.bytes, B.returns, hml, hown, hts, hX, hbl, B.notSynchronized, hgv⟩
    obtain ⟨t, a1, o, b1, b2, b3⟩ := K s₁ rfl X₀
    exact ⟨t, o, a1, b1, b2, b3⟩
theorem lw_pre_spec {args : Array Value} {s : State} (h : (Jvm.Cond.and given_1 narrow_1).before args s = true) (hr : rest_1_c.before args s = true) : ∃ (b : Addr) (xs : List Int32), lw_P b xs args s := by
  have hs := flat_of_before _ h
  have hq := flat_of_before _ hr
  have hc : (Cond.count 1).before args s = true := hs _ (by decide +kernel)
  have harr : (Cond.arrayOf (.arg 0) .int).before args s = true := hs _ (by decide +kernel)
  have hle : (Cond.le (.length (.arg 0)) (.int 3072)).before args s = true := hs _ (by decide +kernel)
  have hlen : (Cond.isInt (.length (.arg 0))).before args s = true := hq _ (by decide +kernel)
  have hall : (Cond.all (.arg 0) (.isInt (.elem (.arg 0) (.index 0)))).before args s = true := hq _ (by decide +kernel)
  obtain ⟨b, xs, hb, hx⟩ := State.ints_of_pre rfl harr hlen hall
  have hsm : xs.length < 2 ^ 31 := hx.choose_spec.2.2.2
  have hev : (Term.length (.arg 0)).eval args s none [] s = some (.int xs.length.toInt32) := hx.length_eval hb
  have hv := Cond.le_ints hev (show (Term.int 3072).eval args s none [] s = some (.int 3072) from rfl)
  have hd : xs.length.toInt32 ≤ 3072 := by
    simpa [Cond.before, Cond.holds, hv] using hle
  have hN : xs.length ≤ 3072 := (Int32.ofNat_le_ofNat hsm (by decide)).mp (show Int32.ofNat xs.length ≤ Int32.ofNat 3072 from hd)
  exact ⟨b, xs, Cond.one_arg hc (show args[0]? = some (.ref b) from hb), hx, hN, h⟩
theorem lw_comes (l : Launch) (hst : l.stackTraces = false) : Comes l x (Jvm.Cond.code x code maxLocals ret :: tables_1) room_1 (fun tb e args s => Calls_1 tb e args s ∧ rest_1 tb e args s ∧ Pre_1 tb e args s)
    (fun _ _ args s o t => lw_Q args s o t) := by
  intro p e ha hc hk s m args below hf hfit hheap happ hpre
  obtain ⟨b, xs, hP⟩ := lw_pre_spec hpre.2.2 hpre.2.1
  obtain ⟨k, o, h1, h2, h3, hQ⟩ := lw_walk l hst b xs p e ha hc hk s m args below hf ((Spec.applies_iff_loose hf).mp happ).1 hP trivial
  exact ⟨k, o, h1, h2, h3, hQ⟩
theorem lw_frame {s t : State} {o : Outcome} {args : Array Value} (h : Framed s o t [] 601024 7293034) :
    Framed s o t (fieldLocs frame_1_writes args s ++ arrayLocs frame_1_arrays args s ++ staticLocs frame_1_statics s) 601024 7293034 := h
theorem lw_limb (L : Cond) (hL : ∀ (args : Array Value) (s t : State), L.after args s (.returned (some (.int 1))) t = true) :
    ArmFor flags0 classFile x code maxLocals ret World_1 tables_1 room_1 Calls_1 rest_1 Pre_1
      (fun tb e a s o t => postC L tb e a s o t ∧ Framed s o t (fieldLocs frame_1_writes a s ++ arrayLocs frame_1_arrays a s ++ staticLocs frame_1_statics s) 601024 7293034) := by
  intro l hfl _ _ p e ha hc hk s m args below hf hfit hheap happ hpre
  have hst : l.stackTraces = false := by
    show (!l.flags.contains noTraceFlag) = false
    rw [hfl]
    decide +kernel
  obtain ⟨k, o, h1, h2, h3, rfl, hF⟩ := lw_comes l hst p e ha hc hk s m args below hf hfit hheap happ hpre
  exact ⟨k, _, h1, h2, h3, hL args s _, lw_frame hF⟩
theorem i_vc : Claimed_1_1 ∧ Claimed_1_2 := ⟨lw_limb limb_1_1 (fun args s t => by simp [limb_1_1, Cond.after, Cond.holds, Cond.value]), lw_limb limb_1_2 (fun args s t => Cond.after_iff.mpr (by
  first | (rw [show limb_1_2 = Cond.eq .result (.int 1) from rfl, Cond.eq_ints (x := 1) (y := 1) rfl rfl]; simp; done) | (simp [limb_1_2, Cond.value, Term.eval]; done)))⟩
