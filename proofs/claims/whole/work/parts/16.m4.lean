/-! Pattern.become; the name's step. -/
theorem sr_id {S : Nat → Nat → Int32} {r : Nat} {f : Nat → Int32} (h : f = S r) : sr S r f = S := by
  funext r'
  unfold sr
  by_cases e : r' = r
  · rw [if_pos e, h, e]
  · rw [if_neg e]
theorem sr_sr {S : Nat → Nat → Int32} {r : Nat} {f g : Nat → Int32} : sr (sr S r f) r g = sr S r g := by
  funext r'
  unfold sr
  by_cases e : r' = r
  · rw [if_pos e, if_pos e]
  · rw [if_neg e, if_neg e, if_neg e]
/-- the first k places hold g, the others what they held -/
def fil (S0 : Nat → Int32) (g : Nat → Nat) (k : Nat) : Nat → Int32 := fun x => if x < k then nI (g x) else S0 x
theorem fil_0 {S0 : Nat → Int32} {g : Nat → Nat} : fil S0 g 0 = S0 := by funext x; simp [fil]
theorem fil_s {S0 : Nat → Int32} {g : Nat → Nat} {k : Nat} : upd (fil S0 g k) k (nI (g k)) = fil S0 g (k + 1) := by
  funext x
  unfold upd fil
  by_cases e : x = k
  · rw [if_pos e, if_pos (by omega), e]
  · rw [if_neg e]
    by_cases e2 : x < k
    · rw [if_pos e2, if_pos (by omega)]
    · rw [if_neg e2, if_neg (by omega)]
section M4
variable {l : Launch} {D : va_G} {cI cZ cT cJ : ClassId} {base : Nat} {ad : Nat → Nat} {pi : Nat → Nat} {dr : Nat} {S M : Nat → Nat → Int32} {o : Nat → Int64}
set_option maxHeartbeats 4000000 in
set_option maxRecDepth 100000 in
theorem c_Q_become (G : gGeo ad 25 base) (lo hi : Int64) {n : Nat} (hn : n ≤ 16) : Met l yQ_become (Cond.code yQ_become bQ_become 7 none :: tws) { frames := 1, cells := 0, slots := 0, locals := 22 } (gPc (tw D cI cZ cT cJ base) D cl ad 25 base (en ad cI cZ cT cJ pi dr S M o) [.ref (ad 12), .long lo, .long hi, .int (nI n)]) (gQc D cl ad 25 base none (fun e => e = en ad cI cZ cT cJ pi dr (sr (sr S 6 (fil (S 6) (pbyt lo hi) n)) 7 (upd (S 7) 0 (nI n))) M o)) 0 0 (gA base) := by
  refine Met.ofW (cc := bQ_become) (maxL := 7) (ret := none) (by decide) rfl ?_
  intro p e s m args below meth c s₁ B hml hv
  obtain ⟨rfl, htw, hB, hP⟩ := hv
  have hx := B.exec
  have hb := B.bytes
  have hr := B.returns
  have hts0 := atoms_spec (ws := Cond.code yQ_become bQ_become 7 none :: tws) B.pre
  have hts : ∀ w ∈ tws, w.before _ s = true := fun w h => hts0 w (List.mem_cons_of_mem _ h)
  have hown : s.vm.findClass "PairedTexts$Pattern" = some m.cls := findClass_of_methodNamed B.named
  have hlocks := B.notSynchronized
  have hno := B.noHandlers (hts0 _ List.mem_cons_self)
  have F : CallFix p m c bQ_become 7 s _ tws "PairedTexts$Pattern" := ⟨hx, hb, hml, hown, hts⟩
  have hK := htw.1
  have hS : va_S (gA base) s.heap s.heap [] := va_S.rf
  have hl := lv_entry ([.ref (ad 12), .long lo, .long hi, .int (nI n)]) (n := 7) (Nat.le_of_ble_eq_true rfl)
  rw [lg_entry_eq]
  generalize (lg_sl ([.ref (ad 12), .long lo, .long hi, .int (nI n)]) ++ List.replicate (7 - (lg_sl ([.ref (ad 12), .long lo, .long hi, .int (nI n)])).length) Slot.unset).toArray = ls at hl ⊢
  have hl : lv_has ls 7 [(0, .ref (ad 12)), (1, .long lo), (3, .long hi), (5, .int (nI n))] := hl
  refine lv_iconst (v := 0) hx hb dQ_become_0 (by decide) ?_
  refine lv_istore hx hb dQ_become_1 hl (by decide) rfl (fun ls hl => ?_)
  have hl : lv_has ls 7 [(6, .int _), (0, .ref _), (1, .long _), (3, .long _), (5, .int _)] := hl
  have hP : va_P D cl (gw ad (en ad cI cZ cT cJ pi dr (sr S 6 (fil (S 6) (pbyt lo hi) 0)) M o) 25) s.heap := by rw [sr_id fil_0]; exact hP
  refine W.loop (α := Nat) (fun t a ls H locs => a + t = n ∧ lv_has ls 7 [(6, .int (nI a)), (0, .ref (ad 12)), (1, .long lo), (3, .long hi), (5, .int (nI n))] ∧ va_P D cl (gw ad (en ad cI cZ cT cJ pi dr (sr S 6 (fil (S 6) (pbyt lo hi) a)) M o) 25) H ∧ va_S (gA base) s.heap H locs) ?_ (t := n) (a := 0) ⟨by omega, hl, hP, hS⟩
  clear hl hP hS
  intro t a ls H locs hI ih
  obtain ⟨i0, hl, hP, hS⟩ := hI
  try dsimp only at i0 hl hP
  by_cases ht : t = 0
  · have ha : a = n := by omega
    subst ha
    refine lv_iload hx hb dQ_become_3 (lv_at hl 0 rfl) ?_
    refine lv_iload hx hb dQ_become_5 (lv_at hl 4 rfl) ?_
    refine lv_icmp_ge (tgt := 48) hx hb dQ_become_7 (by decide) (fun _ => ?_) (fun hc => absurd (by rw [nI_leI (by omega) (by omega)]; omega) hc)
    refine lv_aload_n hx hb dQ_become_48 rfl (lv_at hl 1 rfl) ?_
    refine lv_iload hx hb dQ_become_49 (lv_at hl 4 rfl) ?_
    refine g_put F hK G hP hS (12) (by decide) rfl rfl iQ tQ tQ_ok nQ 1 (by decide) k1_48 rfl (ty := .int) (by decide +kernel) rfl rfl (Nat.le_of_ble_eq_true rfl) dQ_become_51 (fun H locs hP hS => ?_)
    have hP := P_of hP (en_qs _ _ _ _ _ _ _ _ _ _ _)
    rw [sr_n (show (7 : Nat) ≠ 6 by decide)] at hP
    exact W.vret hx hb hr (fun t ht hW => ⟨rfl, ⟨_, rfl, by rw [ht]; exact hP⟩, hS.F ht⟩) hS.2.2 dQ_become_54
  · refine lv_iload hx hb dQ_become_3 (lv_at hl 0 rfl) ?_
    refine lv_iload hx hb dQ_become_5 (lv_at hl 4 rfl) ?_
    refine lv_icmp_ge (tgt := 48) hx hb dQ_become_7 (by decide) (fun hc => absurd hc (by rw [nI_leI (by omega) (by omega)]; omega)) (fun _ => ?_)
    refine lv_aload_n hx hb dQ_become_10 rfl (lv_at hl 1 rfl) ?_
    refine g_get F hK hP (12) (by decide) rfl rfl iQ 0 (by decide) k1_47 rfl dQ_become_11 ?_
    refine lv_iload hx hb dQ_become_14 (lv_at hl 0 rfl) ?_
    refine lv_iload hx hb dQ_become_16 (lv_at hl 0 rfl) ?_
    refine lv_bipush (v := 8) hx hb dQ_become_18 (by decide) ?_
    refine lv_icmp_ge (tgt := 32) hx hb dQ_become_20 (by decide) (fun hc => ?_) (fun hc => ?_)
    · rw [show (8 : Int32) = nI 8 from rfl, nI_leI (by omega) (by omega)] at hc
      refine lv_lload_n hx hb dQ_become_32 rfl (lv_at hl 3 rfl) ?_
      refine lv_iload hx hb dQ_become_33 (lv_at hl 0 rfl) ?_
      refine lv_bipush (v := 8) hx hb dQ_become_35 (by decide) ?_
      refine lv_isub hx hb dQ_become_37 ?_
      rw [show (8 : Int32) = nI 8 from rfl, pk_sub hc]
      refine g_SN (k := 2) F htw hB hS hP (c_P_byteOf hi (k := a - 8) (by omega)) (List.mem_of_getElem? (i := 3) rfl) k1_193 k1_1 k1_194 (by decide +kernel) rfl rfl ⟨Nat.le_of_ble_eq_true rfl, Nat.le_of_ble_eq_true rfl⟩ rfl hl.1 rfl (Nat.le_of_ble_eq_true rfl) dQ_become_38 ⟨Nat.le_of_ble_eq_true rfl, Nat.le_of_ble_eq_true rfl⟩ (fun en1 H locs he hP hS => ?_)
      obtain rfl := he
      rw [show byt hi (a - 8) = pbyt lo hi a from (if_neg (by omega)).symm]
      refine g_iast F hK G hP hS (13) (by decide) 0 rfl rfl (vp_in_nI (show a < 16 by omega) (by omega)) dQ_become_41 (fun H locs hP hS => ?_)
      rw [nI_clamp (show a < 2 ^ 31 by omega)] at hP
      have hP := P_of hP (en_qb _ _ _ _ _ _ _ _ _ _ _)
      rw [sr_sr, sr_s, fil_s] at hP
      refine lv_iinc (k := 0) hx hb dQ_become_42 hl rfl rfl (by decide) rfl (fun ls hl => ?_)
      have hl : lv_has ls 7 [(6, .int _), (0, .ref _), (1, .long _), (3, .long _), (5, .int _)] := hl
      refine lv_goto (tgt := 3) hx hb dQ_become_45 (by decide) ?_
      have hl : lv_has ls 7 [(6, .int (nI (a + 1))), (0, .ref (ad 12)), (1, .long lo), (3, .long hi), (5, .int (nI n))] := by rw [← nI_1]; exact hl
      exact ih (t - 1) (a + 1) _ _ _ (by omega) ⟨by omega, hl, hP, hS⟩
    · rw [show (8 : Int32) = nI 8 from rfl, nI_leI (by omega) (by omega)] at hc
      refine lv_lload_n hx hb dQ_become_23 rfl (lv_at hl 2 rfl) ?_
      refine lv_iload hx hb dQ_become_24 (lv_at hl 0 rfl) ?_
      refine g_SN (k := 2) F htw hB hS hP (c_P_byteOf lo (k := a) (by omega)) (List.mem_of_getElem? (i := 3) rfl) k1_193 k1_1 k1_194 (by decide +kernel) rfl rfl ⟨Nat.le_of_ble_eq_true rfl, Nat.le_of_ble_eq_true rfl⟩ rfl hl.1 rfl (Nat.le_of_ble_eq_true rfl) dQ_become_26 ⟨Nat.le_of_ble_eq_true rfl, Nat.le_of_ble_eq_true rfl⟩ (fun en1 H locs he hP hS => ?_)
      obtain rfl := he
      rw [show byt lo a = pbyt lo hi a from (if_pos (by omega)).symm]
      refine lv_goto (tgt := 41) hx hb dQ_become_29 (by decide) ?_
      refine g_iast F hK G hP hS (13) (by decide) 0 rfl rfl (vp_in_nI (show a < 16 by omega) (by omega)) dQ_become_41 (fun H locs hP hS => ?_)
      rw [nI_clamp (show a < 2 ^ 31 by omega)] at hP
      have hP := P_of hP (en_qb _ _ _ _ _ _ _ _ _ _ _)
      rw [sr_sr, sr_s, fil_s] at hP
      refine lv_iinc (k := 0) hx hb dQ_become_42 hl rfl rfl (by decide) rfl (fun ls hl => ?_)
      have hl : lv_has ls 7 [(6, .int _), (0, .ref _), (1, .long _), (3, .long _), (5, .int _)] := hl
      refine lv_goto (tgt := 3) hx hb dQ_become_45 (by decide) ?_
      have hl : lv_has ls 7 [(6, .int (nI (a + 1))), (0, .ref (ad 12)), (1, .long lo), (3, .long hi), (5, .int (nI n))] := by rw [← nI_1]; exact hl
      exact ih (t - 1) (a + 1) _ _ _ (by omega) ⟨by omega, hl, hP, hS⟩
set_option maxHeartbeats 4000000 in
set_option maxRecDepth 100000 in
theorem c_P_nameWithOneMore {e0 : Nat → va_E} {a b : Nat} (ha : a < 2305843009213693951) (hb0 : b < 256) : Met l yP_nameWithOneMore (Cond.code yP_nameWithOneMore bP_nameWithOneMore 9 (some .long) :: tws) { frames := 0, cells := 0, slots := 0, locals := 0 } (gPc (tw D cI cZ cT cJ base) D cl ad 25 base (e0) [.long (lN a), .int (nI b)]) (gQc D cl ad 25 base (some (.long (lN (nm a b)))) (fun e => e = e0)) 0 0 (gA base) := by
  refine Met.ofW (cc := bP_nameWithOneMore) (maxL := 9) (ret := (some .long)) (by decide) rfl ?_
  intro p e s m args below meth c s₁ B hml hv
  obtain ⟨rfl, htw, hB, hP⟩ := hv
  have hx := B.exec
  have hb := B.bytes
  have hr := B.returns
  have hts0 := atoms_spec (ws := Cond.code yP_nameWithOneMore bP_nameWithOneMore 9 (some .long) :: tws) B.pre
  have hts : ∀ w ∈ tws, w.before _ s = true := fun w h => hts0 w (List.mem_cons_of_mem _ h)
  have hown : s.vm.findClass "PairedTexts" = some m.cls := findClass_of_methodNamed B.named
  have hlocks := B.notSynchronized
  have hno := B.noHandlers (hts0 _ List.mem_cons_self)
  have F : CallFix p m c bP_nameWithOneMore 9 s _ tws "PairedTexts" := ⟨hx, hb, hml, hown, hts⟩
  have hK := htw.1
  have hS : va_S (gA base) s.heap s.heap [] := va_S.rf
  have hl := lv_entry ([.long (lN a), .int (nI b)]) (n := 9) (Nat.le_of_ble_eq_true rfl)
  rw [lg_entry_eq]
  generalize (lg_sl ([.long (lN a), .int (nI b)]) ++ List.replicate (9 - (lg_sl ([.long (lN a), .int (nI b)])).length) Slot.unset).toArray = ls at hl ⊢
  have hl : lv_has ls 9 [(0, .long (lN a)), (2, .int (nI b))] := hl
  refine lv_ldc2 (v := 1000003) hx hb hown (hts _ k2_95) dP_nameWithOneMore_0 ?_
  refine lv_lload_n hx hb dP_nameWithOneMore_3 rfl (lv_at hl 0 rfl) ?_
  refine lv_bipush (v := 31) hx hb dP_nameWithOneMore_4 (by decide) ?_
  refine lv_lushr (v := lN (a / 2147483648)) hx hb dP_nameWithOneMore_6 (wb_shr (k := 31) (by omega) (by decide)) ?_
  refine lv_lmul hx hb dP_nameWithOneMore_7 ?_
  rw [show (1000003 : Int64) = lN 1000003 from rfl, lN_mul]
  refine lv_lstore_n hx hb dP_nameWithOneMore_8 rfl hl (by decide) rfl (fun ls hl => ?_)
  have hl : lv_has ls 9 [(3, .long _), (0, .long _), (2, .int _)] := hl
  refine lv_ldc2 (v := 1000003) hx hb hown (hts _ k2_95) dP_nameWithOneMore_9 ?_
  refine lv_lload_n hx hb dP_nameWithOneMore_12 rfl (lv_at hl 1 rfl) ?_
  refine lv_ldc2 (v := 2147483647) hx hb hown (hts _ k2_96) dP_nameWithOneMore_13 ?_
  refine lv_land hx hb dP_nameWithOneMore_16 ?_
  rw [show (2147483647 : Int64) = lN (2 ^ 31 - 1) from rfl, wb_mask (by omega) (by decide)]
  refine lv_lmul hx hb dP_nameWithOneMore_17 ?_
  rw [show (1000003 : Int64) = lN 1000003 from rfl, lN_mul]
  refine lv_lstore hx hb dP_nameWithOneMore_18 hl (by decide) rfl (fun ls hl => ?_)
  have hl : lv_has ls 9 [(5, .long _), (3, .long _), (0, .long _), (2, .int _)] := hl
  refine lv_lload_n hx hb dP_nameWithOneMore_20 rfl (lv_at hl 1 rfl) ?_
  refine lv_bipush (v := 30) hx hb dP_nameWithOneMore_21 (by decide) ?_
  refine lv_lushr (v := lN ((1000003 * (a / 2147483648)) / 1073741824)) hx hb dP_nameWithOneMore_23 (wb_shr (k := 30) (by omega) (by decide)) ?_
  refine lv_lload_n hx hb dP_nameWithOneMore_24 rfl (lv_at hl 1 rfl) ?_
  refine lv_ldc2 (v := 1073741823) hx hb hown (hts _ k2_97) dP_nameWithOneMore_25 ?_
  refine lv_land hx hb dP_nameWithOneMore_28 ?_
  rw [show (1073741823 : Int64) = lN (2 ^ 30 - 1) from rfl, wb_mask (by omega) (by decide)]
  refine lv_bipush (v := 31) hx hb dP_nameWithOneMore_29 (by decide) ?_
  refine lv_lshl (v := lN ((1000003 * (a / 2147483648)) % 1073741824 * 2147483648)) hx hb dP_nameWithOneMore_31 (wb_shl _ (k := 31) (by decide)) ?_
  refine lv_ladd hx hb dP_nameWithOneMore_32 ?_
  rw [lN_add]
  refine lv_lstore hx hb dP_nameWithOneMore_33 hl (by decide) rfl (fun ls hl => ?_)
  have hl : lv_has ls 9 [(7, .long _), (5, .long _), (3, .long _), (0, .long _), (2, .int _)] := hl
  refine lv_lload hx hb dP_nameWithOneMore_35 (lv_at hl 0 rfl) ?_
  refine lv_lload hx hb dP_nameWithOneMore_37 (lv_at hl 1 rfl) ?_
  refine lv_ladd hx hb dP_nameWithOneMore_39 ?_
  rw [lN_add]
  refine lv_iload_n hx hb dP_nameWithOneMore_40 rfl (lv_at hl 4 rfl) ?_
  refine lv_i2l hx hb dP_nameWithOneMore_41 rfl ?_
  rw [nI_l (by omega)]
  refine lv_ladd hx hb dP_nameWithOneMore_42 ?_
  rw [lN_add]
  refine lv_lconst (v := 1) hx hb dP_nameWithOneMore_43 (by decide) ?_
  refine lv_ladd hx hb dP_nameWithOneMore_44 ?_
  rw [lN_1]
  refine lv_ldc2 (v := 2305843009213693951) hx hb hown (hts _ k2_98) dP_nameWithOneMore_45 ?_
  refine lv_lrem hx hb dP_nameWithOneMore_48 (by decide) ?_
  rw [show (2305843009213693951 : Int64) = lN 2305843009213693951 from rfl, pk_lRem (by omega) (by decide) (by decide)]
  have en1 : ((1000003 * (a / 2147483648)) / 1073741824 + (1000003 * (a / 2147483648)) % 1073741824 * 2147483648 + 1000003 * (a % 2 ^ 31) + b + 1) % 2305843009213693951 = nm a b := nm_cls a b
  rw [en1]
  exact W.lret hx hb hr (fun t ht hW => ⟨rfl, ⟨_, rfl, by rw [ht]; exact hP⟩, hS.F ht⟩) hS.2.2 dP_nameWithOneMore_49
end M4
