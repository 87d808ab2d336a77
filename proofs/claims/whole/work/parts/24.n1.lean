/-! The reference's small methods. -/
theorem wb_sar {n k : Nat} (hn : n < 2 ^ 63) (hk : k < 64) : lN n >>> ((nI k).toInt64 &&& 63) = lN (n / 2 ^ k) := by
  rw [wb_c k hk]
  apply wb_inj
  have hm : (BitVec.ofNat 64 n).msb = false := by
    rw [BitVec.msb_eq_decide, BitVec.toNat_ofNat, Nat.mod_eq_of_lt (by omega)]
    simp only [decide_eq_false_iff_not]
    omega
  rw [Int64.toBitVec_shiftRight, wb_tb, wb_tb, wb_tb, wb_sm _ hk, BitVec.sshiftRight_eq', BitVec.toNat_ofNat, Nat.mod_eq_of_lt (show k < 2 ^ 64 by omega), BitVec.sshiftRight_eq_of_msb_false hm]
  apply BitVec.eq_of_toNat_eq
  have h1 : n / 2 ^ k ≤ n := Nat.div_le_self _ _
  rw [BitVec.toNat_ushiftRight, BitVec.toNat_ofNat, BitVec.toNat_ofNat, Nat.mod_eq_of_lt (show n < 2 ^ 64 by omega), Nat.mod_eq_of_lt (show n / 2 ^ k < 2 ^ 64 by omega), Nat.shiftRight_eq_div_pow]
theorem RepM.off {M M' : Nat → Nat → Int32} {a : Ab} (h : RepM M a) (h1 : ∀ r, r ≠ 0 → r ≠ 3 → M' r = M r) (h2 : M' 0 2 = M 0 2) : RepM M' a := by
  obtain ⟨c4, c5, c6, c7, c8, c9⟩ := h
  refine ⟨fun d hd => ?_, fun d i hd hi => ?_, ?_, fun k hk => ?_, fun q hq => ?_, fun q hq => ?_⟩
  · rw [h1 2 (by decide) (by decide)]; exact c4 d hd
  · rw [h1 1 (by decide) (by decide)]; exact c5 d i hd hi
  · rw [h2]; exact c6
  · rw [h1 4 (by decide) (by decide)]; exact c7 k hk
  · rw [h1 5 (by decide) (by decide)]; exact c8 q hq
  · rw [h1 6 (by decide) (by decide)]; exact c9 q hq
theorem RepM.num {M : Nat → Nat → Int32} {a : Ab} {j : Nat} {v : Int32} (h : RepM M a) (hj : 2 ≠ j) : RepM (sr M 0 (upd (M 0) j v)) a :=
  h.off (fun r h1 _ => sr_n h1) (by rw [sr_s]; exact pk_un hj)
theorem RepDM.to {M : Nat → Nat → Int32} {k k' : Nat} {g g' : Nat → Nat} (h : RepDM M k g) (hk : k = k') (hg : ∀ i, i < k → g i = g' i) : RepDM M k' g' := by
  subst hk
  exact ⟨h.1, fun i hi => by rw [← hg i hi]; exact h.2 i hi⟩
/-- a byte laid behind the draft -/
theorem RepDM.one {M : Nat → Nat → Int32} {a : Ab} {k b : Nat} {g : Nat → Nat} (h : RepM M a) (hd : RepDM M k g) :
    RepM (sr (sr M 3 (upd (M 3) k (nI b))) 0 (upd (M 0) 1 (nI (k + 1)))) a ∧ RepDM (sr (sr M 3 (upd (M 3) k (nI b))) 0 (upd (M 0) 1 (nI (k + 1)))) (k + 1) (fun i => if i = k then b else g i) := by
  refine ⟨h.off (fun r h1 h2 => by rw [sr_n h1, sr_n h2]) (by rw [sr_s]; exact pk_un (by decide)), ?_, fun i hi => ?_⟩
  · rw [sr_s]; exact pk_us
  · rw [sr_n (by decide), sr_s]
    show upd (M 3) k (nI b) i = nI (if i = k then b else g i)
    unfold upd
    by_cases e : i = k
    · rw [if_pos e, if_pos e]
    · rw [if_neg e, if_neg e]; exact hd.2 i (by omega)
/-- u places from p on become g -/
def mfil (f : Nat → Int32) (p : Nat) (g : Nat → Nat) (u : Nat) : Nat → Int32 := fun q => if p ≤ q ∧ q < p + u then nI (g (q - p)) else f q
theorem mfil_0 {f : Nat → Int32} {p : Nat} {g : Nat → Nat} : mfil f p g 0 = f := by
  funext q
  unfold mfil
  rw [if_neg (by omega)]
theorem mfil_s {f : Nat → Int32} {p u : Nat} {g : Nat → Nat} : upd (mfil f p g u) (p + u) (nI (g u)) = mfil f p g (u + 1) := by
  funext q
  unfold mfil upd
  by_cases e : q = p + u
  · rw [if_pos e, if_pos (by omega)]; congr 2; omega
  · rw [if_neg e]
    show (if p ≤ q ∧ q < p + u then nI (g (q - p)) else f q) = _
    by_cases e2 : p ≤ q ∧ q < p + u
    · rw [if_pos e2, if_pos (by omega)]
    · rw [if_neg e2, if_neg (by omega)]
theorem RepM.become {M : Nat → Nat → Int32} {a : Ab} {d k : Nat} {g : Nat → Nat} (h : RepM M a) (ha : a_ok a) (hd : d < 4) (hk : k ≤ 1000) : RepM (sr (sr M 1 (mfil (M 1) (1000 * d) g k)) 2 (upd (M 2) d (nI k))) (a_set a d k g) := by
  obtain ⟨c4, c5, c6, c7, c8, c9⟩ := h
  refine ⟨fun d2 hd2 => ?_, fun d2 i hd2 hi => ?_, ?_, fun k hk => ?_, fun q hq => ?_, fun q hq => ?_⟩
  · rw [sr_s, a_set_n]
    unfold upd
    by_cases e : d2 = d
    · rw [if_pos e, if_pos e]
    · rw [if_neg e, if_neg e]; exact c4 d2 hd2
  · rw [sr_n (by decide), sr_s, a_set_b]
    rw [a_set_n] at hi
    unfold mfil
    by_cases e : d2 = d
    · rw [if_pos e] at hi
      rw [if_pos e, if_pos (by omega)]; congr 2; omega
    · rw [if_neg e] at hi
      have h1 := ha.1 d2 hd2
      rw [if_neg e, if_neg (by omega)]; exact c5 d2 i hd2 hi
  · rw [sr_n (by decide), sr_n (by decide)]; exact c6
  · rw [sr_n (by decide), sr_n (by decide)]; exact c7 k hk
  · rw [sr_n (by decide), sr_n (by decide)]; exact c8 q hq
  · rw [sr_n (by decide), sr_n (by decide)]; exact c9 q hq
theorem cat_one (g f : Nat → Nat) (k u i : Nat) : (if i = k + u then f u else cat g k f i) = cat g k f i := by
  by_cases e : i = k + u
  · rw [if_pos e, e]; unfold cat; rw [if_neg (by omega)]; congr 1; omega
  · rw [if_neg e]
theorem k_at (d i : Nat) : (1000 : Int32) * nI d + nI i = nI (1000 * d + i) := by rw [show (1000 : Int32) = nI 1000 from rfl, pk_mul, nI_add]
section N1
variable {l : Launch} {D : va_G} {cI cZ cT cJ : ClassId} {base : Nat} {ad : Nat → Nat} {pi : Nat → Nat} {dr : Nat} {S M : Nat → Nat → Int32} {o : Nat → Int64}
set_option maxHeartbeats 4000000 in
set_option maxRecDepth 100000 in
theorem c_M_thrown  : Met l yM_thrown (Cond.code yM_thrown bM_thrown 1 (some .int) :: tws) { frames := 0, cells := 0, slots := 0, locals := 0 } (gPc (tw D cI cZ cT cJ base) D cl ad 25 base (en ad cI cZ cT cJ pi dr S M o) [.ref (ad 17)]) (gQc D cl ad 25 base (some (.int (M 0 0))) (fun e => e = en ad cI cZ cT cJ pi dr S M o)) 0 0 (gA base) := by
  refine Met.ofW (cc := bM_thrown) (maxL := 1) (ret := (some .int)) (by decide) rfl ?_
  intro p e s m args below meth c s₁ B hml hv
  obtain ⟨rfl, htw, hB, hP⟩ := hv
  have hx := B.exec
  have hb := B.bytes
  have hr := B.returns
  have hts0 := atoms_spec (ws := Cond.code yM_thrown bM_thrown 1 (some .int) :: tws) B.pre
  have hts : ∀ w ∈ tws, w.before _ s = true := fun w h => hts0 w (List.mem_cons_of_mem _ h)
  have hown : s.vm.findClass "PairedTextsModel" = some m.cls := findClass_of_methodNamed B.named
  have hlocks := B.notSynchronized
  have hno := B.noHandlers (hts0 _ List.mem_cons_self)
  have F : CallFix p m c bM_thrown 1 s _ tws "PairedTextsModel" := ⟨hx, hb, hml, hown, hts⟩
  have hK := htw.1
  have hS : va_S (gA base) s.heap s.heap [] := va_S.rf
  have hl := lv_entry ([.ref (ad 17)]) (n := 1) (Nat.le_of_ble_eq_true rfl)
  rw [lg_entry_eq]
  generalize (lg_sl ([.ref (ad 17)]) ++ List.replicate (1 - (lg_sl ([.ref (ad 17)])).length) Slot.unset).toArray = ls at hl ⊢
  have hl : lv_has ls 1 [(0, .ref (ad 17))] := hl
  refine lv_aload_n hx hb dM_thrown_0 rfl (lv_at hl 0 rfl) ?_
  refine g_get F hK hP (17) (by decide) rfl rfl iM 0 (by decide) k2_196 rfl dM_thrown_1 ?_
  exact W.iret hx hb hr (fun t ht hW => ⟨rfl, ⟨_, rfl, by rw [ht]; exact hP⟩, hS.F ht⟩) hS.2.2 dM_thrown_4
set_option maxHeartbeats 4000000 in
set_option maxRecDepth 100000 in
theorem c_M_isDocument {e0 : Nat → va_E} (d : Int32) : Met l yM_isDocument (Cond.code yM_isDocument bM_isDocument 1 (some .boolean) :: tws) { frames := 0, cells := 0, slots := 0, locals := 0 } (gPc (tw D cI cZ cT cJ base) D cl ad 25 base (e0) [.int d]) (gQc D cl ad 25 base (some (.int (if dk d then 1 else 0))) (fun e => e = e0)) 0 0 (gA base) := by
  refine Met.ofW (cc := bM_isDocument) (maxL := 1) (ret := (some .boolean)) (by decide) rfl ?_
  intro p e s m args below meth c s₁ B hml hv
  obtain ⟨rfl, htw, hB, hP⟩ := hv
  have hx := B.exec
  have hb := B.bytes
  have hr := B.returns
  have hts0 := atoms_spec (ws := Cond.code yM_isDocument bM_isDocument 1 (some .boolean) :: tws) B.pre
  have hts : ∀ w ∈ tws, w.before _ s = true := fun w h => hts0 w (List.mem_cons_of_mem _ h)
  have hown : s.vm.findClass "PairedTextsModel" = some m.cls := findClass_of_methodNamed B.named
  have hlocks := B.notSynchronized
  have hno := B.noHandlers (hts0 _ List.mem_cons_self)
  have F : CallFix p m c bM_isDocument 1 s _ tws "PairedTextsModel" := ⟨hx, hb, hml, hown, hts⟩
  have hK := htw.1
  have hS : va_S (gA base) s.heap s.heap [] := va_S.rf
  have hl := lv_entry ([.int d]) (n := 1) (Nat.le_of_ble_eq_true rfl)
  rw [lg_entry_eq]
  generalize (lg_sl ([.int d]) ++ List.replicate (1 - (lg_sl ([.int d])).length) Slot.unset).toArray = ls at hl ⊢
  have hl : lv_has ls 1 [(0, .int d)] := hl
  have z0 : (0 : Int32).toInt = 0 := rfl
  have z3 : (3 : Int32).toInt = 3 := rfl
  refine lv_iload_n hx hb dM_isDocument_0 rfl (lv_at hl 0 rfl) ?_
  refine lv_if_lt (tgt := 13) hx hb dM_isDocument_1 (by decide) (fun hc => ?_) (fun hc => ?_)
  · simp only [Int32.lt_iff_toInt_lt, Int32.le_iff_toInt_le] at hc
    refine lv_iconst (v := 0) hx hb dM_isDocument_13 (by decide) ?_
    have hv : (if dk d then (1 : Int32) else 0) = 0 := if_neg (by unfold dk; simp only [decide_eq_true_eq]; omega)
    exact W.zret hx hb hr rfl (fun t ht hW => ⟨by rw [hv], ⟨_, rfl, by rw [ht]; exact hP⟩, hS.F ht⟩) hS.2.2 dM_isDocument_14
  · simp only [Int32.lt_iff_toInt_lt, Int32.le_iff_toInt_le] at hc
    refine lv_iload_n hx hb dM_isDocument_4 rfl (lv_at hl 0 rfl) ?_
    refine lv_iconst (v := 3) hx hb dM_isDocument_5 (by decide) ?_
    refine lv_icmp_gt (tgt := 13) hx hb dM_isDocument_6 (by decide) (fun hd => ?_) (fun hd => ?_)
    · simp only [Int32.lt_iff_toInt_lt, Int32.le_iff_toInt_le] at hd
      refine lv_iconst (v := 0) hx hb dM_isDocument_13 (by decide) ?_
      have hv : (if dk d then (1 : Int32) else 0) = 0 := if_neg (by unfold dk; simp only [decide_eq_true_eq]; omega)
      exact W.zret hx hb hr rfl (fun t ht hW => ⟨by rw [hv], ⟨_, rfl, by rw [ht]; exact hP⟩, hS.F ht⟩) hS.2.2 dM_isDocument_14
    · simp only [Int32.lt_iff_toInt_lt, Int32.le_iff_toInt_le] at hd
      refine lv_iconst (v := 1) hx hb dM_isDocument_9 (by decide) ?_
      refine lv_goto (tgt := 14) hx hb dM_isDocument_10 (by decide) ?_
      have hv : (if dk d then (1 : Int32) else 0) = 1 := if_pos (by unfold dk; simp only [decide_eq_true_eq]; omega)
      exact W.zret hx hb hr rfl (fun t ht hW => ⟨by rw [hv], ⟨_, rfl, by rw [ht]; exact hP⟩, hS.F ht⟩) hS.2.2 dM_isDocument_14
set_option maxHeartbeats 4000000 in
set_option maxRecDepth 100000 in
theorem c_M_isRange {k n : Nat} (hk : k < 4) (hn : n ≤ 1000) (h2 : M 2 k = nI n) (f t : Int32) : Met l yM_isRange (Cond.code yM_isRange bM_isRange 4 (some .boolean) :: tws) { frames := 0, cells := 0, slots := 0, locals := 0 } (gPc (tw D cI cZ cT cJ base) D cl ad 25 base (en ad cI cZ cT cJ pi dr S M o) [.ref (ad 17), .int (nI k), .int f, .int t]) (gQc D cl ad 25 base (some (.int (if rg f t n then 1 else 0))) (fun e => e = en ad cI cZ cT cJ pi dr S M o)) 0 0 (gA base) := by
  refine Met.ofW (cc := bM_isRange) (maxL := 4) (ret := (some .boolean)) (by decide) rfl ?_
  intro p e s m args below meth c s₁ B hml hv
  obtain ⟨rfl, htw, hB, hP⟩ := hv
  have hx := B.exec
  have hb := B.bytes
  have hr := B.returns
  have hts0 := atoms_spec (ws := Cond.code yM_isRange bM_isRange 4 (some .boolean) :: tws) B.pre
  have hts : ∀ w ∈ tws, w.before _ s = true := fun w h => hts0 w (List.mem_cons_of_mem _ h)
  have hown : s.vm.findClass "PairedTextsModel" = some m.cls := findClass_of_methodNamed B.named
  have hlocks := B.notSynchronized
  have hno := B.noHandlers (hts0 _ List.mem_cons_self)
  have F : CallFix p m c bM_isRange 4 s _ tws "PairedTextsModel" := ⟨hx, hb, hml, hown, hts⟩
  have hK := htw.1
  have hS : va_S (gA base) s.heap s.heap [] := va_S.rf
  have hl := lv_entry ([.ref (ad 17), .int (nI k), .int f, .int t]) (n := 4) (Nat.le_of_ble_eq_true rfl)
  rw [lg_entry_eq]
  generalize (lg_sl ([.ref (ad 17), .int (nI k), .int f, .int t]) ++ List.replicate (4 - (lg_sl ([.ref (ad 17), .int (nI k), .int f, .int t])).length) Slot.unset).toArray = ls at hl ⊢
  have hl : lv_has ls 4 [(0, .ref (ad 17)), (1, .int (nI k)), (2, .int f), (3, .int t)] := hl
  have z0 : (0 : Int32).toInt = 0 := rfl
  have zn := nI_toInt (show n < 2 ^ 31 by omega)
  refine lv_iload_n hx hb dM_isRange_0 rfl (lv_at hl 2 rfl) ?_
  refine lv_if_lt (tgt := 23) hx hb dM_isRange_1 (by decide) (fun hc => ?_) (fun hc => ?_)
  · simp only [Int32.lt_iff_toInt_lt, Int32.le_iff_toInt_le] at hc
    refine lv_iconst (v := 0) hx hb dM_isRange_23 (by decide) ?_
    have hv : (if rg f t n then (1 : Int32) else 0) = 0 := if_neg (by unfold rg; simp only [decide_eq_true_eq]; omega)
    exact W.zret hx hb hr rfl (fun t ht hW => ⟨by rw [hv], ⟨_, rfl, by rw [ht]; exact hP⟩, hS.F ht⟩) hS.2.2 dM_isRange_24
  · simp only [Int32.lt_iff_toInt_lt, Int32.le_iff_toInt_le] at hc
    refine lv_iload_n hx hb dM_isRange_4 rfl (lv_at hl 2 rfl) ?_
    refine lv_iload_n hx hb dM_isRange_5 rfl (lv_at hl 3 rfl) ?_
    refine lv_icmp_gt (tgt := 23) hx hb dM_isRange_6 (by decide) (fun hd => ?_) (fun hd => ?_)
    · simp only [Int32.lt_iff_toInt_lt, Int32.le_iff_toInt_le] at hd
      refine lv_iconst (v := 0) hx hb dM_isRange_23 (by decide) ?_
      have hv : (if rg f t n then (1 : Int32) else 0) = 0 := if_neg (by unfold rg; simp only [decide_eq_true_eq]; omega)
      exact W.zret hx hb hr rfl (fun t ht hW => ⟨by rw [hv], ⟨_, rfl, by rw [ht]; exact hP⟩, hS.F ht⟩) hS.2.2 dM_isRange_24
    · simp only [Int32.lt_iff_toInt_lt, Int32.le_iff_toInt_le] at hd
      refine lv_iload_n hx hb dM_isRange_9 rfl (lv_at hl 3 rfl) ?_
      refine lv_aload_n hx hb dM_isRange_10 rfl (lv_at hl 0 rfl) ?_
      refine g_get F hK hP (17) (by decide) rfl rfl iM 2 (by decide) k2_198 rfl dM_isRange_11 ?_
      refine lv_iload_n hx hb dM_isRange_14 rfl (lv_at hl 1 rfl) ?_
      refine g_iald F hK hP (19) (by decide) 0 rfl rfl (vp_in_nI hk (by omega)) dM_isRange_15 ?_
      rw [nI_clamp (show k < 2 ^ 31 by omega), h2]
      refine lv_icmp_gt (tgt := 23) hx hb dM_isRange_16 (by decide) (fun he => ?_) (fun he => ?_)
      · simp only [Int32.lt_iff_toInt_lt, Int32.le_iff_toInt_le] at he
        refine lv_iconst (v := 0) hx hb dM_isRange_23 (by decide) ?_
        have hv : (if rg f t n then (1 : Int32) else 0) = 0 := if_neg (by unfold rg; simp only [decide_eq_true_eq]; omega)
        exact W.zret hx hb hr rfl (fun t ht hW => ⟨by rw [hv], ⟨_, rfl, by rw [ht]; exact hP⟩, hS.F ht⟩) hS.2.2 dM_isRange_24
      · simp only [Int32.lt_iff_toInt_lt, Int32.le_iff_toInt_le] at he
        refine lv_iconst (v := 1) hx hb dM_isRange_19 (by decide) ?_
        refine lv_goto (tgt := 24) hx hb dM_isRange_20 (by decide) ?_
        have hv : (if rg f t n then (1 : Int32) else 0) = 1 := if_pos (by unfold rg; simp only [decide_eq_true_eq]; omega)
        exact W.zret hx hb hr rfl (fun t ht hW => ⟨by rw [hv], ⟨_, rfl, by rw [ht]; exact hP⟩, hS.F ht⟩) hS.2.2 dM_isRange_24
set_option maxHeartbeats 4000000 in
set_option maxRecDepth 100000 in
theorem c_M_add {a : Ab} {z : Int32} (G : gGeo ad 25 base) (ha : a_ok a) (hR : RepM M a) (hz : M 0 0 = z) {k d f t0 : Nat} {g : Nat → Nat} (hD : RepDM M k g) (hd : d < 4) (hft : f ≤ t0) (ht : t0 ≤ a_n a d) (hk : k + (t0 - f) ≤ 1000) : Met l yM_add (Cond.code yM_add bM_add 5 none :: tws) { frames := 0, cells := 0, slots := 0, locals := 0 } (gPc (tw D cI cZ cT cJ base) D cl ad 25 base (en ad cI cZ cT cJ pi dr S M o) [.ref (ad 17), .int (nI d), .int (nI f), .int (nI t0)]) (gQc D cl ad 25 base none (fun e => ∃ M1 : Nat → Nat → Int32, e = en ad cI cZ cT cJ pi dr S M1 o ∧ M1 0 0 = z ∧ RepM M1 a ∧ RepDM M1 (k + (t0 - f)) (cat g k (fun i => a_b a d (f + i))))) 0 0 (gA base) := by
  refine Met.ofW (cc := bM_add) (maxL := 5) (ret := none) (by decide) rfl ?_
  intro p e s m args below meth c s₁ B hml hv
  obtain ⟨rfl, htw, hB, hP⟩ := hv
  have hx := B.exec
  have hb := B.bytes
  have hr := B.returns
  have hts0 := atoms_spec (ws := Cond.code yM_add bM_add 5 none :: tws) B.pre
  have hts : ∀ w ∈ tws, w.before _ s = true := fun w h => hts0 w (List.mem_cons_of_mem _ h)
  have hown : s.vm.findClass "PairedTextsModel" = some m.cls := findClass_of_methodNamed B.named
  have hlocks := B.notSynchronized
  have hno := B.noHandlers (hts0 _ List.mem_cons_self)
  have F : CallFix p m c bM_add 5 s _ tws "PairedTextsModel" := ⟨hx, hb, hml, hown, hts⟩
  have hK := htw.1
  have hS : va_S (gA base) s.heap s.heap [] := va_S.rf
  have hl := lv_entry ([.ref (ad 17), .int (nI d), .int (nI f), .int (nI t0)]) (n := 5) (Nat.le_of_ble_eq_true rfl)
  rw [lg_entry_eq]
  generalize (lg_sl ([.ref (ad 17), .int (nI d), .int (nI f), .int (nI t0)]) ++ List.replicate (5 - (lg_sl ([.ref (ad 17), .int (nI d), .int (nI f), .int (nI t0)])).length) Slot.unset).toArray = ls at hl ⊢
  have hl : lv_has ls 5 [(0, .ref (ad 17)), (1, .int (nI d)), (2, .int (nI f)), (3, .int (nI t0))] := hl
  have hn := ha.1 d hd
  refine lv_iload_n hx hb dM_add_0 rfl (lv_at hl 2 rfl) ?_
  refine lv_istore hx hb dM_add_1 hl (by decide) rfl (fun ls hl => ?_)
  have hl : lv_has ls 5 [(4, .int _), (0, .ref _), (1, .int _), (2, .int _), (3, .int _)] := hl
  have hl : lv_has ls 5 [(4, .int (nI (f + 0))), (0, .ref (ad 17)), (1, .int (nI d)), (2, .int (nI f)), (3, .int (nI t0))] := hl
  have hD : RepDM M (k + 0) (cat g k (fun i => a_b a d (f + i))) := hD.to rfl (fun i hi => by unfold cat; rw [if_pos (by omega)])
  refine W.loop (α := Nat × (Nat → Nat → Int32)) (fun t a1 ls H locs => f + a1.1 + t = t0 ∧ a1.2 0 0 = z ∧ RepM a1.2 a ∧ RepDM a1.2 (k + a1.1) (cat g k (fun i => a_b a d (f + i))) ∧ lv_has ls 5 [(4, .int (nI (f + a1.1))), (0, .ref (ad 17)), (1, .int (nI d)), (2, .int (nI f)), (3, .int (nI t0))] ∧ va_P D cl (gw ad (en ad cI cZ cT cJ pi dr S a1.2 o) 25) H ∧ va_S (gA base) s.heap H locs) ?_ (t := (t0 - f)) (a := (0, M)) ⟨by show f + 0 + (t0 - f) = t0; omega, hz, hR, hD, hl, hP, hS⟩
  clear hl hP hS
  intro t a1 ls H locs hI ih
  obtain ⟨u, M⟩ := a1
  obtain ⟨i0, i1, i2, i3, hl, hP, hS⟩ := hI
  try dsimp only at i0 i1 i2 i3 hl hP
  by_cases hte : t = 0
  · obtain rfl : u = t0 - f := by omega
    refine lv_iload hx hb dM_add_3 (lv_at hl 0 rfl) ?_
    refine lv_iload_n hx hb dM_add_5 rfl (lv_at hl 4 rfl) ?_
    refine lv_icmp_ge (tgt := 47) hx hb dM_add_6 (by decide) (fun _ => ?_) (fun hc => absurd (by rw [nI_leI (by omega) (by omega)]; omega) hc)
    exact W.vret hx hb hr (fun t ht hW => ⟨rfl, ⟨_, ⟨_, rfl, i1, i2, i3⟩, by rw [ht]; exact hP⟩, hS.F ht⟩) hS.2.2 dM_add_47
  · refine lv_iload hx hb dM_add_3 (lv_at hl 0 rfl) ?_
    refine lv_iload_n hx hb dM_add_5 rfl (lv_at hl 4 rfl) ?_
    refine lv_icmp_ge (tgt := 47) hx hb dM_add_6 (by decide) (fun hc => absurd hc (by rw [nI_leI (by omega) (by omega)]; omega)) (fun _ => ?_)
    refine lv_aload_n hx hb dM_add_9 rfl (lv_at hl 1 rfl) ?_
    refine g_get F hK hP (17) (by decide) rfl rfl iM 3 (by decide) k2_199 rfl dM_add_10 ?_
    refine lv_aload_n hx hb dM_add_13 rfl (lv_at hl 1 rfl) ?_
    refine g_get F hK hP (17) (by decide) rfl rfl iM 4 (by decide) k2_200 rfl dM_add_14 ?_
    refine lv_aload_n hx hb dM_add_17 rfl (lv_at hl 1 rfl) ?_
    refine g_get F hK hP (17) (by decide) rfl rfl iM 1 (by decide) k2_197 rfl dM_add_18 ?_
    refine lv_sipush (v := 1000) hx hb dM_add_21 (by decide) ?_
    refine lv_iload_n hx hb dM_add_24 rfl (lv_at hl 2 rfl) ?_
    refine lv_imul hx hb dM_add_25 ?_
    refine lv_iload hx hb dM_add_26 (lv_at hl 0 rfl) ?_
    refine lv_iadd hx hb dM_add_28 ?_
    rw [k_at]
    refine g_iald F hK hP (18) (by decide) 0 rfl rfl (vp_in_nI (show 1000 * d + (f + u) < 4000 by omega) (by omega)) dM_add_29 ?_
    rw [nI_clamp (show 1000 * d + (f + u) < 2 ^ 31 by omega), i2.2.1 d (f + u) hd (by omega)]
    refine g_iast F hK G hP hS (20) (by decide) 0 rfl rfl (by rw [i3.1]; exact vp_in_nI (show k + u < 1000 by omega) (by omega)) dM_add_30 (fun H locs hP hS => ?_)
    rw [i3.1, nI_clamp (show k + u < 2 ^ 31 by omega)] at hP
    have hP := P_of hP (en_m_draft _ _ _ _ _ _ _ _ _ _ _)
    refine lv_aload_n hx hb dM_add_31 rfl (lv_at hl 1 rfl) ?_
    refine lv_dup hx hb dM_add_32 rfl ?_
    refine g_get F hK hP (17) (by decide) rfl rfl iM 4 (by decide) k2_200 rfl dM_add_33 ?_
    refine lv_iconst (v := 1) hx hb dM_add_36 (by decide) ?_
    refine lv_iadd hx hb dM_add_37 ?_
    refine g_put F hK G hP hS (17) (by decide) rfl rfl iM tM tM_ok nM 4 (by decide) k2_200 rfl (ty := .int) (by decide +kernel) rfl rfl (Nat.le_of_ble_eq_true rfl) dM_add_38 (fun H locs hP hS => ?_)
    have hP := P_of hP (en_m_drafted _ _ _ _ _ _ _ _ _ _ _)
    rw [sr_n (show (0 : Nat) ≠ 3 by decide), i3.1, nI_1] at hP
    obtain ⟨hR1, hD1⟩ := RepDM.one (b := a_b a d (f + u)) i2 i3
    have hz1 : sr (sr M 3 (upd (M 3) (k + u) (nI (a_b a d (f + u))))) 0 (upd (M 0) 1 (nI (k + u + 1))) 0 0 = z := i1
    refine lv_iinc (k := 0) hx hb dM_add_41 hl rfl rfl (by decide) rfl (fun ls hl => ?_)
    have hl : lv_has ls 5 [(4, .int _), (0, .ref _), (1, .int _), (2, .int _), (3, .int _)] := hl
    refine lv_goto (tgt := 3) hx hb dM_add_44 (by decide) ?_
    have hl : lv_has ls 5 [(4, .int (nI (f + (u + 1)))), (0, .ref (ad 17)), (1, .int (nI d)), (2, .int (nI f)), (3, .int (nI t0))] := by rw [← Nat.add_assoc, ← nI_1]; exact hl
    have hD2 : RepDM (sr (sr M 3 (upd (M 3) (k + u) (nI (a_b a d (f + u))))) 0 (upd (M 0) 1 (nI (k + u + 1)))) (k + (u + 1)) (cat g k (fun i => a_b a d (f + i))) := hD1.to (Nat.add_assoc _ _ _) (fun i hi => cat_one g (fun i => a_b a d (f + i)) k u i)
    exact ih (t - 1) (u + 1, sr (sr M 3 (upd (M 3) (k + u) (nI (a_b a d (f + u))))) 0 (upd (M 0) 1 (nI (k + u + 1)))) _ _ _ (by omega) ⟨by show f + (u + 1) + (t - 1) = t0; omega, hz1, hR1, hD2, hl, hP, hS⟩
set_option maxHeartbeats 4000000 in
set_option maxRecDepth 100000 in
theorem c_M_become {a : Ab} {z : Int32} (G : gGeo ad 25 base) (ha : a_ok a) (hR : RepM M a) (hz : M 0 0 = z) {k d : Nat} {g : Nat → Nat} (hD : RepDM M k g) (hd : d < 4) (hk : k ≤ 1000) : Met l yM_become (Cond.code yM_become bM_become 3 (some .int) :: tws) { frames := 0, cells := 0, slots := 0, locals := 0 } (gPc (tw D cI cZ cT cJ base) D cl ad 25 base (en ad cI cZ cT cJ pi dr S M o) [.ref (ad 17), .int (nI d)]) (gQc D cl ad 25 base (some (.int (nI k))) (fun e => ∃ M1 : Nat → Nat → Int32, e = en ad cI cZ cT cJ pi dr S M1 o ∧ M1 0 0 = z ∧ RepM M1 (a_set a d k g))) 0 0 (gA base) := by
  refine Met.ofW (cc := bM_become) (maxL := 3) (ret := (some .int)) (by decide) rfl ?_
  intro p e s m args below meth c s₁ B hml hv
  obtain ⟨rfl, htw, hB, hP⟩ := hv
  have hx := B.exec
  have hb := B.bytes
  have hr := B.returns
  have hts0 := atoms_spec (ws := Cond.code yM_become bM_become 3 (some .int) :: tws) B.pre
  have hts : ∀ w ∈ tws, w.before _ s = true := fun w h => hts0 w (List.mem_cons_of_mem _ h)
  have hown : s.vm.findClass "PairedTextsModel" = some m.cls := findClass_of_methodNamed B.named
  have hlocks := B.notSynchronized
  have hno := B.noHandlers (hts0 _ List.mem_cons_self)
  have F : CallFix p m c bM_become 3 s _ tws "PairedTextsModel" := ⟨hx, hb, hml, hown, hts⟩
  have hK := htw.1
  have hS : va_S (gA base) s.heap s.heap [] := va_S.rf
  have hl := lv_entry ([.ref (ad 17), .int (nI d)]) (n := 3) (Nat.le_of_ble_eq_true rfl)
  rw [lg_entry_eq]
  generalize (lg_sl ([.ref (ad 17), .int (nI d)]) ++ List.replicate (3 - (lg_sl ([.ref (ad 17), .int (nI d)])).length) Slot.unset).toArray = ls at hl ⊢
  have hl : lv_has ls 3 [(0, .ref (ad 17)), (1, .int (nI d))] := hl
  refine lv_iconst (v := 0) hx hb dM_become_0 (by decide) ?_
  refine lv_istore_n hx hb dM_become_1 rfl hl (by decide) rfl (fun ls hl => ?_)
  have hl : lv_has ls 3 [(2, .int _), (0, .ref _), (1, .int _)] := hl
  have hP := P_of hP (show ∀ j, j < 25 → en ad cI cZ cT cJ pi dr S M o j = en ad cI cZ cT cJ pi dr S (sr M 1 (mfil (M 1) (1000 * d) g 0)) o j from fun j _ => by rw [mfil_0, sr_id rfl])
  refine W.loop (α := Nat) (fun t a1 ls H locs => a1 + t = k ∧ lv_has ls 3 [(2, .int (nI a1)), (0, .ref (ad 17)), (1, .int (nI d))] ∧ va_P D cl (gw ad (en ad cI cZ cT cJ pi dr S (sr M 1 (mfil (M 1) (1000 * d) g a1)) o) 25) H ∧ va_S (gA base) s.heap H locs) ?_ (t := k) (a := 0) ⟨by omega, hl, hP, hS⟩
  clear hl hP hS
  intro t a1 ls H locs hI ih
  obtain ⟨i0, hl, hP, hS⟩ := hI
  try dsimp only at i0 hl hP
  have h01 : (sr M 1 (mfil (M 1) (1000 * d) g a1)) 0 1 = nI k := hD.1
  by_cases hte : t = 0
  · obtain rfl : a1 = k := by omega
    refine lv_iload_n hx hb dM_become_2 rfl (lv_at hl 0 rfl) ?_
    refine lv_aload_n hx hb dM_become_3 rfl (lv_at hl 1 rfl) ?_
    refine g_get F hK hP (17) (by decide) rfl rfl iM 4 (by decide) k2_200 rfl dM_become_4 ?_
    rw [h01]
    refine lv_icmp_ge (tgt := 34) hx hb dM_become_7 (by decide) (fun _ => ?_) (fun hc => absurd (by rw [nI_leI (by omega) (by omega)]; omega) hc)
    refine lv_aload_n hx hb dM_become_34 rfl (lv_at hl 1 rfl) ?_
    refine g_get F hK hP (17) (by decide) rfl rfl iM 2 (by decide) k2_198 rfl dM_become_35 ?_
    refine lv_iload_n hx hb dM_become_38 rfl (lv_at hl 2 rfl) ?_
    refine lv_aload_n hx hb dM_become_39 rfl (lv_at hl 1 rfl) ?_
    refine g_get F hK hP (17) (by decide) rfl rfl iM 4 (by decide) k2_200 rfl dM_become_40 ?_
    rw [h01]
    refine g_iast F hK G hP hS (19) (by decide) 0 rfl rfl (vp_in_nI hd (by omega)) dM_become_43 (fun H locs hP hS => ?_)
    rw [nI_clamp (show d < 2 ^ 31 by omega)] at hP
    have hP := P_of hP (en_m_sizes _ _ _ _ _ _ _ _ _ _ _)
    refine lv_aload_n hx hb dM_become_44 rfl (lv_at hl 1 rfl) ?_
    refine g_get F hK hP (17) (by decide) rfl rfl iM 4 (by decide) k2_200 rfl dM_become_45 ?_
    exact W.iret hx hb hr (fun t ht hW => ⟨by rw [← hD.1]; rfl, ⟨_, ⟨sr (sr M 1 (mfil (M 1) (1000 * d) g a1)) 2 (upd (M 2) d (nI a1)), rfl, hz, RepM.become hR ha hd hk⟩, by rw [ht]; exact hP⟩, hS.F ht⟩) hS.2.2 dM_become_48
  · refine lv_iload_n hx hb dM_become_2 rfl (lv_at hl 0 rfl) ?_
    refine lv_aload_n hx hb dM_become_3 rfl (lv_at hl 1 rfl) ?_
    refine g_get F hK hP (17) (by decide) rfl rfl iM 4 (by decide) k2_200 rfl dM_become_4 ?_
    rw [h01]
    refine lv_icmp_ge (tgt := 34) hx hb dM_become_7 (by decide) (fun hc => absurd hc (by rw [nI_leI (by omega) (by omega)]; omega)) (fun _ => ?_)
    refine lv_aload_n hx hb dM_become_10 rfl (lv_at hl 1 rfl) ?_
    refine g_get F hK hP (17) (by decide) rfl rfl iM 1 (by decide) k2_197 rfl dM_become_11 ?_
    refine lv_sipush (v := 1000) hx hb dM_become_14 (by decide) ?_
    refine lv_iload_n hx hb dM_become_17 rfl (lv_at hl 2 rfl) ?_
    refine lv_imul hx hb dM_become_18 ?_
    refine lv_iload_n hx hb dM_become_19 rfl (lv_at hl 0 rfl) ?_
    refine lv_iadd hx hb dM_become_20 ?_
    refine lv_aload_n hx hb dM_become_21 rfl (lv_at hl 1 rfl) ?_
    refine g_get F hK hP (17) (by decide) rfl rfl iM 3 (by decide) k2_199 rfl dM_become_22 ?_
    refine lv_iload_n hx hb dM_become_25 rfl (lv_at hl 0 rfl) ?_
    rw [k_at]
    refine g_iald F hK hP (20) (by decide) 0 rfl rfl (vp_in_nI (show a1 < 1000 by omega) (by omega)) dM_become_26 ?_
    rw [nI_clamp (show a1 < 2 ^ 31 by omega), sr_n (show (3 : Nat) ≠ 1 by decide), hD.2 a1 (by omega)]
    refine g_iast F hK G hP hS (18) (by decide) 0 rfl rfl (vp_in_nI (show 1000 * d + a1 < 4000 by omega) (by omega)) dM_become_27 (fun H locs hP hS => ?_)
    rw [nI_clamp (show 1000 * d + a1 < 2 ^ 31 by omega), sr_s, mfil_s] at hP
    have hP := P_of hP (en_m_texts _ _ _ _ _ _ _ _ _ _ _)
    rw [sr_sr] at hP
    refine lv_iinc (k := 0) hx hb dM_become_28 hl rfl rfl (by decide) rfl (fun ls hl => ?_)
    have hl : lv_has ls 3 [(2, .int _), (0, .ref _), (1, .int _)] := hl
    refine lv_goto (tgt := 2) hx hb dM_become_31 (by decide) ?_
    have hl : lv_has ls 3 [(2, .int (nI (a1 + 1))), (0, .ref (ad 17)), (1, .int (nI d))] := by rw [← nI_1]; exact hl
    exact ih (t - 1) (a1 + 1) _ _ _ (by omega) ⟨by omega, hl, hP, hS⟩
set_option maxHeartbeats 4000000 in
set_option maxRecDepth 100000 in
theorem c_M_addRest {a : Ab} {z : Int32} (G : gGeo ad 25 base) (ha : a_ok a) (hR : RepM M a) (hz : M 0 0 = z) {k d f t0 i0 i1 : Nat} {g : Nat → Nat} (hD : RepDM M k g) (hd : d < 4) (hft : f ≤ t0) (ht : t0 ≤ a_n a d) (hi : i0 ≤ i1) (hj : i1 ≤ a_n a d - (t0 - f)) (hk : k + (i1 - i0) ≤ 1000) : Met l yM_addRest (Cond.code yM_addRest bM_addRest 8 none :: tws) { frames := 1, cells := 0, slots := 0, locals := 24 } (gPc (tw D cI cZ cT cJ base) D cl ad 25 base (en ad cI cZ cT cJ pi dr S M o) [.ref (ad 17), .int (nI d), .int (nI f), .int (nI t0), .int (nI i0), .int (nI i1)]) (gQc D cl ad 25 base none (fun e => ∃ M1 : Nat → Nat → Int32, e = en ad cI cZ cT cJ pi dr S M1 o ∧ M1 0 0 = z ∧ RepM M1 a ∧ RepDM M1 (k + (i1 - i0)) (cat g k (fun i => rst (a_b a d) f (t0 - f) (i0 + i))))) 0 0 (gA base) := by
  refine Met.ofW (cc := bM_addRest) (maxL := 8) (ret := none) (by decide) rfl ?_
  intro p e s m args below meth c s₁ B hml hv
  obtain ⟨rfl, htw, hB, hP⟩ := hv
  have hx := B.exec
  have hb := B.bytes
  have hr := B.returns
  have hts0 := atoms_spec (ws := Cond.code yM_addRest bM_addRest 8 none :: tws) B.pre
  have hts : ∀ w ∈ tws, w.before _ s = true := fun w h => hts0 w (List.mem_cons_of_mem _ h)
  have hown : s.vm.findClass "PairedTextsModel" = some m.cls := findClass_of_methodNamed B.named
  have hlocks := B.notSynchronized
  have hno := B.noHandlers (hts0 _ List.mem_cons_self)
  have F : CallFix p m c bM_addRest 8 s _ tws "PairedTextsModel" := ⟨hx, hb, hml, hown, hts⟩
  have hK := htw.1
  have hS : va_S (gA base) s.heap s.heap [] := va_S.rf
  have hl := lv_entry ([.ref (ad 17), .int (nI d), .int (nI f), .int (nI t0), .int (nI i0), .int (nI i1)]) (n := 8) (Nat.le_of_ble_eq_true rfl)
  rw [lg_entry_eq]
  generalize (lg_sl ([.ref (ad 17), .int (nI d), .int (nI f), .int (nI t0), .int (nI i0), .int (nI i1)]) ++ List.replicate (8 - (lg_sl ([.ref (ad 17), .int (nI d), .int (nI f), .int (nI t0), .int (nI i0), .int (nI i1)])).length) Slot.unset).toArray = ls at hl ⊢
  have hl : lv_has ls 8 [(0, .ref (ad 17)), (1, .int (nI d)), (2, .int (nI f)), (3, .int (nI t0)), (4, .int (nI i0)), (5, .int (nI i1))] := hl
  have hn := ha.1 d hd
  refine lv_iload hx hb dM_addRest_0 (lv_at hl 4 rfl) ?_
  refine lv_istore hx hb dM_addRest_2 hl (by decide) rfl (fun ls hl => ?_)
  have hl : lv_has ls 8 [(6, .int _), (0, .ref _), (1, .int _), (2, .int _), (3, .int _), (4, .int _), (5, .int _)] := hl
  have hl : lv_has ls 8 [(6, .int (nI (i0 + 0))), (0, .ref (ad 17)), (1, .int (nI d)), (2, .int (nI f)), (3, .int (nI t0)), (4, .int (nI i0)), (5, .int (nI i1))] := hl
  have hD : RepDM M (k + 0) (cat g k (fun i => rst (a_b a d) f (t0 - f) (i0 + i))) := hD.to rfl (fun i hi => by unfold cat; rw [if_pos (by omega)])
  refine W.loop (α := Nat × (Nat → Nat → Int32)) (fun t a1 ls H locs => i0 + a1.1 + t = i1 ∧ a1.2 0 0 = z ∧ RepM a1.2 a ∧ RepDM a1.2 (k + a1.1) (cat g k (fun i => rst (a_b a d) f (t0 - f) (i0 + i))) ∧ lv_has ls 8 [(6, .int (nI (i0 + a1.1))), (0, .ref (ad 17)), (1, .int (nI d)), (2, .int (nI f)), (3, .int (nI t0)), (4, .int (nI i0)), (5, .int (nI i1))] ∧ va_P D cl (gw ad (en ad cI cZ cT cJ pi dr S a1.2 o) 25) H ∧ va_S (gA base) s.heap H locs) ?_ (t := (i1 - i0)) (a := (0, M)) ⟨by show i0 + 0 + (i1 - i0) = i1; omega, hz, hR, hD, hl, hP, hS⟩
  clear hl hP hS
  intro t a1 ls H locs hI ih
  obtain ⟨u, M⟩ := a1
  obtain ⟨i2, i3, i4, i5, hl, hP, hS⟩ := hI
  try dsimp only at i2 i3 i4 i5 hl hP
  by_cases hte : t = 0
  · obtain rfl : u = i1 - i0 := by omega
    refine lv_iload hx hb dM_addRest_4 (lv_at hl 0 rfl) ?_
    refine lv_iload hx hb dM_addRest_6 (lv_at hl 6 rfl) ?_
    refine lv_icmp_ge (tgt := 47) hx hb dM_addRest_8 (by decide) (fun _ => ?_) (fun hc => absurd (by rw [nI_leI (by omega) (by omega)]; omega) hc)
    exact W.vret hx hb hr (fun t ht hW => ⟨rfl, ⟨_, ⟨_, rfl, i3, i4, i5⟩, by rw [ht]; exact hP⟩, hS.F ht⟩) hS.2.2 dM_addRest_47
  · refine lv_iload hx hb dM_addRest_4 (lv_at hl 0 rfl) ?_
    refine lv_iload hx hb dM_addRest_6 (lv_at hl 6 rfl) ?_
    refine lv_icmp_ge (tgt := 47) hx hb dM_addRest_8 (by decide) (fun hc => absurd hc (by rw [nI_leI (by omega) (by omega)]; omega)) (fun _ => ?_)
    refine lv_iload hx hb dM_addRest_11 (lv_at hl 0 rfl) ?_
    refine lv_iload_n hx hb dM_addRest_13 rfl (lv_at hl 3 rfl) ?_
    refine lv_icmp_ge (tgt := 22) hx hb dM_addRest_14 (by decide) (fun hc => ?_) (fun hc => ?_)
    · rw [nI_leI (by omega) (by omega)] at hc
      refine lv_iload hx hb dM_addRest_22 (lv_at hl 0 rfl) ?_
      refine lv_iload_n hx hb dM_addRest_24 rfl (lv_at hl 4 rfl) ?_
      refine lv_iadd hx hb dM_addRest_25 ?_
      rw [nI_add]
      refine lv_iload_n hx hb dM_addRest_26 rfl (lv_at hl 3 rfl) ?_
      refine lv_isub hx hb dM_addRest_27 ?_
      rw [pk_sub (by omega)]
      refine lv_istore hx hb dM_addRest_28 hl (by decide) rfl (fun ls hl => ?_)
      have hl : lv_has ls 8 [(7, .int _), (6, .int _), (0, .ref _), (1, .int _), (2, .int _), (3, .int _), (4, .int _), (5, .int _)] := hl
      refine lv_aload_n hx hb dM_addRest_30 rfl (lv_at hl 2 rfl) ?_
      refine lv_iload_n hx hb dM_addRest_31 rfl (lv_at hl 3 rfl) ?_
      refine lv_iload hx hb dM_addRest_32 (lv_at hl 0 rfl) ?_
      refine lv_iload hx hb dM_addRest_34 (lv_at hl 0 rfl) ?_
      refine lv_iconst (v := 1) hx hb dM_addRest_36 (by decide) ?_
      refine lv_iadd hx hb dM_addRest_37 ?_
      rw [nI_1]
      refine g_V (k := 3) F htw hB hS hP (17) (by decide) rfl rfl (c_M_add (k := k + u) (f := i0 + u + t0 - f) (t0 := i0 + u + t0 - f + 1) G ha i4 i3 i5 hd (by omega) (by omega) (by omega)) k3_18 k3_20 k0_5 k1_5 k3_21 (by decide +kernel) rfl rfl ⟨Nat.le_of_ble_eq_true rfl, Nat.le_of_ble_eq_true rfl⟩ rfl hl.1 rfl (Nat.le_of_ble_eq_true rfl) dM_addRest_38 ⟨Nat.le_of_ble_eq_true rfl, Nat.le_of_ble_eq_true rfl⟩ (fun en1 H locs he hP hS => ?_)
      obtain ⟨M2, rfl, hz2, hR2, hD2⟩ := he
      refine lv_iinc (k := 1) hx hb dM_addRest_41 hl rfl rfl (by decide) rfl (fun ls hl => ?_)
      have hl : lv_has ls 8 [(6, .int _), (7, .int _), (0, .ref _), (1, .int _), (2, .int _), (3, .int _), (4, .int _), (5, .int _)] := hl
      refine lv_goto (tgt := 4) hx hb dM_addRest_44 (by decide) ?_
      have hl : lv_has ls 8 [(6, .int (nI (i0 + (u + 1)))), (0, .ref (ad 17)), (1, .int (nI d)), (2, .int (nI f)), (3, .int (nI t0)), (4, .int (nI i0)), (5, .int (nI i1))] := (lv_sub hl [0, 2, 3, 4, 5, 6, 7] rfl : lv_has ls 8 _) |> fun hl => by rw [← Nat.add_assoc, ← nI_1]; exact hl
      have hat : rst (a_b a d) f (t0 - f) (i0 + u) = a_b a d (i0 + u + t0 - f) := by unfold rst; rw [if_neg (by omega)]; congr 1; omega
      have hD3 : RepDM M2 (k + (u + 1)) (cat g k (fun i => rst (a_b a d) f (t0 - f) (i0 + i))) := hD2.to (by omega) (fun i hi => by rw [← cat_one g (fun i => rst (a_b a d) f (t0 - f) (i0 + i)) k u i, hat]; by_cases e1 : i = k + u; (rw [if_pos e1, e1]; show (if k + u < k + u then _ else _) = _; rw [if_neg (by omega), Nat.sub_self]; rfl); (rw [if_neg e1]; show (if i < k + u then _ else _) = _; rw [if_pos (by omega)]))
      exact ih (t - 1) (u + 1, M2) _ _ _ (by omega) ⟨by show i0 + (u + 1) + (t - 1) = i1; omega, hz2, hR2, hD3, hl, hP, hS⟩
    · rw [nI_leI (by omega) (by omega)] at hc
      refine lv_iload hx hb dM_addRest_17 (lv_at hl 0 rfl) ?_
      refine lv_goto (tgt := 28) hx hb dM_addRest_19 (by decide) ?_
      refine lv_istore hx hb dM_addRest_28 hl (by decide) rfl (fun ls hl => ?_)
      have hl : lv_has ls 8 [(7, .int _), (6, .int _), (0, .ref _), (1, .int _), (2, .int _), (3, .int _), (4, .int _), (5, .int _)] := hl
      refine lv_aload_n hx hb dM_addRest_30 rfl (lv_at hl 2 rfl) ?_
      refine lv_iload_n hx hb dM_addRest_31 rfl (lv_at hl 3 rfl) ?_
      refine lv_iload hx hb dM_addRest_32 (lv_at hl 0 rfl) ?_
      refine lv_iload hx hb dM_addRest_34 (lv_at hl 0 rfl) ?_
      refine lv_iconst (v := 1) hx hb dM_addRest_36 (by decide) ?_
      refine lv_iadd hx hb dM_addRest_37 ?_
      rw [nI_1]
      refine g_V (k := 3) F htw hB hS hP (17) (by decide) rfl rfl (c_M_add (k := k + u) (f := i0 + u) (t0 := i0 + u + 1) G ha i4 i3 i5 hd (by omega) (by omega) (by omega)) k3_18 k3_20 k0_5 k1_5 k3_21 (by decide +kernel) rfl rfl ⟨Nat.le_of_ble_eq_true rfl, Nat.le_of_ble_eq_true rfl⟩ rfl hl.1 rfl (Nat.le_of_ble_eq_true rfl) dM_addRest_38 ⟨Nat.le_of_ble_eq_true rfl, Nat.le_of_ble_eq_true rfl⟩ (fun en1 H locs he hP hS => ?_)
      obtain ⟨M2, rfl, hz2, hR2, hD2⟩ := he
      refine lv_iinc (k := 1) hx hb dM_addRest_41 hl rfl rfl (by decide) rfl (fun ls hl => ?_)
      have hl : lv_has ls 8 [(6, .int _), (7, .int _), (0, .ref _), (1, .int _), (2, .int _), (3, .int _), (4, .int _), (5, .int _)] := hl
      refine lv_goto (tgt := 4) hx hb dM_addRest_44 (by decide) ?_
      have hl : lv_has ls 8 [(6, .int (nI (i0 + (u + 1)))), (0, .ref (ad 17)), (1, .int (nI d)), (2, .int (nI f)), (3, .int (nI t0)), (4, .int (nI i0)), (5, .int (nI i1))] := (lv_sub hl [0, 2, 3, 4, 5, 6, 7] rfl : lv_has ls 8 _) |> fun hl => by rw [← Nat.add_assoc, ← nI_1]; exact hl
      have hat : rst (a_b a d) f (t0 - f) (i0 + u) = a_b a d (i0 + u) := by unfold rst; rw [if_pos (by omega)]
      have hD3 : RepDM M2 (k + (u + 1)) (cat g k (fun i => rst (a_b a d) f (t0 - f) (i0 + i))) := hD2.to (by omega) (fun i hi => by rw [← cat_one g (fun i => rst (a_b a d) f (t0 - f) (i0 + i)) k u i, hat]; by_cases e1 : i = k + u; (rw [if_pos e1, e1]; show (if k + u < k + u then _ else _) = _; rw [if_neg (by omega), Nat.sub_self]; rfl); (rw [if_neg e1]; show (if i < k + u then _ else _) = _; rw [if_pos (by omega)]))
      exact ih (t - 1) (u + 1, M2) _ _ _ (by omega) ⟨by show i0 + (u + 1) + (t - 1) = i1; omega, hz2, hR2, hD3, hl, hP, hS⟩
set_option maxHeartbeats 4000000 in
set_option maxRecDepth 100000 in
theorem c_M_common {a : Ab} (ha : a_ok a) (hR : RepM M a) {d i d2 j : Nat} (hd : d < 4) (he : d2 < 4) (hi : i ≤ a_n a d) (hj : j ≤ a_n a d2) : Met l yM_common (Cond.code yM_common bM_common 6 (some .int) :: tws) { frames := 0, cells := 0, slots := 0, locals := 0 } (gPc (tw D cI cZ cT cJ base) D cl ad 25 base (en ad cI cZ cT cJ pi dr S M o) [.ref (ad 17), .int (nI d), .int (nI i), .int (nI d2), .int (nI j)]) (gQc D cl ad 25 base (some (.int (nI (cpr a d i d2 j)))) (fun e => e = en ad cI cZ cT cJ pi dr S M o)) 0 0 (gA base) := by
  refine Met.ofW (cc := bM_common) (maxL := 6) (ret := (some .int)) (by decide) rfl ?_
  intro p e s m args below meth c s₁ B hml hv
  obtain ⟨rfl, htw, hB, hP⟩ := hv
  have hx := B.exec
  have hb := B.bytes
  have hr := B.returns
  have hts0 := atoms_spec (ws := Cond.code yM_common bM_common 6 (some .int) :: tws) B.pre
  have hts : ∀ w ∈ tws, w.before _ s = true := fun w h => hts0 w (List.mem_cons_of_mem _ h)
  have hown : s.vm.findClass "PairedTextsModel" = some m.cls := findClass_of_methodNamed B.named
  have hlocks := B.notSynchronized
  have hno := B.noHandlers (hts0 _ List.mem_cons_self)
  have F : CallFix p m c bM_common 6 s _ tws "PairedTextsModel" := ⟨hx, hb, hml, hown, hts⟩
  have hK := htw.1
  have hS : va_S (gA base) s.heap s.heap [] := va_S.rf
  have hl := lv_entry ([.ref (ad 17), .int (nI d), .int (nI i), .int (nI d2), .int (nI j)]) (n := 6) (Nat.le_of_ble_eq_true rfl)
  rw [lg_entry_eq]
  generalize (lg_sl ([.ref (ad 17), .int (nI d), .int (nI i), .int (nI d2), .int (nI j)]) ++ List.replicate (6 - (lg_sl ([.ref (ad 17), .int (nI d), .int (nI i), .int (nI d2), .int (nI j)])).length) Slot.unset).toArray = ls at hl ⊢
  have hl : lv_has ls 6 [(0, .ref (ad 17)), (1, .int (nI d)), (2, .int (nI i)), (3, .int (nI d2)), (4, .int (nI j))] := hl
  have h1 := ha.1 d hd
  have h2 := ha.1 d2 he
  have e1 := hR.1 d hd
  have e2 := hR.1 d2 he
  unfold cpr
  generalize hmm : (min (a_n a d - i) (a_n a d2 - j)) = mm
  have hm1 : mm ≤ 1000 ∧ i + mm ≤ a_n a d ∧ j + mm ≤ a_n a d2 ∧ (i + mm = a_n a d ∨ j + mm = a_n a d2) := by omega
  refine lv_iconst (v := 0) hx hb dM_common_0 (by decide) ?_
  refine lv_istore hx hb dM_common_1 hl (by decide) rfl (fun ls hl => ?_)
  have hl : lv_has ls 6 [(5, .int _), (0, .ref _), (1, .int _), (2, .int _), (3, .int _), (4, .int _)] := hl
  refine W.loop (α := Nat) (fun t a1 ls H locs => a1 + t = mm ∧ cpx (fun c => decide (a_b a d (i + c) = a_b a d2 (j + c))) t a1 = cpx (fun c => decide (a_b a d (i + c) = a_b a d2 (j + c))) mm 0 ∧ lv_has ls 6 [(5, .int (nI a1)), (0, .ref (ad 17)), (1, .int (nI d)), (2, .int (nI i)), (3, .int (nI d2)), (4, .int (nI j))] ∧ va_P D cl (gw ad (en ad cI cZ cT cJ pi dr S M o) 25) H ∧ va_S (gA base) s.heap H locs) ?_ (t := mm) (a := 0) ⟨by omega, rfl, hl, hP, hS⟩
  clear hl hP hS
  intro t a1 ls H locs hI ih
  obtain ⟨i0, i1, hl, hP, hS⟩ := hI
  try dsimp only at i0 i1 hl hP
  refine lv_iload_n hx hb dM_common_3 rfl (lv_at hl 3 rfl) ?_
  refine lv_iload hx hb dM_common_4 (lv_at hl 0 rfl) ?_
  refine lv_iadd hx hb dM_common_6 ?_
  rw [nI_add]
  refine lv_aload_n hx hb dM_common_7 rfl (lv_at hl 1 rfl) ?_
  refine g_get F hK hP (17) (by decide) rfl rfl iM 2 (by decide) k2_198 rfl dM_common_8 ?_
  refine lv_iload_n hx hb dM_common_11 rfl (lv_at hl 2 rfl) ?_
  refine g_iald F hK hP (19) (by decide) 0 rfl rfl (vp_in_nI hd (by omega)) dM_common_12 ?_
  rw [nI_clamp (show d < 2 ^ 31 by omega), e1]
  refine lv_icmp_ge (tgt := 70) hx hb dM_common_13 (by decide) (fun hc => ?_) (fun hc => ?_)
  · rw [nI_leI (by omega) (by omega)] at hc
    obtain rfl : t = 0 := by omega
    refine lv_iload hx hb dM_common_70 (lv_at hl 0 rfl) ?_
    have i1 : a1 = cpx (fun c => decide (a_b a d (i + c) = a_b a d2 (j + c))) mm 0 := i1
    exact W.iret hx hb hr (fun t ht hW => ⟨by rw [← i1], ⟨_, rfl, by rw [ht]; exact hP⟩, hS.F ht⟩) hS.2.2 dM_common_72
  · rw [nI_leI (by omega) (by omega)] at hc
    refine lv_iload hx hb dM_common_16 (lv_at hl 5 rfl) ?_
    refine lv_iload hx hb dM_common_18 (lv_at hl 0 rfl) ?_
    refine lv_iadd hx hb dM_common_20 ?_
    rw [nI_add]
    refine lv_aload_n hx hb dM_common_21 rfl (lv_at hl 1 rfl) ?_
    refine g_get F hK hP (17) (by decide) rfl rfl iM 2 (by decide) k2_198 rfl dM_common_22 ?_
    refine lv_iload_n hx hb dM_common_25 rfl (lv_at hl 4 rfl) ?_
    refine g_iald F hK hP (19) (by decide) 0 rfl rfl (vp_in_nI he (by omega)) dM_common_26 ?_
    rw [nI_clamp (show d2 < 2 ^ 31 by omega), e2]
    refine lv_icmp_ge (tgt := 70) hx hb dM_common_27 (by decide) (fun hd3 => ?_) (fun hd3 => ?_)
    · rw [nI_leI (by omega) (by omega)] at hd3
      obtain rfl : t = 0 := by omega
      refine lv_iload hx hb dM_common_70 (lv_at hl 0 rfl) ?_
      have i1 : a1 = cpx (fun c => decide (a_b a d (i + c) = a_b a d2 (j + c))) mm 0 := i1
      exact W.iret hx hb hr (fun t ht hW => ⟨by rw [← i1], ⟨_, rfl, by rw [ht]; exact hP⟩, hS.F ht⟩) hS.2.2 dM_common_72
    · rw [nI_leI (by omega) (by omega)] at hd3
      obtain ⟨t, rfl⟩ : ∃ u, t = u + 1 := ⟨t - 1, by omega⟩
      refine lv_aload_n hx hb dM_common_30 rfl (lv_at hl 1 rfl) ?_
      refine g_get F hK hP (17) (by decide) rfl rfl iM 1 (by decide) k2_197 rfl dM_common_31 ?_
      refine lv_sipush (v := 1000) hx hb dM_common_34 (by decide) ?_
      refine lv_iload_n hx hb dM_common_37 rfl (lv_at hl 2 rfl) ?_
      refine lv_imul hx hb dM_common_38 ?_
      refine lv_iload_n hx hb dM_common_39 rfl (lv_at hl 3 rfl) ?_
      refine lv_iadd hx hb dM_common_40 ?_
      rw [k_at]
      refine lv_iload hx hb dM_common_41 (lv_at hl 0 rfl) ?_
      refine lv_iadd hx hb dM_common_43 ?_
      rw [nI_add]
      refine g_iald F hK hP (18) (by decide) 0 rfl rfl (vp_in_nI (show 1000 * d + i + a1 < 4000 by omega) (by omega)) dM_common_44 ?_
      rw [nI_clamp (show 1000 * d + i + a1 < 2 ^ 31 by omega), Nat.add_assoc (1000 * d) i a1, hR.2.1 d (i + a1) hd (by omega)]
      refine lv_aload_n hx hb dM_common_45 rfl (lv_at hl 1 rfl) ?_
      refine g_get F hK hP (17) (by decide) rfl rfl iM 1 (by decide) k2_197 rfl dM_common_46 ?_
      refine lv_sipush (v := 1000) hx hb dM_common_49 (by decide) ?_
      refine lv_iload_n hx hb dM_common_52 rfl (lv_at hl 4 rfl) ?_
      refine lv_imul hx hb dM_common_53 ?_
      refine lv_iload hx hb dM_common_54 (lv_at hl 5 rfl) ?_
      refine lv_iadd hx hb dM_common_56 ?_
      rw [k_at]
      refine lv_iload hx hb dM_common_57 (lv_at hl 0 rfl) ?_
      refine lv_iadd hx hb dM_common_59 ?_
      rw [nI_add]
      refine g_iald F hK hP (18) (by decide) 0 rfl rfl (vp_in_nI (show 1000 * d2 + j + a1 < 4000 by omega) (by omega)) dM_common_60 ?_
      rw [nI_clamp (show 1000 * d2 + j + a1 < 2 ^ 31 by omega), Nat.add_assoc (1000 * d2) j a1, hR.2.1 d2 (j + a1) he (by omega)]
      have b1 := ha.2.1 d (i + a1) hd (by omega)
      have b2 := ha.2.1 d2 (j + a1) he (by omega)
      have i1 : (if decide (a_b a d (i + a1) = a_b a d2 (j + a1)) then cpx (fun c => decide (a_b a d (i + c) = a_b a d2 (j + c))) t (a1 + 1) else a1) = cpx (fun c => decide (a_b a d (i + c) = a_b a d2 (j + c))) mm 0 := i1
      refine lv_icmp_ne (tgt := 70) hx hb dM_common_61 (by decide) (fun hx4 => ?_) (fun hx4 => ?_)
      · rw [nI_eq (by omega) (by omega)] at hx4
        rw [if_neg (by simpa using hx4)] at i1
        refine lv_iload hx hb dM_common_70 (lv_at hl 0 rfl) ?_
        exact W.iret hx hb hr (fun t ht hW => ⟨by rw [← i1], ⟨_, rfl, by rw [ht]; exact hP⟩, hS.F ht⟩) hS.2.2 dM_common_72
      · simp only [ne_eq, Decidable.not_not, nI_eq (show a_b a d (i + a1) < 2 ^ 31 by omega) (show a_b a d2 (j + a1) < 2 ^ 31 by omega)] at hx4
        rw [if_pos (by simpa using hx4)] at i1
        refine lv_iinc (k := 0) hx hb dM_common_64 hl rfl rfl (by decide) rfl (fun ls hl => ?_)
        have hl : lv_has ls 6 [(5, .int _), (0, .ref _), (1, .int _), (2, .int _), (3, .int _), (4, .int _)] := hl
        refine lv_goto (tgt := 3) hx hb dM_common_67 (by decide) ?_
        have hl : lv_has ls 6 [(5, .int (nI (a1 + 1))), (0, .ref (ad 17)), (1, .int (nI d)), (2, .int (nI i)), (3, .int (nI d2)), (4, .int (nI j))] := by rw [← nI_1]; exact hl
        exact ih t (a1 + 1) _ _ _ (by omega) ⟨by omega, i1, hl, hP, hS⟩
set_option maxHeartbeats 4000000 in
set_option maxRecDepth 100000 in
theorem c_M_pieces_no {e0 : Nat → va_E} (i j x0 y0 : Int32) : Met l yM_pieces (Cond.code yM_pieces bM_pieces 5 (some .int) :: tws) { frames := 0, cells := 0, slots := 0, locals := 0 } (gPc (tw D cI cZ cT cJ base) D cl ad 25 base (e0) [.int 0, .int i, .int j, .int x0, .int y0]) (gQc D cl ad 25 base (some (.int 1)) (fun e => e = e0)) 0 0 (gA base) := by
  refine Met.ofW (cc := bM_pieces) (maxL := 5) (ret := (some .int)) (by decide) rfl ?_
  intro p e s m args below meth c s₁ B hml hv
  obtain ⟨rfl, htw, hB, hP⟩ := hv
  have hx := B.exec
  have hb := B.bytes
  have hr := B.returns
  have hts0 := atoms_spec (ws := Cond.code yM_pieces bM_pieces 5 (some .int) :: tws) B.pre
  have hts : ∀ w ∈ tws, w.before _ s = true := fun w h => hts0 w (List.mem_cons_of_mem _ h)
  have hown : s.vm.findClass "PairedTextsModel" = some m.cls := findClass_of_methodNamed B.named
  have hlocks := B.notSynchronized
  have hno := B.noHandlers (hts0 _ List.mem_cons_self)
  have F : CallFix p m c bM_pieces 5 s _ tws "PairedTextsModel" := ⟨hx, hb, hml, hown, hts⟩
  have hK := htw.1
  have hS : va_S (gA base) s.heap s.heap [] := va_S.rf
  have hl := lv_entry ([.int 0, .int i, .int j, .int x0, .int y0]) (n := 5) (Nat.le_of_ble_eq_true rfl)
  rw [lg_entry_eq]
  generalize (lg_sl ([.int 0, .int i, .int j, .int x0, .int y0]) ++ List.replicate (5 - (lg_sl ([.int 0, .int i, .int j, .int x0, .int y0])).length) Slot.unset).toArray = ls at hl ⊢
  have hl : lv_has ls 5 [(0, .int 0), (1, .int i), (2, .int j), (3, .int x0), (4, .int y0)] := hl
  refine lv_iload_n hx hb dM_pieces_0 rfl (lv_at hl 0 rfl) ?_
  refine lv_if_ne (tgt := 8) hx hb dM_pieces_1 (by decide) (fun hc => absurd (rfl : (0 : Int32) = 0) hc) (fun _ => ?_)
  refine lv_iconst (v := 1) hx hb dM_pieces_4 (by decide) ?_
  refine lv_goto (tgt := 32) hx hb dM_pieces_5 (by decide) ?_
  exact W.iret hx hb hr (fun t ht hW => ⟨rfl, ⟨_, rfl, by rw [ht]; exact hP⟩, hS.F ht⟩) hS.2.2 dM_pieces_32
set_option maxHeartbeats 4000000 in
set_option maxRecDepth 100000 in
theorem c_M_pieces {e0 : Nat → va_E} (i j : Int32) {n1 n2 : Nat} (h1 : n1 ≤ 1000) (h2 : n2 ≤ 1000) : Met l yM_pieces (Cond.code yM_pieces bM_pieces 5 (some .int) :: tws) { frames := 0, cells := 0, slots := 0, locals := 0 } (gPc (tw D cI cZ cT cJ base) D cl ad 25 base (e0) [.int 1, .int i, .int j, .int (nI n1), .int (nI n2)]) (gQc D cl ad 25 base (some (.int (if pcL i n1 && pcL j n2 then 0 else 2))) (fun e => e = e0)) 0 0 (gA base) := by
  refine Met.ofW (cc := bM_pieces) (maxL := 5) (ret := (some .int)) (by decide) rfl ?_
  intro p e s m args below meth c s₁ B hml hv
  obtain ⟨rfl, htw, hB, hP⟩ := hv
  have hx := B.exec
  have hb := B.bytes
  have hr := B.returns
  have hts0 := atoms_spec (ws := Cond.code yM_pieces bM_pieces 5 (some .int) :: tws) B.pre
  have hts : ∀ w ∈ tws, w.before _ s = true := fun w h => hts0 w (List.mem_cons_of_mem _ h)
  have hown : s.vm.findClass "PairedTextsModel" = some m.cls := findClass_of_methodNamed B.named
  have hlocks := B.notSynchronized
  have hno := B.noHandlers (hts0 _ List.mem_cons_self)
  have F : CallFix p m c bM_pieces 5 s _ tws "PairedTextsModel" := ⟨hx, hb, hml, hown, hts⟩
  have hK := htw.1
  have hS : va_S (gA base) s.heap s.heap [] := va_S.rf
  have hl := lv_entry ([.int 1, .int i, .int j, .int (nI n1), .int (nI n2)]) (n := 5) (Nat.le_of_ble_eq_true rfl)
  rw [lg_entry_eq]
  generalize (lg_sl ([.int 1, .int i, .int j, .int (nI n1), .int (nI n2)]) ++ List.replicate (5 - (lg_sl ([.int 1, .int i, .int j, .int (nI n1), .int (nI n2)])).length) Slot.unset).toArray = ls at hl ⊢
  have hl : lv_has ls 5 [(0, .int 1), (1, .int i), (2, .int j), (3, .int (nI n1)), (4, .int (nI n2))] := hl
  have z0 : (0 : Int32).toInt = 0 := rfl
  have z1 := nI_toInt (show n1 < 2 ^ 31 by omega)
  have z2 := nI_toInt (show n2 < 2 ^ 31 by omega)
  refine lv_iload_n hx hb dM_pieces_0 rfl (lv_at hl 0 rfl) ?_
  refine lv_if_ne (tgt := 8) hx hb dM_pieces_1 (by decide) (fun _ => ?_) (fun hc => absurd hc (show ¬ (1 : Int32) = 0 by decide))
  refine lv_iload_n hx hb dM_pieces_8 rfl (lv_at hl 1 rfl) ?_
  refine lv_if_lt (tgt := 27) hx hb dM_pieces_9 (by decide) (fun q0 => ?_) (fun q0 => ?_)
  · simp only [Int32.lt_iff_toInt_lt, Int32.le_iff_toInt_le] at q0
    refine lv_iconst (v := 2) hx hb dM_pieces_27 (by decide) ?_
    refine lv_goto (tgt := 32) hx hb dM_pieces_28 (by decide) ?_
    have hv : (if pcL i n1 && pcL j n2 then (0 : Int32) else 2) = 2 := if_neg (by unfold pcL; simp only [Bool.and_eq_true, decide_eq_true_eq]; omega)
    exact W.iret hx hb hr (fun t ht hW => ⟨by rw [hv], ⟨_, rfl, by rw [ht]; exact hP⟩, hS.F ht⟩) hS.2.2 dM_pieces_32
  · simp only [Int32.lt_iff_toInt_lt, Int32.le_iff_toInt_le] at q0
    refine lv_iload_n hx hb dM_pieces_12 rfl (lv_at hl 1 rfl) ?_
    refine lv_iload_n hx hb dM_pieces_13 rfl (lv_at hl 3 rfl) ?_
    refine lv_icmp_gt (tgt := 27) hx hb dM_pieces_14 (by decide) (fun q1 => ?_) (fun q1 => ?_)
    · simp only [Int32.lt_iff_toInt_lt, Int32.le_iff_toInt_le] at q1
      refine lv_iconst (v := 2) hx hb dM_pieces_27 (by decide) ?_
      refine lv_goto (tgt := 32) hx hb dM_pieces_28 (by decide) ?_
      have hv : (if pcL i n1 && pcL j n2 then (0 : Int32) else 2) = 2 := if_neg (by unfold pcL; simp only [Bool.and_eq_true, decide_eq_true_eq]; omega)
      exact W.iret hx hb hr (fun t ht hW => ⟨by rw [hv], ⟨_, rfl, by rw [ht]; exact hP⟩, hS.F ht⟩) hS.2.2 dM_pieces_32
    · simp only [Int32.lt_iff_toInt_lt, Int32.le_iff_toInt_le] at q1
      refine lv_iload_n hx hb dM_pieces_17 rfl (lv_at hl 2 rfl) ?_
      refine lv_if_lt (tgt := 27) hx hb dM_pieces_18 (by decide) (fun q2 => ?_) (fun q2 => ?_)
      · simp only [Int32.lt_iff_toInt_lt, Int32.le_iff_toInt_le] at q2
        refine lv_iconst (v := 2) hx hb dM_pieces_27 (by decide) ?_
        refine lv_goto (tgt := 32) hx hb dM_pieces_28 (by decide) ?_
        have hv : (if pcL i n1 && pcL j n2 then (0 : Int32) else 2) = 2 := if_neg (by unfold pcL; simp only [Bool.and_eq_true, decide_eq_true_eq]; omega)
        exact W.iret hx hb hr (fun t ht hW => ⟨by rw [hv], ⟨_, rfl, by rw [ht]; exact hP⟩, hS.F ht⟩) hS.2.2 dM_pieces_32
      · simp only [Int32.lt_iff_toInt_lt, Int32.le_iff_toInt_le] at q2
        refine lv_iload_n hx hb dM_pieces_21 rfl (lv_at hl 2 rfl) ?_
        refine lv_iload hx hb dM_pieces_22 (lv_at hl 4 rfl) ?_
        refine lv_icmp_le (tgt := 31) hx hb dM_pieces_24 (by decide) (fun q3 => ?_) (fun q3 => ?_)
        · simp only [Int32.lt_iff_toInt_lt, Int32.le_iff_toInt_le] at q3
          refine lv_iconst (v := 0) hx hb dM_pieces_31 (by decide) ?_
          have hv : (if pcL i n1 && pcL j n2 then (0 : Int32) else 2) = 0 := if_pos (by unfold pcL; simp only [Bool.and_eq_true, decide_eq_true_eq]; omega)
          exact W.iret hx hb hr (fun t ht hW => ⟨by rw [hv], ⟨_, rfl, by rw [ht]; exact hP⟩, hS.F ht⟩) hS.2.2 dM_pieces_32
        · simp only [Int32.lt_iff_toInt_lt, Int32.le_iff_toInt_le] at q3
          refine lv_iconst (v := 2) hx hb dM_pieces_27 (by decide) ?_
          refine lv_goto (tgt := 32) hx hb dM_pieces_28 (by decide) ?_
          have hv : (if pcL i n1 && pcL j n2 then (0 : Int32) else 2) = 2 := if_neg (by unfold pcL; simp only [Bool.and_eq_true, decide_eq_true_eq]; omega)
          exact W.iret hx hb hr (fun t ht hW => ⟨by rw [hv], ⟨_, rfl, by rw [ht]; exact hP⟩, hS.F ht⟩) hS.2.2 dM_pieces_32
def sm (z : Nat) : Nat := if z ≥ 2305843009213693951 then z - 2305843009213693951 else z
set_option maxHeartbeats 4000000 in
set_option maxRecDepth 100000 in
theorem c_M_sum {e0 : Nat → va_E} {x y : Nat} (h : x + y < 2 ^ 63) : Met l yM_sum (Cond.code yM_sum bM_sum 6 (some .long) :: tws) { frames := 0, cells := 0, slots := 0, locals := 0 } (gPc (tw D cI cZ cT cJ base) D cl ad 25 base (e0) [.long (lN x), .long (lN y)]) (gQc D cl ad 25 base (some (.long (lN (sm (x + y))))) (fun e => e = e0)) 0 0 (gA base) := by
  refine Met.ofW (cc := bM_sum) (maxL := 6) (ret := (some .long)) (by decide) rfl ?_
  intro p e s m args below meth c s₁ B hml hv
  obtain ⟨rfl, htw, hB, hP⟩ := hv
  have hx := B.exec
  have hb := B.bytes
  have hr := B.returns
  have hts0 := atoms_spec (ws := Cond.code yM_sum bM_sum 6 (some .long) :: tws) B.pre
  have hts : ∀ w ∈ tws, w.before _ s = true := fun w h => hts0 w (List.mem_cons_of_mem _ h)
  have hown : s.vm.findClass "PairedTextsModel" = some m.cls := findClass_of_methodNamed B.named
  have hlocks := B.notSynchronized
  have hno := B.noHandlers (hts0 _ List.mem_cons_self)
  have F : CallFix p m c bM_sum 6 s _ tws "PairedTextsModel" := ⟨hx, hb, hml, hown, hts⟩
  have hK := htw.1
  have hS : va_S (gA base) s.heap s.heap [] := va_S.rf
  have hl := lv_entry ([.long (lN x), .long (lN y)]) (n := 6) (Nat.le_of_ble_eq_true rfl)
  rw [lg_entry_eq]
  generalize (lg_sl ([.long (lN x), .long (lN y)]) ++ List.replicate (6 - (lg_sl ([.long (lN x), .long (lN y)])).length) Slot.unset).toArray = ls at hl ⊢
  have hl : lv_has ls 6 [(0, .long (lN x)), (2, .long (lN y))] := hl
  refine lv_lload_n hx hb dM_sum_0 rfl (lv_at hl 0 rfl) ?_
  refine lv_lload_n hx hb dM_sum_1 rfl (lv_at hl 1 rfl) ?_
  refine lv_ladd hx hb dM_sum_2 ?_
  rw [lN_add]
  refine lv_lstore hx hb dM_sum_3 hl (by decide) rfl (fun ls hl => ?_)
  have hl : lv_has ls 6 [(4, .long _), (0, .long _), (2, .long _)] := hl
  refine lv_lload hx hb dM_sum_5 (lv_at hl 0 rfl) ?_
  refine lv_ldc2 (v := 2305843009213693951) hx hb hown (hts _ k3_80) dM_sum_7 ?_
  refine W.lcmp hx hb dM_sum_10 ?_
  refine lv_if_lt (tgt := 23) hx hb dM_sum_11 (by decide) (fun hc => ?_) (fun hc => ?_)
  · rw [lg_cmp_lt, show (2305843009213693951 : Int64) = lN 2305843009213693951 from rfl, pk_lLT (by omega) (by decide)] at hc
    refine lv_lload hx hb dM_sum_23 (lv_at hl 0 rfl) ?_
    have hv : sm (x + y) = x + y := if_neg (by omega)
    exact W.lret hx hb hr (fun t ht hW => ⟨by rw [hv], ⟨_, rfl, by rw [ht]; exact hP⟩, hS.F ht⟩) hS.2.2 dM_sum_25
  · rw [lg_cmp_lt, show (2305843009213693951 : Int64) = lN 2305843009213693951 from rfl, pk_lLT (by omega) (by decide)] at hc
    refine lv_lload hx hb dM_sum_14 (lv_at hl 0 rfl) ?_
    refine lv_ldc2 (v := 2305843009213693951) hx hb hown (hts _ k3_80) dM_sum_16 ?_
    refine lv_lsub hx hb dM_sum_19 ?_
    rw [show (2305843009213693951 : Int64) = lN 2305843009213693951 from rfl, lN_sub (by omega)]
    refine lv_goto (tgt := 25) hx hb dM_sum_20 (by decide) ?_
    have hv : sm (x + y) = x + y - 2305843009213693951 := if_pos (by omega)
    exact W.lret hx hb hr (fun t ht hW => ⟨by rw [hv], ⟨_, rfl, by rw [ht]; exact hP⟩, hS.F ht⟩) hS.2.2 dM_sum_25
set_option maxHeartbeats 4000000 in
set_option maxRecDepth 100000 in
theorem c_M_times {e0 : Nat → va_E} {a : Nat} (ha : a < 2305843009213693951) : Met l yM_times (Cond.code yM_times bM_times 10 (some .long) :: tws) { frames := 1, cells := 0, slots := 0, locals := 25 } (gPc (tw D cI cZ cT cJ base) D cl ad 25 base (e0) [.long (lN a)]) (gQc D cl ad 25 base (some (.long (lN (sm ((((a / 1099511627776) * 1000003) / 2097152 + ((a / 1099511627776) * 1000003) % 2097152 * 1099511627776) + ((a % 1099511627776) * 1000003)))))) (fun e => e = e0)) 0 0 (gA base) := by
  refine Met.ofW (cc := bM_times) (maxL := 10) (ret := (some .long)) (by decide) rfl ?_
  intro p e s m args below meth c s₁ B hml hv
  obtain ⟨rfl, htw, hB, hP⟩ := hv
  have hx := B.exec
  have hb := B.bytes
  have hr := B.returns
  have hts0 := atoms_spec (ws := Cond.code yM_times bM_times 10 (some .long) :: tws) B.pre
  have hts : ∀ w ∈ tws, w.before _ s = true := fun w h => hts0 w (List.mem_cons_of_mem _ h)
  have hown : s.vm.findClass "PairedTextsModel" = some m.cls := findClass_of_methodNamed B.named
  have hlocks := B.notSynchronized
  have hno := B.noHandlers (hts0 _ List.mem_cons_self)
  have F : CallFix p m c bM_times 10 s _ tws "PairedTextsModel" := ⟨hx, hb, hml, hown, hts⟩
  have hK := htw.1
  have hS : va_S (gA base) s.heap s.heap [] := va_S.rf
  have hl := lv_entry ([.long (lN a)]) (n := 10) (Nat.le_of_ble_eq_true rfl)
  rw [lg_entry_eq]
  generalize (lg_sl ([.long (lN a)]) ++ List.replicate (10 - (lg_sl ([.long (lN a)])).length) Slot.unset).toArray = ls at hl ⊢
  have hl : lv_has ls 10 [(0, .long (lN a))] := hl
  have hh := (nm_mod a 0 ha (((a / 1099511627776) * 1000003) / 2097152 + ((a / 1099511627776) * 1000003) % 2097152 * 1099511627776) 0 0 rfl).1
  refine lv_lload_n hx hb dM_times_0 rfl (lv_at hl 0 rfl) ?_
  refine lv_bipush (v := 40) hx hb dM_times_1 (by decide) ?_
  refine lv_lshr (v := lN (a / 1099511627776)) hx hb dM_times_3 (wb_sar (k := 40) (by omega) (by decide)) ?_
  refine lv_ldc2 (v := 1000003) hx hb hown (hts _ k3_77) dM_times_4 ?_
  refine lv_lmul hx hb dM_times_7 ?_
  rw [show (1000003 : Int64) = lN 1000003 from rfl, lN_mul]
  refine lv_lstore_n hx hb dM_times_8 rfl hl (by decide) rfl (fun ls hl => ?_)
  have hl : lv_has ls 10 [(2, .long _), (0, .long _)] := hl
  refine lv_lload_n hx hb dM_times_9 rfl (lv_at hl 1 rfl) ?_
  refine lv_ldc2 (v := 1099511627775) hx hb hown (hts _ k3_78) dM_times_10 ?_
  refine lv_land hx hb dM_times_13 ?_
  rw [show (1099511627775 : Int64) = lN (2 ^ 40 - 1) from rfl, wb_mask (by omega) (by decide)]
  refine lv_ldc2 (v := 1000003) hx hb hown (hts _ k3_77) dM_times_14 ?_
  refine lv_lmul hx hb dM_times_17 ?_
  rw [show (1000003 : Int64) = lN 1000003 from rfl, lN_mul]
  refine lv_lstore hx hb dM_times_18 hl (by decide) rfl (fun ls hl => ?_)
  have hl : lv_has ls 10 [(4, .long _), (2, .long _), (0, .long _)] := hl
  refine lv_lload_n hx hb dM_times_20 rfl (lv_at hl 1 rfl) ?_
  refine lv_bipush (v := 21) hx hb dM_times_21 (by decide) ?_
  refine lv_lshr (v := lN (((a / 1099511627776) * 1000003) / 2097152)) hx hb dM_times_23 (wb_sar (k := 21) (by omega) (by decide)) ?_
  refine lv_lload_n hx hb dM_times_24 rfl (lv_at hl 1 rfl) ?_
  refine lv_ldc2 (v := 2097151) hx hb hown (hts _ k3_79) dM_times_25 ?_
  refine lv_land hx hb dM_times_28 ?_
  rw [show (2097151 : Int64) = lN (2 ^ 21 - 1) from rfl, wb_mask (by omega) (by decide)]
  refine lv_bipush (v := 40) hx hb dM_times_29 (by decide) ?_
  refine lv_lshl (v := lN (((a / 1099511627776) * 1000003) % 2097152 * 1099511627776)) hx hb dM_times_31 (wb_shl _ (k := 40) (by decide)) ?_
  refine lv_ladd hx hb dM_times_32 ?_
  rw [lN_add]
  refine lv_lstore hx hb dM_times_33 hl (by decide) rfl (fun ls hl => ?_)
  have hl : lv_has ls 10 [(6, .long _), (4, .long _), (2, .long _), (0, .long _)] := hl
  refine lv_lload hx hb dM_times_35 (lv_at hl 0 rfl) ?_
  refine lv_ldc2 (v := 2305843009213693951) hx hb hown (hts _ k3_80) dM_times_37 ?_
  refine W.lcmp hx hb dM_times_40 ?_
  refine lv_if_lt (tgt := 53) hx hb dM_times_41 (by decide) (fun _ => ?_) (fun hc => absurd (by rw [lg_cmp_lt, show (2305843009213693951 : Int64) = lN 2305843009213693951 from rfl, pk_lLT (by omega) (by decide)]; exact hh) hc)
  refine lv_lload hx hb dM_times_53 (lv_at hl 0 rfl) ?_
  refine lv_lstore hx hb dM_times_55 hl (by decide) rfl (fun ls hl => ?_)
  have hl : lv_has ls 10 [(8, .long _), (6, .long _), (4, .long _), (2, .long _), (0, .long _)] := hl
  refine lv_lload hx hb dM_times_57 (lv_at hl 0 rfl) ?_
  refine lv_lload hx hb dM_times_59 (lv_at hl 2 rfl) ?_
  refine g_S (k := 2) F htw hB hS hP (c_M_sum (x := (((a / 1099511627776) * 1000003) / 2097152 + ((a / 1099511627776) * 1000003) % 2097152 * 1099511627776)) (y := ((a % 1099511627776) * 1000003)) (by omega)) k3_81 k3_82 k1_5 k3_83 (by decide +kernel) rfl rfl ⟨Nat.le_of_ble_eq_true rfl, Nat.le_of_ble_eq_true rfl⟩ rfl hl.1 rfl (Nat.le_of_ble_eq_true rfl) dM_times_61 ⟨Nat.le_of_ble_eq_true rfl, Nat.le_of_ble_eq_true rfl⟩ (fun en1 H locs he hP hS => ?_)
  rw [he] at hP
  exact W.lret hx hb hr (fun t ht hW => ⟨rfl, ⟨_, rfl, by rw [ht]; exact hP⟩, hS.F ht⟩) hS.2.2 dM_times_64
set_option maxHeartbeats 4000000 in
set_option maxRecDepth 100000 in
theorem c_M_stands {a : Ab} (ha : a_ok a) (hR : RepM M a) {d i e0 : Nat} (hd : d < 4) (hi : i ≤ e0) (he : e0 ≤ a_n a d) : Met l yM_stands (Cond.code yM_stands bM_stands 6 (some .boolean) :: tws) { frames := 0, cells := 0, slots := 0, locals := 0 } (gPc (tw D cI cZ cT cJ base) D cl ad 25 base (en ad cI cZ cT cJ pi dr S M o) [.ref (ad 17), .int (nI d), .int (nI i), .int (nI e0)]) (gQc D cl ad 25 base (some (.int (if stB a d i e0 then 1 else 0))) (fun e => e = en ad cI cZ cT cJ pi dr S M o)) 0 0 (gA base) := by
  refine Met.ofW (cc := bM_stands) (maxL := 6) (ret := (some .boolean)) (by decide) rfl ?_
  intro p e s m args below meth c s₁ B hml hv
  obtain ⟨rfl, htw, hB, hP⟩ := hv
  have hx := B.exec
  have hb := B.bytes
  have hr := B.returns
  have hts0 := atoms_spec (ws := Cond.code yM_stands bM_stands 6 (some .boolean) :: tws) B.pre
  have hts : ∀ w ∈ tws, w.before _ s = true := fun w h => hts0 w (List.mem_cons_of_mem _ h)
  have hown : s.vm.findClass "PairedTextsModel" = some m.cls := findClass_of_methodNamed B.named
  have hlocks := B.notSynchronized
  have hno := B.noHandlers (hts0 _ List.mem_cons_self)
  have F : CallFix p m c bM_stands 6 s _ tws "PairedTextsModel" := ⟨hx, hb, hml, hown, hts⟩
  have hK := htw.1
  have hS : va_S (gA base) s.heap s.heap [] := va_S.rf
  have hl := lv_entry ([.ref (ad 17), .int (nI d), .int (nI i), .int (nI e0)]) (n := 6) (Nat.le_of_ble_eq_true rfl)
  rw [lg_entry_eq]
  generalize (lg_sl ([.ref (ad 17), .int (nI d), .int (nI i), .int (nI e0)]) ++ List.replicate (6 - (lg_sl ([.ref (ad 17), .int (nI d), .int (nI i), .int (nI e0)])).length) Slot.unset).toArray = ls at hl ⊢
  have hl : lv_has ls 6 [(0, .ref (ad 17)), (1, .int (nI d)), (2, .int (nI i)), (3, .int (nI e0))] := hl
  have hn := ha.1 d hd
  have h16 := ha.2.2.1
  have e7 := hR.2.2.1
  refine lv_iload_n hx hb dM_stands_0 rfl (lv_at hl 2 rfl) ?_
  refine lv_aload_n hx hb dM_stands_1 rfl (lv_at hl 0 rfl) ?_
  refine g_get F hK hP (17) (by decide) rfl rfl iM 5 (by decide) k2_201 rfl dM_stands_2 ?_
  refine lv_iadd hx hb dM_stands_5 ?_
  rw [e7, nI_add]
  refine lv_iload_n hx hb dM_stands_6 rfl (lv_at hl 3 rfl) ?_
  refine lv_icmp_gt (tgt := 14) hx hb dM_stands_7 (by decide) (fun hc => ?_) (fun hc => ?_)
  · rw [nI_ltI (by omega) (by omega)] at hc
    refine lv_iconst (v := 0) hx hb dM_stands_14 (by decide) ?_
    refine lv_istore hx hb dM_stands_15 hl (by decide) rfl (fun ls hl => ?_)
    have hl : lv_has ls 6 [(4, .int _), (0, .ref _), (1, .int _), (2, .int _), (3, .int _)] := hl
    refine lv_iconst (v := 0) hx hb dM_stands_17 (by decide) ?_
    refine lv_istore hx hb dM_stands_18 hl (by decide) rfl (fun ls hl => ?_)
    have hl : lv_has ls 6 [(5, .int _), (4, .int _), (0, .ref _), (1, .int _), (2, .int _), (3, .int _)] := hl
    refine lv_iload hx hb dM_stands_20 (lv_at hl 0 rfl) ?_
    refine lv_aload_n hx hb dM_stands_22 rfl (lv_at hl 2 rfl) ?_
    refine g_get F hK hP (17) (by decide) rfl rfl iM 5 (by decide) k2_201 rfl dM_stands_23 ?_
    rw [e7]
    refine lv_icmp_ge (tgt := 72) hx hb dM_stands_26 (by decide) (fun hc => absurd hc (by rw [show (0 : Int32) = nI 0 from rfl, nI_leI (by omega) (by omega)]; omega)) (fun _ => ?_)
    refine lv_iload hx hb dM_stands_29 (lv_at hl 1 rfl) ?_
    refine lv_if_eq (tgt := 72) hx hb dM_stands_31 (by decide) (fun _ => ?_) (fun hc => absurd (rfl : (0 : Int32) = 0) hc)
    refine lv_iload hx hb dM_stands_72 (lv_at hl 1 rfl) ?_
    have hv : (if stB a d i e0 then (1 : Int32) else 0) = 0 := if_neg (by unfold stB; rw [decide_eq_false (by omega)]; simp)
    exact W.zret hx hb hr rfl (fun t ht hW => ⟨by rw [hv], ⟨_, rfl, by rw [ht]; exact hP⟩, hS.F ht⟩) hS.2.2 dM_stands_74
  · rw [nI_ltI (by omega) (by omega)] at hc
    have hs0 : stB a d i e0 = alb (fun k => decide (a_b a d (i + k) = a_q a k)) (a_p a) 0 := by unfold stB; rw [decide_eq_true (by omega)]; rfl
    refine lv_iconst (v := 1) hx hb dM_stands_10 (by decide) ?_
    refine lv_goto (tgt := 15) hx hb dM_stands_11 (by decide) ?_
    refine lv_istore hx hb dM_stands_15 hl (by decide) rfl (fun ls hl => ?_)
    have hl : lv_has ls 6 [(4, .int _), (0, .ref _), (1, .int _), (2, .int _), (3, .int _)] := hl
    refine lv_iconst (v := 0) hx hb dM_stands_17 (by decide) ?_
    refine lv_istore hx hb dM_stands_18 hl (by decide) rfl (fun ls hl => ?_)
    have hl : lv_has ls 6 [(5, .int _), (4, .int _), (0, .ref _), (1, .int _), (2, .int _), (3, .int _)] := hl
    refine W.loop (α := Nat) (fun t a1 ls H locs => a1 + t = a_p a ∧ alb (fun k => decide (a_b a d (i + k) = a_q a k)) t a1 = alb (fun k => decide (a_b a d (i + k) = a_q a k)) (a_p a) 0 ∧ lv_has ls 6 [(5, .int (nI a1)), (4, .int 1), (0, .ref (ad 17)), (1, .int (nI d)), (2, .int (nI i)), (3, .int (nI e0))] ∧ va_P D cl (gw ad (en ad cI cZ cT cJ pi dr S M o) 25) H ∧ va_S (gA base) s.heap H locs) ?_ (t := (a_p a)) (a := 0) ⟨by omega, rfl, hl, hP, hS⟩
    clear hl hP hS
    intro t a1 ls H locs hI ih
    obtain ⟨i0, i1, hl, hP, hS⟩ := hI
    try dsimp only at i0 i1 hl hP
    by_cases ht : t = 0
    · subst ht
      refine lv_iload hx hb dM_stands_20 (lv_at hl 0 rfl) ?_
      refine lv_aload_n hx hb dM_stands_22 rfl (lv_at hl 2 rfl) ?_
      refine g_get F hK hP (17) (by decide) rfl rfl iM 5 (by decide) k2_201 rfl dM_stands_23 ?_
      rw [e7]
      refine lv_icmp_ge (tgt := 72) hx hb dM_stands_26 (by decide) (fun _ => ?_) (fun hc => absurd (by rw [nI_leI (by omega) (by omega)]; omega) hc)
      refine lv_iload hx hb dM_stands_72 (lv_at hl 1 rfl) ?_
      have hv : (if stB a d i e0 then (1 : Int32) else 0) = 1 := if_pos (by rw [hs0, ← i1]; rfl)
      exact W.zret hx hb hr rfl (fun t ht hW => ⟨by rw [hv], ⟨_, rfl, by rw [ht]; exact hP⟩, hS.F ht⟩) hS.2.2 dM_stands_74
    · obtain ⟨t, rfl⟩ : ∃ u, t = u + 1 := ⟨t - 1, by omega⟩
      refine lv_iload hx hb dM_stands_20 (lv_at hl 0 rfl) ?_
      refine lv_aload_n hx hb dM_stands_22 rfl (lv_at hl 2 rfl) ?_
      refine g_get F hK hP (17) (by decide) rfl rfl iM 5 (by decide) k2_201 rfl dM_stands_23 ?_
      rw [e7]
      refine lv_icmp_ge (tgt := 72) hx hb dM_stands_26 (by decide) (fun hc => absurd hc (by rw [nI_leI (by omega) (by omega)]; omega)) (fun _ => ?_)
      refine lv_iload hx hb dM_stands_29 (lv_at hl 1 rfl) ?_
      refine lv_if_eq (tgt := 72) hx hb dM_stands_31 (by decide) (fun hc => absurd hc (show ¬ (1 : Int32) = 0 by decide)) (fun _ => ?_)
      refine lv_aload_n hx hb dM_stands_34 rfl (lv_at hl 2 rfl) ?_
      refine g_get F hK hP (17) (by decide) rfl rfl iM 1 (by decide) k2_197 rfl dM_stands_35 ?_
      refine lv_sipush (v := 1000) hx hb dM_stands_38 (by decide) ?_
      refine lv_iload_n hx hb dM_stands_41 rfl (lv_at hl 3 rfl) ?_
      refine lv_imul hx hb dM_stands_42 ?_
      refine lv_iload_n hx hb dM_stands_43 rfl (lv_at hl 4 rfl) ?_
      refine lv_iadd hx hb dM_stands_44 ?_
      rw [k_at]
      refine lv_iload hx hb dM_stands_45 (lv_at hl 0 rfl) ?_
      refine lv_iadd hx hb dM_stands_47 ?_
      rw [nI_add]
      refine g_iald F hK hP (18) (by decide) 0 rfl rfl (vp_in_nI (show 1000 * d + i + a1 < 4000 by omega) (by omega)) dM_stands_48 ?_
      rw [nI_clamp (show 1000 * d + i + a1 < 2 ^ 31 by omega), Nat.add_assoc (1000 * d) i a1, hR.2.1 d (i + a1) hd (by omega)]
      refine lv_aload_n hx hb dM_stands_49 rfl (lv_at hl 2 rfl) ?_
      refine g_get F hK hP (17) (by decide) rfl rfl iM 6 (by decide) k2_202 rfl dM_stands_50 ?_
      refine lv_iload hx hb dM_stands_53 (lv_at hl 0 rfl) ?_
      refine g_iald F hK hP (21) (by decide) 0 rfl rfl (vp_in_nI (show a1 < 16 by omega) (by omega)) dM_stands_55 ?_
      rw [nI_clamp (show a1 < 2 ^ 31 by omega), hR.2.2.2.1 a1 (by omega)]
      have b1 := ha.2.1 d (i + a1) hd (by omega)
      have b2 := ha.2.2.2.1 a1 (by omega)
      have i1 : (if decide (a_b a d (i + a1) = a_q a a1) then alb (fun k => decide (a_b a d (i + k) = a_q a k)) t (a1 + 1) else false) = alb (fun k => decide (a_b a d (i + k) = a_q a k)) (a_p a) 0 := i1
      refine lv_icmp_ne (tgt := 63) hx hb dM_stands_56 (by decide) (fun hx4 => ?_) (fun hx4 => ?_)
      · rw [nI_eq (show a_b a d (i + a1) < 2 ^ 31 by omega) (show a_q a a1 < 2 ^ 31 by omega)] at hx4
        rw [if_neg (by simpa using hx4)] at i1
        have hv : (if stB a d i e0 then (1 : Int32) else 0) = 0 := if_neg (by rw [hs0, ← i1]; simp)
        refine lv_iconst (v := 0) hx hb dM_stands_63 (by decide) ?_
        refine lv_istore hx hb dM_stands_64 hl (by decide) rfl (fun ls hl => ?_)
        have hl : lv_has ls 6 [(4, .int _), (5, .int _), (0, .ref _), (1, .int _), (2, .int _), (3, .int _)] := hl
        refine lv_iinc (k := 1) hx hb dM_stands_66 hl rfl rfl (by decide) rfl (fun ls hl => ?_)
        have hl : lv_has ls 6 [(5, .int _), (4, .int _), (0, .ref _), (1, .int _), (2, .int _), (3, .int _)] := hl
        refine lv_goto (tgt := 20) hx hb dM_stands_69 (by decide) ?_
        refine lv_iload hx hb dM_stands_20 (lv_at hl 0 rfl) ?_
        refine lv_aload_n hx hb dM_stands_22 rfl (lv_at hl 2 rfl) ?_
        refine g_get F hK hP (17) (by decide) rfl rfl iM 5 (by decide) k2_201 rfl dM_stands_23 ?_
        refine lv_icmp_ge (tgt := 72) hx hb dM_stands_26 (by decide) (fun hx5 => ?_) (fun hx5 => ?_)
        · refine lv_iload hx hb dM_stands_72 (lv_at hl 1 rfl) ?_
          exact W.zret hx hb hr rfl (fun t ht hW => ⟨by rw [hv], ⟨_, rfl, by rw [ht]; exact hP⟩, hS.F ht⟩) hS.2.2 dM_stands_74
        · refine lv_iload hx hb dM_stands_29 (lv_at hl 1 rfl) ?_
          refine lv_if_eq (tgt := 72) hx hb dM_stands_31 (by decide) (fun _ => ?_) (fun hc => absurd (rfl : (0 : Int32) = 0) hc)
          refine lv_iload hx hb dM_stands_72 (lv_at hl 1 rfl) ?_
          exact W.zret hx hb hr rfl (fun t ht hW => ⟨by rw [hv], ⟨_, rfl, by rw [ht]; exact hP⟩, hS.F ht⟩) hS.2.2 dM_stands_74
      · simp only [ne_eq, Decidable.not_not, nI_eq (show a_b a d (i + a1) < 2 ^ 31 by omega) (show a_q a a1 < 2 ^ 31 by omega)] at hx4
        rw [if_pos (by simpa using hx4)] at i1
        refine lv_iconst (v := 1) hx hb dM_stands_59 (by decide) ?_
        refine lv_goto (tgt := 64) hx hb dM_stands_60 (by decide) ?_
        refine lv_istore hx hb dM_stands_64 hl (by decide) rfl (fun ls hl => ?_)
        have hl : lv_has ls 6 [(4, .int _), (5, .int _), (0, .ref _), (1, .int _), (2, .int _), (3, .int _)] := hl
        refine lv_iinc (k := 1) hx hb dM_stands_66 hl rfl rfl (by decide) rfl (fun ls hl => ?_)
        have hl : lv_has ls 6 [(5, .int _), (4, .int _), (0, .ref _), (1, .int _), (2, .int _), (3, .int _)] := hl
        refine lv_goto (tgt := 20) hx hb dM_stands_69 (by decide) ?_
        have hl : lv_has ls 6 [(5, .int (nI (a1 + 1))), (4, .int 1), (0, .ref (ad 17)), (1, .int (nI d)), (2, .int (nI i)), (3, .int (nI e0))] := by rw [← nI_1]; exact hl
        exact ih t (a1 + 1) _ _ _ (by omega) ⟨by omega, i1, hl, hP, hS⟩
end N1
