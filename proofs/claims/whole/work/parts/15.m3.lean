/-! Loops: a row for them; the class's small methods that have one; the name's step. -/
section LOOP
variable {p : Program} {l : Launch} {e : Env} {R : Room} {s : State} {m : MethodId} {args : Array Value} {below : List Frame} {meth : Method} {c : Code} {cells slots pc : Nat} {Q : State → Prop}
/-- a loop: t falls at every turn -/
theorem W.loop {α : Type} (I : Nat → α → Array Slot → Heap → List Loc → Prop)
    (h : ∀ (t : Nat) (a : α) (ls : Array Slot) (H : Heap) (locs : List Loc), I t a ls H locs → (∀ (t' : Nat) (a' : α) (ls' : Array Slot) (H' : Heap) (locs' : List Loc), t' < t → I t' a' ls' H' locs' → W p l e R s m args below meth c H' locs' cells slots Q (F0 m pc ls' [])) → W p l e R s m args below meth c H locs cells slots Q (F0 m pc ls []))
    {t : Nat} {a : α} {ls : Array Slot} {H : Heap} {locs : List Loc} (h0 : I t a ls H locs) : W p l e R s m args below meth c H locs cells slots Q (F0 m pc ls []) := by
  have key : ∀ (n t : Nat) (a : α) (ls : Array Slot) (H : Heap) (locs : List Loc), t < n → I t a ls H locs → W p l e R s m args below meth c H locs cells slots Q (F0 m pc ls []) := by
    intro n
    induction n with
    | zero => intro t a ls H locs ht; exact absurd ht (Nat.not_lt_zero _)
    | succ n ih => intro t a ls H locs ht hI; exact h t a ls H locs hI (fun t' a' ls' H' locs' hlt hI' => ih t' a' ls' H' locs' (by omega) hI')
  exact key (t + 1) t a ls H locs (Nat.lt_succ_self _) h0
end LOOP
/-- from c on, for at most t places: how far P holds -/
def cpx (P : Nat → Bool) : Nat → Nat → Nat
  | 0, c => c
  | t + 1, c => if P c then cpx P t (c + 1) else c
/-- from c on, for t places: does P hold -/
def alb (P : Nat → Bool) : Nat → Nat → Bool
  | 0, _ => true
  | t + 1, c => if P c then alb P t (c + 1) else false
theorem cpx_le (P : Nat → Bool) : ∀ t c, c ≤ cpx P t c ∧ cpx P t c ≤ c + t := by
  intro t
  induction t with
  | zero => intro c; exact ⟨Nat.le_refl _, Nat.le_refl _⟩
  | succ t ih => intro c; unfold cpx; split; · have := ih (c + 1); omega
                 · omega
theorem cpx_congr {P P' : Nat → Bool} : ∀ t c, (∀ i, c ≤ i → i < c + t → P i = P' i) → cpx P t c = cpx P' t c := by
  intro t
  induction t with
  | zero => intro c _; rfl
  | succ t ih => intro c h; unfold cpx; rw [h c (Nat.le_refl _) (by omega), ih (c + 1) (fun i h1 h2 => h i (by omega) (by omega))]
theorem alb_congr {P P' : Nat → Bool} : ∀ t c, (∀ i, c ≤ i → i < c + t → P i = P' i) → alb P t c = alb P' t c := by
  intro t
  induction t with
  | zero => intro c _; rfl
  | succ t ih => intro c h; unfold alb; rw [h c (Nat.le_refl _) (by omega), ih (c + 1) (fun i h1 h2 => h i (by omega) (by omega))]
/-- byte k of a pattern -/
def pbyt (lo hi : Int64) (k : Nat) : Nat := if k < 8 then byt lo k else byt hi (k - 8)
section M3
variable {l : Launch} {D : va_G} {cI cZ cT cJ : ClassId} {base : Nat} {ad : Nat → Nat} {pi : Nat → Nat} {dr : Nat} {S M : Nat → Nat → Int32} {o : Nat → Int64}
set_option maxHeartbeats 4000000 in
set_option maxRecDepth 100000 in
theorem c_P_commonBeginning {q z i j n1 n2 : Nat} (hq : q < 5) (hz : z < 5) (h1 : n1 ≤ 1000) (h2 : n2 ≤ 1000) (hi : i ≤ n1) (hj : j ≤ n2) (e1 : S 5 q = nI n1) (e2 : S 5 z = nI n2) : Met l yP_commonBeginning (Cond.code yP_commonBeginning bP_commonBeginning 6 (some .int) :: tws) { frames := 1, cells := 0, slots := 0, locals := 21 } (gPc (tw D cI cZ cT cJ base) D cl ad 25 base (en ad cI cZ cT cJ pi dr S M o) [.ref (ad (2 + 2 * q)), .int (nI i), .ref (ad (2 + 2 * z)), .int (nI j)]) (gQc D cl ad 25 base (some (.int (nI (cpx (fun c => decide (S q (i + c) = S z (j + c))) (min (n1 - i) (n2 - j)) 0)))) (fun e => e = en ad cI cZ cT cJ pi dr S M o)) 0 0 (gA base) := by
  refine Met.ofW (cc := bP_commonBeginning) (maxL := 6) (ret := (some .int)) (by decide) rfl ?_
  intro p e s m args below meth c s₁ B hml hv
  obtain ⟨rfl, htw, hB, hP⟩ := hv
  have hx := B.exec
  have hb := B.bytes
  have hr := B.returns
  have hts0 := atoms_spec (ws := Cond.code yP_commonBeginning bP_commonBeginning 6 (some .int) :: tws) B.pre
  have hts : ∀ w ∈ tws, w.before _ s = true := fun w h => hts0 w (List.mem_cons_of_mem _ h)
  have hown : s.vm.findClass "PairedTexts" = some m.cls := findClass_of_methodNamed B.named
  have hlocks := B.notSynchronized
  have hno := B.noHandlers (hts0 _ List.mem_cons_self)
  have F : CallFix p m c bP_commonBeginning 6 s _ tws "PairedTexts" := ⟨hx, hb, hml, hown, hts⟩
  have hK := htw.1
  have hS : va_S (gA base) s.heap s.heap [] := va_S.rf
  have hl := lv_entry ([.ref (ad (2 + 2 * q)), .int (nI i), .ref (ad (2 + 2 * z)), .int (nI j)]) (n := 6) (Nat.le_of_ble_eq_true rfl)
  rw [lg_entry_eq]
  generalize (lg_sl ([.ref (ad (2 + 2 * q)), .int (nI i), .ref (ad (2 + 2 * z)), .int (nI j)]) ++ List.replicate (6 - (lg_sl ([.ref (ad (2 + 2 * q)), .int (nI i), .ref (ad (2 + 2 * z)), .int (nI j)])).length) Slot.unset).toArray = ls at hl ⊢
  have hl : lv_has ls 6 [(0, .ref (ad (2 + 2 * q))), (1, .int (nI i)), (2, .ref (ad (2 + 2 * z))), (3, .int (nI j))] := hl
  refine lv_aload_n hx hb dP_commonBeginning_0 rfl (lv_at hl 0 rfl) ?_
  refine g_get F hK hP (2 + 2 * q) (by omega) (en_T _ _ _ _ _ _ _ _ _ _ hq) rfl iT 1 (by decide) k1_34 rfl dP_commonBeginning_1 ?_
  refine lv_iload_n hx hb dP_commonBeginning_4 rfl (lv_at hl 1 rfl) ?_
  refine lv_isub hx hb dP_commonBeginning_5 ?_
  refine lv_aload_n hx hb dP_commonBeginning_6 rfl (lv_at hl 2 rfl) ?_
  refine g_get F hK hP (2 + 2 * z) (by omega) (en_T _ _ _ _ _ _ _ _ _ _ hz) rfl iT 1 (by decide) k1_34 rfl dP_commonBeginning_7 ?_
  refine lv_iload_n hx hb dP_commonBeginning_10 rfl (lv_at hl 3 rfl) ?_
  refine lv_isub hx hb dP_commonBeginning_11 ?_
  rw [e1, e2, pk_sub hi, pk_sub hj]
  refine va_mmin hx hb (by rw [hml, hl.1]) hown (hts _ k2_68) (hts _ k2_69) (hts _ k1_13) (hts _ k2_70) (Nat.le_of_ble_eq_true rfl) (Nat.le_of_ble_eq_true rfl) (Nat.le_of_ble_eq_true rfl) (Nat.le_of_ble_eq_true rfl) dP_commonBeginning_12 ?_
  have em : (if nI (n2 - j) < nI (n1 - i) then nI (n2 - j) else nI (n1 - i)) = nI (min (n1 - i) (n2 - j)) := by
    by_cases hc : nI (n2 - j) < nI (n1 - i)
    · rw [if_pos hc]; rw [nI_ltI (by omega) (by omega)] at hc; congr 1; omega
    · rw [if_neg hc]; rw [nI_ltI (by omega) (by omega)] at hc; congr 1; omega
  rw [em]
  generalize hmm : (min (n1 - i) (n2 - j)) = mm
  have hm1 : mm ≤ 1000 ∧ i + mm ≤ n1 ∧ j + mm ≤ n2 := by omega
  refine lv_istore hx hb dP_commonBeginning_15 hl (by decide) rfl (fun ls hl => ?_)
  have hl : lv_has ls 6 [(4, .int _), (0, .ref _), (1, .int _), (2, .ref _), (3, .int _)] := hl
  refine lv_iconst (v := 0) hx hb dP_commonBeginning_17 (by decide) ?_
  refine lv_istore hx hb dP_commonBeginning_18 hl (by decide) rfl (fun ls hl => ?_)
  have hl : lv_has ls 6 [(5, .int _), (4, .int _), (0, .ref _), (1, .int _), (2, .ref _), (3, .int _)] := hl
  refine W.loop (α := Nat) (fun t a ls H locs => a + t = mm ∧ cpx (fun c => decide (S q (i + c) = S z (j + c))) t a = cpx (fun c => decide (S q (i + c) = S z (j + c))) mm 0 ∧ lv_has ls 6 [(5, .int (nI a)), (4, .int (nI mm)), (0, .ref (ad (2 + 2 * q))), (1, .int (nI i)), (2, .ref (ad (2 + 2 * z))), (3, .int (nI j))] ∧ va_P D cl (gw ad (en ad cI cZ cT cJ pi dr S M o) 25) H ∧ va_S (gA base) s.heap H locs) ?_ (t := mm) (a := 0) ⟨by omega, rfl, hl, hP, hS⟩
  clear hl hP hS
  intro t a ls H locs hI ih
  obtain ⟨i0, i1, hl, hP, hS⟩ := hI
  try dsimp only at i0 i1 hl hP
  by_cases ht : t = 0
  · subst ht
    refine lv_iload hx hb dP_commonBeginning_20 (lv_at hl 0 rfl) ?_
    refine lv_iload hx hb dP_commonBeginning_22 (lv_at hl 1 rfl) ?_
    refine lv_icmp_ge (tgt := 54) hx hb dP_commonBeginning_24 (by decide) (fun _ => ?_) (fun hc => absurd (by rw [nI_leI (by omega) (by omega)]; omega) hc)
    refine lv_iload hx hb dP_commonBeginning_54 (lv_at hl 0 rfl) ?_
    have i1 : a = cpx (fun c => decide (S q (i + c) = S z (j + c))) mm 0 := i1
    exact W.iret hx hb hr (fun t ht hW => ⟨by rw [← i1], ⟨_, rfl, by rw [ht]; exact hP⟩, hS.F ht⟩) hS.2.2 dP_commonBeginning_56
  · obtain ⟨t, rfl⟩ : ∃ u, t = u + 1 := ⟨t - 1, by omega⟩
    refine lv_iload hx hb dP_commonBeginning_20 (lv_at hl 0 rfl) ?_
    refine lv_iload hx hb dP_commonBeginning_22 (lv_at hl 1 rfl) ?_
    refine lv_icmp_ge (tgt := 54) hx hb dP_commonBeginning_24 (by decide) (fun hc => absurd hc (by rw [nI_leI (by omega) (by omega)]; omega)) (fun _ => ?_)
    refine lv_aload_n hx hb dP_commonBeginning_27 rfl (lv_at hl 2 rfl) ?_
    refine g_get F hK hP (2 + 2 * q) (by omega) (en_T _ _ _ _ _ _ _ _ _ _ hq) rfl iT 0 (by decide) k1_32 rfl dP_commonBeginning_28 ?_
    refine lv_iload_n hx hb dP_commonBeginning_31 rfl (lv_at hl 3 rfl) ?_
    refine lv_iload hx hb dP_commonBeginning_32 (lv_at hl 0 rfl) ?_
    refine lv_iadd hx hb dP_commonBeginning_34 ?_
    rw [nI_add]
    refine g_iald F hK hP (3 + 2 * q) (by omega) 0 (en_B _ _ _ _ _ _ _ _ _ _ hq) rfl (vp_in_nI (show i + a < 1000 by omega) (by omega)) dP_commonBeginning_35 ?_
    rw [nI_clamp (show i + a < 2 ^ 31 by omega)]
    refine lv_aload_n hx hb dP_commonBeginning_36 rfl (lv_at hl 4 rfl) ?_
    refine g_get F hK hP (2 + 2 * z) (by omega) (en_T _ _ _ _ _ _ _ _ _ _ hz) rfl iT 0 (by decide) k1_32 rfl dP_commonBeginning_37 ?_
    refine lv_iload_n hx hb dP_commonBeginning_40 rfl (lv_at hl 5 rfl) ?_
    refine lv_iload hx hb dP_commonBeginning_41 (lv_at hl 0 rfl) ?_
    refine lv_iadd hx hb dP_commonBeginning_43 ?_
    rw [nI_add]
    refine g_iald F hK hP (3 + 2 * z) (by omega) 0 (en_B _ _ _ _ _ _ _ _ _ _ hz) rfl (vp_in_nI (show j + a < 1000 by omega) (by omega)) dP_commonBeginning_44 ?_
    rw [nI_clamp (show j + a < 2 ^ 31 by omega)]
    refine lv_icmp_ne (tgt := 54) hx hb dP_commonBeginning_45 (by decide) (fun hd => ?_) (fun hd => ?_)
    · have i1 : (if decide (S q (i + a) = S z (j + a)) then cpx (fun c => decide (S q (i + c) = S z (j + c))) t (a + 1) else a) = cpx (fun c => decide (S q (i + c) = S z (j + c))) mm 0 := i1
      rw [if_neg (by simpa using hd)] at i1
      refine lv_iload hx hb dP_commonBeginning_54 (lv_at hl 0 rfl) ?_
      exact W.iret hx hb hr (fun t ht hW => ⟨by rw [← i1], ⟨_, rfl, by rw [ht]; exact hP⟩, hS.F ht⟩) hS.2.2 dP_commonBeginning_56
    · have i1 : (if decide (S q (i + a) = S z (j + a)) then cpx (fun c => decide (S q (i + c) = S z (j + c))) t (a + 1) else a) = cpx (fun c => decide (S q (i + c) = S z (j + c))) mm 0 := i1
      rw [if_pos (by simpa using hd)] at i1
      refine lv_iinc (k := 0) hx hb dP_commonBeginning_48 hl rfl rfl (by decide) rfl (fun ls hl => ?_)
      have hl : lv_has ls 6 [(5, .int _), (4, .int _), (0, .ref _), (1, .int _), (2, .ref _), (3, .int _)] := hl
      refine lv_goto (tgt := 20) hx hb dP_commonBeginning_51 (by decide) ?_
      have hl : lv_has ls 6 [(5, .int (nI (a + 1))), (4, .int (nI mm)), (0, .ref (ad (2 + 2 * q))), (1, .int (nI i)), (2, .ref (ad (2 + 2 * z))), (3, .int (nI j))] := by rw [← nI_1]; exact hl
      exact ih _ (a + 1) _ _ _ (by omega) ⟨by omega, i1, hl, hP, hS⟩
set_option maxHeartbeats 4000000 in
set_option maxRecDepth 100000 in
theorem c_Q_standsAt {q i e0 pn : Nat} (hq : q < 5) (hi : i ≤ e0) (he : e0 ≤ 1000) (hpn : pn ≤ 16) (e7 : S 7 0 = nI pn) : Met l yQ_standsAt (Cond.code yQ_standsAt bQ_standsAt 5 (some .boolean) :: tws) { frames := 0, cells := 0, slots := 0, locals := 0 } (gPc (tw D cI cZ cT cJ base) D cl ad 25 base (en ad cI cZ cT cJ pi dr S M o) [.ref (ad 12), .ref (ad (2 + 2 * q)), .int (nI i), .int (nI e0)]) (gQc D cl ad 25 base (some (.int (if decide (pn ≤ e0 - i) && alb (fun k => decide (S q (i + k) = S 6 k)) pn 0 then 1 else 0))) (fun e => e = en ad cI cZ cT cJ pi dr S M o)) 0 0 (gA base) := by
  refine Met.ofW (cc := bQ_standsAt) (maxL := 5) (ret := (some .boolean)) (by decide) rfl ?_
  intro p e s m args below meth c s₁ B hml hv
  obtain ⟨rfl, htw, hB, hP⟩ := hv
  have hx := B.exec
  have hb := B.bytes
  have hr := B.returns
  have hts0 := atoms_spec (ws := Cond.code yQ_standsAt bQ_standsAt 5 (some .boolean) :: tws) B.pre
  have hts : ∀ w ∈ tws, w.before _ s = true := fun w h => hts0 w (List.mem_cons_of_mem _ h)
  have hown : s.vm.findClass "PairedTexts$Pattern" = some m.cls := findClass_of_methodNamed B.named
  have hlocks := B.notSynchronized
  have hno := B.noHandlers (hts0 _ List.mem_cons_self)
  have F : CallFix p m c bQ_standsAt 5 s _ tws "PairedTexts$Pattern" := ⟨hx, hb, hml, hown, hts⟩
  have hK := htw.1
  have hS : va_S (gA base) s.heap s.heap [] := va_S.rf
  have hl := lv_entry ([.ref (ad 12), .ref (ad (2 + 2 * q)), .int (nI i), .int (nI e0)]) (n := 5) (Nat.le_of_ble_eq_true rfl)
  rw [lg_entry_eq]
  generalize (lg_sl ([.ref (ad 12), .ref (ad (2 + 2 * q)), .int (nI i), .int (nI e0)]) ++ List.replicate (5 - (lg_sl ([.ref (ad 12), .ref (ad (2 + 2 * q)), .int (nI i), .int (nI e0)])).length) Slot.unset).toArray = ls at hl ⊢
  have hl : lv_has ls 5 [(0, .ref (ad 12)), (1, .ref (ad (2 + 2 * q))), (2, .int (nI i)), (3, .int (nI e0))] := hl
  refine lv_aload_n hx hb dQ_standsAt_0 rfl (lv_at hl 0 rfl) ?_
  refine g_get F hK hP (12) (by decide) rfl rfl iQ 1 (by decide) k1_48 rfl dQ_standsAt_1 ?_
  refine lv_iload_n hx hb dQ_standsAt_4 rfl (lv_at hl 3 rfl) ?_
  refine lv_iload_n hx hb dQ_standsAt_5 rfl (lv_at hl 2 rfl) ?_
  refine lv_isub hx hb dQ_standsAt_6 ?_
  rw [e7, pk_sub hi]
  refine lv_icmp_le (tgt := 12) hx hb dQ_standsAt_7 (by decide) (fun hc => ?_) (fun hc => ?_)
  · rw [nI_leI (by omega) (by omega)] at hc
    refine lv_iconst (v := 0) hx hb dQ_standsAt_12 (by decide) ?_
    refine lv_istore hx hb dQ_standsAt_13 hl (by decide) rfl (fun ls hl => ?_)
    have hl : lv_has ls 5 [(4, .int _), (0, .ref _), (1, .ref _), (2, .int _), (3, .int _)] := hl
    refine W.loop (α := Nat) (fun t a ls H locs => a + t = pn ∧ alb (fun k => decide (S q (i + k) = S 6 k)) t a = alb (fun k => decide (S q (i + k) = S 6 k)) pn 0 ∧ lv_has ls 5 [(4, .int (nI a)), (0, .ref (ad 12)), (1, .ref (ad (2 + 2 * q))), (2, .int (nI i)), (3, .int (nI e0))] ∧ va_P D cl (gw ad (en ad cI cZ cT cJ pi dr S M o) 25) H ∧ va_S (gA base) s.heap H locs) ?_ (t := pn) (a := 0) ⟨by omega, rfl, hl, hP, hS⟩
    clear hl hP hS
    intro t a ls H locs hI ih
    obtain ⟨i0, i1, hl, hP, hS⟩ := hI
    try dsimp only at i0 i1 hl hP
    by_cases ht : t = 0
    · subst ht
      refine lv_iload hx hb dQ_standsAt_15 (lv_at hl 0 rfl) ?_
      refine lv_aload_n hx hb dQ_standsAt_17 rfl (lv_at hl 1 rfl) ?_
      refine g_get F hK hP (12) (by decide) rfl rfl iQ 1 (by decide) k1_48 rfl dQ_standsAt_18 ?_
      refine lv_icmp_ge (tgt := 51) hx hb dQ_standsAt_21 (by decide) (fun _ => ?_) (fun hc => absurd (by rw [e7, nI_leI (by omega) (by omega)]; omega) hc)
      refine lv_iconst (v := 1) hx hb dQ_standsAt_51 (by decide) ?_
      have hv : (if decide (pn ≤ e0 - i) && alb (fun k => decide (S q (i + k) = S 6 k)) pn 0 then 1 else 0) = (1 : Int32) := by rw [← i1]; simp [hc, alb]
      exact W.zret hx hb hr rfl (fun t ht hW => ⟨by rw [hv], ⟨_, rfl, by rw [ht]; exact hP⟩, hS.F ht⟩) hS.2.2 dQ_standsAt_52
    · obtain ⟨t, rfl⟩ : ∃ u, t = u + 1 := ⟨t - 1, by omega⟩
      refine lv_iload hx hb dQ_standsAt_15 (lv_at hl 0 rfl) ?_
      refine lv_aload_n hx hb dQ_standsAt_17 rfl (lv_at hl 1 rfl) ?_
      refine g_get F hK hP (12) (by decide) rfl rfl iQ 1 (by decide) k1_48 rfl dQ_standsAt_18 ?_
      refine lv_icmp_ge (tgt := 51) hx hb dQ_standsAt_21 (by decide) (fun hc => absurd hc (by rw [e7, nI_leI (by omega) (by omega)]; omega)) (fun _ => ?_)
      refine lv_aload_n hx hb dQ_standsAt_24 rfl (lv_at hl 2 rfl) ?_
      refine g_get F hK hP (2 + 2 * q) (by omega) (en_T _ _ _ _ _ _ _ _ _ _ hq) rfl iT 0 (by decide) k1_31 rfl dQ_standsAt_25 ?_
      refine lv_iload_n hx hb dQ_standsAt_28 rfl (lv_at hl 3 rfl) ?_
      refine lv_iload hx hb dQ_standsAt_29 (lv_at hl 0 rfl) ?_
      refine lv_iadd hx hb dQ_standsAt_31 ?_
      rw [nI_add]
      refine g_iald F hK hP (3 + 2 * q) (by omega) 0 (en_B _ _ _ _ _ _ _ _ _ _ hq) rfl (vp_in_nI (show i + a < 1000 by omega) (by omega)) dQ_standsAt_32 ?_
      rw [nI_clamp (show i + a < 2 ^ 31 by omega)]
      refine lv_aload_n hx hb dQ_standsAt_33 rfl (lv_at hl 1 rfl) ?_
      refine g_get F hK hP (12) (by decide) rfl rfl iQ 0 (by decide) k1_47 rfl dQ_standsAt_34 ?_
      refine lv_iload hx hb dQ_standsAt_37 (lv_at hl 0 rfl) ?_
      refine g_iald F hK hP (13) (by decide) 0 rfl rfl (vp_in_nI (show a < 16 by omega) (by omega)) dQ_standsAt_39 ?_
      rw [nI_clamp (show a < 2 ^ 31 by omega)]
      refine lv_icmp_eq (tgt := 45) hx hb dQ_standsAt_40 (by decide) (fun hd => ?_) (fun hd => ?_)
      · have i1 : (if decide (S q (i + a) = S 6 a) then alb (fun k => decide (S q (i + k) = S 6 k)) t (a + 1) else false) = alb (fun k => decide (S q (i + k) = S 6 k)) pn 0 := i1
        rw [if_pos (by simpa using hd)] at i1
        refine lv_iinc (k := 0) hx hb dQ_standsAt_45 hl rfl rfl (by decide) rfl (fun ls hl => ?_)
        have hl : lv_has ls 5 [(4, .int _), (0, .ref _), (1, .ref _), (2, .int _), (3, .int _)] := hl
        refine lv_goto (tgt := 15) hx hb dQ_standsAt_48 (by decide) ?_
        have hl : lv_has ls 5 [(4, .int (nI (a + 1))), (0, .ref (ad 12)), (1, .ref (ad (2 + 2 * q))), (2, .int (nI i)), (3, .int (nI e0))] := by rw [← nI_1]; exact hl
        exact ih _ (a + 1) _ _ _ (by omega) ⟨by omega, i1, hl, hP, hS⟩
      · have i1 : (if decide (S q (i + a) = S 6 a) then alb (fun k => decide (S q (i + k) = S 6 k)) t (a + 1) else false) = alb (fun k => decide (S q (i + k) = S 6 k)) pn 0 := i1
        rw [if_neg (by simpa using hd)] at i1
        refine lv_iconst (v := 0) hx hb dQ_standsAt_43 (by decide) ?_
        have hv : (if decide (pn ≤ e0 - i) && alb (fun k => decide (S q (i + k) = S 6 k)) pn 0 then 1 else 0) = (0 : Int32) := by rw [← i1]; simp
        exact W.zret hx hb hr rfl (fun t ht hW => ⟨by rw [hv], ⟨_, rfl, by rw [ht]; exact hP⟩, hS.F ht⟩) hS.2.2 dQ_standsAt_44
  · rw [nI_leI (by omega) (by omega)] at hc
    refine lv_iconst (v := 0) hx hb dQ_standsAt_10 (by decide) ?_
    have hv : (if decide (pn ≤ e0 - i) && alb (fun k => decide (S q (i + k) = S 6 k)) pn 0 then 1 else 0) = (0 : Int32) := by simp [hc]
    exact W.zret hx hb hr rfl (fun t ht hW => ⟨by rw [hv], ⟨_, rfl, by rw [ht]; exact hP⟩, hS.F ht⟩) hS.2.2 dQ_standsAt_11
end M3
