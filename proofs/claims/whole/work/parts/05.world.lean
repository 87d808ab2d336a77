/-! One world for all: n cells at the addresses ad, holding en; all of them, and all that is made, lie from base on. -/
def gw (ad : Nat → Nat) (en : Nat → va_E) (n : Nat) : va_W := (List.range n).map (fun i => (ad i, en i))
abbrev gA (base : Nat) : Nat → Prop := fun q => base ≤ q
theorem gw_at {ad : Nat → Nat} {en : Nat → va_E} {n i : Nat} (h : i < n) : (gw ad en n)[i]? = some (ad i, en i) := by
  unfold gw
  rw [List.getElem?_map, List.getElem?_range h]
  rfl
theorem gw_none {ad : Nat → Nat} {en : Nat → va_E} {n i : Nat} (h : ¬ i < n) : (gw ad en n)[i]? = none := by
  unfold gw
  simp [Nat.not_lt.mp h]
theorem gw_set {ad : Nat → Nat} {en : Nat → va_E} {n i : Nat} {x : va_E} (hi : i < n) : (gw ad en n).set i (ad i, x) = gw ad (va_up en i x) n := by
  apply List.ext_getElem?
  intro j
  rw [List.getElem?_set]
  by_cases hj : j < n
  · rw [gw_at hj, gw_at hj]
    by_cases hij : i = j
    · subst hij
      have hl : i < (gw ad en n).length := by unfold gw; simpa using hi
      simp [hl, va_up]
    · have hji : ¬ j = i := fun h => hij h.symm
      simp [hij, hji, va_up]
  · rw [gw_none hj, gw_none hj]
    by_cases hij : i = j
    · subst hij; exact absurd hi hj
    · simp [hij]
theorem gw_eq {ad : Nat → Nat} {e1 e2 : Nat → va_E} {n : Nat} (h : ∀ j, j < n → e1 j = e2 j) : gw ad e1 n = gw ad e2 n := by
  unfold gw
  apply List.map_congr_left
  intro i hi
  rw [h i (List.mem_range.mp hi)]
theorem gw_D {ad : Nat → Nat} {en : Nat → va_E} {n base : Nat} (hinj : ∀ i j, i < n → j < n → ad i = ad j → i = j) (hb : ∀ i, i < n → base ≤ ad i) : va_D (gA base) (gw ad en n) := by
  have lt : ∀ (i : Nat) (p : Nat × va_E), (gw ad en n)[i]? = some p → i < n ∧ p = (ad i, en i) := by
    intro i p h
    by_cases hi : i < n
    · rw [gw_at hi] at h; exact ⟨hi, (Option.some.inj h).symm⟩
    · rw [gw_none hi] at h; cases h
  refine ⟨fun i j p q hp hq hpq => ?_, fun k q hk => ?_⟩
  · obtain ⟨h1, rfl⟩ := lt i p hp
    obtain ⟨h2, rfl⟩ := lt j q hq
    exact hinj i j h1 h2 hpq
  · obtain ⟨h1, rfl⟩ := lt k q hk
    exact hb k h1
/-- where the world lies -/
def gGeo (ad : Nat → Nat) (n base : Nat) : Prop := (∀ i j, i < n → j < n → ad i = ad j → i = j) ∧ ∀ i, i < n → base ≤ ad i
theorem gGeo.D {ad : Nat → Nat} {en : Nat → va_E} {n base : Nat} (h : gGeo ad n base) : va_D (gA base) (gw ad en n) := gw_D h.1 h.2
section GWR
variable {p : Program} {l : Launch} {e : Env} {R : Room} {s : State} {m : MethodId} {args : Array Value} {below : List Frame} {meth : Method} {c : Code} {H : Heap} {locs : List Loc} {cells slots : Nat} {Q : State → Prop}
variable {cc : ByteArray} {pc nL : Nat} {ls : Array Slot} {rest : List Value} {D : va_G} {cl : List vw_C} {tys : List (ClassId × FieldType)} {H0 : Heap} {ad : Nat → Nat} {en : Nat → va_E} {n base : Nat} {Ts : List Cond} {own C : String} {T : u_T} {N ci index : Nat}
theorem g_get (F : CallFix p m c cc nL s args Ts own) (hK : va_K D cl tys s) (hP : va_P D cl (gw ad en n) H) (i : Nat) (hi : i < n) {fs : List Value} (he : en i = .inr (ci, fs)) (hc : cl[ci]? = some (C, T, N)) (hin : ∀ w ∈ u_ws C T N, w ∈ Ts) (k : Nat) (hk : k < N)
    (hlink : Cond.fieldLink own index (T k).1 (T k).2.1 (T k).2.2.1 ∈ Ts) {v : Value} (hv : fs[k]? = some v) (hdg : decode cc pc = .ok (.getfield index, 3))
    (kk : W p l e R s m args below meth c H locs cells slots Q (F0 m (pc + 3) ls (v :: rest))) : W p l e R s m args below meth c H locs cells slots Q (F0 m pc ls (.ref (ad i) :: rest)) :=
  va_get F.1 F.2.1 F.2.2.2.2 hin F.2.2.2.1 hK hP i (by rw [gw_at hi, he]) hc k hk (F.2.2.2.2 _ hlink) (fun _ h => h) hv hdg kk
theorem g_put (F : CallFix p m c cc nL s args Ts own) (hK : va_K D cl tys s) (G : gGeo ad n base) (hP : va_P D cl (gw ad en n) H) (hS : va_S (gA base) H0 H locs) (i : Nat) (hi : i < n) {fs : List Value} (he : en i = .inr (ci, fs)) (hc : cl[ci]? = some (C, T, N)) (hin : ∀ w ∈ u_ws C T N, w ∈ Ts)
    (ty0 : Nat → FieldType) (hty : ∀ k, k < N → parseFieldDescriptor (T k).2.2.1 = some (ty0 k)) (hnm : ∀ a, a < N → ∀ b, b < N → a ≠ b → (T a).2.1 ≠ (T b).2.1) (k : Nat) (hk : k < N)
    (hlink : Cond.fieldLink own index (T k).1 (T k).2.1 (T k).2.2.1 ∈ Ts) (hfin : (T k).2.2.2 = false) {ty : FieldType} {v : Value} (hd : parseFieldDescriptor (T k).2.2.1 = some ty) (hn : narrow ty v = v) (hfit : fits ty v = true) (hl : k < fs.length) (hdg : decode cc pc = .ok (.putfield index, 3))
    (kk : ∀ (H1 : Heap) (locs1 : List Loc), va_P D cl (gw ad (va_up en i (.inr (ci, fs.set k v))) n) H1 → va_S (gA base) H0 H1 locs1 → W p l e R s m args below meth c H1 locs1 cells slots Q (F0 m (pc + 3) ls rest)) : W p l e R s m args below meth c H locs cells slots Q (F0 m pc ls (v :: .ref (ad i) :: rest)) :=
  va_put F.1 F.2.1 F.2.2.2.2 hin ty0 hty hnm F.2.2.2.1 hK hP G.D hS i (by rw [gw_at hi, he]) hc k hk (F.2.2.2.2 _ hlink) (fun _ h => h) hfin hd hn hfit hl hdg (fun H1 locs1 h1 _ h3 => kk H1 locs1 (by rw [gw_set hi] at h1; exact h1) h3)
theorem g_iald (F : CallFix p m c cc nL s args Ts own) (hK : va_K D cl tys s) (hP : va_P D cl (gw ad en n) H) (i : Nat) (hi : i < n) (t0 : Nat) {cA : ClassId} {k : Nat} {f : Nat → Int32} (he : en i = .inl (cA, k, .inl f)) (ht : tys[t0]? = some (cA, .int)) {j : Int32} (hin : vp_in j k) (hdg : decode cc pc = .ok (.iaload, 1))
    (kk : W p l e R s m args below meth c H locs cells slots Q (F0 m (pc + 1) ls (.int (f j.toNatClampNeg) :: rest))) : W p l e R s m args below meth c H locs cells slots Q (F0 m pc ls (.int j :: .ref (ad i) :: rest)) :=
  va_iald F.1 F.2.1 hK hP i t0 (by rw [gw_at hi, he]) ht hin hdg kk
theorem g_zald (F : CallFix p m c cc nL s args Ts own) (hK : va_K D cl tys s) (hP : va_P D cl (gw ad en n) H) (i : Nat) (hi : i < n) (t0 : Nat) {cA : ClassId} {k : Nat} {f : Nat → Int32} (he : en i = .inl (cA, k, .inl f)) (ht : tys[t0]? = some (cA, .boolean)) {j : Int32} (hin : vp_in j k) (hdg : decode cc pc = .ok (.baload, 1))
    (kk : W p l e R s m args below meth c H locs cells slots Q (F0 m (pc + 1) ls (.int (f j.toNatClampNeg) :: rest))) : W p l e R s m args below meth c H locs cells slots Q (F0 m pc ls (.int j :: .ref (ad i) :: rest)) :=
  va_zald F.1 F.2.1 hK hP i t0 (by rw [gw_at hi, he]) ht hin hdg kk
theorem g_aald (F : CallFix p m c cc nL s args Ts own) (hK : va_K D cl tys s) (hP : va_P D cl (gw ad en n) H) (i : Nat) (hi : i < n) (t0 : Nat) {cA : ClassId} {k : Nat} {B : String} {f : Nat → Option Nat} (he : en i = .inl (cA, k, .inr (.inr (.inr (.inr f))))) (ht : tys[t0]? = some (cA, .object B)) {j : Int32} (hin : vp_in j k) (hdg : decode cc pc = .ok (.aaload, 1))
    (kk : W p l e R s m args below meth c H locs cells slots Q (F0 m (pc + 1) ls (va_rf (f j.toNatClampNeg) :: rest))) : W p l e R s m args below meth c H locs cells slots Q (F0 m pc ls (.int j :: .ref (ad i) :: rest)) :=
  va_aldq F.1 F.2.1 hK hP i t0 (by rw [gw_at hi, he]) ht hin hdg kk
theorem g_iast (F : CallFix p m c cc nL s args Ts own) (hK : va_K D cl tys s) (G : gGeo ad n base) (hP : va_P D cl (gw ad en n) H) (hS : va_S (gA base) H0 H locs) (i : Nat) (hi : i < n) (t0 : Nat) {cA : ClassId} {k : Nat} {f : Nat → Int32} (he : en i = .inl (cA, k, .inl f)) (ht : tys[t0]? = some (cA, .int)) {j x : Int32} (hin : vp_in j k) (hdg : decode cc pc = .ok (.iastore, 1))
    (kk : ∀ (H1 : Heap) (locs1 : List Loc), va_P D cl (gw ad (va_up en i (.inl (cA, k, .inl (upd f j.toNatClampNeg x)))) n) H1 → va_S (gA base) H0 H1 locs1 → W p l e R s m args below meth c H1 locs1 cells slots Q (F0 m (pc + 1) ls rest)) : W p l e R s m args below meth c H locs cells slots Q (F0 m pc ls (.int x :: .int j :: .ref (ad i) :: rest)) :=
  va_iast F.1 F.2.1 hK hP G.D hS i t0 (by rw [gw_at hi, he]) ht hin hdg (fun H1 locs1 h1 _ h3 => kk H1 locs1 (by rw [gw_set hi] at h1; exact h1) h3)
theorem g_zast (F : CallFix p m c cc nL s args Ts own) (hK : va_K D cl tys s) (G : gGeo ad n base) (hP : va_P D cl (gw ad en n) H) (hS : va_S (gA base) H0 H locs) (i : Nat) (hi : i < n) (t0 : Nat) {cA : ClassId} {k : Nat} {f : Nat → Int32} (he : en i = .inl (cA, k, .inl f)) (ht : tys[t0]? = some (cA, .boolean)) {j x : Int32} (hin : vp_in j k) (hdg : decode cc pc = .ok (.bastore, 1))
    (kk : ∀ (H1 : Heap) (locs1 : List Loc), va_P D cl (gw ad (va_up en i (.inl (cA, k, .inl (upd f j.toNatClampNeg (vp_nar .boolean x))))) n) H1 → va_S (gA base) H0 H1 locs1 → W p l e R s m args below meth c H1 locs1 cells slots Q (F0 m (pc + 1) ls rest)) : W p l e R s m args below meth c H locs cells slots Q (F0 m pc ls (.int x :: .int j :: .ref (ad i) :: rest)) :=
  va_zast F.1 F.2.1 hK hP G.D hS i t0 (by rw [gw_at hi, he]) ht hin hdg (fun H1 locs1 h1 _ h3 => kk H1 locs1 (by rw [gw_set hi] at h1; exact h1) h3)
theorem g_aast (F : CallFix p m c cc nL s args Ts own) (hK : va_K D cl tys s) (G : gGeo ad n base) (hP : va_P D cl (gw ad en n) H) (hS : va_S (gA base) H0 H locs) (i : Nat) (hi : i < n) (t0 qk : Nat) (hq : qk < n) {cA : ClassId} {k : Nat} {r : vw_C} {vs : List Value} {f : Nat → Option Nat} (he : en i = .inl (cA, k, .inr (.inr (.inr (.inr f))))) (ht : tys[t0]? = some (cA, .object r.1)) (hv : en qk = .inr (ci, vs)) (hc : cl[ci]? = some r) {j : Int32} (hin : vp_in j k) (hdg : decode cc pc = .ok (.aastore, 1))
    (kk : ∀ (H1 : Heap) (locs1 : List Loc), va_P D cl (gw ad (va_up en i (.inl (cA, k, .inr (.inr (.inr (.inr (va_up f j.toNatClampNeg (some (ad qk))))))))) n) H1 → va_S (gA base) H0 H1 locs1 → W p l e R s m args below meth c H1 locs1 cells slots Q (F0 m (pc + 1) ls rest)) : W p l e R s m args below meth c H locs cells slots Q (F0 m pc ls (.ref (ad qk) :: .int j :: .ref (ad i) :: rest)) :=
  va_astq F.1 F.2.1 hK hP G.D hS i t0 qk ci (by rw [gw_at hi, he]) ht (by rw [gw_at hq, hv]) hc hin hdg (fun H1 locs1 h1 _ h3 => kk H1 locs1 (by rw [gw_set hi] at h1; exact h1) h3)
theorem g_lald (F : CallFix p m c cc nL s args Ts own) (hK : va_K D cl tys s) (hP : va_P D cl (gw ad en n) H) (i : Nat) (hi : i < n) (t0 : Nat) {cA : ClassId} {k : Nat} {f : Nat → Int64} (he : en i = .inl (cA, k, .inr (.inl f))) (ht : tys[t0]? = some (cA, .long)) {j : Int32} (hin : vp_in j k) (hdg : decode cc pc = .ok (.laload, 1))
    (kk : W p l e R s m args below meth c H locs cells slots Q (F0 m (pc + 1) ls (.long (f j.toNatClampNeg) :: rest))) : W p l e R s m args below meth c H locs cells slots Q (F0 m pc ls (.int j :: .ref (ad i) :: rest)) :=
  va_lald F.1 F.2.1 hK hP i t0 (by rw [gw_at hi, he]) ht hin hdg kk
theorem g_last (F : CallFix p m c cc nL s args Ts own) (hK : va_K D cl tys s) (G : gGeo ad n base) (hP : va_P D cl (gw ad en n) H) (hS : va_S (gA base) H0 H locs) (i : Nat) (hi : i < n) (t0 : Nat) {cA : ClassId} {k : Nat} {f : Nat → Int64} (he : en i = .inl (cA, k, .inr (.inl f))) (ht : tys[t0]? = some (cA, .long)) {j : Int32} {x : Int64} (hin : vp_in j k) (hdg : decode cc pc = .ok (.lastore, 1))
    (kk : ∀ (H1 : Heap) (locs1 : List Loc), va_P D cl (gw ad (va_up en i (.inl (cA, k, .inr (.inl (vp_updL f j.toNatClampNeg x))))) n) H1 → va_S (gA base) H0 H1 locs1 → W p l e R s m args below meth c H1 locs1 cells slots Q (F0 m (pc + 1) ls rest)) : W p l e R s m args below meth c H locs cells slots Q (F0 m pc ls (.long x :: .int j :: .ref (ad i) :: rest)) :=
  va_last F.1 F.2.1 hK hP G.D hS i t0 (by rw [gw_at hi, he]) ht hin hdg (fun H1 locs1 h1 _ h3 => kk H1 locs1 (by rw [gw_set hi] at h1; exact h1) h3)
theorem g_copy (F : CallFix p m c cc nL s args Ts own) (hsz : ls.size = nL) (hK : va_K D cl tys s) (G : gGeo ad n base) (hP : va_P D cl (gw ad en n) H) (hS : va_S (gA base) H0 H locs) (i0 i1 : Nat) (h0 : i0 < n) (h1 : i1 < n) (t0 t1 : Nat) {c0 c1 : ClassId} {n0 n1 : Nat} {f g : Nat → Int32} {ty : FieldType}
    (he0 : en i0 = .inl (c0, n0, .inl f)) (he1 : en i1 = .inl (c1, n1, .inl g)) (ht0 : tys[t0]? = some (c0, ty)) (ht1 : tys[t1]? = some (c1, ty)) (hprim : refKind ty = false)
    (w1 : Cond.methodLink own index arraycopyName ∈ Ts) (w2 : Cond.native arraycopyName ∈ Ts) (w3 : Cond.static arraycopyName ∈ Ts) (w4 : Cond.initialized "java/lang/System" ∈ Ts)
    {sp dp k : Int32} (a1 : ¬ sp < 0) (a2 : ¬ dp < 0) (a3 : ¬ k < 0) (a4 : sp.toNatClampNeg + k.toNatClampNeg ≤ n0) (a5 : dp.toNatClampNeg + k.toNatClampNeg ≤ n1) (hfit : ∀ i, i < k.toNatClampNeg → fits ty (.int (f (sp.toNatClampNeg + i))) = true)
    (hframes : 1 ≤ R.frames) (hlocals : (rest.map fun v => v.category).sum + (nativeFrameWords "java/lang/System" "arraycopy" 5 + 11) ≤ R.locals) (hdg : decode cc pc = .ok (.invokestatic index, 3))
    (kk : ∀ (H1 : Heap) (locs1 : List Loc), va_P D cl (gw ad (va_up en i1 (.inl (c1, n1, .inl (va_cpy f g sp.toNatClampNeg dp.toNatClampNeg k.toNatClampNeg)))) n) H1 → va_S (gA base) H0 H1 locs1 → W p l e R s m args below meth c H1 locs1 cells slots Q (F0 m (pc + 3) ls rest)) :
    W p l e R s m args below meth c H locs cells slots Q (F0 m pc ls (.int k :: .int dp :: .ref (ad i1) :: .int sp :: .ref (ad i0) :: rest)) :=
  va_copyi F.1 F.2.1 (by rw [F.2.2.1, hsz]) F.2.2.2.1 (F.2.2.2.2 _ w1) (F.2.2.2.2 _ w2) (F.2.2.2.2 _ w3) (F.2.2.2.2 _ w4) hK hP G.D hS i0 i1 t0 t1 (by rw [gw_at h0, he0]) (by rw [gw_at h1, he1]) ht0 ht1 hprim a1 a2 a3 a4 a5 hfit hframes hlocals hdg
    (fun H1 locs1 q1 _ q3 => kk H1 locs1 (by rw [gw_set h1] at q1; exact q1) q3)
end GWR
/-- a contract's start and end over the world -/
def gPc (tw : State → Prop) (D : va_G) (cl : List vw_C) (ad : Nat → Nat) (n base : Nat) (en : Nat → va_E) (av : List Value) : Array Value → State → Prop := va_Pc av (fun U => tw U ∧ base ≤ U.heap.size ∧ va_P D cl (gw ad en n) U.heap)
def gQc (D : va_G) (cl : List vw_C) (ad : Nat → Nat) (n base : Nat) (r : Option Value) (Post : (Nat → va_E) → Prop) : Array Value → State → Outcome → State → Prop := fun _ st o t => o = .returned r ∧ (∃ en' : Nat → va_E, Post en' ∧ va_P D cl (gw ad en' n) t.heap) ∧ va_F (gA base) st t
/-- the same, where it may throw: xs names what, k which of them (0: it returns); what is thrown leaves the world e0 -/
def gQx (D : va_G) (cl : List vw_C) (ad : Nat → Nat) (n base : Nat) (e0 : Nat → va_E) (xs : List String) (k : Nat) (r : Option Value) (Post : (Nat → va_E) → Prop) : Array Value → State → Outcome → State → Prop := fun a st o t =>
  (k = 0 ∧ gQc D cl ad n base r Post a st o t) ∨ (k ≠ 0 ∧ ∃ x : Nat, o = .threw x ∧ tx_Obj (xs.getD (k - 1) "") x t ∧ va_P D cl (gw ad e0 n) t.heap ∧ va_F (gA base) st t)
section GWC
variable {p : Program} {l : Launch} {e : Env} {R : Room} {s : State} {m : MethodId} {args : Array Value} {below : List Frame} {meth : Method} {c : Code} {H : Heap} {locs : List Loc} {cells slots : Nat} {Q : State → Prop}
variable {pc : Nat} {ls : Array Slot} {rest st0 : List Value} {D : va_G} {cl : List vw_C} {H0 : Heap} {ad : Nat → Nat} {n base mc ms : Nat} {r : Option Value} {Post : (Nat → va_E) → Prop} {a : Array Value}
/-- behind a call -/
theorem g_call (hr : va_Run p l e R s m args below meth c H locs cells slots mc ms (F0 m pc ls st0) rest (gQc D cl ad n base r Post a) (gA base)) (hS : va_S (gA base) H0 H locs)
    (kk : ∀ (en' : Nat → va_E) (H1 : Heap) (locs1 : List Loc), Post en' → va_P D cl (gw ad en' n) H1 → va_S (gA base) H0 H1 locs1 → W p l e R s m args below meth c H1 locs1 (cells + mc) (slots + ms) Q (F0 m (pc + 3) ls (r.toList ++ rest))) : W p l e R s m args below meth c H locs cells slots Q (F0 m pc ls st0) := by
  intro T hT X
  obtain ⟨v, st₀, t, T', L, h0, X', hL, e1, e2, ⟨hv, ⟨en', hp, hP⟩, hz, hk⟩, st⟩ := hr T hT X
  cases hv
  rw [h0] at hz hk
  obtain ⟨t2, a1, b1⟩ := kk en' T'.heap (locs ++ L) hp (by rw [e1]; exact hP)
    ⟨Nat.le_trans hS.1 (by rw [e1]; exact hz), fun q h1 h2 => by rw [e1, hk q (Nat.lt_of_lt_of_le h1 hS.1) h2]; exact hS.2.1 q h1 h2, fun q hq => by
      rcases List.mem_append.mp hq with h | h
      · exact hS.2.2 q h
      · exact hL q h⟩ T' rfl X'
  exact ⟨t2, st t2 a1, b1⟩
end GWC
