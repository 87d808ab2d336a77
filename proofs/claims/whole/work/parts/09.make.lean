/-! The making of the world: a cell more. -/
theorem gw_push {ad : Nat → Nat} {en : Nat → va_E} {n q : Nat} {x : va_E} : gw ad en n ++ [(q, x)] = gw (va_up ad n q) (va_up en n x) (n + 1) := by
  unfold gw
  rw [List.range_succ, List.map_append]
  congr 1
  · apply List.map_congr_left
    intro i hi
    have h := List.mem_range.mp hi
    have hne : i ≠ n := Nat.ne_of_lt h
    simp [va_up, hne]
  · simp [va_up]
theorem gGeo.of {ad : Nat → Nat} {en : Nat → va_E} {n base : Nat} (h : va_D (gA base) (gw ad en n)) : gGeo ad n base :=
  ⟨fun i j hi hj e => h.1 i j _ _ (gw_at hi) (gw_at hj) e, fun i hi => h.2 i _ (gw_at hi)⟩
section GWN
variable {p : Program} {l : Launch} {e : Env} {R : Room} {s : State} {m : MethodId} {args : Array Value} {below : List Frame} {meth : Method} {c : Code} {H : Heap} {locs : List Loc} {cells slots : Nat} {Q : State → Prop}
variable {cc : ByteArray} {pc nL : Nat} {ls : Array Slot} {rest : List Value} {D : va_G} {cl : List vw_C} {tys : List (ClassId × FieldType)} {H0 : Heap} {ad : Nat → Nat} {en : Nat → va_E} {n base : Nat} {Ts : List Cond} {own C : String} {T : u_T} {N ci index : Nat}
theorem g_new (F : CallFix p m c cc nL s args Ts own) (hK : va_K D cl tys s) (G : gGeo ad n base) (hP : va_P D cl (gw ad en n) H) (hS : va_S (gA base) H0 H locs) (hB : base ≤ H0.size) (hc : cl[ci]? = some (C, T, N)) (hin : ∀ w ∈ u_ws C T N, w ∈ Ts) (ty : Nat → FieldType) (hty : ∀ k, k < N → parseFieldDescriptor (T k).2.2.1 = some (ty k))
    (w1 : Cond.classLink own index C ∈ Ts) (w2 : Cond.instantiable C N ∈ Ts) (w3 : Cond.initialized C ∈ Ts) {fs : List Value} (hfs : ∀ j, j < N → defaultValue (ty j) = vp_V fs j) (hcells : cells + 1 ≤ R.cells) (hslots : slots + N ≤ R.slots) (hdg : decode cc pc = .ok (.new index, 3))
    (kk : ∀ (q : Nat) (H1 : Heap), gGeo (va_up ad n q) (n + 1) base → va_P D cl (gw (va_up ad n q) (va_up en n (.inr (ci, fs))) (n + 1)) H1 → va_S (gA base) H0 H1 locs →
      W p l e R s m args below meth c H1 locs (cells + 1) (slots + N) Q (F0 m (pc + 3) ls (.ref q :: rest))) : W p l e R s m args below meth c H locs cells slots Q (F0 m pc ls rest) :=
  va_new F.1 F.2.1 F.2.2.2.2 hin ty hty F.2.2.2.1 (F.2.2.2.2 _ w1) (F.2.2.2.2 _ w2) (F.2.2.2.2 _ w3) hK hP G.D hS (fun q h => Nat.le_trans hB h) hc hfs hcells hslots hdg
    (fun q H1 h1 h2 h3 => by rw [gw_push] at h1 h2; exact kk q H1 (gGeo.of h2) h1 h3)
theorem g_newa (F : CallFix p m c cc nL s args Ts own) (hK : va_K D cl tys s) (G : gGeo ad n base) (hP : va_P D cl (gw ad en n) H) (hS : va_S (gA base) H0 H locs) (hB : base ≤ H0.size) {atype : ArrayType} (w1 : Cond.arrayClass (newarray.typeOf atype) ∈ Ts) {ty : FieldType} (hty : newarray.typeOf atype = ty) (hprim : ∀ B, ty ≠ .object B) (t0 : Nat) {cA : ClassId} (ht : tys[t0]? = some (cA, ty))
    {k : Int32} {N' : Nat} {a0 : vp_A} (ha : ∀ cA : ClassId, vp_cell cA a0 = arrV cA N' (fun _ => defaultValue ty)) (hn : ¬ k < 0) (hN : k.toNatClampNeg = N') (hbytes : N' * componentBytes ty ≤ 536870912) (hcells : cells + 1 ≤ R.cells) (hslots : slots + N' ≤ R.slots) (hdg : decode cc pc = .ok (.newarray atype, 2))
    (kk : ∀ (q : Nat) (H1 : Heap), gGeo (va_up ad n q) (n + 1) base → va_P D cl (gw (va_up ad n q) (va_up en n (.inl (cA, a0))) (n + 1)) H1 → va_S (gA base) H0 H1 locs →
      W p l e R s m args below meth c H1 locs (cells + 1) (slots + N') Q (F0 m (pc + 2) ls (.ref q :: rest))) : W p l e R s m args below meth c H locs cells slots Q (F0 m pc ls (.int k :: rest)) := by
  refine va_newa F.1 F.2.1 (F.2.2.2.2 _ w1) hty hK hP G.D hS (fun q h => Nat.le_trans hB h) ha hn hN hbytes hcells hslots hdg (fun q cB H1 h0 h1 h2 h3 => ?_)
  have hx : (tys ++ [(cB, ty)])[tys.length]? = some (cB, ty) := by simp
  have r1 := (h0.2 _ _ hx).2
  have r2 := (hK.2 _ _ ht).2
  have hcc : cB = cA := by
    cases ty with
    | object B => exact absurd rfl (hprim B)
    | _ => exact Option.some.inj (r1.symm.trans r2)
  subst hcc
  rw [gw_push] at h1 h2
  exact kk q H1 (gGeo.of h2) h1 h3
theorem g_newq (F : CallFix p m c cc nL s args Ts own) (hK : va_K D cl tys s) (G : gGeo ad n base) (hP : va_P D cl (gw ad en n) H) (hS : va_S (gA base) H0 H locs) (hB : base ≤ H0.size) {B : String} (w1 : Cond.classLink own index B ∈ Ts) (hover : va_AO B s) (t0 : Nat) {cA : ClassId} (ht : tys[t0]? = some (cA, .object B))
    {k : Int32} {N' : Nat} (hn : ¬ k < 0) (hN : k.toNatClampNeg = N') (hbytes : N' * 4 ≤ 536870912) (hcells : cells + 1 ≤ R.cells) (hslots : slots + N' ≤ R.slots) (hdg : decode cc pc = .ok (.anewarray index, 3))
    (kk : ∀ (q : Nat) (H1 : Heap), gGeo (va_up ad n q) (n + 1) base → va_P D cl (gw (va_up ad n q) (va_up en n (.inl (cA, N', .inr (.inr (.inr (.inr (fun _ => none))))))) (n + 1)) H1 → va_S (gA base) H0 H1 locs →
      W p l e R s m args below meth c H1 locs (cells + 1) (slots + N') Q (F0 m (pc + 3) ls (.ref q :: rest))) : W p l e R s m args below meth c H locs cells slots Q (F0 m pc ls (.int k :: rest)) := by
  refine va_newq F.1 F.2.1 F.2.2.2.1 (F.2.2.2.2 _ w1) hover hK hP G.D hS (fun q h => Nat.le_trans hB h) hn hN hbytes hcells hslots hdg (fun q cB H1 h0 h1 h2 h3 => ?_)
  have hx : (tys ++ [(cB, .object B)])[tys.length]? = some (cB, FieldType.object B) := by simp
  obtain ⟨_, _, _, _, _, r1⟩ := (h0.2 _ _ hx).2
  obtain ⟨_, _, _, _, _, r2⟩ := (hK.2 _ _ ht).2
  have hcc : cB = cA := Option.some.inj (r1.symm.trans r2)
  subst hcc
  rw [gw_push] at h1 h2
  exact kk q H1 (gGeo.of h2) h1 h3
end GWN
