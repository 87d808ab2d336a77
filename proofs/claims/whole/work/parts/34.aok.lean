/-! Every call keeps the bounds. -/
def aok (a : Ab) : Prop := (∀ d, a_n a d ≤ 1000) ∧ (∀ d i, a_b a d i < 256) ∧ a_p a ≤ 16 ∧ (∀ k, a_q a k < 256) ∧ (∀ q, a_x a q < 8) ∧ ∀ q, a_c a q < 2
theorem aok.ok {a : Ab} (h : aok a) : a_ok a := ⟨fun d _ => h.1 d, fun d i _ _ => h.2.1 d i, h.2.2.1, fun k _ => h.2.2.2.1 k, fun q _ => h.2.2.2.2.1 q, fun q _ => h.2.2.2.2.2 q⟩
theorem aok.set {a : Ab} {d k : Nat} {f : Nat → Nat} (h : aok a) (hk : k ≤ 1000) (hf : ∀ i, f i < 256) : aok (a_set a d k f) := by
  refine ⟨fun e => ?_, fun e i => ?_, h.2.2⟩
  · rw [a_set_n]; split
    · exact hk
    · exact h.1 e
  · rw [a_set_b]; split
    · exact hf i
    · exact h.2.1 e i
theorem cat_lt {g f : Nat → Nat} {k : Nat} (hg : ∀ i, g i < 256) (hf : ∀ i, f i < 256) : ∀ i, cat g k f i < 256 := by
  intro i
  unfold cat
  split
  · exact hg i
  · exact hf _
theorem rst_lt {b : Nat → Nat} {f w : Nat} (hb : ∀ i, b i < 256) : ∀ i, rst b f w i < 256 := by
  intro i
  unfold rst
  split
  · exact hb _
  · exact hb _
theorem rep_lt {b : Nat → Nat} {f w : Nat} (hb : ∀ i, b i < 256) : ∀ m i, rep b f w m i < 256
  | 0, i => hb i
  | m + 1, i => cat_lt (rep_lt hb m) (fun j => hb _) i
theorem fill_lt {g : Nat → Nat} {p v k N : Nat} (hg : ∀ i, g i < N) (hv : v < N) : ∀ i, fill g p v k i < N := by
  intro i
  unfold fill
  split
  · exact hv
  · exact hg i
theorem rg_t {f t : Int32} {n : Nat} (h : rg f t n = true) (hn : n ≤ 1000) : ix t ≤ 1000 := by
  rcases rg_or f t hn with h1 | ⟨f', t', h1, h2, rfl, rfl⟩
  · rw [h1] at h; cases h
  · rw [ix_nI (by omega)]; omega
theorem k_write {a : Ab} (h : aok a) (d : Int32) (v : Int64) (n : Int32) : aok (if c_write a d n = 0 then x_write a d v n else a) := by
  split
  · next hc =>
    unfold c_write at hc
    split at hc
    · split at hc
      · next h2 => exact h.set h2 (cat_lt (h.2.1 _) (byt_lt v))
      · cases hc
    · cases hc
  · exact h
theorem k_copy {a : Ab} (h : aok a) (d f t d2 : Int32) : aok (if c_copy a d f t d2 = 0 then x_copy a d f t d2 else a) := by
  split
  · next hc =>
    unfold c_copy at hc
    split at hc
    · split at hc
      · next h2 => exact h.set (by have := rg_t h2 (h.1 _); omega) (fun i => h.2.1 _ _)
      · cases hc
    · cases hc
  · exact h
theorem k_join {a : Ab} (h : aok a) (d d2 d3 : Int32) : aok (if c_join a d d2 d3 = 0 then x_join a d d2 d3 else a) := by
  split
  · next hc =>
    unfold c_join at hc
    split at hc
    · split at hc
      · next h2 => exact h.set h2 (cat_lt (h.2.1 _) (h.2.1 _))
      · cases hc
    · cases hc
  · exact h
theorem k_insert {a : Ab} (h : aok a) (d q d2 f t : Int32) : aok (if c_insert a d q d2 f t = 0 then x_insert a d q d2 f t else a) := by
  split
  · next hc =>
    unfold c_insert at hc
    split at hc
    · split at hc
      · split at hc
        · next h2 => exact h.set h2 (cat_lt (cat_lt (h.2.1 _) (fun i => h.2.1 _ _)) (fun i => h.2.1 _ _))
        · cases hc
      · cases hc
    · cases hc
  · exact h
theorem k_delete {a : Ab} (h : aok a) (d f t : Int32) : aok (if c_delete a d f t = 0 then x_delete a d f t else a) := by
  split
  · exact h.set (by have := h.1 (ix d); omega) (cat_lt (h.2.1 _) (fun i => h.2.1 _ _))
  · exact h
theorem k_move {a : Ab} (h : aok a) (d f t q : Int32) : aok (if c_move a d f t q = 0 then x_move a d f t q else a) := by
  split
  · exact h.set (h.1 _) (cat_lt (cat_lt (rst_lt (h.2.1 _)) (fun i => h.2.1 _ _)) (fun i => rst_lt (h.2.1 _) _))
  · exact h
theorem k_repeat {a : Ab} (h : aok a) (d f t n : Int32) : aok (if c_repeat a d f t n = 0 then x_repeat a d f t n else a) := by
  split
  · next hc =>
    unfold c_repeat at hc
    split at hc
    · split at hc
      · split at hc
        · next h2 => exact h.set h2 (cat_lt (rep_lt (h.2.1 _) _) (fun i => h.2.1 _ _))
        · cases hc
      · cases hc
    · cases hc
  · exact h
theorem pbyt_lt (lo hi : Int64) (k : Nat) : pbyt lo hi k < 256 := by
  unfold pbyt
  split
  · exact byt_lt _ _
  · exact byt_lt _ _
theorem k_pattern {a : Ab} (h : aok a) (lo hi : Int64) (n : Int32) : aok (if c_pattern n = 0 then x_pattern a lo hi n else a) := by
  split
  · next hc =>
    unfold c_pattern at hc
    split at hc
    · next h2 =>
      refine ⟨h.1, h.2.1, ?_, pbyt_lt lo hi, h.2.2.2.2.1, h.2.2.2.2.2⟩
      show ix n ≤ 16
      rcases bt_or n 16 with h3 | ⟨j, h3, h4, rfl⟩
      · have h5 : btw n 1 16 = false := h3.1
        rw [h5] at h2; cases h2
      · rw [ix_nI (by omega)]; exact h4
    · cases hc
  · exact h
theorem sk_lt {s : Int32} (h : sk s = true) : ix s < 8 := by
  rcases sk_or s with h1 | ⟨k, hk, rfl⟩
  · rw [h1.1] at h; cases h
  · rw [ix_nI (by omega)]; exact hk
theorem k_lead {a : Ab} (h : aok a) (s lo hi t : Int32) : aok (if c_lead s lo hi t = 0 then x_lead a s lo hi t else a) := by
  split
  · next hc =>
    unfold c_lead at hc
    split at hc
    · next h2 =>
      simp only [Bool.and_eq_true] at h2
      exact ⟨h.1, h.2.1, h.2.2.1, h.2.2.2.1, fill_lt h.2.2.2.2.1 (sk_lt h2.1.2), h.2.2.2.2.2⟩
    · cases hc
  · exact h
theorem k_accept {a : Ab} (h : aok a) (s : Int32) {b : Nat} (hb : b < 2) : aok (if c_accept s = 0 then x_accept a s b else a) := by
  split
  · exact ⟨h.1, h.2.1, h.2.2.1, h.2.2.2.1, h.2.2.2.2.1, fill_lt h.2.2.2.2.2 hb⟩
  · exact h
theorem k_same {a : Ab} {P : Prop} [Decidable P] (h : aok a) : aok (if P then a else a) := by
  split
  · exact h
  · exact h
/-- a static method with handlers, called in the one world -/
theorem g_SH {p : Program} {l : Launch} {e : Env} {R : Room} {s : State} {m : MethodId} {args : Array Value} {below : List Frame} {meth : Method} {c : Code} {H : Heap} {locs : List Loc} {cells slots : Nat} {Q : State → Prop}
    {cc bytes : ByteArray} {pc nL maxL k index mc ms : Nat} {ls : Array Slot} {rest st0 As : List Value} {D : va_G} {cI cZ cT cJ : ClassId} {ad : Nat → Nat} {en : Nat → va_E} {n base : Nat} {own : String} {y : MethodName} {ret : Option FieldType} {rm : Room} {r : Option Value} {Post : (Nat → va_E) → Prop} {hs : List (Nat × Nat × Nat × Nat)}
    (F : CallFix p m c cc nL s args tws own) (htw : tw D cI cZ cT cJ base s) (hB : base ≤ s.heap.size) (hS : va_S (gA base) s.heap H locs) (hP : va_P D cl (gw ad en n) H)
    (hM : Met l y (Cond.codeWith y bytes maxL ret hs :: tws) rm (gPc (tw D cI cZ cT cJ base) D cl ad n base en As) (gQc D cl ad n base r Post) mc ms (gA base))
    (w1 : Cond.methodLink own index y ∈ tws) (w2 : Cond.static y ∈ tws) (w3 : Cond.initialized y.cls ∈ tws) (w4 : Cond.codeWith y bytes maxL ret hs ∈ tws)
    (hd : y.cls ≠ "java/lang/invoke/MethodHandle" ∧ y.cls ≠ "java/lang/invoke/VarHandle" ∧ (parseMethodDescriptor y.desc).map (fun d => d.parameters.length) = some k) (hrc : rm.cells = mc) (hrs : rm.slots = ms) (hR : rm.frames + 1 ≤ R.frames ∧ 8 + (maxL + 11) + rm.locals ≤ R.locals)
    (hn : As.length = k) (hsize : ls.size = nL) (hstack : st0 = As.reverse ++ rest) (hW : (rest.map fun v => v.category).sum ≤ 8) (hdg : decode cc pc = .ok (.invokestatic index, 3)) (hf : cells + mc ≤ R.cells ∧ slots + ms ≤ R.slots)
    (kk : ∀ (en' : Nat → va_E) (H1 : Heap) (locs1 : List Loc), Post en' → va_P D cl (gw ad en' n) H1 → va_S (gA base) s.heap H1 locs1 → W p l e R s m args below meth c H1 locs1 (cells + mc) (slots + ms) Q (F0 m (pc + 3) ls (r.toList ++ rest))) : W p l e R s m args below meth c H locs cells slots Q (F0 m pc ls st0) :=
  g_call (va_runSH (As := As) (rest := rest) (n := k) F hM hrc hrs hR.1 hR.2 (pay_in F.2.2.2.2 (g_good w4)) List.mem_cons_self (F.2.2.2.2 _ w4) (F.2.2.2.2 _ w3) ⟨hd.1, hd.2.1⟩ (fun sig h => by
    have h2 := hd.2.2
    rw [h] at h2
    exact (Option.some.inj h2).symm) (F.2.2.2.2 _ w1) (F.2.2.2.2 _ w2) (g_preS htw hB hS hP) rfl hn hsize hstack (lv_room hW) hdg hf) hS kk
/-- a loop whose room grows -/
theorem W.loopC {p : Program} {l : Launch} {e : Env} {R : Room} {s : State} {m : MethodId} {args : Array Value} {below : List Frame} {meth : Method} {c : Code} {pc : Nat} {Q : State → Prop} (kc ks : Nat → Nat) {α : Type} (I : Nat → α → Array Slot → Heap → List Loc → Prop)
    (h : ∀ (t : Nat) (a : α) (ls : Array Slot) (H : Heap) (locs : List Loc), I t a ls H locs → (∀ (t' : Nat) (a' : α) (ls' : Array Slot) (H' : Heap) (locs' : List Loc), t' < t → I t' a' ls' H' locs' → W p l e R s m args below meth c H' locs' (kc t') (ks t') Q (F0 m pc ls' [])) → W p l e R s m args below meth c H locs (kc t) (ks t) Q (F0 m pc ls []))
    {t : Nat} {a : α} {ls : Array Slot} {H : Heap} {locs : List Loc} (h0 : I t a ls H locs) : W p l e R s m args below meth c H locs (kc t) (ks t) Q (F0 m pc ls []) := by
  have key : ∀ (n t : Nat) (a : α) (ls : Array Slot) (H : Heap) (locs : List Loc), t < n → I t a ls H locs → W p l e R s m args below meth c H locs (kc t) (ks t) Q (F0 m pc ls []) := by
    intro n
    induction n with
    | zero => intro t a ls H locs ht; exact absurd ht (Nat.not_lt_zero _)
    | succ n ih => intro t a ls H locs ht hI; exact h t a ls H locs hI (fun t' a' ls' H' locs' hlt hI' => ih t' a' ls' H' locs' (by omega) hI')
  exact key (t + 1) t a ls H locs (Nat.lt_succ_self _) h0
