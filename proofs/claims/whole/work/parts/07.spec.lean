/-! What the document says, over numbers: four texts (lengths n, bytes b), the pattern (p, q), the automaton (x: next, c: accepting). -/
abbrev Ab : Type := (Nat → Nat) × (Nat → Nat → Nat) × Nat × (Nat → Nat) × (Nat → Nat) × (Nat → Nat)
def a_n (a : Ab) : Nat → Nat := a.1
def a_b (a : Ab) : Nat → Nat → Nat := a.2.1
def a_p (a : Ab) : Nat := a.2.2.1
def a_q (a : Ab) : Nat → Nat := a.2.2.2.1
def a_x (a : Ab) : Nat → Nat := a.2.2.2.2.1
def a_c (a : Ab) : Nat → Nat := a.2.2.2.2.2
def a_ok (a : Ab) : Prop := (∀ d, d < 4 → a_n a d ≤ 1000) ∧ (∀ d i, d < 4 → i < a_n a d → a_b a d i < 256) ∧ a_p a ≤ 16 ∧ (∀ k, k < a_p a → a_q a k < 256) ∧ (∀ q, q < 2048 → a_x a q < 8) ∧ ∀ q, q < 8 → a_c a q < 2
/-- text d becomes the k bytes f -/
def a_set (a : Ab) (d k : Nat) (f : Nat → Nat) : Ab := (fun e => if e = d then k else a_n a e, fun e => if e = d then f else a_b a e, a.2.2)
theorem a_set_n (a : Ab) (d k : Nat) (f : Nat → Nat) (e : Nat) : a_n (a_set a d k f) e = if e = d then k else a_n a e := rfl
theorem a_set_b (a : Ab) (d k : Nat) (f : Nat → Nat) (e : Nat) : a_b (a_set a d k f) e = if e = d then f else a_b a e := rfl
theorem a_set_ok {a : Ab} {d k : Nat} {f : Nat → Nat} (h : a_ok a) (hk : k ≤ 1000) (hf : ∀ i, i < k → f i < 256) : a_ok (a_set a d k f) := by
  obtain ⟨h1, h2, h3⟩ := h
  refine ⟨fun e he => ?_, fun e i he hi => ?_, h3⟩
  · rw [a_set_n]; split
    · exact hk
    · exact h1 e he
  · rw [a_set_n] at hi
    rw [a_set_b]
    by_cases hed : e = d
    · rw [if_pos hed] at hi ⊢; exact hf i hi
    · rw [if_neg hed] at hi ⊢; exact h2 e i he hi
/-- row r of S becomes f -/
def sr (S : Nat → Nat → Int32) (r : Nat) (f : Nat → Int32) : Nat → Nat → Int32 := fun r' => if r' = r then f else S r'
theorem sr_s {S : Nat → Nat → Int32} {r : Nat} {f : Nat → Int32} : sr S r f r = f := if_pos rfl
theorem sr_n {S : Nat → Nat → Int32} {r r' : Nat} {f : Nat → Int32} (h : r' ≠ r) : sr S r f r' = S r' := if_neg h
/-- the class's cells hold a: text d lies at the place pi d, the draft at dr; rows of S: 0 to 4 bytes by place, 5 sizes by place, 6 pattern, 7 its size, 8 next, 9 accepting -/
def RepC (pi : Nat → Nat) (dr : Nat) (S : Nat → Nat → Int32) (a : Ab) : Prop :=
  (∀ d, d < 4 → pi d < 5 ∧ pi d ≠ dr) ∧ dr < 5 ∧ (∀ d e, d < 4 → e < 4 → pi d = pi e → d = e) ∧ (∀ d, d < 4 → S 5 (pi d) = nI (a_n a d)) ∧ (∀ d i, d < 4 → i < a_n a d → S (pi d) i = nI (a_b a d i)) ∧
  S 7 0 = nI (a_p a) ∧ (∀ k, k < a_p a → S 6 k = nI (a_q a k)) ∧ (∀ q, q < 2048 → S 8 q = nI (a_x a q)) ∧ ∀ q, q < 8 → S 9 q = nI (a_c a q)
/-- the draft holds the k bytes g -/
def RepD (dr : Nat) (S : Nat → Nat → Int32) (k : Nat) (g : Nat → Nat) : Prop := S 5 dr = nI k ∧ ∀ i, i < k → S dr i = nI (g i)
/-- the reference's cells hold a: rows of M: 0 numbers (0 code, 1 drafted, 2 patternSize, 3 state, 4 many), 1 texts, 2 sizes, 3 draft, 4 pattern, 5 next, 6 accepts -/
def RepM (M : Nat → Nat → Int32) (a : Ab) : Prop :=
  (∀ d, d < 4 → M 2 d = nI (a_n a d)) ∧ (∀ d i, d < 4 → i < a_n a d → M 1 (1000 * d + i) = nI (a_b a d i)) ∧ M 0 2 = nI (a_p a) ∧ (∀ k, k < a_p a → M 4 k = nI (a_q a k)) ∧ (∀ q, q < 2048 → M 5 q = nI (a_x a q)) ∧ ∀ q, q < 8 → M 6 q = nI (a_c a q)
def RepDM (M : Nat → Nat → Int32) (k : Nat) (g : Nat → Nat) : Prop := M 0 1 = nI k ∧ ∀ i, i < k → M 3 i = nI (g i)
theorem RepC.off {pi : Nat → Nat} {dr : Nat} {S S' : Nat → Nat → Int32} {a : Ab} (h : RepC pi dr S a) (h1 : ∀ r, r ≠ dr → r ≠ 5 → S' r = S r) (h2 : ∀ q, q ≠ dr → S' 5 q = S 5 q) : RepC pi dr S' a := by
  obtain ⟨c1, c2, c3, c4, c5, c6, c7, c8, c9⟩ := h
  refine ⟨c1, c2, c3, fun d hd => ?_, fun d i hd hi => ?_, ?_, fun k hk => ?_, fun q hq => ?_, fun q hq => ?_⟩
  · rw [h2 _ (c1 d hd).2]; exact c4 d hd
  · rw [h1 _ (c1 d hd).2 (by have := (c1 d hd).1; omega)]; exact c5 d i hd hi
  · rw [h1 7 (by omega) (by omega)]; exact c6
  · rw [h1 6 (by omega) (by omega)]; exact c7 k hk
  · rw [h1 8 (by omega) (by omega)]; exact c8 q hq
  · rw [h1 9 (by omega) (by omega)]; exact c9 q hq
/-- the draft becomes text e -/
theorem RepC.swap {pi : Nat → Nat} {dr : Nat} {S : Nat → Nat → Int32} {a : Ab} {e k : Nat} {g : Nat → Nat} (h : RepC pi dr S a) (hd : RepD dr S k g) (he : e < 4) : RepC (va_up pi e dr) (pi e) S (a_set a e k g) := by
  obtain ⟨c1, c2, c3, c4, c5, c6⟩ := h
  have up : ∀ d, va_up pi e dr d = if d = e then dr else pi d := fun d => rfl
  refine ⟨fun d hd' => ?_, (c1 e he).1, fun d d' h1 h2 h3 => ?_, fun d h1 => ?_, fun d i h1 h2 => ?_, c6⟩
  · rw [up]; split
    · exact ⟨c2, fun z => (c1 e he).2 z.symm⟩
    · exact ⟨(c1 d hd').1, fun z => by have := c3 d e hd' he z; contradiction⟩
  · rw [up, up] at h3
    by_cases x1 : d = e <;> by_cases x2 : d' = e
    · rw [x1, x2]
    · rw [if_pos x1, if_neg x2] at h3; exact absurd h3.symm (c1 d' h2).2
    · rw [if_neg x1, if_pos x2] at h3; exact absurd h3 (c1 d h1).2
    · rw [if_neg x1, if_neg x2] at h3; exact c3 d d' h1 h2 h3
  · rw [up, a_set_n]
    by_cases x1 : d = e
    · rw [if_pos x1, if_pos x1]; exact hd.1
    · rw [if_neg x1, if_neg x1]; exact c4 d h1
  · rw [a_set_n] at h2
    rw [up, a_set_b]
    by_cases x1 : d = e
    · rw [if_pos x1] at h2 ⊢
      rw [if_pos x1]; exact hd.2 i h2
    · rw [if_neg x1] at h2 ⊢
      rw [if_neg x1]; exact c5 d i h1 h2
theorem RepC.to {pi : Nat → Nat} {dr : Nat} {S : Nat → Nat → Int32} {a : Ab} {e k k' : Nat} {g g' : Nat → Nat} (h : RepC pi dr S (a_set a e k g)) (hk : k = k') (hg : ∀ i, i < k → g i = g' i) : RepC pi dr S (a_set a e k' g') := by
  subst hk
  obtain ⟨c1, c2, c3, c4, c5, c6⟩ := h
  refine ⟨c1, c2, c3, c4, fun d i h1 h2 => ?_, c6⟩
  have h5 := c5 d i h1 h2
  rw [a_set_n] at h2
  rw [a_set_b] at h5 ⊢
  by_cases x1 : d = e
  · rw [if_pos x1] at h2 h5 ⊢; rw [← hg i h2]; exact h5
  · rw [if_neg x1] at h5 ⊢; exact h5
theorem RepM.to {M : Nat → Nat → Int32} {a : Ab} {e k k' : Nat} {g g' : Nat → Nat} (h : RepM M (a_set a e k g)) (hk : k = k') (hg : ∀ i, i < k → g i = g' i) : RepM M (a_set a e k' g') := by
  subst hk
  obtain ⟨c4, c5, c6⟩ := h
  refine ⟨c4, fun d i h1 h2 => ?_, c6⟩
  have h5 := c5 d i h1 h2
  rw [a_set_n] at h2
  rw [a_set_b] at h5 ⊢
  by_cases x1 : d = e
  · rw [if_pos x1] at h2 h5 ⊢; rw [← hg i h2]; exact h5
  · rw [if_neg x1] at h5 ⊢; exact h5
/-- k bytes g, behind them the bytes f -/
def cat (g : Nat → Nat) (k : Nat) (f : Nat → Nat) : Nat → Nat := fun i => if i < k then g i else f (i - k)
/-- a range of a text laid behind the draft -/
theorem RepD.add {pi : Nat → Nat} {dr : Nat} {S : Nat → Nat → Int32} {a : Ab} {d k f w : Nat} {g : Nat → Nat} (h : RepC pi dr S a) (hd : RepD dr S k g) (h4 : d < 4) (hr : f + w ≤ a_n a d) :
    RepC pi dr (sr (sr S dr (va_cpy (S (pi d)) (S dr) f k w)) 5 (upd (S 5) dr (nI (k + w)))) a ∧ RepD dr (sr (sr S dr (va_cpy (S (pi d)) (S dr) f k w)) 5 (upd (S 5) dr (nI (k + w)))) (k + w) (cat g k (fun i => a_b a d (f + i))) := by
  have hdr : dr < 5 := h.2.1
  have n5 : dr ≠ 5 := by omega
  refine ⟨h.off (fun r h1 h2 => ?_) (fun q hq => ?_), ?_, fun i hi => ?_⟩
  · rw [sr_n h2, sr_n h1]
  · rw [sr_s]; exact pk_un hq
  · rw [sr_s]; exact pk_us
  · rw [sr_n n5, sr_s]
    unfold cat
    by_cases hik : i < k
    · rw [pk_cpy_out (Or.inl hik), if_pos hik]; exact hd.2 i hik
    · rw [pk_cpy_in (by omega) (by omega), if_neg hik]
      exact h.2.2.2.2.1 d (f + (i - k)) h4 (by omega)
theorem RepD.clear {pi : Nat → Nat} {dr : Nat} {S : Nat → Nat → Int32} {a : Ab} (h : RepC pi dr S a) (g : Nat → Nat) : RepC pi dr (sr S 5 (upd (S 5) dr 0)) a ∧ RepD dr (sr S 5 (upd (S 5) dr 0)) 0 g := by
  have hdr : dr < 5 := h.2.1
  refine ⟨h.off (fun r h1 h2 => sr_n h2) (fun q hq => ?_), ?_, fun i hi => absurd hi (Nat.not_lt_zero _)⟩
  · rw [sr_s]; exact pk_un hq
  · rw [sr_s]; exact pk_us
