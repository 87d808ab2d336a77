/-! The world: 25 cells in the order in which they are made. 0 the object; 1 its array of texts; 2 + 2 p, 3 + 2 p the text at the place p and its bytes; 12, 13 the pattern; 14, 15, 16 the automaton; 17 to 23 the reference; 24 the law's own array. -/
def en (ad : Nat → Nat) (cI cZ cT cJ : ClassId) (pi : Nat → Nat) (dr : Nat) (S M : Nat → Nat → Int32) (o : Nat → Int64) : Nat → va_E := fun i => match i with
  | 0 => .inr (0, [.ref (ad 1), .ref (ad 12), .ref (ad 14), .ref (ad (2 + 2 * dr))])
  | 1 => .inl (cT, 4, .inr (.inr (.inr (.inr (fun d => some (ad (2 + 2 * pi d)))))))
  | 2 => .inr (1, [.ref (ad 3), .int (S 5 0)])
  | 3 => .inl (cI, 1000, .inl (S 0))
  | 4 => .inr (1, [.ref (ad 5), .int (S 5 1)])
  | 5 => .inl (cI, 1000, .inl (S 1))
  | 6 => .inr (1, [.ref (ad 7), .int (S 5 2)])
  | 7 => .inl (cI, 1000, .inl (S 2))
  | 8 => .inr (1, [.ref (ad 9), .int (S 5 3)])
  | 9 => .inl (cI, 1000, .inl (S 3))
  | 10 => .inr (1, [.ref (ad 11), .int (S 5 4)])
  | 11 => .inl (cI, 1000, .inl (S 4))
  | 12 => .inr (2, [.ref (ad 13), .int (S 7 0)])
  | 13 => .inl (cI, 16, .inl (S 6))
  | 14 => .inr (3, [.ref (ad 15), .ref (ad 16)])
  | 15 => .inl (cI, 2048, .inl (S 8))
  | 16 => .inl (cZ, 8, .inl (S 9))
  | 17 => .inr (4, [.int (M 0 0), .ref (ad 18), .ref (ad 19), .ref (ad 20), .int (M 0 1), .int (M 0 2), .ref (ad 21), .ref (ad 22), .ref (ad 23), .int (M 0 3), .int (M 0 4)])
  | 18 => .inl (cI, 4000, .inl (M 1))
  | 19 => .inl (cI, 4, .inl (M 2))
  | 20 => .inl (cI, 1000, .inl (M 3))
  | 21 => .inl (cI, 16, .inl (M 4))
  | 22 => .inl (cI, 2048, .inl (M 5))
  | 23 => .inl (cZ, 8, .inl (M 6))
  | _ => .inl (cJ, 1, .inr (.inl o))
theorem all25 {P : Nat → Prop} (h0 : P 0) (h1 : P 1) (h2 : P 2) (h3 : P 3) (h4 : P 4) (h5 : P 5) (h6 : P 6) (h7 : P 7) (h8 : P 8) (h9 : P 9) (h10 : P 10) (h11 : P 11) (h12 : P 12) (h13 : P 13) (h14 : P 14) (h15 : P 15) (h16 : P 16) (h17 : P 17) (h18 : P 18) (h19 : P 19) (h20 : P 20) (h21 : P 21) (h22 : P 22) (h23 : P 23) (h24 : P 24) : ∀ j, j < 25 → P j
  | 0, _ => h0
  | 1, _ => h1
  | 2, _ => h2
  | 3, _ => h3
  | 4, _ => h4
  | 5, _ => h5
  | 6, _ => h6
  | 7, _ => h7
  | 8, _ => h8
  | 9, _ => h9
  | 10, _ => h10
  | 11, _ => h11
  | 12, _ => h12
  | 13, _ => h13
  | 14, _ => h14
  | 15, _ => h15
  | 16, _ => h16
  | 17, _ => h17
  | 18, _ => h18
  | 19, _ => h19
  | 20, _ => h20
  | 21, _ => h21
  | 22, _ => h22
  | 23, _ => h23
  | 24, _ => h24
  | n + 25, h => absurd h (by omega)
theorem all5 {P : Nat → Prop} (h0 : P 0) (h1 : P 1) (h2 : P 2) (h3 : P 3) (h4 : P 4) : ∀ j, j < 5 → P j
  | 0, _ => h0
  | 1, _ => h1
  | 2, _ => h2
  | 3, _ => h3
  | 4, _ => h4
  | n + 5, h => absurd h (by omega)
section ENU
variable (ad : Nat → Nat) (cI cZ cT cJ : ClassId) (pi : Nat → Nat) (dr : Nat) (S M : Nat → Nat → Int32) (o : Nat → Int64)
theorem en_T {p : Nat} (hp : p < 5) : en ad cI cZ cT cJ pi dr S M o (2 + 2 * p) = .inr (1, [.ref (ad (3 + 2 * p)), .int (S 5 p)]) := all5 (P := fun p => en ad cI cZ cT cJ pi dr S M o (2 + 2 * p) = .inr (1, [.ref (ad (3 + 2 * p)), .int (S 5 p)])) rfl rfl rfl rfl rfl p hp
theorem en_B {p : Nat} (hp : p < 5) : en ad cI cZ cT cJ pi dr S M o (3 + 2 * p) = .inl (cI, 1000, .inl (S p)) := all5 (P := fun p => en ad cI cZ cT cJ pi dr S M o (3 + 2 * p) = .inl (cI, 1000, .inl (S p))) rfl rfl rfl rfl rfl p hp
theorem en_sz (v : Int32) {p : Nat} (hp : p < 5) : ∀ j, j < 25 → va_up (en ad cI cZ cT cJ pi dr S M o) (2 + 2 * p) (.inr (1, [.ref (ad (3 + 2 * p)), .int v])) j = en ad cI cZ cT cJ pi dr (sr S 5 (upd (S 5) p v)) M o j := all5 (P := fun p => ∀ j, j < 25 → va_up (en ad cI cZ cT cJ pi dr S M o) (2 + 2 * p) (.inr (1, [.ref (ad (3 + 2 * p)), .int v])) j = en ad cI cZ cT cJ pi dr (sr S 5 (upd (S 5) p v)) M o j) (all25 rfl rfl rfl rfl rfl rfl rfl rfl rfl rfl rfl rfl rfl rfl rfl rfl rfl rfl rfl rfl rfl rfl rfl rfl rfl) (all25 rfl rfl rfl rfl rfl rfl rfl rfl rfl rfl rfl rfl rfl rfl rfl rfl rfl rfl rfl rfl rfl rfl rfl rfl rfl) (all25 rfl rfl rfl rfl rfl rfl rfl rfl rfl rfl rfl rfl rfl rfl rfl rfl rfl rfl rfl rfl rfl rfl rfl rfl rfl) (all25 rfl rfl rfl rfl rfl rfl rfl rfl rfl rfl rfl rfl rfl rfl rfl rfl rfl rfl rfl rfl rfl rfl rfl rfl rfl) (all25 rfl rfl rfl rfl rfl rfl rfl rfl rfl rfl rfl rfl rfl rfl rfl rfl rfl rfl rfl rfl rfl rfl rfl rfl rfl) p hp
theorem en_by (f : Nat → Int32) {p : Nat} (hp : p < 5) : ∀ j, j < 25 → va_up (en ad cI cZ cT cJ pi dr S M o) (3 + 2 * p) (.inl (cI, 1000, .inl f)) j = en ad cI cZ cT cJ pi dr (sr S p f) M o j := all5 (P := fun p => ∀ j, j < 25 → va_up (en ad cI cZ cT cJ pi dr S M o) (3 + 2 * p) (.inl (cI, 1000, .inl f)) j = en ad cI cZ cT cJ pi dr (sr S p f) M o j) (all25 rfl rfl rfl rfl rfl rfl rfl rfl rfl rfl rfl rfl rfl rfl rfl rfl rfl rfl rfl rfl rfl rfl rfl rfl rfl) (all25 rfl rfl rfl rfl rfl rfl rfl rfl rfl rfl rfl rfl rfl rfl rfl rfl rfl rfl rfl rfl rfl rfl rfl rfl rfl) (all25 rfl rfl rfl rfl rfl rfl rfl rfl rfl rfl rfl rfl rfl rfl rfl rfl rfl rfl rfl rfl rfl rfl rfl rfl rfl) (all25 rfl rfl rfl rfl rfl rfl rfl rfl rfl rfl rfl rfl rfl rfl rfl rfl rfl rfl rfl rfl rfl rfl rfl rfl rfl) (all25 rfl rfl rfl rfl rfl rfl rfl rfl rfl rfl rfl rfl rfl rfl rfl rfl rfl rfl rfl rfl rfl rfl rfl rfl rfl) p hp
theorem en_dr (q : Nat) : ∀ j, j < 25 → va_up (en ad cI cZ cT cJ pi dr S M o) 0 (.inr (0, [.ref (ad 1), .ref (ad 12), .ref (ad 14), .ref (ad (2 + 2 * q))])) j = en ad cI cZ cT cJ pi q S M o j := all25 rfl rfl rfl rfl rfl rfl rfl rfl rfl rfl rfl rfl rfl rfl rfl rfl rfl rfl rfl rfl rfl rfl rfl rfl rfl
theorem en_pi (k q : Nat) : ∀ j, j < 25 → va_up (en ad cI cZ cT cJ pi dr S M o) 1 (.inl (cT, 4, .inr (.inr (.inr (.inr (va_up (fun d => some (ad (2 + 2 * pi d))) k (some (ad (2 + 2 * q))))))))) j = en ad cI cZ cT cJ (va_up pi k q) dr S M o j := by
  have h : (va_up (fun d => some (ad (2 + 2 * pi d))) k (some (ad (2 + 2 * q)))) = fun d => some (ad (2 + 2 * va_up pi k q d)) := by
    funext d
    unfold va_up
    by_cases h : d = k <;> simp [h]
  rw [h]
  exact all25 rfl rfl rfl rfl rfl rfl rfl rfl rfl rfl rfl rfl rfl rfl rfl rfl rfl rfl rfl rfl rfl rfl rfl rfl rfl
theorem en_qs (v : Int32) : ∀ j, j < 25 → va_up (en ad cI cZ cT cJ pi dr S M o) 12 (.inr (2, [.ref (ad 13), .int v])) j = en ad cI cZ cT cJ pi dr (sr S 7 (upd (S 7) 0 v)) M o j := all25 rfl rfl rfl rfl rfl rfl rfl rfl rfl rfl rfl rfl rfl rfl rfl rfl rfl rfl rfl rfl rfl rfl rfl rfl rfl
theorem en_qb (f : Nat → Int32) : ∀ j, j < 25 → va_up (en ad cI cZ cT cJ pi dr S M o) 13 (.inl (cI, 16, .inl f)) j = en ad cI cZ cT cJ pi dr (sr S 6 f) M o j := all25 rfl rfl rfl rfl rfl rfl rfl rfl rfl rfl rfl rfl rfl rfl rfl rfl rfl rfl rfl rfl rfl rfl rfl rfl rfl
theorem en_nx (f : Nat → Int32) : ∀ j, j < 25 → va_up (en ad cI cZ cT cJ pi dr S M o) 15 (.inl (cI, 2048, .inl f)) j = en ad cI cZ cT cJ pi dr (sr S 8 f) M o j := all25 rfl rfl rfl rfl rfl rfl rfl rfl rfl rfl rfl rfl rfl rfl rfl rfl rfl rfl rfl rfl rfl rfl rfl rfl rfl
theorem en_ac (f : Nat → Int32) : ∀ j, j < 25 → va_up (en ad cI cZ cT cJ pi dr S M o) 16 (.inl (cZ, 8, .inl f)) j = en ad cI cZ cT cJ pi dr (sr S 9 f) M o j := all25 rfl rfl rfl rfl rfl rfl rfl rfl rfl rfl rfl rfl rfl rfl rfl rfl rfl rfl rfl rfl rfl rfl rfl rfl rfl
theorem en_m_code (v : Int32) : ∀ j, j < 25 → va_up (en ad cI cZ cT cJ pi dr S M o) 17 (.inr (4, [.int v, .ref (ad 18), .ref (ad 19), .ref (ad 20), .int (M 0 1), .int (M 0 2), .ref (ad 21), .ref (ad 22), .ref (ad 23), .int (M 0 3), .int (M 0 4)])) j = en ad cI cZ cT cJ pi dr S (sr M 0 (upd (M 0) 0 v)) o j := all25 rfl rfl rfl rfl rfl rfl rfl rfl rfl rfl rfl rfl rfl rfl rfl rfl rfl rfl rfl rfl rfl rfl rfl rfl rfl
theorem en_m_drafted (v : Int32) : ∀ j, j < 25 → va_up (en ad cI cZ cT cJ pi dr S M o) 17 (.inr (4, [.int (M 0 0), .ref (ad 18), .ref (ad 19), .ref (ad 20), .int v, .int (M 0 2), .ref (ad 21), .ref (ad 22), .ref (ad 23), .int (M 0 3), .int (M 0 4)])) j = en ad cI cZ cT cJ pi dr S (sr M 0 (upd (M 0) 1 v)) o j := all25 rfl rfl rfl rfl rfl rfl rfl rfl rfl rfl rfl rfl rfl rfl rfl rfl rfl rfl rfl rfl rfl rfl rfl rfl rfl
theorem en_m_ps (v : Int32) : ∀ j, j < 25 → va_up (en ad cI cZ cT cJ pi dr S M o) 17 (.inr (4, [.int (M 0 0), .ref (ad 18), .ref (ad 19), .ref (ad 20), .int (M 0 1), .int v, .ref (ad 21), .ref (ad 22), .ref (ad 23), .int (M 0 3), .int (M 0 4)])) j = en ad cI cZ cT cJ pi dr S (sr M 0 (upd (M 0) 2 v)) o j := all25 rfl rfl rfl rfl rfl rfl rfl rfl rfl rfl rfl rfl rfl rfl rfl rfl rfl rfl rfl rfl rfl rfl rfl rfl rfl
theorem en_m_state (v : Int32) : ∀ j, j < 25 → va_up (en ad cI cZ cT cJ pi dr S M o) 17 (.inr (4, [.int (M 0 0), .ref (ad 18), .ref (ad 19), .ref (ad 20), .int (M 0 1), .int (M 0 2), .ref (ad 21), .ref (ad 22), .ref (ad 23), .int v, .int (M 0 4)])) j = en ad cI cZ cT cJ pi dr S (sr M 0 (upd (M 0) 3 v)) o j := all25 rfl rfl rfl rfl rfl rfl rfl rfl rfl rfl rfl rfl rfl rfl rfl rfl rfl rfl rfl rfl rfl rfl rfl rfl rfl
theorem en_m_many (v : Int32) : ∀ j, j < 25 → va_up (en ad cI cZ cT cJ pi dr S M o) 17 (.inr (4, [.int (M 0 0), .ref (ad 18), .ref (ad 19), .ref (ad 20), .int (M 0 1), .int (M 0 2), .ref (ad 21), .ref (ad 22), .ref (ad 23), .int (M 0 3), .int v])) j = en ad cI cZ cT cJ pi dr S (sr M 0 (upd (M 0) 4 v)) o j := all25 rfl rfl rfl rfl rfl rfl rfl rfl rfl rfl rfl rfl rfl rfl rfl rfl rfl rfl rfl rfl rfl rfl rfl rfl rfl
theorem en_m_texts (f : Nat → Int32) : ∀ j, j < 25 → va_up (en ad cI cZ cT cJ pi dr S M o) 18 (.inl (cI, 4000, .inl f)) j = en ad cI cZ cT cJ pi dr S (sr M 1 f) o j := all25 rfl rfl rfl rfl rfl rfl rfl rfl rfl rfl rfl rfl rfl rfl rfl rfl rfl rfl rfl rfl rfl rfl rfl rfl rfl
theorem en_m_sizes (f : Nat → Int32) : ∀ j, j < 25 → va_up (en ad cI cZ cT cJ pi dr S M o) 19 (.inl (cI, 4, .inl f)) j = en ad cI cZ cT cJ pi dr S (sr M 2 f) o j := all25 rfl rfl rfl rfl rfl rfl rfl rfl rfl rfl rfl rfl rfl rfl rfl rfl rfl rfl rfl rfl rfl rfl rfl rfl rfl
theorem en_m_draft (f : Nat → Int32) : ∀ j, j < 25 → va_up (en ad cI cZ cT cJ pi dr S M o) 20 (.inl (cI, 1000, .inl f)) j = en ad cI cZ cT cJ pi dr S (sr M 3 f) o j := all25 rfl rfl rfl rfl rfl rfl rfl rfl rfl rfl rfl rfl rfl rfl rfl rfl rfl rfl rfl rfl rfl rfl rfl rfl rfl
theorem en_m_pat (f : Nat → Int32) : ∀ j, j < 25 → va_up (en ad cI cZ cT cJ pi dr S M o) 21 (.inl (cI, 16, .inl f)) j = en ad cI cZ cT cJ pi dr S (sr M 4 f) o j := all25 rfl rfl rfl rfl rfl rfl rfl rfl rfl rfl rfl rfl rfl rfl rfl rfl rfl rfl rfl rfl rfl rfl rfl rfl rfl
theorem en_m_next (f : Nat → Int32) : ∀ j, j < 25 → va_up (en ad cI cZ cT cJ pi dr S M o) 22 (.inl (cI, 2048, .inl f)) j = en ad cI cZ cT cJ pi dr S (sr M 5 f) o j := all25 rfl rfl rfl rfl rfl rfl rfl rfl rfl rfl rfl rfl rfl rfl rfl rfl rfl rfl rfl rfl rfl rfl rfl rfl rfl
theorem en_m_acc (f : Nat → Int32) : ∀ j, j < 25 → va_up (en ad cI cZ cT cJ pi dr S M o) 23 (.inl (cZ, 8, .inl f)) j = en ad cI cZ cT cJ pi dr S (sr M 6 f) o j := all25 rfl rfl rfl rfl rfl rfl rfl rfl rfl rfl rfl rfl rfl rfl rfl rfl rfl rfl rfl rfl rfl rfl rfl rfl rfl
theorem en_o (f : Nat → Int64) : ∀ j, j < 25 → va_up (en ad cI cZ cT cJ pi dr S M o) 24 (.inl (cJ, 1, .inr (.inl f))) j = en ad cI cZ cT cJ pi dr S M f j := all25 rfl rfl rfl rfl rfl rfl rfl rfl rfl rfl rfl rfl rfl rfl rfl rfl rfl rfl rfl rfl rfl rfl rfl rfl rfl
end ENU
/-- the words on nest mates -/
def nws : List (String × Nat × MethodName) := [("PairedTexts", 15, yT_init), ("PairedTexts", 22, yQ_init), ("PairedTexts", 29, yA_init), ("PairedTexts$Pattern", 19, yP_byteOf)]
def strs : List (Nat × String) := [(123, "no such document"), (130, "a number is not one that this call takes"), (141, "the text would be too long"), (134, "a place is not in the text"), (147, "there is no pattern"), (128, "no such state")]
def xN (k : Nat) : String := ["java/lang/IllegalArgumentException", "java/lang/IndexOutOfBoundsException", "java/lang/UnsupportedOperationException", "java/lang/IllegalStateException"].getD k ""
def dcs : List String := ["java/lang/RuntimeException", "java/lang/Exception", "java/lang/Throwable"]
/-- where a static field lies: its class's cell of statics in the heap, out of A -/
def tx_L (C n d : String) (A : Nat → Prop) (U : State) : Prop := ∃ (c : ClassId) (k : Class) (i : Nat) (f : Field) (a : Nat) (cell : Cell), U.vm.findClass C = some c ∧ U.fieldFound? C n d = some (c, k, i, f) ∧ f.isStatic = true ∧ k.statics = some a ∧ U.heap[a]? = some cell ∧ cell.vm.isStatics = true ∧ cell.cls = c ∧ f.slot < cell.slots.size ∧ k.staticTypes[f.slot]? = some f.type ∧ ¬ A a
theorem tx_L.word {C n d : String} {A : Nat → Prop} {s : State} {args : Array Value} (h : tx_L C n d A s) : (Cond.laysStatic C n d).before args s = true := by
  obtain ⟨c, k, i, f, a, cell, h1, h2, h3, h4, h5, h6, h7, h8, h9, -⟩ := h
  show (Cond.laysStatic C n d).holds args s none s [] = true
  exact Cond.laysStatic_of h1 h2 h3 h4 h5 h6 h7 h8 h9
theorem tx_L.of {C n d : String} {A : Nat → Prop} {s : State} {args : Array Value} (hl : (Cond.laysStatic C n d).before args s = true) (hA : ∀ a : Nat, a < s.heap.size → ¬ A a) : tx_L C n d A s := by
  obtain ⟨c, k, i, f, a, cell, h1, h2, h3, h4, h5, h6, h7, h8, h9⟩ := Cond.laysStatic_spec hl
  exact ⟨c, k, i, f, a, cell, h1, h2, h3, h4, h5, h6, h7, h8, h9, hA a (Array.getElem?_eq_some_iff.mp h5).1⟩
theorem tx_L.moved {C n d : String} {A : Nat → Prop} {u U : State} (hvm : u.vm.Alike U.vm) (hh : ∀ a : Nat, a < u.heap.size → ¬ A a → U.heap[a]? = u.heap[a]?) (h : tx_L C n d A u) : tx_L C n d A U := by
  obtain ⟨c, k, i, f, a, cell, h1, h2, h3, h4, h5, h6, h7, h8, h9, h10⟩ := h
  obtain ⟨k', hi', he⟩ := State.fieldFound?_setVm hvm h2
  exact ⟨c, k', i, f, a, cell, by rw [hvm.findClass]; exact h1, hi', h3, by rw [he]; exact h4, by rw [hh a (Array.getElem?_eq_some_iff.mp h5).1 h10]; exact h5, h6, h7, h8, by rw [he]; exact h9, h10⟩
/-- what the tables and the statics say, for every method here: classes, arrays, nest mates, texts of exceptions, two statics of Throwable, which exceptions are not of which class -/
def tw (D : va_G) (cI cZ cT cJ : ClassId) (base : Nat) (U : State) : Prop :=
  va_K D cl [(cI, .int), (cZ, .boolean), (cT, .object "PairedTexts$Text"), (cJ, .long)] U ∧ (∀ q ∈ nws, va_Nw (.methodLinkNest q.1 q.2.1 q.2.2 "PairedTexts") U) ∧ (∀ q ∈ strs, ∃ a, vk_R "PairedTexts" q.1 q.2 a U) ∧
  (va_Zq "java/lang/Throwable" "UNASSIGNED_STACK" "[Ljava/lang/StackTraceElement;" (gA base) U U.heap ∧ tx_L "java/lang/Throwable" "UNASSIGNED_STACK" "[Ljava/lang/StackTraceElement;" (gA base) U) ∧
  (va_Zq "java/lang/Throwable" "SUPPRESSED_SENTINEL" "Ljava/util/List;" (gA base) U U.heap ∧ tx_L "java/lang/Throwable" "SUPPRESSED_SENTINEL" "Ljava/util/List;" (gA base) U) ∧ va_AO "PairedTexts$Text" U ∧
  (∀ X ∈ dcs, va_Nw (.declares ⟨X, "<init>", "(Ljava/lang/String;)V"⟩) U) ∧ (∀ i j, i < 4 → j < 4 → i ≠ j → ∃ ci cj, U.vm.findClass (xN i) = some ci ∧ U.vm.findClass (xN j) = some cj ∧ U.vm.assignable ci cj = false)
theorem tw.moved {D : va_G} {cI cZ cT cJ : ClassId} {base : Nat} {s U : State} (hW : s.WarmedH U.vm) (hh : ∀ a : Nat, a < s.heap.size → ¬ gA base a → U.heap[a]? = s.heap[a]?) (h : tw D cI cZ cT cJ base s) : tw D cI cZ cT cJ base U := by
  obtain ⟨h1, h2, h3, ⟨h4, h4'⟩, ⟨h5, h5'⟩, h6, h8, h7⟩ := h
  refine ⟨h1.moved hW.alike, fun q hq => (h2 q hq).warmM hW, fun q hq => ?_, ⟨(h4.moved hW.alike).kept hh, h4'.moved hW.alike hh⟩, ⟨(h5.moved hW.alike).kept hh, h5'.moved hW.alike hh⟩, h6.moved hW.alike, fun X hX => (h8 X hX).warmD hW, fun i j hi hj hij => ?_⟩
  · obtain ⟨a, ha⟩ := h3 q hq
    exact ⟨a, ha.warm hW⟩
  · obtain ⟨ci, cj, a1, a2, a3⟩ := h7 i j hi hj hij
    exact ⟨ci, cj, by rw [hW.alike.findClass]; exact a1, by rw [hW.alike.findClass]; exact a2, by rw [hW.alike.assignable]; exact a3⟩
theorem tw.calling {D : va_G} {cI cZ cT cJ : ClassId} {base : Nat} {U : State} {g : JFrame} {mk : MethodId} {a : Array Value} (h : tw D cI cZ cT cJ base U) : tw D cI cZ cT cJ base (U.calling g mk a) := by
  obtain ⟨h1, h2, h3, ⟨h4, h4'⟩, ⟨h5, h5'⟩, h6, h8, h7⟩ := h
  exact ⟨h1.moved (U := U.calling g mk a) (Vm.Alike.refl U.vm), fun q hq => (h2 q hq).same rfl rfl, fun q hq => (by obtain ⟨z, hz⟩ := h3 q hq; exact ⟨z, hz.same rfl⟩), ⟨h4.moved (U := U.calling g mk a) (Vm.Alike.refl U.vm), h4'.moved (U := U.calling g mk a) (Vm.Alike.refl U.vm) (fun _ _ _ => rfl)⟩, ⟨h5.moved (U := U.calling g mk a) (Vm.Alike.refl U.vm), h5'.moved (U := U.calling g mk a) (Vm.Alike.refl U.vm) (fun _ _ _ => rfl)⟩, h6.moved (U := U.calling g mk a) (Vm.Alike.refl U.vm), fun X hX => (h8 X hX).same rfl rfl, h7⟩

