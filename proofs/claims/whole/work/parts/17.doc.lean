/-! The calls of the document over numbers: which of them are refused (c_), what they answer (r_), what they leave (x_). -/
def ix (d : Int32) : Nat := d.toNatClampNeg
def dk (d : Int32) : Bool := decide (0 ≤ d.toInt ∧ d.toInt < 4)
def sk (d : Int32) : Bool := decide (0 ≤ d.toInt ∧ d.toInt < 8)
def nn (d : Int32) : Bool := decide (0 ≤ d.toInt)
def rg (f t : Int32) (n : Nat) : Bool := decide (0 ≤ f.toInt ∧ f.toInt ≤ t.toInt ∧ t.toInt ≤ (n : Int))
def inL (i : Int32) (n : Nat) : Bool := decide (0 ≤ i.toInt ∧ i.toInt < (n : Int))
def smL (i n : Int32) (k : Nat) : Bool := decide (0 ≤ i.toInt ∧ i.toInt + n.toInt ≤ (k : Int))
def btw (n : Int32) (a b : Int) : Bool := decide (a ≤ n.toInt ∧ n.toInt ≤ b)
theorem ix_toInt {d : Int32} (h : 0 ≤ d.toInt) : (ix d : Int) = d.toInt := by
  show ((d.toInt.toNat : Nat) : Int) = d.toInt
  omega
theorem ix_nI {k : Nat} (h : k < 2 ^ 31) : ix (nI k) = k := nI_clamp h
theorem nI_ix {d : Int32} (h : 0 ≤ d.toInt) : d = nI (ix d) := by
  obtain ⟨j, hj, rfl⟩ := nI_of (x := d) (by rw [Int32.lt_iff_toInt_lt]; have : (0 : Int32).toInt = 0 := rfl; omega)
  rw [ix_nI hj]
theorem dk_nI {k : Nat} (h : k < 4) : dk (nI k) = true := by
  have := nI_toInt (show k < 2 ^ 31 by omega)
  unfold dk; simp only [decide_eq_true_eq]; omega
theorem sk_nI {k : Nat} (h : k < 8) : sk (nI k) = true := by
  have := nI_toInt (show k < 2 ^ 31 by omega)
  unfold sk; simp only [decide_eq_true_eq]; omega
theorem nn_nI {k : Nat} (h : k < 2 ^ 31) : nn (nI k) = true := by
  have := nI_toInt h
  unfold nn; simp only [decide_eq_true_eq]; omega
theorem dk_or (d : Int32) : (dk d = false ∧ (d.toInt < 0 ∨ 4 ≤ d.toInt)) ∨ ∃ k, k < 4 ∧ d = nI k := by
  by_cases h : 0 ≤ d.toInt ∧ d.toInt < 4
  · exact Or.inr ⟨ix d, by have := ix_toInt h.1; omega, nI_ix h.1⟩
  · exact Or.inl ⟨by unfold dk; simp only [decide_eq_false_iff_not]; exact h, by omega⟩
theorem sk_or (d : Int32) : (sk d = false ∧ (d.toInt < 0 ∨ 8 ≤ d.toInt)) ∨ ∃ k, k < 8 ∧ d = nI k := by
  by_cases h : 0 ≤ d.toInt ∧ d.toInt < 8
  · exact Or.inr ⟨ix d, by have := ix_toInt h.1; omega, nI_ix h.1⟩
  · exact Or.inl ⟨by unfold sk; simp only [decide_eq_false_iff_not]; exact h, by omega⟩
theorem nn_or (d : Int32) : (nn d = false ∧ d.toInt < 0) ∨ ∃ k, k < 2 ^ 31 ∧ d = nI k := by
  by_cases h : 0 ≤ d.toInt
  · refine Or.inr ⟨ix d, ?_, nI_ix h⟩
    have := ix_toInt h
    have := Int32.toInt_lt d
    omega
  · exact Or.inl ⟨by unfold nn; simp only [decide_eq_false_iff_not]; exact h, by omega⟩
theorem rg_or (f t : Int32) {n : Nat} (hn : n ≤ 1000) : rg f t n = false ∨ ∃ f' t', f' ≤ t' ∧ t' ≤ n ∧ f = nI f' ∧ t = nI t' := by
  by_cases h : 0 ≤ f.toInt ∧ f.toInt ≤ t.toInt ∧ t.toInt ≤ (n : Int)
  · have h1 := ix_toInt h.1
    have h2 := ix_toInt (show 0 ≤ t.toInt by omega)
    exact Or.inr ⟨ix f, ix t, by omega, by omega, nI_ix h.1, nI_ix (by omega)⟩
  · exact Or.inl (by unfold rg; simp only [decide_eq_false_iff_not]; exact h)
theorem rg_nI {f t n : Nat} (h : f ≤ t) (h2 : t ≤ n) (hn : n ≤ 1000) : rg (nI f) (nI t) n = true := by
  have := nI_toInt (show f < 2 ^ 31 by omega)
  have := nI_toInt (show t < 2 ^ 31 by omega)
  unfold rg; simp only [decide_eq_true_eq]; omega
theorem rgL_rg (f t : Int32) (n : Nat) : rgL f t.toInt64 n = rg f t n := by
  unfold rgL rg
  rw [Int32.toInt_toInt64]
theorem pc_or (i : Int32) {n : Nat} (hn : n ≤ 1000) : pcL i n = false ∨ ∃ j, j ≤ n ∧ i = nI j := by
  by_cases h : 0 ≤ i.toInt ∧ i.toInt ≤ (n : Int)
  · have h1 := ix_toInt h.1
    exact Or.inr ⟨ix i, by omega, nI_ix h.1⟩
  · exact Or.inl (by unfold pcL; simp only [decide_eq_false_iff_not]; exact h)
theorem pc_nI {j n : Nat} (h : j ≤ n) (hn : n ≤ 1000) : pcL (nI j) n = true := by
  have := nI_toInt (show j < 2 ^ 31 by omega)
  unfold pcL; simp only [decide_eq_true_eq]; omega
theorem in_or (i : Int32) {n : Nat} (hn : n ≤ 1000) : (inL i n = false ∧ (i.toInt < 0 ∨ (n : Int) ≤ i.toInt)) ∨ ∃ j, j < n ∧ i = nI j := by
  by_cases h : 0 ≤ i.toInt ∧ i.toInt < (n : Int)
  · have h1 := ix_toInt h.1
    exact Or.inr ⟨ix i, by omega, nI_ix h.1⟩
  · exact Or.inl ⟨by unfold inL; simp only [decide_eq_false_iff_not]; exact h, by omega⟩
theorem in_nI {j n : Nat} (h : j < n) (hn : n ≤ 1000) : inL (nI j) n = true := by
  have := nI_toInt (show j < 2 ^ 31 by omega)
  unfold inL; simp only [decide_eq_true_eq]; omega
theorem bt_or (n : Int32) (b : Nat) : (btw n 1 b = false ∧ (n.toInt < 1 ∨ (b : Int) < n.toInt)) ∨ ∃ j, 1 ≤ j ∧ j ≤ b ∧ n = nI j := by
  by_cases h : 1 ≤ n.toInt ∧ n.toInt ≤ (b : Int)
  · have h1 := ix_toInt (show 0 ≤ n.toInt by omega)
    exact Or.inr ⟨ix n, by omega, by omega, nI_ix (by omega)⟩
  · exact Or.inl ⟨by unfold btw; simp only [decide_eq_false_iff_not]; exact h, by omega⟩
theorem bt_nI {j b : Nat} (h : 1 ≤ j) (h2 : j ≤ b) (hb : b < 2 ^ 31) : btw (nI j) 1 b = true := by
  have := nI_toInt (show j < 2 ^ 31 by omega)
  unfold btw; simp only [decide_eq_true_eq]; omega
/-- the calls -/
def c_write (a : Ab) (d n : Int32) : Nat := if dk d && btw n 1 8 then (if a_n a (ix d) + ix n ≤ 1000 then 0 else 2) else 1
def x_write (a : Ab) (d : Int32) (v : Int64) (n : Int32) : Ab := a_set a (ix d) (a_n a (ix d) + ix n) (cat (a_b a (ix d)) (a_n a (ix d)) (byt v))
def c_length (d : Int32) : Nat := if dk d then 0 else 1
def c_byteAt (a : Ab) (d i : Int32) : Nat := if dk d then (if inL i (a_n a (ix d)) then 0 else 2) else 1
def c_copy (a : Ab) (d f t e : Int32) : Nat := if dk d && dk e then (if rg f t (a_n a (ix d)) then 0 else 2) else 1
def x_copy (a : Ab) (d f t e : Int32) : Ab := a_set a (ix e) (ix t - ix f) (fun i => a_b a (ix d) (ix f + i))
def c_join (a : Ab) (d e g : Int32) : Nat := if dk d && dk e && dk g then (if a_n a (ix d) + a_n a (ix e) ≤ 1000 then 0 else 2) else 1
def x_join (a : Ab) (d e g : Int32) : Ab := a_set a (ix g) (a_n a (ix d) + a_n a (ix e)) (cat (a_b a (ix d)) (a_n a (ix d)) (a_b a (ix e)))
def c_insert (a : Ab) (d p e f t : Int32) : Nat := if dk d && dk e then (if rg f t (a_n a (ix e)) && pcL p (a_n a (ix d)) then (if a_n a (ix d) + (ix t - ix f) ≤ 1000 then 0 else 3) else 2) else 1
def x_insert (a : Ab) (d p e f t : Int32) : Ab := a_set a (ix d) (a_n a (ix d) + (ix t - ix f)) (cat (cat (a_b a (ix d)) (ix p) (fun i => a_b a (ix e) (ix f + i))) (ix p + (ix t - ix f)) (fun i => a_b a (ix d) (ix p + i)))
def c_delete (a : Ab) (d f t : Int32) : Nat := if dk d then (if rg f t (a_n a (ix d)) then 0 else 2) else 1
def x_delete (a : Ab) (d f t : Int32) : Ab := a_set a (ix d) (a_n a (ix d) - (ix t - ix f)) (cat (a_b a (ix d)) (ix f) (fun i => a_b a (ix d) (ix t + i)))
/-- the text without f .. t -/
def rst (b : Nat → Nat) (f w : Nat) : Nat → Nat := fun j => if j < f then b j else b (j + w)
def c_move (a : Ab) (d f t p : Int32) : Nat := if dk d then (if rg f t (a_n a (ix d)) && pcL p (a_n a (ix d) - (ix t - ix f)) then 0 else 2) else 1
def x_move (a : Ab) (d f t p : Int32) : Ab := a_set a (ix d) (a_n a (ix d)) (cat (cat (rst (a_b a (ix d)) (ix f) (ix t - ix f)) (ix p) (fun i => a_b a (ix d) (ix f + i))) (ix p + (ix t - ix f)) (fun i => rst (a_b a (ix d)) (ix f) (ix t - ix f) (ix p + i)))
/-- the w bytes from f on, m times, behind the first k of g -/
def rep (b : Nat → Nat) (f w : Nat) : Nat → (Nat → Nat)
  | 0 => b
  | m + 1 => cat (rep b f w m) (f + m * w) (fun i => b (f + i))
def c_repeat (a : Ab) (d f t m : Int32) : Nat := if dk d && nn m then (if rg f t (a_n a (ix d)) then (if a_n a (ix d) - (ix t - ix f) + ix m * (ix t - ix f) ≤ 1000 then 0 else 3) else 2) else 1
def x_repeat (a : Ab) (d f t m : Int32) : Ab := a_set a (ix d) (a_n a (ix d) - (ix t - ix f) + ix m * (ix t - ix f)) (cat (rep (a_b a (ix d)) (ix f) (ix t - ix f) (if f = t then 0 else ix m)) (ix f + ix m * (ix t - ix f)) (fun i => a_b a (ix d) (ix t + i)))
/-- how much of two pieces is the same -/
def cpr (a : Ab) (d i e j : Nat) : Nat := cpx (fun c => decide (a_b a d (i + c) = a_b a e (j + c))) (min (a_n a d - i) (a_n a e - j)) 0
def c_same (a : Ab) (d i e j n : Int32) : Nat := if dk d && dk e && nn n then (if smL i n (a_n a (ix d)) && smL j n (a_n a (ix e)) then 0 else 2) else 1
def c_prefix (a : Ab) (d i e j : Int32) : Nat := if dk d && dk e then (if pcL i (a_n a (ix d)) && pcL j (a_n a (ix e)) then 0 else 2) else 1
def r_order (a : Ab) (d i e j : Nat) : Int32 := if i + cpr a d i e j = a_n a d ∧ j + cpr a d i e j = a_n a e then 0 else if i + cpr a d i e j = a_n a d then -1 else if j + cpr a d i e j = a_n a e then 1 else if a_b a d (i + cpr a d i e j) < a_b a e (j + cpr a d i e j) then -1 else 1
def c_name (a : Ab) (d f t : Int32) : Nat := if dk d then (if rg f t (a_n a (ix d)) then 0 else 2) else 1
/-- the name of the k bytes from f on -/
def nms (b : Nat → Nat) (f : Nat) : Nat → Nat
  | 0 => 0
  | k + 1 => nm (nms b f k) (b (f + k))
theorem nms_lt (b : Nat → Nat) (f : Nat) : ∀ k, nms b f k < 2305843009213693951
  | 0 => by show (0 : Nat) < 2305843009213693951; decide
  | k + 1 => nm_lt _ _
def c_pattern (n : Int32) : Nat := if btw n 1 16 then 0 else 1
def x_pattern (a : Ab) (lo hi : Int64) (n : Int32) : Ab := (a_n a, a_b a, ix n, pbyt lo hi, a_x a, a_c a)
/-- does the pattern stand at i, and end by e -/
def stB (a : Ab) (d i e : Nat) : Bool := decide (a_p a ≤ e - i) && alb (fun k => decide (a_b a d (i + k) = a_q a k)) (a_p a) 0
def c_count (a : Ab) (d f t : Int32) : Nat := if dk d then (if rg f t (a_n a (ix d)) then (if a_p a = 0 then 3 else 0) else 2) else 1
/-- how often it stands at one of k places from f on, ending by e -/
def cnt (a : Ab) (d f e : Nat) : Nat → Nat
  | 0 => 0
  | k + 1 => cnt a d f e k + (if stB a d (f + k) e then 1 else 0)
def c_find (a : Ab) (d i k : Int32) : Nat := if dk d && nn k then (if pcL i (a_n a (ix d)) then (if a_p a = 0 then 3 else 0) else 2) else 1
/-- the first of u places from i on at which it stands, k of them passed over; -1 else -/
def fnd (a : Ab) (d e : Nat) : Nat → Nat → Nat → Int32
  | 0, _, _ => -1
  | u + 1, i, k => if stB a d i e then (if k = 0 then nI i else fnd a d e u (i + 1) (k - 1)) else fnd a d e u (i + 1) k
def c_lead (s lo hi t : Int32) : Nat := if sk s && sk t && decide (0 ≤ lo.toInt ∧ lo.toInt ≤ hi.toInt ∧ hi.toInt < 256) then 0 else 1
/-- k places from p on become v -/
def fill (g : Nat → Nat) (p v k : Nat) : Nat → Nat := fun q => if p ≤ q ∧ q < p + k then v else g q
def x_lead (a : Ab) (s lo hi t : Int32) : Ab := (a_n a, a_b a, a_p a, a_q a, fill (a_x a) (256 * ix s + ix lo) (ix t) (ix hi + 1 - ix lo), a_c a)
def c_accept (s : Int32) : Nat := if sk s then 0 else 1
def x_accept (a : Ab) (s : Int32) (v : Nat) : Ab := (a_n a, a_b a, a_p a, a_q a, a_x a, fill (a_c a) (ix s) v 1)
def c_run (a : Ab) (d f t s : Int32) : Nat := if dk d && sk s then (if rg f t (a_n a (ix d)) then 0 else 2) else 1
/-- the state behind k bytes from f on -/
def rns (a : Ab) (d f s : Nat) : Nat → Nat
  | 0 => s
  | k + 1 => a_x a (256 * rns a d f s k + a_b a d (f + k))
/-- how many of the beginnings, up to k bytes, are accepted -/
def acs (a : Ab) (d f s : Nat) : Nat → Nat
  | 0 => a_c a s
  | k + 1 => acs a d f s k + a_c a (rns a d f s (k + 1))
theorem rns_lt {a : Ab} (h : a_ok a) {d f s : Nat} (hd : d < 4) (hs : s < 8) : ∀ k, f + k ≤ a_n a d → rns a d f s k < 8
  | 0, _ => hs
  | k + 1, hk => by
    have h1 : rns a d f s k < 8 := rns_lt h hd hs k (by omega)
    have h2 := h.2.1 d (f + k) hd (by omega)
    exact h.2.2.2.2.1 _ (by omega)
