/-! The making and throwing of the four exceptions. -/
theorem tx_cast {X : String} {n : Nat} {args : Array Value} {s : State} (h : (Cond.instantiable X n).before args s = true) : (Cond.castable X X).before args s = true := by
  obtain ⟨c1, k1, hc, -⟩ := Cond.instantiable_spec (show (Cond.instantiable X n).holds args s none s [] = true from h)
  simp [Cond.before, Cond.holds, Cond.value, hc, va_asg]
section EXC
variable {args : Array Value} {s : State} {D : va_G} {cI cZ cT cJ : ClassId} {base : Nat}
set_option maxHeartbeats 4000000 in
theorem oa_IAE (hts : ∀ w ∈ tws, w.before args s = true) (htw : tw D cI cZ cT cJ base s) : ∀ a ∈ Bundle.ownAtoms "PairedTexts" 125 "java/lang/IllegalArgumentException" ["java/lang/RuntimeException", "java/lang/Exception"], a.before args s = true := by
  obtain ⟨-, -, -, ⟨h4, h4'⟩, ⟨h5, h5'⟩, -, h8, -⟩ := htw
  intro w hw
  simp only [Bundle.ownAtoms, Bundle.throwableAtoms, Bundle.throwableSAtoms, Bundle.chainSAtoms, Bundle.passSAtoms, List.cons_append, List.nil_append, List.append_assoc, List.mem_cons, List.not_mem_nil, or_false] at hw
  repeat' (rcases hw with hw | hw)
  all_goals (try subst hw)
  all_goals first
    | exact hts _ k1_9
    | exact hts _ k1_86
    | exact hts _ k1_99
    | exact hts _ k1_100
    | exact hts _ k1_108
    | exact hts _ k1_109
    | exact hts _ k1_110
    | exact hts _ k1_112
    | exact hts _ k1_114
    | exact hts _ k1_116
    | exact hts _ k1_118
    | exact hts _ k1_142
    | exact hts _ k1_143
    | exact hts _ k1_144
    | exact hts _ k1_145
    | exact hts _ k1_163
    | exact hts _ k1_166
    | exact hts _ k1_6
    | exact hts _ k1_7
    | exact hts _ k1_8
    | exact hts _ k1_111
    | exact hts _ k1_113
    | exact hts _ k1_115
    | exact hts _ k1_117
    | exact hts _ k1_119
    | exact hts _ k1_120
    | exact hts _ k1_121
    | exact hts _ k1_122
    | exact hts _ k1_123
    | exact hts _ k1_124
    | exact hts _ k1_125
    | exact hts _ k1_127
    | exact hts _ k1_129
    | exact hts _ k1_130
    | exact hts _ k1_131
    | exact hts _ k1_135
    | exact hts _ k1_136
    | exact hts _ k1_138
    | exact hts _ k1_139
    | exact hts _ k1_140
    | exact hts _ k1_146
    | exact hts _ k1_147
    | exact hts _ k1_148
    | exact hts _ k1_149
    | exact hts _ k1_150
    | exact hts _ k1_151
    | exact hts _ k1_152
    | exact hts _ k1_153
    | exact hts _ k1_155
    | exact hts _ k1_156
    | exact hts _ k1_157
    | exact hts _ k1_158
    | exact hts _ k1_159
    | exact hts _ k1_160
    | exact hts _ k1_161
    | exact hts _ k1_162
    | exact hts _ k1_164
    | exact hts _ k1_165
    | exact hts _ k3_122
    | exact hts _ k1_21
    | exact hts _ k1_22
    | exact tx_cast (hts _ k1_100)
    | exact tx_isRef h4
    | exact tx_isRef h5
    | exact h4'.word
    | exact h5'.word
    | exact va_Nw.use rfl (h8 _ (List.mem_of_getElem? (i := 0) rfl))
    | exact va_Nw.use rfl (h8 _ (List.mem_of_getElem? (i := 1) rfl))
    | exact va_Nw.use rfl (h8 _ (List.mem_of_getElem? (i := 2) rfl))
set_option maxHeartbeats 4000000 in
theorem oa_IOO (hts : ∀ w ∈ tws, w.before args s = true) (htw : tw D cI cZ cT cJ base s) : ∀ a ∈ Bundle.ownAtoms "PairedTexts" 136 "java/lang/IndexOutOfBoundsException" ["java/lang/RuntimeException", "java/lang/Exception"], a.before args s = true := by
  obtain ⟨-, -, -, ⟨h4, h4'⟩, ⟨h5, h5'⟩, -, h8, -⟩ := htw
  intro w hw
  simp only [Bundle.ownAtoms, Bundle.throwableAtoms, Bundle.throwableSAtoms, Bundle.chainSAtoms, Bundle.passSAtoms, List.cons_append, List.nil_append, List.append_assoc, List.mem_cons, List.not_mem_nil, or_false] at hw
  repeat' (rcases hw with hw | hw)
  all_goals (try subst hw)
  all_goals first
    | exact hts _ k1_11
    | exact hts _ k1_133
    | exact hts _ k1_209
    | exact hts _ k1_217
    | exact hts _ k1_218
    | exact hts _ k1_220
    | exact hts _ k1_221
    | exact hts _ k1_222
    | exact hts _ k1_223
    | exact hts _ k1_224
    | exact hts _ k1_225
    | exact hts _ k1_227
    | exact hts _ k1_228
    | exact hts _ k1_229
    | exact hts _ k1_230
    | exact hts _ k1_231
    | exact hts _ k1_232
    | exact hts _ k1_6
    | exact hts _ k1_7
    | exact hts _ k1_8
    | exact hts _ k1_111
    | exact hts _ k1_113
    | exact hts _ k1_115
    | exact hts _ k1_117
    | exact hts _ k1_119
    | exact hts _ k1_120
    | exact hts _ k1_121
    | exact hts _ k1_122
    | exact hts _ k1_123
    | exact hts _ k1_124
    | exact hts _ k1_125
    | exact hts _ k1_127
    | exact hts _ k1_129
    | exact hts _ k1_130
    | exact hts _ k1_131
    | exact hts _ k1_135
    | exact hts _ k1_136
    | exact hts _ k1_138
    | exact hts _ k1_139
    | exact hts _ k1_140
    | exact hts _ k1_146
    | exact hts _ k1_147
    | exact hts _ k1_148
    | exact hts _ k1_149
    | exact hts _ k1_150
    | exact hts _ k1_151
    | exact hts _ k1_152
    | exact hts _ k1_153
    | exact hts _ k1_155
    | exact hts _ k1_156
    | exact hts _ k1_157
    | exact hts _ k1_158
    | exact hts _ k1_159
    | exact hts _ k1_160
    | exact hts _ k1_161
    | exact hts _ k1_162
    | exact hts _ k1_164
    | exact hts _ k1_165
    | exact hts _ k3_122
    | exact hts _ k1_21
    | exact hts _ k1_22
    | exact tx_cast (hts _ k1_218)
    | exact tx_isRef h4
    | exact tx_isRef h5
    | exact h4'.word
    | exact h5'.word
    | exact va_Nw.use rfl (h8 _ (List.mem_of_getElem? (i := 0) rfl))
    | exact va_Nw.use rfl (h8 _ (List.mem_of_getElem? (i := 1) rfl))
    | exact va_Nw.use rfl (h8 _ (List.mem_of_getElem? (i := 2) rfl))
set_option maxHeartbeats 4000000 in
theorem oa_UOE (hts : ∀ w ∈ tws, w.before args s = true) (htw : tw D cI cZ cT cJ base s) : ∀ a ∈ Bundle.ownAtoms "PairedTexts" 143 "java/lang/UnsupportedOperationException" ["java/lang/RuntimeException", "java/lang/Exception"], a.before args s = true := by
  obtain ⟨-, -, -, ⟨h4, h4'⟩, ⟨h5, h5'⟩, -, h8, -⟩ := htw
  intro w hw
  simp only [Bundle.ownAtoms, Bundle.throwableAtoms, Bundle.throwableSAtoms, Bundle.chainSAtoms, Bundle.passSAtoms, List.cons_append, List.nil_append, List.append_assoc, List.mem_cons, List.not_mem_nil, or_false] at hw
  repeat' (rcases hw with hw | hw)
  all_goals (try subst hw)
  all_goals first
    | exact hts _ k1_10
    | exact hts _ k1_87
    | exact hts _ k1_134
    | exact hts _ k1_176
    | exact hts _ k1_177
    | exact hts _ k1_179
    | exact hts _ k1_180
    | exact hts _ k1_181
    | exact hts _ k1_182
    | exact hts _ k1_183
    | exact hts _ k1_184
    | exact hts _ k1_186
    | exact hts _ k1_187
    | exact hts _ k1_188
    | exact hts _ k1_189
    | exact hts _ k1_190
    | exact hts _ k1_191
    | exact hts _ k1_6
    | exact hts _ k1_7
    | exact hts _ k1_8
    | exact hts _ k1_111
    | exact hts _ k1_113
    | exact hts _ k1_115
    | exact hts _ k1_117
    | exact hts _ k1_119
    | exact hts _ k1_120
    | exact hts _ k1_121
    | exact hts _ k1_122
    | exact hts _ k1_123
    | exact hts _ k1_124
    | exact hts _ k1_125
    | exact hts _ k1_127
    | exact hts _ k1_129
    | exact hts _ k1_130
    | exact hts _ k1_131
    | exact hts _ k1_135
    | exact hts _ k1_136
    | exact hts _ k1_138
    | exact hts _ k1_139
    | exact hts _ k1_140
    | exact hts _ k1_146
    | exact hts _ k1_147
    | exact hts _ k1_148
    | exact hts _ k1_149
    | exact hts _ k1_150
    | exact hts _ k1_151
    | exact hts _ k1_152
    | exact hts _ k1_153
    | exact hts _ k1_155
    | exact hts _ k1_156
    | exact hts _ k1_157
    | exact hts _ k1_158
    | exact hts _ k1_159
    | exact hts _ k1_160
    | exact hts _ k1_161
    | exact hts _ k1_162
    | exact hts _ k1_164
    | exact hts _ k1_165
    | exact hts _ k3_122
    | exact hts _ k1_21
    | exact hts _ k1_22
    | exact tx_cast (hts _ k1_177)
    | exact tx_isRef h4
    | exact tx_isRef h5
    | exact h4'.word
    | exact h5'.word
    | exact va_Nw.use rfl (h8 _ (List.mem_of_getElem? (i := 0) rfl))
    | exact va_Nw.use rfl (h8 _ (List.mem_of_getElem? (i := 1) rfl))
    | exact va_Nw.use rfl (h8 _ (List.mem_of_getElem? (i := 2) rfl))
set_option maxHeartbeats 4000000 in
theorem oa_ISE (hts : ∀ w ∈ tws, w.before args s = true) (htw : tw D cI cZ cT cJ base s) : ∀ a ∈ Bundle.ownAtoms "PairedTexts" 149 "java/lang/IllegalStateException" ["java/lang/RuntimeException", "java/lang/Exception"], a.before args s = true := by
  obtain ⟨-, -, -, ⟨h4, h4'⟩, ⟨h5, h5'⟩, -, h8, -⟩ := htw
  intro w hw
  simp only [Bundle.ownAtoms, Bundle.throwableAtoms, Bundle.throwableSAtoms, Bundle.chainSAtoms, Bundle.passSAtoms, List.cons_append, List.nil_append, List.append_assoc, List.mem_cons, List.not_mem_nil, or_false] at hw
  repeat' (rcases hw with hw | hw)
  all_goals (try subst hw)
  all_goals first
    | exact hts _ k1_14
    | exact hts _ k1_132
    | exact hts _ k2_114
    | exact hts _ k2_123
    | exact hts _ k2_124
    | exact hts _ k2_126
    | exact hts _ k2_127
    | exact hts _ k2_128
    | exact hts _ k2_129
    | exact hts _ k2_130
    | exact hts _ k2_131
    | exact hts _ k2_133
    | exact hts _ k2_134
    | exact hts _ k2_135
    | exact hts _ k2_136
    | exact hts _ k2_137
    | exact hts _ k2_138
    | exact hts _ k1_6
    | exact hts _ k1_7
    | exact hts _ k1_8
    | exact hts _ k1_111
    | exact hts _ k1_113
    | exact hts _ k1_115
    | exact hts _ k1_117
    | exact hts _ k1_119
    | exact hts _ k1_120
    | exact hts _ k1_121
    | exact hts _ k1_122
    | exact hts _ k1_123
    | exact hts _ k1_124
    | exact hts _ k1_125
    | exact hts _ k1_127
    | exact hts _ k1_129
    | exact hts _ k1_130
    | exact hts _ k1_131
    | exact hts _ k1_135
    | exact hts _ k1_136
    | exact hts _ k1_138
    | exact hts _ k1_139
    | exact hts _ k1_140
    | exact hts _ k1_146
    | exact hts _ k1_147
    | exact hts _ k1_148
    | exact hts _ k1_149
    | exact hts _ k1_150
    | exact hts _ k1_151
    | exact hts _ k1_152
    | exact hts _ k1_153
    | exact hts _ k1_155
    | exact hts _ k1_156
    | exact hts _ k1_157
    | exact hts _ k1_158
    | exact hts _ k1_159
    | exact hts _ k1_160
    | exact hts _ k1_161
    | exact hts _ k1_162
    | exact hts _ k1_164
    | exact hts _ k1_165
    | exact hts _ k3_122
    | exact hts _ k1_21
    | exact hts _ k1_22
    | exact tx_cast (hts _ k2_124)
    | exact tx_isRef h4
    | exact tx_isRef h5
    | exact h4'.word
    | exact h5'.word
    | exact va_Nw.use rfl (h8 _ (List.mem_of_getElem? (i := 0) rfl))
    | exact va_Nw.use rfl (h8 _ (List.mem_of_getElem? (i := 1) rfl))
    | exact va_Nw.use rfl (h8 _ (List.mem_of_getElem? (i := 2) rfl))
end EXC
section EXT
variable {p : Program} {l : Launch} {e : Env} {R : Room} {s : State} {m : MethodId} {args : Array Value} {below : List Frame} {meth : Method} {c : Code} {H : Heap} {cells slots : Nat} {cc : ByteArray} {pc nL : Nat} {ls : Array Slot} {D : va_G} {cI cZ cT cJ : ClassId} {base : Nat}
/-- 'throw new X("..")', from its first instruction to the end -/
theorem g_throw (F : CallFix p m c cc nL s args tws "PairedTexts") (hl : l.stackTraces = false) (hlocks : meth.locks = false) (hno : c.exceptionTable.isEmpty = true) (htw : tw D cI cZ cT cJ base s) {X : String} {ik ic is : Nat} {tx : String} (hX : Bundle.fit X = true)
    (w1 : Cond.classLink "PairedTexts" ik X ∈ tws) (w2 : Cond.instantiable X 6 ∈ tws) (w3 : Cond.initialized X ∈ tws) (hoa : ∀ a ∈ Bundle.ownAtoms "PairedTexts" ic X ["java/lang/RuntimeException", "java/lang/Exception"], a.before args s = true) (hst : (is, tx) ∈ strs)
    (hsz : ls.size = nL) (hf : 6 ≤ R.frames) (hlo : 82 ≤ R.locals) (hc : 1 ≤ R.cells) (hs : 6 ≤ R.slots)
    (d0 : decode cc pc = .ok (.new ik, 3)) (d1 : decode cc (pc + 3) = .ok (.dup, 1)) (d2 : decode cc (pc + 3 + 1) = .ok (.ldc is, 2)) (d3 : decode cc (pc + 3 + 1 + 2) = .ok (.invokespecial ic, 3)) (d4 : decode cc (pc + 3 + 1 + 2 + 3) = .ok (.athrow, 1)) :
    W p l e R s m args below meth c s.heap [] 0 0 (TQ below X s 1 6) (F0 m pc ls []) := by
  obtain ⟨hx, hb, hml, hown, hts⟩ := F
  obtain ⟨cX, kX0, hfX, -⟩ := Cond.instantiable_spec (show (Cond.instantiable X 6).holds args s none s [] = true from hts _ w2)
  obtain ⟨q, hq⟩ := htw.2.2.1 _ hst
  refine W.newcK hx hb hown (hts _ w1) (hts _ w2) (hts _ w3) rfl d0 (by omega) (by omega) hfX rfl fun H' kC hkC e1 z1 o1 => ?_
  refine lv_dup hx hb d1 rfl ?_
  refine va_ldcS hx hb hown hq d2 ?_
  exact W.throwS hx hl hb hlocks hno hown hX (by decide +kernel) hoa hfX hkC e1 (Nat.le_refl _) (by rw [hml, hsz]) d3 d4 (by show 2 + 3 < _; omega) (by show 1 + (13 * (2 + 1) + 42) ≤ _; omega) (by omega) (by omega)
end EXT
