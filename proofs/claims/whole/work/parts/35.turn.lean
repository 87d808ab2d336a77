/-! The law's turns, one for each call. -/
section S2
variable {p : Program} {l : Launch} {e : Env} {s : State} {m : MethodId} {below : List Frame} {meth : Method} {c : Code} {Q : State → Prop} {D : va_G} {cI cZ cT cJ : ClassId} {base b L u cells slots : Nat} {xs : Nat → Int32} {ad pi : Nat → Nat} {dr : Nat} {S M : Nat → Nat → Int32} {o : Nat → Int64} {a : Ab} {ls : Array Slot} {H : Heap} {locs : List Loc}
set_option maxHeartbeats 4000000 in
set_option maxRecDepth 100000 in
theorem law_write (hst : l.stackTraces = false) (F : CallFix p m c code 8 s #[Value.ref b] tws "PairedTextsLaw") (htw : tw D cI cZ cT cJ base s) (hB : base ≤ s.heap.size) (G : gGeo ad 25 base) (hX : va_X b L xs s s.heap) (hbl : b < s.heap.size) (hbA : ¬ gA base b) (hL : L ≤ 3072) (hu : 6 * u + 6 ≤ L) (hA : aok a) (hC : RepC pi dr S a) (hR : RepM M a) (hl : lv_has ls 8 [(4, .int (nI (6 * u))), (3, .ref (ad 24)), (2, .ref (ad 17)), (1, .ref (ad 0)), (0, .ref b)]) (hP : va_P D cl (gw ad (en ad cI cZ cT cJ pi dr S M o) 25) H) (hS : va_S (gA base) s.heap H locs) (hc : cells + 1 ≤ 601024) (hs : slots + 6 ≤ 7293034)
    (kk : ∀ (pi : Nat → Nat) (dr : Nat) (S M : Nat → Nat → Int32) (o : Nat → Int64) (a : Ab) (ls : Array Slot) (H : Heap) (locs : List Loc), aok a → RepC pi dr S a → RepM M a → lv_has ls 8 [(4, .int (nI (6 * u))), (3, .ref (ad 24)), (2, .ref (ad 17)), (1, .ref (ad 0)), (0, .ref b)] → va_P D cl (gw ad (en ad cI cZ cT cJ pi dr S M o) 25) H → va_S (gA base) s.heap H locs → W p l e room_1 s m #[Value.ref b] below meth c H locs (cells + 1) (slots + 6) Q (F0 m 1890 ls [])) : W p l e room_1 s m #[Value.ref b] below meth c H locs cells slots Q (F0 m 136 ls []) := by
  have hx := F.1
  have hb := F.2.1
  have hown := F.2.2.2.1
  have hts := F.2.2.2.2
  have hK := htw.1
  have ha := hA.ok
  have hK3 : c_write a (xs (6 * u + 1)) (xs (6 * u + 4)) ≤ 3 := by unfold c_write; (repeat' split) <;> decide
  refine lv_aload_n hx hb dL_law_136 rfl (lv_at hl 3 rfl) ?_
  refine lv_aload_n hx hb dL_law_137 rfl (lv_at hl 4 rfl) ?_
  refine lv_iload hx hb dL_law_138 (lv_at hl 0 rfl) ?_
  refine lv_iconst (v := 1) hx hb dL_law_140 (by decide) ?_
  refine lv_iadd hx hb dL_law_141 ?_
  rw [show nI (6 * u) + 1 = nI (6 * u + 1) from nI_add ..]
  refine va_sld hx hb hX hbl hbA hS (vp_in_nI (show 6 * u + 1 < L by omega) (by omega)) dL_law_142 ?_
  rw [nI_clamp (show 6 * u + 1 < 2 ^ 31 by omega)]
  refine lv_aload_n hx hb dL_law_143 rfl (lv_at hl 4 rfl) ?_
  refine lv_iload hx hb dL_law_144 (lv_at hl 0 rfl) ?_
  refine lv_iconst (v := 2) hx hb dL_law_146 (by decide) ?_
  refine lv_iadd hx hb dL_law_147 ?_
  rw [show nI (6 * u) + 2 = nI (6 * u + 2) from nI_add ..]
  refine va_sld hx hb hX hbl hbA hS (vp_in_nI (show 6 * u + 2 < L by omega) (by omega)) dL_law_148 ?_
  rw [nI_clamp (show 6 * u + 2 < 2 ^ 31 by omega)]
  refine lv_i2l hx hb dL_law_149 rfl ?_
  refine lv_bipush (v := 32) hx hb dL_law_150 (by decide) ?_
  refine lv_lshl hx hb dL_law_152 rfl ?_
  refine lv_aload_n hx hb dL_law_153 rfl (lv_at hl 4 rfl) ?_
  refine lv_iload hx hb dL_law_154 (lv_at hl 0 rfl) ?_
  refine lv_iconst (v := 3) hx hb dL_law_156 (by decide) ?_
  refine lv_iadd hx hb dL_law_157 ?_
  rw [show nI (6 * u) + 3 = nI (6 * u + 3) from nI_add ..]
  refine va_sld hx hb hX hbl hbA hS (vp_in_nI (show 6 * u + 3 < L by omega) (by omega)) dL_law_158 ?_
  rw [nI_clamp (show 6 * u + 3 < 2 ^ 31 by omega)]
  refine lv_i2l hx hb dL_law_159 rfl ?_
  refine lv_ldc2 (v := 4294967295) hx hb hown (hts _ k3_120) dL_law_160 ?_
  refine lv_land hx hb dL_law_163 ?_
  refine lv_lor hx hb dL_law_164 ?_
  refine lv_aload_n hx hb dL_law_165 rfl (lv_at hl 4 rfl) ?_
  refine lv_iload hx hb dL_law_166 (lv_at hl 0 rfl) ?_
  refine lv_iconst (v := 4) hx hb dL_law_168 (by decide) ?_
  refine lv_iadd hx hb dL_law_169 ?_
  rw [show nI (6 * u) + 4 = nI (6 * u + 4) from nI_add ..]
  refine va_sld hx hb hX hbl hbA hS (vp_in_nI (show 6 * u + 4 < L by omega) (by omega)) dL_law_170 ?_
  rw [nI_clamp (show 6 * u + 4 < 2 ^ 31 by omega)]
  refine lv_aload_n hx hb dL_law_171 rfl (lv_at hl 1 rfl) ?_
  refine g_SH (k := 5) F htw hB hS hP (c_L_write hst G ha hC (xs (6 * u + 1)) ((xs (6 * u + 2)).toInt64 <<< ((32 : Int32).toInt64 &&& 63) ||| (xs (6 * u + 3)).toInt64 &&& 4294967295) (xs (6 * u + 4))) k1_83 k1_84 k1_0 k1_85 (by decide +kernel) rfl rfl ⟨Nat.le_of_ble_eq_true rfl, Nat.le_of_ble_eq_true rfl⟩ rfl hl.1 rfl (Nat.le_of_ble_eq_true rfl) dL_law_172 ⟨hc, hs⟩ (fun en1 H locs he hP hS => ?_)
  obtain ⟨pi, dr, S, o, rfl, hC, hO⟩ := he
  refine lv_istore hx hb dL_law_175 hl (by decide) rfl (fun ls hl => ?_)
  have hl : lv_has ls 8 [(5, .int _), (4, .int _), (3, .ref _), (2, .ref _), (1, .ref _), (0, .ref _)] := hl
  refine lv_aload_n hx hb dL_law_177 rfl (lv_at hl 3 rfl) ?_
  refine lv_aload_n hx hb dL_law_178 rfl (lv_at hl 5 rfl) ?_
  refine lv_iload hx hb dL_law_179 (lv_at hl 1 rfl) ?_
  refine lv_iconst (v := 1) hx hb dL_law_181 (by decide) ?_
  refine lv_iadd hx hb dL_law_182 ?_
  rw [show nI (6 * u) + 1 = nI (6 * u + 1) from nI_add ..]
  refine va_sld hx hb hX hbl hbA hS (vp_in_nI (show 6 * u + 1 < L by omega) (by omega)) dL_law_183 ?_
  rw [nI_clamp (show 6 * u + 1 < 2 ^ 31 by omega)]
  refine lv_aload_n hx hb dL_law_184 rfl (lv_at hl 5 rfl) ?_
  refine lv_iload hx hb dL_law_185 (lv_at hl 1 rfl) ?_
  refine lv_iconst (v := 2) hx hb dL_law_187 (by decide) ?_
  refine lv_iadd hx hb dL_law_188 ?_
  rw [show nI (6 * u) + 2 = nI (6 * u + 2) from nI_add ..]
  refine va_sld hx hb hX hbl hbA hS (vp_in_nI (show 6 * u + 2 < L by omega) (by omega)) dL_law_189 ?_
  rw [nI_clamp (show 6 * u + 2 < 2 ^ 31 by omega)]
  refine lv_i2l hx hb dL_law_190 rfl ?_
  refine lv_bipush (v := 32) hx hb dL_law_191 (by decide) ?_
  refine lv_lshl hx hb dL_law_193 rfl ?_
  refine lv_aload_n hx hb dL_law_194 rfl (lv_at hl 5 rfl) ?_
  refine lv_iload hx hb dL_law_195 (lv_at hl 1 rfl) ?_
  refine lv_iconst (v := 3) hx hb dL_law_197 (by decide) ?_
  refine lv_iadd hx hb dL_law_198 ?_
  rw [show nI (6 * u) + 3 = nI (6 * u + 3) from nI_add ..]
  refine va_sld hx hb hX hbl hbA hS (vp_in_nI (show 6 * u + 3 < L by omega) (by omega)) dL_law_199 ?_
  rw [nI_clamp (show 6 * u + 3 < 2 ^ 31 by omega)]
  refine lv_i2l hx hb dL_law_200 rfl ?_
  refine lv_ldc2 (v := 4294967295) hx hb hown (hts _ k3_120) dL_law_201 ?_
  refine lv_land hx hb dL_law_204 ?_
  refine lv_lor hx hb dL_law_205 ?_
  refine lv_aload_n hx hb dL_law_206 rfl (lv_at hl 5 rfl) ?_
  refine lv_iload hx hb dL_law_207 (lv_at hl 1 rfl) ?_
  refine lv_iconst (v := 4) hx hb dL_law_209 (by decide) ?_
  refine lv_iadd hx hb dL_law_210 ?_
  rw [show nI (6 * u) + 4 = nI (6 * u + 4) from nI_add ..]
  refine va_sld hx hb hX hbl hbA hS (vp_in_nI (show 6 * u + 4 < L by omega) (by omega)) dL_law_211 ?_
  rw [nI_clamp (show 6 * u + 4 < 2 ^ 31 by omega)]
  refine g_V (k := 3) F htw hB hS hP (17) (by decide) rfl rfl (c_M_write G ha hR (xs (6 * u + 1)) ((xs (6 * u + 2)).toInt64 <<< ((32 : Int32).toInt64 &&& 63) ||| (xs (6 * u + 3)).toInt64 &&& 4294967295) (xs (6 * u + 4))) k2_234 k2_235 k2_236 k1_5 k2_237 (by decide +kernel) rfl rfl ⟨Nat.le_of_ble_eq_true rfl, Nat.le_of_ble_eq_true rfl⟩ rfl hl.1 rfl (Nat.le_of_ble_eq_true rfl) dL_law_212 ⟨hc, hs⟩ (fun en1 H locs he hP hS => ?_)
  obtain ⟨M, rfl, h00, hR⟩ := he
  refine lv_istore hx hb dL_law_215 hl (by decide) rfl (fun ls hl => ?_)
  have hl : lv_has ls 8 [(6, .int _), (5, .int _), (4, .int _), (3, .ref _), (2, .ref _), (1, .ref _), (0, .ref _)] := hl
  refine lv_aload_n hx hb dL_law_217 rfl (lv_at hl 4 rfl) ?_
  refine g_V (k := 0) F htw hB hS hP (17) (by decide) rfl rfl (c_M_thrown) k2_230 k2_231 k2_232 k1_5 k2_233 (by decide +kernel) rfl rfl ⟨Nat.le_of_ble_eq_true rfl, Nat.le_of_ble_eq_true rfl⟩ rfl hl.1 rfl (Nat.le_of_ble_eq_true rfl) dL_law_218 ⟨hc, hs⟩ (fun en1 H locs he hP hS => ?_)
  obtain rfl := he
  rw [h00]
  refine lv_iload hx hb dL_law_221 (lv_at hl 1 rfl) ?_
  refine lv_icmp_eq (tgt := 228) hx hb dL_law_223 (by decide) (fun _ => ?_) (fun hc => absurd rfl hc)
  refine lv_iload hx hb dL_law_228 (lv_at hl 1 rfl) ?_
  refine lv_if_ne (tgt := 245) hx hb dL_law_230 (by decide) (fun hz0 => ?_) (fun hz0 => ?_)
  · refine lv_goto (tgt := 1890) hx hb dL_law_245 (by decide) ?_
    have hl : lv_has ls 8 [(4, .int (nI (6 * u))), (3, .ref (ad 24)), (2, .ref (ad 17)), (1, .ref (ad 0)), (0, .ref b)] := lv_sub hl [2, 3, 4, 5, 6] rfl
    exact kk _ _ _ _ _ _ _ _ _ (k_write hA (xs (6 * u + 1)) ((xs (6 * u + 2)).toInt64 <<< ((32 : Int32).toInt64 &&& 63) ||| (xs (6 * u + 3)).toInt64 &&& 4294967295) (xs (6 * u + 4))) hC hR hl hP hS
  · rw [show (0 : Int32) = nI 0 from rfl, nI_eq (show c_write a (xs (6 * u + 1)) (xs (6 * u + 4)) < 2 ^ 31 by omega) (by decide)] at hz0
    have hO := hO hz0
    refine lv_aload_n hx hb dL_law_233 rfl (lv_at hl 3 rfl) ?_
    refine lv_iconst (v := 0) hx hb dL_law_234 (by decide) ?_
    refine g_lald F hK hP (24) (by decide) 3 rfl rfl (vp_in_nI (n := 0) (N := 1) (by decide) (by decide)) dL_law_235 ?_
    rw [show o (Int32.toNatClampNeg 0) = _ from hO]
    refine lv_iload hx hb dL_law_236 (lv_at hl 0 rfl) ?_
    refine lv_i2l hx hb dL_law_238 rfl ?_
    refine W.lcmp hx hb dL_law_239 ?_
    refine lv_if_eq (tgt := 245) hx hb dL_law_240 (by decide) (fun _ => ?_) (fun hc => absurd (by rw [lg_cmp_eq, if_pos hz0]) hc)
    refine lv_goto (tgt := 1890) hx hb dL_law_245 (by decide) ?_
    have hl : lv_has ls 8 [(4, .int (nI (6 * u))), (3, .ref (ad 24)), (2, .ref (ad 17)), (1, .ref (ad 0)), (0, .ref b)] := lv_sub hl [2, 3, 4, 5, 6] rfl
    exact kk _ _ _ _ _ _ _ _ _ (k_write hA (xs (6 * u + 1)) ((xs (6 * u + 2)).toInt64 <<< ((32 : Int32).toInt64 &&& 63) ||| (xs (6 * u + 3)).toInt64 &&& 4294967295) (xs (6 * u + 4))) hC hR hl hP hS
set_option maxHeartbeats 4000000 in
set_option maxRecDepth 100000 in
theorem law_length (hst : l.stackTraces = false) (F : CallFix p m c code 8 s #[Value.ref b] tws "PairedTextsLaw") (htw : tw D cI cZ cT cJ base s) (hB : base ≤ s.heap.size) (G : gGeo ad 25 base) (hX : va_X b L xs s s.heap) (hbl : b < s.heap.size) (hbA : ¬ gA base b) (hL : L ≤ 3072) (hu : 6 * u + 6 ≤ L) (hA : aok a) (hC : RepC pi dr S a) (hR : RepM M a) (hl : lv_has ls 8 [(4, .int (nI (6 * u))), (3, .ref (ad 24)), (2, .ref (ad 17)), (1, .ref (ad 0)), (0, .ref b)]) (hP : va_P D cl (gw ad (en ad cI cZ cT cJ pi dr S M o) 25) H) (hS : va_S (gA base) s.heap H locs) (hc : cells + 1 ≤ 601024) (hs : slots + 6 ≤ 7293034)
    (kk : ∀ (pi : Nat → Nat) (dr : Nat) (S M : Nat → Nat → Int32) (o : Nat → Int64) (a : Ab) (ls : Array Slot) (H : Heap) (locs : List Loc), aok a → RepC pi dr S a → RepM M a → lv_has ls 8 [(4, .int (nI (6 * u))), (3, .ref (ad 24)), (2, .ref (ad 17)), (1, .ref (ad 0)), (0, .ref b)] → va_P D cl (gw ad (en ad cI cZ cT cJ pi dr S M o) 25) H → va_S (gA base) s.heap H locs → W p l e room_1 s m #[Value.ref b] below meth c H locs (cells + 1) (slots + 6) Q (F0 m 1890 ls [])) : W p l e room_1 s m #[Value.ref b] below meth c H locs cells slots Q (F0 m 248 ls []) := by
  have hx := F.1
  have hb := F.2.1
  have hown := F.2.2.2.1
  have hts := F.2.2.2.2
  have hK := htw.1
  have ha := hA.ok
  have hK3 : c_length (xs (6 * u + 1)) ≤ 3 := by unfold c_length; (repeat' split) <;> decide
  refine lv_aload_n hx hb dL_law_248 rfl (lv_at hl 3 rfl) ?_
  refine lv_aload_n hx hb dL_law_249 rfl (lv_at hl 4 rfl) ?_
  refine lv_iload hx hb dL_law_250 (lv_at hl 0 rfl) ?_
  refine lv_iconst (v := 1) hx hb dL_law_252 (by decide) ?_
  refine lv_iadd hx hb dL_law_253 ?_
  rw [show nI (6 * u) + 1 = nI (6 * u + 1) from nI_add ..]
  refine va_sld hx hb hX hbl hbA hS (vp_in_nI (show 6 * u + 1 < L by omega) (by omega)) dL_law_254 ?_
  rw [nI_clamp (show 6 * u + 1 < 2 ^ 31 by omega)]
  refine lv_aload_n hx hb dL_law_255 rfl (lv_at hl 1 rfl) ?_
  refine g_SH (k := 3) F htw hB hS hP (c_L_length hst G ha hC (xs (6 * u + 1))) k1_199 k1_200 k1_0 k1_201 (by decide +kernel) rfl rfl ⟨Nat.le_of_ble_eq_true rfl, Nat.le_of_ble_eq_true rfl⟩ rfl hl.1 rfl (Nat.le_of_ble_eq_true rfl) dL_law_256 ⟨hc, hs⟩ (fun en1 H locs he hP hS => ?_)
  obtain ⟨pi, dr, S, o, rfl, hC, hO⟩ := he
  refine lv_istore hx hb dL_law_259 hl (by decide) rfl (fun ls hl => ?_)
  have hl : lv_has ls 8 [(5, .int _), (4, .int _), (3, .ref _), (2, .ref _), (1, .ref _), (0, .ref _)] := hl
  refine lv_aload_n hx hb dL_law_261 rfl (lv_at hl 3 rfl) ?_
  refine lv_aload_n hx hb dL_law_262 rfl (lv_at hl 5 rfl) ?_
  refine lv_iload hx hb dL_law_263 (lv_at hl 1 rfl) ?_
  refine lv_iconst (v := 1) hx hb dL_law_265 (by decide) ?_
  refine lv_iadd hx hb dL_law_266 ?_
  rw [show nI (6 * u) + 1 = nI (6 * u + 1) from nI_add ..]
  refine va_sld hx hb hX hbl hbA hS (vp_in_nI (show 6 * u + 1 < L by omega) (by omega)) dL_law_267 ?_
  rw [nI_clamp (show 6 * u + 1 < 2 ^ 31 by omega)]
  refine g_V (k := 1) F htw hB hS hP (17) (by decide) rfl rfl (c_M_length G ha hR (xs (6 * u + 1))) k3_2 k3_3 k3_4 k1_5 k3_5 (by decide +kernel) rfl rfl ⟨Nat.le_of_ble_eq_true rfl, Nat.le_of_ble_eq_true rfl⟩ rfl hl.1 rfl (Nat.le_of_ble_eq_true rfl) dL_law_268 ⟨hc, hs⟩ (fun en1 H locs he hP hS => ?_)
  obtain ⟨M, rfl, h00, hR⟩ := he
  refine lv_istore hx hb dL_law_271 hl (by decide) rfl (fun ls hl => ?_)
  have hl : lv_has ls 8 [(6, .int _), (5, .int _), (4, .int _), (3, .ref _), (2, .ref _), (1, .ref _), (0, .ref _)] := hl
  refine lv_aload_n hx hb dL_law_273 rfl (lv_at hl 4 rfl) ?_
  refine g_V (k := 0) F htw hB hS hP (17) (by decide) rfl rfl (c_M_thrown) k2_230 k2_231 k2_232 k1_5 k2_233 (by decide +kernel) rfl rfl ⟨Nat.le_of_ble_eq_true rfl, Nat.le_of_ble_eq_true rfl⟩ rfl hl.1 rfl (Nat.le_of_ble_eq_true rfl) dL_law_274 ⟨hc, hs⟩ (fun en1 H locs he hP hS => ?_)
  obtain rfl := he
  rw [h00]
  refine lv_iload hx hb dL_law_277 (lv_at hl 1 rfl) ?_
  refine lv_icmp_eq (tgt := 284) hx hb dL_law_279 (by decide) (fun _ => ?_) (fun hc => absurd rfl hc)
  refine lv_iload hx hb dL_law_284 (lv_at hl 1 rfl) ?_
  refine lv_if_ne (tgt := 301) hx hb dL_law_286 (by decide) (fun hz0 => ?_) (fun hz0 => ?_)
  · refine lv_goto (tgt := 1890) hx hb dL_law_301 (by decide) ?_
    have hl : lv_has ls 8 [(4, .int (nI (6 * u))), (3, .ref (ad 24)), (2, .ref (ad 17)), (1, .ref (ad 0)), (0, .ref b)] := lv_sub hl [2, 3, 4, 5, 6] rfl
    exact kk _ _ _ _ _ _ _ _ _ (k_same hA) hC hR hl hP hS
  · rw [show (0 : Int32) = nI 0 from rfl, nI_eq (show c_length (xs (6 * u + 1)) < 2 ^ 31 by omega) (by decide)] at hz0
    have hO := hO hz0
    refine lv_aload_n hx hb dL_law_289 rfl (lv_at hl 3 rfl) ?_
    refine lv_iconst (v := 0) hx hb dL_law_290 (by decide) ?_
    refine g_lald F hK hP (24) (by decide) 3 rfl rfl (vp_in_nI (n := 0) (N := 1) (by decide) (by decide)) dL_law_291 ?_
    rw [show o (Int32.toNatClampNeg 0) = _ from hO]
    refine lv_iload hx hb dL_law_292 (lv_at hl 0 rfl) ?_
    refine lv_i2l hx hb dL_law_294 rfl ?_
    refine W.lcmp hx hb dL_law_295 ?_
    refine lv_if_eq (tgt := 301) hx hb dL_law_296 (by decide) (fun _ => ?_) (fun hc => absurd (by rw [lg_cmp_eq, if_pos hz0]) hc)
    refine lv_goto (tgt := 1890) hx hb dL_law_301 (by decide) ?_
    have hl : lv_has ls 8 [(4, .int (nI (6 * u))), (3, .ref (ad 24)), (2, .ref (ad 17)), (1, .ref (ad 0)), (0, .ref b)] := lv_sub hl [2, 3, 4, 5, 6] rfl
    exact kk _ _ _ _ _ _ _ _ _ (k_same hA) hC hR hl hP hS
set_option maxHeartbeats 4000000 in
set_option maxRecDepth 100000 in
theorem law_byteAt (hst : l.stackTraces = false) (F : CallFix p m c code 8 s #[Value.ref b] tws "PairedTextsLaw") (htw : tw D cI cZ cT cJ base s) (hB : base ≤ s.heap.size) (G : gGeo ad 25 base) (hX : va_X b L xs s s.heap) (hbl : b < s.heap.size) (hbA : ¬ gA base b) (hL : L ≤ 3072) (hu : 6 * u + 6 ≤ L) (hA : aok a) (hC : RepC pi dr S a) (hR : RepM M a) (hl : lv_has ls 8 [(4, .int (nI (6 * u))), (3, .ref (ad 24)), (2, .ref (ad 17)), (1, .ref (ad 0)), (0, .ref b)]) (hP : va_P D cl (gw ad (en ad cI cZ cT cJ pi dr S M o) 25) H) (hS : va_S (gA base) s.heap H locs) (hc : cells + 1 ≤ 601024) (hs : slots + 6 ≤ 7293034)
    (kk : ∀ (pi : Nat → Nat) (dr : Nat) (S M : Nat → Nat → Int32) (o : Nat → Int64) (a : Ab) (ls : Array Slot) (H : Heap) (locs : List Loc), aok a → RepC pi dr S a → RepM M a → lv_has ls 8 [(4, .int (nI (6 * u))), (3, .ref (ad 24)), (2, .ref (ad 17)), (1, .ref (ad 0)), (0, .ref b)] → va_P D cl (gw ad (en ad cI cZ cT cJ pi dr S M o) 25) H → va_S (gA base) s.heap H locs → W p l e room_1 s m #[Value.ref b] below meth c H locs (cells + 1) (slots + 6) Q (F0 m 1890 ls [])) : W p l e room_1 s m #[Value.ref b] below meth c H locs cells slots Q (F0 m 304 ls []) := by
  have hx := F.1
  have hb := F.2.1
  have hown := F.2.2.2.1
  have hts := F.2.2.2.2
  have hK := htw.1
  have ha := hA.ok
  have hK3 : c_byteAt a (xs (6 * u + 1)) (xs (6 * u + 2)) ≤ 3 := by unfold c_byteAt; (repeat' split) <;> decide
  refine lv_aload_n hx hb dL_law_304 rfl (lv_at hl 3 rfl) ?_
  refine lv_aload_n hx hb dL_law_305 rfl (lv_at hl 4 rfl) ?_
  refine lv_iload hx hb dL_law_306 (lv_at hl 0 rfl) ?_
  refine lv_iconst (v := 1) hx hb dL_law_308 (by decide) ?_
  refine lv_iadd hx hb dL_law_309 ?_
  rw [show nI (6 * u) + 1 = nI (6 * u + 1) from nI_add ..]
  refine va_sld hx hb hX hbl hbA hS (vp_in_nI (show 6 * u + 1 < L by omega) (by omega)) dL_law_310 ?_
  rw [nI_clamp (show 6 * u + 1 < 2 ^ 31 by omega)]
  refine lv_aload_n hx hb dL_law_311 rfl (lv_at hl 4 rfl) ?_
  refine lv_iload hx hb dL_law_312 (lv_at hl 0 rfl) ?_
  refine lv_iconst (v := 2) hx hb dL_law_314 (by decide) ?_
  refine lv_iadd hx hb dL_law_315 ?_
  rw [show nI (6 * u) + 2 = nI (6 * u + 2) from nI_add ..]
  refine va_sld hx hb hX hbl hbA hS (vp_in_nI (show 6 * u + 2 < L by omega) (by omega)) dL_law_316 ?_
  rw [nI_clamp (show 6 * u + 2 < 2 ^ 31 by omega)]
  refine lv_aload_n hx hb dL_law_317 rfl (lv_at hl 1 rfl) ?_
  refine g_SH (k := 4) F htw hB hS hP (c_L_byteAt hst G ha hC (xs (6 * u + 1)) (xs (6 * u + 2))) k1_206 k1_207 k1_0 k1_208 (by decide +kernel) rfl rfl ⟨Nat.le_of_ble_eq_true rfl, Nat.le_of_ble_eq_true rfl⟩ rfl hl.1 rfl (Nat.le_of_ble_eq_true rfl) dL_law_318 ⟨hc, hs⟩ (fun en1 H locs he hP hS => ?_)
  obtain ⟨pi, dr, S, o, rfl, hC, hO⟩ := he
  refine lv_istore hx hb dL_law_321 hl (by decide) rfl (fun ls hl => ?_)
  have hl : lv_has ls 8 [(5, .int _), (4, .int _), (3, .ref _), (2, .ref _), (1, .ref _), (0, .ref _)] := hl
  refine lv_aload_n hx hb dL_law_323 rfl (lv_at hl 3 rfl) ?_
  refine lv_aload_n hx hb dL_law_324 rfl (lv_at hl 5 rfl) ?_
  refine lv_iload hx hb dL_law_325 (lv_at hl 1 rfl) ?_
  refine lv_iconst (v := 1) hx hb dL_law_327 (by decide) ?_
  refine lv_iadd hx hb dL_law_328 ?_
  rw [show nI (6 * u) + 1 = nI (6 * u + 1) from nI_add ..]
  refine va_sld hx hb hX hbl hbA hS (vp_in_nI (show 6 * u + 1 < L by omega) (by omega)) dL_law_329 ?_
  rw [nI_clamp (show 6 * u + 1 < 2 ^ 31 by omega)]
  refine lv_aload_n hx hb dL_law_330 rfl (lv_at hl 5 rfl) ?_
  refine lv_iload hx hb dL_law_331 (lv_at hl 1 rfl) ?_
  refine lv_iconst (v := 2) hx hb dL_law_333 (by decide) ?_
  refine lv_iadd hx hb dL_law_334 ?_
  rw [show nI (6 * u) + 2 = nI (6 * u + 2) from nI_add ..]
  refine va_sld hx hb hX hbl hbA hS (vp_in_nI (show 6 * u + 2 < L by omega) (by omega)) dL_law_335 ?_
  rw [nI_clamp (show 6 * u + 2 < 2 ^ 31 by omega)]
  refine g_V (k := 2) F htw hB hS hP (17) (by decide) rfl rfl (c_M_byteAt G ha hR (xs (6 * u + 1)) (xs (6 * u + 2))) k3_6 k3_7 k3_8 k1_5 k3_9 (by decide +kernel) rfl rfl ⟨Nat.le_of_ble_eq_true rfl, Nat.le_of_ble_eq_true rfl⟩ rfl hl.1 rfl (Nat.le_of_ble_eq_true rfl) dL_law_336 ⟨hc, hs⟩ (fun en1 H locs he hP hS => ?_)
  obtain ⟨M, rfl, h00, hR⟩ := he
  refine lv_istore hx hb dL_law_339 hl (by decide) rfl (fun ls hl => ?_)
  have hl : lv_has ls 8 [(6, .int _), (5, .int _), (4, .int _), (3, .ref _), (2, .ref _), (1, .ref _), (0, .ref _)] := hl
  refine lv_aload_n hx hb dL_law_341 rfl (lv_at hl 4 rfl) ?_
  refine g_V (k := 0) F htw hB hS hP (17) (by decide) rfl rfl (c_M_thrown) k2_230 k2_231 k2_232 k1_5 k2_233 (by decide +kernel) rfl rfl ⟨Nat.le_of_ble_eq_true rfl, Nat.le_of_ble_eq_true rfl⟩ rfl hl.1 rfl (Nat.le_of_ble_eq_true rfl) dL_law_342 ⟨hc, hs⟩ (fun en1 H locs he hP hS => ?_)
  obtain rfl := he
  rw [h00]
  refine lv_iload hx hb dL_law_345 (lv_at hl 1 rfl) ?_
  refine lv_icmp_eq (tgt := 352) hx hb dL_law_347 (by decide) (fun _ => ?_) (fun hc => absurd rfl hc)
  refine lv_iload hx hb dL_law_352 (lv_at hl 1 rfl) ?_
  refine lv_if_ne (tgt := 369) hx hb dL_law_354 (by decide) (fun hz0 => ?_) (fun hz0 => ?_)
  · refine lv_goto (tgt := 1890) hx hb dL_law_369 (by decide) ?_
    have hl : lv_has ls 8 [(4, .int (nI (6 * u))), (3, .ref (ad 24)), (2, .ref (ad 17)), (1, .ref (ad 0)), (0, .ref b)] := lv_sub hl [2, 3, 4, 5, 6] rfl
    exact kk _ _ _ _ _ _ _ _ _ (k_same hA) hC hR hl hP hS
  · rw [show (0 : Int32) = nI 0 from rfl, nI_eq (show c_byteAt a (xs (6 * u + 1)) (xs (6 * u + 2)) < 2 ^ 31 by omega) (by decide)] at hz0
    have hO := hO hz0
    refine lv_aload_n hx hb dL_law_357 rfl (lv_at hl 3 rfl) ?_
    refine lv_iconst (v := 0) hx hb dL_law_358 (by decide) ?_
    refine g_lald F hK hP (24) (by decide) 3 rfl rfl (vp_in_nI (n := 0) (N := 1) (by decide) (by decide)) dL_law_359 ?_
    rw [show o (Int32.toNatClampNeg 0) = _ from hO]
    refine lv_iload hx hb dL_law_360 (lv_at hl 0 rfl) ?_
    refine lv_i2l hx hb dL_law_362 rfl ?_
    refine W.lcmp hx hb dL_law_363 ?_
    refine lv_if_eq (tgt := 369) hx hb dL_law_364 (by decide) (fun _ => ?_) (fun hc => absurd (by rw [lg_cmp_eq, if_pos hz0]) hc)
    refine lv_goto (tgt := 1890) hx hb dL_law_369 (by decide) ?_
    have hl : lv_has ls 8 [(4, .int (nI (6 * u))), (3, .ref (ad 24)), (2, .ref (ad 17)), (1, .ref (ad 0)), (0, .ref b)] := lv_sub hl [2, 3, 4, 5, 6] rfl
    exact kk _ _ _ _ _ _ _ _ _ (k_same hA) hC hR hl hP hS
set_option maxHeartbeats 4000000 in
set_option maxRecDepth 100000 in
theorem law_copy (hst : l.stackTraces = false) (F : CallFix p m c code 8 s #[Value.ref b] tws "PairedTextsLaw") (htw : tw D cI cZ cT cJ base s) (hB : base ≤ s.heap.size) (G : gGeo ad 25 base) (hX : va_X b L xs s s.heap) (hbl : b < s.heap.size) (hbA : ¬ gA base b) (hL : L ≤ 3072) (hu : 6 * u + 6 ≤ L) (hA : aok a) (hC : RepC pi dr S a) (hR : RepM M a) (hl : lv_has ls 8 [(4, .int (nI (6 * u))), (3, .ref (ad 24)), (2, .ref (ad 17)), (1, .ref (ad 0)), (0, .ref b)]) (hP : va_P D cl (gw ad (en ad cI cZ cT cJ pi dr S M o) 25) H) (hS : va_S (gA base) s.heap H locs) (hc : cells + 1 ≤ 601024) (hs : slots + 6 ≤ 7293034)
    (kk : ∀ (pi : Nat → Nat) (dr : Nat) (S M : Nat → Nat → Int32) (o : Nat → Int64) (a : Ab) (ls : Array Slot) (H : Heap) (locs : List Loc), aok a → RepC pi dr S a → RepM M a → lv_has ls 8 [(4, .int (nI (6 * u))), (3, .ref (ad 24)), (2, .ref (ad 17)), (1, .ref (ad 0)), (0, .ref b)] → va_P D cl (gw ad (en ad cI cZ cT cJ pi dr S M o) 25) H → va_S (gA base) s.heap H locs → W p l e room_1 s m #[Value.ref b] below meth c H locs (cells + 1) (slots + 6) Q (F0 m 1890 ls [])) : W p l e room_1 s m #[Value.ref b] below meth c H locs cells slots Q (F0 m 372 ls []) := by
  have hx := F.1
  have hb := F.2.1
  have hown := F.2.2.2.1
  have hts := F.2.2.2.2
  have hK := htw.1
  have ha := hA.ok
  have hK3 : c_copy a (xs (6 * u + 1)) (xs (6 * u + 2)) (xs (6 * u + 3)) (xs (6 * u + 4)) ≤ 3 := by unfold c_copy; (repeat' split) <;> decide
  refine lv_aload_n hx hb dL_law_372 rfl (lv_at hl 3 rfl) ?_
  refine lv_aload_n hx hb dL_law_373 rfl (lv_at hl 4 rfl) ?_
  refine lv_iload hx hb dL_law_374 (lv_at hl 0 rfl) ?_
  refine lv_iconst (v := 1) hx hb dL_law_376 (by decide) ?_
  refine lv_iadd hx hb dL_law_377 ?_
  rw [show nI (6 * u) + 1 = nI (6 * u + 1) from nI_add ..]
  refine va_sld hx hb hX hbl hbA hS (vp_in_nI (show 6 * u + 1 < L by omega) (by omega)) dL_law_378 ?_
  rw [nI_clamp (show 6 * u + 1 < 2 ^ 31 by omega)]
  refine lv_aload_n hx hb dL_law_379 rfl (lv_at hl 4 rfl) ?_
  refine lv_iload hx hb dL_law_380 (lv_at hl 0 rfl) ?_
  refine lv_iconst (v := 2) hx hb dL_law_382 (by decide) ?_
  refine lv_iadd hx hb dL_law_383 ?_
  rw [show nI (6 * u) + 2 = nI (6 * u + 2) from nI_add ..]
  refine va_sld hx hb hX hbl hbA hS (vp_in_nI (show 6 * u + 2 < L by omega) (by omega)) dL_law_384 ?_
  rw [nI_clamp (show 6 * u + 2 < 2 ^ 31 by omega)]
  refine lv_aload_n hx hb dL_law_385 rfl (lv_at hl 4 rfl) ?_
  refine lv_iload hx hb dL_law_386 (lv_at hl 0 rfl) ?_
  refine lv_iconst (v := 3) hx hb dL_law_388 (by decide) ?_
  refine lv_iadd hx hb dL_law_389 ?_
  rw [show nI (6 * u) + 3 = nI (6 * u + 3) from nI_add ..]
  refine va_sld hx hb hX hbl hbA hS (vp_in_nI (show 6 * u + 3 < L by omega) (by omega)) dL_law_390 ?_
  rw [nI_clamp (show 6 * u + 3 < 2 ^ 31 by omega)]
  refine lv_aload_n hx hb dL_law_391 rfl (lv_at hl 4 rfl) ?_
  refine lv_iload hx hb dL_law_392 (lv_at hl 0 rfl) ?_
  refine lv_iconst (v := 4) hx hb dL_law_394 (by decide) ?_
  refine lv_iadd hx hb dL_law_395 ?_
  rw [show nI (6 * u) + 4 = nI (6 * u + 4) from nI_add ..]
  refine va_sld hx hb hX hbl hbA hS (vp_in_nI (show 6 * u + 4 < L by omega) (by omega)) dL_law_396 ?_
  rw [nI_clamp (show 6 * u + 4 < 2 ^ 31 by omega)]
  refine lv_aload_n hx hb dL_law_397 rfl (lv_at hl 1 rfl) ?_
  refine g_SH (k := 6) F htw hB hS hP (c_L_copy hst G ha hC (xs (6 * u + 1)) (xs (6 * u + 2)) (xs (6 * u + 3)) (xs (6 * u + 4))) k1_233 k1_234 k1_0 k1_235 (by decide +kernel) rfl rfl ⟨Nat.le_of_ble_eq_true rfl, Nat.le_of_ble_eq_true rfl⟩ rfl hl.1 rfl (Nat.le_of_ble_eq_true rfl) dL_law_398 ⟨hc, hs⟩ (fun en1 H locs he hP hS => ?_)
  obtain ⟨pi, dr, S, o, rfl, hC, hO⟩ := he
  refine lv_istore hx hb dL_law_401 hl (by decide) rfl (fun ls hl => ?_)
  have hl : lv_has ls 8 [(5, .int _), (4, .int _), (3, .ref _), (2, .ref _), (1, .ref _), (0, .ref _)] := hl
  refine lv_aload_n hx hb dL_law_403 rfl (lv_at hl 3 rfl) ?_
  refine lv_aload_n hx hb dL_law_404 rfl (lv_at hl 5 rfl) ?_
  refine lv_iload hx hb dL_law_405 (lv_at hl 1 rfl) ?_
  refine lv_iconst (v := 1) hx hb dL_law_407 (by decide) ?_
  refine lv_iadd hx hb dL_law_408 ?_
  rw [show nI (6 * u) + 1 = nI (6 * u + 1) from nI_add ..]
  refine va_sld hx hb hX hbl hbA hS (vp_in_nI (show 6 * u + 1 < L by omega) (by omega)) dL_law_409 ?_
  rw [nI_clamp (show 6 * u + 1 < 2 ^ 31 by omega)]
  refine lv_aload_n hx hb dL_law_410 rfl (lv_at hl 5 rfl) ?_
  refine lv_iload hx hb dL_law_411 (lv_at hl 1 rfl) ?_
  refine lv_iconst (v := 2) hx hb dL_law_413 (by decide) ?_
  refine lv_iadd hx hb dL_law_414 ?_
  rw [show nI (6 * u) + 2 = nI (6 * u + 2) from nI_add ..]
  refine va_sld hx hb hX hbl hbA hS (vp_in_nI (show 6 * u + 2 < L by omega) (by omega)) dL_law_415 ?_
  rw [nI_clamp (show 6 * u + 2 < 2 ^ 31 by omega)]
  refine lv_aload_n hx hb dL_law_416 rfl (lv_at hl 5 rfl) ?_
  refine lv_iload hx hb dL_law_417 (lv_at hl 1 rfl) ?_
  refine lv_iconst (v := 3) hx hb dL_law_419 (by decide) ?_
  refine lv_iadd hx hb dL_law_420 ?_
  rw [show nI (6 * u) + 3 = nI (6 * u + 3) from nI_add ..]
  refine va_sld hx hb hX hbl hbA hS (vp_in_nI (show 6 * u + 3 < L by omega) (by omega)) dL_law_421 ?_
  rw [nI_clamp (show 6 * u + 3 < 2 ^ 31 by omega)]
  refine lv_aload_n hx hb dL_law_422 rfl (lv_at hl 5 rfl) ?_
  refine lv_iload hx hb dL_law_423 (lv_at hl 1 rfl) ?_
  refine lv_iconst (v := 4) hx hb dL_law_425 (by decide) ?_
  refine lv_iadd hx hb dL_law_426 ?_
  rw [show nI (6 * u) + 4 = nI (6 * u + 4) from nI_add ..]
  refine va_sld hx hb hX hbl hbA hS (vp_in_nI (show 6 * u + 4 < L by omega) (by omega)) dL_law_427 ?_
  rw [nI_clamp (show 6 * u + 4 < 2 ^ 31 by omega)]
  refine g_V (k := 4) F htw hB hS hP (17) (by decide) rfl rfl (c_M_copy G ha hR (xs (6 * u + 1)) (xs (6 * u + 2)) (xs (6 * u + 3)) (xs (6 * u + 4))) k3_10 k3_11 k3_12 k1_5 k3_13 (by decide +kernel) rfl rfl ⟨Nat.le_of_ble_eq_true rfl, Nat.le_of_ble_eq_true rfl⟩ rfl hl.1 rfl (Nat.le_of_ble_eq_true rfl) dL_law_428 ⟨hc, hs⟩ (fun en1 H locs he hP hS => ?_)
  obtain ⟨M, rfl, h00, hR⟩ := he
  refine lv_istore hx hb dL_law_431 hl (by decide) rfl (fun ls hl => ?_)
  have hl : lv_has ls 8 [(6, .int _), (5, .int _), (4, .int _), (3, .ref _), (2, .ref _), (1, .ref _), (0, .ref _)] := hl
  refine lv_aload_n hx hb dL_law_433 rfl (lv_at hl 4 rfl) ?_
  refine g_V (k := 0) F htw hB hS hP (17) (by decide) rfl rfl (c_M_thrown) k2_230 k2_231 k2_232 k1_5 k2_233 (by decide +kernel) rfl rfl ⟨Nat.le_of_ble_eq_true rfl, Nat.le_of_ble_eq_true rfl⟩ rfl hl.1 rfl (Nat.le_of_ble_eq_true rfl) dL_law_434 ⟨hc, hs⟩ (fun en1 H locs he hP hS => ?_)
  obtain rfl := he
  rw [h00]
  refine lv_iload hx hb dL_law_437 (lv_at hl 1 rfl) ?_
  refine lv_icmp_eq (tgt := 444) hx hb dL_law_439 (by decide) (fun _ => ?_) (fun hc => absurd rfl hc)
  refine lv_iload hx hb dL_law_444 (lv_at hl 1 rfl) ?_
  refine lv_if_ne (tgt := 461) hx hb dL_law_446 (by decide) (fun hz0 => ?_) (fun hz0 => ?_)
  · refine lv_goto (tgt := 1890) hx hb dL_law_461 (by decide) ?_
    have hl : lv_has ls 8 [(4, .int (nI (6 * u))), (3, .ref (ad 24)), (2, .ref (ad 17)), (1, .ref (ad 0)), (0, .ref b)] := lv_sub hl [2, 3, 4, 5, 6] rfl
    exact kk _ _ _ _ _ _ _ _ _ (k_copy hA (xs (6 * u + 1)) (xs (6 * u + 2)) (xs (6 * u + 3)) (xs (6 * u + 4))) hC hR hl hP hS
  · rw [show (0 : Int32) = nI 0 from rfl, nI_eq (show c_copy a (xs (6 * u + 1)) (xs (6 * u + 2)) (xs (6 * u + 3)) (xs (6 * u + 4)) < 2 ^ 31 by omega) (by decide)] at hz0
    have hO := hO hz0
    refine lv_aload_n hx hb dL_law_449 rfl (lv_at hl 3 rfl) ?_
    refine lv_iconst (v := 0) hx hb dL_law_450 (by decide) ?_
    refine g_lald F hK hP (24) (by decide) 3 rfl rfl (vp_in_nI (n := 0) (N := 1) (by decide) (by decide)) dL_law_451 ?_
    rw [show o (Int32.toNatClampNeg 0) = _ from hO]
    refine lv_iload hx hb dL_law_452 (lv_at hl 0 rfl) ?_
    refine lv_i2l hx hb dL_law_454 rfl ?_
    refine W.lcmp hx hb dL_law_455 ?_
    refine lv_if_eq (tgt := 461) hx hb dL_law_456 (by decide) (fun _ => ?_) (fun hc => absurd (by rw [lg_cmp_eq, if_pos hz0]) hc)
    refine lv_goto (tgt := 1890) hx hb dL_law_461 (by decide) ?_
    have hl : lv_has ls 8 [(4, .int (nI (6 * u))), (3, .ref (ad 24)), (2, .ref (ad 17)), (1, .ref (ad 0)), (0, .ref b)] := lv_sub hl [2, 3, 4, 5, 6] rfl
    exact kk _ _ _ _ _ _ _ _ _ (k_copy hA (xs (6 * u + 1)) (xs (6 * u + 2)) (xs (6 * u + 3)) (xs (6 * u + 4))) hC hR hl hP hS
set_option maxHeartbeats 4000000 in
set_option maxRecDepth 100000 in
theorem law_join (hst : l.stackTraces = false) (F : CallFix p m c code 8 s #[Value.ref b] tws "PairedTextsLaw") (htw : tw D cI cZ cT cJ base s) (hB : base ≤ s.heap.size) (G : gGeo ad 25 base) (hX : va_X b L xs s s.heap) (hbl : b < s.heap.size) (hbA : ¬ gA base b) (hL : L ≤ 3072) (hu : 6 * u + 6 ≤ L) (hA : aok a) (hC : RepC pi dr S a) (hR : RepM M a) (hl : lv_has ls 8 [(4, .int (nI (6 * u))), (3, .ref (ad 24)), (2, .ref (ad 17)), (1, .ref (ad 0)), (0, .ref b)]) (hP : va_P D cl (gw ad (en ad cI cZ cT cJ pi dr S M o) 25) H) (hS : va_S (gA base) s.heap H locs) (hc : cells + 1 ≤ 601024) (hs : slots + 6 ≤ 7293034)
    (kk : ∀ (pi : Nat → Nat) (dr : Nat) (S M : Nat → Nat → Int32) (o : Nat → Int64) (a : Ab) (ls : Array Slot) (H : Heap) (locs : List Loc), aok a → RepC pi dr S a → RepM M a → lv_has ls 8 [(4, .int (nI (6 * u))), (3, .ref (ad 24)), (2, .ref (ad 17)), (1, .ref (ad 0)), (0, .ref b)] → va_P D cl (gw ad (en ad cI cZ cT cJ pi dr S M o) 25) H → va_S (gA base) s.heap H locs → W p l e room_1 s m #[Value.ref b] below meth c H locs (cells + 1) (slots + 6) Q (F0 m 1890 ls [])) : W p l e room_1 s m #[Value.ref b] below meth c H locs cells slots Q (F0 m 464 ls []) := by
  have hx := F.1
  have hb := F.2.1
  have hown := F.2.2.2.1
  have hts := F.2.2.2.2
  have hK := htw.1
  have ha := hA.ok
  have hK3 : c_join a (xs (6 * u + 1)) (xs (6 * u + 2)) (xs (6 * u + 3)) ≤ 3 := by unfold c_join; (repeat' split) <;> decide
  refine lv_aload_n hx hb dL_law_464 rfl (lv_at hl 3 rfl) ?_
  refine lv_aload_n hx hb dL_law_465 rfl (lv_at hl 4 rfl) ?_
  refine lv_iload hx hb dL_law_466 (lv_at hl 0 rfl) ?_
  refine lv_iconst (v := 1) hx hb dL_law_468 (by decide) ?_
  refine lv_iadd hx hb dL_law_469 ?_
  rw [show nI (6 * u) + 1 = nI (6 * u + 1) from nI_add ..]
  refine va_sld hx hb hX hbl hbA hS (vp_in_nI (show 6 * u + 1 < L by omega) (by omega)) dL_law_470 ?_
  rw [nI_clamp (show 6 * u + 1 < 2 ^ 31 by omega)]
  refine lv_aload_n hx hb dL_law_471 rfl (lv_at hl 4 rfl) ?_
  refine lv_iload hx hb dL_law_472 (lv_at hl 0 rfl) ?_
  refine lv_iconst (v := 2) hx hb dL_law_474 (by decide) ?_
  refine lv_iadd hx hb dL_law_475 ?_
  rw [show nI (6 * u) + 2 = nI (6 * u + 2) from nI_add ..]
  refine va_sld hx hb hX hbl hbA hS (vp_in_nI (show 6 * u + 2 < L by omega) (by omega)) dL_law_476 ?_
  rw [nI_clamp (show 6 * u + 2 < 2 ^ 31 by omega)]
  refine lv_aload_n hx hb dL_law_477 rfl (lv_at hl 4 rfl) ?_
  refine lv_iload hx hb dL_law_478 (lv_at hl 0 rfl) ?_
  refine lv_iconst (v := 3) hx hb dL_law_480 (by decide) ?_
  refine lv_iadd hx hb dL_law_481 ?_
  rw [show nI (6 * u) + 3 = nI (6 * u + 3) from nI_add ..]
  refine va_sld hx hb hX hbl hbA hS (vp_in_nI (show 6 * u + 3 < L by omega) (by omega)) dL_law_482 ?_
  rw [nI_clamp (show 6 * u + 3 < 2 ^ 31 by omega)]
  refine lv_aload_n hx hb dL_law_483 rfl (lv_at hl 1 rfl) ?_
  refine g_SH (k := 5) F htw hB hS hP (c_L_join hst G ha hC (xs (6 * u + 1)) (xs (6 * u + 2)) (xs (6 * u + 3))) k2_19 k2_20 k1_0 k2_21 (by decide +kernel) rfl rfl ⟨Nat.le_of_ble_eq_true rfl, Nat.le_of_ble_eq_true rfl⟩ rfl hl.1 rfl (Nat.le_of_ble_eq_true rfl) dL_law_484 ⟨hc, hs⟩ (fun en1 H locs he hP hS => ?_)
  obtain ⟨pi, dr, S, o, rfl, hC, hO⟩ := he
  refine lv_istore hx hb dL_law_487 hl (by decide) rfl (fun ls hl => ?_)
  have hl : lv_has ls 8 [(5, .int _), (4, .int _), (3, .ref _), (2, .ref _), (1, .ref _), (0, .ref _)] := hl
  refine lv_aload_n hx hb dL_law_489 rfl (lv_at hl 3 rfl) ?_
  refine lv_aload_n hx hb dL_law_490 rfl (lv_at hl 5 rfl) ?_
  refine lv_iload hx hb dL_law_491 (lv_at hl 1 rfl) ?_
  refine lv_iconst (v := 1) hx hb dL_law_493 (by decide) ?_
  refine lv_iadd hx hb dL_law_494 ?_
  rw [show nI (6 * u) + 1 = nI (6 * u + 1) from nI_add ..]
  refine va_sld hx hb hX hbl hbA hS (vp_in_nI (show 6 * u + 1 < L by omega) (by omega)) dL_law_495 ?_
  rw [nI_clamp (show 6 * u + 1 < 2 ^ 31 by omega)]
  refine lv_aload_n hx hb dL_law_496 rfl (lv_at hl 5 rfl) ?_
  refine lv_iload hx hb dL_law_497 (lv_at hl 1 rfl) ?_
  refine lv_iconst (v := 2) hx hb dL_law_499 (by decide) ?_
  refine lv_iadd hx hb dL_law_500 ?_
  rw [show nI (6 * u) + 2 = nI (6 * u + 2) from nI_add ..]
  refine va_sld hx hb hX hbl hbA hS (vp_in_nI (show 6 * u + 2 < L by omega) (by omega)) dL_law_501 ?_
  rw [nI_clamp (show 6 * u + 2 < 2 ^ 31 by omega)]
  refine lv_aload_n hx hb dL_law_502 rfl (lv_at hl 5 rfl) ?_
  refine lv_iload hx hb dL_law_503 (lv_at hl 1 rfl) ?_
  refine lv_iconst (v := 3) hx hb dL_law_505 (by decide) ?_
  refine lv_iadd hx hb dL_law_506 ?_
  rw [show nI (6 * u) + 3 = nI (6 * u + 3) from nI_add ..]
  refine va_sld hx hb hX hbl hbA hS (vp_in_nI (show 6 * u + 3 < L by omega) (by omega)) dL_law_507 ?_
  rw [nI_clamp (show 6 * u + 3 < 2 ^ 31 by omega)]
  refine g_V (k := 3) F htw hB hS hP (17) (by decide) rfl rfl (c_M_join G ha hR (xs (6 * u + 1)) (xs (6 * u + 2)) (xs (6 * u + 3))) k3_26 k3_27 k3_28 k1_5 k3_29 (by decide +kernel) rfl rfl ⟨Nat.le_of_ble_eq_true rfl, Nat.le_of_ble_eq_true rfl⟩ rfl hl.1 rfl (Nat.le_of_ble_eq_true rfl) dL_law_508 ⟨hc, hs⟩ (fun en1 H locs he hP hS => ?_)
  obtain ⟨M, rfl, h00, hR⟩ := he
  refine lv_istore hx hb dL_law_511 hl (by decide) rfl (fun ls hl => ?_)
  have hl : lv_has ls 8 [(6, .int _), (5, .int _), (4, .int _), (3, .ref _), (2, .ref _), (1, .ref _), (0, .ref _)] := hl
  refine lv_aload_n hx hb dL_law_513 rfl (lv_at hl 4 rfl) ?_
  refine g_V (k := 0) F htw hB hS hP (17) (by decide) rfl rfl (c_M_thrown) k2_230 k2_231 k2_232 k1_5 k2_233 (by decide +kernel) rfl rfl ⟨Nat.le_of_ble_eq_true rfl, Nat.le_of_ble_eq_true rfl⟩ rfl hl.1 rfl (Nat.le_of_ble_eq_true rfl) dL_law_514 ⟨hc, hs⟩ (fun en1 H locs he hP hS => ?_)
  obtain rfl := he
  rw [h00]
  refine lv_iload hx hb dL_law_517 (lv_at hl 1 rfl) ?_
  refine lv_icmp_eq (tgt := 524) hx hb dL_law_519 (by decide) (fun _ => ?_) (fun hc => absurd rfl hc)
  refine lv_iload hx hb dL_law_524 (lv_at hl 1 rfl) ?_
  refine lv_if_ne (tgt := 541) hx hb dL_law_526 (by decide) (fun hz0 => ?_) (fun hz0 => ?_)
  · refine lv_goto (tgt := 1890) hx hb dL_law_541 (by decide) ?_
    have hl : lv_has ls 8 [(4, .int (nI (6 * u))), (3, .ref (ad 24)), (2, .ref (ad 17)), (1, .ref (ad 0)), (0, .ref b)] := lv_sub hl [2, 3, 4, 5, 6] rfl
    exact kk _ _ _ _ _ _ _ _ _ (k_join hA (xs (6 * u + 1)) (xs (6 * u + 2)) (xs (6 * u + 3))) hC hR hl hP hS
  · rw [show (0 : Int32) = nI 0 from rfl, nI_eq (show c_join a (xs (6 * u + 1)) (xs (6 * u + 2)) (xs (6 * u + 3)) < 2 ^ 31 by omega) (by decide)] at hz0
    have hO := hO hz0
    refine lv_aload_n hx hb dL_law_529 rfl (lv_at hl 3 rfl) ?_
    refine lv_iconst (v := 0) hx hb dL_law_530 (by decide) ?_
    refine g_lald F hK hP (24) (by decide) 3 rfl rfl (vp_in_nI (n := 0) (N := 1) (by decide) (by decide)) dL_law_531 ?_
    rw [show o (Int32.toNatClampNeg 0) = _ from hO]
    refine lv_iload hx hb dL_law_532 (lv_at hl 0 rfl) ?_
    refine lv_i2l hx hb dL_law_534 rfl ?_
    refine W.lcmp hx hb dL_law_535 ?_
    refine lv_if_eq (tgt := 541) hx hb dL_law_536 (by decide) (fun _ => ?_) (fun hc => absurd (by rw [lg_cmp_eq, if_pos hz0]) hc)
    refine lv_goto (tgt := 1890) hx hb dL_law_541 (by decide) ?_
    have hl : lv_has ls 8 [(4, .int (nI (6 * u))), (3, .ref (ad 24)), (2, .ref (ad 17)), (1, .ref (ad 0)), (0, .ref b)] := lv_sub hl [2, 3, 4, 5, 6] rfl
    exact kk _ _ _ _ _ _ _ _ _ (k_join hA (xs (6 * u + 1)) (xs (6 * u + 2)) (xs (6 * u + 3))) hC hR hl hP hS
set_option maxHeartbeats 4000000 in
set_option maxRecDepth 100000 in
theorem law_insert (hst : l.stackTraces = false) (F : CallFix p m c code 8 s #[Value.ref b] tws "PairedTextsLaw") (htw : tw D cI cZ cT cJ base s) (hB : base ≤ s.heap.size) (G : gGeo ad 25 base) (hX : va_X b L xs s s.heap) (hbl : b < s.heap.size) (hbA : ¬ gA base b) (hL : L ≤ 3072) (hu : 6 * u + 6 ≤ L) (hA : aok a) (hC : RepC pi dr S a) (hR : RepM M a) (hl : lv_has ls 8 [(4, .int (nI (6 * u))), (3, .ref (ad 24)), (2, .ref (ad 17)), (1, .ref (ad 0)), (0, .ref b)]) (hP : va_P D cl (gw ad (en ad cI cZ cT cJ pi dr S M o) 25) H) (hS : va_S (gA base) s.heap H locs) (hc : cells + 1 ≤ 601024) (hs : slots + 6 ≤ 7293034)
    (kk : ∀ (pi : Nat → Nat) (dr : Nat) (S M : Nat → Nat → Int32) (o : Nat → Int64) (a : Ab) (ls : Array Slot) (H : Heap) (locs : List Loc), aok a → RepC pi dr S a → RepM M a → lv_has ls 8 [(4, .int (nI (6 * u))), (3, .ref (ad 24)), (2, .ref (ad 17)), (1, .ref (ad 0)), (0, .ref b)] → va_P D cl (gw ad (en ad cI cZ cT cJ pi dr S M o) 25) H → va_S (gA base) s.heap H locs → W p l e room_1 s m #[Value.ref b] below meth c H locs (cells + 1) (slots + 6) Q (F0 m 1890 ls [])) : W p l e room_1 s m #[Value.ref b] below meth c H locs cells slots Q (F0 m 544 ls []) := by
  have hx := F.1
  have hb := F.2.1
  have hown := F.2.2.2.1
  have hts := F.2.2.2.2
  have hK := htw.1
  have ha := hA.ok
  have hK3 : c_insert a (xs (6 * u + 1)) (xs (6 * u + 2)) (xs (6 * u + 3)) (xs (6 * u + 4)) (xs (6 * u + 5)) ≤ 3 := by unfold c_insert; (repeat' split) <;> decide
  refine lv_aload_n hx hb dL_law_544 rfl (lv_at hl 3 rfl) ?_
  refine lv_aload_n hx hb dL_law_545 rfl (lv_at hl 4 rfl) ?_
  refine lv_iload hx hb dL_law_546 (lv_at hl 0 rfl) ?_
  refine lv_iconst (v := 1) hx hb dL_law_548 (by decide) ?_
  refine lv_iadd hx hb dL_law_549 ?_
  rw [show nI (6 * u) + 1 = nI (6 * u + 1) from nI_add ..]
  refine va_sld hx hb hX hbl hbA hS (vp_in_nI (show 6 * u + 1 < L by omega) (by omega)) dL_law_550 ?_
  rw [nI_clamp (show 6 * u + 1 < 2 ^ 31 by omega)]
  refine lv_aload_n hx hb dL_law_551 rfl (lv_at hl 4 rfl) ?_
  refine lv_iload hx hb dL_law_552 (lv_at hl 0 rfl) ?_
  refine lv_iconst (v := 2) hx hb dL_law_554 (by decide) ?_
  refine lv_iadd hx hb dL_law_555 ?_
  rw [show nI (6 * u) + 2 = nI (6 * u + 2) from nI_add ..]
  refine va_sld hx hb hX hbl hbA hS (vp_in_nI (show 6 * u + 2 < L by omega) (by omega)) dL_law_556 ?_
  rw [nI_clamp (show 6 * u + 2 < 2 ^ 31 by omega)]
  refine lv_aload_n hx hb dL_law_557 rfl (lv_at hl 4 rfl) ?_
  refine lv_iload hx hb dL_law_558 (lv_at hl 0 rfl) ?_
  refine lv_iconst (v := 3) hx hb dL_law_560 (by decide) ?_
  refine lv_iadd hx hb dL_law_561 ?_
  rw [show nI (6 * u) + 3 = nI (6 * u + 3) from nI_add ..]
  refine va_sld hx hb hX hbl hbA hS (vp_in_nI (show 6 * u + 3 < L by omega) (by omega)) dL_law_562 ?_
  rw [nI_clamp (show 6 * u + 3 < 2 ^ 31 by omega)]
  refine lv_aload_n hx hb dL_law_563 rfl (lv_at hl 4 rfl) ?_
  refine lv_iload hx hb dL_law_564 (lv_at hl 0 rfl) ?_
  refine lv_iconst (v := 4) hx hb dL_law_566 (by decide) ?_
  refine lv_iadd hx hb dL_law_567 ?_
  rw [show nI (6 * u) + 4 = nI (6 * u + 4) from nI_add ..]
  refine va_sld hx hb hX hbl hbA hS (vp_in_nI (show 6 * u + 4 < L by omega) (by omega)) dL_law_568 ?_
  rw [nI_clamp (show 6 * u + 4 < 2 ^ 31 by omega)]
  refine lv_aload_n hx hb dL_law_569 rfl (lv_at hl 4 rfl) ?_
  refine lv_iload hx hb dL_law_570 (lv_at hl 0 rfl) ?_
  refine lv_iconst (v := 5) hx hb dL_law_572 (by decide) ?_
  refine lv_iadd hx hb dL_law_573 ?_
  rw [show nI (6 * u) + 5 = nI (6 * u + 5) from nI_add ..]
  refine va_sld hx hb hX hbl hbA hS (vp_in_nI (show 6 * u + 5 < L by omega) (by omega)) dL_law_574 ?_
  rw [nI_clamp (show 6 * u + 5 < 2 ^ 31 by omega)]
  refine lv_aload_n hx hb dL_law_575 rfl (lv_at hl 1 rfl) ?_
  refine g_SH (k := 7) F htw hB hS hP (c_L_insert hst G ha hC (xs (6 * u + 1)) (xs (6 * u + 2)) (xs (6 * u + 3)) (xs (6 * u + 4)) (xs (6 * u + 5))) k2_26 k2_27 k1_0 k2_28 (by decide +kernel) rfl rfl ⟨Nat.le_of_ble_eq_true rfl, Nat.le_of_ble_eq_true rfl⟩ rfl hl.1 rfl (Nat.le_of_ble_eq_true rfl) dL_law_576 ⟨hc, hs⟩ (fun en1 H locs he hP hS => ?_)
  obtain ⟨pi, dr, S, o, rfl, hC, hO⟩ := he
  refine lv_istore hx hb dL_law_579 hl (by decide) rfl (fun ls hl => ?_)
  have hl : lv_has ls 8 [(5, .int _), (4, .int _), (3, .ref _), (2, .ref _), (1, .ref _), (0, .ref _)] := hl
  refine lv_aload_n hx hb dL_law_581 rfl (lv_at hl 3 rfl) ?_
  refine lv_aload_n hx hb dL_law_582 rfl (lv_at hl 5 rfl) ?_
  refine lv_iload hx hb dL_law_583 (lv_at hl 1 rfl) ?_
  refine lv_iconst (v := 1) hx hb dL_law_585 (by decide) ?_
  refine lv_iadd hx hb dL_law_586 ?_
  rw [show nI (6 * u) + 1 = nI (6 * u + 1) from nI_add ..]
  refine va_sld hx hb hX hbl hbA hS (vp_in_nI (show 6 * u + 1 < L by omega) (by omega)) dL_law_587 ?_
  rw [nI_clamp (show 6 * u + 1 < 2 ^ 31 by omega)]
  refine lv_aload_n hx hb dL_law_588 rfl (lv_at hl 5 rfl) ?_
  refine lv_iload hx hb dL_law_589 (lv_at hl 1 rfl) ?_
  refine lv_iconst (v := 2) hx hb dL_law_591 (by decide) ?_
  refine lv_iadd hx hb dL_law_592 ?_
  rw [show nI (6 * u) + 2 = nI (6 * u + 2) from nI_add ..]
  refine va_sld hx hb hX hbl hbA hS (vp_in_nI (show 6 * u + 2 < L by omega) (by omega)) dL_law_593 ?_
  rw [nI_clamp (show 6 * u + 2 < 2 ^ 31 by omega)]
  refine lv_aload_n hx hb dL_law_594 rfl (lv_at hl 5 rfl) ?_
  refine lv_iload hx hb dL_law_595 (lv_at hl 1 rfl) ?_
  refine lv_iconst (v := 3) hx hb dL_law_597 (by decide) ?_
  refine lv_iadd hx hb dL_law_598 ?_
  rw [show nI (6 * u) + 3 = nI (6 * u + 3) from nI_add ..]
  refine va_sld hx hb hX hbl hbA hS (vp_in_nI (show 6 * u + 3 < L by omega) (by omega)) dL_law_599 ?_
  rw [nI_clamp (show 6 * u + 3 < 2 ^ 31 by omega)]
  refine lv_aload_n hx hb dL_law_600 rfl (lv_at hl 5 rfl) ?_
  refine lv_iload hx hb dL_law_601 (lv_at hl 1 rfl) ?_
  refine lv_iconst (v := 4) hx hb dL_law_603 (by decide) ?_
  refine lv_iadd hx hb dL_law_604 ?_
  rw [show nI (6 * u) + 4 = nI (6 * u + 4) from nI_add ..]
  refine va_sld hx hb hX hbl hbA hS (vp_in_nI (show 6 * u + 4 < L by omega) (by omega)) dL_law_605 ?_
  rw [nI_clamp (show 6 * u + 4 < 2 ^ 31 by omega)]
  refine lv_aload_n hx hb dL_law_606 rfl (lv_at hl 5 rfl) ?_
  refine lv_iload hx hb dL_law_607 (lv_at hl 1 rfl) ?_
  refine lv_iconst (v := 5) hx hb dL_law_609 (by decide) ?_
  refine lv_iadd hx hb dL_law_610 ?_
  rw [show nI (6 * u) + 5 = nI (6 * u + 5) from nI_add ..]
  refine va_sld hx hb hX hbl hbA hS (vp_in_nI (show 6 * u + 5 < L by omega) (by omega)) dL_law_611 ?_
  rw [nI_clamp (show 6 * u + 5 < 2 ^ 31 by omega)]
  refine g_V (k := 5) F htw hB hS hP (17) (by decide) rfl rfl (c_M_insert G ha hR (xs (6 * u + 1)) (xs (6 * u + 2)) (xs (6 * u + 3)) (xs (6 * u + 4)) (xs (6 * u + 5))) k3_30 k3_31 k3_32 k1_5 k3_33 (by decide +kernel) rfl rfl ⟨Nat.le_of_ble_eq_true rfl, Nat.le_of_ble_eq_true rfl⟩ rfl hl.1 rfl (Nat.le_of_ble_eq_true rfl) dL_law_612 ⟨hc, hs⟩ (fun en1 H locs he hP hS => ?_)
  obtain ⟨M, rfl, h00, hR⟩ := he
  refine lv_istore hx hb dL_law_615 hl (by decide) rfl (fun ls hl => ?_)
  have hl : lv_has ls 8 [(6, .int _), (5, .int _), (4, .int _), (3, .ref _), (2, .ref _), (1, .ref _), (0, .ref _)] := hl
  refine lv_aload_n hx hb dL_law_617 rfl (lv_at hl 4 rfl) ?_
  refine g_V (k := 0) F htw hB hS hP (17) (by decide) rfl rfl (c_M_thrown) k2_230 k2_231 k2_232 k1_5 k2_233 (by decide +kernel) rfl rfl ⟨Nat.le_of_ble_eq_true rfl, Nat.le_of_ble_eq_true rfl⟩ rfl hl.1 rfl (Nat.le_of_ble_eq_true rfl) dL_law_618 ⟨hc, hs⟩ (fun en1 H locs he hP hS => ?_)
  obtain rfl := he
  rw [h00]
  refine lv_iload hx hb dL_law_621 (lv_at hl 1 rfl) ?_
  refine lv_icmp_eq (tgt := 628) hx hb dL_law_623 (by decide) (fun _ => ?_) (fun hc => absurd rfl hc)
  refine lv_iload hx hb dL_law_628 (lv_at hl 1 rfl) ?_
  refine lv_if_ne (tgt := 645) hx hb dL_law_630 (by decide) (fun hz0 => ?_) (fun hz0 => ?_)
  · refine lv_goto (tgt := 1890) hx hb dL_law_645 (by decide) ?_
    have hl : lv_has ls 8 [(4, .int (nI (6 * u))), (3, .ref (ad 24)), (2, .ref (ad 17)), (1, .ref (ad 0)), (0, .ref b)] := lv_sub hl [2, 3, 4, 5, 6] rfl
    exact kk _ _ _ _ _ _ _ _ _ (k_insert hA (xs (6 * u + 1)) (xs (6 * u + 2)) (xs (6 * u + 3)) (xs (6 * u + 4)) (xs (6 * u + 5))) hC hR hl hP hS
  · rw [show (0 : Int32) = nI 0 from rfl, nI_eq (show c_insert a (xs (6 * u + 1)) (xs (6 * u + 2)) (xs (6 * u + 3)) (xs (6 * u + 4)) (xs (6 * u + 5)) < 2 ^ 31 by omega) (by decide)] at hz0
    have hO := hO hz0
    refine lv_aload_n hx hb dL_law_633 rfl (lv_at hl 3 rfl) ?_
    refine lv_iconst (v := 0) hx hb dL_law_634 (by decide) ?_
    refine g_lald F hK hP (24) (by decide) 3 rfl rfl (vp_in_nI (n := 0) (N := 1) (by decide) (by decide)) dL_law_635 ?_
    rw [show o (Int32.toNatClampNeg 0) = _ from hO]
    refine lv_iload hx hb dL_law_636 (lv_at hl 0 rfl) ?_
    refine lv_i2l hx hb dL_law_638 rfl ?_
    refine W.lcmp hx hb dL_law_639 ?_
    refine lv_if_eq (tgt := 645) hx hb dL_law_640 (by decide) (fun _ => ?_) (fun hc => absurd (by rw [lg_cmp_eq, if_pos hz0]) hc)
    refine lv_goto (tgt := 1890) hx hb dL_law_645 (by decide) ?_
    have hl : lv_has ls 8 [(4, .int (nI (6 * u))), (3, .ref (ad 24)), (2, .ref (ad 17)), (1, .ref (ad 0)), (0, .ref b)] := lv_sub hl [2, 3, 4, 5, 6] rfl
    exact kk _ _ _ _ _ _ _ _ _ (k_insert hA (xs (6 * u + 1)) (xs (6 * u + 2)) (xs (6 * u + 3)) (xs (6 * u + 4)) (xs (6 * u + 5))) hC hR hl hP hS
set_option maxHeartbeats 4000000 in
set_option maxRecDepth 100000 in
theorem law_delete (hst : l.stackTraces = false) (F : CallFix p m c code 8 s #[Value.ref b] tws "PairedTextsLaw") (htw : tw D cI cZ cT cJ base s) (hB : base ≤ s.heap.size) (G : gGeo ad 25 base) (hX : va_X b L xs s s.heap) (hbl : b < s.heap.size) (hbA : ¬ gA base b) (hL : L ≤ 3072) (hu : 6 * u + 6 ≤ L) (hA : aok a) (hC : RepC pi dr S a) (hR : RepM M a) (hl : lv_has ls 8 [(4, .int (nI (6 * u))), (3, .ref (ad 24)), (2, .ref (ad 17)), (1, .ref (ad 0)), (0, .ref b)]) (hP : va_P D cl (gw ad (en ad cI cZ cT cJ pi dr S M o) 25) H) (hS : va_S (gA base) s.heap H locs) (hc : cells + 1 ≤ 601024) (hs : slots + 6 ≤ 7293034)
    (kk : ∀ (pi : Nat → Nat) (dr : Nat) (S M : Nat → Nat → Int32) (o : Nat → Int64) (a : Ab) (ls : Array Slot) (H : Heap) (locs : List Loc), aok a → RepC pi dr S a → RepM M a → lv_has ls 8 [(4, .int (nI (6 * u))), (3, .ref (ad 24)), (2, .ref (ad 17)), (1, .ref (ad 0)), (0, .ref b)] → va_P D cl (gw ad (en ad cI cZ cT cJ pi dr S M o) 25) H → va_S (gA base) s.heap H locs → W p l e room_1 s m #[Value.ref b] below meth c H locs (cells + 1) (slots + 6) Q (F0 m 1890 ls [])) : W p l e room_1 s m #[Value.ref b] below meth c H locs cells slots Q (F0 m 648 ls []) := by
  have hx := F.1
  have hb := F.2.1
  have hown := F.2.2.2.1
  have hts := F.2.2.2.2
  have hK := htw.1
  have ha := hA.ok
  have hK3 : c_delete a (xs (6 * u + 1)) (xs (6 * u + 2)) (xs (6 * u + 3)) ≤ 3 := by unfold c_delete; (repeat' split) <;> decide
  refine lv_aload_n hx hb dL_law_648 rfl (lv_at hl 3 rfl) ?_
  refine lv_aload_n hx hb dL_law_649 rfl (lv_at hl 4 rfl) ?_
  refine lv_iload hx hb dL_law_650 (lv_at hl 0 rfl) ?_
  refine lv_iconst (v := 1) hx hb dL_law_652 (by decide) ?_
  refine lv_iadd hx hb dL_law_653 ?_
  rw [show nI (6 * u) + 1 = nI (6 * u + 1) from nI_add ..]
  refine va_sld hx hb hX hbl hbA hS (vp_in_nI (show 6 * u + 1 < L by omega) (by omega)) dL_law_654 ?_
  rw [nI_clamp (show 6 * u + 1 < 2 ^ 31 by omega)]
  refine lv_aload_n hx hb dL_law_655 rfl (lv_at hl 4 rfl) ?_
  refine lv_iload hx hb dL_law_656 (lv_at hl 0 rfl) ?_
  refine lv_iconst (v := 2) hx hb dL_law_658 (by decide) ?_
  refine lv_iadd hx hb dL_law_659 ?_
  rw [show nI (6 * u) + 2 = nI (6 * u + 2) from nI_add ..]
  refine va_sld hx hb hX hbl hbA hS (vp_in_nI (show 6 * u + 2 < L by omega) (by omega)) dL_law_660 ?_
  rw [nI_clamp (show 6 * u + 2 < 2 ^ 31 by omega)]
  refine lv_aload_n hx hb dL_law_661 rfl (lv_at hl 4 rfl) ?_
  refine lv_iload hx hb dL_law_662 (lv_at hl 0 rfl) ?_
  refine lv_iconst (v := 3) hx hb dL_law_664 (by decide) ?_
  refine lv_iadd hx hb dL_law_665 ?_
  rw [show nI (6 * u) + 3 = nI (6 * u + 3) from nI_add ..]
  refine va_sld hx hb hX hbl hbA hS (vp_in_nI (show 6 * u + 3 < L by omega) (by omega)) dL_law_666 ?_
  rw [nI_clamp (show 6 * u + 3 < 2 ^ 31 by omega)]
  refine lv_aload_n hx hb dL_law_667 rfl (lv_at hl 1 rfl) ?_
  refine g_SH (k := 5) F htw hB hS hP (c_L_delete hst G ha hC (xs (6 * u + 1)) (xs (6 * u + 2)) (xs (6 * u + 3))) k2_37 k2_38 k1_0 k2_39 (by decide +kernel) rfl rfl ⟨Nat.le_of_ble_eq_true rfl, Nat.le_of_ble_eq_true rfl⟩ rfl hl.1 rfl (Nat.le_of_ble_eq_true rfl) dL_law_668 ⟨hc, hs⟩ (fun en1 H locs he hP hS => ?_)
  obtain ⟨pi, dr, S, o, rfl, hC, hO⟩ := he
  refine lv_istore hx hb dL_law_671 hl (by decide) rfl (fun ls hl => ?_)
  have hl : lv_has ls 8 [(5, .int _), (4, .int _), (3, .ref _), (2, .ref _), (1, .ref _), (0, .ref _)] := hl
  refine lv_aload_n hx hb dL_law_673 rfl (lv_at hl 3 rfl) ?_
  refine lv_aload_n hx hb dL_law_674 rfl (lv_at hl 5 rfl) ?_
  refine lv_iload hx hb dL_law_675 (lv_at hl 1 rfl) ?_
  refine lv_iconst (v := 1) hx hb dL_law_677 (by decide) ?_
  refine lv_iadd hx hb dL_law_678 ?_
  rw [show nI (6 * u) + 1 = nI (6 * u + 1) from nI_add ..]
  refine va_sld hx hb hX hbl hbA hS (vp_in_nI (show 6 * u + 1 < L by omega) (by omega)) dL_law_679 ?_
  rw [nI_clamp (show 6 * u + 1 < 2 ^ 31 by omega)]
  refine lv_aload_n hx hb dL_law_680 rfl (lv_at hl 5 rfl) ?_
  refine lv_iload hx hb dL_law_681 (lv_at hl 1 rfl) ?_
  refine lv_iconst (v := 2) hx hb dL_law_683 (by decide) ?_
  refine lv_iadd hx hb dL_law_684 ?_
  rw [show nI (6 * u) + 2 = nI (6 * u + 2) from nI_add ..]
  refine va_sld hx hb hX hbl hbA hS (vp_in_nI (show 6 * u + 2 < L by omega) (by omega)) dL_law_685 ?_
  rw [nI_clamp (show 6 * u + 2 < 2 ^ 31 by omega)]
  refine lv_aload_n hx hb dL_law_686 rfl (lv_at hl 5 rfl) ?_
  refine lv_iload hx hb dL_law_687 (lv_at hl 1 rfl) ?_
  refine lv_iconst (v := 3) hx hb dL_law_689 (by decide) ?_
  refine lv_iadd hx hb dL_law_690 ?_
  rw [show nI (6 * u) + 3 = nI (6 * u + 3) from nI_add ..]
  refine va_sld hx hb hX hbl hbA hS (vp_in_nI (show 6 * u + 3 < L by omega) (by omega)) dL_law_691 ?_
  rw [nI_clamp (show 6 * u + 3 < 2 ^ 31 by omega)]
  refine g_V (k := 3) F htw hB hS hP (17) (by decide) rfl rfl (c_M_delete G ha hR (xs (6 * u + 1)) (xs (6 * u + 2)) (xs (6 * u + 3))) k3_34 k3_35 k3_36 k1_5 k3_37 (by decide +kernel) rfl rfl ⟨Nat.le_of_ble_eq_true rfl, Nat.le_of_ble_eq_true rfl⟩ rfl hl.1 rfl (Nat.le_of_ble_eq_true rfl) dL_law_692 ⟨hc, hs⟩ (fun en1 H locs he hP hS => ?_)
  obtain ⟨M, rfl, h00, hR⟩ := he
  refine lv_istore hx hb dL_law_695 hl (by decide) rfl (fun ls hl => ?_)
  have hl : lv_has ls 8 [(6, .int _), (5, .int _), (4, .int _), (3, .ref _), (2, .ref _), (1, .ref _), (0, .ref _)] := hl
  refine lv_aload_n hx hb dL_law_697 rfl (lv_at hl 4 rfl) ?_
  refine g_V (k := 0) F htw hB hS hP (17) (by decide) rfl rfl (c_M_thrown) k2_230 k2_231 k2_232 k1_5 k2_233 (by decide +kernel) rfl rfl ⟨Nat.le_of_ble_eq_true rfl, Nat.le_of_ble_eq_true rfl⟩ rfl hl.1 rfl (Nat.le_of_ble_eq_true rfl) dL_law_698 ⟨hc, hs⟩ (fun en1 H locs he hP hS => ?_)
  obtain rfl := he
  rw [h00]
  refine lv_iload hx hb dL_law_701 (lv_at hl 1 rfl) ?_
  refine lv_icmp_eq (tgt := 708) hx hb dL_law_703 (by decide) (fun _ => ?_) (fun hc => absurd rfl hc)
  refine lv_iload hx hb dL_law_708 (lv_at hl 1 rfl) ?_
  refine lv_if_ne (tgt := 725) hx hb dL_law_710 (by decide) (fun hz0 => ?_) (fun hz0 => ?_)
  · refine lv_goto (tgt := 1890) hx hb dL_law_725 (by decide) ?_
    have hl : lv_has ls 8 [(4, .int (nI (6 * u))), (3, .ref (ad 24)), (2, .ref (ad 17)), (1, .ref (ad 0)), (0, .ref b)] := lv_sub hl [2, 3, 4, 5, 6] rfl
    exact kk _ _ _ _ _ _ _ _ _ (k_delete hA (xs (6 * u + 1)) (xs (6 * u + 2)) (xs (6 * u + 3))) hC hR hl hP hS
  · rw [show (0 : Int32) = nI 0 from rfl, nI_eq (show c_delete a (xs (6 * u + 1)) (xs (6 * u + 2)) (xs (6 * u + 3)) < 2 ^ 31 by omega) (by decide)] at hz0
    have hO := hO hz0
    refine lv_aload_n hx hb dL_law_713 rfl (lv_at hl 3 rfl) ?_
    refine lv_iconst (v := 0) hx hb dL_law_714 (by decide) ?_
    refine g_lald F hK hP (24) (by decide) 3 rfl rfl (vp_in_nI (n := 0) (N := 1) (by decide) (by decide)) dL_law_715 ?_
    rw [show o (Int32.toNatClampNeg 0) = _ from hO]
    refine lv_iload hx hb dL_law_716 (lv_at hl 0 rfl) ?_
    refine lv_i2l hx hb dL_law_718 rfl ?_
    refine W.lcmp hx hb dL_law_719 ?_
    refine lv_if_eq (tgt := 725) hx hb dL_law_720 (by decide) (fun _ => ?_) (fun hc => absurd (by rw [lg_cmp_eq, if_pos hz0]) hc)
    refine lv_goto (tgt := 1890) hx hb dL_law_725 (by decide) ?_
    have hl : lv_has ls 8 [(4, .int (nI (6 * u))), (3, .ref (ad 24)), (2, .ref (ad 17)), (1, .ref (ad 0)), (0, .ref b)] := lv_sub hl [2, 3, 4, 5, 6] rfl
    exact kk _ _ _ _ _ _ _ _ _ (k_delete hA (xs (6 * u + 1)) (xs (6 * u + 2)) (xs (6 * u + 3))) hC hR hl hP hS
set_option maxHeartbeats 4000000 in
set_option maxRecDepth 100000 in
theorem law_move (hst : l.stackTraces = false) (F : CallFix p m c code 8 s #[Value.ref b] tws "PairedTextsLaw") (htw : tw D cI cZ cT cJ base s) (hB : base ≤ s.heap.size) (G : gGeo ad 25 base) (hX : va_X b L xs s s.heap) (hbl : b < s.heap.size) (hbA : ¬ gA base b) (hL : L ≤ 3072) (hu : 6 * u + 6 ≤ L) (hA : aok a) (hC : RepC pi dr S a) (hR : RepM M a) (hl : lv_has ls 8 [(4, .int (nI (6 * u))), (3, .ref (ad 24)), (2, .ref (ad 17)), (1, .ref (ad 0)), (0, .ref b)]) (hP : va_P D cl (gw ad (en ad cI cZ cT cJ pi dr S M o) 25) H) (hS : va_S (gA base) s.heap H locs) (hc : cells + 1 ≤ 601024) (hs : slots + 6 ≤ 7293034)
    (kk : ∀ (pi : Nat → Nat) (dr : Nat) (S M : Nat → Nat → Int32) (o : Nat → Int64) (a : Ab) (ls : Array Slot) (H : Heap) (locs : List Loc), aok a → RepC pi dr S a → RepM M a → lv_has ls 8 [(4, .int (nI (6 * u))), (3, .ref (ad 24)), (2, .ref (ad 17)), (1, .ref (ad 0)), (0, .ref b)] → va_P D cl (gw ad (en ad cI cZ cT cJ pi dr S M o) 25) H → va_S (gA base) s.heap H locs → W p l e room_1 s m #[Value.ref b] below meth c H locs (cells + 1) (slots + 6) Q (F0 m 1890 ls [])) : W p l e room_1 s m #[Value.ref b] below meth c H locs cells slots Q (F0 m 728 ls []) := by
  have hx := F.1
  have hb := F.2.1
  have hown := F.2.2.2.1
  have hts := F.2.2.2.2
  have hK := htw.1
  have ha := hA.ok
  have hK3 : c_move a (xs (6 * u + 1)) (xs (6 * u + 2)) (xs (6 * u + 3)) (xs (6 * u + 4)) ≤ 3 := by unfold c_move; (repeat' split) <;> decide
  refine lv_aload_n hx hb dL_law_728 rfl (lv_at hl 3 rfl) ?_
  refine lv_aload_n hx hb dL_law_729 rfl (lv_at hl 4 rfl) ?_
  refine lv_iload hx hb dL_law_730 (lv_at hl 0 rfl) ?_
  refine lv_iconst (v := 1) hx hb dL_law_732 (by decide) ?_
  refine lv_iadd hx hb dL_law_733 ?_
  rw [show nI (6 * u) + 1 = nI (6 * u + 1) from nI_add ..]
  refine va_sld hx hb hX hbl hbA hS (vp_in_nI (show 6 * u + 1 < L by omega) (by omega)) dL_law_734 ?_
  rw [nI_clamp (show 6 * u + 1 < 2 ^ 31 by omega)]
  refine lv_aload_n hx hb dL_law_735 rfl (lv_at hl 4 rfl) ?_
  refine lv_iload hx hb dL_law_736 (lv_at hl 0 rfl) ?_
  refine lv_iconst (v := 2) hx hb dL_law_738 (by decide) ?_
  refine lv_iadd hx hb dL_law_739 ?_
  rw [show nI (6 * u) + 2 = nI (6 * u + 2) from nI_add ..]
  refine va_sld hx hb hX hbl hbA hS (vp_in_nI (show 6 * u + 2 < L by omega) (by omega)) dL_law_740 ?_
  rw [nI_clamp (show 6 * u + 2 < 2 ^ 31 by omega)]
  refine lv_aload_n hx hb dL_law_741 rfl (lv_at hl 4 rfl) ?_
  refine lv_iload hx hb dL_law_742 (lv_at hl 0 rfl) ?_
  refine lv_iconst (v := 3) hx hb dL_law_744 (by decide) ?_
  refine lv_iadd hx hb dL_law_745 ?_
  rw [show nI (6 * u) + 3 = nI (6 * u + 3) from nI_add ..]
  refine va_sld hx hb hX hbl hbA hS (vp_in_nI (show 6 * u + 3 < L by omega) (by omega)) dL_law_746 ?_
  rw [nI_clamp (show 6 * u + 3 < 2 ^ 31 by omega)]
  refine lv_aload_n hx hb dL_law_747 rfl (lv_at hl 4 rfl) ?_
  refine lv_iload hx hb dL_law_748 (lv_at hl 0 rfl) ?_
  refine lv_iconst (v := 4) hx hb dL_law_750 (by decide) ?_
  refine lv_iadd hx hb dL_law_751 ?_
  rw [show nI (6 * u) + 4 = nI (6 * u + 4) from nI_add ..]
  refine va_sld hx hb hX hbl hbA hS (vp_in_nI (show 6 * u + 4 < L by omega) (by omega)) dL_law_752 ?_
  rw [nI_clamp (show 6 * u + 4 < 2 ^ 31 by omega)]
  refine lv_aload_n hx hb dL_law_753 rfl (lv_at hl 1 rfl) ?_
  refine g_SH (k := 6) F htw hB hS hP (c_L_move hst G ha hC (xs (6 * u + 1)) (xs (6 * u + 2)) (xs (6 * u + 3)) (xs (6 * u + 4))) k2_44 k2_45 k1_0 k2_46 (by decide +kernel) rfl rfl ⟨Nat.le_of_ble_eq_true rfl, Nat.le_of_ble_eq_true rfl⟩ rfl hl.1 rfl (Nat.le_of_ble_eq_true rfl) dL_law_754 ⟨hc, hs⟩ (fun en1 H locs he hP hS => ?_)
  obtain ⟨pi, dr, S, o, rfl, hC, hO⟩ := he
  refine lv_istore hx hb dL_law_757 hl (by decide) rfl (fun ls hl => ?_)
  have hl : lv_has ls 8 [(5, .int _), (4, .int _), (3, .ref _), (2, .ref _), (1, .ref _), (0, .ref _)] := hl
  refine lv_aload_n hx hb dL_law_759 rfl (lv_at hl 3 rfl) ?_
  refine lv_aload_n hx hb dL_law_760 rfl (lv_at hl 5 rfl) ?_
  refine lv_iload hx hb dL_law_761 (lv_at hl 1 rfl) ?_
  refine lv_iconst (v := 1) hx hb dL_law_763 (by decide) ?_
  refine lv_iadd hx hb dL_law_764 ?_
  rw [show nI (6 * u) + 1 = nI (6 * u + 1) from nI_add ..]
  refine va_sld hx hb hX hbl hbA hS (vp_in_nI (show 6 * u + 1 < L by omega) (by omega)) dL_law_765 ?_
  rw [nI_clamp (show 6 * u + 1 < 2 ^ 31 by omega)]
  refine lv_aload_n hx hb dL_law_766 rfl (lv_at hl 5 rfl) ?_
  refine lv_iload hx hb dL_law_767 (lv_at hl 1 rfl) ?_
  refine lv_iconst (v := 2) hx hb dL_law_769 (by decide) ?_
  refine lv_iadd hx hb dL_law_770 ?_
  rw [show nI (6 * u) + 2 = nI (6 * u + 2) from nI_add ..]
  refine va_sld hx hb hX hbl hbA hS (vp_in_nI (show 6 * u + 2 < L by omega) (by omega)) dL_law_771 ?_
  rw [nI_clamp (show 6 * u + 2 < 2 ^ 31 by omega)]
  refine lv_aload_n hx hb dL_law_772 rfl (lv_at hl 5 rfl) ?_
  refine lv_iload hx hb dL_law_773 (lv_at hl 1 rfl) ?_
  refine lv_iconst (v := 3) hx hb dL_law_775 (by decide) ?_
  refine lv_iadd hx hb dL_law_776 ?_
  rw [show nI (6 * u) + 3 = nI (6 * u + 3) from nI_add ..]
  refine va_sld hx hb hX hbl hbA hS (vp_in_nI (show 6 * u + 3 < L by omega) (by omega)) dL_law_777 ?_
  rw [nI_clamp (show 6 * u + 3 < 2 ^ 31 by omega)]
  refine lv_aload_n hx hb dL_law_778 rfl (lv_at hl 5 rfl) ?_
  refine lv_iload hx hb dL_law_779 (lv_at hl 1 rfl) ?_
  refine lv_iconst (v := 4) hx hb dL_law_781 (by decide) ?_
  refine lv_iadd hx hb dL_law_782 ?_
  rw [show nI (6 * u) + 4 = nI (6 * u + 4) from nI_add ..]
  refine va_sld hx hb hX hbl hbA hS (vp_in_nI (show 6 * u + 4 < L by omega) (by omega)) dL_law_783 ?_
  rw [nI_clamp (show 6 * u + 4 < 2 ^ 31 by omega)]
  refine g_V (k := 4) F htw hB hS hP (17) (by decide) rfl rfl (c_M_move G ha hR (xs (6 * u + 1)) (xs (6 * u + 2)) (xs (6 * u + 3)) (xs (6 * u + 4))) k3_38 k3_39 k3_40 k1_5 k3_41 (by decide +kernel) rfl rfl ⟨Nat.le_of_ble_eq_true rfl, Nat.le_of_ble_eq_true rfl⟩ rfl hl.1 rfl (Nat.le_of_ble_eq_true rfl) dL_law_784 ⟨hc, hs⟩ (fun en1 H locs he hP hS => ?_)
  obtain ⟨M, rfl, h00, hR⟩ := he
  refine lv_istore hx hb dL_law_787 hl (by decide) rfl (fun ls hl => ?_)
  have hl : lv_has ls 8 [(6, .int _), (5, .int _), (4, .int _), (3, .ref _), (2, .ref _), (1, .ref _), (0, .ref _)] := hl
  refine lv_aload_n hx hb dL_law_789 rfl (lv_at hl 4 rfl) ?_
  refine g_V (k := 0) F htw hB hS hP (17) (by decide) rfl rfl (c_M_thrown) k2_230 k2_231 k2_232 k1_5 k2_233 (by decide +kernel) rfl rfl ⟨Nat.le_of_ble_eq_true rfl, Nat.le_of_ble_eq_true rfl⟩ rfl hl.1 rfl (Nat.le_of_ble_eq_true rfl) dL_law_790 ⟨hc, hs⟩ (fun en1 H locs he hP hS => ?_)
  obtain rfl := he
  rw [h00]
  refine lv_iload hx hb dL_law_793 (lv_at hl 1 rfl) ?_
  refine lv_icmp_eq (tgt := 800) hx hb dL_law_795 (by decide) (fun _ => ?_) (fun hc => absurd rfl hc)
  refine lv_iload hx hb dL_law_800 (lv_at hl 1 rfl) ?_
  refine lv_if_ne (tgt := 817) hx hb dL_law_802 (by decide) (fun hz0 => ?_) (fun hz0 => ?_)
  · refine lv_goto (tgt := 1890) hx hb dL_law_817 (by decide) ?_
    have hl : lv_has ls 8 [(4, .int (nI (6 * u))), (3, .ref (ad 24)), (2, .ref (ad 17)), (1, .ref (ad 0)), (0, .ref b)] := lv_sub hl [2, 3, 4, 5, 6] rfl
    exact kk _ _ _ _ _ _ _ _ _ (k_move hA (xs (6 * u + 1)) (xs (6 * u + 2)) (xs (6 * u + 3)) (xs (6 * u + 4))) hC hR hl hP hS
  · rw [show (0 : Int32) = nI 0 from rfl, nI_eq (show c_move a (xs (6 * u + 1)) (xs (6 * u + 2)) (xs (6 * u + 3)) (xs (6 * u + 4)) < 2 ^ 31 by omega) (by decide)] at hz0
    have hO := hO hz0
    refine lv_aload_n hx hb dL_law_805 rfl (lv_at hl 3 rfl) ?_
    refine lv_iconst (v := 0) hx hb dL_law_806 (by decide) ?_
    refine g_lald F hK hP (24) (by decide) 3 rfl rfl (vp_in_nI (n := 0) (N := 1) (by decide) (by decide)) dL_law_807 ?_
    rw [show o (Int32.toNatClampNeg 0) = _ from hO]
    refine lv_iload hx hb dL_law_808 (lv_at hl 0 rfl) ?_
    refine lv_i2l hx hb dL_law_810 rfl ?_
    refine W.lcmp hx hb dL_law_811 ?_
    refine lv_if_eq (tgt := 817) hx hb dL_law_812 (by decide) (fun _ => ?_) (fun hc => absurd (by rw [lg_cmp_eq, if_pos hz0]) hc)
    refine lv_goto (tgt := 1890) hx hb dL_law_817 (by decide) ?_
    have hl : lv_has ls 8 [(4, .int (nI (6 * u))), (3, .ref (ad 24)), (2, .ref (ad 17)), (1, .ref (ad 0)), (0, .ref b)] := lv_sub hl [2, 3, 4, 5, 6] rfl
    exact kk _ _ _ _ _ _ _ _ _ (k_move hA (xs (6 * u + 1)) (xs (6 * u + 2)) (xs (6 * u + 3)) (xs (6 * u + 4))) hC hR hl hP hS
set_option maxHeartbeats 4000000 in
set_option maxRecDepth 100000 in
theorem law_repeat (hst : l.stackTraces = false) (F : CallFix p m c code 8 s #[Value.ref b] tws "PairedTextsLaw") (htw : tw D cI cZ cT cJ base s) (hB : base ≤ s.heap.size) (G : gGeo ad 25 base) (hX : va_X b L xs s s.heap) (hbl : b < s.heap.size) (hbA : ¬ gA base b) (hL : L ≤ 3072) (hu : 6 * u + 6 ≤ L) (hA : aok a) (hC : RepC pi dr S a) (hR : RepM M a) (hl : lv_has ls 8 [(4, .int (nI (6 * u))), (3, .ref (ad 24)), (2, .ref (ad 17)), (1, .ref (ad 0)), (0, .ref b)]) (hP : va_P D cl (gw ad (en ad cI cZ cT cJ pi dr S M o) 25) H) (hS : va_S (gA base) s.heap H locs) (hc : cells + 1 ≤ 601024) (hs : slots + 6 ≤ 7293034)
    (kk : ∀ (pi : Nat → Nat) (dr : Nat) (S M : Nat → Nat → Int32) (o : Nat → Int64) (a : Ab) (ls : Array Slot) (H : Heap) (locs : List Loc), aok a → RepC pi dr S a → RepM M a → lv_has ls 8 [(4, .int (nI (6 * u))), (3, .ref (ad 24)), (2, .ref (ad 17)), (1, .ref (ad 0)), (0, .ref b)] → va_P D cl (gw ad (en ad cI cZ cT cJ pi dr S M o) 25) H → va_S (gA base) s.heap H locs → W p l e room_1 s m #[Value.ref b] below meth c H locs (cells + 1) (slots + 6) Q (F0 m 1890 ls [])) : W p l e room_1 s m #[Value.ref b] below meth c H locs cells slots Q (F0 m 820 ls []) := by
  have hx := F.1
  have hb := F.2.1
  have hown := F.2.2.2.1
  have hts := F.2.2.2.2
  have hK := htw.1
  have ha := hA.ok
  have hK3 : c_repeat a (xs (6 * u + 1)) (xs (6 * u + 2)) (xs (6 * u + 3)) (xs (6 * u + 4)) ≤ 3 := by unfold c_repeat; (repeat' split) <;> decide
  refine lv_aload_n hx hb dL_law_820 rfl (lv_at hl 3 rfl) ?_
  refine lv_aload_n hx hb dL_law_821 rfl (lv_at hl 4 rfl) ?_
  refine lv_iload hx hb dL_law_822 (lv_at hl 0 rfl) ?_
  refine lv_iconst (v := 1) hx hb dL_law_824 (by decide) ?_
  refine lv_iadd hx hb dL_law_825 ?_
  rw [show nI (6 * u) + 1 = nI (6 * u + 1) from nI_add ..]
  refine va_sld hx hb hX hbl hbA hS (vp_in_nI (show 6 * u + 1 < L by omega) (by omega)) dL_law_826 ?_
  rw [nI_clamp (show 6 * u + 1 < 2 ^ 31 by omega)]
  refine lv_aload_n hx hb dL_law_827 rfl (lv_at hl 4 rfl) ?_
  refine lv_iload hx hb dL_law_828 (lv_at hl 0 rfl) ?_
  refine lv_iconst (v := 2) hx hb dL_law_830 (by decide) ?_
  refine lv_iadd hx hb dL_law_831 ?_
  rw [show nI (6 * u) + 2 = nI (6 * u + 2) from nI_add ..]
  refine va_sld hx hb hX hbl hbA hS (vp_in_nI (show 6 * u + 2 < L by omega) (by omega)) dL_law_832 ?_
  rw [nI_clamp (show 6 * u + 2 < 2 ^ 31 by omega)]
  refine lv_aload_n hx hb dL_law_833 rfl (lv_at hl 4 rfl) ?_
  refine lv_iload hx hb dL_law_834 (lv_at hl 0 rfl) ?_
  refine lv_iconst (v := 3) hx hb dL_law_836 (by decide) ?_
  refine lv_iadd hx hb dL_law_837 ?_
  rw [show nI (6 * u) + 3 = nI (6 * u + 3) from nI_add ..]
  refine va_sld hx hb hX hbl hbA hS (vp_in_nI (show 6 * u + 3 < L by omega) (by omega)) dL_law_838 ?_
  rw [nI_clamp (show 6 * u + 3 < 2 ^ 31 by omega)]
  refine lv_aload_n hx hb dL_law_839 rfl (lv_at hl 4 rfl) ?_
  refine lv_iload hx hb dL_law_840 (lv_at hl 0 rfl) ?_
  refine lv_iconst (v := 4) hx hb dL_law_842 (by decide) ?_
  refine lv_iadd hx hb dL_law_843 ?_
  rw [show nI (6 * u) + 4 = nI (6 * u + 4) from nI_add ..]
  refine va_sld hx hb hX hbl hbA hS (vp_in_nI (show 6 * u + 4 < L by omega) (by omega)) dL_law_844 ?_
  rw [nI_clamp (show 6 * u + 4 < 2 ^ 31 by omega)]
  refine lv_aload_n hx hb dL_law_845 rfl (lv_at hl 1 rfl) ?_
  refine g_SH (k := 6) F htw hB hS hP (c_L_repeat hst G ha hC (xs (6 * u + 1)) (xs (6 * u + 2)) (xs (6 * u + 3)) (xs (6 * u + 4))) k2_51 k2_52 k1_0 k2_53 (by decide +kernel) rfl rfl ⟨Nat.le_of_ble_eq_true rfl, Nat.le_of_ble_eq_true rfl⟩ rfl hl.1 rfl (Nat.le_of_ble_eq_true rfl) dL_law_846 ⟨hc, hs⟩ (fun en1 H locs he hP hS => ?_)
  obtain ⟨pi, dr, S, o, rfl, hC, hO⟩ := he
  refine lv_istore hx hb dL_law_849 hl (by decide) rfl (fun ls hl => ?_)
  have hl : lv_has ls 8 [(5, .int _), (4, .int _), (3, .ref _), (2, .ref _), (1, .ref _), (0, .ref _)] := hl
  refine lv_aload_n hx hb dL_law_851 rfl (lv_at hl 3 rfl) ?_
  refine lv_aload_n hx hb dL_law_852 rfl (lv_at hl 5 rfl) ?_
  refine lv_iload hx hb dL_law_853 (lv_at hl 1 rfl) ?_
  refine lv_iconst (v := 1) hx hb dL_law_855 (by decide) ?_
  refine lv_iadd hx hb dL_law_856 ?_
  rw [show nI (6 * u) + 1 = nI (6 * u + 1) from nI_add ..]
  refine va_sld hx hb hX hbl hbA hS (vp_in_nI (show 6 * u + 1 < L by omega) (by omega)) dL_law_857 ?_
  rw [nI_clamp (show 6 * u + 1 < 2 ^ 31 by omega)]
  refine lv_aload_n hx hb dL_law_858 rfl (lv_at hl 5 rfl) ?_
  refine lv_iload hx hb dL_law_859 (lv_at hl 1 rfl) ?_
  refine lv_iconst (v := 2) hx hb dL_law_861 (by decide) ?_
  refine lv_iadd hx hb dL_law_862 ?_
  rw [show nI (6 * u) + 2 = nI (6 * u + 2) from nI_add ..]
  refine va_sld hx hb hX hbl hbA hS (vp_in_nI (show 6 * u + 2 < L by omega) (by omega)) dL_law_863 ?_
  rw [nI_clamp (show 6 * u + 2 < 2 ^ 31 by omega)]
  refine lv_aload_n hx hb dL_law_864 rfl (lv_at hl 5 rfl) ?_
  refine lv_iload hx hb dL_law_865 (lv_at hl 1 rfl) ?_
  refine lv_iconst (v := 3) hx hb dL_law_867 (by decide) ?_
  refine lv_iadd hx hb dL_law_868 ?_
  rw [show nI (6 * u) + 3 = nI (6 * u + 3) from nI_add ..]
  refine va_sld hx hb hX hbl hbA hS (vp_in_nI (show 6 * u + 3 < L by omega) (by omega)) dL_law_869 ?_
  rw [nI_clamp (show 6 * u + 3 < 2 ^ 31 by omega)]
  refine lv_aload_n hx hb dL_law_870 rfl (lv_at hl 5 rfl) ?_
  refine lv_iload hx hb dL_law_871 (lv_at hl 1 rfl) ?_
  refine lv_iconst (v := 4) hx hb dL_law_873 (by decide) ?_
  refine lv_iadd hx hb dL_law_874 ?_
  rw [show nI (6 * u) + 4 = nI (6 * u + 4) from nI_add ..]
  refine va_sld hx hb hX hbl hbA hS (vp_in_nI (show 6 * u + 4 < L by omega) (by omega)) dL_law_875 ?_
  rw [nI_clamp (show 6 * u + 4 < 2 ^ 31 by omega)]
  refine g_V (k := 4) F htw hB hS hP (17) (by decide) rfl rfl (c_M_repeat G ha hR (xs (6 * u + 1)) (xs (6 * u + 2)) (xs (6 * u + 3)) (xs (6 * u + 4))) k3_46 k3_47 k3_48 k1_5 k3_49 (by decide +kernel) rfl rfl ⟨Nat.le_of_ble_eq_true rfl, Nat.le_of_ble_eq_true rfl⟩ rfl hl.1 rfl (Nat.le_of_ble_eq_true rfl) dL_law_876 ⟨hc, hs⟩ (fun en1 H locs he hP hS => ?_)
  obtain ⟨M, rfl, h00, hR⟩ := he
  refine lv_istore hx hb dL_law_879 hl (by decide) rfl (fun ls hl => ?_)
  have hl : lv_has ls 8 [(6, .int _), (5, .int _), (4, .int _), (3, .ref _), (2, .ref _), (1, .ref _), (0, .ref _)] := hl
  refine lv_aload_n hx hb dL_law_881 rfl (lv_at hl 4 rfl) ?_
  refine g_V (k := 0) F htw hB hS hP (17) (by decide) rfl rfl (c_M_thrown) k2_230 k2_231 k2_232 k1_5 k2_233 (by decide +kernel) rfl rfl ⟨Nat.le_of_ble_eq_true rfl, Nat.le_of_ble_eq_true rfl⟩ rfl hl.1 rfl (Nat.le_of_ble_eq_true rfl) dL_law_882 ⟨hc, hs⟩ (fun en1 H locs he hP hS => ?_)
  obtain rfl := he
  rw [h00]
  refine lv_iload hx hb dL_law_885 (lv_at hl 1 rfl) ?_
  refine lv_icmp_eq (tgt := 892) hx hb dL_law_887 (by decide) (fun _ => ?_) (fun hc => absurd rfl hc)
  refine lv_iload hx hb dL_law_892 (lv_at hl 1 rfl) ?_
  refine lv_if_ne (tgt := 909) hx hb dL_law_894 (by decide) (fun hz0 => ?_) (fun hz0 => ?_)
  · refine lv_goto (tgt := 1890) hx hb dL_law_909 (by decide) ?_
    have hl : lv_has ls 8 [(4, .int (nI (6 * u))), (3, .ref (ad 24)), (2, .ref (ad 17)), (1, .ref (ad 0)), (0, .ref b)] := lv_sub hl [2, 3, 4, 5, 6] rfl
    exact kk _ _ _ _ _ _ _ _ _ (k_repeat hA (xs (6 * u + 1)) (xs (6 * u + 2)) (xs (6 * u + 3)) (xs (6 * u + 4))) hC hR hl hP hS
  · rw [show (0 : Int32) = nI 0 from rfl, nI_eq (show c_repeat a (xs (6 * u + 1)) (xs (6 * u + 2)) (xs (6 * u + 3)) (xs (6 * u + 4)) < 2 ^ 31 by omega) (by decide)] at hz0
    have hO := hO hz0
    refine lv_aload_n hx hb dL_law_897 rfl (lv_at hl 3 rfl) ?_
    refine lv_iconst (v := 0) hx hb dL_law_898 (by decide) ?_
    refine g_lald F hK hP (24) (by decide) 3 rfl rfl (vp_in_nI (n := 0) (N := 1) (by decide) (by decide)) dL_law_899 ?_
    rw [show o (Int32.toNatClampNeg 0) = _ from hO]
    refine lv_iload hx hb dL_law_900 (lv_at hl 0 rfl) ?_
    refine lv_i2l hx hb dL_law_902 rfl ?_
    refine W.lcmp hx hb dL_law_903 ?_
    refine lv_if_eq (tgt := 909) hx hb dL_law_904 (by decide) (fun _ => ?_) (fun hc => absurd (by rw [lg_cmp_eq, if_pos hz0]) hc)
    refine lv_goto (tgt := 1890) hx hb dL_law_909 (by decide) ?_
    have hl : lv_has ls 8 [(4, .int (nI (6 * u))), (3, .ref (ad 24)), (2, .ref (ad 17)), (1, .ref (ad 0)), (0, .ref b)] := lv_sub hl [2, 3, 4, 5, 6] rfl
    exact kk _ _ _ _ _ _ _ _ _ (k_repeat hA (xs (6 * u + 1)) (xs (6 * u + 2)) (xs (6 * u + 3)) (xs (6 * u + 4))) hC hR hl hP hS
set_option maxHeartbeats 4000000 in
set_option maxRecDepth 100000 in
theorem law_same (hst : l.stackTraces = false) (F : CallFix p m c code 8 s #[Value.ref b] tws "PairedTextsLaw") (htw : tw D cI cZ cT cJ base s) (hB : base ≤ s.heap.size) (G : gGeo ad 25 base) (hX : va_X b L xs s s.heap) (hbl : b < s.heap.size) (hbA : ¬ gA base b) (hL : L ≤ 3072) (hu : 6 * u + 6 ≤ L) (hA : aok a) (hC : RepC pi dr S a) (hR : RepM M a) (hl : lv_has ls 8 [(4, .int (nI (6 * u))), (3, .ref (ad 24)), (2, .ref (ad 17)), (1, .ref (ad 0)), (0, .ref b)]) (hP : va_P D cl (gw ad (en ad cI cZ cT cJ pi dr S M o) 25) H) (hS : va_S (gA base) s.heap H locs) (hc : cells + 1 ≤ 601024) (hs : slots + 6 ≤ 7293034)
    (kk : ∀ (pi : Nat → Nat) (dr : Nat) (S M : Nat → Nat → Int32) (o : Nat → Int64) (a : Ab) (ls : Array Slot) (H : Heap) (locs : List Loc), aok a → RepC pi dr S a → RepM M a → lv_has ls 8 [(4, .int (nI (6 * u))), (3, .ref (ad 24)), (2, .ref (ad 17)), (1, .ref (ad 0)), (0, .ref b)] → va_P D cl (gw ad (en ad cI cZ cT cJ pi dr S M o) 25) H → va_S (gA base) s.heap H locs → W p l e room_1 s m #[Value.ref b] below meth c H locs (cells + 1) (slots + 6) Q (F0 m 1890 ls [])) : W p l e room_1 s m #[Value.ref b] below meth c H locs cells slots Q (F0 m 912 ls []) := by
  have hx := F.1
  have hb := F.2.1
  have hown := F.2.2.2.1
  have hts := F.2.2.2.2
  have hK := htw.1
  have ha := hA.ok
  have hK3 : c_same a (xs (6 * u + 1)) (xs (6 * u + 2)) (xs (6 * u + 3)) (xs (6 * u + 4)) (xs (6 * u + 5)) ≤ 3 := by unfold c_same; (repeat' split) <;> decide
  refine lv_aload_n hx hb dL_law_912 rfl (lv_at hl 3 rfl) ?_
  refine lv_aload_n hx hb dL_law_913 rfl (lv_at hl 4 rfl) ?_
  refine lv_iload hx hb dL_law_914 (lv_at hl 0 rfl) ?_
  refine lv_iconst (v := 1) hx hb dL_law_916 (by decide) ?_
  refine lv_iadd hx hb dL_law_917 ?_
  rw [show nI (6 * u) + 1 = nI (6 * u + 1) from nI_add ..]
  refine va_sld hx hb hX hbl hbA hS (vp_in_nI (show 6 * u + 1 < L by omega) (by omega)) dL_law_918 ?_
  rw [nI_clamp (show 6 * u + 1 < 2 ^ 31 by omega)]
  refine lv_aload_n hx hb dL_law_919 rfl (lv_at hl 4 rfl) ?_
  refine lv_iload hx hb dL_law_920 (lv_at hl 0 rfl) ?_
  refine lv_iconst (v := 2) hx hb dL_law_922 (by decide) ?_
  refine lv_iadd hx hb dL_law_923 ?_
  rw [show nI (6 * u) + 2 = nI (6 * u + 2) from nI_add ..]
  refine va_sld hx hb hX hbl hbA hS (vp_in_nI (show 6 * u + 2 < L by omega) (by omega)) dL_law_924 ?_
  rw [nI_clamp (show 6 * u + 2 < 2 ^ 31 by omega)]
  refine lv_aload_n hx hb dL_law_925 rfl (lv_at hl 4 rfl) ?_
  refine lv_iload hx hb dL_law_926 (lv_at hl 0 rfl) ?_
  refine lv_iconst (v := 3) hx hb dL_law_928 (by decide) ?_
  refine lv_iadd hx hb dL_law_929 ?_
  rw [show nI (6 * u) + 3 = nI (6 * u + 3) from nI_add ..]
  refine va_sld hx hb hX hbl hbA hS (vp_in_nI (show 6 * u + 3 < L by omega) (by omega)) dL_law_930 ?_
  rw [nI_clamp (show 6 * u + 3 < 2 ^ 31 by omega)]
  refine lv_aload_n hx hb dL_law_931 rfl (lv_at hl 4 rfl) ?_
  refine lv_iload hx hb dL_law_932 (lv_at hl 0 rfl) ?_
  refine lv_iconst (v := 4) hx hb dL_law_934 (by decide) ?_
  refine lv_iadd hx hb dL_law_935 ?_
  rw [show nI (6 * u) + 4 = nI (6 * u + 4) from nI_add ..]
  refine va_sld hx hb hX hbl hbA hS (vp_in_nI (show 6 * u + 4 < L by omega) (by omega)) dL_law_936 ?_
  rw [nI_clamp (show 6 * u + 4 < 2 ^ 31 by omega)]
  refine lv_aload_n hx hb dL_law_937 rfl (lv_at hl 4 rfl) ?_
  refine lv_iload hx hb dL_law_938 (lv_at hl 0 rfl) ?_
  refine lv_iconst (v := 5) hx hb dL_law_940 (by decide) ?_
  refine lv_iadd hx hb dL_law_941 ?_
  rw [show nI (6 * u) + 5 = nI (6 * u + 5) from nI_add ..]
  refine va_sld hx hb hX hbl hbA hS (vp_in_nI (show 6 * u + 5 < L by omega) (by omega)) dL_law_942 ?_
  rw [nI_clamp (show 6 * u + 5 < 2 ^ 31 by omega)]
  refine lv_aload_n hx hb dL_law_943 rfl (lv_at hl 1 rfl) ?_
  refine g_SH (k := 7) F htw hB hS hP (c_L_same hst G ha hC (xs (6 * u + 1)) (xs (6 * u + 2)) (xs (6 * u + 3)) (xs (6 * u + 4)) (xs (6 * u + 5))) k2_58 k2_59 k1_0 k2_60 (by decide +kernel) rfl rfl ⟨Nat.le_of_ble_eq_true rfl, Nat.le_of_ble_eq_true rfl⟩ rfl hl.1 rfl (Nat.le_of_ble_eq_true rfl) dL_law_944 ⟨hc, hs⟩ (fun en1 H locs he hP hS => ?_)
  obtain ⟨pi, dr, S, o, rfl, hC, hO⟩ := he
  refine lv_istore hx hb dL_law_947 hl (by decide) rfl (fun ls hl => ?_)
  have hl : lv_has ls 8 [(5, .int _), (4, .int _), (3, .ref _), (2, .ref _), (1, .ref _), (0, .ref _)] := hl
  refine lv_aload_n hx hb dL_law_949 rfl (lv_at hl 3 rfl) ?_
  refine lv_aload_n hx hb dL_law_950 rfl (lv_at hl 5 rfl) ?_
  refine lv_iload hx hb dL_law_951 (lv_at hl 1 rfl) ?_
  refine lv_iconst (v := 1) hx hb dL_law_953 (by decide) ?_
  refine lv_iadd hx hb dL_law_954 ?_
  rw [show nI (6 * u) + 1 = nI (6 * u + 1) from nI_add ..]
  refine va_sld hx hb hX hbl hbA hS (vp_in_nI (show 6 * u + 1 < L by omega) (by omega)) dL_law_955 ?_
  rw [nI_clamp (show 6 * u + 1 < 2 ^ 31 by omega)]
  refine lv_aload_n hx hb dL_law_956 rfl (lv_at hl 5 rfl) ?_
  refine lv_iload hx hb dL_law_957 (lv_at hl 1 rfl) ?_
  refine lv_iconst (v := 2) hx hb dL_law_959 (by decide) ?_
  refine lv_iadd hx hb dL_law_960 ?_
  rw [show nI (6 * u) + 2 = nI (6 * u + 2) from nI_add ..]
  refine va_sld hx hb hX hbl hbA hS (vp_in_nI (show 6 * u + 2 < L by omega) (by omega)) dL_law_961 ?_
  rw [nI_clamp (show 6 * u + 2 < 2 ^ 31 by omega)]
  refine lv_aload_n hx hb dL_law_962 rfl (lv_at hl 5 rfl) ?_
  refine lv_iload hx hb dL_law_963 (lv_at hl 1 rfl) ?_
  refine lv_iconst (v := 3) hx hb dL_law_965 (by decide) ?_
  refine lv_iadd hx hb dL_law_966 ?_
  rw [show nI (6 * u) + 3 = nI (6 * u + 3) from nI_add ..]
  refine va_sld hx hb hX hbl hbA hS (vp_in_nI (show 6 * u + 3 < L by omega) (by omega)) dL_law_967 ?_
  rw [nI_clamp (show 6 * u + 3 < 2 ^ 31 by omega)]
  refine lv_aload_n hx hb dL_law_968 rfl (lv_at hl 5 rfl) ?_
  refine lv_iload hx hb dL_law_969 (lv_at hl 1 rfl) ?_
  refine lv_iconst (v := 4) hx hb dL_law_971 (by decide) ?_
  refine lv_iadd hx hb dL_law_972 ?_
  rw [show nI (6 * u) + 4 = nI (6 * u + 4) from nI_add ..]
  refine va_sld hx hb hX hbl hbA hS (vp_in_nI (show 6 * u + 4 < L by omega) (by omega)) dL_law_973 ?_
  rw [nI_clamp (show 6 * u + 4 < 2 ^ 31 by omega)]
  refine lv_aload_n hx hb dL_law_974 rfl (lv_at hl 5 rfl) ?_
  refine lv_iload hx hb dL_law_975 (lv_at hl 1 rfl) ?_
  refine lv_iconst (v := 5) hx hb dL_law_977 (by decide) ?_
  refine lv_iadd hx hb dL_law_978 ?_
  rw [show nI (6 * u) + 5 = nI (6 * u + 5) from nI_add ..]
  refine va_sld hx hb hX hbl hbA hS (vp_in_nI (show 6 * u + 5 < L by omega) (by omega)) dL_law_979 ?_
  rw [nI_clamp (show 6 * u + 5 < 2 ^ 31 by omega)]
  refine g_V (k := 5) F htw hB hS hP (17) (by decide) rfl rfl (c_M_same G ha hR (xs (6 * u + 1)) (xs (6 * u + 2)) (xs (6 * u + 3)) (xs (6 * u + 4)) (xs (6 * u + 5))) k3_51 k3_52 k3_53 k1_5 k3_54 (by decide +kernel) rfl rfl ⟨Nat.le_of_ble_eq_true rfl, Nat.le_of_ble_eq_true rfl⟩ rfl hl.1 rfl (Nat.le_of_ble_eq_true rfl) dL_law_980 ⟨hc, hs⟩ (fun en1 H locs he hP hS => ?_)
  obtain ⟨M, rfl, h00, hR⟩ := he
  refine lv_istore hx hb dL_law_983 hl (by decide) rfl (fun ls hl => ?_)
  have hl : lv_has ls 8 [(6, .int _), (5, .int _), (4, .int _), (3, .ref _), (2, .ref _), (1, .ref _), (0, .ref _)] := hl
  refine lv_aload_n hx hb dL_law_985 rfl (lv_at hl 4 rfl) ?_
  refine g_V (k := 0) F htw hB hS hP (17) (by decide) rfl rfl (c_M_thrown) k2_230 k2_231 k2_232 k1_5 k2_233 (by decide +kernel) rfl rfl ⟨Nat.le_of_ble_eq_true rfl, Nat.le_of_ble_eq_true rfl⟩ rfl hl.1 rfl (Nat.le_of_ble_eq_true rfl) dL_law_986 ⟨hc, hs⟩ (fun en1 H locs he hP hS => ?_)
  obtain rfl := he
  rw [h00]
  refine lv_iload hx hb dL_law_989 (lv_at hl 1 rfl) ?_
  refine lv_icmp_eq (tgt := 996) hx hb dL_law_991 (by decide) (fun _ => ?_) (fun hc => absurd rfl hc)
  refine lv_iload hx hb dL_law_996 (lv_at hl 1 rfl) ?_
  refine lv_if_ne (tgt := 1020) hx hb dL_law_998 (by decide) (fun hz0 => ?_) (fun hz0 => ?_)
  · refine lv_goto (tgt := 1890) hx hb dL_law_1020 (by decide) ?_
    have hl : lv_has ls 8 [(4, .int (nI (6 * u))), (3, .ref (ad 24)), (2, .ref (ad 17)), (1, .ref (ad 0)), (0, .ref b)] := lv_sub hl [2, 3, 4, 5, 6] rfl
    exact kk _ _ _ _ _ _ _ _ _ (k_same hA) hC hR hl hP hS
  · rw [show (0 : Int32) = nI 0 from rfl, nI_eq (show c_same a (xs (6 * u + 1)) (xs (6 * u + 2)) (xs (6 * u + 3)) (xs (6 * u + 4)) (xs (6 * u + 5)) < 2 ^ 31 by omega) (by decide)] at hz0
    have hO := hO hz0
    refine lv_aload_n hx hb dL_law_1001 rfl (lv_at hl 3 rfl) ?_
    refine lv_iconst (v := 0) hx hb dL_law_1002 (by decide) ?_
    refine g_lald F hK hP (24) (by decide) 3 rfl rfl (vp_in_nI (n := 0) (N := 1) (by decide) (by decide)) dL_law_1003 ?_
    rw [show o (Int32.toNatClampNeg 0) = _ from hO]
    by_cases hcp : ix (xs (6 * u + 5)) ≤ cpr a (ix (xs (6 * u + 1))) (ix (xs (6 * u + 2))) (ix (xs (6 * u + 3))) (ix (xs (6 * u + 4)))
    · have e1 : (if c_same a (xs (6 * u + 1)) (xs (6 * u + 2)) (xs (6 * u + 3)) (xs (6 * u + 4)) (xs (6 * u + 5)) = 0 then (if ix (xs (6 * u + 5)) ≤ cpr a (ix (xs (6 * u + 1))) (ix (xs (6 * u + 2))) (ix (xs (6 * u + 3))) (ix (xs (6 * u + 4))) then (1 : Int32) else 0) else 0) = 1 := by rw [if_pos hz0, if_pos hcp]
      refine lv_iload hx hb dL_law_1004 (lv_at hl 0 rfl) ?_
      refine lv_if_eq (tgt := 1013) hx hb dL_law_1006 (by decide) (fun hc => absurd hc (by rw [e1]; decide)) (fun _ => ?_)
      refine lv_lconst (v := 1) hx hb dL_law_1009 (by decide) ?_
      refine lv_goto (tgt := 1014) hx hb dL_law_1010 (by decide) ?_
      refine W.lcmp hx hb dL_law_1014 ?_
      refine lv_if_eq (tgt := 1020) hx hb dL_law_1015 (by decide) (fun _ => ?_) (fun hc => absurd (by rw [lg_cmp_eq, if_pos hcp]) hc)
      refine lv_goto (tgt := 1890) hx hb dL_law_1020 (by decide) ?_
      have hl : lv_has ls 8 [(4, .int (nI (6 * u))), (3, .ref (ad 24)), (2, .ref (ad 17)), (1, .ref (ad 0)), (0, .ref b)] := lv_sub hl [2, 3, 4, 5, 6] rfl
      exact kk _ _ _ _ _ _ _ _ _ (k_same hA) hC hR hl hP hS
    · have e1 : (if c_same a (xs (6 * u + 1)) (xs (6 * u + 2)) (xs (6 * u + 3)) (xs (6 * u + 4)) (xs (6 * u + 5)) = 0 then (if ix (xs (6 * u + 5)) ≤ cpr a (ix (xs (6 * u + 1))) (ix (xs (6 * u + 2))) (ix (xs (6 * u + 3))) (ix (xs (6 * u + 4))) then (1 : Int32) else 0) else 0) = 0 := by rw [if_pos hz0, if_neg hcp]
      refine lv_iload hx hb dL_law_1004 (lv_at hl 0 rfl) ?_
      refine lv_if_eq (tgt := 1013) hx hb dL_law_1006 (by decide) (fun _ => ?_) (fun hc => absurd e1 hc)
      refine lv_lconst (v := 0) hx hb dL_law_1013 (by decide) ?_
      refine W.lcmp hx hb dL_law_1014 ?_
      refine lv_if_eq (tgt := 1020) hx hb dL_law_1015 (by decide) (fun _ => ?_) (fun hc => absurd (by rw [lg_cmp_eq, if_neg hcp]) hc)
      refine lv_goto (tgt := 1890) hx hb dL_law_1020 (by decide) ?_
      have hl : lv_has ls 8 [(4, .int (nI (6 * u))), (3, .ref (ad 24)), (2, .ref (ad 17)), (1, .ref (ad 0)), (0, .ref b)] := lv_sub hl [2, 3, 4, 5, 6] rfl
      exact kk _ _ _ _ _ _ _ _ _ (k_same hA) hC hR hl hP hS
set_option maxHeartbeats 4000000 in
set_option maxRecDepth 100000 in
theorem law_prefix (hst : l.stackTraces = false) (F : CallFix p m c code 8 s #[Value.ref b] tws "PairedTextsLaw") (htw : tw D cI cZ cT cJ base s) (hB : base ≤ s.heap.size) (G : gGeo ad 25 base) (hX : va_X b L xs s s.heap) (hbl : b < s.heap.size) (hbA : ¬ gA base b) (hL : L ≤ 3072) (hu : 6 * u + 6 ≤ L) (hA : aok a) (hC : RepC pi dr S a) (hR : RepM M a) (hl : lv_has ls 8 [(4, .int (nI (6 * u))), (3, .ref (ad 24)), (2, .ref (ad 17)), (1, .ref (ad 0)), (0, .ref b)]) (hP : va_P D cl (gw ad (en ad cI cZ cT cJ pi dr S M o) 25) H) (hS : va_S (gA base) s.heap H locs) (hc : cells + 1 ≤ 601024) (hs : slots + 6 ≤ 7293034)
    (kk : ∀ (pi : Nat → Nat) (dr : Nat) (S M : Nat → Nat → Int32) (o : Nat → Int64) (a : Ab) (ls : Array Slot) (H : Heap) (locs : List Loc), aok a → RepC pi dr S a → RepM M a → lv_has ls 8 [(4, .int (nI (6 * u))), (3, .ref (ad 24)), (2, .ref (ad 17)), (1, .ref (ad 0)), (0, .ref b)] → va_P D cl (gw ad (en ad cI cZ cT cJ pi dr S M o) 25) H → va_S (gA base) s.heap H locs → W p l e room_1 s m #[Value.ref b] below meth c H locs (cells + 1) (slots + 6) Q (F0 m 1890 ls [])) : W p l e room_1 s m #[Value.ref b] below meth c H locs cells slots Q (F0 m 1023 ls []) := by
  have hx := F.1
  have hb := F.2.1
  have hown := F.2.2.2.1
  have hts := F.2.2.2.2
  have hK := htw.1
  have ha := hA.ok
  have hK3 : c_prefix a (xs (6 * u + 1)) (xs (6 * u + 2)) (xs (6 * u + 3)) (xs (6 * u + 4)) ≤ 3 := by unfold c_prefix; (repeat' split) <;> decide
  refine lv_aload_n hx hb dL_law_1023 rfl (lv_at hl 3 rfl) ?_
  refine lv_aload_n hx hb dL_law_1024 rfl (lv_at hl 4 rfl) ?_
  refine lv_iload hx hb dL_law_1025 (lv_at hl 0 rfl) ?_
  refine lv_iconst (v := 1) hx hb dL_law_1027 (by decide) ?_
  refine lv_iadd hx hb dL_law_1028 ?_
  rw [show nI (6 * u) + 1 = nI (6 * u + 1) from nI_add ..]
  refine va_sld hx hb hX hbl hbA hS (vp_in_nI (show 6 * u + 1 < L by omega) (by omega)) dL_law_1029 ?_
  rw [nI_clamp (show 6 * u + 1 < 2 ^ 31 by omega)]
  refine lv_aload_n hx hb dL_law_1030 rfl (lv_at hl 4 rfl) ?_
  refine lv_iload hx hb dL_law_1031 (lv_at hl 0 rfl) ?_
  refine lv_iconst (v := 2) hx hb dL_law_1033 (by decide) ?_
  refine lv_iadd hx hb dL_law_1034 ?_
  rw [show nI (6 * u) + 2 = nI (6 * u + 2) from nI_add ..]
  refine va_sld hx hb hX hbl hbA hS (vp_in_nI (show 6 * u + 2 < L by omega) (by omega)) dL_law_1035 ?_
  rw [nI_clamp (show 6 * u + 2 < 2 ^ 31 by omega)]
  refine lv_aload_n hx hb dL_law_1036 rfl (lv_at hl 4 rfl) ?_
  refine lv_iload hx hb dL_law_1037 (lv_at hl 0 rfl) ?_
  refine lv_iconst (v := 3) hx hb dL_law_1039 (by decide) ?_
  refine lv_iadd hx hb dL_law_1040 ?_
  rw [show nI (6 * u) + 3 = nI (6 * u + 3) from nI_add ..]
  refine va_sld hx hb hX hbl hbA hS (vp_in_nI (show 6 * u + 3 < L by omega) (by omega)) dL_law_1041 ?_
  rw [nI_clamp (show 6 * u + 3 < 2 ^ 31 by omega)]
  refine lv_aload_n hx hb dL_law_1042 rfl (lv_at hl 4 rfl) ?_
  refine lv_iload hx hb dL_law_1043 (lv_at hl 0 rfl) ?_
  refine lv_iconst (v := 4) hx hb dL_law_1045 (by decide) ?_
  refine lv_iadd hx hb dL_law_1046 ?_
  rw [show nI (6 * u) + 4 = nI (6 * u + 4) from nI_add ..]
  refine va_sld hx hb hX hbl hbA hS (vp_in_nI (show 6 * u + 4 < L by omega) (by omega)) dL_law_1047 ?_
  rw [nI_clamp (show 6 * u + 4 < 2 ^ 31 by omega)]
  refine lv_aload_n hx hb dL_law_1048 rfl (lv_at hl 1 rfl) ?_
  refine g_SH (k := 6) F htw hB hS hP (c_L_prefix hst G ha hC (xs (6 * u + 1)) (xs (6 * u + 2)) (xs (6 * u + 3)) (xs (6 * u + 4))) k2_71 k2_72 k1_0 k2_73 (by decide +kernel) rfl rfl ⟨Nat.le_of_ble_eq_true rfl, Nat.le_of_ble_eq_true rfl⟩ rfl hl.1 rfl (Nat.le_of_ble_eq_true rfl) dL_law_1049 ⟨hc, hs⟩ (fun en1 H locs he hP hS => ?_)
  obtain ⟨pi, dr, S, o, rfl, hC, hO⟩ := he
  refine lv_istore hx hb dL_law_1052 hl (by decide) rfl (fun ls hl => ?_)
  have hl : lv_has ls 8 [(5, .int _), (4, .int _), (3, .ref _), (2, .ref _), (1, .ref _), (0, .ref _)] := hl
  refine lv_aload_n hx hb dL_law_1054 rfl (lv_at hl 3 rfl) ?_
  refine lv_aload_n hx hb dL_law_1055 rfl (lv_at hl 5 rfl) ?_
  refine lv_iload hx hb dL_law_1056 (lv_at hl 1 rfl) ?_
  refine lv_iconst (v := 1) hx hb dL_law_1058 (by decide) ?_
  refine lv_iadd hx hb dL_law_1059 ?_
  rw [show nI (6 * u) + 1 = nI (6 * u + 1) from nI_add ..]
  refine va_sld hx hb hX hbl hbA hS (vp_in_nI (show 6 * u + 1 < L by omega) (by omega)) dL_law_1060 ?_
  rw [nI_clamp (show 6 * u + 1 < 2 ^ 31 by omega)]
  refine lv_aload_n hx hb dL_law_1061 rfl (lv_at hl 5 rfl) ?_
  refine lv_iload hx hb dL_law_1062 (lv_at hl 1 rfl) ?_
  refine lv_iconst (v := 2) hx hb dL_law_1064 (by decide) ?_
  refine lv_iadd hx hb dL_law_1065 ?_
  rw [show nI (6 * u) + 2 = nI (6 * u + 2) from nI_add ..]
  refine va_sld hx hb hX hbl hbA hS (vp_in_nI (show 6 * u + 2 < L by omega) (by omega)) dL_law_1066 ?_
  rw [nI_clamp (show 6 * u + 2 < 2 ^ 31 by omega)]
  refine lv_aload_n hx hb dL_law_1067 rfl (lv_at hl 5 rfl) ?_
  refine lv_iload hx hb dL_law_1068 (lv_at hl 1 rfl) ?_
  refine lv_iconst (v := 3) hx hb dL_law_1070 (by decide) ?_
  refine lv_iadd hx hb dL_law_1071 ?_
  rw [show nI (6 * u) + 3 = nI (6 * u + 3) from nI_add ..]
  refine va_sld hx hb hX hbl hbA hS (vp_in_nI (show 6 * u + 3 < L by omega) (by omega)) dL_law_1072 ?_
  rw [nI_clamp (show 6 * u + 3 < 2 ^ 31 by omega)]
  refine lv_aload_n hx hb dL_law_1073 rfl (lv_at hl 5 rfl) ?_
  refine lv_iload hx hb dL_law_1074 (lv_at hl 1 rfl) ?_
  refine lv_iconst (v := 4) hx hb dL_law_1076 (by decide) ?_
  refine lv_iadd hx hb dL_law_1077 ?_
  rw [show nI (6 * u) + 4 = nI (6 * u + 4) from nI_add ..]
  refine va_sld hx hb hX hbl hbA hS (vp_in_nI (show 6 * u + 4 < L by omega) (by omega)) dL_law_1078 ?_
  rw [nI_clamp (show 6 * u + 4 < 2 ^ 31 by omega)]
  refine g_V (k := 4) F htw hB hS hP (17) (by decide) rfl rfl (c_M_prefix G ha hR (xs (6 * u + 1)) (xs (6 * u + 2)) (xs (6 * u + 3)) (xs (6 * u + 4))) k3_59 k3_60 k3_61 k1_5 k3_62 (by decide +kernel) rfl rfl ⟨Nat.le_of_ble_eq_true rfl, Nat.le_of_ble_eq_true rfl⟩ rfl hl.1 rfl (Nat.le_of_ble_eq_true rfl) dL_law_1079 ⟨hc, hs⟩ (fun en1 H locs he hP hS => ?_)
  obtain ⟨M, rfl, h00, hR⟩ := he
  refine lv_istore hx hb dL_law_1082 hl (by decide) rfl (fun ls hl => ?_)
  have hl : lv_has ls 8 [(6, .int _), (5, .int _), (4, .int _), (3, .ref _), (2, .ref _), (1, .ref _), (0, .ref _)] := hl
  refine lv_aload_n hx hb dL_law_1084 rfl (lv_at hl 4 rfl) ?_
  refine g_V (k := 0) F htw hB hS hP (17) (by decide) rfl rfl (c_M_thrown) k2_230 k2_231 k2_232 k1_5 k2_233 (by decide +kernel) rfl rfl ⟨Nat.le_of_ble_eq_true rfl, Nat.le_of_ble_eq_true rfl⟩ rfl hl.1 rfl (Nat.le_of_ble_eq_true rfl) dL_law_1085 ⟨hc, hs⟩ (fun en1 H locs he hP hS => ?_)
  obtain rfl := he
  rw [h00]
  refine lv_iload hx hb dL_law_1088 (lv_at hl 1 rfl) ?_
  refine lv_icmp_eq (tgt := 1095) hx hb dL_law_1090 (by decide) (fun _ => ?_) (fun hc => absurd rfl hc)
  refine lv_iload hx hb dL_law_1095 (lv_at hl 1 rfl) ?_
  refine lv_if_ne (tgt := 1112) hx hb dL_law_1097 (by decide) (fun hz0 => ?_) (fun hz0 => ?_)
  · refine lv_goto (tgt := 1890) hx hb dL_law_1112 (by decide) ?_
    have hl : lv_has ls 8 [(4, .int (nI (6 * u))), (3, .ref (ad 24)), (2, .ref (ad 17)), (1, .ref (ad 0)), (0, .ref b)] := lv_sub hl [2, 3, 4, 5, 6] rfl
    exact kk _ _ _ _ _ _ _ _ _ (k_same hA) hC hR hl hP hS
  · rw [show (0 : Int32) = nI 0 from rfl, nI_eq (show c_prefix a (xs (6 * u + 1)) (xs (6 * u + 2)) (xs (6 * u + 3)) (xs (6 * u + 4)) < 2 ^ 31 by omega) (by decide)] at hz0
    have hO := hO hz0
    refine lv_aload_n hx hb dL_law_1100 rfl (lv_at hl 3 rfl) ?_
    refine lv_iconst (v := 0) hx hb dL_law_1101 (by decide) ?_
    refine g_lald F hK hP (24) (by decide) 3 rfl rfl (vp_in_nI (n := 0) (N := 1) (by decide) (by decide)) dL_law_1102 ?_
    rw [show o (Int32.toNatClampNeg 0) = _ from hO]
    refine lv_iload hx hb dL_law_1103 (lv_at hl 0 rfl) ?_
    refine lv_i2l hx hb dL_law_1105 rfl ?_
    refine W.lcmp hx hb dL_law_1106 ?_
    refine lv_if_eq (tgt := 1112) hx hb dL_law_1107 (by decide) (fun _ => ?_) (fun hc => absurd (by rw [lg_cmp_eq, if_pos hz0]) hc)
    refine lv_goto (tgt := 1890) hx hb dL_law_1112 (by decide) ?_
    have hl : lv_has ls 8 [(4, .int (nI (6 * u))), (3, .ref (ad 24)), (2, .ref (ad 17)), (1, .ref (ad 0)), (0, .ref b)] := lv_sub hl [2, 3, 4, 5, 6] rfl
    exact kk _ _ _ _ _ _ _ _ _ (k_same hA) hC hR hl hP hS
set_option maxHeartbeats 4000000 in
set_option maxRecDepth 100000 in
theorem law_order (hst : l.stackTraces = false) (F : CallFix p m c code 8 s #[Value.ref b] tws "PairedTextsLaw") (htw : tw D cI cZ cT cJ base s) (hB : base ≤ s.heap.size) (G : gGeo ad 25 base) (hX : va_X b L xs s s.heap) (hbl : b < s.heap.size) (hbA : ¬ gA base b) (hL : L ≤ 3072) (hu : 6 * u + 6 ≤ L) (hA : aok a) (hC : RepC pi dr S a) (hR : RepM M a) (hl : lv_has ls 8 [(4, .int (nI (6 * u))), (3, .ref (ad 24)), (2, .ref (ad 17)), (1, .ref (ad 0)), (0, .ref b)]) (hP : va_P D cl (gw ad (en ad cI cZ cT cJ pi dr S M o) 25) H) (hS : va_S (gA base) s.heap H locs) (hc : cells + 1 ≤ 601024) (hs : slots + 6 ≤ 7293034)
    (kk : ∀ (pi : Nat → Nat) (dr : Nat) (S M : Nat → Nat → Int32) (o : Nat → Int64) (a : Ab) (ls : Array Slot) (H : Heap) (locs : List Loc), aok a → RepC pi dr S a → RepM M a → lv_has ls 8 [(4, .int (nI (6 * u))), (3, .ref (ad 24)), (2, .ref (ad 17)), (1, .ref (ad 0)), (0, .ref b)] → va_P D cl (gw ad (en ad cI cZ cT cJ pi dr S M o) 25) H → va_S (gA base) s.heap H locs → W p l e room_1 s m #[Value.ref b] below meth c H locs (cells + 1) (slots + 6) Q (F0 m 1890 ls [])) : W p l e room_1 s m #[Value.ref b] below meth c H locs cells slots Q (F0 m 1115 ls []) := by
  have hx := F.1
  have hb := F.2.1
  have hown := F.2.2.2.1
  have hts := F.2.2.2.2
  have hK := htw.1
  have ha := hA.ok
  have hK3 : c_prefix a (xs (6 * u + 1)) (xs (6 * u + 2)) (xs (6 * u + 3)) (xs (6 * u + 4)) ≤ 3 := by unfold c_prefix; (repeat' split) <;> decide
  refine lv_aload_n hx hb dL_law_1115 rfl (lv_at hl 3 rfl) ?_
  refine lv_aload_n hx hb dL_law_1116 rfl (lv_at hl 4 rfl) ?_
  refine lv_iload hx hb dL_law_1117 (lv_at hl 0 rfl) ?_
  refine lv_iconst (v := 1) hx hb dL_law_1119 (by decide) ?_
  refine lv_iadd hx hb dL_law_1120 ?_
  rw [show nI (6 * u) + 1 = nI (6 * u + 1) from nI_add ..]
  refine va_sld hx hb hX hbl hbA hS (vp_in_nI (show 6 * u + 1 < L by omega) (by omega)) dL_law_1121 ?_
  rw [nI_clamp (show 6 * u + 1 < 2 ^ 31 by omega)]
  refine lv_aload_n hx hb dL_law_1122 rfl (lv_at hl 4 rfl) ?_
  refine lv_iload hx hb dL_law_1123 (lv_at hl 0 rfl) ?_
  refine lv_iconst (v := 2) hx hb dL_law_1125 (by decide) ?_
  refine lv_iadd hx hb dL_law_1126 ?_
  rw [show nI (6 * u) + 2 = nI (6 * u + 2) from nI_add ..]
  refine va_sld hx hb hX hbl hbA hS (vp_in_nI (show 6 * u + 2 < L by omega) (by omega)) dL_law_1127 ?_
  rw [nI_clamp (show 6 * u + 2 < 2 ^ 31 by omega)]
  refine lv_aload_n hx hb dL_law_1128 rfl (lv_at hl 4 rfl) ?_
  refine lv_iload hx hb dL_law_1129 (lv_at hl 0 rfl) ?_
  refine lv_iconst (v := 3) hx hb dL_law_1131 (by decide) ?_
  refine lv_iadd hx hb dL_law_1132 ?_
  rw [show nI (6 * u) + 3 = nI (6 * u + 3) from nI_add ..]
  refine va_sld hx hb hX hbl hbA hS (vp_in_nI (show 6 * u + 3 < L by omega) (by omega)) dL_law_1133 ?_
  rw [nI_clamp (show 6 * u + 3 < 2 ^ 31 by omega)]
  refine lv_aload_n hx hb dL_law_1134 rfl (lv_at hl 4 rfl) ?_
  refine lv_iload hx hb dL_law_1135 (lv_at hl 0 rfl) ?_
  refine lv_iconst (v := 4) hx hb dL_law_1137 (by decide) ?_
  refine lv_iadd hx hb dL_law_1138 ?_
  rw [show nI (6 * u) + 4 = nI (6 * u + 4) from nI_add ..]
  refine va_sld hx hb hX hbl hbA hS (vp_in_nI (show 6 * u + 4 < L by omega) (by omega)) dL_law_1139 ?_
  rw [nI_clamp (show 6 * u + 4 < 2 ^ 31 by omega)]
  refine lv_aload_n hx hb dL_law_1140 rfl (lv_at hl 1 rfl) ?_
  refine g_SH (k := 6) F htw hB hS hP (c_L_order hst G ha hC (xs (6 * u + 1)) (xs (6 * u + 2)) (xs (6 * u + 3)) (xs (6 * u + 4))) k2_78 k2_79 k1_0 k2_80 (by decide +kernel) rfl rfl ⟨Nat.le_of_ble_eq_true rfl, Nat.le_of_ble_eq_true rfl⟩ rfl hl.1 rfl (Nat.le_of_ble_eq_true rfl) dL_law_1141 ⟨hc, hs⟩ (fun en1 H locs he hP hS => ?_)
  obtain ⟨pi, dr, S, o, rfl, hC, hO⟩ := he
  refine lv_istore hx hb dL_law_1144 hl (by decide) rfl (fun ls hl => ?_)
  have hl : lv_has ls 8 [(5, .int _), (4, .int _), (3, .ref _), (2, .ref _), (1, .ref _), (0, .ref _)] := hl
  refine lv_aload_n hx hb dL_law_1146 rfl (lv_at hl 3 rfl) ?_
  refine lv_aload_n hx hb dL_law_1147 rfl (lv_at hl 5 rfl) ?_
  refine lv_iload hx hb dL_law_1148 (lv_at hl 1 rfl) ?_
  refine lv_iconst (v := 1) hx hb dL_law_1150 (by decide) ?_
  refine lv_iadd hx hb dL_law_1151 ?_
  rw [show nI (6 * u) + 1 = nI (6 * u + 1) from nI_add ..]
  refine va_sld hx hb hX hbl hbA hS (vp_in_nI (show 6 * u + 1 < L by omega) (by omega)) dL_law_1152 ?_
  rw [nI_clamp (show 6 * u + 1 < 2 ^ 31 by omega)]
  refine lv_aload_n hx hb dL_law_1153 rfl (lv_at hl 5 rfl) ?_
  refine lv_iload hx hb dL_law_1154 (lv_at hl 1 rfl) ?_
  refine lv_iconst (v := 2) hx hb dL_law_1156 (by decide) ?_
  refine lv_iadd hx hb dL_law_1157 ?_
  rw [show nI (6 * u) + 2 = nI (6 * u + 2) from nI_add ..]
  refine va_sld hx hb hX hbl hbA hS (vp_in_nI (show 6 * u + 2 < L by omega) (by omega)) dL_law_1158 ?_
  rw [nI_clamp (show 6 * u + 2 < 2 ^ 31 by omega)]
  refine lv_aload_n hx hb dL_law_1159 rfl (lv_at hl 5 rfl) ?_
  refine lv_iload hx hb dL_law_1160 (lv_at hl 1 rfl) ?_
  refine lv_iconst (v := 3) hx hb dL_law_1162 (by decide) ?_
  refine lv_iadd hx hb dL_law_1163 ?_
  rw [show nI (6 * u) + 3 = nI (6 * u + 3) from nI_add ..]
  refine va_sld hx hb hX hbl hbA hS (vp_in_nI (show 6 * u + 3 < L by omega) (by omega)) dL_law_1164 ?_
  rw [nI_clamp (show 6 * u + 3 < 2 ^ 31 by omega)]
  refine lv_aload_n hx hb dL_law_1165 rfl (lv_at hl 5 rfl) ?_
  refine lv_iload hx hb dL_law_1166 (lv_at hl 1 rfl) ?_
  refine lv_iconst (v := 4) hx hb dL_law_1168 (by decide) ?_
  refine lv_iadd hx hb dL_law_1169 ?_
  rw [show nI (6 * u) + 4 = nI (6 * u + 4) from nI_add ..]
  refine va_sld hx hb hX hbl hbA hS (vp_in_nI (show 6 * u + 4 < L by omega) (by omega)) dL_law_1170 ?_
  rw [nI_clamp (show 6 * u + 4 < 2 ^ 31 by omega)]
  refine g_V (k := 4) F htw hB hS hP (17) (by decide) rfl rfl (c_M_order G ha hR (xs (6 * u + 1)) (xs (6 * u + 2)) (xs (6 * u + 3)) (xs (6 * u + 4))) k3_66 k3_67 k3_68 k1_5 k3_69 (by decide +kernel) rfl rfl ⟨Nat.le_of_ble_eq_true rfl, Nat.le_of_ble_eq_true rfl⟩ rfl hl.1 rfl (Nat.le_of_ble_eq_true rfl) dL_law_1171 ⟨hc, hs⟩ (fun en1 H locs he hP hS => ?_)
  obtain ⟨M, rfl, h00, hR⟩ := he
  refine lv_istore hx hb dL_law_1174 hl (by decide) rfl (fun ls hl => ?_)
  have hl : lv_has ls 8 [(6, .int _), (5, .int _), (4, .int _), (3, .ref _), (2, .ref _), (1, .ref _), (0, .ref _)] := hl
  refine lv_aload_n hx hb dL_law_1176 rfl (lv_at hl 4 rfl) ?_
  refine g_V (k := 0) F htw hB hS hP (17) (by decide) rfl rfl (c_M_thrown) k2_230 k2_231 k2_232 k1_5 k2_233 (by decide +kernel) rfl rfl ⟨Nat.le_of_ble_eq_true rfl, Nat.le_of_ble_eq_true rfl⟩ rfl hl.1 rfl (Nat.le_of_ble_eq_true rfl) dL_law_1177 ⟨hc, hs⟩ (fun en1 H locs he hP hS => ?_)
  obtain rfl := he
  rw [h00]
  refine lv_iload hx hb dL_law_1180 (lv_at hl 1 rfl) ?_
  refine lv_icmp_eq (tgt := 1187) hx hb dL_law_1182 (by decide) (fun _ => ?_) (fun hc => absurd rfl hc)
  refine lv_iload hx hb dL_law_1187 (lv_at hl 1 rfl) ?_
  refine lv_if_ne (tgt := 1204) hx hb dL_law_1189 (by decide) (fun hz0 => ?_) (fun hz0 => ?_)
  · refine lv_goto (tgt := 1890) hx hb dL_law_1204 (by decide) ?_
    have hl : lv_has ls 8 [(4, .int (nI (6 * u))), (3, .ref (ad 24)), (2, .ref (ad 17)), (1, .ref (ad 0)), (0, .ref b)] := lv_sub hl [2, 3, 4, 5, 6] rfl
    exact kk _ _ _ _ _ _ _ _ _ (k_same hA) hC hR hl hP hS
  · rw [show (0 : Int32) = nI 0 from rfl, nI_eq (show c_prefix a (xs (6 * u + 1)) (xs (6 * u + 2)) (xs (6 * u + 3)) (xs (6 * u + 4)) < 2 ^ 31 by omega) (by decide)] at hz0
    have hO := hO hz0
    refine lv_aload_n hx hb dL_law_1192 rfl (lv_at hl 3 rfl) ?_
    refine lv_iconst (v := 0) hx hb dL_law_1193 (by decide) ?_
    refine g_lald F hK hP (24) (by decide) 3 rfl rfl (vp_in_nI (n := 0) (N := 1) (by decide) (by decide)) dL_law_1194 ?_
    rw [show o (Int32.toNatClampNeg 0) = _ from hO]
    refine lv_iload hx hb dL_law_1195 (lv_at hl 0 rfl) ?_
    refine lv_i2l hx hb dL_law_1197 rfl ?_
    refine W.lcmp hx hb dL_law_1198 ?_
    refine lv_if_eq (tgt := 1204) hx hb dL_law_1199 (by decide) (fun _ => ?_) (fun hc => absurd (by rw [lg_cmp_eq, if_pos hz0]) hc)
    refine lv_goto (tgt := 1890) hx hb dL_law_1204 (by decide) ?_
    have hl : lv_has ls 8 [(4, .int (nI (6 * u))), (3, .ref (ad 24)), (2, .ref (ad 17)), (1, .ref (ad 0)), (0, .ref b)] := lv_sub hl [2, 3, 4, 5, 6] rfl
    exact kk _ _ _ _ _ _ _ _ _ (k_same hA) hC hR hl hP hS
set_option maxHeartbeats 4000000 in
set_option maxRecDepth 100000 in
theorem law_name (hst : l.stackTraces = false) (F : CallFix p m c code 8 s #[Value.ref b] tws "PairedTextsLaw") (htw : tw D cI cZ cT cJ base s) (hB : base ≤ s.heap.size) (G : gGeo ad 25 base) (hX : va_X b L xs s s.heap) (hbl : b < s.heap.size) (hbA : ¬ gA base b) (hL : L ≤ 3072) (hu : 6 * u + 6 ≤ L) (hA : aok a) (hC : RepC pi dr S a) (hR : RepM M a) (hl : lv_has ls 8 [(4, .int (nI (6 * u))), (3, .ref (ad 24)), (2, .ref (ad 17)), (1, .ref (ad 0)), (0, .ref b)]) (hP : va_P D cl (gw ad (en ad cI cZ cT cJ pi dr S M o) 25) H) (hS : va_S (gA base) s.heap H locs) (hc : cells + 1 ≤ 601024) (hs : slots + 6 ≤ 7293034)
    (kk : ∀ (pi : Nat → Nat) (dr : Nat) (S M : Nat → Nat → Int32) (o : Nat → Int64) (a : Ab) (ls : Array Slot) (H : Heap) (locs : List Loc), aok a → RepC pi dr S a → RepM M a → lv_has ls 8 [(4, .int (nI (6 * u))), (3, .ref (ad 24)), (2, .ref (ad 17)), (1, .ref (ad 0)), (0, .ref b)] → va_P D cl (gw ad (en ad cI cZ cT cJ pi dr S M o) 25) H → va_S (gA base) s.heap H locs → W p l e room_1 s m #[Value.ref b] below meth c H locs (cells + 1) (slots + 6) Q (F0 m 1890 ls [])) : W p l e room_1 s m #[Value.ref b] below meth c H locs cells slots Q (F0 m 1207 ls []) := by
  have hx := F.1
  have hb := F.2.1
  have hown := F.2.2.2.1
  have hts := F.2.2.2.2
  have hK := htw.1
  have ha := hA.ok
  have hK3 : c_name a (xs (6 * u + 1)) (xs (6 * u + 2)) (xs (6 * u + 3)) ≤ 3 := by unfold c_name; (repeat' split) <;> decide
  refine lv_aload_n hx hb dL_law_1207 rfl (lv_at hl 3 rfl) ?_
  refine lv_aload_n hx hb dL_law_1208 rfl (lv_at hl 4 rfl) ?_
  refine lv_iload hx hb dL_law_1209 (lv_at hl 0 rfl) ?_
  refine lv_iconst (v := 1) hx hb dL_law_1211 (by decide) ?_
  refine lv_iadd hx hb dL_law_1212 ?_
  rw [show nI (6 * u) + 1 = nI (6 * u + 1) from nI_add ..]
  refine va_sld hx hb hX hbl hbA hS (vp_in_nI (show 6 * u + 1 < L by omega) (by omega)) dL_law_1213 ?_
  rw [nI_clamp (show 6 * u + 1 < 2 ^ 31 by omega)]
  refine lv_aload_n hx hb dL_law_1214 rfl (lv_at hl 4 rfl) ?_
  refine lv_iload hx hb dL_law_1215 (lv_at hl 0 rfl) ?_
  refine lv_iconst (v := 2) hx hb dL_law_1217 (by decide) ?_
  refine lv_iadd hx hb dL_law_1218 ?_
  rw [show nI (6 * u) + 2 = nI (6 * u + 2) from nI_add ..]
  refine va_sld hx hb hX hbl hbA hS (vp_in_nI (show 6 * u + 2 < L by omega) (by omega)) dL_law_1219 ?_
  rw [nI_clamp (show 6 * u + 2 < 2 ^ 31 by omega)]
  refine lv_aload_n hx hb dL_law_1220 rfl (lv_at hl 4 rfl) ?_
  refine lv_iload hx hb dL_law_1221 (lv_at hl 0 rfl) ?_
  refine lv_iconst (v := 3) hx hb dL_law_1223 (by decide) ?_
  refine lv_iadd hx hb dL_law_1224 ?_
  rw [show nI (6 * u) + 3 = nI (6 * u + 3) from nI_add ..]
  refine va_sld hx hb hX hbl hbA hS (vp_in_nI (show 6 * u + 3 < L by omega) (by omega)) dL_law_1225 ?_
  rw [nI_clamp (show 6 * u + 3 < 2 ^ 31 by omega)]
  refine lv_aload_n hx hb dL_law_1226 rfl (lv_at hl 1 rfl) ?_
  refine g_SH (k := 5) F htw hB hS hP (c_L_name hst G ha hC (xs (6 * u + 1)) (xs (6 * u + 2)) (xs (6 * u + 3))) k2_85 k2_86 k1_0 k2_87 (by decide +kernel) rfl rfl ⟨Nat.le_of_ble_eq_true rfl, Nat.le_of_ble_eq_true rfl⟩ rfl hl.1 rfl (Nat.le_of_ble_eq_true rfl) dL_law_1227 ⟨hc, hs⟩ (fun en1 H locs he hP hS => ?_)
  obtain ⟨pi, dr, S, o, rfl, hC, hO⟩ := he
  refine lv_istore hx hb dL_law_1230 hl (by decide) rfl (fun ls hl => ?_)
  have hl : lv_has ls 8 [(5, .int _), (4, .int _), (3, .ref _), (2, .ref _), (1, .ref _), (0, .ref _)] := hl
  refine lv_aload_n hx hb dL_law_1232 rfl (lv_at hl 3 rfl) ?_
  refine lv_aload_n hx hb dL_law_1233 rfl (lv_at hl 5 rfl) ?_
  refine lv_iload hx hb dL_law_1234 (lv_at hl 1 rfl) ?_
  refine lv_iconst (v := 1) hx hb dL_law_1236 (by decide) ?_
  refine lv_iadd hx hb dL_law_1237 ?_
  rw [show nI (6 * u) + 1 = nI (6 * u + 1) from nI_add ..]
  refine va_sld hx hb hX hbl hbA hS (vp_in_nI (show 6 * u + 1 < L by omega) (by omega)) dL_law_1238 ?_
  rw [nI_clamp (show 6 * u + 1 < 2 ^ 31 by omega)]
  refine lv_aload_n hx hb dL_law_1239 rfl (lv_at hl 5 rfl) ?_
  refine lv_iload hx hb dL_law_1240 (lv_at hl 1 rfl) ?_
  refine lv_iconst (v := 2) hx hb dL_law_1242 (by decide) ?_
  refine lv_iadd hx hb dL_law_1243 ?_
  rw [show nI (6 * u) + 2 = nI (6 * u + 2) from nI_add ..]
  refine va_sld hx hb hX hbl hbA hS (vp_in_nI (show 6 * u + 2 < L by omega) (by omega)) dL_law_1244 ?_
  rw [nI_clamp (show 6 * u + 2 < 2 ^ 31 by omega)]
  refine lv_aload_n hx hb dL_law_1245 rfl (lv_at hl 5 rfl) ?_
  refine lv_iload hx hb dL_law_1246 (lv_at hl 1 rfl) ?_
  refine lv_iconst (v := 3) hx hb dL_law_1248 (by decide) ?_
  refine lv_iadd hx hb dL_law_1249 ?_
  rw [show nI (6 * u) + 3 = nI (6 * u + 3) from nI_add ..]
  refine va_sld hx hb hX hbl hbA hS (vp_in_nI (show 6 * u + 3 < L by omega) (by omega)) dL_law_1250 ?_
  rw [nI_clamp (show 6 * u + 3 < 2 ^ 31 by omega)]
  refine g_V (k := 3) F htw hB hS hP (17) (by decide) rfl rfl (c_M_name G ha hR (xs (6 * u + 1)) (xs (6 * u + 2)) (xs (6 * u + 3))) k3_70 k3_71 k3_72 k1_5 k3_73 (by decide +kernel) rfl rfl ⟨Nat.le_of_ble_eq_true rfl, Nat.le_of_ble_eq_true rfl⟩ rfl hl.1 rfl (Nat.le_of_ble_eq_true rfl) dL_law_1251 ⟨hc, hs⟩ (fun en1 H locs he hP hS => ?_)
  obtain ⟨M, rfl, h00, hR⟩ := he
  refine lv_lstore hx hb dL_law_1254 hl (by decide) rfl (fun ls hl => ?_)
  have hl : lv_has ls 8 [(6, .long _), (5, .int _), (4, .int _), (3, .ref _), (2, .ref _), (1, .ref _), (0, .ref _)] := hl
  refine lv_aload_n hx hb dL_law_1256 rfl (lv_at hl 4 rfl) ?_
  refine g_V (k := 0) F htw hB hS hP (17) (by decide) rfl rfl (c_M_thrown) k2_230 k2_231 k2_232 k1_5 k2_233 (by decide +kernel) rfl rfl ⟨Nat.le_of_ble_eq_true rfl, Nat.le_of_ble_eq_true rfl⟩ rfl hl.1 rfl (Nat.le_of_ble_eq_true rfl) dL_law_1257 ⟨hc, hs⟩ (fun en1 H locs he hP hS => ?_)
  obtain rfl := he
  rw [h00]
  refine lv_iload hx hb dL_law_1260 (lv_at hl 1 rfl) ?_
  refine lv_icmp_eq (tgt := 1267) hx hb dL_law_1262 (by decide) (fun _ => ?_) (fun hc => absurd rfl hc)
  refine lv_iload hx hb dL_law_1267 (lv_at hl 1 rfl) ?_
  refine lv_if_ne (tgt := 1283) hx hb dL_law_1269 (by decide) (fun hz0 => ?_) (fun hz0 => ?_)
  · refine lv_goto (tgt := 1890) hx hb dL_law_1283 (by decide) ?_
    have hl : lv_has ls 8 [(4, .int (nI (6 * u))), (3, .ref (ad 24)), (2, .ref (ad 17)), (1, .ref (ad 0)), (0, .ref b)] := lv_sub hl [2, 3, 4, 5, 6] rfl
    exact kk _ _ _ _ _ _ _ _ _ (k_same hA) hC hR hl hP hS
  · rw [show (0 : Int32) = nI 0 from rfl, nI_eq (show c_name a (xs (6 * u + 1)) (xs (6 * u + 2)) (xs (6 * u + 3)) < 2 ^ 31 by omega) (by decide)] at hz0
    have hO := hO hz0
    refine lv_aload_n hx hb dL_law_1272 rfl (lv_at hl 3 rfl) ?_
    refine lv_iconst (v := 0) hx hb dL_law_1273 (by decide) ?_
    refine g_lald F hK hP (24) (by decide) 3 rfl rfl (vp_in_nI (n := 0) (N := 1) (by decide) (by decide)) dL_law_1274 ?_
    rw [show o (Int32.toNatClampNeg 0) = _ from hO]
    refine lv_lload hx hb dL_law_1275 (lv_at hl 0 rfl) ?_
    refine W.lcmp hx hb dL_law_1277 ?_
    refine lv_if_eq (tgt := 1283) hx hb dL_law_1278 (by decide) (fun _ => ?_) (fun hc => absurd (by rw [lg_cmp_eq, if_pos hz0]) hc)
    refine lv_goto (tgt := 1890) hx hb dL_law_1283 (by decide) ?_
    have hl : lv_has ls 8 [(4, .int (nI (6 * u))), (3, .ref (ad 24)), (2, .ref (ad 17)), (1, .ref (ad 0)), (0, .ref b)] := lv_sub hl [2, 3, 4, 5, 6] rfl
    exact kk _ _ _ _ _ _ _ _ _ (k_same hA) hC hR hl hP hS
set_option maxHeartbeats 4000000 in
set_option maxRecDepth 100000 in
theorem law_pattern (hst : l.stackTraces = false) (F : CallFix p m c code 8 s #[Value.ref b] tws "PairedTextsLaw") (htw : tw D cI cZ cT cJ base s) (hB : base ≤ s.heap.size) (G : gGeo ad 25 base) (hX : va_X b L xs s s.heap) (hbl : b < s.heap.size) (hbA : ¬ gA base b) (hL : L ≤ 3072) (hu : 6 * u + 6 ≤ L) (hA : aok a) (hC : RepC pi dr S a) (hR : RepM M a) (hl : lv_has ls 8 [(4, .int (nI (6 * u))), (3, .ref (ad 24)), (2, .ref (ad 17)), (1, .ref (ad 0)), (0, .ref b)]) (hP : va_P D cl (gw ad (en ad cI cZ cT cJ pi dr S M o) 25) H) (hS : va_S (gA base) s.heap H locs) (hc : cells + 1 ≤ 601024) (hs : slots + 6 ≤ 7293034)
    (kk : ∀ (pi : Nat → Nat) (dr : Nat) (S M : Nat → Nat → Int32) (o : Nat → Int64) (a : Ab) (ls : Array Slot) (H : Heap) (locs : List Loc), aok a → RepC pi dr S a → RepM M a → lv_has ls 8 [(4, .int (nI (6 * u))), (3, .ref (ad 24)), (2, .ref (ad 17)), (1, .ref (ad 0)), (0, .ref b)] → va_P D cl (gw ad (en ad cI cZ cT cJ pi dr S M o) 25) H → va_S (gA base) s.heap H locs → W p l e room_1 s m #[Value.ref b] below meth c H locs (cells + 1) (slots + 6) Q (F0 m 1890 ls [])) : W p l e room_1 s m #[Value.ref b] below meth c H locs cells slots Q (F0 m 1286 ls []) := by
  have hx := F.1
  have hb := F.2.1
  have hown := F.2.2.2.1
  have hts := F.2.2.2.2
  have hK := htw.1
  have ha := hA.ok
  have hK3 : c_pattern (xs (6 * u + 5)) ≤ 3 := by unfold c_pattern; (repeat' split) <;> decide
  refine lv_aload_n hx hb dL_law_1286 rfl (lv_at hl 3 rfl) ?_
  refine lv_aload_n hx hb dL_law_1287 rfl (lv_at hl 4 rfl) ?_
  refine lv_iload hx hb dL_law_1288 (lv_at hl 0 rfl) ?_
  refine lv_iconst (v := 1) hx hb dL_law_1290 (by decide) ?_
  refine lv_iadd hx hb dL_law_1291 ?_
  rw [show nI (6 * u) + 1 = nI (6 * u + 1) from nI_add ..]
  refine va_sld hx hb hX hbl hbA hS (vp_in_nI (show 6 * u + 1 < L by omega) (by omega)) dL_law_1292 ?_
  rw [nI_clamp (show 6 * u + 1 < 2 ^ 31 by omega)]
  refine lv_i2l hx hb dL_law_1293 rfl ?_
  refine lv_bipush (v := 32) hx hb dL_law_1294 (by decide) ?_
  refine lv_lshl hx hb dL_law_1296 rfl ?_
  refine lv_aload_n hx hb dL_law_1297 rfl (lv_at hl 4 rfl) ?_
  refine lv_iload hx hb dL_law_1298 (lv_at hl 0 rfl) ?_
  refine lv_iconst (v := 2) hx hb dL_law_1300 (by decide) ?_
  refine lv_iadd hx hb dL_law_1301 ?_
  rw [show nI (6 * u) + 2 = nI (6 * u + 2) from nI_add ..]
  refine va_sld hx hb hX hbl hbA hS (vp_in_nI (show 6 * u + 2 < L by omega) (by omega)) dL_law_1302 ?_
  rw [nI_clamp (show 6 * u + 2 < 2 ^ 31 by omega)]
  refine lv_i2l hx hb dL_law_1303 rfl ?_
  refine lv_ldc2 (v := 4294967295) hx hb hown (hts _ k3_120) dL_law_1304 ?_
  refine lv_land hx hb dL_law_1307 ?_
  refine lv_lor hx hb dL_law_1308 ?_
  refine lv_aload_n hx hb dL_law_1309 rfl (lv_at hl 4 rfl) ?_
  refine lv_iload hx hb dL_law_1310 (lv_at hl 0 rfl) ?_
  refine lv_iconst (v := 3) hx hb dL_law_1312 (by decide) ?_
  refine lv_iadd hx hb dL_law_1313 ?_
  rw [show nI (6 * u) + 3 = nI (6 * u + 3) from nI_add ..]
  refine va_sld hx hb hX hbl hbA hS (vp_in_nI (show 6 * u + 3 < L by omega) (by omega)) dL_law_1314 ?_
  rw [nI_clamp (show 6 * u + 3 < 2 ^ 31 by omega)]
  refine lv_i2l hx hb dL_law_1315 rfl ?_
  refine lv_bipush (v := 32) hx hb dL_law_1316 (by decide) ?_
  refine lv_lshl hx hb dL_law_1318 rfl ?_
  refine lv_aload_n hx hb dL_law_1319 rfl (lv_at hl 4 rfl) ?_
  refine lv_iload hx hb dL_law_1320 (lv_at hl 0 rfl) ?_
  refine lv_iconst (v := 4) hx hb dL_law_1322 (by decide) ?_
  refine lv_iadd hx hb dL_law_1323 ?_
  rw [show nI (6 * u) + 4 = nI (6 * u + 4) from nI_add ..]
  refine va_sld hx hb hX hbl hbA hS (vp_in_nI (show 6 * u + 4 < L by omega) (by omega)) dL_law_1324 ?_
  rw [nI_clamp (show 6 * u + 4 < 2 ^ 31 by omega)]
  refine lv_i2l hx hb dL_law_1325 rfl ?_
  refine lv_ldc2 (v := 4294967295) hx hb hown (hts _ k3_120) dL_law_1326 ?_
  refine lv_land hx hb dL_law_1329 ?_
  refine lv_lor hx hb dL_law_1330 ?_
  refine lv_aload_n hx hb dL_law_1331 rfl (lv_at hl 4 rfl) ?_
  refine lv_iload hx hb dL_law_1332 (lv_at hl 0 rfl) ?_
  refine lv_iconst (v := 5) hx hb dL_law_1334 (by decide) ?_
  refine lv_iadd hx hb dL_law_1335 ?_
  rw [show nI (6 * u) + 5 = nI (6 * u + 5) from nI_add ..]
  refine va_sld hx hb hX hbl hbA hS (vp_in_nI (show 6 * u + 5 < L by omega) (by omega)) dL_law_1336 ?_
  rw [nI_clamp (show 6 * u + 5 < 2 ^ 31 by omega)]
  refine g_SH (k := 4) F htw hB hS hP (c_L_pattern hst G ha hC ((xs (6 * u + 1)).toInt64 <<< ((32 : Int32).toInt64 &&& 63) ||| (xs (6 * u + 2)).toInt64 &&& 4294967295) ((xs (6 * u + 3)).toInt64 <<< ((32 : Int32).toInt64 &&& 63) ||| (xs (6 * u + 4)).toInt64 &&& 4294967295) (xs (6 * u + 5))) k2_99 k2_100 k1_0 k2_101 (by decide +kernel) rfl rfl ⟨Nat.le_of_ble_eq_true rfl, Nat.le_of_ble_eq_true rfl⟩ rfl hl.1 rfl (Nat.le_of_ble_eq_true rfl) dL_law_1337 ⟨hc, hs⟩ (fun en1 H locs he hP hS => ?_)
  obtain ⟨pi, dr, S, o, rfl, hC⟩ := he
  refine lv_istore hx hb dL_law_1340 hl (by decide) rfl (fun ls hl => ?_)
  have hl : lv_has ls 8 [(5, .int _), (4, .int _), (3, .ref _), (2, .ref _), (1, .ref _), (0, .ref _)] := hl
  refine lv_aload_n hx hb dL_law_1342 rfl (lv_at hl 3 rfl) ?_
  refine lv_aload_n hx hb dL_law_1343 rfl (lv_at hl 5 rfl) ?_
  refine lv_iload hx hb dL_law_1344 (lv_at hl 1 rfl) ?_
  refine lv_iconst (v := 1) hx hb dL_law_1346 (by decide) ?_
  refine lv_iadd hx hb dL_law_1347 ?_
  rw [show nI (6 * u) + 1 = nI (6 * u + 1) from nI_add ..]
  refine va_sld hx hb hX hbl hbA hS (vp_in_nI (show 6 * u + 1 < L by omega) (by omega)) dL_law_1348 ?_
  rw [nI_clamp (show 6 * u + 1 < 2 ^ 31 by omega)]
  refine lv_i2l hx hb dL_law_1349 rfl ?_
  refine lv_bipush (v := 32) hx hb dL_law_1350 (by decide) ?_
  refine lv_lshl hx hb dL_law_1352 rfl ?_
  refine lv_aload_n hx hb dL_law_1353 rfl (lv_at hl 5 rfl) ?_
  refine lv_iload hx hb dL_law_1354 (lv_at hl 1 rfl) ?_
  refine lv_iconst (v := 2) hx hb dL_law_1356 (by decide) ?_
  refine lv_iadd hx hb dL_law_1357 ?_
  rw [show nI (6 * u) + 2 = nI (6 * u + 2) from nI_add ..]
  refine va_sld hx hb hX hbl hbA hS (vp_in_nI (show 6 * u + 2 < L by omega) (by omega)) dL_law_1358 ?_
  rw [nI_clamp (show 6 * u + 2 < 2 ^ 31 by omega)]
  refine lv_i2l hx hb dL_law_1359 rfl ?_
  refine lv_ldc2 (v := 4294967295) hx hb hown (hts _ k3_120) dL_law_1360 ?_
  refine lv_land hx hb dL_law_1363 ?_
  refine lv_lor hx hb dL_law_1364 ?_
  refine lv_aload_n hx hb dL_law_1365 rfl (lv_at hl 5 rfl) ?_
  refine lv_iload hx hb dL_law_1366 (lv_at hl 1 rfl) ?_
  refine lv_iconst (v := 3) hx hb dL_law_1368 (by decide) ?_
  refine lv_iadd hx hb dL_law_1369 ?_
  rw [show nI (6 * u) + 3 = nI (6 * u + 3) from nI_add ..]
  refine va_sld hx hb hX hbl hbA hS (vp_in_nI (show 6 * u + 3 < L by omega) (by omega)) dL_law_1370 ?_
  rw [nI_clamp (show 6 * u + 3 < 2 ^ 31 by omega)]
  refine lv_i2l hx hb dL_law_1371 rfl ?_
  refine lv_bipush (v := 32) hx hb dL_law_1372 (by decide) ?_
  refine lv_lshl hx hb dL_law_1374 rfl ?_
  refine lv_aload_n hx hb dL_law_1375 rfl (lv_at hl 5 rfl) ?_
  refine lv_iload hx hb dL_law_1376 (lv_at hl 1 rfl) ?_
  refine lv_iconst (v := 4) hx hb dL_law_1378 (by decide) ?_
  refine lv_iadd hx hb dL_law_1379 ?_
  rw [show nI (6 * u) + 4 = nI (6 * u + 4) from nI_add ..]
  refine va_sld hx hb hX hbl hbA hS (vp_in_nI (show 6 * u + 4 < L by omega) (by omega)) dL_law_1380 ?_
  rw [nI_clamp (show 6 * u + 4 < 2 ^ 31 by omega)]
  refine lv_i2l hx hb dL_law_1381 rfl ?_
  refine lv_ldc2 (v := 4294967295) hx hb hown (hts _ k3_120) dL_law_1382 ?_
  refine lv_land hx hb dL_law_1385 ?_
  refine lv_lor hx hb dL_law_1386 ?_
  refine lv_aload_n hx hb dL_law_1387 rfl (lv_at hl 5 rfl) ?_
  refine lv_iload hx hb dL_law_1388 (lv_at hl 1 rfl) ?_
  refine lv_iconst (v := 5) hx hb dL_law_1390 (by decide) ?_
  refine lv_iadd hx hb dL_law_1391 ?_
  rw [show nI (6 * u) + 5 = nI (6 * u + 5) from nI_add ..]
  refine va_sld hx hb hX hbl hbA hS (vp_in_nI (show 6 * u + 5 < L by omega) (by omega)) dL_law_1392 ?_
  rw [nI_clamp (show 6 * u + 5 < 2 ^ 31 by omega)]
  refine g_V (k := 3) F htw hB hS hP (17) (by decide) rfl rfl (c_M_pattern G ha hR ((xs (6 * u + 1)).toInt64 <<< ((32 : Int32).toInt64 &&& 63) ||| (xs (6 * u + 2)).toInt64 &&& 4294967295) ((xs (6 * u + 3)).toInt64 <<< ((32 : Int32).toInt64 &&& 63) ||| (xs (6 * u + 4)).toInt64 &&& 4294967295) (xs (6 * u + 5))) k3_84 k3_85 k3_86 k1_5 k3_87 (by decide +kernel) rfl rfl ⟨Nat.le_of_ble_eq_true rfl, Nat.le_of_ble_eq_true rfl⟩ rfl hl.1 rfl (Nat.le_of_ble_eq_true rfl) dL_law_1393 ⟨hc, hs⟩ (fun en1 H locs he hP hS => ?_)
  obtain ⟨M, rfl, h00, hR⟩ := he
  refine lv_aload_n hx hb dL_law_1396 rfl (lv_at hl 3 rfl) ?_
  refine g_V (k := 0) F htw hB hS hP (17) (by decide) rfl rfl (c_M_thrown) k2_230 k2_231 k2_232 k1_5 k2_233 (by decide +kernel) rfl rfl ⟨Nat.le_of_ble_eq_true rfl, Nat.le_of_ble_eq_true rfl⟩ rfl hl.1 rfl (Nat.le_of_ble_eq_true rfl) dL_law_1397 ⟨hc, hs⟩ (fun en1 H locs he hP hS => ?_)
  obtain rfl := he
  rw [h00]
  refine lv_iload hx hb dL_law_1400 (lv_at hl 0 rfl) ?_
  refine lv_icmp_eq (tgt := 1407) hx hb dL_law_1402 (by decide) (fun _ => ?_) (fun hc => absurd rfl hc)
  refine lv_goto (tgt := 1890) hx hb dL_law_1407 (by decide) ?_
  have hl : lv_has ls 8 [(4, .int (nI (6 * u))), (3, .ref (ad 24)), (2, .ref (ad 17)), (1, .ref (ad 0)), (0, .ref b)] := lv_sub hl [1, 2, 3, 4, 5] rfl
  exact kk _ _ _ _ _ _ _ _ _ (k_pattern hA ((xs (6 * u + 1)).toInt64 <<< ((32 : Int32).toInt64 &&& 63) ||| (xs (6 * u + 2)).toInt64 &&& 4294967295) ((xs (6 * u + 3)).toInt64 <<< ((32 : Int32).toInt64 &&& 63) ||| (xs (6 * u + 4)).toInt64 &&& 4294967295) (xs (6 * u + 5))) hC hR hl hP hS
set_option maxHeartbeats 4000000 in
set_option maxRecDepth 100000 in
theorem law_count (hst : l.stackTraces = false) (F : CallFix p m c code 8 s #[Value.ref b] tws "PairedTextsLaw") (htw : tw D cI cZ cT cJ base s) (hB : base ≤ s.heap.size) (G : gGeo ad 25 base) (hX : va_X b L xs s s.heap) (hbl : b < s.heap.size) (hbA : ¬ gA base b) (hL : L ≤ 3072) (hu : 6 * u + 6 ≤ L) (hA : aok a) (hC : RepC pi dr S a) (hR : RepM M a) (hl : lv_has ls 8 [(4, .int (nI (6 * u))), (3, .ref (ad 24)), (2, .ref (ad 17)), (1, .ref (ad 0)), (0, .ref b)]) (hP : va_P D cl (gw ad (en ad cI cZ cT cJ pi dr S M o) 25) H) (hS : va_S (gA base) s.heap H locs) (hc : cells + 1 ≤ 601024) (hs : slots + 6 ≤ 7293034)
    (kk : ∀ (pi : Nat → Nat) (dr : Nat) (S M : Nat → Nat → Int32) (o : Nat → Int64) (a : Ab) (ls : Array Slot) (H : Heap) (locs : List Loc), aok a → RepC pi dr S a → RepM M a → lv_has ls 8 [(4, .int (nI (6 * u))), (3, .ref (ad 24)), (2, .ref (ad 17)), (1, .ref (ad 0)), (0, .ref b)] → va_P D cl (gw ad (en ad cI cZ cT cJ pi dr S M o) 25) H → va_S (gA base) s.heap H locs → W p l e room_1 s m #[Value.ref b] below meth c H locs (cells + 1) (slots + 6) Q (F0 m 1890 ls [])) : W p l e room_1 s m #[Value.ref b] below meth c H locs cells slots Q (F0 m 1410 ls []) := by
  have hx := F.1
  have hb := F.2.1
  have hown := F.2.2.2.1
  have hts := F.2.2.2.2
  have hK := htw.1
  have ha := hA.ok
  have hK3 : c_count a (xs (6 * u + 1)) (xs (6 * u + 2)) (xs (6 * u + 3)) ≤ 3 := by unfold c_count; (repeat' split) <;> decide
  refine lv_aload_n hx hb dL_law_1410 rfl (lv_at hl 3 rfl) ?_
  refine lv_aload_n hx hb dL_law_1411 rfl (lv_at hl 4 rfl) ?_
  refine lv_iload hx hb dL_law_1412 (lv_at hl 0 rfl) ?_
  refine lv_iconst (v := 1) hx hb dL_law_1414 (by decide) ?_
  refine lv_iadd hx hb dL_law_1415 ?_
  rw [show nI (6 * u) + 1 = nI (6 * u + 1) from nI_add ..]
  refine va_sld hx hb hX hbl hbA hS (vp_in_nI (show 6 * u + 1 < L by omega) (by omega)) dL_law_1416 ?_
  rw [nI_clamp (show 6 * u + 1 < 2 ^ 31 by omega)]
  refine lv_aload_n hx hb dL_law_1417 rfl (lv_at hl 4 rfl) ?_
  refine lv_iload hx hb dL_law_1418 (lv_at hl 0 rfl) ?_
  refine lv_iconst (v := 2) hx hb dL_law_1420 (by decide) ?_
  refine lv_iadd hx hb dL_law_1421 ?_
  rw [show nI (6 * u) + 2 = nI (6 * u + 2) from nI_add ..]
  refine va_sld hx hb hX hbl hbA hS (vp_in_nI (show 6 * u + 2 < L by omega) (by omega)) dL_law_1422 ?_
  rw [nI_clamp (show 6 * u + 2 < 2 ^ 31 by omega)]
  refine lv_aload_n hx hb dL_law_1423 rfl (lv_at hl 4 rfl) ?_
  refine lv_iload hx hb dL_law_1424 (lv_at hl 0 rfl) ?_
  refine lv_iconst (v := 3) hx hb dL_law_1426 (by decide) ?_
  refine lv_iadd hx hb dL_law_1427 ?_
  rw [show nI (6 * u) + 3 = nI (6 * u + 3) from nI_add ..]
  refine va_sld hx hb hX hbl hbA hS (vp_in_nI (show 6 * u + 3 < L by omega) (by omega)) dL_law_1428 ?_
  rw [nI_clamp (show 6 * u + 3 < 2 ^ 31 by omega)]
  refine lv_aload_n hx hb dL_law_1429 rfl (lv_at hl 1 rfl) ?_
  refine g_SH (k := 5) F htw hB hS hP (c_L_count hst G ha hC (xs (6 * u + 1)) (xs (6 * u + 2)) (xs (6 * u + 3))) k2_111 k2_112 k1_0 k2_113 (by decide +kernel) rfl rfl ⟨Nat.le_of_ble_eq_true rfl, Nat.le_of_ble_eq_true rfl⟩ rfl hl.1 rfl (Nat.le_of_ble_eq_true rfl) dL_law_1430 ⟨hc, hs⟩ (fun en1 H locs he hP hS => ?_)
  obtain ⟨pi, dr, S, o, rfl, hC, hO⟩ := he
  refine lv_istore hx hb dL_law_1433 hl (by decide) rfl (fun ls hl => ?_)
  have hl : lv_has ls 8 [(5, .int _), (4, .int _), (3, .ref _), (2, .ref _), (1, .ref _), (0, .ref _)] := hl
  refine lv_aload_n hx hb dL_law_1435 rfl (lv_at hl 3 rfl) ?_
  refine lv_aload_n hx hb dL_law_1436 rfl (lv_at hl 5 rfl) ?_
  refine lv_iload hx hb dL_law_1437 (lv_at hl 1 rfl) ?_
  refine lv_iconst (v := 1) hx hb dL_law_1439 (by decide) ?_
  refine lv_iadd hx hb dL_law_1440 ?_
  rw [show nI (6 * u) + 1 = nI (6 * u + 1) from nI_add ..]
  refine va_sld hx hb hX hbl hbA hS (vp_in_nI (show 6 * u + 1 < L by omega) (by omega)) dL_law_1441 ?_
  rw [nI_clamp (show 6 * u + 1 < 2 ^ 31 by omega)]
  refine lv_aload_n hx hb dL_law_1442 rfl (lv_at hl 5 rfl) ?_
  refine lv_iload hx hb dL_law_1443 (lv_at hl 1 rfl) ?_
  refine lv_iconst (v := 2) hx hb dL_law_1445 (by decide) ?_
  refine lv_iadd hx hb dL_law_1446 ?_
  rw [show nI (6 * u) + 2 = nI (6 * u + 2) from nI_add ..]
  refine va_sld hx hb hX hbl hbA hS (vp_in_nI (show 6 * u + 2 < L by omega) (by omega)) dL_law_1447 ?_
  rw [nI_clamp (show 6 * u + 2 < 2 ^ 31 by omega)]
  refine lv_aload_n hx hb dL_law_1448 rfl (lv_at hl 5 rfl) ?_
  refine lv_iload hx hb dL_law_1449 (lv_at hl 1 rfl) ?_
  refine lv_iconst (v := 3) hx hb dL_law_1451 (by decide) ?_
  refine lv_iadd hx hb dL_law_1452 ?_
  rw [show nI (6 * u) + 3 = nI (6 * u + 3) from nI_add ..]
  refine va_sld hx hb hX hbl hbA hS (vp_in_nI (show 6 * u + 3 < L by omega) (by omega)) dL_law_1453 ?_
  rw [nI_clamp (show 6 * u + 3 < 2 ^ 31 by omega)]
  refine g_V (k := 3) F htw hB hS hP (17) (by decide) rfl rfl (c_M_count G ha hR (xs (6 * u + 1)) (xs (6 * u + 2)) (xs (6 * u + 3))) k3_88 k3_89 k3_90 k1_5 k3_91 (by decide +kernel) rfl rfl ⟨Nat.le_of_ble_eq_true rfl, Nat.le_of_ble_eq_true rfl⟩ rfl hl.1 rfl (Nat.le_of_ble_eq_true rfl) dL_law_1454 ⟨hc, hs⟩ (fun en1 H locs he hP hS => ?_)
  obtain ⟨M, rfl, h00, hR⟩ := he
  refine lv_istore hx hb dL_law_1457 hl (by decide) rfl (fun ls hl => ?_)
  have hl : lv_has ls 8 [(6, .int _), (5, .int _), (4, .int _), (3, .ref _), (2, .ref _), (1, .ref _), (0, .ref _)] := hl
  refine lv_aload_n hx hb dL_law_1459 rfl (lv_at hl 4 rfl) ?_
  refine g_V (k := 0) F htw hB hS hP (17) (by decide) rfl rfl (c_M_thrown) k2_230 k2_231 k2_232 k1_5 k2_233 (by decide +kernel) rfl rfl ⟨Nat.le_of_ble_eq_true rfl, Nat.le_of_ble_eq_true rfl⟩ rfl hl.1 rfl (Nat.le_of_ble_eq_true rfl) dL_law_1460 ⟨hc, hs⟩ (fun en1 H locs he hP hS => ?_)
  obtain rfl := he
  rw [h00]
  refine lv_iload hx hb dL_law_1463 (lv_at hl 1 rfl) ?_
  refine lv_icmp_eq (tgt := 1470) hx hb dL_law_1465 (by decide) (fun _ => ?_) (fun hc => absurd rfl hc)
  refine lv_iload hx hb dL_law_1470 (lv_at hl 1 rfl) ?_
  refine lv_if_ne (tgt := 1487) hx hb dL_law_1472 (by decide) (fun hz0 => ?_) (fun hz0 => ?_)
  · refine lv_goto (tgt := 1890) hx hb dL_law_1487 (by decide) ?_
    have hl : lv_has ls 8 [(4, .int (nI (6 * u))), (3, .ref (ad 24)), (2, .ref (ad 17)), (1, .ref (ad 0)), (0, .ref b)] := lv_sub hl [2, 3, 4, 5, 6] rfl
    exact kk _ _ _ _ _ _ _ _ _ (k_same hA) hC hR hl hP hS
  · rw [show (0 : Int32) = nI 0 from rfl, nI_eq (show c_count a (xs (6 * u + 1)) (xs (6 * u + 2)) (xs (6 * u + 3)) < 2 ^ 31 by omega) (by decide)] at hz0
    have hO := hO hz0
    refine lv_aload_n hx hb dL_law_1475 rfl (lv_at hl 3 rfl) ?_
    refine lv_iconst (v := 0) hx hb dL_law_1476 (by decide) ?_
    refine g_lald F hK hP (24) (by decide) 3 rfl rfl (vp_in_nI (n := 0) (N := 1) (by decide) (by decide)) dL_law_1477 ?_
    rw [show o (Int32.toNatClampNeg 0) = _ from hO]
    refine lv_iload hx hb dL_law_1478 (lv_at hl 0 rfl) ?_
    refine lv_i2l hx hb dL_law_1480 rfl ?_
    refine W.lcmp hx hb dL_law_1481 ?_
    refine lv_if_eq (tgt := 1487) hx hb dL_law_1482 (by decide) (fun _ => ?_) (fun hc => absurd (by rw [lg_cmp_eq, if_pos hz0]) hc)
    refine lv_goto (tgt := 1890) hx hb dL_law_1487 (by decide) ?_
    have hl : lv_has ls 8 [(4, .int (nI (6 * u))), (3, .ref (ad 24)), (2, .ref (ad 17)), (1, .ref (ad 0)), (0, .ref b)] := lv_sub hl [2, 3, 4, 5, 6] rfl
    exact kk _ _ _ _ _ _ _ _ _ (k_same hA) hC hR hl hP hS
set_option maxHeartbeats 4000000 in
set_option maxRecDepth 100000 in
theorem law_find (hst : l.stackTraces = false) (F : CallFix p m c code 8 s #[Value.ref b] tws "PairedTextsLaw") (htw : tw D cI cZ cT cJ base s) (hB : base ≤ s.heap.size) (G : gGeo ad 25 base) (hX : va_X b L xs s s.heap) (hbl : b < s.heap.size) (hbA : ¬ gA base b) (hL : L ≤ 3072) (hu : 6 * u + 6 ≤ L) (hA : aok a) (hC : RepC pi dr S a) (hR : RepM M a) (hl : lv_has ls 8 [(4, .int (nI (6 * u))), (3, .ref (ad 24)), (2, .ref (ad 17)), (1, .ref (ad 0)), (0, .ref b)]) (hP : va_P D cl (gw ad (en ad cI cZ cT cJ pi dr S M o) 25) H) (hS : va_S (gA base) s.heap H locs) (hc : cells + 1 ≤ 601024) (hs : slots + 6 ≤ 7293034)
    (kk : ∀ (pi : Nat → Nat) (dr : Nat) (S M : Nat → Nat → Int32) (o : Nat → Int64) (a : Ab) (ls : Array Slot) (H : Heap) (locs : List Loc), aok a → RepC pi dr S a → RepM M a → lv_has ls 8 [(4, .int (nI (6 * u))), (3, .ref (ad 24)), (2, .ref (ad 17)), (1, .ref (ad 0)), (0, .ref b)] → va_P D cl (gw ad (en ad cI cZ cT cJ pi dr S M o) 25) H → va_S (gA base) s.heap H locs → W p l e room_1 s m #[Value.ref b] below meth c H locs (cells + 1) (slots + 6) Q (F0 m 1890 ls [])) : W p l e room_1 s m #[Value.ref b] below meth c H locs cells slots Q (F0 m 1490 ls []) := by
  have hx := F.1
  have hb := F.2.1
  have hown := F.2.2.2.1
  have hts := F.2.2.2.2
  have hK := htw.1
  have ha := hA.ok
  have hK3 : c_find a (xs (6 * u + 1)) (xs (6 * u + 2)) (xs (6 * u + 3)) ≤ 3 := by unfold c_find; (repeat' split) <;> decide
  refine lv_aload_n hx hb dL_law_1490 rfl (lv_at hl 3 rfl) ?_
  refine lv_aload_n hx hb dL_law_1491 rfl (lv_at hl 4 rfl) ?_
  refine lv_iload hx hb dL_law_1492 (lv_at hl 0 rfl) ?_
  refine lv_iconst (v := 1) hx hb dL_law_1494 (by decide) ?_
  refine lv_iadd hx hb dL_law_1495 ?_
  rw [show nI (6 * u) + 1 = nI (6 * u + 1) from nI_add ..]
  refine va_sld hx hb hX hbl hbA hS (vp_in_nI (show 6 * u + 1 < L by omega) (by omega)) dL_law_1496 ?_
  rw [nI_clamp (show 6 * u + 1 < 2 ^ 31 by omega)]
  refine lv_aload_n hx hb dL_law_1497 rfl (lv_at hl 4 rfl) ?_
  refine lv_iload hx hb dL_law_1498 (lv_at hl 0 rfl) ?_
  refine lv_iconst (v := 2) hx hb dL_law_1500 (by decide) ?_
  refine lv_iadd hx hb dL_law_1501 ?_
  rw [show nI (6 * u) + 2 = nI (6 * u + 2) from nI_add ..]
  refine va_sld hx hb hX hbl hbA hS (vp_in_nI (show 6 * u + 2 < L by omega) (by omega)) dL_law_1502 ?_
  rw [nI_clamp (show 6 * u + 2 < 2 ^ 31 by omega)]
  refine lv_aload_n hx hb dL_law_1503 rfl (lv_at hl 4 rfl) ?_
  refine lv_iload hx hb dL_law_1504 (lv_at hl 0 rfl) ?_
  refine lv_iconst (v := 3) hx hb dL_law_1506 (by decide) ?_
  refine lv_iadd hx hb dL_law_1507 ?_
  rw [show nI (6 * u) + 3 = nI (6 * u + 3) from nI_add ..]
  refine va_sld hx hb hX hbl hbA hS (vp_in_nI (show 6 * u + 3 < L by omega) (by omega)) dL_law_1508 ?_
  rw [nI_clamp (show 6 * u + 3 < 2 ^ 31 by omega)]
  refine lv_aload_n hx hb dL_law_1509 rfl (lv_at hl 1 rfl) ?_
  refine g_SH (k := 5) F htw hB hS hP (c_L_find hst G ha hC (xs (6 * u + 1)) (xs (6 * u + 2)) (xs (6 * u + 3))) k2_143 k2_144 k1_0 k2_145 (by decide +kernel) rfl rfl ⟨Nat.le_of_ble_eq_true rfl, Nat.le_of_ble_eq_true rfl⟩ rfl hl.1 rfl (Nat.le_of_ble_eq_true rfl) dL_law_1510 ⟨hc, hs⟩ (fun en1 H locs he hP hS => ?_)
  obtain ⟨pi, dr, S, o, rfl, hC, hO⟩ := he
  refine lv_istore hx hb dL_law_1513 hl (by decide) rfl (fun ls hl => ?_)
  have hl : lv_has ls 8 [(5, .int _), (4, .int _), (3, .ref _), (2, .ref _), (1, .ref _), (0, .ref _)] := hl
  refine lv_aload_n hx hb dL_law_1515 rfl (lv_at hl 3 rfl) ?_
  refine lv_aload_n hx hb dL_law_1516 rfl (lv_at hl 5 rfl) ?_
  refine lv_iload hx hb dL_law_1517 (lv_at hl 1 rfl) ?_
  refine lv_iconst (v := 1) hx hb dL_law_1519 (by decide) ?_
  refine lv_iadd hx hb dL_law_1520 ?_
  rw [show nI (6 * u) + 1 = nI (6 * u + 1) from nI_add ..]
  refine va_sld hx hb hX hbl hbA hS (vp_in_nI (show 6 * u + 1 < L by omega) (by omega)) dL_law_1521 ?_
  rw [nI_clamp (show 6 * u + 1 < 2 ^ 31 by omega)]
  refine lv_aload_n hx hb dL_law_1522 rfl (lv_at hl 5 rfl) ?_
  refine lv_iload hx hb dL_law_1523 (lv_at hl 1 rfl) ?_
  refine lv_iconst (v := 2) hx hb dL_law_1525 (by decide) ?_
  refine lv_iadd hx hb dL_law_1526 ?_
  rw [show nI (6 * u) + 2 = nI (6 * u + 2) from nI_add ..]
  refine va_sld hx hb hX hbl hbA hS (vp_in_nI (show 6 * u + 2 < L by omega) (by omega)) dL_law_1527 ?_
  rw [nI_clamp (show 6 * u + 2 < 2 ^ 31 by omega)]
  refine lv_aload_n hx hb dL_law_1528 rfl (lv_at hl 5 rfl) ?_
  refine lv_iload hx hb dL_law_1529 (lv_at hl 1 rfl) ?_
  refine lv_iconst (v := 3) hx hb dL_law_1531 (by decide) ?_
  refine lv_iadd hx hb dL_law_1532 ?_
  rw [show nI (6 * u) + 3 = nI (6 * u + 3) from nI_add ..]
  refine va_sld hx hb hX hbl hbA hS (vp_in_nI (show 6 * u + 3 < L by omega) (by omega)) dL_law_1533 ?_
  rw [nI_clamp (show 6 * u + 3 < 2 ^ 31 by omega)]
  refine g_V (k := 3) F htw hB hS hP (17) (by decide) rfl rfl (c_M_find G ha hR (xs (6 * u + 1)) (xs (6 * u + 2)) (xs (6 * u + 3))) k3_96 k3_97 k3_98 k1_5 k3_99 (by decide +kernel) rfl rfl ⟨Nat.le_of_ble_eq_true rfl, Nat.le_of_ble_eq_true rfl⟩ rfl hl.1 rfl (Nat.le_of_ble_eq_true rfl) dL_law_1534 ⟨hc, hs⟩ (fun en1 H locs he hP hS => ?_)
  obtain ⟨M, rfl, h00, hR⟩ := he
  refine lv_istore hx hb dL_law_1537 hl (by decide) rfl (fun ls hl => ?_)
  have hl : lv_has ls 8 [(6, .int _), (5, .int _), (4, .int _), (3, .ref _), (2, .ref _), (1, .ref _), (0, .ref _)] := hl
  refine lv_aload_n hx hb dL_law_1539 rfl (lv_at hl 4 rfl) ?_
  refine g_V (k := 0) F htw hB hS hP (17) (by decide) rfl rfl (c_M_thrown) k2_230 k2_231 k2_232 k1_5 k2_233 (by decide +kernel) rfl rfl ⟨Nat.le_of_ble_eq_true rfl, Nat.le_of_ble_eq_true rfl⟩ rfl hl.1 rfl (Nat.le_of_ble_eq_true rfl) dL_law_1540 ⟨hc, hs⟩ (fun en1 H locs he hP hS => ?_)
  obtain rfl := he
  rw [h00]
  refine lv_iload hx hb dL_law_1543 (lv_at hl 1 rfl) ?_
  refine lv_icmp_eq (tgt := 1550) hx hb dL_law_1545 (by decide) (fun _ => ?_) (fun hc => absurd rfl hc)
  refine lv_iload hx hb dL_law_1550 (lv_at hl 1 rfl) ?_
  refine lv_if_ne (tgt := 1567) hx hb dL_law_1552 (by decide) (fun hz0 => ?_) (fun hz0 => ?_)
  · refine lv_goto (tgt := 1890) hx hb dL_law_1567 (by decide) ?_
    have hl : lv_has ls 8 [(4, .int (nI (6 * u))), (3, .ref (ad 24)), (2, .ref (ad 17)), (1, .ref (ad 0)), (0, .ref b)] := lv_sub hl [2, 3, 4, 5, 6] rfl
    exact kk _ _ _ _ _ _ _ _ _ (k_same hA) hC hR hl hP hS
  · rw [show (0 : Int32) = nI 0 from rfl, nI_eq (show c_find a (xs (6 * u + 1)) (xs (6 * u + 2)) (xs (6 * u + 3)) < 2 ^ 31 by omega) (by decide)] at hz0
    have hO := hO hz0
    refine lv_aload_n hx hb dL_law_1555 rfl (lv_at hl 3 rfl) ?_
    refine lv_iconst (v := 0) hx hb dL_law_1556 (by decide) ?_
    refine g_lald F hK hP (24) (by decide) 3 rfl rfl (vp_in_nI (n := 0) (N := 1) (by decide) (by decide)) dL_law_1557 ?_
    rw [show o (Int32.toNatClampNeg 0) = _ from hO]
    refine lv_iload hx hb dL_law_1558 (lv_at hl 0 rfl) ?_
    refine lv_i2l hx hb dL_law_1560 rfl ?_
    refine W.lcmp hx hb dL_law_1561 ?_
    refine lv_if_eq (tgt := 1567) hx hb dL_law_1562 (by decide) (fun _ => ?_) (fun hc => absurd (by rw [lg_cmp_eq, if_pos hz0]) hc)
    refine lv_goto (tgt := 1890) hx hb dL_law_1567 (by decide) ?_
    have hl : lv_has ls 8 [(4, .int (nI (6 * u))), (3, .ref (ad 24)), (2, .ref (ad 17)), (1, .ref (ad 0)), (0, .ref b)] := lv_sub hl [2, 3, 4, 5, 6] rfl
    exact kk _ _ _ _ _ _ _ _ _ (k_same hA) hC hR hl hP hS
set_option maxHeartbeats 4000000 in
set_option maxRecDepth 100000 in
theorem law_lead (hst : l.stackTraces = false) (F : CallFix p m c code 8 s #[Value.ref b] tws "PairedTextsLaw") (htw : tw D cI cZ cT cJ base s) (hB : base ≤ s.heap.size) (G : gGeo ad 25 base) (hX : va_X b L xs s s.heap) (hbl : b < s.heap.size) (hbA : ¬ gA base b) (hL : L ≤ 3072) (hu : 6 * u + 6 ≤ L) (hA : aok a) (hC : RepC pi dr S a) (hR : RepM M a) (hl : lv_has ls 8 [(4, .int (nI (6 * u))), (3, .ref (ad 24)), (2, .ref (ad 17)), (1, .ref (ad 0)), (0, .ref b)]) (hP : va_P D cl (gw ad (en ad cI cZ cT cJ pi dr S M o) 25) H) (hS : va_S (gA base) s.heap H locs) (hc : cells + 1 ≤ 601024) (hs : slots + 6 ≤ 7293034)
    (kk : ∀ (pi : Nat → Nat) (dr : Nat) (S M : Nat → Nat → Int32) (o : Nat → Int64) (a : Ab) (ls : Array Slot) (H : Heap) (locs : List Loc), aok a → RepC pi dr S a → RepM M a → lv_has ls 8 [(4, .int (nI (6 * u))), (3, .ref (ad 24)), (2, .ref (ad 17)), (1, .ref (ad 0)), (0, .ref b)] → va_P D cl (gw ad (en ad cI cZ cT cJ pi dr S M o) 25) H → va_S (gA base) s.heap H locs → W p l e room_1 s m #[Value.ref b] below meth c H locs (cells + 1) (slots + 6) Q (F0 m 1890 ls [])) : W p l e room_1 s m #[Value.ref b] below meth c H locs cells slots Q (F0 m 1570 ls []) := by
  have hx := F.1
  have hb := F.2.1
  have hown := F.2.2.2.1
  have hts := F.2.2.2.2
  have hK := htw.1
  have ha := hA.ok
  have hK3 : c_lead (xs (6 * u + 1)) (xs (6 * u + 2)) (xs (6 * u + 3)) (xs (6 * u + 4)) ≤ 3 := by unfold c_lead; (repeat' split) <;> decide
  refine lv_aload_n hx hb dL_law_1570 rfl (lv_at hl 3 rfl) ?_
  refine lv_aload_n hx hb dL_law_1571 rfl (lv_at hl 4 rfl) ?_
  refine lv_iload hx hb dL_law_1572 (lv_at hl 0 rfl) ?_
  refine lv_iconst (v := 1) hx hb dL_law_1574 (by decide) ?_
  refine lv_iadd hx hb dL_law_1575 ?_
  rw [show nI (6 * u) + 1 = nI (6 * u + 1) from nI_add ..]
  refine va_sld hx hb hX hbl hbA hS (vp_in_nI (show 6 * u + 1 < L by omega) (by omega)) dL_law_1576 ?_
  rw [nI_clamp (show 6 * u + 1 < 2 ^ 31 by omega)]
  refine lv_aload_n hx hb dL_law_1577 rfl (lv_at hl 4 rfl) ?_
  refine lv_iload hx hb dL_law_1578 (lv_at hl 0 rfl) ?_
  refine lv_iconst (v := 2) hx hb dL_law_1580 (by decide) ?_
  refine lv_iadd hx hb dL_law_1581 ?_
  rw [show nI (6 * u) + 2 = nI (6 * u + 2) from nI_add ..]
  refine va_sld hx hb hX hbl hbA hS (vp_in_nI (show 6 * u + 2 < L by omega) (by omega)) dL_law_1582 ?_
  rw [nI_clamp (show 6 * u + 2 < 2 ^ 31 by omega)]
  refine lv_aload_n hx hb dL_law_1583 rfl (lv_at hl 4 rfl) ?_
  refine lv_iload hx hb dL_law_1584 (lv_at hl 0 rfl) ?_
  refine lv_iconst (v := 3) hx hb dL_law_1586 (by decide) ?_
  refine lv_iadd hx hb dL_law_1587 ?_
  rw [show nI (6 * u) + 3 = nI (6 * u + 3) from nI_add ..]
  refine va_sld hx hb hX hbl hbA hS (vp_in_nI (show 6 * u + 3 < L by omega) (by omega)) dL_law_1588 ?_
  rw [nI_clamp (show 6 * u + 3 < 2 ^ 31 by omega)]
  refine lv_aload_n hx hb dL_law_1589 rfl (lv_at hl 4 rfl) ?_
  refine lv_iload hx hb dL_law_1590 (lv_at hl 0 rfl) ?_
  refine lv_iconst (v := 4) hx hb dL_law_1592 (by decide) ?_
  refine lv_iadd hx hb dL_law_1593 ?_
  rw [show nI (6 * u) + 4 = nI (6 * u + 4) from nI_add ..]
  refine va_sld hx hb hX hbl hbA hS (vp_in_nI (show 6 * u + 4 < L by omega) (by omega)) dL_law_1594 ?_
  rw [nI_clamp (show 6 * u + 4 < 2 ^ 31 by omega)]
  refine g_SH (k := 5) F htw hB hS hP (c_L_lead hst G ha hC (xs (6 * u + 1)) (xs (6 * u + 2)) (xs (6 * u + 3)) (xs (6 * u + 4))) k2_150 k2_151 k1_0 k2_152 (by decide +kernel) rfl rfl ⟨Nat.le_of_ble_eq_true rfl, Nat.le_of_ble_eq_true rfl⟩ rfl hl.1 rfl (Nat.le_of_ble_eq_true rfl) dL_law_1595 ⟨hc, hs⟩ (fun en1 H locs he hP hS => ?_)
  obtain ⟨pi, dr, S, o, rfl, hC⟩ := he
  refine lv_istore hx hb dL_law_1598 hl (by decide) rfl (fun ls hl => ?_)
  have hl : lv_has ls 8 [(5, .int _), (4, .int _), (3, .ref _), (2, .ref _), (1, .ref _), (0, .ref _)] := hl
  refine lv_aload_n hx hb dL_law_1600 rfl (lv_at hl 3 rfl) ?_
  refine lv_aload_n hx hb dL_law_1601 rfl (lv_at hl 5 rfl) ?_
  refine lv_iload hx hb dL_law_1602 (lv_at hl 1 rfl) ?_
  refine lv_iconst (v := 1) hx hb dL_law_1604 (by decide) ?_
  refine lv_iadd hx hb dL_law_1605 ?_
  rw [show nI (6 * u) + 1 = nI (6 * u + 1) from nI_add ..]
  refine va_sld hx hb hX hbl hbA hS (vp_in_nI (show 6 * u + 1 < L by omega) (by omega)) dL_law_1606 ?_
  rw [nI_clamp (show 6 * u + 1 < 2 ^ 31 by omega)]
  refine lv_aload_n hx hb dL_law_1607 rfl (lv_at hl 5 rfl) ?_
  refine lv_iload hx hb dL_law_1608 (lv_at hl 1 rfl) ?_
  refine lv_iconst (v := 2) hx hb dL_law_1610 (by decide) ?_
  refine lv_iadd hx hb dL_law_1611 ?_
  rw [show nI (6 * u) + 2 = nI (6 * u + 2) from nI_add ..]
  refine va_sld hx hb hX hbl hbA hS (vp_in_nI (show 6 * u + 2 < L by omega) (by omega)) dL_law_1612 ?_
  rw [nI_clamp (show 6 * u + 2 < 2 ^ 31 by omega)]
  refine lv_aload_n hx hb dL_law_1613 rfl (lv_at hl 5 rfl) ?_
  refine lv_iload hx hb dL_law_1614 (lv_at hl 1 rfl) ?_
  refine lv_iconst (v := 3) hx hb dL_law_1616 (by decide) ?_
  refine lv_iadd hx hb dL_law_1617 ?_
  rw [show nI (6 * u) + 3 = nI (6 * u + 3) from nI_add ..]
  refine va_sld hx hb hX hbl hbA hS (vp_in_nI (show 6 * u + 3 < L by omega) (by omega)) dL_law_1618 ?_
  rw [nI_clamp (show 6 * u + 3 < 2 ^ 31 by omega)]
  refine lv_aload_n hx hb dL_law_1619 rfl (lv_at hl 5 rfl) ?_
  refine lv_iload hx hb dL_law_1620 (lv_at hl 1 rfl) ?_
  refine lv_iconst (v := 4) hx hb dL_law_1622 (by decide) ?_
  refine lv_iadd hx hb dL_law_1623 ?_
  rw [show nI (6 * u) + 4 = nI (6 * u + 4) from nI_add ..]
  refine va_sld hx hb hX hbl hbA hS (vp_in_nI (show 6 * u + 4 < L by omega) (by omega)) dL_law_1624 ?_
  rw [nI_clamp (show 6 * u + 4 < 2 ^ 31 by omega)]
  refine g_V (k := 4) F htw hB hS hP (17) (by decide) rfl rfl (c_M_lead G ha hR (xs (6 * u + 1)) (xs (6 * u + 2)) (xs (6 * u + 3)) (xs (6 * u + 4))) k3_100 k3_101 k3_102 k1_5 k3_103 (by decide +kernel) rfl rfl ⟨Nat.le_of_ble_eq_true rfl, Nat.le_of_ble_eq_true rfl⟩ rfl hl.1 rfl (Nat.le_of_ble_eq_true rfl) dL_law_1625 ⟨hc, hs⟩ (fun en1 H locs he hP hS => ?_)
  obtain ⟨M, rfl, h00, hR⟩ := he
  refine lv_aload_n hx hb dL_law_1628 rfl (lv_at hl 3 rfl) ?_
  refine g_V (k := 0) F htw hB hS hP (17) (by decide) rfl rfl (c_M_thrown) k2_230 k2_231 k2_232 k1_5 k2_233 (by decide +kernel) rfl rfl ⟨Nat.le_of_ble_eq_true rfl, Nat.le_of_ble_eq_true rfl⟩ rfl hl.1 rfl (Nat.le_of_ble_eq_true rfl) dL_law_1629 ⟨hc, hs⟩ (fun en1 H locs he hP hS => ?_)
  obtain rfl := he
  rw [h00]
  refine lv_iload hx hb dL_law_1632 (lv_at hl 0 rfl) ?_
  refine lv_icmp_eq (tgt := 1639) hx hb dL_law_1634 (by decide) (fun _ => ?_) (fun hc => absurd rfl hc)
  refine lv_goto (tgt := 1890) hx hb dL_law_1639 (by decide) ?_
  have hl : lv_has ls 8 [(4, .int (nI (6 * u))), (3, .ref (ad 24)), (2, .ref (ad 17)), (1, .ref (ad 0)), (0, .ref b)] := lv_sub hl [1, 2, 3, 4, 5] rfl
  exact kk _ _ _ _ _ _ _ _ _ (k_lead hA (xs (6 * u + 1)) (xs (6 * u + 2)) (xs (6 * u + 3)) (xs (6 * u + 4))) hC hR hl hP hS
set_option maxHeartbeats 4000000 in
set_option maxRecDepth 100000 in
theorem law_accept (hst : l.stackTraces = false) (F : CallFix p m c code 8 s #[Value.ref b] tws "PairedTextsLaw") (htw : tw D cI cZ cT cJ base s) (hB : base ≤ s.heap.size) (G : gGeo ad 25 base) (hX : va_X b L xs s s.heap) (hbl : b < s.heap.size) (hbA : ¬ gA base b) (hL : L ≤ 3072) (hu : 6 * u + 6 ≤ L) (hA : aok a) (hC : RepC pi dr S a) (hR : RepM M a) (hl : lv_has ls 8 [(4, .int (nI (6 * u))), (3, .ref (ad 24)), (2, .ref (ad 17)), (1, .ref (ad 0)), (0, .ref b)]) (hP : va_P D cl (gw ad (en ad cI cZ cT cJ pi dr S M o) 25) H) (hS : va_S (gA base) s.heap H locs) (hc : cells + 1 ≤ 601024) (hs : slots + 6 ≤ 7293034)
    (kk : ∀ (pi : Nat → Nat) (dr : Nat) (S M : Nat → Nat → Int32) (o : Nat → Int64) (a : Ab) (ls : Array Slot) (H : Heap) (locs : List Loc), aok a → RepC pi dr S a → RepM M a → lv_has ls 8 [(4, .int (nI (6 * u))), (3, .ref (ad 24)), (2, .ref (ad 17)), (1, .ref (ad 0)), (0, .ref b)] → va_P D cl (gw ad (en ad cI cZ cT cJ pi dr S M o) 25) H → va_S (gA base) s.heap H locs → W p l e room_1 s m #[Value.ref b] below meth c H locs (cells + 1) (slots + 6) Q (F0 m 1890 ls [])) : W p l e room_1 s m #[Value.ref b] below meth c H locs cells slots Q (F0 m 1642 ls []) := by
  have hx := F.1
  have hb := F.2.1
  have hown := F.2.2.2.1
  have hts := F.2.2.2.2
  have hK := htw.1
  have ha := hA.ok
  by_cases hz : xs (6 * u + 2) = 0
  · have hK3 : c_accept (xs (6 * u + 1)) ≤ 3 := by unfold c_accept; (repeat' split) <;> decide
    refine lv_aload_n hx hb dL_law_1642 rfl (lv_at hl 3 rfl) ?_
    refine lv_aload_n hx hb dL_law_1643 rfl (lv_at hl 4 rfl) ?_
    refine lv_iload hx hb dL_law_1644 (lv_at hl 0 rfl) ?_
    refine lv_iconst (v := 1) hx hb dL_law_1646 (by decide) ?_
    refine lv_iadd hx hb dL_law_1647 ?_
    rw [show nI (6 * u) + 1 = nI (6 * u + 1) from nI_add ..]
    refine va_sld hx hb hX hbl hbA hS (vp_in_nI (show 6 * u + 1 < L by omega) (by omega)) dL_law_1648 ?_
    rw [nI_clamp (show 6 * u + 1 < 2 ^ 31 by omega)]
    refine lv_aload_n hx hb dL_law_1649 rfl (lv_at hl 4 rfl) ?_
    refine lv_iload hx hb dL_law_1650 (lv_at hl 0 rfl) ?_
    refine lv_iconst (v := 2) hx hb dL_law_1652 (by decide) ?_
    refine lv_iadd hx hb dL_law_1653 ?_
    rw [show nI (6 * u) + 2 = nI (6 * u + 2) from nI_add ..]
    refine va_sld hx hb hX hbl hbA hS (vp_in_nI (show 6 * u + 2 < L by omega) (by omega)) dL_law_1654 ?_
    rw [nI_clamp (show 6 * u + 2 < 2 ^ 31 by omega)]
    refine lv_if_eq (tgt := 1662) hx hb dL_law_1655 (by decide) (fun _ => ?_) (fun hc => absurd hz hc)
    refine lv_iconst (v := 0) hx hb dL_law_1662 (by decide) ?_
    refine g_SH (k := 3) F htw hB hS hP (c_L_accept hst G ha hC (xs (6 * u + 1)) (show 0 < 2 by decide)) k2_165 k2_166 k1_0 k2_167 (by decide +kernel) rfl rfl ⟨Nat.le_of_ble_eq_true rfl, Nat.le_of_ble_eq_true rfl⟩ rfl hl.1 rfl (Nat.le_of_ble_eq_true rfl) dL_law_1663 ⟨hc, hs⟩ (fun en1 H locs he hP hS => ?_)
    obtain ⟨pi, dr, S, o, rfl, hC⟩ := he
    refine lv_istore hx hb dL_law_1666 hl (by decide) rfl (fun ls hl => ?_)
    have hl : lv_has ls 8 [(5, .int _), (4, .int _), (3, .ref _), (2, .ref _), (1, .ref _), (0, .ref _)] := hl
    refine lv_aload_n hx hb dL_law_1668 rfl (lv_at hl 3 rfl) ?_
    refine lv_aload_n hx hb dL_law_1669 rfl (lv_at hl 5 rfl) ?_
    refine lv_iload hx hb dL_law_1670 (lv_at hl 1 rfl) ?_
    refine lv_iconst (v := 1) hx hb dL_law_1672 (by decide) ?_
    refine lv_iadd hx hb dL_law_1673 ?_
    rw [show nI (6 * u) + 1 = nI (6 * u + 1) from nI_add ..]
    refine va_sld hx hb hX hbl hbA hS (vp_in_nI (show 6 * u + 1 < L by omega) (by omega)) dL_law_1674 ?_
    rw [nI_clamp (show 6 * u + 1 < 2 ^ 31 by omega)]
    refine lv_aload_n hx hb dL_law_1675 rfl (lv_at hl 5 rfl) ?_
    refine lv_iload hx hb dL_law_1676 (lv_at hl 1 rfl) ?_
    refine lv_iconst (v := 2) hx hb dL_law_1678 (by decide) ?_
    refine lv_iadd hx hb dL_law_1679 ?_
    rw [show nI (6 * u) + 2 = nI (6 * u + 2) from nI_add ..]
    refine va_sld hx hb hX hbl hbA hS (vp_in_nI (show 6 * u + 2 < L by omega) (by omega)) dL_law_1680 ?_
    rw [nI_clamp (show 6 * u + 2 < 2 ^ 31 by omega)]
    refine lv_if_eq (tgt := 1688) hx hb dL_law_1681 (by decide) (fun _ => ?_) (fun hc => absurd hz hc)
    refine lv_iconst (v := 0) hx hb dL_law_1688 (by decide) ?_
    refine g_V (k := 2) F htw hB hS hP (17) (by decide) rfl rfl (c_M_accept G ha hR (xs (6 * u + 1)) (show 0 < 2 by decide)) k3_104 k3_105 k3_106 k1_5 k3_107 (by decide +kernel) rfl rfl ⟨Nat.le_of_ble_eq_true rfl, Nat.le_of_ble_eq_true rfl⟩ rfl hl.1 rfl (Nat.le_of_ble_eq_true rfl) dL_law_1689 ⟨hc, hs⟩ (fun en1 H locs he hP hS => ?_)
    obtain ⟨M, rfl, h00, hR⟩ := he
    refine lv_aload_n hx hb dL_law_1692 rfl (lv_at hl 3 rfl) ?_
    refine g_V (k := 0) F htw hB hS hP (17) (by decide) rfl rfl (c_M_thrown) k2_230 k2_231 k2_232 k1_5 k2_233 (by decide +kernel) rfl rfl ⟨Nat.le_of_ble_eq_true rfl, Nat.le_of_ble_eq_true rfl⟩ rfl hl.1 rfl (Nat.le_of_ble_eq_true rfl) dL_law_1693 ⟨hc, hs⟩ (fun en1 H locs he hP hS => ?_)
    obtain rfl := he
    rw [h00]
    refine lv_iload hx hb dL_law_1696 (lv_at hl 0 rfl) ?_
    refine lv_icmp_eq (tgt := 1703) hx hb dL_law_1698 (by decide) (fun _ => ?_) (fun hc => absurd rfl hc)
    refine lv_goto (tgt := 1890) hx hb dL_law_1703 (by decide) ?_
    have hl : lv_has ls 8 [(4, .int (nI (6 * u))), (3, .ref (ad 24)), (2, .ref (ad 17)), (1, .ref (ad 0)), (0, .ref b)] := lv_sub hl [1, 2, 3, 4, 5] rfl
    exact kk _ _ _ _ _ _ _ _ _ (k_accept hA (xs (6 * u + 1)) (show 0 < 2 by decide)) hC hR hl hP hS
  · have hK3 : c_accept (xs (6 * u + 1)) ≤ 3 := by unfold c_accept; (repeat' split) <;> decide
    refine lv_aload_n hx hb dL_law_1642 rfl (lv_at hl 3 rfl) ?_
    refine lv_aload_n hx hb dL_law_1643 rfl (lv_at hl 4 rfl) ?_
    refine lv_iload hx hb dL_law_1644 (lv_at hl 0 rfl) ?_
    refine lv_iconst (v := 1) hx hb dL_law_1646 (by decide) ?_
    refine lv_iadd hx hb dL_law_1647 ?_
    rw [show nI (6 * u) + 1 = nI (6 * u + 1) from nI_add ..]
    refine va_sld hx hb hX hbl hbA hS (vp_in_nI (show 6 * u + 1 < L by omega) (by omega)) dL_law_1648 ?_
    rw [nI_clamp (show 6 * u + 1 < 2 ^ 31 by omega)]
    refine lv_aload_n hx hb dL_law_1649 rfl (lv_at hl 4 rfl) ?_
    refine lv_iload hx hb dL_law_1650 (lv_at hl 0 rfl) ?_
    refine lv_iconst (v := 2) hx hb dL_law_1652 (by decide) ?_
    refine lv_iadd hx hb dL_law_1653 ?_
    rw [show nI (6 * u) + 2 = nI (6 * u + 2) from nI_add ..]
    refine va_sld hx hb hX hbl hbA hS (vp_in_nI (show 6 * u + 2 < L by omega) (by omega)) dL_law_1654 ?_
    rw [nI_clamp (show 6 * u + 2 < 2 ^ 31 by omega)]
    refine lv_if_eq (tgt := 1662) hx hb dL_law_1655 (by decide) (fun hc => absurd hc hz) (fun _ => ?_)
    refine lv_iconst (v := 1) hx hb dL_law_1658 (by decide) ?_
    refine lv_goto (tgt := 1663) hx hb dL_law_1659 (by decide) ?_
    refine g_SH (k := 3) F htw hB hS hP (c_L_accept hst G ha hC (xs (6 * u + 1)) (show 1 < 2 by decide)) k2_165 k2_166 k1_0 k2_167 (by decide +kernel) rfl rfl ⟨Nat.le_of_ble_eq_true rfl, Nat.le_of_ble_eq_true rfl⟩ rfl hl.1 rfl (Nat.le_of_ble_eq_true rfl) dL_law_1663 ⟨hc, hs⟩ (fun en1 H locs he hP hS => ?_)
    obtain ⟨pi, dr, S, o, rfl, hC⟩ := he
    refine lv_istore hx hb dL_law_1666 hl (by decide) rfl (fun ls hl => ?_)
    have hl : lv_has ls 8 [(5, .int _), (4, .int _), (3, .ref _), (2, .ref _), (1, .ref _), (0, .ref _)] := hl
    refine lv_aload_n hx hb dL_law_1668 rfl (lv_at hl 3 rfl) ?_
    refine lv_aload_n hx hb dL_law_1669 rfl (lv_at hl 5 rfl) ?_
    refine lv_iload hx hb dL_law_1670 (lv_at hl 1 rfl) ?_
    refine lv_iconst (v := 1) hx hb dL_law_1672 (by decide) ?_
    refine lv_iadd hx hb dL_law_1673 ?_
    rw [show nI (6 * u) + 1 = nI (6 * u + 1) from nI_add ..]
    refine va_sld hx hb hX hbl hbA hS (vp_in_nI (show 6 * u + 1 < L by omega) (by omega)) dL_law_1674 ?_
    rw [nI_clamp (show 6 * u + 1 < 2 ^ 31 by omega)]
    refine lv_aload_n hx hb dL_law_1675 rfl (lv_at hl 5 rfl) ?_
    refine lv_iload hx hb dL_law_1676 (lv_at hl 1 rfl) ?_
    refine lv_iconst (v := 2) hx hb dL_law_1678 (by decide) ?_
    refine lv_iadd hx hb dL_law_1679 ?_
    rw [show nI (6 * u) + 2 = nI (6 * u + 2) from nI_add ..]
    refine va_sld hx hb hX hbl hbA hS (vp_in_nI (show 6 * u + 2 < L by omega) (by omega)) dL_law_1680 ?_
    rw [nI_clamp (show 6 * u + 2 < 2 ^ 31 by omega)]
    refine lv_if_eq (tgt := 1688) hx hb dL_law_1681 (by decide) (fun hc => absurd hc hz) (fun _ => ?_)
    refine lv_iconst (v := 1) hx hb dL_law_1684 (by decide) ?_
    refine lv_goto (tgt := 1689) hx hb dL_law_1685 (by decide) ?_
    refine g_V (k := 2) F htw hB hS hP (17) (by decide) rfl rfl (c_M_accept G ha hR (xs (6 * u + 1)) (show 1 < 2 by decide)) k3_104 k3_105 k3_106 k1_5 k3_107 (by decide +kernel) rfl rfl ⟨Nat.le_of_ble_eq_true rfl, Nat.le_of_ble_eq_true rfl⟩ rfl hl.1 rfl (Nat.le_of_ble_eq_true rfl) dL_law_1689 ⟨hc, hs⟩ (fun en1 H locs he hP hS => ?_)
    obtain ⟨M, rfl, h00, hR⟩ := he
    refine lv_aload_n hx hb dL_law_1692 rfl (lv_at hl 3 rfl) ?_
    refine g_V (k := 0) F htw hB hS hP (17) (by decide) rfl rfl (c_M_thrown) k2_230 k2_231 k2_232 k1_5 k2_233 (by decide +kernel) rfl rfl ⟨Nat.le_of_ble_eq_true rfl, Nat.le_of_ble_eq_true rfl⟩ rfl hl.1 rfl (Nat.le_of_ble_eq_true rfl) dL_law_1693 ⟨hc, hs⟩ (fun en1 H locs he hP hS => ?_)
    obtain rfl := he
    rw [h00]
    refine lv_iload hx hb dL_law_1696 (lv_at hl 0 rfl) ?_
    refine lv_icmp_eq (tgt := 1703) hx hb dL_law_1698 (by decide) (fun _ => ?_) (fun hc => absurd rfl hc)
    refine lv_goto (tgt := 1890) hx hb dL_law_1703 (by decide) ?_
    have hl : lv_has ls 8 [(4, .int (nI (6 * u))), (3, .ref (ad 24)), (2, .ref (ad 17)), (1, .ref (ad 0)), (0, .ref b)] := lv_sub hl [1, 2, 3, 4, 5] rfl
    exact kk _ _ _ _ _ _ _ _ _ (k_accept hA (xs (6 * u + 1)) (show 1 < 2 by decide)) hC hR hl hP hS
set_option maxHeartbeats 4000000 in
set_option maxRecDepth 100000 in
theorem law_run (hst : l.stackTraces = false) (F : CallFix p m c code 8 s #[Value.ref b] tws "PairedTextsLaw") (htw : tw D cI cZ cT cJ base s) (hB : base ≤ s.heap.size) (G : gGeo ad 25 base) (hX : va_X b L xs s s.heap) (hbl : b < s.heap.size) (hbA : ¬ gA base b) (hL : L ≤ 3072) (hu : 6 * u + 6 ≤ L) (hA : aok a) (hC : RepC pi dr S a) (hR : RepM M a) (hl : lv_has ls 8 [(4, .int (nI (6 * u))), (3, .ref (ad 24)), (2, .ref (ad 17)), (1, .ref (ad 0)), (0, .ref b)]) (hP : va_P D cl (gw ad (en ad cI cZ cT cJ pi dr S M o) 25) H) (hS : va_S (gA base) s.heap H locs) (hc : cells + 1 ≤ 601024) (hs : slots + 6 ≤ 7293034)
    (kk : ∀ (pi : Nat → Nat) (dr : Nat) (S M : Nat → Nat → Int32) (o : Nat → Int64) (a : Ab) (ls : Array Slot) (H : Heap) (locs : List Loc), aok a → RepC pi dr S a → RepM M a → lv_has ls 8 [(4, .int (nI (6 * u))), (3, .ref (ad 24)), (2, .ref (ad 17)), (1, .ref (ad 0)), (0, .ref b)] → va_P D cl (gw ad (en ad cI cZ cT cJ pi dr S M o) 25) H → va_S (gA base) s.heap H locs → W p l e room_1 s m #[Value.ref b] below meth c H locs (cells + 1) (slots + 6) Q (F0 m 1890 ls [])) : W p l e room_1 s m #[Value.ref b] below meth c H locs cells slots Q (F0 m 1706 ls []) := by
  have hx := F.1
  have hb := F.2.1
  have hown := F.2.2.2.1
  have hts := F.2.2.2.2
  have hK := htw.1
  have ha := hA.ok
  have hK3 : c_run a (xs (6 * u + 1)) (xs (6 * u + 2)) (xs (6 * u + 3)) (xs (6 * u + 4)) ≤ 3 := by unfold c_run; (repeat' split) <;> decide
  refine lv_aload_n hx hb dL_law_1706 rfl (lv_at hl 3 rfl) ?_
  refine lv_aload_n hx hb dL_law_1707 rfl (lv_at hl 4 rfl) ?_
  refine lv_iload hx hb dL_law_1708 (lv_at hl 0 rfl) ?_
  refine lv_iconst (v := 1) hx hb dL_law_1710 (by decide) ?_
  refine lv_iadd hx hb dL_law_1711 ?_
  rw [show nI (6 * u) + 1 = nI (6 * u + 1) from nI_add ..]
  refine va_sld hx hb hX hbl hbA hS (vp_in_nI (show 6 * u + 1 < L by omega) (by omega)) dL_law_1712 ?_
  rw [nI_clamp (show 6 * u + 1 < 2 ^ 31 by omega)]
  refine lv_aload_n hx hb dL_law_1713 rfl (lv_at hl 4 rfl) ?_
  refine lv_iload hx hb dL_law_1714 (lv_at hl 0 rfl) ?_
  refine lv_iconst (v := 2) hx hb dL_law_1716 (by decide) ?_
  refine lv_iadd hx hb dL_law_1717 ?_
  rw [show nI (6 * u) + 2 = nI (6 * u + 2) from nI_add ..]
  refine va_sld hx hb hX hbl hbA hS (vp_in_nI (show 6 * u + 2 < L by omega) (by omega)) dL_law_1718 ?_
  rw [nI_clamp (show 6 * u + 2 < 2 ^ 31 by omega)]
  refine lv_aload_n hx hb dL_law_1719 rfl (lv_at hl 4 rfl) ?_
  refine lv_iload hx hb dL_law_1720 (lv_at hl 0 rfl) ?_
  refine lv_iconst (v := 3) hx hb dL_law_1722 (by decide) ?_
  refine lv_iadd hx hb dL_law_1723 ?_
  rw [show nI (6 * u) + 3 = nI (6 * u + 3) from nI_add ..]
  refine va_sld hx hb hX hbl hbA hS (vp_in_nI (show 6 * u + 3 < L by omega) (by omega)) dL_law_1724 ?_
  rw [nI_clamp (show 6 * u + 3 < 2 ^ 31 by omega)]
  refine lv_aload_n hx hb dL_law_1725 rfl (lv_at hl 4 rfl) ?_
  refine lv_iload hx hb dL_law_1726 (lv_at hl 0 rfl) ?_
  refine lv_iconst (v := 4) hx hb dL_law_1728 (by decide) ?_
  refine lv_iadd hx hb dL_law_1729 ?_
  rw [show nI (6 * u) + 4 = nI (6 * u + 4) from nI_add ..]
  refine va_sld hx hb hX hbl hbA hS (vp_in_nI (show 6 * u + 4 < L by omega) (by omega)) dL_law_1730 ?_
  rw [nI_clamp (show 6 * u + 4 < 2 ^ 31 by omega)]
  refine lv_aload_n hx hb dL_law_1731 rfl (lv_at hl 1 rfl) ?_
  refine g_SH (k := 6) F htw hB hS hP (c_L_run hst G ha hC (xs (6 * u + 1)) (xs (6 * u + 2)) (xs (6 * u + 3)) (xs (6 * u + 4))) k2_172 k2_173 k1_0 k2_174 (by decide +kernel) rfl rfl ⟨Nat.le_of_ble_eq_true rfl, Nat.le_of_ble_eq_true rfl⟩ rfl hl.1 rfl (Nat.le_of_ble_eq_true rfl) dL_law_1732 ⟨hc, hs⟩ (fun en1 H locs he hP hS => ?_)
  obtain ⟨pi, dr, S, o, rfl, hC, hO⟩ := he
  refine lv_istore hx hb dL_law_1735 hl (by decide) rfl (fun ls hl => ?_)
  have hl : lv_has ls 8 [(5, .int _), (4, .int _), (3, .ref _), (2, .ref _), (1, .ref _), (0, .ref _)] := hl
  refine lv_aload_n hx hb dL_law_1737 rfl (lv_at hl 3 rfl) ?_
  refine lv_aload_n hx hb dL_law_1738 rfl (lv_at hl 5 rfl) ?_
  refine lv_iload hx hb dL_law_1739 (lv_at hl 1 rfl) ?_
  refine lv_iconst (v := 1) hx hb dL_law_1741 (by decide) ?_
  refine lv_iadd hx hb dL_law_1742 ?_
  rw [show nI (6 * u) + 1 = nI (6 * u + 1) from nI_add ..]
  refine va_sld hx hb hX hbl hbA hS (vp_in_nI (show 6 * u + 1 < L by omega) (by omega)) dL_law_1743 ?_
  rw [nI_clamp (show 6 * u + 1 < 2 ^ 31 by omega)]
  refine lv_aload_n hx hb dL_law_1744 rfl (lv_at hl 5 rfl) ?_
  refine lv_iload hx hb dL_law_1745 (lv_at hl 1 rfl) ?_
  refine lv_iconst (v := 2) hx hb dL_law_1747 (by decide) ?_
  refine lv_iadd hx hb dL_law_1748 ?_
  rw [show nI (6 * u) + 2 = nI (6 * u + 2) from nI_add ..]
  refine va_sld hx hb hX hbl hbA hS (vp_in_nI (show 6 * u + 2 < L by omega) (by omega)) dL_law_1749 ?_
  rw [nI_clamp (show 6 * u + 2 < 2 ^ 31 by omega)]
  refine lv_aload_n hx hb dL_law_1750 rfl (lv_at hl 5 rfl) ?_
  refine lv_iload hx hb dL_law_1751 (lv_at hl 1 rfl) ?_
  refine lv_iconst (v := 3) hx hb dL_law_1753 (by decide) ?_
  refine lv_iadd hx hb dL_law_1754 ?_
  rw [show nI (6 * u) + 3 = nI (6 * u + 3) from nI_add ..]
  refine va_sld hx hb hX hbl hbA hS (vp_in_nI (show 6 * u + 3 < L by omega) (by omega)) dL_law_1755 ?_
  rw [nI_clamp (show 6 * u + 3 < 2 ^ 31 by omega)]
  refine lv_aload_n hx hb dL_law_1756 rfl (lv_at hl 5 rfl) ?_
  refine lv_iload hx hb dL_law_1757 (lv_at hl 1 rfl) ?_
  refine lv_iconst (v := 4) hx hb dL_law_1759 (by decide) ?_
  refine lv_iadd hx hb dL_law_1760 ?_
  rw [show nI (6 * u) + 4 = nI (6 * u + 4) from nI_add ..]
  refine va_sld hx hb hX hbl hbA hS (vp_in_nI (show 6 * u + 4 < L by omega) (by omega)) dL_law_1761 ?_
  rw [nI_clamp (show 6 * u + 4 < 2 ^ 31 by omega)]
  refine g_V (k := 4) F htw hB hS hP (17) (by decide) rfl rfl (c_M_run G ha hR (xs (6 * u + 1)) (xs (6 * u + 2)) (xs (6 * u + 3)) (xs (6 * u + 4))) k3_108 k3_109 k3_110 k1_5 k3_111 (by decide +kernel) rfl rfl ⟨Nat.le_of_ble_eq_true rfl, Nat.le_of_ble_eq_true rfl⟩ rfl hl.1 rfl (Nat.le_of_ble_eq_true rfl) dL_law_1762 ⟨hc, hs⟩ (fun en1 H locs he hP hS => ?_)
  obtain ⟨M, rfl, h00, hR⟩ := he
  refine lv_istore hx hb dL_law_1765 hl (by decide) rfl (fun ls hl => ?_)
  have hl : lv_has ls 8 [(6, .int _), (5, .int _), (4, .int _), (3, .ref _), (2, .ref _), (1, .ref _), (0, .ref _)] := hl
  refine lv_aload_n hx hb dL_law_1767 rfl (lv_at hl 4 rfl) ?_
  refine g_V (k := 0) F htw hB hS hP (17) (by decide) rfl rfl (c_M_thrown) k2_230 k2_231 k2_232 k1_5 k2_233 (by decide +kernel) rfl rfl ⟨Nat.le_of_ble_eq_true rfl, Nat.le_of_ble_eq_true rfl⟩ rfl hl.1 rfl (Nat.le_of_ble_eq_true rfl) dL_law_1768 ⟨hc, hs⟩ (fun en1 H locs he hP hS => ?_)
  obtain rfl := he
  rw [h00]
  refine lv_iload hx hb dL_law_1771 (lv_at hl 1 rfl) ?_
  refine lv_icmp_eq (tgt := 1778) hx hb dL_law_1773 (by decide) (fun _ => ?_) (fun hc => absurd rfl hc)
  refine lv_iload hx hb dL_law_1778 (lv_at hl 1 rfl) ?_
  refine lv_if_ne (tgt := 1795) hx hb dL_law_1780 (by decide) (fun hz0 => ?_) (fun hz0 => ?_)
  · refine lv_goto (tgt := 1890) hx hb dL_law_1795 (by decide) ?_
    have hl : lv_has ls 8 [(4, .int (nI (6 * u))), (3, .ref (ad 24)), (2, .ref (ad 17)), (1, .ref (ad 0)), (0, .ref b)] := lv_sub hl [2, 3, 4, 5, 6] rfl
    exact kk _ _ _ _ _ _ _ _ _ (k_same hA) hC hR hl hP hS
  · rw [show (0 : Int32) = nI 0 from rfl, nI_eq (show c_run a (xs (6 * u + 1)) (xs (6 * u + 2)) (xs (6 * u + 3)) (xs (6 * u + 4)) < 2 ^ 31 by omega) (by decide)] at hz0
    have hO := hO hz0
    refine lv_aload_n hx hb dL_law_1783 rfl (lv_at hl 3 rfl) ?_
    refine lv_iconst (v := 0) hx hb dL_law_1784 (by decide) ?_
    refine g_lald F hK hP (24) (by decide) 3 rfl rfl (vp_in_nI (n := 0) (N := 1) (by decide) (by decide)) dL_law_1785 ?_
    rw [show o (Int32.toNatClampNeg 0) = _ from hO]
    refine lv_iload hx hb dL_law_1786 (lv_at hl 0 rfl) ?_
    refine lv_i2l hx hb dL_law_1788 rfl ?_
    refine W.lcmp hx hb dL_law_1789 ?_
    refine lv_if_eq (tgt := 1795) hx hb dL_law_1790 (by decide) (fun _ => ?_) (fun hc => absurd (by rw [lg_cmp_eq, if_pos hz0]) hc)
    refine lv_goto (tgt := 1890) hx hb dL_law_1795 (by decide) ?_
    have hl : lv_has ls 8 [(4, .int (nI (6 * u))), (3, .ref (ad 24)), (2, .ref (ad 17)), (1, .ref (ad 0)), (0, .ref b)] := lv_sub hl [2, 3, 4, 5, 6] rfl
    exact kk _ _ _ _ _ _ _ _ _ (k_same hA) hC hR hl hP hS
set_option maxHeartbeats 4000000 in
set_option maxRecDepth 100000 in
theorem law_accepted (hst : l.stackTraces = false) (F : CallFix p m c code 8 s #[Value.ref b] tws "PairedTextsLaw") (htw : tw D cI cZ cT cJ base s) (hB : base ≤ s.heap.size) (G : gGeo ad 25 base) (hX : va_X b L xs s s.heap) (hbl : b < s.heap.size) (hbA : ¬ gA base b) (hL : L ≤ 3072) (hu : 6 * u + 6 ≤ L) (hA : aok a) (hC : RepC pi dr S a) (hR : RepM M a) (hl : lv_has ls 8 [(4, .int (nI (6 * u))), (3, .ref (ad 24)), (2, .ref (ad 17)), (1, .ref (ad 0)), (0, .ref b)]) (hP : va_P D cl (gw ad (en ad cI cZ cT cJ pi dr S M o) 25) H) (hS : va_S (gA base) s.heap H locs) (hc : cells + 1 ≤ 601024) (hs : slots + 6 ≤ 7293034)
    (kk : ∀ (pi : Nat → Nat) (dr : Nat) (S M : Nat → Nat → Int32) (o : Nat → Int64) (a : Ab) (ls : Array Slot) (H : Heap) (locs : List Loc), aok a → RepC pi dr S a → RepM M a → lv_has ls 8 [(4, .int (nI (6 * u))), (3, .ref (ad 24)), (2, .ref (ad 17)), (1, .ref (ad 0)), (0, .ref b)] → va_P D cl (gw ad (en ad cI cZ cT cJ pi dr S M o) 25) H → va_S (gA base) s.heap H locs → W p l e room_1 s m #[Value.ref b] below meth c H locs (cells + 1) (slots + 6) Q (F0 m 1890 ls [])) : W p l e room_1 s m #[Value.ref b] below meth c H locs cells slots Q (F0 m 1798 ls []) := by
  have hx := F.1
  have hb := F.2.1
  have hown := F.2.2.2.1
  have hts := F.2.2.2.2
  have hK := htw.1
  have ha := hA.ok
  have hK3 : c_run a (xs (6 * u + 1)) (xs (6 * u + 2)) (xs (6 * u + 3)) (xs (6 * u + 4)) ≤ 3 := by unfold c_run; (repeat' split) <;> decide
  refine lv_aload_n hx hb dL_law_1798 rfl (lv_at hl 3 rfl) ?_
  refine lv_aload_n hx hb dL_law_1799 rfl (lv_at hl 4 rfl) ?_
  refine lv_iload hx hb dL_law_1800 (lv_at hl 0 rfl) ?_
  refine lv_iconst (v := 1) hx hb dL_law_1802 (by decide) ?_
  refine lv_iadd hx hb dL_law_1803 ?_
  rw [show nI (6 * u) + 1 = nI (6 * u + 1) from nI_add ..]
  refine va_sld hx hb hX hbl hbA hS (vp_in_nI (show 6 * u + 1 < L by omega) (by omega)) dL_law_1804 ?_
  rw [nI_clamp (show 6 * u + 1 < 2 ^ 31 by omega)]
  refine lv_aload_n hx hb dL_law_1805 rfl (lv_at hl 4 rfl) ?_
  refine lv_iload hx hb dL_law_1806 (lv_at hl 0 rfl) ?_
  refine lv_iconst (v := 2) hx hb dL_law_1808 (by decide) ?_
  refine lv_iadd hx hb dL_law_1809 ?_
  rw [show nI (6 * u) + 2 = nI (6 * u + 2) from nI_add ..]
  refine va_sld hx hb hX hbl hbA hS (vp_in_nI (show 6 * u + 2 < L by omega) (by omega)) dL_law_1810 ?_
  rw [nI_clamp (show 6 * u + 2 < 2 ^ 31 by omega)]
  refine lv_aload_n hx hb dL_law_1811 rfl (lv_at hl 4 rfl) ?_
  refine lv_iload hx hb dL_law_1812 (lv_at hl 0 rfl) ?_
  refine lv_iconst (v := 3) hx hb dL_law_1814 (by decide) ?_
  refine lv_iadd hx hb dL_law_1815 ?_
  rw [show nI (6 * u) + 3 = nI (6 * u + 3) from nI_add ..]
  refine va_sld hx hb hX hbl hbA hS (vp_in_nI (show 6 * u + 3 < L by omega) (by omega)) dL_law_1816 ?_
  rw [nI_clamp (show 6 * u + 3 < 2 ^ 31 by omega)]
  refine lv_aload_n hx hb dL_law_1817 rfl (lv_at hl 4 rfl) ?_
  refine lv_iload hx hb dL_law_1818 (lv_at hl 0 rfl) ?_
  refine lv_iconst (v := 4) hx hb dL_law_1820 (by decide) ?_
  refine lv_iadd hx hb dL_law_1821 ?_
  rw [show nI (6 * u) + 4 = nI (6 * u + 4) from nI_add ..]
  refine va_sld hx hb hX hbl hbA hS (vp_in_nI (show 6 * u + 4 < L by omega) (by omega)) dL_law_1822 ?_
  rw [nI_clamp (show 6 * u + 4 < 2 ^ 31 by omega)]
  refine lv_aload_n hx hb dL_law_1823 rfl (lv_at hl 1 rfl) ?_
  refine g_SH (k := 6) F htw hB hS hP (c_L_accepted hst G ha hC (xs (6 * u + 1)) (xs (6 * u + 2)) (xs (6 * u + 3)) (xs (6 * u + 4))) k2_183 k2_184 k1_0 k2_185 (by decide +kernel) rfl rfl ⟨Nat.le_of_ble_eq_true rfl, Nat.le_of_ble_eq_true rfl⟩ rfl hl.1 rfl (Nat.le_of_ble_eq_true rfl) dL_law_1824 ⟨hc, hs⟩ (fun en1 H locs he hP hS => ?_)
  obtain ⟨pi, dr, S, o, rfl, hC, hO⟩ := he
  refine lv_istore hx hb dL_law_1827 hl (by decide) rfl (fun ls hl => ?_)
  have hl : lv_has ls 8 [(5, .int _), (4, .int _), (3, .ref _), (2, .ref _), (1, .ref _), (0, .ref _)] := hl
  refine lv_aload_n hx hb dL_law_1829 rfl (lv_at hl 3 rfl) ?_
  refine lv_aload_n hx hb dL_law_1830 rfl (lv_at hl 5 rfl) ?_
  refine lv_iload hx hb dL_law_1831 (lv_at hl 1 rfl) ?_
  refine lv_iconst (v := 1) hx hb dL_law_1833 (by decide) ?_
  refine lv_iadd hx hb dL_law_1834 ?_
  rw [show nI (6 * u) + 1 = nI (6 * u + 1) from nI_add ..]
  refine va_sld hx hb hX hbl hbA hS (vp_in_nI (show 6 * u + 1 < L by omega) (by omega)) dL_law_1835 ?_
  rw [nI_clamp (show 6 * u + 1 < 2 ^ 31 by omega)]
  refine lv_aload_n hx hb dL_law_1836 rfl (lv_at hl 5 rfl) ?_
  refine lv_iload hx hb dL_law_1837 (lv_at hl 1 rfl) ?_
  refine lv_iconst (v := 2) hx hb dL_law_1839 (by decide) ?_
  refine lv_iadd hx hb dL_law_1840 ?_
  rw [show nI (6 * u) + 2 = nI (6 * u + 2) from nI_add ..]
  refine va_sld hx hb hX hbl hbA hS (vp_in_nI (show 6 * u + 2 < L by omega) (by omega)) dL_law_1841 ?_
  rw [nI_clamp (show 6 * u + 2 < 2 ^ 31 by omega)]
  refine lv_aload_n hx hb dL_law_1842 rfl (lv_at hl 5 rfl) ?_
  refine lv_iload hx hb dL_law_1843 (lv_at hl 1 rfl) ?_
  refine lv_iconst (v := 3) hx hb dL_law_1845 (by decide) ?_
  refine lv_iadd hx hb dL_law_1846 ?_
  rw [show nI (6 * u) + 3 = nI (6 * u + 3) from nI_add ..]
  refine va_sld hx hb hX hbl hbA hS (vp_in_nI (show 6 * u + 3 < L by omega) (by omega)) dL_law_1847 ?_
  rw [nI_clamp (show 6 * u + 3 < 2 ^ 31 by omega)]
  refine lv_aload_n hx hb dL_law_1848 rfl (lv_at hl 5 rfl) ?_
  refine lv_iload hx hb dL_law_1849 (lv_at hl 1 rfl) ?_
  refine lv_iconst (v := 4) hx hb dL_law_1851 (by decide) ?_
  refine lv_iadd hx hb dL_law_1852 ?_
  rw [show nI (6 * u) + 4 = nI (6 * u + 4) from nI_add ..]
  refine va_sld hx hb hX hbl hbA hS (vp_in_nI (show 6 * u + 4 < L by omega) (by omega)) dL_law_1853 ?_
  rw [nI_clamp (show 6 * u + 4 < 2 ^ 31 by omega)]
  refine g_V (k := 4) F htw hB hS hP (17) (by decide) rfl rfl (c_M_accepted G ha hR (xs (6 * u + 1)) (xs (6 * u + 2)) (xs (6 * u + 3)) (xs (6 * u + 4))) k3_116 k3_117 k3_118 k1_5 k3_119 (by decide +kernel) rfl rfl ⟨Nat.le_of_ble_eq_true rfl, Nat.le_of_ble_eq_true rfl⟩ rfl hl.1 rfl (Nat.le_of_ble_eq_true rfl) dL_law_1854 ⟨hc, hs⟩ (fun en1 H locs he hP hS => ?_)
  obtain ⟨M, rfl, h00, hR⟩ := he
  refine lv_istore hx hb dL_law_1857 hl (by decide) rfl (fun ls hl => ?_)
  have hl : lv_has ls 8 [(6, .int _), (5, .int _), (4, .int _), (3, .ref _), (2, .ref _), (1, .ref _), (0, .ref _)] := hl
  refine lv_aload_n hx hb dL_law_1859 rfl (lv_at hl 4 rfl) ?_
  refine g_V (k := 0) F htw hB hS hP (17) (by decide) rfl rfl (c_M_thrown) k2_230 k2_231 k2_232 k1_5 k2_233 (by decide +kernel) rfl rfl ⟨Nat.le_of_ble_eq_true rfl, Nat.le_of_ble_eq_true rfl⟩ rfl hl.1 rfl (Nat.le_of_ble_eq_true rfl) dL_law_1860 ⟨hc, hs⟩ (fun en1 H locs he hP hS => ?_)
  obtain rfl := he
  rw [h00]
  refine lv_iload hx hb dL_law_1863 (lv_at hl 1 rfl) ?_
  refine lv_icmp_eq (tgt := 1870) hx hb dL_law_1865 (by decide) (fun _ => ?_) (fun hc => absurd rfl hc)
  refine lv_iload hx hb dL_law_1870 (lv_at hl 1 rfl) ?_
  refine lv_if_ne (tgt := 1887) hx hb dL_law_1872 (by decide) (fun hz0 => ?_) (fun hz0 => ?_)
  · refine lv_goto (tgt := 1890) hx hb dL_law_1887 (by decide) ?_
    have hl : lv_has ls 8 [(4, .int (nI (6 * u))), (3, .ref (ad 24)), (2, .ref (ad 17)), (1, .ref (ad 0)), (0, .ref b)] := lv_sub hl [2, 3, 4, 5, 6] rfl
    exact kk _ _ _ _ _ _ _ _ _ (k_same hA) hC hR hl hP hS
  · rw [show (0 : Int32) = nI 0 from rfl, nI_eq (show c_run a (xs (6 * u + 1)) (xs (6 * u + 2)) (xs (6 * u + 3)) (xs (6 * u + 4)) < 2 ^ 31 by omega) (by decide)] at hz0
    have hO := hO hz0
    refine lv_aload_n hx hb dL_law_1875 rfl (lv_at hl 3 rfl) ?_
    refine lv_iconst (v := 0) hx hb dL_law_1876 (by decide) ?_
    refine g_lald F hK hP (24) (by decide) 3 rfl rfl (vp_in_nI (n := 0) (N := 1) (by decide) (by decide)) dL_law_1877 ?_
    rw [show o (Int32.toNatClampNeg 0) = _ from hO]
    refine lv_iload hx hb dL_law_1878 (lv_at hl 0 rfl) ?_
    refine lv_i2l hx hb dL_law_1880 rfl ?_
    refine W.lcmp hx hb dL_law_1881 ?_
    refine lv_if_eq (tgt := 1887) hx hb dL_law_1882 (by decide) (fun _ => ?_) (fun hc => absurd (by rw [lg_cmp_eq, if_pos hz0]) hc)
    refine lv_goto (tgt := 1890) hx hb dL_law_1887 (by decide) ?_
    have hl : lv_has ls 8 [(4, .int (nI (6 * u))), (3, .ref (ad 24)), (2, .ref (ad 17)), (1, .ref (ad 0)), (0, .ref b)] := lv_sub hl [2, 3, 4, 5, 6] rfl
    exact kk _ _ _ _ _ _ _ _ _ (k_same hA) hC hR hl hP hS
end S2
