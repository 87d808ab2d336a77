/-! What holds at the start. -/
theorem ncs {args : Array Value} {s : State} {X Y : String} (h : (Cond.not (Cond.castable X Y)).before args s = true) : ∃ ci cj, s.vm.findClass X = some ci ∧ s.vm.findClass Y = some cj ∧ s.vm.assignable ci cj = false := by
  simp only [Cond.before, Cond.holds, Cond.value] at h
  cases hc : s.vm.findClass X with
  | none => simp [hc] at h
  | some c =>
    cases ht : s.vm.findClass Y with
    | none => simp [hc, ht] at h
    | some t => exact ⟨c, t, rfl, rfl, by simpa [hc, ht] using h⟩
set_option maxHeartbeats 4000000 in
set_option maxRecDepth 100000 in
theorem tw_start {s : State} {b : Nat} (hts : ∀ w ∈ lw_tbl, w.before #[Value.ref b] s = true) (hg : (Jvm.Cond.and given_1 narrow_1).before #[Value.ref b] s = true) : ∃ (D : va_G) (cI cZ cT cJ : ClassId), tw D cI cZ cT cJ s.heap.size s := by
  have hw : ∀ w ∈ tws, w.before #[Value.ref b] s = true := fun w h => hts w (List.mem_filter.mp h).1
  have hn := flat_of_before _ hg
  obtain ⟨c0, i0, h0⟩ := u_known hw iP (hw _ k1_16)
  obtain ⟨c1, i1, h1⟩ := u_known hw iT (hw _ k1_25)
  obtain ⟨c2, i2, h2⟩ := u_known hw iQ (hw _ k1_42)
  obtain ⟨c3, i3, h3⟩ := u_known hw iA (hw _ k1_56)
  obtain ⟨c4, i4, h4⟩ := u_known hw iM (hw _ k2_191)
  obtain ⟨cI, kI, mI, fI, gI, eI⟩ := Cond.arrayClass_spec (hw _ k1_40)
  obtain ⟨cZ, kZ, mZ, fZ, gZ, eZ⟩ := Cond.arrayClass_spec (hw _ k1_69)
  obtain ⟨cJ, kJ, mJ, fJ, gJ, eJ⟩ := Cond.arrayClass_spec (hw _ k3_121)
  have hao := hts _ (List.mem_append_right _ (List.mem_append_left _ (List.mem_of_getElem? (i := 24) rfl)))
  obtain ⟨mT, cT, kT, t1, t2, t3, t4, t5⟩ := Cond.arrayOver_spec hao
  have hA : ∀ a : Nat, a < s.heap.size → ¬ gA s.heap.size a := fun a h h2 => absurd h (Nat.not_lt.mpr h2)
  have l0 := hts _ (List.mem_append_right _ (List.mem_append_left _ (List.mem_of_getElem? (i := 126) rfl)))
  have r0 : (Cond.isRef (.static "java/lang/Throwable" "UNASSIGNED_STACK" "[Ljava/lang/StackTraceElement;")).before #[Value.ref b] s = true := hn _ (by decide +kernel)
  have l1 := hts _ (List.mem_append_right _ (List.mem_append_left _ (List.mem_of_getElem? (i := 128) rfl)))
  have r1 : (Cond.isRef (.static "java/lang/Throwable" "SUPPRESSED_SENTINEL" "Ljava/util/List;")).before #[Value.ref b] s = true := hn _ (by decide +kernel)
  refine ⟨(fun c => match c with | 0 => c0 | 1 => c1 | 2 => c2 | 3 => c3 | _ => c4, fun c => match c with | 0 => i0 | 1 => i1 | 2 => i2 | 3 => i3 | _ => i4), cI, cZ, cT, cJ, ⟨fun c q h => ?_, fun k q h => ?_⟩, ?_, ?_, ⟨va_Zqof l0 (hw _ k1_6) r0 hA, tx_L.of l0 hA⟩, ⟨va_Zqof l1 (hw _ k1_6) r1 hA, tx_L.of l1 hA⟩, va_AO.of hao, ?_, ?_⟩
  · match c, h with
    | 0, h => cases h; exact h0
    | 1, h => cases h; exact h1
    | 2, h => cases h; exact h2
    | 3, h => cases h; exact h3
    | 4, h => cases h; exact h4
    | c + 5, h => exact absurd h (by simp)
  · match k, h with
    | 0, h => cases h; exact ⟨fun N z => ⟨(fun k h => by cases h), kI, gI, mI, eI⟩, fI⟩
    | 1, h => cases h; exact ⟨fun N z => ⟨(fun k h => by cases h), kZ, gZ, mZ, eZ⟩, fZ⟩
    | 2, h => cases h; exact ⟨fun N z => ⟨(fun k h => by cases h), kT, t3, mT, t4⟩, kT, mT, t3, t4, t1, t5⟩
    | 3, h => cases h; exact ⟨fun N z => ⟨(fun k h => by cases h), kJ, gJ, mJ, eJ⟩, fJ⟩
    | k + 4, h => exact absurd h (by simp)
  · exact List.forall_mem_cons.mpr ⟨va_Nw.of rfl (hts _ (List.mem_append_right _ (List.mem_append_left _ (List.mem_of_getElem? (i := 26) rfl)))), List.forall_mem_cons.mpr ⟨va_Nw.of rfl (hts _ (List.mem_append_right _ (List.mem_append_left _ (List.mem_of_getElem? (i := 43) rfl)))), List.forall_mem_cons.mpr ⟨va_Nw.of rfl (hts _ (List.mem_append_right _ (List.mem_append_left _ (List.mem_of_getElem? (i := 57) rfl)))), List.forall_mem_cons.mpr ⟨va_Nw.of rfl (hts _ (List.mem_append_right _ (List.mem_append_right _ (List.mem_append_left _ (List.mem_of_getElem? (i := 110) rfl))))), fun _ h => absurd h List.not_mem_nil⟩⟩⟩⟩
  · obtain ⟨a123, _, _, _, e123, _⟩ := Cond.exactly_spec (hn (Cond.exactly (.string "PairedTexts" 123) "java/lang/String") (by decide +kernel))
    obtain ⟨a130, _, _, _, e130, _⟩ := Cond.exactly_spec (hn (Cond.exactly (.string "PairedTexts" 130) "java/lang/String") (by decide +kernel))
    obtain ⟨a141, _, _, _, e141, _⟩ := Cond.exactly_spec (hn (Cond.exactly (.string "PairedTexts" 141) "java/lang/String") (by decide +kernel))
    obtain ⟨a134, _, _, _, e134, _⟩ := Cond.exactly_spec (hn (Cond.exactly (.string "PairedTexts" 134) "java/lang/String") (by decide +kernel))
    obtain ⟨a147, _, _, _, e147, _⟩ := Cond.exactly_spec (hn (Cond.exactly (.string "PairedTexts" 147) "java/lang/String") (by decide +kernel))
    obtain ⟨a128, _, _, _, e128, _⟩ := Cond.exactly_spec (hn (Cond.exactly (.string "PairedTexts" 128) "java/lang/String") (by decide +kernel))
    exact List.forall_mem_cons.mpr ⟨⟨a123, vk_R.of (hts _ (List.mem_append_right _ (List.mem_append_left _ (List.mem_of_getElem? (i := 141) rfl)))) e123⟩, List.forall_mem_cons.mpr ⟨⟨a130, vk_R.of (hts _ (List.mem_append_right _ (List.mem_append_left _ (List.mem_of_getElem? (i := 171) rfl)))) e130⟩, List.forall_mem_cons.mpr ⟨⟨a141, vk_R.of (hts _ (List.mem_append_right _ (List.mem_append_left _ (List.mem_of_getElem? (i := 185) rfl)))) e141⟩, List.forall_mem_cons.mpr ⟨⟨a134, vk_R.of (hts _ (List.mem_append_right _ (List.mem_append_left _ (List.mem_of_getElem? (i := 226) rfl)))) e134⟩, List.forall_mem_cons.mpr ⟨⟨a147, vk_R.of (hts _ (List.mem_append_right _ (List.mem_append_right _ (List.mem_append_left _ (List.mem_of_getElem? (i := 132) rfl))))) e147⟩, List.forall_mem_cons.mpr ⟨⟨a128, vk_R.of (hts _ (List.mem_append_right _ (List.mem_append_right _ (List.mem_append_left _ (List.mem_of_getElem? (i := 160) rfl))))) e128⟩, fun _ h => absurd h List.not_mem_nil⟩⟩⟩⟩⟩⟩
  · exact List.forall_mem_cons.mpr ⟨va_Nw.of rfl (hts _ (List.mem_append_right _ (List.mem_append_left _ (List.mem_of_getElem? (i := 103) rfl)))), List.forall_mem_cons.mpr ⟨va_Nw.of rfl (hts _ (List.mem_append_right _ (List.mem_append_left _ (List.mem_of_getElem? (i := 105) rfl)))), List.forall_mem_cons.mpr ⟨va_Nw.of rfl (hts _ (List.mem_append_right _ (List.mem_append_left _ (List.mem_of_getElem? (i := 107) rfl)))), fun _ h => absurd h List.not_mem_nil⟩⟩⟩
  · intro i j hi hj hij
    have n01 := ncs (hn (Cond.not (Cond.castable "java/lang/IllegalArgumentException" "java/lang/IndexOutOfBoundsException")) (by decide +kernel))
    have n02 := ncs (hn (Cond.not (Cond.castable "java/lang/IllegalArgumentException" "java/lang/UnsupportedOperationException")) (by decide +kernel))
    have n03 := ncs (hn (Cond.not (Cond.castable "java/lang/IllegalArgumentException" "java/lang/IllegalStateException")) (by decide +kernel))
    have n10 := ncs (hn (Cond.not (Cond.castable "java/lang/IndexOutOfBoundsException" "java/lang/IllegalArgumentException")) (by decide +kernel))
    have n12 := ncs (hn (Cond.not (Cond.castable "java/lang/IndexOutOfBoundsException" "java/lang/UnsupportedOperationException")) (by decide +kernel))
    have n13 := ncs (hn (Cond.not (Cond.castable "java/lang/IndexOutOfBoundsException" "java/lang/IllegalStateException")) (by decide +kernel))
    have n20 := ncs (hn (Cond.not (Cond.castable "java/lang/UnsupportedOperationException" "java/lang/IllegalArgumentException")) (by decide +kernel))
    have n21 := ncs (hn (Cond.not (Cond.castable "java/lang/UnsupportedOperationException" "java/lang/IndexOutOfBoundsException")) (by decide +kernel))
    have n23 := ncs (hn (Cond.not (Cond.castable "java/lang/UnsupportedOperationException" "java/lang/IllegalStateException")) (by decide +kernel))
    have n30 := ncs (hn (Cond.not (Cond.castable "java/lang/IllegalStateException" "java/lang/IllegalArgumentException")) (by decide +kernel))
    have n31 := ncs (hn (Cond.not (Cond.castable "java/lang/IllegalStateException" "java/lang/IndexOutOfBoundsException")) (by decide +kernel))
    have n32 := ncs (hn (Cond.not (Cond.castable "java/lang/IllegalStateException" "java/lang/UnsupportedOperationException")) (by decide +kernel))
    rcases (show i = 0 ∨ i = 1 ∨ i = 2 ∨ i = 3 by omega) with rfl | rfl | rfl | rfl <;> rcases (show j = 0 ∨ j = 1 ∨ j = 2 ∨ j = 3 by omega) with rfl | rfl | rfl | rfl
    · exact absurd rfl hij
    · exact n01
    · exact n02
    · exact n03
    · exact n10
    · exact absurd rfl hij
    · exact n12
    · exact n13
    · exact n20
    · exact n21
    · exact absurd rfl hij
    · exact n23
    · exact n30
    · exact n31
    · exact n32
    · exact absurd rfl hij
