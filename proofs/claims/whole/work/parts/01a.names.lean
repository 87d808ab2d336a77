/-! Names, by a program out of the listing and the tables: methods (y), codes (b), fields (F), words (k). -/
def yP_init : MethodName := ⟨"PairedTexts", "<init>", "()V"⟩
def yT_init : MethodName := ⟨"PairedTexts$Text", "<init>", "()V"⟩
def yQ_init : MethodName := ⟨"PairedTexts$Pattern", "<init>", "()V"⟩
def yA_init : MethodName := ⟨"PairedTexts$Automaton", "<init>", "()V"⟩
def yL_write : MethodName := ⟨"PairedTextsLaw", "write", "(LPairedTexts;IJI[J)I"⟩
def yP_write : MethodName := ⟨"PairedTexts", "write", "(IJI)I"⟩
def yP_textOf : MethodName := ⟨"PairedTexts", "textOf", "(I)LPairedTexts$Text;"⟩
def yP_requireDocument : MethodName := ⟨"PairedTexts", "requireDocument", "(I)V"⟩
def yP_requireArgument : MethodName := ⟨"PairedTexts", "requireArgument", "(Z)V"⟩
def yP_requireRoom : MethodName := ⟨"PairedTexts", "requireRoom", "(J)V"⟩
def yP_byteOf : MethodName := ⟨"PairedTexts", "byteOf", "(JI)I"⟩
def yT_add : MethodName := ⟨"PairedTexts$Text", "add", "(I)V"⟩
def yL_length : MethodName := ⟨"PairedTextsLaw", "length", "(LPairedTexts;I[J)I"⟩
def yP_length : MethodName := ⟨"PairedTexts", "length", "(I)I"⟩
def yL_byteAt : MethodName := ⟨"PairedTextsLaw", "byteAt", "(LPairedTexts;II[J)I"⟩
def yP_byteAt : MethodName := ⟨"PairedTexts", "byteAt", "(II)I"⟩
def yP_requireInside : MethodName := ⟨"PairedTexts", "requireInside", "(Z)V"⟩
def yL_copy : MethodName := ⟨"PairedTextsLaw", "copy", "(LPairedTexts;IIII[J)I"⟩
def yP_copy : MethodName := ⟨"PairedTexts", "copy", "(IIII)I"⟩
def yT_hasRange : MethodName := ⟨"PairedTexts$Text", "hasRange", "(IJ)Z"⟩
def yT_clear : MethodName := ⟨"PairedTexts$Text", "clear", "()V"⟩
def yT_addRange : MethodName := ⟨"PairedTexts$Text", "addRange", "(LPairedTexts$Text;II)V"⟩
def yP_draftBecomesTextOf : MethodName := ⟨"PairedTexts", "draftBecomesTextOf", "(I)I"⟩
def yL_join : MethodName := ⟨"PairedTextsLaw", "join", "(LPairedTexts;III[J)I"⟩
def yP_join : MethodName := ⟨"PairedTexts", "join", "(III)I"⟩
def yL_insert : MethodName := ⟨"PairedTextsLaw", "insert", "(LPairedTexts;IIIII[J)I"⟩
def yP_insert : MethodName := ⟨"PairedTexts", "insert", "(IIIII)I"⟩
def yT_hasPiece : MethodName := ⟨"PairedTexts$Text", "hasPiece", "(I)Z"⟩
def yL_delete : MethodName := ⟨"PairedTextsLaw", "delete", "(LPairedTexts;III[J)I"⟩
def yP_delete : MethodName := ⟨"PairedTexts", "delete", "(III)I"⟩
def yL_move : MethodName := ⟨"PairedTextsLaw", "move", "(LPairedTexts;IIII[J)I"⟩
def yP_move : MethodName := ⟨"PairedTexts", "move", "(IIII)I"⟩
def yL_repeat : MethodName := ⟨"PairedTextsLaw", "repeat", "(LPairedTexts;IIII[J)I"⟩
def yP_repeat : MethodName := ⟨"PairedTexts", "repeat", "(IIII)I"⟩
def yL_same : MethodName := ⟨"PairedTextsLaw", "same", "(LPairedTexts;IIIII[J)I"⟩
def yP_same : MethodName := ⟨"PairedTexts", "same", "(IIIII)Z"⟩
def yP_commonBeginning : MethodName := ⟨"PairedTexts", "commonBeginning", "(LPairedTexts$Text;ILPairedTexts$Text;I)I"⟩
def yL_prefix : MethodName := ⟨"PairedTextsLaw", "prefix", "(LPairedTexts;IIII[J)I"⟩
def yP_prefix : MethodName := ⟨"PairedTexts", "prefix", "(IIII)I"⟩
def yL_order : MethodName := ⟨"PairedTextsLaw", "order", "(LPairedTexts;IIII[J)I"⟩
def yP_order : MethodName := ⟨"PairedTexts", "order", "(IIII)I"⟩
def yL_name : MethodName := ⟨"PairedTextsLaw", "name", "(LPairedTexts;III[J)I"⟩
def yP_name : MethodName := ⟨"PairedTexts", "name", "(III)J"⟩
def yP_nameWithOneMore : MethodName := ⟨"PairedTexts", "nameWithOneMore", "(JI)J"⟩
def yL_pattern : MethodName := ⟨"PairedTextsLaw", "pattern", "(LPairedTexts;JJI)I"⟩
def yP_pattern : MethodName := ⟨"PairedTexts", "pattern", "(JJI)V"⟩
def yQ_become : MethodName := ⟨"PairedTexts$Pattern", "become", "(JJI)V"⟩
def yL_count : MethodName := ⟨"PairedTextsLaw", "count", "(LPairedTexts;III[J)I"⟩
def yP_count : MethodName := ⟨"PairedTexts", "count", "(III)I"⟩
def yP_requirePattern : MethodName := ⟨"PairedTexts", "requirePattern", "()V"⟩
def yQ_standsAt : MethodName := ⟨"PairedTexts$Pattern", "standsAt", "(LPairedTexts$Text;II)Z"⟩
def yL_find : MethodName := ⟨"PairedTextsLaw", "find", "(LPairedTexts;III[J)I"⟩
def yP_find : MethodName := ⟨"PairedTexts", "find", "(III)I"⟩
def yL_lead : MethodName := ⟨"PairedTextsLaw", "lead", "(LPairedTexts;IIII)I"⟩
def yP_lead : MethodName := ⟨"PairedTexts", "lead", "(IIII)V"⟩
def yP_requireState : MethodName := ⟨"PairedTexts", "requireState", "(I)V"⟩
def yA_setNext : MethodName := ⟨"PairedTexts$Automaton", "setNext", "(III)V"⟩
def yL_accept : MethodName := ⟨"PairedTextsLaw", "accept", "(LPairedTexts;IZ)I"⟩
def yP_accept : MethodName := ⟨"PairedTexts", "accept", "(IZ)V"⟩
def yL_run : MethodName := ⟨"PairedTextsLaw", "run", "(LPairedTexts;IIII[J)I"⟩
def yP_run : MethodName := ⟨"PairedTexts", "run", "(IIII)I"⟩
def yA_nextOf : MethodName := ⟨"PairedTexts$Automaton", "nextOf", "(II)I"⟩
def yL_accepted : MethodName := ⟨"PairedTextsLaw", "accepted", "(LPairedTexts;IIII[J)I"⟩
def yP_accepted : MethodName := ⟨"PairedTexts", "accepted", "(IIII)I"⟩
def yM_init : MethodName := ⟨"PairedTextsModel", "<init>", "()V"⟩
def yM_thrown : MethodName := ⟨"PairedTextsModel", "thrown", "()I"⟩
def yM_write : MethodName := ⟨"PairedTextsModel", "write", "(IJI)I"⟩
def yM_isDocument : MethodName := ⟨"PairedTextsModel", "isDocument", "(I)Z"⟩
def yM_length : MethodName := ⟨"PairedTextsModel", "length", "(I)I"⟩
def yM_byteAt : MethodName := ⟨"PairedTextsModel", "byteAt", "(II)I"⟩
def yM_copy : MethodName := ⟨"PairedTextsModel", "copy", "(IIII)I"⟩
def yM_isRange : MethodName := ⟨"PairedTextsModel", "isRange", "(III)Z"⟩
def yM_add : MethodName := ⟨"PairedTextsModel", "add", "(III)V"⟩
def yM_become : MethodName := ⟨"PairedTextsModel", "become", "(I)I"⟩
def yM_join : MethodName := ⟨"PairedTextsModel", "join", "(III)I"⟩
def yM_insert : MethodName := ⟨"PairedTextsModel", "insert", "(IIIII)I"⟩
def yM_delete : MethodName := ⟨"PairedTextsModel", "delete", "(III)I"⟩
def yM_move : MethodName := ⟨"PairedTextsModel", "move", "(IIII)I"⟩
def yM_addRest : MethodName := ⟨"PairedTextsModel", "addRest", "(IIIII)V"⟩
def yM_repeat : MethodName := ⟨"PairedTextsModel", "repeat", "(IIII)I"⟩
def yM_same : MethodName := ⟨"PairedTextsModel", "same", "(IIIII)Z"⟩
def yM_common : MethodName := ⟨"PairedTextsModel", "common", "(IIII)I"⟩
def yM_prefix : MethodName := ⟨"PairedTextsModel", "prefix", "(IIII)I"⟩
def yM_pieces : MethodName := ⟨"PairedTextsModel", "pieces", "(ZIIII)I"⟩
def yM_order : MethodName := ⟨"PairedTextsModel", "order", "(IIII)I"⟩
def yM_name : MethodName := ⟨"PairedTextsModel", "name", "(III)J"⟩
def yM_times : MethodName := ⟨"PairedTextsModel", "times", "(J)J"⟩
def yM_sum : MethodName := ⟨"PairedTextsModel", "sum", "(JJ)J"⟩
def yM_pattern : MethodName := ⟨"PairedTextsModel", "pattern", "(JJI)V"⟩
def yM_count : MethodName := ⟨"PairedTextsModel", "count", "(III)I"⟩
def yM_stands : MethodName := ⟨"PairedTextsModel", "stands", "(III)Z"⟩
def yM_find : MethodName := ⟨"PairedTextsModel", "find", "(III)I"⟩
def yM_lead : MethodName := ⟨"PairedTextsModel", "lead", "(IIII)V"⟩
def yM_accept : MethodName := ⟨"PairedTextsModel", "accept", "(IZ)V"⟩
def yM_run : MethodName := ⟨"PairedTextsModel", "run", "(IIII)I"⟩
def yM_read : MethodName := ⟨"PairedTextsModel", "read", "(IIII)V"⟩
def yM_accepted : MethodName := ⟨"PairedTextsModel", "accepted", "(IIII)I"⟩
abbrev bP_init : ByteArray := prog_1_method_1_code
abbrev bP_write : ByteArray := prog_1_method_2_code
abbrev bP_length : ByteArray := prog_1_method_3_code
abbrev bP_byteAt : ByteArray := prog_1_method_4_code
abbrev bP_copy : ByteArray := prog_1_method_5_code
abbrev bP_join : ByteArray := prog_1_method_6_code
abbrev bP_insert : ByteArray := prog_1_method_7_code
abbrev bP_delete : ByteArray := prog_1_method_8_code
abbrev bP_move : ByteArray := prog_1_method_9_code
abbrev bP_repeat : ByteArray := prog_1_method_10_code
abbrev bP_same : ByteArray := prog_1_method_11_code
abbrev bP_prefix : ByteArray := prog_1_method_12_code
abbrev bP_order : ByteArray := prog_1_method_13_code
abbrev bP_name : ByteArray := prog_1_method_14_code
abbrev bP_pattern : ByteArray := prog_1_method_15_code
abbrev bP_count : ByteArray := prog_1_method_16_code
abbrev bP_find : ByteArray := prog_1_method_17_code
abbrev bP_lead : ByteArray := prog_1_method_18_code
abbrev bP_accept : ByteArray := prog_1_method_19_code
abbrev bP_run : ByteArray := prog_1_method_20_code
abbrev bP_accepted : ByteArray := prog_1_method_21_code
abbrev bP_textOf : ByteArray := prog_1_method_22_code
abbrev bP_draftBecomesTextOf : ByteArray := prog_1_method_23_code
abbrev bP_requireDocument : ByteArray := prog_1_method_24_code
abbrev bP_requireState : ByteArray := prog_1_method_25_code
abbrev bP_requireArgument : ByteArray := prog_1_method_26_code
abbrev bP_requireInside : ByteArray := prog_1_method_27_code
abbrev bP_requireRoom : ByteArray := prog_1_method_28_code
abbrev bP_requirePattern : ByteArray := prog_1_method_29_code
abbrev bP_byteOf : ByteArray := prog_1_method_30_code
abbrev bP_commonBeginning : ByteArray := prog_1_method_31_code
abbrev bP_nameWithOneMore : ByteArray := prog_1_method_32_code
abbrev bM_init : ByteArray := prog_6_method_1_code
abbrev bM_thrown : ByteArray := prog_6_method_2_code
abbrev bM_isDocument : ByteArray := prog_6_method_3_code
abbrev bM_isRange : ByteArray := prog_6_method_4_code
abbrev bM_add : ByteArray := prog_6_method_5_code
abbrev bM_become : ByteArray := prog_6_method_6_code
abbrev bM_write : ByteArray := prog_6_method_7_code
abbrev bM_length : ByteArray := prog_6_method_8_code
abbrev bM_byteAt : ByteArray := prog_6_method_9_code
abbrev bM_copy : ByteArray := prog_6_method_10_code
abbrev bM_join : ByteArray := prog_6_method_11_code
abbrev bM_insert : ByteArray := prog_6_method_12_code
abbrev bM_delete : ByteArray := prog_6_method_13_code
abbrev bM_addRest : ByteArray := prog_6_method_14_code
abbrev bM_move : ByteArray := prog_6_method_15_code
abbrev bM_repeat : ByteArray := prog_6_method_16_code
abbrev bM_common : ByteArray := prog_6_method_17_code
abbrev bM_same : ByteArray := prog_6_method_18_code
abbrev bM_pieces : ByteArray := prog_6_method_19_code
abbrev bM_prefix : ByteArray := prog_6_method_20_code
abbrev bM_order : ByteArray := prog_6_method_21_code
abbrev bM_sum : ByteArray := prog_6_method_22_code
abbrev bM_times : ByteArray := prog_6_method_23_code
abbrev bM_name : ByteArray := prog_6_method_24_code
abbrev bM_pattern : ByteArray := prog_6_method_25_code
abbrev bM_stands : ByteArray := prog_6_method_26_code
abbrev bM_count : ByteArray := prog_6_method_27_code
abbrev bM_find : ByteArray := prog_6_method_28_code
abbrev bM_lead : ByteArray := prog_6_method_29_code
abbrev bM_accept : ByteArray := prog_6_method_30_code
abbrev bM_read : ByteArray := prog_6_method_31_code
abbrev bM_run : ByteArray := prog_6_method_32_code
abbrev bM_accepted : ByteArray := prog_6_method_33_code
abbrev bA_init : ByteArray := prog_2_method_1_code
abbrev bA_nextOf : ByteArray := prog_2_method_2_code
abbrev bA_setNext : ByteArray := prog_2_method_3_code
abbrev bQ_init : ByteArray := prog_3_method_1_code
abbrev bQ_become : ByteArray := prog_3_method_2_code
abbrev bQ_standsAt : ByteArray := prog_3_method_3_code
abbrev bT_init : ByteArray := prog_4_method_1_code
abbrev bT_clear : ByteArray := prog_4_method_2_code
abbrev bT_add : ByteArray := prog_4_method_3_code
abbrev bT_addRange : ByteArray := prog_4_method_4_code
abbrev bT_hasRange : ByteArray := prog_4_method_5_code
abbrev bT_hasPiece : ByteArray := prog_4_method_6_code
abbrev bL_write : ByteArray := method_3_code
abbrev bL_length : ByteArray := method_4_code
abbrev bL_byteAt : ByteArray := method_5_code
abbrev bL_copy : ByteArray := method_6_code
abbrev bL_join : ByteArray := method_7_code
abbrev bL_insert : ByteArray := method_8_code
abbrev bL_delete : ByteArray := method_9_code
abbrev bL_move : ByteArray := method_10_code
abbrev bL_repeat : ByteArray := method_11_code
abbrev bL_same : ByteArray := method_12_code
abbrev bL_prefix : ByteArray := method_13_code
abbrev bL_order : ByteArray := method_14_code
abbrev bL_name : ByteArray := method_15_code
abbrev bL_pattern : ByteArray := method_16_code
abbrev bL_count : ByteArray := method_17_code
abbrev bL_find : ByteArray := method_18_code
abbrev bL_lead : ByteArray := method_19_code
abbrev bL_accept : ByteArray := method_20_code
abbrev bL_run : ByteArray := method_21_code
abbrev bL_accepted : ByteArray := method_22_code
abbrev bL_law : ByteArray := code
def FP : u_T := fun k => match k with
  | 0 => ("PairedTexts", "texts", "[LPairedTexts$Text;", true)
  | 1 => ("PairedTexts", "sought", "LPairedTexts$Pattern;", true)
  | 2 => ("PairedTexts", "automaton", "LPairedTexts$Automaton;", true)
  | _ => ("PairedTexts", "draft", "LPairedTexts$Text;", false)
def tP : Nat → FieldType := fun k => match k with
  | 0 => .array (.object "PairedTexts$Text")
  | 1 => .object "PairedTexts$Pattern"
  | 2 => .object "PairedTexts$Automaton"
  | _ => .object "PairedTexts$Text"
theorem nP : ∀ a, a < 4 → ∀ b, b < 4 → a ≠ b → (FP a).2.1 ≠ (FP b).2.1 := by decide +kernel
theorem tP_ok : ∀ k, k < 4 → parseFieldDescriptor (FP k).2.2.1 = some (tP k) := by decide +kernel
def FT : u_T := fun k => match k with
  | 0 => ("PairedTexts$Text", "bytes", "[I", true)
  | _ => ("PairedTexts$Text", "size", "I", false)
def tT : Nat → FieldType := fun k => match k with
  | 0 => .array .int
  | _ => .int
theorem nT : ∀ a, a < 2 → ∀ b, b < 2 → a ≠ b → (FT a).2.1 ≠ (FT b).2.1 := by decide +kernel
theorem tT_ok : ∀ k, k < 2 → parseFieldDescriptor (FT k).2.2.1 = some (tT k) := by decide +kernel
def FQ : u_T := fun k => match k with
  | 0 => ("PairedTexts$Pattern", "bytes", "[I", true)
  | _ => ("PairedTexts$Pattern", "size", "I", false)
def tQ : Nat → FieldType := fun k => match k with
  | 0 => .array .int
  | _ => .int
theorem nQ : ∀ a, a < 2 → ∀ b, b < 2 → a ≠ b → (FQ a).2.1 ≠ (FQ b).2.1 := by decide +kernel
theorem tQ_ok : ∀ k, k < 2 → parseFieldDescriptor (FQ k).2.2.1 = some (tQ k) := by decide +kernel
def FA : u_T := fun k => match k with
  | 0 => ("PairedTexts$Automaton", "next", "[I", true)
  | _ => ("PairedTexts$Automaton", "accepting", "[Z", true)
def tA : Nat → FieldType := fun k => match k with
  | 0 => .array .int
  | _ => .array .boolean
theorem nA : ∀ a, a < 2 → ∀ b, b < 2 → a ≠ b → (FA a).2.1 ≠ (FA b).2.1 := by decide +kernel
theorem tA_ok : ∀ k, k < 2 → parseFieldDescriptor (FA k).2.2.1 = some (tA k) := by decide +kernel
def FM : u_T := fun k => match k with
  | 0 => ("PairedTextsModel", "code", "I", false)
  | 1 => ("PairedTextsModel", "texts", "[I", true)
  | 2 => ("PairedTextsModel", "sizes", "[I", true)
  | 3 => ("PairedTextsModel", "draft", "[I", true)
  | 4 => ("PairedTextsModel", "drafted", "I", false)
  | 5 => ("PairedTextsModel", "patternSize", "I", false)
  | 6 => ("PairedTextsModel", "pattern", "[I", true)
  | 7 => ("PairedTextsModel", "next", "[I", true)
  | 8 => ("PairedTextsModel", "accepts", "[Z", true)
  | 9 => ("PairedTextsModel", "state", "I", false)
  | _ => ("PairedTextsModel", "many", "I", false)
def tM : Nat → FieldType := fun k => match k with
  | 0 => .int
  | 1 => .array .int
  | 2 => .array .int
  | 3 => .array .int
  | 4 => .int
  | 5 => .int
  | 6 => .array .int
  | 7 => .array .int
  | 8 => .array .boolean
  | 9 => .int
  | _ => .int
theorem nM : ∀ a, a < 11 → ∀ b, b < 11 → a ≠ b → (FM a).2.1 ≠ (FM b).2.1 := by decide +kernel
theorem tM_ok : ∀ k, k < 11 → parseFieldDescriptor (FM k).2.2.1 = some (tM k) := by decide +kernel
/-- the classes whose objects the world holds -/
abbrev cl : List vw_C := [("PairedTexts", FP, 4), ("PairedTexts$Text", FT, 2), ("PairedTexts$Pattern", FQ, 2), ("PairedTexts$Automaton", FA, 2), ("PairedTextsModel", FM, 11)]
/-- the words that every method here has: all that stay true -/
def tws : List Cond := lw_tbl.filter goodWord
theorem tws_good {w : Cond} (h : w ∈ tws) : goodWord w = true := (List.mem_filter.mp h).2
theorem tw0 {w : Cond} {i : Nat} (h : (k2_sels lw_privs)[i]? = some w) (g : goodWord w = true) : w ∈ tws := List.mem_filter.mpr ⟨List.mem_append_left _ (List.mem_of_getElem? h), g⟩
theorem tw1 {w : Cond} {i : Nat} (h : tables_1_1[i]? = some w) (g : goodWord w = true) : w ∈ tws := List.mem_filter.mpr ⟨List.mem_append_right _ (List.mem_append_left _ (List.mem_of_getElem? h)), g⟩
theorem tw2 {w : Cond} {i : Nat} (h : tables_1_2[i]? = some w) (g : goodWord w = true) : w ∈ tws := List.mem_filter.mpr ⟨List.mem_append_right _ (List.mem_append_right _ (List.mem_append_left _ (List.mem_of_getElem? h))), g⟩
theorem tw3 {w : Cond} {i : Nat} (h : tables_1_3[i]? = some w) (g : goodWord w = true) : w ∈ tws := List.mem_filter.mpr ⟨List.mem_append_right _ (List.mem_append_right _ (List.mem_append_right _ (List.mem_of_getElem? h))), g⟩
theorem k1_0 : Cond.initialized "PairedTextsLaw" ∈ tws := tw1 (i := 0) rfl rfl
theorem k1_1 : Cond.initialized "PairedTexts" ∈ tws := tw1 (i := 1) rfl rfl
theorem k1_2 : Cond.initialized "PairedTexts$Text" ∈ tws := tw1 (i := 2) rfl rfl
theorem k1_3 : Cond.initialized "PairedTexts$Pattern" ∈ tws := tw1 (i := 3) rfl rfl
theorem k1_4 : Cond.initialized "PairedTexts$Automaton" ∈ tws := tw1 (i := 4) rfl rfl
theorem k1_5 : Cond.initialized "PairedTextsModel" ∈ tws := tw1 (i := 5) rfl rfl
theorem k1_6 : Cond.initialized "java/lang/Throwable" ∈ tws := tw1 (i := 6) rfl rfl
theorem k1_7 : Cond.initialized "java/lang/Exception" ∈ tws := tw1 (i := 7) rfl rfl
theorem k1_8 : Cond.initialized "java/lang/RuntimeException" ∈ tws := tw1 (i := 8) rfl rfl
theorem k1_9 : Cond.initialized "java/lang/IllegalArgumentException" ∈ tws := tw1 (i := 9) rfl rfl
theorem k1_10 : Cond.initialized "java/lang/UnsupportedOperationException" ∈ tws := tw1 (i := 10) rfl rfl
theorem k1_11 : Cond.initialized "java/lang/IndexOutOfBoundsException" ∈ tws := tw1 (i := 11) rfl rfl
theorem k1_12 : Cond.initialized "java/lang/System" ∈ tws := tw1 (i := 12) rfl rfl
theorem k1_13 : Cond.initialized "java/lang/Math" ∈ tws := tw1 (i := 13) rfl rfl
theorem k1_14 : Cond.initialized "java/lang/IllegalStateException" ∈ tws := tw1 (i := 14) rfl rfl
theorem k1_15 : Cond.classLink "PairedTextsLaw" 8 "PairedTexts" ∈ tws := tw1 (i := 15) rfl rfl
theorem k1_16 : Cond.instantiable "PairedTexts" 4 ∈ tws := tw1 (i := 16) rfl rfl
theorem k1_17 : Cond.methodLink "PairedTextsLaw" 88 yP_init ∈ tws := tw1 (i := 17) rfl rfl
theorem k1_18 : Cond.instanceMethod yP_init ∈ tws := tw1 (i := 18) rfl rfl
theorem k1_19 : Cond.code yP_init prog_1_method_1_code 2 (Option.none : Option ClassFile.FieldType) ∈ tws := tw1 (i := 19) rfl rfl
theorem k1_20 : Cond.methodLink "PairedTexts" 1 objectInit ∈ tws := tw1 (i := 20) rfl rfl
theorem k1_21 : Cond.instanceMethod objectInit ∈ tws := tw1 (i := 21) rfl rfl
theorem k1_22 : Cond.code objectInit object_method_1_code 1 (Option.none : Option ClassFile.FieldType) ∈ tws := tw1 (i := 22) rfl rfl
theorem k1_23 : Cond.classLink "PairedTexts" 9 "PairedTexts$Text" ∈ tws := tw1 (i := 23) rfl rfl
theorem k1_25 : Cond.instantiable "PairedTexts$Text" 2 ∈ tws := tw1 (i := 25) rfl rfl
theorem k1_27 : Cond.instanceMethod yT_init ∈ tws := tw1 (i := 27) rfl rfl
theorem k1_28 : Cond.code yT_init prog_4_method_1_code 1 (Option.none : Option ClassFile.FieldType) ∈ tws := tw1 (i := 28) rfl rfl
theorem k1_29 : Cond.methodLink "PairedTexts$Text" 3 objectInit ∈ tws := tw1 (i := 29) rfl rfl
theorem k1_30 : Cond.fieldLink "PairedTexts$Text" 9 "PairedTexts$Text" "bytes" "[I" ∈ tws := tw1 (i := 30) rfl rfl
theorem k1_31 : Cond.fieldLink "PairedTexts$Pattern" 23 "PairedTexts$Text" "bytes" "[I" ∈ tws := tw1 (i := 31) rfl rfl
theorem k1_32 : Cond.fieldLink "PairedTexts" 61 "PairedTexts$Text" "bytes" "[I" ∈ tws := tw1 (i := 32) rfl rfl
theorem k1_33 : Cond.fieldLink "PairedTexts$Text" 15 "PairedTexts$Text" "size" "I" ∈ tws := tw1 (i := 33) rfl rfl
theorem k1_34 : Cond.fieldLink "PairedTexts" 42 "PairedTexts$Text" "size" "I" ∈ tws := tw1 (i := 34) rfl rfl
theorem k1_35 : Cond.laysFinal "PairedTexts$Text" "PairedTexts$Text" "bytes" "[I" ∈ tws := tw1 (i := 35) rfl rfl
theorem k1_36 : Cond.soleField "PairedTexts$Text" "bytes" ∈ tws := tw1 (i := 36) rfl rfl
theorem k1_37 : Cond.lays "PairedTexts$Text" "PairedTexts$Text" "size" "I" ∈ tws := tw1 (i := 37) rfl rfl
theorem k1_38 : Cond.soleField "PairedTexts$Text" "size" ∈ tws := tw1 (i := 38) rfl rfl
theorem k1_39 : Cond.superclass "PairedTexts$Text" "java/lang/Object" ∈ tws := tw1 (i := 39) rfl rfl
theorem k1_40 : Cond.arrayClass FieldType.int ∈ tws := tw1 (i := 40) rfl rfl
theorem k1_41 : Cond.classLink "PairedTexts" 20 "PairedTexts$Pattern" ∈ tws := tw1 (i := 41) rfl rfl
theorem k1_42 : Cond.instantiable "PairedTexts$Pattern" 2 ∈ tws := tw1 (i := 42) rfl rfl
theorem k1_44 : Cond.instanceMethod yQ_init ∈ tws := tw1 (i := 44) rfl rfl
theorem k1_45 : Cond.code yQ_init prog_3_method_1_code 1 (Option.none : Option ClassFile.FieldType) ∈ tws := tw1 (i := 45) rfl rfl
theorem k1_46 : Cond.methodLink "PairedTexts$Pattern" 3 objectInit ∈ tws := tw1 (i := 46) rfl rfl
theorem k1_47 : Cond.fieldLink "PairedTexts$Pattern" 9 "PairedTexts$Pattern" "bytes" "[I" ∈ tws := tw1 (i := 47) rfl rfl
theorem k1_48 : Cond.fieldLink "PairedTexts$Pattern" 15 "PairedTexts$Pattern" "size" "I" ∈ tws := tw1 (i := 48) rfl rfl
theorem k1_49 : Cond.fieldLink "PairedTexts" 144 "PairedTexts$Pattern" "size" "I" ∈ tws := tw1 (i := 49) rfl rfl
theorem k1_50 : Cond.laysFinal "PairedTexts$Pattern" "PairedTexts$Pattern" "bytes" "[I" ∈ tws := tw1 (i := 50) rfl rfl
theorem k1_51 : Cond.soleField "PairedTexts$Pattern" "bytes" ∈ tws := tw1 (i := 51) rfl rfl
theorem k1_52 : Cond.lays "PairedTexts$Pattern" "PairedTexts$Pattern" "size" "I" ∈ tws := tw1 (i := 52) rfl rfl
theorem k1_53 : Cond.soleField "PairedTexts$Pattern" "size" ∈ tws := tw1 (i := 53) rfl rfl
theorem k1_54 : Cond.superclass "PairedTexts$Pattern" "java/lang/Object" ∈ tws := tw1 (i := 54) rfl rfl
theorem k1_55 : Cond.classLink "PairedTexts" 27 "PairedTexts$Automaton" ∈ tws := tw1 (i := 55) rfl rfl
theorem k1_56 : Cond.instantiable "PairedTexts$Automaton" 2 ∈ tws := tw1 (i := 56) rfl rfl
theorem k1_58 : Cond.instanceMethod yA_init ∈ tws := tw1 (i := 58) rfl rfl
theorem k1_59 : Cond.code yA_init prog_2_method_1_code 1 (Option.none : Option ClassFile.FieldType) ∈ tws := tw1 (i := 59) rfl rfl
theorem k1_60 : Cond.methodLink "PairedTexts$Automaton" 3 objectInit ∈ tws := tw1 (i := 60) rfl rfl
theorem k1_61 : Cond.fieldLink "PairedTexts$Automaton" 9 "PairedTexts$Automaton" "next" "[I" ∈ tws := tw1 (i := 61) rfl rfl
theorem k1_62 : Cond.fieldLink "PairedTexts$Automaton" 15 "PairedTexts$Automaton" "accepting" "[Z" ∈ tws := tw1 (i := 62) rfl rfl
theorem k1_63 : Cond.fieldLink "PairedTexts" 113 "PairedTexts$Automaton" "accepting" "[Z" ∈ tws := tw1 (i := 63) rfl rfl
theorem k1_64 : Cond.laysFinal "PairedTexts$Automaton" "PairedTexts$Automaton" "next" "[I" ∈ tws := tw1 (i := 64) rfl rfl
theorem k1_65 : Cond.soleField "PairedTexts$Automaton" "next" ∈ tws := tw1 (i := 65) rfl rfl
theorem k1_66 : Cond.laysFinal "PairedTexts$Automaton" "PairedTexts$Automaton" "accepting" "[Z" ∈ tws := tw1 (i := 66) rfl rfl
theorem k1_67 : Cond.soleField "PairedTexts$Automaton" "accepting" ∈ tws := tw1 (i := 67) rfl rfl
theorem k1_68 : Cond.superclass "PairedTexts$Automaton" "java/lang/Object" ∈ tws := tw1 (i := 68) rfl rfl
theorem k1_69 : Cond.arrayClass FieldType.boolean ∈ tws := tw1 (i := 69) rfl rfl
theorem k1_70 : Cond.fieldLink "PairedTexts" 11 "PairedTexts" "texts" "[LPairedTexts$Text;" ∈ tws := tw1 (i := 70) rfl rfl
theorem k1_71 : Cond.fieldLink "PairedTexts" 23 "PairedTexts" "sought" "LPairedTexts$Pattern;" ∈ tws := tw1 (i := 71) rfl rfl
theorem k1_72 : Cond.fieldLink "PairedTexts" 30 "PairedTexts" "automaton" "LPairedTexts$Automaton;" ∈ tws := tw1 (i := 72) rfl rfl
theorem k1_73 : Cond.fieldLink "PairedTexts" 16 "PairedTexts" "draft" "LPairedTexts$Text;" ∈ tws := tw1 (i := 73) rfl rfl
theorem k1_74 : Cond.laysFinal "PairedTexts" "PairedTexts" "texts" "[LPairedTexts$Text;" ∈ tws := tw1 (i := 74) rfl rfl
theorem k1_75 : Cond.soleField "PairedTexts" "texts" ∈ tws := tw1 (i := 75) rfl rfl
theorem k1_76 : Cond.laysFinal "PairedTexts" "PairedTexts" "sought" "LPairedTexts$Pattern;" ∈ tws := tw1 (i := 76) rfl rfl
theorem k1_77 : Cond.soleField "PairedTexts" "sought" ∈ tws := tw1 (i := 77) rfl rfl
theorem k1_78 : Cond.laysFinal "PairedTexts" "PairedTexts" "automaton" "LPairedTexts$Automaton;" ∈ tws := tw1 (i := 78) rfl rfl
theorem k1_79 : Cond.soleField "PairedTexts" "automaton" ∈ tws := tw1 (i := 79) rfl rfl
theorem k1_80 : Cond.lays "PairedTexts" "PairedTexts" "draft" "LPairedTexts$Text;" ∈ tws := tw1 (i := 80) rfl rfl
theorem k1_81 : Cond.soleField "PairedTexts" "draft" ∈ tws := tw1 (i := 81) rfl rfl
theorem k1_82 : Cond.superclass "PairedTexts" "java/lang/Object" ∈ tws := tw1 (i := 82) rfl rfl
theorem k1_83 : Cond.methodLink "PairedTextsLaw" 94 yL_write ∈ tws := tw1 (i := 83) rfl rfl
theorem k1_84 : Cond.static yL_write ∈ tws := tw1 (i := 84) rfl rfl
theorem k1_85 : Cond.codeWith yL_write method_3_code 7 (Option.some FieldType.int) [(0, 13, 16, 13), (0, 13, 20, 15)] ∈ tws := tw1 (i := 85) rfl rfl
theorem k1_86 : Cond.classLink "PairedTextsLaw" 13 "java/lang/IllegalArgumentException" ∈ tws := tw1 (i := 86) rfl rfl
theorem k1_87 : Cond.classLink "PairedTextsLaw" 15 "java/lang/UnsupportedOperationException" ∈ tws := tw1 (i := 87) rfl rfl
theorem k1_88 : Cond.methodLink "PairedTextsLaw" 7 yP_write ∈ tws := tw1 (i := 88) rfl rfl
theorem k1_89 : Cond.instanceMethod yP_write ∈ tws := tw1 (i := 89) rfl rfl
theorem k1_90 : Cond.selects "PairedTexts" yP_write yP_write ∈ tws := tw1 (i := 90) rfl rfl
theorem k1_91 : Cond.code yP_write prog_1_method_2_code 7 (Option.some FieldType.int) ∈ tws := tw1 (i := 91) rfl rfl
theorem k1_92 : Cond.methodLink "PairedTexts" 34 yP_textOf ∈ tws := tw1 (i := 92) rfl rfl
theorem k1_94 : Cond.instanceMethod yP_textOf ∈ tws := tw1 (i := 94) rfl rfl
theorem k1_95 : Cond.code yP_textOf prog_1_method_22_code 2 (Option.some (FieldType.object "PairedTexts$Text")) ∈ tws := tw1 (i := 95) rfl rfl
theorem k1_96 : Cond.methodLink "PairedTexts" 65 yP_requireDocument ∈ tws := tw1 (i := 96) rfl rfl
theorem k1_97 : Cond.static yP_requireDocument ∈ tws := tw1 (i := 97) rfl rfl
theorem k1_98 : Cond.code yP_requireDocument prog_1_method_24_code 1 (Option.none : Option ClassFile.FieldType) ∈ tws := tw1 (i := 98) rfl rfl
theorem k1_99 : Cond.classLink "PairedTexts" 121 "java/lang/IllegalArgumentException" ∈ tws := tw1 (i := 99) rfl rfl
theorem k1_100 : Cond.instantiable "java/lang/IllegalArgumentException" 6 ∈ tws := tw1 (i := 100) rfl rfl
theorem k1_108 : Cond.selects "java/lang/IllegalArgumentException" ⟨"java/lang/Throwable", "fillInStackTrace", "(I)Ljava/lang/Throwable;"⟩ ⟨"java/lang/Throwable", "fillInStackTrace", "(I)Ljava/lang/Throwable;"⟩ ∈ tws := tw1 (i := 108) rfl rfl
theorem k1_109 : Cond.selects "java/lang/IllegalArgumentException" ⟨"java/lang/Throwable", "fillInStackTrace", "()Ljava/lang/Throwable;"⟩ ⟨"java/lang/Throwable", "fillInStackTrace", "()Ljava/lang/Throwable;"⟩ ∈ tws := tw1 (i := 109) rfl rfl
theorem k1_110 : Cond.lays "java/lang/IllegalArgumentException" "java/lang/Throwable" "cause" "Ljava/lang/Throwable;" ∈ tws := tw1 (i := 110) rfl rfl
theorem k1_111 : Cond.lays "java/lang/Throwable" "java/lang/Throwable" "cause" "Ljava/lang/Throwable;" ∈ tws := tw1 (i := 111) rfl rfl
theorem k1_112 : Cond.lays "java/lang/IllegalArgumentException" "java/lang/Throwable" "stackTrace" "[Ljava/lang/StackTraceElement;" ∈ tws := tw1 (i := 112) rfl rfl
theorem k1_113 : Cond.lays "java/lang/Throwable" "java/lang/Throwable" "stackTrace" "[Ljava/lang/StackTraceElement;" ∈ tws := tw1 (i := 113) rfl rfl
theorem k1_114 : Cond.lays "java/lang/IllegalArgumentException" "java/lang/Throwable" "suppressedExceptions" "Ljava/util/List;" ∈ tws := tw1 (i := 114) rfl rfl
theorem k1_115 : Cond.lays "java/lang/Throwable" "java/lang/Throwable" "suppressedExceptions" "Ljava/util/List;" ∈ tws := tw1 (i := 115) rfl rfl
theorem k1_116 : Cond.lays "java/lang/IllegalArgumentException" "java/lang/Throwable" "detailMessage" "Ljava/lang/String;" ∈ tws := tw1 (i := 116) rfl rfl
theorem k1_117 : Cond.lays "java/lang/Throwable" "java/lang/Throwable" "detailMessage" "Ljava/lang/String;" ∈ tws := tw1 (i := 117) rfl rfl
theorem k1_118 : Cond.lays "java/lang/IllegalArgumentException" "java/lang/Throwable" "backtrace" "Ljava/lang/Object;" ∈ tws := tw1 (i := 118) rfl rfl
theorem k1_119 : Cond.lays "java/lang/Throwable" "java/lang/Throwable" "backtrace" "Ljava/lang/Object;" ∈ tws := tw1 (i := 119) rfl rfl
theorem k1_120 : Cond.fieldLink "java/lang/Throwable" 198 "java/lang/Throwable" "backtrace" "Ljava/lang/Object;" ∈ tws := tw1 (i := 120) rfl rfl
theorem k1_121 : Cond.superclass "java/lang/Throwable" "java/lang/Object" ∈ tws := tw1 (i := 121) rfl rfl
theorem k1_122 : Cond.instanceMethod ⟨"java/lang/Throwable", "<init>", "()V"⟩ ∈ tws := tw1 (i := 122) rfl rfl
theorem k1_123 : Cond.code ⟨"java/lang/Throwable", "<init>", "()V"⟩ prog_15_method_1_code 1 (Option.none : Option ClassFile.FieldType) ∈ tws := tw1 (i := 123) rfl rfl
theorem k1_124 : Cond.methodLink "java/lang/Throwable" 1 objectInit ∈ tws := tw1 (i := 124) rfl rfl
theorem k1_125 : Cond.fieldLink "java/lang/Throwable" 13 "java/lang/Throwable" "UNASSIGNED_STACK" "[Ljava/lang/StackTraceElement;" ∈ tws := tw1 (i := 125) rfl rfl
theorem k1_127 : Cond.fieldLink "java/lang/Throwable" 20 "java/lang/Throwable" "SUPPRESSED_SENTINEL" "Ljava/util/List;" ∈ tws := tw1 (i := 127) rfl rfl
theorem k1_129 : Cond.methodLink "java/lang/Throwable" 27 ⟨"java/lang/Throwable", "fillInStackTrace", "()Ljava/lang/Throwable;"⟩ ∈ tws := tw1 (i := 129) rfl rfl
theorem k1_130 : Cond.instanceMethod ⟨"java/lang/Throwable", "fillInStackTrace", "()Ljava/lang/Throwable;"⟩ ∈ tws := tw1 (i := 130) rfl rfl
theorem k1_131 : Cond.sameMethod "java/lang/Throwable" "java/lang/Throwable" "fillInStackTrace" "()Ljava/lang/Throwable;" ∈ tws := tw1 (i := 131) rfl rfl
theorem k1_132 : Cond.selects "java/lang/IllegalStateException" ⟨"java/lang/Throwable", "fillInStackTrace", "()Ljava/lang/Throwable;"⟩ ⟨"java/lang/Throwable", "fillInStackTrace", "()Ljava/lang/Throwable;"⟩ ∈ tws := tw1 (i := 132) rfl rfl
theorem k1_133 : Cond.selects "java/lang/IndexOutOfBoundsException" ⟨"java/lang/Throwable", "fillInStackTrace", "()Ljava/lang/Throwable;"⟩ ⟨"java/lang/Throwable", "fillInStackTrace", "()Ljava/lang/Throwable;"⟩ ∈ tws := tw1 (i := 133) rfl rfl
theorem k1_134 : Cond.selects "java/lang/UnsupportedOperationException" ⟨"java/lang/Throwable", "fillInStackTrace", "()Ljava/lang/Throwable;"⟩ ⟨"java/lang/Throwable", "fillInStackTrace", "()Ljava/lang/Throwable;"⟩ ∈ tws := tw1 (i := 134) rfl rfl
theorem k1_135 : Cond.codeSync ⟨"java/lang/Throwable", "fillInStackTrace", "()Ljava/lang/Throwable;"⟩ prog_15_method_18_code 1 (Option.some (FieldType.object "java/lang/Throwable")) ∈ tws := tw1 (i := 135) rfl rfl
theorem k1_136 : Cond.methodLink "java/lang/Throwable" 202 ⟨"java/lang/Throwable", "fillInStackTrace", "(I)Ljava/lang/Throwable;"⟩ ∈ tws := tw1 (i := 136) rfl rfl
theorem k1_138 : Cond.instanceMethod ⟨"java/lang/Throwable", "fillInStackTrace", "(I)Ljava/lang/Throwable;"⟩ ∈ tws := tw1 (i := 138) rfl rfl
theorem k1_139 : Cond.instantiable "java/lang/Throwable" 6 ∈ tws := tw1 (i := 139) rfl rfl
theorem k1_140 : Cond.native ⟨"java/lang/Throwable", "fillInStackTrace", "(I)Ljava/lang/Throwable;"⟩ ∈ tws := tw1 (i := 140) rfl rfl
theorem k1_142 : Cond.methodLink "PairedTexts" 125 ⟨"java/lang/IllegalArgumentException", "<init>", "(Ljava/lang/String;)V"⟩ ∈ tws := tw1 (i := 142) rfl rfl
theorem k1_143 : Cond.instanceMethod ⟨"java/lang/IllegalArgumentException", "<init>", "(Ljava/lang/String;)V"⟩ ∈ tws := tw1 (i := 143) rfl rfl
theorem k1_144 : Cond.code ⟨"java/lang/IllegalArgumentException", "<init>", "(Ljava/lang/String;)V"⟩ prog_8_method_2_code 2 (Option.none : Option ClassFile.FieldType) ∈ tws := tw1 (i := 144) rfl rfl
theorem k1_145 : Cond.methodLink "java/lang/IllegalArgumentException" 7 ⟨"java/lang/RuntimeException", "<init>", "(Ljava/lang/String;)V"⟩ ∈ tws := tw1 (i := 145) rfl rfl
theorem k1_146 : Cond.instanceMethod ⟨"java/lang/RuntimeException", "<init>", "(Ljava/lang/String;)V"⟩ ∈ tws := tw1 (i := 146) rfl rfl
theorem k1_147 : Cond.code ⟨"java/lang/RuntimeException", "<init>", "(Ljava/lang/String;)V"⟩ prog_12_method_2_code 2 (Option.none : Option ClassFile.FieldType) ∈ tws := tw1 (i := 147) rfl rfl
theorem k1_148 : Cond.methodLink "java/lang/RuntimeException" 7 ⟨"java/lang/Exception", "<init>", "(Ljava/lang/String;)V"⟩ ∈ tws := tw1 (i := 148) rfl rfl
theorem k1_149 : Cond.instanceMethod ⟨"java/lang/Exception", "<init>", "(Ljava/lang/String;)V"⟩ ∈ tws := tw1 (i := 149) rfl rfl
theorem k1_150 : Cond.code ⟨"java/lang/Exception", "<init>", "(Ljava/lang/String;)V"⟩ prog_7_method_2_code 2 (Option.none : Option ClassFile.FieldType) ∈ tws := tw1 (i := 150) rfl rfl
theorem k1_151 : Cond.methodLink "java/lang/Exception" 7 ⟨"java/lang/Throwable", "<init>", "(Ljava/lang/String;)V"⟩ ∈ tws := tw1 (i := 151) rfl rfl
theorem k1_152 : Cond.instanceMethod ⟨"java/lang/Throwable", "<init>", "(Ljava/lang/String;)V"⟩ ∈ tws := tw1 (i := 152) rfl rfl
theorem k1_153 : Cond.code ⟨"java/lang/Throwable", "<init>", "(Ljava/lang/String;)V"⟩ prog_15_method_2_code 2 (Option.none : Option ClassFile.FieldType) ∈ tws := tw1 (i := 153) rfl rfl
theorem k1_155 : Cond.fieldLink "java/lang/Throwable" 31 "java/lang/Throwable" "detailMessage" "Ljava/lang/String;" ∈ tws := tw1 (i := 155) rfl rfl
theorem k1_156 : Cond.fieldLink "java/lang/Throwable" 7 "java/lang/Throwable" "cause" "Ljava/lang/Throwable;" ∈ tws := tw1 (i := 156) rfl rfl
theorem k1_157 : Cond.fieldLink "java/lang/Throwable" 17 "java/lang/Throwable" "stackTrace" "[Ljava/lang/StackTraceElement;" ∈ tws := tw1 (i := 157) rfl rfl
theorem k1_158 : Cond.fieldLink "java/lang/Throwable" 24 "java/lang/Throwable" "suppressedExceptions" "Ljava/util/List;" ∈ tws := tw1 (i := 158) rfl rfl
theorem k1_159 : Cond.soleField "java/lang/Throwable" "backtrace" ∈ tws := tw1 (i := 159) rfl rfl
theorem k1_160 : Cond.soleField "java/lang/Throwable" "detailMessage" ∈ tws := tw1 (i := 160) rfl rfl
theorem k1_161 : Cond.soleField "java/lang/Throwable" "cause" ∈ tws := tw1 (i := 161) rfl rfl
theorem k1_162 : Cond.soleField "java/lang/Throwable" "stackTrace" ∈ tws := tw1 (i := 162) rfl rfl
theorem k1_163 : Cond.lays "java/lang/IllegalArgumentException" "java/lang/Throwable" "depth" "I" ∈ tws := tw1 (i := 163) rfl rfl
theorem k1_164 : Cond.soleField "java/lang/Throwable" "depth" ∈ tws := tw1 (i := 164) rfl rfl
theorem k1_165 : Cond.soleField "java/lang/Throwable" "suppressedExceptions" ∈ tws := tw1 (i := 165) rfl rfl
theorem k1_166 : Cond.superclass "java/lang/IllegalArgumentException" "java/lang/RuntimeException" ∈ tws := tw1 (i := 166) rfl rfl
theorem k1_167 : Cond.arrayClass FieldType.byte ∈ tws := tw1 (i := 167) rfl rfl
theorem k1_168 : Cond.methodLink "PairedTexts" 38 yP_requireArgument ∈ tws := tw1 (i := 168) rfl rfl
theorem k1_169 : Cond.static yP_requireArgument ∈ tws := tw1 (i := 169) rfl rfl
theorem k1_170 : Cond.code yP_requireArgument prog_1_method_26_code 1 (Option.none : Option ClassFile.FieldType) ∈ tws := tw1 (i := 170) rfl rfl
theorem k1_172 : Cond.methodLink "PairedTexts" 46 yP_requireRoom ∈ tws := tw1 (i := 172) rfl rfl
theorem k1_173 : Cond.static yP_requireRoom ∈ tws := tw1 (i := 173) rfl rfl
theorem k1_174 : Cond.code yP_requireRoom prog_1_method_28_code 2 (Option.none : Option ClassFile.FieldType) ∈ tws := tw1 (i := 174) rfl rfl
theorem k1_175 : Cond.constantLong "PairedTexts" 137 (1000 : Int64) ∈ tws := tw1 (i := 175) rfl rfl
theorem k1_176 : Cond.classLink "PairedTexts" 139 "java/lang/UnsupportedOperationException" ∈ tws := tw1 (i := 176) rfl rfl
theorem k1_177 : Cond.instantiable "java/lang/UnsupportedOperationException" 6 ∈ tws := tw1 (i := 177) rfl rfl
theorem k1_179 : Cond.selects "java/lang/UnsupportedOperationException" ⟨"java/lang/Throwable", "fillInStackTrace", "(I)Ljava/lang/Throwable;"⟩ ⟨"java/lang/Throwable", "fillInStackTrace", "(I)Ljava/lang/Throwable;"⟩ ∈ tws := tw1 (i := 179) rfl rfl
theorem k1_180 : Cond.lays "java/lang/UnsupportedOperationException" "java/lang/Throwable" "cause" "Ljava/lang/Throwable;" ∈ tws := tw1 (i := 180) rfl rfl
theorem k1_181 : Cond.lays "java/lang/UnsupportedOperationException" "java/lang/Throwable" "stackTrace" "[Ljava/lang/StackTraceElement;" ∈ tws := tw1 (i := 181) rfl rfl
theorem k1_182 : Cond.lays "java/lang/UnsupportedOperationException" "java/lang/Throwable" "suppressedExceptions" "Ljava/util/List;" ∈ tws := tw1 (i := 182) rfl rfl
theorem k1_183 : Cond.lays "java/lang/UnsupportedOperationException" "java/lang/Throwable" "detailMessage" "Ljava/lang/String;" ∈ tws := tw1 (i := 183) rfl rfl
theorem k1_184 : Cond.lays "java/lang/UnsupportedOperationException" "java/lang/Throwable" "backtrace" "Ljava/lang/Object;" ∈ tws := tw1 (i := 184) rfl rfl
theorem k1_186 : Cond.methodLink "PairedTexts" 143 ⟨"java/lang/UnsupportedOperationException", "<init>", "(Ljava/lang/String;)V"⟩ ∈ tws := tw1 (i := 186) rfl rfl
theorem k1_187 : Cond.instanceMethod ⟨"java/lang/UnsupportedOperationException", "<init>", "(Ljava/lang/String;)V"⟩ ∈ tws := tw1 (i := 187) rfl rfl
theorem k1_188 : Cond.code ⟨"java/lang/UnsupportedOperationException", "<init>", "(Ljava/lang/String;)V"⟩ prog_16_method_2_code 2 (Option.none : Option ClassFile.FieldType) ∈ tws := tw1 (i := 188) rfl rfl
theorem k1_189 : Cond.methodLink "java/lang/UnsupportedOperationException" 7 ⟨"java/lang/RuntimeException", "<init>", "(Ljava/lang/String;)V"⟩ ∈ tws := tw1 (i := 189) rfl rfl
theorem k1_190 : Cond.lays "java/lang/UnsupportedOperationException" "java/lang/Throwable" "depth" "I" ∈ tws := tw1 (i := 190) rfl rfl
theorem k1_191 : Cond.superclass "java/lang/UnsupportedOperationException" "java/lang/RuntimeException" ∈ tws := tw1 (i := 191) rfl rfl
theorem k1_192 : Cond.methodLink "PairedTexts" 50 yP_byteOf ∈ tws := tw1 (i := 192) rfl rfl
theorem k1_193 : Cond.static yP_byteOf ∈ tws := tw1 (i := 193) rfl rfl
theorem k1_194 : Cond.code yP_byteOf prog_1_method_30_code 3 (Option.some FieldType.int) ∈ tws := tw1 (i := 194) rfl rfl
theorem k1_195 : Cond.methodLink "PairedTexts" 54 yT_add ∈ tws := tw1 (i := 195) rfl rfl
theorem k1_196 : Cond.instanceMethod yT_add ∈ tws := tw1 (i := 196) rfl rfl
theorem k1_197 : Cond.selects "PairedTexts$Text" yT_add yT_add ∈ tws := tw1 (i := 197) rfl rfl
theorem k1_198 : Cond.code yT_add prog_4_method_3_code 2 (Option.none : Option ClassFile.FieldType) ∈ tws := tw1 (i := 198) rfl rfl
theorem k1_199 : Cond.methodLink "PairedTextsLaw" 104 yL_length ∈ tws := tw1 (i := 199) rfl rfl
theorem k1_200 : Cond.static yL_length ∈ tws := tw1 (i := 200) rfl rfl
theorem k1_201 : Cond.codeWith yL_length method_4_code 4 (Option.some FieldType.int) [(0, 9, 12, 13)] ∈ tws := tw1 (i := 201) rfl rfl
theorem k1_202 : Cond.methodLink "PairedTextsLaw" 17 yP_length ∈ tws := tw1 (i := 202) rfl rfl
theorem k1_203 : Cond.instanceMethod yP_length ∈ tws := tw1 (i := 203) rfl rfl
theorem k1_204 : Cond.selects "PairedTexts" yP_length yP_length ∈ tws := tw1 (i := 204) rfl rfl
theorem k1_205 : Cond.code yP_length prog_1_method_3_code 2 (Option.some FieldType.int) ∈ tws := tw1 (i := 205) rfl rfl
theorem k1_206 : Cond.methodLink "PairedTextsLaw" 108 yL_byteAt ∈ tws := tw1 (i := 206) rfl rfl
theorem k1_207 : Cond.static yL_byteAt ∈ tws := tw1 (i := 207) rfl rfl
theorem k1_208 : Cond.codeWith yL_byteAt method_5_code 5 (Option.some FieldType.int) [(0, 10, 13, 13), (0, 10, 17, 25)] ∈ tws := tw1 (i := 208) rfl rfl
theorem k1_209 : Cond.classLink "PairedTextsLaw" 25 "java/lang/IndexOutOfBoundsException" ∈ tws := tw1 (i := 209) rfl rfl
theorem k1_210 : Cond.methodLink "PairedTextsLaw" 21 yP_byteAt ∈ tws := tw1 (i := 210) rfl rfl
theorem k1_211 : Cond.instanceMethod yP_byteAt ∈ tws := tw1 (i := 211) rfl rfl
theorem k1_212 : Cond.selects "PairedTexts" yP_byteAt yP_byteAt ∈ tws := tw1 (i := 212) rfl rfl
theorem k1_213 : Cond.code yP_byteAt prog_1_method_4_code 4 (Option.some FieldType.int) ∈ tws := tw1 (i := 213) rfl rfl
theorem k1_214 : Cond.methodLink "PairedTexts" 58 yP_requireInside ∈ tws := tw1 (i := 214) rfl rfl
theorem k1_215 : Cond.static yP_requireInside ∈ tws := tw1 (i := 215) rfl rfl
theorem k1_216 : Cond.code yP_requireInside prog_1_method_27_code 1 (Option.none : Option ClassFile.FieldType) ∈ tws := tw1 (i := 216) rfl rfl
theorem k1_217 : Cond.classLink "PairedTexts" 132 "java/lang/IndexOutOfBoundsException" ∈ tws := tw1 (i := 217) rfl rfl
theorem k1_218 : Cond.instantiable "java/lang/IndexOutOfBoundsException" 6 ∈ tws := tw1 (i := 218) rfl rfl
theorem k1_220 : Cond.selects "java/lang/IndexOutOfBoundsException" ⟨"java/lang/Throwable", "fillInStackTrace", "(I)Ljava/lang/Throwable;"⟩ ⟨"java/lang/Throwable", "fillInStackTrace", "(I)Ljava/lang/Throwable;"⟩ ∈ tws := tw1 (i := 220) rfl rfl
theorem k1_221 : Cond.lays "java/lang/IndexOutOfBoundsException" "java/lang/Throwable" "cause" "Ljava/lang/Throwable;" ∈ tws := tw1 (i := 221) rfl rfl
theorem k1_222 : Cond.lays "java/lang/IndexOutOfBoundsException" "java/lang/Throwable" "stackTrace" "[Ljava/lang/StackTraceElement;" ∈ tws := tw1 (i := 222) rfl rfl
theorem k1_223 : Cond.lays "java/lang/IndexOutOfBoundsException" "java/lang/Throwable" "suppressedExceptions" "Ljava/util/List;" ∈ tws := tw1 (i := 223) rfl rfl
theorem k1_224 : Cond.lays "java/lang/IndexOutOfBoundsException" "java/lang/Throwable" "detailMessage" "Ljava/lang/String;" ∈ tws := tw1 (i := 224) rfl rfl
theorem k1_225 : Cond.lays "java/lang/IndexOutOfBoundsException" "java/lang/Throwable" "backtrace" "Ljava/lang/Object;" ∈ tws := tw1 (i := 225) rfl rfl
theorem k1_227 : Cond.methodLink "PairedTexts" 136 ⟨"java/lang/IndexOutOfBoundsException", "<init>", "(Ljava/lang/String;)V"⟩ ∈ tws := tw1 (i := 227) rfl rfl
theorem k1_228 : Cond.instanceMethod ⟨"java/lang/IndexOutOfBoundsException", "<init>", "(Ljava/lang/String;)V"⟩ ∈ tws := tw1 (i := 228) rfl rfl
theorem k1_229 : Cond.code ⟨"java/lang/IndexOutOfBoundsException", "<init>", "(Ljava/lang/String;)V"⟩ prog_10_method_2_code 2 (Option.none : Option ClassFile.FieldType) ∈ tws := tw1 (i := 229) rfl rfl
theorem k1_230 : Cond.methodLink "java/lang/IndexOutOfBoundsException" 7 ⟨"java/lang/RuntimeException", "<init>", "(Ljava/lang/String;)V"⟩ ∈ tws := tw1 (i := 230) rfl rfl
theorem k1_231 : Cond.lays "java/lang/IndexOutOfBoundsException" "java/lang/Throwable" "depth" "I" ∈ tws := tw1 (i := 231) rfl rfl
theorem k1_232 : Cond.superclass "java/lang/IndexOutOfBoundsException" "java/lang/RuntimeException" ∈ tws := tw1 (i := 232) rfl rfl
theorem k1_233 : Cond.methodLink "PairedTextsLaw" 112 yL_copy ∈ tws := tw1 (i := 233) rfl rfl
theorem k1_234 : Cond.static yL_copy ∈ tws := tw1 (i := 234) rfl rfl
theorem k1_235 : Cond.codeWith yL_copy method_6_code 7 (Option.some FieldType.int) [(0, 14, 17, 13), (0, 14, 21, 25)] ∈ tws := tw1 (i := 235) rfl rfl
theorem k1_236 : Cond.methodLink "PairedTextsLaw" 27 yP_copy ∈ tws := tw1 (i := 236) rfl rfl
theorem k1_237 : Cond.instanceMethod yP_copy ∈ tws := tw1 (i := 237) rfl rfl
theorem k1_238 : Cond.selects "PairedTexts" yP_copy yP_copy ∈ tws := tw1 (i := 238) rfl rfl
theorem k1_239 : Cond.code yP_copy prog_1_method_5_code 6 (Option.some FieldType.int) ∈ tws := tw1 (i := 239) rfl rfl
theorem k2_0 : Cond.methodLink "PairedTexts" 68 yT_hasRange ∈ tws := tw2 (i := 0) rfl rfl
theorem k2_1 : Cond.instanceMethod yT_hasRange ∈ tws := tw2 (i := 1) rfl rfl
theorem k2_2 : Cond.selects "PairedTexts$Text" yT_hasRange yT_hasRange ∈ tws := tw2 (i := 2) rfl rfl
theorem k2_3 : Cond.code yT_hasRange prog_4_method_5_code 4 (Option.some FieldType.boolean) ∈ tws := tw2 (i := 3) rfl rfl
theorem k2_4 : Cond.methodLink "PairedTexts" 72 yT_clear ∈ tws := tw2 (i := 4) rfl rfl
theorem k2_5 : Cond.instanceMethod yT_clear ∈ tws := tw2 (i := 5) rfl rfl
theorem k2_6 : Cond.selects "PairedTexts$Text" yT_clear yT_clear ∈ tws := tw2 (i := 6) rfl rfl
theorem k2_7 : Cond.code yT_clear prog_4_method_2_code 1 (Option.none : Option ClassFile.FieldType) ∈ tws := tw2 (i := 7) rfl rfl
theorem k2_8 : Cond.methodLink "PairedTexts" 75 yT_addRange ∈ tws := tw2 (i := 8) rfl rfl
theorem k2_9 : Cond.instanceMethod yT_addRange ∈ tws := tw2 (i := 9) rfl rfl
theorem k2_10 : Cond.selects "PairedTexts$Text" yT_addRange yT_addRange ∈ tws := tw2 (i := 10) rfl rfl
theorem k2_11 : Cond.code yT_addRange prog_4_method_4_code 4 (Option.none : Option ClassFile.FieldType) ∈ tws := tw2 (i := 11) rfl rfl
theorem k2_12 : Cond.methodLink "PairedTexts$Text" 19 ⟨"java/lang/System", "arraycopy", "(Ljava/lang/Object;ILjava/lang/Object;II)V"⟩ ∈ tws := tw2 (i := 12) rfl rfl
theorem k2_13 : Cond.static ⟨"java/lang/System", "arraycopy", "(Ljava/lang/Object;ILjava/lang/Object;II)V"⟩ ∈ tws := tw2 (i := 13) rfl rfl
theorem k2_14 : Cond.native ⟨"java/lang/System", "arraycopy", "(Ljava/lang/Object;ILjava/lang/Object;II)V"⟩ ∈ tws := tw2 (i := 14) rfl rfl
theorem k2_15 : Cond.methodLink "PairedTexts" 79 yP_draftBecomesTextOf ∈ tws := tw2 (i := 15) rfl rfl
theorem k2_17 : Cond.instanceMethod yP_draftBecomesTextOf ∈ tws := tw2 (i := 17) rfl rfl
theorem k2_18 : Cond.code yP_draftBecomesTextOf prog_1_method_23_code 3 (Option.some FieldType.int) ∈ tws := tw2 (i := 18) rfl rfl
theorem k2_19 : Cond.methodLink "PairedTextsLaw" 116 yL_join ∈ tws := tw2 (i := 19) rfl rfl
theorem k2_20 : Cond.static yL_join ∈ tws := tw2 (i := 20) rfl rfl
theorem k2_21 : Cond.codeWith yL_join method_7_code 6 (Option.some FieldType.int) [(0, 12, 15, 13), (0, 12, 19, 15)] ∈ tws := tw2 (i := 21) rfl rfl
theorem k2_22 : Cond.methodLink "PairedTextsLaw" 31 yP_join ∈ tws := tw2 (i := 22) rfl rfl
theorem k2_23 : Cond.instanceMethod yP_join ∈ tws := tw2 (i := 23) rfl rfl
theorem k2_24 : Cond.selects "PairedTexts" yP_join yP_join ∈ tws := tw2 (i := 24) rfl rfl
theorem k2_25 : Cond.code yP_join prog_1_method_6_code 6 (Option.some FieldType.int) ∈ tws := tw2 (i := 25) rfl rfl
theorem k2_26 : Cond.methodLink "PairedTextsLaw" 120 yL_insert ∈ tws := tw2 (i := 26) rfl rfl
theorem k2_27 : Cond.static yL_insert ∈ tws := tw2 (i := 27) rfl rfl
theorem k2_28 : Cond.codeWith yL_insert method_8_code 8 (Option.some FieldType.int) [(0, 16, 19, 13), (0, 16, 23, 25), (0, 16, 27, 15)] ∈ tws := tw2 (i := 28) rfl rfl
theorem k2_29 : Cond.methodLink "PairedTextsLaw" 35 yP_insert ∈ tws := tw2 (i := 29) rfl rfl
theorem k2_30 : Cond.instanceMethod yP_insert ∈ tws := tw2 (i := 30) rfl rfl
theorem k2_31 : Cond.selects "PairedTexts" yP_insert yP_insert ∈ tws := tw2 (i := 31) rfl rfl
theorem k2_32 : Cond.code yP_insert prog_1_method_7_code 8 (Option.some FieldType.int) ∈ tws := tw2 (i := 32) rfl rfl
theorem k2_33 : Cond.methodLink "PairedTexts" 83 yT_hasPiece ∈ tws := tw2 (i := 33) rfl rfl
theorem k2_34 : Cond.instanceMethod yT_hasPiece ∈ tws := tw2 (i := 34) rfl rfl
theorem k2_35 : Cond.selects "PairedTexts$Text" yT_hasPiece yT_hasPiece ∈ tws := tw2 (i := 35) rfl rfl
theorem k2_36 : Cond.code yT_hasPiece prog_4_method_6_code 2 (Option.some FieldType.boolean) ∈ tws := tw2 (i := 36) rfl rfl
theorem k2_37 : Cond.methodLink "PairedTextsLaw" 124 yL_delete ∈ tws := tw2 (i := 37) rfl rfl
theorem k2_38 : Cond.static yL_delete ∈ tws := tw2 (i := 38) rfl rfl
theorem k2_39 : Cond.codeWith yL_delete method_9_code 6 (Option.some FieldType.int) [(0, 12, 15, 13), (0, 12, 19, 25)] ∈ tws := tw2 (i := 39) rfl rfl
theorem k2_40 : Cond.methodLink "PairedTextsLaw" 39 yP_delete ∈ tws := tw2 (i := 40) rfl rfl
theorem k2_41 : Cond.instanceMethod yP_delete ∈ tws := tw2 (i := 41) rfl rfl
theorem k2_42 : Cond.selects "PairedTexts" yP_delete yP_delete ∈ tws := tw2 (i := 42) rfl rfl
theorem k2_43 : Cond.code yP_delete prog_1_method_8_code 5 (Option.some FieldType.int) ∈ tws := tw2 (i := 43) rfl rfl
theorem k2_44 : Cond.methodLink "PairedTextsLaw" 127 yL_move ∈ tws := tw2 (i := 44) rfl rfl
theorem k2_45 : Cond.static yL_move ∈ tws := tw2 (i := 45) rfl rfl
theorem k2_46 : Cond.codeWith yL_move method_10_code 7 (Option.some FieldType.int) [(0, 14, 17, 13), (0, 14, 21, 25)] ∈ tws := tw2 (i := 46) rfl rfl
theorem k2_47 : Cond.methodLink "PairedTextsLaw" 42 yP_move ∈ tws := tw2 (i := 47) rfl rfl
theorem k2_48 : Cond.instanceMethod yP_move ∈ tws := tw2 (i := 48) rfl rfl
theorem k2_49 : Cond.selects "PairedTexts" yP_move yP_move ∈ tws := tw2 (i := 49) rfl rfl
theorem k2_50 : Cond.code yP_move prog_1_method_9_code 7 (Option.some FieldType.int) ∈ tws := tw2 (i := 50) rfl rfl
theorem k2_51 : Cond.methodLink "PairedTextsLaw" 130 yL_repeat ∈ tws := tw2 (i := 51) rfl rfl
theorem k2_52 : Cond.static yL_repeat ∈ tws := tw2 (i := 52) rfl rfl
theorem k2_53 : Cond.codeWith yL_repeat method_11_code 7 (Option.some FieldType.int) [(0, 14, 17, 13), (0, 14, 21, 25), (0, 14, 25, 15)] ∈ tws := tw2 (i := 53) rfl rfl
theorem k2_54 : Cond.methodLink "PairedTextsLaw" 45 yP_repeat ∈ tws := tw2 (i := 54) rfl rfl
theorem k2_55 : Cond.instanceMethod yP_repeat ∈ tws := tw2 (i := 55) rfl rfl
theorem k2_56 : Cond.selects "PairedTexts" yP_repeat yP_repeat ∈ tws := tw2 (i := 56) rfl rfl
theorem k2_57 : Cond.code yP_repeat prog_1_method_10_code 10 (Option.some FieldType.int) ∈ tws := tw2 (i := 57) rfl rfl
theorem k2_58 : Cond.methodLink "PairedTextsLaw" 133 yL_same ∈ tws := tw2 (i := 58) rfl rfl
theorem k2_59 : Cond.static yL_same ∈ tws := tw2 (i := 59) rfl rfl
theorem k2_60 : Cond.codeWith yL_same method_12_code 8 (Option.some FieldType.int) [(0, 23, 26, 13), (0, 23, 30, 25)] ∈ tws := tw2 (i := 60) rfl rfl
theorem k2_61 : Cond.methodLink "PairedTextsLaw" 48 yP_same ∈ tws := tw2 (i := 61) rfl rfl
theorem k2_62 : Cond.instanceMethod yP_same ∈ tws := tw2 (i := 62) rfl rfl
theorem k2_63 : Cond.selects "PairedTexts" yP_same yP_same ∈ tws := tw2 (i := 63) rfl rfl
theorem k2_64 : Cond.code yP_same prog_1_method_11_code 8 (Option.some FieldType.boolean) ∈ tws := tw2 (i := 64) rfl rfl
theorem k2_65 : Cond.methodLink "PairedTexts" 87 yP_commonBeginning ∈ tws := tw2 (i := 65) rfl rfl
theorem k2_66 : Cond.static yP_commonBeginning ∈ tws := tw2 (i := 66) rfl rfl
theorem k2_67 : Cond.code yP_commonBeginning prog_1_method_31_code 6 (Option.some FieldType.int) ∈ tws := tw2 (i := 67) rfl rfl
theorem k2_68 : Cond.methodLink "PairedTexts" 150 ⟨"java/lang/Math", "min", "(II)I"⟩ ∈ tws := tw2 (i := 68) rfl rfl
theorem k2_69 : Cond.static ⟨"java/lang/Math", "min", "(II)I"⟩ ∈ tws := tw2 (i := 69) rfl rfl
theorem k2_70 : Cond.code ⟨"java/lang/Math", "min", "(II)I"⟩ prog_11_method_69_code 2 (Option.some FieldType.int) ∈ tws := tw2 (i := 70) rfl rfl
theorem k2_71 : Cond.methodLink "PairedTextsLaw" 136 yL_prefix ∈ tws := tw2 (i := 71) rfl rfl
theorem k2_72 : Cond.static yL_prefix ∈ tws := tw2 (i := 72) rfl rfl
theorem k2_73 : Cond.codeWith yL_prefix method_13_code 7 (Option.some FieldType.int) [(0, 14, 17, 13), (0, 14, 21, 25)] ∈ tws := tw2 (i := 73) rfl rfl
theorem k2_74 : Cond.methodLink "PairedTextsLaw" 52 yP_prefix ∈ tws := tw2 (i := 74) rfl rfl
theorem k2_75 : Cond.instanceMethod yP_prefix ∈ tws := tw2 (i := 75) rfl rfl
theorem k2_76 : Cond.selects "PairedTexts" yP_prefix yP_prefix ∈ tws := tw2 (i := 76) rfl rfl
theorem k2_77 : Cond.code yP_prefix prog_1_method_12_code 7 (Option.some FieldType.int) ∈ tws := tw2 (i := 77) rfl rfl
theorem k2_78 : Cond.methodLink "PairedTextsLaw" 139 yL_order ∈ tws := tw2 (i := 78) rfl rfl
theorem k2_79 : Cond.static yL_order ∈ tws := tw2 (i := 79) rfl rfl
theorem k2_80 : Cond.codeWith yL_order method_14_code 7 (Option.some FieldType.int) [(0, 14, 17, 13), (0, 14, 21, 25)] ∈ tws := tw2 (i := 80) rfl rfl
theorem k2_81 : Cond.methodLink "PairedTextsLaw" 55 yP_order ∈ tws := tw2 (i := 81) rfl rfl
theorem k2_82 : Cond.instanceMethod yP_order ∈ tws := tw2 (i := 82) rfl rfl
theorem k2_83 : Cond.selects "PairedTexts" yP_order yP_order ∈ tws := tw2 (i := 83) rfl rfl
theorem k2_84 : Cond.code yP_order prog_1_method_13_code 10 (Option.some FieldType.int) ∈ tws := tw2 (i := 84) rfl rfl
theorem k2_85 : Cond.methodLink "PairedTextsLaw" 142 yL_name ∈ tws := tw2 (i := 85) rfl rfl
theorem k2_86 : Cond.static yL_name ∈ tws := tw2 (i := 86) rfl rfl
theorem k2_87 : Cond.codeWith yL_name method_15_code 6 (Option.some FieldType.int) [(0, 11, 14, 13), (0, 11, 18, 25)] ∈ tws := tw2 (i := 87) rfl rfl
theorem k2_88 : Cond.methodLink "PairedTextsLaw" 58 yP_name ∈ tws := tw2 (i := 88) rfl rfl
theorem k2_89 : Cond.instanceMethod yP_name ∈ tws := tw2 (i := 89) rfl rfl
theorem k2_90 : Cond.selects "PairedTexts" yP_name yP_name ∈ tws := tw2 (i := 90) rfl rfl
theorem k2_91 : Cond.code yP_name prog_1_method_14_code 8 (Option.some FieldType.long) ∈ tws := tw2 (i := 91) rfl rfl
theorem k2_92 : Cond.methodLink "PairedTexts" 91 yP_nameWithOneMore ∈ tws := tw2 (i := 92) rfl rfl
theorem k2_93 : Cond.static yP_nameWithOneMore ∈ tws := tw2 (i := 93) rfl rfl
theorem k2_94 : Cond.code yP_nameWithOneMore prog_1_method_32_code 9 (Option.some FieldType.long) ∈ tws := tw2 (i := 94) rfl rfl
theorem k2_95 : Cond.constantLong "PairedTexts" 155 (1000003 : Int64) ∈ tws := tw2 (i := 95) rfl rfl
theorem k2_96 : Cond.constantLong "PairedTexts" 157 (2147483647 : Int64) ∈ tws := tw2 (i := 96) rfl rfl
theorem k2_97 : Cond.constantLong "PairedTexts" 159 (1073741823 : Int64) ∈ tws := tw2 (i := 97) rfl rfl
theorem k2_98 : Cond.constantLong "PairedTexts" 161 (2305843009213693951 : Int64) ∈ tws := tw2 (i := 98) rfl rfl
theorem k2_99 : Cond.methodLink "PairedTextsLaw" 145 yL_pattern ∈ tws := tw2 (i := 99) rfl rfl
theorem k2_100 : Cond.static yL_pattern ∈ tws := tw2 (i := 100) rfl rfl
theorem k2_101 : Cond.codeWith yL_pattern method_16_code 7 (Option.some FieldType.int) [(0, 8, 11, 13)] ∈ tws := tw2 (i := 101) rfl rfl
theorem k2_102 : Cond.methodLink "PairedTextsLaw" 62 yP_pattern ∈ tws := tw2 (i := 102) rfl rfl
theorem k2_103 : Cond.instanceMethod yP_pattern ∈ tws := tw2 (i := 103) rfl rfl
theorem k2_104 : Cond.selects "PairedTexts" yP_pattern yP_pattern ∈ tws := tw2 (i := 104) rfl rfl
theorem k2_105 : Cond.code yP_pattern prog_1_method_15_code 6 (Option.none : Option ClassFile.FieldType) ∈ tws := tw2 (i := 105) rfl rfl
theorem k2_106 : Cond.methodLink "PairedTexts" 95 yQ_become ∈ tws := tw2 (i := 106) rfl rfl
theorem k2_107 : Cond.instanceMethod yQ_become ∈ tws := tw2 (i := 107) rfl rfl
theorem k2_108 : Cond.selects "PairedTexts$Pattern" yQ_become yQ_become ∈ tws := tw2 (i := 108) rfl rfl
theorem k2_109 : Cond.code yQ_become prog_3_method_2_code 7 (Option.none : Option ClassFile.FieldType) ∈ tws := tw2 (i := 109) rfl rfl
theorem k2_111 : Cond.methodLink "PairedTextsLaw" 149 yL_count ∈ tws := tw2 (i := 111) rfl rfl
theorem k2_112 : Cond.static yL_count ∈ tws := tw2 (i := 112) rfl rfl
theorem k2_113 : Cond.codeWith yL_count method_17_code 6 (Option.some FieldType.int) [(0, 12, 15, 13), (0, 12, 19, 25), (0, 12, 23, 69)] ∈ tws := tw2 (i := 113) rfl rfl
theorem k2_114 : Cond.classLink "PairedTextsLaw" 69 "java/lang/IllegalStateException" ∈ tws := tw2 (i := 114) rfl rfl
theorem k2_115 : Cond.methodLink "PairedTextsLaw" 66 yP_count ∈ tws := tw2 (i := 115) rfl rfl
theorem k2_116 : Cond.instanceMethod yP_count ∈ tws := tw2 (i := 116) rfl rfl
theorem k2_117 : Cond.selects "PairedTexts" yP_count yP_count ∈ tws := tw2 (i := 117) rfl rfl
theorem k2_118 : Cond.code yP_count prog_1_method_16_code 7 (Option.some FieldType.int) ∈ tws := tw2 (i := 118) rfl rfl
theorem k2_119 : Cond.methodLink "PairedTexts" 99 yP_requirePattern ∈ tws := tw2 (i := 119) rfl rfl
theorem k2_121 : Cond.instanceMethod yP_requirePattern ∈ tws := tw2 (i := 121) rfl rfl
theorem k2_122 : Cond.code yP_requirePattern prog_1_method_29_code 1 (Option.none : Option ClassFile.FieldType) ∈ tws := tw2 (i := 122) rfl rfl
theorem k2_123 : Cond.classLink "PairedTexts" 145 "java/lang/IllegalStateException" ∈ tws := tw2 (i := 123) rfl rfl
theorem k2_124 : Cond.instantiable "java/lang/IllegalStateException" 6 ∈ tws := tw2 (i := 124) rfl rfl
theorem k2_126 : Cond.selects "java/lang/IllegalStateException" ⟨"java/lang/Throwable", "fillInStackTrace", "(I)Ljava/lang/Throwable;"⟩ ⟨"java/lang/Throwable", "fillInStackTrace", "(I)Ljava/lang/Throwable;"⟩ ∈ tws := tw2 (i := 126) rfl rfl
theorem k2_127 : Cond.lays "java/lang/IllegalStateException" "java/lang/Throwable" "cause" "Ljava/lang/Throwable;" ∈ tws := tw2 (i := 127) rfl rfl
theorem k2_128 : Cond.lays "java/lang/IllegalStateException" "java/lang/Throwable" "stackTrace" "[Ljava/lang/StackTraceElement;" ∈ tws := tw2 (i := 128) rfl rfl
theorem k2_129 : Cond.lays "java/lang/IllegalStateException" "java/lang/Throwable" "suppressedExceptions" "Ljava/util/List;" ∈ tws := tw2 (i := 129) rfl rfl
theorem k2_130 : Cond.lays "java/lang/IllegalStateException" "java/lang/Throwable" "detailMessage" "Ljava/lang/String;" ∈ tws := tw2 (i := 130) rfl rfl
theorem k2_131 : Cond.lays "java/lang/IllegalStateException" "java/lang/Throwable" "backtrace" "Ljava/lang/Object;" ∈ tws := tw2 (i := 131) rfl rfl
theorem k2_133 : Cond.methodLink "PairedTexts" 149 ⟨"java/lang/IllegalStateException", "<init>", "(Ljava/lang/String;)V"⟩ ∈ tws := tw2 (i := 133) rfl rfl
theorem k2_134 : Cond.instanceMethod ⟨"java/lang/IllegalStateException", "<init>", "(Ljava/lang/String;)V"⟩ ∈ tws := tw2 (i := 134) rfl rfl
theorem k2_135 : Cond.code ⟨"java/lang/IllegalStateException", "<init>", "(Ljava/lang/String;)V"⟩ prog_9_method_2_code 2 (Option.none : Option ClassFile.FieldType) ∈ tws := tw2 (i := 135) rfl rfl
theorem k2_136 : Cond.methodLink "java/lang/IllegalStateException" 7 ⟨"java/lang/RuntimeException", "<init>", "(Ljava/lang/String;)V"⟩ ∈ tws := tw2 (i := 136) rfl rfl
theorem k2_137 : Cond.lays "java/lang/IllegalStateException" "java/lang/Throwable" "depth" "I" ∈ tws := tw2 (i := 137) rfl rfl
theorem k2_138 : Cond.superclass "java/lang/IllegalStateException" "java/lang/RuntimeException" ∈ tws := tw2 (i := 138) rfl rfl
theorem k2_139 : Cond.methodLink "PairedTexts" 102 yQ_standsAt ∈ tws := tw2 (i := 139) rfl rfl
theorem k2_140 : Cond.instanceMethod yQ_standsAt ∈ tws := tw2 (i := 140) rfl rfl
theorem k2_141 : Cond.selects "PairedTexts$Pattern" yQ_standsAt yQ_standsAt ∈ tws := tw2 (i := 141) rfl rfl
theorem k2_142 : Cond.code yQ_standsAt prog_3_method_3_code 5 (Option.some FieldType.boolean) ∈ tws := tw2 (i := 142) rfl rfl
theorem k2_143 : Cond.methodLink "PairedTextsLaw" 152 yL_find ∈ tws := tw2 (i := 143) rfl rfl
theorem k2_144 : Cond.static yL_find ∈ tws := tw2 (i := 144) rfl rfl
theorem k2_145 : Cond.codeWith yL_find method_18_code 6 (Option.some FieldType.int) [(0, 12, 15, 13), (0, 12, 19, 25), (0, 12, 23, 69)] ∈ tws := tw2 (i := 145) rfl rfl
theorem k2_146 : Cond.methodLink "PairedTextsLaw" 71 yP_find ∈ tws := tw2 (i := 146) rfl rfl
theorem k2_147 : Cond.instanceMethod yP_find ∈ tws := tw2 (i := 147) rfl rfl
theorem k2_148 : Cond.selects "PairedTexts" yP_find yP_find ∈ tws := tw2 (i := 148) rfl rfl
theorem k2_149 : Cond.code yP_find prog_1_method_17_code 7 (Option.some FieldType.int) ∈ tws := tw2 (i := 149) rfl rfl
theorem k2_150 : Cond.methodLink "PairedTextsLaw" 155 yL_lead ∈ tws := tw2 (i := 150) rfl rfl
theorem k2_151 : Cond.static yL_lead ∈ tws := tw2 (i := 151) rfl rfl
theorem k2_152 : Cond.codeWith yL_lead method_19_code 6 (Option.some FieldType.int) [(0, 9, 12, 13)] ∈ tws := tw2 (i := 152) rfl rfl
theorem k2_153 : Cond.methodLink "PairedTextsLaw" 74 yP_lead ∈ tws := tw2 (i := 153) rfl rfl
theorem k2_154 : Cond.instanceMethod yP_lead ∈ tws := tw2 (i := 154) rfl rfl
theorem k2_155 : Cond.selects "PairedTexts" yP_lead yP_lead ∈ tws := tw2 (i := 155) rfl rfl
theorem k2_156 : Cond.code yP_lead prog_1_method_18_code 6 (Option.none : Option ClassFile.FieldType) ∈ tws := tw2 (i := 156) rfl rfl
theorem k2_157 : Cond.methodLink "PairedTexts" 106 yP_requireState ∈ tws := tw2 (i := 157) rfl rfl
theorem k2_158 : Cond.static yP_requireState ∈ tws := tw2 (i := 158) rfl rfl
theorem k2_159 : Cond.code yP_requireState prog_1_method_25_code 1 (Option.none : Option ClassFile.FieldType) ∈ tws := tw2 (i := 159) rfl rfl
theorem k2_161 : Cond.methodLink "PairedTexts" 109 yA_setNext ∈ tws := tw2 (i := 161) rfl rfl
theorem k2_162 : Cond.instanceMethod yA_setNext ∈ tws := tw2 (i := 162) rfl rfl
theorem k2_163 : Cond.selects "PairedTexts$Automaton" yA_setNext yA_setNext ∈ tws := tw2 (i := 163) rfl rfl
theorem k2_164 : Cond.code yA_setNext prog_2_method_3_code 4 (Option.none : Option ClassFile.FieldType) ∈ tws := tw2 (i := 164) rfl rfl
theorem k2_165 : Cond.methodLink "PairedTextsLaw" 159 yL_accept ∈ tws := tw2 (i := 165) rfl rfl
theorem k2_166 : Cond.static yL_accept ∈ tws := tw2 (i := 166) rfl rfl
theorem k2_167 : Cond.codeWith yL_accept method_20_code 4 (Option.some FieldType.int) [(0, 6, 9, 13)] ∈ tws := tw2 (i := 167) rfl rfl
theorem k2_168 : Cond.methodLink "PairedTextsLaw" 78 yP_accept ∈ tws := tw2 (i := 168) rfl rfl
theorem k2_169 : Cond.instanceMethod yP_accept ∈ tws := tw2 (i := 169) rfl rfl
theorem k2_170 : Cond.selects "PairedTexts" yP_accept yP_accept ∈ tws := tw2 (i := 170) rfl rfl
theorem k2_171 : Cond.code yP_accept prog_1_method_19_code 3 (Option.none : Option ClassFile.FieldType) ∈ tws := tw2 (i := 171) rfl rfl
theorem k2_172 : Cond.methodLink "PairedTextsLaw" 163 yL_run ∈ tws := tw2 (i := 172) rfl rfl
theorem k2_173 : Cond.static yL_run ∈ tws := tw2 (i := 173) rfl rfl
theorem k2_174 : Cond.codeWith yL_run method_21_code 7 (Option.some FieldType.int) [(0, 14, 17, 13), (0, 14, 21, 25)] ∈ tws := tw2 (i := 174) rfl rfl
theorem k2_175 : Cond.methodLink "PairedTextsLaw" 82 yP_run ∈ tws := tw2 (i := 175) rfl rfl
theorem k2_176 : Cond.instanceMethod yP_run ∈ tws := tw2 (i := 176) rfl rfl
theorem k2_177 : Cond.selects "PairedTexts" yP_run yP_run ∈ tws := tw2 (i := 177) rfl rfl
theorem k2_178 : Cond.code yP_run prog_1_method_20_code 8 (Option.some FieldType.int) ∈ tws := tw2 (i := 178) rfl rfl
theorem k2_179 : Cond.methodLink "PairedTexts" 117 yA_nextOf ∈ tws := tw2 (i := 179) rfl rfl
theorem k2_180 : Cond.instanceMethod yA_nextOf ∈ tws := tw2 (i := 180) rfl rfl
theorem k2_181 : Cond.selects "PairedTexts$Automaton" yA_nextOf yA_nextOf ∈ tws := tw2 (i := 181) rfl rfl
theorem k2_182 : Cond.code yA_nextOf prog_2_method_2_code 3 (Option.some FieldType.int) ∈ tws := tw2 (i := 182) rfl rfl
theorem k2_183 : Cond.methodLink "PairedTextsLaw" 166 yL_accepted ∈ tws := tw2 (i := 183) rfl rfl
theorem k2_184 : Cond.static yL_accepted ∈ tws := tw2 (i := 184) rfl rfl
theorem k2_185 : Cond.codeWith yL_accepted method_22_code 7 (Option.some FieldType.int) [(0, 14, 17, 13), (0, 14, 21, 25)] ∈ tws := tw2 (i := 185) rfl rfl
theorem k2_186 : Cond.methodLink "PairedTextsLaw" 85 yP_accepted ∈ tws := tw2 (i := 186) rfl rfl
theorem k2_187 : Cond.instanceMethod yP_accepted ∈ tws := tw2 (i := 187) rfl rfl
theorem k2_188 : Cond.selects "PairedTexts" yP_accepted yP_accepted ∈ tws := tw2 (i := 188) rfl rfl
theorem k2_189 : Cond.code yP_accepted prog_1_method_21_code 9 (Option.some FieldType.int) ∈ tws := tw2 (i := 189) rfl rfl
theorem k2_190 : Cond.classLink "PairedTextsLaw" 89 "PairedTextsModel" ∈ tws := tw2 (i := 190) rfl rfl
theorem k2_191 : Cond.instantiable "PairedTextsModel" 11 ∈ tws := tw2 (i := 191) rfl rfl
theorem k2_192 : Cond.methodLink "PairedTextsLaw" 91 yM_init ∈ tws := tw2 (i := 192) rfl rfl
theorem k2_193 : Cond.instanceMethod yM_init ∈ tws := tw2 (i := 193) rfl rfl
theorem k2_194 : Cond.code yM_init prog_6_method_1_code 1 (Option.none : Option ClassFile.FieldType) ∈ tws := tw2 (i := 194) rfl rfl
theorem k2_195 : Cond.methodLink "PairedTextsModel" 1 objectInit ∈ tws := tw2 (i := 195) rfl rfl
theorem k2_196 : Cond.fieldLink "PairedTextsModel" 29 "PairedTextsModel" "code" "I" ∈ tws := tw2 (i := 196) rfl rfl
theorem k2_197 : Cond.fieldLink "PairedTextsModel" 7 "PairedTextsModel" "texts" "[I" ∈ tws := tw2 (i := 197) rfl rfl
theorem k2_198 : Cond.fieldLink "PairedTextsModel" 13 "PairedTextsModel" "sizes" "[I" ∈ tws := tw2 (i := 198) rfl rfl
theorem k2_199 : Cond.fieldLink "PairedTextsModel" 16 "PairedTextsModel" "draft" "[I" ∈ tws := tw2 (i := 199) rfl rfl
theorem k2_200 : Cond.fieldLink "PairedTextsModel" 33 "PairedTextsModel" "drafted" "I" ∈ tws := tw2 (i := 200) rfl rfl
theorem k2_201 : Cond.fieldLink "PairedTextsModel" 84 "PairedTextsModel" "patternSize" "I" ∈ tws := tw2 (i := 201) rfl rfl
theorem k2_202 : Cond.fieldLink "PairedTextsModel" 19 "PairedTextsModel" "pattern" "[I" ∈ tws := tw2 (i := 202) rfl rfl
theorem k2_203 : Cond.fieldLink "PairedTextsModel" 22 "PairedTextsModel" "next" "[I" ∈ tws := tw2 (i := 203) rfl rfl
theorem k2_204 : Cond.fieldLink "PairedTextsModel" 25 "PairedTextsModel" "accepts" "[Z" ∈ tws := tw2 (i := 204) rfl rfl
theorem k2_205 : Cond.fieldLink "PairedTextsModel" 90 "PairedTextsModel" "state" "I" ∈ tws := tw2 (i := 205) rfl rfl
theorem k2_206 : Cond.fieldLink "PairedTextsModel" 93 "PairedTextsModel" "many" "I" ∈ tws := tw2 (i := 206) rfl rfl
theorem k2_207 : Cond.lays "PairedTextsModel" "PairedTextsModel" "code" "I" ∈ tws := tw2 (i := 207) rfl rfl
theorem k2_208 : Cond.soleField "PairedTextsModel" "code" ∈ tws := tw2 (i := 208) rfl rfl
theorem k2_209 : Cond.laysFinal "PairedTextsModel" "PairedTextsModel" "texts" "[I" ∈ tws := tw2 (i := 209) rfl rfl
theorem k2_210 : Cond.soleField "PairedTextsModel" "texts" ∈ tws := tw2 (i := 210) rfl rfl
theorem k2_211 : Cond.laysFinal "PairedTextsModel" "PairedTextsModel" "sizes" "[I" ∈ tws := tw2 (i := 211) rfl rfl
theorem k2_212 : Cond.soleField "PairedTextsModel" "sizes" ∈ tws := tw2 (i := 212) rfl rfl
theorem k2_213 : Cond.laysFinal "PairedTextsModel" "PairedTextsModel" "draft" "[I" ∈ tws := tw2 (i := 213) rfl rfl
theorem k2_214 : Cond.soleField "PairedTextsModel" "draft" ∈ tws := tw2 (i := 214) rfl rfl
theorem k2_215 : Cond.lays "PairedTextsModel" "PairedTextsModel" "drafted" "I" ∈ tws := tw2 (i := 215) rfl rfl
theorem k2_216 : Cond.soleField "PairedTextsModel" "drafted" ∈ tws := tw2 (i := 216) rfl rfl
theorem k2_217 : Cond.lays "PairedTextsModel" "PairedTextsModel" "patternSize" "I" ∈ tws := tw2 (i := 217) rfl rfl
theorem k2_218 : Cond.soleField "PairedTextsModel" "patternSize" ∈ tws := tw2 (i := 218) rfl rfl
theorem k2_219 : Cond.laysFinal "PairedTextsModel" "PairedTextsModel" "pattern" "[I" ∈ tws := tw2 (i := 219) rfl rfl
theorem k2_220 : Cond.soleField "PairedTextsModel" "pattern" ∈ tws := tw2 (i := 220) rfl rfl
theorem k2_221 : Cond.laysFinal "PairedTextsModel" "PairedTextsModel" "next" "[I" ∈ tws := tw2 (i := 221) rfl rfl
theorem k2_222 : Cond.soleField "PairedTextsModel" "next" ∈ tws := tw2 (i := 222) rfl rfl
theorem k2_223 : Cond.laysFinal "PairedTextsModel" "PairedTextsModel" "accepts" "[Z" ∈ tws := tw2 (i := 223) rfl rfl
theorem k2_224 : Cond.soleField "PairedTextsModel" "accepts" ∈ tws := tw2 (i := 224) rfl rfl
theorem k2_225 : Cond.lays "PairedTextsModel" "PairedTextsModel" "state" "I" ∈ tws := tw2 (i := 225) rfl rfl
theorem k2_226 : Cond.soleField "PairedTextsModel" "state" ∈ tws := tw2 (i := 226) rfl rfl
theorem k2_227 : Cond.lays "PairedTextsModel" "PairedTextsModel" "many" "I" ∈ tws := tw2 (i := 227) rfl rfl
theorem k2_228 : Cond.soleField "PairedTextsModel" "many" ∈ tws := tw2 (i := 228) rfl rfl
theorem k2_229 : Cond.superclass "PairedTextsModel" "java/lang/Object" ∈ tws := tw2 (i := 229) rfl rfl
theorem k2_230 : Cond.methodLink "PairedTextsLaw" 100 yM_thrown ∈ tws := tw2 (i := 230) rfl rfl
theorem k2_231 : Cond.instanceMethod yM_thrown ∈ tws := tw2 (i := 231) rfl rfl
theorem k2_232 : Cond.selects "PairedTextsModel" yM_thrown yM_thrown ∈ tws := tw2 (i := 232) rfl rfl
theorem k2_233 : Cond.code yM_thrown prog_6_method_2_code 1 (Option.some FieldType.int) ∈ tws := tw2 (i := 233) rfl rfl
theorem k2_234 : Cond.methodLink "PairedTextsLaw" 99 yM_write ∈ tws := tw2 (i := 234) rfl rfl
theorem k2_235 : Cond.instanceMethod yM_write ∈ tws := tw2 (i := 235) rfl rfl
theorem k2_236 : Cond.selects "PairedTextsModel" yM_write yM_write ∈ tws := tw2 (i := 236) rfl rfl
theorem k2_237 : Cond.code yM_write prog_6_method_7_code 6 (Option.some FieldType.int) ∈ tws := tw2 (i := 237) rfl rfl
theorem k2_238 : Cond.methodLink "PairedTextsModel" 36 yM_isDocument ∈ tws := tw2 (i := 238) rfl rfl
theorem k2_239 : Cond.static yM_isDocument ∈ tws := tw2 (i := 239) rfl rfl
theorem k3_0 : Cond.code yM_isDocument prog_6_method_3_code 1 (Option.some FieldType.boolean) ∈ tws := tw3 (i := 0) rfl rfl
theorem k3_1 : Cond.constantLong "PairedTextsModel" 40 (255 : Int64) ∈ tws := tw3 (i := 1) rfl rfl
theorem k3_2 : Cond.methodLink "PairedTextsLaw" 107 yM_length ∈ tws := tw3 (i := 2) rfl rfl
theorem k3_3 : Cond.instanceMethod yM_length ∈ tws := tw3 (i := 3) rfl rfl
theorem k3_4 : Cond.selects "PairedTextsModel" yM_length yM_length ∈ tws := tw3 (i := 4) rfl rfl
theorem k3_5 : Cond.code yM_length prog_6_method_8_code 2 (Option.some FieldType.int) ∈ tws := tw3 (i := 5) rfl rfl
theorem k3_6 : Cond.methodLink "PairedTextsLaw" 111 yM_byteAt ∈ tws := tw3 (i := 6) rfl rfl
theorem k3_7 : Cond.instanceMethod yM_byteAt ∈ tws := tw3 (i := 7) rfl rfl
theorem k3_8 : Cond.selects "PairedTextsModel" yM_byteAt yM_byteAt ∈ tws := tw3 (i := 8) rfl rfl
theorem k3_9 : Cond.code yM_byteAt prog_6_method_9_code 3 (Option.some FieldType.int) ∈ tws := tw3 (i := 9) rfl rfl
theorem k3_10 : Cond.methodLink "PairedTextsLaw" 115 yM_copy ∈ tws := tw3 (i := 10) rfl rfl
theorem k3_11 : Cond.instanceMethod yM_copy ∈ tws := tw3 (i := 11) rfl rfl
theorem k3_12 : Cond.selects "PairedTextsModel" yM_copy yM_copy ∈ tws := tw3 (i := 12) rfl rfl
theorem k3_13 : Cond.code yM_copy prog_6_method_10_code 5 (Option.some FieldType.int) ∈ tws := tw3 (i := 13) rfl rfl
theorem k3_14 : Cond.methodLink "PairedTextsModel" 42 yM_isRange ∈ tws := tw3 (i := 14) rfl rfl
theorem k3_16 : Cond.instanceMethod yM_isRange ∈ tws := tw3 (i := 16) rfl rfl
theorem k3_17 : Cond.code yM_isRange prog_6_method_4_code 4 (Option.some FieldType.boolean) ∈ tws := tw3 (i := 17) rfl rfl
theorem k3_18 : Cond.methodLink "PairedTextsModel" 46 yM_add ∈ tws := tw3 (i := 18) rfl rfl
theorem k3_20 : Cond.instanceMethod yM_add ∈ tws := tw3 (i := 20) rfl rfl
theorem k3_21 : Cond.code yM_add prog_6_method_5_code 5 (Option.none : Option ClassFile.FieldType) ∈ tws := tw3 (i := 21) rfl rfl
theorem k3_22 : Cond.methodLink "PairedTextsModel" 50 yM_become ∈ tws := tw3 (i := 22) rfl rfl
theorem k3_24 : Cond.instanceMethod yM_become ∈ tws := tw3 (i := 24) rfl rfl
theorem k3_25 : Cond.code yM_become prog_6_method_6_code 3 (Option.some FieldType.int) ∈ tws := tw3 (i := 25) rfl rfl
theorem k3_26 : Cond.methodLink "PairedTextsLaw" 119 yM_join ∈ tws := tw3 (i := 26) rfl rfl
theorem k3_27 : Cond.instanceMethod yM_join ∈ tws := tw3 (i := 27) rfl rfl
theorem k3_28 : Cond.selects "PairedTextsModel" yM_join yM_join ∈ tws := tw3 (i := 28) rfl rfl
theorem k3_29 : Cond.code yM_join prog_6_method_11_code 4 (Option.some FieldType.int) ∈ tws := tw3 (i := 29) rfl rfl
theorem k3_30 : Cond.methodLink "PairedTextsLaw" 123 yM_insert ∈ tws := tw3 (i := 30) rfl rfl
theorem k3_31 : Cond.instanceMethod yM_insert ∈ tws := tw3 (i := 31) rfl rfl
theorem k3_32 : Cond.selects "PairedTextsModel" yM_insert yM_insert ∈ tws := tw3 (i := 32) rfl rfl
theorem k3_33 : Cond.code yM_insert prog_6_method_12_code 6 (Option.some FieldType.int) ∈ tws := tw3 (i := 33) rfl rfl
theorem k3_34 : Cond.methodLink "PairedTextsLaw" 126 yM_delete ∈ tws := tw3 (i := 34) rfl rfl
theorem k3_35 : Cond.instanceMethod yM_delete ∈ tws := tw3 (i := 35) rfl rfl
theorem k3_36 : Cond.selects "PairedTextsModel" yM_delete yM_delete ∈ tws := tw3 (i := 36) rfl rfl
theorem k3_37 : Cond.code yM_delete prog_6_method_13_code 4 (Option.some FieldType.int) ∈ tws := tw3 (i := 37) rfl rfl
theorem k3_38 : Cond.methodLink "PairedTextsLaw" 129 yM_move ∈ tws := tw3 (i := 38) rfl rfl
theorem k3_39 : Cond.instanceMethod yM_move ∈ tws := tw3 (i := 39) rfl rfl
theorem k3_40 : Cond.selects "PairedTextsModel" yM_move yM_move ∈ tws := tw3 (i := 40) rfl rfl
theorem k3_41 : Cond.code yM_move prog_6_method_15_code 5 (Option.some FieldType.int) ∈ tws := tw3 (i := 41) rfl rfl
theorem k3_42 : Cond.methodLink "PairedTextsModel" 54 yM_addRest ∈ tws := tw3 (i := 42) rfl rfl
theorem k3_44 : Cond.instanceMethod yM_addRest ∈ tws := tw3 (i := 44) rfl rfl
theorem k3_45 : Cond.code yM_addRest prog_6_method_14_code 8 (Option.none : Option ClassFile.FieldType) ∈ tws := tw3 (i := 45) rfl rfl
theorem k3_46 : Cond.methodLink "PairedTextsLaw" 132 yM_repeat ∈ tws := tw3 (i := 46) rfl rfl
theorem k3_47 : Cond.instanceMethod yM_repeat ∈ tws := tw3 (i := 47) rfl rfl
theorem k3_48 : Cond.selects "PairedTextsModel" yM_repeat yM_repeat ∈ tws := tw3 (i := 48) rfl rfl
theorem k3_49 : Cond.code yM_repeat prog_6_method_16_code 6 (Option.some FieldType.int) ∈ tws := tw3 (i := 49) rfl rfl
theorem k3_50 : Cond.constantLong "PairedTextsModel" 58 (1000 : Int64) ∈ tws := tw3 (i := 50) rfl rfl
theorem k3_51 : Cond.methodLink "PairedTextsLaw" 135 yM_same ∈ tws := tw3 (i := 51) rfl rfl
theorem k3_52 : Cond.instanceMethod yM_same ∈ tws := tw3 (i := 52) rfl rfl
theorem k3_53 : Cond.selects "PairedTextsModel" yM_same yM_same ∈ tws := tw3 (i := 53) rfl rfl
theorem k3_54 : Cond.code yM_same prog_6_method_18_code 6 (Option.some FieldType.boolean) ∈ tws := tw3 (i := 54) rfl rfl
theorem k3_55 : Cond.methodLink "PairedTextsModel" 60 yM_common ∈ tws := tw3 (i := 55) rfl rfl
theorem k3_57 : Cond.instanceMethod yM_common ∈ tws := tw3 (i := 57) rfl rfl
theorem k3_58 : Cond.code yM_common prog_6_method_17_code 6 (Option.some FieldType.int) ∈ tws := tw3 (i := 58) rfl rfl
theorem k3_59 : Cond.methodLink "PairedTextsLaw" 138 yM_prefix ∈ tws := tw3 (i := 59) rfl rfl
theorem k3_60 : Cond.instanceMethod yM_prefix ∈ tws := tw3 (i := 60) rfl rfl
theorem k3_61 : Cond.selects "PairedTextsModel" yM_prefix yM_prefix ∈ tws := tw3 (i := 61) rfl rfl
theorem k3_62 : Cond.code yM_prefix prog_6_method_20_code 6 (Option.some FieldType.int) ∈ tws := tw3 (i := 62) rfl rfl
theorem k3_63 : Cond.methodLink "PairedTextsModel" 64 yM_pieces ∈ tws := tw3 (i := 63) rfl rfl
theorem k3_64 : Cond.static yM_pieces ∈ tws := tw3 (i := 64) rfl rfl
theorem k3_65 : Cond.code yM_pieces prog_6_method_19_code 5 (Option.some FieldType.int) ∈ tws := tw3 (i := 65) rfl rfl
theorem k3_66 : Cond.methodLink "PairedTextsLaw" 141 yM_order ∈ tws := tw3 (i := 66) rfl rfl
theorem k3_67 : Cond.instanceMethod yM_order ∈ tws := tw3 (i := 67) rfl rfl
theorem k3_68 : Cond.selects "PairedTextsModel" yM_order yM_order ∈ tws := tw3 (i := 68) rfl rfl
theorem k3_69 : Cond.code yM_order prog_6_method_21_code 9 (Option.some FieldType.int) ∈ tws := tw3 (i := 69) rfl rfl
theorem k3_70 : Cond.methodLink "PairedTextsLaw" 144 yM_name ∈ tws := tw3 (i := 70) rfl rfl
theorem k3_71 : Cond.instanceMethod yM_name ∈ tws := tw3 (i := 71) rfl rfl
theorem k3_72 : Cond.selects "PairedTextsModel" yM_name yM_name ∈ tws := tw3 (i := 72) rfl rfl
theorem k3_73 : Cond.code yM_name prog_6_method_24_code 7 (Option.some FieldType.long) ∈ tws := tw3 (i := 73) rfl rfl
theorem k3_74 : Cond.methodLink "PairedTextsModel" 80 yM_times ∈ tws := tw3 (i := 74) rfl rfl
theorem k3_75 : Cond.static yM_times ∈ tws := tw3 (i := 75) rfl rfl
theorem k3_76 : Cond.code yM_times prog_6_method_23_code 10 (Option.some FieldType.long) ∈ tws := tw3 (i := 76) rfl rfl
theorem k3_77 : Cond.constantLong "PairedTextsModel" 70 (1000003 : Int64) ∈ tws := tw3 (i := 77) rfl rfl
theorem k3_78 : Cond.constantLong "PairedTextsModel" 72 (1099511627775 : Int64) ∈ tws := tw3 (i := 78) rfl rfl
theorem k3_79 : Cond.constantLong "PairedTextsModel" 74 (2097151 : Int64) ∈ tws := tw3 (i := 79) rfl rfl
theorem k3_80 : Cond.constantLong "PairedTextsModel" 68 (2305843009213693951 : Int64) ∈ tws := tw3 (i := 80) rfl rfl
theorem k3_81 : Cond.methodLink "PairedTextsModel" 76 yM_sum ∈ tws := tw3 (i := 81) rfl rfl
theorem k3_82 : Cond.static yM_sum ∈ tws := tw3 (i := 82) rfl rfl
theorem k3_83 : Cond.code yM_sum prog_6_method_22_code 6 (Option.some FieldType.long) ∈ tws := tw3 (i := 83) rfl rfl
theorem k3_84 : Cond.methodLink "PairedTextsLaw" 148 yM_pattern ∈ tws := tw3 (i := 84) rfl rfl
theorem k3_85 : Cond.instanceMethod yM_pattern ∈ tws := tw3 (i := 85) rfl rfl
theorem k3_86 : Cond.selects "PairedTextsModel" yM_pattern yM_pattern ∈ tws := tw3 (i := 86) rfl rfl
theorem k3_87 : Cond.code yM_pattern prog_6_method_25_code 7 (Option.none : Option ClassFile.FieldType) ∈ tws := tw3 (i := 87) rfl rfl
theorem k3_88 : Cond.methodLink "PairedTextsLaw" 151 yM_count ∈ tws := tw3 (i := 88) rfl rfl
theorem k3_89 : Cond.instanceMethod yM_count ∈ tws := tw3 (i := 89) rfl rfl
theorem k3_90 : Cond.selects "PairedTextsModel" yM_count yM_count ∈ tws := tw3 (i := 90) rfl rfl
theorem k3_91 : Cond.code yM_count prog_6_method_27_code 6 (Option.some FieldType.int) ∈ tws := tw3 (i := 91) rfl rfl
theorem k3_92 : Cond.methodLink "PairedTextsModel" 87 yM_stands ∈ tws := tw3 (i := 92) rfl rfl
theorem k3_94 : Cond.instanceMethod yM_stands ∈ tws := tw3 (i := 94) rfl rfl
theorem k3_95 : Cond.code yM_stands prog_6_method_26_code 6 (Option.some FieldType.boolean) ∈ tws := tw3 (i := 95) rfl rfl
theorem k3_96 : Cond.methodLink "PairedTextsLaw" 154 yM_find ∈ tws := tw3 (i := 96) rfl rfl
theorem k3_97 : Cond.instanceMethod yM_find ∈ tws := tw3 (i := 97) rfl rfl
theorem k3_98 : Cond.selects "PairedTextsModel" yM_find yM_find ∈ tws := tw3 (i := 98) rfl rfl
theorem k3_99 : Cond.code yM_find prog_6_method_28_code 6 (Option.some FieldType.int) ∈ tws := tw3 (i := 99) rfl rfl
theorem k3_100 : Cond.methodLink "PairedTextsLaw" 158 yM_lead ∈ tws := tw3 (i := 100) rfl rfl
theorem k3_101 : Cond.instanceMethod yM_lead ∈ tws := tw3 (i := 101) rfl rfl
theorem k3_102 : Cond.selects "PairedTextsModel" yM_lead yM_lead ∈ tws := tw3 (i := 102) rfl rfl
theorem k3_103 : Cond.code yM_lead prog_6_method_29_code 6 (Option.none : Option ClassFile.FieldType) ∈ tws := tw3 (i := 103) rfl rfl
theorem k3_104 : Cond.methodLink "PairedTextsLaw" 162 yM_accept ∈ tws := tw3 (i := 104) rfl rfl
theorem k3_105 : Cond.instanceMethod yM_accept ∈ tws := tw3 (i := 105) rfl rfl
theorem k3_106 : Cond.selects "PairedTextsModel" yM_accept yM_accept ∈ tws := tw3 (i := 106) rfl rfl
theorem k3_107 : Cond.code yM_accept prog_6_method_30_code 3 (Option.none : Option ClassFile.FieldType) ∈ tws := tw3 (i := 107) rfl rfl
theorem k3_108 : Cond.methodLink "PairedTextsLaw" 165 yM_run ∈ tws := tw3 (i := 108) rfl rfl
theorem k3_109 : Cond.instanceMethod yM_run ∈ tws := tw3 (i := 109) rfl rfl
theorem k3_110 : Cond.selects "PairedTextsModel" yM_run yM_run ∈ tws := tw3 (i := 110) rfl rfl
theorem k3_111 : Cond.code yM_run prog_6_method_32_code 5 (Option.some FieldType.int) ∈ tws := tw3 (i := 111) rfl rfl
theorem k3_112 : Cond.methodLink "PairedTextsModel" 96 yM_read ∈ tws := tw3 (i := 112) rfl rfl
theorem k3_114 : Cond.instanceMethod yM_read ∈ tws := tw3 (i := 114) rfl rfl
theorem k3_115 : Cond.code yM_read prog_6_method_31_code 6 (Option.none : Option ClassFile.FieldType) ∈ tws := tw3 (i := 115) rfl rfl
theorem k3_116 : Cond.methodLink "PairedTextsLaw" 168 yM_accepted ∈ tws := tw3 (i := 116) rfl rfl
theorem k3_117 : Cond.instanceMethod yM_accepted ∈ tws := tw3 (i := 117) rfl rfl
theorem k3_118 : Cond.selects "PairedTextsModel" yM_accepted yM_accepted ∈ tws := tw3 (i := 118) rfl rfl
theorem k3_119 : Cond.code yM_accepted prog_6_method_33_code 5 (Option.some FieldType.int) ∈ tws := tw3 (i := 119) rfl rfl
theorem k3_120 : Cond.constantLong "PairedTextsLaw" 92 (4294967295 : Int64) ∈ tws := tw3 (i := 120) rfl rfl
theorem k3_121 : Cond.arrayClass FieldType.long ∈ tws := tw3 (i := 121) rfl rfl
theorem k3_122 : Cond.sameMethod "java/lang/Throwable" "java/lang/Throwable" "fillInStackTrace" "(I)Ljava/lang/Throwable;" ∈ tws := tw3 (i := 122) rfl rfl
theorem k0_0 : Cond.selects "PairedTexts" yP_textOf yP_textOf ∈ tws := tw0 (i := 0) rfl rfl
theorem k0_2 : Cond.selects "PairedTexts" yP_draftBecomesTextOf yP_draftBecomesTextOf ∈ tws := tw0 (i := 2) rfl rfl
theorem k0_3 : Cond.selects "PairedTexts" yP_requirePattern yP_requirePattern ∈ tws := tw0 (i := 3) rfl rfl
theorem k0_4 : Cond.selects "PairedTextsModel" yM_isRange yM_isRange ∈ tws := tw0 (i := 4) rfl rfl
theorem k0_5 : Cond.selects "PairedTextsModel" yM_add yM_add ∈ tws := tw0 (i := 5) rfl rfl
theorem k0_6 : Cond.selects "PairedTextsModel" yM_become yM_become ∈ tws := tw0 (i := 6) rfl rfl
theorem k0_7 : Cond.selects "PairedTextsModel" yM_addRest yM_addRest ∈ tws := tw0 (i := 7) rfl rfl
theorem k0_8 : Cond.selects "PairedTextsModel" yM_common yM_common ∈ tws := tw0 (i := 8) rfl rfl
theorem k0_9 : Cond.selects "PairedTextsModel" yM_stands yM_stands ∈ tws := tw0 (i := 9) rfl rfl
theorem k0_10 : Cond.selects "PairedTextsModel" yM_read yM_read ∈ tws := tw0 (i := 10) rfl rfl
theorem iP : ∀ w ∈ u_ws "PairedTexts" FP 4, w ∈ tws := by
  intro w hw
  have hw : w ∈ ([Cond.laysFinal "PairedTexts" "PairedTexts" "texts" "[LPairedTexts$Text;", Cond.laysFinal "PairedTexts" "PairedTexts" "sought" "LPairedTexts$Pattern;", Cond.laysFinal "PairedTexts" "PairedTexts" "automaton" "LPairedTexts$Automaton;", Cond.lays "PairedTexts" "PairedTexts" "draft" "LPairedTexts$Text;"] : List Cond) := hw
  simp only [List.mem_cons, List.not_mem_nil, or_false] at hw
  rcases hw with rfl | rfl | rfl | rfl
  · exact k1_74
  · exact k1_76
  · exact k1_78
  · exact k1_80
theorem iT : ∀ w ∈ u_ws "PairedTexts$Text" FT 2, w ∈ tws := by
  intro w hw
  have hw : w ∈ ([Cond.laysFinal "PairedTexts$Text" "PairedTexts$Text" "bytes" "[I", Cond.lays "PairedTexts$Text" "PairedTexts$Text" "size" "I"] : List Cond) := hw
  simp only [List.mem_cons, List.not_mem_nil, or_false] at hw
  rcases hw with rfl | rfl
  · exact k1_35
  · exact k1_37
theorem iQ : ∀ w ∈ u_ws "PairedTexts$Pattern" FQ 2, w ∈ tws := by
  intro w hw
  have hw : w ∈ ([Cond.laysFinal "PairedTexts$Pattern" "PairedTexts$Pattern" "bytes" "[I", Cond.lays "PairedTexts$Pattern" "PairedTexts$Pattern" "size" "I"] : List Cond) := hw
  simp only [List.mem_cons, List.not_mem_nil, or_false] at hw
  rcases hw with rfl | rfl
  · exact k1_50
  · exact k1_52
theorem iA : ∀ w ∈ u_ws "PairedTexts$Automaton" FA 2, w ∈ tws := by
  intro w hw
  have hw : w ∈ ([Cond.laysFinal "PairedTexts$Automaton" "PairedTexts$Automaton" "next" "[I", Cond.laysFinal "PairedTexts$Automaton" "PairedTexts$Automaton" "accepting" "[Z"] : List Cond) := hw
  simp only [List.mem_cons, List.not_mem_nil, or_false] at hw
  rcases hw with rfl | rfl
  · exact k1_64
  · exact k1_66
theorem iM : ∀ w ∈ u_ws "PairedTextsModel" FM 11, w ∈ tws := by
  intro w hw
  have hw : w ∈ ([Cond.lays "PairedTextsModel" "PairedTextsModel" "code" "I", Cond.laysFinal "PairedTextsModel" "PairedTextsModel" "texts" "[I", Cond.laysFinal "PairedTextsModel" "PairedTextsModel" "sizes" "[I", Cond.laysFinal "PairedTextsModel" "PairedTextsModel" "draft" "[I", Cond.lays "PairedTextsModel" "PairedTextsModel" "drafted" "I", Cond.lays "PairedTextsModel" "PairedTextsModel" "patternSize" "I", Cond.laysFinal "PairedTextsModel" "PairedTextsModel" "pattern" "[I", Cond.laysFinal "PairedTextsModel" "PairedTextsModel" "next" "[I", Cond.laysFinal "PairedTextsModel" "PairedTextsModel" "accepts" "[Z", Cond.lays "PairedTextsModel" "PairedTextsModel" "state" "I", Cond.lays "PairedTextsModel" "PairedTextsModel" "many" "I"] : List Cond) := hw
  simp only [List.mem_cons, List.not_mem_nil, or_false] at hw
  rcases hw with rfl | rfl | rfl | rfl | rfl | rfl | rfl | rfl | rfl | rfl | rfl
  · exact k2_207
  · exact k2_209
  · exact k2_211
  · exact k2_213
  · exact k2_215
  · exact k2_217
  · exact k2_219
  · exact k2_221
  · exact k2_223
  · exact k2_225
  · exact k2_227
