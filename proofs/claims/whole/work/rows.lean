section
-- ===== PART A: goes FIRST, ahead of the names: the tables' words, and 'selects' of the private methods out of them =====
/-- a private method of a class that the tables say can be made, by its rows of tables_1 -/
def lw_okq (q : MethodName × Nat) : Prop := (q.1.cls ≠ "java/lang/invoke/MethodHandle" ∧ q.1.cls ≠ "java/lang/invoke/VarHandle") ∧ Cond.instantiable q.1.cls q.2 ∈ tables_1 ∧ Cond.privateMethod q.1 ∈ tables_1 ∧ Cond.instanceMethod q.1 ∈ tables_1
theorem lw_p0 : lw_okq (⟨"PairedTexts", "textOf", "(I)LPairedTexts$Text;"⟩, 4) := ⟨⟨by decide +kernel, by decide +kernel⟩, List.mem_of_getElem? (i := 16) (by decide +kernel), List.mem_of_getElem? (i := 93) (by decide +kernel), List.mem_of_getElem? (i := 94) (by decide +kernel)⟩
theorem lw_p1 : lw_okq (⟨"java/lang/Throwable", "fillInStackTrace", "(I)Ljava/lang/Throwable;"⟩, 6) := ⟨⟨by decide +kernel, by decide +kernel⟩, List.mem_of_getElem? (i := 139) (by decide +kernel), List.mem_of_getElem? (i := 137) (by decide +kernel), List.mem_of_getElem? (i := 138) (by decide +kernel)⟩
theorem lw_p2 : lw_okq (⟨"PairedTexts", "draftBecomesTextOf", "(I)I"⟩, 4) := ⟨⟨by decide +kernel, by decide +kernel⟩, List.mem_of_getElem? (i := 16) (by decide +kernel), List.mem_of_getElem? (i := 256) (by decide +kernel), List.mem_of_getElem? (i := 257) (by decide +kernel)⟩
theorem lw_p3 : lw_okq (⟨"PairedTexts", "requirePattern", "()V"⟩, 4) := ⟨⟨by decide +kernel, by decide +kernel⟩, List.mem_of_getElem? (i := 16) (by decide +kernel), List.mem_of_getElem? (i := 360) (by decide +kernel), List.mem_of_getElem? (i := 361) (by decide +kernel)⟩
theorem lw_p4 : lw_okq (⟨"PairedTextsModel", "isRange", "(III)Z"⟩, 11) := ⟨⟨by decide +kernel, by decide +kernel⟩, List.mem_of_getElem? (i := 431) (by decide +kernel), List.mem_of_getElem? (i := 495) (by decide +kernel), List.mem_of_getElem? (i := 496) (by decide +kernel)⟩
theorem lw_p5 : lw_okq (⟨"PairedTextsModel", "add", "(III)V"⟩, 11) := ⟨⟨by decide +kernel, by decide +kernel⟩, List.mem_of_getElem? (i := 431) (by decide +kernel), List.mem_of_getElem? (i := 499) (by decide +kernel), List.mem_of_getElem? (i := 500) (by decide +kernel)⟩
theorem lw_p6 : lw_okq (⟨"PairedTextsModel", "become", "(I)I"⟩, 11) := ⟨⟨by decide +kernel, by decide +kernel⟩, List.mem_of_getElem? (i := 431) (by decide +kernel), List.mem_of_getElem? (i := 503) (by decide +kernel), List.mem_of_getElem? (i := 504) (by decide +kernel)⟩
theorem lw_p7 : lw_okq (⟨"PairedTextsModel", "addRest", "(IIIII)V"⟩, 11) := ⟨⟨by decide +kernel, by decide +kernel⟩, List.mem_of_getElem? (i := 431) (by decide +kernel), List.mem_of_getElem? (i := 523) (by decide +kernel), List.mem_of_getElem? (i := 524) (by decide +kernel)⟩
theorem lw_p8 : lw_okq (⟨"PairedTextsModel", "common", "(IIII)I"⟩, 11) := ⟨⟨by decide +kernel, by decide +kernel⟩, List.mem_of_getElem? (i := 431) (by decide +kernel), List.mem_of_getElem? (i := 536) (by decide +kernel), List.mem_of_getElem? (i := 537) (by decide +kernel)⟩
theorem lw_p9 : lw_okq (⟨"PairedTextsModel", "stands", "(III)Z"⟩, 11) := ⟨⟨by decide +kernel, by decide +kernel⟩, List.mem_of_getElem? (i := 431) (by decide +kernel), List.mem_of_getElem? (i := 573) (by decide +kernel), List.mem_of_getElem? (i := 574) (by decide +kernel)⟩
theorem lw_p10 : lw_okq (⟨"PairedTextsModel", "read", "(IIII)V"⟩, 11) := ⟨⟨by decide +kernel, by decide +kernel⟩, List.mem_of_getElem? (i := 431) (by decide +kernel), List.mem_of_getElem? (i := 593) (by decide +kernel), List.mem_of_getElem? (i := 594) (by decide +kernel)⟩
def lw_privs_1 : List (MethodName × Nat) := [(⟨"PairedTexts", "textOf", "(I)LPairedTexts$Text;"⟩, 4), (⟨"java/lang/Throwable", "fillInStackTrace", "(I)Ljava/lang/Throwable;"⟩, 6), (⟨"PairedTexts", "draftBecomesTextOf", "(I)I"⟩, 4), (⟨"PairedTexts", "requirePattern", "()V"⟩, 4), (⟨"PairedTextsModel", "isRange", "(III)Z"⟩, 11), (⟨"PairedTextsModel", "add", "(III)V"⟩, 11), (⟨"PairedTextsModel", "become", "(I)I"⟩, 11), (⟨"PairedTextsModel", "addRest", "(IIIII)V"⟩, 11), (⟨"PairedTextsModel", "common", "(IIII)I"⟩, 11), (⟨"PairedTextsModel", "stands", "(III)Z"⟩, 11), (⟨"PairedTextsModel", "read", "(IIII)V"⟩, 11)]
theorem lw_r1 : ∀ q ∈ lw_privs_1, lw_okq q := List.forall_mem_cons.mpr ⟨lw_p0, List.forall_mem_cons.mpr ⟨lw_p1, List.forall_mem_cons.mpr ⟨lw_p2, List.forall_mem_cons.mpr ⟨lw_p3, List.forall_mem_cons.mpr ⟨lw_p4, List.forall_mem_cons.mpr ⟨lw_p5, List.forall_mem_cons.mpr ⟨lw_p6, List.forall_mem_cons.mpr ⟨lw_p7, List.forall_mem_cons.mpr ⟨lw_p8, List.forall_mem_cons.mpr ⟨lw_p9, List.forall_mem_cons.mpr ⟨lw_p10, fun _ h => absurd h List.not_mem_nil⟩⟩⟩⟩⟩⟩⟩⟩⟩⟩⟩
def lw_privs : List (MethodName × Nat) := lw_privs_1
def lw_tbl : List Cond := k2_sels lw_privs ++ tables_1
theorem lw_privs_ok : ∀ q ∈ lw_privs, lw_okq q := lw_r1
end
section
/-! Names, by a program out of the listing and the tables: methods (y), codes (b), fields (F), words (k). -/
def yP_init : MethodName := ⟨"PairedTexts", "<init>", "()V"⟩
def yT_init : MethodName := ⟨"PairedTexts$Text", "<init>", "()V"⟩
def yQ_init : MethodName := ⟨"PairedTexts$Pattern", "<init>", "()V"⟩
def yA_init : MethodName := ⟨"PairedTexts$Automaton", "<init>", "()V"⟩
def yL_write : MethodName := ⟨"PairedTextsLaw", "write", "(LPairedTexts;IJI[J)I"⟩
def yP_write : MethodName := ⟨"PairedTexts", "write", "(IJI)I"⟩
def yP_textOf : MethodName := ⟨"PairedTexts", "textOf", "(I)LPairedTexts$Text;"⟩
def yP_requireDocument : MethodName := ⟨"PairedTexts", "requireDocument", "(I)V"⟩
def yP_requireArgument : MethodName := ⟨"PairedTexts", "requireArgument", "(Z)V"⟩
def yP_requireRoom : MethodName := ⟨"PairedTexts", "requireRoom", "(J)V"⟩
def yP_byteOf : MethodName := ⟨"PairedTexts", "byteOf", "(JI)I"⟩
def yT_add : MethodName := ⟨"PairedTexts$Text", "add", "(I)V"⟩
def yL_length : MethodName := ⟨"PairedTextsLaw", "length", "(LPairedTexts;I[J)I"⟩
def yP_length : MethodName := ⟨"PairedTexts", "length", "(I)I"⟩
def yL_byteAt : MethodName := ⟨"PairedTextsLaw", "byteAt", "(LPairedTexts;II[J)I"⟩
def yP_byteAt : MethodName := ⟨"PairedTexts", "byteAt", "(II)I"⟩
def yP_requireInside : MethodName := ⟨"PairedTexts", "requireInside", "(Z)V"⟩
def yL_copy : MethodName := ⟨"PairedTextsLaw", "copy", "(LPairedTexts;IIII[J)I"⟩
def yP_copy : MethodName := ⟨"PairedTexts", "copy", "(IIII)I"⟩
def yT_hasRange : MethodName := ⟨"PairedTexts$Text", "hasRange", "(IJ)Z"⟩
def yT_clear : MethodName := ⟨"PairedTexts$Text", "clear", "()V"⟩
def yT_addRange : MethodName := ⟨"PairedTexts$Text", "addRange", "(LPairedTexts$Text;II)V"⟩
def yP_draftBecomesTextOf : MethodName := ⟨"PairedTexts", "draftBecomesTextOf", "(I)I"⟩
def yL_join : MethodName := ⟨"PairedTextsLaw", "join", "(LPairedTexts;III[J)I"⟩
def yP_join : MethodName := ⟨"PairedTexts", "join", "(III)I"⟩
def yL_insert : MethodName := ⟨"PairedTextsLaw", "insert", "(LPairedTexts;IIIII[J)I"⟩
def yP_insert : MethodName := ⟨"PairedTexts", "insert", "(IIIII)I"⟩
def yT_hasPiece : MethodName := ⟨"PairedTexts$Text", "hasPiece", "(I)Z"⟩
def yL_delete : MethodName := ⟨"PairedTextsLaw", "delete", "(LPairedTexts;III[J)I"⟩
def yP_delete : MethodName := ⟨"PairedTexts", "delete", "(III)I"⟩
def yL_move : MethodName := ⟨"PairedTextsLaw", "move", "(LPairedTexts;IIII[J)I"⟩
def yP_move : MethodName := ⟨"PairedTexts", "move", "(IIII)I"⟩
def yL_repeat : MethodName := ⟨"PairedTextsLaw", "repeat", "(LPairedTexts;IIII[J)I"⟩
def yP_repeat : MethodName := ⟨"PairedTexts", "repeat", "(IIII)I"⟩
def yL_same : MethodName := ⟨"PairedTextsLaw", "same", "(LPairedTexts;IIIII[J)I"⟩
def yP_same : MethodName := ⟨"PairedTexts", "same", "(IIIII)Z"⟩
def yP_commonBeginning : MethodName := ⟨"PairedTexts", "commonBeginning", "(LPairedTexts$Text;ILPairedTexts$Text;I)I"⟩
def yL_prefix : MethodName := ⟨"PairedTextsLaw", "prefix", "(LPairedTexts;IIII[J)I"⟩
def yP_prefix : MethodName := ⟨"PairedTexts", "prefix", "(IIII)I"⟩
def yL_order : MethodName := ⟨"PairedTextsLaw", "order", "(LPairedTexts;IIII[J)I"⟩
def yP_order : MethodName := ⟨"PairedTexts", "order", "(IIII)I"⟩
def yL_name : MethodName := ⟨"PairedTextsLaw", "name", "(LPairedTexts;III[J)I"⟩
def yP_name : MethodName := ⟨"PairedTexts", "name", "(III)J"⟩
def yP_nameWithOneMore : MethodName := ⟨"PairedTexts", "nameWithOneMore", "(JI)J"⟩
def yL_pattern : MethodName := ⟨"PairedTextsLaw", "pattern", "(LPairedTexts;JJI)I"⟩
def yP_pattern : MethodName := ⟨"PairedTexts", "pattern", "(JJI)V"⟩
def yQ_become : MethodName := ⟨"PairedTexts$Pattern", "become", "(JJI)V"⟩
def yL_count : MethodName := ⟨"PairedTextsLaw", "count", "(LPairedTexts;III[J)I"⟩
def yP_count : MethodName := ⟨"PairedTexts", "count", "(III)I"⟩
def yP_requirePattern : MethodName := ⟨"PairedTexts", "requirePattern", "()V"⟩
def yQ_standsAt : MethodName := ⟨"PairedTexts$Pattern", "standsAt", "(LPairedTexts$Text;II)Z"⟩
def yL_find : MethodName := ⟨"PairedTextsLaw", "find", "(LPairedTexts;III[J)I"⟩
def yP_find : MethodName := ⟨"PairedTexts", "find", "(III)I"⟩
def yL_lead : MethodName := ⟨"PairedTextsLaw", "lead", "(LPairedTexts;IIII)I"⟩
def yP_lead : MethodName := ⟨"PairedTexts", "lead", "(IIII)V"⟩
def yP_requireState : MethodName := ⟨"PairedTexts", "requireState", "(I)V"⟩
def yA_setNext : MethodName := ⟨"PairedTexts$Automaton", "setNext", "(III)V"⟩
def yL_accept : MethodName := ⟨"PairedTextsLaw", "accept", "(LPairedTexts;IZ)I"⟩
def yP_accept : MethodName := ⟨"PairedTexts", "accept", "(IZ)V"⟩
def yL_run : MethodName := ⟨"PairedTextsLaw", "run", "(LPairedTexts;IIII[J)I"⟩
def yP_run : MethodName := ⟨"PairedTexts", "run", "(IIII)I"⟩
def yA_nextOf : MethodName := ⟨"PairedTexts$Automaton", "nextOf", "(II)I"⟩
def yL_accepted : MethodName := ⟨"PairedTextsLaw", "accepted", "(LPairedTexts;IIII[J)I"⟩
def yP_accepted : MethodName := ⟨"PairedTexts", "accepted", "(IIII)I"⟩
def yM_init : MethodName := ⟨"PairedTextsModel", "<init>", "()V"⟩
def yM_thrown : MethodName := ⟨"PairedTextsModel", "thrown", "()I"⟩
def yM_write : MethodName := ⟨"PairedTextsModel", "write", "(IJI)I"⟩
def yM_isDocument : MethodName := ⟨"PairedTextsModel", "isDocument", "(I)Z"⟩
def yM_length : MethodName := ⟨"PairedTextsModel", "length", "(I)I"⟩
def yM_byteAt : MethodName := ⟨"PairedTextsModel", "byteAt", "(II)I"⟩
def yM_copy : MethodName := ⟨"PairedTextsModel", "copy", "(IIII)I"⟩
def yM_isRange : MethodName := ⟨"PairedTextsModel", "isRange", "(III)Z"⟩
def yM_add : MethodName := ⟨"PairedTextsModel", "add", "(III)V"⟩
def yM_become : MethodName := ⟨"PairedTextsModel", "become", "(I)I"⟩
def yM_join : MethodName := ⟨"PairedTextsModel", "join", "(III)I"⟩
def yM_insert : MethodName := ⟨"PairedTextsModel", "insert", "(IIIII)I"⟩
def yM_delete : MethodName := ⟨"PairedTextsModel", "delete", "(III)I"⟩
def yM_move : MethodName := ⟨"PairedTextsModel", "move", "(IIII)I"⟩
def yM_addRest : MethodName := ⟨"PairedTextsModel", "addRest", "(IIIII)V"⟩
def yM_repeat : MethodName := ⟨"PairedTextsModel", "repeat", "(IIII)I"⟩
def yM_same : MethodName := ⟨"PairedTextsModel", "same", "(IIIII)Z"⟩
def yM_common : MethodName := ⟨"PairedTextsModel", "common", "(IIII)I"⟩
def yM_prefix : MethodName := ⟨"PairedTextsModel", "prefix", "(IIII)I"⟩
def yM_pieces : MethodName := ⟨"PairedTextsModel", "pieces", "(ZIIII)I"⟩
def yM_order : MethodName := ⟨"PairedTextsModel", "order", "(IIII)I"⟩
def yM_name : MethodName := ⟨"PairedTextsModel", "name", "(III)J"⟩
def yM_times : MethodName := ⟨"PairedTextsModel", "times", "(J)J"⟩
def yM_sum : MethodName := ⟨"PairedTextsModel", "sum", "(JJ)J"⟩
def yM_pattern : MethodName := ⟨"PairedTextsModel", "pattern", "(JJI)V"⟩
def yM_count : MethodName := ⟨"PairedTextsModel", "count", "(III)I"⟩
def yM_stands : MethodName := ⟨"PairedTextsModel", "stands", "(III)Z"⟩
def yM_find : MethodName := ⟨"PairedTextsModel", "find", "(III)I"⟩
def yM_lead : MethodName := ⟨"PairedTextsModel", "lead", "(IIII)V"⟩
def yM_accept : MethodName := ⟨"PairedTextsModel", "accept", "(IZ)V"⟩
def yM_run : MethodName := ⟨"PairedTextsModel", "run", "(IIII)I"⟩
def yM_read : MethodName := ⟨"PairedTextsModel", "read", "(IIII)V"⟩
def yM_accepted : MethodName := ⟨"PairedTextsModel", "accepted", "(IIII)I"⟩
abbrev bP_init : ByteArray := prog_1_method_1_code
abbrev bP_write : ByteArray := prog_1_method_2_code
abbrev bP_length : ByteArray := prog_1_method_3_code
abbrev bP_byteAt : ByteArray := prog_1_method_4_code
abbrev bP_copy : ByteArray := prog_1_method_5_code
abbrev bP_join : ByteArray := prog_1_method_6_code
abbrev bP_insert : ByteArray := prog_1_method_7_code
abbrev bP_delete : ByteArray := prog_1_method_8_code
abbrev bP_move : ByteArray := prog_1_method_9_code
abbrev bP_repeat : ByteArray := prog_1_method_10_code
abbrev bP_same : ByteArray := prog_1_method_11_code
abbrev bP_prefix : ByteArray := prog_1_method_12_code
abbrev bP_order : ByteArray := prog_1_method_13_code
abbrev bP_name : ByteArray := prog_1_method_14_code
abbrev bP_pattern : ByteArray := prog_1_method_15_code
abbrev bP_count : ByteArray := prog_1_method_16_code
abbrev bP_find : ByteArray := prog_1_method_17_code
abbrev bP_lead : ByteArray := prog_1_method_18_code
abbrev bP_accept : ByteArray := prog_1_method_19_code
abbrev bP_run : ByteArray := prog_1_method_20_code
abbrev bP_accepted : ByteArray := prog_1_method_21_code
abbrev bP_textOf : ByteArray := prog_1_method_22_code
abbrev bP_draftBecomesTextOf : ByteArray := prog_1_method_23_code
abbrev bP_requireDocument : ByteArray := prog_1_method_24_code
abbrev bP_requireState : ByteArray := prog_1_method_25_code
abbrev bP_requireArgument : ByteArray := prog_1_method_26_code
abbrev bP_requireInside : ByteArray := prog_1_method_27_code
abbrev bP_requireRoom : ByteArray := prog_1_method_28_code
abbrev bP_requirePattern : ByteArray := prog_1_method_29_code
abbrev bP_byteOf : ByteArray := prog_1_method_30_code
abbrev bP_commonBeginning : ByteArray := prog_1_method_31_code
abbrev bP_nameWithOneMore : ByteArray := prog_1_method_32_code
abbrev bM_init : ByteArray := prog_6_method_1_code
abbrev bM_thrown : ByteArray := prog_6_method_2_code
abbrev bM_isDocument : ByteArray := prog_6_method_3_code
abbrev bM_isRange : ByteArray := prog_6_method_4_code
abbrev bM_add : ByteArray := prog_6_method_5_code
abbrev bM_become : ByteArray := prog_6_method_6_code
abbrev bM_write : ByteArray := prog_6_method_7_code
abbrev bM_length : ByteArray := prog_6_method_8_code
abbrev bM_byteAt : ByteArray := prog_6_method_9_code
abbrev bM_copy : ByteArray := prog_6_method_10_code
abbrev bM_join : ByteArray := prog_6_method_11_code
abbrev bM_insert : ByteArray := prog_6_method_12_code
abbrev bM_delete : ByteArray := prog_6_method_13_code
abbrev bM_addRest : ByteArray := prog_6_method_14_code
abbrev bM_move : ByteArray := prog_6_method_15_code
abbrev bM_repeat : ByteArray := prog_6_method_16_code
abbrev bM_common : ByteArray := prog_6_method_17_code
abbrev bM_same : ByteArray := prog_6_method_18_code
abbrev bM_pieces : ByteArray := prog_6_method_19_code
abbrev bM_prefix : ByteArray := prog_6_method_20_code
abbrev bM_order : ByteArray := prog_6_method_21_code
abbrev bM_sum : ByteArray := prog_6_method_22_code
abbrev bM_times : ByteArray := prog_6_method_23_code
abbrev bM_name : ByteArray := prog_6_method_24_code
abbrev bM_pattern : ByteArray := prog_6_method_25_code
abbrev bM_stands : ByteArray := prog_6_method_26_code
abbrev bM_count : ByteArray := prog_6_method_27_code
abbrev bM_find : ByteArray := prog_6_method_28_code
abbrev bM_lead : ByteArray := prog_6_method_29_code
abbrev bM_accept : ByteArray := prog_6_method_30_code
abbrev bM_read : ByteArray := prog_6_method_31_code
abbrev bM_run : ByteArray := prog_6_method_32_code
abbrev bM_accepted : ByteArray := prog_6_method_33_code
abbrev bA_init : ByteArray := prog_2_method_1_code
abbrev bA_nextOf : ByteArray := prog_2_method_2_code
abbrev bA_setNext : ByteArray := prog_2_method_3_code
abbrev bQ_init : ByteArray := prog_3_method_1_code
abbrev bQ_become : ByteArray := prog_3_method_2_code
abbrev bQ_standsAt : ByteArray := prog_3_method_3_code
abbrev bT_init : ByteArray := prog_4_method_1_code
abbrev bT_clear : ByteArray := prog_4_method_2_code
abbrev bT_add : ByteArray := prog_4_method_3_code
abbrev bT_addRange : ByteArray := prog_4_method_4_code
abbrev bT_hasRange : ByteArray := prog_4_method_5_code
abbrev bT_hasPiece : ByteArray := prog_4_method_6_code
abbrev bL_write : ByteArray := method_3_code
abbrev bL_length : ByteArray := method_4_code
abbrev bL_byteAt : ByteArray := method_5_code
abbrev bL_copy : ByteArray := method_6_code
abbrev bL_join : ByteArray := method_7_code
abbrev bL_insert : ByteArray := method_8_code
abbrev bL_delete : ByteArray := method_9_code
abbrev bL_move : ByteArray := method_10_code
abbrev bL_repeat : ByteArray := method_11_code
abbrev bL_same : ByteArray := method_12_code
abbrev bL_prefix : ByteArray := method_13_code
abbrev bL_order : ByteArray := method_14_code
abbrev bL_name : ByteArray := method_15_code
abbrev bL_pattern : ByteArray := method_16_code
abbrev bL_count : ByteArray := method_17_code
abbrev bL_find : ByteArray := method_18_code
abbrev bL_lead : ByteArray := method_19_code
abbrev bL_accept : ByteArray := method_20_code
abbrev bL_run : ByteArray := method_21_code
abbrev bL_accepted : ByteArray := method_22_code
abbrev bL_law : ByteArray := code
def FP : u_T := fun k => match k with
  | 0 => ("PairedTexts", "texts", "[LPairedTexts$Text;", true)
  | 1 => ("PairedTexts", "sought", "LPairedTexts$Pattern;", true)
  | 2 => ("PairedTexts", "automaton", "LPairedTexts$Automaton;", true)
  | _ => ("PairedTexts", "draft", "LPairedTexts$Text;", false)
def tP : Nat → FieldType := fun k => match k with
  | 0 => .array (.object "PairedTexts$Text")
  | 1 => .object "PairedTexts$Pattern"
  | 2 => .object "PairedTexts$Automaton"
  | _ => .object "PairedTexts$Text"
theorem nP : ∀ a, a < 4 → ∀ b, b < 4 → a ≠ b → (FP a).2.1 ≠ (FP b).2.1 := by decide +kernel
theorem tP_ok : ∀ k, k < 4 → parseFieldDescriptor (FP k).2.2.1 = some (tP k) := by decide +kernel
def FT : u_T := fun k => match k with
  | 0 => ("PairedTexts$Text", "bytes", "[I", true)
  | _ => ("PairedTexts$Text", "size", "I", false)
def tT : Nat → FieldType := fun k => match k with
  | 0 => .array .int
  | _ => .int
theorem nT : ∀ a, a < 2 → ∀ b, b < 2 → a ≠ b → (FT a).2.1 ≠ (FT b).2.1 := by decide +kernel
theorem tT_ok : ∀ k, k < 2 → parseFieldDescriptor (FT k).2.2.1 = some (tT k) := by decide +kernel
def FQ : u_T := fun k => match k with
  | 0 => ("PairedTexts$Pattern", "bytes", "[I", true)
  | _ => ("PairedTexts$Pattern", "size", "I", false)
def tQ : Nat → FieldType := fun k => match k with
  | 0 => .array .int
  | _ => .int
theorem nQ : ∀ a, a < 2 → ∀ b, b < 2 → a ≠ b → (FQ a).2.1 ≠ (FQ b).2.1 := by decide +kernel
theorem tQ_ok : ∀ k, k < 2 → parseFieldDescriptor (FQ k).2.2.1 = some (tQ k) := by decide +kernel
def FA : u_T := fun k => match k with
  | 0 => ("PairedTexts$Automaton", "next", "[I", true)
  | _ => ("PairedTexts$Automaton", "accepting", "[Z", true)
def tA : Nat → FieldType := fun k => match k with
  | 0 => .array .int
  | _ => .array .boolean
theorem nA : ∀ a, a < 2 → ∀ b, b < 2 → a ≠ b → (FA a).2.1 ≠ (FA b).2.1 := by decide +kernel
theorem tA_ok : ∀ k, k < 2 → parseFieldDescriptor (FA k).2.2.1 = some (tA k) := by decide +kernel
def FM : u_T := fun k => match k with
  | 0 => ("PairedTextsModel", "code", "I", false)
  | 1 => ("PairedTextsModel", "texts", "[I", true)
  | 2 => ("PairedTextsModel", "sizes", "[I", true)
  | 3 => ("PairedTextsModel", "draft", "[I", true)
  | 4 => ("PairedTextsModel", "drafted", "I", false)
  | 5 => ("PairedTextsModel", "patternSize", "I", false)
  | 6 => ("PairedTextsModel", "pattern", "[I", true)
  | 7 => ("PairedTextsModel", "next", "[I", true)
  | 8 => ("PairedTextsModel", "accepts", "[Z", true)
  | 9 => ("PairedTextsModel", "state", "I", false)
  | _ => ("PairedTextsModel", "many", "I", false)
def tM : Nat → FieldType := fun k => match k with
  | 0 => .int
  | 1 => .array .int
  | 2 => .array .int
  | 3 => .array .int
  | 4 => .int
  | 5 => .int
  | 6 => .array .int
  | 7 => .array .int
  | 8 => .array .boolean
  | 9 => .int
  | _ => .int
theorem nM : ∀ a, a < 11 → ∀ b, b < 11 → a ≠ b → (FM a).2.1 ≠ (FM b).2.1 := by decide +kernel
theorem tM_ok : ∀ k, k < 11 → parseFieldDescriptor (FM k).2.2.1 = some (tM k) := by decide +kernel
/-- the classes whose objects the world holds -/
abbrev cl : List vw_C := [("PairedTexts", FP, 4), ("PairedTexts$Text", FT, 2), ("PairedTexts$Pattern", FQ, 2), ("PairedTexts$Automaton", FA, 2), ("PairedTextsModel", FM, 11)]
/-- the words that every method here has: all that stay true -/
def tws : List Cond := lw_tbl.filter goodWord
theorem tws_good {w : Cond} (h : w ∈ tws) : goodWord w = true := (List.mem_filter.mp h).2
theorem tw0 {w : Cond} {i : Nat} (h : (k2_sels lw_privs)[i]? = some w) (g : goodWord w = true) : w ∈ tws := List.mem_filter.mpr ⟨List.mem_append_left _ (List.mem_of_getElem? h), g⟩
theorem tw1 {w : Cond} {i : Nat} (h : tables_1_1[i]? = some w) (g : goodWord w = true) : w ∈ tws := List.mem_filter.mpr ⟨List.mem_append_right _ (List.mem_append_left _ (List.mem_of_getElem? h)), g⟩
theorem tw2 {w : Cond} {i : Nat} (h : tables_1_2[i]? = some w) (g : goodWord w = true) : w ∈ tws := List.mem_filter.mpr ⟨List.mem_append_right _ (List.mem_append_right _ (List.mem_append_left _ (List.mem_of_getElem? h))), g⟩
theorem tw3 {w : Cond} {i : Nat} (h : tables_1_3[i]? = some w) (g : goodWord w = true) : w ∈ tws := List.mem_filter.mpr ⟨List.mem_append_right _ (List.mem_append_right _ (List.mem_append_right _ (List.mem_of_getElem? h))), g⟩
theorem k1_0 : Cond.initialized "PairedTextsLaw" ∈ tws := tw1 (i := 0) rfl rfl
theorem k1_1 : Cond.initialized "PairedTexts" ∈ tws := tw1 (i := 1) rfl rfl
theorem k1_2 : Cond.initialized "PairedTexts$Text" ∈ tws := tw1 (i := 2) rfl rfl
theorem k1_3 : Cond.initialized "PairedTexts$Pattern" ∈ tws := tw1 (i := 3) rfl rfl
theorem k1_4 : Cond.initialized "PairedTexts$Automaton" ∈ tws := tw1 (i := 4) rfl rfl
theorem k1_5 : Cond.initialized "PairedTextsModel" ∈ tws := tw1 (i := 5) rfl rfl
theorem k1_6 : Cond.initialized "java/lang/Throwable" ∈ tws := tw1 (i := 6) rfl rfl
theorem k1_7 : Cond.initialized "java/lang/Exception" ∈ tws := tw1 (i := 7) rfl rfl
theorem k1_8 : Cond.initialized "java/lang/RuntimeException" ∈ tws := tw1 (i := 8) rfl rfl
theorem k1_9 : Cond.initialized "java/lang/IllegalArgumentException" ∈ tws := tw1 (i := 9) rfl rfl
theorem k1_10 : Cond.initialized "java/lang/UnsupportedOperationException" ∈ tws := tw1 (i := 10) rfl rfl
theorem k1_11 : Cond.initialized "java/lang/IndexOutOfBoundsException" ∈ tws := tw1 (i := 11) rfl rfl
theorem k1_12 : Cond.initialized "java/lang/System" ∈ tws := tw1 (i := 12) rfl rfl
theorem k1_13 : Cond.initialized "java/lang/Math" ∈ tws := tw1 (i := 13) rfl rfl
theorem k1_14 : Cond.initialized "java/lang/IllegalStateException" ∈ tws := tw1 (i := 14) rfl rfl
theorem k1_15 : Cond.classLink "PairedTextsLaw" 8 "PairedTexts" ∈ tws := tw1 (i := 15) rfl rfl
theorem k1_16 : Cond.instantiable "PairedTexts" 4 ∈ tws := tw1 (i := 16) rfl rfl
theorem k1_17 : Cond.methodLink "PairedTextsLaw" 88 yP_init ∈ tws := tw1 (i := 17) rfl rfl
theorem k1_18 : Cond.instanceMethod yP_init ∈ tws := tw1 (i := 18) rfl rfl
theorem k1_19 : Cond.code yP_init prog_1_method_1_code 2 (Option.none : Option ClassFile.FieldType) ∈ tws := tw1 (i := 19) rfl rfl
theorem k1_20 : Cond.methodLink "PairedTexts" 1 objectInit ∈ tws := tw1 (i := 20) rfl rfl
theorem k1_21 : Cond.instanceMethod objectInit ∈ tws := tw1 (i := 21) rfl rfl
theorem k1_22 : Cond.code objectInit object_method_1_code 1 (Option.none : Option ClassFile.FieldType) ∈ tws := tw1 (i := 22) rfl rfl
theorem k1_23 : Cond.classLink "PairedTexts" 9 "PairedTexts$Text" ∈ tws := tw1 (i := 23) rfl rfl
theorem k1_25 : Cond.instantiable "PairedTexts$Text" 2 ∈ tws := tw1 (i := 25) rfl rfl
theorem k1_27 : Cond.instanceMethod yT_init ∈ tws := tw1 (i := 27) rfl rfl
theorem k1_28 : Cond.code yT_init prog_4_method_1_code 1 (Option.none : Option ClassFile.FieldType) ∈ tws := tw1 (i := 28) rfl rfl
theorem k1_29 : Cond.methodLink "PairedTexts$Text" 3 objectInit ∈ tws := tw1 (i := 29) rfl rfl
theorem k1_30 : Cond.fieldLink "PairedTexts$Text" 9 "PairedTexts$Text" "bytes" "[I" ∈ tws := tw1 (i := 30) rfl rfl
theorem k1_31 : Cond.fieldLink "PairedTexts$Pattern" 23 "PairedTexts$Text" "bytes" "[I" ∈ tws := tw1 (i := 31) rfl rfl
theorem k1_32 : Cond.fieldLink "PairedTexts" 61 "PairedTexts$Text" "bytes" "[I" ∈ tws := tw1 (i := 32) rfl rfl
theorem k1_33 : Cond.fieldLink "PairedTexts$Text" 15 "PairedTexts$Text" "size" "I" ∈ tws := tw1 (i := 33) rfl rfl
theorem k1_34 : Cond.fieldLink "PairedTexts" 42 "PairedTexts$Text" "size" "I" ∈ tws := tw1 (i := 34) rfl rfl
theorem k1_35 : Cond.laysFinal "PairedTexts$Text" "PairedTexts$Text" "bytes" "[I" ∈ tws := tw1 (i := 35) rfl rfl
theorem k1_36 : Cond.soleField "PairedTexts$Text" "bytes" ∈ tws := tw1 (i := 36) rfl rfl
theorem k1_37 : Cond.lays "PairedTexts$Text" "PairedTexts$Text" "size" "I" ∈ tws := tw1 (i := 37) rfl rfl
theorem k1_38 : Cond.soleField "PairedTexts$Text" "size" ∈ tws := tw1 (i := 38) rfl rfl
theorem k1_39 : Cond.superclass "PairedTexts$Text" "java/lang/Object" ∈ tws := tw1 (i := 39) rfl rfl
theorem k1_40 : Cond.arrayClass FieldType.int ∈ tws := tw1 (i := 40) rfl rfl
theorem k1_41 : Cond.classLink "PairedTexts" 20 "PairedTexts$Pattern" ∈ tws := tw1 (i := 41) rfl rfl
theorem k1_42 : Cond.instantiable "PairedTexts$Pattern" 2 ∈ tws := tw1 (i := 42) rfl rfl
theorem k1_44 : Cond.instanceMethod yQ_init ∈ tws := tw1 (i := 44) rfl rfl
theorem k1_45 : Cond.code yQ_init prog_3_method_1_code 1 (Option.none : Option ClassFile.FieldType) ∈ tws := tw1 (i := 45) rfl rfl
theorem k1_46 : Cond.methodLink "PairedTexts$Pattern" 3 objectInit ∈ tws := tw1 (i := 46) rfl rfl
theorem k1_47 : Cond.fieldLink "PairedTexts$Pattern" 9 "PairedTexts$Pattern" "bytes" "[I" ∈ tws := tw1 (i := 47) rfl rfl
theorem k1_48 : Cond.fieldLink "PairedTexts$Pattern" 15 "PairedTexts$Pattern" "size" "I" ∈ tws := tw1 (i := 48) rfl rfl
theorem k1_49 : Cond.fieldLink "PairedTexts" 144 "PairedTexts$Pattern" "size" "I" ∈ tws := tw1 (i := 49) rfl rfl
theorem k1_50 : Cond.laysFinal "PairedTexts$Pattern" "PairedTexts$Pattern" "bytes" "[I" ∈ tws := tw1 (i := 50) rfl rfl
theorem k1_51 : Cond.soleField "PairedTexts$Pattern" "bytes" ∈ tws := tw1 (i := 51) rfl rfl
theorem k1_52 : Cond.lays "PairedTexts$Pattern" "PairedTexts$Pattern" "size" "I" ∈ tws := tw1 (i := 52) rfl rfl
theorem k1_53 : Cond.soleField "PairedTexts$Pattern" "size" ∈ tws := tw1 (i := 53) rfl rfl
theorem k1_54 : Cond.superclass "PairedTexts$Pattern" "java/lang/Object" ∈ tws := tw1 (i := 54) rfl rfl
theorem k1_55 : Cond.classLink "PairedTexts" 27 "PairedTexts$Automaton" ∈ tws := tw1 (i := 55) rfl rfl
theorem k1_56 : Cond.instantiable "PairedTexts$Automaton" 2 ∈ tws := tw1 (i := 56) rfl rfl
theorem k1_58 : Cond.instanceMethod yA_init ∈ tws := tw1 (i := 58) rfl rfl
theorem k1_59 : Cond.code yA_init prog_2_method_1_code 1 (Option.none : Option ClassFile.FieldType) ∈ tws := tw1 (i := 59) rfl rfl
theorem k1_60 : Cond.methodLink "PairedTexts$Automaton" 3 objectInit ∈ tws := tw1 (i := 60) rfl rfl
theorem k1_61 : Cond.fieldLink "PairedTexts$Automaton" 9 "PairedTexts$Automaton" "next" "[I" ∈ tws := tw1 (i := 61) rfl rfl
theorem k1_62 : Cond.fieldLink "PairedTexts$Automaton" 15 "PairedTexts$Automaton" "accepting" "[Z" ∈ tws := tw1 (i := 62) rfl rfl
theorem k1_63 : Cond.fieldLink "PairedTexts" 113 "PairedTexts$Automaton" "accepting" "[Z" ∈ tws := tw1 (i := 63) rfl rfl
theorem k1_64 : Cond.laysFinal "PairedTexts$Automaton" "PairedTexts$Automaton" "next" "[I" ∈ tws := tw1 (i := 64) rfl rfl
theorem k1_65 : Cond.soleField "PairedTexts$Automaton" "next" ∈ tws := tw1 (i := 65) rfl rfl
theorem k1_66 : Cond.laysFinal "PairedTexts$Automaton" "PairedTexts$Automaton" "accepting" "[Z" ∈ tws := tw1 (i := 66) rfl rfl
theorem k1_67 : Cond.soleField "PairedTexts$Automaton" "accepting" ∈ tws := tw1 (i := 67) rfl rfl
theorem k1_68 : Cond.superclass "PairedTexts$Automaton" "java/lang/Object" ∈ tws := tw1 (i := 68) rfl rfl
theorem k1_69 : Cond.arrayClass FieldType.boolean ∈ tws := tw1 (i := 69) rfl rfl
theorem k1_70 : Cond.fieldLink "PairedTexts" 11 "PairedTexts" "texts" "[LPairedTexts$Text;" ∈ tws := tw1 (i := 70) rfl rfl
theorem k1_71 : Cond.fieldLink "PairedTexts" 23 "PairedTexts" "sought" "LPairedTexts$Pattern;" ∈ tws := tw1 (i := 71) rfl rfl
theorem k1_72 : Cond.fieldLink "PairedTexts" 30 "PairedTexts" "automaton" "LPairedTexts$Automaton;" ∈ tws := tw1 (i := 72) rfl rfl
theorem k1_73 : Cond.fieldLink "PairedTexts" 16 "PairedTexts" "draft" "LPairedTexts$Text;" ∈ tws := tw1 (i := 73) rfl rfl
theorem k1_74 : Cond.laysFinal "PairedTexts" "PairedTexts" "texts" "[LPairedTexts$Text;" ∈ tws := tw1 (i := 74) rfl rfl
theorem k1_75 : Cond.soleField "PairedTexts" "texts" ∈ tws := tw1 (i := 75) rfl rfl
theorem k1_76 : Cond.laysFinal "PairedTexts" "PairedTexts" "sought" "LPairedTexts$Pattern;" ∈ tws := tw1 (i := 76) rfl rfl
theorem k1_77 : Cond.soleField "PairedTexts" "sought" ∈ tws := tw1 (i := 77) rfl rfl
theorem k1_78 : Cond.laysFinal "PairedTexts" "PairedTexts" "automaton" "LPairedTexts$Automaton;" ∈ tws := tw1 (i := 78) rfl rfl
theorem k1_79 : Cond.soleField "PairedTexts" "automaton" ∈ tws := tw1 (i := 79) rfl rfl
theorem k1_80 : Cond.lays "PairedTexts" "PairedTexts" "draft" "LPairedTexts$Text;" ∈ tws := tw1 (i := 80) rfl rfl
theorem k1_81 : Cond.soleField "PairedTexts" "draft" ∈ tws := tw1 (i := 81) rfl rfl
theorem k1_82 : Cond.superclass "PairedTexts" "java/lang/Object" ∈ tws := tw1 (i := 82) rfl rfl
theorem k1_83 : Cond.methodLink "PairedTextsLaw" 94 yL_write ∈ tws := tw1 (i := 83) rfl rfl
theorem k1_84 : Cond.static yL_write ∈ tws := tw1 (i := 84) rfl rfl
theorem k1_85 : Cond.codeWith yL_write method_3_code 7 (Option.some FieldType.int) [(0, 13, 16, 13), (0, 13, 20, 15)] ∈ tws := tw1 (i := 85) rfl rfl
theorem k1_86 : Cond.classLink "PairedTextsLaw" 13 "java/lang/IllegalArgumentException" ∈ tws := tw1 (i := 86) rfl rfl
theorem k1_87 : Cond.classLink "PairedTextsLaw" 15 "java/lang/UnsupportedOperationException" ∈ tws := tw1 (i := 87) rfl rfl
theorem k1_88 : Cond.methodLink "PairedTextsLaw" 7 yP_write ∈ tws := tw1 (i := 88) rfl rfl
theorem k1_89 : Cond.instanceMethod yP_write ∈ tws := tw1 (i := 89) rfl rfl
theorem k1_90 : Cond.selects "PairedTexts" yP_write yP_write ∈ tws := tw1 (i := 90) rfl rfl
theorem k1_91 : Cond.code yP_write prog_1_method_2_code 7 (Option.some FieldType.int) ∈ tws := tw1 (i := 91) rfl rfl
theorem k1_92 : Cond.methodLink "PairedTexts" 34 yP_textOf ∈ tws := tw1 (i := 92) rfl rfl
theorem k1_94 : Cond.instanceMethod yP_textOf ∈ tws := tw1 (i := 94) rfl rfl
theorem k1_95 : Cond.code yP_textOf prog_1_method_22_code 2 (Option.some (FieldType.object "PairedTexts$Text")) ∈ tws := tw1 (i := 95) rfl rfl
theorem k1_96 : Cond.methodLink "PairedTexts" 65 yP_requireDocument ∈ tws := tw1 (i := 96) rfl rfl
theorem k1_97 : Cond.static yP_requireDocument ∈ tws := tw1 (i := 97) rfl rfl
theorem k1_98 : Cond.code yP_requireDocument prog_1_method_24_code 1 (Option.none : Option ClassFile.FieldType) ∈ tws := tw1 (i := 98) rfl rfl
theorem k1_99 : Cond.classLink "PairedTexts" 121 "java/lang/IllegalArgumentException" ∈ tws := tw1 (i := 99) rfl rfl
theorem k1_100 : Cond.instantiable "java/lang/IllegalArgumentException" 6 ∈ tws := tw1 (i := 100) rfl rfl
theorem k1_108 : Cond.selects "java/lang/IllegalArgumentException" ⟨"java/lang/Throwable", "fillInStackTrace", "(I)Ljava/lang/Throwable;"⟩ ⟨"java/lang/Throwable", "fillInStackTrace", "(I)Ljava/lang/Throwable;"⟩ ∈ tws := tw1 (i := 108) rfl rfl
theorem k1_109 : Cond.selects "java/lang/IllegalArgumentException" ⟨"java/lang/Throwable", "fillInStackTrace", "()Ljava/lang/Throwable;"⟩ ⟨"java/lang/Throwable", "fillInStackTrace", "()Ljava/lang/Throwable;"⟩ ∈ tws := tw1 (i := 109) rfl rfl
theorem k1_110 : Cond.lays "java/lang/IllegalArgumentException" "java/lang/Throwable" "cause" "Ljava/lang/Throwable;" ∈ tws := tw1 (i := 110) rfl rfl
theorem k1_111 : Cond.lays "java/lang/Throwable" "java/lang/Throwable" "cause" "Ljava/lang/Throwable;" ∈ tws := tw1 (i := 111) rfl rfl
theorem k1_112 : Cond.lays "java/lang/IllegalArgumentException" "java/lang/Throwable" "stackTrace" "[Ljava/lang/StackTraceElement;" ∈ tws := tw1 (i := 112) rfl rfl
theorem k1_113 : Cond.lays "java/lang/Throwable" "java/lang/Throwable" "stackTrace" "[Ljava/lang/StackTraceElement;" ∈ tws := tw1 (i := 113) rfl rfl
theorem k1_114 : Cond.lays "java/lang/IllegalArgumentException" "java/lang/Throwable" "suppressedExceptions" "Ljava/util/List;" ∈ tws := tw1 (i := 114) rfl rfl
theorem k1_115 : Cond.lays "java/lang/Throwable" "java/lang/Throwable" "suppressedExceptions" "Ljava/util/List;" ∈ tws := tw1 (i := 115) rfl rfl
theorem k1_116 : Cond.lays "java/lang/IllegalArgumentException" "java/lang/Throwable" "detailMessage" "Ljava/lang/String;" ∈ tws := tw1 (i := 116) rfl rfl
theorem k1_117 : Cond.lays "java/lang/Throwable" "java/lang/Throwable" "detailMessage" "Ljava/lang/String;" ∈ tws := tw1 (i := 117) rfl rfl
theorem k1_118 : Cond.lays "java/lang/IllegalArgumentException" "java/lang/Throwable" "backtrace" "Ljava/lang/Object;" ∈ tws := tw1 (i := 118) rfl rfl
theorem k1_119 : Cond.lays "java/lang/Throwable" "java/lang/Throwable" "backtrace" "Ljava/lang/Object;" ∈ tws := tw1 (i := 119) rfl rfl
theorem k1_120 : Cond.fieldLink "java/lang/Throwable" 198 "java/lang/Throwable" "backtrace" "Ljava/lang/Object;" ∈ tws := tw1 (i := 120) rfl rfl
theorem k1_121 : Cond.superclass "java/lang/Throwable" "java/lang/Object" ∈ tws := tw1 (i := 121) rfl rfl
theorem k1_122 : Cond.instanceMethod ⟨"java/lang/Throwable", "<init>", "()V"⟩ ∈ tws := tw1 (i := 122) rfl rfl
theorem k1_123 : Cond.code ⟨"java/lang/Throwable", "<init>", "()V"⟩ prog_15_method_1_code 1 (Option.none : Option ClassFile.FieldType) ∈ tws := tw1 (i := 123) rfl rfl
theorem k1_124 : Cond.methodLink "java/lang/Throwable" 1 objectInit ∈ tws := tw1 (i := 124) rfl rfl
theorem k1_125 : Cond.fieldLink "java/lang/Throwable" 13 "java/lang/Throwable" "UNASSIGNED_STACK" "[Ljava/lang/StackTraceElement;" ∈ tws := tw1 (i := 125) rfl rfl
theorem k1_127 : Cond.fieldLink "java/lang/Throwable" 20 "java/lang/Throwable" "SUPPRESSED_SENTINEL" "Ljava/util/List;" ∈ tws := tw1 (i := 127) rfl rfl
theorem k1_129 : Cond.methodLink "java/lang/Throwable" 27 ⟨"java/lang/Throwable", "fillInStackTrace", "()Ljava/lang/Throwable;"⟩ ∈ tws := tw1 (i := 129) rfl rfl
theorem k1_130 : Cond.instanceMethod ⟨"java/lang/Throwable", "fillInStackTrace", "()Ljava/lang/Throwable;"⟩ ∈ tws := tw1 (i := 130) rfl rfl
theorem k1_131 : Cond.sameMethod "java/lang/Throwable" "java/lang/Throwable" "fillInStackTrace" "()Ljava/lang/Throwable;" ∈ tws := tw1 (i := 131) rfl rfl
theorem k1_132 : Cond.selects "java/lang/IllegalStateException" ⟨"java/lang/Throwable", "fillInStackTrace", "()Ljava/lang/Throwable;"⟩ ⟨"java/lang/Throwable", "fillInStackTrace", "()Ljava/lang/Throwable;"⟩ ∈ tws := tw1 (i := 132) rfl rfl
theorem k1_133 : Cond.selects "java/lang/IndexOutOfBoundsException" ⟨"java/lang/Throwable", "fillInStackTrace", "()Ljava/lang/Throwable;"⟩ ⟨"java/lang/Throwable", "fillInStackTrace", "()Ljava/lang/Throwable;"⟩ ∈ tws := tw1 (i := 133) rfl rfl
theorem k1_134 : Cond.selects "java/lang/UnsupportedOperationException" ⟨"java/lang/Throwable", "fillInStackTrace", "()Ljava/lang/Throwable;"⟩ ⟨"java/lang/Throwable", "fillInStackTrace", "()Ljava/lang/Throwable;"⟩ ∈ tws := tw1 (i := 134) rfl rfl
theorem k1_135 : Cond.codeSync ⟨"java/lang/Throwable", "fillInStackTrace", "()Ljava/lang/Throwable;"⟩ prog_15_method_18_code 1 (Option.some (FieldType.object "java/lang/Throwable")) ∈ tws := tw1 (i := 135) rfl rfl
theorem k1_136 : Cond.methodLink "java/lang/Throwable" 202 ⟨"java/lang/Throwable", "fillInStackTrace", "(I)Ljava/lang/Throwable;"⟩ ∈ tws := tw1 (i := 136) rfl rfl
theorem k1_138 : Cond.instanceMethod ⟨"java/lang/Throwable", "fillInStackTrace", "(I)Ljava/lang/Throwable;"⟩ ∈ tws := tw1 (i := 138) rfl rfl
theorem k1_139 : Cond.instantiable "java/lang/Throwable" 6 ∈ tws := tw1 (i := 139) rfl rfl
theorem k1_140 : Cond.native ⟨"java/lang/Throwable", "fillInStackTrace", "(I)Ljava/lang/Throwable;"⟩ ∈ tws := tw1 (i := 140) rfl rfl
theorem k1_142 : Cond.methodLink "PairedTexts" 125 ⟨"java/lang/IllegalArgumentException", "<init>", "(Ljava/lang/String;)V"⟩ ∈ tws := tw1 (i := 142) rfl rfl
theorem k1_143 : Cond.instanceMethod ⟨"java/lang/IllegalArgumentException", "<init>", "(Ljava/lang/String;)V"⟩ ∈ tws := tw1 (i := 143) rfl rfl
theorem k1_144 : Cond.code ⟨"java/lang/IllegalArgumentException", "<init>", "(Ljava/lang/String;)V"⟩ prog_8_method_2_code 2 (Option.none : Option ClassFile.FieldType) ∈ tws := tw1 (i := 144) rfl rfl
theorem k1_145 : Cond.methodLink "java/lang/IllegalArgumentException" 7 ⟨"java/lang/RuntimeException", "<init>", "(Ljava/lang/String;)V"⟩ ∈ tws := tw1 (i := 145) rfl rfl
theorem k1_146 : Cond.instanceMethod ⟨"java/lang/RuntimeException", "<init>", "(Ljava/lang/String;)V"⟩ ∈ tws := tw1 (i := 146) rfl rfl
theorem k1_147 : Cond.code ⟨"java/lang/RuntimeException", "<init>", "(Ljava/lang/String;)V"⟩ prog_12_method_2_code 2 (Option.none : Option ClassFile.FieldType) ∈ tws := tw1 (i := 147) rfl rfl
theorem k1_148 : Cond.methodLink "java/lang/RuntimeException" 7 ⟨"java/lang/Exception", "<init>", "(Ljava/lang/String;)V"⟩ ∈ tws := tw1 (i := 148) rfl rfl
theorem k1_149 : Cond.instanceMethod ⟨"java/lang/Exception", "<init>", "(Ljava/lang/String;)V"⟩ ∈ tws := tw1 (i := 149) rfl rfl
theorem k1_150 : Cond.code ⟨"java/lang/Exception", "<init>", "(Ljava/lang/String;)V"⟩ prog_7_method_2_code 2 (Option.none : Option ClassFile.FieldType) ∈ tws := tw1 (i := 150) rfl rfl
theorem k1_151 : Cond.methodLink "java/lang/Exception" 7 ⟨"java/lang/Throwable", "<init>", "(Ljava/lang/String;)V"⟩ ∈ tws := tw1 (i := 151) rfl rfl
theorem k1_152 : Cond.instanceMethod ⟨"java/lang/Throwable", "<init>", "(Ljava/lang/String;)V"⟩ ∈ tws := tw1 (i := 152) rfl rfl
theorem k1_153 : Cond.code ⟨"java/lang/Throwable", "<init>", "(Ljava/lang/String;)V"⟩ prog_15_method_2_code 2 (Option.none : Option ClassFile.FieldType) ∈ tws := tw1 (i := 153) rfl rfl
theorem k1_155 : Cond.fieldLink "java/lang/Throwable" 31 "java/lang/Throwable" "detailMessage" "Ljava/lang/String;" ∈ tws := tw1 (i := 155) rfl rfl
theorem k1_156 : Cond.fieldLink "java/lang/Throwable" 7 "java/lang/Throwable" "cause" "Ljava/lang/Throwable;" ∈ tws := tw1 (i := 156) rfl rfl
theorem k1_157 : Cond.fieldLink "java/lang/Throwable" 17 "java/lang/Throwable" "stackTrace" "[Ljava/lang/StackTraceElement;" ∈ tws := tw1 (i := 157) rfl rfl
theorem k1_158 : Cond.fieldLink "java/lang/Throwable" 24 "java/lang/Throwable" "suppressedExceptions" "Ljava/util/List;" ∈ tws := tw1 (i := 158) rfl rfl
theorem k1_159 : Cond.soleField "java/lang/Throwable" "backtrace" ∈ tws := tw1 (i := 159) rfl rfl
theorem k1_160 : Cond.soleField "java/lang/Throwable" "detailMessage" ∈ tws := tw1 (i := 160) rfl rfl
theorem k1_161 : Cond.soleField "java/lang/Throwable" "cause" ∈ tws := tw1 (i := 161) rfl rfl
theorem k1_162 : Cond.soleField "java/lang/Throwable" "stackTrace" ∈ tws := tw1 (i := 162) rfl rfl
theorem k1_163 : Cond.lays "java/lang/IllegalArgumentException" "java/lang/Throwable" "depth" "I" ∈ tws := tw1 (i := 163) rfl rfl
theorem k1_164 : Cond.soleField "java/lang/Throwable" "depth" ∈ tws := tw1 (i := 164) rfl rfl
theorem k1_165 : Cond.soleField "java/lang/Throwable" "suppressedExceptions" ∈ tws := tw1 (i := 165) rfl rfl
theorem k1_166 : Cond.superclass "java/lang/IllegalArgumentException" "java/lang/RuntimeException" ∈ tws := tw1 (i := 166) rfl rfl
theorem k1_167 : Cond.arrayClass FieldType.byte ∈ tws := tw1 (i := 167) rfl rfl
theorem k1_168 : Cond.methodLink "PairedTexts" 38 yP_requireArgument ∈ tws := tw1 (i := 168) rfl rfl
theorem k1_169 : Cond.static yP_requireArgument ∈ tws := tw1 (i := 169) rfl rfl
theorem k1_170 : Cond.code yP_requireArgument prog_1_method_26_code 1 (Option.none : Option ClassFile.FieldType) ∈ tws := tw1 (i := 170) rfl rfl
theorem k1_172 : Cond.methodLink "PairedTexts" 46 yP_requireRoom ∈ tws := tw1 (i := 172) rfl rfl
theorem k1_173 : Cond.static yP_requireRoom ∈ tws := tw1 (i := 173) rfl rfl
theorem k1_174 : Cond.code yP_requireRoom prog_1_method_28_code 2 (Option.none : Option ClassFile.FieldType) ∈ tws := tw1 (i := 174) rfl rfl
theorem k1_175 : Cond.constantLong "PairedTexts" 137 (1000 : Int64) ∈ tws := tw1 (i := 175) rfl rfl
theorem k1_176 : Cond.classLink "PairedTexts" 139 "java/lang/UnsupportedOperationException" ∈ tws := tw1 (i := 176) rfl rfl
theorem k1_177 : Cond.instantiable "java/lang/UnsupportedOperationException" 6 ∈ tws := tw1 (i := 177) rfl rfl
theorem k1_179 : Cond.selects "java/lang/UnsupportedOperationException" ⟨"java/lang/Throwable", "fillInStackTrace", "(I)Ljava/lang/Throwable;"⟩ ⟨"java/lang/Throwable", "fillInStackTrace", "(I)Ljava/lang/Throwable;"⟩ ∈ tws := tw1 (i := 179) rfl rfl
theorem k1_180 : Cond.lays "java/lang/UnsupportedOperationException" "java/lang/Throwable" "cause" "Ljava/lang/Throwable;" ∈ tws := tw1 (i := 180) rfl rfl
theorem k1_181 : Cond.lays "java/lang/UnsupportedOperationException" "java/lang/Throwable" "stackTrace" "[Ljava/lang/StackTraceElement;" ∈ tws := tw1 (i := 181) rfl rfl
theorem k1_182 : Cond.lays "java/lang/UnsupportedOperationException" "java/lang/Throwable" "suppressedExceptions" "Ljava/util/List;" ∈ tws := tw1 (i := 182) rfl rfl
theorem k1_183 : Cond.lays "java/lang/UnsupportedOperationException" "java/lang/Throwable" "detailMessage" "Ljava/lang/String;" ∈ tws := tw1 (i := 183) rfl rfl
theorem k1_184 : Cond.lays "java/lang/UnsupportedOperationException" "java/lang/Throwable" "backtrace" "Ljava/lang/Object;" ∈ tws := tw1 (i := 184) rfl rfl
theorem k1_186 : Cond.methodLink "PairedTexts" 143 ⟨"java/lang/UnsupportedOperationException", "<init>", "(Ljava/lang/String;)V"⟩ ∈ tws := tw1 (i := 186) rfl rfl
theorem k1_187 : Cond.instanceMethod ⟨"java/lang/UnsupportedOperationException", "<init>", "(Ljava/lang/String;)V"⟩ ∈ tws := tw1 (i := 187) rfl rfl
theorem k1_188 : Cond.code ⟨"java/lang/UnsupportedOperationException", "<init>", "(Ljava/lang/String;)V"⟩ prog_16_method_2_code 2 (Option.none : Option ClassFile.FieldType) ∈ tws := tw1 (i := 188) rfl rfl
theorem k1_189 : Cond.methodLink "java/lang/UnsupportedOperationException" 7 ⟨"java/lang/RuntimeException", "<init>", "(Ljava/lang/String;)V"⟩ ∈ tws := tw1 (i := 189) rfl rfl
theorem k1_190 : Cond.lays "java/lang/UnsupportedOperationException" "java/lang/Throwable" "depth" "I" ∈ tws := tw1 (i := 190) rfl rfl
theorem k1_191 : Cond.superclass "java/lang/UnsupportedOperationException" "java/lang/RuntimeException" ∈ tws := tw1 (i := 191) rfl rfl
theorem k1_192 : Cond.methodLink "PairedTexts" 50 yP_byteOf ∈ tws := tw1 (i := 192) rfl rfl
theorem k1_193 : Cond.static yP_byteOf ∈ tws := tw1 (i := 193) rfl rfl
theorem k1_194 : Cond.code yP_byteOf prog_1_method_30_code 3 (Option.some FieldType.int) ∈ tws := tw1 (i := 194) rfl rfl
theorem k1_195 : Cond.methodLink "PairedTexts" 54 yT_add ∈ tws := tw1 (i := 195) rfl rfl
theorem k1_196 : Cond.instanceMethod yT_add ∈ tws := tw1 (i := 196) rfl rfl
theorem k1_197 : Cond.selects "PairedTexts$Text" yT_add yT_add ∈ tws := tw1 (i := 197) rfl rfl
theorem k1_198 : Cond.code yT_add prog_4_method_3_code 2 (Option.none : Option ClassFile.FieldType) ∈ tws := tw1 (i := 198) rfl rfl
theorem k1_199 : Cond.methodLink "PairedTextsLaw" 104 yL_length ∈ tws := tw1 (i := 199) rfl rfl
theorem k1_200 : Cond.static yL_length ∈ tws := tw1 (i := 200) rfl rfl
theorem k1_201 : Cond.codeWith yL_length method_4_code 4 (Option.some FieldType.int) [(0, 9, 12, 13)] ∈ tws := tw1 (i := 201) rfl rfl
theorem k1_202 : Cond.methodLink "PairedTextsLaw" 17 yP_length ∈ tws := tw1 (i := 202) rfl rfl
theorem k1_203 : Cond.instanceMethod yP_length ∈ tws := tw1 (i := 203) rfl rfl
theorem k1_204 : Cond.selects "PairedTexts" yP_length yP_length ∈ tws := tw1 (i := 204) rfl rfl
theorem k1_205 : Cond.code yP_length prog_1_method_3_code 2 (Option.some FieldType.int) ∈ tws := tw1 (i := 205) rfl rfl
theorem k1_206 : Cond.methodLink "PairedTextsLaw" 108 yL_byteAt ∈ tws := tw1 (i := 206) rfl rfl
theorem k1_207 : Cond.static yL_byteAt ∈ tws := tw1 (i := 207) rfl rfl
theorem k1_208 : Cond.codeWith yL_byteAt method_5_code 5 (Option.some FieldType.int) [(0, 10, 13, 13), (0, 10, 17, 25)] ∈ tws := tw1 (i := 208) rfl rfl
theorem k1_209 : Cond.classLink "PairedTextsLaw" 25 "java/lang/IndexOutOfBoundsException" ∈ tws := tw1 (i := 209) rfl rfl
theorem k1_210 : Cond.methodLink "PairedTextsLaw" 21 yP_byteAt ∈ tws := tw1 (i := 210) rfl rfl
theorem k1_211 : Cond.instanceMethod yP_byteAt ∈ tws := tw1 (i := 211) rfl rfl
theorem k1_212 : Cond.selects "PairedTexts" yP_byteAt yP_byteAt ∈ tws := tw1 (i := 212) rfl rfl
theorem k1_213 : Cond.code yP_byteAt prog_1_method_4_code 4 (Option.some FieldType.int) ∈ tws := tw1 (i := 213) rfl rfl
theorem k1_214 : Cond.methodLink "PairedTexts" 58 yP_requireInside ∈ tws := tw1 (i := 214) rfl rfl
theorem k1_215 : Cond.static yP_requireInside ∈ tws := tw1 (i := 215) rfl rfl
theorem k1_216 : Cond.code yP_requireInside prog_1_method_27_code 1 (Option.none : Option ClassFile.FieldType) ∈ tws := tw1 (i := 216) rfl rfl
theorem k1_217 : Cond.classLink "PairedTexts" 132 "java/lang/IndexOutOfBoundsException" ∈ tws := tw1 (i := 217) rfl rfl
theorem k1_218 : Cond.instantiable "java/lang/IndexOutOfBoundsException" 6 ∈ tws := tw1 (i := 218) rfl rfl
theorem k1_220 : Cond.selects "java/lang/IndexOutOfBoundsException" ⟨"java/lang/Throwable", "fillInStackTrace", "(I)Ljava/lang/Throwable;"⟩ ⟨"java/lang/Throwable", "fillInStackTrace", "(I)Ljava/lang/Throwable;"⟩ ∈ tws := tw1 (i := 220) rfl rfl
theorem k1_221 : Cond.lays "java/lang/IndexOutOfBoundsException" "java/lang/Throwable" "cause" "Ljava/lang/Throwable;" ∈ tws := tw1 (i := 221) rfl rfl
theorem k1_222 : Cond.lays "java/lang/IndexOutOfBoundsException" "java/lang/Throwable" "stackTrace" "[Ljava/lang/StackTraceElement;" ∈ tws := tw1 (i := 222) rfl rfl
theorem k1_223 : Cond.lays "java/lang/IndexOutOfBoundsException" "java/lang/Throwable" "suppressedExceptions" "Ljava/util/List;" ∈ tws := tw1 (i := 223) rfl rfl
theorem k1_224 : Cond.lays "java/lang/IndexOutOfBoundsException" "java/lang/Throwable" "detailMessage" "Ljava/lang/String;" ∈ tws := tw1 (i := 224) rfl rfl
theorem k1_225 : Cond.lays "java/lang/IndexOutOfBoundsException" "java/lang/Throwable" "backtrace" "Ljava/lang/Object;" ∈ tws := tw1 (i := 225) rfl rfl
theorem k1_227 : Cond.methodLink "PairedTexts" 136 ⟨"java/lang/IndexOutOfBoundsException", "<init>", "(Ljava/lang/String;)V"⟩ ∈ tws := tw1 (i := 227) rfl rfl
theorem k1_228 : Cond.instanceMethod ⟨"java/lang/IndexOutOfBoundsException", "<init>", "(Ljava/lang/String;)V"⟩ ∈ tws := tw1 (i := 228) rfl rfl
theorem k1_229 : Cond.code ⟨"java/lang/IndexOutOfBoundsException", "<init>", "(Ljava/lang/String;)V"⟩ prog_10_method_2_code 2 (Option.none : Option ClassFile.FieldType) ∈ tws := tw1 (i := 229) rfl rfl
theorem k1_230 : Cond.methodLink "java/lang/IndexOutOfBoundsException" 7 ⟨"java/lang/RuntimeException", "<init>", "(Ljava/lang/String;)V"⟩ ∈ tws := tw1 (i := 230) rfl rfl
theorem k1_231 : Cond.lays "java/lang/IndexOutOfBoundsException" "java/lang/Throwable" "depth" "I" ∈ tws := tw1 (i := 231) rfl rfl
theorem k1_232 : Cond.superclass "java/lang/IndexOutOfBoundsException" "java/lang/RuntimeException" ∈ tws := tw1 (i := 232) rfl rfl
theorem k1_233 : Cond.methodLink "PairedTextsLaw" 112 yL_copy ∈ tws := tw1 (i := 233) rfl rfl
theorem k1_234 : Cond.static yL_copy ∈ tws := tw1 (i := 234) rfl rfl
theorem k1_235 : Cond.codeWith yL_copy method_6_code 7 (Option.some FieldType.int) [(0, 14, 17, 13), (0, 14, 21, 25)] ∈ tws := tw1 (i := 235) rfl rfl
theorem k1_236 : Cond.methodLink "PairedTextsLaw" 27 yP_copy ∈ tws := tw1 (i := 236) rfl rfl
theorem k1_237 : Cond.instanceMethod yP_copy ∈ tws := tw1 (i := 237) rfl rfl
theorem k1_238 : Cond.selects "PairedTexts" yP_copy yP_copy ∈ tws := tw1 (i := 238) rfl rfl
theorem k1_239 : Cond.code yP_copy prog_1_method_5_code 6 (Option.some FieldType.int) ∈ tws := tw1 (i := 239) rfl rfl
theorem k2_0 : Cond.methodLink "PairedTexts" 68 yT_hasRange ∈ tws := tw2 (i := 0) rfl rfl
theorem k2_1 : Cond.instanceMethod yT_hasRange ∈ tws := tw2 (i := 1) rfl rfl
theorem k2_2 : Cond.selects "PairedTexts$Text" yT_hasRange yT_hasRange ∈ tws := tw2 (i := 2) rfl rfl
theorem k2_3 : Cond.code yT_hasRange prog_4_method_5_code 4 (Option.some FieldType.boolean) ∈ tws := tw2 (i := 3) rfl rfl
theorem k2_4 : Cond.methodLink "PairedTexts" 72 yT_clear ∈ tws := tw2 (i := 4) rfl rfl
theorem k2_5 : Cond.instanceMethod yT_clear ∈ tws := tw2 (i := 5) rfl rfl
theorem k2_6 : Cond.selects "PairedTexts$Text" yT_clear yT_clear ∈ tws := tw2 (i := 6) rfl rfl
theorem k2_7 : Cond.code yT_clear prog_4_method_2_code 1 (Option.none : Option ClassFile.FieldType) ∈ tws := tw2 (i := 7) rfl rfl
theorem k2_8 : Cond.methodLink "PairedTexts" 75 yT_addRange ∈ tws := tw2 (i := 8) rfl rfl
theorem k2_9 : Cond.instanceMethod yT_addRange ∈ tws := tw2 (i := 9) rfl rfl
theorem k2_10 : Cond.selects "PairedTexts$Text" yT_addRange yT_addRange ∈ tws := tw2 (i := 10) rfl rfl
theorem k2_11 : Cond.code yT_addRange prog_4_method_4_code 4 (Option.none : Option ClassFile.FieldType) ∈ tws := tw2 (i := 11) rfl rfl
theorem k2_12 : Cond.methodLink "PairedTexts$Text" 19 ⟨"java/lang/System", "arraycopy", "(Ljava/lang/Object;ILjava/lang/Object;II)V"⟩ ∈ tws := tw2 (i := 12) rfl rfl
theorem k2_13 : Cond.static ⟨"java/lang/System", "arraycopy", "(Ljava/lang/Object;ILjava/lang/Object;II)V"⟩ ∈ tws := tw2 (i := 13) rfl rfl
theorem k2_14 : Cond.native ⟨"java/lang/System", "arraycopy", "(Ljava/lang/Object;ILjava/lang/Object;II)V"⟩ ∈ tws := tw2 (i := 14) rfl rfl
theorem k2_15 : Cond.methodLink "PairedTexts" 79 yP_draftBecomesTextOf ∈ tws := tw2 (i := 15) rfl rfl
theorem k2_17 : Cond.instanceMethod yP_draftBecomesTextOf ∈ tws := tw2 (i := 17) rfl rfl
theorem k2_18 : Cond.code yP_draftBecomesTextOf prog_1_method_23_code 3 (Option.some FieldType.int) ∈ tws := tw2 (i := 18) rfl rfl
theorem k2_19 : Cond.methodLink "PairedTextsLaw" 116 yL_join ∈ tws := tw2 (i := 19) rfl rfl
theorem k2_20 : Cond.static yL_join ∈ tws := tw2 (i := 20) rfl rfl
theorem k2_21 : Cond.codeWith yL_join method_7_code 6 (Option.some FieldType.int) [(0, 12, 15, 13), (0, 12, 19, 15)] ∈ tws := tw2 (i := 21) rfl rfl
theorem k2_22 : Cond.methodLink "PairedTextsLaw" 31 yP_join ∈ tws := tw2 (i := 22) rfl rfl
theorem k2_23 : Cond.instanceMethod yP_join ∈ tws := tw2 (i := 23) rfl rfl
theorem k2_24 : Cond.selects "PairedTexts" yP_join yP_join ∈ tws := tw2 (i := 24) rfl rfl
theorem k2_25 : Cond.code yP_join prog_1_method_6_code 6 (Option.some FieldType.int) ∈ tws := tw2 (i := 25) rfl rfl
theorem k2_26 : Cond.methodLink "PairedTextsLaw" 120 yL_insert ∈ tws := tw2 (i := 26) rfl rfl
theorem k2_27 : Cond.static yL_insert ∈ tws := tw2 (i := 27) rfl rfl
theorem k2_28 : Cond.codeWith yL_insert method_8_code 8 (Option.some FieldType.int) [(0, 16, 19, 13), (0, 16, 23, 25), (0, 16, 27, 15)] ∈ tws := tw2 (i := 28) rfl rfl
theorem k2_29 : Cond.methodLink "PairedTextsLaw" 35 yP_insert ∈ tws := tw2 (i := 29) rfl rfl
theorem k2_30 : Cond.instanceMethod yP_insert ∈ tws := tw2 (i := 30) rfl rfl
theorem k2_31 : Cond.selects "PairedTexts" yP_insert yP_insert ∈ tws := tw2 (i := 31) rfl rfl
theorem k2_32 : Cond.code yP_insert prog_1_method_7_code 8 (Option.some FieldType.int) ∈ tws := tw2 (i := 32) rfl rfl
theorem k2_33 : Cond.methodLink "PairedTexts" 83 yT_hasPiece ∈ tws := tw2 (i := 33) rfl rfl
theorem k2_34 : Cond.instanceMethod yT_hasPiece ∈ tws := tw2 (i := 34) rfl rfl
theorem k2_35 : Cond.selects "PairedTexts$Text" yT_hasPiece yT_hasPiece ∈ tws := tw2 (i := 35) rfl rfl
theorem k2_36 : Cond.code yT_hasPiece prog_4_method_6_code 2 (Option.some FieldType.boolean) ∈ tws := tw2 (i := 36) rfl rfl
theorem k2_37 : Cond.methodLink "PairedTextsLaw" 124 yL_delete ∈ tws := tw2 (i := 37) rfl rfl
theorem k2_38 : Cond.static yL_delete ∈ tws := tw2 (i := 38) rfl rfl
theorem k2_39 : Cond.codeWith yL_delete method_9_code 6 (Option.some FieldType.int) [(0, 12, 15, 13), (0, 12, 19, 25)] ∈ tws := tw2 (i := 39) rfl rfl
theorem k2_40 : Cond.methodLink "PairedTextsLaw" 39 yP_delete ∈ tws := tw2 (i := 40) rfl rfl
theorem k2_41 : Cond.instanceMethod yP_delete ∈ tws := tw2 (i := 41) rfl rfl
theorem k2_42 : Cond.selects "PairedTexts" yP_delete yP_delete ∈ tws := tw2 (i := 42) rfl rfl
theorem k2_43 : Cond.code yP_delete prog_1_method_8_code 5 (Option.some FieldType.int) ∈ tws := tw2 (i := 43) rfl rfl
theorem k2_44 : Cond.methodLink "PairedTextsLaw" 127 yL_move ∈ tws := tw2 (i := 44) rfl rfl
theorem k2_45 : Cond.static yL_move ∈ tws := tw2 (i := 45) rfl rfl
theorem k2_46 : Cond.codeWith yL_move method_10_code 7 (Option.some FieldType.int) [(0, 14, 17, 13), (0, 14, 21, 25)] ∈ tws := tw2 (i := 46) rfl rfl
theorem k2_47 : Cond.methodLink "PairedTextsLaw" 42 yP_move ∈ tws := tw2 (i := 47) rfl rfl
theorem k2_48 : Cond.instanceMethod yP_move ∈ tws := tw2 (i := 48) rfl rfl
theorem k2_49 : Cond.selects "PairedTexts" yP_move yP_move ∈ tws := tw2 (i := 49) rfl rfl
theorem k2_50 : Cond.code yP_move prog_1_method_9_code 7 (Option.some FieldType.int) ∈ tws := tw2 (i := 50) rfl rfl
theorem k2_51 : Cond.methodLink "PairedTextsLaw" 130 yL_repeat ∈ tws := tw2 (i := 51) rfl rfl
theorem k2_52 : Cond.static yL_repeat ∈ tws := tw2 (i := 52) rfl rfl
theorem k2_53 : Cond.codeWith yL_repeat method_11_code 7 (Option.some FieldType.int) [(0, 14, 17, 13), (0, 14, 21, 25), (0, 14, 25, 15)] ∈ tws := tw2 (i := 53) rfl rfl
theorem k2_54 : Cond.methodLink "PairedTextsLaw" 45 yP_repeat ∈ tws := tw2 (i := 54) rfl rfl
theorem k2_55 : Cond.instanceMethod yP_repeat ∈ tws := tw2 (i := 55) rfl rfl
theorem k2_56 : Cond.selects "PairedTexts" yP_repeat yP_repeat ∈ tws := tw2 (i := 56) rfl rfl
theorem k2_57 : Cond.code yP_repeat prog_1_method_10_code 10 (Option.some FieldType.int) ∈ tws := tw2 (i := 57) rfl rfl
theorem k2_58 : Cond.methodLink "PairedTextsLaw" 133 yL_same ∈ tws := tw2 (i := 58) rfl rfl
theorem k2_59 : Cond.static yL_same ∈ tws := tw2 (i := 59) rfl rfl
theorem k2_60 : Cond.codeWith yL_same method_12_code 8 (Option.some FieldType.int) [(0, 23, 26, 13), (0, 23, 30, 25)] ∈ tws := tw2 (i := 60) rfl rfl
theorem k2_61 : Cond.methodLink "PairedTextsLaw" 48 yP_same ∈ tws := tw2 (i := 61) rfl rfl
theorem k2_62 : Cond.instanceMethod yP_same ∈ tws := tw2 (i := 62) rfl rfl
theorem k2_63 : Cond.selects "PairedTexts" yP_same yP_same ∈ tws := tw2 (i := 63) rfl rfl
theorem k2_64 : Cond.code yP_same prog_1_method_11_code 8 (Option.some FieldType.boolean) ∈ tws := tw2 (i := 64) rfl rfl
theorem k2_65 : Cond.methodLink "PairedTexts" 87 yP_commonBeginning ∈ tws := tw2 (i := 65) rfl rfl
theorem k2_66 : Cond.static yP_commonBeginning ∈ tws := tw2 (i := 66) rfl rfl
theorem k2_67 : Cond.code yP_commonBeginning prog_1_method_31_code 6 (Option.some FieldType.int) ∈ tws := tw2 (i := 67) rfl rfl
theorem k2_68 : Cond.methodLink "PairedTexts" 150 ⟨"java/lang/Math", "min", "(II)I"⟩ ∈ tws := tw2 (i := 68) rfl rfl
theorem k2_69 : Cond.static ⟨"java/lang/Math", "min", "(II)I"⟩ ∈ tws := tw2 (i := 69) rfl rfl
theorem k2_70 : Cond.code ⟨"java/lang/Math", "min", "(II)I"⟩ prog_11_method_69_code 2 (Option.some FieldType.int) ∈ tws := tw2 (i := 70) rfl rfl
theorem k2_71 : Cond.methodLink "PairedTextsLaw" 136 yL_prefix ∈ tws := tw2 (i := 71) rfl rfl
theorem k2_72 : Cond.static yL_prefix ∈ tws := tw2 (i := 72) rfl rfl
theorem k2_73 : Cond.codeWith yL_prefix method_13_code 7 (Option.some FieldType.int) [(0, 14, 17, 13), (0, 14, 21, 25)] ∈ tws := tw2 (i := 73) rfl rfl
theorem k2_74 : Cond.methodLink "PairedTextsLaw" 52 yP_prefix ∈ tws := tw2 (i := 74) rfl rfl
theorem k2_75 : Cond.instanceMethod yP_prefix ∈ tws := tw2 (i := 75) rfl rfl
theorem k2_76 : Cond.selects "PairedTexts" yP_prefix yP_prefix ∈ tws := tw2 (i := 76) rfl rfl
theorem k2_77 : Cond.code yP_prefix prog_1_method_12_code 7 (Option.some FieldType.int) ∈ tws := tw2 (i := 77) rfl rfl
theorem k2_78 : Cond.methodLink "PairedTextsLaw" 139 yL_order ∈ tws := tw2 (i := 78) rfl rfl
theorem k2_79 : Cond.static yL_order ∈ tws := tw2 (i := 79) rfl rfl
theorem k2_80 : Cond.codeWith yL_order method_14_code 7 (Option.some FieldType.int) [(0, 14, 17, 13), (0, 14, 21, 25)] ∈ tws := tw2 (i := 80) rfl rfl
theorem k2_81 : Cond.methodLink "PairedTextsLaw" 55 yP_order ∈ tws := tw2 (i := 81) rfl rfl
theorem k2_82 : Cond.instanceMethod yP_order ∈ tws := tw2 (i := 82) rfl rfl
theorem k2_83 : Cond.selects "PairedTexts" yP_order yP_order ∈ tws := tw2 (i := 83) rfl rfl
theorem k2_84 : Cond.code yP_order prog_1_method_13_code 10 (Option.some FieldType.int) ∈ tws := tw2 (i := 84) rfl rfl
theorem k2_85 : Cond.methodLink "PairedTextsLaw" 142 yL_name ∈ tws := tw2 (i := 85) rfl rfl
theorem k2_86 : Cond.static yL_name ∈ tws := tw2 (i := 86) rfl rfl
theorem k2_87 : Cond.codeWith yL_name method_15_code 6 (Option.some FieldType.int) [(0, 11, 14, 13), (0, 11, 18, 25)] ∈ tws := tw2 (i := 87) rfl rfl
theorem k2_88 : Cond.methodLink "PairedTextsLaw" 58 yP_name ∈ tws := tw2 (i := 88) rfl rfl
theorem k2_89 : Cond.instanceMethod yP_name ∈ tws := tw2 (i := 89) rfl rfl
theorem k2_90 : Cond.selects "PairedTexts" yP_name yP_name ∈ tws := tw2 (i := 90) rfl rfl
theorem k2_91 : Cond.code yP_name prog_1_method_14_code 8 (Option.some FieldType.long) ∈ tws := tw2 (i := 91) rfl rfl
theorem k2_92 : Cond.methodLink "PairedTexts" 91 yP_nameWithOneMore ∈ tws := tw2 (i := 92) rfl rfl
theorem k2_93 : Cond.static yP_nameWithOneMore ∈ tws := tw2 (i := 93) rfl rfl
theorem k2_94 : Cond.code yP_nameWithOneMore prog_1_method_32_code 9 (Option.some FieldType.long) ∈ tws := tw2 (i := 94) rfl rfl
theorem k2_95 : Cond.constantLong "PairedTexts" 155 (1000003 : Int64) ∈ tws := tw2 (i := 95) rfl rfl
theorem k2_96 : Cond.constantLong "PairedTexts" 157 (2147483647 : Int64) ∈ tws := tw2 (i := 96) rfl rfl
theorem k2_97 : Cond.constantLong "PairedTexts" 159 (1073741823 : Int64) ∈ tws := tw2 (i := 97) rfl rfl
theorem k2_98 : Cond.constantLong "PairedTexts" 161 (2305843009213693951 : Int64) ∈ tws := tw2 (i := 98) rfl rfl
theorem k2_99 : Cond.methodLink "PairedTextsLaw" 145 yL_pattern ∈ tws := tw2 (i := 99) rfl rfl
theorem k2_100 : Cond.static yL_pattern ∈ tws := tw2 (i := 100) rfl rfl
theorem k2_101 : Cond.codeWith yL_pattern method_16_code 7 (Option.some FieldType.int) [(0, 8, 11, 13)] ∈ tws := tw2 (i := 101) rfl rfl
theorem k2_102 : Cond.methodLink "PairedTextsLaw" 62 yP_pattern ∈ tws := tw2 (i := 102) rfl rfl
theorem k2_103 : Cond.instanceMethod yP_pattern ∈ tws := tw2 (i := 103) rfl rfl
theorem k2_104 : Cond.selects "PairedTexts" yP_pattern yP_pattern ∈ tws := tw2 (i := 104) rfl rfl
theorem k2_105 : Cond.code yP_pattern prog_1_method_15_code 6 (Option.none : Option ClassFile.FieldType) ∈ tws := tw2 (i := 105) rfl rfl
theorem k2_106 : Cond.methodLink "PairedTexts" 95 yQ_become ∈ tws := tw2 (i := 106) rfl rfl
theorem k2_107 : Cond.instanceMethod yQ_become ∈ tws := tw2 (i := 107) rfl rfl
theorem k2_108 : Cond.selects "PairedTexts$Pattern" yQ_become yQ_become ∈ tws := tw2 (i := 108) rfl rfl
theorem k2_109 : Cond.code yQ_become prog_3_method_2_code 7 (Option.none : Option ClassFile.FieldType) ∈ tws := tw2 (i := 109) rfl rfl
theorem k2_111 : Cond.methodLink "PairedTextsLaw" 149 yL_count ∈ tws := tw2 (i := 111) rfl rfl
theorem k2_112 : Cond.static yL_count ∈ tws := tw2 (i := 112) rfl rfl
theorem k2_113 : Cond.codeWith yL_count method_17_code 6 (Option.some FieldType.int) [(0, 12, 15, 13), (0, 12, 19, 25), (0, 12, 23, 69)] ∈ tws := tw2 (i := 113) rfl rfl
theorem k2_114 : Cond.classLink "PairedTextsLaw" 69 "java/lang/IllegalStateException" ∈ tws := tw2 (i := 114) rfl rfl
theorem k2_115 : Cond.methodLink "PairedTextsLaw" 66 yP_count ∈ tws := tw2 (i := 115) rfl rfl
theorem k2_116 : Cond.instanceMethod yP_count ∈ tws := tw2 (i := 116) rfl rfl
theorem k2_117 : Cond.selects "PairedTexts" yP_count yP_count ∈ tws := tw2 (i := 117) rfl rfl
theorem k2_118 : Cond.code yP_count prog_1_method_16_code 7 (Option.some FieldType.int) ∈ tws := tw2 (i := 118) rfl rfl
theorem k2_119 : Cond.methodLink "PairedTexts" 99 yP_requirePattern ∈ tws := tw2 (i := 119) rfl rfl
theorem k2_121 : Cond.instanceMethod yP_requirePattern ∈ tws := tw2 (i := 121) rfl rfl
theorem k2_122 : Cond.code yP_requirePattern prog_1_method_29_code 1 (Option.none : Option ClassFile.FieldType) ∈ tws := tw2 (i := 122) rfl rfl
theorem k2_123 : Cond.classLink "PairedTexts" 145 "java/lang/IllegalStateException" ∈ tws := tw2 (i := 123) rfl rfl
theorem k2_124 : Cond.instantiable "java/lang/IllegalStateException" 6 ∈ tws := tw2 (i := 124) rfl rfl
theorem k2_126 : Cond.selects "java/lang/IllegalStateException" ⟨"java/lang/Throwable", "fillInStackTrace", "(I)Ljava/lang/Throwable;"⟩ ⟨"java/lang/Throwable", "fillInStackTrace", "(I)Ljava/lang/Throwable;"⟩ ∈ tws := tw2 (i := 126) rfl rfl
theorem k2_127 : Cond.lays "java/lang/IllegalStateException" "java/lang/Throwable" "cause" "Ljava/lang/Throwable;" ∈ tws := tw2 (i := 127) rfl rfl
theorem k2_128 : Cond.lays "java/lang/IllegalStateException" "java/lang/Throwable" "stackTrace" "[Ljava/lang/StackTraceElement;" ∈ tws := tw2 (i := 128) rfl rfl
theorem k2_129 : Cond.lays "java/lang/IllegalStateException" "java/lang/Throwable" "suppressedExceptions" "Ljava/util/List;" ∈ tws := tw2 (i := 129) rfl rfl
theorem k2_130 : Cond.lays "java/lang/IllegalStateException" "java/lang/Throwable" "detailMessage" "Ljava/lang/String;" ∈ tws := tw2 (i := 130) rfl rfl
theorem k2_131 : Cond.lays "java/lang/IllegalStateException" "java/lang/Throwable" "backtrace" "Ljava/lang/Object;" ∈ tws := tw2 (i := 131) rfl rfl
theorem k2_133 : Cond.methodLink "PairedTexts" 149 ⟨"java/lang/IllegalStateException", "<init>", "(Ljava/lang/String;)V"⟩ ∈ tws := tw2 (i := 133) rfl rfl
theorem k2_134 : Cond.instanceMethod ⟨"java/lang/IllegalStateException", "<init>", "(Ljava/lang/String;)V"⟩ ∈ tws := tw2 (i := 134) rfl rfl
theorem k2_135 : Cond.code ⟨"java/lang/IllegalStateException", "<init>", "(Ljava/lang/String;)V"⟩ prog_9_method_2_code 2 (Option.none : Option ClassFile.FieldType) ∈ tws := tw2 (i := 135) rfl rfl
theorem k2_136 : Cond.methodLink "java/lang/IllegalStateException" 7 ⟨"java/lang/RuntimeException", "<init>", "(Ljava/lang/String;)V"⟩ ∈ tws := tw2 (i := 136) rfl rfl
theorem k2_137 : Cond.lays "java/lang/IllegalStateException" "java/lang/Throwable" "depth" "I" ∈ tws := tw2 (i := 137) rfl rfl
theorem k2_138 : Cond.superclass "java/lang/IllegalStateException" "java/lang/RuntimeException" ∈ tws := tw2 (i := 138) rfl rfl
theorem k2_139 : Cond.methodLink "PairedTexts" 102 yQ_standsAt ∈ tws := tw2 (i := 139) rfl rfl
theorem k2_140 : Cond.instanceMethod yQ_standsAt ∈ tws := tw2 (i := 140) rfl rfl
theorem k2_141 : Cond.selects "PairedTexts$Pattern" yQ_standsAt yQ_standsAt ∈ tws := tw2 (i := 141) rfl rfl
theorem k2_142 : Cond.code yQ_standsAt prog_3_method_3_code 5 (Option.some FieldType.boolean) ∈ tws := tw2 (i := 142) rfl rfl
theorem k2_143 : Cond.methodLink "PairedTextsLaw" 152 yL_find ∈ tws := tw2 (i := 143) rfl rfl
theorem k2_144 : Cond.static yL_find ∈ tws := tw2 (i := 144) rfl rfl
theorem k2_145 : Cond.codeWith yL_find method_18_code 6 (Option.some FieldType.int) [(0, 12, 15, 13), (0, 12, 19, 25), (0, 12, 23, 69)] ∈ tws := tw2 (i := 145) rfl rfl
theorem k2_146 : Cond.methodLink "PairedTextsLaw" 71 yP_find ∈ tws := tw2 (i := 146) rfl rfl
theorem k2_147 : Cond.instanceMethod yP_find ∈ tws := tw2 (i := 147) rfl rfl
theorem k2_148 : Cond.selects "PairedTexts" yP_find yP_find ∈ tws := tw2 (i := 148) rfl rfl
theorem k2_149 : Cond.code yP_find prog_1_method_17_code 7 (Option.some FieldType.int) ∈ tws := tw2 (i := 149) rfl rfl
theorem k2_150 : Cond.methodLink "PairedTextsLaw" 155 yL_lead ∈ tws := tw2 (i := 150) rfl rfl
theorem k2_151 : Cond.static yL_lead ∈ tws := tw2 (i := 151) rfl rfl
theorem k2_152 : Cond.codeWith yL_lead method_19_code 6 (Option.some FieldType.int) [(0, 9, 12, 13)] ∈ tws := tw2 (i := 152) rfl rfl
theorem k2_153 : Cond.methodLink "PairedTextsLaw" 74 yP_lead ∈ tws := tw2 (i := 153) rfl rfl
theorem k2_154 : Cond.instanceMethod yP_lead ∈ tws := tw2 (i := 154) rfl rfl
theorem k2_155 : Cond.selects "PairedTexts" yP_lead yP_lead ∈ tws := tw2 (i := 155) rfl rfl
theorem k2_156 : Cond.code yP_lead prog_1_method_18_code 6 (Option.none : Option ClassFile.FieldType) ∈ tws := tw2 (i := 156) rfl rfl
theorem k2_157 : Cond.methodLink "PairedTexts" 106 yP_requireState ∈ tws := tw2 (i := 157) rfl rfl
theorem k2_158 : Cond.static yP_requireState ∈ tws := tw2 (i := 158) rfl rfl
theorem k2_159 : Cond.code yP_requireState prog_1_method_25_code 1 (Option.none : Option ClassFile.FieldType) ∈ tws := tw2 (i := 159) rfl rfl
theorem k2_161 : Cond.methodLink "PairedTexts" 109 yA_setNext ∈ tws := tw2 (i := 161) rfl rfl
theorem k2_162 : Cond.instanceMethod yA_setNext ∈ tws := tw2 (i := 162) rfl rfl
theorem k2_163 : Cond.selects "PairedTexts$Automaton" yA_setNext yA_setNext ∈ tws := tw2 (i := 163) rfl rfl
theorem k2_164 : Cond.code yA_setNext prog_2_method_3_code 4 (Option.none : Option ClassFile.FieldType) ∈ tws := tw2 (i := 164) rfl rfl
theorem k2_165 : Cond.methodLink "PairedTextsLaw" 159 yL_accept ∈ tws := tw2 (i := 165) rfl rfl
theorem k2_166 : Cond.static yL_accept ∈ tws := tw2 (i := 166) rfl rfl
theorem k2_167 : Cond.codeWith yL_accept method_20_code 4 (Option.some FieldType.int) [(0, 6, 9, 13)] ∈ tws := tw2 (i := 167) rfl rfl
theorem k2_168 : Cond.methodLink "PairedTextsLaw" 78 yP_accept ∈ tws := tw2 (i := 168) rfl rfl
theorem k2_169 : Cond.instanceMethod yP_accept ∈ tws := tw2 (i := 169) rfl rfl
theorem k2_170 : Cond.selects "PairedTexts" yP_accept yP_accept ∈ tws := tw2 (i := 170) rfl rfl
theorem k2_171 : Cond.code yP_accept prog_1_method_19_code 3 (Option.none : Option ClassFile.FieldType) ∈ tws := tw2 (i := 171) rfl rfl
theorem k2_172 : Cond.methodLink "PairedTextsLaw" 163 yL_run ∈ tws := tw2 (i := 172) rfl rfl
theorem k2_173 : Cond.static yL_run ∈ tws := tw2 (i := 173) rfl rfl
theorem k2_174 : Cond.codeWith yL_run method_21_code 7 (Option.some FieldType.int) [(0, 14, 17, 13), (0, 14, 21, 25)] ∈ tws := tw2 (i := 174) rfl rfl
theorem k2_175 : Cond.methodLink "PairedTextsLaw" 82 yP_run ∈ tws := tw2 (i := 175) rfl rfl
theorem k2_176 : Cond.instanceMethod yP_run ∈ tws := tw2 (i := 176) rfl rfl
theorem k2_177 : Cond.selects "PairedTexts" yP_run yP_run ∈ tws := tw2 (i := 177) rfl rfl
theorem k2_178 : Cond.code yP_run prog_1_method_20_code 8 (Option.some FieldType.int) ∈ tws := tw2 (i := 178) rfl rfl
theorem k2_179 : Cond.methodLink "PairedTexts" 117 yA_nextOf ∈ tws := tw2 (i := 179) rfl rfl
theorem k2_180 : Cond.instanceMethod yA_nextOf ∈ tws := tw2 (i := 180) rfl rfl
theorem k2_181 : Cond.selects "PairedTexts$Automaton" yA_nextOf yA_nextOf ∈ tws := tw2 (i := 181) rfl rfl
theorem k2_182 : Cond.code yA_nextOf prog_2_method_2_code 3 (Option.some FieldType.int) ∈ tws := tw2 (i := 182) rfl rfl
theorem k2_183 : Cond.methodLink "PairedTextsLaw" 166 yL_accepted ∈ tws := tw2 (i := 183) rfl rfl
theorem k2_184 : Cond.static yL_accepted ∈ tws := tw2 (i := 184) rfl rfl
theorem k2_185 : Cond.codeWith yL_accepted method_22_code 7 (Option.some FieldType.int) [(0, 14, 17, 13), (0, 14, 21, 25)] ∈ tws := tw2 (i := 185) rfl rfl
theorem k2_186 : Cond.methodLink "PairedTextsLaw" 85 yP_accepted ∈ tws := tw2 (i := 186) rfl rfl
theorem k2_187 : Cond.instanceMethod yP_accepted ∈ tws := tw2 (i := 187) rfl rfl
theorem k2_188 : Cond.selects "PairedTexts" yP_accepted yP_accepted ∈ tws := tw2 (i := 188) rfl rfl
theorem k2_189 : Cond.code yP_accepted prog_1_method_21_code 9 (Option.some FieldType.int) ∈ tws := tw2 (i := 189) rfl rfl
theorem k2_190 : Cond.classLink "PairedTextsLaw" 89 "PairedTextsModel" ∈ tws := tw2 (i := 190) rfl rfl
theorem k2_191 : Cond.instantiable "PairedTextsModel" 11 ∈ tws := tw2 (i := 191) rfl rfl
theorem k2_192 : Cond.methodLink "PairedTextsLaw" 91 yM_init ∈ tws := tw2 (i := 192) rfl rfl
theorem k2_193 : Cond.instanceMethod yM_init ∈ tws := tw2 (i := 193) rfl rfl
theorem k2_194 : Cond.code yM_init prog_6_method_1_code 1 (Option.none : Option ClassFile.FieldType) ∈ tws := tw2 (i := 194) rfl rfl
theorem k2_195 : Cond.methodLink "PairedTextsModel" 1 objectInit ∈ tws := tw2 (i := 195) rfl rfl
theorem k2_196 : Cond.fieldLink "PairedTextsModel" 29 "PairedTextsModel" "code" "I" ∈ tws := tw2 (i := 196) rfl rfl
theorem k2_197 : Cond.fieldLink "PairedTextsModel" 7 "PairedTextsModel" "texts" "[I" ∈ tws := tw2 (i := 197) rfl rfl
theorem k2_198 : Cond.fieldLink "PairedTextsModel" 13 "PairedTextsModel" "sizes" "[I" ∈ tws := tw2 (i := 198) rfl rfl
theorem k2_199 : Cond.fieldLink "PairedTextsModel" 16 "PairedTextsModel" "draft" "[I" ∈ tws := tw2 (i := 199) rfl rfl
theorem k2_200 : Cond.fieldLink "PairedTextsModel" 33 "PairedTextsModel" "drafted" "I" ∈ tws := tw2 (i := 200) rfl rfl
theorem k2_201 : Cond.fieldLink "PairedTextsModel" 84 "PairedTextsModel" "patternSize" "I" ∈ tws := tw2 (i := 201) rfl rfl
theorem k2_202 : Cond.fieldLink "PairedTextsModel" 19 "PairedTextsModel" "pattern" "[I" ∈ tws := tw2 (i := 202) rfl rfl
theorem k2_203 : Cond.fieldLink "PairedTextsModel" 22 "PairedTextsModel" "next" "[I" ∈ tws := tw2 (i := 203) rfl rfl
theorem k2_204 : Cond.fieldLink "PairedTextsModel" 25 "PairedTextsModel" "accepts" "[Z" ∈ tws := tw2 (i := 204) rfl rfl
theorem k2_205 : Cond.fieldLink "PairedTextsModel" 90 "PairedTextsModel" "state" "I" ∈ tws := tw2 (i := 205) rfl rfl
theorem k2_206 : Cond.fieldLink "PairedTextsModel" 93 "PairedTextsModel" "many" "I" ∈ tws := tw2 (i := 206) rfl rfl
theorem k2_207 : Cond.lays "PairedTextsModel" "PairedTextsModel" "code" "I" ∈ tws := tw2 (i := 207) rfl rfl
theorem k2_208 : Cond.soleField "PairedTextsModel" "code" ∈ tws := tw2 (i := 208) rfl rfl
theorem k2_209 : Cond.laysFinal "PairedTextsModel" "PairedTextsModel" "texts" "[I" ∈ tws := tw2 (i := 209) rfl rfl
theorem k2_210 : Cond.soleField "PairedTextsModel" "texts" ∈ tws := tw2 (i := 210) rfl rfl
theorem k2_211 : Cond.laysFinal "PairedTextsModel" "PairedTextsModel" "sizes" "[I" ∈ tws := tw2 (i := 211) rfl rfl
theorem k2_212 : Cond.soleField "PairedTextsModel" "sizes" ∈ tws := tw2 (i := 212) rfl rfl
theorem k2_213 : Cond.laysFinal "PairedTextsModel" "PairedTextsModel" "draft" "[I" ∈ tws := tw2 (i := 213) rfl rfl
theorem k2_214 : Cond.soleField "PairedTextsModel" "draft" ∈ tws := tw2 (i := 214) rfl rfl
theorem k2_215 : Cond.lays "PairedTextsModel" "PairedTextsModel" "drafted" "I" ∈ tws := tw2 (i := 215) rfl rfl
theorem k2_216 : Cond.soleField "PairedTextsModel" "drafted" ∈ tws := tw2 (i := 216) rfl rfl
theorem k2_217 : Cond.lays "PairedTextsModel" "PairedTextsModel" "patternSize" "I" ∈ tws := tw2 (i := 217) rfl rfl
theorem k2_218 : Cond.soleField "PairedTextsModel" "patternSize" ∈ tws := tw2 (i := 218) rfl rfl
theorem k2_219 : Cond.laysFinal "PairedTextsModel" "PairedTextsModel" "pattern" "[I" ∈ tws := tw2 (i := 219) rfl rfl
theorem k2_220 : Cond.soleField "PairedTextsModel" "pattern" ∈ tws := tw2 (i := 220) rfl rfl
theorem k2_221 : Cond.laysFinal "PairedTextsModel" "PairedTextsModel" "next" "[I" ∈ tws := tw2 (i := 221) rfl rfl
theorem k2_222 : Cond.soleField "PairedTextsModel" "next" ∈ tws := tw2 (i := 222) rfl rfl
theorem k2_223 : Cond.laysFinal "PairedTextsModel" "PairedTextsModel" "accepts" "[Z" ∈ tws := tw2 (i := 223) rfl rfl
theorem k2_224 : Cond.soleField "PairedTextsModel" "accepts" ∈ tws := tw2 (i := 224) rfl rfl
theorem k2_225 : Cond.lays "PairedTextsModel" "PairedTextsModel" "state" "I" ∈ tws := tw2 (i := 225) rfl rfl
theorem k2_226 : Cond.soleField "PairedTextsModel" "state" ∈ tws := tw2 (i := 226) rfl rfl
theorem k2_227 : Cond.lays "PairedTextsModel" "PairedTextsModel" "many" "I" ∈ tws := tw2 (i := 227) rfl rfl
theorem k2_228 : Cond.soleField "PairedTextsModel" "many" ∈ tws := tw2 (i := 228) rfl rfl
theorem k2_229 : Cond.superclass "PairedTextsModel" "java/lang/Object" ∈ tws := tw2 (i := 229) rfl rfl
theorem k2_230 : Cond.methodLink "PairedTextsLaw" 100 yM_thrown ∈ tws := tw2 (i := 230) rfl rfl
theorem k2_231 : Cond.instanceMethod yM_thrown ∈ tws := tw2 (i := 231) rfl rfl
theorem k2_232 : Cond.selects "PairedTextsModel" yM_thrown yM_thrown ∈ tws := tw2 (i := 232) rfl rfl
theorem k2_233 : Cond.code yM_thrown prog_6_method_2_code 1 (Option.some FieldType.int) ∈ tws := tw2 (i := 233) rfl rfl
theorem k2_234 : Cond.methodLink "PairedTextsLaw" 99 yM_write ∈ tws := tw2 (i := 234) rfl rfl
theorem k2_235 : Cond.instanceMethod yM_write ∈ tws := tw2 (i := 235) rfl rfl
theorem k2_236 : Cond.selects "PairedTextsModel" yM_write yM_write ∈ tws := tw2 (i := 236) rfl rfl
theorem k2_237 : Cond.code yM_write prog_6_method_7_code 6 (Option.some FieldType.int) ∈ tws := tw2 (i := 237) rfl rfl
theorem k2_238 : Cond.methodLink "PairedTextsModel" 36 yM_isDocument ∈ tws := tw2 (i := 238) rfl rfl
theorem k2_239 : Cond.static yM_isDocument ∈ tws := tw2 (i := 239) rfl rfl
theorem k3_0 : Cond.code yM_isDocument prog_6_method_3_code 1 (Option.some FieldType.boolean) ∈ tws := tw3 (i := 0) rfl rfl
theorem k3_1 : Cond.constantLong "PairedTextsModel" 40 (255 : Int64) ∈ tws := tw3 (i := 1) rfl rfl
theorem k3_2 : Cond.methodLink "PairedTextsLaw" 107 yM_length ∈ tws := tw3 (i := 2) rfl rfl
theorem k3_3 : Cond.instanceMethod yM_length ∈ tws := tw3 (i := 3) rfl rfl
theorem k3_4 : Cond.selects "PairedTextsModel" yM_length yM_length ∈ tws := tw3 (i := 4) rfl rfl
theorem k3_5 : Cond.code yM_length prog_6_method_8_code 2 (Option.some FieldType.int) ∈ tws := tw3 (i := 5) rfl rfl
theorem k3_6 : Cond.methodLink "PairedTextsLaw" 111 yM_byteAt ∈ tws := tw3 (i := 6) rfl rfl
theorem k3_7 : Cond.instanceMethod yM_byteAt ∈ tws := tw3 (i := 7) rfl rfl
theorem k3_8 : Cond.selects "PairedTextsModel" yM_byteAt yM_byteAt ∈ tws := tw3 (i := 8) rfl rfl
theorem k3_9 : Cond.code yM_byteAt prog_6_method_9_code 3 (Option.some FieldType.int) ∈ tws := tw3 (i := 9) rfl rfl
theorem k3_10 : Cond.methodLink "PairedTextsLaw" 115 yM_copy ∈ tws := tw3 (i := 10) rfl rfl
theorem k3_11 : Cond.instanceMethod yM_copy ∈ tws := tw3 (i := 11) rfl rfl
theorem k3_12 : Cond.selects "PairedTextsModel" yM_copy yM_copy ∈ tws := tw3 (i := 12) rfl rfl
theorem k3_13 : Cond.code yM_copy prog_6_method_10_code 5 (Option.some FieldType.int) ∈ tws := tw3 (i := 13) rfl rfl
theorem k3_14 : Cond.methodLink "PairedTextsModel" 42 yM_isRange ∈ tws := tw3 (i := 14) rfl rfl
theorem k3_16 : Cond.instanceMethod yM_isRange ∈ tws := tw3 (i := 16) rfl rfl
theorem k3_17 : Cond.code yM_isRange prog_6_method_4_code 4 (Option.some FieldType.boolean) ∈ tws := tw3 (i := 17) rfl rfl
theorem k3_18 : Cond.methodLink "PairedTextsModel" 46 yM_add ∈ tws := tw3 (i := 18) rfl rfl
theorem k3_20 : Cond.instanceMethod yM_add ∈ tws := tw3 (i := 20) rfl rfl
theorem k3_21 : Cond.code yM_add prog_6_method_5_code 5 (Option.none : Option ClassFile.FieldType) ∈ tws := tw3 (i := 21) rfl rfl
theorem k3_22 : Cond.methodLink "PairedTextsModel" 50 yM_become ∈ tws := tw3 (i := 22) rfl rfl
theorem k3_24 : Cond.instanceMethod yM_become ∈ tws := tw3 (i := 24) rfl rfl
theorem k3_25 : Cond.code yM_become prog_6_method_6_code 3 (Option.some FieldType.int) ∈ tws := tw3 (i := 25) rfl rfl
theorem k3_26 : Cond.methodLink "PairedTextsLaw" 119 yM_join ∈ tws := tw3 (i := 26) rfl rfl
theorem k3_27 : Cond.instanceMethod yM_join ∈ tws := tw3 (i := 27) rfl rfl
theorem k3_28 : Cond.selects "PairedTextsModel" yM_join yM_join ∈ tws := tw3 (i := 28) rfl rfl
theorem k3_29 : Cond.code yM_join prog_6_method_11_code 4 (Option.some FieldType.int) ∈ tws := tw3 (i := 29) rfl rfl
theorem k3_30 : Cond.methodLink "PairedTextsLaw" 123 yM_insert ∈ tws := tw3 (i := 30) rfl rfl
theorem k3_31 : Cond.instanceMethod yM_insert ∈ tws := tw3 (i := 31) rfl rfl
theorem k3_32 : Cond.selects "PairedTextsModel" yM_insert yM_insert ∈ tws := tw3 (i := 32) rfl rfl
theorem k3_33 : Cond.code yM_insert prog_6_method_12_code 6 (Option.some FieldType.int) ∈ tws := tw3 (i := 33) rfl rfl
theorem k3_34 : Cond.methodLink "PairedTextsLaw" 126 yM_delete ∈ tws := tw3 (i := 34) rfl rfl
theorem k3_35 : Cond.instanceMethod yM_delete ∈ tws := tw3 (i := 35) rfl rfl
theorem k3_36 : Cond.selects "PairedTextsModel" yM_delete yM_delete ∈ tws := tw3 (i := 36) rfl rfl
theorem k3_37 : Cond.code yM_delete prog_6_method_13_code 4 (Option.some FieldType.int) ∈ tws := tw3 (i := 37) rfl rfl
theorem k3_38 : Cond.methodLink "PairedTextsLaw" 129 yM_move ∈ tws := tw3 (i := 38) rfl rfl
theorem k3_39 : Cond.instanceMethod yM_move ∈ tws := tw3 (i := 39) rfl rfl
theorem k3_40 : Cond.selects "PairedTextsModel" yM_move yM_move ∈ tws := tw3 (i := 40) rfl rfl
theorem k3_41 : Cond.code yM_move prog_6_method_15_code 5 (Option.some FieldType.int) ∈ tws := tw3 (i := 41) rfl rfl
theorem k3_42 : Cond.methodLink "PairedTextsModel" 54 yM_addRest ∈ tws := tw3 (i := 42) rfl rfl
theorem k3_44 : Cond.instanceMethod yM_addRest ∈ tws := tw3 (i := 44) rfl rfl
theorem k3_45 : Cond.code yM_addRest prog_6_method_14_code 8 (Option.none : Option ClassFile.FieldType) ∈ tws := tw3 (i := 45) rfl rfl
theorem k3_46 : Cond.methodLink "PairedTextsLaw" 132 yM_repeat ∈ tws := tw3 (i := 46) rfl rfl
theorem k3_47 : Cond.instanceMethod yM_repeat ∈ tws := tw3 (i := 47) rfl rfl
theorem k3_48 : Cond.selects "PairedTextsModel" yM_repeat yM_repeat ∈ tws := tw3 (i := 48) rfl rfl
theorem k3_49 : Cond.code yM_repeat prog_6_method_16_code 6 (Option.some FieldType.int) ∈ tws := tw3 (i := 49) rfl rfl
theorem k3_50 : Cond.constantLong "PairedTextsModel" 58 (1000 : Int64) ∈ tws := tw3 (i := 50) rfl rfl
theorem k3_51 : Cond.methodLink "PairedTextsLaw" 135 yM_same ∈ tws := tw3 (i := 51) rfl rfl
theorem k3_52 : Cond.instanceMethod yM_same ∈ tws := tw3 (i := 52) rfl rfl
theorem k3_53 : Cond.selects "PairedTextsModel" yM_same yM_same ∈ tws := tw3 (i := 53) rfl rfl
theorem k3_54 : Cond.code yM_same prog_6_method_18_code 6 (Option.some FieldType.boolean) ∈ tws := tw3 (i := 54) rfl rfl
theorem k3_55 : Cond.methodLink "PairedTextsModel" 60 yM_common ∈ tws := tw3 (i := 55) rfl rfl
theorem k3_57 : Cond.instanceMethod yM_common ∈ tws := tw3 (i := 57) rfl rfl
theorem k3_58 : Cond.code yM_common prog_6_method_17_code 6 (Option.some FieldType.int) ∈ tws := tw3 (i := 58) rfl rfl
theorem k3_59 : Cond.methodLink "PairedTextsLaw" 138 yM_prefix ∈ tws := tw3 (i := 59) rfl rfl
theorem k3_60 : Cond.instanceMethod yM_prefix ∈ tws := tw3 (i := 60) rfl rfl
theorem k3_61 : Cond.selects "PairedTextsModel" yM_prefix yM_prefix ∈ tws := tw3 (i := 61) rfl rfl
theorem k3_62 : Cond.code yM_prefix prog_6_method_20_code 6 (Option.some FieldType.int) ∈ tws := tw3 (i := 62) rfl rfl
theorem k3_63 : Cond.methodLink "PairedTextsModel" 64 yM_pieces ∈ tws := tw3 (i := 63) rfl rfl
theorem k3_64 : Cond.static yM_pieces ∈ tws := tw3 (i := 64) rfl rfl
theorem k3_65 : Cond.code yM_pieces prog_6_method_19_code 5 (Option.some FieldType.int) ∈ tws := tw3 (i := 65) rfl rfl
theorem k3_66 : Cond.methodLink "PairedTextsLaw" 141 yM_order ∈ tws := tw3 (i := 66) rfl rfl
theorem k3_67 : Cond.instanceMethod yM_order ∈ tws := tw3 (i := 67) rfl rfl
theorem k3_68 : Cond.selects "PairedTextsModel" yM_order yM_order ∈ tws := tw3 (i := 68) rfl rfl
theorem k3_69 : Cond.code yM_order prog_6_method_21_code 9 (Option.some FieldType.int) ∈ tws := tw3 (i := 69) rfl rfl
theorem k3_70 : Cond.methodLink "PairedTextsLaw" 144 yM_name ∈ tws := tw3 (i := 70) rfl rfl
theorem k3_71 : Cond.instanceMethod yM_name ∈ tws := tw3 (i := 71) rfl rfl
theorem k3_72 : Cond.selects "PairedTextsModel" yM_name yM_name ∈ tws := tw3 (i := 72) rfl rfl
theorem k3_73 : Cond.code yM_name prog_6_method_24_code 7 (Option.some FieldType.long) ∈ tws := tw3 (i := 73) rfl rfl
theorem k3_74 : Cond.methodLink "PairedTextsModel" 80 yM_times ∈ tws := tw3 (i := 74) rfl rfl
theorem k3_75 : Cond.static yM_times ∈ tws := tw3 (i := 75) rfl rfl
theorem k3_76 : Cond.code yM_times prog_6_method_23_code 10 (Option.some FieldType.long) ∈ tws := tw3 (i := 76) rfl rfl
theorem k3_77 : Cond.constantLong "PairedTextsModel" 70 (1000003 : Int64) ∈ tws := tw3 (i := 77) rfl rfl
theorem k3_78 : Cond.constantLong "PairedTextsModel" 72 (1099511627775 : Int64) ∈ tws := tw3 (i := 78) rfl rfl
theorem k3_79 : Cond.constantLong "PairedTextsModel" 74 (2097151 : Int64) ∈ tws := tw3 (i := 79) rfl rfl
theorem k3_80 : Cond.constantLong "PairedTextsModel" 68 (2305843009213693951 : Int64) ∈ tws := tw3 (i := 80) rfl rfl
theorem k3_81 : Cond.methodLink "PairedTextsModel" 76 yM_sum ∈ tws := tw3 (i := 81) rfl rfl
theorem k3_82 : Cond.static yM_sum ∈ tws := tw3 (i := 82) rfl rfl
theorem k3_83 : Cond.code yM_sum prog_6_method_22_code 6 (Option.some FieldType.long) ∈ tws := tw3 (i := 83) rfl rfl
theorem k3_84 : Cond.methodLink "PairedTextsLaw" 148 yM_pattern ∈ tws := tw3 (i := 84) rfl rfl
theorem k3_85 : Cond.instanceMethod yM_pattern ∈ tws := tw3 (i := 85) rfl rfl
theorem k3_86 : Cond.selects "PairedTextsModel" yM_pattern yM_pattern ∈ tws := tw3 (i := 86) rfl rfl
theorem k3_87 : Cond.code yM_pattern prog_6_method_25_code 7 (Option.none : Option ClassFile.FieldType) ∈ tws := tw3 (i := 87) rfl rfl
theorem k3_88 : Cond.methodLink "PairedTextsLaw" 151 yM_count ∈ tws := tw3 (i := 88) rfl rfl
theorem k3_89 : Cond.instanceMethod yM_count ∈ tws := tw3 (i := 89) rfl rfl
theorem k3_90 : Cond.selects "PairedTextsModel" yM_count yM_count ∈ tws := tw3 (i := 90) rfl rfl
theorem k3_91 : Cond.code yM_count prog_6_method_27_code 6 (Option.some FieldType.int) ∈ tws := tw3 (i := 91) rfl rfl
theorem k3_92 : Cond.methodLink "PairedTextsModel" 87 yM_stands ∈ tws := tw3 (i := 92) rfl rfl
theorem k3_94 : Cond.instanceMethod yM_stands ∈ tws := tw3 (i := 94) rfl rfl
theorem k3_95 : Cond.code yM_stands prog_6_method_26_code 6 (Option.some FieldType.boolean) ∈ tws := tw3 (i := 95) rfl rfl
theorem k3_96 : Cond.methodLink "PairedTextsLaw" 154 yM_find ∈ tws := tw3 (i := 96) rfl rfl
theorem k3_97 : Cond.instanceMethod yM_find ∈ tws := tw3 (i := 97) rfl rfl
theorem k3_98 : Cond.selects "PairedTextsModel" yM_find yM_find ∈ tws := tw3 (i := 98) rfl rfl
theorem k3_99 : Cond.code yM_find prog_6_method_28_code 6 (Option.some FieldType.int) ∈ tws := tw3 (i := 99) rfl rfl
theorem k3_100 : Cond.methodLink "PairedTextsLaw" 158 yM_lead ∈ tws := tw3 (i := 100) rfl rfl
theorem k3_101 : Cond.instanceMethod yM_lead ∈ tws := tw3 (i := 101) rfl rfl
theorem k3_102 : Cond.selects "PairedTextsModel" yM_lead yM_lead ∈ tws := tw3 (i := 102) rfl rfl
theorem k3_103 : Cond.code yM_lead prog_6_method_29_code 6 (Option.none : Option ClassFile.FieldType) ∈ tws := tw3 (i := 103) rfl rfl
theorem k3_104 : Cond.methodLink "PairedTextsLaw" 162 yM_accept ∈ tws := tw3 (i := 104) rfl rfl
theorem k3_105 : Cond.instanceMethod yM_accept ∈ tws := tw3 (i := 105) rfl rfl
theorem k3_106 : Cond.selects "PairedTextsModel" yM_accept yM_accept ∈ tws := tw3 (i := 106) rfl rfl
theorem k3_107 : Cond.code yM_accept prog_6_method_30_code 3 (Option.none : Option ClassFile.FieldType) ∈ tws := tw3 (i := 107) rfl rfl
theorem k3_108 : Cond.methodLink "PairedTextsLaw" 165 yM_run ∈ tws := tw3 (i := 108) rfl rfl
theorem k3_109 : Cond.instanceMethod yM_run ∈ tws := tw3 (i := 109) rfl rfl
theorem k3_110 : Cond.selects "PairedTextsModel" yM_run yM_run ∈ tws := tw3 (i := 110) rfl rfl
theorem k3_111 : Cond.code yM_run prog_6_method_32_code 5 (Option.some FieldType.int) ∈ tws := tw3 (i := 111) rfl rfl
theorem k3_112 : Cond.methodLink "PairedTextsModel" 96 yM_read ∈ tws := tw3 (i := 112) rfl rfl
theorem k3_114 : Cond.instanceMethod yM_read ∈ tws := tw3 (i := 114) rfl rfl
theorem k3_115 : Cond.code yM_read prog_6_method_31_code 6 (Option.none : Option ClassFile.FieldType) ∈ tws := tw3 (i := 115) rfl rfl
theorem k3_116 : Cond.methodLink "PairedTextsLaw" 168 yM_accepted ∈ tws := tw3 (i := 116) rfl rfl
theorem k3_117 : Cond.instanceMethod yM_accepted ∈ tws := tw3 (i := 117) rfl rfl
theorem k3_118 : Cond.selects "PairedTextsModel" yM_accepted yM_accepted ∈ tws := tw3 (i := 118) rfl rfl
theorem k3_119 : Cond.code yM_accepted prog_6_method_33_code 5 (Option.some FieldType.int) ∈ tws := tw3 (i := 119) rfl rfl
theorem k3_120 : Cond.constantLong "PairedTextsLaw" 92 (4294967295 : Int64) ∈ tws := tw3 (i := 120) rfl rfl
theorem k3_121 : Cond.arrayClass FieldType.long ∈ tws := tw3 (i := 121) rfl rfl
theorem k3_122 : Cond.sameMethod "java/lang/Throwable" "java/lang/Throwable" "fillInStackTrace" "(I)Ljava/lang/Throwable;" ∈ tws := tw3 (i := 122) rfl rfl
theorem k0_0 : Cond.selects "PairedTexts" yP_textOf yP_textOf ∈ tws := tw0 (i := 0) rfl rfl
theorem k0_2 : Cond.selects "PairedTexts" yP_draftBecomesTextOf yP_draftBecomesTextOf ∈ tws := tw0 (i := 2) rfl rfl
theorem k0_3 : Cond.selects "PairedTexts" yP_requirePattern yP_requirePattern ∈ tws := tw0 (i := 3) rfl rfl
theorem k0_4 : Cond.selects "PairedTextsModel" yM_isRange yM_isRange ∈ tws := tw0 (i := 4) rfl rfl
theorem k0_5 : Cond.selects "PairedTextsModel" yM_add yM_add ∈ tws := tw0 (i := 5) rfl rfl
theorem k0_6 : Cond.selects "PairedTextsModel" yM_become yM_become ∈ tws := tw0 (i := 6) rfl rfl
theorem k0_7 : Cond.selects "PairedTextsModel" yM_addRest yM_addRest ∈ tws := tw0 (i := 7) rfl rfl
theorem k0_8 : Cond.selects "PairedTextsModel" yM_common yM_common ∈ tws := tw0 (i := 8) rfl rfl
theorem k0_9 : Cond.selects "PairedTextsModel" yM_stands yM_stands ∈ tws := tw0 (i := 9) rfl rfl
theorem k0_10 : Cond.selects "PairedTextsModel" yM_read yM_read ∈ tws := tw0 (i := 10) rfl rfl
theorem iP : ∀ w ∈ u_ws "PairedTexts" FP 4, w ∈ tws := by
  intro w hw
  have hw : w ∈ ([Cond.laysFinal "PairedTexts" "PairedTexts" "texts" "[LPairedTexts$Text;", Cond.laysFinal "PairedTexts" "PairedTexts" "sought" "LPairedTexts$Pattern;", Cond.laysFinal "PairedTexts" "PairedTexts" "automaton" "LPairedTexts$Automaton;", Cond.lays "PairedTexts" "PairedTexts" "draft" "LPairedTexts$Text;"] : List Cond) := hw
  simp only [List.mem_cons, List.not_mem_nil, or_false] at hw
  rcases hw with rfl | rfl | rfl | rfl
  · exact k1_74
  · exact k1_76
  · exact k1_78
  · exact k1_80
theorem iT : ∀ w ∈ u_ws "PairedTexts$Text" FT 2, w ∈ tws := by
  intro w hw
  have hw : w ∈ ([Cond.laysFinal "PairedTexts$Text" "PairedTexts$Text" "bytes" "[I", Cond.lays "PairedTexts$Text" "PairedTexts$Text" "size" "I"] : List Cond) := hw
  simp only [List.mem_cons, List.not_mem_nil, or_false] at hw
  rcases hw with rfl | rfl
  · exact k1_35
  · exact k1_37
theorem iQ : ∀ w ∈ u_ws "PairedTexts$Pattern" FQ 2, w ∈ tws := by
  intro w hw
  have hw : w ∈ ([Cond.laysFinal "PairedTexts$Pattern" "PairedTexts$Pattern" "bytes" "[I", Cond.lays "PairedTexts$Pattern" "PairedTexts$Pattern" "size" "I"] : List Cond) := hw
  simp only [List.mem_cons, List.not_mem_nil, or_false] at hw
  rcases hw with rfl | rfl
  · exact k1_50
  · exact k1_52
theorem iA : ∀ w ∈ u_ws "PairedTexts$Automaton" FA 2, w ∈ tws := by
  intro w hw
  have hw : w ∈ ([Cond.laysFinal "PairedTexts$Automaton" "PairedTexts$Automaton" "next" "[I", Cond.laysFinal "PairedTexts$Automaton" "PairedTexts$Automaton" "accepting" "[Z"] : List Cond) := hw
  simp only [List.mem_cons, List.not_mem_nil, or_false] at hw
  rcases hw with rfl | rfl
  · exact k1_64
  · exact k1_66
theorem iM : ∀ w ∈ u_ws "PairedTextsModel" FM 11, w ∈ tws := by
  intro w hw
  have hw : w ∈ ([Cond.lays "PairedTextsModel" "PairedTextsModel" "code" "I", Cond.laysFinal "PairedTextsModel" "PairedTextsModel" "texts" "[I", Cond.laysFinal "PairedTextsModel" "PairedTextsModel" "sizes" "[I", Cond.laysFinal "PairedTextsModel" "PairedTextsModel" "draft" "[I", Cond.lays "PairedTextsModel" "PairedTextsModel" "drafted" "I", Cond.lays "PairedTextsModel" "PairedTextsModel" "patternSize" "I", Cond.laysFinal "PairedTextsModel" "PairedTextsModel" "pattern" "[I", Cond.laysFinal "PairedTextsModel" "PairedTextsModel" "next" "[I", Cond.laysFinal "PairedTextsModel" "PairedTextsModel" "accepts" "[Z", Cond.lays "PairedTextsModel" "PairedTextsModel" "state" "I", Cond.lays "PairedTextsModel" "PairedTextsModel" "many" "I"] : List Cond) := hw
  simp only [List.mem_cons, List.not_mem_nil, or_false] at hw
  rcases hw with rfl | rfl | rfl | rfl | rfl | rfl | rfl | rfl | rfl | rfl | rfl
  · exact k2_207
  · exact k2_209
  · exact k2_211
  · exact k2_213
  · exact k2_215
  · exact k2_217
  · exact k2_219
  · exact k2_221
  · exact k2_223
  · exact k2_225
  · exact k2_227
end
section
theorem dA_init_0 : decode bA_init 0 = .ok (.aload_n 0, 1) := by decide +kernel
theorem dA_init_1 : decode bA_init 1 = .ok (.invokespecial 3, 3) := by decide +kernel
theorem dA_init_4 : decode bA_init 4 = .ok (.aload_n 0, 1) := by decide +kernel
theorem dA_init_5 : decode bA_init 5 = .ok (.sipush 2048, 3) := by decide +kernel
theorem dA_init_8 : decode bA_init 8 = .ok (.newarray .int, 2) := by decide +kernel
theorem dA_init_10 : decode bA_init 10 = .ok (.putfield 9, 3) := by decide +kernel
theorem dA_init_13 : decode bA_init 13 = .ok (.aload_n 0, 1) := by decide +kernel
theorem dA_init_14 : decode bA_init 14 = .ok (.bipush 8, 2) := by decide +kernel
theorem dA_init_16 : decode bA_init 16 = .ok (.newarray .boolean, 2) := by decide +kernel
theorem dA_init_18 : decode bA_init 18 = .ok (.putfield 15, 3) := by decide +kernel
theorem dA_init_21 : decode bA_init 21 = .ok (.return_, 1) := by decide +kernel
theorem dA_nextOf_0 : decode bA_nextOf 0 = .ok (.aload_n 0, 1) := by decide +kernel
theorem dA_nextOf_1 : decode bA_nextOf 1 = .ok (.getfield 9, 3) := by decide +kernel
theorem dA_nextOf_4 : decode bA_nextOf 4 = .ok (.iload_n 1, 1) := by decide +kernel
theorem dA_nextOf_5 : decode bA_nextOf 5 = .ok (.sipush 256, 3) := by decide +kernel
theorem dA_nextOf_8 : decode bA_nextOf 8 = .ok (.imul, 1) := by decide +kernel
theorem dA_nextOf_9 : decode bA_nextOf 9 = .ok (.iload_n 2, 1) := by decide +kernel
theorem dA_nextOf_10 : decode bA_nextOf 10 = .ok (.iadd, 1) := by decide +kernel
theorem dA_nextOf_11 : decode bA_nextOf 11 = .ok (.iaload, 1) := by decide +kernel
theorem dA_nextOf_12 : decode bA_nextOf 12 = .ok (.ireturn, 1) := by decide +kernel
theorem dA_setNext_0 : decode bA_setNext 0 = .ok (.aload_n 0, 1) := by decide +kernel
theorem dA_setNext_1 : decode bA_setNext 1 = .ok (.getfield 9, 3) := by decide +kernel
theorem dA_setNext_4 : decode bA_setNext 4 = .ok (.iload_n 1, 1) := by decide +kernel
theorem dA_setNext_5 : decode bA_setNext 5 = .ok (.sipush 256, 3) := by decide +kernel
theorem dA_setNext_8 : decode bA_setNext 8 = .ok (.imul, 1) := by decide +kernel
theorem dA_setNext_9 : decode bA_setNext 9 = .ok (.iload_n 2, 1) := by decide +kernel
theorem dA_setNext_10 : decode bA_setNext 10 = .ok (.iadd, 1) := by decide +kernel
theorem dA_setNext_11 : decode bA_setNext 11 = .ok (.iload_n 3, 1) := by decide +kernel
theorem dA_setNext_12 : decode bA_setNext 12 = .ok (.iastore, 1) := by decide +kernel
theorem dA_setNext_13 : decode bA_setNext 13 = .ok (.return_, 1) := by decide +kernel
theorem dQ_init_0 : decode bQ_init 0 = .ok (.aload_n 0, 1) := by decide +kernel
theorem dQ_init_1 : decode bQ_init 1 = .ok (.invokespecial 3, 3) := by decide +kernel
theorem dQ_init_4 : decode bQ_init 4 = .ok (.aload_n 0, 1) := by decide +kernel
theorem dQ_init_5 : decode bQ_init 5 = .ok (.bipush 16, 2) := by decide +kernel
theorem dQ_init_7 : decode bQ_init 7 = .ok (.newarray .int, 2) := by decide +kernel
theorem dQ_init_9 : decode bQ_init 9 = .ok (.putfield 9, 3) := by decide +kernel
theorem dQ_init_12 : decode bQ_init 12 = .ok (.aload_n 0, 1) := by decide +kernel
theorem dQ_init_13 : decode bQ_init 13 = .ok (.iconst 0, 1) := by decide +kernel
theorem dQ_init_14 : decode bQ_init 14 = .ok (.putfield 15, 3) := by decide +kernel
theorem dQ_init_17 : decode bQ_init 17 = .ok (.return_, 1) := by decide +kernel
theorem dQ_become_0 : decode bQ_become 0 = .ok (.iconst 0, 1) := by decide +kernel
theorem dQ_become_1 : decode bQ_become 1 = .ok (.istore 6, 2) := by decide +kernel
theorem dQ_become_3 : decode bQ_become 3 = .ok (.iload 6, 2) := by decide +kernel
theorem dQ_become_5 : decode bQ_become 5 = .ok (.iload 5, 2) := by decide +kernel
theorem dQ_become_7 : decode bQ_become 7 = .ok (.if_icmp .ge 41, 3) := by decide +kernel
theorem dQ_become_10 : decode bQ_become 10 = .ok (.aload_n 0, 1) := by decide +kernel
theorem dQ_become_11 : decode bQ_become 11 = .ok (.getfield 9, 3) := by decide +kernel
theorem dQ_become_14 : decode bQ_become 14 = .ok (.iload 6, 2) := by decide +kernel
theorem dQ_become_16 : decode bQ_become 16 = .ok (.iload 6, 2) := by decide +kernel
theorem dQ_become_18 : decode bQ_become 18 = .ok (.bipush 8, 2) := by decide +kernel
theorem dQ_become_20 : decode bQ_become 20 = .ok (.if_icmp .ge 12, 3) := by decide +kernel
theorem dQ_become_23 : decode bQ_become 23 = .ok (.lload_n 1, 1) := by decide +kernel
theorem dQ_become_24 : decode bQ_become 24 = .ok (.iload 6, 2) := by decide +kernel
theorem dQ_become_26 : decode bQ_become 26 = .ok (.invokestatic 19, 3) := by decide +kernel
theorem dQ_become_29 : decode bQ_become 29 = .ok (.goto 12, 3) := by decide +kernel
theorem dQ_become_32 : decode bQ_become 32 = .ok (.lload_n 3, 1) := by decide +kernel
theorem dQ_become_33 : decode bQ_become 33 = .ok (.iload 6, 2) := by decide +kernel
theorem dQ_become_35 : decode bQ_become 35 = .ok (.bipush 8, 2) := by decide +kernel
theorem dQ_become_37 : decode bQ_become 37 = .ok (.isub, 1) := by decide +kernel
theorem dQ_become_38 : decode bQ_become 38 = .ok (.invokestatic 19, 3) := by decide +kernel
theorem dQ_become_41 : decode bQ_become 41 = .ok (.iastore, 1) := by decide +kernel
theorem dQ_become_42 : decode bQ_become 42 = .ok (.iinc 6 1, 3) := by decide +kernel
theorem dQ_become_45 : decode bQ_become 45 = .ok (.goto (-42), 3) := by decide +kernel
theorem dQ_become_48 : decode bQ_become 48 = .ok (.aload_n 0, 1) := by decide +kernel
theorem dQ_become_49 : decode bQ_become 49 = .ok (.iload 5, 2) := by decide +kernel
theorem dQ_become_51 : decode bQ_become 51 = .ok (.putfield 15, 3) := by decide +kernel
theorem dQ_become_54 : decode bQ_become 54 = .ok (.return_, 1) := by decide +kernel
theorem dQ_standsAt_0 : decode bQ_standsAt 0 = .ok (.aload_n 0, 1) := by decide +kernel
theorem dQ_standsAt_1 : decode bQ_standsAt 1 = .ok (.getfield 15, 3) := by decide +kernel
theorem dQ_standsAt_4 : decode bQ_standsAt 4 = .ok (.iload_n 3, 1) := by decide +kernel
theorem dQ_standsAt_5 : decode bQ_standsAt 5 = .ok (.iload_n 2, 1) := by decide +kernel
theorem dQ_standsAt_6 : decode bQ_standsAt 6 = .ok (.isub, 1) := by decide +kernel
theorem dQ_standsAt_7 : decode bQ_standsAt 7 = .ok (.if_icmp .le 5, 3) := by decide +kernel
theorem dQ_standsAt_10 : decode bQ_standsAt 10 = .ok (.iconst 0, 1) := by decide +kernel
theorem dQ_standsAt_11 : decode bQ_standsAt 11 = .ok (.ireturn, 1) := by decide +kernel
theorem dQ_standsAt_12 : decode bQ_standsAt 12 = .ok (.iconst 0, 1) := by decide +kernel
theorem dQ_standsAt_13 : decode bQ_standsAt 13 = .ok (.istore 4, 2) := by decide +kernel
theorem dQ_standsAt_15 : decode bQ_standsAt 15 = .ok (.iload 4, 2) := by decide +kernel
theorem dQ_standsAt_17 : decode bQ_standsAt 17 = .ok (.aload_n 0, 1) := by decide +kernel
theorem dQ_standsAt_18 : decode bQ_standsAt 18 = .ok (.getfield 15, 3) := by decide +kernel
theorem dQ_standsAt_21 : decode bQ_standsAt 21 = .ok (.if_icmp .ge 30, 3) := by decide +kernel
theorem dQ_standsAt_24 : decode bQ_standsAt 24 = .ok (.aload_n 1, 1) := by decide +kernel
theorem dQ_standsAt_25 : decode bQ_standsAt 25 = .ok (.getfield 23, 3) := by decide +kernel
theorem dQ_standsAt_28 : decode bQ_standsAt 28 = .ok (.iload_n 2, 1) := by decide +kernel
theorem dQ_standsAt_29 : decode bQ_standsAt 29 = .ok (.iload 4, 2) := by decide +kernel
theorem dQ_standsAt_31 : decode bQ_standsAt 31 = .ok (.iadd, 1) := by decide +kernel
theorem dQ_standsAt_32 : decode bQ_standsAt 32 = .ok (.iaload, 1) := by decide +kernel
theorem dQ_standsAt_33 : decode bQ_standsAt 33 = .ok (.aload_n 0, 1) := by decide +kernel
theorem dQ_standsAt_34 : decode bQ_standsAt 34 = .ok (.getfield 9, 3) := by decide +kernel
theorem dQ_standsAt_37 : decode bQ_standsAt 37 = .ok (.iload 4, 2) := by decide +kernel
theorem dQ_standsAt_39 : decode bQ_standsAt 39 = .ok (.iaload, 1) := by decide +kernel
theorem dQ_standsAt_40 : decode bQ_standsAt 40 = .ok (.if_icmp .eq 5, 3) := by decide +kernel
theorem dQ_standsAt_43 : decode bQ_standsAt 43 = .ok (.iconst 0, 1) := by decide +kernel
theorem dQ_standsAt_44 : decode bQ_standsAt 44 = .ok (.ireturn, 1) := by decide +kernel
theorem dQ_standsAt_45 : decode bQ_standsAt 45 = .ok (.iinc 4 1, 3) := by decide +kernel
theorem dQ_standsAt_48 : decode bQ_standsAt 48 = .ok (.goto (-33), 3) := by decide +kernel
theorem dQ_standsAt_51 : decode bQ_standsAt 51 = .ok (.iconst 1, 1) := by decide +kernel
theorem dQ_standsAt_52 : decode bQ_standsAt 52 = .ok (.ireturn, 1) := by decide +kernel
theorem dT_init_0 : decode bT_init 0 = .ok (.aload_n 0, 1) := by decide +kernel
theorem dT_init_1 : decode bT_init 1 = .ok (.invokespecial 3, 3) := by decide +kernel
theorem dT_init_4 : decode bT_init 4 = .ok (.aload_n 0, 1) := by decide +kernel
theorem dT_init_5 : decode bT_init 5 = .ok (.sipush 1000, 3) := by decide +kernel
theorem dT_init_8 : decode bT_init 8 = .ok (.newarray .int, 2) := by decide +kernel
theorem dT_init_10 : decode bT_init 10 = .ok (.putfield 9, 3) := by decide +kernel
theorem dT_init_13 : decode bT_init 13 = .ok (.aload_n 0, 1) := by decide +kernel
theorem dT_init_14 : decode bT_init 14 = .ok (.iconst 0, 1) := by decide +kernel
theorem dT_init_15 : decode bT_init 15 = .ok (.putfield 15, 3) := by decide +kernel
theorem dT_init_18 : decode bT_init 18 = .ok (.return_, 1) := by decide +kernel
theorem dT_clear_0 : decode bT_clear 0 = .ok (.aload_n 0, 1) := by decide +kernel
theorem dT_clear_1 : decode bT_clear 1 = .ok (.iconst 0, 1) := by decide +kernel
theorem dT_clear_2 : decode bT_clear 2 = .ok (.putfield 15, 3) := by decide +kernel
theorem dT_clear_5 : decode bT_clear 5 = .ok (.return_, 1) := by decide +kernel
theorem dT_add_0 : decode bT_add 0 = .ok (.aload_n 0, 1) := by decide +kernel
theorem dT_add_1 : decode bT_add 1 = .ok (.getfield 9, 3) := by decide +kernel
theorem dT_add_4 : decode bT_add 4 = .ok (.aload_n 0, 1) := by decide +kernel
theorem dT_add_5 : decode bT_add 5 = .ok (.getfield 15, 3) := by decide +kernel
theorem dT_add_8 : decode bT_add 8 = .ok (.iload_n 1, 1) := by decide +kernel
theorem dT_add_9 : decode bT_add 9 = .ok (.iastore, 1) := by decide +kernel
theorem dT_add_10 : decode bT_add 10 = .ok (.aload_n 0, 1) := by decide +kernel
theorem dT_add_11 : decode bT_add 11 = .ok (.dup, 1) := by decide +kernel
theorem dT_add_12 : decode bT_add 12 = .ok (.getfield 15, 3) := by decide +kernel
theorem dT_add_15 : decode bT_add 15 = .ok (.iconst 1, 1) := by decide +kernel
theorem dT_add_16 : decode bT_add 16 = .ok (.iadd, 1) := by decide +kernel
theorem dT_add_17 : decode bT_add 17 = .ok (.putfield 15, 3) := by decide +kernel
theorem dT_add_20 : decode bT_add 20 = .ok (.return_, 1) := by decide +kernel
theorem dT_addRange_0 : decode bT_addRange 0 = .ok (.aload_n 1, 1) := by decide +kernel
theorem dT_addRange_1 : decode bT_addRange 1 = .ok (.getfield 9, 3) := by decide +kernel
theorem dT_addRange_4 : decode bT_addRange 4 = .ok (.iload_n 2, 1) := by decide +kernel
theorem dT_addRange_5 : decode bT_addRange 5 = .ok (.aload_n 0, 1) := by decide +kernel
theorem dT_addRange_6 : decode bT_addRange 6 = .ok (.getfield 9, 3) := by decide +kernel
theorem dT_addRange_9 : decode bT_addRange 9 = .ok (.aload_n 0, 1) := by decide +kernel
theorem dT_addRange_10 : decode bT_addRange 10 = .ok (.getfield 15, 3) := by decide +kernel
theorem dT_addRange_13 : decode bT_addRange 13 = .ok (.iload_n 3, 1) := by decide +kernel
theorem dT_addRange_14 : decode bT_addRange 14 = .ok (.iload_n 2, 1) := by decide +kernel
theorem dT_addRange_15 : decode bT_addRange 15 = .ok (.isub, 1) := by decide +kernel
theorem dT_addRange_16 : decode bT_addRange 16 = .ok (.invokestatic 19, 3) := by decide +kernel
theorem dT_addRange_19 : decode bT_addRange 19 = .ok (.aload_n 0, 1) := by decide +kernel
theorem dT_addRange_20 : decode bT_addRange 20 = .ok (.dup, 1) := by decide +kernel
theorem dT_addRange_21 : decode bT_addRange 21 = .ok (.getfield 15, 3) := by decide +kernel
theorem dT_addRange_24 : decode bT_addRange 24 = .ok (.iload_n 3, 1) := by decide +kernel
theorem dT_addRange_25 : decode bT_addRange 25 = .ok (.iload_n 2, 1) := by decide +kernel
theorem dT_addRange_26 : decode bT_addRange 26 = .ok (.isub, 1) := by decide +kernel
theorem dT_addRange_27 : decode bT_addRange 27 = .ok (.iadd, 1) := by decide +kernel
theorem dT_addRange_28 : decode bT_addRange 28 = .ok (.putfield 15, 3) := by decide +kernel
theorem dT_addRange_31 : decode bT_addRange 31 = .ok (.return_, 1) := by decide +kernel
theorem dT_hasRange_0 : decode bT_hasRange 0 = .ok (.iconst 0, 1) := by decide +kernel
theorem dT_hasRange_1 : decode bT_hasRange 1 = .ok (.iload_n 1, 1) := by decide +kernel
theorem dT_hasRange_2 : decode bT_hasRange 2 = .ok (.if_icmp .gt 24, 3) := by decide +kernel
theorem dT_hasRange_5 : decode bT_hasRange 5 = .ok (.iload_n 1, 1) := by decide +kernel
theorem dT_hasRange_6 : decode bT_hasRange 6 = .ok (.i2l, 1) := by decide +kernel
theorem dT_hasRange_7 : decode bT_hasRange 7 = .ok (.lload_n 2, 1) := by decide +kernel
theorem dT_hasRange_8 : decode bT_hasRange 8 = .ok (.lcmp, 1) := by decide +kernel
theorem dT_hasRange_9 : decode bT_hasRange 9 = .ok (.ifCond .gt 17, 3) := by decide +kernel
theorem dT_hasRange_12 : decode bT_hasRange 12 = .ok (.lload_n 2, 1) := by decide +kernel
theorem dT_hasRange_13 : decode bT_hasRange 13 = .ok (.aload_n 0, 1) := by decide +kernel
theorem dT_hasRange_14 : decode bT_hasRange 14 = .ok (.getfield 15, 3) := by decide +kernel
theorem dT_hasRange_17 : decode bT_hasRange 17 = .ok (.i2l, 1) := by decide +kernel
theorem dT_hasRange_18 : decode bT_hasRange 18 = .ok (.lcmp, 1) := by decide +kernel
theorem dT_hasRange_19 : decode bT_hasRange 19 = .ok (.ifCond .gt 7, 3) := by decide +kernel
theorem dT_hasRange_22 : decode bT_hasRange 22 = .ok (.iconst 1, 1) := by decide +kernel
theorem dT_hasRange_23 : decode bT_hasRange 23 = .ok (.goto 4, 3) := by decide +kernel
theorem dT_hasRange_26 : decode bT_hasRange 26 = .ok (.iconst 0, 1) := by decide +kernel
theorem dT_hasRange_27 : decode bT_hasRange 27 = .ok (.ireturn, 1) := by decide +kernel
theorem dT_hasPiece_0 : decode bT_hasPiece 0 = .ok (.iconst 0, 1) := by decide +kernel
theorem dT_hasPiece_1 : decode bT_hasPiece 1 = .ok (.iload_n 1, 1) := by decide +kernel
theorem dT_hasPiece_2 : decode bT_hasPiece 2 = .ok (.if_icmp .gt 15, 3) := by decide +kernel
theorem dT_hasPiece_5 : decode bT_hasPiece 5 = .ok (.iload_n 1, 1) := by decide +kernel
theorem dT_hasPiece_6 : decode bT_hasPiece 6 = .ok (.aload_n 0, 1) := by decide +kernel
theorem dT_hasPiece_7 : decode bT_hasPiece 7 = .ok (.getfield 15, 3) := by decide +kernel
theorem dT_hasPiece_10 : decode bT_hasPiece 10 = .ok (.if_icmp .gt 7, 3) := by decide +kernel
theorem dT_hasPiece_13 : decode bT_hasPiece 13 = .ok (.iconst 1, 1) := by decide +kernel
theorem dT_hasPiece_14 : decode bT_hasPiece 14 = .ok (.goto 4, 3) := by decide +kernel
theorem dT_hasPiece_17 : decode bT_hasPiece 17 = .ok (.iconst 0, 1) := by decide +kernel
theorem dT_hasPiece_18 : decode bT_hasPiece 18 = .ok (.ireturn, 1) := by decide +kernel
end
section
theorem dP_init_0 : decode bP_init 0 = .ok (.aload_n 0, 1) := by decide +kernel
theorem dP_init_1 : decode bP_init 1 = .ok (.invokespecial 1, 3) := by decide +kernel
theorem dP_init_4 : decode bP_init 4 = .ok (.aload_n 0, 1) := by decide +kernel
theorem dP_init_5 : decode bP_init 5 = .ok (.iconst 4, 1) := by decide +kernel
theorem dP_init_6 : decode bP_init 6 = .ok (.anewarray 9, 3) := by decide +kernel
theorem dP_init_9 : decode bP_init 9 = .ok (.putfield 11, 3) := by decide +kernel
theorem dP_init_12 : decode bP_init 12 = .ok (.iconst 0, 1) := by decide +kernel
theorem dP_init_13 : decode bP_init 13 = .ok (.istore_n 1, 1) := by decide +kernel
theorem dP_init_14 : decode bP_init 14 = .ok (.iload_n 1, 1) := by decide +kernel
theorem dP_init_15 : decode bP_init 15 = .ok (.iconst 4, 1) := by decide +kernel
theorem dP_init_16 : decode bP_init 16 = .ok (.if_icmp .ge 22, 3) := by decide +kernel
theorem dP_init_19 : decode bP_init 19 = .ok (.aload_n 0, 1) := by decide +kernel
theorem dP_init_20 : decode bP_init 20 = .ok (.getfield 11, 3) := by decide +kernel
theorem dP_init_23 : decode bP_init 23 = .ok (.iload_n 1, 1) := by decide +kernel
theorem dP_init_24 : decode bP_init 24 = .ok (.new 9, 3) := by decide +kernel
theorem dP_init_27 : decode bP_init 27 = .ok (.dup, 1) := by decide +kernel
theorem dP_init_28 : decode bP_init 28 = .ok (.invokespecial 15, 3) := by decide +kernel
theorem dP_init_31 : decode bP_init 31 = .ok (.aastore, 1) := by decide +kernel
theorem dP_init_32 : decode bP_init 32 = .ok (.iinc 1 1, 3) := by decide +kernel
theorem dP_init_35 : decode bP_init 35 = .ok (.goto (-21), 3) := by decide +kernel
theorem dP_init_38 : decode bP_init 38 = .ok (.aload_n 0, 1) := by decide +kernel
theorem dP_init_39 : decode bP_init 39 = .ok (.new 9, 3) := by decide +kernel
theorem dP_init_42 : decode bP_init 42 = .ok (.dup, 1) := by decide +kernel
theorem dP_init_43 : decode bP_init 43 = .ok (.invokespecial 15, 3) := by decide +kernel
theorem dP_init_46 : decode bP_init 46 = .ok (.putfield 16, 3) := by decide +kernel
theorem dP_init_49 : decode bP_init 49 = .ok (.aload_n 0, 1) := by decide +kernel
theorem dP_init_50 : decode bP_init 50 = .ok (.new 20, 3) := by decide +kernel
theorem dP_init_53 : decode bP_init 53 = .ok (.dup, 1) := by decide +kernel
theorem dP_init_54 : decode bP_init 54 = .ok (.invokespecial 22, 3) := by decide +kernel
theorem dP_init_57 : decode bP_init 57 = .ok (.putfield 23, 3) := by decide +kernel
theorem dP_init_60 : decode bP_init 60 = .ok (.aload_n 0, 1) := by decide +kernel
theorem dP_init_61 : decode bP_init 61 = .ok (.new 27, 3) := by decide +kernel
theorem dP_init_64 : decode bP_init 64 = .ok (.dup, 1) := by decide +kernel
theorem dP_init_65 : decode bP_init 65 = .ok (.invokespecial 29, 3) := by decide +kernel
theorem dP_init_68 : decode bP_init 68 = .ok (.putfield 30, 3) := by decide +kernel
theorem dP_init_71 : decode bP_init 71 = .ok (.return_, 1) := by decide +kernel
theorem dP_write_0 : decode bP_write 0 = .ok (.aload_n 0, 1) := by decide +kernel
theorem dP_write_1 : decode bP_write 1 = .ok (.iload_n 1, 1) := by decide +kernel
theorem dP_write_2 : decode bP_write 2 = .ok (.invokevirtual 34, 3) := by decide +kernel
theorem dP_write_5 : decode bP_write 5 = .ok (.astore 5, 2) := by decide +kernel
theorem dP_write_7 : decode bP_write 7 = .ok (.iload 4, 2) := by decide +kernel
theorem dP_write_9 : decode bP_write 9 = .ok (.iconst 1, 1) := by decide +kernel
theorem dP_write_10 : decode bP_write 10 = .ok (.if_icmp .lt 14, 3) := by decide +kernel
theorem dP_write_13 : decode bP_write 13 = .ok (.iload 4, 2) := by decide +kernel
theorem dP_write_15 : decode bP_write 15 = .ok (.bipush 8, 2) := by decide +kernel
theorem dP_write_17 : decode bP_write 17 = .ok (.if_icmp .gt 7, 3) := by decide +kernel
theorem dP_write_20 : decode bP_write 20 = .ok (.iconst 1, 1) := by decide +kernel
theorem dP_write_21 : decode bP_write 21 = .ok (.goto 4, 3) := by decide +kernel
theorem dP_write_24 : decode bP_write 24 = .ok (.iconst 0, 1) := by decide +kernel
theorem dP_write_25 : decode bP_write 25 = .ok (.invokestatic 38, 3) := by decide +kernel
theorem dP_write_28 : decode bP_write 28 = .ok (.aload 5, 2) := by decide +kernel
theorem dP_write_30 : decode bP_write 30 = .ok (.getfield 42, 3) := by decide +kernel
theorem dP_write_33 : decode bP_write 33 = .ok (.iload 4, 2) := by decide +kernel
theorem dP_write_35 : decode bP_write 35 = .ok (.iadd, 1) := by decide +kernel
theorem dP_write_36 : decode bP_write 36 = .ok (.i2l, 1) := by decide +kernel
theorem dP_write_37 : decode bP_write 37 = .ok (.invokestatic 46, 3) := by decide +kernel
theorem dP_write_40 : decode bP_write 40 = .ok (.iconst 0, 1) := by decide +kernel
theorem dP_write_41 : decode bP_write 41 = .ok (.istore 6, 2) := by decide +kernel
theorem dP_write_43 : decode bP_write 43 = .ok (.iload 6, 2) := by decide +kernel
theorem dP_write_45 : decode bP_write 45 = .ok (.iload 4, 2) := by decide +kernel
theorem dP_write_47 : decode bP_write 47 = .ok (.if_icmp .ge 20, 3) := by decide +kernel
theorem dP_write_50 : decode bP_write 50 = .ok (.aload 5, 2) := by decide +kernel
theorem dP_write_52 : decode bP_write 52 = .ok (.lload_n 2, 1) := by decide +kernel
theorem dP_write_53 : decode bP_write 53 = .ok (.iload 6, 2) := by decide +kernel
theorem dP_write_55 : decode bP_write 55 = .ok (.invokestatic 50, 3) := by decide +kernel
theorem dP_write_58 : decode bP_write 58 = .ok (.invokevirtual 54, 3) := by decide +kernel
theorem dP_write_61 : decode bP_write 61 = .ok (.iinc 6 1, 3) := by decide +kernel
theorem dP_write_64 : decode bP_write 64 = .ok (.goto (-21), 3) := by decide +kernel
theorem dP_write_67 : decode bP_write 67 = .ok (.aload 5, 2) := by decide +kernel
theorem dP_write_69 : decode bP_write 69 = .ok (.getfield 42, 3) := by decide +kernel
theorem dP_write_72 : decode bP_write 72 = .ok (.ireturn, 1) := by decide +kernel
theorem dP_length_0 : decode bP_length 0 = .ok (.aload_n 0, 1) := by decide +kernel
theorem dP_length_1 : decode bP_length 1 = .ok (.iload_n 1, 1) := by decide +kernel
theorem dP_length_2 : decode bP_length 2 = .ok (.invokevirtual 34, 3) := by decide +kernel
theorem dP_length_5 : decode bP_length 5 = .ok (.getfield 42, 3) := by decide +kernel
theorem dP_length_8 : decode bP_length 8 = .ok (.ireturn, 1) := by decide +kernel
theorem dP_byteAt_0 : decode bP_byteAt 0 = .ok (.aload_n 0, 1) := by decide +kernel
theorem dP_byteAt_1 : decode bP_byteAt 1 = .ok (.iload_n 1, 1) := by decide +kernel
theorem dP_byteAt_2 : decode bP_byteAt 2 = .ok (.invokevirtual 34, 3) := by decide +kernel
theorem dP_byteAt_5 : decode bP_byteAt 5 = .ok (.astore_n 3, 1) := by decide +kernel
theorem dP_byteAt_6 : decode bP_byteAt 6 = .ok (.iload_n 2, 1) := by decide +kernel
theorem dP_byteAt_7 : decode bP_byteAt 7 = .ok (.ifCond .lt 15, 3) := by decide +kernel
theorem dP_byteAt_10 : decode bP_byteAt 10 = .ok (.iload_n 2, 1) := by decide +kernel
theorem dP_byteAt_11 : decode bP_byteAt 11 = .ok (.aload_n 3, 1) := by decide +kernel
theorem dP_byteAt_12 : decode bP_byteAt 12 = .ok (.getfield 42, 3) := by decide +kernel
theorem dP_byteAt_15 : decode bP_byteAt 15 = .ok (.if_icmp .ge 7, 3) := by decide +kernel
theorem dP_byteAt_18 : decode bP_byteAt 18 = .ok (.iconst 1, 1) := by decide +kernel
theorem dP_byteAt_19 : decode bP_byteAt 19 = .ok (.goto 4, 3) := by decide +kernel
theorem dP_byteAt_22 : decode bP_byteAt 22 = .ok (.iconst 0, 1) := by decide +kernel
theorem dP_byteAt_23 : decode bP_byteAt 23 = .ok (.invokestatic 58, 3) := by decide +kernel
theorem dP_byteAt_26 : decode bP_byteAt 26 = .ok (.aload_n 3, 1) := by decide +kernel
theorem dP_byteAt_27 : decode bP_byteAt 27 = .ok (.getfield 61, 3) := by decide +kernel
theorem dP_byteAt_30 : decode bP_byteAt 30 = .ok (.iload_n 2, 1) := by decide +kernel
theorem dP_byteAt_31 : decode bP_byteAt 31 = .ok (.iaload, 1) := by decide +kernel
theorem dP_byteAt_32 : decode bP_byteAt 32 = .ok (.ireturn, 1) := by decide +kernel
theorem dP_copy_0 : decode bP_copy 0 = .ok (.aload_n 0, 1) := by decide +kernel
theorem dP_copy_1 : decode bP_copy 1 = .ok (.iload_n 1, 1) := by decide +kernel
theorem dP_copy_2 : decode bP_copy 2 = .ok (.invokevirtual 34, 3) := by decide +kernel
theorem dP_copy_5 : decode bP_copy 5 = .ok (.astore 5, 2) := by decide +kernel
theorem dP_copy_7 : decode bP_copy 7 = .ok (.iload 4, 2) := by decide +kernel
theorem dP_copy_9 : decode bP_copy 9 = .ok (.invokestatic 65, 3) := by decide +kernel
theorem dP_copy_12 : decode bP_copy 12 = .ok (.aload 5, 2) := by decide +kernel
theorem dP_copy_14 : decode bP_copy 14 = .ok (.iload_n 2, 1) := by decide +kernel
theorem dP_copy_15 : decode bP_copy 15 = .ok (.iload_n 3, 1) := by decide +kernel
theorem dP_copy_16 : decode bP_copy 16 = .ok (.i2l, 1) := by decide +kernel
theorem dP_copy_17 : decode bP_copy 17 = .ok (.invokevirtual 68, 3) := by decide +kernel
theorem dP_copy_20 : decode bP_copy 20 = .ok (.invokestatic 58, 3) := by decide +kernel
theorem dP_copy_23 : decode bP_copy 23 = .ok (.aload_n 0, 1) := by decide +kernel
theorem dP_copy_24 : decode bP_copy 24 = .ok (.getfield 16, 3) := by decide +kernel
theorem dP_copy_27 : decode bP_copy 27 = .ok (.invokevirtual 72, 3) := by decide +kernel
theorem dP_copy_30 : decode bP_copy 30 = .ok (.aload_n 0, 1) := by decide +kernel
theorem dP_copy_31 : decode bP_copy 31 = .ok (.getfield 16, 3) := by decide +kernel
theorem dP_copy_34 : decode bP_copy 34 = .ok (.aload 5, 2) := by decide +kernel
theorem dP_copy_36 : decode bP_copy 36 = .ok (.iload_n 2, 1) := by decide +kernel
theorem dP_copy_37 : decode bP_copy 37 = .ok (.iload_n 3, 1) := by decide +kernel
theorem dP_copy_38 : decode bP_copy 38 = .ok (.invokevirtual 75, 3) := by decide +kernel
theorem dP_copy_41 : decode bP_copy 41 = .ok (.aload_n 0, 1) := by decide +kernel
theorem dP_copy_42 : decode bP_copy 42 = .ok (.iload 4, 2) := by decide +kernel
theorem dP_copy_44 : decode bP_copy 44 = .ok (.invokevirtual 79, 3) := by decide +kernel
theorem dP_copy_47 : decode bP_copy 47 = .ok (.ireturn, 1) := by decide +kernel
theorem dP_join_0 : decode bP_join 0 = .ok (.aload_n 0, 1) := by decide +kernel
theorem dP_join_1 : decode bP_join 1 = .ok (.iload_n 1, 1) := by decide +kernel
theorem dP_join_2 : decode bP_join 2 = .ok (.invokevirtual 34, 3) := by decide +kernel
theorem dP_join_5 : decode bP_join 5 = .ok (.astore 4, 2) := by decide +kernel
theorem dP_join_7 : decode bP_join 7 = .ok (.aload_n 0, 1) := by decide +kernel
theorem dP_join_8 : decode bP_join 8 = .ok (.iload_n 2, 1) := by decide +kernel
theorem dP_join_9 : decode bP_join 9 = .ok (.invokevirtual 34, 3) := by decide +kernel
theorem dP_join_12 : decode bP_join 12 = .ok (.astore 5, 2) := by decide +kernel
theorem dP_join_14 : decode bP_join 14 = .ok (.iload_n 3, 1) := by decide +kernel
theorem dP_join_15 : decode bP_join 15 = .ok (.invokestatic 65, 3) := by decide +kernel
theorem dP_join_18 : decode bP_join 18 = .ok (.aload 4, 2) := by decide +kernel
theorem dP_join_20 : decode bP_join 20 = .ok (.getfield 42, 3) := by decide +kernel
theorem dP_join_23 : decode bP_join 23 = .ok (.aload 5, 2) := by decide +kernel
theorem dP_join_25 : decode bP_join 25 = .ok (.getfield 42, 3) := by decide +kernel
theorem dP_join_28 : decode bP_join 28 = .ok (.iadd, 1) := by decide +kernel
theorem dP_join_29 : decode bP_join 29 = .ok (.i2l, 1) := by decide +kernel
theorem dP_join_30 : decode bP_join 30 = .ok (.invokestatic 46, 3) := by decide +kernel
theorem dP_join_33 : decode bP_join 33 = .ok (.aload_n 0, 1) := by decide +kernel
theorem dP_join_34 : decode bP_join 34 = .ok (.getfield 16, 3) := by decide +kernel
theorem dP_join_37 : decode bP_join 37 = .ok (.invokevirtual 72, 3) := by decide +kernel
theorem dP_join_40 : decode bP_join 40 = .ok (.aload_n 0, 1) := by decide +kernel
theorem dP_join_41 : decode bP_join 41 = .ok (.getfield 16, 3) := by decide +kernel
theorem dP_join_44 : decode bP_join 44 = .ok (.aload 4, 2) := by decide +kernel
theorem dP_join_46 : decode bP_join 46 = .ok (.iconst 0, 1) := by decide +kernel
theorem dP_join_47 : decode bP_join 47 = .ok (.aload 4, 2) := by decide +kernel
theorem dP_join_49 : decode bP_join 49 = .ok (.getfield 42, 3) := by decide +kernel
theorem dP_join_52 : decode bP_join 52 = .ok (.invokevirtual 75, 3) := by decide +kernel
theorem dP_join_55 : decode bP_join 55 = .ok (.aload_n 0, 1) := by decide +kernel
theorem dP_join_56 : decode bP_join 56 = .ok (.getfield 16, 3) := by decide +kernel
theorem dP_join_59 : decode bP_join 59 = .ok (.aload 5, 2) := by decide +kernel
theorem dP_join_61 : decode bP_join 61 = .ok (.iconst 0, 1) := by decide +kernel
theorem dP_join_62 : decode bP_join 62 = .ok (.aload 5, 2) := by decide +kernel
theorem dP_join_64 : decode bP_join 64 = .ok (.getfield 42, 3) := by decide +kernel
theorem dP_join_67 : decode bP_join 67 = .ok (.invokevirtual 75, 3) := by decide +kernel
theorem dP_join_70 : decode bP_join 70 = .ok (.aload_n 0, 1) := by decide +kernel
theorem dP_join_71 : decode bP_join 71 = .ok (.iload_n 3, 1) := by decide +kernel
theorem dP_join_72 : decode bP_join 72 = .ok (.invokevirtual 79, 3) := by decide +kernel
theorem dP_join_75 : decode bP_join 75 = .ok (.ireturn, 1) := by decide +kernel
theorem dP_insert_0 : decode bP_insert 0 = .ok (.aload_n 0, 1) := by decide +kernel
theorem dP_insert_1 : decode bP_insert 1 = .ok (.iload_n 1, 1) := by decide +kernel
theorem dP_insert_2 : decode bP_insert 2 = .ok (.invokevirtual 34, 3) := by decide +kernel
theorem dP_insert_5 : decode bP_insert 5 = .ok (.astore 6, 2) := by decide +kernel
theorem dP_insert_7 : decode bP_insert 7 = .ok (.aload_n 0, 1) := by decide +kernel
theorem dP_insert_8 : decode bP_insert 8 = .ok (.iload_n 3, 1) := by decide +kernel
theorem dP_insert_9 : decode bP_insert 9 = .ok (.invokevirtual 34, 3) := by decide +kernel
theorem dP_insert_12 : decode bP_insert 12 = .ok (.astore 7, 2) := by decide +kernel
theorem dP_insert_14 : decode bP_insert 14 = .ok (.aload 7, 2) := by decide +kernel
theorem dP_insert_16 : decode bP_insert 16 = .ok (.iload 4, 2) := by decide +kernel
theorem dP_insert_18 : decode bP_insert 18 = .ok (.iload 5, 2) := by decide +kernel
theorem dP_insert_20 : decode bP_insert 20 = .ok (.i2l, 1) := by decide +kernel
theorem dP_insert_21 : decode bP_insert 21 = .ok (.invokevirtual 68, 3) := by decide +kernel
theorem dP_insert_24 : decode bP_insert 24 = .ok (.ifCond .eq 16, 3) := by decide +kernel
theorem dP_insert_27 : decode bP_insert 27 = .ok (.aload 6, 2) := by decide +kernel
theorem dP_insert_29 : decode bP_insert 29 = .ok (.iload_n 2, 1) := by decide +kernel
theorem dP_insert_30 : decode bP_insert 30 = .ok (.invokevirtual 83, 3) := by decide +kernel
theorem dP_insert_33 : decode bP_insert 33 = .ok (.ifCond .eq 7, 3) := by decide +kernel
theorem dP_insert_36 : decode bP_insert 36 = .ok (.iconst 1, 1) := by decide +kernel
theorem dP_insert_37 : decode bP_insert 37 = .ok (.goto 4, 3) := by decide +kernel
theorem dP_insert_40 : decode bP_insert 40 = .ok (.iconst 0, 1) := by decide +kernel
theorem dP_insert_41 : decode bP_insert 41 = .ok (.invokestatic 58, 3) := by decide +kernel
theorem dP_insert_44 : decode bP_insert 44 = .ok (.aload 6, 2) := by decide +kernel
theorem dP_insert_46 : decode bP_insert 46 = .ok (.getfield 42, 3) := by decide +kernel
theorem dP_insert_49 : decode bP_insert 49 = .ok (.iload 5, 2) := by decide +kernel
theorem dP_insert_51 : decode bP_insert 51 = .ok (.iload 4, 2) := by decide +kernel
theorem dP_insert_53 : decode bP_insert 53 = .ok (.isub, 1) := by decide +kernel
theorem dP_insert_54 : decode bP_insert 54 = .ok (.iadd, 1) := by decide +kernel
theorem dP_insert_55 : decode bP_insert 55 = .ok (.i2l, 1) := by decide +kernel
theorem dP_insert_56 : decode bP_insert 56 = .ok (.invokestatic 46, 3) := by decide +kernel
theorem dP_insert_59 : decode bP_insert 59 = .ok (.aload_n 0, 1) := by decide +kernel
theorem dP_insert_60 : decode bP_insert 60 = .ok (.getfield 16, 3) := by decide +kernel
theorem dP_insert_63 : decode bP_insert 63 = .ok (.invokevirtual 72, 3) := by decide +kernel
theorem dP_insert_66 : decode bP_insert 66 = .ok (.aload_n 0, 1) := by decide +kernel
theorem dP_insert_67 : decode bP_insert 67 = .ok (.getfield 16, 3) := by decide +kernel
theorem dP_insert_70 : decode bP_insert 70 = .ok (.aload 6, 2) := by decide +kernel
theorem dP_insert_72 : decode bP_insert 72 = .ok (.iconst 0, 1) := by decide +kernel
theorem dP_insert_73 : decode bP_insert 73 = .ok (.iload_n 2, 1) := by decide +kernel
theorem dP_insert_74 : decode bP_insert 74 = .ok (.invokevirtual 75, 3) := by decide +kernel
theorem dP_insert_77 : decode bP_insert 77 = .ok (.aload_n 0, 1) := by decide +kernel
theorem dP_insert_78 : decode bP_insert 78 = .ok (.getfield 16, 3) := by decide +kernel
theorem dP_insert_81 : decode bP_insert 81 = .ok (.aload 7, 2) := by decide +kernel
theorem dP_insert_83 : decode bP_insert 83 = .ok (.iload 4, 2) := by decide +kernel
theorem dP_insert_85 : decode bP_insert 85 = .ok (.iload 5, 2) := by decide +kernel
theorem dP_insert_87 : decode bP_insert 87 = .ok (.invokevirtual 75, 3) := by decide +kernel
theorem dP_insert_90 : decode bP_insert 90 = .ok (.aload_n 0, 1) := by decide +kernel
theorem dP_insert_91 : decode bP_insert 91 = .ok (.getfield 16, 3) := by decide +kernel
theorem dP_insert_94 : decode bP_insert 94 = .ok (.aload 6, 2) := by decide +kernel
theorem dP_insert_96 : decode bP_insert 96 = .ok (.iload_n 2, 1) := by decide +kernel
theorem dP_insert_97 : decode bP_insert 97 = .ok (.aload 6, 2) := by decide +kernel
theorem dP_insert_99 : decode bP_insert 99 = .ok (.getfield 42, 3) := by decide +kernel
theorem dP_insert_102 : decode bP_insert 102 = .ok (.invokevirtual 75, 3) := by decide +kernel
theorem dP_insert_105 : decode bP_insert 105 = .ok (.aload_n 0, 1) := by decide +kernel
theorem dP_insert_106 : decode bP_insert 106 = .ok (.iload_n 1, 1) := by decide +kernel
theorem dP_insert_107 : decode bP_insert 107 = .ok (.invokevirtual 79, 3) := by decide +kernel
theorem dP_insert_110 : decode bP_insert 110 = .ok (.ireturn, 1) := by decide +kernel
theorem dP_delete_0 : decode bP_delete 0 = .ok (.aload_n 0, 1) := by decide +kernel
theorem dP_delete_1 : decode bP_delete 1 = .ok (.iload_n 1, 1) := by decide +kernel
theorem dP_delete_2 : decode bP_delete 2 = .ok (.invokevirtual 34, 3) := by decide +kernel
theorem dP_delete_5 : decode bP_delete 5 = .ok (.astore 4, 2) := by decide +kernel
theorem dP_delete_7 : decode bP_delete 7 = .ok (.aload 4, 2) := by decide +kernel
theorem dP_delete_9 : decode bP_delete 9 = .ok (.iload_n 2, 1) := by decide +kernel
theorem dP_delete_10 : decode bP_delete 10 = .ok (.iload_n 3, 1) := by decide +kernel
theorem dP_delete_11 : decode bP_delete 11 = .ok (.i2l, 1) := by decide +kernel
theorem dP_delete_12 : decode bP_delete 12 = .ok (.invokevirtual 68, 3) := by decide +kernel
theorem dP_delete_15 : decode bP_delete 15 = .ok (.invokestatic 58, 3) := by decide +kernel
theorem dP_delete_18 : decode bP_delete 18 = .ok (.aload_n 0, 1) := by decide +kernel
theorem dP_delete_19 : decode bP_delete 19 = .ok (.getfield 16, 3) := by decide +kernel
theorem dP_delete_22 : decode bP_delete 22 = .ok (.invokevirtual 72, 3) := by decide +kernel
theorem dP_delete_25 : decode bP_delete 25 = .ok (.aload_n 0, 1) := by decide +kernel
theorem dP_delete_26 : decode bP_delete 26 = .ok (.getfield 16, 3) := by decide +kernel
theorem dP_delete_29 : decode bP_delete 29 = .ok (.aload 4, 2) := by decide +kernel
theorem dP_delete_31 : decode bP_delete 31 = .ok (.iconst 0, 1) := by decide +kernel
theorem dP_delete_32 : decode bP_delete 32 = .ok (.iload_n 2, 1) := by decide +kernel
theorem dP_delete_33 : decode bP_delete 33 = .ok (.invokevirtual 75, 3) := by decide +kernel
theorem dP_delete_36 : decode bP_delete 36 = .ok (.aload_n 0, 1) := by decide +kernel
theorem dP_delete_37 : decode bP_delete 37 = .ok (.getfield 16, 3) := by decide +kernel
theorem dP_delete_40 : decode bP_delete 40 = .ok (.aload 4, 2) := by decide +kernel
theorem dP_delete_42 : decode bP_delete 42 = .ok (.iload_n 3, 1) := by decide +kernel
theorem dP_delete_43 : decode bP_delete 43 = .ok (.aload 4, 2) := by decide +kernel
theorem dP_delete_45 : decode bP_delete 45 = .ok (.getfield 42, 3) := by decide +kernel
theorem dP_delete_48 : decode bP_delete 48 = .ok (.invokevirtual 75, 3) := by decide +kernel
theorem dP_delete_51 : decode bP_delete 51 = .ok (.aload_n 0, 1) := by decide +kernel
theorem dP_delete_52 : decode bP_delete 52 = .ok (.iload_n 1, 1) := by decide +kernel
theorem dP_delete_53 : decode bP_delete 53 = .ok (.invokevirtual 79, 3) := by decide +kernel
theorem dP_delete_56 : decode bP_delete 56 = .ok (.ireturn, 1) := by decide +kernel
theorem dP_move_0 : decode bP_move 0 = .ok (.aload_n 0, 1) := by decide +kernel
theorem dP_move_1 : decode bP_move 1 = .ok (.iload_n 1, 1) := by decide +kernel
theorem dP_move_2 : decode bP_move 2 = .ok (.invokevirtual 34, 3) := by decide +kernel
theorem dP_move_5 : decode bP_move 5 = .ok (.astore 5, 2) := by decide +kernel
theorem dP_move_7 : decode bP_move 7 = .ok (.aload 5, 2) := by decide +kernel
theorem dP_move_9 : decode bP_move 9 = .ok (.iload_n 2, 1) := by decide +kernel
theorem dP_move_10 : decode bP_move 10 = .ok (.iload_n 3, 1) := by decide +kernel
theorem dP_move_11 : decode bP_move 11 = .ok (.i2l, 1) := by decide +kernel
theorem dP_move_12 : decode bP_move 12 = .ok (.invokevirtual 68, 3) := by decide +kernel
theorem dP_move_15 : decode bP_move 15 = .ok (.invokestatic 58, 3) := by decide +kernel
theorem dP_move_18 : decode bP_move 18 = .ok (.iload_n 3, 1) := by decide +kernel
theorem dP_move_19 : decode bP_move 19 = .ok (.iload_n 2, 1) := by decide +kernel
theorem dP_move_20 : decode bP_move 20 = .ok (.isub, 1) := by decide +kernel
theorem dP_move_21 : decode bP_move 21 = .ok (.istore 6, 2) := by decide +kernel
theorem dP_move_23 : decode bP_move 23 = .ok (.iload 4, 2) := by decide +kernel
theorem dP_move_25 : decode bP_move 25 = .ok (.ifCond .lt 20, 3) := by decide +kernel
theorem dP_move_28 : decode bP_move 28 = .ok (.iload 4, 2) := by decide +kernel
theorem dP_move_30 : decode bP_move 30 = .ok (.aload 5, 2) := by decide +kernel
theorem dP_move_32 : decode bP_move 32 = .ok (.getfield 42, 3) := by decide +kernel
theorem dP_move_35 : decode bP_move 35 = .ok (.iload 6, 2) := by decide +kernel
theorem dP_move_37 : decode bP_move 37 = .ok (.isub, 1) := by decide +kernel
theorem dP_move_38 : decode bP_move 38 = .ok (.if_icmp .gt 7, 3) := by decide +kernel
theorem dP_move_41 : decode bP_move 41 = .ok (.iconst 1, 1) := by decide +kernel
theorem dP_move_42 : decode bP_move 42 = .ok (.goto 4, 3) := by decide +kernel
theorem dP_move_45 : decode bP_move 45 = .ok (.iconst 0, 1) := by decide +kernel
theorem dP_move_46 : decode bP_move 46 = .ok (.invokestatic 58, 3) := by decide +kernel
theorem dP_move_49 : decode bP_move 49 = .ok (.aload_n 0, 1) := by decide +kernel
theorem dP_move_50 : decode bP_move 50 = .ok (.getfield 16, 3) := by decide +kernel
theorem dP_move_53 : decode bP_move 53 = .ok (.invokevirtual 72, 3) := by decide +kernel
theorem dP_move_56 : decode bP_move 56 = .ok (.iload 4, 2) := by decide +kernel
theorem dP_move_58 : decode bP_move 58 = .ok (.iload_n 2, 1) := by decide +kernel
theorem dP_move_59 : decode bP_move 59 = .ok (.if_icmp .gt 56, 3) := by decide +kernel
theorem dP_move_62 : decode bP_move 62 = .ok (.aload_n 0, 1) := by decide +kernel
theorem dP_move_63 : decode bP_move 63 = .ok (.getfield 16, 3) := by decide +kernel
theorem dP_move_66 : decode bP_move 66 = .ok (.aload 5, 2) := by decide +kernel
theorem dP_move_68 : decode bP_move 68 = .ok (.iconst 0, 1) := by decide +kernel
theorem dP_move_69 : decode bP_move 69 = .ok (.iload 4, 2) := by decide +kernel
theorem dP_move_71 : decode bP_move 71 = .ok (.invokevirtual 75, 3) := by decide +kernel
theorem dP_move_74 : decode bP_move 74 = .ok (.aload_n 0, 1) := by decide +kernel
theorem dP_move_75 : decode bP_move 75 = .ok (.getfield 16, 3) := by decide +kernel
theorem dP_move_78 : decode bP_move 78 = .ok (.aload 5, 2) := by decide +kernel
theorem dP_move_80 : decode bP_move 80 = .ok (.iload_n 2, 1) := by decide +kernel
theorem dP_move_81 : decode bP_move 81 = .ok (.iload_n 3, 1) := by decide +kernel
theorem dP_move_82 : decode bP_move 82 = .ok (.invokevirtual 75, 3) := by decide +kernel
theorem dP_move_85 : decode bP_move 85 = .ok (.aload_n 0, 1) := by decide +kernel
theorem dP_move_86 : decode bP_move 86 = .ok (.getfield 16, 3) := by decide +kernel
theorem dP_move_89 : decode bP_move 89 = .ok (.aload 5, 2) := by decide +kernel
theorem dP_move_91 : decode bP_move 91 = .ok (.iload 4, 2) := by decide +kernel
theorem dP_move_93 : decode bP_move 93 = .ok (.iload_n 2, 1) := by decide +kernel
theorem dP_move_94 : decode bP_move 94 = .ok (.invokevirtual 75, 3) := by decide +kernel
theorem dP_move_97 : decode bP_move 97 = .ok (.aload_n 0, 1) := by decide +kernel
theorem dP_move_98 : decode bP_move 98 = .ok (.getfield 16, 3) := by decide +kernel
theorem dP_move_101 : decode bP_move 101 = .ok (.aload 5, 2) := by decide +kernel
theorem dP_move_103 : decode bP_move 103 = .ok (.iload_n 3, 1) := by decide +kernel
theorem dP_move_104 : decode bP_move 104 = .ok (.aload 5, 2) := by decide +kernel
theorem dP_move_106 : decode bP_move 106 = .ok (.getfield 42, 3) := by decide +kernel
theorem dP_move_109 : decode bP_move 109 = .ok (.invokevirtual 75, 3) := by decide +kernel
theorem dP_move_112 : decode bP_move 112 = .ok (.goto 59, 3) := by decide +kernel
theorem dP_move_115 : decode bP_move 115 = .ok (.aload_n 0, 1) := by decide +kernel
theorem dP_move_116 : decode bP_move 116 = .ok (.getfield 16, 3) := by decide +kernel
theorem dP_move_119 : decode bP_move 119 = .ok (.aload 5, 2) := by decide +kernel
theorem dP_move_121 : decode bP_move 121 = .ok (.iconst 0, 1) := by decide +kernel
theorem dP_move_122 : decode bP_move 122 = .ok (.iload_n 2, 1) := by decide +kernel
theorem dP_move_123 : decode bP_move 123 = .ok (.invokevirtual 75, 3) := by decide +kernel
theorem dP_move_126 : decode bP_move 126 = .ok (.aload_n 0, 1) := by decide +kernel
theorem dP_move_127 : decode bP_move 127 = .ok (.getfield 16, 3) := by decide +kernel
theorem dP_move_130 : decode bP_move 130 = .ok (.aload 5, 2) := by decide +kernel
theorem dP_move_132 : decode bP_move 132 = .ok (.iload_n 3, 1) := by decide +kernel
theorem dP_move_133 : decode bP_move 133 = .ok (.iload 4, 2) := by decide +kernel
theorem dP_move_135 : decode bP_move 135 = .ok (.iload 6, 2) := by decide +kernel
theorem dP_move_137 : decode bP_move 137 = .ok (.iadd, 1) := by decide +kernel
theorem dP_move_138 : decode bP_move 138 = .ok (.invokevirtual 75, 3) := by decide +kernel
theorem dP_move_141 : decode bP_move 141 = .ok (.aload_n 0, 1) := by decide +kernel
theorem dP_move_142 : decode bP_move 142 = .ok (.getfield 16, 3) := by decide +kernel
theorem dP_move_145 : decode bP_move 145 = .ok (.aload 5, 2) := by decide +kernel
theorem dP_move_147 : decode bP_move 147 = .ok (.iload_n 2, 1) := by decide +kernel
theorem dP_move_148 : decode bP_move 148 = .ok (.iload_n 3, 1) := by decide +kernel
theorem dP_move_149 : decode bP_move 149 = .ok (.invokevirtual 75, 3) := by decide +kernel
theorem dP_move_152 : decode bP_move 152 = .ok (.aload_n 0, 1) := by decide +kernel
theorem dP_move_153 : decode bP_move 153 = .ok (.getfield 16, 3) := by decide +kernel
theorem dP_move_156 : decode bP_move 156 = .ok (.aload 5, 2) := by decide +kernel
theorem dP_move_158 : decode bP_move 158 = .ok (.iload 4, 2) := by decide +kernel
theorem dP_move_160 : decode bP_move 160 = .ok (.iload 6, 2) := by decide +kernel
theorem dP_move_162 : decode bP_move 162 = .ok (.iadd, 1) := by decide +kernel
theorem dP_move_163 : decode bP_move 163 = .ok (.aload 5, 2) := by decide +kernel
theorem dP_move_165 : decode bP_move 165 = .ok (.getfield 42, 3) := by decide +kernel
theorem dP_move_168 : decode bP_move 168 = .ok (.invokevirtual 75, 3) := by decide +kernel
theorem dP_move_171 : decode bP_move 171 = .ok (.aload_n 0, 1) := by decide +kernel
theorem dP_move_172 : decode bP_move 172 = .ok (.iload_n 1, 1) := by decide +kernel
theorem dP_move_173 : decode bP_move 173 = .ok (.invokevirtual 79, 3) := by decide +kernel
theorem dP_move_176 : decode bP_move 176 = .ok (.ireturn, 1) := by decide +kernel
theorem dP_repeat_0 : decode bP_repeat 0 = .ok (.aload_n 0, 1) := by decide +kernel
theorem dP_repeat_1 : decode bP_repeat 1 = .ok (.iload_n 1, 1) := by decide +kernel
theorem dP_repeat_2 : decode bP_repeat 2 = .ok (.invokevirtual 34, 3) := by decide +kernel
theorem dP_repeat_5 : decode bP_repeat 5 = .ok (.astore 5, 2) := by decide +kernel
theorem dP_repeat_7 : decode bP_repeat 7 = .ok (.iload 4, 2) := by decide +kernel
theorem dP_repeat_9 : decode bP_repeat 9 = .ok (.ifCond .lt 7, 3) := by decide +kernel
theorem dP_repeat_12 : decode bP_repeat 12 = .ok (.iconst 1, 1) := by decide +kernel
theorem dP_repeat_13 : decode bP_repeat 13 = .ok (.goto 4, 3) := by decide +kernel
theorem dP_repeat_16 : decode bP_repeat 16 = .ok (.iconst 0, 1) := by decide +kernel
theorem dP_repeat_17 : decode bP_repeat 17 = .ok (.invokestatic 38, 3) := by decide +kernel
theorem dP_repeat_20 : decode bP_repeat 20 = .ok (.aload 5, 2) := by decide +kernel
theorem dP_repeat_22 : decode bP_repeat 22 = .ok (.iload_n 2, 1) := by decide +kernel
theorem dP_repeat_23 : decode bP_repeat 23 = .ok (.iload_n 3, 1) := by decide +kernel
theorem dP_repeat_24 : decode bP_repeat 24 = .ok (.i2l, 1) := by decide +kernel
theorem dP_repeat_25 : decode bP_repeat 25 = .ok (.invokevirtual 68, 3) := by decide +kernel
theorem dP_repeat_28 : decode bP_repeat 28 = .ok (.invokestatic 58, 3) := by decide +kernel
theorem dP_repeat_31 : decode bP_repeat 31 = .ok (.iload 4, 2) := by decide +kernel
theorem dP_repeat_33 : decode bP_repeat 33 = .ok (.i2l, 1) := by decide +kernel
theorem dP_repeat_34 : decode bP_repeat 34 = .ok (.iload_n 3, 1) := by decide +kernel
theorem dP_repeat_35 : decode bP_repeat 35 = .ok (.iload_n 2, 1) := by decide +kernel
theorem dP_repeat_36 : decode bP_repeat 36 = .ok (.isub, 1) := by decide +kernel
theorem dP_repeat_37 : decode bP_repeat 37 = .ok (.i2l, 1) := by decide +kernel
theorem dP_repeat_38 : decode bP_repeat 38 = .ok (.lmul, 1) := by decide +kernel
theorem dP_repeat_39 : decode bP_repeat 39 = .ok (.lstore 6, 2) := by decide +kernel
theorem dP_repeat_41 : decode bP_repeat 41 = .ok (.aload 5, 2) := by decide +kernel
theorem dP_repeat_43 : decode bP_repeat 43 = .ok (.getfield 42, 3) := by decide +kernel
theorem dP_repeat_46 : decode bP_repeat 46 = .ok (.iload_n 3, 1) := by decide +kernel
theorem dP_repeat_47 : decode bP_repeat 47 = .ok (.iload_n 2, 1) := by decide +kernel
theorem dP_repeat_48 : decode bP_repeat 48 = .ok (.isub, 1) := by decide +kernel
theorem dP_repeat_49 : decode bP_repeat 49 = .ok (.isub, 1) := by decide +kernel
theorem dP_repeat_50 : decode bP_repeat 50 = .ok (.i2l, 1) := by decide +kernel
theorem dP_repeat_51 : decode bP_repeat 51 = .ok (.lload 6, 2) := by decide +kernel
theorem dP_repeat_53 : decode bP_repeat 53 = .ok (.ladd, 1) := by decide +kernel
theorem dP_repeat_54 : decode bP_repeat 54 = .ok (.invokestatic 46, 3) := by decide +kernel
theorem dP_repeat_57 : decode bP_repeat 57 = .ok (.iload_n 2, 1) := by decide +kernel
theorem dP_repeat_58 : decode bP_repeat 58 = .ok (.iload_n 3, 1) := by decide +kernel
theorem dP_repeat_59 : decode bP_repeat 59 = .ok (.if_icmp .ne 7, 3) := by decide +kernel
theorem dP_repeat_62 : decode bP_repeat 62 = .ok (.iconst 0, 1) := by decide +kernel
theorem dP_repeat_63 : decode bP_repeat 63 = .ok (.goto 5, 3) := by decide +kernel
theorem dP_repeat_66 : decode bP_repeat 66 = .ok (.iload 4, 2) := by decide +kernel
theorem dP_repeat_68 : decode bP_repeat 68 = .ok (.istore 8, 2) := by decide +kernel
theorem dP_repeat_70 : decode bP_repeat 70 = .ok (.aload_n 0, 1) := by decide +kernel
theorem dP_repeat_71 : decode bP_repeat 71 = .ok (.getfield 16, 3) := by decide +kernel
theorem dP_repeat_74 : decode bP_repeat 74 = .ok (.invokevirtual 72, 3) := by decide +kernel
theorem dP_repeat_77 : decode bP_repeat 77 = .ok (.aload_n 0, 1) := by decide +kernel
theorem dP_repeat_78 : decode bP_repeat 78 = .ok (.getfield 16, 3) := by decide +kernel
theorem dP_repeat_81 : decode bP_repeat 81 = .ok (.aload 5, 2) := by decide +kernel
theorem dP_repeat_83 : decode bP_repeat 83 = .ok (.iconst 0, 1) := by decide +kernel
theorem dP_repeat_84 : decode bP_repeat 84 = .ok (.iload_n 2, 1) := by decide +kernel
theorem dP_repeat_85 : decode bP_repeat 85 = .ok (.invokevirtual 75, 3) := by decide +kernel
theorem dP_repeat_88 : decode bP_repeat 88 = .ok (.iconst 0, 1) := by decide +kernel
theorem dP_repeat_89 : decode bP_repeat 89 = .ok (.istore 9, 2) := by decide +kernel
theorem dP_repeat_91 : decode bP_repeat 91 = .ok (.iload 9, 2) := by decide +kernel
theorem dP_repeat_93 : decode bP_repeat 93 = .ok (.iload 8, 2) := by decide +kernel
theorem dP_repeat_95 : decode bP_repeat 95 = .ok (.if_icmp .ge 20, 3) := by decide +kernel
theorem dP_repeat_98 : decode bP_repeat 98 = .ok (.aload_n 0, 1) := by decide +kernel
theorem dP_repeat_99 : decode bP_repeat 99 = .ok (.getfield 16, 3) := by decide +kernel
theorem dP_repeat_102 : decode bP_repeat 102 = .ok (.aload 5, 2) := by decide +kernel
theorem dP_repeat_104 : decode bP_repeat 104 = .ok (.iload_n 2, 1) := by decide +kernel
theorem dP_repeat_105 : decode bP_repeat 105 = .ok (.iload_n 3, 1) := by decide +kernel
theorem dP_repeat_106 : decode bP_repeat 106 = .ok (.invokevirtual 75, 3) := by decide +kernel
theorem dP_repeat_109 : decode bP_repeat 109 = .ok (.iinc 9 1, 3) := by decide +kernel
theorem dP_repeat_112 : decode bP_repeat 112 = .ok (.goto (-21), 3) := by decide +kernel
theorem dP_repeat_115 : decode bP_repeat 115 = .ok (.aload_n 0, 1) := by decide +kernel
theorem dP_repeat_116 : decode bP_repeat 116 = .ok (.getfield 16, 3) := by decide +kernel
theorem dP_repeat_119 : decode bP_repeat 119 = .ok (.aload 5, 2) := by decide +kernel
theorem dP_repeat_121 : decode bP_repeat 121 = .ok (.iload_n 3, 1) := by decide +kernel
theorem dP_repeat_122 : decode bP_repeat 122 = .ok (.aload 5, 2) := by decide +kernel
theorem dP_repeat_124 : decode bP_repeat 124 = .ok (.getfield 42, 3) := by decide +kernel
theorem dP_repeat_127 : decode bP_repeat 127 = .ok (.invokevirtual 75, 3) := by decide +kernel
theorem dP_repeat_130 : decode bP_repeat 130 = .ok (.aload_n 0, 1) := by decide +kernel
theorem dP_repeat_131 : decode bP_repeat 131 = .ok (.iload_n 1, 1) := by decide +kernel
theorem dP_repeat_132 : decode bP_repeat 132 = .ok (.invokevirtual 79, 3) := by decide +kernel
theorem dP_repeat_135 : decode bP_repeat 135 = .ok (.ireturn, 1) := by decide +kernel
theorem dP_same_0 : decode bP_same 0 = .ok (.aload_n 0, 1) := by decide +kernel
theorem dP_same_1 : decode bP_same 1 = .ok (.iload_n 1, 1) := by decide +kernel
theorem dP_same_2 : decode bP_same 2 = .ok (.invokevirtual 34, 3) := by decide +kernel
theorem dP_same_5 : decode bP_same 5 = .ok (.astore 6, 2) := by decide +kernel
theorem dP_same_7 : decode bP_same 7 = .ok (.aload_n 0, 1) := by decide +kernel
theorem dP_same_8 : decode bP_same 8 = .ok (.iload_n 3, 1) := by decide +kernel
theorem dP_same_9 : decode bP_same 9 = .ok (.invokevirtual 34, 3) := by decide +kernel
theorem dP_same_12 : decode bP_same 12 = .ok (.astore 7, 2) := by decide +kernel
theorem dP_same_14 : decode bP_same 14 = .ok (.iload 5, 2) := by decide +kernel
theorem dP_same_16 : decode bP_same 16 = .ok (.ifCond .lt 7, 3) := by decide +kernel
theorem dP_same_19 : decode bP_same 19 = .ok (.iconst 1, 1) := by decide +kernel
theorem dP_same_20 : decode bP_same 20 = .ok (.goto 4, 3) := by decide +kernel
theorem dP_same_23 : decode bP_same 23 = .ok (.iconst 0, 1) := by decide +kernel
theorem dP_same_24 : decode bP_same 24 = .ok (.invokestatic 38, 3) := by decide +kernel
theorem dP_same_27 : decode bP_same 27 = .ok (.aload 6, 2) := by decide +kernel
theorem dP_same_29 : decode bP_same 29 = .ok (.iload_n 2, 1) := by decide +kernel
theorem dP_same_30 : decode bP_same 30 = .ok (.iload_n 2, 1) := by decide +kernel
theorem dP_same_31 : decode bP_same 31 = .ok (.i2l, 1) := by decide +kernel
theorem dP_same_32 : decode bP_same 32 = .ok (.iload 5, 2) := by decide +kernel
theorem dP_same_34 : decode bP_same 34 = .ok (.i2l, 1) := by decide +kernel
theorem dP_same_35 : decode bP_same 35 = .ok (.ladd, 1) := by decide +kernel
theorem dP_same_36 : decode bP_same 36 = .ok (.invokevirtual 68, 3) := by decide +kernel
theorem dP_same_39 : decode bP_same 39 = .ok (.ifCond .eq 24, 3) := by decide +kernel
theorem dP_same_42 : decode bP_same 42 = .ok (.aload 7, 2) := by decide +kernel
theorem dP_same_44 : decode bP_same 44 = .ok (.iload 4, 2) := by decide +kernel
theorem dP_same_46 : decode bP_same 46 = .ok (.iload 4, 2) := by decide +kernel
theorem dP_same_48 : decode bP_same 48 = .ok (.i2l, 1) := by decide +kernel
theorem dP_same_49 : decode bP_same 49 = .ok (.iload 5, 2) := by decide +kernel
theorem dP_same_51 : decode bP_same 51 = .ok (.i2l, 1) := by decide +kernel
theorem dP_same_52 : decode bP_same 52 = .ok (.ladd, 1) := by decide +kernel
theorem dP_same_53 : decode bP_same 53 = .ok (.invokevirtual 68, 3) := by decide +kernel
theorem dP_same_56 : decode bP_same 56 = .ok (.ifCond .eq 7, 3) := by decide +kernel
theorem dP_same_59 : decode bP_same 59 = .ok (.iconst 1, 1) := by decide +kernel
theorem dP_same_60 : decode bP_same 60 = .ok (.goto 4, 3) := by decide +kernel
theorem dP_same_63 : decode bP_same 63 = .ok (.iconst 0, 1) := by decide +kernel
theorem dP_same_64 : decode bP_same 64 = .ok (.invokestatic 58, 3) := by decide +kernel
theorem dP_same_67 : decode bP_same 67 = .ok (.aload 6, 2) := by decide +kernel
theorem dP_same_69 : decode bP_same 69 = .ok (.iload_n 2, 1) := by decide +kernel
theorem dP_same_70 : decode bP_same 70 = .ok (.aload 7, 2) := by decide +kernel
theorem dP_same_72 : decode bP_same 72 = .ok (.iload 4, 2) := by decide +kernel
theorem dP_same_74 : decode bP_same 74 = .ok (.invokestatic 87, 3) := by decide +kernel
theorem dP_same_77 : decode bP_same 77 = .ok (.iload 5, 2) := by decide +kernel
theorem dP_same_79 : decode bP_same 79 = .ok (.if_icmp .lt 7, 3) := by decide +kernel
theorem dP_same_82 : decode bP_same 82 = .ok (.iconst 1, 1) := by decide +kernel
theorem dP_same_83 : decode bP_same 83 = .ok (.goto 4, 3) := by decide +kernel
theorem dP_same_86 : decode bP_same 86 = .ok (.iconst 0, 1) := by decide +kernel
theorem dP_same_87 : decode bP_same 87 = .ok (.ireturn, 1) := by decide +kernel
theorem dP_prefix_0 : decode bP_prefix 0 = .ok (.aload_n 0, 1) := by decide +kernel
theorem dP_prefix_1 : decode bP_prefix 1 = .ok (.iload_n 1, 1) := by decide +kernel
theorem dP_prefix_2 : decode bP_prefix 2 = .ok (.invokevirtual 34, 3) := by decide +kernel
theorem dP_prefix_5 : decode bP_prefix 5 = .ok (.astore 5, 2) := by decide +kernel
theorem dP_prefix_7 : decode bP_prefix 7 = .ok (.aload_n 0, 1) := by decide +kernel
theorem dP_prefix_8 : decode bP_prefix 8 = .ok (.iload_n 3, 1) := by decide +kernel
theorem dP_prefix_9 : decode bP_prefix 9 = .ok (.invokevirtual 34, 3) := by decide +kernel
theorem dP_prefix_12 : decode bP_prefix 12 = .ok (.astore 6, 2) := by decide +kernel
theorem dP_prefix_14 : decode bP_prefix 14 = .ok (.aload 5, 2) := by decide +kernel
theorem dP_prefix_16 : decode bP_prefix 16 = .ok (.iload_n 2, 1) := by decide +kernel
theorem dP_prefix_17 : decode bP_prefix 17 = .ok (.invokevirtual 83, 3) := by decide +kernel
theorem dP_prefix_20 : decode bP_prefix 20 = .ok (.ifCond .eq 17, 3) := by decide +kernel
theorem dP_prefix_23 : decode bP_prefix 23 = .ok (.aload 6, 2) := by decide +kernel
theorem dP_prefix_25 : decode bP_prefix 25 = .ok (.iload 4, 2) := by decide +kernel
theorem dP_prefix_27 : decode bP_prefix 27 = .ok (.invokevirtual 83, 3) := by decide +kernel
theorem dP_prefix_30 : decode bP_prefix 30 = .ok (.ifCond .eq 7, 3) := by decide +kernel
theorem dP_prefix_33 : decode bP_prefix 33 = .ok (.iconst 1, 1) := by decide +kernel
theorem dP_prefix_34 : decode bP_prefix 34 = .ok (.goto 4, 3) := by decide +kernel
theorem dP_prefix_37 : decode bP_prefix 37 = .ok (.iconst 0, 1) := by decide +kernel
theorem dP_prefix_38 : decode bP_prefix 38 = .ok (.invokestatic 58, 3) := by decide +kernel
theorem dP_prefix_41 : decode bP_prefix 41 = .ok (.aload 5, 2) := by decide +kernel
theorem dP_prefix_43 : decode bP_prefix 43 = .ok (.iload_n 2, 1) := by decide +kernel
theorem dP_prefix_44 : decode bP_prefix 44 = .ok (.aload 6, 2) := by decide +kernel
theorem dP_prefix_46 : decode bP_prefix 46 = .ok (.iload 4, 2) := by decide +kernel
theorem dP_prefix_48 : decode bP_prefix 48 = .ok (.invokestatic 87, 3) := by decide +kernel
theorem dP_prefix_51 : decode bP_prefix 51 = .ok (.ireturn, 1) := by decide +kernel
theorem dP_order_0 : decode bP_order 0 = .ok (.aload_n 0, 1) := by decide +kernel
theorem dP_order_1 : decode bP_order 1 = .ok (.iload_n 1, 1) := by decide +kernel
theorem dP_order_2 : decode bP_order 2 = .ok (.invokevirtual 34, 3) := by decide +kernel
theorem dP_order_5 : decode bP_order 5 = .ok (.astore 5, 2) := by decide +kernel
theorem dP_order_7 : decode bP_order 7 = .ok (.aload_n 0, 1) := by decide +kernel
theorem dP_order_8 : decode bP_order 8 = .ok (.iload_n 3, 1) := by decide +kernel
theorem dP_order_9 : decode bP_order 9 = .ok (.invokevirtual 34, 3) := by decide +kernel
theorem dP_order_12 : decode bP_order 12 = .ok (.astore 6, 2) := by decide +kernel
theorem dP_order_14 : decode bP_order 14 = .ok (.aload 5, 2) := by decide +kernel
theorem dP_order_16 : decode bP_order 16 = .ok (.iload_n 2, 1) := by decide +kernel
theorem dP_order_17 : decode bP_order 17 = .ok (.invokevirtual 83, 3) := by decide +kernel
theorem dP_order_20 : decode bP_order 20 = .ok (.ifCond .eq 17, 3) := by decide +kernel
theorem dP_order_23 : decode bP_order 23 = .ok (.aload 6, 2) := by decide +kernel
theorem dP_order_25 : decode bP_order 25 = .ok (.iload 4, 2) := by decide +kernel
theorem dP_order_27 : decode bP_order 27 = .ok (.invokevirtual 83, 3) := by decide +kernel
theorem dP_order_30 : decode bP_order 30 = .ok (.ifCond .eq 7, 3) := by decide +kernel
theorem dP_order_33 : decode bP_order 33 = .ok (.iconst 1, 1) := by decide +kernel
theorem dP_order_34 : decode bP_order 34 = .ok (.goto 4, 3) := by decide +kernel
theorem dP_order_37 : decode bP_order 37 = .ok (.iconst 0, 1) := by decide +kernel
theorem dP_order_38 : decode bP_order 38 = .ok (.invokestatic 58, 3) := by decide +kernel
theorem dP_order_41 : decode bP_order 41 = .ok (.aload 5, 2) := by decide +kernel
theorem dP_order_43 : decode bP_order 43 = .ok (.iload_n 2, 1) := by decide +kernel
theorem dP_order_44 : decode bP_order 44 = .ok (.aload 6, 2) := by decide +kernel
theorem dP_order_46 : decode bP_order 46 = .ok (.iload 4, 2) := by decide +kernel
theorem dP_order_48 : decode bP_order 48 = .ok (.invokestatic 87, 3) := by decide +kernel
theorem dP_order_51 : decode bP_order 51 = .ok (.istore 7, 2) := by decide +kernel
theorem dP_order_53 : decode bP_order 53 = .ok (.iload_n 2, 1) := by decide +kernel
theorem dP_order_54 : decode bP_order 54 = .ok (.iload 7, 2) := by decide +kernel
theorem dP_order_56 : decode bP_order 56 = .ok (.iadd, 1) := by decide +kernel
theorem dP_order_57 : decode bP_order 57 = .ok (.aload 5, 2) := by decide +kernel
theorem dP_order_59 : decode bP_order 59 = .ok (.getfield 42, 3) := by decide +kernel
theorem dP_order_62 : decode bP_order 62 = .ok (.if_icmp .ne 7, 3) := by decide +kernel
theorem dP_order_65 : decode bP_order 65 = .ok (.iconst 1, 1) := by decide +kernel
theorem dP_order_66 : decode bP_order 66 = .ok (.goto 4, 3) := by decide +kernel
theorem dP_order_69 : decode bP_order 69 = .ok (.iconst 0, 1) := by decide +kernel
theorem dP_order_70 : decode bP_order 70 = .ok (.istore 8, 2) := by decide +kernel
theorem dP_order_72 : decode bP_order 72 = .ok (.iload 4, 2) := by decide +kernel
theorem dP_order_74 : decode bP_order 74 = .ok (.iload 7, 2) := by decide +kernel
theorem dP_order_76 : decode bP_order 76 = .ok (.iadd, 1) := by decide +kernel
theorem dP_order_77 : decode bP_order 77 = .ok (.aload 6, 2) := by decide +kernel
theorem dP_order_79 : decode bP_order 79 = .ok (.getfield 42, 3) := by decide +kernel
theorem dP_order_82 : decode bP_order 82 = .ok (.if_icmp .ne 7, 3) := by decide +kernel
theorem dP_order_85 : decode bP_order 85 = .ok (.iconst 1, 1) := by decide +kernel
theorem dP_order_86 : decode bP_order 86 = .ok (.goto 4, 3) := by decide +kernel
theorem dP_order_89 : decode bP_order 89 = .ok (.iconst 0, 1) := by decide +kernel
theorem dP_order_90 : decode bP_order 90 = .ok (.istore 9, 2) := by decide +kernel
theorem dP_order_92 : decode bP_order 92 = .ok (.iload 8, 2) := by decide +kernel
theorem dP_order_94 : decode bP_order 94 = .ok (.ifCond .eq 10, 3) := by decide +kernel
theorem dP_order_97 : decode bP_order 97 = .ok (.iload 9, 2) := by decide +kernel
theorem dP_order_99 : decode bP_order 99 = .ok (.ifCond .eq 5, 3) := by decide +kernel
theorem dP_order_102 : decode bP_order 102 = .ok (.iconst 0, 1) := by decide +kernel
theorem dP_order_103 : decode bP_order 103 = .ok (.ireturn, 1) := by decide +kernel
theorem dP_order_104 : decode bP_order 104 = .ok (.iload 8, 2) := by decide +kernel
theorem dP_order_106 : decode bP_order 106 = .ok (.ifCond .eq 5, 3) := by decide +kernel
theorem dP_order_109 : decode bP_order 109 = .ok (.iconst (-1), 1) := by decide +kernel
theorem dP_order_110 : decode bP_order 110 = .ok (.ireturn, 1) := by decide +kernel
theorem dP_order_111 : decode bP_order 111 = .ok (.iload 9, 2) := by decide +kernel
theorem dP_order_113 : decode bP_order 113 = .ok (.ifCond .eq 5, 3) := by decide +kernel
theorem dP_order_116 : decode bP_order 116 = .ok (.iconst 1, 1) := by decide +kernel
theorem dP_order_117 : decode bP_order 117 = .ok (.ireturn, 1) := by decide +kernel
theorem dP_order_118 : decode bP_order 118 = .ok (.aload 5, 2) := by decide +kernel
theorem dP_order_120 : decode bP_order 120 = .ok (.getfield 61, 3) := by decide +kernel
theorem dP_order_123 : decode bP_order 123 = .ok (.iload_n 2, 1) := by decide +kernel
theorem dP_order_124 : decode bP_order 124 = .ok (.iload 7, 2) := by decide +kernel
theorem dP_order_126 : decode bP_order 126 = .ok (.iadd, 1) := by decide +kernel
theorem dP_order_127 : decode bP_order 127 = .ok (.iaload, 1) := by decide +kernel
theorem dP_order_128 : decode bP_order 128 = .ok (.aload 6, 2) := by decide +kernel
theorem dP_order_130 : decode bP_order 130 = .ok (.getfield 61, 3) := by decide +kernel
theorem dP_order_133 : decode bP_order 133 = .ok (.iload 4, 2) := by decide +kernel
theorem dP_order_135 : decode bP_order 135 = .ok (.iload 7, 2) := by decide +kernel
theorem dP_order_137 : decode bP_order 137 = .ok (.iadd, 1) := by decide +kernel
theorem dP_order_138 : decode bP_order 138 = .ok (.iaload, 1) := by decide +kernel
theorem dP_order_139 : decode bP_order 139 = .ok (.if_icmp .ge 7, 3) := by decide +kernel
theorem dP_order_142 : decode bP_order 142 = .ok (.iconst (-1), 1) := by decide +kernel
theorem dP_order_143 : decode bP_order 143 = .ok (.goto 4, 3) := by decide +kernel
theorem dP_order_146 : decode bP_order 146 = .ok (.iconst 1, 1) := by decide +kernel
theorem dP_order_147 : decode bP_order 147 = .ok (.ireturn, 1) := by decide +kernel
theorem dP_name_0 : decode bP_name 0 = .ok (.aload_n 0, 1) := by decide +kernel
theorem dP_name_1 : decode bP_name 1 = .ok (.iload_n 1, 1) := by decide +kernel
theorem dP_name_2 : decode bP_name 2 = .ok (.invokevirtual 34, 3) := by decide +kernel
theorem dP_name_5 : decode bP_name 5 = .ok (.astore 4, 2) := by decide +kernel
theorem dP_name_7 : decode bP_name 7 = .ok (.aload 4, 2) := by decide +kernel
theorem dP_name_9 : decode bP_name 9 = .ok (.iload_n 2, 1) := by decide +kernel
theorem dP_name_10 : decode bP_name 10 = .ok (.iload_n 3, 1) := by decide +kernel
theorem dP_name_11 : decode bP_name 11 = .ok (.i2l, 1) := by decide +kernel
theorem dP_name_12 : decode bP_name 12 = .ok (.invokevirtual 68, 3) := by decide +kernel
theorem dP_name_15 : decode bP_name 15 = .ok (.invokestatic 58, 3) := by decide +kernel
theorem dP_name_18 : decode bP_name 18 = .ok (.lconst 0, 1) := by decide +kernel
theorem dP_name_19 : decode bP_name 19 = .ok (.lstore 5, 2) := by decide +kernel
theorem dP_name_21 : decode bP_name 21 = .ok (.iload_n 2, 1) := by decide +kernel
theorem dP_name_22 : decode bP_name 22 = .ok (.istore 7, 2) := by decide +kernel
theorem dP_name_24 : decode bP_name 24 = .ok (.iload 7, 2) := by decide +kernel
theorem dP_name_26 : decode bP_name 26 = .ok (.iload_n 3, 1) := by decide +kernel
theorem dP_name_27 : decode bP_name 27 = .ok (.if_icmp .ge 24, 3) := by decide +kernel
theorem dP_name_30 : decode bP_name 30 = .ok (.lload 5, 2) := by decide +kernel
theorem dP_name_32 : decode bP_name 32 = .ok (.aload 4, 2) := by decide +kernel
theorem dP_name_34 : decode bP_name 34 = .ok (.getfield 61, 3) := by decide +kernel
theorem dP_name_37 : decode bP_name 37 = .ok (.iload 7, 2) := by decide +kernel
theorem dP_name_39 : decode bP_name 39 = .ok (.iaload, 1) := by decide +kernel
theorem dP_name_40 : decode bP_name 40 = .ok (.invokestatic 91, 3) := by decide +kernel
theorem dP_name_43 : decode bP_name 43 = .ok (.lstore 5, 2) := by decide +kernel
theorem dP_name_45 : decode bP_name 45 = .ok (.iinc 7 1, 3) := by decide +kernel
theorem dP_name_48 : decode bP_name 48 = .ok (.goto (-24), 3) := by decide +kernel
theorem dP_name_51 : decode bP_name 51 = .ok (.lload 5, 2) := by decide +kernel
theorem dP_name_53 : decode bP_name 53 = .ok (.lreturn, 1) := by decide +kernel
theorem dP_pattern_0 : decode bP_pattern 0 = .ok (.iload 5, 2) := by decide +kernel
theorem dP_pattern_2 : decode bP_pattern 2 = .ok (.iconst 1, 1) := by decide +kernel
theorem dP_pattern_3 : decode bP_pattern 3 = .ok (.if_icmp .lt 14, 3) := by decide +kernel
theorem dP_pattern_6 : decode bP_pattern 6 = .ok (.iload 5, 2) := by decide +kernel
theorem dP_pattern_8 : decode bP_pattern 8 = .ok (.bipush 16, 2) := by decide +kernel
theorem dP_pattern_10 : decode bP_pattern 10 = .ok (.if_icmp .gt 7, 3) := by decide +kernel
theorem dP_pattern_13 : decode bP_pattern 13 = .ok (.iconst 1, 1) := by decide +kernel
theorem dP_pattern_14 : decode bP_pattern 14 = .ok (.goto 4, 3) := by decide +kernel
theorem dP_pattern_17 : decode bP_pattern 17 = .ok (.iconst 0, 1) := by decide +kernel
theorem dP_pattern_18 : decode bP_pattern 18 = .ok (.invokestatic 38, 3) := by decide +kernel
theorem dP_pattern_21 : decode bP_pattern 21 = .ok (.aload_n 0, 1) := by decide +kernel
theorem dP_pattern_22 : decode bP_pattern 22 = .ok (.getfield 23, 3) := by decide +kernel
theorem dP_pattern_25 : decode bP_pattern 25 = .ok (.lload_n 1, 1) := by decide +kernel
theorem dP_pattern_26 : decode bP_pattern 26 = .ok (.lload_n 3, 1) := by decide +kernel
theorem dP_pattern_27 : decode bP_pattern 27 = .ok (.iload 5, 2) := by decide +kernel
theorem dP_pattern_29 : decode bP_pattern 29 = .ok (.invokevirtual 95, 3) := by decide +kernel
theorem dP_pattern_32 : decode bP_pattern 32 = .ok (.return_, 1) := by decide +kernel
theorem dP_count_0 : decode bP_count 0 = .ok (.aload_n 0, 1) := by decide +kernel
theorem dP_count_1 : decode bP_count 1 = .ok (.iload_n 1, 1) := by decide +kernel
theorem dP_count_2 : decode bP_count 2 = .ok (.invokevirtual 34, 3) := by decide +kernel
theorem dP_count_5 : decode bP_count 5 = .ok (.astore 4, 2) := by decide +kernel
theorem dP_count_7 : decode bP_count 7 = .ok (.aload 4, 2) := by decide +kernel
theorem dP_count_9 : decode bP_count 9 = .ok (.iload_n 2, 1) := by decide +kernel
theorem dP_count_10 : decode bP_count 10 = .ok (.iload_n 3, 1) := by decide +kernel
theorem dP_count_11 : decode bP_count 11 = .ok (.i2l, 1) := by decide +kernel
theorem dP_count_12 : decode bP_count 12 = .ok (.invokevirtual 68, 3) := by decide +kernel
theorem dP_count_15 : decode bP_count 15 = .ok (.invokestatic 58, 3) := by decide +kernel
theorem dP_count_18 : decode bP_count 18 = .ok (.aload_n 0, 1) := by decide +kernel
theorem dP_count_19 : decode bP_count 19 = .ok (.invokevirtual 99, 3) := by decide +kernel
theorem dP_count_22 : decode bP_count 22 = .ok (.iconst 0, 1) := by decide +kernel
theorem dP_count_23 : decode bP_count 23 = .ok (.istore 5, 2) := by decide +kernel
theorem dP_count_25 : decode bP_count 25 = .ok (.iload_n 2, 1) := by decide +kernel
theorem dP_count_26 : decode bP_count 26 = .ok (.istore 6, 2) := by decide +kernel
theorem dP_count_28 : decode bP_count 28 = .ok (.iload 6, 2) := by decide +kernel
theorem dP_count_30 : decode bP_count 30 = .ok (.iload_n 3, 1) := by decide +kernel
theorem dP_count_31 : decode bP_count 31 = .ok (.if_icmp .ge 27, 3) := by decide +kernel
theorem dP_count_34 : decode bP_count 34 = .ok (.aload_n 0, 1) := by decide +kernel
theorem dP_count_35 : decode bP_count 35 = .ok (.getfield 23, 3) := by decide +kernel
theorem dP_count_38 : decode bP_count 38 = .ok (.aload 4, 2) := by decide +kernel
theorem dP_count_40 : decode bP_count 40 = .ok (.iload 6, 2) := by decide +kernel
theorem dP_count_42 : decode bP_count 42 = .ok (.iload_n 3, 1) := by decide +kernel
theorem dP_count_43 : decode bP_count 43 = .ok (.invokevirtual 102, 3) := by decide +kernel
theorem dP_count_46 : decode bP_count 46 = .ok (.ifCond .eq 6, 3) := by decide +kernel
theorem dP_count_49 : decode bP_count 49 = .ok (.iinc 5 1, 3) := by decide +kernel
theorem dP_count_52 : decode bP_count 52 = .ok (.iinc 6 1, 3) := by decide +kernel
theorem dP_count_55 : decode bP_count 55 = .ok (.goto (-27), 3) := by decide +kernel
theorem dP_count_58 : decode bP_count 58 = .ok (.iload 5, 2) := by decide +kernel
theorem dP_count_60 : decode bP_count 60 = .ok (.ireturn, 1) := by decide +kernel
theorem dP_find_0 : decode bP_find 0 = .ok (.aload_n 0, 1) := by decide +kernel
theorem dP_find_1 : decode bP_find 1 = .ok (.iload_n 1, 1) := by decide +kernel
theorem dP_find_2 : decode bP_find 2 = .ok (.invokevirtual 34, 3) := by decide +kernel
theorem dP_find_5 : decode bP_find 5 = .ok (.astore 4, 2) := by decide +kernel
theorem dP_find_7 : decode bP_find 7 = .ok (.iload_n 3, 1) := by decide +kernel
theorem dP_find_8 : decode bP_find 8 = .ok (.ifCond .lt 7, 3) := by decide +kernel
theorem dP_find_11 : decode bP_find 11 = .ok (.iconst 1, 1) := by decide +kernel
theorem dP_find_12 : decode bP_find 12 = .ok (.goto 4, 3) := by decide +kernel
theorem dP_find_15 : decode bP_find 15 = .ok (.iconst 0, 1) := by decide +kernel
theorem dP_find_16 : decode bP_find 16 = .ok (.invokestatic 38, 3) := by decide +kernel
theorem dP_find_19 : decode bP_find 19 = .ok (.aload 4, 2) := by decide +kernel
theorem dP_find_21 : decode bP_find 21 = .ok (.iload_n 2, 1) := by decide +kernel
theorem dP_find_22 : decode bP_find 22 = .ok (.invokevirtual 83, 3) := by decide +kernel
theorem dP_find_25 : decode bP_find 25 = .ok (.invokestatic 58, 3) := by decide +kernel
theorem dP_find_28 : decode bP_find 28 = .ok (.aload_n 0, 1) := by decide +kernel
theorem dP_find_29 : decode bP_find 29 = .ok (.invokevirtual 99, 3) := by decide +kernel
theorem dP_find_32 : decode bP_find 32 = .ok (.iconst 0, 1) := by decide +kernel
theorem dP_find_33 : decode bP_find 33 = .ok (.istore 5, 2) := by decide +kernel
theorem dP_find_35 : decode bP_find 35 = .ok (.iload_n 2, 1) := by decide +kernel
theorem dP_find_36 : decode bP_find 36 = .ok (.istore 6, 2) := by decide +kernel
theorem dP_find_38 : decode bP_find 38 = .ok (.iload 6, 2) := by decide +kernel
theorem dP_find_40 : decode bP_find 40 = .ok (.aload 4, 2) := by decide +kernel
theorem dP_find_42 : decode bP_find 42 = .ok (.getfield 42, 3) := by decide +kernel
theorem dP_find_45 : decode bP_find 45 = .ok (.if_icmp .ge 40, 3) := by decide +kernel
theorem dP_find_48 : decode bP_find 48 = .ok (.aload_n 0, 1) := by decide +kernel
theorem dP_find_49 : decode bP_find 49 = .ok (.getfield 23, 3) := by decide +kernel
theorem dP_find_52 : decode bP_find 52 = .ok (.aload 4, 2) := by decide +kernel
theorem dP_find_54 : decode bP_find 54 = .ok (.iload 6, 2) := by decide +kernel
theorem dP_find_56 : decode bP_find 56 = .ok (.aload 4, 2) := by decide +kernel
theorem dP_find_58 : decode bP_find 58 = .ok (.getfield 42, 3) := by decide +kernel
theorem dP_find_61 : decode bP_find 61 = .ok (.invokevirtual 102, 3) := by decide +kernel
theorem dP_find_64 : decode bP_find 64 = .ok (.ifCond .eq 15, 3) := by decide +kernel
theorem dP_find_67 : decode bP_find 67 = .ok (.iload 5, 2) := by decide +kernel
theorem dP_find_69 : decode bP_find 69 = .ok (.iload_n 3, 1) := by decide +kernel
theorem dP_find_70 : decode bP_find 70 = .ok (.if_icmp .ne 6, 3) := by decide +kernel
theorem dP_find_73 : decode bP_find 73 = .ok (.iload 6, 2) := by decide +kernel
theorem dP_find_75 : decode bP_find 75 = .ok (.ireturn, 1) := by decide +kernel
theorem dP_find_76 : decode bP_find 76 = .ok (.iinc 5 1, 3) := by decide +kernel
theorem dP_find_79 : decode bP_find 79 = .ok (.iinc 6 1, 3) := by decide +kernel
theorem dP_find_82 : decode bP_find 82 = .ok (.goto (-44), 3) := by decide +kernel
theorem dP_find_85 : decode bP_find 85 = .ok (.iconst (-1), 1) := by decide +kernel
theorem dP_find_86 : decode bP_find 86 = .ok (.ireturn, 1) := by decide +kernel
theorem dP_lead_0 : decode bP_lead 0 = .ok (.iload_n 1, 1) := by decide +kernel
theorem dP_lead_1 : decode bP_lead 1 = .ok (.invokestatic 106, 3) := by decide +kernel
theorem dP_lead_4 : decode bP_lead 4 = .ok (.iload 4, 2) := by decide +kernel
theorem dP_lead_6 : decode bP_lead 6 = .ok (.invokestatic 106, 3) := by decide +kernel
theorem dP_lead_9 : decode bP_lead 9 = .ok (.iconst 0, 1) := by decide +kernel
theorem dP_lead_10 : decode bP_lead 10 = .ok (.iload_n 2, 1) := by decide +kernel
theorem dP_lead_11 : decode bP_lead 11 = .ok (.if_icmp .gt 19, 3) := by decide +kernel
theorem dP_lead_14 : decode bP_lead 14 = .ok (.iload_n 2, 1) := by decide +kernel
theorem dP_lead_15 : decode bP_lead 15 = .ok (.iload_n 3, 1) := by decide +kernel
theorem dP_lead_16 : decode bP_lead 16 = .ok (.if_icmp .gt 14, 3) := by decide +kernel
theorem dP_lead_19 : decode bP_lead 19 = .ok (.iload_n 3, 1) := by decide +kernel
theorem dP_lead_20 : decode bP_lead 20 = .ok (.sipush 256, 3) := by decide +kernel
theorem dP_lead_23 : decode bP_lead 23 = .ok (.if_icmp .ge 7, 3) := by decide +kernel
theorem dP_lead_26 : decode bP_lead 26 = .ok (.iconst 1, 1) := by decide +kernel
theorem dP_lead_27 : decode bP_lead 27 = .ok (.goto 4, 3) := by decide +kernel
theorem dP_lead_30 : decode bP_lead 30 = .ok (.iconst 0, 1) := by decide +kernel
theorem dP_lead_31 : decode bP_lead 31 = .ok (.invokestatic 38, 3) := by decide +kernel
theorem dP_lead_34 : decode bP_lead 34 = .ok (.iload_n 2, 1) := by decide +kernel
theorem dP_lead_35 : decode bP_lead 35 = .ok (.istore 5, 2) := by decide +kernel
theorem dP_lead_37 : decode bP_lead 37 = .ok (.iload 5, 2) := by decide +kernel
theorem dP_lead_39 : decode bP_lead 39 = .ok (.iload_n 3, 1) := by decide +kernel
theorem dP_lead_40 : decode bP_lead 40 = .ok (.if_icmp .gt 21, 3) := by decide +kernel
theorem dP_lead_43 : decode bP_lead 43 = .ok (.aload_n 0, 1) := by decide +kernel
theorem dP_lead_44 : decode bP_lead 44 = .ok (.getfield 30, 3) := by decide +kernel
theorem dP_lead_47 : decode bP_lead 47 = .ok (.iload_n 1, 1) := by decide +kernel
theorem dP_lead_48 : decode bP_lead 48 = .ok (.iload 5, 2) := by decide +kernel
theorem dP_lead_50 : decode bP_lead 50 = .ok (.iload 4, 2) := by decide +kernel
theorem dP_lead_52 : decode bP_lead 52 = .ok (.invokevirtual 109, 3) := by decide +kernel
theorem dP_lead_55 : decode bP_lead 55 = .ok (.iinc 5 1, 3) := by decide +kernel
theorem dP_lead_58 : decode bP_lead 58 = .ok (.goto (-21), 3) := by decide +kernel
theorem dP_lead_61 : decode bP_lead 61 = .ok (.return_, 1) := by decide +kernel
theorem dP_accept_0 : decode bP_accept 0 = .ok (.iload_n 1, 1) := by decide +kernel
theorem dP_accept_1 : decode bP_accept 1 = .ok (.invokestatic 106, 3) := by decide +kernel
theorem dP_accept_4 : decode bP_accept 4 = .ok (.aload_n 0, 1) := by decide +kernel
theorem dP_accept_5 : decode bP_accept 5 = .ok (.getfield 30, 3) := by decide +kernel
theorem dP_accept_8 : decode bP_accept 8 = .ok (.getfield 113, 3) := by decide +kernel
theorem dP_accept_11 : decode bP_accept 11 = .ok (.iload_n 1, 1) := by decide +kernel
theorem dP_accept_12 : decode bP_accept 12 = .ok (.iload_n 2, 1) := by decide +kernel
theorem dP_accept_13 : decode bP_accept 13 = .ok (.bastore, 1) := by decide +kernel
theorem dP_accept_14 : decode bP_accept 14 = .ok (.return_, 1) := by decide +kernel
theorem dP_run_0 : decode bP_run 0 = .ok (.aload_n 0, 1) := by decide +kernel
theorem dP_run_1 : decode bP_run 1 = .ok (.iload_n 1, 1) := by decide +kernel
theorem dP_run_2 : decode bP_run 2 = .ok (.invokevirtual 34, 3) := by decide +kernel
theorem dP_run_5 : decode bP_run 5 = .ok (.astore 5, 2) := by decide +kernel
theorem dP_run_7 : decode bP_run 7 = .ok (.iload 4, 2) := by decide +kernel
theorem dP_run_9 : decode bP_run 9 = .ok (.invokestatic 106, 3) := by decide +kernel
theorem dP_run_12 : decode bP_run 12 = .ok (.aload 5, 2) := by decide +kernel
theorem dP_run_14 : decode bP_run 14 = .ok (.iload_n 2, 1) := by decide +kernel
theorem dP_run_15 : decode bP_run 15 = .ok (.iload_n 3, 1) := by decide +kernel
theorem dP_run_16 : decode bP_run 16 = .ok (.i2l, 1) := by decide +kernel
theorem dP_run_17 : decode bP_run 17 = .ok (.invokevirtual 68, 3) := by decide +kernel
theorem dP_run_20 : decode bP_run 20 = .ok (.invokestatic 58, 3) := by decide +kernel
theorem dP_run_23 : decode bP_run 23 = .ok (.iload 4, 2) := by decide +kernel
theorem dP_run_25 : decode bP_run 25 = .ok (.istore 6, 2) := by decide +kernel
theorem dP_run_27 : decode bP_run 27 = .ok (.iload_n 2, 1) := by decide +kernel
theorem dP_run_28 : decode bP_run 28 = .ok (.istore 7, 2) := by decide +kernel
theorem dP_run_30 : decode bP_run 30 = .ok (.iload 7, 2) := by decide +kernel
theorem dP_run_32 : decode bP_run 32 = .ok (.iload_n 3, 1) := by decide +kernel
theorem dP_run_33 : decode bP_run 33 = .ok (.if_icmp .ge 28, 3) := by decide +kernel
theorem dP_run_36 : decode bP_run 36 = .ok (.aload_n 0, 1) := by decide +kernel
theorem dP_run_37 : decode bP_run 37 = .ok (.getfield 30, 3) := by decide +kernel
theorem dP_run_40 : decode bP_run 40 = .ok (.iload 6, 2) := by decide +kernel
theorem dP_run_42 : decode bP_run 42 = .ok (.aload 5, 2) := by decide +kernel
theorem dP_run_44 : decode bP_run 44 = .ok (.getfield 61, 3) := by decide +kernel
theorem dP_run_47 : decode bP_run 47 = .ok (.iload 7, 2) := by decide +kernel
theorem dP_run_49 : decode bP_run 49 = .ok (.iaload, 1) := by decide +kernel
theorem dP_run_50 : decode bP_run 50 = .ok (.invokevirtual 117, 3) := by decide +kernel
theorem dP_run_53 : decode bP_run 53 = .ok (.istore 6, 2) := by decide +kernel
theorem dP_run_55 : decode bP_run 55 = .ok (.iinc 7 1, 3) := by decide +kernel
theorem dP_run_58 : decode bP_run 58 = .ok (.goto (-28), 3) := by decide +kernel
theorem dP_run_61 : decode bP_run 61 = .ok (.iload 6, 2) := by decide +kernel
theorem dP_run_63 : decode bP_run 63 = .ok (.ireturn, 1) := by decide +kernel
theorem dP_accepted_0 : decode bP_accepted 0 = .ok (.aload_n 0, 1) := by decide +kernel
theorem dP_accepted_1 : decode bP_accepted 1 = .ok (.iload_n 1, 1) := by decide +kernel
theorem dP_accepted_2 : decode bP_accepted 2 = .ok (.invokevirtual 34, 3) := by decide +kernel
theorem dP_accepted_5 : decode bP_accepted 5 = .ok (.astore 5, 2) := by decide +kernel
theorem dP_accepted_7 : decode bP_accepted 7 = .ok (.iload 4, 2) := by decide +kernel
theorem dP_accepted_9 : decode bP_accepted 9 = .ok (.invokestatic 106, 3) := by decide +kernel
theorem dP_accepted_12 : decode bP_accepted 12 = .ok (.aload 5, 2) := by decide +kernel
theorem dP_accepted_14 : decode bP_accepted 14 = .ok (.iload_n 2, 1) := by decide +kernel
theorem dP_accepted_15 : decode bP_accepted 15 = .ok (.iload_n 3, 1) := by decide +kernel
theorem dP_accepted_16 : decode bP_accepted 16 = .ok (.i2l, 1) := by decide +kernel
theorem dP_accepted_17 : decode bP_accepted 17 = .ok (.invokevirtual 68, 3) := by decide +kernel
theorem dP_accepted_20 : decode bP_accepted 20 = .ok (.invokestatic 58, 3) := by decide +kernel
theorem dP_accepted_23 : decode bP_accepted 23 = .ok (.iload 4, 2) := by decide +kernel
theorem dP_accepted_25 : decode bP_accepted 25 = .ok (.istore 6, 2) := by decide +kernel
theorem dP_accepted_27 : decode bP_accepted 27 = .ok (.aload_n 0, 1) := by decide +kernel
theorem dP_accepted_28 : decode bP_accepted 28 = .ok (.getfield 30, 3) := by decide +kernel
theorem dP_accepted_31 : decode bP_accepted 31 = .ok (.getfield 113, 3) := by decide +kernel
theorem dP_accepted_34 : decode bP_accepted 34 = .ok (.iload 6, 2) := by decide +kernel
theorem dP_accepted_36 : decode bP_accepted 36 = .ok (.baload, 1) := by decide +kernel
theorem dP_accepted_37 : decode bP_accepted 37 = .ok (.ifCond .eq 7, 3) := by decide +kernel
theorem dP_accepted_40 : decode bP_accepted 40 = .ok (.iconst 1, 1) := by decide +kernel
theorem dP_accepted_41 : decode bP_accepted 41 = .ok (.goto 4, 3) := by decide +kernel
theorem dP_accepted_44 : decode bP_accepted 44 = .ok (.iconst 0, 1) := by decide +kernel
theorem dP_accepted_45 : decode bP_accepted 45 = .ok (.istore 7, 2) := by decide +kernel
theorem dP_accepted_47 : decode bP_accepted 47 = .ok (.iload_n 2, 1) := by decide +kernel
theorem dP_accepted_48 : decode bP_accepted 48 = .ok (.istore 8, 2) := by decide +kernel
theorem dP_accepted_50 : decode bP_accepted 50 = .ok (.iload 8, 2) := by decide +kernel
theorem dP_accepted_52 : decode bP_accepted 52 = .ok (.iload_n 3, 1) := by decide +kernel
theorem dP_accepted_53 : decode bP_accepted 53 = .ok (.if_icmp .ge 44, 3) := by decide +kernel
theorem dP_accepted_56 : decode bP_accepted 56 = .ok (.aload_n 0, 1) := by decide +kernel
theorem dP_accepted_57 : decode bP_accepted 57 = .ok (.getfield 30, 3) := by decide +kernel
theorem dP_accepted_60 : decode bP_accepted 60 = .ok (.iload 6, 2) := by decide +kernel
theorem dP_accepted_62 : decode bP_accepted 62 = .ok (.aload 5, 2) := by decide +kernel
theorem dP_accepted_64 : decode bP_accepted 64 = .ok (.getfield 61, 3) := by decide +kernel
theorem dP_accepted_67 : decode bP_accepted 67 = .ok (.iload 8, 2) := by decide +kernel
theorem dP_accepted_69 : decode bP_accepted 69 = .ok (.iaload, 1) := by decide +kernel
theorem dP_accepted_70 : decode bP_accepted 70 = .ok (.invokevirtual 117, 3) := by decide +kernel
theorem dP_accepted_73 : decode bP_accepted 73 = .ok (.istore 6, 2) := by decide +kernel
theorem dP_accepted_75 : decode bP_accepted 75 = .ok (.aload_n 0, 1) := by decide +kernel
theorem dP_accepted_76 : decode bP_accepted 76 = .ok (.getfield 30, 3) := by decide +kernel
theorem dP_accepted_79 : decode bP_accepted 79 = .ok (.getfield 113, 3) := by decide +kernel
theorem dP_accepted_82 : decode bP_accepted 82 = .ok (.iload 6, 2) := by decide +kernel
theorem dP_accepted_84 : decode bP_accepted 84 = .ok (.baload, 1) := by decide +kernel
theorem dP_accepted_85 : decode bP_accepted 85 = .ok (.ifCond .eq 6, 3) := by decide +kernel
theorem dP_accepted_88 : decode bP_accepted 88 = .ok (.iinc 7 1, 3) := by decide +kernel
theorem dP_accepted_91 : decode bP_accepted 91 = .ok (.iinc 8 1, 3) := by decide +kernel
theorem dP_accepted_94 : decode bP_accepted 94 = .ok (.goto (-44), 3) := by decide +kernel
theorem dP_accepted_97 : decode bP_accepted 97 = .ok (.iload 7, 2) := by decide +kernel
theorem dP_accepted_99 : decode bP_accepted 99 = .ok (.ireturn, 1) := by decide +kernel
theorem dP_textOf_0 : decode bP_textOf 0 = .ok (.iload_n 1, 1) := by decide +kernel
theorem dP_textOf_1 : decode bP_textOf 1 = .ok (.invokestatic 65, 3) := by decide +kernel
theorem dP_textOf_4 : decode bP_textOf 4 = .ok (.aload_n 0, 1) := by decide +kernel
theorem dP_textOf_5 : decode bP_textOf 5 = .ok (.getfield 11, 3) := by decide +kernel
theorem dP_textOf_8 : decode bP_textOf 8 = .ok (.iload_n 1, 1) := by decide +kernel
theorem dP_textOf_9 : decode bP_textOf 9 = .ok (.aaload, 1) := by decide +kernel
theorem dP_textOf_10 : decode bP_textOf 10 = .ok (.areturn, 1) := by decide +kernel
theorem dP_draftBecomesTextOf_0 : decode bP_draftBecomesTextOf 0 = .ok (.aload_n 0, 1) := by decide +kernel
theorem dP_draftBecomesTextOf_1 : decode bP_draftBecomesTextOf 1 = .ok (.getfield 11, 3) := by decide +kernel
theorem dP_draftBecomesTextOf_4 : decode bP_draftBecomesTextOf 4 = .ok (.iload_n 1, 1) := by decide +kernel
theorem dP_draftBecomesTextOf_5 : decode bP_draftBecomesTextOf 5 = .ok (.aaload, 1) := by decide +kernel
theorem dP_draftBecomesTextOf_6 : decode bP_draftBecomesTextOf 6 = .ok (.astore_n 2, 1) := by decide +kernel
theorem dP_draftBecomesTextOf_7 : decode bP_draftBecomesTextOf 7 = .ok (.aload_n 0, 1) := by decide +kernel
theorem dP_draftBecomesTextOf_8 : decode bP_draftBecomesTextOf 8 = .ok (.getfield 11, 3) := by decide +kernel
theorem dP_draftBecomesTextOf_11 : decode bP_draftBecomesTextOf 11 = .ok (.iload_n 1, 1) := by decide +kernel
theorem dP_draftBecomesTextOf_12 : decode bP_draftBecomesTextOf 12 = .ok (.aload_n 0, 1) := by decide +kernel
theorem dP_draftBecomesTextOf_13 : decode bP_draftBecomesTextOf 13 = .ok (.getfield 16, 3) := by decide +kernel
theorem dP_draftBecomesTextOf_16 : decode bP_draftBecomesTextOf 16 = .ok (.aastore, 1) := by decide +kernel
theorem dP_draftBecomesTextOf_17 : decode bP_draftBecomesTextOf 17 = .ok (.aload_n 0, 1) := by decide +kernel
theorem dP_draftBecomesTextOf_18 : decode bP_draftBecomesTextOf 18 = .ok (.aload_n 2, 1) := by decide +kernel
theorem dP_draftBecomesTextOf_19 : decode bP_draftBecomesTextOf 19 = .ok (.putfield 16, 3) := by decide +kernel
theorem dP_draftBecomesTextOf_22 : decode bP_draftBecomesTextOf 22 = .ok (.aload_n 0, 1) := by decide +kernel
theorem dP_draftBecomesTextOf_23 : decode bP_draftBecomesTextOf 23 = .ok (.getfield 11, 3) := by decide +kernel
theorem dP_draftBecomesTextOf_26 : decode bP_draftBecomesTextOf 26 = .ok (.iload_n 1, 1) := by decide +kernel
theorem dP_draftBecomesTextOf_27 : decode bP_draftBecomesTextOf 27 = .ok (.aaload, 1) := by decide +kernel
theorem dP_draftBecomesTextOf_28 : decode bP_draftBecomesTextOf 28 = .ok (.getfield 42, 3) := by decide +kernel
theorem dP_draftBecomesTextOf_31 : decode bP_draftBecomesTextOf 31 = .ok (.ireturn, 1) := by decide +kernel
theorem dP_requireDocument_0 : decode bP_requireDocument 0 = .ok (.iload_n 0, 1) := by decide +kernel
theorem dP_requireDocument_1 : decode bP_requireDocument 1 = .ok (.ifCond .lt 8, 3) := by decide +kernel
theorem dP_requireDocument_4 : decode bP_requireDocument 4 = .ok (.iload_n 0, 1) := by decide +kernel
theorem dP_requireDocument_5 : decode bP_requireDocument 5 = .ok (.iconst 4, 1) := by decide +kernel
theorem dP_requireDocument_6 : decode bP_requireDocument 6 = .ok (.if_icmp .lt 13, 3) := by decide +kernel
theorem dP_requireDocument_9 : decode bP_requireDocument 9 = .ok (.new 121, 3) := by decide +kernel
theorem dP_requireDocument_12 : decode bP_requireDocument 12 = .ok (.dup, 1) := by decide +kernel
theorem dP_requireDocument_13 : decode bP_requireDocument 13 = .ok (.ldc 123, 2) := by decide +kernel
theorem dP_requireDocument_15 : decode bP_requireDocument 15 = .ok (.invokespecial 125, 3) := by decide +kernel
theorem dP_requireDocument_18 : decode bP_requireDocument 18 = .ok (.athrow, 1) := by decide +kernel
theorem dP_requireDocument_19 : decode bP_requireDocument 19 = .ok (.return_, 1) := by decide +kernel
theorem dP_requireState_0 : decode bP_requireState 0 = .ok (.iload_n 0, 1) := by decide +kernel
theorem dP_requireState_1 : decode bP_requireState 1 = .ok (.ifCond .lt 9, 3) := by decide +kernel
theorem dP_requireState_4 : decode bP_requireState 4 = .ok (.iload_n 0, 1) := by decide +kernel
theorem dP_requireState_5 : decode bP_requireState 5 = .ok (.bipush 8, 2) := by decide +kernel
theorem dP_requireState_7 : decode bP_requireState 7 = .ok (.if_icmp .lt 13, 3) := by decide +kernel
theorem dP_requireState_10 : decode bP_requireState 10 = .ok (.new 121, 3) := by decide +kernel
theorem dP_requireState_13 : decode bP_requireState 13 = .ok (.dup, 1) := by decide +kernel
theorem dP_requireState_14 : decode bP_requireState 14 = .ok (.ldc 128, 2) := by decide +kernel
theorem dP_requireState_16 : decode bP_requireState 16 = .ok (.invokespecial 125, 3) := by decide +kernel
theorem dP_requireState_19 : decode bP_requireState 19 = .ok (.athrow, 1) := by decide +kernel
theorem dP_requireState_20 : decode bP_requireState 20 = .ok (.return_, 1) := by decide +kernel
theorem dP_requireArgument_0 : decode bP_requireArgument 0 = .ok (.iload_n 0, 1) := by decide +kernel
theorem dP_requireArgument_1 : decode bP_requireArgument 1 = .ok (.ifCond .ne 13, 3) := by decide +kernel
theorem dP_requireArgument_4 : decode bP_requireArgument 4 = .ok (.new 121, 3) := by decide +kernel
theorem dP_requireArgument_7 : decode bP_requireArgument 7 = .ok (.dup, 1) := by decide +kernel
theorem dP_requireArgument_8 : decode bP_requireArgument 8 = .ok (.ldc 130, 2) := by decide +kernel
theorem dP_requireArgument_10 : decode bP_requireArgument 10 = .ok (.invokespecial 125, 3) := by decide +kernel
theorem dP_requireArgument_13 : decode bP_requireArgument 13 = .ok (.athrow, 1) := by decide +kernel
theorem dP_requireArgument_14 : decode bP_requireArgument 14 = .ok (.return_, 1) := by decide +kernel
theorem dP_requireInside_0 : decode bP_requireInside 0 = .ok (.iload_n 0, 1) := by decide +kernel
theorem dP_requireInside_1 : decode bP_requireInside 1 = .ok (.ifCond .ne 13, 3) := by decide +kernel
theorem dP_requireInside_4 : decode bP_requireInside 4 = .ok (.new 132, 3) := by decide +kernel
theorem dP_requireInside_7 : decode bP_requireInside 7 = .ok (.dup, 1) := by decide +kernel
theorem dP_requireInside_8 : decode bP_requireInside 8 = .ok (.ldc 134, 2) := by decide +kernel
theorem dP_requireInside_10 : decode bP_requireInside 10 = .ok (.invokespecial 136, 3) := by decide +kernel
theorem dP_requireInside_13 : decode bP_requireInside 13 = .ok (.athrow, 1) := by decide +kernel
theorem dP_requireInside_14 : decode bP_requireInside 14 = .ok (.return_, 1) := by decide +kernel
theorem dP_requireRoom_0 : decode bP_requireRoom 0 = .ok (.lload_n 0, 1) := by decide +kernel
theorem dP_requireRoom_1 : decode bP_requireRoom 1 = .ok (.ldc2_w 137, 3) := by decide +kernel
theorem dP_requireRoom_4 : decode bP_requireRoom 4 = .ok (.lcmp, 1) := by decide +kernel
theorem dP_requireRoom_5 : decode bP_requireRoom 5 = .ok (.ifCond .le 13, 3) := by decide +kernel
theorem dP_requireRoom_8 : decode bP_requireRoom 8 = .ok (.new 139, 3) := by decide +kernel
theorem dP_requireRoom_11 : decode bP_requireRoom 11 = .ok (.dup, 1) := by decide +kernel
theorem dP_requireRoom_12 : decode bP_requireRoom 12 = .ok (.ldc 141, 2) := by decide +kernel
theorem dP_requireRoom_14 : decode bP_requireRoom 14 = .ok (.invokespecial 143, 3) := by decide +kernel
theorem dP_requireRoom_17 : decode bP_requireRoom 17 = .ok (.athrow, 1) := by decide +kernel
theorem dP_requireRoom_18 : decode bP_requireRoom 18 = .ok (.return_, 1) := by decide +kernel
theorem dP_requirePattern_0 : decode bP_requirePattern 0 = .ok (.aload_n 0, 1) := by decide +kernel
theorem dP_requirePattern_1 : decode bP_requirePattern 1 = .ok (.getfield 23, 3) := by decide +kernel
theorem dP_requirePattern_4 : decode bP_requirePattern 4 = .ok (.getfield 144, 3) := by decide +kernel
theorem dP_requirePattern_7 : decode bP_requirePattern 7 = .ok (.ifCond .ne 13, 3) := by decide +kernel
theorem dP_requirePattern_10 : decode bP_requirePattern 10 = .ok (.new 145, 3) := by decide +kernel
theorem dP_requirePattern_13 : decode bP_requirePattern 13 = .ok (.dup, 1) := by decide +kernel
theorem dP_requirePattern_14 : decode bP_requirePattern 14 = .ok (.ldc 147, 2) := by decide +kernel
theorem dP_requirePattern_16 : decode bP_requirePattern 16 = .ok (.invokespecial 149, 3) := by decide +kernel
theorem dP_requirePattern_19 : decode bP_requirePattern 19 = .ok (.athrow, 1) := by decide +kernel
theorem dP_requirePattern_20 : decode bP_requirePattern 20 = .ok (.return_, 1) := by decide +kernel
theorem dP_byteOf_0 : decode bP_byteOf 0 = .ok (.lload_n 0, 1) := by decide +kernel
theorem dP_byteOf_1 : decode bP_byteOf 1 = .ok (.bipush 8, 2) := by decide +kernel
theorem dP_byteOf_3 : decode bP_byteOf 3 = .ok (.iload_n 2, 1) := by decide +kernel
theorem dP_byteOf_4 : decode bP_byteOf 4 = .ok (.imul, 1) := by decide +kernel
theorem dP_byteOf_5 : decode bP_byteOf 5 = .ok (.lushr, 1) := by decide +kernel
theorem dP_byteOf_6 : decode bP_byteOf 6 = .ok (.l2i, 1) := by decide +kernel
theorem dP_byteOf_7 : decode bP_byteOf 7 = .ok (.sipush 255, 3) := by decide +kernel
theorem dP_byteOf_10 : decode bP_byteOf 10 = .ok (.iand, 1) := by decide +kernel
theorem dP_byteOf_11 : decode bP_byteOf 11 = .ok (.ireturn, 1) := by decide +kernel
theorem dP_commonBeginning_0 : decode bP_commonBeginning 0 = .ok (.aload_n 0, 1) := by decide +kernel
theorem dP_commonBeginning_1 : decode bP_commonBeginning 1 = .ok (.getfield 42, 3) := by decide +kernel
theorem dP_commonBeginning_4 : decode bP_commonBeginning 4 = .ok (.iload_n 1, 1) := by decide +kernel
theorem dP_commonBeginning_5 : decode bP_commonBeginning 5 = .ok (.isub, 1) := by decide +kernel
theorem dP_commonBeginning_6 : decode bP_commonBeginning 6 = .ok (.aload_n 2, 1) := by decide +kernel
theorem dP_commonBeginning_7 : decode bP_commonBeginning 7 = .ok (.getfield 42, 3) := by decide +kernel
theorem dP_commonBeginning_10 : decode bP_commonBeginning 10 = .ok (.iload_n 3, 1) := by decide +kernel
theorem dP_commonBeginning_11 : decode bP_commonBeginning 11 = .ok (.isub, 1) := by decide +kernel
theorem dP_commonBeginning_12 : decode bP_commonBeginning 12 = .ok (.invokestatic 150, 3) := by decide +kernel
theorem dP_commonBeginning_15 : decode bP_commonBeginning 15 = .ok (.istore 4, 2) := by decide +kernel
theorem dP_commonBeginning_17 : decode bP_commonBeginning 17 = .ok (.iconst 0, 1) := by decide +kernel
theorem dP_commonBeginning_18 : decode bP_commonBeginning 18 = .ok (.istore 5, 2) := by decide +kernel
theorem dP_commonBeginning_20 : decode bP_commonBeginning 20 = .ok (.iload 5, 2) := by decide +kernel
theorem dP_commonBeginning_22 : decode bP_commonBeginning 22 = .ok (.iload 4, 2) := by decide +kernel
theorem dP_commonBeginning_24 : decode bP_commonBeginning 24 = .ok (.if_icmp .ge 30, 3) := by decide +kernel
theorem dP_commonBeginning_27 : decode bP_commonBeginning 27 = .ok (.aload_n 0, 1) := by decide +kernel
theorem dP_commonBeginning_28 : decode bP_commonBeginning 28 = .ok (.getfield 61, 3) := by decide +kernel
theorem dP_commonBeginning_31 : decode bP_commonBeginning 31 = .ok (.iload_n 1, 1) := by decide +kernel
theorem dP_commonBeginning_32 : decode bP_commonBeginning 32 = .ok (.iload 5, 2) := by decide +kernel
theorem dP_commonBeginning_34 : decode bP_commonBeginning 34 = .ok (.iadd, 1) := by decide +kernel
theorem dP_commonBeginning_35 : decode bP_commonBeginning 35 = .ok (.iaload, 1) := by decide +kernel
theorem dP_commonBeginning_36 : decode bP_commonBeginning 36 = .ok (.aload_n 2, 1) := by decide +kernel
theorem dP_commonBeginning_37 : decode bP_commonBeginning 37 = .ok (.getfield 61, 3) := by decide +kernel
theorem dP_commonBeginning_40 : decode bP_commonBeginning 40 = .ok (.iload_n 3, 1) := by decide +kernel
theorem dP_commonBeginning_41 : decode bP_commonBeginning 41 = .ok (.iload 5, 2) := by decide +kernel
theorem dP_commonBeginning_43 : decode bP_commonBeginning 43 = .ok (.iadd, 1) := by decide +kernel
theorem dP_commonBeginning_44 : decode bP_commonBeginning 44 = .ok (.iaload, 1) := by decide +kernel
theorem dP_commonBeginning_45 : decode bP_commonBeginning 45 = .ok (.if_icmp .ne 9, 3) := by decide +kernel
theorem dP_commonBeginning_48 : decode bP_commonBeginning 48 = .ok (.iinc 5 1, 3) := by decide +kernel
theorem dP_commonBeginning_51 : decode bP_commonBeginning 51 = .ok (.goto (-31), 3) := by decide +kernel
theorem dP_commonBeginning_54 : decode bP_commonBeginning 54 = .ok (.iload 5, 2) := by decide +kernel
theorem dP_commonBeginning_56 : decode bP_commonBeginning 56 = .ok (.ireturn, 1) := by decide +kernel
theorem dP_nameWithOneMore_0 : decode bP_nameWithOneMore 0 = .ok (.ldc2_w 155, 3) := by decide +kernel
theorem dP_nameWithOneMore_3 : decode bP_nameWithOneMore 3 = .ok (.lload_n 0, 1) := by decide +kernel
theorem dP_nameWithOneMore_4 : decode bP_nameWithOneMore 4 = .ok (.bipush 31, 2) := by decide +kernel
theorem dP_nameWithOneMore_6 : decode bP_nameWithOneMore 6 = .ok (.lushr, 1) := by decide +kernel
theorem dP_nameWithOneMore_7 : decode bP_nameWithOneMore 7 = .ok (.lmul, 1) := by decide +kernel
theorem dP_nameWithOneMore_8 : decode bP_nameWithOneMore 8 = .ok (.lstore_n 3, 1) := by decide +kernel
theorem dP_nameWithOneMore_9 : decode bP_nameWithOneMore 9 = .ok (.ldc2_w 155, 3) := by decide +kernel
theorem dP_nameWithOneMore_12 : decode bP_nameWithOneMore 12 = .ok (.lload_n 0, 1) := by decide +kernel
theorem dP_nameWithOneMore_13 : decode bP_nameWithOneMore 13 = .ok (.ldc2_w 157, 3) := by decide +kernel
theorem dP_nameWithOneMore_16 : decode bP_nameWithOneMore 16 = .ok (.land, 1) := by decide +kernel
theorem dP_nameWithOneMore_17 : decode bP_nameWithOneMore 17 = .ok (.lmul, 1) := by decide +kernel
theorem dP_nameWithOneMore_18 : decode bP_nameWithOneMore 18 = .ok (.lstore 5, 2) := by decide +kernel
theorem dP_nameWithOneMore_20 : decode bP_nameWithOneMore 20 = .ok (.lload_n 3, 1) := by decide +kernel
theorem dP_nameWithOneMore_21 : decode bP_nameWithOneMore 21 = .ok (.bipush 30, 2) := by decide +kernel
theorem dP_nameWithOneMore_23 : decode bP_nameWithOneMore 23 = .ok (.lushr, 1) := by decide +kernel
theorem dP_nameWithOneMore_24 : decode bP_nameWithOneMore 24 = .ok (.lload_n 3, 1) := by decide +kernel
theorem dP_nameWithOneMore_25 : decode bP_nameWithOneMore 25 = .ok (.ldc2_w 159, 3) := by decide +kernel
theorem dP_nameWithOneMore_28 : decode bP_nameWithOneMore 28 = .ok (.land, 1) := by decide +kernel
theorem dP_nameWithOneMore_29 : decode bP_nameWithOneMore 29 = .ok (.bipush 31, 2) := by decide +kernel
theorem dP_nameWithOneMore_31 : decode bP_nameWithOneMore 31 = .ok (.lshl, 1) := by decide +kernel
theorem dP_nameWithOneMore_32 : decode bP_nameWithOneMore 32 = .ok (.ladd, 1) := by decide +kernel
theorem dP_nameWithOneMore_33 : decode bP_nameWithOneMore 33 = .ok (.lstore 7, 2) := by decide +kernel
theorem dP_nameWithOneMore_35 : decode bP_nameWithOneMore 35 = .ok (.lload 7, 2) := by decide +kernel
theorem dP_nameWithOneMore_37 : decode bP_nameWithOneMore 37 = .ok (.lload 5, 2) := by decide +kernel
theorem dP_nameWithOneMore_39 : decode bP_nameWithOneMore 39 = .ok (.ladd, 1) := by decide +kernel
theorem dP_nameWithOneMore_40 : decode bP_nameWithOneMore 40 = .ok (.iload_n 2, 1) := by decide +kernel
theorem dP_nameWithOneMore_41 : decode bP_nameWithOneMore 41 = .ok (.i2l, 1) := by decide +kernel
theorem dP_nameWithOneMore_42 : decode bP_nameWithOneMore 42 = .ok (.ladd, 1) := by decide +kernel
theorem dP_nameWithOneMore_43 : decode bP_nameWithOneMore 43 = .ok (.lconst 1, 1) := by decide +kernel
theorem dP_nameWithOneMore_44 : decode bP_nameWithOneMore 44 = .ok (.ladd, 1) := by decide +kernel
theorem dP_nameWithOneMore_45 : decode bP_nameWithOneMore 45 = .ok (.ldc2_w 161, 3) := by decide +kernel
theorem dP_nameWithOneMore_48 : decode bP_nameWithOneMore 48 = .ok (.lrem, 1) := by decide +kernel
theorem dP_nameWithOneMore_49 : decode bP_nameWithOneMore 49 = .ok (.lreturn, 1) := by decide +kernel
end
section
theorem dM_init_0 : decode bM_init 0 = .ok (.aload_n 0, 1) := by decide +kernel
theorem dM_init_1 : decode bM_init 1 = .ok (.invokespecial 1, 3) := by decide +kernel
theorem dM_init_4 : decode bM_init 4 = .ok (.aload_n 0, 1) := by decide +kernel
theorem dM_init_5 : decode bM_init 5 = .ok (.sipush 4000, 3) := by decide +kernel
theorem dM_init_8 : decode bM_init 8 = .ok (.newarray .int, 2) := by decide +kernel
theorem dM_init_10 : decode bM_init 10 = .ok (.putfield 7, 3) := by decide +kernel
theorem dM_init_13 : decode bM_init 13 = .ok (.aload_n 0, 1) := by decide +kernel
theorem dM_init_14 : decode bM_init 14 = .ok (.iconst 4, 1) := by decide +kernel
theorem dM_init_15 : decode bM_init 15 = .ok (.newarray .int, 2) := by decide +kernel
theorem dM_init_17 : decode bM_init 17 = .ok (.putfield 13, 3) := by decide +kernel
theorem dM_init_20 : decode bM_init 20 = .ok (.aload_n 0, 1) := by decide +kernel
theorem dM_init_21 : decode bM_init 21 = .ok (.sipush 1000, 3) := by decide +kernel
theorem dM_init_24 : decode bM_init 24 = .ok (.newarray .int, 2) := by decide +kernel
theorem dM_init_26 : decode bM_init 26 = .ok (.putfield 16, 3) := by decide +kernel
theorem dM_init_29 : decode bM_init 29 = .ok (.aload_n 0, 1) := by decide +kernel
theorem dM_init_30 : decode bM_init 30 = .ok (.bipush 16, 2) := by decide +kernel
theorem dM_init_32 : decode bM_init 32 = .ok (.newarray .int, 2) := by decide +kernel
theorem dM_init_34 : decode bM_init 34 = .ok (.putfield 19, 3) := by decide +kernel
theorem dM_init_37 : decode bM_init 37 = .ok (.aload_n 0, 1) := by decide +kernel
theorem dM_init_38 : decode bM_init 38 = .ok (.sipush 2048, 3) := by decide +kernel
theorem dM_init_41 : decode bM_init 41 = .ok (.newarray .int, 2) := by decide +kernel
theorem dM_init_43 : decode bM_init 43 = .ok (.putfield 22, 3) := by decide +kernel
theorem dM_init_46 : decode bM_init 46 = .ok (.aload_n 0, 1) := by decide +kernel
theorem dM_init_47 : decode bM_init 47 = .ok (.bipush 8, 2) := by decide +kernel
theorem dM_init_49 : decode bM_init 49 = .ok (.newarray .boolean, 2) := by decide +kernel
theorem dM_init_51 : decode bM_init 51 = .ok (.putfield 25, 3) := by decide +kernel
theorem dM_init_54 : decode bM_init 54 = .ok (.return_, 1) := by decide +kernel
theorem dM_thrown_0 : decode bM_thrown 0 = .ok (.aload_n 0, 1) := by decide +kernel
theorem dM_thrown_1 : decode bM_thrown 1 = .ok (.getfield 29, 3) := by decide +kernel
theorem dM_thrown_4 : decode bM_thrown 4 = .ok (.ireturn, 1) := by decide +kernel
theorem dM_isDocument_0 : decode bM_isDocument 0 = .ok (.iload_n 0, 1) := by decide +kernel
theorem dM_isDocument_1 : decode bM_isDocument 1 = .ok (.ifCond .lt 12, 3) := by decide +kernel
theorem dM_isDocument_4 : decode bM_isDocument 4 = .ok (.iload_n 0, 1) := by decide +kernel
theorem dM_isDocument_5 : decode bM_isDocument 5 = .ok (.iconst 3, 1) := by decide +kernel
theorem dM_isDocument_6 : decode bM_isDocument 6 = .ok (.if_icmp .gt 7, 3) := by decide +kernel
theorem dM_isDocument_9 : decode bM_isDocument 9 = .ok (.iconst 1, 1) := by decide +kernel
theorem dM_isDocument_10 : decode bM_isDocument 10 = .ok (.goto 4, 3) := by decide +kernel
theorem dM_isDocument_13 : decode bM_isDocument 13 = .ok (.iconst 0, 1) := by decide +kernel
theorem dM_isDocument_14 : decode bM_isDocument 14 = .ok (.ireturn, 1) := by decide +kernel
theorem dM_isRange_0 : decode bM_isRange 0 = .ok (.iload_n 2, 1) := by decide +kernel
theorem dM_isRange_1 : decode bM_isRange 1 = .ok (.ifCond .lt 22, 3) := by decide +kernel
theorem dM_isRange_4 : decode bM_isRange 4 = .ok (.iload_n 2, 1) := by decide +kernel
theorem dM_isRange_5 : decode bM_isRange 5 = .ok (.iload_n 3, 1) := by decide +kernel
theorem dM_isRange_6 : decode bM_isRange 6 = .ok (.if_icmp .gt 17, 3) := by decide +kernel
theorem dM_isRange_9 : decode bM_isRange 9 = .ok (.iload_n 3, 1) := by decide +kernel
theorem dM_isRange_10 : decode bM_isRange 10 = .ok (.aload_n 0, 1) := by decide +kernel
theorem dM_isRange_11 : decode bM_isRange 11 = .ok (.getfield 13, 3) := by decide +kernel
theorem dM_isRange_14 : decode bM_isRange 14 = .ok (.iload_n 1, 1) := by decide +kernel
theorem dM_isRange_15 : decode bM_isRange 15 = .ok (.iaload, 1) := by decide +kernel
theorem dM_isRange_16 : decode bM_isRange 16 = .ok (.if_icmp .gt 7, 3) := by decide +kernel
theorem dM_isRange_19 : decode bM_isRange 19 = .ok (.iconst 1, 1) := by decide +kernel
theorem dM_isRange_20 : decode bM_isRange 20 = .ok (.goto 4, 3) := by decide +kernel
theorem dM_isRange_23 : decode bM_isRange 23 = .ok (.iconst 0, 1) := by decide +kernel
theorem dM_isRange_24 : decode bM_isRange 24 = .ok (.ireturn, 1) := by decide +kernel
theorem dM_add_0 : decode bM_add 0 = .ok (.iload_n 2, 1) := by decide +kernel
theorem dM_add_1 : decode bM_add 1 = .ok (.istore 4, 2) := by decide +kernel
theorem dM_add_3 : decode bM_add 3 = .ok (.iload 4, 2) := by decide +kernel
theorem dM_add_5 : decode bM_add 5 = .ok (.iload_n 3, 1) := by decide +kernel
theorem dM_add_6 : decode bM_add 6 = .ok (.if_icmp .ge 41, 3) := by decide +kernel
theorem dM_add_9 : decode bM_add 9 = .ok (.aload_n 0, 1) := by decide +kernel
theorem dM_add_10 : decode bM_add 10 = .ok (.getfield 16, 3) := by decide +kernel
theorem dM_add_13 : decode bM_add 13 = .ok (.aload_n 0, 1) := by decide +kernel
theorem dM_add_14 : decode bM_add 14 = .ok (.getfield 33, 3) := by decide +kernel
theorem dM_add_17 : decode bM_add 17 = .ok (.aload_n 0, 1) := by decide +kernel
theorem dM_add_18 : decode bM_add 18 = .ok (.getfield 7, 3) := by decide +kernel
theorem dM_add_21 : decode bM_add 21 = .ok (.sipush 1000, 3) := by decide +kernel
theorem dM_add_24 : decode bM_add 24 = .ok (.iload_n 1, 1) := by decide +kernel
theorem dM_add_25 : decode bM_add 25 = .ok (.imul, 1) := by decide +kernel
theorem dM_add_26 : decode bM_add 26 = .ok (.iload 4, 2) := by decide +kernel
theorem dM_add_28 : decode bM_add 28 = .ok (.iadd, 1) := by decide +kernel
theorem dM_add_29 : decode bM_add 29 = .ok (.iaload, 1) := by decide +kernel
theorem dM_add_30 : decode bM_add 30 = .ok (.iastore, 1) := by decide +kernel
theorem dM_add_31 : decode bM_add 31 = .ok (.aload_n 0, 1) := by decide +kernel
theorem dM_add_32 : decode bM_add 32 = .ok (.dup, 1) := by decide +kernel
theorem dM_add_33 : decode bM_add 33 = .ok (.getfield 33, 3) := by decide +kernel
theorem dM_add_36 : decode bM_add 36 = .ok (.iconst 1, 1) := by decide +kernel
theorem dM_add_37 : decode bM_add 37 = .ok (.iadd, 1) := by decide +kernel
theorem dM_add_38 : decode bM_add 38 = .ok (.putfield 33, 3) := by decide +kernel
theorem dM_add_41 : decode bM_add 41 = .ok (.iinc 4 1, 3) := by decide +kernel
theorem dM_add_44 : decode bM_add 44 = .ok (.goto (-41), 3) := by decide +kernel
theorem dM_add_47 : decode bM_add 47 = .ok (.return_, 1) := by decide +kernel
theorem dM_become_0 : decode bM_become 0 = .ok (.iconst 0, 1) := by decide +kernel
theorem dM_become_1 : decode bM_become 1 = .ok (.istore_n 2, 1) := by decide +kernel
theorem dM_become_2 : decode bM_become 2 = .ok (.iload_n 2, 1) := by decide +kernel
theorem dM_become_3 : decode bM_become 3 = .ok (.aload_n 0, 1) := by decide +kernel
theorem dM_become_4 : decode bM_become 4 = .ok (.getfield 33, 3) := by decide +kernel
theorem dM_become_7 : decode bM_become 7 = .ok (.if_icmp .ge 27, 3) := by decide +kernel
theorem dM_become_10 : decode bM_become 10 = .ok (.aload_n 0, 1) := by decide +kernel
theorem dM_become_11 : decode bM_become 11 = .ok (.getfield 7, 3) := by decide +kernel
theorem dM_become_14 : decode bM_become 14 = .ok (.sipush 1000, 3) := by decide +kernel
theorem dM_become_17 : decode bM_become 17 = .ok (.iload_n 1, 1) := by decide +kernel
theorem dM_become_18 : decode bM_become 18 = .ok (.imul, 1) := by decide +kernel
theorem dM_become_19 : decode bM_become 19 = .ok (.iload_n 2, 1) := by decide +kernel
theorem dM_become_20 : decode bM_become 20 = .ok (.iadd, 1) := by decide +kernel
theorem dM_become_21 : decode bM_become 21 = .ok (.aload_n 0, 1) := by decide +kernel
theorem dM_become_22 : decode bM_become 22 = .ok (.getfield 16, 3) := by decide +kernel
theorem dM_become_25 : decode bM_become 25 = .ok (.iload_n 2, 1) := by decide +kernel
theorem dM_become_26 : decode bM_become 26 = .ok (.iaload, 1) := by decide +kernel
theorem dM_become_27 : decode bM_become 27 = .ok (.iastore, 1) := by decide +kernel
theorem dM_become_28 : decode bM_become 28 = .ok (.iinc 2 1, 3) := by decide +kernel
theorem dM_become_31 : decode bM_become 31 = .ok (.goto (-29), 3) := by decide +kernel
theorem dM_become_34 : decode bM_become 34 = .ok (.aload_n 0, 1) := by decide +kernel
theorem dM_become_35 : decode bM_become 35 = .ok (.getfield 13, 3) := by decide +kernel
theorem dM_become_38 : decode bM_become 38 = .ok (.iload_n 1, 1) := by decide +kernel
theorem dM_become_39 : decode bM_become 39 = .ok (.aload_n 0, 1) := by decide +kernel
theorem dM_become_40 : decode bM_become 40 = .ok (.getfield 33, 3) := by decide +kernel
theorem dM_become_43 : decode bM_become 43 = .ok (.iastore, 1) := by decide +kernel
theorem dM_become_44 : decode bM_become 44 = .ok (.aload_n 0, 1) := by decide +kernel
theorem dM_become_45 : decode bM_become 45 = .ok (.getfield 33, 3) := by decide +kernel
theorem dM_become_48 : decode bM_become 48 = .ok (.ireturn, 1) := by decide +kernel
theorem dM_write_0 : decode bM_write 0 = .ok (.aload_n 0, 1) := by decide +kernel
theorem dM_write_1 : decode bM_write 1 = .ok (.iload_n 1, 1) := by decide +kernel
theorem dM_write_2 : decode bM_write 2 = .ok (.invokestatic 36, 3) := by decide +kernel
theorem dM_write_5 : decode bM_write 5 = .ok (.ifCond .eq 16, 3) := by decide +kernel
theorem dM_write_8 : decode bM_write 8 = .ok (.iload 4, 2) := by decide +kernel
theorem dM_write_10 : decode bM_write 10 = .ok (.iconst 1, 1) := by decide +kernel
theorem dM_write_11 : decode bM_write 11 = .ok (.if_icmp .lt 10, 3) := by decide +kernel
theorem dM_write_14 : decode bM_write 14 = .ok (.iload 4, 2) := by decide +kernel
theorem dM_write_16 : decode bM_write 16 = .ok (.bipush 8, 2) := by decide +kernel
theorem dM_write_18 : decode bM_write 18 = .ok (.if_icmp .le 7, 3) := by decide +kernel
theorem dM_write_21 : decode bM_write 21 = .ok (.iconst 1, 1) := by decide +kernel
theorem dM_write_22 : decode bM_write 22 = .ok (.goto 23, 3) := by decide +kernel
theorem dM_write_25 : decode bM_write 25 = .ok (.aload_n 0, 1) := by decide +kernel
theorem dM_write_26 : decode bM_write 26 = .ok (.getfield 13, 3) := by decide +kernel
theorem dM_write_29 : decode bM_write 29 = .ok (.iload_n 1, 1) := by decide +kernel
theorem dM_write_30 : decode bM_write 30 = .ok (.iaload, 1) := by decide +kernel
theorem dM_write_31 : decode bM_write 31 = .ok (.iload 4, 2) := by decide +kernel
theorem dM_write_33 : decode bM_write 33 = .ok (.iadd, 1) := by decide +kernel
theorem dM_write_34 : decode bM_write 34 = .ok (.sipush 1000, 3) := by decide +kernel
theorem dM_write_37 : decode bM_write 37 = .ok (.if_icmp .le 7, 3) := by decide +kernel
theorem dM_write_40 : decode bM_write 40 = .ok (.iconst 2, 1) := by decide +kernel
theorem dM_write_41 : decode bM_write 41 = .ok (.goto 4, 3) := by decide +kernel
theorem dM_write_44 : decode bM_write 44 = .ok (.iconst 0, 1) := by decide +kernel
theorem dM_write_45 : decode bM_write 45 = .ok (.putfield 29, 3) := by decide +kernel
theorem dM_write_48 : decode bM_write 48 = .ok (.aload_n 0, 1) := by decide +kernel
theorem dM_write_49 : decode bM_write 49 = .ok (.getfield 29, 3) := by decide +kernel
theorem dM_write_52 : decode bM_write 52 = .ok (.ifCond .le 5, 3) := by decide +kernel
theorem dM_write_55 : decode bM_write 55 = .ok (.iconst 0, 1) := by decide +kernel
theorem dM_write_56 : decode bM_write 56 = .ok (.ireturn, 1) := by decide +kernel
theorem dM_write_57 : decode bM_write 57 = .ok (.iconst 0, 1) := by decide +kernel
theorem dM_write_58 : decode bM_write 58 = .ok (.istore 5, 2) := by decide +kernel
theorem dM_write_60 : decode bM_write 60 = .ok (.iload 5, 2) := by decide +kernel
theorem dM_write_62 : decode bM_write 62 = .ok (.iload 4, 2) := by decide +kernel
theorem dM_write_64 : decode bM_write 64 = .ok (.if_icmp .ge 48, 3) := by decide +kernel
theorem dM_write_67 : decode bM_write 67 = .ok (.aload_n 0, 1) := by decide +kernel
theorem dM_write_68 : decode bM_write 68 = .ok (.getfield 7, 3) := by decide +kernel
theorem dM_write_71 : decode bM_write 71 = .ok (.sipush 1000, 3) := by decide +kernel
theorem dM_write_74 : decode bM_write 74 = .ok (.iload_n 1, 1) := by decide +kernel
theorem dM_write_75 : decode bM_write 75 = .ok (.imul, 1) := by decide +kernel
theorem dM_write_76 : decode bM_write 76 = .ok (.aload_n 0, 1) := by decide +kernel
theorem dM_write_77 : decode bM_write 77 = .ok (.getfield 13, 3) := by decide +kernel
theorem dM_write_80 : decode bM_write 80 = .ok (.iload_n 1, 1) := by decide +kernel
theorem dM_write_81 : decode bM_write 81 = .ok (.iaload, 1) := by decide +kernel
theorem dM_write_82 : decode bM_write 82 = .ok (.iadd, 1) := by decide +kernel
theorem dM_write_83 : decode bM_write 83 = .ok (.lload_n 2, 1) := by decide +kernel
theorem dM_write_84 : decode bM_write 84 = .ok (.bipush 8, 2) := by decide +kernel
theorem dM_write_86 : decode bM_write 86 = .ok (.iload 5, 2) := by decide +kernel
theorem dM_write_88 : decode bM_write 88 = .ok (.imul, 1) := by decide +kernel
theorem dM_write_89 : decode bM_write 89 = .ok (.lshr, 1) := by decide +kernel
theorem dM_write_90 : decode bM_write 90 = .ok (.ldc2_w 40, 3) := by decide +kernel
theorem dM_write_93 : decode bM_write 93 = .ok (.land, 1) := by decide +kernel
theorem dM_write_94 : decode bM_write 94 = .ok (.l2i, 1) := by decide +kernel
theorem dM_write_95 : decode bM_write 95 = .ok (.iastore, 1) := by decide +kernel
theorem dM_write_96 : decode bM_write 96 = .ok (.aload_n 0, 1) := by decide +kernel
theorem dM_write_97 : decode bM_write 97 = .ok (.getfield 13, 3) := by decide +kernel
theorem dM_write_100 : decode bM_write 100 = .ok (.iload_n 1, 1) := by decide +kernel
theorem dM_write_101 : decode bM_write 101 = .ok (.dup2, 1) := by decide +kernel
theorem dM_write_102 : decode bM_write 102 = .ok (.iaload, 1) := by decide +kernel
theorem dM_write_103 : decode bM_write 103 = .ok (.iconst 1, 1) := by decide +kernel
theorem dM_write_104 : decode bM_write 104 = .ok (.iadd, 1) := by decide +kernel
theorem dM_write_105 : decode bM_write 105 = .ok (.iastore, 1) := by decide +kernel
theorem dM_write_106 : decode bM_write 106 = .ok (.iinc 5 1, 3) := by decide +kernel
theorem dM_write_109 : decode bM_write 109 = .ok (.goto (-49), 3) := by decide +kernel
theorem dM_write_112 : decode bM_write 112 = .ok (.aload_n 0, 1) := by decide +kernel
theorem dM_write_113 : decode bM_write 113 = .ok (.getfield 13, 3) := by decide +kernel
theorem dM_write_116 : decode bM_write 116 = .ok (.iload_n 1, 1) := by decide +kernel
theorem dM_write_117 : decode bM_write 117 = .ok (.iaload, 1) := by decide +kernel
theorem dM_write_118 : decode bM_write 118 = .ok (.ireturn, 1) := by decide +kernel
theorem dM_length_0 : decode bM_length 0 = .ok (.aload_n 0, 1) := by decide +kernel
theorem dM_length_1 : decode bM_length 1 = .ok (.iload_n 1, 1) := by decide +kernel
theorem dM_length_2 : decode bM_length 2 = .ok (.invokestatic 36, 3) := by decide +kernel
theorem dM_length_5 : decode bM_length 5 = .ok (.ifCond .eq 7, 3) := by decide +kernel
theorem dM_length_8 : decode bM_length 8 = .ok (.iconst 0, 1) := by decide +kernel
theorem dM_length_9 : decode bM_length 9 = .ok (.goto 4, 3) := by decide +kernel
theorem dM_length_12 : decode bM_length 12 = .ok (.iconst 1, 1) := by decide +kernel
theorem dM_length_13 : decode bM_length 13 = .ok (.putfield 29, 3) := by decide +kernel
theorem dM_length_16 : decode bM_length 16 = .ok (.aload_n 0, 1) := by decide +kernel
theorem dM_length_17 : decode bM_length 17 = .ok (.getfield 29, 3) := by decide +kernel
theorem dM_length_20 : decode bM_length 20 = .ok (.ifCond .le 7, 3) := by decide +kernel
theorem dM_length_23 : decode bM_length 23 = .ok (.iconst 0, 1) := by decide +kernel
theorem dM_length_24 : decode bM_length 24 = .ok (.goto 9, 3) := by decide +kernel
theorem dM_length_27 : decode bM_length 27 = .ok (.aload_n 0, 1) := by decide +kernel
theorem dM_length_28 : decode bM_length 28 = .ok (.getfield 13, 3) := by decide +kernel
theorem dM_length_31 : decode bM_length 31 = .ok (.iload_n 1, 1) := by decide +kernel
theorem dM_length_32 : decode bM_length 32 = .ok (.iaload, 1) := by decide +kernel
theorem dM_length_33 : decode bM_length 33 = .ok (.ireturn, 1) := by decide +kernel
theorem dM_byteAt_0 : decode bM_byteAt 0 = .ok (.aload_n 0, 1) := by decide +kernel
theorem dM_byteAt_1 : decode bM_byteAt 1 = .ok (.iload_n 1, 1) := by decide +kernel
theorem dM_byteAt_2 : decode bM_byteAt 2 = .ok (.invokestatic 36, 3) := by decide +kernel
theorem dM_byteAt_5 : decode bM_byteAt 5 = .ok (.ifCond .ne 7, 3) := by decide +kernel
theorem dM_byteAt_8 : decode bM_byteAt 8 = .ok (.iconst 1, 1) := by decide +kernel
theorem dM_byteAt_9 : decode bM_byteAt 9 = .ok (.goto 22, 3) := by decide +kernel
theorem dM_byteAt_12 : decode bM_byteAt 12 = .ok (.iload_n 2, 1) := by decide +kernel
theorem dM_byteAt_13 : decode bM_byteAt 13 = .ok (.ifCond .lt 13, 3) := by decide +kernel
theorem dM_byteAt_16 : decode bM_byteAt 16 = .ok (.iload_n 2, 1) := by decide +kernel
theorem dM_byteAt_17 : decode bM_byteAt 17 = .ok (.aload_n 0, 1) := by decide +kernel
theorem dM_byteAt_18 : decode bM_byteAt 18 = .ok (.getfield 13, 3) := by decide +kernel
theorem dM_byteAt_21 : decode bM_byteAt 21 = .ok (.iload_n 1, 1) := by decide +kernel
theorem dM_byteAt_22 : decode bM_byteAt 22 = .ok (.iaload, 1) := by decide +kernel
theorem dM_byteAt_23 : decode bM_byteAt 23 = .ok (.if_icmp .lt 7, 3) := by decide +kernel
theorem dM_byteAt_26 : decode bM_byteAt 26 = .ok (.iconst 2, 1) := by decide +kernel
theorem dM_byteAt_27 : decode bM_byteAt 27 = .ok (.goto 4, 3) := by decide +kernel
theorem dM_byteAt_30 : decode bM_byteAt 30 = .ok (.iconst 0, 1) := by decide +kernel
theorem dM_byteAt_31 : decode bM_byteAt 31 = .ok (.putfield 29, 3) := by decide +kernel
theorem dM_byteAt_34 : decode bM_byteAt 34 = .ok (.aload_n 0, 1) := by decide +kernel
theorem dM_byteAt_35 : decode bM_byteAt 35 = .ok (.getfield 29, 3) := by decide +kernel
theorem dM_byteAt_38 : decode bM_byteAt 38 = .ok (.ifCond .le 7, 3) := by decide +kernel
theorem dM_byteAt_41 : decode bM_byteAt 41 = .ok (.iconst 0, 1) := by decide +kernel
theorem dM_byteAt_42 : decode bM_byteAt 42 = .ok (.goto 15, 3) := by decide +kernel
theorem dM_byteAt_45 : decode bM_byteAt 45 = .ok (.aload_n 0, 1) := by decide +kernel
theorem dM_byteAt_46 : decode bM_byteAt 46 = .ok (.getfield 7, 3) := by decide +kernel
theorem dM_byteAt_49 : decode bM_byteAt 49 = .ok (.sipush 1000, 3) := by decide +kernel
theorem dM_byteAt_52 : decode bM_byteAt 52 = .ok (.iload_n 1, 1) := by decide +kernel
theorem dM_byteAt_53 : decode bM_byteAt 53 = .ok (.imul, 1) := by decide +kernel
theorem dM_byteAt_54 : decode bM_byteAt 54 = .ok (.iload_n 2, 1) := by decide +kernel
theorem dM_byteAt_55 : decode bM_byteAt 55 = .ok (.iadd, 1) := by decide +kernel
theorem dM_byteAt_56 : decode bM_byteAt 56 = .ok (.iaload, 1) := by decide +kernel
theorem dM_byteAt_57 : decode bM_byteAt 57 = .ok (.ireturn, 1) := by decide +kernel
theorem dM_copy_0 : decode bM_copy 0 = .ok (.aload_n 0, 1) := by decide +kernel
theorem dM_copy_1 : decode bM_copy 1 = .ok (.iload_n 1, 1) := by decide +kernel
theorem dM_copy_2 : decode bM_copy 2 = .ok (.invokestatic 36, 3) := by decide +kernel
theorem dM_copy_5 : decode bM_copy 5 = .ok (.ifCond .eq 11, 3) := by decide +kernel
theorem dM_copy_8 : decode bM_copy 8 = .ok (.iload 4, 2) := by decide +kernel
theorem dM_copy_10 : decode bM_copy 10 = .ok (.invokestatic 36, 3) := by decide +kernel
theorem dM_copy_13 : decode bM_copy 13 = .ok (.ifCond .ne 7, 3) := by decide +kernel
theorem dM_copy_16 : decode bM_copy 16 = .ok (.iconst 1, 1) := by decide +kernel
theorem dM_copy_17 : decode bM_copy 17 = .ok (.goto 18, 3) := by decide +kernel
theorem dM_copy_20 : decode bM_copy 20 = .ok (.aload_n 0, 1) := by decide +kernel
theorem dM_copy_21 : decode bM_copy 21 = .ok (.iload_n 1, 1) := by decide +kernel
theorem dM_copy_22 : decode bM_copy 22 = .ok (.iload_n 2, 1) := by decide +kernel
theorem dM_copy_23 : decode bM_copy 23 = .ok (.iload_n 3, 1) := by decide +kernel
theorem dM_copy_24 : decode bM_copy 24 = .ok (.invokevirtual 42, 3) := by decide +kernel
theorem dM_copy_27 : decode bM_copy 27 = .ok (.ifCond .ne 7, 3) := by decide +kernel
theorem dM_copy_30 : decode bM_copy 30 = .ok (.iconst 2, 1) := by decide +kernel
theorem dM_copy_31 : decode bM_copy 31 = .ok (.goto 4, 3) := by decide +kernel
theorem dM_copy_34 : decode bM_copy 34 = .ok (.iconst 0, 1) := by decide +kernel
theorem dM_copy_35 : decode bM_copy 35 = .ok (.putfield 29, 3) := by decide +kernel
theorem dM_copy_38 : decode bM_copy 38 = .ok (.aload_n 0, 1) := by decide +kernel
theorem dM_copy_39 : decode bM_copy 39 = .ok (.getfield 29, 3) := by decide +kernel
theorem dM_copy_42 : decode bM_copy 42 = .ok (.ifCond .le 5, 3) := by decide +kernel
theorem dM_copy_45 : decode bM_copy 45 = .ok (.iconst 0, 1) := by decide +kernel
theorem dM_copy_46 : decode bM_copy 46 = .ok (.ireturn, 1) := by decide +kernel
theorem dM_copy_47 : decode bM_copy 47 = .ok (.aload_n 0, 1) := by decide +kernel
theorem dM_copy_48 : decode bM_copy 48 = .ok (.iconst 0, 1) := by decide +kernel
theorem dM_copy_49 : decode bM_copy 49 = .ok (.putfield 33, 3) := by decide +kernel
theorem dM_copy_52 : decode bM_copy 52 = .ok (.aload_n 0, 1) := by decide +kernel
theorem dM_copy_53 : decode bM_copy 53 = .ok (.iload_n 1, 1) := by decide +kernel
theorem dM_copy_54 : decode bM_copy 54 = .ok (.iload_n 2, 1) := by decide +kernel
theorem dM_copy_55 : decode bM_copy 55 = .ok (.iload_n 3, 1) := by decide +kernel
theorem dM_copy_56 : decode bM_copy 56 = .ok (.invokevirtual 46, 3) := by decide +kernel
theorem dM_copy_59 : decode bM_copy 59 = .ok (.aload_n 0, 1) := by decide +kernel
theorem dM_copy_60 : decode bM_copy 60 = .ok (.iload 4, 2) := by decide +kernel
theorem dM_copy_62 : decode bM_copy 62 = .ok (.invokevirtual 50, 3) := by decide +kernel
theorem dM_copy_65 : decode bM_copy 65 = .ok (.ireturn, 1) := by decide +kernel
theorem dM_join_0 : decode bM_join 0 = .ok (.aload_n 0, 1) := by decide +kernel
theorem dM_join_1 : decode bM_join 1 = .ok (.iload_n 1, 1) := by decide +kernel
theorem dM_join_2 : decode bM_join 2 = .ok (.invokestatic 36, 3) := by decide +kernel
theorem dM_join_5 : decode bM_join 5 = .ok (.ifCond .eq 17, 3) := by decide +kernel
theorem dM_join_8 : decode bM_join 8 = .ok (.iload_n 2, 1) := by decide +kernel
theorem dM_join_9 : decode bM_join 9 = .ok (.invokestatic 36, 3) := by decide +kernel
theorem dM_join_12 : decode bM_join 12 = .ok (.ifCond .eq 10, 3) := by decide +kernel
theorem dM_join_15 : decode bM_join 15 = .ok (.iload_n 3, 1) := by decide +kernel
theorem dM_join_16 : decode bM_join 16 = .ok (.invokestatic 36, 3) := by decide +kernel
theorem dM_join_19 : decode bM_join 19 = .ok (.ifCond .ne 7, 3) := by decide +kernel
theorem dM_join_22 : decode bM_join 22 = .ok (.iconst 1, 1) := by decide +kernel
theorem dM_join_23 : decode bM_join 23 = .ok (.goto 27, 3) := by decide +kernel
theorem dM_join_26 : decode bM_join 26 = .ok (.aload_n 0, 1) := by decide +kernel
theorem dM_join_27 : decode bM_join 27 = .ok (.getfield 13, 3) := by decide +kernel
theorem dM_join_30 : decode bM_join 30 = .ok (.iload_n 1, 1) := by decide +kernel
theorem dM_join_31 : decode bM_join 31 = .ok (.iaload, 1) := by decide +kernel
theorem dM_join_32 : decode bM_join 32 = .ok (.aload_n 0, 1) := by decide +kernel
theorem dM_join_33 : decode bM_join 33 = .ok (.getfield 13, 3) := by decide +kernel
theorem dM_join_36 : decode bM_join 36 = .ok (.iload_n 2, 1) := by decide +kernel
theorem dM_join_37 : decode bM_join 37 = .ok (.iaload, 1) := by decide +kernel
theorem dM_join_38 : decode bM_join 38 = .ok (.iadd, 1) := by decide +kernel
theorem dM_join_39 : decode bM_join 39 = .ok (.sipush 1000, 3) := by decide +kernel
theorem dM_join_42 : decode bM_join 42 = .ok (.if_icmp .le 7, 3) := by decide +kernel
theorem dM_join_45 : decode bM_join 45 = .ok (.iconst 2, 1) := by decide +kernel
theorem dM_join_46 : decode bM_join 46 = .ok (.goto 4, 3) := by decide +kernel
theorem dM_join_49 : decode bM_join 49 = .ok (.iconst 0, 1) := by decide +kernel
theorem dM_join_50 : decode bM_join 50 = .ok (.putfield 29, 3) := by decide +kernel
theorem dM_join_53 : decode bM_join 53 = .ok (.aload_n 0, 1) := by decide +kernel
theorem dM_join_54 : decode bM_join 54 = .ok (.getfield 29, 3) := by decide +kernel
theorem dM_join_57 : decode bM_join 57 = .ok (.ifCond .le 5, 3) := by decide +kernel
theorem dM_join_60 : decode bM_join 60 = .ok (.iconst 0, 1) := by decide +kernel
theorem dM_join_61 : decode bM_join 61 = .ok (.ireturn, 1) := by decide +kernel
theorem dM_join_62 : decode bM_join 62 = .ok (.aload_n 0, 1) := by decide +kernel
theorem dM_join_63 : decode bM_join 63 = .ok (.iconst 0, 1) := by decide +kernel
theorem dM_join_64 : decode bM_join 64 = .ok (.putfield 33, 3) := by decide +kernel
theorem dM_join_67 : decode bM_join 67 = .ok (.aload_n 0, 1) := by decide +kernel
theorem dM_join_68 : decode bM_join 68 = .ok (.iload_n 1, 1) := by decide +kernel
theorem dM_join_69 : decode bM_join 69 = .ok (.iconst 0, 1) := by decide +kernel
theorem dM_join_70 : decode bM_join 70 = .ok (.aload_n 0, 1) := by decide +kernel
theorem dM_join_71 : decode bM_join 71 = .ok (.getfield 13, 3) := by decide +kernel
theorem dM_join_74 : decode bM_join 74 = .ok (.iload_n 1, 1) := by decide +kernel
theorem dM_join_75 : decode bM_join 75 = .ok (.iaload, 1) := by decide +kernel
theorem dM_join_76 : decode bM_join 76 = .ok (.invokevirtual 46, 3) := by decide +kernel
theorem dM_join_79 : decode bM_join 79 = .ok (.aload_n 0, 1) := by decide +kernel
theorem dM_join_80 : decode bM_join 80 = .ok (.iload_n 2, 1) := by decide +kernel
theorem dM_join_81 : decode bM_join 81 = .ok (.iconst 0, 1) := by decide +kernel
theorem dM_join_82 : decode bM_join 82 = .ok (.aload_n 0, 1) := by decide +kernel
theorem dM_join_83 : decode bM_join 83 = .ok (.getfield 13, 3) := by decide +kernel
theorem dM_join_86 : decode bM_join 86 = .ok (.iload_n 2, 1) := by decide +kernel
theorem dM_join_87 : decode bM_join 87 = .ok (.iaload, 1) := by decide +kernel
theorem dM_join_88 : decode bM_join 88 = .ok (.invokevirtual 46, 3) := by decide +kernel
theorem dM_join_91 : decode bM_join 91 = .ok (.aload_n 0, 1) := by decide +kernel
theorem dM_join_92 : decode bM_join 92 = .ok (.iload_n 3, 1) := by decide +kernel
theorem dM_join_93 : decode bM_join 93 = .ok (.invokevirtual 50, 3) := by decide +kernel
theorem dM_join_96 : decode bM_join 96 = .ok (.ireturn, 1) := by decide +kernel
theorem dM_insert_0 : decode bM_insert 0 = .ok (.aload_n 0, 1) := by decide +kernel
theorem dM_insert_1 : decode bM_insert 1 = .ok (.iload_n 1, 1) := by decide +kernel
theorem dM_insert_2 : decode bM_insert 2 = .ok (.invokestatic 36, 3) := by decide +kernel
theorem dM_insert_5 : decode bM_insert 5 = .ok (.ifCond .eq 10, 3) := by decide +kernel
theorem dM_insert_8 : decode bM_insert 8 = .ok (.iload_n 3, 1) := by decide +kernel
theorem dM_insert_9 : decode bM_insert 9 = .ok (.invokestatic 36, 3) := by decide +kernel
theorem dM_insert_12 : decode bM_insert 12 = .ok (.ifCond .ne 7, 3) := by decide +kernel
theorem dM_insert_15 : decode bM_insert 15 = .ok (.iconst 1, 1) := by decide +kernel
theorem dM_insert_16 : decode bM_insert 16 = .ok (.goto 56, 3) := by decide +kernel
theorem dM_insert_19 : decode bM_insert 19 = .ok (.aload_n 0, 1) := by decide +kernel
theorem dM_insert_20 : decode bM_insert 20 = .ok (.iload_n 3, 1) := by decide +kernel
theorem dM_insert_21 : decode bM_insert 21 = .ok (.iload 4, 2) := by decide +kernel
theorem dM_insert_23 : decode bM_insert 23 = .ok (.iload 5, 2) := by decide +kernel
theorem dM_insert_25 : decode bM_insert 25 = .ok (.invokevirtual 42, 3) := by decide +kernel
theorem dM_insert_28 : decode bM_insert 28 = .ok (.ifCond .eq 17, 3) := by decide +kernel
theorem dM_insert_31 : decode bM_insert 31 = .ok (.iload_n 2, 1) := by decide +kernel
theorem dM_insert_32 : decode bM_insert 32 = .ok (.ifCond .lt 13, 3) := by decide +kernel
theorem dM_insert_35 : decode bM_insert 35 = .ok (.iload_n 2, 1) := by decide +kernel
theorem dM_insert_36 : decode bM_insert 36 = .ok (.aload_n 0, 1) := by decide +kernel
theorem dM_insert_37 : decode bM_insert 37 = .ok (.getfield 13, 3) := by decide +kernel
theorem dM_insert_40 : decode bM_insert 40 = .ok (.iload_n 1, 1) := by decide +kernel
theorem dM_insert_41 : decode bM_insert 41 = .ok (.iaload, 1) := by decide +kernel
theorem dM_insert_42 : decode bM_insert 42 = .ok (.if_icmp .le 7, 3) := by decide +kernel
theorem dM_insert_45 : decode bM_insert 45 = .ok (.iconst 2, 1) := by decide +kernel
theorem dM_insert_46 : decode bM_insert 46 = .ok (.goto 26, 3) := by decide +kernel
theorem dM_insert_49 : decode bM_insert 49 = .ok (.aload_n 0, 1) := by decide +kernel
theorem dM_insert_50 : decode bM_insert 50 = .ok (.getfield 13, 3) := by decide +kernel
theorem dM_insert_53 : decode bM_insert 53 = .ok (.iload_n 1, 1) := by decide +kernel
theorem dM_insert_54 : decode bM_insert 54 = .ok (.iaload, 1) := by decide +kernel
theorem dM_insert_55 : decode bM_insert 55 = .ok (.iload 5, 2) := by decide +kernel
theorem dM_insert_57 : decode bM_insert 57 = .ok (.iadd, 1) := by decide +kernel
theorem dM_insert_58 : decode bM_insert 58 = .ok (.iload 4, 2) := by decide +kernel
theorem dM_insert_60 : decode bM_insert 60 = .ok (.isub, 1) := by decide +kernel
theorem dM_insert_61 : decode bM_insert 61 = .ok (.sipush 1000, 3) := by decide +kernel
theorem dM_insert_64 : decode bM_insert 64 = .ok (.if_icmp .le 7, 3) := by decide +kernel
theorem dM_insert_67 : decode bM_insert 67 = .ok (.iconst 3, 1) := by decide +kernel
theorem dM_insert_68 : decode bM_insert 68 = .ok (.goto 4, 3) := by decide +kernel
theorem dM_insert_71 : decode bM_insert 71 = .ok (.iconst 0, 1) := by decide +kernel
theorem dM_insert_72 : decode bM_insert 72 = .ok (.putfield 29, 3) := by decide +kernel
theorem dM_insert_75 : decode bM_insert 75 = .ok (.aload_n 0, 1) := by decide +kernel
theorem dM_insert_76 : decode bM_insert 76 = .ok (.getfield 29, 3) := by decide +kernel
theorem dM_insert_79 : decode bM_insert 79 = .ok (.ifCond .le 5, 3) := by decide +kernel
theorem dM_insert_82 : decode bM_insert 82 = .ok (.iconst 0, 1) := by decide +kernel
theorem dM_insert_83 : decode bM_insert 83 = .ok (.ireturn, 1) := by decide +kernel
theorem dM_insert_84 : decode bM_insert 84 = .ok (.aload_n 0, 1) := by decide +kernel
theorem dM_insert_85 : decode bM_insert 85 = .ok (.iconst 0, 1) := by decide +kernel
theorem dM_insert_86 : decode bM_insert 86 = .ok (.putfield 33, 3) := by decide +kernel
theorem dM_insert_89 : decode bM_insert 89 = .ok (.aload_n 0, 1) := by decide +kernel
theorem dM_insert_90 : decode bM_insert 90 = .ok (.iload_n 1, 1) := by decide +kernel
theorem dM_insert_91 : decode bM_insert 91 = .ok (.iconst 0, 1) := by decide +kernel
theorem dM_insert_92 : decode bM_insert 92 = .ok (.iload_n 2, 1) := by decide +kernel
theorem dM_insert_93 : decode bM_insert 93 = .ok (.invokevirtual 46, 3) := by decide +kernel
theorem dM_insert_96 : decode bM_insert 96 = .ok (.aload_n 0, 1) := by decide +kernel
theorem dM_insert_97 : decode bM_insert 97 = .ok (.iload_n 3, 1) := by decide +kernel
theorem dM_insert_98 : decode bM_insert 98 = .ok (.iload 4, 2) := by decide +kernel
theorem dM_insert_100 : decode bM_insert 100 = .ok (.iload 5, 2) := by decide +kernel
theorem dM_insert_102 : decode bM_insert 102 = .ok (.invokevirtual 46, 3) := by decide +kernel
theorem dM_insert_105 : decode bM_insert 105 = .ok (.aload_n 0, 1) := by decide +kernel
theorem dM_insert_106 : decode bM_insert 106 = .ok (.iload_n 1, 1) := by decide +kernel
theorem dM_insert_107 : decode bM_insert 107 = .ok (.iload_n 2, 1) := by decide +kernel
theorem dM_insert_108 : decode bM_insert 108 = .ok (.aload_n 0, 1) := by decide +kernel
theorem dM_insert_109 : decode bM_insert 109 = .ok (.getfield 13, 3) := by decide +kernel
theorem dM_insert_112 : decode bM_insert 112 = .ok (.iload_n 1, 1) := by decide +kernel
theorem dM_insert_113 : decode bM_insert 113 = .ok (.iaload, 1) := by decide +kernel
theorem dM_insert_114 : decode bM_insert 114 = .ok (.invokevirtual 46, 3) := by decide +kernel
theorem dM_insert_117 : decode bM_insert 117 = .ok (.aload_n 0, 1) := by decide +kernel
theorem dM_insert_118 : decode bM_insert 118 = .ok (.iload_n 1, 1) := by decide +kernel
theorem dM_insert_119 : decode bM_insert 119 = .ok (.invokevirtual 50, 3) := by decide +kernel
theorem dM_insert_122 : decode bM_insert 122 = .ok (.ireturn, 1) := by decide +kernel
theorem dM_delete_0 : decode bM_delete 0 = .ok (.aload_n 0, 1) := by decide +kernel
theorem dM_delete_1 : decode bM_delete 1 = .ok (.iload_n 1, 1) := by decide +kernel
theorem dM_delete_2 : decode bM_delete 2 = .ok (.invokestatic 36, 3) := by decide +kernel
theorem dM_delete_5 : decode bM_delete 5 = .ok (.ifCond .ne 7, 3) := by decide +kernel
theorem dM_delete_8 : decode bM_delete 8 = .ok (.iconst 1, 1) := by decide +kernel
theorem dM_delete_9 : decode bM_delete 9 = .ok (.goto 18, 3) := by decide +kernel
theorem dM_delete_12 : decode bM_delete 12 = .ok (.aload_n 0, 1) := by decide +kernel
theorem dM_delete_13 : decode bM_delete 13 = .ok (.iload_n 1, 1) := by decide +kernel
theorem dM_delete_14 : decode bM_delete 14 = .ok (.iload_n 2, 1) := by decide +kernel
theorem dM_delete_15 : decode bM_delete 15 = .ok (.iload_n 3, 1) := by decide +kernel
theorem dM_delete_16 : decode bM_delete 16 = .ok (.invokevirtual 42, 3) := by decide +kernel
theorem dM_delete_19 : decode bM_delete 19 = .ok (.ifCond .ne 7, 3) := by decide +kernel
theorem dM_delete_22 : decode bM_delete 22 = .ok (.iconst 2, 1) := by decide +kernel
theorem dM_delete_23 : decode bM_delete 23 = .ok (.goto 4, 3) := by decide +kernel
theorem dM_delete_26 : decode bM_delete 26 = .ok (.iconst 0, 1) := by decide +kernel
theorem dM_delete_27 : decode bM_delete 27 = .ok (.putfield 29, 3) := by decide +kernel
theorem dM_delete_30 : decode bM_delete 30 = .ok (.aload_n 0, 1) := by decide +kernel
theorem dM_delete_31 : decode bM_delete 31 = .ok (.getfield 29, 3) := by decide +kernel
theorem dM_delete_34 : decode bM_delete 34 = .ok (.ifCond .le 5, 3) := by decide +kernel
theorem dM_delete_37 : decode bM_delete 37 = .ok (.iconst 0, 1) := by decide +kernel
theorem dM_delete_38 : decode bM_delete 38 = .ok (.ireturn, 1) := by decide +kernel
theorem dM_delete_39 : decode bM_delete 39 = .ok (.aload_n 0, 1) := by decide +kernel
theorem dM_delete_40 : decode bM_delete 40 = .ok (.iconst 0, 1) := by decide +kernel
theorem dM_delete_41 : decode bM_delete 41 = .ok (.putfield 33, 3) := by decide +kernel
theorem dM_delete_44 : decode bM_delete 44 = .ok (.aload_n 0, 1) := by decide +kernel
theorem dM_delete_45 : decode bM_delete 45 = .ok (.iload_n 1, 1) := by decide +kernel
theorem dM_delete_46 : decode bM_delete 46 = .ok (.iconst 0, 1) := by decide +kernel
theorem dM_delete_47 : decode bM_delete 47 = .ok (.iload_n 2, 1) := by decide +kernel
theorem dM_delete_48 : decode bM_delete 48 = .ok (.invokevirtual 46, 3) := by decide +kernel
theorem dM_delete_51 : decode bM_delete 51 = .ok (.aload_n 0, 1) := by decide +kernel
theorem dM_delete_52 : decode bM_delete 52 = .ok (.iload_n 1, 1) := by decide +kernel
theorem dM_delete_53 : decode bM_delete 53 = .ok (.iload_n 3, 1) := by decide +kernel
theorem dM_delete_54 : decode bM_delete 54 = .ok (.aload_n 0, 1) := by decide +kernel
theorem dM_delete_55 : decode bM_delete 55 = .ok (.getfield 13, 3) := by decide +kernel
theorem dM_delete_58 : decode bM_delete 58 = .ok (.iload_n 1, 1) := by decide +kernel
theorem dM_delete_59 : decode bM_delete 59 = .ok (.iaload, 1) := by decide +kernel
theorem dM_delete_60 : decode bM_delete 60 = .ok (.invokevirtual 46, 3) := by decide +kernel
theorem dM_delete_63 : decode bM_delete 63 = .ok (.aload_n 0, 1) := by decide +kernel
theorem dM_delete_64 : decode bM_delete 64 = .ok (.iload_n 1, 1) := by decide +kernel
theorem dM_delete_65 : decode bM_delete 65 = .ok (.invokevirtual 50, 3) := by decide +kernel
theorem dM_delete_68 : decode bM_delete 68 = .ok (.ireturn, 1) := by decide +kernel
theorem dM_addRest_0 : decode bM_addRest 0 = .ok (.iload 4, 2) := by decide +kernel
theorem dM_addRest_2 : decode bM_addRest 2 = .ok (.istore 6, 2) := by decide +kernel
theorem dM_addRest_4 : decode bM_addRest 4 = .ok (.iload 6, 2) := by decide +kernel
theorem dM_addRest_6 : decode bM_addRest 6 = .ok (.iload 5, 2) := by decide +kernel
theorem dM_addRest_8 : decode bM_addRest 8 = .ok (.if_icmp .ge 39, 3) := by decide +kernel
theorem dM_addRest_11 : decode bM_addRest 11 = .ok (.iload 6, 2) := by decide +kernel
theorem dM_addRest_13 : decode bM_addRest 13 = .ok (.iload_n 2, 1) := by decide +kernel
theorem dM_addRest_14 : decode bM_addRest 14 = .ok (.if_icmp .ge 8, 3) := by decide +kernel
theorem dM_addRest_17 : decode bM_addRest 17 = .ok (.iload 6, 2) := by decide +kernel
theorem dM_addRest_19 : decode bM_addRest 19 = .ok (.goto 9, 3) := by decide +kernel
theorem dM_addRest_22 : decode bM_addRest 22 = .ok (.iload 6, 2) := by decide +kernel
theorem dM_addRest_24 : decode bM_addRest 24 = .ok (.iload_n 3, 1) := by decide +kernel
theorem dM_addRest_25 : decode bM_addRest 25 = .ok (.iadd, 1) := by decide +kernel
theorem dM_addRest_26 : decode bM_addRest 26 = .ok (.iload_n 2, 1) := by decide +kernel
theorem dM_addRest_27 : decode bM_addRest 27 = .ok (.isub, 1) := by decide +kernel
theorem dM_addRest_28 : decode bM_addRest 28 = .ok (.istore 7, 2) := by decide +kernel
theorem dM_addRest_30 : decode bM_addRest 30 = .ok (.aload_n 0, 1) := by decide +kernel
theorem dM_addRest_31 : decode bM_addRest 31 = .ok (.iload_n 1, 1) := by decide +kernel
theorem dM_addRest_32 : decode bM_addRest 32 = .ok (.iload 7, 2) := by decide +kernel
theorem dM_addRest_34 : decode bM_addRest 34 = .ok (.iload 7, 2) := by decide +kernel
theorem dM_addRest_36 : decode bM_addRest 36 = .ok (.iconst 1, 1) := by decide +kernel
theorem dM_addRest_37 : decode bM_addRest 37 = .ok (.iadd, 1) := by decide +kernel
theorem dM_addRest_38 : decode bM_addRest 38 = .ok (.invokevirtual 46, 3) := by decide +kernel
theorem dM_addRest_41 : decode bM_addRest 41 = .ok (.iinc 6 1, 3) := by decide +kernel
theorem dM_addRest_44 : decode bM_addRest 44 = .ok (.goto (-40), 3) := by decide +kernel
theorem dM_addRest_47 : decode bM_addRest 47 = .ok (.return_, 1) := by decide +kernel
theorem dM_move_0 : decode bM_move 0 = .ok (.aload_n 0, 1) := by decide +kernel
theorem dM_move_1 : decode bM_move 1 = .ok (.iload_n 1, 1) := by decide +kernel
theorem dM_move_2 : decode bM_move 2 = .ok (.invokestatic 36, 3) := by decide +kernel
theorem dM_move_5 : decode bM_move 5 = .ok (.ifCond .ne 7, 3) := by decide +kernel
theorem dM_move_8 : decode bM_move 8 = .ok (.iconst 1, 1) := by decide +kernel
theorem dM_move_9 : decode bM_move 9 = .ok (.goto 38, 3) := by decide +kernel
theorem dM_move_12 : decode bM_move 12 = .ok (.aload_n 0, 1) := by decide +kernel
theorem dM_move_13 : decode bM_move 13 = .ok (.iload_n 1, 1) := by decide +kernel
theorem dM_move_14 : decode bM_move 14 = .ok (.iload_n 2, 1) := by decide +kernel
theorem dM_move_15 : decode bM_move 15 = .ok (.iload_n 3, 1) := by decide +kernel
theorem dM_move_16 : decode bM_move 16 = .ok (.invokevirtual 42, 3) := by decide +kernel
theorem dM_move_19 : decode bM_move 19 = .ok (.ifCond .eq 23, 3) := by decide +kernel
theorem dM_move_22 : decode bM_move 22 = .ok (.iload 4, 2) := by decide +kernel
theorem dM_move_24 : decode bM_move 24 = .ok (.ifCond .lt 18, 3) := by decide +kernel
theorem dM_move_27 : decode bM_move 27 = .ok (.iload 4, 2) := by decide +kernel
theorem dM_move_29 : decode bM_move 29 = .ok (.aload_n 0, 1) := by decide +kernel
theorem dM_move_30 : decode bM_move 30 = .ok (.getfield 13, 3) := by decide +kernel
theorem dM_move_33 : decode bM_move 33 = .ok (.iload_n 1, 1) := by decide +kernel
theorem dM_move_34 : decode bM_move 34 = .ok (.iaload, 1) := by decide +kernel
theorem dM_move_35 : decode bM_move 35 = .ok (.iload_n 3, 1) := by decide +kernel
theorem dM_move_36 : decode bM_move 36 = .ok (.iload_n 2, 1) := by decide +kernel
theorem dM_move_37 : decode bM_move 37 = .ok (.isub, 1) := by decide +kernel
theorem dM_move_38 : decode bM_move 38 = .ok (.isub, 1) := by decide +kernel
theorem dM_move_39 : decode bM_move 39 = .ok (.if_icmp .le 7, 3) := by decide +kernel
theorem dM_move_42 : decode bM_move 42 = .ok (.iconst 2, 1) := by decide +kernel
theorem dM_move_43 : decode bM_move 43 = .ok (.goto 4, 3) := by decide +kernel
theorem dM_move_46 : decode bM_move 46 = .ok (.iconst 0, 1) := by decide +kernel
theorem dM_move_47 : decode bM_move 47 = .ok (.putfield 29, 3) := by decide +kernel
theorem dM_move_50 : decode bM_move 50 = .ok (.aload_n 0, 1) := by decide +kernel
theorem dM_move_51 : decode bM_move 51 = .ok (.getfield 29, 3) := by decide +kernel
theorem dM_move_54 : decode bM_move 54 = .ok (.ifCond .le 5, 3) := by decide +kernel
theorem dM_move_57 : decode bM_move 57 = .ok (.iconst 0, 1) := by decide +kernel
theorem dM_move_58 : decode bM_move 58 = .ok (.ireturn, 1) := by decide +kernel
theorem dM_move_59 : decode bM_move 59 = .ok (.aload_n 0, 1) := by decide +kernel
theorem dM_move_60 : decode bM_move 60 = .ok (.iconst 0, 1) := by decide +kernel
theorem dM_move_61 : decode bM_move 61 = .ok (.putfield 33, 3) := by decide +kernel
theorem dM_move_64 : decode bM_move 64 = .ok (.aload_n 0, 1) := by decide +kernel
theorem dM_move_65 : decode bM_move 65 = .ok (.iload_n 1, 1) := by decide +kernel
theorem dM_move_66 : decode bM_move 66 = .ok (.iload_n 2, 1) := by decide +kernel
theorem dM_move_67 : decode bM_move 67 = .ok (.iload_n 3, 1) := by decide +kernel
theorem dM_move_68 : decode bM_move 68 = .ok (.iconst 0, 1) := by decide +kernel
theorem dM_move_69 : decode bM_move 69 = .ok (.iload 4, 2) := by decide +kernel
theorem dM_move_71 : decode bM_move 71 = .ok (.invokevirtual 54, 3) := by decide +kernel
theorem dM_move_74 : decode bM_move 74 = .ok (.aload_n 0, 1) := by decide +kernel
theorem dM_move_75 : decode bM_move 75 = .ok (.iload_n 1, 1) := by decide +kernel
theorem dM_move_76 : decode bM_move 76 = .ok (.iload_n 2, 1) := by decide +kernel
theorem dM_move_77 : decode bM_move 77 = .ok (.iload_n 3, 1) := by decide +kernel
theorem dM_move_78 : decode bM_move 78 = .ok (.invokevirtual 46, 3) := by decide +kernel
theorem dM_move_81 : decode bM_move 81 = .ok (.aload_n 0, 1) := by decide +kernel
theorem dM_move_82 : decode bM_move 82 = .ok (.iload_n 1, 1) := by decide +kernel
theorem dM_move_83 : decode bM_move 83 = .ok (.iload_n 2, 1) := by decide +kernel
theorem dM_move_84 : decode bM_move 84 = .ok (.iload_n 3, 1) := by decide +kernel
theorem dM_move_85 : decode bM_move 85 = .ok (.iload 4, 2) := by decide +kernel
theorem dM_move_87 : decode bM_move 87 = .ok (.aload_n 0, 1) := by decide +kernel
theorem dM_move_88 : decode bM_move 88 = .ok (.getfield 13, 3) := by decide +kernel
theorem dM_move_91 : decode bM_move 91 = .ok (.iload_n 1, 1) := by decide +kernel
theorem dM_move_92 : decode bM_move 92 = .ok (.iaload, 1) := by decide +kernel
theorem dM_move_93 : decode bM_move 93 = .ok (.iload_n 3, 1) := by decide +kernel
theorem dM_move_94 : decode bM_move 94 = .ok (.iload_n 2, 1) := by decide +kernel
theorem dM_move_95 : decode bM_move 95 = .ok (.isub, 1) := by decide +kernel
theorem dM_move_96 : decode bM_move 96 = .ok (.isub, 1) := by decide +kernel
theorem dM_move_97 : decode bM_move 97 = .ok (.invokevirtual 54, 3) := by decide +kernel
theorem dM_move_100 : decode bM_move 100 = .ok (.aload_n 0, 1) := by decide +kernel
theorem dM_move_101 : decode bM_move 101 = .ok (.iload_n 1, 1) := by decide +kernel
theorem dM_move_102 : decode bM_move 102 = .ok (.invokevirtual 50, 3) := by decide +kernel
theorem dM_move_105 : decode bM_move 105 = .ok (.ireturn, 1) := by decide +kernel
theorem dM_repeat_0 : decode bM_repeat 0 = .ok (.aload_n 0, 1) := by decide +kernel
theorem dM_repeat_1 : decode bM_repeat 1 = .ok (.iload_n 1, 1) := by decide +kernel
theorem dM_repeat_2 : decode bM_repeat 2 = .ok (.invokestatic 36, 3) := by decide +kernel
theorem dM_repeat_5 : decode bM_repeat 5 = .ok (.ifCond .eq 8, 3) := by decide +kernel
theorem dM_repeat_8 : decode bM_repeat 8 = .ok (.iload 4, 2) := by decide +kernel
theorem dM_repeat_10 : decode bM_repeat 10 = .ok (.ifCond .ge 7, 3) := by decide +kernel
theorem dM_repeat_13 : decode bM_repeat 13 = .ok (.iconst 1, 1) := by decide +kernel
theorem dM_repeat_14 : decode bM_repeat 14 = .ok (.goto 18, 3) := by decide +kernel
theorem dM_repeat_17 : decode bM_repeat 17 = .ok (.aload_n 0, 1) := by decide +kernel
theorem dM_repeat_18 : decode bM_repeat 18 = .ok (.iload_n 1, 1) := by decide +kernel
theorem dM_repeat_19 : decode bM_repeat 19 = .ok (.iload_n 2, 1) := by decide +kernel
theorem dM_repeat_20 : decode bM_repeat 20 = .ok (.iload_n 3, 1) := by decide +kernel
theorem dM_repeat_21 : decode bM_repeat 21 = .ok (.invokevirtual 42, 3) := by decide +kernel
theorem dM_repeat_24 : decode bM_repeat 24 = .ok (.ifCond .ne 7, 3) := by decide +kernel
theorem dM_repeat_27 : decode bM_repeat 27 = .ok (.iconst 2, 1) := by decide +kernel
theorem dM_repeat_28 : decode bM_repeat 28 = .ok (.goto 4, 3) := by decide +kernel
theorem dM_repeat_31 : decode bM_repeat 31 = .ok (.iconst 0, 1) := by decide +kernel
theorem dM_repeat_32 : decode bM_repeat 32 = .ok (.putfield 29, 3) := by decide +kernel
theorem dM_repeat_35 : decode bM_repeat 35 = .ok (.aload_n 0, 1) := by decide +kernel
theorem dM_repeat_36 : decode bM_repeat 36 = .ok (.getfield 29, 3) := by decide +kernel
theorem dM_repeat_39 : decode bM_repeat 39 = .ok (.ifCond .ne 33, 3) := by decide +kernel
theorem dM_repeat_42 : decode bM_repeat 42 = .ok (.aload_n 0, 1) := by decide +kernel
theorem dM_repeat_43 : decode bM_repeat 43 = .ok (.getfield 13, 3) := by decide +kernel
theorem dM_repeat_46 : decode bM_repeat 46 = .ok (.iload_n 1, 1) := by decide +kernel
theorem dM_repeat_47 : decode bM_repeat 47 = .ok (.iaload, 1) := by decide +kernel
theorem dM_repeat_48 : decode bM_repeat 48 = .ok (.i2l, 1) := by decide +kernel
theorem dM_repeat_49 : decode bM_repeat 49 = .ok (.iload 4, 2) := by decide +kernel
theorem dM_repeat_51 : decode bM_repeat 51 = .ok (.i2l, 1) := by decide +kernel
theorem dM_repeat_52 : decode bM_repeat 52 = .ok (.lconst 1, 1) := by decide +kernel
theorem dM_repeat_53 : decode bM_repeat 53 = .ok (.lsub, 1) := by decide +kernel
theorem dM_repeat_54 : decode bM_repeat 54 = .ok (.iload_n 3, 1) := by decide +kernel
theorem dM_repeat_55 : decode bM_repeat 55 = .ok (.iload_n 2, 1) := by decide +kernel
theorem dM_repeat_56 : decode bM_repeat 56 = .ok (.isub, 1) := by decide +kernel
theorem dM_repeat_57 : decode bM_repeat 57 = .ok (.i2l, 1) := by decide +kernel
theorem dM_repeat_58 : decode bM_repeat 58 = .ok (.lmul, 1) := by decide +kernel
theorem dM_repeat_59 : decode bM_repeat 59 = .ok (.ladd, 1) := by decide +kernel
theorem dM_repeat_60 : decode bM_repeat 60 = .ok (.ldc2_w 58, 3) := by decide +kernel
theorem dM_repeat_63 : decode bM_repeat 63 = .ok (.lcmp, 1) := by decide +kernel
theorem dM_repeat_64 : decode bM_repeat 64 = .ok (.ifCond .le 8, 3) := by decide +kernel
theorem dM_repeat_67 : decode bM_repeat 67 = .ok (.aload_n 0, 1) := by decide +kernel
theorem dM_repeat_68 : decode bM_repeat 68 = .ok (.iconst 3, 1) := by decide +kernel
theorem dM_repeat_69 : decode bM_repeat 69 = .ok (.putfield 29, 3) := by decide +kernel
theorem dM_repeat_72 : decode bM_repeat 72 = .ok (.aload_n 0, 1) := by decide +kernel
theorem dM_repeat_73 : decode bM_repeat 73 = .ok (.getfield 29, 3) := by decide +kernel
theorem dM_repeat_76 : decode bM_repeat 76 = .ok (.ifCond .le 5, 3) := by decide +kernel
theorem dM_repeat_79 : decode bM_repeat 79 = .ok (.iconst 0, 1) := by decide +kernel
theorem dM_repeat_80 : decode bM_repeat 80 = .ok (.ireturn, 1) := by decide +kernel
theorem dM_repeat_81 : decode bM_repeat 81 = .ok (.aload_n 0, 1) := by decide +kernel
theorem dM_repeat_82 : decode bM_repeat 82 = .ok (.iconst 0, 1) := by decide +kernel
theorem dM_repeat_83 : decode bM_repeat 83 = .ok (.putfield 33, 3) := by decide +kernel
theorem dM_repeat_86 : decode bM_repeat 86 = .ok (.aload_n 0, 1) := by decide +kernel
theorem dM_repeat_87 : decode bM_repeat 87 = .ok (.iload_n 1, 1) := by decide +kernel
theorem dM_repeat_88 : decode bM_repeat 88 = .ok (.iconst 0, 1) := by decide +kernel
theorem dM_repeat_89 : decode bM_repeat 89 = .ok (.iload_n 2, 1) := by decide +kernel
theorem dM_repeat_90 : decode bM_repeat 90 = .ok (.invokevirtual 46, 3) := by decide +kernel
theorem dM_repeat_93 : decode bM_repeat 93 = .ok (.iconst 0, 1) := by decide +kernel
theorem dM_repeat_94 : decode bM_repeat 94 = .ok (.istore 5, 2) := by decide +kernel
theorem dM_repeat_96 : decode bM_repeat 96 = .ok (.iload 5, 2) := by decide +kernel
theorem dM_repeat_98 : decode bM_repeat 98 = .ok (.iload 4, 2) := by decide +kernel
theorem dM_repeat_100 : decode bM_repeat 100 = .ok (.if_icmp .ge 21, 3) := by decide +kernel
theorem dM_repeat_103 : decode bM_repeat 103 = .ok (.iload_n 2, 1) := by decide +kernel
theorem dM_repeat_104 : decode bM_repeat 104 = .ok (.iload_n 3, 1) := by decide +kernel
theorem dM_repeat_105 : decode bM_repeat 105 = .ok (.if_icmp .ge 16, 3) := by decide +kernel
theorem dM_repeat_108 : decode bM_repeat 108 = .ok (.aload_n 0, 1) := by decide +kernel
theorem dM_repeat_109 : decode bM_repeat 109 = .ok (.iload_n 1, 1) := by decide +kernel
theorem dM_repeat_110 : decode bM_repeat 110 = .ok (.iload_n 2, 1) := by decide +kernel
theorem dM_repeat_111 : decode bM_repeat 111 = .ok (.iload_n 3, 1) := by decide +kernel
theorem dM_repeat_112 : decode bM_repeat 112 = .ok (.invokevirtual 46, 3) := by decide +kernel
theorem dM_repeat_115 : decode bM_repeat 115 = .ok (.iinc 5 1, 3) := by decide +kernel
theorem dM_repeat_118 : decode bM_repeat 118 = .ok (.goto (-22), 3) := by decide +kernel
theorem dM_repeat_121 : decode bM_repeat 121 = .ok (.aload_n 0, 1) := by decide +kernel
theorem dM_repeat_122 : decode bM_repeat 122 = .ok (.iload_n 1, 1) := by decide +kernel
theorem dM_repeat_123 : decode bM_repeat 123 = .ok (.iload_n 3, 1) := by decide +kernel
theorem dM_repeat_124 : decode bM_repeat 124 = .ok (.aload_n 0, 1) := by decide +kernel
theorem dM_repeat_125 : decode bM_repeat 125 = .ok (.getfield 13, 3) := by decide +kernel
theorem dM_repeat_128 : decode bM_repeat 128 = .ok (.iload_n 1, 1) := by decide +kernel
theorem dM_repeat_129 : decode bM_repeat 129 = .ok (.iaload, 1) := by decide +kernel
theorem dM_repeat_130 : decode bM_repeat 130 = .ok (.invokevirtual 46, 3) := by decide +kernel
theorem dM_repeat_133 : decode bM_repeat 133 = .ok (.aload_n 0, 1) := by decide +kernel
theorem dM_repeat_134 : decode bM_repeat 134 = .ok (.iload_n 1, 1) := by decide +kernel
theorem dM_repeat_135 : decode bM_repeat 135 = .ok (.invokevirtual 50, 3) := by decide +kernel
theorem dM_repeat_138 : decode bM_repeat 138 = .ok (.ireturn, 1) := by decide +kernel
theorem dM_common_0 : decode bM_common 0 = .ok (.iconst 0, 1) := by decide +kernel
theorem dM_common_1 : decode bM_common 1 = .ok (.istore 5, 2) := by decide +kernel
theorem dM_common_3 : decode bM_common 3 = .ok (.iload_n 2, 1) := by decide +kernel
theorem dM_common_4 : decode bM_common 4 = .ok (.iload 5, 2) := by decide +kernel
theorem dM_common_6 : decode bM_common 6 = .ok (.iadd, 1) := by decide +kernel
theorem dM_common_7 : decode bM_common 7 = .ok (.aload_n 0, 1) := by decide +kernel
theorem dM_common_8 : decode bM_common 8 = .ok (.getfield 13, 3) := by decide +kernel
theorem dM_common_11 : decode bM_common 11 = .ok (.iload_n 1, 1) := by decide +kernel
theorem dM_common_12 : decode bM_common 12 = .ok (.iaload, 1) := by decide +kernel
theorem dM_common_13 : decode bM_common 13 = .ok (.if_icmp .ge 57, 3) := by decide +kernel
theorem dM_common_16 : decode bM_common 16 = .ok (.iload 4, 2) := by decide +kernel
theorem dM_common_18 : decode bM_common 18 = .ok (.iload 5, 2) := by decide +kernel
theorem dM_common_20 : decode bM_common 20 = .ok (.iadd, 1) := by decide +kernel
theorem dM_common_21 : decode bM_common 21 = .ok (.aload_n 0, 1) := by decide +kernel
theorem dM_common_22 : decode bM_common 22 = .ok (.getfield 13, 3) := by decide +kernel
theorem dM_common_25 : decode bM_common 25 = .ok (.iload_n 3, 1) := by decide +kernel
theorem dM_common_26 : decode bM_common 26 = .ok (.iaload, 1) := by decide +kernel
theorem dM_common_27 : decode bM_common 27 = .ok (.if_icmp .ge 43, 3) := by decide +kernel
theorem dM_common_30 : decode bM_common 30 = .ok (.aload_n 0, 1) := by decide +kernel
theorem dM_common_31 : decode bM_common 31 = .ok (.getfield 7, 3) := by decide +kernel
theorem dM_common_34 : decode bM_common 34 = .ok (.sipush 1000, 3) := by decide +kernel
theorem dM_common_37 : decode bM_common 37 = .ok (.iload_n 1, 1) := by decide +kernel
theorem dM_common_38 : decode bM_common 38 = .ok (.imul, 1) := by decide +kernel
theorem dM_common_39 : decode bM_common 39 = .ok (.iload_n 2, 1) := by decide +kernel
theorem dM_common_40 : decode bM_common 40 = .ok (.iadd, 1) := by decide +kernel
theorem dM_common_41 : decode bM_common 41 = .ok (.iload 5, 2) := by decide +kernel
theorem dM_common_43 : decode bM_common 43 = .ok (.iadd, 1) := by decide +kernel
theorem dM_common_44 : decode bM_common 44 = .ok (.iaload, 1) := by decide +kernel
theorem dM_common_45 : decode bM_common 45 = .ok (.aload_n 0, 1) := by decide +kernel
theorem dM_common_46 : decode bM_common 46 = .ok (.getfield 7, 3) := by decide +kernel
theorem dM_common_49 : decode bM_common 49 = .ok (.sipush 1000, 3) := by decide +kernel
theorem dM_common_52 : decode bM_common 52 = .ok (.iload_n 3, 1) := by decide +kernel
theorem dM_common_53 : decode bM_common 53 = .ok (.imul, 1) := by decide +kernel
theorem dM_common_54 : decode bM_common 54 = .ok (.iload 4, 2) := by decide +kernel
theorem dM_common_56 : decode bM_common 56 = .ok (.iadd, 1) := by decide +kernel
theorem dM_common_57 : decode bM_common 57 = .ok (.iload 5, 2) := by decide +kernel
theorem dM_common_59 : decode bM_common 59 = .ok (.iadd, 1) := by decide +kernel
theorem dM_common_60 : decode bM_common 60 = .ok (.iaload, 1) := by decide +kernel
theorem dM_common_61 : decode bM_common 61 = .ok (.if_icmp .ne 9, 3) := by decide +kernel
theorem dM_common_64 : decode bM_common 64 = .ok (.iinc 5 1, 3) := by decide +kernel
theorem dM_common_67 : decode bM_common 67 = .ok (.goto (-64), 3) := by decide +kernel
theorem dM_common_70 : decode bM_common 70 = .ok (.iload 5, 2) := by decide +kernel
theorem dM_common_72 : decode bM_common 72 = .ok (.ireturn, 1) := by decide +kernel
theorem dM_same_0 : decode bM_same 0 = .ok (.aload_n 0, 1) := by decide +kernel
theorem dM_same_1 : decode bM_same 1 = .ok (.iload_n 1, 1) := by decide +kernel
theorem dM_same_2 : decode bM_same 2 = .ok (.invokestatic 36, 3) := by decide +kernel
theorem dM_same_5 : decode bM_same 5 = .ok (.ifCond .eq 15, 3) := by decide +kernel
theorem dM_same_8 : decode bM_same 8 = .ok (.iload_n 3, 1) := by decide +kernel
theorem dM_same_9 : decode bM_same 9 = .ok (.invokestatic 36, 3) := by decide +kernel
theorem dM_same_12 : decode bM_same 12 = .ok (.ifCond .eq 8, 3) := by decide +kernel
theorem dM_same_15 : decode bM_same 15 = .ok (.iload 5, 2) := by decide +kernel
theorem dM_same_17 : decode bM_same 17 = .ok (.ifCond .ge 7, 3) := by decide +kernel
theorem dM_same_20 : decode bM_same 20 = .ok (.iconst 1, 1) := by decide +kernel
theorem dM_same_21 : decode bM_same 21 = .ok (.goto 4, 3) := by decide +kernel
theorem dM_same_24 : decode bM_same 24 = .ok (.iconst 0, 1) := by decide +kernel
theorem dM_same_25 : decode bM_same 25 = .ok (.putfield 29, 3) := by decide +kernel
theorem dM_same_28 : decode bM_same 28 = .ok (.aload_n 0, 1) := by decide +kernel
theorem dM_same_29 : decode bM_same 29 = .ok (.getfield 29, 3) := by decide +kernel
theorem dM_same_32 : decode bM_same 32 = .ok (.ifCond .ne 44, 3) := by decide +kernel
theorem dM_same_35 : decode bM_same 35 = .ok (.iload_n 2, 1) := by decide +kernel
theorem dM_same_36 : decode bM_same 36 = .ok (.ifCond .lt 35, 3) := by decide +kernel
theorem dM_same_39 : decode bM_same 39 = .ok (.iload 4, 2) := by decide +kernel
theorem dM_same_41 : decode bM_same 41 = .ok (.ifCond .lt 30, 3) := by decide +kernel
theorem dM_same_44 : decode bM_same 44 = .ok (.iload_n 2, 1) := by decide +kernel
theorem dM_same_45 : decode bM_same 45 = .ok (.aload_n 0, 1) := by decide +kernel
theorem dM_same_46 : decode bM_same 46 = .ok (.getfield 13, 3) := by decide +kernel
theorem dM_same_49 : decode bM_same 49 = .ok (.iload_n 1, 1) := by decide +kernel
theorem dM_same_50 : decode bM_same 50 = .ok (.iaload, 1) := by decide +kernel
theorem dM_same_51 : decode bM_same 51 = .ok (.iload 5, 2) := by decide +kernel
theorem dM_same_53 : decode bM_same 53 = .ok (.isub, 1) := by decide +kernel
theorem dM_same_54 : decode bM_same 54 = .ok (.if_icmp .gt 17, 3) := by decide +kernel
theorem dM_same_57 : decode bM_same 57 = .ok (.iload 4, 2) := by decide +kernel
theorem dM_same_59 : decode bM_same 59 = .ok (.aload_n 0, 1) := by decide +kernel
theorem dM_same_60 : decode bM_same 60 = .ok (.getfield 13, 3) := by decide +kernel
theorem dM_same_63 : decode bM_same 63 = .ok (.iload_n 3, 1) := by decide +kernel
theorem dM_same_64 : decode bM_same 64 = .ok (.iaload, 1) := by decide +kernel
theorem dM_same_65 : decode bM_same 65 = .ok (.iload 5, 2) := by decide +kernel
theorem dM_same_67 : decode bM_same 67 = .ok (.isub, 1) := by decide +kernel
theorem dM_same_68 : decode bM_same 68 = .ok (.if_icmp .le 8, 3) := by decide +kernel
theorem dM_same_71 : decode bM_same 71 = .ok (.aload_n 0, 1) := by decide +kernel
theorem dM_same_72 : decode bM_same 72 = .ok (.iconst 2, 1) := by decide +kernel
theorem dM_same_73 : decode bM_same 73 = .ok (.putfield 29, 3) := by decide +kernel
theorem dM_same_76 : decode bM_same 76 = .ok (.aload_n 0, 1) := by decide +kernel
theorem dM_same_77 : decode bM_same 77 = .ok (.getfield 29, 3) := by decide +kernel
theorem dM_same_80 : decode bM_same 80 = .ok (.ifCond .ne 21, 3) := by decide +kernel
theorem dM_same_83 : decode bM_same 83 = .ok (.aload_n 0, 1) := by decide +kernel
theorem dM_same_84 : decode bM_same 84 = .ok (.iload_n 1, 1) := by decide +kernel
theorem dM_same_85 : decode bM_same 85 = .ok (.iload_n 2, 1) := by decide +kernel
theorem dM_same_86 : decode bM_same 86 = .ok (.iload_n 3, 1) := by decide +kernel
theorem dM_same_87 : decode bM_same 87 = .ok (.iload 4, 2) := by decide +kernel
theorem dM_same_89 : decode bM_same 89 = .ok (.invokevirtual 60, 3) := by decide +kernel
theorem dM_same_92 : decode bM_same 92 = .ok (.iload 5, 2) := by decide +kernel
theorem dM_same_94 : decode bM_same 94 = .ok (.if_icmp .lt 7, 3) := by decide +kernel
theorem dM_same_97 : decode bM_same 97 = .ok (.iconst 1, 1) := by decide +kernel
theorem dM_same_98 : decode bM_same 98 = .ok (.goto 4, 3) := by decide +kernel
theorem dM_same_101 : decode bM_same 101 = .ok (.iconst 0, 1) := by decide +kernel
theorem dM_same_102 : decode bM_same 102 = .ok (.ireturn, 1) := by decide +kernel
theorem dM_pieces_0 : decode bM_pieces 0 = .ok (.iload_n 0, 1) := by decide +kernel
theorem dM_pieces_1 : decode bM_pieces 1 = .ok (.ifCond .ne 7, 3) := by decide +kernel
theorem dM_pieces_4 : decode bM_pieces 4 = .ok (.iconst 1, 1) := by decide +kernel
theorem dM_pieces_5 : decode bM_pieces 5 = .ok (.goto 27, 3) := by decide +kernel
theorem dM_pieces_8 : decode bM_pieces 8 = .ok (.iload_n 1, 1) := by decide +kernel
theorem dM_pieces_9 : decode bM_pieces 9 = .ok (.ifCond .lt 18, 3) := by decide +kernel
theorem dM_pieces_12 : decode bM_pieces 12 = .ok (.iload_n 1, 1) := by decide +kernel
theorem dM_pieces_13 : decode bM_pieces 13 = .ok (.iload_n 3, 1) := by decide +kernel
theorem dM_pieces_14 : decode bM_pieces 14 = .ok (.if_icmp .gt 13, 3) := by decide +kernel
theorem dM_pieces_17 : decode bM_pieces 17 = .ok (.iload_n 2, 1) := by decide +kernel
theorem dM_pieces_18 : decode bM_pieces 18 = .ok (.ifCond .lt 9, 3) := by decide +kernel
theorem dM_pieces_21 : decode bM_pieces 21 = .ok (.iload_n 2, 1) := by decide +kernel
theorem dM_pieces_22 : decode bM_pieces 22 = .ok (.iload 4, 2) := by decide +kernel
theorem dM_pieces_24 : decode bM_pieces 24 = .ok (.if_icmp .le 7, 3) := by decide +kernel
theorem dM_pieces_27 : decode bM_pieces 27 = .ok (.iconst 2, 1) := by decide +kernel
theorem dM_pieces_28 : decode bM_pieces 28 = .ok (.goto 4, 3) := by decide +kernel
theorem dM_pieces_31 : decode bM_pieces 31 = .ok (.iconst 0, 1) := by decide +kernel
theorem dM_pieces_32 : decode bM_pieces 32 = .ok (.ireturn, 1) := by decide +kernel
theorem dM_prefix_0 : decode bM_prefix 0 = .ok (.iload_n 1, 1) := by decide +kernel
theorem dM_prefix_1 : decode bM_prefix 1 = .ok (.invokestatic 36, 3) := by decide +kernel
theorem dM_prefix_4 : decode bM_prefix 4 = .ok (.ifCond .eq 14, 3) := by decide +kernel
theorem dM_prefix_7 : decode bM_prefix 7 = .ok (.iload_n 3, 1) := by decide +kernel
theorem dM_prefix_8 : decode bM_prefix 8 = .ok (.invokestatic 36, 3) := by decide +kernel
theorem dM_prefix_11 : decode bM_prefix 11 = .ok (.ifCond .eq 7, 3) := by decide +kernel
theorem dM_prefix_14 : decode bM_prefix 14 = .ok (.iconst 1, 1) := by decide +kernel
theorem dM_prefix_15 : decode bM_prefix 15 = .ok (.goto 4, 3) := by decide +kernel
theorem dM_prefix_18 : decode bM_prefix 18 = .ok (.iconst 0, 1) := by decide +kernel
theorem dM_prefix_19 : decode bM_prefix 19 = .ok (.istore 5, 2) := by decide +kernel
theorem dM_prefix_21 : decode bM_prefix 21 = .ok (.aload_n 0, 1) := by decide +kernel
theorem dM_prefix_22 : decode bM_prefix 22 = .ok (.iload 5, 2) := by decide +kernel
theorem dM_prefix_24 : decode bM_prefix 24 = .ok (.iload_n 2, 1) := by decide +kernel
theorem dM_prefix_25 : decode bM_prefix 25 = .ok (.iload 4, 2) := by decide +kernel
theorem dM_prefix_27 : decode bM_prefix 27 = .ok (.iload 5, 2) := by decide +kernel
theorem dM_prefix_29 : decode bM_prefix 29 = .ok (.ifCond .eq 12, 3) := by decide +kernel
theorem dM_prefix_32 : decode bM_prefix 32 = .ok (.aload_n 0, 1) := by decide +kernel
theorem dM_prefix_33 : decode bM_prefix 33 = .ok (.getfield 13, 3) := by decide +kernel
theorem dM_prefix_36 : decode bM_prefix 36 = .ok (.iload_n 1, 1) := by decide +kernel
theorem dM_prefix_37 : decode bM_prefix 37 = .ok (.iaload, 1) := by decide +kernel
theorem dM_prefix_38 : decode bM_prefix 38 = .ok (.goto 4, 3) := by decide +kernel
theorem dM_prefix_41 : decode bM_prefix 41 = .ok (.iconst 0, 1) := by decide +kernel
theorem dM_prefix_42 : decode bM_prefix 42 = .ok (.iload 5, 2) := by decide +kernel
theorem dM_prefix_44 : decode bM_prefix 44 = .ok (.ifCond .eq 12, 3) := by decide +kernel
theorem dM_prefix_47 : decode bM_prefix 47 = .ok (.aload_n 0, 1) := by decide +kernel
theorem dM_prefix_48 : decode bM_prefix 48 = .ok (.getfield 13, 3) := by decide +kernel
theorem dM_prefix_51 : decode bM_prefix 51 = .ok (.iload_n 3, 1) := by decide +kernel
theorem dM_prefix_52 : decode bM_prefix 52 = .ok (.iaload, 1) := by decide +kernel
theorem dM_prefix_53 : decode bM_prefix 53 = .ok (.goto 4, 3) := by decide +kernel
theorem dM_prefix_56 : decode bM_prefix 56 = .ok (.iconst 0, 1) := by decide +kernel
theorem dM_prefix_57 : decode bM_prefix 57 = .ok (.invokestatic 64, 3) := by decide +kernel
theorem dM_prefix_60 : decode bM_prefix 60 = .ok (.putfield 29, 3) := by decide +kernel
theorem dM_prefix_63 : decode bM_prefix 63 = .ok (.aload_n 0, 1) := by decide +kernel
theorem dM_prefix_64 : decode bM_prefix 64 = .ok (.getfield 29, 3) := by decide +kernel
theorem dM_prefix_67 : decode bM_prefix 67 = .ok (.ifCond .le 7, 3) := by decide +kernel
theorem dM_prefix_70 : decode bM_prefix 70 = .ok (.iconst 0, 1) := by decide +kernel
theorem dM_prefix_71 : decode bM_prefix 71 = .ok (.goto 12, 3) := by decide +kernel
theorem dM_prefix_74 : decode bM_prefix 74 = .ok (.aload_n 0, 1) := by decide +kernel
theorem dM_prefix_75 : decode bM_prefix 75 = .ok (.iload_n 1, 1) := by decide +kernel
theorem dM_prefix_76 : decode bM_prefix 76 = .ok (.iload_n 2, 1) := by decide +kernel
theorem dM_prefix_77 : decode bM_prefix 77 = .ok (.iload_n 3, 1) := by decide +kernel
theorem dM_prefix_78 : decode bM_prefix 78 = .ok (.iload 4, 2) := by decide +kernel
theorem dM_prefix_80 : decode bM_prefix 80 = .ok (.invokevirtual 60, 3) := by decide +kernel
theorem dM_prefix_83 : decode bM_prefix 83 = .ok (.ireturn, 1) := by decide +kernel
theorem dM_order_0 : decode bM_order 0 = .ok (.iload_n 1, 1) := by decide +kernel
theorem dM_order_1 : decode bM_order 1 = .ok (.invokestatic 36, 3) := by decide +kernel
theorem dM_order_4 : decode bM_order 4 = .ok (.ifCond .eq 14, 3) := by decide +kernel
theorem dM_order_7 : decode bM_order 7 = .ok (.iload_n 3, 1) := by decide +kernel
theorem dM_order_8 : decode bM_order 8 = .ok (.invokestatic 36, 3) := by decide +kernel
theorem dM_order_11 : decode bM_order 11 = .ok (.ifCond .eq 7, 3) := by decide +kernel
theorem dM_order_14 : decode bM_order 14 = .ok (.iconst 1, 1) := by decide +kernel
theorem dM_order_15 : decode bM_order 15 = .ok (.goto 4, 3) := by decide +kernel
theorem dM_order_18 : decode bM_order 18 = .ok (.iconst 0, 1) := by decide +kernel
theorem dM_order_19 : decode bM_order 19 = .ok (.istore 5, 2) := by decide +kernel
theorem dM_order_21 : decode bM_order 21 = .ok (.aload_n 0, 1) := by decide +kernel
theorem dM_order_22 : decode bM_order 22 = .ok (.iload 5, 2) := by decide +kernel
theorem dM_order_24 : decode bM_order 24 = .ok (.iload_n 2, 1) := by decide +kernel
theorem dM_order_25 : decode bM_order 25 = .ok (.iload 4, 2) := by decide +kernel
theorem dM_order_27 : decode bM_order 27 = .ok (.iload 5, 2) := by decide +kernel
theorem dM_order_29 : decode bM_order 29 = .ok (.ifCond .eq 12, 3) := by decide +kernel
theorem dM_order_32 : decode bM_order 32 = .ok (.aload_n 0, 1) := by decide +kernel
theorem dM_order_33 : decode bM_order 33 = .ok (.getfield 13, 3) := by decide +kernel
theorem dM_order_36 : decode bM_order 36 = .ok (.iload_n 1, 1) := by decide +kernel
theorem dM_order_37 : decode bM_order 37 = .ok (.iaload, 1) := by decide +kernel
theorem dM_order_38 : decode bM_order 38 = .ok (.goto 4, 3) := by decide +kernel
theorem dM_order_41 : decode bM_order 41 = .ok (.iconst 0, 1) := by decide +kernel
theorem dM_order_42 : decode bM_order 42 = .ok (.iload 5, 2) := by decide +kernel
theorem dM_order_44 : decode bM_order 44 = .ok (.ifCond .eq 12, 3) := by decide +kernel
theorem dM_order_47 : decode bM_order 47 = .ok (.aload_n 0, 1) := by decide +kernel
theorem dM_order_48 : decode bM_order 48 = .ok (.getfield 13, 3) := by decide +kernel
theorem dM_order_51 : decode bM_order 51 = .ok (.iload_n 3, 1) := by decide +kernel
theorem dM_order_52 : decode bM_order 52 = .ok (.iaload, 1) := by decide +kernel
theorem dM_order_53 : decode bM_order 53 = .ok (.goto 4, 3) := by decide +kernel
theorem dM_order_56 : decode bM_order 56 = .ok (.iconst 0, 1) := by decide +kernel
theorem dM_order_57 : decode bM_order 57 = .ok (.invokestatic 64, 3) := by decide +kernel
theorem dM_order_60 : decode bM_order 60 = .ok (.putfield 29, 3) := by decide +kernel
theorem dM_order_63 : decode bM_order 63 = .ok (.aload_n 0, 1) := by decide +kernel
theorem dM_order_64 : decode bM_order 64 = .ok (.getfield 29, 3) := by decide +kernel
theorem dM_order_67 : decode bM_order 67 = .ok (.ifCond .le 5, 3) := by decide +kernel
theorem dM_order_70 : decode bM_order 70 = .ok (.iconst 0, 1) := by decide +kernel
theorem dM_order_71 : decode bM_order 71 = .ok (.ireturn, 1) := by decide +kernel
theorem dM_order_72 : decode bM_order 72 = .ok (.aload_n 0, 1) := by decide +kernel
theorem dM_order_73 : decode bM_order 73 = .ok (.iload_n 1, 1) := by decide +kernel
theorem dM_order_74 : decode bM_order 74 = .ok (.iload_n 2, 1) := by decide +kernel
theorem dM_order_75 : decode bM_order 75 = .ok (.iload_n 3, 1) := by decide +kernel
theorem dM_order_76 : decode bM_order 76 = .ok (.iload 4, 2) := by decide +kernel
theorem dM_order_78 : decode bM_order 78 = .ok (.invokevirtual 60, 3) := by decide +kernel
theorem dM_order_81 : decode bM_order 81 = .ok (.istore 6, 2) := by decide +kernel
theorem dM_order_83 : decode bM_order 83 = .ok (.iload_n 2, 1) := by decide +kernel
theorem dM_order_84 : decode bM_order 84 = .ok (.iload 6, 2) := by decide +kernel
theorem dM_order_86 : decode bM_order 86 = .ok (.iadd, 1) := by decide +kernel
theorem dM_order_87 : decode bM_order 87 = .ok (.aload_n 0, 1) := by decide +kernel
theorem dM_order_88 : decode bM_order 88 = .ok (.getfield 13, 3) := by decide +kernel
theorem dM_order_91 : decode bM_order 91 = .ok (.iload_n 1, 1) := by decide +kernel
theorem dM_order_92 : decode bM_order 92 = .ok (.iaload, 1) := by decide +kernel
theorem dM_order_93 : decode bM_order 93 = .ok (.if_icmp .ne 7, 3) := by decide +kernel
theorem dM_order_96 : decode bM_order 96 = .ok (.iconst 1, 1) := by decide +kernel
theorem dM_order_97 : decode bM_order 97 = .ok (.goto 4, 3) := by decide +kernel
theorem dM_order_100 : decode bM_order 100 = .ok (.iconst 0, 1) := by decide +kernel
theorem dM_order_101 : decode bM_order 101 = .ok (.istore 7, 2) := by decide +kernel
theorem dM_order_103 : decode bM_order 103 = .ok (.iload 4, 2) := by decide +kernel
theorem dM_order_105 : decode bM_order 105 = .ok (.iload 6, 2) := by decide +kernel
theorem dM_order_107 : decode bM_order 107 = .ok (.iadd, 1) := by decide +kernel
theorem dM_order_108 : decode bM_order 108 = .ok (.aload_n 0, 1) := by decide +kernel
theorem dM_order_109 : decode bM_order 109 = .ok (.getfield 13, 3) := by decide +kernel
theorem dM_order_112 : decode bM_order 112 = .ok (.iload_n 3, 1) := by decide +kernel
theorem dM_order_113 : decode bM_order 113 = .ok (.iaload, 1) := by decide +kernel
theorem dM_order_114 : decode bM_order 114 = .ok (.if_icmp .ne 7, 3) := by decide +kernel
theorem dM_order_117 : decode bM_order 117 = .ok (.iconst 1, 1) := by decide +kernel
theorem dM_order_118 : decode bM_order 118 = .ok (.goto 4, 3) := by decide +kernel
theorem dM_order_121 : decode bM_order 121 = .ok (.iconst 0, 1) := by decide +kernel
theorem dM_order_122 : decode bM_order 122 = .ok (.istore 8, 2) := by decide +kernel
theorem dM_order_124 : decode bM_order 124 = .ok (.iload 7, 2) := by decide +kernel
theorem dM_order_126 : decode bM_order 126 = .ok (.ifCond .ne 8, 3) := by decide +kernel
theorem dM_order_129 : decode bM_order 129 = .ok (.iload 8, 2) := by decide +kernel
theorem dM_order_131 : decode bM_order 131 = .ok (.ifCond .eq 28, 3) := by decide +kernel
theorem dM_order_134 : decode bM_order 134 = .ok (.iload 7, 2) := by decide +kernel
theorem dM_order_136 : decode bM_order 136 = .ok (.ifCond .eq 12, 3) := by decide +kernel
theorem dM_order_139 : decode bM_order 139 = .ok (.iload 8, 2) := by decide +kernel
theorem dM_order_141 : decode bM_order 141 = .ok (.ifCond .eq 7, 3) := by decide +kernel
theorem dM_order_144 : decode bM_order 144 = .ok (.iconst 0, 1) := by decide +kernel
theorem dM_order_145 : decode bM_order 145 = .ok (.goto 13, 3) := by decide +kernel
theorem dM_order_148 : decode bM_order 148 = .ok (.iload 7, 2) := by decide +kernel
theorem dM_order_150 : decode bM_order 150 = .ok (.ifCond .eq 7, 3) := by decide +kernel
theorem dM_order_153 : decode bM_order 153 = .ok (.iconst (-1), 1) := by decide +kernel
theorem dM_order_154 : decode bM_order 154 = .ok (.goto 4, 3) := by decide +kernel
theorem dM_order_157 : decode bM_order 157 = .ok (.iconst 1, 1) := by decide +kernel
theorem dM_order_158 : decode bM_order 158 = .ok (.ireturn, 1) := by decide +kernel
theorem dM_order_159 : decode bM_order 159 = .ok (.aload_n 0, 1) := by decide +kernel
theorem dM_order_160 : decode bM_order 160 = .ok (.getfield 7, 3) := by decide +kernel
theorem dM_order_163 : decode bM_order 163 = .ok (.sipush 1000, 3) := by decide +kernel
theorem dM_order_166 : decode bM_order 166 = .ok (.iload_n 1, 1) := by decide +kernel
theorem dM_order_167 : decode bM_order 167 = .ok (.imul, 1) := by decide +kernel
theorem dM_order_168 : decode bM_order 168 = .ok (.iload_n 2, 1) := by decide +kernel
theorem dM_order_169 : decode bM_order 169 = .ok (.iadd, 1) := by decide +kernel
theorem dM_order_170 : decode bM_order 170 = .ok (.iload 6, 2) := by decide +kernel
theorem dM_order_172 : decode bM_order 172 = .ok (.iadd, 1) := by decide +kernel
theorem dM_order_173 : decode bM_order 173 = .ok (.iaload, 1) := by decide +kernel
theorem dM_order_174 : decode bM_order 174 = .ok (.aload_n 0, 1) := by decide +kernel
theorem dM_order_175 : decode bM_order 175 = .ok (.getfield 7, 3) := by decide +kernel
theorem dM_order_178 : decode bM_order 178 = .ok (.sipush 1000, 3) := by decide +kernel
theorem dM_order_181 : decode bM_order 181 = .ok (.iload_n 3, 1) := by decide +kernel
theorem dM_order_182 : decode bM_order 182 = .ok (.imul, 1) := by decide +kernel
theorem dM_order_183 : decode bM_order 183 = .ok (.iload 4, 2) := by decide +kernel
theorem dM_order_185 : decode bM_order 185 = .ok (.iadd, 1) := by decide +kernel
theorem dM_order_186 : decode bM_order 186 = .ok (.iload 6, 2) := by decide +kernel
theorem dM_order_188 : decode bM_order 188 = .ok (.iadd, 1) := by decide +kernel
theorem dM_order_189 : decode bM_order 189 = .ok (.iaload, 1) := by decide +kernel
theorem dM_order_190 : decode bM_order 190 = .ok (.if_icmp .ge 7, 3) := by decide +kernel
theorem dM_order_193 : decode bM_order 193 = .ok (.iconst (-1), 1) := by decide +kernel
theorem dM_order_194 : decode bM_order 194 = .ok (.goto 4, 3) := by decide +kernel
theorem dM_order_197 : decode bM_order 197 = .ok (.iconst 1, 1) := by decide +kernel
theorem dM_order_198 : decode bM_order 198 = .ok (.ireturn, 1) := by decide +kernel
theorem dM_sum_0 : decode bM_sum 0 = .ok (.lload_n 0, 1) := by decide +kernel
theorem dM_sum_1 : decode bM_sum 1 = .ok (.lload_n 2, 1) := by decide +kernel
theorem dM_sum_2 : decode bM_sum 2 = .ok (.ladd, 1) := by decide +kernel
theorem dM_sum_3 : decode bM_sum 3 = .ok (.lstore 4, 2) := by decide +kernel
theorem dM_sum_5 : decode bM_sum 5 = .ok (.lload 4, 2) := by decide +kernel
theorem dM_sum_7 : decode bM_sum 7 = .ok (.ldc2_w 68, 3) := by decide +kernel
theorem dM_sum_10 : decode bM_sum 10 = .ok (.lcmp, 1) := by decide +kernel
theorem dM_sum_11 : decode bM_sum 11 = .ok (.ifCond .lt 12, 3) := by decide +kernel
theorem dM_sum_14 : decode bM_sum 14 = .ok (.lload 4, 2) := by decide +kernel
theorem dM_sum_16 : decode bM_sum 16 = .ok (.ldc2_w 68, 3) := by decide +kernel
theorem dM_sum_19 : decode bM_sum 19 = .ok (.lsub, 1) := by decide +kernel
theorem dM_sum_20 : decode bM_sum 20 = .ok (.goto 5, 3) := by decide +kernel
theorem dM_sum_23 : decode bM_sum 23 = .ok (.lload 4, 2) := by decide +kernel
theorem dM_sum_25 : decode bM_sum 25 = .ok (.lreturn, 1) := by decide +kernel
theorem dM_times_0 : decode bM_times 0 = .ok (.lload_n 0, 1) := by decide +kernel
theorem dM_times_1 : decode bM_times 1 = .ok (.bipush 40, 2) := by decide +kernel
theorem dM_times_3 : decode bM_times 3 = .ok (.lshr, 1) := by decide +kernel
theorem dM_times_4 : decode bM_times 4 = .ok (.ldc2_w 70, 3) := by decide +kernel
theorem dM_times_7 : decode bM_times 7 = .ok (.lmul, 1) := by decide +kernel
theorem dM_times_8 : decode bM_times 8 = .ok (.lstore_n 2, 1) := by decide +kernel
theorem dM_times_9 : decode bM_times 9 = .ok (.lload_n 0, 1) := by decide +kernel
theorem dM_times_10 : decode bM_times 10 = .ok (.ldc2_w 72, 3) := by decide +kernel
theorem dM_times_13 : decode bM_times 13 = .ok (.land, 1) := by decide +kernel
theorem dM_times_14 : decode bM_times 14 = .ok (.ldc2_w 70, 3) := by decide +kernel
theorem dM_times_17 : decode bM_times 17 = .ok (.lmul, 1) := by decide +kernel
theorem dM_times_18 : decode bM_times 18 = .ok (.lstore 4, 2) := by decide +kernel
theorem dM_times_20 : decode bM_times 20 = .ok (.lload_n 2, 1) := by decide +kernel
theorem dM_times_21 : decode bM_times 21 = .ok (.bipush 21, 2) := by decide +kernel
theorem dM_times_23 : decode bM_times 23 = .ok (.lshr, 1) := by decide +kernel
theorem dM_times_24 : decode bM_times 24 = .ok (.lload_n 2, 1) := by decide +kernel
theorem dM_times_25 : decode bM_times 25 = .ok (.ldc2_w 74, 3) := by decide +kernel
theorem dM_times_28 : decode bM_times 28 = .ok (.land, 1) := by decide +kernel
theorem dM_times_29 : decode bM_times 29 = .ok (.bipush 40, 2) := by decide +kernel
theorem dM_times_31 : decode bM_times 31 = .ok (.lshl, 1) := by decide +kernel
theorem dM_times_32 : decode bM_times 32 = .ok (.ladd, 1) := by decide +kernel
theorem dM_times_33 : decode bM_times 33 = .ok (.lstore 6, 2) := by decide +kernel
theorem dM_times_35 : decode bM_times 35 = .ok (.lload 6, 2) := by decide +kernel
theorem dM_times_37 : decode bM_times 37 = .ok (.ldc2_w 68, 3) := by decide +kernel
theorem dM_times_40 : decode bM_times 40 = .ok (.lcmp, 1) := by decide +kernel
theorem dM_times_41 : decode bM_times 41 = .ok (.ifCond .lt 12, 3) := by decide +kernel
theorem dM_times_44 : decode bM_times 44 = .ok (.lload 6, 2) := by decide +kernel
theorem dM_times_46 : decode bM_times 46 = .ok (.ldc2_w 68, 3) := by decide +kernel
theorem dM_times_49 : decode bM_times 49 = .ok (.lsub, 1) := by decide +kernel
theorem dM_times_50 : decode bM_times 50 = .ok (.goto 5, 3) := by decide +kernel
theorem dM_times_53 : decode bM_times 53 = .ok (.lload 6, 2) := by decide +kernel
theorem dM_times_55 : decode bM_times 55 = .ok (.lstore 8, 2) := by decide +kernel
theorem dM_times_57 : decode bM_times 57 = .ok (.lload 8, 2) := by decide +kernel
theorem dM_times_59 : decode bM_times 59 = .ok (.lload 4, 2) := by decide +kernel
theorem dM_times_61 : decode bM_times 61 = .ok (.invokestatic 76, 3) := by decide +kernel
theorem dM_times_64 : decode bM_times 64 = .ok (.lreturn, 1) := by decide +kernel
theorem dM_name_0 : decode bM_name 0 = .ok (.aload_n 0, 1) := by decide +kernel
theorem dM_name_1 : decode bM_name 1 = .ok (.iload_n 1, 1) := by decide +kernel
theorem dM_name_2 : decode bM_name 2 = .ok (.invokestatic 36, 3) := by decide +kernel
theorem dM_name_5 : decode bM_name 5 = .ok (.ifCond .ne 7, 3) := by decide +kernel
theorem dM_name_8 : decode bM_name 8 = .ok (.iconst 1, 1) := by decide +kernel
theorem dM_name_9 : decode bM_name 9 = .ok (.goto 18, 3) := by decide +kernel
theorem dM_name_12 : decode bM_name 12 = .ok (.aload_n 0, 1) := by decide +kernel
theorem dM_name_13 : decode bM_name 13 = .ok (.iload_n 1, 1) := by decide +kernel
theorem dM_name_14 : decode bM_name 14 = .ok (.iload_n 2, 1) := by decide +kernel
theorem dM_name_15 : decode bM_name 15 = .ok (.iload_n 3, 1) := by decide +kernel
theorem dM_name_16 : decode bM_name 16 = .ok (.invokevirtual 42, 3) := by decide +kernel
theorem dM_name_19 : decode bM_name 19 = .ok (.ifCond .ne 7, 3) := by decide +kernel
theorem dM_name_22 : decode bM_name 22 = .ok (.iconst 2, 1) := by decide +kernel
theorem dM_name_23 : decode bM_name 23 = .ok (.goto 4, 3) := by decide +kernel
theorem dM_name_26 : decode bM_name 26 = .ok (.iconst 0, 1) := by decide +kernel
theorem dM_name_27 : decode bM_name 27 = .ok (.putfield 29, 3) := by decide +kernel
theorem dM_name_30 : decode bM_name 30 = .ok (.lconst 0, 1) := by decide +kernel
theorem dM_name_31 : decode bM_name 31 = .ok (.lstore 4, 2) := by decide +kernel
theorem dM_name_33 : decode bM_name 33 = .ok (.iload_n 2, 1) := by decide +kernel
theorem dM_name_34 : decode bM_name 34 = .ok (.istore 6, 2) := by decide +kernel
theorem dM_name_36 : decode bM_name 36 = .ok (.iload 6, 2) := by decide +kernel
theorem dM_name_38 : decode bM_name 38 = .ok (.iload_n 3, 1) := by decide +kernel
theorem dM_name_39 : decode bM_name 39 = .ok (.if_icmp .ge 42, 3) := by decide +kernel
theorem dM_name_42 : decode bM_name 42 = .ok (.aload_n 0, 1) := by decide +kernel
theorem dM_name_43 : decode bM_name 43 = .ok (.getfield 29, 3) := by decide +kernel
theorem dM_name_46 : decode bM_name 46 = .ok (.ifCond .ne 35, 3) := by decide +kernel
theorem dM_name_49 : decode bM_name 49 = .ok (.lload 4, 2) := by decide +kernel
theorem dM_name_51 : decode bM_name 51 = .ok (.invokestatic 80, 3) := by decide +kernel
theorem dM_name_54 : decode bM_name 54 = .ok (.aload_n 0, 1) := by decide +kernel
theorem dM_name_55 : decode bM_name 55 = .ok (.getfield 7, 3) := by decide +kernel
theorem dM_name_58 : decode bM_name 58 = .ok (.sipush 1000, 3) := by decide +kernel
theorem dM_name_61 : decode bM_name 61 = .ok (.iload_n 1, 1) := by decide +kernel
theorem dM_name_62 : decode bM_name 62 = .ok (.imul, 1) := by decide +kernel
theorem dM_name_63 : decode bM_name 63 = .ok (.iload 6, 2) := by decide +kernel
theorem dM_name_65 : decode bM_name 65 = .ok (.iadd, 1) := by decide +kernel
theorem dM_name_66 : decode bM_name 66 = .ok (.iaload, 1) := by decide +kernel
theorem dM_name_67 : decode bM_name 67 = .ok (.i2l, 1) := by decide +kernel
theorem dM_name_68 : decode bM_name 68 = .ok (.lconst 1, 1) := by decide +kernel
theorem dM_name_69 : decode bM_name 69 = .ok (.ladd, 1) := by decide +kernel
theorem dM_name_70 : decode bM_name 70 = .ok (.invokestatic 76, 3) := by decide +kernel
theorem dM_name_73 : decode bM_name 73 = .ok (.lstore 4, 2) := by decide +kernel
theorem dM_name_75 : decode bM_name 75 = .ok (.iinc 6 1, 3) := by decide +kernel
theorem dM_name_78 : decode bM_name 78 = .ok (.goto (-42), 3) := by decide +kernel
theorem dM_name_81 : decode bM_name 81 = .ok (.lload 4, 2) := by decide +kernel
theorem dM_name_83 : decode bM_name 83 = .ok (.lreturn, 1) := by decide +kernel
theorem dM_pattern_0 : decode bM_pattern 0 = .ok (.aload_n 0, 1) := by decide +kernel
theorem dM_pattern_1 : decode bM_pattern 1 = .ok (.iload 5, 2) := by decide +kernel
theorem dM_pattern_3 : decode bM_pattern 3 = .ok (.iconst 1, 1) := by decide +kernel
theorem dM_pattern_4 : decode bM_pattern 4 = .ok (.if_icmp .lt 10, 3) := by decide +kernel
theorem dM_pattern_7 : decode bM_pattern 7 = .ok (.iload 5, 2) := by decide +kernel
theorem dM_pattern_9 : decode bM_pattern 9 = .ok (.bipush 16, 2) := by decide +kernel
theorem dM_pattern_11 : decode bM_pattern 11 = .ok (.if_icmp .le 7, 3) := by decide +kernel
theorem dM_pattern_14 : decode bM_pattern 14 = .ok (.iconst 1, 1) := by decide +kernel
theorem dM_pattern_15 : decode bM_pattern 15 = .ok (.goto 4, 3) := by decide +kernel
theorem dM_pattern_18 : decode bM_pattern 18 = .ok (.iconst 0, 1) := by decide +kernel
theorem dM_pattern_19 : decode bM_pattern 19 = .ok (.putfield 29, 3) := by decide +kernel
theorem dM_pattern_22 : decode bM_pattern 22 = .ok (.iconst 0, 1) := by decide +kernel
theorem dM_pattern_23 : decode bM_pattern 23 = .ok (.istore 6, 2) := by decide +kernel
theorem dM_pattern_25 : decode bM_pattern 25 = .ok (.iload 6, 2) := by decide +kernel
theorem dM_pattern_27 : decode bM_pattern 27 = .ok (.iload 5, 2) := by decide +kernel
theorem dM_pattern_29 : decode bM_pattern 29 = .ok (.if_icmp .ge 55, 3) := by decide +kernel
theorem dM_pattern_32 : decode bM_pattern 32 = .ok (.aload_n 0, 1) := by decide +kernel
theorem dM_pattern_33 : decode bM_pattern 33 = .ok (.getfield 29, 3) := by decide +kernel
theorem dM_pattern_36 : decode bM_pattern 36 = .ok (.ifCond .ne 48, 3) := by decide +kernel
theorem dM_pattern_39 : decode bM_pattern 39 = .ok (.aload_n 0, 1) := by decide +kernel
theorem dM_pattern_40 : decode bM_pattern 40 = .ok (.getfield 19, 3) := by decide +kernel
theorem dM_pattern_43 : decode bM_pattern 43 = .ok (.iload 6, 2) := by decide +kernel
theorem dM_pattern_45 : decode bM_pattern 45 = .ok (.iload 6, 2) := by decide +kernel
theorem dM_pattern_47 : decode bM_pattern 47 = .ok (.bipush 8, 2) := by decide +kernel
theorem dM_pattern_49 : decode bM_pattern 49 = .ok (.if_icmp .ge 13, 3) := by decide +kernel
theorem dM_pattern_52 : decode bM_pattern 52 = .ok (.lload_n 1, 1) := by decide +kernel
theorem dM_pattern_53 : decode bM_pattern 53 = .ok (.bipush 8, 2) := by decide +kernel
theorem dM_pattern_55 : decode bM_pattern 55 = .ok (.iload 6, 2) := by decide +kernel
theorem dM_pattern_57 : decode bM_pattern 57 = .ok (.imul, 1) := by decide +kernel
theorem dM_pattern_58 : decode bM_pattern 58 = .ok (.lshr, 1) := by decide +kernel
theorem dM_pattern_59 : decode bM_pattern 59 = .ok (.goto 13, 3) := by decide +kernel
theorem dM_pattern_62 : decode bM_pattern 62 = .ok (.lload_n 3, 1) := by decide +kernel
theorem dM_pattern_63 : decode bM_pattern 63 = .ok (.bipush 8, 2) := by decide +kernel
theorem dM_pattern_65 : decode bM_pattern 65 = .ok (.iload 6, 2) := by decide +kernel
theorem dM_pattern_67 : decode bM_pattern 67 = .ok (.imul, 1) := by decide +kernel
theorem dM_pattern_68 : decode bM_pattern 68 = .ok (.bipush 64, 2) := by decide +kernel
theorem dM_pattern_70 : decode bM_pattern 70 = .ok (.isub, 1) := by decide +kernel
theorem dM_pattern_71 : decode bM_pattern 71 = .ok (.lshr, 1) := by decide +kernel
theorem dM_pattern_72 : decode bM_pattern 72 = .ok (.ldc2_w 40, 3) := by decide +kernel
theorem dM_pattern_75 : decode bM_pattern 75 = .ok (.land, 1) := by decide +kernel
theorem dM_pattern_76 : decode bM_pattern 76 = .ok (.l2i, 1) := by decide +kernel
theorem dM_pattern_77 : decode bM_pattern 77 = .ok (.iastore, 1) := by decide +kernel
theorem dM_pattern_78 : decode bM_pattern 78 = .ok (.iinc 6 1, 3) := by decide +kernel
theorem dM_pattern_81 : decode bM_pattern 81 = .ok (.goto (-56), 3) := by decide +kernel
theorem dM_pattern_84 : decode bM_pattern 84 = .ok (.aload_n 0, 1) := by decide +kernel
theorem dM_pattern_85 : decode bM_pattern 85 = .ok (.aload_n 0, 1) := by decide +kernel
theorem dM_pattern_86 : decode bM_pattern 86 = .ok (.getfield 29, 3) := by decide +kernel
theorem dM_pattern_89 : decode bM_pattern 89 = .ok (.ifCond .ne 8, 3) := by decide +kernel
theorem dM_pattern_92 : decode bM_pattern 92 = .ok (.iload 5, 2) := by decide +kernel
theorem dM_pattern_94 : decode bM_pattern 94 = .ok (.goto 7, 3) := by decide +kernel
theorem dM_pattern_97 : decode bM_pattern 97 = .ok (.aload_n 0, 1) := by decide +kernel
theorem dM_pattern_98 : decode bM_pattern 98 = .ok (.getfield 84, 3) := by decide +kernel
theorem dM_pattern_101 : decode bM_pattern 101 = .ok (.putfield 84, 3) := by decide +kernel
theorem dM_pattern_104 : decode bM_pattern 104 = .ok (.return_, 1) := by decide +kernel
theorem dM_stands_0 : decode bM_stands 0 = .ok (.iload_n 2, 1) := by decide +kernel
theorem dM_stands_1 : decode bM_stands 1 = .ok (.aload_n 0, 1) := by decide +kernel
theorem dM_stands_2 : decode bM_stands 2 = .ok (.getfield 84, 3) := by decide +kernel
theorem dM_stands_5 : decode bM_stands 5 = .ok (.iadd, 1) := by decide +kernel
theorem dM_stands_6 : decode bM_stands 6 = .ok (.iload_n 3, 1) := by decide +kernel
theorem dM_stands_7 : decode bM_stands 7 = .ok (.if_icmp .gt 7, 3) := by decide +kernel
theorem dM_stands_10 : decode bM_stands 10 = .ok (.iconst 1, 1) := by decide +kernel
theorem dM_stands_11 : decode bM_stands 11 = .ok (.goto 4, 3) := by decide +kernel
theorem dM_stands_14 : decode bM_stands 14 = .ok (.iconst 0, 1) := by decide +kernel
theorem dM_stands_15 : decode bM_stands 15 = .ok (.istore 4, 2) := by decide +kernel
theorem dM_stands_17 : decode bM_stands 17 = .ok (.iconst 0, 1) := by decide +kernel
theorem dM_stands_18 : decode bM_stands 18 = .ok (.istore 5, 2) := by decide +kernel
theorem dM_stands_20 : decode bM_stands 20 = .ok (.iload 5, 2) := by decide +kernel
theorem dM_stands_22 : decode bM_stands 22 = .ok (.aload_n 0, 1) := by decide +kernel
theorem dM_stands_23 : decode bM_stands 23 = .ok (.getfield 84, 3) := by decide +kernel
theorem dM_stands_26 : decode bM_stands 26 = .ok (.if_icmp .ge 46, 3) := by decide +kernel
theorem dM_stands_29 : decode bM_stands 29 = .ok (.iload 4, 2) := by decide +kernel
theorem dM_stands_31 : decode bM_stands 31 = .ok (.ifCond .eq 41, 3) := by decide +kernel
theorem dM_stands_34 : decode bM_stands 34 = .ok (.aload_n 0, 1) := by decide +kernel
theorem dM_stands_35 : decode bM_stands 35 = .ok (.getfield 7, 3) := by decide +kernel
theorem dM_stands_38 : decode bM_stands 38 = .ok (.sipush 1000, 3) := by decide +kernel
theorem dM_stands_41 : decode bM_stands 41 = .ok (.iload_n 1, 1) := by decide +kernel
theorem dM_stands_42 : decode bM_stands 42 = .ok (.imul, 1) := by decide +kernel
theorem dM_stands_43 : decode bM_stands 43 = .ok (.iload_n 2, 1) := by decide +kernel
theorem dM_stands_44 : decode bM_stands 44 = .ok (.iadd, 1) := by decide +kernel
theorem dM_stands_45 : decode bM_stands 45 = .ok (.iload 5, 2) := by decide +kernel
theorem dM_stands_47 : decode bM_stands 47 = .ok (.iadd, 1) := by decide +kernel
theorem dM_stands_48 : decode bM_stands 48 = .ok (.iaload, 1) := by decide +kernel
theorem dM_stands_49 : decode bM_stands 49 = .ok (.aload_n 0, 1) := by decide +kernel
theorem dM_stands_50 : decode bM_stands 50 = .ok (.getfield 19, 3) := by decide +kernel
theorem dM_stands_53 : decode bM_stands 53 = .ok (.iload 5, 2) := by decide +kernel
theorem dM_stands_55 : decode bM_stands 55 = .ok (.iaload, 1) := by decide +kernel
theorem dM_stands_56 : decode bM_stands 56 = .ok (.if_icmp .ne 7, 3) := by decide +kernel
theorem dM_stands_59 : decode bM_stands 59 = .ok (.iconst 1, 1) := by decide +kernel
theorem dM_stands_60 : decode bM_stands 60 = .ok (.goto 4, 3) := by decide +kernel
theorem dM_stands_63 : decode bM_stands 63 = .ok (.iconst 0, 1) := by decide +kernel
theorem dM_stands_64 : decode bM_stands 64 = .ok (.istore 4, 2) := by decide +kernel
theorem dM_stands_66 : decode bM_stands 66 = .ok (.iinc 5 1, 3) := by decide +kernel
theorem dM_stands_69 : decode bM_stands 69 = .ok (.goto (-49), 3) := by decide +kernel
theorem dM_stands_72 : decode bM_stands 72 = .ok (.iload 4, 2) := by decide +kernel
theorem dM_stands_74 : decode bM_stands 74 = .ok (.ireturn, 1) := by decide +kernel
theorem dM_count_0 : decode bM_count 0 = .ok (.aload_n 0, 1) := by decide +kernel
theorem dM_count_1 : decode bM_count 1 = .ok (.iload_n 1, 1) := by decide +kernel
theorem dM_count_2 : decode bM_count 2 = .ok (.invokestatic 36, 3) := by decide +kernel
theorem dM_count_5 : decode bM_count 5 = .ok (.ifCond .ne 7, 3) := by decide +kernel
theorem dM_count_8 : decode bM_count 8 = .ok (.iconst 1, 1) := by decide +kernel
theorem dM_count_9 : decode bM_count 9 = .ok (.goto 29, 3) := by decide +kernel
theorem dM_count_12 : decode bM_count 12 = .ok (.aload_n 0, 1) := by decide +kernel
theorem dM_count_13 : decode bM_count 13 = .ok (.iload_n 1, 1) := by decide +kernel
theorem dM_count_14 : decode bM_count 14 = .ok (.iload_n 2, 1) := by decide +kernel
theorem dM_count_15 : decode bM_count 15 = .ok (.iload_n 3, 1) := by decide +kernel
theorem dM_count_16 : decode bM_count 16 = .ok (.invokevirtual 42, 3) := by decide +kernel
theorem dM_count_19 : decode bM_count 19 = .ok (.ifCond .ne 7, 3) := by decide +kernel
theorem dM_count_22 : decode bM_count 22 = .ok (.iconst 2, 1) := by decide +kernel
theorem dM_count_23 : decode bM_count 23 = .ok (.goto 15, 3) := by decide +kernel
theorem dM_count_26 : decode bM_count 26 = .ok (.aload_n 0, 1) := by decide +kernel
theorem dM_count_27 : decode bM_count 27 = .ok (.getfield 84, 3) := by decide +kernel
theorem dM_count_30 : decode bM_count 30 = .ok (.ifCond .ne 7, 3) := by decide +kernel
theorem dM_count_33 : decode bM_count 33 = .ok (.iconst 3, 1) := by decide +kernel
theorem dM_count_34 : decode bM_count 34 = .ok (.goto 4, 3) := by decide +kernel
theorem dM_count_37 : decode bM_count 37 = .ok (.iconst 0, 1) := by decide +kernel
theorem dM_count_38 : decode bM_count 38 = .ok (.putfield 29, 3) := by decide +kernel
theorem dM_count_41 : decode bM_count 41 = .ok (.iconst 0, 1) := by decide +kernel
theorem dM_count_42 : decode bM_count 42 = .ok (.istore 4, 2) := by decide +kernel
theorem dM_count_44 : decode bM_count 44 = .ok (.iload_n 2, 1) := by decide +kernel
theorem dM_count_45 : decode bM_count 45 = .ok (.istore 5, 2) := by decide +kernel
theorem dM_count_47 : decode bM_count 47 = .ok (.iload 5, 2) := by decide +kernel
theorem dM_count_49 : decode bM_count 49 = .ok (.iload_n 3, 1) := by decide +kernel
theorem dM_count_50 : decode bM_count 50 = .ok (.if_icmp .ge 38, 3) := by decide +kernel
theorem dM_count_53 : decode bM_count 53 = .ok (.aload_n 0, 1) := by decide +kernel
theorem dM_count_54 : decode bM_count 54 = .ok (.getfield 29, 3) := by decide +kernel
theorem dM_count_57 : decode bM_count 57 = .ok (.ifCond .ne 31, 3) := by decide +kernel
theorem dM_count_60 : decode bM_count 60 = .ok (.aload_n 0, 1) := by decide +kernel
theorem dM_count_61 : decode bM_count 61 = .ok (.iload_n 1, 1) := by decide +kernel
theorem dM_count_62 : decode bM_count 62 = .ok (.iload 5, 2) := by decide +kernel
theorem dM_count_64 : decode bM_count 64 = .ok (.iload_n 3, 1) := by decide +kernel
theorem dM_count_65 : decode bM_count 65 = .ok (.invokevirtual 87, 3) := by decide +kernel
theorem dM_count_68 : decode bM_count 68 = .ok (.ifCond .eq 10, 3) := by decide +kernel
theorem dM_count_71 : decode bM_count 71 = .ok (.iload 4, 2) := by decide +kernel
theorem dM_count_73 : decode bM_count 73 = .ok (.iconst 1, 1) := by decide +kernel
theorem dM_count_74 : decode bM_count 74 = .ok (.iadd, 1) := by decide +kernel
theorem dM_count_75 : decode bM_count 75 = .ok (.goto 5, 3) := by decide +kernel
theorem dM_count_78 : decode bM_count 78 = .ok (.iload 4, 2) := by decide +kernel
theorem dM_count_80 : decode bM_count 80 = .ok (.istore 4, 2) := by decide +kernel
theorem dM_count_82 : decode bM_count 82 = .ok (.iinc 5 1, 3) := by decide +kernel
theorem dM_count_85 : decode bM_count 85 = .ok (.goto (-38), 3) := by decide +kernel
theorem dM_count_88 : decode bM_count 88 = .ok (.iload 4, 2) := by decide +kernel
theorem dM_count_90 : decode bM_count 90 = .ok (.ireturn, 1) := by decide +kernel
theorem dM_find_0 : decode bM_find 0 = .ok (.aload_n 0, 1) := by decide +kernel
theorem dM_find_1 : decode bM_find 1 = .ok (.iload_n 1, 1) := by decide +kernel
theorem dM_find_2 : decode bM_find 2 = .ok (.invokestatic 36, 3) := by decide +kernel
theorem dM_find_5 : decode bM_find 5 = .ok (.ifCond .eq 7, 3) := by decide +kernel
theorem dM_find_8 : decode bM_find 8 = .ok (.iload_n 3, 1) := by decide +kernel
theorem dM_find_9 : decode bM_find 9 = .ok (.ifCond .ge 7, 3) := by decide +kernel
theorem dM_find_12 : decode bM_find 12 = .ok (.iconst 1, 1) := by decide +kernel
theorem dM_find_13 : decode bM_find 13 = .ok (.goto 33, 3) := by decide +kernel
theorem dM_find_16 : decode bM_find 16 = .ok (.iload_n 2, 1) := by decide +kernel
theorem dM_find_17 : decode bM_find 17 = .ok (.ifCond .lt 13, 3) := by decide +kernel
theorem dM_find_20 : decode bM_find 20 = .ok (.iload_n 2, 1) := by decide +kernel
theorem dM_find_21 : decode bM_find 21 = .ok (.aload_n 0, 1) := by decide +kernel
theorem dM_find_22 : decode bM_find 22 = .ok (.getfield 13, 3) := by decide +kernel
theorem dM_find_25 : decode bM_find 25 = .ok (.iload_n 1, 1) := by decide +kernel
theorem dM_find_26 : decode bM_find 26 = .ok (.iaload, 1) := by decide +kernel
theorem dM_find_27 : decode bM_find 27 = .ok (.if_icmp .le 7, 3) := by decide +kernel
theorem dM_find_30 : decode bM_find 30 = .ok (.iconst 2, 1) := by decide +kernel
theorem dM_find_31 : decode bM_find 31 = .ok (.goto 15, 3) := by decide +kernel
theorem dM_find_34 : decode bM_find 34 = .ok (.aload_n 0, 1) := by decide +kernel
theorem dM_find_35 : decode bM_find 35 = .ok (.getfield 84, 3) := by decide +kernel
theorem dM_find_38 : decode bM_find 38 = .ok (.ifCond .ne 7, 3) := by decide +kernel
theorem dM_find_41 : decode bM_find 41 = .ok (.iconst 3, 1) := by decide +kernel
theorem dM_find_42 : decode bM_find 42 = .ok (.goto 4, 3) := by decide +kernel
theorem dM_find_45 : decode bM_find 45 = .ok (.iconst 0, 1) := by decide +kernel
theorem dM_find_46 : decode bM_find 46 = .ok (.putfield 29, 3) := by decide +kernel
theorem dM_find_49 : decode bM_find 49 = .ok (.aload_n 0, 1) := by decide +kernel
theorem dM_find_50 : decode bM_find 50 = .ok (.getfield 29, 3) := by decide +kernel
theorem dM_find_53 : decode bM_find 53 = .ok (.ifCond .le 5, 3) := by decide +kernel
theorem dM_find_56 : decode bM_find 56 = .ok (.iconst 0, 1) := by decide +kernel
theorem dM_find_57 : decode bM_find 57 = .ok (.ireturn, 1) := by decide +kernel
theorem dM_find_58 : decode bM_find 58 = .ok (.iload_n 3, 1) := by decide +kernel
theorem dM_find_59 : decode bM_find 59 = .ok (.istore 4, 2) := by decide +kernel
theorem dM_find_61 : decode bM_find 61 = .ok (.iload_n 2, 1) := by decide +kernel
theorem dM_find_62 : decode bM_find 62 = .ok (.istore 5, 2) := by decide +kernel
theorem dM_find_64 : decode bM_find 64 = .ok (.iload 5, 2) := by decide +kernel
theorem dM_find_66 : decode bM_find 66 = .ok (.aload_n 0, 1) := by decide +kernel
theorem dM_find_67 : decode bM_find 67 = .ok (.getfield 13, 3) := by decide +kernel
theorem dM_find_70 : decode bM_find 70 = .ok (.iload_n 1, 1) := by decide +kernel
theorem dM_find_71 : decode bM_find 71 = .ok (.iaload, 1) := by decide +kernel
theorem dM_find_72 : decode bM_find 72 = .ok (.if_icmp .ge 36, 3) := by decide +kernel
theorem dM_find_75 : decode bM_find 75 = .ok (.aload_n 0, 1) := by decide +kernel
theorem dM_find_76 : decode bM_find 76 = .ok (.iload_n 1, 1) := by decide +kernel
theorem dM_find_77 : decode bM_find 77 = .ok (.iload 5, 2) := by decide +kernel
theorem dM_find_79 : decode bM_find 79 = .ok (.aload_n 0, 1) := by decide +kernel
theorem dM_find_80 : decode bM_find 80 = .ok (.getfield 13, 3) := by decide +kernel
theorem dM_find_83 : decode bM_find 83 = .ok (.iload_n 1, 1) := by decide +kernel
theorem dM_find_84 : decode bM_find 84 = .ok (.iaload, 1) := by decide +kernel
theorem dM_find_85 : decode bM_find 85 = .ok (.invokevirtual 87, 3) := by decide +kernel
theorem dM_find_88 : decode bM_find 88 = .ok (.ifCond .eq 14, 3) := by decide +kernel
theorem dM_find_91 : decode bM_find 91 = .ok (.iload 4, 2) := by decide +kernel
theorem dM_find_93 : decode bM_find 93 = .ok (.ifCond .ne 6, 3) := by decide +kernel
theorem dM_find_96 : decode bM_find 96 = .ok (.iload 5, 2) := by decide +kernel
theorem dM_find_98 : decode bM_find 98 = .ok (.ireturn, 1) := by decide +kernel
theorem dM_find_99 : decode bM_find 99 = .ok (.iinc 4 (-1), 3) := by decide +kernel
theorem dM_find_102 : decode bM_find 102 = .ok (.iinc 5 1, 3) := by decide +kernel
theorem dM_find_105 : decode bM_find 105 = .ok (.goto (-41), 3) := by decide +kernel
theorem dM_find_108 : decode bM_find 108 = .ok (.iconst (-1), 1) := by decide +kernel
theorem dM_find_109 : decode bM_find 109 = .ok (.ireturn, 1) := by decide +kernel
theorem dM_lead_0 : decode bM_lead 0 = .ok (.aload_n 0, 1) := by decide +kernel
theorem dM_lead_1 : decode bM_lead 1 = .ok (.iload_n 1, 1) := by decide +kernel
theorem dM_lead_2 : decode bM_lead 2 = .ok (.ifCond .lt 37, 3) := by decide +kernel
theorem dM_lead_5 : decode bM_lead 5 = .ok (.iload_n 1, 1) := by decide +kernel
theorem dM_lead_6 : decode bM_lead 6 = .ok (.bipush 7, 2) := by decide +kernel
theorem dM_lead_8 : decode bM_lead 8 = .ok (.if_icmp .gt 31, 3) := by decide +kernel
theorem dM_lead_11 : decode bM_lead 11 = .ok (.iload 4, 2) := by decide +kernel
theorem dM_lead_13 : decode bM_lead 13 = .ok (.ifCond .lt 26, 3) := by decide +kernel
theorem dM_lead_16 : decode bM_lead 16 = .ok (.iload 4, 2) := by decide +kernel
theorem dM_lead_18 : decode bM_lead 18 = .ok (.bipush 7, 2) := by decide +kernel
theorem dM_lead_20 : decode bM_lead 20 = .ok (.if_icmp .gt 19, 3) := by decide +kernel
theorem dM_lead_23 : decode bM_lead 23 = .ok (.iload_n 2, 1) := by decide +kernel
theorem dM_lead_24 : decode bM_lead 24 = .ok (.ifCond .lt 15, 3) := by decide +kernel
theorem dM_lead_27 : decode bM_lead 27 = .ok (.iload_n 2, 1) := by decide +kernel
theorem dM_lead_28 : decode bM_lead 28 = .ok (.iload_n 3, 1) := by decide +kernel
theorem dM_lead_29 : decode bM_lead 29 = .ok (.if_icmp .gt 10, 3) := by decide +kernel
theorem dM_lead_32 : decode bM_lead 32 = .ok (.iload_n 3, 1) := by decide +kernel
theorem dM_lead_33 : decode bM_lead 33 = .ok (.sipush 255, 3) := by decide +kernel
theorem dM_lead_36 : decode bM_lead 36 = .ok (.if_icmp .le 7, 3) := by decide +kernel
theorem dM_lead_39 : decode bM_lead 39 = .ok (.iconst 1, 1) := by decide +kernel
theorem dM_lead_40 : decode bM_lead 40 = .ok (.goto 4, 3) := by decide +kernel
theorem dM_lead_43 : decode bM_lead 43 = .ok (.iconst 0, 1) := by decide +kernel
theorem dM_lead_44 : decode bM_lead 44 = .ok (.putfield 29, 3) := by decide +kernel
theorem dM_lead_47 : decode bM_lead 47 = .ok (.iload_n 2, 1) := by decide +kernel
theorem dM_lead_48 : decode bM_lead 48 = .ok (.istore 5, 2) := by decide +kernel
theorem dM_lead_50 : decode bM_lead 50 = .ok (.iload 5, 2) := by decide +kernel
theorem dM_lead_52 : decode bM_lead 52 = .ok (.iload_n 3, 1) := by decide +kernel
theorem dM_lead_53 : decode bM_lead 53 = .ok (.if_icmp .gt 31, 3) := by decide +kernel
theorem dM_lead_56 : decode bM_lead 56 = .ok (.aload_n 0, 1) := by decide +kernel
theorem dM_lead_57 : decode bM_lead 57 = .ok (.getfield 29, 3) := by decide +kernel
theorem dM_lead_60 : decode bM_lead 60 = .ok (.ifCond .ne 24, 3) := by decide +kernel
theorem dM_lead_63 : decode bM_lead 63 = .ok (.aload_n 0, 1) := by decide +kernel
theorem dM_lead_64 : decode bM_lead 64 = .ok (.getfield 22, 3) := by decide +kernel
theorem dM_lead_67 : decode bM_lead 67 = .ok (.sipush 256, 3) := by decide +kernel
theorem dM_lead_70 : decode bM_lead 70 = .ok (.iload_n 1, 1) := by decide +kernel
theorem dM_lead_71 : decode bM_lead 71 = .ok (.imul, 1) := by decide +kernel
theorem dM_lead_72 : decode bM_lead 72 = .ok (.iload 5, 2) := by decide +kernel
theorem dM_lead_74 : decode bM_lead 74 = .ok (.iadd, 1) := by decide +kernel
theorem dM_lead_75 : decode bM_lead 75 = .ok (.iload 4, 2) := by decide +kernel
theorem dM_lead_77 : decode bM_lead 77 = .ok (.iastore, 1) := by decide +kernel
theorem dM_lead_78 : decode bM_lead 78 = .ok (.iinc 5 1, 3) := by decide +kernel
theorem dM_lead_81 : decode bM_lead 81 = .ok (.goto (-31), 3) := by decide +kernel
theorem dM_lead_84 : decode bM_lead 84 = .ok (.return_, 1) := by decide +kernel
theorem dM_accept_0 : decode bM_accept 0 = .ok (.aload_n 0, 1) := by decide +kernel
theorem dM_accept_1 : decode bM_accept 1 = .ok (.iload_n 1, 1) := by decide +kernel
theorem dM_accept_2 : decode bM_accept 2 = .ok (.ifCond .lt 9, 3) := by decide +kernel
theorem dM_accept_5 : decode bM_accept 5 = .ok (.iload_n 1, 1) := by decide +kernel
theorem dM_accept_6 : decode bM_accept 6 = .ok (.bipush 7, 2) := by decide +kernel
theorem dM_accept_8 : decode bM_accept 8 = .ok (.if_icmp .le 7, 3) := by decide +kernel
theorem dM_accept_11 : decode bM_accept 11 = .ok (.iconst 1, 1) := by decide +kernel
theorem dM_accept_12 : decode bM_accept 12 = .ok (.goto 4, 3) := by decide +kernel
theorem dM_accept_15 : decode bM_accept 15 = .ok (.iconst 0, 1) := by decide +kernel
theorem dM_accept_16 : decode bM_accept 16 = .ok (.putfield 29, 3) := by decide +kernel
theorem dM_accept_19 : decode bM_accept 19 = .ok (.aload_n 0, 1) := by decide +kernel
theorem dM_accept_20 : decode bM_accept 20 = .ok (.getfield 29, 3) := by decide +kernel
theorem dM_accept_23 : decode bM_accept 23 = .ok (.ifCond .ne 10, 3) := by decide +kernel
theorem dM_accept_26 : decode bM_accept 26 = .ok (.aload_n 0, 1) := by decide +kernel
theorem dM_accept_27 : decode bM_accept 27 = .ok (.getfield 25, 3) := by decide +kernel
theorem dM_accept_30 : decode bM_accept 30 = .ok (.iload_n 1, 1) := by decide +kernel
theorem dM_accept_31 : decode bM_accept 31 = .ok (.iload_n 2, 1) := by decide +kernel
theorem dM_accept_32 : decode bM_accept 32 = .ok (.bastore, 1) := by decide +kernel
theorem dM_accept_33 : decode bM_accept 33 = .ok (.return_, 1) := by decide +kernel
theorem dM_read_0 : decode bM_read 0 = .ok (.aload_n 0, 1) := by decide +kernel
theorem dM_read_1 : decode bM_read 1 = .ok (.iload_n 1, 1) := by decide +kernel
theorem dM_read_2 : decode bM_read 2 = .ok (.invokestatic 36, 3) := by decide +kernel
theorem dM_read_5 : decode bM_read 5 = .ok (.ifCond .eq 15, 3) := by decide +kernel
theorem dM_read_8 : decode bM_read 8 = .ok (.iload 4, 2) := by decide +kernel
theorem dM_read_10 : decode bM_read 10 = .ok (.ifCond .lt 10, 3) := by decide +kernel
theorem dM_read_13 : decode bM_read 13 = .ok (.iload 4, 2) := by decide +kernel
theorem dM_read_15 : decode bM_read 15 = .ok (.bipush 7, 2) := by decide +kernel
theorem dM_read_17 : decode bM_read 17 = .ok (.if_icmp .le 7, 3) := by decide +kernel
theorem dM_read_20 : decode bM_read 20 = .ok (.iconst 1, 1) := by decide +kernel
theorem dM_read_21 : decode bM_read 21 = .ok (.goto 18, 3) := by decide +kernel
theorem dM_read_24 : decode bM_read 24 = .ok (.aload_n 0, 1) := by decide +kernel
theorem dM_read_25 : decode bM_read 25 = .ok (.iload_n 1, 1) := by decide +kernel
theorem dM_read_26 : decode bM_read 26 = .ok (.iload_n 2, 1) := by decide +kernel
theorem dM_read_27 : decode bM_read 27 = .ok (.iload_n 3, 1) := by decide +kernel
theorem dM_read_28 : decode bM_read 28 = .ok (.invokevirtual 42, 3) := by decide +kernel
theorem dM_read_31 : decode bM_read 31 = .ok (.ifCond .ne 7, 3) := by decide +kernel
theorem dM_read_34 : decode bM_read 34 = .ok (.iconst 2, 1) := by decide +kernel
theorem dM_read_35 : decode bM_read 35 = .ok (.goto 4, 3) := by decide +kernel
theorem dM_read_38 : decode bM_read 38 = .ok (.iconst 0, 1) := by decide +kernel
theorem dM_read_39 : decode bM_read 39 = .ok (.putfield 29, 3) := by decide +kernel
theorem dM_read_42 : decode bM_read 42 = .ok (.aload_n 0, 1) := by decide +kernel
theorem dM_read_43 : decode bM_read 43 = .ok (.getfield 29, 3) := by decide +kernel
theorem dM_read_46 : decode bM_read 46 = .ok (.ifCond .le 4, 3) := by decide +kernel
theorem dM_read_49 : decode bM_read 49 = .ok (.return_, 1) := by decide +kernel
theorem dM_read_50 : decode bM_read 50 = .ok (.aload_n 0, 1) := by decide +kernel
theorem dM_read_51 : decode bM_read 51 = .ok (.iload 4, 2) := by decide +kernel
theorem dM_read_53 : decode bM_read 53 = .ok (.putfield 90, 3) := by decide +kernel
theorem dM_read_56 : decode bM_read 56 = .ok (.aload_n 0, 1) := by decide +kernel
theorem dM_read_57 : decode bM_read 57 = .ok (.aload_n 0, 1) := by decide +kernel
theorem dM_read_58 : decode bM_read 58 = .ok (.getfield 25, 3) := by decide +kernel
theorem dM_read_61 : decode bM_read 61 = .ok (.iload 4, 2) := by decide +kernel
theorem dM_read_63 : decode bM_read 63 = .ok (.baload, 1) := by decide +kernel
theorem dM_read_64 : decode bM_read 64 = .ok (.ifCond .eq 7, 3) := by decide +kernel
theorem dM_read_67 : decode bM_read 67 = .ok (.iconst 1, 1) := by decide +kernel
theorem dM_read_68 : decode bM_read 68 = .ok (.goto 4, 3) := by decide +kernel
theorem dM_read_71 : decode bM_read 71 = .ok (.iconst 0, 1) := by decide +kernel
theorem dM_read_72 : decode bM_read 72 = .ok (.putfield 93, 3) := by decide +kernel
theorem dM_read_75 : decode bM_read 75 = .ok (.iload_n 2, 1) := by decide +kernel
theorem dM_read_76 : decode bM_read 76 = .ok (.istore 5, 2) := by decide +kernel
theorem dM_read_78 : decode bM_read 78 = .ok (.iload 5, 2) := by decide +kernel
theorem dM_read_80 : decode bM_read 80 = .ok (.iload_n 3, 1) := by decide +kernel
theorem dM_read_81 : decode bM_read 81 = .ok (.if_icmp .ge 69, 3) := by decide +kernel
theorem dM_read_84 : decode bM_read 84 = .ok (.aload_n 0, 1) := by decide +kernel
theorem dM_read_85 : decode bM_read 85 = .ok (.aload_n 0, 1) := by decide +kernel
theorem dM_read_86 : decode bM_read 86 = .ok (.getfield 22, 3) := by decide +kernel
theorem dM_read_89 : decode bM_read 89 = .ok (.sipush 256, 3) := by decide +kernel
theorem dM_read_92 : decode bM_read 92 = .ok (.aload_n 0, 1) := by decide +kernel
theorem dM_read_93 : decode bM_read 93 = .ok (.getfield 90, 3) := by decide +kernel
theorem dM_read_96 : decode bM_read 96 = .ok (.imul, 1) := by decide +kernel
theorem dM_read_97 : decode bM_read 97 = .ok (.aload_n 0, 1) := by decide +kernel
theorem dM_read_98 : decode bM_read 98 = .ok (.getfield 7, 3) := by decide +kernel
theorem dM_read_101 : decode bM_read 101 = .ok (.sipush 1000, 3) := by decide +kernel
theorem dM_read_104 : decode bM_read 104 = .ok (.iload_n 1, 1) := by decide +kernel
theorem dM_read_105 : decode bM_read 105 = .ok (.imul, 1) := by decide +kernel
theorem dM_read_106 : decode bM_read 106 = .ok (.iload 5, 2) := by decide +kernel
theorem dM_read_108 : decode bM_read 108 = .ok (.iadd, 1) := by decide +kernel
theorem dM_read_109 : decode bM_read 109 = .ok (.iaload, 1) := by decide +kernel
theorem dM_read_110 : decode bM_read 110 = .ok (.iadd, 1) := by decide +kernel
theorem dM_read_111 : decode bM_read 111 = .ok (.iaload, 1) := by decide +kernel
theorem dM_read_112 : decode bM_read 112 = .ok (.putfield 90, 3) := by decide +kernel
theorem dM_read_115 : decode bM_read 115 = .ok (.aload_n 0, 1) := by decide +kernel
theorem dM_read_116 : decode bM_read 116 = .ok (.aload_n 0, 1) := by decide +kernel
theorem dM_read_117 : decode bM_read 117 = .ok (.getfield 25, 3) := by decide +kernel
theorem dM_read_120 : decode bM_read 120 = .ok (.aload_n 0, 1) := by decide +kernel
theorem dM_read_121 : decode bM_read 121 = .ok (.getfield 90, 3) := by decide +kernel
theorem dM_read_124 : decode bM_read 124 = .ok (.baload, 1) := by decide +kernel
theorem dM_read_125 : decode bM_read 125 = .ok (.ifCond .eq 12, 3) := by decide +kernel
theorem dM_read_128 : decode bM_read 128 = .ok (.aload_n 0, 1) := by decide +kernel
theorem dM_read_129 : decode bM_read 129 = .ok (.getfield 93, 3) := by decide +kernel
theorem dM_read_132 : decode bM_read 132 = .ok (.iconst 1, 1) := by decide +kernel
theorem dM_read_133 : decode bM_read 133 = .ok (.iadd, 1) := by decide +kernel
theorem dM_read_134 : decode bM_read 134 = .ok (.goto 7, 3) := by decide +kernel
theorem dM_read_137 : decode bM_read 137 = .ok (.aload_n 0, 1) := by decide +kernel
theorem dM_read_138 : decode bM_read 138 = .ok (.getfield 93, 3) := by decide +kernel
theorem dM_read_141 : decode bM_read 141 = .ok (.putfield 93, 3) := by decide +kernel
theorem dM_read_144 : decode bM_read 144 = .ok (.iinc 5 1, 3) := by decide +kernel
theorem dM_read_147 : decode bM_read 147 = .ok (.goto (-69), 3) := by decide +kernel
theorem dM_read_150 : decode bM_read 150 = .ok (.return_, 1) := by decide +kernel
theorem dM_run_0 : decode bM_run 0 = .ok (.aload_n 0, 1) := by decide +kernel
theorem dM_run_1 : decode bM_run 1 = .ok (.iload_n 1, 1) := by decide +kernel
theorem dM_run_2 : decode bM_run 2 = .ok (.iload_n 2, 1) := by decide +kernel
theorem dM_run_3 : decode bM_run 3 = .ok (.iload_n 3, 1) := by decide +kernel
theorem dM_run_4 : decode bM_run 4 = .ok (.iload 4, 2) := by decide +kernel
theorem dM_run_6 : decode bM_run 6 = .ok (.invokevirtual 96, 3) := by decide +kernel
theorem dM_run_9 : decode bM_run 9 = .ok (.aload_n 0, 1) := by decide +kernel
theorem dM_run_10 : decode bM_run 10 = .ok (.getfield 29, 3) := by decide +kernel
theorem dM_run_13 : decode bM_run 13 = .ok (.ifCond .le 7, 3) := by decide +kernel
theorem dM_run_16 : decode bM_run 16 = .ok (.iconst 0, 1) := by decide +kernel
theorem dM_run_17 : decode bM_run 17 = .ok (.goto 7, 3) := by decide +kernel
theorem dM_run_20 : decode bM_run 20 = .ok (.aload_n 0, 1) := by decide +kernel
theorem dM_run_21 : decode bM_run 21 = .ok (.getfield 90, 3) := by decide +kernel
theorem dM_run_24 : decode bM_run 24 = .ok (.ireturn, 1) := by decide +kernel
theorem dM_accepted_0 : decode bM_accepted 0 = .ok (.aload_n 0, 1) := by decide +kernel
theorem dM_accepted_1 : decode bM_accepted 1 = .ok (.iload_n 1, 1) := by decide +kernel
theorem dM_accepted_2 : decode bM_accepted 2 = .ok (.iload_n 2, 1) := by decide +kernel
theorem dM_accepted_3 : decode bM_accepted 3 = .ok (.iload_n 3, 1) := by decide +kernel
theorem dM_accepted_4 : decode bM_accepted 4 = .ok (.iload 4, 2) := by decide +kernel
theorem dM_accepted_6 : decode bM_accepted 6 = .ok (.invokevirtual 96, 3) := by decide +kernel
theorem dM_accepted_9 : decode bM_accepted 9 = .ok (.aload_n 0, 1) := by decide +kernel
theorem dM_accepted_10 : decode bM_accepted 10 = .ok (.getfield 29, 3) := by decide +kernel
theorem dM_accepted_13 : decode bM_accepted 13 = .ok (.ifCond .le 7, 3) := by decide +kernel
theorem dM_accepted_16 : decode bM_accepted 16 = .ok (.iconst 0, 1) := by decide +kernel
theorem dM_accepted_17 : decode bM_accepted 17 = .ok (.goto 7, 3) := by decide +kernel
theorem dM_accepted_20 : decode bM_accepted 20 = .ok (.aload_n 0, 1) := by decide +kernel
theorem dM_accepted_21 : decode bM_accepted 21 = .ok (.getfield 93, 3) := by decide +kernel
theorem dM_accepted_24 : decode bM_accepted 24 = .ok (.ireturn, 1) := by decide +kernel
end
section
theorem dL_write_0 : decode bL_write 0 = .ok (.aload 5, 2) := by decide +kernel
theorem dL_write_2 : decode bL_write 2 = .ok (.iconst 0, 1) := by decide +kernel
theorem dL_write_3 : decode bL_write 3 = .ok (.aload_n 0, 1) := by decide +kernel
theorem dL_write_4 : decode bL_write 4 = .ok (.iload_n 1, 1) := by decide +kernel
theorem dL_write_5 : decode bL_write 5 = .ok (.lload_n 2, 1) := by decide +kernel
theorem dL_write_6 : decode bL_write 6 = .ok (.iload 4, 2) := by decide +kernel
theorem dL_write_8 : decode bL_write 8 = .ok (.invokevirtual 7, 3) := by decide +kernel
theorem dL_write_11 : decode bL_write 11 = .ok (.i2l, 1) := by decide +kernel
theorem dL_write_12 : decode bL_write 12 = .ok (.lastore, 1) := by decide +kernel
theorem dL_write_13 : decode bL_write 13 = .ok (.goto 11, 3) := by decide +kernel
theorem dL_write_16 : decode bL_write 16 = .ok (.astore 6, 2) := by decide +kernel
theorem dL_write_18 : decode bL_write 18 = .ok (.iconst 1, 1) := by decide +kernel
theorem dL_write_19 : decode bL_write 19 = .ok (.ireturn, 1) := by decide +kernel
theorem dL_write_20 : decode bL_write 20 = .ok (.astore 6, 2) := by decide +kernel
theorem dL_write_22 : decode bL_write 22 = .ok (.iconst 2, 1) := by decide +kernel
theorem dL_write_23 : decode bL_write 23 = .ok (.ireturn, 1) := by decide +kernel
theorem dL_write_24 : decode bL_write 24 = .ok (.iconst 0, 1) := by decide +kernel
theorem dL_write_25 : decode bL_write 25 = .ok (.ireturn, 1) := by decide +kernel
theorem dL_length_0 : decode bL_length 0 = .ok (.aload_n 2, 1) := by decide +kernel
theorem dL_length_1 : decode bL_length 1 = .ok (.iconst 0, 1) := by decide +kernel
theorem dL_length_2 : decode bL_length 2 = .ok (.aload_n 0, 1) := by decide +kernel
theorem dL_length_3 : decode bL_length 3 = .ok (.iload_n 1, 1) := by decide +kernel
theorem dL_length_4 : decode bL_length 4 = .ok (.invokevirtual 17, 3) := by decide +kernel
theorem dL_length_7 : decode bL_length 7 = .ok (.i2l, 1) := by decide +kernel
theorem dL_length_8 : decode bL_length 8 = .ok (.lastore, 1) := by decide +kernel
theorem dL_length_9 : decode bL_length 9 = .ok (.goto 6, 3) := by decide +kernel
theorem dL_length_12 : decode bL_length 12 = .ok (.astore_n 3, 1) := by decide +kernel
theorem dL_length_13 : decode bL_length 13 = .ok (.iconst 1, 1) := by decide +kernel
theorem dL_length_14 : decode bL_length 14 = .ok (.ireturn, 1) := by decide +kernel
theorem dL_length_15 : decode bL_length 15 = .ok (.iconst 0, 1) := by decide +kernel
theorem dL_length_16 : decode bL_length 16 = .ok (.ireturn, 1) := by decide +kernel
theorem dL_byteAt_0 : decode bL_byteAt 0 = .ok (.aload_n 3, 1) := by decide +kernel
theorem dL_byteAt_1 : decode bL_byteAt 1 = .ok (.iconst 0, 1) := by decide +kernel
theorem dL_byteAt_2 : decode bL_byteAt 2 = .ok (.aload_n 0, 1) := by decide +kernel
theorem dL_byteAt_3 : decode bL_byteAt 3 = .ok (.iload_n 1, 1) := by decide +kernel
theorem dL_byteAt_4 : decode bL_byteAt 4 = .ok (.iload_n 2, 1) := by decide +kernel
theorem dL_byteAt_5 : decode bL_byteAt 5 = .ok (.invokevirtual 21, 3) := by decide +kernel
theorem dL_byteAt_8 : decode bL_byteAt 8 = .ok (.i2l, 1) := by decide +kernel
theorem dL_byteAt_9 : decode bL_byteAt 9 = .ok (.lastore, 1) := by decide +kernel
theorem dL_byteAt_10 : decode bL_byteAt 10 = .ok (.goto 11, 3) := by decide +kernel
theorem dL_byteAt_13 : decode bL_byteAt 13 = .ok (.astore 4, 2) := by decide +kernel
theorem dL_byteAt_15 : decode bL_byteAt 15 = .ok (.iconst 1, 1) := by decide +kernel
theorem dL_byteAt_16 : decode bL_byteAt 16 = .ok (.ireturn, 1) := by decide +kernel
theorem dL_byteAt_17 : decode bL_byteAt 17 = .ok (.astore 4, 2) := by decide +kernel
theorem dL_byteAt_19 : decode bL_byteAt 19 = .ok (.iconst 2, 1) := by decide +kernel
theorem dL_byteAt_20 : decode bL_byteAt 20 = .ok (.ireturn, 1) := by decide +kernel
theorem dL_byteAt_21 : decode bL_byteAt 21 = .ok (.iconst 0, 1) := by decide +kernel
theorem dL_byteAt_22 : decode bL_byteAt 22 = .ok (.ireturn, 1) := by decide +kernel
theorem dL_copy_0 : decode bL_copy 0 = .ok (.aload 5, 2) := by decide +kernel
theorem dL_copy_2 : decode bL_copy 2 = .ok (.iconst 0, 1) := by decide +kernel
theorem dL_copy_3 : decode bL_copy 3 = .ok (.aload_n 0, 1) := by decide +kernel
theorem dL_copy_4 : decode bL_copy 4 = .ok (.iload_n 1, 1) := by decide +kernel
theorem dL_copy_5 : decode bL_copy 5 = .ok (.iload_n 2, 1) := by decide +kernel
theorem dL_copy_6 : decode bL_copy 6 = .ok (.iload_n 3, 1) := by decide +kernel
theorem dL_copy_7 : decode bL_copy 7 = .ok (.iload 4, 2) := by decide +kernel
theorem dL_copy_9 : decode bL_copy 9 = .ok (.invokevirtual 27, 3) := by decide +kernel
theorem dL_copy_12 : decode bL_copy 12 = .ok (.i2l, 1) := by decide +kernel
theorem dL_copy_13 : decode bL_copy 13 = .ok (.lastore, 1) := by decide +kernel
theorem dL_copy_14 : decode bL_copy 14 = .ok (.goto 11, 3) := by decide +kernel
theorem dL_copy_17 : decode bL_copy 17 = .ok (.astore 6, 2) := by decide +kernel
theorem dL_copy_19 : decode bL_copy 19 = .ok (.iconst 1, 1) := by decide +kernel
theorem dL_copy_20 : decode bL_copy 20 = .ok (.ireturn, 1) := by decide +kernel
theorem dL_copy_21 : decode bL_copy 21 = .ok (.astore 6, 2) := by decide +kernel
theorem dL_copy_23 : decode bL_copy 23 = .ok (.iconst 2, 1) := by decide +kernel
theorem dL_copy_24 : decode bL_copy 24 = .ok (.ireturn, 1) := by decide +kernel
theorem dL_copy_25 : decode bL_copy 25 = .ok (.iconst 0, 1) := by decide +kernel
theorem dL_copy_26 : decode bL_copy 26 = .ok (.ireturn, 1) := by decide +kernel
theorem dL_join_0 : decode bL_join 0 = .ok (.aload 4, 2) := by decide +kernel
theorem dL_join_2 : decode bL_join 2 = .ok (.iconst 0, 1) := by decide +kernel
theorem dL_join_3 : decode bL_join 3 = .ok (.aload_n 0, 1) := by decide +kernel
theorem dL_join_4 : decode bL_join 4 = .ok (.iload_n 1, 1) := by decide +kernel
theorem dL_join_5 : decode bL_join 5 = .ok (.iload_n 2, 1) := by decide +kernel
theorem dL_join_6 : decode bL_join 6 = .ok (.iload_n 3, 1) := by decide +kernel
theorem dL_join_7 : decode bL_join 7 = .ok (.invokevirtual 31, 3) := by decide +kernel
theorem dL_join_10 : decode bL_join 10 = .ok (.i2l, 1) := by decide +kernel
theorem dL_join_11 : decode bL_join 11 = .ok (.lastore, 1) := by decide +kernel
theorem dL_join_12 : decode bL_join 12 = .ok (.goto 11, 3) := by decide +kernel
theorem dL_join_15 : decode bL_join 15 = .ok (.astore 5, 2) := by decide +kernel
theorem dL_join_17 : decode bL_join 17 = .ok (.iconst 1, 1) := by decide +kernel
theorem dL_join_18 : decode bL_join 18 = .ok (.ireturn, 1) := by decide +kernel
theorem dL_join_19 : decode bL_join 19 = .ok (.astore 5, 2) := by decide +kernel
theorem dL_join_21 : decode bL_join 21 = .ok (.iconst 2, 1) := by decide +kernel
theorem dL_join_22 : decode bL_join 22 = .ok (.ireturn, 1) := by decide +kernel
theorem dL_join_23 : decode bL_join 23 = .ok (.iconst 0, 1) := by decide +kernel
theorem dL_join_24 : decode bL_join 24 = .ok (.ireturn, 1) := by decide +kernel
theorem dL_insert_0 : decode bL_insert 0 = .ok (.aload 6, 2) := by decide +kernel
theorem dL_insert_2 : decode bL_insert 2 = .ok (.iconst 0, 1) := by decide +kernel
theorem dL_insert_3 : decode bL_insert 3 = .ok (.aload_n 0, 1) := by decide +kernel
theorem dL_insert_4 : decode bL_insert 4 = .ok (.iload_n 1, 1) := by decide +kernel
theorem dL_insert_5 : decode bL_insert 5 = .ok (.iload_n 2, 1) := by decide +kernel
theorem dL_insert_6 : decode bL_insert 6 = .ok (.iload_n 3, 1) := by decide +kernel
theorem dL_insert_7 : decode bL_insert 7 = .ok (.iload 4, 2) := by decide +kernel
theorem dL_insert_9 : decode bL_insert 9 = .ok (.iload 5, 2) := by decide +kernel
theorem dL_insert_11 : decode bL_insert 11 = .ok (.invokevirtual 35, 3) := by decide +kernel
theorem dL_insert_14 : decode bL_insert 14 = .ok (.i2l, 1) := by decide +kernel
theorem dL_insert_15 : decode bL_insert 15 = .ok (.lastore, 1) := by decide +kernel
theorem dL_insert_16 : decode bL_insert 16 = .ok (.goto 15, 3) := by decide +kernel
theorem dL_insert_19 : decode bL_insert 19 = .ok (.astore 7, 2) := by decide +kernel
theorem dL_insert_21 : decode bL_insert 21 = .ok (.iconst 1, 1) := by decide +kernel
theorem dL_insert_22 : decode bL_insert 22 = .ok (.ireturn, 1) := by decide +kernel
theorem dL_insert_23 : decode bL_insert 23 = .ok (.astore 7, 2) := by decide +kernel
theorem dL_insert_25 : decode bL_insert 25 = .ok (.iconst 2, 1) := by decide +kernel
theorem dL_insert_26 : decode bL_insert 26 = .ok (.ireturn, 1) := by decide +kernel
theorem dL_insert_27 : decode bL_insert 27 = .ok (.astore 7, 2) := by decide +kernel
theorem dL_insert_29 : decode bL_insert 29 = .ok (.iconst 3, 1) := by decide +kernel
theorem dL_insert_30 : decode bL_insert 30 = .ok (.ireturn, 1) := by decide +kernel
theorem dL_insert_31 : decode bL_insert 31 = .ok (.iconst 0, 1) := by decide +kernel
theorem dL_insert_32 : decode bL_insert 32 = .ok (.ireturn, 1) := by decide +kernel
theorem dL_delete_0 : decode bL_delete 0 = .ok (.aload 4, 2) := by decide +kernel
theorem dL_delete_2 : decode bL_delete 2 = .ok (.iconst 0, 1) := by decide +kernel
theorem dL_delete_3 : decode bL_delete 3 = .ok (.aload_n 0, 1) := by decide +kernel
theorem dL_delete_4 : decode bL_delete 4 = .ok (.iload_n 1, 1) := by decide +kernel
theorem dL_delete_5 : decode bL_delete 5 = .ok (.iload_n 2, 1) := by decide +kernel
theorem dL_delete_6 : decode bL_delete 6 = .ok (.iload_n 3, 1) := by decide +kernel
theorem dL_delete_7 : decode bL_delete 7 = .ok (.invokevirtual 39, 3) := by decide +kernel
theorem dL_delete_10 : decode bL_delete 10 = .ok (.i2l, 1) := by decide +kernel
theorem dL_delete_11 : decode bL_delete 11 = .ok (.lastore, 1) := by decide +kernel
theorem dL_delete_12 : decode bL_delete 12 = .ok (.goto 11, 3) := by decide +kernel
theorem dL_delete_15 : decode bL_delete 15 = .ok (.astore 5, 2) := by decide +kernel
theorem dL_delete_17 : decode bL_delete 17 = .ok (.iconst 1, 1) := by decide +kernel
theorem dL_delete_18 : decode bL_delete 18 = .ok (.ireturn, 1) := by decide +kernel
theorem dL_delete_19 : decode bL_delete 19 = .ok (.astore 5, 2) := by decide +kernel
theorem dL_delete_21 : decode bL_delete 21 = .ok (.iconst 2, 1) := by decide +kernel
theorem dL_delete_22 : decode bL_delete 22 = .ok (.ireturn, 1) := by decide +kernel
theorem dL_delete_23 : decode bL_delete 23 = .ok (.iconst 0, 1) := by decide +kernel
theorem dL_delete_24 : decode bL_delete 24 = .ok (.ireturn, 1) := by decide +kernel
theorem dL_move_0 : decode bL_move 0 = .ok (.aload 5, 2) := by decide +kernel
theorem dL_move_2 : decode bL_move 2 = .ok (.iconst 0, 1) := by decide +kernel
theorem dL_move_3 : decode bL_move 3 = .ok (.aload_n 0, 1) := by decide +kernel
theorem dL_move_4 : decode bL_move 4 = .ok (.iload_n 1, 1) := by decide +kernel
theorem dL_move_5 : decode bL_move 5 = .ok (.iload_n 2, 1) := by decide +kernel
theorem dL_move_6 : decode bL_move 6 = .ok (.iload_n 3, 1) := by decide +kernel
theorem dL_move_7 : decode bL_move 7 = .ok (.iload 4, 2) := by decide +kernel
theorem dL_move_9 : decode bL_move 9 = .ok (.invokevirtual 42, 3) := by decide +kernel
theorem dL_move_12 : decode bL_move 12 = .ok (.i2l, 1) := by decide +kernel
theorem dL_move_13 : decode bL_move 13 = .ok (.lastore, 1) := by decide +kernel
theorem dL_move_14 : decode bL_move 14 = .ok (.goto 11, 3) := by decide +kernel
theorem dL_move_17 : decode bL_move 17 = .ok (.astore 6, 2) := by decide +kernel
theorem dL_move_19 : decode bL_move 19 = .ok (.iconst 1, 1) := by decide +kernel
theorem dL_move_20 : decode bL_move 20 = .ok (.ireturn, 1) := by decide +kernel
theorem dL_move_21 : decode bL_move 21 = .ok (.astore 6, 2) := by decide +kernel
theorem dL_move_23 : decode bL_move 23 = .ok (.iconst 2, 1) := by decide +kernel
theorem dL_move_24 : decode bL_move 24 = .ok (.ireturn, 1) := by decide +kernel
theorem dL_move_25 : decode bL_move 25 = .ok (.iconst 0, 1) := by decide +kernel
theorem dL_move_26 : decode bL_move 26 = .ok (.ireturn, 1) := by decide +kernel
theorem dL_repeat_0 : decode bL_repeat 0 = .ok (.aload 5, 2) := by decide +kernel
theorem dL_repeat_2 : decode bL_repeat 2 = .ok (.iconst 0, 1) := by decide +kernel
theorem dL_repeat_3 : decode bL_repeat 3 = .ok (.aload_n 0, 1) := by decide +kernel
theorem dL_repeat_4 : decode bL_repeat 4 = .ok (.iload_n 1, 1) := by decide +kernel
theorem dL_repeat_5 : decode bL_repeat 5 = .ok (.iload_n 2, 1) := by decide +kernel
theorem dL_repeat_6 : decode bL_repeat 6 = .ok (.iload_n 3, 1) := by decide +kernel
theorem dL_repeat_7 : decode bL_repeat 7 = .ok (.iload 4, 2) := by decide +kernel
theorem dL_repeat_9 : decode bL_repeat 9 = .ok (.invokevirtual 45, 3) := by decide +kernel
theorem dL_repeat_12 : decode bL_repeat 12 = .ok (.i2l, 1) := by decide +kernel
theorem dL_repeat_13 : decode bL_repeat 13 = .ok (.lastore, 1) := by decide +kernel
theorem dL_repeat_14 : decode bL_repeat 14 = .ok (.goto 15, 3) := by decide +kernel
theorem dL_repeat_17 : decode bL_repeat 17 = .ok (.astore 6, 2) := by decide +kernel
theorem dL_repeat_19 : decode bL_repeat 19 = .ok (.iconst 1, 1) := by decide +kernel
theorem dL_repeat_20 : decode bL_repeat 20 = .ok (.ireturn, 1) := by decide +kernel
theorem dL_repeat_21 : decode bL_repeat 21 = .ok (.astore 6, 2) := by decide +kernel
theorem dL_repeat_23 : decode bL_repeat 23 = .ok (.iconst 2, 1) := by decide +kernel
theorem dL_repeat_24 : decode bL_repeat 24 = .ok (.ireturn, 1) := by decide +kernel
theorem dL_repeat_25 : decode bL_repeat 25 = .ok (.astore 6, 2) := by decide +kernel
theorem dL_repeat_27 : decode bL_repeat 27 = .ok (.iconst 3, 1) := by decide +kernel
theorem dL_repeat_28 : decode bL_repeat 28 = .ok (.ireturn, 1) := by decide +kernel
theorem dL_repeat_29 : decode bL_repeat 29 = .ok (.iconst 0, 1) := by decide +kernel
theorem dL_repeat_30 : decode bL_repeat 30 = .ok (.ireturn, 1) := by decide +kernel
theorem dL_same_0 : decode bL_same 0 = .ok (.aload 6, 2) := by decide +kernel
theorem dL_same_2 : decode bL_same 2 = .ok (.iconst 0, 1) := by decide +kernel
theorem dL_same_3 : decode bL_same 3 = .ok (.aload_n 0, 1) := by decide +kernel
theorem dL_same_4 : decode bL_same 4 = .ok (.iload_n 1, 1) := by decide +kernel
theorem dL_same_5 : decode bL_same 5 = .ok (.iload_n 2, 1) := by decide +kernel
theorem dL_same_6 : decode bL_same 6 = .ok (.iload_n 3, 1) := by decide +kernel
theorem dL_same_7 : decode bL_same 7 = .ok (.iload 4, 2) := by decide +kernel
theorem dL_same_9 : decode bL_same 9 = .ok (.iload 5, 2) := by decide +kernel
theorem dL_same_11 : decode bL_same 11 = .ok (.invokevirtual 48, 3) := by decide +kernel
theorem dL_same_14 : decode bL_same 14 = .ok (.ifCond .eq 7, 3) := by decide +kernel
theorem dL_same_17 : decode bL_same 17 = .ok (.lconst 1, 1) := by decide +kernel
theorem dL_same_18 : decode bL_same 18 = .ok (.goto 4, 3) := by decide +kernel
theorem dL_same_21 : decode bL_same 21 = .ok (.lconst 0, 1) := by decide +kernel
theorem dL_same_22 : decode bL_same 22 = .ok (.lastore, 1) := by decide +kernel
theorem dL_same_23 : decode bL_same 23 = .ok (.goto 11, 3) := by decide +kernel
theorem dL_same_26 : decode bL_same 26 = .ok (.astore 7, 2) := by decide +kernel
theorem dL_same_28 : decode bL_same 28 = .ok (.iconst 1, 1) := by decide +kernel
theorem dL_same_29 : decode bL_same 29 = .ok (.ireturn, 1) := by decide +kernel
theorem dL_same_30 : decode bL_same 30 = .ok (.astore 7, 2) := by decide +kernel
theorem dL_same_32 : decode bL_same 32 = .ok (.iconst 2, 1) := by decide +kernel
theorem dL_same_33 : decode bL_same 33 = .ok (.ireturn, 1) := by decide +kernel
theorem dL_same_34 : decode bL_same 34 = .ok (.iconst 0, 1) := by decide +kernel
theorem dL_same_35 : decode bL_same 35 = .ok (.ireturn, 1) := by decide +kernel
theorem dL_prefix_0 : decode bL_prefix 0 = .ok (.aload 5, 2) := by decide +kernel
theorem dL_prefix_2 : decode bL_prefix 2 = .ok (.iconst 0, 1) := by decide +kernel
theorem dL_prefix_3 : decode bL_prefix 3 = .ok (.aload_n 0, 1) := by decide +kernel
theorem dL_prefix_4 : decode bL_prefix 4 = .ok (.iload_n 1, 1) := by decide +kernel
theorem dL_prefix_5 : decode bL_prefix 5 = .ok (.iload_n 2, 1) := by decide +kernel
theorem dL_prefix_6 : decode bL_prefix 6 = .ok (.iload_n 3, 1) := by decide +kernel
theorem dL_prefix_7 : decode bL_prefix 7 = .ok (.iload 4, 2) := by decide +kernel
theorem dL_prefix_9 : decode bL_prefix 9 = .ok (.invokevirtual 52, 3) := by decide +kernel
theorem dL_prefix_12 : decode bL_prefix 12 = .ok (.i2l, 1) := by decide +kernel
theorem dL_prefix_13 : decode bL_prefix 13 = .ok (.lastore, 1) := by decide +kernel
theorem dL_prefix_14 : decode bL_prefix 14 = .ok (.goto 11, 3) := by decide +kernel
theorem dL_prefix_17 : decode bL_prefix 17 = .ok (.astore 6, 2) := by decide +kernel
theorem dL_prefix_19 : decode bL_prefix 19 = .ok (.iconst 1, 1) := by decide +kernel
theorem dL_prefix_20 : decode bL_prefix 20 = .ok (.ireturn, 1) := by decide +kernel
theorem dL_prefix_21 : decode bL_prefix 21 = .ok (.astore 6, 2) := by decide +kernel
theorem dL_prefix_23 : decode bL_prefix 23 = .ok (.iconst 2, 1) := by decide +kernel
theorem dL_prefix_24 : decode bL_prefix 24 = .ok (.ireturn, 1) := by decide +kernel
theorem dL_prefix_25 : decode bL_prefix 25 = .ok (.iconst 0, 1) := by decide +kernel
theorem dL_prefix_26 : decode bL_prefix 26 = .ok (.ireturn, 1) := by decide +kernel
theorem dL_order_0 : decode bL_order 0 = .ok (.aload 5, 2) := by decide +kernel
theorem dL_order_2 : decode bL_order 2 = .ok (.iconst 0, 1) := by decide +kernel
theorem dL_order_3 : decode bL_order 3 = .ok (.aload_n 0, 1) := by decide +kernel
theorem dL_order_4 : decode bL_order 4 = .ok (.iload_n 1, 1) := by decide +kernel
theorem dL_order_5 : decode bL_order 5 = .ok (.iload_n 2, 1) := by decide +kernel
theorem dL_order_6 : decode bL_order 6 = .ok (.iload_n 3, 1) := by decide +kernel
theorem dL_order_7 : decode bL_order 7 = .ok (.iload 4, 2) := by decide +kernel
theorem dL_order_9 : decode bL_order 9 = .ok (.invokevirtual 55, 3) := by decide +kernel
theorem dL_order_12 : decode bL_order 12 = .ok (.i2l, 1) := by decide +kernel
theorem dL_order_13 : decode bL_order 13 = .ok (.lastore, 1) := by decide +kernel
theorem dL_order_14 : decode bL_order 14 = .ok (.goto 11, 3) := by decide +kernel
theorem dL_order_17 : decode bL_order 17 = .ok (.astore 6, 2) := by decide +kernel
theorem dL_order_19 : decode bL_order 19 = .ok (.iconst 1, 1) := by decide +kernel
theorem dL_order_20 : decode bL_order 20 = .ok (.ireturn, 1) := by decide +kernel
theorem dL_order_21 : decode bL_order 21 = .ok (.astore 6, 2) := by decide +kernel
theorem dL_order_23 : decode bL_order 23 = .ok (.iconst 2, 1) := by decide +kernel
theorem dL_order_24 : decode bL_order 24 = .ok (.ireturn, 1) := by decide +kernel
theorem dL_order_25 : decode bL_order 25 = .ok (.iconst 0, 1) := by decide +kernel
theorem dL_order_26 : decode bL_order 26 = .ok (.ireturn, 1) := by decide +kernel
theorem dL_name_0 : decode bL_name 0 = .ok (.aload 4, 2) := by decide +kernel
theorem dL_name_2 : decode bL_name 2 = .ok (.iconst 0, 1) := by decide +kernel
theorem dL_name_3 : decode bL_name 3 = .ok (.aload_n 0, 1) := by decide +kernel
theorem dL_name_4 : decode bL_name 4 = .ok (.iload_n 1, 1) := by decide +kernel
theorem dL_name_5 : decode bL_name 5 = .ok (.iload_n 2, 1) := by decide +kernel
theorem dL_name_6 : decode bL_name 6 = .ok (.iload_n 3, 1) := by decide +kernel
theorem dL_name_7 : decode bL_name 7 = .ok (.invokevirtual 58, 3) := by decide +kernel
theorem dL_name_10 : decode bL_name 10 = .ok (.lastore, 1) := by decide +kernel
theorem dL_name_11 : decode bL_name 11 = .ok (.goto 11, 3) := by decide +kernel
theorem dL_name_14 : decode bL_name 14 = .ok (.astore 5, 2) := by decide +kernel
theorem dL_name_16 : decode bL_name 16 = .ok (.iconst 1, 1) := by decide +kernel
theorem dL_name_17 : decode bL_name 17 = .ok (.ireturn, 1) := by decide +kernel
theorem dL_name_18 : decode bL_name 18 = .ok (.astore 5, 2) := by decide +kernel
theorem dL_name_20 : decode bL_name 20 = .ok (.iconst 2, 1) := by decide +kernel
theorem dL_name_21 : decode bL_name 21 = .ok (.ireturn, 1) := by decide +kernel
theorem dL_name_22 : decode bL_name 22 = .ok (.iconst 0, 1) := by decide +kernel
theorem dL_name_23 : decode bL_name 23 = .ok (.ireturn, 1) := by decide +kernel
theorem dL_pattern_0 : decode bL_pattern 0 = .ok (.aload_n 0, 1) := by decide +kernel
theorem dL_pattern_1 : decode bL_pattern 1 = .ok (.lload_n 1, 1) := by decide +kernel
theorem dL_pattern_2 : decode bL_pattern 2 = .ok (.lload_n 3, 1) := by decide +kernel
theorem dL_pattern_3 : decode bL_pattern 3 = .ok (.iload 5, 2) := by decide +kernel
theorem dL_pattern_5 : decode bL_pattern 5 = .ok (.invokevirtual 62, 3) := by decide +kernel
theorem dL_pattern_8 : decode bL_pattern 8 = .ok (.goto 7, 3) := by decide +kernel
theorem dL_pattern_11 : decode bL_pattern 11 = .ok (.astore 6, 2) := by decide +kernel
theorem dL_pattern_13 : decode bL_pattern 13 = .ok (.iconst 1, 1) := by decide +kernel
theorem dL_pattern_14 : decode bL_pattern 14 = .ok (.ireturn, 1) := by decide +kernel
theorem dL_pattern_15 : decode bL_pattern 15 = .ok (.iconst 0, 1) := by decide +kernel
theorem dL_pattern_16 : decode bL_pattern 16 = .ok (.ireturn, 1) := by decide +kernel
theorem dL_count_0 : decode bL_count 0 = .ok (.aload 4, 2) := by decide +kernel
theorem dL_count_2 : decode bL_count 2 = .ok (.iconst 0, 1) := by decide +kernel
theorem dL_count_3 : decode bL_count 3 = .ok (.aload_n 0, 1) := by decide +kernel
theorem dL_count_4 : decode bL_count 4 = .ok (.iload_n 1, 1) := by decide +kernel
theorem dL_count_5 : decode bL_count 5 = .ok (.iload_n 2, 1) := by decide +kernel
theorem dL_count_6 : decode bL_count 6 = .ok (.iload_n 3, 1) := by decide +kernel
theorem dL_count_7 : decode bL_count 7 = .ok (.invokevirtual 66, 3) := by decide +kernel
theorem dL_count_10 : decode bL_count 10 = .ok (.i2l, 1) := by decide +kernel
theorem dL_count_11 : decode bL_count 11 = .ok (.lastore, 1) := by decide +kernel
theorem dL_count_12 : decode bL_count 12 = .ok (.goto 15, 3) := by decide +kernel
theorem dL_count_15 : decode bL_count 15 = .ok (.astore 5, 2) := by decide +kernel
theorem dL_count_17 : decode bL_count 17 = .ok (.iconst 1, 1) := by decide +kernel
theorem dL_count_18 : decode bL_count 18 = .ok (.ireturn, 1) := by decide +kernel
theorem dL_count_19 : decode bL_count 19 = .ok (.astore 5, 2) := by decide +kernel
theorem dL_count_21 : decode bL_count 21 = .ok (.iconst 2, 1) := by decide +kernel
theorem dL_count_22 : decode bL_count 22 = .ok (.ireturn, 1) := by decide +kernel
theorem dL_count_23 : decode bL_count 23 = .ok (.astore 5, 2) := by decide +kernel
theorem dL_count_25 : decode bL_count 25 = .ok (.iconst 3, 1) := by decide +kernel
theorem dL_count_26 : decode bL_count 26 = .ok (.ireturn, 1) := by decide +kernel
theorem dL_count_27 : decode bL_count 27 = .ok (.iconst 0, 1) := by decide +kernel
theorem dL_count_28 : decode bL_count 28 = .ok (.ireturn, 1) := by decide +kernel
theorem dL_find_0 : decode bL_find 0 = .ok (.aload 4, 2) := by decide +kernel
theorem dL_find_2 : decode bL_find 2 = .ok (.iconst 0, 1) := by decide +kernel
theorem dL_find_3 : decode bL_find 3 = .ok (.aload_n 0, 1) := by decide +kernel
theorem dL_find_4 : decode bL_find 4 = .ok (.iload_n 1, 1) := by decide +kernel
theorem dL_find_5 : decode bL_find 5 = .ok (.iload_n 2, 1) := by decide +kernel
theorem dL_find_6 : decode bL_find 6 = .ok (.iload_n 3, 1) := by decide +kernel
theorem dL_find_7 : decode bL_find 7 = .ok (.invokevirtual 71, 3) := by decide +kernel
theorem dL_find_10 : decode bL_find 10 = .ok (.i2l, 1) := by decide +kernel
theorem dL_find_11 : decode bL_find 11 = .ok (.lastore, 1) := by decide +kernel
theorem dL_find_12 : decode bL_find 12 = .ok (.goto 15, 3) := by decide +kernel
theorem dL_find_15 : decode bL_find 15 = .ok (.astore 5, 2) := by decide +kernel
theorem dL_find_17 : decode bL_find 17 = .ok (.iconst 1, 1) := by decide +kernel
theorem dL_find_18 : decode bL_find 18 = .ok (.ireturn, 1) := by decide +kernel
theorem dL_find_19 : decode bL_find 19 = .ok (.astore 5, 2) := by decide +kernel
theorem dL_find_21 : decode bL_find 21 = .ok (.iconst 2, 1) := by decide +kernel
theorem dL_find_22 : decode bL_find 22 = .ok (.ireturn, 1) := by decide +kernel
theorem dL_find_23 : decode bL_find 23 = .ok (.astore 5, 2) := by decide +kernel
theorem dL_find_25 : decode bL_find 25 = .ok (.iconst 3, 1) := by decide +kernel
theorem dL_find_26 : decode bL_find 26 = .ok (.ireturn, 1) := by decide +kernel
theorem dL_find_27 : decode bL_find 27 = .ok (.iconst 0, 1) := by decide +kernel
theorem dL_find_28 : decode bL_find 28 = .ok (.ireturn, 1) := by decide +kernel
theorem dL_lead_0 : decode bL_lead 0 = .ok (.aload_n 0, 1) := by decide +kernel
theorem dL_lead_1 : decode bL_lead 1 = .ok (.iload_n 1, 1) := by decide +kernel
theorem dL_lead_2 : decode bL_lead 2 = .ok (.iload_n 2, 1) := by decide +kernel
theorem dL_lead_3 : decode bL_lead 3 = .ok (.iload_n 3, 1) := by decide +kernel
theorem dL_lead_4 : decode bL_lead 4 = .ok (.iload 4, 2) := by decide +kernel
theorem dL_lead_6 : decode bL_lead 6 = .ok (.invokevirtual 74, 3) := by decide +kernel
theorem dL_lead_9 : decode bL_lead 9 = .ok (.goto 7, 3) := by decide +kernel
theorem dL_lead_12 : decode bL_lead 12 = .ok (.astore 5, 2) := by decide +kernel
theorem dL_lead_14 : decode bL_lead 14 = .ok (.iconst 1, 1) := by decide +kernel
theorem dL_lead_15 : decode bL_lead 15 = .ok (.ireturn, 1) := by decide +kernel
theorem dL_lead_16 : decode bL_lead 16 = .ok (.iconst 0, 1) := by decide +kernel
theorem dL_lead_17 : decode bL_lead 17 = .ok (.ireturn, 1) := by decide +kernel
theorem dL_accept_0 : decode bL_accept 0 = .ok (.aload_n 0, 1) := by decide +kernel
theorem dL_accept_1 : decode bL_accept 1 = .ok (.iload_n 1, 1) := by decide +kernel
theorem dL_accept_2 : decode bL_accept 2 = .ok (.iload_n 2, 1) := by decide +kernel
theorem dL_accept_3 : decode bL_accept 3 = .ok (.invokevirtual 78, 3) := by decide +kernel
theorem dL_accept_6 : decode bL_accept 6 = .ok (.goto 6, 3) := by decide +kernel
theorem dL_accept_9 : decode bL_accept 9 = .ok (.astore_n 3, 1) := by decide +kernel
theorem dL_accept_10 : decode bL_accept 10 = .ok (.iconst 1, 1) := by decide +kernel
theorem dL_accept_11 : decode bL_accept 11 = .ok (.ireturn, 1) := by decide +kernel
theorem dL_accept_12 : decode bL_accept 12 = .ok (.iconst 0, 1) := by decide +kernel
theorem dL_accept_13 : decode bL_accept 13 = .ok (.ireturn, 1) := by decide +kernel
theorem dL_run_0 : decode bL_run 0 = .ok (.aload 5, 2) := by decide +kernel
theorem dL_run_2 : decode bL_run 2 = .ok (.iconst 0, 1) := by decide +kernel
theorem dL_run_3 : decode bL_run 3 = .ok (.aload_n 0, 1) := by decide +kernel
theorem dL_run_4 : decode bL_run 4 = .ok (.iload_n 1, 1) := by decide +kernel
theorem dL_run_5 : decode bL_run 5 = .ok (.iload_n 2, 1) := by decide +kernel
theorem dL_run_6 : decode bL_run 6 = .ok (.iload_n 3, 1) := by decide +kernel
theorem dL_run_7 : decode bL_run 7 = .ok (.iload 4, 2) := by decide +kernel
theorem dL_run_9 : decode bL_run 9 = .ok (.invokevirtual 82, 3) := by decide +kernel
theorem dL_run_12 : decode bL_run 12 = .ok (.i2l, 1) := by decide +kernel
theorem dL_run_13 : decode bL_run 13 = .ok (.lastore, 1) := by decide +kernel
theorem dL_run_14 : decode bL_run 14 = .ok (.goto 11, 3) := by decide +kernel
theorem dL_run_17 : decode bL_run 17 = .ok (.astore 6, 2) := by decide +kernel
theorem dL_run_19 : decode bL_run 19 = .ok (.iconst 1, 1) := by decide +kernel
theorem dL_run_20 : decode bL_run 20 = .ok (.ireturn, 1) := by decide +kernel
theorem dL_run_21 : decode bL_run 21 = .ok (.astore 6, 2) := by decide +kernel
theorem dL_run_23 : decode bL_run 23 = .ok (.iconst 2, 1) := by decide +kernel
theorem dL_run_24 : decode bL_run 24 = .ok (.ireturn, 1) := by decide +kernel
theorem dL_run_25 : decode bL_run 25 = .ok (.iconst 0, 1) := by decide +kernel
theorem dL_run_26 : decode bL_run 26 = .ok (.ireturn, 1) := by decide +kernel
theorem dL_accepted_0 : decode bL_accepted 0 = .ok (.aload 5, 2) := by decide +kernel
theorem dL_accepted_2 : decode bL_accepted 2 = .ok (.iconst 0, 1) := by decide +kernel
theorem dL_accepted_3 : decode bL_accepted 3 = .ok (.aload_n 0, 1) := by decide +kernel
theorem dL_accepted_4 : decode bL_accepted 4 = .ok (.iload_n 1, 1) := by decide +kernel
theorem dL_accepted_5 : decode bL_accepted 5 = .ok (.iload_n 2, 1) := by decide +kernel
theorem dL_accepted_6 : decode bL_accepted 6 = .ok (.iload_n 3, 1) := by decide +kernel
theorem dL_accepted_7 : decode bL_accepted 7 = .ok (.iload 4, 2) := by decide +kernel
theorem dL_accepted_9 : decode bL_accepted 9 = .ok (.invokevirtual 85, 3) := by decide +kernel
theorem dL_accepted_12 : decode bL_accepted 12 = .ok (.i2l, 1) := by decide +kernel
theorem dL_accepted_13 : decode bL_accepted 13 = .ok (.lastore, 1) := by decide +kernel
theorem dL_accepted_14 : decode bL_accepted 14 = .ok (.goto 11, 3) := by decide +kernel
theorem dL_accepted_17 : decode bL_accepted 17 = .ok (.astore 6, 2) := by decide +kernel
theorem dL_accepted_19 : decode bL_accepted 19 = .ok (.iconst 1, 1) := by decide +kernel
theorem dL_accepted_20 : decode bL_accepted 20 = .ok (.ireturn, 1) := by decide +kernel
theorem dL_accepted_21 : decode bL_accepted 21 = .ok (.astore 6, 2) := by decide +kernel
theorem dL_accepted_23 : decode bL_accepted 23 = .ok (.iconst 2, 1) := by decide +kernel
theorem dL_accepted_24 : decode bL_accepted 24 = .ok (.ireturn, 1) := by decide +kernel
theorem dL_accepted_25 : decode bL_accepted 25 = .ok (.iconst 0, 1) := by decide +kernel
theorem dL_accepted_26 : decode bL_accepted 26 = .ok (.ireturn, 1) := by decide +kernel
end
section
theorem dL_law_0 : decode code 0 = .ok (.new 8, 3) := by decide +kernel
theorem dL_law_3 : decode code 3 = .ok (.dup, 1) := by decide +kernel
theorem dL_law_4 : decode code 4 = .ok (.invokespecial 88, 3) := by decide +kernel
theorem dL_law_7 : decode code 7 = .ok (.astore_n 1, 1) := by decide +kernel
theorem dL_law_8 : decode code 8 = .ok (.new 89, 3) := by decide +kernel
theorem dL_law_11 : decode code 11 = .ok (.dup, 1) := by decide +kernel
theorem dL_law_12 : decode code 12 = .ok (.invokespecial 91, 3) := by decide +kernel
theorem dL_law_15 : decode code 15 = .ok (.astore_n 2, 1) := by decide +kernel
theorem dL_law_16 : decode code 16 = .ok (.iconst 1, 1) := by decide +kernel
theorem dL_law_17 : decode code 17 = .ok (.newarray .long, 2) := by decide +kernel
theorem dL_law_19 : decode code 19 = .ok (.astore_n 3, 1) := by decide +kernel
theorem dL_law_20 : decode code 20 = .ok (.iconst 0, 1) := by decide +kernel
theorem dL_law_21 : decode code 21 = .ok (.istore 4, 2) := by decide +kernel
theorem dL_law_23 : decode code 23 = .ok (.iload 4, 2) := by decide +kernel
theorem dL_law_25 : decode code 25 = .ok (.aload_n 0, 1) := by decide +kernel
theorem dL_law_26 : decode code 26 = .ok (.arraylength, 1) := by decide +kernel
theorem dL_law_27 : decode code 27 = .ok (.bipush 6, 2) := by decide +kernel
theorem dL_law_29 : decode code 29 = .ok (.isub, 1) := by decide +kernel
theorem dL_law_30 : decode code 30 = .ok (.if_icmp .gt 1866, 3) := by decide +kernel
theorem dL_law_33 : decode code 33 = .ok (.aload_n 0, 1) := by decide +kernel
theorem dL_law_34 : decode code 34 = .ok (.iload 4, 2) := by decide +kernel
theorem dL_law_36 : decode code 36 = .ok (.iaload, 1) := by decide +kernel
theorem dL_law_37 : decode code 37 = .ok (.bipush 31, 2) := by decide +kernel
theorem dL_law_39 : decode code 39 = .ok (.iand, 1) := by decide +kernel
theorem dL_law_40 : decode code 40 = .ok (.tableswitch 1850 0 19 #[96, 208, 264, 332, 424, 504, 608, 688, 780, 872, 983, 1075, 1167, 1246, 1370, 1450, 1530, 1602, 1666, 1758], 96) := by decide +kernel
theorem dL_law_136 : decode code 136 = .ok (.aload_n 1, 1) := by decide +kernel
theorem dL_law_137 : decode code 137 = .ok (.aload_n 0, 1) := by decide +kernel
theorem dL_law_138 : decode code 138 = .ok (.iload 4, 2) := by decide +kernel
theorem dL_law_140 : decode code 140 = .ok (.iconst 1, 1) := by decide +kernel
theorem dL_law_141 : decode code 141 = .ok (.iadd, 1) := by decide +kernel
theorem dL_law_142 : decode code 142 = .ok (.iaload, 1) := by decide +kernel
theorem dL_law_143 : decode code 143 = .ok (.aload_n 0, 1) := by decide +kernel
theorem dL_law_144 : decode code 144 = .ok (.iload 4, 2) := by decide +kernel
theorem dL_law_146 : decode code 146 = .ok (.iconst 2, 1) := by decide +kernel
theorem dL_law_147 : decode code 147 = .ok (.iadd, 1) := by decide +kernel
theorem dL_law_148 : decode code 148 = .ok (.iaload, 1) := by decide +kernel
theorem dL_law_149 : decode code 149 = .ok (.i2l, 1) := by decide +kernel
theorem dL_law_150 : decode code 150 = .ok (.bipush 32, 2) := by decide +kernel
theorem dL_law_152 : decode code 152 = .ok (.lshl, 1) := by decide +kernel
theorem dL_law_153 : decode code 153 = .ok (.aload_n 0, 1) := by decide +kernel
theorem dL_law_154 : decode code 154 = .ok (.iload 4, 2) := by decide +kernel
theorem dL_law_156 : decode code 156 = .ok (.iconst 3, 1) := by decide +kernel
theorem dL_law_157 : decode code 157 = .ok (.iadd, 1) := by decide +kernel
theorem dL_law_158 : decode code 158 = .ok (.iaload, 1) := by decide +kernel
theorem dL_law_159 : decode code 159 = .ok (.i2l, 1) := by decide +kernel
theorem dL_law_160 : decode code 160 = .ok (.ldc2_w 92, 3) := by decide +kernel
theorem dL_law_163 : decode code 163 = .ok (.land, 1) := by decide +kernel
theorem dL_law_164 : decode code 164 = .ok (.lor, 1) := by decide +kernel
theorem dL_law_165 : decode code 165 = .ok (.aload_n 0, 1) := by decide +kernel
theorem dL_law_166 : decode code 166 = .ok (.iload 4, 2) := by decide +kernel
theorem dL_law_168 : decode code 168 = .ok (.iconst 4, 1) := by decide +kernel
theorem dL_law_169 : decode code 169 = .ok (.iadd, 1) := by decide +kernel
theorem dL_law_170 : decode code 170 = .ok (.iaload, 1) := by decide +kernel
theorem dL_law_171 : decode code 171 = .ok (.aload_n 3, 1) := by decide +kernel
theorem dL_law_172 : decode code 172 = .ok (.invokestatic 94, 3) := by decide +kernel
theorem dL_law_175 : decode code 175 = .ok (.istore 5, 2) := by decide +kernel
theorem dL_law_177 : decode code 177 = .ok (.aload_n 2, 1) := by decide +kernel
theorem dL_law_178 : decode code 178 = .ok (.aload_n 0, 1) := by decide +kernel
theorem dL_law_179 : decode code 179 = .ok (.iload 4, 2) := by decide +kernel
theorem dL_law_181 : decode code 181 = .ok (.iconst 1, 1) := by decide +kernel
theorem dL_law_182 : decode code 182 = .ok (.iadd, 1) := by decide +kernel
theorem dL_law_183 : decode code 183 = .ok (.iaload, 1) := by decide +kernel
theorem dL_law_184 : decode code 184 = .ok (.aload_n 0, 1) := by decide +kernel
theorem dL_law_185 : decode code 185 = .ok (.iload 4, 2) := by decide +kernel
theorem dL_law_187 : decode code 187 = .ok (.iconst 2, 1) := by decide +kernel
theorem dL_law_188 : decode code 188 = .ok (.iadd, 1) := by decide +kernel
theorem dL_law_189 : decode code 189 = .ok (.iaload, 1) := by decide +kernel
theorem dL_law_190 : decode code 190 = .ok (.i2l, 1) := by decide +kernel
theorem dL_law_191 : decode code 191 = .ok (.bipush 32, 2) := by decide +kernel
theorem dL_law_193 : decode code 193 = .ok (.lshl, 1) := by decide +kernel
theorem dL_law_194 : decode code 194 = .ok (.aload_n 0, 1) := by decide +kernel
theorem dL_law_195 : decode code 195 = .ok (.iload 4, 2) := by decide +kernel
theorem dL_law_197 : decode code 197 = .ok (.iconst 3, 1) := by decide +kernel
theorem dL_law_198 : decode code 198 = .ok (.iadd, 1) := by decide +kernel
theorem dL_law_199 : decode code 199 = .ok (.iaload, 1) := by decide +kernel
theorem dL_law_200 : decode code 200 = .ok (.i2l, 1) := by decide +kernel
theorem dL_law_201 : decode code 201 = .ok (.ldc2_w 92, 3) := by decide +kernel
theorem dL_law_204 : decode code 204 = .ok (.land, 1) := by decide +kernel
theorem dL_law_205 : decode code 205 = .ok (.lor, 1) := by decide +kernel
theorem dL_law_206 : decode code 206 = .ok (.aload_n 0, 1) := by decide +kernel
theorem dL_law_207 : decode code 207 = .ok (.iload 4, 2) := by decide +kernel
theorem dL_law_209 : decode code 209 = .ok (.iconst 4, 1) := by decide +kernel
theorem dL_law_210 : decode code 210 = .ok (.iadd, 1) := by decide +kernel
theorem dL_law_211 : decode code 211 = .ok (.iaload, 1) := by decide +kernel
theorem dL_law_212 : decode code 212 = .ok (.invokevirtual 99, 3) := by decide +kernel
theorem dL_law_215 : decode code 215 = .ok (.istore 6, 2) := by decide +kernel
theorem dL_law_217 : decode code 217 = .ok (.aload_n 2, 1) := by decide +kernel
theorem dL_law_218 : decode code 218 = .ok (.invokevirtual 100, 3) := by decide +kernel
theorem dL_law_221 : decode code 221 = .ok (.iload 5, 2) := by decide +kernel
theorem dL_law_223 : decode code 223 = .ok (.if_icmp .eq 5, 3) := by decide +kernel
theorem dL_law_226 : decode code 226 = .ok (.iconst 0, 1) := by decide +kernel
theorem dL_law_227 : decode code 227 = .ok (.ireturn, 1) := by decide +kernel
theorem dL_law_228 : decode code 228 = .ok (.iload 5, 2) := by decide +kernel
theorem dL_law_230 : decode code 230 = .ok (.ifCond .ne 15, 3) := by decide +kernel
theorem dL_law_233 : decode code 233 = .ok (.aload_n 3, 1) := by decide +kernel
theorem dL_law_234 : decode code 234 = .ok (.iconst 0, 1) := by decide +kernel
theorem dL_law_235 : decode code 235 = .ok (.laload, 1) := by decide +kernel
theorem dL_law_236 : decode code 236 = .ok (.iload 6, 2) := by decide +kernel
theorem dL_law_238 : decode code 238 = .ok (.i2l, 1) := by decide +kernel
theorem dL_law_239 : decode code 239 = .ok (.lcmp, 1) := by decide +kernel
theorem dL_law_240 : decode code 240 = .ok (.ifCond .eq 5, 3) := by decide +kernel
theorem dL_law_243 : decode code 243 = .ok (.iconst 0, 1) := by decide +kernel
theorem dL_law_244 : decode code 244 = .ok (.ireturn, 1) := by decide +kernel
theorem dL_law_245 : decode code 245 = .ok (.goto 1645, 3) := by decide +kernel
theorem dL_law_248 : decode code 248 = .ok (.aload_n 1, 1) := by decide +kernel
theorem dL_law_249 : decode code 249 = .ok (.aload_n 0, 1) := by decide +kernel
theorem dL_law_250 : decode code 250 = .ok (.iload 4, 2) := by decide +kernel
theorem dL_law_252 : decode code 252 = .ok (.iconst 1, 1) := by decide +kernel
theorem dL_law_253 : decode code 253 = .ok (.iadd, 1) := by decide +kernel
theorem dL_law_254 : decode code 254 = .ok (.iaload, 1) := by decide +kernel
theorem dL_law_255 : decode code 255 = .ok (.aload_n 3, 1) := by decide +kernel
theorem dL_law_256 : decode code 256 = .ok (.invokestatic 104, 3) := by decide +kernel
theorem dL_law_259 : decode code 259 = .ok (.istore 5, 2) := by decide +kernel
theorem dL_law_261 : decode code 261 = .ok (.aload_n 2, 1) := by decide +kernel
theorem dL_law_262 : decode code 262 = .ok (.aload_n 0, 1) := by decide +kernel
theorem dL_law_263 : decode code 263 = .ok (.iload 4, 2) := by decide +kernel
theorem dL_law_265 : decode code 265 = .ok (.iconst 1, 1) := by decide +kernel
theorem dL_law_266 : decode code 266 = .ok (.iadd, 1) := by decide +kernel
theorem dL_law_267 : decode code 267 = .ok (.iaload, 1) := by decide +kernel
theorem dL_law_268 : decode code 268 = .ok (.invokevirtual 107, 3) := by decide +kernel
theorem dL_law_271 : decode code 271 = .ok (.istore 6, 2) := by decide +kernel
theorem dL_law_273 : decode code 273 = .ok (.aload_n 2, 1) := by decide +kernel
theorem dL_law_274 : decode code 274 = .ok (.invokevirtual 100, 3) := by decide +kernel
theorem dL_law_277 : decode code 277 = .ok (.iload 5, 2) := by decide +kernel
theorem dL_law_279 : decode code 279 = .ok (.if_icmp .eq 5, 3) := by decide +kernel
theorem dL_law_282 : decode code 282 = .ok (.iconst 0, 1) := by decide +kernel
theorem dL_law_283 : decode code 283 = .ok (.ireturn, 1) := by decide +kernel
theorem dL_law_284 : decode code 284 = .ok (.iload 5, 2) := by decide +kernel
theorem dL_law_286 : decode code 286 = .ok (.ifCond .ne 15, 3) := by decide +kernel
theorem dL_law_289 : decode code 289 = .ok (.aload_n 3, 1) := by decide +kernel
theorem dL_law_290 : decode code 290 = .ok (.iconst 0, 1) := by decide +kernel
theorem dL_law_291 : decode code 291 = .ok (.laload, 1) := by decide +kernel
theorem dL_law_292 : decode code 292 = .ok (.iload 6, 2) := by decide +kernel
theorem dL_law_294 : decode code 294 = .ok (.i2l, 1) := by decide +kernel
theorem dL_law_295 : decode code 295 = .ok (.lcmp, 1) := by decide +kernel
theorem dL_law_296 : decode code 296 = .ok (.ifCond .eq 5, 3) := by decide +kernel
theorem dL_law_299 : decode code 299 = .ok (.iconst 0, 1) := by decide +kernel
theorem dL_law_300 : decode code 300 = .ok (.ireturn, 1) := by decide +kernel
theorem dL_law_301 : decode code 301 = .ok (.goto 1589, 3) := by decide +kernel
theorem dL_law_304 : decode code 304 = .ok (.aload_n 1, 1) := by decide +kernel
theorem dL_law_305 : decode code 305 = .ok (.aload_n 0, 1) := by decide +kernel
theorem dL_law_306 : decode code 306 = .ok (.iload 4, 2) := by decide +kernel
theorem dL_law_308 : decode code 308 = .ok (.iconst 1, 1) := by decide +kernel
theorem dL_law_309 : decode code 309 = .ok (.iadd, 1) := by decide +kernel
theorem dL_law_310 : decode code 310 = .ok (.iaload, 1) := by decide +kernel
theorem dL_law_311 : decode code 311 = .ok (.aload_n 0, 1) := by decide +kernel
theorem dL_law_312 : decode code 312 = .ok (.iload 4, 2) := by decide +kernel
theorem dL_law_314 : decode code 314 = .ok (.iconst 2, 1) := by decide +kernel
theorem dL_law_315 : decode code 315 = .ok (.iadd, 1) := by decide +kernel
theorem dL_law_316 : decode code 316 = .ok (.iaload, 1) := by decide +kernel
theorem dL_law_317 : decode code 317 = .ok (.aload_n 3, 1) := by decide +kernel
theorem dL_law_318 : decode code 318 = .ok (.invokestatic 108, 3) := by decide +kernel
theorem dL_law_321 : decode code 321 = .ok (.istore 5, 2) := by decide +kernel
theorem dL_law_323 : decode code 323 = .ok (.aload_n 2, 1) := by decide +kernel
theorem dL_law_324 : decode code 324 = .ok (.aload_n 0, 1) := by decide +kernel
theorem dL_law_325 : decode code 325 = .ok (.iload 4, 2) := by decide +kernel
theorem dL_law_327 : decode code 327 = .ok (.iconst 1, 1) := by decide +kernel
theorem dL_law_328 : decode code 328 = .ok (.iadd, 1) := by decide +kernel
theorem dL_law_329 : decode code 329 = .ok (.iaload, 1) := by decide +kernel
theorem dL_law_330 : decode code 330 = .ok (.aload_n 0, 1) := by decide +kernel
theorem dL_law_331 : decode code 331 = .ok (.iload 4, 2) := by decide +kernel
theorem dL_law_333 : decode code 333 = .ok (.iconst 2, 1) := by decide +kernel
theorem dL_law_334 : decode code 334 = .ok (.iadd, 1) := by decide +kernel
theorem dL_law_335 : decode code 335 = .ok (.iaload, 1) := by decide +kernel
theorem dL_law_336 : decode code 336 = .ok (.invokevirtual 111, 3) := by decide +kernel
theorem dL_law_339 : decode code 339 = .ok (.istore 6, 2) := by decide +kernel
theorem dL_law_341 : decode code 341 = .ok (.aload_n 2, 1) := by decide +kernel
theorem dL_law_342 : decode code 342 = .ok (.invokevirtual 100, 3) := by decide +kernel
theorem dL_law_345 : decode code 345 = .ok (.iload 5, 2) := by decide +kernel
theorem dL_law_347 : decode code 347 = .ok (.if_icmp .eq 5, 3) := by decide +kernel
theorem dL_law_350 : decode code 350 = .ok (.iconst 0, 1) := by decide +kernel
theorem dL_law_351 : decode code 351 = .ok (.ireturn, 1) := by decide +kernel
theorem dL_law_352 : decode code 352 = .ok (.iload 5, 2) := by decide +kernel
theorem dL_law_354 : decode code 354 = .ok (.ifCond .ne 15, 3) := by decide +kernel
theorem dL_law_357 : decode code 357 = .ok (.aload_n 3, 1) := by decide +kernel
theorem dL_law_358 : decode code 358 = .ok (.iconst 0, 1) := by decide +kernel
theorem dL_law_359 : decode code 359 = .ok (.laload, 1) := by decide +kernel
theorem dL_law_360 : decode code 360 = .ok (.iload 6, 2) := by decide +kernel
theorem dL_law_362 : decode code 362 = .ok (.i2l, 1) := by decide +kernel
theorem dL_law_363 : decode code 363 = .ok (.lcmp, 1) := by decide +kernel
theorem dL_law_364 : decode code 364 = .ok (.ifCond .eq 5, 3) := by decide +kernel
theorem dL_law_367 : decode code 367 = .ok (.iconst 0, 1) := by decide +kernel
theorem dL_law_368 : decode code 368 = .ok (.ireturn, 1) := by decide +kernel
theorem dL_law_369 : decode code 369 = .ok (.goto 1521, 3) := by decide +kernel
theorem dL_law_372 : decode code 372 = .ok (.aload_n 1, 1) := by decide +kernel
theorem dL_law_373 : decode code 373 = .ok (.aload_n 0, 1) := by decide +kernel
theorem dL_law_374 : decode code 374 = .ok (.iload 4, 2) := by decide +kernel
theorem dL_law_376 : decode code 376 = .ok (.iconst 1, 1) := by decide +kernel
theorem dL_law_377 : decode code 377 = .ok (.iadd, 1) := by decide +kernel
theorem dL_law_378 : decode code 378 = .ok (.iaload, 1) := by decide +kernel
theorem dL_law_379 : decode code 379 = .ok (.aload_n 0, 1) := by decide +kernel
theorem dL_law_380 : decode code 380 = .ok (.iload 4, 2) := by decide +kernel
theorem dL_law_382 : decode code 382 = .ok (.iconst 2, 1) := by decide +kernel
theorem dL_law_383 : decode code 383 = .ok (.iadd, 1) := by decide +kernel
theorem dL_law_384 : decode code 384 = .ok (.iaload, 1) := by decide +kernel
theorem dL_law_385 : decode code 385 = .ok (.aload_n 0, 1) := by decide +kernel
theorem dL_law_386 : decode code 386 = .ok (.iload 4, 2) := by decide +kernel
theorem dL_law_388 : decode code 388 = .ok (.iconst 3, 1) := by decide +kernel
theorem dL_law_389 : decode code 389 = .ok (.iadd, 1) := by decide +kernel
theorem dL_law_390 : decode code 390 = .ok (.iaload, 1) := by decide +kernel
theorem dL_law_391 : decode code 391 = .ok (.aload_n 0, 1) := by decide +kernel
theorem dL_law_392 : decode code 392 = .ok (.iload 4, 2) := by decide +kernel
theorem dL_law_394 : decode code 394 = .ok (.iconst 4, 1) := by decide +kernel
theorem dL_law_395 : decode code 395 = .ok (.iadd, 1) := by decide +kernel
theorem dL_law_396 : decode code 396 = .ok (.iaload, 1) := by decide +kernel
theorem dL_law_397 : decode code 397 = .ok (.aload_n 3, 1) := by decide +kernel
theorem dL_law_398 : decode code 398 = .ok (.invokestatic 112, 3) := by decide +kernel
theorem dL_law_401 : decode code 401 = .ok (.istore 5, 2) := by decide +kernel
theorem dL_law_403 : decode code 403 = .ok (.aload_n 2, 1) := by decide +kernel
theorem dL_law_404 : decode code 404 = .ok (.aload_n 0, 1) := by decide +kernel
theorem dL_law_405 : decode code 405 = .ok (.iload 4, 2) := by decide +kernel
theorem dL_law_407 : decode code 407 = .ok (.iconst 1, 1) := by decide +kernel
theorem dL_law_408 : decode code 408 = .ok (.iadd, 1) := by decide +kernel
theorem dL_law_409 : decode code 409 = .ok (.iaload, 1) := by decide +kernel
theorem dL_law_410 : decode code 410 = .ok (.aload_n 0, 1) := by decide +kernel
theorem dL_law_411 : decode code 411 = .ok (.iload 4, 2) := by decide +kernel
theorem dL_law_413 : decode code 413 = .ok (.iconst 2, 1) := by decide +kernel
theorem dL_law_414 : decode code 414 = .ok (.iadd, 1) := by decide +kernel
theorem dL_law_415 : decode code 415 = .ok (.iaload, 1) := by decide +kernel
theorem dL_law_416 : decode code 416 = .ok (.aload_n 0, 1) := by decide +kernel
theorem dL_law_417 : decode code 417 = .ok (.iload 4, 2) := by decide +kernel
theorem dL_law_419 : decode code 419 = .ok (.iconst 3, 1) := by decide +kernel
theorem dL_law_420 : decode code 420 = .ok (.iadd, 1) := by decide +kernel
theorem dL_law_421 : decode code 421 = .ok (.iaload, 1) := by decide +kernel
theorem dL_law_422 : decode code 422 = .ok (.aload_n 0, 1) := by decide +kernel
theorem dL_law_423 : decode code 423 = .ok (.iload 4, 2) := by decide +kernel
theorem dL_law_425 : decode code 425 = .ok (.iconst 4, 1) := by decide +kernel
theorem dL_law_426 : decode code 426 = .ok (.iadd, 1) := by decide +kernel
theorem dL_law_427 : decode code 427 = .ok (.iaload, 1) := by decide +kernel
theorem dL_law_428 : decode code 428 = .ok (.invokevirtual 115, 3) := by decide +kernel
theorem dL_law_431 : decode code 431 = .ok (.istore 6, 2) := by decide +kernel
theorem dL_law_433 : decode code 433 = .ok (.aload_n 2, 1) := by decide +kernel
theorem dL_law_434 : decode code 434 = .ok (.invokevirtual 100, 3) := by decide +kernel
theorem dL_law_437 : decode code 437 = .ok (.iload 5, 2) := by decide +kernel
theorem dL_law_439 : decode code 439 = .ok (.if_icmp .eq 5, 3) := by decide +kernel
theorem dL_law_442 : decode code 442 = .ok (.iconst 0, 1) := by decide +kernel
theorem dL_law_443 : decode code 443 = .ok (.ireturn, 1) := by decide +kernel
theorem dL_law_444 : decode code 444 = .ok (.iload 5, 2) := by decide +kernel
theorem dL_law_446 : decode code 446 = .ok (.ifCond .ne 15, 3) := by decide +kernel
theorem dL_law_449 : decode code 449 = .ok (.aload_n 3, 1) := by decide +kernel
theorem dL_law_450 : decode code 450 = .ok (.iconst 0, 1) := by decide +kernel
theorem dL_law_451 : decode code 451 = .ok (.laload, 1) := by decide +kernel
theorem dL_law_452 : decode code 452 = .ok (.iload 6, 2) := by decide +kernel
theorem dL_law_454 : decode code 454 = .ok (.i2l, 1) := by decide +kernel
theorem dL_law_455 : decode code 455 = .ok (.lcmp, 1) := by decide +kernel
theorem dL_law_456 : decode code 456 = .ok (.ifCond .eq 5, 3) := by decide +kernel
theorem dL_law_459 : decode code 459 = .ok (.iconst 0, 1) := by decide +kernel
theorem dL_law_460 : decode code 460 = .ok (.ireturn, 1) := by decide +kernel
theorem dL_law_461 : decode code 461 = .ok (.goto 1429, 3) := by decide +kernel
theorem dL_law_464 : decode code 464 = .ok (.aload_n 1, 1) := by decide +kernel
theorem dL_law_465 : decode code 465 = .ok (.aload_n 0, 1) := by decide +kernel
theorem dL_law_466 : decode code 466 = .ok (.iload 4, 2) := by decide +kernel
theorem dL_law_468 : decode code 468 = .ok (.iconst 1, 1) := by decide +kernel
theorem dL_law_469 : decode code 469 = .ok (.iadd, 1) := by decide +kernel
theorem dL_law_470 : decode code 470 = .ok (.iaload, 1) := by decide +kernel
theorem dL_law_471 : decode code 471 = .ok (.aload_n 0, 1) := by decide +kernel
theorem dL_law_472 : decode code 472 = .ok (.iload 4, 2) := by decide +kernel
theorem dL_law_474 : decode code 474 = .ok (.iconst 2, 1) := by decide +kernel
theorem dL_law_475 : decode code 475 = .ok (.iadd, 1) := by decide +kernel
theorem dL_law_476 : decode code 476 = .ok (.iaload, 1) := by decide +kernel
theorem dL_law_477 : decode code 477 = .ok (.aload_n 0, 1) := by decide +kernel
theorem dL_law_478 : decode code 478 = .ok (.iload 4, 2) := by decide +kernel
theorem dL_law_480 : decode code 480 = .ok (.iconst 3, 1) := by decide +kernel
theorem dL_law_481 : decode code 481 = .ok (.iadd, 1) := by decide +kernel
theorem dL_law_482 : decode code 482 = .ok (.iaload, 1) := by decide +kernel
theorem dL_law_483 : decode code 483 = .ok (.aload_n 3, 1) := by decide +kernel
theorem dL_law_484 : decode code 484 = .ok (.invokestatic 116, 3) := by decide +kernel
theorem dL_law_487 : decode code 487 = .ok (.istore 5, 2) := by decide +kernel
theorem dL_law_489 : decode code 489 = .ok (.aload_n 2, 1) := by decide +kernel
theorem dL_law_490 : decode code 490 = .ok (.aload_n 0, 1) := by decide +kernel
theorem dL_law_491 : decode code 491 = .ok (.iload 4, 2) := by decide +kernel
theorem dL_law_493 : decode code 493 = .ok (.iconst 1, 1) := by decide +kernel
theorem dL_law_494 : decode code 494 = .ok (.iadd, 1) := by decide +kernel
theorem dL_law_495 : decode code 495 = .ok (.iaload, 1) := by decide +kernel
theorem dL_law_496 : decode code 496 = .ok (.aload_n 0, 1) := by decide +kernel
theorem dL_law_497 : decode code 497 = .ok (.iload 4, 2) := by decide +kernel
theorem dL_law_499 : decode code 499 = .ok (.iconst 2, 1) := by decide +kernel
theorem dL_law_500 : decode code 500 = .ok (.iadd, 1) := by decide +kernel
theorem dL_law_501 : decode code 501 = .ok (.iaload, 1) := by decide +kernel
theorem dL_law_502 : decode code 502 = .ok (.aload_n 0, 1) := by decide +kernel
theorem dL_law_503 : decode code 503 = .ok (.iload 4, 2) := by decide +kernel
theorem dL_law_505 : decode code 505 = .ok (.iconst 3, 1) := by decide +kernel
theorem dL_law_506 : decode code 506 = .ok (.iadd, 1) := by decide +kernel
theorem dL_law_507 : decode code 507 = .ok (.iaload, 1) := by decide +kernel
theorem dL_law_508 : decode code 508 = .ok (.invokevirtual 119, 3) := by decide +kernel
theorem dL_law_511 : decode code 511 = .ok (.istore 6, 2) := by decide +kernel
theorem dL_law_513 : decode code 513 = .ok (.aload_n 2, 1) := by decide +kernel
theorem dL_law_514 : decode code 514 = .ok (.invokevirtual 100, 3) := by decide +kernel
theorem dL_law_517 : decode code 517 = .ok (.iload 5, 2) := by decide +kernel
theorem dL_law_519 : decode code 519 = .ok (.if_icmp .eq 5, 3) := by decide +kernel
theorem dL_law_522 : decode code 522 = .ok (.iconst 0, 1) := by decide +kernel
theorem dL_law_523 : decode code 523 = .ok (.ireturn, 1) := by decide +kernel
theorem dL_law_524 : decode code 524 = .ok (.iload 5, 2) := by decide +kernel
theorem dL_law_526 : decode code 526 = .ok (.ifCond .ne 15, 3) := by decide +kernel
theorem dL_law_529 : decode code 529 = .ok (.aload_n 3, 1) := by decide +kernel
theorem dL_law_530 : decode code 530 = .ok (.iconst 0, 1) := by decide +kernel
theorem dL_law_531 : decode code 531 = .ok (.laload, 1) := by decide +kernel
theorem dL_law_532 : decode code 532 = .ok (.iload 6, 2) := by decide +kernel
theorem dL_law_534 : decode code 534 = .ok (.i2l, 1) := by decide +kernel
theorem dL_law_535 : decode code 535 = .ok (.lcmp, 1) := by decide +kernel
theorem dL_law_536 : decode code 536 = .ok (.ifCond .eq 5, 3) := by decide +kernel
theorem dL_law_539 : decode code 539 = .ok (.iconst 0, 1) := by decide +kernel
theorem dL_law_540 : decode code 540 = .ok (.ireturn, 1) := by decide +kernel
theorem dL_law_541 : decode code 541 = .ok (.goto 1349, 3) := by decide +kernel
theorem dL_law_544 : decode code 544 = .ok (.aload_n 1, 1) := by decide +kernel
theorem dL_law_545 : decode code 545 = .ok (.aload_n 0, 1) := by decide +kernel
theorem dL_law_546 : decode code 546 = .ok (.iload 4, 2) := by decide +kernel
theorem dL_law_548 : decode code 548 = .ok (.iconst 1, 1) := by decide +kernel
theorem dL_law_549 : decode code 549 = .ok (.iadd, 1) := by decide +kernel
theorem dL_law_550 : decode code 550 = .ok (.iaload, 1) := by decide +kernel
theorem dL_law_551 : decode code 551 = .ok (.aload_n 0, 1) := by decide +kernel
theorem dL_law_552 : decode code 552 = .ok (.iload 4, 2) := by decide +kernel
theorem dL_law_554 : decode code 554 = .ok (.iconst 2, 1) := by decide +kernel
theorem dL_law_555 : decode code 555 = .ok (.iadd, 1) := by decide +kernel
theorem dL_law_556 : decode code 556 = .ok (.iaload, 1) := by decide +kernel
theorem dL_law_557 : decode code 557 = .ok (.aload_n 0, 1) := by decide +kernel
theorem dL_law_558 : decode code 558 = .ok (.iload 4, 2) := by decide +kernel
theorem dL_law_560 : decode code 560 = .ok (.iconst 3, 1) := by decide +kernel
theorem dL_law_561 : decode code 561 = .ok (.iadd, 1) := by decide +kernel
theorem dL_law_562 : decode code 562 = .ok (.iaload, 1) := by decide +kernel
end
section
theorem dL_law_563 : decode code 563 = .ok (.aload_n 0, 1) := by decide +kernel
theorem dL_law_564 : decode code 564 = .ok (.iload 4, 2) := by decide +kernel
theorem dL_law_566 : decode code 566 = .ok (.iconst 4, 1) := by decide +kernel
theorem dL_law_567 : decode code 567 = .ok (.iadd, 1) := by decide +kernel
theorem dL_law_568 : decode code 568 = .ok (.iaload, 1) := by decide +kernel
theorem dL_law_569 : decode code 569 = .ok (.aload_n 0, 1) := by decide +kernel
theorem dL_law_570 : decode code 570 = .ok (.iload 4, 2) := by decide +kernel
theorem dL_law_572 : decode code 572 = .ok (.iconst 5, 1) := by decide +kernel
theorem dL_law_573 : decode code 573 = .ok (.iadd, 1) := by decide +kernel
theorem dL_law_574 : decode code 574 = .ok (.iaload, 1) := by decide +kernel
theorem dL_law_575 : decode code 575 = .ok (.aload_n 3, 1) := by decide +kernel
theorem dL_law_576 : decode code 576 = .ok (.invokestatic 120, 3) := by decide +kernel
theorem dL_law_579 : decode code 579 = .ok (.istore 5, 2) := by decide +kernel
theorem dL_law_581 : decode code 581 = .ok (.aload_n 2, 1) := by decide +kernel
theorem dL_law_582 : decode code 582 = .ok (.aload_n 0, 1) := by decide +kernel
theorem dL_law_583 : decode code 583 = .ok (.iload 4, 2) := by decide +kernel
theorem dL_law_585 : decode code 585 = .ok (.iconst 1, 1) := by decide +kernel
theorem dL_law_586 : decode code 586 = .ok (.iadd, 1) := by decide +kernel
theorem dL_law_587 : decode code 587 = .ok (.iaload, 1) := by decide +kernel
theorem dL_law_588 : decode code 588 = .ok (.aload_n 0, 1) := by decide +kernel
theorem dL_law_589 : decode code 589 = .ok (.iload 4, 2) := by decide +kernel
theorem dL_law_591 : decode code 591 = .ok (.iconst 2, 1) := by decide +kernel
theorem dL_law_592 : decode code 592 = .ok (.iadd, 1) := by decide +kernel
theorem dL_law_593 : decode code 593 = .ok (.iaload, 1) := by decide +kernel
theorem dL_law_594 : decode code 594 = .ok (.aload_n 0, 1) := by decide +kernel
theorem dL_law_595 : decode code 595 = .ok (.iload 4, 2) := by decide +kernel
theorem dL_law_597 : decode code 597 = .ok (.iconst 3, 1) := by decide +kernel
theorem dL_law_598 : decode code 598 = .ok (.iadd, 1) := by decide +kernel
theorem dL_law_599 : decode code 599 = .ok (.iaload, 1) := by decide +kernel
theorem dL_law_600 : decode code 600 = .ok (.aload_n 0, 1) := by decide +kernel
theorem dL_law_601 : decode code 601 = .ok (.iload 4, 2) := by decide +kernel
theorem dL_law_603 : decode code 603 = .ok (.iconst 4, 1) := by decide +kernel
theorem dL_law_604 : decode code 604 = .ok (.iadd, 1) := by decide +kernel
theorem dL_law_605 : decode code 605 = .ok (.iaload, 1) := by decide +kernel
theorem dL_law_606 : decode code 606 = .ok (.aload_n 0, 1) := by decide +kernel
theorem dL_law_607 : decode code 607 = .ok (.iload 4, 2) := by decide +kernel
theorem dL_law_609 : decode code 609 = .ok (.iconst 5, 1) := by decide +kernel
theorem dL_law_610 : decode code 610 = .ok (.iadd, 1) := by decide +kernel
theorem dL_law_611 : decode code 611 = .ok (.iaload, 1) := by decide +kernel
theorem dL_law_612 : decode code 612 = .ok (.invokevirtual 123, 3) := by decide +kernel
theorem dL_law_615 : decode code 615 = .ok (.istore 6, 2) := by decide +kernel
theorem dL_law_617 : decode code 617 = .ok (.aload_n 2, 1) := by decide +kernel
theorem dL_law_618 : decode code 618 = .ok (.invokevirtual 100, 3) := by decide +kernel
theorem dL_law_621 : decode code 621 = .ok (.iload 5, 2) := by decide +kernel
theorem dL_law_623 : decode code 623 = .ok (.if_icmp .eq 5, 3) := by decide +kernel
theorem dL_law_626 : decode code 626 = .ok (.iconst 0, 1) := by decide +kernel
theorem dL_law_627 : decode code 627 = .ok (.ireturn, 1) := by decide +kernel
theorem dL_law_628 : decode code 628 = .ok (.iload 5, 2) := by decide +kernel
theorem dL_law_630 : decode code 630 = .ok (.ifCond .ne 15, 3) := by decide +kernel
theorem dL_law_633 : decode code 633 = .ok (.aload_n 3, 1) := by decide +kernel
theorem dL_law_634 : decode code 634 = .ok (.iconst 0, 1) := by decide +kernel
theorem dL_law_635 : decode code 635 = .ok (.laload, 1) := by decide +kernel
theorem dL_law_636 : decode code 636 = .ok (.iload 6, 2) := by decide +kernel
theorem dL_law_638 : decode code 638 = .ok (.i2l, 1) := by decide +kernel
theorem dL_law_639 : decode code 639 = .ok (.lcmp, 1) := by decide +kernel
theorem dL_law_640 : decode code 640 = .ok (.ifCond .eq 5, 3) := by decide +kernel
theorem dL_law_643 : decode code 643 = .ok (.iconst 0, 1) := by decide +kernel
theorem dL_law_644 : decode code 644 = .ok (.ireturn, 1) := by decide +kernel
theorem dL_law_645 : decode code 645 = .ok (.goto 1245, 3) := by decide +kernel
theorem dL_law_648 : decode code 648 = .ok (.aload_n 1, 1) := by decide +kernel
theorem dL_law_649 : decode code 649 = .ok (.aload_n 0, 1) := by decide +kernel
theorem dL_law_650 : decode code 650 = .ok (.iload 4, 2) := by decide +kernel
theorem dL_law_652 : decode code 652 = .ok (.iconst 1, 1) := by decide +kernel
theorem dL_law_653 : decode code 653 = .ok (.iadd, 1) := by decide +kernel
theorem dL_law_654 : decode code 654 = .ok (.iaload, 1) := by decide +kernel
theorem dL_law_655 : decode code 655 = .ok (.aload_n 0, 1) := by decide +kernel
theorem dL_law_656 : decode code 656 = .ok (.iload 4, 2) := by decide +kernel
theorem dL_law_658 : decode code 658 = .ok (.iconst 2, 1) := by decide +kernel
theorem dL_law_659 : decode code 659 = .ok (.iadd, 1) := by decide +kernel
theorem dL_law_660 : decode code 660 = .ok (.iaload, 1) := by decide +kernel
theorem dL_law_661 : decode code 661 = .ok (.aload_n 0, 1) := by decide +kernel
theorem dL_law_662 : decode code 662 = .ok (.iload 4, 2) := by decide +kernel
theorem dL_law_664 : decode code 664 = .ok (.iconst 3, 1) := by decide +kernel
theorem dL_law_665 : decode code 665 = .ok (.iadd, 1) := by decide +kernel
theorem dL_law_666 : decode code 666 = .ok (.iaload, 1) := by decide +kernel
theorem dL_law_667 : decode code 667 = .ok (.aload_n 3, 1) := by decide +kernel
theorem dL_law_668 : decode code 668 = .ok (.invokestatic 124, 3) := by decide +kernel
theorem dL_law_671 : decode code 671 = .ok (.istore 5, 2) := by decide +kernel
theorem dL_law_673 : decode code 673 = .ok (.aload_n 2, 1) := by decide +kernel
theorem dL_law_674 : decode code 674 = .ok (.aload_n 0, 1) := by decide +kernel
theorem dL_law_675 : decode code 675 = .ok (.iload 4, 2) := by decide +kernel
theorem dL_law_677 : decode code 677 = .ok (.iconst 1, 1) := by decide +kernel
theorem dL_law_678 : decode code 678 = .ok (.iadd, 1) := by decide +kernel
theorem dL_law_679 : decode code 679 = .ok (.iaload, 1) := by decide +kernel
theorem dL_law_680 : decode code 680 = .ok (.aload_n 0, 1) := by decide +kernel
theorem dL_law_681 : decode code 681 = .ok (.iload 4, 2) := by decide +kernel
theorem dL_law_683 : decode code 683 = .ok (.iconst 2, 1) := by decide +kernel
theorem dL_law_684 : decode code 684 = .ok (.iadd, 1) := by decide +kernel
theorem dL_law_685 : decode code 685 = .ok (.iaload, 1) := by decide +kernel
theorem dL_law_686 : decode code 686 = .ok (.aload_n 0, 1) := by decide +kernel
theorem dL_law_687 : decode code 687 = .ok (.iload 4, 2) := by decide +kernel
theorem dL_law_689 : decode code 689 = .ok (.iconst 3, 1) := by decide +kernel
theorem dL_law_690 : decode code 690 = .ok (.iadd, 1) := by decide +kernel
theorem dL_law_691 : decode code 691 = .ok (.iaload, 1) := by decide +kernel
theorem dL_law_692 : decode code 692 = .ok (.invokevirtual 126, 3) := by decide +kernel
theorem dL_law_695 : decode code 695 = .ok (.istore 6, 2) := by decide +kernel
theorem dL_law_697 : decode code 697 = .ok (.aload_n 2, 1) := by decide +kernel
theorem dL_law_698 : decode code 698 = .ok (.invokevirtual 100, 3) := by decide +kernel
theorem dL_law_701 : decode code 701 = .ok (.iload 5, 2) := by decide +kernel
theorem dL_law_703 : decode code 703 = .ok (.if_icmp .eq 5, 3) := by decide +kernel
theorem dL_law_706 : decode code 706 = .ok (.iconst 0, 1) := by decide +kernel
theorem dL_law_707 : decode code 707 = .ok (.ireturn, 1) := by decide +kernel
theorem dL_law_708 : decode code 708 = .ok (.iload 5, 2) := by decide +kernel
theorem dL_law_710 : decode code 710 = .ok (.ifCond .ne 15, 3) := by decide +kernel
theorem dL_law_713 : decode code 713 = .ok (.aload_n 3, 1) := by decide +kernel
theorem dL_law_714 : decode code 714 = .ok (.iconst 0, 1) := by decide +kernel
theorem dL_law_715 : decode code 715 = .ok (.laload, 1) := by decide +kernel
theorem dL_law_716 : decode code 716 = .ok (.iload 6, 2) := by decide +kernel
theorem dL_law_718 : decode code 718 = .ok (.i2l, 1) := by decide +kernel
theorem dL_law_719 : decode code 719 = .ok (.lcmp, 1) := by decide +kernel
theorem dL_law_720 : decode code 720 = .ok (.ifCond .eq 5, 3) := by decide +kernel
theorem dL_law_723 : decode code 723 = .ok (.iconst 0, 1) := by decide +kernel
theorem dL_law_724 : decode code 724 = .ok (.ireturn, 1) := by decide +kernel
theorem dL_law_725 : decode code 725 = .ok (.goto 1165, 3) := by decide +kernel
theorem dL_law_728 : decode code 728 = .ok (.aload_n 1, 1) := by decide +kernel
theorem dL_law_729 : decode code 729 = .ok (.aload_n 0, 1) := by decide +kernel
theorem dL_law_730 : decode code 730 = .ok (.iload 4, 2) := by decide +kernel
theorem dL_law_732 : decode code 732 = .ok (.iconst 1, 1) := by decide +kernel
theorem dL_law_733 : decode code 733 = .ok (.iadd, 1) := by decide +kernel
theorem dL_law_734 : decode code 734 = .ok (.iaload, 1) := by decide +kernel
theorem dL_law_735 : decode code 735 = .ok (.aload_n 0, 1) := by decide +kernel
theorem dL_law_736 : decode code 736 = .ok (.iload 4, 2) := by decide +kernel
theorem dL_law_738 : decode code 738 = .ok (.iconst 2, 1) := by decide +kernel
theorem dL_law_739 : decode code 739 = .ok (.iadd, 1) := by decide +kernel
theorem dL_law_740 : decode code 740 = .ok (.iaload, 1) := by decide +kernel
theorem dL_law_741 : decode code 741 = .ok (.aload_n 0, 1) := by decide +kernel
theorem dL_law_742 : decode code 742 = .ok (.iload 4, 2) := by decide +kernel
theorem dL_law_744 : decode code 744 = .ok (.iconst 3, 1) := by decide +kernel
theorem dL_law_745 : decode code 745 = .ok (.iadd, 1) := by decide +kernel
theorem dL_law_746 : decode code 746 = .ok (.iaload, 1) := by decide +kernel
theorem dL_law_747 : decode code 747 = .ok (.aload_n 0, 1) := by decide +kernel
theorem dL_law_748 : decode code 748 = .ok (.iload 4, 2) := by decide +kernel
theorem dL_law_750 : decode code 750 = .ok (.iconst 4, 1) := by decide +kernel
theorem dL_law_751 : decode code 751 = .ok (.iadd, 1) := by decide +kernel
theorem dL_law_752 : decode code 752 = .ok (.iaload, 1) := by decide +kernel
theorem dL_law_753 : decode code 753 = .ok (.aload_n 3, 1) := by decide +kernel
theorem dL_law_754 : decode code 754 = .ok (.invokestatic 127, 3) := by decide +kernel
theorem dL_law_757 : decode code 757 = .ok (.istore 5, 2) := by decide +kernel
theorem dL_law_759 : decode code 759 = .ok (.aload_n 2, 1) := by decide +kernel
theorem dL_law_760 : decode code 760 = .ok (.aload_n 0, 1) := by decide +kernel
theorem dL_law_761 : decode code 761 = .ok (.iload 4, 2) := by decide +kernel
theorem dL_law_763 : decode code 763 = .ok (.iconst 1, 1) := by decide +kernel
theorem dL_law_764 : decode code 764 = .ok (.iadd, 1) := by decide +kernel
theorem dL_law_765 : decode code 765 = .ok (.iaload, 1) := by decide +kernel
theorem dL_law_766 : decode code 766 = .ok (.aload_n 0, 1) := by decide +kernel
theorem dL_law_767 : decode code 767 = .ok (.iload 4, 2) := by decide +kernel
theorem dL_law_769 : decode code 769 = .ok (.iconst 2, 1) := by decide +kernel
theorem dL_law_770 : decode code 770 = .ok (.iadd, 1) := by decide +kernel
theorem dL_law_771 : decode code 771 = .ok (.iaload, 1) := by decide +kernel
theorem dL_law_772 : decode code 772 = .ok (.aload_n 0, 1) := by decide +kernel
theorem dL_law_773 : decode code 773 = .ok (.iload 4, 2) := by decide +kernel
theorem dL_law_775 : decode code 775 = .ok (.iconst 3, 1) := by decide +kernel
theorem dL_law_776 : decode code 776 = .ok (.iadd, 1) := by decide +kernel
theorem dL_law_777 : decode code 777 = .ok (.iaload, 1) := by decide +kernel
theorem dL_law_778 : decode code 778 = .ok (.aload_n 0, 1) := by decide +kernel
theorem dL_law_779 : decode code 779 = .ok (.iload 4, 2) := by decide +kernel
theorem dL_law_781 : decode code 781 = .ok (.iconst 4, 1) := by decide +kernel
theorem dL_law_782 : decode code 782 = .ok (.iadd, 1) := by decide +kernel
theorem dL_law_783 : decode code 783 = .ok (.iaload, 1) := by decide +kernel
theorem dL_law_784 : decode code 784 = .ok (.invokevirtual 129, 3) := by decide +kernel
theorem dL_law_787 : decode code 787 = .ok (.istore 6, 2) := by decide +kernel
theorem dL_law_789 : decode code 789 = .ok (.aload_n 2, 1) := by decide +kernel
theorem dL_law_790 : decode code 790 = .ok (.invokevirtual 100, 3) := by decide +kernel
theorem dL_law_793 : decode code 793 = .ok (.iload 5, 2) := by decide +kernel
theorem dL_law_795 : decode code 795 = .ok (.if_icmp .eq 5, 3) := by decide +kernel
theorem dL_law_798 : decode code 798 = .ok (.iconst 0, 1) := by decide +kernel
theorem dL_law_799 : decode code 799 = .ok (.ireturn, 1) := by decide +kernel
theorem dL_law_800 : decode code 800 = .ok (.iload 5, 2) := by decide +kernel
theorem dL_law_802 : decode code 802 = .ok (.ifCond .ne 15, 3) := by decide +kernel
theorem dL_law_805 : decode code 805 = .ok (.aload_n 3, 1) := by decide +kernel
theorem dL_law_806 : decode code 806 = .ok (.iconst 0, 1) := by decide +kernel
theorem dL_law_807 : decode code 807 = .ok (.laload, 1) := by decide +kernel
theorem dL_law_808 : decode code 808 = .ok (.iload 6, 2) := by decide +kernel
theorem dL_law_810 : decode code 810 = .ok (.i2l, 1) := by decide +kernel
theorem dL_law_811 : decode code 811 = .ok (.lcmp, 1) := by decide +kernel
theorem dL_law_812 : decode code 812 = .ok (.ifCond .eq 5, 3) := by decide +kernel
theorem dL_law_815 : decode code 815 = .ok (.iconst 0, 1) := by decide +kernel
theorem dL_law_816 : decode code 816 = .ok (.ireturn, 1) := by decide +kernel
theorem dL_law_817 : decode code 817 = .ok (.goto 1073, 3) := by decide +kernel
theorem dL_law_820 : decode code 820 = .ok (.aload_n 1, 1) := by decide +kernel
theorem dL_law_821 : decode code 821 = .ok (.aload_n 0, 1) := by decide +kernel
theorem dL_law_822 : decode code 822 = .ok (.iload 4, 2) := by decide +kernel
theorem dL_law_824 : decode code 824 = .ok (.iconst 1, 1) := by decide +kernel
theorem dL_law_825 : decode code 825 = .ok (.iadd, 1) := by decide +kernel
theorem dL_law_826 : decode code 826 = .ok (.iaload, 1) := by decide +kernel
theorem dL_law_827 : decode code 827 = .ok (.aload_n 0, 1) := by decide +kernel
theorem dL_law_828 : decode code 828 = .ok (.iload 4, 2) := by decide +kernel
theorem dL_law_830 : decode code 830 = .ok (.iconst 2, 1) := by decide +kernel
theorem dL_law_831 : decode code 831 = .ok (.iadd, 1) := by decide +kernel
theorem dL_law_832 : decode code 832 = .ok (.iaload, 1) := by decide +kernel
theorem dL_law_833 : decode code 833 = .ok (.aload_n 0, 1) := by decide +kernel
theorem dL_law_834 : decode code 834 = .ok (.iload 4, 2) := by decide +kernel
theorem dL_law_836 : decode code 836 = .ok (.iconst 3, 1) := by decide +kernel
theorem dL_law_837 : decode code 837 = .ok (.iadd, 1) := by decide +kernel
theorem dL_law_838 : decode code 838 = .ok (.iaload, 1) := by decide +kernel
theorem dL_law_839 : decode code 839 = .ok (.aload_n 0, 1) := by decide +kernel
theorem dL_law_840 : decode code 840 = .ok (.iload 4, 2) := by decide +kernel
theorem dL_law_842 : decode code 842 = .ok (.iconst 4, 1) := by decide +kernel
theorem dL_law_843 : decode code 843 = .ok (.iadd, 1) := by decide +kernel
theorem dL_law_844 : decode code 844 = .ok (.iaload, 1) := by decide +kernel
theorem dL_law_845 : decode code 845 = .ok (.aload_n 3, 1) := by decide +kernel
theorem dL_law_846 : decode code 846 = .ok (.invokestatic 130, 3) := by decide +kernel
theorem dL_law_849 : decode code 849 = .ok (.istore 5, 2) := by decide +kernel
theorem dL_law_851 : decode code 851 = .ok (.aload_n 2, 1) := by decide +kernel
theorem dL_law_852 : decode code 852 = .ok (.aload_n 0, 1) := by decide +kernel
theorem dL_law_853 : decode code 853 = .ok (.iload 4, 2) := by decide +kernel
theorem dL_law_855 : decode code 855 = .ok (.iconst 1, 1) := by decide +kernel
theorem dL_law_856 : decode code 856 = .ok (.iadd, 1) := by decide +kernel
theorem dL_law_857 : decode code 857 = .ok (.iaload, 1) := by decide +kernel
theorem dL_law_858 : decode code 858 = .ok (.aload_n 0, 1) := by decide +kernel
theorem dL_law_859 : decode code 859 = .ok (.iload 4, 2) := by decide +kernel
theorem dL_law_861 : decode code 861 = .ok (.iconst 2, 1) := by decide +kernel
theorem dL_law_862 : decode code 862 = .ok (.iadd, 1) := by decide +kernel
theorem dL_law_863 : decode code 863 = .ok (.iaload, 1) := by decide +kernel
theorem dL_law_864 : decode code 864 = .ok (.aload_n 0, 1) := by decide +kernel
theorem dL_law_865 : decode code 865 = .ok (.iload 4, 2) := by decide +kernel
theorem dL_law_867 : decode code 867 = .ok (.iconst 3, 1) := by decide +kernel
theorem dL_law_868 : decode code 868 = .ok (.iadd, 1) := by decide +kernel
theorem dL_law_869 : decode code 869 = .ok (.iaload, 1) := by decide +kernel
theorem dL_law_870 : decode code 870 = .ok (.aload_n 0, 1) := by decide +kernel
theorem dL_law_871 : decode code 871 = .ok (.iload 4, 2) := by decide +kernel
theorem dL_law_873 : decode code 873 = .ok (.iconst 4, 1) := by decide +kernel
theorem dL_law_874 : decode code 874 = .ok (.iadd, 1) := by decide +kernel
theorem dL_law_875 : decode code 875 = .ok (.iaload, 1) := by decide +kernel
theorem dL_law_876 : decode code 876 = .ok (.invokevirtual 132, 3) := by decide +kernel
theorem dL_law_879 : decode code 879 = .ok (.istore 6, 2) := by decide +kernel
theorem dL_law_881 : decode code 881 = .ok (.aload_n 2, 1) := by decide +kernel
theorem dL_law_882 : decode code 882 = .ok (.invokevirtual 100, 3) := by decide +kernel
theorem dL_law_885 : decode code 885 = .ok (.iload 5, 2) := by decide +kernel
theorem dL_law_887 : decode code 887 = .ok (.if_icmp .eq 5, 3) := by decide +kernel
theorem dL_law_890 : decode code 890 = .ok (.iconst 0, 1) := by decide +kernel
theorem dL_law_891 : decode code 891 = .ok (.ireturn, 1) := by decide +kernel
theorem dL_law_892 : decode code 892 = .ok (.iload 5, 2) := by decide +kernel
theorem dL_law_894 : decode code 894 = .ok (.ifCond .ne 15, 3) := by decide +kernel
theorem dL_law_897 : decode code 897 = .ok (.aload_n 3, 1) := by decide +kernel
theorem dL_law_898 : decode code 898 = .ok (.iconst 0, 1) := by decide +kernel
theorem dL_law_899 : decode code 899 = .ok (.laload, 1) := by decide +kernel
theorem dL_law_900 : decode code 900 = .ok (.iload 6, 2) := by decide +kernel
theorem dL_law_902 : decode code 902 = .ok (.i2l, 1) := by decide +kernel
theorem dL_law_903 : decode code 903 = .ok (.lcmp, 1) := by decide +kernel
theorem dL_law_904 : decode code 904 = .ok (.ifCond .eq 5, 3) := by decide +kernel
theorem dL_law_907 : decode code 907 = .ok (.iconst 0, 1) := by decide +kernel
theorem dL_law_908 : decode code 908 = .ok (.ireturn, 1) := by decide +kernel
theorem dL_law_909 : decode code 909 = .ok (.goto 981, 3) := by decide +kernel
theorem dL_law_912 : decode code 912 = .ok (.aload_n 1, 1) := by decide +kernel
theorem dL_law_913 : decode code 913 = .ok (.aload_n 0, 1) := by decide +kernel
theorem dL_law_914 : decode code 914 = .ok (.iload 4, 2) := by decide +kernel
theorem dL_law_916 : decode code 916 = .ok (.iconst 1, 1) := by decide +kernel
theorem dL_law_917 : decode code 917 = .ok (.iadd, 1) := by decide +kernel
theorem dL_law_918 : decode code 918 = .ok (.iaload, 1) := by decide +kernel
theorem dL_law_919 : decode code 919 = .ok (.aload_n 0, 1) := by decide +kernel
theorem dL_law_920 : decode code 920 = .ok (.iload 4, 2) := by decide +kernel
theorem dL_law_922 : decode code 922 = .ok (.iconst 2, 1) := by decide +kernel
theorem dL_law_923 : decode code 923 = .ok (.iadd, 1) := by decide +kernel
theorem dL_law_924 : decode code 924 = .ok (.iaload, 1) := by decide +kernel
theorem dL_law_925 : decode code 925 = .ok (.aload_n 0, 1) := by decide +kernel
theorem dL_law_926 : decode code 926 = .ok (.iload 4, 2) := by decide +kernel
theorem dL_law_928 : decode code 928 = .ok (.iconst 3, 1) := by decide +kernel
theorem dL_law_929 : decode code 929 = .ok (.iadd, 1) := by decide +kernel
theorem dL_law_930 : decode code 930 = .ok (.iaload, 1) := by decide +kernel
theorem dL_law_931 : decode code 931 = .ok (.aload_n 0, 1) := by decide +kernel
theorem dL_law_932 : decode code 932 = .ok (.iload 4, 2) := by decide +kernel
theorem dL_law_934 : decode code 934 = .ok (.iconst 4, 1) := by decide +kernel
theorem dL_law_935 : decode code 935 = .ok (.iadd, 1) := by decide +kernel
theorem dL_law_936 : decode code 936 = .ok (.iaload, 1) := by decide +kernel
theorem dL_law_937 : decode code 937 = .ok (.aload_n 0, 1) := by decide +kernel
theorem dL_law_938 : decode code 938 = .ok (.iload 4, 2) := by decide +kernel
theorem dL_law_940 : decode code 940 = .ok (.iconst 5, 1) := by decide +kernel
theorem dL_law_941 : decode code 941 = .ok (.iadd, 1) := by decide +kernel
theorem dL_law_942 : decode code 942 = .ok (.iaload, 1) := by decide +kernel
theorem dL_law_943 : decode code 943 = .ok (.aload_n 3, 1) := by decide +kernel
theorem dL_law_944 : decode code 944 = .ok (.invokestatic 133, 3) := by decide +kernel
theorem dL_law_947 : decode code 947 = .ok (.istore 5, 2) := by decide +kernel
theorem dL_law_949 : decode code 949 = .ok (.aload_n 2, 1) := by decide +kernel
theorem dL_law_950 : decode code 950 = .ok (.aload_n 0, 1) := by decide +kernel
theorem dL_law_951 : decode code 951 = .ok (.iload 4, 2) := by decide +kernel
theorem dL_law_953 : decode code 953 = .ok (.iconst 1, 1) := by decide +kernel
theorem dL_law_954 : decode code 954 = .ok (.iadd, 1) := by decide +kernel
theorem dL_law_955 : decode code 955 = .ok (.iaload, 1) := by decide +kernel
theorem dL_law_956 : decode code 956 = .ok (.aload_n 0, 1) := by decide +kernel
theorem dL_law_957 : decode code 957 = .ok (.iload 4, 2) := by decide +kernel
theorem dL_law_959 : decode code 959 = .ok (.iconst 2, 1) := by decide +kernel
theorem dL_law_960 : decode code 960 = .ok (.iadd, 1) := by decide +kernel
theorem dL_law_961 : decode code 961 = .ok (.iaload, 1) := by decide +kernel
theorem dL_law_962 : decode code 962 = .ok (.aload_n 0, 1) := by decide +kernel
theorem dL_law_963 : decode code 963 = .ok (.iload 4, 2) := by decide +kernel
theorem dL_law_965 : decode code 965 = .ok (.iconst 3, 1) := by decide +kernel
theorem dL_law_966 : decode code 966 = .ok (.iadd, 1) := by decide +kernel
theorem dL_law_967 : decode code 967 = .ok (.iaload, 1) := by decide +kernel
theorem dL_law_968 : decode code 968 = .ok (.aload_n 0, 1) := by decide +kernel
theorem dL_law_969 : decode code 969 = .ok (.iload 4, 2) := by decide +kernel
theorem dL_law_971 : decode code 971 = .ok (.iconst 4, 1) := by decide +kernel
theorem dL_law_972 : decode code 972 = .ok (.iadd, 1) := by decide +kernel
theorem dL_law_973 : decode code 973 = .ok (.iaload, 1) := by decide +kernel
theorem dL_law_974 : decode code 974 = .ok (.aload_n 0, 1) := by decide +kernel
theorem dL_law_975 : decode code 975 = .ok (.iload 4, 2) := by decide +kernel
theorem dL_law_977 : decode code 977 = .ok (.iconst 5, 1) := by decide +kernel
theorem dL_law_978 : decode code 978 = .ok (.iadd, 1) := by decide +kernel
theorem dL_law_979 : decode code 979 = .ok (.iaload, 1) := by decide +kernel
theorem dL_law_980 : decode code 980 = .ok (.invokevirtual 135, 3) := by decide +kernel
theorem dL_law_983 : decode code 983 = .ok (.istore 6, 2) := by decide +kernel
theorem dL_law_985 : decode code 985 = .ok (.aload_n 2, 1) := by decide +kernel
theorem dL_law_986 : decode code 986 = .ok (.invokevirtual 100, 3) := by decide +kernel
theorem dL_law_989 : decode code 989 = .ok (.iload 5, 2) := by decide +kernel
theorem dL_law_991 : decode code 991 = .ok (.if_icmp .eq 5, 3) := by decide +kernel
theorem dL_law_994 : decode code 994 = .ok (.iconst 0, 1) := by decide +kernel
theorem dL_law_995 : decode code 995 = .ok (.ireturn, 1) := by decide +kernel
theorem dL_law_996 : decode code 996 = .ok (.iload 5, 2) := by decide +kernel
theorem dL_law_998 : decode code 998 = .ok (.ifCond .ne 22, 3) := by decide +kernel
theorem dL_law_1001 : decode code 1001 = .ok (.aload_n 3, 1) := by decide +kernel
theorem dL_law_1002 : decode code 1002 = .ok (.iconst 0, 1) := by decide +kernel
theorem dL_law_1003 : decode code 1003 = .ok (.laload, 1) := by decide +kernel
theorem dL_law_1004 : decode code 1004 = .ok (.iload 6, 2) := by decide +kernel
theorem dL_law_1006 : decode code 1006 = .ok (.ifCond .eq 7, 3) := by decide +kernel
theorem dL_law_1009 : decode code 1009 = .ok (.lconst 1, 1) := by decide +kernel
theorem dL_law_1010 : decode code 1010 = .ok (.goto 4, 3) := by decide +kernel
theorem dL_law_1013 : decode code 1013 = .ok (.lconst 0, 1) := by decide +kernel
theorem dL_law_1014 : decode code 1014 = .ok (.lcmp, 1) := by decide +kernel
theorem dL_law_1015 : decode code 1015 = .ok (.ifCond .eq 5, 3) := by decide +kernel
theorem dL_law_1018 : decode code 1018 = .ok (.iconst 0, 1) := by decide +kernel
end
section
theorem dL_law_1019 : decode code 1019 = .ok (.ireturn, 1) := by decide +kernel
theorem dL_law_1020 : decode code 1020 = .ok (.goto 870, 3) := by decide +kernel
theorem dL_law_1023 : decode code 1023 = .ok (.aload_n 1, 1) := by decide +kernel
theorem dL_law_1024 : decode code 1024 = .ok (.aload_n 0, 1) := by decide +kernel
theorem dL_law_1025 : decode code 1025 = .ok (.iload 4, 2) := by decide +kernel
theorem dL_law_1027 : decode code 1027 = .ok (.iconst 1, 1) := by decide +kernel
theorem dL_law_1028 : decode code 1028 = .ok (.iadd, 1) := by decide +kernel
theorem dL_law_1029 : decode code 1029 = .ok (.iaload, 1) := by decide +kernel
theorem dL_law_1030 : decode code 1030 = .ok (.aload_n 0, 1) := by decide +kernel
theorem dL_law_1031 : decode code 1031 = .ok (.iload 4, 2) := by decide +kernel
theorem dL_law_1033 : decode code 1033 = .ok (.iconst 2, 1) := by decide +kernel
theorem dL_law_1034 : decode code 1034 = .ok (.iadd, 1) := by decide +kernel
theorem dL_law_1035 : decode code 1035 = .ok (.iaload, 1) := by decide +kernel
theorem dL_law_1036 : decode code 1036 = .ok (.aload_n 0, 1) := by decide +kernel
theorem dL_law_1037 : decode code 1037 = .ok (.iload 4, 2) := by decide +kernel
theorem dL_law_1039 : decode code 1039 = .ok (.iconst 3, 1) := by decide +kernel
theorem dL_law_1040 : decode code 1040 = .ok (.iadd, 1) := by decide +kernel
theorem dL_law_1041 : decode code 1041 = .ok (.iaload, 1) := by decide +kernel
theorem dL_law_1042 : decode code 1042 = .ok (.aload_n 0, 1) := by decide +kernel
theorem dL_law_1043 : decode code 1043 = .ok (.iload 4, 2) := by decide +kernel
theorem dL_law_1045 : decode code 1045 = .ok (.iconst 4, 1) := by decide +kernel
theorem dL_law_1046 : decode code 1046 = .ok (.iadd, 1) := by decide +kernel
theorem dL_law_1047 : decode code 1047 = .ok (.iaload, 1) := by decide +kernel
theorem dL_law_1048 : decode code 1048 = .ok (.aload_n 3, 1) := by decide +kernel
theorem dL_law_1049 : decode code 1049 = .ok (.invokestatic 136, 3) := by decide +kernel
theorem dL_law_1052 : decode code 1052 = .ok (.istore 5, 2) := by decide +kernel
theorem dL_law_1054 : decode code 1054 = .ok (.aload_n 2, 1) := by decide +kernel
theorem dL_law_1055 : decode code 1055 = .ok (.aload_n 0, 1) := by decide +kernel
theorem dL_law_1056 : decode code 1056 = .ok (.iload 4, 2) := by decide +kernel
theorem dL_law_1058 : decode code 1058 = .ok (.iconst 1, 1) := by decide +kernel
theorem dL_law_1059 : decode code 1059 = .ok (.iadd, 1) := by decide +kernel
theorem dL_law_1060 : decode code 1060 = .ok (.iaload, 1) := by decide +kernel
theorem dL_law_1061 : decode code 1061 = .ok (.aload_n 0, 1) := by decide +kernel
theorem dL_law_1062 : decode code 1062 = .ok (.iload 4, 2) := by decide +kernel
theorem dL_law_1064 : decode code 1064 = .ok (.iconst 2, 1) := by decide +kernel
theorem dL_law_1065 : decode code 1065 = .ok (.iadd, 1) := by decide +kernel
theorem dL_law_1066 : decode code 1066 = .ok (.iaload, 1) := by decide +kernel
theorem dL_law_1067 : decode code 1067 = .ok (.aload_n 0, 1) := by decide +kernel
theorem dL_law_1068 : decode code 1068 = .ok (.iload 4, 2) := by decide +kernel
theorem dL_law_1070 : decode code 1070 = .ok (.iconst 3, 1) := by decide +kernel
theorem dL_law_1071 : decode code 1071 = .ok (.iadd, 1) := by decide +kernel
theorem dL_law_1072 : decode code 1072 = .ok (.iaload, 1) := by decide +kernel
theorem dL_law_1073 : decode code 1073 = .ok (.aload_n 0, 1) := by decide +kernel
theorem dL_law_1074 : decode code 1074 = .ok (.iload 4, 2) := by decide +kernel
theorem dL_law_1076 : decode code 1076 = .ok (.iconst 4, 1) := by decide +kernel
theorem dL_law_1077 : decode code 1077 = .ok (.iadd, 1) := by decide +kernel
theorem dL_law_1078 : decode code 1078 = .ok (.iaload, 1) := by decide +kernel
theorem dL_law_1079 : decode code 1079 = .ok (.invokevirtual 138, 3) := by decide +kernel
theorem dL_law_1082 : decode code 1082 = .ok (.istore 6, 2) := by decide +kernel
theorem dL_law_1084 : decode code 1084 = .ok (.aload_n 2, 1) := by decide +kernel
theorem dL_law_1085 : decode code 1085 = .ok (.invokevirtual 100, 3) := by decide +kernel
theorem dL_law_1088 : decode code 1088 = .ok (.iload 5, 2) := by decide +kernel
theorem dL_law_1090 : decode code 1090 = .ok (.if_icmp .eq 5, 3) := by decide +kernel
theorem dL_law_1093 : decode code 1093 = .ok (.iconst 0, 1) := by decide +kernel
theorem dL_law_1094 : decode code 1094 = .ok (.ireturn, 1) := by decide +kernel
theorem dL_law_1095 : decode code 1095 = .ok (.iload 5, 2) := by decide +kernel
theorem dL_law_1097 : decode code 1097 = .ok (.ifCond .ne 15, 3) := by decide +kernel
theorem dL_law_1100 : decode code 1100 = .ok (.aload_n 3, 1) := by decide +kernel
theorem dL_law_1101 : decode code 1101 = .ok (.iconst 0, 1) := by decide +kernel
theorem dL_law_1102 : decode code 1102 = .ok (.laload, 1) := by decide +kernel
theorem dL_law_1103 : decode code 1103 = .ok (.iload 6, 2) := by decide +kernel
theorem dL_law_1105 : decode code 1105 = .ok (.i2l, 1) := by decide +kernel
theorem dL_law_1106 : decode code 1106 = .ok (.lcmp, 1) := by decide +kernel
theorem dL_law_1107 : decode code 1107 = .ok (.ifCond .eq 5, 3) := by decide +kernel
theorem dL_law_1110 : decode code 1110 = .ok (.iconst 0, 1) := by decide +kernel
theorem dL_law_1111 : decode code 1111 = .ok (.ireturn, 1) := by decide +kernel
theorem dL_law_1112 : decode code 1112 = .ok (.goto 778, 3) := by decide +kernel
theorem dL_law_1115 : decode code 1115 = .ok (.aload_n 1, 1) := by decide +kernel
theorem dL_law_1116 : decode code 1116 = .ok (.aload_n 0, 1) := by decide +kernel
theorem dL_law_1117 : decode code 1117 = .ok (.iload 4, 2) := by decide +kernel
theorem dL_law_1119 : decode code 1119 = .ok (.iconst 1, 1) := by decide +kernel
theorem dL_law_1120 : decode code 1120 = .ok (.iadd, 1) := by decide +kernel
theorem dL_law_1121 : decode code 1121 = .ok (.iaload, 1) := by decide +kernel
theorem dL_law_1122 : decode code 1122 = .ok (.aload_n 0, 1) := by decide +kernel
theorem dL_law_1123 : decode code 1123 = .ok (.iload 4, 2) := by decide +kernel
theorem dL_law_1125 : decode code 1125 = .ok (.iconst 2, 1) := by decide +kernel
theorem dL_law_1126 : decode code 1126 = .ok (.iadd, 1) := by decide +kernel
theorem dL_law_1127 : decode code 1127 = .ok (.iaload, 1) := by decide +kernel
theorem dL_law_1128 : decode code 1128 = .ok (.aload_n 0, 1) := by decide +kernel
theorem dL_law_1129 : decode code 1129 = .ok (.iload 4, 2) := by decide +kernel
theorem dL_law_1131 : decode code 1131 = .ok (.iconst 3, 1) := by decide +kernel
theorem dL_law_1132 : decode code 1132 = .ok (.iadd, 1) := by decide +kernel
theorem dL_law_1133 : decode code 1133 = .ok (.iaload, 1) := by decide +kernel
theorem dL_law_1134 : decode code 1134 = .ok (.aload_n 0, 1) := by decide +kernel
theorem dL_law_1135 : decode code 1135 = .ok (.iload 4, 2) := by decide +kernel
theorem dL_law_1137 : decode code 1137 = .ok (.iconst 4, 1) := by decide +kernel
theorem dL_law_1138 : decode code 1138 = .ok (.iadd, 1) := by decide +kernel
theorem dL_law_1139 : decode code 1139 = .ok (.iaload, 1) := by decide +kernel
theorem dL_law_1140 : decode code 1140 = .ok (.aload_n 3, 1) := by decide +kernel
theorem dL_law_1141 : decode code 1141 = .ok (.invokestatic 139, 3) := by decide +kernel
theorem dL_law_1144 : decode code 1144 = .ok (.istore 5, 2) := by decide +kernel
theorem dL_law_1146 : decode code 1146 = .ok (.aload_n 2, 1) := by decide +kernel
theorem dL_law_1147 : decode code 1147 = .ok (.aload_n 0, 1) := by decide +kernel
theorem dL_law_1148 : decode code 1148 = .ok (.iload 4, 2) := by decide +kernel
theorem dL_law_1150 : decode code 1150 = .ok (.iconst 1, 1) := by decide +kernel
theorem dL_law_1151 : decode code 1151 = .ok (.iadd, 1) := by decide +kernel
theorem dL_law_1152 : decode code 1152 = .ok (.iaload, 1) := by decide +kernel
theorem dL_law_1153 : decode code 1153 = .ok (.aload_n 0, 1) := by decide +kernel
theorem dL_law_1154 : decode code 1154 = .ok (.iload 4, 2) := by decide +kernel
theorem dL_law_1156 : decode code 1156 = .ok (.iconst 2, 1) := by decide +kernel
theorem dL_law_1157 : decode code 1157 = .ok (.iadd, 1) := by decide +kernel
theorem dL_law_1158 : decode code 1158 = .ok (.iaload, 1) := by decide +kernel
theorem dL_law_1159 : decode code 1159 = .ok (.aload_n 0, 1) := by decide +kernel
theorem dL_law_1160 : decode code 1160 = .ok (.iload 4, 2) := by decide +kernel
theorem dL_law_1162 : decode code 1162 = .ok (.iconst 3, 1) := by decide +kernel
theorem dL_law_1163 : decode code 1163 = .ok (.iadd, 1) := by decide +kernel
theorem dL_law_1164 : decode code 1164 = .ok (.iaload, 1) := by decide +kernel
theorem dL_law_1165 : decode code 1165 = .ok (.aload_n 0, 1) := by decide +kernel
theorem dL_law_1166 : decode code 1166 = .ok (.iload 4, 2) := by decide +kernel
theorem dL_law_1168 : decode code 1168 = .ok (.iconst 4, 1) := by decide +kernel
theorem dL_law_1169 : decode code 1169 = .ok (.iadd, 1) := by decide +kernel
theorem dL_law_1170 : decode code 1170 = .ok (.iaload, 1) := by decide +kernel
theorem dL_law_1171 : decode code 1171 = .ok (.invokevirtual 141, 3) := by decide +kernel
theorem dL_law_1174 : decode code 1174 = .ok (.istore 6, 2) := by decide +kernel
theorem dL_law_1176 : decode code 1176 = .ok (.aload_n 2, 1) := by decide +kernel
theorem dL_law_1177 : decode code 1177 = .ok (.invokevirtual 100, 3) := by decide +kernel
theorem dL_law_1180 : decode code 1180 = .ok (.iload 5, 2) := by decide +kernel
theorem dL_law_1182 : decode code 1182 = .ok (.if_icmp .eq 5, 3) := by decide +kernel
theorem dL_law_1185 : decode code 1185 = .ok (.iconst 0, 1) := by decide +kernel
theorem dL_law_1186 : decode code 1186 = .ok (.ireturn, 1) := by decide +kernel
theorem dL_law_1187 : decode code 1187 = .ok (.iload 5, 2) := by decide +kernel
theorem dL_law_1189 : decode code 1189 = .ok (.ifCond .ne 15, 3) := by decide +kernel
theorem dL_law_1192 : decode code 1192 = .ok (.aload_n 3, 1) := by decide +kernel
theorem dL_law_1193 : decode code 1193 = .ok (.iconst 0, 1) := by decide +kernel
theorem dL_law_1194 : decode code 1194 = .ok (.laload, 1) := by decide +kernel
theorem dL_law_1195 : decode code 1195 = .ok (.iload 6, 2) := by decide +kernel
theorem dL_law_1197 : decode code 1197 = .ok (.i2l, 1) := by decide +kernel
theorem dL_law_1198 : decode code 1198 = .ok (.lcmp, 1) := by decide +kernel
theorem dL_law_1199 : decode code 1199 = .ok (.ifCond .eq 5, 3) := by decide +kernel
theorem dL_law_1202 : decode code 1202 = .ok (.iconst 0, 1) := by decide +kernel
theorem dL_law_1203 : decode code 1203 = .ok (.ireturn, 1) := by decide +kernel
theorem dL_law_1204 : decode code 1204 = .ok (.goto 686, 3) := by decide +kernel
theorem dL_law_1207 : decode code 1207 = .ok (.aload_n 1, 1) := by decide +kernel
theorem dL_law_1208 : decode code 1208 = .ok (.aload_n 0, 1) := by decide +kernel
theorem dL_law_1209 : decode code 1209 = .ok (.iload 4, 2) := by decide +kernel
theorem dL_law_1211 : decode code 1211 = .ok (.iconst 1, 1) := by decide +kernel
theorem dL_law_1212 : decode code 1212 = .ok (.iadd, 1) := by decide +kernel
theorem dL_law_1213 : decode code 1213 = .ok (.iaload, 1) := by decide +kernel
theorem dL_law_1214 : decode code 1214 = .ok (.aload_n 0, 1) := by decide +kernel
theorem dL_law_1215 : decode code 1215 = .ok (.iload 4, 2) := by decide +kernel
theorem dL_law_1217 : decode code 1217 = .ok (.iconst 2, 1) := by decide +kernel
theorem dL_law_1218 : decode code 1218 = .ok (.iadd, 1) := by decide +kernel
theorem dL_law_1219 : decode code 1219 = .ok (.iaload, 1) := by decide +kernel
theorem dL_law_1220 : decode code 1220 = .ok (.aload_n 0, 1) := by decide +kernel
theorem dL_law_1221 : decode code 1221 = .ok (.iload 4, 2) := by decide +kernel
theorem dL_law_1223 : decode code 1223 = .ok (.iconst 3, 1) := by decide +kernel
theorem dL_law_1224 : decode code 1224 = .ok (.iadd, 1) := by decide +kernel
theorem dL_law_1225 : decode code 1225 = .ok (.iaload, 1) := by decide +kernel
theorem dL_law_1226 : decode code 1226 = .ok (.aload_n 3, 1) := by decide +kernel
theorem dL_law_1227 : decode code 1227 = .ok (.invokestatic 142, 3) := by decide +kernel
theorem dL_law_1230 : decode code 1230 = .ok (.istore 5, 2) := by decide +kernel
theorem dL_law_1232 : decode code 1232 = .ok (.aload_n 2, 1) := by decide +kernel
theorem dL_law_1233 : decode code 1233 = .ok (.aload_n 0, 1) := by decide +kernel
theorem dL_law_1234 : decode code 1234 = .ok (.iload 4, 2) := by decide +kernel
theorem dL_law_1236 : decode code 1236 = .ok (.iconst 1, 1) := by decide +kernel
theorem dL_law_1237 : decode code 1237 = .ok (.iadd, 1) := by decide +kernel
theorem dL_law_1238 : decode code 1238 = .ok (.iaload, 1) := by decide +kernel
theorem dL_law_1239 : decode code 1239 = .ok (.aload_n 0, 1) := by decide +kernel
theorem dL_law_1240 : decode code 1240 = .ok (.iload 4, 2) := by decide +kernel
theorem dL_law_1242 : decode code 1242 = .ok (.iconst 2, 1) := by decide +kernel
theorem dL_law_1243 : decode code 1243 = .ok (.iadd, 1) := by decide +kernel
theorem dL_law_1244 : decode code 1244 = .ok (.iaload, 1) := by decide +kernel
theorem dL_law_1245 : decode code 1245 = .ok (.aload_n 0, 1) := by decide +kernel
theorem dL_law_1246 : decode code 1246 = .ok (.iload 4, 2) := by decide +kernel
theorem dL_law_1248 : decode code 1248 = .ok (.iconst 3, 1) := by decide +kernel
theorem dL_law_1249 : decode code 1249 = .ok (.iadd, 1) := by decide +kernel
theorem dL_law_1250 : decode code 1250 = .ok (.iaload, 1) := by decide +kernel
theorem dL_law_1251 : decode code 1251 = .ok (.invokevirtual 144, 3) := by decide +kernel
theorem dL_law_1254 : decode code 1254 = .ok (.lstore 6, 2) := by decide +kernel
theorem dL_law_1256 : decode code 1256 = .ok (.aload_n 2, 1) := by decide +kernel
theorem dL_law_1257 : decode code 1257 = .ok (.invokevirtual 100, 3) := by decide +kernel
theorem dL_law_1260 : decode code 1260 = .ok (.iload 5, 2) := by decide +kernel
theorem dL_law_1262 : decode code 1262 = .ok (.if_icmp .eq 5, 3) := by decide +kernel
theorem dL_law_1265 : decode code 1265 = .ok (.iconst 0, 1) := by decide +kernel
theorem dL_law_1266 : decode code 1266 = .ok (.ireturn, 1) := by decide +kernel
theorem dL_law_1267 : decode code 1267 = .ok (.iload 5, 2) := by decide +kernel
theorem dL_law_1269 : decode code 1269 = .ok (.ifCond .ne 14, 3) := by decide +kernel
theorem dL_law_1272 : decode code 1272 = .ok (.aload_n 3, 1) := by decide +kernel
theorem dL_law_1273 : decode code 1273 = .ok (.iconst 0, 1) := by decide +kernel
theorem dL_law_1274 : decode code 1274 = .ok (.laload, 1) := by decide +kernel
theorem dL_law_1275 : decode code 1275 = .ok (.lload 6, 2) := by decide +kernel
theorem dL_law_1277 : decode code 1277 = .ok (.lcmp, 1) := by decide +kernel
theorem dL_law_1278 : decode code 1278 = .ok (.ifCond .eq 5, 3) := by decide +kernel
theorem dL_law_1281 : decode code 1281 = .ok (.iconst 0, 1) := by decide +kernel
theorem dL_law_1282 : decode code 1282 = .ok (.ireturn, 1) := by decide +kernel
theorem dL_law_1283 : decode code 1283 = .ok (.goto 607, 3) := by decide +kernel
theorem dL_law_1286 : decode code 1286 = .ok (.aload_n 1, 1) := by decide +kernel
theorem dL_law_1287 : decode code 1287 = .ok (.aload_n 0, 1) := by decide +kernel
theorem dL_law_1288 : decode code 1288 = .ok (.iload 4, 2) := by decide +kernel
theorem dL_law_1290 : decode code 1290 = .ok (.iconst 1, 1) := by decide +kernel
theorem dL_law_1291 : decode code 1291 = .ok (.iadd, 1) := by decide +kernel
theorem dL_law_1292 : decode code 1292 = .ok (.iaload, 1) := by decide +kernel
theorem dL_law_1293 : decode code 1293 = .ok (.i2l, 1) := by decide +kernel
theorem dL_law_1294 : decode code 1294 = .ok (.bipush 32, 2) := by decide +kernel
theorem dL_law_1296 : decode code 1296 = .ok (.lshl, 1) := by decide +kernel
theorem dL_law_1297 : decode code 1297 = .ok (.aload_n 0, 1) := by decide +kernel
theorem dL_law_1298 : decode code 1298 = .ok (.iload 4, 2) := by decide +kernel
theorem dL_law_1300 : decode code 1300 = .ok (.iconst 2, 1) := by decide +kernel
theorem dL_law_1301 : decode code 1301 = .ok (.iadd, 1) := by decide +kernel
theorem dL_law_1302 : decode code 1302 = .ok (.iaload, 1) := by decide +kernel
theorem dL_law_1303 : decode code 1303 = .ok (.i2l, 1) := by decide +kernel
theorem dL_law_1304 : decode code 1304 = .ok (.ldc2_w 92, 3) := by decide +kernel
theorem dL_law_1307 : decode code 1307 = .ok (.land, 1) := by decide +kernel
theorem dL_law_1308 : decode code 1308 = .ok (.lor, 1) := by decide +kernel
theorem dL_law_1309 : decode code 1309 = .ok (.aload_n 0, 1) := by decide +kernel
theorem dL_law_1310 : decode code 1310 = .ok (.iload 4, 2) := by decide +kernel
theorem dL_law_1312 : decode code 1312 = .ok (.iconst 3, 1) := by decide +kernel
theorem dL_law_1313 : decode code 1313 = .ok (.iadd, 1) := by decide +kernel
theorem dL_law_1314 : decode code 1314 = .ok (.iaload, 1) := by decide +kernel
theorem dL_law_1315 : decode code 1315 = .ok (.i2l, 1) := by decide +kernel
theorem dL_law_1316 : decode code 1316 = .ok (.bipush 32, 2) := by decide +kernel
theorem dL_law_1318 : decode code 1318 = .ok (.lshl, 1) := by decide +kernel
theorem dL_law_1319 : decode code 1319 = .ok (.aload_n 0, 1) := by decide +kernel
theorem dL_law_1320 : decode code 1320 = .ok (.iload 4, 2) := by decide +kernel
theorem dL_law_1322 : decode code 1322 = .ok (.iconst 4, 1) := by decide +kernel
theorem dL_law_1323 : decode code 1323 = .ok (.iadd, 1) := by decide +kernel
theorem dL_law_1324 : decode code 1324 = .ok (.iaload, 1) := by decide +kernel
theorem dL_law_1325 : decode code 1325 = .ok (.i2l, 1) := by decide +kernel
theorem dL_law_1326 : decode code 1326 = .ok (.ldc2_w 92, 3) := by decide +kernel
theorem dL_law_1329 : decode code 1329 = .ok (.land, 1) := by decide +kernel
theorem dL_law_1330 : decode code 1330 = .ok (.lor, 1) := by decide +kernel
theorem dL_law_1331 : decode code 1331 = .ok (.aload_n 0, 1) := by decide +kernel
theorem dL_law_1332 : decode code 1332 = .ok (.iload 4, 2) := by decide +kernel
theorem dL_law_1334 : decode code 1334 = .ok (.iconst 5, 1) := by decide +kernel
theorem dL_law_1335 : decode code 1335 = .ok (.iadd, 1) := by decide +kernel
theorem dL_law_1336 : decode code 1336 = .ok (.iaload, 1) := by decide +kernel
theorem dL_law_1337 : decode code 1337 = .ok (.invokestatic 145, 3) := by decide +kernel
theorem dL_law_1340 : decode code 1340 = .ok (.istore 5, 2) := by decide +kernel
theorem dL_law_1342 : decode code 1342 = .ok (.aload_n 2, 1) := by decide +kernel
theorem dL_law_1343 : decode code 1343 = .ok (.aload_n 0, 1) := by decide +kernel
theorem dL_law_1344 : decode code 1344 = .ok (.iload 4, 2) := by decide +kernel
theorem dL_law_1346 : decode code 1346 = .ok (.iconst 1, 1) := by decide +kernel
theorem dL_law_1347 : decode code 1347 = .ok (.iadd, 1) := by decide +kernel
theorem dL_law_1348 : decode code 1348 = .ok (.iaload, 1) := by decide +kernel
theorem dL_law_1349 : decode code 1349 = .ok (.i2l, 1) := by decide +kernel
theorem dL_law_1350 : decode code 1350 = .ok (.bipush 32, 2) := by decide +kernel
theorem dL_law_1352 : decode code 1352 = .ok (.lshl, 1) := by decide +kernel
theorem dL_law_1353 : decode code 1353 = .ok (.aload_n 0, 1) := by decide +kernel
theorem dL_law_1354 : decode code 1354 = .ok (.iload 4, 2) := by decide +kernel
theorem dL_law_1356 : decode code 1356 = .ok (.iconst 2, 1) := by decide +kernel
theorem dL_law_1357 : decode code 1357 = .ok (.iadd, 1) := by decide +kernel
theorem dL_law_1358 : decode code 1358 = .ok (.iaload, 1) := by decide +kernel
theorem dL_law_1359 : decode code 1359 = .ok (.i2l, 1) := by decide +kernel
theorem dL_law_1360 : decode code 1360 = .ok (.ldc2_w 92, 3) := by decide +kernel
theorem dL_law_1363 : decode code 1363 = .ok (.land, 1) := by decide +kernel
theorem dL_law_1364 : decode code 1364 = .ok (.lor, 1) := by decide +kernel
theorem dL_law_1365 : decode code 1365 = .ok (.aload_n 0, 1) := by decide +kernel
theorem dL_law_1366 : decode code 1366 = .ok (.iload 4, 2) := by decide +kernel
theorem dL_law_1368 : decode code 1368 = .ok (.iconst 3, 1) := by decide +kernel
theorem dL_law_1369 : decode code 1369 = .ok (.iadd, 1) := by decide +kernel
theorem dL_law_1370 : decode code 1370 = .ok (.iaload, 1) := by decide +kernel
theorem dL_law_1371 : decode code 1371 = .ok (.i2l, 1) := by decide +kernel
theorem dL_law_1372 : decode code 1372 = .ok (.bipush 32, 2) := by decide +kernel
theorem dL_law_1374 : decode code 1374 = .ok (.lshl, 1) := by decide +kernel
theorem dL_law_1375 : decode code 1375 = .ok (.aload_n 0, 1) := by decide +kernel
theorem dL_law_1376 : decode code 1376 = .ok (.iload 4, 2) := by decide +kernel
theorem dL_law_1378 : decode code 1378 = .ok (.iconst 4, 1) := by decide +kernel
theorem dL_law_1379 : decode code 1379 = .ok (.iadd, 1) := by decide +kernel
theorem dL_law_1380 : decode code 1380 = .ok (.iaload, 1) := by decide +kernel
theorem dL_law_1381 : decode code 1381 = .ok (.i2l, 1) := by decide +kernel
theorem dL_law_1382 : decode code 1382 = .ok (.ldc2_w 92, 3) := by decide +kernel
theorem dL_law_1385 : decode code 1385 = .ok (.land, 1) := by decide +kernel
theorem dL_law_1386 : decode code 1386 = .ok (.lor, 1) := by decide +kernel
theorem dL_law_1387 : decode code 1387 = .ok (.aload_n 0, 1) := by decide +kernel
theorem dL_law_1388 : decode code 1388 = .ok (.iload 4, 2) := by decide +kernel
theorem dL_law_1390 : decode code 1390 = .ok (.iconst 5, 1) := by decide +kernel
theorem dL_law_1391 : decode code 1391 = .ok (.iadd, 1) := by decide +kernel
theorem dL_law_1392 : decode code 1392 = .ok (.iaload, 1) := by decide +kernel
theorem dL_law_1393 : decode code 1393 = .ok (.invokevirtual 148, 3) := by decide +kernel
theorem dL_law_1396 : decode code 1396 = .ok (.aload_n 2, 1) := by decide +kernel
theorem dL_law_1397 : decode code 1397 = .ok (.invokevirtual 100, 3) := by decide +kernel
theorem dL_law_1400 : decode code 1400 = .ok (.iload 5, 2) := by decide +kernel
theorem dL_law_1402 : decode code 1402 = .ok (.if_icmp .eq 5, 3) := by decide +kernel
theorem dL_law_1405 : decode code 1405 = .ok (.iconst 0, 1) := by decide +kernel
theorem dL_law_1406 : decode code 1406 = .ok (.ireturn, 1) := by decide +kernel
theorem dL_law_1407 : decode code 1407 = .ok (.goto 483, 3) := by decide +kernel
theorem dL_law_1410 : decode code 1410 = .ok (.aload_n 1, 1) := by decide +kernel
theorem dL_law_1411 : decode code 1411 = .ok (.aload_n 0, 1) := by decide +kernel
theorem dL_law_1412 : decode code 1412 = .ok (.iload 4, 2) := by decide +kernel
theorem dL_law_1414 : decode code 1414 = .ok (.iconst 1, 1) := by decide +kernel
theorem dL_law_1415 : decode code 1415 = .ok (.iadd, 1) := by decide +kernel
theorem dL_law_1416 : decode code 1416 = .ok (.iaload, 1) := by decide +kernel
theorem dL_law_1417 : decode code 1417 = .ok (.aload_n 0, 1) := by decide +kernel
theorem dL_law_1418 : decode code 1418 = .ok (.iload 4, 2) := by decide +kernel
theorem dL_law_1420 : decode code 1420 = .ok (.iconst 2, 1) := by decide +kernel
theorem dL_law_1421 : decode code 1421 = .ok (.iadd, 1) := by decide +kernel
theorem dL_law_1422 : decode code 1422 = .ok (.iaload, 1) := by decide +kernel
theorem dL_law_1423 : decode code 1423 = .ok (.aload_n 0, 1) := by decide +kernel
theorem dL_law_1424 : decode code 1424 = .ok (.iload 4, 2) := by decide +kernel
theorem dL_law_1426 : decode code 1426 = .ok (.iconst 3, 1) := by decide +kernel
theorem dL_law_1427 : decode code 1427 = .ok (.iadd, 1) := by decide +kernel
theorem dL_law_1428 : decode code 1428 = .ok (.iaload, 1) := by decide +kernel
theorem dL_law_1429 : decode code 1429 = .ok (.aload_n 3, 1) := by decide +kernel
theorem dL_law_1430 : decode code 1430 = .ok (.invokestatic 149, 3) := by decide +kernel
theorem dL_law_1433 : decode code 1433 = .ok (.istore 5, 2) := by decide +kernel
theorem dL_law_1435 : decode code 1435 = .ok (.aload_n 2, 1) := by decide +kernel
theorem dL_law_1436 : decode code 1436 = .ok (.aload_n 0, 1) := by decide +kernel
theorem dL_law_1437 : decode code 1437 = .ok (.iload 4, 2) := by decide +kernel
theorem dL_law_1439 : decode code 1439 = .ok (.iconst 1, 1) := by decide +kernel
theorem dL_law_1440 : decode code 1440 = .ok (.iadd, 1) := by decide +kernel
theorem dL_law_1441 : decode code 1441 = .ok (.iaload, 1) := by decide +kernel
theorem dL_law_1442 : decode code 1442 = .ok (.aload_n 0, 1) := by decide +kernel
theorem dL_law_1443 : decode code 1443 = .ok (.iload 4, 2) := by decide +kernel
theorem dL_law_1445 : decode code 1445 = .ok (.iconst 2, 1) := by decide +kernel
theorem dL_law_1446 : decode code 1446 = .ok (.iadd, 1) := by decide +kernel
theorem dL_law_1447 : decode code 1447 = .ok (.iaload, 1) := by decide +kernel
theorem dL_law_1448 : decode code 1448 = .ok (.aload_n 0, 1) := by decide +kernel
theorem dL_law_1449 : decode code 1449 = .ok (.iload 4, 2) := by decide +kernel
theorem dL_law_1451 : decode code 1451 = .ok (.iconst 3, 1) := by decide +kernel
theorem dL_law_1452 : decode code 1452 = .ok (.iadd, 1) := by decide +kernel
theorem dL_law_1453 : decode code 1453 = .ok (.iaload, 1) := by decide +kernel
theorem dL_law_1454 : decode code 1454 = .ok (.invokevirtual 151, 3) := by decide +kernel
theorem dL_law_1457 : decode code 1457 = .ok (.istore 6, 2) := by decide +kernel
theorem dL_law_1459 : decode code 1459 = .ok (.aload_n 2, 1) := by decide +kernel
theorem dL_law_1460 : decode code 1460 = .ok (.invokevirtual 100, 3) := by decide +kernel
theorem dL_law_1463 : decode code 1463 = .ok (.iload 5, 2) := by decide +kernel
theorem dL_law_1465 : decode code 1465 = .ok (.if_icmp .eq 5, 3) := by decide +kernel
theorem dL_law_1468 : decode code 1468 = .ok (.iconst 0, 1) := by decide +kernel
theorem dL_law_1469 : decode code 1469 = .ok (.ireturn, 1) := by decide +kernel
theorem dL_law_1470 : decode code 1470 = .ok (.iload 5, 2) := by decide +kernel
end
section
theorem dL_law_1472 : decode code 1472 = .ok (.ifCond .ne 15, 3) := by decide +kernel
theorem dL_law_1475 : decode code 1475 = .ok (.aload_n 3, 1) := by decide +kernel
theorem dL_law_1476 : decode code 1476 = .ok (.iconst 0, 1) := by decide +kernel
theorem dL_law_1477 : decode code 1477 = .ok (.laload, 1) := by decide +kernel
theorem dL_law_1478 : decode code 1478 = .ok (.iload 6, 2) := by decide +kernel
theorem dL_law_1480 : decode code 1480 = .ok (.i2l, 1) := by decide +kernel
theorem dL_law_1481 : decode code 1481 = .ok (.lcmp, 1) := by decide +kernel
theorem dL_law_1482 : decode code 1482 = .ok (.ifCond .eq 5, 3) := by decide +kernel
theorem dL_law_1485 : decode code 1485 = .ok (.iconst 0, 1) := by decide +kernel
theorem dL_law_1486 : decode code 1486 = .ok (.ireturn, 1) := by decide +kernel
theorem dL_law_1487 : decode code 1487 = .ok (.goto 403, 3) := by decide +kernel
theorem dL_law_1490 : decode code 1490 = .ok (.aload_n 1, 1) := by decide +kernel
theorem dL_law_1491 : decode code 1491 = .ok (.aload_n 0, 1) := by decide +kernel
theorem dL_law_1492 : decode code 1492 = .ok (.iload 4, 2) := by decide +kernel
theorem dL_law_1494 : decode code 1494 = .ok (.iconst 1, 1) := by decide +kernel
theorem dL_law_1495 : decode code 1495 = .ok (.iadd, 1) := by decide +kernel
theorem dL_law_1496 : decode code 1496 = .ok (.iaload, 1) := by decide +kernel
theorem dL_law_1497 : decode code 1497 = .ok (.aload_n 0, 1) := by decide +kernel
theorem dL_law_1498 : decode code 1498 = .ok (.iload 4, 2) := by decide +kernel
theorem dL_law_1500 : decode code 1500 = .ok (.iconst 2, 1) := by decide +kernel
theorem dL_law_1501 : decode code 1501 = .ok (.iadd, 1) := by decide +kernel
theorem dL_law_1502 : decode code 1502 = .ok (.iaload, 1) := by decide +kernel
theorem dL_law_1503 : decode code 1503 = .ok (.aload_n 0, 1) := by decide +kernel
theorem dL_law_1504 : decode code 1504 = .ok (.iload 4, 2) := by decide +kernel
theorem dL_law_1506 : decode code 1506 = .ok (.iconst 3, 1) := by decide +kernel
theorem dL_law_1507 : decode code 1507 = .ok (.iadd, 1) := by decide +kernel
theorem dL_law_1508 : decode code 1508 = .ok (.iaload, 1) := by decide +kernel
theorem dL_law_1509 : decode code 1509 = .ok (.aload_n 3, 1) := by decide +kernel
theorem dL_law_1510 : decode code 1510 = .ok (.invokestatic 152, 3) := by decide +kernel
theorem dL_law_1513 : decode code 1513 = .ok (.istore 5, 2) := by decide +kernel
theorem dL_law_1515 : decode code 1515 = .ok (.aload_n 2, 1) := by decide +kernel
theorem dL_law_1516 : decode code 1516 = .ok (.aload_n 0, 1) := by decide +kernel
theorem dL_law_1517 : decode code 1517 = .ok (.iload 4, 2) := by decide +kernel
theorem dL_law_1519 : decode code 1519 = .ok (.iconst 1, 1) := by decide +kernel
theorem dL_law_1520 : decode code 1520 = .ok (.iadd, 1) := by decide +kernel
theorem dL_law_1521 : decode code 1521 = .ok (.iaload, 1) := by decide +kernel
theorem dL_law_1522 : decode code 1522 = .ok (.aload_n 0, 1) := by decide +kernel
theorem dL_law_1523 : decode code 1523 = .ok (.iload 4, 2) := by decide +kernel
theorem dL_law_1525 : decode code 1525 = .ok (.iconst 2, 1) := by decide +kernel
theorem dL_law_1526 : decode code 1526 = .ok (.iadd, 1) := by decide +kernel
theorem dL_law_1527 : decode code 1527 = .ok (.iaload, 1) := by decide +kernel
theorem dL_law_1528 : decode code 1528 = .ok (.aload_n 0, 1) := by decide +kernel
theorem dL_law_1529 : decode code 1529 = .ok (.iload 4, 2) := by decide +kernel
theorem dL_law_1531 : decode code 1531 = .ok (.iconst 3, 1) := by decide +kernel
theorem dL_law_1532 : decode code 1532 = .ok (.iadd, 1) := by decide +kernel
theorem dL_law_1533 : decode code 1533 = .ok (.iaload, 1) := by decide +kernel
theorem dL_law_1534 : decode code 1534 = .ok (.invokevirtual 154, 3) := by decide +kernel
theorem dL_law_1537 : decode code 1537 = .ok (.istore 6, 2) := by decide +kernel
theorem dL_law_1539 : decode code 1539 = .ok (.aload_n 2, 1) := by decide +kernel
theorem dL_law_1540 : decode code 1540 = .ok (.invokevirtual 100, 3) := by decide +kernel
theorem dL_law_1543 : decode code 1543 = .ok (.iload 5, 2) := by decide +kernel
theorem dL_law_1545 : decode code 1545 = .ok (.if_icmp .eq 5, 3) := by decide +kernel
theorem dL_law_1548 : decode code 1548 = .ok (.iconst 0, 1) := by decide +kernel
theorem dL_law_1549 : decode code 1549 = .ok (.ireturn, 1) := by decide +kernel
theorem dL_law_1550 : decode code 1550 = .ok (.iload 5, 2) := by decide +kernel
theorem dL_law_1552 : decode code 1552 = .ok (.ifCond .ne 15, 3) := by decide +kernel
theorem dL_law_1555 : decode code 1555 = .ok (.aload_n 3, 1) := by decide +kernel
theorem dL_law_1556 : decode code 1556 = .ok (.iconst 0, 1) := by decide +kernel
theorem dL_law_1557 : decode code 1557 = .ok (.laload, 1) := by decide +kernel
theorem dL_law_1558 : decode code 1558 = .ok (.iload 6, 2) := by decide +kernel
theorem dL_law_1560 : decode code 1560 = .ok (.i2l, 1) := by decide +kernel
theorem dL_law_1561 : decode code 1561 = .ok (.lcmp, 1) := by decide +kernel
theorem dL_law_1562 : decode code 1562 = .ok (.ifCond .eq 5, 3) := by decide +kernel
theorem dL_law_1565 : decode code 1565 = .ok (.iconst 0, 1) := by decide +kernel
theorem dL_law_1566 : decode code 1566 = .ok (.ireturn, 1) := by decide +kernel
theorem dL_law_1567 : decode code 1567 = .ok (.goto 323, 3) := by decide +kernel
theorem dL_law_1570 : decode code 1570 = .ok (.aload_n 1, 1) := by decide +kernel
theorem dL_law_1571 : decode code 1571 = .ok (.aload_n 0, 1) := by decide +kernel
theorem dL_law_1572 : decode code 1572 = .ok (.iload 4, 2) := by decide +kernel
theorem dL_law_1574 : decode code 1574 = .ok (.iconst 1, 1) := by decide +kernel
theorem dL_law_1575 : decode code 1575 = .ok (.iadd, 1) := by decide +kernel
theorem dL_law_1576 : decode code 1576 = .ok (.iaload, 1) := by decide +kernel
theorem dL_law_1577 : decode code 1577 = .ok (.aload_n 0, 1) := by decide +kernel
theorem dL_law_1578 : decode code 1578 = .ok (.iload 4, 2) := by decide +kernel
theorem dL_law_1580 : decode code 1580 = .ok (.iconst 2, 1) := by decide +kernel
theorem dL_law_1581 : decode code 1581 = .ok (.iadd, 1) := by decide +kernel
theorem dL_law_1582 : decode code 1582 = .ok (.iaload, 1) := by decide +kernel
theorem dL_law_1583 : decode code 1583 = .ok (.aload_n 0, 1) := by decide +kernel
theorem dL_law_1584 : decode code 1584 = .ok (.iload 4, 2) := by decide +kernel
theorem dL_law_1586 : decode code 1586 = .ok (.iconst 3, 1) := by decide +kernel
theorem dL_law_1587 : decode code 1587 = .ok (.iadd, 1) := by decide +kernel
theorem dL_law_1588 : decode code 1588 = .ok (.iaload, 1) := by decide +kernel
theorem dL_law_1589 : decode code 1589 = .ok (.aload_n 0, 1) := by decide +kernel
theorem dL_law_1590 : decode code 1590 = .ok (.iload 4, 2) := by decide +kernel
theorem dL_law_1592 : decode code 1592 = .ok (.iconst 4, 1) := by decide +kernel
theorem dL_law_1593 : decode code 1593 = .ok (.iadd, 1) := by decide +kernel
theorem dL_law_1594 : decode code 1594 = .ok (.iaload, 1) := by decide +kernel
theorem dL_law_1595 : decode code 1595 = .ok (.invokestatic 155, 3) := by decide +kernel
theorem dL_law_1598 : decode code 1598 = .ok (.istore 5, 2) := by decide +kernel
theorem dL_law_1600 : decode code 1600 = .ok (.aload_n 2, 1) := by decide +kernel
theorem dL_law_1601 : decode code 1601 = .ok (.aload_n 0, 1) := by decide +kernel
theorem dL_law_1602 : decode code 1602 = .ok (.iload 4, 2) := by decide +kernel
theorem dL_law_1604 : decode code 1604 = .ok (.iconst 1, 1) := by decide +kernel
theorem dL_law_1605 : decode code 1605 = .ok (.iadd, 1) := by decide +kernel
theorem dL_law_1606 : decode code 1606 = .ok (.iaload, 1) := by decide +kernel
theorem dL_law_1607 : decode code 1607 = .ok (.aload_n 0, 1) := by decide +kernel
theorem dL_law_1608 : decode code 1608 = .ok (.iload 4, 2) := by decide +kernel
theorem dL_law_1610 : decode code 1610 = .ok (.iconst 2, 1) := by decide +kernel
theorem dL_law_1611 : decode code 1611 = .ok (.iadd, 1) := by decide +kernel
theorem dL_law_1612 : decode code 1612 = .ok (.iaload, 1) := by decide +kernel
theorem dL_law_1613 : decode code 1613 = .ok (.aload_n 0, 1) := by decide +kernel
theorem dL_law_1614 : decode code 1614 = .ok (.iload 4, 2) := by decide +kernel
theorem dL_law_1616 : decode code 1616 = .ok (.iconst 3, 1) := by decide +kernel
theorem dL_law_1617 : decode code 1617 = .ok (.iadd, 1) := by decide +kernel
theorem dL_law_1618 : decode code 1618 = .ok (.iaload, 1) := by decide +kernel
theorem dL_law_1619 : decode code 1619 = .ok (.aload_n 0, 1) := by decide +kernel
theorem dL_law_1620 : decode code 1620 = .ok (.iload 4, 2) := by decide +kernel
theorem dL_law_1622 : decode code 1622 = .ok (.iconst 4, 1) := by decide +kernel
theorem dL_law_1623 : decode code 1623 = .ok (.iadd, 1) := by decide +kernel
theorem dL_law_1624 : decode code 1624 = .ok (.iaload, 1) := by decide +kernel
theorem dL_law_1625 : decode code 1625 = .ok (.invokevirtual 158, 3) := by decide +kernel
theorem dL_law_1628 : decode code 1628 = .ok (.aload_n 2, 1) := by decide +kernel
theorem dL_law_1629 : decode code 1629 = .ok (.invokevirtual 100, 3) := by decide +kernel
theorem dL_law_1632 : decode code 1632 = .ok (.iload 5, 2) := by decide +kernel
theorem dL_law_1634 : decode code 1634 = .ok (.if_icmp .eq 5, 3) := by decide +kernel
theorem dL_law_1637 : decode code 1637 = .ok (.iconst 0, 1) := by decide +kernel
theorem dL_law_1638 : decode code 1638 = .ok (.ireturn, 1) := by decide +kernel
theorem dL_law_1639 : decode code 1639 = .ok (.goto 251, 3) := by decide +kernel
theorem dL_law_1642 : decode code 1642 = .ok (.aload_n 1, 1) := by decide +kernel
theorem dL_law_1643 : decode code 1643 = .ok (.aload_n 0, 1) := by decide +kernel
theorem dL_law_1644 : decode code 1644 = .ok (.iload 4, 2) := by decide +kernel
theorem dL_law_1646 : decode code 1646 = .ok (.iconst 1, 1) := by decide +kernel
theorem dL_law_1647 : decode code 1647 = .ok (.iadd, 1) := by decide +kernel
theorem dL_law_1648 : decode code 1648 = .ok (.iaload, 1) := by decide +kernel
theorem dL_law_1649 : decode code 1649 = .ok (.aload_n 0, 1) := by decide +kernel
theorem dL_law_1650 : decode code 1650 = .ok (.iload 4, 2) := by decide +kernel
theorem dL_law_1652 : decode code 1652 = .ok (.iconst 2, 1) := by decide +kernel
theorem dL_law_1653 : decode code 1653 = .ok (.iadd, 1) := by decide +kernel
theorem dL_law_1654 : decode code 1654 = .ok (.iaload, 1) := by decide +kernel
theorem dL_law_1655 : decode code 1655 = .ok (.ifCond .eq 7, 3) := by decide +kernel
theorem dL_law_1658 : decode code 1658 = .ok (.iconst 1, 1) := by decide +kernel
theorem dL_law_1659 : decode code 1659 = .ok (.goto 4, 3) := by decide +kernel
theorem dL_law_1662 : decode code 1662 = .ok (.iconst 0, 1) := by decide +kernel
theorem dL_law_1663 : decode code 1663 = .ok (.invokestatic 159, 3) := by decide +kernel
theorem dL_law_1666 : decode code 1666 = .ok (.istore 5, 2) := by decide +kernel
theorem dL_law_1668 : decode code 1668 = .ok (.aload_n 2, 1) := by decide +kernel
theorem dL_law_1669 : decode code 1669 = .ok (.aload_n 0, 1) := by decide +kernel
theorem dL_law_1670 : decode code 1670 = .ok (.iload 4, 2) := by decide +kernel
theorem dL_law_1672 : decode code 1672 = .ok (.iconst 1, 1) := by decide +kernel
theorem dL_law_1673 : decode code 1673 = .ok (.iadd, 1) := by decide +kernel
theorem dL_law_1674 : decode code 1674 = .ok (.iaload, 1) := by decide +kernel
theorem dL_law_1675 : decode code 1675 = .ok (.aload_n 0, 1) := by decide +kernel
theorem dL_law_1676 : decode code 1676 = .ok (.iload 4, 2) := by decide +kernel
theorem dL_law_1678 : decode code 1678 = .ok (.iconst 2, 1) := by decide +kernel
theorem dL_law_1679 : decode code 1679 = .ok (.iadd, 1) := by decide +kernel
theorem dL_law_1680 : decode code 1680 = .ok (.iaload, 1) := by decide +kernel
theorem dL_law_1681 : decode code 1681 = .ok (.ifCond .eq 7, 3) := by decide +kernel
theorem dL_law_1684 : decode code 1684 = .ok (.iconst 1, 1) := by decide +kernel
theorem dL_law_1685 : decode code 1685 = .ok (.goto 4, 3) := by decide +kernel
theorem dL_law_1688 : decode code 1688 = .ok (.iconst 0, 1) := by decide +kernel
theorem dL_law_1689 : decode code 1689 = .ok (.invokevirtual 162, 3) := by decide +kernel
theorem dL_law_1692 : decode code 1692 = .ok (.aload_n 2, 1) := by decide +kernel
theorem dL_law_1693 : decode code 1693 = .ok (.invokevirtual 100, 3) := by decide +kernel
theorem dL_law_1696 : decode code 1696 = .ok (.iload 5, 2) := by decide +kernel
theorem dL_law_1698 : decode code 1698 = .ok (.if_icmp .eq 5, 3) := by decide +kernel
theorem dL_law_1701 : decode code 1701 = .ok (.iconst 0, 1) := by decide +kernel
theorem dL_law_1702 : decode code 1702 = .ok (.ireturn, 1) := by decide +kernel
theorem dL_law_1703 : decode code 1703 = .ok (.goto 187, 3) := by decide +kernel
theorem dL_law_1706 : decode code 1706 = .ok (.aload_n 1, 1) := by decide +kernel
theorem dL_law_1707 : decode code 1707 = .ok (.aload_n 0, 1) := by decide +kernel
theorem dL_law_1708 : decode code 1708 = .ok (.iload 4, 2) := by decide +kernel
theorem dL_law_1710 : decode code 1710 = .ok (.iconst 1, 1) := by decide +kernel
theorem dL_law_1711 : decode code 1711 = .ok (.iadd, 1) := by decide +kernel
theorem dL_law_1712 : decode code 1712 = .ok (.iaload, 1) := by decide +kernel
theorem dL_law_1713 : decode code 1713 = .ok (.aload_n 0, 1) := by decide +kernel
theorem dL_law_1714 : decode code 1714 = .ok (.iload 4, 2) := by decide +kernel
theorem dL_law_1716 : decode code 1716 = .ok (.iconst 2, 1) := by decide +kernel
theorem dL_law_1717 : decode code 1717 = .ok (.iadd, 1) := by decide +kernel
theorem dL_law_1718 : decode code 1718 = .ok (.iaload, 1) := by decide +kernel
theorem dL_law_1719 : decode code 1719 = .ok (.aload_n 0, 1) := by decide +kernel
theorem dL_law_1720 : decode code 1720 = .ok (.iload 4, 2) := by decide +kernel
theorem dL_law_1722 : decode code 1722 = .ok (.iconst 3, 1) := by decide +kernel
theorem dL_law_1723 : decode code 1723 = .ok (.iadd, 1) := by decide +kernel
theorem dL_law_1724 : decode code 1724 = .ok (.iaload, 1) := by decide +kernel
theorem dL_law_1725 : decode code 1725 = .ok (.aload_n 0, 1) := by decide +kernel
theorem dL_law_1726 : decode code 1726 = .ok (.iload 4, 2) := by decide +kernel
theorem dL_law_1728 : decode code 1728 = .ok (.iconst 4, 1) := by decide +kernel
theorem dL_law_1729 : decode code 1729 = .ok (.iadd, 1) := by decide +kernel
theorem dL_law_1730 : decode code 1730 = .ok (.iaload, 1) := by decide +kernel
theorem dL_law_1731 : decode code 1731 = .ok (.aload_n 3, 1) := by decide +kernel
theorem dL_law_1732 : decode code 1732 = .ok (.invokestatic 163, 3) := by decide +kernel
theorem dL_law_1735 : decode code 1735 = .ok (.istore 5, 2) := by decide +kernel
theorem dL_law_1737 : decode code 1737 = .ok (.aload_n 2, 1) := by decide +kernel
theorem dL_law_1738 : decode code 1738 = .ok (.aload_n 0, 1) := by decide +kernel
theorem dL_law_1739 : decode code 1739 = .ok (.iload 4, 2) := by decide +kernel
theorem dL_law_1741 : decode code 1741 = .ok (.iconst 1, 1) := by decide +kernel
theorem dL_law_1742 : decode code 1742 = .ok (.iadd, 1) := by decide +kernel
theorem dL_law_1743 : decode code 1743 = .ok (.iaload, 1) := by decide +kernel
theorem dL_law_1744 : decode code 1744 = .ok (.aload_n 0, 1) := by decide +kernel
theorem dL_law_1745 : decode code 1745 = .ok (.iload 4, 2) := by decide +kernel
theorem dL_law_1747 : decode code 1747 = .ok (.iconst 2, 1) := by decide +kernel
theorem dL_law_1748 : decode code 1748 = .ok (.iadd, 1) := by decide +kernel
theorem dL_law_1749 : decode code 1749 = .ok (.iaload, 1) := by decide +kernel
theorem dL_law_1750 : decode code 1750 = .ok (.aload_n 0, 1) := by decide +kernel
theorem dL_law_1751 : decode code 1751 = .ok (.iload 4, 2) := by decide +kernel
theorem dL_law_1753 : decode code 1753 = .ok (.iconst 3, 1) := by decide +kernel
theorem dL_law_1754 : decode code 1754 = .ok (.iadd, 1) := by decide +kernel
theorem dL_law_1755 : decode code 1755 = .ok (.iaload, 1) := by decide +kernel
theorem dL_law_1756 : decode code 1756 = .ok (.aload_n 0, 1) := by decide +kernel
theorem dL_law_1757 : decode code 1757 = .ok (.iload 4, 2) := by decide +kernel
theorem dL_law_1759 : decode code 1759 = .ok (.iconst 4, 1) := by decide +kernel
theorem dL_law_1760 : decode code 1760 = .ok (.iadd, 1) := by decide +kernel
theorem dL_law_1761 : decode code 1761 = .ok (.iaload, 1) := by decide +kernel
theorem dL_law_1762 : decode code 1762 = .ok (.invokevirtual 165, 3) := by decide +kernel
theorem dL_law_1765 : decode code 1765 = .ok (.istore 6, 2) := by decide +kernel
theorem dL_law_1767 : decode code 1767 = .ok (.aload_n 2, 1) := by decide +kernel
theorem dL_law_1768 : decode code 1768 = .ok (.invokevirtual 100, 3) := by decide +kernel
theorem dL_law_1771 : decode code 1771 = .ok (.iload 5, 2) := by decide +kernel
theorem dL_law_1773 : decode code 1773 = .ok (.if_icmp .eq 5, 3) := by decide +kernel
theorem dL_law_1776 : decode code 1776 = .ok (.iconst 0, 1) := by decide +kernel
theorem dL_law_1777 : decode code 1777 = .ok (.ireturn, 1) := by decide +kernel
theorem dL_law_1778 : decode code 1778 = .ok (.iload 5, 2) := by decide +kernel
theorem dL_law_1780 : decode code 1780 = .ok (.ifCond .ne 15, 3) := by decide +kernel
theorem dL_law_1783 : decode code 1783 = .ok (.aload_n 3, 1) := by decide +kernel
theorem dL_law_1784 : decode code 1784 = .ok (.iconst 0, 1) := by decide +kernel
theorem dL_law_1785 : decode code 1785 = .ok (.laload, 1) := by decide +kernel
theorem dL_law_1786 : decode code 1786 = .ok (.iload 6, 2) := by decide +kernel
theorem dL_law_1788 : decode code 1788 = .ok (.i2l, 1) := by decide +kernel
theorem dL_law_1789 : decode code 1789 = .ok (.lcmp, 1) := by decide +kernel
theorem dL_law_1790 : decode code 1790 = .ok (.ifCond .eq 5, 3) := by decide +kernel
theorem dL_law_1793 : decode code 1793 = .ok (.iconst 0, 1) := by decide +kernel
theorem dL_law_1794 : decode code 1794 = .ok (.ireturn, 1) := by decide +kernel
theorem dL_law_1795 : decode code 1795 = .ok (.goto 95, 3) := by decide +kernel
theorem dL_law_1798 : decode code 1798 = .ok (.aload_n 1, 1) := by decide +kernel
theorem dL_law_1799 : decode code 1799 = .ok (.aload_n 0, 1) := by decide +kernel
theorem dL_law_1800 : decode code 1800 = .ok (.iload 4, 2) := by decide +kernel
theorem dL_law_1802 : decode code 1802 = .ok (.iconst 1, 1) := by decide +kernel
theorem dL_law_1803 : decode code 1803 = .ok (.iadd, 1) := by decide +kernel
theorem dL_law_1804 : decode code 1804 = .ok (.iaload, 1) := by decide +kernel
theorem dL_law_1805 : decode code 1805 = .ok (.aload_n 0, 1) := by decide +kernel
theorem dL_law_1806 : decode code 1806 = .ok (.iload 4, 2) := by decide +kernel
theorem dL_law_1808 : decode code 1808 = .ok (.iconst 2, 1) := by decide +kernel
theorem dL_law_1809 : decode code 1809 = .ok (.iadd, 1) := by decide +kernel
theorem dL_law_1810 : decode code 1810 = .ok (.iaload, 1) := by decide +kernel
theorem dL_law_1811 : decode code 1811 = .ok (.aload_n 0, 1) := by decide +kernel
theorem dL_law_1812 : decode code 1812 = .ok (.iload 4, 2) := by decide +kernel
theorem dL_law_1814 : decode code 1814 = .ok (.iconst 3, 1) := by decide +kernel
theorem dL_law_1815 : decode code 1815 = .ok (.iadd, 1) := by decide +kernel
theorem dL_law_1816 : decode code 1816 = .ok (.iaload, 1) := by decide +kernel
theorem dL_law_1817 : decode code 1817 = .ok (.aload_n 0, 1) := by decide +kernel
theorem dL_law_1818 : decode code 1818 = .ok (.iload 4, 2) := by decide +kernel
theorem dL_law_1820 : decode code 1820 = .ok (.iconst 4, 1) := by decide +kernel
theorem dL_law_1821 : decode code 1821 = .ok (.iadd, 1) := by decide +kernel
theorem dL_law_1822 : decode code 1822 = .ok (.iaload, 1) := by decide +kernel
theorem dL_law_1823 : decode code 1823 = .ok (.aload_n 3, 1) := by decide +kernel
theorem dL_law_1824 : decode code 1824 = .ok (.invokestatic 166, 3) := by decide +kernel
theorem dL_law_1827 : decode code 1827 = .ok (.istore 5, 2) := by decide +kernel
theorem dL_law_1829 : decode code 1829 = .ok (.aload_n 2, 1) := by decide +kernel
theorem dL_law_1830 : decode code 1830 = .ok (.aload_n 0, 1) := by decide +kernel
theorem dL_law_1831 : decode code 1831 = .ok (.iload 4, 2) := by decide +kernel
theorem dL_law_1833 : decode code 1833 = .ok (.iconst 1, 1) := by decide +kernel
theorem dL_law_1834 : decode code 1834 = .ok (.iadd, 1) := by decide +kernel
theorem dL_law_1835 : decode code 1835 = .ok (.iaload, 1) := by decide +kernel
theorem dL_law_1836 : decode code 1836 = .ok (.aload_n 0, 1) := by decide +kernel
theorem dL_law_1837 : decode code 1837 = .ok (.iload 4, 2) := by decide +kernel
theorem dL_law_1839 : decode code 1839 = .ok (.iconst 2, 1) := by decide +kernel
theorem dL_law_1840 : decode code 1840 = .ok (.iadd, 1) := by decide +kernel
theorem dL_law_1841 : decode code 1841 = .ok (.iaload, 1) := by decide +kernel
theorem dL_law_1842 : decode code 1842 = .ok (.aload_n 0, 1) := by decide +kernel
theorem dL_law_1843 : decode code 1843 = .ok (.iload 4, 2) := by decide +kernel
theorem dL_law_1845 : decode code 1845 = .ok (.iconst 3, 1) := by decide +kernel
theorem dL_law_1846 : decode code 1846 = .ok (.iadd, 1) := by decide +kernel
theorem dL_law_1847 : decode code 1847 = .ok (.iaload, 1) := by decide +kernel
theorem dL_law_1848 : decode code 1848 = .ok (.aload_n 0, 1) := by decide +kernel
theorem dL_law_1849 : decode code 1849 = .ok (.iload 4, 2) := by decide +kernel
theorem dL_law_1851 : decode code 1851 = .ok (.iconst 4, 1) := by decide +kernel
theorem dL_law_1852 : decode code 1852 = .ok (.iadd, 1) := by decide +kernel
theorem dL_law_1853 : decode code 1853 = .ok (.iaload, 1) := by decide +kernel
theorem dL_law_1854 : decode code 1854 = .ok (.invokevirtual 168, 3) := by decide +kernel
theorem dL_law_1857 : decode code 1857 = .ok (.istore 6, 2) := by decide +kernel
theorem dL_law_1859 : decode code 1859 = .ok (.aload_n 2, 1) := by decide +kernel
theorem dL_law_1860 : decode code 1860 = .ok (.invokevirtual 100, 3) := by decide +kernel
theorem dL_law_1863 : decode code 1863 = .ok (.iload 5, 2) := by decide +kernel
theorem dL_law_1865 : decode code 1865 = .ok (.if_icmp .eq 5, 3) := by decide +kernel
theorem dL_law_1868 : decode code 1868 = .ok (.iconst 0, 1) := by decide +kernel
theorem dL_law_1869 : decode code 1869 = .ok (.ireturn, 1) := by decide +kernel
theorem dL_law_1870 : decode code 1870 = .ok (.iload 5, 2) := by decide +kernel
theorem dL_law_1872 : decode code 1872 = .ok (.ifCond .ne 15, 3) := by decide +kernel
theorem dL_law_1875 : decode code 1875 = .ok (.aload_n 3, 1) := by decide +kernel
theorem dL_law_1876 : decode code 1876 = .ok (.iconst 0, 1) := by decide +kernel
theorem dL_law_1877 : decode code 1877 = .ok (.laload, 1) := by decide +kernel
theorem dL_law_1878 : decode code 1878 = .ok (.iload 6, 2) := by decide +kernel
theorem dL_law_1880 : decode code 1880 = .ok (.i2l, 1) := by decide +kernel
theorem dL_law_1881 : decode code 1881 = .ok (.lcmp, 1) := by decide +kernel
theorem dL_law_1882 : decode code 1882 = .ok (.ifCond .eq 5, 3) := by decide +kernel
theorem dL_law_1885 : decode code 1885 = .ok (.iconst 0, 1) := by decide +kernel
theorem dL_law_1886 : decode code 1886 = .ok (.ireturn, 1) := by decide +kernel
theorem dL_law_1887 : decode code 1887 = .ok (.goto 3, 3) := by decide +kernel
theorem dL_law_1890 : decode code 1890 = .ok (.iinc 4 6, 3) := by decide +kernel
theorem dL_law_1893 : decode code 1893 = .ok (.goto (-1870), 3) := by decide +kernel
theorem dL_law_1896 : decode code 1896 = .ok (.iconst 1, 1) := by decide +kernel
theorem dL_law_1897 : decode code 1897 = .ok (.ireturn, 1) := by decide +kernel
end
section
/-! Throwing: a method that throws (its contract MetTh), a call of it, the exception laid over a frame (WT), out of a method, into a handler. -/
/-- the object that is thrown: of the class X, at x -/
def tx_Obj (X : String) (x : Nat) (t : State) : Prop := ∃ cell : Cell, t.heap[x]? = some cell ∧ cell.vm.isStatics = false ∧ t.vm.findClass X = some cell.cls
/-- nothing that was there has changed -/
def tx_Old (H H1 : Heap) : Prop := H.size ≤ H1.size ∧ ∀ q : Nat, q < H.size → H1[q]? = H[q]?
theorem tx_Old.rf {H : Heap} : tx_Old H H := ⟨Nat.le_refl _, fun _ _ => rfl⟩
theorem tx_Old.tr {H H1 H2 : Heap} (a : tx_Old H H1) (b : tx_Old H1 H2) : tx_Old H H2 := ⟨Nat.le_trans a.1 b.1, fun q h => (b.2 q (Nat.lt_of_lt_of_le h a.1)).trans (a.2 q h)⟩
def tx_Q (X : String) (st : State) (o : Outcome) (t : State) : Prop := ∃ x : Nat, o = .threw x ∧ tx_Obj X x t ∧ tx_Old st.heap t.heap
def tx_End (st t : State) (mc ms : Nat) : Prop := st.WarmedH t.vm ∧ st.sameButNew ({ t with vm := st.vm } : State) [] mc ms
/-- the contract of a method that throws: from every state with Pc an object of the class X is thrown, at most mc cells of ms slots are new, nothing old changes -/
def MetTh (l : Launch) (y : MethodName) (ws : List Cond) (rm : Room) (Pc : Array Value → State → Prop) (X : String) (mc ms : Nat) : Prop :=
  MetFree l y (headSpec ws rm) Pc (fun _ _ _ _ _ => True) (fun _ st o t => tx_Q X st o t ∧ tx_End st t mc ms)
def TQ (below : List Frame) (X : String) (s : State) (mc ms : Nat) : State → Prop := fun t => ∃ o, t.status = .running ∧ Ended t below o ∧ tx_Q X s o t ∧ tx_End s t mc ms
section TXA
variable {p : Program} {l : Launch} {e : Env} {R : Room} {s : State} {m : MethodId} {args : Array Value} {below : List Frame} {meth : Method} {c : Code} {H : Heap} {locs : List Loc} {cells slots : Nat} {Q : State → Prop}
/-- the machine, now with the exception x laid over the frame g, heap H, comes to a state with Q -/
def WT (p : Program) (l : Launch) (e : Env) (R : Room) (s : State) (m : MethodId) (args : Array Value) (below : List Frame) (meth : Method) (c : Code) (H : Heap) (locs : List Loc) (cells slots : Nat) (Q : State → Prop) (g : JFrame) (x : Nat) : Prop :=
  ∀ T : State, T.heap = H → Stand p l e R s m args below meth c T locs cells slots → ∃ t, Steps p.tables e below ((T.setTop g).pushFrame (.throwing x)) t ∧ Q t
theorem MetTh.ofW {y : MethodName} {ws ws' : List Cond} {rm : Room} {Pc : Array Value → State → Prop} {X : String} {mc ms : Nat} {cc : ByteArray} {maxL : Nat} {ret : Option FieldType}
    (hy : plainName y.cls = true) (hw : ws = Cond.code y cc maxL ret :: ws')
    (body : ∀ p e s m args below meth c s₁, BodyLoose p l y (headSpec ws rm) cc maxL ret e s m args below meth c s₁ → c.maxLocals = maxL → Pc args s →
      W p l e (headSpec ws rm).room s m args below meth c s.heap [] 0 0 (TQ below X s mc ms) (entryFrame m args maxL)) : MetTh l y ws rm Pc X mc ms := by
  refine MetFree.of_bodyS (code := cc) (maxLocals := maxL) (ret := ret) hy ?_ ?_
  · intro args s m h hn
    obtain ⟨meth, c, h1, h2, h3, h4, h5, h6, -, -⟩ := Cond.code_spec hn (atoms_spec (ws := ws) h _ (by rw [hw]; exact List.mem_cons_self))
    exact ⟨meth, c, h1, h2, h3, h4, h5, h6⟩
  · intro p e s m args below meth c s₁ B hml hP _
    have hh0 : s₁.heap = s.heap := by rw [B.state]; rfl
    obtain ⟨t, a1, o, b1, b2, b3⟩ := body p e s m args below meth c s₁ B hml hP s₁ hh0 (Stand.of_body B)
    exact ⟨t, o, a1, b1, b2, b3⟩
/-- out of a method that has no handlers -/
theorem WT.leave {X : String} {mc ms : Nat} {g : JFrame} {x : Nat} (hlocks : meth.locks = false) (hno : c.exceptionTable.isEmpty = true) (hg : g.method = m) (hlk : g.locked = none) (hen : g.entered = [])
    (hold : tx_Old s.heap H) (hobj : ∃ cell : Cell, H[x]? = some cell ∧ cell.vm.isStatics = false ∧ s.vm.findClass X = some cell.cls) (hl : ∀ q ∈ locs, s.heap.size ≤ q.base) (hc : cells ≤ mc) (hs : slots ≤ ms) :
    WT p l e R s m args below meth c H locs cells slots (TQ below X s mc ms) g x := by
  intro T hT S
  have S0 : Stand p l e R s m args below meth c T ([] ++ locs) cells slots := by rw [List.nil_append]; exact S
  have S1 := Stand.forget S0 hl
  have hem : ∀ z ∈ c.exceptionTable.toList, covers z g.pc = false := by
    have h0 : c.exceptionTable.size = 0 := by simpa [Array.isEmpty] using hno
    have h1 : c.exceptionTable.toList = [] := List.eq_nil_of_length_eq_zero (by simpa using h0)
    intro z hz
    rw [h1] at hz
    cases hz
  obtain ⟨hwalk, hrun, hend, hW, hsame⟩ := S1.leaveThrown x hg hlk hen hem hlocks
  obtain ⟨cell, o1, o2, o3⟩ := hobj
  refine ⟨_, hwalk, .threw x, hrun, hend, ⟨x, rfl, ⟨cell, ?_, o2, ?_⟩, ?_⟩, hW, hsame.mono hc hs⟩
  · show T.heap[x]? = some cell
    rw [hT]; exact o1
  · have hal := S1.warmed.alike
    show T.vm.findClass X = some cell.cls
    rw [hal.findClass]; exact o3
  · show tx_Old s.heap T.heap
    rw [hT]; exact hold
/-- athrow -/
theorem WT.athrow {cc : ByteArray} {pc : Nat} {ls : Array Slot} {x : Nat} {rest : List Value} (hexec : p.tables.exec = Jvm.exec) (hb : c.code = cc) (hdg : decode cc pc = .ok (.athrow, 1))
    (k : WT p l e R s m args below meth c H locs cells slots Q (F0 m pc ls rest) x) : W p l e R s m args below meth c H locs cells slots Q (F0 m pc ls (.ref x :: rest)) := by
  intro T hT S
  obtain ⟨t, a1, b1⟩ := k T hT S
  refine ⟨t, ?_, b1⟩
  subst hb
  jvm_step S.here [hexec, hdg, athrow.wp_sem]
  exact a1
end TXA
section TXB
variable {p : Program} {l : Launch} {e : Env} {R : Room} {s : State} {m : MethodId} {args : Array Value} {below : List Frame} {meth : Method} {c : Code} {locs : List Loc} {cells slots : Nat}
variable {y : MethodName} {bytes : ByteArray} {maxL : Nat} {ret : Option FieldType} {ws : List Cond} {rm : Room} {Pc : Array Value → State → Prop} {X : String} {mc ms W0 : Nat}
/-- a method that throws, called: the exception lies over the caller's frame -/
theorem tx_back (hM : MetTh l y ws rm Pc X mc ms) (hblind : FrameBlind Pc) (hrc : rm.cells = mc) (hrs : rm.slots = ms)
    (hframes : rm.frames + 1 ≤ R.frames) (hlocals : W0 + (maxL + 11) + rm.locals ≤ R.locals)
    (hws : ∀ w ∈ ws, ∀ (a' : Array Value) (U : State), s.WarmedH U.vm → w.before a' U = true) (hcode : Cond.code y bytes maxL ret ∈ ws) (hinit : ∀ (a' : Array Value) (U : State), s.WarmedH U.vm → (Cond.initialized y.cls).before a' U = true)
    {U : State} (S : Stand p l e R s m args below meth c U locs cells slots) {g : JFrame} (hg : g.method = m) (hsize : g.locals.size = c.maxLocals) {ig : Instr} {len : Nat} (hdg : decode c.code g.pc = .ok (ig, len))
    (hW : 2 * g.monitorRoom + (g.stack.map fun v => v.category).sum ≤ W0) {mk : MethodId} (hn : U.methodNamed? y = some mk) {a : Array Value} (hcl : cells + mc ≤ R.cells) (hsl : slots + ms ≤ R.slots) (hP : Pc a U) :
    ∃ (x : Nat) (T' : State), Stand p l e R s m args below meth c T' locs (cells + mc) (slots + ms) ∧ tx_Old U.heap T'.heap ∧ tx_Obj X x T' ∧
      Steps p.tables e below (doInvoke e (U.setTop g) [] mk a).1 ((T'.setTop g).pushFrame (.throwing x)) := by
  obtain ⟨methY, cY, hmY, hcY, -, hlY, -, -, -, -⟩ := Cond.code_spec hn (hws _ hcode a U S.warmed)
  obtain ⟨kY, hkY, -⟩ := className_of_methodNamed hn
  have hinitY : kY.init = .initialized := Cond.initialized_spec (findClass_of_methodNamed hn) hkY (hinit a U S.warmed)
  have h : At U g.method c below := by rw [hg]; exact S.here
  have happ : (headSpec ws rm).appliesLoose y e.platform (U.calling g mk a) = true :=
    Spec.appliesLoose_calling (g := g) h hdg hn hkY hinitY
      (S.room_calling (g := g) (R' := (headSpec ws rm).room) hsize hmY hcY hframes (by rw [hlY]; show _ + _ + _ + rm.locals ≤ _; omega) (by show cells + rm.cells ≤ _; rw [hrc]; exact hcl) (by show slots + rm.slots ≤ _; rw [hrs]; exact hsl)) (atoms_intro fun w hw => hws w hw _ _ S.warmed)
  obtain ⟨mid, hmid⟩ := h.above
  have hfr : (U.setTop g).frames = (.java g :: mid) ++ below := by rw [State.frames_setTop' g h.top, hmid]; rfl
  obtain ⟨o, s₂, hsteps, -, hend, hq⟩ := Steps.callFree hM p S.admits S.cas S.clock (acts := []) hfr happ (hblind _ _ _ _ hP) trivial
  have hq' : tx_Q X (U.calling g mk a) o s₂ ∧ tx_End (U.calling g mk a) s₂ mc ms := hq
  obtain ⟨⟨x, rfl, hobj, hold⟩, hW₂, e2, q2, q3, q4, q5, q6⟩ := hq'
  rw [State.frames_setTop' g h.top] at hend
  have hf₂ : s₂.frames = .throwing x :: .java g :: U.frames.tail := hend
  have hW' : U.WarmedH s₂.vm := hW₂
  have e3 : s₂ = ({ (U.calling g mk a).setFrames s₂.frames with heap := s₂.heap, slotsUsed := s₂.slotsUsed } : State).setVm s₂.vm := by
    have : s₂ = ({ s₂ with vm := (U.calling g mk a).vm } : State).setVm s₂.vm := rfl
    rw [e2] at this
    exact this
  obtain ⟨g₀, hg0⟩ := Option.isSome_iff_exists.mp h.top
  obtain ⟨r, hr⟩ := State.topJava?_eq_some.mp hg0
  have hr' : (({ U with heap := s₂.heap, slotsUsed := s₂.slotsUsed } : State).setVm s₂.vm).frames = .java g₀ :: r := hr
  have hcur : (({ U with heap := s₂.heap, slotsUsed := s₂.slotsUsed } : State).setVm s₂.vm).cur < (({ U with heap := s₂.heap, slotsUsed := s₂.slotsUsed } : State).setVm s₂.vm).threads.size := State.cur_lt_of_frames hr'
  have hs₂ : s₂ = ((({ U with heap := s₂.heap, slotsUsed := s₂.slotsUsed } : State).setVm s₂.vm).setTop g).pushFrame (.throwing x) := by
    refine e3.trans ?_
    rw [State.setTop_of_frames _ hr', State.pushFrame, State.frames_setFrames _ hcur, State.setFrames_setFrames, hf₂, State.calling_eq h.top, State.setFrames_setFrames, hr]
    rfl
  have hsame : U.sameButNew ({ U with heap := s₂.heap, slotsUsed := s₂.slotsUsed } : State) [] mc ms := by
    refine ⟨?_, q2, q3, q4, q5, q6⟩
    obtain ⟨t, ht, -⟩ := State.frames_cons hr
    show ({ U with heap := s₂.heap, slotsUsed := s₂.slotsUsed } : State) = { U.setFrames U.frames with heap := s₂.heap, slotsUsed := s₂.slotsUsed }
    rw [State.setFrames_self ht]
  subst hg
  have hst := S.same.trans (hsame.setVm s.vm)
  rw [List.append_nil] at hst
  refine ⟨x, (({ U with heap := s₂.heap, slotsUsed := s₂.slotsUsed } : State).setVm s₂.vm),
    ⟨S.admits, S.cas, S.clock, S.frames, S.room, S.hears, S.method, S.code, (S.here.setHeapUsed s₂.heap s₂.slotsUsed).setVm hW'.alike, S.tail, State.WarmedH.trans S.warmed hW', S.limits, S.bytes, hst⟩, hold, hobj, ?_⟩
  rw [← hs₂]
  exact hsteps
end TXB
end
section
/-! Calls of methods that throw; the making of an exception with a text; handlers; methods with handlers. -/
section TXC
variable {p : Program} {l : Launch} {e : Env} {R : Room} {s : State} {m : MethodId} {args : Array Value} {below : List Frame} {meth : Method} {c : Code} {H : Heap} {locs : List Loc} {cells slots : Nat} {Q : State → Prop}
variable {y : MethodName} {bytes cc : ByteArray} {maxL nL n index pc : Nat} {ret : Option FieldType} {ws Ts : List Cond} {rm : Room} {Pc : Array Value → State → Prop} {X own C : String} {mc ms : Nat} {As rest st0 : List Value} {ls : Array Slot} {b : Addr}
/-- what stands behind a call that threw: the old cells as they were, the object thrown -/
def tx_Th (X : String) (s : State) (H H1 : Heap) (x : Nat) : Prop := tx_Old H H1 ∧ ∃ cell : Cell, H1[x]? = some cell ∧ cell.vm.isStatics = false ∧ s.vm.findClass X = some cell.cls
theorem W.callSTh (S : CallFix p m c cc nL s args Ts own) (hM : MetTh l y ws rm Pc X mc ms) (cw : CallB R s args own index y bytes maxL ret ws rm mc ms n ∧ (Cond.static y).before args s = true) (hp : PreS s H Pc As)
    (hn : As.length = n) (hsize : ls.size = nL) (hstack : st0 = As.reverse ++ rest) (hW : (rest.map fun v => v.category).sum ≤ 8) (hdg : decode cc pc = .ok (.invokestatic index, 3)) (hf : cells + mc ≤ R.cells ∧ slots + ms ≤ R.slots)
    (kk : ∀ (x : Nat) (H1 : Heap), tx_Th X s H H1 x → WT p l e R s m args below meth c H1 locs (cells + mc) (slots + ms) Q (F0 m pc ls rest) x) : W p l e R s m args below meth c H locs cells slots Q (F0 m pc ls st0) := by
  obtain ⟨⟨hrc, hrs, hfr, hlo, hws, hcw, hcode, hini, hy, hlen, hl⟩, hstt⟩ := cw
  obtain ⟨hx, hb, hml, ho, -⟩ := S
  subst hstack
  intro T hT S0
  obtain ⟨mk, hnamed⟩ := Cond.code_named hcode
  obtain ⟨methM, cM, hmethM, -, -, -, -, -, -, hsigM⟩ := Cond.code_spec hnamed hcode
  have hstatic : methM.isStatic = true := Cond.static_spec hnamed hmethM hstt
  obtain ⟨kP, hkP, -⟩ := className_of_methodNamed hnamed
  have hinitP : kP.init = .initialized := Cond.initialized_spec (findClass_of_methodNamed hnamed) hkP hini
  have hdg' : decode c.code (F0 m pc ls (As.reverse ++ rest)).pc = .ok (.invokestatic index, 3) := by rw [hb]; exact hdg
  obtain ⟨vm₁, X₁, hstep₁⟩ := S0.invokestatic hx ho hl hnamed hmethM hstatic hkP hinitP hy (g := F0 m pc ls (As.reverse ++ rest)) rfl (argsL := As) (rest := rest) (hn.trans (hlen _ hsigM)) rfl hdg'
  obtain ⟨x, T', X', hold, hobj, hsteps⟩ := tx_back (W0 := 8) (bytes := bytes) (maxL := maxL) (ret := ret) hM hp.1 hrc hrs hfr hlo hws hcw (fun a' U hW => word_at hW (Or.inl (by first | rfl | simp [Cond.onTables, Cond.keeps, Cond.steady])) hini)
    X₁ (g := { F0 m pc ls (As.reverse ++ rest) with stack := rest }) rfl (hsize.trans hml.symm) (ig := .invokestatic index) (len := 3) hdg' (by show 2 * 0 + (rest.map fun v => v.category).sum ≤ 8; omega) (X₁.named hnamed) (a := As.toArray) hf.1 hf.2 (hp.2 (T.setVm vm₁) hT X₁.warmed)
  obtain ⟨cell, o1, o2, o3⟩ := hobj
  have hold' : tx_Old H T'.heap := by
    have h0 : (T.setVm vm₁).heap = H := hT
    rw [h0] at hold
    exact hold
  obtain ⟨t, a1, b1⟩ := kk x T'.heap ⟨hold', cell, o1, o2, by rw [← X'.warmed.alike.findClass]; exact o3⟩ T' rfl X'
  exact ⟨t, hstep₁ _ fun acts => by rw [doInvoke_state]; exact hsteps.trans a1, b1⟩
theorem W.callVTh (S : CallFix p m c cc nL s args Ts own) (hM : MetTh l y ws rm Pc X mc ms) (cw : CallW R s args own C index y bytes maxL ret ws rm mc ms n) (hp : PreV s H C b Pc As)
    (hn : As.length = n) (hsize : ls.size = nL) (hstack : st0 = As.reverse ++ .ref b :: rest) (hW : (rest.map fun v => v.category).sum ≤ 8) (hdg : decode cc pc = .ok (.invokevirtual index, 3)) (hf : cells + mc ≤ R.cells ∧ slots + ms ≤ R.slots)
    (kk : ∀ (x : Nat) (H1 : Heap), tx_Th X s H H1 x → WT p l e R s m args below meth c H1 locs (cells + mc) (slots + ms) Q (F0 m pc ls rest) x) : W p l e R s m args below meth c H locs cells slots Q (F0 m pc ls st0) := by
  obtain ⟨⟨hrc, hrs, hfr, hlo, hws, hcw, hcode, hini, hy, hlen, hl⟩, hinst, hsel⟩ := cw
  obtain ⟨hx, hb, hml, ho, -⟩ := S
  obtain ⟨hblind, ⟨cellB, hcB, hoB, hclB⟩, hPc⟩ := hp
  subst hstack
  intro T hT S0
  obtain ⟨mk, methM, hnamed, hmethM, hstM, habM⟩ := Cond.instanceMethod_spec hinst
  obtain ⟨methM', cM, hmethM', -, -, -, -, -, -, hsigM⟩ := Cond.code_spec hnamed hcode
  cases hmethM.symm.trans hmethM'
  obtain ⟨c2, r2, m2, q1, q2, q3, q4, kP, hkP, hkPi⟩ := Cond.selects_spec hsel
  cases hclB.symm.trans q1
  cases (State.methodFound?_of_named hnamed hy).symm.trans q2
  cases hnamed.symm.trans q3
  have hselP : selectMethod e.platform s.vm cellB.cls mk = .method mk := by rw [Launch.admits_selectMethod S0.admits]; exact q4
  have hdg' : decode c.code (F0 m pc ls (As.reverse ++ .ref b :: rest)).pc = .ok (.invokevirtual index, 3) := by rw [hb]; exact hdg
  obtain ⟨vm₁, X₁, hstep₁⟩ := S0.invokevirtual hx ho hl hnamed hmethM hstM hkP hkPi hy (a := b) (cell := cellB) (by rw [hT]; exact hcB)
    (fun z h => by rw [h] at hoB; cases hoB) hselP hmethM habM hkP hkPi (g := F0 m pc ls (As.reverse ++ .ref b :: rest)) rfl (argsL := As) (rest := rest) (hn.trans (hlen _ hsigM)) rfl hdg'
  obtain ⟨x, T', X', hold, hobj, hsteps⟩ := tx_back (W0 := 8) (bytes := bytes) (maxL := maxL) (ret := ret) hM hblind hrc hrs hfr hlo hws hcw (fun a' U hW => word_at hW (Or.inl (by first | rfl | simp [Cond.onTables, Cond.keeps, Cond.steady])) hini)
    X₁ (g := { F0 m pc ls (As.reverse ++ .ref b :: rest) with stack := rest }) rfl (hsize.trans hml.symm) (ig := .invokevirtual index) (len := 3) hdg' (by show 2 * 0 + (rest.map fun v => v.category).sum ≤ 8; omega) (X₁.named hnamed) (a := (Value.ref b :: As).toArray) hf.1 hf.2 (hPc (T.setVm vm₁) hT X₁.warmed)
  obtain ⟨cell, o1, o2, o3⟩ := hobj
  have hold' : tx_Old H T'.heap := by
    have h0 : (T.setVm vm₁).heap = H := hT
    rw [h0] at hold
    exact hold
  obtain ⟨t, a1, b1⟩ := kk x T'.heap ⟨hold', cell, o1, o2, by rw [← X'.warmed.alike.findClass]; exact o3⟩ T' rfl X'
  exact ⟨t, hstep₁ _ fun acts => by rw [doInvoke_state]; exact hsteps.trans a1, b1⟩
/-- the end of 'throw new X("..")': the constructor and athrow, out of a method without handlers -/
theorem W.throwS (hexec : p.tables.exec = Jvm.exec) (htr : l.stackTraces = false) (hb : c.code = cc) (hlocks : meth.locks = false) (hno : c.exceptionTable.isEmpty = true) {names : List String} {ic : Nat}
    (hown : s.vm.findClass own = some m.cls) (hcls : Bundle.fit X = true) (hnames : ∀ n ∈ names, Bundle.fit n = true) (h : ∀ a ∈ Bundle.ownAtoms own ic X names, a.before args s = true)
    {x : Nat} {cX : ClassId} {kX : Class} (hf : s.vm.findClass X = some cX) (hk : s.vm.classes[cX]? = some kX) (hcell : H[x]? = some (blank cX kX)) (hnew : s.heap.size ≤ x) {q : Nat}
    (hml : c.maxLocals = ls.size) (hd6 : decode cc pc = .ok (.invokespecial ic, 3)) (hd9 : decode cc (pc + 3) = .ok (.athrow, 1))
    (hRf : names.length + 3 < R.frames) (hRl : 1 + (13 * (names.length + 1) + 42) ≤ R.locals) (hcl : cells ≤ mc) (hsl : slots ≤ ms) :
    W p l e R s m args below meth c H [] cells slots (TQ below X s mc ms) (F0 m pc ls [.ref q, .ref x, .ref x]) := by
  intro T hT S
  have hem : ∀ z ∈ c.exceptionTable.toList, covers z (pc + 3) = false := by
    have h0 : c.exceptionTable.size = 0 := by simpa [Array.isEmpty] using hno
    have h1 : c.exceptionTable.toList = [] := List.eq_nil_of_length_eq_zero (by simpa using h0)
    intro z hz
    rw [h1] at hz
    cases hz
  have htr' : e.platform.stackTraces = false := by rw [S.admits.platform]; exact htr
  obtain ⟨U, hst, hrun, hend, hW, hsame, ce, hce, hO⟩ := S.ctorThrowS hexec htr' hown hcls hnames h (fun z hz => by cases hz) hf hk (by rw [hT]; exact hcell) hnew (msg := .ref q) rfl (g := F0 m pc ls [.ref q, .ref x, .ref x]) rfl hml.symm rfl rfl (rest := []) rfl (by rw [hb]; exact hd6) (by rw [hb]; exact hd9) hem hRf (by show 2 * 0 + 1 + _ ≤ _; omega) hlocks
  refine ⟨U, hst, .threw x, hrun, hend, ⟨x, rfl, ⟨ce, hce, by rw [hO.vm]; rfl, ?_⟩, ?_⟩, hW, hsame.mono hcl hsl⟩
  · rw [hW.alike.findClass]; exact hO.cls
  · refine ⟨hsame.2.1, fun z hz => ?_⟩
    have hz2 : s.heap[z]? = some s.heap[z] := Array.getElem?_eq_getElem hz
    rw [hz2]
    exact hsame.old_cell hz2
end TXC
section TXD
variable {e : Env} {s S : State} {f : JFrame} {x : Addr} {cell : Cell}
theorem tx_step {z : ExceptionTableEntry} {t : List ExceptionTableEntry} {k : ClassId} {Q : Handler → Pre} {E : CtlPost} {d : Bool} {acts : List Action} (hz : covers z f.pc = true) (h0 : z.catchType ≠ 0)
    (hl : S.vm.ClassLinks e.platform f.method.cls z.catchType k) (hcell : S.heap[x]? = some cell) (hobj : ∀ k, cell.vm ≠ .statics k) (h1 : ∃ k, S.vm.classes[cell.cls]? = some k) (h2 : ∃ k', S.vm.classes[k]? = some k') :
    wp (findHandler.go f x (z :: t)) Q E e d acts S ↔ if S.vm.assignable cell.cls k = true then Q (.found z.handlerPc) d acts (S.setVm (S.vm.noted f.method.cls z.catchType (.cls k))) else wp (findHandler.go f x t) Q E e d acts (S.setVm (S.vm.noted f.method.cls z.catchType (.cls k))) := by
  simp only [covers] at hz
  obtain ⟨ha, ht⟩ := (resolveClass_links e.toSetting hl).op (op := VmOp.resolveClass f.method.cls z.catchType) rfl
  have hal : S.vm.Alike (S.vm.noted f.method.cls z.catchType (.cls k)) := (Vm.Alike.refl S.vm).noted _ _ _
  obtain ⟨k1, hk1⟩ := h1
  obtain ⟨k2, hk2⟩ := h2
  obtain ⟨k1', hk1', -⟩ := hal.2.2 _ _ hk1
  obtain ⟨k2', hk2', -⟩ := hal.2.2 _ _ hk2
  have hfit : (S.vm.noted f.method.cls z.catchType (.cls k)).assignable cell.cls k = S.vm.assignable cell.cls k := by rw [hal.assignable]
  cases hh : S.vm.assignable cell.cls k <;> rw [hh] at hfit <;> simp [findHandler.go, hz, h0, ha, ht, hcell, hobj, hk1', hk2', hfit, VmOp.dirties, VmOp.acts]
/-- a row of a table of handlers: it links to a class to which objects of the class k can, or can't, be assigned -/
def tx_row (s : State) (args : Array Value) (own : String) (k : ClassId) (z : ExceptionTableEntry) (b : Bool) : Prop :=
  z.catchType ≠ 0 ∧ ∃ (N : String) (cN : ClassId), (Cond.classLink own z.catchType N).before args s = true ∧ s.vm.findClass N = some cN ∧ s.vm.assignable k cN = b
theorem tx_go {args : Array Value} {own : String} (hown : s.vm.findClass own = some f.method.cls) (hpl : e.platform.magicAccessors = ({} : Platform).magicAccessors) (hobj : ∀ k, cell.vm ≠ .statics k) (hk : ∃ k, s.vm.classes[cell.cls]? = some k)
    {r : ExceptionTableEntry} {rest : List ExceptionTableEntry} (hr : covers r f.pc = true) (hyes : tx_row s args own cell.cls r true) :
    ∀ (pre : List ExceptionTableEntry) (S : State), s.WarmedH S.vm → S.heap[x]? = some cell → (∀ z ∈ pre, covers z f.pc = true ∧ tx_row s args own cell.cls z false) →
      ∃ vm', s.WarmedH vm' ∧ ∀ (Q : Handler → Pre) (E : CtlPost) (d : Bool) (acts : List Action), wp (findHandler.go f x (pre ++ r :: rest)) Q E e d acts S ↔ Q (.found r.handlerPc) d acts (S.setVm vm') := by
  have one : ∀ (z : ExceptionTableEntry) (b : Bool), tx_row s args own cell.cls z b → ∃ k, s.vm.ClassLinks e.platform f.method.cls z.catchType k ∧ (∃ k', s.vm.classes[k]? = some k') ∧ s.vm.assignable cell.cls k = b := by
    intro z b ⟨_, N, cN, h1, h2, h3⟩
    obtain ⟨k, hk1, hk2⟩ := Cond.classLink_spec hown h1 e.platform hpl
    cases h2.symm.trans hk1
    exact ⟨cN, hk2, Vm.classAt_of_findClass h2, h3⟩
  have warm : ∀ (z : ExceptionTableEntry) (b : Bool) (S : State), tx_row s args own cell.cls z b → s.WarmedH S.vm → ∃ k, S.vm.ClassLinks e.platform f.method.cls z.catchType k ∧ (∃ k', S.vm.classes[k]? = some k') ∧ S.vm.assignable cell.cls k = b ∧ s.WarmedH (S.vm.noted f.method.cls z.catchType (.cls k)) := by
    intro z b S hz hW
    obtain ⟨k, a1, ⟨a2, a3⟩, a4⟩ := one z b hz
    obtain ⟨_, _, _, _, hd, _, _, _, _, _, _, hopen⟩ := a1.here
    obtain ⟨k', b2, -⟩ := hW.alike.2.2 _ _ a3
    exact ⟨k, hW.classLinks a1, ⟨k', b2⟩, by rw [hW.alike.assignable]; exact a4, hW.noted hd hopen (State.rightAt_cls a1)⟩
  obtain ⟨k0, hk0⟩ := hk
  intro pre
  induction pre with
  | nil =>
    intro S hW hcell _
    obtain ⟨k0', hk0', -⟩ := hW.alike.2.2 _ _ hk0
    obtain ⟨k, a1, a2, a3, a4⟩ := warm r true S hyes hW
    exact ⟨_, a4, fun Q E d acts => by rw [List.nil_append, tx_step hr hyes.1 a1 hcell hobj ⟨k0', hk0'⟩ a2, if_pos a3]⟩
  | cons z t ih =>
    intro S hW hcell hpass
    obtain ⟨k0', hk0', -⟩ := hW.alike.2.2 _ _ hk0
    obtain ⟨hz, hzr⟩ := hpass z List.mem_cons_self
    obtain ⟨k, a1, a2, a3, a4⟩ := warm z false S hzr hW
    obtain ⟨vm', b1, b2⟩ := ih (S.setVm (S.vm.noted f.method.cls z.catchType (.cls k))) a4 hcell (fun u hu => hpass u (List.mem_cons_of_mem _ hu))
    exact ⟨vm', b1, fun Q E d acts => by rw [List.cons_append, tx_step hz hzr.1 a1 hcell hobj ⟨k0', hk0'⟩ a2, if_neg (by rw [a3]; decide)]; exact b2 Q E d acts⟩
/-- into a handler -/
theorem tx_caught {tb : Tables} {target : State} {g : JFrame} {c : Code} {below : List Frame} (h : At S g.method c below) {pc : Nat} {vm' : Vm}
    (hfind : ∀ (Q : Handler → Pre) (E : CtlPost) (d : Bool) (acts : List Action), wp (findHandler g x) Q E e d acts ((S.setTop g).pushFrame (.throwing x)) ↔ Q (.found pc) d acts (((S.setTop g).pushFrame (.throwing x)).setVm vm'))
    (hrest : Steps tb e below ((S.setVm vm').setTop { g with pc := pc, stack := [.ref x] }) target) : Steps tb e below ((S.setTop g).pushFrame (.throwing x)) target := by
  obtain ⟨hgo, hw⟩ := h.throwing x
  refine Steps.head hgo hw ?_
  have key : (stepThrowing e ((S.setTop g).pushFrame (.throwing x)) x (.java g :: S.frames.tail)).1 = (((S.setTop g).pushFrame (.throwing x)).setVm vm').setFrames (.java { g with pc := pc, stack := [.ref x] } :: S.frames.tail) := by
    simp only [stepThrowing, searchFrame, vmDo]
    generalize hr : Sem.go _ e false [] ((S.setTop g).pushFrame (.throwing x)) = res
    obtain ⟨as, rfl, ha⟩ := Sem.eq_ok_of hr (a := Handler.found pc) (s' := ((S.setTop g).pushFrame (.throwing x)).setVm vm') (acts' := []) (by simp [hfind _ _ _ _])
    rfl
  rw [stepThread_throwing (frames_entered h.top _), key]
  obtain ⟨g₀, hg⟩ := Option.isSome_iff_exists.mp h.top
  obtain ⟨r, hr⟩ := State.topJava?_eq_some.mp hg
  have hr' : (S.setVm vm').frames = .java g₀ :: r := hr
  rw [State.setTop_of_frames _ hr'] at hrest
  have e1 : (((S.setTop g).pushFrame (.throwing x)).setVm vm').setFrames (.java { g with pc := pc, stack := [.ref x] } :: S.frames.tail) = (S.setVm vm').setFrames (.java { g with pc := pc, stack := [.ref x] } :: r) := by
    rw [State.pushFrame, State.setTop_of_frames _ hr, State.setFrames_setFrames, hr]
    show ((S.setVm vm').setFrames _).setFrames _ = _
    rw [State.setFrames_setFrames]
    rfl
  rw [e1]
  exact hrest
end TXD
section TXE
variable {p : Program} {l : Launch} {e : Env} {R : Room} {s : State} {m : MethodId} {args : Array Value} {below : List Frame} {meth : Method} {c : Code} {H : Heap} {locs : List Loc} {cells slots : Nat} {Q : State → Prop}
theorem WT.catch {own : String} {ls : Array Slot} {pc : Nat} {st : List Value} {x : Nat} {cell : Cell} (hown : s.vm.findClass own = some m.cls) (hcell : H[x]? = some cell) (hobj : cell.vm.isStatics = false) (hk : ∃ k, s.vm.classes[cell.cls]? = some k)
    (pre rest : List ExceptionTableEntry) (r : ExceptionTableEntry) (hsplit : c.exceptionTable.toList = pre ++ r :: rest) (hpre : ∀ z ∈ pre, covers z pc = true ∧ tx_row s args own cell.cls z false) (hr : covers r pc = true) (hyes : tx_row s args own cell.cls r true)
    (k : W p l e R s m args below meth c H locs cells slots Q (F0 m r.handlerPc ls [.ref x])) : WT p l e R s m args below meth c H locs cells slots Q (F0 m pc ls st) x := by
  intro T hT S
  have hpl : e.platform.magicAccessors = ({} : Platform).magicAccessors := by rw [S.admits.platform]
  have hvm : (((T.setTop (F0 m pc ls st)).pushFrame (.throwing x))).vm = T.vm := Stand.throwing_vm T _ x
  have hheap : (((T.setTop (F0 m pc ls st)).pushFrame (.throwing x))).heap = T.heap := Stand.throwing_heap T _ x
  obtain ⟨vm', hW', hf⟩ := tx_go (e := e) (s := s) (f := F0 m pc ls st) (x := x) (cell := cell) (args := args) (own := own) hown hpl (VmData.ne_statics_of hobj) hk (rest := rest) hr hyes pre ((T.setTop (F0 m pc ls st)).pushFrame (.throwing x)) (by rw [hvm]; exact S.warmed) (by rw [hheap, hT]; exact hcell) hpre
  obtain ⟨t, a1, b1⟩ := k (T.setVm vm') hT (S.noted hW')
  refine ⟨t, tx_caught (vm' := vm') (pc := r.handlerPc) (g := F0 m pc ls st) S.here (fun Q E d acts => ?_) a1, b1⟩
  rw [W.findHandler_eq (by rw [hvm]; exact S.method') S.code, hsplit]
  exact hf Q E d acts
/-- a contract of a method with handlers, out of its walk -/
theorem Met.ofWH {y : MethodName} {ws ws' : List Cond} {rm : Room} {Pc : Array Value → State → Prop} {Qc : Array Value → State → Outcome → State → Prop} {mc ms : Nat} {free : Addr → Prop} {cc : ByteArray} {maxL : Nat} {ret : Option FieldType} {hs : List (Nat × Nat × Nat × Nat)}
    (hy : plainName y.cls = true) (hw : ws = Cond.codeWith y cc maxL ret hs :: ws')
    (body : ∀ p e s m args below meth c s₁, BodyLoose p l y (headSpec ws rm) cc maxL ret e s m args below meth c s₁ → c.maxLocals = maxL → c.exceptionTable.toList = tableOf hs → Pc args s →
      W p l e (headSpec ws rm).room s m args below meth c s.heap [] 0 0 (MQ below Qc args s mc ms free) (entryFrame m args maxL)) : Met l y ws rm Pc Qc mc ms free := by
  refine MetFree.of_bodyS (code := cc) (maxLocals := maxL) (ret := ret) hy ?_ ?_
  · intro args s m h hn
    obtain ⟨m', meth, c, h0, h1, h2, h3, h4, -, h5, h6, -⟩ := Cond.codeWith_spec (atoms_spec (ws := ws) h _ (by rw [hw]; exact List.mem_cons_self))
    cases hn.symm.trans h0
    exact ⟨meth, c, h1, h2, h3, h4, h5, h6⟩
  · intro p e s m args below meth c s₁ B hml hP _
    have hh0 : s₁.heap = s.heap := by rw [B.state]; rfl
    have htab : c.exceptionTable.toList = tableOf hs := by
      obtain ⟨m', meth', c', h0, h1, h2, -, -, h5, -⟩ := Cond.codeWith_spec (atoms_spec (ws := ws) B.pre _ (by rw [hw]; exact List.mem_cons_self))
      cases B.named.symm.trans h0
      cases B.method.symm.trans h1
      cases (Stand.of_body B).code.symm.trans h2
      rw [← h5, table_eq]
    obtain ⟨t, a1, o, b1, b2, b3⟩ := body p e s m args below meth c s₁ B hml htab hP s₁ hh0 (Stand.of_body B)
    exact ⟨t, o, a1, b1, b2, ⟨b3.1, b3.2⟩⟩
end TXE
end
section
/-! Contracts that return or throw (MetX), and how a contract of one end comes out of them. -/
def tx_FE (st t : State) (L : List Loc) (mc ms : Nat) : Prop := st.WarmedH t.vm ∧ st.sameButNew ({ t with vm := st.vm } : State) L mc ms
def MetX (l : Launch) (y : MethodName) (ws : List Cond) (rm : Room) (Pc : Array Value → State → Prop) (Qc : Array Value → State → Outcome → State → Prop) (mc ms : Nat) (free : Addr → Prop) : Prop :=
  MetFree l y (headSpec ws rm) Pc (fun _ _ _ _ _ => True) (fun a st o t => Qc a st o t ∧ ∃ L, tx_FE st t L mc ms ∧ ∀ q ∈ L, free q.base)
def MQX (below : List Frame) (Qc : Array Value → State → Outcome → State → Prop) (a : Array Value) (s : State) (mc ms : Nat) (free : Addr → Prop) : State → Prop := fun t =>
  ∃ o, t.status = .running ∧ Ended t below o ∧ Qc a s o t ∧ ∃ L, tx_FE s t L mc ms ∧ ∀ q ∈ L, free q.base
section TXF
variable {p : Program} {l : Launch} {e : Env} {R : Room} {s : State} {m : MethodId} {args : Array Value} {below : List Frame} {meth : Method} {c : Code} {H : Heap} {locs : List Loc} {cells slots : Nat} {Q Q' : State → Prop}
variable {y : MethodName} {ws ws' : List Cond} {rm : Room} {Pc : Array Value → State → Prop} {Qc : Array Value → State → Outcome → State → Prop} {mc ms : Nat} {free : Addr → Prop} {cc : ByteArray} {maxL : Nat} {ret : Option FieldType}
theorem W.mono {g : JFrame} (h : ∀ t, Q t → Q' t) (k : W p l e R s m args below meth c H locs cells slots Q g) : W p l e R s m args below meth c H locs cells slots Q' g := by
  intro T hT S
  obtain ⟨t, a1, b1⟩ := k T hT S
  exact ⟨t, a1, h t b1⟩
theorem MQ.toX {t : State} (h : MQ below Qc args s mc ms free t) : MQX below Qc args s mc ms free t := by
  obtain ⟨o, h1, h2, h3, L, ⟨-, h4, h5⟩, h6⟩ := h
  exact ⟨o, h1, h2, h3, L, ⟨h4, h5⟩, h6⟩
theorem W.toX {g : JFrame} (k : W p l e R s m args below meth c H locs cells slots (MQ below Qc args s mc ms free) g) : W p l e R s m args below meth c H locs cells slots (MQX below Qc args s mc ms free) g := W.mono (fun _ h => MQ.toX h) k
theorem MetX.ofW (hy : plainName y.cls = true) (hw : ws = Cond.code y cc maxL ret :: ws')
    (body : ∀ p e s m args below meth c s₁, BodyLoose p l y (headSpec ws rm) cc maxL ret e s m args below meth c s₁ → c.maxLocals = maxL → Pc args s →
      W p l e (headSpec ws rm).room s m args below meth c s.heap [] 0 0 (MQX below Qc args s mc ms free) (entryFrame m args maxL)) : MetX l y ws rm Pc Qc mc ms free := by
  refine MetFree.of_bodyS (code := cc) (maxLocals := maxL) (ret := ret) hy ?_ ?_
  · intro args s m h hn
    obtain ⟨meth, c, h1, h2, h3, h4, h5, h6, -, -⟩ := Cond.code_spec hn (atoms_spec (ws := ws) h _ (by rw [hw]; exact List.mem_cons_self))
    exact ⟨meth, c, h1, h2, h3, h4, h5, h6⟩
  · intro p e s m args below meth c s₁ B hml hP _
    have hh0 : s₁.heap = s.heap := by rw [B.state]; rfl
    obtain ⟨t, a1, o, b1, b2, b3⟩ := body p e s m args below meth c s₁ B hml hP s₁ hh0 (Stand.of_body B)
    exact ⟨t, o, a1, b1, b2, b3⟩
theorem WT.widen {g : JFrame} {x k n : Nat} (h1 : cells ≤ k) (h2 : slots ≤ n) (kk : WT p l e R s m args below meth c H locs k n Q g x) : WT p l e R s m args below meth c H locs cells slots Q g x :=
  fun T hT S => kk T hT { S with same := S.same.mono h1 h2 }
/-- out of a method that has no handlers, its contract one of two ends -/
theorem WT.leaveX {g : JFrame} {x : Nat} (hlocks : meth.locks = false) (hno : c.exceptionTable.isEmpty = true) (hg : g.method = m) (hlk : g.locked = none) (hen : g.entered = [])
    (hq : ∀ t : State, t.heap = H → s.WarmedH t.vm → Qc args s (.threw x) t) (hf : ∀ q ∈ locs, free q.base) :
    WT p l e R s m args below meth c H locs cells slots (MQX below Qc args s cells slots free) g x := by
  intro T hT S
  have hem : ∀ z ∈ c.exceptionTable.toList, covers z g.pc = false := by
    have h0 : c.exceptionTable.size = 0 := by simpa [Array.isEmpty] using hno
    have h1 : c.exceptionTable.toList = [] := List.eq_nil_of_length_eq_zero (by simpa using h0)
    intro z hz
    rw [h1] at hz
    cases hz
  obtain ⟨hwalk, hrun, hend, hW, hsame⟩ := S.leaveThrown x hg hlk hen hem hlocks
  exact ⟨_, hwalk, .threw x, hrun, hend, hq _ hT hW, locs, ⟨hW, hsame⟩, hf⟩
/-- the contract of a method that returns -/
theorem MetX.toMet {Qc' : Array Value → State → Outcome → State → Prop} (h : MetX l y ws rm Pc Qc mc ms free) (hq : ∀ a st o t, Qc a st o t → Qc' a st o t) (hr : ∀ a st o t, Qc a st o t → ∃ v, o = .returned v) : Met l y ws rm Pc Qc' mc ms free := by
  intro p e h1 h2 h3 s m args below h4 h5 h6 h7
  obtain ⟨n, o, g1, g2, g3, g4, L, g5, g6⟩ := h p e h1 h2 h3 s m args below h4 h5 h6 h7
  exact ⟨n, o, g1, g2, g3, hq _ _ _ _ g4, L, ⟨hr _ _ _ _ g4, g5.1, g5.2⟩, g6⟩
/-- the contract of a method that throws, with nothing old changed -/
theorem MetX.toTh {X : String} (h : MetX l y ws rm Pc Qc mc ms free) (hq : ∀ a st o t, Qc a st o t → tx_Q X st o t) : MetTh l y ws rm Pc X mc ms := by
  intro p e h1 h2 h3 s m args below h4 h5 h6 h7
  obtain ⟨n, o, g1, g2, g3, g4, L, g5, g6⟩ := h p e h1 h2 h3 s m args below h4 h5 h6 h7
  have hQ := hq _ _ _ _ g4
  refine ⟨n, o, g1, g2, g3, hQ, g5.1, ?_⟩
  obtain ⟨x, -, -, hold⟩ := hQ
  obtain ⟨e1, e2, e3, e4, e5, e6⟩ := g5.2
  refine ⟨e1, e2, e3, e4, e5, fun a c hc => ⟨c, ?_, rfl, rfl, fun _ _ => rfl⟩⟩
  have hlt : a < s.heap.size := (Array.getElem?_eq_some_iff.mp hc).1
  show (stepsAlone p.tables e n s).heap[a]? = some c
  rw [hold.2 a hlt]
  exact hc
end TXF
/-- static references that nobody writes, read as the words ask -/
theorem tx_isRef {C n d : String} {A : Nat → Prop} {U : State} {args : Array Value} (h : va_Zq C n d A U U.heap) : (Cond.isRef (.static C n d)).before args U = true := by
  rcases h with ⟨cf, kf, fi, f, a, cell, h1, h2, h3, h4, h5, h6, h7, h8⟩ | ⟨t, cf, kf, fi, f, a, cell, h1, h2, h3, h4, h5, h6, h7, h8⟩
  · have he : (Term.static C n d).eval args U none [] U = cell.slots[f.slot]? := by simp [Term.eval, State.fieldNamed?, h1, h2, h4, h5, h6]
    simp [Cond.before, Cond.holds, Cond.value, he, h7]
  · have he : (Term.static C n d).eval args U none [] U = cell.slots[f.slot]? := by simp [Term.eval, State.fieldNamed?, h1, h2, h4, h5, h6]
    simp [Cond.before, Cond.holds, Cond.value, he, h7]
section TXG
variable {p : Program} {l : Launch} {e : Env} {R : Room} {s : State} {m : MethodId} {args : Array Value} {below : List Frame} {meth : Method} {c : Code} {H : Heap} {locs : List Loc} {cells slots : Nat}
variable {y : MethodName} {bytes cc : ByteArray} {maxL nL n index mc ms : Nat} {ret : Option FieldType} {ws Ts : List Cond} {rm : Room} {Pc : Array Value → State → Prop} {Qc : Array Value → State → Outcome → State → Prop} {free : Addr → Prop} {own : String} {As rest : List Value} {g : JFrame} {hs : List (Nat × Nat × Nat × Nat)}
/-- a static method with handlers, called -/
theorem va_runSH (S : CallFix p m c cc nL s args Ts own) (hM : Met l y ws rm Pc Qc mc ms free) (hrc : rm.cells = mc) (hrs : rm.slots = ms) (hfr : rm.frames + 1 ≤ R.frames) (hlo : 8 + (maxL + 11) + rm.locals ≤ R.locals)
    (hws : ∀ w ∈ ws, ∀ (a' : Array Value) (U : State), s.WarmedH U.vm → w.before a' U = true) (hcw : Cond.codeWith y bytes maxL ret hs ∈ ws) (hcode : (Cond.codeWith y bytes maxL ret hs).before args s = true) (hini : (Cond.initialized y.cls).before args s = true)
    (hy : y.cls ≠ "java/lang/invoke/MethodHandle" ∧ y.cls ≠ "java/lang/invoke/VarHandle") (hlen : ∀ sig, parseMethodDescriptor y.desc = some sig → n = sig.parameters.length) (hl : (Cond.methodLink own index y).before args s = true) (hstt : (Cond.static y).before args s = true) (hp : PreS s H Pc As)
    (hg : g.method = m) (hn : As.length = n) (hsize : g.locals.size = nL) (hstack : g.stack = As.reverse ++ rest) (hW : 2 * g.monitorRoom + (rest.map fun v => v.category).sum ≤ 8) (hdg : decode cc g.pc = .ok (.invokestatic index, 3)) (hf : cells + mc ≤ R.cells ∧ slots + ms ≤ R.slots) :
    va_Run p l e R s m args below meth c H locs cells slots mc ms g rest (Qc As.toArray) (free) := by
  have hK : Back l R p e below s args y 3 8 (PreOf R mc ms Pc) (PostOf Qc mc ms free) := by
    refine Back.of_freeWith (S := headSpec ws rm) (P := Pc) (K := fun _ _ _ _ _ => True) (Q := fun a st o t => Qc a st o t ∧ ∃ L, FrameEnd st o t L mc ms ∧ ∀ q ∈ L, free q.base) (bytes := bytes) (maxL := maxL) (ret := ret) (handlers := hs)
      (E := fun a st o t L k n => k = mc ∧ n = ms ∧ ∀ q ∈ L, free q.base) hM hfr hlo ?_ ?_ (fun _ _ _ _ _ _ _ _ _ => trivial) ?_ ?_
    · intro m meth c A a X hp
      exact ⟨atoms_intro fun w hw => hws w hw _ _ X.warmed, hws _ hcw _ _ X.warmed, word_at X.warmed (Or.inl (by first | rfl | simp [Cond.onTables, Cond.keeps, Cond.steady])) hini, by rw [show (headSpec ws rm).room.cells = mc from hrc]; exact hp.1, by rw [show (headSpec ws rm).room.slots = ms from hrs]; exact hp.2.1⟩
    · intro m meth c A a g mk X hp'
      exact hp.1 _ _ _ _ hp'.2.2
    · intro a st o t ⟨hq, L, hF, hL⟩
      exact ⟨L, mc, ms, hF, rfl, rfl, hL⟩
    · intro m meth c A a g mk v t L k n X hp hq hF ⟨e1, e2, hL⟩
      subst e1; subst e2
      exact ⟨g, mk, t, L, rfl, rfl, hq.1, rfl, hL, rfl, rfl⟩
  obtain ⟨hx, hb, hml, ho, -⟩ := S
  intro T hT X
  obtain ⟨mk, methM, cM, hnamed, hmethM, -, -, -, -, -, -, hsigM⟩ := Cond.codeWith_spec hcode
  have hstatic : methM.isStatic = true := Cond.static_spec hnamed hmethM hstt
  obtain ⟨kP, hkP, -⟩ := className_of_methodNamed hnamed
  have hinitP : kP.init = .initialized := Cond.initialized_spec (findClass_of_methodNamed hnamed) hkP hini
  have hdg' : decode c.code g.pc = .ok (.invokestatic index, 3) := by rw [hb]; exact hdg
  obtain ⟨vm₁, X₁, hstep₁⟩ := X.invokestatic hx ho hl hnamed hmethM hstatic hkP hinitP hy (g := g) hg (argsL := As) (rest := rest) (hn.trans (hlen _ hsigM)) hstack hdg'
  obtain ⟨v, ⟨U', l2, c2, s2⟩, X', ⟨g', mk', t, L, e1, e2, hq, h1, hL, h2, h3⟩, hsteps⟩ := hK m meth c ⟨T.setVm vm₁, locs, cells, slots⟩ { g with stack := rest } (.invokestatic index) mk As.toArray X₁ hg (hsize.trans hml.symm) hdg' hW (X₁.named hnamed) ⟨hf.1, hf.2, hp.2 (T.setVm vm₁) hT X₁.warmed⟩
  dsimp only [Pt.U, Pt.locs, Pt.cells, Pt.slots] at X' e1 e2 h1 h2 h3 hsteps
  subst h1; subst h2; subst h3
  exact ⟨v, (T.setVm vm₁).calling g' mk' As.toArray, t, U', L, hT, X', hL, e1, e2, hq, fun target h => hstep₁ _ fun acts => by rw [doInvoke_state]; exact hsteps.trans h⟩
end TXG
end
section
/-! One world for all: n cells at the addresses ad, holding en; all of them, and all that is made, lie from base on. -/
def gw (ad : Nat → Nat) (en : Nat → va_E) (n : Nat) : va_W := (List.range n).map (fun i => (ad i, en i))
abbrev gA (base : Nat) : Nat → Prop := fun q => base ≤ q
theorem gw_at {ad : Nat → Nat} {en : Nat → va_E} {n i : Nat} (h : i < n) : (gw ad en n)[i]? = some (ad i, en i) := by
  unfold gw
  rw [List.getElem?_map, List.getElem?_range h]
  rfl
theorem gw_none {ad : Nat → Nat} {en : Nat → va_E} {n i : Nat} (h : ¬ i < n) : (gw ad en n)[i]? = none := by
  unfold gw
  simp [Nat.not_lt.mp h]
theorem gw_set {ad : Nat → Nat} {en : Nat → va_E} {n i : Nat} {x : va_E} (hi : i < n) : (gw ad en n).set i (ad i, x) = gw ad (va_up en i x) n := by
  apply List.ext_getElem?
  intro j
  rw [List.getElem?_set]
  by_cases hj : j < n
  · rw [gw_at hj, gw_at hj]
    by_cases hij : i = j
    · subst hij
      have hl : i < (gw ad en n).length := by unfold gw; simpa using hi
      simp [hl, va_up]
    · have hji : ¬ j = i := fun h => hij h.symm
      simp [hij, hji, va_up]
  · rw [gw_none hj, gw_none hj]
    by_cases hij : i = j
    · subst hij; exact absurd hi hj
    · simp [hij]
theorem gw_eq {ad : Nat → Nat} {e1 e2 : Nat → va_E} {n : Nat} (h : ∀ j, j < n → e1 j = e2 j) : gw ad e1 n = gw ad e2 n := by
  unfold gw
  apply List.map_congr_left
  intro i hi
  rw [h i (List.mem_range.mp hi)]
theorem gw_D {ad : Nat → Nat} {en : Nat → va_E} {n base : Nat} (hinj : ∀ i j, i < n → j < n → ad i = ad j → i = j) (hb : ∀ i, i < n → base ≤ ad i) : va_D (gA base) (gw ad en n) := by
  have lt : ∀ (i : Nat) (p : Nat × va_E), (gw ad en n)[i]? = some p → i < n ∧ p = (ad i, en i) := by
    intro i p h
    by_cases hi : i < n
    · rw [gw_at hi] at h; exact ⟨hi, (Option.some.inj h).symm⟩
    · rw [gw_none hi] at h; cases h
  refine ⟨fun i j p q hp hq hpq => ?_, fun k q hk => ?_⟩
  · obtain ⟨h1, rfl⟩ := lt i p hp
    obtain ⟨h2, rfl⟩ := lt j q hq
    exact hinj i j h1 h2 hpq
  · obtain ⟨h1, rfl⟩ := lt k q hk
    exact hb k h1
/-- where the world lies -/
def gGeo (ad : Nat → Nat) (n base : Nat) : Prop := (∀ i j, i < n → j < n → ad i = ad j → i = j) ∧ ∀ i, i < n → base ≤ ad i
theorem gGeo.D {ad : Nat → Nat} {en : Nat → va_E} {n base : Nat} (h : gGeo ad n base) : va_D (gA base) (gw ad en n) := gw_D h.1 h.2
section GWR
variable {p : Program} {l : Launch} {e : Env} {R : Room} {s : State} {m : MethodId} {args : Array Value} {below : List Frame} {meth : Method} {c : Code} {H : Heap} {locs : List Loc} {cells slots : Nat} {Q : State → Prop}
variable {cc : ByteArray} {pc nL : Nat} {ls : Array Slot} {rest : List Value} {D : va_G} {cl : List vw_C} {tys : List (ClassId × FieldType)} {H0 : Heap} {ad : Nat → Nat} {en : Nat → va_E} {n base : Nat} {Ts : List Cond} {own C : String} {T : u_T} {N ci index : Nat}
theorem g_get (F : CallFix p m c cc nL s args Ts own) (hK : va_K D cl tys s) (hP : va_P D cl (gw ad en n) H) (i : Nat) (hi : i < n) {fs : List Value} (he : en i = .inr (ci, fs)) (hc : cl[ci]? = some (C, T, N)) (hin : ∀ w ∈ u_ws C T N, w ∈ Ts) (k : Nat) (hk : k < N)
    (hlink : Cond.fieldLink own index (T k).1 (T k).2.1 (T k).2.2.1 ∈ Ts) {v : Value} (hv : fs[k]? = some v) (hdg : decode cc pc = .ok (.getfield index, 3))
    (kk : W p l e R s m args below meth c H locs cells slots Q (F0 m (pc + 3) ls (v :: rest))) : W p l e R s m args below meth c H locs cells slots Q (F0 m pc ls (.ref (ad i) :: rest)) :=
  va_get F.1 F.2.1 F.2.2.2.2 hin F.2.2.2.1 hK hP i (by rw [gw_at hi, he]) hc k hk (F.2.2.2.2 _ hlink) (fun _ h => h) hv hdg kk
theorem g_put (F : CallFix p m c cc nL s args Ts own) (hK : va_K D cl tys s) (G : gGeo ad n base) (hP : va_P D cl (gw ad en n) H) (hS : va_S (gA base) H0 H locs) (i : Nat) (hi : i < n) {fs : List Value} (he : en i = .inr (ci, fs)) (hc : cl[ci]? = some (C, T, N)) (hin : ∀ w ∈ u_ws C T N, w ∈ Ts)
    (ty0 : Nat → FieldType) (hty : ∀ k, k < N → parseFieldDescriptor (T k).2.2.1 = some (ty0 k)) (hnm : ∀ a, a < N → ∀ b, b < N → a ≠ b → (T a).2.1 ≠ (T b).2.1) (k : Nat) (hk : k < N)
    (hlink : Cond.fieldLink own index (T k).1 (T k).2.1 (T k).2.2.1 ∈ Ts) (hfin : (T k).2.2.2 = false) {ty : FieldType} {v : Value} (hd : parseFieldDescriptor (T k).2.2.1 = some ty) (hn : narrow ty v = v) (hfit : fits ty v = true) (hl : k < fs.length) (hdg : decode cc pc = .ok (.putfield index, 3))
    (kk : ∀ (H1 : Heap) (locs1 : List Loc), va_P D cl (gw ad (va_up en i (.inr (ci, fs.set k v))) n) H1 → va_S (gA base) H0 H1 locs1 → W p l e R s m args below meth c H1 locs1 cells slots Q (F0 m (pc + 3) ls rest)) : W p l e R s m args below meth c H locs cells slots Q (F0 m pc ls (v :: .ref (ad i) :: rest)) :=
  va_put F.1 F.2.1 F.2.2.2.2 hin ty0 hty hnm F.2.2.2.1 hK hP G.D hS i (by rw [gw_at hi, he]) hc k hk (F.2.2.2.2 _ hlink) (fun _ h => h) hfin hd hn hfit hl hdg (fun H1 locs1 h1 _ h3 => kk H1 locs1 (by rw [gw_set hi] at h1; exact h1) h3)
theorem g_iald (F : CallFix p m c cc nL s args Ts own) (hK : va_K D cl tys s) (hP : va_P D cl (gw ad en n) H) (i : Nat) (hi : i < n) (t0 : Nat) {cA : ClassId} {k : Nat} {f : Nat → Int32} (he : en i = .inl (cA, k, .inl f)) (ht : tys[t0]? = some (cA, .int)) {j : Int32} (hin : vp_in j k) (hdg : decode cc pc = .ok (.iaload, 1))
    (kk : W p l e R s m args below meth c H locs cells slots Q (F0 m (pc + 1) ls (.int (f j.toNatClampNeg) :: rest))) : W p l e R s m args below meth c H locs cells slots Q (F0 m pc ls (.int j :: .ref (ad i) :: rest)) :=
  va_iald F.1 F.2.1 hK hP i t0 (by rw [gw_at hi, he]) ht hin hdg kk
theorem g_zald (F : CallFix p m c cc nL s args Ts own) (hK : va_K D cl tys s) (hP : va_P D cl (gw ad en n) H) (i : Nat) (hi : i < n) (t0 : Nat) {cA : ClassId} {k : Nat} {f : Nat → Int32} (he : en i = .inl (cA, k, .inl f)) (ht : tys[t0]? = some (cA, .boolean)) {j : Int32} (hin : vp_in j k) (hdg : decode cc pc = .ok (.baload, 1))
    (kk : W p l e R s m args below meth c H locs cells slots Q (F0 m (pc + 1) ls (.int (f j.toNatClampNeg) :: rest))) : W p l e R s m args below meth c H locs cells slots Q (F0 m pc ls (.int j :: .ref (ad i) :: rest)) :=
  va_zald F.1 F.2.1 hK hP i t0 (by rw [gw_at hi, he]) ht hin hdg kk
theorem g_aald (F : CallFix p m c cc nL s args Ts own) (hK : va_K D cl tys s) (hP : va_P D cl (gw ad en n) H) (i : Nat) (hi : i < n) (t0 : Nat) {cA : ClassId} {k : Nat} {B : String} {f : Nat → Option Nat} (he : en i = .inl (cA, k, .inr (.inr (.inr (.inr f))))) (ht : tys[t0]? = some (cA, .object B)) {j : Int32} (hin : vp_in j k) (hdg : decode cc pc = .ok (.aaload, 1))
    (kk : W p l e R s m args below meth c H locs cells slots Q (F0 m (pc + 1) ls (va_rf (f j.toNatClampNeg) :: rest))) : W p l e R s m args below meth c H locs cells slots Q (F0 m pc ls (.int j :: .ref (ad i) :: rest)) :=
  va_aldq F.1 F.2.1 hK hP i t0 (by rw [gw_at hi, he]) ht hin hdg kk
theorem g_iast (F : CallFix p m c cc nL s args Ts own) (hK : va_K D cl tys s) (G : gGeo ad n base) (hP : va_P D cl (gw ad en n) H) (hS : va_S (gA base) H0 H locs) (i : Nat) (hi : i < n) (t0 : Nat) {cA : ClassId} {k : Nat} {f : Nat → Int32} (he : en i = .inl (cA, k, .inl f)) (ht : tys[t0]? = some (cA, .int)) {j x : Int32} (hin : vp_in j k) (hdg : decode cc pc = .ok (.iastore, 1))
    (kk : ∀ (H1 : Heap) (locs1 : List Loc), va_P D cl (gw ad (va_up en i (.inl (cA, k, .inl (upd f j.toNatClampNeg x)))) n) H1 → va_S (gA base) H0 H1 locs1 → W p l e R s m args below meth c H1 locs1 cells slots Q (F0 m (pc + 1) ls rest)) : W p l e R s m args below meth c H locs cells slots Q (F0 m pc ls (.int x :: .int j :: .ref (ad i) :: rest)) :=
  va_iast F.1 F.2.1 hK hP G.D hS i t0 (by rw [gw_at hi, he]) ht hin hdg (fun H1 locs1 h1 _ h3 => kk H1 locs1 (by rw [gw_set hi] at h1; exact h1) h3)
theorem g_zast (F : CallFix p m c cc nL s args Ts own) (hK : va_K D cl tys s) (G : gGeo ad n base) (hP : va_P D cl (gw ad en n) H) (hS : va_S (gA base) H0 H locs) (i : Nat) (hi : i < n) (t0 : Nat) {cA : ClassId} {k : Nat} {f : Nat → Int32} (he : en i = .inl (cA, k, .inl f)) (ht : tys[t0]? = some (cA, .boolean)) {j x : Int32} (hin : vp_in j k) (hdg : decode cc pc = .ok (.bastore, 1))
    (kk : ∀ (H1 : Heap) (locs1 : List Loc), va_P D cl (gw ad (va_up en i (.inl (cA, k, .inl (upd f j.toNatClampNeg (vp_nar .boolean x))))) n) H1 → va_S (gA base) H0 H1 locs1 → W p l e R s m args below meth c H1 locs1 cells slots Q (F0 m (pc + 1) ls rest)) : W p l e R s m args below meth c H locs cells slots Q (F0 m pc ls (.int x :: .int j :: .ref (ad i) :: rest)) :=
  va_zast F.1 F.2.1 hK hP G.D hS i t0 (by rw [gw_at hi, he]) ht hin hdg (fun H1 locs1 h1 _ h3 => kk H1 locs1 (by rw [gw_set hi] at h1; exact h1) h3)
theorem g_aast (F : CallFix p m c cc nL s args Ts own) (hK : va_K D cl tys s) (G : gGeo ad n base) (hP : va_P D cl (gw ad en n) H) (hS : va_S (gA base) H0 H locs) (i : Nat) (hi : i < n) (t0 qk : Nat) (hq : qk < n) {cA : ClassId} {k : Nat} {r : vw_C} {vs : List Value} {f : Nat → Option Nat} (he : en i = .inl (cA, k, .inr (.inr (.inr (.inr f))))) (ht : tys[t0]? = some (cA, .object r.1)) (hv : en qk = .inr (ci, vs)) (hc : cl[ci]? = some r) {j : Int32} (hin : vp_in j k) (hdg : decode cc pc = .ok (.aastore, 1))
    (kk : ∀ (H1 : Heap) (locs1 : List Loc), va_P D cl (gw ad (va_up en i (.inl (cA, k, .inr (.inr (.inr (.inr (va_up f j.toNatClampNeg (some (ad qk))))))))) n) H1 → va_S (gA base) H0 H1 locs1 → W p l e R s m args below meth c H1 locs1 cells slots Q (F0 m (pc + 1) ls rest)) : W p l e R s m args below meth c H locs cells slots Q (F0 m pc ls (.ref (ad qk) :: .int j :: .ref (ad i) :: rest)) :=
  va_astq F.1 F.2.1 hK hP G.D hS i t0 qk ci (by rw [gw_at hi, he]) ht (by rw [gw_at hq, hv]) hc hin hdg (fun H1 locs1 h1 _ h3 => kk H1 locs1 (by rw [gw_set hi] at h1; exact h1) h3)
theorem g_lald (F : CallFix p m c cc nL s args Ts own) (hK : va_K D cl tys s) (hP : va_P D cl (gw ad en n) H) (i : Nat) (hi : i < n) (t0 : Nat) {cA : ClassId} {k : Nat} {f : Nat → Int64} (he : en i = .inl (cA, k, .inr (.inl f))) (ht : tys[t0]? = some (cA, .long)) {j : Int32} (hin : vp_in j k) (hdg : decode cc pc = .ok (.laload, 1))
    (kk : W p l e R s m args below meth c H locs cells slots Q (F0 m (pc + 1) ls (.long (f j.toNatClampNeg) :: rest))) : W p l e R s m args below meth c H locs cells slots Q (F0 m pc ls (.int j :: .ref (ad i) :: rest)) :=
  va_lald F.1 F.2.1 hK hP i t0 (by rw [gw_at hi, he]) ht hin hdg kk
theorem g_last (F : CallFix p m c cc nL s args Ts own) (hK : va_K D cl tys s) (G : gGeo ad n base) (hP : va_P D cl (gw ad en n) H) (hS : va_S (gA base) H0 H locs) (i : Nat) (hi : i < n) (t0 : Nat) {cA : ClassId} {k : Nat} {f : Nat → Int64} (he : en i = .inl (cA, k, .inr (.inl f))) (ht : tys[t0]? = some (cA, .long)) {j : Int32} {x : Int64} (hin : vp_in j k) (hdg : decode cc pc = .ok (.lastore, 1))
    (kk : ∀ (H1 : Heap) (locs1 : List Loc), va_P D cl (gw ad (va_up en i (.inl (cA, k, .inr (.inl (vp_updL f j.toNatClampNeg x))))) n) H1 → va_S (gA base) H0 H1 locs1 → W p l e R s m args below meth c H1 locs1 cells slots Q (F0 m (pc + 1) ls rest)) : W p l e R s m args below meth c H locs cells slots Q (F0 m pc ls (.long x :: .int j :: .ref (ad i) :: rest)) :=
  va_last F.1 F.2.1 hK hP G.D hS i t0 (by rw [gw_at hi, he]) ht hin hdg (fun H1 locs1 h1 _ h3 => kk H1 locs1 (by rw [gw_set hi] at h1; exact h1) h3)
theorem g_copy (F : CallFix p m c cc nL s args Ts own) (hsz : ls.size = nL) (hK : va_K D cl tys s) (G : gGeo ad n base) (hP : va_P D cl (gw ad en n) H) (hS : va_S (gA base) H0 H locs) (i0 i1 : Nat) (h0 : i0 < n) (h1 : i1 < n) (t0 t1 : Nat) {c0 c1 : ClassId} {n0 n1 : Nat} {f g : Nat → Int32} {ty : FieldType}
    (he0 : en i0 = .inl (c0, n0, .inl f)) (he1 : en i1 = .inl (c1, n1, .inl g)) (ht0 : tys[t0]? = some (c0, ty)) (ht1 : tys[t1]? = some (c1, ty)) (hprim : refKind ty = false)
    (w1 : Cond.methodLink own index arraycopyName ∈ Ts) (w2 : Cond.native arraycopyName ∈ Ts) (w3 : Cond.static arraycopyName ∈ Ts) (w4 : Cond.initialized "java/lang/System" ∈ Ts)
    {sp dp k : Int32} (a1 : ¬ sp < 0) (a2 : ¬ dp < 0) (a3 : ¬ k < 0) (a4 : sp.toNatClampNeg + k.toNatClampNeg ≤ n0) (a5 : dp.toNatClampNeg + k.toNatClampNeg ≤ n1) (hfit : ∀ i, i < k.toNatClampNeg → fits ty (.int (f (sp.toNatClampNeg + i))) = true)
    (hframes : 1 ≤ R.frames) (hlocals : (rest.map fun v => v.category).sum + (nativeFrameWords "java/lang/System" "arraycopy" 5 + 11) ≤ R.locals) (hdg : decode cc pc = .ok (.invokestatic index, 3))
    (kk : ∀ (H1 : Heap) (locs1 : List Loc), va_P D cl (gw ad (va_up en i1 (.inl (c1, n1, .inl (va_cpy f g sp.toNatClampNeg dp.toNatClampNeg k.toNatClampNeg)))) n) H1 → va_S (gA base) H0 H1 locs1 → W p l e R s m args below meth c H1 locs1 cells slots Q (F0 m (pc + 3) ls rest)) :
    W p l e R s m args below meth c H locs cells slots Q (F0 m pc ls (.int k :: .int dp :: .ref (ad i1) :: .int sp :: .ref (ad i0) :: rest)) :=
  va_copyi F.1 F.2.1 (by rw [F.2.2.1, hsz]) F.2.2.2.1 (F.2.2.2.2 _ w1) (F.2.2.2.2 _ w2) (F.2.2.2.2 _ w3) (F.2.2.2.2 _ w4) hK hP G.D hS i0 i1 t0 t1 (by rw [gw_at h0, he0]) (by rw [gw_at h1, he1]) ht0 ht1 hprim a1 a2 a3 a4 a5 hfit hframes hlocals hdg
    (fun H1 locs1 q1 _ q3 => kk H1 locs1 (by rw [gw_set h1] at q1; exact q1) q3)
end GWR
/-- a contract's start and end over the world -/
def gPc (tw : State → Prop) (D : va_G) (cl : List vw_C) (ad : Nat → Nat) (n base : Nat) (en : Nat → va_E) (av : List Value) : Array Value → State → Prop := va_Pc av (fun U => tw U ∧ base ≤ U.heap.size ∧ va_P D cl (gw ad en n) U.heap)
def gQc (D : va_G) (cl : List vw_C) (ad : Nat → Nat) (n base : Nat) (r : Option Value) (Post : (Nat → va_E) → Prop) : Array Value → State → Outcome → State → Prop := fun _ st o t => o = .returned r ∧ (∃ en' : Nat → va_E, Post en' ∧ va_P D cl (gw ad en' n) t.heap) ∧ va_F (gA base) st t
/-- the same, where it may throw: xs names what, k which of them (0: it returns); what is thrown leaves the world e0 -/
def gQx (D : va_G) (cl : List vw_C) (ad : Nat → Nat) (n base : Nat) (e0 : Nat → va_E) (xs : List String) (k : Nat) (r : Option Value) (Post : (Nat → va_E) → Prop) : Array Value → State → Outcome → State → Prop := fun a st o t =>
  (k = 0 ∧ gQc D cl ad n base r Post a st o t) ∨ (k ≠ 0 ∧ ∃ x : Nat, o = .threw x ∧ tx_Obj (xs.getD (k - 1) "") x t ∧ va_P D cl (gw ad e0 n) t.heap ∧ va_F (gA base) st t)
section GWC
variable {p : Program} {l : Launch} {e : Env} {R : Room} {s : State} {m : MethodId} {args : Array Value} {below : List Frame} {meth : Method} {c : Code} {H : Heap} {locs : List Loc} {cells slots : Nat} {Q : State → Prop}
variable {pc : Nat} {ls : Array Slot} {rest st0 : List Value} {D : va_G} {cl : List vw_C} {H0 : Heap} {ad : Nat → Nat} {n base mc ms : Nat} {r : Option Value} {Post : (Nat → va_E) → Prop} {a : Array Value}
/-- behind a call -/
theorem g_call (hr : va_Run p l e R s m args below meth c H locs cells slots mc ms (F0 m pc ls st0) rest (gQc D cl ad n base r Post a) (gA base)) (hS : va_S (gA base) H0 H locs)
    (kk : ∀ (en' : Nat → va_E) (H1 : Heap) (locs1 : List Loc), Post en' → va_P D cl (gw ad en' n) H1 → va_S (gA base) H0 H1 locs1 → W p l e R s m args below meth c H1 locs1 (cells + mc) (slots + ms) Q (F0 m (pc + 3) ls (r.toList ++ rest))) : W p l e R s m args below meth c H locs cells slots Q (F0 m pc ls st0) := by
  intro T hT X
  obtain ⟨v, st₀, t, T', L, h0, X', hL, e1, e2, ⟨hv, ⟨en', hp, hP⟩, hz, hk⟩, st⟩ := hr T hT X
  cases hv
  rw [h0] at hz hk
  obtain ⟨t2, a1, b1⟩ := kk en' T'.heap (locs ++ L) hp (by rw [e1]; exact hP)
    ⟨Nat.le_trans hS.1 (by rw [e1]; exact hz), fun q h1 h2 => by rw [e1, hk q (Nat.lt_of_lt_of_le h1 hS.1) h2]; exact hS.2.1 q h1 h2, fun q hq => by
      rcases List.mem_append.mp hq with h | h
      · exact hS.2.2 q h
      · exact hL q h⟩ T' rfl X'
  exact ⟨t2, st t2 a1, b1⟩
end GWC
end
section
/-! ===== lN n to 2^64: shifts, and, or, masks, one bit ===== -/
theorem wb_tb (n : Nat) : (lN n).toBitVec = BitVec.ofNat 64 n := rfl
theorem wb_inj {a b : Int64} (h : a.toBitVec = b.toBitVec) : a = b := Int64.toBitVec_inj.mp h
theorem wb_tn {n : Nat} (h : n < 2 ^ 64) : (lN n).toBitVec.toNat = n := by rw [wb_tb, BitVec.toNat_ofNat, Nat.mod_eq_of_lt h]
theorem wb_of (x : Int64) : ∃ n, n < 2 ^ 64 ∧ x = lN n := ⟨x.toBitVec.toNat, x.toBitVec.isLt, wb_inj (by rw [wb_tb]; simp)⟩
theorem wb_of32 (x : Int32) : ∃ n, n < 2 ^ 32 ∧ x = nI n := ⟨x.toBitVec.toNat, x.toBitVec.isLt, Int32.toBitVec_inj.mp (by show _ = BitVec.ofNat 32 _; simp)⟩
theorem wb_c : ∀ k, k < 64 → ((nI k).toInt64 &&& 63) = lN k := by decide +kernel
theorem wb_cu : ∀ k, k < 64 → ((nI k).toInt64.toUInt64 &&& Int64.toUInt64 63) = UInt64.ofNat k := by decide +kernel
theorem wb_sm : ∀ k, k < 64 → (BitVec.ofNat 64 k).smod 64 = BitVec.ofNat 64 k := by decide +kernel
theorem wb_pw {a b : Nat} (h : a ≤ b) : 2 ^ b = 2 ^ a * 2 ^ (b - a) := by rw [← Nat.pow_add]; congr 1; omega
theorem wb_lt2 {a b : Nat} (h : a < b) : 2 ^ a < 2 ^ b := Nat.pow_lt_pow_right (by decide) h
theorem wb_mod (n : Nat) : lN n = lN (n % 2 ^ 64) := wb_inj (by rw [wb_tb, wb_tb]; apply BitVec.eq_of_toNat_eq; rw [BitVec.toNat_ofNat, BitVec.toNat_ofNat, Nat.mod_mod])
theorem wb_shr {n k : Nat} (hn : n < 2 ^ 64) (hk : k < 64) : ((lN n).toUInt64 >>> ((nI k).toInt64.toUInt64 &&& Int64.toUInt64 63)).toInt64 = lN (n / 2 ^ k) := by
  rw [wb_cu k hk]
  apply wb_inj
  apply BitVec.eq_of_toNat_eq
  show ((lN n).toUInt64 >>> UInt64.ofNat k).toNat = (BitVec.ofNat 64 _).toNat
  have h1 : (UInt64.ofNat k).toNat = k := by
    show (BitVec.ofNat 64 k).toNat = k
    rw [BitVec.toNat_ofNat, Nat.mod_eq_of_lt (by omega)]
  have h2 : (lN n).toUInt64.toNat = n := wb_tn hn
  rw [UInt64.toNat_shiftRight, h1, h2, Nat.mod_eq_of_lt hk, Nat.shiftRight_eq_div_pow, BitVec.toNat_ofNat, Nat.mod_eq_of_lt (Nat.lt_of_le_of_lt (Nat.div_le_self _ _) hn)]
theorem wb_shl (n : Nat) {k : Nat} (hk : k < 64) : lN n <<< ((nI k).toInt64 &&& 63) = lN (n * 2 ^ k) := by
  rw [wb_c k hk]
  apply wb_inj
  rw [Int64.toBitVec_shiftLeft, wb_tb, wb_tb, wb_tb, wb_sm k hk]
  apply BitVec.eq_of_toNat_eq
  rw [BitVec.shiftLeft_eq', BitVec.toNat_shiftLeft, BitVec.toNat_ofNat, BitVec.toNat_ofNat, BitVec.toNat_ofNat, Nat.mod_eq_of_lt (show k < 2 ^ 64 by omega), Nat.shiftLeft_eq, Nat.mul_mod, Nat.mod_mod, ← Nat.mul_mod]
theorem wb_and {a b : Nat} (ha : a < 2 ^ 64) (hb : b < 2 ^ 64) : lN a &&& lN b = lN (a &&& b) := by
  apply wb_inj
  rw [Int64.toBitVec_and, wb_tb, wb_tb, wb_tb]
  apply BitVec.eq_of_toNat_eq
  rw [BitVec.toNat_and, BitVec.toNat_ofNat, BitVec.toNat_ofNat, BitVec.toNat_ofNat, Nat.mod_eq_of_lt ha, Nat.mod_eq_of_lt hb, Nat.mod_eq_of_lt (Nat.and_lt_two_pow _ hb)]
theorem wb_or {a b : Nat} (ha : a < 2 ^ 64) (hb : b < 2 ^ 64) : lN a ||| lN b = lN (a ||| b) := by
  apply wb_inj
  rw [Int64.toBitVec_or, wb_tb, wb_tb, wb_tb]
  apply BitVec.eq_of_toNat_eq
  rw [BitVec.toNat_or, BitVec.toNat_ofNat, BitVec.toNat_ofNat, BitVec.toNat_ofNat, Nat.mod_eq_of_lt ha, Nat.mod_eq_of_lt hb, Nat.mod_eq_of_lt (Nat.or_lt_two_pow ha hb)]
theorem wb_mask {n k : Nat} (hn : n < 2 ^ 64) (hk : k < 64) : lN n &&& lN (2 ^ k - 1) = lN (n % 2 ^ k) := by
  rw [wb_and hn (by have := wb_lt2 hk; omega), Nat.and_two_pow_sub_one_eq_mod]
theorem wb_a1 {n : Nat} (hn : n < 2 ^ 64) : lN n &&& 1 = lN (n % 2) := wb_mask (k := 1) hn (by decide)
theorem wb_bit {n k : Nat} (hn : n < 2 ^ 64) (hk : k < 64) : ((lN n).toUInt64 >>> ((nI k).toInt64.toUInt64 &&& Int64.toUInt64 63)).toInt64 &&& 1 = lN (n / 2 ^ k % 2) := by
  rw [wb_shr hn hk, wb_a1 (Nat.lt_of_le_of_lt (Nat.div_le_self _ _) hn)]
theorem wb_xor {q k : Nat} (hk : k < 63) (h : 2 ^ k ≤ q) (h2 : q < 2 ^ (k + 1)) : lN q ^^^ lN (2 ^ k) = lN (q - 2 ^ k) := by
  obtain ⟨r, rfl⟩ : ∃ r, q = 2 ^ k + r := ⟨q - 2 ^ k, by omega⟩
  have hr : r < 2 ^ k := by rw [Nat.pow_succ] at h2; omega
  have hx : (2 ^ k + r) ^^^ 2 ^ k = r := by
    apply Nat.eq_of_testBit_eq
    intro i
    rw [Nat.testBit_xor, Nat.testBit_two_pow]
    rcases Nat.lt_trichotomy i k with h | h | h
    · rw [Nat.testBit_two_pow_add_gt h]
      simp [show ¬ k = i by omega]
    · subst h
      rw [Nat.testBit_two_pow_add_eq]
      simp
    · have a1 : 2 ^ (k + 1) ≤ 2 ^ i := Nat.pow_le_pow_right (by decide) h
      rw [Nat.testBit_lt_two_pow (show 2 ^ k + r < 2 ^ i by omega), Nat.testBit_lt_two_pow (show r < 2 ^ i by omega)]
      simp [show ¬ k = i by omega]
  have b1 := wb_lt2 (show k + 1 < 64 by omega)
  have b2 := wb_lt2 (show k < 64 by omega)
  apply wb_inj
  rw [Int64.toBitVec_xor, wb_tb, wb_tb, wb_tb]
  apply BitVec.eq_of_toNat_eq
  rw [BitVec.toNat_xor, BitVec.toNat_ofNat, BitVec.toNat_ofNat, BitVec.toNat_ofNat, Nat.mod_eq_of_lt (by omega : 2 ^ k + r < 2 ^ 64), Nat.mod_eq_of_lt b2, hx, Nat.add_sub_cancel_left, Nat.mod_eq_of_lt (by omega)]
/-! ===== Int64 as an unsigned number: uN x ===== -/
def uN (x : Int64) : Nat := x.toUInt64.toNat
theorem uN_lt (x : Int64) : uN x < 18446744073709551616 := x.toUInt64.toNat_lt
theorem uN_inj {x y : Int64} (h : uN x = uN y) : x = y := congrArg UInt64.toInt64 (UInt64.toNat_inj.mp h)
theorem uN_add (x y : Int64) : uN (x + y) = (uN x + uN y) % 18446744073709551616 := by
  show (x.toUInt64 + y.toUInt64).toNat = _
  exact UInt64.toNat_add _ _
theorem uN_mul (x y : Int64) : uN (x * y) = (uN x * uN y) % 18446744073709551616 := by
  show (x.toUInt64 * y.toUInt64).toNat = _
  exact UInt64.toNat_mul _ _
theorem uN_shl (x : Int64) : uN (x <<< ((1 : Int32).toInt64 &&& 63)) = (2 * uN x) % 18446744073709551616 := by
  have h : (((1 : Int32).toInt64 &&& 63).toBitVec.smod 64).toNat = 1 := by decide
  show (x.toBitVec <<< (((1 : Int32).toInt64 &&& 63).toBitVec.smod 64).toNat).toNat = _
  rw [h, BitVec.toNat_shiftLeft, Nat.shiftLeft_eq, Nat.mul_comm]
  rfl
theorem uN_shr (x : Int64) (s : UInt64) : uN (x.toUInt64 >>> s).toInt64 = uN x / 2 ^ (s.toNat % 64) := by
  show (x.toUInt64 >>> s).toNat = _
  rw [UInt64.toNat_shiftRight, Nat.shiftRight_eq_div_pow]
  rfl
theorem uN_s32 (x : Int64) : uN (x.toUInt64 >>> ((32 : Int32).toInt64.toUInt64 &&& Int64.toUInt64 63)).toInt64 = uN x / 4294967296 := by
  have h : ((32 : Int32).toInt64.toUInt64 &&& Int64.toUInt64 63).toNat % 64 = 32 := by decide
  rw [uN_shr, h]
theorem uN_s63 (x : Int64) : uN (x.toUInt64 >>> ((63 : Int32).toInt64.toUInt64 &&& Int64.toUInt64 63)).toInt64 = uN x / 9223372036854775808 := by
  have h : ((63 : Int32).toInt64.toUInt64 &&& Int64.toUInt64 63).toNat % 64 = 63 := by decide
  rw [uN_shr, h]
theorem uN_lo (x : Int64) : uN (x &&& 4294967295) = uN x % 4294967296 := by
  show (x.toUInt64 &&& Int64.toUInt64 4294967295).toNat = _
  rw [UInt64.toNat_and]
  exact Nat.and_two_pow_sub_one_eq_mod _ 32
theorem uN_bit (x : Int64) : (x &&& 1) = 0 ↔ uN x % 2 = 0 := by
  have h : uN (x &&& 1) = uN x % 2 := by
    show (x.toUInt64 &&& Int64.toUInt64 1).toNat = _
    rw [UInt64.toNat_and]
    exact Nat.and_two_pow_sub_one_eq_mod _ 1
  rw [← h]
  exact ⟨fun z => by rw [z]; rfl, fun z => uN_inj (z.trans rfl)⟩
theorem uN_or {x y : Int64} (hy : uN y < 2) : uN ((x <<< ((1 : Int32).toInt64 &&& 63)) ||| y) = (2 * uN x) % 18446744073709551616 + uN y := by
  have h1 : uN ((x <<< ((1 : Int32).toInt64 &&& 63)) ||| y) = uN (x <<< ((1 : Int32).toInt64 &&& 63)) ||| uN y := UInt64.toNat_or _ _
  have h2 : (2 * uN x) % 18446744073709551616 = 2 ^ 1 * (uN x % 9223372036854775808) := by omega
  rw [h1, uN_shl, h2]
  exact (Nat.two_pow_add_eq_or_of_lt (i := 1) hy _).symm
theorem nat_xor {a : Nat} (h : a < 18446744073709551616) : a ^^^ 2 ^ 63 = (a + 9223372036854775808) % 18446744073709551616 := by
  have h1 : (a ^^^ 2 ^ 63) % 2 ^ 63 = a % 2 ^ 63 := by rw [Nat.xor_mod_two_pow, Nat.mod_self, Nat.xor_zero]
  have h2 : (a ^^^ 2 ^ 63) / 2 ^ 63 = (a / 2 ^ 63) ^^^ 1 := by rw [Nat.xor_div_two_pow, Nat.div_self (Nat.two_pow_pos 63)]
  have h3 : a / 2 ^ 63 = 0 ∨ a / 2 ^ 63 = 1 := by omega
  generalize a ^^^ 2 ^ 63 = t at h1 h2
  rcases h3 with h3 | h3
  · rw [h3] at h2
    have h2 : t / 2 ^ 63 = 1 := h2
    omega
  · rw [h3] at h2
    have h2 : t / 2 ^ 63 = 0 := h2
    omega
theorem uN_xor (x : Int64) : uN (x ^^^ (-9223372036854775808)) = (uN x + 9223372036854775808) % 18446744073709551616 := by
  rw [← nat_xor (uN_lt x)]
  exact UInt64.toNat_xor _ _
theorem uN_int (x : Int64) : x.toInt = if 2 * uN x < 18446744073709551616 then (uN x : Int) else (uN x : Int) - 18446744073709551616 := BitVec.toInt_eq_toNat_cond _
theorem uN_le (x y : Int64) : (x ^^^ (-9223372036854775808)) ≤ (y ^^^ (-9223372036854775808)) ↔ uN x ≤ uN y := by
  have hx := uN_lt x
  have hy := uN_lt y
  rw [Int64.le_iff_toInt_le, uN_int, uN_int, uN_xor, uN_xor]
  omega
theorem uN_sk (x : Int64) {k : Nat} (hk : k < 64) : uN (x.toUInt64 >>> ((nI k).toInt64.toUInt64 &&& Int64.toUInt64 63)).toInt64 = uN x / 2 ^ k := by
  have h : ((nI k).toInt64.toUInt64 &&& Int64.toUInt64 63).toNat % 64 = k := by
    rw [nI_l (by omega), UInt64.toNat_and]
    have e : (lN k).toUInt64.toNat = k % 2 ^ 64 := rfl
    have e2 : (Int64.toUInt64 63).toNat = 2 ^ 6 - 1 := by decide
    rw [e, e2, Nat.and_two_pow_sub_one_eq_mod]
    omega
  rw [uN_shr, h]
/-- byte k of a long -/
def byt (v : Int64) (k : Nat) : Nat := uN v / 2 ^ (8 * k) % 256
theorem byt_lt (v : Int64) (k : Nat) : byt v k < 256 := Nat.mod_lt _ (by decide)
theorem by_low (y : Int64) : y.toInt32 &&& 255 = nI (uN y % 256) := by
  rw [pk_and _ 8 (by decide)]
  have h : y.toInt32.toBitVec.toNat = uN y % 2 ^ 32 := by
    rw [Int64.toBitVec_toInt32, BitVec.signExtend_eq_setWidth_of_le _ (by decide), BitVec.toNat_setWidth]
    rfl
  rw [h]
  congr 1
  omega
theorem by_cls (v : Int64) {k : Nat} (hk : k < 8) : ((v.toUInt64 >>> ((nI (8 * k)).toInt64.toUInt64 &&& Int64.toUInt64 63)).toInt64).toInt32 &&& 255 = nI (byt v k) := by
  rw [by_low, uN_sk v (by omega)]
  rfl
theorem by_mod (v : Int64) {k : Nat} (hk : k < 8) : ((v >>> ((nI (8 * k)).toInt64 &&& 63)) &&& 255).toInt32 = nI (byt v k) := by
  have h1 : ∀ z : Int64, (z &&& 255).toInt32 = nI (uN z % 256) := by
    intro z
    obtain ⟨n, hn, rfl⟩ := wb_of z
    have e : (255 : Int64) = lN (2 ^ 8 - 1) := by decide
    have e2 : uN (lN n) = n := wb_tn hn
    rw [e, wb_mask hn (by decide), lN_i, e2]
  rw [h1]
  unfold byt
  congr 1
  rw [wb_c (8 * k) (by omega)]
  have e : uN (v >>> lN (8 * k)) = (v.toBitVec.sshiftRight (8 * k)).toNat := by
    show ((v >>> lN (8 * k)).toBitVec).toNat = _
    rw [Int64.toBitVec_shiftRight, wb_tb, wb_sm _ (by omega), BitVec.sshiftRight_eq', BitVec.toNat_ofNat, Nat.mod_eq_of_lt (by omega)]
  rw [e]
  apply Nat.eq_of_testBit_eq
  intro i
  rw [show (256 : Nat) = 2 ^ 8 from rfl, Nat.testBit_mod_two_pow, Nat.testBit_mod_two_pow, Nat.testBit_div_two_pow]
  by_cases hi : i < 8
  · have h2 : (v.toBitVec.sshiftRight (8 * k)).getLsbD i = v.toBitVec.getLsbD (8 * k + i) := by
      rw [BitVec.getLsbD_sshiftRight]
      have a1 : ¬ 64 ≤ i := by omega
      have a2 : 8 * k + i < 64 := by omega
      simp [a1, a2]
    have h3 : (v.toBitVec.sshiftRight (8 * k)).toNat.testBit i = v.toBitVec.toNat.testBit (8 * k + i) := h2
    rw [h3, Nat.add_comm]
    rfl
  · simp [hi]
/-- one byte more: the name of the longer range -/
def nm (a b : Nat) : Nat := (1000003 * a + b + 1) % 2305843009213693951
theorem nm_lt (a b : Nat) : nm a b < 2305843009213693951 := Nat.mod_lt _ (by decide)
theorem nm_cls (a b : Nat) : ((1000003 * (a / 2147483648)) / 1073741824 + ((1000003 * (a / 2147483648)) % 1073741824) * 2147483648 + 1000003 * (a % 2147483648) + b + 1) % 2305843009213693951 = nm a b := by
  unfold nm
  have h : 1000003 * a + b + 1 = ((1000003 * (a / 2147483648)) / 1073741824 + ((1000003 * (a / 2147483648)) % 1073741824) * 2147483648 + 1000003 * (a % 2147483648) + b + 1) + 2305843009213693951 * ((1000003 * (a / 2147483648)) / 1073741824) := by omega
  rw [h, Nat.add_mul_mod_self_left]
theorem nm_mod (a b : Nat) (ha : a < 2305843009213693951) : ∀ h t r : Nat, h = ((a / 1099511627776) * 1000003) / 2097152 + (((a / 1099511627776) * 1000003) % 2097152) * 1099511627776 → h < 2305843009213693951 ∧
    (t = (if h + (a % 1099511627776) * 1000003 ≥ 2305843009213693951 then h + (a % 1099511627776) * 1000003 - 2305843009213693951 else h + (a % 1099511627776) * 1000003) → t < 2305843009213693951 ∧
    (b < 256 → r = (if t + (b + 1) ≥ 2305843009213693951 then t + (b + 1) - 2305843009213693951 else t + (b + 1)) → r = nm a b)) := by
  intro h t r hh
  have h1 : a / 1099511627776 < 2097152 := by omega
  refine ⟨by omega, fun ht => ⟨?_, fun hb hr => ?_⟩⟩
  · split at ht <;> omega
  · have key : 1000003 * a = h + (a % 1099511627776) * 1000003 + 2305843009213693951 * (((a / 1099511627776) * 1000003) / 2097152) := by omega
    have ht2 : ∃ u : Nat, h + (a % 1099511627776) * 1000003 = t + 2305843009213693951 * u ∧ t < 2305843009213693951 := by
      split at ht
      · exact ⟨1, by omega, by omega⟩
      · exact ⟨0, by omega, by omega⟩
    obtain ⟨u, hu, ht3⟩ := ht2
    have hr2 : ∃ w : Nat, t + (b + 1) = r + 2305843009213693951 * w ∧ r < 2305843009213693951 := by
      split at hr
      · exact ⟨1, by omega, by omega⟩
      · exact ⟨0, by omega, by omega⟩
    obtain ⟨w, hw, hr3⟩ := hr2
    unfold nm
    have : 1000003 * a + b + 1 = r + 2305843009213693951 * (w + u + ((a / 1099511627776) * 1000003) / 2097152) := by omega
    rw [this, Nat.add_mul_mod_self_left, Nat.mod_eq_of_lt hr3]
end
section
/-! What the document says, over numbers: four texts (lengths n, bytes b), the pattern (p, q), the automaton (x: next, c: accepting). -/
abbrev Ab : Type := (Nat → Nat) × (Nat → Nat → Nat) × Nat × (Nat → Nat) × (Nat → Nat) × (Nat → Nat)
def a_n (a : Ab) : Nat → Nat := a.1
def a_b (a : Ab) : Nat → Nat → Nat := a.2.1
def a_p (a : Ab) : Nat := a.2.2.1
def a_q (a : Ab) : Nat → Nat := a.2.2.2.1
def a_x (a : Ab) : Nat → Nat := a.2.2.2.2.1
def a_c (a : Ab) : Nat → Nat := a.2.2.2.2.2
def a_ok (a : Ab) : Prop := (∀ d, d < 4 → a_n a d ≤ 1000) ∧ (∀ d i, d < 4 → i < a_n a d → a_b a d i < 256) ∧ a_p a ≤ 16 ∧ (∀ k, k < a_p a → a_q a k < 256) ∧ (∀ q, q < 2048 → a_x a q < 8) ∧ ∀ q, q < 8 → a_c a q < 2
/-- text d becomes the k bytes f -/
def a_set (a : Ab) (d k : Nat) (f : Nat → Nat) : Ab := (fun e => if e = d then k else a_n a e, fun e => if e = d then f else a_b a e, a.2.2)
theorem a_set_n (a : Ab) (d k : Nat) (f : Nat → Nat) (e : Nat) : a_n (a_set a d k f) e = if e = d then k else a_n a e := rfl
theorem a_set_b (a : Ab) (d k : Nat) (f : Nat → Nat) (e : Nat) : a_b (a_set a d k f) e = if e = d then f else a_b a e := rfl
theorem a_set_ok {a : Ab} {d k : Nat} {f : Nat → Nat} (h : a_ok a) (hk : k ≤ 1000) (hf : ∀ i, i < k → f i < 256) : a_ok (a_set a d k f) := by
  obtain ⟨h1, h2, h3⟩ := h
  refine ⟨fun e he => ?_, fun e i he hi => ?_, h3⟩
  · rw [a_set_n]; split
    · exact hk
    · exact h1 e he
  · rw [a_set_n] at hi
    rw [a_set_b]
    by_cases hed : e = d
    · rw [if_pos hed] at hi ⊢; exact hf i hi
    · rw [if_neg hed] at hi ⊢; exact h2 e i he hi
/-- row r of S becomes f -/
def sr (S : Nat → Nat → Int32) (r : Nat) (f : Nat → Int32) : Nat → Nat → Int32 := fun r' => if r' = r then f else S r'
theorem sr_s {S : Nat → Nat → Int32} {r : Nat} {f : Nat → Int32} : sr S r f r = f := if_pos rfl
theorem sr_n {S : Nat → Nat → Int32} {r r' : Nat} {f : Nat → Int32} (h : r' ≠ r) : sr S r f r' = S r' := if_neg h
/-- the class's cells hold a: text d lies at the place pi d, the draft at dr; rows of S: 0 to 4 bytes by place, 5 sizes by place, 6 pattern, 7 its size, 8 next, 9 accepting -/
def RepC (pi : Nat → Nat) (dr : Nat) (S : Nat → Nat → Int32) (a : Ab) : Prop :=
  (∀ d, d < 4 → pi d < 5 ∧ pi d ≠ dr) ∧ dr < 5 ∧ (∀ d e, d < 4 → e < 4 → pi d = pi e → d = e) ∧ (∀ d, d < 4 → S 5 (pi d) = nI (a_n a d)) ∧ (∀ d i, d < 4 → i < a_n a d → S (pi d) i = nI (a_b a d i)) ∧
  S 7 0 = nI (a_p a) ∧ (∀ k, k < a_p a → S 6 k = nI (a_q a k)) ∧ (∀ q, q < 2048 → S 8 q = nI (a_x a q)) ∧ ∀ q, q < 8 → S 9 q = nI (a_c a q)
/-- the draft holds the k bytes g -/
def RepD (dr : Nat) (S : Nat → Nat → Int32) (k : Nat) (g : Nat → Nat) : Prop := S 5 dr = nI k ∧ ∀ i, i < k → S dr i = nI (g i)
/-- the reference's cells hold a: rows of M: 0 numbers (0 code, 1 drafted, 2 patternSize, 3 state, 4 many), 1 texts, 2 sizes, 3 draft, 4 pattern, 5 next, 6 accepts -/
def RepM (M : Nat → Nat → Int32) (a : Ab) : Prop :=
  (∀ d, d < 4 → M 2 d = nI (a_n a d)) ∧ (∀ d i, d < 4 → i < a_n a d → M 1 (1000 * d + i) = nI (a_b a d i)) ∧ M 0 2 = nI (a_p a) ∧ (∀ k, k < a_p a → M 4 k = nI (a_q a k)) ∧ (∀ q, q < 2048 → M 5 q = nI (a_x a q)) ∧ ∀ q, q < 8 → M 6 q = nI (a_c a q)
def RepDM (M : Nat → Nat → Int32) (k : Nat) (g : Nat → Nat) : Prop := M 0 1 = nI k ∧ ∀ i, i < k → M 3 i = nI (g i)
theorem RepC.off {pi : Nat → Nat} {dr : Nat} {S S' : Nat → Nat → Int32} {a : Ab} (h : RepC pi dr S a) (h1 : ∀ r, r ≠ dr → r ≠ 5 → S' r = S r) (h2 : ∀ q, q ≠ dr → S' 5 q = S 5 q) : RepC pi dr S' a := by
  obtain ⟨c1, c2, c3, c4, c5, c6, c7, c8, c9⟩ := h
  refine ⟨c1, c2, c3, fun d hd => ?_, fun d i hd hi => ?_, ?_, fun k hk => ?_, fun q hq => ?_, fun q hq => ?_⟩
  · rw [h2 _ (c1 d hd).2]; exact c4 d hd
  · rw [h1 _ (c1 d hd).2 (by have := (c1 d hd).1; omega)]; exact c5 d i hd hi
  · rw [h1 7 (by omega) (by omega)]; exact c6
  · rw [h1 6 (by omega) (by omega)]; exact c7 k hk
  · rw [h1 8 (by omega) (by omega)]; exact c8 q hq
  · rw [h1 9 (by omega) (by omega)]; exact c9 q hq
/-- the draft becomes text e -/
theorem RepC.swap {pi : Nat → Nat} {dr : Nat} {S : Nat → Nat → Int32} {a : Ab} {e k : Nat} {g : Nat → Nat} (h : RepC pi dr S a) (hd : RepD dr S k g) (he : e < 4) : RepC (va_up pi e dr) (pi e) S (a_set a e k g) := by
  obtain ⟨c1, c2, c3, c4, c5, c6⟩ := h
  have up : ∀ d, va_up pi e dr d = if d = e then dr else pi d := fun d => rfl
  refine ⟨fun d hd' => ?_, (c1 e he).1, fun d d' h1 h2 h3 => ?_, fun d h1 => ?_, fun d i h1 h2 => ?_, c6⟩
  · rw [up]; split
    · exact ⟨c2, fun z => (c1 e he).2 z.symm⟩
    · exact ⟨(c1 d hd').1, fun z => by have := c3 d e hd' he z; contradiction⟩
  · rw [up, up] at h3
    by_cases x1 : d = e <;> by_cases x2 : d' = e
    · rw [x1, x2]
    · rw [if_pos x1, if_neg x2] at h3; exact absurd h3.symm (c1 d' h2).2
    · rw [if_neg x1, if_pos x2] at h3; exact absurd h3 (c1 d h1).2
    · rw [if_neg x1, if_neg x2] at h3; exact c3 d d' h1 h2 h3
  · rw [up, a_set_n]
    by_cases x1 : d = e
    · rw [if_pos x1, if_pos x1]; exact hd.1
    · rw [if_neg x1, if_neg x1]; exact c4 d h1
  · rw [a_set_n] at h2
    rw [up, a_set_b]
    by_cases x1 : d = e
    · rw [if_pos x1] at h2 ⊢
      rw [if_pos x1]; exact hd.2 i h2
    · rw [if_neg x1] at h2 ⊢
      rw [if_neg x1]; exact c5 d i h1 h2
theorem RepC.to {pi : Nat → Nat} {dr : Nat} {S : Nat → Nat → Int32} {a : Ab} {e k k' : Nat} {g g' : Nat → Nat} (h : RepC pi dr S (a_set a e k g)) (hk : k = k') (hg : ∀ i, i < k → g i = g' i) : RepC pi dr S (a_set a e k' g') := by
  subst hk
  obtain ⟨c1, c2, c3, c4, c5, c6⟩ := h
  refine ⟨c1, c2, c3, c4, fun d i h1 h2 => ?_, c6⟩
  have h5 := c5 d i h1 h2
  rw [a_set_n] at h2
  rw [a_set_b] at h5 ⊢
  by_cases x1 : d = e
  · rw [if_pos x1] at h2 h5 ⊢; rw [← hg i h2]; exact h5
  · rw [if_neg x1] at h5 ⊢; exact h5
theorem RepM.to {M : Nat → Nat → Int32} {a : Ab} {e k k' : Nat} {g g' : Nat → Nat} (h : RepM M (a_set a e k g)) (hk : k = k') (hg : ∀ i, i < k → g i = g' i) : RepM M (a_set a e k' g') := by
  subst hk
  obtain ⟨c4, c5, c6⟩ := h
  refine ⟨c4, fun d i h1 h2 => ?_, c6⟩
  have h5 := c5 d i h1 h2
  rw [a_set_n] at h2
  rw [a_set_b] at h5 ⊢
  by_cases x1 : d = e
  · rw [if_pos x1] at h2 h5 ⊢; rw [← hg i h2]; exact h5
  · rw [if_neg x1] at h5 ⊢; exact h5
/-- k bytes g, behind them the bytes f -/
def cat (g : Nat → Nat) (k : Nat) (f : Nat → Nat) : Nat → Nat := fun i => if i < k then g i else f (i - k)
/-- a range of a text laid behind the draft -/
theorem RepD.add {pi : Nat → Nat} {dr : Nat} {S : Nat → Nat → Int32} {a : Ab} {d k f w : Nat} {g : Nat → Nat} (h : RepC pi dr S a) (hd : RepD dr S k g) (h4 : d < 4) (hr : f + w ≤ a_n a d) :
    RepC pi dr (sr (sr S dr (va_cpy (S (pi d)) (S dr) f k w)) 5 (upd (S 5) dr (nI (k + w)))) a ∧ RepD dr (sr (sr S dr (va_cpy (S (pi d)) (S dr) f k w)) 5 (upd (S 5) dr (nI (k + w)))) (k + w) (cat g k (fun i => a_b a d (f + i))) := by
  have hdr : dr < 5 := h.2.1
  have n5 : dr ≠ 5 := by omega
  refine ⟨h.off (fun r h1 h2 => ?_) (fun q hq => ?_), ?_, fun i hi => ?_⟩
  · rw [sr_n h2, sr_n h1]
  · rw [sr_s]; exact pk_un hq
  · rw [sr_s]; exact pk_us
  · rw [sr_n n5, sr_s]
    unfold cat
    by_cases hik : i < k
    · rw [pk_cpy_out (Or.inl hik), if_pos hik]; exact hd.2 i hik
    · rw [pk_cpy_in (by omega) (by omega), if_neg hik]
      exact h.2.2.2.2.1 d (f + (i - k)) h4 (by omega)
theorem RepD.clear {pi : Nat → Nat} {dr : Nat} {S : Nat → Nat → Int32} {a : Ab} (h : RepC pi dr S a) (g : Nat → Nat) : RepC pi dr (sr S 5 (upd (S 5) dr 0)) a ∧ RepD dr (sr S 5 (upd (S 5) dr 0)) 0 g := by
  have hdr : dr < 5 := h.2.1
  refine ⟨h.off (fun r h1 h2 => sr_n h2) (fun q hq => ?_), ?_, fun i hi => absurd hi (Nat.not_lt_zero _)⟩
  · rw [sr_s]; exact pk_un hq
  · rw [sr_s]; exact pk_us
end
section
/-! The making of the world: a cell more. -/
theorem gw_push {ad : Nat → Nat} {en : Nat → va_E} {n q : Nat} {x : va_E} : gw ad en n ++ [(q, x)] = gw (va_up ad n q) (va_up en n x) (n + 1) := by
  unfold gw
  rw [List.range_succ, List.map_append]
  congr 1
  · apply List.map_congr_left
    intro i hi
    have h := List.mem_range.mp hi
    have hne : i ≠ n := Nat.ne_of_lt h
    simp [va_up, hne]
  · simp [va_up]
theorem gGeo.of {ad : Nat → Nat} {en : Nat → va_E} {n base : Nat} (h : va_D (gA base) (gw ad en n)) : gGeo ad n base :=
  ⟨fun i j hi hj e => h.1 i j _ _ (gw_at hi) (gw_at hj) e, fun i hi => h.2 i _ (gw_at hi)⟩
section GWN
variable {p : Program} {l : Launch} {e : Env} {R : Room} {s : State} {m : MethodId} {args : Array Value} {below : List Frame} {meth : Method} {c : Code} {H : Heap} {locs : List Loc} {cells slots : Nat} {Q : State → Prop}
variable {cc : ByteArray} {pc nL : Nat} {ls : Array Slot} {rest : List Value} {D : va_G} {cl : List vw_C} {tys : List (ClassId × FieldType)} {H0 : Heap} {ad : Nat → Nat} {en : Nat → va_E} {n base : Nat} {Ts : List Cond} {own C : String} {T : u_T} {N ci index : Nat}
theorem g_new (F : CallFix p m c cc nL s args Ts own) (hK : va_K D cl tys s) (G : gGeo ad n base) (hP : va_P D cl (gw ad en n) H) (hS : va_S (gA base) H0 H locs) (hB : base ≤ H0.size) (hc : cl[ci]? = some (C, T, N)) (hin : ∀ w ∈ u_ws C T N, w ∈ Ts) (ty : Nat → FieldType) (hty : ∀ k, k < N → parseFieldDescriptor (T k).2.2.1 = some (ty k))
    (w1 : Cond.classLink own index C ∈ Ts) (w2 : Cond.instantiable C N ∈ Ts) (w3 : Cond.initialized C ∈ Ts) {fs : List Value} (hfs : ∀ j, j < N → defaultValue (ty j) = vp_V fs j) (hcells : cells + 1 ≤ R.cells) (hslots : slots + N ≤ R.slots) (hdg : decode cc pc = .ok (.new index, 3))
    (kk : ∀ (q : Nat) (H1 : Heap), gGeo (va_up ad n q) (n + 1) base → va_P D cl (gw (va_up ad n q) (va_up en n (.inr (ci, fs))) (n + 1)) H1 → va_S (gA base) H0 H1 locs →
      W p l e R s m args below meth c H1 locs (cells + 1) (slots + N) Q (F0 m (pc + 3) ls (.ref q :: rest))) : W p l e R s m args below meth c H locs cells slots Q (F0 m pc ls rest) :=
  va_new F.1 F.2.1 F.2.2.2.2 hin ty hty F.2.2.2.1 (F.2.2.2.2 _ w1) (F.2.2.2.2 _ w2) (F.2.2.2.2 _ w3) hK hP G.D hS (fun q h => Nat.le_trans hB h) hc hfs hcells hslots hdg
    (fun q H1 h1 h2 h3 => by rw [gw_push] at h1 h2; exact kk q H1 (gGeo.of h2) h1 h3)
theorem g_newa (F : CallFix p m c cc nL s args Ts own) (hK : va_K D cl tys s) (G : gGeo ad n base) (hP : va_P D cl (gw ad en n) H) (hS : va_S (gA base) H0 H locs) (hB : base ≤ H0.size) {atype : ArrayType} (w1 : Cond.arrayClass (newarray.typeOf atype) ∈ Ts) {ty : FieldType} (hty : newarray.typeOf atype = ty) (hprim : ∀ B, ty ≠ .object B) (t0 : Nat) {cA : ClassId} (ht : tys[t0]? = some (cA, ty))
    {k : Int32} {N' : Nat} {a0 : vp_A} (ha : ∀ cA : ClassId, vp_cell cA a0 = arrV cA N' (fun _ => defaultValue ty)) (hn : ¬ k < 0) (hN : k.toNatClampNeg = N') (hbytes : N' * componentBytes ty ≤ 536870912) (hcells : cells + 1 ≤ R.cells) (hslots : slots + N' ≤ R.slots) (hdg : decode cc pc = .ok (.newarray atype, 2))
    (kk : ∀ (q : Nat) (H1 : Heap), gGeo (va_up ad n q) (n + 1) base → va_P D cl (gw (va_up ad n q) (va_up en n (.inl (cA, a0))) (n + 1)) H1 → va_S (gA base) H0 H1 locs →
      W p l e R s m args below meth c H1 locs (cells + 1) (slots + N') Q (F0 m (pc + 2) ls (.ref q :: rest))) : W p l e R s m args below meth c H locs cells slots Q (F0 m pc ls (.int k :: rest)) := by
  refine va_newa F.1 F.2.1 (F.2.2.2.2 _ w1) hty hK hP G.D hS (fun q h => Nat.le_trans hB h) ha hn hN hbytes hcells hslots hdg (fun q cB H1 h0 h1 h2 h3 => ?_)
  have hx : (tys ++ [(cB, ty)])[tys.length]? = some (cB, ty) := by simp
  have r1 := (h0.2 _ _ hx).2
  have r2 := (hK.2 _ _ ht).2
  have hcc : cB = cA := by
    cases ty with
    | object B => exact absurd rfl (hprim B)
    | _ => exact Option.some.inj (r1.symm.trans r2)
  subst hcc
  rw [gw_push] at h1 h2
  exact kk q H1 (gGeo.of h2) h1 h3
theorem g_newq (F : CallFix p m c cc nL s args Ts own) (hK : va_K D cl tys s) (G : gGeo ad n base) (hP : va_P D cl (gw ad en n) H) (hS : va_S (gA base) H0 H locs) (hB : base ≤ H0.size) {B : String} (w1 : Cond.classLink own index B ∈ Ts) (hover : va_AO B s) (t0 : Nat) {cA : ClassId} (ht : tys[t0]? = some (cA, .object B))
    {k : Int32} {N' : Nat} (hn : ¬ k < 0) (hN : k.toNatClampNeg = N') (hbytes : N' * 4 ≤ 536870912) (hcells : cells + 1 ≤ R.cells) (hslots : slots + N' ≤ R.slots) (hdg : decode cc pc = .ok (.anewarray index, 3))
    (kk : ∀ (q : Nat) (H1 : Heap), gGeo (va_up ad n q) (n + 1) base → va_P D cl (gw (va_up ad n q) (va_up en n (.inl (cA, N', .inr (.inr (.inr (.inr (fun _ => none))))))) (n + 1)) H1 → va_S (gA base) H0 H1 locs →
      W p l e R s m args below meth c H1 locs (cells + 1) (slots + N') Q (F0 m (pc + 3) ls (.ref q :: rest))) : W p l e R s m args below meth c H locs cells slots Q (F0 m pc ls (.int k :: rest)) := by
  refine va_newq F.1 F.2.1 F.2.2.2.1 (F.2.2.2.2 _ w1) hover hK hP G.D hS (fun q h => Nat.le_trans hB h) hn hN hbytes hcells hslots hdg (fun q cB H1 h0 h1 h2 h3 => ?_)
  have hx : (tys ++ [(cB, .object B)])[tys.length]? = some (cB, FieldType.object B) := by simp
  obtain ⟨_, _, _, _, _, r1⟩ := (h0.2 _ _ hx).2
  obtain ⟨_, _, _, _, _, r2⟩ := (hK.2 _ _ ht).2
  have hcc : cB = cA := Option.some.inj (r1.symm.trans r2)
  subst hcc
  rw [gw_push] at h1 h2
  exact kk q H1 (gGeo.of h2) h1 h3
end GWN
end
section
/-! The world: 25 cells in the order in which they are made. 0 the object; 1 its array of texts; 2 + 2 p, 3 + 2 p the text at the place p and its bytes; 12, 13 the pattern; 14, 15, 16 the automaton; 17 to 23 the reference; 24 the law's own array. -/
def en (ad : Nat → Nat) (cI cZ cT cJ : ClassId) (pi : Nat → Nat) (dr : Nat) (S M : Nat → Nat → Int32) (o : Nat → Int64) : Nat → va_E := fun i => match i with
  | 0 => .inr (0, [.ref (ad 1), .ref (ad 12), .ref (ad 14), .ref (ad (2 + 2 * dr))])
  | 1 => .inl (cT, 4, .inr (.inr (.inr (.inr (fun d => some (ad (2 + 2 * pi d)))))))
  | 2 => .inr (1, [.ref (ad 3), .int (S 5 0)])
  | 3 => .inl (cI, 1000, .inl (S 0))
  | 4 => .inr (1, [.ref (ad 5), .int (S 5 1)])
  | 5 => .inl (cI, 1000, .inl (S 1))
  | 6 => .inr (1, [.ref (ad 7), .int (S 5 2)])
  | 7 => .inl (cI, 1000, .inl (S 2))
  | 8 => .inr (1, [.ref (ad 9), .int (S 5 3)])
  | 9 => .inl (cI, 1000, .inl (S 3))
  | 10 => .inr (1, [.ref (ad 11), .int (S 5 4)])
  | 11 => .inl (cI, 1000, .inl (S 4))
  | 12 => .inr (2, [.ref (ad 13), .int (S 7 0)])
  | 13 => .inl (cI, 16, .inl (S 6))
  | 14 => .inr (3, [.ref (ad 15), .ref (ad 16)])
  | 15 => .inl (cI, 2048, .inl (S 8))
  | 16 => .inl (cZ, 8, .inl (S 9))
  | 17 => .inr (4, [.int (M 0 0), .ref (ad 18), .ref (ad 19), .ref (ad 20), .int (M 0 1), .int (M 0 2), .ref (ad 21), .ref (ad 22), .ref (ad 23), .int (M 0 3), .int (M 0 4)])
  | 18 => .inl (cI, 4000, .inl (M 1))
  | 19 => .inl (cI, 4, .inl (M 2))
  | 20 => .inl (cI, 1000, .inl (M 3))
  | 21 => .inl (cI, 16, .inl (M 4))
  | 22 => .inl (cI, 2048, .inl (M 5))
  | 23 => .inl (cZ, 8, .inl (M 6))
  | _ => .inl (cJ, 1, .inr (.inl o))
theorem all25 {P : Nat → Prop} (h0 : P 0) (h1 : P 1) (h2 : P 2) (h3 : P 3) (h4 : P 4) (h5 : P 5) (h6 : P 6) (h7 : P 7) (h8 : P 8) (h9 : P 9) (h10 : P 10) (h11 : P 11) (h12 : P 12) (h13 : P 13) (h14 : P 14) (h15 : P 15) (h16 : P 16) (h17 : P 17) (h18 : P 18) (h19 : P 19) (h20 : P 20) (h21 : P 21) (h22 : P 22) (h23 : P 23) (h24 : P 24) : ∀ j, j < 25 → P j
  | 0, _ => h0
  | 1, _ => h1
  | 2, _ => h2
  | 3, _ => h3
  | 4, _ => h4
  | 5, _ => h5
  | 6, _ => h6
  | 7, _ => h7
  | 8, _ => h8
  | 9, _ => h9
  | 10, _ => h10
  | 11, _ => h11
  | 12, _ => h12
  | 13, _ => h13
  | 14, _ => h14
  | 15, _ => h15
  | 16, _ => h16
  | 17, _ => h17
  | 18, _ => h18
  | 19, _ => h19
  | 20, _ => h20
  | 21, _ => h21
  | 22, _ => h22
  | 23, _ => h23
  | 24, _ => h24
  | n + 25, h => absurd h (by omega)
theorem all5 {P : Nat → Prop} (h0 : P 0) (h1 : P 1) (h2 : P 2) (h3 : P 3) (h4 : P 4) : ∀ j, j < 5 → P j
  | 0, _ => h0
  | 1, _ => h1
  | 2, _ => h2
  | 3, _ => h3
  | 4, _ => h4
  | n + 5, h => absurd h (by omega)
section ENU
variable (ad : Nat → Nat) (cI cZ cT cJ : ClassId) (pi : Nat → Nat) (dr : Nat) (S M : Nat → Nat → Int32) (o : Nat → Int64)
theorem en_T {p : Nat} (hp : p < 5) : en ad cI cZ cT cJ pi dr S M o (2 + 2 * p) = .inr (1, [.ref (ad (3 + 2 * p)), .int (S 5 p)]) := all5 (P := fun p => en ad cI cZ cT cJ pi dr S M o (2 + 2 * p) = .inr (1, [.ref (ad (3 + 2 * p)), .int (S 5 p)])) rfl rfl rfl rfl rfl p hp
theorem en_B {p : Nat} (hp : p < 5) : en ad cI cZ cT cJ pi dr S M o (3 + 2 * p) = .inl (cI, 1000, .inl (S p)) := all5 (P := fun p => en ad cI cZ cT cJ pi dr S M o (3 + 2 * p) = .inl (cI, 1000, .inl (S p))) rfl rfl rfl rfl rfl p hp
theorem en_sz (v : Int32) {p : Nat} (hp : p < 5) : ∀ j, j < 25 → va_up (en ad cI cZ cT cJ pi dr S M o) (2 + 2 * p) (.inr (1, [.ref (ad (3 + 2 * p)), .int v])) j = en ad cI cZ cT cJ pi dr (sr S 5 (upd (S 5) p v)) M o j := all5 (P := fun p => ∀ j, j < 25 → va_up (en ad cI cZ cT cJ pi dr S M o) (2 + 2 * p) (.inr (1, [.ref (ad (3 + 2 * p)), .int v])) j = en ad cI cZ cT cJ pi dr (sr S 5 (upd (S 5) p v)) M o j) (all25 rfl rfl rfl rfl rfl rfl rfl rfl rfl rfl rfl rfl rfl rfl rfl rfl rfl rfl rfl rfl rfl rfl rfl rfl rfl) (all25 rfl rfl rfl rfl rfl rfl rfl rfl rfl rfl rfl rfl rfl rfl rfl rfl rfl rfl rfl rfl rfl rfl rfl rfl rfl) (all25 rfl rfl rfl rfl rfl rfl rfl rfl rfl rfl rfl rfl rfl rfl rfl rfl rfl rfl rfl rfl rfl rfl rfl rfl rfl) (all25 rfl rfl rfl rfl rfl rfl rfl rfl rfl rfl rfl rfl rfl rfl rfl rfl rfl rfl rfl rfl rfl rfl rfl rfl rfl) (all25 rfl rfl rfl rfl rfl rfl rfl rfl rfl rfl rfl rfl rfl rfl rfl rfl rfl rfl rfl rfl rfl rfl rfl rfl rfl) p hp
theorem en_by (f : Nat → Int32) {p : Nat} (hp : p < 5) : ∀ j, j < 25 → va_up (en ad cI cZ cT cJ pi dr S M o) (3 + 2 * p) (.inl (cI, 1000, .inl f)) j = en ad cI cZ cT cJ pi dr (sr S p f) M o j := all5 (P := fun p => ∀ j, j < 25 → va_up (en ad cI cZ cT cJ pi dr S M o) (3 + 2 * p) (.inl (cI, 1000, .inl f)) j = en ad cI cZ cT cJ pi dr (sr S p f) M o j) (all25 rfl rfl rfl rfl rfl rfl rfl rfl rfl rfl rfl rfl rfl rfl rfl rfl rfl rfl rfl rfl rfl rfl rfl rfl rfl) (all25 rfl rfl rfl rfl rfl rfl rfl rfl rfl rfl rfl rfl rfl rfl rfl rfl rfl rfl rfl rfl rfl rfl rfl rfl rfl) (all25 rfl rfl rfl rfl rfl rfl rfl rfl rfl rfl rfl rfl rfl rfl rfl rfl rfl rfl rfl rfl rfl rfl rfl rfl rfl) (all25 rfl rfl rfl rfl rfl rfl rfl rfl rfl rfl rfl rfl rfl rfl rfl rfl rfl rfl rfl rfl rfl rfl rfl rfl rfl) (all25 rfl rfl rfl rfl rfl rfl rfl rfl rfl rfl rfl rfl rfl rfl rfl rfl rfl rfl rfl rfl rfl rfl rfl rfl rfl) p hp
theorem en_dr (q : Nat) : ∀ j, j < 25 → va_up (en ad cI cZ cT cJ pi dr S M o) 0 (.inr (0, [.ref (ad 1), .ref (ad 12), .ref (ad 14), .ref (ad (2 + 2 * q))])) j = en ad cI cZ cT cJ pi q S M o j := all25 rfl rfl rfl rfl rfl rfl rfl rfl rfl rfl rfl rfl rfl rfl rfl rfl rfl rfl rfl rfl rfl rfl rfl rfl rfl
theorem en_pi (k q : Nat) : ∀ j, j < 25 → va_up (en ad cI cZ cT cJ pi dr S M o) 1 (.inl (cT, 4, .inr (.inr (.inr (.inr (va_up (fun d => some (ad (2 + 2 * pi d))) k (some (ad (2 + 2 * q))))))))) j = en ad cI cZ cT cJ (va_up pi k q) dr S M o j := by
  have h : (va_up (fun d => some (ad (2 + 2 * pi d))) k (some (ad (2 + 2 * q)))) = fun d => some (ad (2 + 2 * va_up pi k q d)) := by
    funext d
    unfold va_up
    by_cases h : d = k <;> simp [h]
  rw [h]
  exact all25 rfl rfl rfl rfl rfl rfl rfl rfl rfl rfl rfl rfl rfl rfl rfl rfl rfl rfl rfl rfl rfl rfl rfl rfl rfl
theorem en_qs (v : Int32) : ∀ j, j < 25 → va_up (en ad cI cZ cT cJ pi dr S M o) 12 (.inr (2, [.ref (ad 13), .int v])) j = en ad cI cZ cT cJ pi dr (sr S 7 (upd (S 7) 0 v)) M o j := all25 rfl rfl rfl rfl rfl rfl rfl rfl rfl rfl rfl rfl rfl rfl rfl rfl rfl rfl rfl rfl rfl rfl rfl rfl rfl
theorem en_qb (f : Nat → Int32) : ∀ j, j < 25 → va_up (en ad cI cZ cT cJ pi dr S M o) 13 (.inl (cI, 16, .inl f)) j = en ad cI cZ cT cJ pi dr (sr S 6 f) M o j := all25 rfl rfl rfl rfl rfl rfl rfl rfl rfl rfl rfl rfl rfl rfl rfl rfl rfl rfl rfl rfl rfl rfl rfl rfl rfl
theorem en_nx (f : Nat → Int32) : ∀ j, j < 25 → va_up (en ad cI cZ cT cJ pi dr S M o) 15 (.inl (cI, 2048, .inl f)) j = en ad cI cZ cT cJ pi dr (sr S 8 f) M o j := all25 rfl rfl rfl rfl rfl rfl rfl rfl rfl rfl rfl rfl rfl rfl rfl rfl rfl rfl rfl rfl rfl rfl rfl rfl rfl
theorem en_ac (f : Nat → Int32) : ∀ j, j < 25 → va_up (en ad cI cZ cT cJ pi dr S M o) 16 (.inl (cZ, 8, .inl f)) j = en ad cI cZ cT cJ pi dr (sr S 9 f) M o j := all25 rfl rfl rfl rfl rfl rfl rfl rfl rfl rfl rfl rfl rfl rfl rfl rfl rfl rfl rfl rfl rfl rfl rfl rfl rfl
theorem en_m_code (v : Int32) : ∀ j, j < 25 → va_up (en ad cI cZ cT cJ pi dr S M o) 17 (.inr (4, [.int v, .ref (ad 18), .ref (ad 19), .ref (ad 20), .int (M 0 1), .int (M 0 2), .ref (ad 21), .ref (ad 22), .ref (ad 23), .int (M 0 3), .int (M 0 4)])) j = en ad cI cZ cT cJ pi dr S (sr M 0 (upd (M 0) 0 v)) o j := all25 rfl rfl rfl rfl rfl rfl rfl rfl rfl rfl rfl rfl rfl rfl rfl rfl rfl rfl rfl rfl rfl rfl rfl rfl rfl
theorem en_m_drafted (v : Int32) : ∀ j, j < 25 → va_up (en ad cI cZ cT cJ pi dr S M o) 17 (.inr (4, [.int (M 0 0), .ref (ad 18), .ref (ad 19), .ref (ad 20), .int v, .int (M 0 2), .ref (ad 21), .ref (ad 22), .ref (ad 23), .int (M 0 3), .int (M 0 4)])) j = en ad cI cZ cT cJ pi dr S (sr M 0 (upd (M 0) 1 v)) o j := all25 rfl rfl rfl rfl rfl rfl rfl rfl rfl rfl rfl rfl rfl rfl rfl rfl rfl rfl rfl rfl rfl rfl rfl rfl rfl
theorem en_m_ps (v : Int32) : ∀ j, j < 25 → va_up (en ad cI cZ cT cJ pi dr S M o) 17 (.inr (4, [.int (M 0 0), .ref (ad 18), .ref (ad 19), .ref (ad 20), .int (M 0 1), .int v, .ref (ad 21), .ref (ad 22), .ref (ad 23), .int (M 0 3), .int (M 0 4)])) j = en ad cI cZ cT cJ pi dr S (sr M 0 (upd (M 0) 2 v)) o j := all25 rfl rfl rfl rfl rfl rfl rfl rfl rfl rfl rfl rfl rfl rfl rfl rfl rfl rfl rfl rfl rfl rfl rfl rfl rfl
theorem en_m_state (v : Int32) : ∀ j, j < 25 → va_up (en ad cI cZ cT cJ pi dr S M o) 17 (.inr (4, [.int (M 0 0), .ref (ad 18), .ref (ad 19), .ref (ad 20), .int (M 0 1), .int (M 0 2), .ref (ad 21), .ref (ad 22), .ref (ad 23), .int v, .int (M 0 4)])) j = en ad cI cZ cT cJ pi dr S (sr M 0 (upd (M 0) 3 v)) o j := all25 rfl rfl rfl rfl rfl rfl rfl rfl rfl rfl rfl rfl rfl rfl rfl rfl rfl rfl rfl rfl rfl rfl rfl rfl rfl
theorem en_m_many (v : Int32) : ∀ j, j < 25 → va_up (en ad cI cZ cT cJ pi dr S M o) 17 (.inr (4, [.int (M 0 0), .ref (ad 18), .ref (ad 19), .ref (ad 20), .int (M 0 1), .int (M 0 2), .ref (ad 21), .ref (ad 22), .ref (ad 23), .int (M 0 3), .int v])) j = en ad cI cZ cT cJ pi dr S (sr M 0 (upd (M 0) 4 v)) o j := all25 rfl rfl rfl rfl rfl rfl rfl rfl rfl rfl rfl rfl rfl rfl rfl rfl rfl rfl rfl rfl rfl rfl rfl rfl rfl
theorem en_m_texts (f : Nat → Int32) : ∀ j, j < 25 → va_up (en ad cI cZ cT cJ pi dr S M o) 18 (.inl (cI, 4000, .inl f)) j = en ad cI cZ cT cJ pi dr S (sr M 1 f) o j := all25 rfl rfl rfl rfl rfl rfl rfl rfl rfl rfl rfl rfl rfl rfl rfl rfl rfl rfl rfl rfl rfl rfl rfl rfl rfl
theorem en_m_sizes (f : Nat → Int32) : ∀ j, j < 25 → va_up (en ad cI cZ cT cJ pi dr S M o) 19 (.inl (cI, 4, .inl f)) j = en ad cI cZ cT cJ pi dr S (sr M 2 f) o j := all25 rfl rfl rfl rfl rfl rfl rfl rfl rfl rfl rfl rfl rfl rfl rfl rfl rfl rfl rfl rfl rfl rfl rfl rfl rfl
theorem en_m_draft (f : Nat → Int32) : ∀ j, j < 25 → va_up (en ad cI cZ cT cJ pi dr S M o) 20 (.inl (cI, 1000, .inl f)) j = en ad cI cZ cT cJ pi dr S (sr M 3 f) o j := all25 rfl rfl rfl rfl rfl rfl rfl rfl rfl rfl rfl rfl rfl rfl rfl rfl rfl rfl rfl rfl rfl rfl rfl rfl rfl
theorem en_m_pat (f : Nat → Int32) : ∀ j, j < 25 → va_up (en ad cI cZ cT cJ pi dr S M o) 21 (.inl (cI, 16, .inl f)) j = en ad cI cZ cT cJ pi dr S (sr M 4 f) o j := all25 rfl rfl rfl rfl rfl rfl rfl rfl rfl rfl rfl rfl rfl rfl rfl rfl rfl rfl rfl rfl rfl rfl rfl rfl rfl
theorem en_m_next (f : Nat → Int32) : ∀ j, j < 25 → va_up (en ad cI cZ cT cJ pi dr S M o) 22 (.inl (cI, 2048, .inl f)) j = en ad cI cZ cT cJ pi dr S (sr M 5 f) o j := all25 rfl rfl rfl rfl rfl rfl rfl rfl rfl rfl rfl rfl rfl rfl rfl rfl rfl rfl rfl rfl rfl rfl rfl rfl rfl
theorem en_m_acc (f : Nat → Int32) : ∀ j, j < 25 → va_up (en ad cI cZ cT cJ pi dr S M o) 23 (.inl (cZ, 8, .inl f)) j = en ad cI cZ cT cJ pi dr S (sr M 6 f) o j := all25 rfl rfl rfl rfl rfl rfl rfl rfl rfl rfl rfl rfl rfl rfl rfl rfl rfl rfl rfl rfl rfl rfl rfl rfl rfl
theorem en_o (f : Nat → Int64) : ∀ j, j < 25 → va_up (en ad cI cZ cT cJ pi dr S M o) 24 (.inl (cJ, 1, .inr (.inl f))) j = en ad cI cZ cT cJ pi dr S M f j := all25 rfl rfl rfl rfl rfl rfl rfl rfl rfl rfl rfl rfl rfl rfl rfl rfl rfl rfl rfl rfl rfl rfl rfl rfl rfl
end ENU
/-- the words on nest mates -/
def nws : List (String × Nat × MethodName) := [("PairedTexts", 15, yT_init), ("PairedTexts", 22, yQ_init), ("PairedTexts", 29, yA_init), ("PairedTexts$Pattern", 19, yP_byteOf)]
def strs : List (Nat × String) := [(123, "no such document"), (130, "a number is not one that this call takes"), (141, "the text would be too long"), (134, "a place is not in the text"), (147, "there is no pattern"), (128, "no such state")]
def xN (k : Nat) : String := ["java/lang/IllegalArgumentException", "java/lang/IndexOutOfBoundsException", "java/lang/UnsupportedOperationException", "java/lang/IllegalStateException"].getD k ""
def dcs : List String := ["java/lang/RuntimeException", "java/lang/Exception", "java/lang/Throwable"]
/-- where a static field lies: its class's cell of statics in the heap, out of A -/
def tx_L (C n d : String) (A : Nat → Prop) (U : State) : Prop := ∃ (c : ClassId) (k : Class) (i : Nat) (f : Field) (a : Nat) (cell : Cell), U.vm.findClass C = some c ∧ U.fieldFound? C n d = some (c, k, i, f) ∧ f.isStatic = true ∧ k.statics = some a ∧ U.heap[a]? = some cell ∧ cell.vm.isStatics = true ∧ cell.cls = c ∧ f.slot < cell.slots.size ∧ k.staticTypes[f.slot]? = some f.type ∧ ¬ A a
theorem tx_L.word {C n d : String} {A : Nat → Prop} {s : State} {args : Array Value} (h : tx_L C n d A s) : (Cond.laysStatic C n d).before args s = true := by
  obtain ⟨c, k, i, f, a, cell, h1, h2, h3, h4, h5, h6, h7, h8, h9, -⟩ := h
  show (Cond.laysStatic C n d).holds args s none s [] = true
  exact Cond.laysStatic_of h1 h2 h3 h4 h5 h6 h7 h8 h9
theorem tx_L.of {C n d : String} {A : Nat → Prop} {s : State} {args : Array Value} (hl : (Cond.laysStatic C n d).before args s = true) (hA : ∀ a : Nat, a < s.heap.size → ¬ A a) : tx_L C n d A s := by
  obtain ⟨c, k, i, f, a, cell, h1, h2, h3, h4, h5, h6, h7, h8, h9⟩ := Cond.laysStatic_spec hl
  exact ⟨c, k, i, f, a, cell, h1, h2, h3, h4, h5, h6, h7, h8, h9, hA a (Array.getElem?_eq_some_iff.mp h5).1⟩
theorem tx_L.moved {C n d : String} {A : Nat → Prop} {u U : State} (hvm : u.vm.Alike U.vm) (hh : ∀ a : Nat, a < u.heap.size → ¬ A a → U.heap[a]? = u.heap[a]?) (h : tx_L C n d A u) : tx_L C n d A U := by
  obtain ⟨c, k, i, f, a, cell, h1, h2, h3, h4, h5, h6, h7, h8, h9, h10⟩ := h
  obtain ⟨k', hi', he⟩ := State.fieldFound?_setVm hvm h2
  exact ⟨c, k', i, f, a, cell, by rw [hvm.findClass]; exact h1, hi', h3, by rw [he]; exact h4, by rw [hh a (Array.getElem?_eq_some_iff.mp h5).1 h10]; exact h5, h6, h7, h8, by rw [he]; exact h9, h10⟩
/-- what the tables and the statics say, for every method here: classes, arrays, nest mates, texts of exceptions, two statics of Throwable, which exceptions are not of which class -/
def tw (D : va_G) (cI cZ cT cJ : ClassId) (base : Nat) (U : State) : Prop :=
  va_K D cl [(cI, .int), (cZ, .boolean), (cT, .object "PairedTexts$Text"), (cJ, .long)] U ∧ (∀ q ∈ nws, va_Nw (.methodLinkNest q.1 q.2.1 q.2.2 "PairedTexts") U) ∧ (∀ q ∈ strs, ∃ a, vk_R "PairedTexts" q.1 q.2 a U) ∧
  (va_Zq "java/lang/Throwable" "UNASSIGNED_STACK" "[Ljava/lang/StackTraceElement;" (gA base) U U.heap ∧ tx_L "java/lang/Throwable" "UNASSIGNED_STACK" "[Ljava/lang/StackTraceElement;" (gA base) U) ∧
  (va_Zq "java/lang/Throwable" "SUPPRESSED_SENTINEL" "Ljava/util/List;" (gA base) U U.heap ∧ tx_L "java/lang/Throwable" "SUPPRESSED_SENTINEL" "Ljava/util/List;" (gA base) U) ∧ va_AO "PairedTexts$Text" U ∧
  (∀ X ∈ dcs, va_Nw (.declares ⟨X, "<init>", "(Ljava/lang/String;)V"⟩) U) ∧ (∀ i j, i < 4 → j < 4 → i ≠ j → ∃ ci cj, U.vm.findClass (xN i) = some ci ∧ U.vm.findClass (xN j) = some cj ∧ U.vm.assignable ci cj = false)
theorem tw.moved {D : va_G} {cI cZ cT cJ : ClassId} {base : Nat} {s U : State} (hW : s.WarmedH U.vm) (hh : ∀ a : Nat, a < s.heap.size → ¬ gA base a → U.heap[a]? = s.heap[a]?) (h : tw D cI cZ cT cJ base s) : tw D cI cZ cT cJ base U := by
  obtain ⟨h1, h2, h3, ⟨h4, h4'⟩, ⟨h5, h5'⟩, h6, h8, h7⟩ := h
  refine ⟨h1.moved hW.alike, fun q hq => (h2 q hq).warmM hW, fun q hq => ?_, ⟨(h4.moved hW.alike).kept hh, h4'.moved hW.alike hh⟩, ⟨(h5.moved hW.alike).kept hh, h5'.moved hW.alike hh⟩, h6.moved hW.alike, fun X hX => (h8 X hX).warmD hW, fun i j hi hj hij => ?_⟩
  · obtain ⟨a, ha⟩ := h3 q hq
    exact ⟨a, ha.warm hW⟩
  · obtain ⟨ci, cj, a1, a2, a3⟩ := h7 i j hi hj hij
    exact ⟨ci, cj, by rw [hW.alike.findClass]; exact a1, by rw [hW.alike.findClass]; exact a2, by rw [hW.alike.assignable]; exact a3⟩
theorem tw.calling {D : va_G} {cI cZ cT cJ : ClassId} {base : Nat} {U : State} {g : JFrame} {mk : MethodId} {a : Array Value} (h : tw D cI cZ cT cJ base U) : tw D cI cZ cT cJ base (U.calling g mk a) := by
  obtain ⟨h1, h2, h3, ⟨h4, h4'⟩, ⟨h5, h5'⟩, h6, h8, h7⟩ := h
  exact ⟨h1.moved (U := U.calling g mk a) (Vm.Alike.refl U.vm), fun q hq => (h2 q hq).same rfl rfl, fun q hq => (by obtain ⟨z, hz⟩ := h3 q hq; exact ⟨z, hz.same rfl⟩), ⟨h4.moved (U := U.calling g mk a) (Vm.Alike.refl U.vm), h4'.moved (U := U.calling g mk a) (Vm.Alike.refl U.vm) (fun _ _ _ => rfl)⟩, ⟨h5.moved (U := U.calling g mk a) (Vm.Alike.refl U.vm), h5'.moved (U := U.calling g mk a) (Vm.Alike.refl U.vm) (fun _ _ _ => rfl)⟩, h6.moved (U := U.calling g mk a) (Vm.Alike.refl U.vm), fun X hX => (h8 X hX).same rfl rfl, h7⟩
end
section
/-! The making and throwing of the four exceptions. -/
theorem tx_cast {X : String} {n : Nat} {args : Array Value} {s : State} (h : (Cond.instantiable X n).before args s = true) : (Cond.castable X X).before args s = true := by
  obtain ⟨c1, k1, hc, -⟩ := Cond.instantiable_spec (show (Cond.instantiable X n).holds args s none s [] = true from h)
  simp [Cond.before, Cond.holds, Cond.value, hc, va_asg]
section EXC
variable {args : Array Value} {s : State} {D : va_G} {cI cZ cT cJ : ClassId} {base : Nat}
set_option maxHeartbeats 4000000 in
theorem oa_IAE (hts : ∀ w ∈ tws, w.before args s = true) (htw : tw D cI cZ cT cJ base s) : ∀ a ∈ Bundle.ownAtoms "PairedTexts" 125 "java/lang/IllegalArgumentException" ["java/lang/RuntimeException", "java/lang/Exception"], a.before args s = true := by
  obtain ⟨-, -, -, ⟨h4, h4'⟩, ⟨h5, h5'⟩, -, h8, -⟩ := htw
  intro w hw
  simp only [Bundle.ownAtoms, Bundle.throwableAtoms, Bundle.throwableSAtoms, Bundle.chainSAtoms, Bundle.passSAtoms, List.cons_append, List.nil_append, List.append_assoc, List.mem_cons, List.not_mem_nil, or_false] at hw
  repeat' (rcases hw with hw | hw)
  all_goals (try subst hw)
  all_goals first
    | exact hts _ k1_9
    | exact hts _ k1_86
    | exact hts _ k1_99
    | exact hts _ k1_100
    | exact hts _ k1_108
    | exact hts _ k1_109
    | exact hts _ k1_110
    | exact hts _ k1_112
    | exact hts _ k1_114
    | exact hts _ k1_116
    | exact hts _ k1_118
    | exact hts _ k1_142
    | exact hts _ k1_143
    | exact hts _ k1_144
    | exact hts _ k1_145
    | exact hts _ k1_163
    | exact hts _ k1_166
    | exact hts _ k1_6
    | exact hts _ k1_7
    | exact hts _ k1_8
    | exact hts _ k1_111
    | exact hts _ k1_113
    | exact hts _ k1_115
    | exact hts _ k1_117
    | exact hts _ k1_119
    | exact hts _ k1_120
    | exact hts _ k1_121
    | exact hts _ k1_122
    | exact hts _ k1_123
    | exact hts _ k1_124
    | exact hts _ k1_125
    | exact hts _ k1_127
    | exact hts _ k1_129
    | exact hts _ k1_130
    | exact hts _ k1_131
    | exact hts _ k1_135
    | exact hts _ k1_136
    | exact hts _ k1_138
    | exact hts _ k1_139
    | exact hts _ k1_140
    | exact hts _ k1_146
    | exact hts _ k1_147
    | exact hts _ k1_148
    | exact hts _ k1_149
    | exact hts _ k1_150
    | exact hts _ k1_151
    | exact hts _ k1_152
    | exact hts _ k1_153
    | exact hts _ k1_155
    | exact hts _ k1_156
    | exact hts _ k1_157
    | exact hts _ k1_158
    | exact hts _ k1_159
    | exact hts _ k1_160
    | exact hts _ k1_161
    | exact hts _ k1_162
    | exact hts _ k1_164
    | exact hts _ k1_165
    | exact hts _ k3_122
    | exact hts _ k1_21
    | exact hts _ k1_22
    | exact tx_cast (hts _ k1_100)
    | exact tx_isRef h4
    | exact tx_isRef h5
    | exact h4'.word
    | exact h5'.word
    | exact va_Nw.use rfl (h8 _ (List.mem_of_getElem? (i := 0) rfl))
    | exact va_Nw.use rfl (h8 _ (List.mem_of_getElem? (i := 1) rfl))
    | exact va_Nw.use rfl (h8 _ (List.mem_of_getElem? (i := 2) rfl))
set_option maxHeartbeats 4000000 in
theorem oa_IOO (hts : ∀ w ∈ tws, w.before args s = true) (htw : tw D cI cZ cT cJ base s) : ∀ a ∈ Bundle.ownAtoms "PairedTexts" 136 "java/lang/IndexOutOfBoundsException" ["java/lang/RuntimeException", "java/lang/Exception"], a.before args s = true := by
  obtain ⟨-, -, -, ⟨h4, h4'⟩, ⟨h5, h5'⟩, -, h8, -⟩ := htw
  intro w hw
  simp only [Bundle.ownAtoms, Bundle.throwableAtoms, Bundle.throwableSAtoms, Bundle.chainSAtoms, Bundle.passSAtoms, List.cons_append, List.nil_append, List.append_assoc, List.mem_cons, List.not_mem_nil, or_false] at hw
  repeat' (rcases hw with hw | hw)
  all_goals (try subst hw)
  all_goals first
    | exact hts _ k1_11
    | exact hts _ k1_133
    | exact hts _ k1_209
    | exact hts _ k1_217
    | exact hts _ k1_218
    | exact hts _ k1_220
    | exact hts _ k1_221
    | exact hts _ k1_222
    | exact hts _ k1_223
    | exact hts _ k1_224
    | exact hts _ k1_225
    | exact hts _ k1_227
    | exact hts _ k1_228
    | exact hts _ k1_229
    | exact hts _ k1_230
    | exact hts _ k1_231
    | exact hts _ k1_232
    | exact hts _ k1_6
    | exact hts _ k1_7
    | exact hts _ k1_8
    | exact hts _ k1_111
    | exact hts _ k1_113
    | exact hts _ k1_115
    | exact hts _ k1_117
    | exact hts _ k1_119
    | exact hts _ k1_120
    | exact hts _ k1_121
    | exact hts _ k1_122
    | exact hts _ k1_123
    | exact hts _ k1_124
    | exact hts _ k1_125
    | exact hts _ k1_127
    | exact hts _ k1_129
    | exact hts _ k1_130
    | exact hts _ k1_131
    | exact hts _ k1_135
    | exact hts _ k1_136
    | exact hts _ k1_138
    | exact hts _ k1_139
    | exact hts _ k1_140
    | exact hts _ k1_146
    | exact hts _ k1_147
    | exact hts _ k1_148
    | exact hts _ k1_149
    | exact hts _ k1_150
    | exact hts _ k1_151
    | exact hts _ k1_152
    | exact hts _ k1_153
    | exact hts _ k1_155
    | exact hts _ k1_156
    | exact hts _ k1_157
    | exact hts _ k1_158
    | exact hts _ k1_159
    | exact hts _ k1_160
    | exact hts _ k1_161
    | exact hts _ k1_162
    | exact hts _ k1_164
    | exact hts _ k1_165
    | exact hts _ k3_122
    | exact hts _ k1_21
    | exact hts _ k1_22
    | exact tx_cast (hts _ k1_218)
    | exact tx_isRef h4
    | exact tx_isRef h5
    | exact h4'.word
    | exact h5'.word
    | exact va_Nw.use rfl (h8 _ (List.mem_of_getElem? (i := 0) rfl))
    | exact va_Nw.use rfl (h8 _ (List.mem_of_getElem? (i := 1) rfl))
    | exact va_Nw.use rfl (h8 _ (List.mem_of_getElem? (i := 2) rfl))
set_option maxHeartbeats 4000000 in
theorem oa_UOE (hts : ∀ w ∈ tws, w.before args s = true) (htw : tw D cI cZ cT cJ base s) : ∀ a ∈ Bundle.ownAtoms "PairedTexts" 143 "java/lang/UnsupportedOperationException" ["java/lang/RuntimeException", "java/lang/Exception"], a.before args s = true := by
  obtain ⟨-, -, -, ⟨h4, h4'⟩, ⟨h5, h5'⟩, -, h8, -⟩ := htw
  intro w hw
  simp only [Bundle.ownAtoms, Bundle.throwableAtoms, Bundle.throwableSAtoms, Bundle.chainSAtoms, Bundle.passSAtoms, List.cons_append, List.nil_append, List.append_assoc, List.mem_cons, List.not_mem_nil, or_false] at hw
  repeat' (rcases hw with hw | hw)
  all_goals (try subst hw)
  all_goals first
    | exact hts _ k1_10
    | exact hts _ k1_87
    | exact hts _ k1_134
    | exact hts _ k1_176
    | exact hts _ k1_177
    | exact hts _ k1_179
    | exact hts _ k1_180
    | exact hts _ k1_181
    | exact hts _ k1_182
    | exact hts _ k1_183
    | exact hts _ k1_184
    | exact hts _ k1_186
    | exact hts _ k1_187
    | exact hts _ k1_188
    | exact hts _ k1_189
    | exact hts _ k1_190
    | exact hts _ k1_191
    | exact hts _ k1_6
    | exact hts _ k1_7
    | exact hts _ k1_8
    | exact hts _ k1_111
    | exact hts _ k1_113
    | exact hts _ k1_115
    | exact hts _ k1_117
    | exact hts _ k1_119
    | exact hts _ k1_120
    | exact hts _ k1_121
    | exact hts _ k1_122
    | exact hts _ k1_123
    | exact hts _ k1_124
    | exact hts _ k1_125
    | exact hts _ k1_127
    | exact hts _ k1_129
    | exact hts _ k1_130
    | exact hts _ k1_131
    | exact hts _ k1_135
    | exact hts _ k1_136
    | exact hts _ k1_138
    | exact hts _ k1_139
    | exact hts _ k1_140
    | exact hts _ k1_146
    | exact hts _ k1_147
    | exact hts _ k1_148
    | exact hts _ k1_149
    | exact hts _ k1_150
    | exact hts _ k1_151
    | exact hts _ k1_152
    | exact hts _ k1_153
    | exact hts _ k1_155
    | exact hts _ k1_156
    | exact hts _ k1_157
    | exact hts _ k1_158
    | exact hts _ k1_159
    | exact hts _ k1_160
    | exact hts _ k1_161
    | exact hts _ k1_162
    | exact hts _ k1_164
    | exact hts _ k1_165
    | exact hts _ k3_122
    | exact hts _ k1_21
    | exact hts _ k1_22
    | exact tx_cast (hts _ k1_177)
    | exact tx_isRef h4
    | exact tx_isRef h5
    | exact h4'.word
    | exact h5'.word
    | exact va_Nw.use rfl (h8 _ (List.mem_of_getElem? (i := 0) rfl))
    | exact va_Nw.use rfl (h8 _ (List.mem_of_getElem? (i := 1) rfl))
    | exact va_Nw.use rfl (h8 _ (List.mem_of_getElem? (i := 2) rfl))
set_option maxHeartbeats 4000000 in
theorem oa_ISE (hts : ∀ w ∈ tws, w.before args s = true) (htw : tw D cI cZ cT cJ base s) : ∀ a ∈ Bundle.ownAtoms "PairedTexts" 149 "java/lang/IllegalStateException" ["java/lang/RuntimeException", "java/lang/Exception"], a.before args s = true := by
  obtain ⟨-, -, -, ⟨h4, h4'⟩, ⟨h5, h5'⟩, -, h8, -⟩ := htw
  intro w hw
  simp only [Bundle.ownAtoms, Bundle.throwableAtoms, Bundle.throwableSAtoms, Bundle.chainSAtoms, Bundle.passSAtoms, List.cons_append, List.nil_append, List.append_assoc, List.mem_cons, List.not_mem_nil, or_false] at hw
  repeat' (rcases hw with hw | hw)
  all_goals (try subst hw)
  all_goals first
    | exact hts _ k1_14
    | exact hts _ k1_132
    | exact hts _ k2_114
    | exact hts _ k2_123
    | exact hts _ k2_124
    | exact hts _ k2_126
    | exact hts _ k2_127
    | exact hts _ k2_128
    | exact hts _ k2_129
    | exact hts _ k2_130
    | exact hts _ k2_131
    | exact hts _ k2_133
    | exact hts _ k2_134
    | exact hts _ k2_135
    | exact hts _ k2_136
    | exact hts _ k2_137
    | exact hts _ k2_138
    | exact hts _ k1_6
    | exact hts _ k1_7
    | exact hts _ k1_8
    | exact hts _ k1_111
    | exact hts _ k1_113
    | exact hts _ k1_115
    | exact hts _ k1_117
    | exact hts _ k1_119
    | exact hts _ k1_120
    | exact hts _ k1_121
    | exact hts _ k1_122
    | exact hts _ k1_123
    | exact hts _ k1_124
    | exact hts _ k1_125
    | exact hts _ k1_127
    | exact hts _ k1_129
    | exact hts _ k1_130
    | exact hts _ k1_131
    | exact hts _ k1_135
    | exact hts _ k1_136
    | exact hts _ k1_138
    | exact hts _ k1_139
    | exact hts _ k1_140
    | exact hts _ k1_146
    | exact hts _ k1_147
    | exact hts _ k1_148
    | exact hts _ k1_149
    | exact hts _ k1_150
    | exact hts _ k1_151
    | exact hts _ k1_152
    | exact hts _ k1_153
    | exact hts _ k1_155
    | exact hts _ k1_156
    | exact hts _ k1_157
    | exact hts _ k1_158
    | exact hts _ k1_159
    | exact hts _ k1_160
    | exact hts _ k1_161
    | exact hts _ k1_162
    | exact hts _ k1_164
    | exact hts _ k1_165
    | exact hts _ k3_122
    | exact hts _ k1_21
    | exact hts _ k1_22
    | exact tx_cast (hts _ k2_124)
    | exact tx_isRef h4
    | exact tx_isRef h5
    | exact h4'.word
    | exact h5'.word
    | exact va_Nw.use rfl (h8 _ (List.mem_of_getElem? (i := 0) rfl))
    | exact va_Nw.use rfl (h8 _ (List.mem_of_getElem? (i := 1) rfl))
    | exact va_Nw.use rfl (h8 _ (List.mem_of_getElem? (i := 2) rfl))
end EXC
section EXT
variable {p : Program} {l : Launch} {e : Env} {R : Room} {s : State} {m : MethodId} {args : Array Value} {below : List Frame} {meth : Method} {c : Code} {H : Heap} {cells slots : Nat} {cc : ByteArray} {pc nL : Nat} {ls : Array Slot} {D : va_G} {cI cZ cT cJ : ClassId} {base : Nat}
/-- 'throw new X("..")', from its first instruction to the end -/
theorem g_throw (F : CallFix p m c cc nL s args tws "PairedTexts") (hl : l.stackTraces = false) (hlocks : meth.locks = false) (hno : c.exceptionTable.isEmpty = true) (htw : tw D cI cZ cT cJ base s) {X : String} {ik ic is : Nat} {tx : String} (hX : Bundle.fit X = true)
    (w1 : Cond.classLink "PairedTexts" ik X ∈ tws) (w2 : Cond.instantiable X 6 ∈ tws) (w3 : Cond.initialized X ∈ tws) (hoa : ∀ a ∈ Bundle.ownAtoms "PairedTexts" ic X ["java/lang/RuntimeException", "java/lang/Exception"], a.before args s = true) (hst : (is, tx) ∈ strs)
    (hsz : ls.size = nL) (hf : 6 ≤ R.frames) (hlo : 82 ≤ R.locals) (hc : 1 ≤ R.cells) (hs : 6 ≤ R.slots)
    (d0 : decode cc pc = .ok (.new ik, 3)) (d1 : decode cc (pc + 3) = .ok (.dup, 1)) (d2 : decode cc (pc + 3 + 1) = .ok (.ldc is, 2)) (d3 : decode cc (pc + 3 + 1 + 2) = .ok (.invokespecial ic, 3)) (d4 : decode cc (pc + 3 + 1 + 2 + 3) = .ok (.athrow, 1)) :
    W p l e R s m args below meth c s.heap [] 0 0 (TQ below X s 1 6) (F0 m pc ls []) := by
  obtain ⟨hx, hb, hml, hown, hts⟩ := F
  obtain ⟨cX, kX0, hfX, -⟩ := Cond.instantiable_spec (show (Cond.instantiable X 6).holds args s none s [] = true from hts _ w2)
  obtain ⟨q, hq⟩ := htw.2.2.1 _ hst
  refine W.newcK hx hb hown (hts _ w1) (hts _ w2) (hts _ w3) rfl d0 (by omega) (by omega) hfX rfl fun H' kC hkC e1 z1 o1 => ?_
  refine lv_dup hx hb d1 rfl ?_
  refine va_ldcS hx hb hown hq d2 ?_
  exact W.throwS hx hl hb hlocks hno hown hX (by decide +kernel) hoa hfX hkC e1 (Nat.le_refl _) (by rw [hml, hsz]) d3 d4 (by show 2 + 3 < _; omega) (by show 1 + (13 * (2 + 1) + 42) ≤ _; omega) (by omega) (by omega)
end EXT
end
section
/-! Calls in the one world. -/
theorem g_good {w : Cond} (h : w ∈ tws) : GoodIn tws (w :: tws) := fun v hv => by
  rcases List.mem_cons.mp hv with rfl | hv
  · exact ⟨h, good_of_word (tws_good h)⟩
  · exact ⟨hv, good_of_word (tws_good hv)⟩
section GCL
variable {p : Program} {l : Launch} {e : Env} {R : Room} {s : State} {m : MethodId} {args : Array Value} {below : List Frame} {meth : Method} {c : Code} {H : Heap} {locs : List Loc} {cells slots : Nat} {Q : State → Prop}
variable {cc bytes : ByteArray} {pc nL maxL k index mc ms : Nat} {ls : Array Slot} {rest st0 As : List Value} {D : va_G} {cI cZ cT cJ : ClassId} {ad : Nat → Nat} {en : Nat → va_E} {n base : Nat} {own C : String} {y : MethodName} {ret : Option FieldType} {rm : Room} {r : Option Value} {Post : (Nat → va_E) → Prop}
theorem g_blind : FrameBlind (gPc (tw D cI cZ cT cJ base) D cl ad n base en As) := fun a U g mk h => by
  obtain ⟨h0, h1, h2, h3⟩ := h
  exact ⟨h0, h1.calling, h2, h3⟩
theorem g_preS (htw : tw D cI cZ cT cJ base s) (hB : base ≤ s.heap.size) (hS : va_S (gA base) s.heap H locs) (hP : va_P D cl (gw ad en n) H) : PreS s H (gPc (tw D cI cZ cT cJ base) D cl ad n base en As) As :=
  ⟨g_blind, fun U hU hW => ⟨rfl, htw.moved hW (fun q h1 h2 => by rw [hU]; exact hS.2.1 q h1 h2), by rw [hU]; exact Nat.le_trans hB hS.1, by rw [hU]; exact hP⟩⟩
theorem g_recv {tys : List (ClassId × FieldType)} {i ci N : Nat} {T : u_T} {fs : List Value} (hK : va_K D cl tys s) (hP : va_P D cl (gw ad en n) H) (hi : i < n) (he : en i = .inr (ci, fs)) (hc : cl[ci]? = some (C, T, N)) : ∃ cellB : Cell, H[ad i]? = some cellB ∧ cellB.vm.isStatics = false ∧ s.vm.findClass C = some cellB.cls := by
  obtain ⟨r, h1, cell, q1, q2, q3, q4⟩ := hP i (ad i, .inr (ci, fs)) (by rw [gw_at hi, he])
  have hr : r = (C, T, N) := Option.some.inj (h1.symm.trans hc)
  subst hr
  obtain ⟨-, hfc, -⟩ := hK.1 ci _ hc
  exact ⟨cell, q1, by rw [q3]; rfl, by rw [q2]; exact hfc⟩
theorem g_preV {i ci N : Nat} {T : u_T} {fs : List Value} (htw : tw D cI cZ cT cJ base s) (hB : base ≤ s.heap.size) (hS : va_S (gA base) s.heap H locs) (hP : va_P D cl (gw ad en n) H) (hi : i < n) (he : en i = .inr (ci, fs)) (hc : cl[ci]? = some (C, T, N)) : PreV s H C (ad i) (gPc (tw D cI cZ cT cJ base) D cl ad n base en (.ref (ad i) :: As)) As :=
  ⟨g_blind, g_recv htw.1 hP hi he hc, (g_preS (As := .ref (ad i) :: As) htw hB hS hP).2⟩
/-- a static method, called -/
theorem g_S (F : CallFix p m c cc nL s args tws own) (htw : tw D cI cZ cT cJ base s) (hB : base ≤ s.heap.size) (hS : va_S (gA base) s.heap H locs) (hP : va_P D cl (gw ad en n) H)
    (hM : Met l y (Cond.code y bytes maxL ret :: tws) rm (gPc (tw D cI cZ cT cJ base) D cl ad n base en As) (gQc D cl ad n base r Post) mc ms (gA base))
    (w1 : Cond.methodLink own index y ∈ tws) (w2 : Cond.static y ∈ tws) (w3 : Cond.initialized y.cls ∈ tws) (w4 : Cond.code y bytes maxL ret ∈ tws)
    (hd : y.cls ≠ "java/lang/invoke/MethodHandle" ∧ y.cls ≠ "java/lang/invoke/VarHandle" ∧ (parseMethodDescriptor y.desc).map (fun d => d.parameters.length) = some k) (hrc : rm.cells = mc) (hrs : rm.slots = ms) (hR : rm.frames + 1 ≤ R.frames ∧ 8 + (maxL + 11) + rm.locals ≤ R.locals)
    (hn : As.length = k) (hsize : ls.size = nL) (hstack : st0 = As.reverse ++ rest) (hW : (rest.map fun v => v.category).sum ≤ 8) (hdg : decode cc pc = .ok (.invokestatic index, 3)) (hf : cells + mc ≤ R.cells ∧ slots + ms ≤ R.slots)
    (kk : ∀ (en' : Nat → va_E) (H1 : Heap) (locs1 : List Loc), Post en' → va_P D cl (gw ad en' n) H1 → va_S (gA base) s.heap H1 locs1 → W p l e R s m args below meth c H1 locs1 (cells + mc) (slots + ms) Q (F0 m (pc + 3) ls (r.toList ++ rest))) : W p l e R s m args below meth c H locs cells slots Q (F0 m pc ls st0) :=
  g_call (va_runS (As := As) (rest := rest) F hM ⟨callB_of k F.2.2.2.2 (g_good w4) rfl hrc hrs (F.2.2.2.2 _ w3) (F.2.2.2.2 _ w1) hd hR, F.2.2.2.2 _ w2⟩ (g_preS htw hB hS hP) rfl hn hsize hstack (lv_room hW) hdg hf) hS kk
/-- a method of an object, called -/
theorem g_V (F : CallFix p m c cc nL s args tws own) (htw : tw D cI cZ cT cJ base s) (hB : base ≤ s.heap.size) (hS : va_S (gA base) s.heap H locs) (hP : va_P D cl (gw ad en n) H) (i : Nat) (hi : i < n) {ci N : Nat} {T : u_T} {fs : List Value} (he : en i = .inr (ci, fs)) (hc : cl[ci]? = some (y.cls, T, N))
    (hM : Met l y (Cond.code y bytes maxL ret :: tws) rm (gPc (tw D cI cZ cT cJ base) D cl ad n base en (.ref (ad i) :: As)) (gQc D cl ad n base r Post) mc ms (gA base))
    (w1 : Cond.methodLink own index y ∈ tws) (w2 : Cond.instanceMethod y ∈ tws) (w5 : Cond.selects y.cls y y ∈ tws) (w3 : Cond.initialized y.cls ∈ tws) (w4 : Cond.code y bytes maxL ret ∈ tws)
    (hd : y.cls ≠ "java/lang/invoke/MethodHandle" ∧ y.cls ≠ "java/lang/invoke/VarHandle" ∧ (parseMethodDescriptor y.desc).map (fun d => d.parameters.length) = some k) (hrc : rm.cells = mc) (hrs : rm.slots = ms) (hR : rm.frames + 1 ≤ R.frames ∧ 8 + (maxL + 11) + rm.locals ≤ R.locals)
    (hn : As.length = k) (hsize : ls.size = nL) (hstack : st0 = As.reverse ++ .ref (ad i) :: rest) (hW : (rest.map fun v => v.category).sum ≤ 8) (hdg : decode cc pc = .ok (.invokevirtual index, 3)) (hf : cells + mc ≤ R.cells ∧ slots + ms ≤ R.slots)
    (kk : ∀ (en' : Nat → va_E) (H1 : Heap) (locs1 : List Loc), Post en' → va_P D cl (gw ad en' n) H1 → va_S (gA base) s.heap H1 locs1 → W p l e R s m args below meth c H1 locs1 (cells + mc) (slots + ms) Q (F0 m (pc + 3) ls (r.toList ++ rest))) : W p l e R s m args below meth c H locs cells slots Q (F0 m pc ls st0) :=
  g_call (va_runV (As := As) (rest := rest) (C := y.cls) F hM ⟨callB_of k F.2.2.2.2 (g_good w4) rfl hrc hrs (F.2.2.2.2 _ w3) (F.2.2.2.2 _ w1) hd hR, F.2.2.2.2 _ w2, F.2.2.2.2 _ w5⟩ (g_preV htw hB hS hP hi he hc) rfl hn hsize hstack (lv_room hW) hdg hf) hS kk
/-- a static method of a nest mate, called -/
theorem g_SN (F : CallFix p m c cc nL s args tws own) (htw : tw D cI cZ cT cJ base s) (hB : base ≤ s.heap.size) (hS : va_S (gA base) s.heap H locs) (hP : va_P D cl (gw ad en n) H)
    (hM : Met l y (Cond.code y bytes maxL ret :: tws) rm (gPc (tw D cI cZ cT cJ base) D cl ad n base en As) (gQc D cl ad n base r Post) mc ms (gA base))
    (w1 : (own, index, y) ∈ nws) (w2 : Cond.static y ∈ tws) (w3 : Cond.initialized y.cls ∈ tws) (w4 : Cond.code y bytes maxL ret ∈ tws)
    (hd : y.cls ≠ "java/lang/invoke/MethodHandle" ∧ y.cls ≠ "java/lang/invoke/VarHandle" ∧ (parseMethodDescriptor y.desc).map (fun d => d.parameters.length) = some k) (hrc : rm.cells = mc) (hrs : rm.slots = ms) (hR : rm.frames + 1 ≤ R.frames ∧ 8 + (maxL + 11) + rm.locals ≤ R.locals)
    (hn : As.length = k) (hsize : ls.size = nL) (hstack : st0 = As.reverse ++ rest) (hW : (rest.map fun v => v.category).sum ≤ 8) (hdg : decode cc pc = .ok (.invokestatic index, 3)) (hf : cells + mc ≤ R.cells ∧ slots + ms ≤ R.slots)
    (kk : ∀ (en' : Nat → va_E) (H1 : Heap) (locs1 : List Loc), Post en' → va_P D cl (gw ad en' n) H1 → va_S (gA base) s.heap H1 locs1 → W p l e R s m args below meth c H1 locs1 (cells + mc) (slots + ms) Q (F0 m (pc + 3) ls (r.toList ++ rest))) : W p l e R s m args below meth c H locs cells slots Q (F0 m pc ls st0) :=
  g_call (va_runSN (As := As) (rest := rest) (host := "PairedTexts") F hM ⟨va_cnB k F.2.2.2.2 (g_good w4) rfl hrc hrs (htw.2.1 _ w1) (F.2.2.2.2 _ w3) hd hR, F.2.2.2.2 _ w2, trivial⟩ (g_preS htw hB hS hP) rfl hn hsize hstack (lv_room hW) hdg hf) hS kk
variable {xs : List String} {X : String} {kx : Nat}
/-- behind a call that threw: the world, and what is below base, as they were -/
theorem g_Th {x : Nat} {H1 : Heap} (hS : va_S (gA base) s.heap H locs) (hP : va_P D cl (gw ad en n) H) (hTh : tx_Th X s H H1 x) : va_S (gA base) s.heap H1 locs ∧ va_P D cl (gw ad en n) H1 :=
  ⟨⟨Nat.le_trans hS.1 hTh.1.1, fun q h1 h2 => (hTh.1.2 q (Nat.lt_of_lt_of_le h1 hS.1)).trans (hS.2.1 q h1 h2), hS.2.2⟩, fun k q hk => (hP k q hk).kept (hTh.1.2 q.1 (hP k q hk).lt)⟩
/-- a static method that throws, called by one that has no handlers, ere anything was done -/
theorem g_ST0 (F : CallFix p m c cc nL s args tws own) (hlocks : meth.locks = false) (hno : c.exceptionTable.isEmpty = true) (htw : tw D cI cZ cT cJ base s) (hB : base ≤ s.heap.size) (hP : va_P D cl (gw ad en n) s.heap)
    (hM : MetTh l y (Cond.code y bytes maxL ret :: tws) rm (gPc (tw D cI cZ cT cJ base) D cl ad n base en As) X 1 6)
    (w1 : Cond.methodLink own index y ∈ tws) (w2 : Cond.static y ∈ tws) (w3 : Cond.initialized y.cls ∈ tws) (w4 : Cond.code y bytes maxL ret ∈ tws)
    (hd : y.cls ≠ "java/lang/invoke/MethodHandle" ∧ y.cls ≠ "java/lang/invoke/VarHandle" ∧ (parseMethodDescriptor y.desc).map (fun d => d.parameters.length) = some k) (hrc : rm.cells = 1) (hrs : rm.slots = 6) (hR : rm.frames + 1 ≤ R.frames ∧ 8 + (maxL + 11) + rm.locals ≤ R.locals)
    (hn : As.length = k) (hsize : ls.size = nL) (hstack : st0 = As.reverse ++ rest) (hW : (rest.map fun v => v.category).sum ≤ 8) (hdg : decode cc pc = .ok (.invokestatic index, 3)) (hf : 1 ≤ R.cells ∧ 6 ≤ R.slots) :
    W p l e R s m args below meth c s.heap [] 0 0 (TQ below X s 1 6) (F0 m pc ls st0) := by
  refine W.callSTh F hM ⟨callB_of k F.2.2.2.2 (g_good w4) rfl hrc hrs (F.2.2.2.2 _ w3) (F.2.2.2.2 _ w1) hd hR, F.2.2.2.2 _ w2⟩ (g_preS htw hB va_S.rf hP) hn hsize hstack hW hdg ⟨by omega, by omega⟩ (fun x H1 hTh => ?_)
  exact WT.leave hlocks hno rfl rfl rfl hTh.1 hTh.2 (fun q h => by cases h) (Nat.le_refl _) (Nat.le_refl _)
/-- a static method that throws, called by one that has no handlers -/
theorem g_STh (F : CallFix p m c cc nL s args tws own) (hlocks : meth.locks = false) (hno : c.exceptionTable.isEmpty = true) (htw : tw D cI cZ cT cJ base s) (hB : base ≤ s.heap.size) (hS : va_S (gA base) s.heap H locs) (hP : va_P D cl (gw ad en n) H)
    (hM : MetTh l y (Cond.code y bytes maxL ret :: tws) rm (gPc (tw D cI cZ cT cJ base) D cl ad n base en As) X 1 6)
    (w1 : Cond.methodLink own index y ∈ tws) (w2 : Cond.static y ∈ tws) (w3 : Cond.initialized y.cls ∈ tws) (w4 : Cond.code y bytes maxL ret ∈ tws)
    (hd : y.cls ≠ "java/lang/invoke/MethodHandle" ∧ y.cls ≠ "java/lang/invoke/VarHandle" ∧ (parseMethodDescriptor y.desc).map (fun d => d.parameters.length) = some k) (hrc : rm.cells = 1) (hrs : rm.slots = 6) (hR : rm.frames + 1 ≤ R.frames ∧ 8 + (maxL + 11) + rm.locals ≤ R.locals)
    (hn : As.length = k) (hsize : ls.size = nL) (hstack : st0 = As.reverse ++ rest) (hW : (rest.map fun v => v.category).sum ≤ 8) (hdg : decode cc pc = .ok (.invokestatic index, 3)) (hf : 1 ≤ R.cells ∧ 6 ≤ R.slots) (hk : kx ≠ 0) (hX : xs.getD (kx - 1) "" = X) :
    W p l e R s m args below meth c H locs 0 0 (MQX below (gQx D cl ad n base en xs kx r Post) args s 1 6 (gA base)) (F0 m pc ls st0) := by
  refine W.callSTh F hM ⟨callB_of k F.2.2.2.2 (g_good w4) rfl hrc hrs (F.2.2.2.2 _ w3) (F.2.2.2.2 _ w1) hd hR, F.2.2.2.2 _ w2⟩ (g_preS htw hB hS hP) hn hsize hstack hW hdg ⟨by omega, by omega⟩ (fun x H1 hTh => ?_)
  obtain ⟨hS1, hP1⟩ := g_Th hS hP hTh
  obtain ⟨hold, cell, o1, o2, o3⟩ := hTh
  exact WT.leaveX hlocks hno rfl rfl rfl (fun t ht hWt => Or.inr ⟨hk, x, rfl, ⟨cell, by rw [ht]; exact o1, o2, by rw [hWt.alike.findClass, hX]; exact o3⟩, by rw [ht]; exact hP1, hS1.F ht⟩) hS1.2.2
/-- the same, a method of an object -/
theorem g_VTh (F : CallFix p m c cc nL s args tws own) (hlocks : meth.locks = false) (hno : c.exceptionTable.isEmpty = true) (htw : tw D cI cZ cT cJ base s) (hB : base ≤ s.heap.size) (hS : va_S (gA base) s.heap H locs) (hP : va_P D cl (gw ad en n) H) (i : Nat) (hi : i < n) {ci N : Nat} {T : u_T} {fs : List Value} (he : en i = .inr (ci, fs)) (hc : cl[ci]? = some (y.cls, T, N))
    (hM : MetTh l y (Cond.code y bytes maxL ret :: tws) rm (gPc (tw D cI cZ cT cJ base) D cl ad n base en (.ref (ad i) :: As)) X 1 6)
    (w1 : Cond.methodLink own index y ∈ tws) (w2 : Cond.instanceMethod y ∈ tws) (w5 : Cond.selects y.cls y y ∈ tws) (w3 : Cond.initialized y.cls ∈ tws) (w4 : Cond.code y bytes maxL ret ∈ tws)
    (hd : y.cls ≠ "java/lang/invoke/MethodHandle" ∧ y.cls ≠ "java/lang/invoke/VarHandle" ∧ (parseMethodDescriptor y.desc).map (fun d => d.parameters.length) = some k) (hrc : rm.cells = 1) (hrs : rm.slots = 6) (hR : rm.frames + 1 ≤ R.frames ∧ 8 + (maxL + 11) + rm.locals ≤ R.locals)
    (hn : As.length = k) (hsize : ls.size = nL) (hstack : st0 = As.reverse ++ .ref (ad i) :: rest) (hW : (rest.map fun v => v.category).sum ≤ 8) (hdg : decode cc pc = .ok (.invokevirtual index, 3)) (hf : 1 ≤ R.cells ∧ 6 ≤ R.slots) (hk : kx ≠ 0) (hX : xs.getD (kx - 1) "" = X) :
    W p l e R s m args below meth c H locs 0 0 (MQX below (gQx D cl ad n base en xs kx r Post) args s 1 6 (gA base)) (F0 m pc ls st0) := by
  refine W.callVTh (C := y.cls) F hM ⟨callB_of k F.2.2.2.2 (g_good w4) rfl hrc hrs (F.2.2.2.2 _ w3) (F.2.2.2.2 _ w1) hd hR, F.2.2.2.2 _ w2, F.2.2.2.2 _ w5⟩ (g_preV htw hB hS hP hi he hc) hn hsize hstack hW hdg ⟨by omega, by omega⟩ (fun x H1 hTh => ?_)
  obtain ⟨hS1, hP1⟩ := g_Th hS hP hTh
  obtain ⟨hold, cell, o1, o2, o3⟩ := hTh
  exact WT.leaveX hlocks hno rfl rfl rfl (fun t ht hWt => Or.inr ⟨hk, x, rfl, ⟨cell, by rw [ht]; exact o1, o2, by rw [hWt.alike.findClass, hX]; exact o3⟩, by rw [ht]; exact hP1, hS1.F ht⟩) hS1.2.2
end GCL
end
section
/-! The class's small methods. -/
theorem P_of {D : va_G} {cl : List vw_C} {ad : Nat → Nat} {e1 e2 : Nat → va_E} {n : Nat} {H : Heap} (h : va_P D cl (gw ad e1 n) H) (he : ∀ j, j < n → e1 j = e2 j) : va_P D cl (gw ad e2 n) H := by rw [← gw_eq he]; exact h
/-- 0 ≤ f ≤ t ≤ n -/
def rgL (f : Int32) (t : Int64) (n : Nat) : Bool := decide (0 ≤ f.toInt ∧ f.toInt ≤ t.toInt ∧ t.toInt ≤ (n : Int))
def pcL (f : Int32) (n : Nat) : Bool := decide (0 ≤ f.toInt ∧ f.toInt ≤ (n : Int))
section M1
variable {l : Launch} {D : va_G} {cI cZ cT cJ : ClassId} {base : Nat} {ad : Nat → Nat} {pi : Nat → Nat} {dr : Nat} {S M : Nat → Nat → Int32} {o : Nat → Int64}
set_option maxHeartbeats 4000000 in
set_option maxRecDepth 100000 in
theorem c_T_clear (G : gGeo ad 25 base) {q : Nat} (hq : q < 5) : Met l yT_clear (Cond.code yT_clear bT_clear 1 none :: tws) { frames := 0, cells := 0, slots := 0, locals := 0 } (gPc (tw D cI cZ cT cJ base) D cl ad 25 base (en ad cI cZ cT cJ pi dr S M o) [.ref (ad (2 + 2 * q))]) (gQc D cl ad 25 base none (fun e => e = en ad cI cZ cT cJ pi dr (sr S 5 (upd (S 5) q 0)) M o)) 0 0 (gA base) := by
  refine Met.ofW (cc := bT_clear) (maxL := 1) (ret := none) (by decide) rfl ?_
  intro p e s m args below meth c s₁ B hml hv
  obtain ⟨rfl, htw, hB, hP⟩ := hv
  have hx := B.exec
  have hb := B.bytes
  have hr := B.returns
  have hts0 := atoms_spec (ws := Cond.code yT_clear bT_clear 1 none :: tws) B.pre
  have hts : ∀ w ∈ tws, w.before _ s = true := fun w h => hts0 w (List.mem_cons_of_mem _ h)
  have hown : s.vm.findClass "PairedTexts$Text" = some m.cls := findClass_of_methodNamed B.named
  have hlocks := B.notSynchronized
  have hno := B.noHandlers (hts0 _ List.mem_cons_self)
  have F : CallFix p m c bT_clear 1 s _ tws "PairedTexts$Text" := ⟨hx, hb, hml, hown, hts⟩
  have hK := htw.1
  have hS : va_S (gA base) s.heap s.heap [] := va_S.rf
  have hl := lv_entry ([.ref (ad (2 + 2 * q))]) (n := 1) (Nat.le_of_ble_eq_true rfl)
  rw [lg_entry_eq]
  generalize (lg_sl ([.ref (ad (2 + 2 * q))]) ++ List.replicate (1 - (lg_sl ([.ref (ad (2 + 2 * q))])).length) Slot.unset).toArray = ls at hl ⊢
  have hl : lv_has ls 1 [(0, .ref (ad (2 + 2 * q)))] := hl
  refine lv_aload_n hx hb dT_clear_0 rfl (lv_at hl 0 rfl) ?_
  refine lv_iconst (v := 0) hx hb dT_clear_1 (by decide) ?_
  refine g_put F hK G hP hS (2 + 2 * q) (by omega) (en_T _ _ _ _ _ _ _ _ _ _ hq) rfl iT tT tT_ok nT 1 (by decide) k1_33 rfl (ty := .int) (by decide +kernel) rfl rfl (Nat.le_of_ble_eq_true rfl) dT_clear_2 (fun H locs hP hS => ?_)
  have hP := P_of hP (en_sz _ _ _ _ _ _ _ _ _ _ _ hq)
  exact W.vret hx hb hr (fun t ht hW => ⟨rfl, ⟨_, rfl, by rw [ht]; exact hP⟩, hS.F ht⟩) hS.2.2 dT_clear_5
set_option maxHeartbeats 4000000 in
set_option maxRecDepth 100000 in
theorem c_T_add (G : gGeo ad 25 base) {q k : Nat} (hq : q < 5) (hk : k < 1000) (h5 : S 5 q = nI k) (b : Int32) : Met l yT_add (Cond.code yT_add bT_add 2 none :: tws) { frames := 0, cells := 0, slots := 0, locals := 0 } (gPc (tw D cI cZ cT cJ base) D cl ad 25 base (en ad cI cZ cT cJ pi dr S M o) [.ref (ad (2 + 2 * q)), .int b]) (gQc D cl ad 25 base none (fun e => e = en ad cI cZ cT cJ pi dr (sr (sr S q (upd (S q) k b)) 5 (upd (S 5) q (nI (k + 1)))) M o)) 0 0 (gA base) := by
  refine Met.ofW (cc := bT_add) (maxL := 2) (ret := none) (by decide) rfl ?_
  intro p e s m args below meth c s₁ B hml hv
  obtain ⟨rfl, htw, hB, hP⟩ := hv
  have hx := B.exec
  have hb := B.bytes
  have hr := B.returns
  have hts0 := atoms_spec (ws := Cond.code yT_add bT_add 2 none :: tws) B.pre
  have hts : ∀ w ∈ tws, w.before _ s = true := fun w h => hts0 w (List.mem_cons_of_mem _ h)
  have hown : s.vm.findClass "PairedTexts$Text" = some m.cls := findClass_of_methodNamed B.named
  have hlocks := B.notSynchronized
  have hno := B.noHandlers (hts0 _ List.mem_cons_self)
  have F : CallFix p m c bT_add 2 s _ tws "PairedTexts$Text" := ⟨hx, hb, hml, hown, hts⟩
  have hK := htw.1
  have hS : va_S (gA base) s.heap s.heap [] := va_S.rf
  have hl := lv_entry ([.ref (ad (2 + 2 * q)), .int b]) (n := 2) (Nat.le_of_ble_eq_true rfl)
  rw [lg_entry_eq]
  generalize (lg_sl ([.ref (ad (2 + 2 * q)), .int b]) ++ List.replicate (2 - (lg_sl ([.ref (ad (2 + 2 * q)), .int b])).length) Slot.unset).toArray = ls at hl ⊢
  have hl : lv_has ls 2 [(0, .ref (ad (2 + 2 * q))), (1, .int b)] := hl
  refine lv_aload_n hx hb dT_add_0 rfl (lv_at hl 0 rfl) ?_
  refine g_get F hK hP (2 + 2 * q) (by omega) (en_T _ _ _ _ _ _ _ _ _ _ hq) rfl iT 0 (by decide) k1_30 rfl dT_add_1 ?_
  refine lv_aload_n hx hb dT_add_4 rfl (lv_at hl 0 rfl) ?_
  refine g_get F hK hP (2 + 2 * q) (by omega) (en_T _ _ _ _ _ _ _ _ _ _ hq) rfl iT 1 (by decide) k1_33 rfl dT_add_5 ?_
  refine lv_iload_n hx hb dT_add_8 rfl (lv_at hl 1 rfl) ?_
  refine g_iast F hK G hP hS (3 + 2 * q) (by omega) 0 (en_B _ _ _ _ _ _ _ _ _ _ hq) rfl (by rw [h5]; exact vp_in_nI hk (by omega)) dT_add_9 (fun H locs hP hS => ?_)
  rw [h5, nI_clamp (show k < 2 ^ 31 by omega)] at hP
  have hP := P_of hP (en_by _ _ _ _ _ _ _ _ _ _ _ hq)
  refine lv_aload_n hx hb dT_add_10 rfl (lv_at hl 0 rfl) ?_
  refine lv_dup hx hb dT_add_11 rfl ?_
  refine g_get F hK hP (2 + 2 * q) (by omega) (en_T _ _ _ _ _ _ _ _ _ _ hq) rfl iT 1 (by decide) k1_33 rfl dT_add_12 ?_
  refine lv_iconst (v := 1) hx hb dT_add_15 (by decide) ?_
  refine lv_iadd hx hb dT_add_16 ?_
  refine g_put F hK G hP hS (2 + 2 * q) (by omega) (en_T _ _ _ _ _ _ _ _ _ _ hq) rfl iT tT tT_ok nT 1 (by decide) k1_33 rfl (ty := .int) (by decide +kernel) rfl rfl (Nat.le_of_ble_eq_true rfl) dT_add_17 (fun H locs hP hS => ?_)
  have hP := P_of hP (en_sz _ _ _ _ _ _ _ _ _ _ _ hq)
  rw [sr_n (show (5 : Nat) ≠ q by omega), h5, nI_1] at hP
  exact W.vret hx hb hr (fun t ht hW => ⟨rfl, ⟨_, rfl, by rw [ht]; exact hP⟩, hS.F ht⟩) hS.2.2 dT_add_20
set_option maxHeartbeats 4000000 in
set_option maxRecDepth 100000 in
theorem c_P_byteOf {e0 : Nat → va_E} (v : Int64) {k : Nat} (hk : k < 8) : Met l yP_byteOf (Cond.code yP_byteOf bP_byteOf 3 (some .int) :: tws) { frames := 0, cells := 0, slots := 0, locals := 0 } (gPc (tw D cI cZ cT cJ base) D cl ad 25 base (e0) [.long v, .int (nI k)]) (gQc D cl ad 25 base (some (.int (nI (byt v k)))) (fun e => e = e0)) 0 0 (gA base) := by
  refine Met.ofW (cc := bP_byteOf) (maxL := 3) (ret := (some .int)) (by decide) rfl ?_
  intro p e s m args below meth c s₁ B hml hv
  obtain ⟨rfl, htw, hB, hP⟩ := hv
  have hx := B.exec
  have hb := B.bytes
  have hr := B.returns
  have hts0 := atoms_spec (ws := Cond.code yP_byteOf bP_byteOf 3 (some .int) :: tws) B.pre
  have hts : ∀ w ∈ tws, w.before _ s = true := fun w h => hts0 w (List.mem_cons_of_mem _ h)
  have hown : s.vm.findClass "PairedTexts" = some m.cls := findClass_of_methodNamed B.named
  have hlocks := B.notSynchronized
  have hno := B.noHandlers (hts0 _ List.mem_cons_self)
  have F : CallFix p m c bP_byteOf 3 s _ tws "PairedTexts" := ⟨hx, hb, hml, hown, hts⟩
  have hK := htw.1
  have hS : va_S (gA base) s.heap s.heap [] := va_S.rf
  have hl := lv_entry ([.long v, .int (nI k)]) (n := 3) (Nat.le_of_ble_eq_true rfl)
  rw [lg_entry_eq]
  generalize (lg_sl ([.long v, .int (nI k)]) ++ List.replicate (3 - (lg_sl ([.long v, .int (nI k)])).length) Slot.unset).toArray = ls at hl ⊢
  have hl : lv_has ls 3 [(0, .long v), (2, .int (nI k))] := hl
  refine lv_lload_n hx hb dP_byteOf_0 rfl (lv_at hl 0 rfl) ?_
  refine lv_bipush (v := 8) hx hb dP_byteOf_1 (by decide) ?_
  refine lv_iload_n hx hb dP_byteOf_3 rfl (lv_at hl 1 rfl) ?_
  refine lv_imul hx hb dP_byteOf_4 ?_
  have e8 : (8 : Int32) * nI k = nI (8 * k) := pk_mul 8 k
  rw [e8]
  refine lv_lushr hx hb dP_byteOf_5 rfl ?_
  refine lv_l2i hx hb dP_byteOf_6 rfl ?_
  refine lv_sipush (v := 255) hx hb dP_byteOf_7 (by decide) ?_
  refine lv_iand hx hb dP_byteOf_10 ?_
  rw [by_cls v hk]
  exact W.iret hx hb hr (fun t ht hW => ⟨rfl, ⟨_, rfl, by rw [ht]; exact hP⟩, hS.F ht⟩) hS.2.2 dP_byteOf_11
set_option maxHeartbeats 4000000 in
set_option maxRecDepth 100000 in
theorem c_A_nextOf {s0 b : Nat} (hs : s0 < 8) (hb0 : b < 256) : Met l yA_nextOf (Cond.code yA_nextOf bA_nextOf 3 (some .int) :: tws) { frames := 0, cells := 0, slots := 0, locals := 0 } (gPc (tw D cI cZ cT cJ base) D cl ad 25 base (en ad cI cZ cT cJ pi dr S M o) [.ref (ad 14), .int (nI s0), .int (nI b)]) (gQc D cl ad 25 base (some (.int (S 8 (256 * s0 + b)))) (fun e => e = en ad cI cZ cT cJ pi dr S M o)) 0 0 (gA base) := by
  refine Met.ofW (cc := bA_nextOf) (maxL := 3) (ret := (some .int)) (by decide) rfl ?_
  intro p e s m args below meth c s₁ B hml hv
  obtain ⟨rfl, htw, hB, hP⟩ := hv
  have hx := B.exec
  have hb := B.bytes
  have hr := B.returns
  have hts0 := atoms_spec (ws := Cond.code yA_nextOf bA_nextOf 3 (some .int) :: tws) B.pre
  have hts : ∀ w ∈ tws, w.before _ s = true := fun w h => hts0 w (List.mem_cons_of_mem _ h)
  have hown : s.vm.findClass "PairedTexts$Automaton" = some m.cls := findClass_of_methodNamed B.named
  have hlocks := B.notSynchronized
  have hno := B.noHandlers (hts0 _ List.mem_cons_self)
  have F : CallFix p m c bA_nextOf 3 s _ tws "PairedTexts$Automaton" := ⟨hx, hb, hml, hown, hts⟩
  have hK := htw.1
  have hS : va_S (gA base) s.heap s.heap [] := va_S.rf
  have hl := lv_entry ([.ref (ad 14), .int (nI s0), .int (nI b)]) (n := 3) (Nat.le_of_ble_eq_true rfl)
  rw [lg_entry_eq]
  generalize (lg_sl ([.ref (ad 14), .int (nI s0), .int (nI b)]) ++ List.replicate (3 - (lg_sl ([.ref (ad 14), .int (nI s0), .int (nI b)])).length) Slot.unset).toArray = ls at hl ⊢
  have hl : lv_has ls 3 [(0, .ref (ad 14)), (1, .int (nI s0)), (2, .int (nI b))] := hl
  refine lv_aload_n hx hb dA_nextOf_0 rfl (lv_at hl 0 rfl) ?_
  refine g_get F hK hP (14) (by decide) rfl rfl iA 0 (by decide) k1_61 rfl dA_nextOf_1 ?_
  refine lv_iload_n hx hb dA_nextOf_4 rfl (lv_at hl 1 rfl) ?_
  refine lv_sipush (v := 256) hx hb dA_nextOf_5 (by decide) ?_
  refine lv_imul hx hb dA_nextOf_8 ?_
  refine lv_iload_n hx hb dA_nextOf_9 rfl (lv_at hl 2 rfl) ?_
  refine lv_iadd hx hb dA_nextOf_10 ?_
  have e1 : nI s0 * 256 + nI b = nI (256 * s0 + b) := by rw [show (256 : Int32) = nI 256 from rfl, pk_mul, nI_add, Nat.mul_comm]
  rw [e1]
  refine g_iald F hK hP (15) (by decide) 0 rfl rfl (vp_in_nI (show 256 * s0 + b < 2048 by omega) (by omega)) dA_nextOf_11 ?_
  rw [nI_clamp (show 256 * s0 + b < 2 ^ 31 by omega)]
  exact W.iret hx hb hr (fun t ht hW => ⟨rfl, ⟨_, rfl, by rw [ht]; exact hP⟩, hS.F ht⟩) hS.2.2 dA_nextOf_12
set_option maxHeartbeats 4000000 in
set_option maxRecDepth 100000 in
theorem c_A_setNext (G : gGeo ad 25 base) {s0 b : Nat} (hs : s0 < 8) (hb0 : b < 256) (t0 : Int32) : Met l yA_setNext (Cond.code yA_setNext bA_setNext 4 none :: tws) { frames := 0, cells := 0, slots := 0, locals := 0 } (gPc (tw D cI cZ cT cJ base) D cl ad 25 base (en ad cI cZ cT cJ pi dr S M o) [.ref (ad 14), .int (nI s0), .int (nI b), .int t0]) (gQc D cl ad 25 base none (fun e => e = en ad cI cZ cT cJ pi dr (sr S 8 (upd (S 8) (256 * s0 + b) t0)) M o)) 0 0 (gA base) := by
  refine Met.ofW (cc := bA_setNext) (maxL := 4) (ret := none) (by decide) rfl ?_
  intro p e s m args below meth c s₁ B hml hv
  obtain ⟨rfl, htw, hB, hP⟩ := hv
  have hx := B.exec
  have hb := B.bytes
  have hr := B.returns
  have hts0 := atoms_spec (ws := Cond.code yA_setNext bA_setNext 4 none :: tws) B.pre
  have hts : ∀ w ∈ tws, w.before _ s = true := fun w h => hts0 w (List.mem_cons_of_mem _ h)
  have hown : s.vm.findClass "PairedTexts$Automaton" = some m.cls := findClass_of_methodNamed B.named
  have hlocks := B.notSynchronized
  have hno := B.noHandlers (hts0 _ List.mem_cons_self)
  have F : CallFix p m c bA_setNext 4 s _ tws "PairedTexts$Automaton" := ⟨hx, hb, hml, hown, hts⟩
  have hK := htw.1
  have hS : va_S (gA base) s.heap s.heap [] := va_S.rf
  have hl := lv_entry ([.ref (ad 14), .int (nI s0), .int (nI b), .int t0]) (n := 4) (Nat.le_of_ble_eq_true rfl)
  rw [lg_entry_eq]
  generalize (lg_sl ([.ref (ad 14), .int (nI s0), .int (nI b), .int t0]) ++ List.replicate (4 - (lg_sl ([.ref (ad 14), .int (nI s0), .int (nI b), .int t0])).length) Slot.unset).toArray = ls at hl ⊢
  have hl : lv_has ls 4 [(0, .ref (ad 14)), (1, .int (nI s0)), (2, .int (nI b)), (3, .int t0)] := hl
  refine lv_aload_n hx hb dA_setNext_0 rfl (lv_at hl 0 rfl) ?_
  refine g_get F hK hP (14) (by decide) rfl rfl iA 0 (by decide) k1_61 rfl dA_setNext_1 ?_
  refine lv_iload_n hx hb dA_setNext_4 rfl (lv_at hl 1 rfl) ?_
  refine lv_sipush (v := 256) hx hb dA_setNext_5 (by decide) ?_
  refine lv_imul hx hb dA_setNext_8 ?_
  refine lv_iload_n hx hb dA_setNext_9 rfl (lv_at hl 2 rfl) ?_
  refine lv_iadd hx hb dA_setNext_10 ?_
  refine lv_iload_n hx hb dA_setNext_11 rfl (lv_at hl 3 rfl) ?_
  have e1 : nI s0 * 256 + nI b = nI (256 * s0 + b) := by rw [show (256 : Int32) = nI 256 from rfl, pk_mul, nI_add, Nat.mul_comm]
  rw [e1]
  refine g_iast F hK G hP hS (15) (by decide) 0 rfl rfl (vp_in_nI (show 256 * s0 + b < 2048 by omega) (by omega)) dA_setNext_12 (fun H locs hP hS => ?_)
  rw [nI_clamp (show 256 * s0 + b < 2 ^ 31 by omega)] at hP
  have hP := P_of hP (en_nx _ _ _ _ _ _ _ _ _ _ _)
  exact W.vret hx hb hr (fun t ht hW => ⟨rfl, ⟨_, rfl, by rw [ht]; exact hP⟩, hS.F ht⟩) hS.2.2 dA_setNext_13
set_option maxHeartbeats 4000000 in
set_option maxRecDepth 100000 in
theorem c_T_hasRange {q n : Nat} (hq : q < 5) (hn : n ≤ 1000) (h5 : S 5 q = nI n) (f : Int32) (t : Int64) : Met l yT_hasRange (Cond.code yT_hasRange bT_hasRange 4 (some .boolean) :: tws) { frames := 0, cells := 0, slots := 0, locals := 0 } (gPc (tw D cI cZ cT cJ base) D cl ad 25 base (en ad cI cZ cT cJ pi dr S M o) [.ref (ad (2 + 2 * q)), .int f, .long t]) (gQc D cl ad 25 base (some (.int (if rgL f t n then 1 else 0))) (fun e => e = en ad cI cZ cT cJ pi dr S M o)) 0 0 (gA base) := by
  refine Met.ofW (cc := bT_hasRange) (maxL := 4) (ret := (some .boolean)) (by decide) rfl ?_
  intro p e s m args below meth c s₁ B hml hv
  obtain ⟨rfl, htw, hB, hP⟩ := hv
  have hx := B.exec
  have hb := B.bytes
  have hr := B.returns
  have hts0 := atoms_spec (ws := Cond.code yT_hasRange bT_hasRange 4 (some .boolean) :: tws) B.pre
  have hts : ∀ w ∈ tws, w.before _ s = true := fun w h => hts0 w (List.mem_cons_of_mem _ h)
  have hown : s.vm.findClass "PairedTexts$Text" = some m.cls := findClass_of_methodNamed B.named
  have hlocks := B.notSynchronized
  have hno := B.noHandlers (hts0 _ List.mem_cons_self)
  have F : CallFix p m c bT_hasRange 4 s _ tws "PairedTexts$Text" := ⟨hx, hb, hml, hown, hts⟩
  have hK := htw.1
  have hS : va_S (gA base) s.heap s.heap [] := va_S.rf
  have hl := lv_entry ([.ref (ad (2 + 2 * q)), .int f, .long t]) (n := 4) (Nat.le_of_ble_eq_true rfl)
  rw [lg_entry_eq]
  generalize (lg_sl ([.ref (ad (2 + 2 * q)), .int f, .long t]) ++ List.replicate (4 - (lg_sl ([.ref (ad (2 + 2 * q)), .int f, .long t])).length) Slot.unset).toArray = ls at hl ⊢
  have hl : lv_has ls 4 [(0, .ref (ad (2 + 2 * q))), (1, .int f), (2, .long t)] := hl
  have z0 : (0 : Int32).toInt = 0 := rfl
  have zn : (nI n).toInt = n := nI_toInt (by omega)
  refine lv_iconst (v := 0) hx hb dT_hasRange_0 (by decide) ?_
  refine lv_iload_n hx hb dT_hasRange_1 rfl (lv_at hl 1 rfl) ?_
  refine lv_icmp_gt (tgt := 26) hx hb dT_hasRange_2 (by decide) (fun hc => ?_) (fun hc => ?_)
  · rw [Int32.lt_iff_toInt_lt] at hc
    refine lv_iconst (v := 0) hx hb dT_hasRange_26 (by decide) ?_
    have hv : (if rgL f t n then (1 : Int32) else 0) = 0 := if_neg (by unfold rgL; simp only [decide_eq_true_eq]; omega)
    exact W.zret hx hb hr rfl (fun t ht hW => ⟨by rw [hv], ⟨_, rfl, by rw [ht]; exact hP⟩, hS.F ht⟩) hS.2.2 dT_hasRange_27
  · rw [Int32.lt_iff_toInt_lt] at hc
    refine lv_iload_n hx hb dT_hasRange_5 rfl (lv_at hl 1 rfl) ?_
    refine lv_i2l hx hb dT_hasRange_6 rfl ?_
    refine lv_lload_n hx hb dT_hasRange_7 rfl (lv_at hl 2 rfl) ?_
    refine W.lcmp hx hb dT_hasRange_8 ?_
    refine lv_if_gt (tgt := 26) hx hb dT_hasRange_9 (by decide) (fun hd => ?_) (fun hd => ?_)
    · rw [lg_cmp_gt, Int64.lt_iff_toInt_lt, Int32.toInt_toInt64] at hd
      refine lv_iconst (v := 0) hx hb dT_hasRange_26 (by decide) ?_
      have hv : (if rgL f t n then (1 : Int32) else 0) = 0 := if_neg (by unfold rgL; simp only [decide_eq_true_eq]; omega)
      exact W.zret hx hb hr rfl (fun t ht hW => ⟨by rw [hv], ⟨_, rfl, by rw [ht]; exact hP⟩, hS.F ht⟩) hS.2.2 dT_hasRange_27
    · rw [lg_cmp_gt, Int64.lt_iff_toInt_lt, Int32.toInt_toInt64] at hd
      refine lv_lload_n hx hb dT_hasRange_12 rfl (lv_at hl 2 rfl) ?_
      refine lv_aload_n hx hb dT_hasRange_13 rfl (lv_at hl 0 rfl) ?_
      refine g_get F hK hP (2 + 2 * q) (by omega) (en_T _ _ _ _ _ _ _ _ _ _ hq) rfl iT 1 (by decide) k1_33 rfl dT_hasRange_14 ?_
      refine lv_i2l hx hb dT_hasRange_17 rfl ?_
      refine W.lcmp hx hb dT_hasRange_18 ?_
      refine lv_if_gt (tgt := 26) hx hb dT_hasRange_19 (by decide) (fun hg => ?_) (fun hg => ?_)
      · rw [lg_cmp_gt, Int64.lt_iff_toInt_lt, Int32.toInt_toInt64, h5, zn] at hg
        refine lv_iconst (v := 0) hx hb dT_hasRange_26 (by decide) ?_
        have hv : (if rgL f t n then (1 : Int32) else 0) = 0 := if_neg (by unfold rgL; simp only [decide_eq_true_eq]; omega)
        exact W.zret hx hb hr rfl (fun t ht hW => ⟨by rw [hv], ⟨_, rfl, by rw [ht]; exact hP⟩, hS.F ht⟩) hS.2.2 dT_hasRange_27
      · rw [lg_cmp_gt, Int64.lt_iff_toInt_lt, Int32.toInt_toInt64, h5, zn] at hg
        refine lv_iconst (v := 1) hx hb dT_hasRange_22 (by decide) ?_
        refine lv_goto (tgt := 27) hx hb dT_hasRange_23 (by decide) ?_
        have hv : (if rgL f t n then (1 : Int32) else 0) = 1 := if_pos (by unfold rgL; simp only [decide_eq_true_eq]; omega)
        exact W.zret hx hb hr rfl (fun t ht hW => ⟨by rw [hv], ⟨_, rfl, by rw [ht]; exact hP⟩, hS.F ht⟩) hS.2.2 dT_hasRange_27
set_option maxHeartbeats 4000000 in
set_option maxRecDepth 100000 in
theorem c_T_hasPiece {q n : Nat} (hq : q < 5) (hn : n ≤ 1000) (h5 : S 5 q = nI n) (f : Int32) : Met l yT_hasPiece (Cond.code yT_hasPiece bT_hasPiece 2 (some .boolean) :: tws) { frames := 0, cells := 0, slots := 0, locals := 0 } (gPc (tw D cI cZ cT cJ base) D cl ad 25 base (en ad cI cZ cT cJ pi dr S M o) [.ref (ad (2 + 2 * q)), .int f]) (gQc D cl ad 25 base (some (.int (if pcL f n then 1 else 0))) (fun e => e = en ad cI cZ cT cJ pi dr S M o)) 0 0 (gA base) := by
  refine Met.ofW (cc := bT_hasPiece) (maxL := 2) (ret := (some .boolean)) (by decide) rfl ?_
  intro p e s m args below meth c s₁ B hml hv
  obtain ⟨rfl, htw, hB, hP⟩ := hv
  have hx := B.exec
  have hb := B.bytes
  have hr := B.returns
  have hts0 := atoms_spec (ws := Cond.code yT_hasPiece bT_hasPiece 2 (some .boolean) :: tws) B.pre
  have hts : ∀ w ∈ tws, w.before _ s = true := fun w h => hts0 w (List.mem_cons_of_mem _ h)
  have hown : s.vm.findClass "PairedTexts$Text" = some m.cls := findClass_of_methodNamed B.named
  have hlocks := B.notSynchronized
  have hno := B.noHandlers (hts0 _ List.mem_cons_self)
  have F : CallFix p m c bT_hasPiece 2 s _ tws "PairedTexts$Text" := ⟨hx, hb, hml, hown, hts⟩
  have hK := htw.1
  have hS : va_S (gA base) s.heap s.heap [] := va_S.rf
  have hl := lv_entry ([.ref (ad (2 + 2 * q)), .int f]) (n := 2) (Nat.le_of_ble_eq_true rfl)
  rw [lg_entry_eq]
  generalize (lg_sl ([.ref (ad (2 + 2 * q)), .int f]) ++ List.replicate (2 - (lg_sl ([.ref (ad (2 + 2 * q)), .int f])).length) Slot.unset).toArray = ls at hl ⊢
  have hl : lv_has ls 2 [(0, .ref (ad (2 + 2 * q))), (1, .int f)] := hl
  have z0 : (0 : Int32).toInt = 0 := rfl
  have zn : (nI n).toInt = n := nI_toInt (by omega)
  refine lv_iconst (v := 0) hx hb dT_hasPiece_0 (by decide) ?_
  refine lv_iload_n hx hb dT_hasPiece_1 rfl (lv_at hl 1 rfl) ?_
  refine lv_icmp_gt (tgt := 17) hx hb dT_hasPiece_2 (by decide) (fun hc => ?_) (fun hc => ?_)
  · rw [Int32.lt_iff_toInt_lt] at hc
    refine lv_iconst (v := 0) hx hb dT_hasPiece_17 (by decide) ?_
    have hv : (if pcL f n then (1 : Int32) else 0) = 0 := if_neg (by unfold pcL; simp only [decide_eq_true_eq]; omega)
    exact W.zret hx hb hr rfl (fun t ht hW => ⟨by rw [hv], ⟨_, rfl, by rw [ht]; exact hP⟩, hS.F ht⟩) hS.2.2 dT_hasPiece_18
  · rw [Int32.lt_iff_toInt_lt] at hc
    refine lv_iload_n hx hb dT_hasPiece_5 rfl (lv_at hl 1 rfl) ?_
    refine lv_aload_n hx hb dT_hasPiece_6 rfl (lv_at hl 0 rfl) ?_
    refine g_get F hK hP (2 + 2 * q) (by omega) (en_T _ _ _ _ _ _ _ _ _ _ hq) rfl iT 1 (by decide) k1_33 rfl dT_hasPiece_7 ?_
    refine lv_icmp_gt (tgt := 17) hx hb dT_hasPiece_10 (by decide) (fun hg => ?_) (fun hg => ?_)
    · rw [Int32.lt_iff_toInt_lt, h5, zn] at hg
      refine lv_iconst (v := 0) hx hb dT_hasPiece_17 (by decide) ?_
      have hv : (if pcL f n then (1 : Int32) else 0) = 0 := if_neg (by unfold pcL; simp only [decide_eq_true_eq]; omega)
      exact W.zret hx hb hr rfl (fun t ht hW => ⟨by rw [hv], ⟨_, rfl, by rw [ht]; exact hP⟩, hS.F ht⟩) hS.2.2 dT_hasPiece_18
    · rw [Int32.lt_iff_toInt_lt, h5, zn] at hg
      refine lv_iconst (v := 1) hx hb dT_hasPiece_13 (by decide) ?_
      refine lv_goto (tgt := 18) hx hb dT_hasPiece_14 (by decide) ?_
      have hv : (if pcL f n then (1 : Int32) else 0) = 1 := if_pos (by unfold pcL; simp only [decide_eq_true_eq]; omega)
      exact W.zret hx hb hr rfl (fun t ht hW => ⟨by rw [hv], ⟨_, rfl, by rw [ht]; exact hP⟩, hS.F ht⟩) hS.2.2 dT_hasPiece_18
set_option maxHeartbeats 4000000 in
set_option maxRecDepth 100000 in
theorem c_T_addRange (G : gGeo ad 25 base) {q z k f t : Nat} (hq : q < 5) (hz : z < 5) (hft : f ≤ t) (ht : t ≤ 1000) (hk : k + (t - f) ≤ 1000) (h5 : S 5 q = nI k) : Met l yT_addRange (Cond.code yT_addRange bT_addRange 4 none :: tws) { frames := 1, cells := 0, slots := 0, locals := 26 } (gPc (tw D cI cZ cT cJ base) D cl ad 25 base (en ad cI cZ cT cJ pi dr S M o) [.ref (ad (2 + 2 * q)), .ref (ad (2 + 2 * z)), .int (nI f), .int (nI t)]) (gQc D cl ad 25 base none (fun e => e = en ad cI cZ cT cJ pi dr (sr (sr S q (va_cpy (S z) (S q) f k (t - f))) 5 (upd (S 5) q (nI (k + (t - f))))) M o)) 0 0 (gA base) := by
  refine Met.ofW (cc := bT_addRange) (maxL := 4) (ret := none) (by decide) rfl ?_
  intro p e s m args below meth c s₁ B hml hv
  obtain ⟨rfl, htw, hB, hP⟩ := hv
  have hx := B.exec
  have hb := B.bytes
  have hr := B.returns
  have hts0 := atoms_spec (ws := Cond.code yT_addRange bT_addRange 4 none :: tws) B.pre
  have hts : ∀ w ∈ tws, w.before _ s = true := fun w h => hts0 w (List.mem_cons_of_mem _ h)
  have hown : s.vm.findClass "PairedTexts$Text" = some m.cls := findClass_of_methodNamed B.named
  have hlocks := B.notSynchronized
  have hno := B.noHandlers (hts0 _ List.mem_cons_self)
  have F : CallFix p m c bT_addRange 4 s _ tws "PairedTexts$Text" := ⟨hx, hb, hml, hown, hts⟩
  have hK := htw.1
  have hS : va_S (gA base) s.heap s.heap [] := va_S.rf
  have hl := lv_entry ([.ref (ad (2 + 2 * q)), .ref (ad (2 + 2 * z)), .int (nI f), .int (nI t)]) (n := 4) (Nat.le_of_ble_eq_true rfl)
  rw [lg_entry_eq]
  generalize (lg_sl ([.ref (ad (2 + 2 * q)), .ref (ad (2 + 2 * z)), .int (nI f), .int (nI t)]) ++ List.replicate (4 - (lg_sl ([.ref (ad (2 + 2 * q)), .ref (ad (2 + 2 * z)), .int (nI f), .int (nI t)])).length) Slot.unset).toArray = ls at hl ⊢
  have hl : lv_has ls 4 [(0, .ref (ad (2 + 2 * q))), (1, .ref (ad (2 + 2 * z))), (2, .int (nI f)), (3, .int (nI t))] := hl
  have cf : (nI f).toNatClampNeg = f := nI_clamp (by omega)
  have ck : (nI k).toNatClampNeg = k := nI_clamp (by omega)
  have cw : (nI (t - f)).toNatClampNeg = t - f := nI_clamp (by omega)
  refine lv_aload_n hx hb dT_addRange_0 rfl (lv_at hl 1 rfl) ?_
  refine g_get F hK hP (2 + 2 * z) (by omega) (en_T _ _ _ _ _ _ _ _ _ _ hz) rfl iT 0 (by decide) k1_30 rfl dT_addRange_1 ?_
  refine lv_iload_n hx hb dT_addRange_4 rfl (lv_at hl 2 rfl) ?_
  refine lv_aload_n hx hb dT_addRange_5 rfl (lv_at hl 0 rfl) ?_
  refine g_get F hK hP (2 + 2 * q) (by omega) (en_T _ _ _ _ _ _ _ _ _ _ hq) rfl iT 0 (by decide) k1_30 rfl dT_addRange_6 ?_
  refine lv_aload_n hx hb dT_addRange_9 rfl (lv_at hl 0 rfl) ?_
  refine g_get F hK hP (2 + 2 * q) (by omega) (en_T _ _ _ _ _ _ _ _ _ _ hq) rfl iT 1 (by decide) k1_33 rfl dT_addRange_10 ?_
  refine lv_iload_n hx hb dT_addRange_13 rfl (lv_at hl 3 rfl) ?_
  refine lv_iload_n hx hb dT_addRange_14 rfl (lv_at hl 2 rfl) ?_
  refine lv_isub hx hb dT_addRange_15 ?_
  rw [h5, pk_sub hft]
  refine g_copy F hl.1 hK G hP hS (3 + 2 * z) (3 + 2 * q) (by omega) (by omega) 0 0 (en_B _ _ _ _ _ _ _ _ _ _ hz) (en_B _ _ _ _ _ _ _ _ _ _ hq) rfl rfl rfl k2_12 k2_14 k2_13 k1_12 (nI_pos (by omega)) (nI_pos (by omega)) (nI_pos (by omega)) (by rw [cf, cw]; omega) (by rw [ck, cw]; omega) (fun _ _ => rfl) (Nat.le_of_ble_eq_true rfl) (Nat.le_of_ble_eq_true rfl) dT_addRange_16 (fun H locs hP hS => ?_)
  rw [cf, ck, cw] at hP
  have hP := P_of hP (en_by _ _ _ _ _ _ _ _ _ _ _ hq)
  refine lv_aload_n hx hb dT_addRange_19 rfl (lv_at hl 0 rfl) ?_
  refine lv_dup hx hb dT_addRange_20 rfl ?_
  refine g_get F hK hP (2 + 2 * q) (by omega) (en_T _ _ _ _ _ _ _ _ _ _ hq) rfl iT 1 (by decide) k1_33 rfl dT_addRange_21 ?_
  refine lv_iload_n hx hb dT_addRange_24 rfl (lv_at hl 3 rfl) ?_
  refine lv_iload_n hx hb dT_addRange_25 rfl (lv_at hl 2 rfl) ?_
  refine lv_isub hx hb dT_addRange_26 ?_
  refine lv_iadd hx hb dT_addRange_27 ?_
  refine g_put F hK G hP hS (2 + 2 * q) (by omega) (en_T _ _ _ _ _ _ _ _ _ _ hq) rfl iT tT tT_ok nT 1 (by decide) k1_33 rfl (ty := .int) (by decide +kernel) rfl rfl (Nat.le_of_ble_eq_true rfl) dT_addRange_28 (fun H locs hP hS => ?_)
  have hP := P_of hP (en_sz _ _ _ _ _ _ _ _ _ _ _ hq)
  rw [sr_n (show (5 : Nat) ≠ q by omega), h5, pk_sub hft, nI_add] at hP
  exact W.vret hx hb hr (fun t ht hW => ⟨rfl, ⟨_, rfl, by rw [ht]; exact hP⟩, hS.F ht⟩) hS.2.2 dT_addRange_31
end M1
end
section
/-! What a call must hold, and what is thrown else. -/
section M2
variable {l : Launch} {D : va_G} {cI cZ cT cJ : ClassId} {base : Nat} {ad : Nat → Nat} {pi : Nat → Nat} {dr : Nat} {S M : Nat → Nat → Int32} {o : Nat → Int64}
set_option maxHeartbeats 4000000 in
set_option maxRecDepth 100000 in
theorem c_P_requireDocument {e0 : Nat → va_E} {d : Int32} (h0 : 0 ≤ d.toInt) (h4 : d.toInt < 4) : Met l yP_requireDocument (Cond.code yP_requireDocument bP_requireDocument 1 none :: tws) { frames := 6, cells := 0, slots := 0, locals := 82 } (gPc (tw D cI cZ cT cJ base) D cl ad 25 base (e0) [.int d]) (gQc D cl ad 25 base none (fun e => e = e0)) 0 0 (gA base) := by
  refine Met.ofW (cc := bP_requireDocument) (maxL := 1) (ret := none) (by decide) rfl ?_
  intro p e s m args below meth c s₁ B hml hv
  obtain ⟨rfl, htw, hB, hP⟩ := hv
  have hx := B.exec
  have hb := B.bytes
  have hr := B.returns
  have hts0 := atoms_spec (ws := Cond.code yP_requireDocument bP_requireDocument 1 none :: tws) B.pre
  have hts : ∀ w ∈ tws, w.before _ s = true := fun w h => hts0 w (List.mem_cons_of_mem _ h)
  have hown : s.vm.findClass "PairedTexts" = some m.cls := findClass_of_methodNamed B.named
  have hlocks := B.notSynchronized
  have hno := B.noHandlers (hts0 _ List.mem_cons_self)
  have F : CallFix p m c bP_requireDocument 1 s _ tws "PairedTexts" := ⟨hx, hb, hml, hown, hts⟩
  have hK := htw.1
  have hS : va_S (gA base) s.heap s.heap [] := va_S.rf
  have hl := lv_entry ([.int d]) (n := 1) (Nat.le_of_ble_eq_true rfl)
  rw [lg_entry_eq]
  generalize (lg_sl ([.int d]) ++ List.replicate (1 - (lg_sl ([.int d])).length) Slot.unset).toArray = ls at hl ⊢
  have hl : lv_has ls 1 [(0, .int d)] := hl
  have z0 : (0 : Int32).toInt = 0 := rfl
  have z4 : (4 : Int32).toInt = 4 := rfl
  refine lv_iload_n hx hb dP_requireDocument_0 rfl (lv_at hl 0 rfl) ?_
  refine lv_if_lt (tgt := 9) hx hb dP_requireDocument_1 (by decide) (fun hc => absurd hc (by rw [Int32.lt_iff_toInt_lt]; omega)) (fun _ => ?_)
  refine lv_iload_n hx hb dP_requireDocument_4 rfl (lv_at hl 0 rfl) ?_
  refine lv_iconst (v := 4) hx hb dP_requireDocument_5 (by decide) ?_
  refine lv_icmp_lt (tgt := 19) hx hb dP_requireDocument_6 (by decide) (fun _ => ?_) (fun hc => absurd (Int32.lt_iff_toInt_lt.mpr (by omega)) hc)
  exact W.vret hx hb hr (fun t ht hW => ⟨rfl, ⟨_, rfl, by rw [ht]; exact hP⟩, hS.F ht⟩) hS.2.2 dP_requireDocument_19
set_option maxHeartbeats 4000000 in
set_option maxRecDepth 100000 in
theorem c_P_requireDocument_th (hst : l.stackTraces = false) {e0 : Nat → va_E} {d : Int32} (h : d.toInt < 0 ∨ 4 ≤ d.toInt) : MetTh l yP_requireDocument (Cond.code yP_requireDocument bP_requireDocument 1 none :: tws) { frames := 6, cells := 1, slots := 6, locals := 82 } (gPc (tw D cI cZ cT cJ base) D cl ad 25 base (e0) [.int d]) "java/lang/IllegalArgumentException" 1 6 := by
  refine MetTh.ofW (cc := bP_requireDocument) (maxL := 1) (ret := none) (by decide) rfl ?_
  intro p e s m args below meth c s₁ B hml hv
  obtain ⟨rfl, htw, hB, hP⟩ := hv
  have hx := B.exec
  have hb := B.bytes
  have hr := B.returns
  have hts0 := atoms_spec (ws := Cond.code yP_requireDocument bP_requireDocument 1 none :: tws) B.pre
  have hts : ∀ w ∈ tws, w.before _ s = true := fun w h => hts0 w (List.mem_cons_of_mem _ h)
  have hown : s.vm.findClass "PairedTexts" = some m.cls := findClass_of_methodNamed B.named
  have hlocks := B.notSynchronized
  have hno := B.noHandlers (hts0 _ List.mem_cons_self)
  have F : CallFix p m c bP_requireDocument 1 s _ tws "PairedTexts" := ⟨hx, hb, hml, hown, hts⟩
  have hK := htw.1
  have hS : va_S (gA base) s.heap s.heap [] := va_S.rf
  have hl := lv_entry ([.int d]) (n := 1) (Nat.le_of_ble_eq_true rfl)
  rw [lg_entry_eq]
  generalize (lg_sl ([.int d]) ++ List.replicate (1 - (lg_sl ([.int d])).length) Slot.unset).toArray = ls at hl ⊢
  have hl : lv_has ls 1 [(0, .int d)] := hl
  have z0 : (0 : Int32).toInt = 0 := rfl
  have z4 : (4 : Int32).toInt = 4 := rfl
  refine lv_iload_n hx hb dP_requireDocument_0 rfl (lv_at hl 0 rfl) ?_
  refine lv_if_lt (tgt := 9) hx hb dP_requireDocument_1 (by decide) (fun hc => ?_) (fun hc => ?_)
  · exact g_throw F hst hlocks hno htw (X := "java/lang/IllegalArgumentException") (by decide +kernel) k1_99 k1_100 k1_9 (oa_IAE hts htw) (List.mem_of_getElem? (l := strs) (i := 0) rfl) hl.1 (Nat.le_of_ble_eq_true rfl) (Nat.le_of_ble_eq_true rfl) (Nat.le_of_ble_eq_true rfl) (Nat.le_of_ble_eq_true rfl) dP_requireDocument_9 dP_requireDocument_12 dP_requireDocument_13 dP_requireDocument_15 dP_requireDocument_18
  · rw [Int32.lt_iff_toInt_lt] at hc
    refine lv_iload_n hx hb dP_requireDocument_4 rfl (lv_at hl 0 rfl) ?_
    refine lv_iconst (v := 4) hx hb dP_requireDocument_5 (by decide) ?_
    refine lv_icmp_lt (tgt := 19) hx hb dP_requireDocument_6 (by decide) (fun hc => absurd hc (by rw [Int32.lt_iff_toInt_lt]; omega)) (fun _ => ?_)
    exact g_throw F hst hlocks hno htw (X := "java/lang/IllegalArgumentException") (by decide +kernel) k1_99 k1_100 k1_9 (oa_IAE hts htw) (List.mem_of_getElem? (l := strs) (i := 0) rfl) hl.1 (Nat.le_of_ble_eq_true rfl) (Nat.le_of_ble_eq_true rfl) (Nat.le_of_ble_eq_true rfl) (Nat.le_of_ble_eq_true rfl) dP_requireDocument_9 dP_requireDocument_12 dP_requireDocument_13 dP_requireDocument_15 dP_requireDocument_18
set_option maxHeartbeats 4000000 in
set_option maxRecDepth 100000 in
theorem c_P_requireState {e0 : Nat → va_E} {d : Int32} (h0 : 0 ≤ d.toInt) (h4 : d.toInt < 8) : Met l yP_requireState (Cond.code yP_requireState bP_requireState 1 none :: tws) { frames := 6, cells := 0, slots := 0, locals := 82 } (gPc (tw D cI cZ cT cJ base) D cl ad 25 base (e0) [.int d]) (gQc D cl ad 25 base none (fun e => e = e0)) 0 0 (gA base) := by
  refine Met.ofW (cc := bP_requireState) (maxL := 1) (ret := none) (by decide) rfl ?_
  intro p e s m args below meth c s₁ B hml hv
  obtain ⟨rfl, htw, hB, hP⟩ := hv
  have hx := B.exec
  have hb := B.bytes
  have hr := B.returns
  have hts0 := atoms_spec (ws := Cond.code yP_requireState bP_requireState 1 none :: tws) B.pre
  have hts : ∀ w ∈ tws, w.before _ s = true := fun w h => hts0 w (List.mem_cons_of_mem _ h)
  have hown : s.vm.findClass "PairedTexts" = some m.cls := findClass_of_methodNamed B.named
  have hlocks := B.notSynchronized
  have hno := B.noHandlers (hts0 _ List.mem_cons_self)
  have F : CallFix p m c bP_requireState 1 s _ tws "PairedTexts" := ⟨hx, hb, hml, hown, hts⟩
  have hK := htw.1
  have hS : va_S (gA base) s.heap s.heap [] := va_S.rf
  have hl := lv_entry ([.int d]) (n := 1) (Nat.le_of_ble_eq_true rfl)
  rw [lg_entry_eq]
  generalize (lg_sl ([.int d]) ++ List.replicate (1 - (lg_sl ([.int d])).length) Slot.unset).toArray = ls at hl ⊢
  have hl : lv_has ls 1 [(0, .int d)] := hl
  have z0 : (0 : Int32).toInt = 0 := rfl
  have z4 : (8 : Int32).toInt = 8 := rfl
  refine lv_iload_n hx hb dP_requireState_0 rfl (lv_at hl 0 rfl) ?_
  refine lv_if_lt (tgt := 10) hx hb dP_requireState_1 (by decide) (fun hc => absurd hc (by rw [Int32.lt_iff_toInt_lt]; omega)) (fun _ => ?_)
  refine lv_iload_n hx hb dP_requireState_4 rfl (lv_at hl 0 rfl) ?_
  refine lv_bipush (v := 8) hx hb dP_requireState_5 (by decide) ?_
  refine lv_icmp_lt (tgt := 20) hx hb dP_requireState_7 (by decide) (fun _ => ?_) (fun hc => absurd (Int32.lt_iff_toInt_lt.mpr (by omega)) hc)
  exact W.vret hx hb hr (fun t ht hW => ⟨rfl, ⟨_, rfl, by rw [ht]; exact hP⟩, hS.F ht⟩) hS.2.2 dP_requireState_20
set_option maxHeartbeats 4000000 in
set_option maxRecDepth 100000 in
theorem c_P_requireState_th (hst : l.stackTraces = false) {e0 : Nat → va_E} {d : Int32} (h : d.toInt < 0 ∨ 8 ≤ d.toInt) : MetTh l yP_requireState (Cond.code yP_requireState bP_requireState 1 none :: tws) { frames := 6, cells := 1, slots := 6, locals := 82 } (gPc (tw D cI cZ cT cJ base) D cl ad 25 base (e0) [.int d]) "java/lang/IllegalArgumentException" 1 6 := by
  refine MetTh.ofW (cc := bP_requireState) (maxL := 1) (ret := none) (by decide) rfl ?_
  intro p e s m args below meth c s₁ B hml hv
  obtain ⟨rfl, htw, hB, hP⟩ := hv
  have hx := B.exec
  have hb := B.bytes
  have hr := B.returns
  have hts0 := atoms_spec (ws := Cond.code yP_requireState bP_requireState 1 none :: tws) B.pre
  have hts : ∀ w ∈ tws, w.before _ s = true := fun w h => hts0 w (List.mem_cons_of_mem _ h)
  have hown : s.vm.findClass "PairedTexts" = some m.cls := findClass_of_methodNamed B.named
  have hlocks := B.notSynchronized
  have hno := B.noHandlers (hts0 _ List.mem_cons_self)
  have F : CallFix p m c bP_requireState 1 s _ tws "PairedTexts" := ⟨hx, hb, hml, hown, hts⟩
  have hK := htw.1
  have hS : va_S (gA base) s.heap s.heap [] := va_S.rf
  have hl := lv_entry ([.int d]) (n := 1) (Nat.le_of_ble_eq_true rfl)
  rw [lg_entry_eq]
  generalize (lg_sl ([.int d]) ++ List.replicate (1 - (lg_sl ([.int d])).length) Slot.unset).toArray = ls at hl ⊢
  have hl : lv_has ls 1 [(0, .int d)] := hl
  have z0 : (0 : Int32).toInt = 0 := rfl
  have z4 : (8 : Int32).toInt = 8 := rfl
  refine lv_iload_n hx hb dP_requireState_0 rfl (lv_at hl 0 rfl) ?_
  refine lv_if_lt (tgt := 10) hx hb dP_requireState_1 (by decide) (fun hc => ?_) (fun hc => ?_)
  · exact g_throw F hst hlocks hno htw (X := "java/lang/IllegalArgumentException") (by decide +kernel) k1_99 k1_100 k1_9 (oa_IAE hts htw) (List.mem_of_getElem? (l := strs) (i := 5) rfl) hl.1 (Nat.le_of_ble_eq_true rfl) (Nat.le_of_ble_eq_true rfl) (Nat.le_of_ble_eq_true rfl) (Nat.le_of_ble_eq_true rfl) dP_requireState_10 dP_requireState_13 dP_requireState_14 dP_requireState_16 dP_requireState_19
  · rw [Int32.lt_iff_toInt_lt] at hc
    refine lv_iload_n hx hb dP_requireState_4 rfl (lv_at hl 0 rfl) ?_
    refine lv_bipush (v := 8) hx hb dP_requireState_5 (by decide) ?_
    refine lv_icmp_lt (tgt := 20) hx hb dP_requireState_7 (by decide) (fun hc => absurd hc (by rw [Int32.lt_iff_toInt_lt]; omega)) (fun _ => ?_)
    exact g_throw F hst hlocks hno htw (X := "java/lang/IllegalArgumentException") (by decide +kernel) k1_99 k1_100 k1_9 (oa_IAE hts htw) (List.mem_of_getElem? (l := strs) (i := 5) rfl) hl.1 (Nat.le_of_ble_eq_true rfl) (Nat.le_of_ble_eq_true rfl) (Nat.le_of_ble_eq_true rfl) (Nat.le_of_ble_eq_true rfl) dP_requireState_10 dP_requireState_13 dP_requireState_14 dP_requireState_16 dP_requireState_19
set_option maxHeartbeats 4000000 in
set_option maxRecDepth 100000 in
theorem c_P_requireArgument {e0 : Nat → va_E} : Met l yP_requireArgument (Cond.code yP_requireArgument bP_requireArgument 1 none :: tws) { frames := 6, cells := 0, slots := 0, locals := 82 } (gPc (tw D cI cZ cT cJ base) D cl ad 25 base (e0) [.int 1]) (gQc D cl ad 25 base none (fun e => e = e0)) 0 0 (gA base) := by
  refine Met.ofW (cc := bP_requireArgument) (maxL := 1) (ret := none) (by decide) rfl ?_
  intro p e s m args below meth c s₁ B hml hv
  obtain ⟨rfl, htw, hB, hP⟩ := hv
  have hx := B.exec
  have hb := B.bytes
  have hr := B.returns
  have hts0 := atoms_spec (ws := Cond.code yP_requireArgument bP_requireArgument 1 none :: tws) B.pre
  have hts : ∀ w ∈ tws, w.before _ s = true := fun w h => hts0 w (List.mem_cons_of_mem _ h)
  have hown : s.vm.findClass "PairedTexts" = some m.cls := findClass_of_methodNamed B.named
  have hlocks := B.notSynchronized
  have hno := B.noHandlers (hts0 _ List.mem_cons_self)
  have F : CallFix p m c bP_requireArgument 1 s _ tws "PairedTexts" := ⟨hx, hb, hml, hown, hts⟩
  have hK := htw.1
  have hS : va_S (gA base) s.heap s.heap [] := va_S.rf
  have hl := lv_entry ([.int 1]) (n := 1) (Nat.le_of_ble_eq_true rfl)
  rw [lg_entry_eq]
  generalize (lg_sl ([.int 1]) ++ List.replicate (1 - (lg_sl ([.int 1])).length) Slot.unset).toArray = ls at hl ⊢
  have hl : lv_has ls 1 [(0, .int 1)] := hl
  refine lv_iload_n hx hb dP_requireArgument_0 rfl (lv_at hl 0 rfl) ?_
  refine lv_if_ne (tgt := 14) hx hb dP_requireArgument_1 (by decide) (fun _ => ?_) (fun hc => absurd hc (by decide))
  exact W.vret hx hb hr (fun t ht hW => ⟨rfl, ⟨_, rfl, by rw [ht]; exact hP⟩, hS.F ht⟩) hS.2.2 dP_requireArgument_14
set_option maxHeartbeats 4000000 in
set_option maxRecDepth 100000 in
theorem c_P_requireArgument_th (hst : l.stackTraces = false) {e0 : Nat → va_E} : MetTh l yP_requireArgument (Cond.code yP_requireArgument bP_requireArgument 1 none :: tws) { frames := 6, cells := 1, slots := 6, locals := 82 } (gPc (tw D cI cZ cT cJ base) D cl ad 25 base (e0) [.int 0]) "java/lang/IllegalArgumentException" 1 6 := by
  refine MetTh.ofW (cc := bP_requireArgument) (maxL := 1) (ret := none) (by decide) rfl ?_
  intro p e s m args below meth c s₁ B hml hv
  obtain ⟨rfl, htw, hB, hP⟩ := hv
  have hx := B.exec
  have hb := B.bytes
  have hr := B.returns
  have hts0 := atoms_spec (ws := Cond.code yP_requireArgument bP_requireArgument 1 none :: tws) B.pre
  have hts : ∀ w ∈ tws, w.before _ s = true := fun w h => hts0 w (List.mem_cons_of_mem _ h)
  have hown : s.vm.findClass "PairedTexts" = some m.cls := findClass_of_methodNamed B.named
  have hlocks := B.notSynchronized
  have hno := B.noHandlers (hts0 _ List.mem_cons_self)
  have F : CallFix p m c bP_requireArgument 1 s _ tws "PairedTexts" := ⟨hx, hb, hml, hown, hts⟩
  have hK := htw.1
  have hS : va_S (gA base) s.heap s.heap [] := va_S.rf
  have hl := lv_entry ([.int 0]) (n := 1) (Nat.le_of_ble_eq_true rfl)
  rw [lg_entry_eq]
  generalize (lg_sl ([.int 0]) ++ List.replicate (1 - (lg_sl ([.int 0])).length) Slot.unset).toArray = ls at hl ⊢
  have hl : lv_has ls 1 [(0, .int 0)] := hl
  refine lv_iload_n hx hb dP_requireArgument_0 rfl (lv_at hl 0 rfl) ?_
  refine lv_if_ne (tgt := 14) hx hb dP_requireArgument_1 (by decide) (fun hc => absurd (by decide) hc) (fun _ => ?_)
  exact g_throw F hst hlocks hno htw (X := "java/lang/IllegalArgumentException") (by decide +kernel) k1_99 k1_100 k1_9 (oa_IAE hts htw) (List.mem_of_getElem? (l := strs) (i := 1) rfl) hl.1 (Nat.le_of_ble_eq_true rfl) (Nat.le_of_ble_eq_true rfl) (Nat.le_of_ble_eq_true rfl) (Nat.le_of_ble_eq_true rfl) dP_requireArgument_4 dP_requireArgument_7 dP_requireArgument_8 dP_requireArgument_10 dP_requireArgument_13
set_option maxHeartbeats 4000000 in
set_option maxRecDepth 100000 in
theorem c_P_requireInside {e0 : Nat → va_E} : Met l yP_requireInside (Cond.code yP_requireInside bP_requireInside 1 none :: tws) { frames := 6, cells := 0, slots := 0, locals := 82 } (gPc (tw D cI cZ cT cJ base) D cl ad 25 base (e0) [.int 1]) (gQc D cl ad 25 base none (fun e => e = e0)) 0 0 (gA base) := by
  refine Met.ofW (cc := bP_requireInside) (maxL := 1) (ret := none) (by decide) rfl ?_
  intro p e s m args below meth c s₁ B hml hv
  obtain ⟨rfl, htw, hB, hP⟩ := hv
  have hx := B.exec
  have hb := B.bytes
  have hr := B.returns
  have hts0 := atoms_spec (ws := Cond.code yP_requireInside bP_requireInside 1 none :: tws) B.pre
  have hts : ∀ w ∈ tws, w.before _ s = true := fun w h => hts0 w (List.mem_cons_of_mem _ h)
  have hown : s.vm.findClass "PairedTexts" = some m.cls := findClass_of_methodNamed B.named
  have hlocks := B.notSynchronized
  have hno := B.noHandlers (hts0 _ List.mem_cons_self)
  have F : CallFix p m c bP_requireInside 1 s _ tws "PairedTexts" := ⟨hx, hb, hml, hown, hts⟩
  have hK := htw.1
  have hS : va_S (gA base) s.heap s.heap [] := va_S.rf
  have hl := lv_entry ([.int 1]) (n := 1) (Nat.le_of_ble_eq_true rfl)
  rw [lg_entry_eq]
  generalize (lg_sl ([.int 1]) ++ List.replicate (1 - (lg_sl ([.int 1])).length) Slot.unset).toArray = ls at hl ⊢
  have hl : lv_has ls 1 [(0, .int 1)] := hl
  refine lv_iload_n hx hb dP_requireInside_0 rfl (lv_at hl 0 rfl) ?_
  refine lv_if_ne (tgt := 14) hx hb dP_requireInside_1 (by decide) (fun _ => ?_) (fun hc => absurd hc (by decide))
  exact W.vret hx hb hr (fun t ht hW => ⟨rfl, ⟨_, rfl, by rw [ht]; exact hP⟩, hS.F ht⟩) hS.2.2 dP_requireInside_14
set_option maxHeartbeats 4000000 in
set_option maxRecDepth 100000 in
theorem c_P_requireInside_th (hst : l.stackTraces = false) {e0 : Nat → va_E} : MetTh l yP_requireInside (Cond.code yP_requireInside bP_requireInside 1 none :: tws) { frames := 6, cells := 1, slots := 6, locals := 82 } (gPc (tw D cI cZ cT cJ base) D cl ad 25 base (e0) [.int 0]) "java/lang/IndexOutOfBoundsException" 1 6 := by
  refine MetTh.ofW (cc := bP_requireInside) (maxL := 1) (ret := none) (by decide) rfl ?_
  intro p e s m args below meth c s₁ B hml hv
  obtain ⟨rfl, htw, hB, hP⟩ := hv
  have hx := B.exec
  have hb := B.bytes
  have hr := B.returns
  have hts0 := atoms_spec (ws := Cond.code yP_requireInside bP_requireInside 1 none :: tws) B.pre
  have hts : ∀ w ∈ tws, w.before _ s = true := fun w h => hts0 w (List.mem_cons_of_mem _ h)
  have hown : s.vm.findClass "PairedTexts" = some m.cls := findClass_of_methodNamed B.named
  have hlocks := B.notSynchronized
  have hno := B.noHandlers (hts0 _ List.mem_cons_self)
  have F : CallFix p m c bP_requireInside 1 s _ tws "PairedTexts" := ⟨hx, hb, hml, hown, hts⟩
  have hK := htw.1
  have hS : va_S (gA base) s.heap s.heap [] := va_S.rf
  have hl := lv_entry ([.int 0]) (n := 1) (Nat.le_of_ble_eq_true rfl)
  rw [lg_entry_eq]
  generalize (lg_sl ([.int 0]) ++ List.replicate (1 - (lg_sl ([.int 0])).length) Slot.unset).toArray = ls at hl ⊢
  have hl : lv_has ls 1 [(0, .int 0)] := hl
  refine lv_iload_n hx hb dP_requireInside_0 rfl (lv_at hl 0 rfl) ?_
  refine lv_if_ne (tgt := 14) hx hb dP_requireInside_1 (by decide) (fun hc => absurd (by decide) hc) (fun _ => ?_)
  exact g_throw F hst hlocks hno htw (X := "java/lang/IndexOutOfBoundsException") (by decide +kernel) k1_217 k1_218 k1_11 (oa_IOO hts htw) (List.mem_of_getElem? (l := strs) (i := 3) rfl) hl.1 (Nat.le_of_ble_eq_true rfl) (Nat.le_of_ble_eq_true rfl) (Nat.le_of_ble_eq_true rfl) (Nat.le_of_ble_eq_true rfl) dP_requireInside_4 dP_requireInside_7 dP_requireInside_8 dP_requireInside_10 dP_requireInside_13
set_option maxHeartbeats 4000000 in
set_option maxRecDepth 100000 in
theorem c_P_requireRoom {e0 : Nat → va_E} {v : Int64} (h : v.toInt ≤ 1000) : Met l yP_requireRoom (Cond.code yP_requireRoom bP_requireRoom 2 none :: tws) { frames := 6, cells := 0, slots := 0, locals := 82 } (gPc (tw D cI cZ cT cJ base) D cl ad 25 base (e0) [.long v]) (gQc D cl ad 25 base none (fun e => e = e0)) 0 0 (gA base) := by
  refine Met.ofW (cc := bP_requireRoom) (maxL := 2) (ret := none) (by decide) rfl ?_
  intro p e s m args below meth c s₁ B hml hv
  obtain ⟨rfl, htw, hB, hP⟩ := hv
  have hx := B.exec
  have hb := B.bytes
  have hr := B.returns
  have hts0 := atoms_spec (ws := Cond.code yP_requireRoom bP_requireRoom 2 none :: tws) B.pre
  have hts : ∀ w ∈ tws, w.before _ s = true := fun w h => hts0 w (List.mem_cons_of_mem _ h)
  have hown : s.vm.findClass "PairedTexts" = some m.cls := findClass_of_methodNamed B.named
  have hlocks := B.notSynchronized
  have hno := B.noHandlers (hts0 _ List.mem_cons_self)
  have F : CallFix p m c bP_requireRoom 2 s _ tws "PairedTexts" := ⟨hx, hb, hml, hown, hts⟩
  have hK := htw.1
  have hS : va_S (gA base) s.heap s.heap [] := va_S.rf
  have hl := lv_entry ([.long v]) (n := 2) (Nat.le_of_ble_eq_true rfl)
  rw [lg_entry_eq]
  generalize (lg_sl ([.long v]) ++ List.replicate (2 - (lg_sl ([.long v])).length) Slot.unset).toArray = ls at hl ⊢
  have hl : lv_has ls 2 [(0, .long v)] := hl
  have z0 : (1000 : Int64).toInt = 1000 := rfl
  refine lv_lload_n hx hb dP_requireRoom_0 rfl (lv_at hl 0 rfl) ?_
  refine lv_ldc2 (v := 1000) hx hb hown (hts _ k1_175) dP_requireRoom_1 ?_
  refine W.lcmp hx hb dP_requireRoom_4 ?_
  refine lv_if_le (tgt := 18) hx hb dP_requireRoom_5 (by decide) (fun _ => ?_) (fun hc => absurd (by rw [lg_cmp_le, Int64.le_iff_toInt_le]; omega) hc)
  exact W.vret hx hb hr (fun t ht hW => ⟨rfl, ⟨_, rfl, by rw [ht]; exact hP⟩, hS.F ht⟩) hS.2.2 dP_requireRoom_18
set_option maxHeartbeats 4000000 in
set_option maxRecDepth 100000 in
theorem c_P_requireRoom_th (hst : l.stackTraces = false) {e0 : Nat → va_E} {v : Int64} (h : 1000 < v.toInt) : MetTh l yP_requireRoom (Cond.code yP_requireRoom bP_requireRoom 2 none :: tws) { frames := 6, cells := 1, slots := 6, locals := 82 } (gPc (tw D cI cZ cT cJ base) D cl ad 25 base (e0) [.long v]) "java/lang/UnsupportedOperationException" 1 6 := by
  refine MetTh.ofW (cc := bP_requireRoom) (maxL := 2) (ret := none) (by decide) rfl ?_
  intro p e s m args below meth c s₁ B hml hv
  obtain ⟨rfl, htw, hB, hP⟩ := hv
  have hx := B.exec
  have hb := B.bytes
  have hr := B.returns
  have hts0 := atoms_spec (ws := Cond.code yP_requireRoom bP_requireRoom 2 none :: tws) B.pre
  have hts : ∀ w ∈ tws, w.before _ s = true := fun w h => hts0 w (List.mem_cons_of_mem _ h)
  have hown : s.vm.findClass "PairedTexts" = some m.cls := findClass_of_methodNamed B.named
  have hlocks := B.notSynchronized
  have hno := B.noHandlers (hts0 _ List.mem_cons_self)
  have F : CallFix p m c bP_requireRoom 2 s _ tws "PairedTexts" := ⟨hx, hb, hml, hown, hts⟩
  have hK := htw.1
  have hS : va_S (gA base) s.heap s.heap [] := va_S.rf
  have hl := lv_entry ([.long v]) (n := 2) (Nat.le_of_ble_eq_true rfl)
  rw [lg_entry_eq]
  generalize (lg_sl ([.long v]) ++ List.replicate (2 - (lg_sl ([.long v])).length) Slot.unset).toArray = ls at hl ⊢
  have hl : lv_has ls 2 [(0, .long v)] := hl
  have z0 : (1000 : Int64).toInt = 1000 := rfl
  refine lv_lload_n hx hb dP_requireRoom_0 rfl (lv_at hl 0 rfl) ?_
  refine lv_ldc2 (v := 1000) hx hb hown (hts _ k1_175) dP_requireRoom_1 ?_
  refine W.lcmp hx hb dP_requireRoom_4 ?_
  refine lv_if_le (tgt := 18) hx hb dP_requireRoom_5 (by decide) (fun hc => absurd hc (by rw [lg_cmp_le, Int64.le_iff_toInt_le]; omega)) (fun _ => ?_)
  exact g_throw F hst hlocks hno htw (X := "java/lang/UnsupportedOperationException") (by decide +kernel) k1_176 k1_177 k1_10 (oa_UOE hts htw) (List.mem_of_getElem? (l := strs) (i := 2) rfl) hl.1 (Nat.le_of_ble_eq_true rfl) (Nat.le_of_ble_eq_true rfl) (Nat.le_of_ble_eq_true rfl) (Nat.le_of_ble_eq_true rfl) dP_requireRoom_8 dP_requireRoom_11 dP_requireRoom_12 dP_requireRoom_14 dP_requireRoom_17
set_option maxHeartbeats 4000000 in
set_option maxRecDepth 100000 in
theorem c_P_requirePattern (h : S 7 0 ≠ 0) : Met l yP_requirePattern (Cond.code yP_requirePattern bP_requirePattern 1 none :: tws) { frames := 6, cells := 0, slots := 0, locals := 82 } (gPc (tw D cI cZ cT cJ base) D cl ad 25 base (en ad cI cZ cT cJ pi dr S M o) [.ref (ad 0)]) (gQc D cl ad 25 base none (fun e => e = en ad cI cZ cT cJ pi dr S M o)) 0 0 (gA base) := by
  refine Met.ofW (cc := bP_requirePattern) (maxL := 1) (ret := none) (by decide) rfl ?_
  intro p e s m args below meth c s₁ B hml hv
  obtain ⟨rfl, htw, hB, hP⟩ := hv
  have hx := B.exec
  have hb := B.bytes
  have hr := B.returns
  have hts0 := atoms_spec (ws := Cond.code yP_requirePattern bP_requirePattern 1 none :: tws) B.pre
  have hts : ∀ w ∈ tws, w.before _ s = true := fun w h => hts0 w (List.mem_cons_of_mem _ h)
  have hown : s.vm.findClass "PairedTexts" = some m.cls := findClass_of_methodNamed B.named
  have hlocks := B.notSynchronized
  have hno := B.noHandlers (hts0 _ List.mem_cons_self)
  have F : CallFix p m c bP_requirePattern 1 s _ tws "PairedTexts" := ⟨hx, hb, hml, hown, hts⟩
  have hK := htw.1
  have hS : va_S (gA base) s.heap s.heap [] := va_S.rf
  have hl := lv_entry ([.ref (ad 0)]) (n := 1) (Nat.le_of_ble_eq_true rfl)
  rw [lg_entry_eq]
  generalize (lg_sl ([.ref (ad 0)]) ++ List.replicate (1 - (lg_sl ([.ref (ad 0)])).length) Slot.unset).toArray = ls at hl ⊢
  have hl : lv_has ls 1 [(0, .ref (ad 0))] := hl
  refine lv_aload_n hx hb dP_requirePattern_0 rfl (lv_at hl 0 rfl) ?_
  refine g_get F hK hP (0) (by decide) rfl rfl iP 1 (by decide) k1_71 rfl dP_requirePattern_1 ?_
  refine g_get F hK hP (12) (by decide) rfl rfl iQ 1 (by decide) k1_49 rfl dP_requirePattern_4 ?_
  refine lv_if_ne (tgt := 20) hx hb dP_requirePattern_7 (by decide) (fun _ => ?_) (fun hc => absurd hc h)
  exact W.vret hx hb hr (fun t ht hW => ⟨rfl, ⟨_, rfl, by rw [ht]; exact hP⟩, hS.F ht⟩) hS.2.2 dP_requirePattern_20
set_option maxHeartbeats 4000000 in
set_option maxRecDepth 100000 in
theorem c_P_requirePattern_th (hst : l.stackTraces = false) (h : S 7 0 = 0) : MetTh l yP_requirePattern (Cond.code yP_requirePattern bP_requirePattern 1 none :: tws) { frames := 6, cells := 1, slots := 6, locals := 82 } (gPc (tw D cI cZ cT cJ base) D cl ad 25 base (en ad cI cZ cT cJ pi dr S M o) [.ref (ad 0)]) "java/lang/IllegalStateException" 1 6 := by
  refine MetTh.ofW (cc := bP_requirePattern) (maxL := 1) (ret := none) (by decide) rfl ?_
  intro p e s m args below meth c s₁ B hml hv
  obtain ⟨rfl, htw, hB, hP⟩ := hv
  have hx := B.exec
  have hb := B.bytes
  have hr := B.returns
  have hts0 := atoms_spec (ws := Cond.code yP_requirePattern bP_requirePattern 1 none :: tws) B.pre
  have hts : ∀ w ∈ tws, w.before _ s = true := fun w h => hts0 w (List.mem_cons_of_mem _ h)
  have hown : s.vm.findClass "PairedTexts" = some m.cls := findClass_of_methodNamed B.named
  have hlocks := B.notSynchronized
  have hno := B.noHandlers (hts0 _ List.mem_cons_self)
  have F : CallFix p m c bP_requirePattern 1 s _ tws "PairedTexts" := ⟨hx, hb, hml, hown, hts⟩
  have hK := htw.1
  have hS : va_S (gA base) s.heap s.heap [] := va_S.rf
  have hl := lv_entry ([.ref (ad 0)]) (n := 1) (Nat.le_of_ble_eq_true rfl)
  rw [lg_entry_eq]
  generalize (lg_sl ([.ref (ad 0)]) ++ List.replicate (1 - (lg_sl ([.ref (ad 0)])).length) Slot.unset).toArray = ls at hl ⊢
  have hl : lv_has ls 1 [(0, .ref (ad 0))] := hl
  refine lv_aload_n hx hb dP_requirePattern_0 rfl (lv_at hl 0 rfl) ?_
  refine g_get F hK hP (0) (by decide) rfl rfl iP 1 (by decide) k1_71 rfl dP_requirePattern_1 ?_
  refine g_get F hK hP (12) (by decide) rfl rfl iQ 1 (by decide) k1_49 rfl dP_requirePattern_4 ?_
  refine lv_if_ne (tgt := 20) hx hb dP_requirePattern_7 (by decide) (fun hc => absurd h hc) (fun _ => ?_)
  exact g_throw F hst hlocks hno htw (X := "java/lang/IllegalStateException") (by decide +kernel) k2_123 k2_124 k1_14 (oa_ISE hts htw) (List.mem_of_getElem? (l := strs) (i := 4) rfl) hl.1 (Nat.le_of_ble_eq_true rfl) (Nat.le_of_ble_eq_true rfl) (Nat.le_of_ble_eq_true rfl) (Nat.le_of_ble_eq_true rfl) dP_requirePattern_10 dP_requirePattern_13 dP_requirePattern_14 dP_requirePattern_16 dP_requirePattern_19
set_option maxHeartbeats 4000000 in
set_option maxRecDepth 100000 in
theorem c_P_textOf {k : Nat} (hk : k < 4) : Met l yP_textOf (Cond.code yP_textOf bP_textOf 2 (some (.object "PairedTexts$Text")) :: tws) { frames := 7, cells := 0, slots := 0, locals := 102 } (gPc (tw D cI cZ cT cJ base) D cl ad 25 base (en ad cI cZ cT cJ pi dr S M o) [.ref (ad 0), .int (nI k)]) (gQc D cl ad 25 base (some (.ref (ad (2 + 2 * pi k)))) (fun e => e = en ad cI cZ cT cJ pi dr S M o)) 0 0 (gA base) := by
  refine Met.ofW (cc := bP_textOf) (maxL := 2) (ret := (some (.object "PairedTexts$Text"))) (by decide) rfl ?_
  intro p e s m args below meth c s₁ B hml hv
  obtain ⟨rfl, htw, hB, hP⟩ := hv
  have hx := B.exec
  have hb := B.bytes
  have hr := B.returns
  have hts0 := atoms_spec (ws := Cond.code yP_textOf bP_textOf 2 (some (.object "PairedTexts$Text")) :: tws) B.pre
  have hts : ∀ w ∈ tws, w.before _ s = true := fun w h => hts0 w (List.mem_cons_of_mem _ h)
  have hown : s.vm.findClass "PairedTexts" = some m.cls := findClass_of_methodNamed B.named
  have hlocks := B.notSynchronized
  have hno := B.noHandlers (hts0 _ List.mem_cons_self)
  have F : CallFix p m c bP_textOf 2 s _ tws "PairedTexts" := ⟨hx, hb, hml, hown, hts⟩
  have hK := htw.1
  have hS : va_S (gA base) s.heap s.heap [] := va_S.rf
  have hl := lv_entry ([.ref (ad 0), .int (nI k)]) (n := 2) (Nat.le_of_ble_eq_true rfl)
  rw [lg_entry_eq]
  generalize (lg_sl ([.ref (ad 0), .int (nI k)]) ++ List.replicate (2 - (lg_sl ([.ref (ad 0), .int (nI k)])).length) Slot.unset).toArray = ls at hl ⊢
  have hl : lv_has ls 2 [(0, .ref (ad 0)), (1, .int (nI k))] := hl
  have zk : (nI k).toInt = k := nI_toInt (by omega)
  refine lv_iload_n hx hb dP_textOf_0 rfl (lv_at hl 1 rfl) ?_
  refine g_S (k := 1) F htw hB hS hP (c_P_requireDocument (by omega) (by omega)) k1_96 k1_97 k1_1 k1_98 (by decide +kernel) rfl rfl ⟨Nat.le_of_ble_eq_true rfl, Nat.le_of_ble_eq_true rfl⟩ rfl hl.1 rfl (Nat.le_of_ble_eq_true rfl) dP_textOf_1 ⟨Nat.le_of_ble_eq_true rfl, Nat.le_of_ble_eq_true rfl⟩ (fun en1 H locs he hP hS => ?_)
  obtain rfl := he
  refine lv_aload_n hx hb dP_textOf_4 rfl (lv_at hl 0 rfl) ?_
  refine g_get F hK hP (0) (by decide) rfl rfl iP 0 (by decide) k1_70 rfl dP_textOf_5 ?_
  refine lv_iload_n hx hb dP_textOf_8 rfl (lv_at hl 1 rfl) ?_
  refine g_aald F hK hP (1) (by decide) 2 rfl rfl (vp_in_nI hk (by omega)) dP_textOf_9 ?_
  rw [nI_clamp (show k < 2 ^ 31 by omega)]
  exact W.aret hx hb hr (Or.inl ⟨_, rfl⟩) (Or.inr ⟨_, rfl⟩) (fun t ht hW => ⟨rfl, ⟨_, rfl, by rw [ht]; exact hP⟩, hS.F ht⟩) hS.2.2 dP_textOf_10
set_option maxHeartbeats 4000000 in
set_option maxRecDepth 100000 in
theorem c_P_textOf_th (hst : l.stackTraces = false) {d : Int32} (h : d.toInt < 0 ∨ 4 ≤ d.toInt) : MetTh l yP_textOf (Cond.code yP_textOf bP_textOf 2 (some (.object "PairedTexts$Text")) :: tws) { frames := 7, cells := 1, slots := 6, locals := 102 } (gPc (tw D cI cZ cT cJ base) D cl ad 25 base (en ad cI cZ cT cJ pi dr S M o) [.ref (ad 0), .int d]) "java/lang/IllegalArgumentException" 1 6 := by
  refine MetTh.ofW (cc := bP_textOf) (maxL := 2) (ret := (some (.object "PairedTexts$Text"))) (by decide) rfl ?_
  intro p e s m args below meth c s₁ B hml hv
  obtain ⟨rfl, htw, hB, hP⟩ := hv
  have hx := B.exec
  have hb := B.bytes
  have hr := B.returns
  have hts0 := atoms_spec (ws := Cond.code yP_textOf bP_textOf 2 (some (.object "PairedTexts$Text")) :: tws) B.pre
  have hts : ∀ w ∈ tws, w.before _ s = true := fun w h => hts0 w (List.mem_cons_of_mem _ h)
  have hown : s.vm.findClass "PairedTexts" = some m.cls := findClass_of_methodNamed B.named
  have hlocks := B.notSynchronized
  have hno := B.noHandlers (hts0 _ List.mem_cons_self)
  have F : CallFix p m c bP_textOf 2 s _ tws "PairedTexts" := ⟨hx, hb, hml, hown, hts⟩
  have hK := htw.1
  have hS : va_S (gA base) s.heap s.heap [] := va_S.rf
  have hl := lv_entry ([.ref (ad 0), .int d]) (n := 2) (Nat.le_of_ble_eq_true rfl)
  rw [lg_entry_eq]
  generalize (lg_sl ([.ref (ad 0), .int d]) ++ List.replicate (2 - (lg_sl ([.ref (ad 0), .int d])).length) Slot.unset).toArray = ls at hl ⊢
  have hl : lv_has ls 2 [(0, .ref (ad 0)), (1, .int d)] := hl
  refine lv_iload_n hx hb dP_textOf_0 rfl (lv_at hl 1 rfl) ?_
  exact g_ST0 (k := 1) F hlocks hno htw hB hP (c_P_requireDocument_th hst h) k1_96 k1_97 k1_1 k1_98 (by decide +kernel) rfl rfl ⟨Nat.le_of_ble_eq_true rfl, Nat.le_of_ble_eq_true rfl⟩ rfl hl.1 rfl (Nat.le_of_ble_eq_true rfl) dP_textOf_1 ⟨Nat.le_of_ble_eq_true rfl, Nat.le_of_ble_eq_true rfl⟩
set_option maxHeartbeats 4000000 in
set_option maxRecDepth 100000 in
theorem c_P_draftBecomesTextOf (G : gGeo ad 25 base) {k : Nat} (hk : k < 4) (hp : pi k < 5) (hdr : dr < 5) : Met l yP_draftBecomesTextOf (Cond.code yP_draftBecomesTextOf bP_draftBecomesTextOf 3 (some .int) :: tws) { frames := 0, cells := 0, slots := 0, locals := 0 } (gPc (tw D cI cZ cT cJ base) D cl ad 25 base (en ad cI cZ cT cJ pi dr S M o) [.ref (ad 0), .int (nI k)]) (gQc D cl ad 25 base (some (.int (S 5 dr))) (fun e => e = en ad cI cZ cT cJ (va_up pi k dr) (pi k) S M o)) 0 0 (gA base) := by
  refine Met.ofW (cc := bP_draftBecomesTextOf) (maxL := 3) (ret := (some .int)) (by decide) rfl ?_
  intro p e s m args below meth c s₁ B hml hv
  obtain ⟨rfl, htw, hB, hP⟩ := hv
  have hx := B.exec
  have hb := B.bytes
  have hr := B.returns
  have hts0 := atoms_spec (ws := Cond.code yP_draftBecomesTextOf bP_draftBecomesTextOf 3 (some .int) :: tws) B.pre
  have hts : ∀ w ∈ tws, w.before _ s = true := fun w h => hts0 w (List.mem_cons_of_mem _ h)
  have hown : s.vm.findClass "PairedTexts" = some m.cls := findClass_of_methodNamed B.named
  have hlocks := B.notSynchronized
  have hno := B.noHandlers (hts0 _ List.mem_cons_self)
  have F : CallFix p m c bP_draftBecomesTextOf 3 s _ tws "PairedTexts" := ⟨hx, hb, hml, hown, hts⟩
  have hK := htw.1
  have hS : va_S (gA base) s.heap s.heap [] := va_S.rf
  have hl := lv_entry ([.ref (ad 0), .int (nI k)]) (n := 3) (Nat.le_of_ble_eq_true rfl)
  rw [lg_entry_eq]
  generalize (lg_sl ([.ref (ad 0), .int (nI k)]) ++ List.replicate (3 - (lg_sl ([.ref (ad 0), .int (nI k)])).length) Slot.unset).toArray = ls at hl ⊢
  have hl : lv_has ls 3 [(0, .ref (ad 0)), (1, .int (nI k))] := hl
  have ck : (nI k).toNatClampNeg = k := nI_clamp (by omega)
  refine lv_aload_n hx hb dP_draftBecomesTextOf_0 rfl (lv_at hl 0 rfl) ?_
  refine g_get F hK hP (0) (by decide) rfl rfl iP 0 (by decide) k1_70 rfl dP_draftBecomesTextOf_1 ?_
  refine lv_iload_n hx hb dP_draftBecomesTextOf_4 rfl (lv_at hl 1 rfl) ?_
  refine g_aald F hK hP (1) (by decide) 2 rfl rfl (vp_in_nI hk (by omega)) dP_draftBecomesTextOf_5 ?_
  rw [ck]
  refine lv_astore_n hx hb dP_draftBecomesTextOf_6 rfl hl (by decide) rfl (fun ls hl => ?_)
  have hl : lv_has ls 3 [(2, .ref _), (0, .ref _), (1, .int _)] := hl
  refine lv_aload_n hx hb dP_draftBecomesTextOf_7 rfl (lv_at hl 1 rfl) ?_
  refine g_get F hK hP (0) (by decide) rfl rfl iP 0 (by decide) k1_70 rfl dP_draftBecomesTextOf_8 ?_
  refine lv_iload_n hx hb dP_draftBecomesTextOf_11 rfl (lv_at hl 2 rfl) ?_
  refine lv_aload_n hx hb dP_draftBecomesTextOf_12 rfl (lv_at hl 1 rfl) ?_
  refine g_get F hK hP (0) (by decide) rfl rfl iP 3 (by decide) k1_73 rfl dP_draftBecomesTextOf_13 ?_
  refine g_aast F hK G hP hS 1 (by decide) 2 (2 + 2 * dr) (by omega) rfl rfl (en_T _ _ _ _ _ _ _ _ _ _ hdr) rfl (vp_in_nI hk (by omega)) dP_draftBecomesTextOf_16 (fun H locs hP hS => ?_)
  rw [ck] at hP
  have hP := P_of hP (en_pi _ _ _ _ _ _ _ _ _ _ _ _)
  refine lv_aload_n hx hb dP_draftBecomesTextOf_17 rfl (lv_at hl 1 rfl) ?_
  refine lv_aload_n hx hb dP_draftBecomesTextOf_18 rfl (lv_at hl 0 rfl) ?_
  refine g_put F hK G hP hS (0) (by decide) rfl rfl iP tP tP_ok nP 3 (by decide) k1_73 rfl (ty := .object "PairedTexts$Text") (by decide +kernel) rfl rfl (Nat.le_of_ble_eq_true rfl) dP_draftBecomesTextOf_19 (fun H locs hP hS => ?_)
  have hP := P_of hP (en_dr _ _ _ _ _ _ _ _ _ _ _)
  refine lv_aload_n hx hb dP_draftBecomesTextOf_22 rfl (lv_at hl 1 rfl) ?_
  refine g_get F hK hP (0) (by decide) rfl rfl iP 0 (by decide) k1_70 rfl dP_draftBecomesTextOf_23 ?_
  refine lv_iload_n hx hb dP_draftBecomesTextOf_26 rfl (lv_at hl 2 rfl) ?_
  refine g_aald F hK hP (1) (by decide) 2 rfl rfl (vp_in_nI hk (by omega)) dP_draftBecomesTextOf_27 ?_
  rw [ck]
  have ev : va_up pi k dr k = dr := if_pos rfl
  rw [ev]
  refine g_get F hK hP (2 + 2 * dr) (by omega) (en_T _ _ _ _ _ _ _ _ _ _ hdr) rfl iT 1 (by decide) k1_34 rfl dP_draftBecomesTextOf_28 ?_
  exact W.iret hx hb hr (fun t ht hW => ⟨rfl, ⟨_, rfl, by rw [ht]; exact hP⟩, hS.F ht⟩) hS.2.2 dP_draftBecomesTextOf_31
end M2
end
section
/-! Loops: a row for them; the class's small methods that have one; the name's step. -/
section LOOP
variable {p : Program} {l : Launch} {e : Env} {R : Room} {s : State} {m : MethodId} {args : Array Value} {below : List Frame} {meth : Method} {c : Code} {cells slots pc : Nat} {Q : State → Prop}
/-- a loop: t falls at every turn -/
theorem W.loop {α : Type} (I : Nat → α → Array Slot → Heap → List Loc → Prop)
    (h : ∀ (t : Nat) (a : α) (ls : Array Slot) (H : Heap) (locs : List Loc), I t a ls H locs → (∀ (t' : Nat) (a' : α) (ls' : Array Slot) (H' : Heap) (locs' : List Loc), t' < t → I t' a' ls' H' locs' → W p l e R s m args below meth c H' locs' cells slots Q (F0 m pc ls' [])) → W p l e R s m args below meth c H locs cells slots Q (F0 m pc ls []))
    {t : Nat} {a : α} {ls : Array Slot} {H : Heap} {locs : List Loc} (h0 : I t a ls H locs) : W p l e R s m args below meth c H locs cells slots Q (F0 m pc ls []) := by
  have key : ∀ (n t : Nat) (a : α) (ls : Array Slot) (H : Heap) (locs : List Loc), t < n → I t a ls H locs → W p l e R s m args below meth c H locs cells slots Q (F0 m pc ls []) := by
    intro n
    induction n with
    | zero => intro t a ls H locs ht; exact absurd ht (Nat.not_lt_zero _)
    | succ n ih => intro t a ls H locs ht hI; exact h t a ls H locs hI (fun t' a' ls' H' locs' hlt hI' => ih t' a' ls' H' locs' (by omega) hI')
  exact key (t + 1) t a ls H locs (Nat.lt_succ_self _) h0
end LOOP
/-- from c on, for at most t places: how far P holds -/
def cpx (P : Nat → Bool) : Nat → Nat → Nat
  | 0, c => c
  | t + 1, c => if P c then cpx P t (c + 1) else c
/-- from c on, for t places: does P hold -/
def alb (P : Nat → Bool) : Nat → Nat → Bool
  | 0, _ => true
  | t + 1, c => if P c then alb P t (c + 1) else false
theorem cpx_le (P : Nat → Bool) : ∀ t c, c ≤ cpx P t c ∧ cpx P t c ≤ c + t := by
  intro t
  induction t with
  | zero => intro c; exact ⟨Nat.le_refl _, Nat.le_refl _⟩
  | succ t ih => intro c; unfold cpx; split; · have := ih (c + 1); omega
                 · omega
theorem cpx_congr {P P' : Nat → Bool} : ∀ t c, (∀ i, c ≤ i → i < c + t → P i = P' i) → cpx P t c = cpx P' t c := by
  intro t
  induction t with
  | zero => intro c _; rfl
  | succ t ih => intro c h; unfold cpx; rw [h c (Nat.le_refl _) (by omega), ih (c + 1) (fun i h1 h2 => h i (by omega) (by omega))]
theorem alb_congr {P P' : Nat → Bool} : ∀ t c, (∀ i, c ≤ i → i < c + t → P i = P' i) → alb P t c = alb P' t c := by
  intro t
  induction t with
  | zero => intro c _; rfl
  | succ t ih => intro c h; unfold alb; rw [h c (Nat.le_refl _) (by omega), ih (c + 1) (fun i h1 h2 => h i (by omega) (by omega))]
/-- byte k of a pattern -/
def pbyt (lo hi : Int64) (k : Nat) : Nat := if k < 8 then byt lo k else byt hi (k - 8)
section M3
variable {l : Launch} {D : va_G} {cI cZ cT cJ : ClassId} {base : Nat} {ad : Nat → Nat} {pi : Nat → Nat} {dr : Nat} {S M : Nat → Nat → Int32} {o : Nat → Int64}
set_option maxHeartbeats 4000000 in
set_option maxRecDepth 100000 in
theorem c_P_commonBeginning {q z i j n1 n2 : Nat} (hq : q < 5) (hz : z < 5) (h1 : n1 ≤ 1000) (h2 : n2 ≤ 1000) (hi : i ≤ n1) (hj : j ≤ n2) (e1 : S 5 q = nI n1) (e2 : S 5 z = nI n2) : Met l yP_commonBeginning (Cond.code yP_commonBeginning bP_commonBeginning 6 (some .int) :: tws) { frames := 1, cells := 0, slots := 0, locals := 21 } (gPc (tw D cI cZ cT cJ base) D cl ad 25 base (en ad cI cZ cT cJ pi dr S M o) [.ref (ad (2 + 2 * q)), .int (nI i), .ref (ad (2 + 2 * z)), .int (nI j)]) (gQc D cl ad 25 base (some (.int (nI (cpx (fun c => decide (S q (i + c) = S z (j + c))) (min (n1 - i) (n2 - j)) 0)))) (fun e => e = en ad cI cZ cT cJ pi dr S M o)) 0 0 (gA base) := by
  refine Met.ofW (cc := bP_commonBeginning) (maxL := 6) (ret := (some .int)) (by decide) rfl ?_
  intro p e s m args below meth c s₁ B hml hv
  obtain ⟨rfl, htw, hB, hP⟩ := hv
  have hx := B.exec
  have hb := B.bytes
  have hr := B.returns
  have hts0 := atoms_spec (ws := Cond.code yP_commonBeginning bP_commonBeginning 6 (some .int) :: tws) B.pre
  have hts : ∀ w ∈ tws, w.before _ s = true := fun w h => hts0 w (List.mem_cons_of_mem _ h)
  have hown : s.vm.findClass "PairedTexts" = some m.cls := findClass_of_methodNamed B.named
  have hlocks := B.notSynchronized
  have hno := B.noHandlers (hts0 _ List.mem_cons_self)
  have F : CallFix p m c bP_commonBeginning 6 s _ tws "PairedTexts" := ⟨hx, hb, hml, hown, hts⟩
  have hK := htw.1
  have hS : va_S (gA base) s.heap s.heap [] := va_S.rf
  have hl := lv_entry ([.ref (ad (2 + 2 * q)), .int (nI i), .ref (ad (2 + 2 * z)), .int (nI j)]) (n := 6) (Nat.le_of_ble_eq_true rfl)
  rw [lg_entry_eq]
  generalize (lg_sl ([.ref (ad (2 + 2 * q)), .int (nI i), .ref (ad (2 + 2 * z)), .int (nI j)]) ++ List.replicate (6 - (lg_sl ([.ref (ad (2 + 2 * q)), .int (nI i), .ref (ad (2 + 2 * z)), .int (nI j)])).length) Slot.unset).toArray = ls at hl ⊢
  have hl : lv_has ls 6 [(0, .ref (ad (2 + 2 * q))), (1, .int (nI i)), (2, .ref (ad (2 + 2 * z))), (3, .int (nI j))] := hl
  refine lv_aload_n hx hb dP_commonBeginning_0 rfl (lv_at hl 0 rfl) ?_
  refine g_get F hK hP (2 + 2 * q) (by omega) (en_T _ _ _ _ _ _ _ _ _ _ hq) rfl iT 1 (by decide) k1_34 rfl dP_commonBeginning_1 ?_
  refine lv_iload_n hx hb dP_commonBeginning_4 rfl (lv_at hl 1 rfl) ?_
  refine lv_isub hx hb dP_commonBeginning_5 ?_
  refine lv_aload_n hx hb dP_commonBeginning_6 rfl (lv_at hl 2 rfl) ?_
  refine g_get F hK hP (2 + 2 * z) (by omega) (en_T _ _ _ _ _ _ _ _ _ _ hz) rfl iT 1 (by decide) k1_34 rfl dP_commonBeginning_7 ?_
  refine lv_iload_n hx hb dP_commonBeginning_10 rfl (lv_at hl 3 rfl) ?_
  refine lv_isub hx hb dP_commonBeginning_11 ?_
  rw [e1, e2, pk_sub hi, pk_sub hj]
  refine va_mmin hx hb (by rw [hml, hl.1]) hown (hts _ k2_68) (hts _ k2_69) (hts _ k1_13) (hts _ k2_70) (Nat.le_of_ble_eq_true rfl) (Nat.le_of_ble_eq_true rfl) (Nat.le_of_ble_eq_true rfl) (Nat.le_of_ble_eq_true rfl) dP_commonBeginning_12 ?_
  have em : (if nI (n2 - j) < nI (n1 - i) then nI (n2 - j) else nI (n1 - i)) = nI (min (n1 - i) (n2 - j)) := by
    by_cases hc : nI (n2 - j) < nI (n1 - i)
    · rw [if_pos hc]; rw [nI_ltI (by omega) (by omega)] at hc; congr 1; omega
    · rw [if_neg hc]; rw [nI_ltI (by omega) (by omega)] at hc; congr 1; omega
  rw [em]
  generalize hmm : (min (n1 - i) (n2 - j)) = mm
  have hm1 : mm ≤ 1000 ∧ i + mm ≤ n1 ∧ j + mm ≤ n2 := by omega
  refine lv_istore hx hb dP_commonBeginning_15 hl (by decide) rfl (fun ls hl => ?_)
  have hl : lv_has ls 6 [(4, .int _), (0, .ref _), (1, .int _), (2, .ref _), (3, .int _)] := hl
  refine lv_iconst (v := 0) hx hb dP_commonBeginning_17 (by decide) ?_
  refine lv_istore hx hb dP_commonBeginning_18 hl (by decide) rfl (fun ls hl => ?_)
  have hl : lv_has ls 6 [(5, .int _), (4, .int _), (0, .ref _), (1, .int _), (2, .ref _), (3, .int _)] := hl
  refine W.loop (α := Nat) (fun t a ls H locs => a + t = mm ∧ cpx (fun c => decide (S q (i + c) = S z (j + c))) t a = cpx (fun c => decide (S q (i + c) = S z (j + c))) mm 0 ∧ lv_has ls 6 [(5, .int (nI a)), (4, .int (nI mm)), (0, .ref (ad (2 + 2 * q))), (1, .int (nI i)), (2, .ref (ad (2 + 2 * z))), (3, .int (nI j))] ∧ va_P D cl (gw ad (en ad cI cZ cT cJ pi dr S M o) 25) H ∧ va_S (gA base) s.heap H locs) ?_ (t := mm) (a := 0) ⟨by omega, rfl, hl, hP, hS⟩
  clear hl hP hS
  intro t a ls H locs hI ih
  obtain ⟨i0, i1, hl, hP, hS⟩ := hI
  try dsimp only at i0 i1 hl hP
  by_cases ht : t = 0
  · subst ht
    refine lv_iload hx hb dP_commonBeginning_20 (lv_at hl 0 rfl) ?_
    refine lv_iload hx hb dP_commonBeginning_22 (lv_at hl 1 rfl) ?_
    refine lv_icmp_ge (tgt := 54) hx hb dP_commonBeginning_24 (by decide) (fun _ => ?_) (fun hc => absurd (by rw [nI_leI (by omega) (by omega)]; omega) hc)
    refine lv_iload hx hb dP_commonBeginning_54 (lv_at hl 0 rfl) ?_
    have i1 : a = cpx (fun c => decide (S q (i + c) = S z (j + c))) mm 0 := i1
    exact W.iret hx hb hr (fun t ht hW => ⟨by rw [← i1], ⟨_, rfl, by rw [ht]; exact hP⟩, hS.F ht⟩) hS.2.2 dP_commonBeginning_56
  · obtain ⟨t, rfl⟩ : ∃ u, t = u + 1 := ⟨t - 1, by omega⟩
    refine lv_iload hx hb dP_commonBeginning_20 (lv_at hl 0 rfl) ?_
    refine lv_iload hx hb dP_commonBeginning_22 (lv_at hl 1 rfl) ?_
    refine lv_icmp_ge (tgt := 54) hx hb dP_commonBeginning_24 (by decide) (fun hc => absurd hc (by rw [nI_leI (by omega) (by omega)]; omega)) (fun _ => ?_)
    refine lv_aload_n hx hb dP_commonBeginning_27 rfl (lv_at hl 2 rfl) ?_
    refine g_get F hK hP (2 + 2 * q) (by omega) (en_T _ _ _ _ _ _ _ _ _ _ hq) rfl iT 0 (by decide) k1_32 rfl dP_commonBeginning_28 ?_
    refine lv_iload_n hx hb dP_commonBeginning_31 rfl (lv_at hl 3 rfl) ?_
    refine lv_iload hx hb dP_commonBeginning_32 (lv_at hl 0 rfl) ?_
    refine lv_iadd hx hb dP_commonBeginning_34 ?_
    rw [nI_add]
    refine g_iald F hK hP (3 + 2 * q) (by omega) 0 (en_B _ _ _ _ _ _ _ _ _ _ hq) rfl (vp_in_nI (show i + a < 1000 by omega) (by omega)) dP_commonBeginning_35 ?_
    rw [nI_clamp (show i + a < 2 ^ 31 by omega)]
    refine lv_aload_n hx hb dP_commonBeginning_36 rfl (lv_at hl 4 rfl) ?_
    refine g_get F hK hP (2 + 2 * z) (by omega) (en_T _ _ _ _ _ _ _ _ _ _ hz) rfl iT 0 (by decide) k1_32 rfl dP_commonBeginning_37 ?_
    refine lv_iload_n hx hb dP_commonBeginning_40 rfl (lv_at hl 5 rfl) ?_
    refine lv_iload hx hb dP_commonBeginning_41 (lv_at hl 0 rfl) ?_
    refine lv_iadd hx hb dP_commonBeginning_43 ?_
    rw [nI_add]
    refine g_iald F hK hP (3 + 2 * z) (by omega) 0 (en_B _ _ _ _ _ _ _ _ _ _ hz) rfl (vp_in_nI (show j + a < 1000 by omega) (by omega)) dP_commonBeginning_44 ?_
    rw [nI_clamp (show j + a < 2 ^ 31 by omega)]
    refine lv_icmp_ne (tgt := 54) hx hb dP_commonBeginning_45 (by decide) (fun hd => ?_) (fun hd => ?_)
    · have i1 : (if decide (S q (i + a) = S z (j + a)) then cpx (fun c => decide (S q (i + c) = S z (j + c))) t (a + 1) else a) = cpx (fun c => decide (S q (i + c) = S z (j + c))) mm 0 := i1
      rw [if_neg (by simpa using hd)] at i1
      refine lv_iload hx hb dP_commonBeginning_54 (lv_at hl 0 rfl) ?_
      exact W.iret hx hb hr (fun t ht hW => ⟨by rw [← i1], ⟨_, rfl, by rw [ht]; exact hP⟩, hS.F ht⟩) hS.2.2 dP_commonBeginning_56
    · have i1 : (if decide (S q (i + a) = S z (j + a)) then cpx (fun c => decide (S q (i + c) = S z (j + c))) t (a + 1) else a) = cpx (fun c => decide (S q (i + c) = S z (j + c))) mm 0 := i1
      rw [if_pos (by simpa using hd)] at i1
      refine lv_iinc (k := 0) hx hb dP_commonBeginning_48 hl rfl rfl (by decide) rfl (fun ls hl => ?_)
      have hl : lv_has ls 6 [(5, .int _), (4, .int _), (0, .ref _), (1, .int _), (2, .ref _), (3, .int _)] := hl
      refine lv_goto (tgt := 20) hx hb dP_commonBeginning_51 (by decide) ?_
      have hl : lv_has ls 6 [(5, .int (nI (a + 1))), (4, .int (nI mm)), (0, .ref (ad (2 + 2 * q))), (1, .int (nI i)), (2, .ref (ad (2 + 2 * z))), (3, .int (nI j))] := by rw [← nI_1]; exact hl
      exact ih _ (a + 1) _ _ _ (by omega) ⟨by omega, i1, hl, hP, hS⟩
set_option maxHeartbeats 4000000 in
set_option maxRecDepth 100000 in
theorem c_Q_standsAt {q i e0 pn : Nat} (hq : q < 5) (hi : i ≤ e0) (he : e0 ≤ 1000) (hpn : pn ≤ 16) (e7 : S 7 0 = nI pn) : Met l yQ_standsAt (Cond.code yQ_standsAt bQ_standsAt 5 (some .boolean) :: tws) { frames := 0, cells := 0, slots := 0, locals := 0 } (gPc (tw D cI cZ cT cJ base) D cl ad 25 base (en ad cI cZ cT cJ pi dr S M o) [.ref (ad 12), .ref (ad (2 + 2 * q)), .int (nI i), .int (nI e0)]) (gQc D cl ad 25 base (some (.int (if decide (pn ≤ e0 - i) && alb (fun k => decide (S q (i + k) = S 6 k)) pn 0 then 1 else 0))) (fun e => e = en ad cI cZ cT cJ pi dr S M o)) 0 0 (gA base) := by
  refine Met.ofW (cc := bQ_standsAt) (maxL := 5) (ret := (some .boolean)) (by decide) rfl ?_
  intro p e s m args below meth c s₁ B hml hv
  obtain ⟨rfl, htw, hB, hP⟩ := hv
  have hx := B.exec
  have hb := B.bytes
  have hr := B.returns
  have hts0 := atoms_spec (ws := Cond.code yQ_standsAt bQ_standsAt 5 (some .boolean) :: tws) B.pre
  have hts : ∀ w ∈ tws, w.before _ s = true := fun w h => hts0 w (List.mem_cons_of_mem _ h)
  have hown : s.vm.findClass "PairedTexts$Pattern" = some m.cls := findClass_of_methodNamed B.named
  have hlocks := B.notSynchronized
  have hno := B.noHandlers (hts0 _ List.mem_cons_self)
  have F : CallFix p m c bQ_standsAt 5 s _ tws "PairedTexts$Pattern" := ⟨hx, hb, hml, hown, hts⟩
  have hK := htw.1
  have hS : va_S (gA base) s.heap s.heap [] := va_S.rf
  have hl := lv_entry ([.ref (ad 12), .ref (ad (2 + 2 * q)), .int (nI i), .int (nI e0)]) (n := 5) (Nat.le_of_ble_eq_true rfl)
  rw [lg_entry_eq]
  generalize (lg_sl ([.ref (ad 12), .ref (ad (2 + 2 * q)), .int (nI i), .int (nI e0)]) ++ List.replicate (5 - (lg_sl ([.ref (ad 12), .ref (ad (2 + 2 * q)), .int (nI i), .int (nI e0)])).length) Slot.unset).toArray = ls at hl ⊢
  have hl : lv_has ls 5 [(0, .ref (ad 12)), (1, .ref (ad (2 + 2 * q))), (2, .int (nI i)), (3, .int (nI e0))] := hl
  refine lv_aload_n hx hb dQ_standsAt_0 rfl (lv_at hl 0 rfl) ?_
  refine g_get F hK hP (12) (by decide) rfl rfl iQ 1 (by decide) k1_48 rfl dQ_standsAt_1 ?_
  refine lv_iload_n hx hb dQ_standsAt_4 rfl (lv_at hl 3 rfl) ?_
  refine lv_iload_n hx hb dQ_standsAt_5 rfl (lv_at hl 2 rfl) ?_
  refine lv_isub hx hb dQ_standsAt_6 ?_
  rw [e7, pk_sub hi]
  refine lv_icmp_le (tgt := 12) hx hb dQ_standsAt_7 (by decide) (fun hc => ?_) (fun hc => ?_)
  · rw [nI_leI (by omega) (by omega)] at hc
    refine lv_iconst (v := 0) hx hb dQ_standsAt_12 (by decide) ?_
    refine lv_istore hx hb dQ_standsAt_13 hl (by decide) rfl (fun ls hl => ?_)
    have hl : lv_has ls 5 [(4, .int _), (0, .ref _), (1, .ref _), (2, .int _), (3, .int _)] := hl
    refine W.loop (α := Nat) (fun t a ls H locs => a + t = pn ∧ alb (fun k => decide (S q (i + k) = S 6 k)) t a = alb (fun k => decide (S q (i + k) = S 6 k)) pn 0 ∧ lv_has ls 5 [(4, .int (nI a)), (0, .ref (ad 12)), (1, .ref (ad (2 + 2 * q))), (2, .int (nI i)), (3, .int (nI e0))] ∧ va_P D cl (gw ad (en ad cI cZ cT cJ pi dr S M o) 25) H ∧ va_S (gA base) s.heap H locs) ?_ (t := pn) (a := 0) ⟨by omega, rfl, hl, hP, hS⟩
    clear hl hP hS
    intro t a ls H locs hI ih
    obtain ⟨i0, i1, hl, hP, hS⟩ := hI
    try dsimp only at i0 i1 hl hP
    by_cases ht : t = 0
    · subst ht
      refine lv_iload hx hb dQ_standsAt_15 (lv_at hl 0 rfl) ?_
      refine lv_aload_n hx hb dQ_standsAt_17 rfl (lv_at hl 1 rfl) ?_
      refine g_get F hK hP (12) (by decide) rfl rfl iQ 1 (by decide) k1_48 rfl dQ_standsAt_18 ?_
      refine lv_icmp_ge (tgt := 51) hx hb dQ_standsAt_21 (by decide) (fun _ => ?_) (fun hc => absurd (by rw [e7, nI_leI (by omega) (by omega)]; omega) hc)
      refine lv_iconst (v := 1) hx hb dQ_standsAt_51 (by decide) ?_
      have hv : (if decide (pn ≤ e0 - i) && alb (fun k => decide (S q (i + k) = S 6 k)) pn 0 then 1 else 0) = (1 : Int32) := by rw [← i1]; simp [hc, alb]
      exact W.zret hx hb hr rfl (fun t ht hW => ⟨by rw [hv], ⟨_, rfl, by rw [ht]; exact hP⟩, hS.F ht⟩) hS.2.2 dQ_standsAt_52
    · obtain ⟨t, rfl⟩ : ∃ u, t = u + 1 := ⟨t - 1, by omega⟩
      refine lv_iload hx hb dQ_standsAt_15 (lv_at hl 0 rfl) ?_
      refine lv_aload_n hx hb dQ_standsAt_17 rfl (lv_at hl 1 rfl) ?_
      refine g_get F hK hP (12) (by decide) rfl rfl iQ 1 (by decide) k1_48 rfl dQ_standsAt_18 ?_
      refine lv_icmp_ge (tgt := 51) hx hb dQ_standsAt_21 (by decide) (fun hc => absurd hc (by rw [e7, nI_leI (by omega) (by omega)]; omega)) (fun _ => ?_)
      refine lv_aload_n hx hb dQ_standsAt_24 rfl (lv_at hl 2 rfl) ?_
      refine g_get F hK hP (2 + 2 * q) (by omega) (en_T _ _ _ _ _ _ _ _ _ _ hq) rfl iT 0 (by decide) k1_31 rfl dQ_standsAt_25 ?_
      refine lv_iload_n hx hb dQ_standsAt_28 rfl (lv_at hl 3 rfl) ?_
      refine lv_iload hx hb dQ_standsAt_29 (lv_at hl 0 rfl) ?_
      refine lv_iadd hx hb dQ_standsAt_31 ?_
      rw [nI_add]
      refine g_iald F hK hP (3 + 2 * q) (by omega) 0 (en_B _ _ _ _ _ _ _ _ _ _ hq) rfl (vp_in_nI (show i + a < 1000 by omega) (by omega)) dQ_standsAt_32 ?_
      rw [nI_clamp (show i + a < 2 ^ 31 by omega)]
      refine lv_aload_n hx hb dQ_standsAt_33 rfl (lv_at hl 1 rfl) ?_
      refine g_get F hK hP (12) (by decide) rfl rfl iQ 0 (by decide) k1_47 rfl dQ_standsAt_34 ?_
      refine lv_iload hx hb dQ_standsAt_37 (lv_at hl 0 rfl) ?_
      refine g_iald F hK hP (13) (by decide) 0 rfl rfl (vp_in_nI (show a < 16 by omega) (by omega)) dQ_standsAt_39 ?_
      rw [nI_clamp (show a < 2 ^ 31 by omega)]
      refine lv_icmp_eq (tgt := 45) hx hb dQ_standsAt_40 (by decide) (fun hd => ?_) (fun hd => ?_)
      · have i1 : (if decide (S q (i + a) = S 6 a) then alb (fun k => decide (S q (i + k) = S 6 k)) t (a + 1) else false) = alb (fun k => decide (S q (i + k) = S 6 k)) pn 0 := i1
        rw [if_pos (by simpa using hd)] at i1
        refine lv_iinc (k := 0) hx hb dQ_standsAt_45 hl rfl rfl (by decide) rfl (fun ls hl => ?_)
        have hl : lv_has ls 5 [(4, .int _), (0, .ref _), (1, .ref _), (2, .int _), (3, .int _)] := hl
        refine lv_goto (tgt := 15) hx hb dQ_standsAt_48 (by decide) ?_
        have hl : lv_has ls 5 [(4, .int (nI (a + 1))), (0, .ref (ad 12)), (1, .ref (ad (2 + 2 * q))), (2, .int (nI i)), (3, .int (nI e0))] := by rw [← nI_1]; exact hl
        exact ih _ (a + 1) _ _ _ (by omega) ⟨by omega, i1, hl, hP, hS⟩
      · have i1 : (if decide (S q (i + a) = S 6 a) then alb (fun k => decide (S q (i + k) = S 6 k)) t (a + 1) else false) = alb (fun k => decide (S q (i + k) = S 6 k)) pn 0 := i1
        rw [if_neg (by simpa using hd)] at i1
        refine lv_iconst (v := 0) hx hb dQ_standsAt_43 (by decide) ?_
        have hv : (if decide (pn ≤ e0 - i) && alb (fun k => decide (S q (i + k) = S 6 k)) pn 0 then 1 else 0) = (0 : Int32) := by rw [← i1]; simp
        exact W.zret hx hb hr rfl (fun t ht hW => ⟨by rw [hv], ⟨_, rfl, by rw [ht]; exact hP⟩, hS.F ht⟩) hS.2.2 dQ_standsAt_44
  · rw [nI_leI (by omega) (by omega)] at hc
    refine lv_iconst (v := 0) hx hb dQ_standsAt_10 (by decide) ?_
    have hv : (if decide (pn ≤ e0 - i) && alb (fun k => decide (S q (i + k) = S 6 k)) pn 0 then 1 else 0) = (0 : Int32) := by simp [hc]
    exact W.zret hx hb hr rfl (fun t ht hW => ⟨by rw [hv], ⟨_, rfl, by rw [ht]; exact hP⟩, hS.F ht⟩) hS.2.2 dQ_standsAt_11
end M3
end
section
/-! Pattern.become; the name's step. -/
theorem sr_id {S : Nat → Nat → Int32} {r : Nat} {f : Nat → Int32} (h : f = S r) : sr S r f = S := by
  funext r'
  unfold sr
  by_cases e : r' = r
  · rw [if_pos e, h, e]
  · rw [if_neg e]
theorem sr_sr {S : Nat → Nat → Int32} {r : Nat} {f g : Nat → Int32} : sr (sr S r f) r g = sr S r g := by
  funext r'
  unfold sr
  by_cases e : r' = r
  · rw [if_pos e, if_pos e]
  · rw [if_neg e, if_neg e, if_neg e]
/-- the first k places hold g, the others what they held -/
def fil (S0 : Nat → Int32) (g : Nat → Nat) (k : Nat) : Nat → Int32 := fun x => if x < k then nI (g x) else S0 x
theorem fil_0 {S0 : Nat → Int32} {g : Nat → Nat} : fil S0 g 0 = S0 := by funext x; simp [fil]
theorem fil_s {S0 : Nat → Int32} {g : Nat → Nat} {k : Nat} : upd (fil S0 g k) k (nI (g k)) = fil S0 g (k + 1) := by
  funext x
  unfold upd fil
  by_cases e : x = k
  · rw [if_pos e, if_pos (by omega), e]
  · rw [if_neg e]
    by_cases e2 : x < k
    · rw [if_pos e2, if_pos (by omega)]
    · rw [if_neg e2, if_neg (by omega)]
section M4
variable {l : Launch} {D : va_G} {cI cZ cT cJ : ClassId} {base : Nat} {ad : Nat → Nat} {pi : Nat → Nat} {dr : Nat} {S M : Nat → Nat → Int32} {o : Nat → Int64}
set_option maxHeartbeats 4000000 in
set_option maxRecDepth 100000 in
theorem c_Q_become (G : gGeo ad 25 base) (lo hi : Int64) {n : Nat} (hn : n ≤ 16) : Met l yQ_become (Cond.code yQ_become bQ_become 7 none :: tws) { frames := 1, cells := 0, slots := 0, locals := 22 } (gPc (tw D cI cZ cT cJ base) D cl ad 25 base (en ad cI cZ cT cJ pi dr S M o) [.ref (ad 12), .long lo, .long hi, .int (nI n)]) (gQc D cl ad 25 base none (fun e => e = en ad cI cZ cT cJ pi dr (sr (sr S 6 (fil (S 6) (pbyt lo hi) n)) 7 (upd (S 7) 0 (nI n))) M o)) 0 0 (gA base) := by
  refine Met.ofW (cc := bQ_become) (maxL := 7) (ret := none) (by decide) rfl ?_
  intro p e s m args below meth c s₁ B hml hv
  obtain ⟨rfl, htw, hB, hP⟩ := hv
  have hx := B.exec
  have hb := B.bytes
  have hr := B.returns
  have hts0 := atoms_spec (ws := Cond.code yQ_become bQ_become 7 none :: tws) B.pre
  have hts : ∀ w ∈ tws, w.before _ s = true := fun w h => hts0 w (List.mem_cons_of_mem _ h)
  have hown : s.vm.findClass "PairedTexts$Pattern" = some m.cls := findClass_of_methodNamed B.named
  have hlocks := B.notSynchronized
  have hno := B.noHandlers (hts0 _ List.mem_cons_self)
  have F : CallFix p m c bQ_become 7 s _ tws "PairedTexts$Pattern" := ⟨hx, hb, hml, hown, hts⟩
  have hK := htw.1
  have hS : va_S (gA base) s.heap s.heap [] := va_S.rf
  have hl := lv_entry ([.ref (ad 12), .long lo, .long hi, .int (nI n)]) (n := 7) (Nat.le_of_ble_eq_true rfl)
  rw [lg_entry_eq]
  generalize (lg_sl ([.ref (ad 12), .long lo, .long hi, .int (nI n)]) ++ List.replicate (7 - (lg_sl ([.ref (ad 12), .long lo, .long hi, .int (nI n)])).length) Slot.unset).toArray = ls at hl ⊢
  have hl : lv_has ls 7 [(0, .ref (ad 12)), (1, .long lo), (3, .long hi), (5, .int (nI n))] := hl
  refine lv_iconst (v := 0) hx hb dQ_become_0 (by decide) ?_
  refine lv_istore hx hb dQ_become_1 hl (by decide) rfl (fun ls hl => ?_)
  have hl : lv_has ls 7 [(6, .int _), (0, .ref _), (1, .long _), (3, .long _), (5, .int _)] := hl
  have hP : va_P D cl (gw ad (en ad cI cZ cT cJ pi dr (sr S 6 (fil (S 6) (pbyt lo hi) 0)) M o) 25) s.heap := by rw [sr_id fil_0]; exact hP
  refine W.loop (α := Nat) (fun t a ls H locs => a + t = n ∧ lv_has ls 7 [(6, .int (nI a)), (0, .ref (ad 12)), (1, .long lo), (3, .long hi), (5, .int (nI n))] ∧ va_P D cl (gw ad (en ad cI cZ cT cJ pi dr (sr S 6 (fil (S 6) (pbyt lo hi) a)) M o) 25) H ∧ va_S (gA base) s.heap H locs) ?_ (t := n) (a := 0) ⟨by omega, hl, hP, hS⟩
  clear hl hP hS
  intro t a ls H locs hI ih
  obtain ⟨i0, hl, hP, hS⟩ := hI
  try dsimp only at i0 hl hP
  by_cases ht : t = 0
  · have ha : a = n := by omega
    subst ha
    refine lv_iload hx hb dQ_become_3 (lv_at hl 0 rfl) ?_
    refine lv_iload hx hb dQ_become_5 (lv_at hl 4 rfl) ?_
    refine lv_icmp_ge (tgt := 48) hx hb dQ_become_7 (by decide) (fun _ => ?_) (fun hc => absurd (by rw [nI_leI (by omega) (by omega)]; omega) hc)
    refine lv_aload_n hx hb dQ_become_48 rfl (lv_at hl 1 rfl) ?_
    refine lv_iload hx hb dQ_become_49 (lv_at hl 4 rfl) ?_
    refine g_put F hK G hP hS (12) (by decide) rfl rfl iQ tQ tQ_ok nQ 1 (by decide) k1_48 rfl (ty := .int) (by decide +kernel) rfl rfl (Nat.le_of_ble_eq_true rfl) dQ_become_51 (fun H locs hP hS => ?_)
    have hP := P_of hP (en_qs _ _ _ _ _ _ _ _ _ _ _)
    rw [sr_n (show (7 : Nat) ≠ 6 by decide)] at hP
    exact W.vret hx hb hr (fun t ht hW => ⟨rfl, ⟨_, rfl, by rw [ht]; exact hP⟩, hS.F ht⟩) hS.2.2 dQ_become_54
  · refine lv_iload hx hb dQ_become_3 (lv_at hl 0 rfl) ?_
    refine lv_iload hx hb dQ_become_5 (lv_at hl 4 rfl) ?_
    refine lv_icmp_ge (tgt := 48) hx hb dQ_become_7 (by decide) (fun hc => absurd hc (by rw [nI_leI (by omega) (by omega)]; omega)) (fun _ => ?_)
    refine lv_aload_n hx hb dQ_become_10 rfl (lv_at hl 1 rfl) ?_
    refine g_get F hK hP (12) (by decide) rfl rfl iQ 0 (by decide) k1_47 rfl dQ_become_11 ?_
    refine lv_iload hx hb dQ_become_14 (lv_at hl 0 rfl) ?_
    refine lv_iload hx hb dQ_become_16 (lv_at hl 0 rfl) ?_
    refine lv_bipush (v := 8) hx hb dQ_become_18 (by decide) ?_
    refine lv_icmp_ge (tgt := 32) hx hb dQ_become_20 (by decide) (fun hc => ?_) (fun hc => ?_)
    · rw [show (8 : Int32) = nI 8 from rfl, nI_leI (by omega) (by omega)] at hc
      refine lv_lload_n hx hb dQ_become_32 rfl (lv_at hl 3 rfl) ?_
      refine lv_iload hx hb dQ_become_33 (lv_at hl 0 rfl) ?_
      refine lv_bipush (v := 8) hx hb dQ_become_35 (by decide) ?_
      refine lv_isub hx hb dQ_become_37 ?_
      rw [show (8 : Int32) = nI 8 from rfl, pk_sub hc]
      refine g_SN (k := 2) F htw hB hS hP (c_P_byteOf hi (k := a - 8) (by omega)) (List.mem_of_getElem? (i := 3) rfl) k1_193 k1_1 k1_194 (by decide +kernel) rfl rfl ⟨Nat.le_of_ble_eq_true rfl, Nat.le_of_ble_eq_true rfl⟩ rfl hl.1 rfl (Nat.le_of_ble_eq_true rfl) dQ_become_38 ⟨Nat.le_of_ble_eq_true rfl, Nat.le_of_ble_eq_true rfl⟩ (fun en1 H locs he hP hS => ?_)
      obtain rfl := he
      rw [show byt hi (a - 8) = pbyt lo hi a from (if_neg (by omega)).symm]
      refine g_iast F hK G hP hS (13) (by decide) 0 rfl rfl (vp_in_nI (show a < 16 by omega) (by omega)) dQ_become_41 (fun H locs hP hS => ?_)
      rw [nI_clamp (show a < 2 ^ 31 by omega)] at hP
      have hP := P_of hP (en_qb _ _ _ _ _ _ _ _ _ _ _)
      rw [sr_sr, sr_s, fil_s] at hP
      refine lv_iinc (k := 0) hx hb dQ_become_42 hl rfl rfl (by decide) rfl (fun ls hl => ?_)
      have hl : lv_has ls 7 [(6, .int _), (0, .ref _), (1, .long _), (3, .long _), (5, .int _)] := hl
      refine lv_goto (tgt := 3) hx hb dQ_become_45 (by decide) ?_
      have hl : lv_has ls 7 [(6, .int (nI (a + 1))), (0, .ref (ad 12)), (1, .long lo), (3, .long hi), (5, .int (nI n))] := by rw [← nI_1]; exact hl
      exact ih (t - 1) (a + 1) _ _ _ (by omega) ⟨by omega, hl, hP, hS⟩
    · rw [show (8 : Int32) = nI 8 from rfl, nI_leI (by omega) (by omega)] at hc
      refine lv_lload_n hx hb dQ_become_23 rfl (lv_at hl 2 rfl) ?_
      refine lv_iload hx hb dQ_become_24 (lv_at hl 0 rfl) ?_
      refine g_SN (k := 2) F htw hB hS hP (c_P_byteOf lo (k := a) (by omega)) (List.mem_of_getElem? (i := 3) rfl) k1_193 k1_1 k1_194 (by decide +kernel) rfl rfl ⟨Nat.le_of_ble_eq_true rfl, Nat.le_of_ble_eq_true rfl⟩ rfl hl.1 rfl (Nat.le_of_ble_eq_true rfl) dQ_become_26 ⟨Nat.le_of_ble_eq_true rfl, Nat.le_of_ble_eq_true rfl⟩ (fun en1 H locs he hP hS => ?_)
      obtain rfl := he
      rw [show byt lo a = pbyt lo hi a from (if_pos (by omega)).symm]
      refine lv_goto (tgt := 41) hx hb dQ_become_29 (by decide) ?_
      refine g_iast F hK G hP hS (13) (by decide) 0 rfl rfl (vp_in_nI (show a < 16 by omega) (by omega)) dQ_become_41 (fun H locs hP hS => ?_)
      rw [nI_clamp (show a < 2 ^ 31 by omega)] at hP
      have hP := P_of hP (en_qb _ _ _ _ _ _ _ _ _ _ _)
      rw [sr_sr, sr_s, fil_s] at hP
      refine lv_iinc (k := 0) hx hb dQ_become_42 hl rfl rfl (by decide) rfl (fun ls hl => ?_)
      have hl : lv_has ls 7 [(6, .int _), (0, .ref _), (1, .long _), (3, .long _), (5, .int _)] := hl
      refine lv_goto (tgt := 3) hx hb dQ_become_45 (by decide) ?_
      have hl : lv_has ls 7 [(6, .int (nI (a + 1))), (0, .ref (ad 12)), (1, .long lo), (3, .long hi), (5, .int (nI n))] := by rw [← nI_1]; exact hl
      exact ih (t - 1) (a + 1) _ _ _ (by omega) ⟨by omega, hl, hP, hS⟩
set_option maxHeartbeats 4000000 in
set_option maxRecDepth 100000 in
theorem c_P_nameWithOneMore {e0 : Nat → va_E} {a b : Nat} (ha : a < 2305843009213693951) (hb0 : b < 256) : Met l yP_nameWithOneMore (Cond.code yP_nameWithOneMore bP_nameWithOneMore 9 (some .long) :: tws) { frames := 0, cells := 0, slots := 0, locals := 0 } (gPc (tw D cI cZ cT cJ base) D cl ad 25 base (e0) [.long (lN a), .int (nI b)]) (gQc D cl ad 25 base (some (.long (lN (nm a b)))) (fun e => e = e0)) 0 0 (gA base) := by
  refine Met.ofW (cc := bP_nameWithOneMore) (maxL := 9) (ret := (some .long)) (by decide) rfl ?_
  intro p e s m args below meth c s₁ B hml hv
  obtain ⟨rfl, htw, hB, hP⟩ := hv
  have hx := B.exec
  have hb := B.bytes
  have hr := B.returns
  have hts0 := atoms_spec (ws := Cond.code yP_nameWithOneMore bP_nameWithOneMore 9 (some .long) :: tws) B.pre
  have hts : ∀ w ∈ tws, w.before _ s = true := fun w h => hts0 w (List.mem_cons_of_mem _ h)
  have hown : s.vm.findClass "PairedTexts" = some m.cls := findClass_of_methodNamed B.named
  have hlocks := B.notSynchronized
  have hno := B.noHandlers (hts0 _ List.mem_cons_self)
  have F : CallFix p m c bP_nameWithOneMore 9 s _ tws "PairedTexts" := ⟨hx, hb, hml, hown, hts⟩
  have hK := htw.1
  have hS : va_S (gA base) s.heap s.heap [] := va_S.rf
  have hl := lv_entry ([.long (lN a), .int (nI b)]) (n := 9) (Nat.le_of_ble_eq_true rfl)
  rw [lg_entry_eq]
  generalize (lg_sl ([.long (lN a), .int (nI b)]) ++ List.replicate (9 - (lg_sl ([.long (lN a), .int (nI b)])).length) Slot.unset).toArray = ls at hl ⊢
  have hl : lv_has ls 9 [(0, .long (lN a)), (2, .int (nI b))] := hl
  refine lv_ldc2 (v := 1000003) hx hb hown (hts _ k2_95) dP_nameWithOneMore_0 ?_
  refine lv_lload_n hx hb dP_nameWithOneMore_3 rfl (lv_at hl 0 rfl) ?_
  refine lv_bipush (v := 31) hx hb dP_nameWithOneMore_4 (by decide) ?_
  refine lv_lushr (v := lN (a / 2147483648)) hx hb dP_nameWithOneMore_6 (wb_shr (k := 31) (by omega) (by decide)) ?_
  refine lv_lmul hx hb dP_nameWithOneMore_7 ?_
  rw [show (1000003 : Int64) = lN 1000003 from rfl, lN_mul]
  refine lv_lstore_n hx hb dP_nameWithOneMore_8 rfl hl (by decide) rfl (fun ls hl => ?_)
  have hl : lv_has ls 9 [(3, .long _), (0, .long _), (2, .int _)] := hl
  refine lv_ldc2 (v := 1000003) hx hb hown (hts _ k2_95) dP_nameWithOneMore_9 ?_
  refine lv_lload_n hx hb dP_nameWithOneMore_12 rfl (lv_at hl 1 rfl) ?_
  refine lv_ldc2 (v := 2147483647) hx hb hown (hts _ k2_96) dP_nameWithOneMore_13 ?_
  refine lv_land hx hb dP_nameWithOneMore_16 ?_
  rw [show (2147483647 : Int64) = lN (2 ^ 31 - 1) from rfl, wb_mask (by omega) (by decide)]
  refine lv_lmul hx hb dP_nameWithOneMore_17 ?_
  rw [show (1000003 : Int64) = lN 1000003 from rfl, lN_mul]
  refine lv_lstore hx hb dP_nameWithOneMore_18 hl (by decide) rfl (fun ls hl => ?_)
  have hl : lv_has ls 9 [(5, .long _), (3, .long _), (0, .long _), (2, .int _)] := hl
  refine lv_lload_n hx hb dP_nameWithOneMore_20 rfl (lv_at hl 1 rfl) ?_
  refine lv_bipush (v := 30) hx hb dP_nameWithOneMore_21 (by decide) ?_
  refine lv_lushr (v := lN ((1000003 * (a / 2147483648)) / 1073741824)) hx hb dP_nameWithOneMore_23 (wb_shr (k := 30) (by omega) (by decide)) ?_
  refine lv_lload_n hx hb dP_nameWithOneMore_24 rfl (lv_at hl 1 rfl) ?_
  refine lv_ldc2 (v := 1073741823) hx hb hown (hts _ k2_97) dP_nameWithOneMore_25 ?_
  refine lv_land hx hb dP_nameWithOneMore_28 ?_
  rw [show (1073741823 : Int64) = lN (2 ^ 30 - 1) from rfl, wb_mask (by omega) (by decide)]
  refine lv_bipush (v := 31) hx hb dP_nameWithOneMore_29 (by decide) ?_
  refine lv_lshl (v := lN ((1000003 * (a / 2147483648)) % 1073741824 * 2147483648)) hx hb dP_nameWithOneMore_31 (wb_shl _ (k := 31) (by decide)) ?_
  refine lv_ladd hx hb dP_nameWithOneMore_32 ?_
  rw [lN_add]
  refine lv_lstore hx hb dP_nameWithOneMore_33 hl (by decide) rfl (fun ls hl => ?_)
  have hl : lv_has ls 9 [(7, .long _), (5, .long _), (3, .long _), (0, .long _), (2, .int _)] := hl
  refine lv_lload hx hb dP_nameWithOneMore_35 (lv_at hl 0 rfl) ?_
  refine lv_lload hx hb dP_nameWithOneMore_37 (lv_at hl 1 rfl) ?_
  refine lv_ladd hx hb dP_nameWithOneMore_39 ?_
  rw [lN_add]
  refine lv_iload_n hx hb dP_nameWithOneMore_40 rfl (lv_at hl 4 rfl) ?_
  refine lv_i2l hx hb dP_nameWithOneMore_41 rfl ?_
  rw [nI_l (by omega)]
  refine lv_ladd hx hb dP_nameWithOneMore_42 ?_
  rw [lN_add]
  refine lv_lconst (v := 1) hx hb dP_nameWithOneMore_43 (by decide) ?_
  refine lv_ladd hx hb dP_nameWithOneMore_44 ?_
  rw [lN_1]
  refine lv_ldc2 (v := 2305843009213693951) hx hb hown (hts _ k2_98) dP_nameWithOneMore_45 ?_
  refine lv_lrem hx hb dP_nameWithOneMore_48 (by decide) ?_
  rw [show (2305843009213693951 : Int64) = lN 2305843009213693951 from rfl, pk_lRem (by omega) (by decide) (by decide)]
  have en1 : ((1000003 * (a / 2147483648)) / 1073741824 + (1000003 * (a / 2147483648)) % 1073741824 * 2147483648 + 1000003 * (a % 2 ^ 31) + b + 1) % 2305843009213693951 = nm a b := nm_cls a b
  rw [en1]
  exact W.lret hx hb hr (fun t ht hW => ⟨rfl, ⟨_, rfl, by rw [ht]; exact hP⟩, hS.F ht⟩) hS.2.2 dP_nameWithOneMore_49
end M4
end
section
/-! The calls of the document over numbers: which of them are refused (c_), what they answer (r_), what they leave (x_). -/
def ix (d : Int32) : Nat := d.toNatClampNeg
def dk (d : Int32) : Bool := decide (0 ≤ d.toInt ∧ d.toInt < 4)
def sk (d : Int32) : Bool := decide (0 ≤ d.toInt ∧ d.toInt < 8)
def nn (d : Int32) : Bool := decide (0 ≤ d.toInt)
def rg (f t : Int32) (n : Nat) : Bool := decide (0 ≤ f.toInt ∧ f.toInt ≤ t.toInt ∧ t.toInt ≤ (n : Int))
def inL (i : Int32) (n : Nat) : Bool := decide (0 ≤ i.toInt ∧ i.toInt < (n : Int))
def smL (i n : Int32) (k : Nat) : Bool := decide (0 ≤ i.toInt ∧ i.toInt + n.toInt ≤ (k : Int))
def btw (n : Int32) (a b : Int) : Bool := decide (a ≤ n.toInt ∧ n.toInt ≤ b)
theorem ix_toInt {d : Int32} (h : 0 ≤ d.toInt) : (ix d : Int) = d.toInt := by
  show ((d.toInt.toNat : Nat) : Int) = d.toInt
  omega
theorem ix_nI {k : Nat} (h : k < 2 ^ 31) : ix (nI k) = k := nI_clamp h
theorem nI_ix {d : Int32} (h : 0 ≤ d.toInt) : d = nI (ix d) := by
  obtain ⟨j, hj, rfl⟩ := nI_of (x := d) (by rw [Int32.lt_iff_toInt_lt]; have : (0 : Int32).toInt = 0 := rfl; omega)
  rw [ix_nI hj]
theorem dk_nI {k : Nat} (h : k < 4) : dk (nI k) = true := by
  have := nI_toInt (show k < 2 ^ 31 by omega)
  unfold dk; simp only [decide_eq_true_eq]; omega
theorem sk_nI {k : Nat} (h : k < 8) : sk (nI k) = true := by
  have := nI_toInt (show k < 2 ^ 31 by omega)
  unfold sk; simp only [decide_eq_true_eq]; omega
theorem nn_nI {k : Nat} (h : k < 2 ^ 31) : nn (nI k) = true := by
  have := nI_toInt h
  unfold nn; simp only [decide_eq_true_eq]; omega
theorem dk_or (d : Int32) : (dk d = false ∧ (d.toInt < 0 ∨ 4 ≤ d.toInt)) ∨ ∃ k, k < 4 ∧ d = nI k := by
  by_cases h : 0 ≤ d.toInt ∧ d.toInt < 4
  · exact Or.inr ⟨ix d, by have := ix_toInt h.1; omega, nI_ix h.1⟩
  · exact Or.inl ⟨by unfold dk; simp only [decide_eq_false_iff_not]; exact h, by omega⟩
theorem sk_or (d : Int32) : (sk d = false ∧ (d.toInt < 0 ∨ 8 ≤ d.toInt)) ∨ ∃ k, k < 8 ∧ d = nI k := by
  by_cases h : 0 ≤ d.toInt ∧ d.toInt < 8
  · exact Or.inr ⟨ix d, by have := ix_toInt h.1; omega, nI_ix h.1⟩
  · exact Or.inl ⟨by unfold sk; simp only [decide_eq_false_iff_not]; exact h, by omega⟩
theorem nn_or (d : Int32) : (nn d = false ∧ d.toInt < 0) ∨ ∃ k, k < 2 ^ 31 ∧ d = nI k := by
  by_cases h : 0 ≤ d.toInt
  · refine Or.inr ⟨ix d, ?_, nI_ix h⟩
    have := ix_toInt h
    have := Int32.toInt_lt d
    omega
  · exact Or.inl ⟨by unfold nn; simp only [decide_eq_false_iff_not]; exact h, by omega⟩
theorem rg_or (f t : Int32) {n : Nat} (hn : n ≤ 1000) : rg f t n = false ∨ ∃ f' t', f' ≤ t' ∧ t' ≤ n ∧ f = nI f' ∧ t = nI t' := by
  by_cases h : 0 ≤ f.toInt ∧ f.toInt ≤ t.toInt ∧ t.toInt ≤ (n : Int)
  · have h1 := ix_toInt h.1
    have h2 := ix_toInt (show 0 ≤ t.toInt by omega)
    exact Or.inr ⟨ix f, ix t, by omega, by omega, nI_ix h.1, nI_ix (by omega)⟩
  · exact Or.inl (by unfold rg; simp only [decide_eq_false_iff_not]; exact h)
theorem rg_nI {f t n : Nat} (h : f ≤ t) (h2 : t ≤ n) (hn : n ≤ 1000) : rg (nI f) (nI t) n = true := by
  have := nI_toInt (show f < 2 ^ 31 by omega)
  have := nI_toInt (show t < 2 ^ 31 by omega)
  unfold rg; simp only [decide_eq_true_eq]; omega
theorem rgL_rg (f t : Int32) (n : Nat) : rgL f t.toInt64 n = rg f t n := by
  unfold rgL rg
  rw [Int32.toInt_toInt64]
theorem pc_or (i : Int32) {n : Nat} (hn : n ≤ 1000) : pcL i n = false ∨ ∃ j, j ≤ n ∧ i = nI j := by
  by_cases h : 0 ≤ i.toInt ∧ i.toInt ≤ (n : Int)
  · have h1 := ix_toInt h.1
    exact Or.inr ⟨ix i, by omega, nI_ix h.1⟩
  · exact Or.inl (by unfold pcL; simp only [decide_eq_false_iff_not]; exact h)
theorem pc_nI {j n : Nat} (h : j ≤ n) (hn : n ≤ 1000) : pcL (nI j) n = true := by
  have := nI_toInt (show j < 2 ^ 31 by omega)
  unfold pcL; simp only [decide_eq_true_eq]; omega
theorem in_or (i : Int32) {n : Nat} (hn : n ≤ 1000) : (inL i n = false ∧ (i.toInt < 0 ∨ (n : Int) ≤ i.toInt)) ∨ ∃ j, j < n ∧ i = nI j := by
  by_cases h : 0 ≤ i.toInt ∧ i.toInt < (n : Int)
  · have h1 := ix_toInt h.1
    exact Or.inr ⟨ix i, by omega, nI_ix h.1⟩
  · exact Or.inl ⟨by unfold inL; simp only [decide_eq_false_iff_not]; exact h, by omega⟩
theorem in_nI {j n : Nat} (h : j < n) (hn : n ≤ 1000) : inL (nI j) n = true := by
  have := nI_toInt (show j < 2 ^ 31 by omega)
  unfold inL; simp only [decide_eq_true_eq]; omega
theorem bt_or (n : Int32) (b : Nat) : (btw n 1 b = false ∧ (n.toInt < 1 ∨ (b : Int) < n.toInt)) ∨ ∃ j, 1 ≤ j ∧ j ≤ b ∧ n = nI j := by
  by_cases h : 1 ≤ n.toInt ∧ n.toInt ≤ (b : Int)
  · have h1 := ix_toInt (show 0 ≤ n.toInt by omega)
    exact Or.inr ⟨ix n, by omega, by omega, nI_ix (by omega)⟩
  · exact Or.inl ⟨by unfold btw; simp only [decide_eq_false_iff_not]; exact h, by omega⟩
theorem bt_nI {j b : Nat} (h : 1 ≤ j) (h2 : j ≤ b) (hb : b < 2 ^ 31) : btw (nI j) 1 b = true := by
  have := nI_toInt (show j < 2 ^ 31 by omega)
  unfold btw; simp only [decide_eq_true_eq]; omega
/-- the calls -/
def c_write (a : Ab) (d n : Int32) : Nat := if dk d && btw n 1 8 then (if a_n a (ix d) + ix n ≤ 1000 then 0 else 2) else 1
def x_write (a : Ab) (d : Int32) (v : Int64) (n : Int32) : Ab := a_set a (ix d) (a_n a (ix d) + ix n) (cat (a_b a (ix d)) (a_n a (ix d)) (byt v))
def c_length (d : Int32) : Nat := if dk d then 0 else 1
def c_byteAt (a : Ab) (d i : Int32) : Nat := if dk d then (if inL i (a_n a (ix d)) then 0 else 2) else 1
def c_copy (a : Ab) (d f t e : Int32) : Nat := if dk d && dk e then (if rg f t (a_n a (ix d)) then 0 else 2) else 1
def x_copy (a : Ab) (d f t e : Int32) : Ab := a_set a (ix e) (ix t - ix f) (fun i => a_b a (ix d) (ix f + i))
def c_join (a : Ab) (d e g : Int32) : Nat := if dk d && dk e && dk g then (if a_n a (ix d) + a_n a (ix e) ≤ 1000 then 0 else 2) else 1
def x_join (a : Ab) (d e g : Int32) : Ab := a_set a (ix g) (a_n a (ix d) + a_n a (ix e)) (cat (a_b a (ix d)) (a_n a (ix d)) (a_b a (ix e)))
def c_insert (a : Ab) (d p e f t : Int32) : Nat := if dk d && dk e then (if rg f t (a_n a (ix e)) && pcL p (a_n a (ix d)) then (if a_n a (ix d) + (ix t - ix f) ≤ 1000 then 0 else 3) else 2) else 1
def x_insert (a : Ab) (d p e f t : Int32) : Ab := a_set a (ix d) (a_n a (ix d) + (ix t - ix f)) (cat (cat (a_b a (ix d)) (ix p) (fun i => a_b a (ix e) (ix f + i))) (ix p + (ix t - ix f)) (fun i => a_b a (ix d) (ix p + i)))
def c_delete (a : Ab) (d f t : Int32) : Nat := if dk d then (if rg f t (a_n a (ix d)) then 0 else 2) else 1
def x_delete (a : Ab) (d f t : Int32) : Ab := a_set a (ix d) (a_n a (ix d) - (ix t - ix f)) (cat (a_b a (ix d)) (ix f) (fun i => a_b a (ix d) (ix t + i)))
/-- the text without f .. t -/
def rst (b : Nat → Nat) (f w : Nat) : Nat → Nat := fun j => if j < f then b j else b (j + w)
def c_move (a : Ab) (d f t p : Int32) : Nat := if dk d then (if rg f t (a_n a (ix d)) && pcL p (a_n a (ix d) - (ix t - ix f)) then 0 else 2) else 1
def x_move (a : Ab) (d f t p : Int32) : Ab := a_set a (ix d) (a_n a (ix d)) (cat (cat (rst (a_b a (ix d)) (ix f) (ix t - ix f)) (ix p) (fun i => a_b a (ix d) (ix f + i))) (ix p + (ix t - ix f)) (fun i => rst (a_b a (ix d)) (ix f) (ix t - ix f) (ix p + i)))
/-- the w bytes from f on, m times, behind the first k of g -/
def rep (b : Nat → Nat) (f w : Nat) : Nat → (Nat → Nat)
  | 0 => b
  | m + 1 => cat (rep b f w m) (f + m * w) (fun i => b (f + i))
def c_repeat (a : Ab) (d f t m : Int32) : Nat := if dk d && nn m then (if rg f t (a_n a (ix d)) then (if a_n a (ix d) - (ix t - ix f) + ix m * (ix t - ix f) ≤ 1000 then 0 else 3) else 2) else 1
def x_repeat (a : Ab) (d f t m : Int32) : Ab := a_set a (ix d) (a_n a (ix d) - (ix t - ix f) + ix m * (ix t - ix f)) (cat (rep (a_b a (ix d)) (ix f) (ix t - ix f) (if f = t then 0 else ix m)) (ix f + ix m * (ix t - ix f)) (fun i => a_b a (ix d) (ix t + i)))
/-- how much of two pieces is the same -/
def cpr (a : Ab) (d i e j : Nat) : Nat := cpx (fun c => decide (a_b a d (i + c) = a_b a e (j + c))) (min (a_n a d - i) (a_n a e - j)) 0
def c_same (a : Ab) (d i e j n : Int32) : Nat := if dk d && dk e && nn n then (if smL i n (a_n a (ix d)) && smL j n (a_n a (ix e)) then 0 else 2) else 1
def c_prefix (a : Ab) (d i e j : Int32) : Nat := if dk d && dk e then (if pcL i (a_n a (ix d)) && pcL j (a_n a (ix e)) then 0 else 2) else 1
def r_order (a : Ab) (d i e j : Nat) : Int32 := if i + cpr a d i e j = a_n a d ∧ j + cpr a d i e j = a_n a e then 0 else if i + cpr a d i e j = a_n a d then -1 else if j + cpr a d i e j = a_n a e then 1 else if a_b a d (i + cpr a d i e j) < a_b a e (j + cpr a d i e j) then -1 else 1
def c_name (a : Ab) (d f t : Int32) : Nat := if dk d then (if rg f t (a_n a (ix d)) then 0 else 2) else 1
/-- the name of the k bytes from f on -/
def nms (b : Nat → Nat) (f : Nat) : Nat → Nat
  | 0 => 0
  | k + 1 => nm (nms b f k) (b (f + k))
theorem nms_lt (b : Nat → Nat) (f : Nat) : ∀ k, nms b f k < 2305843009213693951
  | 0 => by show (0 : Nat) < 2305843009213693951; decide
  | k + 1 => nm_lt _ _
def c_pattern (n : Int32) : Nat := if btw n 1 16 then 0 else 1
def x_pattern (a : Ab) (lo hi : Int64) (n : Int32) : Ab := (a_n a, a_b a, ix n, pbyt lo hi, a_x a, a_c a)
/-- does the pattern stand at i, and end by e -/
def stB (a : Ab) (d i e : Nat) : Bool := decide (a_p a ≤ e - i) && alb (fun k => decide (a_b a d (i + k) = a_q a k)) (a_p a) 0
def c_count (a : Ab) (d f t : Int32) : Nat := if dk d then (if rg f t (a_n a (ix d)) then (if a_p a = 0 then 3 else 0) else 2) else 1
/-- how often it stands at one of k places from f on, ending by e -/
def cnt (a : Ab) (d f e : Nat) : Nat → Nat
  | 0 => 0
  | k + 1 => cnt a d f e k + (if stB a d (f + k) e then 1 else 0)
def c_find (a : Ab) (d i k : Int32) : Nat := if dk d && nn k then (if pcL i (a_n a (ix d)) then (if a_p a = 0 then 3 else 0) else 2) else 1
/-- the first of u places from i on at which it stands, k of them passed over; -1 else -/
def fnd (a : Ab) (d e : Nat) : Nat → Nat → Nat → Int32
  | 0, _, _ => -1
  | u + 1, i, k => if stB a d i e then (if k = 0 then nI i else fnd a d e u (i + 1) (k - 1)) else fnd a d e u (i + 1) k
def c_lead (s lo hi t : Int32) : Nat := if sk s && sk t && decide (0 ≤ lo.toInt ∧ lo.toInt ≤ hi.toInt ∧ hi.toInt < 256) then 0 else 1
/-- k places from p on become v -/
def fill (g : Nat → Nat) (p v k : Nat) : Nat → Nat := fun q => if p ≤ q ∧ q < p + k then v else g q
def x_lead (a : Ab) (s lo hi t : Int32) : Ab := (a_n a, a_b a, a_p a, a_q a, fill (a_x a) (256 * ix s + ix lo) (ix t) (ix hi + 1 - ix lo), a_c a)
def c_accept (s : Int32) : Nat := if sk s then 0 else 1
def x_accept (a : Ab) (s : Int32) (v : Nat) : Ab := (a_n a, a_b a, a_p a, a_q a, a_x a, fill (a_c a) (ix s) v 1)
def c_run (a : Ab) (d f t s : Int32) : Nat := if dk d && sk s then (if rg f t (a_n a (ix d)) then 0 else 2) else 1
/-- the state behind k bytes from f on -/
def rns (a : Ab) (d f s : Nat) : Nat → Nat
  | 0 => s
  | k + 1 => a_x a (256 * rns a d f s k + a_b a d (f + k))
/-- how many of the beginnings, up to k bytes, are accepted -/
def acs (a : Ab) (d f s : Nat) : Nat → Nat
  | 0 => a_c a s
  | k + 1 => acs a d f s k + a_c a (rns a d f s (k + 1))
theorem rns_lt {a : Ab} (h : a_ok a) {d f s : Nat} (hd : d < 4) (hs : s < 8) : ∀ k, f + k ≤ a_n a d → rns a d f s k < 8
  | 0, _ => hs
  | k + 1, hk => by
    have h1 : rns a d f s k < 8 := rns_lt h hd hs k (by omega)
    have h2 := h.2.1 d (f + k) hd (by omega)
    exact h.2.2.2.2.1 _ (by omega)
end
section
/-! The class's small methods, in the document's words. -/
theorem gQ_imp {l : Launch} {y : MethodName} {ws : List Cond} {rm : Room} {Pc : Array Value → State → Prop} {D : va_G} {ad : Nat → Nat} {n base mc ms : Nat} {r r' : Option Value} {Post Post' : (Nat → va_E) → Prop} {free : Addr → Prop} (h : Met l y ws rm Pc (gQc D cl ad n base r Post) mc ms free) (hr : r = r') (hp : ∀ e, Post e → Post' e) : Met l y ws rm Pc (gQc D cl ad n base r' Post') mc ms free := by
  subst hr
  intro p e h1 h2 h3 s m args below h4 h5 h6 h7
  obtain ⟨k, oc, g1, g2, g3, ⟨g4, ⟨en', g5, g6⟩, g7⟩, g8⟩ := h p e h1 h2 h3 s m args below h4 h5 h6 h7
  exact ⟨k, oc, g1, g2, g3, ⟨g4, ⟨en', hp _ g5, g6⟩, g7⟩, g8⟩
section M5
variable {l : Launch} {D : va_G} {cI cZ cT cJ : ClassId} {base : Nat} {ad : Nat → Nat} {pi : Nat → Nat} {dr : Nat} {S M : Nat → Nat → Int32} {o : Nat → Int64} {a : Ab}
theorem c_clr (G : gGeo ad 25 base) (hC : RepC pi dr S a) (g : Nat → Nat) : Met l yT_clear (Cond.code yT_clear bT_clear 1 none :: tws) { frames := 0, cells := 0, slots := 0, locals := 0 } (gPc (tw D cI cZ cT cJ base) D cl ad 25 base (en ad cI cZ cT cJ pi dr S M o) [.ref (ad (2 + 2 * dr))]) (gQc D cl ad 25 base none (fun e => ∃ S1 : Nat → Nat → Int32, e = en ad cI cZ cT cJ pi dr S1 M o ∧ RepC pi dr S1 a ∧ RepD dr S1 0 g)) 0 0 (gA base) :=
  gQ_imp (c_T_clear G hC.2.1) rfl (fun e he => ⟨_, he, RepD.clear hC g⟩)
theorem c_addR (G : gGeo ad 25 base) (hC : RepC pi dr S a) {k f t d : Nat} {g : Nat → Nat} (hD : RepD dr S k g) (hd : d < 4) (hft : f ≤ t) (ht : t ≤ a_n a d) (h1 : a_n a d ≤ 1000) (hk : k + (t - f) ≤ 1000) : Met l yT_addRange (Cond.code yT_addRange bT_addRange 4 none :: tws) { frames := 1, cells := 0, slots := 0, locals := 26 } (gPc (tw D cI cZ cT cJ base) D cl ad 25 base (en ad cI cZ cT cJ pi dr S M o) [.ref (ad (2 + 2 * dr)), .ref (ad (2 + 2 * pi d)), .int (nI f), .int (nI t)]) (gQc D cl ad 25 base none (fun e => ∃ S1 : Nat → Nat → Int32, e = en ad cI cZ cT cJ pi dr S1 M o ∧ RepC pi dr S1 a ∧ RepD dr S1 (k + (t - f)) (cat g k (fun i => a_b a d (f + i))))) 0 0 (gA base) :=
  gQ_imp (c_T_addRange G hC.2.1 (hC.1 d hd).1 hft (by omega) hk hD.1) rfl (fun e he => ⟨_, he, RepD.add hC hD hd (by omega)⟩)
theorem c_swap (G : gGeo ad 25 base) (hC : RepC pi dr S a) {k n : Nat} {g : Nat → Nat} (hD : RepD dr S n g) (hk : k < 4) : Met l yP_draftBecomesTextOf (Cond.code yP_draftBecomesTextOf bP_draftBecomesTextOf 3 (some .int) :: tws) { frames := 0, cells := 0, slots := 0, locals := 0 } (gPc (tw D cI cZ cT cJ base) D cl ad 25 base (en ad cI cZ cT cJ pi dr S M o) [.ref (ad 0), .int (nI k)]) (gQc D cl ad 25 base (some (.int (nI n))) (fun e => ∃ (pi1 : Nat → Nat) (dr1 : Nat) (S1 : Nat → Nat → Int32), e = en ad cI cZ cT cJ pi1 dr1 S1 M o ∧ RepC pi1 dr1 S1 (a_set a k n g))) 0 0 (gA base) :=
  gQ_imp (c_P_draftBecomesTextOf G hk (hC.1 k hk).1 hC.2.1) (by rw [hD.1]) (fun e he => ⟨_, _, _, he, hC.swap hD hk⟩)
theorem c_rng (hC : RepC pi dr S a) (ha : a_ok a) {d : Nat} (hd : d < 4) (f t : Int32) : Met l yT_hasRange (Cond.code yT_hasRange bT_hasRange 4 (some .boolean) :: tws) { frames := 0, cells := 0, slots := 0, locals := 0 } (gPc (tw D cI cZ cT cJ base) D cl ad 25 base (en ad cI cZ cT cJ pi dr S M o) [.ref (ad (2 + 2 * pi d)), .int f, .long t.toInt64]) (gQc D cl ad 25 base (some (.int (if rg f t (a_n a d) then 1 else 0))) (fun e => e = en ad cI cZ cT cJ pi dr S M o)) 0 0 (gA base) :=
  gQ_imp (c_T_hasRange (hC.1 d hd).1 (ha.1 d hd) (hC.2.2.2.1 d hd) f t.toInt64) (by rw [rgL_rg]) (fun e he => he)
theorem c_pce (hC : RepC pi dr S a) (ha : a_ok a) {d : Nat} (hd : d < 4) (f : Int32) : Met l yT_hasPiece (Cond.code yT_hasPiece bT_hasPiece 2 (some .boolean) :: tws) { frames := 0, cells := 0, slots := 0, locals := 0 } (gPc (tw D cI cZ cT cJ base) D cl ad 25 base (en ad cI cZ cT cJ pi dr S M o) [.ref (ad (2 + 2 * pi d)), .int f]) (gQc D cl ad 25 base (some (.int (if pcL f (a_n a d) then 1 else 0))) (fun e => e = en ad cI cZ cT cJ pi dr S M o)) 0 0 (gA base) :=
  c_T_hasPiece (hC.1 d hd).1 (ha.1 d hd) (hC.2.2.2.1 d hd) f
end M5
end
section
/-! The class's calls: length, byteAt, copy, join, delete, insert. -/
section M6
variable {l : Launch} {D : va_G} {cI cZ cT cJ : ClassId} {base : Nat} {ad : Nat → Nat} {pi : Nat → Nat} {dr : Nat} {S M : Nat → Nat → Int32} {o : Nat → Int64} {a : Ab}
set_option maxHeartbeats 4000000 in
set_option maxRecDepth 100000 in
theorem c_P_length (hst : l.stackTraces = false) (G : gGeo ad 25 base) (ha : a_ok a) (hC : RepC pi dr S a) (d : Int32) : MetX l yP_length (Cond.code yP_length bP_length 2 (some .int) :: tws) { frames := 8, cells := 1, slots := 6, locals := 123 } (gPc (tw D cI cZ cT cJ base) D cl ad 25 base (en ad cI cZ cT cJ pi dr S M o) [.ref (ad 0), .int d]) (gQx D cl ad 25 base (en ad cI cZ cT cJ pi dr S M o) ["java/lang/IllegalArgumentException"] (c_length d) (some (.int (nI (a_n a (ix d))))) (fun e => ∃ (pi1 : Nat → Nat) (dr1 : Nat) (S1 : Nat → Nat → Int32), e = en ad cI cZ cT cJ pi1 dr1 S1 M o ∧ RepC pi1 dr1 S1 (a))) 1 6 (gA base) := by
  refine MetX.ofW (cc := bP_length) (maxL := 2) (ret := (some .int)) (by decide) rfl ?_
  intro p e s m args below meth c s₁ B hml hv
  obtain ⟨rfl, htw, hB, hP⟩ := hv
  have hx := B.exec
  have hb := B.bytes
  have hr := B.returns
  have hts0 := atoms_spec (ws := Cond.code yP_length bP_length 2 (some .int) :: tws) B.pre
  have hts : ∀ w ∈ tws, w.before _ s = true := fun w h => hts0 w (List.mem_cons_of_mem _ h)
  have hown : s.vm.findClass "PairedTexts" = some m.cls := findClass_of_methodNamed B.named
  have hlocks := B.notSynchronized
  have hno := B.noHandlers (hts0 _ List.mem_cons_self)
  have F : CallFix p m c bP_length 2 s _ tws "PairedTexts" := ⟨hx, hb, hml, hown, hts⟩
  have hK := htw.1
  have hS : va_S (gA base) s.heap s.heap [] := va_S.rf
  have hl := lv_entry ([.ref (ad 0), .int d]) (n := 2) (Nat.le_of_ble_eq_true rfl)
  rw [lg_entry_eq]
  generalize (lg_sl ([.ref (ad 0), .int d]) ++ List.replicate (2 - (lg_sl ([.ref (ad 0), .int d])).length) Slot.unset).toArray = ls at hl ⊢
  have hl : lv_has ls 2 [(0, .ref (ad 0)), (1, .int d)] := hl
  have hdr := hC.2.1
  refine lv_aload_n hx hb dP_length_0 rfl (lv_at hl 0 rfl) ?_
  refine lv_iload_n hx hb dP_length_1 rfl (lv_at hl 1 rfl) ?_
  rcases dk_or d with hd | ⟨k, hk, rfl⟩
  · have hk1 : (c_length d) = 1 := by simp [c_length, hd.1]
    exact g_VTh (k := 1) F hlocks hno htw hB hS hP (0) (by decide) rfl rfl (c_P_textOf_th hst hd.2) k1_92 k1_94 k0_0 k1_1 k1_95 (by decide +kernel) rfl rfl ⟨Nat.le_of_ble_eq_true rfl, Nat.le_of_ble_eq_true rfl⟩ rfl hl.1 rfl (Nat.le_of_ble_eq_true rfl) dP_length_2 ⟨Nat.le_of_ble_eq_true rfl, Nat.le_of_ble_eq_true rfl⟩ (by rw [hk1]; decide) (by rw [hk1]; rfl)
  refine g_V (k := 1) F htw hB hS hP (0) (by decide) rfl rfl (c_P_textOf hk) k1_92 k1_94 k0_0 k1_1 k1_95 (by decide +kernel) rfl rfl ⟨Nat.le_of_ble_eq_true rfl, Nat.le_of_ble_eq_true rfl⟩ rfl hl.1 rfl (Nat.le_of_ble_eq_true rfl) dP_length_2 ⟨Nat.le_of_ble_eq_true rfl, Nat.le_of_ble_eq_true rfl⟩ (fun en1 H locs he hP hS => ?_)
  obtain rfl := he
  have hp_k := (hC.1 k hk).1
  have hn_k := ha.1 k hk
  have h5_k := hC.2.2.2.1 k hk
  refine g_get F hK hP (2 + 2 * pi k) (by omega) (en_T _ _ _ _ _ _ _ _ _ _ hp_k) rfl iT 1 (by decide) k1_34 rfl dP_length_5 ?_
  rw [h5_k]
  have hk1 : (c_length (nI k)) = 0 := by simp [c_length, dk_nI hk, ix_nI (show k < 2 ^ 31 by omega)]
  refine W.widen (k := 1) (n := 6) (by decide) (by decide) ?_
  exact W.toX (W.iret hx hb hr (fun t ht hW => Or.inl ⟨hk1, ⟨by simp [dk_nI hk, ix_nI (show k < 2 ^ 31 by omega)], ⟨_, ⟨_, _, _, rfl, hC⟩, by rw [ht]; exact hP⟩, hS.F ht⟩⟩) hS.2.2 dP_length_8)
set_option maxHeartbeats 4000000 in
set_option maxRecDepth 100000 in
theorem c_P_byteAt (hst : l.stackTraces = false) (G : gGeo ad 25 base) (ha : a_ok a) (hC : RepC pi dr S a) (d i : Int32) : MetX l yP_byteAt (Cond.code yP_byteAt bP_byteAt 4 (some .int) :: tws) { frames := 8, cells := 1, slots := 6, locals := 123 } (gPc (tw D cI cZ cT cJ base) D cl ad 25 base (en ad cI cZ cT cJ pi dr S M o) [.ref (ad 0), .int d, .int i]) (gQx D cl ad 25 base (en ad cI cZ cT cJ pi dr S M o) ["java/lang/IllegalArgumentException", "java/lang/IndexOutOfBoundsException"] (c_byteAt a d i) (some (.int (nI (a_b a (ix d) (ix i))))) (fun e => ∃ (pi1 : Nat → Nat) (dr1 : Nat) (S1 : Nat → Nat → Int32), e = en ad cI cZ cT cJ pi1 dr1 S1 M o ∧ RepC pi1 dr1 S1 (a))) 1 6 (gA base) := by
  refine MetX.ofW (cc := bP_byteAt) (maxL := 4) (ret := (some .int)) (by decide) rfl ?_
  intro p e s m args below meth c s₁ B hml hv
  obtain ⟨rfl, htw, hB, hP⟩ := hv
  have hx := B.exec
  have hb := B.bytes
  have hr := B.returns
  have hts0 := atoms_spec (ws := Cond.code yP_byteAt bP_byteAt 4 (some .int) :: tws) B.pre
  have hts : ∀ w ∈ tws, w.before _ s = true := fun w h => hts0 w (List.mem_cons_of_mem _ h)
  have hown : s.vm.findClass "PairedTexts" = some m.cls := findClass_of_methodNamed B.named
  have hlocks := B.notSynchronized
  have hno := B.noHandlers (hts0 _ List.mem_cons_self)
  have F : CallFix p m c bP_byteAt 4 s _ tws "PairedTexts" := ⟨hx, hb, hml, hown, hts⟩
  have hK := htw.1
  have hS : va_S (gA base) s.heap s.heap [] := va_S.rf
  have hl := lv_entry ([.ref (ad 0), .int d, .int i]) (n := 4) (Nat.le_of_ble_eq_true rfl)
  rw [lg_entry_eq]
  generalize (lg_sl ([.ref (ad 0), .int d, .int i]) ++ List.replicate (4 - (lg_sl ([.ref (ad 0), .int d, .int i])).length) Slot.unset).toArray = ls at hl ⊢
  have hl : lv_has ls 4 [(0, .ref (ad 0)), (1, .int d), (2, .int i)] := hl
  have hdr := hC.2.1
  have z0 : (0 : Int32).toInt = 0 := rfl
  refine lv_aload_n hx hb dP_byteAt_0 rfl (lv_at hl 0 rfl) ?_
  refine lv_iload_n hx hb dP_byteAt_1 rfl (lv_at hl 1 rfl) ?_
  rcases dk_or d with hd | ⟨k, hk, rfl⟩
  · have hk1 : (c_byteAt a d i) = 1 := by simp [c_byteAt, hd.1]
    exact g_VTh (k := 1) F hlocks hno htw hB hS hP (0) (by decide) rfl rfl (c_P_textOf_th hst hd.2) k1_92 k1_94 k0_0 k1_1 k1_95 (by decide +kernel) rfl rfl ⟨Nat.le_of_ble_eq_true rfl, Nat.le_of_ble_eq_true rfl⟩ rfl hl.1 rfl (Nat.le_of_ble_eq_true rfl) dP_byteAt_2 ⟨Nat.le_of_ble_eq_true rfl, Nat.le_of_ble_eq_true rfl⟩ (by rw [hk1]; decide) (by rw [hk1]; rfl)
  refine g_V (k := 1) F htw hB hS hP (0) (by decide) rfl rfl (c_P_textOf hk) k1_92 k1_94 k0_0 k1_1 k1_95 (by decide +kernel) rfl rfl ⟨Nat.le_of_ble_eq_true rfl, Nat.le_of_ble_eq_true rfl⟩ rfl hl.1 rfl (Nat.le_of_ble_eq_true rfl) dP_byteAt_2 ⟨Nat.le_of_ble_eq_true rfl, Nat.le_of_ble_eq_true rfl⟩ (fun en1 H locs he hP hS => ?_)
  obtain rfl := he
  have hp_k := (hC.1 k hk).1
  have hn_k := ha.1 k hk
  have h5_k := hC.2.2.2.1 k hk
  refine lv_astore_n hx hb dP_byteAt_5 rfl hl (by decide) rfl (fun ls hl => ?_)
  have hl : lv_has ls 4 [(3, .ref _), (0, .ref _), (1, .int _), (2, .int _)] := hl
  refine lv_iload_n hx hb dP_byteAt_6 rfl (lv_at hl 3 rfl) ?_
  have zn := nI_toInt (show a_n a k < 2 ^ 31 by omega)
  rcases in_or i hn_k with hr | ⟨j, hj, rfl⟩
  · have hk1 : (c_byteAt a (nI k) i) = 2 := by simp [c_byteAt, dk_nI hk, ix_nI (show k < 2 ^ 31 by omega), hr.1]
    refine lv_if_lt (tgt := 22) hx hb dP_byteAt_7 (by decide) (fun hc => ?_) (fun hc => ?_)
    · refine lv_iconst (v := 0) hx hb dP_byteAt_22 (by decide) ?_
      exact g_STh (k := 1) F hlocks hno htw hB hS hP (c_P_requireInside_th hst) k1_214 k1_215 k1_1 k1_216 (by decide +kernel) rfl rfl ⟨Nat.le_of_ble_eq_true rfl, Nat.le_of_ble_eq_true rfl⟩ rfl hl.1 rfl (Nat.le_of_ble_eq_true rfl) dP_byteAt_23 ⟨Nat.le_of_ble_eq_true rfl, Nat.le_of_ble_eq_true rfl⟩ (by rw [hk1]; decide) (by rw [hk1]; rfl)
    · rw [Int32.lt_iff_toInt_lt] at hc
      refine lv_iload_n hx hb dP_byteAt_10 rfl (lv_at hl 3 rfl) ?_
      refine lv_aload_n hx hb dP_byteAt_11 rfl (lv_at hl 0 rfl) ?_
      refine g_get F hK hP (2 + 2 * pi k) (by omega) (en_T _ _ _ _ _ _ _ _ _ _ hp_k) rfl iT 1 (by decide) k1_34 rfl dP_byteAt_12 ?_
      refine lv_icmp_ge (tgt := 22) hx hb dP_byteAt_15 (by decide) (fun _ => ?_) (fun hc => absurd (by rw [Int32.le_iff_toInt_le, h5_k]; omega) hc)
      refine lv_iconst (v := 0) hx hb dP_byteAt_22 (by decide) ?_
      exact g_STh (k := 1) F hlocks hno htw hB hS hP (c_P_requireInside_th hst) k1_214 k1_215 k1_1 k1_216 (by decide +kernel) rfl rfl ⟨Nat.le_of_ble_eq_true rfl, Nat.le_of_ble_eq_true rfl⟩ rfl hl.1 rfl (Nat.le_of_ble_eq_true rfl) dP_byteAt_23 ⟨Nat.le_of_ble_eq_true rfl, Nat.le_of_ble_eq_true rfl⟩ (by rw [hk1]; decide) (by rw [hk1]; rfl)
  have zj := nI_toInt (show j < 2 ^ 31 by omega)
  refine lv_if_lt (tgt := 22) hx hb dP_byteAt_7 (by decide) (fun hc => absurd hc (by rw [Int32.lt_iff_toInt_lt]; omega)) (fun _ => ?_)
  refine lv_iload_n hx hb dP_byteAt_10 rfl (lv_at hl 3 rfl) ?_
  refine lv_aload_n hx hb dP_byteAt_11 rfl (lv_at hl 0 rfl) ?_
  refine g_get F hK hP (2 + 2 * pi k) (by omega) (en_T _ _ _ _ _ _ _ _ _ _ hp_k) rfl iT 1 (by decide) k1_34 rfl dP_byteAt_12 ?_
  refine lv_icmp_ge (tgt := 22) hx hb dP_byteAt_15 (by decide) (fun hc => absurd hc (by rw [Int32.le_iff_toInt_le, h5_k]; omega)) (fun _ => ?_)
  refine lv_iconst (v := 1) hx hb dP_byteAt_18 (by decide) ?_
  refine lv_goto (tgt := 23) hx hb dP_byteAt_19 (by decide) ?_
  refine g_S (k := 1) F htw hB hS hP (c_P_requireInside) k1_214 k1_215 k1_1 k1_216 (by decide +kernel) rfl rfl ⟨Nat.le_of_ble_eq_true rfl, Nat.le_of_ble_eq_true rfl⟩ rfl hl.1 rfl (Nat.le_of_ble_eq_true rfl) dP_byteAt_23 ⟨Nat.le_of_ble_eq_true rfl, Nat.le_of_ble_eq_true rfl⟩ (fun en1 H locs he hP hS => ?_)
  obtain rfl := he
  refine lv_aload_n hx hb dP_byteAt_26 rfl (lv_at hl 0 rfl) ?_
  refine g_get F hK hP (2 + 2 * pi k) (by omega) (en_T _ _ _ _ _ _ _ _ _ _ hp_k) rfl iT 0 (by decide) k1_32 rfl dP_byteAt_27 ?_
  refine lv_iload_n hx hb dP_byteAt_30 rfl (lv_at hl 3 rfl) ?_
  refine g_iald F hK hP (3 + 2 * pi k) (by omega) 0 (en_B _ _ _ _ _ _ _ _ _ _ hp_k) rfl (vp_in_nI (show j < 1000 by omega) (by omega)) dP_byteAt_31 ?_
  rw [nI_clamp (show j < 2 ^ 31 by omega), hC.2.2.2.2.1 k j hk hj]
  have hk1 : (c_byteAt a (nI k) (nI j)) = 0 := by simp [c_byteAt, dk_nI hk, ix_nI (show k < 2 ^ 31 by omega), in_nI hj hn_k, ix_nI (show j < 2 ^ 31 by omega)]
  refine W.widen (k := 1) (n := 6) (by decide) (by decide) ?_
  exact W.toX (W.iret hx hb hr (fun t ht hW => Or.inl ⟨hk1, ⟨by simp [dk_nI hk, ix_nI (show k < 2 ^ 31 by omega), in_nI hj hn_k, ix_nI (show j < 2 ^ 31 by omega)], ⟨_, ⟨_, _, _, rfl, hC⟩, by rw [ht]; exact hP⟩, hS.F ht⟩⟩) hS.2.2 dP_byteAt_32)
set_option maxHeartbeats 4000000 in
set_option maxRecDepth 100000 in
theorem c_P_copy (hst : l.stackTraces = false) (G : gGeo ad 25 base) (ha : a_ok a) (hC : RepC pi dr S a) (d f t d2 : Int32) : MetX l yP_copy (Cond.code yP_copy bP_copy 6 (some .int) :: tws) { frames := 8, cells := 1, slots := 6, locals := 123 } (gPc (tw D cI cZ cT cJ base) D cl ad 25 base (en ad cI cZ cT cJ pi dr S M o) [.ref (ad 0), .int d, .int f, .int t, .int d2]) (gQx D cl ad 25 base (en ad cI cZ cT cJ pi dr S M o) ["java/lang/IllegalArgumentException", "java/lang/IndexOutOfBoundsException"] (c_copy a d f t d2) (some (.int (nI (ix t - ix f)))) (fun e => ∃ (pi1 : Nat → Nat) (dr1 : Nat) (S1 : Nat → Nat → Int32), e = en ad cI cZ cT cJ pi1 dr1 S1 M o ∧ RepC pi1 dr1 S1 (x_copy a d f t d2))) 1 6 (gA base) := by
  refine MetX.ofW (cc := bP_copy) (maxL := 6) (ret := (some .int)) (by decide) rfl ?_
  intro p e s m args below meth c s₁ B hml hv
  obtain ⟨rfl, htw, hB, hP⟩ := hv
  have hx := B.exec
  have hb := B.bytes
  have hr := B.returns
  have hts0 := atoms_spec (ws := Cond.code yP_copy bP_copy 6 (some .int) :: tws) B.pre
  have hts : ∀ w ∈ tws, w.before _ s = true := fun w h => hts0 w (List.mem_cons_of_mem _ h)
  have hown : s.vm.findClass "PairedTexts" = some m.cls := findClass_of_methodNamed B.named
  have hlocks := B.notSynchronized
  have hno := B.noHandlers (hts0 _ List.mem_cons_self)
  have F : CallFix p m c bP_copy 6 s _ tws "PairedTexts" := ⟨hx, hb, hml, hown, hts⟩
  have hK := htw.1
  have hS : va_S (gA base) s.heap s.heap [] := va_S.rf
  have hl := lv_entry ([.ref (ad 0), .int d, .int f, .int t, .int d2]) (n := 6) (Nat.le_of_ble_eq_true rfl)
  rw [lg_entry_eq]
  generalize (lg_sl ([.ref (ad 0), .int d, .int f, .int t, .int d2]) ++ List.replicate (6 - (lg_sl ([.ref (ad 0), .int d, .int f, .int t, .int d2])).length) Slot.unset).toArray = ls at hl ⊢
  have hl : lv_has ls 6 [(0, .ref (ad 0)), (1, .int d), (2, .int f), (3, .int t), (4, .int d2)] := hl
  have hdr := hC.2.1
  refine lv_aload_n hx hb dP_copy_0 rfl (lv_at hl 0 rfl) ?_
  refine lv_iload_n hx hb dP_copy_1 rfl (lv_at hl 1 rfl) ?_
  rcases dk_or d with hd | ⟨k, hk, rfl⟩
  · have hk1 : (c_copy a d f t d2) = 1 := by simp [c_copy, hd.1]
    exact g_VTh (k := 1) F hlocks hno htw hB hS hP (0) (by decide) rfl rfl (c_P_textOf_th hst hd.2) k1_92 k1_94 k0_0 k1_1 k1_95 (by decide +kernel) rfl rfl ⟨Nat.le_of_ble_eq_true rfl, Nat.le_of_ble_eq_true rfl⟩ rfl hl.1 rfl (Nat.le_of_ble_eq_true rfl) dP_copy_2 ⟨Nat.le_of_ble_eq_true rfl, Nat.le_of_ble_eq_true rfl⟩ (by rw [hk1]; decide) (by rw [hk1]; rfl)
  refine g_V (k := 1) F htw hB hS hP (0) (by decide) rfl rfl (c_P_textOf hk) k1_92 k1_94 k0_0 k1_1 k1_95 (by decide +kernel) rfl rfl ⟨Nat.le_of_ble_eq_true rfl, Nat.le_of_ble_eq_true rfl⟩ rfl hl.1 rfl (Nat.le_of_ble_eq_true rfl) dP_copy_2 ⟨Nat.le_of_ble_eq_true rfl, Nat.le_of_ble_eq_true rfl⟩ (fun en1 H locs he hP hS => ?_)
  obtain rfl := he
  have hp_k := (hC.1 k hk).1
  have hn_k := ha.1 k hk
  have h5_k := hC.2.2.2.1 k hk
  refine lv_astore hx hb dP_copy_5 hl (by decide) rfl (fun ls hl => ?_)
  have hl : lv_has ls 6 [(5, .ref _), (0, .ref _), (1, .int _), (2, .int _), (3, .int _), (4, .int _)] := hl
  refine lv_iload hx hb dP_copy_7 (lv_at hl 5 rfl) ?_
  rcases dk_or d2 with hd | ⟨g, hg, rfl⟩
  · have hk1 : (c_copy a (nI k) f t d2) = 1 := by simp [c_copy, dk_nI hk, ix_nI (show k < 2 ^ 31 by omega), hd.1]
    exact g_STh (k := 1) F hlocks hno htw hB hS hP (c_P_requireDocument_th hst hd.2) k1_96 k1_97 k1_1 k1_98 (by decide +kernel) rfl rfl ⟨Nat.le_of_ble_eq_true rfl, Nat.le_of_ble_eq_true rfl⟩ rfl hl.1 rfl (Nat.le_of_ble_eq_true rfl) dP_copy_9 ⟨Nat.le_of_ble_eq_true rfl, Nat.le_of_ble_eq_true rfl⟩ (by rw [hk1]; decide) (by rw [hk1]; rfl)
  refine g_S (k := 1) F htw hB hS hP (c_P_requireDocument (by have := nI_toInt (show g < 2 ^ 31 by omega); omega) (by have := nI_toInt (show g < 2 ^ 31 by omega); omega)) k1_96 k1_97 k1_1 k1_98 (by decide +kernel) rfl rfl ⟨Nat.le_of_ble_eq_true rfl, Nat.le_of_ble_eq_true rfl⟩ rfl hl.1 rfl (Nat.le_of_ble_eq_true rfl) dP_copy_9 ⟨Nat.le_of_ble_eq_true rfl, Nat.le_of_ble_eq_true rfl⟩ (fun en1 H locs he hP hS => ?_)
  obtain rfl := he
  have hp_g := (hC.1 g hg).1
  have hn_g := ha.1 g hg
  have h5_g := hC.2.2.2.1 g hg
  refine lv_aload hx hb dP_copy_12 (lv_at hl 0 rfl) ?_
  refine lv_iload_n hx hb dP_copy_14 rfl (lv_at hl 3 rfl) ?_
  refine lv_iload_n hx hb dP_copy_15 rfl (lv_at hl 4 rfl) ?_
  refine lv_i2l hx hb dP_copy_16 rfl ?_
  refine g_V (k := 2) F htw hB hS hP (2 + 2 * pi k) (by omega) (en_T _ _ _ _ _ _ _ _ _ _ hp_k) rfl (c_rng hC ha hk f t) k2_0 k2_1 k2_2 k1_2 k2_3 (by decide +kernel) rfl rfl ⟨Nat.le_of_ble_eq_true rfl, Nat.le_of_ble_eq_true rfl⟩ rfl hl.1 rfl (Nat.le_of_ble_eq_true rfl) dP_copy_17 ⟨Nat.le_of_ble_eq_true rfl, Nat.le_of_ble_eq_true rfl⟩ (fun en1 H locs he hP hS => ?_)
  obtain rfl := he
  rcases rg_or f t hn_k with hr | ⟨f1, t1, hft, htn, rfl, rfl⟩
  · have hk1 : (c_copy a (nI k) f t (nI g)) = 2 := by simp [c_copy, dk_nI hk, ix_nI (show k < 2 ^ 31 by omega), dk_nI hg, ix_nI (show g < 2 ^ 31 by omega), hr]
    rw [show (if rg f t (a_n a k) then (1 : Int32) else 0) = 0 from by rw [hr]; rfl]
    exact g_STh (k := 1) F hlocks hno htw hB hS hP (c_P_requireInside_th hst) k1_214 k1_215 k1_1 k1_216 (by decide +kernel) rfl rfl ⟨Nat.le_of_ble_eq_true rfl, Nat.le_of_ble_eq_true rfl⟩ rfl hl.1 rfl (Nat.le_of_ble_eq_true rfl) dP_copy_20 ⟨Nat.le_of_ble_eq_true rfl, Nat.le_of_ble_eq_true rfl⟩ (by rw [hk1]; decide) (by rw [hk1]; rfl)
  rw [show (if rg (nI f1) (nI t1) (a_n a k) then (1 : Int32) else 0) = 1 from if_pos (rg_nI hft htn hn_k)]
  refine g_S (k := 1) F htw hB hS hP (c_P_requireInside) k1_214 k1_215 k1_1 k1_216 (by decide +kernel) rfl rfl ⟨Nat.le_of_ble_eq_true rfl, Nat.le_of_ble_eq_true rfl⟩ rfl hl.1 rfl (Nat.le_of_ble_eq_true rfl) dP_copy_20 ⟨Nat.le_of_ble_eq_true rfl, Nat.le_of_ble_eq_true rfl⟩ (fun en1 H locs he hP hS => ?_)
  obtain rfl := he
  refine lv_aload_n hx hb dP_copy_23 rfl (lv_at hl 1 rfl) ?_
  refine g_get F hK hP (0) (by decide) rfl rfl iP 3 (by decide) k1_73 rfl dP_copy_24 ?_
  refine g_V (k := 0) F htw hB hS hP (2 + 2 * dr) (by omega) (en_T _ _ _ _ _ _ _ _ _ _ hdr) rfl (c_clr G hC (fun _ => 0)) k2_4 k2_5 k2_6 k1_2 k2_7 (by decide +kernel) rfl rfl ⟨Nat.le_of_ble_eq_true rfl, Nat.le_of_ble_eq_true rfl⟩ rfl hl.1 rfl (Nat.le_of_ble_eq_true rfl) dP_copy_27 ⟨Nat.le_of_ble_eq_true rfl, Nat.le_of_ble_eq_true rfl⟩ (fun en1 H locs he hP hS => ?_)
  obtain ⟨S, rfl, hC, hDr⟩ := he
  refine lv_aload_n hx hb dP_copy_30 rfl (lv_at hl 1 rfl) ?_
  refine g_get F hK hP (0) (by decide) rfl rfl iP 3 (by decide) k1_73 rfl dP_copy_31 ?_
  refine lv_aload hx hb dP_copy_34 (lv_at hl 0 rfl) ?_
  refine lv_iload_n hx hb dP_copy_36 rfl (lv_at hl 3 rfl) ?_
  refine lv_iload_n hx hb dP_copy_37 rfl (lv_at hl 4 rfl) ?_
  refine g_V (k := 3) F htw hB hS hP (2 + 2 * dr) (by omega) (en_T _ _ _ _ _ _ _ _ _ _ hdr) rfl (c_addR G hC hDr hk (by omega) (by omega) hn_k (by omega)) k2_8 k2_9 k2_10 k1_2 k2_11 (by decide +kernel) rfl rfl ⟨Nat.le_of_ble_eq_true rfl, Nat.le_of_ble_eq_true rfl⟩ rfl hl.1 rfl (Nat.le_of_ble_eq_true rfl) dP_copy_38 ⟨Nat.le_of_ble_eq_true rfl, Nat.le_of_ble_eq_true rfl⟩ (fun en1 H locs he hP hS => ?_)
  obtain ⟨S, rfl, hC, hDr⟩ := he
  refine lv_aload_n hx hb dP_copy_41 rfl (lv_at hl 1 rfl) ?_
  refine lv_iload hx hb dP_copy_42 (lv_at hl 5 rfl) ?_
  refine g_V (k := 1) F htw hB hS hP (0) (by decide) rfl rfl (c_swap G hC hDr hg) k2_15 k2_17 k0_2 k1_1 k2_18 (by decide +kernel) rfl rfl ⟨Nat.le_of_ble_eq_true rfl, Nat.le_of_ble_eq_true rfl⟩ rfl hl.1 rfl (Nat.le_of_ble_eq_true rfl) dP_copy_44 ⟨Nat.le_of_ble_eq_true rfl, Nat.le_of_ble_eq_true rfl⟩ (fun en1 H locs he hP hS => ?_)
  obtain ⟨pi1, dr1, S, rfl, hC⟩ := he
  have hC := hC.to (k' := t1 - f1) (g' := fun i => a_b a k (f1 + i)) (by omega) (fun i _ => by simp [cat])
  rw [Nat.zero_add]
  have hk1 : (c_copy a (nI k) (nI f1) (nI t1) (nI g)) = 0 := by simp [c_copy, dk_nI hk, ix_nI (show k < 2 ^ 31 by omega), dk_nI hg, ix_nI (show g < 2 ^ 31 by omega), rg_nI hft htn hn_k, ix_nI (show f1 < 2 ^ 31 by omega), ix_nI (show t1 < 2 ^ 31 by omega)]
  refine W.widen (k := 1) (n := 6) (by decide) (by decide) ?_
  exact W.toX (W.iret hx hb hr (fun t ht hW => Or.inl ⟨hk1, ⟨by simp [dk_nI hk, ix_nI (show k < 2 ^ 31 by omega), dk_nI hg, ix_nI (show g < 2 ^ 31 by omega), rg_nI hft htn hn_k, ix_nI (show f1 < 2 ^ 31 by omega), ix_nI (show t1 < 2 ^ 31 by omega)], ⟨_, ⟨_, _, _, rfl, by simpa [x_copy, dk_nI hk, ix_nI (show k < 2 ^ 31 by omega), dk_nI hg, ix_nI (show g < 2 ^ 31 by omega), rg_nI hft htn hn_k, ix_nI (show f1 < 2 ^ 31 by omega), ix_nI (show t1 < 2 ^ 31 by omega)] using hC⟩, by rw [ht]; exact hP⟩, hS.F ht⟩⟩) hS.2.2 dP_copy_47)
set_option maxHeartbeats 4000000 in
set_option maxRecDepth 100000 in
theorem c_P_join (hst : l.stackTraces = false) (G : gGeo ad 25 base) (ha : a_ok a) (hC : RepC pi dr S a) (d d2 d3 : Int32) : MetX l yP_join (Cond.code yP_join bP_join 6 (some .int) :: tws) { frames := 8, cells := 1, slots := 6, locals := 123 } (gPc (tw D cI cZ cT cJ base) D cl ad 25 base (en ad cI cZ cT cJ pi dr S M o) [.ref (ad 0), .int d, .int d2, .int d3]) (gQx D cl ad 25 base (en ad cI cZ cT cJ pi dr S M o) ["java/lang/IllegalArgumentException", "java/lang/UnsupportedOperationException"] (c_join a d d2 d3) (some (.int (nI (a_n a (ix d) + a_n a (ix d2))))) (fun e => ∃ (pi1 : Nat → Nat) (dr1 : Nat) (S1 : Nat → Nat → Int32), e = en ad cI cZ cT cJ pi1 dr1 S1 M o ∧ RepC pi1 dr1 S1 (x_join a d d2 d3))) 1 6 (gA base) := by
  refine MetX.ofW (cc := bP_join) (maxL := 6) (ret := (some .int)) (by decide) rfl ?_
  intro p e s m args below meth c s₁ B hml hv
  obtain ⟨rfl, htw, hB, hP⟩ := hv
  have hx := B.exec
  have hb := B.bytes
  have hr := B.returns
  have hts0 := atoms_spec (ws := Cond.code yP_join bP_join 6 (some .int) :: tws) B.pre
  have hts : ∀ w ∈ tws, w.before _ s = true := fun w h => hts0 w (List.mem_cons_of_mem _ h)
  have hown : s.vm.findClass "PairedTexts" = some m.cls := findClass_of_methodNamed B.named
  have hlocks := B.notSynchronized
  have hno := B.noHandlers (hts0 _ List.mem_cons_self)
  have F : CallFix p m c bP_join 6 s _ tws "PairedTexts" := ⟨hx, hb, hml, hown, hts⟩
  have hK := htw.1
  have hS : va_S (gA base) s.heap s.heap [] := va_S.rf
  have hl := lv_entry ([.ref (ad 0), .int d, .int d2, .int d3]) (n := 6) (Nat.le_of_ble_eq_true rfl)
  rw [lg_entry_eq]
  generalize (lg_sl ([.ref (ad 0), .int d, .int d2, .int d3]) ++ List.replicate (6 - (lg_sl ([.ref (ad 0), .int d, .int d2, .int d3])).length) Slot.unset).toArray = ls at hl ⊢
  have hl : lv_has ls 6 [(0, .ref (ad 0)), (1, .int d), (2, .int d2), (3, .int d3)] := hl
  have hdr := hC.2.1
  refine lv_aload_n hx hb dP_join_0 rfl (lv_at hl 0 rfl) ?_
  refine lv_iload_n hx hb dP_join_1 rfl (lv_at hl 1 rfl) ?_
  rcases dk_or d with hd | ⟨k, hk, rfl⟩
  · have hk1 : (c_join a d d2 d3) = 1 := by simp [c_join, hd.1]
    exact g_VTh (k := 1) F hlocks hno htw hB hS hP (0) (by decide) rfl rfl (c_P_textOf_th hst hd.2) k1_92 k1_94 k0_0 k1_1 k1_95 (by decide +kernel) rfl rfl ⟨Nat.le_of_ble_eq_true rfl, Nat.le_of_ble_eq_true rfl⟩ rfl hl.1 rfl (Nat.le_of_ble_eq_true rfl) dP_join_2 ⟨Nat.le_of_ble_eq_true rfl, Nat.le_of_ble_eq_true rfl⟩ (by rw [hk1]; decide) (by rw [hk1]; rfl)
  refine g_V (k := 1) F htw hB hS hP (0) (by decide) rfl rfl (c_P_textOf hk) k1_92 k1_94 k0_0 k1_1 k1_95 (by decide +kernel) rfl rfl ⟨Nat.le_of_ble_eq_true rfl, Nat.le_of_ble_eq_true rfl⟩ rfl hl.1 rfl (Nat.le_of_ble_eq_true rfl) dP_join_2 ⟨Nat.le_of_ble_eq_true rfl, Nat.le_of_ble_eq_true rfl⟩ (fun en1 H locs he hP hS => ?_)
  obtain rfl := he
  have hp_k := (hC.1 k hk).1
  have hn_k := ha.1 k hk
  have h5_k := hC.2.2.2.1 k hk
  refine lv_astore hx hb dP_join_5 hl (by decide) rfl (fun ls hl => ?_)
  have hl : lv_has ls 6 [(4, .ref _), (0, .ref _), (1, .int _), (2, .int _), (3, .int _)] := hl
  refine lv_aload_n hx hb dP_join_7 rfl (lv_at hl 1 rfl) ?_
  refine lv_iload_n hx hb dP_join_8 rfl (lv_at hl 3 rfl) ?_
  rcases dk_or d2 with hd | ⟨j, hj, rfl⟩
  · have hk1 : (c_join a (nI k) d2 d3) = 1 := by simp [c_join, dk_nI hk, ix_nI (show k < 2 ^ 31 by omega), hd.1]
    exact g_VTh (k := 1) F hlocks hno htw hB hS hP (0) (by decide) rfl rfl (c_P_textOf_th hst hd.2) k1_92 k1_94 k0_0 k1_1 k1_95 (by decide +kernel) rfl rfl ⟨Nat.le_of_ble_eq_true rfl, Nat.le_of_ble_eq_true rfl⟩ rfl hl.1 rfl (Nat.le_of_ble_eq_true rfl) dP_join_9 ⟨Nat.le_of_ble_eq_true rfl, Nat.le_of_ble_eq_true rfl⟩ (by rw [hk1]; decide) (by rw [hk1]; rfl)
  refine g_V (k := 1) F htw hB hS hP (0) (by decide) rfl rfl (c_P_textOf hj) k1_92 k1_94 k0_0 k1_1 k1_95 (by decide +kernel) rfl rfl ⟨Nat.le_of_ble_eq_true rfl, Nat.le_of_ble_eq_true rfl⟩ rfl hl.1 rfl (Nat.le_of_ble_eq_true rfl) dP_join_9 ⟨Nat.le_of_ble_eq_true rfl, Nat.le_of_ble_eq_true rfl⟩ (fun en1 H locs he hP hS => ?_)
  obtain rfl := he
  have hp_j := (hC.1 j hj).1
  have hn_j := ha.1 j hj
  have h5_j := hC.2.2.2.1 j hj
  refine lv_astore hx hb dP_join_12 hl (by decide) rfl (fun ls hl => ?_)
  have hl : lv_has ls 6 [(5, .ref _), (4, .ref _), (0, .ref _), (1, .int _), (2, .int _), (3, .int _)] := hl
  refine lv_iload_n hx hb dP_join_14 rfl (lv_at hl 5 rfl) ?_
  rcases dk_or d3 with hd | ⟨i, hi, rfl⟩
  · have hk1 : (c_join a (nI k) (nI j) d3) = 1 := by simp [c_join, dk_nI hk, ix_nI (show k < 2 ^ 31 by omega), dk_nI hj, ix_nI (show j < 2 ^ 31 by omega), hd.1]
    exact g_STh (k := 1) F hlocks hno htw hB hS hP (c_P_requireDocument_th hst hd.2) k1_96 k1_97 k1_1 k1_98 (by decide +kernel) rfl rfl ⟨Nat.le_of_ble_eq_true rfl, Nat.le_of_ble_eq_true rfl⟩ rfl hl.1 rfl (Nat.le_of_ble_eq_true rfl) dP_join_15 ⟨Nat.le_of_ble_eq_true rfl, Nat.le_of_ble_eq_true rfl⟩ (by rw [hk1]; decide) (by rw [hk1]; rfl)
  refine g_S (k := 1) F htw hB hS hP (c_P_requireDocument (by have := nI_toInt (show i < 2 ^ 31 by omega); omega) (by have := nI_toInt (show i < 2 ^ 31 by omega); omega)) k1_96 k1_97 k1_1 k1_98 (by decide +kernel) rfl rfl ⟨Nat.le_of_ble_eq_true rfl, Nat.le_of_ble_eq_true rfl⟩ rfl hl.1 rfl (Nat.le_of_ble_eq_true rfl) dP_join_15 ⟨Nat.le_of_ble_eq_true rfl, Nat.le_of_ble_eq_true rfl⟩ (fun en1 H locs he hP hS => ?_)
  obtain rfl := he
  have hp_i := (hC.1 i hi).1
  have hn_i := ha.1 i hi
  have h5_i := hC.2.2.2.1 i hi
  refine lv_aload hx hb dP_join_18 (lv_at hl 1 rfl) ?_
  refine g_get F hK hP (2 + 2 * pi k) (by omega) (en_T _ _ _ _ _ _ _ _ _ _ hp_k) rfl iT 1 (by decide) k1_34 rfl dP_join_20 ?_
  refine lv_aload hx hb dP_join_23 (lv_at hl 0 rfl) ?_
  refine g_get F hK hP (2 + 2 * pi j) (by omega) (en_T _ _ _ _ _ _ _ _ _ _ hp_j) rfl iT 1 (by decide) k1_34 rfl dP_join_25 ?_
  refine lv_iadd hx hb dP_join_28 ?_
  refine lv_i2l hx hb dP_join_29 rfl ?_
  rw [h5_k, h5_j, nI_add, nI_l (show a_n a k + a_n a j < 2 ^ 31 by omega)]
  have zr := lN_toInt (show a_n a k + a_n a j < 2 ^ 31 by omega)
  by_cases hg : a_n a k + a_n a j ≤ 1000
  · refine g_S (k := 1) F htw hB hS hP (c_P_requireRoom (by omega)) k1_172 k1_173 k1_1 k1_174 (by decide +kernel) rfl rfl ⟨Nat.le_of_ble_eq_true rfl, Nat.le_of_ble_eq_true rfl⟩ rfl hl.1 rfl (Nat.le_of_ble_eq_true rfl) dP_join_30 ⟨Nat.le_of_ble_eq_true rfl, Nat.le_of_ble_eq_true rfl⟩ (fun en1 H locs he hP hS => ?_)
    obtain rfl := he
    refine lv_aload_n hx hb dP_join_33 rfl (lv_at hl 2 rfl) ?_
    refine g_get F hK hP (0) (by decide) rfl rfl iP 3 (by decide) k1_73 rfl dP_join_34 ?_
    refine g_V (k := 0) F htw hB hS hP (2 + 2 * dr) (by omega) (en_T _ _ _ _ _ _ _ _ _ _ hdr) rfl (c_clr G hC (fun _ => 0)) k2_4 k2_5 k2_6 k1_2 k2_7 (by decide +kernel) rfl rfl ⟨Nat.le_of_ble_eq_true rfl, Nat.le_of_ble_eq_true rfl⟩ rfl hl.1 rfl (Nat.le_of_ble_eq_true rfl) dP_join_37 ⟨Nat.le_of_ble_eq_true rfl, Nat.le_of_ble_eq_true rfl⟩ (fun en1 H locs he hP hS => ?_)
    obtain ⟨S, rfl, hC, hDr⟩ := he
    refine lv_aload_n hx hb dP_join_40 rfl (lv_at hl 2 rfl) ?_
    refine g_get F hK hP (0) (by decide) rfl rfl iP 3 (by decide) k1_73 rfl dP_join_41 ?_
    refine lv_aload hx hb dP_join_44 (lv_at hl 1 rfl) ?_
    refine lv_iconst (v := 0) hx hb dP_join_46 (by decide) ?_
    refine lv_aload hx hb dP_join_47 (lv_at hl 1 rfl) ?_
    refine g_get F hK hP (2 + 2 * pi k) (by omega) (en_T _ _ _ _ _ _ _ _ _ _ hp_k) rfl iT 1 (by decide) k1_34 rfl dP_join_49 ?_
    rw [hC.2.2.2.1 k hk]
    rw [show (0 : Int32) = nI 0 from rfl]
    refine g_V (k := 3) F htw hB hS hP (2 + 2 * dr) (by omega) (en_T _ _ _ _ _ _ _ _ _ _ hdr) rfl (c_addR G hC hDr hk (by omega) (by omega) hn_k (by omega)) k2_8 k2_9 k2_10 k1_2 k2_11 (by decide +kernel) rfl rfl ⟨Nat.le_of_ble_eq_true rfl, Nat.le_of_ble_eq_true rfl⟩ rfl hl.1 rfl (Nat.le_of_ble_eq_true rfl) dP_join_52 ⟨Nat.le_of_ble_eq_true rfl, Nat.le_of_ble_eq_true rfl⟩ (fun en1 H locs he hP hS => ?_)
    obtain ⟨S, rfl, hC, hDr⟩ := he
    refine lv_aload_n hx hb dP_join_55 rfl (lv_at hl 2 rfl) ?_
    refine g_get F hK hP (0) (by decide) rfl rfl iP 3 (by decide) k1_73 rfl dP_join_56 ?_
    refine lv_aload hx hb dP_join_59 (lv_at hl 0 rfl) ?_
    refine lv_iconst (v := 0) hx hb dP_join_61 (by decide) ?_
    refine lv_aload hx hb dP_join_62 (lv_at hl 0 rfl) ?_
    refine g_get F hK hP (2 + 2 * pi j) (by omega) (en_T _ _ _ _ _ _ _ _ _ _ hp_j) rfl iT 1 (by decide) k1_34 rfl dP_join_64 ?_
    rw [hC.2.2.2.1 j hj]
    rw [show (0 : Int32) = nI 0 from rfl]
    refine g_V (k := 3) F htw hB hS hP (2 + 2 * dr) (by omega) (en_T _ _ _ _ _ _ _ _ _ _ hdr) rfl (c_addR G hC hDr hj (by omega) (by omega) hn_j (by omega)) k2_8 k2_9 k2_10 k1_2 k2_11 (by decide +kernel) rfl rfl ⟨Nat.le_of_ble_eq_true rfl, Nat.le_of_ble_eq_true rfl⟩ rfl hl.1 rfl (Nat.le_of_ble_eq_true rfl) dP_join_67 ⟨Nat.le_of_ble_eq_true rfl, Nat.le_of_ble_eq_true rfl⟩ (fun en1 H locs he hP hS => ?_)
    obtain ⟨S, rfl, hC, hDr⟩ := he
    refine lv_aload_n hx hb dP_join_70 rfl (lv_at hl 2 rfl) ?_
    refine lv_iload_n hx hb dP_join_71 rfl (lv_at hl 5 rfl) ?_
    refine g_V (k := 1) F htw hB hS hP (0) (by decide) rfl rfl (c_swap G hC hDr hi) k2_15 k2_17 k0_2 k1_1 k2_18 (by decide +kernel) rfl rfl ⟨Nat.le_of_ble_eq_true rfl, Nat.le_of_ble_eq_true rfl⟩ rfl hl.1 rfl (Nat.le_of_ble_eq_true rfl) dP_join_72 ⟨Nat.le_of_ble_eq_true rfl, Nat.le_of_ble_eq_true rfl⟩ (fun en1 H locs he hP hS => ?_)
    obtain ⟨pi1, dr1, S, rfl, hC⟩ := he
    have hC := hC.to (k' := a_n a k + a_n a j) (g' := cat (a_b a k) (a_n a k) (a_b a j)) (by omega) (fun i hi => by simp [cat])
    rw [show 0 + (a_n a k - 0) + (a_n a j - 0) = a_n a k + a_n a j by omega]
    have hk1 : (c_join a (nI k) (nI j) (nI i)) = 0 := by simp [c_join, dk_nI hk, ix_nI (show k < 2 ^ 31 by omega), dk_nI hj, ix_nI (show j < 2 ^ 31 by omega), dk_nI hi, ix_nI (show i < 2 ^ 31 by omega), hg]
    refine W.widen (k := 1) (n := 6) (by decide) (by decide) ?_
    exact W.toX (W.iret hx hb hr (fun t ht hW => Or.inl ⟨hk1, ⟨by simp [dk_nI hk, ix_nI (show k < 2 ^ 31 by omega), dk_nI hj, ix_nI (show j < 2 ^ 31 by omega), dk_nI hi, ix_nI (show i < 2 ^ 31 by omega), hg], ⟨_, ⟨_, _, _, rfl, by simpa [x_join, dk_nI hk, ix_nI (show k < 2 ^ 31 by omega), dk_nI hj, ix_nI (show j < 2 ^ 31 by omega), dk_nI hi, ix_nI (show i < 2 ^ 31 by omega), hg] using hC⟩, by rw [ht]; exact hP⟩, hS.F ht⟩⟩) hS.2.2 dP_join_75)
  · have hk1 : (c_join a (nI k) (nI j) (nI i)) = 2 := by simp [c_join, hg, dk_nI hk, ix_nI (show k < 2 ^ 31 by omega), dk_nI hj, ix_nI (show j < 2 ^ 31 by omega), dk_nI hi, ix_nI (show i < 2 ^ 31 by omega)]
    exact g_STh (k := 1) F hlocks hno htw hB hS hP (c_P_requireRoom_th hst (by omega)) k1_172 k1_173 k1_1 k1_174 (by decide +kernel) rfl rfl ⟨Nat.le_of_ble_eq_true rfl, Nat.le_of_ble_eq_true rfl⟩ rfl hl.1 rfl (Nat.le_of_ble_eq_true rfl) dP_join_30 ⟨Nat.le_of_ble_eq_true rfl, Nat.le_of_ble_eq_true rfl⟩ (by rw [hk1]; decide) (by rw [hk1]; rfl)
set_option maxHeartbeats 4000000 in
set_option maxRecDepth 100000 in
theorem c_P_delete (hst : l.stackTraces = false) (G : gGeo ad 25 base) (ha : a_ok a) (hC : RepC pi dr S a) (d f t : Int32) : MetX l yP_delete (Cond.code yP_delete bP_delete 5 (some .int) :: tws) { frames := 8, cells := 1, slots := 6, locals := 123 } (gPc (tw D cI cZ cT cJ base) D cl ad 25 base (en ad cI cZ cT cJ pi dr S M o) [.ref (ad 0), .int d, .int f, .int t]) (gQx D cl ad 25 base (en ad cI cZ cT cJ pi dr S M o) ["java/lang/IllegalArgumentException", "java/lang/IndexOutOfBoundsException"] (c_delete a d f t) (some (.int (nI (a_n a (ix d) - (ix t - ix f))))) (fun e => ∃ (pi1 : Nat → Nat) (dr1 : Nat) (S1 : Nat → Nat → Int32), e = en ad cI cZ cT cJ pi1 dr1 S1 M o ∧ RepC pi1 dr1 S1 (x_delete a d f t))) 1 6 (gA base) := by
  refine MetX.ofW (cc := bP_delete) (maxL := 5) (ret := (some .int)) (by decide) rfl ?_
  intro p e s m args below meth c s₁ B hml hv
  obtain ⟨rfl, htw, hB, hP⟩ := hv
  have hx := B.exec
  have hb := B.bytes
  have hr := B.returns
  have hts0 := atoms_spec (ws := Cond.code yP_delete bP_delete 5 (some .int) :: tws) B.pre
  have hts : ∀ w ∈ tws, w.before _ s = true := fun w h => hts0 w (List.mem_cons_of_mem _ h)
  have hown : s.vm.findClass "PairedTexts" = some m.cls := findClass_of_methodNamed B.named
  have hlocks := B.notSynchronized
  have hno := B.noHandlers (hts0 _ List.mem_cons_self)
  have F : CallFix p m c bP_delete 5 s _ tws "PairedTexts" := ⟨hx, hb, hml, hown, hts⟩
  have hK := htw.1
  have hS : va_S (gA base) s.heap s.heap [] := va_S.rf
  have hl := lv_entry ([.ref (ad 0), .int d, .int f, .int t]) (n := 5) (Nat.le_of_ble_eq_true rfl)
  rw [lg_entry_eq]
  generalize (lg_sl ([.ref (ad 0), .int d, .int f, .int t]) ++ List.replicate (5 - (lg_sl ([.ref (ad 0), .int d, .int f, .int t])).length) Slot.unset).toArray = ls at hl ⊢
  have hl : lv_has ls 5 [(0, .ref (ad 0)), (1, .int d), (2, .int f), (3, .int t)] := hl
  have hdr := hC.2.1
  refine lv_aload_n hx hb dP_delete_0 rfl (lv_at hl 0 rfl) ?_
  refine lv_iload_n hx hb dP_delete_1 rfl (lv_at hl 1 rfl) ?_
  rcases dk_or d with hd | ⟨k, hk, rfl⟩
  · have hk1 : (c_delete a d f t) = 1 := by simp [c_delete, hd.1]
    exact g_VTh (k := 1) F hlocks hno htw hB hS hP (0) (by decide) rfl rfl (c_P_textOf_th hst hd.2) k1_92 k1_94 k0_0 k1_1 k1_95 (by decide +kernel) rfl rfl ⟨Nat.le_of_ble_eq_true rfl, Nat.le_of_ble_eq_true rfl⟩ rfl hl.1 rfl (Nat.le_of_ble_eq_true rfl) dP_delete_2 ⟨Nat.le_of_ble_eq_true rfl, Nat.le_of_ble_eq_true rfl⟩ (by rw [hk1]; decide) (by rw [hk1]; rfl)
  refine g_V (k := 1) F htw hB hS hP (0) (by decide) rfl rfl (c_P_textOf hk) k1_92 k1_94 k0_0 k1_1 k1_95 (by decide +kernel) rfl rfl ⟨Nat.le_of_ble_eq_true rfl, Nat.le_of_ble_eq_true rfl⟩ rfl hl.1 rfl (Nat.le_of_ble_eq_true rfl) dP_delete_2 ⟨Nat.le_of_ble_eq_true rfl, Nat.le_of_ble_eq_true rfl⟩ (fun en1 H locs he hP hS => ?_)
  obtain rfl := he
  have hp_k := (hC.1 k hk).1
  have hn_k := ha.1 k hk
  have h5_k := hC.2.2.2.1 k hk
  refine lv_astore hx hb dP_delete_5 hl (by decide) rfl (fun ls hl => ?_)
  have hl : lv_has ls 5 [(4, .ref _), (0, .ref _), (1, .int _), (2, .int _), (3, .int _)] := hl
  refine lv_aload hx hb dP_delete_7 (lv_at hl 0 rfl) ?_
  refine lv_iload_n hx hb dP_delete_9 rfl (lv_at hl 3 rfl) ?_
  refine lv_iload_n hx hb dP_delete_10 rfl (lv_at hl 4 rfl) ?_
  refine lv_i2l hx hb dP_delete_11 rfl ?_
  refine g_V (k := 2) F htw hB hS hP (2 + 2 * pi k) (by omega) (en_T _ _ _ _ _ _ _ _ _ _ hp_k) rfl (c_rng hC ha hk f t) k2_0 k2_1 k2_2 k1_2 k2_3 (by decide +kernel) rfl rfl ⟨Nat.le_of_ble_eq_true rfl, Nat.le_of_ble_eq_true rfl⟩ rfl hl.1 rfl (Nat.le_of_ble_eq_true rfl) dP_delete_12 ⟨Nat.le_of_ble_eq_true rfl, Nat.le_of_ble_eq_true rfl⟩ (fun en1 H locs he hP hS => ?_)
  obtain rfl := he
  rcases rg_or f t hn_k with hr | ⟨f1, t1, hft, htn, rfl, rfl⟩
  · have hk1 : (c_delete a (nI k) f t) = 2 := by simp [c_delete, dk_nI hk, ix_nI (show k < 2 ^ 31 by omega), hr]
    rw [show (if rg f t (a_n a k) then (1 : Int32) else 0) = 0 from by rw [hr]; rfl]
    exact g_STh (k := 1) F hlocks hno htw hB hS hP (c_P_requireInside_th hst) k1_214 k1_215 k1_1 k1_216 (by decide +kernel) rfl rfl ⟨Nat.le_of_ble_eq_true rfl, Nat.le_of_ble_eq_true rfl⟩ rfl hl.1 rfl (Nat.le_of_ble_eq_true rfl) dP_delete_15 ⟨Nat.le_of_ble_eq_true rfl, Nat.le_of_ble_eq_true rfl⟩ (by rw [hk1]; decide) (by rw [hk1]; rfl)
  rw [show (if rg (nI f1) (nI t1) (a_n a k) then (1 : Int32) else 0) = 1 from if_pos (rg_nI hft htn hn_k)]
  refine g_S (k := 1) F htw hB hS hP (c_P_requireInside) k1_214 k1_215 k1_1 k1_216 (by decide +kernel) rfl rfl ⟨Nat.le_of_ble_eq_true rfl, Nat.le_of_ble_eq_true rfl⟩ rfl hl.1 rfl (Nat.le_of_ble_eq_true rfl) dP_delete_15 ⟨Nat.le_of_ble_eq_true rfl, Nat.le_of_ble_eq_true rfl⟩ (fun en1 H locs he hP hS => ?_)
  obtain rfl := he
  refine lv_aload_n hx hb dP_delete_18 rfl (lv_at hl 1 rfl) ?_
  refine g_get F hK hP (0) (by decide) rfl rfl iP 3 (by decide) k1_73 rfl dP_delete_19 ?_
  refine g_V (k := 0) F htw hB hS hP (2 + 2 * dr) (by omega) (en_T _ _ _ _ _ _ _ _ _ _ hdr) rfl (c_clr G hC (fun _ => 0)) k2_4 k2_5 k2_6 k1_2 k2_7 (by decide +kernel) rfl rfl ⟨Nat.le_of_ble_eq_true rfl, Nat.le_of_ble_eq_true rfl⟩ rfl hl.1 rfl (Nat.le_of_ble_eq_true rfl) dP_delete_22 ⟨Nat.le_of_ble_eq_true rfl, Nat.le_of_ble_eq_true rfl⟩ (fun en1 H locs he hP hS => ?_)
  obtain ⟨S, rfl, hC, hDr⟩ := he
  refine lv_aload_n hx hb dP_delete_25 rfl (lv_at hl 1 rfl) ?_
  refine g_get F hK hP (0) (by decide) rfl rfl iP 3 (by decide) k1_73 rfl dP_delete_26 ?_
  refine lv_aload hx hb dP_delete_29 (lv_at hl 0 rfl) ?_
  refine lv_iconst (v := 0) hx hb dP_delete_31 (by decide) ?_
  refine lv_iload_n hx hb dP_delete_32 rfl (lv_at hl 3 rfl) ?_
  rw [show (0 : Int32) = nI 0 from rfl]
  refine g_V (k := 3) F htw hB hS hP (2 + 2 * dr) (by omega) (en_T _ _ _ _ _ _ _ _ _ _ hdr) rfl (c_addR G hC hDr hk (by omega) (by omega) hn_k (by omega)) k2_8 k2_9 k2_10 k1_2 k2_11 (by decide +kernel) rfl rfl ⟨Nat.le_of_ble_eq_true rfl, Nat.le_of_ble_eq_true rfl⟩ rfl hl.1 rfl (Nat.le_of_ble_eq_true rfl) dP_delete_33 ⟨Nat.le_of_ble_eq_true rfl, Nat.le_of_ble_eq_true rfl⟩ (fun en1 H locs he hP hS => ?_)
  obtain ⟨S, rfl, hC, hDr⟩ := he
  refine lv_aload_n hx hb dP_delete_36 rfl (lv_at hl 1 rfl) ?_
  refine g_get F hK hP (0) (by decide) rfl rfl iP 3 (by decide) k1_73 rfl dP_delete_37 ?_
  refine lv_aload hx hb dP_delete_40 (lv_at hl 0 rfl) ?_
  refine lv_iload_n hx hb dP_delete_42 rfl (lv_at hl 4 rfl) ?_
  refine lv_aload hx hb dP_delete_43 (lv_at hl 0 rfl) ?_
  refine g_get F hK hP (2 + 2 * pi k) (by omega) (en_T _ _ _ _ _ _ _ _ _ _ hp_k) rfl iT 1 (by decide) k1_34 rfl dP_delete_45 ?_
  rw [hC.2.2.2.1 k hk]
  refine g_V (k := 3) F htw hB hS hP (2 + 2 * dr) (by omega) (en_T _ _ _ _ _ _ _ _ _ _ hdr) rfl (c_addR G hC hDr hk (by omega) (by omega) hn_k (by omega)) k2_8 k2_9 k2_10 k1_2 k2_11 (by decide +kernel) rfl rfl ⟨Nat.le_of_ble_eq_true rfl, Nat.le_of_ble_eq_true rfl⟩ rfl hl.1 rfl (Nat.le_of_ble_eq_true rfl) dP_delete_48 ⟨Nat.le_of_ble_eq_true rfl, Nat.le_of_ble_eq_true rfl⟩ (fun en1 H locs he hP hS => ?_)
  obtain ⟨S, rfl, hC, hDr⟩ := he
  refine lv_aload_n hx hb dP_delete_51 rfl (lv_at hl 1 rfl) ?_
  refine lv_iload_n hx hb dP_delete_52 rfl (lv_at hl 2 rfl) ?_
  refine g_V (k := 1) F htw hB hS hP (0) (by decide) rfl rfl (c_swap G hC hDr hk) k2_15 k2_17 k0_2 k1_1 k2_18 (by decide +kernel) rfl rfl ⟨Nat.le_of_ble_eq_true rfl, Nat.le_of_ble_eq_true rfl⟩ rfl hl.1 rfl (Nat.le_of_ble_eq_true rfl) dP_delete_53 ⟨Nat.le_of_ble_eq_true rfl, Nat.le_of_ble_eq_true rfl⟩ (fun en1 H locs he hP hS => ?_)
  obtain ⟨pi1, dr1, S, rfl, hC⟩ := he
  have hC := hC.to (k' := a_n a k - (t1 - f1)) (g' := cat (a_b a k) f1 (fun i => a_b a k (t1 + i))) (by omega) (fun i hi => by simp [cat])
  rw [show 0 + (f1 - 0) + (a_n a k - t1) = a_n a k - (t1 - f1) by omega]
  have hk1 : (c_delete a (nI k) (nI f1) (nI t1)) = 0 := by simp [c_delete, dk_nI hk, ix_nI (show k < 2 ^ 31 by omega), rg_nI hft htn hn_k, ix_nI (show f1 < 2 ^ 31 by omega), ix_nI (show t1 < 2 ^ 31 by omega)]
  refine W.widen (k := 1) (n := 6) (by decide) (by decide) ?_
  exact W.toX (W.iret hx hb hr (fun t ht hW => Or.inl ⟨hk1, ⟨by simp [dk_nI hk, ix_nI (show k < 2 ^ 31 by omega), rg_nI hft htn hn_k, ix_nI (show f1 < 2 ^ 31 by omega), ix_nI (show t1 < 2 ^ 31 by omega)], ⟨_, ⟨_, _, _, rfl, by simpa [x_delete, dk_nI hk, ix_nI (show k < 2 ^ 31 by omega), rg_nI hft htn hn_k, ix_nI (show f1 < 2 ^ 31 by omega), ix_nI (show t1 < 2 ^ 31 by omega)] using hC⟩, by rw [ht]; exact hP⟩, hS.F ht⟩⟩) hS.2.2 dP_delete_56)
set_option maxHeartbeats 4000000 in
set_option maxRecDepth 100000 in
theorem c_P_insert (hst : l.stackTraces = false) (G : gGeo ad 25 base) (ha : a_ok a) (hC : RepC pi dr S a) (d q d2 f t : Int32) : MetX l yP_insert (Cond.code yP_insert bP_insert 8 (some .int) :: tws) { frames := 8, cells := 1, slots := 6, locals := 123 } (gPc (tw D cI cZ cT cJ base) D cl ad 25 base (en ad cI cZ cT cJ pi dr S M o) [.ref (ad 0), .int d, .int q, .int d2, .int f, .int t]) (gQx D cl ad 25 base (en ad cI cZ cT cJ pi dr S M o) ["java/lang/IllegalArgumentException", "java/lang/IndexOutOfBoundsException", "java/lang/UnsupportedOperationException"] (c_insert a d q d2 f t) (some (.int (nI (a_n a (ix d) + (ix t - ix f))))) (fun e => ∃ (pi1 : Nat → Nat) (dr1 : Nat) (S1 : Nat → Nat → Int32), e = en ad cI cZ cT cJ pi1 dr1 S1 M o ∧ RepC pi1 dr1 S1 (x_insert a d q d2 f t))) 1 6 (gA base) := by
  refine MetX.ofW (cc := bP_insert) (maxL := 8) (ret := (some .int)) (by decide) rfl ?_
  intro p e s m args below meth c s₁ B hml hv
  obtain ⟨rfl, htw, hB, hP⟩ := hv
  have hx := B.exec
  have hb := B.bytes
  have hr := B.returns
  have hts0 := atoms_spec (ws := Cond.code yP_insert bP_insert 8 (some .int) :: tws) B.pre
  have hts : ∀ w ∈ tws, w.before _ s = true := fun w h => hts0 w (List.mem_cons_of_mem _ h)
  have hown : s.vm.findClass "PairedTexts" = some m.cls := findClass_of_methodNamed B.named
  have hlocks := B.notSynchronized
  have hno := B.noHandlers (hts0 _ List.mem_cons_self)
  have F : CallFix p m c bP_insert 8 s _ tws "PairedTexts" := ⟨hx, hb, hml, hown, hts⟩
  have hK := htw.1
  have hS : va_S (gA base) s.heap s.heap [] := va_S.rf
  have hl := lv_entry ([.ref (ad 0), .int d, .int q, .int d2, .int f, .int t]) (n := 8) (Nat.le_of_ble_eq_true rfl)
  rw [lg_entry_eq]
  generalize (lg_sl ([.ref (ad 0), .int d, .int q, .int d2, .int f, .int t]) ++ List.replicate (8 - (lg_sl ([.ref (ad 0), .int d, .int q, .int d2, .int f, .int t])).length) Slot.unset).toArray = ls at hl ⊢
  have hl : lv_has ls 8 [(0, .ref (ad 0)), (1, .int d), (2, .int q), (3, .int d2), (4, .int f), (5, .int t)] := hl
  have hdr := hC.2.1
  refine lv_aload_n hx hb dP_insert_0 rfl (lv_at hl 0 rfl) ?_
  refine lv_iload_n hx hb dP_insert_1 rfl (lv_at hl 1 rfl) ?_
  rcases dk_or d with hd | ⟨k, hk, rfl⟩
  · have hk1 : (c_insert a d q d2 f t) = 1 := by simp [c_insert, hd.1]
    exact g_VTh (k := 1) F hlocks hno htw hB hS hP (0) (by decide) rfl rfl (c_P_textOf_th hst hd.2) k1_92 k1_94 k0_0 k1_1 k1_95 (by decide +kernel) rfl rfl ⟨Nat.le_of_ble_eq_true rfl, Nat.le_of_ble_eq_true rfl⟩ rfl hl.1 rfl (Nat.le_of_ble_eq_true rfl) dP_insert_2 ⟨Nat.le_of_ble_eq_true rfl, Nat.le_of_ble_eq_true rfl⟩ (by rw [hk1]; decide) (by rw [hk1]; rfl)
  refine g_V (k := 1) F htw hB hS hP (0) (by decide) rfl rfl (c_P_textOf hk) k1_92 k1_94 k0_0 k1_1 k1_95 (by decide +kernel) rfl rfl ⟨Nat.le_of_ble_eq_true rfl, Nat.le_of_ble_eq_true rfl⟩ rfl hl.1 rfl (Nat.le_of_ble_eq_true rfl) dP_insert_2 ⟨Nat.le_of_ble_eq_true rfl, Nat.le_of_ble_eq_true rfl⟩ (fun en1 H locs he hP hS => ?_)
  obtain rfl := he
  have hp_k := (hC.1 k hk).1
  have hn_k := ha.1 k hk
  have h5_k := hC.2.2.2.1 k hk
  refine lv_astore hx hb dP_insert_5 hl (by decide) rfl (fun ls hl => ?_)
  have hl : lv_has ls 8 [(6, .ref _), (0, .ref _), (1, .int _), (2, .int _), (3, .int _), (4, .int _), (5, .int _)] := hl
  refine lv_aload_n hx hb dP_insert_7 rfl (lv_at hl 1 rfl) ?_
  refine lv_iload_n hx hb dP_insert_8 rfl (lv_at hl 4 rfl) ?_
  rcases dk_or d2 with hd | ⟨j, hj, rfl⟩
  · have hk1 : (c_insert a (nI k) q d2 f t) = 1 := by simp [c_insert, dk_nI hk, ix_nI (show k < 2 ^ 31 by omega), hd.1]
    exact g_VTh (k := 1) F hlocks hno htw hB hS hP (0) (by decide) rfl rfl (c_P_textOf_th hst hd.2) k1_92 k1_94 k0_0 k1_1 k1_95 (by decide +kernel) rfl rfl ⟨Nat.le_of_ble_eq_true rfl, Nat.le_of_ble_eq_true rfl⟩ rfl hl.1 rfl (Nat.le_of_ble_eq_true rfl) dP_insert_9 ⟨Nat.le_of_ble_eq_true rfl, Nat.le_of_ble_eq_true rfl⟩ (by rw [hk1]; decide) (by rw [hk1]; rfl)
  refine g_V (k := 1) F htw hB hS hP (0) (by decide) rfl rfl (c_P_textOf hj) k1_92 k1_94 k0_0 k1_1 k1_95 (by decide +kernel) rfl rfl ⟨Nat.le_of_ble_eq_true rfl, Nat.le_of_ble_eq_true rfl⟩ rfl hl.1 rfl (Nat.le_of_ble_eq_true rfl) dP_insert_9 ⟨Nat.le_of_ble_eq_true rfl, Nat.le_of_ble_eq_true rfl⟩ (fun en1 H locs he hP hS => ?_)
  obtain rfl := he
  have hp_j := (hC.1 j hj).1
  have hn_j := ha.1 j hj
  have h5_j := hC.2.2.2.1 j hj
  refine lv_astore hx hb dP_insert_12 hl (by decide) rfl (fun ls hl => ?_)
  have hl : lv_has ls 8 [(7, .ref _), (6, .ref _), (0, .ref _), (1, .int _), (2, .int _), (3, .int _), (4, .int _), (5, .int _)] := hl
  refine lv_aload hx hb dP_insert_14 (lv_at hl 0 rfl) ?_
  refine lv_iload hx hb dP_insert_16 (lv_at hl 6 rfl) ?_
  refine lv_iload hx hb dP_insert_18 (lv_at hl 7 rfl) ?_
  refine lv_i2l hx hb dP_insert_20 rfl ?_
  refine g_V (k := 2) F htw hB hS hP (2 + 2 * pi j) (by omega) (en_T _ _ _ _ _ _ _ _ _ _ hp_j) rfl (c_rng hC ha hj f t) k2_0 k2_1 k2_2 k1_2 k2_3 (by decide +kernel) rfl rfl ⟨Nat.le_of_ble_eq_true rfl, Nat.le_of_ble_eq_true rfl⟩ rfl hl.1 rfl (Nat.le_of_ble_eq_true rfl) dP_insert_21 ⟨Nat.le_of_ble_eq_true rfl, Nat.le_of_ble_eq_true rfl⟩ (fun en1 H locs he hP hS => ?_)
  obtain rfl := he
  rcases rg_or f t hn_j with hg | ⟨f1, t1, hft, htn, rfl, rfl⟩
  · have hk1 : (c_insert a (nI k) q (nI j) f t) = 2 := by simp [c_insert, dk_nI hk, ix_nI (show k < 2 ^ 31 by omega), dk_nI hj, ix_nI (show j < 2 ^ 31 by omega), hg]
    rw [show (if rg f t (a_n a j) then (1 : Int32) else 0) = 0 from by rw [hg]; rfl]
    refine lv_if_eq (tgt := 40) hx hb dP_insert_24 (by decide) (fun _ => ?_) (fun hc => absurd rfl hc)
    refine lv_iconst (v := 0) hx hb dP_insert_40 (by decide) ?_
    exact g_STh (k := 1) F hlocks hno htw hB hS hP (c_P_requireInside_th hst) k1_214 k1_215 k1_1 k1_216 (by decide +kernel) rfl rfl ⟨Nat.le_of_ble_eq_true rfl, Nat.le_of_ble_eq_true rfl⟩ rfl hl.1 rfl (Nat.le_of_ble_eq_true rfl) dP_insert_41 ⟨Nat.le_of_ble_eq_true rfl, Nat.le_of_ble_eq_true rfl⟩ (by rw [hk1]; decide) (by rw [hk1]; rfl)
  rw [show (if rg (nI f1) (nI t1) (a_n a j) then (1 : Int32) else 0) = 1 from if_pos (rg_nI hft htn hn_j)]
  refine lv_if_eq (tgt := 40) hx hb dP_insert_24 (by decide) (fun hc => absurd hc (by decide)) (fun _ => ?_)
  refine lv_aload hx hb dP_insert_27 (lv_at hl 1 rfl) ?_
  refine lv_iload_n hx hb dP_insert_29 rfl (lv_at hl 4 rfl) ?_
  refine g_V (k := 1) F htw hB hS hP (2 + 2 * pi k) (by omega) (en_T _ _ _ _ _ _ _ _ _ _ hp_k) rfl (c_pce hC ha hk q) k2_33 k2_34 k2_35 k1_2 k2_36 (by decide +kernel) rfl rfl ⟨Nat.le_of_ble_eq_true rfl, Nat.le_of_ble_eq_true rfl⟩ rfl hl.1 rfl (Nat.le_of_ble_eq_true rfl) dP_insert_30 ⟨Nat.le_of_ble_eq_true rfl, Nat.le_of_ble_eq_true rfl⟩ (fun en1 H locs he hP hS => ?_)
  obtain rfl := he
  rcases pc_or q hn_k with hg | ⟨b, hb1, rfl⟩
  · have hk1 : (c_insert a (nI k) q (nI j) (nI f1) (nI t1)) = 2 := by simp [c_insert, dk_nI hk, ix_nI (show k < 2 ^ 31 by omega), dk_nI hj, ix_nI (show j < 2 ^ 31 by omega), rg_nI hft htn hn_j, ix_nI (show f1 < 2 ^ 31 by omega), ix_nI (show t1 < 2 ^ 31 by omega), hg]
    rw [show (if pcL q (a_n a k) then (1 : Int32) else 0) = 0 from by rw [hg]; rfl]
    refine lv_if_eq (tgt := 40) hx hb dP_insert_33 (by decide) (fun _ => ?_) (fun hc => absurd rfl hc)
    refine lv_iconst (v := 0) hx hb dP_insert_40 (by decide) ?_
    exact g_STh (k := 1) F hlocks hno htw hB hS hP (c_P_requireInside_th hst) k1_214 k1_215 k1_1 k1_216 (by decide +kernel) rfl rfl ⟨Nat.le_of_ble_eq_true rfl, Nat.le_of_ble_eq_true rfl⟩ rfl hl.1 rfl (Nat.le_of_ble_eq_true rfl) dP_insert_41 ⟨Nat.le_of_ble_eq_true rfl, Nat.le_of_ble_eq_true rfl⟩ (by rw [hk1]; decide) (by rw [hk1]; rfl)
  rw [show (if pcL (nI b) (a_n a k) then (1 : Int32) else 0) = 1 from if_pos (pc_nI hb1 hn_k)]
  refine lv_if_eq (tgt := 40) hx hb dP_insert_33 (by decide) (fun hc => absurd hc (by decide)) (fun _ => ?_)
  refine lv_iconst (v := 1) hx hb dP_insert_36 (by decide) ?_
  refine lv_goto (tgt := 41) hx hb dP_insert_37 (by decide) ?_
  refine g_S (k := 1) F htw hB hS hP (c_P_requireInside) k1_214 k1_215 k1_1 k1_216 (by decide +kernel) rfl rfl ⟨Nat.le_of_ble_eq_true rfl, Nat.le_of_ble_eq_true rfl⟩ rfl hl.1 rfl (Nat.le_of_ble_eq_true rfl) dP_insert_41 ⟨Nat.le_of_ble_eq_true rfl, Nat.le_of_ble_eq_true rfl⟩ (fun en1 H locs he hP hS => ?_)
  obtain rfl := he
  refine lv_aload hx hb dP_insert_44 (lv_at hl 1 rfl) ?_
  refine g_get F hK hP (2 + 2 * pi k) (by omega) (en_T _ _ _ _ _ _ _ _ _ _ hp_k) rfl iT 1 (by decide) k1_34 rfl dP_insert_46 ?_
  refine lv_iload hx hb dP_insert_49 (lv_at hl 7 rfl) ?_
  refine lv_iload hx hb dP_insert_51 (lv_at hl 6 rfl) ?_
  refine lv_isub hx hb dP_insert_53 ?_
  refine lv_iadd hx hb dP_insert_54 ?_
  refine lv_i2l hx hb dP_insert_55 rfl ?_
  rw [h5_k, pk_sub hft, nI_add, nI_l (show a_n a k + (t1 - f1) < 2 ^ 31 by omega)]
  have zr := lN_toInt (show a_n a k + (t1 - f1) < 2 ^ 31 by omega)
  by_cases hg : a_n a k + (t1 - f1) ≤ 1000
  · refine g_S (k := 1) F htw hB hS hP (c_P_requireRoom (by omega)) k1_172 k1_173 k1_1 k1_174 (by decide +kernel) rfl rfl ⟨Nat.le_of_ble_eq_true rfl, Nat.le_of_ble_eq_true rfl⟩ rfl hl.1 rfl (Nat.le_of_ble_eq_true rfl) dP_insert_56 ⟨Nat.le_of_ble_eq_true rfl, Nat.le_of_ble_eq_true rfl⟩ (fun en1 H locs he hP hS => ?_)
    obtain rfl := he
    refine lv_aload_n hx hb dP_insert_59 rfl (lv_at hl 2 rfl) ?_
    refine g_get F hK hP (0) (by decide) rfl rfl iP 3 (by decide) k1_73 rfl dP_insert_60 ?_
    refine g_V (k := 0) F htw hB hS hP (2 + 2 * dr) (by omega) (en_T _ _ _ _ _ _ _ _ _ _ hdr) rfl (c_clr G hC (fun _ => 0)) k2_4 k2_5 k2_6 k1_2 k2_7 (by decide +kernel) rfl rfl ⟨Nat.le_of_ble_eq_true rfl, Nat.le_of_ble_eq_true rfl⟩ rfl hl.1 rfl (Nat.le_of_ble_eq_true rfl) dP_insert_63 ⟨Nat.le_of_ble_eq_true rfl, Nat.le_of_ble_eq_true rfl⟩ (fun en1 H locs he hP hS => ?_)
    obtain ⟨S, rfl, hC, hDr⟩ := he
    refine lv_aload_n hx hb dP_insert_66 rfl (lv_at hl 2 rfl) ?_
    refine g_get F hK hP (0) (by decide) rfl rfl iP 3 (by decide) k1_73 rfl dP_insert_67 ?_
    refine lv_aload hx hb dP_insert_70 (lv_at hl 1 rfl) ?_
    refine lv_iconst (v := 0) hx hb dP_insert_72 (by decide) ?_
    refine lv_iload_n hx hb dP_insert_73 rfl (lv_at hl 4 rfl) ?_
    rw [show (0 : Int32) = nI 0 from rfl]
    refine g_V (k := 3) F htw hB hS hP (2 + 2 * dr) (by omega) (en_T _ _ _ _ _ _ _ _ _ _ hdr) rfl (c_addR G hC hDr hk (by omega) (by omega) hn_k (by omega)) k2_8 k2_9 k2_10 k1_2 k2_11 (by decide +kernel) rfl rfl ⟨Nat.le_of_ble_eq_true rfl, Nat.le_of_ble_eq_true rfl⟩ rfl hl.1 rfl (Nat.le_of_ble_eq_true rfl) dP_insert_74 ⟨Nat.le_of_ble_eq_true rfl, Nat.le_of_ble_eq_true rfl⟩ (fun en1 H locs he hP hS => ?_)
    obtain ⟨S, rfl, hC, hDr⟩ := he
    refine lv_aload_n hx hb dP_insert_77 rfl (lv_at hl 2 rfl) ?_
    refine g_get F hK hP (0) (by decide) rfl rfl iP 3 (by decide) k1_73 rfl dP_insert_78 ?_
    refine lv_aload hx hb dP_insert_81 (lv_at hl 0 rfl) ?_
    refine lv_iload hx hb dP_insert_83 (lv_at hl 6 rfl) ?_
    refine lv_iload hx hb dP_insert_85 (lv_at hl 7 rfl) ?_
    refine g_V (k := 3) F htw hB hS hP (2 + 2 * dr) (by omega) (en_T _ _ _ _ _ _ _ _ _ _ hdr) rfl (c_addR G hC hDr hj (by omega) (by omega) hn_j (by omega)) k2_8 k2_9 k2_10 k1_2 k2_11 (by decide +kernel) rfl rfl ⟨Nat.le_of_ble_eq_true rfl, Nat.le_of_ble_eq_true rfl⟩ rfl hl.1 rfl (Nat.le_of_ble_eq_true rfl) dP_insert_87 ⟨Nat.le_of_ble_eq_true rfl, Nat.le_of_ble_eq_true rfl⟩ (fun en1 H locs he hP hS => ?_)
    obtain ⟨S, rfl, hC, hDr⟩ := he
    refine lv_aload_n hx hb dP_insert_90 rfl (lv_at hl 2 rfl) ?_
    refine g_get F hK hP (0) (by decide) rfl rfl iP 3 (by decide) k1_73 rfl dP_insert_91 ?_
    refine lv_aload hx hb dP_insert_94 (lv_at hl 1 rfl) ?_
    refine lv_iload_n hx hb dP_insert_96 rfl (lv_at hl 4 rfl) ?_
    refine lv_aload hx hb dP_insert_97 (lv_at hl 1 rfl) ?_
    refine g_get F hK hP (2 + 2 * pi k) (by omega) (en_T _ _ _ _ _ _ _ _ _ _ hp_k) rfl iT 1 (by decide) k1_34 rfl dP_insert_99 ?_
    rw [hC.2.2.2.1 k hk]
    refine g_V (k := 3) F htw hB hS hP (2 + 2 * dr) (by omega) (en_T _ _ _ _ _ _ _ _ _ _ hdr) rfl (c_addR G hC hDr hk (by omega) (by omega) hn_k (by omega)) k2_8 k2_9 k2_10 k1_2 k2_11 (by decide +kernel) rfl rfl ⟨Nat.le_of_ble_eq_true rfl, Nat.le_of_ble_eq_true rfl⟩ rfl hl.1 rfl (Nat.le_of_ble_eq_true rfl) dP_insert_102 ⟨Nat.le_of_ble_eq_true rfl, Nat.le_of_ble_eq_true rfl⟩ (fun en1 H locs he hP hS => ?_)
    obtain ⟨S, rfl, hC, hDr⟩ := he
    refine lv_aload_n hx hb dP_insert_105 rfl (lv_at hl 2 rfl) ?_
    refine lv_iload_n hx hb dP_insert_106 rfl (lv_at hl 3 rfl) ?_
    refine g_V (k := 1) F htw hB hS hP (0) (by decide) rfl rfl (c_swap G hC hDr hk) k2_15 k2_17 k0_2 k1_1 k2_18 (by decide +kernel) rfl rfl ⟨Nat.le_of_ble_eq_true rfl, Nat.le_of_ble_eq_true rfl⟩ rfl hl.1 rfl (Nat.le_of_ble_eq_true rfl) dP_insert_107 ⟨Nat.le_of_ble_eq_true rfl, Nat.le_of_ble_eq_true rfl⟩ (fun en1 H locs he hP hS => ?_)
    obtain ⟨pi1, dr1, S, rfl, hC⟩ := he
    have hC := hC.to (k' := a_n a k + (t1 - f1)) (g' := cat (cat (a_b a k) b (fun i => a_b a j (f1 + i))) (b + (t1 - f1)) (fun i => a_b a k (b + i))) (by omega) (fun i hi => by simp [cat])
    rw [show 0 + (b - 0) + (t1 - f1) + (a_n a k - b) = a_n a k + (t1 - f1) by omega]
    have hk1 : (c_insert a (nI k) (nI b) (nI j) (nI f1) (nI t1)) = 0 := by simp [c_insert, dk_nI hk, ix_nI (show k < 2 ^ 31 by omega), dk_nI hj, ix_nI (show j < 2 ^ 31 by omega), rg_nI hft htn hn_j, ix_nI (show f1 < 2 ^ 31 by omega), ix_nI (show t1 < 2 ^ 31 by omega), pc_nI hb1 hn_k, ix_nI (show b < 2 ^ 31 by omega), hg]
    refine W.widen (k := 1) (n := 6) (by decide) (by decide) ?_
    exact W.toX (W.iret hx hb hr (fun t ht hW => Or.inl ⟨hk1, ⟨by simp [dk_nI hk, ix_nI (show k < 2 ^ 31 by omega), dk_nI hj, ix_nI (show j < 2 ^ 31 by omega), rg_nI hft htn hn_j, ix_nI (show f1 < 2 ^ 31 by omega), ix_nI (show t1 < 2 ^ 31 by omega), pc_nI hb1 hn_k, ix_nI (show b < 2 ^ 31 by omega), hg], ⟨_, ⟨_, _, _, rfl, by simpa [x_insert, dk_nI hk, ix_nI (show k < 2 ^ 31 by omega), dk_nI hj, ix_nI (show j < 2 ^ 31 by omega), rg_nI hft htn hn_j, ix_nI (show f1 < 2 ^ 31 by omega), ix_nI (show t1 < 2 ^ 31 by omega), pc_nI hb1 hn_k, ix_nI (show b < 2 ^ 31 by omega), hg] using hC⟩, by rw [ht]; exact hP⟩, hS.F ht⟩⟩) hS.2.2 dP_insert_110)
  · have hk1 : (c_insert a (nI k) (nI b) (nI j) (nI f1) (nI t1)) = 3 := by simp [c_insert, hg, dk_nI hk, ix_nI (show k < 2 ^ 31 by omega), dk_nI hj, ix_nI (show j < 2 ^ 31 by omega), rg_nI hft htn hn_j, ix_nI (show f1 < 2 ^ 31 by omega), ix_nI (show t1 < 2 ^ 31 by omega), pc_nI hb1 hn_k, ix_nI (show b < 2 ^ 31 by omega)]
    exact g_STh (k := 1) F hlocks hno htw hB hS hP (c_P_requireRoom_th hst (by omega)) k1_172 k1_173 k1_1 k1_174 (by decide +kernel) rfl rfl ⟨Nat.le_of_ble_eq_true rfl, Nat.le_of_ble_eq_true rfl⟩ rfl hl.1 rfl (Nat.le_of_ble_eq_true rfl) dP_insert_56 ⟨Nat.le_of_ble_eq_true rfl, Nat.le_of_ble_eq_true rfl⟩ (by rw [hk1]; decide) (by rw [hk1]; rfl)
end M6
end
section
/-! The class's calls: write, move, repeat. -/
theorem RepD.to {dr : Nat} {S : Nat → Nat → Int32} {k k' : Nat} {g g' : Nat → Nat} (h : RepD dr S k g) (hk : k = k') (hg : ∀ i, i < k → g i = g' i) : RepD dr S k' g' := by
  subst hk
  exact ⟨h.1, fun i hi => by rw [h.2 i hi, hg i hi]⟩
theorem RepC.self {pi : Nat → Nat} {dr : Nat} {S : Nat → Nat → Int32} {a : Ab} {k : Nat} {g : Nat → Nat} (h : RepC pi dr S a) (hg : ∀ i, i < a_n a k → g i = a_b a k i) : RepC pi dr S (a_set a k (a_n a k) g) := by
  obtain ⟨c1, c2, c3, c4, c5, c6⟩ := h
  refine ⟨c1, c2, c3, fun d hd => ?_, fun d i hd hi => ?_, c6⟩
  · rw [a_set_n]; split
    · next h => subst h; exact c4 d hd
    · exact c4 d hd
  · rw [a_set_n] at hi
    rw [a_set_b]
    by_cases x1 : d = k
    · subst x1; rw [if_pos rfl] at hi ⊢; rw [hg i hi]; exact c5 d i hd hi
    · rw [if_neg x1] at hi ⊢; exact c5 d i hd hi
theorem RepC.addb {pi : Nat → Nat} {dr : Nat} {S : Nat → Nat → Int32} {a : Ab} {k m b0 : Nat} {g : Nat → Nat} (h : RepC pi dr S (a_set a k m g)) (hk : k < 4) (hb : g m = b0) :
    RepC pi dr (sr (sr S (pi k) (upd (S (pi k)) m (nI b0))) 5 (upd (S 5) (pi k) (nI (m + 1)))) (a_set a k (m + 1) g) := by
  obtain ⟨c1, c2, c3, c4, c5, c6, c7, c8, c9⟩ := h
  have hp := (c1 k hk).1
  have row : ∀ r, r ≠ 5 → r ≠ pi k → sr (sr S (pi k) (upd (S (pi k)) m (nI b0))) 5 (upd (S 5) (pi k) (nI (m + 1))) r = S r := fun r h1 h2 => by rw [sr_n h1, sr_n h2]
  refine ⟨c1, c2, c3, fun d hd => ?_, fun d i hd hi => ?_, ?_, fun q hq => ?_, fun q hq => ?_, fun q hq => ?_⟩
  · rw [sr_s, a_set_n]
    by_cases x1 : d = k
    · rw [if_pos x1, x1]; exact pk_us
    · rw [if_neg x1, pk_un (fun z => x1 (c3 d k hd hk z))]
      have := c4 d hd
      rw [a_set_n, if_neg x1] at this
      exact this
  · rw [a_set_n] at hi
    have hp2 := (c1 d hd).1
    by_cases x1 : d = k
    · subst x1
      rw [if_pos rfl] at hi
      rw [sr_n (by omega), sr_s, a_set_b, if_pos rfl]
      by_cases x2 : i = m
      · rw [x2, hb]; exact pk_us
      · rw [pk_un x2]
        have := c5 d i hd (by rw [a_set_n, if_pos rfl]; omega)
        rw [a_set_b, if_pos rfl] at this
        exact this
    · rw [if_neg x1] at hi
      rw [row _ (by omega) (fun z => x1 (c3 d k hd hk z)), a_set_b, if_neg x1]
      have := c5 d i hd (by rw [a_set_n, if_neg x1]; exact hi)
      rw [a_set_b, if_neg x1] at this
      exact this
  · rw [row 7 (by decide) (by omega)]; exact c6
  · rw [row 6 (by decide) (by omega)]; exact c7 q hq
  · rw [row 8 (by decide) (by omega)]; exact c8 q hq
  · rw [row 9 (by decide) (by omega)]; exact c9 q hq
section M7
variable {l : Launch} {D : va_G} {cI cZ cT cJ : ClassId} {base : Nat} {ad : Nat → Nat} {pi : Nat → Nat} {dr : Nat} {S M : Nat → Nat → Int32} {o : Nat → Int64} {a : Ab}
theorem c_addB (G : gGeo ad 25 base) {k m b0 : Nat} {g : Nat → Nat} (hC : RepC pi dr S (a_set a k m g)) (hk : k < 4) (hm : m < 1000) (hb : g m = b0) : Met l yT_add (Cond.code yT_add bT_add 2 none :: tws) { frames := 0, cells := 0, slots := 0, locals := 0 } (gPc (tw D cI cZ cT cJ base) D cl ad 25 base (en ad cI cZ cT cJ pi dr S M o) [.ref (ad (2 + 2 * pi k)), .int (nI b0)]) (gQc D cl ad 25 base none (fun e => ∃ S1 : Nat → Nat → Int32, e = en ad cI cZ cT cJ pi dr S1 M o ∧ RepC pi dr S1 (a_set a k (m + 1) g))) 0 0 (gA base) :=
  gQ_imp (c_T_add G (hC.1 k hk).1 hm (by have := hC.2.2.2.1 k hk; rw [a_set_n, if_pos rfl] at this; exact this) (nI b0)) rfl (fun e he => ⟨_, he, hC.addb hk hb⟩)
set_option maxHeartbeats 4000000 in
set_option maxRecDepth 100000 in
theorem c_P_write (hst : l.stackTraces = false) (G : gGeo ad 25 base) (ha : a_ok a) (hC : RepC pi dr S a) (d : Int32) (v : Int64) (n : Int32) : MetX l yP_write (Cond.code yP_write bP_write 7 (some .int) :: tws) { frames := 8, cells := 1, slots := 6, locals := 123 } (gPc (tw D cI cZ cT cJ base) D cl ad 25 base (en ad cI cZ cT cJ pi dr S M o) [.ref (ad 0), .int d, .long v, .int n]) (gQx D cl ad 25 base (en ad cI cZ cT cJ pi dr S M o) ["java/lang/IllegalArgumentException", "java/lang/UnsupportedOperationException"] (c_write a d n) (some (.int (nI (a_n a (ix d) + ix n)))) (fun e => ∃ (pi1 : Nat → Nat) (dr1 : Nat) (S1 : Nat → Nat → Int32), e = en ad cI cZ cT cJ pi1 dr1 S1 M o ∧ RepC pi1 dr1 S1 (x_write a d v n))) 1 6 (gA base) := by
  refine MetX.ofW (cc := bP_write) (maxL := 7) (ret := (some .int)) (by decide) rfl ?_
  intro p e s m args below meth c s₁ B hml hv
  obtain ⟨rfl, htw, hB, hP⟩ := hv
  have hx := B.exec
  have hb := B.bytes
  have hr := B.returns
  have hts0 := atoms_spec (ws := Cond.code yP_write bP_write 7 (some .int) :: tws) B.pre
  have hts : ∀ w ∈ tws, w.before _ s = true := fun w h => hts0 w (List.mem_cons_of_mem _ h)
  have hown : s.vm.findClass "PairedTexts" = some m.cls := findClass_of_methodNamed B.named
  have hlocks := B.notSynchronized
  have hno := B.noHandlers (hts0 _ List.mem_cons_self)
  have F : CallFix p m c bP_write 7 s _ tws "PairedTexts" := ⟨hx, hb, hml, hown, hts⟩
  have hK := htw.1
  have hS : va_S (gA base) s.heap s.heap [] := va_S.rf
  have hl := lv_entry ([.ref (ad 0), .int d, .long v, .int n]) (n := 7) (Nat.le_of_ble_eq_true rfl)
  rw [lg_entry_eq]
  generalize (lg_sl ([.ref (ad 0), .int d, .long v, .int n]) ++ List.replicate (7 - (lg_sl ([.ref (ad 0), .int d, .long v, .int n])).length) Slot.unset).toArray = ls at hl ⊢
  have hl : lv_has ls 7 [(0, .ref (ad 0)), (1, .int d), (2, .long v), (4, .int n)] := hl
  have hdr := hC.2.1
  have z1 : (1 : Int32).toInt = 1 := rfl
  have z8 : (8 : Int32).toInt = 8 := rfl
  refine lv_aload_n hx hb dP_write_0 rfl (lv_at hl 0 rfl) ?_
  refine lv_iload_n hx hb dP_write_1 rfl (lv_at hl 1 rfl) ?_
  rcases dk_or d with hd | ⟨k, hk, rfl⟩
  · have hk1 : (c_write a d n) = 1 := by simp [c_write, hd.1]
    exact g_VTh (k := 1) F hlocks hno htw hB hS hP (0) (by decide) rfl rfl (c_P_textOf_th hst hd.2) k1_92 k1_94 k0_0 k1_1 k1_95 (by decide +kernel) rfl rfl ⟨Nat.le_of_ble_eq_true rfl, Nat.le_of_ble_eq_true rfl⟩ rfl hl.1 rfl (Nat.le_of_ble_eq_true rfl) dP_write_2 ⟨Nat.le_of_ble_eq_true rfl, Nat.le_of_ble_eq_true rfl⟩ (by rw [hk1]; decide) (by rw [hk1]; rfl)
  refine g_V (k := 1) F htw hB hS hP (0) (by decide) rfl rfl (c_P_textOf hk) k1_92 k1_94 k0_0 k1_1 k1_95 (by decide +kernel) rfl rfl ⟨Nat.le_of_ble_eq_true rfl, Nat.le_of_ble_eq_true rfl⟩ rfl hl.1 rfl (Nat.le_of_ble_eq_true rfl) dP_write_2 ⟨Nat.le_of_ble_eq_true rfl, Nat.le_of_ble_eq_true rfl⟩ (fun en1 H locs he hP hS => ?_)
  obtain rfl := he
  have hp_k := (hC.1 k hk).1
  have hn_k := ha.1 k hk
  have h5_k := hC.2.2.2.1 k hk
  refine lv_astore hx hb dP_write_5 hl (by decide) rfl (fun ls hl => ?_)
  have hl : lv_has ls 7 [(5, .ref _), (0, .ref _), (1, .int _), (2, .long _), (4, .int _)] := hl
  refine lv_iload hx hb dP_write_7 (lv_at hl 4 rfl) ?_
  refine lv_iconst (v := 1) hx hb dP_write_9 (by decide) ?_
  rcases bt_or n 8 with hg | ⟨j, hj1, hj8, rfl⟩
  · have hk1 : (c_write a (nI k) n) = 1 := by simp [c_write, dk_nI hk, ix_nI (show k < 2 ^ 31 by omega), show btw n 1 8 = false from hg.1]
    refine lv_icmp_lt (tgt := 24) hx hb dP_write_10 (by decide) (fun hc => ?_) (fun hc => ?_)
    · refine lv_iconst (v := 0) hx hb dP_write_24 (by decide) ?_
      exact g_STh (k := 1) F hlocks hno htw hB hS hP (c_P_requireArgument_th hst) k1_168 k1_169 k1_1 k1_170 (by decide +kernel) rfl rfl ⟨Nat.le_of_ble_eq_true rfl, Nat.le_of_ble_eq_true rfl⟩ rfl hl.1 rfl (Nat.le_of_ble_eq_true rfl) dP_write_25 ⟨Nat.le_of_ble_eq_true rfl, Nat.le_of_ble_eq_true rfl⟩ (by rw [hk1]; decide) (by rw [hk1]; rfl)
    · rw [Int32.lt_iff_toInt_lt] at hc
      refine lv_iload hx hb dP_write_13 (lv_at hl 4 rfl) ?_
      refine lv_bipush (v := 8) hx hb dP_write_15 (by decide) ?_
      refine lv_icmp_gt (tgt := 24) hx hb dP_write_17 (by decide) (fun _ => ?_) (fun hc => absurd (by rw [Int32.lt_iff_toInt_lt]; omega) hc)
      refine lv_iconst (v := 0) hx hb dP_write_24 (by decide) ?_
      exact g_STh (k := 1) F hlocks hno htw hB hS hP (c_P_requireArgument_th hst) k1_168 k1_169 k1_1 k1_170 (by decide +kernel) rfl rfl ⟨Nat.le_of_ble_eq_true rfl, Nat.le_of_ble_eq_true rfl⟩ rfl hl.1 rfl (Nat.le_of_ble_eq_true rfl) dP_write_25 ⟨Nat.le_of_ble_eq_true rfl, Nat.le_of_ble_eq_true rfl⟩ (by rw [hk1]; decide) (by rw [hk1]; rfl)
  have zj := nI_toInt (show j < 2 ^ 31 by omega)
  refine lv_icmp_lt (tgt := 24) hx hb dP_write_10 (by decide) (fun hc => absurd hc (by rw [Int32.lt_iff_toInt_lt]; omega)) (fun _ => ?_)
  refine lv_iload hx hb dP_write_13 (lv_at hl 4 rfl) ?_
  refine lv_bipush (v := 8) hx hb dP_write_15 (by decide) ?_
  refine lv_icmp_gt (tgt := 24) hx hb dP_write_17 (by decide) (fun hc => absurd hc (by rw [Int32.lt_iff_toInt_lt]; omega)) (fun _ => ?_)
  refine lv_iconst (v := 1) hx hb dP_write_20 (by decide) ?_
  refine lv_goto (tgt := 25) hx hb dP_write_21 (by decide) ?_
  refine g_S (k := 1) F htw hB hS hP (c_P_requireArgument) k1_168 k1_169 k1_1 k1_170 (by decide +kernel) rfl rfl ⟨Nat.le_of_ble_eq_true rfl, Nat.le_of_ble_eq_true rfl⟩ rfl hl.1 rfl (Nat.le_of_ble_eq_true rfl) dP_write_25 ⟨Nat.le_of_ble_eq_true rfl, Nat.le_of_ble_eq_true rfl⟩ (fun en1 H locs he hP hS => ?_)
  obtain rfl := he
  refine lv_aload hx hb dP_write_28 (lv_at hl 0 rfl) ?_
  refine g_get F hK hP (2 + 2 * pi k) (by omega) (en_T _ _ _ _ _ _ _ _ _ _ hp_k) rfl iT 1 (by decide) k1_34 rfl dP_write_30 ?_
  refine lv_iload hx hb dP_write_33 (lv_at hl 4 rfl) ?_
  refine lv_iadd hx hb dP_write_35 ?_
  refine lv_i2l hx hb dP_write_36 rfl ?_
  rw [h5_k, nI_add, nI_l (show a_n a k + j < 2 ^ 31 by omega)]
  have zr := lN_toInt (show a_n a k + j < 2 ^ 31 by omega)
  by_cases hg : a_n a k + j ≤ 1000
  · refine g_S (k := 1) F htw hB hS hP (c_P_requireRoom (by omega)) k1_172 k1_173 k1_1 k1_174 (by decide +kernel) rfl rfl ⟨Nat.le_of_ble_eq_true rfl, Nat.le_of_ble_eq_true rfl⟩ rfl hl.1 rfl (Nat.le_of_ble_eq_true rfl) dP_write_37 ⟨Nat.le_of_ble_eq_true rfl, Nat.le_of_ble_eq_true rfl⟩ (fun en1 H locs he hP hS => ?_)
    obtain rfl := he
    refine lv_iconst (v := 0) hx hb dP_write_40 (by decide) ?_
    refine lv_istore hx hb dP_write_41 hl (by decide) rfl (fun ls hl => ?_)
    have hl : lv_has ls 7 [(6, .int _), (5, .ref _), (0, .ref _), (1, .int _), (2, .long _), (4, .int _)] := hl
    have hC := hC.self (k := k) (g := (cat (a_b a k) (a_n a k) (byt v))) (fun i hi => by simp [cat, hi])
    refine W.loop (α := Nat × (Nat → Nat → Int32)) (fun t a1 ls H locs => a1.1 + t = j ∧ RepC pi dr a1.2 (a_set a k (a_n a k + a1.1) (cat (a_b a k) (a_n a k) (byt v))) ∧ lv_has ls 7 [(6, .int (nI a1.1)), (5, .ref (ad (2 + 2 * pi k))), (0, .ref (ad 0)), (1, .int (nI k)), (2, .long v), (4, .int (nI j))] ∧ va_P D cl (gw ad (en ad cI cZ cT cJ pi dr a1.2 M o) 25) H ∧ va_S (gA base) s.heap H locs) ?_ (t := j) (a := (0, S)) ⟨by show 0 + j = j; omega, hC, hl, hP, hS⟩
    clear hl hP hS
    intro t a1 ls H locs hI ih
    obtain ⟨u, S⟩ := a1
    obtain ⟨i0, i1, hl, hP, hS⟩ := hI
    try dsimp only at i0 i1 hl hP
    by_cases ht : t = 0
    · have hu : j = u := by omega
      subst hu
      refine lv_iload hx hb dP_write_43 (lv_at hl 0 rfl) ?_
      refine lv_iload hx hb dP_write_45 (lv_at hl 5 rfl) ?_
      refine lv_icmp_ge (tgt := 67) hx hb dP_write_47 (by decide) (fun _ => ?_) (fun hc => absurd (by rw [nI_leI (by omega) (by omega)]; omega) hc)
      refine lv_aload hx hb dP_write_67 (lv_at hl 1 rfl) ?_
      refine g_get F hK hP (2 + 2 * pi k) (by omega) (en_T _ _ _ _ _ _ _ _ _ _ hp_k) rfl iT 1 (by decide) k1_34 rfl dP_write_69 ?_
      have h5 := i1.2.2.2.1 k hk
      rw [a_set_n, if_pos rfl] at h5
      rw [h5]
      have hk1 : (c_write a (nI k) (nI j)) = 0 := by simp [c_write, dk_nI hk, ix_nI (show k < 2 ^ 31 by omega), show btw (nI j) 1 8 = true from bt_nI (b := 8) hj1 hj8 (by decide), ix_nI (show j < 2 ^ 31 by omega), hg]
      refine W.widen (k := 1) (n := 6) (by decide) (by decide) ?_
      exact W.toX (W.iret hx hb hr (fun t ht hW => Or.inl ⟨hk1, ⟨by simp [dk_nI hk, ix_nI (show k < 2 ^ 31 by omega), show btw (nI j) 1 8 = true from bt_nI (b := 8) hj1 hj8 (by decide), ix_nI (show j < 2 ^ 31 by omega), hg], ⟨_, ⟨_, _, _, rfl, by simpa [x_write, dk_nI hk, ix_nI (show k < 2 ^ 31 by omega), show btw (nI j) 1 8 = true from bt_nI (b := 8) hj1 hj8 (by decide), ix_nI (show j < 2 ^ 31 by omega), hg] using i1⟩, by rw [ht]; exact hP⟩, hS.F ht⟩⟩) hS.2.2 dP_write_72)
    · refine lv_iload hx hb dP_write_43 (lv_at hl 0 rfl) ?_
      refine lv_iload hx hb dP_write_45 (lv_at hl 5 rfl) ?_
      refine lv_icmp_ge (tgt := 67) hx hb dP_write_47 (by decide) (fun hc => absurd hc (by rw [nI_leI (by omega) (by omega)]; omega)) (fun _ => ?_)
      refine lv_aload hx hb dP_write_50 (lv_at hl 1 rfl) ?_
      refine lv_lload_n hx hb dP_write_52 rfl (lv_at hl 4 rfl) ?_
      refine lv_iload hx hb dP_write_53 (lv_at hl 0 rfl) ?_
      refine g_S (k := 2) F htw hB hS hP (c_P_byteOf v (k := u) (by omega)) k1_192 k1_193 k1_1 k1_194 (by decide +kernel) rfl rfl ⟨Nat.le_of_ble_eq_true rfl, Nat.le_of_ble_eq_true rfl⟩ rfl hl.1 rfl (Nat.le_of_ble_eq_true rfl) dP_write_55 ⟨Nat.le_of_ble_eq_true rfl, Nat.le_of_ble_eq_true rfl⟩ (fun en1 H locs he hP hS => ?_)
      obtain rfl := he
      refine g_V (k := 1) F htw hB hS hP (2 + 2 * pi k) (by omega) (en_T _ _ _ _ _ _ _ _ _ _ hp_k) rfl (c_addB G i1 hk (by omega) (by unfold cat; rw [if_neg (by omega)]; congr 1; omega)) k1_195 k1_196 k1_197 k1_2 k1_198 (by decide +kernel) rfl rfl ⟨Nat.le_of_ble_eq_true rfl, Nat.le_of_ble_eq_true rfl⟩ rfl hl.1 rfl (Nat.le_of_ble_eq_true rfl) dP_write_58 ⟨Nat.le_of_ble_eq_true rfl, Nat.le_of_ble_eq_true rfl⟩ (fun en1 H locs he hP hS => ?_)
      obtain ⟨S, rfl, i1⟩ := he
      refine lv_iinc (k := 0) hx hb dP_write_61 hl rfl rfl (by decide) rfl (fun ls hl => ?_)
      have hl : lv_has ls 7 [(6, .int _), (5, .ref _), (0, .ref _), (1, .int _), (2, .long _), (4, .int _)] := hl
      refine lv_goto (tgt := 43) hx hb dP_write_64 (by decide) ?_
      have hl : lv_has ls 7 [(6, .int (nI (u + 1))), (5, .ref (ad (2 + 2 * pi k))), (0, .ref (ad 0)), (1, .int (nI k)), (2, .long v), (4, .int (nI j))] := by rw [← nI_1]; exact hl
      exact ih (t - 1) (u + 1, S) _ _ _ (by omega) ⟨by show u + 1 + (t - 1) = j; omega, i1, hl, hP, hS⟩
  · have hk1 : (c_write a (nI k) (nI j)) = 2 := by simp [c_write, hg, dk_nI hk, ix_nI (show k < 2 ^ 31 by omega), show btw (nI j) 1 8 = true from bt_nI (b := 8) hj1 hj8 (by decide), ix_nI (show j < 2 ^ 31 by omega)]
    exact g_STh (k := 1) F hlocks hno htw hB hS hP (c_P_requireRoom_th hst (by omega)) k1_172 k1_173 k1_1 k1_174 (by decide +kernel) rfl rfl ⟨Nat.le_of_ble_eq_true rfl, Nat.le_of_ble_eq_true rfl⟩ rfl hl.1 rfl (Nat.le_of_ble_eq_true rfl) dP_write_37 ⟨Nat.le_of_ble_eq_true rfl, Nat.le_of_ble_eq_true rfl⟩ (by rw [hk1]; decide) (by rw [hk1]; rfl)
set_option maxHeartbeats 4000000 in
set_option maxRecDepth 100000 in
theorem c_P_move (hst : l.stackTraces = false) (G : gGeo ad 25 base) (ha : a_ok a) (hC : RepC pi dr S a) (d f t q : Int32) : MetX l yP_move (Cond.code yP_move bP_move 7 (some .int) :: tws) { frames := 8, cells := 1, slots := 6, locals := 123 } (gPc (tw D cI cZ cT cJ base) D cl ad 25 base (en ad cI cZ cT cJ pi dr S M o) [.ref (ad 0), .int d, .int f, .int t, .int q]) (gQx D cl ad 25 base (en ad cI cZ cT cJ pi dr S M o) ["java/lang/IllegalArgumentException", "java/lang/IndexOutOfBoundsException"] (c_move a d f t q) (some (.int (nI (a_n a (ix d))))) (fun e => ∃ (pi1 : Nat → Nat) (dr1 : Nat) (S1 : Nat → Nat → Int32), e = en ad cI cZ cT cJ pi1 dr1 S1 M o ∧ RepC pi1 dr1 S1 (x_move a d f t q))) 1 6 (gA base) := by
  refine MetX.ofW (cc := bP_move) (maxL := 7) (ret := (some .int)) (by decide) rfl ?_
  intro p e s m args below meth c s₁ B hml hv
  obtain ⟨rfl, htw, hB, hP⟩ := hv
  have hx := B.exec
  have hb := B.bytes
  have hr := B.returns
  have hts0 := atoms_spec (ws := Cond.code yP_move bP_move 7 (some .int) :: tws) B.pre
  have hts : ∀ w ∈ tws, w.before _ s = true := fun w h => hts0 w (List.mem_cons_of_mem _ h)
  have hown : s.vm.findClass "PairedTexts" = some m.cls := findClass_of_methodNamed B.named
  have hlocks := B.notSynchronized
  have hno := B.noHandlers (hts0 _ List.mem_cons_self)
  have F : CallFix p m c bP_move 7 s _ tws "PairedTexts" := ⟨hx, hb, hml, hown, hts⟩
  have hK := htw.1
  have hS : va_S (gA base) s.heap s.heap [] := va_S.rf
  have hl := lv_entry ([.ref (ad 0), .int d, .int f, .int t, .int q]) (n := 7) (Nat.le_of_ble_eq_true rfl)
  rw [lg_entry_eq]
  generalize (lg_sl ([.ref (ad 0), .int d, .int f, .int t, .int q]) ++ List.replicate (7 - (lg_sl ([.ref (ad 0), .int d, .int f, .int t, .int q])).length) Slot.unset).toArray = ls at hl ⊢
  have hl : lv_has ls 7 [(0, .ref (ad 0)), (1, .int d), (2, .int f), (3, .int t), (4, .int q)] := hl
  have hdr := hC.2.1
  have z0 : (0 : Int32).toInt = 0 := rfl
  refine lv_aload_n hx hb dP_move_0 rfl (lv_at hl 0 rfl) ?_
  refine lv_iload_n hx hb dP_move_1 rfl (lv_at hl 1 rfl) ?_
  rcases dk_or d with hd | ⟨k, hk, rfl⟩
  · have hk1 : (c_move a d f t q) = 1 := by simp [c_move, hd.1]
    exact g_VTh (k := 1) F hlocks hno htw hB hS hP (0) (by decide) rfl rfl (c_P_textOf_th hst hd.2) k1_92 k1_94 k0_0 k1_1 k1_95 (by decide +kernel) rfl rfl ⟨Nat.le_of_ble_eq_true rfl, Nat.le_of_ble_eq_true rfl⟩ rfl hl.1 rfl (Nat.le_of_ble_eq_true rfl) dP_move_2 ⟨Nat.le_of_ble_eq_true rfl, Nat.le_of_ble_eq_true rfl⟩ (by rw [hk1]; decide) (by rw [hk1]; rfl)
  refine g_V (k := 1) F htw hB hS hP (0) (by decide) rfl rfl (c_P_textOf hk) k1_92 k1_94 k0_0 k1_1 k1_95 (by decide +kernel) rfl rfl ⟨Nat.le_of_ble_eq_true rfl, Nat.le_of_ble_eq_true rfl⟩ rfl hl.1 rfl (Nat.le_of_ble_eq_true rfl) dP_move_2 ⟨Nat.le_of_ble_eq_true rfl, Nat.le_of_ble_eq_true rfl⟩ (fun en1 H locs he hP hS => ?_)
  obtain rfl := he
  have hp_k := (hC.1 k hk).1
  have hn_k := ha.1 k hk
  have h5_k := hC.2.2.2.1 k hk
  refine lv_astore hx hb dP_move_5 hl (by decide) rfl (fun ls hl => ?_)
  have hl : lv_has ls 7 [(5, .ref _), (0, .ref _), (1, .int _), (2, .int _), (3, .int _), (4, .int _)] := hl
  refine lv_aload hx hb dP_move_7 (lv_at hl 0 rfl) ?_
  refine lv_iload_n hx hb dP_move_9 rfl (lv_at hl 3 rfl) ?_
  refine lv_iload_n hx hb dP_move_10 rfl (lv_at hl 4 rfl) ?_
  refine lv_i2l hx hb dP_move_11 rfl ?_
  refine g_V (k := 2) F htw hB hS hP (2 + 2 * pi k) (by omega) (en_T _ _ _ _ _ _ _ _ _ _ hp_k) rfl (c_rng hC ha hk f t) k2_0 k2_1 k2_2 k1_2 k2_3 (by decide +kernel) rfl rfl ⟨Nat.le_of_ble_eq_true rfl, Nat.le_of_ble_eq_true rfl⟩ rfl hl.1 rfl (Nat.le_of_ble_eq_true rfl) dP_move_12 ⟨Nat.le_of_ble_eq_true rfl, Nat.le_of_ble_eq_true rfl⟩ (fun en1 H locs he hP hS => ?_)
  obtain rfl := he
  rcases rg_or f t hn_k with hr | ⟨f1, t1, hft, htn, rfl, rfl⟩
  · have hk1 : (c_move a (nI k) f t q) = 2 := by simp [c_move, dk_nI hk, ix_nI (show k < 2 ^ 31 by omega), hr]
    rw [show (if rg f t (a_n a k) then (1 : Int32) else 0) = 0 from by rw [hr]; rfl]
    exact g_STh (k := 1) F hlocks hno htw hB hS hP (c_P_requireInside_th hst) k1_214 k1_215 k1_1 k1_216 (by decide +kernel) rfl rfl ⟨Nat.le_of_ble_eq_true rfl, Nat.le_of_ble_eq_true rfl⟩ rfl hl.1 rfl (Nat.le_of_ble_eq_true rfl) dP_move_15 ⟨Nat.le_of_ble_eq_true rfl, Nat.le_of_ble_eq_true rfl⟩ (by rw [hk1]; decide) (by rw [hk1]; rfl)
  rw [show (if rg (nI f1) (nI t1) (a_n a k) then (1 : Int32) else 0) = 1 from if_pos (rg_nI hft htn hn_k)]
  refine g_S (k := 1) F htw hB hS hP (c_P_requireInside) k1_214 k1_215 k1_1 k1_216 (by decide +kernel) rfl rfl ⟨Nat.le_of_ble_eq_true rfl, Nat.le_of_ble_eq_true rfl⟩ rfl hl.1 rfl (Nat.le_of_ble_eq_true rfl) dP_move_15 ⟨Nat.le_of_ble_eq_true rfl, Nat.le_of_ble_eq_true rfl⟩ (fun en1 H locs he hP hS => ?_)
  obtain rfl := he
  refine lv_iload_n hx hb dP_move_18 rfl (lv_at hl 4 rfl) ?_
  refine lv_iload_n hx hb dP_move_19 rfl (lv_at hl 3 rfl) ?_
  refine lv_isub hx hb dP_move_20 ?_
  rw [pk_sub hft]
  refine lv_istore hx hb dP_move_21 hl (by decide) rfl (fun ls hl => ?_)
  have hl : lv_has ls 7 [(6, .int _), (5, .ref _), (0, .ref _), (1, .int _), (2, .int _), (3, .int _), (4, .int _)] := hl
  refine lv_iload hx hb dP_move_23 (lv_at hl 6 rfl) ?_
  rcases pc_or q (show a_n a k - (t1 - f1) ≤ 1000 by omega) with hg | ⟨b, hb1, rfl⟩
  · have hk1 : (c_move a (nI k) (nI f1) (nI t1) q) = 2 := by simp [c_move, dk_nI hk, ix_nI (show k < 2 ^ 31 by omega), rg_nI hft htn hn_k, ix_nI (show f1 < 2 ^ 31 by omega), ix_nI (show t1 < 2 ^ 31 by omega), hg]
    have hg2 : q.toInt < 0 ∨ ((a_n a k - (t1 - f1) : Nat) : Int) < q.toInt := by unfold pcL at hg; simp only [decide_eq_false_iff_not] at hg; omega
    refine lv_if_lt (tgt := 45) hx hb dP_move_25 (by decide) (fun hc => ?_) (fun hc => ?_)
    · refine lv_iconst (v := 0) hx hb dP_move_45 (by decide) ?_
      exact g_STh (k := 1) F hlocks hno htw hB hS hP (c_P_requireInside_th hst) k1_214 k1_215 k1_1 k1_216 (by decide +kernel) rfl rfl ⟨Nat.le_of_ble_eq_true rfl, Nat.le_of_ble_eq_true rfl⟩ rfl hl.1 rfl (Nat.le_of_ble_eq_true rfl) dP_move_46 ⟨Nat.le_of_ble_eq_true rfl, Nat.le_of_ble_eq_true rfl⟩ (by rw [hk1]; decide) (by rw [hk1]; rfl)
    · rw [Int32.lt_iff_toInt_lt] at hc
      refine lv_iload hx hb dP_move_28 (lv_at hl 6 rfl) ?_
      refine lv_aload hx hb dP_move_30 (lv_at hl 1 rfl) ?_
      refine g_get F hK hP (2 + 2 * pi k) (by omega) (en_T _ _ _ _ _ _ _ _ _ _ hp_k) rfl iT 1 (by decide) k1_34 rfl dP_move_32 ?_
      refine lv_iload hx hb dP_move_35 (lv_at hl 0 rfl) ?_
      refine lv_isub hx hb dP_move_37 ?_
      have zz := nI_toInt (show a_n a k - (t1 - f1) < 2 ^ 31 by omega)
      rw [h5_k, pk_sub (by omega)]
      refine lv_icmp_gt (tgt := 45) hx hb dP_move_38 (by decide) (fun _ => ?_) (fun hc => absurd (by rw [Int32.lt_iff_toInt_lt]; omega) hc)
      refine lv_iconst (v := 0) hx hb dP_move_45 (by decide) ?_
      exact g_STh (k := 1) F hlocks hno htw hB hS hP (c_P_requireInside_th hst) k1_214 k1_215 k1_1 k1_216 (by decide +kernel) rfl rfl ⟨Nat.le_of_ble_eq_true rfl, Nat.le_of_ble_eq_true rfl⟩ rfl hl.1 rfl (Nat.le_of_ble_eq_true rfl) dP_move_46 ⟨Nat.le_of_ble_eq_true rfl, Nat.le_of_ble_eq_true rfl⟩ (by rw [hk1]; decide) (by rw [hk1]; rfl)
  have zb := nI_toInt (show b < 2 ^ 31 by omega)
  refine lv_if_lt (tgt := 45) hx hb dP_move_25 (by decide) (fun hc => absurd hc (by rw [Int32.lt_iff_toInt_lt]; omega)) (fun _ => ?_)
  refine lv_iload hx hb dP_move_28 (lv_at hl 6 rfl) ?_
  refine lv_aload hx hb dP_move_30 (lv_at hl 1 rfl) ?_
  refine g_get F hK hP (2 + 2 * pi k) (by omega) (en_T _ _ _ _ _ _ _ _ _ _ hp_k) rfl iT 1 (by decide) k1_34 rfl dP_move_32 ?_
  refine lv_iload hx hb dP_move_35 (lv_at hl 0 rfl) ?_
  refine lv_isub hx hb dP_move_37 ?_
  rw [h5_k, pk_sub (by omega)]
  refine lv_icmp_gt (tgt := 45) hx hb dP_move_38 (by decide) (fun hc => absurd hc (by rw [nI_ltI (by omega) (by omega)]; omega)) (fun _ => ?_)
  refine lv_iconst (v := 1) hx hb dP_move_41 (by decide) ?_
  refine lv_goto (tgt := 46) hx hb dP_move_42 (by decide) ?_
  refine g_S (k := 1) F htw hB hS hP (c_P_requireInside) k1_214 k1_215 k1_1 k1_216 (by decide +kernel) rfl rfl ⟨Nat.le_of_ble_eq_true rfl, Nat.le_of_ble_eq_true rfl⟩ rfl hl.1 rfl (Nat.le_of_ble_eq_true rfl) dP_move_46 ⟨Nat.le_of_ble_eq_true rfl, Nat.le_of_ble_eq_true rfl⟩ (fun en1 H locs he hP hS => ?_)
  obtain rfl := he
  refine lv_aload_n hx hb dP_move_49 rfl (lv_at hl 2 rfl) ?_
  refine g_get F hK hP (0) (by decide) rfl rfl iP 3 (by decide) k1_73 rfl dP_move_50 ?_
  refine g_V (k := 0) F htw hB hS hP (2 + 2 * dr) (by omega) (en_T _ _ _ _ _ _ _ _ _ _ hdr) rfl (c_clr G hC (fun _ => 0)) k2_4 k2_5 k2_6 k1_2 k2_7 (by decide +kernel) rfl rfl ⟨Nat.le_of_ble_eq_true rfl, Nat.le_of_ble_eq_true rfl⟩ rfl hl.1 rfl (Nat.le_of_ble_eq_true rfl) dP_move_53 ⟨Nat.le_of_ble_eq_true rfl, Nat.le_of_ble_eq_true rfl⟩ (fun en1 H locs he hP hS => ?_)
  obtain ⟨S, rfl, hC, hDr⟩ := he
  refine lv_iload hx hb dP_move_56 (lv_at hl 6 rfl) ?_
  refine lv_iload_n hx hb dP_move_58 rfl (lv_at hl 4 rfl) ?_
  have hk1 : (c_move a (nI k) (nI f1) (nI t1) (nI b)) = 0 := by simp [c_move, dk_nI hk, ix_nI (show k < 2 ^ 31 by omega), rg_nI hft htn hn_k, ix_nI (show f1 < 2 ^ 31 by omega), ix_nI (show t1 < 2 ^ 31 by omega), pc_nI hb1 (show a_n a k - (t1 - f1) ≤ 1000 by omega), ix_nI (show b < 2 ^ 31 by omega)]
  refine lv_icmp_gt (tgt := 115) hx hb dP_move_59 (by decide) (fun hc => ?_) (fun hc => ?_)
  · rw [nI_ltI (by omega) (by omega)] at hc
    refine lv_aload_n hx hb dP_move_115 rfl (lv_at hl 2 rfl) ?_
    refine g_get F hK hP (0) (by decide) rfl rfl iP 3 (by decide) k1_73 rfl dP_move_116 ?_
    refine lv_aload hx hb dP_move_119 (lv_at hl 1 rfl) ?_
    refine lv_iconst (v := 0) hx hb dP_move_121 (by decide) ?_
    refine lv_iload_n hx hb dP_move_122 rfl (lv_at hl 4 rfl) ?_
    rw [show (0 : Int32) = nI 0 from rfl]
    refine g_V (k := 3) F htw hB hS hP (2 + 2 * dr) (by omega) (en_T _ _ _ _ _ _ _ _ _ _ hdr) rfl (c_addR G hC hDr hk (by omega) (by omega) hn_k (by omega)) k2_8 k2_9 k2_10 k1_2 k2_11 (by decide +kernel) rfl rfl ⟨Nat.le_of_ble_eq_true rfl, Nat.le_of_ble_eq_true rfl⟩ rfl hl.1 rfl (Nat.le_of_ble_eq_true rfl) dP_move_123 ⟨Nat.le_of_ble_eq_true rfl, Nat.le_of_ble_eq_true rfl⟩ (fun en1 H locs he hP hS => ?_)
    obtain ⟨S, rfl, hC, hDr⟩ := he
    refine lv_aload_n hx hb dP_move_126 rfl (lv_at hl 2 rfl) ?_
    refine g_get F hK hP (0) (by decide) rfl rfl iP 3 (by decide) k1_73 rfl dP_move_127 ?_
    refine lv_aload hx hb dP_move_130 (lv_at hl 1 rfl) ?_
    refine lv_iload_n hx hb dP_move_132 rfl (lv_at hl 5 rfl) ?_
    refine lv_iload hx hb dP_move_133 (lv_at hl 6 rfl) ?_
    refine lv_iload hx hb dP_move_135 (lv_at hl 0 rfl) ?_
    refine lv_iadd hx hb dP_move_137 ?_
    rw [nI_add]
    refine g_V (k := 3) F htw hB hS hP (2 + 2 * dr) (by omega) (en_T _ _ _ _ _ _ _ _ _ _ hdr) rfl (c_addR G hC hDr hk (by omega) (by omega) hn_k (by omega)) k2_8 k2_9 k2_10 k1_2 k2_11 (by decide +kernel) rfl rfl ⟨Nat.le_of_ble_eq_true rfl, Nat.le_of_ble_eq_true rfl⟩ rfl hl.1 rfl (Nat.le_of_ble_eq_true rfl) dP_move_138 ⟨Nat.le_of_ble_eq_true rfl, Nat.le_of_ble_eq_true rfl⟩ (fun en1 H locs he hP hS => ?_)
    obtain ⟨S, rfl, hC, hDr⟩ := he
    refine lv_aload_n hx hb dP_move_141 rfl (lv_at hl 2 rfl) ?_
    refine g_get F hK hP (0) (by decide) rfl rfl iP 3 (by decide) k1_73 rfl dP_move_142 ?_
    refine lv_aload hx hb dP_move_145 (lv_at hl 1 rfl) ?_
    refine lv_iload_n hx hb dP_move_147 rfl (lv_at hl 4 rfl) ?_
    refine lv_iload_n hx hb dP_move_148 rfl (lv_at hl 5 rfl) ?_
    refine g_V (k := 3) F htw hB hS hP (2 + 2 * dr) (by omega) (en_T _ _ _ _ _ _ _ _ _ _ hdr) rfl (c_addR G hC hDr hk (by omega) (by omega) hn_k (by omega)) k2_8 k2_9 k2_10 k1_2 k2_11 (by decide +kernel) rfl rfl ⟨Nat.le_of_ble_eq_true rfl, Nat.le_of_ble_eq_true rfl⟩ rfl hl.1 rfl (Nat.le_of_ble_eq_true rfl) dP_move_149 ⟨Nat.le_of_ble_eq_true rfl, Nat.le_of_ble_eq_true rfl⟩ (fun en1 H locs he hP hS => ?_)
    obtain ⟨S, rfl, hC, hDr⟩ := he
    refine lv_aload_n hx hb dP_move_152 rfl (lv_at hl 2 rfl) ?_
    refine g_get F hK hP (0) (by decide) rfl rfl iP 3 (by decide) k1_73 rfl dP_move_153 ?_
    refine lv_aload hx hb dP_move_156 (lv_at hl 1 rfl) ?_
    refine lv_iload hx hb dP_move_158 (lv_at hl 6 rfl) ?_
    refine lv_iload hx hb dP_move_160 (lv_at hl 0 rfl) ?_
    refine lv_iadd hx hb dP_move_162 ?_
    refine lv_aload hx hb dP_move_163 (lv_at hl 1 rfl) ?_
    refine g_get F hK hP (2 + 2 * pi k) (by omega) (en_T _ _ _ _ _ _ _ _ _ _ hp_k) rfl iT 1 (by decide) k1_34 rfl dP_move_165 ?_
    rw [nI_add, hC.2.2.2.1 k hk]
    refine g_V (k := 3) F htw hB hS hP (2 + 2 * dr) (by omega) (en_T _ _ _ _ _ _ _ _ _ _ hdr) rfl (c_addR G hC hDr hk (by omega) (by omega) hn_k (by omega)) k2_8 k2_9 k2_10 k1_2 k2_11 (by decide +kernel) rfl rfl ⟨Nat.le_of_ble_eq_true rfl, Nat.le_of_ble_eq_true rfl⟩ rfl hl.1 rfl (Nat.le_of_ble_eq_true rfl) dP_move_168 ⟨Nat.le_of_ble_eq_true rfl, Nat.le_of_ble_eq_true rfl⟩ (fun en1 H locs he hP hS => ?_)
    obtain ⟨S, rfl, hC, hDr⟩ := he
    refine lv_aload_n hx hb dP_move_171 rfl (lv_at hl 2 rfl) ?_
    refine lv_iload_n hx hb dP_move_172 rfl (lv_at hl 3 rfl) ?_
    refine g_V (k := 1) F htw hB hS hP (0) (by decide) rfl rfl (c_swap G hC hDr hk) k2_15 k2_17 k0_2 k1_1 k2_18 (by decide +kernel) rfl rfl ⟨Nat.le_of_ble_eq_true rfl, Nat.le_of_ble_eq_true rfl⟩ rfl hl.1 rfl (Nat.le_of_ble_eq_true rfl) dP_move_173 ⟨Nat.le_of_ble_eq_true rfl, Nat.le_of_ble_eq_true rfl⟩ (fun en1 H locs he hP hS => ?_)
    obtain ⟨pi1, dr1, S, rfl, hC⟩ := he
    have hC := hC.to (k' := a_n a k) (g' := cat (cat (rst (a_b a k) f1 (t1 - f1)) b (fun i => a_b a k (f1 + i))) (b + (t1 - f1)) (fun i => rst (a_b a k) f1 (t1 - f1) (b + i))) (by omega) (fun i hi => by simp only [cat, rst]; (repeat' split) <;> first | (exfalso; omega) | (congr 1; omega))
    rw [show 0 + (f1 - 0) + (b + (t1 - f1) - t1) + (t1 - f1) + (a_n a k - (b + (t1 - f1))) = a_n a k by omega]
    refine W.widen (k := 1) (n := 6) (by decide) (by decide) ?_
    exact W.toX (W.iret hx hb hr (fun t ht hW => Or.inl ⟨hk1, ⟨by simp [dk_nI hk, ix_nI (show k < 2 ^ 31 by omega), rg_nI hft htn hn_k, ix_nI (show f1 < 2 ^ 31 by omega), ix_nI (show t1 < 2 ^ 31 by omega), pc_nI hb1 (show a_n a k - (t1 - f1) ≤ 1000 by omega), ix_nI (show b < 2 ^ 31 by omega)], ⟨_, ⟨_, _, _, rfl, by simpa [x_move, dk_nI hk, ix_nI (show k < 2 ^ 31 by omega), rg_nI hft htn hn_k, ix_nI (show f1 < 2 ^ 31 by omega), ix_nI (show t1 < 2 ^ 31 by omega), pc_nI hb1 (show a_n a k - (t1 - f1) ≤ 1000 by omega), ix_nI (show b < 2 ^ 31 by omega)] using hC⟩, by rw [ht]; exact hP⟩, hS.F ht⟩⟩) hS.2.2 dP_move_176)
  · rw [nI_ltI (by omega) (by omega)] at hc
    refine lv_aload_n hx hb dP_move_62 rfl (lv_at hl 2 rfl) ?_
    refine g_get F hK hP (0) (by decide) rfl rfl iP 3 (by decide) k1_73 rfl dP_move_63 ?_
    refine lv_aload hx hb dP_move_66 (lv_at hl 1 rfl) ?_
    refine lv_iconst (v := 0) hx hb dP_move_68 (by decide) ?_
    refine lv_iload hx hb dP_move_69 (lv_at hl 6 rfl) ?_
    rw [show (0 : Int32) = nI 0 from rfl]
    refine g_V (k := 3) F htw hB hS hP (2 + 2 * dr) (by omega) (en_T _ _ _ _ _ _ _ _ _ _ hdr) rfl (c_addR G hC hDr hk (by omega) (by omega) hn_k (by omega)) k2_8 k2_9 k2_10 k1_2 k2_11 (by decide +kernel) rfl rfl ⟨Nat.le_of_ble_eq_true rfl, Nat.le_of_ble_eq_true rfl⟩ rfl hl.1 rfl (Nat.le_of_ble_eq_true rfl) dP_move_71 ⟨Nat.le_of_ble_eq_true rfl, Nat.le_of_ble_eq_true rfl⟩ (fun en1 H locs he hP hS => ?_)
    obtain ⟨S, rfl, hC, hDr⟩ := he
    refine lv_aload_n hx hb dP_move_74 rfl (lv_at hl 2 rfl) ?_
    refine g_get F hK hP (0) (by decide) rfl rfl iP 3 (by decide) k1_73 rfl dP_move_75 ?_
    refine lv_aload hx hb dP_move_78 (lv_at hl 1 rfl) ?_
    refine lv_iload_n hx hb dP_move_80 rfl (lv_at hl 4 rfl) ?_
    refine lv_iload_n hx hb dP_move_81 rfl (lv_at hl 5 rfl) ?_
    refine g_V (k := 3) F htw hB hS hP (2 + 2 * dr) (by omega) (en_T _ _ _ _ _ _ _ _ _ _ hdr) rfl (c_addR G hC hDr hk (by omega) (by omega) hn_k (by omega)) k2_8 k2_9 k2_10 k1_2 k2_11 (by decide +kernel) rfl rfl ⟨Nat.le_of_ble_eq_true rfl, Nat.le_of_ble_eq_true rfl⟩ rfl hl.1 rfl (Nat.le_of_ble_eq_true rfl) dP_move_82 ⟨Nat.le_of_ble_eq_true rfl, Nat.le_of_ble_eq_true rfl⟩ (fun en1 H locs he hP hS => ?_)
    obtain ⟨S, rfl, hC, hDr⟩ := he
    refine lv_aload_n hx hb dP_move_85 rfl (lv_at hl 2 rfl) ?_
    refine g_get F hK hP (0) (by decide) rfl rfl iP 3 (by decide) k1_73 rfl dP_move_86 ?_
    refine lv_aload hx hb dP_move_89 (lv_at hl 1 rfl) ?_
    refine lv_iload hx hb dP_move_91 (lv_at hl 6 rfl) ?_
    refine lv_iload_n hx hb dP_move_93 rfl (lv_at hl 4 rfl) ?_
    refine g_V (k := 3) F htw hB hS hP (2 + 2 * dr) (by omega) (en_T _ _ _ _ _ _ _ _ _ _ hdr) rfl (c_addR G hC hDr hk (by omega) (by omega) hn_k (by omega)) k2_8 k2_9 k2_10 k1_2 k2_11 (by decide +kernel) rfl rfl ⟨Nat.le_of_ble_eq_true rfl, Nat.le_of_ble_eq_true rfl⟩ rfl hl.1 rfl (Nat.le_of_ble_eq_true rfl) dP_move_94 ⟨Nat.le_of_ble_eq_true rfl, Nat.le_of_ble_eq_true rfl⟩ (fun en1 H locs he hP hS => ?_)
    obtain ⟨S, rfl, hC, hDr⟩ := he
    refine lv_aload_n hx hb dP_move_97 rfl (lv_at hl 2 rfl) ?_
    refine g_get F hK hP (0) (by decide) rfl rfl iP 3 (by decide) k1_73 rfl dP_move_98 ?_
    refine lv_aload hx hb dP_move_101 (lv_at hl 1 rfl) ?_
    refine lv_iload_n hx hb dP_move_103 rfl (lv_at hl 5 rfl) ?_
    refine lv_aload hx hb dP_move_104 (lv_at hl 1 rfl) ?_
    refine g_get F hK hP (2 + 2 * pi k) (by omega) (en_T _ _ _ _ _ _ _ _ _ _ hp_k) rfl iT 1 (by decide) k1_34 rfl dP_move_106 ?_
    rw [hC.2.2.2.1 k hk]
    refine g_V (k := 3) F htw hB hS hP (2 + 2 * dr) (by omega) (en_T _ _ _ _ _ _ _ _ _ _ hdr) rfl (c_addR G hC hDr hk (by omega) (by omega) hn_k (by omega)) k2_8 k2_9 k2_10 k1_2 k2_11 (by decide +kernel) rfl rfl ⟨Nat.le_of_ble_eq_true rfl, Nat.le_of_ble_eq_true rfl⟩ rfl hl.1 rfl (Nat.le_of_ble_eq_true rfl) dP_move_109 ⟨Nat.le_of_ble_eq_true rfl, Nat.le_of_ble_eq_true rfl⟩ (fun en1 H locs he hP hS => ?_)
    obtain ⟨S, rfl, hC, hDr⟩ := he
    refine lv_goto (tgt := 171) hx hb dP_move_112 (by decide) ?_
    refine lv_aload_n hx hb dP_move_171 rfl (lv_at hl 2 rfl) ?_
    refine lv_iload_n hx hb dP_move_172 rfl (lv_at hl 3 rfl) ?_
    refine g_V (k := 1) F htw hB hS hP (0) (by decide) rfl rfl (c_swap G hC hDr hk) k2_15 k2_17 k0_2 k1_1 k2_18 (by decide +kernel) rfl rfl ⟨Nat.le_of_ble_eq_true rfl, Nat.le_of_ble_eq_true rfl⟩ rfl hl.1 rfl (Nat.le_of_ble_eq_true rfl) dP_move_173 ⟨Nat.le_of_ble_eq_true rfl, Nat.le_of_ble_eq_true rfl⟩ (fun en1 H locs he hP hS => ?_)
    obtain ⟨pi1, dr1, S, rfl, hC⟩ := he
    have hC := hC.to (k' := a_n a k) (g' := cat (cat (rst (a_b a k) f1 (t1 - f1)) b (fun i => a_b a k (f1 + i))) (b + (t1 - f1)) (fun i => rst (a_b a k) f1 (t1 - f1) (b + i))) (by omega) (fun i hi => by simp only [cat, rst]; (repeat' split) <;> first | (exfalso; omega) | (congr 1; omega))
    rw [show 0 + (b - 0) + (t1 - f1) + (f1 - b) + (a_n a k - t1) = a_n a k by omega]
    refine W.widen (k := 1) (n := 6) (by decide) (by decide) ?_
    exact W.toX (W.iret hx hb hr (fun t ht hW => Or.inl ⟨hk1, ⟨by simp [dk_nI hk, ix_nI (show k < 2 ^ 31 by omega), rg_nI hft htn hn_k, ix_nI (show f1 < 2 ^ 31 by omega), ix_nI (show t1 < 2 ^ 31 by omega), pc_nI hb1 (show a_n a k - (t1 - f1) ≤ 1000 by omega), ix_nI (show b < 2 ^ 31 by omega)], ⟨_, ⟨_, _, _, rfl, by simpa [x_move, dk_nI hk, ix_nI (show k < 2 ^ 31 by omega), rg_nI hft htn hn_k, ix_nI (show f1 < 2 ^ 31 by omega), ix_nI (show t1 < 2 ^ 31 by omega), pc_nI hb1 (show a_n a k - (t1 - f1) ≤ 1000 by omega), ix_nI (show b < 2 ^ 31 by omega)] using hC⟩, by rw [ht]; exact hP⟩, hS.F ht⟩⟩) hS.2.2 dP_move_176)
set_option maxHeartbeats 4000000 in
set_option maxRecDepth 100000 in
theorem c_P_repeat (hst : l.stackTraces = false) (G : gGeo ad 25 base) (ha : a_ok a) (hC : RepC pi dr S a) (d f t n : Int32) : MetX l yP_repeat (Cond.code yP_repeat bP_repeat 10 (some .int) :: tws) { frames := 8, cells := 1, slots := 6, locals := 123 } (gPc (tw D cI cZ cT cJ base) D cl ad 25 base (en ad cI cZ cT cJ pi dr S M o) [.ref (ad 0), .int d, .int f, .int t, .int n]) (gQx D cl ad 25 base (en ad cI cZ cT cJ pi dr S M o) ["java/lang/IllegalArgumentException", "java/lang/IndexOutOfBoundsException", "java/lang/UnsupportedOperationException"] (c_repeat a d f t n) (some (.int (nI (a_n a (ix d) - (ix t - ix f) + ix n * (ix t - ix f))))) (fun e => ∃ (pi1 : Nat → Nat) (dr1 : Nat) (S1 : Nat → Nat → Int32), e = en ad cI cZ cT cJ pi1 dr1 S1 M o ∧ RepC pi1 dr1 S1 (x_repeat a d f t n))) 1 6 (gA base) := by
  refine MetX.ofW (cc := bP_repeat) (maxL := 10) (ret := (some .int)) (by decide) rfl ?_
  intro p e s m args below meth c s₁ B hml hv
  obtain ⟨rfl, htw, hB, hP⟩ := hv
  have hx := B.exec
  have hb := B.bytes
  have hr := B.returns
  have hts0 := atoms_spec (ws := Cond.code yP_repeat bP_repeat 10 (some .int) :: tws) B.pre
  have hts : ∀ w ∈ tws, w.before _ s = true := fun w h => hts0 w (List.mem_cons_of_mem _ h)
  have hown : s.vm.findClass "PairedTexts" = some m.cls := findClass_of_methodNamed B.named
  have hlocks := B.notSynchronized
  have hno := B.noHandlers (hts0 _ List.mem_cons_self)
  have F : CallFix p m c bP_repeat 10 s _ tws "PairedTexts" := ⟨hx, hb, hml, hown, hts⟩
  have hK := htw.1
  have hS : va_S (gA base) s.heap s.heap [] := va_S.rf
  have hl := lv_entry ([.ref (ad 0), .int d, .int f, .int t, .int n]) (n := 10) (Nat.le_of_ble_eq_true rfl)
  rw [lg_entry_eq]
  generalize (lg_sl ([.ref (ad 0), .int d, .int f, .int t, .int n]) ++ List.replicate (10 - (lg_sl ([.ref (ad 0), .int d, .int f, .int t, .int n])).length) Slot.unset).toArray = ls at hl ⊢
  have hl : lv_has ls 10 [(0, .ref (ad 0)), (1, .int d), (2, .int f), (3, .int t), (4, .int n)] := hl
  have hdr := hC.2.1
  have z0 : (0 : Int32).toInt = 0 := rfl
  refine lv_aload_n hx hb dP_repeat_0 rfl (lv_at hl 0 rfl) ?_
  refine lv_iload_n hx hb dP_repeat_1 rfl (lv_at hl 1 rfl) ?_
  rcases dk_or d with hd | ⟨k, hk, rfl⟩
  · have hk1 : (c_repeat a d f t n) = 1 := by simp [c_repeat, hd.1]
    exact g_VTh (k := 1) F hlocks hno htw hB hS hP (0) (by decide) rfl rfl (c_P_textOf_th hst hd.2) k1_92 k1_94 k0_0 k1_1 k1_95 (by decide +kernel) rfl rfl ⟨Nat.le_of_ble_eq_true rfl, Nat.le_of_ble_eq_true rfl⟩ rfl hl.1 rfl (Nat.le_of_ble_eq_true rfl) dP_repeat_2 ⟨Nat.le_of_ble_eq_true rfl, Nat.le_of_ble_eq_true rfl⟩ (by rw [hk1]; decide) (by rw [hk1]; rfl)
  refine g_V (k := 1) F htw hB hS hP (0) (by decide) rfl rfl (c_P_textOf hk) k1_92 k1_94 k0_0 k1_1 k1_95 (by decide +kernel) rfl rfl ⟨Nat.le_of_ble_eq_true rfl, Nat.le_of_ble_eq_true rfl⟩ rfl hl.1 rfl (Nat.le_of_ble_eq_true rfl) dP_repeat_2 ⟨Nat.le_of_ble_eq_true rfl, Nat.le_of_ble_eq_true rfl⟩ (fun en1 H locs he hP hS => ?_)
  obtain rfl := he
  have hp_k := (hC.1 k hk).1
  have hn_k := ha.1 k hk
  have h5_k := hC.2.2.2.1 k hk
  refine lv_astore hx hb dP_repeat_5 hl (by decide) rfl (fun ls hl => ?_)
  have hl : lv_has ls 10 [(5, .ref _), (0, .ref _), (1, .int _), (2, .int _), (3, .int _), (4, .int _)] := hl
  refine lv_iload hx hb dP_repeat_7 (lv_at hl 5 rfl) ?_
  rcases nn_or n with hg | ⟨j, hj, rfl⟩
  · have hk1 : (c_repeat a (nI k) f t n) = 1 := by simp [c_repeat, dk_nI hk, ix_nI (show k < 2 ^ 31 by omega), hg.1]
    refine lv_if_lt (tgt := 16) hx hb dP_repeat_9 (by decide) (fun _ => ?_) (fun hc => absurd (by rw [Int32.lt_iff_toInt_lt]; omega) hc)
    refine lv_iconst (v := 0) hx hb dP_repeat_16 (by decide) ?_
    exact g_STh (k := 1) F hlocks hno htw hB hS hP (c_P_requireArgument_th hst) k1_168 k1_169 k1_1 k1_170 (by decide +kernel) rfl rfl ⟨Nat.le_of_ble_eq_true rfl, Nat.le_of_ble_eq_true rfl⟩ rfl hl.1 rfl (Nat.le_of_ble_eq_true rfl) dP_repeat_17 ⟨Nat.le_of_ble_eq_true rfl, Nat.le_of_ble_eq_true rfl⟩ (by rw [hk1]; decide) (by rw [hk1]; rfl)
  have zj := nI_toInt hj
  refine lv_if_lt (tgt := 16) hx hb dP_repeat_9 (by decide) (fun hc => absurd hc (by rw [Int32.lt_iff_toInt_lt]; omega)) (fun _ => ?_)
  refine lv_iconst (v := 1) hx hb dP_repeat_12 (by decide) ?_
  refine lv_goto (tgt := 17) hx hb dP_repeat_13 (by decide) ?_
  refine g_S (k := 1) F htw hB hS hP (c_P_requireArgument) k1_168 k1_169 k1_1 k1_170 (by decide +kernel) rfl rfl ⟨Nat.le_of_ble_eq_true rfl, Nat.le_of_ble_eq_true rfl⟩ rfl hl.1 rfl (Nat.le_of_ble_eq_true rfl) dP_repeat_17 ⟨Nat.le_of_ble_eq_true rfl, Nat.le_of_ble_eq_true rfl⟩ (fun en1 H locs he hP hS => ?_)
  obtain rfl := he
  refine lv_aload hx hb dP_repeat_20 (lv_at hl 0 rfl) ?_
  refine lv_iload_n hx hb dP_repeat_22 rfl (lv_at hl 3 rfl) ?_
  refine lv_iload_n hx hb dP_repeat_23 rfl (lv_at hl 4 rfl) ?_
  refine lv_i2l hx hb dP_repeat_24 rfl ?_
  refine g_V (k := 2) F htw hB hS hP (2 + 2 * pi k) (by omega) (en_T _ _ _ _ _ _ _ _ _ _ hp_k) rfl (c_rng hC ha hk f t) k2_0 k2_1 k2_2 k1_2 k2_3 (by decide +kernel) rfl rfl ⟨Nat.le_of_ble_eq_true rfl, Nat.le_of_ble_eq_true rfl⟩ rfl hl.1 rfl (Nat.le_of_ble_eq_true rfl) dP_repeat_25 ⟨Nat.le_of_ble_eq_true rfl, Nat.le_of_ble_eq_true rfl⟩ (fun en1 H locs he hP hS => ?_)
  obtain rfl := he
  rcases rg_or f t hn_k with hr | ⟨f1, t1, hft, htn, rfl, rfl⟩
  · have hk1 : (c_repeat a (nI k) f t (nI j)) = 2 := by simp [c_repeat, dk_nI hk, ix_nI (show k < 2 ^ 31 by omega), nn_nI hj, ix_nI hj, hr]
    rw [show (if rg f t (a_n a k) then (1 : Int32) else 0) = 0 from by rw [hr]; rfl]
    exact g_STh (k := 1) F hlocks hno htw hB hS hP (c_P_requireInside_th hst) k1_214 k1_215 k1_1 k1_216 (by decide +kernel) rfl rfl ⟨Nat.le_of_ble_eq_true rfl, Nat.le_of_ble_eq_true rfl⟩ rfl hl.1 rfl (Nat.le_of_ble_eq_true rfl) dP_repeat_28 ⟨Nat.le_of_ble_eq_true rfl, Nat.le_of_ble_eq_true rfl⟩ (by rw [hk1]; decide) (by rw [hk1]; rfl)
  rw [show (if rg (nI f1) (nI t1) (a_n a k) then (1 : Int32) else 0) = 1 from if_pos (rg_nI hft htn hn_k)]
  refine g_S (k := 1) F htw hB hS hP (c_P_requireInside) k1_214 k1_215 k1_1 k1_216 (by decide +kernel) rfl rfl ⟨Nat.le_of_ble_eq_true rfl, Nat.le_of_ble_eq_true rfl⟩ rfl hl.1 rfl (Nat.le_of_ble_eq_true rfl) dP_repeat_28 ⟨Nat.le_of_ble_eq_true rfl, Nat.le_of_ble_eq_true rfl⟩ (fun en1 H locs he hP hS => ?_)
  obtain rfl := he
  refine lv_iload hx hb dP_repeat_31 (lv_at hl 5 rfl) ?_
  refine lv_i2l hx hb dP_repeat_33 rfl ?_
  refine lv_iload_n hx hb dP_repeat_34 rfl (lv_at hl 4 rfl) ?_
  refine lv_iload_n hx hb dP_repeat_35 rfl (lv_at hl 3 rfl) ?_
  refine lv_isub hx hb dP_repeat_36 ?_
  rw [nI_l hj, pk_sub hft]
  refine lv_i2l hx hb dP_repeat_37 rfl ?_
  rw [nI_l (show t1 - f1 < 2 ^ 31 by omega)]
  refine lv_lmul hx hb dP_repeat_38 ?_
  rw [lN_mul]
  refine lv_lstore hx hb dP_repeat_39 hl (by decide) rfl (fun ls hl => ?_)
  have hl : lv_has ls 10 [(6, .long _), (5, .ref _), (0, .ref _), (1, .int _), (2, .int _), (3, .int _), (4, .int _)] := hl
  refine lv_aload hx hb dP_repeat_41 (lv_at hl 1 rfl) ?_
  refine g_get F hK hP (2 + 2 * pi k) (by omega) (en_T _ _ _ _ _ _ _ _ _ _ hp_k) rfl iT 1 (by decide) k1_34 rfl dP_repeat_43 ?_
  refine lv_iload_n hx hb dP_repeat_46 rfl (lv_at hl 5 rfl) ?_
  refine lv_iload_n hx hb dP_repeat_47 rfl (lv_at hl 4 rfl) ?_
  refine lv_isub hx hb dP_repeat_48 ?_
  refine lv_isub hx hb dP_repeat_49 ?_
  rw [h5_k, pk_sub hft, pk_sub (show t1 - f1 ≤ a_n a k by omega)]
  refine lv_i2l hx hb dP_repeat_50 rfl ?_
  refine lv_lload hx hb dP_repeat_51 (lv_at hl 0 rfl) ?_
  refine lv_ladd hx hb dP_repeat_53 ?_
  rw [nI_l (show a_n a k - (t1 - f1) < 2 ^ 31 by omega), lN_add]
  have hjw : j * (t1 - f1) ≤ 2147483648 * 1000 := Nat.mul_le_mul (by omega) (by omega)
  have zr := pk_lT (show a_n a k - (t1 - f1) + j * (t1 - f1) < 2 ^ 63 by omega)
  by_cases hg : a_n a k - (t1 - f1) + j * (t1 - f1) ≤ 1000
  · have hk1 : (c_repeat a (nI k) (nI f1) (nI t1) (nI j)) = 0 := by simp [c_repeat, dk_nI hk, ix_nI (show k < 2 ^ 31 by omega), nn_nI hj, ix_nI hj, rg_nI hft htn hn_k, ix_nI (show f1 < 2 ^ 31 by omega), ix_nI (show t1 < 2 ^ 31 by omega), hg]
    refine g_S (k := 1) F htw hB hS hP (c_P_requireRoom (by omega)) k1_172 k1_173 k1_1 k1_174 (by decide +kernel) rfl rfl ⟨Nat.le_of_ble_eq_true rfl, Nat.le_of_ble_eq_true rfl⟩ rfl hl.1 rfl (Nat.le_of_ble_eq_true rfl) dP_repeat_54 ⟨Nat.le_of_ble_eq_true rfl, Nat.le_of_ble_eq_true rfl⟩ (fun en1 H locs he hP hS => ?_)
    obtain rfl := he
    obtain ⟨T0, hT0⟩ : ∃ T0 : Nat, T0 = if f1 = t1 then 0 else j := ⟨_, rfl⟩
    have hTw : T0 * (t1 - f1) = j * (t1 - f1) := by by_cases h : f1 = t1 <;> simp [hT0, h]
    have hT1 : T0 < 2 ^ 31 := by rw [hT0]; split <;> omega
    refine lv_iload_n hx hb dP_repeat_57 rfl (lv_at hl 4 rfl) ?_
    refine lv_iload_n hx hb dP_repeat_58 rfl (lv_at hl 5 rfl) ?_
    refine lv_icmp_ne (tgt := 66) hx hb dP_repeat_59 (by decide) (fun hc => ?_) (fun hc => ?_)
    · rw [nI_eq (by omega) (by omega)] at hc
      have hT2 : j = T0 := by rw [hT0, if_neg hc]
      refine lv_iload hx hb dP_repeat_66 (lv_at hl 6 rfl) ?_
      have hT3 := hT2
      refine lv_istore hx hb dP_repeat_68 hl (by decide) rfl (fun ls hl => ?_)
      have hl : lv_has ls 10 [(8, .int _), (6, .long _), (5, .ref _), (0, .ref _), (1, .int _), (2, .int _), (3, .int _), (4, .int _)] := hl
      have hl : lv_has ls 10 [(8, .int (nI T0)), (6, .long (lN (j * (t1 - f1)))), (5, .ref (ad (2 + 2 * pi k))), (0, .ref (ad 0)), (1, .int (nI k)), (2, .int (nI f1)), (3, .int (nI t1)), (4, .int (nI j))] := by rw [← hT2]; exact hl
      refine lv_aload_n hx hb dP_repeat_70 rfl (lv_at hl 3 rfl) ?_
      refine g_get F hK hP (0) (by decide) rfl rfl iP 3 (by decide) k1_73 rfl dP_repeat_71 ?_
      refine g_V (k := 0) F htw hB hS hP (2 + 2 * dr) (by omega) (en_T _ _ _ _ _ _ _ _ _ _ hdr) rfl (c_clr G hC (fun _ => 0)) k2_4 k2_5 k2_6 k1_2 k2_7 (by decide +kernel) rfl rfl ⟨Nat.le_of_ble_eq_true rfl, Nat.le_of_ble_eq_true rfl⟩ rfl hl.1 rfl (Nat.le_of_ble_eq_true rfl) dP_repeat_74 ⟨Nat.le_of_ble_eq_true rfl, Nat.le_of_ble_eq_true rfl⟩ (fun en1 H locs he hP hS => ?_)
      obtain ⟨S, rfl, hC, hDr⟩ := he
      refine lv_aload_n hx hb dP_repeat_77 rfl (lv_at hl 3 rfl) ?_
      refine g_get F hK hP (0) (by decide) rfl rfl iP 3 (by decide) k1_73 rfl dP_repeat_78 ?_
      refine lv_aload hx hb dP_repeat_81 (lv_at hl 2 rfl) ?_
      refine lv_iconst (v := 0) hx hb dP_repeat_83 (by decide) ?_
      refine lv_iload_n hx hb dP_repeat_84 rfl (lv_at hl 5 rfl) ?_
      rw [show (0 : Int32) = nI 0 from rfl]
      refine g_V (k := 3) F htw hB hS hP (2 + 2 * dr) (by omega) (en_T _ _ _ _ _ _ _ _ _ _ hdr) rfl (c_addR G hC hDr hk (by omega) (by omega) hn_k (by omega)) k2_8 k2_9 k2_10 k1_2 k2_11 (by decide +kernel) rfl rfl ⟨Nat.le_of_ble_eq_true rfl, Nat.le_of_ble_eq_true rfl⟩ rfl hl.1 rfl (Nat.le_of_ble_eq_true rfl) dP_repeat_85 ⟨Nat.le_of_ble_eq_true rfl, Nat.le_of_ble_eq_true rfl⟩ (fun en1 H locs he hP hS => ?_)
      obtain ⟨S, rfl, hC, hDr⟩ := he
      refine lv_iconst (v := 0) hx hb dP_repeat_88 (by decide) ?_
      refine lv_istore hx hb dP_repeat_89 hl (by decide) rfl (fun ls hl => ?_)
      have hl : lv_has ls 10 [(9, .int _), (8, .int _), (6, .long _), (5, .ref _), (0, .ref _), (1, .int _), (2, .int _), (3, .int _), (4, .int _)] := hl
      have hDr := hDr.to (k' := f1 + 0 * (t1 - f1)) (g' := rep (a_b a k) f1 (t1 - f1) 0) (by omega) (fun i hi => by simp [cat, rep])
      refine W.loop (α := Nat × (Nat → Nat → Int32)) (fun t a1 ls H locs => a1.1 + t = T0 ∧ RepC pi dr a1.2 a ∧ RepD dr a1.2 (f1 + a1.1 * (t1 - f1)) (rep (a_b a k) f1 (t1 - f1) a1.1) ∧ lv_has ls 10 [(9, .int (nI a1.1)), (8, .int (nI T0)), (6, .long (lN (j * (t1 - f1)))), (5, .ref (ad (2 + 2 * pi k))), (0, .ref (ad 0)), (1, .int (nI k)), (2, .int (nI f1)), (3, .int (nI t1)), (4, .int (nI j))] ∧ va_P D cl (gw ad (en ad cI cZ cT cJ pi dr a1.2 M o) 25) H ∧ va_S (gA base) s.heap H locs) ?_ (t := T0) (a := (0, S)) ⟨by show 0 + T0 = T0; omega, hC, hDr, hl, hP, hS⟩
      clear hl hP hS
      intro t a1 ls H locs hI ih
      obtain ⟨u, S⟩ := a1
      obtain ⟨i0, i1, i2, hl, hP, hS⟩ := hI
      try dsimp only at i0 i1 i2 hl hP
      by_cases ht : t = 0
      · have hu : T0 = u := by omega
        subst hu
        refine lv_iload hx hb dP_repeat_91 (lv_at hl 0 rfl) ?_
        refine lv_iload hx hb dP_repeat_93 (lv_at hl 1 rfl) ?_
        refine lv_icmp_ge (tgt := 115) hx hb dP_repeat_95 (by decide) (fun _ => ?_) (fun hc => absurd (by rw [nI_leI (by omega) (by omega)]; omega) hc)
        refine lv_aload_n hx hb dP_repeat_115 rfl (lv_at hl 4 rfl) ?_
        refine g_get F hK hP (0) (by decide) rfl rfl iP 3 (by decide) k1_73 rfl dP_repeat_116 ?_
        refine lv_aload hx hb dP_repeat_119 (lv_at hl 3 rfl) ?_
        refine lv_iload_n hx hb dP_repeat_121 rfl (lv_at hl 7 rfl) ?_
        refine lv_aload hx hb dP_repeat_122 (lv_at hl 3 rfl) ?_
        refine g_get F hK hP (2 + 2 * pi k) (by omega) (en_T _ _ _ _ _ _ _ _ _ _ hp_k) rfl iT 1 (by decide) k1_34 rfl dP_repeat_124 ?_
        have hC := i1
        have hDr := i2
        rw [hC.2.2.2.1 k hk]
        refine g_V (k := 3) F htw hB hS hP (2 + 2 * dr) (by omega) (en_T _ _ _ _ _ _ _ _ _ _ hdr) rfl (c_addR G hC hDr hk (by omega) (by omega) hn_k (by omega)) k2_8 k2_9 k2_10 k1_2 k2_11 (by decide +kernel) rfl rfl ⟨Nat.le_of_ble_eq_true rfl, Nat.le_of_ble_eq_true rfl⟩ rfl hl.1 rfl (Nat.le_of_ble_eq_true rfl) dP_repeat_127 ⟨Nat.le_of_ble_eq_true rfl, Nat.le_of_ble_eq_true rfl⟩ (fun en1 H locs he hP hS => ?_)
        obtain ⟨S, rfl, hC, hDr⟩ := he
        refine lv_aload_n hx hb dP_repeat_130 rfl (lv_at hl 4 rfl) ?_
        refine lv_iload_n hx hb dP_repeat_131 rfl (lv_at hl 5 rfl) ?_
        refine g_V (k := 1) F htw hB hS hP (0) (by decide) rfl rfl (c_swap G hC hDr hk) k2_15 k2_17 k0_2 k1_1 k2_18 (by decide +kernel) rfl rfl ⟨Nat.le_of_ble_eq_true rfl, Nat.le_of_ble_eq_true rfl⟩ rfl hl.1 rfl (Nat.le_of_ble_eq_true rfl) dP_repeat_132 ⟨Nat.le_of_ble_eq_true rfl, Nat.le_of_ble_eq_true rfl⟩ (fun en1 H locs he hP hS => ?_)
        obtain ⟨pi1, dr1, S, rfl, hC⟩ := he
        have hC := hC.to (k' := a_n a k - (t1 - f1) + j * (t1 - f1)) (g' := cat (rep (a_b a k) f1 (t1 - f1) (if nI f1 = nI t1 then 0 else j)) (f1 + j * (t1 - f1)) (fun i => a_b a k (t1 + i))) (by omega) (fun i hi => by rw [hTw]; congr 2; rw [hT0]; simp only [nI_eq (show f1 < 2 ^ 31 by omega) (show t1 < 2 ^ 31 by omega)])
        rw [hTw, show f1 + j * (t1 - f1) + (a_n a k - t1) = a_n a k - (t1 - f1) + j * (t1 - f1) by omega]
        refine W.widen (k := 1) (n := 6) (by decide) (by decide) ?_
        exact W.toX (W.iret hx hb hr (fun t ht hW => Or.inl ⟨hk1, ⟨by simp [dk_nI hk, ix_nI (show k < 2 ^ 31 by omega), nn_nI hj, ix_nI hj, rg_nI hft htn hn_k, ix_nI (show f1 < 2 ^ 31 by omega), ix_nI (show t1 < 2 ^ 31 by omega), hg], ⟨_, ⟨_, _, _, rfl, by simpa [x_repeat, dk_nI hk, ix_nI (show k < 2 ^ 31 by omega), nn_nI hj, ix_nI hj, rg_nI hft htn hn_k, ix_nI (show f1 < 2 ^ 31 by omega), ix_nI (show t1 < 2 ^ 31 by omega), hg] using hC⟩, by rw [ht]; exact hP⟩, hS.F ht⟩⟩) hS.2.2 dP_repeat_135)
      · refine lv_iload hx hb dP_repeat_91 (lv_at hl 0 rfl) ?_
        refine lv_iload hx hb dP_repeat_93 (lv_at hl 1 rfl) ?_
        refine lv_icmp_ge (tgt := 115) hx hb dP_repeat_95 (by decide) (fun hc => absurd hc (by rw [nI_leI (by omega) (by omega)]; omega)) (fun _ => ?_)
        refine lv_aload_n hx hb dP_repeat_98 rfl (lv_at hl 4 rfl) ?_
        refine g_get F hK hP (0) (by decide) rfl rfl iP 3 (by decide) k1_73 rfl dP_repeat_99 ?_
        refine lv_aload hx hb dP_repeat_102 (lv_at hl 3 rfl) ?_
        refine lv_iload_n hx hb dP_repeat_104 rfl (lv_at hl 6 rfl) ?_
        refine lv_iload_n hx hb dP_repeat_105 rfl (lv_at hl 7 rfl) ?_
        have hC := i1
        have hDr := i2
        have hm1 : (u + 1) * (t1 - f1) ≤ T0 * (t1 - f1) := Nat.mul_le_mul (by omega) (Nat.le_refl _)
        have hm2 : (u + 1) * (t1 - f1) = u * (t1 - f1) + (t1 - f1) := Nat.succ_mul _ _
        refine g_V (k := 3) F htw hB hS hP (2 + 2 * dr) (by omega) (en_T _ _ _ _ _ _ _ _ _ _ hdr) rfl (c_addR G hC hDr hk (by omega) (by omega) hn_k (by omega)) k2_8 k2_9 k2_10 k1_2 k2_11 (by decide +kernel) rfl rfl ⟨Nat.le_of_ble_eq_true rfl, Nat.le_of_ble_eq_true rfl⟩ rfl hl.1 rfl (Nat.le_of_ble_eq_true rfl) dP_repeat_106 ⟨Nat.le_of_ble_eq_true rfl, Nat.le_of_ble_eq_true rfl⟩ (fun en1 H locs he hP hS => ?_)
        obtain ⟨S, rfl, hC, hDr⟩ := he
        refine lv_iinc (k := 0) hx hb dP_repeat_109 hl rfl rfl (by decide) rfl (fun ls hl => ?_)
        have hl : lv_has ls 10 [(9, .int _), (8, .int _), (6, .long _), (5, .ref _), (0, .ref _), (1, .int _), (2, .int _), (3, .int _), (4, .int _)] := hl
        refine lv_goto (tgt := 91) hx hb dP_repeat_112 (by decide) ?_
        have hDr := hDr.to (k' := f1 + (u + 1) * (t1 - f1)) (g' := rep (a_b a k) f1 (t1 - f1) (u + 1)) (by omega) (fun i hi => rfl)
        have hl : lv_has ls 10 [(9, .int (nI (u + 1))), (8, .int (nI T0)), (6, .long (lN (j * (t1 - f1)))), (5, .ref (ad (2 + 2 * pi k))), (0, .ref (ad 0)), (1, .int (nI k)), (2, .int (nI f1)), (3, .int (nI t1)), (4, .int (nI j))] := by rw [← nI_1]; exact hl
        exact ih (t - 1) (u + 1, S) _ _ _ (by omega) ⟨by show u + 1 + (t - 1) = T0; omega, hC, hDr, hl, hP, hS⟩
    · rw [nI_eq (by omega) (by omega)] at hc
      have hT2 : T0 = 0 := by rw [hT0, if_pos hc]
      refine lv_iconst (v := 0) hx hb dP_repeat_62 (by decide) ?_
      refine lv_goto (tgt := 68) hx hb dP_repeat_63 (by decide) ?_
      refine lv_istore hx hb dP_repeat_68 hl (by decide) rfl (fun ls hl => ?_)
      have hl : lv_has ls 10 [(8, .int _), (6, .long _), (5, .ref _), (0, .ref _), (1, .int _), (2, .int _), (3, .int _), (4, .int _)] := hl
      have hl : lv_has ls 10 [(8, .int (nI T0)), (6, .long (lN (j * (t1 - f1)))), (5, .ref (ad (2 + 2 * pi k))), (0, .ref (ad 0)), (1, .int (nI k)), (2, .int (nI f1)), (3, .int (nI t1)), (4, .int (nI j))] := by rw [hT2]; exact hl
      refine lv_aload_n hx hb dP_repeat_70 rfl (lv_at hl 3 rfl) ?_
      refine g_get F hK hP (0) (by decide) rfl rfl iP 3 (by decide) k1_73 rfl dP_repeat_71 ?_
      refine g_V (k := 0) F htw hB hS hP (2 + 2 * dr) (by omega) (en_T _ _ _ _ _ _ _ _ _ _ hdr) rfl (c_clr G hC (fun _ => 0)) k2_4 k2_5 k2_6 k1_2 k2_7 (by decide +kernel) rfl rfl ⟨Nat.le_of_ble_eq_true rfl, Nat.le_of_ble_eq_true rfl⟩ rfl hl.1 rfl (Nat.le_of_ble_eq_true rfl) dP_repeat_74 ⟨Nat.le_of_ble_eq_true rfl, Nat.le_of_ble_eq_true rfl⟩ (fun en1 H locs he hP hS => ?_)
      obtain ⟨S, rfl, hC, hDr⟩ := he
      refine lv_aload_n hx hb dP_repeat_77 rfl (lv_at hl 3 rfl) ?_
      refine g_get F hK hP (0) (by decide) rfl rfl iP 3 (by decide) k1_73 rfl dP_repeat_78 ?_
      refine lv_aload hx hb dP_repeat_81 (lv_at hl 2 rfl) ?_
      refine lv_iconst (v := 0) hx hb dP_repeat_83 (by decide) ?_
      refine lv_iload_n hx hb dP_repeat_84 rfl (lv_at hl 5 rfl) ?_
      rw [show (0 : Int32) = nI 0 from rfl]
      refine g_V (k := 3) F htw hB hS hP (2 + 2 * dr) (by omega) (en_T _ _ _ _ _ _ _ _ _ _ hdr) rfl (c_addR G hC hDr hk (by omega) (by omega) hn_k (by omega)) k2_8 k2_9 k2_10 k1_2 k2_11 (by decide +kernel) rfl rfl ⟨Nat.le_of_ble_eq_true rfl, Nat.le_of_ble_eq_true rfl⟩ rfl hl.1 rfl (Nat.le_of_ble_eq_true rfl) dP_repeat_85 ⟨Nat.le_of_ble_eq_true rfl, Nat.le_of_ble_eq_true rfl⟩ (fun en1 H locs he hP hS => ?_)
      obtain ⟨S, rfl, hC, hDr⟩ := he
      refine lv_iconst (v := 0) hx hb dP_repeat_88 (by decide) ?_
      refine lv_istore hx hb dP_repeat_89 hl (by decide) rfl (fun ls hl => ?_)
      have hl : lv_has ls 10 [(9, .int _), (8, .int _), (6, .long _), (5, .ref _), (0, .ref _), (1, .int _), (2, .int _), (3, .int _), (4, .int _)] := hl
      have hDr := hDr.to (k' := f1 + 0 * (t1 - f1)) (g' := rep (a_b a k) f1 (t1 - f1) 0) (by omega) (fun i hi => by simp [cat, rep])
      refine W.loop (α := Nat × (Nat → Nat → Int32)) (fun t a1 ls H locs => a1.1 + t = T0 ∧ RepC pi dr a1.2 a ∧ RepD dr a1.2 (f1 + a1.1 * (t1 - f1)) (rep (a_b a k) f1 (t1 - f1) a1.1) ∧ lv_has ls 10 [(9, .int (nI a1.1)), (8, .int (nI T0)), (6, .long (lN (j * (t1 - f1)))), (5, .ref (ad (2 + 2 * pi k))), (0, .ref (ad 0)), (1, .int (nI k)), (2, .int (nI f1)), (3, .int (nI t1)), (4, .int (nI j))] ∧ va_P D cl (gw ad (en ad cI cZ cT cJ pi dr a1.2 M o) 25) H ∧ va_S (gA base) s.heap H locs) ?_ (t := T0) (a := (0, S)) ⟨by show 0 + T0 = T0; omega, hC, hDr, hl, hP, hS⟩
      clear hl hP hS
      intro t a1 ls H locs hI ih
      obtain ⟨u, S⟩ := a1
      obtain ⟨i0, i1, i2, hl, hP, hS⟩ := hI
      try dsimp only at i0 i1 i2 hl hP
      by_cases ht : t = 0
      · have hu : T0 = u := by omega
        subst hu
        refine lv_iload hx hb dP_repeat_91 (lv_at hl 0 rfl) ?_
        refine lv_iload hx hb dP_repeat_93 (lv_at hl 1 rfl) ?_
        refine lv_icmp_ge (tgt := 115) hx hb dP_repeat_95 (by decide) (fun _ => ?_) (fun hc => absurd (by rw [nI_leI (by omega) (by omega)]; omega) hc)
        refine lv_aload_n hx hb dP_repeat_115 rfl (lv_at hl 4 rfl) ?_
        refine g_get F hK hP (0) (by decide) rfl rfl iP 3 (by decide) k1_73 rfl dP_repeat_116 ?_
        refine lv_aload hx hb dP_repeat_119 (lv_at hl 3 rfl) ?_
        refine lv_iload_n hx hb dP_repeat_121 rfl (lv_at hl 7 rfl) ?_
        refine lv_aload hx hb dP_repeat_122 (lv_at hl 3 rfl) ?_
        refine g_get F hK hP (2 + 2 * pi k) (by omega) (en_T _ _ _ _ _ _ _ _ _ _ hp_k) rfl iT 1 (by decide) k1_34 rfl dP_repeat_124 ?_
        have hC := i1
        have hDr := i2
        rw [hC.2.2.2.1 k hk]
        refine g_V (k := 3) F htw hB hS hP (2 + 2 * dr) (by omega) (en_T _ _ _ _ _ _ _ _ _ _ hdr) rfl (c_addR G hC hDr hk (by omega) (by omega) hn_k (by omega)) k2_8 k2_9 k2_10 k1_2 k2_11 (by decide +kernel) rfl rfl ⟨Nat.le_of_ble_eq_true rfl, Nat.le_of_ble_eq_true rfl⟩ rfl hl.1 rfl (Nat.le_of_ble_eq_true rfl) dP_repeat_127 ⟨Nat.le_of_ble_eq_true rfl, Nat.le_of_ble_eq_true rfl⟩ (fun en1 H locs he hP hS => ?_)
        obtain ⟨S, rfl, hC, hDr⟩ := he
        refine lv_aload_n hx hb dP_repeat_130 rfl (lv_at hl 4 rfl) ?_
        refine lv_iload_n hx hb dP_repeat_131 rfl (lv_at hl 5 rfl) ?_
        refine g_V (k := 1) F htw hB hS hP (0) (by decide) rfl rfl (c_swap G hC hDr hk) k2_15 k2_17 k0_2 k1_1 k2_18 (by decide +kernel) rfl rfl ⟨Nat.le_of_ble_eq_true rfl, Nat.le_of_ble_eq_true rfl⟩ rfl hl.1 rfl (Nat.le_of_ble_eq_true rfl) dP_repeat_132 ⟨Nat.le_of_ble_eq_true rfl, Nat.le_of_ble_eq_true rfl⟩ (fun en1 H locs he hP hS => ?_)
        obtain ⟨pi1, dr1, S, rfl, hC⟩ := he
        have hC := hC.to (k' := a_n a k - (t1 - f1) + j * (t1 - f1)) (g' := cat (rep (a_b a k) f1 (t1 - f1) (if nI f1 = nI t1 then 0 else j)) (f1 + j * (t1 - f1)) (fun i => a_b a k (t1 + i))) (by omega) (fun i hi => by rw [hTw]; congr 2; rw [hT0]; simp only [nI_eq (show f1 < 2 ^ 31 by omega) (show t1 < 2 ^ 31 by omega)])
        rw [hTw, show f1 + j * (t1 - f1) + (a_n a k - t1) = a_n a k - (t1 - f1) + j * (t1 - f1) by omega]
        refine W.widen (k := 1) (n := 6) (by decide) (by decide) ?_
        exact W.toX (W.iret hx hb hr (fun t ht hW => Or.inl ⟨hk1, ⟨by simp [dk_nI hk, ix_nI (show k < 2 ^ 31 by omega), nn_nI hj, ix_nI hj, rg_nI hft htn hn_k, ix_nI (show f1 < 2 ^ 31 by omega), ix_nI (show t1 < 2 ^ 31 by omega), hg], ⟨_, ⟨_, _, _, rfl, by simpa [x_repeat, dk_nI hk, ix_nI (show k < 2 ^ 31 by omega), nn_nI hj, ix_nI hj, rg_nI hft htn hn_k, ix_nI (show f1 < 2 ^ 31 by omega), ix_nI (show t1 < 2 ^ 31 by omega), hg] using hC⟩, by rw [ht]; exact hP⟩, hS.F ht⟩⟩) hS.2.2 dP_repeat_135)
      · refine lv_iload hx hb dP_repeat_91 (lv_at hl 0 rfl) ?_
        refine lv_iload hx hb dP_repeat_93 (lv_at hl 1 rfl) ?_
        refine lv_icmp_ge (tgt := 115) hx hb dP_repeat_95 (by decide) (fun hc => absurd hc (by rw [nI_leI (by omega) (by omega)]; omega)) (fun _ => ?_)
        refine lv_aload_n hx hb dP_repeat_98 rfl (lv_at hl 4 rfl) ?_
        refine g_get F hK hP (0) (by decide) rfl rfl iP 3 (by decide) k1_73 rfl dP_repeat_99 ?_
        refine lv_aload hx hb dP_repeat_102 (lv_at hl 3 rfl) ?_
        refine lv_iload_n hx hb dP_repeat_104 rfl (lv_at hl 6 rfl) ?_
        refine lv_iload_n hx hb dP_repeat_105 rfl (lv_at hl 7 rfl) ?_
        have hC := i1
        have hDr := i2
        have hm1 : (u + 1) * (t1 - f1) ≤ T0 * (t1 - f1) := Nat.mul_le_mul (by omega) (Nat.le_refl _)
        have hm2 : (u + 1) * (t1 - f1) = u * (t1 - f1) + (t1 - f1) := Nat.succ_mul _ _
        refine g_V (k := 3) F htw hB hS hP (2 + 2 * dr) (by omega) (en_T _ _ _ _ _ _ _ _ _ _ hdr) rfl (c_addR G hC hDr hk (by omega) (by omega) hn_k (by omega)) k2_8 k2_9 k2_10 k1_2 k2_11 (by decide +kernel) rfl rfl ⟨Nat.le_of_ble_eq_true rfl, Nat.le_of_ble_eq_true rfl⟩ rfl hl.1 rfl (Nat.le_of_ble_eq_true rfl) dP_repeat_106 ⟨Nat.le_of_ble_eq_true rfl, Nat.le_of_ble_eq_true rfl⟩ (fun en1 H locs he hP hS => ?_)
        obtain ⟨S, rfl, hC, hDr⟩ := he
        refine lv_iinc (k := 0) hx hb dP_repeat_109 hl rfl rfl (by decide) rfl (fun ls hl => ?_)
        have hl : lv_has ls 10 [(9, .int _), (8, .int _), (6, .long _), (5, .ref _), (0, .ref _), (1, .int _), (2, .int _), (3, .int _), (4, .int _)] := hl
        refine lv_goto (tgt := 91) hx hb dP_repeat_112 (by decide) ?_
        have hDr := hDr.to (k' := f1 + (u + 1) * (t1 - f1)) (g' := rep (a_b a k) f1 (t1 - f1) (u + 1)) (by omega) (fun i hi => rfl)
        have hl : lv_has ls 10 [(9, .int (nI (u + 1))), (8, .int (nI T0)), (6, .long (lN (j * (t1 - f1)))), (5, .ref (ad (2 + 2 * pi k))), (0, .ref (ad 0)), (1, .int (nI k)), (2, .int (nI f1)), (3, .int (nI t1)), (4, .int (nI j))] := by rw [← nI_1]; exact hl
        exact ih (t - 1) (u + 1, S) _ _ _ (by omega) ⟨by show u + 1 + (t - 1) = T0; omega, hC, hDr, hl, hP, hS⟩
  · have hk1 : (c_repeat a (nI k) (nI f1) (nI t1) (nI j)) = 3 := by simp [c_repeat, hg, dk_nI hk, ix_nI (show k < 2 ^ 31 by omega), nn_nI hj, ix_nI hj, rg_nI hft htn hn_k, ix_nI (show f1 < 2 ^ 31 by omega), ix_nI (show t1 < 2 ^ 31 by omega)]
    exact g_STh (k := 1) F hlocks hno htw hB hS hP (c_P_requireRoom_th hst (by omega)) k1_172 k1_173 k1_1 k1_174 (by decide +kernel) rfl rfl ⟨Nat.le_of_ble_eq_true rfl, Nat.le_of_ble_eq_true rfl⟩ rfl hl.1 rfl (Nat.le_of_ble_eq_true rfl) dP_repeat_54 ⟨Nat.le_of_ble_eq_true rfl, Nat.le_of_ble_eq_true rfl⟩ (by rw [hk1]; decide) (by rw [hk1]; rfl)
end M7
end
section
/-! The class's calls: prefix, order, same, name, pattern, count, find, lead, accept, run, accepted. -/
theorem l_add (x y : Int32) : (x.toInt64 + y.toInt64).toInt = x.toInt + y.toInt := by
  rw [Int64.toInt_add, Int32.toInt_toInt64, Int32.toInt_toInt64]
  have h1 := Int32.toInt_lt x
  have h2 := Int32.le_toInt x
  have h3 := Int32.toInt_lt y
  have h4 := Int32.le_toInt y
  apply Int.bmod_eq_of_le <;> omega
theorem rgL_sm (i : Int32) {j : Nat} (hj : j < 2 ^ 31) (N : Nat) : rgL i (i.toInt64 + (nI j).toInt64) N = smL i (nI j) N := by
  have := nI_toInt hj
  unfold rgL smL
  rw [l_add]
  congr 1
  apply propext
  omega
theorem sm_or (i : Int32) {j N : Nat} (hj : j < 2 ^ 31) (hN : N ≤ 1000) : smL i (nI j) N = false ∨ ∃ i', i' + j ≤ N ∧ i = nI i' := by
  have := nI_toInt hj
  by_cases h : 0 ≤ i.toInt ∧ i.toInt + (nI j).toInt ≤ (N : Int)
  · have h1 := ix_toInt h.1
    exact Or.inr ⟨ix i, by omega, nI_ix h.1⟩
  · exact Or.inl (by unfold smL; simp only [decide_eq_false_iff_not]; exact h)
theorem sm_nI {i j N : Nat} (h : i + j ≤ N) (hN : N ≤ 1000) : smL (nI i) (nI j) N = true := by
  have := nI_toInt (show i < 2 ^ 31 by omega)
  have := nI_toInt (show j < 2 ^ 31 by omega)
  unfold smL; simp only [decide_eq_true_eq]; omega
theorem RepC.pat {pi : Nat → Nat} {dr : Nat} {S : Nat → Nat → Int32} {a : Ab} {g : Nat → Nat} {n : Nat} (h : RepC pi dr S a) : RepC pi dr (sr (sr S 6 (fil (S 6) g n)) 7 (upd (S 7) 0 (nI n))) (a_n a, a_b a, n, g, a_x a, a_c a) := by
  obtain ⟨c1, c2, c3, c4, c5, c6, c7, c8, c9⟩ := h
  have row : ∀ r, r ≠ 6 → r ≠ 7 → sr (sr S 6 (fil (S 6) g n)) 7 (upd (S 7) 0 (nI n)) r = S r := fun r h1 h2 => by rw [sr_n h2, sr_n h1]
  refine ⟨c1, c2, c3, fun d hd => ?_, fun d i hd hi => ?_, ?_, fun q hq => ?_, fun q hq => ?_, fun q hq => ?_⟩
  · rw [row 5 (by decide) (by decide)]; exact c4 d hd
  · have := (c1 d hd).1; rw [row _ (by omega) (by omega)]; exact c5 d i hd hi
  · rw [sr_s]; exact pk_us
  · rw [sr_n (by decide), sr_s]; exact if_pos hq
  · rw [row 8 (by decide) (by decide)]; exact c8 q hq
  · rw [row 9 (by decide) (by decide)]; exact c9 q hq
theorem RepC.sx {pi : Nat → Nat} {dr : Nat} {S : Nat → Nat → Int32} {a : Ab} {f : Nat → Int32} {g : Nat → Nat} (h : RepC pi dr S a) (hf : ∀ q, q < 2048 → f q = nI (g q)) : RepC pi dr (sr S 8 f) (a_n a, a_b a, a_p a, a_q a, g, a_c a) := by
  obtain ⟨c1, c2, c3, c4, c5, c6, c7, c8, c9⟩ := h
  refine ⟨c1, c2, c3, fun d hd => ?_, fun d i hd hi => ?_, ?_, fun q hq => ?_, fun q hq => ?_, fun q hq => ?_⟩
  · rw [sr_n (by decide)]; exact c4 d hd
  · have := (c1 d hd).1; rw [sr_n (by omega)]; exact c5 d i hd hi
  · rw [sr_n (by decide)]; exact c6
  · rw [sr_n (by decide)]; exact c7 q hq
  · rw [sr_s]; exact hf q hq
  · rw [sr_n (by decide)]; exact c9 q hq
theorem RepC.sc {pi : Nat → Nat} {dr : Nat} {S : Nat → Nat → Int32} {a : Ab} {f : Nat → Int32} {g : Nat → Nat} (h : RepC pi dr S a) (hf : ∀ q, q < 8 → f q = nI (g q)) : RepC pi dr (sr S 9 f) (a_n a, a_b a, a_p a, a_q a, a_x a, g) := by
  obtain ⟨c1, c2, c3, c4, c5, c6, c7, c8, c9⟩ := h
  refine ⟨c1, c2, c3, fun d hd => ?_, fun d i hd hi => ?_, ?_, fun q hq => ?_, fun q hq => ?_, fun q hq => ?_⟩
  · rw [sr_n (by decide)]; exact c4 d hd
  · have := (c1 d hd).1; rw [sr_n (by omega)]; exact c5 d i hd hi
  · rw [sr_n (by decide)]; exact c6
  · rw [sr_n (by decide)]; exact c7 q hq
  · rw [sr_n (by decide)]; exact c8 q hq
  · rw [sr_s]; exact hf q hq
section M8
variable {l : Launch} {D : va_G} {cI cZ cT cJ : ClassId} {base : Nat} {ad : Nat → Nat} {pi : Nat → Nat} {dr : Nat} {S M : Nat → Nat → Int32} {o : Nat → Int64} {a : Ab}
theorem c_cmn (hC : RepC pi dr S a) (ha : a_ok a) {d d2 i j : Nat} (hd : d < 4) (hd2 : d2 < 4) (hi : i ≤ a_n a d) (hj : j ≤ a_n a d2) : Met l yP_commonBeginning (Cond.code yP_commonBeginning bP_commonBeginning 6 (some .int) :: tws) { frames := 1, cells := 0, slots := 0, locals := 21 } (gPc (tw D cI cZ cT cJ base) D cl ad 25 base (en ad cI cZ cT cJ pi dr S M o) [.ref (ad (2 + 2 * pi d)), .int (nI i), .ref (ad (2 + 2 * pi d2)), .int (nI j)]) (gQc D cl ad 25 base (some (.int (nI (cpr a d i d2 j)))) (fun e => e = en ad cI cZ cT cJ pi dr S M o)) 0 0 (gA base) := by
  refine gQ_imp (c_P_commonBeginning (hC.1 d hd).1 (hC.1 d2 hd2).1 (ha.1 d hd) (ha.1 d2 hd2) hi hj (hC.2.2.2.1 d hd) (hC.2.2.2.1 d2 hd2)) ?_ (fun e he => he)
  unfold cpr
  rw [cpx_congr]
  intro c _ hc
  have h1 := ha.2.1 d (i + c) hd (by omega)
  have h2 := ha.2.1 d2 (j + c) hd2 (by omega)
  rw [hC.2.2.2.2.1 d (i + c) hd (by omega), hC.2.2.2.2.1 d2 (j + c) hd2 (by omega)]
  congr 1
  exact propext (nI_eq (by omega) (by omega))
theorem c_std (hC : RepC pi dr S a) (ha : a_ok a) {d i e0 : Nat} (hd : d < 4) (hi : i ≤ e0) (he : e0 ≤ a_n a d) : Met l yQ_standsAt (Cond.code yQ_standsAt bQ_standsAt 5 (some .boolean) :: tws) { frames := 0, cells := 0, slots := 0, locals := 0 } (gPc (tw D cI cZ cT cJ base) D cl ad 25 base (en ad cI cZ cT cJ pi dr S M o) [.ref (ad 12), .ref (ad (2 + 2 * pi d)), .int (nI i), .int (nI e0)]) (gQc D cl ad 25 base (some (.int (if stB a d i e0 then 1 else 0))) (fun e => e = en ad cI cZ cT cJ pi dr S M o)) 0 0 (gA base) := by
  refine gQ_imp (c_Q_standsAt (hC.1 d hd).1 hi (by have := ha.1 d hd; omega) ha.2.2.1 hC.2.2.2.2.2.1) ?_ (fun e he => he)
  have h : (decide (a_p a ≤ e0 - i) && alb (fun k => decide (S (pi d) (i + k) = S 6 k)) (a_p a) 0) = stB a d i e0 := by
    unfold stB
    by_cases hp : a_p a ≤ e0 - i
    · congr 1
      refine alb_congr _ _ (fun k _ hk => ?_)
      have h1 := ha.2.1 d (i + k) hd (by omega)
      have h2 := ha.2.2.2.1 k (by omega)
      rw [hC.2.2.2.2.1 d (i + k) hd (by omega), hC.2.2.2.2.2.2.1 k (by omega)]
      congr 1
      exact propext (nI_eq (by omega) (by omega))
    · simp [hp]
  rw [h]
theorem c_nxt (hC : RepC pi dr S a) {s0 b : Nat} (hs : s0 < 8) (hb : b < 256) : Met l yA_nextOf (Cond.code yA_nextOf bA_nextOf 3 (some .int) :: tws) { frames := 0, cells := 0, slots := 0, locals := 0 } (gPc (tw D cI cZ cT cJ base) D cl ad 25 base (en ad cI cZ cT cJ pi dr S M o) [.ref (ad 14), .int (nI s0), .int (nI b)]) (gQc D cl ad 25 base (some (.int (nI (a_x a (256 * s0 + b))))) (fun e => e = en ad cI cZ cT cJ pi dr S M o)) 0 0 (gA base) :=
  gQ_imp (c_A_nextOf hs hb) (by rw [hC.2.2.2.2.2.2.2.1 _ (by omega)]) (fun e he => he)
set_option maxHeartbeats 4000000 in
set_option maxRecDepth 100000 in
theorem c_P_prefix (hst : l.stackTraces = false) (G : gGeo ad 25 base) (ha : a_ok a) (hC : RepC pi dr S a) (d i d2 j : Int32) : MetX l yP_prefix (Cond.code yP_prefix bP_prefix 7 (some .int) :: tws) { frames := 8, cells := 1, slots := 6, locals := 123 } (gPc (tw D cI cZ cT cJ base) D cl ad 25 base (en ad cI cZ cT cJ pi dr S M o) [.ref (ad 0), .int d, .int i, .int d2, .int j]) (gQx D cl ad 25 base (en ad cI cZ cT cJ pi dr S M o) ["java/lang/IllegalArgumentException", "java/lang/IndexOutOfBoundsException"] (c_prefix a d i d2 j) (some (.int (nI (cpr a (ix d) (ix i) (ix d2) (ix j))))) (fun e => ∃ (pi1 : Nat → Nat) (dr1 : Nat) (S1 : Nat → Nat → Int32), e = en ad cI cZ cT cJ pi1 dr1 S1 M o ∧ RepC pi1 dr1 S1 (a))) 1 6 (gA base) := by
  refine MetX.ofW (cc := bP_prefix) (maxL := 7) (ret := (some .int)) (by decide) rfl ?_
  intro p e s m args below meth c s₁ B hml hv
  obtain ⟨rfl, htw, hB, hP⟩ := hv
  have hx := B.exec
  have hb := B.bytes
  have hr := B.returns
  have hts0 := atoms_spec (ws := Cond.code yP_prefix bP_prefix 7 (some .int) :: tws) B.pre
  have hts : ∀ w ∈ tws, w.before _ s = true := fun w h => hts0 w (List.mem_cons_of_mem _ h)
  have hown : s.vm.findClass "PairedTexts" = some m.cls := findClass_of_methodNamed B.named
  have hlocks := B.notSynchronized
  have hno := B.noHandlers (hts0 _ List.mem_cons_self)
  have F : CallFix p m c bP_prefix 7 s _ tws "PairedTexts" := ⟨hx, hb, hml, hown, hts⟩
  have hK := htw.1
  have hS : va_S (gA base) s.heap s.heap [] := va_S.rf
  have hl := lv_entry ([.ref (ad 0), .int d, .int i, .int d2, .int j]) (n := 7) (Nat.le_of_ble_eq_true rfl)
  rw [lg_entry_eq]
  generalize (lg_sl ([.ref (ad 0), .int d, .int i, .int d2, .int j]) ++ List.replicate (7 - (lg_sl ([.ref (ad 0), .int d, .int i, .int d2, .int j])).length) Slot.unset).toArray = ls at hl ⊢
  have hl : lv_has ls 7 [(0, .ref (ad 0)), (1, .int d), (2, .int i), (3, .int d2), (4, .int j)] := hl
  have hdr := hC.2.1
  refine lv_aload_n hx hb dP_prefix_0 rfl (lv_at hl 0 rfl) ?_
  refine lv_iload_n hx hb dP_prefix_1 rfl (lv_at hl 1 rfl) ?_
  rcases dk_or d with hd | ⟨k, hk, rfl⟩
  · have hk1 : (c_prefix a d i d2 j) = 1 := by simp [c_prefix, hd.1]
    exact g_VTh (k := 1) F hlocks hno htw hB hS hP (0) (by decide) rfl rfl (c_P_textOf_th hst hd.2) k1_92 k1_94 k0_0 k1_1 k1_95 (by decide +kernel) rfl rfl ⟨Nat.le_of_ble_eq_true rfl, Nat.le_of_ble_eq_true rfl⟩ rfl hl.1 rfl (Nat.le_of_ble_eq_true rfl) dP_prefix_2 ⟨Nat.le_of_ble_eq_true rfl, Nat.le_of_ble_eq_true rfl⟩ (by rw [hk1]; decide) (by rw [hk1]; rfl)
  refine g_V (k := 1) F htw hB hS hP (0) (by decide) rfl rfl (c_P_textOf hk) k1_92 k1_94 k0_0 k1_1 k1_95 (by decide +kernel) rfl rfl ⟨Nat.le_of_ble_eq_true rfl, Nat.le_of_ble_eq_true rfl⟩ rfl hl.1 rfl (Nat.le_of_ble_eq_true rfl) dP_prefix_2 ⟨Nat.le_of_ble_eq_true rfl, Nat.le_of_ble_eq_true rfl⟩ (fun en1 H locs he hP hS => ?_)
  obtain rfl := he
  have hp_k := (hC.1 k hk).1
  have hn_k := ha.1 k hk
  have h5_k := hC.2.2.2.1 k hk
  refine lv_astore hx hb dP_prefix_5 hl (by decide) rfl (fun ls hl => ?_)
  have hl : lv_has ls 7 [(5, .ref _), (0, .ref _), (1, .int _), (2, .int _), (3, .int _), (4, .int _)] := hl
  refine lv_aload_n hx hb dP_prefix_7 rfl (lv_at hl 1 rfl) ?_
  refine lv_iload_n hx hb dP_prefix_8 rfl (lv_at hl 4 rfl) ?_
  rcases dk_or d2 with hd | ⟨g, hg, rfl⟩
  · have hk1 : (c_prefix a (nI k) i d2 j) = 1 := by simp [c_prefix, dk_nI hk, ix_nI (show k < 2 ^ 31 by omega), hd.1]
    exact g_VTh (k := 1) F hlocks hno htw hB hS hP (0) (by decide) rfl rfl (c_P_textOf_th hst hd.2) k1_92 k1_94 k0_0 k1_1 k1_95 (by decide +kernel) rfl rfl ⟨Nat.le_of_ble_eq_true rfl, Nat.le_of_ble_eq_true rfl⟩ rfl hl.1 rfl (Nat.le_of_ble_eq_true rfl) dP_prefix_9 ⟨Nat.le_of_ble_eq_true rfl, Nat.le_of_ble_eq_true rfl⟩ (by rw [hk1]; decide) (by rw [hk1]; rfl)
  refine g_V (k := 1) F htw hB hS hP (0) (by decide) rfl rfl (c_P_textOf hg) k1_92 k1_94 k0_0 k1_1 k1_95 (by decide +kernel) rfl rfl ⟨Nat.le_of_ble_eq_true rfl, Nat.le_of_ble_eq_true rfl⟩ rfl hl.1 rfl (Nat.le_of_ble_eq_true rfl) dP_prefix_9 ⟨Nat.le_of_ble_eq_true rfl, Nat.le_of_ble_eq_true rfl⟩ (fun en1 H locs he hP hS => ?_)
  obtain rfl := he
  have hp_g := (hC.1 g hg).1
  have hn_g := ha.1 g hg
  have h5_g := hC.2.2.2.1 g hg
  refine lv_astore hx hb dP_prefix_12 hl (by decide) rfl (fun ls hl => ?_)
  have hl : lv_has ls 7 [(6, .ref _), (5, .ref _), (0, .ref _), (1, .int _), (2, .int _), (3, .int _), (4, .int _)] := hl
  refine lv_aload hx hb dP_prefix_14 (lv_at hl 1 rfl) ?_
  refine lv_iload_n hx hb dP_prefix_16 rfl (lv_at hl 4 rfl) ?_
  refine g_V (k := 1) F htw hB hS hP (2 + 2 * pi k) (by omega) (en_T _ _ _ _ _ _ _ _ _ _ hp_k) rfl (c_pce hC ha hk i) k2_33 k2_34 k2_35 k1_2 k2_36 (by decide +kernel) rfl rfl ⟨Nat.le_of_ble_eq_true rfl, Nat.le_of_ble_eq_true rfl⟩ rfl hl.1 rfl (Nat.le_of_ble_eq_true rfl) dP_prefix_17 ⟨Nat.le_of_ble_eq_true rfl, Nat.le_of_ble_eq_true rfl⟩ (fun en1 H locs he hP hS => ?_)
  obtain rfl := he
  rcases pc_or i hn_k with hg0 | ⟨x, hx1, rfl⟩
  · have hk1 : (c_prefix a (nI k) i (nI g) j) = 2 := by simp [c_prefix, dk_nI hk, ix_nI (show k < 2 ^ 31 by omega), dk_nI hg, ix_nI (show g < 2 ^ 31 by omega), hg0]
    rw [show (if pcL i (a_n a k) then (1 : Int32) else 0) = 0 from by rw [hg0]; rfl]
    refine lv_if_eq (tgt := 37) hx hb dP_prefix_20 (by decide) (fun _ => ?_) (fun hc => absurd rfl hc)
    refine lv_iconst (v := 0) hx hb dP_prefix_37 (by decide) ?_
    exact g_STh (k := 1) F hlocks hno htw hB hS hP (c_P_requireInside_th hst) k1_214 k1_215 k1_1 k1_216 (by decide +kernel) rfl rfl ⟨Nat.le_of_ble_eq_true rfl, Nat.le_of_ble_eq_true rfl⟩ rfl hl.1 rfl (Nat.le_of_ble_eq_true rfl) dP_prefix_38 ⟨Nat.le_of_ble_eq_true rfl, Nat.le_of_ble_eq_true rfl⟩ (by rw [hk1]; decide) (by rw [hk1]; rfl)
  rw [show (if pcL (nI x) (a_n a k) then (1 : Int32) else 0) = 1 from if_pos (pc_nI hx1 hn_k)]
  refine lv_if_eq (tgt := 37) hx hb dP_prefix_20 (by decide) (fun hc => absurd hc (by decide)) (fun _ => ?_)
  refine lv_aload hx hb dP_prefix_23 (lv_at hl 0 rfl) ?_
  refine lv_iload hx hb dP_prefix_25 (lv_at hl 6 rfl) ?_
  refine g_V (k := 1) F htw hB hS hP (2 + 2 * pi g) (by omega) (en_T _ _ _ _ _ _ _ _ _ _ hp_g) rfl (c_pce hC ha hg j) k2_33 k2_34 k2_35 k1_2 k2_36 (by decide +kernel) rfl rfl ⟨Nat.le_of_ble_eq_true rfl, Nat.le_of_ble_eq_true rfl⟩ rfl hl.1 rfl (Nat.le_of_ble_eq_true rfl) dP_prefix_27 ⟨Nat.le_of_ble_eq_true rfl, Nat.le_of_ble_eq_true rfl⟩ (fun en1 H locs he hP hS => ?_)
  obtain rfl := he
  rcases pc_or j hn_g with hg1 | ⟨z, hz1, rfl⟩
  · have hk1 : (c_prefix a (nI k) (nI x) (nI g) j) = 2 := by simp [c_prefix, dk_nI hk, ix_nI (show k < 2 ^ 31 by omega), dk_nI hg, ix_nI (show g < 2 ^ 31 by omega), pc_nI hx1 hn_k, ix_nI (show x < 2 ^ 31 by omega), hg1]
    rw [show (if pcL j (a_n a g) then (1 : Int32) else 0) = 0 from by rw [hg1]; rfl]
    refine lv_if_eq (tgt := 37) hx hb dP_prefix_30 (by decide) (fun _ => ?_) (fun hc => absurd rfl hc)
    refine lv_iconst (v := 0) hx hb dP_prefix_37 (by decide) ?_
    exact g_STh (k := 1) F hlocks hno htw hB hS hP (c_P_requireInside_th hst) k1_214 k1_215 k1_1 k1_216 (by decide +kernel) rfl rfl ⟨Nat.le_of_ble_eq_true rfl, Nat.le_of_ble_eq_true rfl⟩ rfl hl.1 rfl (Nat.le_of_ble_eq_true rfl) dP_prefix_38 ⟨Nat.le_of_ble_eq_true rfl, Nat.le_of_ble_eq_true rfl⟩ (by rw [hk1]; decide) (by rw [hk1]; rfl)
  rw [show (if pcL (nI z) (a_n a g) then (1 : Int32) else 0) = 1 from if_pos (pc_nI hz1 hn_g)]
  refine lv_if_eq (tgt := 37) hx hb dP_prefix_30 (by decide) (fun hc => absurd hc (by decide)) (fun _ => ?_)
  refine lv_iconst (v := 1) hx hb dP_prefix_33 (by decide) ?_
  refine lv_goto (tgt := 38) hx hb dP_prefix_34 (by decide) ?_
  refine g_S (k := 1) F htw hB hS hP (c_P_requireInside) k1_214 k1_215 k1_1 k1_216 (by decide +kernel) rfl rfl ⟨Nat.le_of_ble_eq_true rfl, Nat.le_of_ble_eq_true rfl⟩ rfl hl.1 rfl (Nat.le_of_ble_eq_true rfl) dP_prefix_38 ⟨Nat.le_of_ble_eq_true rfl, Nat.le_of_ble_eq_true rfl⟩ (fun en1 H locs he hP hS => ?_)
  obtain rfl := he
  refine lv_aload hx hb dP_prefix_41 (lv_at hl 1 rfl) ?_
  refine lv_iload_n hx hb dP_prefix_43 rfl (lv_at hl 4 rfl) ?_
  refine lv_aload hx hb dP_prefix_44 (lv_at hl 0 rfl) ?_
  refine lv_iload hx hb dP_prefix_46 (lv_at hl 6 rfl) ?_
  refine g_S (k := 4) F htw hB hS hP (c_cmn hC ha hk hg hx1 hz1) k2_65 k2_66 k1_1 k2_67 (by decide +kernel) rfl rfl ⟨Nat.le_of_ble_eq_true rfl, Nat.le_of_ble_eq_true rfl⟩ rfl hl.1 rfl (Nat.le_of_ble_eq_true rfl) dP_prefix_48 ⟨Nat.le_of_ble_eq_true rfl, Nat.le_of_ble_eq_true rfl⟩ (fun en1 H locs he hP hS => ?_)
  obtain rfl := he
  have hk1 : (c_prefix a (nI k) (nI x) (nI g) (nI z)) = 0 := by simp [c_prefix, dk_nI hk, ix_nI (show k < 2 ^ 31 by omega), dk_nI hg, ix_nI (show g < 2 ^ 31 by omega), pc_nI hx1 hn_k, ix_nI (show x < 2 ^ 31 by omega), pc_nI hz1 hn_g, ix_nI (show z < 2 ^ 31 by omega)]
  refine W.widen (k := 1) (n := 6) (by decide) (by decide) ?_
  exact W.toX (W.iret hx hb hr (fun t ht hW => Or.inl ⟨hk1, ⟨by simp [dk_nI hk, ix_nI (show k < 2 ^ 31 by omega), dk_nI hg, ix_nI (show g < 2 ^ 31 by omega), pc_nI hx1 hn_k, ix_nI (show x < 2 ^ 31 by omega), pc_nI hz1 hn_g, ix_nI (show z < 2 ^ 31 by omega)], ⟨_, ⟨_, _, _, rfl, hC⟩, by rw [ht]; exact hP⟩, hS.F ht⟩⟩) hS.2.2 dP_prefix_51)
set_option maxHeartbeats 4000000 in
set_option maxRecDepth 100000 in
theorem c_P_order (hst : l.stackTraces = false) (G : gGeo ad 25 base) (ha : a_ok a) (hC : RepC pi dr S a) (d i d2 j : Int32) : MetX l yP_order (Cond.code yP_order bP_order 10 (some .int) :: tws) { frames := 8, cells := 1, slots := 6, locals := 123 } (gPc (tw D cI cZ cT cJ base) D cl ad 25 base (en ad cI cZ cT cJ pi dr S M o) [.ref (ad 0), .int d, .int i, .int d2, .int j]) (gQx D cl ad 25 base (en ad cI cZ cT cJ pi dr S M o) ["java/lang/IllegalArgumentException", "java/lang/IndexOutOfBoundsException"] (c_prefix a d i d2 j) (some (.int (r_order a (ix d) (ix i) (ix d2) (ix j)))) (fun e => ∃ (pi1 : Nat → Nat) (dr1 : Nat) (S1 : Nat → Nat → Int32), e = en ad cI cZ cT cJ pi1 dr1 S1 M o ∧ RepC pi1 dr1 S1 (a))) 1 6 (gA base) := by
  refine MetX.ofW (cc := bP_order) (maxL := 10) (ret := (some .int)) (by decide) rfl ?_
  intro p e s m args below meth c s₁ B hml hv
  obtain ⟨rfl, htw, hB, hP⟩ := hv
  have hx := B.exec
  have hb := B.bytes
  have hr := B.returns
  have hts0 := atoms_spec (ws := Cond.code yP_order bP_order 10 (some .int) :: tws) B.pre
  have hts : ∀ w ∈ tws, w.before _ s = true := fun w h => hts0 w (List.mem_cons_of_mem _ h)
  have hown : s.vm.findClass "PairedTexts" = some m.cls := findClass_of_methodNamed B.named
  have hlocks := B.notSynchronized
  have hno := B.noHandlers (hts0 _ List.mem_cons_self)
  have F : CallFix p m c bP_order 10 s _ tws "PairedTexts" := ⟨hx, hb, hml, hown, hts⟩
  have hK := htw.1
  have hS : va_S (gA base) s.heap s.heap [] := va_S.rf
  have hl := lv_entry ([.ref (ad 0), .int d, .int i, .int d2, .int j]) (n := 10) (Nat.le_of_ble_eq_true rfl)
  rw [lg_entry_eq]
  generalize (lg_sl ([.ref (ad 0), .int d, .int i, .int d2, .int j]) ++ List.replicate (10 - (lg_sl ([.ref (ad 0), .int d, .int i, .int d2, .int j])).length) Slot.unset).toArray = ls at hl ⊢
  have hl : lv_has ls 10 [(0, .ref (ad 0)), (1, .int d), (2, .int i), (3, .int d2), (4, .int j)] := hl
  have hdr := hC.2.1
  refine lv_aload_n hx hb dP_order_0 rfl (lv_at hl 0 rfl) ?_
  refine lv_iload_n hx hb dP_order_1 rfl (lv_at hl 1 rfl) ?_
  rcases dk_or d with hd | ⟨k, hk, rfl⟩
  · have hk1 : (c_prefix a d i d2 j) = 1 := by simp [c_prefix, hd.1]
    exact g_VTh (k := 1) F hlocks hno htw hB hS hP (0) (by decide) rfl rfl (c_P_textOf_th hst hd.2) k1_92 k1_94 k0_0 k1_1 k1_95 (by decide +kernel) rfl rfl ⟨Nat.le_of_ble_eq_true rfl, Nat.le_of_ble_eq_true rfl⟩ rfl hl.1 rfl (Nat.le_of_ble_eq_true rfl) dP_order_2 ⟨Nat.le_of_ble_eq_true rfl, Nat.le_of_ble_eq_true rfl⟩ (by rw [hk1]; decide) (by rw [hk1]; rfl)
  refine g_V (k := 1) F htw hB hS hP (0) (by decide) rfl rfl (c_P_textOf hk) k1_92 k1_94 k0_0 k1_1 k1_95 (by decide +kernel) rfl rfl ⟨Nat.le_of_ble_eq_true rfl, Nat.le_of_ble_eq_true rfl⟩ rfl hl.1 rfl (Nat.le_of_ble_eq_true rfl) dP_order_2 ⟨Nat.le_of_ble_eq_true rfl, Nat.le_of_ble_eq_true rfl⟩ (fun en1 H locs he hP hS => ?_)
  obtain rfl := he
  have hp_k := (hC.1 k hk).1
  have hn_k := ha.1 k hk
  have h5_k := hC.2.2.2.1 k hk
  refine lv_astore hx hb dP_order_5 hl (by decide) rfl (fun ls hl => ?_)
  have hl : lv_has ls 10 [(5, .ref _), (0, .ref _), (1, .int _), (2, .int _), (3, .int _), (4, .int _)] := hl
  refine lv_aload_n hx hb dP_order_7 rfl (lv_at hl 1 rfl) ?_
  refine lv_iload_n hx hb dP_order_8 rfl (lv_at hl 4 rfl) ?_
  rcases dk_or d2 with hd | ⟨g, hg, rfl⟩
  · have hk1 : (c_prefix a (nI k) i d2 j) = 1 := by simp [c_prefix, dk_nI hk, ix_nI (show k < 2 ^ 31 by omega), hd.1]
    exact g_VTh (k := 1) F hlocks hno htw hB hS hP (0) (by decide) rfl rfl (c_P_textOf_th hst hd.2) k1_92 k1_94 k0_0 k1_1 k1_95 (by decide +kernel) rfl rfl ⟨Nat.le_of_ble_eq_true rfl, Nat.le_of_ble_eq_true rfl⟩ rfl hl.1 rfl (Nat.le_of_ble_eq_true rfl) dP_order_9 ⟨Nat.le_of_ble_eq_true rfl, Nat.le_of_ble_eq_true rfl⟩ (by rw [hk1]; decide) (by rw [hk1]; rfl)
  refine g_V (k := 1) F htw hB hS hP (0) (by decide) rfl rfl (c_P_textOf hg) k1_92 k1_94 k0_0 k1_1 k1_95 (by decide +kernel) rfl rfl ⟨Nat.le_of_ble_eq_true rfl, Nat.le_of_ble_eq_true rfl⟩ rfl hl.1 rfl (Nat.le_of_ble_eq_true rfl) dP_order_9 ⟨Nat.le_of_ble_eq_true rfl, Nat.le_of_ble_eq_true rfl⟩ (fun en1 H locs he hP hS => ?_)
  obtain rfl := he
  have hp_g := (hC.1 g hg).1
  have hn_g := ha.1 g hg
  have h5_g := hC.2.2.2.1 g hg
  refine lv_astore hx hb dP_order_12 hl (by decide) rfl (fun ls hl => ?_)
  have hl : lv_has ls 10 [(6, .ref _), (5, .ref _), (0, .ref _), (1, .int _), (2, .int _), (3, .int _), (4, .int _)] := hl
  refine lv_aload hx hb dP_order_14 (lv_at hl 1 rfl) ?_
  refine lv_iload_n hx hb dP_order_16 rfl (lv_at hl 4 rfl) ?_
  refine g_V (k := 1) F htw hB hS hP (2 + 2 * pi k) (by omega) (en_T _ _ _ _ _ _ _ _ _ _ hp_k) rfl (c_pce hC ha hk i) k2_33 k2_34 k2_35 k1_2 k2_36 (by decide +kernel) rfl rfl ⟨Nat.le_of_ble_eq_true rfl, Nat.le_of_ble_eq_true rfl⟩ rfl hl.1 rfl (Nat.le_of_ble_eq_true rfl) dP_order_17 ⟨Nat.le_of_ble_eq_true rfl, Nat.le_of_ble_eq_true rfl⟩ (fun en1 H locs he hP hS => ?_)
  obtain rfl := he
  rcases pc_or i hn_k with hg0 | ⟨x, hx1, rfl⟩
  · have hk1 : (c_prefix a (nI k) i (nI g) j) = 2 := by simp [c_prefix, dk_nI hk, ix_nI (show k < 2 ^ 31 by omega), dk_nI hg, ix_nI (show g < 2 ^ 31 by omega), hg0]
    rw [show (if pcL i (a_n a k) then (1 : Int32) else 0) = 0 from by rw [hg0]; rfl]
    refine lv_if_eq (tgt := 37) hx hb dP_order_20 (by decide) (fun _ => ?_) (fun hc => absurd rfl hc)
    refine lv_iconst (v := 0) hx hb dP_order_37 (by decide) ?_
    exact g_STh (k := 1) F hlocks hno htw hB hS hP (c_P_requireInside_th hst) k1_214 k1_215 k1_1 k1_216 (by decide +kernel) rfl rfl ⟨Nat.le_of_ble_eq_true rfl, Nat.le_of_ble_eq_true rfl⟩ rfl hl.1 rfl (Nat.le_of_ble_eq_true rfl) dP_order_38 ⟨Nat.le_of_ble_eq_true rfl, Nat.le_of_ble_eq_true rfl⟩ (by rw [hk1]; decide) (by rw [hk1]; rfl)
  rw [show (if pcL (nI x) (a_n a k) then (1 : Int32) else 0) = 1 from if_pos (pc_nI hx1 hn_k)]
  refine lv_if_eq (tgt := 37) hx hb dP_order_20 (by decide) (fun hc => absurd hc (by decide)) (fun _ => ?_)
  refine lv_aload hx hb dP_order_23 (lv_at hl 0 rfl) ?_
  refine lv_iload hx hb dP_order_25 (lv_at hl 6 rfl) ?_
  refine g_V (k := 1) F htw hB hS hP (2 + 2 * pi g) (by omega) (en_T _ _ _ _ _ _ _ _ _ _ hp_g) rfl (c_pce hC ha hg j) k2_33 k2_34 k2_35 k1_2 k2_36 (by decide +kernel) rfl rfl ⟨Nat.le_of_ble_eq_true rfl, Nat.le_of_ble_eq_true rfl⟩ rfl hl.1 rfl (Nat.le_of_ble_eq_true rfl) dP_order_27 ⟨Nat.le_of_ble_eq_true rfl, Nat.le_of_ble_eq_true rfl⟩ (fun en1 H locs he hP hS => ?_)
  obtain rfl := he
  rcases pc_or j hn_g with hg1 | ⟨z, hz1, rfl⟩
  · have hk1 : (c_prefix a (nI k) (nI x) (nI g) j) = 2 := by simp [c_prefix, dk_nI hk, ix_nI (show k < 2 ^ 31 by omega), dk_nI hg, ix_nI (show g < 2 ^ 31 by omega), pc_nI hx1 hn_k, ix_nI (show x < 2 ^ 31 by omega), hg1]
    rw [show (if pcL j (a_n a g) then (1 : Int32) else 0) = 0 from by rw [hg1]; rfl]
    refine lv_if_eq (tgt := 37) hx hb dP_order_30 (by decide) (fun _ => ?_) (fun hc => absurd rfl hc)
    refine lv_iconst (v := 0) hx hb dP_order_37 (by decide) ?_
    exact g_STh (k := 1) F hlocks hno htw hB hS hP (c_P_requireInside_th hst) k1_214 k1_215 k1_1 k1_216 (by decide +kernel) rfl rfl ⟨Nat.le_of_ble_eq_true rfl, Nat.le_of_ble_eq_true rfl⟩ rfl hl.1 rfl (Nat.le_of_ble_eq_true rfl) dP_order_38 ⟨Nat.le_of_ble_eq_true rfl, Nat.le_of_ble_eq_true rfl⟩ (by rw [hk1]; decide) (by rw [hk1]; rfl)
  rw [show (if pcL (nI z) (a_n a g) then (1 : Int32) else 0) = 1 from if_pos (pc_nI hz1 hn_g)]
  refine lv_if_eq (tgt := 37) hx hb dP_order_30 (by decide) (fun hc => absurd hc (by decide)) (fun _ => ?_)
  refine lv_iconst (v := 1) hx hb dP_order_33 (by decide) ?_
  refine lv_goto (tgt := 38) hx hb dP_order_34 (by decide) ?_
  refine g_S (k := 1) F htw hB hS hP (c_P_requireInside) k1_214 k1_215 k1_1 k1_216 (by decide +kernel) rfl rfl ⟨Nat.le_of_ble_eq_true rfl, Nat.le_of_ble_eq_true rfl⟩ rfl hl.1 rfl (Nat.le_of_ble_eq_true rfl) dP_order_38 ⟨Nat.le_of_ble_eq_true rfl, Nat.le_of_ble_eq_true rfl⟩ (fun en1 H locs he hP hS => ?_)
  obtain rfl := he
  refine lv_aload hx hb dP_order_41 (lv_at hl 1 rfl) ?_
  refine lv_iload_n hx hb dP_order_43 rfl (lv_at hl 4 rfl) ?_
  refine lv_aload hx hb dP_order_44 (lv_at hl 0 rfl) ?_
  refine lv_iload hx hb dP_order_46 (lv_at hl 6 rfl) ?_
  refine g_S (k := 4) F htw hB hS hP (c_cmn hC ha hk hg hx1 hz1) k2_65 k2_66 k1_1 k2_67 (by decide +kernel) rfl rfl ⟨Nat.le_of_ble_eq_true rfl, Nat.le_of_ble_eq_true rfl⟩ rfl hl.1 rfl (Nat.le_of_ble_eq_true rfl) dP_order_48 ⟨Nat.le_of_ble_eq_true rfl, Nat.le_of_ble_eq_true rfl⟩ (fun en1 H locs he hP hS => ?_)
  obtain rfl := he
  have hk1 : (c_prefix a (nI k) (nI x) (nI g) (nI z)) = 0 := by simp [c_prefix, dk_nI hk, ix_nI (show k < 2 ^ 31 by omega), dk_nI hg, ix_nI (show g < 2 ^ 31 by omega), pc_nI hx1 hn_k, ix_nI (show x < 2 ^ 31 by omega), pc_nI hz1 hn_g, ix_nI (show z < 2 ^ 31 by omega)]
  have hcb : cpr a k x g z ≤ min (a_n a k - x) (a_n a g - z) := by have := (cpx_le (fun c => decide (a_b a k (x + c) = a_b a g (z + c))) (min (a_n a k - x) (a_n a g - z)) 0).2; unfold cpr; omega
  have hro : r_order a k x g z = (if x + cpr a k x g z = a_n a k ∧ z + cpr a k x g z = a_n a g then 0 else if x + cpr a k x g z = a_n a k then -1 else if z + cpr a k x g z = a_n a g then 1 else if a_b a k (x + cpr a k x g z) < a_b a g (z + cpr a k x g z) then -1 else 1) := rfl
  generalize cpr a k x g z = c0 at hcb hro ⊢
  refine lv_istore hx hb dP_order_51 hl (by decide) rfl (fun ls hl => ?_)
  have hl : lv_has ls 10 [(7, .int _), (6, .ref _), (5, .ref _), (0, .ref _), (1, .int _), (2, .int _), (3, .int _), (4, .int _)] := hl
  refine lv_iload_n hx hb dP_order_53 rfl (lv_at hl 5 rfl) ?_
  refine lv_iload hx hb dP_order_54 (lv_at hl 0 rfl) ?_
  refine lv_iadd hx hb dP_order_56 ?_
  refine lv_aload hx hb dP_order_57 (lv_at hl 2 rfl) ?_
  refine g_get F hK hP (2 + 2 * pi k) (by omega) (en_T _ _ _ _ _ _ _ _ _ _ hp_k) rfl iT 1 (by decide) k1_34 rfl dP_order_59 ?_
  rw [h5_k, nI_add]
  refine lv_icmp_ne (tgt := 69) hx hb dP_order_62 (by decide) (fun h1 => ?_) (fun h1 => ?_)
  · rw [nI_eq (by omega) (by omega)] at h1
    refine lv_iconst (v := 0) hx hb dP_order_69 (by decide) ?_
    refine lv_istore hx hb dP_order_70 hl (by decide) rfl (fun ls hl => ?_)
    have hl : lv_has ls 10 [(8, .int _), (7, .int _), (6, .ref _), (5, .ref _), (0, .ref _), (1, .int _), (2, .int _), (3, .int _), (4, .int _)] := hl
    refine lv_iload hx hb dP_order_72 (lv_at hl 8 rfl) ?_
    refine lv_iload hx hb dP_order_74 (lv_at hl 1 rfl) ?_
    refine lv_iadd hx hb dP_order_76 ?_
    refine lv_aload hx hb dP_order_77 (lv_at hl 2 rfl) ?_
    refine g_get F hK hP (2 + 2 * pi g) (by omega) (en_T _ _ _ _ _ _ _ _ _ _ hp_g) rfl iT 1 (by decide) k1_34 rfl dP_order_79 ?_
    rw [h5_g, nI_add]
    refine lv_icmp_ne (tgt := 89) hx hb dP_order_82 (by decide) (fun h2 => ?_) (fun h2 => ?_)
    · rw [nI_eq (by omega) (by omega)] at h2
      refine lv_iconst (v := 0) hx hb dP_order_89 (by decide) ?_
      refine lv_istore hx hb dP_order_90 hl (by decide) rfl (fun ls hl => ?_)
      have hl : lv_has ls 10 [(9, .int _), (8, .int _), (7, .int _), (6, .ref _), (5, .ref _), (0, .ref _), (1, .int _), (2, .int _), (3, .int _), (4, .int _)] := hl
      refine lv_iload hx hb dP_order_92 (lv_at hl 1 rfl) ?_
      refine lv_if_eq (tgt := 104) hx hb dP_order_94 (by decide) (fun _ => ?_) (fun hc => absurd rfl hc)
      refine lv_iload hx hb dP_order_104 (lv_at hl 1 rfl) ?_
      refine lv_if_eq (tgt := 111) hx hb dP_order_106 (by decide) (fun _ => ?_) (fun hc => absurd rfl hc)
      refine lv_iload hx hb dP_order_111 (lv_at hl 0 rfl) ?_
      refine lv_if_eq (tgt := 118) hx hb dP_order_113 (by decide) (fun _ => ?_) (fun hc => absurd rfl hc)
      refine lv_aload hx hb dP_order_118 (lv_at hl 4 rfl) ?_
      refine g_get F hK hP (2 + 2 * pi k) (by omega) (en_T _ _ _ _ _ _ _ _ _ _ hp_k) rfl iT 0 (by decide) k1_32 rfl dP_order_120 ?_
      refine lv_iload_n hx hb dP_order_123 rfl (lv_at hl 7 rfl) ?_
      refine lv_iload hx hb dP_order_124 (lv_at hl 2 rfl) ?_
      refine lv_iadd hx hb dP_order_126 ?_
      rw [nI_add]
      refine g_iald F hK hP (3 + 2 * pi k) (by omega) 0 (en_B _ _ _ _ _ _ _ _ _ _ hp_k) rfl (vp_in_nI (show x + c0 < 1000 by omega) (by omega)) dP_order_127 ?_
      rw [nI_clamp (show x + c0 < 2 ^ 31 by omega), hC.2.2.2.2.1 k (x + c0) hk (by omega)]
      refine lv_aload hx hb dP_order_128 (lv_at hl 3 rfl) ?_
      refine g_get F hK hP (2 + 2 * pi g) (by omega) (en_T _ _ _ _ _ _ _ _ _ _ hp_g) rfl iT 0 (by decide) k1_32 rfl dP_order_130 ?_
      refine lv_iload hx hb dP_order_133 (lv_at hl 9 rfl) ?_
      refine lv_iload hx hb dP_order_135 (lv_at hl 2 rfl) ?_
      refine lv_iadd hx hb dP_order_137 ?_
      rw [nI_add]
      refine g_iald F hK hP (3 + 2 * pi g) (by omega) 0 (en_B _ _ _ _ _ _ _ _ _ _ hp_g) rfl (vp_in_nI (show z + c0 < 1000 by omega) (by omega)) dP_order_138 ?_
      rw [nI_clamp (show z + c0 < 2 ^ 31 by omega), hC.2.2.2.2.1 g (z + c0) hg (by omega)]
      have q1 := ha.2.1 k (x + c0) hk (by omega)
      have q2 := ha.2.1 g (z + c0) hg (by omega)
      refine lv_icmp_ge (tgt := 146) hx hb dP_order_139 (by decide) (fun h3 => ?_) (fun h3 => ?_)
      · rw [nI_leI (by omega) (by omega)] at h3
        refine lv_iconst (v := 1) hx hb dP_order_146 (by decide) ?_
        have hv : r_order a k x g z = 1 := by rw [hro]; simp [h1, h2, show ¬ a_b a k (x + c0) < a_b a g (z + c0) by omega]
        refine W.widen (k := 1) (n := 6) (by decide) (by decide) ?_
        exact W.toX (W.iret hx hb hr (fun t ht hW => Or.inl ⟨hk1, ⟨by simp [hv, dk_nI hk, ix_nI (show k < 2 ^ 31 by omega), dk_nI hg, ix_nI (show g < 2 ^ 31 by omega), pc_nI hx1 hn_k, ix_nI (show x < 2 ^ 31 by omega), pc_nI hz1 hn_g, ix_nI (show z < 2 ^ 31 by omega)], ⟨_, ⟨_, _, _, rfl, hC⟩, by rw [ht]; exact hP⟩, hS.F ht⟩⟩) hS.2.2 dP_order_147)
      · rw [nI_leI (by omega) (by omega)] at h3
        refine lv_iconst (v := (-1)) hx hb dP_order_142 (by decide) ?_
        refine lv_goto (tgt := 147) hx hb dP_order_143 (by decide) ?_
        have hv : r_order a k x g z = -1 := by rw [hro]; simp [h1, h2, show  a_b a k (x + c0) < a_b a g (z + c0) by omega]
        refine W.widen (k := 1) (n := 6) (by decide) (by decide) ?_
        exact W.toX (W.iret hx hb hr (fun t ht hW => Or.inl ⟨hk1, ⟨by simp [hv, dk_nI hk, ix_nI (show k < 2 ^ 31 by omega), dk_nI hg, ix_nI (show g < 2 ^ 31 by omega), pc_nI hx1 hn_k, ix_nI (show x < 2 ^ 31 by omega), pc_nI hz1 hn_g, ix_nI (show z < 2 ^ 31 by omega)], ⟨_, ⟨_, _, _, rfl, hC⟩, by rw [ht]; exact hP⟩, hS.F ht⟩⟩) hS.2.2 dP_order_147)
    · rw [nI_eq (by omega) (by omega)] at h2
      refine lv_iconst (v := 1) hx hb dP_order_85 (by decide) ?_
      refine lv_goto (tgt := 90) hx hb dP_order_86 (by decide) ?_
      refine lv_istore hx hb dP_order_90 hl (by decide) rfl (fun ls hl => ?_)
      have hl : lv_has ls 10 [(9, .int _), (8, .int _), (7, .int _), (6, .ref _), (5, .ref _), (0, .ref _), (1, .int _), (2, .int _), (3, .int _), (4, .int _)] := hl
      refine lv_iload hx hb dP_order_92 (lv_at hl 1 rfl) ?_
      refine lv_if_eq (tgt := 104) hx hb dP_order_94 (by decide) (fun _ => ?_) (fun hc => absurd rfl hc)
      refine lv_iload hx hb dP_order_104 (lv_at hl 1 rfl) ?_
      refine lv_if_eq (tgt := 111) hx hb dP_order_106 (by decide) (fun _ => ?_) (fun hc => absurd rfl hc)
      refine lv_iload hx hb dP_order_111 (lv_at hl 0 rfl) ?_
      refine lv_if_eq (tgt := 118) hx hb dP_order_113 (by decide) (fun hc => absurd hc (by decide)) (fun _ => ?_)
      refine lv_iconst (v := 1) hx hb dP_order_116 (by decide) ?_
      have hv : r_order a k x g z = 1 := by rw [hro]; simp [h1, h2]
      refine W.widen (k := 1) (n := 6) (by decide) (by decide) ?_
      exact W.toX (W.iret hx hb hr (fun t ht hW => Or.inl ⟨hk1, ⟨by simp [hv, dk_nI hk, ix_nI (show k < 2 ^ 31 by omega), dk_nI hg, ix_nI (show g < 2 ^ 31 by omega), pc_nI hx1 hn_k, ix_nI (show x < 2 ^ 31 by omega), pc_nI hz1 hn_g, ix_nI (show z < 2 ^ 31 by omega)], ⟨_, ⟨_, _, _, rfl, hC⟩, by rw [ht]; exact hP⟩, hS.F ht⟩⟩) hS.2.2 dP_order_117)
  · rw [nI_eq (by omega) (by omega)] at h1
    refine lv_iconst (v := 1) hx hb dP_order_65 (by decide) ?_
    refine lv_goto (tgt := 70) hx hb dP_order_66 (by decide) ?_
    refine lv_istore hx hb dP_order_70 hl (by decide) rfl (fun ls hl => ?_)
    have hl : lv_has ls 10 [(8, .int _), (7, .int _), (6, .ref _), (5, .ref _), (0, .ref _), (1, .int _), (2, .int _), (3, .int _), (4, .int _)] := hl
    refine lv_iload hx hb dP_order_72 (lv_at hl 8 rfl) ?_
    refine lv_iload hx hb dP_order_74 (lv_at hl 1 rfl) ?_
    refine lv_iadd hx hb dP_order_76 ?_
    refine lv_aload hx hb dP_order_77 (lv_at hl 2 rfl) ?_
    refine g_get F hK hP (2 + 2 * pi g) (by omega) (en_T _ _ _ _ _ _ _ _ _ _ hp_g) rfl iT 1 (by decide) k1_34 rfl dP_order_79 ?_
    rw [h5_g, nI_add]
    refine lv_icmp_ne (tgt := 89) hx hb dP_order_82 (by decide) (fun h2 => ?_) (fun h2 => ?_)
    · rw [nI_eq (by omega) (by omega)] at h2
      refine lv_iconst (v := 0) hx hb dP_order_89 (by decide) ?_
      refine lv_istore hx hb dP_order_90 hl (by decide) rfl (fun ls hl => ?_)
      have hl : lv_has ls 10 [(9, .int _), (8, .int _), (7, .int _), (6, .ref _), (5, .ref _), (0, .ref _), (1, .int _), (2, .int _), (3, .int _), (4, .int _)] := hl
      refine lv_iload hx hb dP_order_92 (lv_at hl 1 rfl) ?_
      refine lv_if_eq (tgt := 104) hx hb dP_order_94 (by decide) (fun hc => absurd hc (by decide)) (fun _ => ?_)
      refine lv_iload hx hb dP_order_97 (lv_at hl 0 rfl) ?_
      refine lv_if_eq (tgt := 104) hx hb dP_order_99 (by decide) (fun _ => ?_) (fun hc => absurd rfl hc)
      refine lv_iload hx hb dP_order_104 (lv_at hl 1 rfl) ?_
      refine lv_if_eq (tgt := 111) hx hb dP_order_106 (by decide) (fun hc => absurd hc (by decide)) (fun _ => ?_)
      refine lv_iconst (v := (-1)) hx hb dP_order_109 (by decide) ?_
      have hv : r_order a k x g z = -1 := by rw [hro]; simp [h1, h2]
      refine W.widen (k := 1) (n := 6) (by decide) (by decide) ?_
      exact W.toX (W.iret hx hb hr (fun t ht hW => Or.inl ⟨hk1, ⟨by simp [hv, dk_nI hk, ix_nI (show k < 2 ^ 31 by omega), dk_nI hg, ix_nI (show g < 2 ^ 31 by omega), pc_nI hx1 hn_k, ix_nI (show x < 2 ^ 31 by omega), pc_nI hz1 hn_g, ix_nI (show z < 2 ^ 31 by omega)], ⟨_, ⟨_, _, _, rfl, hC⟩, by rw [ht]; exact hP⟩, hS.F ht⟩⟩) hS.2.2 dP_order_110)
    · rw [nI_eq (by omega) (by omega)] at h2
      refine lv_iconst (v := 1) hx hb dP_order_85 (by decide) ?_
      refine lv_goto (tgt := 90) hx hb dP_order_86 (by decide) ?_
      refine lv_istore hx hb dP_order_90 hl (by decide) rfl (fun ls hl => ?_)
      have hl : lv_has ls 10 [(9, .int _), (8, .int _), (7, .int _), (6, .ref _), (5, .ref _), (0, .ref _), (1, .int _), (2, .int _), (3, .int _), (4, .int _)] := hl
      refine lv_iload hx hb dP_order_92 (lv_at hl 1 rfl) ?_
      refine lv_if_eq (tgt := 104) hx hb dP_order_94 (by decide) (fun hc => absurd hc (by decide)) (fun _ => ?_)
      refine lv_iload hx hb dP_order_97 (lv_at hl 0 rfl) ?_
      refine lv_if_eq (tgt := 104) hx hb dP_order_99 (by decide) (fun hc => absurd hc (by decide)) (fun _ => ?_)
      refine lv_iconst (v := 0) hx hb dP_order_102 (by decide) ?_
      have hv : r_order a k x g z = 0 := by rw [hro]; simp [h1, h2]
      refine W.widen (k := 1) (n := 6) (by decide) (by decide) ?_
      exact W.toX (W.iret hx hb hr (fun t ht hW => Or.inl ⟨hk1, ⟨by simp [hv, dk_nI hk, ix_nI (show k < 2 ^ 31 by omega), dk_nI hg, ix_nI (show g < 2 ^ 31 by omega), pc_nI hx1 hn_k, ix_nI (show x < 2 ^ 31 by omega), pc_nI hz1 hn_g, ix_nI (show z < 2 ^ 31 by omega)], ⟨_, ⟨_, _, _, rfl, hC⟩, by rw [ht]; exact hP⟩, hS.F ht⟩⟩) hS.2.2 dP_order_103)
end M8
end
section
/-! The class's calls: same, name, pattern, count, find, lead, accept, run, accepted. -/
theorem fill_s {g : Nat → Nat} {p v k q : Nat} : (if q = p + k then v else fill g p v k q) = fill g p v (k + 1) q := by
  unfold fill
  by_cases h1 : q = p + k
  · rw [if_pos h1, if_pos (by omega)]
  · rw [if_neg h1]
    by_cases h2 : p ≤ q ∧ q < p + k
    · rw [if_pos h2, if_pos (by omega)]
    · rw [if_neg h2, if_neg (by omega)]
section M9
variable {l : Launch} {D : va_G} {cI cZ cT cJ : ClassId} {base : Nat} {ad : Nat → Nat} {pi : Nat → Nat} {dr : Nat} {S M : Nat → Nat → Int32} {o : Nat → Int64} {a : Ab}
set_option maxHeartbeats 4000000 in
set_option maxRecDepth 100000 in
theorem c_P_same (hst : l.stackTraces = false) (G : gGeo ad 25 base) (ha : a_ok a) (hC : RepC pi dr S a) (d i d2 j n : Int32) : MetX l yP_same (Cond.code yP_same bP_same 8 (some .boolean) :: tws) { frames := 8, cells := 1, slots := 6, locals := 123 } (gPc (tw D cI cZ cT cJ base) D cl ad 25 base (en ad cI cZ cT cJ pi dr S M o) [.ref (ad 0), .int d, .int i, .int d2, .int j, .int n]) (gQx D cl ad 25 base (en ad cI cZ cT cJ pi dr S M o) ["java/lang/IllegalArgumentException", "java/lang/IndexOutOfBoundsException"] (c_same a d i d2 j n) (some (.int (if ix n ≤ cpr a (ix d) (ix i) (ix d2) (ix j) then 1 else 0))) (fun e => ∃ (pi1 : Nat → Nat) (dr1 : Nat) (S1 : Nat → Nat → Int32), e = en ad cI cZ cT cJ pi1 dr1 S1 M o ∧ RepC pi1 dr1 S1 (a))) 1 6 (gA base) := by
  refine MetX.ofW (cc := bP_same) (maxL := 8) (ret := (some .boolean)) (by decide) rfl ?_
  intro p e s m args below meth c s₁ B hml hv
  obtain ⟨rfl, htw, hB, hP⟩ := hv
  have hx := B.exec
  have hb := B.bytes
  have hr := B.returns
  have hts0 := atoms_spec (ws := Cond.code yP_same bP_same 8 (some .boolean) :: tws) B.pre
  have hts : ∀ w ∈ tws, w.before _ s = true := fun w h => hts0 w (List.mem_cons_of_mem _ h)
  have hown : s.vm.findClass "PairedTexts" = some m.cls := findClass_of_methodNamed B.named
  have hlocks := B.notSynchronized
  have hno := B.noHandlers (hts0 _ List.mem_cons_self)
  have F : CallFix p m c bP_same 8 s _ tws "PairedTexts" := ⟨hx, hb, hml, hown, hts⟩
  have hK := htw.1
  have hS : va_S (gA base) s.heap s.heap [] := va_S.rf
  have hl := lv_entry ([.ref (ad 0), .int d, .int i, .int d2, .int j, .int n]) (n := 8) (Nat.le_of_ble_eq_true rfl)
  rw [lg_entry_eq]
  generalize (lg_sl ([.ref (ad 0), .int d, .int i, .int d2, .int j, .int n]) ++ List.replicate (8 - (lg_sl ([.ref (ad 0), .int d, .int i, .int d2, .int j, .int n])).length) Slot.unset).toArray = ls at hl ⊢
  have hl : lv_has ls 8 [(0, .ref (ad 0)), (1, .int d), (2, .int i), (3, .int d2), (4, .int j), (5, .int n)] := hl
  have hdr := hC.2.1
  have z0 : (0 : Int32).toInt = 0 := rfl
  refine lv_aload_n hx hb dP_same_0 rfl (lv_at hl 0 rfl) ?_
  refine lv_iload_n hx hb dP_same_1 rfl (lv_at hl 1 rfl) ?_
  rcases dk_or d with hd | ⟨k, hk, rfl⟩
  · have hk1 : (c_same a d i d2 j n) = 1 := by simp [c_same, hd.1]
    exact g_VTh (k := 1) F hlocks hno htw hB hS hP (0) (by decide) rfl rfl (c_P_textOf_th hst hd.2) k1_92 k1_94 k0_0 k1_1 k1_95 (by decide +kernel) rfl rfl ⟨Nat.le_of_ble_eq_true rfl, Nat.le_of_ble_eq_true rfl⟩ rfl hl.1 rfl (Nat.le_of_ble_eq_true rfl) dP_same_2 ⟨Nat.le_of_ble_eq_true rfl, Nat.le_of_ble_eq_true rfl⟩ (by rw [hk1]; decide) (by rw [hk1]; rfl)
  refine g_V (k := 1) F htw hB hS hP (0) (by decide) rfl rfl (c_P_textOf hk) k1_92 k1_94 k0_0 k1_1 k1_95 (by decide +kernel) rfl rfl ⟨Nat.le_of_ble_eq_true rfl, Nat.le_of_ble_eq_true rfl⟩ rfl hl.1 rfl (Nat.le_of_ble_eq_true rfl) dP_same_2 ⟨Nat.le_of_ble_eq_true rfl, Nat.le_of_ble_eq_true rfl⟩ (fun en1 H locs he hP hS => ?_)
  obtain rfl := he
  have hp_k := (hC.1 k hk).1
  have hn_k := ha.1 k hk
  have h5_k := hC.2.2.2.1 k hk
  refine lv_astore hx hb dP_same_5 hl (by decide) rfl (fun ls hl => ?_)
  have hl : lv_has ls 8 [(6, .ref _), (0, .ref _), (1, .int _), (2, .int _), (3, .int _), (4, .int _), (5, .int _)] := hl
  refine lv_aload_n hx hb dP_same_7 rfl (lv_at hl 1 rfl) ?_
  refine lv_iload_n hx hb dP_same_8 rfl (lv_at hl 4 rfl) ?_
  rcases dk_or d2 with hd | ⟨g, hg, rfl⟩
  · have hk1 : (c_same a (nI k) i d2 j n) = 1 := by simp [c_same, dk_nI hk, ix_nI (show k < 2 ^ 31 by omega), hd.1]
    exact g_VTh (k := 1) F hlocks hno htw hB hS hP (0) (by decide) rfl rfl (c_P_textOf_th hst hd.2) k1_92 k1_94 k0_0 k1_1 k1_95 (by decide +kernel) rfl rfl ⟨Nat.le_of_ble_eq_true rfl, Nat.le_of_ble_eq_true rfl⟩ rfl hl.1 rfl (Nat.le_of_ble_eq_true rfl) dP_same_9 ⟨Nat.le_of_ble_eq_true rfl, Nat.le_of_ble_eq_true rfl⟩ (by rw [hk1]; decide) (by rw [hk1]; rfl)
  refine g_V (k := 1) F htw hB hS hP (0) (by decide) rfl rfl (c_P_textOf hg) k1_92 k1_94 k0_0 k1_1 k1_95 (by decide +kernel) rfl rfl ⟨Nat.le_of_ble_eq_true rfl, Nat.le_of_ble_eq_true rfl⟩ rfl hl.1 rfl (Nat.le_of_ble_eq_true rfl) dP_same_9 ⟨Nat.le_of_ble_eq_true rfl, Nat.le_of_ble_eq_true rfl⟩ (fun en1 H locs he hP hS => ?_)
  obtain rfl := he
  have hp_g := (hC.1 g hg).1
  have hn_g := ha.1 g hg
  have h5_g := hC.2.2.2.1 g hg
  refine lv_astore hx hb dP_same_12 hl (by decide) rfl (fun ls hl => ?_)
  have hl : lv_has ls 8 [(7, .ref _), (6, .ref _), (0, .ref _), (1, .int _), (2, .int _), (3, .int _), (4, .int _), (5, .int _)] := hl
  refine lv_iload hx hb dP_same_14 (lv_at hl 7 rfl) ?_
  rcases nn_or n with hg0 | ⟨u, hu, rfl⟩
  · have hk1 : (c_same a (nI k) i (nI g) j n) = 1 := by simp [c_same, dk_nI hk, ix_nI (show k < 2 ^ 31 by omega), dk_nI hg, ix_nI (show g < 2 ^ 31 by omega), hg0.1]
    refine lv_if_lt (tgt := 23) hx hb dP_same_16 (by decide) (fun _ => ?_) (fun hc => absurd (by rw [Int32.lt_iff_toInt_lt]; omega) hc)
    refine lv_iconst (v := 0) hx hb dP_same_23 (by decide) ?_
    exact g_STh (k := 1) F hlocks hno htw hB hS hP (c_P_requireArgument_th hst) k1_168 k1_169 k1_1 k1_170 (by decide +kernel) rfl rfl ⟨Nat.le_of_ble_eq_true rfl, Nat.le_of_ble_eq_true rfl⟩ rfl hl.1 rfl (Nat.le_of_ble_eq_true rfl) dP_same_24 ⟨Nat.le_of_ble_eq_true rfl, Nat.le_of_ble_eq_true rfl⟩ (by rw [hk1]; decide) (by rw [hk1]; rfl)
  have zu := nI_toInt hu
  refine lv_if_lt (tgt := 23) hx hb dP_same_16 (by decide) (fun hc => absurd hc (by rw [Int32.lt_iff_toInt_lt]; omega)) (fun _ => ?_)
  refine lv_iconst (v := 1) hx hb dP_same_19 (by decide) ?_
  refine lv_goto (tgt := 24) hx hb dP_same_20 (by decide) ?_
  refine g_S (k := 1) F htw hB hS hP (c_P_requireArgument) k1_168 k1_169 k1_1 k1_170 (by decide +kernel) rfl rfl ⟨Nat.le_of_ble_eq_true rfl, Nat.le_of_ble_eq_true rfl⟩ rfl hl.1 rfl (Nat.le_of_ble_eq_true rfl) dP_same_24 ⟨Nat.le_of_ble_eq_true rfl, Nat.le_of_ble_eq_true rfl⟩ (fun en1 H locs he hP hS => ?_)
  obtain rfl := he
  refine lv_aload hx hb dP_same_27 (lv_at hl 1 rfl) ?_
  refine lv_iload_n hx hb dP_same_29 rfl (lv_at hl 4 rfl) ?_
  refine lv_iload_n hx hb dP_same_30 rfl (lv_at hl 4 rfl) ?_
  refine lv_i2l hx hb dP_same_31 rfl ?_
  refine lv_iload hx hb dP_same_32 (lv_at hl 7 rfl) ?_
  refine lv_i2l hx hb dP_same_34 rfl ?_
  refine lv_ladd hx hb dP_same_35 ?_
  refine g_V (k := 2) F htw hB hS hP (2 + 2 * pi k) (by omega) (en_T _ _ _ _ _ _ _ _ _ _ hp_k) rfl (c_T_hasRange hp_k hn_k h5_k i (i.toInt64 + (nI u).toInt64)) k2_0 k2_1 k2_2 k1_2 k2_3 (by decide +kernel) rfl rfl ⟨Nat.le_of_ble_eq_true rfl, Nat.le_of_ble_eq_true rfl⟩ rfl hl.1 rfl (Nat.le_of_ble_eq_true rfl) dP_same_36 ⟨Nat.le_of_ble_eq_true rfl, Nat.le_of_ble_eq_true rfl⟩ (fun en1 H locs he hP hS => ?_)
  obtain rfl := he
  rw [rgL_sm i hu]
  rcases sm_or i hu hn_k with hg0 | ⟨x, hx1, rfl⟩
  · have hk1 : (c_same a (nI k) i (nI g) j (nI u)) = 2 := by simp [c_same, dk_nI hk, ix_nI (show k < 2 ^ 31 by omega), dk_nI hg, ix_nI (show g < 2 ^ 31 by omega), nn_nI hu, ix_nI hu, hg0]
    rw [show (if smL i (nI u) (a_n a k) then (1 : Int32) else 0) = 0 from by rw [hg0]; rfl]
    refine lv_if_eq (tgt := 63) hx hb dP_same_39 (by decide) (fun _ => ?_) (fun hc => absurd rfl hc)
    refine lv_iconst (v := 0) hx hb dP_same_63 (by decide) ?_
    exact g_STh (k := 1) F hlocks hno htw hB hS hP (c_P_requireInside_th hst) k1_214 k1_215 k1_1 k1_216 (by decide +kernel) rfl rfl ⟨Nat.le_of_ble_eq_true rfl, Nat.le_of_ble_eq_true rfl⟩ rfl hl.1 rfl (Nat.le_of_ble_eq_true rfl) dP_same_64 ⟨Nat.le_of_ble_eq_true rfl, Nat.le_of_ble_eq_true rfl⟩ (by rw [hk1]; decide) (by rw [hk1]; rfl)
  rw [show (if smL (nI x) (nI u) (a_n a k) then (1 : Int32) else 0) = 1 from if_pos (sm_nI hx1 hn_k)]
  refine lv_if_eq (tgt := 63) hx hb dP_same_39 (by decide) (fun hc => absurd hc (by decide)) (fun _ => ?_)
  refine lv_aload hx hb dP_same_42 (lv_at hl 0 rfl) ?_
  refine lv_iload hx hb dP_same_44 (lv_at hl 6 rfl) ?_
  refine lv_iload hx hb dP_same_46 (lv_at hl 6 rfl) ?_
  refine lv_i2l hx hb dP_same_48 rfl ?_
  refine lv_iload hx hb dP_same_49 (lv_at hl 7 rfl) ?_
  refine lv_i2l hx hb dP_same_51 rfl ?_
  refine lv_ladd hx hb dP_same_52 ?_
  refine g_V (k := 2) F htw hB hS hP (2 + 2 * pi g) (by omega) (en_T _ _ _ _ _ _ _ _ _ _ hp_g) rfl (c_T_hasRange hp_g hn_g h5_g j (j.toInt64 + (nI u).toInt64)) k2_0 k2_1 k2_2 k1_2 k2_3 (by decide +kernel) rfl rfl ⟨Nat.le_of_ble_eq_true rfl, Nat.le_of_ble_eq_true rfl⟩ rfl hl.1 rfl (Nat.le_of_ble_eq_true rfl) dP_same_53 ⟨Nat.le_of_ble_eq_true rfl, Nat.le_of_ble_eq_true rfl⟩ (fun en1 H locs he hP hS => ?_)
  obtain rfl := he
  rw [rgL_sm j hu]
  rcases sm_or j hu hn_g with hg0 | ⟨z, hz1, rfl⟩
  · have hk1 : (c_same a (nI k) (nI x) (nI g) j (nI u)) = 2 := by simp [c_same, dk_nI hk, ix_nI (show k < 2 ^ 31 by omega), dk_nI hg, ix_nI (show g < 2 ^ 31 by omega), nn_nI hu, ix_nI hu, sm_nI hx1 hn_k, ix_nI (show x < 2 ^ 31 by omega), hg0]
    rw [show (if smL j (nI u) (a_n a g) then (1 : Int32) else 0) = 0 from by rw [hg0]; rfl]
    refine lv_if_eq (tgt := 63) hx hb dP_same_56 (by decide) (fun _ => ?_) (fun hc => absurd rfl hc)
    refine lv_iconst (v := 0) hx hb dP_same_63 (by decide) ?_
    exact g_STh (k := 1) F hlocks hno htw hB hS hP (c_P_requireInside_th hst) k1_214 k1_215 k1_1 k1_216 (by decide +kernel) rfl rfl ⟨Nat.le_of_ble_eq_true rfl, Nat.le_of_ble_eq_true rfl⟩ rfl hl.1 rfl (Nat.le_of_ble_eq_true rfl) dP_same_64 ⟨Nat.le_of_ble_eq_true rfl, Nat.le_of_ble_eq_true rfl⟩ (by rw [hk1]; decide) (by rw [hk1]; rfl)
  rw [show (if smL (nI z) (nI u) (a_n a g) then (1 : Int32) else 0) = 1 from if_pos (sm_nI hz1 hn_g)]
  refine lv_if_eq (tgt := 63) hx hb dP_same_56 (by decide) (fun hc => absurd hc (by decide)) (fun _ => ?_)
  refine lv_iconst (v := 1) hx hb dP_same_59 (by decide) ?_
  refine lv_goto (tgt := 64) hx hb dP_same_60 (by decide) ?_
  refine g_S (k := 1) F htw hB hS hP (c_P_requireInside) k1_214 k1_215 k1_1 k1_216 (by decide +kernel) rfl rfl ⟨Nat.le_of_ble_eq_true rfl, Nat.le_of_ble_eq_true rfl⟩ rfl hl.1 rfl (Nat.le_of_ble_eq_true rfl) dP_same_64 ⟨Nat.le_of_ble_eq_true rfl, Nat.le_of_ble_eq_true rfl⟩ (fun en1 H locs he hP hS => ?_)
  obtain rfl := he
  refine lv_aload hx hb dP_same_67 (lv_at hl 1 rfl) ?_
  refine lv_iload_n hx hb dP_same_69 rfl (lv_at hl 4 rfl) ?_
  refine lv_aload hx hb dP_same_70 (lv_at hl 0 rfl) ?_
  refine lv_iload hx hb dP_same_72 (lv_at hl 6 rfl) ?_
  refine g_S (k := 4) F htw hB hS hP (c_cmn hC ha hk hg (show x ≤ a_n a k by omega) (show z ≤ a_n a g by omega)) k2_65 k2_66 k1_1 k2_67 (by decide +kernel) rfl rfl ⟨Nat.le_of_ble_eq_true rfl, Nat.le_of_ble_eq_true rfl⟩ rfl hl.1 rfl (Nat.le_of_ble_eq_true rfl) dP_same_74 ⟨Nat.le_of_ble_eq_true rfl, Nat.le_of_ble_eq_true rfl⟩ (fun en1 H locs he hP hS => ?_)
  obtain rfl := he
  have hk1 : (c_same a (nI k) (nI x) (nI g) (nI z) (nI u)) = 0 := by simp [c_same, dk_nI hk, ix_nI (show k < 2 ^ 31 by omega), dk_nI hg, ix_nI (show g < 2 ^ 31 by omega), nn_nI hu, ix_nI hu, sm_nI hx1 hn_k, ix_nI (show x < 2 ^ 31 by omega), sm_nI hz1 hn_g, ix_nI (show z < 2 ^ 31 by omega)]
  have hcb : cpr a k x g z ≤ 1000 := by have := (cpx_le (fun c => decide (a_b a k (x + c) = a_b a g (z + c))) (min (a_n a k - x) (a_n a g - z)) 0).2; unfold cpr; omega
  refine lv_iload hx hb dP_same_77 (lv_at hl 7 rfl) ?_
  refine lv_icmp_lt (tgt := 86) hx hb dP_same_79 (by decide) (fun h1 => ?_) (fun h1 => ?_)
  · rw [nI_ltI (by omega) (by omega)] at h1
    refine lv_iconst (v := 0) hx hb dP_same_86 (by decide) ?_
    have hv : (if u ≤ cpr a k x g z then (1 : Int32) else 0) = 0 := if_neg (by omega)
    refine W.widen (k := 1) (n := 6) (by decide) (by decide) ?_
    exact W.toX (W.zret hx hb hr rfl (fun t ht hW => Or.inl ⟨hk1, ⟨by simp only [ix_nI (show k < 2 ^ 31 by omega), ix_nI (show g < 2 ^ 31 by omega), ix_nI hu, ix_nI (show x < 2 ^ 31 by omega), ix_nI (show z < 2 ^ 31 by omega), hv], ⟨_, ⟨_, _, _, rfl, hC⟩, by rw [ht]; exact hP⟩, hS.F ht⟩⟩) hS.2.2 dP_same_87)
  · rw [nI_ltI (by omega) (by omega)] at h1
    refine lv_iconst (v := 1) hx hb dP_same_82 (by decide) ?_
    refine lv_goto (tgt := 87) hx hb dP_same_83 (by decide) ?_
    have hv : (if u ≤ cpr a k x g z then (1 : Int32) else 0) = 1 := if_pos (by omega)
    refine W.widen (k := 1) (n := 6) (by decide) (by decide) ?_
    exact W.toX (W.zret hx hb hr rfl (fun t ht hW => Or.inl ⟨hk1, ⟨by simp only [ix_nI (show k < 2 ^ 31 by omega), ix_nI (show g < 2 ^ 31 by omega), ix_nI hu, ix_nI (show x < 2 ^ 31 by omega), ix_nI (show z < 2 ^ 31 by omega), hv], ⟨_, ⟨_, _, _, rfl, hC⟩, by rw [ht]; exact hP⟩, hS.F ht⟩⟩) hS.2.2 dP_same_87)
set_option maxHeartbeats 4000000 in
set_option maxRecDepth 100000 in
theorem c_P_name (hst : l.stackTraces = false) (G : gGeo ad 25 base) (ha : a_ok a) (hC : RepC pi dr S a) (d f t : Int32) : MetX l yP_name (Cond.code yP_name bP_name 8 (some .long) :: tws) { frames := 8, cells := 1, slots := 6, locals := 123 } (gPc (tw D cI cZ cT cJ base) D cl ad 25 base (en ad cI cZ cT cJ pi dr S M o) [.ref (ad 0), .int d, .int f, .int t]) (gQx D cl ad 25 base (en ad cI cZ cT cJ pi dr S M o) ["java/lang/IllegalArgumentException", "java/lang/IndexOutOfBoundsException"] (c_name a d f t) (some (.long (lN (nms (a_b a (ix d)) (ix f) (ix t - ix f))))) (fun e => ∃ (pi1 : Nat → Nat) (dr1 : Nat) (S1 : Nat → Nat → Int32), e = en ad cI cZ cT cJ pi1 dr1 S1 M o ∧ RepC pi1 dr1 S1 (a))) 1 6 (gA base) := by
  refine MetX.ofW (cc := bP_name) (maxL := 8) (ret := (some .long)) (by decide) rfl ?_
  intro p e s m args below meth c s₁ B hml hv
  obtain ⟨rfl, htw, hB, hP⟩ := hv
  have hx := B.exec
  have hb := B.bytes
  have hr := B.returns
  have hts0 := atoms_spec (ws := Cond.code yP_name bP_name 8 (some .long) :: tws) B.pre
  have hts : ∀ w ∈ tws, w.before _ s = true := fun w h => hts0 w (List.mem_cons_of_mem _ h)
  have hown : s.vm.findClass "PairedTexts" = some m.cls := findClass_of_methodNamed B.named
  have hlocks := B.notSynchronized
  have hno := B.noHandlers (hts0 _ List.mem_cons_self)
  have F : CallFix p m c bP_name 8 s _ tws "PairedTexts" := ⟨hx, hb, hml, hown, hts⟩
  have hK := htw.1
  have hS : va_S (gA base) s.heap s.heap [] := va_S.rf
  have hl := lv_entry ([.ref (ad 0), .int d, .int f, .int t]) (n := 8) (Nat.le_of_ble_eq_true rfl)
  rw [lg_entry_eq]
  generalize (lg_sl ([.ref (ad 0), .int d, .int f, .int t]) ++ List.replicate (8 - (lg_sl ([.ref (ad 0), .int d, .int f, .int t])).length) Slot.unset).toArray = ls at hl ⊢
  have hl : lv_has ls 8 [(0, .ref (ad 0)), (1, .int d), (2, .int f), (3, .int t)] := hl
  have hdr := hC.2.1
  refine lv_aload_n hx hb dP_name_0 rfl (lv_at hl 0 rfl) ?_
  refine lv_iload_n hx hb dP_name_1 rfl (lv_at hl 1 rfl) ?_
  rcases dk_or d with hd | ⟨k, hk, rfl⟩
  · have hk1 : (c_name a d f t) = 1 := by simp [c_name, hd.1]
    exact g_VTh (k := 1) F hlocks hno htw hB hS hP (0) (by decide) rfl rfl (c_P_textOf_th hst hd.2) k1_92 k1_94 k0_0 k1_1 k1_95 (by decide +kernel) rfl rfl ⟨Nat.le_of_ble_eq_true rfl, Nat.le_of_ble_eq_true rfl⟩ rfl hl.1 rfl (Nat.le_of_ble_eq_true rfl) dP_name_2 ⟨Nat.le_of_ble_eq_true rfl, Nat.le_of_ble_eq_true rfl⟩ (by rw [hk1]; decide) (by rw [hk1]; rfl)
  refine g_V (k := 1) F htw hB hS hP (0) (by decide) rfl rfl (c_P_textOf hk) k1_92 k1_94 k0_0 k1_1 k1_95 (by decide +kernel) rfl rfl ⟨Nat.le_of_ble_eq_true rfl, Nat.le_of_ble_eq_true rfl⟩ rfl hl.1 rfl (Nat.le_of_ble_eq_true rfl) dP_name_2 ⟨Nat.le_of_ble_eq_true rfl, Nat.le_of_ble_eq_true rfl⟩ (fun en1 H locs he hP hS => ?_)
  obtain rfl := he
  have hp_k := (hC.1 k hk).1
  have hn_k := ha.1 k hk
  have h5_k := hC.2.2.2.1 k hk
  refine lv_astore hx hb dP_name_5 hl (by decide) rfl (fun ls hl => ?_)
  have hl : lv_has ls 8 [(4, .ref _), (0, .ref _), (1, .int _), (2, .int _), (3, .int _)] := hl
  refine lv_aload hx hb dP_name_7 (lv_at hl 0 rfl) ?_
  refine lv_iload_n hx hb dP_name_9 rfl (lv_at hl 3 rfl) ?_
  refine lv_iload_n hx hb dP_name_10 rfl (lv_at hl 4 rfl) ?_
  refine lv_i2l hx hb dP_name_11 rfl ?_
  refine g_V (k := 2) F htw hB hS hP (2 + 2 * pi k) (by omega) (en_T _ _ _ _ _ _ _ _ _ _ hp_k) rfl (c_rng hC ha hk f t) k2_0 k2_1 k2_2 k1_2 k2_3 (by decide +kernel) rfl rfl ⟨Nat.le_of_ble_eq_true rfl, Nat.le_of_ble_eq_true rfl⟩ rfl hl.1 rfl (Nat.le_of_ble_eq_true rfl) dP_name_12 ⟨Nat.le_of_ble_eq_true rfl, Nat.le_of_ble_eq_true rfl⟩ (fun en1 H locs he hP hS => ?_)
  obtain rfl := he
  rcases rg_or f t hn_k with hr | ⟨f1, t1, hft, htn, rfl, rfl⟩
  · have hk1 : (c_name a (nI k) f t) = 2 := by simp [c_name, dk_nI hk, ix_nI (show k < 2 ^ 31 by omega), hr]
    rw [show (if rg f t (a_n a k) then (1 : Int32) else 0) = 0 from by rw [hr]; rfl]
    exact g_STh (k := 1) F hlocks hno htw hB hS hP (c_P_requireInside_th hst) k1_214 k1_215 k1_1 k1_216 (by decide +kernel) rfl rfl ⟨Nat.le_of_ble_eq_true rfl, Nat.le_of_ble_eq_true rfl⟩ rfl hl.1 rfl (Nat.le_of_ble_eq_true rfl) dP_name_15 ⟨Nat.le_of_ble_eq_true rfl, Nat.le_of_ble_eq_true rfl⟩ (by rw [hk1]; decide) (by rw [hk1]; rfl)
  rw [show (if rg (nI f1) (nI t1) (a_n a k) then (1 : Int32) else 0) = 1 from if_pos (rg_nI hft htn hn_k)]
  refine g_S (k := 1) F htw hB hS hP (c_P_requireInside) k1_214 k1_215 k1_1 k1_216 (by decide +kernel) rfl rfl ⟨Nat.le_of_ble_eq_true rfl, Nat.le_of_ble_eq_true rfl⟩ rfl hl.1 rfl (Nat.le_of_ble_eq_true rfl) dP_name_15 ⟨Nat.le_of_ble_eq_true rfl, Nat.le_of_ble_eq_true rfl⟩ (fun en1 H locs he hP hS => ?_)
  obtain rfl := he
  have hk1 : (c_name a (nI k) (nI f1) (nI t1)) = 0 := by simp [c_name, dk_nI hk, ix_nI (show k < 2 ^ 31 by omega), rg_nI hft htn hn_k, ix_nI (show f1 < 2 ^ 31 by omega), ix_nI (show t1 < 2 ^ 31 by omega)]
  refine lv_lconst (v := 0) hx hb dP_name_18 (by decide) ?_
  refine lv_lstore hx hb dP_name_19 hl (by decide) rfl (fun ls hl => ?_)
  have hl : lv_has ls 8 [(5, .long _), (4, .ref _), (0, .ref _), (1, .int _), (2, .int _), (3, .int _)] := hl
  refine lv_iload_n hx hb dP_name_21 rfl (lv_at hl 4 rfl) ?_
  refine lv_istore hx hb dP_name_22 hl (by decide) rfl (fun ls hl => ?_)
  have hl : lv_has ls 8 [(7, .int _), (5, .long _), (4, .ref _), (0, .ref _), (1, .int _), (2, .int _), (3, .int _)] := hl
  have hl : lv_has ls 8 [(7, .int (nI (f1 + 0))), (5, .long (lN (nms (a_b a k) f1 0))), (4, .ref (ad (2 + 2 * pi k))), (0, .ref (ad 0)), (1, .int (nI k)), (2, .int (nI f1)), (3, .int (nI t1))] := hl
  refine W.loop (α := Nat) (fun t a1 ls H locs => f1 + a1 + t = t1 ∧ lv_has ls 8 [(7, .int (nI (f1 + a1))), (5, .long (lN (nms (a_b a k) f1 a1))), (4, .ref (ad (2 + 2 * pi k))), (0, .ref (ad 0)), (1, .int (nI k)), (2, .int (nI f1)), (3, .int (nI t1))] ∧ va_P D cl (gw ad (en ad cI cZ cT cJ pi dr S M o) 25) H ∧ va_S (gA base) s.heap H locs) ?_ (t := (t1 - f1)) (a := 0) ⟨by show f1 + 0 + (t1 - f1) = t1; omega, hl, hP, hS⟩
  clear hl hP hS
  intro t a1 ls H locs hI ih
  obtain ⟨i0, hl, hP, hS⟩ := hI
  try dsimp only at i0 hl hP
  by_cases ht : t = 0
  · have hu : t1 - f1 = a1 := by omega
    refine lv_iload hx hb dP_name_24 (lv_at hl 0 rfl) ?_
    refine lv_iload_n hx hb dP_name_26 rfl (lv_at hl 6 rfl) ?_
    refine lv_icmp_ge (tgt := 51) hx hb dP_name_27 (by decide) (fun _ => ?_) (fun hc => absurd (by rw [nI_leI (by omega) (by omega)]; omega) hc)
    refine lv_lload hx hb dP_name_51 (lv_at hl 1 rfl) ?_
    refine W.widen (k := 1) (n := 6) (by decide) (by decide) ?_
    exact W.toX (W.lret hx hb hr (fun t ht hW => Or.inl ⟨hk1, ⟨by simp [hu, dk_nI hk, ix_nI (show k < 2 ^ 31 by omega), rg_nI hft htn hn_k, ix_nI (show f1 < 2 ^ 31 by omega), ix_nI (show t1 < 2 ^ 31 by omega)], ⟨_, ⟨_, _, _, rfl, hC⟩, by rw [ht]; exact hP⟩, hS.F ht⟩⟩) hS.2.2 dP_name_53)
  · refine lv_iload hx hb dP_name_24 (lv_at hl 0 rfl) ?_
    refine lv_iload_n hx hb dP_name_26 rfl (lv_at hl 6 rfl) ?_
    refine lv_icmp_ge (tgt := 51) hx hb dP_name_27 (by decide) (fun hc => absurd hc (by rw [nI_leI (by omega) (by omega)]; omega)) (fun _ => ?_)
    refine lv_lload hx hb dP_name_30 (lv_at hl 1 rfl) ?_
    refine lv_aload hx hb dP_name_32 (lv_at hl 2 rfl) ?_
    refine g_get F hK hP (2 + 2 * pi k) (by omega) (en_T _ _ _ _ _ _ _ _ _ _ hp_k) rfl iT 0 (by decide) k1_32 rfl dP_name_34 ?_
    refine lv_iload hx hb dP_name_37 (lv_at hl 0 rfl) ?_
    refine g_iald F hK hP (3 + 2 * pi k) (by omega) 0 (en_B _ _ _ _ _ _ _ _ _ _ hp_k) rfl (vp_in_nI (show f1 + a1 < 1000 by omega) (by omega)) dP_name_39 ?_
    rw [nI_clamp (show f1 + a1 < 2 ^ 31 by omega), hC.2.2.2.2.1 k (f1 + a1) hk (by omega)]
    refine g_S (k := 2) F htw hB hS hP (c_P_nameWithOneMore (nms_lt _ _ _) (ha.2.1 k (f1 + a1) hk (by omega))) k2_92 k2_93 k1_1 k2_94 (by decide +kernel) rfl rfl ⟨Nat.le_of_ble_eq_true rfl, Nat.le_of_ble_eq_true rfl⟩ rfl hl.1 rfl (Nat.le_of_ble_eq_true rfl) dP_name_40 ⟨Nat.le_of_ble_eq_true rfl, Nat.le_of_ble_eq_true rfl⟩ (fun en1 H locs he hP hS => ?_)
    obtain rfl := he
    refine lv_lstore hx hb dP_name_43 hl (by decide) rfl (fun ls hl => ?_)
    have hl : lv_has ls 8 [(5, .long _), (7, .int _), (4, .ref _), (0, .ref _), (1, .int _), (2, .int _), (3, .int _)] := hl
    refine lv_iinc (k := 1) hx hb dP_name_45 hl rfl rfl (by decide) rfl (fun ls hl => ?_)
    have hl : lv_has ls 8 [(7, .int _), (5, .long _), (4, .ref _), (0, .ref _), (1, .int _), (2, .int _), (3, .int _)] := hl
    refine lv_goto (tgt := 24) hx hb dP_name_48 (by decide) ?_
    have hl : lv_has ls 8 [(7, .int (nI (f1 + (a1 + 1)))), (5, .long (lN (nms (a_b a k) f1 (a1 + 1)))), (4, .ref (ad (2 + 2 * pi k))), (0, .ref (ad 0)), (1, .int (nI k)), (2, .int (nI f1)), (3, .int (nI t1))] := by rw [← Nat.add_assoc, ← nI_1]; exact hl
    exact ih (t - 1) (a1 + 1) _ _ _ (by omega) ⟨by show f1 + (a1 + 1) + (t - 1) = t1; omega, hl, hP, hS⟩
set_option maxHeartbeats 4000000 in
set_option maxRecDepth 100000 in
theorem c_P_pattern (hst : l.stackTraces = false) (G : gGeo ad 25 base) (ha : a_ok a) (hC : RepC pi dr S a) (lo hi : Int64) (n : Int32) : MetX l yP_pattern (Cond.code yP_pattern bP_pattern 6 none :: tws) { frames := 7, cells := 1, slots := 6, locals := 102 } (gPc (tw D cI cZ cT cJ base) D cl ad 25 base (en ad cI cZ cT cJ pi dr S M o) [.ref (ad 0), .long lo, .long hi, .int n]) (gQx D cl ad 25 base (en ad cI cZ cT cJ pi dr S M o) ["java/lang/IllegalArgumentException"] (c_pattern n) none (fun e => ∃ (pi1 : Nat → Nat) (dr1 : Nat) (S1 : Nat → Nat → Int32), e = en ad cI cZ cT cJ pi1 dr1 S1 M o ∧ RepC pi1 dr1 S1 (x_pattern a lo hi n))) 1 6 (gA base) := by
  refine MetX.ofW (cc := bP_pattern) (maxL := 6) (ret := none) (by decide) rfl ?_
  intro p e s m args below meth c s₁ B hml hv
  obtain ⟨rfl, htw, hB, hP⟩ := hv
  have hx := B.exec
  have hb := B.bytes
  have hr := B.returns
  have hts0 := atoms_spec (ws := Cond.code yP_pattern bP_pattern 6 none :: tws) B.pre
  have hts : ∀ w ∈ tws, w.before _ s = true := fun w h => hts0 w (List.mem_cons_of_mem _ h)
  have hown : s.vm.findClass "PairedTexts" = some m.cls := findClass_of_methodNamed B.named
  have hlocks := B.notSynchronized
  have hno := B.noHandlers (hts0 _ List.mem_cons_self)
  have F : CallFix p m c bP_pattern 6 s _ tws "PairedTexts" := ⟨hx, hb, hml, hown, hts⟩
  have hK := htw.1
  have hS : va_S (gA base) s.heap s.heap [] := va_S.rf
  have hl := lv_entry ([.ref (ad 0), .long lo, .long hi, .int n]) (n := 6) (Nat.le_of_ble_eq_true rfl)
  rw [lg_entry_eq]
  generalize (lg_sl ([.ref (ad 0), .long lo, .long hi, .int n]) ++ List.replicate (6 - (lg_sl ([.ref (ad 0), .long lo, .long hi, .int n])).length) Slot.unset).toArray = ls at hl ⊢
  have hl : lv_has ls 6 [(0, .ref (ad 0)), (1, .long lo), (3, .long hi), (5, .int n)] := hl
  have hdr := hC.2.1
  have z1 : (1 : Int32).toInt = 1 := rfl
  have z8 : (16 : Int32).toInt = 16 := rfl
  refine lv_iload hx hb dP_pattern_0 (lv_at hl 3 rfl) ?_
  refine lv_iconst (v := 1) hx hb dP_pattern_2 (by decide) ?_
  rcases bt_or n 16 with hg0 | ⟨j, hj1, hj8, rfl⟩
  · have hk1 : (c_pattern n) = 1 := by simp [c_pattern, show btw n 1 16 = false from hg0.1]
    refine lv_icmp_lt (tgt := 17) hx hb dP_pattern_3 (by decide) (fun hc => ?_) (fun hc => ?_)
    · refine lv_iconst (v := 0) hx hb dP_pattern_17 (by decide) ?_
      exact g_STh (k := 1) F hlocks hno htw hB hS hP (c_P_requireArgument_th hst) k1_168 k1_169 k1_1 k1_170 (by decide +kernel) rfl rfl ⟨Nat.le_of_ble_eq_true rfl, Nat.le_of_ble_eq_true rfl⟩ rfl hl.1 rfl (Nat.le_of_ble_eq_true rfl) dP_pattern_18 ⟨Nat.le_of_ble_eq_true rfl, Nat.le_of_ble_eq_true rfl⟩ (by rw [hk1]; decide) (by rw [hk1]; rfl)
    · rw [Int32.lt_iff_toInt_lt] at hc
      refine lv_iload hx hb dP_pattern_6 (lv_at hl 3 rfl) ?_
      refine lv_bipush (v := 16) hx hb dP_pattern_8 (by decide) ?_
      refine lv_icmp_gt (tgt := 17) hx hb dP_pattern_10 (by decide) (fun _ => ?_) (fun hc => absurd (by rw [Int32.lt_iff_toInt_lt]; omega) hc)
      refine lv_iconst (v := 0) hx hb dP_pattern_17 (by decide) ?_
      exact g_STh (k := 1) F hlocks hno htw hB hS hP (c_P_requireArgument_th hst) k1_168 k1_169 k1_1 k1_170 (by decide +kernel) rfl rfl ⟨Nat.le_of_ble_eq_true rfl, Nat.le_of_ble_eq_true rfl⟩ rfl hl.1 rfl (Nat.le_of_ble_eq_true rfl) dP_pattern_18 ⟨Nat.le_of_ble_eq_true rfl, Nat.le_of_ble_eq_true rfl⟩ (by rw [hk1]; decide) (by rw [hk1]; rfl)
  have zj := nI_toInt (show j < 2 ^ 31 by omega)
  refine lv_icmp_lt (tgt := 17) hx hb dP_pattern_3 (by decide) (fun hc => absurd hc (by rw [Int32.lt_iff_toInt_lt]; omega)) (fun _ => ?_)
  refine lv_iload hx hb dP_pattern_6 (lv_at hl 3 rfl) ?_
  refine lv_bipush (v := 16) hx hb dP_pattern_8 (by decide) ?_
  refine lv_icmp_gt (tgt := 17) hx hb dP_pattern_10 (by decide) (fun hc => absurd hc (by rw [Int32.lt_iff_toInt_lt]; omega)) (fun _ => ?_)
  refine lv_iconst (v := 1) hx hb dP_pattern_13 (by decide) ?_
  refine lv_goto (tgt := 18) hx hb dP_pattern_14 (by decide) ?_
  refine g_S (k := 1) F htw hB hS hP (c_P_requireArgument) k1_168 k1_169 k1_1 k1_170 (by decide +kernel) rfl rfl ⟨Nat.le_of_ble_eq_true rfl, Nat.le_of_ble_eq_true rfl⟩ rfl hl.1 rfl (Nat.le_of_ble_eq_true rfl) dP_pattern_18 ⟨Nat.le_of_ble_eq_true rfl, Nat.le_of_ble_eq_true rfl⟩ (fun en1 H locs he hP hS => ?_)
  obtain rfl := he
  refine lv_aload_n hx hb dP_pattern_21 rfl (lv_at hl 0 rfl) ?_
  refine g_get F hK hP (0) (by decide) rfl rfl iP 1 (by decide) k1_71 rfl dP_pattern_22 ?_
  refine lv_lload_n hx hb dP_pattern_25 rfl (lv_at hl 1 rfl) ?_
  refine lv_lload_n hx hb dP_pattern_26 rfl (lv_at hl 2 rfl) ?_
  refine lv_iload hx hb dP_pattern_27 (lv_at hl 3 rfl) ?_
  refine g_V (k := 3) F htw hB hS hP (12) (by decide) rfl rfl (c_Q_become G lo hi hj8) k2_106 k2_107 k2_108 k1_3 k2_109 (by decide +kernel) rfl rfl ⟨Nat.le_of_ble_eq_true rfl, Nat.le_of_ble_eq_true rfl⟩ rfl hl.1 rfl (Nat.le_of_ble_eq_true rfl) dP_pattern_29 ⟨Nat.le_of_ble_eq_true rfl, Nat.le_of_ble_eq_true rfl⟩ (fun en1 H locs he hP hS => ?_)
  obtain rfl := he
  have hC := hC.pat (g := pbyt lo hi) (n := j)
  have hk1 : (c_pattern (nI j)) = 0 := by simp [c_pattern, show btw (nI j) 1 16 = true from bt_nI (b := 16) hj1 hj8 (by decide), ix_nI (show j < 2 ^ 31 by omega)]
  refine W.widen (k := 1) (n := 6) (by decide) (by decide) ?_
  exact W.toX (W.vret hx hb hr (fun t ht hW => Or.inl ⟨hk1, ⟨rfl, ⟨_, ⟨_, _, _, rfl, by simpa [x_pattern, show btw (nI j) 1 16 = true from bt_nI (b := 16) hj1 hj8 (by decide), ix_nI (show j < 2 ^ 31 by omega)] using hC⟩, by rw [ht]; exact hP⟩, hS.F ht⟩⟩) hS.2.2 dP_pattern_32)
set_option maxHeartbeats 4000000 in
set_option maxRecDepth 100000 in
theorem c_P_count (hst : l.stackTraces = false) (G : gGeo ad 25 base) (ha : a_ok a) (hC : RepC pi dr S a) (d f t : Int32) : MetX l yP_count (Cond.code yP_count bP_count 7 (some .int) :: tws) { frames := 8, cells := 1, slots := 6, locals := 123 } (gPc (tw D cI cZ cT cJ base) D cl ad 25 base (en ad cI cZ cT cJ pi dr S M o) [.ref (ad 0), .int d, .int f, .int t]) (gQx D cl ad 25 base (en ad cI cZ cT cJ pi dr S M o) ["java/lang/IllegalArgumentException", "java/lang/IndexOutOfBoundsException", "java/lang/IllegalStateException"] (c_count a d f t) (some (.int (nI (cnt a (ix d) (ix f) (ix t) (ix t - ix f))))) (fun e => ∃ (pi1 : Nat → Nat) (dr1 : Nat) (S1 : Nat → Nat → Int32), e = en ad cI cZ cT cJ pi1 dr1 S1 M o ∧ RepC pi1 dr1 S1 (a))) 1 6 (gA base) := by
  refine MetX.ofW (cc := bP_count) (maxL := 7) (ret := (some .int)) (by decide) rfl ?_
  intro p e s m args below meth c s₁ B hml hv
  obtain ⟨rfl, htw, hB, hP⟩ := hv
  have hx := B.exec
  have hb := B.bytes
  have hr := B.returns
  have hts0 := atoms_spec (ws := Cond.code yP_count bP_count 7 (some .int) :: tws) B.pre
  have hts : ∀ w ∈ tws, w.before _ s = true := fun w h => hts0 w (List.mem_cons_of_mem _ h)
  have hown : s.vm.findClass "PairedTexts" = some m.cls := findClass_of_methodNamed B.named
  have hlocks := B.notSynchronized
  have hno := B.noHandlers (hts0 _ List.mem_cons_self)
  have F : CallFix p m c bP_count 7 s _ tws "PairedTexts" := ⟨hx, hb, hml, hown, hts⟩
  have hK := htw.1
  have hS : va_S (gA base) s.heap s.heap [] := va_S.rf
  have hl := lv_entry ([.ref (ad 0), .int d, .int f, .int t]) (n := 7) (Nat.le_of_ble_eq_true rfl)
  rw [lg_entry_eq]
  generalize (lg_sl ([.ref (ad 0), .int d, .int f, .int t]) ++ List.replicate (7 - (lg_sl ([.ref (ad 0), .int d, .int f, .int t])).length) Slot.unset).toArray = ls at hl ⊢
  have hl : lv_has ls 7 [(0, .ref (ad 0)), (1, .int d), (2, .int f), (3, .int t)] := hl
  have hdr := hC.2.1
  refine lv_aload_n hx hb dP_count_0 rfl (lv_at hl 0 rfl) ?_
  refine lv_iload_n hx hb dP_count_1 rfl (lv_at hl 1 rfl) ?_
  rcases dk_or d with hd | ⟨k, hk, rfl⟩
  · have hk1 : (c_count a d f t) = 1 := by simp [c_count, hd.1]
    exact g_VTh (k := 1) F hlocks hno htw hB hS hP (0) (by decide) rfl rfl (c_P_textOf_th hst hd.2) k1_92 k1_94 k0_0 k1_1 k1_95 (by decide +kernel) rfl rfl ⟨Nat.le_of_ble_eq_true rfl, Nat.le_of_ble_eq_true rfl⟩ rfl hl.1 rfl (Nat.le_of_ble_eq_true rfl) dP_count_2 ⟨Nat.le_of_ble_eq_true rfl, Nat.le_of_ble_eq_true rfl⟩ (by rw [hk1]; decide) (by rw [hk1]; rfl)
  refine g_V (k := 1) F htw hB hS hP (0) (by decide) rfl rfl (c_P_textOf hk) k1_92 k1_94 k0_0 k1_1 k1_95 (by decide +kernel) rfl rfl ⟨Nat.le_of_ble_eq_true rfl, Nat.le_of_ble_eq_true rfl⟩ rfl hl.1 rfl (Nat.le_of_ble_eq_true rfl) dP_count_2 ⟨Nat.le_of_ble_eq_true rfl, Nat.le_of_ble_eq_true rfl⟩ (fun en1 H locs he hP hS => ?_)
  obtain rfl := he
  have hp_k := (hC.1 k hk).1
  have hn_k := ha.1 k hk
  have h5_k := hC.2.2.2.1 k hk
  refine lv_astore hx hb dP_count_5 hl (by decide) rfl (fun ls hl => ?_)
  have hl : lv_has ls 7 [(4, .ref _), (0, .ref _), (1, .int _), (2, .int _), (3, .int _)] := hl
  refine lv_aload hx hb dP_count_7 (lv_at hl 0 rfl) ?_
  refine lv_iload_n hx hb dP_count_9 rfl (lv_at hl 3 rfl) ?_
  refine lv_iload_n hx hb dP_count_10 rfl (lv_at hl 4 rfl) ?_
  refine lv_i2l hx hb dP_count_11 rfl ?_
  refine g_V (k := 2) F htw hB hS hP (2 + 2 * pi k) (by omega) (en_T _ _ _ _ _ _ _ _ _ _ hp_k) rfl (c_rng hC ha hk f t) k2_0 k2_1 k2_2 k1_2 k2_3 (by decide +kernel) rfl rfl ⟨Nat.le_of_ble_eq_true rfl, Nat.le_of_ble_eq_true rfl⟩ rfl hl.1 rfl (Nat.le_of_ble_eq_true rfl) dP_count_12 ⟨Nat.le_of_ble_eq_true rfl, Nat.le_of_ble_eq_true rfl⟩ (fun en1 H locs he hP hS => ?_)
  obtain rfl := he
  rcases rg_or f t hn_k with hr | ⟨f1, t1, hft, htn, rfl, rfl⟩
  · have hk1 : (c_count a (nI k) f t) = 2 := by simp [c_count, dk_nI hk, ix_nI (show k < 2 ^ 31 by omega), hr]
    rw [show (if rg f t (a_n a k) then (1 : Int32) else 0) = 0 from by rw [hr]; rfl]
    exact g_STh (k := 1) F hlocks hno htw hB hS hP (c_P_requireInside_th hst) k1_214 k1_215 k1_1 k1_216 (by decide +kernel) rfl rfl ⟨Nat.le_of_ble_eq_true rfl, Nat.le_of_ble_eq_true rfl⟩ rfl hl.1 rfl (Nat.le_of_ble_eq_true rfl) dP_count_15 ⟨Nat.le_of_ble_eq_true rfl, Nat.le_of_ble_eq_true rfl⟩ (by rw [hk1]; decide) (by rw [hk1]; rfl)
  rw [show (if rg (nI f1) (nI t1) (a_n a k) then (1 : Int32) else 0) = 1 from if_pos (rg_nI hft htn hn_k)]
  refine g_S (k := 1) F htw hB hS hP (c_P_requireInside) k1_214 k1_215 k1_1 k1_216 (by decide +kernel) rfl rfl ⟨Nat.le_of_ble_eq_true rfl, Nat.le_of_ble_eq_true rfl⟩ rfl hl.1 rfl (Nat.le_of_ble_eq_true rfl) dP_count_15 ⟨Nat.le_of_ble_eq_true rfl, Nat.le_of_ble_eq_true rfl⟩ (fun en1 H locs he hP hS => ?_)
  obtain rfl := he
  refine lv_aload_n hx hb dP_count_18 rfl (lv_at hl 1 rfl) ?_
  have hpn := ha.2.2.1
  by_cases hp0 : a_p a = 0
  · have hk1 : (c_count a (nI k) (nI f1) (nI t1)) = 3 := by simp [c_count, dk_nI hk, ix_nI (show k < 2 ^ 31 by omega), rg_nI hft htn hn_k, ix_nI (show f1 < 2 ^ 31 by omega), ix_nI (show t1 < 2 ^ 31 by omega), hp0]
    exact g_VTh (k := 0) F hlocks hno htw hB hS hP (0) (by decide) rfl rfl (c_P_requirePattern_th hst (by rw [hC.2.2.2.2.2.1, hp0]; rfl)) k2_119 k2_121 k0_3 k1_1 k2_122 (by decide +kernel) rfl rfl ⟨Nat.le_of_ble_eq_true rfl, Nat.le_of_ble_eq_true rfl⟩ rfl hl.1 rfl (Nat.le_of_ble_eq_true rfl) dP_count_19 ⟨Nat.le_of_ble_eq_true rfl, Nat.le_of_ble_eq_true rfl⟩ (by rw [hk1]; decide) (by rw [hk1]; rfl)
  · have hk1 : (c_count a (nI k) (nI f1) (nI t1)) = 0 := by simp [c_count, dk_nI hk, ix_nI (show k < 2 ^ 31 by omega), rg_nI hft htn hn_k, ix_nI (show f1 < 2 ^ 31 by omega), ix_nI (show t1 < 2 ^ 31 by omega), hp0]
    refine g_V (k := 0) F htw hB hS hP (0) (by decide) rfl rfl (c_P_requirePattern (by rw [hC.2.2.2.2.2.1]; exact nI_ne0 (by omega) (by omega))) k2_119 k2_121 k0_3 k1_1 k2_122 (by decide +kernel) rfl rfl ⟨Nat.le_of_ble_eq_true rfl, Nat.le_of_ble_eq_true rfl⟩ rfl hl.1 rfl (Nat.le_of_ble_eq_true rfl) dP_count_19 ⟨Nat.le_of_ble_eq_true rfl, Nat.le_of_ble_eq_true rfl⟩ (fun en1 H locs he hP hS => ?_)
    obtain rfl := he
    refine lv_iconst (v := 0) hx hb dP_count_22 (by decide) ?_
    refine lv_istore hx hb dP_count_23 hl (by decide) rfl (fun ls hl => ?_)
    have hl : lv_has ls 7 [(5, .int _), (4, .ref _), (0, .ref _), (1, .int _), (2, .int _), (3, .int _)] := hl
    refine lv_iload_n hx hb dP_count_25 rfl (lv_at hl 4 rfl) ?_
    refine lv_istore hx hb dP_count_26 hl (by decide) rfl (fun ls hl => ?_)
    have hl : lv_has ls 7 [(6, .int _), (5, .int _), (4, .ref _), (0, .ref _), (1, .int _), (2, .int _), (3, .int _)] := hl
    have hl : lv_has ls 7 [(6, .int (nI (f1 + 0))), (5, .int (nI (cnt a k f1 t1 0))), (4, .ref (ad (2 + 2 * pi k))), (0, .ref (ad 0)), (1, .int (nI k)), (2, .int (nI f1)), (3, .int (nI t1))] := hl
    refine W.loop (α := Nat) (fun t a1 ls H locs => f1 + a1 + t = t1 ∧ lv_has ls 7 [(6, .int (nI (f1 + a1))), (5, .int (nI (cnt a k f1 t1 a1))), (4, .ref (ad (2 + 2 * pi k))), (0, .ref (ad 0)), (1, .int (nI k)), (2, .int (nI f1)), (3, .int (nI t1))] ∧ va_P D cl (gw ad (en ad cI cZ cT cJ pi dr S M o) 25) H ∧ va_S (gA base) s.heap H locs) ?_ (t := (t1 - f1)) (a := 0) ⟨by show f1 + 0 + (t1 - f1) = t1; omega, hl, hP, hS⟩
    clear hl hP hS
    intro t a1 ls H locs hI ih
    obtain ⟨i0, hl, hP, hS⟩ := hI
    try dsimp only at i0 hl hP
    by_cases ht : t = 0
    · have hu : t1 - f1 = a1 := by omega
      refine lv_iload hx hb dP_count_28 (lv_at hl 0 rfl) ?_
      refine lv_iload_n hx hb dP_count_30 rfl (lv_at hl 6 rfl) ?_
      refine lv_icmp_ge (tgt := 58) hx hb dP_count_31 (by decide) (fun _ => ?_) (fun hc => absurd (by rw [nI_leI (by omega) (by omega)]; omega) hc)
      refine lv_iload hx hb dP_count_58 (lv_at hl 1 rfl) ?_
      refine W.widen (k := 1) (n := 6) (by decide) (by decide) ?_
      exact W.toX (W.iret hx hb hr (fun t ht hW => Or.inl ⟨hk1, ⟨by simp [hu, dk_nI hk, ix_nI (show k < 2 ^ 31 by omega), rg_nI hft htn hn_k, ix_nI (show f1 < 2 ^ 31 by omega), ix_nI (show t1 < 2 ^ 31 by omega), hp0], ⟨_, ⟨_, _, _, rfl, hC⟩, by rw [ht]; exact hP⟩, hS.F ht⟩⟩) hS.2.2 dP_count_60)
    · refine lv_iload hx hb dP_count_28 (lv_at hl 0 rfl) ?_
      refine lv_iload_n hx hb dP_count_30 rfl (lv_at hl 6 rfl) ?_
      refine lv_icmp_ge (tgt := 58) hx hb dP_count_31 (by decide) (fun hc => absurd hc (by rw [nI_leI (by omega) (by omega)]; omega)) (fun _ => ?_)
      refine lv_aload_n hx hb dP_count_34 rfl (lv_at hl 3 rfl) ?_
      refine g_get F hK hP (0) (by decide) rfl rfl iP 1 (by decide) k1_71 rfl dP_count_35 ?_
      refine lv_aload hx hb dP_count_38 (lv_at hl 2 rfl) ?_
      refine lv_iload hx hb dP_count_40 (lv_at hl 0 rfl) ?_
      refine lv_iload_n hx hb dP_count_42 rfl (lv_at hl 6 rfl) ?_
      refine g_V (k := 3) F htw hB hS hP (12) (by decide) rfl rfl (c_std hC ha hk (show f1 + a1 ≤ t1 by omega) htn) k2_139 k2_140 k2_141 k1_3 k2_142 (by decide +kernel) rfl rfl ⟨Nat.le_of_ble_eq_true rfl, Nat.le_of_ble_eq_true rfl⟩ rfl hl.1 rfl (Nat.le_of_ble_eq_true rfl) dP_count_43 ⟨Nat.le_of_ble_eq_true rfl, Nat.le_of_ble_eq_true rfl⟩ (fun en1 H locs he hP hS => ?_)
      obtain rfl := he
      by_cases hs : stB a k (f1 + a1) t1 = true
      · rw [if_pos hs]
        refine lv_if_eq (tgt := 52) hx hb dP_count_46 (by decide) (fun hc => absurd hc (by decide)) (fun _ => ?_)
        refine lv_iinc (k := 1) hx hb dP_count_49 hl rfl rfl (by decide) rfl (fun ls hl => ?_)
        have hl : lv_has ls 7 [(5, .int _), (6, .int _), (4, .ref _), (0, .ref _), (1, .int _), (2, .int _), (3, .int _)] := hl
        refine lv_iinc (k := 1) hx hb dP_count_52 hl rfl rfl (by decide) rfl (fun ls hl => ?_)
        have hl : lv_has ls 7 [(6, .int _), (5, .int _), (4, .ref _), (0, .ref _), (1, .int _), (2, .int _), (3, .int _)] := hl
        refine lv_goto (tgt := 28) hx hb dP_count_55 (by decide) ?_
        have hl : lv_has ls 7 [(6, .int (nI (f1 + (a1 + 1)))), (5, .int (nI (cnt a k f1 t1 (a1 + 1)))), (4, .ref (ad (2 + 2 * pi k))), (0, .ref (ad 0)), (1, .int (nI k)), (2, .int (nI f1)), (3, .int (nI t1))] := by unfold cnt; rw [if_pos hs, ← Nat.add_assoc, ← nI_1, ← nI_1]; exact hl
        exact ih (t - 1) (a1 + 1) _ _ _ (by omega) ⟨by show f1 + (a1 + 1) + (t - 1) = t1; omega, hl, hP, hS⟩
      · rw [if_neg hs]
        refine lv_if_eq (tgt := 52) hx hb dP_count_46 (by decide) (fun _ => ?_) (fun hc => absurd rfl hc)
        refine lv_iinc (k := 0) hx hb dP_count_52 hl rfl rfl (by decide) rfl (fun ls hl => ?_)
        have hl : lv_has ls 7 [(6, .int _), (5, .int _), (4, .ref _), (0, .ref _), (1, .int _), (2, .int _), (3, .int _)] := hl
        refine lv_goto (tgt := 28) hx hb dP_count_55 (by decide) ?_
        have hl : lv_has ls 7 [(6, .int (nI (f1 + (a1 + 1)))), (5, .int (nI (cnt a k f1 t1 (a1 + 1)))), (4, .ref (ad (2 + 2 * pi k))), (0, .ref (ad 0)), (1, .int (nI k)), (2, .int (nI f1)), (3, .int (nI t1))] := by unfold cnt; rw [if_neg hs, ← Nat.add_assoc, ← nI_1]; exact hl
        exact ih (t - 1) (a1 + 1) _ _ _ (by omega) ⟨by show f1 + (a1 + 1) + (t - 1) = t1; omega, hl, hP, hS⟩
set_option maxHeartbeats 4000000 in
set_option maxRecDepth 100000 in
theorem c_P_find (hst : l.stackTraces = false) (G : gGeo ad 25 base) (ha : a_ok a) (hC : RepC pi dr S a) (d i n : Int32) : MetX l yP_find (Cond.code yP_find bP_find 7 (some .int) :: tws) { frames := 8, cells := 1, slots := 6, locals := 123 } (gPc (tw D cI cZ cT cJ base) D cl ad 25 base (en ad cI cZ cT cJ pi dr S M o) [.ref (ad 0), .int d, .int i, .int n]) (gQx D cl ad 25 base (en ad cI cZ cT cJ pi dr S M o) ["java/lang/IllegalArgumentException", "java/lang/IndexOutOfBoundsException", "java/lang/IllegalStateException"] (c_find a d i n) (some (.int (fnd a (ix d) (a_n a (ix d)) (a_n a (ix d) - ix i) (ix i) (ix n)))) (fun e => ∃ (pi1 : Nat → Nat) (dr1 : Nat) (S1 : Nat → Nat → Int32), e = en ad cI cZ cT cJ pi1 dr1 S1 M o ∧ RepC pi1 dr1 S1 (a))) 1 6 (gA base) := by
  refine MetX.ofW (cc := bP_find) (maxL := 7) (ret := (some .int)) (by decide) rfl ?_
  intro p e s m args below meth c s₁ B hml hv
  obtain ⟨rfl, htw, hB, hP⟩ := hv
  have hx := B.exec
  have hb := B.bytes
  have hr := B.returns
  have hts0 := atoms_spec (ws := Cond.code yP_find bP_find 7 (some .int) :: tws) B.pre
  have hts : ∀ w ∈ tws, w.before _ s = true := fun w h => hts0 w (List.mem_cons_of_mem _ h)
  have hown : s.vm.findClass "PairedTexts" = some m.cls := findClass_of_methodNamed B.named
  have hlocks := B.notSynchronized
  have hno := B.noHandlers (hts0 _ List.mem_cons_self)
  have F : CallFix p m c bP_find 7 s _ tws "PairedTexts" := ⟨hx, hb, hml, hown, hts⟩
  have hK := htw.1
  have hS : va_S (gA base) s.heap s.heap [] := va_S.rf
  have hl := lv_entry ([.ref (ad 0), .int d, .int i, .int n]) (n := 7) (Nat.le_of_ble_eq_true rfl)
  rw [lg_entry_eq]
  generalize (lg_sl ([.ref (ad 0), .int d, .int i, .int n]) ++ List.replicate (7 - (lg_sl ([.ref (ad 0), .int d, .int i, .int n])).length) Slot.unset).toArray = ls at hl ⊢
  have hl : lv_has ls 7 [(0, .ref (ad 0)), (1, .int d), (2, .int i), (3, .int n)] := hl
  have hdr := hC.2.1
  have z0 : (0 : Int32).toInt = 0 := rfl
  refine lv_aload_n hx hb dP_find_0 rfl (lv_at hl 0 rfl) ?_
  refine lv_iload_n hx hb dP_find_1 rfl (lv_at hl 1 rfl) ?_
  rcases dk_or d with hd | ⟨k, hk, rfl⟩
  · have hk1 : (c_find a d i n) = 1 := by simp [c_find, hd.1]
    exact g_VTh (k := 1) F hlocks hno htw hB hS hP (0) (by decide) rfl rfl (c_P_textOf_th hst hd.2) k1_92 k1_94 k0_0 k1_1 k1_95 (by decide +kernel) rfl rfl ⟨Nat.le_of_ble_eq_true rfl, Nat.le_of_ble_eq_true rfl⟩ rfl hl.1 rfl (Nat.le_of_ble_eq_true rfl) dP_find_2 ⟨Nat.le_of_ble_eq_true rfl, Nat.le_of_ble_eq_true rfl⟩ (by rw [hk1]; decide) (by rw [hk1]; rfl)
  refine g_V (k := 1) F htw hB hS hP (0) (by decide) rfl rfl (c_P_textOf hk) k1_92 k1_94 k0_0 k1_1 k1_95 (by decide +kernel) rfl rfl ⟨Nat.le_of_ble_eq_true rfl, Nat.le_of_ble_eq_true rfl⟩ rfl hl.1 rfl (Nat.le_of_ble_eq_true rfl) dP_find_2 ⟨Nat.le_of_ble_eq_true rfl, Nat.le_of_ble_eq_true rfl⟩ (fun en1 H locs he hP hS => ?_)
  obtain rfl := he
  have hp_k := (hC.1 k hk).1
  have hn_k := ha.1 k hk
  have h5_k := hC.2.2.2.1 k hk
  refine lv_astore hx hb dP_find_5 hl (by decide) rfl (fun ls hl => ?_)
  have hl : lv_has ls 7 [(4, .ref _), (0, .ref _), (1, .int _), (2, .int _), (3, .int _)] := hl
  refine lv_iload_n hx hb dP_find_7 rfl (lv_at hl 4 rfl) ?_
  rcases nn_or n with hg0 | ⟨j, hj, rfl⟩
  · have hk1 : (c_find a (nI k) i n) = 1 := by simp [c_find, dk_nI hk, ix_nI (show k < 2 ^ 31 by omega), hg0.1]
    refine lv_if_lt (tgt := 15) hx hb dP_find_8 (by decide) (fun _ => ?_) (fun hc => absurd (by rw [Int32.lt_iff_toInt_lt]; omega) hc)
    refine lv_iconst (v := 0) hx hb dP_find_15 (by decide) ?_
    exact g_STh (k := 1) F hlocks hno htw hB hS hP (c_P_requireArgument_th hst) k1_168 k1_169 k1_1 k1_170 (by decide +kernel) rfl rfl ⟨Nat.le_of_ble_eq_true rfl, Nat.le_of_ble_eq_true rfl⟩ rfl hl.1 rfl (Nat.le_of_ble_eq_true rfl) dP_find_16 ⟨Nat.le_of_ble_eq_true rfl, Nat.le_of_ble_eq_true rfl⟩ (by rw [hk1]; decide) (by rw [hk1]; rfl)
  have zj := nI_toInt hj
  refine lv_if_lt (tgt := 15) hx hb dP_find_8 (by decide) (fun hc => absurd hc (by rw [Int32.lt_iff_toInt_lt]; omega)) (fun _ => ?_)
  refine lv_iconst (v := 1) hx hb dP_find_11 (by decide) ?_
  refine lv_goto (tgt := 16) hx hb dP_find_12 (by decide) ?_
  refine g_S (k := 1) F htw hB hS hP (c_P_requireArgument) k1_168 k1_169 k1_1 k1_170 (by decide +kernel) rfl rfl ⟨Nat.le_of_ble_eq_true rfl, Nat.le_of_ble_eq_true rfl⟩ rfl hl.1 rfl (Nat.le_of_ble_eq_true rfl) dP_find_16 ⟨Nat.le_of_ble_eq_true rfl, Nat.le_of_ble_eq_true rfl⟩ (fun en1 H locs he hP hS => ?_)
  obtain rfl := he
  refine lv_aload hx hb dP_find_19 (lv_at hl 0 rfl) ?_
  refine lv_iload_n hx hb dP_find_21 rfl (lv_at hl 3 rfl) ?_
  refine g_V (k := 1) F htw hB hS hP (2 + 2 * pi k) (by omega) (en_T _ _ _ _ _ _ _ _ _ _ hp_k) rfl (c_pce hC ha hk i) k2_33 k2_34 k2_35 k1_2 k2_36 (by decide +kernel) rfl rfl ⟨Nat.le_of_ble_eq_true rfl, Nat.le_of_ble_eq_true rfl⟩ rfl hl.1 rfl (Nat.le_of_ble_eq_true rfl) dP_find_22 ⟨Nat.le_of_ble_eq_true rfl, Nat.le_of_ble_eq_true rfl⟩ (fun en1 H locs he hP hS => ?_)
  obtain rfl := he
  rcases pc_or i hn_k with hg0 | ⟨x, hx1, rfl⟩
  · have hk1 : (c_find a (nI k) i (nI j)) = 2 := by simp [c_find, dk_nI hk, ix_nI (show k < 2 ^ 31 by omega), nn_nI hj, ix_nI hj, hg0]
    rw [show (if pcL i (a_n a k) then (1 : Int32) else 0) = 0 from by rw [hg0]; rfl]
    exact g_STh (k := 1) F hlocks hno htw hB hS hP (c_P_requireInside_th hst) k1_214 k1_215 k1_1 k1_216 (by decide +kernel) rfl rfl ⟨Nat.le_of_ble_eq_true rfl, Nat.le_of_ble_eq_true rfl⟩ rfl hl.1 rfl (Nat.le_of_ble_eq_true rfl) dP_find_25 ⟨Nat.le_of_ble_eq_true rfl, Nat.le_of_ble_eq_true rfl⟩ (by rw [hk1]; decide) (by rw [hk1]; rfl)
  rw [show (if pcL (nI x) (a_n a k) then (1 : Int32) else 0) = 1 from if_pos (pc_nI hx1 hn_k)]
  refine g_S (k := 1) F htw hB hS hP (c_P_requireInside) k1_214 k1_215 k1_1 k1_216 (by decide +kernel) rfl rfl ⟨Nat.le_of_ble_eq_true rfl, Nat.le_of_ble_eq_true rfl⟩ rfl hl.1 rfl (Nat.le_of_ble_eq_true rfl) dP_find_25 ⟨Nat.le_of_ble_eq_true rfl, Nat.le_of_ble_eq_true rfl⟩ (fun en1 H locs he hP hS => ?_)
  obtain rfl := he
  refine lv_aload_n hx hb dP_find_28 rfl (lv_at hl 1 rfl) ?_
  have hpn := ha.2.2.1
  by_cases hp0 : a_p a = 0
  · have hk1 : (c_find a (nI k) (nI x) (nI j)) = 3 := by simp [c_find, dk_nI hk, ix_nI (show k < 2 ^ 31 by omega), nn_nI hj, ix_nI hj, pc_nI hx1 hn_k, ix_nI (show x < 2 ^ 31 by omega), hp0]
    exact g_VTh (k := 0) F hlocks hno htw hB hS hP (0) (by decide) rfl rfl (c_P_requirePattern_th hst (by rw [hC.2.2.2.2.2.1, hp0]; rfl)) k2_119 k2_121 k0_3 k1_1 k2_122 (by decide +kernel) rfl rfl ⟨Nat.le_of_ble_eq_true rfl, Nat.le_of_ble_eq_true rfl⟩ rfl hl.1 rfl (Nat.le_of_ble_eq_true rfl) dP_find_29 ⟨Nat.le_of_ble_eq_true rfl, Nat.le_of_ble_eq_true rfl⟩ (by rw [hk1]; decide) (by rw [hk1]; rfl)
  · have hk1 : (c_find a (nI k) (nI x) (nI j)) = 0 := by simp [c_find, dk_nI hk, ix_nI (show k < 2 ^ 31 by omega), nn_nI hj, ix_nI hj, pc_nI hx1 hn_k, ix_nI (show x < 2 ^ 31 by omega), hp0]
    refine g_V (k := 0) F htw hB hS hP (0) (by decide) rfl rfl (c_P_requirePattern (by rw [hC.2.2.2.2.2.1]; exact nI_ne0 (by omega) (by omega))) k2_119 k2_121 k0_3 k1_1 k2_122 (by decide +kernel) rfl rfl ⟨Nat.le_of_ble_eq_true rfl, Nat.le_of_ble_eq_true rfl⟩ rfl hl.1 rfl (Nat.le_of_ble_eq_true rfl) dP_find_29 ⟨Nat.le_of_ble_eq_true rfl, Nat.le_of_ble_eq_true rfl⟩ (fun en1 H locs he hP hS => ?_)
    obtain rfl := he
    refine lv_iconst (v := 0) hx hb dP_find_32 (by decide) ?_
    refine lv_istore hx hb dP_find_33 hl (by decide) rfl (fun ls hl => ?_)
    have hl : lv_has ls 7 [(5, .int _), (4, .ref _), (0, .ref _), (1, .int _), (2, .int _), (3, .int _)] := hl
    refine lv_iload_n hx hb dP_find_35 rfl (lv_at hl 4 rfl) ?_
    refine lv_istore hx hb dP_find_36 hl (by decide) rfl (fun ls hl => ?_)
    have hl : lv_has ls 7 [(6, .int _), (5, .int _), (4, .ref _), (0, .ref _), (1, .int _), (2, .int _), (3, .int _)] := hl
    refine W.loop (α := Nat × Nat) (fun t a1 ls H locs => a1.1 + t = a_n a k ∧ a1.2 ≤ j ∧ a1.2 ≤ a1.1 ∧ fnd a k (a_n a k) t a1.1 (j - a1.2) = fnd a k (a_n a k) (a_n a k - x) x j ∧ lv_has ls 7 [(6, .int (nI a1.1)), (5, .int (nI a1.2)), (4, .ref (ad (2 + 2 * pi k))), (0, .ref (ad 0)), (1, .int (nI k)), (2, .int (nI x)), (3, .int (nI j))] ∧ va_P D cl (gw ad (en ad cI cZ cT cJ pi dr S M o) 25) H ∧ va_S (gA base) s.heap H locs) ?_ (t := (a_n a k - x)) (a := (x, 0)) ⟨by show x + (a_n a k - x) = a_n a k; omega, Nat.zero_le _, Nat.zero_le _, rfl, hl, hP, hS⟩
    clear hl hP hS
    intro t a1 ls H locs hI ih
    obtain ⟨u, v⟩ := a1
    obtain ⟨i0, i1, i2, i3, hl, hP, hS⟩ := hI
    try dsimp only at i0 i1 i2 i3 hl hP
    by_cases ht : t = 0
    · subst ht
      refine lv_iload hx hb dP_find_38 (lv_at hl 0 rfl) ?_
      refine lv_aload hx hb dP_find_40 (lv_at hl 2 rfl) ?_
      refine g_get F hK hP (2 + 2 * pi k) (by omega) (en_T _ _ _ _ _ _ _ _ _ _ hp_k) rfl iT 1 (by decide) k1_34 rfl dP_find_42 ?_
      refine lv_icmp_ge (tgt := 85) hx hb dP_find_45 (by decide) (fun _ => ?_) (fun hc => absurd (by rw [h5_k, nI_leI (by omega) (by omega)]; omega) hc)
      refine lv_iconst (v := (-1)) hx hb dP_find_85 (by decide) ?_
      have i3 : (-1 : Int32) = fnd a k (a_n a k) (a_n a k - x) x j := i3
      refine W.widen (k := 1) (n := 6) (by decide) (by decide) ?_
      exact W.toX (W.iret hx hb hr (fun t ht hW => Or.inl ⟨hk1, ⟨by simp [← i3, dk_nI hk, ix_nI (show k < 2 ^ 31 by omega), nn_nI hj, ix_nI hj, pc_nI hx1 hn_k, ix_nI (show x < 2 ^ 31 by omega), hp0], ⟨_, ⟨_, _, _, rfl, hC⟩, by rw [ht]; exact hP⟩, hS.F ht⟩⟩) hS.2.2 dP_find_86)
    · obtain ⟨t, rfl⟩ : ∃ z, t = z + 1 := ⟨t - 1, by omega⟩
      have i3 : (if stB a k u (a_n a k) then (if j - v = 0 then nI u else fnd a k (a_n a k) t (u + 1) (j - v - 1)) else fnd a k (a_n a k) t (u + 1) (j - v)) = fnd a k (a_n a k) (a_n a k - x) x j := i3
      refine lv_iload hx hb dP_find_38 (lv_at hl 0 rfl) ?_
      refine lv_aload hx hb dP_find_40 (lv_at hl 2 rfl) ?_
      refine g_get F hK hP (2 + 2 * pi k) (by omega) (en_T _ _ _ _ _ _ _ _ _ _ hp_k) rfl iT 1 (by decide) k1_34 rfl dP_find_42 ?_
      refine lv_icmp_ge (tgt := 85) hx hb dP_find_45 (by decide) (fun hc => absurd hc (by rw [h5_k, nI_leI (by omega) (by omega)]; omega)) (fun _ => ?_)
      refine lv_aload_n hx hb dP_find_48 rfl (lv_at hl 3 rfl) ?_
      refine g_get F hK hP (0) (by decide) rfl rfl iP 1 (by decide) k1_71 rfl dP_find_49 ?_
      refine lv_aload hx hb dP_find_52 (lv_at hl 2 rfl) ?_
      refine lv_iload hx hb dP_find_54 (lv_at hl 0 rfl) ?_
      refine lv_aload hx hb dP_find_56 (lv_at hl 2 rfl) ?_
      refine g_get F hK hP (2 + 2 * pi k) (by omega) (en_T _ _ _ _ _ _ _ _ _ _ hp_k) rfl iT 1 (by decide) k1_34 rfl dP_find_58 ?_
      rw [h5_k]
      refine g_V (k := 3) F htw hB hS hP (12) (by decide) rfl rfl (c_std hC ha hk (show u ≤ a_n a k by omega) (Nat.le_refl _)) k2_139 k2_140 k2_141 k1_3 k2_142 (by decide +kernel) rfl rfl ⟨Nat.le_of_ble_eq_true rfl, Nat.le_of_ble_eq_true rfl⟩ rfl hl.1 rfl (Nat.le_of_ble_eq_true rfl) dP_find_61 ⟨Nat.le_of_ble_eq_true rfl, Nat.le_of_ble_eq_true rfl⟩ (fun en1 H locs he hP hS => ?_)
      obtain rfl := he
      by_cases hs : stB a k u (a_n a k) = true
      · rw [if_pos hs] at i3
        rw [if_pos hs]
        refine lv_if_eq (tgt := 79) hx hb dP_find_64 (by decide) (fun hc => absurd hc (by decide)) (fun _ => ?_)
        refine lv_iload hx hb dP_find_67 (lv_at hl 1 rfl) ?_
        refine lv_iload_n hx hb dP_find_69 rfl (lv_at hl 6 rfl) ?_
        refine lv_icmp_ne (tgt := 76) hx hb dP_find_70 (by decide) (fun hc => ?_) (fun hc => ?_)
        · rw [nI_eq (by omega) (by omega)] at hc
          rw [if_neg (by omega), Nat.sub_sub] at i3
          refine lv_iinc (k := 1) hx hb dP_find_76 hl rfl rfl (by decide) rfl (fun ls hl => ?_)
          have hl : lv_has ls 7 [(5, .int _), (6, .int _), (4, .ref _), (0, .ref _), (1, .int _), (2, .int _), (3, .int _)] := hl
          refine lv_iinc (k := 1) hx hb dP_find_79 hl rfl rfl (by decide) rfl (fun ls hl => ?_)
          have hl : lv_has ls 7 [(6, .int _), (5, .int _), (4, .ref _), (0, .ref _), (1, .int _), (2, .int _), (3, .int _)] := hl
          refine lv_goto (tgt := 38) hx hb dP_find_82 (by decide) ?_
          have hl : lv_has ls 7 [(6, .int (nI (u + 1))), (5, .int (nI (v + 1))), (4, .ref (ad (2 + 2 * pi k))), (0, .ref (ad 0)), (1, .int (nI k)), (2, .int (nI x)), (3, .int (nI j))] := by rw [← nI_1, ← nI_1]; exact hl
          exact ih t (u + 1, v + 1) _ _ _ (by omega) ⟨by show u + 1 + t = a_n a k; omega, by show v + 1 ≤ j; omega, by show v + 1 ≤ u + 1; omega, i3, hl, hP, hS⟩
        · rw [nI_eq (by omega) (by omega)] at hc
          rw [if_pos (by omega)] at i3
          refine lv_iload hx hb dP_find_73 (lv_at hl 0 rfl) ?_
          refine W.widen (k := 1) (n := 6) (by decide) (by decide) ?_
          exact W.toX (W.iret hx hb hr (fun t ht hW => Or.inl ⟨hk1, ⟨by simp [← i3, dk_nI hk, ix_nI (show k < 2 ^ 31 by omega), nn_nI hj, ix_nI hj, pc_nI hx1 hn_k, ix_nI (show x < 2 ^ 31 by omega), hp0], ⟨_, ⟨_, _, _, rfl, hC⟩, by rw [ht]; exact hP⟩, hS.F ht⟩⟩) hS.2.2 dP_find_75)
      · rw [if_neg hs] at i3
        rw [if_neg hs]
        refine lv_if_eq (tgt := 79) hx hb dP_find_64 (by decide) (fun _ => ?_) (fun hc => absurd rfl hc)
        refine lv_iinc (k := 0) hx hb dP_find_79 hl rfl rfl (by decide) rfl (fun ls hl => ?_)
        have hl : lv_has ls 7 [(6, .int _), (5, .int _), (4, .ref _), (0, .ref _), (1, .int _), (2, .int _), (3, .int _)] := hl
        refine lv_goto (tgt := 38) hx hb dP_find_82 (by decide) ?_
        have hl : lv_has ls 7 [(6, .int (nI (u + 1))), (5, .int (nI v)), (4, .ref (ad (2 + 2 * pi k))), (0, .ref (ad 0)), (1, .int (nI k)), (2, .int (nI x)), (3, .int (nI j))] := by rw [← nI_1]; exact hl
        exact ih t (u + 1, v) _ _ _ (by omega) ⟨by show u + 1 + t = a_n a k; omega, i1, by show v ≤ u + 1; omega, i3, hl, hP, hS⟩
end M9
end
section
/-! The class's calls: lead, accept, run, accepted. -/
theorem fill_0 {g : Nat → Nat} {p v : Nat} : fill g p v 0 = g := by
  funext q
  unfold fill
  rw [if_neg (by omega)]
theorem fill_up {S8 : Nat → Int32} {g : Nat → Nat} {p v k N : Nat} (h : ∀ q, q < N → S8 q = nI (fill g p v k q)) : ∀ q, q < N → upd S8 (p + k) (nI v) q = nI (fill g p v (k + 1) q) := by
  intro q hq
  rw [← fill_s]
  unfold upd
  by_cases e1 : q = p + k
  · rw [if_pos e1, if_pos e1]
  · rw [if_neg e1, if_neg e1]; exact h q hq
section M10
variable {l : Launch} {D : va_G} {cI cZ cT cJ : ClassId} {base : Nat} {ad : Nat → Nat} {pi : Nat → Nat} {dr : Nat} {S M : Nat → Nat → Int32} {o : Nat → Int64} {a : Ab}
set_option maxHeartbeats 4000000 in
set_option maxRecDepth 100000 in
theorem c_P_lead (hst : l.stackTraces = false) (G : gGeo ad 25 base) (ha : a_ok a) (hC : RepC pi dr S a) (s0 lo hi t0 : Int32) : MetX l yP_lead (Cond.code yP_lead bP_lead 6 none :: tws) { frames := 7, cells := 1, slots := 6, locals := 102 } (gPc (tw D cI cZ cT cJ base) D cl ad 25 base (en ad cI cZ cT cJ pi dr S M o) [.ref (ad 0), .int s0, .int lo, .int hi, .int t0]) (gQx D cl ad 25 base (en ad cI cZ cT cJ pi dr S M o) ["java/lang/IllegalArgumentException"] (c_lead s0 lo hi t0) none (fun e => ∃ (pi1 : Nat → Nat) (dr1 : Nat) (S1 : Nat → Nat → Int32), e = en ad cI cZ cT cJ pi1 dr1 S1 M o ∧ RepC pi1 dr1 S1 (x_lead a s0 lo hi t0))) 1 6 (gA base) := by
  refine MetX.ofW (cc := bP_lead) (maxL := 6) (ret := none) (by decide) rfl ?_
  intro p e s m args below meth c s₁ B hml hv
  obtain ⟨rfl, htw, hB, hP⟩ := hv
  have hx := B.exec
  have hb := B.bytes
  have hr := B.returns
  have hts0 := atoms_spec (ws := Cond.code yP_lead bP_lead 6 none :: tws) B.pre
  have hts : ∀ w ∈ tws, w.before _ s = true := fun w h => hts0 w (List.mem_cons_of_mem _ h)
  have hown : s.vm.findClass "PairedTexts" = some m.cls := findClass_of_methodNamed B.named
  have hlocks := B.notSynchronized
  have hno := B.noHandlers (hts0 _ List.mem_cons_self)
  have F : CallFix p m c bP_lead 6 s _ tws "PairedTexts" := ⟨hx, hb, hml, hown, hts⟩
  have hK := htw.1
  have hS : va_S (gA base) s.heap s.heap [] := va_S.rf
  have hl := lv_entry ([.ref (ad 0), .int s0, .int lo, .int hi, .int t0]) (n := 6) (Nat.le_of_ble_eq_true rfl)
  rw [lg_entry_eq]
  generalize (lg_sl ([.ref (ad 0), .int s0, .int lo, .int hi, .int t0]) ++ List.replicate (6 - (lg_sl ([.ref (ad 0), .int s0, .int lo, .int hi, .int t0])).length) Slot.unset).toArray = ls at hl ⊢
  have hl : lv_has ls 6 [(0, .ref (ad 0)), (1, .int s0), (2, .int lo), (3, .int hi), (4, .int t0)] := hl
  have hdr := hC.2.1
  have z0 : (0 : Int32).toInt = 0 := rfl
  have z8 : (256 : Int32).toInt = 256 := rfl
  refine lv_iload_n hx hb dP_lead_0 rfl (lv_at hl 1 rfl) ?_
  rcases sk_or s0 with hd | ⟨k, hk, rfl⟩
  · have hk1 : (c_lead s0 lo hi t0) = 1 := by simp [c_lead, hd.1]
    exact g_STh (k := 1) F hlocks hno htw hB hS hP (c_P_requireState_th hst hd.2) k2_157 k2_158 k1_1 k2_159 (by decide +kernel) rfl rfl ⟨Nat.le_of_ble_eq_true rfl, Nat.le_of_ble_eq_true rfl⟩ rfl hl.1 rfl (Nat.le_of_ble_eq_true rfl) dP_lead_1 ⟨Nat.le_of_ble_eq_true rfl, Nat.le_of_ble_eq_true rfl⟩ (by rw [hk1]; decide) (by rw [hk1]; rfl)
  refine g_S (k := 1) F htw hB hS hP (c_P_requireState (by have := nI_toInt (show k < 2 ^ 31 by omega); omega) (by have := nI_toInt (show k < 2 ^ 31 by omega); omega)) k2_157 k2_158 k1_1 k2_159 (by decide +kernel) rfl rfl ⟨Nat.le_of_ble_eq_true rfl, Nat.le_of_ble_eq_true rfl⟩ rfl hl.1 rfl (Nat.le_of_ble_eq_true rfl) dP_lead_1 ⟨Nat.le_of_ble_eq_true rfl, Nat.le_of_ble_eq_true rfl⟩ (fun en1 H locs he hP hS => ?_)
  obtain rfl := he
  refine lv_iload hx hb dP_lead_4 (lv_at hl 4 rfl) ?_
  rcases sk_or t0 with hd | ⟨g, hg, rfl⟩
  · have hk1 : (c_lead (nI k) lo hi t0) = 1 := by simp [c_lead, sk_nI hk, ix_nI (show k < 2 ^ 31 by omega), hd.1]
    exact g_STh (k := 1) F hlocks hno htw hB hS hP (c_P_requireState_th hst hd.2) k2_157 k2_158 k1_1 k2_159 (by decide +kernel) rfl rfl ⟨Nat.le_of_ble_eq_true rfl, Nat.le_of_ble_eq_true rfl⟩ rfl hl.1 rfl (Nat.le_of_ble_eq_true rfl) dP_lead_6 ⟨Nat.le_of_ble_eq_true rfl, Nat.le_of_ble_eq_true rfl⟩ (by rw [hk1]; decide) (by rw [hk1]; rfl)
  refine g_S (k := 1) F htw hB hS hP (c_P_requireState (by have := nI_toInt (show g < 2 ^ 31 by omega); omega) (by have := nI_toInt (show g < 2 ^ 31 by omega); omega)) k2_157 k2_158 k1_1 k2_159 (by decide +kernel) rfl rfl ⟨Nat.le_of_ble_eq_true rfl, Nat.le_of_ble_eq_true rfl⟩ rfl hl.1 rfl (Nat.le_of_ble_eq_true rfl) dP_lead_6 ⟨Nat.le_of_ble_eq_true rfl, Nat.le_of_ble_eq_true rfl⟩ (fun en1 H locs he hP hS => ?_)
  obtain rfl := he
  refine lv_iconst (v := 0) hx hb dP_lead_9 (by decide) ?_
  refine lv_iload_n hx hb dP_lead_10 rfl (lv_at hl 2 rfl) ?_
  by_cases hq : 0 ≤ lo.toInt ∧ lo.toInt ≤ hi.toInt ∧ hi.toInt < 256
  · have hk1 : (c_lead (nI k) lo hi (nI g)) = 0 := by simp only [c_lead, sk_nI hk, ix_nI (show k < 2 ^ 31 by omega), sk_nI hg, ix_nI (show g < 2 ^ 31 by omega), hq, decide_true, Bool.and_true]; rfl
    have q1 := ix_toInt hq.1
    have q2 := ix_toInt (show 0 ≤ hi.toInt by omega)
    refine lv_icmp_gt (tgt := 30) hx hb dP_lead_11 (by decide) (fun hc => absurd hc (by rw [Int32.lt_iff_toInt_lt]; omega)) (fun _ => ?_)
    refine lv_iload_n hx hb dP_lead_14 rfl (lv_at hl 2 rfl) ?_
    refine lv_iload_n hx hb dP_lead_15 rfl (lv_at hl 3 rfl) ?_
    refine lv_icmp_gt (tgt := 30) hx hb dP_lead_16 (by decide) (fun hc => absurd hc (by rw [Int32.lt_iff_toInt_lt]; omega)) (fun _ => ?_)
    refine lv_iload_n hx hb dP_lead_19 rfl (lv_at hl 3 rfl) ?_
    refine lv_sipush (v := 256) hx hb dP_lead_20 (by decide) ?_
    refine lv_icmp_ge (tgt := 30) hx hb dP_lead_23 (by decide) (fun hc => absurd hc (by rw [Int32.le_iff_toInt_le]; omega)) (fun _ => ?_)
    refine lv_iconst (v := 1) hx hb dP_lead_26 (by decide) ?_
    refine lv_goto (tgt := 31) hx hb dP_lead_27 (by decide) ?_
    refine g_S (k := 1) F htw hB hS hP (c_P_requireArgument) k1_168 k1_169 k1_1 k1_170 (by decide +kernel) rfl rfl ⟨Nat.le_of_ble_eq_true rfl, Nat.le_of_ble_eq_true rfl⟩ rfl hl.1 rfl (Nat.le_of_ble_eq_true rfl) dP_lead_31 ⟨Nat.le_of_ble_eq_true rfl, Nat.le_of_ble_eq_true rfl⟩ (fun en1 H locs he hP hS => ?_)
    obtain rfl := he
    refine lv_iload_n hx hb dP_lead_34 rfl (lv_at hl 2 rfl) ?_
    refine lv_istore hx hb dP_lead_35 hl (by decide) rfl (fun ls hl => ?_)
    have hl : lv_has ls 6 [(5, .int _), (0, .ref _), (1, .int _), (2, .int _), (3, .int _), (4, .int _)] := hl
    generalize hL : ix lo = l1 at q1
    generalize hH : ix hi = h9 at q2
    have eL : lo = nI l1 := by rw [← hL]; exact nI_ix hq.1
    have eH : hi = nI h9 := by rw [← hH]; exact nI_ix (by omega)
    have hl : lv_has ls 6 [(5, .int (nI (l1 + 0))), (0, .ref (ad 0)), (1, .int (nI k)), (2, .int lo), (3, .int (nI h9)), (4, .int (nI g))] := by rw [← eH, Nat.add_zero, ← eL]; exact hl
    have hC : RepC pi dr S (a_n a, a_b a, a_p a, a_q a, fill (a_x a) (256 * k + l1) g 0, a_c a) := by rw [fill_0]; exact hC
    refine W.loop (α := Nat × (Nat → Nat → Int32)) (fun t a1 ls H locs => l1 + a1.1 + t = h9 + 1 ∧ RepC pi dr a1.2 (a_n a, a_b a, a_p a, a_q a, fill (a_x a) (256 * k + l1) g a1.1, a_c a) ∧ lv_has ls 6 [(5, .int (nI (l1 + a1.1))), (0, .ref (ad 0)), (1, .int (nI k)), (2, .int lo), (3, .int (nI h9)), (4, .int (nI g))] ∧ va_P D cl (gw ad (en ad cI cZ cT cJ pi dr a1.2 M o) 25) H ∧ va_S (gA base) s.heap H locs) ?_ (t := (h9 + 1 - l1)) (a := (0, S)) ⟨by show l1 + 0 + (h9 + 1 - l1) = h9 + 1; omega, hC, hl, hP, hS⟩
    clear hl hP hS
    intro t a1 ls H locs hI ih
    obtain ⟨u, S⟩ := a1
    obtain ⟨i0, i1, hl, hP, hS⟩ := hI
    try dsimp only at i0 i1 hl hP
    by_cases ht : t = 0
    · have hu : h9 + 1 - l1 = u := by omega
      refine lv_iload hx hb dP_lead_37 (lv_at hl 0 rfl) ?_
      refine lv_iload_n hx hb dP_lead_39 rfl (lv_at hl 4 rfl) ?_
      refine lv_icmp_gt (tgt := 61) hx hb dP_lead_40 (by decide) (fun _ => ?_) (fun hc => absurd (by rw [nI_ltI (by omega) (by omega)]; omega) hc)
      refine W.widen (k := 1) (n := 6) (by decide) (by decide) ?_
      exact W.toX (W.vret hx hb hr (fun t ht hW => Or.inl ⟨hk1, ⟨rfl, ⟨_, ⟨_, _, _, rfl, by simpa [x_lead, hL, hH, hu, ix_nI (show k < 2 ^ 31 by omega), ix_nI (show g < 2 ^ 31 by omega)] using i1⟩, by rw [ht]; exact hP⟩, hS.F ht⟩⟩) hS.2.2 dP_lead_61)
    · refine lv_iload hx hb dP_lead_37 (lv_at hl 0 rfl) ?_
      refine lv_iload_n hx hb dP_lead_39 rfl (lv_at hl 4 rfl) ?_
      refine lv_icmp_gt (tgt := 61) hx hb dP_lead_40 (by decide) (fun hc => absurd hc (by rw [nI_ltI (by omega) (by omega)]; omega)) (fun _ => ?_)
      refine lv_aload_n hx hb dP_lead_43 rfl (lv_at hl 1 rfl) ?_
      refine g_get F hK hP (0) (by decide) rfl rfl iP 2 (by decide) k1_72 rfl dP_lead_44 ?_
      refine lv_iload_n hx hb dP_lead_47 rfl (lv_at hl 2 rfl) ?_
      refine lv_iload hx hb dP_lead_48 (lv_at hl 0 rfl) ?_
      refine lv_iload hx hb dP_lead_50 (lv_at hl 5 rfl) ?_
      refine g_V (k := 3) F htw hB hS hP (14) (by decide) rfl rfl (c_A_setNext G hk (show l1 + u < 256 by omega) (nI g)) k2_161 k2_162 k2_163 k1_4 k2_164 (by decide +kernel) rfl rfl ⟨Nat.le_of_ble_eq_true rfl, Nat.le_of_ble_eq_true rfl⟩ rfl hl.1 rfl (Nat.le_of_ble_eq_true rfl) dP_lead_52 ⟨Nat.le_of_ble_eq_true rfl, Nat.le_of_ble_eq_true rfl⟩ (fun en1 H locs he hP hS => ?_)
      obtain rfl := he
      refine lv_iinc (k := 0) hx hb dP_lead_55 hl rfl rfl (by decide) rfl (fun ls hl => ?_)
      have hl : lv_has ls 6 [(5, .int _), (0, .ref _), (1, .int _), (2, .int _), (3, .int _), (4, .int _)] := hl
      refine lv_goto (tgt := 37) hx hb dP_lead_58 (by decide) ?_
      have hC := i1.sx (f := upd (S 8) (256 * k + (l1 + u)) (nI g)) (g := fill (a_x a) (256 * k + l1) g (u + 1)) (by rw [← Nat.add_assoc]; exact fill_up i1.2.2.2.2.2.2.2.1)
      have hl : lv_has ls 6 [(5, .int (nI (l1 + (u + 1)))), (0, .ref (ad 0)), (1, .int (nI k)), (2, .int lo), (3, .int (nI h9)), (4, .int (nI g))] := by rw [← Nat.add_assoc, ← nI_1]; exact hl
      exact ih (t - 1) (u + 1, _) _ _ _ (by omega) ⟨by show l1 + (u + 1) + (t - 1) = h9 + 1; omega, hC, hl, hP, hS⟩
  · have hk1 : (c_lead (nI k) lo hi (nI g)) = 1 := by simp only [c_lead, sk_nI hk, ix_nI (show k < 2 ^ 31 by omega), sk_nI hg, ix_nI (show g < 2 ^ 31 by omega), hq, decide_false, Bool.and_false]; rfl
    refine lv_icmp_gt (tgt := 30) hx hb dP_lead_11 (by decide) (fun h1 => ?_) (fun h1 => ?_)
    · refine lv_iconst (v := 0) hx hb dP_lead_30 (by decide) ?_
      exact g_STh (k := 1) F hlocks hno htw hB hS hP (c_P_requireArgument_th hst) k1_168 k1_169 k1_1 k1_170 (by decide +kernel) rfl rfl ⟨Nat.le_of_ble_eq_true rfl, Nat.le_of_ble_eq_true rfl⟩ rfl hl.1 rfl (Nat.le_of_ble_eq_true rfl) dP_lead_31 ⟨Nat.le_of_ble_eq_true rfl, Nat.le_of_ble_eq_true rfl⟩ (by rw [hk1]; decide) (by rw [hk1]; rfl)
    · rw [Int32.lt_iff_toInt_lt] at h1
      refine lv_iload_n hx hb dP_lead_14 rfl (lv_at hl 2 rfl) ?_
      refine lv_iload_n hx hb dP_lead_15 rfl (lv_at hl 3 rfl) ?_
      refine lv_icmp_gt (tgt := 30) hx hb dP_lead_16 (by decide) (fun h2 => ?_) (fun h2 => ?_)
      · refine lv_iconst (v := 0) hx hb dP_lead_30 (by decide) ?_
        exact g_STh (k := 1) F hlocks hno htw hB hS hP (c_P_requireArgument_th hst) k1_168 k1_169 k1_1 k1_170 (by decide +kernel) rfl rfl ⟨Nat.le_of_ble_eq_true rfl, Nat.le_of_ble_eq_true rfl⟩ rfl hl.1 rfl (Nat.le_of_ble_eq_true rfl) dP_lead_31 ⟨Nat.le_of_ble_eq_true rfl, Nat.le_of_ble_eq_true rfl⟩ (by rw [hk1]; decide) (by rw [hk1]; rfl)
      · rw [Int32.lt_iff_toInt_lt] at h2
        refine lv_iload_n hx hb dP_lead_19 rfl (lv_at hl 3 rfl) ?_
        refine lv_sipush (v := 256) hx hb dP_lead_20 (by decide) ?_
        refine lv_icmp_ge (tgt := 30) hx hb dP_lead_23 (by decide) (fun _ => ?_) (fun hc => absurd (by rw [Int32.le_iff_toInt_le]; omega) hc)
        refine lv_iconst (v := 0) hx hb dP_lead_30 (by decide) ?_
        exact g_STh (k := 1) F hlocks hno htw hB hS hP (c_P_requireArgument_th hst) k1_168 k1_169 k1_1 k1_170 (by decide +kernel) rfl rfl ⟨Nat.le_of_ble_eq_true rfl, Nat.le_of_ble_eq_true rfl⟩ rfl hl.1 rfl (Nat.le_of_ble_eq_true rfl) dP_lead_31 ⟨Nat.le_of_ble_eq_true rfl, Nat.le_of_ble_eq_true rfl⟩ (by rw [hk1]; decide) (by rw [hk1]; rfl)
set_option maxHeartbeats 4000000 in
set_option maxRecDepth 100000 in
theorem c_P_accept (hst : l.stackTraces = false) (G : gGeo ad 25 base) (ha : a_ok a) (hC : RepC pi dr S a) (s0 : Int32) {b : Nat} (hb2 : b < 2) : MetX l yP_accept (Cond.code yP_accept bP_accept 3 none :: tws) { frames := 7, cells := 1, slots := 6, locals := 102 } (gPc (tw D cI cZ cT cJ base) D cl ad 25 base (en ad cI cZ cT cJ pi dr S M o) [.ref (ad 0), .int s0, .int (nI b)]) (gQx D cl ad 25 base (en ad cI cZ cT cJ pi dr S M o) ["java/lang/IllegalArgumentException"] (c_accept s0) none (fun e => ∃ (pi1 : Nat → Nat) (dr1 : Nat) (S1 : Nat → Nat → Int32), e = en ad cI cZ cT cJ pi1 dr1 S1 M o ∧ RepC pi1 dr1 S1 (x_accept a s0 b))) 1 6 (gA base) := by
  refine MetX.ofW (cc := bP_accept) (maxL := 3) (ret := none) (by decide) rfl ?_
  intro p e s m args below meth c s₁ B hml hv
  obtain ⟨rfl, htw, hB, hP⟩ := hv
  have hx := B.exec
  have hb := B.bytes
  have hr := B.returns
  have hts0 := atoms_spec (ws := Cond.code yP_accept bP_accept 3 none :: tws) B.pre
  have hts : ∀ w ∈ tws, w.before _ s = true := fun w h => hts0 w (List.mem_cons_of_mem _ h)
  have hown : s.vm.findClass "PairedTexts" = some m.cls := findClass_of_methodNamed B.named
  have hlocks := B.notSynchronized
  have hno := B.noHandlers (hts0 _ List.mem_cons_self)
  have F : CallFix p m c bP_accept 3 s _ tws "PairedTexts" := ⟨hx, hb, hml, hown, hts⟩
  have hK := htw.1
  have hS : va_S (gA base) s.heap s.heap [] := va_S.rf
  have hl := lv_entry ([.ref (ad 0), .int s0, .int (nI b)]) (n := 3) (Nat.le_of_ble_eq_true rfl)
  rw [lg_entry_eq]
  generalize (lg_sl ([.ref (ad 0), .int s0, .int (nI b)]) ++ List.replicate (3 - (lg_sl ([.ref (ad 0), .int s0, .int (nI b)])).length) Slot.unset).toArray = ls at hl ⊢
  have hl : lv_has ls 3 [(0, .ref (ad 0)), (1, .int s0), (2, .int (nI b))] := hl
  have hdr := hC.2.1
  refine lv_iload_n hx hb dP_accept_0 rfl (lv_at hl 1 rfl) ?_
  rcases sk_or s0 with hd | ⟨k, hk, rfl⟩
  · have hk1 : (c_accept s0) = 1 := by simp [c_accept, hd.1]
    exact g_STh (k := 1) F hlocks hno htw hB hS hP (c_P_requireState_th hst hd.2) k2_157 k2_158 k1_1 k2_159 (by decide +kernel) rfl rfl ⟨Nat.le_of_ble_eq_true rfl, Nat.le_of_ble_eq_true rfl⟩ rfl hl.1 rfl (Nat.le_of_ble_eq_true rfl) dP_accept_1 ⟨Nat.le_of_ble_eq_true rfl, Nat.le_of_ble_eq_true rfl⟩ (by rw [hk1]; decide) (by rw [hk1]; rfl)
  refine g_S (k := 1) F htw hB hS hP (c_P_requireState (by have := nI_toInt (show k < 2 ^ 31 by omega); omega) (by have := nI_toInt (show k < 2 ^ 31 by omega); omega)) k2_157 k2_158 k1_1 k2_159 (by decide +kernel) rfl rfl ⟨Nat.le_of_ble_eq_true rfl, Nat.le_of_ble_eq_true rfl⟩ rfl hl.1 rfl (Nat.le_of_ble_eq_true rfl) dP_accept_1 ⟨Nat.le_of_ble_eq_true rfl, Nat.le_of_ble_eq_true rfl⟩ (fun en1 H locs he hP hS => ?_)
  obtain rfl := he
  refine lv_aload_n hx hb dP_accept_4 rfl (lv_at hl 0 rfl) ?_
  refine g_get F hK hP (0) (by decide) rfl rfl iP 2 (by decide) k1_72 rfl dP_accept_5 ?_
  refine g_get F hK hP (14) (by decide) rfl rfl iA 1 (by decide) k1_63 rfl dP_accept_8 ?_
  refine lv_iload_n hx hb dP_accept_11 rfl (lv_at hl 1 rfl) ?_
  refine lv_iload_n hx hb dP_accept_12 rfl (lv_at hl 2 rfl) ?_
  refine g_zast F hK G hP hS (16) (by decide) 1 rfl rfl (vp_in_nI hk (by omega)) dP_accept_13 (fun H locs hP hS => ?_)
  rw [nI_clamp (show k < 2 ^ 31 by omega), show vp_nar .boolean (nI b) = nI b from (show b = 0 ∨ b = 1 by omega).elim (fun h => by rw [h]; rfl) (fun h => by rw [h]; rfl)] at hP
  have hP := P_of hP (en_ac _ _ _ _ _ _ _ _ _ _ _)
  have h0 : ∀ q, q < 8 → S 9 q = nI (fill (a_c a) k b 0 q) := by rw [fill_0]; exact hC.2.2.2.2.2.2.2.2
  have hC := hC.sc (f := upd (S 9) k (nI b)) (g := fill (a_c a) k b 1) (fill_up h0)
  have hk1 : (c_accept (nI k)) = 0 := by simp [c_accept, sk_nI hk, ix_nI (show k < 2 ^ 31 by omega)]
  refine W.widen (k := 1) (n := 6) (by decide) (by decide) ?_
  exact W.toX (W.vret hx hb hr (fun t ht hW => Or.inl ⟨hk1, ⟨rfl, ⟨_, ⟨_, _, _, rfl, by simpa [x_accept, sk_nI hk, ix_nI (show k < 2 ^ 31 by omega)] using hC⟩, by rw [ht]; exact hP⟩, hS.F ht⟩⟩) hS.2.2 dP_accept_14)
set_option maxHeartbeats 4000000 in
set_option maxRecDepth 100000 in
theorem c_P_run (hst : l.stackTraces = false) (G : gGeo ad 25 base) (ha : a_ok a) (hC : RepC pi dr S a) (d f t s0 : Int32) : MetX l yP_run (Cond.code yP_run bP_run 8 (some .int) :: tws) { frames := 8, cells := 1, slots := 6, locals := 123 } (gPc (tw D cI cZ cT cJ base) D cl ad 25 base (en ad cI cZ cT cJ pi dr S M o) [.ref (ad 0), .int d, .int f, .int t, .int s0]) (gQx D cl ad 25 base (en ad cI cZ cT cJ pi dr S M o) ["java/lang/IllegalArgumentException", "java/lang/IndexOutOfBoundsException"] (c_run a d f t s0) (some (.int (nI (rns a (ix d) (ix f) (ix s0) (ix t - ix f))))) (fun e => ∃ (pi1 : Nat → Nat) (dr1 : Nat) (S1 : Nat → Nat → Int32), e = en ad cI cZ cT cJ pi1 dr1 S1 M o ∧ RepC pi1 dr1 S1 (a))) 1 6 (gA base) := by
  refine MetX.ofW (cc := bP_run) (maxL := 8) (ret := (some .int)) (by decide) rfl ?_
  intro p e s m args below meth c s₁ B hml hv
  obtain ⟨rfl, htw, hB, hP⟩ := hv
  have hx := B.exec
  have hb := B.bytes
  have hr := B.returns
  have hts0 := atoms_spec (ws := Cond.code yP_run bP_run 8 (some .int) :: tws) B.pre
  have hts : ∀ w ∈ tws, w.before _ s = true := fun w h => hts0 w (List.mem_cons_of_mem _ h)
  have hown : s.vm.findClass "PairedTexts" = some m.cls := findClass_of_methodNamed B.named
  have hlocks := B.notSynchronized
  have hno := B.noHandlers (hts0 _ List.mem_cons_self)
  have F : CallFix p m c bP_run 8 s _ tws "PairedTexts" := ⟨hx, hb, hml, hown, hts⟩
  have hK := htw.1
  have hS : va_S (gA base) s.heap s.heap [] := va_S.rf
  have hl := lv_entry ([.ref (ad 0), .int d, .int f, .int t, .int s0]) (n := 8) (Nat.le_of_ble_eq_true rfl)
  rw [lg_entry_eq]
  generalize (lg_sl ([.ref (ad 0), .int d, .int f, .int t, .int s0]) ++ List.replicate (8 - (lg_sl ([.ref (ad 0), .int d, .int f, .int t, .int s0])).length) Slot.unset).toArray = ls at hl ⊢
  have hl : lv_has ls 8 [(0, .ref (ad 0)), (1, .int d), (2, .int f), (3, .int t), (4, .int s0)] := hl
  have hdr := hC.2.1
  refine lv_aload_n hx hb dP_run_0 rfl (lv_at hl 0 rfl) ?_
  refine lv_iload_n hx hb dP_run_1 rfl (lv_at hl 1 rfl) ?_
  rcases dk_or d with hd | ⟨k, hk, rfl⟩
  · have hk1 : (c_run a d f t s0) = 1 := by simp [c_run, hd.1]
    exact g_VTh (k := 1) F hlocks hno htw hB hS hP (0) (by decide) rfl rfl (c_P_textOf_th hst hd.2) k1_92 k1_94 k0_0 k1_1 k1_95 (by decide +kernel) rfl rfl ⟨Nat.le_of_ble_eq_true rfl, Nat.le_of_ble_eq_true rfl⟩ rfl hl.1 rfl (Nat.le_of_ble_eq_true rfl) dP_run_2 ⟨Nat.le_of_ble_eq_true rfl, Nat.le_of_ble_eq_true rfl⟩ (by rw [hk1]; decide) (by rw [hk1]; rfl)
  refine g_V (k := 1) F htw hB hS hP (0) (by decide) rfl rfl (c_P_textOf hk) k1_92 k1_94 k0_0 k1_1 k1_95 (by decide +kernel) rfl rfl ⟨Nat.le_of_ble_eq_true rfl, Nat.le_of_ble_eq_true rfl⟩ rfl hl.1 rfl (Nat.le_of_ble_eq_true rfl) dP_run_2 ⟨Nat.le_of_ble_eq_true rfl, Nat.le_of_ble_eq_true rfl⟩ (fun en1 H locs he hP hS => ?_)
  obtain rfl := he
  have hp_k := (hC.1 k hk).1
  have hn_k := ha.1 k hk
  have h5_k := hC.2.2.2.1 k hk
  refine lv_astore hx hb dP_run_5 hl (by decide) rfl (fun ls hl => ?_)
  have hl : lv_has ls 8 [(5, .ref _), (0, .ref _), (1, .int _), (2, .int _), (3, .int _), (4, .int _)] := hl
  refine lv_iload hx hb dP_run_7 (lv_at hl 5 rfl) ?_
  rcases sk_or s0 with hd | ⟨g, hg, rfl⟩
  · have hk1 : (c_run a (nI k) f t s0) = 1 := by simp [c_run, dk_nI hk, ix_nI (show k < 2 ^ 31 by omega), hd.1]
    exact g_STh (k := 1) F hlocks hno htw hB hS hP (c_P_requireState_th hst hd.2) k2_157 k2_158 k1_1 k2_159 (by decide +kernel) rfl rfl ⟨Nat.le_of_ble_eq_true rfl, Nat.le_of_ble_eq_true rfl⟩ rfl hl.1 rfl (Nat.le_of_ble_eq_true rfl) dP_run_9 ⟨Nat.le_of_ble_eq_true rfl, Nat.le_of_ble_eq_true rfl⟩ (by rw [hk1]; decide) (by rw [hk1]; rfl)
  refine g_S (k := 1) F htw hB hS hP (c_P_requireState (by have := nI_toInt (show g < 2 ^ 31 by omega); omega) (by have := nI_toInt (show g < 2 ^ 31 by omega); omega)) k2_157 k2_158 k1_1 k2_159 (by decide +kernel) rfl rfl ⟨Nat.le_of_ble_eq_true rfl, Nat.le_of_ble_eq_true rfl⟩ rfl hl.1 rfl (Nat.le_of_ble_eq_true rfl) dP_run_9 ⟨Nat.le_of_ble_eq_true rfl, Nat.le_of_ble_eq_true rfl⟩ (fun en1 H locs he hP hS => ?_)
  obtain rfl := he
  refine lv_aload hx hb dP_run_12 (lv_at hl 0 rfl) ?_
  refine lv_iload_n hx hb dP_run_14 rfl (lv_at hl 3 rfl) ?_
  refine lv_iload_n hx hb dP_run_15 rfl (lv_at hl 4 rfl) ?_
  refine lv_i2l hx hb dP_run_16 rfl ?_
  refine g_V (k := 2) F htw hB hS hP (2 + 2 * pi k) (by omega) (en_T _ _ _ _ _ _ _ _ _ _ hp_k) rfl (c_rng hC ha hk f t) k2_0 k2_1 k2_2 k1_2 k2_3 (by decide +kernel) rfl rfl ⟨Nat.le_of_ble_eq_true rfl, Nat.le_of_ble_eq_true rfl⟩ rfl hl.1 rfl (Nat.le_of_ble_eq_true rfl) dP_run_17 ⟨Nat.le_of_ble_eq_true rfl, Nat.le_of_ble_eq_true rfl⟩ (fun en1 H locs he hP hS => ?_)
  obtain rfl := he
  rcases rg_or f t hn_k with hr | ⟨f1, t1, hft, htn, rfl, rfl⟩
  · have hk1 : (c_run a (nI k) f t (nI g)) = 2 := by simp [c_run, dk_nI hk, ix_nI (show k < 2 ^ 31 by omega), sk_nI hg, ix_nI (show g < 2 ^ 31 by omega), hr]
    rw [show (if rg f t (a_n a k) then (1 : Int32) else 0) = 0 from by rw [hr]; rfl]
    exact g_STh (k := 1) F hlocks hno htw hB hS hP (c_P_requireInside_th hst) k1_214 k1_215 k1_1 k1_216 (by decide +kernel) rfl rfl ⟨Nat.le_of_ble_eq_true rfl, Nat.le_of_ble_eq_true rfl⟩ rfl hl.1 rfl (Nat.le_of_ble_eq_true rfl) dP_run_20 ⟨Nat.le_of_ble_eq_true rfl, Nat.le_of_ble_eq_true rfl⟩ (by rw [hk1]; decide) (by rw [hk1]; rfl)
  rw [show (if rg (nI f1) (nI t1) (a_n a k) then (1 : Int32) else 0) = 1 from if_pos (rg_nI hft htn hn_k)]
  refine g_S (k := 1) F htw hB hS hP (c_P_requireInside) k1_214 k1_215 k1_1 k1_216 (by decide +kernel) rfl rfl ⟨Nat.le_of_ble_eq_true rfl, Nat.le_of_ble_eq_true rfl⟩ rfl hl.1 rfl (Nat.le_of_ble_eq_true rfl) dP_run_20 ⟨Nat.le_of_ble_eq_true rfl, Nat.le_of_ble_eq_true rfl⟩ (fun en1 H locs he hP hS => ?_)
  obtain rfl := he
  have hk1 : (c_run a (nI k) (nI f1) (nI t1) (nI g)) = 0 := by simp [c_run, dk_nI hk, ix_nI (show k < 2 ^ 31 by omega), sk_nI hg, ix_nI (show g < 2 ^ 31 by omega), rg_nI hft htn hn_k, ix_nI (show f1 < 2 ^ 31 by omega), ix_nI (show t1 < 2 ^ 31 by omega)]
  refine lv_iload hx hb dP_run_23 (lv_at hl 5 rfl) ?_
  refine lv_istore hx hb dP_run_25 hl (by decide) rfl (fun ls hl => ?_)
  have hl : lv_has ls 8 [(6, .int _), (5, .ref _), (0, .ref _), (1, .int _), (2, .int _), (3, .int _), (4, .int _)] := hl
  refine lv_iload_n hx hb dP_run_27 rfl (lv_at hl 4 rfl) ?_
  refine lv_istore hx hb dP_run_28 hl (by decide) rfl (fun ls hl => ?_)
  have hl : lv_has ls 8 [(7, .int _), (6, .int _), (5, .ref _), (0, .ref _), (1, .int _), (2, .int _), (3, .int _), (4, .int _)] := hl
  have hl : lv_has ls 8 [(7, .int (nI (f1 + 0))), (6, .int (nI (rns a k f1 g 0))), (5, .ref (ad (2 + 2 * pi k))), (0, .ref (ad 0)), (1, .int (nI k)), (2, .int (nI f1)), (3, .int (nI t1)), (4, .int (nI g))] := hl
  refine W.loop (α := Nat) (fun t a1 ls H locs => f1 + a1 + t = t1 ∧ lv_has ls 8 [(7, .int (nI (f1 + a1))), (6, .int (nI (rns a k f1 g a1))), (5, .ref (ad (2 + 2 * pi k))), (0, .ref (ad 0)), (1, .int (nI k)), (2, .int (nI f1)), (3, .int (nI t1)), (4, .int (nI g))] ∧ va_P D cl (gw ad (en ad cI cZ cT cJ pi dr S M o) 25) H ∧ va_S (gA base) s.heap H locs) ?_ (t := (t1 - f1)) (a := 0) ⟨by show f1 + 0 + (t1 - f1) = t1; omega, hl, hP, hS⟩
  clear hl hP hS
  intro t a1 ls H locs hI ih
  obtain ⟨i0, hl, hP, hS⟩ := hI
  try dsimp only at i0 hl hP
  by_cases ht : t = 0
  · have hu : t1 - f1 = a1 := by omega
    refine lv_iload hx hb dP_run_30 (lv_at hl 0 rfl) ?_
    refine lv_iload_n hx hb dP_run_32 rfl (lv_at hl 6 rfl) ?_
    refine lv_icmp_ge (tgt := 61) hx hb dP_run_33 (by decide) (fun _ => ?_) (fun hc => absurd (by rw [nI_leI (by omega) (by omega)]; omega) hc)
    refine lv_iload hx hb dP_run_61 (lv_at hl 1 rfl) ?_
    refine W.widen (k := 1) (n := 6) (by decide) (by decide) ?_
    exact W.toX (W.iret hx hb hr (fun t ht hW => Or.inl ⟨hk1, ⟨by simp [hu, dk_nI hk, ix_nI (show k < 2 ^ 31 by omega), sk_nI hg, ix_nI (show g < 2 ^ 31 by omega), rg_nI hft htn hn_k, ix_nI (show f1 < 2 ^ 31 by omega), ix_nI (show t1 < 2 ^ 31 by omega)], ⟨_, ⟨_, _, _, rfl, hC⟩, by rw [ht]; exact hP⟩, hS.F ht⟩⟩) hS.2.2 dP_run_63)
  · refine lv_iload hx hb dP_run_30 (lv_at hl 0 rfl) ?_
    refine lv_iload_n hx hb dP_run_32 rfl (lv_at hl 6 rfl) ?_
    refine lv_icmp_ge (tgt := 61) hx hb dP_run_33 (by decide) (fun hc => absurd hc (by rw [nI_leI (by omega) (by omega)]; omega)) (fun _ => ?_)
    refine lv_aload_n hx hb dP_run_36 rfl (lv_at hl 3 rfl) ?_
    refine g_get F hK hP (0) (by decide) rfl rfl iP 2 (by decide) k1_72 rfl dP_run_37 ?_
    refine lv_iload hx hb dP_run_40 (lv_at hl 1 rfl) ?_
    refine lv_aload hx hb dP_run_42 (lv_at hl 2 rfl) ?_
    refine g_get F hK hP (2 + 2 * pi k) (by omega) (en_T _ _ _ _ _ _ _ _ _ _ hp_k) rfl iT 0 (by decide) k1_32 rfl dP_run_44 ?_
    refine lv_iload hx hb dP_run_47 (lv_at hl 0 rfl) ?_
    refine g_iald F hK hP (3 + 2 * pi k) (by omega) 0 (en_B _ _ _ _ _ _ _ _ _ _ hp_k) rfl (vp_in_nI (show f1 + a1 < 1000 by omega) (by omega)) dP_run_49 ?_
    rw [nI_clamp (show f1 + a1 < 2 ^ 31 by omega), hC.2.2.2.2.1 k (f1 + a1) hk (by omega)]
    have hrs : rns a k f1 g a1 < 8 := rns_lt ha hk hg a1 (by omega)
    have hbb := ha.2.1 k (f1 + a1) hk (by omega)
    refine g_V (k := 2) F htw hB hS hP (14) (by decide) rfl rfl (c_nxt hC hrs hbb) k2_179 k2_180 k2_181 k1_4 k2_182 (by decide +kernel) rfl rfl ⟨Nat.le_of_ble_eq_true rfl, Nat.le_of_ble_eq_true rfl⟩ rfl hl.1 rfl (Nat.le_of_ble_eq_true rfl) dP_run_50 ⟨Nat.le_of_ble_eq_true rfl, Nat.le_of_ble_eq_true rfl⟩ (fun en1 H locs he hP hS => ?_)
    obtain rfl := he
    refine lv_istore hx hb dP_run_53 hl (by decide) rfl (fun ls hl => ?_)
    have hl : lv_has ls 8 [(6, .int _), (7, .int _), (5, .ref _), (0, .ref _), (1, .int _), (2, .int _), (3, .int _), (4, .int _)] := hl
    refine lv_iinc (k := 1) hx hb dP_run_55 hl rfl rfl (by decide) rfl (fun ls hl => ?_)
    have hl : lv_has ls 8 [(7, .int _), (6, .int _), (5, .ref _), (0, .ref _), (1, .int _), (2, .int _), (3, .int _), (4, .int _)] := hl
    refine lv_goto (tgt := 30) hx hb dP_run_58 (by decide) ?_
    have hl : lv_has ls 8 [(7, .int (nI (f1 + (a1 + 1)))), (6, .int (nI (rns a k f1 g (a1 + 1)))), (5, .ref (ad (2 + 2 * pi k))), (0, .ref (ad 0)), (1, .int (nI k)), (2, .int (nI f1)), (3, .int (nI t1)), (4, .int (nI g))] := by rw [← Nat.add_assoc, ← nI_1]; exact hl
    exact ih (t - 1) (a1 + 1) _ _ _ (by omega) ⟨by show f1 + (a1 + 1) + (t - 1) = t1; omega, hl, hP, hS⟩
set_option maxHeartbeats 4000000 in
set_option maxRecDepth 100000 in
theorem c_P_accepted (hst : l.stackTraces = false) (G : gGeo ad 25 base) (ha : a_ok a) (hC : RepC pi dr S a) (d f t s0 : Int32) : MetX l yP_accepted (Cond.code yP_accepted bP_accepted 9 (some .int) :: tws) { frames := 8, cells := 1, slots := 6, locals := 123 } (gPc (tw D cI cZ cT cJ base) D cl ad 25 base (en ad cI cZ cT cJ pi dr S M o) [.ref (ad 0), .int d, .int f, .int t, .int s0]) (gQx D cl ad 25 base (en ad cI cZ cT cJ pi dr S M o) ["java/lang/IllegalArgumentException", "java/lang/IndexOutOfBoundsException"] (c_run a d f t s0) (some (.int (nI (acs a (ix d) (ix f) (ix s0) (ix t - ix f))))) (fun e => ∃ (pi1 : Nat → Nat) (dr1 : Nat) (S1 : Nat → Nat → Int32), e = en ad cI cZ cT cJ pi1 dr1 S1 M o ∧ RepC pi1 dr1 S1 (a))) 1 6 (gA base) := by
  refine MetX.ofW (cc := bP_accepted) (maxL := 9) (ret := (some .int)) (by decide) rfl ?_
  intro p e s m args below meth c s₁ B hml hv
  obtain ⟨rfl, htw, hB, hP⟩ := hv
  have hx := B.exec
  have hb := B.bytes
  have hr := B.returns
  have hts0 := atoms_spec (ws := Cond.code yP_accepted bP_accepted 9 (some .int) :: tws) B.pre
  have hts : ∀ w ∈ tws, w.before _ s = true := fun w h => hts0 w (List.mem_cons_of_mem _ h)
  have hown : s.vm.findClass "PairedTexts" = some m.cls := findClass_of_methodNamed B.named
  have hlocks := B.notSynchronized
  have hno := B.noHandlers (hts0 _ List.mem_cons_self)
  have F : CallFix p m c bP_accepted 9 s _ tws "PairedTexts" := ⟨hx, hb, hml, hown, hts⟩
  have hK := htw.1
  have hS : va_S (gA base) s.heap s.heap [] := va_S.rf
  have hl := lv_entry ([.ref (ad 0), .int d, .int f, .int t, .int s0]) (n := 9) (Nat.le_of_ble_eq_true rfl)
  rw [lg_entry_eq]
  generalize (lg_sl ([.ref (ad 0), .int d, .int f, .int t, .int s0]) ++ List.replicate (9 - (lg_sl ([.ref (ad 0), .int d, .int f, .int t, .int s0])).length) Slot.unset).toArray = ls at hl ⊢
  have hl : lv_has ls 9 [(0, .ref (ad 0)), (1, .int d), (2, .int f), (3, .int t), (4, .int s0)] := hl
  have hdr := hC.2.1
  refine lv_aload_n hx hb dP_accepted_0 rfl (lv_at hl 0 rfl) ?_
  refine lv_iload_n hx hb dP_accepted_1 rfl (lv_at hl 1 rfl) ?_
  rcases dk_or d with hd | ⟨k, hk, rfl⟩
  · have hk1 : (c_run a d f t s0) = 1 := by simp [c_run, hd.1]
    exact g_VTh (k := 1) F hlocks hno htw hB hS hP (0) (by decide) rfl rfl (c_P_textOf_th hst hd.2) k1_92 k1_94 k0_0 k1_1 k1_95 (by decide +kernel) rfl rfl ⟨Nat.le_of_ble_eq_true rfl, Nat.le_of_ble_eq_true rfl⟩ rfl hl.1 rfl (Nat.le_of_ble_eq_true rfl) dP_accepted_2 ⟨Nat.le_of_ble_eq_true rfl, Nat.le_of_ble_eq_true rfl⟩ (by rw [hk1]; decide) (by rw [hk1]; rfl)
  refine g_V (k := 1) F htw hB hS hP (0) (by decide) rfl rfl (c_P_textOf hk) k1_92 k1_94 k0_0 k1_1 k1_95 (by decide +kernel) rfl rfl ⟨Nat.le_of_ble_eq_true rfl, Nat.le_of_ble_eq_true rfl⟩ rfl hl.1 rfl (Nat.le_of_ble_eq_true rfl) dP_accepted_2 ⟨Nat.le_of_ble_eq_true rfl, Nat.le_of_ble_eq_true rfl⟩ (fun en1 H locs he hP hS => ?_)
  obtain rfl := he
  have hp_k := (hC.1 k hk).1
  have hn_k := ha.1 k hk
  have h5_k := hC.2.2.2.1 k hk
  refine lv_astore hx hb dP_accepted_5 hl (by decide) rfl (fun ls hl => ?_)
  have hl : lv_has ls 9 [(5, .ref _), (0, .ref _), (1, .int _), (2, .int _), (3, .int _), (4, .int _)] := hl
  refine lv_iload hx hb dP_accepted_7 (lv_at hl 5 rfl) ?_
  rcases sk_or s0 with hd | ⟨g, hg, rfl⟩
  · have hk1 : (c_run a (nI k) f t s0) = 1 := by simp [c_run, dk_nI hk, ix_nI (show k < 2 ^ 31 by omega), hd.1]
    exact g_STh (k := 1) F hlocks hno htw hB hS hP (c_P_requireState_th hst hd.2) k2_157 k2_158 k1_1 k2_159 (by decide +kernel) rfl rfl ⟨Nat.le_of_ble_eq_true rfl, Nat.le_of_ble_eq_true rfl⟩ rfl hl.1 rfl (Nat.le_of_ble_eq_true rfl) dP_accepted_9 ⟨Nat.le_of_ble_eq_true rfl, Nat.le_of_ble_eq_true rfl⟩ (by rw [hk1]; decide) (by rw [hk1]; rfl)
  refine g_S (k := 1) F htw hB hS hP (c_P_requireState (by have := nI_toInt (show g < 2 ^ 31 by omega); omega) (by have := nI_toInt (show g < 2 ^ 31 by omega); omega)) k2_157 k2_158 k1_1 k2_159 (by decide +kernel) rfl rfl ⟨Nat.le_of_ble_eq_true rfl, Nat.le_of_ble_eq_true rfl⟩ rfl hl.1 rfl (Nat.le_of_ble_eq_true rfl) dP_accepted_9 ⟨Nat.le_of_ble_eq_true rfl, Nat.le_of_ble_eq_true rfl⟩ (fun en1 H locs he hP hS => ?_)
  obtain rfl := he
  refine lv_aload hx hb dP_accepted_12 (lv_at hl 0 rfl) ?_
  refine lv_iload_n hx hb dP_accepted_14 rfl (lv_at hl 3 rfl) ?_
  refine lv_iload_n hx hb dP_accepted_15 rfl (lv_at hl 4 rfl) ?_
  refine lv_i2l hx hb dP_accepted_16 rfl ?_
  refine g_V (k := 2) F htw hB hS hP (2 + 2 * pi k) (by omega) (en_T _ _ _ _ _ _ _ _ _ _ hp_k) rfl (c_rng hC ha hk f t) k2_0 k2_1 k2_2 k1_2 k2_3 (by decide +kernel) rfl rfl ⟨Nat.le_of_ble_eq_true rfl, Nat.le_of_ble_eq_true rfl⟩ rfl hl.1 rfl (Nat.le_of_ble_eq_true rfl) dP_accepted_17 ⟨Nat.le_of_ble_eq_true rfl, Nat.le_of_ble_eq_true rfl⟩ (fun en1 H locs he hP hS => ?_)
  obtain rfl := he
  rcases rg_or f t hn_k with hr | ⟨f1, t1, hft, htn, rfl, rfl⟩
  · have hk1 : (c_run a (nI k) f t (nI g)) = 2 := by simp [c_run, dk_nI hk, ix_nI (show k < 2 ^ 31 by omega), sk_nI hg, ix_nI (show g < 2 ^ 31 by omega), hr]
    rw [show (if rg f t (a_n a k) then (1 : Int32) else 0) = 0 from by rw [hr]; rfl]
    exact g_STh (k := 1) F hlocks hno htw hB hS hP (c_P_requireInside_th hst) k1_214 k1_215 k1_1 k1_216 (by decide +kernel) rfl rfl ⟨Nat.le_of_ble_eq_true rfl, Nat.le_of_ble_eq_true rfl⟩ rfl hl.1 rfl (Nat.le_of_ble_eq_true rfl) dP_accepted_20 ⟨Nat.le_of_ble_eq_true rfl, Nat.le_of_ble_eq_true rfl⟩ (by rw [hk1]; decide) (by rw [hk1]; rfl)
  rw [show (if rg (nI f1) (nI t1) (a_n a k) then (1 : Int32) else 0) = 1 from if_pos (rg_nI hft htn hn_k)]
  refine g_S (k := 1) F htw hB hS hP (c_P_requireInside) k1_214 k1_215 k1_1 k1_216 (by decide +kernel) rfl rfl ⟨Nat.le_of_ble_eq_true rfl, Nat.le_of_ble_eq_true rfl⟩ rfl hl.1 rfl (Nat.le_of_ble_eq_true rfl) dP_accepted_20 ⟨Nat.le_of_ble_eq_true rfl, Nat.le_of_ble_eq_true rfl⟩ (fun en1 H locs he hP hS => ?_)
  obtain rfl := he
  have hk1 : (c_run a (nI k) (nI f1) (nI t1) (nI g)) = 0 := by simp [c_run, dk_nI hk, ix_nI (show k < 2 ^ 31 by omega), sk_nI hg, ix_nI (show g < 2 ^ 31 by omega), rg_nI hft htn hn_k, ix_nI (show f1 < 2 ^ 31 by omega), ix_nI (show t1 < 2 ^ 31 by omega)]
  refine lv_iload hx hb dP_accepted_23 (lv_at hl 5 rfl) ?_
  refine lv_istore hx hb dP_accepted_25 hl (by decide) rfl (fun ls hl => ?_)
  have hl : lv_has ls 9 [(6, .int _), (5, .ref _), (0, .ref _), (1, .int _), (2, .int _), (3, .int _), (4, .int _)] := hl
  refine lv_aload_n hx hb dP_accepted_27 rfl (lv_at hl 2 rfl) ?_
  refine g_get F hK hP (0) (by decide) rfl rfl iP 2 (by decide) k1_72 rfl dP_accepted_28 ?_
  refine g_get F hK hP (14) (by decide) rfl rfl iA 1 (by decide) k1_63 rfl dP_accepted_31 ?_
  refine lv_iload hx hb dP_accepted_34 (lv_at hl 0 rfl) ?_
  refine g_zald F hK hP (16) (by decide) 1 rfl rfl (vp_in_nI hg (by omega)) dP_accepted_36 ?_
  rw [nI_clamp (show g < 2 ^ 31 by omega), hC.2.2.2.2.2.2.2.2 g hg]
  have hac := ha.2.2.2.2.2 g hg
  have hacx := hac
  refine lv_if_eq (tgt := 44) hx hb dP_accepted_37 (by decide) (fun hc => ?_) (fun hc => ?_)
  · rw [show (0 : Int32) = nI 0 from rfl, nI_eq (by omega) (by omega)] at hc
    refine lv_iconst (v := 0) hx hb dP_accepted_44 (by decide) ?_
    refine lv_istore hx hb dP_accepted_45 hl (by decide) rfl (fun ls hl => ?_)
    have hl : lv_has ls 9 [(7, .int _), (6, .int _), (5, .ref _), (0, .ref _), (1, .int _), (2, .int _), (3, .int _), (4, .int _)] := hl
    refine lv_iload_n hx hb dP_accepted_47 rfl (lv_at hl 5 rfl) ?_
    refine lv_istore hx hb dP_accepted_48 hl (by decide) rfl (fun ls hl => ?_)
    have hl : lv_has ls 9 [(8, .int _), (7, .int _), (6, .int _), (5, .ref _), (0, .ref _), (1, .int _), (2, .int _), (3, .int _), (4, .int _)] := hl
    have hl : lv_has ls 9 [(8, .int (nI (f1 + 0))), (7, .int (nI (acs a k f1 g 0))), (6, .int (nI (rns a k f1 g 0))), (5, .ref (ad (2 + 2 * pi k))), (0, .ref (ad 0)), (1, .int (nI k)), (2, .int (nI f1)), (3, .int (nI t1)), (4, .int (nI g))] := by rw [show acs a k f1 g 0 = 0 from (show a_c a g = 0 by omega)]; exact hl
    refine W.loop (α := Nat) (fun t a1 ls H locs => f1 + a1 + t = t1 ∧ lv_has ls 9 [(8, .int (nI (f1 + a1))), (7, .int (nI (acs a k f1 g a1))), (6, .int (nI (rns a k f1 g a1))), (5, .ref (ad (2 + 2 * pi k))), (0, .ref (ad 0)), (1, .int (nI k)), (2, .int (nI f1)), (3, .int (nI t1)), (4, .int (nI g))] ∧ va_P D cl (gw ad (en ad cI cZ cT cJ pi dr S M o) 25) H ∧ va_S (gA base) s.heap H locs) ?_ (t := (t1 - f1)) (a := 0) ⟨by show f1 + 0 + (t1 - f1) = t1; omega, hl, hP, hS⟩
    clear hl hP hS
    intro t a1 ls H locs hI ih
    obtain ⟨i0, hl, hP, hS⟩ := hI
    try dsimp only at i0 hl hP
    by_cases ht : t = 0
    · have hu : t1 - f1 = a1 := by omega
      refine lv_iload hx hb dP_accepted_50 (lv_at hl 0 rfl) ?_
      refine lv_iload_n hx hb dP_accepted_52 rfl (lv_at hl 7 rfl) ?_
      refine lv_icmp_ge (tgt := 97) hx hb dP_accepted_53 (by decide) (fun _ => ?_) (fun hc => absurd (by rw [nI_leI (by omega) (by omega)]; omega) hc)
      refine lv_iload hx hb dP_accepted_97 (lv_at hl 1 rfl) ?_
      refine W.widen (k := 1) (n := 6) (by decide) (by decide) ?_
      exact W.toX (W.iret hx hb hr (fun t ht hW => Or.inl ⟨hk1, ⟨by simp [hu, dk_nI hk, ix_nI (show k < 2 ^ 31 by omega), sk_nI hg, ix_nI (show g < 2 ^ 31 by omega), rg_nI hft htn hn_k, ix_nI (show f1 < 2 ^ 31 by omega), ix_nI (show t1 < 2 ^ 31 by omega)], ⟨_, ⟨_, _, _, rfl, hC⟩, by rw [ht]; exact hP⟩, hS.F ht⟩⟩) hS.2.2 dP_accepted_99)
    · refine lv_iload hx hb dP_accepted_50 (lv_at hl 0 rfl) ?_
      refine lv_iload_n hx hb dP_accepted_52 rfl (lv_at hl 7 rfl) ?_
      refine lv_icmp_ge (tgt := 97) hx hb dP_accepted_53 (by decide) (fun hc => absurd hc (by rw [nI_leI (by omega) (by omega)]; omega)) (fun _ => ?_)
      refine lv_aload_n hx hb dP_accepted_56 rfl (lv_at hl 4 rfl) ?_
      refine g_get F hK hP (0) (by decide) rfl rfl iP 2 (by decide) k1_72 rfl dP_accepted_57 ?_
      refine lv_iload hx hb dP_accepted_60 (lv_at hl 2 rfl) ?_
      refine lv_aload hx hb dP_accepted_62 (lv_at hl 3 rfl) ?_
      refine g_get F hK hP (2 + 2 * pi k) (by omega) (en_T _ _ _ _ _ _ _ _ _ _ hp_k) rfl iT 0 (by decide) k1_32 rfl dP_accepted_64 ?_
      refine lv_iload hx hb dP_accepted_67 (lv_at hl 0 rfl) ?_
      refine g_iald F hK hP (3 + 2 * pi k) (by omega) 0 (en_B _ _ _ _ _ _ _ _ _ _ hp_k) rfl (vp_in_nI (show f1 + a1 < 1000 by omega) (by omega)) dP_accepted_69 ?_
      rw [nI_clamp (show f1 + a1 < 2 ^ 31 by omega), hC.2.2.2.2.1 k (f1 + a1) hk (by omega)]
      have hrs : rns a k f1 g a1 < 8 := rns_lt ha hk hg a1 (by omega)
      have hbb := ha.2.1 k (f1 + a1) hk (by omega)
      refine g_V (k := 2) F htw hB hS hP (14) (by decide) rfl rfl (c_nxt hC hrs hbb) k2_179 k2_180 k2_181 k1_4 k2_182 (by decide +kernel) rfl rfl ⟨Nat.le_of_ble_eq_true rfl, Nat.le_of_ble_eq_true rfl⟩ rfl hl.1 rfl (Nat.le_of_ble_eq_true rfl) dP_accepted_70 ⟨Nat.le_of_ble_eq_true rfl, Nat.le_of_ble_eq_true rfl⟩ (fun en1 H locs he hP hS => ?_)
      obtain rfl := he
      refine lv_istore hx hb dP_accepted_73 hl (by decide) rfl (fun ls hl => ?_)
      have hl : lv_has ls 9 [(6, .int _), (8, .int _), (7, .int _), (5, .ref _), (0, .ref _), (1, .int _), (2, .int _), (3, .int _), (4, .int _)] := hl
      refine lv_aload_n hx hb dP_accepted_75 rfl (lv_at hl 4 rfl) ?_
      refine g_get F hK hP (0) (by decide) rfl rfl iP 2 (by decide) k1_72 rfl dP_accepted_76 ?_
      refine g_get F hK hP (14) (by decide) rfl rfl iA 1 (by decide) k1_63 rfl dP_accepted_79 ?_
      refine lv_iload hx hb dP_accepted_82 (lv_at hl 0 rfl) ?_
      have hr2 : rns a k f1 g (a1 + 1) < 8 := rns_lt ha hk hg (a1 + 1) (by omega)
      rw [show a_x a (256 * rns a k f1 g a1 + a_b a k (f1 + a1)) = rns a k f1 g (a1 + 1) from rfl]
      refine g_zald F hK hP (16) (by decide) 1 rfl rfl (vp_in_nI hr2 (by omega)) dP_accepted_84 ?_
      rw [nI_clamp (show rns a k f1 g (a1 + 1) < 2 ^ 31 by omega), hC.2.2.2.2.2.2.2.2 _ hr2]
      have ha2 := ha.2.2.2.2.2 _ hr2
      refine lv_if_eq (tgt := 91) hx hb dP_accepted_85 (by decide) (fun hz => ?_) (fun hz => ?_)
      · rw [show (0 : Int32) = nI 0 from rfl, nI_eq (by omega) (by omega)] at hz
        refine lv_iinc (k := 1) hx hb dP_accepted_91 hl rfl rfl (by decide) rfl (fun ls hl => ?_)
        have hl : lv_has ls 9 [(8, .int _), (6, .int _), (7, .int _), (5, .ref _), (0, .ref _), (1, .int _), (2, .int _), (3, .int _), (4, .int _)] := hl
        refine lv_goto (tgt := 50) hx hb dP_accepted_94 (by decide) ?_
        have hl : lv_has ls 9 [(8, .int (nI (f1 + (a1 + 1)))), (7, .int (nI (acs a k f1 g (a1 + 1)))), (6, .int (nI (rns a k f1 g (a1 + 1)))), (5, .ref (ad (2 + 2 * pi k))), (0, .ref (ad 0)), (1, .int (nI k)), (2, .int (nI f1)), (3, .int (nI t1)), (4, .int (nI g))] := (lv_sub hl [0, 2, 1, 3, 4, 5, 6, 7, 8] rfl : lv_has ls 9 _) |> fun hl => by rw [show acs a k f1 g (a1 + 1) = acs a k f1 g a1 from (show acs a k f1 g a1 + a_c a (rns a k f1 g (a1 + 1)) = _ by omega), ← Nat.add_assoc, ← nI_1]; exact hl
        exact ih (t - 1) (a1 + 1) _ _ _ (by omega) ⟨by show f1 + (a1 + 1) + (t - 1) = t1; omega, hl, hP, hS⟩
      · rw [show (0 : Int32) = nI 0 from rfl, nI_eq (by omega) (by omega)] at hz
        refine lv_iinc (k := 2) hx hb dP_accepted_88 hl rfl rfl (by decide) rfl (fun ls hl => ?_)
        have hl : lv_has ls 9 [(7, .int _), (6, .int _), (8, .int _), (5, .ref _), (0, .ref _), (1, .int _), (2, .int _), (3, .int _), (4, .int _)] := hl
        refine lv_iinc (k := 2) hx hb dP_accepted_91 hl rfl rfl (by decide) rfl (fun ls hl => ?_)
        have hl : lv_has ls 9 [(8, .int _), (7, .int _), (6, .int _), (5, .ref _), (0, .ref _), (1, .int _), (2, .int _), (3, .int _), (4, .int _)] := hl
        refine lv_goto (tgt := 50) hx hb dP_accepted_94 (by decide) ?_
        have hl : lv_has ls 9 [(8, .int (nI (f1 + (a1 + 1)))), (7, .int (nI (acs a k f1 g (a1 + 1)))), (6, .int (nI (rns a k f1 g (a1 + 1)))), (5, .ref (ad (2 + 2 * pi k))), (0, .ref (ad 0)), (1, .int (nI k)), (2, .int (nI f1)), (3, .int (nI t1)), (4, .int (nI g))] := by rw [show acs a k f1 g (a1 + 1) = acs a k f1 g a1 + 1 from (show acs a k f1 g a1 + a_c a (rns a k f1 g (a1 + 1)) = _ by omega), ← Nat.add_assoc, ← nI_1, ← nI_1]; exact hl
        exact ih (t - 1) (a1 + 1) _ _ _ (by omega) ⟨by show f1 + (a1 + 1) + (t - 1) = t1; omega, hl, hP, hS⟩
  · rw [show (0 : Int32) = nI 0 from rfl, nI_eq (by omega) (by omega)] at hc
    refine lv_iconst (v := 1) hx hb dP_accepted_40 (by decide) ?_
    refine lv_goto (tgt := 45) hx hb dP_accepted_41 (by decide) ?_
    refine lv_istore hx hb dP_accepted_45 hl (by decide) rfl (fun ls hl => ?_)
    have hl : lv_has ls 9 [(7, .int _), (6, .int _), (5, .ref _), (0, .ref _), (1, .int _), (2, .int _), (3, .int _), (4, .int _)] := hl
    refine lv_iload_n hx hb dP_accepted_47 rfl (lv_at hl 5 rfl) ?_
    refine lv_istore hx hb dP_accepted_48 hl (by decide) rfl (fun ls hl => ?_)
    have hl : lv_has ls 9 [(8, .int _), (7, .int _), (6, .int _), (5, .ref _), (0, .ref _), (1, .int _), (2, .int _), (3, .int _), (4, .int _)] := hl
    have hl : lv_has ls 9 [(8, .int (nI (f1 + 0))), (7, .int (nI (acs a k f1 g 0))), (6, .int (nI (rns a k f1 g 0))), (5, .ref (ad (2 + 2 * pi k))), (0, .ref (ad 0)), (1, .int (nI k)), (2, .int (nI f1)), (3, .int (nI t1)), (4, .int (nI g))] := by rw [show acs a k f1 g 0 = 1 from (show a_c a g = 1 by omega)]; exact hl
    refine W.loop (α := Nat) (fun t a1 ls H locs => f1 + a1 + t = t1 ∧ lv_has ls 9 [(8, .int (nI (f1 + a1))), (7, .int (nI (acs a k f1 g a1))), (6, .int (nI (rns a k f1 g a1))), (5, .ref (ad (2 + 2 * pi k))), (0, .ref (ad 0)), (1, .int (nI k)), (2, .int (nI f1)), (3, .int (nI t1)), (4, .int (nI g))] ∧ va_P D cl (gw ad (en ad cI cZ cT cJ pi dr S M o) 25) H ∧ va_S (gA base) s.heap H locs) ?_ (t := (t1 - f1)) (a := 0) ⟨by show f1 + 0 + (t1 - f1) = t1; omega, hl, hP, hS⟩
    clear hl hP hS
    intro t a1 ls H locs hI ih
    obtain ⟨i0, hl, hP, hS⟩ := hI
    try dsimp only at i0 hl hP
    by_cases ht : t = 0
    · have hu : t1 - f1 = a1 := by omega
      refine lv_iload hx hb dP_accepted_50 (lv_at hl 0 rfl) ?_
      refine lv_iload_n hx hb dP_accepted_52 rfl (lv_at hl 7 rfl) ?_
      refine lv_icmp_ge (tgt := 97) hx hb dP_accepted_53 (by decide) (fun _ => ?_) (fun hc => absurd (by rw [nI_leI (by omega) (by omega)]; omega) hc)
      refine lv_iload hx hb dP_accepted_97 (lv_at hl 1 rfl) ?_
      refine W.widen (k := 1) (n := 6) (by decide) (by decide) ?_
      exact W.toX (W.iret hx hb hr (fun t ht hW => Or.inl ⟨hk1, ⟨by simp [hu, dk_nI hk, ix_nI (show k < 2 ^ 31 by omega), sk_nI hg, ix_nI (show g < 2 ^ 31 by omega), rg_nI hft htn hn_k, ix_nI (show f1 < 2 ^ 31 by omega), ix_nI (show t1 < 2 ^ 31 by omega)], ⟨_, ⟨_, _, _, rfl, hC⟩, by rw [ht]; exact hP⟩, hS.F ht⟩⟩) hS.2.2 dP_accepted_99)
    · refine lv_iload hx hb dP_accepted_50 (lv_at hl 0 rfl) ?_
      refine lv_iload_n hx hb dP_accepted_52 rfl (lv_at hl 7 rfl) ?_
      refine lv_icmp_ge (tgt := 97) hx hb dP_accepted_53 (by decide) (fun hc => absurd hc (by rw [nI_leI (by omega) (by omega)]; omega)) (fun _ => ?_)
      refine lv_aload_n hx hb dP_accepted_56 rfl (lv_at hl 4 rfl) ?_
      refine g_get F hK hP (0) (by decide) rfl rfl iP 2 (by decide) k1_72 rfl dP_accepted_57 ?_
      refine lv_iload hx hb dP_accepted_60 (lv_at hl 2 rfl) ?_
      refine lv_aload hx hb dP_accepted_62 (lv_at hl 3 rfl) ?_
      refine g_get F hK hP (2 + 2 * pi k) (by omega) (en_T _ _ _ _ _ _ _ _ _ _ hp_k) rfl iT 0 (by decide) k1_32 rfl dP_accepted_64 ?_
      refine lv_iload hx hb dP_accepted_67 (lv_at hl 0 rfl) ?_
      refine g_iald F hK hP (3 + 2 * pi k) (by omega) 0 (en_B _ _ _ _ _ _ _ _ _ _ hp_k) rfl (vp_in_nI (show f1 + a1 < 1000 by omega) (by omega)) dP_accepted_69 ?_
      rw [nI_clamp (show f1 + a1 < 2 ^ 31 by omega), hC.2.2.2.2.1 k (f1 + a1) hk (by omega)]
      have hrs : rns a k f1 g a1 < 8 := rns_lt ha hk hg a1 (by omega)
      have hbb := ha.2.1 k (f1 + a1) hk (by omega)
      refine g_V (k := 2) F htw hB hS hP (14) (by decide) rfl rfl (c_nxt hC hrs hbb) k2_179 k2_180 k2_181 k1_4 k2_182 (by decide +kernel) rfl rfl ⟨Nat.le_of_ble_eq_true rfl, Nat.le_of_ble_eq_true rfl⟩ rfl hl.1 rfl (Nat.le_of_ble_eq_true rfl) dP_accepted_70 ⟨Nat.le_of_ble_eq_true rfl, Nat.le_of_ble_eq_true rfl⟩ (fun en1 H locs he hP hS => ?_)
      obtain rfl := he
      refine lv_istore hx hb dP_accepted_73 hl (by decide) rfl (fun ls hl => ?_)
      have hl : lv_has ls 9 [(6, .int _), (8, .int _), (7, .int _), (5, .ref _), (0, .ref _), (1, .int _), (2, .int _), (3, .int _), (4, .int _)] := hl
      refine lv_aload_n hx hb dP_accepted_75 rfl (lv_at hl 4 rfl) ?_
      refine g_get F hK hP (0) (by decide) rfl rfl iP 2 (by decide) k1_72 rfl dP_accepted_76 ?_
      refine g_get F hK hP (14) (by decide) rfl rfl iA 1 (by decide) k1_63 rfl dP_accepted_79 ?_
      refine lv_iload hx hb dP_accepted_82 (lv_at hl 0 rfl) ?_
      have hr2 : rns a k f1 g (a1 + 1) < 8 := rns_lt ha hk hg (a1 + 1) (by omega)
      rw [show a_x a (256 * rns a k f1 g a1 + a_b a k (f1 + a1)) = rns a k f1 g (a1 + 1) from rfl]
      refine g_zald F hK hP (16) (by decide) 1 rfl rfl (vp_in_nI hr2 (by omega)) dP_accepted_84 ?_
      rw [nI_clamp (show rns a k f1 g (a1 + 1) < 2 ^ 31 by omega), hC.2.2.2.2.2.2.2.2 _ hr2]
      have ha2 := ha.2.2.2.2.2 _ hr2
      refine lv_if_eq (tgt := 91) hx hb dP_accepted_85 (by decide) (fun hz => ?_) (fun hz => ?_)
      · rw [show (0 : Int32) = nI 0 from rfl, nI_eq (by omega) (by omega)] at hz
        refine lv_iinc (k := 1) hx hb dP_accepted_91 hl rfl rfl (by decide) rfl (fun ls hl => ?_)
        have hl : lv_has ls 9 [(8, .int _), (6, .int _), (7, .int _), (5, .ref _), (0, .ref _), (1, .int _), (2, .int _), (3, .int _), (4, .int _)] := hl
        refine lv_goto (tgt := 50) hx hb dP_accepted_94 (by decide) ?_
        have hl : lv_has ls 9 [(8, .int (nI (f1 + (a1 + 1)))), (7, .int (nI (acs a k f1 g (a1 + 1)))), (6, .int (nI (rns a k f1 g (a1 + 1)))), (5, .ref (ad (2 + 2 * pi k))), (0, .ref (ad 0)), (1, .int (nI k)), (2, .int (nI f1)), (3, .int (nI t1)), (4, .int (nI g))] := (lv_sub hl [0, 2, 1, 3, 4, 5, 6, 7, 8] rfl : lv_has ls 9 _) |> fun hl => by rw [show acs a k f1 g (a1 + 1) = acs a k f1 g a1 from (show acs a k f1 g a1 + a_c a (rns a k f1 g (a1 + 1)) = _ by omega), ← Nat.add_assoc, ← nI_1]; exact hl
        exact ih (t - 1) (a1 + 1) _ _ _ (by omega) ⟨by show f1 + (a1 + 1) + (t - 1) = t1; omega, hl, hP, hS⟩
      · rw [show (0 : Int32) = nI 0 from rfl, nI_eq (by omega) (by omega)] at hz
        refine lv_iinc (k := 2) hx hb dP_accepted_88 hl rfl rfl (by decide) rfl (fun ls hl => ?_)
        have hl : lv_has ls 9 [(7, .int _), (6, .int _), (8, .int _), (5, .ref _), (0, .ref _), (1, .int _), (2, .int _), (3, .int _), (4, .int _)] := hl
        refine lv_iinc (k := 2) hx hb dP_accepted_91 hl rfl rfl (by decide) rfl (fun ls hl => ?_)
        have hl : lv_has ls 9 [(8, .int _), (7, .int _), (6, .int _), (5, .ref _), (0, .ref _), (1, .int _), (2, .int _), (3, .int _), (4, .int _)] := hl
        refine lv_goto (tgt := 50) hx hb dP_accepted_94 (by decide) ?_
        have hl : lv_has ls 9 [(8, .int (nI (f1 + (a1 + 1)))), (7, .int (nI (acs a k f1 g (a1 + 1)))), (6, .int (nI (rns a k f1 g (a1 + 1)))), (5, .ref (ad (2 + 2 * pi k))), (0, .ref (ad 0)), (1, .int (nI k)), (2, .int (nI f1)), (3, .int (nI t1)), (4, .int (nI g))] := by rw [show acs a k f1 g (a1 + 1) = acs a k f1 g a1 + 1 from (show acs a k f1 g a1 + a_c a (rns a k f1 g (a1 + 1)) = _ by omega), ← Nat.add_assoc, ← nI_1, ← nI_1]; exact hl
        exact ih (t - 1) (a1 + 1) _ _ _ (by omega) ⟨by show f1 + (a1 + 1) + (t - 1) = t1; omega, hl, hP, hS⟩
end M10
end
section
/-! The reference's small methods. -/
theorem wb_sar {n k : Nat} (hn : n < 2 ^ 63) (hk : k < 64) : lN n >>> ((nI k).toInt64 &&& 63) = lN (n / 2 ^ k) := by
  rw [wb_c k hk]
  apply wb_inj
  have hm : (BitVec.ofNat 64 n).msb = false := by
    rw [BitVec.msb_eq_decide, BitVec.toNat_ofNat, Nat.mod_eq_of_lt (by omega)]
    simp only [decide_eq_false_iff_not]
    omega
  rw [Int64.toBitVec_shiftRight, wb_tb, wb_tb, wb_tb, wb_sm _ hk, BitVec.sshiftRight_eq', BitVec.toNat_ofNat, Nat.mod_eq_of_lt (show k < 2 ^ 64 by omega), BitVec.sshiftRight_eq_of_msb_false hm]
  apply BitVec.eq_of_toNat_eq
  have h1 : n / 2 ^ k ≤ n := Nat.div_le_self _ _
  rw [BitVec.toNat_ushiftRight, BitVec.toNat_ofNat, BitVec.toNat_ofNat, Nat.mod_eq_of_lt (show n < 2 ^ 64 by omega), Nat.mod_eq_of_lt (show n / 2 ^ k < 2 ^ 64 by omega), Nat.shiftRight_eq_div_pow]
theorem RepM.off {M M' : Nat → Nat → Int32} {a : Ab} (h : RepM M a) (h1 : ∀ r, r ≠ 0 → r ≠ 3 → M' r = M r) (h2 : M' 0 2 = M 0 2) : RepM M' a := by
  obtain ⟨c4, c5, c6, c7, c8, c9⟩ := h
  refine ⟨fun d hd => ?_, fun d i hd hi => ?_, ?_, fun k hk => ?_, fun q hq => ?_, fun q hq => ?_⟩
  · rw [h1 2 (by decide) (by decide)]; exact c4 d hd
  · rw [h1 1 (by decide) (by decide)]; exact c5 d i hd hi
  · rw [h2]; exact c6
  · rw [h1 4 (by decide) (by decide)]; exact c7 k hk
  · rw [h1 5 (by decide) (by decide)]; exact c8 q hq
  · rw [h1 6 (by decide) (by decide)]; exact c9 q hq
theorem RepM.num {M : Nat → Nat → Int32} {a : Ab} {j : Nat} {v : Int32} (h : RepM M a) (hj : 2 ≠ j) : RepM (sr M 0 (upd (M 0) j v)) a :=
  h.off (fun r h1 _ => sr_n h1) (by rw [sr_s]; exact pk_un hj)
theorem RepDM.to {M : Nat → Nat → Int32} {k k' : Nat} {g g' : Nat → Nat} (h : RepDM M k g) (hk : k = k') (hg : ∀ i, i < k → g i = g' i) : RepDM M k' g' := by
  subst hk
  exact ⟨h.1, fun i hi => by rw [← hg i hi]; exact h.2 i hi⟩
/-- a byte laid behind the draft -/
theorem RepDM.one {M : Nat → Nat → Int32} {a : Ab} {k b : Nat} {g : Nat → Nat} (h : RepM M a) (hd : RepDM M k g) :
    RepM (sr (sr M 3 (upd (M 3) k (nI b))) 0 (upd (M 0) 1 (nI (k + 1)))) a ∧ RepDM (sr (sr M 3 (upd (M 3) k (nI b))) 0 (upd (M 0) 1 (nI (k + 1)))) (k + 1) (fun i => if i = k then b else g i) := by
  refine ⟨h.off (fun r h1 h2 => by rw [sr_n h1, sr_n h2]) (by rw [sr_s]; exact pk_un (by decide)), ?_, fun i hi => ?_⟩
  · rw [sr_s]; exact pk_us
  · rw [sr_n (by decide), sr_s]
    show upd (M 3) k (nI b) i = nI (if i = k then b else g i)
    unfold upd
    by_cases e : i = k
    · rw [if_pos e, if_pos e]
    · rw [if_neg e, if_neg e]; exact hd.2 i (by omega)
/-- u places from p on become g -/
def mfil (f : Nat → Int32) (p : Nat) (g : Nat → Nat) (u : Nat) : Nat → Int32 := fun q => if p ≤ q ∧ q < p + u then nI (g (q - p)) else f q
theorem mfil_0 {f : Nat → Int32} {p : Nat} {g : Nat → Nat} : mfil f p g 0 = f := by
  funext q
  unfold mfil
  rw [if_neg (by omega)]
theorem mfil_s {f : Nat → Int32} {p u : Nat} {g : Nat → Nat} : upd (mfil f p g u) (p + u) (nI (g u)) = mfil f p g (u + 1) := by
  funext q
  unfold mfil upd
  by_cases e : q = p + u
  · rw [if_pos e, if_pos (by omega)]; congr 2; omega
  · rw [if_neg e]
    show (if p ≤ q ∧ q < p + u then nI (g (q - p)) else f q) = _
    by_cases e2 : p ≤ q ∧ q < p + u
    · rw [if_pos e2, if_pos (by omega)]
    · rw [if_neg e2, if_neg (by omega)]
theorem RepM.become {M : Nat → Nat → Int32} {a : Ab} {d k : Nat} {g : Nat → Nat} (h : RepM M a) (ha : a_ok a) (hd : d < 4) (hk : k ≤ 1000) : RepM (sr (sr M 1 (mfil (M 1) (1000 * d) g k)) 2 (upd (M 2) d (nI k))) (a_set a d k g) := by
  obtain ⟨c4, c5, c6, c7, c8, c9⟩ := h
  refine ⟨fun d2 hd2 => ?_, fun d2 i hd2 hi => ?_, ?_, fun k hk => ?_, fun q hq => ?_, fun q hq => ?_⟩
  · rw [sr_s, a_set_n]
    unfold upd
    by_cases e : d2 = d
    · rw [if_pos e, if_pos e]
    · rw [if_neg e, if_neg e]; exact c4 d2 hd2
  · rw [sr_n (by decide), sr_s, a_set_b]
    rw [a_set_n] at hi
    unfold mfil
    by_cases e : d2 = d
    · rw [if_pos e] at hi
      rw [if_pos e, if_pos (by omega)]; congr 2; omega
    · rw [if_neg e] at hi
      have h1 := ha.1 d2 hd2
      rw [if_neg e, if_neg (by omega)]; exact c5 d2 i hd2 hi
  · rw [sr_n (by decide), sr_n (by decide)]; exact c6
  · rw [sr_n (by decide), sr_n (by decide)]; exact c7 k hk
  · rw [sr_n (by decide), sr_n (by decide)]; exact c8 q hq
  · rw [sr_n (by decide), sr_n (by decide)]; exact c9 q hq
theorem cat_one (g f : Nat → Nat) (k u i : Nat) : (if i = k + u then f u else cat g k f i) = cat g k f i := by
  by_cases e : i = k + u
  · rw [if_pos e, e]; unfold cat; rw [if_neg (by omega)]; congr 1; omega
  · rw [if_neg e]
theorem k_at (d i : Nat) : (1000 : Int32) * nI d + nI i = nI (1000 * d + i) := by rw [show (1000 : Int32) = nI 1000 from rfl, pk_mul, nI_add]
section N1
variable {l : Launch} {D : va_G} {cI cZ cT cJ : ClassId} {base : Nat} {ad : Nat → Nat} {pi : Nat → Nat} {dr : Nat} {S M : Nat → Nat → Int32} {o : Nat → Int64}
set_option maxHeartbeats 4000000 in
set_option maxRecDepth 100000 in
theorem c_M_thrown  : Met l yM_thrown (Cond.code yM_thrown bM_thrown 1 (some .int) :: tws) { frames := 0, cells := 0, slots := 0, locals := 0 } (gPc (tw D cI cZ cT cJ base) D cl ad 25 base (en ad cI cZ cT cJ pi dr S M o) [.ref (ad 17)]) (gQc D cl ad 25 base (some (.int (M 0 0))) (fun e => e = en ad cI cZ cT cJ pi dr S M o)) 0 0 (gA base) := by
  refine Met.ofW (cc := bM_thrown) (maxL := 1) (ret := (some .int)) (by decide) rfl ?_
  intro p e s m args below meth c s₁ B hml hv
  obtain ⟨rfl, htw, hB, hP⟩ := hv
  have hx := B.exec
  have hb := B.bytes
  have hr := B.returns
  have hts0 := atoms_spec (ws := Cond.code yM_thrown bM_thrown 1 (some .int) :: tws) B.pre
  have hts : ∀ w ∈ tws, w.before _ s = true := fun w h => hts0 w (List.mem_cons_of_mem _ h)
  have hown : s.vm.findClass "PairedTextsModel" = some m.cls := findClass_of_methodNamed B.named
  have hlocks := B.notSynchronized
  have hno := B.noHandlers (hts0 _ List.mem_cons_self)
  have F : CallFix p m c bM_thrown 1 s _ tws "PairedTextsModel" := ⟨hx, hb, hml, hown, hts⟩
  have hK := htw.1
  have hS : va_S (gA base) s.heap s.heap [] := va_S.rf
  have hl := lv_entry ([.ref (ad 17)]) (n := 1) (Nat.le_of_ble_eq_true rfl)
  rw [lg_entry_eq]
  generalize (lg_sl ([.ref (ad 17)]) ++ List.replicate (1 - (lg_sl ([.ref (ad 17)])).length) Slot.unset).toArray = ls at hl ⊢
  have hl : lv_has ls 1 [(0, .ref (ad 17))] := hl
  refine lv_aload_n hx hb dM_thrown_0 rfl (lv_at hl 0 rfl) ?_
  refine g_get F hK hP (17) (by decide) rfl rfl iM 0 (by decide) k2_196 rfl dM_thrown_1 ?_
  exact W.iret hx hb hr (fun t ht hW => ⟨rfl, ⟨_, rfl, by rw [ht]; exact hP⟩, hS.F ht⟩) hS.2.2 dM_thrown_4
set_option maxHeartbeats 4000000 in
set_option maxRecDepth 100000 in
theorem c_M_isDocument {e0 : Nat → va_E} (d : Int32) : Met l yM_isDocument (Cond.code yM_isDocument bM_isDocument 1 (some .boolean) :: tws) { frames := 0, cells := 0, slots := 0, locals := 0 } (gPc (tw D cI cZ cT cJ base) D cl ad 25 base (e0) [.int d]) (gQc D cl ad 25 base (some (.int (if dk d then 1 else 0))) (fun e => e = e0)) 0 0 (gA base) := by
  refine Met.ofW (cc := bM_isDocument) (maxL := 1) (ret := (some .boolean)) (by decide) rfl ?_
  intro p e s m args below meth c s₁ B hml hv
  obtain ⟨rfl, htw, hB, hP⟩ := hv
  have hx := B.exec
  have hb := B.bytes
  have hr := B.returns
  have hts0 := atoms_spec (ws := Cond.code yM_isDocument bM_isDocument 1 (some .boolean) :: tws) B.pre
  have hts : ∀ w ∈ tws, w.before _ s = true := fun w h => hts0 w (List.mem_cons_of_mem _ h)
  have hown : s.vm.findClass "PairedTextsModel" = some m.cls := findClass_of_methodNamed B.named
  have hlocks := B.notSynchronized
  have hno := B.noHandlers (hts0 _ List.mem_cons_self)
  have F : CallFix p m c bM_isDocument 1 s _ tws "PairedTextsModel" := ⟨hx, hb, hml, hown, hts⟩
  have hK := htw.1
  have hS : va_S (gA base) s.heap s.heap [] := va_S.rf
  have hl := lv_entry ([.int d]) (n := 1) (Nat.le_of_ble_eq_true rfl)
  rw [lg_entry_eq]
  generalize (lg_sl ([.int d]) ++ List.replicate (1 - (lg_sl ([.int d])).length) Slot.unset).toArray = ls at hl ⊢
  have hl : lv_has ls 1 [(0, .int d)] := hl
  have z0 : (0 : Int32).toInt = 0 := rfl
  have z3 : (3 : Int32).toInt = 3 := rfl
  refine lv_iload_n hx hb dM_isDocument_0 rfl (lv_at hl 0 rfl) ?_
  refine lv_if_lt (tgt := 13) hx hb dM_isDocument_1 (by decide) (fun hc => ?_) (fun hc => ?_)
  · simp only [Int32.lt_iff_toInt_lt, Int32.le_iff_toInt_le] at hc
    refine lv_iconst (v := 0) hx hb dM_isDocument_13 (by decide) ?_
    have hv : (if dk d then (1 : Int32) else 0) = 0 := if_neg (by unfold dk; simp only [decide_eq_true_eq]; omega)
    exact W.zret hx hb hr rfl (fun t ht hW => ⟨by rw [hv], ⟨_, rfl, by rw [ht]; exact hP⟩, hS.F ht⟩) hS.2.2 dM_isDocument_14
  · simp only [Int32.lt_iff_toInt_lt, Int32.le_iff_toInt_le] at hc
    refine lv_iload_n hx hb dM_isDocument_4 rfl (lv_at hl 0 rfl) ?_
    refine lv_iconst (v := 3) hx hb dM_isDocument_5 (by decide) ?_
    refine lv_icmp_gt (tgt := 13) hx hb dM_isDocument_6 (by decide) (fun hd => ?_) (fun hd => ?_)
    · simp only [Int32.lt_iff_toInt_lt, Int32.le_iff_toInt_le] at hd
      refine lv_iconst (v := 0) hx hb dM_isDocument_13 (by decide) ?_
      have hv : (if dk d then (1 : Int32) else 0) = 0 := if_neg (by unfold dk; simp only [decide_eq_true_eq]; omega)
      exact W.zret hx hb hr rfl (fun t ht hW => ⟨by rw [hv], ⟨_, rfl, by rw [ht]; exact hP⟩, hS.F ht⟩) hS.2.2 dM_isDocument_14
    · simp only [Int32.lt_iff_toInt_lt, Int32.le_iff_toInt_le] at hd
      refine lv_iconst (v := 1) hx hb dM_isDocument_9 (by decide) ?_
      refine lv_goto (tgt := 14) hx hb dM_isDocument_10 (by decide) ?_
      have hv : (if dk d then (1 : Int32) else 0) = 1 := if_pos (by unfold dk; simp only [decide_eq_true_eq]; omega)
      exact W.zret hx hb hr rfl (fun t ht hW => ⟨by rw [hv], ⟨_, rfl, by rw [ht]; exact hP⟩, hS.F ht⟩) hS.2.2 dM_isDocument_14
set_option maxHeartbeats 4000000 in
set_option maxRecDepth 100000 in
theorem c_M_isRange {k n : Nat} (hk : k < 4) (hn : n ≤ 1000) (h2 : M 2 k = nI n) (f t : Int32) : Met l yM_isRange (Cond.code yM_isRange bM_isRange 4 (some .boolean) :: tws) { frames := 0, cells := 0, slots := 0, locals := 0 } (gPc (tw D cI cZ cT cJ base) D cl ad 25 base (en ad cI cZ cT cJ pi dr S M o) [.ref (ad 17), .int (nI k), .int f, .int t]) (gQc D cl ad 25 base (some (.int (if rg f t n then 1 else 0))) (fun e => e = en ad cI cZ cT cJ pi dr S M o)) 0 0 (gA base) := by
  refine Met.ofW (cc := bM_isRange) (maxL := 4) (ret := (some .boolean)) (by decide) rfl ?_
  intro p e s m args below meth c s₁ B hml hv
  obtain ⟨rfl, htw, hB, hP⟩ := hv
  have hx := B.exec
  have hb := B.bytes
  have hr := B.returns
  have hts0 := atoms_spec (ws := Cond.code yM_isRange bM_isRange 4 (some .boolean) :: tws) B.pre
  have hts : ∀ w ∈ tws, w.before _ s = true := fun w h => hts0 w (List.mem_cons_of_mem _ h)
  have hown : s.vm.findClass "PairedTextsModel" = some m.cls := findClass_of_methodNamed B.named
  have hlocks := B.notSynchronized
  have hno := B.noHandlers (hts0 _ List.mem_cons_self)
  have F : CallFix p m c bM_isRange 4 s _ tws "PairedTextsModel" := ⟨hx, hb, hml, hown, hts⟩
  have hK := htw.1
  have hS : va_S (gA base) s.heap s.heap [] := va_S.rf
  have hl := lv_entry ([.ref (ad 17), .int (nI k), .int f, .int t]) (n := 4) (Nat.le_of_ble_eq_true rfl)
  rw [lg_entry_eq]
  generalize (lg_sl ([.ref (ad 17), .int (nI k), .int f, .int t]) ++ List.replicate (4 - (lg_sl ([.ref (ad 17), .int (nI k), .int f, .int t])).length) Slot.unset).toArray = ls at hl ⊢
  have hl : lv_has ls 4 [(0, .ref (ad 17)), (1, .int (nI k)), (2, .int f), (3, .int t)] := hl
  have z0 : (0 : Int32).toInt = 0 := rfl
  have zn := nI_toInt (show n < 2 ^ 31 by omega)
  refine lv_iload_n hx hb dM_isRange_0 rfl (lv_at hl 2 rfl) ?_
  refine lv_if_lt (tgt := 23) hx hb dM_isRange_1 (by decide) (fun hc => ?_) (fun hc => ?_)
  · simp only [Int32.lt_iff_toInt_lt, Int32.le_iff_toInt_le] at hc
    refine lv_iconst (v := 0) hx hb dM_isRange_23 (by decide) ?_
    have hv : (if rg f t n then (1 : Int32) else 0) = 0 := if_neg (by unfold rg; simp only [decide_eq_true_eq]; omega)
    exact W.zret hx hb hr rfl (fun t ht hW => ⟨by rw [hv], ⟨_, rfl, by rw [ht]; exact hP⟩, hS.F ht⟩) hS.2.2 dM_isRange_24
  · simp only [Int32.lt_iff_toInt_lt, Int32.le_iff_toInt_le] at hc
    refine lv_iload_n hx hb dM_isRange_4 rfl (lv_at hl 2 rfl) ?_
    refine lv_iload_n hx hb dM_isRange_5 rfl (lv_at hl 3 rfl) ?_
    refine lv_icmp_gt (tgt := 23) hx hb dM_isRange_6 (by decide) (fun hd => ?_) (fun hd => ?_)
    · simp only [Int32.lt_iff_toInt_lt, Int32.le_iff_toInt_le] at hd
      refine lv_iconst (v := 0) hx hb dM_isRange_23 (by decide) ?_
      have hv : (if rg f t n then (1 : Int32) else 0) = 0 := if_neg (by unfold rg; simp only [decide_eq_true_eq]; omega)
      exact W.zret hx hb hr rfl (fun t ht hW => ⟨by rw [hv], ⟨_, rfl, by rw [ht]; exact hP⟩, hS.F ht⟩) hS.2.2 dM_isRange_24
    · simp only [Int32.lt_iff_toInt_lt, Int32.le_iff_toInt_le] at hd
      refine lv_iload_n hx hb dM_isRange_9 rfl (lv_at hl 3 rfl) ?_
      refine lv_aload_n hx hb dM_isRange_10 rfl (lv_at hl 0 rfl) ?_
      refine g_get F hK hP (17) (by decide) rfl rfl iM 2 (by decide) k2_198 rfl dM_isRange_11 ?_
      refine lv_iload_n hx hb dM_isRange_14 rfl (lv_at hl 1 rfl) ?_
      refine g_iald F hK hP (19) (by decide) 0 rfl rfl (vp_in_nI hk (by omega)) dM_isRange_15 ?_
      rw [nI_clamp (show k < 2 ^ 31 by omega), h2]
      refine lv_icmp_gt (tgt := 23) hx hb dM_isRange_16 (by decide) (fun he => ?_) (fun he => ?_)
      · simp only [Int32.lt_iff_toInt_lt, Int32.le_iff_toInt_le] at he
        refine lv_iconst (v := 0) hx hb dM_isRange_23 (by decide) ?_
        have hv : (if rg f t n then (1 : Int32) else 0) = 0 := if_neg (by unfold rg; simp only [decide_eq_true_eq]; omega)
        exact W.zret hx hb hr rfl (fun t ht hW => ⟨by rw [hv], ⟨_, rfl, by rw [ht]; exact hP⟩, hS.F ht⟩) hS.2.2 dM_isRange_24
      · simp only [Int32.lt_iff_toInt_lt, Int32.le_iff_toInt_le] at he
        refine lv_iconst (v := 1) hx hb dM_isRange_19 (by decide) ?_
        refine lv_goto (tgt := 24) hx hb dM_isRange_20 (by decide) ?_
        have hv : (if rg f t n then (1 : Int32) else 0) = 1 := if_pos (by unfold rg; simp only [decide_eq_true_eq]; omega)
        exact W.zret hx hb hr rfl (fun t ht hW => ⟨by rw [hv], ⟨_, rfl, by rw [ht]; exact hP⟩, hS.F ht⟩) hS.2.2 dM_isRange_24
set_option maxHeartbeats 4000000 in
set_option maxRecDepth 100000 in
theorem c_M_add {a : Ab} {z : Int32} (G : gGeo ad 25 base) (ha : a_ok a) (hR : RepM M a) (hz : M 0 0 = z) {k d f t0 : Nat} {g : Nat → Nat} (hD : RepDM M k g) (hd : d < 4) (hft : f ≤ t0) (ht : t0 ≤ a_n a d) (hk : k + (t0 - f) ≤ 1000) : Met l yM_add (Cond.code yM_add bM_add 5 none :: tws) { frames := 0, cells := 0, slots := 0, locals := 0 } (gPc (tw D cI cZ cT cJ base) D cl ad 25 base (en ad cI cZ cT cJ pi dr S M o) [.ref (ad 17), .int (nI d), .int (nI f), .int (nI t0)]) (gQc D cl ad 25 base none (fun e => ∃ M1 : Nat → Nat → Int32, e = en ad cI cZ cT cJ pi dr S M1 o ∧ M1 0 0 = z ∧ RepM M1 a ∧ RepDM M1 (k + (t0 - f)) (cat g k (fun i => a_b a d (f + i))))) 0 0 (gA base) := by
  refine Met.ofW (cc := bM_add) (maxL := 5) (ret := none) (by decide) rfl ?_
  intro p e s m args below meth c s₁ B hml hv
  obtain ⟨rfl, htw, hB, hP⟩ := hv
  have hx := B.exec
  have hb := B.bytes
  have hr := B.returns
  have hts0 := atoms_spec (ws := Cond.code yM_add bM_add 5 none :: tws) B.pre
  have hts : ∀ w ∈ tws, w.before _ s = true := fun w h => hts0 w (List.mem_cons_of_mem _ h)
  have hown : s.vm.findClass "PairedTextsModel" = some m.cls := findClass_of_methodNamed B.named
  have hlocks := B.notSynchronized
  have hno := B.noHandlers (hts0 _ List.mem_cons_self)
  have F : CallFix p m c bM_add 5 s _ tws "PairedTextsModel" := ⟨hx, hb, hml, hown, hts⟩
  have hK := htw.1
  have hS : va_S (gA base) s.heap s.heap [] := va_S.rf
  have hl := lv_entry ([.ref (ad 17), .int (nI d), .int (nI f), .int (nI t0)]) (n := 5) (Nat.le_of_ble_eq_true rfl)
  rw [lg_entry_eq]
  generalize (lg_sl ([.ref (ad 17), .int (nI d), .int (nI f), .int (nI t0)]) ++ List.replicate (5 - (lg_sl ([.ref (ad 17), .int (nI d), .int (nI f), .int (nI t0)])).length) Slot.unset).toArray = ls at hl ⊢
  have hl : lv_has ls 5 [(0, .ref (ad 17)), (1, .int (nI d)), (2, .int (nI f)), (3, .int (nI t0))] := hl
  have hn := ha.1 d hd
  refine lv_iload_n hx hb dM_add_0 rfl (lv_at hl 2 rfl) ?_
  refine lv_istore hx hb dM_add_1 hl (by decide) rfl (fun ls hl => ?_)
  have hl : lv_has ls 5 [(4, .int _), (0, .ref _), (1, .int _), (2, .int _), (3, .int _)] := hl
  have hl : lv_has ls 5 [(4, .int (nI (f + 0))), (0, .ref (ad 17)), (1, .int (nI d)), (2, .int (nI f)), (3, .int (nI t0))] := hl
  have hD : RepDM M (k + 0) (cat g k (fun i => a_b a d (f + i))) := hD.to rfl (fun i hi => by unfold cat; rw [if_pos (by omega)])
  refine W.loop (α := Nat × (Nat → Nat → Int32)) (fun t a1 ls H locs => f + a1.1 + t = t0 ∧ a1.2 0 0 = z ∧ RepM a1.2 a ∧ RepDM a1.2 (k + a1.1) (cat g k (fun i => a_b a d (f + i))) ∧ lv_has ls 5 [(4, .int (nI (f + a1.1))), (0, .ref (ad 17)), (1, .int (nI d)), (2, .int (nI f)), (3, .int (nI t0))] ∧ va_P D cl (gw ad (en ad cI cZ cT cJ pi dr S a1.2 o) 25) H ∧ va_S (gA base) s.heap H locs) ?_ (t := (t0 - f)) (a := (0, M)) ⟨by show f + 0 + (t0 - f) = t0; omega, hz, hR, hD, hl, hP, hS⟩
  clear hl hP hS
  intro t a1 ls H locs hI ih
  obtain ⟨u, M⟩ := a1
  obtain ⟨i0, i1, i2, i3, hl, hP, hS⟩ := hI
  try dsimp only at i0 i1 i2 i3 hl hP
  by_cases hte : t = 0
  · obtain rfl : u = t0 - f := by omega
    refine lv_iload hx hb dM_add_3 (lv_at hl 0 rfl) ?_
    refine lv_iload_n hx hb dM_add_5 rfl (lv_at hl 4 rfl) ?_
    refine lv_icmp_ge (tgt := 47) hx hb dM_add_6 (by decide) (fun _ => ?_) (fun hc => absurd (by rw [nI_leI (by omega) (by omega)]; omega) hc)
    exact W.vret hx hb hr (fun t ht hW => ⟨rfl, ⟨_, ⟨_, rfl, i1, i2, i3⟩, by rw [ht]; exact hP⟩, hS.F ht⟩) hS.2.2 dM_add_47
  · refine lv_iload hx hb dM_add_3 (lv_at hl 0 rfl) ?_
    refine lv_iload_n hx hb dM_add_5 rfl (lv_at hl 4 rfl) ?_
    refine lv_icmp_ge (tgt := 47) hx hb dM_add_6 (by decide) (fun hc => absurd hc (by rw [nI_leI (by omega) (by omega)]; omega)) (fun _ => ?_)
    refine lv_aload_n hx hb dM_add_9 rfl (lv_at hl 1 rfl) ?_
    refine g_get F hK hP (17) (by decide) rfl rfl iM 3 (by decide) k2_199 rfl dM_add_10 ?_
    refine lv_aload_n hx hb dM_add_13 rfl (lv_at hl 1 rfl) ?_
    refine g_get F hK hP (17) (by decide) rfl rfl iM 4 (by decide) k2_200 rfl dM_add_14 ?_
    refine lv_aload_n hx hb dM_add_17 rfl (lv_at hl 1 rfl) ?_
    refine g_get F hK hP (17) (by decide) rfl rfl iM 1 (by decide) k2_197 rfl dM_add_18 ?_
    refine lv_sipush (v := 1000) hx hb dM_add_21 (by decide) ?_
    refine lv_iload_n hx hb dM_add_24 rfl (lv_at hl 2 rfl) ?_
    refine lv_imul hx hb dM_add_25 ?_
    refine lv_iload hx hb dM_add_26 (lv_at hl 0 rfl) ?_
    refine lv_iadd hx hb dM_add_28 ?_
    rw [k_at]
    refine g_iald F hK hP (18) (by decide) 0 rfl rfl (vp_in_nI (show 1000 * d + (f + u) < 4000 by omega) (by omega)) dM_add_29 ?_
    rw [nI_clamp (show 1000 * d + (f + u) < 2 ^ 31 by omega), i2.2.1 d (f + u) hd (by omega)]
    refine g_iast F hK G hP hS (20) (by decide) 0 rfl rfl (by rw [i3.1]; exact vp_in_nI (show k + u < 1000 by omega) (by omega)) dM_add_30 (fun H locs hP hS => ?_)
    rw [i3.1, nI_clamp (show k + u < 2 ^ 31 by omega)] at hP
    have hP := P_of hP (en_m_draft _ _ _ _ _ _ _ _ _ _ _)
    refine lv_aload_n hx hb dM_add_31 rfl (lv_at hl 1 rfl) ?_
    refine lv_dup hx hb dM_add_32 rfl ?_
    refine g_get F hK hP (17) (by decide) rfl rfl iM 4 (by decide) k2_200 rfl dM_add_33 ?_
    refine lv_iconst (v := 1) hx hb dM_add_36 (by decide) ?_
    refine lv_iadd hx hb dM_add_37 ?_
    refine g_put F hK G hP hS (17) (by decide) rfl rfl iM tM tM_ok nM 4 (by decide) k2_200 rfl (ty := .int) (by decide +kernel) rfl rfl (Nat.le_of_ble_eq_true rfl) dM_add_38 (fun H locs hP hS => ?_)
    have hP := P_of hP (en_m_drafted _ _ _ _ _ _ _ _ _ _ _)
    rw [sr_n (show (0 : Nat) ≠ 3 by decide), i3.1, nI_1] at hP
    obtain ⟨hR1, hD1⟩ := RepDM.one (b := a_b a d (f + u)) i2 i3
    have hz1 : sr (sr M 3 (upd (M 3) (k + u) (nI (a_b a d (f + u))))) 0 (upd (M 0) 1 (nI (k + u + 1))) 0 0 = z := i1
    refine lv_iinc (k := 0) hx hb dM_add_41 hl rfl rfl (by decide) rfl (fun ls hl => ?_)
    have hl : lv_has ls 5 [(4, .int _), (0, .ref _), (1, .int _), (2, .int _), (3, .int _)] := hl
    refine lv_goto (tgt := 3) hx hb dM_add_44 (by decide) ?_
    have hl : lv_has ls 5 [(4, .int (nI (f + (u + 1)))), (0, .ref (ad 17)), (1, .int (nI d)), (2, .int (nI f)), (3, .int (nI t0))] := by rw [← Nat.add_assoc, ← nI_1]; exact hl
    have hD2 : RepDM (sr (sr M 3 (upd (M 3) (k + u) (nI (a_b a d (f + u))))) 0 (upd (M 0) 1 (nI (k + u + 1)))) (k + (u + 1)) (cat g k (fun i => a_b a d (f + i))) := hD1.to (Nat.add_assoc _ _ _) (fun i hi => cat_one g (fun i => a_b a d (f + i)) k u i)
    exact ih (t - 1) (u + 1, sr (sr M 3 (upd (M 3) (k + u) (nI (a_b a d (f + u))))) 0 (upd (M 0) 1 (nI (k + u + 1)))) _ _ _ (by omega) ⟨by show f + (u + 1) + (t - 1) = t0; omega, hz1, hR1, hD2, hl, hP, hS⟩
set_option maxHeartbeats 4000000 in
set_option maxRecDepth 100000 in
theorem c_M_become {a : Ab} {z : Int32} (G : gGeo ad 25 base) (ha : a_ok a) (hR : RepM M a) (hz : M 0 0 = z) {k d : Nat} {g : Nat → Nat} (hD : RepDM M k g) (hd : d < 4) (hk : k ≤ 1000) : Met l yM_become (Cond.code yM_become bM_become 3 (some .int) :: tws) { frames := 0, cells := 0, slots := 0, locals := 0 } (gPc (tw D cI cZ cT cJ base) D cl ad 25 base (en ad cI cZ cT cJ pi dr S M o) [.ref (ad 17), .int (nI d)]) (gQc D cl ad 25 base (some (.int (nI k))) (fun e => ∃ M1 : Nat → Nat → Int32, e = en ad cI cZ cT cJ pi dr S M1 o ∧ M1 0 0 = z ∧ RepM M1 (a_set a d k g))) 0 0 (gA base) := by
  refine Met.ofW (cc := bM_become) (maxL := 3) (ret := (some .int)) (by decide) rfl ?_
  intro p e s m args below meth c s₁ B hml hv
  obtain ⟨rfl, htw, hB, hP⟩ := hv
  have hx := B.exec
  have hb := B.bytes
  have hr := B.returns
  have hts0 := atoms_spec (ws := Cond.code yM_become bM_become 3 (some .int) :: tws) B.pre
  have hts : ∀ w ∈ tws, w.before _ s = true := fun w h => hts0 w (List.mem_cons_of_mem _ h)
  have hown : s.vm.findClass "PairedTextsModel" = some m.cls := findClass_of_methodNamed B.named
  have hlocks := B.notSynchronized
  have hno := B.noHandlers (hts0 _ List.mem_cons_self)
  have F : CallFix p m c bM_become 3 s _ tws "PairedTextsModel" := ⟨hx, hb, hml, hown, hts⟩
  have hK := htw.1
  have hS : va_S (gA base) s.heap s.heap [] := va_S.rf
  have hl := lv_entry ([.ref (ad 17), .int (nI d)]) (n := 3) (Nat.le_of_ble_eq_true rfl)
  rw [lg_entry_eq]
  generalize (lg_sl ([.ref (ad 17), .int (nI d)]) ++ List.replicate (3 - (lg_sl ([.ref (ad 17), .int (nI d)])).length) Slot.unset).toArray = ls at hl ⊢
  have hl : lv_has ls 3 [(0, .ref (ad 17)), (1, .int (nI d))] := hl
  refine lv_iconst (v := 0) hx hb dM_become_0 (by decide) ?_
  refine lv_istore_n hx hb dM_become_1 rfl hl (by decide) rfl (fun ls hl => ?_)
  have hl : lv_has ls 3 [(2, .int _), (0, .ref _), (1, .int _)] := hl
  have hP := P_of hP (show ∀ j, j < 25 → en ad cI cZ cT cJ pi dr S M o j = en ad cI cZ cT cJ pi dr S (sr M 1 (mfil (M 1) (1000 * d) g 0)) o j from fun j _ => by rw [mfil_0, sr_id rfl])
  refine W.loop (α := Nat) (fun t a1 ls H locs => a1 + t = k ∧ lv_has ls 3 [(2, .int (nI a1)), (0, .ref (ad 17)), (1, .int (nI d))] ∧ va_P D cl (gw ad (en ad cI cZ cT cJ pi dr S (sr M 1 (mfil (M 1) (1000 * d) g a1)) o) 25) H ∧ va_S (gA base) s.heap H locs) ?_ (t := k) (a := 0) ⟨by omega, hl, hP, hS⟩
  clear hl hP hS
  intro t a1 ls H locs hI ih
  obtain ⟨i0, hl, hP, hS⟩ := hI
  try dsimp only at i0 hl hP
  have h01 : (sr M 1 (mfil (M 1) (1000 * d) g a1)) 0 1 = nI k := hD.1
  by_cases hte : t = 0
  · obtain rfl : a1 = k := by omega
    refine lv_iload_n hx hb dM_become_2 rfl (lv_at hl 0 rfl) ?_
    refine lv_aload_n hx hb dM_become_3 rfl (lv_at hl 1 rfl) ?_
    refine g_get F hK hP (17) (by decide) rfl rfl iM 4 (by decide) k2_200 rfl dM_become_4 ?_
    rw [h01]
    refine lv_icmp_ge (tgt := 34) hx hb dM_become_7 (by decide) (fun _ => ?_) (fun hc => absurd (by rw [nI_leI (by omega) (by omega)]; omega) hc)
    refine lv_aload_n hx hb dM_become_34 rfl (lv_at hl 1 rfl) ?_
    refine g_get F hK hP (17) (by decide) rfl rfl iM 2 (by decide) k2_198 rfl dM_become_35 ?_
    refine lv_iload_n hx hb dM_become_38 rfl (lv_at hl 2 rfl) ?_
    refine lv_aload_n hx hb dM_become_39 rfl (lv_at hl 1 rfl) ?_
    refine g_get F hK hP (17) (by decide) rfl rfl iM 4 (by decide) k2_200 rfl dM_become_40 ?_
    rw [h01]
    refine g_iast F hK G hP hS (19) (by decide) 0 rfl rfl (vp_in_nI hd (by omega)) dM_become_43 (fun H locs hP hS => ?_)
    rw [nI_clamp (show d < 2 ^ 31 by omega)] at hP
    have hP := P_of hP (en_m_sizes _ _ _ _ _ _ _ _ _ _ _)
    refine lv_aload_n hx hb dM_become_44 rfl (lv_at hl 1 rfl) ?_
    refine g_get F hK hP (17) (by decide) rfl rfl iM 4 (by decide) k2_200 rfl dM_become_45 ?_
    exact W.iret hx hb hr (fun t ht hW => ⟨by rw [← hD.1]; rfl, ⟨_, ⟨sr (sr M 1 (mfil (M 1) (1000 * d) g a1)) 2 (upd (M 2) d (nI a1)), rfl, hz, RepM.become hR ha hd hk⟩, by rw [ht]; exact hP⟩, hS.F ht⟩) hS.2.2 dM_become_48
  · refine lv_iload_n hx hb dM_become_2 rfl (lv_at hl 0 rfl) ?_
    refine lv_aload_n hx hb dM_become_3 rfl (lv_at hl 1 rfl) ?_
    refine g_get F hK hP (17) (by decide) rfl rfl iM 4 (by decide) k2_200 rfl dM_become_4 ?_
    rw [h01]
    refine lv_icmp_ge (tgt := 34) hx hb dM_become_7 (by decide) (fun hc => absurd hc (by rw [nI_leI (by omega) (by omega)]; omega)) (fun _ => ?_)
    refine lv_aload_n hx hb dM_become_10 rfl (lv_at hl 1 rfl) ?_
    refine g_get F hK hP (17) (by decide) rfl rfl iM 1 (by decide) k2_197 rfl dM_become_11 ?_
    refine lv_sipush (v := 1000) hx hb dM_become_14 (by decide) ?_
    refine lv_iload_n hx hb dM_become_17 rfl (lv_at hl 2 rfl) ?_
    refine lv_imul hx hb dM_become_18 ?_
    refine lv_iload_n hx hb dM_become_19 rfl (lv_at hl 0 rfl) ?_
    refine lv_iadd hx hb dM_become_20 ?_
    refine lv_aload_n hx hb dM_become_21 rfl (lv_at hl 1 rfl) ?_
    refine g_get F hK hP (17) (by decide) rfl rfl iM 3 (by decide) k2_199 rfl dM_become_22 ?_
    refine lv_iload_n hx hb dM_become_25 rfl (lv_at hl 0 rfl) ?_
    rw [k_at]
    refine g_iald F hK hP (20) (by decide) 0 rfl rfl (vp_in_nI (show a1 < 1000 by omega) (by omega)) dM_become_26 ?_
    rw [nI_clamp (show a1 < 2 ^ 31 by omega), sr_n (show (3 : Nat) ≠ 1 by decide), hD.2 a1 (by omega)]
    refine g_iast F hK G hP hS (18) (by decide) 0 rfl rfl (vp_in_nI (show 1000 * d + a1 < 4000 by omega) (by omega)) dM_become_27 (fun H locs hP hS => ?_)
    rw [nI_clamp (show 1000 * d + a1 < 2 ^ 31 by omega), sr_s, mfil_s] at hP
    have hP := P_of hP (en_m_texts _ _ _ _ _ _ _ _ _ _ _)
    rw [sr_sr] at hP
    refine lv_iinc (k := 0) hx hb dM_become_28 hl rfl rfl (by decide) rfl (fun ls hl => ?_)
    have hl : lv_has ls 3 [(2, .int _), (0, .ref _), (1, .int _)] := hl
    refine lv_goto (tgt := 2) hx hb dM_become_31 (by decide) ?_
    have hl : lv_has ls 3 [(2, .int (nI (a1 + 1))), (0, .ref (ad 17)), (1, .int (nI d))] := by rw [← nI_1]; exact hl
    exact ih (t - 1) (a1 + 1) _ _ _ (by omega) ⟨by omega, hl, hP, hS⟩
set_option maxHeartbeats 4000000 in
set_option maxRecDepth 100000 in
theorem c_M_addRest {a : Ab} {z : Int32} (G : gGeo ad 25 base) (ha : a_ok a) (hR : RepM M a) (hz : M 0 0 = z) {k d f t0 i0 i1 : Nat} {g : Nat → Nat} (hD : RepDM M k g) (hd : d < 4) (hft : f ≤ t0) (ht : t0 ≤ a_n a d) (hi : i0 ≤ i1) (hj : i1 ≤ a_n a d - (t0 - f)) (hk : k + (i1 - i0) ≤ 1000) : Met l yM_addRest (Cond.code yM_addRest bM_addRest 8 none :: tws) { frames := 1, cells := 0, slots := 0, locals := 24 } (gPc (tw D cI cZ cT cJ base) D cl ad 25 base (en ad cI cZ cT cJ pi dr S M o) [.ref (ad 17), .int (nI d), .int (nI f), .int (nI t0), .int (nI i0), .int (nI i1)]) (gQc D cl ad 25 base none (fun e => ∃ M1 : Nat → Nat → Int32, e = en ad cI cZ cT cJ pi dr S M1 o ∧ M1 0 0 = z ∧ RepM M1 a ∧ RepDM M1 (k + (i1 - i0)) (cat g k (fun i => rst (a_b a d) f (t0 - f) (i0 + i))))) 0 0 (gA base) := by
  refine Met.ofW (cc := bM_addRest) (maxL := 8) (ret := none) (by decide) rfl ?_
  intro p e s m args below meth c s₁ B hml hv
  obtain ⟨rfl, htw, hB, hP⟩ := hv
  have hx := B.exec
  have hb := B.bytes
  have hr := B.returns
  have hts0 := atoms_spec (ws := Cond.code yM_addRest bM_addRest 8 none :: tws) B.pre
  have hts : ∀ w ∈ tws, w.before _ s = true := fun w h => hts0 w (List.mem_cons_of_mem _ h)
  have hown : s.vm.findClass "PairedTextsModel" = some m.cls := findClass_of_methodNamed B.named
  have hlocks := B.notSynchronized
  have hno := B.noHandlers (hts0 _ List.mem_cons_self)
  have F : CallFix p m c bM_addRest 8 s _ tws "PairedTextsModel" := ⟨hx, hb, hml, hown, hts⟩
  have hK := htw.1
  have hS : va_S (gA base) s.heap s.heap [] := va_S.rf
  have hl := lv_entry ([.ref (ad 17), .int (nI d), .int (nI f), .int (nI t0), .int (nI i0), .int (nI i1)]) (n := 8) (Nat.le_of_ble_eq_true rfl)
  rw [lg_entry_eq]
  generalize (lg_sl ([.ref (ad 17), .int (nI d), .int (nI f), .int (nI t0), .int (nI i0), .int (nI i1)]) ++ List.replicate (8 - (lg_sl ([.ref (ad 17), .int (nI d), .int (nI f), .int (nI t0), .int (nI i0), .int (nI i1)])).length) Slot.unset).toArray = ls at hl ⊢
  have hl : lv_has ls 8 [(0, .ref (ad 17)), (1, .int (nI d)), (2, .int (nI f)), (3, .int (nI t0)), (4, .int (nI i0)), (5, .int (nI i1))] := hl
  have hn := ha.1 d hd
  refine lv_iload hx hb dM_addRest_0 (lv_at hl 4 rfl) ?_
  refine lv_istore hx hb dM_addRest_2 hl (by decide) rfl (fun ls hl => ?_)
  have hl : lv_has ls 8 [(6, .int _), (0, .ref _), (1, .int _), (2, .int _), (3, .int _), (4, .int _), (5, .int _)] := hl
  have hl : lv_has ls 8 [(6, .int (nI (i0 + 0))), (0, .ref (ad 17)), (1, .int (nI d)), (2, .int (nI f)), (3, .int (nI t0)), (4, .int (nI i0)), (5, .int (nI i1))] := hl
  have hD : RepDM M (k + 0) (cat g k (fun i => rst (a_b a d) f (t0 - f) (i0 + i))) := hD.to rfl (fun i hi => by unfold cat; rw [if_pos (by omega)])
  refine W.loop (α := Nat × (Nat → Nat → Int32)) (fun t a1 ls H locs => i0 + a1.1 + t = i1 ∧ a1.2 0 0 = z ∧ RepM a1.2 a ∧ RepDM a1.2 (k + a1.1) (cat g k (fun i => rst (a_b a d) f (t0 - f) (i0 + i))) ∧ lv_has ls 8 [(6, .int (nI (i0 + a1.1))), (0, .ref (ad 17)), (1, .int (nI d)), (2, .int (nI f)), (3, .int (nI t0)), (4, .int (nI i0)), (5, .int (nI i1))] ∧ va_P D cl (gw ad (en ad cI cZ cT cJ pi dr S a1.2 o) 25) H ∧ va_S (gA base) s.heap H locs) ?_ (t := (i1 - i0)) (a := (0, M)) ⟨by show i0 + 0 + (i1 - i0) = i1; omega, hz, hR, hD, hl, hP, hS⟩
  clear hl hP hS
  intro t a1 ls H locs hI ih
  obtain ⟨u, M⟩ := a1
  obtain ⟨i2, i3, i4, i5, hl, hP, hS⟩ := hI
  try dsimp only at i2 i3 i4 i5 hl hP
  by_cases hte : t = 0
  · obtain rfl : u = i1 - i0 := by omega
    refine lv_iload hx hb dM_addRest_4 (lv_at hl 0 rfl) ?_
    refine lv_iload hx hb dM_addRest_6 (lv_at hl 6 rfl) ?_
    refine lv_icmp_ge (tgt := 47) hx hb dM_addRest_8 (by decide) (fun _ => ?_) (fun hc => absurd (by rw [nI_leI (by omega) (by omega)]; omega) hc)
    exact W.vret hx hb hr (fun t ht hW => ⟨rfl, ⟨_, ⟨_, rfl, i3, i4, i5⟩, by rw [ht]; exact hP⟩, hS.F ht⟩) hS.2.2 dM_addRest_47
  · refine lv_iload hx hb dM_addRest_4 (lv_at hl 0 rfl) ?_
    refine lv_iload hx hb dM_addRest_6 (lv_at hl 6 rfl) ?_
    refine lv_icmp_ge (tgt := 47) hx hb dM_addRest_8 (by decide) (fun hc => absurd hc (by rw [nI_leI (by omega) (by omega)]; omega)) (fun _ => ?_)
    refine lv_iload hx hb dM_addRest_11 (lv_at hl 0 rfl) ?_
    refine lv_iload_n hx hb dM_addRest_13 rfl (lv_at hl 3 rfl) ?_
    refine lv_icmp_ge (tgt := 22) hx hb dM_addRest_14 (by decide) (fun hc => ?_) (fun hc => ?_)
    · rw [nI_leI (by omega) (by omega)] at hc
      refine lv_iload hx hb dM_addRest_22 (lv_at hl 0 rfl) ?_
      refine lv_iload_n hx hb dM_addRest_24 rfl (lv_at hl 4 rfl) ?_
      refine lv_iadd hx hb dM_addRest_25 ?_
      rw [nI_add]
      refine lv_iload_n hx hb dM_addRest_26 rfl (lv_at hl 3 rfl) ?_
      refine lv_isub hx hb dM_addRest_27 ?_
      rw [pk_sub (by omega)]
      refine lv_istore hx hb dM_addRest_28 hl (by decide) rfl (fun ls hl => ?_)
      have hl : lv_has ls 8 [(7, .int _), (6, .int _), (0, .ref _), (1, .int _), (2, .int _), (3, .int _), (4, .int _), (5, .int _)] := hl
      refine lv_aload_n hx hb dM_addRest_30 rfl (lv_at hl 2 rfl) ?_
      refine lv_iload_n hx hb dM_addRest_31 rfl (lv_at hl 3 rfl) ?_
      refine lv_iload hx hb dM_addRest_32 (lv_at hl 0 rfl) ?_
      refine lv_iload hx hb dM_addRest_34 (lv_at hl 0 rfl) ?_
      refine lv_iconst (v := 1) hx hb dM_addRest_36 (by decide) ?_
      refine lv_iadd hx hb dM_addRest_37 ?_
      rw [nI_1]
      refine g_V (k := 3) F htw hB hS hP (17) (by decide) rfl rfl (c_M_add (k := k + u) (f := i0 + u + t0 - f) (t0 := i0 + u + t0 - f + 1) G ha i4 i3 i5 hd (by omega) (by omega) (by omega)) k3_18 k3_20 k0_5 k1_5 k3_21 (by decide +kernel) rfl rfl ⟨Nat.le_of_ble_eq_true rfl, Nat.le_of_ble_eq_true rfl⟩ rfl hl.1 rfl (Nat.le_of_ble_eq_true rfl) dM_addRest_38 ⟨Nat.le_of_ble_eq_true rfl, Nat.le_of_ble_eq_true rfl⟩ (fun en1 H locs he hP hS => ?_)
      obtain ⟨M2, rfl, hz2, hR2, hD2⟩ := he
      refine lv_iinc (k := 1) hx hb dM_addRest_41 hl rfl rfl (by decide) rfl (fun ls hl => ?_)
      have hl : lv_has ls 8 [(6, .int _), (7, .int _), (0, .ref _), (1, .int _), (2, .int _), (3, .int _), (4, .int _), (5, .int _)] := hl
      refine lv_goto (tgt := 4) hx hb dM_addRest_44 (by decide) ?_
      have hl : lv_has ls 8 [(6, .int (nI (i0 + (u + 1)))), (0, .ref (ad 17)), (1, .int (nI d)), (2, .int (nI f)), (3, .int (nI t0)), (4, .int (nI i0)), (5, .int (nI i1))] := (lv_sub hl [0, 2, 3, 4, 5, 6, 7] rfl : lv_has ls 8 _) |> fun hl => by rw [← Nat.add_assoc, ← nI_1]; exact hl
      have hat : rst (a_b a d) f (t0 - f) (i0 + u) = a_b a d (i0 + u + t0 - f) := by unfold rst; rw [if_neg (by omega)]; congr 1; omega
      have hD3 : RepDM M2 (k + (u + 1)) (cat g k (fun i => rst (a_b a d) f (t0 - f) (i0 + i))) := hD2.to (by omega) (fun i hi => by rw [← cat_one g (fun i => rst (a_b a d) f (t0 - f) (i0 + i)) k u i, hat]; by_cases e1 : i = k + u; (rw [if_pos e1, e1]; show (if k + u < k + u then _ else _) = _; rw [if_neg (by omega), Nat.sub_self]; rfl); (rw [if_neg e1]; show (if i < k + u then _ else _) = _; rw [if_pos (by omega)]))
      exact ih (t - 1) (u + 1, M2) _ _ _ (by omega) ⟨by show i0 + (u + 1) + (t - 1) = i1; omega, hz2, hR2, hD3, hl, hP, hS⟩
    · rw [nI_leI (by omega) (by omega)] at hc
      refine lv_iload hx hb dM_addRest_17 (lv_at hl 0 rfl) ?_
      refine lv_goto (tgt := 28) hx hb dM_addRest_19 (by decide) ?_
      refine lv_istore hx hb dM_addRest_28 hl (by decide) rfl (fun ls hl => ?_)
      have hl : lv_has ls 8 [(7, .int _), (6, .int _), (0, .ref _), (1, .int _), (2, .int _), (3, .int _), (4, .int _), (5, .int _)] := hl
      refine lv_aload_n hx hb dM_addRest_30 rfl (lv_at hl 2 rfl) ?_
      refine lv_iload_n hx hb dM_addRest_31 rfl (lv_at hl 3 rfl) ?_
      refine lv_iload hx hb dM_addRest_32 (lv_at hl 0 rfl) ?_
      refine lv_iload hx hb dM_addRest_34 (lv_at hl 0 rfl) ?_
      refine lv_iconst (v := 1) hx hb dM_addRest_36 (by decide) ?_
      refine lv_iadd hx hb dM_addRest_37 ?_
      rw [nI_1]
      refine g_V (k := 3) F htw hB hS hP (17) (by decide) rfl rfl (c_M_add (k := k + u) (f := i0 + u) (t0 := i0 + u + 1) G ha i4 i3 i5 hd (by omega) (by omega) (by omega)) k3_18 k3_20 k0_5 k1_5 k3_21 (by decide +kernel) rfl rfl ⟨Nat.le_of_ble_eq_true rfl, Nat.le_of_ble_eq_true rfl⟩ rfl hl.1 rfl (Nat.le_of_ble_eq_true rfl) dM_addRest_38 ⟨Nat.le_of_ble_eq_true rfl, Nat.le_of_ble_eq_true rfl⟩ (fun en1 H locs he hP hS => ?_)
      obtain ⟨M2, rfl, hz2, hR2, hD2⟩ := he
      refine lv_iinc (k := 1) hx hb dM_addRest_41 hl rfl rfl (by decide) rfl (fun ls hl => ?_)
      have hl : lv_has ls 8 [(6, .int _), (7, .int _), (0, .ref _), (1, .int _), (2, .int _), (3, .int _), (4, .int _), (5, .int _)] := hl
      refine lv_goto (tgt := 4) hx hb dM_addRest_44 (by decide) ?_
      have hl : lv_has ls 8 [(6, .int (nI (i0 + (u + 1)))), (0, .ref (ad 17)), (1, .int (nI d)), (2, .int (nI f)), (3, .int (nI t0)), (4, .int (nI i0)), (5, .int (nI i1))] := (lv_sub hl [0, 2, 3, 4, 5, 6, 7] rfl : lv_has ls 8 _) |> fun hl => by rw [← Nat.add_assoc, ← nI_1]; exact hl
      have hat : rst (a_b a d) f (t0 - f) (i0 + u) = a_b a d (i0 + u) := by unfold rst; rw [if_pos (by omega)]
      have hD3 : RepDM M2 (k + (u + 1)) (cat g k (fun i => rst (a_b a d) f (t0 - f) (i0 + i))) := hD2.to (by omega) (fun i hi => by rw [← cat_one g (fun i => rst (a_b a d) f (t0 - f) (i0 + i)) k u i, hat]; by_cases e1 : i = k + u; (rw [if_pos e1, e1]; show (if k + u < k + u then _ else _) = _; rw [if_neg (by omega), Nat.sub_self]; rfl); (rw [if_neg e1]; show (if i < k + u then _ else _) = _; rw [if_pos (by omega)]))
      exact ih (t - 1) (u + 1, M2) _ _ _ (by omega) ⟨by show i0 + (u + 1) + (t - 1) = i1; omega, hz2, hR2, hD3, hl, hP, hS⟩
set_option maxHeartbeats 4000000 in
set_option maxRecDepth 100000 in
theorem c_M_common {a : Ab} (ha : a_ok a) (hR : RepM M a) {d i d2 j : Nat} (hd : d < 4) (he : d2 < 4) (hi : i ≤ a_n a d) (hj : j ≤ a_n a d2) : Met l yM_common (Cond.code yM_common bM_common 6 (some .int) :: tws) { frames := 0, cells := 0, slots := 0, locals := 0 } (gPc (tw D cI cZ cT cJ base) D cl ad 25 base (en ad cI cZ cT cJ pi dr S M o) [.ref (ad 17), .int (nI d), .int (nI i), .int (nI d2), .int (nI j)]) (gQc D cl ad 25 base (some (.int (nI (cpr a d i d2 j)))) (fun e => e = en ad cI cZ cT cJ pi dr S M o)) 0 0 (gA base) := by
  refine Met.ofW (cc := bM_common) (maxL := 6) (ret := (some .int)) (by decide) rfl ?_
  intro p e s m args below meth c s₁ B hml hv
  obtain ⟨rfl, htw, hB, hP⟩ := hv
  have hx := B.exec
  have hb := B.bytes
  have hr := B.returns
  have hts0 := atoms_spec (ws := Cond.code yM_common bM_common 6 (some .int) :: tws) B.pre
  have hts : ∀ w ∈ tws, w.before _ s = true := fun w h => hts0 w (List.mem_cons_of_mem _ h)
  have hown : s.vm.findClass "PairedTextsModel" = some m.cls := findClass_of_methodNamed B.named
  have hlocks := B.notSynchronized
  have hno := B.noHandlers (hts0 _ List.mem_cons_self)
  have F : CallFix p m c bM_common 6 s _ tws "PairedTextsModel" := ⟨hx, hb, hml, hown, hts⟩
  have hK := htw.1
  have hS : va_S (gA base) s.heap s.heap [] := va_S.rf
  have hl := lv_entry ([.ref (ad 17), .int (nI d), .int (nI i), .int (nI d2), .int (nI j)]) (n := 6) (Nat.le_of_ble_eq_true rfl)
  rw [lg_entry_eq]
  generalize (lg_sl ([.ref (ad 17), .int (nI d), .int (nI i), .int (nI d2), .int (nI j)]) ++ List.replicate (6 - (lg_sl ([.ref (ad 17), .int (nI d), .int (nI i), .int (nI d2), .int (nI j)])).length) Slot.unset).toArray = ls at hl ⊢
  have hl : lv_has ls 6 [(0, .ref (ad 17)), (1, .int (nI d)), (2, .int (nI i)), (3, .int (nI d2)), (4, .int (nI j))] := hl
  have h1 := ha.1 d hd
  have h2 := ha.1 d2 he
  have e1 := hR.1 d hd
  have e2 := hR.1 d2 he
  unfold cpr
  generalize hmm : (min (a_n a d - i) (a_n a d2 - j)) = mm
  have hm1 : mm ≤ 1000 ∧ i + mm ≤ a_n a d ∧ j + mm ≤ a_n a d2 ∧ (i + mm = a_n a d ∨ j + mm = a_n a d2) := by omega
  refine lv_iconst (v := 0) hx hb dM_common_0 (by decide) ?_
  refine lv_istore hx hb dM_common_1 hl (by decide) rfl (fun ls hl => ?_)
  have hl : lv_has ls 6 [(5, .int _), (0, .ref _), (1, .int _), (2, .int _), (3, .int _), (4, .int _)] := hl
  refine W.loop (α := Nat) (fun t a1 ls H locs => a1 + t = mm ∧ cpx (fun c => decide (a_b a d (i + c) = a_b a d2 (j + c))) t a1 = cpx (fun c => decide (a_b a d (i + c) = a_b a d2 (j + c))) mm 0 ∧ lv_has ls 6 [(5, .int (nI a1)), (0, .ref (ad 17)), (1, .int (nI d)), (2, .int (nI i)), (3, .int (nI d2)), (4, .int (nI j))] ∧ va_P D cl (gw ad (en ad cI cZ cT cJ pi dr S M o) 25) H ∧ va_S (gA base) s.heap H locs) ?_ (t := mm) (a := 0) ⟨by omega, rfl, hl, hP, hS⟩
  clear hl hP hS
  intro t a1 ls H locs hI ih
  obtain ⟨i0, i1, hl, hP, hS⟩ := hI
  try dsimp only at i0 i1 hl hP
  refine lv_iload_n hx hb dM_common_3 rfl (lv_at hl 3 rfl) ?_
  refine lv_iload hx hb dM_common_4 (lv_at hl 0 rfl) ?_
  refine lv_iadd hx hb dM_common_6 ?_
  rw [nI_add]
  refine lv_aload_n hx hb dM_common_7 rfl (lv_at hl 1 rfl) ?_
  refine g_get F hK hP (17) (by decide) rfl rfl iM 2 (by decide) k2_198 rfl dM_common_8 ?_
  refine lv_iload_n hx hb dM_common_11 rfl (lv_at hl 2 rfl) ?_
  refine g_iald F hK hP (19) (by decide) 0 rfl rfl (vp_in_nI hd (by omega)) dM_common_12 ?_
  rw [nI_clamp (show d < 2 ^ 31 by omega), e1]
  refine lv_icmp_ge (tgt := 70) hx hb dM_common_13 (by decide) (fun hc => ?_) (fun hc => ?_)
  · rw [nI_leI (by omega) (by omega)] at hc
    obtain rfl : t = 0 := by omega
    refine lv_iload hx hb dM_common_70 (lv_at hl 0 rfl) ?_
    have i1 : a1 = cpx (fun c => decide (a_b a d (i + c) = a_b a d2 (j + c))) mm 0 := i1
    exact W.iret hx hb hr (fun t ht hW => ⟨by rw [← i1], ⟨_, rfl, by rw [ht]; exact hP⟩, hS.F ht⟩) hS.2.2 dM_common_72
  · rw [nI_leI (by omega) (by omega)] at hc
    refine lv_iload hx hb dM_common_16 (lv_at hl 5 rfl) ?_
    refine lv_iload hx hb dM_common_18 (lv_at hl 0 rfl) ?_
    refine lv_iadd hx hb dM_common_20 ?_
    rw [nI_add]
    refine lv_aload_n hx hb dM_common_21 rfl (lv_at hl 1 rfl) ?_
    refine g_get F hK hP (17) (by decide) rfl rfl iM 2 (by decide) k2_198 rfl dM_common_22 ?_
    refine lv_iload_n hx hb dM_common_25 rfl (lv_at hl 4 rfl) ?_
    refine g_iald F hK hP (19) (by decide) 0 rfl rfl (vp_in_nI he (by omega)) dM_common_26 ?_
    rw [nI_clamp (show d2 < 2 ^ 31 by omega), e2]
    refine lv_icmp_ge (tgt := 70) hx hb dM_common_27 (by decide) (fun hd3 => ?_) (fun hd3 => ?_)
    · rw [nI_leI (by omega) (by omega)] at hd3
      obtain rfl : t = 0 := by omega
      refine lv_iload hx hb dM_common_70 (lv_at hl 0 rfl) ?_
      have i1 : a1 = cpx (fun c => decide (a_b a d (i + c) = a_b a d2 (j + c))) mm 0 := i1
      exact W.iret hx hb hr (fun t ht hW => ⟨by rw [← i1], ⟨_, rfl, by rw [ht]; exact hP⟩, hS.F ht⟩) hS.2.2 dM_common_72
    · rw [nI_leI (by omega) (by omega)] at hd3
      obtain ⟨t, rfl⟩ : ∃ u, t = u + 1 := ⟨t - 1, by omega⟩
      refine lv_aload_n hx hb dM_common_30 rfl (lv_at hl 1 rfl) ?_
      refine g_get F hK hP (17) (by decide) rfl rfl iM 1 (by decide) k2_197 rfl dM_common_31 ?_
      refine lv_sipush (v := 1000) hx hb dM_common_34 (by decide) ?_
      refine lv_iload_n hx hb dM_common_37 rfl (lv_at hl 2 rfl) ?_
      refine lv_imul hx hb dM_common_38 ?_
      refine lv_iload_n hx hb dM_common_39 rfl (lv_at hl 3 rfl) ?_
      refine lv_iadd hx hb dM_common_40 ?_
      rw [k_at]
      refine lv_iload hx hb dM_common_41 (lv_at hl 0 rfl) ?_
      refine lv_iadd hx hb dM_common_43 ?_
      rw [nI_add]
      refine g_iald F hK hP (18) (by decide) 0 rfl rfl (vp_in_nI (show 1000 * d + i + a1 < 4000 by omega) (by omega)) dM_common_44 ?_
      rw [nI_clamp (show 1000 * d + i + a1 < 2 ^ 31 by omega), Nat.add_assoc (1000 * d) i a1, hR.2.1 d (i + a1) hd (by omega)]
      refine lv_aload_n hx hb dM_common_45 rfl (lv_at hl 1 rfl) ?_
      refine g_get F hK hP (17) (by decide) rfl rfl iM 1 (by decide) k2_197 rfl dM_common_46 ?_
      refine lv_sipush (v := 1000) hx hb dM_common_49 (by decide) ?_
      refine lv_iload_n hx hb dM_common_52 rfl (lv_at hl 4 rfl) ?_
      refine lv_imul hx hb dM_common_53 ?_
      refine lv_iload hx hb dM_common_54 (lv_at hl 5 rfl) ?_
      refine lv_iadd hx hb dM_common_56 ?_
      rw [k_at]
      refine lv_iload hx hb dM_common_57 (lv_at hl 0 rfl) ?_
      refine lv_iadd hx hb dM_common_59 ?_
      rw [nI_add]
      refine g_iald F hK hP (18) (by decide) 0 rfl rfl (vp_in_nI (show 1000 * d2 + j + a1 < 4000 by omega) (by omega)) dM_common_60 ?_
      rw [nI_clamp (show 1000 * d2 + j + a1 < 2 ^ 31 by omega), Nat.add_assoc (1000 * d2) j a1, hR.2.1 d2 (j + a1) he (by omega)]
      have b1 := ha.2.1 d (i + a1) hd (by omega)
      have b2 := ha.2.1 d2 (j + a1) he (by omega)
      have i1 : (if decide (a_b a d (i + a1) = a_b a d2 (j + a1)) then cpx (fun c => decide (a_b a d (i + c) = a_b a d2 (j + c))) t (a1 + 1) else a1) = cpx (fun c => decide (a_b a d (i + c) = a_b a d2 (j + c))) mm 0 := i1
      refine lv_icmp_ne (tgt := 70) hx hb dM_common_61 (by decide) (fun hx4 => ?_) (fun hx4 => ?_)
      · rw [nI_eq (by omega) (by omega)] at hx4
        rw [if_neg (by simpa using hx4)] at i1
        refine lv_iload hx hb dM_common_70 (lv_at hl 0 rfl) ?_
        exact W.iret hx hb hr (fun t ht hW => ⟨by rw [← i1], ⟨_, rfl, by rw [ht]; exact hP⟩, hS.F ht⟩) hS.2.2 dM_common_72
      · simp only [ne_eq, Decidable.not_not, nI_eq (show a_b a d (i + a1) < 2 ^ 31 by omega) (show a_b a d2 (j + a1) < 2 ^ 31 by omega)] at hx4
        rw [if_pos (by simpa using hx4)] at i1
        refine lv_iinc (k := 0) hx hb dM_common_64 hl rfl rfl (by decide) rfl (fun ls hl => ?_)
        have hl : lv_has ls 6 [(5, .int _), (0, .ref _), (1, .int _), (2, .int _), (3, .int _), (4, .int _)] := hl
        refine lv_goto (tgt := 3) hx hb dM_common_67 (by decide) ?_
        have hl : lv_has ls 6 [(5, .int (nI (a1 + 1))), (0, .ref (ad 17)), (1, .int (nI d)), (2, .int (nI i)), (3, .int (nI d2)), (4, .int (nI j))] := by rw [← nI_1]; exact hl
        exact ih t (a1 + 1) _ _ _ (by omega) ⟨by omega, i1, hl, hP, hS⟩
set_option maxHeartbeats 4000000 in
set_option maxRecDepth 100000 in
theorem c_M_pieces_no {e0 : Nat → va_E} (i j x0 y0 : Int32) : Met l yM_pieces (Cond.code yM_pieces bM_pieces 5 (some .int) :: tws) { frames := 0, cells := 0, slots := 0, locals := 0 } (gPc (tw D cI cZ cT cJ base) D cl ad 25 base (e0) [.int 0, .int i, .int j, .int x0, .int y0]) (gQc D cl ad 25 base (some (.int 1)) (fun e => e = e0)) 0 0 (gA base) := by
  refine Met.ofW (cc := bM_pieces) (maxL := 5) (ret := (some .int)) (by decide) rfl ?_
  intro p e s m args below meth c s₁ B hml hv
  obtain ⟨rfl, htw, hB, hP⟩ := hv
  have hx := B.exec
  have hb := B.bytes
  have hr := B.returns
  have hts0 := atoms_spec (ws := Cond.code yM_pieces bM_pieces 5 (some .int) :: tws) B.pre
  have hts : ∀ w ∈ tws, w.before _ s = true := fun w h => hts0 w (List.mem_cons_of_mem _ h)
  have hown : s.vm.findClass "PairedTextsModel" = some m.cls := findClass_of_methodNamed B.named
  have hlocks := B.notSynchronized
  have hno := B.noHandlers (hts0 _ List.mem_cons_self)
  have F : CallFix p m c bM_pieces 5 s _ tws "PairedTextsModel" := ⟨hx, hb, hml, hown, hts⟩
  have hK := htw.1
  have hS : va_S (gA base) s.heap s.heap [] := va_S.rf
  have hl := lv_entry ([.int 0, .int i, .int j, .int x0, .int y0]) (n := 5) (Nat.le_of_ble_eq_true rfl)
  rw [lg_entry_eq]
  generalize (lg_sl ([.int 0, .int i, .int j, .int x0, .int y0]) ++ List.replicate (5 - (lg_sl ([.int 0, .int i, .int j, .int x0, .int y0])).length) Slot.unset).toArray = ls at hl ⊢
  have hl : lv_has ls 5 [(0, .int 0), (1, .int i), (2, .int j), (3, .int x0), (4, .int y0)] := hl
  refine lv_iload_n hx hb dM_pieces_0 rfl (lv_at hl 0 rfl) ?_
  refine lv_if_ne (tgt := 8) hx hb dM_pieces_1 (by decide) (fun hc => absurd (rfl : (0 : Int32) = 0) hc) (fun _ => ?_)
  refine lv_iconst (v := 1) hx hb dM_pieces_4 (by decide) ?_
  refine lv_goto (tgt := 32) hx hb dM_pieces_5 (by decide) ?_
  exact W.iret hx hb hr (fun t ht hW => ⟨rfl, ⟨_, rfl, by rw [ht]; exact hP⟩, hS.F ht⟩) hS.2.2 dM_pieces_32
set_option maxHeartbeats 4000000 in
set_option maxRecDepth 100000 in
theorem c_M_pieces {e0 : Nat → va_E} (i j : Int32) {n1 n2 : Nat} (h1 : n1 ≤ 1000) (h2 : n2 ≤ 1000) : Met l yM_pieces (Cond.code yM_pieces bM_pieces 5 (some .int) :: tws) { frames := 0, cells := 0, slots := 0, locals := 0 } (gPc (tw D cI cZ cT cJ base) D cl ad 25 base (e0) [.int 1, .int i, .int j, .int (nI n1), .int (nI n2)]) (gQc D cl ad 25 base (some (.int (if pcL i n1 && pcL j n2 then 0 else 2))) (fun e => e = e0)) 0 0 (gA base) := by
  refine Met.ofW (cc := bM_pieces) (maxL := 5) (ret := (some .int)) (by decide) rfl ?_
  intro p e s m args below meth c s₁ B hml hv
  obtain ⟨rfl, htw, hB, hP⟩ := hv
  have hx := B.exec
  have hb := B.bytes
  have hr := B.returns
  have hts0 := atoms_spec (ws := Cond.code yM_pieces bM_pieces 5 (some .int) :: tws) B.pre
  have hts : ∀ w ∈ tws, w.before _ s = true := fun w h => hts0 w (List.mem_cons_of_mem _ h)
  have hown : s.vm.findClass "PairedTextsModel" = some m.cls := findClass_of_methodNamed B.named
  have hlocks := B.notSynchronized
  have hno := B.noHandlers (hts0 _ List.mem_cons_self)
  have F : CallFix p m c bM_pieces 5 s _ tws "PairedTextsModel" := ⟨hx, hb, hml, hown, hts⟩
  have hK := htw.1
  have hS : va_S (gA base) s.heap s.heap [] := va_S.rf
  have hl := lv_entry ([.int 1, .int i, .int j, .int (nI n1), .int (nI n2)]) (n := 5) (Nat.le_of_ble_eq_true rfl)
  rw [lg_entry_eq]
  generalize (lg_sl ([.int 1, .int i, .int j, .int (nI n1), .int (nI n2)]) ++ List.replicate (5 - (lg_sl ([.int 1, .int i, .int j, .int (nI n1), .int (nI n2)])).length) Slot.unset).toArray = ls at hl ⊢
  have hl : lv_has ls 5 [(0, .int 1), (1, .int i), (2, .int j), (3, .int (nI n1)), (4, .int (nI n2))] := hl
  have z0 : (0 : Int32).toInt = 0 := rfl
  have z1 := nI_toInt (show n1 < 2 ^ 31 by omega)
  have z2 := nI_toInt (show n2 < 2 ^ 31 by omega)
  refine lv_iload_n hx hb dM_pieces_0 rfl (lv_at hl 0 rfl) ?_
  refine lv_if_ne (tgt := 8) hx hb dM_pieces_1 (by decide) (fun _ => ?_) (fun hc => absurd hc (show ¬ (1 : Int32) = 0 by decide))
  refine lv_iload_n hx hb dM_pieces_8 rfl (lv_at hl 1 rfl) ?_
  refine lv_if_lt (tgt := 27) hx hb dM_pieces_9 (by decide) (fun q0 => ?_) (fun q0 => ?_)
  · simp only [Int32.lt_iff_toInt_lt, Int32.le_iff_toInt_le] at q0
    refine lv_iconst (v := 2) hx hb dM_pieces_27 (by decide) ?_
    refine lv_goto (tgt := 32) hx hb dM_pieces_28 (by decide) ?_
    have hv : (if pcL i n1 && pcL j n2 then (0 : Int32) else 2) = 2 := if_neg (by unfold pcL; simp only [Bool.and_eq_true, decide_eq_true_eq]; omega)
    exact W.iret hx hb hr (fun t ht hW => ⟨by rw [hv], ⟨_, rfl, by rw [ht]; exact hP⟩, hS.F ht⟩) hS.2.2 dM_pieces_32
  · simp only [Int32.lt_iff_toInt_lt, Int32.le_iff_toInt_le] at q0
    refine lv_iload_n hx hb dM_pieces_12 rfl (lv_at hl 1 rfl) ?_
    refine lv_iload_n hx hb dM_pieces_13 rfl (lv_at hl 3 rfl) ?_
    refine lv_icmp_gt (tgt := 27) hx hb dM_pieces_14 (by decide) (fun q1 => ?_) (fun q1 => ?_)
    · simp only [Int32.lt_iff_toInt_lt, Int32.le_iff_toInt_le] at q1
      refine lv_iconst (v := 2) hx hb dM_pieces_27 (by decide) ?_
      refine lv_goto (tgt := 32) hx hb dM_pieces_28 (by decide) ?_
      have hv : (if pcL i n1 && pcL j n2 then (0 : Int32) else 2) = 2 := if_neg (by unfold pcL; simp only [Bool.and_eq_true, decide_eq_true_eq]; omega)
      exact W.iret hx hb hr (fun t ht hW => ⟨by rw [hv], ⟨_, rfl, by rw [ht]; exact hP⟩, hS.F ht⟩) hS.2.2 dM_pieces_32
    · simp only [Int32.lt_iff_toInt_lt, Int32.le_iff_toInt_le] at q1
      refine lv_iload_n hx hb dM_pieces_17 rfl (lv_at hl 2 rfl) ?_
      refine lv_if_lt (tgt := 27) hx hb dM_pieces_18 (by decide) (fun q2 => ?_) (fun q2 => ?_)
      · simp only [Int32.lt_iff_toInt_lt, Int32.le_iff_toInt_le] at q2
        refine lv_iconst (v := 2) hx hb dM_pieces_27 (by decide) ?_
        refine lv_goto (tgt := 32) hx hb dM_pieces_28 (by decide) ?_
        have hv : (if pcL i n1 && pcL j n2 then (0 : Int32) else 2) = 2 := if_neg (by unfold pcL; simp only [Bool.and_eq_true, decide_eq_true_eq]; omega)
        exact W.iret hx hb hr (fun t ht hW => ⟨by rw [hv], ⟨_, rfl, by rw [ht]; exact hP⟩, hS.F ht⟩) hS.2.2 dM_pieces_32
      · simp only [Int32.lt_iff_toInt_lt, Int32.le_iff_toInt_le] at q2
        refine lv_iload_n hx hb dM_pieces_21 rfl (lv_at hl 2 rfl) ?_
        refine lv_iload hx hb dM_pieces_22 (lv_at hl 4 rfl) ?_
        refine lv_icmp_le (tgt := 31) hx hb dM_pieces_24 (by decide) (fun q3 => ?_) (fun q3 => ?_)
        · simp only [Int32.lt_iff_toInt_lt, Int32.le_iff_toInt_le] at q3
          refine lv_iconst (v := 0) hx hb dM_pieces_31 (by decide) ?_
          have hv : (if pcL i n1 && pcL j n2 then (0 : Int32) else 2) = 0 := if_pos (by unfold pcL; simp only [Bool.and_eq_true, decide_eq_true_eq]; omega)
          exact W.iret hx hb hr (fun t ht hW => ⟨by rw [hv], ⟨_, rfl, by rw [ht]; exact hP⟩, hS.F ht⟩) hS.2.2 dM_pieces_32
        · simp only [Int32.lt_iff_toInt_lt, Int32.le_iff_toInt_le] at q3
          refine lv_iconst (v := 2) hx hb dM_pieces_27 (by decide) ?_
          refine lv_goto (tgt := 32) hx hb dM_pieces_28 (by decide) ?_
          have hv : (if pcL i n1 && pcL j n2 then (0 : Int32) else 2) = 2 := if_neg (by unfold pcL; simp only [Bool.and_eq_true, decide_eq_true_eq]; omega)
          exact W.iret hx hb hr (fun t ht hW => ⟨by rw [hv], ⟨_, rfl, by rw [ht]; exact hP⟩, hS.F ht⟩) hS.2.2 dM_pieces_32
def sm (z : Nat) : Nat := if z ≥ 2305843009213693951 then z - 2305843009213693951 else z
set_option maxHeartbeats 4000000 in
set_option maxRecDepth 100000 in
theorem c_M_sum {e0 : Nat → va_E} {x y : Nat} (h : x + y < 2 ^ 63) : Met l yM_sum (Cond.code yM_sum bM_sum 6 (some .long) :: tws) { frames := 0, cells := 0, slots := 0, locals := 0 } (gPc (tw D cI cZ cT cJ base) D cl ad 25 base (e0) [.long (lN x), .long (lN y)]) (gQc D cl ad 25 base (some (.long (lN (sm (x + y))))) (fun e => e = e0)) 0 0 (gA base) := by
  refine Met.ofW (cc := bM_sum) (maxL := 6) (ret := (some .long)) (by decide) rfl ?_
  intro p e s m args below meth c s₁ B hml hv
  obtain ⟨rfl, htw, hB, hP⟩ := hv
  have hx := B.exec
  have hb := B.bytes
  have hr := B.returns
  have hts0 := atoms_spec (ws := Cond.code yM_sum bM_sum 6 (some .long) :: tws) B.pre
  have hts : ∀ w ∈ tws, w.before _ s = true := fun w h => hts0 w (List.mem_cons_of_mem _ h)
  have hown : s.vm.findClass "PairedTextsModel" = some m.cls := findClass_of_methodNamed B.named
  have hlocks := B.notSynchronized
  have hno := B.noHandlers (hts0 _ List.mem_cons_self)
  have F : CallFix p m c bM_sum 6 s _ tws "PairedTextsModel" := ⟨hx, hb, hml, hown, hts⟩
  have hK := htw.1
  have hS : va_S (gA base) s.heap s.heap [] := va_S.rf
  have hl := lv_entry ([.long (lN x), .long (lN y)]) (n := 6) (Nat.le_of_ble_eq_true rfl)
  rw [lg_entry_eq]
  generalize (lg_sl ([.long (lN x), .long (lN y)]) ++ List.replicate (6 - (lg_sl ([.long (lN x), .long (lN y)])).length) Slot.unset).toArray = ls at hl ⊢
  have hl : lv_has ls 6 [(0, .long (lN x)), (2, .long (lN y))] := hl
  refine lv_lload_n hx hb dM_sum_0 rfl (lv_at hl 0 rfl) ?_
  refine lv_lload_n hx hb dM_sum_1 rfl (lv_at hl 1 rfl) ?_
  refine lv_ladd hx hb dM_sum_2 ?_
  rw [lN_add]
  refine lv_lstore hx hb dM_sum_3 hl (by decide) rfl (fun ls hl => ?_)
  have hl : lv_has ls 6 [(4, .long _), (0, .long _), (2, .long _)] := hl
  refine lv_lload hx hb dM_sum_5 (lv_at hl 0 rfl) ?_
  refine lv_ldc2 (v := 2305843009213693951) hx hb hown (hts _ k3_80) dM_sum_7 ?_
  refine W.lcmp hx hb dM_sum_10 ?_
  refine lv_if_lt (tgt := 23) hx hb dM_sum_11 (by decide) (fun hc => ?_) (fun hc => ?_)
  · rw [lg_cmp_lt, show (2305843009213693951 : Int64) = lN 2305843009213693951 from rfl, pk_lLT (by omega) (by decide)] at hc
    refine lv_lload hx hb dM_sum_23 (lv_at hl 0 rfl) ?_
    have hv : sm (x + y) = x + y := if_neg (by omega)
    exact W.lret hx hb hr (fun t ht hW => ⟨by rw [hv], ⟨_, rfl, by rw [ht]; exact hP⟩, hS.F ht⟩) hS.2.2 dM_sum_25
  · rw [lg_cmp_lt, show (2305843009213693951 : Int64) = lN 2305843009213693951 from rfl, pk_lLT (by omega) (by decide)] at hc
    refine lv_lload hx hb dM_sum_14 (lv_at hl 0 rfl) ?_
    refine lv_ldc2 (v := 2305843009213693951) hx hb hown (hts _ k3_80) dM_sum_16 ?_
    refine lv_lsub hx hb dM_sum_19 ?_
    rw [show (2305843009213693951 : Int64) = lN 2305843009213693951 from rfl, lN_sub (by omega)]
    refine lv_goto (tgt := 25) hx hb dM_sum_20 (by decide) ?_
    have hv : sm (x + y) = x + y - 2305843009213693951 := if_pos (by omega)
    exact W.lret hx hb hr (fun t ht hW => ⟨by rw [hv], ⟨_, rfl, by rw [ht]; exact hP⟩, hS.F ht⟩) hS.2.2 dM_sum_25
set_option maxHeartbeats 4000000 in
set_option maxRecDepth 100000 in
theorem c_M_times {e0 : Nat → va_E} {a : Nat} (ha : a < 2305843009213693951) : Met l yM_times (Cond.code yM_times bM_times 10 (some .long) :: tws) { frames := 1, cells := 0, slots := 0, locals := 25 } (gPc (tw D cI cZ cT cJ base) D cl ad 25 base (e0) [.long (lN a)]) (gQc D cl ad 25 base (some (.long (lN (sm ((((a / 1099511627776) * 1000003) / 2097152 + ((a / 1099511627776) * 1000003) % 2097152 * 1099511627776) + ((a % 1099511627776) * 1000003)))))) (fun e => e = e0)) 0 0 (gA base) := by
  refine Met.ofW (cc := bM_times) (maxL := 10) (ret := (some .long)) (by decide) rfl ?_
  intro p e s m args below meth c s₁ B hml hv
  obtain ⟨rfl, htw, hB, hP⟩ := hv
  have hx := B.exec
  have hb := B.bytes
  have hr := B.returns
  have hts0 := atoms_spec (ws := Cond.code yM_times bM_times 10 (some .long) :: tws) B.pre
  have hts : ∀ w ∈ tws, w.before _ s = true := fun w h => hts0 w (List.mem_cons_of_mem _ h)
  have hown : s.vm.findClass "PairedTextsModel" = some m.cls := findClass_of_methodNamed B.named
  have hlocks := B.notSynchronized
  have hno := B.noHandlers (hts0 _ List.mem_cons_self)
  have F : CallFix p m c bM_times 10 s _ tws "PairedTextsModel" := ⟨hx, hb, hml, hown, hts⟩
  have hK := htw.1
  have hS : va_S (gA base) s.heap s.heap [] := va_S.rf
  have hl := lv_entry ([.long (lN a)]) (n := 10) (Nat.le_of_ble_eq_true rfl)
  rw [lg_entry_eq]
  generalize (lg_sl ([.long (lN a)]) ++ List.replicate (10 - (lg_sl ([.long (lN a)])).length) Slot.unset).toArray = ls at hl ⊢
  have hl : lv_has ls 10 [(0, .long (lN a))] := hl
  have hh := (nm_mod a 0 ha (((a / 1099511627776) * 1000003) / 2097152 + ((a / 1099511627776) * 1000003) % 2097152 * 1099511627776) 0 0 rfl).1
  refine lv_lload_n hx hb dM_times_0 rfl (lv_at hl 0 rfl) ?_
  refine lv_bipush (v := 40) hx hb dM_times_1 (by decide) ?_
  refine lv_lshr (v := lN (a / 1099511627776)) hx hb dM_times_3 (wb_sar (k := 40) (by omega) (by decide)) ?_
  refine lv_ldc2 (v := 1000003) hx hb hown (hts _ k3_77) dM_times_4 ?_
  refine lv_lmul hx hb dM_times_7 ?_
  rw [show (1000003 : Int64) = lN 1000003 from rfl, lN_mul]
  refine lv_lstore_n hx hb dM_times_8 rfl hl (by decide) rfl (fun ls hl => ?_)
  have hl : lv_has ls 10 [(2, .long _), (0, .long _)] := hl
  refine lv_lload_n hx hb dM_times_9 rfl (lv_at hl 1 rfl) ?_
  refine lv_ldc2 (v := 1099511627775) hx hb hown (hts _ k3_78) dM_times_10 ?_
  refine lv_land hx hb dM_times_13 ?_
  rw [show (1099511627775 : Int64) = lN (2 ^ 40 - 1) from rfl, wb_mask (by omega) (by decide)]
  refine lv_ldc2 (v := 1000003) hx hb hown (hts _ k3_77) dM_times_14 ?_
  refine lv_lmul hx hb dM_times_17 ?_
  rw [show (1000003 : Int64) = lN 1000003 from rfl, lN_mul]
  refine lv_lstore hx hb dM_times_18 hl (by decide) rfl (fun ls hl => ?_)
  have hl : lv_has ls 10 [(4, .long _), (2, .long _), (0, .long _)] := hl
  refine lv_lload_n hx hb dM_times_20 rfl (lv_at hl 1 rfl) ?_
  refine lv_bipush (v := 21) hx hb dM_times_21 (by decide) ?_
  refine lv_lshr (v := lN (((a / 1099511627776) * 1000003) / 2097152)) hx hb dM_times_23 (wb_sar (k := 21) (by omega) (by decide)) ?_
  refine lv_lload_n hx hb dM_times_24 rfl (lv_at hl 1 rfl) ?_
  refine lv_ldc2 (v := 2097151) hx hb hown (hts _ k3_79) dM_times_25 ?_
  refine lv_land hx hb dM_times_28 ?_
  rw [show (2097151 : Int64) = lN (2 ^ 21 - 1) from rfl, wb_mask (by omega) (by decide)]
  refine lv_bipush (v := 40) hx hb dM_times_29 (by decide) ?_
  refine lv_lshl (v := lN (((a / 1099511627776) * 1000003) % 2097152 * 1099511627776)) hx hb dM_times_31 (wb_shl _ (k := 40) (by decide)) ?_
  refine lv_ladd hx hb dM_times_32 ?_
  rw [lN_add]
  refine lv_lstore hx hb dM_times_33 hl (by decide) rfl (fun ls hl => ?_)
  have hl : lv_has ls 10 [(6, .long _), (4, .long _), (2, .long _), (0, .long _)] := hl
  refine lv_lload hx hb dM_times_35 (lv_at hl 0 rfl) ?_
  refine lv_ldc2 (v := 2305843009213693951) hx hb hown (hts _ k3_80) dM_times_37 ?_
  refine W.lcmp hx hb dM_times_40 ?_
  refine lv_if_lt (tgt := 53) hx hb dM_times_41 (by decide) (fun _ => ?_) (fun hc => absurd (by rw [lg_cmp_lt, show (2305843009213693951 : Int64) = lN 2305843009213693951 from rfl, pk_lLT (by omega) (by decide)]; exact hh) hc)
  refine lv_lload hx hb dM_times_53 (lv_at hl 0 rfl) ?_
  refine lv_lstore hx hb dM_times_55 hl (by decide) rfl (fun ls hl => ?_)
  have hl : lv_has ls 10 [(8, .long _), (6, .long _), (4, .long _), (2, .long _), (0, .long _)] := hl
  refine lv_lload hx hb dM_times_57 (lv_at hl 0 rfl) ?_
  refine lv_lload hx hb dM_times_59 (lv_at hl 2 rfl) ?_
  refine g_S (k := 2) F htw hB hS hP (c_M_sum (x := (((a / 1099511627776) * 1000003) / 2097152 + ((a / 1099511627776) * 1000003) % 2097152 * 1099511627776)) (y := ((a % 1099511627776) * 1000003)) (by omega)) k3_81 k3_82 k1_5 k3_83 (by decide +kernel) rfl rfl ⟨Nat.le_of_ble_eq_true rfl, Nat.le_of_ble_eq_true rfl⟩ rfl hl.1 rfl (Nat.le_of_ble_eq_true rfl) dM_times_61 ⟨Nat.le_of_ble_eq_true rfl, Nat.le_of_ble_eq_true rfl⟩ (fun en1 H locs he hP hS => ?_)
  rw [he] at hP
  exact W.lret hx hb hr (fun t ht hW => ⟨rfl, ⟨_, rfl, by rw [ht]; exact hP⟩, hS.F ht⟩) hS.2.2 dM_times_64
set_option maxHeartbeats 4000000 in
set_option maxRecDepth 100000 in
theorem c_M_stands {a : Ab} (ha : a_ok a) (hR : RepM M a) {d i e0 : Nat} (hd : d < 4) (hi : i ≤ e0) (he : e0 ≤ a_n a d) : Met l yM_stands (Cond.code yM_stands bM_stands 6 (some .boolean) :: tws) { frames := 0, cells := 0, slots := 0, locals := 0 } (gPc (tw D cI cZ cT cJ base) D cl ad 25 base (en ad cI cZ cT cJ pi dr S M o) [.ref (ad 17), .int (nI d), .int (nI i), .int (nI e0)]) (gQc D cl ad 25 base (some (.int (if stB a d i e0 then 1 else 0))) (fun e => e = en ad cI cZ cT cJ pi dr S M o)) 0 0 (gA base) := by
  refine Met.ofW (cc := bM_stands) (maxL := 6) (ret := (some .boolean)) (by decide) rfl ?_
  intro p e s m args below meth c s₁ B hml hv
  obtain ⟨rfl, htw, hB, hP⟩ := hv
  have hx := B.exec
  have hb := B.bytes
  have hr := B.returns
  have hts0 := atoms_spec (ws := Cond.code yM_stands bM_stands 6 (some .boolean) :: tws) B.pre
  have hts : ∀ w ∈ tws, w.before _ s = true := fun w h => hts0 w (List.mem_cons_of_mem _ h)
  have hown : s.vm.findClass "PairedTextsModel" = some m.cls := findClass_of_methodNamed B.named
  have hlocks := B.notSynchronized
  have hno := B.noHandlers (hts0 _ List.mem_cons_self)
  have F : CallFix p m c bM_stands 6 s _ tws "PairedTextsModel" := ⟨hx, hb, hml, hown, hts⟩
  have hK := htw.1
  have hS : va_S (gA base) s.heap s.heap [] := va_S.rf
  have hl := lv_entry ([.ref (ad 17), .int (nI d), .int (nI i), .int (nI e0)]) (n := 6) (Nat.le_of_ble_eq_true rfl)
  rw [lg_entry_eq]
  generalize (lg_sl ([.ref (ad 17), .int (nI d), .int (nI i), .int (nI e0)]) ++ List.replicate (6 - (lg_sl ([.ref (ad 17), .int (nI d), .int (nI i), .int (nI e0)])).length) Slot.unset).toArray = ls at hl ⊢
  have hl : lv_has ls 6 [(0, .ref (ad 17)), (1, .int (nI d)), (2, .int (nI i)), (3, .int (nI e0))] := hl
  have hn := ha.1 d hd
  have h16 := ha.2.2.1
  have e7 := hR.2.2.1
  refine lv_iload_n hx hb dM_stands_0 rfl (lv_at hl 2 rfl) ?_
  refine lv_aload_n hx hb dM_stands_1 rfl (lv_at hl 0 rfl) ?_
  refine g_get F hK hP (17) (by decide) rfl rfl iM 5 (by decide) k2_201 rfl dM_stands_2 ?_
  refine lv_iadd hx hb dM_stands_5 ?_
  rw [e7, nI_add]
  refine lv_iload_n hx hb dM_stands_6 rfl (lv_at hl 3 rfl) ?_
  refine lv_icmp_gt (tgt := 14) hx hb dM_stands_7 (by decide) (fun hc => ?_) (fun hc => ?_)
  · rw [nI_ltI (by omega) (by omega)] at hc
    refine lv_iconst (v := 0) hx hb dM_stands_14 (by decide) ?_
    refine lv_istore hx hb dM_stands_15 hl (by decide) rfl (fun ls hl => ?_)
    have hl : lv_has ls 6 [(4, .int _), (0, .ref _), (1, .int _), (2, .int _), (3, .int _)] := hl
    refine lv_iconst (v := 0) hx hb dM_stands_17 (by decide) ?_
    refine lv_istore hx hb dM_stands_18 hl (by decide) rfl (fun ls hl => ?_)
    have hl : lv_has ls 6 [(5, .int _), (4, .int _), (0, .ref _), (1, .int _), (2, .int _), (3, .int _)] := hl
    refine lv_iload hx hb dM_stands_20 (lv_at hl 0 rfl) ?_
    refine lv_aload_n hx hb dM_stands_22 rfl (lv_at hl 2 rfl) ?_
    refine g_get F hK hP (17) (by decide) rfl rfl iM 5 (by decide) k2_201 rfl dM_stands_23 ?_
    rw [e7]
    refine lv_icmp_ge (tgt := 72) hx hb dM_stands_26 (by decide) (fun hc => absurd hc (by rw [show (0 : Int32) = nI 0 from rfl, nI_leI (by omega) (by omega)]; omega)) (fun _ => ?_)
    refine lv_iload hx hb dM_stands_29 (lv_at hl 1 rfl) ?_
    refine lv_if_eq (tgt := 72) hx hb dM_stands_31 (by decide) (fun _ => ?_) (fun hc => absurd (rfl : (0 : Int32) = 0) hc)
    refine lv_iload hx hb dM_stands_72 (lv_at hl 1 rfl) ?_
    have hv : (if stB a d i e0 then (1 : Int32) else 0) = 0 := if_neg (by unfold stB; rw [decide_eq_false (by omega)]; simp)
    exact W.zret hx hb hr rfl (fun t ht hW => ⟨by rw [hv], ⟨_, rfl, by rw [ht]; exact hP⟩, hS.F ht⟩) hS.2.2 dM_stands_74
  · rw [nI_ltI (by omega) (by omega)] at hc
    have hs0 : stB a d i e0 = alb (fun k => decide (a_b a d (i + k) = a_q a k)) (a_p a) 0 := by unfold stB; rw [decide_eq_true (by omega)]; rfl
    refine lv_iconst (v := 1) hx hb dM_stands_10 (by decide) ?_
    refine lv_goto (tgt := 15) hx hb dM_stands_11 (by decide) ?_
    refine lv_istore hx hb dM_stands_15 hl (by decide) rfl (fun ls hl => ?_)
    have hl : lv_has ls 6 [(4, .int _), (0, .ref _), (1, .int _), (2, .int _), (3, .int _)] := hl
    refine lv_iconst (v := 0) hx hb dM_stands_17 (by decide) ?_
    refine lv_istore hx hb dM_stands_18 hl (by decide) rfl (fun ls hl => ?_)
    have hl : lv_has ls 6 [(5, .int _), (4, .int _), (0, .ref _), (1, .int _), (2, .int _), (3, .int _)] := hl
    refine W.loop (α := Nat) (fun t a1 ls H locs => a1 + t = a_p a ∧ alb (fun k => decide (a_b a d (i + k) = a_q a k)) t a1 = alb (fun k => decide (a_b a d (i + k) = a_q a k)) (a_p a) 0 ∧ lv_has ls 6 [(5, .int (nI a1)), (4, .int 1), (0, .ref (ad 17)), (1, .int (nI d)), (2, .int (nI i)), (3, .int (nI e0))] ∧ va_P D cl (gw ad (en ad cI cZ cT cJ pi dr S M o) 25) H ∧ va_S (gA base) s.heap H locs) ?_ (t := (a_p a)) (a := 0) ⟨by omega, rfl, hl, hP, hS⟩
    clear hl hP hS
    intro t a1 ls H locs hI ih
    obtain ⟨i0, i1, hl, hP, hS⟩ := hI
    try dsimp only at i0 i1 hl hP
    by_cases ht : t = 0
    · subst ht
      refine lv_iload hx hb dM_stands_20 (lv_at hl 0 rfl) ?_
      refine lv_aload_n hx hb dM_stands_22 rfl (lv_at hl 2 rfl) ?_
      refine g_get F hK hP (17) (by decide) rfl rfl iM 5 (by decide) k2_201 rfl dM_stands_23 ?_
      rw [e7]
      refine lv_icmp_ge (tgt := 72) hx hb dM_stands_26 (by decide) (fun _ => ?_) (fun hc => absurd (by rw [nI_leI (by omega) (by omega)]; omega) hc)
      refine lv_iload hx hb dM_stands_72 (lv_at hl 1 rfl) ?_
      have hv : (if stB a d i e0 then (1 : Int32) else 0) = 1 := if_pos (by rw [hs0, ← i1]; rfl)
      exact W.zret hx hb hr rfl (fun t ht hW => ⟨by rw [hv], ⟨_, rfl, by rw [ht]; exact hP⟩, hS.F ht⟩) hS.2.2 dM_stands_74
    · obtain ⟨t, rfl⟩ : ∃ u, t = u + 1 := ⟨t - 1, by omega⟩
      refine lv_iload hx hb dM_stands_20 (lv_at hl 0 rfl) ?_
      refine lv_aload_n hx hb dM_stands_22 rfl (lv_at hl 2 rfl) ?_
      refine g_get F hK hP (17) (by decide) rfl rfl iM 5 (by decide) k2_201 rfl dM_stands_23 ?_
      rw [e7]
      refine lv_icmp_ge (tgt := 72) hx hb dM_stands_26 (by decide) (fun hc => absurd hc (by rw [nI_leI (by omega) (by omega)]; omega)) (fun _ => ?_)
      refine lv_iload hx hb dM_stands_29 (lv_at hl 1 rfl) ?_
      refine lv_if_eq (tgt := 72) hx hb dM_stands_31 (by decide) (fun hc => absurd hc (show ¬ (1 : Int32) = 0 by decide)) (fun _ => ?_)
      refine lv_aload_n hx hb dM_stands_34 rfl (lv_at hl 2 rfl) ?_
      refine g_get F hK hP (17) (by decide) rfl rfl iM 1 (by decide) k2_197 rfl dM_stands_35 ?_
      refine lv_sipush (v := 1000) hx hb dM_stands_38 (by decide) ?_
      refine lv_iload_n hx hb dM_stands_41 rfl (lv_at hl 3 rfl) ?_
      refine lv_imul hx hb dM_stands_42 ?_
      refine lv_iload_n hx hb dM_stands_43 rfl (lv_at hl 4 rfl) ?_
      refine lv_iadd hx hb dM_stands_44 ?_
      rw [k_at]
      refine lv_iload hx hb dM_stands_45 (lv_at hl 0 rfl) ?_
      refine lv_iadd hx hb dM_stands_47 ?_
      rw [nI_add]
      refine g_iald F hK hP (18) (by decide) 0 rfl rfl (vp_in_nI (show 1000 * d + i + a1 < 4000 by omega) (by omega)) dM_stands_48 ?_
      rw [nI_clamp (show 1000 * d + i + a1 < 2 ^ 31 by omega), Nat.add_assoc (1000 * d) i a1, hR.2.1 d (i + a1) hd (by omega)]
      refine lv_aload_n hx hb dM_stands_49 rfl (lv_at hl 2 rfl) ?_
      refine g_get F hK hP (17) (by decide) rfl rfl iM 6 (by decide) k2_202 rfl dM_stands_50 ?_
      refine lv_iload hx hb dM_stands_53 (lv_at hl 0 rfl) ?_
      refine g_iald F hK hP (21) (by decide) 0 rfl rfl (vp_in_nI (show a1 < 16 by omega) (by omega)) dM_stands_55 ?_
      rw [nI_clamp (show a1 < 2 ^ 31 by omega), hR.2.2.2.1 a1 (by omega)]
      have b1 := ha.2.1 d (i + a1) hd (by omega)
      have b2 := ha.2.2.2.1 a1 (by omega)
      have i1 : (if decide (a_b a d (i + a1) = a_q a a1) then alb (fun k => decide (a_b a d (i + k) = a_q a k)) t (a1 + 1) else false) = alb (fun k => decide (a_b a d (i + k) = a_q a k)) (a_p a) 0 := i1
      refine lv_icmp_ne (tgt := 63) hx hb dM_stands_56 (by decide) (fun hx4 => ?_) (fun hx4 => ?_)
      · rw [nI_eq (show a_b a d (i + a1) < 2 ^ 31 by omega) (show a_q a a1 < 2 ^ 31 by omega)] at hx4
        rw [if_neg (by simpa using hx4)] at i1
        have hv : (if stB a d i e0 then (1 : Int32) else 0) = 0 := if_neg (by rw [hs0, ← i1]; simp)
        refine lv_iconst (v := 0) hx hb dM_stands_63 (by decide) ?_
        refine lv_istore hx hb dM_stands_64 hl (by decide) rfl (fun ls hl => ?_)
        have hl : lv_has ls 6 [(4, .int _), (5, .int _), (0, .ref _), (1, .int _), (2, .int _), (3, .int _)] := hl
        refine lv_iinc (k := 1) hx hb dM_stands_66 hl rfl rfl (by decide) rfl (fun ls hl => ?_)
        have hl : lv_has ls 6 [(5, .int _), (4, .int _), (0, .ref _), (1, .int _), (2, .int _), (3, .int _)] := hl
        refine lv_goto (tgt := 20) hx hb dM_stands_69 (by decide) ?_
        refine lv_iload hx hb dM_stands_20 (lv_at hl 0 rfl) ?_
        refine lv_aload_n hx hb dM_stands_22 rfl (lv_at hl 2 rfl) ?_
        refine g_get F hK hP (17) (by decide) rfl rfl iM 5 (by decide) k2_201 rfl dM_stands_23 ?_
        refine lv_icmp_ge (tgt := 72) hx hb dM_stands_26 (by decide) (fun hx5 => ?_) (fun hx5 => ?_)
        · refine lv_iload hx hb dM_stands_72 (lv_at hl 1 rfl) ?_
          exact W.zret hx hb hr rfl (fun t ht hW => ⟨by rw [hv], ⟨_, rfl, by rw [ht]; exact hP⟩, hS.F ht⟩) hS.2.2 dM_stands_74
        · refine lv_iload hx hb dM_stands_29 (lv_at hl 1 rfl) ?_
          refine lv_if_eq (tgt := 72) hx hb dM_stands_31 (by decide) (fun _ => ?_) (fun hc => absurd (rfl : (0 : Int32) = 0) hc)
          refine lv_iload hx hb dM_stands_72 (lv_at hl 1 rfl) ?_
          exact W.zret hx hb hr rfl (fun t ht hW => ⟨by rw [hv], ⟨_, rfl, by rw [ht]; exact hP⟩, hS.F ht⟩) hS.2.2 dM_stands_74
      · simp only [ne_eq, Decidable.not_not, nI_eq (show a_b a d (i + a1) < 2 ^ 31 by omega) (show a_q a a1 < 2 ^ 31 by omega)] at hx4
        rw [if_pos (by simpa using hx4)] at i1
        refine lv_iconst (v := 1) hx hb dM_stands_59 (by decide) ?_
        refine lv_goto (tgt := 64) hx hb dM_stands_60 (by decide) ?_
        refine lv_istore hx hb dM_stands_64 hl (by decide) rfl (fun ls hl => ?_)
        have hl : lv_has ls 6 [(4, .int _), (5, .int _), (0, .ref _), (1, .int _), (2, .int _), (3, .int _)] := hl
        refine lv_iinc (k := 1) hx hb dM_stands_66 hl rfl rfl (by decide) rfl (fun ls hl => ?_)
        have hl : lv_has ls 6 [(5, .int _), (4, .int _), (0, .ref _), (1, .int _), (2, .int _), (3, .int _)] := hl
        refine lv_goto (tgt := 20) hx hb dM_stands_69 (by decide) ?_
        have hl : lv_has ls 6 [(5, .int (nI (a1 + 1))), (4, .int 1), (0, .ref (ad 17)), (1, .int (nI d)), (2, .int (nI i)), (3, .int (nI e0))] := by rw [← nI_1]; exact hl
        exact ih t (a1 + 1) _ _ _ (by omega) ⟨by omega, i1, hl, hP, hS⟩
end N1
end
