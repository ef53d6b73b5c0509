-- ===== PART A: goes FIRST, ahead of the names: the tables' words, and 'selects' of the private methods out of them =====
/-- a private method of a class that the tables say can be made, by its rows of tables_1 -/
def lw_okq (q : MethodName × Nat) : Prop := (q.1.cls ≠ "java/lang/invoke/MethodHandle" ∧ q.1.cls ≠ "java/lang/invoke/VarHandle") ∧ Cond.instantiable q.1.cls q.2 ∈ tables_1 ∧ Cond.privateMethod q.1 ∈ tables_1 ∧ Cond.instanceMethod q.1 ∈ tables_1
theorem lw_p0 : lw_okq (⟨"VersionFold", "foldAt", "(I)LVersionFold$Fold;"⟩, 2) := ⟨⟨by decide +kernel, by decide +kernel⟩, List.mem_of_getElem? (i := 14) (by decide +kernel), List.mem_of_getElem? (i := 154) (by decide +kernel), List.mem_of_getElem? (i := 155) (by decide +kernel)⟩
theorem lw_p1 : lw_okq (⟨"java/lang/Throwable", "fillInStackTrace", "(I)Ljava/lang/Throwable;"⟩, 6) := ⟨⟨by decide +kernel, by decide +kernel⟩, List.mem_of_getElem? (i := 195) (by decide +kernel), List.mem_of_getElem? (i := 193) (by decide +kernel), List.mem_of_getElem? (i := 194) (by decide +kernel)⟩
theorem lw_p2 : lw_okq (⟨"VersionFold$Fold", "openNextRow", "()V"⟩, 10) := ⟨⟨by decide +kernel, by decide +kernel⟩, List.mem_of_getElem? (i := 29) (by decide +kernel), List.mem_of_getElem? (i := 243) (by decide +kernel), List.mem_of_getElem? (i := 244) (by decide +kernel)⟩
theorem lw_p3 : lw_okq (⟨"VersionFold$Fold", "store", "(LVersionFold$Request;)V"⟩, 10) := ⟨⟨by decide +kernel, by decide +kernel⟩, List.mem_of_getElem? (i := 29) (by decide +kernel), List.mem_of_getElem? (i := 253) (by decide +kernel), List.mem_of_getElem? (i := 254) (by decide +kernel)⟩
theorem lw_p4 : lw_okq (⟨"VersionFold$Fold", "hasKeysOf", "(LVersionFold$Fold;)Z"⟩, 10) := ⟨⟨by decide +kernel, by decide +kernel⟩, List.mem_of_getElem? (i := 29) (by decide +kernel), List.mem_of_getElem? (i := 376) (by decide +kernel), List.mem_of_getElem? (i := 377) (by decide +kernel)⟩
theorem lw_p5 : lw_okq (⟨"VersionFold$Fold", "hasSessionsOf", "(LVersionFold$Fold;)Z"⟩, 10) := ⟨⟨by decide +kernel, by decide +kernel⟩, List.mem_of_getElem? (i := 29) (by decide +kernel), List.mem_of_getElem? (i := 381) (by decide +kernel), List.mem_of_getElem? (i := 382) (by decide +kernel)⟩
theorem lw_p6 : lw_okq (⟨"VersionFoldModel", "lacks", "(I)Z"⟩, 17) := ⟨⟨by decide +kernel, by decide +kernel⟩, List.mem_of_getElem? (i := 396) (by decide +kernel), List.mem_of_getElem? (i := 477) (by decide +kernel), List.mem_of_getElem? (i := 478) (by decide +kernel)⟩
theorem lw_p7 : lw_okq (⟨"VersionFoldModel", "decided", "(I)I"⟩, 17) := ⟨⟨by decide +kernel, by decide +kernel⟩, List.mem_of_getElem? (i := 396) (by decide +kernel), List.mem_of_getElem? (i := 481) (by decide +kernel), List.mem_of_getElem? (i := 482) (by decide +kernel)⟩
theorem lw_p8 : lw_okq (⟨"VersionFoldModel", "writtenSince", "(II)I"⟩, 17) := ⟨⟨by decide +kernel, by decide +kernel⟩, List.mem_of_getElem? (i := 396) (by decide +kernel), List.mem_of_getElem? (i := 486) (by decide +kernel), List.mem_of_getElem? (i := 487) (by decide +kernel)⟩
def lw_privs_1 : List (MethodName × Nat) := [(⟨"VersionFold", "foldAt", "(I)LVersionFold$Fold;"⟩, 2), (⟨"java/lang/Throwable", "fillInStackTrace", "(I)Ljava/lang/Throwable;"⟩, 6), (⟨"VersionFold$Fold", "openNextRow", "()V"⟩, 10), (⟨"VersionFold$Fold", "store", "(LVersionFold$Request;)V"⟩, 10), (⟨"VersionFold$Fold", "hasKeysOf", "(LVersionFold$Fold;)Z"⟩, 10), (⟨"VersionFold$Fold", "hasSessionsOf", "(LVersionFold$Fold;)Z"⟩, 10), (⟨"VersionFoldModel", "lacks", "(I)Z"⟩, 17), (⟨"VersionFoldModel", "decided", "(I)I"⟩, 17), (⟨"VersionFoldModel", "writtenSince", "(II)I"⟩, 17)]
theorem lw_r1 : ∀ q ∈ lw_privs_1, lw_okq q := List.forall_mem_cons.mpr ⟨lw_p0, List.forall_mem_cons.mpr ⟨lw_p1, List.forall_mem_cons.mpr ⟨lw_p2, List.forall_mem_cons.mpr ⟨lw_p3, List.forall_mem_cons.mpr ⟨lw_p4, List.forall_mem_cons.mpr ⟨lw_p5, List.forall_mem_cons.mpr ⟨lw_p6, List.forall_mem_cons.mpr ⟨lw_p7, List.forall_mem_cons.mpr ⟨lw_p8, fun _ h => absurd h List.not_mem_nil⟩⟩⟩⟩⟩⟩⟩⟩⟩
def lw_privs : List (MethodName × Nat) := lw_privs_1
def lw_tbl : List Cond := k2_sels lw_privs ++ tables_1
theorem lw_privs_ok : ∀ q ∈ lw_privs, lw_okq q := lw_r1

def lw_g : List Cond := lw_tbl.filter goodWord
theorem lw_mem {w : Cond} (h : w ∈ lw_tbl) (g : goodWord w = true) : w ∈ lw_g := List.mem_filter.mpr ⟨h, g⟩
theorem lw_gd : ∀ w ∈ lw_g, (w.onTables && w.keeps) = true ∨ ∃ ty, w = .arrayClass ty := fun w h => good_of_word (List.mem_filter.mp h).2
theorem gd_V {own C : String} {idx n : Nat} {y : MethodName} {b : ByteArray} {r : Option FieldType} (h1 : Cond.methodLink own idx y ∈ lw_g) (h2 : Cond.instanceMethod y ∈ lw_g) (h3 : Cond.selects C y y ∈ lw_g) (h4 : Cond.initialized C ∈ lw_g) (h5 : Cond.code y b n r ∈ lw_g) : GoodIn lw_g (wsV own idx C y (.code y b n r :: lw_g)) := by
  intro w hw
  have hm : w ∈ lw_g := by
    simp only [wsV, List.cons_append, List.nil_append, List.mem_cons] at hw
    rcases hw with rfl | rfl | rfl | rfl | rfl | hw
    · exact h1
    · exact h2
    · exact h3
    · exact h4
    · exact h5
    · exact hw
  exact ⟨hm, lw_gd w hm⟩
theorem gd_S {own : String} {idx n : Nat} {y : MethodName} {b : ByteArray} {r : Option FieldType} (h1 : Cond.methodLink own idx y ∈ lw_g) (h2 : Cond.static y ∈ lw_g) (h4 : Cond.initialized y.cls ∈ lw_g) (h5 : Cond.code y b n r ∈ lw_g) : GoodIn lw_g (va_wsS own idx y (.code y b n r :: lw_g)) := by
  intro w hw
  have hm : w ∈ lw_g := by
    simp only [va_wsS, List.cons_append, List.nil_append, List.mem_cons] at hw
    rcases hw with rfl | rfl | rfl | rfl | hw
    · exact h1
    · exact h2
    · exact h4
    · exact h5
    · exact hw
  exact ⟨hm, lw_gd w hm⟩
theorem gd_I {n : Nat} {y : MethodName} {b : ByteArray} {r : Option FieldType} (h5 : Cond.code y b n r ∈ lw_g) : GoodIn lw_g (.code y b n r :: lw_g) := by
  intro w hw
  have hm : w ∈ lw_g := by
    rcases List.mem_cons.mp hw with rfl | hw
    · exact h5
    · exact hw
  exact ⟨hm, lw_gd w hm⟩
def RFo : String := "VersionFold$Fold"
def TFo : u_T := fun k => match k with
  | 0 => ("VersionFold$Fold", "versions", "I", true)
  | 1 => ("VersionFold$Fold", "index", "I", false)
  | 2 => ("VersionFold$Fold", "horizon", "I", false)
  | 3 => ("VersionFold$Fold", "committed", "I", false)
  | 4 => ("VersionFold$Fold", "aborted", "I", false)
  | 5 => ("VersionFold$Fold", "neither", "I", false)
  | 6 => ("VersionFold$Fold", "rows", "[I", true)
  | 7 => ("VersionFold$Fold", "lastWrites", "[I", true)
  | 8 => ("VersionFold$Fold", "seqs", "[I", true)
  | _ => ("VersionFold$Fold", "verdicts", "[I", true)
def tyFo : Nat → FieldType := fun k => match k with
  | 0 => .int
  | 1 => .int
  | 2 => .int
  | 3 => .int
  | 4 => .int
  | 5 => .int
  | 6 => .array .int
  | 7 => .array .int
  | 8 => .array .int
  | _ => .array .int
theorem nmFo : ∀ a, a < 10 → ∀ b, b < 10 → a ≠ b → (TFo a).2.1 ≠ (TFo b).2.1 := by decide +kernel
theorem tyFo_ok : ∀ k, k < 10 → parseFieldDescriptor (TFo k).2.2.1 = some (tyFo k) := by decide +kernel
abbrev cFo_init : ByteArray := prog_2_method_1_code
def yFo_init : MethodName := ⟨RFo, "<init>", "(I)V"⟩
abbrev cFo_letIn : ByteArray := prog_2_method_3_code
def methOf (d : MethodName) : Cond → MethodName
  | .instanceMethod y => y
  | _ => d
def yFo_letIn : MethodName := ⟨RFo, (methOf yFo_init (tables_1_1.getD 225 (.initialized RFo))).name, "(LVersionFold$Request;)I"⟩
abbrev cFo_decide : ByteArray := prog_2_method_2_code
def yFo_decide : MethodName := ⟨RFo, "decide", "(LVersionFold$Request;)I"⟩
abbrev cFo_oldestSnapshot : ByteArray := prog_2_method_7_code
def yFo_oldestSnapshot : MethodName := ⟨RFo, "oldestSnapshot", "()I"⟩
abbrev cFo_keysAfter : ByteArray := prog_2_method_8_code
def yFo_keysAfter : MethodName := ⟨RFo, "keysAfter", "(I)I"⟩
abbrev cFo_openNextRow : ByteArray := prog_2_method_4_code
def yFo_openNextRow : MethodName := ⟨RFo, "openNextRow", "()V"⟩
abbrev cFo_rowStart : ByteArray := prog_2_method_6_code
def yFo_rowStart : MethodName := ⟨RFo, "rowStart", "(I)I"⟩
abbrev cFo_store : ByteArray := prog_2_method_5_code
def yFo_store : MethodName := ⟨RFo, "store", "(LVersionFold$Request;)V"⟩
abbrev cFo_become : ByteArray := prog_2_method_15_code
def yFo_become : MethodName := ⟨RFo, "become", "(LVersionFold$Fold;)V"⟩
abbrev cFo_reset : ByteArray := prog_2_method_16_code
def yFo_reset : MethodName := ⟨RFo, "reset", "()V"⟩
abbrev cFo_valueAt : ByteArray := prog_2_method_10_code
def yFo_valueAt : MethodName := ⟨RFo, "valueAt", "(II)I"⟩
abbrev cFo_keptWrite : ByteArray := prog_2_method_9_code
def yFo_keptWrite : MethodName := ⟨RFo, "keptWrite", "(I)I"⟩
abbrev cFo_isLike : ByteArray := prog_2_method_12_code
def yFo_isLike : MethodName := ⟨RFo, "isLike", "(LVersionFold$Fold;)Z"⟩
abbrev cFo_hasKeysOf : ByteArray := prog_2_method_13_code
def yFo_hasKeysOf : MethodName := ⟨RFo, "hasKeysOf", "(LVersionFold$Fold;)Z"⟩
abbrev cFo_hasSessionsOf : ByteArray := prog_2_method_14_code
def yFo_hasSessionsOf : MethodName := ⟨RFo, "hasSessionsOf", "(LVersionFold$Fold;)Z"⟩
abbrev cFo_sumOfValues : ByteArray := prog_2_method_11_code
def yFo_sumOfValues : MethodName := ⟨RFo, "sumOfValues", "()I"⟩
def RRq : String := "VersionFold$Request"
def TRq : u_T := fun k => match k with
  | 0 => ("VersionFold$Request", "session", "I", false)
  | 1 => ("VersionFold$Request", "seq", "I", false)
  | 2 => ("VersionFold$Request", "snapshot", "I", false)
  | 3 => ("VersionFold$Request", "readSet", "I", false)
  | 4 => ("VersionFold$Request", "writeSet", "I", false)
  | _ => ("VersionFold$Request", "values", "[I", true)
def tyRq : Nat → FieldType := fun k => match k with
  | 0 => .int
  | 1 => .int
  | 2 => .int
  | 3 => .int
  | 4 => .int
  | _ => .array .int
theorem nmRq : ∀ a, a < 6 → ∀ b, b < 6 → a ≠ b → (TRq a).2.1 ≠ (TRq b).2.1 := by decide +kernel
theorem tyRq_ok : ∀ k, k < 6 → parseFieldDescriptor (TRq k).2.2.1 = some (tyRq k) := by decide +kernel
abbrev cRq_init : ByteArray := prog_3_method_1_code
def yRq_init : MethodName := ⟨RRq, "<init>", "()V"⟩
abbrev cRq_begin : ByteArray := prog_3_method_2_code
def yRq_begin : MethodName := ⟨RRq, "begin", "(III)V"⟩
abbrev cRq_addRead : ByteArray := prog_3_method_3_code
def yRq_addRead : MethodName := ⟨RRq, "addRead", "(I)V"⟩
abbrev cRq_addWrite : ByteArray := prog_3_method_4_code
def yRq_addWrite : MethodName := ⟨RRq, "addWrite", "(II)V"⟩
abbrev cRq_hasWrite : ByteArray := prog_3_method_5_code
def yRq_hasWrite : MethodName := ⟨RRq, "hasWrite", "(I)Z"⟩
def RVf : String := "VersionFold"
def TVf : u_T := fun k => match k with
  | 0 => ("VersionFold", "folds", "[LVersionFold$Fold;", true)
  | _ => ("VersionFold", "request", "LVersionFold$Request;", true)
def tyVf : Nat → FieldType := fun k => match k with
  | 0 => .array (.object "VersionFold$Fold")
  | _ => .object "VersionFold$Request"
theorem nmVf : ∀ a, a < 2 → ∀ b, b < 2 → a ≠ b → (TVf a).2.1 ≠ (TVf b).2.1 := by decide +kernel
theorem tyVf_ok : ∀ k, k < 2 → parseFieldDescriptor (TVf k).2.2.1 = some (tyVf k) := by decide +kernel
abbrev cVf_init : ByteArray := prog_1_method_1_code
def yVf_init : MethodName := ⟨RVf, "<init>", "(I)V"⟩
abbrev cVf_draft : ByteArray := prog_1_method_2_code
def yVf_draft : MethodName := ⟨RVf, "draft", "(III)Z"⟩
abbrev cVf_isSession : ByteArray := prog_1_method_18_code
def yVf_isSession : MethodName := ⟨RVf, "isSession", "(I)Z"⟩
abbrev cVf_reads : ByteArray := prog_1_method_3_code
def yVf_reads : MethodName := ⟨RVf, "reads", "(I)Z"⟩
abbrev cVf_isKey : ByteArray := prog_1_method_17_code
def yVf_isKey : MethodName := ⟨RVf, "isKey", "(I)Z"⟩
abbrev cVf_writes : ByteArray := prog_1_method_4_code
def yVf_writes : MethodName := ⟨RVf, "writes", "(II)Z"⟩
abbrev cVf_apply : ByteArray := prog_1_method_5_code
def yVf_apply : MethodName := ⟨RVf, "apply", "(I)I"⟩
abbrev cVf_foldAt : ByteArray := prog_1_method_16_code
def yVf_foldAt : MethodName := ⟨RVf, "foldAt", "(I)LVersionFold$Fold;"⟩
abbrev cVf_test : ByteArray := prog_1_method_6_code
def yVf_test : MethodName := ⟨RVf, "test", "(I)I"⟩
abbrev cVf_take : ByteArray := prog_1_method_7_code
def yVf_take : MethodName := ⟨RVf, "take", "(II)Z"⟩
abbrev cVf_clear : ByteArray := prog_1_method_8_code
def yVf_clear : MethodName := ⟨RVf, "clear", "(I)V"⟩
abbrev cVf_value : ByteArray := prog_1_method_9_code
def yVf_value : MethodName := ⟨RVf, "value", "(III)I"⟩
abbrev cVf_requireKey : ByteArray := prog_1_method_19_code
def yVf_requireKey : MethodName := ⟨RVf, "requireKey", "(I)V"⟩
abbrev cVf_seq : ByteArray := prog_1_method_10_code
def yVf_seq : MethodName := ⟨RVf, "seq", "(II)I"⟩
abbrev cVf_requireSession : ByteArray := prog_1_method_20_code
def yVf_requireSession : MethodName := ⟨RVf, "requireSession", "(I)V"⟩
abbrev cVf_verdict : ByteArray := prog_1_method_11_code
def yVf_verdict : MethodName := ⟨RVf, "verdict", "(II)I"⟩
abbrev cVf_written : ByteArray := prog_1_method_12_code
def yVf_written : MethodName := ⟨RVf, "written", "(II)I"⟩
abbrev cVf_since : ByteArray := prog_1_method_13_code
def yVf_since : MethodName := ⟨RVf, "since", "(II)I"⟩
abbrev cVf_same : ByteArray := prog_1_method_14_code
def yVf_same : MethodName := ⟨RVf, "same", "(II)Z"⟩
abbrev cVf_look : ByteArray := prog_1_method_15_code
def yVf_look : MethodName := ⟨RVf, "look", "(II)I"⟩
def RMd : String := "VersionFoldModel"
def TMd : u_T := fun k => match k with
  | 0 => ("VersionFoldModel", "thrown", "I", false)
  | 1 => ("VersionFoldModel", "versions", "I", true)
  | 2 => ("VersionFoldModel", "index", "[I", true)
  | 3 => ("VersionFoldModel", "horizon", "[I", true)
  | 4 => ("VersionFoldModel", "committed", "[I", true)
  | 5 => ("VersionFoldModel", "aborted", "[I", true)
  | 6 => ("VersionFoldModel", "neither", "[I", true)
  | 7 => ("VersionFoldModel", "seqs", "[I", true)
  | 8 => ("VersionFoldModel", "verdicts", "[I", true)
  | 9 => ("VersionFoldModel", "written", "[I", true)
  | 10 => ("VersionFoldModel", "values", "[I", true)
  | 11 => ("VersionFoldModel", "session", "I", false)
  | 12 => ("VersionFoldModel", "seq", "I", false)
  | 13 => ("VersionFoldModel", "snapshot", "I", false)
  | 14 => ("VersionFoldModel", "reads", "I", false)
  | 15 => ("VersionFoldModel", "writes", "I", false)
  | _ => ("VersionFoldModel", "draft", "[I", true)
def tyMd : Nat → FieldType := fun k => match k with
  | 0 => .int
  | 1 => .int
  | 2 => .array .int
  | 3 => .array .int
  | 4 => .array .int
  | 5 => .array .int
  | 6 => .array .int
  | 7 => .array .int
  | 8 => .array .int
  | 9 => .array .int
  | 10 => .array .int
  | 11 => .int
  | 12 => .int
  | 13 => .int
  | 14 => .int
  | 15 => .int
  | _ => .array .int
theorem nmMd : ∀ a, a < 17 → ∀ b, b < 17 → a ≠ b → (TMd a).2.1 ≠ (TMd b).2.1 := by decide +kernel
theorem tyMd_ok : ∀ k, k < 17 → parseFieldDescriptor (TMd k).2.2.1 = some (tyMd k) := by decide +kernel
abbrev cMd_init : ByteArray := prog_5_method_1_code
def yMd_init : MethodName := ⟨RMd, "<init>", "(I)V"⟩
abbrev cMd_thrown : ByteArray := prog_5_method_2_code
def yMd_thrown : MethodName := ⟨RMd, "thrown", "()I"⟩
abbrev cMd_draft : ByteArray := prog_5_method_5_code
def yMd_draft : MethodName := ⟨RMd, "draft", "(III)Z"⟩
abbrev cMd_is16 : ByteArray := prog_5_method_3_code
def yMd_is16 : MethodName := ⟨RMd, "is16", "(I)Z"⟩
abbrev cMd_reads : ByteArray := prog_5_method_6_code
def yMd_reads : MethodName := ⟨RMd, "reads", "(I)Z"⟩
abbrev cMd_writes : ByteArray := prog_5_method_7_code
def yMd_writes : MethodName := ⟨RMd, "writes", "(II)Z"⟩
abbrev cMd_test : ByteArray := prog_5_method_10_code
def yMd_test : MethodName := ⟨RMd, "test", "(I)I"⟩
abbrev cMd_lacks : ByteArray := prog_5_method_4_code
def yMd_lacks : MethodName := ⟨RMd, "lacks", "(I)Z"⟩
abbrev cMd_decided : ByteArray := prog_5_method_9_code
def yMd_decided : MethodName := ⟨RMd, "decided", "(I)I"⟩
abbrev cMd_writtenSince : ByteArray := prog_5_method_8_code
def yMd_writtenSince : MethodName := ⟨RMd, "writtenSince", "(II)I"⟩
abbrev cMd_apply : ByteArray := prog_5_method_11_code
def yMd_apply : MethodName := ⟨RMd, "apply", "(I)I"⟩
abbrev cMd_take : ByteArray := prog_5_method_12_code
def yMd_take : MethodName := ⟨RMd, "take", "(II)Z"⟩
abbrev cMd_clear : ByteArray := prog_5_method_13_code
def yMd_clear : MethodName := ⟨RMd, "clear", "(I)V"⟩
abbrev cMd_value : ByteArray := prog_5_method_14_code
def yMd_value : MethodName := ⟨RMd, "value", "(III)I"⟩
abbrev cMd_seq : ByteArray := prog_5_method_15_code
def yMd_seq : MethodName := ⟨RMd, "seq", "(II)I"⟩
abbrev cMd_verdict : ByteArray := prog_5_method_16_code
def yMd_verdict : MethodName := ⟨RMd, "verdict", "(II)I"⟩
abbrev cMd_written : ByteArray := prog_5_method_17_code
def yMd_written : MethodName := ⟨RMd, "written", "(II)I"⟩
abbrev cMd_since : ByteArray := prog_5_method_18_code
def yMd_since : MethodName := ⟨RMd, "since", "(II)I"⟩
abbrev cMd_same : ByteArray := prog_5_method_19_code
def yMd_same : MethodName := ⟨RMd, "same", "(II)Z"⟩
abbrev cMd_look : ByteArray := prog_5_method_20_code
def yMd_look : MethodName := ⟨RMd, "look", "(II)I"⟩
def RLw : String := "VersionFoldLaw"
abbrev cLw_cell : ByteArray := method_2_code
def yLw_cell : MethodName := ⟨RLw, "cell", "([II)I"⟩
abbrev cLw_apply : ByteArray := method_3_code
def yLw_apply : MethodName := ⟨RLw, "apply", "(LVersionFold;I[J)I"⟩
abbrev cLw_test : ByteArray := method_4_code
def yLw_test : MethodName := ⟨RLw, "test", "(LVersionFold;I[J)I"⟩
abbrev cLw_take : ByteArray := method_5_code
def yLw_take : MethodName := ⟨RLw, "take", "(LVersionFold;II[J)I"⟩
abbrev cLw_clear : ByteArray := method_6_code
def yLw_clear : MethodName := ⟨RLw, "clear", "(LVersionFold;I)I"⟩
abbrev cLw_value : ByteArray := method_7_code
def yLw_value : MethodName := ⟨RLw, "value", "(LVersionFold;III[J)I"⟩
abbrev cLw_seq : ByteArray := method_8_code
def yLw_seq : MethodName := ⟨RLw, "seq", "(LVersionFold;II[J)I"⟩
abbrev cLw_verdict : ByteArray := method_9_code
def yLw_verdict : MethodName := ⟨RLw, "verdict", "(LVersionFold;II[J)I"⟩
abbrev cLw_written : ByteArray := method_10_code
def yLw_written : MethodName := ⟨RLw, "written", "(LVersionFold;II[J)I"⟩
abbrev cLw_since : ByteArray := method_11_code
def yLw_since : MethodName := ⟨RLw, "since", "(LVersionFold;II[J)I"⟩
abbrev cLw_same : ByteArray := method_12_code
def yLw_same : MethodName := ⟨RLw, "same", "(LVersionFold;II[J)I"⟩
abbrev cLw_look : ByteArray := method_13_code
def yLw_look : MethodName := ⟨RLw, "look", "(LVersionFold;II[J)I"⟩
abbrev cLw_law : ByteArray := code
def RJa : String := "java/util/Arrays"
abbrev cJa_fill : ByteArray := prog_14_method_103_code
def yJa_fill : MethodName := ⟨RJa, "fill", "([II)V"⟩
abbrev vwCl : List vw_C := [(RFo, TFo, 10), (RRq, TRq, 6), (RVf, TVf, 2), (RMd, TMd, 17)]
abbrev wsVf_init : List Cond := .code yVf_init cVf_init 4 none :: lw_g
abbrev wsFo_init : List Cond := .code yFo_init cFo_init 2 none :: lw_g
abbrev wsRq_init : List Cond := .code yRq_init cRq_init 1 none :: lw_g
abbrev wsVf_draft : List Cond := .code yVf_draft cVf_draft 4 (some .boolean) :: lw_g
abbrev wsVf_isSession : List Cond := .code yVf_isSession cVf_isSession 1 (some .boolean) :: lw_g
abbrev wsRq_begin : List Cond := .code yRq_begin cRq_begin 4 none :: lw_g
abbrev wsVf_reads : List Cond := .code yVf_reads cVf_reads 2 (some .boolean) :: lw_g
abbrev wsVf_isKey : List Cond := .code yVf_isKey cVf_isKey 1 (some .boolean) :: lw_g
abbrev wsRq_addRead : List Cond := .code yRq_addRead cRq_addRead 2 none :: lw_g
abbrev wsVf_writes : List Cond := .code yVf_writes cVf_writes 3 (some .boolean) :: lw_g
abbrev wsRq_addWrite : List Cond := .code yRq_addWrite cRq_addWrite 3 none :: lw_g
abbrev wsLw_cell : List Cond := .code yLw_cell cLw_cell 2 (some .int) :: lw_g
abbrev wsLw_apply : List Cond := .codeWith yLw_apply cLw_apply 4 (some .int) [(0, 9, 12, 13)] :: lw_g
abbrev wsVf_apply : List Cond := .code yVf_apply cVf_apply 2 (some .int) :: lw_g
abbrev wsVf_foldAt : List Cond := .code yVf_foldAt cVf_foldAt 2 (some (.object "VersionFold$Fold")) :: lw_g
abbrev wsFo_letIn : List Cond := .code yFo_letIn cFo_letIn 3 (some .int) :: lw_g
abbrev wsFo_decide : List Cond := .code yFo_decide cFo_decide 3 (some .int) :: lw_g
abbrev wsFo_oldestSnapshot : List Cond := .code yFo_oldestSnapshot cFo_oldestSnapshot 1 (some .int) :: lw_g
abbrev wsFo_keysAfter : List Cond := .code yFo_keysAfter cFo_keysAfter 5 (some .int) :: lw_g
abbrev wsFo_openNextRow : List Cond := .code yFo_openNextRow cFo_openNextRow 2 none :: lw_g
abbrev wsFo_rowStart : List Cond := .code yFo_rowStart cFo_rowStart 1 (some .int) :: lw_g
abbrev wsFo_store : List Cond := .code yFo_store cFo_store 4 none :: lw_g
abbrev wsRq_hasWrite : List Cond := .code yRq_hasWrite cRq_hasWrite 2 (some .boolean) :: lw_g
abbrev wsLw_test : List Cond := .codeWith yLw_test cLw_test 4 (some .int) [(0, 9, 12, 13)] :: lw_g
abbrev wsVf_test : List Cond := .code yVf_test cVf_test 2 (some .int) :: lw_g
abbrev wsLw_take : List Cond := .codeWith yLw_take cLw_take 5 (some .int) [(0, 17, 20, 13)] :: lw_g
abbrev wsVf_take : List Cond := .code yVf_take cVf_take 5 (some .boolean) :: lw_g
abbrev wsFo_become : List Cond := .code yFo_become cFo_become 2 none :: lw_g
abbrev wsLw_clear : List Cond := .codeWith yLw_clear cLw_clear 3 (some .int) [(0, 5, 8, 13)] :: lw_g
abbrev wsVf_clear : List Cond := .code yVf_clear cVf_clear 2 none :: lw_g
abbrev wsFo_reset : List Cond := .code yFo_reset cFo_reset 1 none :: lw_g
abbrev wsJa_fill : List Cond := .code yJa_fill cJa_fill 4 none :: lw_g
abbrev wsLw_value : List Cond := .codeWith yLw_value cLw_value 6 (some .int) [(0, 12, 15, 13), (0, 12, 19, 30)] :: lw_g
abbrev wsVf_value : List Cond := .code yVf_value cVf_value 5 (some .int) :: lw_g
abbrev wsVf_requireKey : List Cond := .code yVf_requireKey cVf_requireKey 1 none :: lw_g
abbrev wsFo_valueAt : List Cond := .code yFo_valueAt cFo_valueAt 3 (some .int) :: lw_g
abbrev wsLw_seq : List Cond := .codeWith yLw_seq cLw_seq 5 (some .int) [(0, 10, 13, 13), (0, 10, 17, 30)] :: lw_g
abbrev wsVf_seq : List Cond := .code yVf_seq cVf_seq 4 (some .int) :: lw_g
abbrev wsVf_requireSession : List Cond := .code yVf_requireSession cVf_requireSession 1 none :: lw_g
abbrev wsLw_verdict : List Cond := .codeWith yLw_verdict cLw_verdict 5 (some .int) [(0, 10, 13, 13), (0, 10, 17, 30)] :: lw_g
abbrev wsVf_verdict : List Cond := .code yVf_verdict cVf_verdict 4 (some .int) :: lw_g
abbrev wsLw_written : List Cond := .codeWith yLw_written cLw_written 5 (some .int) [(0, 10, 13, 13), (0, 10, 17, 30)] :: lw_g
abbrev wsVf_written : List Cond := .code yVf_written cVf_written 4 (some .int) :: lw_g
abbrev wsFo_keptWrite : List Cond := .code yFo_keptWrite cFo_keptWrite 3 (some .int) :: lw_g
abbrev wsLw_since : List Cond := .codeWith yLw_since cLw_since 5 (some .int) [(0, 10, 13, 13), (0, 10, 17, 30)] :: lw_g
abbrev wsVf_since : List Cond := .code yVf_since cVf_since 4 (some .int) :: lw_g
abbrev wsLw_same : List Cond := .codeWith yLw_same cLw_same 5 (some .int) [(0, 17, 20, 13)] :: lw_g
abbrev wsVf_same : List Cond := .code yVf_same cVf_same 5 (some .boolean) :: lw_g
abbrev wsFo_isLike : List Cond := .code yFo_isLike cFo_isLike 2 (some .boolean) :: lw_g
abbrev wsFo_hasKeysOf : List Cond := .code yFo_hasKeysOf cFo_hasKeysOf 6 (some .boolean) :: lw_g
abbrev wsFo_hasSessionsOf : List Cond := .code yFo_hasSessionsOf cFo_hasSessionsOf 3 (some .boolean) :: lw_g
abbrev wsLw_look : List Cond := .codeWith yLw_look cLw_look 5 (some .int) [(0, 10, 13, 13)] :: lw_g
abbrev wsVf_look : List Cond := .code yVf_look cVf_look 4 (some .int) :: lw_g
abbrev wsFo_sumOfValues : List Cond := .code yFo_sumOfValues cFo_sumOfValues 3 (some .int) :: lw_g
abbrev wsMd_init : List Cond := .code yMd_init cMd_init 2 none :: lw_g
abbrev wsMd_thrown : List Cond := .code yMd_thrown cMd_thrown 1 (some .int) :: lw_g
abbrev wsMd_draft : List Cond := .code yMd_draft cMd_draft 4 (some .boolean) :: lw_g
abbrev wsMd_is16 : List Cond := .code yMd_is16 cMd_is16 1 (some .boolean) :: lw_g
abbrev wsMd_reads : List Cond := .code yMd_reads cMd_reads 2 (some .boolean) :: lw_g
abbrev wsMd_writes : List Cond := .code yMd_writes cMd_writes 3 (some .boolean) :: lw_g
abbrev wsMd_test : List Cond := .code yMd_test cMd_test 2 (some .int) :: lw_g
abbrev wsMd_lacks : List Cond := .code yMd_lacks cMd_lacks 2 (some .boolean) :: lw_g
abbrev wsMd_decided : List Cond := .code yMd_decided cMd_decided 3 (some .int) :: lw_g
abbrev wsMd_writtenSince : List Cond := .code yMd_writtenSince cMd_writtenSince 5 (some .int) :: lw_g
abbrev wsMd_apply : List Cond := .code yMd_apply cMd_apply 8 (some .int) :: lw_g
abbrev wsMd_take : List Cond := .code yMd_take cMd_take 4 (some .boolean) :: lw_g
abbrev wsMd_clear : List Cond := .code yMd_clear cMd_clear 3 none :: lw_g
abbrev wsMd_value : List Cond := .code yMd_value cMd_value 4 (some .int) :: lw_g
abbrev wsMd_seq : List Cond := .code yMd_seq cMd_seq 3 (some .int) :: lw_g
abbrev wsMd_verdict : List Cond := .code yMd_verdict cMd_verdict 3 (some .int) :: lw_g
abbrev wsMd_written : List Cond := .code yMd_written cMd_written 4 (some .int) :: lw_g
abbrev wsMd_since : List Cond := .code yMd_since cMd_since 3 (some .int) :: lw_g
abbrev wsMd_same : List Cond := .code yMd_same cMd_same 5 (some .boolean) :: lw_g
abbrev wsMd_look : List Cond := .code yMd_look cMd_look 5 (some .int) :: lw_g
