section
-- ===== PART A: goes FIRST, ahead of the names: the tables' words, and 'selects' of the private methods out of them =====
/-- a private method of a class that the tables say can be made, by its rows of tables_1 -/
def lw_okq (q : MethodName × Nat) : Prop := (q.1.cls ≠ "java/lang/invoke/MethodHandle" ∧ q.1.cls ≠ "java/lang/invoke/VarHandle") ∧ Cond.instantiable q.1.cls q.2 ∈ tables_1 ∧ Cond.privateMethod q.1 ∈ tables_1 ∧ Cond.instanceMethod q.1 ∈ tables_1
theorem lw_p0 : lw_okq (⟨"VersionFold", "foldAt", "(I)LVersionFold$Fold;"⟩, 2) := ⟨⟨by decide +kernel, by decide +kernel⟩, List.mem_of_getElem? (i := 14) (by decide +kernel), List.mem_of_getElem? (i := 154) (by decide +kernel), List.mem_of_getElem? (i := 155) (by decide +kernel)⟩
theorem lw_p1 : lw_okq (⟨"java/lang/Throwable", "fillInStackTrace", "(I)Ljava/lang/Throwable;"⟩, 6) := ⟨⟨by decide +kernel, by decide +kernel⟩, List.mem_of_getElem? (i := 195) (by decide +kernel), List.mem_of_getElem? (i := 193) (by decide +kernel), List.mem_of_getElem? (i := 194) (by decide +kernel)⟩
theorem lw_p2 : lw_okq (⟨"VersionFold$Fold", "openNextRow", "()V"⟩, 10) := ⟨⟨by decide +kernel, by decide +kernel⟩, List.mem_of_getElem? (i := 29) (by decide +kernel), List.mem_of_getElem? (i := 243) (by decide +kernel), List.mem_of_getElem? (i := 244) (by decide +kernel)⟩
theorem lw_p3 : lw_okq (⟨"VersionFold$Fold", "store", "(LVersionFold$Request;)V"⟩, 10) := ⟨⟨by decide +kernel, by decide +kernel⟩, List.mem_of_getElem? (i := 29) (by decide +kernel), List.mem_of_getElem? (i := 253) (by decide +kernel), List.mem_of_getElem? (i := 254) (by decide +kernel)⟩
theorem lw_p4 : lw_okq (⟨"VersionFold$Fold", "hasKeysOf", "(LVersionFold$Fold;)Z"⟩, 10) := ⟨⟨by decide +kernel, by decide +kernel⟩, List.mem_of_getElem? (i := 29) (by decide +kernel), List.mem_of_getElem? (i := 376) (by decide +kernel), List.mem_of_getElem? (i := 377) (by decide +kernel)⟩
theorem lw_p5 : lw_okq (⟨"VersionFold$Fold", "hasSessionsOf", "(LVersionFold$Fold;)Z"⟩, 10) := ⟨⟨by decide +kernel, by decide +kernel⟩, List.mem_of_getElem? (i := 29) (by decide +kernel), List.mem_of_getElem? (i := 381) (by decide +kernel), List.mem_of_getElem? (i := 382) (by decide +kernel)⟩
theorem lw_p6 : lw_okq (⟨"VersionFoldModel", "lacks", "(I)Z"⟩, 17) := ⟨⟨by decide +kernel, by decide +kernel⟩, List.mem_of_getElem? (i := 396) (by decide +kernel), List.mem_of_getElem? (i := 477) (by decide +kernel), List.mem_of_getElem? (i := 478) (by decide +kernel)⟩
theorem lw_p7 : lw_okq (⟨"VersionFoldModel", "decided", "(I)I"⟩, 17) := ⟨⟨by decide +kernel, by decide +kernel⟩, List.mem_of_getElem? (i := 396) (by decide +kernel), List.mem_of_getElem? (i := 481) (by decide +kernel), List.mem_of_getElem? (i := 482) (by decide +kernel)⟩
theorem lw_p8 : lw_okq (⟨"VersionFoldModel", "writtenSince", "(II)I"⟩, 17) := ⟨⟨by decide +kernel, by decide +kernel⟩, List.mem_of_getElem? (i := 396) (by decide +kernel), List.mem_of_getElem? (i := 486) (by decide +kernel), List.mem_of_getElem? (i := 487) (by decide +kernel)⟩
def lw_privs_1 : List (MethodName × Nat) := [(⟨"VersionFold", "foldAt", "(I)LVersionFold$Fold;"⟩, 2), (⟨"java/lang/Throwable", "fillInStackTrace", "(I)Ljava/lang/Throwable;"⟩, 6), (⟨"VersionFold$Fold", "openNextRow", "()V"⟩, 10), (⟨"VersionFold$Fold", "store", "(LVersionFold$Request;)V"⟩, 10), (⟨"VersionFold$Fold", "hasKeysOf", "(LVersionFold$Fold;)Z"⟩, 10), (⟨"VersionFold$Fold", "hasSessionsOf", "(LVersionFold$Fold;)Z"⟩, 10), (⟨"VersionFoldModel", "lacks", "(I)Z"⟩, 17), (⟨"VersionFoldModel", "decided", "(I)I"⟩, 17), (⟨"VersionFoldModel", "writtenSince", "(II)I"⟩, 17)]
theorem lw_r1 : ∀ q ∈ lw_privs_1, lw_okq q := List.forall_mem_cons.mpr ⟨lw_p0, List.forall_mem_cons.mpr ⟨lw_p1, List.forall_mem_cons.mpr ⟨lw_p2, List.forall_mem_cons.mpr ⟨lw_p3, List.forall_mem_cons.mpr ⟨lw_p4, List.forall_mem_cons.mpr ⟨lw_p5, List.forall_mem_cons.mpr ⟨lw_p6, List.forall_mem_cons.mpr ⟨lw_p7, List.forall_mem_cons.mpr ⟨lw_p8, fun _ h => absurd h List.not_mem_nil⟩⟩⟩⟩⟩⟩⟩⟩⟩
def lw_privs : List (MethodName × Nat) := lw_privs_1
def lw_tbl : List Cond := k2_sels lw_privs ++ tables_1
theorem lw_privs_ok : ∀ q ∈ lw_privs, lw_okq q := lw_r1

def lw_g : List Cond := lw_tbl.filter goodWord
theorem lw_mem {w : Cond} (h : w ∈ lw_tbl) (g : goodWord w = true) : w ∈ lw_g := List.mem_filter.mpr ⟨h, g⟩
theorem lw_gd : ∀ w ∈ lw_g, (w.onTables && w.keeps) = true ∨ ∃ ty, w = .arrayClass ty := fun w h => good_of_word (List.mem_filter.mp h).2
theorem gd_V {own C : String} {idx n : Nat} {y : MethodName} {b : ByteArray} {r : Option FieldType} (h1 : Cond.methodLink own idx y ∈ lw_g) (h2 : Cond.instanceMethod y ∈ lw_g) (h3 : Cond.selects C y y ∈ lw_g) (h4 : Cond.initialized C ∈ lw_g) (h5 : Cond.code y b n r ∈ lw_g) : GoodIn lw_g (wsV own idx C y (.code y b n r :: lw_g)) := by
  intro w hw
  have hm : w ∈ lw_g := by
    simp only [wsV, List.cons_append, List.nil_append, List.mem_cons] at hw
    rcases hw with rfl | rfl | rfl | rfl | rfl | hw
    · exact h1
    · exact h2
    · exact h3
    · exact h4
    · exact h5
    · exact hw
  exact ⟨hm, lw_gd w hm⟩
theorem gd_S {own : String} {idx n : Nat} {y : MethodName} {b : ByteArray} {r : Option FieldType} (h1 : Cond.methodLink own idx y ∈ lw_g) (h2 : Cond.static y ∈ lw_g) (h4 : Cond.initialized y.cls ∈ lw_g) (h5 : Cond.code y b n r ∈ lw_g) : GoodIn lw_g (va_wsS own idx y (.code y b n r :: lw_g)) := by
  intro w hw
  have hm : w ∈ lw_g := by
    simp only [va_wsS, List.cons_append, List.nil_append, List.mem_cons] at hw
    rcases hw with rfl | rfl | rfl | rfl | hw
    · exact h1
    · exact h2
    · exact h4
    · exact h5
    · exact hw
  exact ⟨hm, lw_gd w hm⟩
theorem gd_I {n : Nat} {y : MethodName} {b : ByteArray} {r : Option FieldType} (h5 : Cond.code y b n r ∈ lw_g) : GoodIn lw_g (.code y b n r :: lw_g) := by
  intro w hw
  have hm : w ∈ lw_g := by
    rcases List.mem_cons.mp hw with rfl | hw
    · exact h5
    · exact hw
  exact ⟨hm, lw_gd w hm⟩
def RFo : String := "VersionFold$Fold"
def TFo : u_T := fun k => match k with
  | 0 => ("VersionFold$Fold", "versions", "I", true)
  | 1 => ("VersionFold$Fold", "index", "I", false)
  | 2 => ("VersionFold$Fold", "horizon", "I", false)
  | 3 => ("VersionFold$Fold", "committed", "I", false)
  | 4 => ("VersionFold$Fold", "aborted", "I", false)
  | 5 => ("VersionFold$Fold", "neither", "I", false)
  | 6 => ("VersionFold$Fold", "rows", "[I", true)
  | 7 => ("VersionFold$Fold", "lastWrites", "[I", true)
  | 8 => ("VersionFold$Fold", "seqs", "[I", true)
  | _ => ("VersionFold$Fold", "verdicts", "[I", true)
def tyFo : Nat → FieldType := fun k => match k with
  | 0 => .int
  | 1 => .int
  | 2 => .int
  | 3 => .int
  | 4 => .int
  | 5 => .int
  | 6 => .array .int
  | 7 => .array .int
  | 8 => .array .int
  | _ => .array .int
theorem nmFo : ∀ a, a < 10 → ∀ b, b < 10 → a ≠ b → (TFo a).2.1 ≠ (TFo b).2.1 := by decide +kernel
theorem tyFo_ok : ∀ k, k < 10 → parseFieldDescriptor (TFo k).2.2.1 = some (tyFo k) := by decide +kernel
abbrev cFo_init : ByteArray := prog_2_method_1_code
def yFo_init : MethodName := ⟨RFo, "<init>", "(I)V"⟩
abbrev cFo_admit : ByteArray := prog_2_method_3_code
def yFo_admit : MethodName := ⟨RFo, "admit", "(LVersionFold$Request;)I"⟩
abbrev cFo_decide : ByteArray := prog_2_method_2_code
def yFo_decide : MethodName := ⟨RFo, "decide", "(LVersionFold$Request;)I"⟩
abbrev cFo_oldestSnapshot : ByteArray := prog_2_method_7_code
def yFo_oldestSnapshot : MethodName := ⟨RFo, "oldestSnapshot", "()I"⟩
abbrev cFo_keysAfter : ByteArray := prog_2_method_8_code
def yFo_keysAfter : MethodName := ⟨RFo, "keysAfter", "(I)I"⟩
abbrev cFo_openNextRow : ByteArray := prog_2_method_4_code
def yFo_openNextRow : MethodName := ⟨RFo, "openNextRow", "()V"⟩
abbrev cFo_rowStart : ByteArray := prog_2_method_6_code
def yFo_rowStart : MethodName := ⟨RFo, "rowStart", "(I)I"⟩
abbrev cFo_store : ByteArray := prog_2_method_5_code
def yFo_store : MethodName := ⟨RFo, "store", "(LVersionFold$Request;)V"⟩
abbrev cFo_become : ByteArray := prog_2_method_15_code
def yFo_become : MethodName := ⟨RFo, "become", "(LVersionFold$Fold;)V"⟩
abbrev cFo_reset : ByteArray := prog_2_method_16_code
def yFo_reset : MethodName := ⟨RFo, "reset", "()V"⟩
abbrev cFo_valueAt : ByteArray := prog_2_method_10_code
def yFo_valueAt : MethodName := ⟨RFo, "valueAt", "(II)I"⟩
abbrev cFo_keptWrite : ByteArray := prog_2_method_9_code
def yFo_keptWrite : MethodName := ⟨RFo, "keptWrite", "(I)I"⟩
abbrev cFo_isLike : ByteArray := prog_2_method_12_code
def yFo_isLike : MethodName := ⟨RFo, "isLike", "(LVersionFold$Fold;)Z"⟩
abbrev cFo_hasKeysOf : ByteArray := prog_2_method_13_code
def yFo_hasKeysOf : MethodName := ⟨RFo, "hasKeysOf", "(LVersionFold$Fold;)Z"⟩
abbrev cFo_hasSessionsOf : ByteArray := prog_2_method_14_code
def yFo_hasSessionsOf : MethodName := ⟨RFo, "hasSessionsOf", "(LVersionFold$Fold;)Z"⟩
abbrev cFo_sumOfValues : ByteArray := prog_2_method_11_code
def yFo_sumOfValues : MethodName := ⟨RFo, "sumOfValues", "()I"⟩
def RRq : String := "VersionFold$Request"
def TRq : u_T := fun k => match k with
  | 0 => ("VersionFold$Request", "session", "I", false)
  | 1 => ("VersionFold$Request", "seq", "I", false)
  | 2 => ("VersionFold$Request", "snapshot", "I", false)
  | 3 => ("VersionFold$Request", "readSet", "I", false)
  | 4 => ("VersionFold$Request", "writeSet", "I", false)
  | _ => ("VersionFold$Request", "values", "[I", true)
def tyRq : Nat → FieldType := fun k => match k with
  | 0 => .int
  | 1 => .int
  | 2 => .int
  | 3 => .int
  | 4 => .int
  | _ => .array .int
theorem nmRq : ∀ a, a < 6 → ∀ b, b < 6 → a ≠ b → (TRq a).2.1 ≠ (TRq b).2.1 := by decide +kernel
theorem tyRq_ok : ∀ k, k < 6 → parseFieldDescriptor (TRq k).2.2.1 = some (tyRq k) := by decide +kernel
abbrev cRq_init : ByteArray := prog_3_method_1_code
def yRq_init : MethodName := ⟨RRq, "<init>", "()V"⟩
abbrev cRq_begin : ByteArray := prog_3_method_2_code
def yRq_begin : MethodName := ⟨RRq, "begin", "(III)V"⟩
abbrev cRq_addRead : ByteArray := prog_3_method_3_code
def yRq_addRead : MethodName := ⟨RRq, "addRead", "(I)V"⟩
abbrev cRq_addWrite : ByteArray := prog_3_method_4_code
def yRq_addWrite : MethodName := ⟨RRq, "addWrite", "(II)V"⟩
abbrev cRq_hasWrite : ByteArray := prog_3_method_5_code
def yRq_hasWrite : MethodName := ⟨RRq, "hasWrite", "(I)Z"⟩
def RVf : String := "VersionFold"
def TVf : u_T := fun k => match k with
  | 0 => ("VersionFold", "folds", "[LVersionFold$Fold;", true)
  | _ => ("VersionFold", "request", "LVersionFold$Request;", true)
def tyVf : Nat → FieldType := fun k => match k with
  | 0 => .array (.object "VersionFold$Fold")
  | _ => .object "VersionFold$Request"
theorem nmVf : ∀ a, a < 2 → ∀ b, b < 2 → a ≠ b → (TVf a).2.1 ≠ (TVf b).2.1 := by decide +kernel
theorem tyVf_ok : ∀ k, k < 2 → parseFieldDescriptor (TVf k).2.2.1 = some (tyVf k) := by decide +kernel
abbrev cVf_init : ByteArray := prog_1_method_1_code
def yVf_init : MethodName := ⟨RVf, "<init>", "(I)V"⟩
abbrev cVf_draft : ByteArray := prog_1_method_2_code
def yVf_draft : MethodName := ⟨RVf, "draft", "(III)Z"⟩
abbrev cVf_isSession : ByteArray := prog_1_method_18_code
def yVf_isSession : MethodName := ⟨RVf, "isSession", "(I)Z"⟩
abbrev cVf_reads : ByteArray := prog_1_method_3_code
def yVf_reads : MethodName := ⟨RVf, "reads", "(I)Z"⟩
abbrev cVf_isKey : ByteArray := prog_1_method_17_code
def yVf_isKey : MethodName := ⟨RVf, "isKey", "(I)Z"⟩
abbrev cVf_writes : ByteArray := prog_1_method_4_code
def yVf_writes : MethodName := ⟨RVf, "writes", "(II)Z"⟩
abbrev cVf_apply : ByteArray := prog_1_method_5_code
def yVf_apply : MethodName := ⟨RVf, "apply", "(I)I"⟩
abbrev cVf_foldAt : ByteArray := prog_1_method_16_code
def yVf_foldAt : MethodName := ⟨RVf, "foldAt", "(I)LVersionFold$Fold;"⟩
abbrev cVf_test : ByteArray := prog_1_method_6_code
def yVf_test : MethodName := ⟨RVf, "test", "(I)I"⟩
abbrev cVf_take : ByteArray := prog_1_method_7_code
def yVf_take : MethodName := ⟨RVf, "take", "(II)Z"⟩
abbrev cVf_clear : ByteArray := prog_1_method_8_code
def yVf_clear : MethodName := ⟨RVf, "clear", "(I)V"⟩
abbrev cVf_value : ByteArray := prog_1_method_9_code
def yVf_value : MethodName := ⟨RVf, "value", "(III)I"⟩
abbrev cVf_requireKey : ByteArray := prog_1_method_19_code
def yVf_requireKey : MethodName := ⟨RVf, "requireKey", "(I)V"⟩
abbrev cVf_seq : ByteArray := prog_1_method_10_code
def yVf_seq : MethodName := ⟨RVf, "seq", "(II)I"⟩
abbrev cVf_requireSession : ByteArray := prog_1_method_20_code
def yVf_requireSession : MethodName := ⟨RVf, "requireSession", "(I)V"⟩
abbrev cVf_verdict : ByteArray := prog_1_method_11_code
def yVf_verdict : MethodName := ⟨RVf, "verdict", "(II)I"⟩
abbrev cVf_written : ByteArray := prog_1_method_12_code
def yVf_written : MethodName := ⟨RVf, "written", "(II)I"⟩
abbrev cVf_since : ByteArray := prog_1_method_13_code
def yVf_since : MethodName := ⟨RVf, "since", "(II)I"⟩
abbrev cVf_same : ByteArray := prog_1_method_14_code
def yVf_same : MethodName := ⟨RVf, "same", "(II)Z"⟩
abbrev cVf_look : ByteArray := prog_1_method_15_code
def yVf_look : MethodName := ⟨RVf, "look", "(II)I"⟩
def RMd : String := "VersionFoldModel"
def TMd : u_T := fun k => match k with
  | 0 => ("VersionFoldModel", "thrown", "I", false)
  | 1 => ("VersionFoldModel", "versions", "I", true)
  | 2 => ("VersionFoldModel", "index", "[I", true)
  | 3 => ("VersionFoldModel", "horizon", "[I", true)
  | 4 => ("VersionFoldModel", "committed", "[I", true)
  | 5 => ("VersionFoldModel", "aborted", "[I", true)
  | 6 => ("VersionFoldModel", "neither", "[I", true)
  | 7 => ("VersionFoldModel", "seqs", "[I", true)
  | 8 => ("VersionFoldModel", "verdicts", "[I", true)
  | 9 => ("VersionFoldModel", "written", "[I", true)
  | 10 => ("VersionFoldModel", "values", "[I", true)
  | 11 => ("VersionFoldModel", "session", "I", false)
  | 12 => ("VersionFoldModel", "seq", "I", false)
  | 13 => ("VersionFoldModel", "snapshot", "I", false)
  | 14 => ("VersionFoldModel", "reads", "I", false)
  | 15 => ("VersionFoldModel", "writes", "I", false)
  | _ => ("VersionFoldModel", "draft", "[I", true)
def tyMd : Nat → FieldType := fun k => match k with
  | 0 => .int
  | 1 => .int
  | 2 => .array .int
  | 3 => .array .int
  | 4 => .array .int
  | 5 => .array .int
  | 6 => .array .int
  | 7 => .array .int
  | 8 => .array .int
  | 9 => .array .int
  | 10 => .array .int
  | 11 => .int
  | 12 => .int
  | 13 => .int
  | 14 => .int
  | 15 => .int
  | _ => .array .int
theorem nmMd : ∀ a, a < 17 → ∀ b, b < 17 → a ≠ b → (TMd a).2.1 ≠ (TMd b).2.1 := by decide +kernel
theorem tyMd_ok : ∀ k, k < 17 → parseFieldDescriptor (TMd k).2.2.1 = some (tyMd k) := by decide +kernel
abbrev cMd_init : ByteArray := prog_5_method_1_code
def yMd_init : MethodName := ⟨RMd, "<init>", "(I)V"⟩
abbrev cMd_thrown : ByteArray := prog_5_method_2_code
def yMd_thrown : MethodName := ⟨RMd, "thrown", "()I"⟩
abbrev cMd_draft : ByteArray := prog_5_method_5_code
def yMd_draft : MethodName := ⟨RMd, "draft", "(III)Z"⟩
abbrev cMd_is16 : ByteArray := prog_5_method_3_code
def yMd_is16 : MethodName := ⟨RMd, "is16", "(I)Z"⟩
abbrev cMd_reads : ByteArray := prog_5_method_6_code
def yMd_reads : MethodName := ⟨RMd, "reads", "(I)Z"⟩
abbrev cMd_writes : ByteArray := prog_5_method_7_code
def yMd_writes : MethodName := ⟨RMd, "writes", "(II)Z"⟩
abbrev cMd_test : ByteArray := prog_5_method_10_code
def yMd_test : MethodName := ⟨RMd, "test", "(I)I"⟩
abbrev cMd_lacks : ByteArray := prog_5_method_4_code
def yMd_lacks : MethodName := ⟨RMd, "lacks", "(I)Z"⟩
abbrev cMd_decided : ByteArray := prog_5_method_9_code
def yMd_decided : MethodName := ⟨RMd, "decided", "(I)I"⟩
abbrev cMd_writtenSince : ByteArray := prog_5_method_8_code
def yMd_writtenSince : MethodName := ⟨RMd, "writtenSince", "(II)I"⟩
abbrev cMd_apply : ByteArray := prog_5_method_11_code
def yMd_apply : MethodName := ⟨RMd, "apply", "(I)I"⟩
abbrev cMd_take : ByteArray := prog_5_method_12_code
def yMd_take : MethodName := ⟨RMd, "take", "(II)Z"⟩
abbrev cMd_clear : ByteArray := prog_5_method_13_code
def yMd_clear : MethodName := ⟨RMd, "clear", "(I)V"⟩
abbrev cMd_value : ByteArray := prog_5_method_14_code
def yMd_value : MethodName := ⟨RMd, "value", "(III)I"⟩
abbrev cMd_seq : ByteArray := prog_5_method_15_code
def yMd_seq : MethodName := ⟨RMd, "seq", "(II)I"⟩
abbrev cMd_verdict : ByteArray := prog_5_method_16_code
def yMd_verdict : MethodName := ⟨RMd, "verdict", "(II)I"⟩
abbrev cMd_written : ByteArray := prog_5_method_17_code
def yMd_written : MethodName := ⟨RMd, "written", "(II)I"⟩
abbrev cMd_since : ByteArray := prog_5_method_18_code
def yMd_since : MethodName := ⟨RMd, "since", "(II)I"⟩
abbrev cMd_same : ByteArray := prog_5_method_19_code
def yMd_same : MethodName := ⟨RMd, "same", "(II)Z"⟩
abbrev cMd_look : ByteArray := prog_5_method_20_code
def yMd_look : MethodName := ⟨RMd, "look", "(II)I"⟩
def RLw : String := "VersionFoldLaw"
abbrev cLw_cell : ByteArray := method_2_code
def yLw_cell : MethodName := ⟨RLw, "cell", "([II)I"⟩
abbrev cLw_apply : ByteArray := method_3_code
def yLw_apply : MethodName := ⟨RLw, "apply", "(LVersionFold;I[J)I"⟩
abbrev cLw_test : ByteArray := method_4_code
def yLw_test : MethodName := ⟨RLw, "test", "(LVersionFold;I[J)I"⟩
abbrev cLw_take : ByteArray := method_5_code
def yLw_take : MethodName := ⟨RLw, "take", "(LVersionFold;II[J)I"⟩
abbrev cLw_clear : ByteArray := method_6_code
def yLw_clear : MethodName := ⟨RLw, "clear", "(LVersionFold;I)I"⟩
abbrev cLw_value : ByteArray := method_7_code
def yLw_value : MethodName := ⟨RLw, "value", "(LVersionFold;III[J)I"⟩
abbrev cLw_seq : ByteArray := method_8_code
def yLw_seq : MethodName := ⟨RLw, "seq", "(LVersionFold;II[J)I"⟩
abbrev cLw_verdict : ByteArray := method_9_code
def yLw_verdict : MethodName := ⟨RLw, "verdict", "(LVersionFold;II[J)I"⟩
abbrev cLw_written : ByteArray := method_10_code
def yLw_written : MethodName := ⟨RLw, "written", "(LVersionFold;II[J)I"⟩
abbrev cLw_since : ByteArray := method_11_code
def yLw_since : MethodName := ⟨RLw, "since", "(LVersionFold;II[J)I"⟩
abbrev cLw_same : ByteArray := method_12_code
def yLw_same : MethodName := ⟨RLw, "same", "(LVersionFold;II[J)I"⟩
abbrev cLw_look : ByteArray := method_13_code
def yLw_look : MethodName := ⟨RLw, "look", "(LVersionFold;II[J)I"⟩
abbrev cLw_law : ByteArray := code
def RJa : String := "java/util/Arrays"
abbrev cJa_fill : ByteArray := prog_14_method_103_code
def yJa_fill : MethodName := ⟨RJa, "fill", "([II)V"⟩
abbrev vwCl : List vw_C := [(RFo, TFo, 10), (RRq, TRq, 6), (RVf, TVf, 2), (RMd, TMd, 17)]
abbrev wsVf_init : List Cond := .code yVf_init cVf_init 4 none :: lw_g
abbrev wsFo_init : List Cond := .code yFo_init cFo_init 2 none :: lw_g
abbrev wsRq_init : List Cond := .code yRq_init cRq_init 1 none :: lw_g
abbrev wsVf_draft : List Cond := .code yVf_draft cVf_draft 4 (some .boolean) :: lw_g
abbrev wsVf_isSession : List Cond := .code yVf_isSession cVf_isSession 1 (some .boolean) :: lw_g
abbrev wsRq_begin : List Cond := .code yRq_begin cRq_begin 4 none :: lw_g
abbrev wsVf_reads : List Cond := .code yVf_reads cVf_reads 2 (some .boolean) :: lw_g
abbrev wsVf_isKey : List Cond := .code yVf_isKey cVf_isKey 1 (some .boolean) :: lw_g
abbrev wsRq_addRead : List Cond := .code yRq_addRead cRq_addRead 2 none :: lw_g
abbrev wsVf_writes : List Cond := .code yVf_writes cVf_writes 3 (some .boolean) :: lw_g
abbrev wsRq_addWrite : List Cond := .code yRq_addWrite cRq_addWrite 3 none :: lw_g
abbrev wsLw_cell : List Cond := .code yLw_cell cLw_cell 2 (some .int) :: lw_g
abbrev wsLw_apply : List Cond := .codeWith yLw_apply cLw_apply 4 (some .int) [(0, 9, 12, 13)] :: lw_g
abbrev wsVf_apply : List Cond := .code yVf_apply cVf_apply 2 (some .int) :: lw_g
abbrev wsVf_foldAt : List Cond := .code yVf_foldAt cVf_foldAt 2 (some (.object "VersionFold$Fold")) :: lw_g
abbrev wsFo_admit : List Cond := .code yFo_admit cFo_admit 3 (some .int) :: lw_g
abbrev wsFo_decide : List Cond := .code yFo_decide cFo_decide 3 (some .int) :: lw_g
abbrev wsFo_oldestSnapshot : List Cond := .code yFo_oldestSnapshot cFo_oldestSnapshot 1 (some .int) :: lw_g
abbrev wsFo_keysAfter : List Cond := .code yFo_keysAfter cFo_keysAfter 5 (some .int) :: lw_g
abbrev wsFo_openNextRow : List Cond := .code yFo_openNextRow cFo_openNextRow 2 none :: lw_g
abbrev wsFo_rowStart : List Cond := .code yFo_rowStart cFo_rowStart 1 (some .int) :: lw_g
abbrev wsFo_store : List Cond := .code yFo_store cFo_store 4 none :: lw_g
abbrev wsRq_hasWrite : List Cond := .code yRq_hasWrite cRq_hasWrite 2 (some .boolean) :: lw_g
abbrev wsLw_test : List Cond := .codeWith yLw_test cLw_test 4 (some .int) [(0, 9, 12, 13)] :: lw_g
abbrev wsVf_test : List Cond := .code yVf_test cVf_test 2 (some .int) :: lw_g
abbrev wsLw_take : List Cond := .codeWith yLw_take cLw_take 5 (some .int) [(0, 17, 20, 13)] :: lw_g
abbrev wsVf_take : List Cond := .code yVf_take cVf_take 5 (some .boolean) :: lw_g
abbrev wsFo_become : List Cond := .code yFo_become cFo_become 2 none :: lw_g
abbrev wsLw_clear : List Cond := .codeWith yLw_clear cLw_clear 3 (some .int) [(0, 5, 8, 13)] :: lw_g
abbrev wsVf_clear : List Cond := .code yVf_clear cVf_clear 2 none :: lw_g
abbrev wsFo_reset : List Cond := .code yFo_reset cFo_reset 1 none :: lw_g
abbrev wsJa_fill : List Cond := .code yJa_fill cJa_fill 4 none :: lw_g
abbrev wsLw_value : List Cond := .codeWith yLw_value cLw_value 6 (some .int) [(0, 12, 15, 13), (0, 12, 19, 30)] :: lw_g
abbrev wsVf_value : List Cond := .code yVf_value cVf_value 5 (some .int) :: lw_g
abbrev wsVf_requireKey : List Cond := .code yVf_requireKey cVf_requireKey 1 none :: lw_g
abbrev wsFo_valueAt : List Cond := .code yFo_valueAt cFo_valueAt 3 (some .int) :: lw_g
abbrev wsLw_seq : List Cond := .codeWith yLw_seq cLw_seq 5 (some .int) [(0, 10, 13, 13), (0, 10, 17, 30)] :: lw_g
abbrev wsVf_seq : List Cond := .code yVf_seq cVf_seq 4 (some .int) :: lw_g
abbrev wsVf_requireSession : List Cond := .code yVf_requireSession cVf_requireSession 1 none :: lw_g
abbrev wsLw_verdict : List Cond := .codeWith yLw_verdict cLw_verdict 5 (some .int) [(0, 10, 13, 13), (0, 10, 17, 30)] :: lw_g
abbrev wsVf_verdict : List Cond := .code yVf_verdict cVf_verdict 4 (some .int) :: lw_g
abbrev wsLw_written : List Cond := .codeWith yLw_written cLw_written 5 (some .int) [(0, 10, 13, 13), (0, 10, 17, 30)] :: lw_g
abbrev wsVf_written : List Cond := .code yVf_written cVf_written 4 (some .int) :: lw_g
abbrev wsFo_keptWrite : List Cond := .code yFo_keptWrite cFo_keptWrite 3 (some .int) :: lw_g
abbrev wsLw_since : List Cond := .codeWith yLw_since cLw_since 5 (some .int) [(0, 10, 13, 13), (0, 10, 17, 30)] :: lw_g
abbrev wsVf_since : List Cond := .code yVf_since cVf_since 4 (some .int) :: lw_g
abbrev wsLw_same : List Cond := .codeWith yLw_same cLw_same 5 (some .int) [(0, 17, 20, 13)] :: lw_g
abbrev wsVf_same : List Cond := .code yVf_same cVf_same 5 (some .boolean) :: lw_g
abbrev wsFo_isLike : List Cond := .code yFo_isLike cFo_isLike 2 (some .boolean) :: lw_g
abbrev wsFo_hasKeysOf : List Cond := .code yFo_hasKeysOf cFo_hasKeysOf 6 (some .boolean) :: lw_g
abbrev wsFo_hasSessionsOf : List Cond := .code yFo_hasSessionsOf cFo_hasSessionsOf 3 (some .boolean) :: lw_g
abbrev wsLw_look : List Cond := .codeWith yLw_look cLw_look 5 (some .int) [(0, 10, 13, 13)] :: lw_g
abbrev wsVf_look : List Cond := .code yVf_look cVf_look 4 (some .int) :: lw_g
abbrev wsFo_sumOfValues : List Cond := .code yFo_sumOfValues cFo_sumOfValues 3 (some .int) :: lw_g
abbrev wsMd_init : List Cond := .code yMd_init cMd_init 2 none :: lw_g
abbrev wsMd_thrown : List Cond := .code yMd_thrown cMd_thrown 1 (some .int) :: lw_g
abbrev wsMd_draft : List Cond := .code yMd_draft cMd_draft 4 (some .boolean) :: lw_g
abbrev wsMd_is16 : List Cond := .code yMd_is16 cMd_is16 1 (some .boolean) :: lw_g
abbrev wsMd_reads : List Cond := .code yMd_reads cMd_reads 2 (some .boolean) :: lw_g
abbrev wsMd_writes : List Cond := .code yMd_writes cMd_writes 3 (some .boolean) :: lw_g
abbrev wsMd_test : List Cond := .code yMd_test cMd_test 2 (some .int) :: lw_g
abbrev wsMd_lacks : List Cond := .code yMd_lacks cMd_lacks 2 (some .boolean) :: lw_g
abbrev wsMd_decided : List Cond := .code yMd_decided cMd_decided 3 (some .int) :: lw_g
abbrev wsMd_writtenSince : List Cond := .code yMd_writtenSince cMd_writtenSince 5 (some .int) :: lw_g
abbrev wsMd_apply : List Cond := .code yMd_apply cMd_apply 8 (some .int) :: lw_g
abbrev wsMd_take : List Cond := .code yMd_take cMd_take 4 (some .boolean) :: lw_g
abbrev wsMd_clear : List Cond := .code yMd_clear cMd_clear 3 none :: lw_g
abbrev wsMd_value : List Cond := .code yMd_value cMd_value 4 (some .int) :: lw_g
abbrev wsMd_seq : List Cond := .code yMd_seq cMd_seq 3 (some .int) :: lw_g
abbrev wsMd_verdict : List Cond := .code yMd_verdict cMd_verdict 3 (some .int) :: lw_g
abbrev wsMd_written : List Cond := .code yMd_written cMd_written 4 (some .int) :: lw_g
abbrev wsMd_since : List Cond := .code yMd_since cMd_since 3 (some .int) :: lw_g
abbrev wsMd_same : List Cond := .code yMd_same cMd_same 5 (some .boolean) :: lw_g
abbrev wsMd_look : List Cond := .code yMd_look cMd_look 5 (some .int) :: lw_g
end
section
theorem in_0 : (.fieldLink "VersionFold$Request" 24 "VersionFold$Request" "writeSet" "I" : Cond) ∈ lw_g := lw_mem (List.mem_append_right _ (List.mem_append_left _ (List.mem_of_getElem? (i := 88) rfl))) rfl
theorem in_1 : (.fieldLink "VersionFold$Request" 9 "VersionFold$Request" "session" "I" : Cond) ∈ lw_g := lw_mem (List.mem_append_right _ (List.mem_append_left _ (List.mem_of_getElem? (i := 79) rfl))) rfl
theorem in_2 : (.fieldLink "VersionFold$Request" 15 "VersionFold$Request" "seq" "I" : Cond) ∈ lw_g := lw_mem (List.mem_append_right _ (List.mem_append_left _ (List.mem_of_getElem? (i := 81) rfl))) rfl
theorem in_3 : (.fieldLink "VersionFold$Request" 18 "VersionFold$Request" "snapshot" "I" : Cond) ∈ lw_g := lw_mem (List.mem_append_right _ (List.mem_append_left _ (List.mem_of_getElem? (i := 83) rfl))) rfl
theorem in_4 : (.fieldLink "VersionFold$Request" 21 "VersionFold$Request" "readSet" "I" : Cond) ∈ lw_g := lw_mem (List.mem_append_right _ (List.mem_append_left _ (List.mem_of_getElem? (i := 85) rfl))) rfl
theorem in_5 : (.fieldLink "VersionFold$Request" 27 "VersionFold$Request" "values" "[I" : Cond) ∈ lw_g := lw_mem (List.mem_append_right _ (List.mem_append_left _ (List.mem_of_getElem? (i := 90) rfl))) rfl
theorem in_6 : (.fieldLink "VersionFold$Fold" 9 "VersionFold$Fold" "index" "I" : Cond) ∈ lw_g := lw_mem (List.mem_append_right _ (List.mem_append_left _ (List.mem_of_getElem? (i := 35) rfl))) rfl
theorem in_7 : (.fieldLink "VersionFold$Fold" 40 "VersionFold$Fold" "versions" "I" : Cond) ∈ lw_g := lw_mem (List.mem_append_right _ (List.mem_append_left _ (List.mem_of_getElem? (i := 34) rfl))) rfl
theorem in_8 : (.methodLink "VersionFold$Fold" 86 Lib.Math.max.name : Cond) ∈ lw_g := lw_mem (List.mem_append_right _ (List.mem_append_right _ (List.mem_append_left _ (List.mem_of_getElem? (i := 1) rfl)))) rfl
theorem in_9 : (.static Lib.Math.max.name : Cond) ∈ lw_g := lw_mem (List.mem_append_right _ (List.mem_append_left _ (List.mem_of_getElem? (i := 25) rfl))) rfl
theorem in_10 : (.initialized "java/lang/Math" : Cond) ∈ lw_g := lw_mem (List.mem_append_right _ (List.mem_append_left _ (List.mem_of_getElem? (i := 2) rfl))) rfl
theorem in_11 : (.code Lib.Math.max.name Lib.Math.max.code 2 (some .int) : Cond) ∈ lw_g := lw_mem (List.mem_append_right _ (List.mem_append_left _ (List.mem_of_getElem? (i := 26) rfl))) rfl
theorem in_12 : (.fieldLink "VersionFold$Fold" 31 "VersionFold$Fold" "lastWrites" "[I" : Cond) ∈ lw_g := lw_mem (List.mem_append_right _ (List.mem_append_left _ (List.mem_of_getElem? (i := 46) rfl))) rfl
theorem in_13 : (.fieldLink "VersionFold$Fold" 15 "VersionFold$Fold" "horizon" "I" : Cond) ∈ lw_g := lw_mem (List.mem_append_right _ (List.mem_append_left _ (List.mem_of_getElem? (i := 37) rfl))) rfl
theorem in_14 : (.fieldLink "VersionFold$Fold" 27 "VersionFold$Fold" "rows" "[I" : Cond) ∈ lw_g := lw_mem (List.mem_append_right _ (List.mem_append_left _ (List.mem_of_getElem? (i := 45) rfl))) rfl
theorem in_15 : (.methodLink "VersionFold$Fold" 77 yFo_rowStart : Cond) ∈ lw_g := lw_mem (List.mem_append_right _ (List.mem_append_right _ (List.mem_append_left _ (List.mem_of_getElem? (i := 6) rfl)))) rfl
theorem in_16 : (.code yFo_rowStart cFo_rowStart 1 (some .int) : Cond) ∈ lw_g := lw_mem (List.mem_append_right _ (List.mem_append_right _ (List.mem_append_left _ (List.mem_of_getElem? (i := 8) rfl)))) rfl
theorem in_17 : (.initialized "VersionFold$Fold" : Cond) ∈ lw_g := lw_mem (List.mem_append_right _ (List.mem_append_left _ (List.mem_of_getElem? (i := 3) rfl))) rfl
theorem in_18 : (.static yFo_rowStart : Cond) ∈ lw_g := lw_mem (List.mem_append_right _ (List.mem_append_right _ (List.mem_append_left _ (List.mem_of_getElem? (i := 7) rfl)))) rfl
theorem in_19 : (.methodLink "VersionFold$Fold" 99 yFo_valueAt : Cond) ∈ lw_g := lw_mem (List.mem_append_right _ (List.mem_append_right _ (List.mem_append_left _ (List.mem_of_getElem? (i := 139) rfl)))) rfl
theorem in_20 : (.code yFo_valueAt cFo_valueAt 3 (some .int) : Cond) ∈ lw_g := lw_mem (List.mem_append_right _ (List.mem_append_right _ (List.mem_append_left _ (List.mem_of_getElem? (i := 84) rfl)))) rfl
theorem in_21 : (.instanceMethod yFo_valueAt : Cond) ∈ lw_g := lw_mem (List.mem_append_right _ (List.mem_append_right _ (List.mem_append_left _ (List.mem_of_getElem? (i := 82) rfl)))) rfl
theorem in_22 : (.selects "VersionFold$Fold" yFo_valueAt yFo_valueAt : Cond) ∈ lw_g := lw_mem (List.mem_append_right _ (List.mem_append_right _ (List.mem_append_left _ (List.mem_of_getElem? (i := 83) rfl)))) rfl
theorem in_23 : (.constant "VersionFold$Fold" 43 1000000 : Cond) ∈ lw_g := lw_mem (List.mem_append_right _ (List.mem_append_left _ (List.mem_of_getElem? (i := 232) rfl))) rfl
theorem in_24 : (.fieldLink "VersionFold$Fold" 44 "VersionFold$Request" "snapshot" "I" : Cond) ∈ lw_g := lw_mem (List.mem_append_right _ (List.mem_append_left _ (List.mem_of_getElem? (i := 84) rfl))) rfl
theorem in_25 : (.fieldLink "VersionFold$Fold" 49 "VersionFold$Request" "seq" "I" : Cond) ∈ lw_g := lw_mem (List.mem_append_right _ (List.mem_append_left _ (List.mem_of_getElem? (i := 82) rfl))) rfl
theorem in_26 : (.fieldLink "VersionFold$Fold" 34 "VersionFold$Fold" "seqs" "[I" : Cond) ∈ lw_g := lw_mem (List.mem_append_right _ (List.mem_append_left _ (List.mem_of_getElem? (i := 47) rfl))) rfl
theorem in_27 : (.fieldLink "VersionFold$Fold" 52 "VersionFold$Request" "session" "I" : Cond) ∈ lw_g := lw_mem (List.mem_append_right _ (List.mem_append_left _ (List.mem_of_getElem? (i := 80) rfl))) rfl
theorem in_28 : (.methodLink "VersionFold$Fold" 55 yFo_oldestSnapshot : Cond) ∈ lw_g := lw_mem (List.mem_append_right _ (List.mem_append_left _ (List.mem_of_getElem? (i := 233) rfl))) rfl
theorem in_29 : (.code yFo_oldestSnapshot cFo_oldestSnapshot 1 (some .int) : Cond) ∈ lw_g := lw_mem (List.mem_append_right _ (List.mem_append_left _ (List.mem_of_getElem? (i := 236) rfl))) rfl
theorem in_30 : (.instanceMethod yFo_oldestSnapshot : Cond) ∈ lw_g := lw_mem (List.mem_append_right _ (List.mem_append_left _ (List.mem_of_getElem? (i := 234) rfl))) rfl
theorem in_31 : (.selects "VersionFold$Fold" yFo_oldestSnapshot yFo_oldestSnapshot : Cond) ∈ lw_g := lw_mem (List.mem_append_right _ (List.mem_append_left _ (List.mem_of_getElem? (i := 235) rfl))) rfl
theorem in_32 : (.fieldLink "VersionFold$Fold" 59 "VersionFold$Request" "readSet" "I" : Cond) ∈ lw_g := lw_mem (List.mem_append_right _ (List.mem_append_left _ (List.mem_of_getElem? (i := 86) rfl))) rfl
theorem in_33 : (.methodLink "VersionFold$Fold" 62 yFo_keysAfter : Cond) ∈ lw_g := lw_mem (List.mem_append_right _ (List.mem_append_left _ (List.mem_of_getElem? (i := 237) rfl))) rfl
theorem in_34 : (.code yFo_keysAfter cFo_keysAfter 5 (some .int) : Cond) ∈ lw_g := lw_mem (List.mem_append_right _ (List.mem_append_right _ (List.mem_append_left _ (List.mem_of_getElem? (i := 0) rfl)))) rfl
theorem in_35 : (.instanceMethod yFo_keysAfter : Cond) ∈ lw_g := lw_mem (List.mem_append_right _ (List.mem_append_left _ (List.mem_of_getElem? (i := 238) rfl))) rfl
theorem in_36 : (.selects "VersionFold$Fold" yFo_keysAfter yFo_keysAfter : Cond) ∈ lw_g := lw_mem (List.mem_append_right _ (List.mem_append_left _ (List.mem_of_getElem? (i := 239) rfl))) rfl
theorem in_37 : (.fieldLink "VersionFold$Fold" 37 "VersionFold$Fold" "verdicts" "[I" : Cond) ∈ lw_g := lw_mem (List.mem_append_right _ (List.mem_append_left _ (List.mem_of_getElem? (i := 49) rfl))) rfl
theorem in_38 : (.methodLink "VersionFold$Fold" 102 yFo_hasKeysOf : Cond) ∈ lw_g := lw_mem (List.mem_append_right _ (List.mem_append_right _ (List.mem_append_left _ (List.mem_of_getElem? (i := 135) rfl)))) rfl
theorem in_39 : (.code yFo_hasKeysOf cFo_hasKeysOf 6 (some .boolean) : Cond) ∈ lw_g := lw_mem (List.mem_append_right _ (List.mem_append_right _ (List.mem_append_left _ (List.mem_of_getElem? (i := 138) rfl)))) rfl
theorem in_40 : (.instanceMethod yFo_hasKeysOf : Cond) ∈ lw_g := lw_mem (List.mem_append_right _ (List.mem_append_right _ (List.mem_append_left _ (List.mem_of_getElem? (i := 137) rfl)))) rfl
theorem in_41 : (.selects "VersionFold$Fold" yFo_hasKeysOf yFo_hasKeysOf : Cond) ∈ lw_g := lw_mem (List.mem_append_left _ (List.mem_of_getElem? (i := 4) rfl)) rfl
theorem in_42 : (.methodLink "VersionFold$Fold" 106 yFo_hasSessionsOf : Cond) ∈ lw_g := lw_mem (List.mem_append_right _ (List.mem_append_right _ (List.mem_append_left _ (List.mem_of_getElem? (i := 140) rfl)))) rfl
theorem in_43 : (.code yFo_hasSessionsOf cFo_hasSessionsOf 3 (some .boolean) : Cond) ∈ lw_g := lw_mem (List.mem_append_right _ (List.mem_append_right _ (List.mem_append_left _ (List.mem_of_getElem? (i := 143) rfl)))) rfl
theorem in_44 : (.instanceMethod yFo_hasSessionsOf : Cond) ∈ lw_g := lw_mem (List.mem_append_right _ (List.mem_append_right _ (List.mem_append_left _ (List.mem_of_getElem? (i := 142) rfl)))) rfl
theorem in_45 : (.selects "VersionFold$Fold" yFo_hasSessionsOf yFo_hasSessionsOf : Cond) ∈ lw_g := lw_mem (List.mem_append_left _ (List.mem_of_getElem? (i := 5) rfl)) rfl
theorem in_46 : (.methodLink "VersionFold$Fold" 80 arraycopyName : Cond) ∈ lw_g := lw_mem (List.mem_append_right _ (List.mem_append_right _ (List.mem_append_left _ (List.mem_of_getElem? (i := 9) rfl)))) rfl
theorem in_47 : (.native arraycopyName : Cond) ∈ lw_g := lw_mem (List.mem_append_right _ (List.mem_append_right _ (List.mem_append_left _ (List.mem_of_getElem? (i := 11) rfl)))) rfl
theorem in_48 : (.static arraycopyName : Cond) ∈ lw_g := lw_mem (List.mem_append_right _ (List.mem_append_right _ (List.mem_append_left _ (List.mem_of_getElem? (i := 10) rfl)))) rfl
theorem in_49 : (.initialized "java/lang/System" : Cond) ∈ lw_g := lw_mem (List.mem_append_right _ (List.mem_append_left _ (List.mem_of_getElem? (i := 10) rfl))) rfl
theorem in_50 : (.methodLink "VersionFold$Fold" 92 yRq_hasWrite : Cond) ∈ lw_g := lw_mem (List.mem_append_right _ (List.mem_append_right _ (List.mem_append_left _ (List.mem_of_getElem? (i := 16) rfl)))) rfl
theorem in_51 : (.code yRq_hasWrite cRq_hasWrite 2 (some .boolean) : Cond) ∈ lw_g := lw_mem (List.mem_append_right _ (List.mem_append_right _ (List.mem_append_left _ (List.mem_of_getElem? (i := 19) rfl)))) rfl
theorem in_52 : (.initialized "VersionFold$Request" : Cond) ∈ lw_g := lw_mem (List.mem_append_right _ (List.mem_append_left _ (List.mem_of_getElem? (i := 4) rfl))) rfl
theorem in_53 : (.instanceMethod yRq_hasWrite : Cond) ∈ lw_g := lw_mem (List.mem_append_right _ (List.mem_append_right _ (List.mem_append_left _ (List.mem_of_getElem? (i := 17) rfl)))) rfl
theorem in_54 : (.selects "VersionFold$Request" yRq_hasWrite yRq_hasWrite : Cond) ∈ lw_g := lw_mem (List.mem_append_right _ (List.mem_append_right _ (List.mem_append_left _ (List.mem_of_getElem? (i := 18) rfl)))) rfl
theorem in_55 : (.fieldLink "VersionFold$Fold" 96 "VersionFold$Request" "values" "[I" : Cond) ∈ lw_g := lw_mem (List.mem_append_right _ (List.mem_append_left _ (List.mem_of_getElem? (i := 91) rfl))) rfl
theorem in_56 : (.methodLink "VersionFold$Fold" 66 yFo_decide : Cond) ∈ lw_g := lw_mem (List.mem_append_right _ (List.mem_append_left _ (List.mem_of_getElem? (i := 228) rfl))) rfl
theorem in_57 : (.code yFo_decide cFo_decide 3 (some .int) : Cond) ∈ lw_g := lw_mem (List.mem_append_right _ (List.mem_append_left _ (List.mem_of_getElem? (i := 231) rfl))) rfl
theorem in_58 : (.instanceMethod yFo_decide : Cond) ∈ lw_g := lw_mem (List.mem_append_right _ (List.mem_append_left _ (List.mem_of_getElem? (i := 229) rfl))) rfl
theorem in_59 : (.selects "VersionFold$Fold" yFo_decide yFo_decide : Cond) ∈ lw_g := lw_mem (List.mem_append_right _ (List.mem_append_left _ (List.mem_of_getElem? (i := 230) rfl))) rfl
theorem in_60 : (.methodLink "VersionFold$Fold" 70 yFo_openNextRow : Cond) ∈ lw_g := lw_mem (List.mem_append_right _ (List.mem_append_right _ (List.mem_append_left _ (List.mem_of_getElem? (i := 2) rfl)))) rfl
theorem in_61 : (.code yFo_openNextRow cFo_openNextRow 2 none : Cond) ∈ lw_g := lw_mem (List.mem_append_right _ (List.mem_append_right _ (List.mem_append_left _ (List.mem_of_getElem? (i := 5) rfl)))) rfl
theorem in_62 : (.instanceMethod yFo_openNextRow : Cond) ∈ lw_g := lw_mem (List.mem_append_right _ (List.mem_append_right _ (List.mem_append_left _ (List.mem_of_getElem? (i := 4) rfl)))) rfl
theorem in_63 : (.selects "VersionFold$Fold" yFo_openNextRow yFo_openNextRow : Cond) ∈ lw_g := lw_mem (List.mem_append_left _ (List.mem_of_getElem? (i := 2) rfl)) rfl
theorem in_64 : (.fieldLink "VersionFold$Fold" 21 "VersionFold$Fold" "aborted" "I" : Cond) ∈ lw_g := lw_mem (List.mem_append_right _ (List.mem_append_left _ (List.mem_of_getElem? (i := 41) rfl))) rfl
theorem in_65 : (.fieldLink "VersionFold$Fold" 18 "VersionFold$Fold" "committed" "I" : Cond) ∈ lw_g := lw_mem (List.mem_append_right _ (List.mem_append_left _ (List.mem_of_getElem? (i := 39) rfl))) rfl
theorem in_66 : (.methodLink "VersionFold$Fold" 73 yFo_store : Cond) ∈ lw_g := lw_mem (List.mem_append_right _ (List.mem_append_right _ (List.mem_append_left _ (List.mem_of_getElem? (i := 12) rfl)))) rfl
theorem in_67 : (.code yFo_store cFo_store 4 none : Cond) ∈ lw_g := lw_mem (List.mem_append_right _ (List.mem_append_right _ (List.mem_append_left _ (List.mem_of_getElem? (i := 15) rfl)))) rfl
theorem in_68 : (.instanceMethod yFo_store : Cond) ∈ lw_g := lw_mem (List.mem_append_right _ (List.mem_append_right _ (List.mem_append_left _ (List.mem_of_getElem? (i := 14) rfl)))) rfl
theorem in_69 : (.selects "VersionFold$Fold" yFo_store yFo_store : Cond) ∈ lw_g := lw_mem (List.mem_append_left _ (List.mem_of_getElem? (i := 3) rfl)) rfl
theorem in_70 : (.fieldLink "VersionFold$Fold" 24 "VersionFold$Fold" "neither" "I" : Cond) ∈ lw_g := lw_mem (List.mem_append_right _ (List.mem_append_left _ (List.mem_of_getElem? (i := 43) rfl))) rfl
theorem in_71 : (.fieldLink "VersionFoldModel" 47 "VersionFoldModel" "thrown" "I" : Cond) ∈ lw_g := lw_mem (List.mem_append_right _ (List.mem_append_right _ (List.mem_append_left _ (List.mem_of_getElem? (i := 161) rfl)))) rfl
theorem in_72 : (.methodLink "VersionFoldModel" 50 yMd_is16 : Cond) ∈ lw_g := lw_mem (List.mem_append_right _ (List.mem_append_right _ (List.mem_append_left _ (List.mem_of_getElem? (i := 221) rfl)))) rfl
theorem in_73 : (.code yMd_is16 cMd_is16 1 (some .boolean) : Cond) ∈ lw_g := lw_mem (List.mem_append_right _ (List.mem_append_right _ (List.mem_append_left _ (List.mem_of_getElem? (i := 223) rfl)))) rfl
theorem in_74 : (.initialized "VersionFoldModel" : Cond) ∈ lw_g := lw_mem (List.mem_append_right _ (List.mem_append_left _ (List.mem_of_getElem? (i := 5) rfl))) rfl
theorem in_75 : (.static yMd_is16 : Cond) ∈ lw_g := lw_mem (List.mem_append_right _ (List.mem_append_right _ (List.mem_append_left _ (List.mem_of_getElem? (i := 222) rfl)))) rfl
theorem in_76 : (.fieldLink "VersionFoldModel" 54 "VersionFoldModel" "session" "I" : Cond) ∈ lw_g := lw_mem (List.mem_append_right _ (List.mem_append_right _ (List.mem_append_left _ (List.mem_of_getElem? (i := 172) rfl)))) rfl
theorem in_77 : (.fieldLink "VersionFoldModel" 37 "VersionFoldModel" "seq" "I" : Cond) ∈ lw_g := lw_mem (List.mem_append_right _ (List.mem_append_right _ (List.mem_append_left _ (List.mem_of_getElem? (i := 173) rfl)))) rfl
theorem in_78 : (.fieldLink "VersionFoldModel" 57 "VersionFoldModel" "snapshot" "I" : Cond) ∈ lw_g := lw_mem (List.mem_append_right _ (List.mem_append_right _ (List.mem_append_left _ (List.mem_of_getElem? (i := 174) rfl)))) rfl
theorem in_79 : (.fieldLink "VersionFoldModel" 60 "VersionFoldModel" "reads" "I" : Cond) ∈ lw_g := lw_mem (List.mem_append_right _ (List.mem_append_right _ (List.mem_append_left _ (List.mem_of_getElem? (i := 175) rfl)))) rfl
theorem in_80 : (.fieldLink "VersionFoldModel" 63 "VersionFoldModel" "writes" "I" : Cond) ∈ lw_g := lw_mem (List.mem_append_right _ (List.mem_append_right _ (List.mem_append_left _ (List.mem_of_getElem? (i := 176) rfl)))) rfl
theorem in_81 : (.fieldLink "VersionFoldModel" 41 "VersionFoldModel" "draft" "[I" : Cond) ∈ lw_g := lw_mem (List.mem_append_right _ (List.mem_append_right _ (List.mem_append_left _ (List.mem_of_getElem? (i := 177) rfl)))) rfl
theorem in_82 : (.fieldLink "VersionFoldModel" 7 "VersionFoldModel" "index" "[I" : Cond) ∈ lw_g := lw_mem (List.mem_append_right _ (List.mem_append_right _ (List.mem_append_left _ (List.mem_of_getElem? (i := 163) rfl)))) rfl
theorem in_83 : (.fieldLink "VersionFoldModel" 31 "VersionFoldModel" "written" "[I" : Cond) ∈ lw_g := lw_mem (List.mem_append_right _ (List.mem_append_right _ (List.mem_append_left _ (List.mem_of_getElem? (i := 170) rfl)))) rfl
theorem in_84 : (.constant "VersionFoldModel" 66 1000000 : Cond) ∈ lw_g := lw_mem (List.mem_append_right _ (List.mem_append_right _ (List.mem_append_right _ (List.mem_of_getElem? (i := 4) rfl)))) rfl
theorem in_85 : (.fieldLink "VersionFoldModel" 25 "VersionFoldModel" "seqs" "[I" : Cond) ∈ lw_g := lw_mem (List.mem_append_right _ (List.mem_append_right _ (List.mem_append_left _ (List.mem_of_getElem? (i := 168) rfl)))) rfl
theorem in_86 : (.fieldLink "VersionFoldModel" 44 "VersionFoldModel" "versions" "I" : Cond) ∈ lw_g := lw_mem (List.mem_append_right _ (List.mem_append_right _ (List.mem_append_left _ (List.mem_of_getElem? (i := 162) rfl)))) rfl
theorem in_87 : (.methodLink "VersionFoldModel" 67 yMd_writtenSince : Cond) ∈ lw_g := lw_mem (List.mem_append_right _ (List.mem_append_right _ (List.mem_append_right _ (List.mem_of_getElem? (i := 5) rfl)))) rfl
theorem in_88 : (.code yMd_writtenSince cMd_writtenSince 5 (some .int) : Cond) ∈ lw_g := lw_mem (List.mem_append_right _ (List.mem_append_right _ (List.mem_append_right _ (List.mem_of_getElem? (i := 8) rfl)))) rfl
theorem in_89 : (.instanceMethod yMd_writtenSince : Cond) ∈ lw_g := lw_mem (List.mem_append_right _ (List.mem_append_right _ (List.mem_append_right _ (List.mem_of_getElem? (i := 7) rfl)))) rfl
theorem in_90 : (.selects "VersionFoldModel" yMd_writtenSince yMd_writtenSince : Cond) ∈ lw_g := lw_mem (List.mem_append_left _ (List.mem_of_getElem? (i := 8) rfl)) rfl
theorem in_91 : (.methodLink "VersionFoldModel" 71 yMd_lacks : Cond) ∈ lw_g := lw_mem (List.mem_append_right _ (List.mem_append_right _ (List.mem_append_left _ (List.mem_of_getElem? (i := 236) rfl)))) rfl
theorem in_92 : (.code yMd_lacks cMd_lacks 2 (some .boolean) : Cond) ∈ lw_g := lw_mem (List.mem_append_right _ (List.mem_append_right _ (List.mem_append_left _ (List.mem_of_getElem? (i := 239) rfl)))) rfl
theorem in_93 : (.instanceMethod yMd_lacks : Cond) ∈ lw_g := lw_mem (List.mem_append_right _ (List.mem_append_right _ (List.mem_append_left _ (List.mem_of_getElem? (i := 238) rfl)))) rfl
theorem in_94 : (.selects "VersionFoldModel" yMd_lacks yMd_lacks : Cond) ∈ lw_g := lw_mem (List.mem_append_left _ (List.mem_of_getElem? (i := 6) rfl)) rfl
theorem in_95 : (.methodLink "VersionFoldModel" 74 yMd_decided : Cond) ∈ lw_g := lw_mem (List.mem_append_right _ (List.mem_append_right _ (List.mem_append_right _ (List.mem_of_getElem? (i := 0) rfl)))) rfl
theorem in_96 : (.code yMd_decided cMd_decided 3 (some .int) : Cond) ∈ lw_g := lw_mem (List.mem_append_right _ (List.mem_append_right _ (List.mem_append_right _ (List.mem_of_getElem? (i := 3) rfl)))) rfl
theorem in_97 : (.instanceMethod yMd_decided : Cond) ∈ lw_g := lw_mem (List.mem_append_right _ (List.mem_append_right _ (List.mem_append_right _ (List.mem_of_getElem? (i := 2) rfl)))) rfl
theorem in_98 : (.selects "VersionFoldModel" yMd_decided yMd_decided : Cond) ∈ lw_g := lw_mem (List.mem_append_left _ (List.mem_of_getElem? (i := 7) rfl)) rfl
theorem in_99 : (.fieldLink "VersionFoldModel" 16 "VersionFoldModel" "committed" "[I" : Cond) ∈ lw_g := lw_mem (List.mem_append_right _ (List.mem_append_right _ (List.mem_append_left _ (List.mem_of_getElem? (i := 165) rfl)))) rfl
theorem in_100 : (.fieldLink "VersionFoldModel" 19 "VersionFoldModel" "aborted" "[I" : Cond) ∈ lw_g := lw_mem (List.mem_append_right _ (List.mem_append_right _ (List.mem_append_left _ (List.mem_of_getElem? (i := 166) rfl)))) rfl
theorem in_101 : (.fieldLink "VersionFoldModel" 22 "VersionFoldModel" "neither" "[I" : Cond) ∈ lw_g := lw_mem (List.mem_append_right _ (List.mem_append_right _ (List.mem_append_left _ (List.mem_of_getElem? (i := 167) rfl)))) rfl
theorem in_102 : (.fieldLink "VersionFoldModel" 13 "VersionFoldModel" "horizon" "[I" : Cond) ∈ lw_g := lw_mem (List.mem_append_right _ (List.mem_append_right _ (List.mem_append_left _ (List.mem_of_getElem? (i := 164) rfl)))) rfl
theorem in_103 : (.fieldLink "VersionFoldModel" 34 "VersionFoldModel" "values" "[I" : Cond) ∈ lw_g := lw_mem (List.mem_append_right _ (List.mem_append_right _ (List.mem_append_left _ (List.mem_of_getElem? (i := 171) rfl)))) rfl
theorem in_104 : (.fieldLink "VersionFoldModel" 28 "VersionFoldModel" "verdicts" "[I" : Cond) ∈ lw_g := lw_mem (List.mem_append_right _ (List.mem_append_right _ (List.mem_append_left _ (List.mem_of_getElem? (i := 169) rfl)))) rfl
theorem in_105 : (.methodLink "VersionFold$Request" 3 objectInit : Cond) ∈ lw_g := lw_mem (List.mem_append_right _ (List.mem_append_left _ (List.mem_of_getElem? (i := 78) rfl))) rfl
theorem in_106 : (.instanceMethod objectInit : Cond) ∈ lw_g := lw_mem (List.mem_append_right _ (List.mem_append_left _ (List.mem_of_getElem? (i := 19) rfl))) rfl
theorem in_107 : (.code objectInit ⟨#[0xb1]⟩ 1 none : Cond) ∈ lw_g := lw_mem (List.mem_append_right _ (List.mem_append_left _ (List.mem_of_getElem? (i := 20) rfl))) rfl
theorem in_108 : (.arrayClass .int : Cond) ∈ lw_g := lw_mem (List.mem_append_right _ (List.mem_append_left _ (List.mem_of_getElem? (i := 72) rfl))) rfl
theorem in_109 : (.methodLink "VersionFold$Fold" 3 objectInit : Cond) ∈ lw_g := lw_mem (List.mem_append_right _ (List.mem_append_left _ (List.mem_of_getElem? (i := 33) rfl))) rfl
theorem in_110 : (.methodLink "VersionFold" 42 yVf_isKey : Cond) ∈ lw_g := lw_mem (List.mem_append_right _ (List.mem_append_left _ (List.mem_of_getElem? (i := 127) rfl))) rfl
theorem in_111 : (.code yVf_isKey cVf_isKey 1 (some .boolean) : Cond) ∈ lw_g := lw_mem (List.mem_append_right _ (List.mem_append_left _ (List.mem_of_getElem? (i := 129) rfl))) rfl
theorem in_112 : (.initialized "VersionFold" : Cond) ∈ lw_g := lw_mem (List.mem_append_right _ (List.mem_append_left _ (List.mem_of_getElem? (i := 1) rfl))) rfl
theorem in_113 : (.static yVf_isKey : Cond) ∈ lw_g := lw_mem (List.mem_append_right _ (List.mem_append_left _ (List.mem_of_getElem? (i := 128) rfl))) rfl
theorem in_114 : (.methodLink "VersionFold" 34 yVf_isSession : Cond) ∈ lw_g := lw_mem (List.mem_append_right _ (List.mem_append_left _ (List.mem_of_getElem? (i := 116) rfl))) rfl
theorem in_115 : (.code yVf_isSession cVf_isSession 1 (some .boolean) : Cond) ∈ lw_g := lw_mem (List.mem_append_right _ (List.mem_append_left _ (List.mem_of_getElem? (i := 118) rfl))) rfl
theorem in_116 : (.static yVf_isSession : Cond) ∈ lw_g := lw_mem (List.mem_append_right _ (List.mem_append_left _ (List.mem_of_getElem? (i := 117) rfl))) rfl
theorem in_117 : (.fieldLink "VersionFold" 20 "VersionFold" "folds" "[LVersionFold$Fold;" : Cond) ∈ lw_g := lw_mem (List.mem_append_right _ (List.mem_append_left _ (List.mem_of_getElem? (i := 105) rfl))) rfl
theorem in_118 : (.methodLink "VersionFold" 52 yVf_foldAt : Cond) ∈ lw_g := lw_mem (List.mem_append_right _ (List.mem_append_left _ (List.mem_of_getElem? (i := 153) rfl))) rfl
theorem in_119 : (.code yVf_foldAt cVf_foldAt 2 (some (.object "VersionFold$Fold")) : Cond) ∈ lw_g := lw_mem (List.mem_append_right _ (List.mem_append_left _ (List.mem_of_getElem? (i := 156) rfl))) rfl
theorem in_120 : (.instanceMethod yVf_foldAt : Cond) ∈ lw_g := lw_mem (List.mem_append_right _ (List.mem_append_left _ (List.mem_of_getElem? (i := 155) rfl))) rfl
theorem in_121 : (.selects "VersionFold" yVf_foldAt yVf_foldAt : Cond) ∈ lw_g := lw_mem (List.mem_append_left _ (List.mem_of_getElem? (i := 0) rfl)) rfl
theorem in_122 : (.fieldLink "VersionFold" 30 "VersionFold" "request" "LVersionFold$Request;" : Cond) ∈ lw_g := lw_mem (List.mem_append_right _ (List.mem_append_left _ (List.mem_of_getElem? (i := 106) rfl))) rfl
theorem in_123 : (.methodLink "VersionFold" 60 yFo_decide : Cond) ∈ lw_g := lw_mem (List.mem_append_right _ (List.mem_append_right _ (List.mem_append_left _ (List.mem_of_getElem? (i := 27) rfl)))) rfl
theorem in_124 : (.methodLink "VersionFold" 74 yVf_requireKey : Cond) ∈ lw_g := lw_mem (List.mem_append_right _ (List.mem_append_right _ (List.mem_append_left _ (List.mem_of_getElem? (i := 61) rfl)))) rfl
theorem in_125 : (.code yVf_requireKey cVf_requireKey 1 none : Cond) ∈ lw_g := lw_mem (List.mem_append_right _ (List.mem_append_right _ (List.mem_append_left _ (List.mem_of_getElem? (i := 63) rfl)))) rfl
theorem in_126 : (.static yVf_requireKey : Cond) ∈ lw_g := lw_mem (List.mem_append_right _ (List.mem_append_right _ (List.mem_append_left _ (List.mem_of_getElem? (i := 62) rfl)))) rfl
theorem in_127 : (.fieldLink "VersionFold" 77 "VersionFold$Fold" "horizon" "I" : Cond) ∈ lw_g := lw_mem (List.mem_append_right _ (List.mem_append_left _ (List.mem_of_getElem? (i := 38) rfl))) rfl
theorem in_128 : (.fieldLink "VersionFold" 63 "VersionFold$Fold" "index" "I" : Cond) ∈ lw_g := lw_mem (List.mem_append_right _ (List.mem_append_left _ (List.mem_of_getElem? (i := 36) rfl))) rfl
theorem in_129 : (.methodLink "VersionFold" 87 yFo_valueAt : Cond) ∈ lw_g := lw_mem (List.mem_append_right _ (List.mem_append_right _ (List.mem_append_left _ (List.mem_of_getElem? (i := 81) rfl)))) rfl
theorem in_130 : (.methodLink "VersionFold" 90 yVf_requireSession : Cond) ∈ lw_g := lw_mem (List.mem_append_right _ (List.mem_append_right _ (List.mem_append_left _ (List.mem_of_getElem? (i := 92) rfl)))) rfl
theorem in_131 : (.code yVf_requireSession cVf_requireSession 1 none : Cond) ∈ lw_g := lw_mem (List.mem_append_right _ (List.mem_append_right _ (List.mem_append_left _ (List.mem_of_getElem? (i := 94) rfl)))) rfl
theorem in_132 : (.static yVf_requireSession : Cond) ∈ lw_g := lw_mem (List.mem_append_right _ (List.mem_append_right _ (List.mem_append_left _ (List.mem_of_getElem? (i := 93) rfl)))) rfl
theorem in_133 : (.fieldLink "VersionFold" 93 "VersionFold$Fold" "seqs" "[I" : Cond) ∈ lw_g := lw_mem (List.mem_append_right _ (List.mem_append_left _ (List.mem_of_getElem? (i := 48) rfl))) rfl
theorem in_134 : (.fieldLink "VersionFold" 97 "VersionFold$Fold" "verdicts" "[I" : Cond) ∈ lw_g := lw_mem (List.mem_append_right _ (List.mem_append_left _ (List.mem_of_getElem? (i := 50) rfl))) rfl
theorem in_135 : (.methodLink "VersionFold" 100 yFo_keptWrite : Cond) ∈ lw_g := lw_mem (List.mem_append_right _ (List.mem_append_right _ (List.mem_append_left _ (List.mem_of_getElem? (i := 110) rfl)))) rfl
theorem in_136 : (.code yFo_keptWrite cFo_keptWrite 3 (some .int) : Cond) ∈ lw_g := lw_mem (List.mem_append_right _ (List.mem_append_right _ (List.mem_append_left _ (List.mem_of_getElem? (i := 113) rfl)))) rfl
theorem in_137 : (.instanceMethod yFo_keptWrite : Cond) ∈ lw_g := lw_mem (List.mem_append_right _ (List.mem_append_right _ (List.mem_append_left _ (List.mem_of_getElem? (i := 111) rfl)))) rfl
theorem in_138 : (.selects "VersionFold$Fold" yFo_keptWrite yFo_keptWrite : Cond) ∈ lw_g := lw_mem (List.mem_append_right _ (List.mem_append_right _ (List.mem_append_left _ (List.mem_of_getElem? (i := 112) rfl)))) rfl
theorem in_139 : (.methodLink "VersionFold" 104 yFo_oldestSnapshot : Cond) ∈ lw_g := lw_mem (List.mem_append_right _ (List.mem_append_right _ (List.mem_append_left _ (List.mem_of_getElem? (i := 121) rfl)))) rfl
theorem in_140 : (.methodLink "VersionFold" 110 yFo_keysAfter : Cond) ∈ lw_g := lw_mem (List.mem_append_right _ (List.mem_append_right _ (List.mem_append_left _ (List.mem_of_getElem? (i := 123) rfl)))) rfl
theorem in_141 : (.methodLink "VersionFold" 113 yFo_isLike : Cond) ∈ lw_g := lw_mem (List.mem_append_right _ (List.mem_append_right _ (List.mem_append_left _ (List.mem_of_getElem? (i := 131) rfl)))) rfl
theorem in_142 : (.code yFo_isLike cFo_isLike 2 (some .boolean) : Cond) ∈ lw_g := lw_mem (List.mem_append_right _ (List.mem_append_right _ (List.mem_append_left _ (List.mem_of_getElem? (i := 134) rfl)))) rfl
theorem in_143 : (.instanceMethod yFo_isLike : Cond) ∈ lw_g := lw_mem (List.mem_append_right _ (List.mem_append_right _ (List.mem_append_left _ (List.mem_of_getElem? (i := 132) rfl)))) rfl
theorem in_144 : (.selects "VersionFold$Fold" yFo_isLike yFo_isLike : Cond) ∈ lw_g := lw_mem (List.mem_append_right _ (List.mem_append_right _ (List.mem_append_left _ (List.mem_of_getElem? (i := 133) rfl)))) rfl
theorem in_145 : (.fieldLink "VersionFold" 117 "VersionFold$Fold" "committed" "I" : Cond) ∈ lw_g := lw_mem (List.mem_append_right _ (List.mem_append_left _ (List.mem_of_getElem? (i := 40) rfl))) rfl
theorem in_146 : (.fieldLink "VersionFold" 120 "VersionFold$Fold" "aborted" "I" : Cond) ∈ lw_g := lw_mem (List.mem_append_right _ (List.mem_append_left _ (List.mem_of_getElem? (i := 42) rfl))) rfl
theorem in_147 : (.fieldLink "VersionFold" 123 "VersionFold$Fold" "neither" "I" : Cond) ∈ lw_g := lw_mem (List.mem_append_right _ (List.mem_append_left _ (List.mem_of_getElem? (i := 44) rfl))) rfl
theorem in_148 : (.methodLink "VersionFold" 126 yFo_sumOfValues : Cond) ∈ lw_g := lw_mem (List.mem_append_right _ (List.mem_append_right _ (List.mem_append_left _ (List.mem_of_getElem? (i := 151) rfl)))) rfl
theorem in_149 : (.code yFo_sumOfValues cFo_sumOfValues 3 (some .int) : Cond) ∈ lw_g := lw_mem (List.mem_append_right _ (List.mem_append_right _ (List.mem_append_left _ (List.mem_of_getElem? (i := 154) rfl)))) rfl
theorem in_150 : (.instanceMethod yFo_sumOfValues : Cond) ∈ lw_g := lw_mem (List.mem_append_right _ (List.mem_append_right _ (List.mem_append_left _ (List.mem_of_getElem? (i := 152) rfl)))) rfl
theorem in_151 : (.selects "VersionFold$Fold" yFo_sumOfValues yFo_sumOfValues : Cond) ∈ lw_g := lw_mem (List.mem_append_right _ (List.mem_append_right _ (List.mem_append_left _ (List.mem_of_getElem? (i := 153) rfl)))) rfl
theorem in_152 : (.fieldLink "VersionFold" 129 "VersionFold$Request" "readSet" "I" : Cond) ∈ lw_g := lw_mem (List.mem_append_right _ (List.mem_append_left _ (List.mem_of_getElem? (i := 87) rfl))) rfl
theorem in_153 : (.fieldLink "VersionFold" 132 "VersionFold$Request" "writeSet" "I" : Cond) ∈ lw_g := lw_mem (List.mem_append_right _ (List.mem_append_left _ (List.mem_of_getElem? (i := 89) rfl))) rfl
theorem in_154 : (.methodLink "VersionFold" 38 yRq_begin : Cond) ∈ lw_g := lw_mem (List.mem_append_right _ (List.mem_append_left _ (List.mem_of_getElem? (i := 119) rfl))) rfl
theorem in_155 : (.code yRq_begin cRq_begin 4 none : Cond) ∈ lw_g := lw_mem (List.mem_append_right _ (List.mem_append_left _ (List.mem_of_getElem? (i := 122) rfl))) rfl
theorem in_156 : (.instanceMethod yRq_begin : Cond) ∈ lw_g := lw_mem (List.mem_append_right _ (List.mem_append_left _ (List.mem_of_getElem? (i := 120) rfl))) rfl
theorem in_157 : (.selects "VersionFold$Request" yRq_begin yRq_begin : Cond) ∈ lw_g := lw_mem (List.mem_append_right _ (List.mem_append_left _ (List.mem_of_getElem? (i := 121) rfl))) rfl
theorem in_158 : (.methodLink "VersionFold" 45 yRq_addRead : Cond) ∈ lw_g := lw_mem (List.mem_append_right _ (List.mem_append_left _ (List.mem_of_getElem? (i := 130) rfl))) rfl
theorem in_159 : (.code yRq_addRead cRq_addRead 2 none : Cond) ∈ lw_g := lw_mem (List.mem_append_right _ (List.mem_append_left _ (List.mem_of_getElem? (i := 133) rfl))) rfl
theorem in_160 : (.instanceMethod yRq_addRead : Cond) ∈ lw_g := lw_mem (List.mem_append_right _ (List.mem_append_left _ (List.mem_of_getElem? (i := 131) rfl))) rfl
theorem in_161 : (.selects "VersionFold$Request" yRq_addRead yRq_addRead : Cond) ∈ lw_g := lw_mem (List.mem_append_right _ (List.mem_append_left _ (List.mem_of_getElem? (i := 132) rfl))) rfl
theorem in_162 : (.methodLink "VersionFold" 48 yRq_addWrite : Cond) ∈ lw_g := lw_mem (List.mem_append_right _ (List.mem_append_left _ (List.mem_of_getElem? (i := 138) rfl))) rfl
theorem in_163 : (.code yRq_addWrite cRq_addWrite 3 none : Cond) ∈ lw_g := lw_mem (List.mem_append_right _ (List.mem_append_left _ (List.mem_of_getElem? (i := 141) rfl))) rfl
theorem in_164 : (.instanceMethod yRq_addWrite : Cond) ∈ lw_g := lw_mem (List.mem_append_right _ (List.mem_append_left _ (List.mem_of_getElem? (i := 139) rfl))) rfl
theorem in_165 : (.selects "VersionFold$Request" yRq_addWrite yRq_addWrite : Cond) ∈ lw_g := lw_mem (List.mem_append_right _ (List.mem_append_left _ (List.mem_of_getElem? (i := 140) rfl))) rfl
theorem in_166 : (.methodLink "VersionFold" 56 yFo_admit : Cond) ∈ lw_g := lw_mem (List.mem_append_right _ (List.mem_append_left _ (List.mem_of_getElem? (i := 224) rfl))) rfl
theorem in_167 : (.code yFo_admit cFo_admit 3 (some .int) : Cond) ∈ lw_g := lw_mem (List.mem_append_right _ (List.mem_append_left _ (List.mem_of_getElem? (i := 227) rfl))) rfl
theorem in_168 : (.instanceMethod yFo_admit : Cond) ∈ lw_g := lw_mem (List.mem_append_right _ (List.mem_append_left _ (List.mem_of_getElem? (i := 225) rfl))) rfl
theorem in_169 : (.selects "VersionFold$Fold" yFo_admit yFo_admit : Cond) ∈ lw_g := lw_mem (List.mem_append_right _ (List.mem_append_left _ (List.mem_of_getElem? (i := 226) rfl))) rfl
theorem in_170 : (.methodLink "VersionFold" 71 yFo_reset : Cond) ∈ lw_g := lw_mem (List.mem_append_right _ (List.mem_append_right _ (List.mem_append_left _ (List.mem_of_getElem? (i := 46) rfl)))) rfl
theorem in_171 : (.code yFo_reset cFo_reset 1 none : Cond) ∈ lw_g := lw_mem (List.mem_append_right _ (List.mem_append_right _ (List.mem_append_left _ (List.mem_of_getElem? (i := 49) rfl)))) rfl
theorem in_172 : (.instanceMethod yFo_reset : Cond) ∈ lw_g := lw_mem (List.mem_append_right _ (List.mem_append_right _ (List.mem_append_left _ (List.mem_of_getElem? (i := 47) rfl)))) rfl
theorem in_173 : (.selects "VersionFold$Fold" yFo_reset yFo_reset : Cond) ∈ lw_g := lw_mem (List.mem_append_right _ (List.mem_append_right _ (List.mem_append_left _ (List.mem_of_getElem? (i := 48) rfl)))) rfl
theorem in_174 : (.methodLink "VersionFold" 67 yFo_become : Cond) ∈ lw_g := lw_mem (List.mem_append_right _ (List.mem_append_right _ (List.mem_append_left _ (List.mem_of_getElem? (i := 35) rfl)))) rfl
theorem in_175 : (.code yFo_become cFo_become 2 none : Cond) ∈ lw_g := lw_mem (List.mem_append_right _ (List.mem_append_right _ (List.mem_append_left _ (List.mem_of_getElem? (i := 38) rfl)))) rfl
theorem in_176 : (.instanceMethod yFo_become : Cond) ∈ lw_g := lw_mem (List.mem_append_right _ (List.mem_append_right _ (List.mem_append_left _ (List.mem_of_getElem? (i := 36) rfl)))) rfl
theorem in_177 : (.selects "VersionFold$Fold" yFo_become yFo_become : Cond) ∈ lw_g := lw_mem (List.mem_append_right _ (List.mem_append_right _ (List.mem_append_left _ (List.mem_of_getElem? (i := 37) rfl)))) rfl
theorem in_178 : (.laysFinal "VersionFold$Fold" "VersionFold$Fold" "versions" "I" : Cond) ∈ lw_g := lw_mem (List.mem_append_right _ (List.mem_append_left _ (List.mem_of_getElem? (i := 51) rfl))) rfl
theorem in_179 : (.lays "VersionFold$Fold" "VersionFold$Fold" "index" "I" : Cond) ∈ lw_g := lw_mem (List.mem_append_right _ (List.mem_append_left _ (List.mem_of_getElem? (i := 53) rfl))) rfl
theorem in_180 : (.lays "VersionFold$Fold" "VersionFold$Fold" "horizon" "I" : Cond) ∈ lw_g := lw_mem (List.mem_append_right _ (List.mem_append_left _ (List.mem_of_getElem? (i := 55) rfl))) rfl
theorem in_181 : (.lays "VersionFold$Fold" "VersionFold$Fold" "committed" "I" : Cond) ∈ lw_g := lw_mem (List.mem_append_right _ (List.mem_append_left _ (List.mem_of_getElem? (i := 57) rfl))) rfl
theorem in_182 : (.lays "VersionFold$Fold" "VersionFold$Fold" "aborted" "I" : Cond) ∈ lw_g := lw_mem (List.mem_append_right _ (List.mem_append_left _ (List.mem_of_getElem? (i := 59) rfl))) rfl
theorem in_183 : (.lays "VersionFold$Fold" "VersionFold$Fold" "neither" "I" : Cond) ∈ lw_g := lw_mem (List.mem_append_right _ (List.mem_append_left _ (List.mem_of_getElem? (i := 61) rfl))) rfl
theorem in_184 : (.laysFinal "VersionFold$Fold" "VersionFold$Fold" "rows" "[I" : Cond) ∈ lw_g := lw_mem (List.mem_append_right _ (List.mem_append_left _ (List.mem_of_getElem? (i := 63) rfl))) rfl
theorem in_185 : (.laysFinal "VersionFold$Fold" "VersionFold$Fold" "lastWrites" "[I" : Cond) ∈ lw_g := lw_mem (List.mem_append_right _ (List.mem_append_left _ (List.mem_of_getElem? (i := 65) rfl))) rfl
theorem in_186 : (.laysFinal "VersionFold$Fold" "VersionFold$Fold" "seqs" "[I" : Cond) ∈ lw_g := lw_mem (List.mem_append_right _ (List.mem_append_left _ (List.mem_of_getElem? (i := 67) rfl))) rfl
theorem in_187 : (.laysFinal "VersionFold$Fold" "VersionFold$Fold" "verdicts" "[I" : Cond) ∈ lw_g := lw_mem (List.mem_append_right _ (List.mem_append_left _ (List.mem_of_getElem? (i := 69) rfl))) rfl
theorem in_188 : (.lays "VersionFold$Request" "VersionFold$Request" "session" "I" : Cond) ∈ lw_g := lw_mem (List.mem_append_right _ (List.mem_append_left _ (List.mem_of_getElem? (i := 92) rfl))) rfl
theorem in_189 : (.lays "VersionFold$Request" "VersionFold$Request" "seq" "I" : Cond) ∈ lw_g := lw_mem (List.mem_append_right _ (List.mem_append_left _ (List.mem_of_getElem? (i := 94) rfl))) rfl
theorem in_190 : (.lays "VersionFold$Request" "VersionFold$Request" "snapshot" "I" : Cond) ∈ lw_g := lw_mem (List.mem_append_right _ (List.mem_append_left _ (List.mem_of_getElem? (i := 96) rfl))) rfl
theorem in_191 : (.lays "VersionFold$Request" "VersionFold$Request" "readSet" "I" : Cond) ∈ lw_g := lw_mem (List.mem_append_right _ (List.mem_append_left _ (List.mem_of_getElem? (i := 98) rfl))) rfl
theorem in_192 : (.lays "VersionFold$Request" "VersionFold$Request" "writeSet" "I" : Cond) ∈ lw_g := lw_mem (List.mem_append_right _ (List.mem_append_left _ (List.mem_of_getElem? (i := 100) rfl))) rfl
theorem in_193 : (.laysFinal "VersionFold$Request" "VersionFold$Request" "values" "[I" : Cond) ∈ lw_g := lw_mem (List.mem_append_right _ (List.mem_append_left _ (List.mem_of_getElem? (i := 102) rfl))) rfl
theorem in_194 : (.laysFinal "VersionFold" "VersionFold" "folds" "[LVersionFold$Fold;" : Cond) ∈ lw_g := lw_mem (List.mem_append_right _ (List.mem_append_left _ (List.mem_of_getElem? (i := 107) rfl))) rfl
theorem in_195 : (.laysFinal "VersionFold" "VersionFold" "request" "LVersionFold$Request;" : Cond) ∈ lw_g := lw_mem (List.mem_append_right _ (List.mem_append_left _ (List.mem_of_getElem? (i := 109) rfl))) rfl
theorem in_196 : (.lays "VersionFoldModel" "VersionFoldModel" "thrown" "I" : Cond) ∈ lw_g := lw_mem (List.mem_append_right _ (List.mem_append_right _ (List.mem_append_left _ (List.mem_of_getElem? (i := 178) rfl)))) rfl
theorem in_197 : (.laysFinal "VersionFoldModel" "VersionFoldModel" "versions" "I" : Cond) ∈ lw_g := lw_mem (List.mem_append_right _ (List.mem_append_right _ (List.mem_append_left _ (List.mem_of_getElem? (i := 180) rfl)))) rfl
theorem in_198 : (.laysFinal "VersionFoldModel" "VersionFoldModel" "index" "[I" : Cond) ∈ lw_g := lw_mem (List.mem_append_right _ (List.mem_append_right _ (List.mem_append_left _ (List.mem_of_getElem? (i := 182) rfl)))) rfl
theorem in_199 : (.laysFinal "VersionFoldModel" "VersionFoldModel" "horizon" "[I" : Cond) ∈ lw_g := lw_mem (List.mem_append_right _ (List.mem_append_right _ (List.mem_append_left _ (List.mem_of_getElem? (i := 184) rfl)))) rfl
theorem in_200 : (.laysFinal "VersionFoldModel" "VersionFoldModel" "committed" "[I" : Cond) ∈ lw_g := lw_mem (List.mem_append_right _ (List.mem_append_right _ (List.mem_append_left _ (List.mem_of_getElem? (i := 186) rfl)))) rfl
theorem in_201 : (.laysFinal "VersionFoldModel" "VersionFoldModel" "aborted" "[I" : Cond) ∈ lw_g := lw_mem (List.mem_append_right _ (List.mem_append_right _ (List.mem_append_left _ (List.mem_of_getElem? (i := 188) rfl)))) rfl
theorem in_202 : (.laysFinal "VersionFoldModel" "VersionFoldModel" "neither" "[I" : Cond) ∈ lw_g := lw_mem (List.mem_append_right _ (List.mem_append_right _ (List.mem_append_left _ (List.mem_of_getElem? (i := 190) rfl)))) rfl
theorem in_203 : (.laysFinal "VersionFoldModel" "VersionFoldModel" "seqs" "[I" : Cond) ∈ lw_g := lw_mem (List.mem_append_right _ (List.mem_append_right _ (List.mem_append_left _ (List.mem_of_getElem? (i := 192) rfl)))) rfl
theorem in_204 : (.laysFinal "VersionFoldModel" "VersionFoldModel" "verdicts" "[I" : Cond) ∈ lw_g := lw_mem (List.mem_append_right _ (List.mem_append_right _ (List.mem_append_left _ (List.mem_of_getElem? (i := 194) rfl)))) rfl
theorem in_205 : (.laysFinal "VersionFoldModel" "VersionFoldModel" "written" "[I" : Cond) ∈ lw_g := lw_mem (List.mem_append_right _ (List.mem_append_right _ (List.mem_append_left _ (List.mem_of_getElem? (i := 196) rfl)))) rfl
theorem in_206 : (.laysFinal "VersionFoldModel" "VersionFoldModel" "values" "[I" : Cond) ∈ lw_g := lw_mem (List.mem_append_right _ (List.mem_append_right _ (List.mem_append_left _ (List.mem_of_getElem? (i := 198) rfl)))) rfl
theorem in_207 : (.lays "VersionFoldModel" "VersionFoldModel" "session" "I" : Cond) ∈ lw_g := lw_mem (List.mem_append_right _ (List.mem_append_right _ (List.mem_append_left _ (List.mem_of_getElem? (i := 200) rfl)))) rfl
theorem in_208 : (.lays "VersionFoldModel" "VersionFoldModel" "seq" "I" : Cond) ∈ lw_g := lw_mem (List.mem_append_right _ (List.mem_append_right _ (List.mem_append_left _ (List.mem_of_getElem? (i := 202) rfl)))) rfl
theorem in_209 : (.lays "VersionFoldModel" "VersionFoldModel" "snapshot" "I" : Cond) ∈ lw_g := lw_mem (List.mem_append_right _ (List.mem_append_right _ (List.mem_append_left _ (List.mem_of_getElem? (i := 204) rfl)))) rfl
theorem in_210 : (.lays "VersionFoldModel" "VersionFoldModel" "reads" "I" : Cond) ∈ lw_g := lw_mem (List.mem_append_right _ (List.mem_append_right _ (List.mem_append_left _ (List.mem_of_getElem? (i := 206) rfl)))) rfl
theorem in_211 : (.lays "VersionFoldModel" "VersionFoldModel" "writes" "I" : Cond) ∈ lw_g := lw_mem (List.mem_append_right _ (List.mem_append_right _ (List.mem_append_left _ (List.mem_of_getElem? (i := 208) rfl)))) rfl
theorem in_212 : (.laysFinal "VersionFoldModel" "VersionFoldModel" "draft" "[I" : Cond) ∈ lw_g := lw_mem (List.mem_append_right _ (List.mem_append_right _ (List.mem_append_left _ (List.mem_of_getElem? (i := 210) rfl)))) rfl
theorem inFo : ∀ w ∈ u_ws RFo TFo 10, w ∈ lw_g := by
  intro w hw
  obtain ⟨k, hk, rfl⟩ := List.mem_map.mp hw
  have hk : k < 10 := List.mem_range.mp hk
  rcases (show k = 0 ∨ k = 1 ∨ k = 2 ∨ k = 3 ∨ k = 4 ∨ k = 5 ∨ k = 6 ∨ k = 7 ∨ k = 8 ∨ k = 9 by omega) with rfl | rfl | rfl | rfl | rfl | rfl | rfl | rfl | rfl | rfl
  · exact in_178
  · exact in_179
  · exact in_180
  · exact in_181
  · exact in_182
  · exact in_183
  · exact in_184
  · exact in_185
  · exact in_186
  · exact in_187
theorem inRq : ∀ w ∈ u_ws RRq TRq 6, w ∈ lw_g := by
  intro w hw
  obtain ⟨k, hk, rfl⟩ := List.mem_map.mp hw
  have hk : k < 6 := List.mem_range.mp hk
  rcases (show k = 0 ∨ k = 1 ∨ k = 2 ∨ k = 3 ∨ k = 4 ∨ k = 5 by omega) with rfl | rfl | rfl | rfl | rfl | rfl
  · exact in_188
  · exact in_189
  · exact in_190
  · exact in_191
  · exact in_192
  · exact in_193
theorem inVf : ∀ w ∈ u_ws RVf TVf 2, w ∈ lw_g := by
  intro w hw
  obtain ⟨k, hk, rfl⟩ := List.mem_map.mp hw
  have hk : k < 2 := List.mem_range.mp hk
  rcases (show k = 0 ∨ k = 1 by omega) with rfl | rfl
  · exact in_194
  · exact in_195
theorem inMd : ∀ w ∈ u_ws RMd TMd 17, w ∈ lw_g := by
  intro w hw
  obtain ⟨k, hk, rfl⟩ := List.mem_map.mp hw
  have hk : k < 17 := List.mem_range.mp hk
  rcases (show k = 0 ∨ k = 1 ∨ k = 2 ∨ k = 3 ∨ k = 4 ∨ k = 5 ∨ k = 6 ∨ k = 7 ∨ k = 8 ∨ k = 9 ∨ k = 10 ∨ k = 11 ∨ k = 12 ∨ k = 13 ∨ k = 14 ∨ k = 15 ∨ k = 16 by omega) with rfl | rfl | rfl | rfl | rfl | rfl | rfl | rfl | rfl | rfl | rfl | rfl | rfl | rfl | rfl | rfl | rfl
  · exact in_196
  · exact in_197
  · exact in_198
  · exact in_199
  · exact in_200
  · exact in_201
  · exact in_202
  · exact in_203
  · exact in_204
  · exact in_205
  · exact in_206
  · exact in_207
  · exact in_208
  · exact in_209
  · exact in_210
  · exact in_211
  · exact in_212
end
section
theorem dFo_init_0 : decode cFo_init 0 = .ok (.aload_n 0, 1) := by decide +kernel
theorem dFo_init_1 : decode cFo_init 1 = .ok (.invokespecial 3, 3) := by decide +kernel
theorem dFo_init_4 : decode cFo_init 4 = .ok (.aload_n 0, 1) := by decide +kernel
theorem dFo_init_5 : decode cFo_init 5 = .ok (.iconst 0, 1) := by decide +kernel
theorem dFo_init_6 : decode cFo_init 6 = .ok (.putfield 9, 3) := by decide +kernel
theorem dFo_init_9 : decode cFo_init 9 = .ok (.aload_n 0, 1) := by decide +kernel
theorem dFo_init_10 : decode cFo_init 10 = .ok (.iconst 0, 1) := by decide +kernel
theorem dFo_init_11 : decode cFo_init 11 = .ok (.putfield 15, 3) := by decide +kernel
theorem dFo_init_14 : decode cFo_init 14 = .ok (.aload_n 0, 1) := by decide +kernel
theorem dFo_init_15 : decode cFo_init 15 = .ok (.iconst 0, 1) := by decide +kernel
theorem dFo_init_16 : decode cFo_init 16 = .ok (.putfield 18, 3) := by decide +kernel
theorem dFo_init_19 : decode cFo_init 19 = .ok (.aload_n 0, 1) := by decide +kernel
theorem dFo_init_20 : decode cFo_init 20 = .ok (.iconst 0, 1) := by decide +kernel
theorem dFo_init_21 : decode cFo_init 21 = .ok (.putfield 21, 3) := by decide +kernel
theorem dFo_init_24 : decode cFo_init 24 = .ok (.aload_n 0, 1) := by decide +kernel
theorem dFo_init_25 : decode cFo_init 25 = .ok (.iconst 0, 1) := by decide +kernel
theorem dFo_init_26 : decode cFo_init 26 = .ok (.putfield 24, 3) := by decide +kernel
theorem dFo_init_29 : decode cFo_init 29 = .ok (.aload_n 0, 1) := by decide +kernel
theorem dFo_init_30 : decode cFo_init 30 = .ok (.sipush 272, 3) := by decide +kernel
theorem dFo_init_33 : decode cFo_init 33 = .ok (.newarray .int, 2) := by decide +kernel
theorem dFo_init_35 : decode cFo_init 35 = .ok (.putfield 27, 3) := by decide +kernel
theorem dFo_init_38 : decode cFo_init 38 = .ok (.aload_n 0, 1) := by decide +kernel
theorem dFo_init_39 : decode cFo_init 39 = .ok (.bipush 16, 2) := by decide +kernel
theorem dFo_init_41 : decode cFo_init 41 = .ok (.newarray .int, 2) := by decide +kernel
theorem dFo_init_43 : decode cFo_init 43 = .ok (.putfield 31, 3) := by decide +kernel
theorem dFo_init_46 : decode cFo_init 46 = .ok (.aload_n 0, 1) := by decide +kernel
theorem dFo_init_47 : decode cFo_init 47 = .ok (.bipush 16, 2) := by decide +kernel
theorem dFo_init_49 : decode cFo_init 49 = .ok (.newarray .int, 2) := by decide +kernel
theorem dFo_init_51 : decode cFo_init 51 = .ok (.putfield 34, 3) := by decide +kernel
theorem dFo_init_54 : decode cFo_init 54 = .ok (.aload_n 0, 1) := by decide +kernel
theorem dFo_init_55 : decode cFo_init 55 = .ok (.bipush 16, 2) := by decide +kernel
theorem dFo_init_57 : decode cFo_init 57 = .ok (.newarray .int, 2) := by decide +kernel
theorem dFo_init_59 : decode cFo_init 59 = .ok (.putfield 37, 3) := by decide +kernel
theorem dFo_init_62 : decode cFo_init 62 = .ok (.aload_n 0, 1) := by decide +kernel
theorem dFo_init_63 : decode cFo_init 63 = .ok (.iload_n 1, 1) := by decide +kernel
theorem dFo_init_64 : decode cFo_init 64 = .ok (.putfield 40, 3) := by decide +kernel
theorem dFo_init_67 : decode cFo_init 67 = .ok (.return_, 1) := by decide +kernel
theorem dFo_decide_0 : decode cFo_decide 0 = .ok (.aload_n 0, 1) := by decide +kernel
theorem dFo_decide_1 : decode cFo_decide 1 = .ok (.getfield 9, 3) := by decide +kernel
theorem dFo_decide_4 : decode cFo_decide 4 = .ok (.ldc 43, 2) := by decide +kernel
theorem dFo_decide_6 : decode cFo_decide 6 = .ok (.if_icmp .ge 14, 3) := by decide +kernel
theorem dFo_decide_9 : decode cFo_decide 9 = .ok (.aload_n 1, 1) := by decide +kernel
theorem dFo_decide_10 : decode cFo_decide 10 = .ok (.getfield 44, 3) := by decide +kernel
theorem dFo_decide_13 : decode cFo_decide 13 = .ok (.aload_n 0, 1) := by decide +kernel
theorem dFo_decide_14 : decode cFo_decide 14 = .ok (.getfield 9, 3) := by decide +kernel
theorem dFo_decide_17 : decode cFo_decide 17 = .ok (.if_icmp .le 5, 3) := by decide +kernel
theorem dFo_decide_20 : decode cFo_decide 20 = .ok (.iconst (-1), 1) := by decide +kernel
theorem dFo_decide_21 : decode cFo_decide 21 = .ok (.ireturn, 1) := by decide +kernel
theorem dFo_decide_22 : decode cFo_decide 22 = .ok (.aload_n 1, 1) := by decide +kernel
theorem dFo_decide_23 : decode cFo_decide 23 = .ok (.getfield 49, 3) := by decide +kernel
theorem dFo_decide_26 : decode cFo_decide 26 = .ok (.aload_n 0, 1) := by decide +kernel
theorem dFo_decide_27 : decode cFo_decide 27 = .ok (.getfield 34, 3) := by decide +kernel
theorem dFo_decide_30 : decode cFo_decide 30 = .ok (.aload_n 1, 1) := by decide +kernel
theorem dFo_decide_31 : decode cFo_decide 31 = .ok (.getfield 52, 3) := by decide +kernel
theorem dFo_decide_34 : decode cFo_decide 34 = .ok (.iaload, 1) := by decide +kernel
theorem dFo_decide_35 : decode cFo_decide 35 = .ok (.if_icmp .gt 5, 3) := by decide +kernel
theorem dFo_decide_38 : decode cFo_decide 38 = .ok (.iconst 0, 1) := by decide +kernel
theorem dFo_decide_39 : decode cFo_decide 39 = .ok (.ireturn, 1) := by decide +kernel
theorem dFo_decide_40 : decode cFo_decide 40 = .ok (.aload_n 1, 1) := by decide +kernel
theorem dFo_decide_41 : decode cFo_decide 41 = .ok (.getfield 44, 3) := by decide +kernel
theorem dFo_decide_44 : decode cFo_decide 44 = .ok (.aload_n 0, 1) := by decide +kernel
theorem dFo_decide_45 : decode cFo_decide 45 = .ok (.invokevirtual 55, 3) := by decide +kernel
theorem dFo_decide_48 : decode cFo_decide 48 = .ok (.if_icmp .ge 5, 3) := by decide +kernel
theorem dFo_decide_51 : decode cFo_decide 51 = .ok (.iconst 2, 1) := by decide +kernel
theorem dFo_decide_52 : decode cFo_decide 52 = .ok (.ireturn, 1) := by decide +kernel
theorem dFo_decide_53 : decode cFo_decide 53 = .ok (.aload_n 1, 1) := by decide +kernel
theorem dFo_decide_54 : decode cFo_decide 54 = .ok (.getfield 59, 3) := by decide +kernel
theorem dFo_decide_57 : decode cFo_decide 57 = .ok (.aload_n 0, 1) := by decide +kernel
theorem dFo_decide_58 : decode cFo_decide 58 = .ok (.aload_n 1, 1) := by decide +kernel
theorem dFo_decide_59 : decode cFo_decide 59 = .ok (.getfield 44, 3) := by decide +kernel
theorem dFo_decide_62 : decode cFo_decide 62 = .ok (.invokevirtual 62, 3) := by decide +kernel
theorem dFo_decide_65 : decode cFo_decide 65 = .ok (.iand, 1) := by decide +kernel
theorem dFo_decide_66 : decode cFo_decide 66 = .ok (.ifCond .eq 7, 3) := by decide +kernel
theorem dFo_decide_69 : decode cFo_decide 69 = .ok (.iconst 1, 1) := by decide +kernel
theorem dFo_decide_70 : decode cFo_decide 70 = .ok (.goto 4, 3) := by decide +kernel
theorem dFo_decide_73 : decode cFo_decide 73 = .ok (.iconst 0, 1) := by decide +kernel
theorem dFo_decide_74 : decode cFo_decide 74 = .ok (.istore_n 2, 1) := by decide +kernel
theorem dFo_decide_75 : decode cFo_decide 75 = .ok (.iload_n 2, 1) := by decide +kernel
theorem dFo_decide_76 : decode cFo_decide 76 = .ok (.ifCond .eq 7, 3) := by decide +kernel
theorem dFo_decide_79 : decode cFo_decide 79 = .ok (.iconst 2, 1) := by decide +kernel
theorem dFo_decide_80 : decode cFo_decide 80 = .ok (.goto 4, 3) := by decide +kernel
theorem dFo_decide_83 : decode cFo_decide 83 = .ok (.iconst 1, 1) := by decide +kernel
theorem dFo_decide_84 : decode cFo_decide 84 = .ok (.ireturn, 1) := by decide +kernel
theorem dFo_admit_0 : decode cFo_admit 0 = .ok (.aload_n 0, 1) := by decide +kernel
theorem dFo_admit_1 : decode cFo_admit 1 = .ok (.aload_n 1, 1) := by decide +kernel
theorem dFo_admit_2 : decode cFo_admit 2 = .ok (.invokevirtual 66, 3) := by decide +kernel
theorem dFo_admit_5 : decode cFo_admit 5 = .ok (.istore_n 2, 1) := by decide +kernel
theorem dFo_admit_6 : decode cFo_admit 6 = .ok (.iload_n 2, 1) := by decide +kernel
theorem dFo_admit_7 : decode cFo_admit 7 = .ok (.iconst (-1), 1) := by decide +kernel
theorem dFo_admit_8 : decode cFo_admit 8 = .ok (.if_icmp .ne 5, 3) := by decide +kernel
theorem dFo_admit_11 : decode cFo_admit 11 = .ok (.iconst (-1), 1) := by decide +kernel
theorem dFo_admit_12 : decode cFo_admit 12 = .ok (.ireturn, 1) := by decide +kernel
theorem dFo_admit_13 : decode cFo_admit 13 = .ok (.aload_n 0, 1) := by decide +kernel
theorem dFo_admit_14 : decode cFo_admit 14 = .ok (.invokevirtual 70, 3) := by decide +kernel
theorem dFo_admit_17 : decode cFo_admit 17 = .ok (.iload_n 2, 1) := by decide +kernel
theorem dFo_admit_18 : decode cFo_admit 18 = .ok (.ifCond .ne 15, 3) := by decide +kernel
theorem dFo_admit_21 : decode cFo_admit 21 = .ok (.aload_n 0, 1) := by decide +kernel
theorem dFo_admit_22 : decode cFo_admit 22 = .ok (.dup, 1) := by decide +kernel
theorem dFo_admit_23 : decode cFo_admit 23 = .ok (.getfield 24, 3) := by decide +kernel
theorem dFo_admit_26 : decode cFo_admit 26 = .ok (.iconst 1, 1) := by decide +kernel
theorem dFo_admit_27 : decode cFo_admit 27 = .ok (.iadd, 1) := by decide +kernel
theorem dFo_admit_28 : decode cFo_admit 28 = .ok (.putfield 24, 3) := by decide +kernel
theorem dFo_admit_31 : decode cFo_admit 31 = .ok (.iconst 0, 1) := by decide +kernel
theorem dFo_admit_32 : decode cFo_admit 32 = .ok (.ireturn, 1) := by decide +kernel
theorem dFo_admit_33 : decode cFo_admit 33 = .ok (.iload_n 2, 1) := by decide +kernel
theorem dFo_admit_34 : decode cFo_admit 34 = .ok (.iconst 1, 1) := by decide +kernel
theorem dFo_admit_35 : decode cFo_admit 35 = .ok (.if_icmp .ne 21, 3) := by decide +kernel
theorem dFo_admit_38 : decode cFo_admit 38 = .ok (.aload_n 0, 1) := by decide +kernel
theorem dFo_admit_39 : decode cFo_admit 39 = .ok (.dup, 1) := by decide +kernel
theorem dFo_admit_40 : decode cFo_admit 40 = .ok (.getfield 18, 3) := by decide +kernel
theorem dFo_admit_43 : decode cFo_admit 43 = .ok (.iconst 1, 1) := by decide +kernel
theorem dFo_admit_44 : decode cFo_admit 44 = .ok (.iadd, 1) := by decide +kernel
theorem dFo_admit_45 : decode cFo_admit 45 = .ok (.putfield 18, 3) := by decide +kernel
theorem dFo_admit_48 : decode cFo_admit 48 = .ok (.aload_n 0, 1) := by decide +kernel
theorem dFo_admit_49 : decode cFo_admit 49 = .ok (.aload_n 1, 1) := by decide +kernel
theorem dFo_admit_50 : decode cFo_admit 50 = .ok (.invokevirtual 73, 3) := by decide +kernel
theorem dFo_admit_53 : decode cFo_admit 53 = .ok (.goto 13, 3) := by decide +kernel
theorem dFo_admit_56 : decode cFo_admit 56 = .ok (.aload_n 0, 1) := by decide +kernel
theorem dFo_admit_57 : decode cFo_admit 57 = .ok (.dup, 1) := by decide +kernel
theorem dFo_admit_58 : decode cFo_admit 58 = .ok (.getfield 21, 3) := by decide +kernel
theorem dFo_admit_61 : decode cFo_admit 61 = .ok (.iconst 1, 1) := by decide +kernel
theorem dFo_admit_62 : decode cFo_admit 62 = .ok (.iadd, 1) := by decide +kernel
theorem dFo_admit_63 : decode cFo_admit 63 = .ok (.putfield 21, 3) := by decide +kernel
theorem dFo_admit_66 : decode cFo_admit 66 = .ok (.aload_n 0, 1) := by decide +kernel
theorem dFo_admit_67 : decode cFo_admit 67 = .ok (.getfield 34, 3) := by decide +kernel
theorem dFo_admit_70 : decode cFo_admit 70 = .ok (.aload_n 1, 1) := by decide +kernel
theorem dFo_admit_71 : decode cFo_admit 71 = .ok (.getfield 52, 3) := by decide +kernel
theorem dFo_admit_74 : decode cFo_admit 74 = .ok (.aload_n 1, 1) := by decide +kernel
theorem dFo_admit_75 : decode cFo_admit 75 = .ok (.getfield 49, 3) := by decide +kernel
theorem dFo_admit_78 : decode cFo_admit 78 = .ok (.iastore, 1) := by decide +kernel
theorem dFo_admit_79 : decode cFo_admit 79 = .ok (.aload_n 0, 1) := by decide +kernel
theorem dFo_admit_80 : decode cFo_admit 80 = .ok (.getfield 37, 3) := by decide +kernel
theorem dFo_admit_83 : decode cFo_admit 83 = .ok (.aload_n 1, 1) := by decide +kernel
theorem dFo_admit_84 : decode cFo_admit 84 = .ok (.getfield 52, 3) := by decide +kernel
theorem dFo_admit_87 : decode cFo_admit 87 = .ok (.iload_n 2, 1) := by decide +kernel
theorem dFo_admit_88 : decode cFo_admit 88 = .ok (.iastore, 1) := by decide +kernel
theorem dFo_admit_89 : decode cFo_admit 89 = .ok (.iload_n 2, 1) := by decide +kernel
theorem dFo_admit_90 : decode cFo_admit 90 = .ok (.ireturn, 1) := by decide +kernel
theorem dFo_openNextRow_0 : decode cFo_openNextRow 0 = .ok (.aload_n 0, 1) := by decide +kernel
theorem dFo_openNextRow_1 : decode cFo_openNextRow 1 = .ok (.getfield 9, 3) := by decide +kernel
theorem dFo_openNextRow_4 : decode cFo_openNextRow 4 = .ok (.invokestatic 77, 3) := by decide +kernel
theorem dFo_openNextRow_7 : decode cFo_openNextRow 7 = .ok (.istore_n 1, 1) := by decide +kernel
theorem dFo_openNextRow_8 : decode cFo_openNextRow 8 = .ok (.aload_n 0, 1) := by decide +kernel
theorem dFo_openNextRow_9 : decode cFo_openNextRow 9 = .ok (.dup, 1) := by decide +kernel
theorem dFo_openNextRow_10 : decode cFo_openNextRow 10 = .ok (.getfield 9, 3) := by decide +kernel
theorem dFo_openNextRow_13 : decode cFo_openNextRow 13 = .ok (.iconst 1, 1) := by decide +kernel
theorem dFo_openNextRow_14 : decode cFo_openNextRow 14 = .ok (.iadd, 1) := by decide +kernel
theorem dFo_openNextRow_15 : decode cFo_openNextRow 15 = .ok (.putfield 9, 3) := by decide +kernel
theorem dFo_openNextRow_18 : decode cFo_openNextRow 18 = .ok (.aload_n 0, 1) := by decide +kernel
theorem dFo_openNextRow_19 : decode cFo_openNextRow 19 = .ok (.getfield 27, 3) := by decide +kernel
theorem dFo_openNextRow_22 : decode cFo_openNextRow 22 = .ok (.iload_n 1, 1) := by decide +kernel
theorem dFo_openNextRow_23 : decode cFo_openNextRow 23 = .ok (.aload_n 0, 1) := by decide +kernel
theorem dFo_openNextRow_24 : decode cFo_openNextRow 24 = .ok (.getfield 27, 3) := by decide +kernel
theorem dFo_openNextRow_27 : decode cFo_openNextRow 27 = .ok (.aload_n 0, 1) := by decide +kernel
theorem dFo_openNextRow_28 : decode cFo_openNextRow 28 = .ok (.getfield 9, 3) := by decide +kernel
theorem dFo_openNextRow_31 : decode cFo_openNextRow 31 = .ok (.invokestatic 77, 3) := by decide +kernel
theorem dFo_openNextRow_34 : decode cFo_openNextRow 34 = .ok (.bipush 16, 2) := by decide +kernel
theorem dFo_openNextRow_36 : decode cFo_openNextRow 36 = .ok (.invokestatic 80, 3) := by decide +kernel
theorem dFo_openNextRow_39 : decode cFo_openNextRow 39 = .ok (.aload_n 0, 1) := by decide +kernel
theorem dFo_openNextRow_40 : decode cFo_openNextRow 40 = .ok (.aload_n 0, 1) := by decide +kernel
theorem dFo_openNextRow_41 : decode cFo_openNextRow 41 = .ok (.getfield 15, 3) := by decide +kernel
theorem dFo_openNextRow_44 : decode cFo_openNextRow 44 = .ok (.aload_n 0, 1) := by decide +kernel
theorem dFo_openNextRow_45 : decode cFo_openNextRow 45 = .ok (.getfield 9, 3) := by decide +kernel
theorem dFo_openNextRow_48 : decode cFo_openNextRow 48 = .ok (.aload_n 0, 1) := by decide +kernel
theorem dFo_openNextRow_49 : decode cFo_openNextRow 49 = .ok (.getfield 40, 3) := by decide +kernel
theorem dFo_openNextRow_52 : decode cFo_openNextRow 52 = .ok (.isub, 1) := by decide +kernel
theorem dFo_openNextRow_53 : decode cFo_openNextRow 53 = .ok (.invokestatic 86, 3) := by decide +kernel
theorem dFo_openNextRow_56 : decode cFo_openNextRow 56 = .ok (.putfield 15, 3) := by decide +kernel
theorem dFo_openNextRow_59 : decode cFo_openNextRow 59 = .ok (.return_, 1) := by decide +kernel
theorem dFo_store_0 : decode cFo_store 0 = .ok (.aload_n 0, 1) := by decide +kernel
theorem dFo_store_1 : decode cFo_store 1 = .ok (.getfield 9, 3) := by decide +kernel
theorem dFo_store_4 : decode cFo_store 4 = .ok (.invokestatic 77, 3) := by decide +kernel
theorem dFo_store_7 : decode cFo_store 7 = .ok (.istore_n 2, 1) := by decide +kernel
theorem dFo_store_8 : decode cFo_store 8 = .ok (.iconst 0, 1) := by decide +kernel
theorem dFo_store_9 : decode cFo_store 9 = .ok (.istore_n 3, 1) := by decide +kernel
theorem dFo_store_10 : decode cFo_store 10 = .ok (.iload_n 3, 1) := by decide +kernel
theorem dFo_store_11 : decode cFo_store 11 = .ok (.bipush 16, 2) := by decide +kernel
theorem dFo_store_13 : decode cFo_store 13 = .ok (.if_icmp .ge 41, 3) := by decide +kernel
theorem dFo_store_16 : decode cFo_store 16 = .ok (.aload_n 1, 1) := by decide +kernel
theorem dFo_store_17 : decode cFo_store 17 = .ok (.iload_n 3, 1) := by decide +kernel
theorem dFo_store_18 : decode cFo_store 18 = .ok (.invokevirtual 92, 3) := by decide +kernel
theorem dFo_store_21 : decode cFo_store 21 = .ok (.ifCond .eq 27, 3) := by decide +kernel
theorem dFo_store_24 : decode cFo_store 24 = .ok (.aload_n 0, 1) := by decide +kernel
theorem dFo_store_25 : decode cFo_store 25 = .ok (.getfield 27, 3) := by decide +kernel
theorem dFo_store_28 : decode cFo_store 28 = .ok (.iload_n 2, 1) := by decide +kernel
theorem dFo_store_29 : decode cFo_store 29 = .ok (.iload_n 3, 1) := by decide +kernel
theorem dFo_store_30 : decode cFo_store 30 = .ok (.iadd, 1) := by decide +kernel
theorem dFo_store_31 : decode cFo_store 31 = .ok (.aload_n 1, 1) := by decide +kernel
theorem dFo_store_32 : decode cFo_store 32 = .ok (.getfield 96, 3) := by decide +kernel
theorem dFo_store_35 : decode cFo_store 35 = .ok (.iload_n 3, 1) := by decide +kernel
theorem dFo_store_36 : decode cFo_store 36 = .ok (.iaload, 1) := by decide +kernel
theorem dFo_store_37 : decode cFo_store 37 = .ok (.iastore, 1) := by decide +kernel
theorem dFo_store_38 : decode cFo_store 38 = .ok (.aload_n 0, 1) := by decide +kernel
theorem dFo_store_39 : decode cFo_store 39 = .ok (.getfield 31, 3) := by decide +kernel
theorem dFo_store_42 : decode cFo_store 42 = .ok (.iload_n 3, 1) := by decide +kernel
theorem dFo_store_43 : decode cFo_store 43 = .ok (.aload_n 0, 1) := by decide +kernel
theorem dFo_store_44 : decode cFo_store 44 = .ok (.getfield 9, 3) := by decide +kernel
theorem dFo_store_47 : decode cFo_store 47 = .ok (.iastore, 1) := by decide +kernel
theorem dFo_store_48 : decode cFo_store 48 = .ok (.iinc 3 1, 3) := by decide +kernel
theorem dFo_store_51 : decode cFo_store 51 = .ok (.goto (-41), 3) := by decide +kernel
theorem dFo_store_54 : decode cFo_store 54 = .ok (.return_, 1) := by decide +kernel
theorem dFo_rowStart_0 : decode cFo_rowStart 0 = .ok (.iload_n 0, 1) := by decide +kernel
theorem dFo_rowStart_1 : decode cFo_rowStart 1 = .ok (.bipush 17, 2) := by decide +kernel
theorem dFo_rowStart_3 : decode cFo_rowStart 3 = .ok (.irem, 1) := by decide +kernel
theorem dFo_rowStart_4 : decode cFo_rowStart 4 = .ok (.bipush 16, 2) := by decide +kernel
theorem dFo_rowStart_6 : decode cFo_rowStart 6 = .ok (.imul, 1) := by decide +kernel
theorem dFo_rowStart_7 : decode cFo_rowStart 7 = .ok (.ireturn, 1) := by decide +kernel
theorem dFo_oldestSnapshot_0 : decode cFo_oldestSnapshot 0 = .ok (.aload_n 0, 1) := by decide +kernel
theorem dFo_oldestSnapshot_1 : decode cFo_oldestSnapshot 1 = .ok (.getfield 9, 3) := by decide +kernel
theorem dFo_oldestSnapshot_4 : decode cFo_oldestSnapshot 4 = .ok (.aload_n 0, 1) := by decide +kernel
theorem dFo_oldestSnapshot_5 : decode cFo_oldestSnapshot 5 = .ok (.getfield 40, 3) := by decide +kernel
theorem dFo_oldestSnapshot_8 : decode cFo_oldestSnapshot 8 = .ok (.isub, 1) := by decide +kernel
theorem dFo_oldestSnapshot_9 : decode cFo_oldestSnapshot 9 = .ok (.ireturn, 1) := by decide +kernel
theorem dFo_keysAfter_0 : decode cFo_keysAfter 0 = .ok (.iload_n 1, 1) := by decide +kernel
theorem dFo_keysAfter_1 : decode cFo_keysAfter 1 = .ok (.iconst 0, 1) := by decide +kernel
theorem dFo_keysAfter_2 : decode cFo_keysAfter 2 = .ok (.invokestatic 86, 3) := by decide +kernel
theorem dFo_keysAfter_5 : decode cFo_keysAfter 5 = .ok (.istore_n 2, 1) := by decide +kernel
theorem dFo_keysAfter_6 : decode cFo_keysAfter 6 = .ok (.iconst 0, 1) := by decide +kernel
theorem dFo_keysAfter_7 : decode cFo_keysAfter 7 = .ok (.istore_n 3, 1) := by decide +kernel
theorem dFo_keysAfter_8 : decode cFo_keysAfter 8 = .ok (.iconst 0, 1) := by decide +kernel
theorem dFo_keysAfter_9 : decode cFo_keysAfter 9 = .ok (.istore 4, 2) := by decide +kernel
theorem dFo_keysAfter_11 : decode cFo_keysAfter 11 = .ok (.iload 4, 2) := by decide +kernel
theorem dFo_keysAfter_13 : decode cFo_keysAfter 13 = .ok (.bipush 16, 2) := by decide +kernel
theorem dFo_keysAfter_15 : decode cFo_keysAfter 15 = .ok (.if_icmp .ge 27, 3) := by decide +kernel
theorem dFo_keysAfter_18 : decode cFo_keysAfter 18 = .ok (.aload_n 0, 1) := by decide +kernel
theorem dFo_keysAfter_19 : decode cFo_keysAfter 19 = .ok (.getfield 31, 3) := by decide +kernel
theorem dFo_keysAfter_22 : decode cFo_keysAfter 22 = .ok (.iload 4, 2) := by decide +kernel
theorem dFo_keysAfter_24 : decode cFo_keysAfter 24 = .ok (.iaload, 1) := by decide +kernel
theorem dFo_keysAfter_25 : decode cFo_keysAfter 25 = .ok (.iload_n 2, 1) := by decide +kernel
theorem dFo_keysAfter_26 : decode cFo_keysAfter 26 = .ok (.if_icmp .le 10, 3) := by decide +kernel
theorem dFo_keysAfter_29 : decode cFo_keysAfter 29 = .ok (.iload_n 3, 1) := by decide +kernel
theorem dFo_keysAfter_30 : decode cFo_keysAfter 30 = .ok (.iconst 1, 1) := by decide +kernel
theorem dFo_keysAfter_31 : decode cFo_keysAfter 31 = .ok (.iload 4, 2) := by decide +kernel
theorem dFo_keysAfter_33 : decode cFo_keysAfter 33 = .ok (.ishl, 1) := by decide +kernel
theorem dFo_keysAfter_34 : decode cFo_keysAfter 34 = .ok (.ior, 1) := by decide +kernel
theorem dFo_keysAfter_35 : decode cFo_keysAfter 35 = .ok (.istore_n 3, 1) := by decide +kernel
theorem dFo_keysAfter_36 : decode cFo_keysAfter 36 = .ok (.iinc 4 1, 3) := by decide +kernel
theorem dFo_keysAfter_39 : decode cFo_keysAfter 39 = .ok (.goto (-28), 3) := by decide +kernel
theorem dFo_keysAfter_42 : decode cFo_keysAfter 42 = .ok (.iload_n 3, 1) := by decide +kernel
theorem dFo_keysAfter_43 : decode cFo_keysAfter 43 = .ok (.ireturn, 1) := by decide +kernel
theorem dFo_keptWrite_0 : decode cFo_keptWrite 0 = .ok (.aload_n 0, 1) := by decide +kernel
theorem dFo_keptWrite_1 : decode cFo_keptWrite 1 = .ok (.getfield 31, 3) := by decide +kernel
theorem dFo_keptWrite_4 : decode cFo_keptWrite 4 = .ok (.iload_n 1, 1) := by decide +kernel
theorem dFo_keptWrite_5 : decode cFo_keptWrite 5 = .ok (.iaload, 1) := by decide +kernel
theorem dFo_keptWrite_6 : decode cFo_keptWrite 6 = .ok (.istore_n 2, 1) := by decide +kernel
theorem dFo_keptWrite_7 : decode cFo_keptWrite 7 = .ok (.iload_n 2, 1) := by decide +kernel
theorem dFo_keptWrite_8 : decode cFo_keptWrite 8 = .ok (.ifCond .le 15, 3) := by decide +kernel
theorem dFo_keptWrite_11 : decode cFo_keptWrite 11 = .ok (.iload_n 2, 1) := by decide +kernel
theorem dFo_keptWrite_12 : decode cFo_keptWrite 12 = .ok (.aload_n 0, 1) := by decide +kernel
theorem dFo_keptWrite_13 : decode cFo_keptWrite 13 = .ok (.getfield 15, 3) := by decide +kernel
theorem dFo_keptWrite_16 : decode cFo_keptWrite 16 = .ok (.if_icmp .lt 7, 3) := by decide +kernel
theorem dFo_keptWrite_19 : decode cFo_keptWrite 19 = .ok (.iload_n 2, 1) := by decide +kernel
theorem dFo_keptWrite_20 : decode cFo_keptWrite 20 = .ok (.goto 4, 3) := by decide +kernel
theorem dFo_keptWrite_23 : decode cFo_keptWrite 23 = .ok (.iconst (-1), 1) := by decide +kernel
theorem dFo_keptWrite_24 : decode cFo_keptWrite 24 = .ok (.ireturn, 1) := by decide +kernel
theorem dFo_valueAt_0 : decode cFo_valueAt 0 = .ok (.aload_n 0, 1) := by decide +kernel
theorem dFo_valueAt_1 : decode cFo_valueAt 1 = .ok (.getfield 27, 3) := by decide +kernel
theorem dFo_valueAt_4 : decode cFo_valueAt 4 = .ok (.iload_n 2, 1) := by decide +kernel
theorem dFo_valueAt_5 : decode cFo_valueAt 5 = .ok (.invokestatic 77, 3) := by decide +kernel
theorem dFo_valueAt_8 : decode cFo_valueAt 8 = .ok (.iload_n 1, 1) := by decide +kernel
theorem dFo_valueAt_9 : decode cFo_valueAt 9 = .ok (.iadd, 1) := by decide +kernel
theorem dFo_valueAt_10 : decode cFo_valueAt 10 = .ok (.iaload, 1) := by decide +kernel
theorem dFo_valueAt_11 : decode cFo_valueAt 11 = .ok (.ireturn, 1) := by decide +kernel
theorem dFo_sumOfValues_0 : decode cFo_sumOfValues 0 = .ok (.iconst 0, 1) := by decide +kernel
theorem dFo_sumOfValues_1 : decode cFo_sumOfValues 1 = .ok (.istore_n 1, 1) := by decide +kernel
theorem dFo_sumOfValues_2 : decode cFo_sumOfValues 2 = .ok (.iconst 0, 1) := by decide +kernel
theorem dFo_sumOfValues_3 : decode cFo_sumOfValues 3 = .ok (.istore_n 2, 1) := by decide +kernel
theorem dFo_sumOfValues_4 : decode cFo_sumOfValues 4 = .ok (.iload_n 2, 1) := by decide +kernel
theorem dFo_sumOfValues_5 : decode cFo_sumOfValues 5 = .ok (.bipush 16, 2) := by decide +kernel
theorem dFo_sumOfValues_7 : decode cFo_sumOfValues 7 = .ok (.if_icmp .ge 21, 3) := by decide +kernel
theorem dFo_sumOfValues_10 : decode cFo_sumOfValues 10 = .ok (.iload_n 1, 1) := by decide +kernel
theorem dFo_sumOfValues_11 : decode cFo_sumOfValues 11 = .ok (.aload_n 0, 1) := by decide +kernel
theorem dFo_sumOfValues_12 : decode cFo_sumOfValues 12 = .ok (.iload_n 2, 1) := by decide +kernel
theorem dFo_sumOfValues_13 : decode cFo_sumOfValues 13 = .ok (.aload_n 0, 1) := by decide +kernel
theorem dFo_sumOfValues_14 : decode cFo_sumOfValues 14 = .ok (.getfield 9, 3) := by decide +kernel
theorem dFo_sumOfValues_17 : decode cFo_sumOfValues 17 = .ok (.invokevirtual 99, 3) := by decide +kernel
theorem dFo_sumOfValues_20 : decode cFo_sumOfValues 20 = .ok (.iadd, 1) := by decide +kernel
theorem dFo_sumOfValues_21 : decode cFo_sumOfValues 21 = .ok (.istore_n 1, 1) := by decide +kernel
theorem dFo_sumOfValues_22 : decode cFo_sumOfValues 22 = .ok (.iinc 2 1, 3) := by decide +kernel
theorem dFo_sumOfValues_25 : decode cFo_sumOfValues 25 = .ok (.goto (-21), 3) := by decide +kernel
theorem dFo_sumOfValues_28 : decode cFo_sumOfValues 28 = .ok (.iload_n 1, 1) := by decide +kernel
theorem dFo_sumOfValues_29 : decode cFo_sumOfValues 29 = .ok (.ireturn, 1) := by decide +kernel
theorem dFo_isLike_0 : decode cFo_isLike 0 = .ok (.aload_n 0, 1) := by decide +kernel
theorem dFo_isLike_1 : decode cFo_isLike 1 = .ok (.getfield 9, 3) := by decide +kernel
theorem dFo_isLike_4 : decode cFo_isLike 4 = .ok (.aload_n 1, 1) := by decide +kernel
theorem dFo_isLike_5 : decode cFo_isLike 5 = .ok (.getfield 9, 3) := by decide +kernel
theorem dFo_isLike_8 : decode cFo_isLike 8 = .ok (.if_icmp .ne 23, 3) := by decide +kernel
theorem dFo_isLike_11 : decode cFo_isLike 11 = .ok (.aload_n 0, 1) := by decide +kernel
theorem dFo_isLike_12 : decode cFo_isLike 12 = .ok (.aload_n 1, 1) := by decide +kernel
theorem dFo_isLike_13 : decode cFo_isLike 13 = .ok (.invokevirtual 102, 3) := by decide +kernel
theorem dFo_isLike_16 : decode cFo_isLike 16 = .ok (.ifCond .eq 15, 3) := by decide +kernel
theorem dFo_isLike_19 : decode cFo_isLike 19 = .ok (.aload_n 0, 1) := by decide +kernel
theorem dFo_isLike_20 : decode cFo_isLike 20 = .ok (.aload_n 1, 1) := by decide +kernel
theorem dFo_isLike_21 : decode cFo_isLike 21 = .ok (.invokevirtual 106, 3) := by decide +kernel
theorem dFo_isLike_24 : decode cFo_isLike 24 = .ok (.ifCond .eq 7, 3) := by decide +kernel
theorem dFo_isLike_27 : decode cFo_isLike 27 = .ok (.iconst 1, 1) := by decide +kernel
theorem dFo_isLike_28 : decode cFo_isLike 28 = .ok (.goto 4, 3) := by decide +kernel
theorem dFo_isLike_31 : decode cFo_isLike 31 = .ok (.iconst 0, 1) := by decide +kernel
theorem dFo_isLike_32 : decode cFo_isLike 32 = .ok (.ireturn, 1) := by decide +kernel
theorem dFo_hasKeysOf_0 : decode cFo_hasKeysOf 0 = .ok (.aload_n 0, 1) := by decide +kernel
theorem dFo_hasKeysOf_1 : decode cFo_hasKeysOf 1 = .ok (.invokevirtual 55, 3) := by decide +kernel
theorem dFo_hasKeysOf_4 : decode cFo_hasKeysOf 4 = .ok (.istore_n 2, 1) := by decide +kernel
theorem dFo_hasKeysOf_5 : decode cFo_hasKeysOf 5 = .ok (.iconst 0, 1) := by decide +kernel
theorem dFo_hasKeysOf_6 : decode cFo_hasKeysOf 6 = .ok (.istore_n 3, 1) := by decide +kernel
theorem dFo_hasKeysOf_7 : decode cFo_hasKeysOf 7 = .ok (.iload_n 3, 1) := by decide +kernel
theorem dFo_hasKeysOf_8 : decode cFo_hasKeysOf 8 = .ok (.bipush 16, 2) := by decide +kernel
theorem dFo_hasKeysOf_10 : decode cFo_hasKeysOf 10 = .ok (.if_icmp .ge 63, 3) := by decide +kernel
theorem dFo_hasKeysOf_13 : decode cFo_hasKeysOf 13 = .ok (.aload_n 0, 1) := by decide +kernel
theorem dFo_hasKeysOf_14 : decode cFo_hasKeysOf 14 = .ok (.getfield 31, 3) := by decide +kernel
theorem dFo_hasKeysOf_17 : decode cFo_hasKeysOf 17 = .ok (.iload_n 3, 1) := by decide +kernel
theorem dFo_hasKeysOf_18 : decode cFo_hasKeysOf 18 = .ok (.iaload, 1) := by decide +kernel
theorem dFo_hasKeysOf_19 : decode cFo_hasKeysOf 19 = .ok (.iload_n 2, 1) := by decide +kernel
theorem dFo_hasKeysOf_20 : decode cFo_hasKeysOf 20 = .ok (.invokestatic 86, 3) := by decide +kernel
theorem dFo_hasKeysOf_23 : decode cFo_hasKeysOf 23 = .ok (.istore 4, 2) := by decide +kernel
theorem dFo_hasKeysOf_25 : decode cFo_hasKeysOf 25 = .ok (.aload_n 1, 1) := by decide +kernel
theorem dFo_hasKeysOf_26 : decode cFo_hasKeysOf 26 = .ok (.getfield 31, 3) := by decide +kernel
theorem dFo_hasKeysOf_29 : decode cFo_hasKeysOf 29 = .ok (.iload_n 3, 1) := by decide +kernel
theorem dFo_hasKeysOf_30 : decode cFo_hasKeysOf 30 = .ok (.iaload, 1) := by decide +kernel
theorem dFo_hasKeysOf_31 : decode cFo_hasKeysOf 31 = .ok (.iload_n 2, 1) := by decide +kernel
theorem dFo_hasKeysOf_32 : decode cFo_hasKeysOf 32 = .ok (.invokestatic 86, 3) := by decide +kernel
theorem dFo_hasKeysOf_35 : decode cFo_hasKeysOf 35 = .ok (.istore 5, 2) := by decide +kernel
theorem dFo_hasKeysOf_37 : decode cFo_hasKeysOf 37 = .ok (.iload 4, 2) := by decide +kernel
theorem dFo_hasKeysOf_39 : decode cFo_hasKeysOf 39 = .ok (.iload 5, 2) := by decide +kernel
theorem dFo_hasKeysOf_41 : decode cFo_hasKeysOf 41 = .ok (.if_icmp .ne 24, 3) := by decide +kernel
theorem dFo_hasKeysOf_44 : decode cFo_hasKeysOf 44 = .ok (.aload_n 0, 1) := by decide +kernel
theorem dFo_hasKeysOf_45 : decode cFo_hasKeysOf 45 = .ok (.iload_n 3, 1) := by decide +kernel
theorem dFo_hasKeysOf_46 : decode cFo_hasKeysOf 46 = .ok (.aload_n 0, 1) := by decide +kernel
theorem dFo_hasKeysOf_47 : decode cFo_hasKeysOf 47 = .ok (.getfield 9, 3) := by decide +kernel
theorem dFo_hasKeysOf_50 : decode cFo_hasKeysOf 50 = .ok (.invokevirtual 99, 3) := by decide +kernel
theorem dFo_hasKeysOf_53 : decode cFo_hasKeysOf 53 = .ok (.aload_n 1, 1) := by decide +kernel
theorem dFo_hasKeysOf_54 : decode cFo_hasKeysOf 54 = .ok (.iload_n 3, 1) := by decide +kernel
theorem dFo_hasKeysOf_55 : decode cFo_hasKeysOf 55 = .ok (.aload_n 0, 1) := by decide +kernel
theorem dFo_hasKeysOf_56 : decode cFo_hasKeysOf 56 = .ok (.getfield 9, 3) := by decide +kernel
theorem dFo_hasKeysOf_59 : decode cFo_hasKeysOf 59 = .ok (.invokevirtual 99, 3) := by decide +kernel
theorem dFo_hasKeysOf_62 : decode cFo_hasKeysOf 62 = .ok (.if_icmp .eq 5, 3) := by decide +kernel
theorem dFo_hasKeysOf_65 : decode cFo_hasKeysOf 65 = .ok (.iconst 0, 1) := by decide +kernel
theorem dFo_hasKeysOf_66 : decode cFo_hasKeysOf 66 = .ok (.ireturn, 1) := by decide +kernel
theorem dFo_hasKeysOf_67 : decode cFo_hasKeysOf 67 = .ok (.iinc 3 1, 3) := by decide +kernel
theorem dFo_hasKeysOf_70 : decode cFo_hasKeysOf 70 = .ok (.goto (-63), 3) := by decide +kernel
theorem dFo_hasKeysOf_73 : decode cFo_hasKeysOf 73 = .ok (.iconst 1, 1) := by decide +kernel
theorem dFo_hasKeysOf_74 : decode cFo_hasKeysOf 74 = .ok (.ireturn, 1) := by decide +kernel
theorem dFo_hasSessionsOf_0 : decode cFo_hasSessionsOf 0 = .ok (.iconst 0, 1) := by decide +kernel
theorem dFo_hasSessionsOf_1 : decode cFo_hasSessionsOf 1 = .ok (.istore_n 2, 1) := by decide +kernel
theorem dFo_hasSessionsOf_2 : decode cFo_hasSessionsOf 2 = .ok (.iload_n 2, 1) := by decide +kernel
theorem dFo_hasSessionsOf_3 : decode cFo_hasSessionsOf 3 = .ok (.bipush 16, 2) := by decide +kernel
theorem dFo_hasSessionsOf_5 : decode cFo_hasSessionsOf 5 = .ok (.if_icmp .ge 41, 3) := by decide +kernel
theorem dFo_hasSessionsOf_8 : decode cFo_hasSessionsOf 8 = .ok (.aload_n 0, 1) := by decide +kernel
theorem dFo_hasSessionsOf_9 : decode cFo_hasSessionsOf 9 = .ok (.getfield 34, 3) := by decide +kernel
theorem dFo_hasSessionsOf_12 : decode cFo_hasSessionsOf 12 = .ok (.iload_n 2, 1) := by decide +kernel
theorem dFo_hasSessionsOf_13 : decode cFo_hasSessionsOf 13 = .ok (.iaload, 1) := by decide +kernel
theorem dFo_hasSessionsOf_14 : decode cFo_hasSessionsOf 14 = .ok (.aload_n 1, 1) := by decide +kernel
theorem dFo_hasSessionsOf_15 : decode cFo_hasSessionsOf 15 = .ok (.getfield 34, 3) := by decide +kernel
theorem dFo_hasSessionsOf_18 : decode cFo_hasSessionsOf 18 = .ok (.iload_n 2, 1) := by decide +kernel
theorem dFo_hasSessionsOf_19 : decode cFo_hasSessionsOf 19 = .ok (.iaload, 1) := by decide +kernel
theorem dFo_hasSessionsOf_20 : decode cFo_hasSessionsOf 20 = .ok (.if_icmp .ne 18, 3) := by decide +kernel
theorem dFo_hasSessionsOf_23 : decode cFo_hasSessionsOf 23 = .ok (.aload_n 0, 1) := by decide +kernel
theorem dFo_hasSessionsOf_24 : decode cFo_hasSessionsOf 24 = .ok (.getfield 37, 3) := by decide +kernel
theorem dFo_hasSessionsOf_27 : decode cFo_hasSessionsOf 27 = .ok (.iload_n 2, 1) := by decide +kernel
theorem dFo_hasSessionsOf_28 : decode cFo_hasSessionsOf 28 = .ok (.iaload, 1) := by decide +kernel
theorem dFo_hasSessionsOf_29 : decode cFo_hasSessionsOf 29 = .ok (.aload_n 1, 1) := by decide +kernel
theorem dFo_hasSessionsOf_30 : decode cFo_hasSessionsOf 30 = .ok (.getfield 37, 3) := by decide +kernel
theorem dFo_hasSessionsOf_33 : decode cFo_hasSessionsOf 33 = .ok (.iload_n 2, 1) := by decide +kernel
theorem dFo_hasSessionsOf_34 : decode cFo_hasSessionsOf 34 = .ok (.iaload, 1) := by decide +kernel
theorem dFo_hasSessionsOf_35 : decode cFo_hasSessionsOf 35 = .ok (.if_icmp .eq 5, 3) := by decide +kernel
theorem dFo_hasSessionsOf_38 : decode cFo_hasSessionsOf 38 = .ok (.iconst 0, 1) := by decide +kernel
theorem dFo_hasSessionsOf_39 : decode cFo_hasSessionsOf 39 = .ok (.ireturn, 1) := by decide +kernel
theorem dFo_hasSessionsOf_40 : decode cFo_hasSessionsOf 40 = .ok (.iinc 2 1, 3) := by decide +kernel
theorem dFo_hasSessionsOf_43 : decode cFo_hasSessionsOf 43 = .ok (.goto (-41), 3) := by decide +kernel
theorem dFo_hasSessionsOf_46 : decode cFo_hasSessionsOf 46 = .ok (.iconst 1, 1) := by decide +kernel
theorem dFo_hasSessionsOf_47 : decode cFo_hasSessionsOf 47 = .ok (.ireturn, 1) := by decide +kernel
theorem dFo_become_0 : decode cFo_become 0 = .ok (.aload_n 0, 1) := by decide +kernel
theorem dFo_become_1 : decode cFo_become 1 = .ok (.aload_n 1, 1) := by decide +kernel
theorem dFo_become_2 : decode cFo_become 2 = .ok (.getfield 9, 3) := by decide +kernel
theorem dFo_become_5 : decode cFo_become 5 = .ok (.putfield 9, 3) := by decide +kernel
theorem dFo_become_8 : decode cFo_become 8 = .ok (.aload_n 0, 1) := by decide +kernel
theorem dFo_become_9 : decode cFo_become 9 = .ok (.aload_n 1, 1) := by decide +kernel
theorem dFo_become_10 : decode cFo_become 10 = .ok (.getfield 9, 3) := by decide +kernel
theorem dFo_become_13 : decode cFo_become 13 = .ok (.putfield 15, 3) := by decide +kernel
theorem dFo_become_16 : decode cFo_become 16 = .ok (.aload_n 0, 1) := by decide +kernel
theorem dFo_become_17 : decode cFo_become 17 = .ok (.aload_n 1, 1) := by decide +kernel
theorem dFo_become_18 : decode cFo_become 18 = .ok (.getfield 18, 3) := by decide +kernel
theorem dFo_become_21 : decode cFo_become 21 = .ok (.putfield 18, 3) := by decide +kernel
theorem dFo_become_24 : decode cFo_become 24 = .ok (.aload_n 0, 1) := by decide +kernel
theorem dFo_become_25 : decode cFo_become 25 = .ok (.aload_n 1, 1) := by decide +kernel
theorem dFo_become_26 : decode cFo_become 26 = .ok (.getfield 21, 3) := by decide +kernel
theorem dFo_become_29 : decode cFo_become 29 = .ok (.putfield 21, 3) := by decide +kernel
theorem dFo_become_32 : decode cFo_become 32 = .ok (.aload_n 0, 1) := by decide +kernel
theorem dFo_become_33 : decode cFo_become 33 = .ok (.aload_n 1, 1) := by decide +kernel
theorem dFo_become_34 : decode cFo_become 34 = .ok (.getfield 24, 3) := by decide +kernel
theorem dFo_become_37 : decode cFo_become 37 = .ok (.putfield 24, 3) := by decide +kernel
theorem dFo_become_40 : decode cFo_become 40 = .ok (.aload_n 1, 1) := by decide +kernel
theorem dFo_become_41 : decode cFo_become 41 = .ok (.getfield 27, 3) := by decide +kernel
theorem dFo_become_44 : decode cFo_become 44 = .ok (.iconst 0, 1) := by decide +kernel
theorem dFo_become_45 : decode cFo_become 45 = .ok (.aload_n 0, 1) := by decide +kernel
theorem dFo_become_46 : decode cFo_become 46 = .ok (.getfield 27, 3) := by decide +kernel
theorem dFo_become_49 : decode cFo_become 49 = .ok (.iconst 0, 1) := by decide +kernel
theorem dFo_become_50 : decode cFo_become 50 = .ok (.sipush 272, 3) := by decide +kernel
theorem dFo_become_53 : decode cFo_become 53 = .ok (.invokestatic 80, 3) := by decide +kernel
theorem dFo_become_56 : decode cFo_become 56 = .ok (.aload_n 1, 1) := by decide +kernel
theorem dFo_become_57 : decode cFo_become 57 = .ok (.getfield 31, 3) := by decide +kernel
theorem dFo_become_60 : decode cFo_become 60 = .ok (.iconst 0, 1) := by decide +kernel
theorem dFo_become_61 : decode cFo_become 61 = .ok (.aload_n 0, 1) := by decide +kernel
theorem dFo_become_62 : decode cFo_become 62 = .ok (.getfield 31, 3) := by decide +kernel
theorem dFo_become_65 : decode cFo_become 65 = .ok (.iconst 0, 1) := by decide +kernel
theorem dFo_become_66 : decode cFo_become 66 = .ok (.bipush 16, 2) := by decide +kernel
theorem dFo_become_68 : decode cFo_become 68 = .ok (.invokestatic 80, 3) := by decide +kernel
theorem dFo_become_71 : decode cFo_become 71 = .ok (.aload_n 1, 1) := by decide +kernel
theorem dFo_become_72 : decode cFo_become 72 = .ok (.getfield 34, 3) := by decide +kernel
theorem dFo_become_75 : decode cFo_become 75 = .ok (.iconst 0, 1) := by decide +kernel
theorem dFo_become_76 : decode cFo_become 76 = .ok (.aload_n 0, 1) := by decide +kernel
theorem dFo_become_77 : decode cFo_become 77 = .ok (.getfield 34, 3) := by decide +kernel
theorem dFo_become_80 : decode cFo_become 80 = .ok (.iconst 0, 1) := by decide +kernel
theorem dFo_become_81 : decode cFo_become 81 = .ok (.bipush 16, 2) := by decide +kernel
theorem dFo_become_83 : decode cFo_become 83 = .ok (.invokestatic 80, 3) := by decide +kernel
theorem dFo_become_86 : decode cFo_become 86 = .ok (.aload_n 1, 1) := by decide +kernel
theorem dFo_become_87 : decode cFo_become 87 = .ok (.getfield 37, 3) := by decide +kernel
theorem dFo_become_90 : decode cFo_become 90 = .ok (.iconst 0, 1) := by decide +kernel
theorem dFo_become_91 : decode cFo_become 91 = .ok (.aload_n 0, 1) := by decide +kernel
theorem dFo_become_92 : decode cFo_become 92 = .ok (.getfield 37, 3) := by decide +kernel
theorem dFo_become_95 : decode cFo_become 95 = .ok (.iconst 0, 1) := by decide +kernel
theorem dFo_become_96 : decode cFo_become 96 = .ok (.bipush 16, 2) := by decide +kernel
theorem dFo_become_98 : decode cFo_become 98 = .ok (.invokestatic 80, 3) := by decide +kernel
theorem dFo_become_101 : decode cFo_become 101 = .ok (.return_, 1) := by decide +kernel
theorem dFo_reset_0 : decode cFo_reset 0 = .ok (.aload_n 0, 1) := by decide +kernel
theorem dFo_reset_1 : decode cFo_reset 1 = .ok (.iconst 0, 1) := by decide +kernel
theorem dFo_reset_2 : decode cFo_reset 2 = .ok (.putfield 9, 3) := by decide +kernel
theorem dFo_reset_5 : decode cFo_reset 5 = .ok (.aload_n 0, 1) := by decide +kernel
theorem dFo_reset_6 : decode cFo_reset 6 = .ok (.iconst 0, 1) := by decide +kernel
theorem dFo_reset_7 : decode cFo_reset 7 = .ok (.putfield 15, 3) := by decide +kernel
theorem dFo_reset_10 : decode cFo_reset 10 = .ok (.aload_n 0, 1) := by decide +kernel
theorem dFo_reset_11 : decode cFo_reset 11 = .ok (.iconst 0, 1) := by decide +kernel
theorem dFo_reset_12 : decode cFo_reset 12 = .ok (.putfield 18, 3) := by decide +kernel
theorem dFo_reset_15 : decode cFo_reset 15 = .ok (.aload_n 0, 1) := by decide +kernel
theorem dFo_reset_16 : decode cFo_reset 16 = .ok (.iconst 0, 1) := by decide +kernel
theorem dFo_reset_17 : decode cFo_reset 17 = .ok (.putfield 21, 3) := by decide +kernel
theorem dFo_reset_20 : decode cFo_reset 20 = .ok (.aload_n 0, 1) := by decide +kernel
theorem dFo_reset_21 : decode cFo_reset 21 = .ok (.iconst 0, 1) := by decide +kernel
theorem dFo_reset_22 : decode cFo_reset 22 = .ok (.putfield 24, 3) := by decide +kernel
theorem dFo_reset_25 : decode cFo_reset 25 = .ok (.aload_n 0, 1) := by decide +kernel
theorem dFo_reset_26 : decode cFo_reset 26 = .ok (.getfield 27, 3) := by decide +kernel
theorem dFo_reset_29 : decode cFo_reset 29 = .ok (.iconst 0, 1) := by decide +kernel
theorem dFo_reset_30 : decode cFo_reset 30 = .ok (.invokestatic 109, 3) := by decide +kernel
theorem dFo_reset_33 : decode cFo_reset 33 = .ok (.aload_n 0, 1) := by decide +kernel
theorem dFo_reset_34 : decode cFo_reset 34 = .ok (.getfield 31, 3) := by decide +kernel
theorem dFo_reset_37 : decode cFo_reset 37 = .ok (.iconst 0, 1) := by decide +kernel
theorem dFo_reset_38 : decode cFo_reset 38 = .ok (.invokestatic 109, 3) := by decide +kernel
theorem dFo_reset_41 : decode cFo_reset 41 = .ok (.aload_n 0, 1) := by decide +kernel
theorem dFo_reset_42 : decode cFo_reset 42 = .ok (.getfield 34, 3) := by decide +kernel
theorem dFo_reset_45 : decode cFo_reset 45 = .ok (.iconst 0, 1) := by decide +kernel
theorem dFo_reset_46 : decode cFo_reset 46 = .ok (.invokestatic 109, 3) := by decide +kernel
theorem dFo_reset_49 : decode cFo_reset 49 = .ok (.aload_n 0, 1) := by decide +kernel
theorem dFo_reset_50 : decode cFo_reset 50 = .ok (.getfield 37, 3) := by decide +kernel
theorem dFo_reset_53 : decode cFo_reset 53 = .ok (.iconst 0, 1) := by decide +kernel
theorem dFo_reset_54 : decode cFo_reset 54 = .ok (.invokestatic 109, 3) := by decide +kernel
theorem dFo_reset_57 : decode cFo_reset 57 = .ok (.return_, 1) := by decide +kernel
end
section
theorem dRq_init_0 : decode cRq_init 0 = .ok (.aload_n 0, 1) := by decide +kernel
theorem dRq_init_1 : decode cRq_init 1 = .ok (.invokespecial 3, 3) := by decide +kernel
theorem dRq_init_4 : decode cRq_init 4 = .ok (.aload_n 0, 1) := by decide +kernel
theorem dRq_init_5 : decode cRq_init 5 = .ok (.iconst 0, 1) := by decide +kernel
theorem dRq_init_6 : decode cRq_init 6 = .ok (.putfield 9, 3) := by decide +kernel
theorem dRq_init_9 : decode cRq_init 9 = .ok (.aload_n 0, 1) := by decide +kernel
theorem dRq_init_10 : decode cRq_init 10 = .ok (.iconst 1, 1) := by decide +kernel
theorem dRq_init_11 : decode cRq_init 11 = .ok (.putfield 15, 3) := by decide +kernel
theorem dRq_init_14 : decode cRq_init 14 = .ok (.aload_n 0, 1) := by decide +kernel
theorem dRq_init_15 : decode cRq_init 15 = .ok (.iconst 0, 1) := by decide +kernel
theorem dRq_init_16 : decode cRq_init 16 = .ok (.putfield 18, 3) := by decide +kernel
theorem dRq_init_19 : decode cRq_init 19 = .ok (.aload_n 0, 1) := by decide +kernel
theorem dRq_init_20 : decode cRq_init 20 = .ok (.iconst 0, 1) := by decide +kernel
theorem dRq_init_21 : decode cRq_init 21 = .ok (.putfield 21, 3) := by decide +kernel
theorem dRq_init_24 : decode cRq_init 24 = .ok (.aload_n 0, 1) := by decide +kernel
theorem dRq_init_25 : decode cRq_init 25 = .ok (.iconst 0, 1) := by decide +kernel
theorem dRq_init_26 : decode cRq_init 26 = .ok (.putfield 24, 3) := by decide +kernel
theorem dRq_init_29 : decode cRq_init 29 = .ok (.aload_n 0, 1) := by decide +kernel
theorem dRq_init_30 : decode cRq_init 30 = .ok (.bipush 16, 2) := by decide +kernel
theorem dRq_init_32 : decode cRq_init 32 = .ok (.newarray .int, 2) := by decide +kernel
theorem dRq_init_34 : decode cRq_init 34 = .ok (.putfield 27, 3) := by decide +kernel
theorem dRq_init_37 : decode cRq_init 37 = .ok (.return_, 1) := by decide +kernel
theorem dRq_begin_0 : decode cRq_begin 0 = .ok (.aload_n 0, 1) := by decide +kernel
theorem dRq_begin_1 : decode cRq_begin 1 = .ok (.iload_n 1, 1) := by decide +kernel
theorem dRq_begin_2 : decode cRq_begin 2 = .ok (.putfield 9, 3) := by decide +kernel
theorem dRq_begin_5 : decode cRq_begin 5 = .ok (.aload_n 0, 1) := by decide +kernel
theorem dRq_begin_6 : decode cRq_begin 6 = .ok (.iload_n 2, 1) := by decide +kernel
theorem dRq_begin_7 : decode cRq_begin 7 = .ok (.putfield 15, 3) := by decide +kernel
theorem dRq_begin_10 : decode cRq_begin 10 = .ok (.aload_n 0, 1) := by decide +kernel
theorem dRq_begin_11 : decode cRq_begin 11 = .ok (.iload_n 3, 1) := by decide +kernel
theorem dRq_begin_12 : decode cRq_begin 12 = .ok (.putfield 18, 3) := by decide +kernel
theorem dRq_begin_15 : decode cRq_begin 15 = .ok (.aload_n 0, 1) := by decide +kernel
theorem dRq_begin_16 : decode cRq_begin 16 = .ok (.iconst 0, 1) := by decide +kernel
theorem dRq_begin_17 : decode cRq_begin 17 = .ok (.putfield 21, 3) := by decide +kernel
theorem dRq_begin_20 : decode cRq_begin 20 = .ok (.aload_n 0, 1) := by decide +kernel
theorem dRq_begin_21 : decode cRq_begin 21 = .ok (.iconst 0, 1) := by decide +kernel
theorem dRq_begin_22 : decode cRq_begin 22 = .ok (.putfield 24, 3) := by decide +kernel
theorem dRq_begin_25 : decode cRq_begin 25 = .ok (.return_, 1) := by decide +kernel
theorem dRq_addRead_0 : decode cRq_addRead 0 = .ok (.aload_n 0, 1) := by decide +kernel
theorem dRq_addRead_1 : decode cRq_addRead 1 = .ok (.dup, 1) := by decide +kernel
theorem dRq_addRead_2 : decode cRq_addRead 2 = .ok (.getfield 21, 3) := by decide +kernel
theorem dRq_addRead_5 : decode cRq_addRead 5 = .ok (.iconst 1, 1) := by decide +kernel
theorem dRq_addRead_6 : decode cRq_addRead 6 = .ok (.iload_n 1, 1) := by decide +kernel
theorem dRq_addRead_7 : decode cRq_addRead 7 = .ok (.ishl, 1) := by decide +kernel
theorem dRq_addRead_8 : decode cRq_addRead 8 = .ok (.ior, 1) := by decide +kernel
theorem dRq_addRead_9 : decode cRq_addRead 9 = .ok (.putfield 21, 3) := by decide +kernel
theorem dRq_addRead_12 : decode cRq_addRead 12 = .ok (.return_, 1) := by decide +kernel
theorem dRq_addWrite_0 : decode cRq_addWrite 0 = .ok (.aload_n 0, 1) := by decide +kernel
theorem dRq_addWrite_1 : decode cRq_addWrite 1 = .ok (.dup, 1) := by decide +kernel
theorem dRq_addWrite_2 : decode cRq_addWrite 2 = .ok (.getfield 24, 3) := by decide +kernel
theorem dRq_addWrite_5 : decode cRq_addWrite 5 = .ok (.iconst 1, 1) := by decide +kernel
theorem dRq_addWrite_6 : decode cRq_addWrite 6 = .ok (.iload_n 1, 1) := by decide +kernel
theorem dRq_addWrite_7 : decode cRq_addWrite 7 = .ok (.ishl, 1) := by decide +kernel
theorem dRq_addWrite_8 : decode cRq_addWrite 8 = .ok (.ior, 1) := by decide +kernel
theorem dRq_addWrite_9 : decode cRq_addWrite 9 = .ok (.putfield 24, 3) := by decide +kernel
theorem dRq_addWrite_12 : decode cRq_addWrite 12 = .ok (.aload_n 0, 1) := by decide +kernel
theorem dRq_addWrite_13 : decode cRq_addWrite 13 = .ok (.getfield 27, 3) := by decide +kernel
theorem dRq_addWrite_16 : decode cRq_addWrite 16 = .ok (.iload_n 1, 1) := by decide +kernel
theorem dRq_addWrite_17 : decode cRq_addWrite 17 = .ok (.iload_n 2, 1) := by decide +kernel
theorem dRq_addWrite_18 : decode cRq_addWrite 18 = .ok (.iastore, 1) := by decide +kernel
theorem dRq_addWrite_19 : decode cRq_addWrite 19 = .ok (.return_, 1) := by decide +kernel
theorem dRq_hasWrite_0 : decode cRq_hasWrite 0 = .ok (.aload_n 0, 1) := by decide +kernel
theorem dRq_hasWrite_1 : decode cRq_hasWrite 1 = .ok (.getfield 24, 3) := by decide +kernel
theorem dRq_hasWrite_4 : decode cRq_hasWrite 4 = .ok (.iconst 1, 1) := by decide +kernel
theorem dRq_hasWrite_5 : decode cRq_hasWrite 5 = .ok (.iload_n 1, 1) := by decide +kernel
theorem dRq_hasWrite_6 : decode cRq_hasWrite 6 = .ok (.ishl, 1) := by decide +kernel
theorem dRq_hasWrite_7 : decode cRq_hasWrite 7 = .ok (.iand, 1) := by decide +kernel
theorem dRq_hasWrite_8 : decode cRq_hasWrite 8 = .ok (.ifCond .eq 7, 3) := by decide +kernel
theorem dRq_hasWrite_11 : decode cRq_hasWrite 11 = .ok (.iconst 1, 1) := by decide +kernel
theorem dRq_hasWrite_12 : decode cRq_hasWrite 12 = .ok (.goto 4, 3) := by decide +kernel
theorem dRq_hasWrite_15 : decode cRq_hasWrite 15 = .ok (.iconst 0, 1) := by decide +kernel
theorem dRq_hasWrite_16 : decode cRq_hasWrite 16 = .ok (.ireturn, 1) := by decide +kernel
end
section
theorem dVf_init_0 : decode cVf_init 0 = .ok (.aload_n 0, 1) := by decide +kernel
theorem dVf_init_1 : decode cVf_init 1 = .ok (.invokespecial 1, 3) := by decide +kernel
theorem dVf_init_4 : decode cVf_init 4 = .ok (.iconst 1, 1) := by decide +kernel
theorem dVf_init_5 : decode cVf_init 5 = .ok (.bipush 16, 2) := by decide +kernel
theorem dVf_init_7 : decode cVf_init 7 = .ok (.iload_n 1, 1) := by decide +kernel
theorem dVf_init_8 : decode cVf_init 8 = .ok (.invokestatic 9, 3) := by decide +kernel
theorem dVf_init_11 : decode cVf_init 11 = .ok (.invokestatic 15, 3) := by decide +kernel
theorem dVf_init_14 : decode cVf_init 14 = .ok (.istore_n 2, 1) := by decide +kernel
theorem dVf_init_15 : decode cVf_init 15 = .ok (.aload_n 0, 1) := by decide +kernel
theorem dVf_init_16 : decode cVf_init 16 = .ok (.iconst 4, 1) := by decide +kernel
theorem dVf_init_17 : decode cVf_init 17 = .ok (.anewarray 18, 3) := by decide +kernel
theorem dVf_init_20 : decode cVf_init 20 = .ok (.putfield 20, 3) := by decide +kernel
theorem dVf_init_23 : decode cVf_init 23 = .ok (.iconst 0, 1) := by decide +kernel
theorem dVf_init_24 : decode cVf_init 24 = .ok (.istore_n 3, 1) := by decide +kernel
theorem dVf_init_25 : decode cVf_init 25 = .ok (.iload_n 3, 1) := by decide +kernel
theorem dVf_init_26 : decode cVf_init 26 = .ok (.iconst 4, 1) := by decide +kernel
theorem dVf_init_27 : decode cVf_init 27 = .ok (.if_icmp .ge 23, 3) := by decide +kernel
theorem dVf_init_30 : decode cVf_init 30 = .ok (.aload_n 0, 1) := by decide +kernel
theorem dVf_init_31 : decode cVf_init 31 = .ok (.getfield 20, 3) := by decide +kernel
theorem dVf_init_34 : decode cVf_init 34 = .ok (.iload_n 3, 1) := by decide +kernel
theorem dVf_init_35 : decode cVf_init 35 = .ok (.new 18, 3) := by decide +kernel
theorem dVf_init_38 : decode cVf_init 38 = .ok (.dup, 1) := by decide +kernel
theorem dVf_init_39 : decode cVf_init 39 = .ok (.iload_n 2, 1) := by decide +kernel
theorem dVf_init_40 : decode cVf_init 40 = .ok (.invokespecial 24, 3) := by decide +kernel
theorem dVf_init_43 : decode cVf_init 43 = .ok (.aastore, 1) := by decide +kernel
theorem dVf_init_44 : decode cVf_init 44 = .ok (.iinc 3 1, 3) := by decide +kernel
theorem dVf_init_47 : decode cVf_init 47 = .ok (.goto (-22), 3) := by decide +kernel
theorem dVf_init_50 : decode cVf_init 50 = .ok (.aload_n 0, 1) := by decide +kernel
theorem dVf_init_51 : decode cVf_init 51 = .ok (.new 27, 3) := by decide +kernel
theorem dVf_init_54 : decode cVf_init 54 = .ok (.dup, 1) := by decide +kernel
theorem dVf_init_55 : decode cVf_init 55 = .ok (.invokespecial 29, 3) := by decide +kernel
theorem dVf_init_58 : decode cVf_init 58 = .ok (.putfield 30, 3) := by decide +kernel
theorem dVf_init_61 : decode cVf_init 61 = .ok (.return_, 1) := by decide +kernel
theorem dVf_draft_0 : decode cVf_draft 0 = .ok (.iload_n 1, 1) := by decide +kernel
theorem dVf_draft_1 : decode cVf_draft 1 = .ok (.invokestatic 34, 3) := by decide +kernel
theorem dVf_draft_4 : decode cVf_draft 4 = .ok (.ifCond .eq 12, 3) := by decide +kernel
theorem dVf_draft_7 : decode cVf_draft 7 = .ok (.iload_n 2, 1) := by decide +kernel
theorem dVf_draft_8 : decode cVf_draft 8 = .ok (.iconst 1, 1) := by decide +kernel
theorem dVf_draft_9 : decode cVf_draft 9 = .ok (.if_icmp .lt 7, 3) := by decide +kernel
theorem dVf_draft_12 : decode cVf_draft 12 = .ok (.iload_n 3, 1) := by decide +kernel
theorem dVf_draft_13 : decode cVf_draft 13 = .ok (.ifCond .ge 5, 3) := by decide +kernel
theorem dVf_draft_16 : decode cVf_draft 16 = .ok (.iconst 0, 1) := by decide +kernel
theorem dVf_draft_17 : decode cVf_draft 17 = .ok (.ireturn, 1) := by decide +kernel
theorem dVf_draft_18 : decode cVf_draft 18 = .ok (.aload_n 0, 1) := by decide +kernel
theorem dVf_draft_19 : decode cVf_draft 19 = .ok (.getfield 30, 3) := by decide +kernel
theorem dVf_draft_22 : decode cVf_draft 22 = .ok (.iload_n 1, 1) := by decide +kernel
theorem dVf_draft_23 : decode cVf_draft 23 = .ok (.iload_n 2, 1) := by decide +kernel
theorem dVf_draft_24 : decode cVf_draft 24 = .ok (.iload_n 3, 1) := by decide +kernel
theorem dVf_draft_25 : decode cVf_draft 25 = .ok (.invokevirtual 38, 3) := by decide +kernel
theorem dVf_draft_28 : decode cVf_draft 28 = .ok (.iconst 1, 1) := by decide +kernel
theorem dVf_draft_29 : decode cVf_draft 29 = .ok (.ireturn, 1) := by decide +kernel
theorem dVf_reads_0 : decode cVf_reads 0 = .ok (.iload_n 1, 1) := by decide +kernel
theorem dVf_reads_1 : decode cVf_reads 1 = .ok (.invokestatic 42, 3) := by decide +kernel
theorem dVf_reads_4 : decode cVf_reads 4 = .ok (.ifCond .ne 5, 3) := by decide +kernel
theorem dVf_reads_7 : decode cVf_reads 7 = .ok (.iconst 0, 1) := by decide +kernel
theorem dVf_reads_8 : decode cVf_reads 8 = .ok (.ireturn, 1) := by decide +kernel
theorem dVf_reads_9 : decode cVf_reads 9 = .ok (.aload_n 0, 1) := by decide +kernel
theorem dVf_reads_10 : decode cVf_reads 10 = .ok (.getfield 30, 3) := by decide +kernel
theorem dVf_reads_13 : decode cVf_reads 13 = .ok (.iload_n 1, 1) := by decide +kernel
theorem dVf_reads_14 : decode cVf_reads 14 = .ok (.invokevirtual 45, 3) := by decide +kernel
theorem dVf_reads_17 : decode cVf_reads 17 = .ok (.iconst 1, 1) := by decide +kernel
theorem dVf_reads_18 : decode cVf_reads 18 = .ok (.ireturn, 1) := by decide +kernel
theorem dVf_writes_0 : decode cVf_writes 0 = .ok (.iload_n 1, 1) := by decide +kernel
theorem dVf_writes_1 : decode cVf_writes 1 = .ok (.invokestatic 42, 3) := by decide +kernel
theorem dVf_writes_4 : decode cVf_writes 4 = .ok (.ifCond .ne 5, 3) := by decide +kernel
theorem dVf_writes_7 : decode cVf_writes 7 = .ok (.iconst 0, 1) := by decide +kernel
theorem dVf_writes_8 : decode cVf_writes 8 = .ok (.ireturn, 1) := by decide +kernel
theorem dVf_writes_9 : decode cVf_writes 9 = .ok (.aload_n 0, 1) := by decide +kernel
theorem dVf_writes_10 : decode cVf_writes 10 = .ok (.getfield 30, 3) := by decide +kernel
theorem dVf_writes_13 : decode cVf_writes 13 = .ok (.iload_n 1, 1) := by decide +kernel
theorem dVf_writes_14 : decode cVf_writes 14 = .ok (.iload_n 2, 1) := by decide +kernel
theorem dVf_writes_15 : decode cVf_writes 15 = .ok (.invokevirtual 48, 3) := by decide +kernel
theorem dVf_writes_18 : decode cVf_writes 18 = .ok (.iconst 1, 1) := by decide +kernel
theorem dVf_writes_19 : decode cVf_writes 19 = .ok (.ireturn, 1) := by decide +kernel
theorem dVf_apply_0 : decode cVf_apply 0 = .ok (.aload_n 0, 1) := by decide +kernel
theorem dVf_apply_1 : decode cVf_apply 1 = .ok (.iload_n 1, 1) := by decide +kernel
theorem dVf_apply_2 : decode cVf_apply 2 = .ok (.invokevirtual 52, 3) := by decide +kernel
theorem dVf_apply_5 : decode cVf_apply 5 = .ok (.aload_n 0, 1) := by decide +kernel
theorem dVf_apply_6 : decode cVf_apply 6 = .ok (.getfield 30, 3) := by decide +kernel
theorem dVf_apply_9 : decode cVf_apply 9 = .ok (.invokevirtual 56, 3) := by decide +kernel
theorem dVf_apply_12 : decode cVf_apply 12 = .ok (.ireturn, 1) := by decide +kernel
theorem dVf_test_0 : decode cVf_test 0 = .ok (.aload_n 0, 1) := by decide +kernel
theorem dVf_test_1 : decode cVf_test 1 = .ok (.iload_n 1, 1) := by decide +kernel
theorem dVf_test_2 : decode cVf_test 2 = .ok (.invokevirtual 52, 3) := by decide +kernel
theorem dVf_test_5 : decode cVf_test 5 = .ok (.aload_n 0, 1) := by decide +kernel
theorem dVf_test_6 : decode cVf_test 6 = .ok (.getfield 30, 3) := by decide +kernel
theorem dVf_test_9 : decode cVf_test 9 = .ok (.invokevirtual 60, 3) := by decide +kernel
theorem dVf_test_12 : decode cVf_test 12 = .ok (.ireturn, 1) := by decide +kernel
theorem dVf_take_0 : decode cVf_take 0 = .ok (.aload_n 0, 1) := by decide +kernel
theorem dVf_take_1 : decode cVf_take 1 = .ok (.iload_n 1, 1) := by decide +kernel
theorem dVf_take_2 : decode cVf_take 2 = .ok (.invokevirtual 52, 3) := by decide +kernel
theorem dVf_take_5 : decode cVf_take 5 = .ok (.astore_n 3, 1) := by decide +kernel
theorem dVf_take_6 : decode cVf_take 6 = .ok (.aload_n 0, 1) := by decide +kernel
theorem dVf_take_7 : decode cVf_take 7 = .ok (.iload_n 2, 1) := by decide +kernel
theorem dVf_take_8 : decode cVf_take 8 = .ok (.invokevirtual 52, 3) := by decide +kernel
theorem dVf_take_11 : decode cVf_take 11 = .ok (.astore 4, 2) := by decide +kernel
theorem dVf_take_13 : decode cVf_take 13 = .ok (.aload_n 3, 1) := by decide +kernel
theorem dVf_take_14 : decode cVf_take 14 = .ok (.getfield 63, 3) := by decide +kernel
theorem dVf_take_17 : decode cVf_take 17 = .ok (.aload 4, 2) := by decide +kernel
theorem dVf_take_19 : decode cVf_take 19 = .ok (.getfield 63, 3) := by decide +kernel
theorem dVf_take_22 : decode cVf_take 22 = .ok (.if_icmp .gt 5, 3) := by decide +kernel
theorem dVf_take_25 : decode cVf_take 25 = .ok (.iconst 0, 1) := by decide +kernel
theorem dVf_take_26 : decode cVf_take 26 = .ok (.ireturn, 1) := by decide +kernel
theorem dVf_take_27 : decode cVf_take 27 = .ok (.aload 4, 2) := by decide +kernel
theorem dVf_take_29 : decode cVf_take 29 = .ok (.aload_n 3, 1) := by decide +kernel
theorem dVf_take_30 : decode cVf_take 30 = .ok (.invokevirtual 67, 3) := by decide +kernel
theorem dVf_take_33 : decode cVf_take 33 = .ok (.iconst 1, 1) := by decide +kernel
theorem dVf_take_34 : decode cVf_take 34 = .ok (.ireturn, 1) := by decide +kernel
theorem dVf_clear_0 : decode cVf_clear 0 = .ok (.aload_n 0, 1) := by decide +kernel
theorem dVf_clear_1 : decode cVf_clear 1 = .ok (.iload_n 1, 1) := by decide +kernel
theorem dVf_clear_2 : decode cVf_clear 2 = .ok (.invokevirtual 52, 3) := by decide +kernel
theorem dVf_clear_5 : decode cVf_clear 5 = .ok (.invokevirtual 71, 3) := by decide +kernel
theorem dVf_clear_8 : decode cVf_clear 8 = .ok (.return_, 1) := by decide +kernel
theorem dVf_value_0 : decode cVf_value 0 = .ok (.aload_n 0, 1) := by decide +kernel
theorem dVf_value_1 : decode cVf_value 1 = .ok (.iload_n 1, 1) := by decide +kernel
theorem dVf_value_2 : decode cVf_value 2 = .ok (.invokevirtual 52, 3) := by decide +kernel
theorem dVf_value_5 : decode cVf_value 5 = .ok (.astore 4, 2) := by decide +kernel
theorem dVf_value_7 : decode cVf_value 7 = .ok (.iload_n 2, 1) := by decide +kernel
theorem dVf_value_8 : decode cVf_value 8 = .ok (.invokestatic 74, 3) := by decide +kernel
theorem dVf_value_11 : decode cVf_value 11 = .ok (.iload_n 3, 1) := by decide +kernel
theorem dVf_value_12 : decode cVf_value 12 = .ok (.aload 4, 2) := by decide +kernel
theorem dVf_value_14 : decode cVf_value 14 = .ok (.getfield 77, 3) := by decide +kernel
theorem dVf_value_17 : decode cVf_value 17 = .ok (.if_icmp .lt 12, 3) := by decide +kernel
theorem dVf_value_20 : decode cVf_value 20 = .ok (.iload_n 3, 1) := by decide +kernel
theorem dVf_value_21 : decode cVf_value 21 = .ok (.aload 4, 2) := by decide +kernel
theorem dVf_value_23 : decode cVf_value 23 = .ok (.getfield 63, 3) := by decide +kernel
theorem dVf_value_26 : decode cVf_value 26 = .ok (.if_icmp .le 13, 3) := by decide +kernel
theorem dVf_value_29 : decode cVf_value 29 = .ok (.new 80, 3) := by decide +kernel
theorem dVf_value_32 : decode cVf_value 32 = .ok (.dup, 1) := by decide +kernel
theorem dVf_value_33 : decode cVf_value 33 = .ok (.ldc 82, 2) := by decide +kernel
theorem dVf_value_35 : decode cVf_value 35 = .ok (.invokespecial 84, 3) := by decide +kernel
theorem dVf_value_38 : decode cVf_value 38 = .ok (.athrow, 1) := by decide +kernel
theorem dVf_value_39 : decode cVf_value 39 = .ok (.aload 4, 2) := by decide +kernel
theorem dVf_value_41 : decode cVf_value 41 = .ok (.iload_n 2, 1) := by decide +kernel
theorem dVf_value_42 : decode cVf_value 42 = .ok (.iload_n 3, 1) := by decide +kernel
theorem dVf_value_43 : decode cVf_value 43 = .ok (.invokevirtual 87, 3) := by decide +kernel
theorem dVf_value_46 : decode cVf_value 46 = .ok (.ireturn, 1) := by decide +kernel
theorem dVf_seq_0 : decode cVf_seq 0 = .ok (.aload_n 0, 1) := by decide +kernel
theorem dVf_seq_1 : decode cVf_seq 1 = .ok (.iload_n 1, 1) := by decide +kernel
theorem dVf_seq_2 : decode cVf_seq 2 = .ok (.invokevirtual 52, 3) := by decide +kernel
theorem dVf_seq_5 : decode cVf_seq 5 = .ok (.astore_n 3, 1) := by decide +kernel
theorem dVf_seq_6 : decode cVf_seq 6 = .ok (.iload_n 2, 1) := by decide +kernel
theorem dVf_seq_7 : decode cVf_seq 7 = .ok (.invokestatic 90, 3) := by decide +kernel
theorem dVf_seq_10 : decode cVf_seq 10 = .ok (.aload_n 3, 1) := by decide +kernel
theorem dVf_seq_11 : decode cVf_seq 11 = .ok (.getfield 93, 3) := by decide +kernel
theorem dVf_seq_14 : decode cVf_seq 14 = .ok (.iload_n 2, 1) := by decide +kernel
theorem dVf_seq_15 : decode cVf_seq 15 = .ok (.iaload, 1) := by decide +kernel
theorem dVf_seq_16 : decode cVf_seq 16 = .ok (.ireturn, 1) := by decide +kernel
theorem dVf_verdict_0 : decode cVf_verdict 0 = .ok (.aload_n 0, 1) := by decide +kernel
theorem dVf_verdict_1 : decode cVf_verdict 1 = .ok (.iload_n 1, 1) := by decide +kernel
theorem dVf_verdict_2 : decode cVf_verdict 2 = .ok (.invokevirtual 52, 3) := by decide +kernel
theorem dVf_verdict_5 : decode cVf_verdict 5 = .ok (.astore_n 3, 1) := by decide +kernel
theorem dVf_verdict_6 : decode cVf_verdict 6 = .ok (.iload_n 2, 1) := by decide +kernel
theorem dVf_verdict_7 : decode cVf_verdict 7 = .ok (.invokestatic 90, 3) := by decide +kernel
theorem dVf_verdict_10 : decode cVf_verdict 10 = .ok (.aload_n 3, 1) := by decide +kernel
theorem dVf_verdict_11 : decode cVf_verdict 11 = .ok (.getfield 97, 3) := by decide +kernel
theorem dVf_verdict_14 : decode cVf_verdict 14 = .ok (.iload_n 2, 1) := by decide +kernel
theorem dVf_verdict_15 : decode cVf_verdict 15 = .ok (.iaload, 1) := by decide +kernel
theorem dVf_verdict_16 : decode cVf_verdict 16 = .ok (.ireturn, 1) := by decide +kernel
theorem dVf_written_0 : decode cVf_written 0 = .ok (.aload_n 0, 1) := by decide +kernel
theorem dVf_written_1 : decode cVf_written 1 = .ok (.iload_n 1, 1) := by decide +kernel
theorem dVf_written_2 : decode cVf_written 2 = .ok (.invokevirtual 52, 3) := by decide +kernel
theorem dVf_written_5 : decode cVf_written 5 = .ok (.astore_n 3, 1) := by decide +kernel
theorem dVf_written_6 : decode cVf_written 6 = .ok (.iload_n 2, 1) := by decide +kernel
theorem dVf_written_7 : decode cVf_written 7 = .ok (.invokestatic 74, 3) := by decide +kernel
theorem dVf_written_10 : decode cVf_written 10 = .ok (.aload_n 3, 1) := by decide +kernel
theorem dVf_written_11 : decode cVf_written 11 = .ok (.iload_n 2, 1) := by decide +kernel
theorem dVf_written_12 : decode cVf_written 12 = .ok (.invokevirtual 100, 3) := by decide +kernel
theorem dVf_written_15 : decode cVf_written 15 = .ok (.ireturn, 1) := by decide +kernel
theorem dVf_since_0 : decode cVf_since 0 = .ok (.aload_n 0, 1) := by decide +kernel
theorem dVf_since_1 : decode cVf_since 1 = .ok (.iload_n 1, 1) := by decide +kernel
theorem dVf_since_2 : decode cVf_since 2 = .ok (.invokevirtual 52, 3) := by decide +kernel
theorem dVf_since_5 : decode cVf_since 5 = .ok (.astore_n 3, 1) := by decide +kernel
theorem dVf_since_6 : decode cVf_since 6 = .ok (.iload_n 2, 1) := by decide +kernel
theorem dVf_since_7 : decode cVf_since 7 = .ok (.aload_n 3, 1) := by decide +kernel
theorem dVf_since_8 : decode cVf_since 8 = .ok (.invokevirtual 104, 3) := by decide +kernel
theorem dVf_since_11 : decode cVf_since 11 = .ok (.if_icmp .lt 11, 3) := by decide +kernel
theorem dVf_since_14 : decode cVf_since 14 = .ok (.iload_n 2, 1) := by decide +kernel
theorem dVf_since_15 : decode cVf_since 15 = .ok (.aload_n 3, 1) := by decide +kernel
theorem dVf_since_16 : decode cVf_since 16 = .ok (.getfield 63, 3) := by decide +kernel
theorem dVf_since_19 : decode cVf_since 19 = .ok (.if_icmp .le 13, 3) := by decide +kernel
theorem dVf_since_22 : decode cVf_since 22 = .ok (.new 80, 3) := by decide +kernel
theorem dVf_since_25 : decode cVf_since 25 = .ok (.dup, 1) := by decide +kernel
theorem dVf_since_26 : decode cVf_since 26 = .ok (.ldc 108, 2) := by decide +kernel
theorem dVf_since_28 : decode cVf_since 28 = .ok (.invokespecial 84, 3) := by decide +kernel
theorem dVf_since_31 : decode cVf_since 31 = .ok (.athrow, 1) := by decide +kernel
theorem dVf_since_32 : decode cVf_since 32 = .ok (.aload_n 3, 1) := by decide +kernel
theorem dVf_since_33 : decode cVf_since 33 = .ok (.iload_n 2, 1) := by decide +kernel
theorem dVf_since_34 : decode cVf_since 34 = .ok (.invokevirtual 110, 3) := by decide +kernel
theorem dVf_since_37 : decode cVf_since 37 = .ok (.ireturn, 1) := by decide +kernel
theorem dVf_same_0 : decode cVf_same 0 = .ok (.aload_n 0, 1) := by decide +kernel
theorem dVf_same_1 : decode cVf_same 1 = .ok (.iload_n 1, 1) := by decide +kernel
theorem dVf_same_2 : decode cVf_same 2 = .ok (.invokevirtual 52, 3) := by decide +kernel
theorem dVf_same_5 : decode cVf_same 5 = .ok (.astore_n 3, 1) := by decide +kernel
theorem dVf_same_6 : decode cVf_same 6 = .ok (.aload_n 0, 1) := by decide +kernel
theorem dVf_same_7 : decode cVf_same 7 = .ok (.iload_n 2, 1) := by decide +kernel
theorem dVf_same_8 : decode cVf_same 8 = .ok (.invokevirtual 52, 3) := by decide +kernel
theorem dVf_same_11 : decode cVf_same 11 = .ok (.astore 4, 2) := by decide +kernel
theorem dVf_same_13 : decode cVf_same 13 = .ok (.aload_n 3, 1) := by decide +kernel
theorem dVf_same_14 : decode cVf_same 14 = .ok (.aload 4, 2) := by decide +kernel
theorem dVf_same_16 : decode cVf_same 16 = .ok (.invokevirtual 113, 3) := by decide +kernel
theorem dVf_same_19 : decode cVf_same 19 = .ok (.ireturn, 1) := by decide +kernel
theorem dVf_look_0 : decode cVf_look 0 = .ok (.aload_n 0, 1) := by decide +kernel
theorem dVf_look_1 : decode cVf_look 1 = .ok (.iload_n 1, 1) := by decide +kernel
theorem dVf_look_2 : decode cVf_look 2 = .ok (.invokevirtual 52, 3) := by decide +kernel
theorem dVf_look_5 : decode cVf_look 5 = .ok (.astore_n 3, 1) := by decide +kernel
theorem dVf_look_6 : decode cVf_look 6 = .ok (.iload_n 2, 1) := by decide +kernel
theorem dVf_look_7 : decode cVf_look 7 = .ok (.tableswitch 91 0 7 #[45, 50, 55, 60, 65, 70, 75, 83], 45) := by decide +kernel
theorem dVf_look_52 : decode cVf_look 52 = .ok (.aload_n 3, 1) := by decide +kernel
theorem dVf_look_53 : decode cVf_look 53 = .ok (.getfield 63, 3) := by decide +kernel
theorem dVf_look_56 : decode cVf_look 56 = .ok (.ireturn, 1) := by decide +kernel
theorem dVf_look_57 : decode cVf_look 57 = .ok (.aload_n 3, 1) := by decide +kernel
theorem dVf_look_58 : decode cVf_look 58 = .ok (.getfield 77, 3) := by decide +kernel
theorem dVf_look_61 : decode cVf_look 61 = .ok (.ireturn, 1) := by decide +kernel
theorem dVf_look_62 : decode cVf_look 62 = .ok (.aload_n 3, 1) := by decide +kernel
theorem dVf_look_63 : decode cVf_look 63 = .ok (.getfield 117, 3) := by decide +kernel
theorem dVf_look_66 : decode cVf_look 66 = .ok (.ireturn, 1) := by decide +kernel
theorem dVf_look_67 : decode cVf_look 67 = .ok (.aload_n 3, 1) := by decide +kernel
theorem dVf_look_68 : decode cVf_look 68 = .ok (.getfield 120, 3) := by decide +kernel
theorem dVf_look_71 : decode cVf_look 71 = .ok (.ireturn, 1) := by decide +kernel
theorem dVf_look_72 : decode cVf_look 72 = .ok (.aload_n 3, 1) := by decide +kernel
theorem dVf_look_73 : decode cVf_look 73 = .ok (.getfield 123, 3) := by decide +kernel
theorem dVf_look_76 : decode cVf_look 76 = .ok (.ireturn, 1) := by decide +kernel
theorem dVf_look_77 : decode cVf_look 77 = .ok (.aload_n 3, 1) := by decide +kernel
theorem dVf_look_78 : decode cVf_look 78 = .ok (.invokevirtual 126, 3) := by decide +kernel
theorem dVf_look_81 : decode cVf_look 81 = .ok (.ireturn, 1) := by decide +kernel
theorem dVf_look_82 : decode cVf_look 82 = .ok (.aload_n 0, 1) := by decide +kernel
theorem dVf_look_83 : decode cVf_look 83 = .ok (.getfield 30, 3) := by decide +kernel
theorem dVf_look_86 : decode cVf_look 86 = .ok (.getfield 129, 3) := by decide +kernel
theorem dVf_look_89 : decode cVf_look 89 = .ok (.ireturn, 1) := by decide +kernel
theorem dVf_look_90 : decode cVf_look 90 = .ok (.aload_n 0, 1) := by decide +kernel
theorem dVf_look_91 : decode cVf_look 91 = .ok (.getfield 30, 3) := by decide +kernel
theorem dVf_look_94 : decode cVf_look 94 = .ok (.getfield 132, 3) := by decide +kernel
theorem dVf_look_97 : decode cVf_look 97 = .ok (.ireturn, 1) := by decide +kernel
theorem dVf_look_98 : decode cVf_look 98 = .ok (.iconst (-1), 1) := by decide +kernel
theorem dVf_look_99 : decode cVf_look 99 = .ok (.ireturn, 1) := by decide +kernel
theorem dVf_foldAt_0 : decode cVf_foldAt 0 = .ok (.iload_n 1, 1) := by decide +kernel
theorem dVf_foldAt_1 : decode cVf_foldAt 1 = .ok (.ifCond .lt 8, 3) := by decide +kernel
theorem dVf_foldAt_4 : decode cVf_foldAt 4 = .ok (.iload_n 1, 1) := by decide +kernel
theorem dVf_foldAt_5 : decode cVf_foldAt 5 = .ok (.iconst 4, 1) := by decide +kernel
theorem dVf_foldAt_6 : decode cVf_foldAt 6 = .ok (.if_icmp .lt 13, 3) := by decide +kernel
theorem dVf_foldAt_9 : decode cVf_foldAt 9 = .ok (.new 135, 3) := by decide +kernel
theorem dVf_foldAt_12 : decode cVf_foldAt 12 = .ok (.dup, 1) := by decide +kernel
theorem dVf_foldAt_13 : decode cVf_foldAt 13 = .ok (.ldc 137, 2) := by decide +kernel
theorem dVf_foldAt_15 : decode cVf_foldAt 15 = .ok (.invokespecial 139, 3) := by decide +kernel
theorem dVf_foldAt_18 : decode cVf_foldAt 18 = .ok (.athrow, 1) := by decide +kernel
theorem dVf_foldAt_19 : decode cVf_foldAt 19 = .ok (.aload_n 0, 1) := by decide +kernel
theorem dVf_foldAt_20 : decode cVf_foldAt 20 = .ok (.getfield 20, 3) := by decide +kernel
theorem dVf_foldAt_23 : decode cVf_foldAt 23 = .ok (.iload_n 1, 1) := by decide +kernel
theorem dVf_foldAt_24 : decode cVf_foldAt 24 = .ok (.aaload, 1) := by decide +kernel
theorem dVf_foldAt_25 : decode cVf_foldAt 25 = .ok (.areturn, 1) := by decide +kernel
theorem dVf_isKey_0 : decode cVf_isKey 0 = .ok (.iload_n 0, 1) := by decide +kernel
theorem dVf_isKey_1 : decode cVf_isKey 1 = .ok (.ifCond .lt 13, 3) := by decide +kernel
theorem dVf_isKey_4 : decode cVf_isKey 4 = .ok (.iload_n 0, 1) := by decide +kernel
theorem dVf_isKey_5 : decode cVf_isKey 5 = .ok (.bipush 16, 2) := by decide +kernel
theorem dVf_isKey_7 : decode cVf_isKey 7 = .ok (.if_icmp .ge 7, 3) := by decide +kernel
theorem dVf_isKey_10 : decode cVf_isKey 10 = .ok (.iconst 1, 1) := by decide +kernel
theorem dVf_isKey_11 : decode cVf_isKey 11 = .ok (.goto 4, 3) := by decide +kernel
theorem dVf_isKey_14 : decode cVf_isKey 14 = .ok (.iconst 0, 1) := by decide +kernel
theorem dVf_isKey_15 : decode cVf_isKey 15 = .ok (.ireturn, 1) := by decide +kernel
theorem dVf_isSession_0 : decode cVf_isSession 0 = .ok (.iload_n 0, 1) := by decide +kernel
theorem dVf_isSession_1 : decode cVf_isSession 1 = .ok (.ifCond .lt 13, 3) := by decide +kernel
theorem dVf_isSession_4 : decode cVf_isSession 4 = .ok (.iload_n 0, 1) := by decide +kernel
theorem dVf_isSession_5 : decode cVf_isSession 5 = .ok (.bipush 16, 2) := by decide +kernel
theorem dVf_isSession_7 : decode cVf_isSession 7 = .ok (.if_icmp .ge 7, 3) := by decide +kernel
theorem dVf_isSession_10 : decode cVf_isSession 10 = .ok (.iconst 1, 1) := by decide +kernel
theorem dVf_isSession_11 : decode cVf_isSession 11 = .ok (.goto 4, 3) := by decide +kernel
theorem dVf_isSession_14 : decode cVf_isSession 14 = .ok (.iconst 0, 1) := by decide +kernel
theorem dVf_isSession_15 : decode cVf_isSession 15 = .ok (.ireturn, 1) := by decide +kernel
theorem dVf_requireKey_0 : decode cVf_requireKey 0 = .ok (.iload_n 0, 1) := by decide +kernel
theorem dVf_requireKey_1 : decode cVf_requireKey 1 = .ok (.invokestatic 42, 3) := by decide +kernel
theorem dVf_requireKey_4 : decode cVf_requireKey 4 = .ok (.ifCond .ne 13, 3) := by decide +kernel
theorem dVf_requireKey_7 : decode cVf_requireKey 7 = .ok (.new 80, 3) := by decide +kernel
theorem dVf_requireKey_10 : decode cVf_requireKey 10 = .ok (.dup, 1) := by decide +kernel
theorem dVf_requireKey_11 : decode cVf_requireKey 11 = .ok (.ldc 140, 2) := by decide +kernel
theorem dVf_requireKey_13 : decode cVf_requireKey 13 = .ok (.invokespecial 84, 3) := by decide +kernel
theorem dVf_requireKey_16 : decode cVf_requireKey 16 = .ok (.athrow, 1) := by decide +kernel
theorem dVf_requireKey_17 : decode cVf_requireKey 17 = .ok (.return_, 1) := by decide +kernel
theorem dVf_requireSession_0 : decode cVf_requireSession 0 = .ok (.iload_n 0, 1) := by decide +kernel
theorem dVf_requireSession_1 : decode cVf_requireSession 1 = .ok (.invokestatic 34, 3) := by decide +kernel
theorem dVf_requireSession_4 : decode cVf_requireSession 4 = .ok (.ifCond .ne 13, 3) := by decide +kernel
theorem dVf_requireSession_7 : decode cVf_requireSession 7 = .ok (.new 80, 3) := by decide +kernel
theorem dVf_requireSession_10 : decode cVf_requireSession 10 = .ok (.dup, 1) := by decide +kernel
theorem dVf_requireSession_11 : decode cVf_requireSession 11 = .ok (.ldc 142, 2) := by decide +kernel
theorem dVf_requireSession_13 : decode cVf_requireSession 13 = .ok (.invokespecial 84, 3) := by decide +kernel
theorem dVf_requireSession_16 : decode cVf_requireSession 16 = .ok (.athrow, 1) := by decide +kernel
theorem dVf_requireSession_17 : decode cVf_requireSession 17 = .ok (.return_, 1) := by decide +kernel
end
section
theorem dMd_init_0 : decode cMd_init 0 = .ok (.aload_n 0, 1) := by decide +kernel
theorem dMd_init_1 : decode cMd_init 1 = .ok (.invokespecial 1, 3) := by decide +kernel
theorem dMd_init_4 : decode cMd_init 4 = .ok (.aload_n 0, 1) := by decide +kernel
theorem dMd_init_5 : decode cMd_init 5 = .ok (.iconst 4, 1) := by decide +kernel
theorem dMd_init_6 : decode cMd_init 6 = .ok (.newarray .int, 2) := by decide +kernel
theorem dMd_init_8 : decode cMd_init 8 = .ok (.putfield 7, 3) := by decide +kernel
theorem dMd_init_11 : decode cMd_init 11 = .ok (.aload_n 0, 1) := by decide +kernel
theorem dMd_init_12 : decode cMd_init 12 = .ok (.iconst 4, 1) := by decide +kernel
theorem dMd_init_13 : decode cMd_init 13 = .ok (.newarray .int, 2) := by decide +kernel
theorem dMd_init_15 : decode cMd_init 15 = .ok (.putfield 13, 3) := by decide +kernel
theorem dMd_init_18 : decode cMd_init 18 = .ok (.aload_n 0, 1) := by decide +kernel
theorem dMd_init_19 : decode cMd_init 19 = .ok (.iconst 4, 1) := by decide +kernel
theorem dMd_init_20 : decode cMd_init 20 = .ok (.newarray .int, 2) := by decide +kernel
theorem dMd_init_22 : decode cMd_init 22 = .ok (.putfield 16, 3) := by decide +kernel
theorem dMd_init_25 : decode cMd_init 25 = .ok (.aload_n 0, 1) := by decide +kernel
theorem dMd_init_26 : decode cMd_init 26 = .ok (.iconst 4, 1) := by decide +kernel
theorem dMd_init_27 : decode cMd_init 27 = .ok (.newarray .int, 2) := by decide +kernel
theorem dMd_init_29 : decode cMd_init 29 = .ok (.putfield 19, 3) := by decide +kernel
theorem dMd_init_32 : decode cMd_init 32 = .ok (.aload_n 0, 1) := by decide +kernel
theorem dMd_init_33 : decode cMd_init 33 = .ok (.iconst 4, 1) := by decide +kernel
theorem dMd_init_34 : decode cMd_init 34 = .ok (.newarray .int, 2) := by decide +kernel
theorem dMd_init_36 : decode cMd_init 36 = .ok (.putfield 22, 3) := by decide +kernel
theorem dMd_init_39 : decode cMd_init 39 = .ok (.aload_n 0, 1) := by decide +kernel
theorem dMd_init_40 : decode cMd_init 40 = .ok (.bipush 64, 2) := by decide +kernel
theorem dMd_init_42 : decode cMd_init 42 = .ok (.newarray .int, 2) := by decide +kernel
theorem dMd_init_44 : decode cMd_init 44 = .ok (.putfield 25, 3) := by decide +kernel
theorem dMd_init_47 : decode cMd_init 47 = .ok (.aload_n 0, 1) := by decide +kernel
theorem dMd_init_48 : decode cMd_init 48 = .ok (.bipush 64, 2) := by decide +kernel
theorem dMd_init_50 : decode cMd_init 50 = .ok (.newarray .int, 2) := by decide +kernel
theorem dMd_init_52 : decode cMd_init 52 = .ok (.putfield 28, 3) := by decide +kernel
theorem dMd_init_55 : decode cMd_init 55 = .ok (.aload_n 0, 1) := by decide +kernel
theorem dMd_init_56 : decode cMd_init 56 = .ok (.sipush 256, 3) := by decide +kernel
theorem dMd_init_59 : decode cMd_init 59 = .ok (.newarray .int, 2) := by decide +kernel
theorem dMd_init_61 : decode cMd_init 61 = .ok (.putfield 31, 3) := by decide +kernel
theorem dMd_init_64 : decode cMd_init 64 = .ok (.aload_n 0, 1) := by decide +kernel
theorem dMd_init_65 : decode cMd_init 65 = .ok (.sipush 4096, 3) := by decide +kernel
theorem dMd_init_68 : decode cMd_init 68 = .ok (.newarray .int, 2) := by decide +kernel
theorem dMd_init_70 : decode cMd_init 70 = .ok (.putfield 34, 3) := by decide +kernel
theorem dMd_init_73 : decode cMd_init 73 = .ok (.aload_n 0, 1) := by decide +kernel
theorem dMd_init_74 : decode cMd_init 74 = .ok (.iconst 1, 1) := by decide +kernel
theorem dMd_init_75 : decode cMd_init 75 = .ok (.putfield 37, 3) := by decide +kernel
theorem dMd_init_78 : decode cMd_init 78 = .ok (.aload_n 0, 1) := by decide +kernel
theorem dMd_init_79 : decode cMd_init 79 = .ok (.bipush 16, 2) := by decide +kernel
theorem dMd_init_81 : decode cMd_init 81 = .ok (.newarray .int, 2) := by decide +kernel
theorem dMd_init_83 : decode cMd_init 83 = .ok (.putfield 41, 3) := by decide +kernel
theorem dMd_init_86 : decode cMd_init 86 = .ok (.aload_n 0, 1) := by decide +kernel
theorem dMd_init_87 : decode cMd_init 87 = .ok (.iload_n 1, 1) := by decide +kernel
theorem dMd_init_88 : decode cMd_init 88 = .ok (.iconst 1, 1) := by decide +kernel
theorem dMd_init_89 : decode cMd_init 89 = .ok (.if_icmp .ge 7, 3) := by decide +kernel
theorem dMd_init_92 : decode cMd_init 92 = .ok (.iconst 1, 1) := by decide +kernel
theorem dMd_init_93 : decode cMd_init 93 = .ok (.goto 15, 3) := by decide +kernel
theorem dMd_init_96 : decode cMd_init 96 = .ok (.iload_n 1, 1) := by decide +kernel
theorem dMd_init_97 : decode cMd_init 97 = .ok (.bipush 16, 2) := by decide +kernel
theorem dMd_init_99 : decode cMd_init 99 = .ok (.if_icmp .le 8, 3) := by decide +kernel
theorem dMd_init_102 : decode cMd_init 102 = .ok (.bipush 16, 2) := by decide +kernel
theorem dMd_init_104 : decode cMd_init 104 = .ok (.goto 4, 3) := by decide +kernel
theorem dMd_init_107 : decode cMd_init 107 = .ok (.iload_n 1, 1) := by decide +kernel
theorem dMd_init_108 : decode cMd_init 108 = .ok (.putfield 44, 3) := by decide +kernel
theorem dMd_init_111 : decode cMd_init 111 = .ok (.return_, 1) := by decide +kernel
theorem dMd_thrown_0 : decode cMd_thrown 0 = .ok (.aload_n 0, 1) := by decide +kernel
theorem dMd_thrown_1 : decode cMd_thrown 1 = .ok (.getfield 47, 3) := by decide +kernel
theorem dMd_thrown_4 : decode cMd_thrown 4 = .ok (.ireturn, 1) := by decide +kernel
theorem dMd_is16_0 : decode cMd_is16 0 = .ok (.iload_n 0, 1) := by decide +kernel
theorem dMd_is16_1 : decode cMd_is16 1 = .ok (.ifCond .lt 13, 3) := by decide +kernel
theorem dMd_is16_4 : decode cMd_is16 4 = .ok (.iload_n 0, 1) := by decide +kernel
theorem dMd_is16_5 : decode cMd_is16 5 = .ok (.bipush 16, 2) := by decide +kernel
theorem dMd_is16_7 : decode cMd_is16 7 = .ok (.if_icmp .ge 7, 3) := by decide +kernel
theorem dMd_is16_10 : decode cMd_is16 10 = .ok (.iconst 1, 1) := by decide +kernel
theorem dMd_is16_11 : decode cMd_is16 11 = .ok (.goto 4, 3) := by decide +kernel
theorem dMd_is16_14 : decode cMd_is16 14 = .ok (.iconst 0, 1) := by decide +kernel
theorem dMd_is16_15 : decode cMd_is16 15 = .ok (.ireturn, 1) := by decide +kernel
theorem dMd_lacks_0 : decode cMd_lacks 0 = .ok (.aload_n 0, 1) := by decide +kernel
theorem dMd_lacks_1 : decode cMd_lacks 1 = .ok (.iload_n 1, 1) := by decide +kernel
theorem dMd_lacks_2 : decode cMd_lacks 2 = .ok (.ifCond .lt 12, 3) := by decide +kernel
theorem dMd_lacks_5 : decode cMd_lacks 5 = .ok (.iload_n 1, 1) := by decide +kernel
theorem dMd_lacks_6 : decode cMd_lacks 6 = .ok (.iconst 4, 1) := by decide +kernel
theorem dMd_lacks_7 : decode cMd_lacks 7 = .ok (.if_icmp .ge 7, 3) := by decide +kernel
theorem dMd_lacks_10 : decode cMd_lacks 10 = .ok (.iconst 0, 1) := by decide +kernel
theorem dMd_lacks_11 : decode cMd_lacks 11 = .ok (.goto 4, 3) := by decide +kernel
theorem dMd_lacks_14 : decode cMd_lacks 14 = .ok (.iconst 1, 1) := by decide +kernel
theorem dMd_lacks_15 : decode cMd_lacks 15 = .ok (.putfield 47, 3) := by decide +kernel
theorem dMd_lacks_18 : decode cMd_lacks 18 = .ok (.aload_n 0, 1) := by decide +kernel
theorem dMd_lacks_19 : decode cMd_lacks 19 = .ok (.getfield 47, 3) := by decide +kernel
theorem dMd_lacks_22 : decode cMd_lacks 22 = .ok (.ifCond .le 7, 3) := by decide +kernel
theorem dMd_lacks_25 : decode cMd_lacks 25 = .ok (.iconst 1, 1) := by decide +kernel
theorem dMd_lacks_26 : decode cMd_lacks 26 = .ok (.goto 4, 3) := by decide +kernel
theorem dMd_lacks_29 : decode cMd_lacks 29 = .ok (.iconst 0, 1) := by decide +kernel
theorem dMd_lacks_30 : decode cMd_lacks 30 = .ok (.ireturn, 1) := by decide +kernel
theorem dMd_draft_0 : decode cMd_draft 0 = .ok (.aload_n 0, 1) := by decide +kernel
theorem dMd_draft_1 : decode cMd_draft 1 = .ok (.iconst 0, 1) := by decide +kernel
theorem dMd_draft_2 : decode cMd_draft 2 = .ok (.putfield 47, 3) := by decide +kernel
theorem dMd_draft_5 : decode cMd_draft 5 = .ok (.iload_n 1, 1) := by decide +kernel
theorem dMd_draft_6 : decode cMd_draft 6 = .ok (.invokestatic 50, 3) := by decide +kernel
theorem dMd_draft_9 : decode cMd_draft 9 = .ok (.ifCond .eq 12, 3) := by decide +kernel
theorem dMd_draft_12 : decode cMd_draft 12 = .ok (.iload_n 2, 1) := by decide +kernel
theorem dMd_draft_13 : decode cMd_draft 13 = .ok (.iconst 1, 1) := by decide +kernel
theorem dMd_draft_14 : decode cMd_draft 14 = .ok (.if_icmp .lt 7, 3) := by decide +kernel
theorem dMd_draft_17 : decode cMd_draft 17 = .ok (.iload_n 3, 1) := by decide +kernel
theorem dMd_draft_18 : decode cMd_draft 18 = .ok (.ifCond .ge 5, 3) := by decide +kernel
theorem dMd_draft_21 : decode cMd_draft 21 = .ok (.iconst 0, 1) := by decide +kernel
theorem dMd_draft_22 : decode cMd_draft 22 = .ok (.ireturn, 1) := by decide +kernel
theorem dMd_draft_23 : decode cMd_draft 23 = .ok (.aload_n 0, 1) := by decide +kernel
theorem dMd_draft_24 : decode cMd_draft 24 = .ok (.iload_n 1, 1) := by decide +kernel
theorem dMd_draft_25 : decode cMd_draft 25 = .ok (.putfield 54, 3) := by decide +kernel
theorem dMd_draft_28 : decode cMd_draft 28 = .ok (.aload_n 0, 1) := by decide +kernel
theorem dMd_draft_29 : decode cMd_draft 29 = .ok (.iload_n 2, 1) := by decide +kernel
theorem dMd_draft_30 : decode cMd_draft 30 = .ok (.putfield 37, 3) := by decide +kernel
theorem dMd_draft_33 : decode cMd_draft 33 = .ok (.aload_n 0, 1) := by decide +kernel
theorem dMd_draft_34 : decode cMd_draft 34 = .ok (.iload_n 3, 1) := by decide +kernel
theorem dMd_draft_35 : decode cMd_draft 35 = .ok (.putfield 57, 3) := by decide +kernel
theorem dMd_draft_38 : decode cMd_draft 38 = .ok (.aload_n 0, 1) := by decide +kernel
theorem dMd_draft_39 : decode cMd_draft 39 = .ok (.iconst 0, 1) := by decide +kernel
theorem dMd_draft_40 : decode cMd_draft 40 = .ok (.putfield 60, 3) := by decide +kernel
theorem dMd_draft_43 : decode cMd_draft 43 = .ok (.aload_n 0, 1) := by decide +kernel
theorem dMd_draft_44 : decode cMd_draft 44 = .ok (.iconst 0, 1) := by decide +kernel
theorem dMd_draft_45 : decode cMd_draft 45 = .ok (.putfield 63, 3) := by decide +kernel
theorem dMd_draft_48 : decode cMd_draft 48 = .ok (.iconst 1, 1) := by decide +kernel
theorem dMd_draft_49 : decode cMd_draft 49 = .ok (.ireturn, 1) := by decide +kernel
theorem dMd_reads_0 : decode cMd_reads 0 = .ok (.aload_n 0, 1) := by decide +kernel
theorem dMd_reads_1 : decode cMd_reads 1 = .ok (.iconst 0, 1) := by decide +kernel
theorem dMd_reads_2 : decode cMd_reads 2 = .ok (.putfield 47, 3) := by decide +kernel
theorem dMd_reads_5 : decode cMd_reads 5 = .ok (.aload_n 0, 1) := by decide +kernel
theorem dMd_reads_6 : decode cMd_reads 6 = .ok (.dup, 1) := by decide +kernel
theorem dMd_reads_7 : decode cMd_reads 7 = .ok (.getfield 60, 3) := by decide +kernel
theorem dMd_reads_10 : decode cMd_reads 10 = .ok (.iload_n 1, 1) := by decide +kernel
theorem dMd_reads_11 : decode cMd_reads 11 = .ok (.invokestatic 50, 3) := by decide +kernel
theorem dMd_reads_14 : decode cMd_reads 14 = .ok (.ifCond .eq 9, 3) := by decide +kernel
theorem dMd_reads_17 : decode cMd_reads 17 = .ok (.iconst 1, 1) := by decide +kernel
theorem dMd_reads_18 : decode cMd_reads 18 = .ok (.iload_n 1, 1) := by decide +kernel
theorem dMd_reads_19 : decode cMd_reads 19 = .ok (.ishl, 1) := by decide +kernel
theorem dMd_reads_20 : decode cMd_reads 20 = .ok (.goto 4, 3) := by decide +kernel
theorem dMd_reads_23 : decode cMd_reads 23 = .ok (.iconst 0, 1) := by decide +kernel
theorem dMd_reads_24 : decode cMd_reads 24 = .ok (.ior, 1) := by decide +kernel
theorem dMd_reads_25 : decode cMd_reads 25 = .ok (.putfield 60, 3) := by decide +kernel
theorem dMd_reads_28 : decode cMd_reads 28 = .ok (.iload_n 1, 1) := by decide +kernel
theorem dMd_reads_29 : decode cMd_reads 29 = .ok (.invokestatic 50, 3) := by decide +kernel
theorem dMd_reads_32 : decode cMd_reads 32 = .ok (.ireturn, 1) := by decide +kernel
theorem dMd_writes_0 : decode cMd_writes 0 = .ok (.aload_n 0, 1) := by decide +kernel
theorem dMd_writes_1 : decode cMd_writes 1 = .ok (.iconst 0, 1) := by decide +kernel
theorem dMd_writes_2 : decode cMd_writes 2 = .ok (.putfield 47, 3) := by decide +kernel
theorem dMd_writes_5 : decode cMd_writes 5 = .ok (.iload_n 1, 1) := by decide +kernel
theorem dMd_writes_6 : decode cMd_writes 6 = .ok (.invokestatic 50, 3) := by decide +kernel
theorem dMd_writes_9 : decode cMd_writes 9 = .ok (.ifCond .ne 5, 3) := by decide +kernel
theorem dMd_writes_12 : decode cMd_writes 12 = .ok (.iconst 0, 1) := by decide +kernel
theorem dMd_writes_13 : decode cMd_writes 13 = .ok (.ireturn, 1) := by decide +kernel
theorem dMd_writes_14 : decode cMd_writes 14 = .ok (.aload_n 0, 1) := by decide +kernel
theorem dMd_writes_15 : decode cMd_writes 15 = .ok (.dup, 1) := by decide +kernel
theorem dMd_writes_16 : decode cMd_writes 16 = .ok (.getfield 63, 3) := by decide +kernel
theorem dMd_writes_19 : decode cMd_writes 19 = .ok (.iconst 1, 1) := by decide +kernel
theorem dMd_writes_20 : decode cMd_writes 20 = .ok (.iload_n 1, 1) := by decide +kernel
theorem dMd_writes_21 : decode cMd_writes 21 = .ok (.ishl, 1) := by decide +kernel
theorem dMd_writes_22 : decode cMd_writes 22 = .ok (.ior, 1) := by decide +kernel
theorem dMd_writes_23 : decode cMd_writes 23 = .ok (.putfield 63, 3) := by decide +kernel
theorem dMd_writes_26 : decode cMd_writes 26 = .ok (.aload_n 0, 1) := by decide +kernel
theorem dMd_writes_27 : decode cMd_writes 27 = .ok (.getfield 41, 3) := by decide +kernel
theorem dMd_writes_30 : decode cMd_writes 30 = .ok (.iload_n 1, 1) := by decide +kernel
theorem dMd_writes_31 : decode cMd_writes 31 = .ok (.iload_n 2, 1) := by decide +kernel
theorem dMd_writes_32 : decode cMd_writes 32 = .ok (.iastore, 1) := by decide +kernel
theorem dMd_writes_33 : decode cMd_writes 33 = .ok (.iconst 1, 1) := by decide +kernel
theorem dMd_writes_34 : decode cMd_writes 34 = .ok (.ireturn, 1) := by decide +kernel
theorem dMd_writtenSince_0 : decode cMd_writtenSince 0 = .ok (.iconst 0, 1) := by decide +kernel
theorem dMd_writtenSince_1 : decode cMd_writtenSince 1 = .ok (.istore_n 3, 1) := by decide +kernel
theorem dMd_writtenSince_2 : decode cMd_writtenSince 2 = .ok (.iload_n 2, 1) := by decide +kernel
theorem dMd_writtenSince_3 : decode cMd_writtenSince 3 = .ok (.ifCond .ge 7, 3) := by decide +kernel
theorem dMd_writtenSince_6 : decode cMd_writtenSince 6 = .ok (.iconst 1, 1) := by decide +kernel
theorem dMd_writtenSince_7 : decode cMd_writtenSince 7 = .ok (.goto 6, 3) := by decide +kernel
theorem dMd_writtenSince_10 : decode cMd_writtenSince 10 = .ok (.iload_n 2, 1) := by decide +kernel
theorem dMd_writtenSince_11 : decode cMd_writtenSince 11 = .ok (.iconst 1, 1) := by decide +kernel
theorem dMd_writtenSince_12 : decode cMd_writtenSince 12 = .ok (.iadd, 1) := by decide +kernel
theorem dMd_writtenSince_13 : decode cMd_writtenSince 13 = .ok (.istore 4, 2) := by decide +kernel
theorem dMd_writtenSince_15 : decode cMd_writtenSince 15 = .ok (.iload 4, 2) := by decide +kernel
theorem dMd_writtenSince_17 : decode cMd_writtenSince 17 = .ok (.aload_n 0, 1) := by decide +kernel
theorem dMd_writtenSince_18 : decode cMd_writtenSince 18 = .ok (.getfield 7, 3) := by decide +kernel
theorem dMd_writtenSince_21 : decode cMd_writtenSince 21 = .ok (.iload_n 1, 1) := by decide +kernel
theorem dMd_writtenSince_22 : decode cMd_writtenSince 22 = .ok (.iaload, 1) := by decide +kernel
theorem dMd_writtenSince_23 : decode cMd_writtenSince 23 = .ok (.if_icmp .gt 27, 3) := by decide +kernel
theorem dMd_writtenSince_26 : decode cMd_writtenSince 26 = .ok (.iload_n 3, 1) := by decide +kernel
theorem dMd_writtenSince_27 : decode cMd_writtenSince 27 = .ok (.aload_n 0, 1) := by decide +kernel
theorem dMd_writtenSince_28 : decode cMd_writtenSince 28 = .ok (.getfield 31, 3) := by decide +kernel
theorem dMd_writtenSince_31 : decode cMd_writtenSince 31 = .ok (.bipush 64, 2) := by decide +kernel
theorem dMd_writtenSince_33 : decode cMd_writtenSince 33 = .ok (.iload_n 1, 1) := by decide +kernel
theorem dMd_writtenSince_34 : decode cMd_writtenSince 34 = .ok (.imul, 1) := by decide +kernel
theorem dMd_writtenSince_35 : decode cMd_writtenSince 35 = .ok (.iload 4, 2) := by decide +kernel
theorem dMd_writtenSince_37 : decode cMd_writtenSince 37 = .ok (.bipush 64, 2) := by decide +kernel
theorem dMd_writtenSince_39 : decode cMd_writtenSince 39 = .ok (.irem, 1) := by decide +kernel
theorem dMd_writtenSince_40 : decode cMd_writtenSince 40 = .ok (.iadd, 1) := by decide +kernel
theorem dMd_writtenSince_41 : decode cMd_writtenSince 41 = .ok (.iaload, 1) := by decide +kernel
theorem dMd_writtenSince_42 : decode cMd_writtenSince 42 = .ok (.ior, 1) := by decide +kernel
theorem dMd_writtenSince_43 : decode cMd_writtenSince 43 = .ok (.istore_n 3, 1) := by decide +kernel
theorem dMd_writtenSince_44 : decode cMd_writtenSince 44 = .ok (.iinc 4 1, 3) := by decide +kernel
theorem dMd_writtenSince_47 : decode cMd_writtenSince 47 = .ok (.goto (-32), 3) := by decide +kernel
theorem dMd_writtenSince_50 : decode cMd_writtenSince 50 = .ok (.iload_n 3, 1) := by decide +kernel
theorem dMd_writtenSince_51 : decode cMd_writtenSince 51 = .ok (.ireturn, 1) := by decide +kernel
theorem dMd_decided_0 : decode cMd_decided 0 = .ok (.aload_n 0, 1) := by decide +kernel
theorem dMd_decided_1 : decode cMd_decided 1 = .ok (.getfield 7, 3) := by decide +kernel
theorem dMd_decided_4 : decode cMd_decided 4 = .ok (.iload_n 1, 1) := by decide +kernel
theorem dMd_decided_5 : decode cMd_decided 5 = .ok (.iaload, 1) := by decide +kernel
theorem dMd_decided_6 : decode cMd_decided 6 = .ok (.istore_n 2, 1) := by decide +kernel
theorem dMd_decided_7 : decode cMd_decided 7 = .ok (.iload_n 2, 1) := by decide +kernel
theorem dMd_decided_8 : decode cMd_decided 8 = .ok (.ldc 66, 2) := by decide +kernel
theorem dMd_decided_10 : decode cMd_decided 10 = .ok (.if_icmp .ge 11, 3) := by decide +kernel
theorem dMd_decided_13 : decode cMd_decided 13 = .ok (.aload_n 0, 1) := by decide +kernel
theorem dMd_decided_14 : decode cMd_decided 14 = .ok (.getfield 57, 3) := by decide +kernel
theorem dMd_decided_17 : decode cMd_decided 17 = .ok (.iload_n 2, 1) := by decide +kernel
theorem dMd_decided_18 : decode cMd_decided 18 = .ok (.if_icmp .le 5, 3) := by decide +kernel
theorem dMd_decided_21 : decode cMd_decided 21 = .ok (.iconst (-1), 1) := by decide +kernel
theorem dMd_decided_22 : decode cMd_decided 22 = .ok (.ireturn, 1) := by decide +kernel
theorem dMd_decided_23 : decode cMd_decided 23 = .ok (.aload_n 0, 1) := by decide +kernel
theorem dMd_decided_24 : decode cMd_decided 24 = .ok (.getfield 37, 3) := by decide +kernel
theorem dMd_decided_27 : decode cMd_decided 27 = .ok (.aload_n 0, 1) := by decide +kernel
theorem dMd_decided_28 : decode cMd_decided 28 = .ok (.getfield 25, 3) := by decide +kernel
theorem dMd_decided_31 : decode cMd_decided 31 = .ok (.bipush 16, 2) := by decide +kernel
theorem dMd_decided_33 : decode cMd_decided 33 = .ok (.iload_n 1, 1) := by decide +kernel
theorem dMd_decided_34 : decode cMd_decided 34 = .ok (.imul, 1) := by decide +kernel
theorem dMd_decided_35 : decode cMd_decided 35 = .ok (.aload_n 0, 1) := by decide +kernel
theorem dMd_decided_36 : decode cMd_decided 36 = .ok (.getfield 54, 3) := by decide +kernel
theorem dMd_decided_39 : decode cMd_decided 39 = .ok (.iadd, 1) := by decide +kernel
theorem dMd_decided_40 : decode cMd_decided 40 = .ok (.iaload, 1) := by decide +kernel
theorem dMd_decided_41 : decode cMd_decided 41 = .ok (.if_icmp .gt 5, 3) := by decide +kernel
theorem dMd_decided_44 : decode cMd_decided 44 = .ok (.iconst 0, 1) := by decide +kernel
theorem dMd_decided_45 : decode cMd_decided 45 = .ok (.ireturn, 1) := by decide +kernel
theorem dMd_decided_46 : decode cMd_decided 46 = .ok (.aload_n 0, 1) := by decide +kernel
theorem dMd_decided_47 : decode cMd_decided 47 = .ok (.getfield 57, 3) := by decide +kernel
theorem dMd_decided_50 : decode cMd_decided 50 = .ok (.iload_n 2, 1) := by decide +kernel
theorem dMd_decided_51 : decode cMd_decided 51 = .ok (.aload_n 0, 1) := by decide +kernel
theorem dMd_decided_52 : decode cMd_decided 52 = .ok (.getfield 44, 3) := by decide +kernel
theorem dMd_decided_55 : decode cMd_decided 55 = .ok (.isub, 1) := by decide +kernel
theorem dMd_decided_56 : decode cMd_decided 56 = .ok (.if_icmp .lt 20, 3) := by decide +kernel
theorem dMd_decided_59 : decode cMd_decided 59 = .ok (.aload_n 0, 1) := by decide +kernel
theorem dMd_decided_60 : decode cMd_decided 60 = .ok (.iload_n 1, 1) := by decide +kernel
theorem dMd_decided_61 : decode cMd_decided 61 = .ok (.aload_n 0, 1) := by decide +kernel
theorem dMd_decided_62 : decode cMd_decided 62 = .ok (.getfield 57, 3) := by decide +kernel
theorem dMd_decided_65 : decode cMd_decided 65 = .ok (.invokevirtual 67, 3) := by decide +kernel
theorem dMd_decided_68 : decode cMd_decided 68 = .ok (.aload_n 0, 1) := by decide +kernel
theorem dMd_decided_69 : decode cMd_decided 69 = .ok (.getfield 60, 3) := by decide +kernel
theorem dMd_decided_72 : decode cMd_decided 72 = .ok (.iand, 1) := by decide +kernel
theorem dMd_decided_73 : decode cMd_decided 73 = .ok (.ifCond .eq 7, 3) := by decide +kernel
theorem dMd_decided_76 : decode cMd_decided 76 = .ok (.iconst 2, 1) := by decide +kernel
theorem dMd_decided_77 : decode cMd_decided 77 = .ok (.goto 4, 3) := by decide +kernel
theorem dMd_decided_80 : decode cMd_decided 80 = .ok (.iconst 1, 1) := by decide +kernel
theorem dMd_decided_81 : decode cMd_decided 81 = .ok (.ireturn, 1) := by decide +kernel
theorem dMd_test_0 : decode cMd_test 0 = .ok (.aload_n 0, 1) := by decide +kernel
theorem dMd_test_1 : decode cMd_test 1 = .ok (.iload_n 1, 1) := by decide +kernel
theorem dMd_test_2 : decode cMd_test 2 = .ok (.invokevirtual 71, 3) := by decide +kernel
theorem dMd_test_5 : decode cMd_test 5 = .ok (.ifCond .eq 7, 3) := by decide +kernel
theorem dMd_test_8 : decode cMd_test 8 = .ok (.iconst 0, 1) := by decide +kernel
theorem dMd_test_9 : decode cMd_test 9 = .ok (.goto 8, 3) := by decide +kernel
theorem dMd_test_12 : decode cMd_test 12 = .ok (.aload_n 0, 1) := by decide +kernel
theorem dMd_test_13 : decode cMd_test 13 = .ok (.iload_n 1, 1) := by decide +kernel
theorem dMd_test_14 : decode cMd_test 14 = .ok (.invokevirtual 74, 3) := by decide +kernel
theorem dMd_test_17 : decode cMd_test 17 = .ok (.ireturn, 1) := by decide +kernel
theorem dMd_apply_0 : decode cMd_apply 0 = .ok (.aload_n 0, 1) := by decide +kernel
theorem dMd_apply_1 : decode cMd_apply 1 = .ok (.iload_n 1, 1) := by decide +kernel
theorem dMd_apply_2 : decode cMd_apply 2 = .ok (.invokevirtual 71, 3) := by decide +kernel
theorem dMd_apply_5 : decode cMd_apply 5 = .ok (.ifCond .eq 5, 3) := by decide +kernel
theorem dMd_apply_8 : decode cMd_apply 8 = .ok (.iconst 0, 1) := by decide +kernel
theorem dMd_apply_9 : decode cMd_apply 9 = .ok (.ireturn, 1) := by decide +kernel
theorem dMd_apply_10 : decode cMd_apply 10 = .ok (.aload_n 0, 1) := by decide +kernel
theorem dMd_apply_11 : decode cMd_apply 11 = .ok (.iload_n 1, 1) := by decide +kernel
theorem dMd_apply_12 : decode cMd_apply 12 = .ok (.invokevirtual 74, 3) := by decide +kernel
theorem dMd_apply_15 : decode cMd_apply 15 = .ok (.istore_n 2, 1) := by decide +kernel
theorem dMd_apply_16 : decode cMd_apply 16 = .ok (.iload_n 2, 1) := by decide +kernel
theorem dMd_apply_17 : decode cMd_apply 17 = .ok (.ifCond .ge 5, 3) := by decide +kernel
theorem dMd_apply_20 : decode cMd_apply 20 = .ok (.iconst (-1), 1) := by decide +kernel
theorem dMd_apply_21 : decode cMd_apply 21 = .ok (.ireturn, 1) := by decide +kernel
theorem dMd_apply_22 : decode cMd_apply 22 = .ok (.aload_n 0, 1) := by decide +kernel
theorem dMd_apply_23 : decode cMd_apply 23 = .ok (.getfield 7, 3) := by decide +kernel
theorem dMd_apply_26 : decode cMd_apply 26 = .ok (.iload_n 1, 1) := by decide +kernel
theorem dMd_apply_27 : decode cMd_apply 27 = .ok (.dup2, 1) := by decide +kernel
theorem dMd_apply_28 : decode cMd_apply 28 = .ok (.iaload, 1) := by decide +kernel
theorem dMd_apply_29 : decode cMd_apply 29 = .ok (.iconst 1, 1) := by decide +kernel
theorem dMd_apply_30 : decode cMd_apply 30 = .ok (.iadd, 1) := by decide +kernel
theorem dMd_apply_31 : decode cMd_apply 31 = .ok (.iastore, 1) := by decide +kernel
theorem dMd_apply_32 : decode cMd_apply 32 = .ok (.aload_n 0, 1) := by decide +kernel
theorem dMd_apply_33 : decode cMd_apply 33 = .ok (.getfield 7, 3) := by decide +kernel
theorem dMd_apply_36 : decode cMd_apply 36 = .ok (.iload_n 1, 1) := by decide +kernel
theorem dMd_apply_37 : decode cMd_apply 37 = .ok (.iaload, 1) := by decide +kernel
theorem dMd_apply_38 : decode cMd_apply 38 = .ok (.istore_n 3, 1) := by decide +kernel
theorem dMd_apply_39 : decode cMd_apply 39 = .ok (.bipush 64, 2) := by decide +kernel
theorem dMd_apply_41 : decode cMd_apply 41 = .ok (.iload_n 1, 1) := by decide +kernel
theorem dMd_apply_42 : decode cMd_apply 42 = .ok (.imul, 1) := by decide +kernel
theorem dMd_apply_43 : decode cMd_apply 43 = .ok (.iload_n 3, 1) := by decide +kernel
theorem dMd_apply_44 : decode cMd_apply 44 = .ok (.bipush 64, 2) := by decide +kernel
theorem dMd_apply_46 : decode cMd_apply 46 = .ok (.irem, 1) := by decide +kernel
theorem dMd_apply_47 : decode cMd_apply 47 = .ok (.iadd, 1) := by decide +kernel
theorem dMd_apply_48 : decode cMd_apply 48 = .ok (.istore 4, 2) := by decide +kernel
theorem dMd_apply_50 : decode cMd_apply 50 = .ok (.bipush 64, 2) := by decide +kernel
theorem dMd_apply_52 : decode cMd_apply 52 = .ok (.iload_n 1, 1) := by decide +kernel
theorem dMd_apply_53 : decode cMd_apply 53 = .ok (.imul, 1) := by decide +kernel
theorem dMd_apply_54 : decode cMd_apply 54 = .ok (.iload_n 3, 1) := by decide +kernel
theorem dMd_apply_55 : decode cMd_apply 55 = .ok (.iconst 1, 1) := by decide +kernel
theorem dMd_apply_56 : decode cMd_apply 56 = .ok (.isub, 1) := by decide +kernel
theorem dMd_apply_57 : decode cMd_apply 57 = .ok (.bipush 64, 2) := by decide +kernel
theorem dMd_apply_59 : decode cMd_apply 59 = .ok (.irem, 1) := by decide +kernel
theorem dMd_apply_60 : decode cMd_apply 60 = .ok (.iadd, 1) := by decide +kernel
theorem dMd_apply_61 : decode cMd_apply 61 = .ok (.istore 5, 2) := by decide +kernel
theorem dMd_apply_63 : decode cMd_apply 63 = .ok (.aload_n 0, 1) := by decide +kernel
theorem dMd_apply_64 : decode cMd_apply 64 = .ok (.getfield 31, 3) := by decide +kernel
theorem dMd_apply_67 : decode cMd_apply 67 = .ok (.iload 4, 2) := by decide +kernel
theorem dMd_apply_69 : decode cMd_apply 69 = .ok (.iload_n 2, 1) := by decide +kernel
theorem dMd_apply_70 : decode cMd_apply 70 = .ok (.iconst 1, 1) := by decide +kernel
theorem dMd_apply_71 : decode cMd_apply 71 = .ok (.if_icmp .ne 10, 3) := by decide +kernel
theorem dMd_apply_74 : decode cMd_apply 74 = .ok (.aload_n 0, 1) := by decide +kernel
theorem dMd_apply_75 : decode cMd_apply 75 = .ok (.getfield 63, 3) := by decide +kernel
theorem dMd_apply_78 : decode cMd_apply 78 = .ok (.goto 4, 3) := by decide +kernel
theorem dMd_apply_81 : decode cMd_apply 81 = .ok (.iconst 0, 1) := by decide +kernel
theorem dMd_apply_82 : decode cMd_apply 82 = .ok (.iastore, 1) := by decide +kernel
theorem dMd_apply_83 : decode cMd_apply 83 = .ok (.iconst 0, 1) := by decide +kernel
theorem dMd_apply_84 : decode cMd_apply 84 = .ok (.istore 6, 2) := by decide +kernel
theorem dMd_apply_86 : decode cMd_apply 86 = .ok (.iload 6, 2) := by decide +kernel
theorem dMd_apply_88 : decode cMd_apply 88 = .ok (.bipush 16, 2) := by decide +kernel
theorem dMd_apply_90 : decode cMd_apply 90 = .ok (.if_icmp .ge 75, 3) := by decide +kernel
theorem dMd_apply_93 : decode cMd_apply 93 = .ok (.iload_n 2, 1) := by decide +kernel
theorem dMd_apply_94 : decode cMd_apply 94 = .ok (.iconst 1, 1) := by decide +kernel
theorem dMd_apply_95 : decode cMd_apply 95 = .ok (.if_icmp .ne 20, 3) := by decide +kernel
theorem dMd_apply_98 : decode cMd_apply 98 = .ok (.aload_n 0, 1) := by decide +kernel
theorem dMd_apply_99 : decode cMd_apply 99 = .ok (.getfield 63, 3) := by decide +kernel
theorem dMd_apply_102 : decode cMd_apply 102 = .ok (.iload 6, 2) := by decide +kernel
theorem dMd_apply_104 : decode cMd_apply 104 = .ok (.ishr, 1) := by decide +kernel
theorem dMd_apply_105 : decode cMd_apply 105 = .ok (.iconst 1, 1) := by decide +kernel
theorem dMd_apply_106 : decode cMd_apply 106 = .ok (.iand, 1) := by decide +kernel
theorem dMd_apply_107 : decode cMd_apply 107 = .ok (.iconst 1, 1) := by decide +kernel
theorem dMd_apply_108 : decode cMd_apply 108 = .ok (.if_icmp .ne 7, 3) := by decide +kernel
theorem dMd_apply_111 : decode cMd_apply 111 = .ok (.iconst 1, 1) := by decide +kernel
theorem dMd_apply_112 : decode cMd_apply 112 = .ok (.goto 4, 3) := by decide +kernel
theorem dMd_apply_115 : decode cMd_apply 115 = .ok (.iconst 0, 1) := by decide +kernel
theorem dMd_apply_116 : decode cMd_apply 116 = .ok (.istore 7, 2) := by decide +kernel
theorem dMd_apply_118 : decode cMd_apply 118 = .ok (.aload_n 0, 1) := by decide +kernel
theorem dMd_apply_119 : decode cMd_apply 119 = .ok (.getfield 34, 3) := by decide +kernel
theorem dMd_apply_122 : decode cMd_apply 122 = .ok (.bipush 16, 2) := by decide +kernel
theorem dMd_apply_124 : decode cMd_apply 124 = .ok (.iload 4, 2) := by decide +kernel
theorem dMd_apply_126 : decode cMd_apply 126 = .ok (.imul, 1) := by decide +kernel
theorem dMd_apply_127 : decode cMd_apply 127 = .ok (.iload 6, 2) := by decide +kernel
theorem dMd_apply_129 : decode cMd_apply 129 = .ok (.iadd, 1) := by decide +kernel
theorem dMd_apply_130 : decode cMd_apply 130 = .ok (.iload 7, 2) := by decide +kernel
theorem dMd_apply_132 : decode cMd_apply 132 = .ok (.ifCond .eq 13, 3) := by decide +kernel
theorem dMd_apply_135 : decode cMd_apply 135 = .ok (.aload_n 0, 1) := by decide +kernel
theorem dMd_apply_136 : decode cMd_apply 136 = .ok (.getfield 41, 3) := by decide +kernel
theorem dMd_apply_139 : decode cMd_apply 139 = .ok (.iload 6, 2) := by decide +kernel
theorem dMd_apply_141 : decode cMd_apply 141 = .ok (.iaload, 1) := by decide +kernel
theorem dMd_apply_142 : decode cMd_apply 142 = .ok (.goto 16, 3) := by decide +kernel
theorem dMd_apply_145 : decode cMd_apply 145 = .ok (.aload_n 0, 1) := by decide +kernel
theorem dMd_apply_146 : decode cMd_apply 146 = .ok (.getfield 34, 3) := by decide +kernel
theorem dMd_apply_149 : decode cMd_apply 149 = .ok (.bipush 16, 2) := by decide +kernel
theorem dMd_apply_151 : decode cMd_apply 151 = .ok (.iload 5, 2) := by decide +kernel
theorem dMd_apply_153 : decode cMd_apply 153 = .ok (.imul, 1) := by decide +kernel
theorem dMd_apply_154 : decode cMd_apply 154 = .ok (.iload 6, 2) := by decide +kernel
theorem dMd_apply_156 : decode cMd_apply 156 = .ok (.iadd, 1) := by decide +kernel
theorem dMd_apply_157 : decode cMd_apply 157 = .ok (.iaload, 1) := by decide +kernel
theorem dMd_apply_158 : decode cMd_apply 158 = .ok (.iastore, 1) := by decide +kernel
theorem dMd_apply_159 : decode cMd_apply 159 = .ok (.iinc 6 1, 3) := by decide +kernel
theorem dMd_apply_162 : decode cMd_apply 162 = .ok (.goto (-76), 3) := by decide +kernel
theorem dMd_apply_165 : decode cMd_apply 165 = .ok (.iload_n 2, 1) := by decide +kernel
theorem dMd_apply_166 : decode cMd_apply 166 = .ok (.ifCond .le 36, 3) := by decide +kernel
theorem dMd_apply_169 : decode cMd_apply 169 = .ok (.aload_n 0, 1) := by decide +kernel
theorem dMd_apply_170 : decode cMd_apply 170 = .ok (.getfield 25, 3) := by decide +kernel
theorem dMd_apply_173 : decode cMd_apply 173 = .ok (.bipush 16, 2) := by decide +kernel
theorem dMd_apply_175 : decode cMd_apply 175 = .ok (.iload_n 1, 1) := by decide +kernel
theorem dMd_apply_176 : decode cMd_apply 176 = .ok (.imul, 1) := by decide +kernel
theorem dMd_apply_177 : decode cMd_apply 177 = .ok (.aload_n 0, 1) := by decide +kernel
theorem dMd_apply_178 : decode cMd_apply 178 = .ok (.getfield 54, 3) := by decide +kernel
theorem dMd_apply_181 : decode cMd_apply 181 = .ok (.iadd, 1) := by decide +kernel
theorem dMd_apply_182 : decode cMd_apply 182 = .ok (.aload_n 0, 1) := by decide +kernel
theorem dMd_apply_183 : decode cMd_apply 183 = .ok (.getfield 37, 3) := by decide +kernel
theorem dMd_apply_186 : decode cMd_apply 186 = .ok (.iastore, 1) := by decide +kernel
theorem dMd_apply_187 : decode cMd_apply 187 = .ok (.aload_n 0, 1) := by decide +kernel
theorem dMd_apply_188 : decode cMd_apply 188 = .ok (.getfield 28, 3) := by decide +kernel
theorem dMd_apply_191 : decode cMd_apply 191 = .ok (.bipush 16, 2) := by decide +kernel
theorem dMd_apply_193 : decode cMd_apply 193 = .ok (.iload_n 1, 1) := by decide +kernel
theorem dMd_apply_194 : decode cMd_apply 194 = .ok (.imul, 1) := by decide +kernel
theorem dMd_apply_195 : decode cMd_apply 195 = .ok (.aload_n 0, 1) := by decide +kernel
theorem dMd_apply_196 : decode cMd_apply 196 = .ok (.getfield 54, 3) := by decide +kernel
theorem dMd_apply_199 : decode cMd_apply 199 = .ok (.iadd, 1) := by decide +kernel
theorem dMd_apply_200 : decode cMd_apply 200 = .ok (.iload_n 2, 1) := by decide +kernel
theorem dMd_apply_201 : decode cMd_apply 201 = .ok (.iastore, 1) := by decide +kernel
theorem dMd_apply_202 : decode cMd_apply 202 = .ok (.aload_n 0, 1) := by decide +kernel
theorem dMd_apply_203 : decode cMd_apply 203 = .ok (.getfield 16, 3) := by decide +kernel
theorem dMd_apply_206 : decode cMd_apply 206 = .ok (.iload_n 1, 1) := by decide +kernel
theorem dMd_apply_207 : decode cMd_apply 207 = .ok (.dup2, 1) := by decide +kernel
theorem dMd_apply_208 : decode cMd_apply 208 = .ok (.iaload, 1) := by decide +kernel
theorem dMd_apply_209 : decode cMd_apply 209 = .ok (.iload_n 2, 1) := by decide +kernel
theorem dMd_apply_210 : decode cMd_apply 210 = .ok (.iconst 1, 1) := by decide +kernel
theorem dMd_apply_211 : decode cMd_apply 211 = .ok (.if_icmp .ne 7, 3) := by decide +kernel
theorem dMd_apply_214 : decode cMd_apply 214 = .ok (.iconst 1, 1) := by decide +kernel
theorem dMd_apply_215 : decode cMd_apply 215 = .ok (.goto 4, 3) := by decide +kernel
theorem dMd_apply_218 : decode cMd_apply 218 = .ok (.iconst 0, 1) := by decide +kernel
theorem dMd_apply_219 : decode cMd_apply 219 = .ok (.iadd, 1) := by decide +kernel
theorem dMd_apply_220 : decode cMd_apply 220 = .ok (.iastore, 1) := by decide +kernel
theorem dMd_apply_221 : decode cMd_apply 221 = .ok (.aload_n 0, 1) := by decide +kernel
theorem dMd_apply_222 : decode cMd_apply 222 = .ok (.getfield 19, 3) := by decide +kernel
theorem dMd_apply_225 : decode cMd_apply 225 = .ok (.iload_n 1, 1) := by decide +kernel
theorem dMd_apply_226 : decode cMd_apply 226 = .ok (.dup2, 1) := by decide +kernel
theorem dMd_apply_227 : decode cMd_apply 227 = .ok (.iaload, 1) := by decide +kernel
theorem dMd_apply_228 : decode cMd_apply 228 = .ok (.iload_n 2, 1) := by decide +kernel
theorem dMd_apply_229 : decode cMd_apply 229 = .ok (.iconst 2, 1) := by decide +kernel
theorem dMd_apply_230 : decode cMd_apply 230 = .ok (.if_icmp .ne 7, 3) := by decide +kernel
theorem dMd_apply_233 : decode cMd_apply 233 = .ok (.iconst 1, 1) := by decide +kernel
theorem dMd_apply_234 : decode cMd_apply 234 = .ok (.goto 4, 3) := by decide +kernel
theorem dMd_apply_237 : decode cMd_apply 237 = .ok (.iconst 0, 1) := by decide +kernel
theorem dMd_apply_238 : decode cMd_apply 238 = .ok (.iadd, 1) := by decide +kernel
theorem dMd_apply_239 : decode cMd_apply 239 = .ok (.iastore, 1) := by decide +kernel
theorem dMd_apply_240 : decode cMd_apply 240 = .ok (.aload_n 0, 1) := by decide +kernel
theorem dMd_apply_241 : decode cMd_apply 241 = .ok (.getfield 22, 3) := by decide +kernel
theorem dMd_apply_244 : decode cMd_apply 244 = .ok (.iload_n 1, 1) := by decide +kernel
theorem dMd_apply_245 : decode cMd_apply 245 = .ok (.dup2, 1) := by decide +kernel
theorem dMd_apply_246 : decode cMd_apply 246 = .ok (.iaload, 1) := by decide +kernel
theorem dMd_apply_247 : decode cMd_apply 247 = .ok (.iload_n 2, 1) := by decide +kernel
theorem dMd_apply_248 : decode cMd_apply 248 = .ok (.ifCond .ne 7, 3) := by decide +kernel
theorem dMd_apply_251 : decode cMd_apply 251 = .ok (.iconst 1, 1) := by decide +kernel
theorem dMd_apply_252 : decode cMd_apply 252 = .ok (.goto 4, 3) := by decide +kernel
theorem dMd_apply_255 : decode cMd_apply 255 = .ok (.iconst 0, 1) := by decide +kernel
theorem dMd_apply_256 : decode cMd_apply 256 = .ok (.iadd, 1) := by decide +kernel
theorem dMd_apply_257 : decode cMd_apply 257 = .ok (.iastore, 1) := by decide +kernel
theorem dMd_apply_258 : decode cMd_apply 258 = .ok (.aload_n 0, 1) := by decide +kernel
theorem dMd_apply_259 : decode cMd_apply 259 = .ok (.getfield 13, 3) := by decide +kernel
theorem dMd_apply_262 : decode cMd_apply 262 = .ok (.iload_n 1, 1) := by decide +kernel
theorem dMd_apply_263 : decode cMd_apply 263 = .ok (.aload_n 0, 1) := by decide +kernel
theorem dMd_apply_264 : decode cMd_apply 264 = .ok (.getfield 13, 3) := by decide +kernel
theorem dMd_apply_267 : decode cMd_apply 267 = .ok (.iload_n 1, 1) := by decide +kernel
theorem dMd_apply_268 : decode cMd_apply 268 = .ok (.iaload, 1) := by decide +kernel
theorem dMd_apply_269 : decode cMd_apply 269 = .ok (.iload_n 3, 1) := by decide +kernel
theorem dMd_apply_270 : decode cMd_apply 270 = .ok (.aload_n 0, 1) := by decide +kernel
theorem dMd_apply_271 : decode cMd_apply 271 = .ok (.getfield 44, 3) := by decide +kernel
theorem dMd_apply_274 : decode cMd_apply 274 = .ok (.isub, 1) := by decide +kernel
theorem dMd_apply_275 : decode cMd_apply 275 = .ok (.if_icmp .ge 12, 3) := by decide +kernel
theorem dMd_apply_278 : decode cMd_apply 278 = .ok (.iload_n 3, 1) := by decide +kernel
theorem dMd_apply_279 : decode cMd_apply 279 = .ok (.aload_n 0, 1) := by decide +kernel
theorem dMd_apply_280 : decode cMd_apply 280 = .ok (.getfield 44, 3) := by decide +kernel
theorem dMd_apply_283 : decode cMd_apply 283 = .ok (.isub, 1) := by decide +kernel
theorem dMd_apply_284 : decode cMd_apply 284 = .ok (.goto 9, 3) := by decide +kernel
theorem dMd_apply_287 : decode cMd_apply 287 = .ok (.aload_n 0, 1) := by decide +kernel
theorem dMd_apply_288 : decode cMd_apply 288 = .ok (.getfield 13, 3) := by decide +kernel
theorem dMd_apply_291 : decode cMd_apply 291 = .ok (.iload_n 1, 1) := by decide +kernel
theorem dMd_apply_292 : decode cMd_apply 292 = .ok (.iaload, 1) := by decide +kernel
theorem dMd_apply_293 : decode cMd_apply 293 = .ok (.iastore, 1) := by decide +kernel
theorem dMd_apply_294 : decode cMd_apply 294 = .ok (.iload_n 2, 1) := by decide +kernel
theorem dMd_apply_295 : decode cMd_apply 295 = .ok (.ireturn, 1) := by decide +kernel
theorem dMd_take_0 : decode cMd_take 0 = .ok (.aload_n 0, 1) := by decide +kernel
theorem dMd_take_1 : decode cMd_take 1 = .ok (.iload_n 1, 1) := by decide +kernel
theorem dMd_take_2 : decode cMd_take 2 = .ok (.invokevirtual 71, 3) := by decide +kernel
theorem dMd_take_5 : decode cMd_take 5 = .ok (.ifCond .ne 26, 3) := by decide +kernel
theorem dMd_take_8 : decode cMd_take 8 = .ok (.aload_n 0, 1) := by decide +kernel
theorem dMd_take_9 : decode cMd_take 9 = .ok (.iload_n 2, 1) := by decide +kernel
theorem dMd_take_10 : decode cMd_take 10 = .ok (.invokevirtual 71, 3) := by decide +kernel
theorem dMd_take_13 : decode cMd_take 13 = .ok (.ifCond .ne 18, 3) := by decide +kernel
theorem dMd_take_16 : decode cMd_take 16 = .ok (.aload_n 0, 1) := by decide +kernel
theorem dMd_take_17 : decode cMd_take 17 = .ok (.getfield 7, 3) := by decide +kernel
theorem dMd_take_20 : decode cMd_take 20 = .ok (.iload_n 1, 1) := by decide +kernel
theorem dMd_take_21 : decode cMd_take 21 = .ok (.iaload, 1) := by decide +kernel
theorem dMd_take_22 : decode cMd_take 22 = .ok (.aload_n 0, 1) := by decide +kernel
theorem dMd_take_23 : decode cMd_take 23 = .ok (.getfield 7, 3) := by decide +kernel
theorem dMd_take_26 : decode cMd_take 26 = .ok (.iload_n 2, 1) := by decide +kernel
theorem dMd_take_27 : decode cMd_take 27 = .ok (.iaload, 1) := by decide +kernel
theorem dMd_take_28 : decode cMd_take 28 = .ok (.if_icmp .gt 5, 3) := by decide +kernel
theorem dMd_take_31 : decode cMd_take 31 = .ok (.iconst 0, 1) := by decide +kernel
theorem dMd_take_32 : decode cMd_take 32 = .ok (.ireturn, 1) := by decide +kernel
theorem dMd_take_33 : decode cMd_take 33 = .ok (.aload_n 0, 1) := by decide +kernel
theorem dMd_take_34 : decode cMd_take 34 = .ok (.getfield 7, 3) := by decide +kernel
theorem dMd_take_37 : decode cMd_take 37 = .ok (.iload_n 2, 1) := by decide +kernel
theorem dMd_take_38 : decode cMd_take 38 = .ok (.aload_n 0, 1) := by decide +kernel
theorem dMd_take_39 : decode cMd_take 39 = .ok (.getfield 7, 3) := by decide +kernel
theorem dMd_take_42 : decode cMd_take 42 = .ok (.iload_n 1, 1) := by decide +kernel
theorem dMd_take_43 : decode cMd_take 43 = .ok (.iaload, 1) := by decide +kernel
theorem dMd_take_44 : decode cMd_take 44 = .ok (.iastore, 1) := by decide +kernel
theorem dMd_take_45 : decode cMd_take 45 = .ok (.aload_n 0, 1) := by decide +kernel
theorem dMd_take_46 : decode cMd_take 46 = .ok (.getfield 13, 3) := by decide +kernel
theorem dMd_take_49 : decode cMd_take 49 = .ok (.iload_n 2, 1) := by decide +kernel
theorem dMd_take_50 : decode cMd_take 50 = .ok (.aload_n 0, 1) := by decide +kernel
theorem dMd_take_51 : decode cMd_take 51 = .ok (.getfield 7, 3) := by decide +kernel
theorem dMd_take_54 : decode cMd_take 54 = .ok (.iload_n 1, 1) := by decide +kernel
theorem dMd_take_55 : decode cMd_take 55 = .ok (.iaload, 1) := by decide +kernel
theorem dMd_take_56 : decode cMd_take 56 = .ok (.iastore, 1) := by decide +kernel
theorem dMd_take_57 : decode cMd_take 57 = .ok (.aload_n 0, 1) := by decide +kernel
theorem dMd_take_58 : decode cMd_take 58 = .ok (.getfield 16, 3) := by decide +kernel
theorem dMd_take_61 : decode cMd_take 61 = .ok (.iload_n 2, 1) := by decide +kernel
theorem dMd_take_62 : decode cMd_take 62 = .ok (.aload_n 0, 1) := by decide +kernel
theorem dMd_take_63 : decode cMd_take 63 = .ok (.getfield 16, 3) := by decide +kernel
theorem dMd_take_66 : decode cMd_take 66 = .ok (.iload_n 1, 1) := by decide +kernel
theorem dMd_take_67 : decode cMd_take 67 = .ok (.iaload, 1) := by decide +kernel
theorem dMd_take_68 : decode cMd_take 68 = .ok (.iastore, 1) := by decide +kernel
theorem dMd_take_69 : decode cMd_take 69 = .ok (.aload_n 0, 1) := by decide +kernel
theorem dMd_take_70 : decode cMd_take 70 = .ok (.getfield 19, 3) := by decide +kernel
theorem dMd_take_73 : decode cMd_take 73 = .ok (.iload_n 2, 1) := by decide +kernel
theorem dMd_take_74 : decode cMd_take 74 = .ok (.aload_n 0, 1) := by decide +kernel
theorem dMd_take_75 : decode cMd_take 75 = .ok (.getfield 19, 3) := by decide +kernel
theorem dMd_take_78 : decode cMd_take 78 = .ok (.iload_n 1, 1) := by decide +kernel
theorem dMd_take_79 : decode cMd_take 79 = .ok (.iaload, 1) := by decide +kernel
theorem dMd_take_80 : decode cMd_take 80 = .ok (.iastore, 1) := by decide +kernel
theorem dMd_take_81 : decode cMd_take 81 = .ok (.aload_n 0, 1) := by decide +kernel
theorem dMd_take_82 : decode cMd_take 82 = .ok (.getfield 22, 3) := by decide +kernel
theorem dMd_take_85 : decode cMd_take 85 = .ok (.iload_n 2, 1) := by decide +kernel
theorem dMd_take_86 : decode cMd_take 86 = .ok (.aload_n 0, 1) := by decide +kernel
theorem dMd_take_87 : decode cMd_take 87 = .ok (.getfield 22, 3) := by decide +kernel
theorem dMd_take_90 : decode cMd_take 90 = .ok (.iload_n 1, 1) := by decide +kernel
theorem dMd_take_91 : decode cMd_take 91 = .ok (.iaload, 1) := by decide +kernel
theorem dMd_take_92 : decode cMd_take 92 = .ok (.iastore, 1) := by decide +kernel
theorem dMd_take_93 : decode cMd_take 93 = .ok (.iconst 0, 1) := by decide +kernel
theorem dMd_take_94 : decode cMd_take 94 = .ok (.istore_n 3, 1) := by decide +kernel
theorem dMd_take_95 : decode cMd_take 95 = .ok (.iload_n 3, 1) := by decide +kernel
theorem dMd_take_96 : decode cMd_take 96 = .ok (.bipush 16, 2) := by decide +kernel
theorem dMd_take_98 : decode cMd_take 98 = .ok (.if_icmp .ge 53, 3) := by decide +kernel
theorem dMd_take_101 : decode cMd_take 101 = .ok (.aload_n 0, 1) := by decide +kernel
theorem dMd_take_102 : decode cMd_take 102 = .ok (.getfield 25, 3) := by decide +kernel
theorem dMd_take_105 : decode cMd_take 105 = .ok (.bipush 16, 2) := by decide +kernel
theorem dMd_take_107 : decode cMd_take 107 = .ok (.iload_n 2, 1) := by decide +kernel
theorem dMd_take_108 : decode cMd_take 108 = .ok (.imul, 1) := by decide +kernel
theorem dMd_take_109 : decode cMd_take 109 = .ok (.iload_n 3, 1) := by decide +kernel
theorem dMd_take_110 : decode cMd_take 110 = .ok (.iadd, 1) := by decide +kernel
theorem dMd_take_111 : decode cMd_take 111 = .ok (.aload_n 0, 1) := by decide +kernel
theorem dMd_take_112 : decode cMd_take 112 = .ok (.getfield 25, 3) := by decide +kernel
theorem dMd_take_115 : decode cMd_take 115 = .ok (.bipush 16, 2) := by decide +kernel
theorem dMd_take_117 : decode cMd_take 117 = .ok (.iload_n 1, 1) := by decide +kernel
theorem dMd_take_118 : decode cMd_take 118 = .ok (.imul, 1) := by decide +kernel
theorem dMd_take_119 : decode cMd_take 119 = .ok (.iload_n 3, 1) := by decide +kernel
theorem dMd_take_120 : decode cMd_take 120 = .ok (.iadd, 1) := by decide +kernel
theorem dMd_take_121 : decode cMd_take 121 = .ok (.iaload, 1) := by decide +kernel
theorem dMd_take_122 : decode cMd_take 122 = .ok (.iastore, 1) := by decide +kernel
theorem dMd_take_123 : decode cMd_take 123 = .ok (.aload_n 0, 1) := by decide +kernel
theorem dMd_take_124 : decode cMd_take 124 = .ok (.getfield 28, 3) := by decide +kernel
theorem dMd_take_127 : decode cMd_take 127 = .ok (.bipush 16, 2) := by decide +kernel
theorem dMd_take_129 : decode cMd_take 129 = .ok (.iload_n 2, 1) := by decide +kernel
theorem dMd_take_130 : decode cMd_take 130 = .ok (.imul, 1) := by decide +kernel
theorem dMd_take_131 : decode cMd_take 131 = .ok (.iload_n 3, 1) := by decide +kernel
theorem dMd_take_132 : decode cMd_take 132 = .ok (.iadd, 1) := by decide +kernel
theorem dMd_take_133 : decode cMd_take 133 = .ok (.aload_n 0, 1) := by decide +kernel
theorem dMd_take_134 : decode cMd_take 134 = .ok (.getfield 28, 3) := by decide +kernel
theorem dMd_take_137 : decode cMd_take 137 = .ok (.bipush 16, 2) := by decide +kernel
theorem dMd_take_139 : decode cMd_take 139 = .ok (.iload_n 1, 1) := by decide +kernel
theorem dMd_take_140 : decode cMd_take 140 = .ok (.imul, 1) := by decide +kernel
theorem dMd_take_141 : decode cMd_take 141 = .ok (.iload_n 3, 1) := by decide +kernel
theorem dMd_take_142 : decode cMd_take 142 = .ok (.iadd, 1) := by decide +kernel
theorem dMd_take_143 : decode cMd_take 143 = .ok (.iaload, 1) := by decide +kernel
theorem dMd_take_144 : decode cMd_take 144 = .ok (.iastore, 1) := by decide +kernel
theorem dMd_take_145 : decode cMd_take 145 = .ok (.iinc 3 1, 3) := by decide +kernel
theorem dMd_take_148 : decode cMd_take 148 = .ok (.goto (-53), 3) := by decide +kernel
theorem dMd_take_151 : decode cMd_take 151 = .ok (.iconst 0, 1) := by decide +kernel
theorem dMd_take_152 : decode cMd_take 152 = .ok (.istore_n 3, 1) := by decide +kernel
theorem dMd_take_153 : decode cMd_take 153 = .ok (.iload_n 3, 1) := by decide +kernel
theorem dMd_take_154 : decode cMd_take 154 = .ok (.bipush 64, 2) := by decide +kernel
end
section
theorem dMd_take_156 : decode cMd_take 156 = .ok (.if_icmp .ge 31, 3) := by decide +kernel
theorem dMd_take_159 : decode cMd_take 159 = .ok (.aload_n 0, 1) := by decide +kernel
theorem dMd_take_160 : decode cMd_take 160 = .ok (.getfield 31, 3) := by decide +kernel
theorem dMd_take_163 : decode cMd_take 163 = .ok (.bipush 64, 2) := by decide +kernel
theorem dMd_take_165 : decode cMd_take 165 = .ok (.iload_n 2, 1) := by decide +kernel
theorem dMd_take_166 : decode cMd_take 166 = .ok (.imul, 1) := by decide +kernel
theorem dMd_take_167 : decode cMd_take 167 = .ok (.iload_n 3, 1) := by decide +kernel
theorem dMd_take_168 : decode cMd_take 168 = .ok (.iadd, 1) := by decide +kernel
theorem dMd_take_169 : decode cMd_take 169 = .ok (.aload_n 0, 1) := by decide +kernel
theorem dMd_take_170 : decode cMd_take 170 = .ok (.getfield 31, 3) := by decide +kernel
theorem dMd_take_173 : decode cMd_take 173 = .ok (.bipush 64, 2) := by decide +kernel
theorem dMd_take_175 : decode cMd_take 175 = .ok (.iload_n 1, 1) := by decide +kernel
theorem dMd_take_176 : decode cMd_take 176 = .ok (.imul, 1) := by decide +kernel
theorem dMd_take_177 : decode cMd_take 177 = .ok (.iload_n 3, 1) := by decide +kernel
theorem dMd_take_178 : decode cMd_take 178 = .ok (.iadd, 1) := by decide +kernel
theorem dMd_take_179 : decode cMd_take 179 = .ok (.iaload, 1) := by decide +kernel
theorem dMd_take_180 : decode cMd_take 180 = .ok (.iastore, 1) := by decide +kernel
theorem dMd_take_181 : decode cMd_take 181 = .ok (.iinc 3 1, 3) := by decide +kernel
theorem dMd_take_184 : decode cMd_take 184 = .ok (.goto (-31), 3) := by decide +kernel
theorem dMd_take_187 : decode cMd_take 187 = .ok (.iconst 0, 1) := by decide +kernel
theorem dMd_take_188 : decode cMd_take 188 = .ok (.istore_n 3, 1) := by decide +kernel
theorem dMd_take_189 : decode cMd_take 189 = .ok (.iload_n 3, 1) := by decide +kernel
theorem dMd_take_190 : decode cMd_take 190 = .ok (.sipush 1024, 3) := by decide +kernel
theorem dMd_take_193 : decode cMd_take 193 = .ok (.if_icmp .ge 33, 3) := by decide +kernel
theorem dMd_take_196 : decode cMd_take 196 = .ok (.aload_n 0, 1) := by decide +kernel
theorem dMd_take_197 : decode cMd_take 197 = .ok (.getfield 34, 3) := by decide +kernel
theorem dMd_take_200 : decode cMd_take 200 = .ok (.sipush 1024, 3) := by decide +kernel
theorem dMd_take_203 : decode cMd_take 203 = .ok (.iload_n 2, 1) := by decide +kernel
theorem dMd_take_204 : decode cMd_take 204 = .ok (.imul, 1) := by decide +kernel
theorem dMd_take_205 : decode cMd_take 205 = .ok (.iload_n 3, 1) := by decide +kernel
theorem dMd_take_206 : decode cMd_take 206 = .ok (.iadd, 1) := by decide +kernel
theorem dMd_take_207 : decode cMd_take 207 = .ok (.aload_n 0, 1) := by decide +kernel
theorem dMd_take_208 : decode cMd_take 208 = .ok (.getfield 34, 3) := by decide +kernel
theorem dMd_take_211 : decode cMd_take 211 = .ok (.sipush 1024, 3) := by decide +kernel
theorem dMd_take_214 : decode cMd_take 214 = .ok (.iload_n 1, 1) := by decide +kernel
theorem dMd_take_215 : decode cMd_take 215 = .ok (.imul, 1) := by decide +kernel
theorem dMd_take_216 : decode cMd_take 216 = .ok (.iload_n 3, 1) := by decide +kernel
theorem dMd_take_217 : decode cMd_take 217 = .ok (.iadd, 1) := by decide +kernel
theorem dMd_take_218 : decode cMd_take 218 = .ok (.iaload, 1) := by decide +kernel
theorem dMd_take_219 : decode cMd_take 219 = .ok (.iastore, 1) := by decide +kernel
theorem dMd_take_220 : decode cMd_take 220 = .ok (.iinc 3 1, 3) := by decide +kernel
theorem dMd_take_223 : decode cMd_take 223 = .ok (.goto (-34), 3) := by decide +kernel
theorem dMd_take_226 : decode cMd_take 226 = .ok (.iconst 1, 1) := by decide +kernel
theorem dMd_take_227 : decode cMd_take 227 = .ok (.ireturn, 1) := by decide +kernel
theorem dMd_clear_0 : decode cMd_clear 0 = .ok (.aload_n 0, 1) := by decide +kernel
theorem dMd_clear_1 : decode cMd_clear 1 = .ok (.iload_n 1, 1) := by decide +kernel
theorem dMd_clear_2 : decode cMd_clear 2 = .ok (.invokevirtual 71, 3) := by decide +kernel
theorem dMd_clear_5 : decode cMd_clear 5 = .ok (.ifCond .eq 4, 3) := by decide +kernel
theorem dMd_clear_8 : decode cMd_clear 8 = .ok (.return_, 1) := by decide +kernel
theorem dMd_clear_9 : decode cMd_clear 9 = .ok (.aload_n 0, 1) := by decide +kernel
theorem dMd_clear_10 : decode cMd_clear 10 = .ok (.getfield 7, 3) := by decide +kernel
theorem dMd_clear_13 : decode cMd_clear 13 = .ok (.iload_n 1, 1) := by decide +kernel
theorem dMd_clear_14 : decode cMd_clear 14 = .ok (.iconst 0, 1) := by decide +kernel
theorem dMd_clear_15 : decode cMd_clear 15 = .ok (.iastore, 1) := by decide +kernel
theorem dMd_clear_16 : decode cMd_clear 16 = .ok (.aload_n 0, 1) := by decide +kernel
theorem dMd_clear_17 : decode cMd_clear 17 = .ok (.getfield 13, 3) := by decide +kernel
theorem dMd_clear_20 : decode cMd_clear 20 = .ok (.iload_n 1, 1) := by decide +kernel
theorem dMd_clear_21 : decode cMd_clear 21 = .ok (.iconst 0, 1) := by decide +kernel
theorem dMd_clear_22 : decode cMd_clear 22 = .ok (.iastore, 1) := by decide +kernel
theorem dMd_clear_23 : decode cMd_clear 23 = .ok (.aload_n 0, 1) := by decide +kernel
theorem dMd_clear_24 : decode cMd_clear 24 = .ok (.getfield 16, 3) := by decide +kernel
theorem dMd_clear_27 : decode cMd_clear 27 = .ok (.iload_n 1, 1) := by decide +kernel
theorem dMd_clear_28 : decode cMd_clear 28 = .ok (.iconst 0, 1) := by decide +kernel
theorem dMd_clear_29 : decode cMd_clear 29 = .ok (.iastore, 1) := by decide +kernel
theorem dMd_clear_30 : decode cMd_clear 30 = .ok (.aload_n 0, 1) := by decide +kernel
theorem dMd_clear_31 : decode cMd_clear 31 = .ok (.getfield 19, 3) := by decide +kernel
theorem dMd_clear_34 : decode cMd_clear 34 = .ok (.iload_n 1, 1) := by decide +kernel
theorem dMd_clear_35 : decode cMd_clear 35 = .ok (.iconst 0, 1) := by decide +kernel
theorem dMd_clear_36 : decode cMd_clear 36 = .ok (.iastore, 1) := by decide +kernel
theorem dMd_clear_37 : decode cMd_clear 37 = .ok (.aload_n 0, 1) := by decide +kernel
theorem dMd_clear_38 : decode cMd_clear 38 = .ok (.getfield 22, 3) := by decide +kernel
theorem dMd_clear_41 : decode cMd_clear 41 = .ok (.iload_n 1, 1) := by decide +kernel
theorem dMd_clear_42 : decode cMd_clear 42 = .ok (.iconst 0, 1) := by decide +kernel
theorem dMd_clear_43 : decode cMd_clear 43 = .ok (.iastore, 1) := by decide +kernel
theorem dMd_clear_44 : decode cMd_clear 44 = .ok (.iconst 0, 1) := by decide +kernel
theorem dMd_clear_45 : decode cMd_clear 45 = .ok (.istore_n 2, 1) := by decide +kernel
theorem dMd_clear_46 : decode cMd_clear 46 = .ok (.iload_n 2, 1) := by decide +kernel
theorem dMd_clear_47 : decode cMd_clear 47 = .ok (.bipush 16, 2) := by decide +kernel
theorem dMd_clear_49 : decode cMd_clear 49 = .ok (.if_icmp .ge 46, 3) := by decide +kernel
theorem dMd_clear_52 : decode cMd_clear 52 = .ok (.aload_n 0, 1) := by decide +kernel
theorem dMd_clear_53 : decode cMd_clear 53 = .ok (.getfield 25, 3) := by decide +kernel
theorem dMd_clear_56 : decode cMd_clear 56 = .ok (.bipush 16, 2) := by decide +kernel
theorem dMd_clear_58 : decode cMd_clear 58 = .ok (.iload_n 1, 1) := by decide +kernel
theorem dMd_clear_59 : decode cMd_clear 59 = .ok (.imul, 1) := by decide +kernel
theorem dMd_clear_60 : decode cMd_clear 60 = .ok (.iload_n 2, 1) := by decide +kernel
theorem dMd_clear_61 : decode cMd_clear 61 = .ok (.iadd, 1) := by decide +kernel
theorem dMd_clear_62 : decode cMd_clear 62 = .ok (.iconst 0, 1) := by decide +kernel
theorem dMd_clear_63 : decode cMd_clear 63 = .ok (.iastore, 1) := by decide +kernel
theorem dMd_clear_64 : decode cMd_clear 64 = .ok (.aload_n 0, 1) := by decide +kernel
theorem dMd_clear_65 : decode cMd_clear 65 = .ok (.getfield 28, 3) := by decide +kernel
theorem dMd_clear_68 : decode cMd_clear 68 = .ok (.bipush 16, 2) := by decide +kernel
theorem dMd_clear_70 : decode cMd_clear 70 = .ok (.iload_n 1, 1) := by decide +kernel
theorem dMd_clear_71 : decode cMd_clear 71 = .ok (.imul, 1) := by decide +kernel
theorem dMd_clear_72 : decode cMd_clear 72 = .ok (.iload_n 2, 1) := by decide +kernel
theorem dMd_clear_73 : decode cMd_clear 73 = .ok (.iadd, 1) := by decide +kernel
theorem dMd_clear_74 : decode cMd_clear 74 = .ok (.iconst 0, 1) := by decide +kernel
theorem dMd_clear_75 : decode cMd_clear 75 = .ok (.iastore, 1) := by decide +kernel
theorem dMd_clear_76 : decode cMd_clear 76 = .ok (.aload_n 0, 1) := by decide +kernel
theorem dMd_clear_77 : decode cMd_clear 77 = .ok (.getfield 34, 3) := by decide +kernel
theorem dMd_clear_80 : decode cMd_clear 80 = .ok (.sipush 1024, 3) := by decide +kernel
theorem dMd_clear_83 : decode cMd_clear 83 = .ok (.iload_n 1, 1) := by decide +kernel
theorem dMd_clear_84 : decode cMd_clear 84 = .ok (.imul, 1) := by decide +kernel
theorem dMd_clear_85 : decode cMd_clear 85 = .ok (.iload_n 2, 1) := by decide +kernel
theorem dMd_clear_86 : decode cMd_clear 86 = .ok (.iadd, 1) := by decide +kernel
theorem dMd_clear_87 : decode cMd_clear 87 = .ok (.iconst 0, 1) := by decide +kernel
theorem dMd_clear_88 : decode cMd_clear 88 = .ok (.iastore, 1) := by decide +kernel
theorem dMd_clear_89 : decode cMd_clear 89 = .ok (.iinc 2 1, 3) := by decide +kernel
theorem dMd_clear_92 : decode cMd_clear 92 = .ok (.goto (-46), 3) := by decide +kernel
theorem dMd_clear_95 : decode cMd_clear 95 = .ok (.aload_n 0, 1) := by decide +kernel
theorem dMd_clear_96 : decode cMd_clear 96 = .ok (.getfield 31, 3) := by decide +kernel
theorem dMd_clear_99 : decode cMd_clear 99 = .ok (.bipush 64, 2) := by decide +kernel
theorem dMd_clear_101 : decode cMd_clear 101 = .ok (.iload_n 1, 1) := by decide +kernel
theorem dMd_clear_102 : decode cMd_clear 102 = .ok (.imul, 1) := by decide +kernel
theorem dMd_clear_103 : decode cMd_clear 103 = .ok (.iconst 0, 1) := by decide +kernel
theorem dMd_clear_104 : decode cMd_clear 104 = .ok (.iastore, 1) := by decide +kernel
theorem dMd_clear_105 : decode cMd_clear 105 = .ok (.return_, 1) := by decide +kernel
theorem dMd_value_0 : decode cMd_value 0 = .ok (.aload_n 0, 1) := by decide +kernel
theorem dMd_value_1 : decode cMd_value 1 = .ok (.aload_n 0, 1) := by decide +kernel
theorem dMd_value_2 : decode cMd_value 2 = .ok (.iload_n 1, 1) := by decide +kernel
theorem dMd_value_3 : decode cMd_value 3 = .ok (.invokevirtual 71, 3) := by decide +kernel
theorem dMd_value_6 : decode cMd_value 6 = .ok (.ifCond .eq 7, 3) := by decide +kernel
theorem dMd_value_9 : decode cMd_value 9 = .ok (.iconst 1, 1) := by decide +kernel
theorem dMd_value_10 : decode cMd_value 10 = .ok (.goto 61, 3) := by decide +kernel
theorem dMd_value_13 : decode cMd_value 13 = .ok (.iload_n 2, 1) := by decide +kernel
theorem dMd_value_14 : decode cMd_value 14 = .ok (.invokestatic 50, 3) := by decide +kernel
theorem dMd_value_17 : decode cMd_value 17 = .ok (.ifCond .eq 49, 3) := by decide +kernel
theorem dMd_value_20 : decode cMd_value 20 = .ok (.iload_n 3, 1) := by decide +kernel
theorem dMd_value_21 : decode cMd_value 21 = .ok (.aload_n 0, 1) := by decide +kernel
theorem dMd_value_22 : decode cMd_value 22 = .ok (.getfield 13, 3) := by decide +kernel
theorem dMd_value_25 : decode cMd_value 25 = .ok (.iload_n 1, 1) := by decide +kernel
theorem dMd_value_26 : decode cMd_value 26 = .ok (.ifCond .lt 8, 3) := by decide +kernel
theorem dMd_value_29 : decode cMd_value 29 = .ok (.iload_n 1, 1) := by decide +kernel
theorem dMd_value_30 : decode cMd_value 30 = .ok (.iconst 3, 1) := by decide +kernel
theorem dMd_value_31 : decode cMd_value 31 = .ok (.if_icmp .le 7, 3) := by decide +kernel
theorem dMd_value_34 : decode cMd_value 34 = .ok (.iconst 0, 1) := by decide +kernel
theorem dMd_value_35 : decode cMd_value 35 = .ok (.goto 4, 3) := by decide +kernel
theorem dMd_value_38 : decode cMd_value 38 = .ok (.iload_n 1, 1) := by decide +kernel
theorem dMd_value_39 : decode cMd_value 39 = .ok (.iaload, 1) := by decide +kernel
theorem dMd_value_40 : decode cMd_value 40 = .ok (.if_icmp .lt 26, 3) := by decide +kernel
theorem dMd_value_43 : decode cMd_value 43 = .ok (.iload_n 3, 1) := by decide +kernel
theorem dMd_value_44 : decode cMd_value 44 = .ok (.aload_n 0, 1) := by decide +kernel
theorem dMd_value_45 : decode cMd_value 45 = .ok (.getfield 7, 3) := by decide +kernel
theorem dMd_value_48 : decode cMd_value 48 = .ok (.iload_n 1, 1) := by decide +kernel
theorem dMd_value_49 : decode cMd_value 49 = .ok (.ifCond .lt 8, 3) := by decide +kernel
theorem dMd_value_52 : decode cMd_value 52 = .ok (.iload_n 1, 1) := by decide +kernel
theorem dMd_value_53 : decode cMd_value 53 = .ok (.iconst 3, 1) := by decide +kernel
theorem dMd_value_54 : decode cMd_value 54 = .ok (.if_icmp .le 7, 3) := by decide +kernel
theorem dMd_value_57 : decode cMd_value 57 = .ok (.iconst 0, 1) := by decide +kernel
theorem dMd_value_58 : decode cMd_value 58 = .ok (.goto 4, 3) := by decide +kernel
theorem dMd_value_61 : decode cMd_value 61 = .ok (.iload_n 1, 1) := by decide +kernel
theorem dMd_value_62 : decode cMd_value 62 = .ok (.iaload, 1) := by decide +kernel
theorem dMd_value_63 : decode cMd_value 63 = .ok (.if_icmp .le 7, 3) := by decide +kernel
theorem dMd_value_66 : decode cMd_value 66 = .ok (.iconst 2, 1) := by decide +kernel
theorem dMd_value_67 : decode cMd_value 67 = .ok (.goto 4, 3) := by decide +kernel
theorem dMd_value_70 : decode cMd_value 70 = .ok (.iconst 0, 1) := by decide +kernel
theorem dMd_value_71 : decode cMd_value 71 = .ok (.putfield 47, 3) := by decide +kernel
theorem dMd_value_74 : decode cMd_value 74 = .ok (.aload_n 0, 1) := by decide +kernel
theorem dMd_value_75 : decode cMd_value 75 = .ok (.getfield 47, 3) := by decide +kernel
theorem dMd_value_78 : decode cMd_value 78 = .ok (.ifCond .le 7, 3) := by decide +kernel
theorem dMd_value_81 : decode cMd_value 81 = .ok (.iconst 0, 1) := by decide +kernel
theorem dMd_value_82 : decode cMd_value 82 = .ok (.goto 22, 3) := by decide +kernel
theorem dMd_value_85 : decode cMd_value 85 = .ok (.aload_n 0, 1) := by decide +kernel
theorem dMd_value_86 : decode cMd_value 86 = .ok (.getfield 34, 3) := by decide +kernel
theorem dMd_value_89 : decode cMd_value 89 = .ok (.bipush 16, 2) := by decide +kernel
theorem dMd_value_91 : decode cMd_value 91 = .ok (.bipush 64, 2) := by decide +kernel
theorem dMd_value_93 : decode cMd_value 93 = .ok (.iload_n 1, 1) := by decide +kernel
theorem dMd_value_94 : decode cMd_value 94 = .ok (.imul, 1) := by decide +kernel
theorem dMd_value_95 : decode cMd_value 95 = .ok (.iload_n 3, 1) := by decide +kernel
theorem dMd_value_96 : decode cMd_value 96 = .ok (.bipush 64, 2) := by decide +kernel
theorem dMd_value_98 : decode cMd_value 98 = .ok (.irem, 1) := by decide +kernel
theorem dMd_value_99 : decode cMd_value 99 = .ok (.iadd, 1) := by decide +kernel
theorem dMd_value_100 : decode cMd_value 100 = .ok (.imul, 1) := by decide +kernel
theorem dMd_value_101 : decode cMd_value 101 = .ok (.iload_n 2, 1) := by decide +kernel
theorem dMd_value_102 : decode cMd_value 102 = .ok (.iadd, 1) := by decide +kernel
theorem dMd_value_103 : decode cMd_value 103 = .ok (.iaload, 1) := by decide +kernel
theorem dMd_value_104 : decode cMd_value 104 = .ok (.ireturn, 1) := by decide +kernel
theorem dMd_seq_0 : decode cMd_seq 0 = .ok (.aload_n 0, 1) := by decide +kernel
theorem dMd_seq_1 : decode cMd_seq 1 = .ok (.aload_n 0, 1) := by decide +kernel
theorem dMd_seq_2 : decode cMd_seq 2 = .ok (.iload_n 1, 1) := by decide +kernel
theorem dMd_seq_3 : decode cMd_seq 3 = .ok (.invokevirtual 71, 3) := by decide +kernel
theorem dMd_seq_6 : decode cMd_seq 6 = .ok (.ifCond .eq 7, 3) := by decide +kernel
theorem dMd_seq_9 : decode cMd_seq 9 = .ok (.iconst 1, 1) := by decide +kernel
theorem dMd_seq_10 : decode cMd_seq 10 = .ok (.goto 15, 3) := by decide +kernel
theorem dMd_seq_13 : decode cMd_seq 13 = .ok (.iload_n 2, 1) := by decide +kernel
theorem dMd_seq_14 : decode cMd_seq 14 = .ok (.invokestatic 50, 3) := by decide +kernel
theorem dMd_seq_17 : decode cMd_seq 17 = .ok (.ifCond .eq 7, 3) := by decide +kernel
theorem dMd_seq_20 : decode cMd_seq 20 = .ok (.iconst 0, 1) := by decide +kernel
theorem dMd_seq_21 : decode cMd_seq 21 = .ok (.goto 4, 3) := by decide +kernel
theorem dMd_seq_24 : decode cMd_seq 24 = .ok (.iconst 2, 1) := by decide +kernel
theorem dMd_seq_25 : decode cMd_seq 25 = .ok (.putfield 47, 3) := by decide +kernel
theorem dMd_seq_28 : decode cMd_seq 28 = .ok (.aload_n 0, 1) := by decide +kernel
theorem dMd_seq_29 : decode cMd_seq 29 = .ok (.getfield 47, 3) := by decide +kernel
theorem dMd_seq_32 : decode cMd_seq 32 = .ok (.ifCond .le 7, 3) := by decide +kernel
theorem dMd_seq_35 : decode cMd_seq 35 = .ok (.iconst 0, 1) := by decide +kernel
theorem dMd_seq_36 : decode cMd_seq 36 = .ok (.goto 14, 3) := by decide +kernel
theorem dMd_seq_39 : decode cMd_seq 39 = .ok (.aload_n 0, 1) := by decide +kernel
theorem dMd_seq_40 : decode cMd_seq 40 = .ok (.getfield 25, 3) := by decide +kernel
theorem dMd_seq_43 : decode cMd_seq 43 = .ok (.bipush 16, 2) := by decide +kernel
theorem dMd_seq_45 : decode cMd_seq 45 = .ok (.iload_n 1, 1) := by decide +kernel
theorem dMd_seq_46 : decode cMd_seq 46 = .ok (.imul, 1) := by decide +kernel
theorem dMd_seq_47 : decode cMd_seq 47 = .ok (.iload_n 2, 1) := by decide +kernel
theorem dMd_seq_48 : decode cMd_seq 48 = .ok (.iadd, 1) := by decide +kernel
theorem dMd_seq_49 : decode cMd_seq 49 = .ok (.iaload, 1) := by decide +kernel
theorem dMd_seq_50 : decode cMd_seq 50 = .ok (.ireturn, 1) := by decide +kernel
theorem dMd_verdict_0 : decode cMd_verdict 0 = .ok (.aload_n 0, 1) := by decide +kernel
theorem dMd_verdict_1 : decode cMd_verdict 1 = .ok (.aload_n 0, 1) := by decide +kernel
theorem dMd_verdict_2 : decode cMd_verdict 2 = .ok (.iload_n 1, 1) := by decide +kernel
theorem dMd_verdict_3 : decode cMd_verdict 3 = .ok (.invokevirtual 71, 3) := by decide +kernel
theorem dMd_verdict_6 : decode cMd_verdict 6 = .ok (.ifCond .eq 7, 3) := by decide +kernel
theorem dMd_verdict_9 : decode cMd_verdict 9 = .ok (.iconst 1, 1) := by decide +kernel
theorem dMd_verdict_10 : decode cMd_verdict 10 = .ok (.goto 15, 3) := by decide +kernel
theorem dMd_verdict_13 : decode cMd_verdict 13 = .ok (.iload_n 2, 1) := by decide +kernel
theorem dMd_verdict_14 : decode cMd_verdict 14 = .ok (.invokestatic 50, 3) := by decide +kernel
theorem dMd_verdict_17 : decode cMd_verdict 17 = .ok (.ifCond .eq 7, 3) := by decide +kernel
theorem dMd_verdict_20 : decode cMd_verdict 20 = .ok (.iconst 0, 1) := by decide +kernel
theorem dMd_verdict_21 : decode cMd_verdict 21 = .ok (.goto 4, 3) := by decide +kernel
theorem dMd_verdict_24 : decode cMd_verdict 24 = .ok (.iconst 2, 1) := by decide +kernel
theorem dMd_verdict_25 : decode cMd_verdict 25 = .ok (.putfield 47, 3) := by decide +kernel
theorem dMd_verdict_28 : decode cMd_verdict 28 = .ok (.aload_n 0, 1) := by decide +kernel
theorem dMd_verdict_29 : decode cMd_verdict 29 = .ok (.getfield 47, 3) := by decide +kernel
theorem dMd_verdict_32 : decode cMd_verdict 32 = .ok (.ifCond .le 7, 3) := by decide +kernel
theorem dMd_verdict_35 : decode cMd_verdict 35 = .ok (.iconst 0, 1) := by decide +kernel
theorem dMd_verdict_36 : decode cMd_verdict 36 = .ok (.goto 14, 3) := by decide +kernel
theorem dMd_verdict_39 : decode cMd_verdict 39 = .ok (.aload_n 0, 1) := by decide +kernel
theorem dMd_verdict_40 : decode cMd_verdict 40 = .ok (.getfield 28, 3) := by decide +kernel
theorem dMd_verdict_43 : decode cMd_verdict 43 = .ok (.bipush 16, 2) := by decide +kernel
theorem dMd_verdict_45 : decode cMd_verdict 45 = .ok (.iload_n 1, 1) := by decide +kernel
theorem dMd_verdict_46 : decode cMd_verdict 46 = .ok (.imul, 1) := by decide +kernel
theorem dMd_verdict_47 : decode cMd_verdict 47 = .ok (.iload_n 2, 1) := by decide +kernel
theorem dMd_verdict_48 : decode cMd_verdict 48 = .ok (.iadd, 1) := by decide +kernel
theorem dMd_verdict_49 : decode cMd_verdict 49 = .ok (.iaload, 1) := by decide +kernel
theorem dMd_verdict_50 : decode cMd_verdict 50 = .ok (.ireturn, 1) := by decide +kernel
theorem dMd_written_0 : decode cMd_written 0 = .ok (.aload_n 0, 1) := by decide +kernel
theorem dMd_written_1 : decode cMd_written 1 = .ok (.aload_n 0, 1) := by decide +kernel
theorem dMd_written_2 : decode cMd_written 2 = .ok (.iload_n 1, 1) := by decide +kernel
theorem dMd_written_3 : decode cMd_written 3 = .ok (.invokevirtual 71, 3) := by decide +kernel
theorem dMd_written_6 : decode cMd_written 6 = .ok (.ifCond .eq 7, 3) := by decide +kernel
theorem dMd_written_9 : decode cMd_written 9 = .ok (.iconst 1, 1) := by decide +kernel
theorem dMd_written_10 : decode cMd_written 10 = .ok (.goto 15, 3) := by decide +kernel
theorem dMd_written_13 : decode cMd_written 13 = .ok (.iload_n 2, 1) := by decide +kernel
theorem dMd_written_14 : decode cMd_written 14 = .ok (.invokestatic 50, 3) := by decide +kernel
theorem dMd_written_17 : decode cMd_written 17 = .ok (.ifCond .eq 7, 3) := by decide +kernel
theorem dMd_written_20 : decode cMd_written 20 = .ok (.iconst 0, 1) := by decide +kernel
theorem dMd_written_21 : decode cMd_written 21 = .ok (.goto 4, 3) := by decide +kernel
theorem dMd_written_24 : decode cMd_written 24 = .ok (.iconst 2, 1) := by decide +kernel
theorem dMd_written_25 : decode cMd_written 25 = .ok (.putfield 47, 3) := by decide +kernel
theorem dMd_written_28 : decode cMd_written 28 = .ok (.aload_n 0, 1) := by decide +kernel
theorem dMd_written_29 : decode cMd_written 29 = .ok (.getfield 47, 3) := by decide +kernel
theorem dMd_written_32 : decode cMd_written 32 = .ok (.ifCond .le 5, 3) := by decide +kernel
theorem dMd_written_35 : decode cMd_written 35 = .ok (.iconst 0, 1) := by decide +kernel
theorem dMd_written_36 : decode cMd_written 36 = .ok (.ireturn, 1) := by decide +kernel
theorem dMd_written_37 : decode cMd_written 37 = .ok (.aload_n 0, 1) := by decide +kernel
theorem dMd_written_38 : decode cMd_written 38 = .ok (.getfield 7, 3) := by decide +kernel
theorem dMd_written_41 : decode cMd_written 41 = .ok (.iload_n 1, 1) := by decide +kernel
theorem dMd_written_42 : decode cMd_written 42 = .ok (.iaload, 1) := by decide +kernel
theorem dMd_written_43 : decode cMd_written 43 = .ok (.istore_n 3, 1) := by decide +kernel
theorem dMd_written_44 : decode cMd_written 44 = .ok (.iload_n 3, 1) := by decide +kernel
theorem dMd_written_45 : decode cMd_written 45 = .ok (.aload_n 0, 1) := by decide +kernel
theorem dMd_written_46 : decode cMd_written 46 = .ok (.getfield 13, 3) := by decide +kernel
theorem dMd_written_49 : decode cMd_written 49 = .ok (.iload_n 1, 1) := by decide +kernel
theorem dMd_written_50 : decode cMd_written 50 = .ok (.iaload, 1) := by decide +kernel
theorem dMd_written_51 : decode cMd_written 51 = .ok (.if_icmp .lt 37, 3) := by decide +kernel
theorem dMd_written_54 : decode cMd_written 54 = .ok (.iload_n 3, 1) := by decide +kernel
theorem dMd_written_55 : decode cMd_written 55 = .ok (.ifCond .le 33, 3) := by decide +kernel
theorem dMd_written_58 : decode cMd_written 58 = .ok (.aload_n 0, 1) := by decide +kernel
theorem dMd_written_59 : decode cMd_written 59 = .ok (.getfield 31, 3) := by decide +kernel
theorem dMd_written_62 : decode cMd_written 62 = .ok (.bipush 64, 2) := by decide +kernel
theorem dMd_written_64 : decode cMd_written 64 = .ok (.iload_n 1, 1) := by decide +kernel
theorem dMd_written_65 : decode cMd_written 65 = .ok (.imul, 1) := by decide +kernel
theorem dMd_written_66 : decode cMd_written 66 = .ok (.iload_n 3, 1) := by decide +kernel
theorem dMd_written_67 : decode cMd_written 67 = .ok (.bipush 64, 2) := by decide +kernel
theorem dMd_written_69 : decode cMd_written 69 = .ok (.irem, 1) := by decide +kernel
theorem dMd_written_70 : decode cMd_written 70 = .ok (.iadd, 1) := by decide +kernel
theorem dMd_written_71 : decode cMd_written 71 = .ok (.iaload, 1) := by decide +kernel
theorem dMd_written_72 : decode cMd_written 72 = .ok (.iload_n 2, 1) := by decide +kernel
theorem dMd_written_73 : decode cMd_written 73 = .ok (.ishr, 1) := by decide +kernel
theorem dMd_written_74 : decode cMd_written 74 = .ok (.iconst 1, 1) := by decide +kernel
theorem dMd_written_75 : decode cMd_written 75 = .ok (.iand, 1) := by decide +kernel
theorem dMd_written_76 : decode cMd_written 76 = .ok (.iconst 1, 1) := by decide +kernel
theorem dMd_written_77 : decode cMd_written 77 = .ok (.if_icmp .ne 5, 3) := by decide +kernel
theorem dMd_written_80 : decode cMd_written 80 = .ok (.iload_n 3, 1) := by decide +kernel
theorem dMd_written_81 : decode cMd_written 81 = .ok (.ireturn, 1) := by decide +kernel
theorem dMd_written_82 : decode cMd_written 82 = .ok (.iinc 3 (-1), 3) := by decide +kernel
theorem dMd_written_85 : decode cMd_written 85 = .ok (.goto (-41), 3) := by decide +kernel
theorem dMd_written_88 : decode cMd_written 88 = .ok (.iconst (-1), 1) := by decide +kernel
theorem dMd_written_89 : decode cMd_written 89 = .ok (.ireturn, 1) := by decide +kernel
theorem dMd_since_0 : decode cMd_since 0 = .ok (.aload_n 0, 1) := by decide +kernel
theorem dMd_since_1 : decode cMd_since 1 = .ok (.aload_n 0, 1) := by decide +kernel
theorem dMd_since_2 : decode cMd_since 2 = .ok (.iload_n 1, 1) := by decide +kernel
theorem dMd_since_3 : decode cMd_since 3 = .ok (.invokevirtual 71, 3) := by decide +kernel
theorem dMd_since_6 : decode cMd_since 6 = .ok (.ifCond .eq 7, 3) := by decide +kernel
theorem dMd_since_9 : decode cMd_since 9 = .ok (.iconst 1, 1) := by decide +kernel
theorem dMd_since_10 : decode cMd_since 10 = .ok (.goto 4, 3) := by decide +kernel
theorem dMd_since_13 : decode cMd_since 13 = .ok (.iconst 0, 1) := by decide +kernel
theorem dMd_since_14 : decode cMd_since 14 = .ok (.putfield 47, 3) := by decide +kernel
theorem dMd_since_17 : decode cMd_since 17 = .ok (.aload_n 0, 1) := by decide +kernel
theorem dMd_since_18 : decode cMd_since 18 = .ok (.getfield 47, 3) := by decide +kernel
theorem dMd_since_21 : decode cMd_since 21 = .ok (.ifCond .le 5, 3) := by decide +kernel
theorem dMd_since_24 : decode cMd_since 24 = .ok (.iconst 0, 1) := by decide +kernel
theorem dMd_since_25 : decode cMd_since 25 = .ok (.ireturn, 1) := by decide +kernel
theorem dMd_since_26 : decode cMd_since 26 = .ok (.aload_n 0, 1) := by decide +kernel
theorem dMd_since_27 : decode cMd_since 27 = .ok (.iload_n 2, 1) := by decide +kernel
theorem dMd_since_28 : decode cMd_since 28 = .ok (.aload_n 0, 1) := by decide +kernel
theorem dMd_since_29 : decode cMd_since 29 = .ok (.getfield 7, 3) := by decide +kernel
theorem dMd_since_32 : decode cMd_since 32 = .ok (.iload_n 1, 1) := by decide +kernel
theorem dMd_since_33 : decode cMd_since 33 = .ok (.iaload, 1) := by decide +kernel
theorem dMd_since_34 : decode cMd_since 34 = .ok (.aload_n 0, 1) := by decide +kernel
theorem dMd_since_35 : decode cMd_since 35 = .ok (.getfield 44, 3) := by decide +kernel
theorem dMd_since_38 : decode cMd_since 38 = .ok (.isub, 1) := by decide +kernel
theorem dMd_since_39 : decode cMd_since 39 = .ok (.if_icmp .lt 13, 3) := by decide +kernel
theorem dMd_since_42 : decode cMd_since 42 = .ok (.iload_n 2, 1) := by decide +kernel
theorem dMd_since_43 : decode cMd_since 43 = .ok (.aload_n 0, 1) := by decide +kernel
theorem dMd_since_44 : decode cMd_since 44 = .ok (.getfield 7, 3) := by decide +kernel
theorem dMd_since_47 : decode cMd_since 47 = .ok (.iload_n 1, 1) := by decide +kernel
theorem dMd_since_48 : decode cMd_since 48 = .ok (.iaload, 1) := by decide +kernel
theorem dMd_since_49 : decode cMd_since 49 = .ok (.if_icmp .le 7, 3) := by decide +kernel
theorem dMd_since_52 : decode cMd_since 52 = .ok (.iconst 2, 1) := by decide +kernel
theorem dMd_since_53 : decode cMd_since 53 = .ok (.goto 4, 3) := by decide +kernel
theorem dMd_since_56 : decode cMd_since 56 = .ok (.iconst 0, 1) := by decide +kernel
theorem dMd_since_57 : decode cMd_since 57 = .ok (.putfield 47, 3) := by decide +kernel
theorem dMd_since_60 : decode cMd_since 60 = .ok (.aload_n 0, 1) := by decide +kernel
theorem dMd_since_61 : decode cMd_since 61 = .ok (.getfield 47, 3) := by decide +kernel
theorem dMd_since_64 : decode cMd_since 64 = .ok (.ifCond .le 7, 3) := by decide +kernel
theorem dMd_since_67 : decode cMd_since 67 = .ok (.iconst 0, 1) := by decide +kernel
theorem dMd_since_68 : decode cMd_since 68 = .ok (.goto 9, 3) := by decide +kernel
theorem dMd_since_71 : decode cMd_since 71 = .ok (.aload_n 0, 1) := by decide +kernel
theorem dMd_since_72 : decode cMd_since 72 = .ok (.iload_n 1, 1) := by decide +kernel
theorem dMd_since_73 : decode cMd_since 73 = .ok (.iload_n 2, 1) := by decide +kernel
theorem dMd_since_74 : decode cMd_since 74 = .ok (.invokevirtual 67, 3) := by decide +kernel
theorem dMd_since_77 : decode cMd_since 77 = .ok (.ireturn, 1) := by decide +kernel
theorem dMd_same_0 : decode cMd_same 0 = .ok (.aload_n 0, 1) := by decide +kernel
theorem dMd_same_1 : decode cMd_same 1 = .ok (.iload_n 1, 1) := by decide +kernel
theorem dMd_same_2 : decode cMd_same 2 = .ok (.invokevirtual 71, 3) := by decide +kernel
theorem dMd_same_5 : decode cMd_same 5 = .ok (.ifCond .ne 11, 3) := by decide +kernel
theorem dMd_same_8 : decode cMd_same 8 = .ok (.aload_n 0, 1) := by decide +kernel
theorem dMd_same_9 : decode cMd_same 9 = .ok (.iload_n 2, 1) := by decide +kernel
theorem dMd_same_10 : decode cMd_same 10 = .ok (.invokevirtual 71, 3) := by decide +kernel
theorem dMd_same_13 : decode cMd_same 13 = .ok (.ifCond .eq 5, 3) := by decide +kernel
theorem dMd_same_16 : decode cMd_same 16 = .ok (.iconst 0, 1) := by decide +kernel
theorem dMd_same_17 : decode cMd_same 17 = .ok (.ireturn, 1) := by decide +kernel
theorem dMd_same_18 : decode cMd_same 18 = .ok (.aload_n 0, 1) := by decide +kernel
theorem dMd_same_19 : decode cMd_same 19 = .ok (.getfield 7, 3) := by decide +kernel
theorem dMd_same_22 : decode cMd_same 22 = .ok (.iload_n 1, 1) := by decide +kernel
theorem dMd_same_23 : decode cMd_same 23 = .ok (.iaload, 1) := by decide +kernel
theorem dMd_same_24 : decode cMd_same 24 = .ok (.aload_n 0, 1) := by decide +kernel
theorem dMd_same_25 : decode cMd_same 25 = .ok (.getfield 7, 3) := by decide +kernel
theorem dMd_same_28 : decode cMd_same 28 = .ok (.iload_n 2, 1) := by decide +kernel
theorem dMd_same_29 : decode cMd_same 29 = .ok (.iaload, 1) := by decide +kernel
theorem dMd_same_30 : decode cMd_same 30 = .ok (.if_icmp .ne 7, 3) := by decide +kernel
theorem dMd_same_33 : decode cMd_same 33 = .ok (.iconst 1, 1) := by decide +kernel
theorem dMd_same_34 : decode cMd_same 34 = .ok (.goto 4, 3) := by decide +kernel
theorem dMd_same_37 : decode cMd_same 37 = .ok (.iconst 0, 1) := by decide +kernel
theorem dMd_same_38 : decode cMd_same 38 = .ok (.istore_n 3, 1) := by decide +kernel
theorem dMd_same_39 : decode cMd_same 39 = .ok (.iconst 0, 1) := by decide +kernel
theorem dMd_same_40 : decode cMd_same 40 = .ok (.istore 4, 2) := by decide +kernel
theorem dMd_same_42 : decode cMd_same 42 = .ok (.iload 4, 2) := by decide +kernel
theorem dMd_same_44 : decode cMd_same 44 = .ok (.bipush 16, 2) := by decide +kernel
theorem dMd_same_46 : decode cMd_same 46 = .ok (.if_icmp .ge 126, 3) := by decide +kernel
theorem dMd_same_49 : decode cMd_same 49 = .ok (.iload_n 3, 1) := by decide +kernel
theorem dMd_same_50 : decode cMd_same 50 = .ok (.ifCond .eq 122, 3) := by decide +kernel
theorem dMd_same_53 : decode cMd_same 53 = .ok (.aload_n 0, 1) := by decide +kernel
theorem dMd_same_54 : decode cMd_same 54 = .ok (.getfield 25, 3) := by decide +kernel
theorem dMd_same_57 : decode cMd_same 57 = .ok (.bipush 16, 2) := by decide +kernel
theorem dMd_same_59 : decode cMd_same 59 = .ok (.iload_n 1, 1) := by decide +kernel
theorem dMd_same_60 : decode cMd_same 60 = .ok (.imul, 1) := by decide +kernel
theorem dMd_same_61 : decode cMd_same 61 = .ok (.iload 4, 2) := by decide +kernel
theorem dMd_same_63 : decode cMd_same 63 = .ok (.iadd, 1) := by decide +kernel
theorem dMd_same_64 : decode cMd_same 64 = .ok (.iaload, 1) := by decide +kernel
theorem dMd_same_65 : decode cMd_same 65 = .ok (.aload_n 0, 1) := by decide +kernel
theorem dMd_same_66 : decode cMd_same 66 = .ok (.getfield 25, 3) := by decide +kernel
theorem dMd_same_69 : decode cMd_same 69 = .ok (.bipush 16, 2) := by decide +kernel
theorem dMd_same_71 : decode cMd_same 71 = .ok (.iload_n 2, 1) := by decide +kernel
theorem dMd_same_72 : decode cMd_same 72 = .ok (.imul, 1) := by decide +kernel
theorem dMd_same_73 : decode cMd_same 73 = .ok (.iload 4, 2) := by decide +kernel
theorem dMd_same_75 : decode cMd_same 75 = .ok (.iadd, 1) := by decide +kernel
theorem dMd_same_76 : decode cMd_same 76 = .ok (.iaload, 1) := by decide +kernel
theorem dMd_same_77 : decode cMd_same 77 = .ok (.if_icmp .ne 87, 3) := by decide +kernel
theorem dMd_same_80 : decode cMd_same 80 = .ok (.aload_n 0, 1) := by decide +kernel
theorem dMd_same_81 : decode cMd_same 81 = .ok (.getfield 28, 3) := by decide +kernel
theorem dMd_same_84 : decode cMd_same 84 = .ok (.bipush 16, 2) := by decide +kernel
theorem dMd_same_86 : decode cMd_same 86 = .ok (.iload_n 1, 1) := by decide +kernel
theorem dMd_same_87 : decode cMd_same 87 = .ok (.imul, 1) := by decide +kernel
theorem dMd_same_88 : decode cMd_same 88 = .ok (.iload 4, 2) := by decide +kernel
theorem dMd_same_90 : decode cMd_same 90 = .ok (.iadd, 1) := by decide +kernel
theorem dMd_same_91 : decode cMd_same 91 = .ok (.iaload, 1) := by decide +kernel
theorem dMd_same_92 : decode cMd_same 92 = .ok (.aload_n 0, 1) := by decide +kernel
theorem dMd_same_93 : decode cMd_same 93 = .ok (.getfield 28, 3) := by decide +kernel
theorem dMd_same_96 : decode cMd_same 96 = .ok (.bipush 16, 2) := by decide +kernel
theorem dMd_same_98 : decode cMd_same 98 = .ok (.iload_n 2, 1) := by decide +kernel
theorem dMd_same_99 : decode cMd_same 99 = .ok (.imul, 1) := by decide +kernel
theorem dMd_same_100 : decode cMd_same 100 = .ok (.iload 4, 2) := by decide +kernel
theorem dMd_same_102 : decode cMd_same 102 = .ok (.iadd, 1) := by decide +kernel
theorem dMd_same_103 : decode cMd_same 103 = .ok (.iaload, 1) := by decide +kernel
theorem dMd_same_104 : decode cMd_same 104 = .ok (.if_icmp .ne 60, 3) := by decide +kernel
theorem dMd_same_107 : decode cMd_same 107 = .ok (.aload_n 0, 1) := by decide +kernel
theorem dMd_same_108 : decode cMd_same 108 = .ok (.getfield 34, 3) := by decide +kernel
theorem dMd_same_111 : decode cMd_same 111 = .ok (.bipush 16, 2) := by decide +kernel
theorem dMd_same_113 : decode cMd_same 113 = .ok (.bipush 64, 2) := by decide +kernel
theorem dMd_same_115 : decode cMd_same 115 = .ok (.iload_n 1, 1) := by decide +kernel
theorem dMd_same_116 : decode cMd_same 116 = .ok (.imul, 1) := by decide +kernel
theorem dMd_same_117 : decode cMd_same 117 = .ok (.aload_n 0, 1) := by decide +kernel
theorem dMd_same_118 : decode cMd_same 118 = .ok (.getfield 7, 3) := by decide +kernel
theorem dMd_same_121 : decode cMd_same 121 = .ok (.iload_n 1, 1) := by decide +kernel
theorem dMd_same_122 : decode cMd_same 122 = .ok (.iaload, 1) := by decide +kernel
theorem dMd_same_123 : decode cMd_same 123 = .ok (.bipush 64, 2) := by decide +kernel
theorem dMd_same_125 : decode cMd_same 125 = .ok (.irem, 1) := by decide +kernel
theorem dMd_same_126 : decode cMd_same 126 = .ok (.iadd, 1) := by decide +kernel
theorem dMd_same_127 : decode cMd_same 127 = .ok (.imul, 1) := by decide +kernel
theorem dMd_same_128 : decode cMd_same 128 = .ok (.iload 4, 2) := by decide +kernel
theorem dMd_same_130 : decode cMd_same 130 = .ok (.iadd, 1) := by decide +kernel
theorem dMd_same_131 : decode cMd_same 131 = .ok (.iaload, 1) := by decide +kernel
theorem dMd_same_132 : decode cMd_same 132 = .ok (.aload_n 0, 1) := by decide +kernel
theorem dMd_same_133 : decode cMd_same 133 = .ok (.getfield 34, 3) := by decide +kernel
theorem dMd_same_136 : decode cMd_same 136 = .ok (.bipush 16, 2) := by decide +kernel
theorem dMd_same_138 : decode cMd_same 138 = .ok (.bipush 64, 2) := by decide +kernel
theorem dMd_same_140 : decode cMd_same 140 = .ok (.iload_n 2, 1) := by decide +kernel
theorem dMd_same_141 : decode cMd_same 141 = .ok (.imul, 1) := by decide +kernel
theorem dMd_same_142 : decode cMd_same 142 = .ok (.aload_n 0, 1) := by decide +kernel
theorem dMd_same_143 : decode cMd_same 143 = .ok (.getfield 7, 3) := by decide +kernel
theorem dMd_same_146 : decode cMd_same 146 = .ok (.iload_n 2, 1) := by decide +kernel
theorem dMd_same_147 : decode cMd_same 147 = .ok (.iaload, 1) := by decide +kernel
theorem dMd_same_148 : decode cMd_same 148 = .ok (.bipush 64, 2) := by decide +kernel
theorem dMd_same_150 : decode cMd_same 150 = .ok (.irem, 1) := by decide +kernel
theorem dMd_same_151 : decode cMd_same 151 = .ok (.iadd, 1) := by decide +kernel
theorem dMd_same_152 : decode cMd_same 152 = .ok (.imul, 1) := by decide +kernel
theorem dMd_same_153 : decode cMd_same 153 = .ok (.iload 4, 2) := by decide +kernel
theorem dMd_same_155 : decode cMd_same 155 = .ok (.iadd, 1) := by decide +kernel
theorem dMd_same_156 : decode cMd_same 156 = .ok (.iaload, 1) := by decide +kernel
theorem dMd_same_157 : decode cMd_same 157 = .ok (.if_icmp .ne 7, 3) := by decide +kernel
theorem dMd_same_160 : decode cMd_same 160 = .ok (.iconst 1, 1) := by decide +kernel
theorem dMd_same_161 : decode cMd_same 161 = .ok (.goto 4, 3) := by decide +kernel
theorem dMd_same_164 : decode cMd_same 164 = .ok (.iconst 0, 1) := by decide +kernel
theorem dMd_same_165 : decode cMd_same 165 = .ok (.istore_n 3, 1) := by decide +kernel
theorem dMd_same_166 : decode cMd_same 166 = .ok (.iinc 4 1, 3) := by decide +kernel
theorem dMd_same_169 : decode cMd_same 169 = .ok (.goto (-127), 3) := by decide +kernel
theorem dMd_same_172 : decode cMd_same 172 = .ok (.aload_n 0, 1) := by decide +kernel
theorem dMd_same_173 : decode cMd_same 173 = .ok (.getfield 7, 3) := by decide +kernel
theorem dMd_same_176 : decode cMd_same 176 = .ok (.iload_n 1, 1) := by decide +kernel
theorem dMd_same_177 : decode cMd_same 177 = .ok (.iaload, 1) := by decide +kernel
theorem dMd_same_178 : decode cMd_same 178 = .ok (.istore 4, 2) := by decide +kernel
theorem dMd_same_180 : decode cMd_same 180 = .ok (.iload 4, 2) := by decide +kernel
theorem dMd_same_182 : decode cMd_same 182 = .ok (.aload_n 0, 1) := by decide +kernel
theorem dMd_same_183 : decode cMd_same 183 = .ok (.getfield 7, 3) := by decide +kernel
theorem dMd_same_186 : decode cMd_same 186 = .ok (.iload_n 1, 1) := by decide +kernel
theorem dMd_same_187 : decode cMd_same 187 = .ok (.iaload, 1) := by decide +kernel
theorem dMd_same_188 : decode cMd_same 188 = .ok (.aload_n 0, 1) := by decide +kernel
theorem dMd_same_189 : decode cMd_same 189 = .ok (.getfield 44, 3) := by decide +kernel
theorem dMd_same_192 : decode cMd_same 192 = .ok (.isub, 1) := by decide +kernel
theorem dMd_same_193 : decode cMd_same 193 = .ok (.if_icmp .lt 36, 3) := by decide +kernel
theorem dMd_same_196 : decode cMd_same 196 = .ok (.iload_n 3, 1) := by decide +kernel
theorem dMd_same_197 : decode cMd_same 197 = .ok (.ifCond .eq 32, 3) := by decide +kernel
theorem dMd_same_200 : decode cMd_same 200 = .ok (.aload_n 0, 1) := by decide +kernel
theorem dMd_same_201 : decode cMd_same 201 = .ok (.iload_n 1, 1) := by decide +kernel
theorem dMd_same_202 : decode cMd_same 202 = .ok (.iload 4, 2) := by decide +kernel
theorem dMd_same_204 : decode cMd_same 204 = .ok (.invokevirtual 67, 3) := by decide +kernel
theorem dMd_same_207 : decode cMd_same 207 = .ok (.aload_n 0, 1) := by decide +kernel
theorem dMd_same_208 : decode cMd_same 208 = .ok (.iload_n 2, 1) := by decide +kernel
theorem dMd_same_209 : decode cMd_same 209 = .ok (.iload 4, 2) := by decide +kernel
theorem dMd_same_211 : decode cMd_same 211 = .ok (.invokevirtual 67, 3) := by decide +kernel
theorem dMd_same_214 : decode cMd_same 214 = .ok (.if_icmp .ne 7, 3) := by decide +kernel
theorem dMd_same_217 : decode cMd_same 217 = .ok (.iconst 1, 1) := by decide +kernel
theorem dMd_same_218 : decode cMd_same 218 = .ok (.goto 4, 3) := by decide +kernel
theorem dMd_same_221 : decode cMd_same 221 = .ok (.iconst 0, 1) := by decide +kernel
theorem dMd_same_222 : decode cMd_same 222 = .ok (.istore_n 3, 1) := by decide +kernel
theorem dMd_same_223 : decode cMd_same 223 = .ok (.iinc 4 (-1), 3) := by decide +kernel
theorem dMd_same_226 : decode cMd_same 226 = .ok (.goto (-46), 3) := by decide +kernel
theorem dMd_same_229 : decode cMd_same 229 = .ok (.iload_n 3, 1) := by decide +kernel
theorem dMd_same_230 : decode cMd_same 230 = .ok (.ireturn, 1) := by decide +kernel
theorem dMd_look_0 : decode cMd_look 0 = .ok (.aload_n 0, 1) := by decide +kernel
theorem dMd_look_1 : decode cMd_look 1 = .ok (.iload_n 1, 1) := by decide +kernel
theorem dMd_look_2 : decode cMd_look 2 = .ok (.invokevirtual 71, 3) := by decide +kernel
theorem dMd_look_5 : decode cMd_look 5 = .ok (.ifCond .eq 5, 3) := by decide +kernel
theorem dMd_look_8 : decode cMd_look 8 = .ok (.iconst 0, 1) := by decide +kernel
theorem dMd_look_9 : decode cMd_look 9 = .ok (.ireturn, 1) := by decide +kernel
theorem dMd_look_10 : decode cMd_look 10 = .ok (.iconst 0, 1) := by decide +kernel
theorem dMd_look_11 : decode cMd_look 11 = .ok (.istore_n 3, 1) := by decide +kernel
theorem dMd_look_12 : decode cMd_look 12 = .ok (.iconst 0, 1) := by decide +kernel
theorem dMd_look_13 : decode cMd_look 13 = .ok (.istore 4, 2) := by decide +kernel
theorem dMd_look_15 : decode cMd_look 15 = .ok (.iload 4, 2) := by decide +kernel
theorem dMd_look_17 : decode cMd_look 17 = .ok (.bipush 16, 2) := by decide +kernel
theorem dMd_look_19 : decode cMd_look 19 = .ok (.if_icmp .ge 37, 3) := by decide +kernel
theorem dMd_look_22 : decode cMd_look 22 = .ok (.iload_n 3, 1) := by decide +kernel
theorem dMd_look_23 : decode cMd_look 23 = .ok (.aload_n 0, 1) := by decide +kernel
theorem dMd_look_24 : decode cMd_look 24 = .ok (.getfield 34, 3) := by decide +kernel
theorem dMd_look_27 : decode cMd_look 27 = .ok (.bipush 16, 2) := by decide +kernel
theorem dMd_look_29 : decode cMd_look 29 = .ok (.bipush 64, 2) := by decide +kernel
theorem dMd_look_31 : decode cMd_look 31 = .ok (.iload_n 1, 1) := by decide +kernel
theorem dMd_look_32 : decode cMd_look 32 = .ok (.imul, 1) := by decide +kernel
theorem dMd_look_33 : decode cMd_look 33 = .ok (.aload_n 0, 1) := by decide +kernel
theorem dMd_look_34 : decode cMd_look 34 = .ok (.getfield 7, 3) := by decide +kernel
theorem dMd_look_37 : decode cMd_look 37 = .ok (.iload_n 1, 1) := by decide +kernel
theorem dMd_look_38 : decode cMd_look 38 = .ok (.iaload, 1) := by decide +kernel
theorem dMd_look_39 : decode cMd_look 39 = .ok (.bipush 64, 2) := by decide +kernel
theorem dMd_look_41 : decode cMd_look 41 = .ok (.irem, 1) := by decide +kernel
theorem dMd_look_42 : decode cMd_look 42 = .ok (.iadd, 1) := by decide +kernel
theorem dMd_look_43 : decode cMd_look 43 = .ok (.imul, 1) := by decide +kernel
theorem dMd_look_44 : decode cMd_look 44 = .ok (.iload 4, 2) := by decide +kernel
theorem dMd_look_46 : decode cMd_look 46 = .ok (.iadd, 1) := by decide +kernel
theorem dMd_look_47 : decode cMd_look 47 = .ok (.iaload, 1) := by decide +kernel
theorem dMd_look_48 : decode cMd_look 48 = .ok (.iadd, 1) := by decide +kernel
theorem dMd_look_49 : decode cMd_look 49 = .ok (.istore_n 3, 1) := by decide +kernel
theorem dMd_look_50 : decode cMd_look 50 = .ok (.iinc 4 1, 3) := by decide +kernel
theorem dMd_look_53 : decode cMd_look 53 = .ok (.goto (-38), 3) := by decide +kernel
theorem dMd_look_56 : decode cMd_look 56 = .ok (.iload_n 2, 1) := by decide +kernel
theorem dMd_look_57 : decode cMd_look 57 = .ok (.tableswitch 94 0 7 #[47, 54, 61, 68, 75, 82, 84, 89], 47) := by decide +kernel
theorem dMd_look_104 : decode cMd_look 104 = .ok (.aload_n 0, 1) := by decide +kernel
theorem dMd_look_105 : decode cMd_look 105 = .ok (.getfield 7, 3) := by decide +kernel
theorem dMd_look_108 : decode cMd_look 108 = .ok (.iload_n 1, 1) := by decide +kernel
theorem dMd_look_109 : decode cMd_look 109 = .ok (.iaload, 1) := by decide +kernel
theorem dMd_look_110 : decode cMd_look 110 = .ok (.ireturn, 1) := by decide +kernel
theorem dMd_look_111 : decode cMd_look 111 = .ok (.aload_n 0, 1) := by decide +kernel
theorem dMd_look_112 : decode cMd_look 112 = .ok (.getfield 13, 3) := by decide +kernel
theorem dMd_look_115 : decode cMd_look 115 = .ok (.iload_n 1, 1) := by decide +kernel
theorem dMd_look_116 : decode cMd_look 116 = .ok (.iaload, 1) := by decide +kernel
theorem dMd_look_117 : decode cMd_look 117 = .ok (.ireturn, 1) := by decide +kernel
theorem dMd_look_118 : decode cMd_look 118 = .ok (.aload_n 0, 1) := by decide +kernel
theorem dMd_look_119 : decode cMd_look 119 = .ok (.getfield 16, 3) := by decide +kernel
theorem dMd_look_122 : decode cMd_look 122 = .ok (.iload_n 1, 1) := by decide +kernel
theorem dMd_look_123 : decode cMd_look 123 = .ok (.iaload, 1) := by decide +kernel
theorem dMd_look_124 : decode cMd_look 124 = .ok (.ireturn, 1) := by decide +kernel
theorem dMd_look_125 : decode cMd_look 125 = .ok (.aload_n 0, 1) := by decide +kernel
theorem dMd_look_126 : decode cMd_look 126 = .ok (.getfield 19, 3) := by decide +kernel
theorem dMd_look_129 : decode cMd_look 129 = .ok (.iload_n 1, 1) := by decide +kernel
theorem dMd_look_130 : decode cMd_look 130 = .ok (.iaload, 1) := by decide +kernel
theorem dMd_look_131 : decode cMd_look 131 = .ok (.ireturn, 1) := by decide +kernel
theorem dMd_look_132 : decode cMd_look 132 = .ok (.aload_n 0, 1) := by decide +kernel
theorem dMd_look_133 : decode cMd_look 133 = .ok (.getfield 22, 3) := by decide +kernel
theorem dMd_look_136 : decode cMd_look 136 = .ok (.iload_n 1, 1) := by decide +kernel
theorem dMd_look_137 : decode cMd_look 137 = .ok (.iaload, 1) := by decide +kernel
theorem dMd_look_138 : decode cMd_look 138 = .ok (.ireturn, 1) := by decide +kernel
theorem dMd_look_139 : decode cMd_look 139 = .ok (.iload_n 3, 1) := by decide +kernel
theorem dMd_look_140 : decode cMd_look 140 = .ok (.ireturn, 1) := by decide +kernel
theorem dMd_look_141 : decode cMd_look 141 = .ok (.aload_n 0, 1) := by decide +kernel
theorem dMd_look_142 : decode cMd_look 142 = .ok (.getfield 60, 3) := by decide +kernel
theorem dMd_look_145 : decode cMd_look 145 = .ok (.ireturn, 1) := by decide +kernel
theorem dMd_look_146 : decode cMd_look 146 = .ok (.aload_n 0, 1) := by decide +kernel
theorem dMd_look_147 : decode cMd_look 147 = .ok (.getfield 63, 3) := by decide +kernel
theorem dMd_look_150 : decode cMd_look 150 = .ok (.ireturn, 1) := by decide +kernel
theorem dMd_look_151 : decode cMd_look 151 = .ok (.iconst (-1), 1) := by decide +kernel
theorem dMd_look_152 : decode cMd_look 152 = .ok (.ireturn, 1) := by decide +kernel
end
section
theorem dLw_cell_0 : decode cLw_cell 0 = .ok (.iload_n 1, 1) := by decide +kernel
theorem dLw_cell_1 : decode cLw_cell 1 = .ok (.aload_n 0, 1) := by decide +kernel
theorem dLw_cell_2 : decode cLw_cell 2 = .ok (.arraylength, 1) := by decide +kernel
theorem dLw_cell_3 : decode cLw_cell 3 = .ok (.if_icmp .ge 9, 3) := by decide +kernel
theorem dLw_cell_6 : decode cLw_cell 6 = .ok (.aload_n 0, 1) := by decide +kernel
theorem dLw_cell_7 : decode cLw_cell 7 = .ok (.iload_n 1, 1) := by decide +kernel
theorem dLw_cell_8 : decode cLw_cell 8 = .ok (.iaload, 1) := by decide +kernel
theorem dLw_cell_9 : decode cLw_cell 9 = .ok (.goto 4, 3) := by decide +kernel
theorem dLw_cell_12 : decode cLw_cell 12 = .ok (.iconst 0, 1) := by decide +kernel
theorem dLw_cell_13 : decode cLw_cell 13 = .ok (.ireturn, 1) := by decide +kernel
theorem dLw_apply_0 : decode cLw_apply 0 = .ok (.aload_n 2, 1) := by decide +kernel
theorem dLw_apply_1 : decode cLw_apply 1 = .ok (.iconst 0, 1) := by decide +kernel
theorem dLw_apply_2 : decode cLw_apply 2 = .ok (.aload_n 0, 1) := by decide +kernel
theorem dLw_apply_3 : decode cLw_apply 3 = .ok (.iload_n 1, 1) := by decide +kernel
theorem dLw_apply_4 : decode cLw_apply 4 = .ok (.invokevirtual 7, 3) := by decide +kernel
theorem dLw_apply_7 : decode cLw_apply 7 = .ok (.i2l, 1) := by decide +kernel
theorem dLw_apply_8 : decode cLw_apply 8 = .ok (.lastore, 1) := by decide +kernel
theorem dLw_apply_9 : decode cLw_apply 9 = .ok (.goto 6, 3) := by decide +kernel
theorem dLw_apply_12 : decode cLw_apply 12 = .ok (.astore_n 3, 1) := by decide +kernel
theorem dLw_apply_13 : decode cLw_apply 13 = .ok (.iconst 1, 1) := by decide +kernel
theorem dLw_apply_14 : decode cLw_apply 14 = .ok (.ireturn, 1) := by decide +kernel
theorem dLw_apply_15 : decode cLw_apply 15 = .ok (.iconst 0, 1) := by decide +kernel
theorem dLw_apply_16 : decode cLw_apply 16 = .ok (.ireturn, 1) := by decide +kernel
theorem dLw_test_0 : decode cLw_test 0 = .ok (.aload_n 2, 1) := by decide +kernel
theorem dLw_test_1 : decode cLw_test 1 = .ok (.iconst 0, 1) := by decide +kernel
theorem dLw_test_2 : decode cLw_test 2 = .ok (.aload_n 0, 1) := by decide +kernel
theorem dLw_test_3 : decode cLw_test 3 = .ok (.iload_n 1, 1) := by decide +kernel
theorem dLw_test_4 : decode cLw_test 4 = .ok (.invokevirtual 15, 3) := by decide +kernel
theorem dLw_test_7 : decode cLw_test 7 = .ok (.i2l, 1) := by decide +kernel
theorem dLw_test_8 : decode cLw_test 8 = .ok (.lastore, 1) := by decide +kernel
theorem dLw_test_9 : decode cLw_test 9 = .ok (.goto 6, 3) := by decide +kernel
theorem dLw_test_12 : decode cLw_test 12 = .ok (.astore_n 3, 1) := by decide +kernel
theorem dLw_test_13 : decode cLw_test 13 = .ok (.iconst 1, 1) := by decide +kernel
theorem dLw_test_14 : decode cLw_test 14 = .ok (.ireturn, 1) := by decide +kernel
theorem dLw_test_15 : decode cLw_test 15 = .ok (.iconst 0, 1) := by decide +kernel
theorem dLw_test_16 : decode cLw_test 16 = .ok (.ireturn, 1) := by decide +kernel
theorem dLw_take_0 : decode cLw_take 0 = .ok (.aload_n 3, 1) := by decide +kernel
theorem dLw_take_1 : decode cLw_take 1 = .ok (.iconst 0, 1) := by decide +kernel
theorem dLw_take_2 : decode cLw_take 2 = .ok (.aload_n 0, 1) := by decide +kernel
theorem dLw_take_3 : decode cLw_take 3 = .ok (.iload_n 1, 1) := by decide +kernel
theorem dLw_take_4 : decode cLw_take 4 = .ok (.iload_n 2, 1) := by decide +kernel
theorem dLw_take_5 : decode cLw_take 5 = .ok (.invokevirtual 18, 3) := by decide +kernel
theorem dLw_take_8 : decode cLw_take 8 = .ok (.ifCond .eq 7, 3) := by decide +kernel
theorem dLw_take_11 : decode cLw_take 11 = .ok (.lconst 1, 1) := by decide +kernel
theorem dLw_take_12 : decode cLw_take 12 = .ok (.goto 4, 3) := by decide +kernel
theorem dLw_take_15 : decode cLw_take 15 = .ok (.lconst 0, 1) := by decide +kernel
theorem dLw_take_16 : decode cLw_take 16 = .ok (.lastore, 1) := by decide +kernel
theorem dLw_take_17 : decode cLw_take 17 = .ok (.goto 7, 3) := by decide +kernel
theorem dLw_take_20 : decode cLw_take 20 = .ok (.astore 4, 2) := by decide +kernel
theorem dLw_take_22 : decode cLw_take 22 = .ok (.iconst 1, 1) := by decide +kernel
theorem dLw_take_23 : decode cLw_take 23 = .ok (.ireturn, 1) := by decide +kernel
theorem dLw_take_24 : decode cLw_take 24 = .ok (.iconst 0, 1) := by decide +kernel
theorem dLw_take_25 : decode cLw_take 25 = .ok (.ireturn, 1) := by decide +kernel
theorem dLw_clear_0 : decode cLw_clear 0 = .ok (.aload_n 0, 1) := by decide +kernel
theorem dLw_clear_1 : decode cLw_clear 1 = .ok (.iload_n 1, 1) := by decide +kernel
theorem dLw_clear_2 : decode cLw_clear 2 = .ok (.invokevirtual 22, 3) := by decide +kernel
theorem dLw_clear_5 : decode cLw_clear 5 = .ok (.goto 6, 3) := by decide +kernel
theorem dLw_clear_8 : decode cLw_clear 8 = .ok (.astore_n 2, 1) := by decide +kernel
theorem dLw_clear_9 : decode cLw_clear 9 = .ok (.iconst 1, 1) := by decide +kernel
theorem dLw_clear_10 : decode cLw_clear 10 = .ok (.ireturn, 1) := by decide +kernel
theorem dLw_clear_11 : decode cLw_clear 11 = .ok (.iconst 0, 1) := by decide +kernel
theorem dLw_clear_12 : decode cLw_clear 12 = .ok (.ireturn, 1) := by decide +kernel
theorem dLw_value_0 : decode cLw_value 0 = .ok (.aload 4, 2) := by decide +kernel
theorem dLw_value_2 : decode cLw_value 2 = .ok (.iconst 0, 1) := by decide +kernel
theorem dLw_value_3 : decode cLw_value 3 = .ok (.aload_n 0, 1) := by decide +kernel
theorem dLw_value_4 : decode cLw_value 4 = .ok (.iload_n 1, 1) := by decide +kernel
theorem dLw_value_5 : decode cLw_value 5 = .ok (.iload_n 2, 1) := by decide +kernel
theorem dLw_value_6 : decode cLw_value 6 = .ok (.iload_n 3, 1) := by decide +kernel
theorem dLw_value_7 : decode cLw_value 7 = .ok (.invokevirtual 26, 3) := by decide +kernel
theorem dLw_value_10 : decode cLw_value 10 = .ok (.i2l, 1) := by decide +kernel
theorem dLw_value_11 : decode cLw_value 11 = .ok (.lastore, 1) := by decide +kernel
theorem dLw_value_12 : decode cLw_value 12 = .ok (.goto 11, 3) := by decide +kernel
theorem dLw_value_15 : decode cLw_value 15 = .ok (.astore 5, 2) := by decide +kernel
theorem dLw_value_17 : decode cLw_value 17 = .ok (.iconst 1, 1) := by decide +kernel
theorem dLw_value_18 : decode cLw_value 18 = .ok (.ireturn, 1) := by decide +kernel
theorem dLw_value_19 : decode cLw_value 19 = .ok (.astore 5, 2) := by decide +kernel
theorem dLw_value_21 : decode cLw_value 21 = .ok (.iconst 2, 1) := by decide +kernel
theorem dLw_value_22 : decode cLw_value 22 = .ok (.ireturn, 1) := by decide +kernel
theorem dLw_value_23 : decode cLw_value 23 = .ok (.iconst 0, 1) := by decide +kernel
theorem dLw_value_24 : decode cLw_value 24 = .ok (.ireturn, 1) := by decide +kernel
theorem dLw_seq_0 : decode cLw_seq 0 = .ok (.aload_n 3, 1) := by decide +kernel
theorem dLw_seq_1 : decode cLw_seq 1 = .ok (.iconst 0, 1) := by decide +kernel
theorem dLw_seq_2 : decode cLw_seq 2 = .ok (.aload_n 0, 1) := by decide +kernel
theorem dLw_seq_3 : decode cLw_seq 3 = .ok (.iload_n 1, 1) := by decide +kernel
theorem dLw_seq_4 : decode cLw_seq 4 = .ok (.iload_n 2, 1) := by decide +kernel
theorem dLw_seq_5 : decode cLw_seq 5 = .ok (.invokevirtual 32, 3) := by decide +kernel
theorem dLw_seq_8 : decode cLw_seq 8 = .ok (.i2l, 1) := by decide +kernel
theorem dLw_seq_9 : decode cLw_seq 9 = .ok (.lastore, 1) := by decide +kernel
theorem dLw_seq_10 : decode cLw_seq 10 = .ok (.goto 11, 3) := by decide +kernel
theorem dLw_seq_13 : decode cLw_seq 13 = .ok (.astore 4, 2) := by decide +kernel
theorem dLw_seq_15 : decode cLw_seq 15 = .ok (.iconst 1, 1) := by decide +kernel
theorem dLw_seq_16 : decode cLw_seq 16 = .ok (.ireturn, 1) := by decide +kernel
theorem dLw_seq_17 : decode cLw_seq 17 = .ok (.astore 4, 2) := by decide +kernel
theorem dLw_seq_19 : decode cLw_seq 19 = .ok (.iconst 2, 1) := by decide +kernel
theorem dLw_seq_20 : decode cLw_seq 20 = .ok (.ireturn, 1) := by decide +kernel
theorem dLw_seq_21 : decode cLw_seq 21 = .ok (.iconst 0, 1) := by decide +kernel
theorem dLw_seq_22 : decode cLw_seq 22 = .ok (.ireturn, 1) := by decide +kernel
theorem dLw_verdict_0 : decode cLw_verdict 0 = .ok (.aload_n 3, 1) := by decide +kernel
theorem dLw_verdict_1 : decode cLw_verdict 1 = .ok (.iconst 0, 1) := by decide +kernel
theorem dLw_verdict_2 : decode cLw_verdict 2 = .ok (.aload_n 0, 1) := by decide +kernel
theorem dLw_verdict_3 : decode cLw_verdict 3 = .ok (.iload_n 1, 1) := by decide +kernel
theorem dLw_verdict_4 : decode cLw_verdict 4 = .ok (.iload_n 2, 1) := by decide +kernel
theorem dLw_verdict_5 : decode cLw_verdict 5 = .ok (.invokevirtual 36, 3) := by decide +kernel
theorem dLw_verdict_8 : decode cLw_verdict 8 = .ok (.i2l, 1) := by decide +kernel
theorem dLw_verdict_9 : decode cLw_verdict 9 = .ok (.lastore, 1) := by decide +kernel
theorem dLw_verdict_10 : decode cLw_verdict 10 = .ok (.goto 11, 3) := by decide +kernel
theorem dLw_verdict_13 : decode cLw_verdict 13 = .ok (.astore 4, 2) := by decide +kernel
theorem dLw_verdict_15 : decode cLw_verdict 15 = .ok (.iconst 1, 1) := by decide +kernel
theorem dLw_verdict_16 : decode cLw_verdict 16 = .ok (.ireturn, 1) := by decide +kernel
theorem dLw_verdict_17 : decode cLw_verdict 17 = .ok (.astore 4, 2) := by decide +kernel
theorem dLw_verdict_19 : decode cLw_verdict 19 = .ok (.iconst 2, 1) := by decide +kernel
theorem dLw_verdict_20 : decode cLw_verdict 20 = .ok (.ireturn, 1) := by decide +kernel
theorem dLw_verdict_21 : decode cLw_verdict 21 = .ok (.iconst 0, 1) := by decide +kernel
theorem dLw_verdict_22 : decode cLw_verdict 22 = .ok (.ireturn, 1) := by decide +kernel
theorem dLw_written_0 : decode cLw_written 0 = .ok (.aload_n 3, 1) := by decide +kernel
theorem dLw_written_1 : decode cLw_written 1 = .ok (.iconst 0, 1) := by decide +kernel
theorem dLw_written_2 : decode cLw_written 2 = .ok (.aload_n 0, 1) := by decide +kernel
theorem dLw_written_3 : decode cLw_written 3 = .ok (.iload_n 1, 1) := by decide +kernel
theorem dLw_written_4 : decode cLw_written 4 = .ok (.iload_n 2, 1) := by decide +kernel
theorem dLw_written_5 : decode cLw_written 5 = .ok (.invokevirtual 39, 3) := by decide +kernel
theorem dLw_written_8 : decode cLw_written 8 = .ok (.i2l, 1) := by decide +kernel
theorem dLw_written_9 : decode cLw_written 9 = .ok (.lastore, 1) := by decide +kernel
theorem dLw_written_10 : decode cLw_written 10 = .ok (.goto 11, 3) := by decide +kernel
theorem dLw_written_13 : decode cLw_written 13 = .ok (.astore 4, 2) := by decide +kernel
theorem dLw_written_15 : decode cLw_written 15 = .ok (.iconst 1, 1) := by decide +kernel
theorem dLw_written_16 : decode cLw_written 16 = .ok (.ireturn, 1) := by decide +kernel
theorem dLw_written_17 : decode cLw_written 17 = .ok (.astore 4, 2) := by decide +kernel
theorem dLw_written_19 : decode cLw_written 19 = .ok (.iconst 2, 1) := by decide +kernel
theorem dLw_written_20 : decode cLw_written 20 = .ok (.ireturn, 1) := by decide +kernel
theorem dLw_written_21 : decode cLw_written 21 = .ok (.iconst 0, 1) := by decide +kernel
theorem dLw_written_22 : decode cLw_written 22 = .ok (.ireturn, 1) := by decide +kernel
theorem dLw_since_0 : decode cLw_since 0 = .ok (.aload_n 3, 1) := by decide +kernel
theorem dLw_since_1 : decode cLw_since 1 = .ok (.iconst 0, 1) := by decide +kernel
theorem dLw_since_2 : decode cLw_since 2 = .ok (.aload_n 0, 1) := by decide +kernel
theorem dLw_since_3 : decode cLw_since 3 = .ok (.iload_n 1, 1) := by decide +kernel
theorem dLw_since_4 : decode cLw_since 4 = .ok (.iload_n 2, 1) := by decide +kernel
theorem dLw_since_5 : decode cLw_since 5 = .ok (.invokevirtual 42, 3) := by decide +kernel
theorem dLw_since_8 : decode cLw_since 8 = .ok (.i2l, 1) := by decide +kernel
theorem dLw_since_9 : decode cLw_since 9 = .ok (.lastore, 1) := by decide +kernel
theorem dLw_since_10 : decode cLw_since 10 = .ok (.goto 11, 3) := by decide +kernel
theorem dLw_since_13 : decode cLw_since 13 = .ok (.astore 4, 2) := by decide +kernel
theorem dLw_since_15 : decode cLw_since 15 = .ok (.iconst 1, 1) := by decide +kernel
theorem dLw_since_16 : decode cLw_since 16 = .ok (.ireturn, 1) := by decide +kernel
theorem dLw_since_17 : decode cLw_since 17 = .ok (.astore 4, 2) := by decide +kernel
theorem dLw_since_19 : decode cLw_since 19 = .ok (.iconst 2, 1) := by decide +kernel
theorem dLw_since_20 : decode cLw_since 20 = .ok (.ireturn, 1) := by decide +kernel
theorem dLw_since_21 : decode cLw_since 21 = .ok (.iconst 0, 1) := by decide +kernel
theorem dLw_since_22 : decode cLw_since 22 = .ok (.ireturn, 1) := by decide +kernel
theorem dLw_same_0 : decode cLw_same 0 = .ok (.aload_n 3, 1) := by decide +kernel
theorem dLw_same_1 : decode cLw_same 1 = .ok (.iconst 0, 1) := by decide +kernel
theorem dLw_same_2 : decode cLw_same 2 = .ok (.aload_n 0, 1) := by decide +kernel
theorem dLw_same_3 : decode cLw_same 3 = .ok (.iload_n 1, 1) := by decide +kernel
theorem dLw_same_4 : decode cLw_same 4 = .ok (.iload_n 2, 1) := by decide +kernel
theorem dLw_same_5 : decode cLw_same 5 = .ok (.invokevirtual 45, 3) := by decide +kernel
theorem dLw_same_8 : decode cLw_same 8 = .ok (.ifCond .eq 7, 3) := by decide +kernel
theorem dLw_same_11 : decode cLw_same 11 = .ok (.lconst 1, 1) := by decide +kernel
theorem dLw_same_12 : decode cLw_same 12 = .ok (.goto 4, 3) := by decide +kernel
theorem dLw_same_15 : decode cLw_same 15 = .ok (.lconst 0, 1) := by decide +kernel
theorem dLw_same_16 : decode cLw_same 16 = .ok (.lastore, 1) := by decide +kernel
theorem dLw_same_17 : decode cLw_same 17 = .ok (.goto 7, 3) := by decide +kernel
theorem dLw_same_20 : decode cLw_same 20 = .ok (.astore 4, 2) := by decide +kernel
theorem dLw_same_22 : decode cLw_same 22 = .ok (.iconst 1, 1) := by decide +kernel
theorem dLw_same_23 : decode cLw_same 23 = .ok (.ireturn, 1) := by decide +kernel
theorem dLw_same_24 : decode cLw_same 24 = .ok (.iconst 0, 1) := by decide +kernel
theorem dLw_same_25 : decode cLw_same 25 = .ok (.ireturn, 1) := by decide +kernel
theorem dLw_look_0 : decode cLw_look 0 = .ok (.aload_n 3, 1) := by decide +kernel
theorem dLw_look_1 : decode cLw_look 1 = .ok (.iconst 0, 1) := by decide +kernel
theorem dLw_look_2 : decode cLw_look 2 = .ok (.aload_n 0, 1) := by decide +kernel
theorem dLw_look_3 : decode cLw_look 3 = .ok (.iload_n 1, 1) := by decide +kernel
theorem dLw_look_4 : decode cLw_look 4 = .ok (.iload_n 2, 1) := by decide +kernel
theorem dLw_look_5 : decode cLw_look 5 = .ok (.invokevirtual 48, 3) := by decide +kernel
theorem dLw_look_8 : decode cLw_look 8 = .ok (.i2l, 1) := by decide +kernel
theorem dLw_look_9 : decode cLw_look 9 = .ok (.lastore, 1) := by decide +kernel
theorem dLw_look_10 : decode cLw_look 10 = .ok (.goto 7, 3) := by decide +kernel
theorem dLw_look_13 : decode cLw_look 13 = .ok (.astore 4, 2) := by decide +kernel
theorem dLw_look_15 : decode cLw_look 15 = .ok (.iconst 1, 1) := by decide +kernel
theorem dLw_look_16 : decode cLw_look 16 = .ok (.ireturn, 1) := by decide +kernel
theorem dLw_look_17 : decode cLw_look 17 = .ok (.iconst 0, 1) := by decide +kernel
theorem dLw_look_18 : decode cLw_look 18 = .ok (.ireturn, 1) := by decide +kernel
theorem dLw_law_0 : decode cLw_law 0 = .ok (.new 8, 3) := by decide +kernel
theorem dLw_law_3 : decode cLw_law 3 = .ok (.dup, 1) := by decide +kernel
theorem dLw_law_4 : decode cLw_law 4 = .ok (.aload_n 0, 1) := by decide +kernel
theorem dLw_law_5 : decode cLw_law 5 = .ok (.iconst 0, 1) := by decide +kernel
theorem dLw_law_6 : decode cLw_law 6 = .ok (.invokestatic 51, 3) := by decide +kernel
theorem dLw_law_9 : decode cLw_law 9 = .ok (.invokespecial 57, 3) := by decide +kernel
theorem dLw_law_12 : decode cLw_law 12 = .ok (.astore_n 1, 1) := by decide +kernel
theorem dLw_law_13 : decode cLw_law 13 = .ok (.new 59, 3) := by decide +kernel
theorem dLw_law_16 : decode cLw_law 16 = .ok (.dup, 1) := by decide +kernel
theorem dLw_law_17 : decode cLw_law 17 = .ok (.aload_n 0, 1) := by decide +kernel
theorem dLw_law_18 : decode cLw_law 18 = .ok (.iconst 0, 1) := by decide +kernel
theorem dLw_law_19 : decode cLw_law 19 = .ok (.invokestatic 51, 3) := by decide +kernel
theorem dLw_law_22 : decode cLw_law 22 = .ok (.invokespecial 61, 3) := by decide +kernel
theorem dLw_law_25 : decode cLw_law 25 = .ok (.astore_n 2, 1) := by decide +kernel
theorem dLw_law_26 : decode cLw_law 26 = .ok (.iconst 1, 1) := by decide +kernel
theorem dLw_law_27 : decode cLw_law 27 = .ok (.newarray .long, 2) := by decide +kernel
theorem dLw_law_29 : decode cLw_law 29 = .ok (.astore_n 3, 1) := by decide +kernel
theorem dLw_law_30 : decode cLw_law 30 = .ok (.iconst 1, 1) := by decide +kernel
theorem dLw_law_31 : decode cLw_law 31 = .ok (.istore 4, 2) := by decide +kernel
theorem dLw_law_33 : decode cLw_law 33 = .ok (.iload 4, 2) := by decide +kernel
theorem dLw_law_35 : decode cLw_law 35 = .ok (.aload_n 0, 1) := by decide +kernel
theorem dLw_law_36 : decode cLw_law 36 = .ok (.arraylength, 1) := by decide +kernel
theorem dLw_law_37 : decode cLw_law 37 = .ok (.iconst 4, 1) := by decide +kernel
theorem dLw_law_38 : decode cLw_law 38 = .ok (.isub, 1) := by decide +kernel
theorem dLw_law_39 : decode cLw_law 39 = .ok (.if_icmp .gt 916, 3) := by decide +kernel
theorem dLw_law_42 : decode cLw_law 42 = .ok (.aload_n 0, 1) := by decide +kernel
theorem dLw_law_43 : decode cLw_law 43 = .ok (.iload 4, 2) := by decide +kernel
theorem dLw_law_45 : decode cLw_law 45 = .ok (.iaload, 1) := by decide +kernel
theorem dLw_law_46 : decode cLw_law 46 = .ok (.bipush 15, 2) := by decide +kernel
theorem dLw_law_48 : decode cLw_law 48 = .ok (.iand, 1) := by decide +kernel
theorem dLw_law_49 : decode cLw_law 49 = .ok (.tableswitch 900 0 13 #[71, 120, 145, 182, 238, 294, 369, 405, 485, 553, 621, 689, 757, 832], 71) := by decide +kernel
theorem dLw_law_120 : decode cLw_law 120 = .ok (.aload_n 1, 1) := by decide +kernel
theorem dLw_law_121 : decode cLw_law 121 = .ok (.aload_n 0, 1) := by decide +kernel
theorem dLw_law_122 : decode cLw_law 122 = .ok (.iload 4, 2) := by decide +kernel
theorem dLw_law_124 : decode cLw_law 124 = .ok (.iconst 1, 1) := by decide +kernel
theorem dLw_law_125 : decode cLw_law 125 = .ok (.iadd, 1) := by decide +kernel
theorem dLw_law_126 : decode cLw_law 126 = .ok (.iaload, 1) := by decide +kernel
theorem dLw_law_127 : decode cLw_law 127 = .ok (.aload_n 0, 1) := by decide +kernel
theorem dLw_law_128 : decode cLw_law 128 = .ok (.iload 4, 2) := by decide +kernel
theorem dLw_law_130 : decode cLw_law 130 = .ok (.iconst 2, 1) := by decide +kernel
theorem dLw_law_131 : decode cLw_law 131 = .ok (.iadd, 1) := by decide +kernel
theorem dLw_law_132 : decode cLw_law 132 = .ok (.iaload, 1) := by decide +kernel
theorem dLw_law_133 : decode cLw_law 133 = .ok (.aload_n 0, 1) := by decide +kernel
theorem dLw_law_134 : decode cLw_law 134 = .ok (.iload 4, 2) := by decide +kernel
theorem dLw_law_136 : decode cLw_law 136 = .ok (.iconst 3, 1) := by decide +kernel
theorem dLw_law_137 : decode cLw_law 137 = .ok (.iadd, 1) := by decide +kernel
theorem dLw_law_138 : decode cLw_law 138 = .ok (.iaload, 1) := by decide +kernel
theorem dLw_law_139 : decode cLw_law 139 = .ok (.invokevirtual 62, 3) := by decide +kernel
theorem dLw_law_142 : decode cLw_law 142 = .ok (.aload_n 2, 1) := by decide +kernel
theorem dLw_law_143 : decode cLw_law 143 = .ok (.aload_n 0, 1) := by decide +kernel
theorem dLw_law_144 : decode cLw_law 144 = .ok (.iload 4, 2) := by decide +kernel
theorem dLw_law_146 : decode cLw_law 146 = .ok (.iconst 1, 1) := by decide +kernel
theorem dLw_law_147 : decode cLw_law 147 = .ok (.iadd, 1) := by decide +kernel
theorem dLw_law_148 : decode cLw_law 148 = .ok (.iaload, 1) := by decide +kernel
theorem dLw_law_149 : decode cLw_law 149 = .ok (.aload_n 0, 1) := by decide +kernel
theorem dLw_law_150 : decode cLw_law 150 = .ok (.iload 4, 2) := by decide +kernel
theorem dLw_law_152 : decode cLw_law 152 = .ok (.iconst 2, 1) := by decide +kernel
theorem dLw_law_153 : decode cLw_law 153 = .ok (.iadd, 1) := by decide +kernel
theorem dLw_law_154 : decode cLw_law 154 = .ok (.iaload, 1) := by decide +kernel
theorem dLw_law_155 : decode cLw_law 155 = .ok (.aload_n 0, 1) := by decide +kernel
theorem dLw_law_156 : decode cLw_law 156 = .ok (.iload 4, 2) := by decide +kernel
theorem dLw_law_158 : decode cLw_law 158 = .ok (.iconst 3, 1) := by decide +kernel
theorem dLw_law_159 : decode cLw_law 159 = .ok (.iadd, 1) := by decide +kernel
theorem dLw_law_160 : decode cLw_law 160 = .ok (.iaload, 1) := by decide +kernel
theorem dLw_law_161 : decode cLw_law 161 = .ok (.invokevirtual 66, 3) := by decide +kernel
theorem dLw_law_164 : decode cLw_law 164 = .ok (.if_icmp .eq 785, 3) := by decide +kernel
theorem dLw_law_167 : decode cLw_law 167 = .ok (.iconst 0, 1) := by decide +kernel
theorem dLw_law_168 : decode cLw_law 168 = .ok (.ireturn, 1) := by decide +kernel
theorem dLw_law_169 : decode cLw_law 169 = .ok (.aload_n 1, 1) := by decide +kernel
theorem dLw_law_170 : decode cLw_law 170 = .ok (.aload_n 0, 1) := by decide +kernel
theorem dLw_law_171 : decode cLw_law 171 = .ok (.iload 4, 2) := by decide +kernel
theorem dLw_law_173 : decode cLw_law 173 = .ok (.iconst 1, 1) := by decide +kernel
theorem dLw_law_174 : decode cLw_law 174 = .ok (.iadd, 1) := by decide +kernel
theorem dLw_law_175 : decode cLw_law 175 = .ok (.iaload, 1) := by decide +kernel
theorem dLw_law_176 : decode cLw_law 176 = .ok (.invokevirtual 67, 3) := by decide +kernel
theorem dLw_law_179 : decode cLw_law 179 = .ok (.aload_n 2, 1) := by decide +kernel
theorem dLw_law_180 : decode cLw_law 180 = .ok (.aload_n 0, 1) := by decide +kernel
theorem dLw_law_181 : decode cLw_law 181 = .ok (.iload 4, 2) := by decide +kernel
theorem dLw_law_183 : decode cLw_law 183 = .ok (.iconst 1, 1) := by decide +kernel
theorem dLw_law_184 : decode cLw_law 184 = .ok (.iadd, 1) := by decide +kernel
theorem dLw_law_185 : decode cLw_law 185 = .ok (.iaload, 1) := by decide +kernel
theorem dLw_law_186 : decode cLw_law 186 = .ok (.invokevirtual 71, 3) := by decide +kernel
theorem dLw_law_189 : decode cLw_law 189 = .ok (.if_icmp .eq 760, 3) := by decide +kernel
theorem dLw_law_192 : decode cLw_law 192 = .ok (.iconst 0, 1) := by decide +kernel
theorem dLw_law_193 : decode cLw_law 193 = .ok (.ireturn, 1) := by decide +kernel
theorem dLw_law_194 : decode cLw_law 194 = .ok (.aload_n 1, 1) := by decide +kernel
theorem dLw_law_195 : decode cLw_law 195 = .ok (.aload_n 0, 1) := by decide +kernel
theorem dLw_law_196 : decode cLw_law 196 = .ok (.iload 4, 2) := by decide +kernel
theorem dLw_law_198 : decode cLw_law 198 = .ok (.iconst 1, 1) := by decide +kernel
theorem dLw_law_199 : decode cLw_law 199 = .ok (.iadd, 1) := by decide +kernel
theorem dLw_law_200 : decode cLw_law 200 = .ok (.iaload, 1) := by decide +kernel
theorem dLw_law_201 : decode cLw_law 201 = .ok (.aload_n 0, 1) := by decide +kernel
theorem dLw_law_202 : decode cLw_law 202 = .ok (.iload 4, 2) := by decide +kernel
theorem dLw_law_204 : decode cLw_law 204 = .ok (.iconst 2, 1) := by decide +kernel
theorem dLw_law_205 : decode cLw_law 205 = .ok (.iadd, 1) := by decide +kernel
theorem dLw_law_206 : decode cLw_law 206 = .ok (.iaload, 1) := by decide +kernel
theorem dLw_law_207 : decode cLw_law 207 = .ok (.invokevirtual 72, 3) := by decide +kernel
theorem dLw_law_210 : decode cLw_law 210 = .ok (.aload_n 2, 1) := by decide +kernel
theorem dLw_law_211 : decode cLw_law 211 = .ok (.aload_n 0, 1) := by decide +kernel
theorem dLw_law_212 : decode cLw_law 212 = .ok (.iload 4, 2) := by decide +kernel
theorem dLw_law_214 : decode cLw_law 214 = .ok (.iconst 1, 1) := by decide +kernel
theorem dLw_law_215 : decode cLw_law 215 = .ok (.iadd, 1) := by decide +kernel
theorem dLw_law_216 : decode cLw_law 216 = .ok (.iaload, 1) := by decide +kernel
theorem dLw_law_217 : decode cLw_law 217 = .ok (.aload_n 0, 1) := by decide +kernel
theorem dLw_law_218 : decode cLw_law 218 = .ok (.iload 4, 2) := by decide +kernel
theorem dLw_law_220 : decode cLw_law 220 = .ok (.iconst 2, 1) := by decide +kernel
theorem dLw_law_221 : decode cLw_law 221 = .ok (.iadd, 1) := by decide +kernel
theorem dLw_law_222 : decode cLw_law 222 = .ok (.iaload, 1) := by decide +kernel
theorem dLw_law_223 : decode cLw_law 223 = .ok (.invokevirtual 75, 3) := by decide +kernel
theorem dLw_law_226 : decode cLw_law 226 = .ok (.if_icmp .eq 723, 3) := by decide +kernel
theorem dLw_law_229 : decode cLw_law 229 = .ok (.iconst 0, 1) := by decide +kernel
theorem dLw_law_230 : decode cLw_law 230 = .ok (.ireturn, 1) := by decide +kernel
theorem dLw_law_231 : decode cLw_law 231 = .ok (.aload_n 1, 1) := by decide +kernel
theorem dLw_law_232 : decode cLw_law 232 = .ok (.aload_n 0, 1) := by decide +kernel
theorem dLw_law_233 : decode cLw_law 233 = .ok (.iload 4, 2) := by decide +kernel
theorem dLw_law_235 : decode cLw_law 235 = .ok (.iconst 1, 1) := by decide +kernel
theorem dLw_law_236 : decode cLw_law 236 = .ok (.iadd, 1) := by decide +kernel
theorem dLw_law_237 : decode cLw_law 237 = .ok (.iaload, 1) := by decide +kernel
theorem dLw_law_238 : decode cLw_law 238 = .ok (.aload_n 3, 1) := by decide +kernel
theorem dLw_law_239 : decode cLw_law 239 = .ok (.invokestatic 76, 3) := by decide +kernel
theorem dLw_law_242 : decode cLw_law 242 = .ok (.istore 5, 2) := by decide +kernel
theorem dLw_law_244 : decode cLw_law 244 = .ok (.aload_n 2, 1) := by decide +kernel
theorem dLw_law_245 : decode cLw_law 245 = .ok (.aload_n 0, 1) := by decide +kernel
theorem dLw_law_246 : decode cLw_law 246 = .ok (.iload 4, 2) := by decide +kernel
theorem dLw_law_248 : decode cLw_law 248 = .ok (.iconst 1, 1) := by decide +kernel
theorem dLw_law_249 : decode cLw_law 249 = .ok (.iadd, 1) := by decide +kernel
theorem dLw_law_250 : decode cLw_law 250 = .ok (.iaload, 1) := by decide +kernel
theorem dLw_law_251 : decode cLw_law 251 = .ok (.invokevirtual 79, 3) := by decide +kernel
theorem dLw_law_254 : decode cLw_law 254 = .ok (.istore 6, 2) := by decide +kernel
theorem dLw_law_256 : decode cLw_law 256 = .ok (.aload_n 2, 1) := by decide +kernel
theorem dLw_law_257 : decode cLw_law 257 = .ok (.invokevirtual 80, 3) := by decide +kernel
theorem dLw_law_260 : decode cLw_law 260 = .ok (.iload 5, 2) := by decide +kernel
theorem dLw_law_262 : decode cLw_law 262 = .ok (.if_icmp .eq 5, 3) := by decide +kernel
theorem dLw_law_265 : decode cLw_law 265 = .ok (.iconst 0, 1) := by decide +kernel
theorem dLw_law_266 : decode cLw_law 266 = .ok (.ireturn, 1) := by decide +kernel
theorem dLw_law_267 : decode cLw_law 267 = .ok (.iload 5, 2) := by decide +kernel
theorem dLw_law_269 : decode cLw_law 269 = .ok (.ifCond .ne 15, 3) := by decide +kernel
theorem dLw_law_272 : decode cLw_law 272 = .ok (.aload_n 3, 1) := by decide +kernel
theorem dLw_law_273 : decode cLw_law 273 = .ok (.iconst 0, 1) := by decide +kernel
theorem dLw_law_274 : decode cLw_law 274 = .ok (.laload, 1) := by decide +kernel
theorem dLw_law_275 : decode cLw_law 275 = .ok (.iload 6, 2) := by decide +kernel
theorem dLw_law_277 : decode cLw_law 277 = .ok (.i2l, 1) := by decide +kernel
theorem dLw_law_278 : decode cLw_law 278 = .ok (.lcmp, 1) := by decide +kernel
theorem dLw_law_279 : decode cLw_law 279 = .ok (.ifCond .eq 5, 3) := by decide +kernel
theorem dLw_law_282 : decode cLw_law 282 = .ok (.iconst 0, 1) := by decide +kernel
theorem dLw_law_283 : decode cLw_law 283 = .ok (.ireturn, 1) := by decide +kernel
theorem dLw_law_284 : decode cLw_law 284 = .ok (.goto 665, 3) := by decide +kernel
theorem dLw_law_287 : decode cLw_law 287 = .ok (.aload_n 1, 1) := by decide +kernel
theorem dLw_law_288 : decode cLw_law 288 = .ok (.aload_n 0, 1) := by decide +kernel
theorem dLw_law_289 : decode cLw_law 289 = .ok (.iload 4, 2) := by decide +kernel
theorem dLw_law_291 : decode cLw_law 291 = .ok (.iconst 1, 1) := by decide +kernel
theorem dLw_law_292 : decode cLw_law 292 = .ok (.iadd, 1) := by decide +kernel
theorem dLw_law_293 : decode cLw_law 293 = .ok (.iaload, 1) := by decide +kernel
theorem dLw_law_294 : decode cLw_law 294 = .ok (.aload_n 3, 1) := by decide +kernel
theorem dLw_law_295 : decode cLw_law 295 = .ok (.invokestatic 84, 3) := by decide +kernel
theorem dLw_law_298 : decode cLw_law 298 = .ok (.istore 5, 2) := by decide +kernel
theorem dLw_law_300 : decode cLw_law 300 = .ok (.aload_n 2, 1) := by decide +kernel
theorem dLw_law_301 : decode cLw_law 301 = .ok (.aload_n 0, 1) := by decide +kernel
theorem dLw_law_302 : decode cLw_law 302 = .ok (.iload 4, 2) := by decide +kernel
theorem dLw_law_304 : decode cLw_law 304 = .ok (.iconst 1, 1) := by decide +kernel
theorem dLw_law_305 : decode cLw_law 305 = .ok (.iadd, 1) := by decide +kernel
theorem dLw_law_306 : decode cLw_law 306 = .ok (.iaload, 1) := by decide +kernel
theorem dLw_law_307 : decode cLw_law 307 = .ok (.invokevirtual 86, 3) := by decide +kernel
theorem dLw_law_310 : decode cLw_law 310 = .ok (.istore 6, 2) := by decide +kernel
theorem dLw_law_312 : decode cLw_law 312 = .ok (.aload_n 2, 1) := by decide +kernel
theorem dLw_law_313 : decode cLw_law 313 = .ok (.invokevirtual 80, 3) := by decide +kernel
theorem dLw_law_316 : decode cLw_law 316 = .ok (.iload 5, 2) := by decide +kernel
theorem dLw_law_318 : decode cLw_law 318 = .ok (.if_icmp .eq 5, 3) := by decide +kernel
theorem dLw_law_321 : decode cLw_law 321 = .ok (.iconst 0, 1) := by decide +kernel
theorem dLw_law_322 : decode cLw_law 322 = .ok (.ireturn, 1) := by decide +kernel
theorem dLw_law_323 : decode cLw_law 323 = .ok (.iload 5, 2) := by decide +kernel
theorem dLw_law_325 : decode cLw_law 325 = .ok (.ifCond .ne 15, 3) := by decide +kernel
theorem dLw_law_328 : decode cLw_law 328 = .ok (.aload_n 3, 1) := by decide +kernel
theorem dLw_law_329 : decode cLw_law 329 = .ok (.iconst 0, 1) := by decide +kernel
theorem dLw_law_330 : decode cLw_law 330 = .ok (.laload, 1) := by decide +kernel
theorem dLw_law_331 : decode cLw_law 331 = .ok (.iload 6, 2) := by decide +kernel
theorem dLw_law_333 : decode cLw_law 333 = .ok (.i2l, 1) := by decide +kernel
theorem dLw_law_334 : decode cLw_law 334 = .ok (.lcmp, 1) := by decide +kernel
theorem dLw_law_335 : decode cLw_law 335 = .ok (.ifCond .eq 5, 3) := by decide +kernel
theorem dLw_law_338 : decode cLw_law 338 = .ok (.iconst 0, 1) := by decide +kernel
theorem dLw_law_339 : decode cLw_law 339 = .ok (.ireturn, 1) := by decide +kernel
theorem dLw_law_340 : decode cLw_law 340 = .ok (.goto 609, 3) := by decide +kernel
theorem dLw_law_343 : decode cLw_law 343 = .ok (.aload_n 1, 1) := by decide +kernel
theorem dLw_law_344 : decode cLw_law 344 = .ok (.aload_n 0, 1) := by decide +kernel
theorem dLw_law_345 : decode cLw_law 345 = .ok (.iload 4, 2) := by decide +kernel
theorem dLw_law_347 : decode cLw_law 347 = .ok (.iconst 1, 1) := by decide +kernel
theorem dLw_law_348 : decode cLw_law 348 = .ok (.iadd, 1) := by decide +kernel
theorem dLw_law_349 : decode cLw_law 349 = .ok (.iaload, 1) := by decide +kernel
theorem dLw_law_350 : decode cLw_law 350 = .ok (.aload_n 0, 1) := by decide +kernel
theorem dLw_law_351 : decode cLw_law 351 = .ok (.iload 4, 2) := by decide +kernel
theorem dLw_law_353 : decode cLw_law 353 = .ok (.iconst 2, 1) := by decide +kernel
theorem dLw_law_354 : decode cLw_law 354 = .ok (.iadd, 1) := by decide +kernel
theorem dLw_law_355 : decode cLw_law 355 = .ok (.iaload, 1) := by decide +kernel
theorem dLw_law_356 : decode cLw_law 356 = .ok (.aload_n 3, 1) := by decide +kernel
theorem dLw_law_357 : decode cLw_law 357 = .ok (.invokestatic 87, 3) := by decide +kernel
theorem dLw_law_360 : decode cLw_law 360 = .ok (.istore 5, 2) := by decide +kernel
theorem dLw_law_362 : decode cLw_law 362 = .ok (.aload_n 2, 1) := by decide +kernel
theorem dLw_law_363 : decode cLw_law 363 = .ok (.aload_n 0, 1) := by decide +kernel
theorem dLw_law_364 : decode cLw_law 364 = .ok (.iload 4, 2) := by decide +kernel
theorem dLw_law_366 : decode cLw_law 366 = .ok (.iconst 1, 1) := by decide +kernel
theorem dLw_law_367 : decode cLw_law 367 = .ok (.iadd, 1) := by decide +kernel
theorem dLw_law_368 : decode cLw_law 368 = .ok (.iaload, 1) := by decide +kernel
theorem dLw_law_369 : decode cLw_law 369 = .ok (.aload_n 0, 1) := by decide +kernel
theorem dLw_law_370 : decode cLw_law 370 = .ok (.iload 4, 2) := by decide +kernel
theorem dLw_law_372 : decode cLw_law 372 = .ok (.iconst 2, 1) := by decide +kernel
theorem dLw_law_373 : decode cLw_law 373 = .ok (.iadd, 1) := by decide +kernel
theorem dLw_law_374 : decode cLw_law 374 = .ok (.iaload, 1) := by decide +kernel
theorem dLw_law_375 : decode cLw_law 375 = .ok (.invokevirtual 90, 3) := by decide +kernel
theorem dLw_law_378 : decode cLw_law 378 = .ok (.istore 6, 2) := by decide +kernel
theorem dLw_law_380 : decode cLw_law 380 = .ok (.aload_n 2, 1) := by decide +kernel
theorem dLw_law_381 : decode cLw_law 381 = .ok (.invokevirtual 80, 3) := by decide +kernel
theorem dLw_law_384 : decode cLw_law 384 = .ok (.iload 5, 2) := by decide +kernel
theorem dLw_law_386 : decode cLw_law 386 = .ok (.if_icmp .eq 5, 3) := by decide +kernel
theorem dLw_law_389 : decode cLw_law 389 = .ok (.iconst 0, 1) := by decide +kernel
theorem dLw_law_390 : decode cLw_law 390 = .ok (.ireturn, 1) := by decide +kernel
theorem dLw_law_391 : decode cLw_law 391 = .ok (.iload 5, 2) := by decide +kernel
theorem dLw_law_393 : decode cLw_law 393 = .ok (.ifCond .ne 22, 3) := by decide +kernel
theorem dLw_law_396 : decode cLw_law 396 = .ok (.aload_n 3, 1) := by decide +kernel
theorem dLw_law_397 : decode cLw_law 397 = .ok (.iconst 0, 1) := by decide +kernel
theorem dLw_law_398 : decode cLw_law 398 = .ok (.laload, 1) := by decide +kernel
theorem dLw_law_399 : decode cLw_law 399 = .ok (.iload 6, 2) := by decide +kernel
theorem dLw_law_401 : decode cLw_law 401 = .ok (.ifCond .eq 7, 3) := by decide +kernel
theorem dLw_law_404 : decode cLw_law 404 = .ok (.lconst 1, 1) := by decide +kernel
theorem dLw_law_405 : decode cLw_law 405 = .ok (.goto 4, 3) := by decide +kernel
theorem dLw_law_408 : decode cLw_law 408 = .ok (.lconst 0, 1) := by decide +kernel
theorem dLw_law_409 : decode cLw_law 409 = .ok (.lcmp, 1) := by decide +kernel
theorem dLw_law_410 : decode cLw_law 410 = .ok (.ifCond .eq 5, 3) := by decide +kernel
theorem dLw_law_413 : decode cLw_law 413 = .ok (.iconst 0, 1) := by decide +kernel
theorem dLw_law_414 : decode cLw_law 414 = .ok (.ireturn, 1) := by decide +kernel
theorem dLw_law_415 : decode cLw_law 415 = .ok (.goto 534, 3) := by decide +kernel
theorem dLw_law_418 : decode cLw_law 418 = .ok (.aload_n 1, 1) := by decide +kernel
theorem dLw_law_419 : decode cLw_law 419 = .ok (.aload_n 0, 1) := by decide +kernel
theorem dLw_law_420 : decode cLw_law 420 = .ok (.iload 4, 2) := by decide +kernel
theorem dLw_law_422 : decode cLw_law 422 = .ok (.iconst 1, 1) := by decide +kernel
theorem dLw_law_423 : decode cLw_law 423 = .ok (.iadd, 1) := by decide +kernel
theorem dLw_law_424 : decode cLw_law 424 = .ok (.iaload, 1) := by decide +kernel
theorem dLw_law_425 : decode cLw_law 425 = .ok (.invokestatic 91, 3) := by decide +kernel
theorem dLw_law_428 : decode cLw_law 428 = .ok (.istore 5, 2) := by decide +kernel
theorem dLw_law_430 : decode cLw_law 430 = .ok (.aload_n 2, 1) := by decide +kernel
theorem dLw_law_431 : decode cLw_law 431 = .ok (.aload_n 0, 1) := by decide +kernel
theorem dLw_law_432 : decode cLw_law 432 = .ok (.iload 4, 2) := by decide +kernel
theorem dLw_law_434 : decode cLw_law 434 = .ok (.iconst 1, 1) := by decide +kernel
theorem dLw_law_435 : decode cLw_law 435 = .ok (.iadd, 1) := by decide +kernel
theorem dLw_law_436 : decode cLw_law 436 = .ok (.iaload, 1) := by decide +kernel
theorem dLw_law_437 : decode cLw_law 437 = .ok (.invokevirtual 94, 3) := by decide +kernel
theorem dLw_law_440 : decode cLw_law 440 = .ok (.aload_n 2, 1) := by decide +kernel
theorem dLw_law_441 : decode cLw_law 441 = .ok (.invokevirtual 80, 3) := by decide +kernel
theorem dLw_law_444 : decode cLw_law 444 = .ok (.iload 5, 2) := by decide +kernel
theorem dLw_law_446 : decode cLw_law 446 = .ok (.if_icmp .eq 5, 3) := by decide +kernel
theorem dLw_law_449 : decode cLw_law 449 = .ok (.iconst 0, 1) := by decide +kernel
theorem dLw_law_450 : decode cLw_law 450 = .ok (.ireturn, 1) := by decide +kernel
theorem dLw_law_451 : decode cLw_law 451 = .ok (.goto 498, 3) := by decide +kernel
theorem dLw_law_454 : decode cLw_law 454 = .ok (.aload_n 1, 1) := by decide +kernel
theorem dLw_law_455 : decode cLw_law 455 = .ok (.aload_n 0, 1) := by decide +kernel
theorem dLw_law_456 : decode cLw_law 456 = .ok (.iload 4, 2) := by decide +kernel
theorem dLw_law_458 : decode cLw_law 458 = .ok (.iconst 1, 1) := by decide +kernel
theorem dLw_law_459 : decode cLw_law 459 = .ok (.iadd, 1) := by decide +kernel
theorem dLw_law_460 : decode cLw_law 460 = .ok (.iaload, 1) := by decide +kernel
theorem dLw_law_461 : decode cLw_law 461 = .ok (.aload_n 0, 1) := by decide +kernel
theorem dLw_law_462 : decode cLw_law 462 = .ok (.iload 4, 2) := by decide +kernel
theorem dLw_law_464 : decode cLw_law 464 = .ok (.iconst 2, 1) := by decide +kernel
theorem dLw_law_465 : decode cLw_law 465 = .ok (.iadd, 1) := by decide +kernel
theorem dLw_law_466 : decode cLw_law 466 = .ok (.iaload, 1) := by decide +kernel
theorem dLw_law_467 : decode cLw_law 467 = .ok (.aload_n 0, 1) := by decide +kernel
theorem dLw_law_468 : decode cLw_law 468 = .ok (.iload 4, 2) := by decide +kernel
theorem dLw_law_470 : decode cLw_law 470 = .ok (.iconst 3, 1) := by decide +kernel
theorem dLw_law_471 : decode cLw_law 471 = .ok (.iadd, 1) := by decide +kernel
theorem dLw_law_472 : decode cLw_law 472 = .ok (.iaload, 1) := by decide +kernel
theorem dLw_law_473 : decode cLw_law 473 = .ok (.aload_n 3, 1) := by decide +kernel
theorem dLw_law_474 : decode cLw_law 474 = .ok (.invokestatic 95, 3) := by decide +kernel
theorem dLw_law_477 : decode cLw_law 477 = .ok (.istore 5, 2) := by decide +kernel
theorem dLw_law_479 : decode cLw_law 479 = .ok (.aload_n 2, 1) := by decide +kernel
theorem dLw_law_480 : decode cLw_law 480 = .ok (.aload_n 0, 1) := by decide +kernel
theorem dLw_law_481 : decode cLw_law 481 = .ok (.iload 4, 2) := by decide +kernel
theorem dLw_law_483 : decode cLw_law 483 = .ok (.iconst 1, 1) := by decide +kernel
theorem dLw_law_484 : decode cLw_law 484 = .ok (.iadd, 1) := by decide +kernel
theorem dLw_law_485 : decode cLw_law 485 = .ok (.iaload, 1) := by decide +kernel
theorem dLw_law_486 : decode cLw_law 486 = .ok (.aload_n 0, 1) := by decide +kernel
theorem dLw_law_487 : decode cLw_law 487 = .ok (.iload 4, 2) := by decide +kernel
theorem dLw_law_489 : decode cLw_law 489 = .ok (.iconst 2, 1) := by decide +kernel
theorem dLw_law_490 : decode cLw_law 490 = .ok (.iadd, 1) := by decide +kernel
theorem dLw_law_491 : decode cLw_law 491 = .ok (.iaload, 1) := by decide +kernel
theorem dLw_law_492 : decode cLw_law 492 = .ok (.aload_n 0, 1) := by decide +kernel
theorem dLw_law_493 : decode cLw_law 493 = .ok (.iload 4, 2) := by decide +kernel
theorem dLw_law_495 : decode cLw_law 495 = .ok (.iconst 3, 1) := by decide +kernel
theorem dLw_law_496 : decode cLw_law 496 = .ok (.iadd, 1) := by decide +kernel
theorem dLw_law_497 : decode cLw_law 497 = .ok (.iaload, 1) := by decide +kernel
theorem dLw_law_498 : decode cLw_law 498 = .ok (.invokevirtual 98, 3) := by decide +kernel
theorem dLw_law_501 : decode cLw_law 501 = .ok (.istore 6, 2) := by decide +kernel
theorem dLw_law_503 : decode cLw_law 503 = .ok (.aload_n 2, 1) := by decide +kernel
theorem dLw_law_504 : decode cLw_law 504 = .ok (.invokevirtual 80, 3) := by decide +kernel
theorem dLw_law_507 : decode cLw_law 507 = .ok (.iload 5, 2) := by decide +kernel
theorem dLw_law_509 : decode cLw_law 509 = .ok (.if_icmp .eq 5, 3) := by decide +kernel
theorem dLw_law_512 : decode cLw_law 512 = .ok (.iconst 0, 1) := by decide +kernel
theorem dLw_law_513 : decode cLw_law 513 = .ok (.ireturn, 1) := by decide +kernel
theorem dLw_law_514 : decode cLw_law 514 = .ok (.iload 5, 2) := by decide +kernel
theorem dLw_law_516 : decode cLw_law 516 = .ok (.ifCond .ne 15, 3) := by decide +kernel
theorem dLw_law_519 : decode cLw_law 519 = .ok (.aload_n 3, 1) := by decide +kernel
theorem dLw_law_520 : decode cLw_law 520 = .ok (.iconst 0, 1) := by decide +kernel
theorem dLw_law_521 : decode cLw_law 521 = .ok (.laload, 1) := by decide +kernel
theorem dLw_law_522 : decode cLw_law 522 = .ok (.iload 6, 2) := by decide +kernel
theorem dLw_law_524 : decode cLw_law 524 = .ok (.i2l, 1) := by decide +kernel
theorem dLw_law_525 : decode cLw_law 525 = .ok (.lcmp, 1) := by decide +kernel
theorem dLw_law_526 : decode cLw_law 526 = .ok (.ifCond .eq 5, 3) := by decide +kernel
theorem dLw_law_529 : decode cLw_law 529 = .ok (.iconst 0, 1) := by decide +kernel
theorem dLw_law_530 : decode cLw_law 530 = .ok (.ireturn, 1) := by decide +kernel
theorem dLw_law_531 : decode cLw_law 531 = .ok (.goto 418, 3) := by decide +kernel
theorem dLw_law_534 : decode cLw_law 534 = .ok (.aload_n 1, 1) := by decide +kernel
theorem dLw_law_535 : decode cLw_law 535 = .ok (.aload_n 0, 1) := by decide +kernel
theorem dLw_law_536 : decode cLw_law 536 = .ok (.iload 4, 2) := by decide +kernel
theorem dLw_law_538 : decode cLw_law 538 = .ok (.iconst 1, 1) := by decide +kernel
theorem dLw_law_539 : decode cLw_law 539 = .ok (.iadd, 1) := by decide +kernel
theorem dLw_law_540 : decode cLw_law 540 = .ok (.iaload, 1) := by decide +kernel
theorem dLw_law_541 : decode cLw_law 541 = .ok (.aload_n 0, 1) := by decide +kernel
theorem dLw_law_542 : decode cLw_law 542 = .ok (.iload 4, 2) := by decide +kernel
theorem dLw_law_544 : decode cLw_law 544 = .ok (.iconst 2, 1) := by decide +kernel
theorem dLw_law_545 : decode cLw_law 545 = .ok (.iadd, 1) := by decide +kernel
theorem dLw_law_546 : decode cLw_law 546 = .ok (.iaload, 1) := by decide +kernel
theorem dLw_law_547 : decode cLw_law 547 = .ok (.aload_n 3, 1) := by decide +kernel
theorem dLw_law_548 : decode cLw_law 548 = .ok (.invokestatic 99, 3) := by decide +kernel
theorem dLw_law_551 : decode cLw_law 551 = .ok (.istore 5, 2) := by decide +kernel
theorem dLw_law_553 : decode cLw_law 553 = .ok (.aload_n 2, 1) := by decide +kernel
theorem dLw_law_554 : decode cLw_law 554 = .ok (.aload_n 0, 1) := by decide +kernel
theorem dLw_law_555 : decode cLw_law 555 = .ok (.iload 4, 2) := by decide +kernel
theorem dLw_law_557 : decode cLw_law 557 = .ok (.iconst 1, 1) := by decide +kernel
theorem dLw_law_558 : decode cLw_law 558 = .ok (.iadd, 1) := by decide +kernel
theorem dLw_law_559 : decode cLw_law 559 = .ok (.iaload, 1) := by decide +kernel
theorem dLw_law_560 : decode cLw_law 560 = .ok (.aload_n 0, 1) := by decide +kernel
theorem dLw_law_561 : decode cLw_law 561 = .ok (.iload 4, 2) := by decide +kernel
theorem dLw_law_563 : decode cLw_law 563 = .ok (.iconst 2, 1) := by decide +kernel
theorem dLw_law_564 : decode cLw_law 564 = .ok (.iadd, 1) := by decide +kernel
theorem dLw_law_565 : decode cLw_law 565 = .ok (.iaload, 1) := by decide +kernel
theorem dLw_law_566 : decode cLw_law 566 = .ok (.invokevirtual 101, 3) := by decide +kernel
theorem dLw_law_569 : decode cLw_law 569 = .ok (.istore 6, 2) := by decide +kernel
theorem dLw_law_571 : decode cLw_law 571 = .ok (.aload_n 2, 1) := by decide +kernel
theorem dLw_law_572 : decode cLw_law 572 = .ok (.invokevirtual 80, 3) := by decide +kernel
theorem dLw_law_575 : decode cLw_law 575 = .ok (.iload 5, 2) := by decide +kernel
theorem dLw_law_577 : decode cLw_law 577 = .ok (.if_icmp .eq 5, 3) := by decide +kernel
theorem dLw_law_580 : decode cLw_law 580 = .ok (.iconst 0, 1) := by decide +kernel
theorem dLw_law_581 : decode cLw_law 581 = .ok (.ireturn, 1) := by decide +kernel
theorem dLw_law_582 : decode cLw_law 582 = .ok (.iload 5, 2) := by decide +kernel
theorem dLw_law_584 : decode cLw_law 584 = .ok (.ifCond .ne 15, 3) := by decide +kernel
theorem dLw_law_587 : decode cLw_law 587 = .ok (.aload_n 3, 1) := by decide +kernel
theorem dLw_law_588 : decode cLw_law 588 = .ok (.iconst 0, 1) := by decide +kernel
theorem dLw_law_589 : decode cLw_law 589 = .ok (.laload, 1) := by decide +kernel
theorem dLw_law_590 : decode cLw_law 590 = .ok (.iload 6, 2) := by decide +kernel
theorem dLw_law_592 : decode cLw_law 592 = .ok (.i2l, 1) := by decide +kernel
theorem dLw_law_593 : decode cLw_law 593 = .ok (.lcmp, 1) := by decide +kernel
theorem dLw_law_594 : decode cLw_law 594 = .ok (.ifCond .eq 5, 3) := by decide +kernel
theorem dLw_law_597 : decode cLw_law 597 = .ok (.iconst 0, 1) := by decide +kernel
theorem dLw_law_598 : decode cLw_law 598 = .ok (.ireturn, 1) := by decide +kernel
theorem dLw_law_599 : decode cLw_law 599 = .ok (.goto 350, 3) := by decide +kernel
theorem dLw_law_602 : decode cLw_law 602 = .ok (.aload_n 1, 1) := by decide +kernel
theorem dLw_law_603 : decode cLw_law 603 = .ok (.aload_n 0, 1) := by decide +kernel
theorem dLw_law_604 : decode cLw_law 604 = .ok (.iload 4, 2) := by decide +kernel
theorem dLw_law_606 : decode cLw_law 606 = .ok (.iconst 1, 1) := by decide +kernel
theorem dLw_law_607 : decode cLw_law 607 = .ok (.iadd, 1) := by decide +kernel
theorem dLw_law_608 : decode cLw_law 608 = .ok (.iaload, 1) := by decide +kernel
theorem dLw_law_609 : decode cLw_law 609 = .ok (.aload_n 0, 1) := by decide +kernel
theorem dLw_law_610 : decode cLw_law 610 = .ok (.iload 4, 2) := by decide +kernel
theorem dLw_law_612 : decode cLw_law 612 = .ok (.iconst 2, 1) := by decide +kernel
theorem dLw_law_613 : decode cLw_law 613 = .ok (.iadd, 1) := by decide +kernel
theorem dLw_law_614 : decode cLw_law 614 = .ok (.iaload, 1) := by decide +kernel
theorem dLw_law_615 : decode cLw_law 615 = .ok (.aload_n 3, 1) := by decide +kernel
theorem dLw_law_616 : decode cLw_law 616 = .ok (.invokestatic 102, 3) := by decide +kernel
theorem dLw_law_619 : decode cLw_law 619 = .ok (.istore 5, 2) := by decide +kernel
theorem dLw_law_621 : decode cLw_law 621 = .ok (.aload_n 2, 1) := by decide +kernel
theorem dLw_law_622 : decode cLw_law 622 = .ok (.aload_n 0, 1) := by decide +kernel
theorem dLw_law_623 : decode cLw_law 623 = .ok (.iload 4, 2) := by decide +kernel
theorem dLw_law_625 : decode cLw_law 625 = .ok (.iconst 1, 1) := by decide +kernel
theorem dLw_law_626 : decode cLw_law 626 = .ok (.iadd, 1) := by decide +kernel
theorem dLw_law_627 : decode cLw_law 627 = .ok (.iaload, 1) := by decide +kernel
theorem dLw_law_628 : decode cLw_law 628 = .ok (.aload_n 0, 1) := by decide +kernel
theorem dLw_law_629 : decode cLw_law 629 = .ok (.iload 4, 2) := by decide +kernel
theorem dLw_law_631 : decode cLw_law 631 = .ok (.iconst 2, 1) := by decide +kernel
theorem dLw_law_632 : decode cLw_law 632 = .ok (.iadd, 1) := by decide +kernel
theorem dLw_law_633 : decode cLw_law 633 = .ok (.iaload, 1) := by decide +kernel
theorem dLw_law_634 : decode cLw_law 634 = .ok (.invokevirtual 104, 3) := by decide +kernel
theorem dLw_law_637 : decode cLw_law 637 = .ok (.istore 6, 2) := by decide +kernel
theorem dLw_law_639 : decode cLw_law 639 = .ok (.aload_n 2, 1) := by decide +kernel
theorem dLw_law_640 : decode cLw_law 640 = .ok (.invokevirtual 80, 3) := by decide +kernel
theorem dLw_law_643 : decode cLw_law 643 = .ok (.iload 5, 2) := by decide +kernel
theorem dLw_law_645 : decode cLw_law 645 = .ok (.if_icmp .eq 5, 3) := by decide +kernel
theorem dLw_law_648 : decode cLw_law 648 = .ok (.iconst 0, 1) := by decide +kernel
theorem dLw_law_649 : decode cLw_law 649 = .ok (.ireturn, 1) := by decide +kernel
theorem dLw_law_650 : decode cLw_law 650 = .ok (.iload 5, 2) := by decide +kernel
theorem dLw_law_652 : decode cLw_law 652 = .ok (.ifCond .ne 15, 3) := by decide +kernel
theorem dLw_law_655 : decode cLw_law 655 = .ok (.aload_n 3, 1) := by decide +kernel
theorem dLw_law_656 : decode cLw_law 656 = .ok (.iconst 0, 1) := by decide +kernel
theorem dLw_law_657 : decode cLw_law 657 = .ok (.laload, 1) := by decide +kernel
theorem dLw_law_658 : decode cLw_law 658 = .ok (.iload 6, 2) := by decide +kernel
theorem dLw_law_660 : decode cLw_law 660 = .ok (.i2l, 1) := by decide +kernel
theorem dLw_law_661 : decode cLw_law 661 = .ok (.lcmp, 1) := by decide +kernel
theorem dLw_law_662 : decode cLw_law 662 = .ok (.ifCond .eq 5, 3) := by decide +kernel
theorem dLw_law_665 : decode cLw_law 665 = .ok (.iconst 0, 1) := by decide +kernel
theorem dLw_law_666 : decode cLw_law 666 = .ok (.ireturn, 1) := by decide +kernel
theorem dLw_law_667 : decode cLw_law 667 = .ok (.goto 282, 3) := by decide +kernel
theorem dLw_law_670 : decode cLw_law 670 = .ok (.aload_n 1, 1) := by decide +kernel
theorem dLw_law_671 : decode cLw_law 671 = .ok (.aload_n 0, 1) := by decide +kernel
theorem dLw_law_672 : decode cLw_law 672 = .ok (.iload 4, 2) := by decide +kernel
theorem dLw_law_674 : decode cLw_law 674 = .ok (.iconst 1, 1) := by decide +kernel
theorem dLw_law_675 : decode cLw_law 675 = .ok (.iadd, 1) := by decide +kernel
theorem dLw_law_676 : decode cLw_law 676 = .ok (.iaload, 1) := by decide +kernel
theorem dLw_law_677 : decode cLw_law 677 = .ok (.aload_n 0, 1) := by decide +kernel
theorem dLw_law_678 : decode cLw_law 678 = .ok (.iload 4, 2) := by decide +kernel
theorem dLw_law_680 : decode cLw_law 680 = .ok (.iconst 2, 1) := by decide +kernel
theorem dLw_law_681 : decode cLw_law 681 = .ok (.iadd, 1) := by decide +kernel
theorem dLw_law_682 : decode cLw_law 682 = .ok (.iaload, 1) := by decide +kernel
theorem dLw_law_683 : decode cLw_law 683 = .ok (.aload_n 3, 1) := by decide +kernel
theorem dLw_law_684 : decode cLw_law 684 = .ok (.invokestatic 105, 3) := by decide +kernel
theorem dLw_law_687 : decode cLw_law 687 = .ok (.istore 5, 2) := by decide +kernel
theorem dLw_law_689 : decode cLw_law 689 = .ok (.aload_n 2, 1) := by decide +kernel
theorem dLw_law_690 : decode cLw_law 690 = .ok (.aload_n 0, 1) := by decide +kernel
theorem dLw_law_691 : decode cLw_law 691 = .ok (.iload 4, 2) := by decide +kernel
theorem dLw_law_693 : decode cLw_law 693 = .ok (.iconst 1, 1) := by decide +kernel
theorem dLw_law_694 : decode cLw_law 694 = .ok (.iadd, 1) := by decide +kernel
theorem dLw_law_695 : decode cLw_law 695 = .ok (.iaload, 1) := by decide +kernel
theorem dLw_law_696 : decode cLw_law 696 = .ok (.aload_n 0, 1) := by decide +kernel
theorem dLw_law_697 : decode cLw_law 697 = .ok (.iload 4, 2) := by decide +kernel
theorem dLw_law_699 : decode cLw_law 699 = .ok (.iconst 2, 1) := by decide +kernel
theorem dLw_law_700 : decode cLw_law 700 = .ok (.iadd, 1) := by decide +kernel
theorem dLw_law_701 : decode cLw_law 701 = .ok (.iaload, 1) := by decide +kernel
theorem dLw_law_702 : decode cLw_law 702 = .ok (.invokevirtual 107, 3) := by decide +kernel
theorem dLw_law_705 : decode cLw_law 705 = .ok (.istore 6, 2) := by decide +kernel
theorem dLw_law_707 : decode cLw_law 707 = .ok (.aload_n 2, 1) := by decide +kernel
theorem dLw_law_708 : decode cLw_law 708 = .ok (.invokevirtual 80, 3) := by decide +kernel
theorem dLw_law_711 : decode cLw_law 711 = .ok (.iload 5, 2) := by decide +kernel
theorem dLw_law_713 : decode cLw_law 713 = .ok (.if_icmp .eq 5, 3) := by decide +kernel
theorem dLw_law_716 : decode cLw_law 716 = .ok (.iconst 0, 1) := by decide +kernel
theorem dLw_law_717 : decode cLw_law 717 = .ok (.ireturn, 1) := by decide +kernel
theorem dLw_law_718 : decode cLw_law 718 = .ok (.iload 5, 2) := by decide +kernel
theorem dLw_law_720 : decode cLw_law 720 = .ok (.ifCond .ne 15, 3) := by decide +kernel
theorem dLw_law_723 : decode cLw_law 723 = .ok (.aload_n 3, 1) := by decide +kernel
theorem dLw_law_724 : decode cLw_law 724 = .ok (.iconst 0, 1) := by decide +kernel
theorem dLw_law_725 : decode cLw_law 725 = .ok (.laload, 1) := by decide +kernel
theorem dLw_law_726 : decode cLw_law 726 = .ok (.iload 6, 2) := by decide +kernel
theorem dLw_law_728 : decode cLw_law 728 = .ok (.i2l, 1) := by decide +kernel
theorem dLw_law_729 : decode cLw_law 729 = .ok (.lcmp, 1) := by decide +kernel
theorem dLw_law_730 : decode cLw_law 730 = .ok (.ifCond .eq 5, 3) := by decide +kernel
theorem dLw_law_733 : decode cLw_law 733 = .ok (.iconst 0, 1) := by decide +kernel
theorem dLw_law_734 : decode cLw_law 734 = .ok (.ireturn, 1) := by decide +kernel
theorem dLw_law_735 : decode cLw_law 735 = .ok (.goto 214, 3) := by decide +kernel
theorem dLw_law_738 : decode cLw_law 738 = .ok (.aload_n 1, 1) := by decide +kernel
theorem dLw_law_739 : decode cLw_law 739 = .ok (.aload_n 0, 1) := by decide +kernel
theorem dLw_law_740 : decode cLw_law 740 = .ok (.iload 4, 2) := by decide +kernel
theorem dLw_law_742 : decode cLw_law 742 = .ok (.iconst 1, 1) := by decide +kernel
theorem dLw_law_743 : decode cLw_law 743 = .ok (.iadd, 1) := by decide +kernel
theorem dLw_law_744 : decode cLw_law 744 = .ok (.iaload, 1) := by decide +kernel
theorem dLw_law_745 : decode cLw_law 745 = .ok (.aload_n 0, 1) := by decide +kernel
theorem dLw_law_746 : decode cLw_law 746 = .ok (.iload 4, 2) := by decide +kernel
theorem dLw_law_748 : decode cLw_law 748 = .ok (.iconst 2, 1) := by decide +kernel
theorem dLw_law_749 : decode cLw_law 749 = .ok (.iadd, 1) := by decide +kernel
theorem dLw_law_750 : decode cLw_law 750 = .ok (.iaload, 1) := by decide +kernel
theorem dLw_law_751 : decode cLw_law 751 = .ok (.aload_n 3, 1) := by decide +kernel
theorem dLw_law_752 : decode cLw_law 752 = .ok (.invokestatic 108, 3) := by decide +kernel
theorem dLw_law_755 : decode cLw_law 755 = .ok (.istore 5, 2) := by decide +kernel
theorem dLw_law_757 : decode cLw_law 757 = .ok (.aload_n 2, 1) := by decide +kernel
theorem dLw_law_758 : decode cLw_law 758 = .ok (.aload_n 0, 1) := by decide +kernel
theorem dLw_law_759 : decode cLw_law 759 = .ok (.iload 4, 2) := by decide +kernel
theorem dLw_law_761 : decode cLw_law 761 = .ok (.iconst 1, 1) := by decide +kernel
theorem dLw_law_762 : decode cLw_law 762 = .ok (.iadd, 1) := by decide +kernel
theorem dLw_law_763 : decode cLw_law 763 = .ok (.iaload, 1) := by decide +kernel
theorem dLw_law_764 : decode cLw_law 764 = .ok (.aload_n 0, 1) := by decide +kernel
theorem dLw_law_765 : decode cLw_law 765 = .ok (.iload 4, 2) := by decide +kernel
theorem dLw_law_767 : decode cLw_law 767 = .ok (.iconst 2, 1) := by decide +kernel
theorem dLw_law_768 : decode cLw_law 768 = .ok (.iadd, 1) := by decide +kernel
theorem dLw_law_769 : decode cLw_law 769 = .ok (.iaload, 1) := by decide +kernel
theorem dLw_law_770 : decode cLw_law 770 = .ok (.invokevirtual 110, 3) := by decide +kernel
theorem dLw_law_773 : decode cLw_law 773 = .ok (.istore 6, 2) := by decide +kernel
theorem dLw_law_775 : decode cLw_law 775 = .ok (.aload_n 2, 1) := by decide +kernel
theorem dLw_law_776 : decode cLw_law 776 = .ok (.invokevirtual 80, 3) := by decide +kernel
theorem dLw_law_779 : decode cLw_law 779 = .ok (.iload 5, 2) := by decide +kernel
theorem dLw_law_781 : decode cLw_law 781 = .ok (.if_icmp .eq 5, 3) := by decide +kernel
theorem dLw_law_784 : decode cLw_law 784 = .ok (.iconst 0, 1) := by decide +kernel
theorem dLw_law_785 : decode cLw_law 785 = .ok (.ireturn, 1) := by decide +kernel
theorem dLw_law_786 : decode cLw_law 786 = .ok (.iload 5, 2) := by decide +kernel
theorem dLw_law_788 : decode cLw_law 788 = .ok (.ifCond .ne 15, 3) := by decide +kernel
theorem dLw_law_791 : decode cLw_law 791 = .ok (.aload_n 3, 1) := by decide +kernel
theorem dLw_law_792 : decode cLw_law 792 = .ok (.iconst 0, 1) := by decide +kernel
theorem dLw_law_793 : decode cLw_law 793 = .ok (.laload, 1) := by decide +kernel
theorem dLw_law_794 : decode cLw_law 794 = .ok (.iload 6, 2) := by decide +kernel
theorem dLw_law_796 : decode cLw_law 796 = .ok (.i2l, 1) := by decide +kernel
theorem dLw_law_797 : decode cLw_law 797 = .ok (.lcmp, 1) := by decide +kernel
theorem dLw_law_798 : decode cLw_law 798 = .ok (.ifCond .eq 5, 3) := by decide +kernel
theorem dLw_law_801 : decode cLw_law 801 = .ok (.iconst 0, 1) := by decide +kernel
theorem dLw_law_802 : decode cLw_law 802 = .ok (.ireturn, 1) := by decide +kernel
theorem dLw_law_803 : decode cLw_law 803 = .ok (.goto 146, 3) := by decide +kernel
theorem dLw_law_806 : decode cLw_law 806 = .ok (.aload_n 1, 1) := by decide +kernel
theorem dLw_law_807 : decode cLw_law 807 = .ok (.aload_n 0, 1) := by decide +kernel
theorem dLw_law_808 : decode cLw_law 808 = .ok (.iload 4, 2) := by decide +kernel
theorem dLw_law_810 : decode cLw_law 810 = .ok (.iconst 1, 1) := by decide +kernel
theorem dLw_law_811 : decode cLw_law 811 = .ok (.iadd, 1) := by decide +kernel
theorem dLw_law_812 : decode cLw_law 812 = .ok (.iaload, 1) := by decide +kernel
theorem dLw_law_813 : decode cLw_law 813 = .ok (.aload_n 0, 1) := by decide +kernel
theorem dLw_law_814 : decode cLw_law 814 = .ok (.iload 4, 2) := by decide +kernel
theorem dLw_law_816 : decode cLw_law 816 = .ok (.iconst 2, 1) := by decide +kernel
theorem dLw_law_817 : decode cLw_law 817 = .ok (.iadd, 1) := by decide +kernel
theorem dLw_law_818 : decode cLw_law 818 = .ok (.iaload, 1) := by decide +kernel
theorem dLw_law_819 : decode cLw_law 819 = .ok (.aload_n 3, 1) := by decide +kernel
theorem dLw_law_820 : decode cLw_law 820 = .ok (.invokestatic 111, 3) := by decide +kernel
theorem dLw_law_823 : decode cLw_law 823 = .ok (.istore 5, 2) := by decide +kernel
theorem dLw_law_825 : decode cLw_law 825 = .ok (.aload_n 2, 1) := by decide +kernel
theorem dLw_law_826 : decode cLw_law 826 = .ok (.aload_n 0, 1) := by decide +kernel
theorem dLw_law_827 : decode cLw_law 827 = .ok (.iload 4, 2) := by decide +kernel
theorem dLw_law_829 : decode cLw_law 829 = .ok (.iconst 1, 1) := by decide +kernel
theorem dLw_law_830 : decode cLw_law 830 = .ok (.iadd, 1) := by decide +kernel
theorem dLw_law_831 : decode cLw_law 831 = .ok (.iaload, 1) := by decide +kernel
theorem dLw_law_832 : decode cLw_law 832 = .ok (.aload_n 0, 1) := by decide +kernel
theorem dLw_law_833 : decode cLw_law 833 = .ok (.iload 4, 2) := by decide +kernel
theorem dLw_law_835 : decode cLw_law 835 = .ok (.iconst 2, 1) := by decide +kernel
theorem dLw_law_836 : decode cLw_law 836 = .ok (.iadd, 1) := by decide +kernel
theorem dLw_law_837 : decode cLw_law 837 = .ok (.iaload, 1) := by decide +kernel
theorem dLw_law_838 : decode cLw_law 838 = .ok (.invokevirtual 113, 3) := by decide +kernel
theorem dLw_law_841 : decode cLw_law 841 = .ok (.istore 6, 2) := by decide +kernel
theorem dLw_law_843 : decode cLw_law 843 = .ok (.aload_n 2, 1) := by decide +kernel
theorem dLw_law_844 : decode cLw_law 844 = .ok (.invokevirtual 80, 3) := by decide +kernel
theorem dLw_law_847 : decode cLw_law 847 = .ok (.iload 5, 2) := by decide +kernel
theorem dLw_law_849 : decode cLw_law 849 = .ok (.if_icmp .eq 5, 3) := by decide +kernel
theorem dLw_law_852 : decode cLw_law 852 = .ok (.iconst 0, 1) := by decide +kernel
theorem dLw_law_853 : decode cLw_law 853 = .ok (.ireturn, 1) := by decide +kernel
theorem dLw_law_854 : decode cLw_law 854 = .ok (.iload 5, 2) := by decide +kernel
theorem dLw_law_856 : decode cLw_law 856 = .ok (.ifCond .ne 22, 3) := by decide +kernel
theorem dLw_law_859 : decode cLw_law 859 = .ok (.aload_n 3, 1) := by decide +kernel
theorem dLw_law_860 : decode cLw_law 860 = .ok (.iconst 0, 1) := by decide +kernel
theorem dLw_law_861 : decode cLw_law 861 = .ok (.laload, 1) := by decide +kernel
theorem dLw_law_862 : decode cLw_law 862 = .ok (.iload 6, 2) := by decide +kernel
theorem dLw_law_864 : decode cLw_law 864 = .ok (.ifCond .eq 7, 3) := by decide +kernel
theorem dLw_law_867 : decode cLw_law 867 = .ok (.lconst 1, 1) := by decide +kernel
theorem dLw_law_868 : decode cLw_law 868 = .ok (.goto 4, 3) := by decide +kernel
theorem dLw_law_871 : decode cLw_law 871 = .ok (.lconst 0, 1) := by decide +kernel
theorem dLw_law_872 : decode cLw_law 872 = .ok (.lcmp, 1) := by decide +kernel
theorem dLw_law_873 : decode cLw_law 873 = .ok (.ifCond .eq 5, 3) := by decide +kernel
theorem dLw_law_876 : decode cLw_law 876 = .ok (.iconst 0, 1) := by decide +kernel
theorem dLw_law_877 : decode cLw_law 877 = .ok (.ireturn, 1) := by decide +kernel
theorem dLw_law_878 : decode cLw_law 878 = .ok (.goto 71, 3) := by decide +kernel
theorem dLw_law_881 : decode cLw_law 881 = .ok (.aload_n 1, 1) := by decide +kernel
theorem dLw_law_882 : decode cLw_law 882 = .ok (.aload_n 0, 1) := by decide +kernel
theorem dLw_law_883 : decode cLw_law 883 = .ok (.iload 4, 2) := by decide +kernel
theorem dLw_law_885 : decode cLw_law 885 = .ok (.iconst 1, 1) := by decide +kernel
theorem dLw_law_886 : decode cLw_law 886 = .ok (.iadd, 1) := by decide +kernel
theorem dLw_law_887 : decode cLw_law 887 = .ok (.iaload, 1) := by decide +kernel
theorem dLw_law_888 : decode cLw_law 888 = .ok (.aload_n 0, 1) := by decide +kernel
theorem dLw_law_889 : decode cLw_law 889 = .ok (.iload 4, 2) := by decide +kernel
theorem dLw_law_891 : decode cLw_law 891 = .ok (.iconst 2, 1) := by decide +kernel
theorem dLw_law_892 : decode cLw_law 892 = .ok (.iadd, 1) := by decide +kernel
theorem dLw_law_893 : decode cLw_law 893 = .ok (.iaload, 1) := by decide +kernel
theorem dLw_law_894 : decode cLw_law 894 = .ok (.aload_n 3, 1) := by decide +kernel
theorem dLw_law_895 : decode cLw_law 895 = .ok (.invokestatic 114, 3) := by decide +kernel
theorem dLw_law_898 : decode cLw_law 898 = .ok (.istore 5, 2) := by decide +kernel
theorem dLw_law_900 : decode cLw_law 900 = .ok (.aload_n 2, 1) := by decide +kernel
theorem dLw_law_901 : decode cLw_law 901 = .ok (.aload_n 0, 1) := by decide +kernel
theorem dLw_law_902 : decode cLw_law 902 = .ok (.iload 4, 2) := by decide +kernel
theorem dLw_law_904 : decode cLw_law 904 = .ok (.iconst 1, 1) := by decide +kernel
theorem dLw_law_905 : decode cLw_law 905 = .ok (.iadd, 1) := by decide +kernel
theorem dLw_law_906 : decode cLw_law 906 = .ok (.iaload, 1) := by decide +kernel
theorem dLw_law_907 : decode cLw_law 907 = .ok (.aload_n 0, 1) := by decide +kernel
theorem dLw_law_908 : decode cLw_law 908 = .ok (.iload 4, 2) := by decide +kernel
theorem dLw_law_910 : decode cLw_law 910 = .ok (.iconst 2, 1) := by decide +kernel
theorem dLw_law_911 : decode cLw_law 911 = .ok (.iadd, 1) := by decide +kernel
theorem dLw_law_912 : decode cLw_law 912 = .ok (.iaload, 1) := by decide +kernel
theorem dLw_law_913 : decode cLw_law 913 = .ok (.invokevirtual 116, 3) := by decide +kernel
theorem dLw_law_916 : decode cLw_law 916 = .ok (.istore 6, 2) := by decide +kernel
theorem dLw_law_918 : decode cLw_law 918 = .ok (.aload_n 2, 1) := by decide +kernel
theorem dLw_law_919 : decode cLw_law 919 = .ok (.invokevirtual 80, 3) := by decide +kernel
theorem dLw_law_922 : decode cLw_law 922 = .ok (.iload 5, 2) := by decide +kernel
theorem dLw_law_924 : decode cLw_law 924 = .ok (.if_icmp .eq 5, 3) := by decide +kernel
theorem dLw_law_927 : decode cLw_law 927 = .ok (.iconst 0, 1) := by decide +kernel
theorem dLw_law_928 : decode cLw_law 928 = .ok (.ireturn, 1) := by decide +kernel
theorem dLw_law_929 : decode cLw_law 929 = .ok (.iload 5, 2) := by decide +kernel
theorem dLw_law_931 : decode cLw_law 931 = .ok (.ifCond .ne 15, 3) := by decide +kernel
theorem dLw_law_934 : decode cLw_law 934 = .ok (.aload_n 3, 1) := by decide +kernel
theorem dLw_law_935 : decode cLw_law 935 = .ok (.iconst 0, 1) := by decide +kernel
theorem dLw_law_936 : decode cLw_law 936 = .ok (.laload, 1) := by decide +kernel
theorem dLw_law_937 : decode cLw_law 937 = .ok (.iload 6, 2) := by decide +kernel
theorem dLw_law_939 : decode cLw_law 939 = .ok (.i2l, 1) := by decide +kernel
theorem dLw_law_940 : decode cLw_law 940 = .ok (.lcmp, 1) := by decide +kernel
theorem dLw_law_941 : decode cLw_law 941 = .ok (.ifCond .eq 5, 3) := by decide +kernel
theorem dLw_law_944 : decode cLw_law 944 = .ok (.iconst 0, 1) := by decide +kernel
theorem dLw_law_945 : decode cLw_law 945 = .ok (.ireturn, 1) := by decide +kernel
theorem dLw_law_946 : decode cLw_law 946 = .ok (.goto 3, 3) := by decide +kernel
theorem dLw_law_949 : decode cLw_law 949 = .ok (.iinc 4 4, 3) := by decide +kernel
theorem dLw_law_952 : decode cLw_law 952 = .ok (.goto (-919), 3) := by decide +kernel
theorem dLw_law_955 : decode cLw_law 955 = .ok (.iconst 1, 1) := by decide +kernel
theorem dLw_law_956 : decode cLw_law 956 = .ok (.ireturn, 1) := by decide +kernel
end
section
theorem dJa_fill_0 : decode cJa_fill 0 = .ok (.iconst 0, 1) := by decide +kernel
theorem dJa_fill_1 : decode cJa_fill 1 = .ok (.istore_n 2, 1) := by decide +kernel
theorem dJa_fill_2 : decode cJa_fill 2 = .ok (.aload_n 0, 1) := by decide +kernel
theorem dJa_fill_3 : decode cJa_fill 3 = .ok (.arraylength, 1) := by decide +kernel
theorem dJa_fill_4 : decode cJa_fill 4 = .ok (.istore_n 3, 1) := by decide +kernel
theorem dJa_fill_5 : decode cJa_fill 5 = .ok (.iload_n 2, 1) := by decide +kernel
theorem dJa_fill_6 : decode cJa_fill 6 = .ok (.iload_n 3, 1) := by decide +kernel
theorem dJa_fill_7 : decode cJa_fill 7 = .ok (.if_icmp .ge 13, 3) := by decide +kernel
theorem dJa_fill_10 : decode cJa_fill 10 = .ok (.aload_n 0, 1) := by decide +kernel
theorem dJa_fill_11 : decode cJa_fill 11 = .ok (.iload_n 2, 1) := by decide +kernel
theorem dJa_fill_12 : decode cJa_fill 12 = .ok (.iload_n 1, 1) := by decide +kernel
theorem dJa_fill_13 : decode cJa_fill 13 = .ok (.iastore, 1) := by decide +kernel
theorem dJa_fill_14 : decode cJa_fill 14 = .ok (.iinc 2 1, 3) := by decide +kernel
theorem dJa_fill_17 : decode cJa_fill 17 = .ok (.goto (-12), 3) := by decide +kernel
theorem dJa_fill_20 : decode cJa_fill 20 = .ok (.return_, 1) := by decide +kernel
end
section
section HR
variable {p : Program} {l : Launch} {e : Env} {R : Room} {s : State} {m : MethodId} {args : Array Value} {below : List Frame} {meth : Method} {c : Code} {H : Heap} {locs : List Loc} {cells slots : Nat} {Q : State → Prop}
variable {cc : ByteArray} {pc : Nat} {ls : Array Slot} {rest : List Value} {D : va_G} {cl : List vw_C} {A : Nat → Prop} {a : Nat} {tys : List (ClassId × FieldType)} {ws : va_W} {H0 : Heap}
/-- the int on top by an equal one -/
theorem lv_ri {x y : Int32} (h : x = y) (k : W p l e R s m args below meth c H locs cells slots Q (F0 m pc ls (.int y :: rest))) : W p l e R s m args below meth c H locs cells slots Q (F0 m pc ls (.int x :: rest)) := by
  subst h
  exact k
/-- two roads that meet with one int each -/
theorem lv_dia {P : Prop} {dP : Decidable P} {g : JFrame} {x y : Int32} (M : Nat) (k : ∀ v : Int32, v = (if P then x else y) → W p l e R s m args below meth c H locs cells slots Q (F0 m M ls (.int v :: rest)))
    (h : (P → W p l e R s m args below meth c H locs cells slots Q (F0 m M ls (.int x :: rest))) → (¬ P → W p l e R s m args below meth c H locs cells slots Q (F0 m M ls (.int y :: rest))) → W p l e R s m args below meth c H locs cells slots Q g) : W p l e R s m args below meth c H locs cells slots Q g :=
  h (fun hp => k x (if_pos hp).symm) (fun hn => k y (if_neg hn).symm)
/-- an int array read at a place -/
theorem vq_iald {k : Nat} (hexec : p.tables.exec = Jvm.exec) (hb : c.code = cc) (hK : va_K D cl tys s) (hP : va_P D cl ws H) (q0 t0 : Nat) {cA : ClassId} {n : Nat} {f : Nat → Int32} (ha : ws[q0]? = some (a, .inl (cA, n, .inl f))) (ht : tys[t0]? = some (cA, .int)) {i : Int32} (hi : i = nI k) (hk : k < n) (hn : n < 2 ^ 31) (hdg : decode cc pc = .ok (.iaload, 1))
    (kk : W p l e R s m args below meth c H locs cells slots Q (F0 m (pc + 1) ls (.int (f k) :: rest))) : W p l e R s m args below meth c H locs cells slots Q (F0 m pc ls (.int i :: .ref a :: rest)) := by
  subst hi
  refine va_iald hexec hb hK hP q0 t0 ha ht (vp_in_nI hk hn) hdg ?_
  rw [nI_clamp (Nat.lt_trans hk hn)]
  exact kk
/-- .. a reference -/
theorem vq_aald {k b : Nat} (hexec : p.tables.exec = Jvm.exec) (hb : c.code = cc) (hK : va_K D cl tys s) (hP : va_P D cl ws H) (q0 t0 : Nat) {cA : ClassId} {C : String} {n : Nat} {f : Nat → Option Nat} (ha : ws[q0]? = some (a, .inl (cA, n, .inr (.inr (.inr (.inr f)))))) (ht : tys[t0]? = some (cA, .object C)) {i : Int32} (hi : i = nI k) (hk : k < n) (hn : n < 2 ^ 31) (hf : f k = some b) (hdg : decode cc pc = .ok (.aaload, 1))
    (kk : W p l e R s m args below meth c H locs cells slots Q (F0 m (pc + 1) ls (.ref b :: rest))) : W p l e R s m args below meth c H locs cells slots Q (F0 m pc ls (.int i :: .ref a :: rest)) := by
  subst hi
  refine va_aldq hexec hb hK hP q0 t0 ha ht (vp_in_nI hk hn) hdg ?_
  rw [nI_clamp (Nat.lt_trans hk hn), hf]
  exact kk
/-- an int array written at a place -/
theorem vq_iast {k : Nat} (hexec : p.tables.exec = Jvm.exec) (hb : c.code = cc) (hK : va_K D cl tys s) (hP : va_P D cl ws H) (hD : va_D A ws) (hS : va_S A H0 H locs) (q0 t0 : Nat) {cA : ClassId} {n : Nat} {f : Nat → Int32} (ha : ws[q0]? = some (a, .inl (cA, n, .inl f))) (ht : tys[t0]? = some (cA, .int)) {i : Int32} {x : Int32} (hi : i = nI k) (hk : k < n) (hn : n < 2 ^ 31) (hdg : decode cc pc = .ok (.iastore, 1))
    (kk : ∀ (H1 : Heap) (locs1 : List Loc), va_P D cl (ws.set q0 (a, .inl (cA, n, .inl (upd f k x)))) H1 → va_D A (ws.set q0 (a, .inl (cA, n, .inl (upd f k x)))) → va_S A H0 H1 locs1 → W p l e R s m args below meth c H1 locs1 cells slots Q (F0 m (pc + 1) ls rest)) : W p l e R s m args below meth c H locs cells slots Q (F0 m pc ls (.int x :: .int i :: .ref a :: rest)) := by
  subst hi
  refine va_iast hexec hb hK hP hD hS q0 t0 ha ht (vp_in_nI hk hn) hdg ?_
  rw [nI_clamp (Nat.lt_trans hk hn)]
  exact kk
/-- .. a long array -/
theorem vq_lald {k : Nat} (hexec : p.tables.exec = Jvm.exec) (hb : c.code = cc) (hK : va_K D cl tys s) (hP : va_P D cl ws H) (q0 t0 : Nat) {cA : ClassId} {n : Nat} {f : Nat → Int64} (ha : ws[q0]? = some (a, .inl (cA, n, .inr (.inl f)))) (ht : tys[t0]? = some (cA, .long)) {i : Int32} (hi : i = nI k) (hk : k < n) (hn : n < 2 ^ 31) (hdg : decode cc pc = .ok (.laload, 1))
    (kk : W p l e R s m args below meth c H locs cells slots Q (F0 m (pc + 1) ls (.long (f k) :: rest))) : W p l e R s m args below meth c H locs cells slots Q (F0 m pc ls (.int i :: .ref a :: rest)) := by
  subst hi
  refine va_lald hexec hb hK hP q0 t0 ha ht (vp_in_nI hk hn) hdg ?_
  rw [nI_clamp (Nat.lt_trans hk hn)]
  exact kk
theorem vq_last {k : Nat} (hexec : p.tables.exec = Jvm.exec) (hb : c.code = cc) (hK : va_K D cl tys s) (hP : va_P D cl ws H) (hD : va_D A ws) (hS : va_S A H0 H locs) (q0 t0 : Nat) {cA : ClassId} {n : Nat} {f : Nat → Int64} (ha : ws[q0]? = some (a, .inl (cA, n, .inr (.inl f)))) (ht : tys[t0]? = some (cA, .long)) {i : Int32} {x : Int64} (hi : i = nI k) (hk : k < n) (hn : n < 2 ^ 31) (hdg : decode cc pc = .ok (.lastore, 1))
    (kk : ∀ (H1 : Heap) (locs1 : List Loc), va_P D cl (ws.set q0 (a, .inl (cA, n, .inr (.inl (vp_updL f k x))))) H1 → va_D A (ws.set q0 (a, .inl (cA, n, .inr (.inl (vp_updL f k x))))) → va_S A H0 H1 locs1 → W p l e R s m args below meth c H1 locs1 cells slots Q (F0 m (pc + 1) ls rest)) : W p l e R s m args below meth c H locs cells slots Q (F0 m pc ls (.long x :: .int i :: .ref a :: rest)) := by
  subst hi
  refine va_last hexec hb hK hP hD hS q0 t0 ha ht (vp_in_nI hk hn) hdg ?_
  rw [nI_clamp (Nat.lt_trans hk hn)]
  exact kk
/-- a loop that only reads: a measure that falls -/
theorem wl_ro {σ : Type} (g : σ → JFrame) (I : σ → Prop) (μ : σ → Nat) (hs : ∀ a : σ, I a → (∀ b : σ, I b → μ b < μ a → W p l e R s m args below meth c H locs cells slots Q (g b)) → W p l e R s m args below meth c H locs cells slots Q (g a)) (a : σ) (h : I a) : W p l e R s m args below meth c H locs cells slots Q (g a) := by
  have key : ∀ (n : Nat) (a : σ), μ a < n → I a → W p l e R s m args below meth c H locs cells slots Q (g a) := by
    intro n
    induction n with
    | zero => intro a h; exact absurd h (Nat.not_lt_zero _)
    | succ n ih => intro a h hI; exact hs a hI (fun b hb hlt => ih b (Nat.lt_of_lt_of_le hlt (Nat.le_of_lt_succ h)) hb)
  exact key (μ a + 1) a (Nat.lt_succ_self _) h
/-- a loop that writes: heap and places are part of its state -/
theorem wl_rw {σ : Type} (g : σ → Heap × List Loc × JFrame) (I : σ → Prop) (μ : σ → Nat) (hs : ∀ a : σ, I a → (∀ b : σ, I b → μ b < μ a → W p l e R s m args below meth c (g b).1 (g b).2.1 cells slots Q (g b).2.2) → W p l e R s m args below meth c (g a).1 (g a).2.1 cells slots Q (g a).2.2) (a : σ) (h : I a) : W p l e R s m args below meth c (g a).1 (g a).2.1 cells slots Q (g a).2.2 := by
  have key : ∀ (n : Nat) (a : σ), μ a < n → I a → W p l e R s m args below meth c (g a).1 (g a).2.1 cells slots Q (g a).2.2 := by
    intro n
    induction n with
    | zero => intro a h; exact absurd h (Nat.not_lt_zero _)
    | succ n ih => intro a h hI; exact hs a hI (fun b hb hlt => ih b (Nat.lt_of_lt_of_le hlt (Nat.le_of_lt_succ h)) hb)
  exact key (μ a + 1) a (Nat.lt_succ_self _) h
end HR
theorem lp_x {k N : Nat} (hN : N < 2 ^ 31) (h : k ≤ N) (c : nI N ≤ nI k) : k = N := by
  have := (nI_leI hN (Nat.lt_of_le_of_lt h hN)).mp c
  omega
theorem lp_c {k N : Nat} (hN : N < 2 ^ 31) (h : k ≤ N) (c : ¬ nI N ≤ nI k) : k < N := by
  rcases Nat.lt_or_ge k N with q | q
  · exact q
  · exact absurd (nI_le q (Nat.lt_of_le_of_lt h hN)) c
theorem ite01 {P : Prop} {dP : Decidable P} : (if P then (0 : Int32) else 1) = 0 ↔ P := by
  by_cases h : P
  · rw [if_pos h]; exact ⟨fun _ => h, fun _ => rfl⟩
  · rw [if_neg h]; exact ⟨fun q => absurd q (by decide), fun q => absurd q h⟩
theorem ite10 {P : Prop} {dP : Decidable P} : (if P then (1 : Int32) else 0) = 0 ↔ ¬ P := by
  by_cases h : P
  · rw [if_pos h]; exact ⟨fun q => absurd q (by decide), fun q => absurd h q⟩
  · rw [if_neg h]; exact ⟨fun _ => h, fun _ => rfl⟩
section HC
variable {p : Program} {l : Launch} {e : Env} {R : Room} {s : State} {m : MethodId} {args : Array Value} {below : List Frame} {meth : Method} {c : Code} {H : Heap} {locs : List Loc} {cells slots : Nat} {Q : State → Prop}
variable {cc : ByteArray} {pc : Nat} {ls : Array Slot} {rest : List Value} {D : va_G} {cl : List vw_C} {A : Nat → Prop} {a : Nat} {tys : List (ClassId × FieldType)} {ws : va_W} {H0 : Heap}
/-- System.arraycopy between int arrays, its places by their numbers -/
theorem vq_copyi {x y z : Nat} (hexec : p.tables.exec = Jvm.exec) (hb : c.code = cc) (hml : c.maxLocals = ls.size) {own : String} {index : Nat} (hown : s.vm.findClass own = some m.cls) (hlink : (Cond.methodLink own index arraycopyName).before args s = true) (hnat : (Cond.native arraycopyName).before args s = true) (hstat : (Cond.static arraycopyName).before args s = true) (hini : (Cond.initialized "java/lang/System").before args s = true)
    (hK : va_K D cl tys s) (hP : va_P D cl ws H) (hD : va_D A ws) (hS : va_S A H0 H locs) (q0 q1 t0 : Nat) {a0 : Nat} {cA : ClassId} {n0 n1 : Nat} {f g : Nat → Int32} (ha0 : ws[q0]? = some (a0, .inl (cA, n0, .inl f))) (ha1 : ws[q1]? = some (a, .inl (cA, n1, .inl g))) (ht0 : tys[t0]? = some (cA, .int))
    {sp dp n : Int32} (e1 : sp = nI x) (e2 : dp = nI y) (e3 : n = nI z) (h4 : x + z ≤ n0) (h5 : y + z ≤ n1) (h0 : n0 < 2 ^ 31) (h1 : n1 < 2 ^ 31)
    (hframes : 1 ≤ R.frames) (hlocals : (rest.map fun v => v.category).sum + (nativeFrameWords "java/lang/System" "arraycopy" 5 + 11) ≤ R.locals) (hdg : decode cc pc = .ok (.invokestatic index, 3))
    (kk : ∀ (H1 : Heap) (locs1 : List Loc), va_P D cl (ws.set q1 (a, .inl (cA, n1, .inl (va_cpy f g x y z)))) H1 → va_D A (ws.set q1 (a, .inl (cA, n1, .inl (va_cpy f g x y z)))) → va_S A H0 H1 locs1 → W p l e R s m args below meth c H1 locs1 cells slots Q (F0 m (pc + 3) ls rest)) : W p l e R s m args below meth c H locs cells slots Q (F0 m pc ls (.int n :: .int dp :: .ref a :: .int sp :: .ref a0 :: rest)) := by
  subst e1; subst e2; subst e3
  have cx : (nI x).toNatClampNeg = x := nI_clamp (by omega)
  have cy : (nI y).toNatClampNeg = y := nI_clamp (by omega)
  have cz : (nI z).toNatClampNeg = z := nI_clamp (by omega)
  refine va_copyi hexec hb hml hown hlink hnat hstat hini hK hP hD hS q0 q1 t0 t0 ha0 ha1 ht0 ht0 rfl (nI_pos (by omega)) (nI_pos (by omega)) (nI_pos (by omega)) (by rw [cx, cz]; exact h4) (by rw [cy, cz]; exact h5) (fun i hi => rfl) hframes hlocals hdg ?_
  rw [cx, cy, cz]
  exact kk
end HC

abbrev wR (r ra : Nat) (cI : ClassId) (ri : Nat → Int32) (rv : Nat → Int32) : va_W := [(r, .inr (1, [.int (ri 0), .int (ri 1), .int (ri 2), .int (ri 3), .int (ri 4), .ref ra])), (ra, .inl (cI, 16, .inl rv))]
abbrev wF (f f1 f2 f3 f4 : Nat) (cI : ClassId) (fi : Nat → Int32) (fa : Nat → Nat → Int32) : va_W := [(f, .inr (0, [.int (fi 0), .int (fi 1), .int (fi 2), .int (fi 3), .int (fi 4), .int (fi 5), .ref f1, .ref f2, .ref f3, .ref f4])), (f1, .inl (cI, 272, .inl (fa 0))), (f2, .inl (cI, 16, .inl (fa 1))), (f3, .inl (cI, 16, .inl (fa 2))), (f4, .inl (cI, 16, .inl (fa 3)))]
abbrev wM (y y1 y2 y3 y4 y5 y6 y7 y8 y9 y10 : Nat) (cI : ClassId) (mi : Nat → Int32) (ma : Nat → Nat → Int32) : va_W := [(y, .inr (3, [.int (mi 0), .int (mi 1), .ref y1, .ref y2, .ref y3, .ref y4, .ref y5, .ref y6, .ref y7, .ref y8, .ref y9, .int (mi 2), .int (mi 3), .int (mi 4), .int (mi 5), .int (mi 6), .ref y10])), (y1, .inl (cI, 4, .inl (ma 0))), (y2, .inl (cI, 4, .inl (ma 1))), (y3, .inl (cI, 4, .inl (ma 2))), (y4, .inl (cI, 4, .inl (ma 3))), (y5, .inl (cI, 4, .inl (ma 4))), (y6, .inl (cI, 64, .inl (ma 5))), (y7, .inl (cI, 64, .inl (ma 6))), (y8, .inl (cI, 256, .inl (ma 7))), (y9, .inl (cI, 4096, .inl (ma 8))), (y10, .inl (cI, 16, .inl (ma 9)))]
abbrev wV (x xa r : Nat) (cQ : ClassId) (ad : Nat → Nat → Nat) : va_W := [(x, .inr (2, [.ref xa, .ref r])), (xa, .inl (cQ, 4, .inr (.inr (.inr (.inr (fun j => some (ad j 0)))))))]
def s_max (x y : Int32) : Int32 := if x < y then y else x
def s_min (x y : Int32) : Int32 := if y < x then y else x
/-- hasWrite -/
def s_hw (w k : Int32) : Int32 := if w &&& ((1 : Int32) <<< (k &&& 31)) = 0 then 0 else 1
/-- keysAfter, of the first n keys -/
def s_ky (lw : Nat → Int32) (b : Int32) : Nat → Int32
  | 0 => 0
  | n + 1 => if lw n ≤ b then s_ky lw b n else s_ky lw b n ||| ((1 : Int32) <<< (nI n &&& 31))
/-- decide -/
def s_dec (fi : Nat → Int32) (fa : Nat → Nat → Int32) (ri : Nat → Int32) (se : Nat) : Int32 :=
  if nI 1000000 ≤ fi 1 then -1 else if ri 2 ≤ fi 1 then (if fa 2 se < ri 1 then (if fi 1 - fi 0 ≤ ri 2 then (if ri 3 &&& s_ky (fa 1) (s_max (ri 2) 0) 16 = 0 then 1 else 2) else 2) else 0) else -1
/-- keptWrite -/
def s_kw (fi : Nat → Int32) (lw : Nat → Int32) (k : Nat) : Int32 := if lw k ≤ 0 then -1 else if lw k < fi 2 then -1 else lw k
/-- sumOfValues, of the first k keys; b: where the row begins -/
def s_sum (rw : Nat → Int32) (b : Nat) : Nat → Int32
  | 0 => 0
  | k + 1 => s_sum rw b k + rw (b + k)
/-- hasKeysOf for the keys from k on, m of them -/
def s_hk (lw lw2 rw rw2 : Nat → Int32) (o : Int32) (b : Nat) : Nat → Nat → Int32
  | 0, _ => 1
  | m + 1, k => if s_max (lw k) o = s_max (lw2 k) o then (if rw (b + k) = rw2 (b + k) then s_hk lw lw2 rw rw2 o b m (k + 1) else 0) else 0
/-- hasSessionsOf -/
def s_hs (q q2 v v2 : Nat → Int32) : Nat → Nat → Int32
  | 0, _ => 1
  | m + 1, k => if q k = q2 k then (if v k = v2 k then s_hs q q2 v v2 m (k + 1) else 0) else 0
/-- isLike -/
def s_like (fi : Nat → Int32) (fa : Nat → Nat → Int32) (gi : Nat → Int32) (ga : Nat → Nat → Int32) (n : Nat) : Int32 :=
  if fi 1 = gi 1 then (if s_hk (fa 1) (ga 1) (fa 0) (ga 0) (fi 1 - fi 0) (n % 17 * 16) 16 0 = 0 then 0 else if s_hs (fa 2) (ga 2) (fa 3) (ga 3) 16 0 = 0 then 0 else 1) else 0
/-- openNextRow; n: the index -/
def s_opi (fi : Nat → Int32) : Nat → Int32 := va_up (va_up fi 1 (fi 1 + 1)) 2 (s_max (fi 2) (fi 1 + 1 - fi 0))
def s_opa (fa : Nat → Nat → Int32) (n : Nat) : Nat → Nat → Int32 := va_up fa 0 (va_cpy (fa 0) (fa 0) (n % 17 * 16) ((n + 1) % 17 * 16) 16)
/-- store, of the first k keys; n: the index -/
def s_st (w : Int32) (vs : Nat → Int32) (n : Nat) (fa : Nat → Nat → Int32) : Nat → (Nat → Nat → Int32)
  | 0 => fa
  | k + 1 => if w &&& ((1 : Int32) <<< (nI k &&& 31)) = 0 then s_st w vs n fa k else va_up (va_up (s_st w vs n fa k) 0 (upd (s_st w vs n fa k 0) (n % 17 * 16 + k) (vs k))) 1 (upd (s_st w vs n fa k 1) k (nI n))
/-- Arrays.fill, of the first k places -/
def s_fill (v : Int32) (f : Nat → Int32) : Nat → (Nat → Int32)
  | 0 => f
  | k + 1 => upd (s_fill v f k) k v
/-- admit: the answer, the fields, the arrays; n: the index, se: the session -/
def s_adm (fi : Nat → Int32) (fa : Nat → Nat → Int32) (ri rv : Nat → Int32) (n se : Nat) : Int32 × (Nat → Int32) × (Nat → Nat → Int32) :=
  if s_dec fi fa ri se = -1 then (-1, fi, fa) else
  if s_dec fi fa ri se = 0 then (0, va_up (s_opi fi) 5 (s_opi fi 5 + 1), s_opa fa n) else
  if s_dec fi fa ri se = 1 then (s_dec fi fa ri se, va_up (s_opi fi) 3 (s_opi fi 3 + 1), va_up (va_up (s_st (ri 4) rv (n + 1) (s_opa fa n) 16) 2 (upd (s_st (ri 4) rv (n + 1) (s_opa fa n) 16 2) se (ri 1))) 3 (upd (s_st (ri 4) rv (n + 1) (s_opa fa n) 16 3) se (s_dec fi fa ri se)))
  else (s_dec fi fa ri se, va_up (s_opi fi) 4 (s_opi fi 4 + 1), va_up (va_up (s_opa fa n) 2 (upd (s_opa fa n 2) se (ri 1))) 3 (upd (s_opa fa n 3) se (s_dec fi fa ri se)))
/-- reset -/
def s_rsi (fi : Nat → Int32) : Nat → Int32 := va_up (va_up (va_up (va_up (va_up fi 1 0) 2 0) 3 0) 4 0) 5 0
def s_rsa (fa : Nat → Nat → Int32) : Nat → Nat → Int32 := va_up (va_up (va_up (va_up fa 0 (s_fill 0 (fa 0) 272)) 1 (s_fill 0 (fa 1) 16)) 2 (s_fill 0 (fa 2) 16)) 3 (s_fill 0 (fa 3) 16)
/-- become -/
def s_bei (fi gi : Nat → Int32) : Nat → Int32 := va_up (va_up (va_up (va_up (va_up fi 1 (gi 1)) 2 (gi 1)) 3 (gi 3)) 4 (gi 4)) 5 (gi 5)
def s_bea (fa ga : Nat → Nat → Int32) : Nat → Nat → Int32 := va_up (va_up (va_up (va_up fa 0 (va_cpy (ga 0) (fa 0) 0 0 272)) 1 (va_cpy (ga 1) (fa 1) 0 0 16)) 2 (va_cpy (ga 2) (fa 2) 0 0 16)) 3 (va_cpy (ga 3) (fa 3) 0 0 16)
/-- is16, isKey, isSession -/
def s_in (k : Int32) : Int32 := if k < 0 then 0 else if nI 16 ≤ k then 0 else 1
/-- lacks -/
def s_lk (x : Int32) : Int32 := if x < 0 then 1 else if nI 4 ≤ x then 1 else 0
/-- draft: the answer, the fields -/
def m_dr (mi : Nat → Int32) (a b c : Int32) : Int32 × (Nat → Int32) :=
  if s_in a = 0 then (0, va_up mi 0 0) else if b < 1 then (0, va_up mi 0 0) else if 0 ≤ c then (1, va_up (va_up (va_up (va_up (va_up (va_up mi 0 0) 2 a) 3 b) 4 c) 5 0) 6 0) else (0, va_up mi 0 0)
/-- reads -/
def m_rd (mi : Nat → Int32) (k : Int32) : Nat → Int32 := va_up (va_up mi 0 0) 5 (if s_in k = 0 then mi 5 ||| 0 else mi 5 ||| ((1 : Int32) <<< (k &&& 31)))
/-- writtenSince: the sets at j places from a on; b: where the fold's sets begin -/
def m_ws (wr : Nat → Int32) (b a : Nat) : Nat → Int32
  | 0 => 0
  | j + 1 => m_ws wr b a j ||| wr (b + (a + j) % 64)
/-- decided; k: the fold, n: its index, se: the session, b: the snapshot -/
def m_dec (mi : Nat → Int32) (ma : Nat → Nat → Int32) (k n se b : Nat) : Int32 :=
  if nI 1000000 ≤ ma 0 k then -1 else if mi 4 ≤ ma 0 k then (if ma 5 (16 * k + se) < mi 3 then (if mi 4 < ma 0 k - mi 1 then 2 else if m_ws (ma 7) (64 * k) (b + 1) (n + 1 - (b + 1)) &&& mi 5 = 0 then 1 else 2) else 0) else -1
theorem m_dec_in (mi : Nat → Int32) (ma : Nat → Nat → Int32) (k n se b : Nat) : m_dec mi ma k n se b = -1 ∨ m_dec mi ma k n se b = 0 ∨ m_dec mi ma k n se b = 1 ∨ m_dec mi ma k n se b = 2 := by
  unfold m_dec
  repeat' split
  all_goals simp
/-- the values of a new row that is written, of the first k keys -/
def m_av (w : Int32) (dr : Nat → Int32) (at_ bf : Nat) (va : Nat → Int32) : Nat → (Nat → Int32)
  | 0 => va
  | k + 1 => upd (m_av w dr at_ bf va k) (16 * at_ + k) (if w >>> (nI k &&& 31) &&& 1 = 1 then dr k else m_av w dr at_ bf va k (16 * bf + k))
/-- a stretch copied within an array, place by place -/
def m_cp (f : Nat → Int32) (d s : Nat) : Nat → (Nat → Int32)
  | 0 => f
  | k + 1 => upd (m_cp f d s k) (d + k) (m_cp f d s k (s + k))
/-- a stretch set to 0 -/
def m_z (f : Nat → Int32) (d : Nat) : Nat → (Nat → Int32)
  | 0 => f
  | k + 1 => upd (m_z f d k) (d + k) 0
/-- the arrays behind apply: w the set, va the values, sq and vd the sessions', c1 c2 c3 what is counted -/
def m_ap_ (mi : Nat → Int32) (ma : Nat → Nat → Int32) (k n : Nat) (w : Int32) (va sq vd : Nat → Int32) (c1 c2 c3 : Int32) : Nat → Nat → Int32 :=
  va_up (va_up (va_up (va_up (va_up (va_up (va_up (va_up (va_up ma 0 (upd (ma 0) k (nI (n + 1)))) 7 (upd (ma 7) (64 * k + (n + 1) % 64) w)) 8 va) 5 sq) 6 vd) 2 (upd (ma 2) k (ma 2 k + c1))) 3 (upd (ma 3) k (ma 3 k + c2))) 4 (upd (ma 4) k (ma 4 k + c3)))
    1 (upd (ma 1) k (if nI (n + 1) - mi 1 ≤ ma 1 k then ma 1 k else nI (n + 1) - mi 1))
/-- apply: the answer, the arrays -/
def m_ap (mi : Nat → Int32) (ma : Nat → Nat → Int32) (k n se b : Nat) : Int32 × (Nat → Nat → Int32) :=
  if m_dec mi ma k n se b = -1 then (-1, ma) else
  if m_dec mi ma k n se b = 0 then (0, m_ap_ mi ma k n 0 (m_cp (ma 8) (16 * (64 * k + (n + 1) % 64)) (16 * (64 * k + n % 64)) 16) (ma 5) (ma 6) 0 0 1) else
  if m_dec mi ma k n se b = 1 then (1, m_ap_ mi ma k n (mi 6) (m_av (mi 6) (ma 9) (64 * k + (n + 1) % 64) (64 * k + n % 64) (ma 8) 16) (upd (ma 5) (16 * k + se) (mi 3)) (upd (ma 6) (16 * k + se) 1) 1 0 0)
  else (2, m_ap_ mi ma k n 0 (m_cp (ma 8) (16 * (64 * k + (n + 1) % 64)) (16 * (64 * k + n % 64)) 16) (upd (ma 5) (16 * k + se) (mi 3)) (upd (ma 6) (16 * k + se) 2) 0 1 0)
/-- take -/
def m_tk (ma : Nat → Nat → Int32) (a b : Nat) : Nat → Nat → Int32 :=
  va_up (va_up (va_up (va_up (va_up (va_up (va_up (va_up (va_up ma 0 (upd (ma 0) b (ma 0 a))) 1 (upd (ma 1) b (upd (ma 0) b (ma 0 a) a))) 2 (upd (ma 2) b (ma 2 a))) 3 (upd (ma 3) b (ma 3 a))) 4 (upd (ma 4) b (ma 4 a)))
    5 (m_cp (ma 5) (16 * b) (16 * a) 16)) 6 (m_cp (ma 6) (16 * b) (16 * a) 16)) 7 (m_cp (ma 7) (64 * b) (64 * a) 64)) 8 (m_cp (ma 8) (1024 * b) (1024 * a) 1024)
/-- clear -/
def m_cl (ma : Nat → Nat → Int32) (k : Nat) : Nat → Nat → Int32 :=
  va_up (va_up (va_up (va_up (va_up (va_up (va_up (va_up (va_up ma 0 (upd (ma 0) k 0)) 1 (upd (ma 1) k 0)) 2 (upd (ma 2) k 0)) 3 (upd (ma 3) k 0)) 4 (upd (ma 4) k 0)) 5 (m_z (ma 5) (16 * k) 16)) 6 (m_z (ma 6) (16 * k) 16)) 8 (m_z (ma 8) (1024 * k) 16)) 7 (upd (ma 7) (64 * k) 0)
/-- written: the search down from i -/
def m_wr (wr : Nat → Int32) (b : Nat) (hz key : Int32) : Nat → Int32
  | 0 => -1
  | i + 1 => if nI (i + 1) < hz then -1 else if wr (b + (i + 1) % 64) >>> (key &&& 31) &&& 1 = 1 then nI (i + 1) else m_wr wr b hz key i
/-- the sum of a row's values -/
def m_sum (va : Nat → Int32) (b : Nat) : Nat → Int32
  | 0 => 0
  | k + 1 => m_sum va b k + va (b + k)
theorem s_in_nI {k : Nat} (hk : k < 16) : s_in (nI k) = 1 := by
  unfold s_in
  rw [if_neg (nI_pos (by omega)), if_neg (nI_ge hk (by decide))]
theorem s_in_ne {k : Nat} (hk : k < 16) : ¬ s_in (nI k) = 0 := by
  rw [s_in_nI hk]; decide
theorem s_lk_nI {k : Nat} (hk : k < 4) : s_lk (nI k) = 0 := by
  unfold s_lk
  rw [if_neg (nI_pos (by omega)), if_neg (nI_ge hk (by decide))]
/-- take: the answer, the arrays -/
def m_tk2 (ma : Nat → Nat → Int32) (a b : Nat) : Int32 × (Nat → Nat → Int32) := if ma 0 b < ma 0 a then (1, m_tk ma a b) else (0, ma)
/-- same: the sessions and values from key k on, m of them; ra, rb: the rows -/
def m_sq (s v va : Nat → Int32) (a b ra rb : Nat) : Nat → Nat → Int32
  | 0, _ => 1
  | m + 1, k => if s (16 * a + k) = s (16 * b + k) then (if v (16 * a + k) = v (16 * b + k) then (if va (16 * ra + k) = va (16 * rb + k) then m_sq s v va a b ra rb m (k + 1) else 0) else 0) else 0
/-- same: the sets since n - j, m of them -/
def m_sw (wr : Nat → Int32) (a b n : Nat) : Nat → Nat → Int32
  | 0, _ => 1
  | m + 1, j => if m_ws wr (64 * a) (n - j + 1) (n + 1 - (n - j + 1)) = m_ws wr (64 * b) (n - j + 1) (n + 1 - (n - j + 1)) then m_sw wr a b n m (j + 1) else 0
/-- same; n: the index of a, v: the versions -/
def m_sm (ma : Nat → Nat → Int32) (a b n v : Nat) : Int32 :=
  if ma 0 a = ma 0 b then (if m_sq (ma 5) (ma 6) (ma 8) a b (64 * a + n % 64) (64 * b + n % 64) 16 0 = 0 then 0 else m_sw (ma 7) a b n (v + 1) 0) else 0
/-- look -/
def m_lk (mi : Nat → Int32) (ma : Nat → Nat → Int32) (k n : Nat) : Nat → Int32
  | 0 => ma 0 k
  | 1 => ma 1 k
  | 2 => ma 2 k
  | 3 => ma 3 k
  | 4 => ma 4 k
  | 5 => m_sum (ma 8) (16 * (64 * k + n % 64)) 16
  | 6 => mi 5
  | 7 => mi 6
  | _ => -1
theorem m_wr_lt {wr : Nat → Int32} {b : Nat} {hz key : Int32} {j : Nat} (h : nI j < hz) : m_wr wr b hz key j = -1 := by
  cases j with
  | zero => rfl
  | succ j => simp only [m_wr, if_pos h]
theorem m_wr_0 {wr : Nat → Int32} {b : Nat} {hz key : Int32} {j : Nat} (hj : j < 2 ^ 31) (h : nI j ≤ 0) : m_wr wr b hz key j = -1 := by
  cases j with
  | zero => rfl
  | succ j => exact absurd h (nI_nle (by omega) hj)
theorem sx_i {n j : Nat} (hn : n < 2 ^ 30) (hj : j < 2 ^ 30) : (nI n - nI j).toInt = (n : Int) - j := pk_sub_toInt hn hj
theorem sx_0 {n j : Nat} (hn : n < 2 ^ 30) (hj : j < 2 ^ 30) (h : ¬ 0 ≤ nI n - nI j) : n - j + 1 = 1 := by
  rw [Int32.le_iff_toInt_le, sx_i hn hj, Int32.toInt_zero] at h
  omega
theorem sx_1 {n j : Nat} (hn : n < 2 ^ 30) (hj : j < 2 ^ 30) (h : 0 ≤ nI n - nI j) : nI n - nI j + 1 = nI (n - j + 1) := by
  rw [Int32.le_iff_toInt_le, sx_i hn hj, Int32.toInt_zero] at h
  rw [pk_sub (by omega), nI_1]
theorem sx_lt {n j v : Nat} (hn : n < 2 ^ 30) (hj : j < 2 ^ 30) (hv : v < 2 ^ 30) : nI n - nI j < nI n - nI v ↔ v < j := by
  rw [Int32.lt_iff_toInt_lt, sx_i hn hj, sx_i hn hv]
  omega
theorem sx_s (n j : Nat) : nI n - nI j + (-1) = nI n - nI (j + 1) := by
  rw [nI_succ]
  apply Int32.toBitVec_inj.mp
  simp only [Int32.toBitVec_add, Int32.toBitVec_sub, Int32.toBitVec_neg]
  generalize (nI n).toBitVec = x
  generalize (nI j).toBitVec = y
  show x - y + -1#32 = x - (y + 1#32)
  bv_omega
theorem s_like_b {fi : Nat → Int32} {fa : Nat → Nat → Int32} {gi : Nat → Int32} {ga : Nat → Nat → Int32} {n : Nat} : narrow .boolean (.int (s_like fi fa gi ga n)) = .int (s_like fi fa gi ga n) := by
  unfold s_like
  repeat' split
  all_goals rfl
/-- look -/
def s_look (fi : Nat → Int32) (fa : Nat → Nat → Int32) (ri : Nat → Int32) (n : Nat) : Nat → Int32
  | 0 => fi 1
  | 1 => fi 2
  | 2 => fi 3
  | 3 => fi 4
  | 4 => fi 5
  | 5 => s_sum (fa 0) (n % 17 * 16) 16
  | 6 => ri 3
  | 7 => ri 4
  | _ => -1
/-- draft: the answer, the fields -/
def s_dr (ri : Nat → Int32) (a b c : Int32) : Int32 × (Nat → Int32) :=
  if s_in a = 0 then (0, ri) else if b < 1 then (0, ri) else if 0 ≤ c then (1, va_up (va_up (va_up (va_up (va_up ri 0 a) 1 b) 2 c) 3 0) 4 0) else (0, ri)
/-- reads -/
def s_rd (ri : Nat → Int32) (k : Int32) : Nat → Int32 := if s_in k = 0 then ri else va_up ri 3 (ri 3 ||| ((1 : Int32) <<< (k &&& 31)))
/-- take -/
def s_tki (fi gi : Nat → Int32) : Nat → Int32 := if gi 1 < fi 1 then s_bei gi fi else gi
def s_tka (fi gi : Nat → Int32) (fa ga : Nat → Nat → Int32) : Nat → Nat → Int32 := if gi 1 < fi 1 then s_bea ga fa else ga
theorem s_in_01 {k : Int32} (h : ¬ s_in k = 0) : s_in k = 1 := by
  unfold s_in at h ⊢
  by_cases h1 : k < 0
  · rw [if_pos h1] at h; exact absurd rfl h
  · rw [if_neg h1] at h ⊢
    by_cases h2 : nI 16 ≤ k
    · rw [if_pos h2] at h; exact absurd rfl h
    · rw [if_neg h2]
end
section
set_option maxHeartbeats 4000000 in
set_option maxRecDepth 100000 in
/-- hasWrite(k) -/
theorem k_R_hasWrite (l : Launch) (dC : Nat → ClassId) (dI : Nat → Nat → Nat) (r ra : Nat) (cI : ClassId) (ri : Nat → Int32) (rv : Nat → Int32) (k : Int32) : Met l yRq_hasWrite wsRq_hasWrite ({ frames := 1, cells := 0, slots := 0, locals := 40 }) (va_Pc [.ref r, .int k] (fun U => va_P (dC, dI) vwCl (wR r ra cI ri rv) U.heap ∧ va_K (dC, dI) vwCl [(cI, .int)] U)) (vp_Si (fun r => r = s_hw (ri 4) k)) 0 0 (fun _ => False) := by
  refine Met.ofW (cc := cRq_hasWrite) (maxL := 2) (ret := (some .boolean)) (by decide) rfl ?_
  intro p e s m args below meth c s₁ B hml hv
  obtain ⟨rfl, hP, hK⟩ := hv
  have hx := B.exec
  have hb := B.bytes
  have hr := B.returns
  have hts0 := atoms_spec (ws := wsRq_hasWrite) B.pre
  have hts := fun (w : Cond) (h : w ∈ lw_g) => hts0 w (List.mem_cons_of_mem _ h)
  have hown : s.vm.findClass RRq = some m.cls := findClass_of_methodNamed B.named
  have hlocks := B.notSynchronized
  have hl := lv_entry ([.ref r, .int k]) (n := 2) (Nat.le_of_ble_eq_true rfl)
  rw [lg_entry_eq]
  generalize (lg_sl ([.ref r, .int k]) ++ List.replicate (2 - (lg_sl ([.ref r, .int k])).length) Slot.unset).toArray = ls at hl ⊢
  have hl : lv_has ls 2 [(0, .ref r), (1, .int k)] := hl
  refine lv_aload_n hx hb dRq_hasWrite_0 rfl (lv_at hl 0 rfl) ?_
  refine va_get (D := (dC, dI)) (ci := 1) (v := .int (ri 4)) (C := RRq) (T := TRq) (N := 6) hx hb hts inRq hown hK hP 0 rfl rfl 4 (by decide) (hts _ in_0) (fun _ h9 => h9) rfl dRq_hasWrite_1 ?_
  refine lv_iconst (v := 1) hx hb dRq_hasWrite_4 (by decide) ?_
  refine lv_iload_n hx hb dRq_hasWrite_5 rfl (lv_at hl 1 rfl) ?_
  refine lv_ishl hx hb dRq_hasWrite_6 ?_
  refine lv_iand hx hb dRq_hasWrite_7 ?_
  refine lv_if_eq (tgt := 15) hx hb dRq_hasWrite_8 (by decide) (fun c_1 => ?_) (fun c_1 => ?_)
  · skip
    refine lv_iconst (v := 0) hx hb dRq_hasWrite_15 (by decide) ?_
    exact W.zret (v := 0) (ty := .boolean) hx hb hr rfl (fun t ht hW => ⟨0, rfl, by simp only [s_hw, if_pos c_1], ht⟩) (fun q h => by cases h) dRq_hasWrite_16
  · skip
    refine lv_iconst (v := 1) hx hb dRq_hasWrite_11 (by decide) ?_
    refine lv_goto (tgt := 16) hx hb dRq_hasWrite_12 (by decide) ?_
    exact W.zret (v := 1) (ty := .boolean) hx hb hr rfl (fun t ht hW => ⟨1, rfl, by simp only [s_hw, if_neg c_1], ht⟩) (fun q h => by cases h) dRq_hasWrite_16
set_option maxHeartbeats 4000000 in
set_option maxRecDepth 100000 in
/-- begin(a, b, c) -/
theorem k_R_begin (l : Launch) (dC : Nat → ClassId) (dI : Nat → Nat → Nat) (sz : Nat) (r ra : Nat) (cI : ClassId) (ri : Nat → Int32) (rv : Nat → Int32) (a b c0 : Int32) : Met l yRq_begin wsRq_begin ({ frames := 1, cells := 0, slots := 0, locals := 40 }) (va_Pc [.ref r, .int a, .int b, .int c0] (fun U => U.heap.size = sz ∧ va_P (dC, dI) vwCl (wR r ra cI ri rv) U.heap ∧ va_K (dC, dI) vwCl [(cI, .int)] U ∧ va_D (fun _ => True) (wR r ra cI ri rv))) (va_Qv (fun (_ : Unit) => True) (fun _ t => va_P (dC, dI) vwCl (wR r ra cI (va_up (va_up (va_up (va_up (va_up ri 0 a) 1 b) 2 c0) 3 0) 4 0) rv) t.heap ∧ va_K (dC, dI) vwCl [(cI, .int)] t ∧ va_D (va_A (wR r ra cI ri rv) sz) (wR r ra cI (va_up (va_up (va_up (va_up (va_up ri 0 a) 1 b) 2 c0) 3 0) 4 0) rv)) (va_A (wR r ra cI ri rv) sz)) 0 0 (va_A (wR r ra cI ri rv) sz) := by
  refine Met.ofW (cc := cRq_begin) (maxL := 4) (ret := none) (by decide) rfl ?_
  intro p e s m args below meth c s₁ B hml hv
  obtain ⟨rfl, hsz, hP, hK, hD0⟩ := hv
  have hx := B.exec
  have hb := B.bytes
  have hr := B.returns
  have hts0 := atoms_spec (ws := wsRq_begin) B.pre
  have hts := fun (w : Cond) (h : w ∈ lw_g) => hts0 w (List.mem_cons_of_mem _ h)
  have hown : s.vm.findClass RRq = some m.cls := findClass_of_methodNamed B.named
  have hlocks := B.notSynchronized
  subst hsz
  have hD := hD0.self (sz := s.heap.size)
  generalize hAe : va_A (wR r ra cI ri rv) s.heap.size = A at hD ⊢
  have hA : ∀ q : Nat, s.heap.size ≤ q → A q := fun q h => by rw [← hAe]; exact Or.inr h
  have hS : va_S A s.heap s.heap [] := va_S.rf
  have hP : va_P (dC, dI) vwCl (wR r ra cI ri rv) s.heap := hP
  have hl := lv_entry ([.ref r, .int a, .int b, .int c0]) (n := 4) (Nat.le_of_ble_eq_true rfl)
  rw [lg_entry_eq]
  generalize (lg_sl ([.ref r, .int a, .int b, .int c0]) ++ List.replicate (4 - (lg_sl ([.ref r, .int a, .int b, .int c0])).length) Slot.unset).toArray = ls at hl ⊢
  have hl : lv_has ls 4 [(0, .ref r), (1, .int a), (2, .int b), (3, .int c0)] := hl
  refine lv_aload_n hx hb dRq_begin_0 rfl (lv_at hl 0 rfl) ?_
  refine lv_iload_n hx hb dRq_begin_1 rfl (lv_at hl 1 rfl) ?_
  refine va_put (D := (dC, dI)) (ci := 1) (v := .int a) (ty := .int) (C := RRq) (T := TRq) (N := 6) hx hb hts inRq tyRq tyRq_ok nmRq hown hK hP hD hS 0 rfl rfl 0 (by decide) (hts _ in_1) (fun _ h9 => h9) rfl (by decide +kernel) rfl rfl (Nat.le_of_ble_eq_true rfl) dRq_begin_2 (fun H locs hP hD hS => ?_)
  have hP : va_P (dC, dI) vwCl (wR r ra cI (va_up ri 0 a) rv) H := hP
  have hD : va_D A (wR r ra cI (va_up ri 0 a) rv) := hD
  refine lv_aload_n hx hb dRq_begin_5 rfl (lv_at hl 0 rfl) ?_
  refine lv_iload_n hx hb dRq_begin_6 rfl (lv_at hl 2 rfl) ?_
  refine va_put (D := (dC, dI)) (ci := 1) (v := .int b) (ty := .int) (C := RRq) (T := TRq) (N := 6) hx hb hts inRq tyRq tyRq_ok nmRq hown hK hP hD hS 0 rfl rfl 1 (by decide) (hts _ in_2) (fun _ h9 => h9) rfl (by decide +kernel) rfl rfl (Nat.le_of_ble_eq_true rfl) dRq_begin_7 (fun H locs hP hD hS => ?_)
  have hP : va_P (dC, dI) vwCl (wR r ra cI (va_up (va_up ri 0 a) 1 b) rv) H := hP
  have hD : va_D A (wR r ra cI (va_up (va_up ri 0 a) 1 b) rv) := hD
  refine lv_aload_n hx hb dRq_begin_10 rfl (lv_at hl 0 rfl) ?_
  refine lv_iload_n hx hb dRq_begin_11 rfl (lv_at hl 3 rfl) ?_
  refine va_put (D := (dC, dI)) (ci := 1) (v := .int c0) (ty := .int) (C := RRq) (T := TRq) (N := 6) hx hb hts inRq tyRq tyRq_ok nmRq hown hK hP hD hS 0 rfl rfl 2 (by decide) (hts _ in_3) (fun _ h9 => h9) rfl (by decide +kernel) rfl rfl (Nat.le_of_ble_eq_true rfl) dRq_begin_12 (fun H locs hP hD hS => ?_)
  have hP : va_P (dC, dI) vwCl (wR r ra cI (va_up (va_up (va_up ri 0 a) 1 b) 2 c0) rv) H := hP
  have hD : va_D A (wR r ra cI (va_up (va_up (va_up ri 0 a) 1 b) 2 c0) rv) := hD
  refine lv_aload_n hx hb dRq_begin_15 rfl (lv_at hl 0 rfl) ?_
  refine lv_iconst (v := 0) hx hb dRq_begin_16 (by decide) ?_
  refine va_put (D := (dC, dI)) (ci := 1) (v := .int 0) (ty := .int) (C := RRq) (T := TRq) (N := 6) hx hb hts inRq tyRq tyRq_ok nmRq hown hK hP hD hS 0 rfl rfl 3 (by decide) (hts _ in_4) (fun _ h9 => h9) rfl (by decide +kernel) rfl rfl (Nat.le_of_ble_eq_true rfl) dRq_begin_17 (fun H locs hP hD hS => ?_)
  have hP : va_P (dC, dI) vwCl (wR r ra cI (va_up (va_up (va_up (va_up ri 0 a) 1 b) 2 c0) 3 0) rv) H := hP
  have hD : va_D A (wR r ra cI (va_up (va_up (va_up (va_up ri 0 a) 1 b) 2 c0) 3 0) rv) := hD
  refine lv_aload_n hx hb dRq_begin_20 rfl (lv_at hl 0 rfl) ?_
  refine lv_iconst (v := 0) hx hb dRq_begin_21 (by decide) ?_
  refine va_put (D := (dC, dI)) (ci := 1) (v := .int 0) (ty := .int) (C := RRq) (T := TRq) (N := 6) hx hb hts inRq tyRq tyRq_ok nmRq hown hK hP hD hS 0 rfl rfl 4 (by decide) (hts _ in_0) (fun _ h9 => h9) rfl (by decide +kernel) rfl rfl (Nat.le_of_ble_eq_true rfl) dRq_begin_22 (fun H locs hP hD hS => ?_)
  have hP : va_P (dC, dI) vwCl (wR r ra cI (va_up (va_up (va_up (va_up (va_up ri 0 a) 1 b) 2 c0) 3 0) 4 0) rv) H := hP
  have hD : va_D A (wR r ra cI (va_up (va_up (va_up (va_up (va_up ri 0 a) 1 b) 2 c0) 3 0) 4 0) rv) := hD
  have hP9 : va_P (dC, dI) vwCl (wR r ra cI (va_up (va_up (va_up (va_up (va_up ri 0 a) 1 b) 2 c0) 3 0) 4 0) rv) H := by exact hP
  have hD9 : va_D A (wR r ra cI (va_up (va_up (va_up (va_up (va_up ri 0 a) 1 b) 2 c0) 3 0) 4 0) rv) := by exact hD
  exact W.vret hx hb hr (fun t ht hW => ⟨⟨(), rfl, trivial, by rw [ht]; exact hP9, va_K.moved hW.alike hK, hD9⟩, hS.F ht⟩) hS.2.2 dRq_begin_25
set_option maxHeartbeats 4000000 in
set_option maxRecDepth 100000 in
/-- addRead(k) -/
theorem k_R_addRead (l : Launch) (dC : Nat → ClassId) (dI : Nat → Nat → Nat) (sz : Nat) (r ra : Nat) (cI : ClassId) (ri : Nat → Int32) (rv : Nat → Int32) (k : Int32) : Met l yRq_addRead wsRq_addRead ({ frames := 1, cells := 0, slots := 0, locals := 40 }) (va_Pc [.ref r, .int k] (fun U => U.heap.size = sz ∧ va_P (dC, dI) vwCl (wR r ra cI ri rv) U.heap ∧ va_K (dC, dI) vwCl [(cI, .int)] U ∧ va_D (fun _ => True) (wR r ra cI ri rv))) (va_Qv (fun (_ : Unit) => True) (fun _ t => va_P (dC, dI) vwCl (wR r ra cI (va_up ri 3 (ri 3 ||| ((1 : Int32) <<< (k &&& 31)))) rv) t.heap ∧ va_K (dC, dI) vwCl [(cI, .int)] t ∧ va_D (va_A (wR r ra cI ri rv) sz) (wR r ra cI (va_up ri 3 (ri 3 ||| ((1 : Int32) <<< (k &&& 31)))) rv)) (va_A (wR r ra cI ri rv) sz)) 0 0 (va_A (wR r ra cI ri rv) sz) := by
  refine Met.ofW (cc := cRq_addRead) (maxL := 2) (ret := none) (by decide) rfl ?_
  intro p e s m args below meth c s₁ B hml hv
  obtain ⟨rfl, hsz, hP, hK, hD0⟩ := hv
  have hx := B.exec
  have hb := B.bytes
  have hr := B.returns
  have hts0 := atoms_spec (ws := wsRq_addRead) B.pre
  have hts := fun (w : Cond) (h : w ∈ lw_g) => hts0 w (List.mem_cons_of_mem _ h)
  have hown : s.vm.findClass RRq = some m.cls := findClass_of_methodNamed B.named
  have hlocks := B.notSynchronized
  subst hsz
  have hD := hD0.self (sz := s.heap.size)
  generalize hAe : va_A (wR r ra cI ri rv) s.heap.size = A at hD ⊢
  have hA : ∀ q : Nat, s.heap.size ≤ q → A q := fun q h => by rw [← hAe]; exact Or.inr h
  have hS : va_S A s.heap s.heap [] := va_S.rf
  have hP : va_P (dC, dI) vwCl (wR r ra cI ri rv) s.heap := hP
  have hl := lv_entry ([.ref r, .int k]) (n := 2) (Nat.le_of_ble_eq_true rfl)
  rw [lg_entry_eq]
  generalize (lg_sl ([.ref r, .int k]) ++ List.replicate (2 - (lg_sl ([.ref r, .int k])).length) Slot.unset).toArray = ls at hl ⊢
  have hl : lv_has ls 2 [(0, .ref r), (1, .int k)] := hl
  refine lv_aload_n hx hb dRq_addRead_0 rfl (lv_at hl 0 rfl) ?_
  refine lv_dup hx hb dRq_addRead_1 rfl ?_
  refine va_get (D := (dC, dI)) (ci := 1) (v := .int (ri 3)) (C := RRq) (T := TRq) (N := 6) hx hb hts inRq hown hK hP 0 rfl rfl 3 (by decide) (hts _ in_4) (fun _ h9 => h9) rfl dRq_addRead_2 ?_
  refine lv_iconst (v := 1) hx hb dRq_addRead_5 (by decide) ?_
  refine lv_iload_n hx hb dRq_addRead_6 rfl (lv_at hl 1 rfl) ?_
  refine lv_ishl hx hb dRq_addRead_7 ?_
  refine lv_ior hx hb dRq_addRead_8 ?_
  refine va_put (D := (dC, dI)) (ci := 1) (v := .int ((ri 3) ||| ((1 : Int32) <<< (k &&& 31)))) (ty := .int) (C := RRq) (T := TRq) (N := 6) hx hb hts inRq tyRq tyRq_ok nmRq hown hK hP hD hS 0 rfl rfl 3 (by decide) (hts _ in_4) (fun _ h9 => h9) rfl (by decide +kernel) rfl rfl (Nat.le_of_ble_eq_true rfl) dRq_addRead_9 (fun H locs hP hD hS => ?_)
  have hP : va_P (dC, dI) vwCl (wR r ra cI (va_up ri 3 ((ri 3) ||| ((1 : Int32) <<< (k &&& 31)))) rv) H := hP
  have hD : va_D A (wR r ra cI (va_up ri 3 ((ri 3) ||| ((1 : Int32) <<< (k &&& 31)))) rv) := hD
  have hP9 : va_P (dC, dI) vwCl (wR r ra cI (va_up ri 3 (ri 3 ||| ((1 : Int32) <<< (k &&& 31)))) rv) H := by exact hP
  have hD9 : va_D A (wR r ra cI (va_up ri 3 (ri 3 ||| ((1 : Int32) <<< (k &&& 31)))) rv) := by exact hD
  exact W.vret hx hb hr (fun t ht hW => ⟨⟨(), rfl, trivial, by rw [ht]; exact hP9, va_K.moved hW.alike hK, hD9⟩, hS.F ht⟩) hS.2.2 dRq_addRead_12
set_option maxHeartbeats 4000000 in
set_option maxRecDepth 100000 in
/-- addWrite(k, v) -/
theorem k_R_addWrite (l : Launch) (dC : Nat → ClassId) (dI : Nat → Nat → Nat) (sz : Nat) (r ra : Nat) (cI : ClassId) (ri : Nat → Int32) (rv : Nat → Int32) (k : Nat) (hk : k < 16) (v : Int32) : Met l yRq_addWrite wsRq_addWrite ({ frames := 1, cells := 0, slots := 0, locals := 40 }) (va_Pc [.ref r, .int (nI k), .int v] (fun U => U.heap.size = sz ∧ va_P (dC, dI) vwCl (wR r ra cI ri rv) U.heap ∧ va_K (dC, dI) vwCl [(cI, .int)] U ∧ va_D (fun _ => True) (wR r ra cI ri rv))) (va_Qv (fun (_ : Unit) => True) (fun _ t => va_P (dC, dI) vwCl (wR r ra cI (va_up ri 4 (ri 4 ||| ((1 : Int32) <<< (nI k &&& 31)))) (upd rv k v)) t.heap ∧ va_K (dC, dI) vwCl [(cI, .int)] t ∧ va_D (va_A (wR r ra cI ri rv) sz) (wR r ra cI (va_up ri 4 (ri 4 ||| ((1 : Int32) <<< (nI k &&& 31)))) (upd rv k v))) (va_A (wR r ra cI ri rv) sz)) 0 0 (va_A (wR r ra cI ri rv) sz) := by
  refine Met.ofW (cc := cRq_addWrite) (maxL := 3) (ret := none) (by decide) rfl ?_
  intro p e s m args below meth c s₁ B hml hv
  obtain ⟨rfl, hsz, hP, hK, hD0⟩ := hv
  have hx := B.exec
  have hb := B.bytes
  have hr := B.returns
  have hts0 := atoms_spec (ws := wsRq_addWrite) B.pre
  have hts := fun (w : Cond) (h : w ∈ lw_g) => hts0 w (List.mem_cons_of_mem _ h)
  have hown : s.vm.findClass RRq = some m.cls := findClass_of_methodNamed B.named
  have hlocks := B.notSynchronized
  subst hsz
  have hD := hD0.self (sz := s.heap.size)
  generalize hAe : va_A (wR r ra cI ri rv) s.heap.size = A at hD ⊢
  have hA : ∀ q : Nat, s.heap.size ≤ q → A q := fun q h => by rw [← hAe]; exact Or.inr h
  have hS : va_S A s.heap s.heap [] := va_S.rf
  have hP : va_P (dC, dI) vwCl (wR r ra cI ri rv) s.heap := hP
  have hl := lv_entry ([.ref r, .int (nI k), .int v]) (n := 3) (Nat.le_of_ble_eq_true rfl)
  rw [lg_entry_eq]
  generalize (lg_sl ([.ref r, .int (nI k), .int v]) ++ List.replicate (3 - (lg_sl ([.ref r, .int (nI k), .int v])).length) Slot.unset).toArray = ls at hl ⊢
  have hl : lv_has ls 3 [(0, .ref r), (1, .int (nI k)), (2, .int v)] := hl
  refine lv_aload_n hx hb dRq_addWrite_0 rfl (lv_at hl 0 rfl) ?_
  refine lv_dup hx hb dRq_addWrite_1 rfl ?_
  refine va_get (D := (dC, dI)) (ci := 1) (v := .int (ri 4)) (C := RRq) (T := TRq) (N := 6) hx hb hts inRq hown hK hP 0 rfl rfl 4 (by decide) (hts _ in_0) (fun _ h9 => h9) rfl dRq_addWrite_2 ?_
  refine lv_iconst (v := 1) hx hb dRq_addWrite_5 (by decide) ?_
  refine lv_iload_n hx hb dRq_addWrite_6 rfl (lv_at hl 1 rfl) ?_
  refine lv_ishl hx hb dRq_addWrite_7 ?_
  refine lv_ior hx hb dRq_addWrite_8 ?_
  refine va_put (D := (dC, dI)) (ci := 1) (v := .int ((ri 4) ||| ((1 : Int32) <<< ((nI k) &&& 31)))) (ty := .int) (C := RRq) (T := TRq) (N := 6) hx hb hts inRq tyRq tyRq_ok nmRq hown hK hP hD hS 0 rfl rfl 4 (by decide) (hts _ in_0) (fun _ h9 => h9) rfl (by decide +kernel) rfl rfl (Nat.le_of_ble_eq_true rfl) dRq_addWrite_9 (fun H locs hP hD hS => ?_)
  have hP : va_P (dC, dI) vwCl (wR r ra cI (va_up ri 4 ((ri 4) ||| ((1 : Int32) <<< ((nI k) &&& 31)))) rv) H := hP
  have hD : va_D A (wR r ra cI (va_up ri 4 ((ri 4) ||| ((1 : Int32) <<< ((nI k) &&& 31)))) rv) := hD
  refine lv_aload_n hx hb dRq_addWrite_12 rfl (lv_at hl 0 rfl) ?_
  refine va_get (D := (dC, dI)) (ci := 1) (v := .ref ra) (C := RRq) (T := TRq) (N := 6) hx hb hts inRq hown hK hP 0 rfl rfl 5 (by decide) (hts _ in_5) (fun _ h9 => h9) rfl dRq_addWrite_13 ?_
  refine lv_iload_n hx hb dRq_addWrite_16 rfl (lv_at hl 1 rfl) ?_
  refine lv_iload_n hx hb dRq_addWrite_17 rfl (lv_at hl 2 rfl) ?_
  refine vq_iast (k := k) (f := rv) hx hb hK hP hD hS 1 0 rfl rfl rfl hk (by decide) dRq_addWrite_18 (fun H locs hP hD hS => ?_)
  have hP : va_P (dC, dI) vwCl (wR r ra cI (va_up ri 4 ((ri 4) ||| ((1 : Int32) <<< ((nI k) &&& 31)))) (upd rv k v)) H := hP
  have hD : va_D A (wR r ra cI (va_up ri 4 ((ri 4) ||| ((1 : Int32) <<< ((nI k) &&& 31)))) (upd rv k v)) := hD
  have hP9 : va_P (dC, dI) vwCl (wR r ra cI (va_up ri 4 (ri 4 ||| ((1 : Int32) <<< (nI k &&& 31)))) (upd rv k v)) H := by exact hP
  have hD9 : va_D A (wR r ra cI (va_up ri 4 (ri 4 ||| ((1 : Int32) <<< (nI k &&& 31)))) (upd rv k v)) := by exact hD
  exact W.vret hx hb hr (fun t ht hW => ⟨⟨(), rfl, trivial, by rw [ht]; exact hP9, va_K.moved hW.alike hK, hD9⟩, hS.F ht⟩) hS.2.2 dRq_addWrite_19
end
section
set_option maxHeartbeats 4000000 in
set_option maxRecDepth 100000 in
/-- rowStart(n) -/
theorem k_F_rowStart (l : Launch) (n : Nat) (hn : n < 2 ^ 31) : Met l yFo_rowStart wsFo_rowStart ({ frames := 1, cells := 0, slots := 0, locals := 40 }) (va_Pc [.int (nI n)] (fun _ => True)) (vp_Si (fun r => r = nI (n % 17 * 16))) 0 0 (fun _ => False) := by
  refine Met.ofW (cc := cFo_rowStart) (maxL := 1) (ret := (some .int)) (by decide) rfl ?_
  intro p e s m args below meth c s₁ B hml hv
  obtain ⟨rfl, -⟩ := hv
  have hx := B.exec
  have hb := B.bytes
  have hr := B.returns
  have hts0 := atoms_spec (ws := wsFo_rowStart) B.pre
  have hts := fun (w : Cond) (h : w ∈ lw_g) => hts0 w (List.mem_cons_of_mem _ h)
  have hown : s.vm.findClass RFo = some m.cls := findClass_of_methodNamed B.named
  have hlocks := B.notSynchronized
  have hl := lv_entry ([.int (nI n)]) (n := 1) (Nat.le_of_ble_eq_true rfl)
  rw [lg_entry_eq]
  generalize (lg_sl ([.int (nI n)]) ++ List.replicate (1 - (lg_sl ([.int (nI n)])).length) Slot.unset).toArray = ls at hl ⊢
  have hl : lv_has ls 1 [(0, .int (nI n))] := hl
  refine lv_iload_n hx hb dFo_rowStart_0 rfl (lv_at hl 0 rfl) ?_
  refine lv_bipush (v := nI 17) hx hb dFo_rowStart_1 (by decide) ?_
  refine lv_irem hx hb dFo_rowStart_3 (by decide) ?_
  refine lv_ri (y := nI (n % 17)) (pk_rem (by omega) (by decide) (by decide)) ?_
  refine lv_bipush (v := nI 16) hx hb dFo_rowStart_4 (by decide) ?_
  refine lv_imul hx hb dFo_rowStart_6 ?_
  refine lv_ri (y := nI ((n % 17) * 16)) (pk_mul _ _) ?_
  exact W.iret (v := nI ((n % 17) * 16)) hx hb hr (fun t ht hW => ⟨nI ((n % 17) * 16), rfl, rfl, ht⟩) (fun q h => by cases h) dFo_rowStart_7
set_option maxHeartbeats 4000000 in
set_option maxRecDepth 100000 in
/-- oldestSnapshot() -/
theorem k_F_oldest (l : Launch) (dC : Nat → ClassId) (dI : Nat → Nat → Nat) (f f1 f2 f3 f4 : Nat) (cI : ClassId) (fi : Nat → Int32) (fa : Nat → Nat → Int32) : Met l yFo_oldestSnapshot wsFo_oldestSnapshot ({ frames := 1, cells := 0, slots := 0, locals := 40 }) (va_Pc [.ref f] (fun U => va_P (dC, dI) vwCl (wF f f1 f2 f3 f4 cI fi fa) U.heap ∧ va_K (dC, dI) vwCl [(cI, .int)] U)) (vp_Si (fun r => r = fi 1 - fi 0)) 0 0 (fun _ => False) := by
  refine Met.ofW (cc := cFo_oldestSnapshot) (maxL := 1) (ret := (some .int)) (by decide) rfl ?_
  intro p e s m args below meth c s₁ B hml hv
  obtain ⟨rfl, hP, hK⟩ := hv
  have hx := B.exec
  have hb := B.bytes
  have hr := B.returns
  have hts0 := atoms_spec (ws := wsFo_oldestSnapshot) B.pre
  have hts := fun (w : Cond) (h : w ∈ lw_g) => hts0 w (List.mem_cons_of_mem _ h)
  have hown : s.vm.findClass RFo = some m.cls := findClass_of_methodNamed B.named
  have hlocks := B.notSynchronized
  have hl := lv_entry ([.ref f]) (n := 1) (Nat.le_of_ble_eq_true rfl)
  rw [lg_entry_eq]
  generalize (lg_sl ([.ref f]) ++ List.replicate (1 - (lg_sl ([.ref f])).length) Slot.unset).toArray = ls at hl ⊢
  have hl : lv_has ls 1 [(0, .ref f)] := hl
  refine lv_aload_n hx hb dFo_oldestSnapshot_0 rfl (lv_at hl 0 rfl) ?_
  refine va_get (D := (dC, dI)) (ci := 0) (v := .int (fi 1)) (C := RFo) (T := TFo) (N := 10) hx hb hts inFo hown hK hP 0 rfl rfl 1 (by decide) (hts _ in_6) (fun _ h9 => h9) rfl dFo_oldestSnapshot_1 ?_
  refine lv_aload_n hx hb dFo_oldestSnapshot_4 rfl (lv_at hl 0 rfl) ?_
  refine va_get (D := (dC, dI)) (ci := 0) (v := .int (fi 0)) (C := RFo) (T := TFo) (N := 10) hx hb hts inFo hown hK hP 0 rfl rfl 0 (by decide) (hts _ in_7) (fun _ h9 => h9) rfl dFo_oldestSnapshot_5 ?_
  refine lv_isub hx hb dFo_oldestSnapshot_8 ?_
  exact W.iret (v := (fi 1) - (fi 0)) hx hb hr (fun t ht hW => ⟨(fi 1) - (fi 0), rfl, rfl, ht⟩) (fun q h => by cases h) dFo_oldestSnapshot_9
set_option maxHeartbeats 4000000 in
set_option maxRecDepth 100000 in
/-- keysAfter(x) -/
theorem k_F_keysAfter (l : Launch) (dC : Nat → ClassId) (dI : Nat → Nat → Nat) (f f1 f2 f3 f4 : Nat) (cI : ClassId) (fi : Nat → Int32) (fa : Nat → Nat → Int32) (x : Int32) : Met l yFo_keysAfter wsFo_keysAfter ({ frames := 1, cells := 0, slots := 0, locals := 40 }) (va_Pc [.ref f, .int x] (fun U => va_P (dC, dI) vwCl (wF f f1 f2 f3 f4 cI fi fa) U.heap ∧ va_K (dC, dI) vwCl [(cI, .int)] U)) (vp_Si (fun r => r = s_ky (fa 1) (s_max x 0) 16)) 0 0 (fun _ => False) := by
  refine Met.ofW (cc := cFo_keysAfter) (maxL := 5) (ret := (some .int)) (by decide) rfl ?_
  intro p e s m args below meth c s₁ B hml hv
  obtain ⟨rfl, hP, hK⟩ := hv
  have hx := B.exec
  have hb := B.bytes
  have hr := B.returns
  have hts0 := atoms_spec (ws := wsFo_keysAfter) B.pre
  have hts := fun (w : Cond) (h : w ∈ lw_g) => hts0 w (List.mem_cons_of_mem _ h)
  have hown : s.vm.findClass RFo = some m.cls := findClass_of_methodNamed B.named
  have hlocks := B.notSynchronized
  have hl := lv_entry ([.ref f, .int x]) (n := 5) (Nat.le_of_ble_eq_true rfl)
  rw [lg_entry_eq]
  generalize (lg_sl ([.ref f, .int x]) ++ List.replicate (5 - (lg_sl ([.ref f, .int x])).length) Slot.unset).toArray = ls at hl ⊢
  have hl : lv_has ls 5 [(0, .ref f), (1, .int x)] := hl
  refine lv_iload_n hx hb dFo_keysAfter_0 rfl (lv_at hl 1 rfl) ?_
  refine lv_iconst (v := 0) hx hb dFo_keysAfter_1 (by decide) ?_
  refine va_mmax hx hb (hml.trans hl.1.symm) hown (hts _ in_8) (hts _ in_9) (hts _ in_10) (hts _ in_11) (Nat.le_of_ble_eq_true rfl) (Nat.le_of_ble_eq_true rfl) (Nat.le_of_ble_eq_true rfl) (Nat.le_of_ble_eq_true rfl) dFo_keysAfter_2 ?_
  refine lv_ri (y := s_max x 0) rfl ?_
  refine lv_istore_n (lv' := [(2, .int (s_max x 0)), (0, .ref f), (1, .int x)]) hx hb dFo_keysAfter_5 rfl hl (by decide) rfl (fun ls hl => ?_)
  refine lv_iconst (v := 0) hx hb dFo_keysAfter_6 (by decide) ?_
  refine lv_istore_n (lv' := [(3, .int 0), (2, .int (s_max x 0)), (0, .ref f), (1, .int x)]) hx hb dFo_keysAfter_7 rfl hl (by decide) rfl (fun ls hl => ?_)
  refine lv_iconst (v := 0) hx hb dFo_keysAfter_8 (by decide) ?_
  refine lv_istore (lv' := [(4, .int 0), (3, .int 0), (2, .int (s_max x 0)), (0, .ref f), (1, .int x)]) hx hb dFo_keysAfter_9 hl (by decide) rfl (fun ls hl => ?_)
  refine wl_ro (σ := Nat × Array Slot) (fun z9 => F0 m 11 z9.2 []) (fun z9 => z9.1 ≤ 16 ∧ lv_has z9.2 5 [(4, .int (nI z9.1)), (3, .int (s_ky (fa 1) (s_max x 0) z9.1)), (2, .int (s_max x 0)), (0, .ref f), (1, .int x)]) (fun z9 => 16 - z9.1) ?_ (0, ls) ⟨by omega, lv_sub hl [0, 1, 2, 3, 4] rfl⟩
  rintro ⟨k, ls⟩ ⟨hk, hl⟩ ih
  have hk : k ≤ 16 := hk
  have hl : lv_has ls 5 [(4, .int (nI k)), (3, .int (s_ky (fa 1) (s_max x 0) k)), (2, .int (s_max x 0)), (0, .ref f), (1, .int x)] := hl
  show W p l e _ s m _ below meth c _ _ _ _ _ (F0 m 11 ls [])
  refine lv_iload hx hb dFo_keysAfter_11 (lv_at hl 0 rfl) ?_
  refine lv_bipush (v := nI 16) hx hb dFo_keysAfter_13 (by decide) ?_
  refine lv_icmp_ge (tgt := 42) hx hb dFo_keysAfter_15 (by decide) (fun c_1 => ?_) (fun c_1 => ?_)
  · skip
    have hk9 : k = 16 := lp_x (by decide) hk c_1
    subst hk9
    refine lv_iload_n hx hb dFo_keysAfter_42 rfl (lv_at hl 1 rfl) ?_
    exact W.iret (v := s_ky (fa 1) (s_max x 0) 16) hx hb hr (fun t ht hW => ⟨s_ky (fa 1) (s_max x 0) 16, rfl, rfl, ht⟩) (fun q h => by cases h) dFo_keysAfter_43
  · skip
    have hk : k < 16 := lp_c (by decide) hk c_1
    refine lv_aload_n hx hb dFo_keysAfter_18 rfl (lv_at hl 3 rfl) ?_
    refine va_get (D := (dC, dI)) (ci := 0) (v := .ref f2) (C := RFo) (T := TFo) (N := 10) hx hb hts inFo hown hK hP 0 rfl rfl 7 (by decide) (hts _ in_12) (fun _ h9 => h9) rfl dFo_keysAfter_19 ?_
    refine lv_iload hx hb dFo_keysAfter_22 (lv_at hl 0 rfl) ?_
    refine vq_iald (k := k) (f := fa 1) hx hb hK hP 2 0 rfl rfl rfl (by omega) (by decide) dFo_keysAfter_24 ?_
    refine lv_iload_n hx hb dFo_keysAfter_25 rfl (lv_at hl 2 rfl) ?_
    refine lv_icmp_le (tgt := 36) hx hb dFo_keysAfter_26 (by decide) (fun c_2 => ?_) (fun c_2 => ?_)
    · skip
      refine lv_iinc (v := nI (k + 1)) (lv' := [(4, .int (nI (k + 1))), (3, .int (s_ky (fa 1) (s_max x 0) k)), (2, .int (s_max x 0)), (0, .ref f), (1, .int x)]) hx hb dFo_keysAfter_36 hl (k := 0) rfl (by first | exact nI_1 _ | (show _ + (1 : Int32) = _; exact nI_1 _)) (by decide) rfl (fun ls hl => ?_)
      refine lv_goto (tgt := 11) hx hb dFo_keysAfter_39 (by decide) ?_
      have hl9 : lv_has ls 5 [(4, .int (nI (k + 1))), (3, .int (s_ky (fa 1) (s_max x 0) (k + 1))), (2, .int (s_max x 0)), (0, .ref f), (1, .int x)] := by first | exact lv_sub hl [0, 1, 2, 3, 4] rfl | (simp only [s_ky, if_pos c_2]; exact lv_sub hl [0, 1, 2, 3, 4] rfl)
      exact ih (k + 1, ls) ⟨hk, hl9⟩ (by show 16 - (k + 1) < 16 - k; omega)
    · skip
      refine lv_iload_n hx hb dFo_keysAfter_29 rfl (lv_at hl 1 rfl) ?_
      refine lv_iconst (v := 1) hx hb dFo_keysAfter_30 (by decide) ?_
      refine lv_iload hx hb dFo_keysAfter_31 (lv_at hl 0 rfl) ?_
      refine lv_ishl hx hb dFo_keysAfter_33 ?_
      refine lv_ior hx hb dFo_keysAfter_34 ?_
      refine lv_istore_n (lv' := [(3, .int ((s_ky (fa 1) (s_max x 0) k) ||| ((1 : Int32) <<< ((nI k) &&& 31)))), (4, .int (nI k)), (2, .int (s_max x 0)), (0, .ref f), (1, .int x)]) hx hb dFo_keysAfter_35 rfl hl (by decide) rfl (fun ls hl => ?_)
      refine lv_iinc (v := nI (k + 1)) (lv' := [(4, .int (nI (k + 1))), (3, .int ((s_ky (fa 1) (s_max x 0) k) ||| ((1 : Int32) <<< ((nI k) &&& 31)))), (2, .int (s_max x 0)), (0, .ref f), (1, .int x)]) hx hb dFo_keysAfter_36 hl (k := 1) rfl (by first | exact nI_1 _ | (show _ + (1 : Int32) = _; exact nI_1 _)) (by decide) rfl (fun ls hl => ?_)
      refine lv_goto (tgt := 11) hx hb dFo_keysAfter_39 (by decide) ?_
      have hl9 : lv_has ls 5 [(4, .int (nI (k + 1))), (3, .int (s_ky (fa 1) (s_max x 0) (k + 1))), (2, .int (s_max x 0)), (0, .ref f), (1, .int x)] := by first | exact lv_sub hl [0, 1, 2, 3, 4] rfl | (simp only [s_ky, if_neg c_2]; exact lv_sub hl [0, 1, 2, 3, 4] rfl)
      exact ih (k + 1, ls) ⟨hk, hl9⟩ (by show 16 - (k + 1) < 16 - k; omega)
set_option maxHeartbeats 4000000 in
set_option maxRecDepth 100000 in
/-- keptWrite(k) -/
theorem k_F_keptWrite (l : Launch) (dC : Nat → ClassId) (dI : Nat → Nat → Nat) (f f1 f2 f3 f4 : Nat) (cI : ClassId) (fi : Nat → Int32) (fa : Nat → Nat → Int32) (k : Nat) (hk : k < 16) : Met l yFo_keptWrite wsFo_keptWrite ({ frames := 1, cells := 0, slots := 0, locals := 40 }) (va_Pc [.ref f, .int (nI k)] (fun U => va_P (dC, dI) vwCl (wF f f1 f2 f3 f4 cI fi fa) U.heap ∧ va_K (dC, dI) vwCl [(cI, .int)] U)) (vp_Si (fun r => r = s_kw fi (fa 1) k)) 0 0 (fun _ => False) := by
  refine Met.ofW (cc := cFo_keptWrite) (maxL := 3) (ret := (some .int)) (by decide) rfl ?_
  intro p e s m args below meth c s₁ B hml hv
  obtain ⟨rfl, hP, hK⟩ := hv
  have hx := B.exec
  have hb := B.bytes
  have hr := B.returns
  have hts0 := atoms_spec (ws := wsFo_keptWrite) B.pre
  have hts := fun (w : Cond) (h : w ∈ lw_g) => hts0 w (List.mem_cons_of_mem _ h)
  have hown : s.vm.findClass RFo = some m.cls := findClass_of_methodNamed B.named
  have hlocks := B.notSynchronized
  have hl := lv_entry ([.ref f, .int (nI k)]) (n := 3) (Nat.le_of_ble_eq_true rfl)
  rw [lg_entry_eq]
  generalize (lg_sl ([.ref f, .int (nI k)]) ++ List.replicate (3 - (lg_sl ([.ref f, .int (nI k)])).length) Slot.unset).toArray = ls at hl ⊢
  have hl : lv_has ls 3 [(0, .ref f), (1, .int (nI k))] := hl
  refine lv_aload_n hx hb dFo_keptWrite_0 rfl (lv_at hl 0 rfl) ?_
  refine va_get (D := (dC, dI)) (ci := 0) (v := .ref f2) (C := RFo) (T := TFo) (N := 10) hx hb hts inFo hown hK hP 0 rfl rfl 7 (by decide) (hts _ in_12) (fun _ h9 => h9) rfl dFo_keptWrite_1 ?_
  refine lv_iload_n hx hb dFo_keptWrite_4 rfl (lv_at hl 1 rfl) ?_
  refine vq_iald (k := k) (f := fa 1) hx hb hK hP 2 0 rfl rfl rfl hk (by decide) dFo_keptWrite_5 ?_
  refine lv_istore_n (lv' := [(2, .int ((fa 1) k)), (0, .ref f), (1, .int (nI k))]) hx hb dFo_keptWrite_6 rfl hl (by decide) rfl (fun ls hl => ?_)
  refine lv_iload_n hx hb dFo_keptWrite_7 rfl (lv_at hl 0 rfl) ?_
  refine lv_if_le (tgt := 23) hx hb dFo_keptWrite_8 (by decide) (fun c_1 => ?_) (fun c_1 => ?_)
  · skip
    refine lv_iconst (v := (-1)) hx hb dFo_keptWrite_23 (by decide) ?_
    exact W.iret (v := (-1)) hx hb hr (fun t ht hW => ⟨(-1), rfl, by simp only [s_kw, if_pos c_1], ht⟩) (fun q h => by cases h) dFo_keptWrite_24
  · skip
    refine lv_iload_n hx hb dFo_keptWrite_11 rfl (lv_at hl 0 rfl) ?_
    refine lv_aload_n hx hb dFo_keptWrite_12 rfl (lv_at hl 1 rfl) ?_
    refine va_get (D := (dC, dI)) (ci := 0) (v := .int (fi 2)) (C := RFo) (T := TFo) (N := 10) hx hb hts inFo hown hK hP 0 rfl rfl 2 (by decide) (hts _ in_13) (fun _ h9 => h9) rfl dFo_keptWrite_13 ?_
    refine lv_icmp_lt (tgt := 23) hx hb dFo_keptWrite_16 (by decide) (fun c_2 => ?_) (fun c_2 => ?_)
    · skip
      refine lv_iconst (v := (-1)) hx hb dFo_keptWrite_23 (by decide) ?_
      exact W.iret (v := (-1)) hx hb hr (fun t ht hW => ⟨(-1), rfl, by simp only [s_kw, if_neg c_1, if_pos c_2], ht⟩) (fun q h => by cases h) dFo_keptWrite_24
    · skip
      refine lv_iload_n hx hb dFo_keptWrite_19 rfl (lv_at hl 0 rfl) ?_
      refine lv_goto (tgt := 24) hx hb dFo_keptWrite_20 (by decide) ?_
      exact W.iret (v := (fa 1) k) hx hb hr (fun t ht hW => ⟨(fa 1) k, rfl, by simp only [s_kw, if_neg c_1, if_neg c_2], ht⟩) (fun q h => by cases h) dFo_keptWrite_24
set_option maxHeartbeats 4000000 in
set_option maxRecDepth 100000 in
/-- valueAt(k, n) -/
theorem k_F_valueAt (l : Launch) (dC : Nat → ClassId) (dI : Nat → Nat → Nat) (f f1 f2 f3 f4 : Nat) (cI : ClassId) (fi : Nat → Int32) (fa : Nat → Nat → Int32) (k n : Nat) (hk : k < 16) (hn : n < 2 ^ 31) : Met l yFo_valueAt wsFo_valueAt ({ frames := 2, cells := 0, slots := 0, locals := 80 }) (va_Pc [.ref f, .int (nI k), .int (nI n)] (fun U => va_P (dC, dI) vwCl (wF f f1 f2 f3 f4 cI fi fa) U.heap ∧ va_K (dC, dI) vwCl [(cI, .int)] U)) (vp_Si (fun r => r = fa 0 (n % 17 * 16 + k))) 0 0 (fun _ => False) := by
  refine Met.ofW (cc := cFo_valueAt) (maxL := 3) (ret := (some .int)) (by decide) rfl ?_
  intro p e s m args below meth c s₁ B hml hv
  obtain ⟨rfl, hP, hK⟩ := hv
  have hx := B.exec
  have hb := B.bytes
  have hr := B.returns
  have hts0 := atoms_spec (ws := wsFo_valueAt) B.pre
  have hts := fun (w : Cond) (h : w ∈ lw_g) => hts0 w (List.mem_cons_of_mem _ h)
  have hown : s.vm.findClass RFo = some m.cls := findClass_of_methodNamed B.named
  have hlocks := B.notSynchronized
  have hl := lv_entry ([.ref f, .int (nI k), .int (nI n)]) (n := 3) (Nat.le_of_ble_eq_true rfl)
  rw [lg_entry_eq]
  generalize (lg_sl ([.ref f, .int (nI k), .int (nI n)]) ++ List.replicate (3 - (lg_sl ([.ref f, .int (nI k), .int (nI n)])).length) Slot.unset).toArray = ls at hl ⊢
  have hl : lv_has ls 3 [(0, .ref f), (1, .int (nI k)), (2, .int (nI n))] := hl
  refine lv_aload_n hx hb dFo_valueAt_0 rfl (lv_at hl 0 rfl) ?_
  refine va_get (D := (dC, dI)) (ci := 0) (v := .ref f1) (C := RFo) (T := TFo) (N := 10) hx hb hts inFo hown hK hP 0 rfl rfl 6 (by decide) (hts _ in_14) (fun _ h9 => h9) rfl dFo_valueAt_1 ?_
  refine lv_iload_n hx hb dFo_valueAt_4 rfl (lv_at hl 2 rfl) ?_
  refine vp_callSi (W.runS (As := [.int (nI n)]) (rest := [.ref f1]) ⟨hx, hb, hml, hown, hts⟩ (k_F_rowStart l n (by omega)) (va_cwS 1 hts (gd_S in_15 in_18 in_17 in_16) rfl rfl rfl (by decide +kernel) ⟨Nat.le_of_ble_eq_true rfl, Nat.le_of_ble_eq_true rfl⟩) ⟨fun a U g mk q => q, fun U hU hW => ⟨rfl, trivial⟩⟩ rfl rfl hl.1 rfl (lv_room (Nat.le_of_ble_eq_true rfl)) dFo_valueAt_5 ⟨Nat.le_of_ble_eq_true rfl, Nat.le_of_ble_eq_true rfl⟩) (fun r_1 er_2 => ?_)
  subst er_2
  refine lv_iload_n hx hb dFo_valueAt_8 rfl (lv_at hl 1 rfl) ?_
  refine lv_iadd hx hb dFo_valueAt_9 ?_
  refine lv_ri (y := nI ((n % 17 * 16) + k)) (nI_add _ _) ?_
  refine vq_iald (k := ((n % 17 * 16) + k)) (f := fa 0) hx hb hK hP 1 0 rfl rfl rfl (by omega) (by decide) dFo_valueAt_10 ?_
  exact W.iret (v := (fa 0) ((n % 17 * 16) + k)) hx hb hr (fun t ht hW => ⟨(fa 0) ((n % 17 * 16) + k), rfl, rfl, ht⟩) (fun q h => by cases h) dFo_valueAt_11
set_option maxHeartbeats 4000000 in
set_option maxRecDepth 100000 in
/-- sumOfValues() -/
theorem k_F_sum (l : Launch) (dC : Nat → ClassId) (dI : Nat → Nat → Nat) (f f1 f2 f3 f4 : Nat) (cI : ClassId) (fi : Nat → Int32) (fa : Nat → Nat → Int32) (n : Nat) (hn : n < 2 ^ 31) (hix : fi 1 = nI n) : Met l yFo_sumOfValues wsFo_sumOfValues ({ frames := 3, cells := 0, slots := 0, locals := 120 }) (va_Pc [.ref f] (fun U => va_P (dC, dI) vwCl (wF f f1 f2 f3 f4 cI fi fa) U.heap ∧ va_K (dC, dI) vwCl [(cI, .int)] U)) (vp_Si (fun r => r = s_sum (fa 0) (n % 17 * 16) 16)) 0 0 (fun _ => False) := by
  refine Met.ofW (cc := cFo_sumOfValues) (maxL := 3) (ret := (some .int)) (by decide) rfl ?_
  intro p e s m args below meth c s₁ B hml hv
  obtain ⟨rfl, hP, hK⟩ := hv
  have hx := B.exec
  have hb := B.bytes
  have hr := B.returns
  have hts0 := atoms_spec (ws := wsFo_sumOfValues) B.pre
  have hts := fun (w : Cond) (h : w ∈ lw_g) => hts0 w (List.mem_cons_of_mem _ h)
  have hown : s.vm.findClass RFo = some m.cls := findClass_of_methodNamed B.named
  have hlocks := B.notSynchronized
  have hl := lv_entry ([.ref f]) (n := 3) (Nat.le_of_ble_eq_true rfl)
  rw [lg_entry_eq]
  generalize (lg_sl ([.ref f]) ++ List.replicate (3 - (lg_sl ([.ref f])).length) Slot.unset).toArray = ls at hl ⊢
  have hl : lv_has ls 3 [(0, .ref f)] := hl
  refine lv_iconst (v := 0) hx hb dFo_sumOfValues_0 (by decide) ?_
  refine lv_istore_n (lv' := [(1, .int 0), (0, .ref f)]) hx hb dFo_sumOfValues_1 rfl hl (by decide) rfl (fun ls hl => ?_)
  refine lv_iconst (v := 0) hx hb dFo_sumOfValues_2 (by decide) ?_
  refine lv_istore_n (lv' := [(2, .int 0), (1, .int 0), (0, .ref f)]) hx hb dFo_sumOfValues_3 rfl hl (by decide) rfl (fun ls hl => ?_)
  refine wl_ro (σ := Nat × Array Slot) (fun z9 => F0 m 4 z9.2 []) (fun z9 => z9.1 ≤ 16 ∧ lv_has z9.2 3 [(2, .int (nI z9.1)), (1, .int (s_sum (fa 0) (n % 17 * 16) z9.1)), (0, .ref f)]) (fun z9 => 16 - z9.1) ?_ (0, ls) ⟨by omega, lv_sub hl [0, 1, 2] rfl⟩
  rintro ⟨k, ls⟩ ⟨hk, hl⟩ ih
  have hk : k ≤ 16 := hk
  have hl : lv_has ls 3 [(2, .int (nI k)), (1, .int (s_sum (fa 0) (n % 17 * 16) k)), (0, .ref f)] := hl
  show W p l e _ s m _ below meth c _ _ _ _ _ (F0 m 4 ls [])
  refine lv_iload_n hx hb dFo_sumOfValues_4 rfl (lv_at hl 0 rfl) ?_
  refine lv_bipush (v := nI 16) hx hb dFo_sumOfValues_5 (by decide) ?_
  refine lv_icmp_ge (tgt := 28) hx hb dFo_sumOfValues_7 (by decide) (fun c_1 => ?_) (fun c_1 => ?_)
  · skip
    have hk9 : k = 16 := lp_x (by decide) hk c_1
    subst hk9
    refine lv_iload_n hx hb dFo_sumOfValues_28 rfl (lv_at hl 1 rfl) ?_
    exact W.iret (v := s_sum (fa 0) (n % 17 * 16) 16) hx hb hr (fun t ht hW => ⟨s_sum (fa 0) (n % 17 * 16) 16, rfl, rfl, ht⟩) (fun q h => by cases h) dFo_sumOfValues_29
  · skip
    have hk : k < 16 := lp_c (by decide) hk c_1
    refine lv_iload_n hx hb dFo_sumOfValues_10 rfl (lv_at hl 1 rfl) ?_
    refine lv_aload_n hx hb dFo_sumOfValues_11 rfl (lv_at hl 2 rfl) ?_
    refine lv_iload_n hx hb dFo_sumOfValues_12 rfl (lv_at hl 0 rfl) ?_
    refine lv_aload_n hx hb dFo_sumOfValues_13 rfl (lv_at hl 2 rfl) ?_
    refine va_get (D := (dC, dI)) (ci := 0) (v := .int (fi 1)) (C := RFo) (T := TFo) (N := 10) hx hb hts inFo hown hK hP 0 rfl rfl 1 (by decide) (hts _ in_6) (fun _ h9 => h9) rfl dFo_sumOfValues_14 ?_
    refine lv_ri (y := nI n) hix ?_
    have hPc := hP.sub (ws' := (wF f f1 f2 f3 f4 cI fi fa)) [0, 1, 2, 3, 4] rfl
    have hKc := hK.sub (tys' := [(cI, .int)]) [0] rfl
    refine vp_callSi (W.runV (As := [.int (nI k), .int (nI n)]) (rest := [.int (s_sum (fa 0) (n % 17 * 16) k)]) ⟨hx, hb, hml, hown, hts⟩ (k_F_valueAt l dC dI f f1 f2 f3 f4 cI fi fa k n (by omega) hn) (cwV 2 hts (gd_V in_19 in_21 in_22 in_17 in_20) rfl rfl rfl (by decide +kernel) ⟨Nat.le_of_ble_eq_true rfl, Nat.le_of_ble_eq_true rfl⟩) ⟨fun a U g mk q => by obtain ⟨q0, qP, qK⟩ := q; exact ⟨q0, qP, va_K.moved (u := U) (U := U.calling g mk a) (Vm.Alike.refl U.vm) qK⟩, va_recv hKc hPc (ci := 0) (q0 := 0) rfl rfl, fun U hU hW => ⟨rfl, by rw [hU]; exact hPc, va_K.moved hW.alike hKc⟩⟩ rfl rfl hl.1 rfl (lv_room (Nat.le_of_ble_eq_true rfl)) dFo_sumOfValues_17 ⟨Nat.le_of_ble_eq_true rfl, Nat.le_of_ble_eq_true rfl⟩) (fun r_2 er_3 => ?_)
    subst er_3
    refine lv_iadd hx hb dFo_sumOfValues_20 ?_
    refine lv_istore_n (lv' := [(1, .int ((s_sum (fa 0) (n % 17 * 16) k) + (fa 0 (n % 17 * 16 + k)))), (2, .int (nI k)), (0, .ref f)]) hx hb dFo_sumOfValues_21 rfl hl (by decide) rfl (fun ls hl => ?_)
    refine lv_iinc (v := nI (k + 1)) (lv' := [(2, .int (nI (k + 1))), (1, .int ((s_sum (fa 0) (n % 17 * 16) k) + (fa 0 (n % 17 * 16 + k)))), (0, .ref f)]) hx hb dFo_sumOfValues_22 hl (k := 1) rfl (by first | exact nI_1 _ | (show _ + (1 : Int32) = _; exact nI_1 _)) (by decide) rfl (fun ls hl => ?_)
    refine lv_goto (tgt := 4) hx hb dFo_sumOfValues_25 (by decide) ?_
    have hl9 : lv_has ls 3 [(2, .int (nI (k + 1))), (1, .int (s_sum (fa 0) (n % 17 * 16) (k + 1))), (0, .ref f)] := by first | exact lv_sub hl [0, 1, 2] rfl | (simp only [s_sum]; exact lv_sub hl [0, 1, 2] rfl)
    exact ih (k + 1, ls) ⟨hk, hl9⟩ (by show 16 - (k + 1) < 16 - k; omega)
set_option maxHeartbeats 4000000 in
set_option maxRecDepth 100000 in
/-- decide(request) -/
theorem k_F_decide (l : Launch) (dC : Nat → ClassId) (dI : Nat → Nat → Nat) (f f1 f2 f3 f4 : Nat) (cI : ClassId) (fi : Nat → Int32) (fa : Nat → Nat → Int32) (r ra : Nat) (ri rv : Nat → Int32) (se : Nat) (hse : ri 0 = nI se) (hs16 : se < 16) : Met l yFo_decide wsFo_decide ({ frames := 2, cells := 0, slots := 0, locals := 80 }) (va_Pc [.ref f, .ref r] (fun U => va_P (dC, dI) vwCl (wF f f1 f2 f3 f4 cI fi fa ++ wR r ra cI ri rv) U.heap ∧ va_K (dC, dI) vwCl [(cI, .int)] U)) (vp_Si (fun r => r = s_dec fi fa ri se)) 0 0 (fun _ => False) := by
  refine Met.ofW (cc := cFo_decide) (maxL := 3) (ret := (some .int)) (by decide) rfl ?_
  intro p e s m args below meth c s₁ B hml hv
  obtain ⟨rfl, hP, hK⟩ := hv
  have hx := B.exec
  have hb := B.bytes
  have hr := B.returns
  have hts0 := atoms_spec (ws := wsFo_decide) B.pre
  have hts := fun (w : Cond) (h : w ∈ lw_g) => hts0 w (List.mem_cons_of_mem _ h)
  have hown : s.vm.findClass RFo = some m.cls := findClass_of_methodNamed B.named
  have hlocks := B.notSynchronized
  have hl := lv_entry ([.ref f, .ref r]) (n := 3) (Nat.le_of_ble_eq_true rfl)
  rw [lg_entry_eq]
  generalize (lg_sl ([.ref f, .ref r]) ++ List.replicate (3 - (lg_sl ([.ref f, .ref r])).length) Slot.unset).toArray = ls at hl ⊢
  have hl : lv_has ls 3 [(0, .ref f), (1, .ref r)] := hl
  refine lv_aload_n hx hb dFo_decide_0 rfl (lv_at hl 0 rfl) ?_
  refine va_get (D := (dC, dI)) (ci := 0) (v := .int (fi 1)) (C := RFo) (T := TFo) (N := 10) hx hb hts inFo hown hK hP 0 rfl rfl 1 (by decide) (hts _ in_6) (fun _ h9 => h9) rfl dFo_decide_1 ?_
  refine lv_ldc (v := nI 1000000) hx hb hown (hts _ in_23) dFo_decide_4 ?_
  refine lv_icmp_ge (tgt := 20) hx hb dFo_decide_6 (by decide) (fun c_1 => ?_) (fun c_1 => ?_)
  · skip
    refine lv_iconst (v := (-1)) hx hb dFo_decide_20 (by decide) ?_
    exact W.iret (v := (-1)) hx hb hr (fun t ht hW => ⟨(-1), rfl, by simp only [s_dec, if_pos c_1], ht⟩) (fun q h => by cases h) dFo_decide_21
  · skip
    refine lv_aload_n hx hb dFo_decide_9 rfl (lv_at hl 1 rfl) ?_
    refine va_get (D := (dC, dI)) (ci := 1) (v := .int (ri 2)) (C := RRq) (T := TRq) (N := 6) hx hb hts inRq hown hK hP 5 rfl rfl 2 (by decide) (hts _ in_24) (fun _ h9 => h9) rfl dFo_decide_10 ?_
    refine lv_aload_n hx hb dFo_decide_13 rfl (lv_at hl 0 rfl) ?_
    refine va_get (D := (dC, dI)) (ci := 0) (v := .int (fi 1)) (C := RFo) (T := TFo) (N := 10) hx hb hts inFo hown hK hP 0 rfl rfl 1 (by decide) (hts _ in_6) (fun _ h9 => h9) rfl dFo_decide_14 ?_
    refine lv_icmp_le (tgt := 22) hx hb dFo_decide_17 (by decide) (fun c_2 => ?_) (fun c_2 => ?_)
    · skip
      refine lv_aload_n hx hb dFo_decide_22 rfl (lv_at hl 1 rfl) ?_
      refine va_get (D := (dC, dI)) (ci := 1) (v := .int (ri 1)) (C := RRq) (T := TRq) (N := 6) hx hb hts inRq hown hK hP 5 rfl rfl 1 (by decide) (hts _ in_25) (fun _ h9 => h9) rfl dFo_decide_23 ?_
      refine lv_aload_n hx hb dFo_decide_26 rfl (lv_at hl 0 rfl) ?_
      refine va_get (D := (dC, dI)) (ci := 0) (v := .ref f3) (C := RFo) (T := TFo) (N := 10) hx hb hts inFo hown hK hP 0 rfl rfl 8 (by decide) (hts _ in_26) (fun _ h9 => h9) rfl dFo_decide_27 ?_
      refine lv_aload_n hx hb dFo_decide_30 rfl (lv_at hl 1 rfl) ?_
      refine va_get (D := (dC, dI)) (ci := 1) (v := .int (ri 0)) (C := RRq) (T := TRq) (N := 6) hx hb hts inRq hown hK hP 5 rfl rfl 0 (by decide) (hts _ in_27) (fun _ h9 => h9) rfl dFo_decide_31 ?_
      refine vq_iald (k := se) (f := fa 2) hx hb hK hP 3 0 rfl rfl hse hs16 (by decide) dFo_decide_34 ?_
      refine lv_icmp_gt (tgt := 40) hx hb dFo_decide_35 (by decide) (fun c_3 => ?_) (fun c_3 => ?_)
      · skip
        refine lv_aload_n hx hb dFo_decide_40 rfl (lv_at hl 1 rfl) ?_
        refine va_get (D := (dC, dI)) (ci := 1) (v := .int (ri 2)) (C := RRq) (T := TRq) (N := 6) hx hb hts inRq hown hK hP 5 rfl rfl 2 (by decide) (hts _ in_24) (fun _ h9 => h9) rfl dFo_decide_41 ?_
        refine lv_aload_n hx hb dFo_decide_44 rfl (lv_at hl 0 rfl) ?_
        have hPc := hP.sub (ws' := (wF f f1 f2 f3 f4 cI fi fa)) [0, 1, 2, 3, 4] rfl
        have hKc := hK.sub (tys' := [(cI, .int)]) [0] rfl
        refine vp_callSi (W.runV (As := []) (rest := [.int (ri 2)]) ⟨hx, hb, hml, hown, hts⟩ (k_F_oldest l dC dI f f1 f2 f3 f4 cI fi fa) (cwV 0 hts (gd_V in_28 in_30 in_31 in_17 in_29) rfl rfl rfl (by decide +kernel) ⟨Nat.le_of_ble_eq_true rfl, Nat.le_of_ble_eq_true rfl⟩) ⟨fun a U g mk q => by obtain ⟨q0, qP, qK⟩ := q; exact ⟨q0, qP, va_K.moved (u := U) (U := U.calling g mk a) (Vm.Alike.refl U.vm) qK⟩, va_recv hKc hPc (ci := 0) (q0 := 0) rfl rfl, fun U hU hW => ⟨rfl, by rw [hU]; exact hPc, va_K.moved hW.alike hKc⟩⟩ rfl rfl hl.1 rfl (lv_room (Nat.le_of_ble_eq_true rfl)) dFo_decide_45 ⟨Nat.le_of_ble_eq_true rfl, Nat.le_of_ble_eq_true rfl⟩) (fun r_4 er_5 => ?_)
        subst er_5
        refine lv_icmp_ge (tgt := 53) hx hb dFo_decide_48 (by decide) (fun c_6 => ?_) (fun c_6 => ?_)
        · skip
          refine lv_aload_n hx hb dFo_decide_53 rfl (lv_at hl 1 rfl) ?_
          refine va_get (D := (dC, dI)) (ci := 1) (v := .int (ri 3)) (C := RRq) (T := TRq) (N := 6) hx hb hts inRq hown hK hP 5 rfl rfl 3 (by decide) (hts _ in_32) (fun _ h9 => h9) rfl dFo_decide_54 ?_
          refine lv_aload_n hx hb dFo_decide_57 rfl (lv_at hl 0 rfl) ?_
          refine lv_aload_n hx hb dFo_decide_58 rfl (lv_at hl 1 rfl) ?_
          refine va_get (D := (dC, dI)) (ci := 1) (v := .int (ri 2)) (C := RRq) (T := TRq) (N := 6) hx hb hts inRq hown hK hP 5 rfl rfl 2 (by decide) (hts _ in_24) (fun _ h9 => h9) rfl dFo_decide_59 ?_
          have hPc := hP.sub (ws' := (wF f f1 f2 f3 f4 cI fi fa)) [0, 1, 2, 3, 4] rfl
          have hKc := hK.sub (tys' := [(cI, .int)]) [0] rfl
          refine vp_callSi (W.runV (As := [.int (ri 2)]) (rest := [.int (ri 3)]) ⟨hx, hb, hml, hown, hts⟩ (k_F_keysAfter l dC dI f f1 f2 f3 f4 cI fi fa (ri 2)) (cwV 1 hts (gd_V in_33 in_35 in_36 in_17 in_34) rfl rfl rfl (by decide +kernel) ⟨Nat.le_of_ble_eq_true rfl, Nat.le_of_ble_eq_true rfl⟩) ⟨fun a U g mk q => by obtain ⟨q0, qP, qK⟩ := q; exact ⟨q0, qP, va_K.moved (u := U) (U := U.calling g mk a) (Vm.Alike.refl U.vm) qK⟩, va_recv hKc hPc (ci := 0) (q0 := 0) rfl rfl, fun U hU hW => ⟨rfl, by rw [hU]; exact hPc, va_K.moved hW.alike hKc⟩⟩ rfl rfl hl.1 rfl (lv_room (Nat.le_of_ble_eq_true rfl)) dFo_decide_62 ⟨Nat.le_of_ble_eq_true rfl, Nat.le_of_ble_eq_true rfl⟩) (fun r_7 er_8 => ?_)
          subst er_8
          refine lv_iand hx hb dFo_decide_65 ?_
          refine lv_if_eq (tgt := 73) hx hb dFo_decide_66 (by decide) (fun c_9 => ?_) (fun c_9 => ?_)
          · skip
            refine lv_iconst (v := 0) hx hb dFo_decide_73 (by decide) ?_
            refine lv_istore_n (lv' := [(2, .int 0), (0, .ref f), (1, .ref r)]) hx hb dFo_decide_74 rfl hl (by decide) rfl (fun ls hl => ?_)
            refine lv_iload_n hx hb dFo_decide_75 rfl (lv_at hl 0 rfl) ?_
            refine lv_if_eq (tgt := 83) hx hb dFo_decide_76 (by decide) (fun _ => ?_) (fun c_10 => absurd c_10 (by decide))
            refine lv_iconst (v := 1) hx hb dFo_decide_83 (by decide) ?_
            exact W.iret (v := 1) hx hb hr (fun t ht hW => ⟨1, rfl, by simp only [s_dec, if_neg c_1, if_pos c_2, if_pos c_3, if_pos c_6, if_pos c_9], ht⟩) (fun q h => by cases h) dFo_decide_84
          · skip
            refine lv_iconst (v := 1) hx hb dFo_decide_69 (by decide) ?_
            refine lv_goto (tgt := 74) hx hb dFo_decide_70 (by decide) ?_
            refine lv_istore_n (lv' := [(2, .int 1), (0, .ref f), (1, .ref r)]) hx hb dFo_decide_74 rfl hl (by decide) rfl (fun ls hl => ?_)
            refine lv_iload_n hx hb dFo_decide_75 rfl (lv_at hl 0 rfl) ?_
            refine lv_if_eq (tgt := 83) hx hb dFo_decide_76 (by decide) (fun c_11 => absurd c_11 (by decide)) (fun _ => ?_)
            refine lv_iconst (v := 2) hx hb dFo_decide_79 (by decide) ?_
            refine lv_goto (tgt := 84) hx hb dFo_decide_80 (by decide) ?_
            exact W.iret (v := 2) hx hb hr (fun t ht hW => ⟨2, rfl, by simp only [s_dec, if_neg c_1, if_pos c_2, if_pos c_3, if_pos c_6, if_neg c_9], ht⟩) (fun q h => by cases h) dFo_decide_84
        · skip
          refine lv_iconst (v := 2) hx hb dFo_decide_51 (by decide) ?_
          exact W.iret (v := 2) hx hb hr (fun t ht hW => ⟨2, rfl, by simp only [s_dec, if_neg c_1, if_pos c_2, if_pos c_3, if_neg c_6], ht⟩) (fun q h => by cases h) dFo_decide_52
      · skip
        refine lv_iconst (v := 0) hx hb dFo_decide_38 (by decide) ?_
        exact W.iret (v := 0) hx hb hr (fun t ht hW => ⟨0, rfl, by simp only [s_dec, if_neg c_1, if_pos c_2, if_neg c_3], ht⟩) (fun q h => by cases h) dFo_decide_39
    · skip
      refine lv_iconst (v := (-1)) hx hb dFo_decide_20 (by decide) ?_
      exact W.iret (v := (-1)) hx hb hr (fun t ht hW => ⟨(-1), rfl, by simp only [s_dec, if_neg c_1, if_neg c_2], ht⟩) (fun q h => by cases h) dFo_decide_21
end
section
set_option maxHeartbeats 4000000 in
set_option maxRecDepth 100000 in
/-- hasSessionsOf(other) -/
theorem k_F_hasS (l : Launch) (dC : Nat → ClassId) (dI : Nat → Nat → Nat) (f f1 f2 f3 f4 : Nat) (cI : ClassId) (fi : Nat → Int32) (fa : Nat → Nat → Int32) (g g1 g2 g3 g4 : Nat) (gi : Nat → Int32) (ga : Nat → Nat → Int32) : Met l yFo_hasSessionsOf wsFo_hasSessionsOf ({ frames := 1, cells := 0, slots := 0, locals := 40 }) (va_Pc [.ref f, .ref g] (fun U => va_P (dC, dI) vwCl (wF f f1 f2 f3 f4 cI fi fa ++ wF g g1 g2 g3 g4 cI gi ga) U.heap ∧ va_K (dC, dI) vwCl [(cI, .int)] U)) (vp_Si (fun r => r = s_hs (fa 2) (ga 2) (fa 3) (ga 3) 16 0)) 0 0 (fun _ => False) := by
  refine Met.ofW (cc := cFo_hasSessionsOf) (maxL := 3) (ret := (some .boolean)) (by decide) rfl ?_
  intro p e s m args below meth c s₁ B hml hv
  obtain ⟨rfl, hP, hK⟩ := hv
  have hx := B.exec
  have hb := B.bytes
  have hr := B.returns
  have hts0 := atoms_spec (ws := wsFo_hasSessionsOf) B.pre
  have hts := fun (w : Cond) (h : w ∈ lw_g) => hts0 w (List.mem_cons_of_mem _ h)
  have hown : s.vm.findClass RFo = some m.cls := findClass_of_methodNamed B.named
  have hlocks := B.notSynchronized
  have hl := lv_entry ([.ref f, .ref g]) (n := 3) (Nat.le_of_ble_eq_true rfl)
  rw [lg_entry_eq]
  generalize (lg_sl ([.ref f, .ref g]) ++ List.replicate (3 - (lg_sl ([.ref f, .ref g])).length) Slot.unset).toArray = ls at hl ⊢
  have hl : lv_has ls 3 [(0, .ref f), (1, .ref g)] := hl
  refine lv_iconst (v := 0) hx hb dFo_hasSessionsOf_0 (by decide) ?_
  refine lv_istore_n (lv' := [(2, .int 0), (0, .ref f), (1, .ref g)]) hx hb dFo_hasSessionsOf_1 rfl hl (by decide) rfl (fun ls hl => ?_)
  refine wl_ro (σ := Nat × Array Slot) (fun z9 => F0 m 2 z9.2 []) (fun z9 => z9.1 ≤ 16 ∧ s_hs (fa 2) (ga 2) (fa 3) (ga 3) 16 0 = s_hs (fa 2) (ga 2) (fa 3) (ga 3) (16 - z9.1) z9.1 ∧ lv_has z9.2 3 [(2, .int (nI z9.1)), (0, .ref f), (1, .ref g)]) (fun z9 => 16 - z9.1) ?_ (0, ls) ⟨by omega, rfl, lv_sub hl [0, 1, 2] rfl⟩
  rintro ⟨k, ls⟩ ⟨hk, hE, hl⟩ ih
  have hE : s_hs (fa 2) (ga 2) (fa 3) (ga 3) 16 0 = s_hs (fa 2) (ga 2) (fa 3) (ga 3) (16 - k) k := hE
  have hk : k ≤ 16 := hk
  have hl : lv_has ls 3 [(2, .int (nI k)), (0, .ref f), (1, .ref g)] := hl
  show W p l e _ s m _ below meth c _ _ _ _ _ (F0 m 2 ls [])
  refine lv_iload_n hx hb dFo_hasSessionsOf_2 rfl (lv_at hl 0 rfl) ?_
  refine lv_bipush (v := nI 16) hx hb dFo_hasSessionsOf_3 (by decide) ?_
  refine lv_icmp_ge (tgt := 46) hx hb dFo_hasSessionsOf_5 (by decide) (fun c_1 => ?_) (fun c_1 => ?_)
  · skip
    have hk9 : k = 16 := lp_x (by decide) hk c_1
    subst hk9
    refine lv_iconst (v := 1) hx hb dFo_hasSessionsOf_46 (by decide) ?_
    exact W.zret (v := 1) (ty := .boolean) hx hb hr rfl (fun t ht hW => ⟨1, rfl, hE.symm, ht⟩) (fun q h => by cases h) dFo_hasSessionsOf_47
  · skip
    have hk : k < 16 := lp_c (by decide) hk c_1
    rw [show 16 - k = (16 - (k + 1)) + 1 by omega] at hE
    refine lv_aload_n hx hb dFo_hasSessionsOf_8 rfl (lv_at hl 1 rfl) ?_
    refine va_get (D := (dC, dI)) (ci := 0) (v := .ref f3) (C := RFo) (T := TFo) (N := 10) hx hb hts inFo hown hK hP 0 rfl rfl 8 (by decide) (hts _ in_26) (fun _ h9 => h9) rfl dFo_hasSessionsOf_9 ?_
    refine lv_iload_n hx hb dFo_hasSessionsOf_12 rfl (lv_at hl 0 rfl) ?_
    refine vq_iald (k := k) (f := fa 2) hx hb hK hP 3 0 rfl rfl rfl (by omega) (by decide) dFo_hasSessionsOf_13 ?_
    refine lv_aload_n hx hb dFo_hasSessionsOf_14 rfl (lv_at hl 2 rfl) ?_
    refine va_get (D := (dC, dI)) (ci := 0) (v := .ref g3) (C := RFo) (T := TFo) (N := 10) hx hb hts inFo hown hK hP 5 rfl rfl 8 (by decide) (hts _ in_26) (fun _ h9 => h9) rfl dFo_hasSessionsOf_15 ?_
    refine lv_iload_n hx hb dFo_hasSessionsOf_18 rfl (lv_at hl 0 rfl) ?_
    refine vq_iald (k := k) (f := ga 2) hx hb hK hP 8 0 rfl rfl rfl (by omega) (by decide) dFo_hasSessionsOf_19 ?_
    refine lv_icmp_ne (tgt := 38) hx hb dFo_hasSessionsOf_20 (by decide) (fun c_2 => ?_) (fun c_2 => ?_)
    · skip
      refine lv_iconst (v := 0) hx hb dFo_hasSessionsOf_38 (by decide) ?_
      exact W.zret (v := 0) (ty := .boolean) hx hb hr rfl (fun t ht hW => ⟨0, rfl, by rw [hE]; simp only [s_hs, if_neg c_2], ht⟩) (fun q h => by cases h) dFo_hasSessionsOf_39
    · skip
      refine lv_aload_n hx hb dFo_hasSessionsOf_23 rfl (lv_at hl 1 rfl) ?_
      refine va_get (D := (dC, dI)) (ci := 0) (v := .ref f4) (C := RFo) (T := TFo) (N := 10) hx hb hts inFo hown hK hP 0 rfl rfl 9 (by decide) (hts _ in_37) (fun _ h9 => h9) rfl dFo_hasSessionsOf_24 ?_
      refine lv_iload_n hx hb dFo_hasSessionsOf_27 rfl (lv_at hl 0 rfl) ?_
      refine vq_iald (k := k) (f := fa 3) hx hb hK hP 4 0 rfl rfl rfl (by omega) (by decide) dFo_hasSessionsOf_28 ?_
      refine lv_aload_n hx hb dFo_hasSessionsOf_29 rfl (lv_at hl 2 rfl) ?_
      refine va_get (D := (dC, dI)) (ci := 0) (v := .ref g4) (C := RFo) (T := TFo) (N := 10) hx hb hts inFo hown hK hP 5 rfl rfl 9 (by decide) (hts _ in_37) (fun _ h9 => h9) rfl dFo_hasSessionsOf_30 ?_
      refine lv_iload_n hx hb dFo_hasSessionsOf_33 rfl (lv_at hl 0 rfl) ?_
      refine vq_iald (k := k) (f := ga 3) hx hb hK hP 9 0 rfl rfl rfl (by omega) (by decide) dFo_hasSessionsOf_34 ?_
      refine lv_icmp_eq (tgt := 40) hx hb dFo_hasSessionsOf_35 (by decide) (fun c_3 => ?_) (fun c_3 => ?_)
      · skip
        refine lv_iinc (v := nI (k + 1)) (lv' := [(2, .int (nI (k + 1))), (0, .ref f), (1, .ref g)]) hx hb dFo_hasSessionsOf_40 hl (k := 0) rfl (by first | exact nI_1 _ | (show _ + (1 : Int32) = _; exact nI_1 _)) (by decide) rfl (fun ls hl => ?_)
        refine lv_goto (tgt := 2) hx hb dFo_hasSessionsOf_43 (by decide) ?_
        have hl9 : lv_has ls 3 [(2, .int (nI (k + 1))), (0, .ref f), (1, .ref g)] := by first | exact lv_sub hl [0, 1, 2] rfl | (simp only [s_hs, if_pos c_2, if_pos c_3]; exact lv_sub hl [0, 1, 2] rfl)
        have hE9 : s_hs (fa 2) (ga 2) (fa 3) (ga 3) 16 0 = s_hs (fa 2) (ga 2) (fa 3) (ga 3) (16 - (k + 1)) (k + 1) := by rw [hE]; simp only [s_hs, if_pos c_2, if_pos c_3]
        exact ih (k + 1, ls) ⟨hk, hE9, hl9⟩ (by show 16 - (k + 1) < 16 - k; omega)
      · skip
        refine lv_iconst (v := 0) hx hb dFo_hasSessionsOf_38 (by decide) ?_
        exact W.zret (v := 0) (ty := .boolean) hx hb hr rfl (fun t ht hW => ⟨0, rfl, by rw [hE]; simp only [s_hs, if_pos c_2, if_neg c_3], ht⟩) (fun q h => by cases h) dFo_hasSessionsOf_39
set_option maxHeartbeats 4000000 in
set_option maxRecDepth 100000 in
/-- hasKeysOf(other) -/
theorem k_F_hasK (l : Launch) (dC : Nat → ClassId) (dI : Nat → Nat → Nat) (f f1 f2 f3 f4 : Nat) (cI : ClassId) (fi : Nat → Int32) (fa : Nat → Nat → Int32) (g g1 g2 g3 g4 : Nat) (gi : Nat → Int32) (ga : Nat → Nat → Int32) (n : Nat) (hn : n < 2 ^ 31) (hix : fi 1 = nI n) : Met l yFo_hasKeysOf wsFo_hasKeysOf ({ frames := 3, cells := 0, slots := 0, locals := 120 }) (va_Pc [.ref f, .ref g] (fun U => va_P (dC, dI) vwCl (wF f f1 f2 f3 f4 cI fi fa ++ wF g g1 g2 g3 g4 cI gi ga) U.heap ∧ va_K (dC, dI) vwCl [(cI, .int)] U)) (vp_Si (fun r => r = s_hk (fa 1) (ga 1) (fa 0) (ga 0) (fi 1 - fi 0) (n % 17 * 16) 16 0)) 0 0 (fun _ => False) := by
  refine Met.ofW (cc := cFo_hasKeysOf) (maxL := 6) (ret := (some .boolean)) (by decide) rfl ?_
  intro p e s m args below meth c s₁ B hml hv
  obtain ⟨rfl, hP, hK⟩ := hv
  have hx := B.exec
  have hb := B.bytes
  have hr := B.returns
  have hts0 := atoms_spec (ws := wsFo_hasKeysOf) B.pre
  have hts := fun (w : Cond) (h : w ∈ lw_g) => hts0 w (List.mem_cons_of_mem _ h)
  have hown : s.vm.findClass RFo = some m.cls := findClass_of_methodNamed B.named
  have hlocks := B.notSynchronized
  have hl := lv_entry ([.ref f, .ref g]) (n := 6) (Nat.le_of_ble_eq_true rfl)
  rw [lg_entry_eq]
  generalize (lg_sl ([.ref f, .ref g]) ++ List.replicate (6 - (lg_sl ([.ref f, .ref g])).length) Slot.unset).toArray = ls at hl ⊢
  have hl : lv_has ls 6 [(0, .ref f), (1, .ref g)] := hl
  refine lv_aload_n hx hb dFo_hasKeysOf_0 rfl (lv_at hl 0 rfl) ?_
  have hPc := hP.sub (ws' := (wF f f1 f2 f3 f4 cI fi fa)) [0, 1, 2, 3, 4] rfl
  have hKc := hK.sub (tys' := [(cI, .int)]) [0] rfl
  refine vp_callSi (W.runV (As := []) (rest := []) ⟨hx, hb, hml, hown, hts⟩ (k_F_oldest l dC dI f f1 f2 f3 f4 cI fi fa) (cwV 0 hts (gd_V in_28 in_30 in_31 in_17 in_29) rfl rfl rfl (by decide +kernel) ⟨Nat.le_of_ble_eq_true rfl, Nat.le_of_ble_eq_true rfl⟩) ⟨fun a U g mk q => by obtain ⟨q0, qP, qK⟩ := q; exact ⟨q0, qP, va_K.moved (u := U) (U := U.calling g mk a) (Vm.Alike.refl U.vm) qK⟩, va_recv hKc hPc (ci := 0) (q0 := 0) rfl rfl, fun U hU hW => ⟨rfl, by rw [hU]; exact hPc, va_K.moved hW.alike hKc⟩⟩ rfl rfl hl.1 rfl (lv_room (Nat.le_of_ble_eq_true rfl)) dFo_hasKeysOf_1 ⟨Nat.le_of_ble_eq_true rfl, Nat.le_of_ble_eq_true rfl⟩) (fun r_1 er_2 => ?_)
  subst er_2
  refine lv_istore_n (lv' := [(2, .int (fi 1 - fi 0)), (0, .ref f), (1, .ref g)]) hx hb dFo_hasKeysOf_4 rfl hl (by decide) rfl (fun ls hl => ?_)
  refine lv_iconst (v := 0) hx hb dFo_hasKeysOf_5 (by decide) ?_
  refine lv_istore_n (lv' := [(3, .int 0), (2, .int (fi 1 - fi 0)), (0, .ref f), (1, .ref g)]) hx hb dFo_hasKeysOf_6 rfl hl (by decide) rfl (fun ls hl => ?_)
  refine wl_ro (σ := Nat × Array Slot) (fun z9 => F0 m 7 z9.2 []) (fun z9 => z9.1 ≤ 16 ∧ s_hk (fa 1) (ga 1) (fa 0) (ga 0) (fi 1 - fi 0) (n % 17 * 16) 16 0 = s_hk (fa 1) (ga 1) (fa 0) (ga 0) (fi 1 - fi 0) (n % 17 * 16) (16 - z9.1) z9.1 ∧ lv_has z9.2 6 [(3, .int (nI z9.1)), (2, .int (fi 1 - fi 0)), (0, .ref f), (1, .ref g)]) (fun z9 => 16 - z9.1) ?_ (0, ls) ⟨by omega, rfl, lv_sub hl [0, 1, 2, 3] rfl⟩
  rintro ⟨k, ls⟩ ⟨hk, hE, hl⟩ ih
  have hE : s_hk (fa 1) (ga 1) (fa 0) (ga 0) (fi 1 - fi 0) (n % 17 * 16) 16 0 = s_hk (fa 1) (ga 1) (fa 0) (ga 0) (fi 1 - fi 0) (n % 17 * 16) (16 - k) k := hE
  have hk : k ≤ 16 := hk
  have hl : lv_has ls 6 [(3, .int (nI k)), (2, .int (fi 1 - fi 0)), (0, .ref f), (1, .ref g)] := hl
  show W p l e _ s m _ below meth c _ _ _ _ _ (F0 m 7 ls [])
  refine lv_iload_n hx hb dFo_hasKeysOf_7 rfl (lv_at hl 0 rfl) ?_
  refine lv_bipush (v := nI 16) hx hb dFo_hasKeysOf_8 (by decide) ?_
  refine lv_icmp_ge (tgt := 73) hx hb dFo_hasKeysOf_10 (by decide) (fun c_3 => ?_) (fun c_3 => ?_)
  · skip
    have hk9 : k = 16 := lp_x (by decide) hk c_3
    subst hk9
    refine lv_iconst (v := 1) hx hb dFo_hasKeysOf_73 (by decide) ?_
    exact W.zret (v := 1) (ty := .boolean) hx hb hr rfl (fun t ht hW => ⟨1, rfl, hE.symm, ht⟩) (fun q h => by cases h) dFo_hasKeysOf_74
  · skip
    have hk : k < 16 := lp_c (by decide) hk c_3
    rw [show 16 - k = (16 - (k + 1)) + 1 by omega] at hE
    refine lv_aload_n hx hb dFo_hasKeysOf_13 rfl (lv_at hl 2 rfl) ?_
    refine va_get (D := (dC, dI)) (ci := 0) (v := .ref f2) (C := RFo) (T := TFo) (N := 10) hx hb hts inFo hown hK hP 0 rfl rfl 7 (by decide) (hts _ in_12) (fun _ h9 => h9) rfl dFo_hasKeysOf_14 ?_
    refine lv_iload_n hx hb dFo_hasKeysOf_17 rfl (lv_at hl 0 rfl) ?_
    refine vq_iald (k := k) (f := fa 1) hx hb hK hP 2 0 rfl rfl rfl (by omega) (by decide) dFo_hasKeysOf_18 ?_
    refine lv_iload_n hx hb dFo_hasKeysOf_19 rfl (lv_at hl 1 rfl) ?_
    refine va_mmax hx hb (hml.trans hl.1.symm) hown (hts _ in_8) (hts _ in_9) (hts _ in_10) (hts _ in_11) (Nat.le_of_ble_eq_true rfl) (Nat.le_of_ble_eq_true rfl) (Nat.le_of_ble_eq_true rfl) (Nat.le_of_ble_eq_true rfl) dFo_hasKeysOf_20 ?_
    refine lv_ri (y := s_max ((fa 1) k) (fi 1 - fi 0)) rfl ?_
    refine lv_istore (lv' := [(4, .int (s_max ((fa 1) k) (fi 1 - fi 0))), (3, .int (nI k)), (2, .int (fi 1 - fi 0)), (0, .ref f), (1, .ref g)]) hx hb dFo_hasKeysOf_23 hl (by decide) rfl (fun ls hl => ?_)
    refine lv_aload_n hx hb dFo_hasKeysOf_25 rfl (lv_at hl 4 rfl) ?_
    refine va_get (D := (dC, dI)) (ci := 0) (v := .ref g2) (C := RFo) (T := TFo) (N := 10) hx hb hts inFo hown hK hP 5 rfl rfl 7 (by decide) (hts _ in_12) (fun _ h9 => h9) rfl dFo_hasKeysOf_26 ?_
    refine lv_iload_n hx hb dFo_hasKeysOf_29 rfl (lv_at hl 1 rfl) ?_
    refine vq_iald (k := k) (f := ga 1) hx hb hK hP 7 0 rfl rfl rfl (by omega) (by decide) dFo_hasKeysOf_30 ?_
    refine lv_iload_n hx hb dFo_hasKeysOf_31 rfl (lv_at hl 2 rfl) ?_
    refine va_mmax hx hb (hml.trans hl.1.symm) hown (hts _ in_8) (hts _ in_9) (hts _ in_10) (hts _ in_11) (Nat.le_of_ble_eq_true rfl) (Nat.le_of_ble_eq_true rfl) (Nat.le_of_ble_eq_true rfl) (Nat.le_of_ble_eq_true rfl) dFo_hasKeysOf_32 ?_
    refine lv_ri (y := s_max ((ga 1) k) (fi 1 - fi 0)) rfl ?_
    refine lv_istore (lv' := [(5, .int (s_max ((ga 1) k) (fi 1 - fi 0))), (4, .int (s_max ((fa 1) k) (fi 1 - fi 0))), (3, .int (nI k)), (2, .int (fi 1 - fi 0)), (0, .ref f), (1, .ref g)]) hx hb dFo_hasKeysOf_35 hl (by decide) rfl (fun ls hl => ?_)
    refine lv_iload hx hb dFo_hasKeysOf_37 (lv_at hl 1 rfl) ?_
    refine lv_iload hx hb dFo_hasKeysOf_39 (lv_at hl 0 rfl) ?_
    refine lv_icmp_ne (tgt := 65) hx hb dFo_hasKeysOf_41 (by decide) (fun c_4 => ?_) (fun c_4 => ?_)
    · skip
      refine lv_iconst (v := 0) hx hb dFo_hasKeysOf_65 (by decide) ?_
      exact W.zret (v := 0) (ty := .boolean) hx hb hr rfl (fun t ht hW => ⟨0, rfl, by rw [hE]; simp only [s_hk, if_neg c_4], ht⟩) (fun q h => by cases h) dFo_hasKeysOf_66
    · skip
      refine lv_aload_n hx hb dFo_hasKeysOf_44 rfl (lv_at hl 4 rfl) ?_
      refine lv_iload_n hx hb dFo_hasKeysOf_45 rfl (lv_at hl 2 rfl) ?_
      refine lv_aload_n hx hb dFo_hasKeysOf_46 rfl (lv_at hl 4 rfl) ?_
      refine va_get (D := (dC, dI)) (ci := 0) (v := .int (fi 1)) (C := RFo) (T := TFo) (N := 10) hx hb hts inFo hown hK hP 0 rfl rfl 1 (by decide) (hts _ in_6) (fun _ h9 => h9) rfl dFo_hasKeysOf_47 ?_
      refine lv_ri (y := nI n) hix ?_
      have hPc := hP.sub (ws' := (wF f f1 f2 f3 f4 cI fi fa)) [0, 1, 2, 3, 4] rfl
      have hKc := hK.sub (tys' := [(cI, .int)]) [0] rfl
      refine vp_callSi (W.runV (As := [.int (nI k), .int (nI n)]) (rest := []) ⟨hx, hb, hml, hown, hts⟩ (k_F_valueAt l dC dI f f1 f2 f3 f4 cI fi fa k n (by omega) hn) (cwV 2 hts (gd_V in_19 in_21 in_22 in_17 in_20) rfl rfl rfl (by decide +kernel) ⟨Nat.le_of_ble_eq_true rfl, Nat.le_of_ble_eq_true rfl⟩) ⟨fun a U g mk q => by obtain ⟨q0, qP, qK⟩ := q; exact ⟨q0, qP, va_K.moved (u := U) (U := U.calling g mk a) (Vm.Alike.refl U.vm) qK⟩, va_recv hKc hPc (ci := 0) (q0 := 0) rfl rfl, fun U hU hW => ⟨rfl, by rw [hU]; exact hPc, va_K.moved hW.alike hKc⟩⟩ rfl rfl hl.1 rfl (lv_room (Nat.le_of_ble_eq_true rfl)) dFo_hasKeysOf_50 ⟨Nat.le_of_ble_eq_true rfl, Nat.le_of_ble_eq_true rfl⟩) (fun r_5 er_6 => ?_)
      subst er_6
      refine lv_aload_n hx hb dFo_hasKeysOf_53 rfl (lv_at hl 5 rfl) ?_
      refine lv_iload_n hx hb dFo_hasKeysOf_54 rfl (lv_at hl 2 rfl) ?_
      refine lv_aload_n hx hb dFo_hasKeysOf_55 rfl (lv_at hl 4 rfl) ?_
      refine va_get (D := (dC, dI)) (ci := 0) (v := .int (fi 1)) (C := RFo) (T := TFo) (N := 10) hx hb hts inFo hown hK hP 0 rfl rfl 1 (by decide) (hts _ in_6) (fun _ h9 => h9) rfl dFo_hasKeysOf_56 ?_
      refine lv_ri (y := nI n) hix ?_
      have hPc := hP.sub (ws' := (wF g g1 g2 g3 g4 cI gi ga)) [5, 6, 7, 8, 9] rfl
      have hKc := hK.sub (tys' := [(cI, .int)]) [0] rfl
      refine vp_callSi (W.runV (As := [.int (nI k), .int (nI n)]) (rest := [.int (fa 0 (n % 17 * 16 + k))]) ⟨hx, hb, hml, hown, hts⟩ (k_F_valueAt l dC dI g g1 g2 g3 g4 cI gi ga k n (by omega) hn) (cwV 2 hts (gd_V in_19 in_21 in_22 in_17 in_20) rfl rfl rfl (by decide +kernel) ⟨Nat.le_of_ble_eq_true rfl, Nat.le_of_ble_eq_true rfl⟩) ⟨fun a U g mk q => by obtain ⟨q0, qP, qK⟩ := q; exact ⟨q0, qP, va_K.moved (u := U) (U := U.calling g mk a) (Vm.Alike.refl U.vm) qK⟩, va_recv hKc hPc (ci := 0) (q0 := 0) rfl rfl, fun U hU hW => ⟨rfl, by rw [hU]; exact hPc, va_K.moved hW.alike hKc⟩⟩ rfl rfl hl.1 rfl (lv_room (Nat.le_of_ble_eq_true rfl)) dFo_hasKeysOf_59 ⟨Nat.le_of_ble_eq_true rfl, Nat.le_of_ble_eq_true rfl⟩) (fun r_7 er_8 => ?_)
      subst er_8
      refine lv_icmp_eq (tgt := 67) hx hb dFo_hasKeysOf_62 (by decide) (fun c_9 => ?_) (fun c_9 => ?_)
      · skip
        refine lv_iinc (v := nI (k + 1)) (lv' := [(3, .int (nI (k + 1))), (5, .int (s_max ((ga 1) k) (fi 1 - fi 0))), (4, .int (s_max ((fa 1) k) (fi 1 - fi 0))), (2, .int (fi 1 - fi 0)), (0, .ref f), (1, .ref g)]) hx hb dFo_hasKeysOf_67 hl (k := 2) rfl (by first | exact nI_1 _ | (show _ + (1 : Int32) = _; exact nI_1 _)) (by decide) rfl (fun ls hl => ?_)
        refine lv_goto (tgt := 7) hx hb dFo_hasKeysOf_70 (by decide) ?_
        have hl9 : lv_has ls 6 [(3, .int (nI (k + 1))), (2, .int (fi 1 - fi 0)), (0, .ref f), (1, .ref g)] := by first | exact lv_sub hl [0, 3, 4, 5] rfl | (simp only [s_hk, if_pos c_4, if_pos c_9]; exact lv_sub hl [0, 3, 4, 5] rfl)
        have hE9 : s_hk (fa 1) (ga 1) (fa 0) (ga 0) (fi 1 - fi 0) (n % 17 * 16) 16 0 = s_hk (fa 1) (ga 1) (fa 0) (ga 0) (fi 1 - fi 0) (n % 17 * 16) (16 - (k + 1)) (k + 1) := by rw [hE]; simp only [s_hk, if_pos c_4, if_pos c_9]
        exact ih (k + 1, ls) ⟨hk, hE9, hl9⟩ (by show 16 - (k + 1) < 16 - k; omega)
      · skip
        refine lv_iconst (v := 0) hx hb dFo_hasKeysOf_65 (by decide) ?_
        exact W.zret (v := 0) (ty := .boolean) hx hb hr rfl (fun t ht hW => ⟨0, rfl, by rw [hE]; simp only [s_hk, if_pos c_4, if_neg c_9], ht⟩) (fun q h => by cases h) dFo_hasKeysOf_66
set_option maxHeartbeats 4000000 in
set_option maxRecDepth 100000 in
/-- isLike(other) -/
theorem k_F_isLike (l : Launch) (dC : Nat → ClassId) (dI : Nat → Nat → Nat) (f f1 f2 f3 f4 : Nat) (cI : ClassId) (fi : Nat → Int32) (fa : Nat → Nat → Int32) (g g1 g2 g3 g4 : Nat) (gi : Nat → Int32) (ga : Nat → Nat → Int32) (n : Nat) (hn : n < 2 ^ 31) (hix : fi 1 = nI n) : Met l yFo_isLike wsFo_isLike ({ frames := 4, cells := 0, slots := 0, locals := 160 }) (va_Pc [.ref f, .ref g] (fun U => va_P (dC, dI) vwCl (wF f f1 f2 f3 f4 cI fi fa ++ wF g g1 g2 g3 g4 cI gi ga) U.heap ∧ va_K (dC, dI) vwCl [(cI, .int)] U)) (vp_Si (fun r => r = s_like fi fa gi ga n)) 0 0 (fun _ => False) := by
  refine Met.ofW (cc := cFo_isLike) (maxL := 2) (ret := (some .boolean)) (by decide) rfl ?_
  intro p e s m args below meth c s₁ B hml hv
  obtain ⟨rfl, hP, hK⟩ := hv
  have hx := B.exec
  have hb := B.bytes
  have hr := B.returns
  have hts0 := atoms_spec (ws := wsFo_isLike) B.pre
  have hts := fun (w : Cond) (h : w ∈ lw_g) => hts0 w (List.mem_cons_of_mem _ h)
  have hown : s.vm.findClass RFo = some m.cls := findClass_of_methodNamed B.named
  have hlocks := B.notSynchronized
  have hl := lv_entry ([.ref f, .ref g]) (n := 2) (Nat.le_of_ble_eq_true rfl)
  rw [lg_entry_eq]
  generalize (lg_sl ([.ref f, .ref g]) ++ List.replicate (2 - (lg_sl ([.ref f, .ref g])).length) Slot.unset).toArray = ls at hl ⊢
  have hl : lv_has ls 2 [(0, .ref f), (1, .ref g)] := hl
  refine lv_aload_n hx hb dFo_isLike_0 rfl (lv_at hl 0 rfl) ?_
  refine va_get (D := (dC, dI)) (ci := 0) (v := .int (fi 1)) (C := RFo) (T := TFo) (N := 10) hx hb hts inFo hown hK hP 0 rfl rfl 1 (by decide) (hts _ in_6) (fun _ h9 => h9) rfl dFo_isLike_1 ?_
  refine lv_aload_n hx hb dFo_isLike_4 rfl (lv_at hl 1 rfl) ?_
  refine va_get (D := (dC, dI)) (ci := 0) (v := .int (gi 1)) (C := RFo) (T := TFo) (N := 10) hx hb hts inFo hown hK hP 5 rfl rfl 1 (by decide) (hts _ in_6) (fun _ h9 => h9) rfl dFo_isLike_5 ?_
  refine lv_icmp_ne (tgt := 31) hx hb dFo_isLike_8 (by decide) (fun c_1 => ?_) (fun c_1 => ?_)
  · skip
    refine lv_iconst (v := 0) hx hb dFo_isLike_31 (by decide) ?_
    exact W.zret (v := 0) (ty := .boolean) hx hb hr rfl (fun t ht hW => ⟨0, rfl, by unfold s_like; simp only [if_neg c_1], ht⟩) (fun q h => by cases h) dFo_isLike_32
  · skip
    refine lv_aload_n hx hb dFo_isLike_11 rfl (lv_at hl 0 rfl) ?_
    refine lv_aload_n hx hb dFo_isLike_12 rfl (lv_at hl 1 rfl) ?_
    have hPc := hP.sub (ws' := (wF f f1 f2 f3 f4 cI fi fa ++ wF g g1 g2 g3 g4 cI gi ga)) [0, 1, 2, 3, 4, 5, 6, 7, 8, 9] rfl
    have hKc := hK.sub (tys' := [(cI, .int)]) [0] rfl
    refine vp_callSi (W.runV (As := [.ref g]) (rest := []) ⟨hx, hb, hml, hown, hts⟩ (k_F_hasK l dC dI f f1 f2 f3 f4 cI fi fa g g1 g2 g3 g4 gi ga n hn hix) (cwV 1 hts (gd_V in_38 in_40 in_41 in_17 in_39) rfl rfl rfl (by decide +kernel) ⟨Nat.le_of_ble_eq_true rfl, Nat.le_of_ble_eq_true rfl⟩) ⟨fun a U g mk q => by obtain ⟨q0, qP, qK⟩ := q; exact ⟨q0, qP, va_K.moved (u := U) (U := U.calling g mk a) (Vm.Alike.refl U.vm) qK⟩, va_recv hKc hPc (ci := 0) (q0 := 0) rfl rfl, fun U hU hW => ⟨rfl, by rw [hU]; exact hPc, va_K.moved hW.alike hKc⟩⟩ rfl rfl hl.1 rfl (lv_room (Nat.le_of_ble_eq_true rfl)) dFo_isLike_13 ⟨Nat.le_of_ble_eq_true rfl, Nat.le_of_ble_eq_true rfl⟩) (fun r_2 er_3 => ?_)
    subst er_3
    refine lv_if_eq (tgt := 31) hx hb dFo_isLike_16 (by decide) (fun c_4 => ?_) (fun c_4 => ?_)
    · skip
      refine lv_iconst (v := 0) hx hb dFo_isLike_31 (by decide) ?_
      exact W.zret (v := 0) (ty := .boolean) hx hb hr rfl (fun t ht hW => ⟨0, rfl, by unfold s_like; simp only [if_pos c_1, if_pos c_4], ht⟩) (fun q h => by cases h) dFo_isLike_32
    · skip
      refine lv_aload_n hx hb dFo_isLike_19 rfl (lv_at hl 0 rfl) ?_
      refine lv_aload_n hx hb dFo_isLike_20 rfl (lv_at hl 1 rfl) ?_
      have hPc := hP.sub (ws' := (wF f f1 f2 f3 f4 cI fi fa ++ wF g g1 g2 g3 g4 cI gi ga)) [0, 1, 2, 3, 4, 5, 6, 7, 8, 9] rfl
      have hKc := hK.sub (tys' := [(cI, .int)]) [0] rfl
      refine vp_callSi (W.runV (As := [.ref g]) (rest := []) ⟨hx, hb, hml, hown, hts⟩ (k_F_hasS l dC dI f f1 f2 f3 f4 cI fi fa g g1 g2 g3 g4 gi ga) (cwV 1 hts (gd_V in_42 in_44 in_45 in_17 in_43) rfl rfl rfl (by decide +kernel) ⟨Nat.le_of_ble_eq_true rfl, Nat.le_of_ble_eq_true rfl⟩) ⟨fun a U g mk q => by obtain ⟨q0, qP, qK⟩ := q; exact ⟨q0, qP, va_K.moved (u := U) (U := U.calling g mk a) (Vm.Alike.refl U.vm) qK⟩, va_recv hKc hPc (ci := 0) (q0 := 0) rfl rfl, fun U hU hW => ⟨rfl, by rw [hU]; exact hPc, va_K.moved hW.alike hKc⟩⟩ rfl rfl hl.1 rfl (lv_room (Nat.le_of_ble_eq_true rfl)) dFo_isLike_21 ⟨Nat.le_of_ble_eq_true rfl, Nat.le_of_ble_eq_true rfl⟩) (fun r_5 er_6 => ?_)
      subst er_6
      refine lv_if_eq (tgt := 31) hx hb dFo_isLike_24 (by decide) (fun c_7 => ?_) (fun c_7 => ?_)
      · skip
        refine lv_iconst (v := 0) hx hb dFo_isLike_31 (by decide) ?_
        exact W.zret (v := 0) (ty := .boolean) hx hb hr rfl (fun t ht hW => ⟨0, rfl, by unfold s_like; simp only [if_pos c_1, if_neg c_4, if_pos c_7], ht⟩) (fun q h => by cases h) dFo_isLike_32
      · skip
        refine lv_iconst (v := 1) hx hb dFo_isLike_27 (by decide) ?_
        refine lv_goto (tgt := 32) hx hb dFo_isLike_28 (by decide) ?_
        exact W.zret (v := 1) (ty := .boolean) hx hb hr rfl (fun t ht hW => ⟨1, rfl, by unfold s_like; simp only [if_pos c_1, if_neg c_4, if_neg c_7], ht⟩) (fun q h => by cases h) dFo_isLike_32
end
section
set_option maxHeartbeats 4000000 in
set_option maxRecDepth 100000 in
/-- openNextRow() -/
theorem k_F_open (l : Launch) (dC : Nat → ClassId) (dI : Nat → Nat → Nat) (sz : Nat) (f f1 f2 f3 f4 : Nat) (cI : ClassId) (fi : Nat → Int32) (fa : Nat → Nat → Int32) (n : Nat) (hn : n < 2 ^ 30) (hix : fi 1 = nI n) : Met l yFo_openNextRow wsFo_openNextRow ({ frames := 2, cells := 0, slots := 0, locals := 80 }) (va_Pc [.ref f] (fun U => U.heap.size = sz ∧ va_P (dC, dI) vwCl (wF f f1 f2 f3 f4 cI fi fa) U.heap ∧ va_K (dC, dI) vwCl [(cI, .int)] U ∧ va_D (fun _ => True) (wF f f1 f2 f3 f4 cI fi fa))) (va_Qv (fun (_ : Unit) => True) (fun _ t => va_P (dC, dI) vwCl (wF f f1 f2 f3 f4 cI (s_opi fi) (s_opa fa n)) t.heap ∧ va_K (dC, dI) vwCl [(cI, .int)] t ∧ va_D (va_A (wF f f1 f2 f3 f4 cI fi fa) sz) (wF f f1 f2 f3 f4 cI (s_opi fi) (s_opa fa n))) (va_A (wF f f1 f2 f3 f4 cI fi fa) sz)) 0 0 (va_A (wF f f1 f2 f3 f4 cI fi fa) sz) := by
  refine Met.ofW (cc := cFo_openNextRow) (maxL := 2) (ret := none) (by decide) rfl ?_
  intro p e s m args below meth c s₁ B hml hv
  obtain ⟨rfl, hsz, hP, hK, hD0⟩ := hv
  have hx := B.exec
  have hb := B.bytes
  have hr := B.returns
  have hts0 := atoms_spec (ws := wsFo_openNextRow) B.pre
  have hts := fun (w : Cond) (h : w ∈ lw_g) => hts0 w (List.mem_cons_of_mem _ h)
  have hown : s.vm.findClass RFo = some m.cls := findClass_of_methodNamed B.named
  have hlocks := B.notSynchronized
  subst hsz
  have hD := hD0.self (sz := s.heap.size)
  generalize hAe : va_A (wF f f1 f2 f3 f4 cI fi fa) s.heap.size = A at hD ⊢
  have hA : ∀ q : Nat, s.heap.size ≤ q → A q := fun q h => by rw [← hAe]; exact Or.inr h
  have hS : va_S A s.heap s.heap [] := va_S.rf
  have hP : va_P (dC, dI) vwCl (wF f f1 f2 f3 f4 cI fi fa) s.heap := hP
  have hl := lv_entry ([.ref f]) (n := 2) (Nat.le_of_ble_eq_true rfl)
  rw [lg_entry_eq]
  generalize (lg_sl ([.ref f]) ++ List.replicate (2 - (lg_sl ([.ref f])).length) Slot.unset).toArray = ls at hl ⊢
  have hl : lv_has ls 2 [(0, .ref f)] := hl
  refine lv_aload_n hx hb dFo_openNextRow_0 rfl (lv_at hl 0 rfl) ?_
  refine va_get (D := (dC, dI)) (ci := 0) (v := .int (fi 1)) (C := RFo) (T := TFo) (N := 10) hx hb hts inFo hown hK hP 0 rfl rfl 1 (by decide) (hts _ in_6) (fun _ h9 => h9) rfl dFo_openNextRow_1 ?_
  refine lv_ri (y := nI n) hix ?_
  refine vp_callSi (W.runS (As := [.int (nI n)]) (rest := []) ⟨hx, hb, hml, hown, hts⟩ (k_F_rowStart l n (by omega)) (va_cwS 1 hts (gd_S in_15 in_18 in_17 in_16) rfl rfl rfl (by decide +kernel) ⟨Nat.le_of_ble_eq_true rfl, Nat.le_of_ble_eq_true rfl⟩) ⟨fun a U g mk q => q, fun U hU hW => ⟨rfl, trivial⟩⟩ rfl rfl hl.1 rfl (lv_room (Nat.le_of_ble_eq_true rfl)) dFo_openNextRow_4 ⟨Nat.le_of_ble_eq_true rfl, Nat.le_of_ble_eq_true rfl⟩) (fun r_1 er_2 => ?_)
  subst er_2
  refine lv_istore_n (lv' := [(1, .int (nI (n % 17 * 16))), (0, .ref f)]) hx hb dFo_openNextRow_7 rfl hl (by decide) rfl (fun ls hl => ?_)
  refine lv_aload_n hx hb dFo_openNextRow_8 rfl (lv_at hl 1 rfl) ?_
  refine lv_dup hx hb dFo_openNextRow_9 rfl ?_
  refine va_get (D := (dC, dI)) (ci := 0) (v := .int (fi 1)) (C := RFo) (T := TFo) (N := 10) hx hb hts inFo hown hK hP 0 rfl rfl 1 (by decide) (hts _ in_6) (fun _ h9 => h9) rfl dFo_openNextRow_10 ?_
  refine lv_iconst (v := 1) hx hb dFo_openNextRow_13 (by decide) ?_
  refine lv_iadd hx hb dFo_openNextRow_14 ?_
  refine va_put (D := (dC, dI)) (ci := 0) (v := .int ((fi 1) + 1)) (ty := .int) (C := RFo) (T := TFo) (N := 10) hx hb hts inFo tyFo tyFo_ok nmFo hown hK hP hD hS 0 rfl rfl 1 (by decide) (hts _ in_6) (fun _ h9 => h9) rfl (by decide +kernel) rfl rfl (Nat.le_of_ble_eq_true rfl) dFo_openNextRow_15 (fun H locs hP hD hS => ?_)
  have hP : va_P (dC, dI) vwCl (wF f f1 f2 f3 f4 cI (va_up fi 1 ((fi 1) + 1)) fa) H := hP
  have hD : va_D A (wF f f1 f2 f3 f4 cI (va_up fi 1 ((fi 1) + 1)) fa) := hD
  refine lv_aload_n hx hb dFo_openNextRow_18 rfl (lv_at hl 1 rfl) ?_
  refine va_get (D := (dC, dI)) (ci := 0) (v := .ref f1) (C := RFo) (T := TFo) (N := 10) hx hb hts inFo hown hK hP 0 rfl rfl 6 (by decide) (hts _ in_14) (fun _ h9 => h9) rfl dFo_openNextRow_19 ?_
  refine lv_iload_n hx hb dFo_openNextRow_22 rfl (lv_at hl 0 rfl) ?_
  refine lv_aload_n hx hb dFo_openNextRow_23 rfl (lv_at hl 1 rfl) ?_
  refine va_get (D := (dC, dI)) (ci := 0) (v := .ref f1) (C := RFo) (T := TFo) (N := 10) hx hb hts inFo hown hK hP 0 rfl rfl 6 (by decide) (hts _ in_14) (fun _ h9 => h9) rfl dFo_openNextRow_24 ?_
  refine lv_aload_n hx hb dFo_openNextRow_27 rfl (lv_at hl 1 rfl) ?_
  refine va_get (D := (dC, dI)) (ci := 0) (v := .int ((fi 1) + 1)) (C := RFo) (T := TFo) (N := 10) hx hb hts inFo hown hK hP 0 rfl rfl 1 (by decide) (hts _ in_6) (fun _ h9 => h9) rfl dFo_openNextRow_28 ?_
  refine lv_ri (y := nI (n + 1)) (by rw [hix]; exact nI_1 n) ?_
  refine vp_callSi (W.runS (As := [.int (nI (n + 1))]) (rest := [.ref f1, .int (nI (n % 17 * 16)), .ref f1]) ⟨hx, hb, hml, hown, hts⟩ (k_F_rowStart l (n + 1) (by omega)) (va_cwS 1 hts (gd_S in_15 in_18 in_17 in_16) rfl rfl rfl (by decide +kernel) ⟨Nat.le_of_ble_eq_true rfl, Nat.le_of_ble_eq_true rfl⟩) ⟨fun a U g mk q => q, fun U hU hW => ⟨rfl, trivial⟩⟩ rfl rfl hl.1 rfl (lv_room (Nat.le_of_ble_eq_true rfl)) dFo_openNextRow_31 ⟨Nat.le_of_ble_eq_true rfl, Nat.le_of_ble_eq_true rfl⟩) (fun r_3 er_4 => ?_)
  subst er_4
  refine lv_bipush (v := nI 16) hx hb dFo_openNextRow_34 (by decide) ?_
  refine vq_copyi (x := (n % 17 * 16)) (y := ((n + 1) % 17 * 16)) (z := 16) hx hb (hml.trans hl.1.symm) hown (hts _ in_46) (hts _ in_47) (hts _ in_48) (hts _ in_49) hK hP hD hS 1 1 0 rfl rfl rfl rfl rfl rfl (by omega) (by omega) (by decide) (by decide) (Nat.le_of_ble_eq_true rfl) (Nat.le_of_ble_eq_true rfl) dFo_openNextRow_36 (fun H locs hP hD hS => ?_)
  have hP : va_P (dC, dI) vwCl (wF f f1 f2 f3 f4 cI (va_up fi 1 ((fi 1) + 1)) (va_up fa 0 (va_cpy (fa 0) (fa 0) (n % 17 * 16) ((n + 1) % 17 * 16) 16))) H := hP
  have hD : va_D A (wF f f1 f2 f3 f4 cI (va_up fi 1 ((fi 1) + 1)) (va_up fa 0 (va_cpy (fa 0) (fa 0) (n % 17 * 16) ((n + 1) % 17 * 16) 16))) := hD
  refine lv_aload_n hx hb dFo_openNextRow_39 rfl (lv_at hl 1 rfl) ?_
  refine lv_aload_n hx hb dFo_openNextRow_40 rfl (lv_at hl 1 rfl) ?_
  refine va_get (D := (dC, dI)) (ci := 0) (v := .int (fi 2)) (C := RFo) (T := TFo) (N := 10) hx hb hts inFo hown hK hP 0 rfl rfl 2 (by decide) (hts _ in_13) (fun _ h9 => h9) rfl dFo_openNextRow_41 ?_
  refine lv_aload_n hx hb dFo_openNextRow_44 rfl (lv_at hl 1 rfl) ?_
  refine va_get (D := (dC, dI)) (ci := 0) (v := .int ((fi 1) + 1)) (C := RFo) (T := TFo) (N := 10) hx hb hts inFo hown hK hP 0 rfl rfl 1 (by decide) (hts _ in_6) (fun _ h9 => h9) rfl dFo_openNextRow_45 ?_
  refine lv_aload_n hx hb dFo_openNextRow_48 rfl (lv_at hl 1 rfl) ?_
  refine va_get (D := (dC, dI)) (ci := 0) (v := .int (fi 0)) (C := RFo) (T := TFo) (N := 10) hx hb hts inFo hown hK hP 0 rfl rfl 0 (by decide) (hts _ in_7) (fun _ h9 => h9) rfl dFo_openNextRow_49 ?_
  refine lv_isub hx hb dFo_openNextRow_52 ?_
  refine va_mmax hx hb (hml.trans hl.1.symm) hown (hts _ in_8) (hts _ in_9) (hts _ in_10) (hts _ in_11) (Nat.le_of_ble_eq_true rfl) (Nat.le_of_ble_eq_true rfl) (Nat.le_of_ble_eq_true rfl) (Nat.le_of_ble_eq_true rfl) dFo_openNextRow_53 ?_
  refine lv_ri (y := s_max (fi 2) (((fi 1) + 1) - (fi 0))) rfl ?_
  refine va_put (D := (dC, dI)) (ci := 0) (v := .int (s_max (fi 2) (((fi 1) + 1) - (fi 0)))) (ty := .int) (C := RFo) (T := TFo) (N := 10) hx hb hts inFo tyFo tyFo_ok nmFo hown hK hP hD hS 0 rfl rfl 2 (by decide) (hts _ in_13) (fun _ h9 => h9) rfl (by decide +kernel) rfl rfl (Nat.le_of_ble_eq_true rfl) dFo_openNextRow_56 (fun H locs hP hD hS => ?_)
  have hP : va_P (dC, dI) vwCl (wF f f1 f2 f3 f4 cI (va_up (va_up fi 1 ((fi 1) + 1)) 2 (s_max (fi 2) (((fi 1) + 1) - (fi 0)))) (va_up fa 0 (va_cpy (fa 0) (fa 0) (n % 17 * 16) ((n + 1) % 17 * 16) 16))) H := hP
  have hD : va_D A (wF f f1 f2 f3 f4 cI (va_up (va_up fi 1 ((fi 1) + 1)) 2 (s_max (fi 2) (((fi 1) + 1) - (fi 0)))) (va_up fa 0 (va_cpy (fa 0) (fa 0) (n % 17 * 16) ((n + 1) % 17 * 16) 16))) := hD
  have hP9 : va_P (dC, dI) vwCl (wF f f1 f2 f3 f4 cI (s_opi fi) (s_opa fa n)) H := by exact hP
  have hD9 : va_D A (wF f f1 f2 f3 f4 cI (s_opi fi) (s_opa fa n)) := by exact hD
  exact W.vret hx hb hr (fun t ht hW => ⟨⟨(), rfl, trivial, by rw [ht]; exact hP9, va_K.moved hW.alike hK, hD9⟩, hS.F ht⟩) hS.2.2 dFo_openNextRow_59
set_option maxHeartbeats 4000000 in
set_option maxRecDepth 100000 in
/-- store(request) -/
theorem k_F_store (l : Launch) (dC : Nat → ClassId) (dI : Nat → Nat → Nat) (sz : Nat) (f f1 f2 f3 f4 : Nat) (cI : ClassId) (fi : Nat → Int32) (fa : Nat → Nat → Int32) (r ra : Nat) (ri rv : Nat → Int32) (n : Nat) (hn : n < 2 ^ 31) (hix : fi 1 = nI n) : Met l yFo_store wsFo_store ({ frames := 2, cells := 0, slots := 0, locals := 80 }) (va_Pc [.ref f, .ref r] (fun U => U.heap.size = sz ∧ va_P (dC, dI) vwCl (wF f f1 f2 f3 f4 cI fi fa ++ wR r ra cI ri rv) U.heap ∧ va_K (dC, dI) vwCl [(cI, .int)] U ∧ va_D (fun _ => True) (wF f f1 f2 f3 f4 cI fi fa ++ wR r ra cI ri rv))) (va_Qv (fun (_ : Unit) => True) (fun _ t => va_P (dC, dI) vwCl (wF f f1 f2 f3 f4 cI fi (s_st (ri 4) rv n fa 16) ++ wR r ra cI ri rv) t.heap ∧ va_K (dC, dI) vwCl [(cI, .int)] t ∧ va_D (va_A (wF f f1 f2 f3 f4 cI fi fa ++ wR r ra cI ri rv) sz) (wF f f1 f2 f3 f4 cI fi (s_st (ri 4) rv n fa 16) ++ wR r ra cI ri rv)) (va_A (wF f f1 f2 f3 f4 cI fi fa ++ wR r ra cI ri rv) sz)) 0 0 (va_A (wF f f1 f2 f3 f4 cI fi fa ++ wR r ra cI ri rv) sz) := by
  refine Met.ofW (cc := cFo_store) (maxL := 4) (ret := none) (by decide) rfl ?_
  intro p e s m args below meth c s₁ B hml hv
  obtain ⟨rfl, hsz, hP, hK, hD0⟩ := hv
  have hx := B.exec
  have hb := B.bytes
  have hr := B.returns
  have hts0 := atoms_spec (ws := wsFo_store) B.pre
  have hts := fun (w : Cond) (h : w ∈ lw_g) => hts0 w (List.mem_cons_of_mem _ h)
  have hown : s.vm.findClass RFo = some m.cls := findClass_of_methodNamed B.named
  have hlocks := B.notSynchronized
  subst hsz
  have hD := hD0.self (sz := s.heap.size)
  generalize hAe : va_A (wF f f1 f2 f3 f4 cI fi fa ++ wR r ra cI ri rv) s.heap.size = A at hD ⊢
  have hA : ∀ q : Nat, s.heap.size ≤ q → A q := fun q h => by rw [← hAe]; exact Or.inr h
  have hS : va_S A s.heap s.heap [] := va_S.rf
  have hP : va_P (dC, dI) vwCl (wF f f1 f2 f3 f4 cI fi fa ++ wR r ra cI ri rv) s.heap := hP
  have hl := lv_entry ([.ref f, .ref r]) (n := 4) (Nat.le_of_ble_eq_true rfl)
  rw [lg_entry_eq]
  generalize (lg_sl ([.ref f, .ref r]) ++ List.replicate (4 - (lg_sl ([.ref f, .ref r])).length) Slot.unset).toArray = ls at hl ⊢
  have hl : lv_has ls 4 [(0, .ref f), (1, .ref r)] := hl
  refine lv_aload_n hx hb dFo_store_0 rfl (lv_at hl 0 rfl) ?_
  refine va_get (D := (dC, dI)) (ci := 0) (v := .int (fi 1)) (C := RFo) (T := TFo) (N := 10) hx hb hts inFo hown hK hP 0 rfl rfl 1 (by decide) (hts _ in_6) (fun _ h9 => h9) rfl dFo_store_1 ?_
  refine lv_ri (y := nI n) hix ?_
  refine vp_callSi (W.runS (As := [.int (nI n)]) (rest := []) ⟨hx, hb, hml, hown, hts⟩ (k_F_rowStart l n (by omega)) (va_cwS 1 hts (gd_S in_15 in_18 in_17 in_16) rfl rfl rfl (by decide +kernel) ⟨Nat.le_of_ble_eq_true rfl, Nat.le_of_ble_eq_true rfl⟩) ⟨fun a U g mk q => q, fun U hU hW => ⟨rfl, trivial⟩⟩ rfl rfl hl.1 rfl (lv_room (Nat.le_of_ble_eq_true rfl)) dFo_store_4 ⟨Nat.le_of_ble_eq_true rfl, Nat.le_of_ble_eq_true rfl⟩) (fun r_1 er_2 => ?_)
  subst er_2
  refine lv_istore_n (lv' := [(2, .int (nI (n % 17 * 16))), (0, .ref f), (1, .ref r)]) hx hb dFo_store_7 rfl hl (by decide) rfl (fun ls hl => ?_)
  refine lv_iconst (v := 0) hx hb dFo_store_8 (by decide) ?_
  refine lv_istore_n (lv' := [(3, .int 0), (2, .int (nI (n % 17 * 16))), (0, .ref f), (1, .ref r)]) hx hb dFo_store_9 rfl hl (by decide) rfl (fun ls hl => ?_)
  refine wl_rw (σ := Nat × Heap × List Loc × Array Slot) (fun z9 => (z9.2.1, z9.2.2.1, F0 m 10 z9.2.2.2 [])) (fun z9 => z9.1 ≤ 16 ∧ va_P (dC, dI) vwCl (wF f f1 f2 f3 f4 cI fi (s_st (ri 4) rv n fa z9.1) ++ wR r ra cI ri rv) z9.2.1 ∧ va_D A (wF f f1 f2 f3 f4 cI fi (s_st (ri 4) rv n fa z9.1) ++ wR r ra cI ri rv) ∧ va_S A s.heap z9.2.1 z9.2.2.1 ∧ lv_has z9.2.2.2 4 [(3, .int (nI z9.1)), (2, .int (nI (n % 17 * 16))), (0, .ref f), (1, .ref r)]) (fun z9 => 16 - z9.1) ?_ (0, s.heap, [], ls) ⟨by omega, hP, hD, hS, lv_sub hl [0, 1, 2, 3] rfl⟩
  rintro ⟨k, H, locs, ls⟩ ⟨hk, hP, hD, hS, hl⟩ ih
  have hk : k ≤ 16 := hk
  have hP : va_P (dC, dI) vwCl (wF f f1 f2 f3 f4 cI fi (s_st (ri 4) rv n fa k) ++ wR r ra cI ri rv) H := hP
  have hD : va_D A (wF f f1 f2 f3 f4 cI fi (s_st (ri 4) rv n fa k) ++ wR r ra cI ri rv) := hD
  have hS : va_S A s.heap H locs := hS
  have hl : lv_has ls 4 [(3, .int (nI k)), (2, .int (nI (n % 17 * 16))), (0, .ref f), (1, .ref r)] := hl
  show W p l e _ s m _ below meth c H locs _ _ _ (F0 m 10 ls [])
  refine lv_iload_n hx hb dFo_store_10 rfl (lv_at hl 0 rfl) ?_
  refine lv_bipush (v := nI 16) hx hb dFo_store_11 (by decide) ?_
  refine lv_icmp_ge (tgt := 54) hx hb dFo_store_13 (by decide) (fun c_3 => ?_) (fun c_3 => ?_)
  · skip
    have hk9 : k = 16 := lp_x (by decide) hk c_3
    subst hk9
    have hP9 : va_P (dC, dI) vwCl (wF f f1 f2 f3 f4 cI fi (s_st (ri 4) rv n fa 16) ++ wR r ra cI ri rv) H := by exact hP
    have hD9 : va_D A (wF f f1 f2 f3 f4 cI fi (s_st (ri 4) rv n fa 16) ++ wR r ra cI ri rv) := by exact hD
    exact W.vret hx hb hr (fun t ht hW => ⟨⟨(), rfl, trivial, by rw [ht]; exact hP9, va_K.moved hW.alike hK, hD9⟩, hS.F ht⟩) hS.2.2 dFo_store_54
  · skip
    have hk : k < 16 := lp_c (by decide) hk c_3
    refine lv_aload_n hx hb dFo_store_16 rfl (lv_at hl 3 rfl) ?_
    refine lv_iload_n hx hb dFo_store_17 rfl (lv_at hl 0 rfl) ?_
    have hPc := hP.sub (ws' := (wR r ra cI ri rv)) [5, 6] rfl
    have hKc := hK.sub (tys' := [(cI, .int)]) [0] rfl
    refine vp_callSi (W.runV (As := [.int (nI k)]) (rest := []) ⟨hx, hb, hml, hown, hts⟩ (k_R_hasWrite l dC dI r ra cI ri rv (nI k)) (cwV 1 hts (gd_V in_50 in_53 in_54 in_52 in_51) rfl rfl rfl (by decide +kernel) ⟨Nat.le_of_ble_eq_true rfl, Nat.le_of_ble_eq_true rfl⟩) ⟨fun a U g mk q => by obtain ⟨q0, qP, qK⟩ := q; exact ⟨q0, qP, va_K.moved (u := U) (U := U.calling g mk a) (Vm.Alike.refl U.vm) qK⟩, va_recv hKc hPc (ci := 1) (q0 := 0) rfl rfl, fun U hU hW => ⟨rfl, by rw [hU]; exact hPc, va_K.moved hW.alike hKc⟩⟩ rfl rfl hl.1 rfl (lv_room (Nat.le_of_ble_eq_true rfl)) dFo_store_18 ⟨Nat.le_of_ble_eq_true rfl, Nat.le_of_ble_eq_true rfl⟩) (fun r_4 er_5 => ?_)
    subst er_5
    refine lv_if_eq (tgt := 48) hx hb dFo_store_21 (by decide) (fun c_6 => ?_) (fun c_6 => ?_)
    · skip
      have c_6 : (ri 4 &&& ((1 : Int32) <<< (nI k &&& 31)) = 0) := ite01.mp c_6
      refine lv_iinc (v := nI (k + 1)) (lv' := [(3, .int (nI (k + 1))), (2, .int (nI (n % 17 * 16))), (0, .ref f), (1, .ref r)]) hx hb dFo_store_48 hl (k := 0) rfl (by first | exact nI_1 _ | (show _ + (1 : Int32) = _; exact nI_1 _)) (by decide) rfl (fun ls hl => ?_)
      refine lv_goto (tgt := 10) hx hb dFo_store_51 (by decide) ?_
      have hl9 : lv_has ls 4 [(3, .int (nI (k + 1))), (2, .int (nI (n % 17 * 16))), (0, .ref f), (1, .ref r)] := by first | exact lv_sub hl [0, 1, 2, 3] rfl | (simp only [s_st, if_pos c_6]; exact lv_sub hl [0, 1, 2, 3] rfl)
      have hP9 : va_P (dC, dI) vwCl (wF f f1 f2 f3 f4 cI fi (s_st (ri 4) rv n fa (k + 1)) ++ wR r ra cI ri rv) H := by first | exact hP | (simp only [s_st, if_pos c_6]; exact hP)
      have hD9 : va_D A (wF f f1 f2 f3 f4 cI fi (s_st (ri 4) rv n fa (k + 1)) ++ wR r ra cI ri rv) := by first | exact hD | (simp only [s_st, if_pos c_6]; exact hD)
      exact ih (k + 1, H, locs, ls) ⟨hk, hP9, hD9, hS, hl9⟩ (by show 16 - (k + 1) < 16 - k; omega)
    · skip
      have c_6 : ¬ (ri 4 &&& ((1 : Int32) <<< (nI k &&& 31)) = 0) := fun q => c_6 (ite01.mpr q)
      refine lv_aload_n hx hb dFo_store_24 rfl (lv_at hl 2 rfl) ?_
      refine va_get (D := (dC, dI)) (ci := 0) (v := .ref f1) (C := RFo) (T := TFo) (N := 10) hx hb hts inFo hown hK hP 0 rfl rfl 6 (by decide) (hts _ in_14) (fun _ h9 => h9) rfl dFo_store_25 ?_
      refine lv_iload_n hx hb dFo_store_28 rfl (lv_at hl 1 rfl) ?_
      refine lv_iload_n hx hb dFo_store_29 rfl (lv_at hl 0 rfl) ?_
      refine lv_iadd hx hb dFo_store_30 ?_
      refine lv_ri (y := nI ((n % 17 * 16) + k)) (nI_add _ _) ?_
      refine lv_aload_n hx hb dFo_store_31 rfl (lv_at hl 3 rfl) ?_
      refine va_get (D := (dC, dI)) (ci := 1) (v := .ref ra) (C := RRq) (T := TRq) (N := 6) hx hb hts inRq hown hK hP 5 rfl rfl 5 (by decide) (hts _ in_55) (fun _ h9 => h9) rfl dFo_store_32 ?_
      refine lv_iload_n hx hb dFo_store_35 rfl (lv_at hl 0 rfl) ?_
      refine vq_iald (k := k) (f := rv) hx hb hK hP 6 0 rfl rfl rfl (by omega) (by decide) dFo_store_36 ?_
      refine vq_iast (k := ((n % 17 * 16) + k)) (f := (s_st (ri 4) rv n fa k) 0) hx hb hK hP hD hS 1 0 rfl rfl rfl (by omega) (by decide) dFo_store_37 (fun H locs hP hD hS => ?_)
      have hP : va_P (dC, dI) vwCl (wF f f1 f2 f3 f4 cI fi (va_up (s_st (ri 4) rv n fa k) 0 (upd ((s_st (ri 4) rv n fa k) 0) ((n % 17 * 16) + k) (rv k))) ++ wR r ra cI ri rv) H := hP
      have hD : va_D A (wF f f1 f2 f3 f4 cI fi (va_up (s_st (ri 4) rv n fa k) 0 (upd ((s_st (ri 4) rv n fa k) 0) ((n % 17 * 16) + k) (rv k))) ++ wR r ra cI ri rv) := hD
      refine lv_aload_n hx hb dFo_store_38 rfl (lv_at hl 2 rfl) ?_
      refine va_get (D := (dC, dI)) (ci := 0) (v := .ref f2) (C := RFo) (T := TFo) (N := 10) hx hb hts inFo hown hK hP 0 rfl rfl 7 (by decide) (hts _ in_12) (fun _ h9 => h9) rfl dFo_store_39 ?_
      refine lv_iload_n hx hb dFo_store_42 rfl (lv_at hl 0 rfl) ?_
      refine lv_aload_n hx hb dFo_store_43 rfl (lv_at hl 2 rfl) ?_
      refine va_get (D := (dC, dI)) (ci := 0) (v := .int (fi 1)) (C := RFo) (T := TFo) (N := 10) hx hb hts inFo hown hK hP 0 rfl rfl 1 (by decide) (hts _ in_6) (fun _ h9 => h9) rfl dFo_store_44 ?_
      refine lv_ri (y := nI n) hix ?_
      refine vq_iast (k := k) (f := (s_st (ri 4) rv n fa k) 1) hx hb hK hP hD hS 2 0 rfl rfl rfl (by omega) (by decide) dFo_store_47 (fun H locs hP hD hS => ?_)
      have hP : va_P (dC, dI) vwCl (wF f f1 f2 f3 f4 cI fi (va_up (va_up (s_st (ri 4) rv n fa k) 0 (upd ((s_st (ri 4) rv n fa k) 0) ((n % 17 * 16) + k) (rv k))) 1 (upd ((s_st (ri 4) rv n fa k) 1) k (nI n))) ++ wR r ra cI ri rv) H := hP
      have hD : va_D A (wF f f1 f2 f3 f4 cI fi (va_up (va_up (s_st (ri 4) rv n fa k) 0 (upd ((s_st (ri 4) rv n fa k) 0) ((n % 17 * 16) + k) (rv k))) 1 (upd ((s_st (ri 4) rv n fa k) 1) k (nI n))) ++ wR r ra cI ri rv) := hD
      refine lv_iinc (v := nI (k + 1)) (lv' := [(3, .int (nI (k + 1))), (2, .int (nI (n % 17 * 16))), (0, .ref f), (1, .ref r)]) hx hb dFo_store_48 hl (k := 0) rfl (by first | exact nI_1 _ | (show _ + (1 : Int32) = _; exact nI_1 _)) (by decide) rfl (fun ls hl => ?_)
      refine lv_goto (tgt := 10) hx hb dFo_store_51 (by decide) ?_
      have hl9 : lv_has ls 4 [(3, .int (nI (k + 1))), (2, .int (nI (n % 17 * 16))), (0, .ref f), (1, .ref r)] := by first | exact lv_sub hl [0, 1, 2, 3] rfl | (simp only [s_st, if_neg c_6]; exact lv_sub hl [0, 1, 2, 3] rfl)
      have hP9 : va_P (dC, dI) vwCl (wF f f1 f2 f3 f4 cI fi (s_st (ri 4) rv n fa (k + 1)) ++ wR r ra cI ri rv) H := by first | exact hP | (simp only [s_st, if_neg c_6]; exact hP)
      have hD9 : va_D A (wF f f1 f2 f3 f4 cI fi (s_st (ri 4) rv n fa (k + 1)) ++ wR r ra cI ri rv) := by first | exact hD | (simp only [s_st, if_neg c_6]; exact hD)
      exact ih (k + 1, H, locs, ls) ⟨hk, hP9, hD9, hS, hl9⟩ (by show 16 - (k + 1) < 16 - k; omega)
set_option maxHeartbeats 4000000 in
set_option maxRecDepth 100000 in
/-- admit(request) -/
theorem k_F_admit (l : Launch) (dC : Nat → ClassId) (dI : Nat → Nat → Nat) (sz : Nat) (f f1 f2 f3 f4 : Nat) (cI : ClassId) (fi : Nat → Int32) (fa : Nat → Nat → Int32) (r ra : Nat) (ri rv : Nat → Int32) (n se : Nat) (hn : n < 2 ^ 30) (hix : fi 1 = nI n) (hse : ri 0 = nI se) (hs16 : se < 16) : Met l yFo_admit wsFo_admit ({ frames := 4, cells := 0, slots := 0, locals := 160 }) (va_Pc [.ref f, .ref r] (fun U => U.heap.size = sz ∧ va_P (dC, dI) vwCl (wF f f1 f2 f3 f4 cI fi fa ++ wR r ra cI ri rv) U.heap ∧ va_K (dC, dI) vwCl [(cI, .int)] U ∧ va_D (fun _ => True) (wF f f1 f2 f3 f4 cI fi fa ++ wR r ra cI ri rv))) (va_Qi (fun (r : Int32) (_ : Unit) => r = (s_adm fi fa ri rv n se).1) (fun _ t => va_P (dC, dI) vwCl (wF f f1 f2 f3 f4 cI ((s_adm fi fa ri rv n se).2.1) ((s_adm fi fa ri rv n se).2.2) ++ wR r ra cI ri rv) t.heap ∧ va_K (dC, dI) vwCl [(cI, .int)] t ∧ va_D (va_A (wF f f1 f2 f3 f4 cI fi fa ++ wR r ra cI ri rv) sz) (wF f f1 f2 f3 f4 cI ((s_adm fi fa ri rv n se).2.1) ((s_adm fi fa ri rv n se).2.2) ++ wR r ra cI ri rv)) (va_A (wF f f1 f2 f3 f4 cI fi fa ++ wR r ra cI ri rv) sz)) 0 0 (va_A (wF f f1 f2 f3 f4 cI fi fa ++ wR r ra cI ri rv) sz) := by
  refine Met.ofW (cc := cFo_admit) (maxL := 3) (ret := (some .int)) (by decide) rfl ?_
  intro p e s m args below meth c s₁ B hml hv
  obtain ⟨rfl, hsz, hP, hK, hD0⟩ := hv
  have hx := B.exec
  have hb := B.bytes
  have hr := B.returns
  have hts0 := atoms_spec (ws := wsFo_admit) B.pre
  have hts := fun (w : Cond) (h : w ∈ lw_g) => hts0 w (List.mem_cons_of_mem _ h)
  have hown : s.vm.findClass RFo = some m.cls := findClass_of_methodNamed B.named
  have hlocks := B.notSynchronized
  subst hsz
  have hD := hD0.self (sz := s.heap.size)
  generalize hAe : va_A (wF f f1 f2 f3 f4 cI fi fa ++ wR r ra cI ri rv) s.heap.size = A at hD ⊢
  have hA : ∀ q : Nat, s.heap.size ≤ q → A q := fun q h => by rw [← hAe]; exact Or.inr h
  have hS : va_S A s.heap s.heap [] := va_S.rf
  have hP : va_P (dC, dI) vwCl (wF f f1 f2 f3 f4 cI fi fa ++ wR r ra cI ri rv) s.heap := hP
  have hl := lv_entry ([.ref f, .ref r]) (n := 3) (Nat.le_of_ble_eq_true rfl)
  rw [lg_entry_eq]
  generalize (lg_sl ([.ref f, .ref r]) ++ List.replicate (3 - (lg_sl ([.ref f, .ref r])).length) Slot.unset).toArray = ls at hl ⊢
  have hl : lv_has ls 3 [(0, .ref f), (1, .ref r)] := hl
  refine lv_aload_n hx hb dFo_admit_0 rfl (lv_at hl 0 rfl) ?_
  refine lv_aload_n hx hb dFo_admit_1 rfl (lv_at hl 1 rfl) ?_
  have hPc := hP.sub (ws' := (wF f f1 f2 f3 f4 cI fi fa ++ wR r ra cI ri rv)) [0, 1, 2, 3, 4, 5, 6] rfl
  have hKc := hK.sub (tys' := [(cI, .int)]) [0] rfl
  refine vp_callSi (W.runV (As := [.ref r]) (rest := []) ⟨hx, hb, hml, hown, hts⟩ (k_F_decide l dC dI f f1 f2 f3 f4 cI fi fa r ra ri rv se hse hs16) (cwV 1 hts (gd_V in_56 in_58 in_59 in_17 in_57) rfl rfl rfl (by decide +kernel) ⟨Nat.le_of_ble_eq_true rfl, Nat.le_of_ble_eq_true rfl⟩) ⟨fun a U g mk q => by obtain ⟨q0, qP, qK⟩ := q; exact ⟨q0, qP, va_K.moved (u := U) (U := U.calling g mk a) (Vm.Alike.refl U.vm) qK⟩, va_recv hKc hPc (ci := 0) (q0 := 0) rfl rfl, fun U hU hW => ⟨rfl, by rw [hU]; exact hPc, va_K.moved hW.alike hKc⟩⟩ rfl rfl hl.1 rfl (lv_room (Nat.le_of_ble_eq_true rfl)) dFo_admit_2 ⟨Nat.le_of_ble_eq_true rfl, Nat.le_of_ble_eq_true rfl⟩) (fun r_1 er_2 => ?_)
  subst er_2
  refine lv_istore_n (lv' := [(2, .int (s_dec fi fa ri se)), (0, .ref f), (1, .ref r)]) hx hb dFo_admit_5 rfl hl (by decide) rfl (fun ls hl => ?_)
  refine lv_iload_n hx hb dFo_admit_6 rfl (lv_at hl 0 rfl) ?_
  refine lv_iconst (v := (-1)) hx hb dFo_admit_7 (by decide) ?_
  refine lv_icmp_ne (tgt := 13) hx hb dFo_admit_8 (by decide) (fun c_3 => ?_) (fun c_3 => ?_)
  · skip
    refine lv_aload_n hx hb dFo_admit_13 rfl (lv_at hl 1 rfl) ?_
    have hPc := hP.sub (ws' := (wF f f1 f2 f3 f4 cI fi fa)) [0, 1, 2, 3, 4] rfl
    have hDc := hD.sub (ws' := (wF f f1 f2 f3 f4 cI fi fa)) [0, 1, 2, 3, 4] (by decide) rfl
    have hKc := hK.sub (tys' := [(cI, .int)]) [0] rfl
    have hFc := va_free (wc := (wF f f1 f2 f3 f4 cI fi fa)) hD hS hA [0, 1, 2, 3, 4] rfl
    refine va_callv (va_runV (As := []) (rest := []) ⟨hx, hb, hml, hown, hts⟩ (k_F_open l dC dI s.heap.size f f1 f2 f3 f4 cI fi fa n hn hix) (cwV 0 hts (gd_V in_60 in_62 in_63 in_17 in_61) rfl rfl rfl (by decide +kernel) ⟨Nat.le_of_ble_eq_true rfl, Nat.le_of_ble_eq_true rfl⟩) ⟨fun a U g mk q => by obtain ⟨q0, q1, qP, qK, qD⟩ := q; exact ⟨q0, q1, qP, va_K.moved (u := U) (U := U.calling g mk a) (Vm.Alike.refl U.vm) qK, qD⟩, va_recv hKc hPc (ci := 0) (q0 := 0) rfl rfl, fun U hU hW => ⟨rfl, by rw [hU], by rw [hU]; exact hPc, va_K.moved hW.alike hKc, hDc.weaken (fun _ _ _ _ => trivial)⟩⟩ rfl rfl hl.1 rfl (lv_room (Nat.le_of_ble_eq_true rfl)) dFo_admit_14 ⟨Nat.le_of_ble_eq_true rfl, Nat.le_of_ble_eq_true rfl⟩) hS (fun q _ h => hFc q h) hFc (fun u t H1 locs ht hvm hw hB hz1 hk1 hS => ?_)
    obtain ⟨hP1, hK1, hD1⟩ := hB
    rw [ht] at hP1
    obtain ⟨hP, hD⟩ := va_join (wr := (wR r ra cI ri rv)) (w1 := (wF f f1 f2 f3 f4 cI (s_opi fi) (s_opa fa n))) hP hD [0, 1, 2, 3, 4] [5, 6] rfl rfl (by decide) (by decide) hk1 hFc hP1 hD1
    generalize H1 = H at hP hS ⊢
    have hP := hP.sub (ws' := (wF f f1 f2 f3 f4 cI (s_opi fi) (s_opa fa n) ++ wR r ra cI ri rv)) [2, 3, 4, 5, 6, 0, 1] rfl
    have hD := hD.sub (ws' := (wF f f1 f2 f3 f4 cI (s_opi fi) (s_opa fa n) ++ wR r ra cI ri rv)) [2, 3, 4, 5, 6, 0, 1] (by decide) rfl
    have hP : va_P (dC, dI) vwCl (wF f f1 f2 f3 f4 cI (s_opi fi) (s_opa fa n) ++ wR r ra cI ri rv) H := hP
    have hD : va_D A (wF f f1 f2 f3 f4 cI (s_opi fi) (s_opa fa n) ++ wR r ra cI ri rv) := hD
    refine lv_iload_n hx hb dFo_admit_17 rfl (lv_at hl 0 rfl) ?_
    refine lv_if_ne (tgt := 33) hx hb dFo_admit_18 (by decide) (fun c_5 => ?_) (fun c_5 => ?_)
    · skip
      refine lv_iload_n hx hb dFo_admit_33 rfl (lv_at hl 0 rfl) ?_
      refine lv_iconst (v := 1) hx hb dFo_admit_34 (by decide) ?_
      refine lv_icmp_ne (tgt := 56) hx hb dFo_admit_35 (by decide) (fun c_6 => ?_) (fun c_6 => ?_)
      · skip
        refine lv_aload_n hx hb dFo_admit_56 rfl (lv_at hl 1 rfl) ?_
        refine lv_dup hx hb dFo_admit_57 rfl ?_
        refine va_get (D := (dC, dI)) (ci := 0) (v := .int ((s_opi fi) 4)) (C := RFo) (T := TFo) (N := 10) hx hb hts inFo hown hK hP 0 rfl rfl 4 (by decide) (hts _ in_64) (fun _ h9 => h9) rfl dFo_admit_58 ?_
        refine lv_iconst (v := 1) hx hb dFo_admit_61 (by decide) ?_
        refine lv_iadd hx hb dFo_admit_62 ?_
        refine va_put (D := (dC, dI)) (ci := 0) (v := .int (((s_opi fi) 4) + 1)) (ty := .int) (C := RFo) (T := TFo) (N := 10) hx hb hts inFo tyFo tyFo_ok nmFo hown hK hP hD hS 0 rfl rfl 4 (by decide) (hts _ in_64) (fun _ h9 => h9) rfl (by decide +kernel) rfl rfl (Nat.le_of_ble_eq_true rfl) dFo_admit_63 (fun H locs hP hD hS => ?_)
        have hP : va_P (dC, dI) vwCl (wF f f1 f2 f3 f4 cI (va_up (s_opi fi) 4 (((s_opi fi) 4) + 1)) (s_opa fa n) ++ wR r ra cI ri rv) H := hP
        have hD : va_D A (wF f f1 f2 f3 f4 cI (va_up (s_opi fi) 4 (((s_opi fi) 4) + 1)) (s_opa fa n) ++ wR r ra cI ri rv) := hD
        refine lv_aload_n hx hb dFo_admit_66 rfl (lv_at hl 1 rfl) ?_
        refine va_get (D := (dC, dI)) (ci := 0) (v := .ref f3) (C := RFo) (T := TFo) (N := 10) hx hb hts inFo hown hK hP 0 rfl rfl 8 (by decide) (hts _ in_26) (fun _ h9 => h9) rfl dFo_admit_67 ?_
        refine lv_aload_n hx hb dFo_admit_70 rfl (lv_at hl 2 rfl) ?_
        refine va_get (D := (dC, dI)) (ci := 1) (v := .int (ri 0)) (C := RRq) (T := TRq) (N := 6) hx hb hts inRq hown hK hP 5 rfl rfl 0 (by decide) (hts _ in_27) (fun _ h9 => h9) rfl dFo_admit_71 ?_
        refine lv_aload_n hx hb dFo_admit_74 rfl (lv_at hl 2 rfl) ?_
        refine va_get (D := (dC, dI)) (ci := 1) (v := .int (ri 1)) (C := RRq) (T := TRq) (N := 6) hx hb hts inRq hown hK hP 5 rfl rfl 1 (by decide) (hts _ in_25) (fun _ h9 => h9) rfl dFo_admit_75 ?_
        refine vq_iast (k := se) (f := (s_opa fa n) 2) hx hb hK hP hD hS 3 0 rfl rfl hse hs16 (by decide) dFo_admit_78 (fun H locs hP hD hS => ?_)
        have hP : va_P (dC, dI) vwCl (wF f f1 f2 f3 f4 cI (va_up (s_opi fi) 4 (((s_opi fi) 4) + 1)) (va_up (s_opa fa n) 2 (upd ((s_opa fa n) 2) se (ri 1))) ++ wR r ra cI ri rv) H := hP
        have hD : va_D A (wF f f1 f2 f3 f4 cI (va_up (s_opi fi) 4 (((s_opi fi) 4) + 1)) (va_up (s_opa fa n) 2 (upd ((s_opa fa n) 2) se (ri 1))) ++ wR r ra cI ri rv) := hD
        refine lv_aload_n hx hb dFo_admit_79 rfl (lv_at hl 1 rfl) ?_
        refine va_get (D := (dC, dI)) (ci := 0) (v := .ref f4) (C := RFo) (T := TFo) (N := 10) hx hb hts inFo hown hK hP 0 rfl rfl 9 (by decide) (hts _ in_37) (fun _ h9 => h9) rfl dFo_admit_80 ?_
        refine lv_aload_n hx hb dFo_admit_83 rfl (lv_at hl 2 rfl) ?_
        refine va_get (D := (dC, dI)) (ci := 1) (v := .int (ri 0)) (C := RRq) (T := TRq) (N := 6) hx hb hts inRq hown hK hP 5 rfl rfl 0 (by decide) (hts _ in_27) (fun _ h9 => h9) rfl dFo_admit_84 ?_
        refine lv_iload_n hx hb dFo_admit_87 rfl (lv_at hl 0 rfl) ?_
        refine vq_iast (k := se) (f := (s_opa fa n) 3) hx hb hK hP hD hS 4 0 rfl rfl hse hs16 (by decide) dFo_admit_88 (fun H locs hP hD hS => ?_)
        have hP : va_P (dC, dI) vwCl (wF f f1 f2 f3 f4 cI (va_up (s_opi fi) 4 (((s_opi fi) 4) + 1)) (va_up (va_up (s_opa fa n) 2 (upd ((s_opa fa n) 2) se (ri 1))) 3 (upd ((s_opa fa n) 3) se (s_dec fi fa ri se))) ++ wR r ra cI ri rv) H := hP
        have hD : va_D A (wF f f1 f2 f3 f4 cI (va_up (s_opi fi) 4 (((s_opi fi) 4) + 1)) (va_up (va_up (s_opa fa n) 2 (upd ((s_opa fa n) 2) se (ri 1))) 3 (upd ((s_opa fa n) 3) se (s_dec fi fa ri se))) ++ wR r ra cI ri rv) := hD
        refine lv_iload_n hx hb dFo_admit_89 rfl (lv_at hl 0 rfl) ?_
        have hP9 : va_P (dC, dI) vwCl (wF f f1 f2 f3 f4 cI ((s_adm fi fa ri rv n se).2.1) ((s_adm fi fa ri rv n se).2.2) ++ wR r ra cI ri rv) H := by simp only [s_adm, if_neg c_3, if_neg c_5, if_neg c_6]; exact hP
        have hD9 : va_D A (wF f f1 f2 f3 f4 cI ((s_adm fi fa ri rv n se).2.1) ((s_adm fi fa ri rv n se).2.2) ++ wR r ra cI ri rv) := by simp only [s_adm, if_neg c_3, if_neg c_5, if_neg c_6]; exact hD
        exact W.iret (v := s_dec fi fa ri se) hx hb hr (fun t ht hW => ⟨⟨s_dec fi fa ri se, (), rfl, by simp only [s_adm, if_neg c_3, if_neg c_5, if_neg c_6], by rw [ht]; exact hP9, va_K.moved hW.alike hK, hD9⟩, hS.F ht⟩) hS.2.2 dFo_admit_90
      · skip
        refine lv_aload_n hx hb dFo_admit_38 rfl (lv_at hl 1 rfl) ?_
        refine lv_dup hx hb dFo_admit_39 rfl ?_
        refine va_get (D := (dC, dI)) (ci := 0) (v := .int ((s_opi fi) 3)) (C := RFo) (T := TFo) (N := 10) hx hb hts inFo hown hK hP 0 rfl rfl 3 (by decide) (hts _ in_65) (fun _ h9 => h9) rfl dFo_admit_40 ?_
        refine lv_iconst (v := 1) hx hb dFo_admit_43 (by decide) ?_
        refine lv_iadd hx hb dFo_admit_44 ?_
        refine va_put (D := (dC, dI)) (ci := 0) (v := .int (((s_opi fi) 3) + 1)) (ty := .int) (C := RFo) (T := TFo) (N := 10) hx hb hts inFo tyFo tyFo_ok nmFo hown hK hP hD hS 0 rfl rfl 3 (by decide) (hts _ in_65) (fun _ h9 => h9) rfl (by decide +kernel) rfl rfl (Nat.le_of_ble_eq_true rfl) dFo_admit_45 (fun H locs hP hD hS => ?_)
        have hP : va_P (dC, dI) vwCl (wF f f1 f2 f3 f4 cI (va_up (s_opi fi) 3 (((s_opi fi) 3) + 1)) (s_opa fa n) ++ wR r ra cI ri rv) H := hP
        have hD : va_D A (wF f f1 f2 f3 f4 cI (va_up (s_opi fi) 3 (((s_opi fi) 3) + 1)) (s_opa fa n) ++ wR r ra cI ri rv) := hD
        refine lv_aload_n hx hb dFo_admit_48 rfl (lv_at hl 1 rfl) ?_
        refine lv_aload_n hx hb dFo_admit_49 rfl (lv_at hl 2 rfl) ?_
        have hPc := hP.sub (ws' := (wF f f1 f2 f3 f4 cI (va_up (s_opi fi) 3 (((s_opi fi) 3) + 1)) (s_opa fa n) ++ wR r ra cI ri rv)) [0, 1, 2, 3, 4, 5, 6] rfl
        have hDc := hD.sub (ws' := (wF f f1 f2 f3 f4 cI (va_up (s_opi fi) 3 (((s_opi fi) 3) + 1)) (s_opa fa n) ++ wR r ra cI ri rv)) [0, 1, 2, 3, 4, 5, 6] (by decide) rfl
        have hKc := hK.sub (tys' := [(cI, .int)]) [0] rfl
        have hFc := va_free (wc := (wF f f1 f2 f3 f4 cI (va_up (s_opi fi) 3 (((s_opi fi) 3) + 1)) (s_opa fa n) ++ wR r ra cI ri rv)) hD hS hA [0, 1, 2, 3, 4, 5, 6] rfl
        refine va_callv (va_runV (As := [.ref r]) (rest := []) ⟨hx, hb, hml, hown, hts⟩ (k_F_store l dC dI H.size f f1 f2 f3 f4 cI (va_up (s_opi fi) 3 (((s_opi fi) 3) + 1)) (s_opa fa n) r ra ri rv (n + 1) (by omega) (by show fi 1 + 1 = _; rw [hix]; exact nI_1 n)) (cwV 1 hts (gd_V in_66 in_68 in_69 in_17 in_67) rfl rfl rfl (by decide +kernel) ⟨Nat.le_of_ble_eq_true rfl, Nat.le_of_ble_eq_true rfl⟩) ⟨fun a U g mk q => by obtain ⟨q0, q1, qP, qK, qD⟩ := q; exact ⟨q0, q1, qP, va_K.moved (u := U) (U := U.calling g mk a) (Vm.Alike.refl U.vm) qK, qD⟩, va_recv hKc hPc (ci := 0) (q0 := 0) rfl rfl, fun U hU hW => ⟨rfl, by rw [hU], by rw [hU]; exact hPc, va_K.moved hW.alike hKc, hDc.weaken (fun _ _ _ _ => trivial)⟩⟩ rfl rfl hl.1 rfl (lv_room (Nat.le_of_ble_eq_true rfl)) dFo_admit_50 ⟨Nat.le_of_ble_eq_true rfl, Nat.le_of_ble_eq_true rfl⟩) hS (fun q _ h => hFc q h) hFc (fun u t H1 locs ht hvm hw hB hz1 hk1 hS => ?_)
        obtain ⟨hP1, hK1, hD1⟩ := hB
        rw [ht] at hP1
        obtain ⟨hP, hD⟩ := va_join (wr := []) (w1 := (wF f f1 f2 f3 f4 cI (va_up (s_opi fi) 3 (((s_opi fi) 3) + 1)) (s_st (ri 4) rv (n + 1) (s_opa fa n) 16) ++ wR r ra cI ri rv)) hP hD [0, 1, 2, 3, 4, 5, 6] [] rfl rfl (by decide) (by decide) hk1 hFc hP1 hD1
        generalize H1 = H at hP hS ⊢
        have hP : va_P (dC, dI) vwCl (wF f f1 f2 f3 f4 cI (va_up (s_opi fi) 3 (((s_opi fi) 3) + 1)) (s_st (ri 4) rv (n + 1) (s_opa fa n) 16) ++ wR r ra cI ri rv) H := hP
        have hD : va_D A (wF f f1 f2 f3 f4 cI (va_up (s_opi fi) 3 (((s_opi fi) 3) + 1)) (s_st (ri 4) rv (n + 1) (s_opa fa n) 16) ++ wR r ra cI ri rv) := hD
        refine lv_goto (tgt := 66) hx hb dFo_admit_53 (by decide) ?_
        refine lv_aload_n hx hb dFo_admit_66 rfl (lv_at hl 1 rfl) ?_
        refine va_get (D := (dC, dI)) (ci := 0) (v := .ref f3) (C := RFo) (T := TFo) (N := 10) hx hb hts inFo hown hK hP 0 rfl rfl 8 (by decide) (hts _ in_26) (fun _ h9 => h9) rfl dFo_admit_67 ?_
        refine lv_aload_n hx hb dFo_admit_70 rfl (lv_at hl 2 rfl) ?_
        refine va_get (D := (dC, dI)) (ci := 1) (v := .int (ri 0)) (C := RRq) (T := TRq) (N := 6) hx hb hts inRq hown hK hP 5 rfl rfl 0 (by decide) (hts _ in_27) (fun _ h9 => h9) rfl dFo_admit_71 ?_
        refine lv_aload_n hx hb dFo_admit_74 rfl (lv_at hl 2 rfl) ?_
        refine va_get (D := (dC, dI)) (ci := 1) (v := .int (ri 1)) (C := RRq) (T := TRq) (N := 6) hx hb hts inRq hown hK hP 5 rfl rfl 1 (by decide) (hts _ in_25) (fun _ h9 => h9) rfl dFo_admit_75 ?_
        refine vq_iast (k := se) (f := (s_st (ri 4) rv (n + 1) (s_opa fa n) 16) 2) hx hb hK hP hD hS 3 0 rfl rfl hse hs16 (by decide) dFo_admit_78 (fun H locs hP hD hS => ?_)
        have hP : va_P (dC, dI) vwCl (wF f f1 f2 f3 f4 cI (va_up (s_opi fi) 3 (((s_opi fi) 3) + 1)) (va_up (s_st (ri 4) rv (n + 1) (s_opa fa n) 16) 2 (upd ((s_st (ri 4) rv (n + 1) (s_opa fa n) 16) 2) se (ri 1))) ++ wR r ra cI ri rv) H := hP
        have hD : va_D A (wF f f1 f2 f3 f4 cI (va_up (s_opi fi) 3 (((s_opi fi) 3) + 1)) (va_up (s_st (ri 4) rv (n + 1) (s_opa fa n) 16) 2 (upd ((s_st (ri 4) rv (n + 1) (s_opa fa n) 16) 2) se (ri 1))) ++ wR r ra cI ri rv) := hD
        refine lv_aload_n hx hb dFo_admit_79 rfl (lv_at hl 1 rfl) ?_
        refine va_get (D := (dC, dI)) (ci := 0) (v := .ref f4) (C := RFo) (T := TFo) (N := 10) hx hb hts inFo hown hK hP 0 rfl rfl 9 (by decide) (hts _ in_37) (fun _ h9 => h9) rfl dFo_admit_80 ?_
        refine lv_aload_n hx hb dFo_admit_83 rfl (lv_at hl 2 rfl) ?_
        refine va_get (D := (dC, dI)) (ci := 1) (v := .int (ri 0)) (C := RRq) (T := TRq) (N := 6) hx hb hts inRq hown hK hP 5 rfl rfl 0 (by decide) (hts _ in_27) (fun _ h9 => h9) rfl dFo_admit_84 ?_
        refine lv_iload_n hx hb dFo_admit_87 rfl (lv_at hl 0 rfl) ?_
        refine vq_iast (k := se) (f := (s_st (ri 4) rv (n + 1) (s_opa fa n) 16) 3) hx hb hK hP hD hS 4 0 rfl rfl hse hs16 (by decide) dFo_admit_88 (fun H locs hP hD hS => ?_)
        have hP : va_P (dC, dI) vwCl (wF f f1 f2 f3 f4 cI (va_up (s_opi fi) 3 (((s_opi fi) 3) + 1)) (va_up (va_up (s_st (ri 4) rv (n + 1) (s_opa fa n) 16) 2 (upd ((s_st (ri 4) rv (n + 1) (s_opa fa n) 16) 2) se (ri 1))) 3 (upd ((s_st (ri 4) rv (n + 1) (s_opa fa n) 16) 3) se (s_dec fi fa ri se))) ++ wR r ra cI ri rv) H := hP
        have hD : va_D A (wF f f1 f2 f3 f4 cI (va_up (s_opi fi) 3 (((s_opi fi) 3) + 1)) (va_up (va_up (s_st (ri 4) rv (n + 1) (s_opa fa n) 16) 2 (upd ((s_st (ri 4) rv (n + 1) (s_opa fa n) 16) 2) se (ri 1))) 3 (upd ((s_st (ri 4) rv (n + 1) (s_opa fa n) 16) 3) se (s_dec fi fa ri se))) ++ wR r ra cI ri rv) := hD
        refine lv_iload_n hx hb dFo_admit_89 rfl (lv_at hl 0 rfl) ?_
        have hP9 : va_P (dC, dI) vwCl (wF f f1 f2 f3 f4 cI ((s_adm fi fa ri rv n se).2.1) ((s_adm fi fa ri rv n se).2.2) ++ wR r ra cI ri rv) H := by simp only [s_adm, if_neg c_3, if_neg c_5, if_pos c_6]; exact hP
        have hD9 : va_D A (wF f f1 f2 f3 f4 cI ((s_adm fi fa ri rv n se).2.1) ((s_adm fi fa ri rv n se).2.2) ++ wR r ra cI ri rv) := by simp only [s_adm, if_neg c_3, if_neg c_5, if_pos c_6]; exact hD
        exact W.iret (v := s_dec fi fa ri se) hx hb hr (fun t ht hW => ⟨⟨s_dec fi fa ri se, (), rfl, by simp only [s_adm, if_neg c_3, if_neg c_5, if_pos c_6], by rw [ht]; exact hP9, va_K.moved hW.alike hK, hD9⟩, hS.F ht⟩) hS.2.2 dFo_admit_90
    · skip
      refine lv_aload_n hx hb dFo_admit_21 rfl (lv_at hl 1 rfl) ?_
      refine lv_dup hx hb dFo_admit_22 rfl ?_
      refine va_get (D := (dC, dI)) (ci := 0) (v := .int ((s_opi fi) 5)) (C := RFo) (T := TFo) (N := 10) hx hb hts inFo hown hK hP 0 rfl rfl 5 (by decide) (hts _ in_70) (fun _ h9 => h9) rfl dFo_admit_23 ?_
      refine lv_iconst (v := 1) hx hb dFo_admit_26 (by decide) ?_
      refine lv_iadd hx hb dFo_admit_27 ?_
      refine va_put (D := (dC, dI)) (ci := 0) (v := .int (((s_opi fi) 5) + 1)) (ty := .int) (C := RFo) (T := TFo) (N := 10) hx hb hts inFo tyFo tyFo_ok nmFo hown hK hP hD hS 0 rfl rfl 5 (by decide) (hts _ in_70) (fun _ h9 => h9) rfl (by decide +kernel) rfl rfl (Nat.le_of_ble_eq_true rfl) dFo_admit_28 (fun H locs hP hD hS => ?_)
      have hP : va_P (dC, dI) vwCl (wF f f1 f2 f3 f4 cI (va_up (s_opi fi) 5 (((s_opi fi) 5) + 1)) (s_opa fa n) ++ wR r ra cI ri rv) H := hP
      have hD : va_D A (wF f f1 f2 f3 f4 cI (va_up (s_opi fi) 5 (((s_opi fi) 5) + 1)) (s_opa fa n) ++ wR r ra cI ri rv) := hD
      refine lv_iconst (v := 0) hx hb dFo_admit_31 (by decide) ?_
      have hP9 : va_P (dC, dI) vwCl (wF f f1 f2 f3 f4 cI ((s_adm fi fa ri rv n se).2.1) ((s_adm fi fa ri rv n se).2.2) ++ wR r ra cI ri rv) H := by simp only [s_adm, if_neg c_3, if_pos c_5]; exact hP
      have hD9 : va_D A (wF f f1 f2 f3 f4 cI ((s_adm fi fa ri rv n se).2.1) ((s_adm fi fa ri rv n se).2.2) ++ wR r ra cI ri rv) := by simp only [s_adm, if_neg c_3, if_pos c_5]; exact hD
      exact W.iret (v := 0) hx hb hr (fun t ht hW => ⟨⟨0, (), rfl, by simp only [s_adm, if_neg c_3, if_pos c_5], by rw [ht]; exact hP9, va_K.moved hW.alike hK, hD9⟩, hS.F ht⟩) hS.2.2 dFo_admit_32
  · skip
    refine lv_iconst (v := (-1)) hx hb dFo_admit_11 (by decide) ?_
    have hP9 : va_P (dC, dI) vwCl (wF f f1 f2 f3 f4 cI ((s_adm fi fa ri rv n se).2.1) ((s_adm fi fa ri rv n se).2.2) ++ wR r ra cI ri rv) s.heap := by simp only [s_adm, if_pos c_3]; exact hP
    have hD9 : va_D A (wF f f1 f2 f3 f4 cI ((s_adm fi fa ri rv n se).2.1) ((s_adm fi fa ri rv n se).2.2) ++ wR r ra cI ri rv) := by simp only [s_adm, if_pos c_3]; exact hD
    exact W.iret (v := (-1)) hx hb hr (fun t ht hW => ⟨⟨(-1), (), rfl, by simp only [s_adm, if_pos c_3], by rw [ht]; exact hP9, va_K.moved hW.alike hK, hD9⟩, hS.F ht⟩) hS.2.2 dFo_admit_12
set_option maxHeartbeats 4000000 in
set_option maxRecDepth 100000 in
/-- become(other) -/
theorem k_F_become (l : Launch) (dC : Nat → ClassId) (dI : Nat → Nat → Nat) (sz : Nat) (f f1 f2 f3 f4 : Nat) (cI : ClassId) (fi : Nat → Int32) (fa : Nat → Nat → Int32) (g g1 g2 g3 g4 : Nat) (gi : Nat → Int32) (ga : Nat → Nat → Int32) : Met l yFo_become wsFo_become ({ frames := 2, cells := 0, slots := 0, locals := 80 }) (va_Pc [.ref f, .ref g] (fun U => U.heap.size = sz ∧ va_P (dC, dI) vwCl (wF f f1 f2 f3 f4 cI fi fa ++ wF g g1 g2 g3 g4 cI gi ga) U.heap ∧ va_K (dC, dI) vwCl [(cI, .int)] U ∧ va_D (fun _ => True) (wF f f1 f2 f3 f4 cI fi fa ++ wF g g1 g2 g3 g4 cI gi ga))) (va_Qv (fun (_ : Unit) => True) (fun _ t => va_P (dC, dI) vwCl (wF f f1 f2 f3 f4 cI (s_bei fi gi) (s_bea fa ga) ++ wF g g1 g2 g3 g4 cI gi ga) t.heap ∧ va_K (dC, dI) vwCl [(cI, .int)] t ∧ va_D (va_A (wF f f1 f2 f3 f4 cI fi fa ++ wF g g1 g2 g3 g4 cI gi ga) sz) (wF f f1 f2 f3 f4 cI (s_bei fi gi) (s_bea fa ga) ++ wF g g1 g2 g3 g4 cI gi ga)) (va_A (wF f f1 f2 f3 f4 cI fi fa ++ wF g g1 g2 g3 g4 cI gi ga) sz)) 0 0 (va_A (wF f f1 f2 f3 f4 cI fi fa ++ wF g g1 g2 g3 g4 cI gi ga) sz) := by
  refine Met.ofW (cc := cFo_become) (maxL := 2) (ret := none) (by decide) rfl ?_
  intro p e s m args below meth c s₁ B hml hv
  obtain ⟨rfl, hsz, hP, hK, hD0⟩ := hv
  have hx := B.exec
  have hb := B.bytes
  have hr := B.returns
  have hts0 := atoms_spec (ws := wsFo_become) B.pre
  have hts := fun (w : Cond) (h : w ∈ lw_g) => hts0 w (List.mem_cons_of_mem _ h)
  have hown : s.vm.findClass RFo = some m.cls := findClass_of_methodNamed B.named
  have hlocks := B.notSynchronized
  subst hsz
  have hD := hD0.self (sz := s.heap.size)
  generalize hAe : va_A (wF f f1 f2 f3 f4 cI fi fa ++ wF g g1 g2 g3 g4 cI gi ga) s.heap.size = A at hD ⊢
  have hA : ∀ q : Nat, s.heap.size ≤ q → A q := fun q h => by rw [← hAe]; exact Or.inr h
  have hS : va_S A s.heap s.heap [] := va_S.rf
  have hP : va_P (dC, dI) vwCl (wF f f1 f2 f3 f4 cI fi fa ++ wF g g1 g2 g3 g4 cI gi ga) s.heap := hP
  have hl := lv_entry ([.ref f, .ref g]) (n := 2) (Nat.le_of_ble_eq_true rfl)
  rw [lg_entry_eq]
  generalize (lg_sl ([.ref f, .ref g]) ++ List.replicate (2 - (lg_sl ([.ref f, .ref g])).length) Slot.unset).toArray = ls at hl ⊢
  have hl : lv_has ls 2 [(0, .ref f), (1, .ref g)] := hl
  refine lv_aload_n hx hb dFo_become_0 rfl (lv_at hl 0 rfl) ?_
  refine lv_aload_n hx hb dFo_become_1 rfl (lv_at hl 1 rfl) ?_
  refine va_get (D := (dC, dI)) (ci := 0) (v := .int (gi 1)) (C := RFo) (T := TFo) (N := 10) hx hb hts inFo hown hK hP 5 rfl rfl 1 (by decide) (hts _ in_6) (fun _ h9 => h9) rfl dFo_become_2 ?_
  refine va_put (D := (dC, dI)) (ci := 0) (v := .int (gi 1)) (ty := .int) (C := RFo) (T := TFo) (N := 10) hx hb hts inFo tyFo tyFo_ok nmFo hown hK hP hD hS 0 rfl rfl 1 (by decide) (hts _ in_6) (fun _ h9 => h9) rfl (by decide +kernel) rfl rfl (Nat.le_of_ble_eq_true rfl) dFo_become_5 (fun H locs hP hD hS => ?_)
  have hP : va_P (dC, dI) vwCl (wF f f1 f2 f3 f4 cI (va_up fi 1 (gi 1)) fa ++ wF g g1 g2 g3 g4 cI gi ga) H := hP
  have hD : va_D A (wF f f1 f2 f3 f4 cI (va_up fi 1 (gi 1)) fa ++ wF g g1 g2 g3 g4 cI gi ga) := hD
  refine lv_aload_n hx hb dFo_become_8 rfl (lv_at hl 0 rfl) ?_
  refine lv_aload_n hx hb dFo_become_9 rfl (lv_at hl 1 rfl) ?_
  refine va_get (D := (dC, dI)) (ci := 0) (v := .int (gi 1)) (C := RFo) (T := TFo) (N := 10) hx hb hts inFo hown hK hP 5 rfl rfl 1 (by decide) (hts _ in_6) (fun _ h9 => h9) rfl dFo_become_10 ?_
  refine va_put (D := (dC, dI)) (ci := 0) (v := .int (gi 1)) (ty := .int) (C := RFo) (T := TFo) (N := 10) hx hb hts inFo tyFo tyFo_ok nmFo hown hK hP hD hS 0 rfl rfl 2 (by decide) (hts _ in_13) (fun _ h9 => h9) rfl (by decide +kernel) rfl rfl (Nat.le_of_ble_eq_true rfl) dFo_become_13 (fun H locs hP hD hS => ?_)
  have hP : va_P (dC, dI) vwCl (wF f f1 f2 f3 f4 cI (va_up (va_up fi 1 (gi 1)) 2 (gi 1)) fa ++ wF g g1 g2 g3 g4 cI gi ga) H := hP
  have hD : va_D A (wF f f1 f2 f3 f4 cI (va_up (va_up fi 1 (gi 1)) 2 (gi 1)) fa ++ wF g g1 g2 g3 g4 cI gi ga) := hD
  refine lv_aload_n hx hb dFo_become_16 rfl (lv_at hl 0 rfl) ?_
  refine lv_aload_n hx hb dFo_become_17 rfl (lv_at hl 1 rfl) ?_
  refine va_get (D := (dC, dI)) (ci := 0) (v := .int (gi 3)) (C := RFo) (T := TFo) (N := 10) hx hb hts inFo hown hK hP 5 rfl rfl 3 (by decide) (hts _ in_65) (fun _ h9 => h9) rfl dFo_become_18 ?_
  refine va_put (D := (dC, dI)) (ci := 0) (v := .int (gi 3)) (ty := .int) (C := RFo) (T := TFo) (N := 10) hx hb hts inFo tyFo tyFo_ok nmFo hown hK hP hD hS 0 rfl rfl 3 (by decide) (hts _ in_65) (fun _ h9 => h9) rfl (by decide +kernel) rfl rfl (Nat.le_of_ble_eq_true rfl) dFo_become_21 (fun H locs hP hD hS => ?_)
  have hP : va_P (dC, dI) vwCl (wF f f1 f2 f3 f4 cI (va_up (va_up (va_up fi 1 (gi 1)) 2 (gi 1)) 3 (gi 3)) fa ++ wF g g1 g2 g3 g4 cI gi ga) H := hP
  have hD : va_D A (wF f f1 f2 f3 f4 cI (va_up (va_up (va_up fi 1 (gi 1)) 2 (gi 1)) 3 (gi 3)) fa ++ wF g g1 g2 g3 g4 cI gi ga) := hD
  refine lv_aload_n hx hb dFo_become_24 rfl (lv_at hl 0 rfl) ?_
  refine lv_aload_n hx hb dFo_become_25 rfl (lv_at hl 1 rfl) ?_
  refine va_get (D := (dC, dI)) (ci := 0) (v := .int (gi 4)) (C := RFo) (T := TFo) (N := 10) hx hb hts inFo hown hK hP 5 rfl rfl 4 (by decide) (hts _ in_64) (fun _ h9 => h9) rfl dFo_become_26 ?_
  refine va_put (D := (dC, dI)) (ci := 0) (v := .int (gi 4)) (ty := .int) (C := RFo) (T := TFo) (N := 10) hx hb hts inFo tyFo tyFo_ok nmFo hown hK hP hD hS 0 rfl rfl 4 (by decide) (hts _ in_64) (fun _ h9 => h9) rfl (by decide +kernel) rfl rfl (Nat.le_of_ble_eq_true rfl) dFo_become_29 (fun H locs hP hD hS => ?_)
  have hP : va_P (dC, dI) vwCl (wF f f1 f2 f3 f4 cI (va_up (va_up (va_up (va_up fi 1 (gi 1)) 2 (gi 1)) 3 (gi 3)) 4 (gi 4)) fa ++ wF g g1 g2 g3 g4 cI gi ga) H := hP
  have hD : va_D A (wF f f1 f2 f3 f4 cI (va_up (va_up (va_up (va_up fi 1 (gi 1)) 2 (gi 1)) 3 (gi 3)) 4 (gi 4)) fa ++ wF g g1 g2 g3 g4 cI gi ga) := hD
  refine lv_aload_n hx hb dFo_become_32 rfl (lv_at hl 0 rfl) ?_
  refine lv_aload_n hx hb dFo_become_33 rfl (lv_at hl 1 rfl) ?_
  refine va_get (D := (dC, dI)) (ci := 0) (v := .int (gi 5)) (C := RFo) (T := TFo) (N := 10) hx hb hts inFo hown hK hP 5 rfl rfl 5 (by decide) (hts _ in_70) (fun _ h9 => h9) rfl dFo_become_34 ?_
  refine va_put (D := (dC, dI)) (ci := 0) (v := .int (gi 5)) (ty := .int) (C := RFo) (T := TFo) (N := 10) hx hb hts inFo tyFo tyFo_ok nmFo hown hK hP hD hS 0 rfl rfl 5 (by decide) (hts _ in_70) (fun _ h9 => h9) rfl (by decide +kernel) rfl rfl (Nat.le_of_ble_eq_true rfl) dFo_become_37 (fun H locs hP hD hS => ?_)
  have hP : va_P (dC, dI) vwCl (wF f f1 f2 f3 f4 cI (va_up (va_up (va_up (va_up (va_up fi 1 (gi 1)) 2 (gi 1)) 3 (gi 3)) 4 (gi 4)) 5 (gi 5)) fa ++ wF g g1 g2 g3 g4 cI gi ga) H := hP
  have hD : va_D A (wF f f1 f2 f3 f4 cI (va_up (va_up (va_up (va_up (va_up fi 1 (gi 1)) 2 (gi 1)) 3 (gi 3)) 4 (gi 4)) 5 (gi 5)) fa ++ wF g g1 g2 g3 g4 cI gi ga) := hD
  refine lv_aload_n hx hb dFo_become_40 rfl (lv_at hl 1 rfl) ?_
  refine va_get (D := (dC, dI)) (ci := 0) (v := .ref g1) (C := RFo) (T := TFo) (N := 10) hx hb hts inFo hown hK hP 5 rfl rfl 6 (by decide) (hts _ in_14) (fun _ h9 => h9) rfl dFo_become_41 ?_
  refine lv_iconst (v := 0) hx hb dFo_become_44 (by decide) ?_
  refine lv_aload_n hx hb dFo_become_45 rfl (lv_at hl 0 rfl) ?_
  refine va_get (D := (dC, dI)) (ci := 0) (v := .ref f1) (C := RFo) (T := TFo) (N := 10) hx hb hts inFo hown hK hP 0 rfl rfl 6 (by decide) (hts _ in_14) (fun _ h9 => h9) rfl dFo_become_46 ?_
  refine lv_iconst (v := 0) hx hb dFo_become_49 (by decide) ?_
  refine lv_sipush (v := nI 272) hx hb dFo_become_50 (by decide) ?_
  refine vq_copyi (x := 0) (y := 0) (z := 272) hx hb (hml.trans hl.1.symm) hown (hts _ in_46) (hts _ in_47) (hts _ in_48) (hts _ in_49) hK hP hD hS 6 1 0 rfl rfl rfl nI_0.symm nI_0.symm rfl (by omega) (by omega) (by decide) (by decide) (Nat.le_of_ble_eq_true rfl) (Nat.le_of_ble_eq_true rfl) dFo_become_53 (fun H locs hP hD hS => ?_)
  have hP : va_P (dC, dI) vwCl (wF f f1 f2 f3 f4 cI (va_up (va_up (va_up (va_up (va_up fi 1 (gi 1)) 2 (gi 1)) 3 (gi 3)) 4 (gi 4)) 5 (gi 5)) (va_up fa 0 (va_cpy (ga 0) (fa 0) 0 0 272)) ++ wF g g1 g2 g3 g4 cI gi ga) H := hP
  have hD : va_D A (wF f f1 f2 f3 f4 cI (va_up (va_up (va_up (va_up (va_up fi 1 (gi 1)) 2 (gi 1)) 3 (gi 3)) 4 (gi 4)) 5 (gi 5)) (va_up fa 0 (va_cpy (ga 0) (fa 0) 0 0 272)) ++ wF g g1 g2 g3 g4 cI gi ga) := hD
  refine lv_aload_n hx hb dFo_become_56 rfl (lv_at hl 1 rfl) ?_
  refine va_get (D := (dC, dI)) (ci := 0) (v := .ref g2) (C := RFo) (T := TFo) (N := 10) hx hb hts inFo hown hK hP 5 rfl rfl 7 (by decide) (hts _ in_12) (fun _ h9 => h9) rfl dFo_become_57 ?_
  refine lv_iconst (v := 0) hx hb dFo_become_60 (by decide) ?_
  refine lv_aload_n hx hb dFo_become_61 rfl (lv_at hl 0 rfl) ?_
  refine va_get (D := (dC, dI)) (ci := 0) (v := .ref f2) (C := RFo) (T := TFo) (N := 10) hx hb hts inFo hown hK hP 0 rfl rfl 7 (by decide) (hts _ in_12) (fun _ h9 => h9) rfl dFo_become_62 ?_
  refine lv_iconst (v := 0) hx hb dFo_become_65 (by decide) ?_
  refine lv_bipush (v := nI 16) hx hb dFo_become_66 (by decide) ?_
  refine vq_copyi (x := 0) (y := 0) (z := 16) hx hb (hml.trans hl.1.symm) hown (hts _ in_46) (hts _ in_47) (hts _ in_48) (hts _ in_49) hK hP hD hS 7 2 0 rfl rfl rfl nI_0.symm nI_0.symm rfl (by omega) (by omega) (by decide) (by decide) (Nat.le_of_ble_eq_true rfl) (Nat.le_of_ble_eq_true rfl) dFo_become_68 (fun H locs hP hD hS => ?_)
  have hP : va_P (dC, dI) vwCl (wF f f1 f2 f3 f4 cI (va_up (va_up (va_up (va_up (va_up fi 1 (gi 1)) 2 (gi 1)) 3 (gi 3)) 4 (gi 4)) 5 (gi 5)) (va_up (va_up fa 0 (va_cpy (ga 0) (fa 0) 0 0 272)) 1 (va_cpy (ga 1) (fa 1) 0 0 16)) ++ wF g g1 g2 g3 g4 cI gi ga) H := hP
  have hD : va_D A (wF f f1 f2 f3 f4 cI (va_up (va_up (va_up (va_up (va_up fi 1 (gi 1)) 2 (gi 1)) 3 (gi 3)) 4 (gi 4)) 5 (gi 5)) (va_up (va_up fa 0 (va_cpy (ga 0) (fa 0) 0 0 272)) 1 (va_cpy (ga 1) (fa 1) 0 0 16)) ++ wF g g1 g2 g3 g4 cI gi ga) := hD
  refine lv_aload_n hx hb dFo_become_71 rfl (lv_at hl 1 rfl) ?_
  refine va_get (D := (dC, dI)) (ci := 0) (v := .ref g3) (C := RFo) (T := TFo) (N := 10) hx hb hts inFo hown hK hP 5 rfl rfl 8 (by decide) (hts _ in_26) (fun _ h9 => h9) rfl dFo_become_72 ?_
  refine lv_iconst (v := 0) hx hb dFo_become_75 (by decide) ?_
  refine lv_aload_n hx hb dFo_become_76 rfl (lv_at hl 0 rfl) ?_
  refine va_get (D := (dC, dI)) (ci := 0) (v := .ref f3) (C := RFo) (T := TFo) (N := 10) hx hb hts inFo hown hK hP 0 rfl rfl 8 (by decide) (hts _ in_26) (fun _ h9 => h9) rfl dFo_become_77 ?_
  refine lv_iconst (v := 0) hx hb dFo_become_80 (by decide) ?_
  refine lv_bipush (v := nI 16) hx hb dFo_become_81 (by decide) ?_
  refine vq_copyi (x := 0) (y := 0) (z := 16) hx hb (hml.trans hl.1.symm) hown (hts _ in_46) (hts _ in_47) (hts _ in_48) (hts _ in_49) hK hP hD hS 8 3 0 rfl rfl rfl nI_0.symm nI_0.symm rfl (by omega) (by omega) (by decide) (by decide) (Nat.le_of_ble_eq_true rfl) (Nat.le_of_ble_eq_true rfl) dFo_become_83 (fun H locs hP hD hS => ?_)
  have hP : va_P (dC, dI) vwCl (wF f f1 f2 f3 f4 cI (va_up (va_up (va_up (va_up (va_up fi 1 (gi 1)) 2 (gi 1)) 3 (gi 3)) 4 (gi 4)) 5 (gi 5)) (va_up (va_up (va_up fa 0 (va_cpy (ga 0) (fa 0) 0 0 272)) 1 (va_cpy (ga 1) (fa 1) 0 0 16)) 2 (va_cpy (ga 2) (fa 2) 0 0 16)) ++ wF g g1 g2 g3 g4 cI gi ga) H := hP
  have hD : va_D A (wF f f1 f2 f3 f4 cI (va_up (va_up (va_up (va_up (va_up fi 1 (gi 1)) 2 (gi 1)) 3 (gi 3)) 4 (gi 4)) 5 (gi 5)) (va_up (va_up (va_up fa 0 (va_cpy (ga 0) (fa 0) 0 0 272)) 1 (va_cpy (ga 1) (fa 1) 0 0 16)) 2 (va_cpy (ga 2) (fa 2) 0 0 16)) ++ wF g g1 g2 g3 g4 cI gi ga) := hD
  refine lv_aload_n hx hb dFo_become_86 rfl (lv_at hl 1 rfl) ?_
  refine va_get (D := (dC, dI)) (ci := 0) (v := .ref g4) (C := RFo) (T := TFo) (N := 10) hx hb hts inFo hown hK hP 5 rfl rfl 9 (by decide) (hts _ in_37) (fun _ h9 => h9) rfl dFo_become_87 ?_
  refine lv_iconst (v := 0) hx hb dFo_become_90 (by decide) ?_
  refine lv_aload_n hx hb dFo_become_91 rfl (lv_at hl 0 rfl) ?_
  refine va_get (D := (dC, dI)) (ci := 0) (v := .ref f4) (C := RFo) (T := TFo) (N := 10) hx hb hts inFo hown hK hP 0 rfl rfl 9 (by decide) (hts _ in_37) (fun _ h9 => h9) rfl dFo_become_92 ?_
  refine lv_iconst (v := 0) hx hb dFo_become_95 (by decide) ?_
  refine lv_bipush (v := nI 16) hx hb dFo_become_96 (by decide) ?_
  refine vq_copyi (x := 0) (y := 0) (z := 16) hx hb (hml.trans hl.1.symm) hown (hts _ in_46) (hts _ in_47) (hts _ in_48) (hts _ in_49) hK hP hD hS 9 4 0 rfl rfl rfl nI_0.symm nI_0.symm rfl (by omega) (by omega) (by decide) (by decide) (Nat.le_of_ble_eq_true rfl) (Nat.le_of_ble_eq_true rfl) dFo_become_98 (fun H locs hP hD hS => ?_)
  have hP : va_P (dC, dI) vwCl (wF f f1 f2 f3 f4 cI (va_up (va_up (va_up (va_up (va_up fi 1 (gi 1)) 2 (gi 1)) 3 (gi 3)) 4 (gi 4)) 5 (gi 5)) (va_up (va_up (va_up (va_up fa 0 (va_cpy (ga 0) (fa 0) 0 0 272)) 1 (va_cpy (ga 1) (fa 1) 0 0 16)) 2 (va_cpy (ga 2) (fa 2) 0 0 16)) 3 (va_cpy (ga 3) (fa 3) 0 0 16)) ++ wF g g1 g2 g3 g4 cI gi ga) H := hP
  have hD : va_D A (wF f f1 f2 f3 f4 cI (va_up (va_up (va_up (va_up (va_up fi 1 (gi 1)) 2 (gi 1)) 3 (gi 3)) 4 (gi 4)) 5 (gi 5)) (va_up (va_up (va_up (va_up fa 0 (va_cpy (ga 0) (fa 0) 0 0 272)) 1 (va_cpy (ga 1) (fa 1) 0 0 16)) 2 (va_cpy (ga 2) (fa 2) 0 0 16)) 3 (va_cpy (ga 3) (fa 3) 0 0 16)) ++ wF g g1 g2 g3 g4 cI gi ga) := hD
  have hP9 : va_P (dC, dI) vwCl (wF f f1 f2 f3 f4 cI (s_bei fi gi) (s_bea fa ga) ++ wF g g1 g2 g3 g4 cI gi ga) H := by exact hP
  have hD9 : va_D A (wF f f1 f2 f3 f4 cI (s_bei fi gi) (s_bea fa ga) ++ wF g g1 g2 g3 g4 cI gi ga) := by exact hD
  exact W.vret hx hb hr (fun t ht hW => ⟨⟨(), rfl, trivial, by rw [ht]; exact hP9, va_K.moved hW.alike hK, hD9⟩, hS.F ht⟩) hS.2.2 dFo_become_101
end
section
/-- an int array's class is the one -/
theorem ci_eq {D : va_G} {cl : List vw_C} {cI cA : ClassId} {s : State} (h : va_K D cl ([(cI, .int)] ++ [(cA, .int)]) s) : cA = cI := by
  have h1 : s.vm.findClass ("[" ++ FieldType.int.toString) = some cI := (h.2 0 _ rfl).2
  have h2 : s.vm.findClass ("[" ++ FieldType.int.toString) = some cA := (h.2 1 _ rfl).2
  exact Option.some.inj (h2.symm.trans h1)
set_option maxHeartbeats 4000000 in
set_option maxRecDepth 100000 in
/-- the constructor -/
theorem k_R_init (l : Launch) (dC : Nat → ClassId) (dI : Nat → Nat → Nat) (sz : Nat) (r : Nat) (cI : ClassId) : Met l yRq_init wsRq_init ({ frames := 1, cells := 1, slots := 16, locals := 40 }) (va_Pc [.ref r] (fun U => U.heap.size = sz ∧ va_P (dC, dI) vwCl ([(r, .inr (1, [.int 0, .int 0, .int 0, .int 0, .int 0, .null]))]) U.heap ∧ va_K (dC, dI) vwCl [(cI, .int)] U ∧ va_D (fun _ => True) ([(r, .inr (1, [.int 0, .int 0, .int 0, .int 0, .int 0, .null]))]))) (va_Qv (fun (_ : Unit) => True) (fun _ t => ∃ ra : Nat, va_P (dC, dI) vwCl (wR r ra cI (va_up (fun _ => 0) 1 1) (fun _ => 0)) t.heap ∧ va_K (dC, dI) vwCl [(cI, .int)] t ∧ va_D (va_A ([(r, .inr (1, [.int 0, .int 0, .int 0, .int 0, .int 0, .null]))]) sz) (wR r ra cI (va_up (fun _ => 0) 1 1) (fun _ => 0))) (va_A ([(r, .inr (1, [.int 0, .int 0, .int 0, .int 0, .int 0, .null]))]) sz)) 1 16 (va_A ([(r, .inr (1, [.int 0, .int 0, .int 0, .int 0, .int 0, .null]))]) sz) := by
  refine Met.ofW (cc := cRq_init) (maxL := 1) (ret := none) (by decide) rfl ?_
  intro p e s m args below meth c s₁ B hml hv
  obtain ⟨rfl, hsz, hP, hK, hD0⟩ := hv
  have hx := B.exec
  have hb := B.bytes
  have hr := B.returns
  have hts0 := atoms_spec (ws := wsRq_init) B.pre
  have hts := fun (w : Cond) (h : w ∈ lw_g) => hts0 w (List.mem_cons_of_mem _ h)
  have hown : s.vm.findClass RRq = some m.cls := findClass_of_methodNamed B.named
  have hlocks := B.notSynchronized
  have hin : meth.name = "<init>" := (name_of_methodNamed B.named B.method).1
  subst hsz
  have hD := hD0.self (sz := s.heap.size)
  generalize hAe : va_A ([(r, .inr (1, [.int 0, .int 0, .int 0, .int 0, .int 0, .null]))]) s.heap.size = A at hD ⊢
  have hA : ∀ q : Nat, s.heap.size ≤ q → A q := fun q h => by rw [← hAe]; exact Or.inr h
  have hS : va_S A s.heap s.heap [] := va_S.rf
  have hP : va_P (dC, dI) vwCl ([(r, .inr (1, [.int 0, .int 0, .int 0, .int 0, .int 0, .null]))]) s.heap := hP
  have hl := lv_entry ([.ref r]) (n := 1) (Nat.le_of_ble_eq_true rfl)
  rw [lg_entry_eq]
  generalize (lg_sl ([.ref r]) ++ List.replicate (1 - (lg_sl ([.ref r])).length) Slot.unset).toArray = ls at hl ⊢
  have hl : lv_has ls 1 [(0, .ref r)] := hl
  refine lv_aload_n hx hb dRq_init_0 rfl (lv_at hl 0 rfl) ?_
  refine W.objInit hx hb hown (hts _ in_105) (hts _ in_106) (hts _ in_107) rfl (by rw [hml]; exact hl.1) rfl dRq_init_1 (Nat.le_of_ble_eq_true rfl) (Nat.le_of_ble_eq_true rfl) ?_
  refine W.eq (g2 := F0 m 4 ls []) rfl ?_
  refine lv_aload_n hx hb dRq_init_4 rfl (lv_at hl 0 rfl) ?_
  refine lv_iconst (v := 0) hx hb dRq_init_5 (by decide) ?_
  refine va_put (D := (dC, dI)) (ci := 1) (v := .int 0) (ty := .int) (C := RRq) (T := TRq) (N := 6) hx hb hts inRq tyRq tyRq_ok nmRq hown hK hP hD hS 0 rfl rfl 0 (by decide) (hts _ in_1) (fun _ h9 => h9) rfl (by decide +kernel) rfl rfl (Nat.le_of_ble_eq_true rfl) dRq_init_6 (fun H locs hP hD hS => ?_)
  have hP : va_P (dC, dI) vwCl ([(r, .inr (1, [.int 0, .int 0, .int 0, .int 0, .int 0, .null]))]) H := hP
  have hD : va_D A ([(r, .inr (1, [.int 0, .int 0, .int 0, .int 0, .int 0, .null]))]) := hD
  refine lv_aload_n hx hb dRq_init_9 rfl (lv_at hl 0 rfl) ?_
  refine lv_iconst (v := 1) hx hb dRq_init_10 (by decide) ?_
  refine va_put (D := (dC, dI)) (ci := 1) (v := .int 1) (ty := .int) (C := RRq) (T := TRq) (N := 6) hx hb hts inRq tyRq tyRq_ok nmRq hown hK hP hD hS 0 rfl rfl 1 (by decide) (hts _ in_2) (fun _ h9 => h9) rfl (by decide +kernel) rfl rfl (Nat.le_of_ble_eq_true rfl) dRq_init_11 (fun H locs hP hD hS => ?_)
  have hP : va_P (dC, dI) vwCl ([(r, .inr (1, [.int 0, .int 1, .int 0, .int 0, .int 0, .null]))]) H := hP
  have hD : va_D A ([(r, .inr (1, [.int 0, .int 1, .int 0, .int 0, .int 0, .null]))]) := hD
  refine lv_aload_n hx hb dRq_init_14 rfl (lv_at hl 0 rfl) ?_
  refine lv_iconst (v := 0) hx hb dRq_init_15 (by decide) ?_
  refine va_put (D := (dC, dI)) (ci := 1) (v := .int 0) (ty := .int) (C := RRq) (T := TRq) (N := 6) hx hb hts inRq tyRq tyRq_ok nmRq hown hK hP hD hS 0 rfl rfl 2 (by decide) (hts _ in_3) (fun _ h9 => h9) rfl (by decide +kernel) rfl rfl (Nat.le_of_ble_eq_true rfl) dRq_init_16 (fun H locs hP hD hS => ?_)
  have hP : va_P (dC, dI) vwCl ([(r, .inr (1, [.int 0, .int 1, .int 0, .int 0, .int 0, .null]))]) H := hP
  have hD : va_D A ([(r, .inr (1, [.int 0, .int 1, .int 0, .int 0, .int 0, .null]))]) := hD
  refine lv_aload_n hx hb dRq_init_19 rfl (lv_at hl 0 rfl) ?_
  refine lv_iconst (v := 0) hx hb dRq_init_20 (by decide) ?_
  refine va_put (D := (dC, dI)) (ci := 1) (v := .int 0) (ty := .int) (C := RRq) (T := TRq) (N := 6) hx hb hts inRq tyRq tyRq_ok nmRq hown hK hP hD hS 0 rfl rfl 3 (by decide) (hts _ in_4) (fun _ h9 => h9) rfl (by decide +kernel) rfl rfl (Nat.le_of_ble_eq_true rfl) dRq_init_21 (fun H locs hP hD hS => ?_)
  have hP : va_P (dC, dI) vwCl ([(r, .inr (1, [.int 0, .int 1, .int 0, .int 0, .int 0, .null]))]) H := hP
  have hD : va_D A ([(r, .inr (1, [.int 0, .int 1, .int 0, .int 0, .int 0, .null]))]) := hD
  refine lv_aload_n hx hb dRq_init_24 rfl (lv_at hl 0 rfl) ?_
  refine lv_iconst (v := 0) hx hb dRq_init_25 (by decide) ?_
  refine va_put (D := (dC, dI)) (ci := 1) (v := .int 0) (ty := .int) (C := RRq) (T := TRq) (N := 6) hx hb hts inRq tyRq tyRq_ok nmRq hown hK hP hD hS 0 rfl rfl 4 (by decide) (hts _ in_0) (fun _ h9 => h9) rfl (by decide +kernel) rfl rfl (Nat.le_of_ble_eq_true rfl) dRq_init_26 (fun H locs hP hD hS => ?_)
  have hP : va_P (dC, dI) vwCl ([(r, .inr (1, [.int 0, .int 1, .int 0, .int 0, .int 0, .null]))]) H := hP
  have hD : va_D A ([(r, .inr (1, [.int 0, .int 1, .int 0, .int 0, .int 0, .null]))]) := hD
  refine lv_aload_n hx hb dRq_init_29 rfl (lv_at hl 0 rfl) ?_
  refine lv_bipush (v := nI 16) hx hb dRq_init_30 (by decide) ?_
  refine va_newa (atype := .int) (a0 := (16, .inl (fun _ => 0))) (ty := .int) (N' := 16) hx hb (hts _ in_108) rfl hK hP hD hS hA (fun _ => rfl) (by decide) (by decide) (by decide) (Nat.le_of_ble_eq_true rfl) (Nat.le_of_ble_eq_true rfl) dRq_init_32 (fun q_1 cA H hK2 hP hD hS => ?_)
  have hcA : cA = cI := ci_eq hK2
  rw [hcA] at hP hD
  have hP : va_P (dC, dI) vwCl ([(r, .inr (1, [.int 0, .int 1, .int 0, .int 0, .int 0, .null]))] ++ [(q_1, .inl (cI, 16, .inl (fun _ => 0)))]) H := hP
  have hD : va_D A ([(r, .inr (1, [.int 0, .int 1, .int 0, .int 0, .int 0, .null]))] ++ [(q_1, .inl (cI, 16, .inl (fun _ => 0)))]) := hD
  refine va_putF (D := (dC, dI)) (ci := 1) (v := .ref q_1) (ty := .array .int) (C := RRq) (T := TRq) (N := 6) hx hb hts inRq tyRq tyRq_ok nmRq hown hK hP hD hS 0 rfl rfl 5 (by decide) (hts _ in_5) (fun _ h9 => h9) rfl hin rfl (by decide +kernel) rfl rfl (Nat.le_of_ble_eq_true rfl) dRq_init_34 (fun H locs hP hD hS => ?_)
  have hP : va_P (dC, dI) vwCl ([(r, .inr (1, [.int 0, .int 1, .int 0, .int 0, .int 0, .ref q_1]))] ++ [(q_1, .inl (cI, 16, .inl (fun _ => 0)))]) H := hP
  have hD : va_D A ([(r, .inr (1, [.int 0, .int 1, .int 0, .int 0, .int 0, .ref q_1]))] ++ [(q_1, .inl (cI, 16, .inl (fun _ => 0)))]) := hD
  have hP9 : va_P (dC, dI) vwCl (wR r q_1 cI (va_up (fun _ => 0) 1 1) (fun _ => 0)) H := by exact hP
  have hD9 : va_D A (wR r q_1 cI (va_up (fun _ => 0) 1 1) (fun _ => 0)) := by exact hD
  refine W.widen (k := 1) (n := 16) (by decide) (by decide) ?_
  exact W.vret hx hb hr (fun t ht hW => ⟨⟨(), rfl, trivial, q_1, by rw [ht]; exact hP9, va_K.moved hW.alike hK, hD9⟩, hS.F ht⟩) hS.2.2 dRq_init_37
set_option maxHeartbeats 4000000 in
set_option maxRecDepth 100000 in
/-- the constructor -/
theorem k_F_init (l : Launch) (dC : Nat → ClassId) (dI : Nat → Nat → Nat) (sz : Nat) (f : Nat) (cI : ClassId) (v : Int32) : Met l yFo_init wsFo_init ({ frames := 1, cells := 4, slots := 320, locals := 40 }) (va_Pc [.ref f, .int v] (fun U => U.heap.size = sz ∧ va_P (dC, dI) vwCl ([(f, .inr (0, [.int 0, .int 0, .int 0, .int 0, .int 0, .int 0, .null, .null, .null, .null]))]) U.heap ∧ va_K (dC, dI) vwCl [(cI, .int)] U ∧ va_D (fun _ => True) ([(f, .inr (0, [.int 0, .int 0, .int 0, .int 0, .int 0, .int 0, .null, .null, .null, .null]))]))) (va_Qv (fun (_ : Unit) => True) (fun _ t => ∃ f1 f2 f3 f4 : Nat, va_P (dC, dI) vwCl (wF f f1 f2 f3 f4 cI (va_up (fun _ => 0) 0 v) (fun _ _ => 0)) t.heap ∧ va_K (dC, dI) vwCl [(cI, .int)] t ∧ va_D (va_A ([(f, .inr (0, [.int 0, .int 0, .int 0, .int 0, .int 0, .int 0, .null, .null, .null, .null]))]) sz) (wF f f1 f2 f3 f4 cI (va_up (fun _ => 0) 0 v) (fun _ _ => 0))) (va_A ([(f, .inr (0, [.int 0, .int 0, .int 0, .int 0, .int 0, .int 0, .null, .null, .null, .null]))]) sz)) 4 320 (va_A ([(f, .inr (0, [.int 0, .int 0, .int 0, .int 0, .int 0, .int 0, .null, .null, .null, .null]))]) sz) := by
  refine Met.ofW (cc := cFo_init) (maxL := 2) (ret := none) (by decide) rfl ?_
  intro p e s m args below meth c s₁ B hml hv
  obtain ⟨rfl, hsz, hP, hK, hD0⟩ := hv
  have hx := B.exec
  have hb := B.bytes
  have hr := B.returns
  have hts0 := atoms_spec (ws := wsFo_init) B.pre
  have hts := fun (w : Cond) (h : w ∈ lw_g) => hts0 w (List.mem_cons_of_mem _ h)
  have hown : s.vm.findClass RFo = some m.cls := findClass_of_methodNamed B.named
  have hlocks := B.notSynchronized
  have hin : meth.name = "<init>" := (name_of_methodNamed B.named B.method).1
  subst hsz
  have hD := hD0.self (sz := s.heap.size)
  generalize hAe : va_A ([(f, .inr (0, [.int 0, .int 0, .int 0, .int 0, .int 0, .int 0, .null, .null, .null, .null]))]) s.heap.size = A at hD ⊢
  have hA : ∀ q : Nat, s.heap.size ≤ q → A q := fun q h => by rw [← hAe]; exact Or.inr h
  have hS : va_S A s.heap s.heap [] := va_S.rf
  have hP : va_P (dC, dI) vwCl ([(f, .inr (0, [.int 0, .int 0, .int 0, .int 0, .int 0, .int 0, .null, .null, .null, .null]))]) s.heap := hP
  have hl := lv_entry ([.ref f, .int v]) (n := 2) (Nat.le_of_ble_eq_true rfl)
  rw [lg_entry_eq]
  generalize (lg_sl ([.ref f, .int v]) ++ List.replicate (2 - (lg_sl ([.ref f, .int v])).length) Slot.unset).toArray = ls at hl ⊢
  have hl : lv_has ls 2 [(0, .ref f), (1, .int v)] := hl
  refine lv_aload_n hx hb dFo_init_0 rfl (lv_at hl 0 rfl) ?_
  refine W.objInit hx hb hown (hts _ in_109) (hts _ in_106) (hts _ in_107) rfl (by rw [hml]; exact hl.1) rfl dFo_init_1 (Nat.le_of_ble_eq_true rfl) (Nat.le_of_ble_eq_true rfl) ?_
  refine W.eq (g2 := F0 m 4 ls []) rfl ?_
  refine lv_aload_n hx hb dFo_init_4 rfl (lv_at hl 0 rfl) ?_
  refine lv_iconst (v := 0) hx hb dFo_init_5 (by decide) ?_
  refine va_put (D := (dC, dI)) (ci := 0) (v := .int 0) (ty := .int) (C := RFo) (T := TFo) (N := 10) hx hb hts inFo tyFo tyFo_ok nmFo hown hK hP hD hS 0 rfl rfl 1 (by decide) (hts _ in_6) (fun _ h9 => h9) rfl (by decide +kernel) rfl rfl (Nat.le_of_ble_eq_true rfl) dFo_init_6 (fun H locs hP hD hS => ?_)
  have hP : va_P (dC, dI) vwCl ([(f, .inr (0, [.int 0, .int 0, .int 0, .int 0, .int 0, .int 0, .null, .null, .null, .null]))]) H := hP
  have hD : va_D A ([(f, .inr (0, [.int 0, .int 0, .int 0, .int 0, .int 0, .int 0, .null, .null, .null, .null]))]) := hD
  refine lv_aload_n hx hb dFo_init_9 rfl (lv_at hl 0 rfl) ?_
  refine lv_iconst (v := 0) hx hb dFo_init_10 (by decide) ?_
  refine va_put (D := (dC, dI)) (ci := 0) (v := .int 0) (ty := .int) (C := RFo) (T := TFo) (N := 10) hx hb hts inFo tyFo tyFo_ok nmFo hown hK hP hD hS 0 rfl rfl 2 (by decide) (hts _ in_13) (fun _ h9 => h9) rfl (by decide +kernel) rfl rfl (Nat.le_of_ble_eq_true rfl) dFo_init_11 (fun H locs hP hD hS => ?_)
  have hP : va_P (dC, dI) vwCl ([(f, .inr (0, [.int 0, .int 0, .int 0, .int 0, .int 0, .int 0, .null, .null, .null, .null]))]) H := hP
  have hD : va_D A ([(f, .inr (0, [.int 0, .int 0, .int 0, .int 0, .int 0, .int 0, .null, .null, .null, .null]))]) := hD
  refine lv_aload_n hx hb dFo_init_14 rfl (lv_at hl 0 rfl) ?_
  refine lv_iconst (v := 0) hx hb dFo_init_15 (by decide) ?_
  refine va_put (D := (dC, dI)) (ci := 0) (v := .int 0) (ty := .int) (C := RFo) (T := TFo) (N := 10) hx hb hts inFo tyFo tyFo_ok nmFo hown hK hP hD hS 0 rfl rfl 3 (by decide) (hts _ in_65) (fun _ h9 => h9) rfl (by decide +kernel) rfl rfl (Nat.le_of_ble_eq_true rfl) dFo_init_16 (fun H locs hP hD hS => ?_)
  have hP : va_P (dC, dI) vwCl ([(f, .inr (0, [.int 0, .int 0, .int 0, .int 0, .int 0, .int 0, .null, .null, .null, .null]))]) H := hP
  have hD : va_D A ([(f, .inr (0, [.int 0, .int 0, .int 0, .int 0, .int 0, .int 0, .null, .null, .null, .null]))]) := hD
  refine lv_aload_n hx hb dFo_init_19 rfl (lv_at hl 0 rfl) ?_
  refine lv_iconst (v := 0) hx hb dFo_init_20 (by decide) ?_
  refine va_put (D := (dC, dI)) (ci := 0) (v := .int 0) (ty := .int) (C := RFo) (T := TFo) (N := 10) hx hb hts inFo tyFo tyFo_ok nmFo hown hK hP hD hS 0 rfl rfl 4 (by decide) (hts _ in_64) (fun _ h9 => h9) rfl (by decide +kernel) rfl rfl (Nat.le_of_ble_eq_true rfl) dFo_init_21 (fun H locs hP hD hS => ?_)
  have hP : va_P (dC, dI) vwCl ([(f, .inr (0, [.int 0, .int 0, .int 0, .int 0, .int 0, .int 0, .null, .null, .null, .null]))]) H := hP
  have hD : va_D A ([(f, .inr (0, [.int 0, .int 0, .int 0, .int 0, .int 0, .int 0, .null, .null, .null, .null]))]) := hD
  refine lv_aload_n hx hb dFo_init_24 rfl (lv_at hl 0 rfl) ?_
  refine lv_iconst (v := 0) hx hb dFo_init_25 (by decide) ?_
  refine va_put (D := (dC, dI)) (ci := 0) (v := .int 0) (ty := .int) (C := RFo) (T := TFo) (N := 10) hx hb hts inFo tyFo tyFo_ok nmFo hown hK hP hD hS 0 rfl rfl 5 (by decide) (hts _ in_70) (fun _ h9 => h9) rfl (by decide +kernel) rfl rfl (Nat.le_of_ble_eq_true rfl) dFo_init_26 (fun H locs hP hD hS => ?_)
  have hP : va_P (dC, dI) vwCl ([(f, .inr (0, [.int 0, .int 0, .int 0, .int 0, .int 0, .int 0, .null, .null, .null, .null]))]) H := hP
  have hD : va_D A ([(f, .inr (0, [.int 0, .int 0, .int 0, .int 0, .int 0, .int 0, .null, .null, .null, .null]))]) := hD
  refine lv_aload_n hx hb dFo_init_29 rfl (lv_at hl 0 rfl) ?_
  refine lv_sipush (v := nI 272) hx hb dFo_init_30 (by decide) ?_
  refine va_newa (atype := .int) (a0 := (272, .inl (fun _ => 0))) (ty := .int) (N' := 272) hx hb (hts _ in_108) rfl hK hP hD hS hA (fun _ => rfl) (by decide) (by decide) (by decide) (Nat.le_of_ble_eq_true rfl) (Nat.le_of_ble_eq_true rfl) dFo_init_33 (fun q_1 cA H hK2 hP hD hS => ?_)
  have hcA : cA = cI := ci_eq hK2
  rw [hcA] at hP hD
  have hP : va_P (dC, dI) vwCl ([(f, .inr (0, [.int 0, .int 0, .int 0, .int 0, .int 0, .int 0, .null, .null, .null, .null]))] ++ [(q_1, .inl (cI, 272, .inl (fun _ => 0)))]) H := hP
  have hD : va_D A ([(f, .inr (0, [.int 0, .int 0, .int 0, .int 0, .int 0, .int 0, .null, .null, .null, .null]))] ++ [(q_1, .inl (cI, 272, .inl (fun _ => 0)))]) := hD
  refine va_putF (D := (dC, dI)) (ci := 0) (v := .ref q_1) (ty := .array .int) (C := RFo) (T := TFo) (N := 10) hx hb hts inFo tyFo tyFo_ok nmFo hown hK hP hD hS 0 rfl rfl 6 (by decide) (hts _ in_14) (fun _ h9 => h9) rfl hin rfl (by decide +kernel) rfl rfl (Nat.le_of_ble_eq_true rfl) dFo_init_35 (fun H locs hP hD hS => ?_)
  have hP : va_P (dC, dI) vwCl ([(f, .inr (0, [.int 0, .int 0, .int 0, .int 0, .int 0, .int 0, .ref q_1, .null, .null, .null]))] ++ [(q_1, .inl (cI, 272, .inl (fun _ => 0)))]) H := hP
  have hD : va_D A ([(f, .inr (0, [.int 0, .int 0, .int 0, .int 0, .int 0, .int 0, .ref q_1, .null, .null, .null]))] ++ [(q_1, .inl (cI, 272, .inl (fun _ => 0)))]) := hD
  refine lv_aload_n hx hb dFo_init_38 rfl (lv_at hl 0 rfl) ?_
  refine lv_bipush (v := nI 16) hx hb dFo_init_39 (by decide) ?_
  refine va_newa (atype := .int) (a0 := (16, .inl (fun _ => 0))) (ty := .int) (N' := 16) hx hb (hts _ in_108) rfl hK hP hD hS hA (fun _ => rfl) (by decide) (by decide) (by decide) (Nat.le_of_ble_eq_true rfl) (Nat.le_of_ble_eq_true rfl) dFo_init_41 (fun q_2 cA H hK2 hP hD hS => ?_)
  have hcA : cA = cI := ci_eq hK2
  rw [hcA] at hP hD
  have hP : va_P (dC, dI) vwCl ([(f, .inr (0, [.int 0, .int 0, .int 0, .int 0, .int 0, .int 0, .ref q_1, .null, .null, .null]))] ++ [(q_1, .inl (cI, 272, .inl (fun _ => 0)))] ++ [(q_2, .inl (cI, 16, .inl (fun _ => 0)))]) H := hP
  have hD : va_D A ([(f, .inr (0, [.int 0, .int 0, .int 0, .int 0, .int 0, .int 0, .ref q_1, .null, .null, .null]))] ++ [(q_1, .inl (cI, 272, .inl (fun _ => 0)))] ++ [(q_2, .inl (cI, 16, .inl (fun _ => 0)))]) := hD
  refine va_putF (D := (dC, dI)) (ci := 0) (v := .ref q_2) (ty := .array .int) (C := RFo) (T := TFo) (N := 10) hx hb hts inFo tyFo tyFo_ok nmFo hown hK hP hD hS 0 rfl rfl 7 (by decide) (hts _ in_12) (fun _ h9 => h9) rfl hin rfl (by decide +kernel) rfl rfl (Nat.le_of_ble_eq_true rfl) dFo_init_43 (fun H locs hP hD hS => ?_)
  have hP : va_P (dC, dI) vwCl ([(f, .inr (0, [.int 0, .int 0, .int 0, .int 0, .int 0, .int 0, .ref q_1, .ref q_2, .null, .null]))] ++ [(q_1, .inl (cI, 272, .inl (fun _ => 0)))] ++ [(q_2, .inl (cI, 16, .inl (fun _ => 0)))]) H := hP
  have hD : va_D A ([(f, .inr (0, [.int 0, .int 0, .int 0, .int 0, .int 0, .int 0, .ref q_1, .ref q_2, .null, .null]))] ++ [(q_1, .inl (cI, 272, .inl (fun _ => 0)))] ++ [(q_2, .inl (cI, 16, .inl (fun _ => 0)))]) := hD
  refine lv_aload_n hx hb dFo_init_46 rfl (lv_at hl 0 rfl) ?_
  refine lv_bipush (v := nI 16) hx hb dFo_init_47 (by decide) ?_
  refine va_newa (atype := .int) (a0 := (16, .inl (fun _ => 0))) (ty := .int) (N' := 16) hx hb (hts _ in_108) rfl hK hP hD hS hA (fun _ => rfl) (by decide) (by decide) (by decide) (Nat.le_of_ble_eq_true rfl) (Nat.le_of_ble_eq_true rfl) dFo_init_49 (fun q_3 cA H hK2 hP hD hS => ?_)
  have hcA : cA = cI := ci_eq hK2
  rw [hcA] at hP hD
  have hP : va_P (dC, dI) vwCl ([(f, .inr (0, [.int 0, .int 0, .int 0, .int 0, .int 0, .int 0, .ref q_1, .ref q_2, .null, .null]))] ++ [(q_1, .inl (cI, 272, .inl (fun _ => 0)))] ++ [(q_2, .inl (cI, 16, .inl (fun _ => 0)))] ++ [(q_3, .inl (cI, 16, .inl (fun _ => 0)))]) H := hP
  have hD : va_D A ([(f, .inr (0, [.int 0, .int 0, .int 0, .int 0, .int 0, .int 0, .ref q_1, .ref q_2, .null, .null]))] ++ [(q_1, .inl (cI, 272, .inl (fun _ => 0)))] ++ [(q_2, .inl (cI, 16, .inl (fun _ => 0)))] ++ [(q_3, .inl (cI, 16, .inl (fun _ => 0)))]) := hD
  refine va_putF (D := (dC, dI)) (ci := 0) (v := .ref q_3) (ty := .array .int) (C := RFo) (T := TFo) (N := 10) hx hb hts inFo tyFo tyFo_ok nmFo hown hK hP hD hS 0 rfl rfl 8 (by decide) (hts _ in_26) (fun _ h9 => h9) rfl hin rfl (by decide +kernel) rfl rfl (Nat.le_of_ble_eq_true rfl) dFo_init_51 (fun H locs hP hD hS => ?_)
  have hP : va_P (dC, dI) vwCl ([(f, .inr (0, [.int 0, .int 0, .int 0, .int 0, .int 0, .int 0, .ref q_1, .ref q_2, .ref q_3, .null]))] ++ [(q_1, .inl (cI, 272, .inl (fun _ => 0)))] ++ [(q_2, .inl (cI, 16, .inl (fun _ => 0)))] ++ [(q_3, .inl (cI, 16, .inl (fun _ => 0)))]) H := hP
  have hD : va_D A ([(f, .inr (0, [.int 0, .int 0, .int 0, .int 0, .int 0, .int 0, .ref q_1, .ref q_2, .ref q_3, .null]))] ++ [(q_1, .inl (cI, 272, .inl (fun _ => 0)))] ++ [(q_2, .inl (cI, 16, .inl (fun _ => 0)))] ++ [(q_3, .inl (cI, 16, .inl (fun _ => 0)))]) := hD
  refine lv_aload_n hx hb dFo_init_54 rfl (lv_at hl 0 rfl) ?_
  refine lv_bipush (v := nI 16) hx hb dFo_init_55 (by decide) ?_
  refine va_newa (atype := .int) (a0 := (16, .inl (fun _ => 0))) (ty := .int) (N' := 16) hx hb (hts _ in_108) rfl hK hP hD hS hA (fun _ => rfl) (by decide) (by decide) (by decide) (Nat.le_of_ble_eq_true rfl) (Nat.le_of_ble_eq_true rfl) dFo_init_57 (fun q_4 cA H hK2 hP hD hS => ?_)
  have hcA : cA = cI := ci_eq hK2
  rw [hcA] at hP hD
  have hP : va_P (dC, dI) vwCl ([(f, .inr (0, [.int 0, .int 0, .int 0, .int 0, .int 0, .int 0, .ref q_1, .ref q_2, .ref q_3, .null]))] ++ [(q_1, .inl (cI, 272, .inl (fun _ => 0)))] ++ [(q_2, .inl (cI, 16, .inl (fun _ => 0)))] ++ [(q_3, .inl (cI, 16, .inl (fun _ => 0)))] ++ [(q_4, .inl (cI, 16, .inl (fun _ => 0)))]) H := hP
  have hD : va_D A ([(f, .inr (0, [.int 0, .int 0, .int 0, .int 0, .int 0, .int 0, .ref q_1, .ref q_2, .ref q_3, .null]))] ++ [(q_1, .inl (cI, 272, .inl (fun _ => 0)))] ++ [(q_2, .inl (cI, 16, .inl (fun _ => 0)))] ++ [(q_3, .inl (cI, 16, .inl (fun _ => 0)))] ++ [(q_4, .inl (cI, 16, .inl (fun _ => 0)))]) := hD
  refine va_putF (D := (dC, dI)) (ci := 0) (v := .ref q_4) (ty := .array .int) (C := RFo) (T := TFo) (N := 10) hx hb hts inFo tyFo tyFo_ok nmFo hown hK hP hD hS 0 rfl rfl 9 (by decide) (hts _ in_37) (fun _ h9 => h9) rfl hin rfl (by decide +kernel) rfl rfl (Nat.le_of_ble_eq_true rfl) dFo_init_59 (fun H locs hP hD hS => ?_)
  have hP : va_P (dC, dI) vwCl ([(f, .inr (0, [.int 0, .int 0, .int 0, .int 0, .int 0, .int 0, .ref q_1, .ref q_2, .ref q_3, .ref q_4]))] ++ [(q_1, .inl (cI, 272, .inl (fun _ => 0)))] ++ [(q_2, .inl (cI, 16, .inl (fun _ => 0)))] ++ [(q_3, .inl (cI, 16, .inl (fun _ => 0)))] ++ [(q_4, .inl (cI, 16, .inl (fun _ => 0)))]) H := hP
  have hD : va_D A ([(f, .inr (0, [.int 0, .int 0, .int 0, .int 0, .int 0, .int 0, .ref q_1, .ref q_2, .ref q_3, .ref q_4]))] ++ [(q_1, .inl (cI, 272, .inl (fun _ => 0)))] ++ [(q_2, .inl (cI, 16, .inl (fun _ => 0)))] ++ [(q_3, .inl (cI, 16, .inl (fun _ => 0)))] ++ [(q_4, .inl (cI, 16, .inl (fun _ => 0)))]) := hD
  refine lv_aload_n hx hb dFo_init_62 rfl (lv_at hl 0 rfl) ?_
  refine lv_iload_n hx hb dFo_init_63 rfl (lv_at hl 1 rfl) ?_
  refine va_putF (D := (dC, dI)) (ci := 0) (v := .int v) (ty := .int) (C := RFo) (T := TFo) (N := 10) hx hb hts inFo tyFo tyFo_ok nmFo hown hK hP hD hS 0 rfl rfl 0 (by decide) (hts _ in_7) (fun _ h9 => h9) rfl hin rfl (by decide +kernel) rfl rfl (Nat.le_of_ble_eq_true rfl) dFo_init_64 (fun H locs hP hD hS => ?_)
  have hP : va_P (dC, dI) vwCl ([(f, .inr (0, [.int v, .int 0, .int 0, .int 0, .int 0, .int 0, .ref q_1, .ref q_2, .ref q_3, .ref q_4]))] ++ [(q_1, .inl (cI, 272, .inl (fun _ => 0)))] ++ [(q_2, .inl (cI, 16, .inl (fun _ => 0)))] ++ [(q_3, .inl (cI, 16, .inl (fun _ => 0)))] ++ [(q_4, .inl (cI, 16, .inl (fun _ => 0)))]) H := hP
  have hD : va_D A ([(f, .inr (0, [.int v, .int 0, .int 0, .int 0, .int 0, .int 0, .ref q_1, .ref q_2, .ref q_3, .ref q_4]))] ++ [(q_1, .inl (cI, 272, .inl (fun _ => 0)))] ++ [(q_2, .inl (cI, 16, .inl (fun _ => 0)))] ++ [(q_3, .inl (cI, 16, .inl (fun _ => 0)))] ++ [(q_4, .inl (cI, 16, .inl (fun _ => 0)))]) := hD
  have hP9 : va_P (dC, dI) vwCl (wF f q_1 q_2 q_3 q_4 cI (va_up (fun _ => 0) 0 v) (fun _ _ => 0)) H := by exact hP
  have hD9 : va_D A (wF f q_1 q_2 q_3 q_4 cI (va_up (fun _ => 0) 0 v) (fun _ _ => 0)) := by exact hD
  refine W.widen (k := 4) (n := 320) (by decide) (by decide) ?_
  exact W.vret hx hb hr (fun t ht hW => ⟨⟨(), rfl, trivial, q_1, q_2, q_3, q_4, by rw [ht]; exact hP9, va_K.moved hW.alike hK, hD9⟩, hS.F ht⟩) hS.2.2 dFo_init_67
end
section
set_option maxHeartbeats 4000000 in
set_option maxRecDepth 100000 in
/-- is16(k) -/
theorem k_M_is16 (l : Launch) (k : Int32) : Met l yMd_is16 wsMd_is16 ({ frames := 1, cells := 0, slots := 0, locals := 40 }) (va_Pc [.int k] (fun _ => True)) (vp_Si (fun r => r = s_in k)) 0 0 (fun _ => False) := by
  refine Met.ofW (cc := cMd_is16) (maxL := 1) (ret := (some .boolean)) (by decide) rfl ?_
  intro p e s m args below meth c s₁ B hml hv
  obtain ⟨rfl, -⟩ := hv
  have hx := B.exec
  have hb := B.bytes
  have hr := B.returns
  have hts0 := atoms_spec (ws := wsMd_is16) B.pre
  have hts := fun (w : Cond) (h : w ∈ lw_g) => hts0 w (List.mem_cons_of_mem _ h)
  have hown : s.vm.findClass RMd = some m.cls := findClass_of_methodNamed B.named
  have hlocks := B.notSynchronized
  have hl := lv_entry ([.int k]) (n := 1) (Nat.le_of_ble_eq_true rfl)
  rw [lg_entry_eq]
  generalize (lg_sl ([.int k]) ++ List.replicate (1 - (lg_sl ([.int k])).length) Slot.unset).toArray = ls at hl ⊢
  have hl : lv_has ls 1 [(0, .int k)] := hl
  refine lv_iload_n hx hb dMd_is16_0 rfl (lv_at hl 0 rfl) ?_
  refine lv_if_lt (tgt := 14) hx hb dMd_is16_1 (by decide) (fun c_1 => ?_) (fun c_1 => ?_)
  · skip
    refine lv_iconst (v := 0) hx hb dMd_is16_14 (by decide) ?_
    exact W.zret (v := 0) (ty := .boolean) hx hb hr rfl (fun t ht hW => ⟨0, rfl, by simp only [s_in, if_pos c_1], ht⟩) (fun q h => by cases h) dMd_is16_15
  · skip
    refine lv_iload_n hx hb dMd_is16_4 rfl (lv_at hl 0 rfl) ?_
    refine lv_bipush (v := nI 16) hx hb dMd_is16_5 (by decide) ?_
    refine lv_icmp_ge (tgt := 14) hx hb dMd_is16_7 (by decide) (fun c_2 => ?_) (fun c_2 => ?_)
    · skip
      refine lv_iconst (v := 0) hx hb dMd_is16_14 (by decide) ?_
      exact W.zret (v := 0) (ty := .boolean) hx hb hr rfl (fun t ht hW => ⟨0, rfl, by simp only [s_in, if_neg c_1, if_pos c_2], ht⟩) (fun q h => by cases h) dMd_is16_15
    · skip
      refine lv_iconst (v := 1) hx hb dMd_is16_10 (by decide) ?_
      refine lv_goto (tgt := 15) hx hb dMd_is16_11 (by decide) ?_
      exact W.zret (v := 1) (ty := .boolean) hx hb hr rfl (fun t ht hW => ⟨1, rfl, by simp only [s_in, if_neg c_1, if_neg c_2], ht⟩) (fun q h => by cases h) dMd_is16_15
set_option maxHeartbeats 4000000 in
set_option maxRecDepth 100000 in
/-- thrown() -/
theorem k_M_thrown (l : Launch) (dC : Nat → ClassId) (dI : Nat → Nat → Nat) (y y1 y2 y3 y4 y5 y6 y7 y8 y9 y10 : Nat) (cI : ClassId) (mi : Nat → Int32) (ma : Nat → Nat → Int32) : Met l yMd_thrown wsMd_thrown ({ frames := 1, cells := 0, slots := 0, locals := 40 }) (va_Pc [.ref y] (fun U => va_P (dC, dI) vwCl (wM y y1 y2 y3 y4 y5 y6 y7 y8 y9 y10 cI mi ma) U.heap ∧ va_K (dC, dI) vwCl [(cI, .int)] U)) (vp_Si (fun r => r = mi 0)) 0 0 (fun _ => False) := by
  refine Met.ofW (cc := cMd_thrown) (maxL := 1) (ret := (some .int)) (by decide) rfl ?_
  intro p e s m args below meth c s₁ B hml hv
  obtain ⟨rfl, hP, hK⟩ := hv
  have hx := B.exec
  have hb := B.bytes
  have hr := B.returns
  have hts0 := atoms_spec (ws := wsMd_thrown) B.pre
  have hts := fun (w : Cond) (h : w ∈ lw_g) => hts0 w (List.mem_cons_of_mem _ h)
  have hown : s.vm.findClass RMd = some m.cls := findClass_of_methodNamed B.named
  have hlocks := B.notSynchronized
  have hl := lv_entry ([.ref y]) (n := 1) (Nat.le_of_ble_eq_true rfl)
  rw [lg_entry_eq]
  generalize (lg_sl ([.ref y]) ++ List.replicate (1 - (lg_sl ([.ref y])).length) Slot.unset).toArray = ls at hl ⊢
  have hl : lv_has ls 1 [(0, .ref y)] := hl
  refine lv_aload_n hx hb dMd_thrown_0 rfl (lv_at hl 0 rfl) ?_
  refine va_get (D := (dC, dI)) (ci := 3) (v := .int (mi 0)) (C := RMd) (T := TMd) (N := 17) hx hb hts inMd hown hK hP 0 rfl rfl 0 (by decide) (hts _ in_71) (fun _ h9 => h9) rfl dMd_thrown_1 ?_
  exact W.iret (v := mi 0) hx hb hr (fun t ht hW => ⟨mi 0, rfl, rfl, ht⟩) (fun q h => by cases h) dMd_thrown_4
set_option maxHeartbeats 4000000 in
set_option maxRecDepth 100000 in
/-- lacks(x) -/
theorem k_M_lacks (l : Launch) (dC : Nat → ClassId) (dI : Nat → Nat → Nat) (sz : Nat) (y y1 y2 y3 y4 y5 y6 y7 y8 y9 y10 : Nat) (cI : ClassId) (mi : Nat → Int32) (ma : Nat → Nat → Int32) (x : Int32) : Met l yMd_lacks wsMd_lacks ({ frames := 1, cells := 0, slots := 0, locals := 40 }) (va_Pc [.ref y, .int x] (fun U => U.heap.size = sz ∧ va_P (dC, dI) vwCl (wM y y1 y2 y3 y4 y5 y6 y7 y8 y9 y10 cI mi ma) U.heap ∧ va_K (dC, dI) vwCl [(cI, .int)] U ∧ va_D (fun _ => True) (wM y y1 y2 y3 y4 y5 y6 y7 y8 y9 y10 cI mi ma))) (va_Qi (fun (r : Int32) (_ : Unit) => r = s_lk x) (fun _ t => va_P (dC, dI) vwCl (wM y y1 y2 y3 y4 y5 y6 y7 y8 y9 y10 cI (va_up mi 0 (s_lk x)) ma) t.heap ∧ va_K (dC, dI) vwCl [(cI, .int)] t ∧ va_D (va_A (wM y y1 y2 y3 y4 y5 y6 y7 y8 y9 y10 cI mi ma) sz) (wM y y1 y2 y3 y4 y5 y6 y7 y8 y9 y10 cI (va_up mi 0 (s_lk x)) ma)) (va_A (wM y y1 y2 y3 y4 y5 y6 y7 y8 y9 y10 cI mi ma) sz)) 0 0 (va_A (wM y y1 y2 y3 y4 y5 y6 y7 y8 y9 y10 cI mi ma) sz) := by
  refine Met.ofW (cc := cMd_lacks) (maxL := 2) (ret := (some .boolean)) (by decide) rfl ?_
  intro p e s m args below meth c s₁ B hml hv
  obtain ⟨rfl, hsz, hP, hK, hD0⟩ := hv
  have hx := B.exec
  have hb := B.bytes
  have hr := B.returns
  have hts0 := atoms_spec (ws := wsMd_lacks) B.pre
  have hts := fun (w : Cond) (h : w ∈ lw_g) => hts0 w (List.mem_cons_of_mem _ h)
  have hown : s.vm.findClass RMd = some m.cls := findClass_of_methodNamed B.named
  have hlocks := B.notSynchronized
  subst hsz
  have hD := hD0.self (sz := s.heap.size)
  generalize hAe : va_A (wM y y1 y2 y3 y4 y5 y6 y7 y8 y9 y10 cI mi ma) s.heap.size = A at hD ⊢
  have hA : ∀ q : Nat, s.heap.size ≤ q → A q := fun q h => by rw [← hAe]; exact Or.inr h
  have hS : va_S A s.heap s.heap [] := va_S.rf
  have hP : va_P (dC, dI) vwCl (wM y y1 y2 y3 y4 y5 y6 y7 y8 y9 y10 cI mi ma) s.heap := hP
  have hl := lv_entry ([.ref y, .int x]) (n := 2) (Nat.le_of_ble_eq_true rfl)
  rw [lg_entry_eq]
  generalize (lg_sl ([.ref y, .int x]) ++ List.replicate (2 - (lg_sl ([.ref y, .int x])).length) Slot.unset).toArray = ls at hl ⊢
  have hl : lv_has ls 2 [(0, .ref y), (1, .int x)] := hl
  refine lv_aload_n hx hb dMd_lacks_0 rfl (lv_at hl 0 rfl) ?_
  refine lv_iload_n hx hb dMd_lacks_1 rfl (lv_at hl 1 rfl) ?_
  refine lv_if_lt (tgt := 14) hx hb dMd_lacks_2 (by decide) (fun c_1 => ?_) (fun c_1 => ?_)
  · skip
    refine lv_iconst (v := 1) hx hb dMd_lacks_14 (by decide) ?_
    refine va_put (D := (dC, dI)) (ci := 3) (v := .int 1) (ty := .int) (C := RMd) (T := TMd) (N := 17) hx hb hts inMd tyMd tyMd_ok nmMd hown hK hP hD hS 0 rfl rfl 0 (by decide) (hts _ in_71) (fun _ h9 => h9) rfl (by decide +kernel) rfl rfl (Nat.le_of_ble_eq_true rfl) dMd_lacks_15 (fun H locs hP hD hS => ?_)
    have hP : va_P (dC, dI) vwCl (wM y y1 y2 y3 y4 y5 y6 y7 y8 y9 y10 cI (va_up mi 0 1) ma) H := hP
    have hD : va_D A (wM y y1 y2 y3 y4 y5 y6 y7 y8 y9 y10 cI (va_up mi 0 1) ma) := hD
    refine lv_aload_n hx hb dMd_lacks_18 rfl (lv_at hl 0 rfl) ?_
    refine va_get (D := (dC, dI)) (ci := 3) (v := .int 1) (C := RMd) (T := TMd) (N := 17) hx hb hts inMd hown hK hP 0 rfl rfl 0 (by decide) (hts _ in_71) (fun _ h9 => h9) rfl dMd_lacks_19 ?_
    refine lv_if_le (tgt := 29) hx hb dMd_lacks_22 (by decide) (fun c_2 => absurd c_2 (by decide)) (fun _ => ?_)
    refine lv_iconst (v := 1) hx hb dMd_lacks_25 (by decide) ?_
    refine lv_goto (tgt := 30) hx hb dMd_lacks_26 (by decide) ?_
    have hP9 : va_P (dC, dI) vwCl (wM y y1 y2 y3 y4 y5 y6 y7 y8 y9 y10 cI (va_up mi 0 (s_lk x)) ma) H := by simp only [s_lk, if_pos c_1]; exact hP
    have hD9 : va_D A (wM y y1 y2 y3 y4 y5 y6 y7 y8 y9 y10 cI (va_up mi 0 (s_lk x)) ma) := by simp only [s_lk, if_pos c_1]; exact hD
    exact W.zret (v := 1) (ty := .boolean) hx hb hr rfl (fun t ht hW => ⟨⟨1, (), rfl, by simp only [s_lk, if_pos c_1], by rw [ht]; exact hP9, va_K.moved hW.alike hK, hD9⟩, hS.F ht⟩) hS.2.2 dMd_lacks_30
  · skip
    refine lv_iload_n hx hb dMd_lacks_5 rfl (lv_at hl 1 rfl) ?_
    refine lv_iconst (v := nI 4) hx hb dMd_lacks_6 (by decide) ?_
    refine lv_icmp_ge (tgt := 14) hx hb dMd_lacks_7 (by decide) (fun c_3 => ?_) (fun c_3 => ?_)
    · skip
      refine lv_iconst (v := 1) hx hb dMd_lacks_14 (by decide) ?_
      refine va_put (D := (dC, dI)) (ci := 3) (v := .int 1) (ty := .int) (C := RMd) (T := TMd) (N := 17) hx hb hts inMd tyMd tyMd_ok nmMd hown hK hP hD hS 0 rfl rfl 0 (by decide) (hts _ in_71) (fun _ h9 => h9) rfl (by decide +kernel) rfl rfl (Nat.le_of_ble_eq_true rfl) dMd_lacks_15 (fun H locs hP hD hS => ?_)
      have hP : va_P (dC, dI) vwCl (wM y y1 y2 y3 y4 y5 y6 y7 y8 y9 y10 cI (va_up mi 0 1) ma) H := hP
      have hD : va_D A (wM y y1 y2 y3 y4 y5 y6 y7 y8 y9 y10 cI (va_up mi 0 1) ma) := hD
      refine lv_aload_n hx hb dMd_lacks_18 rfl (lv_at hl 0 rfl) ?_
      refine va_get (D := (dC, dI)) (ci := 3) (v := .int 1) (C := RMd) (T := TMd) (N := 17) hx hb hts inMd hown hK hP 0 rfl rfl 0 (by decide) (hts _ in_71) (fun _ h9 => h9) rfl dMd_lacks_19 ?_
      refine lv_if_le (tgt := 29) hx hb dMd_lacks_22 (by decide) (fun c_4 => absurd c_4 (by decide)) (fun _ => ?_)
      refine lv_iconst (v := 1) hx hb dMd_lacks_25 (by decide) ?_
      refine lv_goto (tgt := 30) hx hb dMd_lacks_26 (by decide) ?_
      have hP9 : va_P (dC, dI) vwCl (wM y y1 y2 y3 y4 y5 y6 y7 y8 y9 y10 cI (va_up mi 0 (s_lk x)) ma) H := by simp only [s_lk, if_neg c_1, if_pos c_3]; exact hP
      have hD9 : va_D A (wM y y1 y2 y3 y4 y5 y6 y7 y8 y9 y10 cI (va_up mi 0 (s_lk x)) ma) := by simp only [s_lk, if_neg c_1, if_pos c_3]; exact hD
      exact W.zret (v := 1) (ty := .boolean) hx hb hr rfl (fun t ht hW => ⟨⟨1, (), rfl, by simp only [s_lk, if_neg c_1, if_pos c_3], by rw [ht]; exact hP9, va_K.moved hW.alike hK, hD9⟩, hS.F ht⟩) hS.2.2 dMd_lacks_30
    · skip
      refine lv_iconst (v := 0) hx hb dMd_lacks_10 (by decide) ?_
      refine lv_goto (tgt := 15) hx hb dMd_lacks_11 (by decide) ?_
      refine va_put (D := (dC, dI)) (ci := 3) (v := .int 0) (ty := .int) (C := RMd) (T := TMd) (N := 17) hx hb hts inMd tyMd tyMd_ok nmMd hown hK hP hD hS 0 rfl rfl 0 (by decide) (hts _ in_71) (fun _ h9 => h9) rfl (by decide +kernel) rfl rfl (Nat.le_of_ble_eq_true rfl) dMd_lacks_15 (fun H locs hP hD hS => ?_)
      have hP : va_P (dC, dI) vwCl (wM y y1 y2 y3 y4 y5 y6 y7 y8 y9 y10 cI (va_up mi 0 0) ma) H := hP
      have hD : va_D A (wM y y1 y2 y3 y4 y5 y6 y7 y8 y9 y10 cI (va_up mi 0 0) ma) := hD
      refine lv_aload_n hx hb dMd_lacks_18 rfl (lv_at hl 0 rfl) ?_
      refine va_get (D := (dC, dI)) (ci := 3) (v := .int 0) (C := RMd) (T := TMd) (N := 17) hx hb hts inMd hown hK hP 0 rfl rfl 0 (by decide) (hts _ in_71) (fun _ h9 => h9) rfl dMd_lacks_19 ?_
      refine lv_if_le (tgt := 29) hx hb dMd_lacks_22 (by decide) (fun _ => ?_) (fun c_5 => absurd c_5 (by decide))
      refine lv_iconst (v := 0) hx hb dMd_lacks_29 (by decide) ?_
      have hP9 : va_P (dC, dI) vwCl (wM y y1 y2 y3 y4 y5 y6 y7 y8 y9 y10 cI (va_up mi 0 (s_lk x)) ma) H := by simp only [s_lk, if_neg c_1, if_neg c_3]; exact hP
      have hD9 : va_D A (wM y y1 y2 y3 y4 y5 y6 y7 y8 y9 y10 cI (va_up mi 0 (s_lk x)) ma) := by simp only [s_lk, if_neg c_1, if_neg c_3]; exact hD
      exact W.zret (v := 0) (ty := .boolean) hx hb hr rfl (fun t ht hW => ⟨⟨0, (), rfl, by simp only [s_lk, if_neg c_1, if_neg c_3], by rw [ht]; exact hP9, va_K.moved hW.alike hK, hD9⟩, hS.F ht⟩) hS.2.2 dMd_lacks_30
set_option maxHeartbeats 4000000 in
set_option maxRecDepth 100000 in
/-- draft(a, b, c) -/
theorem k_M_draft (l : Launch) (dC : Nat → ClassId) (dI : Nat → Nat → Nat) (sz : Nat) (y y1 y2 y3 y4 y5 y6 y7 y8 y9 y10 : Nat) (cI : ClassId) (mi : Nat → Int32) (ma : Nat → Nat → Int32) (a b c0 : Int32) : Met l yMd_draft wsMd_draft ({ frames := 2, cells := 0, slots := 0, locals := 80 }) (va_Pc [.ref y, .int a, .int b, .int c0] (fun U => U.heap.size = sz ∧ va_P (dC, dI) vwCl (wM y y1 y2 y3 y4 y5 y6 y7 y8 y9 y10 cI mi ma) U.heap ∧ va_K (dC, dI) vwCl [(cI, .int)] U ∧ va_D (fun _ => True) (wM y y1 y2 y3 y4 y5 y6 y7 y8 y9 y10 cI mi ma))) (va_Qi (fun (r : Int32) (_ : Unit) => r = (m_dr mi a b c0).1) (fun _ t => va_P (dC, dI) vwCl (wM y y1 y2 y3 y4 y5 y6 y7 y8 y9 y10 cI ((m_dr mi a b c0).2) ma) t.heap ∧ va_K (dC, dI) vwCl [(cI, .int)] t ∧ va_D (va_A (wM y y1 y2 y3 y4 y5 y6 y7 y8 y9 y10 cI mi ma) sz) (wM y y1 y2 y3 y4 y5 y6 y7 y8 y9 y10 cI ((m_dr mi a b c0).2) ma)) (va_A (wM y y1 y2 y3 y4 y5 y6 y7 y8 y9 y10 cI mi ma) sz)) 0 0 (va_A (wM y y1 y2 y3 y4 y5 y6 y7 y8 y9 y10 cI mi ma) sz) := by
  refine Met.ofW (cc := cMd_draft) (maxL := 4) (ret := (some .boolean)) (by decide) rfl ?_
  intro p e s m args below meth c s₁ B hml hv
  obtain ⟨rfl, hsz, hP, hK, hD0⟩ := hv
  have hx := B.exec
  have hb := B.bytes
  have hr := B.returns
  have hts0 := atoms_spec (ws := wsMd_draft) B.pre
  have hts := fun (w : Cond) (h : w ∈ lw_g) => hts0 w (List.mem_cons_of_mem _ h)
  have hown : s.vm.findClass RMd = some m.cls := findClass_of_methodNamed B.named
  have hlocks := B.notSynchronized
  subst hsz
  have hD := hD0.self (sz := s.heap.size)
  generalize hAe : va_A (wM y y1 y2 y3 y4 y5 y6 y7 y8 y9 y10 cI mi ma) s.heap.size = A at hD ⊢
  have hA : ∀ q : Nat, s.heap.size ≤ q → A q := fun q h => by rw [← hAe]; exact Or.inr h
  have hS : va_S A s.heap s.heap [] := va_S.rf
  have hP : va_P (dC, dI) vwCl (wM y y1 y2 y3 y4 y5 y6 y7 y8 y9 y10 cI mi ma) s.heap := hP
  have hl := lv_entry ([.ref y, .int a, .int b, .int c0]) (n := 4) (Nat.le_of_ble_eq_true rfl)
  rw [lg_entry_eq]
  generalize (lg_sl ([.ref y, .int a, .int b, .int c0]) ++ List.replicate (4 - (lg_sl ([.ref y, .int a, .int b, .int c0])).length) Slot.unset).toArray = ls at hl ⊢
  have hl : lv_has ls 4 [(0, .ref y), (1, .int a), (2, .int b), (3, .int c0)] := hl
  refine lv_aload_n hx hb dMd_draft_0 rfl (lv_at hl 0 rfl) ?_
  refine lv_iconst (v := 0) hx hb dMd_draft_1 (by decide) ?_
  refine va_put (D := (dC, dI)) (ci := 3) (v := .int 0) (ty := .int) (C := RMd) (T := TMd) (N := 17) hx hb hts inMd tyMd tyMd_ok nmMd hown hK hP hD hS 0 rfl rfl 0 (by decide) (hts _ in_71) (fun _ h9 => h9) rfl (by decide +kernel) rfl rfl (Nat.le_of_ble_eq_true rfl) dMd_draft_2 (fun H locs hP hD hS => ?_)
  have hP : va_P (dC, dI) vwCl (wM y y1 y2 y3 y4 y5 y6 y7 y8 y9 y10 cI (va_up mi 0 0) ma) H := hP
  have hD : va_D A (wM y y1 y2 y3 y4 y5 y6 y7 y8 y9 y10 cI (va_up mi 0 0) ma) := hD
  refine lv_iload_n hx hb dMd_draft_5 rfl (lv_at hl 1 rfl) ?_
  refine vp_callSi (W.runS (As := [.int a]) (rest := []) ⟨hx, hb, hml, hown, hts⟩ (k_M_is16 l a) (va_cwS 1 hts (gd_S in_72 in_75 in_74 in_73) rfl rfl rfl (by decide +kernel) ⟨Nat.le_of_ble_eq_true rfl, Nat.le_of_ble_eq_true rfl⟩) ⟨fun a U g mk q => q, fun U hU hW => ⟨rfl, trivial⟩⟩ rfl rfl hl.1 rfl (lv_room (Nat.le_of_ble_eq_true rfl)) dMd_draft_6 ⟨Nat.le_of_ble_eq_true rfl, Nat.le_of_ble_eq_true rfl⟩) (fun r_1 er_2 => ?_)
  subst er_2
  refine lv_if_eq (tgt := 21) hx hb dMd_draft_9 (by decide) (fun c_3 => ?_) (fun c_3 => ?_)
  · skip
    refine lv_iconst (v := 0) hx hb dMd_draft_21 (by decide) ?_
    have hP9 : va_P (dC, dI) vwCl (wM y y1 y2 y3 y4 y5 y6 y7 y8 y9 y10 cI ((m_dr mi a b c0).2) ma) H := by simp only [m_dr, if_pos c_3]; exact hP
    have hD9 : va_D A (wM y y1 y2 y3 y4 y5 y6 y7 y8 y9 y10 cI ((m_dr mi a b c0).2) ma) := by simp only [m_dr, if_pos c_3]; exact hD
    exact W.zret (v := 0) (ty := .boolean) hx hb hr rfl (fun t ht hW => ⟨⟨0, (), rfl, by simp only [m_dr, if_pos c_3], by rw [ht]; exact hP9, va_K.moved hW.alike hK, hD9⟩, hS.F ht⟩) hS.2.2 dMd_draft_22
  · skip
    refine lv_iload_n hx hb dMd_draft_12 rfl (lv_at hl 2 rfl) ?_
    refine lv_iconst (v := 1) hx hb dMd_draft_13 (by decide) ?_
    refine lv_icmp_lt (tgt := 21) hx hb dMd_draft_14 (by decide) (fun c_4 => ?_) (fun c_4 => ?_)
    · skip
      refine lv_iconst (v := 0) hx hb dMd_draft_21 (by decide) ?_
      have hP9 : va_P (dC, dI) vwCl (wM y y1 y2 y3 y4 y5 y6 y7 y8 y9 y10 cI ((m_dr mi a b c0).2) ma) H := by simp only [m_dr, if_neg c_3, if_pos c_4]; exact hP
      have hD9 : va_D A (wM y y1 y2 y3 y4 y5 y6 y7 y8 y9 y10 cI ((m_dr mi a b c0).2) ma) := by simp only [m_dr, if_neg c_3, if_pos c_4]; exact hD
      exact W.zret (v := 0) (ty := .boolean) hx hb hr rfl (fun t ht hW => ⟨⟨0, (), rfl, by simp only [m_dr, if_neg c_3, if_pos c_4], by rw [ht]; exact hP9, va_K.moved hW.alike hK, hD9⟩, hS.F ht⟩) hS.2.2 dMd_draft_22
    · skip
      refine lv_iload_n hx hb dMd_draft_17 rfl (lv_at hl 3 rfl) ?_
      refine lv_if_ge (tgt := 23) hx hb dMd_draft_18 (by decide) (fun c_5 => ?_) (fun c_5 => ?_)
      · skip
        refine lv_aload_n hx hb dMd_draft_23 rfl (lv_at hl 0 rfl) ?_
        refine lv_iload_n hx hb dMd_draft_24 rfl (lv_at hl 1 rfl) ?_
        refine va_put (D := (dC, dI)) (ci := 3) (v := .int a) (ty := .int) (C := RMd) (T := TMd) (N := 17) hx hb hts inMd tyMd tyMd_ok nmMd hown hK hP hD hS 0 rfl rfl 11 (by decide) (hts _ in_76) (fun _ h9 => h9) rfl (by decide +kernel) rfl rfl (Nat.le_of_ble_eq_true rfl) dMd_draft_25 (fun H locs hP hD hS => ?_)
        have hP : va_P (dC, dI) vwCl (wM y y1 y2 y3 y4 y5 y6 y7 y8 y9 y10 cI (va_up (va_up mi 0 0) 2 a) ma) H := hP
        have hD : va_D A (wM y y1 y2 y3 y4 y5 y6 y7 y8 y9 y10 cI (va_up (va_up mi 0 0) 2 a) ma) := hD
        refine lv_aload_n hx hb dMd_draft_28 rfl (lv_at hl 0 rfl) ?_
        refine lv_iload_n hx hb dMd_draft_29 rfl (lv_at hl 2 rfl) ?_
        refine va_put (D := (dC, dI)) (ci := 3) (v := .int b) (ty := .int) (C := RMd) (T := TMd) (N := 17) hx hb hts inMd tyMd tyMd_ok nmMd hown hK hP hD hS 0 rfl rfl 12 (by decide) (hts _ in_77) (fun _ h9 => h9) rfl (by decide +kernel) rfl rfl (Nat.le_of_ble_eq_true rfl) dMd_draft_30 (fun H locs hP hD hS => ?_)
        have hP : va_P (dC, dI) vwCl (wM y y1 y2 y3 y4 y5 y6 y7 y8 y9 y10 cI (va_up (va_up (va_up mi 0 0) 2 a) 3 b) ma) H := hP
        have hD : va_D A (wM y y1 y2 y3 y4 y5 y6 y7 y8 y9 y10 cI (va_up (va_up (va_up mi 0 0) 2 a) 3 b) ma) := hD
        refine lv_aload_n hx hb dMd_draft_33 rfl (lv_at hl 0 rfl) ?_
        refine lv_iload_n hx hb dMd_draft_34 rfl (lv_at hl 3 rfl) ?_
        refine va_put (D := (dC, dI)) (ci := 3) (v := .int c0) (ty := .int) (C := RMd) (T := TMd) (N := 17) hx hb hts inMd tyMd tyMd_ok nmMd hown hK hP hD hS 0 rfl rfl 13 (by decide) (hts _ in_78) (fun _ h9 => h9) rfl (by decide +kernel) rfl rfl (Nat.le_of_ble_eq_true rfl) dMd_draft_35 (fun H locs hP hD hS => ?_)
        have hP : va_P (dC, dI) vwCl (wM y y1 y2 y3 y4 y5 y6 y7 y8 y9 y10 cI (va_up (va_up (va_up (va_up mi 0 0) 2 a) 3 b) 4 c0) ma) H := hP
        have hD : va_D A (wM y y1 y2 y3 y4 y5 y6 y7 y8 y9 y10 cI (va_up (va_up (va_up (va_up mi 0 0) 2 a) 3 b) 4 c0) ma) := hD
        refine lv_aload_n hx hb dMd_draft_38 rfl (lv_at hl 0 rfl) ?_
        refine lv_iconst (v := 0) hx hb dMd_draft_39 (by decide) ?_
        refine va_put (D := (dC, dI)) (ci := 3) (v := .int 0) (ty := .int) (C := RMd) (T := TMd) (N := 17) hx hb hts inMd tyMd tyMd_ok nmMd hown hK hP hD hS 0 rfl rfl 14 (by decide) (hts _ in_79) (fun _ h9 => h9) rfl (by decide +kernel) rfl rfl (Nat.le_of_ble_eq_true rfl) dMd_draft_40 (fun H locs hP hD hS => ?_)
        have hP : va_P (dC, dI) vwCl (wM y y1 y2 y3 y4 y5 y6 y7 y8 y9 y10 cI (va_up (va_up (va_up (va_up (va_up mi 0 0) 2 a) 3 b) 4 c0) 5 0) ma) H := hP
        have hD : va_D A (wM y y1 y2 y3 y4 y5 y6 y7 y8 y9 y10 cI (va_up (va_up (va_up (va_up (va_up mi 0 0) 2 a) 3 b) 4 c0) 5 0) ma) := hD
        refine lv_aload_n hx hb dMd_draft_43 rfl (lv_at hl 0 rfl) ?_
        refine lv_iconst (v := 0) hx hb dMd_draft_44 (by decide) ?_
        refine va_put (D := (dC, dI)) (ci := 3) (v := .int 0) (ty := .int) (C := RMd) (T := TMd) (N := 17) hx hb hts inMd tyMd tyMd_ok nmMd hown hK hP hD hS 0 rfl rfl 15 (by decide) (hts _ in_80) (fun _ h9 => h9) rfl (by decide +kernel) rfl rfl (Nat.le_of_ble_eq_true rfl) dMd_draft_45 (fun H locs hP hD hS => ?_)
        have hP : va_P (dC, dI) vwCl (wM y y1 y2 y3 y4 y5 y6 y7 y8 y9 y10 cI (va_up (va_up (va_up (va_up (va_up (va_up mi 0 0) 2 a) 3 b) 4 c0) 5 0) 6 0) ma) H := hP
        have hD : va_D A (wM y y1 y2 y3 y4 y5 y6 y7 y8 y9 y10 cI (va_up (va_up (va_up (va_up (va_up (va_up mi 0 0) 2 a) 3 b) 4 c0) 5 0) 6 0) ma) := hD
        refine lv_iconst (v := 1) hx hb dMd_draft_48 (by decide) ?_
        have hP9 : va_P (dC, dI) vwCl (wM y y1 y2 y3 y4 y5 y6 y7 y8 y9 y10 cI ((m_dr mi a b c0).2) ma) H := by simp only [m_dr, if_neg c_3, if_neg c_4, if_pos c_5]; exact hP
        have hD9 : va_D A (wM y y1 y2 y3 y4 y5 y6 y7 y8 y9 y10 cI ((m_dr mi a b c0).2) ma) := by simp only [m_dr, if_neg c_3, if_neg c_4, if_pos c_5]; exact hD
        exact W.zret (v := 1) (ty := .boolean) hx hb hr rfl (fun t ht hW => ⟨⟨1, (), rfl, by simp only [m_dr, if_neg c_3, if_neg c_4, if_pos c_5], by rw [ht]; exact hP9, va_K.moved hW.alike hK, hD9⟩, hS.F ht⟩) hS.2.2 dMd_draft_49
      · skip
        refine lv_iconst (v := 0) hx hb dMd_draft_21 (by decide) ?_
        have hP9 : va_P (dC, dI) vwCl (wM y y1 y2 y3 y4 y5 y6 y7 y8 y9 y10 cI ((m_dr mi a b c0).2) ma) H := by simp only [m_dr, if_neg c_3, if_neg c_4, if_neg c_5]; exact hP
        have hD9 : va_D A (wM y y1 y2 y3 y4 y5 y6 y7 y8 y9 y10 cI ((m_dr mi a b c0).2) ma) := by simp only [m_dr, if_neg c_3, if_neg c_4, if_neg c_5]; exact hD
        exact W.zret (v := 0) (ty := .boolean) hx hb hr rfl (fun t ht hW => ⟨⟨0, (), rfl, by simp only [m_dr, if_neg c_3, if_neg c_4, if_neg c_5], by rw [ht]; exact hP9, va_K.moved hW.alike hK, hD9⟩, hS.F ht⟩) hS.2.2 dMd_draft_22
set_option maxHeartbeats 4000000 in
set_option maxRecDepth 100000 in
/-- reads(k) -/
theorem k_M_reads (l : Launch) (dC : Nat → ClassId) (dI : Nat → Nat → Nat) (sz : Nat) (y y1 y2 y3 y4 y5 y6 y7 y8 y9 y10 : Nat) (cI : ClassId) (mi : Nat → Int32) (ma : Nat → Nat → Int32) (k : Int32) : Met l yMd_reads wsMd_reads ({ frames := 2, cells := 0, slots := 0, locals := 80 }) (va_Pc [.ref y, .int k] (fun U => U.heap.size = sz ∧ va_P (dC, dI) vwCl (wM y y1 y2 y3 y4 y5 y6 y7 y8 y9 y10 cI mi ma) U.heap ∧ va_K (dC, dI) vwCl [(cI, .int)] U ∧ va_D (fun _ => True) (wM y y1 y2 y3 y4 y5 y6 y7 y8 y9 y10 cI mi ma))) (va_Qi (fun (r : Int32) (_ : Unit) => r = s_in k) (fun _ t => va_P (dC, dI) vwCl (wM y y1 y2 y3 y4 y5 y6 y7 y8 y9 y10 cI (m_rd mi k) ma) t.heap ∧ va_K (dC, dI) vwCl [(cI, .int)] t ∧ va_D (va_A (wM y y1 y2 y3 y4 y5 y6 y7 y8 y9 y10 cI mi ma) sz) (wM y y1 y2 y3 y4 y5 y6 y7 y8 y9 y10 cI (m_rd mi k) ma)) (va_A (wM y y1 y2 y3 y4 y5 y6 y7 y8 y9 y10 cI mi ma) sz)) 0 0 (va_A (wM y y1 y2 y3 y4 y5 y6 y7 y8 y9 y10 cI mi ma) sz) := by
  refine Met.ofW (cc := cMd_reads) (maxL := 2) (ret := (some .boolean)) (by decide) rfl ?_
  intro p e s m args below meth c s₁ B hml hv
  obtain ⟨rfl, hsz, hP, hK, hD0⟩ := hv
  have hx := B.exec
  have hb := B.bytes
  have hr := B.returns
  have hts0 := atoms_spec (ws := wsMd_reads) B.pre
  have hts := fun (w : Cond) (h : w ∈ lw_g) => hts0 w (List.mem_cons_of_mem _ h)
  have hown : s.vm.findClass RMd = some m.cls := findClass_of_methodNamed B.named
  have hlocks := B.notSynchronized
  subst hsz
  have hD := hD0.self (sz := s.heap.size)
  generalize hAe : va_A (wM y y1 y2 y3 y4 y5 y6 y7 y8 y9 y10 cI mi ma) s.heap.size = A at hD ⊢
  have hA : ∀ q : Nat, s.heap.size ≤ q → A q := fun q h => by rw [← hAe]; exact Or.inr h
  have hS : va_S A s.heap s.heap [] := va_S.rf
  have hP : va_P (dC, dI) vwCl (wM y y1 y2 y3 y4 y5 y6 y7 y8 y9 y10 cI mi ma) s.heap := hP
  have hl := lv_entry ([.ref y, .int k]) (n := 2) (Nat.le_of_ble_eq_true rfl)
  rw [lg_entry_eq]
  generalize (lg_sl ([.ref y, .int k]) ++ List.replicate (2 - (lg_sl ([.ref y, .int k])).length) Slot.unset).toArray = ls at hl ⊢
  have hl : lv_has ls 2 [(0, .ref y), (1, .int k)] := hl
  refine lv_aload_n hx hb dMd_reads_0 rfl (lv_at hl 0 rfl) ?_
  refine lv_iconst (v := 0) hx hb dMd_reads_1 (by decide) ?_
  refine va_put (D := (dC, dI)) (ci := 3) (v := .int 0) (ty := .int) (C := RMd) (T := TMd) (N := 17) hx hb hts inMd tyMd tyMd_ok nmMd hown hK hP hD hS 0 rfl rfl 0 (by decide) (hts _ in_71) (fun _ h9 => h9) rfl (by decide +kernel) rfl rfl (Nat.le_of_ble_eq_true rfl) dMd_reads_2 (fun H locs hP hD hS => ?_)
  have hP : va_P (dC, dI) vwCl (wM y y1 y2 y3 y4 y5 y6 y7 y8 y9 y10 cI (va_up mi 0 0) ma) H := hP
  have hD : va_D A (wM y y1 y2 y3 y4 y5 y6 y7 y8 y9 y10 cI (va_up mi 0 0) ma) := hD
  refine lv_aload_n hx hb dMd_reads_5 rfl (lv_at hl 0 rfl) ?_
  refine lv_dup hx hb dMd_reads_6 rfl ?_
  refine va_get (D := (dC, dI)) (ci := 3) (v := .int (mi 5)) (C := RMd) (T := TMd) (N := 17) hx hb hts inMd hown hK hP 0 rfl rfl 14 (by decide) (hts _ in_79) (fun _ h9 => h9) rfl dMd_reads_7 ?_
  refine lv_iload_n hx hb dMd_reads_10 rfl (lv_at hl 1 rfl) ?_
  refine vp_callSi (W.runS (As := [.int k]) (rest := [.int (mi 5), .ref y]) ⟨hx, hb, hml, hown, hts⟩ (k_M_is16 l k) (va_cwS 1 hts (gd_S in_72 in_75 in_74 in_73) rfl rfl rfl (by decide +kernel) ⟨Nat.le_of_ble_eq_true rfl, Nat.le_of_ble_eq_true rfl⟩) ⟨fun a U g mk q => q, fun U hU hW => ⟨rfl, trivial⟩⟩ rfl rfl hl.1 rfl (lv_room (Nat.le_of_ble_eq_true rfl)) dMd_reads_11 ⟨Nat.le_of_ble_eq_true rfl, Nat.le_of_ble_eq_true rfl⟩) (fun r_1 er_2 => ?_)
  subst er_2
  refine lv_if_eq (tgt := 23) hx hb dMd_reads_14 (by decide) (fun c_3 => ?_) (fun c_3 => ?_)
  · skip
    refine lv_iconst (v := 0) hx hb dMd_reads_23 (by decide) ?_
    refine lv_ior hx hb dMd_reads_24 ?_
    refine va_put (D := (dC, dI)) (ci := 3) (v := .int ((mi 5) ||| 0)) (ty := .int) (C := RMd) (T := TMd) (N := 17) hx hb hts inMd tyMd tyMd_ok nmMd hown hK hP hD hS 0 rfl rfl 14 (by decide) (hts _ in_79) (fun _ h9 => h9) rfl (by decide +kernel) rfl rfl (Nat.le_of_ble_eq_true rfl) dMd_reads_25 (fun H locs hP hD hS => ?_)
    have hP : va_P (dC, dI) vwCl (wM y y1 y2 y3 y4 y5 y6 y7 y8 y9 y10 cI (va_up (va_up mi 0 0) 5 ((mi 5) ||| 0)) ma) H := hP
    have hD : va_D A (wM y y1 y2 y3 y4 y5 y6 y7 y8 y9 y10 cI (va_up (va_up mi 0 0) 5 ((mi 5) ||| 0)) ma) := hD
    refine lv_iload_n hx hb dMd_reads_28 rfl (lv_at hl 1 rfl) ?_
    refine vp_callSi (W.runS (As := [.int k]) (rest := []) ⟨hx, hb, hml, hown, hts⟩ (k_M_is16 l k) (va_cwS 1 hts (gd_S in_72 in_75 in_74 in_73) rfl rfl rfl (by decide +kernel) ⟨Nat.le_of_ble_eq_true rfl, Nat.le_of_ble_eq_true rfl⟩) ⟨fun a U g mk q => q, fun U hU hW => ⟨rfl, trivial⟩⟩ rfl rfl hl.1 rfl (lv_room (Nat.le_of_ble_eq_true rfl)) dMd_reads_29 ⟨Nat.le_of_ble_eq_true rfl, Nat.le_of_ble_eq_true rfl⟩) (fun r_4 er_5 => ?_)
    subst er_5
    have hP9 : va_P (dC, dI) vwCl (wM y y1 y2 y3 y4 y5 y6 y7 y8 y9 y10 cI (m_rd mi k) ma) H := by simp only [m_rd, if_pos c_3]; exact hP
    have hD9 : va_D A (wM y y1 y2 y3 y4 y5 y6 y7 y8 y9 y10 cI (m_rd mi k) ma) := by simp only [m_rd, if_pos c_3]; exact hD
    exact W.zret (v := s_in k) (ty := .boolean) hx hb hr (by unfold s_in; split <;> first | rfl | (split <;> rfl)) (fun t ht hW => ⟨⟨s_in k, (), rfl, rfl, by rw [ht]; exact hP9, va_K.moved hW.alike hK, hD9⟩, hS.F ht⟩) hS.2.2 dMd_reads_32
  · skip
    refine lv_iconst (v := 1) hx hb dMd_reads_17 (by decide) ?_
    refine lv_iload_n hx hb dMd_reads_18 rfl (lv_at hl 1 rfl) ?_
    refine lv_ishl hx hb dMd_reads_19 ?_
    refine lv_goto (tgt := 24) hx hb dMd_reads_20 (by decide) ?_
    refine lv_ior hx hb dMd_reads_24 ?_
    refine va_put (D := (dC, dI)) (ci := 3) (v := .int ((mi 5) ||| ((1 : Int32) <<< (k &&& 31)))) (ty := .int) (C := RMd) (T := TMd) (N := 17) hx hb hts inMd tyMd tyMd_ok nmMd hown hK hP hD hS 0 rfl rfl 14 (by decide) (hts _ in_79) (fun _ h9 => h9) rfl (by decide +kernel) rfl rfl (Nat.le_of_ble_eq_true rfl) dMd_reads_25 (fun H locs hP hD hS => ?_)
    have hP : va_P (dC, dI) vwCl (wM y y1 y2 y3 y4 y5 y6 y7 y8 y9 y10 cI (va_up (va_up mi 0 0) 5 ((mi 5) ||| ((1 : Int32) <<< (k &&& 31)))) ma) H := hP
    have hD : va_D A (wM y y1 y2 y3 y4 y5 y6 y7 y8 y9 y10 cI (va_up (va_up mi 0 0) 5 ((mi 5) ||| ((1 : Int32) <<< (k &&& 31)))) ma) := hD
    refine lv_iload_n hx hb dMd_reads_28 rfl (lv_at hl 1 rfl) ?_
    refine vp_callSi (W.runS (As := [.int k]) (rest := []) ⟨hx, hb, hml, hown, hts⟩ (k_M_is16 l k) (va_cwS 1 hts (gd_S in_72 in_75 in_74 in_73) rfl rfl rfl (by decide +kernel) ⟨Nat.le_of_ble_eq_true rfl, Nat.le_of_ble_eq_true rfl⟩) ⟨fun a U g mk q => q, fun U hU hW => ⟨rfl, trivial⟩⟩ rfl rfl hl.1 rfl (lv_room (Nat.le_of_ble_eq_true rfl)) dMd_reads_29 ⟨Nat.le_of_ble_eq_true rfl, Nat.le_of_ble_eq_true rfl⟩) (fun r_6 er_7 => ?_)
    subst er_7
    have hP9 : va_P (dC, dI) vwCl (wM y y1 y2 y3 y4 y5 y6 y7 y8 y9 y10 cI (m_rd mi k) ma) H := by simp only [m_rd, if_neg c_3]; exact hP
    have hD9 : va_D A (wM y y1 y2 y3 y4 y5 y6 y7 y8 y9 y10 cI (m_rd mi k) ma) := by simp only [m_rd, if_neg c_3]; exact hD
    exact W.zret (v := s_in k) (ty := .boolean) hx hb hr (by unfold s_in; split <;> first | rfl | (split <;> rfl)) (fun t ht hW => ⟨⟨s_in k, (), rfl, rfl, by rw [ht]; exact hP9, va_K.moved hW.alike hK, hD9⟩, hS.F ht⟩) hS.2.2 dMd_reads_32
set_option maxHeartbeats 4000000 in
set_option maxRecDepth 100000 in
/-- writes(k, v), a key -/
theorem k_M_writes (l : Launch) (dC : Nat → ClassId) (dI : Nat → Nat → Nat) (sz : Nat) (y y1 y2 y3 y4 y5 y6 y7 y8 y9 y10 : Nat) (cI : ClassId) (mi : Nat → Int32) (ma : Nat → Nat → Int32) (k : Nat) (hk : k < 16) (v : Int32) : Met l yMd_writes wsMd_writes ({ frames := 2, cells := 0, slots := 0, locals := 80 }) (va_Pc [.ref y, .int (nI k), .int v] (fun U => U.heap.size = sz ∧ va_P (dC, dI) vwCl (wM y y1 y2 y3 y4 y5 y6 y7 y8 y9 y10 cI mi ma) U.heap ∧ va_K (dC, dI) vwCl [(cI, .int)] U ∧ va_D (fun _ => True) (wM y y1 y2 y3 y4 y5 y6 y7 y8 y9 y10 cI mi ma))) (va_Qi (fun (r : Int32) (_ : Unit) => r = 1) (fun _ t => va_P (dC, dI) vwCl (wM y y1 y2 y3 y4 y5 y6 y7 y8 y9 y10 cI (va_up (va_up mi 0 0) 6 (mi 6 ||| ((1 : Int32) <<< (nI k &&& 31)))) (va_up ma 9 (upd (ma 9) k v))) t.heap ∧ va_K (dC, dI) vwCl [(cI, .int)] t ∧ va_D (va_A (wM y y1 y2 y3 y4 y5 y6 y7 y8 y9 y10 cI mi ma) sz) (wM y y1 y2 y3 y4 y5 y6 y7 y8 y9 y10 cI (va_up (va_up mi 0 0) 6 (mi 6 ||| ((1 : Int32) <<< (nI k &&& 31)))) (va_up ma 9 (upd (ma 9) k v)))) (va_A (wM y y1 y2 y3 y4 y5 y6 y7 y8 y9 y10 cI mi ma) sz)) 0 0 (va_A (wM y y1 y2 y3 y4 y5 y6 y7 y8 y9 y10 cI mi ma) sz) := by
  refine Met.ofW (cc := cMd_writes) (maxL := 3) (ret := (some .boolean)) (by decide) rfl ?_
  intro p e s m args below meth c s₁ B hml hv
  obtain ⟨rfl, hsz, hP, hK, hD0⟩ := hv
  have hx := B.exec
  have hb := B.bytes
  have hr := B.returns
  have hts0 := atoms_spec (ws := wsMd_writes) B.pre
  have hts := fun (w : Cond) (h : w ∈ lw_g) => hts0 w (List.mem_cons_of_mem _ h)
  have hown : s.vm.findClass RMd = some m.cls := findClass_of_methodNamed B.named
  have hlocks := B.notSynchronized
  subst hsz
  have hD := hD0.self (sz := s.heap.size)
  generalize hAe : va_A (wM y y1 y2 y3 y4 y5 y6 y7 y8 y9 y10 cI mi ma) s.heap.size = A at hD ⊢
  have hA : ∀ q : Nat, s.heap.size ≤ q → A q := fun q h => by rw [← hAe]; exact Or.inr h
  have hS : va_S A s.heap s.heap [] := va_S.rf
  have hP : va_P (dC, dI) vwCl (wM y y1 y2 y3 y4 y5 y6 y7 y8 y9 y10 cI mi ma) s.heap := hP
  have hl := lv_entry ([.ref y, .int (nI k), .int v]) (n := 3) (Nat.le_of_ble_eq_true rfl)
  rw [lg_entry_eq]
  generalize (lg_sl ([.ref y, .int (nI k), .int v]) ++ List.replicate (3 - (lg_sl ([.ref y, .int (nI k), .int v])).length) Slot.unset).toArray = ls at hl ⊢
  have hl : lv_has ls 3 [(0, .ref y), (1, .int (nI k)), (2, .int v)] := hl
  refine lv_aload_n hx hb dMd_writes_0 rfl (lv_at hl 0 rfl) ?_
  refine lv_iconst (v := 0) hx hb dMd_writes_1 (by decide) ?_
  refine va_put (D := (dC, dI)) (ci := 3) (v := .int 0) (ty := .int) (C := RMd) (T := TMd) (N := 17) hx hb hts inMd tyMd tyMd_ok nmMd hown hK hP hD hS 0 rfl rfl 0 (by decide) (hts _ in_71) (fun _ h9 => h9) rfl (by decide +kernel) rfl rfl (Nat.le_of_ble_eq_true rfl) dMd_writes_2 (fun H locs hP hD hS => ?_)
  have hP : va_P (dC, dI) vwCl (wM y y1 y2 y3 y4 y5 y6 y7 y8 y9 y10 cI (va_up mi 0 0) ma) H := hP
  have hD : va_D A (wM y y1 y2 y3 y4 y5 y6 y7 y8 y9 y10 cI (va_up mi 0 0) ma) := hD
  refine lv_iload_n hx hb dMd_writes_5 rfl (lv_at hl 1 rfl) ?_
  refine vp_callSi (W.runS (As := [.int (nI k)]) (rest := []) ⟨hx, hb, hml, hown, hts⟩ (k_M_is16 l (nI k)) (va_cwS 1 hts (gd_S in_72 in_75 in_74 in_73) rfl rfl rfl (by decide +kernel) ⟨Nat.le_of_ble_eq_true rfl, Nat.le_of_ble_eq_true rfl⟩) ⟨fun a U g mk q => q, fun U hU hW => ⟨rfl, trivial⟩⟩ rfl rfl hl.1 rfl (lv_room (Nat.le_of_ble_eq_true rfl)) dMd_writes_6 ⟨Nat.le_of_ble_eq_true rfl, Nat.le_of_ble_eq_true rfl⟩) (fun r_1 er_2 => ?_)
  subst er_2
  refine lv_if_ne (tgt := 14) hx hb dMd_writes_9 (by decide) (fun c_3 => ?_) (fun c_3 => ?_)
  · skip
    refine lv_aload_n hx hb dMd_writes_14 rfl (lv_at hl 0 rfl) ?_
    refine lv_dup hx hb dMd_writes_15 rfl ?_
    refine va_get (D := (dC, dI)) (ci := 3) (v := .int (mi 6)) (C := RMd) (T := TMd) (N := 17) hx hb hts inMd hown hK hP 0 rfl rfl 15 (by decide) (hts _ in_80) (fun _ h9 => h9) rfl dMd_writes_16 ?_
    refine lv_iconst (v := 1) hx hb dMd_writes_19 (by decide) ?_
    refine lv_iload_n hx hb dMd_writes_20 rfl (lv_at hl 1 rfl) ?_
    refine lv_ishl hx hb dMd_writes_21 ?_
    refine lv_ior hx hb dMd_writes_22 ?_
    refine va_put (D := (dC, dI)) (ci := 3) (v := .int ((mi 6) ||| ((1 : Int32) <<< ((nI k) &&& 31)))) (ty := .int) (C := RMd) (T := TMd) (N := 17) hx hb hts inMd tyMd tyMd_ok nmMd hown hK hP hD hS 0 rfl rfl 15 (by decide) (hts _ in_80) (fun _ h9 => h9) rfl (by decide +kernel) rfl rfl (Nat.le_of_ble_eq_true rfl) dMd_writes_23 (fun H locs hP hD hS => ?_)
    have hP : va_P (dC, dI) vwCl (wM y y1 y2 y3 y4 y5 y6 y7 y8 y9 y10 cI (va_up (va_up mi 0 0) 6 ((mi 6) ||| ((1 : Int32) <<< ((nI k) &&& 31)))) ma) H := hP
    have hD : va_D A (wM y y1 y2 y3 y4 y5 y6 y7 y8 y9 y10 cI (va_up (va_up mi 0 0) 6 ((mi 6) ||| ((1 : Int32) <<< ((nI k) &&& 31)))) ma) := hD
    refine lv_aload_n hx hb dMd_writes_26 rfl (lv_at hl 0 rfl) ?_
    refine va_get (D := (dC, dI)) (ci := 3) (v := .ref y10) (C := RMd) (T := TMd) (N := 17) hx hb hts inMd hown hK hP 0 rfl rfl 16 (by decide) (hts _ in_81) (fun _ h9 => h9) rfl dMd_writes_27 ?_
    refine lv_iload_n hx hb dMd_writes_30 rfl (lv_at hl 1 rfl) ?_
    refine lv_iload_n hx hb dMd_writes_31 rfl (lv_at hl 2 rfl) ?_
    refine vq_iast (k := k) (f := ma 9) hx hb hK hP hD hS 10 0 rfl rfl rfl hk (by decide) dMd_writes_32 (fun H locs hP hD hS => ?_)
    have hP : va_P (dC, dI) vwCl (wM y y1 y2 y3 y4 y5 y6 y7 y8 y9 y10 cI (va_up (va_up mi 0 0) 6 ((mi 6) ||| ((1 : Int32) <<< ((nI k) &&& 31)))) (va_up ma 9 (upd (ma 9) k v))) H := hP
    have hD : va_D A (wM y y1 y2 y3 y4 y5 y6 y7 y8 y9 y10 cI (va_up (va_up mi 0 0) 6 ((mi 6) ||| ((1 : Int32) <<< ((nI k) &&& 31)))) (va_up ma 9 (upd (ma 9) k v))) := hD
    refine lv_iconst (v := 1) hx hb dMd_writes_33 (by decide) ?_
    have hP9 : va_P (dC, dI) vwCl (wM y y1 y2 y3 y4 y5 y6 y7 y8 y9 y10 cI (va_up (va_up mi 0 0) 6 (mi 6 ||| ((1 : Int32) <<< (nI k &&& 31)))) (va_up ma 9 (upd (ma 9) k v))) H := by exact hP
    have hD9 : va_D A (wM y y1 y2 y3 y4 y5 y6 y7 y8 y9 y10 cI (va_up (va_up mi 0 0) 6 (mi 6 ||| ((1 : Int32) <<< (nI k &&& 31)))) (va_up ma 9 (upd (ma 9) k v))) := by exact hD
    exact W.zret (v := 1) (ty := .boolean) hx hb hr rfl (fun t ht hW => ⟨⟨1, (), rfl, rfl, by rw [ht]; exact hP9, va_K.moved hW.alike hK, hD9⟩, hS.F ht⟩) hS.2.2 dMd_writes_34
  · skip
    exact absurd c_3 (s_in_ne hk)
set_option maxHeartbeats 4000000 in
set_option maxRecDepth 100000 in
/-- writes(k, v), no key -/
theorem k_M_writesN (l : Launch) (dC : Nat → ClassId) (dI : Nat → Nat → Nat) (sz : Nat) (y y1 y2 y3 y4 y5 y6 y7 y8 y9 y10 : Nat) (cI : ClassId) (mi : Nat → Int32) (ma : Nat → Nat → Int32) (k v : Int32) (hk : s_in k = 0) : Met l yMd_writes wsMd_writes ({ frames := 2, cells := 0, slots := 0, locals := 80 }) (va_Pc [.ref y, .int k, .int v] (fun U => U.heap.size = sz ∧ va_P (dC, dI) vwCl (wM y y1 y2 y3 y4 y5 y6 y7 y8 y9 y10 cI mi ma) U.heap ∧ va_K (dC, dI) vwCl [(cI, .int)] U ∧ va_D (fun _ => True) (wM y y1 y2 y3 y4 y5 y6 y7 y8 y9 y10 cI mi ma))) (va_Qi (fun (r : Int32) (_ : Unit) => r = 0) (fun _ t => va_P (dC, dI) vwCl (wM y y1 y2 y3 y4 y5 y6 y7 y8 y9 y10 cI (va_up mi 0 0) ma) t.heap ∧ va_K (dC, dI) vwCl [(cI, .int)] t ∧ va_D (va_A (wM y y1 y2 y3 y4 y5 y6 y7 y8 y9 y10 cI mi ma) sz) (wM y y1 y2 y3 y4 y5 y6 y7 y8 y9 y10 cI (va_up mi 0 0) ma)) (va_A (wM y y1 y2 y3 y4 y5 y6 y7 y8 y9 y10 cI mi ma) sz)) 0 0 (va_A (wM y y1 y2 y3 y4 y5 y6 y7 y8 y9 y10 cI mi ma) sz) := by
  refine Met.ofW (cc := cMd_writes) (maxL := 3) (ret := (some .boolean)) (by decide) rfl ?_
  intro p e s m args below meth c s₁ B hml hv
  obtain ⟨rfl, hsz, hP, hK, hD0⟩ := hv
  have hx := B.exec
  have hb := B.bytes
  have hr := B.returns
  have hts0 := atoms_spec (ws := wsMd_writes) B.pre
  have hts := fun (w : Cond) (h : w ∈ lw_g) => hts0 w (List.mem_cons_of_mem _ h)
  have hown : s.vm.findClass RMd = some m.cls := findClass_of_methodNamed B.named
  have hlocks := B.notSynchronized
  subst hsz
  have hD := hD0.self (sz := s.heap.size)
  generalize hAe : va_A (wM y y1 y2 y3 y4 y5 y6 y7 y8 y9 y10 cI mi ma) s.heap.size = A at hD ⊢
  have hA : ∀ q : Nat, s.heap.size ≤ q → A q := fun q h => by rw [← hAe]; exact Or.inr h
  have hS : va_S A s.heap s.heap [] := va_S.rf
  have hP : va_P (dC, dI) vwCl (wM y y1 y2 y3 y4 y5 y6 y7 y8 y9 y10 cI mi ma) s.heap := hP
  have hl := lv_entry ([.ref y, .int k, .int v]) (n := 3) (Nat.le_of_ble_eq_true rfl)
  rw [lg_entry_eq]
  generalize (lg_sl ([.ref y, .int k, .int v]) ++ List.replicate (3 - (lg_sl ([.ref y, .int k, .int v])).length) Slot.unset).toArray = ls at hl ⊢
  have hl : lv_has ls 3 [(0, .ref y), (1, .int k), (2, .int v)] := hl
  refine lv_aload_n hx hb dMd_writes_0 rfl (lv_at hl 0 rfl) ?_
  refine lv_iconst (v := 0) hx hb dMd_writes_1 (by decide) ?_
  refine va_put (D := (dC, dI)) (ci := 3) (v := .int 0) (ty := .int) (C := RMd) (T := TMd) (N := 17) hx hb hts inMd tyMd tyMd_ok nmMd hown hK hP hD hS 0 rfl rfl 0 (by decide) (hts _ in_71) (fun _ h9 => h9) rfl (by decide +kernel) rfl rfl (Nat.le_of_ble_eq_true rfl) dMd_writes_2 (fun H locs hP hD hS => ?_)
  have hP : va_P (dC, dI) vwCl (wM y y1 y2 y3 y4 y5 y6 y7 y8 y9 y10 cI (va_up mi 0 0) ma) H := hP
  have hD : va_D A (wM y y1 y2 y3 y4 y5 y6 y7 y8 y9 y10 cI (va_up mi 0 0) ma) := hD
  refine lv_iload_n hx hb dMd_writes_5 rfl (lv_at hl 1 rfl) ?_
  refine vp_callSi (W.runS (As := [.int k]) (rest := []) ⟨hx, hb, hml, hown, hts⟩ (k_M_is16 l k) (va_cwS 1 hts (gd_S in_72 in_75 in_74 in_73) rfl rfl rfl (by decide +kernel) ⟨Nat.le_of_ble_eq_true rfl, Nat.le_of_ble_eq_true rfl⟩) ⟨fun a U g mk q => q, fun U hU hW => ⟨rfl, trivial⟩⟩ rfl rfl hl.1 rfl (lv_room (Nat.le_of_ble_eq_true rfl)) dMd_writes_6 ⟨Nat.le_of_ble_eq_true rfl, Nat.le_of_ble_eq_true rfl⟩) (fun r_1 er_2 => ?_)
  subst er_2
  refine lv_if_ne (tgt := 14) hx hb dMd_writes_9 (by decide) (fun c_3 => ?_) (fun c_3 => ?_)
  · skip
    exact absurd hk c_3
  · skip
    refine lv_iconst (v := 0) hx hb dMd_writes_12 (by decide) ?_
    have hP9 : va_P (dC, dI) vwCl (wM y y1 y2 y3 y4 y5 y6 y7 y8 y9 y10 cI (va_up mi 0 0) ma) H := by exact hP
    have hD9 : va_D A (wM y y1 y2 y3 y4 y5 y6 y7 y8 y9 y10 cI (va_up mi 0 0) ma) := by exact hD
    exact W.zret (v := 0) (ty := .boolean) hx hb hr rfl (fun t ht hW => ⟨⟨0, (), rfl, rfl, by rw [ht]; exact hP9, va_K.moved hW.alike hK, hD9⟩, hS.F ht⟩) hS.2.2 dMd_writes_13
end
section
theorem k_M_lacks0 (l : Launch) (dC : Nat → ClassId) (dI : Nat → Nat → Nat) (sz : Nat) (y y1 y2 y3 y4 y5 y6 y7 y8 y9 y10 : Nat) (cI : ClassId) (mi : Nat → Int32) (ma : Nat → Nat → Int32) (k : Nat) (hk4 : k < 4) : Met l yMd_lacks wsMd_lacks ({ frames := 1, cells := 0, slots := 0, locals := 40 }) (va_Pc [.ref y, .int (nI k)] (fun U => U.heap.size = sz ∧ va_P (dC, dI) vwCl (wM y y1 y2 y3 y4 y5 y6 y7 y8 y9 y10 cI mi ma) U.heap ∧ va_K (dC, dI) vwCl [(cI, .int)] U ∧ va_D (fun _ => True) (wM y y1 y2 y3 y4 y5 y6 y7 y8 y9 y10 cI mi ma))) (va_Qi (fun (r : Int32) (_ : Unit) => r = 0) (fun _ t => va_P (dC, dI) vwCl (wM y y1 y2 y3 y4 y5 y6 y7 y8 y9 y10 cI (va_up mi 0 0) ma) t.heap ∧ va_K (dC, dI) vwCl [(cI, .int)] t ∧ va_D (va_A (wM y y1 y2 y3 y4 y5 y6 y7 y8 y9 y10 cI mi ma) sz) (wM y y1 y2 y3 y4 y5 y6 y7 y8 y9 y10 cI (va_up mi 0 0) ma)) (va_A (wM y y1 y2 y3 y4 y5 y6 y7 y8 y9 y10 cI mi ma) sz)) 0 0 (va_A (wM y y1 y2 y3 y4 y5 y6 y7 y8 y9 y10 cI mi ma) sz) := by
  have h := k_M_lacks l dC dI sz y y1 y2 y3 y4 y5 y6 y7 y8 y9 y10 cI mi ma (nI k)
  rw [s_lk_nI hk4] at h
  exact h
theorem k_M_lacks1 (l : Launch) (dC : Nat → ClassId) (dI : Nat → Nat → Nat) (sz : Nat) (y y1 y2 y3 y4 y5 y6 y7 y8 y9 y10 : Nat) (cI : ClassId) (mi : Nat → Int32) (ma : Nat → Nat → Int32) (x : Int32) (hx : s_lk x = 1) : Met l yMd_lacks wsMd_lacks ({ frames := 1, cells := 0, slots := 0, locals := 40 }) (va_Pc [.ref y, .int x] (fun U => U.heap.size = sz ∧ va_P (dC, dI) vwCl (wM y y1 y2 y3 y4 y5 y6 y7 y8 y9 y10 cI mi ma) U.heap ∧ va_K (dC, dI) vwCl [(cI, .int)] U ∧ va_D (fun _ => True) (wM y y1 y2 y3 y4 y5 y6 y7 y8 y9 y10 cI mi ma))) (va_Qi (fun (r : Int32) (_ : Unit) => r = 1) (fun _ t => va_P (dC, dI) vwCl (wM y y1 y2 y3 y4 y5 y6 y7 y8 y9 y10 cI (va_up mi 0 1) ma) t.heap ∧ va_K (dC, dI) vwCl [(cI, .int)] t ∧ va_D (va_A (wM y y1 y2 y3 y4 y5 y6 y7 y8 y9 y10 cI mi ma) sz) (wM y y1 y2 y3 y4 y5 y6 y7 y8 y9 y10 cI (va_up mi 0 1) ma)) (va_A (wM y y1 y2 y3 y4 y5 y6 y7 y8 y9 y10 cI mi ma) sz)) 0 0 (va_A (wM y y1 y2 y3 y4 y5 y6 y7 y8 y9 y10 cI mi ma) sz) := by
  have h := k_M_lacks l dC dI sz y y1 y2 y3 y4 y5 y6 y7 y8 y9 y10 cI mi ma x
  rw [hx] at h
  exact h
set_option maxHeartbeats 4000000 in
set_option maxRecDepth 100000 in
/-- writtenSince(k, x) -/
theorem k_M_since0 (l : Launch) (dC : Nat → ClassId) (dI : Nat → Nat → Nat) (y y1 y2 y3 y4 y5 y6 y7 y8 y9 y10 : Nat) (cI : ClassId) (mi : Nat → Int32) (ma : Nat → Nat → Int32) (k n : Nat) (hk4 : k < 4) (hn : n < 2 ^ 30) (hix : ma 0 k = nI n) (a : Nat) (ha : a ≤ n + 1) (x : Int32) (hx0 : ¬ 0 ≤ x → a = 1) (hx1 : 0 ≤ x → x + 1 = nI a) : Met l yMd_writtenSince wsMd_writtenSince ({ frames := 1, cells := 0, slots := 0, locals := 40 }) (va_Pc [.ref y, .int (nI k), .int x] (fun U => va_P (dC, dI) vwCl (wM y y1 y2 y3 y4 y5 y6 y7 y8 y9 y10 cI mi ma) U.heap ∧ va_K (dC, dI) vwCl [(cI, .int)] U)) (vp_Si (fun r => r = m_ws (ma 7) (64 * k) a (n + 1 - a))) 0 0 (fun _ => False) := by
  refine Met.ofW (cc := cMd_writtenSince) (maxL := 5) (ret := (some .int)) (by decide) rfl ?_
  intro p e s m args below meth c s₁ B hml hv
  obtain ⟨rfl, hP, hK⟩ := hv
  have hx := B.exec
  have hb := B.bytes
  have hr := B.returns
  have hts0 := atoms_spec (ws := wsMd_writtenSince) B.pre
  have hts := fun (w : Cond) (h : w ∈ lw_g) => hts0 w (List.mem_cons_of_mem _ h)
  have hown : s.vm.findClass RMd = some m.cls := findClass_of_methodNamed B.named
  have hlocks := B.notSynchronized
  have hl := lv_entry ([.ref y, .int (nI k), .int x]) (n := 5) (Nat.le_of_ble_eq_true rfl)
  rw [lg_entry_eq]
  generalize (lg_sl ([.ref y, .int (nI k), .int x]) ++ List.replicate (5 - (lg_sl ([.ref y, .int (nI k), .int x])).length) Slot.unset).toArray = ls at hl ⊢
  have hl : lv_has ls 5 [(0, .ref y), (1, .int (nI k)), (2, .int x)] := hl
  refine lv_iconst (v := 0) hx hb dMd_writtenSince_0 (by decide) ?_
  refine lv_istore_n (lv' := [(3, .int 0), (0, .ref y), (1, .int (nI k)), (2, .int x)]) hx hb dMd_writtenSince_1 rfl hl (by decide) rfl (fun ls hl => ?_)
  refine lv_iload_n hx hb dMd_writtenSince_2 rfl (lv_at hl 3 rfl) ?_
  refine lv_if_ge (tgt := 10) hx hb dMd_writtenSince_3 (by decide) (fun c_1 => ?_) (fun c_1 => ?_)
  · skip
    refine lv_iload_n hx hb dMd_writtenSince_10 rfl (lv_at hl 3 rfl) ?_
    refine lv_iconst (v := 1) hx hb dMd_writtenSince_11 (by decide) ?_
    refine lv_iadd hx hb dMd_writtenSince_12 ?_
    refine lv_ri (y := nI a) (hx1 c_1) ?_
    refine lv_istore (lv' := [(4, .int (nI a)), (3, .int 0), (0, .ref y), (1, .int (nI k)), (2, .int x)]) hx hb dMd_writtenSince_13 hl (by decide) rfl (fun ls hl => ?_)
    refine wl_ro (σ := Nat × Array Slot) (fun z9 => F0 m 15 z9.2 []) (fun z9 => z9.1 ≤ (n + 1 - a) ∧ lv_has z9.2 5 [(4, .int (nI (a + z9.1))), (3, .int (m_ws (ma 7) (64 * k) a z9.1)), (0, .ref y), (1, .int (nI k)), (2, .int x)]) (fun z9 => (n + 1 - a) - z9.1) ?_ (0, ls) ⟨by omega, lv_sub hl [0, 1, 2, 3, 4] rfl⟩
    rintro ⟨j, ls⟩ ⟨hj, hl⟩ ih
    have hj : j ≤ (n + 1 - a) := hj
    have hl : lv_has ls 5 [(4, .int (nI (a + j))), (3, .int (m_ws (ma 7) (64 * k) a j)), (0, .ref y), (1, .int (nI k)), (2, .int x)] := hl
    show W p l e _ s m _ below meth c _ _ _ _ _ (F0 m 15 ls [])
    refine lv_iload hx hb dMd_writtenSince_15 (lv_at hl 0 rfl) ?_
    refine lv_aload_n hx hb dMd_writtenSince_17 rfl (lv_at hl 2 rfl) ?_
    refine va_get (D := (dC, dI)) (ci := 3) (v := .ref y1) (C := RMd) (T := TMd) (N := 17) hx hb hts inMd hown hK hP 0 rfl rfl 2 (by decide) (hts _ in_82) (fun _ h9 => h9) rfl dMd_writtenSince_18 ?_
    refine lv_iload_n hx hb dMd_writtenSince_21 rfl (lv_at hl 3 rfl) ?_
    refine vq_iald (k := k) (f := ma 0) hx hb hK hP 1 0 rfl rfl rfl (by omega) (by decide) dMd_writtenSince_22 ?_
    refine lv_ri (y := nI n) hix ?_
    refine lv_icmp_gt (tgt := 50) hx hb dMd_writtenSince_23 (by decide) (fun c_2 => ?_) (fun c_2 => ?_)
    · skip
      have hj9 : j = (n + 1 - a) := by have := (nI_ltI (by omega) (by omega)).mp c_2; omega
      subst hj9
      refine lv_iload_n hx hb dMd_writtenSince_50 rfl (lv_at hl 1 rfl) ?_
      exact W.iret (v := m_ws (ma 7) (64 * k) a (n + 1 - a)) hx hb hr (fun t ht hW => ⟨m_ws (ma 7) (64 * k) a (n + 1 - a), rfl, rfl, ht⟩) (fun q h => by cases h) dMd_writtenSince_51
    · skip
      have hj : j < (n + 1 - a) := by rcases Nat.lt_or_ge n (a + j) with q | q; exact absurd (nI_lt q (by omega)) c_2; omega
      refine lv_iload_n hx hb dMd_writtenSince_26 rfl (lv_at hl 1 rfl) ?_
      refine lv_aload_n hx hb dMd_writtenSince_27 rfl (lv_at hl 2 rfl) ?_
      refine va_get (D := (dC, dI)) (ci := 3) (v := .ref y8) (C := RMd) (T := TMd) (N := 17) hx hb hts inMd hown hK hP 0 rfl rfl 9 (by decide) (hts _ in_83) (fun _ h9 => h9) rfl dMd_writtenSince_28 ?_
      refine lv_bipush (v := nI 64) hx hb dMd_writtenSince_31 (by decide) ?_
      refine lv_iload_n hx hb dMd_writtenSince_33 rfl (lv_at hl 3 rfl) ?_
      refine lv_imul hx hb dMd_writtenSince_34 ?_
      refine lv_ri (y := nI (64 * k)) (pk_mul _ _) ?_
      refine lv_iload hx hb dMd_writtenSince_35 (lv_at hl 0 rfl) ?_
      refine lv_bipush (v := nI 64) hx hb dMd_writtenSince_37 (by decide) ?_
      refine lv_irem hx hb dMd_writtenSince_39 (by decide) ?_
      refine lv_ri (y := nI ((a + j) % 64)) (pk_rem (by omega) (by decide) (by decide)) ?_
      refine lv_iadd hx hb dMd_writtenSince_40 ?_
      refine lv_ri (y := nI ((64 * k) + ((a + j) % 64))) (nI_add _ _) ?_
      refine vq_iald (k := ((64 * k) + ((a + j) % 64))) (f := ma 7) hx hb hK hP 8 0 rfl rfl rfl (by omega) (by decide) dMd_writtenSince_41 ?_
      refine lv_ior hx hb dMd_writtenSince_42 ?_
      refine lv_istore_n (lv' := [(3, .int ((m_ws (ma 7) (64 * k) a j) ||| ((ma 7) ((64 * k) + ((a + j) % 64))))), (4, .int (nI (a + j))), (0, .ref y), (1, .int (nI k)), (2, .int x)]) hx hb dMd_writtenSince_43 rfl hl (by decide) rfl (fun ls hl => ?_)
      refine lv_iinc (v := nI ((a + j) + 1)) (lv' := [(4, .int (nI ((a + j) + 1))), (3, .int ((m_ws (ma 7) (64 * k) a j) ||| ((ma 7) ((64 * k) + ((a + j) % 64))))), (0, .ref y), (1, .int (nI k)), (2, .int x)]) hx hb dMd_writtenSince_44 hl (k := 1) rfl (by first | exact nI_1 _ | (show _ + (1 : Int32) = _; exact nI_1 _)) (by decide) rfl (fun ls hl => ?_)
      refine lv_goto (tgt := 15) hx hb dMd_writtenSince_47 (by decide) ?_
      have hl9 : lv_has ls 5 [(4, .int (nI (a + (j + 1)))), (3, .int (m_ws (ma 7) (64 * k) a (j + 1))), (0, .ref y), (1, .int (nI k)), (2, .int x)] := by first | exact lv_sub hl [0, 1, 2, 3, 4] rfl | (simp only [m_ws]; exact lv_sub hl [0, 1, 2, 3, 4] rfl)
      exact ih (j + 1, ls) ⟨hj, hl9⟩ (by show (n + 1 - a) - (j + 1) < (n + 1 - a) - j; omega)
  · skip
    refine lv_iconst (v := 1) hx hb dMd_writtenSince_6 (by decide) ?_
    refine lv_goto (tgt := 13) hx hb dMd_writtenSince_7 (by decide) ?_
    refine lv_ri (y := nI a) (by rw [hx0 c_1]; rfl) ?_
    refine lv_istore (lv' := [(4, .int (nI a)), (3, .int 0), (0, .ref y), (1, .int (nI k)), (2, .int x)]) hx hb dMd_writtenSince_13 hl (by decide) rfl (fun ls hl => ?_)
    refine wl_ro (σ := Nat × Array Slot) (fun z9 => F0 m 15 z9.2 []) (fun z9 => z9.1 ≤ (n + 1 - a) ∧ lv_has z9.2 5 [(4, .int (nI (a + z9.1))), (3, .int (m_ws (ma 7) (64 * k) a z9.1)), (0, .ref y), (1, .int (nI k)), (2, .int x)]) (fun z9 => (n + 1 - a) - z9.1) ?_ (0, ls) ⟨by omega, lv_sub hl [0, 1, 2, 3, 4] rfl⟩
    rintro ⟨j, ls⟩ ⟨hj, hl⟩ ih
    have hj : j ≤ (n + 1 - a) := hj
    have hl : lv_has ls 5 [(4, .int (nI (a + j))), (3, .int (m_ws (ma 7) (64 * k) a j)), (0, .ref y), (1, .int (nI k)), (2, .int x)] := hl
    show W p l e _ s m _ below meth c _ _ _ _ _ (F0 m 15 ls [])
    refine lv_iload hx hb dMd_writtenSince_15 (lv_at hl 0 rfl) ?_
    refine lv_aload_n hx hb dMd_writtenSince_17 rfl (lv_at hl 2 rfl) ?_
    refine va_get (D := (dC, dI)) (ci := 3) (v := .ref y1) (C := RMd) (T := TMd) (N := 17) hx hb hts inMd hown hK hP 0 rfl rfl 2 (by decide) (hts _ in_82) (fun _ h9 => h9) rfl dMd_writtenSince_18 ?_
    refine lv_iload_n hx hb dMd_writtenSince_21 rfl (lv_at hl 3 rfl) ?_
    refine vq_iald (k := k) (f := ma 0) hx hb hK hP 1 0 rfl rfl rfl (by omega) (by decide) dMd_writtenSince_22 ?_
    refine lv_ri (y := nI n) hix ?_
    refine lv_icmp_gt (tgt := 50) hx hb dMd_writtenSince_23 (by decide) (fun c_3 => ?_) (fun c_3 => ?_)
    · skip
      have hj9 : j = (n + 1 - a) := by have := (nI_ltI (by omega) (by omega)).mp c_3; omega
      subst hj9
      refine lv_iload_n hx hb dMd_writtenSince_50 rfl (lv_at hl 1 rfl) ?_
      exact W.iret (v := m_ws (ma 7) (64 * k) a (n + 1 - a)) hx hb hr (fun t ht hW => ⟨m_ws (ma 7) (64 * k) a (n + 1 - a), rfl, rfl, ht⟩) (fun q h => by cases h) dMd_writtenSince_51
    · skip
      have hj : j < (n + 1 - a) := by rcases Nat.lt_or_ge n (a + j) with q | q; exact absurd (nI_lt q (by omega)) c_3; omega
      refine lv_iload_n hx hb dMd_writtenSince_26 rfl (lv_at hl 1 rfl) ?_
      refine lv_aload_n hx hb dMd_writtenSince_27 rfl (lv_at hl 2 rfl) ?_
      refine va_get (D := (dC, dI)) (ci := 3) (v := .ref y8) (C := RMd) (T := TMd) (N := 17) hx hb hts inMd hown hK hP 0 rfl rfl 9 (by decide) (hts _ in_83) (fun _ h9 => h9) rfl dMd_writtenSince_28 ?_
      refine lv_bipush (v := nI 64) hx hb dMd_writtenSince_31 (by decide) ?_
      refine lv_iload_n hx hb dMd_writtenSince_33 rfl (lv_at hl 3 rfl) ?_
      refine lv_imul hx hb dMd_writtenSince_34 ?_
      refine lv_ri (y := nI (64 * k)) (pk_mul _ _) ?_
      refine lv_iload hx hb dMd_writtenSince_35 (lv_at hl 0 rfl) ?_
      refine lv_bipush (v := nI 64) hx hb dMd_writtenSince_37 (by decide) ?_
      refine lv_irem hx hb dMd_writtenSince_39 (by decide) ?_
      refine lv_ri (y := nI ((a + j) % 64)) (pk_rem (by omega) (by decide) (by decide)) ?_
      refine lv_iadd hx hb dMd_writtenSince_40 ?_
      refine lv_ri (y := nI ((64 * k) + ((a + j) % 64))) (nI_add _ _) ?_
      refine vq_iald (k := ((64 * k) + ((a + j) % 64))) (f := ma 7) hx hb hK hP 8 0 rfl rfl rfl (by omega) (by decide) dMd_writtenSince_41 ?_
      refine lv_ior hx hb dMd_writtenSince_42 ?_
      refine lv_istore_n (lv' := [(3, .int ((m_ws (ma 7) (64 * k) a j) ||| ((ma 7) ((64 * k) + ((a + j) % 64))))), (4, .int (nI (a + j))), (0, .ref y), (1, .int (nI k)), (2, .int x)]) hx hb dMd_writtenSince_43 rfl hl (by decide) rfl (fun ls hl => ?_)
      refine lv_iinc (v := nI ((a + j) + 1)) (lv' := [(4, .int (nI ((a + j) + 1))), (3, .int ((m_ws (ma 7) (64 * k) a j) ||| ((ma 7) ((64 * k) + ((a + j) % 64))))), (0, .ref y), (1, .int (nI k)), (2, .int x)]) hx hb dMd_writtenSince_44 hl (k := 1) rfl (by first | exact nI_1 _ | (show _ + (1 : Int32) = _; exact nI_1 _)) (by decide) rfl (fun ls hl => ?_)
      refine lv_goto (tgt := 15) hx hb dMd_writtenSince_47 (by decide) ?_
      have hl9 : lv_has ls 5 [(4, .int (nI (a + (j + 1)))), (3, .int (m_ws (ma 7) (64 * k) a (j + 1))), (0, .ref y), (1, .int (nI k)), (2, .int x)] := by first | exact lv_sub hl [0, 1, 2, 3, 4] rfl | (simp only [m_ws]; exact lv_sub hl [0, 1, 2, 3, 4] rfl)
      exact ih (j + 1, ls) ⟨hj, hl9⟩ (by show (n + 1 - a) - (j + 1) < (n + 1 - a) - j; omega)
set_option maxHeartbeats 4000000 in
set_option maxRecDepth 100000 in
/-- decided(k) -/
theorem k_M_decided (l : Launch) (dC : Nat → ClassId) (dI : Nat → Nat → Nat) (y y1 y2 y3 y4 y5 y6 y7 y8 y9 y10 : Nat) (cI : ClassId) (mi : Nat → Int32) (ma : Nat → Nat → Int32) (k n : Nat) (hk4 : k < 4) (hn : n < 2 ^ 30) (hix : ma 0 k = nI n) (se b : Nat) (hse : mi 2 = nI se) (hs16 : se < 16) (hsn : mi 4 = nI b) (hb31 : b < 2 ^ 31) : Met l yMd_decided wsMd_decided ({ frames := 2, cells := 0, slots := 0, locals := 80 }) (va_Pc [.ref y, .int (nI k)] (fun U => va_P (dC, dI) vwCl (wM y y1 y2 y3 y4 y5 y6 y7 y8 y9 y10 cI mi ma) U.heap ∧ va_K (dC, dI) vwCl [(cI, .int)] U)) (vp_Si (fun r => r = m_dec mi ma k n se b)) 0 0 (fun _ => False) := by
  refine Met.ofW (cc := cMd_decided) (maxL := 3) (ret := (some .int)) (by decide) rfl ?_
  intro p e s m args below meth c s₁ B hml hv
  obtain ⟨rfl, hP, hK⟩ := hv
  have hx := B.exec
  have hb := B.bytes
  have hr := B.returns
  have hts0 := atoms_spec (ws := wsMd_decided) B.pre
  have hts := fun (w : Cond) (h : w ∈ lw_g) => hts0 w (List.mem_cons_of_mem _ h)
  have hown : s.vm.findClass RMd = some m.cls := findClass_of_methodNamed B.named
  have hlocks := B.notSynchronized
  have hl := lv_entry ([.ref y, .int (nI k)]) (n := 3) (Nat.le_of_ble_eq_true rfl)
  rw [lg_entry_eq]
  generalize (lg_sl ([.ref y, .int (nI k)]) ++ List.replicate (3 - (lg_sl ([.ref y, .int (nI k)])).length) Slot.unset).toArray = ls at hl ⊢
  have hl : lv_has ls 3 [(0, .ref y), (1, .int (nI k))] := hl
  refine lv_aload_n hx hb dMd_decided_0 rfl (lv_at hl 0 rfl) ?_
  refine va_get (D := (dC, dI)) (ci := 3) (v := .ref y1) (C := RMd) (T := TMd) (N := 17) hx hb hts inMd hown hK hP 0 rfl rfl 2 (by decide) (hts _ in_82) (fun _ h9 => h9) rfl dMd_decided_1 ?_
  refine lv_iload_n hx hb dMd_decided_4 rfl (lv_at hl 1 rfl) ?_
  refine vq_iald (k := k) (f := ma 0) hx hb hK hP 1 0 rfl rfl rfl (by omega) (by decide) dMd_decided_5 ?_
  refine lv_istore_n (lv' := [(2, .int ((ma 0) k)), (0, .ref y), (1, .int (nI k))]) hx hb dMd_decided_6 rfl hl (by decide) rfl (fun ls hl => ?_)
  refine lv_iload_n hx hb dMd_decided_7 rfl (lv_at hl 0 rfl) ?_
  refine lv_ldc (v := nI 1000000) hx hb hown (hts _ in_84) dMd_decided_8 ?_
  refine lv_icmp_ge (tgt := 21) hx hb dMd_decided_10 (by decide) (fun c_1 => ?_) (fun c_1 => ?_)
  · skip
    refine lv_iconst (v := (-1)) hx hb dMd_decided_21 (by decide) ?_
    exact W.iret (v := (-1)) hx hb hr (fun t ht hW => ⟨(-1), rfl, by simp only [m_dec, if_pos c_1], ht⟩) (fun q h => by cases h) dMd_decided_22
  · skip
    refine lv_aload_n hx hb dMd_decided_13 rfl (lv_at hl 1 rfl) ?_
    refine va_get (D := (dC, dI)) (ci := 3) (v := .int (mi 4)) (C := RMd) (T := TMd) (N := 17) hx hb hts inMd hown hK hP 0 rfl rfl 13 (by decide) (hts _ in_78) (fun _ h9 => h9) rfl dMd_decided_14 ?_
    refine lv_iload_n hx hb dMd_decided_17 rfl (lv_at hl 0 rfl) ?_
    refine lv_icmp_le (tgt := 23) hx hb dMd_decided_18 (by decide) (fun c_2 => ?_) (fun c_2 => ?_)
    · skip
      refine lv_aload_n hx hb dMd_decided_23 rfl (lv_at hl 1 rfl) ?_
      refine va_get (D := (dC, dI)) (ci := 3) (v := .int (mi 3)) (C := RMd) (T := TMd) (N := 17) hx hb hts inMd hown hK hP 0 rfl rfl 12 (by decide) (hts _ in_77) (fun _ h9 => h9) rfl dMd_decided_24 ?_
      refine lv_aload_n hx hb dMd_decided_27 rfl (lv_at hl 1 rfl) ?_
      refine va_get (D := (dC, dI)) (ci := 3) (v := .ref y6) (C := RMd) (T := TMd) (N := 17) hx hb hts inMd hown hK hP 0 rfl rfl 7 (by decide) (hts _ in_85) (fun _ h9 => h9) rfl dMd_decided_28 ?_
      refine lv_bipush (v := nI 16) hx hb dMd_decided_31 (by decide) ?_
      refine lv_iload_n hx hb dMd_decided_33 rfl (lv_at hl 2 rfl) ?_
      refine lv_imul hx hb dMd_decided_34 ?_
      refine lv_ri (y := nI (16 * k)) (pk_mul _ _) ?_
      refine lv_aload_n hx hb dMd_decided_35 rfl (lv_at hl 1 rfl) ?_
      refine va_get (D := (dC, dI)) (ci := 3) (v := .int (mi 2)) (C := RMd) (T := TMd) (N := 17) hx hb hts inMd hown hK hP 0 rfl rfl 11 (by decide) (hts _ in_76) (fun _ h9 => h9) rfl dMd_decided_36 ?_
      refine lv_ri (y := nI se) hse ?_
      refine lv_iadd hx hb dMd_decided_39 ?_
      refine lv_ri (y := nI ((16 * k) + se)) (nI_add _ _) ?_
      refine vq_iald (k := ((16 * k) + se)) (f := ma 5) hx hb hK hP 6 0 rfl rfl rfl (by omega) (by decide) dMd_decided_40 ?_
      refine lv_icmp_gt (tgt := 46) hx hb dMd_decided_41 (by decide) (fun c_3 => ?_) (fun c_3 => ?_)
      · skip
        refine lv_aload_n hx hb dMd_decided_46 rfl (lv_at hl 1 rfl) ?_
        refine va_get (D := (dC, dI)) (ci := 3) (v := .int (mi 4)) (C := RMd) (T := TMd) (N := 17) hx hb hts inMd hown hK hP 0 rfl rfl 13 (by decide) (hts _ in_78) (fun _ h9 => h9) rfl dMd_decided_47 ?_
        refine lv_iload_n hx hb dMd_decided_50 rfl (lv_at hl 0 rfl) ?_
        refine lv_aload_n hx hb dMd_decided_51 rfl (lv_at hl 1 rfl) ?_
        refine va_get (D := (dC, dI)) (ci := 3) (v := .int (mi 1)) (C := RMd) (T := TMd) (N := 17) hx hb hts inMd hown hK hP 0 rfl rfl 1 (by decide) (hts _ in_86) (fun _ h9 => h9) rfl dMd_decided_52 ?_
        refine lv_isub hx hb dMd_decided_55 ?_
        refine lv_icmp_lt (tgt := 76) hx hb dMd_decided_56 (by decide) (fun c_4 => ?_) (fun c_4 => ?_)
        · skip
          refine lv_iconst (v := 2) hx hb dMd_decided_76 (by decide) ?_
          refine lv_goto (tgt := 81) hx hb dMd_decided_77 (by decide) ?_
          exact W.iret (v := 2) hx hb hr (fun t ht hW => ⟨2, rfl, by simp only [m_dec, if_neg c_1, if_pos c_2, if_pos c_3, if_pos c_4], ht⟩) (fun q h => by cases h) dMd_decided_81
        · skip
          refine lv_aload_n hx hb dMd_decided_59 rfl (lv_at hl 1 rfl) ?_
          refine lv_iload_n hx hb dMd_decided_60 rfl (lv_at hl 2 rfl) ?_
          refine lv_aload_n hx hb dMd_decided_61 rfl (lv_at hl 1 rfl) ?_
          refine va_get (D := (dC, dI)) (ci := 3) (v := .int (mi 4)) (C := RMd) (T := TMd) (N := 17) hx hb hts inMd hown hK hP 0 rfl rfl 13 (by decide) (hts _ in_78) (fun _ h9 => h9) rfl dMd_decided_62 ?_
          have hPc := hP.sub (ws' := (wM y y1 y2 y3 y4 y5 y6 y7 y8 y9 y10 cI mi ma)) [0, 1, 2, 3, 4, 5, 6, 7, 8, 9, 10] rfl
          have hKc := hK.sub (tys' := [(cI, .int)]) [0] rfl
          refine vp_callSi (W.runV (As := [.int (nI k), .int (mi 4)]) (rest := []) ⟨hx, hb, hml, hown, hts⟩ (k_M_since0 l dC dI y y1 y2 y3 y4 y5 y6 y7 y8 y9 y10 cI mi ma k n hk4 hn hix (b + 1) (by have h9 : nI b ≤ nI n := (by rw [← hsn, ← hix]; exact c_2); have := (nI_leI hb31 (by omega)).mp h9; omega) (mi 4) (fun q => absurd (by rw [hsn]; exact nI_pos' hb31) q) (fun _ => by rw [hsn]; exact nI_1 b)) (cwV 2 hts (gd_V in_87 in_89 in_90 in_74 in_88) rfl rfl rfl (by decide +kernel) ⟨Nat.le_of_ble_eq_true rfl, Nat.le_of_ble_eq_true rfl⟩) ⟨fun a U g mk q => by obtain ⟨q0, qP, qK⟩ := q; exact ⟨q0, qP, va_K.moved (u := U) (U := U.calling g mk a) (Vm.Alike.refl U.vm) qK⟩, va_recv hKc hPc (ci := 3) (q0 := 0) rfl rfl, fun U hU hW => ⟨rfl, by rw [hU]; exact hPc, va_K.moved hW.alike hKc⟩⟩ rfl rfl hl.1 rfl (lv_room (Nat.le_of_ble_eq_true rfl)) dMd_decided_65 ⟨Nat.le_of_ble_eq_true rfl, Nat.le_of_ble_eq_true rfl⟩) (fun r_5 er_6 => ?_)
          subst er_6
          refine lv_aload_n hx hb dMd_decided_68 rfl (lv_at hl 1 rfl) ?_
          refine va_get (D := (dC, dI)) (ci := 3) (v := .int (mi 5)) (C := RMd) (T := TMd) (N := 17) hx hb hts inMd hown hK hP 0 rfl rfl 14 (by decide) (hts _ in_79) (fun _ h9 => h9) rfl dMd_decided_69 ?_
          refine lv_iand hx hb dMd_decided_72 ?_
          refine lv_if_eq (tgt := 80) hx hb dMd_decided_73 (by decide) (fun c_7 => ?_) (fun c_7 => ?_)
          · skip
            refine lv_iconst (v := 1) hx hb dMd_decided_80 (by decide) ?_
            exact W.iret (v := 1) hx hb hr (fun t ht hW => ⟨1, rfl, by simp only [m_dec, if_neg c_1, if_pos c_2, if_pos c_3, if_neg c_4, if_pos c_7], ht⟩) (fun q h => by cases h) dMd_decided_81
          · skip
            refine lv_iconst (v := 2) hx hb dMd_decided_76 (by decide) ?_
            refine lv_goto (tgt := 81) hx hb dMd_decided_77 (by decide) ?_
            exact W.iret (v := 2) hx hb hr (fun t ht hW => ⟨2, rfl, by simp only [m_dec, if_neg c_1, if_pos c_2, if_pos c_3, if_neg c_4, if_neg c_7], ht⟩) (fun q h => by cases h) dMd_decided_81
      · skip
        refine lv_iconst (v := 0) hx hb dMd_decided_44 (by decide) ?_
        exact W.iret (v := 0) hx hb hr (fun t ht hW => ⟨0, rfl, by simp only [m_dec, if_neg c_1, if_pos c_2, if_neg c_3], ht⟩) (fun q h => by cases h) dMd_decided_45
    · skip
      refine lv_iconst (v := (-1)) hx hb dMd_decided_21 (by decide) ?_
      exact W.iret (v := (-1)) hx hb hr (fun t ht hW => ⟨(-1), rfl, by simp only [m_dec, if_neg c_1, if_neg c_2], ht⟩) (fun q h => by cases h) dMd_decided_22
set_option maxHeartbeats 4000000 in
set_option maxRecDepth 100000 in
/-- test(k) -/
theorem k_M_test (l : Launch) (dC : Nat → ClassId) (dI : Nat → Nat → Nat) (sz : Nat) (y y1 y2 y3 y4 y5 y6 y7 y8 y9 y10 : Nat) (cI : ClassId) (mi : Nat → Int32) (ma : Nat → Nat → Int32) (k n : Nat) (hk4 : k < 4) (hn : n < 2 ^ 30) (hix : ma 0 k = nI n) (se b : Nat) (hse : mi 2 = nI se) (hs16 : se < 16) (hsn : mi 4 = nI b) (hb31 : b < 2 ^ 31) : Met l yMd_test wsMd_test ({ frames := 3, cells := 0, slots := 0, locals := 120 }) (va_Pc [.ref y, .int (nI k)] (fun U => U.heap.size = sz ∧ va_P (dC, dI) vwCl (wM y y1 y2 y3 y4 y5 y6 y7 y8 y9 y10 cI mi ma) U.heap ∧ va_K (dC, dI) vwCl [(cI, .int)] U ∧ va_D (fun _ => True) (wM y y1 y2 y3 y4 y5 y6 y7 y8 y9 y10 cI mi ma))) (va_Qi (fun (r : Int32) (_ : Unit) => r = m_dec mi ma k n se b) (fun _ t => va_P (dC, dI) vwCl (wM y y1 y2 y3 y4 y5 y6 y7 y8 y9 y10 cI (va_up mi 0 0) ma) t.heap ∧ va_K (dC, dI) vwCl [(cI, .int)] t ∧ va_D (va_A (wM y y1 y2 y3 y4 y5 y6 y7 y8 y9 y10 cI mi ma) sz) (wM y y1 y2 y3 y4 y5 y6 y7 y8 y9 y10 cI (va_up mi 0 0) ma)) (va_A (wM y y1 y2 y3 y4 y5 y6 y7 y8 y9 y10 cI mi ma) sz)) 0 0 (va_A (wM y y1 y2 y3 y4 y5 y6 y7 y8 y9 y10 cI mi ma) sz) := by
  refine Met.ofW (cc := cMd_test) (maxL := 2) (ret := (some .int)) (by decide) rfl ?_
  intro p e s m args below meth c s₁ B hml hv
  obtain ⟨rfl, hsz, hP, hK, hD0⟩ := hv
  have hx := B.exec
  have hb := B.bytes
  have hr := B.returns
  have hts0 := atoms_spec (ws := wsMd_test) B.pre
  have hts := fun (w : Cond) (h : w ∈ lw_g) => hts0 w (List.mem_cons_of_mem _ h)
  have hown : s.vm.findClass RMd = some m.cls := findClass_of_methodNamed B.named
  have hlocks := B.notSynchronized
  subst hsz
  have hD := hD0.self (sz := s.heap.size)
  generalize hAe : va_A (wM y y1 y2 y3 y4 y5 y6 y7 y8 y9 y10 cI mi ma) s.heap.size = A at hD ⊢
  have hA : ∀ q : Nat, s.heap.size ≤ q → A q := fun q h => by rw [← hAe]; exact Or.inr h
  have hS : va_S A s.heap s.heap [] := va_S.rf
  have hP : va_P (dC, dI) vwCl (wM y y1 y2 y3 y4 y5 y6 y7 y8 y9 y10 cI mi ma) s.heap := hP
  have hl := lv_entry ([.ref y, .int (nI k)]) (n := 2) (Nat.le_of_ble_eq_true rfl)
  rw [lg_entry_eq]
  generalize (lg_sl ([.ref y, .int (nI k)]) ++ List.replicate (2 - (lg_sl ([.ref y, .int (nI k)])).length) Slot.unset).toArray = ls at hl ⊢
  have hl : lv_has ls 2 [(0, .ref y), (1, .int (nI k))] := hl
  refine lv_aload_n hx hb dMd_test_0 rfl (lv_at hl 0 rfl) ?_
  refine lv_iload_n hx hb dMd_test_1 rfl (lv_at hl 1 rfl) ?_
  have hPc := hP.sub (ws' := (wM y y1 y2 y3 y4 y5 y6 y7 y8 y9 y10 cI mi ma)) [0, 1, 2, 3, 4, 5, 6, 7, 8, 9, 10] rfl
  have hDc := hD.sub (ws' := (wM y y1 y2 y3 y4 y5 y6 y7 y8 y9 y10 cI mi ma)) [0, 1, 2, 3, 4, 5, 6, 7, 8, 9, 10] (by decide) rfl
  have hKc := hK.sub (tys' := [(cI, .int)]) [0] rfl
  have hFc := va_free (wc := (wM y y1 y2 y3 y4 y5 y6 y7 y8 y9 y10 cI mi ma)) hD hS hA [0, 1, 2, 3, 4, 5, 6, 7, 8, 9, 10] rfl
  refine va_calli (va_runV (As := [.int (nI k)]) (rest := []) ⟨hx, hb, hml, hown, hts⟩ (k_M_lacks0 l dC dI s.heap.size y y1 y2 y3 y4 y5 y6 y7 y8 y9 y10 cI mi ma k hk4) (cwV 1 hts (gd_V in_91 in_93 in_94 in_74 in_92) rfl rfl rfl (by decide +kernel) ⟨Nat.le_of_ble_eq_true rfl, Nat.le_of_ble_eq_true rfl⟩) ⟨fun a U g mk q => by obtain ⟨q0, q1, qP, qK, qD⟩ := q; exact ⟨q0, q1, qP, va_K.moved (u := U) (U := U.calling g mk a) (Vm.Alike.refl U.vm) qK, qD⟩, va_recv hKc hPc (ci := 3) (q0 := 0) rfl rfl, fun U hU hW => ⟨rfl, by rw [hU], by rw [hU]; exact hPc, va_K.moved hW.alike hKc, hDc.weaken (fun _ _ _ _ => trivial)⟩⟩ rfl rfl hl.1 rfl (lv_room (Nat.le_of_ble_eq_true rfl)) dMd_test_2 ⟨Nat.le_of_ble_eq_true rfl, Nat.le_of_ble_eq_true rfl⟩) hS (fun q _ h => hFc q h) hFc (fun r_1 u t H1 locs ht hvm hw hB hz1 hk1 hS => ?_)
  obtain ⟨hP1, hK1, hD1⟩ := hB
  rw [ht] at hP1
  obtain ⟨hP, hD⟩ := va_join (wr := []) (w1 := (wM y y1 y2 y3 y4 y5 y6 y7 y8 y9 y10 cI (va_up mi 0 0) ma)) hP hD [0, 1, 2, 3, 4, 5, 6, 7, 8, 9, 10] [] rfl rfl (by decide) (by decide) hk1 hFc hP1 hD1
  generalize H1 = H at hP hS ⊢
  have hP : va_P (dC, dI) vwCl (wM y y1 y2 y3 y4 y5 y6 y7 y8 y9 y10 cI (va_up mi 0 0) ma) H := hP
  have hD : va_D A (wM y y1 y2 y3 y4 y5 y6 y7 y8 y9 y10 cI (va_up mi 0 0) ma) := hD
  have hw : r_1 = 0 := hw
  subst hw
  refine lv_if_eq (tgt := 12) hx hb dMd_test_5 (by decide) (fun _ => ?_) (fun c_2 => absurd c_2 (by decide))
  refine lv_aload_n hx hb dMd_test_12 rfl (lv_at hl 0 rfl) ?_
  refine lv_iload_n hx hb dMd_test_13 rfl (lv_at hl 1 rfl) ?_
  have hPc := hP.sub (ws' := (wM y y1 y2 y3 y4 y5 y6 y7 y8 y9 y10 cI (va_up mi 0 0) ma)) [0, 1, 2, 3, 4, 5, 6, 7, 8, 9, 10] rfl
  have hKc := hK.sub (tys' := [(cI, .int)]) [0] rfl
  refine vp_callSi (W.runV (As := [.int (nI k)]) (rest := []) ⟨hx, hb, hml, hown, hts⟩ (k_M_decided l dC dI y y1 y2 y3 y4 y5 y6 y7 y8 y9 y10 cI (va_up mi 0 0) ma k n hk4 hn hix se b hse hs16 hsn hb31) (cwV 1 hts (gd_V in_95 in_97 in_98 in_74 in_96) rfl rfl rfl (by decide +kernel) ⟨Nat.le_of_ble_eq_true rfl, Nat.le_of_ble_eq_true rfl⟩) ⟨fun a U g mk q => by obtain ⟨q0, qP, qK⟩ := q; exact ⟨q0, qP, va_K.moved (u := U) (U := U.calling g mk a) (Vm.Alike.refl U.vm) qK⟩, va_recv hKc hPc (ci := 3) (q0 := 0) rfl rfl, fun U hU hW => ⟨rfl, by rw [hU]; exact hPc, va_K.moved hW.alike hKc⟩⟩ rfl rfl hl.1 rfl (lv_room (Nat.le_of_ble_eq_true rfl)) dMd_test_14 ⟨Nat.le_of_ble_eq_true rfl, Nat.le_of_ble_eq_true rfl⟩) (fun r_3 er_4 => ?_)
  subst er_4
  have hP9 : va_P (dC, dI) vwCl (wM y y1 y2 y3 y4 y5 y6 y7 y8 y9 y10 cI (va_up mi 0 0) ma) H := by exact hP
  have hD9 : va_D A (wM y y1 y2 y3 y4 y5 y6 y7 y8 y9 y10 cI (va_up mi 0 0) ma) := by exact hD
  exact W.iret (v := m_dec (va_up mi 0 0) ma k n se b) hx hb hr (fun t ht hW => ⟨⟨m_dec (va_up mi 0 0) ma k n se b, (), rfl, rfl, by rw [ht]; exact hP9, va_K.moved hW.alike hK, hD9⟩, hS.F ht⟩) hS.2.2 dMd_test_17
set_option maxHeartbeats 4000000 in
set_option maxRecDepth 100000 in
/-- test(x), no fold -/
theorem k_M_testN (l : Launch) (dC : Nat → ClassId) (dI : Nat → Nat → Nat) (sz : Nat) (y y1 y2 y3 y4 y5 y6 y7 y8 y9 y10 : Nat) (cI : ClassId) (mi : Nat → Int32) (ma : Nat → Nat → Int32) (x : Int32) (hfx : s_lk x = 1) : Met l yMd_test wsMd_test ({ frames := 3, cells := 0, slots := 0, locals := 120 }) (va_Pc [.ref y, .int x] (fun U => U.heap.size = sz ∧ va_P (dC, dI) vwCl (wM y y1 y2 y3 y4 y5 y6 y7 y8 y9 y10 cI mi ma) U.heap ∧ va_K (dC, dI) vwCl [(cI, .int)] U ∧ va_D (fun _ => True) (wM y y1 y2 y3 y4 y5 y6 y7 y8 y9 y10 cI mi ma))) (va_Qi (fun (r : Int32) (_ : Unit) => r = 0) (fun _ t => va_P (dC, dI) vwCl (wM y y1 y2 y3 y4 y5 y6 y7 y8 y9 y10 cI (va_up mi 0 1) ma) t.heap ∧ va_K (dC, dI) vwCl [(cI, .int)] t ∧ va_D (va_A (wM y y1 y2 y3 y4 y5 y6 y7 y8 y9 y10 cI mi ma) sz) (wM y y1 y2 y3 y4 y5 y6 y7 y8 y9 y10 cI (va_up mi 0 1) ma)) (va_A (wM y y1 y2 y3 y4 y5 y6 y7 y8 y9 y10 cI mi ma) sz)) 0 0 (va_A (wM y y1 y2 y3 y4 y5 y6 y7 y8 y9 y10 cI mi ma) sz) := by
  refine Met.ofW (cc := cMd_test) (maxL := 2) (ret := (some .int)) (by decide) rfl ?_
  intro p e s m args below meth c s₁ B hml hv
  obtain ⟨rfl, hsz, hP, hK, hD0⟩ := hv
  have hx := B.exec
  have hb := B.bytes
  have hr := B.returns
  have hts0 := atoms_spec (ws := wsMd_test) B.pre
  have hts := fun (w : Cond) (h : w ∈ lw_g) => hts0 w (List.mem_cons_of_mem _ h)
  have hown : s.vm.findClass RMd = some m.cls := findClass_of_methodNamed B.named
  have hlocks := B.notSynchronized
  subst hsz
  have hD := hD0.self (sz := s.heap.size)
  generalize hAe : va_A (wM y y1 y2 y3 y4 y5 y6 y7 y8 y9 y10 cI mi ma) s.heap.size = A at hD ⊢
  have hA : ∀ q : Nat, s.heap.size ≤ q → A q := fun q h => by rw [← hAe]; exact Or.inr h
  have hS : va_S A s.heap s.heap [] := va_S.rf
  have hP : va_P (dC, dI) vwCl (wM y y1 y2 y3 y4 y5 y6 y7 y8 y9 y10 cI mi ma) s.heap := hP
  have hl := lv_entry ([.ref y, .int x]) (n := 2) (Nat.le_of_ble_eq_true rfl)
  rw [lg_entry_eq]
  generalize (lg_sl ([.ref y, .int x]) ++ List.replicate (2 - (lg_sl ([.ref y, .int x])).length) Slot.unset).toArray = ls at hl ⊢
  have hl : lv_has ls 2 [(0, .ref y), (1, .int x)] := hl
  refine lv_aload_n hx hb dMd_test_0 rfl (lv_at hl 0 rfl) ?_
  refine lv_iload_n hx hb dMd_test_1 rfl (lv_at hl 1 rfl) ?_
  have hPc := hP.sub (ws' := (wM y y1 y2 y3 y4 y5 y6 y7 y8 y9 y10 cI mi ma)) [0, 1, 2, 3, 4, 5, 6, 7, 8, 9, 10] rfl
  have hDc := hD.sub (ws' := (wM y y1 y2 y3 y4 y5 y6 y7 y8 y9 y10 cI mi ma)) [0, 1, 2, 3, 4, 5, 6, 7, 8, 9, 10] (by decide) rfl
  have hKc := hK.sub (tys' := [(cI, .int)]) [0] rfl
  have hFc := va_free (wc := (wM y y1 y2 y3 y4 y5 y6 y7 y8 y9 y10 cI mi ma)) hD hS hA [0, 1, 2, 3, 4, 5, 6, 7, 8, 9, 10] rfl
  refine va_calli (va_runV (As := [.int x]) (rest := []) ⟨hx, hb, hml, hown, hts⟩ (k_M_lacks1 l dC dI s.heap.size y y1 y2 y3 y4 y5 y6 y7 y8 y9 y10 cI mi ma x hfx) (cwV 1 hts (gd_V in_91 in_93 in_94 in_74 in_92) rfl rfl rfl (by decide +kernel) ⟨Nat.le_of_ble_eq_true rfl, Nat.le_of_ble_eq_true rfl⟩) ⟨fun a U g mk q => by obtain ⟨q0, q1, qP, qK, qD⟩ := q; exact ⟨q0, q1, qP, va_K.moved (u := U) (U := U.calling g mk a) (Vm.Alike.refl U.vm) qK, qD⟩, va_recv hKc hPc (ci := 3) (q0 := 0) rfl rfl, fun U hU hW => ⟨rfl, by rw [hU], by rw [hU]; exact hPc, va_K.moved hW.alike hKc, hDc.weaken (fun _ _ _ _ => trivial)⟩⟩ rfl rfl hl.1 rfl (lv_room (Nat.le_of_ble_eq_true rfl)) dMd_test_2 ⟨Nat.le_of_ble_eq_true rfl, Nat.le_of_ble_eq_true rfl⟩) hS (fun q _ h => hFc q h) hFc (fun r_1 u t H1 locs ht hvm hw hB hz1 hk1 hS => ?_)
  obtain ⟨hP1, hK1, hD1⟩ := hB
  rw [ht] at hP1
  obtain ⟨hP, hD⟩ := va_join (wr := []) (w1 := (wM y y1 y2 y3 y4 y5 y6 y7 y8 y9 y10 cI (va_up mi 0 1) ma)) hP hD [0, 1, 2, 3, 4, 5, 6, 7, 8, 9, 10] [] rfl rfl (by decide) (by decide) hk1 hFc hP1 hD1
  generalize H1 = H at hP hS ⊢
  have hP : va_P (dC, dI) vwCl (wM y y1 y2 y3 y4 y5 y6 y7 y8 y9 y10 cI (va_up mi 0 1) ma) H := hP
  have hD : va_D A (wM y y1 y2 y3 y4 y5 y6 y7 y8 y9 y10 cI (va_up mi 0 1) ma) := hD
  have hw : r_1 = 1 := hw
  subst hw
  refine lv_if_eq (tgt := 12) hx hb dMd_test_5 (by decide) (fun c_2 => absurd c_2 (by decide)) (fun _ => ?_)
  refine lv_iconst (v := 0) hx hb dMd_test_8 (by decide) ?_
  refine lv_goto (tgt := 17) hx hb dMd_test_9 (by decide) ?_
  have hP9 : va_P (dC, dI) vwCl (wM y y1 y2 y3 y4 y5 y6 y7 y8 y9 y10 cI (va_up mi 0 1) ma) H := by exact hP
  have hD9 : va_D A (wM y y1 y2 y3 y4 y5 y6 y7 y8 y9 y10 cI (va_up mi 0 1) ma) := by exact hD
  exact W.iret (v := 0) hx hb hr (fun t ht hW => ⟨⟨0, (), rfl, rfl, by rw [ht]; exact hP9, va_K.moved hW.alike hK, hD9⟩, hS.F ht⟩) hS.2.2 dMd_test_17
end
section
theorem m_ap_n {mi : Nat → Int32} {ma : Nat → Nat → Int32} {k n se b : Nat} (h : m_dec mi ma k n se b = -1) : m_ap mi ma k n se b = (-1, ma) := by
  unfold m_ap; rw [if_pos h]
theorem m_ap_0 {mi : Nat → Int32} {ma : Nat → Nat → Int32} {k n se b : Nat} (h : m_dec mi ma k n se b = 0) : m_ap mi ma k n se b = (0, m_ap_ mi ma k n 0 (m_cp (ma 8) (16 * (64 * k + (n + 1) % 64)) (16 * (64 * k + n % 64)) 16) (ma 5) (ma 6) 0 0 1) := by
  unfold m_ap; rw [if_neg (by rw [h]; decide), if_pos h]
theorem m_ap_1 {mi : Nat → Int32} {ma : Nat → Nat → Int32} {k n se b : Nat} (h : m_dec mi ma k n se b = 1) : m_ap mi ma k n se b = (1, m_ap_ mi ma k n (mi 6) (m_av (mi 6) (ma 9) (64 * k + (n + 1) % 64) (64 * k + n % 64) (ma 8) 16) (upd (ma 5) (16 * k + se) (mi 3)) (upd (ma 6) (16 * k + se) 1) 1 0 0) := by
  unfold m_ap; rw [if_neg (by rw [h]; decide), if_neg (by rw [h]; decide), if_pos h]
theorem m_ap_2 {mi : Nat → Int32} {ma : Nat → Nat → Int32} {k n se b : Nat} (h : m_dec mi ma k n se b = 2) : m_ap mi ma k n se b = (2, m_ap_ mi ma k n 0 (m_cp (ma 8) (16 * (64 * k + (n + 1) % 64)) (16 * (64 * k + n % 64)) 16) (upd (ma 5) (16 * k + se) (mi 3)) (upd (ma 6) (16 * k + se) 2) 0 1 0) := by
  unfold m_ap; rw [if_neg (by rw [h]; decide), if_neg (by rw [h]; decide), if_neg (by rw [h]; decide)]
set_option maxHeartbeats 4000000 in
set_option maxRecDepth 100000 in
/-- apply(k) -/
theorem k_M_apply (l : Launch) (dC : Nat → ClassId) (dI : Nat → Nat → Nat) (sz : Nat) (y y1 y2 y3 y4 y5 y6 y7 y8 y9 y10 : Nat) (cI : ClassId) (mi : Nat → Int32) (ma : Nat → Nat → Int32) (k n : Nat) (hk4 : k < 4) (hn : n < 2 ^ 30) (hix : ma 0 k = nI n) (se b : Nat) (hse : mi 2 = nI se) (hs16 : se < 16) (hsn : mi 4 = nI b) (hb31 : b < 2 ^ 31) : Met l yMd_apply wsMd_apply ({ frames := 3, cells := 0, slots := 0, locals := 120 }) (va_Pc [.ref y, .int (nI k)] (fun U => U.heap.size = sz ∧ va_P (dC, dI) vwCl (wM y y1 y2 y3 y4 y5 y6 y7 y8 y9 y10 cI mi ma) U.heap ∧ va_K (dC, dI) vwCl [(cI, .int)] U ∧ va_D (fun _ => True) (wM y y1 y2 y3 y4 y5 y6 y7 y8 y9 y10 cI mi ma))) (va_Qi (fun (r : Int32) (_ : Unit) => r = (m_ap mi ma k n se b).1) (fun _ t => va_P (dC, dI) vwCl (wM y y1 y2 y3 y4 y5 y6 y7 y8 y9 y10 cI (va_up mi 0 0) ((m_ap mi ma k n se b).2)) t.heap ∧ va_K (dC, dI) vwCl [(cI, .int)] t ∧ va_D (va_A (wM y y1 y2 y3 y4 y5 y6 y7 y8 y9 y10 cI mi ma) sz) (wM y y1 y2 y3 y4 y5 y6 y7 y8 y9 y10 cI (va_up mi 0 0) ((m_ap mi ma k n se b).2))) (va_A (wM y y1 y2 y3 y4 y5 y6 y7 y8 y9 y10 cI mi ma) sz)) 0 0 (va_A (wM y y1 y2 y3 y4 y5 y6 y7 y8 y9 y10 cI mi ma) sz) := by
  refine Met.ofW (cc := cMd_apply) (maxL := 8) (ret := (some .int)) (by decide) rfl ?_
  intro p e s m args below meth c s₁ B hml hv
  obtain ⟨rfl, hsz, hP, hK, hD0⟩ := hv
  have hx := B.exec
  have hb := B.bytes
  have hr := B.returns
  have hts0 := atoms_spec (ws := wsMd_apply) B.pre
  have hts := fun (w : Cond) (h : w ∈ lw_g) => hts0 w (List.mem_cons_of_mem _ h)
  have hown : s.vm.findClass RMd = some m.cls := findClass_of_methodNamed B.named
  have hlocks := B.notSynchronized
  subst hsz
  have hD := hD0.self (sz := s.heap.size)
  generalize hAe : va_A (wM y y1 y2 y3 y4 y5 y6 y7 y8 y9 y10 cI mi ma) s.heap.size = A at hD ⊢
  have hA : ∀ q : Nat, s.heap.size ≤ q → A q := fun q h => by rw [← hAe]; exact Or.inr h
  have hS : va_S A s.heap s.heap [] := va_S.rf
  have hP : va_P (dC, dI) vwCl (wM y y1 y2 y3 y4 y5 y6 y7 y8 y9 y10 cI mi ma) s.heap := hP
  have hl := lv_entry ([.ref y, .int (nI k)]) (n := 8) (Nat.le_of_ble_eq_true rfl)
  rw [lg_entry_eq]
  generalize (lg_sl ([.ref y, .int (nI k)]) ++ List.replicate (8 - (lg_sl ([.ref y, .int (nI k)])).length) Slot.unset).toArray = ls at hl ⊢
  have hl : lv_has ls 8 [(0, .ref y), (1, .int (nI k))] := hl
  refine lv_aload_n hx hb dMd_apply_0 rfl (lv_at hl 0 rfl) ?_
  refine lv_iload_n hx hb dMd_apply_1 rfl (lv_at hl 1 rfl) ?_
  have hPc := hP.sub (ws' := (wM y y1 y2 y3 y4 y5 y6 y7 y8 y9 y10 cI mi ma)) [0, 1, 2, 3, 4, 5, 6, 7, 8, 9, 10] rfl
  have hDc := hD.sub (ws' := (wM y y1 y2 y3 y4 y5 y6 y7 y8 y9 y10 cI mi ma)) [0, 1, 2, 3, 4, 5, 6, 7, 8, 9, 10] (by decide) rfl
  have hKc := hK.sub (tys' := [(cI, .int)]) [0] rfl
  have hFc := va_free (wc := (wM y y1 y2 y3 y4 y5 y6 y7 y8 y9 y10 cI mi ma)) hD hS hA [0, 1, 2, 3, 4, 5, 6, 7, 8, 9, 10] rfl
  refine va_calli (va_runV (As := [.int (nI k)]) (rest := []) ⟨hx, hb, hml, hown, hts⟩ (k_M_lacks0 l dC dI s.heap.size y y1 y2 y3 y4 y5 y6 y7 y8 y9 y10 cI mi ma k hk4) (cwV 1 hts (gd_V in_91 in_93 in_94 in_74 in_92) rfl rfl rfl (by decide +kernel) ⟨Nat.le_of_ble_eq_true rfl, Nat.le_of_ble_eq_true rfl⟩) ⟨fun a U g mk q => by obtain ⟨q0, q1, qP, qK, qD⟩ := q; exact ⟨q0, q1, qP, va_K.moved (u := U) (U := U.calling g mk a) (Vm.Alike.refl U.vm) qK, qD⟩, va_recv hKc hPc (ci := 3) (q0 := 0) rfl rfl, fun U hU hW => ⟨rfl, by rw [hU], by rw [hU]; exact hPc, va_K.moved hW.alike hKc, hDc.weaken (fun _ _ _ _ => trivial)⟩⟩ rfl rfl hl.1 rfl (lv_room (Nat.le_of_ble_eq_true rfl)) dMd_apply_2 ⟨Nat.le_of_ble_eq_true rfl, Nat.le_of_ble_eq_true rfl⟩) hS (fun q _ h => hFc q h) hFc (fun r_1 u t H1 locs ht hvm hw hB hz1 hk1 hS => ?_)
  obtain ⟨hP1, hK1, hD1⟩ := hB
  rw [ht] at hP1
  obtain ⟨hP, hD⟩ := va_join (wr := []) (w1 := (wM y y1 y2 y3 y4 y5 y6 y7 y8 y9 y10 cI (va_up mi 0 0) ma)) hP hD [0, 1, 2, 3, 4, 5, 6, 7, 8, 9, 10] [] rfl rfl (by decide) (by decide) hk1 hFc hP1 hD1
  generalize H1 = H at hP hS ⊢
  have hP : va_P (dC, dI) vwCl (wM y y1 y2 y3 y4 y5 y6 y7 y8 y9 y10 cI (va_up mi 0 0) ma) H := hP
  have hD : va_D A (wM y y1 y2 y3 y4 y5 y6 y7 y8 y9 y10 cI (va_up mi 0 0) ma) := hD
  have hw : r_1 = 0 := hw
  subst hw
  refine lv_if_eq (tgt := 10) hx hb dMd_apply_5 (by decide) (fun _ => ?_) (fun c_2 => absurd c_2 (by decide))
  refine lv_aload_n hx hb dMd_apply_10 rfl (lv_at hl 0 rfl) ?_
  refine lv_iload_n hx hb dMd_apply_11 rfl (lv_at hl 1 rfl) ?_
  have hPc := hP.sub (ws' := (wM y y1 y2 y3 y4 y5 y6 y7 y8 y9 y10 cI (va_up mi 0 0) ma)) [0, 1, 2, 3, 4, 5, 6, 7, 8, 9, 10] rfl
  have hKc := hK.sub (tys' := [(cI, .int)]) [0] rfl
  refine vp_callSi (W.runV (As := [.int (nI k)]) (rest := []) ⟨hx, hb, hml, hown, hts⟩ (k_M_decided l dC dI y y1 y2 y3 y4 y5 y6 y7 y8 y9 y10 cI (va_up mi 0 0) ma k n hk4 hn hix se b hse hs16 hsn hb31) (cwV 1 hts (gd_V in_95 in_97 in_98 in_74 in_96) rfl rfl rfl (by decide +kernel) ⟨Nat.le_of_ble_eq_true rfl, Nat.le_of_ble_eq_true rfl⟩) ⟨fun a U g mk q => by obtain ⟨q0, qP, qK⟩ := q; exact ⟨q0, qP, va_K.moved (u := U) (U := U.calling g mk a) (Vm.Alike.refl U.vm) qK⟩, va_recv hKc hPc (ci := 3) (q0 := 0) rfl rfl, fun U hU hW => ⟨rfl, by rw [hU]; exact hPc, va_K.moved hW.alike hKc⟩⟩ rfl rfl hl.1 rfl (lv_room (Nat.le_of_ble_eq_true rfl)) dMd_apply_12 ⟨Nat.le_of_ble_eq_true rfl, Nat.le_of_ble_eq_true rfl⟩) (fun r_3 er_4 => ?_)
  subst er_4
  rcases m_dec_in mi ma k n se b with hv | hv | hv | hv
  · skip
    refine lv_ri (y := (-1)) hv ?_
    refine lv_istore_n (lv' := [(2, .int (-1)), (0, .ref y), (1, .int (nI k))]) hx hb dMd_apply_15 rfl hl (by decide) rfl (fun ls hl => ?_)
    refine lv_iload_n hx hb dMd_apply_16 rfl (lv_at hl 0 rfl) ?_
    refine lv_if_ge (tgt := 22) hx hb dMd_apply_17 (by decide) (fun c_5 => absurd c_5 (by decide)) (fun _ => ?_)
    refine lv_iconst (v := (-1)) hx hb dMd_apply_20 (by decide) ?_
    have hP9 : va_P (dC, dI) vwCl (wM y y1 y2 y3 y4 y5 y6 y7 y8 y9 y10 cI (va_up mi 0 0) ((m_ap mi ma k n se b).2)) H := by rw [m_ap_n hv]; exact hP
    have hD9 : va_D A (wM y y1 y2 y3 y4 y5 y6 y7 y8 y9 y10 cI (va_up mi 0 0) ((m_ap mi ma k n se b).2)) := by rw [m_ap_n hv]; exact hD
    exact W.iret (v := (-1)) hx hb hr (fun t ht hW => ⟨⟨(-1), (), rfl, by rw [m_ap_n hv], by rw [ht]; exact hP9, va_K.moved hW.alike hK, hD9⟩, hS.F ht⟩) hS.2.2 dMd_apply_21
  · skip
    refine lv_ri (y := 0) hv ?_
    refine lv_istore_n (lv' := [(2, .int 0), (0, .ref y), (1, .int (nI k))]) hx hb dMd_apply_15 rfl hl (by decide) rfl (fun ls hl => ?_)
    refine lv_iload_n hx hb dMd_apply_16 rfl (lv_at hl 0 rfl) ?_
    refine lv_if_ge (tgt := 22) hx hb dMd_apply_17 (by decide) (fun _ => ?_) (fun c_6 => absurd c_6 (by decide))
    refine lv_aload_n hx hb dMd_apply_22 rfl (lv_at hl 1 rfl) ?_
    refine va_get (D := (dC, dI)) (ci := 3) (v := .ref y1) (C := RMd) (T := TMd) (N := 17) hx hb hts inMd hown hK hP 0 rfl rfl 2 (by decide) (hts _ in_82) (fun _ h9 => h9) rfl dMd_apply_23 ?_
    refine lv_iload_n hx hb dMd_apply_26 rfl (lv_at hl 2 rfl) ?_
    refine lv_dup2_11 hx hb dMd_apply_27 rfl rfl ?_
    refine vq_iald (k := k) (f := ma 0) hx hb hK hP 1 0 rfl rfl rfl (by omega) (by decide) dMd_apply_28 ?_
    refine lv_ri (y := nI n) hix ?_
    refine lv_iconst (v := 1) hx hb dMd_apply_29 (by decide) ?_
    refine lv_iadd hx hb dMd_apply_30 ?_
    refine lv_ri (y := nI (n + 1)) (nI_1 _) ?_
    refine vq_iast (k := k) (f := ma 0) hx hb hK hP hD hS 1 0 rfl rfl rfl (by omega) (by decide) dMd_apply_31 (fun H locs hP hD hS => ?_)
    have hP : va_P (dC, dI) vwCl (wM y y1 y2 y3 y4 y5 y6 y7 y8 y9 y10 cI (va_up mi 0 0) (va_up ma 0 (upd (ma 0) k (nI (n + 1))))) H := hP
    have hD : va_D A (wM y y1 y2 y3 y4 y5 y6 y7 y8 y9 y10 cI (va_up mi 0 0) (va_up ma 0 (upd (ma 0) k (nI (n + 1))))) := hD
    refine lv_aload_n hx hb dMd_apply_32 rfl (lv_at hl 1 rfl) ?_
    refine va_get (D := (dC, dI)) (ci := 3) (v := .ref y1) (C := RMd) (T := TMd) (N := 17) hx hb hts inMd hown hK hP 0 rfl rfl 2 (by decide) (hts _ in_82) (fun _ h9 => h9) rfl dMd_apply_33 ?_
    refine lv_iload_n hx hb dMd_apply_36 rfl (lv_at hl 2 rfl) ?_
    refine vq_iald (k := k) (f := upd (ma 0) k (nI (n + 1))) hx hb hK hP 1 0 rfl rfl rfl (by omega) (by decide) dMd_apply_37 ?_
    refine lv_ri (y := nI (n + 1)) pk_us ?_
    refine lv_istore_n (lv' := [(3, .int (nI (n + 1))), (2, .int 0), (0, .ref y), (1, .int (nI k))]) hx hb dMd_apply_38 rfl hl (by decide) rfl (fun ls hl => ?_)
    refine lv_bipush (v := nI 64) hx hb dMd_apply_39 (by decide) ?_
    refine lv_iload_n hx hb dMd_apply_41 rfl (lv_at hl 3 rfl) ?_
    refine lv_imul hx hb dMd_apply_42 ?_
    refine lv_ri (y := nI (64 * k)) (pk_mul _ _) ?_
    refine lv_iload_n hx hb dMd_apply_43 rfl (lv_at hl 0 rfl) ?_
    refine lv_bipush (v := nI 64) hx hb dMd_apply_44 (by decide) ?_
    refine lv_irem hx hb dMd_apply_46 (by decide) ?_
    refine lv_ri (y := nI ((n + 1) % 64)) (pk_rem (by omega) (by decide) (by decide)) ?_
    refine lv_iadd hx hb dMd_apply_47 ?_
    refine lv_ri (y := nI ((64 * k) + ((n + 1) % 64))) (nI_add _ _) ?_
    refine lv_istore (lv' := [(4, .int (nI ((64 * k) + ((n + 1) % 64)))), (3, .int (nI (n + 1))), (2, .int 0), (0, .ref y), (1, .int (nI k))]) hx hb dMd_apply_48 hl (by decide) rfl (fun ls hl => ?_)
    refine lv_bipush (v := nI 64) hx hb dMd_apply_50 (by decide) ?_
    refine lv_iload_n hx hb dMd_apply_52 rfl (lv_at hl 4 rfl) ?_
    refine lv_imul hx hb dMd_apply_53 ?_
    refine lv_ri (y := nI (64 * k)) (pk_mul _ _) ?_
    refine lv_iload_n hx hb dMd_apply_54 rfl (lv_at hl 1 rfl) ?_
    refine lv_iconst (v := 1) hx hb dMd_apply_55 (by decide) ?_
    refine lv_isub hx hb dMd_apply_56 ?_
    refine lv_ri (y := nI n) (nI_pred n) ?_
    refine lv_bipush (v := nI 64) hx hb dMd_apply_57 (by decide) ?_
    refine lv_irem hx hb dMd_apply_59 (by decide) ?_
    refine lv_ri (y := nI (n % 64)) (pk_rem (by omega) (by decide) (by decide)) ?_
    refine lv_iadd hx hb dMd_apply_60 ?_
    refine lv_ri (y := nI ((64 * k) + (n % 64))) (nI_add _ _) ?_
    refine lv_istore (lv' := [(5, .int (nI ((64 * k) + (n % 64)))), (4, .int (nI ((64 * k) + ((n + 1) % 64)))), (3, .int (nI (n + 1))), (2, .int 0), (0, .ref y), (1, .int (nI k))]) hx hb dMd_apply_61 hl (by decide) rfl (fun ls hl => ?_)
    refine lv_aload_n hx hb dMd_apply_63 rfl (lv_at hl 4 rfl) ?_
    refine va_get (D := (dC, dI)) (ci := 3) (v := .ref y8) (C := RMd) (T := TMd) (N := 17) hx hb hts inMd hown hK hP 0 rfl rfl 9 (by decide) (hts _ in_83) (fun _ h9 => h9) rfl dMd_apply_64 ?_
    refine lv_iload hx hb dMd_apply_67 (lv_at hl 1 rfl) ?_
    refine lv_iload_n hx hb dMd_apply_69 rfl (lv_at hl 3 rfl) ?_
    refine lv_iconst (v := 1) hx hb dMd_apply_70 (by decide) ?_
    refine lv_icmp_ne (tgt := 81) hx hb dMd_apply_71 (by decide) (fun _ => ?_) (fun c_7 => absurd c_7 (by decide))
    refine lv_iconst (v := 0) hx hb dMd_apply_81 (by decide) ?_
    refine vq_iast (k := ((64 * k) + ((n + 1) % 64))) (f := ma 7) hx hb hK hP hD hS 8 0 rfl rfl rfl (by omega) (by decide) dMd_apply_82 (fun H locs hP hD hS => ?_)
    have hP : va_P (dC, dI) vwCl (wM y y1 y2 y3 y4 y5 y6 y7 y8 y9 y10 cI (va_up mi 0 0) (va_up (va_up ma 0 (upd (ma 0) k (nI (n + 1)))) 7 (upd (ma 7) ((64 * k) + ((n + 1) % 64)) 0))) H := hP
    have hD : va_D A (wM y y1 y2 y3 y4 y5 y6 y7 y8 y9 y10 cI (va_up mi 0 0) (va_up (va_up ma 0 (upd (ma 0) k (nI (n + 1)))) 7 (upd (ma 7) ((64 * k) + ((n + 1) % 64)) 0))) := hD
    refine lv_iconst (v := 0) hx hb dMd_apply_83 (by decide) ?_
    refine lv_istore (lv' := [(6, .int 0), (5, .int (nI ((64 * k) + (n % 64)))), (4, .int (nI ((64 * k) + ((n + 1) % 64)))), (3, .int (nI (n + 1))), (2, .int 0), (0, .ref y), (1, .int (nI k))]) hx hb dMd_apply_84 hl (by decide) rfl (fun ls hl => ?_)
    refine wl_rw (σ := Nat × Heap × List Loc × Array Slot) (fun z9 => (z9.2.1, z9.2.2.1, F0 m 86 z9.2.2.2 [])) (fun z9 => z9.1 ≤ 16 ∧ va_P (dC, dI) vwCl (wM y y1 y2 y3 y4 y5 y6 y7 y8 y9 y10 cI (va_up mi 0 0) (va_up (va_up (va_up ma 0 (upd (ma 0) k (nI (n + 1)))) 7 (upd (ma 7) ((64 * k) + ((n + 1) % 64)) 0)) 8 (m_cp (ma 8) (16 * ((64 * k) + ((n + 1) % 64))) (16 * ((64 * k) + (n % 64))) z9.1))) z9.2.1 ∧ va_D A (wM y y1 y2 y3 y4 y5 y6 y7 y8 y9 y10 cI (va_up mi 0 0) (va_up (va_up (va_up ma 0 (upd (ma 0) k (nI (n + 1)))) 7 (upd (ma 7) ((64 * k) + ((n + 1) % 64)) 0)) 8 (m_cp (ma 8) (16 * ((64 * k) + ((n + 1) % 64))) (16 * ((64 * k) + (n % 64))) z9.1))) ∧ va_S A s.heap z9.2.1 z9.2.2.1 ∧ lv_has z9.2.2.2 8 [(6, .int (nI z9.1)), (5, .int (nI ((64 * k) + (n % 64)))), (4, .int (nI ((64 * k) + ((n + 1) % 64)))), (3, .int (nI (n + 1))), (2, .int 0), (0, .ref y), (1, .int (nI k))]) (fun z9 => 16 - z9.1) ?_ (0, H, locs, ls) ⟨by omega, hP, hD, hS, lv_sub hl [0, 1, 2, 3, 4, 5, 6] rfl⟩
    rintro ⟨j, H, locs, ls⟩ ⟨hj, hP, hD, hS, hl⟩ ih
    have hj : j ≤ 16 := hj
    have hP : va_P (dC, dI) vwCl (wM y y1 y2 y3 y4 y5 y6 y7 y8 y9 y10 cI (va_up mi 0 0) (va_up (va_up (va_up ma 0 (upd (ma 0) k (nI (n + 1)))) 7 (upd (ma 7) ((64 * k) + ((n + 1) % 64)) 0)) 8 (m_cp (ma 8) (16 * ((64 * k) + ((n + 1) % 64))) (16 * ((64 * k) + (n % 64))) j))) H := hP
    have hD : va_D A (wM y y1 y2 y3 y4 y5 y6 y7 y8 y9 y10 cI (va_up mi 0 0) (va_up (va_up (va_up ma 0 (upd (ma 0) k (nI (n + 1)))) 7 (upd (ma 7) ((64 * k) + ((n + 1) % 64)) 0)) 8 (m_cp (ma 8) (16 * ((64 * k) + ((n + 1) % 64))) (16 * ((64 * k) + (n % 64))) j))) := hD
    have hS : va_S A s.heap H locs := hS
    have hl : lv_has ls 8 [(6, .int (nI j)), (5, .int (nI ((64 * k) + (n % 64)))), (4, .int (nI ((64 * k) + ((n + 1) % 64)))), (3, .int (nI (n + 1))), (2, .int 0), (0, .ref y), (1, .int (nI k))] := hl
    show W p l e _ s m _ below meth c H locs _ _ _ (F0 m 86 ls [])
    refine lv_iload hx hb dMd_apply_86 (lv_at hl 0 rfl) ?_
    refine lv_bipush (v := nI 16) hx hb dMd_apply_88 (by decide) ?_
    refine lv_icmp_ge (tgt := 165) hx hb dMd_apply_90 (by decide) (fun c_8 => ?_) (fun c_8 => ?_)
    · skip
      have hj9 : j = 16 := lp_x (by decide) hj c_8
      subst hj9
      refine lv_iload_n hx hb dMd_apply_165 rfl (lv_at hl 4 rfl) ?_
      refine lv_if_le (tgt := 202) hx hb dMd_apply_166 (by decide) (fun _ => ?_) (fun c_9 => absurd c_9 (by decide))
      refine lv_aload_n hx hb dMd_apply_202 rfl (lv_at hl 5 rfl) ?_
      refine va_get (D := (dC, dI)) (ci := 3) (v := .ref y3) (C := RMd) (T := TMd) (N := 17) hx hb hts inMd hown hK hP 0 rfl rfl 4 (by decide) (hts _ in_99) (fun _ h9 => h9) rfl dMd_apply_203 ?_
      refine lv_iload_n hx hb dMd_apply_206 rfl (lv_at hl 6 rfl) ?_
      refine lv_dup2_11 hx hb dMd_apply_207 rfl rfl ?_
      refine vq_iald (k := k) (f := ma 2) hx hb hK hP 3 0 rfl rfl rfl (by omega) (by decide) dMd_apply_208 ?_
      refine lv_iload_n hx hb dMd_apply_209 rfl (lv_at hl 4 rfl) ?_
      refine lv_iconst (v := 1) hx hb dMd_apply_210 (by decide) ?_
      refine lv_icmp_ne (tgt := 218) hx hb dMd_apply_211 (by decide) (fun _ => ?_) (fun c_10 => absurd c_10 (by decide))
      refine lv_iconst (v := 0) hx hb dMd_apply_218 (by decide) ?_
      refine lv_iadd hx hb dMd_apply_219 ?_
      refine vq_iast (k := k) (f := ma 2) hx hb hK hP hD hS 3 0 rfl rfl rfl (by omega) (by decide) dMd_apply_220 (fun H locs hP hD hS => ?_)
      have hP : va_P (dC, dI) vwCl (wM y y1 y2 y3 y4 y5 y6 y7 y8 y9 y10 cI (va_up mi 0 0) (va_up (va_up (va_up (va_up ma 0 (upd (ma 0) k (nI (n + 1)))) 7 (upd (ma 7) ((64 * k) + ((n + 1) % 64)) 0)) 8 (m_cp (ma 8) (16 * ((64 * k) + ((n + 1) % 64))) (16 * ((64 * k) + (n % 64))) 16)) 2 (upd (ma 2) k (((ma 2) k) + 0)))) H := hP
      have hD : va_D A (wM y y1 y2 y3 y4 y5 y6 y7 y8 y9 y10 cI (va_up mi 0 0) (va_up (va_up (va_up (va_up ma 0 (upd (ma 0) k (nI (n + 1)))) 7 (upd (ma 7) ((64 * k) + ((n + 1) % 64)) 0)) 8 (m_cp (ma 8) (16 * ((64 * k) + ((n + 1) % 64))) (16 * ((64 * k) + (n % 64))) 16)) 2 (upd (ma 2) k (((ma 2) k) + 0)))) := hD
      refine lv_aload_n hx hb dMd_apply_221 rfl (lv_at hl 5 rfl) ?_
      refine va_get (D := (dC, dI)) (ci := 3) (v := .ref y4) (C := RMd) (T := TMd) (N := 17) hx hb hts inMd hown hK hP 0 rfl rfl 5 (by decide) (hts _ in_100) (fun _ h9 => h9) rfl dMd_apply_222 ?_
      refine lv_iload_n hx hb dMd_apply_225 rfl (lv_at hl 6 rfl) ?_
      refine lv_dup2_11 hx hb dMd_apply_226 rfl rfl ?_
      refine vq_iald (k := k) (f := ma 3) hx hb hK hP 4 0 rfl rfl rfl (by omega) (by decide) dMd_apply_227 ?_
      refine lv_iload_n hx hb dMd_apply_228 rfl (lv_at hl 4 rfl) ?_
      refine lv_iconst (v := 2) hx hb dMd_apply_229 (by decide) ?_
      refine lv_icmp_ne (tgt := 237) hx hb dMd_apply_230 (by decide) (fun _ => ?_) (fun c_11 => absurd c_11 (by decide))
      refine lv_iconst (v := 0) hx hb dMd_apply_237 (by decide) ?_
      refine lv_iadd hx hb dMd_apply_238 ?_
      refine vq_iast (k := k) (f := ma 3) hx hb hK hP hD hS 4 0 rfl rfl rfl (by omega) (by decide) dMd_apply_239 (fun H locs hP hD hS => ?_)
      have hP : va_P (dC, dI) vwCl (wM y y1 y2 y3 y4 y5 y6 y7 y8 y9 y10 cI (va_up mi 0 0) (va_up (va_up (va_up (va_up (va_up ma 0 (upd (ma 0) k (nI (n + 1)))) 7 (upd (ma 7) ((64 * k) + ((n + 1) % 64)) 0)) 8 (m_cp (ma 8) (16 * ((64 * k) + ((n + 1) % 64))) (16 * ((64 * k) + (n % 64))) 16)) 2 (upd (ma 2) k (((ma 2) k) + 0))) 3 (upd (ma 3) k (((ma 3) k) + 0)))) H := hP
      have hD : va_D A (wM y y1 y2 y3 y4 y5 y6 y7 y8 y9 y10 cI (va_up mi 0 0) (va_up (va_up (va_up (va_up (va_up ma 0 (upd (ma 0) k (nI (n + 1)))) 7 (upd (ma 7) ((64 * k) + ((n + 1) % 64)) 0)) 8 (m_cp (ma 8) (16 * ((64 * k) + ((n + 1) % 64))) (16 * ((64 * k) + (n % 64))) 16)) 2 (upd (ma 2) k (((ma 2) k) + 0))) 3 (upd (ma 3) k (((ma 3) k) + 0)))) := hD
      refine lv_aload_n hx hb dMd_apply_240 rfl (lv_at hl 5 rfl) ?_
      refine va_get (D := (dC, dI)) (ci := 3) (v := .ref y5) (C := RMd) (T := TMd) (N := 17) hx hb hts inMd hown hK hP 0 rfl rfl 6 (by decide) (hts _ in_101) (fun _ h9 => h9) rfl dMd_apply_241 ?_
      refine lv_iload_n hx hb dMd_apply_244 rfl (lv_at hl 6 rfl) ?_
      refine lv_dup2_11 hx hb dMd_apply_245 rfl rfl ?_
      refine vq_iald (k := k) (f := ma 4) hx hb hK hP 5 0 rfl rfl rfl (by omega) (by decide) dMd_apply_246 ?_
      refine lv_iload_n hx hb dMd_apply_247 rfl (lv_at hl 4 rfl) ?_
      refine lv_if_ne (tgt := 255) hx hb dMd_apply_248 (by decide) (fun c_12 => absurd c_12 (by decide)) (fun _ => ?_)
      refine lv_iconst (v := 1) hx hb dMd_apply_251 (by decide) ?_
      refine lv_goto (tgt := 256) hx hb dMd_apply_252 (by decide) ?_
      refine lv_iadd hx hb dMd_apply_256 ?_
      refine vq_iast (k := k) (f := ma 4) hx hb hK hP hD hS 5 0 rfl rfl rfl (by omega) (by decide) dMd_apply_257 (fun H locs hP hD hS => ?_)
      have hP : va_P (dC, dI) vwCl (wM y y1 y2 y3 y4 y5 y6 y7 y8 y9 y10 cI (va_up mi 0 0) (va_up (va_up (va_up (va_up (va_up (va_up ma 0 (upd (ma 0) k (nI (n + 1)))) 7 (upd (ma 7) ((64 * k) + ((n + 1) % 64)) 0)) 8 (m_cp (ma 8) (16 * ((64 * k) + ((n + 1) % 64))) (16 * ((64 * k) + (n % 64))) 16)) 2 (upd (ma 2) k (((ma 2) k) + 0))) 3 (upd (ma 3) k (((ma 3) k) + 0))) 4 (upd (ma 4) k (((ma 4) k) + 1)))) H := hP
      have hD : va_D A (wM y y1 y2 y3 y4 y5 y6 y7 y8 y9 y10 cI (va_up mi 0 0) (va_up (va_up (va_up (va_up (va_up (va_up ma 0 (upd (ma 0) k (nI (n + 1)))) 7 (upd (ma 7) ((64 * k) + ((n + 1) % 64)) 0)) 8 (m_cp (ma 8) (16 * ((64 * k) + ((n + 1) % 64))) (16 * ((64 * k) + (n % 64))) 16)) 2 (upd (ma 2) k (((ma 2) k) + 0))) 3 (upd (ma 3) k (((ma 3) k) + 0))) 4 (upd (ma 4) k (((ma 4) k) + 1)))) := hD
      refine lv_aload_n hx hb dMd_apply_258 rfl (lv_at hl 5 rfl) ?_
      refine va_get (D := (dC, dI)) (ci := 3) (v := .ref y2) (C := RMd) (T := TMd) (N := 17) hx hb hts inMd hown hK hP 0 rfl rfl 3 (by decide) (hts _ in_102) (fun _ h9 => h9) rfl dMd_apply_259 ?_
      refine lv_iload_n hx hb dMd_apply_262 rfl (lv_at hl 6 rfl) ?_
      refine lv_aload_n hx hb dMd_apply_263 rfl (lv_at hl 5 rfl) ?_
      refine va_get (D := (dC, dI)) (ci := 3) (v := .ref y2) (C := RMd) (T := TMd) (N := 17) hx hb hts inMd hown hK hP 0 rfl rfl 3 (by decide) (hts _ in_102) (fun _ h9 => h9) rfl dMd_apply_264 ?_
      refine lv_iload_n hx hb dMd_apply_267 rfl (lv_at hl 6 rfl) ?_
      refine vq_iald (k := k) (f := ma 1) hx hb hK hP 2 0 rfl rfl rfl (by omega) (by decide) dMd_apply_268 ?_
      refine lv_iload_n hx hb dMd_apply_269 rfl (lv_at hl 3 rfl) ?_
      refine lv_aload_n hx hb dMd_apply_270 rfl (lv_at hl 5 rfl) ?_
      refine va_get (D := (dC, dI)) (ci := 3) (v := .int (mi 1)) (C := RMd) (T := TMd) (N := 17) hx hb hts inMd hown hK hP 0 rfl rfl 1 (by decide) (hts _ in_86) (fun _ h9 => h9) rfl dMd_apply_271 ?_
      refine lv_isub hx hb dMd_apply_274 ?_
      refine lv_icmp_ge (tgt := 287) hx hb dMd_apply_275 (by decide) (fun c_13 => ?_) (fun c_13 => ?_)
      · skip
        refine lv_aload_n hx hb dMd_apply_287 rfl (lv_at hl 5 rfl) ?_
        refine va_get (D := (dC, dI)) (ci := 3) (v := .ref y2) (C := RMd) (T := TMd) (N := 17) hx hb hts inMd hown hK hP 0 rfl rfl 3 (by decide) (hts _ in_102) (fun _ h9 => h9) rfl dMd_apply_288 ?_
        refine lv_iload_n hx hb dMd_apply_291 rfl (lv_at hl 6 rfl) ?_
        refine vq_iald (k := k) (f := ma 1) hx hb hK hP 2 0 rfl rfl rfl (by omega) (by decide) dMd_apply_292 ?_
        refine vq_iast (k := k) (f := ma 1) hx hb hK hP hD hS 2 0 rfl rfl rfl (by omega) (by decide) dMd_apply_293 (fun H locs hP hD hS => ?_)
        have hP : va_P (dC, dI) vwCl (wM y y1 y2 y3 y4 y5 y6 y7 y8 y9 y10 cI (va_up mi 0 0) (va_up (va_up (va_up (va_up (va_up (va_up (va_up ma 0 (upd (ma 0) k (nI (n + 1)))) 7 (upd (ma 7) ((64 * k) + ((n + 1) % 64)) 0)) 8 (m_cp (ma 8) (16 * ((64 * k) + ((n + 1) % 64))) (16 * ((64 * k) + (n % 64))) 16)) 2 (upd (ma 2) k (((ma 2) k) + 0))) 3 (upd (ma 3) k (((ma 3) k) + 0))) 4 (upd (ma 4) k (((ma 4) k) + 1))) 1 (upd (ma 1) k ((ma 1) k)))) H := hP
        have hD : va_D A (wM y y1 y2 y3 y4 y5 y6 y7 y8 y9 y10 cI (va_up mi 0 0) (va_up (va_up (va_up (va_up (va_up (va_up (va_up ma 0 (upd (ma 0) k (nI (n + 1)))) 7 (upd (ma 7) ((64 * k) + ((n + 1) % 64)) 0)) 8 (m_cp (ma 8) (16 * ((64 * k) + ((n + 1) % 64))) (16 * ((64 * k) + (n % 64))) 16)) 2 (upd (ma 2) k (((ma 2) k) + 0))) 3 (upd (ma 3) k (((ma 3) k) + 0))) 4 (upd (ma 4) k (((ma 4) k) + 1))) 1 (upd (ma 1) k ((ma 1) k)))) := hD
        refine lv_iload_n hx hb dMd_apply_294 rfl (lv_at hl 4 rfl) ?_
        have hP9 : va_P (dC, dI) vwCl (wM y y1 y2 y3 y4 y5 y6 y7 y8 y9 y10 cI (va_up mi 0 0) ((m_ap mi ma k n se b).2)) H := by rw [m_ap_0 hv]; simp only [m_ap_, if_pos c_13]; exact hP
        have hD9 : va_D A (wM y y1 y2 y3 y4 y5 y6 y7 y8 y9 y10 cI (va_up mi 0 0) ((m_ap mi ma k n se b).2)) := by rw [m_ap_0 hv]; simp only [m_ap_, if_pos c_13]; exact hD
        exact W.iret (v := 0) hx hb hr (fun t ht hW => ⟨⟨0, (), rfl, by rw [m_ap_0 hv], by rw [ht]; exact hP9, va_K.moved hW.alike hK, hD9⟩, hS.F ht⟩) hS.2.2 dMd_apply_295
      · skip
        refine lv_iload_n hx hb dMd_apply_278 rfl (lv_at hl 3 rfl) ?_
        refine lv_aload_n hx hb dMd_apply_279 rfl (lv_at hl 5 rfl) ?_
        refine va_get (D := (dC, dI)) (ci := 3) (v := .int (mi 1)) (C := RMd) (T := TMd) (N := 17) hx hb hts inMd hown hK hP 0 rfl rfl 1 (by decide) (hts _ in_86) (fun _ h9 => h9) rfl dMd_apply_280 ?_
        refine lv_isub hx hb dMd_apply_283 ?_
        refine lv_goto (tgt := 293) hx hb dMd_apply_284 (by decide) ?_
        refine vq_iast (k := k) (f := ma 1) hx hb hK hP hD hS 2 0 rfl rfl rfl (by omega) (by decide) dMd_apply_293 (fun H locs hP hD hS => ?_)
        have hP : va_P (dC, dI) vwCl (wM y y1 y2 y3 y4 y5 y6 y7 y8 y9 y10 cI (va_up mi 0 0) (va_up (va_up (va_up (va_up (va_up (va_up (va_up ma 0 (upd (ma 0) k (nI (n + 1)))) 7 (upd (ma 7) ((64 * k) + ((n + 1) % 64)) 0)) 8 (m_cp (ma 8) (16 * ((64 * k) + ((n + 1) % 64))) (16 * ((64 * k) + (n % 64))) 16)) 2 (upd (ma 2) k (((ma 2) k) + 0))) 3 (upd (ma 3) k (((ma 3) k) + 0))) 4 (upd (ma 4) k (((ma 4) k) + 1))) 1 (upd (ma 1) k ((nI (n + 1)) - (mi 1))))) H := hP
        have hD : va_D A (wM y y1 y2 y3 y4 y5 y6 y7 y8 y9 y10 cI (va_up mi 0 0) (va_up (va_up (va_up (va_up (va_up (va_up (va_up ma 0 (upd (ma 0) k (nI (n + 1)))) 7 (upd (ma 7) ((64 * k) + ((n + 1) % 64)) 0)) 8 (m_cp (ma 8) (16 * ((64 * k) + ((n + 1) % 64))) (16 * ((64 * k) + (n % 64))) 16)) 2 (upd (ma 2) k (((ma 2) k) + 0))) 3 (upd (ma 3) k (((ma 3) k) + 0))) 4 (upd (ma 4) k (((ma 4) k) + 1))) 1 (upd (ma 1) k ((nI (n + 1)) - (mi 1))))) := hD
        refine lv_iload_n hx hb dMd_apply_294 rfl (lv_at hl 4 rfl) ?_
        have hP9 : va_P (dC, dI) vwCl (wM y y1 y2 y3 y4 y5 y6 y7 y8 y9 y10 cI (va_up mi 0 0) ((m_ap mi ma k n se b).2)) H := by rw [m_ap_0 hv]; simp only [m_ap_, if_neg c_13]; exact hP
        have hD9 : va_D A (wM y y1 y2 y3 y4 y5 y6 y7 y8 y9 y10 cI (va_up mi 0 0) ((m_ap mi ma k n se b).2)) := by rw [m_ap_0 hv]; simp only [m_ap_, if_neg c_13]; exact hD
        exact W.iret (v := 0) hx hb hr (fun t ht hW => ⟨⟨0, (), rfl, by rw [m_ap_0 hv], by rw [ht]; exact hP9, va_K.moved hW.alike hK, hD9⟩, hS.F ht⟩) hS.2.2 dMd_apply_295
    · skip
      have hj : j < 16 := lp_c (by decide) hj c_8
      refine lv_iload_n hx hb dMd_apply_93 rfl (lv_at hl 4 rfl) ?_
      refine lv_iconst (v := 1) hx hb dMd_apply_94 (by decide) ?_
      refine lv_icmp_ne (tgt := 115) hx hb dMd_apply_95 (by decide) (fun _ => ?_) (fun c_14 => absurd c_14 (by decide))
      refine lv_iconst (v := 0) hx hb dMd_apply_115 (by decide) ?_
      refine lv_istore (lv' := [(7, .int 0), (6, .int (nI j)), (5, .int (nI ((64 * k) + (n % 64)))), (4, .int (nI ((64 * k) + ((n + 1) % 64)))), (3, .int (nI (n + 1))), (2, .int 0), (0, .ref y), (1, .int (nI k))]) hx hb dMd_apply_116 hl (by decide) rfl (fun ls hl => ?_)
      refine lv_aload_n hx hb dMd_apply_118 rfl (lv_at hl 6 rfl) ?_
      refine va_get (D := (dC, dI)) (ci := 3) (v := .ref y9) (C := RMd) (T := TMd) (N := 17) hx hb hts inMd hown hK hP 0 rfl rfl 10 (by decide) (hts _ in_103) (fun _ h9 => h9) rfl dMd_apply_119 ?_
      refine lv_bipush (v := nI 16) hx hb dMd_apply_122 (by decide) ?_
      refine lv_iload hx hb dMd_apply_124 (lv_at hl 3 rfl) ?_
      refine lv_imul hx hb dMd_apply_126 ?_
      refine lv_ri (y := nI (16 * ((64 * k) + ((n + 1) % 64)))) (pk_mul _ _) ?_
      refine lv_iload hx hb dMd_apply_127 (lv_at hl 1 rfl) ?_
      refine lv_iadd hx hb dMd_apply_129 ?_
      refine lv_ri (y := nI ((16 * ((64 * k) + ((n + 1) % 64))) + j)) (nI_add _ _) ?_
      refine lv_iload hx hb dMd_apply_130 (lv_at hl 0 rfl) ?_
      refine lv_if_eq (tgt := 145) hx hb dMd_apply_132 (by decide) (fun _ => ?_) (fun c_15 => absurd c_15 (by decide))
      refine lv_aload_n hx hb dMd_apply_145 rfl (lv_at hl 6 rfl) ?_
      refine va_get (D := (dC, dI)) (ci := 3) (v := .ref y9) (C := RMd) (T := TMd) (N := 17) hx hb hts inMd hown hK hP 0 rfl rfl 10 (by decide) (hts _ in_103) (fun _ h9 => h9) rfl dMd_apply_146 ?_
      refine lv_bipush (v := nI 16) hx hb dMd_apply_149 (by decide) ?_
      refine lv_iload hx hb dMd_apply_151 (lv_at hl 2 rfl) ?_
      refine lv_imul hx hb dMd_apply_153 ?_
      refine lv_ri (y := nI (16 * ((64 * k) + (n % 64)))) (pk_mul _ _) ?_
      refine lv_iload hx hb dMd_apply_154 (lv_at hl 1 rfl) ?_
      refine lv_iadd hx hb dMd_apply_156 ?_
      refine lv_ri (y := nI ((16 * ((64 * k) + (n % 64))) + j)) (nI_add _ _) ?_
      refine vq_iald (k := ((16 * ((64 * k) + (n % 64))) + j)) (f := m_cp (ma 8) (16 * ((64 * k) + ((n + 1) % 64))) (16 * ((64 * k) + (n % 64))) j) hx hb hK hP 9 0 rfl rfl rfl (by omega) (by decide) dMd_apply_157 ?_
      refine vq_iast (k := ((16 * ((64 * k) + ((n + 1) % 64))) + j)) (f := m_cp (ma 8) (16 * ((64 * k) + ((n + 1) % 64))) (16 * ((64 * k) + (n % 64))) j) hx hb hK hP hD hS 9 0 rfl rfl rfl (by omega) (by decide) dMd_apply_158 (fun H locs hP hD hS => ?_)
      have hP : va_P (dC, dI) vwCl (wM y y1 y2 y3 y4 y5 y6 y7 y8 y9 y10 cI (va_up mi 0 0) (va_up (va_up (va_up ma 0 (upd (ma 0) k (nI (n + 1)))) 7 (upd (ma 7) ((64 * k) + ((n + 1) % 64)) 0)) 8 (upd (m_cp (ma 8) (16 * ((64 * k) + ((n + 1) % 64))) (16 * ((64 * k) + (n % 64))) j) ((16 * ((64 * k) + ((n + 1) % 64))) + j) ((m_cp (ma 8) (16 * ((64 * k) + ((n + 1) % 64))) (16 * ((64 * k) + (n % 64))) j) ((16 * ((64 * k) + (n % 64))) + j))))) H := hP
      have hD : va_D A (wM y y1 y2 y3 y4 y5 y6 y7 y8 y9 y10 cI (va_up mi 0 0) (va_up (va_up (va_up ma 0 (upd (ma 0) k (nI (n + 1)))) 7 (upd (ma 7) ((64 * k) + ((n + 1) % 64)) 0)) 8 (upd (m_cp (ma 8) (16 * ((64 * k) + ((n + 1) % 64))) (16 * ((64 * k) + (n % 64))) j) ((16 * ((64 * k) + ((n + 1) % 64))) + j) ((m_cp (ma 8) (16 * ((64 * k) + ((n + 1) % 64))) (16 * ((64 * k) + (n % 64))) j) ((16 * ((64 * k) + (n % 64))) + j))))) := hD
      refine lv_iinc (v := nI (j + 1)) (lv' := [(6, .int (nI (j + 1))), (7, .int 0), (5, .int (nI ((64 * k) + (n % 64)))), (4, .int (nI ((64 * k) + ((n + 1) % 64)))), (3, .int (nI (n + 1))), (2, .int 0), (0, .ref y), (1, .int (nI k))]) hx hb dMd_apply_159 hl (k := 1) rfl (by first | exact nI_1 _ | (show _ + (1 : Int32) = _; exact nI_1 _)) (by decide) rfl (fun ls hl => ?_)
      refine lv_goto (tgt := 86) hx hb dMd_apply_162 (by decide) ?_
      have hl9 : lv_has ls 8 [(6, .int (nI (j + 1))), (5, .int (nI ((64 * k) + (n % 64)))), (4, .int (nI ((64 * k) + ((n + 1) % 64)))), (3, .int (nI (n + 1))), (2, .int 0), (0, .ref y), (1, .int (nI k))] := by first | exact lv_sub hl [0, 2, 3, 4, 5, 6, 7] rfl | (simp only [m_av, m_cp]; exact lv_sub hl [0, 2, 3, 4, 5, 6, 7] rfl)
      have hP9 : va_P (dC, dI) vwCl (wM y y1 y2 y3 y4 y5 y6 y7 y8 y9 y10 cI (va_up mi 0 0) (va_up (va_up (va_up ma 0 (upd (ma 0) k (nI (n + 1)))) 7 (upd (ma 7) ((64 * k) + ((n + 1) % 64)) 0)) 8 (m_cp (ma 8) (16 * ((64 * k) + ((n + 1) % 64))) (16 * ((64 * k) + (n % 64))) (j + 1)))) H := by first | exact hP | (simp only [m_av, m_cp]; exact hP)
      have hD9 : va_D A (wM y y1 y2 y3 y4 y5 y6 y7 y8 y9 y10 cI (va_up mi 0 0) (va_up (va_up (va_up ma 0 (upd (ma 0) k (nI (n + 1)))) 7 (upd (ma 7) ((64 * k) + ((n + 1) % 64)) 0)) 8 (m_cp (ma 8) (16 * ((64 * k) + ((n + 1) % 64))) (16 * ((64 * k) + (n % 64))) (j + 1)))) := by first | exact hD | (simp only [m_av, m_cp]; exact hD)
      exact ih (j + 1, H, locs, ls) ⟨hj, hP9, hD9, hS, hl9⟩ (by show 16 - (j + 1) < 16 - j; omega)
  · skip
    refine lv_ri (y := 1) hv ?_
    refine lv_istore_n (lv' := [(2, .int 1), (0, .ref y), (1, .int (nI k))]) hx hb dMd_apply_15 rfl hl (by decide) rfl (fun ls hl => ?_)
    refine lv_iload_n hx hb dMd_apply_16 rfl (lv_at hl 0 rfl) ?_
    refine lv_if_ge (tgt := 22) hx hb dMd_apply_17 (by decide) (fun _ => ?_) (fun c_16 => absurd c_16 (by decide))
    refine lv_aload_n hx hb dMd_apply_22 rfl (lv_at hl 1 rfl) ?_
    refine va_get (D := (dC, dI)) (ci := 3) (v := .ref y1) (C := RMd) (T := TMd) (N := 17) hx hb hts inMd hown hK hP 0 rfl rfl 2 (by decide) (hts _ in_82) (fun _ h9 => h9) rfl dMd_apply_23 ?_
    refine lv_iload_n hx hb dMd_apply_26 rfl (lv_at hl 2 rfl) ?_
    refine lv_dup2_11 hx hb dMd_apply_27 rfl rfl ?_
    refine vq_iald (k := k) (f := ma 0) hx hb hK hP 1 0 rfl rfl rfl (by omega) (by decide) dMd_apply_28 ?_
    refine lv_ri (y := nI n) hix ?_
    refine lv_iconst (v := 1) hx hb dMd_apply_29 (by decide) ?_
    refine lv_iadd hx hb dMd_apply_30 ?_
    refine lv_ri (y := nI (n + 1)) (nI_1 _) ?_
    refine vq_iast (k := k) (f := ma 0) hx hb hK hP hD hS 1 0 rfl rfl rfl (by omega) (by decide) dMd_apply_31 (fun H locs hP hD hS => ?_)
    have hP : va_P (dC, dI) vwCl (wM y y1 y2 y3 y4 y5 y6 y7 y8 y9 y10 cI (va_up mi 0 0) (va_up ma 0 (upd (ma 0) k (nI (n + 1))))) H := hP
    have hD : va_D A (wM y y1 y2 y3 y4 y5 y6 y7 y8 y9 y10 cI (va_up mi 0 0) (va_up ma 0 (upd (ma 0) k (nI (n + 1))))) := hD
    refine lv_aload_n hx hb dMd_apply_32 rfl (lv_at hl 1 rfl) ?_
    refine va_get (D := (dC, dI)) (ci := 3) (v := .ref y1) (C := RMd) (T := TMd) (N := 17) hx hb hts inMd hown hK hP 0 rfl rfl 2 (by decide) (hts _ in_82) (fun _ h9 => h9) rfl dMd_apply_33 ?_
    refine lv_iload_n hx hb dMd_apply_36 rfl (lv_at hl 2 rfl) ?_
    refine vq_iald (k := k) (f := upd (ma 0) k (nI (n + 1))) hx hb hK hP 1 0 rfl rfl rfl (by omega) (by decide) dMd_apply_37 ?_
    refine lv_ri (y := nI (n + 1)) pk_us ?_
    refine lv_istore_n (lv' := [(3, .int (nI (n + 1))), (2, .int 1), (0, .ref y), (1, .int (nI k))]) hx hb dMd_apply_38 rfl hl (by decide) rfl (fun ls hl => ?_)
    refine lv_bipush (v := nI 64) hx hb dMd_apply_39 (by decide) ?_
    refine lv_iload_n hx hb dMd_apply_41 rfl (lv_at hl 3 rfl) ?_
    refine lv_imul hx hb dMd_apply_42 ?_
    refine lv_ri (y := nI (64 * k)) (pk_mul _ _) ?_
    refine lv_iload_n hx hb dMd_apply_43 rfl (lv_at hl 0 rfl) ?_
    refine lv_bipush (v := nI 64) hx hb dMd_apply_44 (by decide) ?_
    refine lv_irem hx hb dMd_apply_46 (by decide) ?_
    refine lv_ri (y := nI ((n + 1) % 64)) (pk_rem (by omega) (by decide) (by decide)) ?_
    refine lv_iadd hx hb dMd_apply_47 ?_
    refine lv_ri (y := nI ((64 * k) + ((n + 1) % 64))) (nI_add _ _) ?_
    refine lv_istore (lv' := [(4, .int (nI ((64 * k) + ((n + 1) % 64)))), (3, .int (nI (n + 1))), (2, .int 1), (0, .ref y), (1, .int (nI k))]) hx hb dMd_apply_48 hl (by decide) rfl (fun ls hl => ?_)
    refine lv_bipush (v := nI 64) hx hb dMd_apply_50 (by decide) ?_
    refine lv_iload_n hx hb dMd_apply_52 rfl (lv_at hl 4 rfl) ?_
    refine lv_imul hx hb dMd_apply_53 ?_
    refine lv_ri (y := nI (64 * k)) (pk_mul _ _) ?_
    refine lv_iload_n hx hb dMd_apply_54 rfl (lv_at hl 1 rfl) ?_
    refine lv_iconst (v := 1) hx hb dMd_apply_55 (by decide) ?_
    refine lv_isub hx hb dMd_apply_56 ?_
    refine lv_ri (y := nI n) (nI_pred n) ?_
    refine lv_bipush (v := nI 64) hx hb dMd_apply_57 (by decide) ?_
    refine lv_irem hx hb dMd_apply_59 (by decide) ?_
    refine lv_ri (y := nI (n % 64)) (pk_rem (by omega) (by decide) (by decide)) ?_
    refine lv_iadd hx hb dMd_apply_60 ?_
    refine lv_ri (y := nI ((64 * k) + (n % 64))) (nI_add _ _) ?_
    refine lv_istore (lv' := [(5, .int (nI ((64 * k) + (n % 64)))), (4, .int (nI ((64 * k) + ((n + 1) % 64)))), (3, .int (nI (n + 1))), (2, .int 1), (0, .ref y), (1, .int (nI k))]) hx hb dMd_apply_61 hl (by decide) rfl (fun ls hl => ?_)
    refine lv_aload_n hx hb dMd_apply_63 rfl (lv_at hl 4 rfl) ?_
    refine va_get (D := (dC, dI)) (ci := 3) (v := .ref y8) (C := RMd) (T := TMd) (N := 17) hx hb hts inMd hown hK hP 0 rfl rfl 9 (by decide) (hts _ in_83) (fun _ h9 => h9) rfl dMd_apply_64 ?_
    refine lv_iload hx hb dMd_apply_67 (lv_at hl 1 rfl) ?_
    refine lv_iload_n hx hb dMd_apply_69 rfl (lv_at hl 3 rfl) ?_
    refine lv_iconst (v := 1) hx hb dMd_apply_70 (by decide) ?_
    refine lv_icmp_ne (tgt := 81) hx hb dMd_apply_71 (by decide) (fun c_17 => absurd c_17 (by decide)) (fun _ => ?_)
    refine lv_aload_n hx hb dMd_apply_74 rfl (lv_at hl 4 rfl) ?_
    refine va_get (D := (dC, dI)) (ci := 3) (v := .int (mi 6)) (C := RMd) (T := TMd) (N := 17) hx hb hts inMd hown hK hP 0 rfl rfl 15 (by decide) (hts _ in_80) (fun _ h9 => h9) rfl dMd_apply_75 ?_
    refine lv_goto (tgt := 82) hx hb dMd_apply_78 (by decide) ?_
    refine vq_iast (k := ((64 * k) + ((n + 1) % 64))) (f := ma 7) hx hb hK hP hD hS 8 0 rfl rfl rfl (by omega) (by decide) dMd_apply_82 (fun H locs hP hD hS => ?_)
    have hP : va_P (dC, dI) vwCl (wM y y1 y2 y3 y4 y5 y6 y7 y8 y9 y10 cI (va_up mi 0 0) (va_up (va_up ma 0 (upd (ma 0) k (nI (n + 1)))) 7 (upd (ma 7) ((64 * k) + ((n + 1) % 64)) (mi 6)))) H := hP
    have hD : va_D A (wM y y1 y2 y3 y4 y5 y6 y7 y8 y9 y10 cI (va_up mi 0 0) (va_up (va_up ma 0 (upd (ma 0) k (nI (n + 1)))) 7 (upd (ma 7) ((64 * k) + ((n + 1) % 64)) (mi 6)))) := hD
    refine lv_iconst (v := 0) hx hb dMd_apply_83 (by decide) ?_
    refine lv_istore (lv' := [(6, .int 0), (5, .int (nI ((64 * k) + (n % 64)))), (4, .int (nI ((64 * k) + ((n + 1) % 64)))), (3, .int (nI (n + 1))), (2, .int 1), (0, .ref y), (1, .int (nI k))]) hx hb dMd_apply_84 hl (by decide) rfl (fun ls hl => ?_)
    refine wl_rw (σ := Nat × Heap × List Loc × Array Slot) (fun z9 => (z9.2.1, z9.2.2.1, F0 m 86 z9.2.2.2 [])) (fun z9 => z9.1 ≤ 16 ∧ va_P (dC, dI) vwCl (wM y y1 y2 y3 y4 y5 y6 y7 y8 y9 y10 cI (va_up mi 0 0) (va_up (va_up (va_up ma 0 (upd (ma 0) k (nI (n + 1)))) 7 (upd (ma 7) ((64 * k) + ((n + 1) % 64)) (mi 6))) 8 (m_av (mi 6) (ma 9) ((64 * k) + ((n + 1) % 64)) ((64 * k) + (n % 64)) (ma 8) z9.1))) z9.2.1 ∧ va_D A (wM y y1 y2 y3 y4 y5 y6 y7 y8 y9 y10 cI (va_up mi 0 0) (va_up (va_up (va_up ma 0 (upd (ma 0) k (nI (n + 1)))) 7 (upd (ma 7) ((64 * k) + ((n + 1) % 64)) (mi 6))) 8 (m_av (mi 6) (ma 9) ((64 * k) + ((n + 1) % 64)) ((64 * k) + (n % 64)) (ma 8) z9.1))) ∧ va_S A s.heap z9.2.1 z9.2.2.1 ∧ lv_has z9.2.2.2 8 [(6, .int (nI z9.1)), (5, .int (nI ((64 * k) + (n % 64)))), (4, .int (nI ((64 * k) + ((n + 1) % 64)))), (3, .int (nI (n + 1))), (2, .int 1), (0, .ref y), (1, .int (nI k))]) (fun z9 => 16 - z9.1) ?_ (0, H, locs, ls) ⟨by omega, hP, hD, hS, lv_sub hl [0, 1, 2, 3, 4, 5, 6] rfl⟩
    rintro ⟨j, H, locs, ls⟩ ⟨hj, hP, hD, hS, hl⟩ ih
    have hj : j ≤ 16 := hj
    have hP : va_P (dC, dI) vwCl (wM y y1 y2 y3 y4 y5 y6 y7 y8 y9 y10 cI (va_up mi 0 0) (va_up (va_up (va_up ma 0 (upd (ma 0) k (nI (n + 1)))) 7 (upd (ma 7) ((64 * k) + ((n + 1) % 64)) (mi 6))) 8 (m_av (mi 6) (ma 9) ((64 * k) + ((n + 1) % 64)) ((64 * k) + (n % 64)) (ma 8) j))) H := hP
    have hD : va_D A (wM y y1 y2 y3 y4 y5 y6 y7 y8 y9 y10 cI (va_up mi 0 0) (va_up (va_up (va_up ma 0 (upd (ma 0) k (nI (n + 1)))) 7 (upd (ma 7) ((64 * k) + ((n + 1) % 64)) (mi 6))) 8 (m_av (mi 6) (ma 9) ((64 * k) + ((n + 1) % 64)) ((64 * k) + (n % 64)) (ma 8) j))) := hD
    have hS : va_S A s.heap H locs := hS
    have hl : lv_has ls 8 [(6, .int (nI j)), (5, .int (nI ((64 * k) + (n % 64)))), (4, .int (nI ((64 * k) + ((n + 1) % 64)))), (3, .int (nI (n + 1))), (2, .int 1), (0, .ref y), (1, .int (nI k))] := hl
    show W p l e _ s m _ below meth c H locs _ _ _ (F0 m 86 ls [])
    refine lv_iload hx hb dMd_apply_86 (lv_at hl 0 rfl) ?_
    refine lv_bipush (v := nI 16) hx hb dMd_apply_88 (by decide) ?_
    refine lv_icmp_ge (tgt := 165) hx hb dMd_apply_90 (by decide) (fun c_18 => ?_) (fun c_18 => ?_)
    · skip
      have hj9 : j = 16 := lp_x (by decide) hj c_18
      subst hj9
      refine lv_iload_n hx hb dMd_apply_165 rfl (lv_at hl 4 rfl) ?_
      refine lv_if_le (tgt := 202) hx hb dMd_apply_166 (by decide) (fun c_19 => absurd c_19 (by decide)) (fun _ => ?_)
      refine lv_aload_n hx hb dMd_apply_169 rfl (lv_at hl 5 rfl) ?_
      refine va_get (D := (dC, dI)) (ci := 3) (v := .ref y6) (C := RMd) (T := TMd) (N := 17) hx hb hts inMd hown hK hP 0 rfl rfl 7 (by decide) (hts _ in_85) (fun _ h9 => h9) rfl dMd_apply_170 ?_
      refine lv_bipush (v := nI 16) hx hb dMd_apply_173 (by decide) ?_
      refine lv_iload_n hx hb dMd_apply_175 rfl (lv_at hl 6 rfl) ?_
      refine lv_imul hx hb dMd_apply_176 ?_
      refine lv_ri (y := nI (16 * k)) (pk_mul _ _) ?_
      refine lv_aload_n hx hb dMd_apply_177 rfl (lv_at hl 5 rfl) ?_
      refine va_get (D := (dC, dI)) (ci := 3) (v := .int (mi 2)) (C := RMd) (T := TMd) (N := 17) hx hb hts inMd hown hK hP 0 rfl rfl 11 (by decide) (hts _ in_76) (fun _ h9 => h9) rfl dMd_apply_178 ?_
      refine lv_ri (y := nI se) hse ?_
      refine lv_iadd hx hb dMd_apply_181 ?_
      refine lv_ri (y := nI ((16 * k) + se)) (nI_add _ _) ?_
      refine lv_aload_n hx hb dMd_apply_182 rfl (lv_at hl 5 rfl) ?_
      refine va_get (D := (dC, dI)) (ci := 3) (v := .int (mi 3)) (C := RMd) (T := TMd) (N := 17) hx hb hts inMd hown hK hP 0 rfl rfl 12 (by decide) (hts _ in_77) (fun _ h9 => h9) rfl dMd_apply_183 ?_
      refine vq_iast (k := ((16 * k) + se)) (f := ma 5) hx hb hK hP hD hS 6 0 rfl rfl rfl (by omega) (by decide) dMd_apply_186 (fun H locs hP hD hS => ?_)
      have hP : va_P (dC, dI) vwCl (wM y y1 y2 y3 y4 y5 y6 y7 y8 y9 y10 cI (va_up mi 0 0) (va_up (va_up (va_up (va_up ma 0 (upd (ma 0) k (nI (n + 1)))) 7 (upd (ma 7) ((64 * k) + ((n + 1) % 64)) (mi 6))) 8 (m_av (mi 6) (ma 9) ((64 * k) + ((n + 1) % 64)) ((64 * k) + (n % 64)) (ma 8) 16)) 5 (upd (ma 5) ((16 * k) + se) (mi 3)))) H := hP
      have hD : va_D A (wM y y1 y2 y3 y4 y5 y6 y7 y8 y9 y10 cI (va_up mi 0 0) (va_up (va_up (va_up (va_up ma 0 (upd (ma 0) k (nI (n + 1)))) 7 (upd (ma 7) ((64 * k) + ((n + 1) % 64)) (mi 6))) 8 (m_av (mi 6) (ma 9) ((64 * k) + ((n + 1) % 64)) ((64 * k) + (n % 64)) (ma 8) 16)) 5 (upd (ma 5) ((16 * k) + se) (mi 3)))) := hD
      refine lv_aload_n hx hb dMd_apply_187 rfl (lv_at hl 5 rfl) ?_
      refine va_get (D := (dC, dI)) (ci := 3) (v := .ref y7) (C := RMd) (T := TMd) (N := 17) hx hb hts inMd hown hK hP 0 rfl rfl 8 (by decide) (hts _ in_104) (fun _ h9 => h9) rfl dMd_apply_188 ?_
      refine lv_bipush (v := nI 16) hx hb dMd_apply_191 (by decide) ?_
      refine lv_iload_n hx hb dMd_apply_193 rfl (lv_at hl 6 rfl) ?_
      refine lv_imul hx hb dMd_apply_194 ?_
      refine lv_ri (y := nI (16 * k)) (pk_mul _ _) ?_
      refine lv_aload_n hx hb dMd_apply_195 rfl (lv_at hl 5 rfl) ?_
      refine va_get (D := (dC, dI)) (ci := 3) (v := .int (mi 2)) (C := RMd) (T := TMd) (N := 17) hx hb hts inMd hown hK hP 0 rfl rfl 11 (by decide) (hts _ in_76) (fun _ h9 => h9) rfl dMd_apply_196 ?_
      refine lv_ri (y := nI se) hse ?_
      refine lv_iadd hx hb dMd_apply_199 ?_
      refine lv_ri (y := nI ((16 * k) + se)) (nI_add _ _) ?_
      refine lv_iload_n hx hb dMd_apply_200 rfl (lv_at hl 4 rfl) ?_
      refine vq_iast (k := ((16 * k) + se)) (f := ma 6) hx hb hK hP hD hS 7 0 rfl rfl rfl (by omega) (by decide) dMd_apply_201 (fun H locs hP hD hS => ?_)
      have hP : va_P (dC, dI) vwCl (wM y y1 y2 y3 y4 y5 y6 y7 y8 y9 y10 cI (va_up mi 0 0) (va_up (va_up (va_up (va_up (va_up ma 0 (upd (ma 0) k (nI (n + 1)))) 7 (upd (ma 7) ((64 * k) + ((n + 1) % 64)) (mi 6))) 8 (m_av (mi 6) (ma 9) ((64 * k) + ((n + 1) % 64)) ((64 * k) + (n % 64)) (ma 8) 16)) 5 (upd (ma 5) ((16 * k) + se) (mi 3))) 6 (upd (ma 6) ((16 * k) + se) 1))) H := hP
      have hD : va_D A (wM y y1 y2 y3 y4 y5 y6 y7 y8 y9 y10 cI (va_up mi 0 0) (va_up (va_up (va_up (va_up (va_up ma 0 (upd (ma 0) k (nI (n + 1)))) 7 (upd (ma 7) ((64 * k) + ((n + 1) % 64)) (mi 6))) 8 (m_av (mi 6) (ma 9) ((64 * k) + ((n + 1) % 64)) ((64 * k) + (n % 64)) (ma 8) 16)) 5 (upd (ma 5) ((16 * k) + se) (mi 3))) 6 (upd (ma 6) ((16 * k) + se) 1))) := hD
      refine lv_aload_n hx hb dMd_apply_202 rfl (lv_at hl 5 rfl) ?_
      refine va_get (D := (dC, dI)) (ci := 3) (v := .ref y3) (C := RMd) (T := TMd) (N := 17) hx hb hts inMd hown hK hP 0 rfl rfl 4 (by decide) (hts _ in_99) (fun _ h9 => h9) rfl dMd_apply_203 ?_
      refine lv_iload_n hx hb dMd_apply_206 rfl (lv_at hl 6 rfl) ?_
      refine lv_dup2_11 hx hb dMd_apply_207 rfl rfl ?_
      refine vq_iald (k := k) (f := ma 2) hx hb hK hP 3 0 rfl rfl rfl (by omega) (by decide) dMd_apply_208 ?_
      refine lv_iload_n hx hb dMd_apply_209 rfl (lv_at hl 4 rfl) ?_
      refine lv_iconst (v := 1) hx hb dMd_apply_210 (by decide) ?_
      refine lv_icmp_ne (tgt := 218) hx hb dMd_apply_211 (by decide) (fun c_20 => absurd c_20 (by decide)) (fun _ => ?_)
      refine lv_iconst (v := 1) hx hb dMd_apply_214 (by decide) ?_
      refine lv_goto (tgt := 219) hx hb dMd_apply_215 (by decide) ?_
      refine lv_iadd hx hb dMd_apply_219 ?_
      refine vq_iast (k := k) (f := ma 2) hx hb hK hP hD hS 3 0 rfl rfl rfl (by omega) (by decide) dMd_apply_220 (fun H locs hP hD hS => ?_)
      have hP : va_P (dC, dI) vwCl (wM y y1 y2 y3 y4 y5 y6 y7 y8 y9 y10 cI (va_up mi 0 0) (va_up (va_up (va_up (va_up (va_up (va_up ma 0 (upd (ma 0) k (nI (n + 1)))) 7 (upd (ma 7) ((64 * k) + ((n + 1) % 64)) (mi 6))) 8 (m_av (mi 6) (ma 9) ((64 * k) + ((n + 1) % 64)) ((64 * k) + (n % 64)) (ma 8) 16)) 5 (upd (ma 5) ((16 * k) + se) (mi 3))) 6 (upd (ma 6) ((16 * k) + se) 1)) 2 (upd (ma 2) k (((ma 2) k) + 1)))) H := hP
      have hD : va_D A (wM y y1 y2 y3 y4 y5 y6 y7 y8 y9 y10 cI (va_up mi 0 0) (va_up (va_up (va_up (va_up (va_up (va_up ma 0 (upd (ma 0) k (nI (n + 1)))) 7 (upd (ma 7) ((64 * k) + ((n + 1) % 64)) (mi 6))) 8 (m_av (mi 6) (ma 9) ((64 * k) + ((n + 1) % 64)) ((64 * k) + (n % 64)) (ma 8) 16)) 5 (upd (ma 5) ((16 * k) + se) (mi 3))) 6 (upd (ma 6) ((16 * k) + se) 1)) 2 (upd (ma 2) k (((ma 2) k) + 1)))) := hD
      refine lv_aload_n hx hb dMd_apply_221 rfl (lv_at hl 5 rfl) ?_
      refine va_get (D := (dC, dI)) (ci := 3) (v := .ref y4) (C := RMd) (T := TMd) (N := 17) hx hb hts inMd hown hK hP 0 rfl rfl 5 (by decide) (hts _ in_100) (fun _ h9 => h9) rfl dMd_apply_222 ?_
      refine lv_iload_n hx hb dMd_apply_225 rfl (lv_at hl 6 rfl) ?_
      refine lv_dup2_11 hx hb dMd_apply_226 rfl rfl ?_
      refine vq_iald (k := k) (f := ma 3) hx hb hK hP 4 0 rfl rfl rfl (by omega) (by decide) dMd_apply_227 ?_
      refine lv_iload_n hx hb dMd_apply_228 rfl (lv_at hl 4 rfl) ?_
      refine lv_iconst (v := 2) hx hb dMd_apply_229 (by decide) ?_
      refine lv_icmp_ne (tgt := 237) hx hb dMd_apply_230 (by decide) (fun _ => ?_) (fun c_21 => absurd c_21 (by decide))
      refine lv_iconst (v := 0) hx hb dMd_apply_237 (by decide) ?_
      refine lv_iadd hx hb dMd_apply_238 ?_
      refine vq_iast (k := k) (f := ma 3) hx hb hK hP hD hS 4 0 rfl rfl rfl (by omega) (by decide) dMd_apply_239 (fun H locs hP hD hS => ?_)
      have hP : va_P (dC, dI) vwCl (wM y y1 y2 y3 y4 y5 y6 y7 y8 y9 y10 cI (va_up mi 0 0) (va_up (va_up (va_up (va_up (va_up (va_up (va_up ma 0 (upd (ma 0) k (nI (n + 1)))) 7 (upd (ma 7) ((64 * k) + ((n + 1) % 64)) (mi 6))) 8 (m_av (mi 6) (ma 9) ((64 * k) + ((n + 1) % 64)) ((64 * k) + (n % 64)) (ma 8) 16)) 5 (upd (ma 5) ((16 * k) + se) (mi 3))) 6 (upd (ma 6) ((16 * k) + se) 1)) 2 (upd (ma 2) k (((ma 2) k) + 1))) 3 (upd (ma 3) k (((ma 3) k) + 0)))) H := hP
      have hD : va_D A (wM y y1 y2 y3 y4 y5 y6 y7 y8 y9 y10 cI (va_up mi 0 0) (va_up (va_up (va_up (va_up (va_up (va_up (va_up ma 0 (upd (ma 0) k (nI (n + 1)))) 7 (upd (ma 7) ((64 * k) + ((n + 1) % 64)) (mi 6))) 8 (m_av (mi 6) (ma 9) ((64 * k) + ((n + 1) % 64)) ((64 * k) + (n % 64)) (ma 8) 16)) 5 (upd (ma 5) ((16 * k) + se) (mi 3))) 6 (upd (ma 6) ((16 * k) + se) 1)) 2 (upd (ma 2) k (((ma 2) k) + 1))) 3 (upd (ma 3) k (((ma 3) k) + 0)))) := hD
      refine lv_aload_n hx hb dMd_apply_240 rfl (lv_at hl 5 rfl) ?_
      refine va_get (D := (dC, dI)) (ci := 3) (v := .ref y5) (C := RMd) (T := TMd) (N := 17) hx hb hts inMd hown hK hP 0 rfl rfl 6 (by decide) (hts _ in_101) (fun _ h9 => h9) rfl dMd_apply_241 ?_
      refine lv_iload_n hx hb dMd_apply_244 rfl (lv_at hl 6 rfl) ?_
      refine lv_dup2_11 hx hb dMd_apply_245 rfl rfl ?_
      refine vq_iald (k := k) (f := ma 4) hx hb hK hP 5 0 rfl rfl rfl (by omega) (by decide) dMd_apply_246 ?_
      refine lv_iload_n hx hb dMd_apply_247 rfl (lv_at hl 4 rfl) ?_
      refine lv_if_ne (tgt := 255) hx hb dMd_apply_248 (by decide) (fun _ => ?_) (fun c_22 => absurd c_22 (by decide))
      refine lv_iconst (v := 0) hx hb dMd_apply_255 (by decide) ?_
      refine lv_iadd hx hb dMd_apply_256 ?_
      refine vq_iast (k := k) (f := ma 4) hx hb hK hP hD hS 5 0 rfl rfl rfl (by omega) (by decide) dMd_apply_257 (fun H locs hP hD hS => ?_)
      have hP : va_P (dC, dI) vwCl (wM y y1 y2 y3 y4 y5 y6 y7 y8 y9 y10 cI (va_up mi 0 0) (va_up (va_up (va_up (va_up (va_up (va_up (va_up (va_up ma 0 (upd (ma 0) k (nI (n + 1)))) 7 (upd (ma 7) ((64 * k) + ((n + 1) % 64)) (mi 6))) 8 (m_av (mi 6) (ma 9) ((64 * k) + ((n + 1) % 64)) ((64 * k) + (n % 64)) (ma 8) 16)) 5 (upd (ma 5) ((16 * k) + se) (mi 3))) 6 (upd (ma 6) ((16 * k) + se) 1)) 2 (upd (ma 2) k (((ma 2) k) + 1))) 3 (upd (ma 3) k (((ma 3) k) + 0))) 4 (upd (ma 4) k (((ma 4) k) + 0)))) H := hP
      have hD : va_D A (wM y y1 y2 y3 y4 y5 y6 y7 y8 y9 y10 cI (va_up mi 0 0) (va_up (va_up (va_up (va_up (va_up (va_up (va_up (va_up ma 0 (upd (ma 0) k (nI (n + 1)))) 7 (upd (ma 7) ((64 * k) + ((n + 1) % 64)) (mi 6))) 8 (m_av (mi 6) (ma 9) ((64 * k) + ((n + 1) % 64)) ((64 * k) + (n % 64)) (ma 8) 16)) 5 (upd (ma 5) ((16 * k) + se) (mi 3))) 6 (upd (ma 6) ((16 * k) + se) 1)) 2 (upd (ma 2) k (((ma 2) k) + 1))) 3 (upd (ma 3) k (((ma 3) k) + 0))) 4 (upd (ma 4) k (((ma 4) k) + 0)))) := hD
      refine lv_aload_n hx hb dMd_apply_258 rfl (lv_at hl 5 rfl) ?_
      refine va_get (D := (dC, dI)) (ci := 3) (v := .ref y2) (C := RMd) (T := TMd) (N := 17) hx hb hts inMd hown hK hP 0 rfl rfl 3 (by decide) (hts _ in_102) (fun _ h9 => h9) rfl dMd_apply_259 ?_
      refine lv_iload_n hx hb dMd_apply_262 rfl (lv_at hl 6 rfl) ?_
      refine lv_aload_n hx hb dMd_apply_263 rfl (lv_at hl 5 rfl) ?_
      refine va_get (D := (dC, dI)) (ci := 3) (v := .ref y2) (C := RMd) (T := TMd) (N := 17) hx hb hts inMd hown hK hP 0 rfl rfl 3 (by decide) (hts _ in_102) (fun _ h9 => h9) rfl dMd_apply_264 ?_
      refine lv_iload_n hx hb dMd_apply_267 rfl (lv_at hl 6 rfl) ?_
      refine vq_iald (k := k) (f := ma 1) hx hb hK hP 2 0 rfl rfl rfl (by omega) (by decide) dMd_apply_268 ?_
      refine lv_iload_n hx hb dMd_apply_269 rfl (lv_at hl 3 rfl) ?_
      refine lv_aload_n hx hb dMd_apply_270 rfl (lv_at hl 5 rfl) ?_
      refine va_get (D := (dC, dI)) (ci := 3) (v := .int (mi 1)) (C := RMd) (T := TMd) (N := 17) hx hb hts inMd hown hK hP 0 rfl rfl 1 (by decide) (hts _ in_86) (fun _ h9 => h9) rfl dMd_apply_271 ?_
      refine lv_isub hx hb dMd_apply_274 ?_
      refine lv_icmp_ge (tgt := 287) hx hb dMd_apply_275 (by decide) (fun c_23 => ?_) (fun c_23 => ?_)
      · skip
        refine lv_aload_n hx hb dMd_apply_287 rfl (lv_at hl 5 rfl) ?_
        refine va_get (D := (dC, dI)) (ci := 3) (v := .ref y2) (C := RMd) (T := TMd) (N := 17) hx hb hts inMd hown hK hP 0 rfl rfl 3 (by decide) (hts _ in_102) (fun _ h9 => h9) rfl dMd_apply_288 ?_
        refine lv_iload_n hx hb dMd_apply_291 rfl (lv_at hl 6 rfl) ?_
        refine vq_iald (k := k) (f := ma 1) hx hb hK hP 2 0 rfl rfl rfl (by omega) (by decide) dMd_apply_292 ?_
        refine vq_iast (k := k) (f := ma 1) hx hb hK hP hD hS 2 0 rfl rfl rfl (by omega) (by decide) dMd_apply_293 (fun H locs hP hD hS => ?_)
        have hP : va_P (dC, dI) vwCl (wM y y1 y2 y3 y4 y5 y6 y7 y8 y9 y10 cI (va_up mi 0 0) (va_up (va_up (va_up (va_up (va_up (va_up (va_up (va_up (va_up ma 0 (upd (ma 0) k (nI (n + 1)))) 7 (upd (ma 7) ((64 * k) + ((n + 1) % 64)) (mi 6))) 8 (m_av (mi 6) (ma 9) ((64 * k) + ((n + 1) % 64)) ((64 * k) + (n % 64)) (ma 8) 16)) 5 (upd (ma 5) ((16 * k) + se) (mi 3))) 6 (upd (ma 6) ((16 * k) + se) 1)) 2 (upd (ma 2) k (((ma 2) k) + 1))) 3 (upd (ma 3) k (((ma 3) k) + 0))) 4 (upd (ma 4) k (((ma 4) k) + 0))) 1 (upd (ma 1) k ((ma 1) k)))) H := hP
        have hD : va_D A (wM y y1 y2 y3 y4 y5 y6 y7 y8 y9 y10 cI (va_up mi 0 0) (va_up (va_up (va_up (va_up (va_up (va_up (va_up (va_up (va_up ma 0 (upd (ma 0) k (nI (n + 1)))) 7 (upd (ma 7) ((64 * k) + ((n + 1) % 64)) (mi 6))) 8 (m_av (mi 6) (ma 9) ((64 * k) + ((n + 1) % 64)) ((64 * k) + (n % 64)) (ma 8) 16)) 5 (upd (ma 5) ((16 * k) + se) (mi 3))) 6 (upd (ma 6) ((16 * k) + se) 1)) 2 (upd (ma 2) k (((ma 2) k) + 1))) 3 (upd (ma 3) k (((ma 3) k) + 0))) 4 (upd (ma 4) k (((ma 4) k) + 0))) 1 (upd (ma 1) k ((ma 1) k)))) := hD
        refine lv_iload_n hx hb dMd_apply_294 rfl (lv_at hl 4 rfl) ?_
        have hP9 : va_P (dC, dI) vwCl (wM y y1 y2 y3 y4 y5 y6 y7 y8 y9 y10 cI (va_up mi 0 0) ((m_ap mi ma k n se b).2)) H := by rw [m_ap_1 hv]; simp only [m_ap_, if_pos c_23]; exact hP
        have hD9 : va_D A (wM y y1 y2 y3 y4 y5 y6 y7 y8 y9 y10 cI (va_up mi 0 0) ((m_ap mi ma k n se b).2)) := by rw [m_ap_1 hv]; simp only [m_ap_, if_pos c_23]; exact hD
        exact W.iret (v := 1) hx hb hr (fun t ht hW => ⟨⟨1, (), rfl, by rw [m_ap_1 hv], by rw [ht]; exact hP9, va_K.moved hW.alike hK, hD9⟩, hS.F ht⟩) hS.2.2 dMd_apply_295
      · skip
        refine lv_iload_n hx hb dMd_apply_278 rfl (lv_at hl 3 rfl) ?_
        refine lv_aload_n hx hb dMd_apply_279 rfl (lv_at hl 5 rfl) ?_
        refine va_get (D := (dC, dI)) (ci := 3) (v := .int (mi 1)) (C := RMd) (T := TMd) (N := 17) hx hb hts inMd hown hK hP 0 rfl rfl 1 (by decide) (hts _ in_86) (fun _ h9 => h9) rfl dMd_apply_280 ?_
        refine lv_isub hx hb dMd_apply_283 ?_
        refine lv_goto (tgt := 293) hx hb dMd_apply_284 (by decide) ?_
        refine vq_iast (k := k) (f := ma 1) hx hb hK hP hD hS 2 0 rfl rfl rfl (by omega) (by decide) dMd_apply_293 (fun H locs hP hD hS => ?_)
        have hP : va_P (dC, dI) vwCl (wM y y1 y2 y3 y4 y5 y6 y7 y8 y9 y10 cI (va_up mi 0 0) (va_up (va_up (va_up (va_up (va_up (va_up (va_up (va_up (va_up ma 0 (upd (ma 0) k (nI (n + 1)))) 7 (upd (ma 7) ((64 * k) + ((n + 1) % 64)) (mi 6))) 8 (m_av (mi 6) (ma 9) ((64 * k) + ((n + 1) % 64)) ((64 * k) + (n % 64)) (ma 8) 16)) 5 (upd (ma 5) ((16 * k) + se) (mi 3))) 6 (upd (ma 6) ((16 * k) + se) 1)) 2 (upd (ma 2) k (((ma 2) k) + 1))) 3 (upd (ma 3) k (((ma 3) k) + 0))) 4 (upd (ma 4) k (((ma 4) k) + 0))) 1 (upd (ma 1) k ((nI (n + 1)) - (mi 1))))) H := hP
        have hD : va_D A (wM y y1 y2 y3 y4 y5 y6 y7 y8 y9 y10 cI (va_up mi 0 0) (va_up (va_up (va_up (va_up (va_up (va_up (va_up (va_up (va_up ma 0 (upd (ma 0) k (nI (n + 1)))) 7 (upd (ma 7) ((64 * k) + ((n + 1) % 64)) (mi 6))) 8 (m_av (mi 6) (ma 9) ((64 * k) + ((n + 1) % 64)) ((64 * k) + (n % 64)) (ma 8) 16)) 5 (upd (ma 5) ((16 * k) + se) (mi 3))) 6 (upd (ma 6) ((16 * k) + se) 1)) 2 (upd (ma 2) k (((ma 2) k) + 1))) 3 (upd (ma 3) k (((ma 3) k) + 0))) 4 (upd (ma 4) k (((ma 4) k) + 0))) 1 (upd (ma 1) k ((nI (n + 1)) - (mi 1))))) := hD
        refine lv_iload_n hx hb dMd_apply_294 rfl (lv_at hl 4 rfl) ?_
        have hP9 : va_P (dC, dI) vwCl (wM y y1 y2 y3 y4 y5 y6 y7 y8 y9 y10 cI (va_up mi 0 0) ((m_ap mi ma k n se b).2)) H := by rw [m_ap_1 hv]; simp only [m_ap_, if_neg c_23]; exact hP
        have hD9 : va_D A (wM y y1 y2 y3 y4 y5 y6 y7 y8 y9 y10 cI (va_up mi 0 0) ((m_ap mi ma k n se b).2)) := by rw [m_ap_1 hv]; simp only [m_ap_, if_neg c_23]; exact hD
        exact W.iret (v := 1) hx hb hr (fun t ht hW => ⟨⟨1, (), rfl, by rw [m_ap_1 hv], by rw [ht]; exact hP9, va_K.moved hW.alike hK, hD9⟩, hS.F ht⟩) hS.2.2 dMd_apply_295
    · skip
      have hj : j < 16 := lp_c (by decide) hj c_18
      refine lv_iload_n hx hb dMd_apply_93 rfl (lv_at hl 4 rfl) ?_
      refine lv_iconst (v := 1) hx hb dMd_apply_94 (by decide) ?_
      refine lv_icmp_ne (tgt := 115) hx hb dMd_apply_95 (by decide) (fun c_24 => absurd c_24 (by decide)) (fun _ => ?_)
      refine lv_aload_n hx hb dMd_apply_98 rfl (lv_at hl 5 rfl) ?_
      refine va_get (D := (dC, dI)) (ci := 3) (v := .int (mi 6)) (C := RMd) (T := TMd) (N := 17) hx hb hts inMd hown hK hP 0 rfl rfl 15 (by decide) (hts _ in_80) (fun _ h9 => h9) rfl dMd_apply_99 ?_
      refine lv_iload hx hb dMd_apply_102 (lv_at hl 0 rfl) ?_
      refine lv_ishr hx hb dMd_apply_104 ?_
      refine lv_iconst (v := 1) hx hb dMd_apply_105 (by decide) ?_
      refine lv_iand hx hb dMd_apply_106 ?_
      refine lv_iconst (v := 1) hx hb dMd_apply_107 (by decide) ?_
      refine lv_icmp_ne (tgt := 115) hx hb dMd_apply_108 (by decide) (fun c_25 => ?_) (fun c_25 => ?_)
      · skip
        refine lv_iconst (v := 0) hx hb dMd_apply_115 (by decide) ?_
        refine lv_istore (lv' := [(7, .int 0), (6, .int (nI j)), (5, .int (nI ((64 * k) + (n % 64)))), (4, .int (nI ((64 * k) + ((n + 1) % 64)))), (3, .int (nI (n + 1))), (2, .int 1), (0, .ref y), (1, .int (nI k))]) hx hb dMd_apply_116 hl (by decide) rfl (fun ls hl => ?_)
        refine lv_aload_n hx hb dMd_apply_118 rfl (lv_at hl 6 rfl) ?_
        refine va_get (D := (dC, dI)) (ci := 3) (v := .ref y9) (C := RMd) (T := TMd) (N := 17) hx hb hts inMd hown hK hP 0 rfl rfl 10 (by decide) (hts _ in_103) (fun _ h9 => h9) rfl dMd_apply_119 ?_
        refine lv_bipush (v := nI 16) hx hb dMd_apply_122 (by decide) ?_
        refine lv_iload hx hb dMd_apply_124 (lv_at hl 3 rfl) ?_
        refine lv_imul hx hb dMd_apply_126 ?_
        refine lv_ri (y := nI (16 * ((64 * k) + ((n + 1) % 64)))) (pk_mul _ _) ?_
        refine lv_iload hx hb dMd_apply_127 (lv_at hl 1 rfl) ?_
        refine lv_iadd hx hb dMd_apply_129 ?_
        refine lv_ri (y := nI ((16 * ((64 * k) + ((n + 1) % 64))) + j)) (nI_add _ _) ?_
        refine lv_iload hx hb dMd_apply_130 (lv_at hl 0 rfl) ?_
        refine lv_if_eq (tgt := 145) hx hb dMd_apply_132 (by decide) (fun _ => ?_) (fun c_26 => absurd c_26 (by decide))
        refine lv_aload_n hx hb dMd_apply_145 rfl (lv_at hl 6 rfl) ?_
        refine va_get (D := (dC, dI)) (ci := 3) (v := .ref y9) (C := RMd) (T := TMd) (N := 17) hx hb hts inMd hown hK hP 0 rfl rfl 10 (by decide) (hts _ in_103) (fun _ h9 => h9) rfl dMd_apply_146 ?_
        refine lv_bipush (v := nI 16) hx hb dMd_apply_149 (by decide) ?_
        refine lv_iload hx hb dMd_apply_151 (lv_at hl 2 rfl) ?_
        refine lv_imul hx hb dMd_apply_153 ?_
        refine lv_ri (y := nI (16 * ((64 * k) + (n % 64)))) (pk_mul _ _) ?_
        refine lv_iload hx hb dMd_apply_154 (lv_at hl 1 rfl) ?_
        refine lv_iadd hx hb dMd_apply_156 ?_
        refine lv_ri (y := nI ((16 * ((64 * k) + (n % 64))) + j)) (nI_add _ _) ?_
        refine vq_iald (k := ((16 * ((64 * k) + (n % 64))) + j)) (f := m_av (mi 6) (ma 9) ((64 * k) + ((n + 1) % 64)) ((64 * k) + (n % 64)) (ma 8) j) hx hb hK hP 9 0 rfl rfl rfl (by omega) (by decide) dMd_apply_157 ?_
        refine vq_iast (k := ((16 * ((64 * k) + ((n + 1) % 64))) + j)) (f := m_av (mi 6) (ma 9) ((64 * k) + ((n + 1) % 64)) ((64 * k) + (n % 64)) (ma 8) j) hx hb hK hP hD hS 9 0 rfl rfl rfl (by omega) (by decide) dMd_apply_158 (fun H locs hP hD hS => ?_)
        have hP : va_P (dC, dI) vwCl (wM y y1 y2 y3 y4 y5 y6 y7 y8 y9 y10 cI (va_up mi 0 0) (va_up (va_up (va_up ma 0 (upd (ma 0) k (nI (n + 1)))) 7 (upd (ma 7) ((64 * k) + ((n + 1) % 64)) (mi 6))) 8 (upd (m_av (mi 6) (ma 9) ((64 * k) + ((n + 1) % 64)) ((64 * k) + (n % 64)) (ma 8) j) ((16 * ((64 * k) + ((n + 1) % 64))) + j) ((m_av (mi 6) (ma 9) ((64 * k) + ((n + 1) % 64)) ((64 * k) + (n % 64)) (ma 8) j) ((16 * ((64 * k) + (n % 64))) + j))))) H := hP
        have hD : va_D A (wM y y1 y2 y3 y4 y5 y6 y7 y8 y9 y10 cI (va_up mi 0 0) (va_up (va_up (va_up ma 0 (upd (ma 0) k (nI (n + 1)))) 7 (upd (ma 7) ((64 * k) + ((n + 1) % 64)) (mi 6))) 8 (upd (m_av (mi 6) (ma 9) ((64 * k) + ((n + 1) % 64)) ((64 * k) + (n % 64)) (ma 8) j) ((16 * ((64 * k) + ((n + 1) % 64))) + j) ((m_av (mi 6) (ma 9) ((64 * k) + ((n + 1) % 64)) ((64 * k) + (n % 64)) (ma 8) j) ((16 * ((64 * k) + (n % 64))) + j))))) := hD
        refine lv_iinc (v := nI (j + 1)) (lv' := [(6, .int (nI (j + 1))), (7, .int 0), (5, .int (nI ((64 * k) + (n % 64)))), (4, .int (nI ((64 * k) + ((n + 1) % 64)))), (3, .int (nI (n + 1))), (2, .int 1), (0, .ref y), (1, .int (nI k))]) hx hb dMd_apply_159 hl (k := 1) rfl (by first | exact nI_1 _ | (show _ + (1 : Int32) = _; exact nI_1 _)) (by decide) rfl (fun ls hl => ?_)
        refine lv_goto (tgt := 86) hx hb dMd_apply_162 (by decide) ?_
        have hl9 : lv_has ls 8 [(6, .int (nI (j + 1))), (5, .int (nI ((64 * k) + (n % 64)))), (4, .int (nI ((64 * k) + ((n + 1) % 64)))), (3, .int (nI (n + 1))), (2, .int 1), (0, .ref y), (1, .int (nI k))] := by first | exact lv_sub hl [0, 2, 3, 4, 5, 6, 7] rfl | (simp only [m_av, m_cp, if_neg c_25]; exact lv_sub hl [0, 2, 3, 4, 5, 6, 7] rfl)
        have hP9 : va_P (dC, dI) vwCl (wM y y1 y2 y3 y4 y5 y6 y7 y8 y9 y10 cI (va_up mi 0 0) (va_up (va_up (va_up ma 0 (upd (ma 0) k (nI (n + 1)))) 7 (upd (ma 7) ((64 * k) + ((n + 1) % 64)) (mi 6))) 8 (m_av (mi 6) (ma 9) ((64 * k) + ((n + 1) % 64)) ((64 * k) + (n % 64)) (ma 8) (j + 1)))) H := by first | exact hP | (simp only [m_av, m_cp, if_neg c_25]; exact hP)
        have hD9 : va_D A (wM y y1 y2 y3 y4 y5 y6 y7 y8 y9 y10 cI (va_up mi 0 0) (va_up (va_up (va_up ma 0 (upd (ma 0) k (nI (n + 1)))) 7 (upd (ma 7) ((64 * k) + ((n + 1) % 64)) (mi 6))) 8 (m_av (mi 6) (ma 9) ((64 * k) + ((n + 1) % 64)) ((64 * k) + (n % 64)) (ma 8) (j + 1)))) := by first | exact hD | (simp only [m_av, m_cp, if_neg c_25]; exact hD)
        exact ih (j + 1, H, locs, ls) ⟨hj, hP9, hD9, hS, hl9⟩ (by show 16 - (j + 1) < 16 - j; omega)
      · skip
        refine lv_iconst (v := 1) hx hb dMd_apply_111 (by decide) ?_
        refine lv_goto (tgt := 116) hx hb dMd_apply_112 (by decide) ?_
        refine lv_istore (lv' := [(7, .int 1), (6, .int (nI j)), (5, .int (nI ((64 * k) + (n % 64)))), (4, .int (nI ((64 * k) + ((n + 1) % 64)))), (3, .int (nI (n + 1))), (2, .int 1), (0, .ref y), (1, .int (nI k))]) hx hb dMd_apply_116 hl (by decide) rfl (fun ls hl => ?_)
        refine lv_aload_n hx hb dMd_apply_118 rfl (lv_at hl 6 rfl) ?_
        refine va_get (D := (dC, dI)) (ci := 3) (v := .ref y9) (C := RMd) (T := TMd) (N := 17) hx hb hts inMd hown hK hP 0 rfl rfl 10 (by decide) (hts _ in_103) (fun _ h9 => h9) rfl dMd_apply_119 ?_
        refine lv_bipush (v := nI 16) hx hb dMd_apply_122 (by decide) ?_
        refine lv_iload hx hb dMd_apply_124 (lv_at hl 3 rfl) ?_
        refine lv_imul hx hb dMd_apply_126 ?_
        refine lv_ri (y := nI (16 * ((64 * k) + ((n + 1) % 64)))) (pk_mul _ _) ?_
        refine lv_iload hx hb dMd_apply_127 (lv_at hl 1 rfl) ?_
        refine lv_iadd hx hb dMd_apply_129 ?_
        refine lv_ri (y := nI ((16 * ((64 * k) + ((n + 1) % 64))) + j)) (nI_add _ _) ?_
        refine lv_iload hx hb dMd_apply_130 (lv_at hl 0 rfl) ?_
        refine lv_if_eq (tgt := 145) hx hb dMd_apply_132 (by decide) (fun c_27 => absurd c_27 (by decide)) (fun _ => ?_)
        refine lv_aload_n hx hb dMd_apply_135 rfl (lv_at hl 6 rfl) ?_
        refine va_get (D := (dC, dI)) (ci := 3) (v := .ref y10) (C := RMd) (T := TMd) (N := 17) hx hb hts inMd hown hK hP 0 rfl rfl 16 (by decide) (hts _ in_81) (fun _ h9 => h9) rfl dMd_apply_136 ?_
        refine lv_iload hx hb dMd_apply_139 (lv_at hl 1 rfl) ?_
        refine vq_iald (k := j) (f := ma 9) hx hb hK hP 10 0 rfl rfl rfl (by omega) (by decide) dMd_apply_141 ?_
        refine lv_goto (tgt := 158) hx hb dMd_apply_142 (by decide) ?_
        refine vq_iast (k := ((16 * ((64 * k) + ((n + 1) % 64))) + j)) (f := m_av (mi 6) (ma 9) ((64 * k) + ((n + 1) % 64)) ((64 * k) + (n % 64)) (ma 8) j) hx hb hK hP hD hS 9 0 rfl rfl rfl (by omega) (by decide) dMd_apply_158 (fun H locs hP hD hS => ?_)
        have hP : va_P (dC, dI) vwCl (wM y y1 y2 y3 y4 y5 y6 y7 y8 y9 y10 cI (va_up mi 0 0) (va_up (va_up (va_up ma 0 (upd (ma 0) k (nI (n + 1)))) 7 (upd (ma 7) ((64 * k) + ((n + 1) % 64)) (mi 6))) 8 (upd (m_av (mi 6) (ma 9) ((64 * k) + ((n + 1) % 64)) ((64 * k) + (n % 64)) (ma 8) j) ((16 * ((64 * k) + ((n + 1) % 64))) + j) ((ma 9) j)))) H := hP
        have hD : va_D A (wM y y1 y2 y3 y4 y5 y6 y7 y8 y9 y10 cI (va_up mi 0 0) (va_up (va_up (va_up ma 0 (upd (ma 0) k (nI (n + 1)))) 7 (upd (ma 7) ((64 * k) + ((n + 1) % 64)) (mi 6))) 8 (upd (m_av (mi 6) (ma 9) ((64 * k) + ((n + 1) % 64)) ((64 * k) + (n % 64)) (ma 8) j) ((16 * ((64 * k) + ((n + 1) % 64))) + j) ((ma 9) j)))) := hD
        refine lv_iinc (v := nI (j + 1)) (lv' := [(6, .int (nI (j + 1))), (7, .int 1), (5, .int (nI ((64 * k) + (n % 64)))), (4, .int (nI ((64 * k) + ((n + 1) % 64)))), (3, .int (nI (n + 1))), (2, .int 1), (0, .ref y), (1, .int (nI k))]) hx hb dMd_apply_159 hl (k := 1) rfl (by first | exact nI_1 _ | (show _ + (1 : Int32) = _; exact nI_1 _)) (by decide) rfl (fun ls hl => ?_)
        refine lv_goto (tgt := 86) hx hb dMd_apply_162 (by decide) ?_
        have hl9 : lv_has ls 8 [(6, .int (nI (j + 1))), (5, .int (nI ((64 * k) + (n % 64)))), (4, .int (nI ((64 * k) + ((n + 1) % 64)))), (3, .int (nI (n + 1))), (2, .int 1), (0, .ref y), (1, .int (nI k))] := by first | exact lv_sub hl [0, 2, 3, 4, 5, 6, 7] rfl | (simp only [m_av, m_cp, if_pos c_25]; exact lv_sub hl [0, 2, 3, 4, 5, 6, 7] rfl)
        have hP9 : va_P (dC, dI) vwCl (wM y y1 y2 y3 y4 y5 y6 y7 y8 y9 y10 cI (va_up mi 0 0) (va_up (va_up (va_up ma 0 (upd (ma 0) k (nI (n + 1)))) 7 (upd (ma 7) ((64 * k) + ((n + 1) % 64)) (mi 6))) 8 (m_av (mi 6) (ma 9) ((64 * k) + ((n + 1) % 64)) ((64 * k) + (n % 64)) (ma 8) (j + 1)))) H := by first | exact hP | (simp only [m_av, m_cp, if_pos c_25]; exact hP)
        have hD9 : va_D A (wM y y1 y2 y3 y4 y5 y6 y7 y8 y9 y10 cI (va_up mi 0 0) (va_up (va_up (va_up ma 0 (upd (ma 0) k (nI (n + 1)))) 7 (upd (ma 7) ((64 * k) + ((n + 1) % 64)) (mi 6))) 8 (m_av (mi 6) (ma 9) ((64 * k) + ((n + 1) % 64)) ((64 * k) + (n % 64)) (ma 8) (j + 1)))) := by first | exact hD | (simp only [m_av, m_cp, if_pos c_25]; exact hD)
        exact ih (j + 1, H, locs, ls) ⟨hj, hP9, hD9, hS, hl9⟩ (by show 16 - (j + 1) < 16 - j; omega)
  · skip
    refine lv_ri (y := 2) hv ?_
    refine lv_istore_n (lv' := [(2, .int 2), (0, .ref y), (1, .int (nI k))]) hx hb dMd_apply_15 rfl hl (by decide) rfl (fun ls hl => ?_)
    refine lv_iload_n hx hb dMd_apply_16 rfl (lv_at hl 0 rfl) ?_
    refine lv_if_ge (tgt := 22) hx hb dMd_apply_17 (by decide) (fun _ => ?_) (fun c_28 => absurd c_28 (by decide))
    refine lv_aload_n hx hb dMd_apply_22 rfl (lv_at hl 1 rfl) ?_
    refine va_get (D := (dC, dI)) (ci := 3) (v := .ref y1) (C := RMd) (T := TMd) (N := 17) hx hb hts inMd hown hK hP 0 rfl rfl 2 (by decide) (hts _ in_82) (fun _ h9 => h9) rfl dMd_apply_23 ?_
    refine lv_iload_n hx hb dMd_apply_26 rfl (lv_at hl 2 rfl) ?_
    refine lv_dup2_11 hx hb dMd_apply_27 rfl rfl ?_
    refine vq_iald (k := k) (f := ma 0) hx hb hK hP 1 0 rfl rfl rfl (by omega) (by decide) dMd_apply_28 ?_
    refine lv_ri (y := nI n) hix ?_
    refine lv_iconst (v := 1) hx hb dMd_apply_29 (by decide) ?_
    refine lv_iadd hx hb dMd_apply_30 ?_
    refine lv_ri (y := nI (n + 1)) (nI_1 _) ?_
    refine vq_iast (k := k) (f := ma 0) hx hb hK hP hD hS 1 0 rfl rfl rfl (by omega) (by decide) dMd_apply_31 (fun H locs hP hD hS => ?_)
    have hP : va_P (dC, dI) vwCl (wM y y1 y2 y3 y4 y5 y6 y7 y8 y9 y10 cI (va_up mi 0 0) (va_up ma 0 (upd (ma 0) k (nI (n + 1))))) H := hP
    have hD : va_D A (wM y y1 y2 y3 y4 y5 y6 y7 y8 y9 y10 cI (va_up mi 0 0) (va_up ma 0 (upd (ma 0) k (nI (n + 1))))) := hD
    refine lv_aload_n hx hb dMd_apply_32 rfl (lv_at hl 1 rfl) ?_
    refine va_get (D := (dC, dI)) (ci := 3) (v := .ref y1) (C := RMd) (T := TMd) (N := 17) hx hb hts inMd hown hK hP 0 rfl rfl 2 (by decide) (hts _ in_82) (fun _ h9 => h9) rfl dMd_apply_33 ?_
    refine lv_iload_n hx hb dMd_apply_36 rfl (lv_at hl 2 rfl) ?_
    refine vq_iald (k := k) (f := upd (ma 0) k (nI (n + 1))) hx hb hK hP 1 0 rfl rfl rfl (by omega) (by decide) dMd_apply_37 ?_
    refine lv_ri (y := nI (n + 1)) pk_us ?_
    refine lv_istore_n (lv' := [(3, .int (nI (n + 1))), (2, .int 2), (0, .ref y), (1, .int (nI k))]) hx hb dMd_apply_38 rfl hl (by decide) rfl (fun ls hl => ?_)
    refine lv_bipush (v := nI 64) hx hb dMd_apply_39 (by decide) ?_
    refine lv_iload_n hx hb dMd_apply_41 rfl (lv_at hl 3 rfl) ?_
    refine lv_imul hx hb dMd_apply_42 ?_
    refine lv_ri (y := nI (64 * k)) (pk_mul _ _) ?_
    refine lv_iload_n hx hb dMd_apply_43 rfl (lv_at hl 0 rfl) ?_
    refine lv_bipush (v := nI 64) hx hb dMd_apply_44 (by decide) ?_
    refine lv_irem hx hb dMd_apply_46 (by decide) ?_
    refine lv_ri (y := nI ((n + 1) % 64)) (pk_rem (by omega) (by decide) (by decide)) ?_
    refine lv_iadd hx hb dMd_apply_47 ?_
    refine lv_ri (y := nI ((64 * k) + ((n + 1) % 64))) (nI_add _ _) ?_
    refine lv_istore (lv' := [(4, .int (nI ((64 * k) + ((n + 1) % 64)))), (3, .int (nI (n + 1))), (2, .int 2), (0, .ref y), (1, .int (nI k))]) hx hb dMd_apply_48 hl (by decide) rfl (fun ls hl => ?_)
    refine lv_bipush (v := nI 64) hx hb dMd_apply_50 (by decide) ?_
    refine lv_iload_n hx hb dMd_apply_52 rfl (lv_at hl 4 rfl) ?_
    refine lv_imul hx hb dMd_apply_53 ?_
    refine lv_ri (y := nI (64 * k)) (pk_mul _ _) ?_
    refine lv_iload_n hx hb dMd_apply_54 rfl (lv_at hl 1 rfl) ?_
    refine lv_iconst (v := 1) hx hb dMd_apply_55 (by decide) ?_
    refine lv_isub hx hb dMd_apply_56 ?_
    refine lv_ri (y := nI n) (nI_pred n) ?_
    refine lv_bipush (v := nI 64) hx hb dMd_apply_57 (by decide) ?_
    refine lv_irem hx hb dMd_apply_59 (by decide) ?_
    refine lv_ri (y := nI (n % 64)) (pk_rem (by omega) (by decide) (by decide)) ?_
    refine lv_iadd hx hb dMd_apply_60 ?_
    refine lv_ri (y := nI ((64 * k) + (n % 64))) (nI_add _ _) ?_
    refine lv_istore (lv' := [(5, .int (nI ((64 * k) + (n % 64)))), (4, .int (nI ((64 * k) + ((n + 1) % 64)))), (3, .int (nI (n + 1))), (2, .int 2), (0, .ref y), (1, .int (nI k))]) hx hb dMd_apply_61 hl (by decide) rfl (fun ls hl => ?_)
    refine lv_aload_n hx hb dMd_apply_63 rfl (lv_at hl 4 rfl) ?_
    refine va_get (D := (dC, dI)) (ci := 3) (v := .ref y8) (C := RMd) (T := TMd) (N := 17) hx hb hts inMd hown hK hP 0 rfl rfl 9 (by decide) (hts _ in_83) (fun _ h9 => h9) rfl dMd_apply_64 ?_
    refine lv_iload hx hb dMd_apply_67 (lv_at hl 1 rfl) ?_
    refine lv_iload_n hx hb dMd_apply_69 rfl (lv_at hl 3 rfl) ?_
    refine lv_iconst (v := 1) hx hb dMd_apply_70 (by decide) ?_
    refine lv_icmp_ne (tgt := 81) hx hb dMd_apply_71 (by decide) (fun _ => ?_) (fun c_29 => absurd c_29 (by decide))
    refine lv_iconst (v := 0) hx hb dMd_apply_81 (by decide) ?_
    refine vq_iast (k := ((64 * k) + ((n + 1) % 64))) (f := ma 7) hx hb hK hP hD hS 8 0 rfl rfl rfl (by omega) (by decide) dMd_apply_82 (fun H locs hP hD hS => ?_)
    have hP : va_P (dC, dI) vwCl (wM y y1 y2 y3 y4 y5 y6 y7 y8 y9 y10 cI (va_up mi 0 0) (va_up (va_up ma 0 (upd (ma 0) k (nI (n + 1)))) 7 (upd (ma 7) ((64 * k) + ((n + 1) % 64)) 0))) H := hP
    have hD : va_D A (wM y y1 y2 y3 y4 y5 y6 y7 y8 y9 y10 cI (va_up mi 0 0) (va_up (va_up ma 0 (upd (ma 0) k (nI (n + 1)))) 7 (upd (ma 7) ((64 * k) + ((n + 1) % 64)) 0))) := hD
    refine lv_iconst (v := 0) hx hb dMd_apply_83 (by decide) ?_
    refine lv_istore (lv' := [(6, .int 0), (5, .int (nI ((64 * k) + (n % 64)))), (4, .int (nI ((64 * k) + ((n + 1) % 64)))), (3, .int (nI (n + 1))), (2, .int 2), (0, .ref y), (1, .int (nI k))]) hx hb dMd_apply_84 hl (by decide) rfl (fun ls hl => ?_)
    refine wl_rw (σ := Nat × Heap × List Loc × Array Slot) (fun z9 => (z9.2.1, z9.2.2.1, F0 m 86 z9.2.2.2 [])) (fun z9 => z9.1 ≤ 16 ∧ va_P (dC, dI) vwCl (wM y y1 y2 y3 y4 y5 y6 y7 y8 y9 y10 cI (va_up mi 0 0) (va_up (va_up (va_up ma 0 (upd (ma 0) k (nI (n + 1)))) 7 (upd (ma 7) ((64 * k) + ((n + 1) % 64)) 0)) 8 (m_cp (ma 8) (16 * ((64 * k) + ((n + 1) % 64))) (16 * ((64 * k) + (n % 64))) z9.1))) z9.2.1 ∧ va_D A (wM y y1 y2 y3 y4 y5 y6 y7 y8 y9 y10 cI (va_up mi 0 0) (va_up (va_up (va_up ma 0 (upd (ma 0) k (nI (n + 1)))) 7 (upd (ma 7) ((64 * k) + ((n + 1) % 64)) 0)) 8 (m_cp (ma 8) (16 * ((64 * k) + ((n + 1) % 64))) (16 * ((64 * k) + (n % 64))) z9.1))) ∧ va_S A s.heap z9.2.1 z9.2.2.1 ∧ lv_has z9.2.2.2 8 [(6, .int (nI z9.1)), (5, .int (nI ((64 * k) + (n % 64)))), (4, .int (nI ((64 * k) + ((n + 1) % 64)))), (3, .int (nI (n + 1))), (2, .int 2), (0, .ref y), (1, .int (nI k))]) (fun z9 => 16 - z9.1) ?_ (0, H, locs, ls) ⟨by omega, hP, hD, hS, lv_sub hl [0, 1, 2, 3, 4, 5, 6] rfl⟩
    rintro ⟨j, H, locs, ls⟩ ⟨hj, hP, hD, hS, hl⟩ ih
    have hj : j ≤ 16 := hj
    have hP : va_P (dC, dI) vwCl (wM y y1 y2 y3 y4 y5 y6 y7 y8 y9 y10 cI (va_up mi 0 0) (va_up (va_up (va_up ma 0 (upd (ma 0) k (nI (n + 1)))) 7 (upd (ma 7) ((64 * k) + ((n + 1) % 64)) 0)) 8 (m_cp (ma 8) (16 * ((64 * k) + ((n + 1) % 64))) (16 * ((64 * k) + (n % 64))) j))) H := hP
    have hD : va_D A (wM y y1 y2 y3 y4 y5 y6 y7 y8 y9 y10 cI (va_up mi 0 0) (va_up (va_up (va_up ma 0 (upd (ma 0) k (nI (n + 1)))) 7 (upd (ma 7) ((64 * k) + ((n + 1) % 64)) 0)) 8 (m_cp (ma 8) (16 * ((64 * k) + ((n + 1) % 64))) (16 * ((64 * k) + (n % 64))) j))) := hD
    have hS : va_S A s.heap H locs := hS
    have hl : lv_has ls 8 [(6, .int (nI j)), (5, .int (nI ((64 * k) + (n % 64)))), (4, .int (nI ((64 * k) + ((n + 1) % 64)))), (3, .int (nI (n + 1))), (2, .int 2), (0, .ref y), (1, .int (nI k))] := hl
    show W p l e _ s m _ below meth c H locs _ _ _ (F0 m 86 ls [])
    refine lv_iload hx hb dMd_apply_86 (lv_at hl 0 rfl) ?_
    refine lv_bipush (v := nI 16) hx hb dMd_apply_88 (by decide) ?_
    refine lv_icmp_ge (tgt := 165) hx hb dMd_apply_90 (by decide) (fun c_30 => ?_) (fun c_30 => ?_)
    · skip
      have hj9 : j = 16 := lp_x (by decide) hj c_30
      subst hj9
      refine lv_iload_n hx hb dMd_apply_165 rfl (lv_at hl 4 rfl) ?_
      refine lv_if_le (tgt := 202) hx hb dMd_apply_166 (by decide) (fun c_31 => absurd c_31 (by decide)) (fun _ => ?_)
      refine lv_aload_n hx hb dMd_apply_169 rfl (lv_at hl 5 rfl) ?_
      refine va_get (D := (dC, dI)) (ci := 3) (v := .ref y6) (C := RMd) (T := TMd) (N := 17) hx hb hts inMd hown hK hP 0 rfl rfl 7 (by decide) (hts _ in_85) (fun _ h9 => h9) rfl dMd_apply_170 ?_
      refine lv_bipush (v := nI 16) hx hb dMd_apply_173 (by decide) ?_
      refine lv_iload_n hx hb dMd_apply_175 rfl (lv_at hl 6 rfl) ?_
      refine lv_imul hx hb dMd_apply_176 ?_
      refine lv_ri (y := nI (16 * k)) (pk_mul _ _) ?_
      refine lv_aload_n hx hb dMd_apply_177 rfl (lv_at hl 5 rfl) ?_
      refine va_get (D := (dC, dI)) (ci := 3) (v := .int (mi 2)) (C := RMd) (T := TMd) (N := 17) hx hb hts inMd hown hK hP 0 rfl rfl 11 (by decide) (hts _ in_76) (fun _ h9 => h9) rfl dMd_apply_178 ?_
      refine lv_ri (y := nI se) hse ?_
      refine lv_iadd hx hb dMd_apply_181 ?_
      refine lv_ri (y := nI ((16 * k) + se)) (nI_add _ _) ?_
      refine lv_aload_n hx hb dMd_apply_182 rfl (lv_at hl 5 rfl) ?_
      refine va_get (D := (dC, dI)) (ci := 3) (v := .int (mi 3)) (C := RMd) (T := TMd) (N := 17) hx hb hts inMd hown hK hP 0 rfl rfl 12 (by decide) (hts _ in_77) (fun _ h9 => h9) rfl dMd_apply_183 ?_
      refine vq_iast (k := ((16 * k) + se)) (f := ma 5) hx hb hK hP hD hS 6 0 rfl rfl rfl (by omega) (by decide) dMd_apply_186 (fun H locs hP hD hS => ?_)
      have hP : va_P (dC, dI) vwCl (wM y y1 y2 y3 y4 y5 y6 y7 y8 y9 y10 cI (va_up mi 0 0) (va_up (va_up (va_up (va_up ma 0 (upd (ma 0) k (nI (n + 1)))) 7 (upd (ma 7) ((64 * k) + ((n + 1) % 64)) 0)) 8 (m_cp (ma 8) (16 * ((64 * k) + ((n + 1) % 64))) (16 * ((64 * k) + (n % 64))) 16)) 5 (upd (ma 5) ((16 * k) + se) (mi 3)))) H := hP
      have hD : va_D A (wM y y1 y2 y3 y4 y5 y6 y7 y8 y9 y10 cI (va_up mi 0 0) (va_up (va_up (va_up (va_up ma 0 (upd (ma 0) k (nI (n + 1)))) 7 (upd (ma 7) ((64 * k) + ((n + 1) % 64)) 0)) 8 (m_cp (ma 8) (16 * ((64 * k) + ((n + 1) % 64))) (16 * ((64 * k) + (n % 64))) 16)) 5 (upd (ma 5) ((16 * k) + se) (mi 3)))) := hD
      refine lv_aload_n hx hb dMd_apply_187 rfl (lv_at hl 5 rfl) ?_
      refine va_get (D := (dC, dI)) (ci := 3) (v := .ref y7) (C := RMd) (T := TMd) (N := 17) hx hb hts inMd hown hK hP 0 rfl rfl 8 (by decide) (hts _ in_104) (fun _ h9 => h9) rfl dMd_apply_188 ?_
      refine lv_bipush (v := nI 16) hx hb dMd_apply_191 (by decide) ?_
      refine lv_iload_n hx hb dMd_apply_193 rfl (lv_at hl 6 rfl) ?_
      refine lv_imul hx hb dMd_apply_194 ?_
      refine lv_ri (y := nI (16 * k)) (pk_mul _ _) ?_
      refine lv_aload_n hx hb dMd_apply_195 rfl (lv_at hl 5 rfl) ?_
      refine va_get (D := (dC, dI)) (ci := 3) (v := .int (mi 2)) (C := RMd) (T := TMd) (N := 17) hx hb hts inMd hown hK hP 0 rfl rfl 11 (by decide) (hts _ in_76) (fun _ h9 => h9) rfl dMd_apply_196 ?_
      refine lv_ri (y := nI se) hse ?_
      refine lv_iadd hx hb dMd_apply_199 ?_
      refine lv_ri (y := nI ((16 * k) + se)) (nI_add _ _) ?_
      refine lv_iload_n hx hb dMd_apply_200 rfl (lv_at hl 4 rfl) ?_
      refine vq_iast (k := ((16 * k) + se)) (f := ma 6) hx hb hK hP hD hS 7 0 rfl rfl rfl (by omega) (by decide) dMd_apply_201 (fun H locs hP hD hS => ?_)
      have hP : va_P (dC, dI) vwCl (wM y y1 y2 y3 y4 y5 y6 y7 y8 y9 y10 cI (va_up mi 0 0) (va_up (va_up (va_up (va_up (va_up ma 0 (upd (ma 0) k (nI (n + 1)))) 7 (upd (ma 7) ((64 * k) + ((n + 1) % 64)) 0)) 8 (m_cp (ma 8) (16 * ((64 * k) + ((n + 1) % 64))) (16 * ((64 * k) + (n % 64))) 16)) 5 (upd (ma 5) ((16 * k) + se) (mi 3))) 6 (upd (ma 6) ((16 * k) + se) 2))) H := hP
      have hD : va_D A (wM y y1 y2 y3 y4 y5 y6 y7 y8 y9 y10 cI (va_up mi 0 0) (va_up (va_up (va_up (va_up (va_up ma 0 (upd (ma 0) k (nI (n + 1)))) 7 (upd (ma 7) ((64 * k) + ((n + 1) % 64)) 0)) 8 (m_cp (ma 8) (16 * ((64 * k) + ((n + 1) % 64))) (16 * ((64 * k) + (n % 64))) 16)) 5 (upd (ma 5) ((16 * k) + se) (mi 3))) 6 (upd (ma 6) ((16 * k) + se) 2))) := hD
      refine lv_aload_n hx hb dMd_apply_202 rfl (lv_at hl 5 rfl) ?_
      refine va_get (D := (dC, dI)) (ci := 3) (v := .ref y3) (C := RMd) (T := TMd) (N := 17) hx hb hts inMd hown hK hP 0 rfl rfl 4 (by decide) (hts _ in_99) (fun _ h9 => h9) rfl dMd_apply_203 ?_
      refine lv_iload_n hx hb dMd_apply_206 rfl (lv_at hl 6 rfl) ?_
      refine lv_dup2_11 hx hb dMd_apply_207 rfl rfl ?_
      refine vq_iald (k := k) (f := ma 2) hx hb hK hP 3 0 rfl rfl rfl (by omega) (by decide) dMd_apply_208 ?_
      refine lv_iload_n hx hb dMd_apply_209 rfl (lv_at hl 4 rfl) ?_
      refine lv_iconst (v := 1) hx hb dMd_apply_210 (by decide) ?_
      refine lv_icmp_ne (tgt := 218) hx hb dMd_apply_211 (by decide) (fun _ => ?_) (fun c_32 => absurd c_32 (by decide))
      refine lv_iconst (v := 0) hx hb dMd_apply_218 (by decide) ?_
      refine lv_iadd hx hb dMd_apply_219 ?_
      refine vq_iast (k := k) (f := ma 2) hx hb hK hP hD hS 3 0 rfl rfl rfl (by omega) (by decide) dMd_apply_220 (fun H locs hP hD hS => ?_)
      have hP : va_P (dC, dI) vwCl (wM y y1 y2 y3 y4 y5 y6 y7 y8 y9 y10 cI (va_up mi 0 0) (va_up (va_up (va_up (va_up (va_up (va_up ma 0 (upd (ma 0) k (nI (n + 1)))) 7 (upd (ma 7) ((64 * k) + ((n + 1) % 64)) 0)) 8 (m_cp (ma 8) (16 * ((64 * k) + ((n + 1) % 64))) (16 * ((64 * k) + (n % 64))) 16)) 5 (upd (ma 5) ((16 * k) + se) (mi 3))) 6 (upd (ma 6) ((16 * k) + se) 2)) 2 (upd (ma 2) k (((ma 2) k) + 0)))) H := hP
      have hD : va_D A (wM y y1 y2 y3 y4 y5 y6 y7 y8 y9 y10 cI (va_up mi 0 0) (va_up (va_up (va_up (va_up (va_up (va_up ma 0 (upd (ma 0) k (nI (n + 1)))) 7 (upd (ma 7) ((64 * k) + ((n + 1) % 64)) 0)) 8 (m_cp (ma 8) (16 * ((64 * k) + ((n + 1) % 64))) (16 * ((64 * k) + (n % 64))) 16)) 5 (upd (ma 5) ((16 * k) + se) (mi 3))) 6 (upd (ma 6) ((16 * k) + se) 2)) 2 (upd (ma 2) k (((ma 2) k) + 0)))) := hD
      refine lv_aload_n hx hb dMd_apply_221 rfl (lv_at hl 5 rfl) ?_
      refine va_get (D := (dC, dI)) (ci := 3) (v := .ref y4) (C := RMd) (T := TMd) (N := 17) hx hb hts inMd hown hK hP 0 rfl rfl 5 (by decide) (hts _ in_100) (fun _ h9 => h9) rfl dMd_apply_222 ?_
      refine lv_iload_n hx hb dMd_apply_225 rfl (lv_at hl 6 rfl) ?_
      refine lv_dup2_11 hx hb dMd_apply_226 rfl rfl ?_
      refine vq_iald (k := k) (f := ma 3) hx hb hK hP 4 0 rfl rfl rfl (by omega) (by decide) dMd_apply_227 ?_
      refine lv_iload_n hx hb dMd_apply_228 rfl (lv_at hl 4 rfl) ?_
      refine lv_iconst (v := 2) hx hb dMd_apply_229 (by decide) ?_
      refine lv_icmp_ne (tgt := 237) hx hb dMd_apply_230 (by decide) (fun c_33 => absurd c_33 (by decide)) (fun _ => ?_)
      refine lv_iconst (v := 1) hx hb dMd_apply_233 (by decide) ?_
      refine lv_goto (tgt := 238) hx hb dMd_apply_234 (by decide) ?_
      refine lv_iadd hx hb dMd_apply_238 ?_
      refine vq_iast (k := k) (f := ma 3) hx hb hK hP hD hS 4 0 rfl rfl rfl (by omega) (by decide) dMd_apply_239 (fun H locs hP hD hS => ?_)
      have hP : va_P (dC, dI) vwCl (wM y y1 y2 y3 y4 y5 y6 y7 y8 y9 y10 cI (va_up mi 0 0) (va_up (va_up (va_up (va_up (va_up (va_up (va_up ma 0 (upd (ma 0) k (nI (n + 1)))) 7 (upd (ma 7) ((64 * k) + ((n + 1) % 64)) 0)) 8 (m_cp (ma 8) (16 * ((64 * k) + ((n + 1) % 64))) (16 * ((64 * k) + (n % 64))) 16)) 5 (upd (ma 5) ((16 * k) + se) (mi 3))) 6 (upd (ma 6) ((16 * k) + se) 2)) 2 (upd (ma 2) k (((ma 2) k) + 0))) 3 (upd (ma 3) k (((ma 3) k) + 1)))) H := hP
      have hD : va_D A (wM y y1 y2 y3 y4 y5 y6 y7 y8 y9 y10 cI (va_up mi 0 0) (va_up (va_up (va_up (va_up (va_up (va_up (va_up ma 0 (upd (ma 0) k (nI (n + 1)))) 7 (upd (ma 7) ((64 * k) + ((n + 1) % 64)) 0)) 8 (m_cp (ma 8) (16 * ((64 * k) + ((n + 1) % 64))) (16 * ((64 * k) + (n % 64))) 16)) 5 (upd (ma 5) ((16 * k) + se) (mi 3))) 6 (upd (ma 6) ((16 * k) + se) 2)) 2 (upd (ma 2) k (((ma 2) k) + 0))) 3 (upd (ma 3) k (((ma 3) k) + 1)))) := hD
      refine lv_aload_n hx hb dMd_apply_240 rfl (lv_at hl 5 rfl) ?_
      refine va_get (D := (dC, dI)) (ci := 3) (v := .ref y5) (C := RMd) (T := TMd) (N := 17) hx hb hts inMd hown hK hP 0 rfl rfl 6 (by decide) (hts _ in_101) (fun _ h9 => h9) rfl dMd_apply_241 ?_
      refine lv_iload_n hx hb dMd_apply_244 rfl (lv_at hl 6 rfl) ?_
      refine lv_dup2_11 hx hb dMd_apply_245 rfl rfl ?_
      refine vq_iald (k := k) (f := ma 4) hx hb hK hP 5 0 rfl rfl rfl (by omega) (by decide) dMd_apply_246 ?_
      refine lv_iload_n hx hb dMd_apply_247 rfl (lv_at hl 4 rfl) ?_
      refine lv_if_ne (tgt := 255) hx hb dMd_apply_248 (by decide) (fun _ => ?_) (fun c_34 => absurd c_34 (by decide))
      refine lv_iconst (v := 0) hx hb dMd_apply_255 (by decide) ?_
      refine lv_iadd hx hb dMd_apply_256 ?_
      refine vq_iast (k := k) (f := ma 4) hx hb hK hP hD hS 5 0 rfl rfl rfl (by omega) (by decide) dMd_apply_257 (fun H locs hP hD hS => ?_)
      have hP : va_P (dC, dI) vwCl (wM y y1 y2 y3 y4 y5 y6 y7 y8 y9 y10 cI (va_up mi 0 0) (va_up (va_up (va_up (va_up (va_up (va_up (va_up (va_up ma 0 (upd (ma 0) k (nI (n + 1)))) 7 (upd (ma 7) ((64 * k) + ((n + 1) % 64)) 0)) 8 (m_cp (ma 8) (16 * ((64 * k) + ((n + 1) % 64))) (16 * ((64 * k) + (n % 64))) 16)) 5 (upd (ma 5) ((16 * k) + se) (mi 3))) 6 (upd (ma 6) ((16 * k) + se) 2)) 2 (upd (ma 2) k (((ma 2) k) + 0))) 3 (upd (ma 3) k (((ma 3) k) + 1))) 4 (upd (ma 4) k (((ma 4) k) + 0)))) H := hP
      have hD : va_D A (wM y y1 y2 y3 y4 y5 y6 y7 y8 y9 y10 cI (va_up mi 0 0) (va_up (va_up (va_up (va_up (va_up (va_up (va_up (va_up ma 0 (upd (ma 0) k (nI (n + 1)))) 7 (upd (ma 7) ((64 * k) + ((n + 1) % 64)) 0)) 8 (m_cp (ma 8) (16 * ((64 * k) + ((n + 1) % 64))) (16 * ((64 * k) + (n % 64))) 16)) 5 (upd (ma 5) ((16 * k) + se) (mi 3))) 6 (upd (ma 6) ((16 * k) + se) 2)) 2 (upd (ma 2) k (((ma 2) k) + 0))) 3 (upd (ma 3) k (((ma 3) k) + 1))) 4 (upd (ma 4) k (((ma 4) k) + 0)))) := hD
      refine lv_aload_n hx hb dMd_apply_258 rfl (lv_at hl 5 rfl) ?_
      refine va_get (D := (dC, dI)) (ci := 3) (v := .ref y2) (C := RMd) (T := TMd) (N := 17) hx hb hts inMd hown hK hP 0 rfl rfl 3 (by decide) (hts _ in_102) (fun _ h9 => h9) rfl dMd_apply_259 ?_
      refine lv_iload_n hx hb dMd_apply_262 rfl (lv_at hl 6 rfl) ?_
      refine lv_aload_n hx hb dMd_apply_263 rfl (lv_at hl 5 rfl) ?_
      refine va_get (D := (dC, dI)) (ci := 3) (v := .ref y2) (C := RMd) (T := TMd) (N := 17) hx hb hts inMd hown hK hP 0 rfl rfl 3 (by decide) (hts _ in_102) (fun _ h9 => h9) rfl dMd_apply_264 ?_
      refine lv_iload_n hx hb dMd_apply_267 rfl (lv_at hl 6 rfl) ?_
      refine vq_iald (k := k) (f := ma 1) hx hb hK hP 2 0 rfl rfl rfl (by omega) (by decide) dMd_apply_268 ?_
      refine lv_iload_n hx hb dMd_apply_269 rfl (lv_at hl 3 rfl) ?_
      refine lv_aload_n hx hb dMd_apply_270 rfl (lv_at hl 5 rfl) ?_
      refine va_get (D := (dC, dI)) (ci := 3) (v := .int (mi 1)) (C := RMd) (T := TMd) (N := 17) hx hb hts inMd hown hK hP 0 rfl rfl 1 (by decide) (hts _ in_86) (fun _ h9 => h9) rfl dMd_apply_271 ?_
      refine lv_isub hx hb dMd_apply_274 ?_
      refine lv_icmp_ge (tgt := 287) hx hb dMd_apply_275 (by decide) (fun c_35 => ?_) (fun c_35 => ?_)
      · skip
        refine lv_aload_n hx hb dMd_apply_287 rfl (lv_at hl 5 rfl) ?_
        refine va_get (D := (dC, dI)) (ci := 3) (v := .ref y2) (C := RMd) (T := TMd) (N := 17) hx hb hts inMd hown hK hP 0 rfl rfl 3 (by decide) (hts _ in_102) (fun _ h9 => h9) rfl dMd_apply_288 ?_
        refine lv_iload_n hx hb dMd_apply_291 rfl (lv_at hl 6 rfl) ?_
        refine vq_iald (k := k) (f := ma 1) hx hb hK hP 2 0 rfl rfl rfl (by omega) (by decide) dMd_apply_292 ?_
        refine vq_iast (k := k) (f := ma 1) hx hb hK hP hD hS 2 0 rfl rfl rfl (by omega) (by decide) dMd_apply_293 (fun H locs hP hD hS => ?_)
        have hP : va_P (dC, dI) vwCl (wM y y1 y2 y3 y4 y5 y6 y7 y8 y9 y10 cI (va_up mi 0 0) (va_up (va_up (va_up (va_up (va_up (va_up (va_up (va_up (va_up ma 0 (upd (ma 0) k (nI (n + 1)))) 7 (upd (ma 7) ((64 * k) + ((n + 1) % 64)) 0)) 8 (m_cp (ma 8) (16 * ((64 * k) + ((n + 1) % 64))) (16 * ((64 * k) + (n % 64))) 16)) 5 (upd (ma 5) ((16 * k) + se) (mi 3))) 6 (upd (ma 6) ((16 * k) + se) 2)) 2 (upd (ma 2) k (((ma 2) k) + 0))) 3 (upd (ma 3) k (((ma 3) k) + 1))) 4 (upd (ma 4) k (((ma 4) k) + 0))) 1 (upd (ma 1) k ((ma 1) k)))) H := hP
        have hD : va_D A (wM y y1 y2 y3 y4 y5 y6 y7 y8 y9 y10 cI (va_up mi 0 0) (va_up (va_up (va_up (va_up (va_up (va_up (va_up (va_up (va_up ma 0 (upd (ma 0) k (nI (n + 1)))) 7 (upd (ma 7) ((64 * k) + ((n + 1) % 64)) 0)) 8 (m_cp (ma 8) (16 * ((64 * k) + ((n + 1) % 64))) (16 * ((64 * k) + (n % 64))) 16)) 5 (upd (ma 5) ((16 * k) + se) (mi 3))) 6 (upd (ma 6) ((16 * k) + se) 2)) 2 (upd (ma 2) k (((ma 2) k) + 0))) 3 (upd (ma 3) k (((ma 3) k) + 1))) 4 (upd (ma 4) k (((ma 4) k) + 0))) 1 (upd (ma 1) k ((ma 1) k)))) := hD
        refine lv_iload_n hx hb dMd_apply_294 rfl (lv_at hl 4 rfl) ?_
        have hP9 : va_P (dC, dI) vwCl (wM y y1 y2 y3 y4 y5 y6 y7 y8 y9 y10 cI (va_up mi 0 0) ((m_ap mi ma k n se b).2)) H := by rw [m_ap_2 hv]; simp only [m_ap_, if_pos c_35]; exact hP
        have hD9 : va_D A (wM y y1 y2 y3 y4 y5 y6 y7 y8 y9 y10 cI (va_up mi 0 0) ((m_ap mi ma k n se b).2)) := by rw [m_ap_2 hv]; simp only [m_ap_, if_pos c_35]; exact hD
        exact W.iret (v := 2) hx hb hr (fun t ht hW => ⟨⟨2, (), rfl, by rw [m_ap_2 hv], by rw [ht]; exact hP9, va_K.moved hW.alike hK, hD9⟩, hS.F ht⟩) hS.2.2 dMd_apply_295
      · skip
        refine lv_iload_n hx hb dMd_apply_278 rfl (lv_at hl 3 rfl) ?_
        refine lv_aload_n hx hb dMd_apply_279 rfl (lv_at hl 5 rfl) ?_
        refine va_get (D := (dC, dI)) (ci := 3) (v := .int (mi 1)) (C := RMd) (T := TMd) (N := 17) hx hb hts inMd hown hK hP 0 rfl rfl 1 (by decide) (hts _ in_86) (fun _ h9 => h9) rfl dMd_apply_280 ?_
        refine lv_isub hx hb dMd_apply_283 ?_
        refine lv_goto (tgt := 293) hx hb dMd_apply_284 (by decide) ?_
        refine vq_iast (k := k) (f := ma 1) hx hb hK hP hD hS 2 0 rfl rfl rfl (by omega) (by decide) dMd_apply_293 (fun H locs hP hD hS => ?_)
        have hP : va_P (dC, dI) vwCl (wM y y1 y2 y3 y4 y5 y6 y7 y8 y9 y10 cI (va_up mi 0 0) (va_up (va_up (va_up (va_up (va_up (va_up (va_up (va_up (va_up ma 0 (upd (ma 0) k (nI (n + 1)))) 7 (upd (ma 7) ((64 * k) + ((n + 1) % 64)) 0)) 8 (m_cp (ma 8) (16 * ((64 * k) + ((n + 1) % 64))) (16 * ((64 * k) + (n % 64))) 16)) 5 (upd (ma 5) ((16 * k) + se) (mi 3))) 6 (upd (ma 6) ((16 * k) + se) 2)) 2 (upd (ma 2) k (((ma 2) k) + 0))) 3 (upd (ma 3) k (((ma 3) k) + 1))) 4 (upd (ma 4) k (((ma 4) k) + 0))) 1 (upd (ma 1) k ((nI (n + 1)) - (mi 1))))) H := hP
        have hD : va_D A (wM y y1 y2 y3 y4 y5 y6 y7 y8 y9 y10 cI (va_up mi 0 0) (va_up (va_up (va_up (va_up (va_up (va_up (va_up (va_up (va_up ma 0 (upd (ma 0) k (nI (n + 1)))) 7 (upd (ma 7) ((64 * k) + ((n + 1) % 64)) 0)) 8 (m_cp (ma 8) (16 * ((64 * k) + ((n + 1) % 64))) (16 * ((64 * k) + (n % 64))) 16)) 5 (upd (ma 5) ((16 * k) + se) (mi 3))) 6 (upd (ma 6) ((16 * k) + se) 2)) 2 (upd (ma 2) k (((ma 2) k) + 0))) 3 (upd (ma 3) k (((ma 3) k) + 1))) 4 (upd (ma 4) k (((ma 4) k) + 0))) 1 (upd (ma 1) k ((nI (n + 1)) - (mi 1))))) := hD
        refine lv_iload_n hx hb dMd_apply_294 rfl (lv_at hl 4 rfl) ?_
        have hP9 : va_P (dC, dI) vwCl (wM y y1 y2 y3 y4 y5 y6 y7 y8 y9 y10 cI (va_up mi 0 0) ((m_ap mi ma k n se b).2)) H := by rw [m_ap_2 hv]; simp only [m_ap_, if_neg c_35]; exact hP
        have hD9 : va_D A (wM y y1 y2 y3 y4 y5 y6 y7 y8 y9 y10 cI (va_up mi 0 0) ((m_ap mi ma k n se b).2)) := by rw [m_ap_2 hv]; simp only [m_ap_, if_neg c_35]; exact hD
        exact W.iret (v := 2) hx hb hr (fun t ht hW => ⟨⟨2, (), rfl, by rw [m_ap_2 hv], by rw [ht]; exact hP9, va_K.moved hW.alike hK, hD9⟩, hS.F ht⟩) hS.2.2 dMd_apply_295
    · skip
      have hj : j < 16 := lp_c (by decide) hj c_30
      refine lv_iload_n hx hb dMd_apply_93 rfl (lv_at hl 4 rfl) ?_
      refine lv_iconst (v := 1) hx hb dMd_apply_94 (by decide) ?_
      refine lv_icmp_ne (tgt := 115) hx hb dMd_apply_95 (by decide) (fun _ => ?_) (fun c_36 => absurd c_36 (by decide))
      refine lv_iconst (v := 0) hx hb dMd_apply_115 (by decide) ?_
      refine lv_istore (lv' := [(7, .int 0), (6, .int (nI j)), (5, .int (nI ((64 * k) + (n % 64)))), (4, .int (nI ((64 * k) + ((n + 1) % 64)))), (3, .int (nI (n + 1))), (2, .int 2), (0, .ref y), (1, .int (nI k))]) hx hb dMd_apply_116 hl (by decide) rfl (fun ls hl => ?_)
      refine lv_aload_n hx hb dMd_apply_118 rfl (lv_at hl 6 rfl) ?_
      refine va_get (D := (dC, dI)) (ci := 3) (v := .ref y9) (C := RMd) (T := TMd) (N := 17) hx hb hts inMd hown hK hP 0 rfl rfl 10 (by decide) (hts _ in_103) (fun _ h9 => h9) rfl dMd_apply_119 ?_
      refine lv_bipush (v := nI 16) hx hb dMd_apply_122 (by decide) ?_
      refine lv_iload hx hb dMd_apply_124 (lv_at hl 3 rfl) ?_
      refine lv_imul hx hb dMd_apply_126 ?_
      refine lv_ri (y := nI (16 * ((64 * k) + ((n + 1) % 64)))) (pk_mul _ _) ?_
      refine lv_iload hx hb dMd_apply_127 (lv_at hl 1 rfl) ?_
      refine lv_iadd hx hb dMd_apply_129 ?_
      refine lv_ri (y := nI ((16 * ((64 * k) + ((n + 1) % 64))) + j)) (nI_add _ _) ?_
      refine lv_iload hx hb dMd_apply_130 (lv_at hl 0 rfl) ?_
      refine lv_if_eq (tgt := 145) hx hb dMd_apply_132 (by decide) (fun _ => ?_) (fun c_37 => absurd c_37 (by decide))
      refine lv_aload_n hx hb dMd_apply_145 rfl (lv_at hl 6 rfl) ?_
      refine va_get (D := (dC, dI)) (ci := 3) (v := .ref y9) (C := RMd) (T := TMd) (N := 17) hx hb hts inMd hown hK hP 0 rfl rfl 10 (by decide) (hts _ in_103) (fun _ h9 => h9) rfl dMd_apply_146 ?_
      refine lv_bipush (v := nI 16) hx hb dMd_apply_149 (by decide) ?_
      refine lv_iload hx hb dMd_apply_151 (lv_at hl 2 rfl) ?_
      refine lv_imul hx hb dMd_apply_153 ?_
      refine lv_ri (y := nI (16 * ((64 * k) + (n % 64)))) (pk_mul _ _) ?_
      refine lv_iload hx hb dMd_apply_154 (lv_at hl 1 rfl) ?_
      refine lv_iadd hx hb dMd_apply_156 ?_
      refine lv_ri (y := nI ((16 * ((64 * k) + (n % 64))) + j)) (nI_add _ _) ?_
      refine vq_iald (k := ((16 * ((64 * k) + (n % 64))) + j)) (f := m_cp (ma 8) (16 * ((64 * k) + ((n + 1) % 64))) (16 * ((64 * k) + (n % 64))) j) hx hb hK hP 9 0 rfl rfl rfl (by omega) (by decide) dMd_apply_157 ?_
      refine vq_iast (k := ((16 * ((64 * k) + ((n + 1) % 64))) + j)) (f := m_cp (ma 8) (16 * ((64 * k) + ((n + 1) % 64))) (16 * ((64 * k) + (n % 64))) j) hx hb hK hP hD hS 9 0 rfl rfl rfl (by omega) (by decide) dMd_apply_158 (fun H locs hP hD hS => ?_)
      have hP : va_P (dC, dI) vwCl (wM y y1 y2 y3 y4 y5 y6 y7 y8 y9 y10 cI (va_up mi 0 0) (va_up (va_up (va_up ma 0 (upd (ma 0) k (nI (n + 1)))) 7 (upd (ma 7) ((64 * k) + ((n + 1) % 64)) 0)) 8 (upd (m_cp (ma 8) (16 * ((64 * k) + ((n + 1) % 64))) (16 * ((64 * k) + (n % 64))) j) ((16 * ((64 * k) + ((n + 1) % 64))) + j) ((m_cp (ma 8) (16 * ((64 * k) + ((n + 1) % 64))) (16 * ((64 * k) + (n % 64))) j) ((16 * ((64 * k) + (n % 64))) + j))))) H := hP
      have hD : va_D A (wM y y1 y2 y3 y4 y5 y6 y7 y8 y9 y10 cI (va_up mi 0 0) (va_up (va_up (va_up ma 0 (upd (ma 0) k (nI (n + 1)))) 7 (upd (ma 7) ((64 * k) + ((n + 1) % 64)) 0)) 8 (upd (m_cp (ma 8) (16 * ((64 * k) + ((n + 1) % 64))) (16 * ((64 * k) + (n % 64))) j) ((16 * ((64 * k) + ((n + 1) % 64))) + j) ((m_cp (ma 8) (16 * ((64 * k) + ((n + 1) % 64))) (16 * ((64 * k) + (n % 64))) j) ((16 * ((64 * k) + (n % 64))) + j))))) := hD
      refine lv_iinc (v := nI (j + 1)) (lv' := [(6, .int (nI (j + 1))), (7, .int 0), (5, .int (nI ((64 * k) + (n % 64)))), (4, .int (nI ((64 * k) + ((n + 1) % 64)))), (3, .int (nI (n + 1))), (2, .int 2), (0, .ref y), (1, .int (nI k))]) hx hb dMd_apply_159 hl (k := 1) rfl (by first | exact nI_1 _ | (show _ + (1 : Int32) = _; exact nI_1 _)) (by decide) rfl (fun ls hl => ?_)
      refine lv_goto (tgt := 86) hx hb dMd_apply_162 (by decide) ?_
      have hl9 : lv_has ls 8 [(6, .int (nI (j + 1))), (5, .int (nI ((64 * k) + (n % 64)))), (4, .int (nI ((64 * k) + ((n + 1) % 64)))), (3, .int (nI (n + 1))), (2, .int 2), (0, .ref y), (1, .int (nI k))] := by first | exact lv_sub hl [0, 2, 3, 4, 5, 6, 7] rfl | (simp only [m_av, m_cp]; exact lv_sub hl [0, 2, 3, 4, 5, 6, 7] rfl)
      have hP9 : va_P (dC, dI) vwCl (wM y y1 y2 y3 y4 y5 y6 y7 y8 y9 y10 cI (va_up mi 0 0) (va_up (va_up (va_up ma 0 (upd (ma 0) k (nI (n + 1)))) 7 (upd (ma 7) ((64 * k) + ((n + 1) % 64)) 0)) 8 (m_cp (ma 8) (16 * ((64 * k) + ((n + 1) % 64))) (16 * ((64 * k) + (n % 64))) (j + 1)))) H := by first | exact hP | (simp only [m_av, m_cp]; exact hP)
      have hD9 : va_D A (wM y y1 y2 y3 y4 y5 y6 y7 y8 y9 y10 cI (va_up mi 0 0) (va_up (va_up (va_up ma 0 (upd (ma 0) k (nI (n + 1)))) 7 (upd (ma 7) ((64 * k) + ((n + 1) % 64)) 0)) 8 (m_cp (ma 8) (16 * ((64 * k) + ((n + 1) % 64))) (16 * ((64 * k) + (n % 64))) (j + 1)))) := by first | exact hD | (simp only [m_av, m_cp]; exact hD)
      exact ih (j + 1, H, locs, ls) ⟨hj, hP9, hD9, hS, hl9⟩ (by show 16 - (j + 1) < 16 - j; omega)
set_option maxHeartbeats 4000000 in
set_option maxRecDepth 100000 in
/-- apply(x), no fold -/
theorem k_M_applyN (l : Launch) (dC : Nat → ClassId) (dI : Nat → Nat → Nat) (sz : Nat) (y y1 y2 y3 y4 y5 y6 y7 y8 y9 y10 : Nat) (cI : ClassId) (mi : Nat → Int32) (ma : Nat → Nat → Int32) (x : Int32) (hfx : s_lk x = 1) : Met l yMd_apply wsMd_apply ({ frames := 3, cells := 0, slots := 0, locals := 120 }) (va_Pc [.ref y, .int x] (fun U => U.heap.size = sz ∧ va_P (dC, dI) vwCl (wM y y1 y2 y3 y4 y5 y6 y7 y8 y9 y10 cI mi ma) U.heap ∧ va_K (dC, dI) vwCl [(cI, .int)] U ∧ va_D (fun _ => True) (wM y y1 y2 y3 y4 y5 y6 y7 y8 y9 y10 cI mi ma))) (va_Qi (fun (r : Int32) (_ : Unit) => r = 0) (fun _ t => va_P (dC, dI) vwCl (wM y y1 y2 y3 y4 y5 y6 y7 y8 y9 y10 cI (va_up mi 0 1) ma) t.heap ∧ va_K (dC, dI) vwCl [(cI, .int)] t ∧ va_D (va_A (wM y y1 y2 y3 y4 y5 y6 y7 y8 y9 y10 cI mi ma) sz) (wM y y1 y2 y3 y4 y5 y6 y7 y8 y9 y10 cI (va_up mi 0 1) ma)) (va_A (wM y y1 y2 y3 y4 y5 y6 y7 y8 y9 y10 cI mi ma) sz)) 0 0 (va_A (wM y y1 y2 y3 y4 y5 y6 y7 y8 y9 y10 cI mi ma) sz) := by
  refine Met.ofW (cc := cMd_apply) (maxL := 8) (ret := (some .int)) (by decide) rfl ?_
  intro p e s m args below meth c s₁ B hml hv
  obtain ⟨rfl, hsz, hP, hK, hD0⟩ := hv
  have hx := B.exec
  have hb := B.bytes
  have hr := B.returns
  have hts0 := atoms_spec (ws := wsMd_apply) B.pre
  have hts := fun (w : Cond) (h : w ∈ lw_g) => hts0 w (List.mem_cons_of_mem _ h)
  have hown : s.vm.findClass RMd = some m.cls := findClass_of_methodNamed B.named
  have hlocks := B.notSynchronized
  subst hsz
  have hD := hD0.self (sz := s.heap.size)
  generalize hAe : va_A (wM y y1 y2 y3 y4 y5 y6 y7 y8 y9 y10 cI mi ma) s.heap.size = A at hD ⊢
  have hA : ∀ q : Nat, s.heap.size ≤ q → A q := fun q h => by rw [← hAe]; exact Or.inr h
  have hS : va_S A s.heap s.heap [] := va_S.rf
  have hP : va_P (dC, dI) vwCl (wM y y1 y2 y3 y4 y5 y6 y7 y8 y9 y10 cI mi ma) s.heap := hP
  have hl := lv_entry ([.ref y, .int x]) (n := 8) (Nat.le_of_ble_eq_true rfl)
  rw [lg_entry_eq]
  generalize (lg_sl ([.ref y, .int x]) ++ List.replicate (8 - (lg_sl ([.ref y, .int x])).length) Slot.unset).toArray = ls at hl ⊢
  have hl : lv_has ls 8 [(0, .ref y), (1, .int x)] := hl
  refine lv_aload_n hx hb dMd_apply_0 rfl (lv_at hl 0 rfl) ?_
  refine lv_iload_n hx hb dMd_apply_1 rfl (lv_at hl 1 rfl) ?_
  have hPc := hP.sub (ws' := (wM y y1 y2 y3 y4 y5 y6 y7 y8 y9 y10 cI mi ma)) [0, 1, 2, 3, 4, 5, 6, 7, 8, 9, 10] rfl
  have hDc := hD.sub (ws' := (wM y y1 y2 y3 y4 y5 y6 y7 y8 y9 y10 cI mi ma)) [0, 1, 2, 3, 4, 5, 6, 7, 8, 9, 10] (by decide) rfl
  have hKc := hK.sub (tys' := [(cI, .int)]) [0] rfl
  have hFc := va_free (wc := (wM y y1 y2 y3 y4 y5 y6 y7 y8 y9 y10 cI mi ma)) hD hS hA [0, 1, 2, 3, 4, 5, 6, 7, 8, 9, 10] rfl
  refine va_calli (va_runV (As := [.int x]) (rest := []) ⟨hx, hb, hml, hown, hts⟩ (k_M_lacks1 l dC dI s.heap.size y y1 y2 y3 y4 y5 y6 y7 y8 y9 y10 cI mi ma x hfx) (cwV 1 hts (gd_V in_91 in_93 in_94 in_74 in_92) rfl rfl rfl (by decide +kernel) ⟨Nat.le_of_ble_eq_true rfl, Nat.le_of_ble_eq_true rfl⟩) ⟨fun a U g mk q => by obtain ⟨q0, q1, qP, qK, qD⟩ := q; exact ⟨q0, q1, qP, va_K.moved (u := U) (U := U.calling g mk a) (Vm.Alike.refl U.vm) qK, qD⟩, va_recv hKc hPc (ci := 3) (q0 := 0) rfl rfl, fun U hU hW => ⟨rfl, by rw [hU], by rw [hU]; exact hPc, va_K.moved hW.alike hKc, hDc.weaken (fun _ _ _ _ => trivial)⟩⟩ rfl rfl hl.1 rfl (lv_room (Nat.le_of_ble_eq_true rfl)) dMd_apply_2 ⟨Nat.le_of_ble_eq_true rfl, Nat.le_of_ble_eq_true rfl⟩) hS (fun q _ h => hFc q h) hFc (fun r_1 u t H1 locs ht hvm hw hB hz1 hk1 hS => ?_)
  obtain ⟨hP1, hK1, hD1⟩ := hB
  rw [ht] at hP1
  obtain ⟨hP, hD⟩ := va_join (wr := []) (w1 := (wM y y1 y2 y3 y4 y5 y6 y7 y8 y9 y10 cI (va_up mi 0 1) ma)) hP hD [0, 1, 2, 3, 4, 5, 6, 7, 8, 9, 10] [] rfl rfl (by decide) (by decide) hk1 hFc hP1 hD1
  generalize H1 = H at hP hS ⊢
  have hP : va_P (dC, dI) vwCl (wM y y1 y2 y3 y4 y5 y6 y7 y8 y9 y10 cI (va_up mi 0 1) ma) H := hP
  have hD : va_D A (wM y y1 y2 y3 y4 y5 y6 y7 y8 y9 y10 cI (va_up mi 0 1) ma) := hD
  have hw : r_1 = 1 := hw
  subst hw
  refine lv_if_eq (tgt := 10) hx hb dMd_apply_5 (by decide) (fun c_2 => absurd c_2 (by decide)) (fun _ => ?_)
  refine lv_iconst (v := 0) hx hb dMd_apply_8 (by decide) ?_
  have hP9 : va_P (dC, dI) vwCl (wM y y1 y2 y3 y4 y5 y6 y7 y8 y9 y10 cI (va_up mi 0 1) ma) H := by exact hP
  have hD9 : va_D A (wM y y1 y2 y3 y4 y5 y6 y7 y8 y9 y10 cI (va_up mi 0 1) ma) := by exact hD
  exact W.iret (v := 0) hx hb hr (fun t ht hW => ⟨⟨0, (), rfl, rfl, by rw [ht]; exact hP9, va_K.moved hW.alike hK, hD9⟩, hS.F ht⟩) hS.2.2 dMd_apply_9
end
section
set_option maxHeartbeats 4000000 in
set_option maxRecDepth 100000 in
/-- take(a, b) -/
theorem k_M_take (l : Launch) (dC : Nat → ClassId) (dI : Nat → Nat → Nat) (sz : Nat) (y y1 y2 y3 y4 y5 y6 y7 y8 y9 y10 : Nat) (cI : ClassId) (mi : Nat → Int32) (ma : Nat → Nat → Int32) (a b : Nat) (ha4 : a < 4) (hb4 : b < 4) : Met l yMd_take wsMd_take ({ frames := 3, cells := 0, slots := 0, locals := 120 }) (va_Pc [.ref y, .int (nI a), .int (nI b)] (fun U => U.heap.size = sz ∧ va_P (dC, dI) vwCl (wM y y1 y2 y3 y4 y5 y6 y7 y8 y9 y10 cI mi ma) U.heap ∧ va_K (dC, dI) vwCl [(cI, .int)] U ∧ va_D (fun _ => True) (wM y y1 y2 y3 y4 y5 y6 y7 y8 y9 y10 cI mi ma))) (va_Qi (fun (r : Int32) (_ : Unit) => r = (m_tk2 ma a b).1) (fun _ t => va_P (dC, dI) vwCl (wM y y1 y2 y3 y4 y5 y6 y7 y8 y9 y10 cI (va_up mi 0 0) ((m_tk2 ma a b).2)) t.heap ∧ va_K (dC, dI) vwCl [(cI, .int)] t ∧ va_D (va_A (wM y y1 y2 y3 y4 y5 y6 y7 y8 y9 y10 cI mi ma) sz) (wM y y1 y2 y3 y4 y5 y6 y7 y8 y9 y10 cI (va_up mi 0 0) ((m_tk2 ma a b).2))) (va_A (wM y y1 y2 y3 y4 y5 y6 y7 y8 y9 y10 cI mi ma) sz)) 0 0 (va_A (wM y y1 y2 y3 y4 y5 y6 y7 y8 y9 y10 cI mi ma) sz) := by
  refine Met.ofW (cc := cMd_take) (maxL := 4) (ret := (some .boolean)) (by decide) rfl ?_
  intro p e s m args below meth c s₁ B hml hv
  obtain ⟨rfl, hsz, hP, hK, hD0⟩ := hv
  have hx := B.exec
  have hb := B.bytes
  have hr := B.returns
  have hts0 := atoms_spec (ws := wsMd_take) B.pre
  have hts := fun (w : Cond) (h : w ∈ lw_g) => hts0 w (List.mem_cons_of_mem _ h)
  have hown : s.vm.findClass RMd = some m.cls := findClass_of_methodNamed B.named
  have hlocks := B.notSynchronized
  subst hsz
  have hD := hD0.self (sz := s.heap.size)
  generalize hAe : va_A (wM y y1 y2 y3 y4 y5 y6 y7 y8 y9 y10 cI mi ma) s.heap.size = A at hD ⊢
  have hA : ∀ q : Nat, s.heap.size ≤ q → A q := fun q h => by rw [← hAe]; exact Or.inr h
  have hS : va_S A s.heap s.heap [] := va_S.rf
  have hP : va_P (dC, dI) vwCl (wM y y1 y2 y3 y4 y5 y6 y7 y8 y9 y10 cI mi ma) s.heap := hP
  have hl := lv_entry ([.ref y, .int (nI a), .int (nI b)]) (n := 4) (Nat.le_of_ble_eq_true rfl)
  rw [lg_entry_eq]
  generalize (lg_sl ([.ref y, .int (nI a), .int (nI b)]) ++ List.replicate (4 - (lg_sl ([.ref y, .int (nI a), .int (nI b)])).length) Slot.unset).toArray = ls at hl ⊢
  have hl : lv_has ls 4 [(0, .ref y), (1, .int (nI a)), (2, .int (nI b))] := hl
  refine lv_aload_n hx hb dMd_take_0 rfl (lv_at hl 0 rfl) ?_
  refine lv_iload_n hx hb dMd_take_1 rfl (lv_at hl 1 rfl) ?_
  have hPc := hP.sub (ws' := (wM y y1 y2 y3 y4 y5 y6 y7 y8 y9 y10 cI mi ma)) [0, 1, 2, 3, 4, 5, 6, 7, 8, 9, 10] rfl
  have hDc := hD.sub (ws' := (wM y y1 y2 y3 y4 y5 y6 y7 y8 y9 y10 cI mi ma)) [0, 1, 2, 3, 4, 5, 6, 7, 8, 9, 10] (by decide) rfl
  have hKc := hK.sub (tys' := [(cI, .int)]) [0] rfl
  have hFc := va_free (wc := (wM y y1 y2 y3 y4 y5 y6 y7 y8 y9 y10 cI mi ma)) hD hS hA [0, 1, 2, 3, 4, 5, 6, 7, 8, 9, 10] rfl
  refine va_calli (va_runV (As := [.int (nI a)]) (rest := []) ⟨hx, hb, hml, hown, hts⟩ (k_M_lacks0 l dC dI s.heap.size y y1 y2 y3 y4 y5 y6 y7 y8 y9 y10 cI mi ma a ha4) (cwV 1 hts (gd_V in_91 in_93 in_94 in_74 in_92) rfl rfl rfl (by decide +kernel) ⟨Nat.le_of_ble_eq_true rfl, Nat.le_of_ble_eq_true rfl⟩) ⟨fun a U g mk q => by obtain ⟨q0, q1, qP, qK, qD⟩ := q; exact ⟨q0, q1, qP, va_K.moved (u := U) (U := U.calling g mk a) (Vm.Alike.refl U.vm) qK, qD⟩, va_recv hKc hPc (ci := 3) (q0 := 0) rfl rfl, fun U hU hW => ⟨rfl, by rw [hU], by rw [hU]; exact hPc, va_K.moved hW.alike hKc, hDc.weaken (fun _ _ _ _ => trivial)⟩⟩ rfl rfl hl.1 rfl (lv_room (Nat.le_of_ble_eq_true rfl)) dMd_take_2 ⟨Nat.le_of_ble_eq_true rfl, Nat.le_of_ble_eq_true rfl⟩) hS (fun q _ h => hFc q h) hFc (fun r_1 u t H1 locs ht hvm hw hB hz1 hk1 hS => ?_)
  obtain ⟨hP1, hK1, hD1⟩ := hB
  rw [ht] at hP1
  obtain ⟨hP, hD⟩ := va_join (wr := []) (w1 := (wM y y1 y2 y3 y4 y5 y6 y7 y8 y9 y10 cI (va_up mi 0 0) ma)) hP hD [0, 1, 2, 3, 4, 5, 6, 7, 8, 9, 10] [] rfl rfl (by decide) (by decide) hk1 hFc hP1 hD1
  generalize H1 = H at hP hS ⊢
  have hP : va_P (dC, dI) vwCl (wM y y1 y2 y3 y4 y5 y6 y7 y8 y9 y10 cI (va_up mi 0 0) ma) H := hP
  have hD : va_D A (wM y y1 y2 y3 y4 y5 y6 y7 y8 y9 y10 cI (va_up mi 0 0) ma) := hD
  have hw : r_1 = 0 := hw
  subst hw
  refine lv_if_ne (tgt := 31) hx hb dMd_take_5 (by decide) (fun c_2 => absurd c_2 (by decide)) (fun _ => ?_)
  refine lv_aload_n hx hb dMd_take_8 rfl (lv_at hl 0 rfl) ?_
  refine lv_iload_n hx hb dMd_take_9 rfl (lv_at hl 2 rfl) ?_
  have hPc := hP.sub (ws' := (wM y y1 y2 y3 y4 y5 y6 y7 y8 y9 y10 cI (va_up mi 0 0) ma)) [0, 1, 2, 3, 4, 5, 6, 7, 8, 9, 10] rfl
  have hDc := hD.sub (ws' := (wM y y1 y2 y3 y4 y5 y6 y7 y8 y9 y10 cI (va_up mi 0 0) ma)) [0, 1, 2, 3, 4, 5, 6, 7, 8, 9, 10] (by decide) rfl
  have hKc := hK.sub (tys' := [(cI, .int)]) [0] rfl
  have hFc := va_free (wc := (wM y y1 y2 y3 y4 y5 y6 y7 y8 y9 y10 cI (va_up mi 0 0) ma)) hD hS hA [0, 1, 2, 3, 4, 5, 6, 7, 8, 9, 10] rfl
  refine va_calli (va_runV (As := [.int (nI b)]) (rest := []) ⟨hx, hb, hml, hown, hts⟩ (k_M_lacks0 l dC dI H.size y y1 y2 y3 y4 y5 y6 y7 y8 y9 y10 cI (va_up mi 0 0) ma b hb4) (cwV 1 hts (gd_V in_91 in_93 in_94 in_74 in_92) rfl rfl rfl (by decide +kernel) ⟨Nat.le_of_ble_eq_true rfl, Nat.le_of_ble_eq_true rfl⟩) ⟨fun a U g mk q => by obtain ⟨q0, q1, qP, qK, qD⟩ := q; exact ⟨q0, q1, qP, va_K.moved (u := U) (U := U.calling g mk a) (Vm.Alike.refl U.vm) qK, qD⟩, va_recv hKc hPc (ci := 3) (q0 := 0) rfl rfl, fun U hU hW => ⟨rfl, by rw [hU], by rw [hU]; exact hPc, va_K.moved hW.alike hKc, hDc.weaken (fun _ _ _ _ => trivial)⟩⟩ rfl rfl hl.1 rfl (lv_room (Nat.le_of_ble_eq_true rfl)) dMd_take_10 ⟨Nat.le_of_ble_eq_true rfl, Nat.le_of_ble_eq_true rfl⟩) hS (fun q _ h => hFc q h) hFc (fun r_3 u t H1 locs ht hvm hw hB hz1 hk1 hS => ?_)
  obtain ⟨hP1, hK1, hD1⟩ := hB
  rw [ht] at hP1
  obtain ⟨hP, hD⟩ := va_join (wr := []) (w1 := (wM y y1 y2 y3 y4 y5 y6 y7 y8 y9 y10 cI (va_up mi 0 0) ma)) hP hD [0, 1, 2, 3, 4, 5, 6, 7, 8, 9, 10] [] rfl rfl (by decide) (by decide) hk1 hFc hP1 hD1
  generalize H1 = H at hP hS ⊢
  have hP : va_P (dC, dI) vwCl (wM y y1 y2 y3 y4 y5 y6 y7 y8 y9 y10 cI (va_up mi 0 0) ma) H := hP
  have hD : va_D A (wM y y1 y2 y3 y4 y5 y6 y7 y8 y9 y10 cI (va_up mi 0 0) ma) := hD
  have hw : r_3 = 0 := hw
  subst hw
  refine lv_if_ne (tgt := 31) hx hb dMd_take_13 (by decide) (fun c_4 => absurd c_4 (by decide)) (fun _ => ?_)
  refine lv_aload_n hx hb dMd_take_16 rfl (lv_at hl 0 rfl) ?_
  refine va_get (D := (dC, dI)) (ci := 3) (v := .ref y1) (C := RMd) (T := TMd) (N := 17) hx hb hts inMd hown hK hP 0 rfl rfl 2 (by decide) (hts _ in_82) (fun _ h9 => h9) rfl dMd_take_17 ?_
  refine lv_iload_n hx hb dMd_take_20 rfl (lv_at hl 1 rfl) ?_
  refine vq_iald (k := a) (f := ma 0) hx hb hK hP 1 0 rfl rfl rfl (by omega) (by decide) dMd_take_21 ?_
  refine lv_aload_n hx hb dMd_take_22 rfl (lv_at hl 0 rfl) ?_
  refine va_get (D := (dC, dI)) (ci := 3) (v := .ref y1) (C := RMd) (T := TMd) (N := 17) hx hb hts inMd hown hK hP 0 rfl rfl 2 (by decide) (hts _ in_82) (fun _ h9 => h9) rfl dMd_take_23 ?_
  refine lv_iload_n hx hb dMd_take_26 rfl (lv_at hl 2 rfl) ?_
  refine vq_iald (k := b) (f := ma 0) hx hb hK hP 1 0 rfl rfl rfl (by omega) (by decide) dMd_take_27 ?_
  refine lv_icmp_gt (tgt := 33) hx hb dMd_take_28 (by decide) (fun c_5 => ?_) (fun c_5 => ?_)
  · skip
    refine lv_aload_n hx hb dMd_take_33 rfl (lv_at hl 0 rfl) ?_
    refine va_get (D := (dC, dI)) (ci := 3) (v := .ref y1) (C := RMd) (T := TMd) (N := 17) hx hb hts inMd hown hK hP 0 rfl rfl 2 (by decide) (hts _ in_82) (fun _ h9 => h9) rfl dMd_take_34 ?_
    refine lv_iload_n hx hb dMd_take_37 rfl (lv_at hl 2 rfl) ?_
    refine lv_aload_n hx hb dMd_take_38 rfl (lv_at hl 0 rfl) ?_
    refine va_get (D := (dC, dI)) (ci := 3) (v := .ref y1) (C := RMd) (T := TMd) (N := 17) hx hb hts inMd hown hK hP 0 rfl rfl 2 (by decide) (hts _ in_82) (fun _ h9 => h9) rfl dMd_take_39 ?_
    refine lv_iload_n hx hb dMd_take_42 rfl (lv_at hl 1 rfl) ?_
    refine vq_iald (k := a) (f := ma 0) hx hb hK hP 1 0 rfl rfl rfl (by omega) (by decide) dMd_take_43 ?_
    refine vq_iast (k := b) (f := ma 0) hx hb hK hP hD hS 1 0 rfl rfl rfl (by omega) (by decide) dMd_take_44 (fun H locs hP hD hS => ?_)
    have hP : va_P (dC, dI) vwCl (wM y y1 y2 y3 y4 y5 y6 y7 y8 y9 y10 cI (va_up mi 0 0) (va_up ma 0 (upd (ma 0) b ((ma 0) a)))) H := hP
    have hD : va_D A (wM y y1 y2 y3 y4 y5 y6 y7 y8 y9 y10 cI (va_up mi 0 0) (va_up ma 0 (upd (ma 0) b ((ma 0) a)))) := hD
    refine lv_aload_n hx hb dMd_take_45 rfl (lv_at hl 0 rfl) ?_
    refine va_get (D := (dC, dI)) (ci := 3) (v := .ref y2) (C := RMd) (T := TMd) (N := 17) hx hb hts inMd hown hK hP 0 rfl rfl 3 (by decide) (hts _ in_102) (fun _ h9 => h9) rfl dMd_take_46 ?_
    refine lv_iload_n hx hb dMd_take_49 rfl (lv_at hl 2 rfl) ?_
    refine lv_aload_n hx hb dMd_take_50 rfl (lv_at hl 0 rfl) ?_
    refine va_get (D := (dC, dI)) (ci := 3) (v := .ref y1) (C := RMd) (T := TMd) (N := 17) hx hb hts inMd hown hK hP 0 rfl rfl 2 (by decide) (hts _ in_82) (fun _ h9 => h9) rfl dMd_take_51 ?_
    refine lv_iload_n hx hb dMd_take_54 rfl (lv_at hl 1 rfl) ?_
    refine vq_iald (k := a) (f := upd (ma 0) b ((ma 0) a)) hx hb hK hP 1 0 rfl rfl rfl (by omega) (by decide) dMd_take_55 ?_
    refine vq_iast (k := b) (f := ma 1) hx hb hK hP hD hS 2 0 rfl rfl rfl (by omega) (by decide) dMd_take_56 (fun H locs hP hD hS => ?_)
    have hP : va_P (dC, dI) vwCl (wM y y1 y2 y3 y4 y5 y6 y7 y8 y9 y10 cI (va_up mi 0 0) (va_up (va_up ma 0 (upd (ma 0) b ((ma 0) a))) 1 (upd (ma 1) b ((upd (ma 0) b ((ma 0) a)) a)))) H := hP
    have hD : va_D A (wM y y1 y2 y3 y4 y5 y6 y7 y8 y9 y10 cI (va_up mi 0 0) (va_up (va_up ma 0 (upd (ma 0) b ((ma 0) a))) 1 (upd (ma 1) b ((upd (ma 0) b ((ma 0) a)) a)))) := hD
    refine lv_aload_n hx hb dMd_take_57 rfl (lv_at hl 0 rfl) ?_
    refine va_get (D := (dC, dI)) (ci := 3) (v := .ref y3) (C := RMd) (T := TMd) (N := 17) hx hb hts inMd hown hK hP 0 rfl rfl 4 (by decide) (hts _ in_99) (fun _ h9 => h9) rfl dMd_take_58 ?_
    refine lv_iload_n hx hb dMd_take_61 rfl (lv_at hl 2 rfl) ?_
    refine lv_aload_n hx hb dMd_take_62 rfl (lv_at hl 0 rfl) ?_
    refine va_get (D := (dC, dI)) (ci := 3) (v := .ref y3) (C := RMd) (T := TMd) (N := 17) hx hb hts inMd hown hK hP 0 rfl rfl 4 (by decide) (hts _ in_99) (fun _ h9 => h9) rfl dMd_take_63 ?_
    refine lv_iload_n hx hb dMd_take_66 rfl (lv_at hl 1 rfl) ?_
    refine vq_iald (k := a) (f := ma 2) hx hb hK hP 3 0 rfl rfl rfl (by omega) (by decide) dMd_take_67 ?_
    refine vq_iast (k := b) (f := ma 2) hx hb hK hP hD hS 3 0 rfl rfl rfl (by omega) (by decide) dMd_take_68 (fun H locs hP hD hS => ?_)
    have hP : va_P (dC, dI) vwCl (wM y y1 y2 y3 y4 y5 y6 y7 y8 y9 y10 cI (va_up mi 0 0) (va_up (va_up (va_up ma 0 (upd (ma 0) b ((ma 0) a))) 1 (upd (ma 1) b ((upd (ma 0) b ((ma 0) a)) a))) 2 (upd (ma 2) b ((ma 2) a)))) H := hP
    have hD : va_D A (wM y y1 y2 y3 y4 y5 y6 y7 y8 y9 y10 cI (va_up mi 0 0) (va_up (va_up (va_up ma 0 (upd (ma 0) b ((ma 0) a))) 1 (upd (ma 1) b ((upd (ma 0) b ((ma 0) a)) a))) 2 (upd (ma 2) b ((ma 2) a)))) := hD
    refine lv_aload_n hx hb dMd_take_69 rfl (lv_at hl 0 rfl) ?_
    refine va_get (D := (dC, dI)) (ci := 3) (v := .ref y4) (C := RMd) (T := TMd) (N := 17) hx hb hts inMd hown hK hP 0 rfl rfl 5 (by decide) (hts _ in_100) (fun _ h9 => h9) rfl dMd_take_70 ?_
    refine lv_iload_n hx hb dMd_take_73 rfl (lv_at hl 2 rfl) ?_
    refine lv_aload_n hx hb dMd_take_74 rfl (lv_at hl 0 rfl) ?_
    refine va_get (D := (dC, dI)) (ci := 3) (v := .ref y4) (C := RMd) (T := TMd) (N := 17) hx hb hts inMd hown hK hP 0 rfl rfl 5 (by decide) (hts _ in_100) (fun _ h9 => h9) rfl dMd_take_75 ?_
    refine lv_iload_n hx hb dMd_take_78 rfl (lv_at hl 1 rfl) ?_
    refine vq_iald (k := a) (f := ma 3) hx hb hK hP 4 0 rfl rfl rfl (by omega) (by decide) dMd_take_79 ?_
    refine vq_iast (k := b) (f := ma 3) hx hb hK hP hD hS 4 0 rfl rfl rfl (by omega) (by decide) dMd_take_80 (fun H locs hP hD hS => ?_)
    have hP : va_P (dC, dI) vwCl (wM y y1 y2 y3 y4 y5 y6 y7 y8 y9 y10 cI (va_up mi 0 0) (va_up (va_up (va_up (va_up ma 0 (upd (ma 0) b ((ma 0) a))) 1 (upd (ma 1) b ((upd (ma 0) b ((ma 0) a)) a))) 2 (upd (ma 2) b ((ma 2) a))) 3 (upd (ma 3) b ((ma 3) a)))) H := hP
    have hD : va_D A (wM y y1 y2 y3 y4 y5 y6 y7 y8 y9 y10 cI (va_up mi 0 0) (va_up (va_up (va_up (va_up ma 0 (upd (ma 0) b ((ma 0) a))) 1 (upd (ma 1) b ((upd (ma 0) b ((ma 0) a)) a))) 2 (upd (ma 2) b ((ma 2) a))) 3 (upd (ma 3) b ((ma 3) a)))) := hD
    refine lv_aload_n hx hb dMd_take_81 rfl (lv_at hl 0 rfl) ?_
    refine va_get (D := (dC, dI)) (ci := 3) (v := .ref y5) (C := RMd) (T := TMd) (N := 17) hx hb hts inMd hown hK hP 0 rfl rfl 6 (by decide) (hts _ in_101) (fun _ h9 => h9) rfl dMd_take_82 ?_
    refine lv_iload_n hx hb dMd_take_85 rfl (lv_at hl 2 rfl) ?_
    refine lv_aload_n hx hb dMd_take_86 rfl (lv_at hl 0 rfl) ?_
    refine va_get (D := (dC, dI)) (ci := 3) (v := .ref y5) (C := RMd) (T := TMd) (N := 17) hx hb hts inMd hown hK hP 0 rfl rfl 6 (by decide) (hts _ in_101) (fun _ h9 => h9) rfl dMd_take_87 ?_
    refine lv_iload_n hx hb dMd_take_90 rfl (lv_at hl 1 rfl) ?_
    refine vq_iald (k := a) (f := ma 4) hx hb hK hP 5 0 rfl rfl rfl (by omega) (by decide) dMd_take_91 ?_
    refine vq_iast (k := b) (f := ma 4) hx hb hK hP hD hS 5 0 rfl rfl rfl (by omega) (by decide) dMd_take_92 (fun H locs hP hD hS => ?_)
    have hP : va_P (dC, dI) vwCl (wM y y1 y2 y3 y4 y5 y6 y7 y8 y9 y10 cI (va_up mi 0 0) (va_up (va_up (va_up (va_up (va_up ma 0 (upd (ma 0) b ((ma 0) a))) 1 (upd (ma 1) b ((upd (ma 0) b ((ma 0) a)) a))) 2 (upd (ma 2) b ((ma 2) a))) 3 (upd (ma 3) b ((ma 3) a))) 4 (upd (ma 4) b ((ma 4) a)))) H := hP
    have hD : va_D A (wM y y1 y2 y3 y4 y5 y6 y7 y8 y9 y10 cI (va_up mi 0 0) (va_up (va_up (va_up (va_up (va_up ma 0 (upd (ma 0) b ((ma 0) a))) 1 (upd (ma 1) b ((upd (ma 0) b ((ma 0) a)) a))) 2 (upd (ma 2) b ((ma 2) a))) 3 (upd (ma 3) b ((ma 3) a))) 4 (upd (ma 4) b ((ma 4) a)))) := hD
    refine lv_iconst (v := 0) hx hb dMd_take_93 (by decide) ?_
    refine lv_istore_n (lv' := [(3, .int 0), (0, .ref y), (1, .int (nI a)), (2, .int (nI b))]) hx hb dMd_take_94 rfl hl (by decide) rfl (fun ls hl => ?_)
    refine wl_rw (σ := Nat × Heap × List Loc × Array Slot) (fun z9 => (z9.2.1, z9.2.2.1, F0 m 95 z9.2.2.2 [])) (fun z9 => z9.1 ≤ 16 ∧ va_P (dC, dI) vwCl (wM y y1 y2 y3 y4 y5 y6 y7 y8 y9 y10 cI (va_up mi 0 0) (va_up (va_up (va_up (va_up (va_up (va_up (va_up ma 0 (upd (ma 0) b (ma 0 a))) 1 (upd (ma 1) b (upd (ma 0) b (ma 0 a) a))) 2 (upd (ma 2) b (ma 2 a))) 3 (upd (ma 3) b (ma 3 a))) 4 (upd (ma 4) b (ma 4 a))) 5 (m_cp (ma 5) (16 * b) (16 * a) z9.1)) 6 (m_cp (ma 6) (16 * b) (16 * a) z9.1))) z9.2.1 ∧ va_D A (wM y y1 y2 y3 y4 y5 y6 y7 y8 y9 y10 cI (va_up mi 0 0) (va_up (va_up (va_up (va_up (va_up (va_up (va_up ma 0 (upd (ma 0) b (ma 0 a))) 1 (upd (ma 1) b (upd (ma 0) b (ma 0 a) a))) 2 (upd (ma 2) b (ma 2 a))) 3 (upd (ma 3) b (ma 3 a))) 4 (upd (ma 4) b (ma 4 a))) 5 (m_cp (ma 5) (16 * b) (16 * a) z9.1)) 6 (m_cp (ma 6) (16 * b) (16 * a) z9.1))) ∧ va_S A s.heap z9.2.1 z9.2.2.1 ∧ lv_has z9.2.2.2 4 [(3, .int (nI z9.1)), (0, .ref y), (1, .int (nI a)), (2, .int (nI b))]) (fun z9 => 16 - z9.1) ?_ (0, H, locs, ls) ⟨by omega, hP, hD, hS, lv_sub hl [0, 1, 2, 3] rfl⟩
    rintro ⟨j, H, locs, ls⟩ ⟨hj, hP, hD, hS, hl⟩ ih
    have hj : j ≤ 16 := hj
    have hP : va_P (dC, dI) vwCl (wM y y1 y2 y3 y4 y5 y6 y7 y8 y9 y10 cI (va_up mi 0 0) (va_up (va_up (va_up (va_up (va_up (va_up (va_up ma 0 (upd (ma 0) b (ma 0 a))) 1 (upd (ma 1) b (upd (ma 0) b (ma 0 a) a))) 2 (upd (ma 2) b (ma 2 a))) 3 (upd (ma 3) b (ma 3 a))) 4 (upd (ma 4) b (ma 4 a))) 5 (m_cp (ma 5) (16 * b) (16 * a) j)) 6 (m_cp (ma 6) (16 * b) (16 * a) j))) H := hP
    have hD : va_D A (wM y y1 y2 y3 y4 y5 y6 y7 y8 y9 y10 cI (va_up mi 0 0) (va_up (va_up (va_up (va_up (va_up (va_up (va_up ma 0 (upd (ma 0) b (ma 0 a))) 1 (upd (ma 1) b (upd (ma 0) b (ma 0 a) a))) 2 (upd (ma 2) b (ma 2 a))) 3 (upd (ma 3) b (ma 3 a))) 4 (upd (ma 4) b (ma 4 a))) 5 (m_cp (ma 5) (16 * b) (16 * a) j)) 6 (m_cp (ma 6) (16 * b) (16 * a) j))) := hD
    have hS : va_S A s.heap H locs := hS
    have hl : lv_has ls 4 [(3, .int (nI j)), (0, .ref y), (1, .int (nI a)), (2, .int (nI b))] := hl
    show W p l e _ s m _ below meth c H locs _ _ _ (F0 m 95 ls [])
    refine lv_iload_n hx hb dMd_take_95 rfl (lv_at hl 0 rfl) ?_
    refine lv_bipush (v := nI 16) hx hb dMd_take_96 (by decide) ?_
    refine lv_icmp_ge (tgt := 151) hx hb dMd_take_98 (by decide) (fun c_6 => ?_) (fun c_6 => ?_)
    · skip
      have hj9 : j = 16 := lp_x (by decide) hj c_6
      subst hj9
      refine lv_iconst (v := 0) hx hb dMd_take_151 (by decide) ?_
      refine lv_istore_n (lv' := [(3, .int 0), (0, .ref y), (1, .int (nI a)), (2, .int (nI b))]) hx hb dMd_take_152 rfl hl (by decide) rfl (fun ls hl => ?_)
      refine wl_rw (σ := Nat × Heap × List Loc × Array Slot) (fun z9 => (z9.2.1, z9.2.2.1, F0 m 153 z9.2.2.2 [])) (fun z9 => z9.1 ≤ 64 ∧ va_P (dC, dI) vwCl (wM y y1 y2 y3 y4 y5 y6 y7 y8 y9 y10 cI (va_up mi 0 0) (va_up (va_up (va_up (va_up (va_up (va_up (va_up (va_up ma 0 (upd (ma 0) b (ma 0 a))) 1 (upd (ma 1) b (upd (ma 0) b (ma 0 a) a))) 2 (upd (ma 2) b (ma 2 a))) 3 (upd (ma 3) b (ma 3 a))) 4 (upd (ma 4) b (ma 4 a))) 5 (m_cp (ma 5) (16 * b) (16 * a) 16)) 6 (m_cp (ma 6) (16 * b) (16 * a) 16)) 7 (m_cp (ma 7) (64 * b) (64 * a) z9.1))) z9.2.1 ∧ va_D A (wM y y1 y2 y3 y4 y5 y6 y7 y8 y9 y10 cI (va_up mi 0 0) (va_up (va_up (va_up (va_up (va_up (va_up (va_up (va_up ma 0 (upd (ma 0) b (ma 0 a))) 1 (upd (ma 1) b (upd (ma 0) b (ma 0 a) a))) 2 (upd (ma 2) b (ma 2 a))) 3 (upd (ma 3) b (ma 3 a))) 4 (upd (ma 4) b (ma 4 a))) 5 (m_cp (ma 5) (16 * b) (16 * a) 16)) 6 (m_cp (ma 6) (16 * b) (16 * a) 16)) 7 (m_cp (ma 7) (64 * b) (64 * a) z9.1))) ∧ va_S A s.heap z9.2.1 z9.2.2.1 ∧ lv_has z9.2.2.2 4 [(3, .int (nI z9.1)), (0, .ref y), (1, .int (nI a)), (2, .int (nI b))]) (fun z9 => 64 - z9.1) ?_ (0, H, locs, ls) ⟨by omega, hP, hD, hS, lv_sub hl [0, 1, 2, 3] rfl⟩
      rintro ⟨j2, H, locs, ls⟩ ⟨hj2, hP, hD, hS, hl⟩ ih
      have hj2 : j2 ≤ 64 := hj2
      have hP : va_P (dC, dI) vwCl (wM y y1 y2 y3 y4 y5 y6 y7 y8 y9 y10 cI (va_up mi 0 0) (va_up (va_up (va_up (va_up (va_up (va_up (va_up (va_up ma 0 (upd (ma 0) b (ma 0 a))) 1 (upd (ma 1) b (upd (ma 0) b (ma 0 a) a))) 2 (upd (ma 2) b (ma 2 a))) 3 (upd (ma 3) b (ma 3 a))) 4 (upd (ma 4) b (ma 4 a))) 5 (m_cp (ma 5) (16 * b) (16 * a) 16)) 6 (m_cp (ma 6) (16 * b) (16 * a) 16)) 7 (m_cp (ma 7) (64 * b) (64 * a) j2))) H := hP
      have hD : va_D A (wM y y1 y2 y3 y4 y5 y6 y7 y8 y9 y10 cI (va_up mi 0 0) (va_up (va_up (va_up (va_up (va_up (va_up (va_up (va_up ma 0 (upd (ma 0) b (ma 0 a))) 1 (upd (ma 1) b (upd (ma 0) b (ma 0 a) a))) 2 (upd (ma 2) b (ma 2 a))) 3 (upd (ma 3) b (ma 3 a))) 4 (upd (ma 4) b (ma 4 a))) 5 (m_cp (ma 5) (16 * b) (16 * a) 16)) 6 (m_cp (ma 6) (16 * b) (16 * a) 16)) 7 (m_cp (ma 7) (64 * b) (64 * a) j2))) := hD
      have hS : va_S A s.heap H locs := hS
      have hl : lv_has ls 4 [(3, .int (nI j2)), (0, .ref y), (1, .int (nI a)), (2, .int (nI b))] := hl
      show W p l e _ s m _ below meth c H locs _ _ _ (F0 m 153 ls [])
      refine lv_iload_n hx hb dMd_take_153 rfl (lv_at hl 0 rfl) ?_
      refine lv_bipush (v := nI 64) hx hb dMd_take_154 (by decide) ?_
      refine lv_icmp_ge (tgt := 187) hx hb dMd_take_156 (by decide) (fun c_7 => ?_) (fun c_7 => ?_)
      · skip
        have hj29 : j2 = 64 := lp_x (by decide) hj2 c_7
        subst hj29
        refine lv_iconst (v := 0) hx hb dMd_take_187 (by decide) ?_
        refine lv_istore_n (lv' := [(3, .int 0), (0, .ref y), (1, .int (nI a)), (2, .int (nI b))]) hx hb dMd_take_188 rfl hl (by decide) rfl (fun ls hl => ?_)
        refine wl_rw (σ := Nat × Heap × List Loc × Array Slot) (fun z9 => (z9.2.1, z9.2.2.1, F0 m 189 z9.2.2.2 [])) (fun z9 => z9.1 ≤ 1024 ∧ va_P (dC, dI) vwCl (wM y y1 y2 y3 y4 y5 y6 y7 y8 y9 y10 cI (va_up mi 0 0) (va_up (va_up (va_up (va_up (va_up (va_up (va_up (va_up (va_up ma 0 (upd (ma 0) b (ma 0 a))) 1 (upd (ma 1) b (upd (ma 0) b (ma 0 a) a))) 2 (upd (ma 2) b (ma 2 a))) 3 (upd (ma 3) b (ma 3 a))) 4 (upd (ma 4) b (ma 4 a))) 5 (m_cp (ma 5) (16 * b) (16 * a) 16)) 6 (m_cp (ma 6) (16 * b) (16 * a) 16)) 7 (m_cp (ma 7) (64 * b) (64 * a) 64)) 8 (m_cp (ma 8) (1024 * b) (1024 * a) z9.1))) z9.2.1 ∧ va_D A (wM y y1 y2 y3 y4 y5 y6 y7 y8 y9 y10 cI (va_up mi 0 0) (va_up (va_up (va_up (va_up (va_up (va_up (va_up (va_up (va_up ma 0 (upd (ma 0) b (ma 0 a))) 1 (upd (ma 1) b (upd (ma 0) b (ma 0 a) a))) 2 (upd (ma 2) b (ma 2 a))) 3 (upd (ma 3) b (ma 3 a))) 4 (upd (ma 4) b (ma 4 a))) 5 (m_cp (ma 5) (16 * b) (16 * a) 16)) 6 (m_cp (ma 6) (16 * b) (16 * a) 16)) 7 (m_cp (ma 7) (64 * b) (64 * a) 64)) 8 (m_cp (ma 8) (1024 * b) (1024 * a) z9.1))) ∧ va_S A s.heap z9.2.1 z9.2.2.1 ∧ lv_has z9.2.2.2 4 [(3, .int (nI z9.1)), (0, .ref y), (1, .int (nI a)), (2, .int (nI b))]) (fun z9 => 1024 - z9.1) ?_ (0, H, locs, ls) ⟨by omega, hP, hD, hS, lv_sub hl [0, 1, 2, 3] rfl⟩
        rintro ⟨j3, H, locs, ls⟩ ⟨hj3, hP, hD, hS, hl⟩ ih
        have hj3 : j3 ≤ 1024 := hj3
        have hP : va_P (dC, dI) vwCl (wM y y1 y2 y3 y4 y5 y6 y7 y8 y9 y10 cI (va_up mi 0 0) (va_up (va_up (va_up (va_up (va_up (va_up (va_up (va_up (va_up ma 0 (upd (ma 0) b (ma 0 a))) 1 (upd (ma 1) b (upd (ma 0) b (ma 0 a) a))) 2 (upd (ma 2) b (ma 2 a))) 3 (upd (ma 3) b (ma 3 a))) 4 (upd (ma 4) b (ma 4 a))) 5 (m_cp (ma 5) (16 * b) (16 * a) 16)) 6 (m_cp (ma 6) (16 * b) (16 * a) 16)) 7 (m_cp (ma 7) (64 * b) (64 * a) 64)) 8 (m_cp (ma 8) (1024 * b) (1024 * a) j3))) H := hP
        have hD : va_D A (wM y y1 y2 y3 y4 y5 y6 y7 y8 y9 y10 cI (va_up mi 0 0) (va_up (va_up (va_up (va_up (va_up (va_up (va_up (va_up (va_up ma 0 (upd (ma 0) b (ma 0 a))) 1 (upd (ma 1) b (upd (ma 0) b (ma 0 a) a))) 2 (upd (ma 2) b (ma 2 a))) 3 (upd (ma 3) b (ma 3 a))) 4 (upd (ma 4) b (ma 4 a))) 5 (m_cp (ma 5) (16 * b) (16 * a) 16)) 6 (m_cp (ma 6) (16 * b) (16 * a) 16)) 7 (m_cp (ma 7) (64 * b) (64 * a) 64)) 8 (m_cp (ma 8) (1024 * b) (1024 * a) j3))) := hD
        have hS : va_S A s.heap H locs := hS
        have hl : lv_has ls 4 [(3, .int (nI j3)), (0, .ref y), (1, .int (nI a)), (2, .int (nI b))] := hl
        show W p l e _ s m _ below meth c H locs _ _ _ (F0 m 189 ls [])
        refine lv_iload_n hx hb dMd_take_189 rfl (lv_at hl 0 rfl) ?_
        refine lv_sipush (v := nI 1024) hx hb dMd_take_190 (by decide) ?_
        refine lv_icmp_ge (tgt := 226) hx hb dMd_take_193 (by decide) (fun c_8 => ?_) (fun c_8 => ?_)
        · skip
          have hj39 : j3 = 1024 := lp_x (by decide) hj3 c_8
          subst hj39
          refine lv_iconst (v := 1) hx hb dMd_take_226 (by decide) ?_
          have hP9 : va_P (dC, dI) vwCl (wM y y1 y2 y3 y4 y5 y6 y7 y8 y9 y10 cI (va_up mi 0 0) ((m_tk2 ma a b).2)) H := by simp only [m_tk2, if_pos c_5]; exact hP
          have hD9 : va_D A (wM y y1 y2 y3 y4 y5 y6 y7 y8 y9 y10 cI (va_up mi 0 0) ((m_tk2 ma a b).2)) := by simp only [m_tk2, if_pos c_5]; exact hD
          exact W.zret (v := 1) (ty := .boolean) hx hb hr rfl (fun t ht hW => ⟨⟨1, (), rfl, by simp only [m_tk2, if_pos c_5], by rw [ht]; exact hP9, va_K.moved hW.alike hK, hD9⟩, hS.F ht⟩) hS.2.2 dMd_take_227
        · skip
          have hj3 : j3 < 1024 := lp_c (by decide) hj3 c_8
          refine lv_aload_n hx hb dMd_take_196 rfl (lv_at hl 1 rfl) ?_
          refine va_get (D := (dC, dI)) (ci := 3) (v := .ref y9) (C := RMd) (T := TMd) (N := 17) hx hb hts inMd hown hK hP 0 rfl rfl 10 (by decide) (hts _ in_103) (fun _ h9 => h9) rfl dMd_take_197 ?_
          refine lv_sipush (v := nI 1024) hx hb dMd_take_200 (by decide) ?_
          refine lv_iload_n hx hb dMd_take_203 rfl (lv_at hl 3 rfl) ?_
          refine lv_imul hx hb dMd_take_204 ?_
          refine lv_ri (y := nI (1024 * b)) (pk_mul _ _) ?_
          refine lv_iload_n hx hb dMd_take_205 rfl (lv_at hl 0 rfl) ?_
          refine lv_iadd hx hb dMd_take_206 ?_
          refine lv_ri (y := nI ((1024 * b) + j3)) (nI_add _ _) ?_
          refine lv_aload_n hx hb dMd_take_207 rfl (lv_at hl 1 rfl) ?_
          refine va_get (D := (dC, dI)) (ci := 3) (v := .ref y9) (C := RMd) (T := TMd) (N := 17) hx hb hts inMd hown hK hP 0 rfl rfl 10 (by decide) (hts _ in_103) (fun _ h9 => h9) rfl dMd_take_208 ?_
          refine lv_sipush (v := nI 1024) hx hb dMd_take_211 (by decide) ?_
          refine lv_iload_n hx hb dMd_take_214 rfl (lv_at hl 2 rfl) ?_
          refine lv_imul hx hb dMd_take_215 ?_
          refine lv_ri (y := nI (1024 * a)) (pk_mul _ _) ?_
          refine lv_iload_n hx hb dMd_take_216 rfl (lv_at hl 0 rfl) ?_
          refine lv_iadd hx hb dMd_take_217 ?_
          refine lv_ri (y := nI ((1024 * a) + j3)) (nI_add _ _) ?_
          refine vq_iald (k := ((1024 * a) + j3)) (f := m_cp (ma 8) (1024 * b) (1024 * a) j3) hx hb hK hP 9 0 rfl rfl rfl (by omega) (by decide) dMd_take_218 ?_
          refine vq_iast (k := ((1024 * b) + j3)) (f := m_cp (ma 8) (1024 * b) (1024 * a) j3) hx hb hK hP hD hS 9 0 rfl rfl rfl (by omega) (by decide) dMd_take_219 (fun H locs hP hD hS => ?_)
          have hP : va_P (dC, dI) vwCl (wM y y1 y2 y3 y4 y5 y6 y7 y8 y9 y10 cI (va_up mi 0 0) (va_up (va_up (va_up (va_up (va_up (va_up (va_up (va_up (va_up ma 0 (upd (ma 0) b (ma 0 a))) 1 (upd (ma 1) b (upd (ma 0) b (ma 0 a) a))) 2 (upd (ma 2) b (ma 2 a))) 3 (upd (ma 3) b (ma 3 a))) 4 (upd (ma 4) b (ma 4 a))) 5 (m_cp (ma 5) (16 * b) (16 * a) 16)) 6 (m_cp (ma 6) (16 * b) (16 * a) 16)) 7 (m_cp (ma 7) (64 * b) (64 * a) 64)) 8 (upd (m_cp (ma 8) (1024 * b) (1024 * a) j3) ((1024 * b) + j3) ((m_cp (ma 8) (1024 * b) (1024 * a) j3) ((1024 * a) + j3))))) H := hP
          have hD : va_D A (wM y y1 y2 y3 y4 y5 y6 y7 y8 y9 y10 cI (va_up mi 0 0) (va_up (va_up (va_up (va_up (va_up (va_up (va_up (va_up (va_up ma 0 (upd (ma 0) b (ma 0 a))) 1 (upd (ma 1) b (upd (ma 0) b (ma 0 a) a))) 2 (upd (ma 2) b (ma 2 a))) 3 (upd (ma 3) b (ma 3 a))) 4 (upd (ma 4) b (ma 4 a))) 5 (m_cp (ma 5) (16 * b) (16 * a) 16)) 6 (m_cp (ma 6) (16 * b) (16 * a) 16)) 7 (m_cp (ma 7) (64 * b) (64 * a) 64)) 8 (upd (m_cp (ma 8) (1024 * b) (1024 * a) j3) ((1024 * b) + j3) ((m_cp (ma 8) (1024 * b) (1024 * a) j3) ((1024 * a) + j3))))) := hD
          refine lv_iinc (v := nI (j3 + 1)) (lv' := [(3, .int (nI (j3 + 1))), (0, .ref y), (1, .int (nI a)), (2, .int (nI b))]) hx hb dMd_take_220 hl (k := 0) rfl (by first | exact nI_1 _ | (show _ + (1 : Int32) = _; exact nI_1 _)) (by decide) rfl (fun ls hl => ?_)
          refine lv_goto (tgt := 189) hx hb dMd_take_223 (by decide) ?_
          have hl9 : lv_has ls 4 [(3, .int (nI (j3 + 1))), (0, .ref y), (1, .int (nI a)), (2, .int (nI b))] := by first | exact lv_sub hl [0, 1, 2, 3] rfl | (simp only [m_cp, if_pos c_5]; exact lv_sub hl [0, 1, 2, 3] rfl)
          have hP9 : va_P (dC, dI) vwCl (wM y y1 y2 y3 y4 y5 y6 y7 y8 y9 y10 cI (va_up mi 0 0) (va_up (va_up (va_up (va_up (va_up (va_up (va_up (va_up (va_up ma 0 (upd (ma 0) b (ma 0 a))) 1 (upd (ma 1) b (upd (ma 0) b (ma 0 a) a))) 2 (upd (ma 2) b (ma 2 a))) 3 (upd (ma 3) b (ma 3 a))) 4 (upd (ma 4) b (ma 4 a))) 5 (m_cp (ma 5) (16 * b) (16 * a) 16)) 6 (m_cp (ma 6) (16 * b) (16 * a) 16)) 7 (m_cp (ma 7) (64 * b) (64 * a) 64)) 8 (m_cp (ma 8) (1024 * b) (1024 * a) (j3 + 1)))) H := by first | exact hP | (simp only [m_cp, if_pos c_5]; exact hP)
          have hD9 : va_D A (wM y y1 y2 y3 y4 y5 y6 y7 y8 y9 y10 cI (va_up mi 0 0) (va_up (va_up (va_up (va_up (va_up (va_up (va_up (va_up (va_up ma 0 (upd (ma 0) b (ma 0 a))) 1 (upd (ma 1) b (upd (ma 0) b (ma 0 a) a))) 2 (upd (ma 2) b (ma 2 a))) 3 (upd (ma 3) b (ma 3 a))) 4 (upd (ma 4) b (ma 4 a))) 5 (m_cp (ma 5) (16 * b) (16 * a) 16)) 6 (m_cp (ma 6) (16 * b) (16 * a) 16)) 7 (m_cp (ma 7) (64 * b) (64 * a) 64)) 8 (m_cp (ma 8) (1024 * b) (1024 * a) (j3 + 1)))) := by first | exact hD | (simp only [m_cp, if_pos c_5]; exact hD)
          exact ih (j3 + 1, H, locs, ls) ⟨hj3, hP9, hD9, hS, hl9⟩ (by show 1024 - (j3 + 1) < 1024 - j3; omega)
      · skip
        have hj2 : j2 < 64 := lp_c (by decide) hj2 c_7
        refine lv_aload_n hx hb dMd_take_159 rfl (lv_at hl 1 rfl) ?_
        refine va_get (D := (dC, dI)) (ci := 3) (v := .ref y8) (C := RMd) (T := TMd) (N := 17) hx hb hts inMd hown hK hP 0 rfl rfl 9 (by decide) (hts _ in_83) (fun _ h9 => h9) rfl dMd_take_160 ?_
        refine lv_bipush (v := nI 64) hx hb dMd_take_163 (by decide) ?_
        refine lv_iload_n hx hb dMd_take_165 rfl (lv_at hl 3 rfl) ?_
        refine lv_imul hx hb dMd_take_166 ?_
        refine lv_ri (y := nI (64 * b)) (pk_mul _ _) ?_
        refine lv_iload_n hx hb dMd_take_167 rfl (lv_at hl 0 rfl) ?_
        refine lv_iadd hx hb dMd_take_168 ?_
        refine lv_ri (y := nI ((64 * b) + j2)) (nI_add _ _) ?_
        refine lv_aload_n hx hb dMd_take_169 rfl (lv_at hl 1 rfl) ?_
        refine va_get (D := (dC, dI)) (ci := 3) (v := .ref y8) (C := RMd) (T := TMd) (N := 17) hx hb hts inMd hown hK hP 0 rfl rfl 9 (by decide) (hts _ in_83) (fun _ h9 => h9) rfl dMd_take_170 ?_
        refine lv_bipush (v := nI 64) hx hb dMd_take_173 (by decide) ?_
        refine lv_iload_n hx hb dMd_take_175 rfl (lv_at hl 2 rfl) ?_
        refine lv_imul hx hb dMd_take_176 ?_
        refine lv_ri (y := nI (64 * a)) (pk_mul _ _) ?_
        refine lv_iload_n hx hb dMd_take_177 rfl (lv_at hl 0 rfl) ?_
        refine lv_iadd hx hb dMd_take_178 ?_
        refine lv_ri (y := nI ((64 * a) + j2)) (nI_add _ _) ?_
        refine vq_iald (k := ((64 * a) + j2)) (f := m_cp (ma 7) (64 * b) (64 * a) j2) hx hb hK hP 8 0 rfl rfl rfl (by omega) (by decide) dMd_take_179 ?_
        refine vq_iast (k := ((64 * b) + j2)) (f := m_cp (ma 7) (64 * b) (64 * a) j2) hx hb hK hP hD hS 8 0 rfl rfl rfl (by omega) (by decide) dMd_take_180 (fun H locs hP hD hS => ?_)
        have hP : va_P (dC, dI) vwCl (wM y y1 y2 y3 y4 y5 y6 y7 y8 y9 y10 cI (va_up mi 0 0) (va_up (va_up (va_up (va_up (va_up (va_up (va_up (va_up ma 0 (upd (ma 0) b (ma 0 a))) 1 (upd (ma 1) b (upd (ma 0) b (ma 0 a) a))) 2 (upd (ma 2) b (ma 2 a))) 3 (upd (ma 3) b (ma 3 a))) 4 (upd (ma 4) b (ma 4 a))) 5 (m_cp (ma 5) (16 * b) (16 * a) 16)) 6 (m_cp (ma 6) (16 * b) (16 * a) 16)) 7 (upd (m_cp (ma 7) (64 * b) (64 * a) j2) ((64 * b) + j2) ((m_cp (ma 7) (64 * b) (64 * a) j2) ((64 * a) + j2))))) H := hP
        have hD : va_D A (wM y y1 y2 y3 y4 y5 y6 y7 y8 y9 y10 cI (va_up mi 0 0) (va_up (va_up (va_up (va_up (va_up (va_up (va_up (va_up ma 0 (upd (ma 0) b (ma 0 a))) 1 (upd (ma 1) b (upd (ma 0) b (ma 0 a) a))) 2 (upd (ma 2) b (ma 2 a))) 3 (upd (ma 3) b (ma 3 a))) 4 (upd (ma 4) b (ma 4 a))) 5 (m_cp (ma 5) (16 * b) (16 * a) 16)) 6 (m_cp (ma 6) (16 * b) (16 * a) 16)) 7 (upd (m_cp (ma 7) (64 * b) (64 * a) j2) ((64 * b) + j2) ((m_cp (ma 7) (64 * b) (64 * a) j2) ((64 * a) + j2))))) := hD
        refine lv_iinc (v := nI (j2 + 1)) (lv' := [(3, .int (nI (j2 + 1))), (0, .ref y), (1, .int (nI a)), (2, .int (nI b))]) hx hb dMd_take_181 hl (k := 0) rfl (by first | exact nI_1 _ | (show _ + (1 : Int32) = _; exact nI_1 _)) (by decide) rfl (fun ls hl => ?_)
        refine lv_goto (tgt := 153) hx hb dMd_take_184 (by decide) ?_
        have hl9 : lv_has ls 4 [(3, .int (nI (j2 + 1))), (0, .ref y), (1, .int (nI a)), (2, .int (nI b))] := by first | exact lv_sub hl [0, 1, 2, 3] rfl | (simp only [m_cp, if_pos c_5]; exact lv_sub hl [0, 1, 2, 3] rfl)
        have hP9 : va_P (dC, dI) vwCl (wM y y1 y2 y3 y4 y5 y6 y7 y8 y9 y10 cI (va_up mi 0 0) (va_up (va_up (va_up (va_up (va_up (va_up (va_up (va_up ma 0 (upd (ma 0) b (ma 0 a))) 1 (upd (ma 1) b (upd (ma 0) b (ma 0 a) a))) 2 (upd (ma 2) b (ma 2 a))) 3 (upd (ma 3) b (ma 3 a))) 4 (upd (ma 4) b (ma 4 a))) 5 (m_cp (ma 5) (16 * b) (16 * a) 16)) 6 (m_cp (ma 6) (16 * b) (16 * a) 16)) 7 (m_cp (ma 7) (64 * b) (64 * a) (j2 + 1)))) H := by first | exact hP | (simp only [m_cp, if_pos c_5]; exact hP)
        have hD9 : va_D A (wM y y1 y2 y3 y4 y5 y6 y7 y8 y9 y10 cI (va_up mi 0 0) (va_up (va_up (va_up (va_up (va_up (va_up (va_up (va_up ma 0 (upd (ma 0) b (ma 0 a))) 1 (upd (ma 1) b (upd (ma 0) b (ma 0 a) a))) 2 (upd (ma 2) b (ma 2 a))) 3 (upd (ma 3) b (ma 3 a))) 4 (upd (ma 4) b (ma 4 a))) 5 (m_cp (ma 5) (16 * b) (16 * a) 16)) 6 (m_cp (ma 6) (16 * b) (16 * a) 16)) 7 (m_cp (ma 7) (64 * b) (64 * a) (j2 + 1)))) := by first | exact hD | (simp only [m_cp, if_pos c_5]; exact hD)
        exact ih (j2 + 1, H, locs, ls) ⟨hj2, hP9, hD9, hS, hl9⟩ (by show 64 - (j2 + 1) < 64 - j2; omega)
    · skip
      have hj : j < 16 := lp_c (by decide) hj c_6
      refine lv_aload_n hx hb dMd_take_101 rfl (lv_at hl 1 rfl) ?_
      refine va_get (D := (dC, dI)) (ci := 3) (v := .ref y6) (C := RMd) (T := TMd) (N := 17) hx hb hts inMd hown hK hP 0 rfl rfl 7 (by decide) (hts _ in_85) (fun _ h9 => h9) rfl dMd_take_102 ?_
      refine lv_bipush (v := nI 16) hx hb dMd_take_105 (by decide) ?_
      refine lv_iload_n hx hb dMd_take_107 rfl (lv_at hl 3 rfl) ?_
      refine lv_imul hx hb dMd_take_108 ?_
      refine lv_ri (y := nI (16 * b)) (pk_mul _ _) ?_
      refine lv_iload_n hx hb dMd_take_109 rfl (lv_at hl 0 rfl) ?_
      refine lv_iadd hx hb dMd_take_110 ?_
      refine lv_ri (y := nI ((16 * b) + j)) (nI_add _ _) ?_
      refine lv_aload_n hx hb dMd_take_111 rfl (lv_at hl 1 rfl) ?_
      refine va_get (D := (dC, dI)) (ci := 3) (v := .ref y6) (C := RMd) (T := TMd) (N := 17) hx hb hts inMd hown hK hP 0 rfl rfl 7 (by decide) (hts _ in_85) (fun _ h9 => h9) rfl dMd_take_112 ?_
      refine lv_bipush (v := nI 16) hx hb dMd_take_115 (by decide) ?_
      refine lv_iload_n hx hb dMd_take_117 rfl (lv_at hl 2 rfl) ?_
      refine lv_imul hx hb dMd_take_118 ?_
      refine lv_ri (y := nI (16 * a)) (pk_mul _ _) ?_
      refine lv_iload_n hx hb dMd_take_119 rfl (lv_at hl 0 rfl) ?_
      refine lv_iadd hx hb dMd_take_120 ?_
      refine lv_ri (y := nI ((16 * a) + j)) (nI_add _ _) ?_
      refine vq_iald (k := ((16 * a) + j)) (f := m_cp (ma 5) (16 * b) (16 * a) j) hx hb hK hP 6 0 rfl rfl rfl (by omega) (by decide) dMd_take_121 ?_
      refine vq_iast (k := ((16 * b) + j)) (f := m_cp (ma 5) (16 * b) (16 * a) j) hx hb hK hP hD hS 6 0 rfl rfl rfl (by omega) (by decide) dMd_take_122 (fun H locs hP hD hS => ?_)
      have hP : va_P (dC, dI) vwCl (wM y y1 y2 y3 y4 y5 y6 y7 y8 y9 y10 cI (va_up mi 0 0) (va_up (va_up (va_up (va_up (va_up (va_up (va_up ma 0 (upd (ma 0) b (ma 0 a))) 1 (upd (ma 1) b (upd (ma 0) b (ma 0 a) a))) 2 (upd (ma 2) b (ma 2 a))) 3 (upd (ma 3) b (ma 3 a))) 4 (upd (ma 4) b (ma 4 a))) 6 (m_cp (ma 6) (16 * b) (16 * a) j)) 5 (upd (m_cp (ma 5) (16 * b) (16 * a) j) ((16 * b) + j) ((m_cp (ma 5) (16 * b) (16 * a) j) ((16 * a) + j))))) H := hP
      have hD : va_D A (wM y y1 y2 y3 y4 y5 y6 y7 y8 y9 y10 cI (va_up mi 0 0) (va_up (va_up (va_up (va_up (va_up (va_up (va_up ma 0 (upd (ma 0) b (ma 0 a))) 1 (upd (ma 1) b (upd (ma 0) b (ma 0 a) a))) 2 (upd (ma 2) b (ma 2 a))) 3 (upd (ma 3) b (ma 3 a))) 4 (upd (ma 4) b (ma 4 a))) 6 (m_cp (ma 6) (16 * b) (16 * a) j)) 5 (upd (m_cp (ma 5) (16 * b) (16 * a) j) ((16 * b) + j) ((m_cp (ma 5) (16 * b) (16 * a) j) ((16 * a) + j))))) := hD
      refine lv_aload_n hx hb dMd_take_123 rfl (lv_at hl 1 rfl) ?_
      refine va_get (D := (dC, dI)) (ci := 3) (v := .ref y7) (C := RMd) (T := TMd) (N := 17) hx hb hts inMd hown hK hP 0 rfl rfl 8 (by decide) (hts _ in_104) (fun _ h9 => h9) rfl dMd_take_124 ?_
      refine lv_bipush (v := nI 16) hx hb dMd_take_127 (by decide) ?_
      refine lv_iload_n hx hb dMd_take_129 rfl (lv_at hl 3 rfl) ?_
      refine lv_imul hx hb dMd_take_130 ?_
      refine lv_ri (y := nI (16 * b)) (pk_mul _ _) ?_
      refine lv_iload_n hx hb dMd_take_131 rfl (lv_at hl 0 rfl) ?_
      refine lv_iadd hx hb dMd_take_132 ?_
      refine lv_ri (y := nI ((16 * b) + j)) (nI_add _ _) ?_
      refine lv_aload_n hx hb dMd_take_133 rfl (lv_at hl 1 rfl) ?_
      refine va_get (D := (dC, dI)) (ci := 3) (v := .ref y7) (C := RMd) (T := TMd) (N := 17) hx hb hts inMd hown hK hP 0 rfl rfl 8 (by decide) (hts _ in_104) (fun _ h9 => h9) rfl dMd_take_134 ?_
      refine lv_bipush (v := nI 16) hx hb dMd_take_137 (by decide) ?_
      refine lv_iload_n hx hb dMd_take_139 rfl (lv_at hl 2 rfl) ?_
      refine lv_imul hx hb dMd_take_140 ?_
      refine lv_ri (y := nI (16 * a)) (pk_mul _ _) ?_
      refine lv_iload_n hx hb dMd_take_141 rfl (lv_at hl 0 rfl) ?_
      refine lv_iadd hx hb dMd_take_142 ?_
      refine lv_ri (y := nI ((16 * a) + j)) (nI_add _ _) ?_
      refine vq_iald (k := ((16 * a) + j)) (f := m_cp (ma 6) (16 * b) (16 * a) j) hx hb hK hP 7 0 rfl rfl rfl (by omega) (by decide) dMd_take_143 ?_
      refine vq_iast (k := ((16 * b) + j)) (f := m_cp (ma 6) (16 * b) (16 * a) j) hx hb hK hP hD hS 7 0 rfl rfl rfl (by omega) (by decide) dMd_take_144 (fun H locs hP hD hS => ?_)
      have hP : va_P (dC, dI) vwCl (wM y y1 y2 y3 y4 y5 y6 y7 y8 y9 y10 cI (va_up mi 0 0) (va_up (va_up (va_up (va_up (va_up (va_up (va_up ma 0 (upd (ma 0) b (ma 0 a))) 1 (upd (ma 1) b (upd (ma 0) b (ma 0 a) a))) 2 (upd (ma 2) b (ma 2 a))) 3 (upd (ma 3) b (ma 3 a))) 4 (upd (ma 4) b (ma 4 a))) 5 (upd (m_cp (ma 5) (16 * b) (16 * a) j) ((16 * b) + j) ((m_cp (ma 5) (16 * b) (16 * a) j) ((16 * a) + j)))) 6 (upd (m_cp (ma 6) (16 * b) (16 * a) j) ((16 * b) + j) ((m_cp (ma 6) (16 * b) (16 * a) j) ((16 * a) + j))))) H := hP
      have hD : va_D A (wM y y1 y2 y3 y4 y5 y6 y7 y8 y9 y10 cI (va_up mi 0 0) (va_up (va_up (va_up (va_up (va_up (va_up (va_up ma 0 (upd (ma 0) b (ma 0 a))) 1 (upd (ma 1) b (upd (ma 0) b (ma 0 a) a))) 2 (upd (ma 2) b (ma 2 a))) 3 (upd (ma 3) b (ma 3 a))) 4 (upd (ma 4) b (ma 4 a))) 5 (upd (m_cp (ma 5) (16 * b) (16 * a) j) ((16 * b) + j) ((m_cp (ma 5) (16 * b) (16 * a) j) ((16 * a) + j)))) 6 (upd (m_cp (ma 6) (16 * b) (16 * a) j) ((16 * b) + j) ((m_cp (ma 6) (16 * b) (16 * a) j) ((16 * a) + j))))) := hD
      refine lv_iinc (v := nI (j + 1)) (lv' := [(3, .int (nI (j + 1))), (0, .ref y), (1, .int (nI a)), (2, .int (nI b))]) hx hb dMd_take_145 hl (k := 0) rfl (by first | exact nI_1 _ | (show _ + (1 : Int32) = _; exact nI_1 _)) (by decide) rfl (fun ls hl => ?_)
      refine lv_goto (tgt := 95) hx hb dMd_take_148 (by decide) ?_
      have hl9 : lv_has ls 4 [(3, .int (nI (j + 1))), (0, .ref y), (1, .int (nI a)), (2, .int (nI b))] := by first | exact lv_sub hl [0, 1, 2, 3] rfl | (simp only [m_cp, if_pos c_5]; exact lv_sub hl [0, 1, 2, 3] rfl)
      have hP9 : va_P (dC, dI) vwCl (wM y y1 y2 y3 y4 y5 y6 y7 y8 y9 y10 cI (va_up mi 0 0) (va_up (va_up (va_up (va_up (va_up (va_up (va_up ma 0 (upd (ma 0) b (ma 0 a))) 1 (upd (ma 1) b (upd (ma 0) b (ma 0 a) a))) 2 (upd (ma 2) b (ma 2 a))) 3 (upd (ma 3) b (ma 3 a))) 4 (upd (ma 4) b (ma 4 a))) 5 (m_cp (ma 5) (16 * b) (16 * a) (j + 1))) 6 (m_cp (ma 6) (16 * b) (16 * a) (j + 1)))) H := by first | exact hP | (simp only [m_cp, if_pos c_5]; exact hP)
      have hD9 : va_D A (wM y y1 y2 y3 y4 y5 y6 y7 y8 y9 y10 cI (va_up mi 0 0) (va_up (va_up (va_up (va_up (va_up (va_up (va_up ma 0 (upd (ma 0) b (ma 0 a))) 1 (upd (ma 1) b (upd (ma 0) b (ma 0 a) a))) 2 (upd (ma 2) b (ma 2 a))) 3 (upd (ma 3) b (ma 3 a))) 4 (upd (ma 4) b (ma 4 a))) 5 (m_cp (ma 5) (16 * b) (16 * a) (j + 1))) 6 (m_cp (ma 6) (16 * b) (16 * a) (j + 1)))) := by first | exact hD | (simp only [m_cp, if_pos c_5]; exact hD)
      exact ih (j + 1, H, locs, ls) ⟨hj, hP9, hD9, hS, hl9⟩ (by show 16 - (j + 1) < 16 - j; omega)
  · skip
    refine lv_iconst (v := 0) hx hb dMd_take_31 (by decide) ?_
    have hP9 : va_P (dC, dI) vwCl (wM y y1 y2 y3 y4 y5 y6 y7 y8 y9 y10 cI (va_up mi 0 0) ((m_tk2 ma a b).2)) H := by simp only [m_tk2, if_neg c_5]; exact hP
    have hD9 : va_D A (wM y y1 y2 y3 y4 y5 y6 y7 y8 y9 y10 cI (va_up mi 0 0) ((m_tk2 ma a b).2)) := by simp only [m_tk2, if_neg c_5]; exact hD
    exact W.zret (v := 0) (ty := .boolean) hx hb hr rfl (fun t ht hW => ⟨⟨0, (), rfl, by simp only [m_tk2, if_neg c_5], by rw [ht]; exact hP9, va_K.moved hW.alike hK, hD9⟩, hS.F ht⟩) hS.2.2 dMd_take_32
set_option maxHeartbeats 4000000 in
set_option maxRecDepth 100000 in
/-- take(x, z), no fold x -/
theorem k_M_takeN (l : Launch) (dC : Nat → ClassId) (dI : Nat → Nat → Nat) (sz : Nat) (y y1 y2 y3 y4 y5 y6 y7 y8 y9 y10 : Nat) (cI : ClassId) (mi : Nat → Int32) (ma : Nat → Nat → Int32) (x z : Int32) (hfx : s_lk x = 1) : Met l yMd_take wsMd_take ({ frames := 3, cells := 0, slots := 0, locals := 120 }) (va_Pc [.ref y, .int x, .int z] (fun U => U.heap.size = sz ∧ va_P (dC, dI) vwCl (wM y y1 y2 y3 y4 y5 y6 y7 y8 y9 y10 cI mi ma) U.heap ∧ va_K (dC, dI) vwCl [(cI, .int)] U ∧ va_D (fun _ => True) (wM y y1 y2 y3 y4 y5 y6 y7 y8 y9 y10 cI mi ma))) (va_Qi (fun (r : Int32) (_ : Unit) => r = 0) (fun _ t => va_P (dC, dI) vwCl (wM y y1 y2 y3 y4 y5 y6 y7 y8 y9 y10 cI (va_up mi 0 1) ma) t.heap ∧ va_K (dC, dI) vwCl [(cI, .int)] t ∧ va_D (va_A (wM y y1 y2 y3 y4 y5 y6 y7 y8 y9 y10 cI mi ma) sz) (wM y y1 y2 y3 y4 y5 y6 y7 y8 y9 y10 cI (va_up mi 0 1) ma)) (va_A (wM y y1 y2 y3 y4 y5 y6 y7 y8 y9 y10 cI mi ma) sz)) 0 0 (va_A (wM y y1 y2 y3 y4 y5 y6 y7 y8 y9 y10 cI mi ma) sz) := by
  refine Met.ofW (cc := cMd_take) (maxL := 4) (ret := (some .boolean)) (by decide) rfl ?_
  intro p e s m args below meth c s₁ B hml hv
  obtain ⟨rfl, hsz, hP, hK, hD0⟩ := hv
  have hx := B.exec
  have hb := B.bytes
  have hr := B.returns
  have hts0 := atoms_spec (ws := wsMd_take) B.pre
  have hts := fun (w : Cond) (h : w ∈ lw_g) => hts0 w (List.mem_cons_of_mem _ h)
  have hown : s.vm.findClass RMd = some m.cls := findClass_of_methodNamed B.named
  have hlocks := B.notSynchronized
  subst hsz
  have hD := hD0.self (sz := s.heap.size)
  generalize hAe : va_A (wM y y1 y2 y3 y4 y5 y6 y7 y8 y9 y10 cI mi ma) s.heap.size = A at hD ⊢
  have hA : ∀ q : Nat, s.heap.size ≤ q → A q := fun q h => by rw [← hAe]; exact Or.inr h
  have hS : va_S A s.heap s.heap [] := va_S.rf
  have hP : va_P (dC, dI) vwCl (wM y y1 y2 y3 y4 y5 y6 y7 y8 y9 y10 cI mi ma) s.heap := hP
  have hl := lv_entry ([.ref y, .int x, .int z]) (n := 4) (Nat.le_of_ble_eq_true rfl)
  rw [lg_entry_eq]
  generalize (lg_sl ([.ref y, .int x, .int z]) ++ List.replicate (4 - (lg_sl ([.ref y, .int x, .int z])).length) Slot.unset).toArray = ls at hl ⊢
  have hl : lv_has ls 4 [(0, .ref y), (1, .int x), (2, .int z)] := hl
  refine lv_aload_n hx hb dMd_take_0 rfl (lv_at hl 0 rfl) ?_
  refine lv_iload_n hx hb dMd_take_1 rfl (lv_at hl 1 rfl) ?_
  have hPc := hP.sub (ws' := (wM y y1 y2 y3 y4 y5 y6 y7 y8 y9 y10 cI mi ma)) [0, 1, 2, 3, 4, 5, 6, 7, 8, 9, 10] rfl
  have hDc := hD.sub (ws' := (wM y y1 y2 y3 y4 y5 y6 y7 y8 y9 y10 cI mi ma)) [0, 1, 2, 3, 4, 5, 6, 7, 8, 9, 10] (by decide) rfl
  have hKc := hK.sub (tys' := [(cI, .int)]) [0] rfl
  have hFc := va_free (wc := (wM y y1 y2 y3 y4 y5 y6 y7 y8 y9 y10 cI mi ma)) hD hS hA [0, 1, 2, 3, 4, 5, 6, 7, 8, 9, 10] rfl
  refine va_calli (va_runV (As := [.int x]) (rest := []) ⟨hx, hb, hml, hown, hts⟩ (k_M_lacks1 l dC dI s.heap.size y y1 y2 y3 y4 y5 y6 y7 y8 y9 y10 cI mi ma x hfx) (cwV 1 hts (gd_V in_91 in_93 in_94 in_74 in_92) rfl rfl rfl (by decide +kernel) ⟨Nat.le_of_ble_eq_true rfl, Nat.le_of_ble_eq_true rfl⟩) ⟨fun a U g mk q => by obtain ⟨q0, q1, qP, qK, qD⟩ := q; exact ⟨q0, q1, qP, va_K.moved (u := U) (U := U.calling g mk a) (Vm.Alike.refl U.vm) qK, qD⟩, va_recv hKc hPc (ci := 3) (q0 := 0) rfl rfl, fun U hU hW => ⟨rfl, by rw [hU], by rw [hU]; exact hPc, va_K.moved hW.alike hKc, hDc.weaken (fun _ _ _ _ => trivial)⟩⟩ rfl rfl hl.1 rfl (lv_room (Nat.le_of_ble_eq_true rfl)) dMd_take_2 ⟨Nat.le_of_ble_eq_true rfl, Nat.le_of_ble_eq_true rfl⟩) hS (fun q _ h => hFc q h) hFc (fun r_1 u t H1 locs ht hvm hw hB hz1 hk1 hS => ?_)
  obtain ⟨hP1, hK1, hD1⟩ := hB
  rw [ht] at hP1
  obtain ⟨hP, hD⟩ := va_join (wr := []) (w1 := (wM y y1 y2 y3 y4 y5 y6 y7 y8 y9 y10 cI (va_up mi 0 1) ma)) hP hD [0, 1, 2, 3, 4, 5, 6, 7, 8, 9, 10] [] rfl rfl (by decide) (by decide) hk1 hFc hP1 hD1
  generalize H1 = H at hP hS ⊢
  have hP : va_P (dC, dI) vwCl (wM y y1 y2 y3 y4 y5 y6 y7 y8 y9 y10 cI (va_up mi 0 1) ma) H := hP
  have hD : va_D A (wM y y1 y2 y3 y4 y5 y6 y7 y8 y9 y10 cI (va_up mi 0 1) ma) := hD
  have hw : r_1 = 1 := hw
  subst hw
  refine lv_if_ne (tgt := 31) hx hb dMd_take_5 (by decide) (fun _ => ?_) (fun c_2 => absurd c_2 (by decide))
  refine lv_iconst (v := 0) hx hb dMd_take_31 (by decide) ?_
  have hP9 : va_P (dC, dI) vwCl (wM y y1 y2 y3 y4 y5 y6 y7 y8 y9 y10 cI (va_up mi 0 1) ma) H := by exact hP
  have hD9 : va_D A (wM y y1 y2 y3 y4 y5 y6 y7 y8 y9 y10 cI (va_up mi 0 1) ma) := by exact hD
  exact W.zret (v := 0) (ty := .boolean) hx hb hr rfl (fun t ht hW => ⟨⟨0, (), rfl, rfl, by rw [ht]; exact hP9, va_K.moved hW.alike hK, hD9⟩, hS.F ht⟩) hS.2.2 dMd_take_32
set_option maxHeartbeats 4000000 in
set_option maxRecDepth 100000 in
/-- take(a, x), no fold x -/
theorem k_M_takeN2 (l : Launch) (dC : Nat → ClassId) (dI : Nat → Nat → Nat) (sz : Nat) (y y1 y2 y3 y4 y5 y6 y7 y8 y9 y10 : Nat) (cI : ClassId) (mi : Nat → Int32) (ma : Nat → Nat → Int32) (a : Nat) (ha4 : a < 4) (x : Int32) (hfx : s_lk x = 1) : Met l yMd_take wsMd_take ({ frames := 3, cells := 0, slots := 0, locals := 120 }) (va_Pc [.ref y, .int (nI a), .int x] (fun U => U.heap.size = sz ∧ va_P (dC, dI) vwCl (wM y y1 y2 y3 y4 y5 y6 y7 y8 y9 y10 cI mi ma) U.heap ∧ va_K (dC, dI) vwCl [(cI, .int)] U ∧ va_D (fun _ => True) (wM y y1 y2 y3 y4 y5 y6 y7 y8 y9 y10 cI mi ma))) (va_Qi (fun (r : Int32) (_ : Unit) => r = 0) (fun _ t => va_P (dC, dI) vwCl (wM y y1 y2 y3 y4 y5 y6 y7 y8 y9 y10 cI (va_up mi 0 1) ma) t.heap ∧ va_K (dC, dI) vwCl [(cI, .int)] t ∧ va_D (va_A (wM y y1 y2 y3 y4 y5 y6 y7 y8 y9 y10 cI mi ma) sz) (wM y y1 y2 y3 y4 y5 y6 y7 y8 y9 y10 cI (va_up mi 0 1) ma)) (va_A (wM y y1 y2 y3 y4 y5 y6 y7 y8 y9 y10 cI mi ma) sz)) 0 0 (va_A (wM y y1 y2 y3 y4 y5 y6 y7 y8 y9 y10 cI mi ma) sz) := by
  refine Met.ofW (cc := cMd_take) (maxL := 4) (ret := (some .boolean)) (by decide) rfl ?_
  intro p e s m args below meth c s₁ B hml hv
  obtain ⟨rfl, hsz, hP, hK, hD0⟩ := hv
  have hx := B.exec
  have hb := B.bytes
  have hr := B.returns
  have hts0 := atoms_spec (ws := wsMd_take) B.pre
  have hts := fun (w : Cond) (h : w ∈ lw_g) => hts0 w (List.mem_cons_of_mem _ h)
  have hown : s.vm.findClass RMd = some m.cls := findClass_of_methodNamed B.named
  have hlocks := B.notSynchronized
  subst hsz
  have hD := hD0.self (sz := s.heap.size)
  generalize hAe : va_A (wM y y1 y2 y3 y4 y5 y6 y7 y8 y9 y10 cI mi ma) s.heap.size = A at hD ⊢
  have hA : ∀ q : Nat, s.heap.size ≤ q → A q := fun q h => by rw [← hAe]; exact Or.inr h
  have hS : va_S A s.heap s.heap [] := va_S.rf
  have hP : va_P (dC, dI) vwCl (wM y y1 y2 y3 y4 y5 y6 y7 y8 y9 y10 cI mi ma) s.heap := hP
  have hl := lv_entry ([.ref y, .int (nI a), .int x]) (n := 4) (Nat.le_of_ble_eq_true rfl)
  rw [lg_entry_eq]
  generalize (lg_sl ([.ref y, .int (nI a), .int x]) ++ List.replicate (4 - (lg_sl ([.ref y, .int (nI a), .int x])).length) Slot.unset).toArray = ls at hl ⊢
  have hl : lv_has ls 4 [(0, .ref y), (1, .int (nI a)), (2, .int x)] := hl
  refine lv_aload_n hx hb dMd_take_0 rfl (lv_at hl 0 rfl) ?_
  refine lv_iload_n hx hb dMd_take_1 rfl (lv_at hl 1 rfl) ?_
  have hPc := hP.sub (ws' := (wM y y1 y2 y3 y4 y5 y6 y7 y8 y9 y10 cI mi ma)) [0, 1, 2, 3, 4, 5, 6, 7, 8, 9, 10] rfl
  have hDc := hD.sub (ws' := (wM y y1 y2 y3 y4 y5 y6 y7 y8 y9 y10 cI mi ma)) [0, 1, 2, 3, 4, 5, 6, 7, 8, 9, 10] (by decide) rfl
  have hKc := hK.sub (tys' := [(cI, .int)]) [0] rfl
  have hFc := va_free (wc := (wM y y1 y2 y3 y4 y5 y6 y7 y8 y9 y10 cI mi ma)) hD hS hA [0, 1, 2, 3, 4, 5, 6, 7, 8, 9, 10] rfl
  refine va_calli (va_runV (As := [.int (nI a)]) (rest := []) ⟨hx, hb, hml, hown, hts⟩ (k_M_lacks0 l dC dI s.heap.size y y1 y2 y3 y4 y5 y6 y7 y8 y9 y10 cI mi ma a ha4) (cwV 1 hts (gd_V in_91 in_93 in_94 in_74 in_92) rfl rfl rfl (by decide +kernel) ⟨Nat.le_of_ble_eq_true rfl, Nat.le_of_ble_eq_true rfl⟩) ⟨fun a U g mk q => by obtain ⟨q0, q1, qP, qK, qD⟩ := q; exact ⟨q0, q1, qP, va_K.moved (u := U) (U := U.calling g mk a) (Vm.Alike.refl U.vm) qK, qD⟩, va_recv hKc hPc (ci := 3) (q0 := 0) rfl rfl, fun U hU hW => ⟨rfl, by rw [hU], by rw [hU]; exact hPc, va_K.moved hW.alike hKc, hDc.weaken (fun _ _ _ _ => trivial)⟩⟩ rfl rfl hl.1 rfl (lv_room (Nat.le_of_ble_eq_true rfl)) dMd_take_2 ⟨Nat.le_of_ble_eq_true rfl, Nat.le_of_ble_eq_true rfl⟩) hS (fun q _ h => hFc q h) hFc (fun r_1 u t H1 locs ht hvm hw hB hz1 hk1 hS => ?_)
  obtain ⟨hP1, hK1, hD1⟩ := hB
  rw [ht] at hP1
  obtain ⟨hP, hD⟩ := va_join (wr := []) (w1 := (wM y y1 y2 y3 y4 y5 y6 y7 y8 y9 y10 cI (va_up mi 0 0) ma)) hP hD [0, 1, 2, 3, 4, 5, 6, 7, 8, 9, 10] [] rfl rfl (by decide) (by decide) hk1 hFc hP1 hD1
  generalize H1 = H at hP hS ⊢
  have hP : va_P (dC, dI) vwCl (wM y y1 y2 y3 y4 y5 y6 y7 y8 y9 y10 cI (va_up mi 0 0) ma) H := hP
  have hD : va_D A (wM y y1 y2 y3 y4 y5 y6 y7 y8 y9 y10 cI (va_up mi 0 0) ma) := hD
  have hw : r_1 = 0 := hw
  subst hw
  refine lv_if_ne (tgt := 31) hx hb dMd_take_5 (by decide) (fun c_2 => absurd c_2 (by decide)) (fun _ => ?_)
  refine lv_aload_n hx hb dMd_take_8 rfl (lv_at hl 0 rfl) ?_
  refine lv_iload_n hx hb dMd_take_9 rfl (lv_at hl 2 rfl) ?_
  have hPc := hP.sub (ws' := (wM y y1 y2 y3 y4 y5 y6 y7 y8 y9 y10 cI (va_up mi 0 0) ma)) [0, 1, 2, 3, 4, 5, 6, 7, 8, 9, 10] rfl
  have hDc := hD.sub (ws' := (wM y y1 y2 y3 y4 y5 y6 y7 y8 y9 y10 cI (va_up mi 0 0) ma)) [0, 1, 2, 3, 4, 5, 6, 7, 8, 9, 10] (by decide) rfl
  have hKc := hK.sub (tys' := [(cI, .int)]) [0] rfl
  have hFc := va_free (wc := (wM y y1 y2 y3 y4 y5 y6 y7 y8 y9 y10 cI (va_up mi 0 0) ma)) hD hS hA [0, 1, 2, 3, 4, 5, 6, 7, 8, 9, 10] rfl
  refine va_calli (va_runV (As := [.int x]) (rest := []) ⟨hx, hb, hml, hown, hts⟩ (k_M_lacks1 l dC dI H.size y y1 y2 y3 y4 y5 y6 y7 y8 y9 y10 cI (va_up mi 0 0) ma x hfx) (cwV 1 hts (gd_V in_91 in_93 in_94 in_74 in_92) rfl rfl rfl (by decide +kernel) ⟨Nat.le_of_ble_eq_true rfl, Nat.le_of_ble_eq_true rfl⟩) ⟨fun a U g mk q => by obtain ⟨q0, q1, qP, qK, qD⟩ := q; exact ⟨q0, q1, qP, va_K.moved (u := U) (U := U.calling g mk a) (Vm.Alike.refl U.vm) qK, qD⟩, va_recv hKc hPc (ci := 3) (q0 := 0) rfl rfl, fun U hU hW => ⟨rfl, by rw [hU], by rw [hU]; exact hPc, va_K.moved hW.alike hKc, hDc.weaken (fun _ _ _ _ => trivial)⟩⟩ rfl rfl hl.1 rfl (lv_room (Nat.le_of_ble_eq_true rfl)) dMd_take_10 ⟨Nat.le_of_ble_eq_true rfl, Nat.le_of_ble_eq_true rfl⟩) hS (fun q _ h => hFc q h) hFc (fun r_3 u t H1 locs ht hvm hw hB hz1 hk1 hS => ?_)
  obtain ⟨hP1, hK1, hD1⟩ := hB
  rw [ht] at hP1
  obtain ⟨hP, hD⟩ := va_join (wr := []) (w1 := (wM y y1 y2 y3 y4 y5 y6 y7 y8 y9 y10 cI (va_up mi 0 1) ma)) hP hD [0, 1, 2, 3, 4, 5, 6, 7, 8, 9, 10] [] rfl rfl (by decide) (by decide) hk1 hFc hP1 hD1
  generalize H1 = H at hP hS ⊢
  have hP : va_P (dC, dI) vwCl (wM y y1 y2 y3 y4 y5 y6 y7 y8 y9 y10 cI (va_up mi 0 1) ma) H := hP
  have hD : va_D A (wM y y1 y2 y3 y4 y5 y6 y7 y8 y9 y10 cI (va_up mi 0 1) ma) := hD
  have hw : r_3 = 1 := hw
  subst hw
  refine lv_if_ne (tgt := 31) hx hb dMd_take_13 (by decide) (fun _ => ?_) (fun c_4 => absurd c_4 (by decide))
  refine lv_iconst (v := 0) hx hb dMd_take_31 (by decide) ?_
  have hP9 : va_P (dC, dI) vwCl (wM y y1 y2 y3 y4 y5 y6 y7 y8 y9 y10 cI (va_up mi 0 1) ma) H := by exact hP
  have hD9 : va_D A (wM y y1 y2 y3 y4 y5 y6 y7 y8 y9 y10 cI (va_up mi 0 1) ma) := by exact hD
  exact W.zret (v := 0) (ty := .boolean) hx hb hr rfl (fun t ht hW => ⟨⟨0, (), rfl, rfl, by rw [ht]; exact hP9, va_K.moved hW.alike hK, hD9⟩, hS.F ht⟩) hS.2.2 dMd_take_32
set_option maxHeartbeats 4000000 in
set_option maxRecDepth 100000 in
/-- clear(k) -/
theorem k_M_clear (l : Launch) (dC : Nat → ClassId) (dI : Nat → Nat → Nat) (sz : Nat) (y y1 y2 y3 y4 y5 y6 y7 y8 y9 y10 : Nat) (cI : ClassId) (mi : Nat → Int32) (ma : Nat → Nat → Int32) (k : Nat) (hk4 : k < 4) : Met l yMd_clear wsMd_clear ({ frames := 3, cells := 0, slots := 0, locals := 120 }) (va_Pc [.ref y, .int (nI k)] (fun U => U.heap.size = sz ∧ va_P (dC, dI) vwCl (wM y y1 y2 y3 y4 y5 y6 y7 y8 y9 y10 cI mi ma) U.heap ∧ va_K (dC, dI) vwCl [(cI, .int)] U ∧ va_D (fun _ => True) (wM y y1 y2 y3 y4 y5 y6 y7 y8 y9 y10 cI mi ma))) (va_Qv (fun (_ : Unit) => True) (fun _ t => va_P (dC, dI) vwCl (wM y y1 y2 y3 y4 y5 y6 y7 y8 y9 y10 cI (va_up mi 0 0) (m_cl ma k)) t.heap ∧ va_K (dC, dI) vwCl [(cI, .int)] t ∧ va_D (va_A (wM y y1 y2 y3 y4 y5 y6 y7 y8 y9 y10 cI mi ma) sz) (wM y y1 y2 y3 y4 y5 y6 y7 y8 y9 y10 cI (va_up mi 0 0) (m_cl ma k))) (va_A (wM y y1 y2 y3 y4 y5 y6 y7 y8 y9 y10 cI mi ma) sz)) 0 0 (va_A (wM y y1 y2 y3 y4 y5 y6 y7 y8 y9 y10 cI mi ma) sz) := by
  refine Met.ofW (cc := cMd_clear) (maxL := 3) (ret := none) (by decide) rfl ?_
  intro p e s m args below meth c s₁ B hml hv
  obtain ⟨rfl, hsz, hP, hK, hD0⟩ := hv
  have hx := B.exec
  have hb := B.bytes
  have hr := B.returns
  have hts0 := atoms_spec (ws := wsMd_clear) B.pre
  have hts := fun (w : Cond) (h : w ∈ lw_g) => hts0 w (List.mem_cons_of_mem _ h)
  have hown : s.vm.findClass RMd = some m.cls := findClass_of_methodNamed B.named
  have hlocks := B.notSynchronized
  subst hsz
  have hD := hD0.self (sz := s.heap.size)
  generalize hAe : va_A (wM y y1 y2 y3 y4 y5 y6 y7 y8 y9 y10 cI mi ma) s.heap.size = A at hD ⊢
  have hA : ∀ q : Nat, s.heap.size ≤ q → A q := fun q h => by rw [← hAe]; exact Or.inr h
  have hS : va_S A s.heap s.heap [] := va_S.rf
  have hP : va_P (dC, dI) vwCl (wM y y1 y2 y3 y4 y5 y6 y7 y8 y9 y10 cI mi ma) s.heap := hP
  have hl := lv_entry ([.ref y, .int (nI k)]) (n := 3) (Nat.le_of_ble_eq_true rfl)
  rw [lg_entry_eq]
  generalize (lg_sl ([.ref y, .int (nI k)]) ++ List.replicate (3 - (lg_sl ([.ref y, .int (nI k)])).length) Slot.unset).toArray = ls at hl ⊢
  have hl : lv_has ls 3 [(0, .ref y), (1, .int (nI k))] := hl
  refine lv_aload_n hx hb dMd_clear_0 rfl (lv_at hl 0 rfl) ?_
  refine lv_iload_n hx hb dMd_clear_1 rfl (lv_at hl 1 rfl) ?_
  have hPc := hP.sub (ws' := (wM y y1 y2 y3 y4 y5 y6 y7 y8 y9 y10 cI mi ma)) [0, 1, 2, 3, 4, 5, 6, 7, 8, 9, 10] rfl
  have hDc := hD.sub (ws' := (wM y y1 y2 y3 y4 y5 y6 y7 y8 y9 y10 cI mi ma)) [0, 1, 2, 3, 4, 5, 6, 7, 8, 9, 10] (by decide) rfl
  have hKc := hK.sub (tys' := [(cI, .int)]) [0] rfl
  have hFc := va_free (wc := (wM y y1 y2 y3 y4 y5 y6 y7 y8 y9 y10 cI mi ma)) hD hS hA [0, 1, 2, 3, 4, 5, 6, 7, 8, 9, 10] rfl
  refine va_calli (va_runV (As := [.int (nI k)]) (rest := []) ⟨hx, hb, hml, hown, hts⟩ (k_M_lacks0 l dC dI s.heap.size y y1 y2 y3 y4 y5 y6 y7 y8 y9 y10 cI mi ma k hk4) (cwV 1 hts (gd_V in_91 in_93 in_94 in_74 in_92) rfl rfl rfl (by decide +kernel) ⟨Nat.le_of_ble_eq_true rfl, Nat.le_of_ble_eq_true rfl⟩) ⟨fun a U g mk q => by obtain ⟨q0, q1, qP, qK, qD⟩ := q; exact ⟨q0, q1, qP, va_K.moved (u := U) (U := U.calling g mk a) (Vm.Alike.refl U.vm) qK, qD⟩, va_recv hKc hPc (ci := 3) (q0 := 0) rfl rfl, fun U hU hW => ⟨rfl, by rw [hU], by rw [hU]; exact hPc, va_K.moved hW.alike hKc, hDc.weaken (fun _ _ _ _ => trivial)⟩⟩ rfl rfl hl.1 rfl (lv_room (Nat.le_of_ble_eq_true rfl)) dMd_clear_2 ⟨Nat.le_of_ble_eq_true rfl, Nat.le_of_ble_eq_true rfl⟩) hS (fun q _ h => hFc q h) hFc (fun r_1 u t H1 locs ht hvm hw hB hz1 hk1 hS => ?_)
  obtain ⟨hP1, hK1, hD1⟩ := hB
  rw [ht] at hP1
  obtain ⟨hP, hD⟩ := va_join (wr := []) (w1 := (wM y y1 y2 y3 y4 y5 y6 y7 y8 y9 y10 cI (va_up mi 0 0) ma)) hP hD [0, 1, 2, 3, 4, 5, 6, 7, 8, 9, 10] [] rfl rfl (by decide) (by decide) hk1 hFc hP1 hD1
  generalize H1 = H at hP hS ⊢
  have hP : va_P (dC, dI) vwCl (wM y y1 y2 y3 y4 y5 y6 y7 y8 y9 y10 cI (va_up mi 0 0) ma) H := hP
  have hD : va_D A (wM y y1 y2 y3 y4 y5 y6 y7 y8 y9 y10 cI (va_up mi 0 0) ma) := hD
  have hw : r_1 = 0 := hw
  subst hw
  refine lv_if_eq (tgt := 9) hx hb dMd_clear_5 (by decide) (fun _ => ?_) (fun c_2 => absurd c_2 (by decide))
  refine lv_aload_n hx hb dMd_clear_9 rfl (lv_at hl 0 rfl) ?_
  refine va_get (D := (dC, dI)) (ci := 3) (v := .ref y1) (C := RMd) (T := TMd) (N := 17) hx hb hts inMd hown hK hP 0 rfl rfl 2 (by decide) (hts _ in_82) (fun _ h9 => h9) rfl dMd_clear_10 ?_
  refine lv_iload_n hx hb dMd_clear_13 rfl (lv_at hl 1 rfl) ?_
  refine lv_iconst (v := 0) hx hb dMd_clear_14 (by decide) ?_
  refine vq_iast (k := k) (f := ma 0) hx hb hK hP hD hS 1 0 rfl rfl rfl (by omega) (by decide) dMd_clear_15 (fun H locs hP hD hS => ?_)
  have hP : va_P (dC, dI) vwCl (wM y y1 y2 y3 y4 y5 y6 y7 y8 y9 y10 cI (va_up mi 0 0) (va_up ma 0 (upd (ma 0) k 0))) H := hP
  have hD : va_D A (wM y y1 y2 y3 y4 y5 y6 y7 y8 y9 y10 cI (va_up mi 0 0) (va_up ma 0 (upd (ma 0) k 0))) := hD
  refine lv_aload_n hx hb dMd_clear_16 rfl (lv_at hl 0 rfl) ?_
  refine va_get (D := (dC, dI)) (ci := 3) (v := .ref y2) (C := RMd) (T := TMd) (N := 17) hx hb hts inMd hown hK hP 0 rfl rfl 3 (by decide) (hts _ in_102) (fun _ h9 => h9) rfl dMd_clear_17 ?_
  refine lv_iload_n hx hb dMd_clear_20 rfl (lv_at hl 1 rfl) ?_
  refine lv_iconst (v := 0) hx hb dMd_clear_21 (by decide) ?_
  refine vq_iast (k := k) (f := ma 1) hx hb hK hP hD hS 2 0 rfl rfl rfl (by omega) (by decide) dMd_clear_22 (fun H locs hP hD hS => ?_)
  have hP : va_P (dC, dI) vwCl (wM y y1 y2 y3 y4 y5 y6 y7 y8 y9 y10 cI (va_up mi 0 0) (va_up (va_up ma 0 (upd (ma 0) k 0)) 1 (upd (ma 1) k 0))) H := hP
  have hD : va_D A (wM y y1 y2 y3 y4 y5 y6 y7 y8 y9 y10 cI (va_up mi 0 0) (va_up (va_up ma 0 (upd (ma 0) k 0)) 1 (upd (ma 1) k 0))) := hD
  refine lv_aload_n hx hb dMd_clear_23 rfl (lv_at hl 0 rfl) ?_
  refine va_get (D := (dC, dI)) (ci := 3) (v := .ref y3) (C := RMd) (T := TMd) (N := 17) hx hb hts inMd hown hK hP 0 rfl rfl 4 (by decide) (hts _ in_99) (fun _ h9 => h9) rfl dMd_clear_24 ?_
  refine lv_iload_n hx hb dMd_clear_27 rfl (lv_at hl 1 rfl) ?_
  refine lv_iconst (v := 0) hx hb dMd_clear_28 (by decide) ?_
  refine vq_iast (k := k) (f := ma 2) hx hb hK hP hD hS 3 0 rfl rfl rfl (by omega) (by decide) dMd_clear_29 (fun H locs hP hD hS => ?_)
  have hP : va_P (dC, dI) vwCl (wM y y1 y2 y3 y4 y5 y6 y7 y8 y9 y10 cI (va_up mi 0 0) (va_up (va_up (va_up ma 0 (upd (ma 0) k 0)) 1 (upd (ma 1) k 0)) 2 (upd (ma 2) k 0))) H := hP
  have hD : va_D A (wM y y1 y2 y3 y4 y5 y6 y7 y8 y9 y10 cI (va_up mi 0 0) (va_up (va_up (va_up ma 0 (upd (ma 0) k 0)) 1 (upd (ma 1) k 0)) 2 (upd (ma 2) k 0))) := hD
  refine lv_aload_n hx hb dMd_clear_30 rfl (lv_at hl 0 rfl) ?_
  refine va_get (D := (dC, dI)) (ci := 3) (v := .ref y4) (C := RMd) (T := TMd) (N := 17) hx hb hts inMd hown hK hP 0 rfl rfl 5 (by decide) (hts _ in_100) (fun _ h9 => h9) rfl dMd_clear_31 ?_
  refine lv_iload_n hx hb dMd_clear_34 rfl (lv_at hl 1 rfl) ?_
  refine lv_iconst (v := 0) hx hb dMd_clear_35 (by decide) ?_
  refine vq_iast (k := k) (f := ma 3) hx hb hK hP hD hS 4 0 rfl rfl rfl (by omega) (by decide) dMd_clear_36 (fun H locs hP hD hS => ?_)
  have hP : va_P (dC, dI) vwCl (wM y y1 y2 y3 y4 y5 y6 y7 y8 y9 y10 cI (va_up mi 0 0) (va_up (va_up (va_up (va_up ma 0 (upd (ma 0) k 0)) 1 (upd (ma 1) k 0)) 2 (upd (ma 2) k 0)) 3 (upd (ma 3) k 0))) H := hP
  have hD : va_D A (wM y y1 y2 y3 y4 y5 y6 y7 y8 y9 y10 cI (va_up mi 0 0) (va_up (va_up (va_up (va_up ma 0 (upd (ma 0) k 0)) 1 (upd (ma 1) k 0)) 2 (upd (ma 2) k 0)) 3 (upd (ma 3) k 0))) := hD
  refine lv_aload_n hx hb dMd_clear_37 rfl (lv_at hl 0 rfl) ?_
  refine va_get (D := (dC, dI)) (ci := 3) (v := .ref y5) (C := RMd) (T := TMd) (N := 17) hx hb hts inMd hown hK hP 0 rfl rfl 6 (by decide) (hts _ in_101) (fun _ h9 => h9) rfl dMd_clear_38 ?_
  refine lv_iload_n hx hb dMd_clear_41 rfl (lv_at hl 1 rfl) ?_
  refine lv_iconst (v := 0) hx hb dMd_clear_42 (by decide) ?_
  refine vq_iast (k := k) (f := ma 4) hx hb hK hP hD hS 5 0 rfl rfl rfl (by omega) (by decide) dMd_clear_43 (fun H locs hP hD hS => ?_)
  have hP : va_P (dC, dI) vwCl (wM y y1 y2 y3 y4 y5 y6 y7 y8 y9 y10 cI (va_up mi 0 0) (va_up (va_up (va_up (va_up (va_up ma 0 (upd (ma 0) k 0)) 1 (upd (ma 1) k 0)) 2 (upd (ma 2) k 0)) 3 (upd (ma 3) k 0)) 4 (upd (ma 4) k 0))) H := hP
  have hD : va_D A (wM y y1 y2 y3 y4 y5 y6 y7 y8 y9 y10 cI (va_up mi 0 0) (va_up (va_up (va_up (va_up (va_up ma 0 (upd (ma 0) k 0)) 1 (upd (ma 1) k 0)) 2 (upd (ma 2) k 0)) 3 (upd (ma 3) k 0)) 4 (upd (ma 4) k 0))) := hD
  refine lv_iconst (v := 0) hx hb dMd_clear_44 (by decide) ?_
  refine lv_istore_n (lv' := [(2, .int 0), (0, .ref y), (1, .int (nI k))]) hx hb dMd_clear_45 rfl hl (by decide) rfl (fun ls hl => ?_)
  refine wl_rw (σ := Nat × Heap × List Loc × Array Slot) (fun z9 => (z9.2.1, z9.2.2.1, F0 m 46 z9.2.2.2 [])) (fun z9 => z9.1 ≤ 16 ∧ va_P (dC, dI) vwCl (wM y y1 y2 y3 y4 y5 y6 y7 y8 y9 y10 cI (va_up mi 0 0) (va_up (va_up (va_up (va_up (va_up (va_up (va_up (va_up ma 0 (upd (ma 0) k 0)) 1 (upd (ma 1) k 0)) 2 (upd (ma 2) k 0)) 3 (upd (ma 3) k 0)) 4 (upd (ma 4) k 0)) 5 (m_z (ma 5) (16 * k) z9.1)) 6 (m_z (ma 6) (16 * k) z9.1)) 8 (m_z (ma 8) (1024 * k) z9.1))) z9.2.1 ∧ va_D A (wM y y1 y2 y3 y4 y5 y6 y7 y8 y9 y10 cI (va_up mi 0 0) (va_up (va_up (va_up (va_up (va_up (va_up (va_up (va_up ma 0 (upd (ma 0) k 0)) 1 (upd (ma 1) k 0)) 2 (upd (ma 2) k 0)) 3 (upd (ma 3) k 0)) 4 (upd (ma 4) k 0)) 5 (m_z (ma 5) (16 * k) z9.1)) 6 (m_z (ma 6) (16 * k) z9.1)) 8 (m_z (ma 8) (1024 * k) z9.1))) ∧ va_S A s.heap z9.2.1 z9.2.2.1 ∧ lv_has z9.2.2.2 3 [(2, .int (nI z9.1)), (0, .ref y), (1, .int (nI k))]) (fun z9 => 16 - z9.1) ?_ (0, H, locs, ls) ⟨by omega, hP, hD, hS, lv_sub hl [0, 1, 2] rfl⟩
  rintro ⟨j, H, locs, ls⟩ ⟨hj, hP, hD, hS, hl⟩ ih
  have hj : j ≤ 16 := hj
  have hP : va_P (dC, dI) vwCl (wM y y1 y2 y3 y4 y5 y6 y7 y8 y9 y10 cI (va_up mi 0 0) (va_up (va_up (va_up (va_up (va_up (va_up (va_up (va_up ma 0 (upd (ma 0) k 0)) 1 (upd (ma 1) k 0)) 2 (upd (ma 2) k 0)) 3 (upd (ma 3) k 0)) 4 (upd (ma 4) k 0)) 5 (m_z (ma 5) (16 * k) j)) 6 (m_z (ma 6) (16 * k) j)) 8 (m_z (ma 8) (1024 * k) j))) H := hP
  have hD : va_D A (wM y y1 y2 y3 y4 y5 y6 y7 y8 y9 y10 cI (va_up mi 0 0) (va_up (va_up (va_up (va_up (va_up (va_up (va_up (va_up ma 0 (upd (ma 0) k 0)) 1 (upd (ma 1) k 0)) 2 (upd (ma 2) k 0)) 3 (upd (ma 3) k 0)) 4 (upd (ma 4) k 0)) 5 (m_z (ma 5) (16 * k) j)) 6 (m_z (ma 6) (16 * k) j)) 8 (m_z (ma 8) (1024 * k) j))) := hD
  have hS : va_S A s.heap H locs := hS
  have hl : lv_has ls 3 [(2, .int (nI j)), (0, .ref y), (1, .int (nI k))] := hl
  show W p l e _ s m _ below meth c H locs _ _ _ (F0 m 46 ls [])
  refine lv_iload_n hx hb dMd_clear_46 rfl (lv_at hl 0 rfl) ?_
  refine lv_bipush (v := nI 16) hx hb dMd_clear_47 (by decide) ?_
  refine lv_icmp_ge (tgt := 95) hx hb dMd_clear_49 (by decide) (fun c_3 => ?_) (fun c_3 => ?_)
  · skip
    have hj9 : j = 16 := lp_x (by decide) hj c_3
    subst hj9
    refine lv_aload_n hx hb dMd_clear_95 rfl (lv_at hl 1 rfl) ?_
    refine va_get (D := (dC, dI)) (ci := 3) (v := .ref y8) (C := RMd) (T := TMd) (N := 17) hx hb hts inMd hown hK hP 0 rfl rfl 9 (by decide) (hts _ in_83) (fun _ h9 => h9) rfl dMd_clear_96 ?_
    refine lv_bipush (v := nI 64) hx hb dMd_clear_99 (by decide) ?_
    refine lv_iload_n hx hb dMd_clear_101 rfl (lv_at hl 2 rfl) ?_
    refine lv_imul hx hb dMd_clear_102 ?_
    refine lv_ri (y := nI (64 * k)) (pk_mul _ _) ?_
    refine lv_iconst (v := 0) hx hb dMd_clear_103 (by decide) ?_
    refine vq_iast (k := (64 * k)) (f := ma 7) hx hb hK hP hD hS 8 0 rfl rfl rfl (by omega) (by decide) dMd_clear_104 (fun H locs hP hD hS => ?_)
    have hP : va_P (dC, dI) vwCl (wM y y1 y2 y3 y4 y5 y6 y7 y8 y9 y10 cI (va_up mi 0 0) (va_up (va_up (va_up (va_up (va_up (va_up (va_up (va_up (va_up ma 0 (upd (ma 0) k 0)) 1 (upd (ma 1) k 0)) 2 (upd (ma 2) k 0)) 3 (upd (ma 3) k 0)) 4 (upd (ma 4) k 0)) 5 (m_z (ma 5) (16 * k) 16)) 6 (m_z (ma 6) (16 * k) 16)) 8 (m_z (ma 8) (1024 * k) 16)) 7 (upd (ma 7) (64 * k) 0))) H := hP
    have hD : va_D A (wM y y1 y2 y3 y4 y5 y6 y7 y8 y9 y10 cI (va_up mi 0 0) (va_up (va_up (va_up (va_up (va_up (va_up (va_up (va_up (va_up ma 0 (upd (ma 0) k 0)) 1 (upd (ma 1) k 0)) 2 (upd (ma 2) k 0)) 3 (upd (ma 3) k 0)) 4 (upd (ma 4) k 0)) 5 (m_z (ma 5) (16 * k) 16)) 6 (m_z (ma 6) (16 * k) 16)) 8 (m_z (ma 8) (1024 * k) 16)) 7 (upd (ma 7) (64 * k) 0))) := hD
    have hP9 : va_P (dC, dI) vwCl (wM y y1 y2 y3 y4 y5 y6 y7 y8 y9 y10 cI (va_up mi 0 0) (m_cl ma k)) H := by exact hP
    have hD9 : va_D A (wM y y1 y2 y3 y4 y5 y6 y7 y8 y9 y10 cI (va_up mi 0 0) (m_cl ma k)) := by exact hD
    exact W.vret hx hb hr (fun t ht hW => ⟨⟨(), rfl, trivial, by rw [ht]; exact hP9, va_K.moved hW.alike hK, hD9⟩, hS.F ht⟩) hS.2.2 dMd_clear_105
  · skip
    have hj : j < 16 := lp_c (by decide) hj c_3
    refine lv_aload_n hx hb dMd_clear_52 rfl (lv_at hl 1 rfl) ?_
    refine va_get (D := (dC, dI)) (ci := 3) (v := .ref y6) (C := RMd) (T := TMd) (N := 17) hx hb hts inMd hown hK hP 0 rfl rfl 7 (by decide) (hts _ in_85) (fun _ h9 => h9) rfl dMd_clear_53 ?_
    refine lv_bipush (v := nI 16) hx hb dMd_clear_56 (by decide) ?_
    refine lv_iload_n hx hb dMd_clear_58 rfl (lv_at hl 2 rfl) ?_
    refine lv_imul hx hb dMd_clear_59 ?_
    refine lv_ri (y := nI (16 * k)) (pk_mul _ _) ?_
    refine lv_iload_n hx hb dMd_clear_60 rfl (lv_at hl 0 rfl) ?_
    refine lv_iadd hx hb dMd_clear_61 ?_
    refine lv_ri (y := nI ((16 * k) + j)) (nI_add _ _) ?_
    refine lv_iconst (v := 0) hx hb dMd_clear_62 (by decide) ?_
    refine vq_iast (k := ((16 * k) + j)) (f := m_z (ma 5) (16 * k) j) hx hb hK hP hD hS 6 0 rfl rfl rfl (by omega) (by decide) dMd_clear_63 (fun H locs hP hD hS => ?_)
    have hP : va_P (dC, dI) vwCl (wM y y1 y2 y3 y4 y5 y6 y7 y8 y9 y10 cI (va_up mi 0 0) (va_up (va_up (va_up (va_up (va_up (va_up (va_up (va_up ma 0 (upd (ma 0) k 0)) 1 (upd (ma 1) k 0)) 2 (upd (ma 2) k 0)) 3 (upd (ma 3) k 0)) 4 (upd (ma 4) k 0)) 6 (m_z (ma 6) (16 * k) j)) 8 (m_z (ma 8) (1024 * k) j)) 5 (upd (m_z (ma 5) (16 * k) j) ((16 * k) + j) 0))) H := hP
    have hD : va_D A (wM y y1 y2 y3 y4 y5 y6 y7 y8 y9 y10 cI (va_up mi 0 0) (va_up (va_up (va_up (va_up (va_up (va_up (va_up (va_up ma 0 (upd (ma 0) k 0)) 1 (upd (ma 1) k 0)) 2 (upd (ma 2) k 0)) 3 (upd (ma 3) k 0)) 4 (upd (ma 4) k 0)) 6 (m_z (ma 6) (16 * k) j)) 8 (m_z (ma 8) (1024 * k) j)) 5 (upd (m_z (ma 5) (16 * k) j) ((16 * k) + j) 0))) := hD
    refine lv_aload_n hx hb dMd_clear_64 rfl (lv_at hl 1 rfl) ?_
    refine va_get (D := (dC, dI)) (ci := 3) (v := .ref y7) (C := RMd) (T := TMd) (N := 17) hx hb hts inMd hown hK hP 0 rfl rfl 8 (by decide) (hts _ in_104) (fun _ h9 => h9) rfl dMd_clear_65 ?_
    refine lv_bipush (v := nI 16) hx hb dMd_clear_68 (by decide) ?_
    refine lv_iload_n hx hb dMd_clear_70 rfl (lv_at hl 2 rfl) ?_
    refine lv_imul hx hb dMd_clear_71 ?_
    refine lv_ri (y := nI (16 * k)) (pk_mul _ _) ?_
    refine lv_iload_n hx hb dMd_clear_72 rfl (lv_at hl 0 rfl) ?_
    refine lv_iadd hx hb dMd_clear_73 ?_
    refine lv_ri (y := nI ((16 * k) + j)) (nI_add _ _) ?_
    refine lv_iconst (v := 0) hx hb dMd_clear_74 (by decide) ?_
    refine vq_iast (k := ((16 * k) + j)) (f := m_z (ma 6) (16 * k) j) hx hb hK hP hD hS 7 0 rfl rfl rfl (by omega) (by decide) dMd_clear_75 (fun H locs hP hD hS => ?_)
    have hP : va_P (dC, dI) vwCl (wM y y1 y2 y3 y4 y5 y6 y7 y8 y9 y10 cI (va_up mi 0 0) (va_up (va_up (va_up (va_up (va_up (va_up (va_up (va_up ma 0 (upd (ma 0) k 0)) 1 (upd (ma 1) k 0)) 2 (upd (ma 2) k 0)) 3 (upd (ma 3) k 0)) 4 (upd (ma 4) k 0)) 8 (m_z (ma 8) (1024 * k) j)) 5 (upd (m_z (ma 5) (16 * k) j) ((16 * k) + j) 0)) 6 (upd (m_z (ma 6) (16 * k) j) ((16 * k) + j) 0))) H := hP
    have hD : va_D A (wM y y1 y2 y3 y4 y5 y6 y7 y8 y9 y10 cI (va_up mi 0 0) (va_up (va_up (va_up (va_up (va_up (va_up (va_up (va_up ma 0 (upd (ma 0) k 0)) 1 (upd (ma 1) k 0)) 2 (upd (ma 2) k 0)) 3 (upd (ma 3) k 0)) 4 (upd (ma 4) k 0)) 8 (m_z (ma 8) (1024 * k) j)) 5 (upd (m_z (ma 5) (16 * k) j) ((16 * k) + j) 0)) 6 (upd (m_z (ma 6) (16 * k) j) ((16 * k) + j) 0))) := hD
    refine lv_aload_n hx hb dMd_clear_76 rfl (lv_at hl 1 rfl) ?_
    refine va_get (D := (dC, dI)) (ci := 3) (v := .ref y9) (C := RMd) (T := TMd) (N := 17) hx hb hts inMd hown hK hP 0 rfl rfl 10 (by decide) (hts _ in_103) (fun _ h9 => h9) rfl dMd_clear_77 ?_
    refine lv_sipush (v := nI 1024) hx hb dMd_clear_80 (by decide) ?_
    refine lv_iload_n hx hb dMd_clear_83 rfl (lv_at hl 2 rfl) ?_
    refine lv_imul hx hb dMd_clear_84 ?_
    refine lv_ri (y := nI (1024 * k)) (pk_mul _ _) ?_
    refine lv_iload_n hx hb dMd_clear_85 rfl (lv_at hl 0 rfl) ?_
    refine lv_iadd hx hb dMd_clear_86 ?_
    refine lv_ri (y := nI ((1024 * k) + j)) (nI_add _ _) ?_
    refine lv_iconst (v := 0) hx hb dMd_clear_87 (by decide) ?_
    refine vq_iast (k := ((1024 * k) + j)) (f := m_z (ma 8) (1024 * k) j) hx hb hK hP hD hS 9 0 rfl rfl rfl (by omega) (by decide) dMd_clear_88 (fun H locs hP hD hS => ?_)
    have hP : va_P (dC, dI) vwCl (wM y y1 y2 y3 y4 y5 y6 y7 y8 y9 y10 cI (va_up mi 0 0) (va_up (va_up (va_up (va_up (va_up (va_up (va_up (va_up ma 0 (upd (ma 0) k 0)) 1 (upd (ma 1) k 0)) 2 (upd (ma 2) k 0)) 3 (upd (ma 3) k 0)) 4 (upd (ma 4) k 0)) 5 (upd (m_z (ma 5) (16 * k) j) ((16 * k) + j) 0)) 6 (upd (m_z (ma 6) (16 * k) j) ((16 * k) + j) 0)) 8 (upd (m_z (ma 8) (1024 * k) j) ((1024 * k) + j) 0))) H := hP
    have hD : va_D A (wM y y1 y2 y3 y4 y5 y6 y7 y8 y9 y10 cI (va_up mi 0 0) (va_up (va_up (va_up (va_up (va_up (va_up (va_up (va_up ma 0 (upd (ma 0) k 0)) 1 (upd (ma 1) k 0)) 2 (upd (ma 2) k 0)) 3 (upd (ma 3) k 0)) 4 (upd (ma 4) k 0)) 5 (upd (m_z (ma 5) (16 * k) j) ((16 * k) + j) 0)) 6 (upd (m_z (ma 6) (16 * k) j) ((16 * k) + j) 0)) 8 (upd (m_z (ma 8) (1024 * k) j) ((1024 * k) + j) 0))) := hD
    refine lv_iinc (v := nI (j + 1)) (lv' := [(2, .int (nI (j + 1))), (0, .ref y), (1, .int (nI k))]) hx hb dMd_clear_89 hl (k := 0) rfl (by first | exact nI_1 _ | (show _ + (1 : Int32) = _; exact nI_1 _)) (by decide) rfl (fun ls hl => ?_)
    refine lv_goto (tgt := 46) hx hb dMd_clear_92 (by decide) ?_
    have hl9 : lv_has ls 3 [(2, .int (nI (j + 1))), (0, .ref y), (1, .int (nI k))] := by first | exact lv_sub hl [0, 1, 2] rfl | (simp only [m_z]; exact lv_sub hl [0, 1, 2] rfl)
    have hP9 : va_P (dC, dI) vwCl (wM y y1 y2 y3 y4 y5 y6 y7 y8 y9 y10 cI (va_up mi 0 0) (va_up (va_up (va_up (va_up (va_up (va_up (va_up (va_up ma 0 (upd (ma 0) k 0)) 1 (upd (ma 1) k 0)) 2 (upd (ma 2) k 0)) 3 (upd (ma 3) k 0)) 4 (upd (ma 4) k 0)) 5 (m_z (ma 5) (16 * k) (j + 1))) 6 (m_z (ma 6) (16 * k) (j + 1))) 8 (m_z (ma 8) (1024 * k) (j + 1)))) H := by first | exact hP | (simp only [m_z]; exact hP)
    have hD9 : va_D A (wM y y1 y2 y3 y4 y5 y6 y7 y8 y9 y10 cI (va_up mi 0 0) (va_up (va_up (va_up (va_up (va_up (va_up (va_up (va_up ma 0 (upd (ma 0) k 0)) 1 (upd (ma 1) k 0)) 2 (upd (ma 2) k 0)) 3 (upd (ma 3) k 0)) 4 (upd (ma 4) k 0)) 5 (m_z (ma 5) (16 * k) (j + 1))) 6 (m_z (ma 6) (16 * k) (j + 1))) 8 (m_z (ma 8) (1024 * k) (j + 1)))) := by first | exact hD | (simp only [m_z]; exact hD)
    exact ih (j + 1, H, locs, ls) ⟨hj, hP9, hD9, hS, hl9⟩ (by show 16 - (j + 1) < 16 - j; omega)
set_option maxHeartbeats 4000000 in
set_option maxRecDepth 100000 in
/-- clear(x), no fold -/
theorem k_M_clearN (l : Launch) (dC : Nat → ClassId) (dI : Nat → Nat → Nat) (sz : Nat) (y y1 y2 y3 y4 y5 y6 y7 y8 y9 y10 : Nat) (cI : ClassId) (mi : Nat → Int32) (ma : Nat → Nat → Int32) (x : Int32) (hfx : s_lk x = 1) : Met l yMd_clear wsMd_clear ({ frames := 3, cells := 0, slots := 0, locals := 120 }) (va_Pc [.ref y, .int x] (fun U => U.heap.size = sz ∧ va_P (dC, dI) vwCl (wM y y1 y2 y3 y4 y5 y6 y7 y8 y9 y10 cI mi ma) U.heap ∧ va_K (dC, dI) vwCl [(cI, .int)] U ∧ va_D (fun _ => True) (wM y y1 y2 y3 y4 y5 y6 y7 y8 y9 y10 cI mi ma))) (va_Qv (fun (_ : Unit) => True) (fun _ t => va_P (dC, dI) vwCl (wM y y1 y2 y3 y4 y5 y6 y7 y8 y9 y10 cI (va_up mi 0 1) ma) t.heap ∧ va_K (dC, dI) vwCl [(cI, .int)] t ∧ va_D (va_A (wM y y1 y2 y3 y4 y5 y6 y7 y8 y9 y10 cI mi ma) sz) (wM y y1 y2 y3 y4 y5 y6 y7 y8 y9 y10 cI (va_up mi 0 1) ma)) (va_A (wM y y1 y2 y3 y4 y5 y6 y7 y8 y9 y10 cI mi ma) sz)) 0 0 (va_A (wM y y1 y2 y3 y4 y5 y6 y7 y8 y9 y10 cI mi ma) sz) := by
  refine Met.ofW (cc := cMd_clear) (maxL := 3) (ret := none) (by decide) rfl ?_
  intro p e s m args below meth c s₁ B hml hv
  obtain ⟨rfl, hsz, hP, hK, hD0⟩ := hv
  have hx := B.exec
  have hb := B.bytes
  have hr := B.returns
  have hts0 := atoms_spec (ws := wsMd_clear) B.pre
  have hts := fun (w : Cond) (h : w ∈ lw_g) => hts0 w (List.mem_cons_of_mem _ h)
  have hown : s.vm.findClass RMd = some m.cls := findClass_of_methodNamed B.named
  have hlocks := B.notSynchronized
  subst hsz
  have hD := hD0.self (sz := s.heap.size)
  generalize hAe : va_A (wM y y1 y2 y3 y4 y5 y6 y7 y8 y9 y10 cI mi ma) s.heap.size = A at hD ⊢
  have hA : ∀ q : Nat, s.heap.size ≤ q → A q := fun q h => by rw [← hAe]; exact Or.inr h
  have hS : va_S A s.heap s.heap [] := va_S.rf
  have hP : va_P (dC, dI) vwCl (wM y y1 y2 y3 y4 y5 y6 y7 y8 y9 y10 cI mi ma) s.heap := hP
  have hl := lv_entry ([.ref y, .int x]) (n := 3) (Nat.le_of_ble_eq_true rfl)
  rw [lg_entry_eq]
  generalize (lg_sl ([.ref y, .int x]) ++ List.replicate (3 - (lg_sl ([.ref y, .int x])).length) Slot.unset).toArray = ls at hl ⊢
  have hl : lv_has ls 3 [(0, .ref y), (1, .int x)] := hl
  refine lv_aload_n hx hb dMd_clear_0 rfl (lv_at hl 0 rfl) ?_
  refine lv_iload_n hx hb dMd_clear_1 rfl (lv_at hl 1 rfl) ?_
  have hPc := hP.sub (ws' := (wM y y1 y2 y3 y4 y5 y6 y7 y8 y9 y10 cI mi ma)) [0, 1, 2, 3, 4, 5, 6, 7, 8, 9, 10] rfl
  have hDc := hD.sub (ws' := (wM y y1 y2 y3 y4 y5 y6 y7 y8 y9 y10 cI mi ma)) [0, 1, 2, 3, 4, 5, 6, 7, 8, 9, 10] (by decide) rfl
  have hKc := hK.sub (tys' := [(cI, .int)]) [0] rfl
  have hFc := va_free (wc := (wM y y1 y2 y3 y4 y5 y6 y7 y8 y9 y10 cI mi ma)) hD hS hA [0, 1, 2, 3, 4, 5, 6, 7, 8, 9, 10] rfl
  refine va_calli (va_runV (As := [.int x]) (rest := []) ⟨hx, hb, hml, hown, hts⟩ (k_M_lacks1 l dC dI s.heap.size y y1 y2 y3 y4 y5 y6 y7 y8 y9 y10 cI mi ma x hfx) (cwV 1 hts (gd_V in_91 in_93 in_94 in_74 in_92) rfl rfl rfl (by decide +kernel) ⟨Nat.le_of_ble_eq_true rfl, Nat.le_of_ble_eq_true rfl⟩) ⟨fun a U g mk q => by obtain ⟨q0, q1, qP, qK, qD⟩ := q; exact ⟨q0, q1, qP, va_K.moved (u := U) (U := U.calling g mk a) (Vm.Alike.refl U.vm) qK, qD⟩, va_recv hKc hPc (ci := 3) (q0 := 0) rfl rfl, fun U hU hW => ⟨rfl, by rw [hU], by rw [hU]; exact hPc, va_K.moved hW.alike hKc, hDc.weaken (fun _ _ _ _ => trivial)⟩⟩ rfl rfl hl.1 rfl (lv_room (Nat.le_of_ble_eq_true rfl)) dMd_clear_2 ⟨Nat.le_of_ble_eq_true rfl, Nat.le_of_ble_eq_true rfl⟩) hS (fun q _ h => hFc q h) hFc (fun r_1 u t H1 locs ht hvm hw hB hz1 hk1 hS => ?_)
  obtain ⟨hP1, hK1, hD1⟩ := hB
  rw [ht] at hP1
  obtain ⟨hP, hD⟩ := va_join (wr := []) (w1 := (wM y y1 y2 y3 y4 y5 y6 y7 y8 y9 y10 cI (va_up mi 0 1) ma)) hP hD [0, 1, 2, 3, 4, 5, 6, 7, 8, 9, 10] [] rfl rfl (by decide) (by decide) hk1 hFc hP1 hD1
  generalize H1 = H at hP hS ⊢
  have hP : va_P (dC, dI) vwCl (wM y y1 y2 y3 y4 y5 y6 y7 y8 y9 y10 cI (va_up mi 0 1) ma) H := hP
  have hD : va_D A (wM y y1 y2 y3 y4 y5 y6 y7 y8 y9 y10 cI (va_up mi 0 1) ma) := hD
  have hw : r_1 = 1 := hw
  subst hw
  refine lv_if_eq (tgt := 9) hx hb dMd_clear_5 (by decide) (fun c_2 => absurd c_2 (by decide)) (fun _ => ?_)
  have hP9 : va_P (dC, dI) vwCl (wM y y1 y2 y3 y4 y5 y6 y7 y8 y9 y10 cI (va_up mi 0 1) ma) H := by exact hP
  have hD9 : va_D A (wM y y1 y2 y3 y4 y5 y6 y7 y8 y9 y10 cI (va_up mi 0 1) ma) := by exact hD
  exact W.vret hx hb hr (fun t ht hW => ⟨⟨(), rfl, trivial, by rw [ht]; exact hP9, va_K.moved hW.alike hK, hD9⟩, hS.F ht⟩) hS.2.2 dMd_clear_8
set_option maxHeartbeats 4000000 in
set_option maxRecDepth 100000 in
/-- seq(k, z) -/
theorem k_M_seq (l : Launch) (dC : Nat → ClassId) (dI : Nat → Nat → Nat) (sz : Nat) (y y1 y2 y3 y4 y5 y6 y7 y8 y9 y10 : Nat) (cI : ClassId) (mi : Nat → Int32) (ma : Nat → Nat → Int32) (k z : Nat) (hk4 : k < 4) (hz : z < 16) : Met l yMd_seq wsMd_seq ({ frames := 3, cells := 0, slots := 0, locals := 120 }) (va_Pc [.ref y, .int (nI k), .int (nI z)] (fun U => U.heap.size = sz ∧ va_P (dC, dI) vwCl (wM y y1 y2 y3 y4 y5 y6 y7 y8 y9 y10 cI mi ma) U.heap ∧ va_K (dC, dI) vwCl [(cI, .int)] U ∧ va_D (fun _ => True) (wM y y1 y2 y3 y4 y5 y6 y7 y8 y9 y10 cI mi ma))) (va_Qi (fun (r : Int32) (_ : Unit) => r = ma 5 (16 * k + z)) (fun _ t => va_P (dC, dI) vwCl (wM y y1 y2 y3 y4 y5 y6 y7 y8 y9 y10 cI (va_up mi 0 0) ma) t.heap ∧ va_K (dC, dI) vwCl [(cI, .int)] t ∧ va_D (va_A (wM y y1 y2 y3 y4 y5 y6 y7 y8 y9 y10 cI mi ma) sz) (wM y y1 y2 y3 y4 y5 y6 y7 y8 y9 y10 cI (va_up mi 0 0) ma)) (va_A (wM y y1 y2 y3 y4 y5 y6 y7 y8 y9 y10 cI mi ma) sz)) 0 0 (va_A (wM y y1 y2 y3 y4 y5 y6 y7 y8 y9 y10 cI mi ma) sz) := by
  refine Met.ofW (cc := cMd_seq) (maxL := 3) (ret := (some .int)) (by decide) rfl ?_
  intro p e s m args below meth c s₁ B hml hv
  obtain ⟨rfl, hsz, hP, hK, hD0⟩ := hv
  have hx := B.exec
  have hb := B.bytes
  have hr := B.returns
  have hts0 := atoms_spec (ws := wsMd_seq) B.pre
  have hts := fun (w : Cond) (h : w ∈ lw_g) => hts0 w (List.mem_cons_of_mem _ h)
  have hown : s.vm.findClass RMd = some m.cls := findClass_of_methodNamed B.named
  have hlocks := B.notSynchronized
  subst hsz
  have hD := hD0.self (sz := s.heap.size)
  generalize hAe : va_A (wM y y1 y2 y3 y4 y5 y6 y7 y8 y9 y10 cI mi ma) s.heap.size = A at hD ⊢
  have hA : ∀ q : Nat, s.heap.size ≤ q → A q := fun q h => by rw [← hAe]; exact Or.inr h
  have hS : va_S A s.heap s.heap [] := va_S.rf
  have hP : va_P (dC, dI) vwCl (wM y y1 y2 y3 y4 y5 y6 y7 y8 y9 y10 cI mi ma) s.heap := hP
  have hl := lv_entry ([.ref y, .int (nI k), .int (nI z)]) (n := 3) (Nat.le_of_ble_eq_true rfl)
  rw [lg_entry_eq]
  generalize (lg_sl ([.ref y, .int (nI k), .int (nI z)]) ++ List.replicate (3 - (lg_sl ([.ref y, .int (nI k), .int (nI z)])).length) Slot.unset).toArray = ls at hl ⊢
  have hl : lv_has ls 3 [(0, .ref y), (1, .int (nI k)), (2, .int (nI z))] := hl
  refine lv_aload_n hx hb dMd_seq_0 rfl (lv_at hl 0 rfl) ?_
  refine lv_aload_n hx hb dMd_seq_1 rfl (lv_at hl 0 rfl) ?_
  refine lv_iload_n hx hb dMd_seq_2 rfl (lv_at hl 1 rfl) ?_
  have hPc := hP.sub (ws' := (wM y y1 y2 y3 y4 y5 y6 y7 y8 y9 y10 cI mi ma)) [0, 1, 2, 3, 4, 5, 6, 7, 8, 9, 10] rfl
  have hDc := hD.sub (ws' := (wM y y1 y2 y3 y4 y5 y6 y7 y8 y9 y10 cI mi ma)) [0, 1, 2, 3, 4, 5, 6, 7, 8, 9, 10] (by decide) rfl
  have hKc := hK.sub (tys' := [(cI, .int)]) [0] rfl
  have hFc := va_free (wc := (wM y y1 y2 y3 y4 y5 y6 y7 y8 y9 y10 cI mi ma)) hD hS hA [0, 1, 2, 3, 4, 5, 6, 7, 8, 9, 10] rfl
  refine va_calli (va_runV (As := [.int (nI k)]) (rest := [.ref y]) ⟨hx, hb, hml, hown, hts⟩ (k_M_lacks0 l dC dI s.heap.size y y1 y2 y3 y4 y5 y6 y7 y8 y9 y10 cI mi ma k hk4) (cwV 1 hts (gd_V in_91 in_93 in_94 in_74 in_92) rfl rfl rfl (by decide +kernel) ⟨Nat.le_of_ble_eq_true rfl, Nat.le_of_ble_eq_true rfl⟩) ⟨fun a U g mk q => by obtain ⟨q0, q1, qP, qK, qD⟩ := q; exact ⟨q0, q1, qP, va_K.moved (u := U) (U := U.calling g mk a) (Vm.Alike.refl U.vm) qK, qD⟩, va_recv hKc hPc (ci := 3) (q0 := 0) rfl rfl, fun U hU hW => ⟨rfl, by rw [hU], by rw [hU]; exact hPc, va_K.moved hW.alike hKc, hDc.weaken (fun _ _ _ _ => trivial)⟩⟩ rfl rfl hl.1 rfl (lv_room (Nat.le_of_ble_eq_true rfl)) dMd_seq_3 ⟨Nat.le_of_ble_eq_true rfl, Nat.le_of_ble_eq_true rfl⟩) hS (fun q _ h => hFc q h) hFc (fun r_1 u t H1 locs ht hvm hw hB hz1 hk1 hS => ?_)
  obtain ⟨hP1, hK1, hD1⟩ := hB
  rw [ht] at hP1
  obtain ⟨hP, hD⟩ := va_join (wr := []) (w1 := (wM y y1 y2 y3 y4 y5 y6 y7 y8 y9 y10 cI (va_up mi 0 0) ma)) hP hD [0, 1, 2, 3, 4, 5, 6, 7, 8, 9, 10] [] rfl rfl (by decide) (by decide) hk1 hFc hP1 hD1
  generalize H1 = H at hP hS ⊢
  have hP : va_P (dC, dI) vwCl (wM y y1 y2 y3 y4 y5 y6 y7 y8 y9 y10 cI (va_up mi 0 0) ma) H := hP
  have hD : va_D A (wM y y1 y2 y3 y4 y5 y6 y7 y8 y9 y10 cI (va_up mi 0 0) ma) := hD
  have hw : r_1 = 0 := hw
  subst hw
  refine lv_if_eq (tgt := 13) hx hb dMd_seq_6 (by decide) (fun _ => ?_) (fun c_2 => absurd c_2 (by decide))
  refine lv_iload_n hx hb dMd_seq_13 rfl (lv_at hl 2 rfl) ?_
  refine vp_callSi (W.runS (As := [.int (nI z)]) (rest := [.ref y]) ⟨hx, hb, hml, hown, hts⟩ (k_M_is16 l (nI z)) (va_cwS 1 hts (gd_S in_72 in_75 in_74 in_73) rfl rfl rfl (by decide +kernel) ⟨Nat.le_of_ble_eq_true rfl, Nat.le_of_ble_eq_true rfl⟩) ⟨fun a U g mk q => q, fun U hU hW => ⟨rfl, trivial⟩⟩ rfl rfl hl.1 rfl (lv_room (Nat.le_of_ble_eq_true rfl)) dMd_seq_14 ⟨Nat.le_of_ble_eq_true rfl, Nat.le_of_ble_eq_true rfl⟩) (fun r_3 er_4 => ?_)
  subst er_4
  refine lv_if_eq (tgt := 24) hx hb dMd_seq_17 (by decide) (fun c_5 => ?_) (fun c_5 => ?_)
  · skip
    exact absurd c_5 (s_in_ne hz)
  · skip
    refine lv_iconst (v := 0) hx hb dMd_seq_20 (by decide) ?_
    refine lv_goto (tgt := 25) hx hb dMd_seq_21 (by decide) ?_
    refine va_put (D := (dC, dI)) (ci := 3) (v := .int 0) (ty := .int) (C := RMd) (T := TMd) (N := 17) hx hb hts inMd tyMd tyMd_ok nmMd hown hK hP hD hS 0 rfl rfl 0 (by decide) (hts _ in_71) (fun _ h9 => h9) rfl (by decide +kernel) rfl rfl (Nat.le_of_ble_eq_true rfl) dMd_seq_25 (fun H locs hP hD hS => ?_)
    have hP : va_P (dC, dI) vwCl (wM y y1 y2 y3 y4 y5 y6 y7 y8 y9 y10 cI (va_up mi 0 0) ma) H := hP
    have hD : va_D A (wM y y1 y2 y3 y4 y5 y6 y7 y8 y9 y10 cI (va_up mi 0 0) ma) := hD
    refine lv_aload_n hx hb dMd_seq_28 rfl (lv_at hl 0 rfl) ?_
    refine va_get (D := (dC, dI)) (ci := 3) (v := .int 0) (C := RMd) (T := TMd) (N := 17) hx hb hts inMd hown hK hP 0 rfl rfl 0 (by decide) (hts _ in_71) (fun _ h9 => h9) rfl dMd_seq_29 ?_
    refine lv_if_le (tgt := 39) hx hb dMd_seq_32 (by decide) (fun _ => ?_) (fun c_6 => absurd c_6 (by decide))
    refine lv_aload_n hx hb dMd_seq_39 rfl (lv_at hl 0 rfl) ?_
    refine va_get (D := (dC, dI)) (ci := 3) (v := .ref y6) (C := RMd) (T := TMd) (N := 17) hx hb hts inMd hown hK hP 0 rfl rfl 7 (by decide) (hts _ in_85) (fun _ h9 => h9) rfl dMd_seq_40 ?_
    refine lv_bipush (v := nI 16) hx hb dMd_seq_43 (by decide) ?_
    refine lv_iload_n hx hb dMd_seq_45 rfl (lv_at hl 1 rfl) ?_
    refine lv_imul hx hb dMd_seq_46 ?_
    refine lv_ri (y := nI (16 * k)) (pk_mul _ _) ?_
    refine lv_iload_n hx hb dMd_seq_47 rfl (lv_at hl 2 rfl) ?_
    refine lv_iadd hx hb dMd_seq_48 ?_
    refine lv_ri (y := nI ((16 * k) + z)) (nI_add _ _) ?_
    refine vq_iald (k := ((16 * k) + z)) (f := ma 5) hx hb hK hP 6 0 rfl rfl rfl (by omega) (by decide) dMd_seq_49 ?_
    have hP9 : va_P (dC, dI) vwCl (wM y y1 y2 y3 y4 y5 y6 y7 y8 y9 y10 cI (va_up mi 0 0) ma) H := by exact hP
    have hD9 : va_D A (wM y y1 y2 y3 y4 y5 y6 y7 y8 y9 y10 cI (va_up mi 0 0) ma) := by exact hD
    exact W.iret (v := (ma 5) ((16 * k) + z)) hx hb hr (fun t ht hW => ⟨⟨(ma 5) ((16 * k) + z), (), rfl, rfl, by rw [ht]; exact hP9, va_K.moved hW.alike hK, hD9⟩, hS.F ht⟩) hS.2.2 dMd_seq_50
set_option maxHeartbeats 4000000 in
set_option maxRecDepth 100000 in
/-- seq(k, z), no session -/
theorem k_M_seqB (l : Launch) (dC : Nat → ClassId) (dI : Nat → Nat → Nat) (sz : Nat) (y y1 y2 y3 y4 y5 y6 y7 y8 y9 y10 : Nat) (cI : ClassId) (mi : Nat → Int32) (ma : Nat → Nat → Int32) (k : Nat) (z : Int32) (hk4 : k < 4) (hz : s_in z = 0) : Met l yMd_seq wsMd_seq ({ frames := 3, cells := 0, slots := 0, locals := 120 }) (va_Pc [.ref y, .int (nI k), .int z] (fun U => U.heap.size = sz ∧ va_P (dC, dI) vwCl (wM y y1 y2 y3 y4 y5 y6 y7 y8 y9 y10 cI mi ma) U.heap ∧ va_K (dC, dI) vwCl [(cI, .int)] U ∧ va_D (fun _ => True) (wM y y1 y2 y3 y4 y5 y6 y7 y8 y9 y10 cI mi ma))) (va_Qi (fun (r : Int32) (_ : Unit) => r = 0) (fun _ t => va_P (dC, dI) vwCl (wM y y1 y2 y3 y4 y5 y6 y7 y8 y9 y10 cI (va_up mi 0 2) ma) t.heap ∧ va_K (dC, dI) vwCl [(cI, .int)] t ∧ va_D (va_A (wM y y1 y2 y3 y4 y5 y6 y7 y8 y9 y10 cI mi ma) sz) (wM y y1 y2 y3 y4 y5 y6 y7 y8 y9 y10 cI (va_up mi 0 2) ma)) (va_A (wM y y1 y2 y3 y4 y5 y6 y7 y8 y9 y10 cI mi ma) sz)) 0 0 (va_A (wM y y1 y2 y3 y4 y5 y6 y7 y8 y9 y10 cI mi ma) sz) := by
  refine Met.ofW (cc := cMd_seq) (maxL := 3) (ret := (some .int)) (by decide) rfl ?_
  intro p e s m args below meth c s₁ B hml hv
  obtain ⟨rfl, hsz, hP, hK, hD0⟩ := hv
  have hx := B.exec
  have hb := B.bytes
  have hr := B.returns
  have hts0 := atoms_spec (ws := wsMd_seq) B.pre
  have hts := fun (w : Cond) (h : w ∈ lw_g) => hts0 w (List.mem_cons_of_mem _ h)
  have hown : s.vm.findClass RMd = some m.cls := findClass_of_methodNamed B.named
  have hlocks := B.notSynchronized
  subst hsz
  have hD := hD0.self (sz := s.heap.size)
  generalize hAe : va_A (wM y y1 y2 y3 y4 y5 y6 y7 y8 y9 y10 cI mi ma) s.heap.size = A at hD ⊢
  have hA : ∀ q : Nat, s.heap.size ≤ q → A q := fun q h => by rw [← hAe]; exact Or.inr h
  have hS : va_S A s.heap s.heap [] := va_S.rf
  have hP : va_P (dC, dI) vwCl (wM y y1 y2 y3 y4 y5 y6 y7 y8 y9 y10 cI mi ma) s.heap := hP
  have hl := lv_entry ([.ref y, .int (nI k), .int z]) (n := 3) (Nat.le_of_ble_eq_true rfl)
  rw [lg_entry_eq]
  generalize (lg_sl ([.ref y, .int (nI k), .int z]) ++ List.replicate (3 - (lg_sl ([.ref y, .int (nI k), .int z])).length) Slot.unset).toArray = ls at hl ⊢
  have hl : lv_has ls 3 [(0, .ref y), (1, .int (nI k)), (2, .int z)] := hl
  refine lv_aload_n hx hb dMd_seq_0 rfl (lv_at hl 0 rfl) ?_
  refine lv_aload_n hx hb dMd_seq_1 rfl (lv_at hl 0 rfl) ?_
  refine lv_iload_n hx hb dMd_seq_2 rfl (lv_at hl 1 rfl) ?_
  have hPc := hP.sub (ws' := (wM y y1 y2 y3 y4 y5 y6 y7 y8 y9 y10 cI mi ma)) [0, 1, 2, 3, 4, 5, 6, 7, 8, 9, 10] rfl
  have hDc := hD.sub (ws' := (wM y y1 y2 y3 y4 y5 y6 y7 y8 y9 y10 cI mi ma)) [0, 1, 2, 3, 4, 5, 6, 7, 8, 9, 10] (by decide) rfl
  have hKc := hK.sub (tys' := [(cI, .int)]) [0] rfl
  have hFc := va_free (wc := (wM y y1 y2 y3 y4 y5 y6 y7 y8 y9 y10 cI mi ma)) hD hS hA [0, 1, 2, 3, 4, 5, 6, 7, 8, 9, 10] rfl
  refine va_calli (va_runV (As := [.int (nI k)]) (rest := [.ref y]) ⟨hx, hb, hml, hown, hts⟩ (k_M_lacks0 l dC dI s.heap.size y y1 y2 y3 y4 y5 y6 y7 y8 y9 y10 cI mi ma k hk4) (cwV 1 hts (gd_V in_91 in_93 in_94 in_74 in_92) rfl rfl rfl (by decide +kernel) ⟨Nat.le_of_ble_eq_true rfl, Nat.le_of_ble_eq_true rfl⟩) ⟨fun a U g mk q => by obtain ⟨q0, q1, qP, qK, qD⟩ := q; exact ⟨q0, q1, qP, va_K.moved (u := U) (U := U.calling g mk a) (Vm.Alike.refl U.vm) qK, qD⟩, va_recv hKc hPc (ci := 3) (q0 := 0) rfl rfl, fun U hU hW => ⟨rfl, by rw [hU], by rw [hU]; exact hPc, va_K.moved hW.alike hKc, hDc.weaken (fun _ _ _ _ => trivial)⟩⟩ rfl rfl hl.1 rfl (lv_room (Nat.le_of_ble_eq_true rfl)) dMd_seq_3 ⟨Nat.le_of_ble_eq_true rfl, Nat.le_of_ble_eq_true rfl⟩) hS (fun q _ h => hFc q h) hFc (fun r_1 u t H1 locs ht hvm hw hB hz1 hk1 hS => ?_)
  obtain ⟨hP1, hK1, hD1⟩ := hB
  rw [ht] at hP1
  obtain ⟨hP, hD⟩ := va_join (wr := []) (w1 := (wM y y1 y2 y3 y4 y5 y6 y7 y8 y9 y10 cI (va_up mi 0 0) ma)) hP hD [0, 1, 2, 3, 4, 5, 6, 7, 8, 9, 10] [] rfl rfl (by decide) (by decide) hk1 hFc hP1 hD1
  generalize H1 = H at hP hS ⊢
  have hP : va_P (dC, dI) vwCl (wM y y1 y2 y3 y4 y5 y6 y7 y8 y9 y10 cI (va_up mi 0 0) ma) H := hP
  have hD : va_D A (wM y y1 y2 y3 y4 y5 y6 y7 y8 y9 y10 cI (va_up mi 0 0) ma) := hD
  have hw : r_1 = 0 := hw
  subst hw
  refine lv_if_eq (tgt := 13) hx hb dMd_seq_6 (by decide) (fun _ => ?_) (fun c_2 => absurd c_2 (by decide))
  refine lv_iload_n hx hb dMd_seq_13 rfl (lv_at hl 2 rfl) ?_
  refine vp_callSi (W.runS (As := [.int z]) (rest := [.ref y]) ⟨hx, hb, hml, hown, hts⟩ (k_M_is16 l z) (va_cwS 1 hts (gd_S in_72 in_75 in_74 in_73) rfl rfl rfl (by decide +kernel) ⟨Nat.le_of_ble_eq_true rfl, Nat.le_of_ble_eq_true rfl⟩) ⟨fun a U g mk q => q, fun U hU hW => ⟨rfl, trivial⟩⟩ rfl rfl hl.1 rfl (lv_room (Nat.le_of_ble_eq_true rfl)) dMd_seq_14 ⟨Nat.le_of_ble_eq_true rfl, Nat.le_of_ble_eq_true rfl⟩) (fun r_3 er_4 => ?_)
  subst er_4
  refine lv_if_eq (tgt := 24) hx hb dMd_seq_17 (by decide) (fun c_5 => ?_) (fun c_5 => ?_)
  · skip
    refine lv_iconst (v := 2) hx hb dMd_seq_24 (by decide) ?_
    refine va_put (D := (dC, dI)) (ci := 3) (v := .int 2) (ty := .int) (C := RMd) (T := TMd) (N := 17) hx hb hts inMd tyMd tyMd_ok nmMd hown hK hP hD hS 0 rfl rfl 0 (by decide) (hts _ in_71) (fun _ h9 => h9) rfl (by decide +kernel) rfl rfl (Nat.le_of_ble_eq_true rfl) dMd_seq_25 (fun H locs hP hD hS => ?_)
    have hP : va_P (dC, dI) vwCl (wM y y1 y2 y3 y4 y5 y6 y7 y8 y9 y10 cI (va_up mi 0 2) ma) H := hP
    have hD : va_D A (wM y y1 y2 y3 y4 y5 y6 y7 y8 y9 y10 cI (va_up mi 0 2) ma) := hD
    refine lv_aload_n hx hb dMd_seq_28 rfl (lv_at hl 0 rfl) ?_
    refine va_get (D := (dC, dI)) (ci := 3) (v := .int 2) (C := RMd) (T := TMd) (N := 17) hx hb hts inMd hown hK hP 0 rfl rfl 0 (by decide) (hts _ in_71) (fun _ h9 => h9) rfl dMd_seq_29 ?_
    refine lv_if_le (tgt := 39) hx hb dMd_seq_32 (by decide) (fun c_6 => absurd c_6 (by decide)) (fun _ => ?_)
    refine lv_iconst (v := 0) hx hb dMd_seq_35 (by decide) ?_
    refine lv_goto (tgt := 50) hx hb dMd_seq_36 (by decide) ?_
    have hP9 : va_P (dC, dI) vwCl (wM y y1 y2 y3 y4 y5 y6 y7 y8 y9 y10 cI (va_up mi 0 2) ma) H := by exact hP
    have hD9 : va_D A (wM y y1 y2 y3 y4 y5 y6 y7 y8 y9 y10 cI (va_up mi 0 2) ma) := by exact hD
    exact W.iret (v := 0) hx hb hr (fun t ht hW => ⟨⟨0, (), rfl, rfl, by rw [ht]; exact hP9, va_K.moved hW.alike hK, hD9⟩, hS.F ht⟩) hS.2.2 dMd_seq_50
  · skip
    exact absurd hz c_5
set_option maxHeartbeats 4000000 in
set_option maxRecDepth 100000 in
/-- seq(x, z), no fold -/
theorem k_M_seqN (l : Launch) (dC : Nat → ClassId) (dI : Nat → Nat → Nat) (sz : Nat) (y y1 y2 y3 y4 y5 y6 y7 y8 y9 y10 : Nat) (cI : ClassId) (mi : Nat → Int32) (ma : Nat → Nat → Int32) (x z : Int32) (hfx : s_lk x = 1) : Met l yMd_seq wsMd_seq ({ frames := 3, cells := 0, slots := 0, locals := 120 }) (va_Pc [.ref y, .int x, .int z] (fun U => U.heap.size = sz ∧ va_P (dC, dI) vwCl (wM y y1 y2 y3 y4 y5 y6 y7 y8 y9 y10 cI mi ma) U.heap ∧ va_K (dC, dI) vwCl [(cI, .int)] U ∧ va_D (fun _ => True) (wM y y1 y2 y3 y4 y5 y6 y7 y8 y9 y10 cI mi ma))) (va_Qi (fun (r : Int32) (_ : Unit) => r = 0) (fun _ t => va_P (dC, dI) vwCl (wM y y1 y2 y3 y4 y5 y6 y7 y8 y9 y10 cI (va_up mi 0 1) ma) t.heap ∧ va_K (dC, dI) vwCl [(cI, .int)] t ∧ va_D (va_A (wM y y1 y2 y3 y4 y5 y6 y7 y8 y9 y10 cI mi ma) sz) (wM y y1 y2 y3 y4 y5 y6 y7 y8 y9 y10 cI (va_up mi 0 1) ma)) (va_A (wM y y1 y2 y3 y4 y5 y6 y7 y8 y9 y10 cI mi ma) sz)) 0 0 (va_A (wM y y1 y2 y3 y4 y5 y6 y7 y8 y9 y10 cI mi ma) sz) := by
  refine Met.ofW (cc := cMd_seq) (maxL := 3) (ret := (some .int)) (by decide) rfl ?_
  intro p e s m args below meth c s₁ B hml hv
  obtain ⟨rfl, hsz, hP, hK, hD0⟩ := hv
  have hx := B.exec
  have hb := B.bytes
  have hr := B.returns
  have hts0 := atoms_spec (ws := wsMd_seq) B.pre
  have hts := fun (w : Cond) (h : w ∈ lw_g) => hts0 w (List.mem_cons_of_mem _ h)
  have hown : s.vm.findClass RMd = some m.cls := findClass_of_methodNamed B.named
  have hlocks := B.notSynchronized
  subst hsz
  have hD := hD0.self (sz := s.heap.size)
  generalize hAe : va_A (wM y y1 y2 y3 y4 y5 y6 y7 y8 y9 y10 cI mi ma) s.heap.size = A at hD ⊢
  have hA : ∀ q : Nat, s.heap.size ≤ q → A q := fun q h => by rw [← hAe]; exact Or.inr h
  have hS : va_S A s.heap s.heap [] := va_S.rf
  have hP : va_P (dC, dI) vwCl (wM y y1 y2 y3 y4 y5 y6 y7 y8 y9 y10 cI mi ma) s.heap := hP
  have hl := lv_entry ([.ref y, .int x, .int z]) (n := 3) (Nat.le_of_ble_eq_true rfl)
  rw [lg_entry_eq]
  generalize (lg_sl ([.ref y, .int x, .int z]) ++ List.replicate (3 - (lg_sl ([.ref y, .int x, .int z])).length) Slot.unset).toArray = ls at hl ⊢
  have hl : lv_has ls 3 [(0, .ref y), (1, .int x), (2, .int z)] := hl
  refine lv_aload_n hx hb dMd_seq_0 rfl (lv_at hl 0 rfl) ?_
  refine lv_aload_n hx hb dMd_seq_1 rfl (lv_at hl 0 rfl) ?_
  refine lv_iload_n hx hb dMd_seq_2 rfl (lv_at hl 1 rfl) ?_
  have hPc := hP.sub (ws' := (wM y y1 y2 y3 y4 y5 y6 y7 y8 y9 y10 cI mi ma)) [0, 1, 2, 3, 4, 5, 6, 7, 8, 9, 10] rfl
  have hDc := hD.sub (ws' := (wM y y1 y2 y3 y4 y5 y6 y7 y8 y9 y10 cI mi ma)) [0, 1, 2, 3, 4, 5, 6, 7, 8, 9, 10] (by decide) rfl
  have hKc := hK.sub (tys' := [(cI, .int)]) [0] rfl
  have hFc := va_free (wc := (wM y y1 y2 y3 y4 y5 y6 y7 y8 y9 y10 cI mi ma)) hD hS hA [0, 1, 2, 3, 4, 5, 6, 7, 8, 9, 10] rfl
  refine va_calli (va_runV (As := [.int x]) (rest := [.ref y]) ⟨hx, hb, hml, hown, hts⟩ (k_M_lacks1 l dC dI s.heap.size y y1 y2 y3 y4 y5 y6 y7 y8 y9 y10 cI mi ma x hfx) (cwV 1 hts (gd_V in_91 in_93 in_94 in_74 in_92) rfl rfl rfl (by decide +kernel) ⟨Nat.le_of_ble_eq_true rfl, Nat.le_of_ble_eq_true rfl⟩) ⟨fun a U g mk q => by obtain ⟨q0, q1, qP, qK, qD⟩ := q; exact ⟨q0, q1, qP, va_K.moved (u := U) (U := U.calling g mk a) (Vm.Alike.refl U.vm) qK, qD⟩, va_recv hKc hPc (ci := 3) (q0 := 0) rfl rfl, fun U hU hW => ⟨rfl, by rw [hU], by rw [hU]; exact hPc, va_K.moved hW.alike hKc, hDc.weaken (fun _ _ _ _ => trivial)⟩⟩ rfl rfl hl.1 rfl (lv_room (Nat.le_of_ble_eq_true rfl)) dMd_seq_3 ⟨Nat.le_of_ble_eq_true rfl, Nat.le_of_ble_eq_true rfl⟩) hS (fun q _ h => hFc q h) hFc (fun r_1 u t H1 locs ht hvm hw hB hz1 hk1 hS => ?_)
  obtain ⟨hP1, hK1, hD1⟩ := hB
  rw [ht] at hP1
  obtain ⟨hP, hD⟩ := va_join (wr := []) (w1 := (wM y y1 y2 y3 y4 y5 y6 y7 y8 y9 y10 cI (va_up mi 0 1) ma)) hP hD [0, 1, 2, 3, 4, 5, 6, 7, 8, 9, 10] [] rfl rfl (by decide) (by decide) hk1 hFc hP1 hD1
  generalize H1 = H at hP hS ⊢
  have hP : va_P (dC, dI) vwCl (wM y y1 y2 y3 y4 y5 y6 y7 y8 y9 y10 cI (va_up mi 0 1) ma) H := hP
  have hD : va_D A (wM y y1 y2 y3 y4 y5 y6 y7 y8 y9 y10 cI (va_up mi 0 1) ma) := hD
  have hw : r_1 = 1 := hw
  subst hw
  refine lv_if_eq (tgt := 13) hx hb dMd_seq_6 (by decide) (fun c_2 => absurd c_2 (by decide)) (fun _ => ?_)
  refine lv_iconst (v := 1) hx hb dMd_seq_9 (by decide) ?_
  refine lv_goto (tgt := 25) hx hb dMd_seq_10 (by decide) ?_
  refine va_put (D := (dC, dI)) (ci := 3) (v := .int 1) (ty := .int) (C := RMd) (T := TMd) (N := 17) hx hb hts inMd tyMd tyMd_ok nmMd hown hK hP hD hS 0 rfl rfl 0 (by decide) (hts _ in_71) (fun _ h9 => h9) rfl (by decide +kernel) rfl rfl (Nat.le_of_ble_eq_true rfl) dMd_seq_25 (fun H locs hP hD hS => ?_)
  have hP : va_P (dC, dI) vwCl (wM y y1 y2 y3 y4 y5 y6 y7 y8 y9 y10 cI (va_up mi 0 1) ma) H := hP
  have hD : va_D A (wM y y1 y2 y3 y4 y5 y6 y7 y8 y9 y10 cI (va_up mi 0 1) ma) := hD
  refine lv_aload_n hx hb dMd_seq_28 rfl (lv_at hl 0 rfl) ?_
  refine va_get (D := (dC, dI)) (ci := 3) (v := .int 1) (C := RMd) (T := TMd) (N := 17) hx hb hts inMd hown hK hP 0 rfl rfl 0 (by decide) (hts _ in_71) (fun _ h9 => h9) rfl dMd_seq_29 ?_
  refine lv_if_le (tgt := 39) hx hb dMd_seq_32 (by decide) (fun c_3 => absurd c_3 (by decide)) (fun _ => ?_)
  refine lv_iconst (v := 0) hx hb dMd_seq_35 (by decide) ?_
  refine lv_goto (tgt := 50) hx hb dMd_seq_36 (by decide) ?_
  have hP9 : va_P (dC, dI) vwCl (wM y y1 y2 y3 y4 y5 y6 y7 y8 y9 y10 cI (va_up mi 0 1) ma) H := by exact hP
  have hD9 : va_D A (wM y y1 y2 y3 y4 y5 y6 y7 y8 y9 y10 cI (va_up mi 0 1) ma) := by exact hD
  exact W.iret (v := 0) hx hb hr (fun t ht hW => ⟨⟨0, (), rfl, rfl, by rw [ht]; exact hP9, va_K.moved hW.alike hK, hD9⟩, hS.F ht⟩) hS.2.2 dMd_seq_50
set_option maxHeartbeats 4000000 in
set_option maxRecDepth 100000 in
/-- verdict(k, z) -/
theorem k_M_verdict (l : Launch) (dC : Nat → ClassId) (dI : Nat → Nat → Nat) (sz : Nat) (y y1 y2 y3 y4 y5 y6 y7 y8 y9 y10 : Nat) (cI : ClassId) (mi : Nat → Int32) (ma : Nat → Nat → Int32) (k z : Nat) (hk4 : k < 4) (hz : z < 16) : Met l yMd_verdict wsMd_verdict ({ frames := 3, cells := 0, slots := 0, locals := 120 }) (va_Pc [.ref y, .int (nI k), .int (nI z)] (fun U => U.heap.size = sz ∧ va_P (dC, dI) vwCl (wM y y1 y2 y3 y4 y5 y6 y7 y8 y9 y10 cI mi ma) U.heap ∧ va_K (dC, dI) vwCl [(cI, .int)] U ∧ va_D (fun _ => True) (wM y y1 y2 y3 y4 y5 y6 y7 y8 y9 y10 cI mi ma))) (va_Qi (fun (r : Int32) (_ : Unit) => r = ma 6 (16 * k + z)) (fun _ t => va_P (dC, dI) vwCl (wM y y1 y2 y3 y4 y5 y6 y7 y8 y9 y10 cI (va_up mi 0 0) ma) t.heap ∧ va_K (dC, dI) vwCl [(cI, .int)] t ∧ va_D (va_A (wM y y1 y2 y3 y4 y5 y6 y7 y8 y9 y10 cI mi ma) sz) (wM y y1 y2 y3 y4 y5 y6 y7 y8 y9 y10 cI (va_up mi 0 0) ma)) (va_A (wM y y1 y2 y3 y4 y5 y6 y7 y8 y9 y10 cI mi ma) sz)) 0 0 (va_A (wM y y1 y2 y3 y4 y5 y6 y7 y8 y9 y10 cI mi ma) sz) := by
  refine Met.ofW (cc := cMd_verdict) (maxL := 3) (ret := (some .int)) (by decide) rfl ?_
  intro p e s m args below meth c s₁ B hml hv
  obtain ⟨rfl, hsz, hP, hK, hD0⟩ := hv
  have hx := B.exec
  have hb := B.bytes
  have hr := B.returns
  have hts0 := atoms_spec (ws := wsMd_verdict) B.pre
  have hts := fun (w : Cond) (h : w ∈ lw_g) => hts0 w (List.mem_cons_of_mem _ h)
  have hown : s.vm.findClass RMd = some m.cls := findClass_of_methodNamed B.named
  have hlocks := B.notSynchronized
  subst hsz
  have hD := hD0.self (sz := s.heap.size)
  generalize hAe : va_A (wM y y1 y2 y3 y4 y5 y6 y7 y8 y9 y10 cI mi ma) s.heap.size = A at hD ⊢
  have hA : ∀ q : Nat, s.heap.size ≤ q → A q := fun q h => by rw [← hAe]; exact Or.inr h
  have hS : va_S A s.heap s.heap [] := va_S.rf
  have hP : va_P (dC, dI) vwCl (wM y y1 y2 y3 y4 y5 y6 y7 y8 y9 y10 cI mi ma) s.heap := hP
  have hl := lv_entry ([.ref y, .int (nI k), .int (nI z)]) (n := 3) (Nat.le_of_ble_eq_true rfl)
  rw [lg_entry_eq]
  generalize (lg_sl ([.ref y, .int (nI k), .int (nI z)]) ++ List.replicate (3 - (lg_sl ([.ref y, .int (nI k), .int (nI z)])).length) Slot.unset).toArray = ls at hl ⊢
  have hl : lv_has ls 3 [(0, .ref y), (1, .int (nI k)), (2, .int (nI z))] := hl
  refine lv_aload_n hx hb dMd_verdict_0 rfl (lv_at hl 0 rfl) ?_
  refine lv_aload_n hx hb dMd_verdict_1 rfl (lv_at hl 0 rfl) ?_
  refine lv_iload_n hx hb dMd_verdict_2 rfl (lv_at hl 1 rfl) ?_
  have hPc := hP.sub (ws' := (wM y y1 y2 y3 y4 y5 y6 y7 y8 y9 y10 cI mi ma)) [0, 1, 2, 3, 4, 5, 6, 7, 8, 9, 10] rfl
  have hDc := hD.sub (ws' := (wM y y1 y2 y3 y4 y5 y6 y7 y8 y9 y10 cI mi ma)) [0, 1, 2, 3, 4, 5, 6, 7, 8, 9, 10] (by decide) rfl
  have hKc := hK.sub (tys' := [(cI, .int)]) [0] rfl
  have hFc := va_free (wc := (wM y y1 y2 y3 y4 y5 y6 y7 y8 y9 y10 cI mi ma)) hD hS hA [0, 1, 2, 3, 4, 5, 6, 7, 8, 9, 10] rfl
  refine va_calli (va_runV (As := [.int (nI k)]) (rest := [.ref y]) ⟨hx, hb, hml, hown, hts⟩ (k_M_lacks0 l dC dI s.heap.size y y1 y2 y3 y4 y5 y6 y7 y8 y9 y10 cI mi ma k hk4) (cwV 1 hts (gd_V in_91 in_93 in_94 in_74 in_92) rfl rfl rfl (by decide +kernel) ⟨Nat.le_of_ble_eq_true rfl, Nat.le_of_ble_eq_true rfl⟩) ⟨fun a U g mk q => by obtain ⟨q0, q1, qP, qK, qD⟩ := q; exact ⟨q0, q1, qP, va_K.moved (u := U) (U := U.calling g mk a) (Vm.Alike.refl U.vm) qK, qD⟩, va_recv hKc hPc (ci := 3) (q0 := 0) rfl rfl, fun U hU hW => ⟨rfl, by rw [hU], by rw [hU]; exact hPc, va_K.moved hW.alike hKc, hDc.weaken (fun _ _ _ _ => trivial)⟩⟩ rfl rfl hl.1 rfl (lv_room (Nat.le_of_ble_eq_true rfl)) dMd_verdict_3 ⟨Nat.le_of_ble_eq_true rfl, Nat.le_of_ble_eq_true rfl⟩) hS (fun q _ h => hFc q h) hFc (fun r_1 u t H1 locs ht hvm hw hB hz1 hk1 hS => ?_)
  obtain ⟨hP1, hK1, hD1⟩ := hB
  rw [ht] at hP1
  obtain ⟨hP, hD⟩ := va_join (wr := []) (w1 := (wM y y1 y2 y3 y4 y5 y6 y7 y8 y9 y10 cI (va_up mi 0 0) ma)) hP hD [0, 1, 2, 3, 4, 5, 6, 7, 8, 9, 10] [] rfl rfl (by decide) (by decide) hk1 hFc hP1 hD1
  generalize H1 = H at hP hS ⊢
  have hP : va_P (dC, dI) vwCl (wM y y1 y2 y3 y4 y5 y6 y7 y8 y9 y10 cI (va_up mi 0 0) ma) H := hP
  have hD : va_D A (wM y y1 y2 y3 y4 y5 y6 y7 y8 y9 y10 cI (va_up mi 0 0) ma) := hD
  have hw : r_1 = 0 := hw
  subst hw
  refine lv_if_eq (tgt := 13) hx hb dMd_verdict_6 (by decide) (fun _ => ?_) (fun c_2 => absurd c_2 (by decide))
  refine lv_iload_n hx hb dMd_verdict_13 rfl (lv_at hl 2 rfl) ?_
  refine vp_callSi (W.runS (As := [.int (nI z)]) (rest := [.ref y]) ⟨hx, hb, hml, hown, hts⟩ (k_M_is16 l (nI z)) (va_cwS 1 hts (gd_S in_72 in_75 in_74 in_73) rfl rfl rfl (by decide +kernel) ⟨Nat.le_of_ble_eq_true rfl, Nat.le_of_ble_eq_true rfl⟩) ⟨fun a U g mk q => q, fun U hU hW => ⟨rfl, trivial⟩⟩ rfl rfl hl.1 rfl (lv_room (Nat.le_of_ble_eq_true rfl)) dMd_verdict_14 ⟨Nat.le_of_ble_eq_true rfl, Nat.le_of_ble_eq_true rfl⟩) (fun r_3 er_4 => ?_)
  subst er_4
  refine lv_if_eq (tgt := 24) hx hb dMd_verdict_17 (by decide) (fun c_5 => ?_) (fun c_5 => ?_)
  · skip
    exact absurd c_5 (s_in_ne hz)
  · skip
    refine lv_iconst (v := 0) hx hb dMd_verdict_20 (by decide) ?_
    refine lv_goto (tgt := 25) hx hb dMd_verdict_21 (by decide) ?_
    refine va_put (D := (dC, dI)) (ci := 3) (v := .int 0) (ty := .int) (C := RMd) (T := TMd) (N := 17) hx hb hts inMd tyMd tyMd_ok nmMd hown hK hP hD hS 0 rfl rfl 0 (by decide) (hts _ in_71) (fun _ h9 => h9) rfl (by decide +kernel) rfl rfl (Nat.le_of_ble_eq_true rfl) dMd_verdict_25 (fun H locs hP hD hS => ?_)
    have hP : va_P (dC, dI) vwCl (wM y y1 y2 y3 y4 y5 y6 y7 y8 y9 y10 cI (va_up mi 0 0) ma) H := hP
    have hD : va_D A (wM y y1 y2 y3 y4 y5 y6 y7 y8 y9 y10 cI (va_up mi 0 0) ma) := hD
    refine lv_aload_n hx hb dMd_verdict_28 rfl (lv_at hl 0 rfl) ?_
    refine va_get (D := (dC, dI)) (ci := 3) (v := .int 0) (C := RMd) (T := TMd) (N := 17) hx hb hts inMd hown hK hP 0 rfl rfl 0 (by decide) (hts _ in_71) (fun _ h9 => h9) rfl dMd_verdict_29 ?_
    refine lv_if_le (tgt := 39) hx hb dMd_verdict_32 (by decide) (fun _ => ?_) (fun c_6 => absurd c_6 (by decide))
    refine lv_aload_n hx hb dMd_verdict_39 rfl (lv_at hl 0 rfl) ?_
    refine va_get (D := (dC, dI)) (ci := 3) (v := .ref y7) (C := RMd) (T := TMd) (N := 17) hx hb hts inMd hown hK hP 0 rfl rfl 8 (by decide) (hts _ in_104) (fun _ h9 => h9) rfl dMd_verdict_40 ?_
    refine lv_bipush (v := nI 16) hx hb dMd_verdict_43 (by decide) ?_
    refine lv_iload_n hx hb dMd_verdict_45 rfl (lv_at hl 1 rfl) ?_
    refine lv_imul hx hb dMd_verdict_46 ?_
    refine lv_ri (y := nI (16 * k)) (pk_mul _ _) ?_
    refine lv_iload_n hx hb dMd_verdict_47 rfl (lv_at hl 2 rfl) ?_
    refine lv_iadd hx hb dMd_verdict_48 ?_
    refine lv_ri (y := nI ((16 * k) + z)) (nI_add _ _) ?_
    refine vq_iald (k := ((16 * k) + z)) (f := ma 6) hx hb hK hP 7 0 rfl rfl rfl (by omega) (by decide) dMd_verdict_49 ?_
    have hP9 : va_P (dC, dI) vwCl (wM y y1 y2 y3 y4 y5 y6 y7 y8 y9 y10 cI (va_up mi 0 0) ma) H := by exact hP
    have hD9 : va_D A (wM y y1 y2 y3 y4 y5 y6 y7 y8 y9 y10 cI (va_up mi 0 0) ma) := by exact hD
    exact W.iret (v := (ma 6) ((16 * k) + z)) hx hb hr (fun t ht hW => ⟨⟨(ma 6) ((16 * k) + z), (), rfl, rfl, by rw [ht]; exact hP9, va_K.moved hW.alike hK, hD9⟩, hS.F ht⟩) hS.2.2 dMd_verdict_50
set_option maxHeartbeats 4000000 in
set_option maxRecDepth 100000 in
/-- verdict(k, z), no session -/
theorem k_M_verdictB (l : Launch) (dC : Nat → ClassId) (dI : Nat → Nat → Nat) (sz : Nat) (y y1 y2 y3 y4 y5 y6 y7 y8 y9 y10 : Nat) (cI : ClassId) (mi : Nat → Int32) (ma : Nat → Nat → Int32) (k : Nat) (z : Int32) (hk4 : k < 4) (hz : s_in z = 0) : Met l yMd_verdict wsMd_verdict ({ frames := 3, cells := 0, slots := 0, locals := 120 }) (va_Pc [.ref y, .int (nI k), .int z] (fun U => U.heap.size = sz ∧ va_P (dC, dI) vwCl (wM y y1 y2 y3 y4 y5 y6 y7 y8 y9 y10 cI mi ma) U.heap ∧ va_K (dC, dI) vwCl [(cI, .int)] U ∧ va_D (fun _ => True) (wM y y1 y2 y3 y4 y5 y6 y7 y8 y9 y10 cI mi ma))) (va_Qi (fun (r : Int32) (_ : Unit) => r = 0) (fun _ t => va_P (dC, dI) vwCl (wM y y1 y2 y3 y4 y5 y6 y7 y8 y9 y10 cI (va_up mi 0 2) ma) t.heap ∧ va_K (dC, dI) vwCl [(cI, .int)] t ∧ va_D (va_A (wM y y1 y2 y3 y4 y5 y6 y7 y8 y9 y10 cI mi ma) sz) (wM y y1 y2 y3 y4 y5 y6 y7 y8 y9 y10 cI (va_up mi 0 2) ma)) (va_A (wM y y1 y2 y3 y4 y5 y6 y7 y8 y9 y10 cI mi ma) sz)) 0 0 (va_A (wM y y1 y2 y3 y4 y5 y6 y7 y8 y9 y10 cI mi ma) sz) := by
  refine Met.ofW (cc := cMd_verdict) (maxL := 3) (ret := (some .int)) (by decide) rfl ?_
  intro p e s m args below meth c s₁ B hml hv
  obtain ⟨rfl, hsz, hP, hK, hD0⟩ := hv
  have hx := B.exec
  have hb := B.bytes
  have hr := B.returns
  have hts0 := atoms_spec (ws := wsMd_verdict) B.pre
  have hts := fun (w : Cond) (h : w ∈ lw_g) => hts0 w (List.mem_cons_of_mem _ h)
  have hown : s.vm.findClass RMd = some m.cls := findClass_of_methodNamed B.named
  have hlocks := B.notSynchronized
  subst hsz
  have hD := hD0.self (sz := s.heap.size)
  generalize hAe : va_A (wM y y1 y2 y3 y4 y5 y6 y7 y8 y9 y10 cI mi ma) s.heap.size = A at hD ⊢
  have hA : ∀ q : Nat, s.heap.size ≤ q → A q := fun q h => by rw [← hAe]; exact Or.inr h
  have hS : va_S A s.heap s.heap [] := va_S.rf
  have hP : va_P (dC, dI) vwCl (wM y y1 y2 y3 y4 y5 y6 y7 y8 y9 y10 cI mi ma) s.heap := hP
  have hl := lv_entry ([.ref y, .int (nI k), .int z]) (n := 3) (Nat.le_of_ble_eq_true rfl)
  rw [lg_entry_eq]
  generalize (lg_sl ([.ref y, .int (nI k), .int z]) ++ List.replicate (3 - (lg_sl ([.ref y, .int (nI k), .int z])).length) Slot.unset).toArray = ls at hl ⊢
  have hl : lv_has ls 3 [(0, .ref y), (1, .int (nI k)), (2, .int z)] := hl
  refine lv_aload_n hx hb dMd_verdict_0 rfl (lv_at hl 0 rfl) ?_
  refine lv_aload_n hx hb dMd_verdict_1 rfl (lv_at hl 0 rfl) ?_
  refine lv_iload_n hx hb dMd_verdict_2 rfl (lv_at hl 1 rfl) ?_
  have hPc := hP.sub (ws' := (wM y y1 y2 y3 y4 y5 y6 y7 y8 y9 y10 cI mi ma)) [0, 1, 2, 3, 4, 5, 6, 7, 8, 9, 10] rfl
  have hDc := hD.sub (ws' := (wM y y1 y2 y3 y4 y5 y6 y7 y8 y9 y10 cI mi ma)) [0, 1, 2, 3, 4, 5, 6, 7, 8, 9, 10] (by decide) rfl
  have hKc := hK.sub (tys' := [(cI, .int)]) [0] rfl
  have hFc := va_free (wc := (wM y y1 y2 y3 y4 y5 y6 y7 y8 y9 y10 cI mi ma)) hD hS hA [0, 1, 2, 3, 4, 5, 6, 7, 8, 9, 10] rfl
  refine va_calli (va_runV (As := [.int (nI k)]) (rest := [.ref y]) ⟨hx, hb, hml, hown, hts⟩ (k_M_lacks0 l dC dI s.heap.size y y1 y2 y3 y4 y5 y6 y7 y8 y9 y10 cI mi ma k hk4) (cwV 1 hts (gd_V in_91 in_93 in_94 in_74 in_92) rfl rfl rfl (by decide +kernel) ⟨Nat.le_of_ble_eq_true rfl, Nat.le_of_ble_eq_true rfl⟩) ⟨fun a U g mk q => by obtain ⟨q0, q1, qP, qK, qD⟩ := q; exact ⟨q0, q1, qP, va_K.moved (u := U) (U := U.calling g mk a) (Vm.Alike.refl U.vm) qK, qD⟩, va_recv hKc hPc (ci := 3) (q0 := 0) rfl rfl, fun U hU hW => ⟨rfl, by rw [hU], by rw [hU]; exact hPc, va_K.moved hW.alike hKc, hDc.weaken (fun _ _ _ _ => trivial)⟩⟩ rfl rfl hl.1 rfl (lv_room (Nat.le_of_ble_eq_true rfl)) dMd_verdict_3 ⟨Nat.le_of_ble_eq_true rfl, Nat.le_of_ble_eq_true rfl⟩) hS (fun q _ h => hFc q h) hFc (fun r_1 u t H1 locs ht hvm hw hB hz1 hk1 hS => ?_)
  obtain ⟨hP1, hK1, hD1⟩ := hB
  rw [ht] at hP1
  obtain ⟨hP, hD⟩ := va_join (wr := []) (w1 := (wM y y1 y2 y3 y4 y5 y6 y7 y8 y9 y10 cI (va_up mi 0 0) ma)) hP hD [0, 1, 2, 3, 4, 5, 6, 7, 8, 9, 10] [] rfl rfl (by decide) (by decide) hk1 hFc hP1 hD1
  generalize H1 = H at hP hS ⊢
  have hP : va_P (dC, dI) vwCl (wM y y1 y2 y3 y4 y5 y6 y7 y8 y9 y10 cI (va_up mi 0 0) ma) H := hP
  have hD : va_D A (wM y y1 y2 y3 y4 y5 y6 y7 y8 y9 y10 cI (va_up mi 0 0) ma) := hD
  have hw : r_1 = 0 := hw
  subst hw
  refine lv_if_eq (tgt := 13) hx hb dMd_verdict_6 (by decide) (fun _ => ?_) (fun c_2 => absurd c_2 (by decide))
  refine lv_iload_n hx hb dMd_verdict_13 rfl (lv_at hl 2 rfl) ?_
  refine vp_callSi (W.runS (As := [.int z]) (rest := [.ref y]) ⟨hx, hb, hml, hown, hts⟩ (k_M_is16 l z) (va_cwS 1 hts (gd_S in_72 in_75 in_74 in_73) rfl rfl rfl (by decide +kernel) ⟨Nat.le_of_ble_eq_true rfl, Nat.le_of_ble_eq_true rfl⟩) ⟨fun a U g mk q => q, fun U hU hW => ⟨rfl, trivial⟩⟩ rfl rfl hl.1 rfl (lv_room (Nat.le_of_ble_eq_true rfl)) dMd_verdict_14 ⟨Nat.le_of_ble_eq_true rfl, Nat.le_of_ble_eq_true rfl⟩) (fun r_3 er_4 => ?_)
  subst er_4
  refine lv_if_eq (tgt := 24) hx hb dMd_verdict_17 (by decide) (fun c_5 => ?_) (fun c_5 => ?_)
  · skip
    refine lv_iconst (v := 2) hx hb dMd_verdict_24 (by decide) ?_
    refine va_put (D := (dC, dI)) (ci := 3) (v := .int 2) (ty := .int) (C := RMd) (T := TMd) (N := 17) hx hb hts inMd tyMd tyMd_ok nmMd hown hK hP hD hS 0 rfl rfl 0 (by decide) (hts _ in_71) (fun _ h9 => h9) rfl (by decide +kernel) rfl rfl (Nat.le_of_ble_eq_true rfl) dMd_verdict_25 (fun H locs hP hD hS => ?_)
    have hP : va_P (dC, dI) vwCl (wM y y1 y2 y3 y4 y5 y6 y7 y8 y9 y10 cI (va_up mi 0 2) ma) H := hP
    have hD : va_D A (wM y y1 y2 y3 y4 y5 y6 y7 y8 y9 y10 cI (va_up mi 0 2) ma) := hD
    refine lv_aload_n hx hb dMd_verdict_28 rfl (lv_at hl 0 rfl) ?_
    refine va_get (D := (dC, dI)) (ci := 3) (v := .int 2) (C := RMd) (T := TMd) (N := 17) hx hb hts inMd hown hK hP 0 rfl rfl 0 (by decide) (hts _ in_71) (fun _ h9 => h9) rfl dMd_verdict_29 ?_
    refine lv_if_le (tgt := 39) hx hb dMd_verdict_32 (by decide) (fun c_6 => absurd c_6 (by decide)) (fun _ => ?_)
    refine lv_iconst (v := 0) hx hb dMd_verdict_35 (by decide) ?_
    refine lv_goto (tgt := 50) hx hb dMd_verdict_36 (by decide) ?_
    have hP9 : va_P (dC, dI) vwCl (wM y y1 y2 y3 y4 y5 y6 y7 y8 y9 y10 cI (va_up mi 0 2) ma) H := by exact hP
    have hD9 : va_D A (wM y y1 y2 y3 y4 y5 y6 y7 y8 y9 y10 cI (va_up mi 0 2) ma) := by exact hD
    exact W.iret (v := 0) hx hb hr (fun t ht hW => ⟨⟨0, (), rfl, rfl, by rw [ht]; exact hP9, va_K.moved hW.alike hK, hD9⟩, hS.F ht⟩) hS.2.2 dMd_verdict_50
  · skip
    exact absurd hz c_5
set_option maxHeartbeats 4000000 in
set_option maxRecDepth 100000 in
/-- verdict(x, z), no fold -/
theorem k_M_verdictN (l : Launch) (dC : Nat → ClassId) (dI : Nat → Nat → Nat) (sz : Nat) (y y1 y2 y3 y4 y5 y6 y7 y8 y9 y10 : Nat) (cI : ClassId) (mi : Nat → Int32) (ma : Nat → Nat → Int32) (x z : Int32) (hfx : s_lk x = 1) : Met l yMd_verdict wsMd_verdict ({ frames := 3, cells := 0, slots := 0, locals := 120 }) (va_Pc [.ref y, .int x, .int z] (fun U => U.heap.size = sz ∧ va_P (dC, dI) vwCl (wM y y1 y2 y3 y4 y5 y6 y7 y8 y9 y10 cI mi ma) U.heap ∧ va_K (dC, dI) vwCl [(cI, .int)] U ∧ va_D (fun _ => True) (wM y y1 y2 y3 y4 y5 y6 y7 y8 y9 y10 cI mi ma))) (va_Qi (fun (r : Int32) (_ : Unit) => r = 0) (fun _ t => va_P (dC, dI) vwCl (wM y y1 y2 y3 y4 y5 y6 y7 y8 y9 y10 cI (va_up mi 0 1) ma) t.heap ∧ va_K (dC, dI) vwCl [(cI, .int)] t ∧ va_D (va_A (wM y y1 y2 y3 y4 y5 y6 y7 y8 y9 y10 cI mi ma) sz) (wM y y1 y2 y3 y4 y5 y6 y7 y8 y9 y10 cI (va_up mi 0 1) ma)) (va_A (wM y y1 y2 y3 y4 y5 y6 y7 y8 y9 y10 cI mi ma) sz)) 0 0 (va_A (wM y y1 y2 y3 y4 y5 y6 y7 y8 y9 y10 cI mi ma) sz) := by
  refine Met.ofW (cc := cMd_verdict) (maxL := 3) (ret := (some .int)) (by decide) rfl ?_
  intro p e s m args below meth c s₁ B hml hv
  obtain ⟨rfl, hsz, hP, hK, hD0⟩ := hv
  have hx := B.exec
  have hb := B.bytes
  have hr := B.returns
  have hts0 := atoms_spec (ws := wsMd_verdict) B.pre
  have hts := fun (w : Cond) (h : w ∈ lw_g) => hts0 w (List.mem_cons_of_mem _ h)
  have hown : s.vm.findClass RMd = some m.cls := findClass_of_methodNamed B.named
  have hlocks := B.notSynchronized
  subst hsz
  have hD := hD0.self (sz := s.heap.size)
  generalize hAe : va_A (wM y y1 y2 y3 y4 y5 y6 y7 y8 y9 y10 cI mi ma) s.heap.size = A at hD ⊢
  have hA : ∀ q : Nat, s.heap.size ≤ q → A q := fun q h => by rw [← hAe]; exact Or.inr h
  have hS : va_S A s.heap s.heap [] := va_S.rf
  have hP : va_P (dC, dI) vwCl (wM y y1 y2 y3 y4 y5 y6 y7 y8 y9 y10 cI mi ma) s.heap := hP
  have hl := lv_entry ([.ref y, .int x, .int z]) (n := 3) (Nat.le_of_ble_eq_true rfl)
  rw [lg_entry_eq]
  generalize (lg_sl ([.ref y, .int x, .int z]) ++ List.replicate (3 - (lg_sl ([.ref y, .int x, .int z])).length) Slot.unset).toArray = ls at hl ⊢
  have hl : lv_has ls 3 [(0, .ref y), (1, .int x), (2, .int z)] := hl
  refine lv_aload_n hx hb dMd_verdict_0 rfl (lv_at hl 0 rfl) ?_
  refine lv_aload_n hx hb dMd_verdict_1 rfl (lv_at hl 0 rfl) ?_
  refine lv_iload_n hx hb dMd_verdict_2 rfl (lv_at hl 1 rfl) ?_
  have hPc := hP.sub (ws' := (wM y y1 y2 y3 y4 y5 y6 y7 y8 y9 y10 cI mi ma)) [0, 1, 2, 3, 4, 5, 6, 7, 8, 9, 10] rfl
  have hDc := hD.sub (ws' := (wM y y1 y2 y3 y4 y5 y6 y7 y8 y9 y10 cI mi ma)) [0, 1, 2, 3, 4, 5, 6, 7, 8, 9, 10] (by decide) rfl
  have hKc := hK.sub (tys' := [(cI, .int)]) [0] rfl
  have hFc := va_free (wc := (wM y y1 y2 y3 y4 y5 y6 y7 y8 y9 y10 cI mi ma)) hD hS hA [0, 1, 2, 3, 4, 5, 6, 7, 8, 9, 10] rfl
  refine va_calli (va_runV (As := [.int x]) (rest := [.ref y]) ⟨hx, hb, hml, hown, hts⟩ (k_M_lacks1 l dC dI s.heap.size y y1 y2 y3 y4 y5 y6 y7 y8 y9 y10 cI mi ma x hfx) (cwV 1 hts (gd_V in_91 in_93 in_94 in_74 in_92) rfl rfl rfl (by decide +kernel) ⟨Nat.le_of_ble_eq_true rfl, Nat.le_of_ble_eq_true rfl⟩) ⟨fun a U g mk q => by obtain ⟨q0, q1, qP, qK, qD⟩ := q; exact ⟨q0, q1, qP, va_K.moved (u := U) (U := U.calling g mk a) (Vm.Alike.refl U.vm) qK, qD⟩, va_recv hKc hPc (ci := 3) (q0 := 0) rfl rfl, fun U hU hW => ⟨rfl, by rw [hU], by rw [hU]; exact hPc, va_K.moved hW.alike hKc, hDc.weaken (fun _ _ _ _ => trivial)⟩⟩ rfl rfl hl.1 rfl (lv_room (Nat.le_of_ble_eq_true rfl)) dMd_verdict_3 ⟨Nat.le_of_ble_eq_true rfl, Nat.le_of_ble_eq_true rfl⟩) hS (fun q _ h => hFc q h) hFc (fun r_1 u t H1 locs ht hvm hw hB hz1 hk1 hS => ?_)
  obtain ⟨hP1, hK1, hD1⟩ := hB
  rw [ht] at hP1
  obtain ⟨hP, hD⟩ := va_join (wr := []) (w1 := (wM y y1 y2 y3 y4 y5 y6 y7 y8 y9 y10 cI (va_up mi 0 1) ma)) hP hD [0, 1, 2, 3, 4, 5, 6, 7, 8, 9, 10] [] rfl rfl (by decide) (by decide) hk1 hFc hP1 hD1
  generalize H1 = H at hP hS ⊢
  have hP : va_P (dC, dI) vwCl (wM y y1 y2 y3 y4 y5 y6 y7 y8 y9 y10 cI (va_up mi 0 1) ma) H := hP
  have hD : va_D A (wM y y1 y2 y3 y4 y5 y6 y7 y8 y9 y10 cI (va_up mi 0 1) ma) := hD
  have hw : r_1 = 1 := hw
  subst hw
  refine lv_if_eq (tgt := 13) hx hb dMd_verdict_6 (by decide) (fun c_2 => absurd c_2 (by decide)) (fun _ => ?_)
  refine lv_iconst (v := 1) hx hb dMd_verdict_9 (by decide) ?_
  refine lv_goto (tgt := 25) hx hb dMd_verdict_10 (by decide) ?_
  refine va_put (D := (dC, dI)) (ci := 3) (v := .int 1) (ty := .int) (C := RMd) (T := TMd) (N := 17) hx hb hts inMd tyMd tyMd_ok nmMd hown hK hP hD hS 0 rfl rfl 0 (by decide) (hts _ in_71) (fun _ h9 => h9) rfl (by decide +kernel) rfl rfl (Nat.le_of_ble_eq_true rfl) dMd_verdict_25 (fun H locs hP hD hS => ?_)
  have hP : va_P (dC, dI) vwCl (wM y y1 y2 y3 y4 y5 y6 y7 y8 y9 y10 cI (va_up mi 0 1) ma) H := hP
  have hD : va_D A (wM y y1 y2 y3 y4 y5 y6 y7 y8 y9 y10 cI (va_up mi 0 1) ma) := hD
  refine lv_aload_n hx hb dMd_verdict_28 rfl (lv_at hl 0 rfl) ?_
  refine va_get (D := (dC, dI)) (ci := 3) (v := .int 1) (C := RMd) (T := TMd) (N := 17) hx hb hts inMd hown hK hP 0 rfl rfl 0 (by decide) (hts _ in_71) (fun _ h9 => h9) rfl dMd_verdict_29 ?_
  refine lv_if_le (tgt := 39) hx hb dMd_verdict_32 (by decide) (fun c_3 => absurd c_3 (by decide)) (fun _ => ?_)
  refine lv_iconst (v := 0) hx hb dMd_verdict_35 (by decide) ?_
  refine lv_goto (tgt := 50) hx hb dMd_verdict_36 (by decide) ?_
  have hP9 : va_P (dC, dI) vwCl (wM y y1 y2 y3 y4 y5 y6 y7 y8 y9 y10 cI (va_up mi 0 1) ma) H := by exact hP
  have hD9 : va_D A (wM y y1 y2 y3 y4 y5 y6 y7 y8 y9 y10 cI (va_up mi 0 1) ma) := by exact hD
  exact W.iret (v := 0) hx hb hr (fun t ht hW => ⟨⟨0, (), rfl, rfl, by rw [ht]; exact hP9, va_K.moved hW.alike hK, hD9⟩, hS.F ht⟩) hS.2.2 dMd_verdict_50
end
section
set_option maxHeartbeats 4000000 in
set_option maxRecDepth 100000 in
/-- value(k, z, t) -/
theorem k_M_value (l : Launch) (dC : Nat → ClassId) (dI : Nat → Nat → Nat) (sz : Nat) (y y1 y2 y3 y4 y5 y6 y7 y8 y9 y10 : Nat) (cI : ClassId) (mi : Nat → Int32) (ma : Nat → Nat → Int32) (k z t0 : Nat) (hk4 : k < 4) (hz : z < 16) (ht31 : t0 < 2 ^ 31) (hlo : ¬ nI t0 < ma 1 k) (hhi : nI t0 ≤ ma 0 k) : Met l yMd_value wsMd_value ({ frames := 3, cells := 0, slots := 0, locals := 120 }) (va_Pc [.ref y, .int (nI k), .int (nI z), .int (nI t0)] (fun U => U.heap.size = sz ∧ va_P (dC, dI) vwCl (wM y y1 y2 y3 y4 y5 y6 y7 y8 y9 y10 cI mi ma) U.heap ∧ va_K (dC, dI) vwCl [(cI, .int)] U ∧ va_D (fun _ => True) (wM y y1 y2 y3 y4 y5 y6 y7 y8 y9 y10 cI mi ma))) (va_Qi (fun (r : Int32) (_ : Unit) => r = ma 8 (16 * (64 * k + t0 % 64) + z)) (fun _ t => va_P (dC, dI) vwCl (wM y y1 y2 y3 y4 y5 y6 y7 y8 y9 y10 cI (va_up mi 0 0) ma) t.heap ∧ va_K (dC, dI) vwCl [(cI, .int)] t ∧ va_D (va_A (wM y y1 y2 y3 y4 y5 y6 y7 y8 y9 y10 cI mi ma) sz) (wM y y1 y2 y3 y4 y5 y6 y7 y8 y9 y10 cI (va_up mi 0 0) ma)) (va_A (wM y y1 y2 y3 y4 y5 y6 y7 y8 y9 y10 cI mi ma) sz)) 0 0 (va_A (wM y y1 y2 y3 y4 y5 y6 y7 y8 y9 y10 cI mi ma) sz) := by
  refine Met.ofW (cc := cMd_value) (maxL := 4) (ret := (some .int)) (by decide) rfl ?_
  intro p e s m args below meth c s₁ B hml hv
  obtain ⟨rfl, hsz, hP, hK, hD0⟩ := hv
  have hx := B.exec
  have hb := B.bytes
  have hr := B.returns
  have hts0 := atoms_spec (ws := wsMd_value) B.pre
  have hts := fun (w : Cond) (h : w ∈ lw_g) => hts0 w (List.mem_cons_of_mem _ h)
  have hown : s.vm.findClass RMd = some m.cls := findClass_of_methodNamed B.named
  have hlocks := B.notSynchronized
  subst hsz
  have hD := hD0.self (sz := s.heap.size)
  generalize hAe : va_A (wM y y1 y2 y3 y4 y5 y6 y7 y8 y9 y10 cI mi ma) s.heap.size = A at hD ⊢
  have hA : ∀ q : Nat, s.heap.size ≤ q → A q := fun q h => by rw [← hAe]; exact Or.inr h
  have hS : va_S A s.heap s.heap [] := va_S.rf
  have hP : va_P (dC, dI) vwCl (wM y y1 y2 y3 y4 y5 y6 y7 y8 y9 y10 cI mi ma) s.heap := hP
  have hl := lv_entry ([.ref y, .int (nI k), .int (nI z), .int (nI t0)]) (n := 4) (Nat.le_of_ble_eq_true rfl)
  rw [lg_entry_eq]
  generalize (lg_sl ([.ref y, .int (nI k), .int (nI z), .int (nI t0)]) ++ List.replicate (4 - (lg_sl ([.ref y, .int (nI k), .int (nI z), .int (nI t0)])).length) Slot.unset).toArray = ls at hl ⊢
  have hl : lv_has ls 4 [(0, .ref y), (1, .int (nI k)), (2, .int (nI z)), (3, .int (nI t0))] := hl
  refine lv_aload_n hx hb dMd_value_0 rfl (lv_at hl 0 rfl) ?_
  refine lv_aload_n hx hb dMd_value_1 rfl (lv_at hl 0 rfl) ?_
  refine lv_iload_n hx hb dMd_value_2 rfl (lv_at hl 1 rfl) ?_
  have hPc := hP.sub (ws' := (wM y y1 y2 y3 y4 y5 y6 y7 y8 y9 y10 cI mi ma)) [0, 1, 2, 3, 4, 5, 6, 7, 8, 9, 10] rfl
  have hDc := hD.sub (ws' := (wM y y1 y2 y3 y4 y5 y6 y7 y8 y9 y10 cI mi ma)) [0, 1, 2, 3, 4, 5, 6, 7, 8, 9, 10] (by decide) rfl
  have hKc := hK.sub (tys' := [(cI, .int)]) [0] rfl
  have hFc := va_free (wc := (wM y y1 y2 y3 y4 y5 y6 y7 y8 y9 y10 cI mi ma)) hD hS hA [0, 1, 2, 3, 4, 5, 6, 7, 8, 9, 10] rfl
  refine va_calli (va_runV (As := [.int (nI k)]) (rest := [.ref y]) ⟨hx, hb, hml, hown, hts⟩ (k_M_lacks0 l dC dI s.heap.size y y1 y2 y3 y4 y5 y6 y7 y8 y9 y10 cI mi ma k hk4) (cwV 1 hts (gd_V in_91 in_93 in_94 in_74 in_92) rfl rfl rfl (by decide +kernel) ⟨Nat.le_of_ble_eq_true rfl, Nat.le_of_ble_eq_true rfl⟩) ⟨fun a U g mk q => by obtain ⟨q0, q1, qP, qK, qD⟩ := q; exact ⟨q0, q1, qP, va_K.moved (u := U) (U := U.calling g mk a) (Vm.Alike.refl U.vm) qK, qD⟩, va_recv hKc hPc (ci := 3) (q0 := 0) rfl rfl, fun U hU hW => ⟨rfl, by rw [hU], by rw [hU]; exact hPc, va_K.moved hW.alike hKc, hDc.weaken (fun _ _ _ _ => trivial)⟩⟩ rfl rfl hl.1 rfl (lv_room (Nat.le_of_ble_eq_true rfl)) dMd_value_3 ⟨Nat.le_of_ble_eq_true rfl, Nat.le_of_ble_eq_true rfl⟩) hS (fun q _ h => hFc q h) hFc (fun r_1 u t H1 locs ht hvm hw hB hz1 hk1 hS => ?_)
  obtain ⟨hP1, hK1, hD1⟩ := hB
  rw [ht] at hP1
  obtain ⟨hP, hD⟩ := va_join (wr := []) (w1 := (wM y y1 y2 y3 y4 y5 y6 y7 y8 y9 y10 cI (va_up mi 0 0) ma)) hP hD [0, 1, 2, 3, 4, 5, 6, 7, 8, 9, 10] [] rfl rfl (by decide) (by decide) hk1 hFc hP1 hD1
  generalize H1 = H at hP hS ⊢
  have hP : va_P (dC, dI) vwCl (wM y y1 y2 y3 y4 y5 y6 y7 y8 y9 y10 cI (va_up mi 0 0) ma) H := hP
  have hD : va_D A (wM y y1 y2 y3 y4 y5 y6 y7 y8 y9 y10 cI (va_up mi 0 0) ma) := hD
  have hw : r_1 = 0 := hw
  subst hw
  refine lv_if_eq (tgt := 13) hx hb dMd_value_6 (by decide) (fun _ => ?_) (fun c_2 => absurd c_2 (by decide))
  refine lv_iload_n hx hb dMd_value_13 rfl (lv_at hl 2 rfl) ?_
  refine vp_callSi (W.runS (As := [.int (nI z)]) (rest := [.ref y]) ⟨hx, hb, hml, hown, hts⟩ (k_M_is16 l (nI z)) (va_cwS 1 hts (gd_S in_72 in_75 in_74 in_73) rfl rfl rfl (by decide +kernel) ⟨Nat.le_of_ble_eq_true rfl, Nat.le_of_ble_eq_true rfl⟩) ⟨fun a U g mk q => q, fun U hU hW => ⟨rfl, trivial⟩⟩ rfl rfl hl.1 rfl (lv_room (Nat.le_of_ble_eq_true rfl)) dMd_value_14 ⟨Nat.le_of_ble_eq_true rfl, Nat.le_of_ble_eq_true rfl⟩) (fun r_3 er_4 => ?_)
  subst er_4
  refine lv_if_eq (tgt := 66) hx hb dMd_value_17 (by decide) (fun c_5 => ?_) (fun c_5 => ?_)
  · skip
    exact absurd c_5 (s_in_ne hz)
  · skip
    refine lv_iload_n hx hb dMd_value_20 rfl (lv_at hl 3 rfl) ?_
    refine lv_aload_n hx hb dMd_value_21 rfl (lv_at hl 0 rfl) ?_
    refine va_get (D := (dC, dI)) (ci := 3) (v := .ref y2) (C := RMd) (T := TMd) (N := 17) hx hb hts inMd hown hK hP 0 rfl rfl 3 (by decide) (hts _ in_102) (fun _ h9 => h9) rfl dMd_value_22 ?_
    refine lv_iload_n hx hb dMd_value_25 rfl (lv_at hl 1 rfl) ?_
    refine lv_if_lt (tgt := 34) hx hb dMd_value_26 (by decide) (fun c_6 => ?_) (fun c_6 => ?_)
    · skip
      exact absurd c_6 (nI_pos (by omega))
    · skip
      refine lv_iload_n hx hb dMd_value_29 rfl (lv_at hl 1 rfl) ?_
      refine lv_iconst (v := nI 3) hx hb dMd_value_30 (by decide) ?_
      refine lv_icmp_le (tgt := 38) hx hb dMd_value_31 (by decide) (fun c_7 => ?_) (fun c_7 => ?_)
      · skip
        refine lv_iload_n hx hb dMd_value_38 rfl (lv_at hl 1 rfl) ?_
        refine vq_iald (k := k) (f := ma 1) hx hb hK hP 2 0 rfl rfl rfl (by omega) (by decide) dMd_value_39 ?_
        refine lv_icmp_lt (tgt := 66) hx hb dMd_value_40 (by decide) (fun c_8 => ?_) (fun c_8 => ?_)
        · skip
          exact absurd c_8 hlo
        · skip
          refine lv_iload_n hx hb dMd_value_43 rfl (lv_at hl 3 rfl) ?_
          refine lv_aload_n hx hb dMd_value_44 rfl (lv_at hl 0 rfl) ?_
          refine va_get (D := (dC, dI)) (ci := 3) (v := .ref y1) (C := RMd) (T := TMd) (N := 17) hx hb hts inMd hown hK hP 0 rfl rfl 2 (by decide) (hts _ in_82) (fun _ h9 => h9) rfl dMd_value_45 ?_
          refine lv_iload_n hx hb dMd_value_48 rfl (lv_at hl 1 rfl) ?_
          refine lv_if_lt (tgt := 57) hx hb dMd_value_49 (by decide) (fun c_9 => ?_) (fun c_9 => ?_)
          · skip
            exact absurd c_9 (nI_pos (by omega))
          · skip
            refine lv_iload_n hx hb dMd_value_52 rfl (lv_at hl 1 rfl) ?_
            refine lv_iconst (v := nI 3) hx hb dMd_value_53 (by decide) ?_
            refine lv_icmp_le (tgt := 61) hx hb dMd_value_54 (by decide) (fun c_10 => ?_) (fun c_10 => ?_)
            · skip
              refine lv_iload_n hx hb dMd_value_61 rfl (lv_at hl 1 rfl) ?_
              refine vq_iald (k := k) (f := ma 0) hx hb hK hP 1 0 rfl rfl rfl (by omega) (by decide) dMd_value_62 ?_
              refine lv_icmp_le (tgt := 70) hx hb dMd_value_63 (by decide) (fun c_11 => ?_) (fun c_11 => ?_)
              · skip
                refine lv_iconst (v := 0) hx hb dMd_value_70 (by decide) ?_
                refine va_put (D := (dC, dI)) (ci := 3) (v := .int 0) (ty := .int) (C := RMd) (T := TMd) (N := 17) hx hb hts inMd tyMd tyMd_ok nmMd hown hK hP hD hS 0 rfl rfl 0 (by decide) (hts _ in_71) (fun _ h9 => h9) rfl (by decide +kernel) rfl rfl (Nat.le_of_ble_eq_true rfl) dMd_value_71 (fun H locs hP hD hS => ?_)
                have hP : va_P (dC, dI) vwCl (wM y y1 y2 y3 y4 y5 y6 y7 y8 y9 y10 cI (va_up mi 0 0) ma) H := hP
                have hD : va_D A (wM y y1 y2 y3 y4 y5 y6 y7 y8 y9 y10 cI (va_up mi 0 0) ma) := hD
                refine lv_aload_n hx hb dMd_value_74 rfl (lv_at hl 0 rfl) ?_
                refine va_get (D := (dC, dI)) (ci := 3) (v := .int 0) (C := RMd) (T := TMd) (N := 17) hx hb hts inMd hown hK hP 0 rfl rfl 0 (by decide) (hts _ in_71) (fun _ h9 => h9) rfl dMd_value_75 ?_
                refine lv_if_le (tgt := 85) hx hb dMd_value_78 (by decide) (fun _ => ?_) (fun c_12 => absurd c_12 (by decide))
                refine lv_aload_n hx hb dMd_value_85 rfl (lv_at hl 0 rfl) ?_
                refine va_get (D := (dC, dI)) (ci := 3) (v := .ref y9) (C := RMd) (T := TMd) (N := 17) hx hb hts inMd hown hK hP 0 rfl rfl 10 (by decide) (hts _ in_103) (fun _ h9 => h9) rfl dMd_value_86 ?_
                refine lv_bipush (v := nI 16) hx hb dMd_value_89 (by decide) ?_
                refine lv_bipush (v := nI 64) hx hb dMd_value_91 (by decide) ?_
                refine lv_iload_n hx hb dMd_value_93 rfl (lv_at hl 1 rfl) ?_
                refine lv_imul hx hb dMd_value_94 ?_
                refine lv_ri (y := nI (64 * k)) (pk_mul _ _) ?_
                refine lv_iload_n hx hb dMd_value_95 rfl (lv_at hl 3 rfl) ?_
                refine lv_bipush (v := nI 64) hx hb dMd_value_96 (by decide) ?_
                refine lv_irem hx hb dMd_value_98 (by decide) ?_
                refine lv_ri (y := nI (t0 % 64)) (pk_rem (by omega) (by decide) (by decide)) ?_
                refine lv_iadd hx hb dMd_value_99 ?_
                refine lv_ri (y := nI ((64 * k) + (t0 % 64))) (nI_add _ _) ?_
                refine lv_imul hx hb dMd_value_100 ?_
                refine lv_ri (y := nI (16 * ((64 * k) + (t0 % 64)))) (pk_mul _ _) ?_
                refine lv_iload_n hx hb dMd_value_101 rfl (lv_at hl 2 rfl) ?_
                refine lv_iadd hx hb dMd_value_102 ?_
                refine lv_ri (y := nI ((16 * ((64 * k) + (t0 % 64))) + z)) (nI_add _ _) ?_
                refine vq_iald (k := ((16 * ((64 * k) + (t0 % 64))) + z)) (f := ma 8) hx hb hK hP 9 0 rfl rfl rfl (by omega) (by decide) dMd_value_103 ?_
                have hP9 : va_P (dC, dI) vwCl (wM y y1 y2 y3 y4 y5 y6 y7 y8 y9 y10 cI (va_up mi 0 0) ma) H := by exact hP
                have hD9 : va_D A (wM y y1 y2 y3 y4 y5 y6 y7 y8 y9 y10 cI (va_up mi 0 0) ma) := by exact hD
                exact W.iret (v := (ma 8) ((16 * ((64 * k) + (t0 % 64))) + z)) hx hb hr (fun t ht hW => ⟨⟨(ma 8) ((16 * ((64 * k) + (t0 % 64))) + z), (), rfl, rfl, by rw [ht]; exact hP9, va_K.moved hW.alike hK, hD9⟩, hS.F ht⟩) hS.2.2 dMd_value_104
              · skip
                exact absurd hhi c_11
            · skip
              exact absurd (nI_le (by omega) (by decide)) c_10
      · skip
        exact absurd (nI_le (by omega) (by decide)) c_7
set_option maxHeartbeats 4000000 in
set_option maxRecDepth 100000 in
/-- value(k, z, t), refused -/
theorem k_M_valueB (l : Launch) (dC : Nat → ClassId) (dI : Nat → Nat → Nat) (sz : Nat) (y y1 y2 y3 y4 y5 y6 y7 y8 y9 y10 : Nat) (cI : ClassId) (mi : Nat → Int32) (ma : Nat → Nat → Int32) (k : Nat) (z t0 : Int32) (hk4 : k < 4) (hbad : s_in z = 0 ∨ t0 < ma 1 k ∨ ¬ t0 ≤ ma 0 k) : Met l yMd_value wsMd_value ({ frames := 3, cells := 0, slots := 0, locals := 120 }) (va_Pc [.ref y, .int (nI k), .int z, .int t0] (fun U => U.heap.size = sz ∧ va_P (dC, dI) vwCl (wM y y1 y2 y3 y4 y5 y6 y7 y8 y9 y10 cI mi ma) U.heap ∧ va_K (dC, dI) vwCl [(cI, .int)] U ∧ va_D (fun _ => True) (wM y y1 y2 y3 y4 y5 y6 y7 y8 y9 y10 cI mi ma))) (va_Qi (fun (r : Int32) (_ : Unit) => r = 0) (fun _ t => va_P (dC, dI) vwCl (wM y y1 y2 y3 y4 y5 y6 y7 y8 y9 y10 cI (va_up mi 0 2) ma) t.heap ∧ va_K (dC, dI) vwCl [(cI, .int)] t ∧ va_D (va_A (wM y y1 y2 y3 y4 y5 y6 y7 y8 y9 y10 cI mi ma) sz) (wM y y1 y2 y3 y4 y5 y6 y7 y8 y9 y10 cI (va_up mi 0 2) ma)) (va_A (wM y y1 y2 y3 y4 y5 y6 y7 y8 y9 y10 cI mi ma) sz)) 0 0 (va_A (wM y y1 y2 y3 y4 y5 y6 y7 y8 y9 y10 cI mi ma) sz) := by
  refine Met.ofW (cc := cMd_value) (maxL := 4) (ret := (some .int)) (by decide) rfl ?_
  intro p e s m args below meth c s₁ B hml hv
  obtain ⟨rfl, hsz, hP, hK, hD0⟩ := hv
  have hx := B.exec
  have hb := B.bytes
  have hr := B.returns
  have hts0 := atoms_spec (ws := wsMd_value) B.pre
  have hts := fun (w : Cond) (h : w ∈ lw_g) => hts0 w (List.mem_cons_of_mem _ h)
  have hown : s.vm.findClass RMd = some m.cls := findClass_of_methodNamed B.named
  have hlocks := B.notSynchronized
  subst hsz
  have hD := hD0.self (sz := s.heap.size)
  generalize hAe : va_A (wM y y1 y2 y3 y4 y5 y6 y7 y8 y9 y10 cI mi ma) s.heap.size = A at hD ⊢
  have hA : ∀ q : Nat, s.heap.size ≤ q → A q := fun q h => by rw [← hAe]; exact Or.inr h
  have hS : va_S A s.heap s.heap [] := va_S.rf
  have hP : va_P (dC, dI) vwCl (wM y y1 y2 y3 y4 y5 y6 y7 y8 y9 y10 cI mi ma) s.heap := hP
  have hl := lv_entry ([.ref y, .int (nI k), .int z, .int t0]) (n := 4) (Nat.le_of_ble_eq_true rfl)
  rw [lg_entry_eq]
  generalize (lg_sl ([.ref y, .int (nI k), .int z, .int t0]) ++ List.replicate (4 - (lg_sl ([.ref y, .int (nI k), .int z, .int t0])).length) Slot.unset).toArray = ls at hl ⊢
  have hl : lv_has ls 4 [(0, .ref y), (1, .int (nI k)), (2, .int z), (3, .int t0)] := hl
  refine lv_aload_n hx hb dMd_value_0 rfl (lv_at hl 0 rfl) ?_
  refine lv_aload_n hx hb dMd_value_1 rfl (lv_at hl 0 rfl) ?_
  refine lv_iload_n hx hb dMd_value_2 rfl (lv_at hl 1 rfl) ?_
  have hPc := hP.sub (ws' := (wM y y1 y2 y3 y4 y5 y6 y7 y8 y9 y10 cI mi ma)) [0, 1, 2, 3, 4, 5, 6, 7, 8, 9, 10] rfl
  have hDc := hD.sub (ws' := (wM y y1 y2 y3 y4 y5 y6 y7 y8 y9 y10 cI mi ma)) [0, 1, 2, 3, 4, 5, 6, 7, 8, 9, 10] (by decide) rfl
  have hKc := hK.sub (tys' := [(cI, .int)]) [0] rfl
  have hFc := va_free (wc := (wM y y1 y2 y3 y4 y5 y6 y7 y8 y9 y10 cI mi ma)) hD hS hA [0, 1, 2, 3, 4, 5, 6, 7, 8, 9, 10] rfl
  refine va_calli (va_runV (As := [.int (nI k)]) (rest := [.ref y]) ⟨hx, hb, hml, hown, hts⟩ (k_M_lacks0 l dC dI s.heap.size y y1 y2 y3 y4 y5 y6 y7 y8 y9 y10 cI mi ma k hk4) (cwV 1 hts (gd_V in_91 in_93 in_94 in_74 in_92) rfl rfl rfl (by decide +kernel) ⟨Nat.le_of_ble_eq_true rfl, Nat.le_of_ble_eq_true rfl⟩) ⟨fun a U g mk q => by obtain ⟨q0, q1, qP, qK, qD⟩ := q; exact ⟨q0, q1, qP, va_K.moved (u := U) (U := U.calling g mk a) (Vm.Alike.refl U.vm) qK, qD⟩, va_recv hKc hPc (ci := 3) (q0 := 0) rfl rfl, fun U hU hW => ⟨rfl, by rw [hU], by rw [hU]; exact hPc, va_K.moved hW.alike hKc, hDc.weaken (fun _ _ _ _ => trivial)⟩⟩ rfl rfl hl.1 rfl (lv_room (Nat.le_of_ble_eq_true rfl)) dMd_value_3 ⟨Nat.le_of_ble_eq_true rfl, Nat.le_of_ble_eq_true rfl⟩) hS (fun q _ h => hFc q h) hFc (fun r_1 u t H1 locs ht hvm hw hB hz1 hk1 hS => ?_)
  obtain ⟨hP1, hK1, hD1⟩ := hB
  rw [ht] at hP1
  obtain ⟨hP, hD⟩ := va_join (wr := []) (w1 := (wM y y1 y2 y3 y4 y5 y6 y7 y8 y9 y10 cI (va_up mi 0 0) ma)) hP hD [0, 1, 2, 3, 4, 5, 6, 7, 8, 9, 10] [] rfl rfl (by decide) (by decide) hk1 hFc hP1 hD1
  generalize H1 = H at hP hS ⊢
  have hP : va_P (dC, dI) vwCl (wM y y1 y2 y3 y4 y5 y6 y7 y8 y9 y10 cI (va_up mi 0 0) ma) H := hP
  have hD : va_D A (wM y y1 y2 y3 y4 y5 y6 y7 y8 y9 y10 cI (va_up mi 0 0) ma) := hD
  have hw : r_1 = 0 := hw
  subst hw
  refine lv_if_eq (tgt := 13) hx hb dMd_value_6 (by decide) (fun _ => ?_) (fun c_2 => absurd c_2 (by decide))
  refine lv_iload_n hx hb dMd_value_13 rfl (lv_at hl 2 rfl) ?_
  refine vp_callSi (W.runS (As := [.int z]) (rest := [.ref y]) ⟨hx, hb, hml, hown, hts⟩ (k_M_is16 l z) (va_cwS 1 hts (gd_S in_72 in_75 in_74 in_73) rfl rfl rfl (by decide +kernel) ⟨Nat.le_of_ble_eq_true rfl, Nat.le_of_ble_eq_true rfl⟩) ⟨fun a U g mk q => q, fun U hU hW => ⟨rfl, trivial⟩⟩ rfl rfl hl.1 rfl (lv_room (Nat.le_of_ble_eq_true rfl)) dMd_value_14 ⟨Nat.le_of_ble_eq_true rfl, Nat.le_of_ble_eq_true rfl⟩) (fun r_3 er_4 => ?_)
  subst er_4
  refine lv_if_eq (tgt := 66) hx hb dMd_value_17 (by decide) (fun c_5 => ?_) (fun c_5 => ?_)
  · skip
    refine lv_iconst (v := 2) hx hb dMd_value_66 (by decide) ?_
    refine lv_goto (tgt := 71) hx hb dMd_value_67 (by decide) ?_
    refine va_put (D := (dC, dI)) (ci := 3) (v := .int 2) (ty := .int) (C := RMd) (T := TMd) (N := 17) hx hb hts inMd tyMd tyMd_ok nmMd hown hK hP hD hS 0 rfl rfl 0 (by decide) (hts _ in_71) (fun _ h9 => h9) rfl (by decide +kernel) rfl rfl (Nat.le_of_ble_eq_true rfl) dMd_value_71 (fun H locs hP hD hS => ?_)
    have hP : va_P (dC, dI) vwCl (wM y y1 y2 y3 y4 y5 y6 y7 y8 y9 y10 cI (va_up mi 0 2) ma) H := hP
    have hD : va_D A (wM y y1 y2 y3 y4 y5 y6 y7 y8 y9 y10 cI (va_up mi 0 2) ma) := hD
    refine lv_aload_n hx hb dMd_value_74 rfl (lv_at hl 0 rfl) ?_
    refine va_get (D := (dC, dI)) (ci := 3) (v := .int 2) (C := RMd) (T := TMd) (N := 17) hx hb hts inMd hown hK hP 0 rfl rfl 0 (by decide) (hts _ in_71) (fun _ h9 => h9) rfl dMd_value_75 ?_
    refine lv_if_le (tgt := 85) hx hb dMd_value_78 (by decide) (fun c_6 => absurd c_6 (by decide)) (fun _ => ?_)
    refine lv_iconst (v := 0) hx hb dMd_value_81 (by decide) ?_
    refine lv_goto (tgt := 104) hx hb dMd_value_82 (by decide) ?_
    have hP9 : va_P (dC, dI) vwCl (wM y y1 y2 y3 y4 y5 y6 y7 y8 y9 y10 cI (va_up mi 0 2) ma) H := by exact hP
    have hD9 : va_D A (wM y y1 y2 y3 y4 y5 y6 y7 y8 y9 y10 cI (va_up mi 0 2) ma) := by exact hD
    exact W.iret (v := 0) hx hb hr (fun t ht hW => ⟨⟨0, (), rfl, rfl, by rw [ht]; exact hP9, va_K.moved hW.alike hK, hD9⟩, hS.F ht⟩) hS.2.2 dMd_value_104
  · skip
    have c_is := c_5
    refine lv_iload_n hx hb dMd_value_20 rfl (lv_at hl 3 rfl) ?_
    refine lv_aload_n hx hb dMd_value_21 rfl (lv_at hl 0 rfl) ?_
    refine va_get (D := (dC, dI)) (ci := 3) (v := .ref y2) (C := RMd) (T := TMd) (N := 17) hx hb hts inMd hown hK hP 0 rfl rfl 3 (by decide) (hts _ in_102) (fun _ h9 => h9) rfl dMd_value_22 ?_
    refine lv_iload_n hx hb dMd_value_25 rfl (lv_at hl 1 rfl) ?_
    refine lv_if_lt (tgt := 34) hx hb dMd_value_26 (by decide) (fun c_7 => ?_) (fun c_7 => ?_)
    · skip
      exact absurd c_7 (nI_pos (by omega))
    · skip
      refine lv_iload_n hx hb dMd_value_29 rfl (lv_at hl 1 rfl) ?_
      refine lv_iconst (v := nI 3) hx hb dMd_value_30 (by decide) ?_
      refine lv_icmp_le (tgt := 38) hx hb dMd_value_31 (by decide) (fun c_8 => ?_) (fun c_8 => ?_)
      · skip
        refine lv_iload_n hx hb dMd_value_38 rfl (lv_at hl 1 rfl) ?_
        refine vq_iald (k := k) (f := ma 1) hx hb hK hP 2 0 rfl rfl rfl (by omega) (by decide) dMd_value_39 ?_
        refine lv_icmp_lt (tgt := 66) hx hb dMd_value_40 (by decide) (fun c_9 => ?_) (fun c_9 => ?_)
        · skip
          refine lv_iconst (v := 2) hx hb dMd_value_66 (by decide) ?_
          refine lv_goto (tgt := 71) hx hb dMd_value_67 (by decide) ?_
          refine va_put (D := (dC, dI)) (ci := 3) (v := .int 2) (ty := .int) (C := RMd) (T := TMd) (N := 17) hx hb hts inMd tyMd tyMd_ok nmMd hown hK hP hD hS 0 rfl rfl 0 (by decide) (hts _ in_71) (fun _ h9 => h9) rfl (by decide +kernel) rfl rfl (Nat.le_of_ble_eq_true rfl) dMd_value_71 (fun H locs hP hD hS => ?_)
          have hP : va_P (dC, dI) vwCl (wM y y1 y2 y3 y4 y5 y6 y7 y8 y9 y10 cI (va_up mi 0 2) ma) H := hP
          have hD : va_D A (wM y y1 y2 y3 y4 y5 y6 y7 y8 y9 y10 cI (va_up mi 0 2) ma) := hD
          refine lv_aload_n hx hb dMd_value_74 rfl (lv_at hl 0 rfl) ?_
          refine va_get (D := (dC, dI)) (ci := 3) (v := .int 2) (C := RMd) (T := TMd) (N := 17) hx hb hts inMd hown hK hP 0 rfl rfl 0 (by decide) (hts _ in_71) (fun _ h9 => h9) rfl dMd_value_75 ?_
          refine lv_if_le (tgt := 85) hx hb dMd_value_78 (by decide) (fun c_10 => absurd c_10 (by decide)) (fun _ => ?_)
          refine lv_iconst (v := 0) hx hb dMd_value_81 (by decide) ?_
          refine lv_goto (tgt := 104) hx hb dMd_value_82 (by decide) ?_
          have hP9 : va_P (dC, dI) vwCl (wM y y1 y2 y3 y4 y5 y6 y7 y8 y9 y10 cI (va_up mi 0 2) ma) H := by exact hP
          have hD9 : va_D A (wM y y1 y2 y3 y4 y5 y6 y7 y8 y9 y10 cI (va_up mi 0 2) ma) := by exact hD
          exact W.iret (v := 0) hx hb hr (fun t ht hW => ⟨⟨0, (), rfl, rfl, by rw [ht]; exact hP9, va_K.moved hW.alike hK, hD9⟩, hS.F ht⟩) hS.2.2 dMd_value_104
        · skip
          have c_lo := c_9
          refine lv_iload_n hx hb dMd_value_43 rfl (lv_at hl 3 rfl) ?_
          refine lv_aload_n hx hb dMd_value_44 rfl (lv_at hl 0 rfl) ?_
          refine va_get (D := (dC, dI)) (ci := 3) (v := .ref y1) (C := RMd) (T := TMd) (N := 17) hx hb hts inMd hown hK hP 0 rfl rfl 2 (by decide) (hts _ in_82) (fun _ h9 => h9) rfl dMd_value_45 ?_
          refine lv_iload_n hx hb dMd_value_48 rfl (lv_at hl 1 rfl) ?_
          refine lv_if_lt (tgt := 57) hx hb dMd_value_49 (by decide) (fun c_11 => ?_) (fun c_11 => ?_)
          · skip
            exact absurd c_11 (nI_pos (by omega))
          · skip
            refine lv_iload_n hx hb dMd_value_52 rfl (lv_at hl 1 rfl) ?_
            refine lv_iconst (v := nI 3) hx hb dMd_value_53 (by decide) ?_
            refine lv_icmp_le (tgt := 61) hx hb dMd_value_54 (by decide) (fun c_12 => ?_) (fun c_12 => ?_)
            · skip
              refine lv_iload_n hx hb dMd_value_61 rfl (lv_at hl 1 rfl) ?_
              refine vq_iald (k := k) (f := ma 0) hx hb hK hP 1 0 rfl rfl rfl (by omega) (by decide) dMd_value_62 ?_
              refine lv_icmp_le (tgt := 70) hx hb dMd_value_63 (by decide) (fun c_13 => ?_) (fun c_13 => ?_)
              · skip
                exact hbad.elim (fun q => absurd q c_is) (fun q => q.elim (fun q => absurd q c_lo) (fun q => absurd c_13 q))
              · skip
                refine lv_iconst (v := 2) hx hb dMd_value_66 (by decide) ?_
                refine lv_goto (tgt := 71) hx hb dMd_value_67 (by decide) ?_
                refine va_put (D := (dC, dI)) (ci := 3) (v := .int 2) (ty := .int) (C := RMd) (T := TMd) (N := 17) hx hb hts inMd tyMd tyMd_ok nmMd hown hK hP hD hS 0 rfl rfl 0 (by decide) (hts _ in_71) (fun _ h9 => h9) rfl (by decide +kernel) rfl rfl (Nat.le_of_ble_eq_true rfl) dMd_value_71 (fun H locs hP hD hS => ?_)
                have hP : va_P (dC, dI) vwCl (wM y y1 y2 y3 y4 y5 y6 y7 y8 y9 y10 cI (va_up mi 0 2) ma) H := hP
                have hD : va_D A (wM y y1 y2 y3 y4 y5 y6 y7 y8 y9 y10 cI (va_up mi 0 2) ma) := hD
                refine lv_aload_n hx hb dMd_value_74 rfl (lv_at hl 0 rfl) ?_
                refine va_get (D := (dC, dI)) (ci := 3) (v := .int 2) (C := RMd) (T := TMd) (N := 17) hx hb hts inMd hown hK hP 0 rfl rfl 0 (by decide) (hts _ in_71) (fun _ h9 => h9) rfl dMd_value_75 ?_
                refine lv_if_le (tgt := 85) hx hb dMd_value_78 (by decide) (fun c_14 => absurd c_14 (by decide)) (fun _ => ?_)
                refine lv_iconst (v := 0) hx hb dMd_value_81 (by decide) ?_
                refine lv_goto (tgt := 104) hx hb dMd_value_82 (by decide) ?_
                have hP9 : va_P (dC, dI) vwCl (wM y y1 y2 y3 y4 y5 y6 y7 y8 y9 y10 cI (va_up mi 0 2) ma) H := by exact hP
                have hD9 : va_D A (wM y y1 y2 y3 y4 y5 y6 y7 y8 y9 y10 cI (va_up mi 0 2) ma) := by exact hD
                exact W.iret (v := 0) hx hb hr (fun t ht hW => ⟨⟨0, (), rfl, rfl, by rw [ht]; exact hP9, va_K.moved hW.alike hK, hD9⟩, hS.F ht⟩) hS.2.2 dMd_value_104
            · skip
              exact absurd (nI_le (by omega) (by decide)) c_12
      · skip
        exact absurd (nI_le (by omega) (by decide)) c_8
set_option maxHeartbeats 4000000 in
set_option maxRecDepth 100000 in
/-- value(x, z, t), no fold -/
theorem k_M_valueN (l : Launch) (dC : Nat → ClassId) (dI : Nat → Nat → Nat) (sz : Nat) (y y1 y2 y3 y4 y5 y6 y7 y8 y9 y10 : Nat) (cI : ClassId) (mi : Nat → Int32) (ma : Nat → Nat → Int32) (x z t0 : Int32) (hfx : s_lk x = 1) : Met l yMd_value wsMd_value ({ frames := 3, cells := 0, slots := 0, locals := 120 }) (va_Pc [.ref y, .int x, .int z, .int t0] (fun U => U.heap.size = sz ∧ va_P (dC, dI) vwCl (wM y y1 y2 y3 y4 y5 y6 y7 y8 y9 y10 cI mi ma) U.heap ∧ va_K (dC, dI) vwCl [(cI, .int)] U ∧ va_D (fun _ => True) (wM y y1 y2 y3 y4 y5 y6 y7 y8 y9 y10 cI mi ma))) (va_Qi (fun (r : Int32) (_ : Unit) => r = 0) (fun _ t => va_P (dC, dI) vwCl (wM y y1 y2 y3 y4 y5 y6 y7 y8 y9 y10 cI (va_up mi 0 1) ma) t.heap ∧ va_K (dC, dI) vwCl [(cI, .int)] t ∧ va_D (va_A (wM y y1 y2 y3 y4 y5 y6 y7 y8 y9 y10 cI mi ma) sz) (wM y y1 y2 y3 y4 y5 y6 y7 y8 y9 y10 cI (va_up mi 0 1) ma)) (va_A (wM y y1 y2 y3 y4 y5 y6 y7 y8 y9 y10 cI mi ma) sz)) 0 0 (va_A (wM y y1 y2 y3 y4 y5 y6 y7 y8 y9 y10 cI mi ma) sz) := by
  refine Met.ofW (cc := cMd_value) (maxL := 4) (ret := (some .int)) (by decide) rfl ?_
  intro p e s m args below meth c s₁ B hml hv
  obtain ⟨rfl, hsz, hP, hK, hD0⟩ := hv
  have hx := B.exec
  have hb := B.bytes
  have hr := B.returns
  have hts0 := atoms_spec (ws := wsMd_value) B.pre
  have hts := fun (w : Cond) (h : w ∈ lw_g) => hts0 w (List.mem_cons_of_mem _ h)
  have hown : s.vm.findClass RMd = some m.cls := findClass_of_methodNamed B.named
  have hlocks := B.notSynchronized
  subst hsz
  have hD := hD0.self (sz := s.heap.size)
  generalize hAe : va_A (wM y y1 y2 y3 y4 y5 y6 y7 y8 y9 y10 cI mi ma) s.heap.size = A at hD ⊢
  have hA : ∀ q : Nat, s.heap.size ≤ q → A q := fun q h => by rw [← hAe]; exact Or.inr h
  have hS : va_S A s.heap s.heap [] := va_S.rf
  have hP : va_P (dC, dI) vwCl (wM y y1 y2 y3 y4 y5 y6 y7 y8 y9 y10 cI mi ma) s.heap := hP
  have hl := lv_entry ([.ref y, .int x, .int z, .int t0]) (n := 4) (Nat.le_of_ble_eq_true rfl)
  rw [lg_entry_eq]
  generalize (lg_sl ([.ref y, .int x, .int z, .int t0]) ++ List.replicate (4 - (lg_sl ([.ref y, .int x, .int z, .int t0])).length) Slot.unset).toArray = ls at hl ⊢
  have hl : lv_has ls 4 [(0, .ref y), (1, .int x), (2, .int z), (3, .int t0)] := hl
  refine lv_aload_n hx hb dMd_value_0 rfl (lv_at hl 0 rfl) ?_
  refine lv_aload_n hx hb dMd_value_1 rfl (lv_at hl 0 rfl) ?_
  refine lv_iload_n hx hb dMd_value_2 rfl (lv_at hl 1 rfl) ?_
  have hPc := hP.sub (ws' := (wM y y1 y2 y3 y4 y5 y6 y7 y8 y9 y10 cI mi ma)) [0, 1, 2, 3, 4, 5, 6, 7, 8, 9, 10] rfl
  have hDc := hD.sub (ws' := (wM y y1 y2 y3 y4 y5 y6 y7 y8 y9 y10 cI mi ma)) [0, 1, 2, 3, 4, 5, 6, 7, 8, 9, 10] (by decide) rfl
  have hKc := hK.sub (tys' := [(cI, .int)]) [0] rfl
  have hFc := va_free (wc := (wM y y1 y2 y3 y4 y5 y6 y7 y8 y9 y10 cI mi ma)) hD hS hA [0, 1, 2, 3, 4, 5, 6, 7, 8, 9, 10] rfl
  refine va_calli (va_runV (As := [.int x]) (rest := [.ref y]) ⟨hx, hb, hml, hown, hts⟩ (k_M_lacks1 l dC dI s.heap.size y y1 y2 y3 y4 y5 y6 y7 y8 y9 y10 cI mi ma x hfx) (cwV 1 hts (gd_V in_91 in_93 in_94 in_74 in_92) rfl rfl rfl (by decide +kernel) ⟨Nat.le_of_ble_eq_true rfl, Nat.le_of_ble_eq_true rfl⟩) ⟨fun a U g mk q => by obtain ⟨q0, q1, qP, qK, qD⟩ := q; exact ⟨q0, q1, qP, va_K.moved (u := U) (U := U.calling g mk a) (Vm.Alike.refl U.vm) qK, qD⟩, va_recv hKc hPc (ci := 3) (q0 := 0) rfl rfl, fun U hU hW => ⟨rfl, by rw [hU], by rw [hU]; exact hPc, va_K.moved hW.alike hKc, hDc.weaken (fun _ _ _ _ => trivial)⟩⟩ rfl rfl hl.1 rfl (lv_room (Nat.le_of_ble_eq_true rfl)) dMd_value_3 ⟨Nat.le_of_ble_eq_true rfl, Nat.le_of_ble_eq_true rfl⟩) hS (fun q _ h => hFc q h) hFc (fun r_1 u t H1 locs ht hvm hw hB hz1 hk1 hS => ?_)
  obtain ⟨hP1, hK1, hD1⟩ := hB
  rw [ht] at hP1
  obtain ⟨hP, hD⟩ := va_join (wr := []) (w1 := (wM y y1 y2 y3 y4 y5 y6 y7 y8 y9 y10 cI (va_up mi 0 1) ma)) hP hD [0, 1, 2, 3, 4, 5, 6, 7, 8, 9, 10] [] rfl rfl (by decide) (by decide) hk1 hFc hP1 hD1
  generalize H1 = H at hP hS ⊢
  have hP : va_P (dC, dI) vwCl (wM y y1 y2 y3 y4 y5 y6 y7 y8 y9 y10 cI (va_up mi 0 1) ma) H := hP
  have hD : va_D A (wM y y1 y2 y3 y4 y5 y6 y7 y8 y9 y10 cI (va_up mi 0 1) ma) := hD
  have hw : r_1 = 1 := hw
  subst hw
  refine lv_if_eq (tgt := 13) hx hb dMd_value_6 (by decide) (fun c_2 => absurd c_2 (by decide)) (fun _ => ?_)
  refine lv_iconst (v := 1) hx hb dMd_value_9 (by decide) ?_
  refine lv_goto (tgt := 71) hx hb dMd_value_10 (by decide) ?_
  refine va_put (D := (dC, dI)) (ci := 3) (v := .int 1) (ty := .int) (C := RMd) (T := TMd) (N := 17) hx hb hts inMd tyMd tyMd_ok nmMd hown hK hP hD hS 0 rfl rfl 0 (by decide) (hts _ in_71) (fun _ h9 => h9) rfl (by decide +kernel) rfl rfl (Nat.le_of_ble_eq_true rfl) dMd_value_71 (fun H locs hP hD hS => ?_)
  have hP : va_P (dC, dI) vwCl (wM y y1 y2 y3 y4 y5 y6 y7 y8 y9 y10 cI (va_up mi 0 1) ma) H := hP
  have hD : va_D A (wM y y1 y2 y3 y4 y5 y6 y7 y8 y9 y10 cI (va_up mi 0 1) ma) := hD
  refine lv_aload_n hx hb dMd_value_74 rfl (lv_at hl 0 rfl) ?_
  refine va_get (D := (dC, dI)) (ci := 3) (v := .int 1) (C := RMd) (T := TMd) (N := 17) hx hb hts inMd hown hK hP 0 rfl rfl 0 (by decide) (hts _ in_71) (fun _ h9 => h9) rfl dMd_value_75 ?_
  refine lv_if_le (tgt := 85) hx hb dMd_value_78 (by decide) (fun c_3 => absurd c_3 (by decide)) (fun _ => ?_)
  refine lv_iconst (v := 0) hx hb dMd_value_81 (by decide) ?_
  refine lv_goto (tgt := 104) hx hb dMd_value_82 (by decide) ?_
  have hP9 : va_P (dC, dI) vwCl (wM y y1 y2 y3 y4 y5 y6 y7 y8 y9 y10 cI (va_up mi 0 1) ma) H := by exact hP
  have hD9 : va_D A (wM y y1 y2 y3 y4 y5 y6 y7 y8 y9 y10 cI (va_up mi 0 1) ma) := by exact hD
  exact W.iret (v := 0) hx hb hr (fun t ht hW => ⟨⟨0, (), rfl, rfl, by rw [ht]; exact hP9, va_K.moved hW.alike hK, hD9⟩, hS.F ht⟩) hS.2.2 dMd_value_104
set_option maxHeartbeats 4000000 in
set_option maxRecDepth 100000 in
/-- since(k, x) -/
theorem k_M_since (l : Launch) (dC : Nat → ClassId) (dI : Nat → Nat → Nat) (sz : Nat) (y y1 y2 y3 y4 y5 y6 y7 y8 y9 y10 : Nat) (cI : ClassId) (mi : Nat → Int32) (ma : Nat → Nat → Int32) (k n : Nat) (hk4 : k < 4) (hn : n < 2 ^ 30) (hix : ma 0 k = nI n) (a : Nat) (ha : a ≤ n + 1) (x : Int32) (hx0 : ¬ 0 ≤ x → a = 1) (hx1 : 0 ≤ x → x + 1 = nI a) (hlo : ¬ x < ma 0 k - mi 1) (hhi : x ≤ ma 0 k) : Met l yMd_since wsMd_since ({ frames := 3, cells := 0, slots := 0, locals := 120 }) (va_Pc [.ref y, .int (nI k), .int x] (fun U => U.heap.size = sz ∧ va_P (dC, dI) vwCl (wM y y1 y2 y3 y4 y5 y6 y7 y8 y9 y10 cI mi ma) U.heap ∧ va_K (dC, dI) vwCl [(cI, .int)] U ∧ va_D (fun _ => True) (wM y y1 y2 y3 y4 y5 y6 y7 y8 y9 y10 cI mi ma))) (va_Qi (fun (r : Int32) (_ : Unit) => r = m_ws (ma 7) (64 * k) a (n + 1 - a)) (fun _ t => va_P (dC, dI) vwCl (wM y y1 y2 y3 y4 y5 y6 y7 y8 y9 y10 cI (va_up mi 0 0) ma) t.heap ∧ va_K (dC, dI) vwCl [(cI, .int)] t ∧ va_D (va_A (wM y y1 y2 y3 y4 y5 y6 y7 y8 y9 y10 cI mi ma) sz) (wM y y1 y2 y3 y4 y5 y6 y7 y8 y9 y10 cI (va_up mi 0 0) ma)) (va_A (wM y y1 y2 y3 y4 y5 y6 y7 y8 y9 y10 cI mi ma) sz)) 0 0 (va_A (wM y y1 y2 y3 y4 y5 y6 y7 y8 y9 y10 cI mi ma) sz) := by
  refine Met.ofW (cc := cMd_since) (maxL := 3) (ret := (some .int)) (by decide) rfl ?_
  intro p e s m args below meth c s₁ B hml hv
  obtain ⟨rfl, hsz, hP, hK, hD0⟩ := hv
  have hx := B.exec
  have hb := B.bytes
  have hr := B.returns
  have hts0 := atoms_spec (ws := wsMd_since) B.pre
  have hts := fun (w : Cond) (h : w ∈ lw_g) => hts0 w (List.mem_cons_of_mem _ h)
  have hown : s.vm.findClass RMd = some m.cls := findClass_of_methodNamed B.named
  have hlocks := B.notSynchronized
  subst hsz
  have hD := hD0.self (sz := s.heap.size)
  generalize hAe : va_A (wM y y1 y2 y3 y4 y5 y6 y7 y8 y9 y10 cI mi ma) s.heap.size = A at hD ⊢
  have hA : ∀ q : Nat, s.heap.size ≤ q → A q := fun q h => by rw [← hAe]; exact Or.inr h
  have hS : va_S A s.heap s.heap [] := va_S.rf
  have hP : va_P (dC, dI) vwCl (wM y y1 y2 y3 y4 y5 y6 y7 y8 y9 y10 cI mi ma) s.heap := hP
  have hl := lv_entry ([.ref y, .int (nI k), .int x]) (n := 3) (Nat.le_of_ble_eq_true rfl)
  rw [lg_entry_eq]
  generalize (lg_sl ([.ref y, .int (nI k), .int x]) ++ List.replicate (3 - (lg_sl ([.ref y, .int (nI k), .int x])).length) Slot.unset).toArray = ls at hl ⊢
  have hl : lv_has ls 3 [(0, .ref y), (1, .int (nI k)), (2, .int x)] := hl
  refine lv_aload_n hx hb dMd_since_0 rfl (lv_at hl 0 rfl) ?_
  refine lv_aload_n hx hb dMd_since_1 rfl (lv_at hl 0 rfl) ?_
  refine lv_iload_n hx hb dMd_since_2 rfl (lv_at hl 1 rfl) ?_
  have hPc := hP.sub (ws' := (wM y y1 y2 y3 y4 y5 y6 y7 y8 y9 y10 cI mi ma)) [0, 1, 2, 3, 4, 5, 6, 7, 8, 9, 10] rfl
  have hDc := hD.sub (ws' := (wM y y1 y2 y3 y4 y5 y6 y7 y8 y9 y10 cI mi ma)) [0, 1, 2, 3, 4, 5, 6, 7, 8, 9, 10] (by decide) rfl
  have hKc := hK.sub (tys' := [(cI, .int)]) [0] rfl
  have hFc := va_free (wc := (wM y y1 y2 y3 y4 y5 y6 y7 y8 y9 y10 cI mi ma)) hD hS hA [0, 1, 2, 3, 4, 5, 6, 7, 8, 9, 10] rfl
  refine va_calli (va_runV (As := [.int (nI k)]) (rest := [.ref y]) ⟨hx, hb, hml, hown, hts⟩ (k_M_lacks0 l dC dI s.heap.size y y1 y2 y3 y4 y5 y6 y7 y8 y9 y10 cI mi ma k hk4) (cwV 1 hts (gd_V in_91 in_93 in_94 in_74 in_92) rfl rfl rfl (by decide +kernel) ⟨Nat.le_of_ble_eq_true rfl, Nat.le_of_ble_eq_true rfl⟩) ⟨fun a U g mk q => by obtain ⟨q0, q1, qP, qK, qD⟩ := q; exact ⟨q0, q1, qP, va_K.moved (u := U) (U := U.calling g mk a) (Vm.Alike.refl U.vm) qK, qD⟩, va_recv hKc hPc (ci := 3) (q0 := 0) rfl rfl, fun U hU hW => ⟨rfl, by rw [hU], by rw [hU]; exact hPc, va_K.moved hW.alike hKc, hDc.weaken (fun _ _ _ _ => trivial)⟩⟩ rfl rfl hl.1 rfl (lv_room (Nat.le_of_ble_eq_true rfl)) dMd_since_3 ⟨Nat.le_of_ble_eq_true rfl, Nat.le_of_ble_eq_true rfl⟩) hS (fun q _ h => hFc q h) hFc (fun r_1 u t H1 locs ht hvm hw hB hz1 hk1 hS => ?_)
  obtain ⟨hP1, hK1, hD1⟩ := hB
  rw [ht] at hP1
  obtain ⟨hP, hD⟩ := va_join (wr := []) (w1 := (wM y y1 y2 y3 y4 y5 y6 y7 y8 y9 y10 cI (va_up mi 0 0) ma)) hP hD [0, 1, 2, 3, 4, 5, 6, 7, 8, 9, 10] [] rfl rfl (by decide) (by decide) hk1 hFc hP1 hD1
  generalize H1 = H at hP hS ⊢
  have hP : va_P (dC, dI) vwCl (wM y y1 y2 y3 y4 y5 y6 y7 y8 y9 y10 cI (va_up mi 0 0) ma) H := hP
  have hD : va_D A (wM y y1 y2 y3 y4 y5 y6 y7 y8 y9 y10 cI (va_up mi 0 0) ma) := hD
  have hw : r_1 = 0 := hw
  subst hw
  refine lv_if_eq (tgt := 13) hx hb dMd_since_6 (by decide) (fun _ => ?_) (fun c_2 => absurd c_2 (by decide))
  refine lv_iconst (v := 0) hx hb dMd_since_13 (by decide) ?_
  refine va_put (D := (dC, dI)) (ci := 3) (v := .int 0) (ty := .int) (C := RMd) (T := TMd) (N := 17) hx hb hts inMd tyMd tyMd_ok nmMd hown hK hP hD hS 0 rfl rfl 0 (by decide) (hts _ in_71) (fun _ h9 => h9) rfl (by decide +kernel) rfl rfl (Nat.le_of_ble_eq_true rfl) dMd_since_14 (fun H locs hP hD hS => ?_)
  have hP : va_P (dC, dI) vwCl (wM y y1 y2 y3 y4 y5 y6 y7 y8 y9 y10 cI (va_up mi 0 0) ma) H := hP
  have hD : va_D A (wM y y1 y2 y3 y4 y5 y6 y7 y8 y9 y10 cI (va_up mi 0 0) ma) := hD
  refine lv_aload_n hx hb dMd_since_17 rfl (lv_at hl 0 rfl) ?_
  refine va_get (D := (dC, dI)) (ci := 3) (v := .int 0) (C := RMd) (T := TMd) (N := 17) hx hb hts inMd hown hK hP 0 rfl rfl 0 (by decide) (hts _ in_71) (fun _ h9 => h9) rfl dMd_since_18 ?_
  refine lv_if_le (tgt := 26) hx hb dMd_since_21 (by decide) (fun _ => ?_) (fun c_3 => absurd c_3 (by decide))
  refine lv_aload_n hx hb dMd_since_26 rfl (lv_at hl 0 rfl) ?_
  refine lv_iload_n hx hb dMd_since_27 rfl (lv_at hl 2 rfl) ?_
  refine lv_aload_n hx hb dMd_since_28 rfl (lv_at hl 0 rfl) ?_
  refine va_get (D := (dC, dI)) (ci := 3) (v := .ref y1) (C := RMd) (T := TMd) (N := 17) hx hb hts inMd hown hK hP 0 rfl rfl 2 (by decide) (hts _ in_82) (fun _ h9 => h9) rfl dMd_since_29 ?_
  refine lv_iload_n hx hb dMd_since_32 rfl (lv_at hl 1 rfl) ?_
  refine vq_iald (k := k) (f := ma 0) hx hb hK hP 1 0 rfl rfl rfl (by omega) (by decide) dMd_since_33 ?_
  refine lv_aload_n hx hb dMd_since_34 rfl (lv_at hl 0 rfl) ?_
  refine va_get (D := (dC, dI)) (ci := 3) (v := .int (mi 1)) (C := RMd) (T := TMd) (N := 17) hx hb hts inMd hown hK hP 0 rfl rfl 1 (by decide) (hts _ in_86) (fun _ h9 => h9) rfl dMd_since_35 ?_
  refine lv_isub hx hb dMd_since_38 ?_
  refine lv_icmp_lt (tgt := 52) hx hb dMd_since_39 (by decide) (fun c_4 => ?_) (fun c_4 => ?_)
  · skip
    exact absurd c_4 hlo
  · skip
    refine lv_iload_n hx hb dMd_since_42 rfl (lv_at hl 2 rfl) ?_
    refine lv_aload_n hx hb dMd_since_43 rfl (lv_at hl 0 rfl) ?_
    refine va_get (D := (dC, dI)) (ci := 3) (v := .ref y1) (C := RMd) (T := TMd) (N := 17) hx hb hts inMd hown hK hP 0 rfl rfl 2 (by decide) (hts _ in_82) (fun _ h9 => h9) rfl dMd_since_44 ?_
    refine lv_iload_n hx hb dMd_since_47 rfl (lv_at hl 1 rfl) ?_
    refine vq_iald (k := k) (f := ma 0) hx hb hK hP 1 0 rfl rfl rfl (by omega) (by decide) dMd_since_48 ?_
    refine lv_icmp_le (tgt := 56) hx hb dMd_since_49 (by decide) (fun c_5 => ?_) (fun c_5 => ?_)
    · skip
      refine lv_iconst (v := 0) hx hb dMd_since_56 (by decide) ?_
      refine va_put (D := (dC, dI)) (ci := 3) (v := .int 0) (ty := .int) (C := RMd) (T := TMd) (N := 17) hx hb hts inMd tyMd tyMd_ok nmMd hown hK hP hD hS 0 rfl rfl 0 (by decide) (hts _ in_71) (fun _ h9 => h9) rfl (by decide +kernel) rfl rfl (Nat.le_of_ble_eq_true rfl) dMd_since_57 (fun H locs hP hD hS => ?_)
      have hP : va_P (dC, dI) vwCl (wM y y1 y2 y3 y4 y5 y6 y7 y8 y9 y10 cI (va_up mi 0 0) ma) H := hP
      have hD : va_D A (wM y y1 y2 y3 y4 y5 y6 y7 y8 y9 y10 cI (va_up mi 0 0) ma) := hD
      refine lv_aload_n hx hb dMd_since_60 rfl (lv_at hl 0 rfl) ?_
      refine va_get (D := (dC, dI)) (ci := 3) (v := .int 0) (C := RMd) (T := TMd) (N := 17) hx hb hts inMd hown hK hP 0 rfl rfl 0 (by decide) (hts _ in_71) (fun _ h9 => h9) rfl dMd_since_61 ?_
      refine lv_if_le (tgt := 71) hx hb dMd_since_64 (by decide) (fun _ => ?_) (fun c_6 => absurd c_6 (by decide))
      refine lv_aload_n hx hb dMd_since_71 rfl (lv_at hl 0 rfl) ?_
      refine lv_iload_n hx hb dMd_since_72 rfl (lv_at hl 1 rfl) ?_
      refine lv_iload_n hx hb dMd_since_73 rfl (lv_at hl 2 rfl) ?_
      have hPc := hP.sub (ws' := (wM y y1 y2 y3 y4 y5 y6 y7 y8 y9 y10 cI (va_up mi 0 0) ma)) [0, 1, 2, 3, 4, 5, 6, 7, 8, 9, 10] rfl
      have hKc := hK.sub (tys' := [(cI, .int)]) [0] rfl
      refine vp_callSi (W.runV (As := [.int (nI k), .int x]) (rest := []) ⟨hx, hb, hml, hown, hts⟩ (k_M_since0 l dC dI y y1 y2 y3 y4 y5 y6 y7 y8 y9 y10 cI (va_up mi 0 0) ma k n hk4 hn hix a ha x hx0 hx1) (cwV 2 hts (gd_V in_87 in_89 in_90 in_74 in_88) rfl rfl rfl (by decide +kernel) ⟨Nat.le_of_ble_eq_true rfl, Nat.le_of_ble_eq_true rfl⟩) ⟨fun a U g mk q => by obtain ⟨q0, qP, qK⟩ := q; exact ⟨q0, qP, va_K.moved (u := U) (U := U.calling g mk a) (Vm.Alike.refl U.vm) qK⟩, va_recv hKc hPc (ci := 3) (q0 := 0) rfl rfl, fun U hU hW => ⟨rfl, by rw [hU]; exact hPc, va_K.moved hW.alike hKc⟩⟩ rfl rfl hl.1 rfl (lv_room (Nat.le_of_ble_eq_true rfl)) dMd_since_74 ⟨Nat.le_of_ble_eq_true rfl, Nat.le_of_ble_eq_true rfl⟩) (fun r_7 er_8 => ?_)
      subst er_8
      have hP9 : va_P (dC, dI) vwCl (wM y y1 y2 y3 y4 y5 y6 y7 y8 y9 y10 cI (va_up mi 0 0) ma) H := by exact hP
      have hD9 : va_D A (wM y y1 y2 y3 y4 y5 y6 y7 y8 y9 y10 cI (va_up mi 0 0) ma) := by exact hD
      exact W.iret (v := m_ws (ma 7) (64 * k) a (n + 1 - a)) hx hb hr (fun t ht hW => ⟨⟨m_ws (ma 7) (64 * k) a (n + 1 - a), (), rfl, rfl, by rw [ht]; exact hP9, va_K.moved hW.alike hK, hD9⟩, hS.F ht⟩) hS.2.2 dMd_since_77
    · skip
      exact absurd hhi c_5
set_option maxHeartbeats 4000000 in
set_option maxRecDepth 100000 in
/-- since(k, x), refused -/
theorem k_M_sinceB (l : Launch) (dC : Nat → ClassId) (dI : Nat → Nat → Nat) (sz : Nat) (y y1 y2 y3 y4 y5 y6 y7 y8 y9 y10 : Nat) (cI : ClassId) (mi : Nat → Int32) (ma : Nat → Nat → Int32) (k : Nat) (hk4 : k < 4) (x : Int32) (hbad : x < ma 0 k - mi 1 ∨ ¬ x ≤ ma 0 k) : Met l yMd_since wsMd_since ({ frames := 3, cells := 0, slots := 0, locals := 120 }) (va_Pc [.ref y, .int (nI k), .int x] (fun U => U.heap.size = sz ∧ va_P (dC, dI) vwCl (wM y y1 y2 y3 y4 y5 y6 y7 y8 y9 y10 cI mi ma) U.heap ∧ va_K (dC, dI) vwCl [(cI, .int)] U ∧ va_D (fun _ => True) (wM y y1 y2 y3 y4 y5 y6 y7 y8 y9 y10 cI mi ma))) (va_Qi (fun (r : Int32) (_ : Unit) => r = 0) (fun _ t => va_P (dC, dI) vwCl (wM y y1 y2 y3 y4 y5 y6 y7 y8 y9 y10 cI (va_up mi 0 2) ma) t.heap ∧ va_K (dC, dI) vwCl [(cI, .int)] t ∧ va_D (va_A (wM y y1 y2 y3 y4 y5 y6 y7 y8 y9 y10 cI mi ma) sz) (wM y y1 y2 y3 y4 y5 y6 y7 y8 y9 y10 cI (va_up mi 0 2) ma)) (va_A (wM y y1 y2 y3 y4 y5 y6 y7 y8 y9 y10 cI mi ma) sz)) 0 0 (va_A (wM y y1 y2 y3 y4 y5 y6 y7 y8 y9 y10 cI mi ma) sz) := by
  refine Met.ofW (cc := cMd_since) (maxL := 3) (ret := (some .int)) (by decide) rfl ?_
  intro p e s m args below meth c s₁ B hml hv
  obtain ⟨rfl, hsz, hP, hK, hD0⟩ := hv
  have hx := B.exec
  have hb := B.bytes
  have hr := B.returns
  have hts0 := atoms_spec (ws := wsMd_since) B.pre
  have hts := fun (w : Cond) (h : w ∈ lw_g) => hts0 w (List.mem_cons_of_mem _ h)
  have hown : s.vm.findClass RMd = some m.cls := findClass_of_methodNamed B.named
  have hlocks := B.notSynchronized
  subst hsz
  have hD := hD0.self (sz := s.heap.size)
  generalize hAe : va_A (wM y y1 y2 y3 y4 y5 y6 y7 y8 y9 y10 cI mi ma) s.heap.size = A at hD ⊢
  have hA : ∀ q : Nat, s.heap.size ≤ q → A q := fun q h => by rw [← hAe]; exact Or.inr h
  have hS : va_S A s.heap s.heap [] := va_S.rf
  have hP : va_P (dC, dI) vwCl (wM y y1 y2 y3 y4 y5 y6 y7 y8 y9 y10 cI mi ma) s.heap := hP
  have hl := lv_entry ([.ref y, .int (nI k), .int x]) (n := 3) (Nat.le_of_ble_eq_true rfl)
  rw [lg_entry_eq]
  generalize (lg_sl ([.ref y, .int (nI k), .int x]) ++ List.replicate (3 - (lg_sl ([.ref y, .int (nI k), .int x])).length) Slot.unset).toArray = ls at hl ⊢
  have hl : lv_has ls 3 [(0, .ref y), (1, .int (nI k)), (2, .int x)] := hl
  refine lv_aload_n hx hb dMd_since_0 rfl (lv_at hl 0 rfl) ?_
  refine lv_aload_n hx hb dMd_since_1 rfl (lv_at hl 0 rfl) ?_
  refine lv_iload_n hx hb dMd_since_2 rfl (lv_at hl 1 rfl) ?_
  have hPc := hP.sub (ws' := (wM y y1 y2 y3 y4 y5 y6 y7 y8 y9 y10 cI mi ma)) [0, 1, 2, 3, 4, 5, 6, 7, 8, 9, 10] rfl
  have hDc := hD.sub (ws' := (wM y y1 y2 y3 y4 y5 y6 y7 y8 y9 y10 cI mi ma)) [0, 1, 2, 3, 4, 5, 6, 7, 8, 9, 10] (by decide) rfl
  have hKc := hK.sub (tys' := [(cI, .int)]) [0] rfl
  have hFc := va_free (wc := (wM y y1 y2 y3 y4 y5 y6 y7 y8 y9 y10 cI mi ma)) hD hS hA [0, 1, 2, 3, 4, 5, 6, 7, 8, 9, 10] rfl
  refine va_calli (va_runV (As := [.int (nI k)]) (rest := [.ref y]) ⟨hx, hb, hml, hown, hts⟩ (k_M_lacks0 l dC dI s.heap.size y y1 y2 y3 y4 y5 y6 y7 y8 y9 y10 cI mi ma k hk4) (cwV 1 hts (gd_V in_91 in_93 in_94 in_74 in_92) rfl rfl rfl (by decide +kernel) ⟨Nat.le_of_ble_eq_true rfl, Nat.le_of_ble_eq_true rfl⟩) ⟨fun a U g mk q => by obtain ⟨q0, q1, qP, qK, qD⟩ := q; exact ⟨q0, q1, qP, va_K.moved (u := U) (U := U.calling g mk a) (Vm.Alike.refl U.vm) qK, qD⟩, va_recv hKc hPc (ci := 3) (q0 := 0) rfl rfl, fun U hU hW => ⟨rfl, by rw [hU], by rw [hU]; exact hPc, va_K.moved hW.alike hKc, hDc.weaken (fun _ _ _ _ => trivial)⟩⟩ rfl rfl hl.1 rfl (lv_room (Nat.le_of_ble_eq_true rfl)) dMd_since_3 ⟨Nat.le_of_ble_eq_true rfl, Nat.le_of_ble_eq_true rfl⟩) hS (fun q _ h => hFc q h) hFc (fun r_1 u t H1 locs ht hvm hw hB hz1 hk1 hS => ?_)
  obtain ⟨hP1, hK1, hD1⟩ := hB
  rw [ht] at hP1
  obtain ⟨hP, hD⟩ := va_join (wr := []) (w1 := (wM y y1 y2 y3 y4 y5 y6 y7 y8 y9 y10 cI (va_up mi 0 0) ma)) hP hD [0, 1, 2, 3, 4, 5, 6, 7, 8, 9, 10] [] rfl rfl (by decide) (by decide) hk1 hFc hP1 hD1
  generalize H1 = H at hP hS ⊢
  have hP : va_P (dC, dI) vwCl (wM y y1 y2 y3 y4 y5 y6 y7 y8 y9 y10 cI (va_up mi 0 0) ma) H := hP
  have hD : va_D A (wM y y1 y2 y3 y4 y5 y6 y7 y8 y9 y10 cI (va_up mi 0 0) ma) := hD
  have hw : r_1 = 0 := hw
  subst hw
  refine lv_if_eq (tgt := 13) hx hb dMd_since_6 (by decide) (fun _ => ?_) (fun c_2 => absurd c_2 (by decide))
  refine lv_iconst (v := 0) hx hb dMd_since_13 (by decide) ?_
  refine va_put (D := (dC, dI)) (ci := 3) (v := .int 0) (ty := .int) (C := RMd) (T := TMd) (N := 17) hx hb hts inMd tyMd tyMd_ok nmMd hown hK hP hD hS 0 rfl rfl 0 (by decide) (hts _ in_71) (fun _ h9 => h9) rfl (by decide +kernel) rfl rfl (Nat.le_of_ble_eq_true rfl) dMd_since_14 (fun H locs hP hD hS => ?_)
  have hP : va_P (dC, dI) vwCl (wM y y1 y2 y3 y4 y5 y6 y7 y8 y9 y10 cI (va_up mi 0 0) ma) H := hP
  have hD : va_D A (wM y y1 y2 y3 y4 y5 y6 y7 y8 y9 y10 cI (va_up mi 0 0) ma) := hD
  refine lv_aload_n hx hb dMd_since_17 rfl (lv_at hl 0 rfl) ?_
  refine va_get (D := (dC, dI)) (ci := 3) (v := .int 0) (C := RMd) (T := TMd) (N := 17) hx hb hts inMd hown hK hP 0 rfl rfl 0 (by decide) (hts _ in_71) (fun _ h9 => h9) rfl dMd_since_18 ?_
  refine lv_if_le (tgt := 26) hx hb dMd_since_21 (by decide) (fun _ => ?_) (fun c_3 => absurd c_3 (by decide))
  refine lv_aload_n hx hb dMd_since_26 rfl (lv_at hl 0 rfl) ?_
  refine lv_iload_n hx hb dMd_since_27 rfl (lv_at hl 2 rfl) ?_
  refine lv_aload_n hx hb dMd_since_28 rfl (lv_at hl 0 rfl) ?_
  refine va_get (D := (dC, dI)) (ci := 3) (v := .ref y1) (C := RMd) (T := TMd) (N := 17) hx hb hts inMd hown hK hP 0 rfl rfl 2 (by decide) (hts _ in_82) (fun _ h9 => h9) rfl dMd_since_29 ?_
  refine lv_iload_n hx hb dMd_since_32 rfl (lv_at hl 1 rfl) ?_
  refine vq_iald (k := k) (f := ma 0) hx hb hK hP 1 0 rfl rfl rfl (by omega) (by decide) dMd_since_33 ?_
  refine lv_aload_n hx hb dMd_since_34 rfl (lv_at hl 0 rfl) ?_
  refine va_get (D := (dC, dI)) (ci := 3) (v := .int (mi 1)) (C := RMd) (T := TMd) (N := 17) hx hb hts inMd hown hK hP 0 rfl rfl 1 (by decide) (hts _ in_86) (fun _ h9 => h9) rfl dMd_since_35 ?_
  refine lv_isub hx hb dMd_since_38 ?_
  refine lv_icmp_lt (tgt := 52) hx hb dMd_since_39 (by decide) (fun c_4 => ?_) (fun c_4 => ?_)
  · skip
    refine lv_iconst (v := 2) hx hb dMd_since_52 (by decide) ?_
    refine lv_goto (tgt := 57) hx hb dMd_since_53 (by decide) ?_
    refine va_put (D := (dC, dI)) (ci := 3) (v := .int 2) (ty := .int) (C := RMd) (T := TMd) (N := 17) hx hb hts inMd tyMd tyMd_ok nmMd hown hK hP hD hS 0 rfl rfl 0 (by decide) (hts _ in_71) (fun _ h9 => h9) rfl (by decide +kernel) rfl rfl (Nat.le_of_ble_eq_true rfl) dMd_since_57 (fun H locs hP hD hS => ?_)
    have hP : va_P (dC, dI) vwCl (wM y y1 y2 y3 y4 y5 y6 y7 y8 y9 y10 cI (va_up mi 0 2) ma) H := hP
    have hD : va_D A (wM y y1 y2 y3 y4 y5 y6 y7 y8 y9 y10 cI (va_up mi 0 2) ma) := hD
    refine lv_aload_n hx hb dMd_since_60 rfl (lv_at hl 0 rfl) ?_
    refine va_get (D := (dC, dI)) (ci := 3) (v := .int 2) (C := RMd) (T := TMd) (N := 17) hx hb hts inMd hown hK hP 0 rfl rfl 0 (by decide) (hts _ in_71) (fun _ h9 => h9) rfl dMd_since_61 ?_
    refine lv_if_le (tgt := 71) hx hb dMd_since_64 (by decide) (fun c_5 => absurd c_5 (by decide)) (fun _ => ?_)
    refine lv_iconst (v := 0) hx hb dMd_since_67 (by decide) ?_
    refine lv_goto (tgt := 77) hx hb dMd_since_68 (by decide) ?_
    have hP9 : va_P (dC, dI) vwCl (wM y y1 y2 y3 y4 y5 y6 y7 y8 y9 y10 cI (va_up mi 0 2) ma) H := by exact hP
    have hD9 : va_D A (wM y y1 y2 y3 y4 y5 y6 y7 y8 y9 y10 cI (va_up mi 0 2) ma) := by exact hD
    exact W.iret (v := 0) hx hb hr (fun t ht hW => ⟨⟨0, (), rfl, rfl, by rw [ht]; exact hP9, va_K.moved hW.alike hK, hD9⟩, hS.F ht⟩) hS.2.2 dMd_since_77
  · skip
    have c_lo := c_4
    refine lv_iload_n hx hb dMd_since_42 rfl (lv_at hl 2 rfl) ?_
    refine lv_aload_n hx hb dMd_since_43 rfl (lv_at hl 0 rfl) ?_
    refine va_get (D := (dC, dI)) (ci := 3) (v := .ref y1) (C := RMd) (T := TMd) (N := 17) hx hb hts inMd hown hK hP 0 rfl rfl 2 (by decide) (hts _ in_82) (fun _ h9 => h9) rfl dMd_since_44 ?_
    refine lv_iload_n hx hb dMd_since_47 rfl (lv_at hl 1 rfl) ?_
    refine vq_iald (k := k) (f := ma 0) hx hb hK hP 1 0 rfl rfl rfl (by omega) (by decide) dMd_since_48 ?_
    refine lv_icmp_le (tgt := 56) hx hb dMd_since_49 (by decide) (fun c_6 => ?_) (fun c_6 => ?_)
    · skip
      exact hbad.elim (fun q => absurd q c_lo) (fun q => absurd c_6 q)
    · skip
      refine lv_iconst (v := 2) hx hb dMd_since_52 (by decide) ?_
      refine lv_goto (tgt := 57) hx hb dMd_since_53 (by decide) ?_
      refine va_put (D := (dC, dI)) (ci := 3) (v := .int 2) (ty := .int) (C := RMd) (T := TMd) (N := 17) hx hb hts inMd tyMd tyMd_ok nmMd hown hK hP hD hS 0 rfl rfl 0 (by decide) (hts _ in_71) (fun _ h9 => h9) rfl (by decide +kernel) rfl rfl (Nat.le_of_ble_eq_true rfl) dMd_since_57 (fun H locs hP hD hS => ?_)
      have hP : va_P (dC, dI) vwCl (wM y y1 y2 y3 y4 y5 y6 y7 y8 y9 y10 cI (va_up mi 0 2) ma) H := hP
      have hD : va_D A (wM y y1 y2 y3 y4 y5 y6 y7 y8 y9 y10 cI (va_up mi 0 2) ma) := hD
      refine lv_aload_n hx hb dMd_since_60 rfl (lv_at hl 0 rfl) ?_
      refine va_get (D := (dC, dI)) (ci := 3) (v := .int 2) (C := RMd) (T := TMd) (N := 17) hx hb hts inMd hown hK hP 0 rfl rfl 0 (by decide) (hts _ in_71) (fun _ h9 => h9) rfl dMd_since_61 ?_
      refine lv_if_le (tgt := 71) hx hb dMd_since_64 (by decide) (fun c_7 => absurd c_7 (by decide)) (fun _ => ?_)
      refine lv_iconst (v := 0) hx hb dMd_since_67 (by decide) ?_
      refine lv_goto (tgt := 77) hx hb dMd_since_68 (by decide) ?_
      have hP9 : va_P (dC, dI) vwCl (wM y y1 y2 y3 y4 y5 y6 y7 y8 y9 y10 cI (va_up mi 0 2) ma) H := by exact hP
      have hD9 : va_D A (wM y y1 y2 y3 y4 y5 y6 y7 y8 y9 y10 cI (va_up mi 0 2) ma) := by exact hD
      exact W.iret (v := 0) hx hb hr (fun t ht hW => ⟨⟨0, (), rfl, rfl, by rw [ht]; exact hP9, va_K.moved hW.alike hK, hD9⟩, hS.F ht⟩) hS.2.2 dMd_since_77
set_option maxHeartbeats 4000000 in
set_option maxRecDepth 100000 in
/-- since(x, z), no fold -/
theorem k_M_sinceN (l : Launch) (dC : Nat → ClassId) (dI : Nat → Nat → Nat) (sz : Nat) (y y1 y2 y3 y4 y5 y6 y7 y8 y9 y10 : Nat) (cI : ClassId) (mi : Nat → Int32) (ma : Nat → Nat → Int32) (x z : Int32) (hfx : s_lk x = 1) : Met l yMd_since wsMd_since ({ frames := 3, cells := 0, slots := 0, locals := 120 }) (va_Pc [.ref y, .int x, .int z] (fun U => U.heap.size = sz ∧ va_P (dC, dI) vwCl (wM y y1 y2 y3 y4 y5 y6 y7 y8 y9 y10 cI mi ma) U.heap ∧ va_K (dC, dI) vwCl [(cI, .int)] U ∧ va_D (fun _ => True) (wM y y1 y2 y3 y4 y5 y6 y7 y8 y9 y10 cI mi ma))) (va_Qi (fun (r : Int32) (_ : Unit) => r = 0) (fun _ t => va_P (dC, dI) vwCl (wM y y1 y2 y3 y4 y5 y6 y7 y8 y9 y10 cI (va_up mi 0 1) ma) t.heap ∧ va_K (dC, dI) vwCl [(cI, .int)] t ∧ va_D (va_A (wM y y1 y2 y3 y4 y5 y6 y7 y8 y9 y10 cI mi ma) sz) (wM y y1 y2 y3 y4 y5 y6 y7 y8 y9 y10 cI (va_up mi 0 1) ma)) (va_A (wM y y1 y2 y3 y4 y5 y6 y7 y8 y9 y10 cI mi ma) sz)) 0 0 (va_A (wM y y1 y2 y3 y4 y5 y6 y7 y8 y9 y10 cI mi ma) sz) := by
  refine Met.ofW (cc := cMd_since) (maxL := 3) (ret := (some .int)) (by decide) rfl ?_
  intro p e s m args below meth c s₁ B hml hv
  obtain ⟨rfl, hsz, hP, hK, hD0⟩ := hv
  have hx := B.exec
  have hb := B.bytes
  have hr := B.returns
  have hts0 := atoms_spec (ws := wsMd_since) B.pre
  have hts := fun (w : Cond) (h : w ∈ lw_g) => hts0 w (List.mem_cons_of_mem _ h)
  have hown : s.vm.findClass RMd = some m.cls := findClass_of_methodNamed B.named
  have hlocks := B.notSynchronized
  subst hsz
  have hD := hD0.self (sz := s.heap.size)
  generalize hAe : va_A (wM y y1 y2 y3 y4 y5 y6 y7 y8 y9 y10 cI mi ma) s.heap.size = A at hD ⊢
  have hA : ∀ q : Nat, s.heap.size ≤ q → A q := fun q h => by rw [← hAe]; exact Or.inr h
  have hS : va_S A s.heap s.heap [] := va_S.rf
  have hP : va_P (dC, dI) vwCl (wM y y1 y2 y3 y4 y5 y6 y7 y8 y9 y10 cI mi ma) s.heap := hP
  have hl := lv_entry ([.ref y, .int x, .int z]) (n := 3) (Nat.le_of_ble_eq_true rfl)
  rw [lg_entry_eq]
  generalize (lg_sl ([.ref y, .int x, .int z]) ++ List.replicate (3 - (lg_sl ([.ref y, .int x, .int z])).length) Slot.unset).toArray = ls at hl ⊢
  have hl : lv_has ls 3 [(0, .ref y), (1, .int x), (2, .int z)] := hl
  refine lv_aload_n hx hb dMd_since_0 rfl (lv_at hl 0 rfl) ?_
  refine lv_aload_n hx hb dMd_since_1 rfl (lv_at hl 0 rfl) ?_
  refine lv_iload_n hx hb dMd_since_2 rfl (lv_at hl 1 rfl) ?_
  have hPc := hP.sub (ws' := (wM y y1 y2 y3 y4 y5 y6 y7 y8 y9 y10 cI mi ma)) [0, 1, 2, 3, 4, 5, 6, 7, 8, 9, 10] rfl
  have hDc := hD.sub (ws' := (wM y y1 y2 y3 y4 y5 y6 y7 y8 y9 y10 cI mi ma)) [0, 1, 2, 3, 4, 5, 6, 7, 8, 9, 10] (by decide) rfl
  have hKc := hK.sub (tys' := [(cI, .int)]) [0] rfl
  have hFc := va_free (wc := (wM y y1 y2 y3 y4 y5 y6 y7 y8 y9 y10 cI mi ma)) hD hS hA [0, 1, 2, 3, 4, 5, 6, 7, 8, 9, 10] rfl
  refine va_calli (va_runV (As := [.int x]) (rest := [.ref y]) ⟨hx, hb, hml, hown, hts⟩ (k_M_lacks1 l dC dI s.heap.size y y1 y2 y3 y4 y5 y6 y7 y8 y9 y10 cI mi ma x hfx) (cwV 1 hts (gd_V in_91 in_93 in_94 in_74 in_92) rfl rfl rfl (by decide +kernel) ⟨Nat.le_of_ble_eq_true rfl, Nat.le_of_ble_eq_true rfl⟩) ⟨fun a U g mk q => by obtain ⟨q0, q1, qP, qK, qD⟩ := q; exact ⟨q0, q1, qP, va_K.moved (u := U) (U := U.calling g mk a) (Vm.Alike.refl U.vm) qK, qD⟩, va_recv hKc hPc (ci := 3) (q0 := 0) rfl rfl, fun U hU hW => ⟨rfl, by rw [hU], by rw [hU]; exact hPc, va_K.moved hW.alike hKc, hDc.weaken (fun _ _ _ _ => trivial)⟩⟩ rfl rfl hl.1 rfl (lv_room (Nat.le_of_ble_eq_true rfl)) dMd_since_3 ⟨Nat.le_of_ble_eq_true rfl, Nat.le_of_ble_eq_true rfl⟩) hS (fun q _ h => hFc q h) hFc (fun r_1 u t H1 locs ht hvm hw hB hz1 hk1 hS => ?_)
  obtain ⟨hP1, hK1, hD1⟩ := hB
  rw [ht] at hP1
  obtain ⟨hP, hD⟩ := va_join (wr := []) (w1 := (wM y y1 y2 y3 y4 y5 y6 y7 y8 y9 y10 cI (va_up mi 0 1) ma)) hP hD [0, 1, 2, 3, 4, 5, 6, 7, 8, 9, 10] [] rfl rfl (by decide) (by decide) hk1 hFc hP1 hD1
  generalize H1 = H at hP hS ⊢
  have hP : va_P (dC, dI) vwCl (wM y y1 y2 y3 y4 y5 y6 y7 y8 y9 y10 cI (va_up mi 0 1) ma) H := hP
  have hD : va_D A (wM y y1 y2 y3 y4 y5 y6 y7 y8 y9 y10 cI (va_up mi 0 1) ma) := hD
  have hw : r_1 = 1 := hw
  subst hw
  refine lv_if_eq (tgt := 13) hx hb dMd_since_6 (by decide) (fun c_2 => absurd c_2 (by decide)) (fun _ => ?_)
  refine lv_iconst (v := 1) hx hb dMd_since_9 (by decide) ?_
  refine lv_goto (tgt := 14) hx hb dMd_since_10 (by decide) ?_
  refine va_put (D := (dC, dI)) (ci := 3) (v := .int 1) (ty := .int) (C := RMd) (T := TMd) (N := 17) hx hb hts inMd tyMd tyMd_ok nmMd hown hK hP hD hS 0 rfl rfl 0 (by decide) (hts _ in_71) (fun _ h9 => h9) rfl (by decide +kernel) rfl rfl (Nat.le_of_ble_eq_true rfl) dMd_since_14 (fun H locs hP hD hS => ?_)
  have hP : va_P (dC, dI) vwCl (wM y y1 y2 y3 y4 y5 y6 y7 y8 y9 y10 cI (va_up mi 0 1) ma) H := hP
  have hD : va_D A (wM y y1 y2 y3 y4 y5 y6 y7 y8 y9 y10 cI (va_up mi 0 1) ma) := hD
  refine lv_aload_n hx hb dMd_since_17 rfl (lv_at hl 0 rfl) ?_
  refine va_get (D := (dC, dI)) (ci := 3) (v := .int 1) (C := RMd) (T := TMd) (N := 17) hx hb hts inMd hown hK hP 0 rfl rfl 0 (by decide) (hts _ in_71) (fun _ h9 => h9) rfl dMd_since_18 ?_
  refine lv_if_le (tgt := 26) hx hb dMd_since_21 (by decide) (fun c_3 => absurd c_3 (by decide)) (fun _ => ?_)
  refine lv_iconst (v := 0) hx hb dMd_since_24 (by decide) ?_
  have hP9 : va_P (dC, dI) vwCl (wM y y1 y2 y3 y4 y5 y6 y7 y8 y9 y10 cI (va_up mi 0 1) ma) H := by exact hP
  have hD9 : va_D A (wM y y1 y2 y3 y4 y5 y6 y7 y8 y9 y10 cI (va_up mi 0 1) ma) := by exact hD
  exact W.iret (v := 0) hx hb hr (fun t ht hW => ⟨⟨0, (), rfl, rfl, by rw [ht]; exact hP9, va_K.moved hW.alike hK, hD9⟩, hS.F ht⟩) hS.2.2 dMd_since_25
end
section
set_option maxHeartbeats 4000000 in
set_option maxRecDepth 100000 in
/-- written(k, z) -/
theorem k_M_written (l : Launch) (dC : Nat → ClassId) (dI : Nat → Nat → Nat) (sz : Nat) (y y1 y2 y3 y4 y5 y6 y7 y8 y9 y10 : Nat) (cI : ClassId) (mi : Nat → Int32) (ma : Nat → Nat → Int32) (k n : Nat) (hk4 : k < 4) (hn : n < 2 ^ 30) (hix : ma 0 k = nI n) (z : Nat) (hz : z < 16) : Met l yMd_written wsMd_written ({ frames := 3, cells := 0, slots := 0, locals := 120 }) (va_Pc [.ref y, .int (nI k), .int (nI z)] (fun U => U.heap.size = sz ∧ va_P (dC, dI) vwCl (wM y y1 y2 y3 y4 y5 y6 y7 y8 y9 y10 cI mi ma) U.heap ∧ va_K (dC, dI) vwCl [(cI, .int)] U ∧ va_D (fun _ => True) (wM y y1 y2 y3 y4 y5 y6 y7 y8 y9 y10 cI mi ma))) (va_Qi (fun (r : Int32) (_ : Unit) => r = m_wr (ma 7) (64 * k) (ma 1 k) (nI z) n) (fun _ t => va_P (dC, dI) vwCl (wM y y1 y2 y3 y4 y5 y6 y7 y8 y9 y10 cI (va_up mi 0 0) ma) t.heap ∧ va_K (dC, dI) vwCl [(cI, .int)] t ∧ va_D (va_A (wM y y1 y2 y3 y4 y5 y6 y7 y8 y9 y10 cI mi ma) sz) (wM y y1 y2 y3 y4 y5 y6 y7 y8 y9 y10 cI (va_up mi 0 0) ma)) (va_A (wM y y1 y2 y3 y4 y5 y6 y7 y8 y9 y10 cI mi ma) sz)) 0 0 (va_A (wM y y1 y2 y3 y4 y5 y6 y7 y8 y9 y10 cI mi ma) sz) := by
  refine Met.ofW (cc := cMd_written) (maxL := 4) (ret := (some .int)) (by decide) rfl ?_
  intro p e s m args below meth c s₁ B hml hv
  obtain ⟨rfl, hsz, hP, hK, hD0⟩ := hv
  have hx := B.exec
  have hb := B.bytes
  have hr := B.returns
  have hts0 := atoms_spec (ws := wsMd_written) B.pre
  have hts := fun (w : Cond) (h : w ∈ lw_g) => hts0 w (List.mem_cons_of_mem _ h)
  have hown : s.vm.findClass RMd = some m.cls := findClass_of_methodNamed B.named
  have hlocks := B.notSynchronized
  subst hsz
  have hD := hD0.self (sz := s.heap.size)
  generalize hAe : va_A (wM y y1 y2 y3 y4 y5 y6 y7 y8 y9 y10 cI mi ma) s.heap.size = A at hD ⊢
  have hA : ∀ q : Nat, s.heap.size ≤ q → A q := fun q h => by rw [← hAe]; exact Or.inr h
  have hS : va_S A s.heap s.heap [] := va_S.rf
  have hP : va_P (dC, dI) vwCl (wM y y1 y2 y3 y4 y5 y6 y7 y8 y9 y10 cI mi ma) s.heap := hP
  have hl := lv_entry ([.ref y, .int (nI k), .int (nI z)]) (n := 4) (Nat.le_of_ble_eq_true rfl)
  rw [lg_entry_eq]
  generalize (lg_sl ([.ref y, .int (nI k), .int (nI z)]) ++ List.replicate (4 - (lg_sl ([.ref y, .int (nI k), .int (nI z)])).length) Slot.unset).toArray = ls at hl ⊢
  have hl : lv_has ls 4 [(0, .ref y), (1, .int (nI k)), (2, .int (nI z))] := hl
  refine lv_aload_n hx hb dMd_written_0 rfl (lv_at hl 0 rfl) ?_
  refine lv_aload_n hx hb dMd_written_1 rfl (lv_at hl 0 rfl) ?_
  refine lv_iload_n hx hb dMd_written_2 rfl (lv_at hl 1 rfl) ?_
  have hPc := hP.sub (ws' := (wM y y1 y2 y3 y4 y5 y6 y7 y8 y9 y10 cI mi ma)) [0, 1, 2, 3, 4, 5, 6, 7, 8, 9, 10] rfl
  have hDc := hD.sub (ws' := (wM y y1 y2 y3 y4 y5 y6 y7 y8 y9 y10 cI mi ma)) [0, 1, 2, 3, 4, 5, 6, 7, 8, 9, 10] (by decide) rfl
  have hKc := hK.sub (tys' := [(cI, .int)]) [0] rfl
  have hFc := va_free (wc := (wM y y1 y2 y3 y4 y5 y6 y7 y8 y9 y10 cI mi ma)) hD hS hA [0, 1, 2, 3, 4, 5, 6, 7, 8, 9, 10] rfl
  refine va_calli (va_runV (As := [.int (nI k)]) (rest := [.ref y]) ⟨hx, hb, hml, hown, hts⟩ (k_M_lacks0 l dC dI s.heap.size y y1 y2 y3 y4 y5 y6 y7 y8 y9 y10 cI mi ma k hk4) (cwV 1 hts (gd_V in_91 in_93 in_94 in_74 in_92) rfl rfl rfl (by decide +kernel) ⟨Nat.le_of_ble_eq_true rfl, Nat.le_of_ble_eq_true rfl⟩) ⟨fun a U g mk q => by obtain ⟨q0, q1, qP, qK, qD⟩ := q; exact ⟨q0, q1, qP, va_K.moved (u := U) (U := U.calling g mk a) (Vm.Alike.refl U.vm) qK, qD⟩, va_recv hKc hPc (ci := 3) (q0 := 0) rfl rfl, fun U hU hW => ⟨rfl, by rw [hU], by rw [hU]; exact hPc, va_K.moved hW.alike hKc, hDc.weaken (fun _ _ _ _ => trivial)⟩⟩ rfl rfl hl.1 rfl (lv_room (Nat.le_of_ble_eq_true rfl)) dMd_written_3 ⟨Nat.le_of_ble_eq_true rfl, Nat.le_of_ble_eq_true rfl⟩) hS (fun q _ h => hFc q h) hFc (fun r_1 u t H1 locs ht hvm hw hB hz1 hk1 hS => ?_)
  obtain ⟨hP1, hK1, hD1⟩ := hB
  rw [ht] at hP1
  obtain ⟨hP, hD⟩ := va_join (wr := []) (w1 := (wM y y1 y2 y3 y4 y5 y6 y7 y8 y9 y10 cI (va_up mi 0 0) ma)) hP hD [0, 1, 2, 3, 4, 5, 6, 7, 8, 9, 10] [] rfl rfl (by decide) (by decide) hk1 hFc hP1 hD1
  generalize H1 = H at hP hS ⊢
  have hP : va_P (dC, dI) vwCl (wM y y1 y2 y3 y4 y5 y6 y7 y8 y9 y10 cI (va_up mi 0 0) ma) H := hP
  have hD : va_D A (wM y y1 y2 y3 y4 y5 y6 y7 y8 y9 y10 cI (va_up mi 0 0) ma) := hD
  have hw : r_1 = 0 := hw
  subst hw
  refine lv_if_eq (tgt := 13) hx hb dMd_written_6 (by decide) (fun _ => ?_) (fun c_2 => absurd c_2 (by decide))
  refine lv_iload_n hx hb dMd_written_13 rfl (lv_at hl 2 rfl) ?_
  refine vp_callSi (W.runS (As := [.int (nI z)]) (rest := [.ref y]) ⟨hx, hb, hml, hown, hts⟩ (k_M_is16 l (nI z)) (va_cwS 1 hts (gd_S in_72 in_75 in_74 in_73) rfl rfl rfl (by decide +kernel) ⟨Nat.le_of_ble_eq_true rfl, Nat.le_of_ble_eq_true rfl⟩) ⟨fun a U g mk q => q, fun U hU hW => ⟨rfl, trivial⟩⟩ rfl rfl hl.1 rfl (lv_room (Nat.le_of_ble_eq_true rfl)) dMd_written_14 ⟨Nat.le_of_ble_eq_true rfl, Nat.le_of_ble_eq_true rfl⟩) (fun r_3 er_4 => ?_)
  subst er_4
  refine lv_if_eq (tgt := 24) hx hb dMd_written_17 (by decide) (fun c_5 => ?_) (fun c_5 => ?_)
  · skip
    exact absurd c_5 (s_in_ne hz)
  · skip
    refine lv_iconst (v := 0) hx hb dMd_written_20 (by decide) ?_
    refine lv_goto (tgt := 25) hx hb dMd_written_21 (by decide) ?_
    refine va_put (D := (dC, dI)) (ci := 3) (v := .int 0) (ty := .int) (C := RMd) (T := TMd) (N := 17) hx hb hts inMd tyMd tyMd_ok nmMd hown hK hP hD hS 0 rfl rfl 0 (by decide) (hts _ in_71) (fun _ h9 => h9) rfl (by decide +kernel) rfl rfl (Nat.le_of_ble_eq_true rfl) dMd_written_25 (fun H locs hP hD hS => ?_)
    have hP : va_P (dC, dI) vwCl (wM y y1 y2 y3 y4 y5 y6 y7 y8 y9 y10 cI (va_up mi 0 0) ma) H := hP
    have hD : va_D A (wM y y1 y2 y3 y4 y5 y6 y7 y8 y9 y10 cI (va_up mi 0 0) ma) := hD
    refine lv_aload_n hx hb dMd_written_28 rfl (lv_at hl 0 rfl) ?_
    refine va_get (D := (dC, dI)) (ci := 3) (v := .int 0) (C := RMd) (T := TMd) (N := 17) hx hb hts inMd hown hK hP 0 rfl rfl 0 (by decide) (hts _ in_71) (fun _ h9 => h9) rfl dMd_written_29 ?_
    refine lv_if_le (tgt := 37) hx hb dMd_written_32 (by decide) (fun _ => ?_) (fun c_6 => absurd c_6 (by decide))
    refine lv_aload_n hx hb dMd_written_37 rfl (lv_at hl 0 rfl) ?_
    refine va_get (D := (dC, dI)) (ci := 3) (v := .ref y1) (C := RMd) (T := TMd) (N := 17) hx hb hts inMd hown hK hP 0 rfl rfl 2 (by decide) (hts _ in_82) (fun _ h9 => h9) rfl dMd_written_38 ?_
    refine lv_iload_n hx hb dMd_written_41 rfl (lv_at hl 1 rfl) ?_
    refine vq_iald (k := k) (f := ma 0) hx hb hK hP 1 0 rfl rfl rfl (by omega) (by decide) dMd_written_42 ?_
    refine lv_ri (y := nI n) hix ?_
    refine lv_istore_n (lv' := [(3, .int (nI n)), (0, .ref y), (1, .int (nI k)), (2, .int (nI z))]) hx hb dMd_written_43 rfl hl (by decide) rfl (fun ls hl => ?_)
    refine wl_ro (σ := Nat × Array Slot) (fun z9 => F0 m 44 z9.2 []) (fun z9 => z9.1 ≤ n ∧ m_wr (ma 7) (64 * k) (ma 1 k) (nI z) n = m_wr (ma 7) (64 * k) (ma 1 k) (nI z) z9.1 ∧ lv_has z9.2 4 [(3, .int (nI z9.1)), (0, .ref y), (1, .int (nI k)), (2, .int (nI z))]) (fun z9 => z9.1) ?_ (n, ls) ⟨Nat.le_refl _, rfl, lv_sub hl [0, 1, 2, 3] rfl⟩
    rintro ⟨j, ls⟩ ⟨hj, hE, hl⟩ ih
    have hj : j ≤ n := hj
    have hE : m_wr (ma 7) (64 * k) (ma 1 k) (nI z) n = m_wr (ma 7) (64 * k) (ma 1 k) (nI z) j := hE
    have hl : lv_has ls 4 [(3, .int (nI j)), (0, .ref y), (1, .int (nI k)), (2, .int (nI z))] := hl
    show W p l e _ s m _ below meth c _ _ _ _ _ (F0 m 44 ls [])
    refine lv_iload_n hx hb dMd_written_44 rfl (lv_at hl 0 rfl) ?_
    refine lv_aload_n hx hb dMd_written_45 rfl (lv_at hl 1 rfl) ?_
    refine va_get (D := (dC, dI)) (ci := 3) (v := .ref y2) (C := RMd) (T := TMd) (N := 17) hx hb hts inMd hown hK hP 0 rfl rfl 3 (by decide) (hts _ in_102) (fun _ h9 => h9) rfl dMd_written_46 ?_
    refine lv_iload_n hx hb dMd_written_49 rfl (lv_at hl 2 rfl) ?_
    refine vq_iald (k := k) (f := ma 1) hx hb hK hP 2 0 rfl rfl rfl (by omega) (by decide) dMd_written_50 ?_
    refine lv_icmp_lt (tgt := 88) hx hb dMd_written_51 (by decide) (fun c_7 => ?_) (fun c_7 => ?_)
    · skip
      refine lv_iconst (v := (-1)) hx hb dMd_written_88 (by decide) ?_
      have hP9 : va_P (dC, dI) vwCl (wM y y1 y2 y3 y4 y5 y6 y7 y8 y9 y10 cI (va_up mi 0 0) ma) H := by exact hP
      have hD9 : va_D A (wM y y1 y2 y3 y4 y5 y6 y7 y8 y9 y10 cI (va_up mi 0 0) ma) := by exact hD
      exact W.iret (v := (-1)) hx hb hr (fun t ht hW => ⟨⟨(-1), (), rfl, by rw [hE]; exact (m_wr_lt c_7).symm, by rw [ht]; exact hP9, va_K.moved hW.alike hK, hD9⟩, hS.F ht⟩) hS.2.2 dMd_written_89
    · skip
      refine lv_iload_n hx hb dMd_written_54 rfl (lv_at hl 0 rfl) ?_
      refine lv_if_le (tgt := 88) hx hb dMd_written_55 (by decide) (fun c_8 => ?_) (fun c_8 => ?_)
      · skip
        refine lv_iconst (v := (-1)) hx hb dMd_written_88 (by decide) ?_
        have hP9 : va_P (dC, dI) vwCl (wM y y1 y2 y3 y4 y5 y6 y7 y8 y9 y10 cI (va_up mi 0 0) ma) H := by exact hP
        have hD9 : va_D A (wM y y1 y2 y3 y4 y5 y6 y7 y8 y9 y10 cI (va_up mi 0 0) ma) := by exact hD
        exact W.iret (v := (-1)) hx hb hr (fun t ht hW => ⟨⟨(-1), (), rfl, by rw [hE]; exact (m_wr_0 (by omega) c_8).symm, by rw [ht]; exact hP9, va_K.moved hW.alike hK, hD9⟩, hS.F ht⟩) hS.2.2 dMd_written_89
      · skip
        obtain ⟨j9, rfl⟩ : ∃ j9, j = j9 + 1 := ⟨j - 1, by have : j ≠ 0 := fun q => c_8 (by rw [q]; decide); omega⟩
        refine lv_aload_n hx hb dMd_written_58 rfl (lv_at hl 1 rfl) ?_
        refine va_get (D := (dC, dI)) (ci := 3) (v := .ref y8) (C := RMd) (T := TMd) (N := 17) hx hb hts inMd hown hK hP 0 rfl rfl 9 (by decide) (hts _ in_83) (fun _ h9 => h9) rfl dMd_written_59 ?_
        refine lv_bipush (v := nI 64) hx hb dMd_written_62 (by decide) ?_
        refine lv_iload_n hx hb dMd_written_64 rfl (lv_at hl 2 rfl) ?_
        refine lv_imul hx hb dMd_written_65 ?_
        refine lv_ri (y := nI (64 * k)) (pk_mul _ _) ?_
        refine lv_iload_n hx hb dMd_written_66 rfl (lv_at hl 0 rfl) ?_
        refine lv_bipush (v := nI 64) hx hb dMd_written_67 (by decide) ?_
        refine lv_irem hx hb dMd_written_69 (by decide) ?_
        refine lv_ri (y := nI ((j9 + 1) % 64)) (pk_rem (by omega) (by decide) (by decide)) ?_
        refine lv_iadd hx hb dMd_written_70 ?_
        refine lv_ri (y := nI ((64 * k) + ((j9 + 1) % 64))) (nI_add _ _) ?_
        refine vq_iald (k := ((64 * k) + ((j9 + 1) % 64))) (f := ma 7) hx hb hK hP 8 0 rfl rfl rfl (by omega) (by decide) dMd_written_71 ?_
        refine lv_iload_n hx hb dMd_written_72 rfl (lv_at hl 3 rfl) ?_
        refine lv_ishr hx hb dMd_written_73 ?_
        refine lv_iconst (v := 1) hx hb dMd_written_74 (by decide) ?_
        refine lv_iand hx hb dMd_written_75 ?_
        refine lv_iconst (v := 1) hx hb dMd_written_76 (by decide) ?_
        refine lv_icmp_ne (tgt := 82) hx hb dMd_written_77 (by decide) (fun c_9 => ?_) (fun c_9 => ?_)
        · skip
          refine lv_iinc (v := nI j9) (lv' := [(3, .int (nI j9)), (0, .ref y), (1, .int (nI k)), (2, .int (nI z))]) hx hb dMd_written_82 hl (k := 0) rfl (pk_m1 j9) (by decide) rfl (fun ls hl => ?_)
          refine lv_goto (tgt := 44) hx hb dMd_written_85 (by decide) ?_
          have hE9 : m_wr (ma 7) (64 * k) (ma 1 k) (nI z) n = m_wr (ma 7) (64 * k) (ma 1 k) (nI z) j9 := by rw [hE]; simp only [m_wr, if_neg c_5, if_neg c_7, if_neg c_9]
          exact ih (j9, ls) ⟨by omega, hE9, lv_sub hl [0, 1, 2, 3] rfl⟩ (Nat.lt_succ_self j9)
        · skip
          refine lv_iload_n hx hb dMd_written_80 rfl (lv_at hl 0 rfl) ?_
          have hP9 : va_P (dC, dI) vwCl (wM y y1 y2 y3 y4 y5 y6 y7 y8 y9 y10 cI (va_up mi 0 0) ma) H := by exact hP
          have hD9 : va_D A (wM y y1 y2 y3 y4 y5 y6 y7 y8 y9 y10 cI (va_up mi 0 0) ma) := by exact hD
          exact W.iret (v := nI (j9 + 1)) hx hb hr (fun t ht hW => ⟨⟨nI (j9 + 1), (), rfl, by rw [hE]; simp only [m_wr, if_neg c_5, if_neg c_7, if_pos c_9], by rw [ht]; exact hP9, va_K.moved hW.alike hK, hD9⟩, hS.F ht⟩) hS.2.2 dMd_written_81
set_option maxHeartbeats 4000000 in
set_option maxRecDepth 100000 in
/-- written(k, z), no key -/
theorem k_M_writtenB (l : Launch) (dC : Nat → ClassId) (dI : Nat → Nat → Nat) (sz : Nat) (y y1 y2 y3 y4 y5 y6 y7 y8 y9 y10 : Nat) (cI : ClassId) (mi : Nat → Int32) (ma : Nat → Nat → Int32) (k : Nat) (z : Int32) (hk4 : k < 4) (hz : s_in z = 0) : Met l yMd_written wsMd_written ({ frames := 3, cells := 0, slots := 0, locals := 120 }) (va_Pc [.ref y, .int (nI k), .int z] (fun U => U.heap.size = sz ∧ va_P (dC, dI) vwCl (wM y y1 y2 y3 y4 y5 y6 y7 y8 y9 y10 cI mi ma) U.heap ∧ va_K (dC, dI) vwCl [(cI, .int)] U ∧ va_D (fun _ => True) (wM y y1 y2 y3 y4 y5 y6 y7 y8 y9 y10 cI mi ma))) (va_Qi (fun (r : Int32) (_ : Unit) => r = 0) (fun _ t => va_P (dC, dI) vwCl (wM y y1 y2 y3 y4 y5 y6 y7 y8 y9 y10 cI (va_up mi 0 2) ma) t.heap ∧ va_K (dC, dI) vwCl [(cI, .int)] t ∧ va_D (va_A (wM y y1 y2 y3 y4 y5 y6 y7 y8 y9 y10 cI mi ma) sz) (wM y y1 y2 y3 y4 y5 y6 y7 y8 y9 y10 cI (va_up mi 0 2) ma)) (va_A (wM y y1 y2 y3 y4 y5 y6 y7 y8 y9 y10 cI mi ma) sz)) 0 0 (va_A (wM y y1 y2 y3 y4 y5 y6 y7 y8 y9 y10 cI mi ma) sz) := by
  refine Met.ofW (cc := cMd_written) (maxL := 4) (ret := (some .int)) (by decide) rfl ?_
  intro p e s m args below meth c s₁ B hml hv
  obtain ⟨rfl, hsz, hP, hK, hD0⟩ := hv
  have hx := B.exec
  have hb := B.bytes
  have hr := B.returns
  have hts0 := atoms_spec (ws := wsMd_written) B.pre
  have hts := fun (w : Cond) (h : w ∈ lw_g) => hts0 w (List.mem_cons_of_mem _ h)
  have hown : s.vm.findClass RMd = some m.cls := findClass_of_methodNamed B.named
  have hlocks := B.notSynchronized
  subst hsz
  have hD := hD0.self (sz := s.heap.size)
  generalize hAe : va_A (wM y y1 y2 y3 y4 y5 y6 y7 y8 y9 y10 cI mi ma) s.heap.size = A at hD ⊢
  have hA : ∀ q : Nat, s.heap.size ≤ q → A q := fun q h => by rw [← hAe]; exact Or.inr h
  have hS : va_S A s.heap s.heap [] := va_S.rf
  have hP : va_P (dC, dI) vwCl (wM y y1 y2 y3 y4 y5 y6 y7 y8 y9 y10 cI mi ma) s.heap := hP
  have hl := lv_entry ([.ref y, .int (nI k), .int z]) (n := 4) (Nat.le_of_ble_eq_true rfl)
  rw [lg_entry_eq]
  generalize (lg_sl ([.ref y, .int (nI k), .int z]) ++ List.replicate (4 - (lg_sl ([.ref y, .int (nI k), .int z])).length) Slot.unset).toArray = ls at hl ⊢
  have hl : lv_has ls 4 [(0, .ref y), (1, .int (nI k)), (2, .int z)] := hl
  refine lv_aload_n hx hb dMd_written_0 rfl (lv_at hl 0 rfl) ?_
  refine lv_aload_n hx hb dMd_written_1 rfl (lv_at hl 0 rfl) ?_
  refine lv_iload_n hx hb dMd_written_2 rfl (lv_at hl 1 rfl) ?_
  have hPc := hP.sub (ws' := (wM y y1 y2 y3 y4 y5 y6 y7 y8 y9 y10 cI mi ma)) [0, 1, 2, 3, 4, 5, 6, 7, 8, 9, 10] rfl
  have hDc := hD.sub (ws' := (wM y y1 y2 y3 y4 y5 y6 y7 y8 y9 y10 cI mi ma)) [0, 1, 2, 3, 4, 5, 6, 7, 8, 9, 10] (by decide) rfl
  have hKc := hK.sub (tys' := [(cI, .int)]) [0] rfl
  have hFc := va_free (wc := (wM y y1 y2 y3 y4 y5 y6 y7 y8 y9 y10 cI mi ma)) hD hS hA [0, 1, 2, 3, 4, 5, 6, 7, 8, 9, 10] rfl
  refine va_calli (va_runV (As := [.int (nI k)]) (rest := [.ref y]) ⟨hx, hb, hml, hown, hts⟩ (k_M_lacks0 l dC dI s.heap.size y y1 y2 y3 y4 y5 y6 y7 y8 y9 y10 cI mi ma k hk4) (cwV 1 hts (gd_V in_91 in_93 in_94 in_74 in_92) rfl rfl rfl (by decide +kernel) ⟨Nat.le_of_ble_eq_true rfl, Nat.le_of_ble_eq_true rfl⟩) ⟨fun a U g mk q => by obtain ⟨q0, q1, qP, qK, qD⟩ := q; exact ⟨q0, q1, qP, va_K.moved (u := U) (U := U.calling g mk a) (Vm.Alike.refl U.vm) qK, qD⟩, va_recv hKc hPc (ci := 3) (q0 := 0) rfl rfl, fun U hU hW => ⟨rfl, by rw [hU], by rw [hU]; exact hPc, va_K.moved hW.alike hKc, hDc.weaken (fun _ _ _ _ => trivial)⟩⟩ rfl rfl hl.1 rfl (lv_room (Nat.le_of_ble_eq_true rfl)) dMd_written_3 ⟨Nat.le_of_ble_eq_true rfl, Nat.le_of_ble_eq_true rfl⟩) hS (fun q _ h => hFc q h) hFc (fun r_1 u t H1 locs ht hvm hw hB hz1 hk1 hS => ?_)
  obtain ⟨hP1, hK1, hD1⟩ := hB
  rw [ht] at hP1
  obtain ⟨hP, hD⟩ := va_join (wr := []) (w1 := (wM y y1 y2 y3 y4 y5 y6 y7 y8 y9 y10 cI (va_up mi 0 0) ma)) hP hD [0, 1, 2, 3, 4, 5, 6, 7, 8, 9, 10] [] rfl rfl (by decide) (by decide) hk1 hFc hP1 hD1
  generalize H1 = H at hP hS ⊢
  have hP : va_P (dC, dI) vwCl (wM y y1 y2 y3 y4 y5 y6 y7 y8 y9 y10 cI (va_up mi 0 0) ma) H := hP
  have hD : va_D A (wM y y1 y2 y3 y4 y5 y6 y7 y8 y9 y10 cI (va_up mi 0 0) ma) := hD
  have hw : r_1 = 0 := hw
  subst hw
  refine lv_if_eq (tgt := 13) hx hb dMd_written_6 (by decide) (fun _ => ?_) (fun c_2 => absurd c_2 (by decide))
  refine lv_iload_n hx hb dMd_written_13 rfl (lv_at hl 2 rfl) ?_
  refine vp_callSi (W.runS (As := [.int z]) (rest := [.ref y]) ⟨hx, hb, hml, hown, hts⟩ (k_M_is16 l z) (va_cwS 1 hts (gd_S in_72 in_75 in_74 in_73) rfl rfl rfl (by decide +kernel) ⟨Nat.le_of_ble_eq_true rfl, Nat.le_of_ble_eq_true rfl⟩) ⟨fun a U g mk q => q, fun U hU hW => ⟨rfl, trivial⟩⟩ rfl rfl hl.1 rfl (lv_room (Nat.le_of_ble_eq_true rfl)) dMd_written_14 ⟨Nat.le_of_ble_eq_true rfl, Nat.le_of_ble_eq_true rfl⟩) (fun r_3 er_4 => ?_)
  subst er_4
  refine lv_if_eq (tgt := 24) hx hb dMd_written_17 (by decide) (fun c_5 => ?_) (fun c_5 => ?_)
  · skip
    refine lv_iconst (v := 2) hx hb dMd_written_24 (by decide) ?_
    refine va_put (D := (dC, dI)) (ci := 3) (v := .int 2) (ty := .int) (C := RMd) (T := TMd) (N := 17) hx hb hts inMd tyMd tyMd_ok nmMd hown hK hP hD hS 0 rfl rfl 0 (by decide) (hts _ in_71) (fun _ h9 => h9) rfl (by decide +kernel) rfl rfl (Nat.le_of_ble_eq_true rfl) dMd_written_25 (fun H locs hP hD hS => ?_)
    have hP : va_P (dC, dI) vwCl (wM y y1 y2 y3 y4 y5 y6 y7 y8 y9 y10 cI (va_up mi 0 2) ma) H := hP
    have hD : va_D A (wM y y1 y2 y3 y4 y5 y6 y7 y8 y9 y10 cI (va_up mi 0 2) ma) := hD
    refine lv_aload_n hx hb dMd_written_28 rfl (lv_at hl 0 rfl) ?_
    refine va_get (D := (dC, dI)) (ci := 3) (v := .int 2) (C := RMd) (T := TMd) (N := 17) hx hb hts inMd hown hK hP 0 rfl rfl 0 (by decide) (hts _ in_71) (fun _ h9 => h9) rfl dMd_written_29 ?_
    refine lv_if_le (tgt := 37) hx hb dMd_written_32 (by decide) (fun c_6 => absurd c_6 (by decide)) (fun _ => ?_)
    refine lv_iconst (v := 0) hx hb dMd_written_35 (by decide) ?_
    have hP9 : va_P (dC, dI) vwCl (wM y y1 y2 y3 y4 y5 y6 y7 y8 y9 y10 cI (va_up mi 0 2) ma) H := by exact hP
    have hD9 : va_D A (wM y y1 y2 y3 y4 y5 y6 y7 y8 y9 y10 cI (va_up mi 0 2) ma) := by exact hD
    exact W.iret (v := 0) hx hb hr (fun t ht hW => ⟨⟨0, (), rfl, rfl, by rw [ht]; exact hP9, va_K.moved hW.alike hK, hD9⟩, hS.F ht⟩) hS.2.2 dMd_written_36
  · skip
    exact absurd hz c_5
set_option maxHeartbeats 4000000 in
set_option maxRecDepth 100000 in
/-- written(x, z), no fold -/
theorem k_M_writtenN (l : Launch) (dC : Nat → ClassId) (dI : Nat → Nat → Nat) (sz : Nat) (y y1 y2 y3 y4 y5 y6 y7 y8 y9 y10 : Nat) (cI : ClassId) (mi : Nat → Int32) (ma : Nat → Nat → Int32) (x z : Int32) (hfx : s_lk x = 1) : Met l yMd_written wsMd_written ({ frames := 3, cells := 0, slots := 0, locals := 120 }) (va_Pc [.ref y, .int x, .int z] (fun U => U.heap.size = sz ∧ va_P (dC, dI) vwCl (wM y y1 y2 y3 y4 y5 y6 y7 y8 y9 y10 cI mi ma) U.heap ∧ va_K (dC, dI) vwCl [(cI, .int)] U ∧ va_D (fun _ => True) (wM y y1 y2 y3 y4 y5 y6 y7 y8 y9 y10 cI mi ma))) (va_Qi (fun (r : Int32) (_ : Unit) => r = 0) (fun _ t => va_P (dC, dI) vwCl (wM y y1 y2 y3 y4 y5 y6 y7 y8 y9 y10 cI (va_up mi 0 1) ma) t.heap ∧ va_K (dC, dI) vwCl [(cI, .int)] t ∧ va_D (va_A (wM y y1 y2 y3 y4 y5 y6 y7 y8 y9 y10 cI mi ma) sz) (wM y y1 y2 y3 y4 y5 y6 y7 y8 y9 y10 cI (va_up mi 0 1) ma)) (va_A (wM y y1 y2 y3 y4 y5 y6 y7 y8 y9 y10 cI mi ma) sz)) 0 0 (va_A (wM y y1 y2 y3 y4 y5 y6 y7 y8 y9 y10 cI mi ma) sz) := by
  refine Met.ofW (cc := cMd_written) (maxL := 4) (ret := (some .int)) (by decide) rfl ?_
  intro p e s m args below meth c s₁ B hml hv
  obtain ⟨rfl, hsz, hP, hK, hD0⟩ := hv
  have hx := B.exec
  have hb := B.bytes
  have hr := B.returns
  have hts0 := atoms_spec (ws := wsMd_written) B.pre
  have hts := fun (w : Cond) (h : w ∈ lw_g) => hts0 w (List.mem_cons_of_mem _ h)
  have hown : s.vm.findClass RMd = some m.cls := findClass_of_methodNamed B.named
  have hlocks := B.notSynchronized
  subst hsz
  have hD := hD0.self (sz := s.heap.size)
  generalize hAe : va_A (wM y y1 y2 y3 y4 y5 y6 y7 y8 y9 y10 cI mi ma) s.heap.size = A at hD ⊢
  have hA : ∀ q : Nat, s.heap.size ≤ q → A q := fun q h => by rw [← hAe]; exact Or.inr h
  have hS : va_S A s.heap s.heap [] := va_S.rf
  have hP : va_P (dC, dI) vwCl (wM y y1 y2 y3 y4 y5 y6 y7 y8 y9 y10 cI mi ma) s.heap := hP
  have hl := lv_entry ([.ref y, .int x, .int z]) (n := 4) (Nat.le_of_ble_eq_true rfl)
  rw [lg_entry_eq]
  generalize (lg_sl ([.ref y, .int x, .int z]) ++ List.replicate (4 - (lg_sl ([.ref y, .int x, .int z])).length) Slot.unset).toArray = ls at hl ⊢
  have hl : lv_has ls 4 [(0, .ref y), (1, .int x), (2, .int z)] := hl
  refine lv_aload_n hx hb dMd_written_0 rfl (lv_at hl 0 rfl) ?_
  refine lv_aload_n hx hb dMd_written_1 rfl (lv_at hl 0 rfl) ?_
  refine lv_iload_n hx hb dMd_written_2 rfl (lv_at hl 1 rfl) ?_
  have hPc := hP.sub (ws' := (wM y y1 y2 y3 y4 y5 y6 y7 y8 y9 y10 cI mi ma)) [0, 1, 2, 3, 4, 5, 6, 7, 8, 9, 10] rfl
  have hDc := hD.sub (ws' := (wM y y1 y2 y3 y4 y5 y6 y7 y8 y9 y10 cI mi ma)) [0, 1, 2, 3, 4, 5, 6, 7, 8, 9, 10] (by decide) rfl
  have hKc := hK.sub (tys' := [(cI, .int)]) [0] rfl
  have hFc := va_free (wc := (wM y y1 y2 y3 y4 y5 y6 y7 y8 y9 y10 cI mi ma)) hD hS hA [0, 1, 2, 3, 4, 5, 6, 7, 8, 9, 10] rfl
  refine va_calli (va_runV (As := [.int x]) (rest := [.ref y]) ⟨hx, hb, hml, hown, hts⟩ (k_M_lacks1 l dC dI s.heap.size y y1 y2 y3 y4 y5 y6 y7 y8 y9 y10 cI mi ma x hfx) (cwV 1 hts (gd_V in_91 in_93 in_94 in_74 in_92) rfl rfl rfl (by decide +kernel) ⟨Nat.le_of_ble_eq_true rfl, Nat.le_of_ble_eq_true rfl⟩) ⟨fun a U g mk q => by obtain ⟨q0, q1, qP, qK, qD⟩ := q; exact ⟨q0, q1, qP, va_K.moved (u := U) (U := U.calling g mk a) (Vm.Alike.refl U.vm) qK, qD⟩, va_recv hKc hPc (ci := 3) (q0 := 0) rfl rfl, fun U hU hW => ⟨rfl, by rw [hU], by rw [hU]; exact hPc, va_K.moved hW.alike hKc, hDc.weaken (fun _ _ _ _ => trivial)⟩⟩ rfl rfl hl.1 rfl (lv_room (Nat.le_of_ble_eq_true rfl)) dMd_written_3 ⟨Nat.le_of_ble_eq_true rfl, Nat.le_of_ble_eq_true rfl⟩) hS (fun q _ h => hFc q h) hFc (fun r_1 u t H1 locs ht hvm hw hB hz1 hk1 hS => ?_)
  obtain ⟨hP1, hK1, hD1⟩ := hB
  rw [ht] at hP1
  obtain ⟨hP, hD⟩ := va_join (wr := []) (w1 := (wM y y1 y2 y3 y4 y5 y6 y7 y8 y9 y10 cI (va_up mi 0 1) ma)) hP hD [0, 1, 2, 3, 4, 5, 6, 7, 8, 9, 10] [] rfl rfl (by decide) (by decide) hk1 hFc hP1 hD1
  generalize H1 = H at hP hS ⊢
  have hP : va_P (dC, dI) vwCl (wM y y1 y2 y3 y4 y5 y6 y7 y8 y9 y10 cI (va_up mi 0 1) ma) H := hP
  have hD : va_D A (wM y y1 y2 y3 y4 y5 y6 y7 y8 y9 y10 cI (va_up mi 0 1) ma) := hD
  have hw : r_1 = 1 := hw
  subst hw
  refine lv_if_eq (tgt := 13) hx hb dMd_written_6 (by decide) (fun c_2 => absurd c_2 (by decide)) (fun _ => ?_)
  refine lv_iconst (v := 1) hx hb dMd_written_9 (by decide) ?_
  refine lv_goto (tgt := 25) hx hb dMd_written_10 (by decide) ?_
  refine va_put (D := (dC, dI)) (ci := 3) (v := .int 1) (ty := .int) (C := RMd) (T := TMd) (N := 17) hx hb hts inMd tyMd tyMd_ok nmMd hown hK hP hD hS 0 rfl rfl 0 (by decide) (hts _ in_71) (fun _ h9 => h9) rfl (by decide +kernel) rfl rfl (Nat.le_of_ble_eq_true rfl) dMd_written_25 (fun H locs hP hD hS => ?_)
  have hP : va_P (dC, dI) vwCl (wM y y1 y2 y3 y4 y5 y6 y7 y8 y9 y10 cI (va_up mi 0 1) ma) H := hP
  have hD : va_D A (wM y y1 y2 y3 y4 y5 y6 y7 y8 y9 y10 cI (va_up mi 0 1) ma) := hD
  refine lv_aload_n hx hb dMd_written_28 rfl (lv_at hl 0 rfl) ?_
  refine va_get (D := (dC, dI)) (ci := 3) (v := .int 1) (C := RMd) (T := TMd) (N := 17) hx hb hts inMd hown hK hP 0 rfl rfl 0 (by decide) (hts _ in_71) (fun _ h9 => h9) rfl dMd_written_29 ?_
  refine lv_if_le (tgt := 37) hx hb dMd_written_32 (by decide) (fun c_3 => absurd c_3 (by decide)) (fun _ => ?_)
  refine lv_iconst (v := 0) hx hb dMd_written_35 (by decide) ?_
  have hP9 : va_P (dC, dI) vwCl (wM y y1 y2 y3 y4 y5 y6 y7 y8 y9 y10 cI (va_up mi 0 1) ma) H := by exact hP
  have hD9 : va_D A (wM y y1 y2 y3 y4 y5 y6 y7 y8 y9 y10 cI (va_up mi 0 1) ma) := by exact hD
  exact W.iret (v := 0) hx hb hr (fun t ht hW => ⟨⟨0, (), rfl, rfl, by rw [ht]; exact hP9, va_K.moved hW.alike hK, hD9⟩, hS.F ht⟩) hS.2.2 dMd_written_36
set_option maxHeartbeats 4000000 in
set_option maxRecDepth 100000 in
/-- look(k, x) -/
theorem k_M_look (l : Launch) (dC : Nat → ClassId) (dI : Nat → Nat → Nat) (sz : Nat) (y y1 y2 y3 y4 y5 y6 y7 y8 y9 y10 : Nat) (cI : ClassId) (mi : Nat → Int32) (ma : Nat → Nat → Int32) (k n : Nat) (hk4 : k < 4) (hn : n < 2 ^ 30) (hix : ma 0 k = nI n) (x : Int32) (j0 : Nat) (hj0 : (j0 < 8 ∧ x = nI j0) ∨ (8 = j0 ∧ (x.toInt < 0 ∨ 7 < x.toInt))) : Met l yMd_look wsMd_look ({ frames := 3, cells := 0, slots := 0, locals := 120 }) (va_Pc [.ref y, .int (nI k), .int x] (fun U => U.heap.size = sz ∧ va_P (dC, dI) vwCl (wM y y1 y2 y3 y4 y5 y6 y7 y8 y9 y10 cI mi ma) U.heap ∧ va_K (dC, dI) vwCl [(cI, .int)] U ∧ va_D (fun _ => True) (wM y y1 y2 y3 y4 y5 y6 y7 y8 y9 y10 cI mi ma))) (va_Qi (fun (r : Int32) (_ : Unit) => r = m_lk mi ma k n j0) (fun _ t => va_P (dC, dI) vwCl (wM y y1 y2 y3 y4 y5 y6 y7 y8 y9 y10 cI (va_up mi 0 0) ma) t.heap ∧ va_K (dC, dI) vwCl [(cI, .int)] t ∧ va_D (va_A (wM y y1 y2 y3 y4 y5 y6 y7 y8 y9 y10 cI mi ma) sz) (wM y y1 y2 y3 y4 y5 y6 y7 y8 y9 y10 cI (va_up mi 0 0) ma)) (va_A (wM y y1 y2 y3 y4 y5 y6 y7 y8 y9 y10 cI mi ma) sz)) 0 0 (va_A (wM y y1 y2 y3 y4 y5 y6 y7 y8 y9 y10 cI mi ma) sz) := by
  refine Met.ofW (cc := cMd_look) (maxL := 5) (ret := (some .int)) (by decide) rfl ?_
  intro p e s m args below meth c s₁ B hml hv
  obtain ⟨rfl, hsz, hP, hK, hD0⟩ := hv
  have hx := B.exec
  have hb := B.bytes
  have hr := B.returns
  have hts0 := atoms_spec (ws := wsMd_look) B.pre
  have hts := fun (w : Cond) (h : w ∈ lw_g) => hts0 w (List.mem_cons_of_mem _ h)
  have hown : s.vm.findClass RMd = some m.cls := findClass_of_methodNamed B.named
  have hlocks := B.notSynchronized
  subst hsz
  have hD := hD0.self (sz := s.heap.size)
  generalize hAe : va_A (wM y y1 y2 y3 y4 y5 y6 y7 y8 y9 y10 cI mi ma) s.heap.size = A at hD ⊢
  have hA : ∀ q : Nat, s.heap.size ≤ q → A q := fun q h => by rw [← hAe]; exact Or.inr h
  have hS : va_S A s.heap s.heap [] := va_S.rf
  have hP : va_P (dC, dI) vwCl (wM y y1 y2 y3 y4 y5 y6 y7 y8 y9 y10 cI mi ma) s.heap := hP
  have hl := lv_entry ([.ref y, .int (nI k), .int x]) (n := 5) (Nat.le_of_ble_eq_true rfl)
  rw [lg_entry_eq]
  generalize (lg_sl ([.ref y, .int (nI k), .int x]) ++ List.replicate (5 - (lg_sl ([.ref y, .int (nI k), .int x])).length) Slot.unset).toArray = ls at hl ⊢
  have hl : lv_has ls 5 [(0, .ref y), (1, .int (nI k)), (2, .int x)] := hl
  refine lv_aload_n hx hb dMd_look_0 rfl (lv_at hl 0 rfl) ?_
  refine lv_iload_n hx hb dMd_look_1 rfl (lv_at hl 1 rfl) ?_
  have hPc := hP.sub (ws' := (wM y y1 y2 y3 y4 y5 y6 y7 y8 y9 y10 cI mi ma)) [0, 1, 2, 3, 4, 5, 6, 7, 8, 9, 10] rfl
  have hDc := hD.sub (ws' := (wM y y1 y2 y3 y4 y5 y6 y7 y8 y9 y10 cI mi ma)) [0, 1, 2, 3, 4, 5, 6, 7, 8, 9, 10] (by decide) rfl
  have hKc := hK.sub (tys' := [(cI, .int)]) [0] rfl
  have hFc := va_free (wc := (wM y y1 y2 y3 y4 y5 y6 y7 y8 y9 y10 cI mi ma)) hD hS hA [0, 1, 2, 3, 4, 5, 6, 7, 8, 9, 10] rfl
  refine va_calli (va_runV (As := [.int (nI k)]) (rest := []) ⟨hx, hb, hml, hown, hts⟩ (k_M_lacks0 l dC dI s.heap.size y y1 y2 y3 y4 y5 y6 y7 y8 y9 y10 cI mi ma k hk4) (cwV 1 hts (gd_V in_91 in_93 in_94 in_74 in_92) rfl rfl rfl (by decide +kernel) ⟨Nat.le_of_ble_eq_true rfl, Nat.le_of_ble_eq_true rfl⟩) ⟨fun a U g mk q => by obtain ⟨q0, q1, qP, qK, qD⟩ := q; exact ⟨q0, q1, qP, va_K.moved (u := U) (U := U.calling g mk a) (Vm.Alike.refl U.vm) qK, qD⟩, va_recv hKc hPc (ci := 3) (q0 := 0) rfl rfl, fun U hU hW => ⟨rfl, by rw [hU], by rw [hU]; exact hPc, va_K.moved hW.alike hKc, hDc.weaken (fun _ _ _ _ => trivial)⟩⟩ rfl rfl hl.1 rfl (lv_room (Nat.le_of_ble_eq_true rfl)) dMd_look_2 ⟨Nat.le_of_ble_eq_true rfl, Nat.le_of_ble_eq_true rfl⟩) hS (fun q _ h => hFc q h) hFc (fun r_1 u t H1 locs ht hvm hw hB hz1 hk1 hS => ?_)
  obtain ⟨hP1, hK1, hD1⟩ := hB
  rw [ht] at hP1
  obtain ⟨hP, hD⟩ := va_join (wr := []) (w1 := (wM y y1 y2 y3 y4 y5 y6 y7 y8 y9 y10 cI (va_up mi 0 0) ma)) hP hD [0, 1, 2, 3, 4, 5, 6, 7, 8, 9, 10] [] rfl rfl (by decide) (by decide) hk1 hFc hP1 hD1
  generalize H1 = H at hP hS ⊢
  have hP : va_P (dC, dI) vwCl (wM y y1 y2 y3 y4 y5 y6 y7 y8 y9 y10 cI (va_up mi 0 0) ma) H := hP
  have hD : va_D A (wM y y1 y2 y3 y4 y5 y6 y7 y8 y9 y10 cI (va_up mi 0 0) ma) := hD
  have hw : r_1 = 0 := hw
  subst hw
  refine lv_if_eq (tgt := 10) hx hb dMd_look_5 (by decide) (fun _ => ?_) (fun c_2 => absurd c_2 (by decide))
  refine lv_iconst (v := 0) hx hb dMd_look_10 (by decide) ?_
  refine lv_istore_n (lv' := [(3, .int 0), (0, .ref y), (1, .int (nI k)), (2, .int x)]) hx hb dMd_look_11 rfl hl (by decide) rfl (fun ls hl => ?_)
  refine lv_iconst (v := 0) hx hb dMd_look_12 (by decide) ?_
  refine lv_istore (lv' := [(4, .int 0), (3, .int 0), (0, .ref y), (1, .int (nI k)), (2, .int x)]) hx hb dMd_look_13 hl (by decide) rfl (fun ls hl => ?_)
  refine wl_ro (σ := Nat × Array Slot) (fun z9 => F0 m 15 z9.2 []) (fun z9 => z9.1 ≤ 16 ∧ lv_has z9.2 5 [(4, .int (nI z9.1)), (3, .int (m_sum (ma 8) (16 * (64 * k + n % 64)) z9.1)), (0, .ref y), (1, .int (nI k)), (2, .int x)]) (fun z9 => 16 - z9.1) ?_ (0, ls) ⟨by omega, lv_sub hl [0, 1, 2, 3, 4] rfl⟩
  rintro ⟨j, ls⟩ ⟨hj, hl⟩ ih
  have hj : j ≤ 16 := hj
  have hl : lv_has ls 5 [(4, .int (nI j)), (3, .int (m_sum (ma 8) (16 * (64 * k + n % 64)) j)), (0, .ref y), (1, .int (nI k)), (2, .int x)] := hl
  show W p l e _ s m _ below meth c _ _ _ _ _ (F0 m 15 ls [])
  refine lv_iload hx hb dMd_look_15 (lv_at hl 0 rfl) ?_
  refine lv_bipush (v := nI 16) hx hb dMd_look_17 (by decide) ?_
  refine lv_icmp_ge (tgt := 56) hx hb dMd_look_19 (by decide) (fun c_3 => ?_) (fun c_3 => ?_)
  · skip
    have hj9 : j = 16 := lp_x (by decide) hj c_3
    subst hj9
    refine lv_iload_n hx hb dMd_look_56 rfl (lv_at hl 4 rfl) ?_
    rcases hj0 with ⟨hj9, ex9⟩ | ⟨ej9, hout⟩
    · skip
      rcases (show j0 = 0 ∨ j0 = 1 ∨ j0 = 2 ∨ j0 = 3 ∨ j0 = 4 ∨ j0 = 5 ∨ j0 = 6 ∨ j0 = 7 by omega) with ej9 | ej9 | ej9 | ej9 | ej9 | ej9 | ej9 | ej9
      · skip
        subst ej9
        subst ex9
        refine lv_tableIn (tgt := 104) hx hb dMd_look_57 (by decide) (by decide) rfl (by decide) ?_
        refine lv_aload_n hx hb dMd_look_104 rfl (lv_at hl 2 rfl) ?_
        refine va_get (D := (dC, dI)) (ci := 3) (v := .ref y1) (C := RMd) (T := TMd) (N := 17) hx hb hts inMd hown hK hP 0 rfl rfl 2 (by decide) (hts _ in_82) (fun _ h9 => h9) rfl dMd_look_105 ?_
        refine lv_iload_n hx hb dMd_look_108 rfl (lv_at hl 3 rfl) ?_
        refine vq_iald (k := k) (f := ma 0) hx hb hK hP 1 0 rfl rfl rfl (by omega) (by decide) dMd_look_109 ?_
        have hP9 : va_P (dC, dI) vwCl (wM y y1 y2 y3 y4 y5 y6 y7 y8 y9 y10 cI (va_up mi 0 0) ma) H := by exact hP
        have hD9 : va_D A (wM y y1 y2 y3 y4 y5 y6 y7 y8 y9 y10 cI (va_up mi 0 0) ma) := by exact hD
        exact W.iret (v := (ma 0) k) hx hb hr (fun t ht hW => ⟨⟨(ma 0) k, (), rfl, rfl, by rw [ht]; exact hP9, va_K.moved hW.alike hK, hD9⟩, hS.F ht⟩) hS.2.2 dMd_look_110
      · skip
        subst ej9
        subst ex9
        refine lv_tableIn (tgt := 111) hx hb dMd_look_57 (by decide) (by decide) rfl (by decide) ?_
        refine lv_aload_n hx hb dMd_look_111 rfl (lv_at hl 2 rfl) ?_
        refine va_get (D := (dC, dI)) (ci := 3) (v := .ref y2) (C := RMd) (T := TMd) (N := 17) hx hb hts inMd hown hK hP 0 rfl rfl 3 (by decide) (hts _ in_102) (fun _ h9 => h9) rfl dMd_look_112 ?_
        refine lv_iload_n hx hb dMd_look_115 rfl (lv_at hl 3 rfl) ?_
        refine vq_iald (k := k) (f := ma 1) hx hb hK hP 2 0 rfl rfl rfl (by omega) (by decide) dMd_look_116 ?_
        have hP9 : va_P (dC, dI) vwCl (wM y y1 y2 y3 y4 y5 y6 y7 y8 y9 y10 cI (va_up mi 0 0) ma) H := by exact hP
        have hD9 : va_D A (wM y y1 y2 y3 y4 y5 y6 y7 y8 y9 y10 cI (va_up mi 0 0) ma) := by exact hD
        exact W.iret (v := (ma 1) k) hx hb hr (fun t ht hW => ⟨⟨(ma 1) k, (), rfl, rfl, by rw [ht]; exact hP9, va_K.moved hW.alike hK, hD9⟩, hS.F ht⟩) hS.2.2 dMd_look_117
      · skip
        subst ej9
        subst ex9
        refine lv_tableIn (tgt := 118) hx hb dMd_look_57 (by decide) (by decide) rfl (by decide) ?_
        refine lv_aload_n hx hb dMd_look_118 rfl (lv_at hl 2 rfl) ?_
        refine va_get (D := (dC, dI)) (ci := 3) (v := .ref y3) (C := RMd) (T := TMd) (N := 17) hx hb hts inMd hown hK hP 0 rfl rfl 4 (by decide) (hts _ in_99) (fun _ h9 => h9) rfl dMd_look_119 ?_
        refine lv_iload_n hx hb dMd_look_122 rfl (lv_at hl 3 rfl) ?_
        refine vq_iald (k := k) (f := ma 2) hx hb hK hP 3 0 rfl rfl rfl (by omega) (by decide) dMd_look_123 ?_
        have hP9 : va_P (dC, dI) vwCl (wM y y1 y2 y3 y4 y5 y6 y7 y8 y9 y10 cI (va_up mi 0 0) ma) H := by exact hP
        have hD9 : va_D A (wM y y1 y2 y3 y4 y5 y6 y7 y8 y9 y10 cI (va_up mi 0 0) ma) := by exact hD
        exact W.iret (v := (ma 2) k) hx hb hr (fun t ht hW => ⟨⟨(ma 2) k, (), rfl, rfl, by rw [ht]; exact hP9, va_K.moved hW.alike hK, hD9⟩, hS.F ht⟩) hS.2.2 dMd_look_124
      · skip
        subst ej9
        subst ex9
        refine lv_tableIn (tgt := 125) hx hb dMd_look_57 (by decide) (by decide) rfl (by decide) ?_
        refine lv_aload_n hx hb dMd_look_125 rfl (lv_at hl 2 rfl) ?_
        refine va_get (D := (dC, dI)) (ci := 3) (v := .ref y4) (C := RMd) (T := TMd) (N := 17) hx hb hts inMd hown hK hP 0 rfl rfl 5 (by decide) (hts _ in_100) (fun _ h9 => h9) rfl dMd_look_126 ?_
        refine lv_iload_n hx hb dMd_look_129 rfl (lv_at hl 3 rfl) ?_
        refine vq_iald (k := k) (f := ma 3) hx hb hK hP 4 0 rfl rfl rfl (by omega) (by decide) dMd_look_130 ?_
        have hP9 : va_P (dC, dI) vwCl (wM y y1 y2 y3 y4 y5 y6 y7 y8 y9 y10 cI (va_up mi 0 0) ma) H := by exact hP
        have hD9 : va_D A (wM y y1 y2 y3 y4 y5 y6 y7 y8 y9 y10 cI (va_up mi 0 0) ma) := by exact hD
        exact W.iret (v := (ma 3) k) hx hb hr (fun t ht hW => ⟨⟨(ma 3) k, (), rfl, rfl, by rw [ht]; exact hP9, va_K.moved hW.alike hK, hD9⟩, hS.F ht⟩) hS.2.2 dMd_look_131
      · skip
        subst ej9
        subst ex9
        refine lv_tableIn (tgt := 132) hx hb dMd_look_57 (by decide) (by decide) rfl (by decide) ?_
        refine lv_aload_n hx hb dMd_look_132 rfl (lv_at hl 2 rfl) ?_
        refine va_get (D := (dC, dI)) (ci := 3) (v := .ref y5) (C := RMd) (T := TMd) (N := 17) hx hb hts inMd hown hK hP 0 rfl rfl 6 (by decide) (hts _ in_101) (fun _ h9 => h9) rfl dMd_look_133 ?_
        refine lv_iload_n hx hb dMd_look_136 rfl (lv_at hl 3 rfl) ?_
        refine vq_iald (k := k) (f := ma 4) hx hb hK hP 5 0 rfl rfl rfl (by omega) (by decide) dMd_look_137 ?_
        have hP9 : va_P (dC, dI) vwCl (wM y y1 y2 y3 y4 y5 y6 y7 y8 y9 y10 cI (va_up mi 0 0) ma) H := by exact hP
        have hD9 : va_D A (wM y y1 y2 y3 y4 y5 y6 y7 y8 y9 y10 cI (va_up mi 0 0) ma) := by exact hD
        exact W.iret (v := (ma 4) k) hx hb hr (fun t ht hW => ⟨⟨(ma 4) k, (), rfl, rfl, by rw [ht]; exact hP9, va_K.moved hW.alike hK, hD9⟩, hS.F ht⟩) hS.2.2 dMd_look_138
      · skip
        subst ej9
        subst ex9
        refine lv_tableIn (tgt := 139) hx hb dMd_look_57 (by decide) (by decide) rfl (by decide) ?_
        refine lv_iload_n hx hb dMd_look_139 rfl (lv_at hl 1 rfl) ?_
        have hP9 : va_P (dC, dI) vwCl (wM y y1 y2 y3 y4 y5 y6 y7 y8 y9 y10 cI (va_up mi 0 0) ma) H := by exact hP
        have hD9 : va_D A (wM y y1 y2 y3 y4 y5 y6 y7 y8 y9 y10 cI (va_up mi 0 0) ma) := by exact hD
        exact W.iret (v := m_sum (ma 8) (16 * (64 * k + n % 64)) 16) hx hb hr (fun t ht hW => ⟨⟨m_sum (ma 8) (16 * (64 * k + n % 64)) 16, (), rfl, rfl, by rw [ht]; exact hP9, va_K.moved hW.alike hK, hD9⟩, hS.F ht⟩) hS.2.2 dMd_look_140
      · skip
        subst ej9
        subst ex9
        refine lv_tableIn (tgt := 141) hx hb dMd_look_57 (by decide) (by decide) rfl (by decide) ?_
        refine lv_aload_n hx hb dMd_look_141 rfl (lv_at hl 2 rfl) ?_
        refine va_get (D := (dC, dI)) (ci := 3) (v := .int (mi 5)) (C := RMd) (T := TMd) (N := 17) hx hb hts inMd hown hK hP 0 rfl rfl 14 (by decide) (hts _ in_79) (fun _ h9 => h9) rfl dMd_look_142 ?_
        have hP9 : va_P (dC, dI) vwCl (wM y y1 y2 y3 y4 y5 y6 y7 y8 y9 y10 cI (va_up mi 0 0) ma) H := by exact hP
        have hD9 : va_D A (wM y y1 y2 y3 y4 y5 y6 y7 y8 y9 y10 cI (va_up mi 0 0) ma) := by exact hD
        exact W.iret (v := mi 5) hx hb hr (fun t ht hW => ⟨⟨mi 5, (), rfl, rfl, by rw [ht]; exact hP9, va_K.moved hW.alike hK, hD9⟩, hS.F ht⟩) hS.2.2 dMd_look_145
      · skip
        subst ej9
        subst ex9
        refine lv_tableIn (tgt := 146) hx hb dMd_look_57 (by decide) (by decide) rfl (by decide) ?_
        refine lv_aload_n hx hb dMd_look_146 rfl (lv_at hl 2 rfl) ?_
        refine va_get (D := (dC, dI)) (ci := 3) (v := .int (mi 6)) (C := RMd) (T := TMd) (N := 17) hx hb hts inMd hown hK hP 0 rfl rfl 15 (by decide) (hts _ in_80) (fun _ h9 => h9) rfl dMd_look_147 ?_
        have hP9 : va_P (dC, dI) vwCl (wM y y1 y2 y3 y4 y5 y6 y7 y8 y9 y10 cI (va_up mi 0 0) ma) H := by exact hP
        have hD9 : va_D A (wM y y1 y2 y3 y4 y5 y6 y7 y8 y9 y10 cI (va_up mi 0 0) ma) := by exact hD
        exact W.iret (v := mi 6) hx hb hr (fun t ht hW => ⟨⟨mi 6, (), rfl, rfl, by rw [ht]; exact hP9, va_K.moved hW.alike hK, hD9⟩, hS.F ht⟩) hS.2.2 dMd_look_150
    · skip
      subst ej9
      refine lv_tableOut (tgt := 151) hx hb dMd_look_57 hout (by decide) ?_
      refine lv_iconst (v := (-1)) hx hb dMd_look_151 (by decide) ?_
      have hP9 : va_P (dC, dI) vwCl (wM y y1 y2 y3 y4 y5 y6 y7 y8 y9 y10 cI (va_up mi 0 0) ma) H := by exact hP
      have hD9 : va_D A (wM y y1 y2 y3 y4 y5 y6 y7 y8 y9 y10 cI (va_up mi 0 0) ma) := by exact hD
      exact W.iret (v := (-1)) hx hb hr (fun t ht hW => ⟨⟨(-1), (), rfl, rfl, by rw [ht]; exact hP9, va_K.moved hW.alike hK, hD9⟩, hS.F ht⟩) hS.2.2 dMd_look_152
  · skip
    have hj : j < 16 := lp_c (by decide) hj c_3
    refine lv_iload_n hx hb dMd_look_22 rfl (lv_at hl 1 rfl) ?_
    refine lv_aload_n hx hb dMd_look_23 rfl (lv_at hl 2 rfl) ?_
    refine va_get (D := (dC, dI)) (ci := 3) (v := .ref y9) (C := RMd) (T := TMd) (N := 17) hx hb hts inMd hown hK hP 0 rfl rfl 10 (by decide) (hts _ in_103) (fun _ h9 => h9) rfl dMd_look_24 ?_
    refine lv_bipush (v := nI 16) hx hb dMd_look_27 (by decide) ?_
    refine lv_bipush (v := nI 64) hx hb dMd_look_29 (by decide) ?_
    refine lv_iload_n hx hb dMd_look_31 rfl (lv_at hl 3 rfl) ?_
    refine lv_imul hx hb dMd_look_32 ?_
    refine lv_ri (y := nI (64 * k)) (pk_mul _ _) ?_
    refine lv_aload_n hx hb dMd_look_33 rfl (lv_at hl 2 rfl) ?_
    refine va_get (D := (dC, dI)) (ci := 3) (v := .ref y1) (C := RMd) (T := TMd) (N := 17) hx hb hts inMd hown hK hP 0 rfl rfl 2 (by decide) (hts _ in_82) (fun _ h9 => h9) rfl dMd_look_34 ?_
    refine lv_iload_n hx hb dMd_look_37 rfl (lv_at hl 3 rfl) ?_
    refine vq_iald (k := k) (f := ma 0) hx hb hK hP 1 0 rfl rfl rfl (by omega) (by decide) dMd_look_38 ?_
    refine lv_ri (y := nI n) hix ?_
    refine lv_bipush (v := nI 64) hx hb dMd_look_39 (by decide) ?_
    refine lv_irem hx hb dMd_look_41 (by decide) ?_
    refine lv_ri (y := nI (n % 64)) (pk_rem (by omega) (by decide) (by decide)) ?_
    refine lv_iadd hx hb dMd_look_42 ?_
    refine lv_ri (y := nI ((64 * k) + (n % 64))) (nI_add _ _) ?_
    refine lv_imul hx hb dMd_look_43 ?_
    refine lv_ri (y := nI (16 * ((64 * k) + (n % 64)))) (pk_mul _ _) ?_
    refine lv_iload hx hb dMd_look_44 (lv_at hl 0 rfl) ?_
    refine lv_iadd hx hb dMd_look_46 ?_
    refine lv_ri (y := nI ((16 * ((64 * k) + (n % 64))) + j)) (nI_add _ _) ?_
    refine vq_iald (k := ((16 * ((64 * k) + (n % 64))) + j)) (f := ma 8) hx hb hK hP 9 0 rfl rfl rfl (by omega) (by decide) dMd_look_47 ?_
    refine lv_iadd hx hb dMd_look_48 ?_
    refine lv_istore_n (lv' := [(3, .int ((m_sum (ma 8) (16 * (64 * k + n % 64)) j) + ((ma 8) ((16 * ((64 * k) + (n % 64))) + j)))), (4, .int (nI j)), (0, .ref y), (1, .int (nI k)), (2, .int x)]) hx hb dMd_look_49 rfl hl (by decide) rfl (fun ls hl => ?_)
    refine lv_iinc (v := nI (j + 1)) (lv' := [(4, .int (nI (j + 1))), (3, .int ((m_sum (ma 8) (16 * (64 * k + n % 64)) j) + ((ma 8) ((16 * ((64 * k) + (n % 64))) + j)))), (0, .ref y), (1, .int (nI k)), (2, .int x)]) hx hb dMd_look_50 hl (k := 1) rfl (by first | exact nI_1 _ | (show _ + (1 : Int32) = _; exact nI_1 _)) (by decide) rfl (fun ls hl => ?_)
    refine lv_goto (tgt := 15) hx hb dMd_look_53 (by decide) ?_
    have hl9 : lv_has ls 5 [(4, .int (nI (j + 1))), (3, .int (m_sum (ma 8) (16 * (64 * k + n % 64)) (j + 1))), (0, .ref y), (1, .int (nI k)), (2, .int x)] := by first | exact lv_sub hl [0, 1, 2, 3, 4] rfl | (simp only [m_sum]; exact lv_sub hl [0, 1, 2, 3, 4] rfl)
    exact ih (j + 1, ls) ⟨hj, hl9⟩ (by show 16 - (j + 1) < 16 - j; omega)
set_option maxHeartbeats 4000000 in
set_option maxRecDepth 100000 in
/-- look(x, z), no fold -/
theorem k_M_lookN (l : Launch) (dC : Nat → ClassId) (dI : Nat → Nat → Nat) (sz : Nat) (y y1 y2 y3 y4 y5 y6 y7 y8 y9 y10 : Nat) (cI : ClassId) (mi : Nat → Int32) (ma : Nat → Nat → Int32) (x z : Int32) (hfx : s_lk x = 1) : Met l yMd_look wsMd_look ({ frames := 3, cells := 0, slots := 0, locals := 120 }) (va_Pc [.ref y, .int x, .int z] (fun U => U.heap.size = sz ∧ va_P (dC, dI) vwCl (wM y y1 y2 y3 y4 y5 y6 y7 y8 y9 y10 cI mi ma) U.heap ∧ va_K (dC, dI) vwCl [(cI, .int)] U ∧ va_D (fun _ => True) (wM y y1 y2 y3 y4 y5 y6 y7 y8 y9 y10 cI mi ma))) (va_Qi (fun (r : Int32) (_ : Unit) => r = 0) (fun _ t => va_P (dC, dI) vwCl (wM y y1 y2 y3 y4 y5 y6 y7 y8 y9 y10 cI (va_up mi 0 1) ma) t.heap ∧ va_K (dC, dI) vwCl [(cI, .int)] t ∧ va_D (va_A (wM y y1 y2 y3 y4 y5 y6 y7 y8 y9 y10 cI mi ma) sz) (wM y y1 y2 y3 y4 y5 y6 y7 y8 y9 y10 cI (va_up mi 0 1) ma)) (va_A (wM y y1 y2 y3 y4 y5 y6 y7 y8 y9 y10 cI mi ma) sz)) 0 0 (va_A (wM y y1 y2 y3 y4 y5 y6 y7 y8 y9 y10 cI mi ma) sz) := by
  refine Met.ofW (cc := cMd_look) (maxL := 5) (ret := (some .int)) (by decide) rfl ?_
  intro p e s m args below meth c s₁ B hml hv
  obtain ⟨rfl, hsz, hP, hK, hD0⟩ := hv
  have hx := B.exec
  have hb := B.bytes
  have hr := B.returns
  have hts0 := atoms_spec (ws := wsMd_look) B.pre
  have hts := fun (w : Cond) (h : w ∈ lw_g) => hts0 w (List.mem_cons_of_mem _ h)
  have hown : s.vm.findClass RMd = some m.cls := findClass_of_methodNamed B.named
  have hlocks := B.notSynchronized
  subst hsz
  have hD := hD0.self (sz := s.heap.size)
  generalize hAe : va_A (wM y y1 y2 y3 y4 y5 y6 y7 y8 y9 y10 cI mi ma) s.heap.size = A at hD ⊢
  have hA : ∀ q : Nat, s.heap.size ≤ q → A q := fun q h => by rw [← hAe]; exact Or.inr h
  have hS : va_S A s.heap s.heap [] := va_S.rf
  have hP : va_P (dC, dI) vwCl (wM y y1 y2 y3 y4 y5 y6 y7 y8 y9 y10 cI mi ma) s.heap := hP
  have hl := lv_entry ([.ref y, .int x, .int z]) (n := 5) (Nat.le_of_ble_eq_true rfl)
  rw [lg_entry_eq]
  generalize (lg_sl ([.ref y, .int x, .int z]) ++ List.replicate (5 - (lg_sl ([.ref y, .int x, .int z])).length) Slot.unset).toArray = ls at hl ⊢
  have hl : lv_has ls 5 [(0, .ref y), (1, .int x), (2, .int z)] := hl
  refine lv_aload_n hx hb dMd_look_0 rfl (lv_at hl 0 rfl) ?_
  refine lv_iload_n hx hb dMd_look_1 rfl (lv_at hl 1 rfl) ?_
  have hPc := hP.sub (ws' := (wM y y1 y2 y3 y4 y5 y6 y7 y8 y9 y10 cI mi ma)) [0, 1, 2, 3, 4, 5, 6, 7, 8, 9, 10] rfl
  have hDc := hD.sub (ws' := (wM y y1 y2 y3 y4 y5 y6 y7 y8 y9 y10 cI mi ma)) [0, 1, 2, 3, 4, 5, 6, 7, 8, 9, 10] (by decide) rfl
  have hKc := hK.sub (tys' := [(cI, .int)]) [0] rfl
  have hFc := va_free (wc := (wM y y1 y2 y3 y4 y5 y6 y7 y8 y9 y10 cI mi ma)) hD hS hA [0, 1, 2, 3, 4, 5, 6, 7, 8, 9, 10] rfl
  refine va_calli (va_runV (As := [.int x]) (rest := []) ⟨hx, hb, hml, hown, hts⟩ (k_M_lacks1 l dC dI s.heap.size y y1 y2 y3 y4 y5 y6 y7 y8 y9 y10 cI mi ma x hfx) (cwV 1 hts (gd_V in_91 in_93 in_94 in_74 in_92) rfl rfl rfl (by decide +kernel) ⟨Nat.le_of_ble_eq_true rfl, Nat.le_of_ble_eq_true rfl⟩) ⟨fun a U g mk q => by obtain ⟨q0, q1, qP, qK, qD⟩ := q; exact ⟨q0, q1, qP, va_K.moved (u := U) (U := U.calling g mk a) (Vm.Alike.refl U.vm) qK, qD⟩, va_recv hKc hPc (ci := 3) (q0 := 0) rfl rfl, fun U hU hW => ⟨rfl, by rw [hU], by rw [hU]; exact hPc, va_K.moved hW.alike hKc, hDc.weaken (fun _ _ _ _ => trivial)⟩⟩ rfl rfl hl.1 rfl (lv_room (Nat.le_of_ble_eq_true rfl)) dMd_look_2 ⟨Nat.le_of_ble_eq_true rfl, Nat.le_of_ble_eq_true rfl⟩) hS (fun q _ h => hFc q h) hFc (fun r_1 u t H1 locs ht hvm hw hB hz1 hk1 hS => ?_)
  obtain ⟨hP1, hK1, hD1⟩ := hB
  rw [ht] at hP1
  obtain ⟨hP, hD⟩ := va_join (wr := []) (w1 := (wM y y1 y2 y3 y4 y5 y6 y7 y8 y9 y10 cI (va_up mi 0 1) ma)) hP hD [0, 1, 2, 3, 4, 5, 6, 7, 8, 9, 10] [] rfl rfl (by decide) (by decide) hk1 hFc hP1 hD1
  generalize H1 = H at hP hS ⊢
  have hP : va_P (dC, dI) vwCl (wM y y1 y2 y3 y4 y5 y6 y7 y8 y9 y10 cI (va_up mi 0 1) ma) H := hP
  have hD : va_D A (wM y y1 y2 y3 y4 y5 y6 y7 y8 y9 y10 cI (va_up mi 0 1) ma) := hD
  have hw : r_1 = 1 := hw
  subst hw
  refine lv_if_eq (tgt := 10) hx hb dMd_look_5 (by decide) (fun c_2 => absurd c_2 (by decide)) (fun _ => ?_)
  refine lv_iconst (v := 0) hx hb dMd_look_8 (by decide) ?_
  have hP9 : va_P (dC, dI) vwCl (wM y y1 y2 y3 y4 y5 y6 y7 y8 y9 y10 cI (va_up mi 0 1) ma) H := by exact hP
  have hD9 : va_D A (wM y y1 y2 y3 y4 y5 y6 y7 y8 y9 y10 cI (va_up mi 0 1) ma) := by exact hD
  exact W.iret (v := 0) hx hb hr (fun t ht hW => ⟨⟨0, (), rfl, rfl, by rw [ht]; exact hP9, va_K.moved hW.alike hK, hD9⟩, hS.F ht⟩) hS.2.2 dMd_look_9
end
section
set_option maxHeartbeats 4000000 in
set_option maxRecDepth 100000 in
/-- same(a, b) -/
theorem k_M_same (l : Launch) (dC : Nat → ClassId) (dI : Nat → Nat → Nat) (sz : Nat) (y y1 y2 y3 y4 y5 y6 y7 y8 y9 y10 : Nat) (cI : ClassId) (mi : Nat → Int32) (ma : Nat → Nat → Int32) (a b n v : Nat) (ha4 : a < 4) (hb4 : b < 4) (hn : n < 2 ^ 30) (hix : ma 0 a = nI n) (hver : mi 1 = nI v) (hv16 : v ≤ 16) : Met l yMd_same wsMd_same ({ frames := 3, cells := 0, slots := 0, locals := 120 }) (va_Pc [.ref y, .int (nI a), .int (nI b)] (fun U => U.heap.size = sz ∧ va_P (dC, dI) vwCl (wM y y1 y2 y3 y4 y5 y6 y7 y8 y9 y10 cI mi ma) U.heap ∧ va_K (dC, dI) vwCl [(cI, .int)] U ∧ va_D (fun _ => True) (wM y y1 y2 y3 y4 y5 y6 y7 y8 y9 y10 cI mi ma))) (va_Qi (fun (r : Int32) (_ : Unit) => r = m_sm ma a b n v) (fun _ t => va_P (dC, dI) vwCl (wM y y1 y2 y3 y4 y5 y6 y7 y8 y9 y10 cI (va_up mi 0 0) ma) t.heap ∧ va_K (dC, dI) vwCl [(cI, .int)] t ∧ va_D (va_A (wM y y1 y2 y3 y4 y5 y6 y7 y8 y9 y10 cI mi ma) sz) (wM y y1 y2 y3 y4 y5 y6 y7 y8 y9 y10 cI (va_up mi 0 0) ma)) (va_A (wM y y1 y2 y3 y4 y5 y6 y7 y8 y9 y10 cI mi ma) sz)) 0 0 (va_A (wM y y1 y2 y3 y4 y5 y6 y7 y8 y9 y10 cI mi ma) sz) := by
  refine Met.ofW (cc := cMd_same) (maxL := 5) (ret := (some .boolean)) (by decide) rfl ?_
  intro p e s m args below meth c s₁ B hml hv
  obtain ⟨rfl, hsz, hP, hK, hD0⟩ := hv
  have hx := B.exec
  have hb := B.bytes
  have hr := B.returns
  have hts0 := atoms_spec (ws := wsMd_same) B.pre
  have hts := fun (w : Cond) (h : w ∈ lw_g) => hts0 w (List.mem_cons_of_mem _ h)
  have hown : s.vm.findClass RMd = some m.cls := findClass_of_methodNamed B.named
  have hlocks := B.notSynchronized
  subst hsz
  have hD := hD0.self (sz := s.heap.size)
  generalize hAe : va_A (wM y y1 y2 y3 y4 y5 y6 y7 y8 y9 y10 cI mi ma) s.heap.size = A at hD ⊢
  have hA : ∀ q : Nat, s.heap.size ≤ q → A q := fun q h => by rw [← hAe]; exact Or.inr h
  have hS : va_S A s.heap s.heap [] := va_S.rf
  have hP : va_P (dC, dI) vwCl (wM y y1 y2 y3 y4 y5 y6 y7 y8 y9 y10 cI mi ma) s.heap := hP
  have hl := lv_entry ([.ref y, .int (nI a), .int (nI b)]) (n := 5) (Nat.le_of_ble_eq_true rfl)
  rw [lg_entry_eq]
  generalize (lg_sl ([.ref y, .int (nI a), .int (nI b)]) ++ List.replicate (5 - (lg_sl ([.ref y, .int (nI a), .int (nI b)])).length) Slot.unset).toArray = ls at hl ⊢
  have hl : lv_has ls 5 [(0, .ref y), (1, .int (nI a)), (2, .int (nI b))] := hl
  refine lv_aload_n hx hb dMd_same_0 rfl (lv_at hl 0 rfl) ?_
  refine lv_iload_n hx hb dMd_same_1 rfl (lv_at hl 1 rfl) ?_
  have hPc := hP.sub (ws' := (wM y y1 y2 y3 y4 y5 y6 y7 y8 y9 y10 cI mi ma)) [0, 1, 2, 3, 4, 5, 6, 7, 8, 9, 10] rfl
  have hDc := hD.sub (ws' := (wM y y1 y2 y3 y4 y5 y6 y7 y8 y9 y10 cI mi ma)) [0, 1, 2, 3, 4, 5, 6, 7, 8, 9, 10] (by decide) rfl
  have hKc := hK.sub (tys' := [(cI, .int)]) [0] rfl
  have hFc := va_free (wc := (wM y y1 y2 y3 y4 y5 y6 y7 y8 y9 y10 cI mi ma)) hD hS hA [0, 1, 2, 3, 4, 5, 6, 7, 8, 9, 10] rfl
  refine va_calli (va_runV (As := [.int (nI a)]) (rest := []) ⟨hx, hb, hml, hown, hts⟩ (k_M_lacks0 l dC dI s.heap.size y y1 y2 y3 y4 y5 y6 y7 y8 y9 y10 cI mi ma a ha4) (cwV 1 hts (gd_V in_91 in_93 in_94 in_74 in_92) rfl rfl rfl (by decide +kernel) ⟨Nat.le_of_ble_eq_true rfl, Nat.le_of_ble_eq_true rfl⟩) ⟨fun a U g mk q => by obtain ⟨q0, q1, qP, qK, qD⟩ := q; exact ⟨q0, q1, qP, va_K.moved (u := U) (U := U.calling g mk a) (Vm.Alike.refl U.vm) qK, qD⟩, va_recv hKc hPc (ci := 3) (q0 := 0) rfl rfl, fun U hU hW => ⟨rfl, by rw [hU], by rw [hU]; exact hPc, va_K.moved hW.alike hKc, hDc.weaken (fun _ _ _ _ => trivial)⟩⟩ rfl rfl hl.1 rfl (lv_room (Nat.le_of_ble_eq_true rfl)) dMd_same_2 ⟨Nat.le_of_ble_eq_true rfl, Nat.le_of_ble_eq_true rfl⟩) hS (fun q _ h => hFc q h) hFc (fun r_1 u t H1 locs ht hvm hw hB hz1 hk1 hS => ?_)
  obtain ⟨hP1, hK1, hD1⟩ := hB
  rw [ht] at hP1
  obtain ⟨hP, hD⟩ := va_join (wr := []) (w1 := (wM y y1 y2 y3 y4 y5 y6 y7 y8 y9 y10 cI (va_up mi 0 0) ma)) hP hD [0, 1, 2, 3, 4, 5, 6, 7, 8, 9, 10] [] rfl rfl (by decide) (by decide) hk1 hFc hP1 hD1
  generalize H1 = H at hP hS ⊢
  have hP : va_P (dC, dI) vwCl (wM y y1 y2 y3 y4 y5 y6 y7 y8 y9 y10 cI (va_up mi 0 0) ma) H := hP
  have hD : va_D A (wM y y1 y2 y3 y4 y5 y6 y7 y8 y9 y10 cI (va_up mi 0 0) ma) := hD
  have hw : r_1 = 0 := hw
  subst hw
  refine lv_if_ne (tgt := 16) hx hb dMd_same_5 (by decide) (fun c_2 => absurd c_2 (by decide)) (fun _ => ?_)
  refine lv_aload_n hx hb dMd_same_8 rfl (lv_at hl 0 rfl) ?_
  refine lv_iload_n hx hb dMd_same_9 rfl (lv_at hl 2 rfl) ?_
  have hPc := hP.sub (ws' := (wM y y1 y2 y3 y4 y5 y6 y7 y8 y9 y10 cI (va_up mi 0 0) ma)) [0, 1, 2, 3, 4, 5, 6, 7, 8, 9, 10] rfl
  have hDc := hD.sub (ws' := (wM y y1 y2 y3 y4 y5 y6 y7 y8 y9 y10 cI (va_up mi 0 0) ma)) [0, 1, 2, 3, 4, 5, 6, 7, 8, 9, 10] (by decide) rfl
  have hKc := hK.sub (tys' := [(cI, .int)]) [0] rfl
  have hFc := va_free (wc := (wM y y1 y2 y3 y4 y5 y6 y7 y8 y9 y10 cI (va_up mi 0 0) ma)) hD hS hA [0, 1, 2, 3, 4, 5, 6, 7, 8, 9, 10] rfl
  refine va_calli (va_runV (As := [.int (nI b)]) (rest := []) ⟨hx, hb, hml, hown, hts⟩ (k_M_lacks0 l dC dI H.size y y1 y2 y3 y4 y5 y6 y7 y8 y9 y10 cI (va_up mi 0 0) ma b hb4) (cwV 1 hts (gd_V in_91 in_93 in_94 in_74 in_92) rfl rfl rfl (by decide +kernel) ⟨Nat.le_of_ble_eq_true rfl, Nat.le_of_ble_eq_true rfl⟩) ⟨fun a U g mk q => by obtain ⟨q0, q1, qP, qK, qD⟩ := q; exact ⟨q0, q1, qP, va_K.moved (u := U) (U := U.calling g mk a) (Vm.Alike.refl U.vm) qK, qD⟩, va_recv hKc hPc (ci := 3) (q0 := 0) rfl rfl, fun U hU hW => ⟨rfl, by rw [hU], by rw [hU]; exact hPc, va_K.moved hW.alike hKc, hDc.weaken (fun _ _ _ _ => trivial)⟩⟩ rfl rfl hl.1 rfl (lv_room (Nat.le_of_ble_eq_true rfl)) dMd_same_10 ⟨Nat.le_of_ble_eq_true rfl, Nat.le_of_ble_eq_true rfl⟩) hS (fun q _ h => hFc q h) hFc (fun r_3 u t H1 locs ht hvm hw hB hz1 hk1 hS => ?_)
  obtain ⟨hP1, hK1, hD1⟩ := hB
  rw [ht] at hP1
  obtain ⟨hP, hD⟩ := va_join (wr := []) (w1 := (wM y y1 y2 y3 y4 y5 y6 y7 y8 y9 y10 cI (va_up mi 0 0) ma)) hP hD [0, 1, 2, 3, 4, 5, 6, 7, 8, 9, 10] [] rfl rfl (by decide) (by decide) hk1 hFc hP1 hD1
  generalize H1 = H at hP hS ⊢
  have hP : va_P (dC, dI) vwCl (wM y y1 y2 y3 y4 y5 y6 y7 y8 y9 y10 cI (va_up mi 0 0) ma) H := hP
  have hD : va_D A (wM y y1 y2 y3 y4 y5 y6 y7 y8 y9 y10 cI (va_up mi 0 0) ma) := hD
  have hw : r_3 = 0 := hw
  subst hw
  refine lv_if_eq (tgt := 18) hx hb dMd_same_13 (by decide) (fun _ => ?_) (fun c_4 => absurd c_4 (by decide))
  refine lv_aload_n hx hb dMd_same_18 rfl (lv_at hl 0 rfl) ?_
  refine va_get (D := (dC, dI)) (ci := 3) (v := .ref y1) (C := RMd) (T := TMd) (N := 17) hx hb hts inMd hown hK hP 0 rfl rfl 2 (by decide) (hts _ in_82) (fun _ h9 => h9) rfl dMd_same_19 ?_
  refine lv_iload_n hx hb dMd_same_22 rfl (lv_at hl 1 rfl) ?_
  refine vq_iald (k := a) (f := ma 0) hx hb hK hP 1 0 rfl rfl rfl (by omega) (by decide) dMd_same_23 ?_
  refine lv_aload_n hx hb dMd_same_24 rfl (lv_at hl 0 rfl) ?_
  refine va_get (D := (dC, dI)) (ci := 3) (v := .ref y1) (C := RMd) (T := TMd) (N := 17) hx hb hts inMd hown hK hP 0 rfl rfl 2 (by decide) (hts _ in_82) (fun _ h9 => h9) rfl dMd_same_25 ?_
  refine lv_iload_n hx hb dMd_same_28 rfl (lv_at hl 2 rfl) ?_
  refine vq_iald (k := b) (f := ma 0) hx hb hK hP 1 0 rfl rfl rfl (by omega) (by decide) dMd_same_29 ?_
  refine lv_icmp_ne (tgt := 37) hx hb dMd_same_30 (by decide) (fun c_5 => ?_) (fun c_5 => ?_)
  · skip
    have hAB : ¬ ma 0 a = ma 0 b := c_5
    refine lv_iconst (v := 0) hx hb dMd_same_37 (by decide) ?_
    refine lv_istore_n (lv' := [(3, .int 0), (0, .ref y), (1, .int (nI a)), (2, .int (nI b))]) hx hb dMd_same_38 rfl hl (by decide) rfl (fun ls hl => ?_)
    refine lv_iconst (v := 0) hx hb dMd_same_39 (by decide) ?_
    refine lv_istore (lv' := [(4, .int 0), (3, .int 0), (0, .ref y), (1, .int (nI a)), (2, .int (nI b))]) hx hb dMd_same_40 hl (by decide) rfl (fun ls hl => ?_)
    refine lv_iload hx hb dMd_same_42 (lv_at hl 0 rfl) ?_
    refine lv_bipush (v := nI 16) hx hb dMd_same_44 (by decide) ?_
    refine lv_icmp_ge (tgt := 172) hx hb dMd_same_46 (by decide) (fun c_6 => absurd c_6 (by decide)) (fun _ => ?_)
    refine lv_iload_n hx hb dMd_same_49 rfl (lv_at hl 1 rfl) ?_
    refine lv_if_eq (tgt := 172) hx hb dMd_same_50 (by decide) (fun _ => ?_) (fun c_7 => absurd c_7 (by decide))
    refine lv_aload_n hx hb dMd_same_172 rfl (lv_at hl 2 rfl) ?_
    refine va_get (D := (dC, dI)) (ci := 3) (v := .ref y1) (C := RMd) (T := TMd) (N := 17) hx hb hts inMd hown hK hP 0 rfl rfl 2 (by decide) (hts _ in_82) (fun _ h9 => h9) rfl dMd_same_173 ?_
    refine lv_iload_n hx hb dMd_same_176 rfl (lv_at hl 3 rfl) ?_
    refine vq_iald (k := a) (f := ma 0) hx hb hK hP 1 0 rfl rfl rfl (by omega) (by decide) dMd_same_177 ?_
    refine lv_ri (y := nI n) hix ?_
    refine lv_istore (lv' := [(4, .int (nI n)), (3, .int 0), (0, .ref y), (1, .int (nI a)), (2, .int (nI b))]) hx hb dMd_same_178 hl (by decide) rfl (fun ls hl => ?_)
    refine lv_iload hx hb dMd_same_180 (lv_at hl 0 rfl) ?_
    refine lv_aload_n hx hb dMd_same_182 rfl (lv_at hl 2 rfl) ?_
    refine va_get (D := (dC, dI)) (ci := 3) (v := .ref y1) (C := RMd) (T := TMd) (N := 17) hx hb hts inMd hown hK hP 0 rfl rfl 2 (by decide) (hts _ in_82) (fun _ h9 => h9) rfl dMd_same_183 ?_
    refine lv_iload_n hx hb dMd_same_186 rfl (lv_at hl 3 rfl) ?_
    refine vq_iald (k := a) (f := ma 0) hx hb hK hP 1 0 rfl rfl rfl (by omega) (by decide) dMd_same_187 ?_
    refine lv_ri (y := nI n) hix ?_
    refine lv_aload_n hx hb dMd_same_188 rfl (lv_at hl 2 rfl) ?_
    refine va_get (D := (dC, dI)) (ci := 3) (v := .int (mi 1)) (C := RMd) (T := TMd) (N := 17) hx hb hts inMd hown hK hP 0 rfl rfl 1 (by decide) (hts _ in_86) (fun _ h9 => h9) rfl dMd_same_189 ?_
    refine lv_ri (y := nI v) hver ?_
    refine lv_isub hx hb dMd_same_192 ?_
    refine lv_icmp_lt (tgt := 229) hx hb dMd_same_193 (by decide) (fun c_8 => ?_) (fun c_8 => ?_)
    · skip
      refine lv_iload_n hx hb dMd_same_229 rfl (lv_at hl 1 rfl) ?_
      have hP9 : va_P (dC, dI) vwCl (wM y y1 y2 y3 y4 y5 y6 y7 y8 y9 y10 cI (va_up mi 0 0) ma) H := by exact hP
      have hD9 : va_D A (wM y y1 y2 y3 y4 y5 y6 y7 y8 y9 y10 cI (va_up mi 0 0) ma) := by exact hD
      exact W.zret (v := 0) (ty := .boolean) hx hb hr rfl (fun t ht hW => ⟨⟨0, (), rfl, by unfold m_sm; rw [if_neg hAB], by rw [ht]; exact hP9, va_K.moved hW.alike hK, hD9⟩, hS.F ht⟩) hS.2.2 dMd_same_230
    · skip
      refine lv_iload_n hx hb dMd_same_196 rfl (lv_at hl 1 rfl) ?_
      refine lv_if_eq (tgt := 229) hx hb dMd_same_197 (by decide) (fun _ => ?_) (fun c_9 => absurd c_9 (by decide))
      refine lv_iload_n hx hb dMd_same_229 rfl (lv_at hl 1 rfl) ?_
      have hP9 : va_P (dC, dI) vwCl (wM y y1 y2 y3 y4 y5 y6 y7 y8 y9 y10 cI (va_up mi 0 0) ma) H := by exact hP
      have hD9 : va_D A (wM y y1 y2 y3 y4 y5 y6 y7 y8 y9 y10 cI (va_up mi 0 0) ma) := by exact hD
      exact W.zret (v := 0) (ty := .boolean) hx hb hr rfl (fun t ht hW => ⟨⟨0, (), rfl, by unfold m_sm; rw [if_neg hAB], by rw [ht]; exact hP9, va_K.moved hW.alike hK, hD9⟩, hS.F ht⟩) hS.2.2 dMd_same_230
  · skip
    have hixb : ma 0 b = nI n := by rw [← c_5]; exact hix
    have hAB : ma 0 a = ma 0 b := c_5
    refine lv_iconst (v := 1) hx hb dMd_same_33 (by decide) ?_
    refine lv_goto (tgt := 38) hx hb dMd_same_34 (by decide) ?_
    refine lv_istore_n (lv' := [(3, .int 1), (0, .ref y), (1, .int (nI a)), (2, .int (nI b))]) hx hb dMd_same_38 rfl hl (by decide) rfl (fun ls hl => ?_)
    refine lv_iconst (v := 0) hx hb dMd_same_39 (by decide) ?_
    refine lv_istore (lv' := [(4, .int 0), (3, .int 1), (0, .ref y), (1, .int (nI a)), (2, .int (nI b))]) hx hb dMd_same_40 hl (by decide) rfl (fun ls hl => ?_)
    refine wl_ro (σ := Nat × Array Slot) (fun z9 => F0 m 42 z9.2 []) (fun z9 => z9.1 ≤ 16 ∧ m_sq (ma 5) (ma 6) (ma 8) a b (64 * a + n % 64) (64 * b + n % 64) 16 0 = m_sq (ma 5) (ma 6) (ma 8) a b (64 * a + n % 64) (64 * b + n % 64) (16 - z9.1) z9.1 ∧ lv_has z9.2 5 [(4, .int (nI z9.1)), (3, .int 1), (0, .ref y), (1, .int (nI a)), (2, .int (nI b))]) (fun z9 => 16 - z9.1) ?_ (0, ls) ⟨by omega, rfl, lv_sub hl [0, 1, 2, 3, 4] rfl⟩
    rintro ⟨j, ls⟩ ⟨hj, hE, hl⟩ ih
    have hE : m_sq (ma 5) (ma 6) (ma 8) a b (64 * a + n % 64) (64 * b + n % 64) 16 0 = m_sq (ma 5) (ma 6) (ma 8) a b (64 * a + n % 64) (64 * b + n % 64) (16 - j) j := hE
    have hj : j ≤ 16 := hj
    have hl : lv_has ls 5 [(4, .int (nI j)), (3, .int 1), (0, .ref y), (1, .int (nI a)), (2, .int (nI b))] := hl
    show W p l e _ s m _ below meth c _ _ _ _ _ (F0 m 42 ls [])
    refine lv_iload hx hb dMd_same_42 (lv_at hl 0 rfl) ?_
    refine lv_bipush (v := nI 16) hx hb dMd_same_44 (by decide) ?_
    refine lv_icmp_ge (tgt := 172) hx hb dMd_same_46 (by decide) (fun c_10 => ?_) (fun c_10 => ?_)
    · skip
      have hj9 : j = 16 := lp_x (by decide) hj c_10
      subst hj9
      have hQ : m_sq (ma 5) (ma 6) (ma 8) a b (64 * a + n % 64) (64 * b + n % 64) 16 0 = 1 := hE
      refine lv_aload_n hx hb dMd_same_172 rfl (lv_at hl 2 rfl) ?_
      refine va_get (D := (dC, dI)) (ci := 3) (v := .ref y1) (C := RMd) (T := TMd) (N := 17) hx hb hts inMd hown hK hP 0 rfl rfl 2 (by decide) (hts _ in_82) (fun _ h9 => h9) rfl dMd_same_173 ?_
      refine lv_iload_n hx hb dMd_same_176 rfl (lv_at hl 3 rfl) ?_
      refine vq_iald (k := a) (f := ma 0) hx hb hK hP 1 0 rfl rfl rfl (by omega) (by decide) dMd_same_177 ?_
      refine lv_ri (y := nI n) hix ?_
      refine lv_istore (lv' := [(4, .int (nI n)), (3, .int 1), (0, .ref y), (1, .int (nI a)), (2, .int (nI b))]) hx hb dMd_same_178 hl (by decide) rfl (fun ls hl => ?_)
      refine wl_ro (σ := Nat × Array Slot) (fun z9 => F0 m 180 z9.2 []) (fun z9 => z9.1 ≤ v + 1 ∧ m_sw (ma 7) a b n (v + 1) 0 = m_sw (ma 7) a b n (v + 1 - z9.1) z9.1 ∧ lv_has z9.2 5 [(4, .int (nI n - nI z9.1)), (3, .int 1), (0, .ref y), (1, .int (nI a)), (2, .int (nI b))]) (fun z9 => v + 1 - z9.1) ?_ (0, ls) ⟨by omega, rfl, by rw [show nI n - nI 0 = nI n from by rw [pk_sub (Nat.zero_le _)]; rfl]; exact lv_sub hl [0, 1, 2, 3, 4] rfl⟩
      rintro ⟨i0, ls⟩ ⟨hi0, hE2, hl⟩ ih
      have hi0 : i0 ≤ v + 1 := hi0
      have hE2 : m_sw (ma 7) a b n (v + 1) 0 = m_sw (ma 7) a b n (v + 1 - i0) i0 := hE2
      have hl : lv_has ls 5 [(4, .int (nI n - nI i0)), (3, .int 1), (0, .ref y), (1, .int (nI a)), (2, .int (nI b))] := hl
      show W p l e _ s m _ below meth c _ _ _ _ _ (F0 m 180 ls [])
      refine lv_iload hx hb dMd_same_180 (lv_at hl 0 rfl) ?_
      refine lv_aload_n hx hb dMd_same_182 rfl (lv_at hl 2 rfl) ?_
      refine va_get (D := (dC, dI)) (ci := 3) (v := .ref y1) (C := RMd) (T := TMd) (N := 17) hx hb hts inMd hown hK hP 0 rfl rfl 2 (by decide) (hts _ in_82) (fun _ h9 => h9) rfl dMd_same_183 ?_
      refine lv_iload_n hx hb dMd_same_186 rfl (lv_at hl 3 rfl) ?_
      refine vq_iald (k := a) (f := ma 0) hx hb hK hP 1 0 rfl rfl rfl (by omega) (by decide) dMd_same_187 ?_
      refine lv_ri (y := nI n) hix ?_
      refine lv_aload_n hx hb dMd_same_188 rfl (lv_at hl 2 rfl) ?_
      refine va_get (D := (dC, dI)) (ci := 3) (v := .int (mi 1)) (C := RMd) (T := TMd) (N := 17) hx hb hts inMd hown hK hP 0 rfl rfl 1 (by decide) (hts _ in_86) (fun _ h9 => h9) rfl dMd_same_189 ?_
      refine lv_ri (y := nI v) hver ?_
      refine lv_isub hx hb dMd_same_192 ?_
      refine lv_icmp_lt (tgt := 229) hx hb dMd_same_193 (by decide) (fun c_11 => ?_) (fun c_11 => ?_)
      · skip
        have hi9 : i0 = v + 1 := by have := (sx_lt hn (by omega) (by omega)).mp c_11; omega
        subst hi9
        have hW1 : m_sw (ma 7) a b n (v + 1) 0 = 1 := by rw [hE2, Nat.sub_self]; rfl
        refine lv_iload_n hx hb dMd_same_229 rfl (lv_at hl 1 rfl) ?_
        have hP9 : va_P (dC, dI) vwCl (wM y y1 y2 y3 y4 y5 y6 y7 y8 y9 y10 cI (va_up mi 0 0) ma) H := by exact hP
        have hD9 : va_D A (wM y y1 y2 y3 y4 y5 y6 y7 y8 y9 y10 cI (va_up mi 0 0) ma) := by exact hD
        exact W.zret (v := 1) (ty := .boolean) hx hb hr rfl (fun t ht hW => ⟨⟨1, (), rfl, by unfold m_sm; rw [if_pos hAB, hQ, if_neg (by decide), hW1], by rw [ht]; exact hP9, va_K.moved hW.alike hK, hD9⟩, hS.F ht⟩) hS.2.2 dMd_same_230
      · skip
        have hi0 : i0 < v + 1 := by rcases Nat.lt_or_ge v i0 with q | q; exact absurd ((sx_lt hn (by omega) (by omega)).mpr q) c_11; omega
        rw [show v + 1 - i0 = (v + 1 - (i0 + 1)) + 1 by omega] at hE2
        refine lv_iload_n hx hb dMd_same_196 rfl (lv_at hl 1 rfl) ?_
        refine lv_if_eq (tgt := 229) hx hb dMd_same_197 (by decide) (fun c_12 => absurd c_12 (by decide)) (fun _ => ?_)
        refine lv_aload_n hx hb dMd_same_200 rfl (lv_at hl 2 rfl) ?_
        refine lv_iload_n hx hb dMd_same_201 rfl (lv_at hl 3 rfl) ?_
        refine lv_iload hx hb dMd_same_202 (lv_at hl 0 rfl) ?_
        have hPc := hP.sub (ws' := (wM y y1 y2 y3 y4 y5 y6 y7 y8 y9 y10 cI (va_up mi 0 0) ma)) [0, 1, 2, 3, 4, 5, 6, 7, 8, 9, 10] rfl
        have hKc := hK.sub (tys' := [(cI, .int)]) [0] rfl
        refine vp_callSi (W.runV (As := [.int (nI a), .int (nI n - nI i0)]) (rest := []) ⟨hx, hb, hml, hown, hts⟩ (k_M_since0 l dC dI y y1 y2 y3 y4 y5 y6 y7 y8 y9 y10 cI (va_up mi 0 0) ma a n ha4 hn hix (n - i0 + 1) (by omega) (nI n - nI i0) (sx_0 hn (by omega)) (sx_1 hn (by omega))) (cwV 2 hts (gd_V in_87 in_89 in_90 in_74 in_88) rfl rfl rfl (by decide +kernel) ⟨Nat.le_of_ble_eq_true rfl, Nat.le_of_ble_eq_true rfl⟩) ⟨fun a U g mk q => by obtain ⟨q0, qP, qK⟩ := q; exact ⟨q0, qP, va_K.moved (u := U) (U := U.calling g mk a) (Vm.Alike.refl U.vm) qK⟩, va_recv hKc hPc (ci := 3) (q0 := 0) rfl rfl, fun U hU hW => ⟨rfl, by rw [hU]; exact hPc, va_K.moved hW.alike hKc⟩⟩ rfl rfl hl.1 rfl (lv_room (Nat.le_of_ble_eq_true rfl)) dMd_same_204 ⟨Nat.le_of_ble_eq_true rfl, Nat.le_of_ble_eq_true rfl⟩) (fun r_13 er_14 => ?_)
        subst er_14
        refine lv_aload_n hx hb dMd_same_207 rfl (lv_at hl 2 rfl) ?_
        refine lv_iload_n hx hb dMd_same_208 rfl (lv_at hl 4 rfl) ?_
        refine lv_iload hx hb dMd_same_209 (lv_at hl 0 rfl) ?_
        have hPc := hP.sub (ws' := (wM y y1 y2 y3 y4 y5 y6 y7 y8 y9 y10 cI (va_up mi 0 0) ma)) [0, 1, 2, 3, 4, 5, 6, 7, 8, 9, 10] rfl
        have hKc := hK.sub (tys' := [(cI, .int)]) [0] rfl
        refine vp_callSi (W.runV (As := [.int (nI b), .int (nI n - nI i0)]) (rest := [.int (m_ws (ma 7) (64 * a) (n - i0 + 1) (n + 1 - (n - i0 + 1)))]) ⟨hx, hb, hml, hown, hts⟩ (k_M_since0 l dC dI y y1 y2 y3 y4 y5 y6 y7 y8 y9 y10 cI (va_up mi 0 0) ma b n hb4 hn hixb (n - i0 + 1) (by omega) (nI n - nI i0) (sx_0 hn (by omega)) (sx_1 hn (by omega))) (cwV 2 hts (gd_V in_87 in_89 in_90 in_74 in_88) rfl rfl rfl (by decide +kernel) ⟨Nat.le_of_ble_eq_true rfl, Nat.le_of_ble_eq_true rfl⟩) ⟨fun a U g mk q => by obtain ⟨q0, qP, qK⟩ := q; exact ⟨q0, qP, va_K.moved (u := U) (U := U.calling g mk a) (Vm.Alike.refl U.vm) qK⟩, va_recv hKc hPc (ci := 3) (q0 := 0) rfl rfl, fun U hU hW => ⟨rfl, by rw [hU]; exact hPc, va_K.moved hW.alike hKc⟩⟩ rfl rfl hl.1 rfl (lv_room (Nat.le_of_ble_eq_true rfl)) dMd_same_211 ⟨Nat.le_of_ble_eq_true rfl, Nat.le_of_ble_eq_true rfl⟩) (fun r_15 er_16 => ?_)
        subst er_16
        refine lv_icmp_ne (tgt := 221) hx hb dMd_same_214 (by decide) (fun c_17 => ?_) (fun c_17 => ?_)
        · skip
          have hW0 : m_sw (ma 7) a b n (v + 1) 0 = 0 := by rw [hE2]; simp only [m_sw, if_pos hAB, if_neg c_17]
          refine lv_iconst (v := 0) hx hb dMd_same_221 (by decide) ?_
          refine lv_istore_n (lv' := [(3, .int 0), (4, .int (nI n - nI i0)), (0, .ref y), (1, .int (nI a)), (2, .int (nI b))]) hx hb dMd_same_222 rfl hl (by decide) rfl (fun ls hl => ?_)
          refine lv_iinc (v := nI n - nI (i0 + 1)) (lv' := [(4, .int (nI n - nI (i0 + 1))), (3, .int 0), (0, .ref y), (1, .int (nI a)), (2, .int (nI b))]) hx hb dMd_same_223 hl (k := 1) rfl (sx_s n i0) (by decide) rfl (fun ls hl => ?_)
          refine lv_goto (tgt := 180) hx hb dMd_same_226 (by decide) ?_
          refine lv_iload hx hb dMd_same_180 (lv_at hl 0 rfl) ?_
          refine lv_aload_n hx hb dMd_same_182 rfl (lv_at hl 2 rfl) ?_
          refine va_get (D := (dC, dI)) (ci := 3) (v := .ref y1) (C := RMd) (T := TMd) (N := 17) hx hb hts inMd hown hK hP 0 rfl rfl 2 (by decide) (hts _ in_82) (fun _ h9 => h9) rfl dMd_same_183 ?_
          refine lv_iload_n hx hb dMd_same_186 rfl (lv_at hl 3 rfl) ?_
          refine vq_iald (k := a) (f := ma 0) hx hb hK hP 1 0 rfl rfl rfl (by omega) (by decide) dMd_same_187 ?_
          refine lv_ri (y := nI n) hix ?_
          refine lv_aload_n hx hb dMd_same_188 rfl (lv_at hl 2 rfl) ?_
          refine va_get (D := (dC, dI)) (ci := 3) (v := .int (mi 1)) (C := RMd) (T := TMd) (N := 17) hx hb hts inMd hown hK hP 0 rfl rfl 1 (by decide) (hts _ in_86) (fun _ h9 => h9) rfl dMd_same_189 ?_
          refine lv_ri (y := nI v) hver ?_
          refine lv_isub hx hb dMd_same_192 ?_
          refine lv_icmp_lt (tgt := 229) hx hb dMd_same_193 (by decide) (fun c_18 => ?_) (fun c_18 => ?_)
          · skip
            refine lv_iload_n hx hb dMd_same_229 rfl (lv_at hl 1 rfl) ?_
            have hP9 : va_P (dC, dI) vwCl (wM y y1 y2 y3 y4 y5 y6 y7 y8 y9 y10 cI (va_up mi 0 0) ma) H := by exact hP
            have hD9 : va_D A (wM y y1 y2 y3 y4 y5 y6 y7 y8 y9 y10 cI (va_up mi 0 0) ma) := by exact hD
            exact W.zret (v := 0) (ty := .boolean) hx hb hr rfl (fun t ht hW => ⟨⟨0, (), rfl, by unfold m_sm; rw [if_pos hAB, hQ, if_neg (by decide), hW0], by rw [ht]; exact hP9, va_K.moved hW.alike hK, hD9⟩, hS.F ht⟩) hS.2.2 dMd_same_230
          · skip
            refine lv_iload_n hx hb dMd_same_196 rfl (lv_at hl 1 rfl) ?_
            refine lv_if_eq (tgt := 229) hx hb dMd_same_197 (by decide) (fun _ => ?_) (fun c_19 => absurd c_19 (by decide))
            refine lv_iload_n hx hb dMd_same_229 rfl (lv_at hl 1 rfl) ?_
            have hP9 : va_P (dC, dI) vwCl (wM y y1 y2 y3 y4 y5 y6 y7 y8 y9 y10 cI (va_up mi 0 0) ma) H := by exact hP
            have hD9 : va_D A (wM y y1 y2 y3 y4 y5 y6 y7 y8 y9 y10 cI (va_up mi 0 0) ma) := by exact hD
            exact W.zret (v := 0) (ty := .boolean) hx hb hr rfl (fun t ht hW => ⟨⟨0, (), rfl, by unfold m_sm; rw [if_pos hAB, hQ, if_neg (by decide), hW0], by rw [ht]; exact hP9, va_K.moved hW.alike hK, hD9⟩, hS.F ht⟩) hS.2.2 dMd_same_230
        · skip
          refine lv_iconst (v := 1) hx hb dMd_same_217 (by decide) ?_
          refine lv_goto (tgt := 222) hx hb dMd_same_218 (by decide) ?_
          refine lv_istore_n (lv' := [(3, .int 1), (4, .int (nI n - nI i0)), (0, .ref y), (1, .int (nI a)), (2, .int (nI b))]) hx hb dMd_same_222 rfl hl (by decide) rfl (fun ls hl => ?_)
          refine lv_iinc (v := nI n - nI (i0 + 1)) (lv' := [(4, .int (nI n - nI (i0 + 1))), (3, .int 1), (0, .ref y), (1, .int (nI a)), (2, .int (nI b))]) hx hb dMd_same_223 hl (k := 1) rfl (sx_s n i0) (by decide) rfl (fun ls hl => ?_)
          refine lv_goto (tgt := 180) hx hb dMd_same_226 (by decide) ?_
          have hE9 : m_sw (ma 7) a b n (v + 1) 0 = m_sw (ma 7) a b n (v + 1 - (i0 + 1)) (i0 + 1) := by rw [hE2]; simp only [m_sw, if_pos hAB, if_pos c_17]
          exact ih (i0 + 1, ls) ⟨by omega, hE9, lv_sub hl [0, 1, 2, 3, 4] rfl⟩ (by show v + 1 - (i0 + 1) < v + 1 - i0; omega)
    · skip
      have hj : j < 16 := lp_c (by decide) hj c_10
      rw [show 16 - j = (16 - (j + 1)) + 1 by omega] at hE
      refine lv_iload_n hx hb dMd_same_49 rfl (lv_at hl 1 rfl) ?_
      refine lv_if_eq (tgt := 172) hx hb dMd_same_50 (by decide) (fun c_20 => absurd c_20 (by decide)) (fun _ => ?_)
      refine lv_aload_n hx hb dMd_same_53 rfl (lv_at hl 2 rfl) ?_
      refine va_get (D := (dC, dI)) (ci := 3) (v := .ref y6) (C := RMd) (T := TMd) (N := 17) hx hb hts inMd hown hK hP 0 rfl rfl 7 (by decide) (hts _ in_85) (fun _ h9 => h9) rfl dMd_same_54 ?_
      refine lv_bipush (v := nI 16) hx hb dMd_same_57 (by decide) ?_
      refine lv_iload_n hx hb dMd_same_59 rfl (lv_at hl 3 rfl) ?_
      refine lv_imul hx hb dMd_same_60 ?_
      refine lv_ri (y := nI (16 * a)) (pk_mul _ _) ?_
      refine lv_iload hx hb dMd_same_61 (lv_at hl 0 rfl) ?_
      refine lv_iadd hx hb dMd_same_63 ?_
      refine lv_ri (y := nI ((16 * a) + j)) (nI_add _ _) ?_
      refine vq_iald (k := ((16 * a) + j)) (f := ma 5) hx hb hK hP 6 0 rfl rfl rfl (by omega) (by decide) dMd_same_64 ?_
      refine lv_aload_n hx hb dMd_same_65 rfl (lv_at hl 2 rfl) ?_
      refine va_get (D := (dC, dI)) (ci := 3) (v := .ref y6) (C := RMd) (T := TMd) (N := 17) hx hb hts inMd hown hK hP 0 rfl rfl 7 (by decide) (hts _ in_85) (fun _ h9 => h9) rfl dMd_same_66 ?_
      refine lv_bipush (v := nI 16) hx hb dMd_same_69 (by decide) ?_
      refine lv_iload_n hx hb dMd_same_71 rfl (lv_at hl 4 rfl) ?_
      refine lv_imul hx hb dMd_same_72 ?_
      refine lv_ri (y := nI (16 * b)) (pk_mul _ _) ?_
      refine lv_iload hx hb dMd_same_73 (lv_at hl 0 rfl) ?_
      refine lv_iadd hx hb dMd_same_75 ?_
      refine lv_ri (y := nI ((16 * b) + j)) (nI_add _ _) ?_
      refine vq_iald (k := ((16 * b) + j)) (f := ma 5) hx hb hK hP 6 0 rfl rfl rfl (by omega) (by decide) dMd_same_76 ?_
      refine lv_icmp_ne (tgt := 164) hx hb dMd_same_77 (by decide) (fun c_21 => ?_) (fun c_21 => ?_)
      · skip
        have hQ0 : m_sq (ma 5) (ma 6) (ma 8) a b (64 * a + n % 64) (64 * b + n % 64) 16 0 = 0 := by rw [hE]; simp only [m_sq, if_pos hAB, if_neg c_21]
        refine lv_iconst (v := 0) hx hb dMd_same_164 (by decide) ?_
        refine lv_istore_n (lv' := [(3, .int 0), (4, .int (nI j)), (0, .ref y), (1, .int (nI a)), (2, .int (nI b))]) hx hb dMd_same_165 rfl hl (by decide) rfl (fun ls hl => ?_)
        refine lv_iinc (v := nI (j + 1)) (lv' := [(4, .int (nI (j + 1))), (3, .int 0), (0, .ref y), (1, .int (nI a)), (2, .int (nI b))]) hx hb dMd_same_166 hl (k := 1) rfl (by first | exact nI_1 _ | (show _ + (1 : Int32) = _; exact nI_1 _)) (by decide) rfl (fun ls hl => ?_)
        refine lv_goto (tgt := 42) hx hb dMd_same_169 (by decide) ?_
        refine lv_iload hx hb dMd_same_42 (lv_at hl 0 rfl) ?_
        refine lv_bipush (v := nI 16) hx hb dMd_same_44 (by decide) ?_
        refine lv_icmp_ge (tgt := 172) hx hb dMd_same_46 (by decide) (fun c_22 => ?_) (fun c_22 => ?_)
        · skip
          refine lv_aload_n hx hb dMd_same_172 rfl (lv_at hl 2 rfl) ?_
          refine va_get (D := (dC, dI)) (ci := 3) (v := .ref y1) (C := RMd) (T := TMd) (N := 17) hx hb hts inMd hown hK hP 0 rfl rfl 2 (by decide) (hts _ in_82) (fun _ h9 => h9) rfl dMd_same_173 ?_
          refine lv_iload_n hx hb dMd_same_176 rfl (lv_at hl 3 rfl) ?_
          refine vq_iald (k := a) (f := ma 0) hx hb hK hP 1 0 rfl rfl rfl (by omega) (by decide) dMd_same_177 ?_
          refine lv_ri (y := nI n) hix ?_
          refine lv_istore (lv' := [(4, .int (nI n)), (3, .int 0), (0, .ref y), (1, .int (nI a)), (2, .int (nI b))]) hx hb dMd_same_178 hl (by decide) rfl (fun ls hl => ?_)
          refine lv_iload hx hb dMd_same_180 (lv_at hl 0 rfl) ?_
          refine lv_aload_n hx hb dMd_same_182 rfl (lv_at hl 2 rfl) ?_
          refine va_get (D := (dC, dI)) (ci := 3) (v := .ref y1) (C := RMd) (T := TMd) (N := 17) hx hb hts inMd hown hK hP 0 rfl rfl 2 (by decide) (hts _ in_82) (fun _ h9 => h9) rfl dMd_same_183 ?_
          refine lv_iload_n hx hb dMd_same_186 rfl (lv_at hl 3 rfl) ?_
          refine vq_iald (k := a) (f := ma 0) hx hb hK hP 1 0 rfl rfl rfl (by omega) (by decide) dMd_same_187 ?_
          refine lv_ri (y := nI n) hix ?_
          refine lv_aload_n hx hb dMd_same_188 rfl (lv_at hl 2 rfl) ?_
          refine va_get (D := (dC, dI)) (ci := 3) (v := .int (mi 1)) (C := RMd) (T := TMd) (N := 17) hx hb hts inMd hown hK hP 0 rfl rfl 1 (by decide) (hts _ in_86) (fun _ h9 => h9) rfl dMd_same_189 ?_
          refine lv_ri (y := nI v) hver ?_
          refine lv_isub hx hb dMd_same_192 ?_
          refine lv_icmp_lt (tgt := 229) hx hb dMd_same_193 (by decide) (fun c_23 => ?_) (fun c_23 => ?_)
          · skip
            refine lv_iload_n hx hb dMd_same_229 rfl (lv_at hl 1 rfl) ?_
            have hP9 : va_P (dC, dI) vwCl (wM y y1 y2 y3 y4 y5 y6 y7 y8 y9 y10 cI (va_up mi 0 0) ma) H := by exact hP
            have hD9 : va_D A (wM y y1 y2 y3 y4 y5 y6 y7 y8 y9 y10 cI (va_up mi 0 0) ma) := by exact hD
            exact W.zret (v := 0) (ty := .boolean) hx hb hr rfl (fun t ht hW => ⟨⟨0, (), rfl, by unfold m_sm; rw [if_pos hAB, if_pos hQ0], by rw [ht]; exact hP9, va_K.moved hW.alike hK, hD9⟩, hS.F ht⟩) hS.2.2 dMd_same_230
          · skip
            refine lv_iload_n hx hb dMd_same_196 rfl (lv_at hl 1 rfl) ?_
            refine lv_if_eq (tgt := 229) hx hb dMd_same_197 (by decide) (fun _ => ?_) (fun c_24 => absurd c_24 (by decide))
            refine lv_iload_n hx hb dMd_same_229 rfl (lv_at hl 1 rfl) ?_
            have hP9 : va_P (dC, dI) vwCl (wM y y1 y2 y3 y4 y5 y6 y7 y8 y9 y10 cI (va_up mi 0 0) ma) H := by exact hP
            have hD9 : va_D A (wM y y1 y2 y3 y4 y5 y6 y7 y8 y9 y10 cI (va_up mi 0 0) ma) := by exact hD
            exact W.zret (v := 0) (ty := .boolean) hx hb hr rfl (fun t ht hW => ⟨⟨0, (), rfl, by unfold m_sm; rw [if_pos hAB, if_pos hQ0], by rw [ht]; exact hP9, va_K.moved hW.alike hK, hD9⟩, hS.F ht⟩) hS.2.2 dMd_same_230
        · skip
          refine lv_iload_n hx hb dMd_same_49 rfl (lv_at hl 1 rfl) ?_
          refine lv_if_eq (tgt := 172) hx hb dMd_same_50 (by decide) (fun _ => ?_) (fun c_25 => absurd c_25 (by decide))
          refine lv_aload_n hx hb dMd_same_172 rfl (lv_at hl 2 rfl) ?_
          refine va_get (D := (dC, dI)) (ci := 3) (v := .ref y1) (C := RMd) (T := TMd) (N := 17) hx hb hts inMd hown hK hP 0 rfl rfl 2 (by decide) (hts _ in_82) (fun _ h9 => h9) rfl dMd_same_173 ?_
          refine lv_iload_n hx hb dMd_same_176 rfl (lv_at hl 3 rfl) ?_
          refine vq_iald (k := a) (f := ma 0) hx hb hK hP 1 0 rfl rfl rfl (by omega) (by decide) dMd_same_177 ?_
          refine lv_ri (y := nI n) hix ?_
          refine lv_istore (lv' := [(4, .int (nI n)), (3, .int 0), (0, .ref y), (1, .int (nI a)), (2, .int (nI b))]) hx hb dMd_same_178 hl (by decide) rfl (fun ls hl => ?_)
          refine lv_iload hx hb dMd_same_180 (lv_at hl 0 rfl) ?_
          refine lv_aload_n hx hb dMd_same_182 rfl (lv_at hl 2 rfl) ?_
          refine va_get (D := (dC, dI)) (ci := 3) (v := .ref y1) (C := RMd) (T := TMd) (N := 17) hx hb hts inMd hown hK hP 0 rfl rfl 2 (by decide) (hts _ in_82) (fun _ h9 => h9) rfl dMd_same_183 ?_
          refine lv_iload_n hx hb dMd_same_186 rfl (lv_at hl 3 rfl) ?_
          refine vq_iald (k := a) (f := ma 0) hx hb hK hP 1 0 rfl rfl rfl (by omega) (by decide) dMd_same_187 ?_
          refine lv_ri (y := nI n) hix ?_
          refine lv_aload_n hx hb dMd_same_188 rfl (lv_at hl 2 rfl) ?_
          refine va_get (D := (dC, dI)) (ci := 3) (v := .int (mi 1)) (C := RMd) (T := TMd) (N := 17) hx hb hts inMd hown hK hP 0 rfl rfl 1 (by decide) (hts _ in_86) (fun _ h9 => h9) rfl dMd_same_189 ?_
          refine lv_ri (y := nI v) hver ?_
          refine lv_isub hx hb dMd_same_192 ?_
          refine lv_icmp_lt (tgt := 229) hx hb dMd_same_193 (by decide) (fun c_26 => ?_) (fun c_26 => ?_)
          · skip
            refine lv_iload_n hx hb dMd_same_229 rfl (lv_at hl 1 rfl) ?_
            have hP9 : va_P (dC, dI) vwCl (wM y y1 y2 y3 y4 y5 y6 y7 y8 y9 y10 cI (va_up mi 0 0) ma) H := by exact hP
            have hD9 : va_D A (wM y y1 y2 y3 y4 y5 y6 y7 y8 y9 y10 cI (va_up mi 0 0) ma) := by exact hD
            exact W.zret (v := 0) (ty := .boolean) hx hb hr rfl (fun t ht hW => ⟨⟨0, (), rfl, by unfold m_sm; rw [if_pos hAB, if_pos hQ0], by rw [ht]; exact hP9, va_K.moved hW.alike hK, hD9⟩, hS.F ht⟩) hS.2.2 dMd_same_230
          · skip
            refine lv_iload_n hx hb dMd_same_196 rfl (lv_at hl 1 rfl) ?_
            refine lv_if_eq (tgt := 229) hx hb dMd_same_197 (by decide) (fun _ => ?_) (fun c_27 => absurd c_27 (by decide))
            refine lv_iload_n hx hb dMd_same_229 rfl (lv_at hl 1 rfl) ?_
            have hP9 : va_P (dC, dI) vwCl (wM y y1 y2 y3 y4 y5 y6 y7 y8 y9 y10 cI (va_up mi 0 0) ma) H := by exact hP
            have hD9 : va_D A (wM y y1 y2 y3 y4 y5 y6 y7 y8 y9 y10 cI (va_up mi 0 0) ma) := by exact hD
            exact W.zret (v := 0) (ty := .boolean) hx hb hr rfl (fun t ht hW => ⟨⟨0, (), rfl, by unfold m_sm; rw [if_pos hAB, if_pos hQ0], by rw [ht]; exact hP9, va_K.moved hW.alike hK, hD9⟩, hS.F ht⟩) hS.2.2 dMd_same_230
      · skip
        refine lv_aload_n hx hb dMd_same_80 rfl (lv_at hl 2 rfl) ?_
        refine va_get (D := (dC, dI)) (ci := 3) (v := .ref y7) (C := RMd) (T := TMd) (N := 17) hx hb hts inMd hown hK hP 0 rfl rfl 8 (by decide) (hts _ in_104) (fun _ h9 => h9) rfl dMd_same_81 ?_
        refine lv_bipush (v := nI 16) hx hb dMd_same_84 (by decide) ?_
        refine lv_iload_n hx hb dMd_same_86 rfl (lv_at hl 3 rfl) ?_
        refine lv_imul hx hb dMd_same_87 ?_
        refine lv_ri (y := nI (16 * a)) (pk_mul _ _) ?_
        refine lv_iload hx hb dMd_same_88 (lv_at hl 0 rfl) ?_
        refine lv_iadd hx hb dMd_same_90 ?_
        refine lv_ri (y := nI ((16 * a) + j)) (nI_add _ _) ?_
        refine vq_iald (k := ((16 * a) + j)) (f := ma 6) hx hb hK hP 7 0 rfl rfl rfl (by omega) (by decide) dMd_same_91 ?_
        refine lv_aload_n hx hb dMd_same_92 rfl (lv_at hl 2 rfl) ?_
        refine va_get (D := (dC, dI)) (ci := 3) (v := .ref y7) (C := RMd) (T := TMd) (N := 17) hx hb hts inMd hown hK hP 0 rfl rfl 8 (by decide) (hts _ in_104) (fun _ h9 => h9) rfl dMd_same_93 ?_
        refine lv_bipush (v := nI 16) hx hb dMd_same_96 (by decide) ?_
        refine lv_iload_n hx hb dMd_same_98 rfl (lv_at hl 4 rfl) ?_
        refine lv_imul hx hb dMd_same_99 ?_
        refine lv_ri (y := nI (16 * b)) (pk_mul _ _) ?_
        refine lv_iload hx hb dMd_same_100 (lv_at hl 0 rfl) ?_
        refine lv_iadd hx hb dMd_same_102 ?_
        refine lv_ri (y := nI ((16 * b) + j)) (nI_add _ _) ?_
        refine vq_iald (k := ((16 * b) + j)) (f := ma 6) hx hb hK hP 7 0 rfl rfl rfl (by omega) (by decide) dMd_same_103 ?_
        refine lv_icmp_ne (tgt := 164) hx hb dMd_same_104 (by decide) (fun c_28 => ?_) (fun c_28 => ?_)
        · skip
          have hQ0 : m_sq (ma 5) (ma 6) (ma 8) a b (64 * a + n % 64) (64 * b + n % 64) 16 0 = 0 := by rw [hE]; simp only [m_sq, if_pos hAB, if_pos c_21, if_neg c_28]
          refine lv_iconst (v := 0) hx hb dMd_same_164 (by decide) ?_
          refine lv_istore_n (lv' := [(3, .int 0), (4, .int (nI j)), (0, .ref y), (1, .int (nI a)), (2, .int (nI b))]) hx hb dMd_same_165 rfl hl (by decide) rfl (fun ls hl => ?_)
          refine lv_iinc (v := nI (j + 1)) (lv' := [(4, .int (nI (j + 1))), (3, .int 0), (0, .ref y), (1, .int (nI a)), (2, .int (nI b))]) hx hb dMd_same_166 hl (k := 1) rfl (by first | exact nI_1 _ | (show _ + (1 : Int32) = _; exact nI_1 _)) (by decide) rfl (fun ls hl => ?_)
          refine lv_goto (tgt := 42) hx hb dMd_same_169 (by decide) ?_
          refine lv_iload hx hb dMd_same_42 (lv_at hl 0 rfl) ?_
          refine lv_bipush (v := nI 16) hx hb dMd_same_44 (by decide) ?_
          refine lv_icmp_ge (tgt := 172) hx hb dMd_same_46 (by decide) (fun c_29 => ?_) (fun c_29 => ?_)
          · skip
            refine lv_aload_n hx hb dMd_same_172 rfl (lv_at hl 2 rfl) ?_
            refine va_get (D := (dC, dI)) (ci := 3) (v := .ref y1) (C := RMd) (T := TMd) (N := 17) hx hb hts inMd hown hK hP 0 rfl rfl 2 (by decide) (hts _ in_82) (fun _ h9 => h9) rfl dMd_same_173 ?_
            refine lv_iload_n hx hb dMd_same_176 rfl (lv_at hl 3 rfl) ?_
            refine vq_iald (k := a) (f := ma 0) hx hb hK hP 1 0 rfl rfl rfl (by omega) (by decide) dMd_same_177 ?_
            refine lv_ri (y := nI n) hix ?_
            refine lv_istore (lv' := [(4, .int (nI n)), (3, .int 0), (0, .ref y), (1, .int (nI a)), (2, .int (nI b))]) hx hb dMd_same_178 hl (by decide) rfl (fun ls hl => ?_)
            refine lv_iload hx hb dMd_same_180 (lv_at hl 0 rfl) ?_
            refine lv_aload_n hx hb dMd_same_182 rfl (lv_at hl 2 rfl) ?_
            refine va_get (D := (dC, dI)) (ci := 3) (v := .ref y1) (C := RMd) (T := TMd) (N := 17) hx hb hts inMd hown hK hP 0 rfl rfl 2 (by decide) (hts _ in_82) (fun _ h9 => h9) rfl dMd_same_183 ?_
            refine lv_iload_n hx hb dMd_same_186 rfl (lv_at hl 3 rfl) ?_
            refine vq_iald (k := a) (f := ma 0) hx hb hK hP 1 0 rfl rfl rfl (by omega) (by decide) dMd_same_187 ?_
            refine lv_ri (y := nI n) hix ?_
            refine lv_aload_n hx hb dMd_same_188 rfl (lv_at hl 2 rfl) ?_
            refine va_get (D := (dC, dI)) (ci := 3) (v := .int (mi 1)) (C := RMd) (T := TMd) (N := 17) hx hb hts inMd hown hK hP 0 rfl rfl 1 (by decide) (hts _ in_86) (fun _ h9 => h9) rfl dMd_same_189 ?_
            refine lv_ri (y := nI v) hver ?_
            refine lv_isub hx hb dMd_same_192 ?_
            refine lv_icmp_lt (tgt := 229) hx hb dMd_same_193 (by decide) (fun c_30 => ?_) (fun c_30 => ?_)
            · skip
              refine lv_iload_n hx hb dMd_same_229 rfl (lv_at hl 1 rfl) ?_
              have hP9 : va_P (dC, dI) vwCl (wM y y1 y2 y3 y4 y5 y6 y7 y8 y9 y10 cI (va_up mi 0 0) ma) H := by exact hP
              have hD9 : va_D A (wM y y1 y2 y3 y4 y5 y6 y7 y8 y9 y10 cI (va_up mi 0 0) ma) := by exact hD
              exact W.zret (v := 0) (ty := .boolean) hx hb hr rfl (fun t ht hW => ⟨⟨0, (), rfl, by unfold m_sm; rw [if_pos hAB, if_pos hQ0], by rw [ht]; exact hP9, va_K.moved hW.alike hK, hD9⟩, hS.F ht⟩) hS.2.2 dMd_same_230
            · skip
              refine lv_iload_n hx hb dMd_same_196 rfl (lv_at hl 1 rfl) ?_
              refine lv_if_eq (tgt := 229) hx hb dMd_same_197 (by decide) (fun _ => ?_) (fun c_31 => absurd c_31 (by decide))
              refine lv_iload_n hx hb dMd_same_229 rfl (lv_at hl 1 rfl) ?_
              have hP9 : va_P (dC, dI) vwCl (wM y y1 y2 y3 y4 y5 y6 y7 y8 y9 y10 cI (va_up mi 0 0) ma) H := by exact hP
              have hD9 : va_D A (wM y y1 y2 y3 y4 y5 y6 y7 y8 y9 y10 cI (va_up mi 0 0) ma) := by exact hD
              exact W.zret (v := 0) (ty := .boolean) hx hb hr rfl (fun t ht hW => ⟨⟨0, (), rfl, by unfold m_sm; rw [if_pos hAB, if_pos hQ0], by rw [ht]; exact hP9, va_K.moved hW.alike hK, hD9⟩, hS.F ht⟩) hS.2.2 dMd_same_230
          · skip
            refine lv_iload_n hx hb dMd_same_49 rfl (lv_at hl 1 rfl) ?_
            refine lv_if_eq (tgt := 172) hx hb dMd_same_50 (by decide) (fun _ => ?_) (fun c_32 => absurd c_32 (by decide))
            refine lv_aload_n hx hb dMd_same_172 rfl (lv_at hl 2 rfl) ?_
            refine va_get (D := (dC, dI)) (ci := 3) (v := .ref y1) (C := RMd) (T := TMd) (N := 17) hx hb hts inMd hown hK hP 0 rfl rfl 2 (by decide) (hts _ in_82) (fun _ h9 => h9) rfl dMd_same_173 ?_
            refine lv_iload_n hx hb dMd_same_176 rfl (lv_at hl 3 rfl) ?_
            refine vq_iald (k := a) (f := ma 0) hx hb hK hP 1 0 rfl rfl rfl (by omega) (by decide) dMd_same_177 ?_
            refine lv_ri (y := nI n) hix ?_
            refine lv_istore (lv' := [(4, .int (nI n)), (3, .int 0), (0, .ref y), (1, .int (nI a)), (2, .int (nI b))]) hx hb dMd_same_178 hl (by decide) rfl (fun ls hl => ?_)
            refine lv_iload hx hb dMd_same_180 (lv_at hl 0 rfl) ?_
            refine lv_aload_n hx hb dMd_same_182 rfl (lv_at hl 2 rfl) ?_
            refine va_get (D := (dC, dI)) (ci := 3) (v := .ref y1) (C := RMd) (T := TMd) (N := 17) hx hb hts inMd hown hK hP 0 rfl rfl 2 (by decide) (hts _ in_82) (fun _ h9 => h9) rfl dMd_same_183 ?_
            refine lv_iload_n hx hb dMd_same_186 rfl (lv_at hl 3 rfl) ?_
            refine vq_iald (k := a) (f := ma 0) hx hb hK hP 1 0 rfl rfl rfl (by omega) (by decide) dMd_same_187 ?_
            refine lv_ri (y := nI n) hix ?_
            refine lv_aload_n hx hb dMd_same_188 rfl (lv_at hl 2 rfl) ?_
            refine va_get (D := (dC, dI)) (ci := 3) (v := .int (mi 1)) (C := RMd) (T := TMd) (N := 17) hx hb hts inMd hown hK hP 0 rfl rfl 1 (by decide) (hts _ in_86) (fun _ h9 => h9) rfl dMd_same_189 ?_
            refine lv_ri (y := nI v) hver ?_
            refine lv_isub hx hb dMd_same_192 ?_
            refine lv_icmp_lt (tgt := 229) hx hb dMd_same_193 (by decide) (fun c_33 => ?_) (fun c_33 => ?_)
            · skip
              refine lv_iload_n hx hb dMd_same_229 rfl (lv_at hl 1 rfl) ?_
              have hP9 : va_P (dC, dI) vwCl (wM y y1 y2 y3 y4 y5 y6 y7 y8 y9 y10 cI (va_up mi 0 0) ma) H := by exact hP
              have hD9 : va_D A (wM y y1 y2 y3 y4 y5 y6 y7 y8 y9 y10 cI (va_up mi 0 0) ma) := by exact hD
              exact W.zret (v := 0) (ty := .boolean) hx hb hr rfl (fun t ht hW => ⟨⟨0, (), rfl, by unfold m_sm; rw [if_pos hAB, if_pos hQ0], by rw [ht]; exact hP9, va_K.moved hW.alike hK, hD9⟩, hS.F ht⟩) hS.2.2 dMd_same_230
            · skip
              refine lv_iload_n hx hb dMd_same_196 rfl (lv_at hl 1 rfl) ?_
              refine lv_if_eq (tgt := 229) hx hb dMd_same_197 (by decide) (fun _ => ?_) (fun c_34 => absurd c_34 (by decide))
              refine lv_iload_n hx hb dMd_same_229 rfl (lv_at hl 1 rfl) ?_
              have hP9 : va_P (dC, dI) vwCl (wM y y1 y2 y3 y4 y5 y6 y7 y8 y9 y10 cI (va_up mi 0 0) ma) H := by exact hP
              have hD9 : va_D A (wM y y1 y2 y3 y4 y5 y6 y7 y8 y9 y10 cI (va_up mi 0 0) ma) := by exact hD
              exact W.zret (v := 0) (ty := .boolean) hx hb hr rfl (fun t ht hW => ⟨⟨0, (), rfl, by unfold m_sm; rw [if_pos hAB, if_pos hQ0], by rw [ht]; exact hP9, va_K.moved hW.alike hK, hD9⟩, hS.F ht⟩) hS.2.2 dMd_same_230
        · skip
          refine lv_aload_n hx hb dMd_same_107 rfl (lv_at hl 2 rfl) ?_
          refine va_get (D := (dC, dI)) (ci := 3) (v := .ref y9) (C := RMd) (T := TMd) (N := 17) hx hb hts inMd hown hK hP 0 rfl rfl 10 (by decide) (hts _ in_103) (fun _ h9 => h9) rfl dMd_same_108 ?_
          refine lv_bipush (v := nI 16) hx hb dMd_same_111 (by decide) ?_
          refine lv_bipush (v := nI 64) hx hb dMd_same_113 (by decide) ?_
          refine lv_iload_n hx hb dMd_same_115 rfl (lv_at hl 3 rfl) ?_
          refine lv_imul hx hb dMd_same_116 ?_
          refine lv_ri (y := nI (64 * a)) (pk_mul _ _) ?_
          refine lv_aload_n hx hb dMd_same_117 rfl (lv_at hl 2 rfl) ?_
          refine va_get (D := (dC, dI)) (ci := 3) (v := .ref y1) (C := RMd) (T := TMd) (N := 17) hx hb hts inMd hown hK hP 0 rfl rfl 2 (by decide) (hts _ in_82) (fun _ h9 => h9) rfl dMd_same_118 ?_
          refine lv_iload_n hx hb dMd_same_121 rfl (lv_at hl 3 rfl) ?_
          refine vq_iald (k := a) (f := ma 0) hx hb hK hP 1 0 rfl rfl rfl (by omega) (by decide) dMd_same_122 ?_
          refine lv_ri (y := nI n) hix ?_
          refine lv_bipush (v := nI 64) hx hb dMd_same_123 (by decide) ?_
          refine lv_irem hx hb dMd_same_125 (by decide) ?_
          refine lv_ri (y := nI (n % 64)) (pk_rem (by omega) (by decide) (by decide)) ?_
          refine lv_iadd hx hb dMd_same_126 ?_
          refine lv_ri (y := nI ((64 * a) + (n % 64))) (nI_add _ _) ?_
          refine lv_imul hx hb dMd_same_127 ?_
          refine lv_ri (y := nI (16 * ((64 * a) + (n % 64)))) (pk_mul _ _) ?_
          refine lv_iload hx hb dMd_same_128 (lv_at hl 0 rfl) ?_
          refine lv_iadd hx hb dMd_same_130 ?_
          refine lv_ri (y := nI ((16 * ((64 * a) + (n % 64))) + j)) (nI_add _ _) ?_
          refine vq_iald (k := ((16 * ((64 * a) + (n % 64))) + j)) (f := ma 8) hx hb hK hP 9 0 rfl rfl rfl (by omega) (by decide) dMd_same_131 ?_
          refine lv_aload_n hx hb dMd_same_132 rfl (lv_at hl 2 rfl) ?_
          refine va_get (D := (dC, dI)) (ci := 3) (v := .ref y9) (C := RMd) (T := TMd) (N := 17) hx hb hts inMd hown hK hP 0 rfl rfl 10 (by decide) (hts _ in_103) (fun _ h9 => h9) rfl dMd_same_133 ?_
          refine lv_bipush (v := nI 16) hx hb dMd_same_136 (by decide) ?_
          refine lv_bipush (v := nI 64) hx hb dMd_same_138 (by decide) ?_
          refine lv_iload_n hx hb dMd_same_140 rfl (lv_at hl 4 rfl) ?_
          refine lv_imul hx hb dMd_same_141 ?_
          refine lv_ri (y := nI (64 * b)) (pk_mul _ _) ?_
          refine lv_aload_n hx hb dMd_same_142 rfl (lv_at hl 2 rfl) ?_
          refine va_get (D := (dC, dI)) (ci := 3) (v := .ref y1) (C := RMd) (T := TMd) (N := 17) hx hb hts inMd hown hK hP 0 rfl rfl 2 (by decide) (hts _ in_82) (fun _ h9 => h9) rfl dMd_same_143 ?_
          refine lv_iload_n hx hb dMd_same_146 rfl (lv_at hl 4 rfl) ?_
          refine vq_iald (k := b) (f := ma 0) hx hb hK hP 1 0 rfl rfl rfl (by omega) (by decide) dMd_same_147 ?_
          refine lv_ri (y := nI n) hixb ?_
          refine lv_bipush (v := nI 64) hx hb dMd_same_148 (by decide) ?_
          refine lv_irem hx hb dMd_same_150 (by decide) ?_
          refine lv_ri (y := nI (n % 64)) (pk_rem (by omega) (by decide) (by decide)) ?_
          refine lv_iadd hx hb dMd_same_151 ?_
          refine lv_ri (y := nI ((64 * b) + (n % 64))) (nI_add _ _) ?_
          refine lv_imul hx hb dMd_same_152 ?_
          refine lv_ri (y := nI (16 * ((64 * b) + (n % 64)))) (pk_mul _ _) ?_
          refine lv_iload hx hb dMd_same_153 (lv_at hl 0 rfl) ?_
          refine lv_iadd hx hb dMd_same_155 ?_
          refine lv_ri (y := nI ((16 * ((64 * b) + (n % 64))) + j)) (nI_add _ _) ?_
          refine vq_iald (k := ((16 * ((64 * b) + (n % 64))) + j)) (f := ma 8) hx hb hK hP 9 0 rfl rfl rfl (by omega) (by decide) dMd_same_156 ?_
          refine lv_icmp_ne (tgt := 164) hx hb dMd_same_157 (by decide) (fun c_35 => ?_) (fun c_35 => ?_)
          · skip
            have hQ0 : m_sq (ma 5) (ma 6) (ma 8) a b (64 * a + n % 64) (64 * b + n % 64) 16 0 = 0 := by rw [hE]; simp only [m_sq, if_pos hAB, if_pos c_21, if_pos c_28, if_neg c_35]
            refine lv_iconst (v := 0) hx hb dMd_same_164 (by decide) ?_
            refine lv_istore_n (lv' := [(3, .int 0), (4, .int (nI j)), (0, .ref y), (1, .int (nI a)), (2, .int (nI b))]) hx hb dMd_same_165 rfl hl (by decide) rfl (fun ls hl => ?_)
            refine lv_iinc (v := nI (j + 1)) (lv' := [(4, .int (nI (j + 1))), (3, .int 0), (0, .ref y), (1, .int (nI a)), (2, .int (nI b))]) hx hb dMd_same_166 hl (k := 1) rfl (by first | exact nI_1 _ | (show _ + (1 : Int32) = _; exact nI_1 _)) (by decide) rfl (fun ls hl => ?_)
            refine lv_goto (tgt := 42) hx hb dMd_same_169 (by decide) ?_
            refine lv_iload hx hb dMd_same_42 (lv_at hl 0 rfl) ?_
            refine lv_bipush (v := nI 16) hx hb dMd_same_44 (by decide) ?_
            refine lv_icmp_ge (tgt := 172) hx hb dMd_same_46 (by decide) (fun c_36 => ?_) (fun c_36 => ?_)
            · skip
              refine lv_aload_n hx hb dMd_same_172 rfl (lv_at hl 2 rfl) ?_
              refine va_get (D := (dC, dI)) (ci := 3) (v := .ref y1) (C := RMd) (T := TMd) (N := 17) hx hb hts inMd hown hK hP 0 rfl rfl 2 (by decide) (hts _ in_82) (fun _ h9 => h9) rfl dMd_same_173 ?_
              refine lv_iload_n hx hb dMd_same_176 rfl (lv_at hl 3 rfl) ?_
              refine vq_iald (k := a) (f := ma 0) hx hb hK hP 1 0 rfl rfl rfl (by omega) (by decide) dMd_same_177 ?_
              refine lv_ri (y := nI n) hix ?_
              refine lv_istore (lv' := [(4, .int (nI n)), (3, .int 0), (0, .ref y), (1, .int (nI a)), (2, .int (nI b))]) hx hb dMd_same_178 hl (by decide) rfl (fun ls hl => ?_)
              refine lv_iload hx hb dMd_same_180 (lv_at hl 0 rfl) ?_
              refine lv_aload_n hx hb dMd_same_182 rfl (lv_at hl 2 rfl) ?_
              refine va_get (D := (dC, dI)) (ci := 3) (v := .ref y1) (C := RMd) (T := TMd) (N := 17) hx hb hts inMd hown hK hP 0 rfl rfl 2 (by decide) (hts _ in_82) (fun _ h9 => h9) rfl dMd_same_183 ?_
              refine lv_iload_n hx hb dMd_same_186 rfl (lv_at hl 3 rfl) ?_
              refine vq_iald (k := a) (f := ma 0) hx hb hK hP 1 0 rfl rfl rfl (by omega) (by decide) dMd_same_187 ?_
              refine lv_ri (y := nI n) hix ?_
              refine lv_aload_n hx hb dMd_same_188 rfl (lv_at hl 2 rfl) ?_
              refine va_get (D := (dC, dI)) (ci := 3) (v := .int (mi 1)) (C := RMd) (T := TMd) (N := 17) hx hb hts inMd hown hK hP 0 rfl rfl 1 (by decide) (hts _ in_86) (fun _ h9 => h9) rfl dMd_same_189 ?_
              refine lv_ri (y := nI v) hver ?_
              refine lv_isub hx hb dMd_same_192 ?_
              refine lv_icmp_lt (tgt := 229) hx hb dMd_same_193 (by decide) (fun c_37 => ?_) (fun c_37 => ?_)
              · skip
                refine lv_iload_n hx hb dMd_same_229 rfl (lv_at hl 1 rfl) ?_
                have hP9 : va_P (dC, dI) vwCl (wM y y1 y2 y3 y4 y5 y6 y7 y8 y9 y10 cI (va_up mi 0 0) ma) H := by exact hP
                have hD9 : va_D A (wM y y1 y2 y3 y4 y5 y6 y7 y8 y9 y10 cI (va_up mi 0 0) ma) := by exact hD
                exact W.zret (v := 0) (ty := .boolean) hx hb hr rfl (fun t ht hW => ⟨⟨0, (), rfl, by unfold m_sm; rw [if_pos hAB, if_pos hQ0], by rw [ht]; exact hP9, va_K.moved hW.alike hK, hD9⟩, hS.F ht⟩) hS.2.2 dMd_same_230
              · skip
                refine lv_iload_n hx hb dMd_same_196 rfl (lv_at hl 1 rfl) ?_
                refine lv_if_eq (tgt := 229) hx hb dMd_same_197 (by decide) (fun _ => ?_) (fun c_38 => absurd c_38 (by decide))
                refine lv_iload_n hx hb dMd_same_229 rfl (lv_at hl 1 rfl) ?_
                have hP9 : va_P (dC, dI) vwCl (wM y y1 y2 y3 y4 y5 y6 y7 y8 y9 y10 cI (va_up mi 0 0) ma) H := by exact hP
                have hD9 : va_D A (wM y y1 y2 y3 y4 y5 y6 y7 y8 y9 y10 cI (va_up mi 0 0) ma) := by exact hD
                exact W.zret (v := 0) (ty := .boolean) hx hb hr rfl (fun t ht hW => ⟨⟨0, (), rfl, by unfold m_sm; rw [if_pos hAB, if_pos hQ0], by rw [ht]; exact hP9, va_K.moved hW.alike hK, hD9⟩, hS.F ht⟩) hS.2.2 dMd_same_230
            · skip
              refine lv_iload_n hx hb dMd_same_49 rfl (lv_at hl 1 rfl) ?_
              refine lv_if_eq (tgt := 172) hx hb dMd_same_50 (by decide) (fun _ => ?_) (fun c_39 => absurd c_39 (by decide))
              refine lv_aload_n hx hb dMd_same_172 rfl (lv_at hl 2 rfl) ?_
              refine va_get (D := (dC, dI)) (ci := 3) (v := .ref y1) (C := RMd) (T := TMd) (N := 17) hx hb hts inMd hown hK hP 0 rfl rfl 2 (by decide) (hts _ in_82) (fun _ h9 => h9) rfl dMd_same_173 ?_
              refine lv_iload_n hx hb dMd_same_176 rfl (lv_at hl 3 rfl) ?_
              refine vq_iald (k := a) (f := ma 0) hx hb hK hP 1 0 rfl rfl rfl (by omega) (by decide) dMd_same_177 ?_
              refine lv_ri (y := nI n) hix ?_
              refine lv_istore (lv' := [(4, .int (nI n)), (3, .int 0), (0, .ref y), (1, .int (nI a)), (2, .int (nI b))]) hx hb dMd_same_178 hl (by decide) rfl (fun ls hl => ?_)
              refine lv_iload hx hb dMd_same_180 (lv_at hl 0 rfl) ?_
              refine lv_aload_n hx hb dMd_same_182 rfl (lv_at hl 2 rfl) ?_
              refine va_get (D := (dC, dI)) (ci := 3) (v := .ref y1) (C := RMd) (T := TMd) (N := 17) hx hb hts inMd hown hK hP 0 rfl rfl 2 (by decide) (hts _ in_82) (fun _ h9 => h9) rfl dMd_same_183 ?_
              refine lv_iload_n hx hb dMd_same_186 rfl (lv_at hl 3 rfl) ?_
              refine vq_iald (k := a) (f := ma 0) hx hb hK hP 1 0 rfl rfl rfl (by omega) (by decide) dMd_same_187 ?_
              refine lv_ri (y := nI n) hix ?_
              refine lv_aload_n hx hb dMd_same_188 rfl (lv_at hl 2 rfl) ?_
              refine va_get (D := (dC, dI)) (ci := 3) (v := .int (mi 1)) (C := RMd) (T := TMd) (N := 17) hx hb hts inMd hown hK hP 0 rfl rfl 1 (by decide) (hts _ in_86) (fun _ h9 => h9) rfl dMd_same_189 ?_
              refine lv_ri (y := nI v) hver ?_
              refine lv_isub hx hb dMd_same_192 ?_
              refine lv_icmp_lt (tgt := 229) hx hb dMd_same_193 (by decide) (fun c_40 => ?_) (fun c_40 => ?_)
              · skip
                refine lv_iload_n hx hb dMd_same_229 rfl (lv_at hl 1 rfl) ?_
                have hP9 : va_P (dC, dI) vwCl (wM y y1 y2 y3 y4 y5 y6 y7 y8 y9 y10 cI (va_up mi 0 0) ma) H := by exact hP
                have hD9 : va_D A (wM y y1 y2 y3 y4 y5 y6 y7 y8 y9 y10 cI (va_up mi 0 0) ma) := by exact hD
                exact W.zret (v := 0) (ty := .boolean) hx hb hr rfl (fun t ht hW => ⟨⟨0, (), rfl, by unfold m_sm; rw [if_pos hAB, if_pos hQ0], by rw [ht]; exact hP9, va_K.moved hW.alike hK, hD9⟩, hS.F ht⟩) hS.2.2 dMd_same_230
              · skip
                refine lv_iload_n hx hb dMd_same_196 rfl (lv_at hl 1 rfl) ?_
                refine lv_if_eq (tgt := 229) hx hb dMd_same_197 (by decide) (fun _ => ?_) (fun c_41 => absurd c_41 (by decide))
                refine lv_iload_n hx hb dMd_same_229 rfl (lv_at hl 1 rfl) ?_
                have hP9 : va_P (dC, dI) vwCl (wM y y1 y2 y3 y4 y5 y6 y7 y8 y9 y10 cI (va_up mi 0 0) ma) H := by exact hP
                have hD9 : va_D A (wM y y1 y2 y3 y4 y5 y6 y7 y8 y9 y10 cI (va_up mi 0 0) ma) := by exact hD
                exact W.zret (v := 0) (ty := .boolean) hx hb hr rfl (fun t ht hW => ⟨⟨0, (), rfl, by unfold m_sm; rw [if_pos hAB, if_pos hQ0], by rw [ht]; exact hP9, va_K.moved hW.alike hK, hD9⟩, hS.F ht⟩) hS.2.2 dMd_same_230
          · skip
            refine lv_iconst (v := 1) hx hb dMd_same_160 (by decide) ?_
            refine lv_goto (tgt := 165) hx hb dMd_same_161 (by decide) ?_
            refine lv_istore_n (lv' := [(3, .int 1), (4, .int (nI j)), (0, .ref y), (1, .int (nI a)), (2, .int (nI b))]) hx hb dMd_same_165 rfl hl (by decide) rfl (fun ls hl => ?_)
            refine lv_iinc (v := nI (j + 1)) (lv' := [(4, .int (nI (j + 1))), (3, .int 1), (0, .ref y), (1, .int (nI a)), (2, .int (nI b))]) hx hb dMd_same_166 hl (k := 1) rfl (by first | exact nI_1 _ | (show _ + (1 : Int32) = _; exact nI_1 _)) (by decide) rfl (fun ls hl => ?_)
            refine lv_goto (tgt := 42) hx hb dMd_same_169 (by decide) ?_
            have hl9 : lv_has ls 5 [(4, .int (nI (j + 1))), (3, .int 1), (0, .ref y), (1, .int (nI a)), (2, .int (nI b))] := by first | exact lv_sub hl [0, 1, 2, 3, 4] rfl | (simp only [m_sq, if_pos hAB, if_pos c_21, if_pos c_28, if_pos c_35]; exact lv_sub hl [0, 1, 2, 3, 4] rfl)
            have hE9 : m_sq (ma 5) (ma 6) (ma 8) a b (64 * a + n % 64) (64 * b + n % 64) 16 0 = m_sq (ma 5) (ma 6) (ma 8) a b (64 * a + n % 64) (64 * b + n % 64) (16 - (j + 1)) (j + 1) := by rw [hE]; simp only [m_sq, if_pos hAB, if_pos c_21, if_pos c_28, if_pos c_35]
            exact ih (j + 1, ls) ⟨hj, hE9, hl9⟩ (by show 16 - (j + 1) < 16 - j; omega)
set_option maxHeartbeats 4000000 in
set_option maxRecDepth 100000 in
/-- same(x, z), no fold x -/
theorem k_M_sameN (l : Launch) (dC : Nat → ClassId) (dI : Nat → Nat → Nat) (sz : Nat) (y y1 y2 y3 y4 y5 y6 y7 y8 y9 y10 : Nat) (cI : ClassId) (mi : Nat → Int32) (ma : Nat → Nat → Int32) (x z : Int32) (hfx : s_lk x = 1) : Met l yMd_same wsMd_same ({ frames := 3, cells := 0, slots := 0, locals := 120 }) (va_Pc [.ref y, .int x, .int z] (fun U => U.heap.size = sz ∧ va_P (dC, dI) vwCl (wM y y1 y2 y3 y4 y5 y6 y7 y8 y9 y10 cI mi ma) U.heap ∧ va_K (dC, dI) vwCl [(cI, .int)] U ∧ va_D (fun _ => True) (wM y y1 y2 y3 y4 y5 y6 y7 y8 y9 y10 cI mi ma))) (va_Qi (fun (r : Int32) (_ : Unit) => r = 0) (fun _ t => va_P (dC, dI) vwCl (wM y y1 y2 y3 y4 y5 y6 y7 y8 y9 y10 cI (va_up mi 0 1) ma) t.heap ∧ va_K (dC, dI) vwCl [(cI, .int)] t ∧ va_D (va_A (wM y y1 y2 y3 y4 y5 y6 y7 y8 y9 y10 cI mi ma) sz) (wM y y1 y2 y3 y4 y5 y6 y7 y8 y9 y10 cI (va_up mi 0 1) ma)) (va_A (wM y y1 y2 y3 y4 y5 y6 y7 y8 y9 y10 cI mi ma) sz)) 0 0 (va_A (wM y y1 y2 y3 y4 y5 y6 y7 y8 y9 y10 cI mi ma) sz) := by
  refine Met.ofW (cc := cMd_same) (maxL := 5) (ret := (some .boolean)) (by decide) rfl ?_
  intro p e s m args below meth c s₁ B hml hv
  obtain ⟨rfl, hsz, hP, hK, hD0⟩ := hv
  have hx := B.exec
  have hb := B.bytes
  have hr := B.returns
  have hts0 := atoms_spec (ws := wsMd_same) B.pre
  have hts := fun (w : Cond) (h : w ∈ lw_g) => hts0 w (List.mem_cons_of_mem _ h)
  have hown : s.vm.findClass RMd = some m.cls := findClass_of_methodNamed B.named
  have hlocks := B.notSynchronized
  subst hsz
  have hD := hD0.self (sz := s.heap.size)
  generalize hAe : va_A (wM y y1 y2 y3 y4 y5 y6 y7 y8 y9 y10 cI mi ma) s.heap.size = A at hD ⊢
  have hA : ∀ q : Nat, s.heap.size ≤ q → A q := fun q h => by rw [← hAe]; exact Or.inr h
  have hS : va_S A s.heap s.heap [] := va_S.rf
  have hP : va_P (dC, dI) vwCl (wM y y1 y2 y3 y4 y5 y6 y7 y8 y9 y10 cI mi ma) s.heap := hP
  have hl := lv_entry ([.ref y, .int x, .int z]) (n := 5) (Nat.le_of_ble_eq_true rfl)
  rw [lg_entry_eq]
  generalize (lg_sl ([.ref y, .int x, .int z]) ++ List.replicate (5 - (lg_sl ([.ref y, .int x, .int z])).length) Slot.unset).toArray = ls at hl ⊢
  have hl : lv_has ls 5 [(0, .ref y), (1, .int x), (2, .int z)] := hl
  refine lv_aload_n hx hb dMd_same_0 rfl (lv_at hl 0 rfl) ?_
  refine lv_iload_n hx hb dMd_same_1 rfl (lv_at hl 1 rfl) ?_
  have hPc := hP.sub (ws' := (wM y y1 y2 y3 y4 y5 y6 y7 y8 y9 y10 cI mi ma)) [0, 1, 2, 3, 4, 5, 6, 7, 8, 9, 10] rfl
  have hDc := hD.sub (ws' := (wM y y1 y2 y3 y4 y5 y6 y7 y8 y9 y10 cI mi ma)) [0, 1, 2, 3, 4, 5, 6, 7, 8, 9, 10] (by decide) rfl
  have hKc := hK.sub (tys' := [(cI, .int)]) [0] rfl
  have hFc := va_free (wc := (wM y y1 y2 y3 y4 y5 y6 y7 y8 y9 y10 cI mi ma)) hD hS hA [0, 1, 2, 3, 4, 5, 6, 7, 8, 9, 10] rfl
  refine va_calli (va_runV (As := [.int x]) (rest := []) ⟨hx, hb, hml, hown, hts⟩ (k_M_lacks1 l dC dI s.heap.size y y1 y2 y3 y4 y5 y6 y7 y8 y9 y10 cI mi ma x hfx) (cwV 1 hts (gd_V in_91 in_93 in_94 in_74 in_92) rfl rfl rfl (by decide +kernel) ⟨Nat.le_of_ble_eq_true rfl, Nat.le_of_ble_eq_true rfl⟩) ⟨fun a U g mk q => by obtain ⟨q0, q1, qP, qK, qD⟩ := q; exact ⟨q0, q1, qP, va_K.moved (u := U) (U := U.calling g mk a) (Vm.Alike.refl U.vm) qK, qD⟩, va_recv hKc hPc (ci := 3) (q0 := 0) rfl rfl, fun U hU hW => ⟨rfl, by rw [hU], by rw [hU]; exact hPc, va_K.moved hW.alike hKc, hDc.weaken (fun _ _ _ _ => trivial)⟩⟩ rfl rfl hl.1 rfl (lv_room (Nat.le_of_ble_eq_true rfl)) dMd_same_2 ⟨Nat.le_of_ble_eq_true rfl, Nat.le_of_ble_eq_true rfl⟩) hS (fun q _ h => hFc q h) hFc (fun r_1 u t H1 locs ht hvm hw hB hz1 hk1 hS => ?_)
  obtain ⟨hP1, hK1, hD1⟩ := hB
  rw [ht] at hP1
  obtain ⟨hP, hD⟩ := va_join (wr := []) (w1 := (wM y y1 y2 y3 y4 y5 y6 y7 y8 y9 y10 cI (va_up mi 0 1) ma)) hP hD [0, 1, 2, 3, 4, 5, 6, 7, 8, 9, 10] [] rfl rfl (by decide) (by decide) hk1 hFc hP1 hD1
  generalize H1 = H at hP hS ⊢
  have hP : va_P (dC, dI) vwCl (wM y y1 y2 y3 y4 y5 y6 y7 y8 y9 y10 cI (va_up mi 0 1) ma) H := hP
  have hD : va_D A (wM y y1 y2 y3 y4 y5 y6 y7 y8 y9 y10 cI (va_up mi 0 1) ma) := hD
  have hw : r_1 = 1 := hw
  subst hw
  refine lv_if_ne (tgt := 16) hx hb dMd_same_5 (by decide) (fun _ => ?_) (fun c_2 => absurd c_2 (by decide))
  refine lv_iconst (v := 0) hx hb dMd_same_16 (by decide) ?_
  have hP9 : va_P (dC, dI) vwCl (wM y y1 y2 y3 y4 y5 y6 y7 y8 y9 y10 cI (va_up mi 0 1) ma) H := by exact hP
  have hD9 : va_D A (wM y y1 y2 y3 y4 y5 y6 y7 y8 y9 y10 cI (va_up mi 0 1) ma) := by exact hD
  exact W.zret (v := 0) (ty := .boolean) hx hb hr rfl (fun t ht hW => ⟨⟨0, (), rfl, rfl, by rw [ht]; exact hP9, va_K.moved hW.alike hK, hD9⟩, hS.F ht⟩) hS.2.2 dMd_same_17
set_option maxHeartbeats 4000000 in
set_option maxRecDepth 100000 in
/-- same(a, x), no fold x -/
theorem k_M_sameN2 (l : Launch) (dC : Nat → ClassId) (dI : Nat → Nat → Nat) (sz : Nat) (y y1 y2 y3 y4 y5 y6 y7 y8 y9 y10 : Nat) (cI : ClassId) (mi : Nat → Int32) (ma : Nat → Nat → Int32) (a : Nat) (ha4 : a < 4) (x : Int32) (hfx : s_lk x = 1) : Met l yMd_same wsMd_same ({ frames := 3, cells := 0, slots := 0, locals := 120 }) (va_Pc [.ref y, .int (nI a), .int x] (fun U => U.heap.size = sz ∧ va_P (dC, dI) vwCl (wM y y1 y2 y3 y4 y5 y6 y7 y8 y9 y10 cI mi ma) U.heap ∧ va_K (dC, dI) vwCl [(cI, .int)] U ∧ va_D (fun _ => True) (wM y y1 y2 y3 y4 y5 y6 y7 y8 y9 y10 cI mi ma))) (va_Qi (fun (r : Int32) (_ : Unit) => r = 0) (fun _ t => va_P (dC, dI) vwCl (wM y y1 y2 y3 y4 y5 y6 y7 y8 y9 y10 cI (va_up mi 0 1) ma) t.heap ∧ va_K (dC, dI) vwCl [(cI, .int)] t ∧ va_D (va_A (wM y y1 y2 y3 y4 y5 y6 y7 y8 y9 y10 cI mi ma) sz) (wM y y1 y2 y3 y4 y5 y6 y7 y8 y9 y10 cI (va_up mi 0 1) ma)) (va_A (wM y y1 y2 y3 y4 y5 y6 y7 y8 y9 y10 cI mi ma) sz)) 0 0 (va_A (wM y y1 y2 y3 y4 y5 y6 y7 y8 y9 y10 cI mi ma) sz) := by
  refine Met.ofW (cc := cMd_same) (maxL := 5) (ret := (some .boolean)) (by decide) rfl ?_
  intro p e s m args below meth c s₁ B hml hv
  obtain ⟨rfl, hsz, hP, hK, hD0⟩ := hv
  have hx := B.exec
  have hb := B.bytes
  have hr := B.returns
  have hts0 := atoms_spec (ws := wsMd_same) B.pre
  have hts := fun (w : Cond) (h : w ∈ lw_g) => hts0 w (List.mem_cons_of_mem _ h)
  have hown : s.vm.findClass RMd = some m.cls := findClass_of_methodNamed B.named
  have hlocks := B.notSynchronized
  subst hsz
  have hD := hD0.self (sz := s.heap.size)
  generalize hAe : va_A (wM y y1 y2 y3 y4 y5 y6 y7 y8 y9 y10 cI mi ma) s.heap.size = A at hD ⊢
  have hA : ∀ q : Nat, s.heap.size ≤ q → A q := fun q h => by rw [← hAe]; exact Or.inr h
  have hS : va_S A s.heap s.heap [] := va_S.rf
  have hP : va_P (dC, dI) vwCl (wM y y1 y2 y3 y4 y5 y6 y7 y8 y9 y10 cI mi ma) s.heap := hP
  have hl := lv_entry ([.ref y, .int (nI a), .int x]) (n := 5) (Nat.le_of_ble_eq_true rfl)
  rw [lg_entry_eq]
  generalize (lg_sl ([.ref y, .int (nI a), .int x]) ++ List.replicate (5 - (lg_sl ([.ref y, .int (nI a), .int x])).length) Slot.unset).toArray = ls at hl ⊢
  have hl : lv_has ls 5 [(0, .ref y), (1, .int (nI a)), (2, .int x)] := hl
  refine lv_aload_n hx hb dMd_same_0 rfl (lv_at hl 0 rfl) ?_
  refine lv_iload_n hx hb dMd_same_1 rfl (lv_at hl 1 rfl) ?_
  have hPc := hP.sub (ws' := (wM y y1 y2 y3 y4 y5 y6 y7 y8 y9 y10 cI mi ma)) [0, 1, 2, 3, 4, 5, 6, 7, 8, 9, 10] rfl
  have hDc := hD.sub (ws' := (wM y y1 y2 y3 y4 y5 y6 y7 y8 y9 y10 cI mi ma)) [0, 1, 2, 3, 4, 5, 6, 7, 8, 9, 10] (by decide) rfl
  have hKc := hK.sub (tys' := [(cI, .int)]) [0] rfl
  have hFc := va_free (wc := (wM y y1 y2 y3 y4 y5 y6 y7 y8 y9 y10 cI mi ma)) hD hS hA [0, 1, 2, 3, 4, 5, 6, 7, 8, 9, 10] rfl
  refine va_calli (va_runV (As := [.int (nI a)]) (rest := []) ⟨hx, hb, hml, hown, hts⟩ (k_M_lacks0 l dC dI s.heap.size y y1 y2 y3 y4 y5 y6 y7 y8 y9 y10 cI mi ma a ha4) (cwV 1 hts (gd_V in_91 in_93 in_94 in_74 in_92) rfl rfl rfl (by decide +kernel) ⟨Nat.le_of_ble_eq_true rfl, Nat.le_of_ble_eq_true rfl⟩) ⟨fun a U g mk q => by obtain ⟨q0, q1, qP, qK, qD⟩ := q; exact ⟨q0, q1, qP, va_K.moved (u := U) (U := U.calling g mk a) (Vm.Alike.refl U.vm) qK, qD⟩, va_recv hKc hPc (ci := 3) (q0 := 0) rfl rfl, fun U hU hW => ⟨rfl, by rw [hU], by rw [hU]; exact hPc, va_K.moved hW.alike hKc, hDc.weaken (fun _ _ _ _ => trivial)⟩⟩ rfl rfl hl.1 rfl (lv_room (Nat.le_of_ble_eq_true rfl)) dMd_same_2 ⟨Nat.le_of_ble_eq_true rfl, Nat.le_of_ble_eq_true rfl⟩) hS (fun q _ h => hFc q h) hFc (fun r_1 u t H1 locs ht hvm hw hB hz1 hk1 hS => ?_)
  obtain ⟨hP1, hK1, hD1⟩ := hB
  rw [ht] at hP1
  obtain ⟨hP, hD⟩ := va_join (wr := []) (w1 := (wM y y1 y2 y3 y4 y5 y6 y7 y8 y9 y10 cI (va_up mi 0 0) ma)) hP hD [0, 1, 2, 3, 4, 5, 6, 7, 8, 9, 10] [] rfl rfl (by decide) (by decide) hk1 hFc hP1 hD1
  generalize H1 = H at hP hS ⊢
  have hP : va_P (dC, dI) vwCl (wM y y1 y2 y3 y4 y5 y6 y7 y8 y9 y10 cI (va_up mi 0 0) ma) H := hP
  have hD : va_D A (wM y y1 y2 y3 y4 y5 y6 y7 y8 y9 y10 cI (va_up mi 0 0) ma) := hD
  have hw : r_1 = 0 := hw
  subst hw
  refine lv_if_ne (tgt := 16) hx hb dMd_same_5 (by decide) (fun c_2 => absurd c_2 (by decide)) (fun _ => ?_)
  refine lv_aload_n hx hb dMd_same_8 rfl (lv_at hl 0 rfl) ?_
  refine lv_iload_n hx hb dMd_same_9 rfl (lv_at hl 2 rfl) ?_
  have hPc := hP.sub (ws' := (wM y y1 y2 y3 y4 y5 y6 y7 y8 y9 y10 cI (va_up mi 0 0) ma)) [0, 1, 2, 3, 4, 5, 6, 7, 8, 9, 10] rfl
  have hDc := hD.sub (ws' := (wM y y1 y2 y3 y4 y5 y6 y7 y8 y9 y10 cI (va_up mi 0 0) ma)) [0, 1, 2, 3, 4, 5, 6, 7, 8, 9, 10] (by decide) rfl
  have hKc := hK.sub (tys' := [(cI, .int)]) [0] rfl
  have hFc := va_free (wc := (wM y y1 y2 y3 y4 y5 y6 y7 y8 y9 y10 cI (va_up mi 0 0) ma)) hD hS hA [0, 1, 2, 3, 4, 5, 6, 7, 8, 9, 10] rfl
  refine va_calli (va_runV (As := [.int x]) (rest := []) ⟨hx, hb, hml, hown, hts⟩ (k_M_lacks1 l dC dI H.size y y1 y2 y3 y4 y5 y6 y7 y8 y9 y10 cI (va_up mi 0 0) ma x hfx) (cwV 1 hts (gd_V in_91 in_93 in_94 in_74 in_92) rfl rfl rfl (by decide +kernel) ⟨Nat.le_of_ble_eq_true rfl, Nat.le_of_ble_eq_true rfl⟩) ⟨fun a U g mk q => by obtain ⟨q0, q1, qP, qK, qD⟩ := q; exact ⟨q0, q1, qP, va_K.moved (u := U) (U := U.calling g mk a) (Vm.Alike.refl U.vm) qK, qD⟩, va_recv hKc hPc (ci := 3) (q0 := 0) rfl rfl, fun U hU hW => ⟨rfl, by rw [hU], by rw [hU]; exact hPc, va_K.moved hW.alike hKc, hDc.weaken (fun _ _ _ _ => trivial)⟩⟩ rfl rfl hl.1 rfl (lv_room (Nat.le_of_ble_eq_true rfl)) dMd_same_10 ⟨Nat.le_of_ble_eq_true rfl, Nat.le_of_ble_eq_true rfl⟩) hS (fun q _ h => hFc q h) hFc (fun r_3 u t H1 locs ht hvm hw hB hz1 hk1 hS => ?_)
  obtain ⟨hP1, hK1, hD1⟩ := hB
  rw [ht] at hP1
  obtain ⟨hP, hD⟩ := va_join (wr := []) (w1 := (wM y y1 y2 y3 y4 y5 y6 y7 y8 y9 y10 cI (va_up mi 0 1) ma)) hP hD [0, 1, 2, 3, 4, 5, 6, 7, 8, 9, 10] [] rfl rfl (by decide) (by decide) hk1 hFc hP1 hD1
  generalize H1 = H at hP hS ⊢
  have hP : va_P (dC, dI) vwCl (wM y y1 y2 y3 y4 y5 y6 y7 y8 y9 y10 cI (va_up mi 0 1) ma) H := hP
  have hD : va_D A (wM y y1 y2 y3 y4 y5 y6 y7 y8 y9 y10 cI (va_up mi 0 1) ma) := hD
  have hw : r_3 = 1 := hw
  subst hw
  refine lv_if_eq (tgt := 18) hx hb dMd_same_13 (by decide) (fun c_4 => absurd c_4 (by decide)) (fun _ => ?_)
  refine lv_iconst (v := 0) hx hb dMd_same_16 (by decide) ?_
  have hP9 : va_P (dC, dI) vwCl (wM y y1 y2 y3 y4 y5 y6 y7 y8 y9 y10 cI (va_up mi 0 1) ma) H := by exact hP
  have hD9 : va_D A (wM y y1 y2 y3 y4 y5 y6 y7 y8 y9 y10 cI (va_up mi 0 1) ma) := by exact hD
  exact W.zret (v := 0) (ty := .boolean) hx hb hr rfl (fun t ht hW => ⟨⟨0, (), rfl, rfl, by rw [ht]; exact hP9, va_K.moved hW.alike hK, hD9⟩, hS.F ht⟩) hS.2.2 dMd_same_17
end
