theorem in_0 : (.fieldLink "VersionFold$Request" 24 "VersionFold$Request" "writeSet" "I" : Cond) ∈ lw_g := lw_mem (List.mem_append_right _ (List.mem_append_left _ (List.mem_of_getElem? (i := 88) rfl))) rfl
theorem in_1 : (.fieldLink "VersionFold$Request" 9 "VersionFold$Request" "session" "I" : Cond) ∈ lw_g := lw_mem (List.mem_append_right _ (List.mem_append_left _ (List.mem_of_getElem? (i := 79) rfl))) rfl
theorem in_2 : (.fieldLink "VersionFold$Request" 15 "VersionFold$Request" "seq" "I" : Cond) ∈ lw_g := lw_mem (List.mem_append_right _ (List.mem_append_left _ (List.mem_of_getElem? (i := 81) rfl))) rfl
theorem in_3 : (.fieldLink "VersionFold$Request" 18 "VersionFold$Request" "snapshot" "I" : Cond) ∈ lw_g := lw_mem (List.mem_append_right _ (List.mem_append_left _ (List.mem_of_getElem? (i := 83) rfl))) rfl
theorem in_4 : (.fieldLink "VersionFold$Request" 21 "VersionFold$Request" "readSet" "I" : Cond) ∈ lw_g := lw_mem (List.mem_append_right _ (List.mem_append_left _ (List.mem_of_getElem? (i := 85) rfl))) rfl
theorem in_5 : (.fieldLink "VersionFold$Request" 27 "VersionFold$Request" "values" "[I" : Cond) ∈ lw_g := lw_mem (List.mem_append_right _ (List.mem_append_left _ (List.mem_of_getElem? (i := 90) rfl))) rfl
theorem in_6 : (.fieldLink "VersionFold$Fold" 9 "VersionFold$Fold" "index" "I" : Cond) ∈ lw_g := lw_mem (List.mem_append_right _ (List.mem_append_left _ (List.mem_of_getElem? (i := 35) rfl))) rfl
theorem in_7 : (.fieldLink "VersionFold$Fold" 40 "VersionFold$Fold" "versions" "I" : Cond) ∈ lw_g := lw_mem (List.mem_append_right _ (List.mem_append_left _ (List.mem_of_getElem? (i := 34) rfl))) rfl
theorem in_8 : (.methodLink "VersionFold$Fold" 86 Lib.Math.max.name : Cond) ∈ lw_g := lw_mem (List.mem_append_right _ (List.mem_append_right _ (List.mem_append_left _ (List.mem_of_getElem? (i := 1) rfl)))) rfl
theorem in_9 : (.static Lib.Math.max.name : Cond) ∈ lw_g := lw_mem (List.mem_append_right _ (List.mem_append_left _ (List.mem_of_getElem? (i := 25) rfl))) rfl
theorem in_10 : (.initialized "java/lang/Math" : Cond) ∈ lw_g := lw_mem (List.mem_append_right _ (List.mem_append_left _ (List.mem_of_getElem? (i := 2) rfl))) rfl
theorem in_11 : (.code Lib.Math.max.name Lib.Math.max.code 2 (some .int) : Cond) ∈ lw_g := lw_mem (List.mem_append_right _ (List.mem_append_left _ (List.mem_of_getElem? (i := 26) rfl))) rfl
theorem in_12 : (.fieldLink "VersionFold$Fold" 31 "VersionFold$Fold" "lastWrites" "[I" : Cond) ∈ lw_g := lw_mem (List.mem_append_right _ (List.mem_append_left _ (List.mem_of_getElem? (i := 46) rfl))) rfl
theorem in_13 : (.fieldLink "VersionFold$Fold" 15 "VersionFold$Fold" "horizon" "I" : Cond) ∈ lw_g := lw_mem (List.mem_append_right _ (List.mem_append_left _ (List.mem_of_getElem? (i := 37) rfl))) rfl
theorem in_14 : (.fieldLink "VersionFold$Fold" 27 "VersionFold$Fold" "rows" "[I" : Cond) ∈ lw_g := lw_mem (List.mem_append_right _ (List.mem_append_left _ (List.mem_of_getElem? (i := 45) rfl))) rfl
theorem in_15 : (.methodLink "VersionFold$Fold" 77 yFo_rowStart : Cond) ∈ lw_g := lw_mem (List.mem_append_right _ (List.mem_append_right _ (List.mem_append_left _ (List.mem_of_getElem? (i := 6) rfl)))) rfl
theorem in_16 : (.code yFo_rowStart cFo_rowStart 1 (some .int) : Cond) ∈ lw_g := lw_mem (List.mem_append_right _ (List.mem_append_right _ (List.mem_append_left _ (List.mem_of_getElem? (i := 8) rfl)))) rfl
theorem in_17 : (.initialized "VersionFold$Fold" : Cond) ∈ lw_g := lw_mem (List.mem_append_right _ (List.mem_append_left _ (List.mem_of_getElem? (i := 3) rfl))) rfl
theorem in_18 : (.static yFo_rowStart : Cond) ∈ lw_g := lw_mem (List.mem_append_right _ (List.mem_append_right _ (List.mem_append_left _ (List.mem_of_getElem? (i := 7) rfl)))) rfl
theorem in_19 : (.methodLink "VersionFold$Fold" 99 yFo_valueAt : Cond) ∈ lw_g := lw_mem (List.mem_append_right _ (List.mem_append_right _ (List.mem_append_left _ (List.mem_of_getElem? (i := 139) rfl)))) rfl
theorem in_20 : (.code yFo_valueAt cFo_valueAt 3 (some .int) : Cond) ∈ lw_g := lw_mem (List.mem_append_right _ (List.mem_append_right _ (List.mem_append_left _ (List.mem_of_getElem? (i := 84) rfl)))) rfl
theorem in_21 : (.instanceMethod yFo_valueAt : Cond) ∈ lw_g := lw_mem (List.mem_append_right _ (List.mem_append_right _ (List.mem_append_left _ (List.mem_of_getElem? (i := 82) rfl)))) rfl
theorem in_22 : (.selects "VersionFold$Fold" yFo_valueAt yFo_valueAt : Cond) ∈ lw_g := lw_mem (List.mem_append_right _ (List.mem_append_right _ (List.mem_append_left _ (List.mem_of_getElem? (i := 83) rfl)))) rfl
theorem in_23 : (.constant "VersionFold$Fold" 43 1000000 : Cond) ∈ lw_g := lw_mem (List.mem_append_right _ (List.mem_append_left _ (List.mem_of_getElem? (i := 232) rfl))) rfl
theorem in_24 : (.fieldLink "VersionFold$Fold" 44 "VersionFold$Request" "snapshot" "I" : Cond) ∈ lw_g := lw_mem (List.mem_append_right _ (List.mem_append_left _ (List.mem_of_getElem? (i := 84) rfl))) rfl
theorem in_25 : (.fieldLink "VersionFold$Fold" 49 "VersionFold$Request" "seq" "I" : Cond) ∈ lw_g := lw_mem (List.mem_append_right _ (List.mem_append_left _ (List.mem_of_getElem? (i := 82) rfl))) rfl
theorem in_26 : (.fieldLink "VersionFold$Fold" 34 "VersionFold$Fold" "seqs" "[I" : Cond) ∈ lw_g := lw_mem (List.mem_append_right _ (List.mem_append_left _ (List.mem_of_getElem? (i := 47) rfl))) rfl
theorem in_27 : (.fieldLink "VersionFold$Fold" 52 "VersionFold$Request" "session" "I" : Cond) ∈ lw_g := lw_mem (List.mem_append_right _ (List.mem_append_left _ (List.mem_of_getElem? (i := 80) rfl))) rfl
theorem in_28 : (.methodLink "VersionFold$Fold" 55 yFo_oldestSnapshot : Cond) ∈ lw_g := lw_mem (List.mem_append_right _ (List.mem_append_left _ (List.mem_of_getElem? (i := 233) rfl))) rfl
theorem in_29 : (.code yFo_oldestSnapshot cFo_oldestSnapshot 1 (some .int) : Cond) ∈ lw_g := lw_mem (List.mem_append_right _ (List.mem_append_left _ (List.mem_of_getElem? (i := 236) rfl))) rfl
theorem in_30 : (.instanceMethod yFo_oldestSnapshot : Cond) ∈ lw_g := lw_mem (List.mem_append_right _ (List.mem_append_left _ (List.mem_of_getElem? (i := 234) rfl))) rfl
theorem in_31 : (.selects "VersionFold$Fold" yFo_oldestSnapshot yFo_oldestSnapshot : Cond) ∈ lw_g := lw_mem (List.mem_append_right _ (List.mem_append_left _ (List.mem_of_getElem? (i := 235) rfl))) rfl
theorem in_32 : (.fieldLink "VersionFold$Fold" 59 "VersionFold$Request" "readSet" "I" : Cond) ∈ lw_g := lw_mem (List.mem_append_right _ (List.mem_append_left _ (List.mem_of_getElem? (i := 86) rfl))) rfl
theorem in_33 : (.methodLink "VersionFold$Fold" 62 yFo_keysAfter : Cond) ∈ lw_g := lw_mem (List.mem_append_right _ (List.mem_append_left _ (List.mem_of_getElem? (i := 237) rfl))) rfl
theorem in_34 : (.code yFo_keysAfter cFo_keysAfter 5 (some .int) : Cond) ∈ lw_g := lw_mem (List.mem_append_right _ (List.mem_append_right _ (List.mem_append_left _ (List.mem_of_getElem? (i := 0) rfl)))) rfl
theorem in_35 : (.instanceMethod yFo_keysAfter : Cond) ∈ lw_g := lw_mem (List.mem_append_right _ (List.mem_append_left _ (List.mem_of_getElem? (i := 238) rfl))) rfl
theorem in_36 : (.selects "VersionFold$Fold" yFo_keysAfter yFo_keysAfter : Cond) ∈ lw_g := lw_mem (List.mem_append_right _ (List.mem_append_left _ (List.mem_of_getElem? (i := 239) rfl))) rfl
theorem in_37 : (.fieldLink "VersionFold$Fold" 37 "VersionFold$Fold" "verdicts" "[I" : Cond) ∈ lw_g := lw_mem (List.mem_append_right _ (List.mem_append_left _ (List.mem_of_getElem? (i := 49) rfl))) rfl
theorem in_38 : (.methodLink "VersionFold$Fold" 102 yFo_hasKeysOf : Cond) ∈ lw_g := lw_mem (List.mem_append_right _ (List.mem_append_right _ (List.mem_append_left _ (List.mem_of_getElem? (i := 135) rfl)))) rfl
theorem in_39 : (.code yFo_hasKeysOf cFo_hasKeysOf 6 (some .boolean) : Cond) ∈ lw_g := lw_mem (List.mem_append_right _ (List.mem_append_right _ (List.mem_append_left _ (List.mem_of_getElem? (i := 138) rfl)))) rfl
theorem in_40 : (.instanceMethod yFo_hasKeysOf : Cond) ∈ lw_g := lw_mem (List.mem_append_right _ (List.mem_append_right _ (List.mem_append_left _ (List.mem_of_getElem? (i := 137) rfl)))) rfl
theorem in_41 : (.selects "VersionFold$Fold" yFo_hasKeysOf yFo_hasKeysOf : Cond) ∈ lw_g := lw_mem (List.mem_append_left _ (List.mem_of_getElem? (i := 4) rfl)) rfl
theorem in_42 : (.methodLink "VersionFold$Fold" 106 yFo_hasSessionsOf : Cond) ∈ lw_g := lw_mem (List.mem_append_right _ (List.mem_append_right _ (List.mem_append_left _ (List.mem_of_getElem? (i := 140) rfl)))) rfl
theorem in_43 : (.code yFo_hasSessionsOf cFo_hasSessionsOf 3 (some .boolean) : Cond) ∈ lw_g := lw_mem (List.mem_append_right _ (List.mem_append_right _ (List.mem_append_left _ (List.mem_of_getElem? (i := 143) rfl)))) rfl
theorem in_44 : (.instanceMethod yFo_hasSessionsOf : Cond) ∈ lw_g := lw_mem (List.mem_append_right _ (List.mem_append_right _ (List.mem_append_left _ (List.mem_of_getElem? (i := 142) rfl)))) rfl
theorem in_45 : (.selects "VersionFold$Fold" yFo_hasSessionsOf yFo_hasSessionsOf : Cond) ∈ lw_g := lw_mem (List.mem_append_left _ (List.mem_of_getElem? (i := 5) rfl)) rfl
theorem in_46 : (.methodLink "VersionFold$Fold" 80 arraycopyName : Cond) ∈ lw_g := lw_mem (List.mem_append_right _ (List.mem_append_right _ (List.mem_append_left _ (List.mem_of_getElem? (i := 9) rfl)))) rfl
theorem in_47 : (.native arraycopyName : Cond) ∈ lw_g := lw_mem (List.mem_append_right _ (List.mem_append_right _ (List.mem_append_left _ (List.mem_of_getElem? (i := 11) rfl)))) rfl
theorem in_48 : (.static arraycopyName : Cond) ∈ lw_g := lw_mem (List.mem_append_right _ (List.mem_append_right _ (List.mem_append_left _ (List.mem_of_getElem? (i := 10) rfl)))) rfl
theorem in_49 : (.initialized "java/lang/System" : Cond) ∈ lw_g := lw_mem (List.mem_append_right _ (List.mem_append_left _ (List.mem_of_getElem? (i := 10) rfl))) rfl
theorem in_50 : (.methodLink "VersionFold$Fold" 92 yRq_hasWrite : Cond) ∈ lw_g := lw_mem (List.mem_append_right _ (List.mem_append_right _ (List.mem_append_left _ (List.mem_of_getElem? (i := 16) rfl)))) rfl
theorem in_51 : (.code yRq_hasWrite cRq_hasWrite 2 (some .boolean) : Cond) ∈ lw_g := lw_mem (List.mem_append_right _ (List.mem_append_right _ (List.mem_append_left _ (List.mem_of_getElem? (i := 19) rfl)))) rfl
theorem in_52 : (.initialized "VersionFold$Request" : Cond) ∈ lw_g := lw_mem (List.mem_append_right _ (List.mem_append_left _ (List.mem_of_getElem? (i := 4) rfl))) rfl
theorem in_53 : (.instanceMethod yRq_hasWrite : Cond) ∈ lw_g := lw_mem (List.mem_append_right _ (List.mem_append_right _ (List.mem_append_left _ (List.mem_of_getElem? (i := 17) rfl)))) rfl
theorem in_54 : (.selects "VersionFold$Request" yRq_hasWrite yRq_hasWrite : Cond) ∈ lw_g := lw_mem (List.mem_append_right _ (List.mem_append_right _ (List.mem_append_left _ (List.mem_of_getElem? (i := 18) rfl)))) rfl
theorem in_55 : (.fieldLink "VersionFold$Fold" 96 "VersionFold$Request" "values" "[I" : Cond) ∈ lw_g := lw_mem (List.mem_append_right _ (List.mem_append_left _ (List.mem_of_getElem? (i := 91) rfl))) rfl
theorem in_56 : (.methodLink "VersionFold$Fold" 66 yFo_decide : Cond) ∈ lw_g := lw_mem (List.mem_append_right _ (List.mem_append_left _ (List.mem_of_getElem? (i := 228) rfl))) rfl
theorem in_57 : (.code yFo_decide cFo_decide 3 (some .int) : Cond) ∈ lw_g := lw_mem (List.mem_append_right _ (List.mem_append_left _ (List.mem_of_getElem? (i := 231) rfl))) rfl
theorem in_58 : (.instanceMethod yFo_decide : Cond) ∈ lw_g := lw_mem (List.mem_append_right _ (List.mem_append_left _ (List.mem_of_getElem? (i := 229) rfl))) rfl
theorem in_59 : (.selects "VersionFold$Fold" yFo_decide yFo_decide : Cond) ∈ lw_g := lw_mem (List.mem_append_right _ (List.mem_append_left _ (List.mem_of_getElem? (i := 230) rfl))) rfl
theorem in_60 : (.methodLink "VersionFold$Fold" 70 yFo_openNextRow : Cond) ∈ lw_g := lw_mem (List.mem_append_right _ (List.mem_append_right _ (List.mem_append_left _ (List.mem_of_getElem? (i := 2) rfl)))) rfl
theorem in_61 : (.code yFo_openNextRow cFo_openNextRow 2 none : Cond) ∈ lw_g := lw_mem (List.mem_append_right _ (List.mem_append_right _ (List.mem_append_left _ (List.mem_of_getElem? (i := 5) rfl)))) rfl
theorem in_62 : (.instanceMethod yFo_openNextRow : Cond) ∈ lw_g := lw_mem (List.mem_append_right _ (List.mem_append_right _ (List.mem_append_left _ (List.mem_of_getElem? (i := 4) rfl)))) rfl
theorem in_63 : (.selects "VersionFold$Fold" yFo_openNextRow yFo_openNextRow : Cond) ∈ lw_g := lw_mem (List.mem_append_left _ (List.mem_of_getElem? (i := 2) rfl)) rfl
theorem in_64 : (.fieldLink "VersionFold$Fold" 21 "VersionFold$Fold" "aborted" "I" : Cond) ∈ lw_g := lw_mem (List.mem_append_right _ (List.mem_append_left _ (List.mem_of_getElem? (i := 41) rfl))) rfl
theorem in_65 : (.fieldLink "VersionFold$Fold" 18 "VersionFold$Fold" "committed" "I" : Cond) ∈ lw_g := lw_mem (List.mem_append_right _ (List.mem_append_left _ (List.mem_of_getElem? (i := 39) rfl))) rfl
theorem in_66 : (.methodLink "VersionFold$Fold" 73 yFo_store : Cond) ∈ lw_g := lw_mem (List.mem_append_right _ (List.mem_append_right _ (List.mem_append_left _ (List.mem_of_getElem? (i := 12) rfl)))) rfl
theorem in_67 : (.code yFo_store cFo_store 4 none : Cond) ∈ lw_g := lw_mem (List.mem_append_right _ (List.mem_append_right _ (List.mem_append_left _ (List.mem_of_getElem? (i := 15) rfl)))) rfl
theorem in_68 : (.instanceMethod yFo_store : Cond) ∈ lw_g := lw_mem (List.mem_append_right _ (List.mem_append_right _ (List.mem_append_left _ (List.mem_of_getElem? (i := 14) rfl)))) rfl
theorem in_69 : (.selects "VersionFold$Fold" yFo_store yFo_store : Cond) ∈ lw_g := lw_mem (List.mem_append_left _ (List.mem_of_getElem? (i := 3) rfl)) rfl
theorem in_70 : (.fieldLink "VersionFold$Fold" 24 "VersionFold$Fold" "neither" "I" : Cond) ∈ lw_g := lw_mem (List.mem_append_right _ (List.mem_append_left _ (List.mem_of_getElem? (i := 43) rfl))) rfl
theorem in_71 : (.fieldLink "VersionFoldModel" 47 "VersionFoldModel" "thrown" "I" : Cond) ∈ lw_g := lw_mem (List.mem_append_right _ (List.mem_append_right _ (List.mem_append_left _ (List.mem_of_getElem? (i := 161) rfl)))) rfl
theorem in_72 : (.methodLink "VersionFoldModel" 50 yMd_is16 : Cond) ∈ lw_g := lw_mem (List.mem_append_right _ (List.mem_append_right _ (List.mem_append_left _ (List.mem_of_getElem? (i := 221) rfl)))) rfl
theorem in_73 : (.code yMd_is16 cMd_is16 1 (some .boolean) : Cond) ∈ lw_g := lw_mem (List.mem_append_right _ (List.mem_append_right _ (List.mem_append_left _ (List.mem_of_getElem? (i := 223) rfl)))) rfl
theorem in_74 : (.initialized "VersionFoldModel" : Cond) ∈ lw_g := lw_mem (List.mem_append_right _ (List.mem_append_left _ (List.mem_of_getElem? (i := 5) rfl))) rfl
theorem in_75 : (.static yMd_is16 : Cond) ∈ lw_g := lw_mem (List.mem_append_right _ (List.mem_append_right _ (List.mem_append_left _ (List.mem_of_getElem? (i := 222) rfl)))) rfl
theorem in_76 : (.fieldLink "VersionFoldModel" 54 "VersionFoldModel" "session" "I" : Cond) ∈ lw_g := lw_mem (List.mem_append_right _ (List.mem_append_right _ (List.mem_append_left _ (List.mem_of_getElem? (i := 172) rfl)))) rfl
theorem in_77 : (.fieldLink "VersionFoldModel" 37 "VersionFoldModel" "seq" "I" : Cond) ∈ lw_g := lw_mem (List.mem_append_right _ (List.mem_append_right _ (List.mem_append_left _ (List.mem_of_getElem? (i := 173) rfl)))) rfl
theorem in_78 : (.fieldLink "VersionFoldModel" 57 "VersionFoldModel" "snapshot" "I" : Cond) ∈ lw_g := lw_mem (List.mem_append_right _ (List.mem_append_right _ (List.mem_append_left _ (List.mem_of_getElem? (i := 174) rfl)))) rfl
theorem in_79 : (.fieldLink "VersionFoldModel" 60 "VersionFoldModel" "reads" "I" : Cond) ∈ lw_g := lw_mem (List.mem_append_right _ (List.mem_append_right _ (List.mem_append_left _ (List.mem_of_getElem? (i := 175) rfl)))) rfl
theorem in_80 : (.fieldLink "VersionFoldModel" 63 "VersionFoldModel" "writes" "I" : Cond) ∈ lw_g := lw_mem (List.mem_append_right _ (List.mem_append_right _ (List.mem_append_left _ (List.mem_of_getElem? (i := 176) rfl)))) rfl
theorem in_81 : (.fieldLink "VersionFoldModel" 41 "VersionFoldModel" "draft" "[I" : Cond) ∈ lw_g := lw_mem (List.mem_append_right _ (List.mem_append_right _ (List.mem_append_left _ (List.mem_of_getElem? (i := 177) rfl)))) rfl
theorem in_82 : (.fieldLink "VersionFoldModel" 7 "VersionFoldModel" "index" "[I" : Cond) ∈ lw_g := lw_mem (List.mem_append_right _ (List.mem_append_right _ (List.mem_append_left _ (List.mem_of_getElem? (i := 163) rfl)))) rfl
theorem in_83 : (.fieldLink "VersionFoldModel" 31 "VersionFoldModel" "written" "[I" : Cond) ∈ lw_g := lw_mem (List.mem_append_right _ (List.mem_append_right _ (List.mem_append_left _ (List.mem_of_getElem? (i := 170) rfl)))) rfl
theorem in_84 : (.constant "VersionFoldModel" 66 1000000 : Cond) ∈ lw_g := lw_mem (List.mem_append_right _ (List.mem_append_right _ (List.mem_append_right _ (List.mem_of_getElem? (i := 4) rfl)))) rfl
theorem in_85 : (.fieldLink "VersionFoldModel" 25 "VersionFoldModel" "seqs" "[I" : Cond) ∈ lw_g := lw_mem (List.mem_append_right _ (List.mem_append_right _ (List.mem_append_left _ (List.mem_of_getElem? (i := 168) rfl)))) rfl
theorem in_86 : (.fieldLink "VersionFoldModel" 44 "VersionFoldModel" "versions" "I" : Cond) ∈ lw_g := lw_mem (List.mem_append_right _ (List.mem_append_right _ (List.mem_append_left _ (List.mem_of_getElem? (i := 162) rfl)))) rfl
theorem in_87 : (.methodLink "VersionFoldModel" 67 yMd_writtenSince : Cond) ∈ lw_g := lw_mem (List.mem_append_right _ (List.mem_append_right _ (List.mem_append_right _ (List.mem_of_getElem? (i := 5) rfl)))) rfl
theorem in_88 : (.code yMd_writtenSince cMd_writtenSince 5 (some .int) : Cond) ∈ lw_g := lw_mem (List.mem_append_right _ (List.mem_append_right _ (List.mem_append_right _ (List.mem_of_getElem? (i := 8) rfl)))) rfl
theorem in_89 : (.instanceMethod yMd_writtenSince : Cond) ∈ lw_g := lw_mem (List.mem_append_right _ (List.mem_append_right _ (List.mem_append_right _ (List.mem_of_getElem? (i := 7) rfl)))) rfl
theorem in_90 : (.selects "VersionFoldModel" yMd_writtenSince yMd_writtenSince : Cond) ∈ lw_g := lw_mem (List.mem_append_left _ (List.mem_of_getElem? (i := 8) rfl)) rfl
theorem in_91 : (.methodLink "VersionFoldModel" 71 yMd_lacks : Cond) ∈ lw_g := lw_mem (List.mem_append_right _ (List.mem_append_right _ (List.mem_append_left _ (List.mem_of_getElem? (i := 236) rfl)))) rfl
theorem in_92 : (.code yMd_lacks cMd_lacks 2 (some .boolean) : Cond) ∈ lw_g := lw_mem (List.mem_append_right _ (List.mem_append_right _ (List.mem_append_left _ (List.mem_of_getElem? (i := 239) rfl)))) rfl
theorem in_93 : (.instanceMethod yMd_lacks : Cond) ∈ lw_g := lw_mem (List.mem_append_right _ (List.mem_append_right _ (List.mem_append_left _ (List.mem_of_getElem? (i := 238) rfl)))) rfl
theorem in_94 : (.selects "VersionFoldModel" yMd_lacks yMd_lacks : Cond) ∈ lw_g := lw_mem (List.mem_append_left _ (List.mem_of_getElem? (i := 6) rfl)) rfl
theorem in_95 : (.methodLink "VersionFoldModel" 74 yMd_decided : Cond) ∈ lw_g := lw_mem (List.mem_append_right _ (List.mem_append_right _ (List.mem_append_right _ (List.mem_of_getElem? (i := 0) rfl)))) rfl
theorem in_96 : (.code yMd_decided cMd_decided 3 (some .int) : Cond) ∈ lw_g := lw_mem (List.mem_append_right _ (List.mem_append_right _ (List.mem_append_right _ (List.mem_of_getElem? (i := 3) rfl)))) rfl
theorem in_97 : (.instanceMethod yMd_decided : Cond) ∈ lw_g := lw_mem (List.mem_append_right _ (List.mem_append_right _ (List.mem_append_right _ (List.mem_of_getElem? (i := 2) rfl)))) rfl
theorem in_98 : (.selects "VersionFoldModel" yMd_decided yMd_decided : Cond) ∈ lw_g := lw_mem (List.mem_append_left _ (List.mem_of_getElem? (i := 7) rfl)) rfl
theorem in_99 : (.fieldLink "VersionFoldModel" 16 "VersionFoldModel" "committed" "[I" : Cond) ∈ lw_g := lw_mem (List.mem_append_right _ (List.mem_append_right _ (List.mem_append_left _ (List.mem_of_getElem? (i := 165) rfl)))) rfl
theorem in_100 : (.fieldLink "VersionFoldModel" 19 "VersionFoldModel" "aborted" "[I" : Cond) ∈ lw_g := lw_mem (List.mem_append_right _ (List.mem_append_right _ (List.mem_append_left _ (List.mem_of_getElem? (i := 166) rfl)))) rfl
theorem in_101 : (.fieldLink "VersionFoldModel" 22 "VersionFoldModel" "neither" "[I" : Cond) ∈ lw_g := lw_mem (List.mem_append_right _ (List.mem_append_right _ (List.mem_append_left _ (List.mem_of_getElem? (i := 167) rfl)))) rfl
theorem in_102 : (.fieldLink "VersionFoldModel" 13 "VersionFoldModel" "horizon" "[I" : Cond) ∈ lw_g := lw_mem (List.mem_append_right _ (List.mem_append_right _ (List.mem_append_left _ (List.mem_of_getElem? (i := 164) rfl)))) rfl
theorem in_103 : (.fieldLink "VersionFoldModel" 34 "VersionFoldModel" "values" "[I" : Cond) ∈ lw_g := lw_mem (List.mem_append_right _ (List.mem_append_right _ (List.mem_append_left _ (List.mem_of_getElem? (i := 171) rfl)))) rfl
theorem in_104 : (.fieldLink "VersionFoldModel" 28 "VersionFoldModel" "verdicts" "[I" : Cond) ∈ lw_g := lw_mem (List.mem_append_right _ (List.mem_append_right _ (List.mem_append_left _ (List.mem_of_getElem? (i := 169) rfl)))) rfl
theorem in_105 : (.methodLink "VersionFold$Request" 3 objectInit : Cond) ∈ lw_g := lw_mem (List.mem_append_right _ (List.mem_append_left _ (List.mem_of_getElem? (i := 78) rfl))) rfl
theorem in_106 : (.instanceMethod objectInit : Cond) ∈ lw_g := lw_mem (List.mem_append_right _ (List.mem_append_left _ (List.mem_of_getElem? (i := 19) rfl))) rfl
theorem in_107 : (.code objectInit ⟨#[0xb1]⟩ 1 none : Cond) ∈ lw_g := lw_mem (List.mem_append_right _ (List.mem_append_left _ (List.mem_of_getElem? (i := 20) rfl))) rfl
theorem in_108 : (.arrayClass .int : Cond) ∈ lw_g := lw_mem (List.mem_append_right _ (List.mem_append_left _ (List.mem_of_getElem? (i := 72) rfl))) rfl
theorem in_109 : (.methodLink "VersionFold$Fold" 3 objectInit : Cond) ∈ lw_g := lw_mem (List.mem_append_right _ (List.mem_append_left _ (List.mem_of_getElem? (i := 33) rfl))) rfl
theorem in_110 : (.methodLink "VersionFold" 42 yVf_isKey : Cond) ∈ lw_g := lw_mem (List.mem_append_right _ (List.mem_append_left _ (List.mem_of_getElem? (i := 127) rfl))) rfl
theorem in_111 : (.code yVf_isKey cVf_isKey 1 (some .boolean) : Cond) ∈ lw_g := lw_mem (List.mem_append_right _ (List.mem_append_left _ (List.mem_of_getElem? (i := 129) rfl))) rfl
theorem in_112 : (.initialized "VersionFold" : Cond) ∈ lw_g := lw_mem (List.mem_append_right _ (List.mem_append_left _ (List.mem_of_getElem? (i := 1) rfl))) rfl
theorem in_113 : (.static yVf_isKey : Cond) ∈ lw_g := lw_mem (List.mem_append_right _ (List.mem_append_left _ (List.mem_of_getElem? (i := 128) rfl))) rfl
theorem in_114 : (.methodLink "VersionFold" 34 yVf_isSession : Cond) ∈ lw_g := lw_mem (List.mem_append_right _ (List.mem_append_left _ (List.mem_of_getElem? (i := 116) rfl))) rfl
theorem in_115 : (.code yVf_isSession cVf_isSession 1 (some .boolean) : Cond) ∈ lw_g := lw_mem (List.mem_append_right _ (List.mem_append_left _ (List.mem_of_getElem? (i := 118) rfl))) rfl
theorem in_116 : (.static yVf_isSession : Cond) ∈ lw_g := lw_mem (List.mem_append_right _ (List.mem_append_left _ (List.mem_of_getElem? (i := 117) rfl))) rfl
theorem in_117 : (.fieldLink "VersionFold" 20 "VersionFold" "folds" "[LVersionFold$Fold;" : Cond) ∈ lw_g := lw_mem (List.mem_append_right _ (List.mem_append_left _ (List.mem_of_getElem? (i := 105) rfl))) rfl
theorem in_118 : (.methodLink "VersionFold" 52 yVf_foldAt : Cond) ∈ lw_g := lw_mem (List.mem_append_right _ (List.mem_append_left _ (List.mem_of_getElem? (i := 153) rfl))) rfl
theorem in_119 : (.code yVf_foldAt cVf_foldAt 2 (some (.object "VersionFold$Fold")) : Cond) ∈ lw_g := lw_mem (List.mem_append_right _ (List.mem_append_left _ (List.mem_of_getElem? (i := 156) rfl))) rfl
theorem in_120 : (.instanceMethod yVf_foldAt : Cond) ∈ lw_g := lw_mem (List.mem_append_right _ (List.mem_append_left _ (List.mem_of_getElem? (i := 155) rfl))) rfl
theorem in_121 : (.selects "VersionFold" yVf_foldAt yVf_foldAt : Cond) ∈ lw_g := lw_mem (List.mem_append_left _ (List.mem_of_getElem? (i := 0) rfl)) rfl
theorem in_122 : (.fieldLink "VersionFold" 30 "VersionFold" "request" "LVersionFold$Request;" : Cond) ∈ lw_g := lw_mem (List.mem_append_right _ (List.mem_append_left _ (List.mem_of_getElem? (i := 106) rfl))) rfl
theorem in_123 : (.methodLink "VersionFold" 60 yFo_decide : Cond) ∈ lw_g := lw_mem (List.mem_append_right _ (List.mem_append_right _ (List.mem_append_left _ (List.mem_of_getElem? (i := 27) rfl)))) rfl
theorem in_124 : (.methodLink "VersionFold" 74 yVf_requireKey : Cond) ∈ lw_g := lw_mem (List.mem_append_right _ (List.mem_append_right _ (List.mem_append_left _ (List.mem_of_getElem? (i := 61) rfl)))) rfl
theorem in_125 : (.code yVf_requireKey cVf_requireKey 1 none : Cond) ∈ lw_g := lw_mem (List.mem_append_right _ (List.mem_append_right _ (List.mem_append_left _ (List.mem_of_getElem? (i := 63) rfl)))) rfl
theorem in_126 : (.static yVf_requireKey : Cond) ∈ lw_g := lw_mem (List.mem_append_right _ (List.mem_append_right _ (List.mem_append_left _ (List.mem_of_getElem? (i := 62) rfl)))) rfl
theorem in_127 : (.fieldLink "VersionFold" 77 "VersionFold$Fold" "horizon" "I" : Cond) ∈ lw_g := lw_mem (List.mem_append_right _ (List.mem_append_left _ (List.mem_of_getElem? (i := 38) rfl))) rfl
theorem in_128 : (.fieldLink "VersionFold" 63 "VersionFold$Fold" "index" "I" : Cond) ∈ lw_g := lw_mem (List.mem_append_right _ (List.mem_append_left _ (List.mem_of_getElem? (i := 36) rfl))) rfl
theorem in_129 : (.methodLink "VersionFold" 87 yFo_valueAt : Cond) ∈ lw_g := lw_mem (List.mem_append_right _ (List.mem_append_right _ (List.mem_append_left _ (List.mem_of_getElem? (i := 81) rfl)))) rfl
theorem in_130 : (.methodLink "VersionFold" 90 yVf_requireSession : Cond) ∈ lw_g := lw_mem (List.mem_append_right _ (List.mem_append_right _ (List.mem_append_left _ (List.mem_of_getElem? (i := 92) rfl)))) rfl
theorem in_131 : (.code yVf_requireSession cVf_requireSession 1 none : Cond) ∈ lw_g := lw_mem (List.mem_append_right _ (List.mem_append_right _ (List.mem_append_left _ (List.mem_of_getElem? (i := 94) rfl)))) rfl
theorem in_132 : (.static yVf_requireSession : Cond) ∈ lw_g := lw_mem (List.mem_append_right _ (List.mem_append_right _ (List.mem_append_left _ (List.mem_of_getElem? (i := 93) rfl)))) rfl
theorem in_133 : (.fieldLink "VersionFold" 93 "VersionFold$Fold" "seqs" "[I" : Cond) ∈ lw_g := lw_mem (List.mem_append_right _ (List.mem_append_left _ (List.mem_of_getElem? (i := 48) rfl))) rfl
theorem in_134 : (.fieldLink "VersionFold" 97 "VersionFold$Fold" "verdicts" "[I" : Cond) ∈ lw_g := lw_mem (List.mem_append_right _ (List.mem_append_left _ (List.mem_of_getElem? (i := 50) rfl))) rfl
theorem in_135 : (.methodLink "VersionFold" 100 yFo_keptWrite : Cond) ∈ lw_g := lw_mem (List.mem_append_right _ (List.mem_append_right _ (List.mem_append_left _ (List.mem_of_getElem? (i := 110) rfl)))) rfl
theorem in_136 : (.code yFo_keptWrite cFo_keptWrite 3 (some .int) : Cond) ∈ lw_g := lw_mem (List.mem_append_right _ (List.mem_append_right _ (List.mem_append_left _ (List.mem_of_getElem? (i := 113) rfl)))) rfl
theorem in_137 : (.instanceMethod yFo_keptWrite : Cond) ∈ lw_g := lw_mem (List.mem_append_right _ (List.mem_append_right _ (List.mem_append_left _ (List.mem_of_getElem? (i := 111) rfl)))) rfl
theorem in_138 : (.selects "VersionFold$Fold" yFo_keptWrite yFo_keptWrite : Cond) ∈ lw_g := lw_mem (List.mem_append_right _ (List.mem_append_right _ (List.mem_append_left _ (List.mem_of_getElem? (i := 112) rfl)))) rfl
theorem in_139 : (.methodLink "VersionFold" 104 yFo_oldestSnapshot : Cond) ∈ lw_g := lw_mem (List.mem_append_right _ (List.mem_append_right _ (List.mem_append_left _ (List.mem_of_getElem? (i := 121) rfl)))) rfl
theorem in_140 : (.methodLink "VersionFold" 110 yFo_keysAfter : Cond) ∈ lw_g := lw_mem (List.mem_append_right _ (List.mem_append_right _ (List.mem_append_left _ (List.mem_of_getElem? (i := 123) rfl)))) rfl
theorem in_141 : (.methodLink "VersionFold" 113 yFo_isLike : Cond) ∈ lw_g := lw_mem (List.mem_append_right _ (List.mem_append_right _ (List.mem_append_left _ (List.mem_of_getElem? (i := 131) rfl)))) rfl
theorem in_142 : (.code yFo_isLike cFo_isLike 2 (some .boolean) : Cond) ∈ lw_g := lw_mem (List.mem_append_right _ (List.mem_append_right _ (List.mem_append_left _ (List.mem_of_getElem? (i := 134) rfl)))) rfl
theorem in_143 : (.instanceMethod yFo_isLike : Cond) ∈ lw_g := lw_mem (List.mem_append_right _ (List.mem_append_right _ (List.mem_append_left _ (List.mem_of_getElem? (i := 132) rfl)))) rfl
theorem in_144 : (.selects "VersionFold$Fold" yFo_isLike yFo_isLike : Cond) ∈ lw_g := lw_mem (List.mem_append_right _ (List.mem_append_right _ (List.mem_append_left _ (List.mem_of_getElem? (i := 133) rfl)))) rfl
theorem in_145 : (.fieldLink "VersionFold" 117 "VersionFold$Fold" "committed" "I" : Cond) ∈ lw_g := lw_mem (List.mem_append_right _ (List.mem_append_left _ (List.mem_of_getElem? (i := 40) rfl))) rfl
theorem in_146 : (.fieldLink "VersionFold" 120 "VersionFold$Fold" "aborted" "I" : Cond) ∈ lw_g := lw_mem (List.mem_append_right _ (List.mem_append_left _ (List.mem_of_getElem? (i := 42) rfl))) rfl
theorem in_147 : (.fieldLink "VersionFold" 123 "VersionFold$Fold" "neither" "I" : Cond) ∈ lw_g := lw_mem (List.mem_append_right _ (List.mem_append_left _ (List.mem_of_getElem? (i := 44) rfl))) rfl
theorem in_148 : (.methodLink "VersionFold" 126 yFo_sumOfValues : Cond) ∈ lw_g := lw_mem (List.mem_append_right _ (List.mem_append_right _ (List.mem_append_left _ (List.mem_of_getElem? (i := 151) rfl)))) rfl
theorem in_149 : (.code yFo_sumOfValues cFo_sumOfValues 3 (some .int) : Cond) ∈ lw_g := lw_mem (List.mem_append_right _ (List.mem_append_right _ (List.mem_append_left _ (List.mem_of_getElem? (i := 154) rfl)))) rfl
theorem in_150 : (.instanceMethod yFo_sumOfValues : Cond) ∈ lw_g := lw_mem (List.mem_append_right _ (List.mem_append_right _ (List.mem_append_left _ (List.mem_of_getElem? (i := 152) rfl)))) rfl
theorem in_151 : (.selects "VersionFold$Fold" yFo_sumOfValues yFo_sumOfValues : Cond) ∈ lw_g := lw_mem (List.mem_append_right _ (List.mem_append_right _ (List.mem_append_left _ (List.mem_of_getElem? (i := 153) rfl)))) rfl
theorem in_152 : (.fieldLink "VersionFold" 129 "VersionFold$Request" "readSet" "I" : Cond) ∈ lw_g := lw_mem (List.mem_append_right _ (List.mem_append_left _ (List.mem_of_getElem? (i := 87) rfl))) rfl
theorem in_153 : (.fieldLink "VersionFold" 132 "VersionFold$Request" "writeSet" "I" : Cond) ∈ lw_g := lw_mem (List.mem_append_right _ (List.mem_append_left _ (List.mem_of_getElem? (i := 89) rfl))) rfl
theorem in_154 : (.laysFinal "VersionFold$Fold" "VersionFold$Fold" "versions" "I" : Cond) ∈ lw_g := lw_mem (List.mem_append_right _ (List.mem_append_left _ (List.mem_of_getElem? (i := 51) rfl))) rfl
theorem in_155 : (.lays "VersionFold$Fold" "VersionFold$Fold" "index" "I" : Cond) ∈ lw_g := lw_mem (List.mem_append_right _ (List.mem_append_left _ (List.mem_of_getElem? (i := 53) rfl))) rfl
theorem in_156 : (.lays "VersionFold$Fold" "VersionFold$Fold" "horizon" "I" : Cond) ∈ lw_g := lw_mem (List.mem_append_right _ (List.mem_append_left _ (List.mem_of_getElem? (i := 55) rfl))) rfl
theorem in_157 : (.lays "VersionFold$Fold" "VersionFold$Fold" "committed" "I" : Cond) ∈ lw_g := lw_mem (List.mem_append_right _ (List.mem_append_left _ (List.mem_of_getElem? (i := 57) rfl))) rfl
theorem in_158 : (.lays "VersionFold$Fold" "VersionFold$Fold" "aborted" "I" : Cond) ∈ lw_g := lw_mem (List.mem_append_right _ (List.mem_append_left _ (List.mem_of_getElem? (i := 59) rfl))) rfl
theorem in_159 : (.lays "VersionFold$Fold" "VersionFold$Fold" "neither" "I" : Cond) ∈ lw_g := lw_mem (List.mem_append_right _ (List.mem_append_left _ (List.mem_of_getElem? (i := 61) rfl))) rfl
theorem in_160 : (.laysFinal "VersionFold$Fold" "VersionFold$Fold" "rows" "[I" : Cond) ∈ lw_g := lw_mem (List.mem_append_right _ (List.mem_append_left _ (List.mem_of_getElem? (i := 63) rfl))) rfl
theorem in_161 : (.laysFinal "VersionFold$Fold" "VersionFold$Fold" "lastWrites" "[I" : Cond) ∈ lw_g := lw_mem (List.mem_append_right _ (List.mem_append_left _ (List.mem_of_getElem? (i := 65) rfl))) rfl
theorem in_162 : (.laysFinal "VersionFold$Fold" "VersionFold$Fold" "seqs" "[I" : Cond) ∈ lw_g := lw_mem (List.mem_append_right _ (List.mem_append_left _ (List.mem_of_getElem? (i := 67) rfl))) rfl
theorem in_163 : (.laysFinal "VersionFold$Fold" "VersionFold$Fold" "verdicts" "[I" : Cond) ∈ lw_g := lw_mem (List.mem_append_right _ (List.mem_append_left _ (List.mem_of_getElem? (i := 69) rfl))) rfl
theorem in_164 : (.lays "VersionFold$Request" "VersionFold$Request" "session" "I" : Cond) ∈ lw_g := lw_mem (List.mem_append_right _ (List.mem_append_left _ (List.mem_of_getElem? (i := 92) rfl))) rfl
theorem in_165 : (.lays "VersionFold$Request" "VersionFold$Request" "seq" "I" : Cond) ∈ lw_g := lw_mem (List.mem_append_right _ (List.mem_append_left _ (List.mem_of_getElem? (i := 94) rfl))) rfl
theorem in_166 : (.lays "VersionFold$Request" "VersionFold$Request" "snapshot" "I" : Cond) ∈ lw_g := lw_mem (List.mem_append_right _ (List.mem_append_left _ (List.mem_of_getElem? (i := 96) rfl))) rfl
theorem in_167 : (.lays "VersionFold$Request" "VersionFold$Request" "readSet" "I" : Cond) ∈ lw_g := lw_mem (List.mem_append_right _ (List.mem_append_left _ (List.mem_of_getElem? (i := 98) rfl))) rfl
theorem in_168 : (.lays "VersionFold$Request" "VersionFold$Request" "writeSet" "I" : Cond) ∈ lw_g := lw_mem (List.mem_append_right _ (List.mem_append_left _ (List.mem_of_getElem? (i := 100) rfl))) rfl
theorem in_169 : (.laysFinal "VersionFold$Request" "VersionFold$Request" "values" "[I" : Cond) ∈ lw_g := lw_mem (List.mem_append_right _ (List.mem_append_left _ (List.mem_of_getElem? (i := 102) rfl))) rfl
theorem in_170 : (.laysFinal "VersionFold" "VersionFold" "folds" "[LVersionFold$Fold;" : Cond) ∈ lw_g := lw_mem (List.mem_append_right _ (List.mem_append_left _ (List.mem_of_getElem? (i := 107) rfl))) rfl
theorem in_171 : (.laysFinal "VersionFold" "VersionFold" "request" "LVersionFold$Request;" : Cond) ∈ lw_g := lw_mem (List.mem_append_right _ (List.mem_append_left _ (List.mem_of_getElem? (i := 109) rfl))) rfl
theorem in_172 : (.lays "VersionFoldModel" "VersionFoldModel" "thrown" "I" : Cond) ∈ lw_g := lw_mem (List.mem_append_right _ (List.mem_append_right _ (List.mem_append_left _ (List.mem_of_getElem? (i := 178) rfl)))) rfl
theorem in_173 : (.laysFinal "VersionFoldModel" "VersionFoldModel" "versions" "I" : Cond) ∈ lw_g := lw_mem (List.mem_append_right _ (List.mem_append_right _ (List.mem_append_left _ (List.mem_of_getElem? (i := 180) rfl)))) rfl
theorem in_174 : (.laysFinal "VersionFoldModel" "VersionFoldModel" "index" "[I" : Cond) ∈ lw_g := lw_mem (List.mem_append_right _ (List.mem_append_right _ (List.mem_append_left _ (List.mem_of_getElem? (i := 182) rfl)))) rfl
theorem in_175 : (.laysFinal "VersionFoldModel" "VersionFoldModel" "horizon" "[I" : Cond) ∈ lw_g := lw_mem (List.mem_append_right _ (List.mem_append_right _ (List.mem_append_left _ (List.mem_of_getElem? (i := 184) rfl)))) rfl
theorem in_176 : (.laysFinal "VersionFoldModel" "VersionFoldModel" "committed" "[I" : Cond) ∈ lw_g := lw_mem (List.mem_append_right _ (List.mem_append_right _ (List.mem_append_left _ (List.mem_of_getElem? (i := 186) rfl)))) rfl
theorem in_177 : (.laysFinal "VersionFoldModel" "VersionFoldModel" "aborted" "[I" : Cond) ∈ lw_g := lw_mem (List.mem_append_right _ (List.mem_append_right _ (List.mem_append_left _ (List.mem_of_getElem? (i := 188) rfl)))) rfl
theorem in_178 : (.laysFinal "VersionFoldModel" "VersionFoldModel" "neither" "[I" : Cond) ∈ lw_g := lw_mem (List.mem_append_right _ (List.mem_append_right _ (List.mem_append_left _ (List.mem_of_getElem? (i := 190) rfl)))) rfl
theorem in_179 : (.laysFinal "VersionFoldModel" "VersionFoldModel" "seqs" "[I" : Cond) ∈ lw_g := lw_mem (List.mem_append_right _ (List.mem_append_right _ (List.mem_append_left _ (List.mem_of_getElem? (i := 192) rfl)))) rfl
theorem in_180 : (.laysFinal "VersionFoldModel" "VersionFoldModel" "verdicts" "[I" : Cond) ∈ lw_g := lw_mem (List.mem_append_right _ (List.mem_append_right _ (List.mem_append_left _ (List.mem_of_getElem? (i := 194) rfl)))) rfl
theorem in_181 : (.laysFinal "VersionFoldModel" "VersionFoldModel" "written" "[I" : Cond) ∈ lw_g := lw_mem (List.mem_append_right _ (List.mem_append_right _ (List.mem_append_left _ (List.mem_of_getElem? (i := 196) rfl)))) rfl
theorem in_182 : (.laysFinal "VersionFoldModel" "VersionFoldModel" "values" "[I" : Cond) ∈ lw_g := lw_mem (List.mem_append_right _ (List.mem_append_right _ (List.mem_append_left _ (List.mem_of_getElem? (i := 198) rfl)))) rfl
theorem in_183 : (.lays "VersionFoldModel" "VersionFoldModel" "session" "I" : Cond) ∈ lw_g := lw_mem (List.mem_append_right _ (List.mem_append_right _ (List.mem_append_left _ (List.mem_of_getElem? (i := 200) rfl)))) rfl
theorem in_184 : (.lays "VersionFoldModel" "VersionFoldModel" "seq" "I" : Cond) ∈ lw_g := lw_mem (List.mem_append_right _ (List.mem_append_right _ (List.mem_append_left _ (List.mem_of_getElem? (i := 202) rfl)))) rfl
theorem in_185 : (.lays "VersionFoldModel" "VersionFoldModel" "snapshot" "I" : Cond) ∈ lw_g := lw_mem (List.mem_append_right _ (List.mem_append_right _ (List.mem_append_left _ (List.mem_of_getElem? (i := 204) rfl)))) rfl
theorem in_186 : (.lays "VersionFoldModel" "VersionFoldModel" "reads" "I" : Cond) ∈ lw_g := lw_mem (List.mem_append_right _ (List.mem_append_right _ (List.mem_append_left _ (List.mem_of_getElem? (i := 206) rfl)))) rfl
theorem in_187 : (.lays "VersionFoldModel" "VersionFoldModel" "writes" "I" : Cond) ∈ lw_g := lw_mem (List.mem_append_right _ (List.mem_append_right _ (List.mem_append_left _ (List.mem_of_getElem? (i := 208) rfl)))) rfl
theorem in_188 : (.laysFinal "VersionFoldModel" "VersionFoldModel" "draft" "[I" : Cond) ∈ lw_g := lw_mem (List.mem_append_right _ (List.mem_append_right _ (List.mem_append_left _ (List.mem_of_getElem? (i := 210) rfl)))) rfl
theorem inFo : ∀ w ∈ u_ws RFo TFo 10, w ∈ lw_g := by
  intro w hw
  obtain ⟨k, hk, rfl⟩ := List.mem_map.mp hw
  have hk : k < 10 := List.mem_range.mp hk
  rcases (show k = 0 ∨ k = 1 ∨ k = 2 ∨ k = 3 ∨ k = 4 ∨ k = 5 ∨ k = 6 ∨ k = 7 ∨ k = 8 ∨ k = 9 by omega) with rfl | rfl | rfl | rfl | rfl | rfl | rfl | rfl | rfl | rfl
  · exact in_154
  · exact in_155
  · exact in_156
  · exact in_157
  · exact in_158
  · exact in_159
  · exact in_160
  · exact in_161
  · exact in_162
  · exact in_163
theorem inRq : ∀ w ∈ u_ws RRq TRq 6, w ∈ lw_g := by
  intro w hw
  obtain ⟨k, hk, rfl⟩ := List.mem_map.mp hw
  have hk : k < 6 := List.mem_range.mp hk
  rcases (show k = 0 ∨ k = 1 ∨ k = 2 ∨ k = 3 ∨ k = 4 ∨ k = 5 by omega) with rfl | rfl | rfl | rfl | rfl | rfl
  · exact in_164
  · exact in_165
  · exact in_166
  · exact in_167
  · exact in_168
  · exact in_169
theorem inVf : ∀ w ∈ u_ws RVf TVf 2, w ∈ lw_g := by
  intro w hw
  obtain ⟨k, hk, rfl⟩ := List.mem_map.mp hw
  have hk : k < 2 := List.mem_range.mp hk
  rcases (show k = 0 ∨ k = 1 by omega) with rfl | rfl
  · exact in_170
  · exact in_171
theorem inMd : ∀ w ∈ u_ws RMd TMd 17, w ∈ lw_g := by
  intro w hw
  obtain ⟨k, hk, rfl⟩ := List.mem_map.mp hw
  have hk : k < 17 := List.mem_range.mp hk
  rcases (show k = 0 ∨ k = 1 ∨ k = 2 ∨ k = 3 ∨ k = 4 ∨ k = 5 ∨ k = 6 ∨ k = 7 ∨ k = 8 ∨ k = 9 ∨ k = 10 ∨ k = 11 ∨ k = 12 ∨ k = 13 ∨ k = 14 ∨ k = 15 ∨ k = 16 by omega) with rfl | rfl | rfl | rfl | rfl | rfl | rfl | rfl | rfl | rfl | rfl | rfl | rfl | rfl | rfl | rfl | rfl
  · exact in_172
  · exact in_173
  · exact in_174
  · exact in_175
  · exact in_176
  · exact in_177
  · exact in_178
  · exact in_179
  · exact in_180
  · exact in_181
  · exact in_182
  · exact in_183
  · exact in_184
  · exact in_185
  · exact in_186
  · exact in_187
  · exact in_188
