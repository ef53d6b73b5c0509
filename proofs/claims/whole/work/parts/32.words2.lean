theorem in_189 : (.methodLink "VersionFold$Fold" 109 yJa_fill : Cond) ∈ lw_g := lw_mem (List.mem_append_right _ (List.mem_append_right _ (List.mem_append_left _ (List.mem_of_getElem? (i := 50) rfl)))) rfl
theorem in_190 : (.code yJa_fill cJa_fill 4 none : Cond) ∈ lw_g := lw_mem (List.mem_append_right _ (List.mem_append_right _ (List.mem_append_left _ (List.mem_of_getElem? (i := 52) rfl)))) rfl
theorem in_191 : (.initialized "java/util/Arrays" : Cond) ∈ lw_g := lw_mem (List.mem_append_right _ (List.mem_append_left _ (List.mem_of_getElem? (i := 11) rfl))) rfl
theorem in_192 : (.static yJa_fill : Cond) ∈ lw_g := lw_mem (List.mem_append_right _ (List.mem_append_right _ (List.mem_append_left _ (List.mem_of_getElem? (i := 51) rfl)))) rfl
theorem in_193 : (.methodLink "VersionFoldModel" 1 objectInit : Cond) ∈ lw_g := lw_mem (List.mem_append_right _ (List.mem_append_right _ (List.mem_append_left _ (List.mem_of_getElem? (i := 160) rfl)))) rfl
theorem in_194 : (.methodLink "VersionFold" 1 objectInit : Cond) ∈ lw_g := lw_mem (List.mem_append_right _ (List.mem_append_left _ (List.mem_of_getElem? (i := 18) rfl))) rfl
theorem in_195 : (.methodLink "VersionFold" 9 Lib.Math.min.name : Cond) ∈ lw_g := lw_mem (List.mem_append_right _ (List.mem_append_left _ (List.mem_of_getElem? (i := 21) rfl))) rfl
theorem in_196 : (.static Lib.Math.min.name : Cond) ∈ lw_g := lw_mem (List.mem_append_right _ (List.mem_append_left _ (List.mem_of_getElem? (i := 22) rfl))) rfl
theorem in_197 : (.code Lib.Math.min.name Lib.Math.min.code 2 (some .int) : Cond) ∈ lw_g := lw_mem (List.mem_append_right _ (List.mem_append_left _ (List.mem_of_getElem? (i := 23) rfl))) rfl
theorem in_198 : (.methodLink "VersionFold" 15 Lib.Math.max.name : Cond) ∈ lw_g := lw_mem (List.mem_append_right _ (List.mem_append_left _ (List.mem_of_getElem? (i := 24) rfl))) rfl
theorem in_199 : (.classLink "VersionFold" 18 "VersionFold$Fold" : Cond) ∈ lw_g := lw_mem (List.mem_append_right _ (List.mem_append_left _ (List.mem_of_getElem? (i := 27) rfl))) rfl
theorem in_200 : (.instantiable "VersionFold$Fold" 10 : Cond) ∈ lw_g := lw_mem (List.mem_append_right _ (List.mem_append_left _ (List.mem_of_getElem? (i := 29) rfl))) rfl
theorem in_201 : (.instanceMethod yFo_init : Cond) ∈ lw_g := lw_mem (List.mem_append_right _ (List.mem_append_left _ (List.mem_of_getElem? (i := 31) rfl))) rfl
theorem in_202 : (.code yFo_init cFo_init 2 none : Cond) ∈ lw_g := lw_mem (List.mem_append_right _ (List.mem_append_left _ (List.mem_of_getElem? (i := 32) rfl))) rfl
theorem in_203 : (.methodLink "VersionFold" 24 yFo_init : Cond) ∈ lw_g := lw_mem (List.mem_append_right _ (List.mem_append_left _ (List.mem_of_getElem? (i := 30) rfl))) rfl
theorem in_204 : (.classLink "VersionFold" 27 "VersionFold$Request" : Cond) ∈ lw_g := lw_mem (List.mem_append_right _ (List.mem_append_left _ (List.mem_of_getElem? (i := 73) rfl))) rfl
theorem in_205 : (.instantiable "VersionFold$Request" 6 : Cond) ∈ lw_g := lw_mem (List.mem_append_right _ (List.mem_append_left _ (List.mem_of_getElem? (i := 74) rfl))) rfl
theorem in_206 : (.instanceMethod yRq_init : Cond) ∈ lw_g := lw_mem (List.mem_append_right _ (List.mem_append_left _ (List.mem_of_getElem? (i := 76) rfl))) rfl
theorem in_207 : (.code yRq_init cRq_init 1 none : Cond) ∈ lw_g := lw_mem (List.mem_append_right _ (List.mem_append_left _ (List.mem_of_getElem? (i := 77) rfl))) rfl
theorem in_208 : (.methodLink "VersionFold" 38 yRq_begin : Cond) ∈ lw_g := lw_mem (List.mem_append_right _ (List.mem_append_left _ (List.mem_of_getElem? (i := 119) rfl))) rfl
theorem in_209 : (.code yRq_begin cRq_begin 4 none : Cond) ∈ lw_g := lw_mem (List.mem_append_right _ (List.mem_append_left _ (List.mem_of_getElem? (i := 122) rfl))) rfl
theorem in_210 : (.instanceMethod yRq_begin : Cond) ∈ lw_g := lw_mem (List.mem_append_right _ (List.mem_append_left _ (List.mem_of_getElem? (i := 120) rfl))) rfl
theorem in_211 : (.selects "VersionFold$Request" yRq_begin yRq_begin : Cond) ∈ lw_g := lw_mem (List.mem_append_right _ (List.mem_append_left _ (List.mem_of_getElem? (i := 121) rfl))) rfl
theorem in_212 : (.methodLink "VersionFold" 45 yRq_addRead : Cond) ∈ lw_g := lw_mem (List.mem_append_right _ (List.mem_append_left _ (List.mem_of_getElem? (i := 130) rfl))) rfl
theorem in_213 : (.code yRq_addRead cRq_addRead 2 none : Cond) ∈ lw_g := lw_mem (List.mem_append_right _ (List.mem_append_left _ (List.mem_of_getElem? (i := 133) rfl))) rfl
theorem in_214 : (.instanceMethod yRq_addRead : Cond) ∈ lw_g := lw_mem (List.mem_append_right _ (List.mem_append_left _ (List.mem_of_getElem? (i := 131) rfl))) rfl
theorem in_215 : (.selects "VersionFold$Request" yRq_addRead yRq_addRead : Cond) ∈ lw_g := lw_mem (List.mem_append_right _ (List.mem_append_left _ (List.mem_of_getElem? (i := 132) rfl))) rfl
theorem in_216 : (.methodLink "VersionFold" 48 yRq_addWrite : Cond) ∈ lw_g := lw_mem (List.mem_append_right _ (List.mem_append_left _ (List.mem_of_getElem? (i := 138) rfl))) rfl
theorem in_217 : (.code yRq_addWrite cRq_addWrite 3 none : Cond) ∈ lw_g := lw_mem (List.mem_append_right _ (List.mem_append_left _ (List.mem_of_getElem? (i := 141) rfl))) rfl
theorem in_218 : (.instanceMethod yRq_addWrite : Cond) ∈ lw_g := lw_mem (List.mem_append_right _ (List.mem_append_left _ (List.mem_of_getElem? (i := 139) rfl))) rfl
theorem in_219 : (.selects "VersionFold$Request" yRq_addWrite yRq_addWrite : Cond) ∈ lw_g := lw_mem (List.mem_append_right _ (List.mem_append_left _ (List.mem_of_getElem? (i := 140) rfl))) rfl
theorem in_220 : (.methodLink "VersionFold" 56 yFo_letIn : Cond) ∈ lw_g := lw_mem (List.mem_append_right _ (List.mem_append_left _ (List.mem_of_getElem? (i := 224) rfl))) rfl
theorem in_221 : (.code yFo_letIn cFo_letIn 3 (some .int) : Cond) ∈ lw_g := lw_mem (List.mem_append_right _ (List.mem_append_left _ (List.mem_of_getElem? (i := 227) rfl))) rfl
theorem in_222 : (.instanceMethod yFo_letIn : Cond) ∈ lw_g := lw_mem (List.mem_append_right _ (List.mem_append_left _ (List.mem_of_getElem? (i := 225) rfl))) rfl
theorem in_223 : (.selects "VersionFold$Fold" yFo_letIn yFo_letIn : Cond) ∈ lw_g := lw_mem (List.mem_append_right _ (List.mem_append_left _ (List.mem_of_getElem? (i := 226) rfl))) rfl
theorem in_224 : (.methodLink "VersionFold" 71 yFo_reset : Cond) ∈ lw_g := lw_mem (List.mem_append_right _ (List.mem_append_right _ (List.mem_append_left _ (List.mem_of_getElem? (i := 46) rfl)))) rfl
theorem in_225 : (.code yFo_reset cFo_reset 1 none : Cond) ∈ lw_g := lw_mem (List.mem_append_right _ (List.mem_append_right _ (List.mem_append_left _ (List.mem_of_getElem? (i := 49) rfl)))) rfl
theorem in_226 : (.instanceMethod yFo_reset : Cond) ∈ lw_g := lw_mem (List.mem_append_right _ (List.mem_append_right _ (List.mem_append_left _ (List.mem_of_getElem? (i := 47) rfl)))) rfl
theorem in_227 : (.selects "VersionFold$Fold" yFo_reset yFo_reset : Cond) ∈ lw_g := lw_mem (List.mem_append_right _ (List.mem_append_right _ (List.mem_append_left _ (List.mem_of_getElem? (i := 48) rfl)))) rfl
theorem in_228 : (.methodLink "VersionFold" 67 yFo_become : Cond) ∈ lw_g := lw_mem (List.mem_append_right _ (List.mem_append_right _ (List.mem_append_left _ (List.mem_of_getElem? (i := 35) rfl)))) rfl
theorem in_229 : (.code yFo_become cFo_become 2 none : Cond) ∈ lw_g := lw_mem (List.mem_append_right _ (List.mem_append_right _ (List.mem_append_left _ (List.mem_of_getElem? (i := 38) rfl)))) rfl
theorem in_230 : (.instanceMethod yFo_become : Cond) ∈ lw_g := lw_mem (List.mem_append_right _ (List.mem_append_right _ (List.mem_append_left _ (List.mem_of_getElem? (i := 36) rfl)))) rfl
theorem in_231 : (.selects "VersionFold$Fold" yFo_become yFo_become : Cond) ∈ lw_g := lw_mem (List.mem_append_right _ (List.mem_append_right _ (List.mem_append_left _ (List.mem_of_getElem? (i := 37) rfl)))) rfl
