theorem in_282 : (.methodLink "VersionFoldLaw" 62 yVf_draft : Cond) ∈ lw_g := lw_mem (List.mem_append_right _ (List.mem_append_left _ (List.mem_of_getElem? (i := 112) rfl))) rfl
theorem in_283 : (.code yVf_draft cVf_draft 4 (some .boolean) : Cond) ∈ lw_g := lw_mem (List.mem_append_right _ (List.mem_append_left _ (List.mem_of_getElem? (i := 115) rfl))) rfl
theorem in_284 : (.instanceMethod yVf_draft : Cond) ∈ lw_g := lw_mem (List.mem_append_right _ (List.mem_append_left _ (List.mem_of_getElem? (i := 113) rfl))) rfl
theorem in_285 : (.selects "VersionFold" yVf_draft yVf_draft : Cond) ∈ lw_g := lw_mem (List.mem_append_right _ (List.mem_append_left _ (List.mem_of_getElem? (i := 114) rfl))) rfl
theorem in_286 : (.methodLink "VersionFoldLaw" 66 yMd_draft : Cond) ∈ lw_g := lw_mem (List.mem_append_right _ (List.mem_append_right _ (List.mem_append_left _ (List.mem_of_getElem? (i := 217) rfl)))) rfl
theorem in_287 : (.code yMd_draft cMd_draft 4 (some .boolean) : Cond) ∈ lw_g := lw_mem (List.mem_append_right _ (List.mem_append_right _ (List.mem_append_left _ (List.mem_of_getElem? (i := 220) rfl)))) rfl
theorem in_288 : (.instanceMethod yMd_draft : Cond) ∈ lw_g := lw_mem (List.mem_append_right _ (List.mem_append_right _ (List.mem_append_left _ (List.mem_of_getElem? (i := 218) rfl)))) rfl
theorem in_289 : (.selects "VersionFoldModel" yMd_draft yMd_draft : Cond) ∈ lw_g := lw_mem (List.mem_append_right _ (List.mem_append_right _ (List.mem_append_left _ (List.mem_of_getElem? (i := 219) rfl)))) rfl
theorem in_290 : (.methodLink "VersionFoldLaw" 67 yVf_reads : Cond) ∈ lw_g := lw_mem (List.mem_append_right _ (List.mem_append_left _ (List.mem_of_getElem? (i := 123) rfl))) rfl
theorem in_291 : (.code yVf_reads cVf_reads 2 (some .boolean) : Cond) ∈ lw_g := lw_mem (List.mem_append_right _ (List.mem_append_left _ (List.mem_of_getElem? (i := 126) rfl))) rfl
theorem in_292 : (.instanceMethod yVf_reads : Cond) ∈ lw_g := lw_mem (List.mem_append_right _ (List.mem_append_left _ (List.mem_of_getElem? (i := 124) rfl))) rfl
theorem in_293 : (.selects "VersionFold" yVf_reads yVf_reads : Cond) ∈ lw_g := lw_mem (List.mem_append_right _ (List.mem_append_left _ (List.mem_of_getElem? (i := 125) rfl))) rfl
theorem in_294 : (.methodLink "VersionFoldLaw" 71 yMd_reads : Cond) ∈ lw_g := lw_mem (List.mem_append_right _ (List.mem_append_right _ (List.mem_append_left _ (List.mem_of_getElem? (i := 224) rfl)))) rfl
theorem in_295 : (.code yMd_reads cMd_reads 2 (some .boolean) : Cond) ∈ lw_g := lw_mem (List.mem_append_right _ (List.mem_append_right _ (List.mem_append_left _ (List.mem_of_getElem? (i := 227) rfl)))) rfl
theorem in_296 : (.instanceMethod yMd_reads : Cond) ∈ lw_g := lw_mem (List.mem_append_right _ (List.mem_append_right _ (List.mem_append_left _ (List.mem_of_getElem? (i := 225) rfl)))) rfl
theorem in_297 : (.selects "VersionFoldModel" yMd_reads yMd_reads : Cond) ∈ lw_g := lw_mem (List.mem_append_right _ (List.mem_append_right _ (List.mem_append_left _ (List.mem_of_getElem? (i := 226) rfl)))) rfl
theorem in_298 : (.methodLink "VersionFoldLaw" 72 yVf_writes : Cond) ∈ lw_g := lw_mem (List.mem_append_right _ (List.mem_append_left _ (List.mem_of_getElem? (i := 134) rfl))) rfl
theorem in_299 : (.code yVf_writes cVf_writes 3 (some .boolean) : Cond) ∈ lw_g := lw_mem (List.mem_append_right _ (List.mem_append_left _ (List.mem_of_getElem? (i := 137) rfl))) rfl
theorem in_300 : (.instanceMethod yVf_writes : Cond) ∈ lw_g := lw_mem (List.mem_append_right _ (List.mem_append_left _ (List.mem_of_getElem? (i := 135) rfl))) rfl
theorem in_301 : (.selects "VersionFold" yVf_writes yVf_writes : Cond) ∈ lw_g := lw_mem (List.mem_append_right _ (List.mem_append_left _ (List.mem_of_getElem? (i := 136) rfl))) rfl
theorem in_302 : (.methodLink "VersionFoldLaw" 75 yMd_writes : Cond) ∈ lw_g := lw_mem (List.mem_append_right _ (List.mem_append_right _ (List.mem_append_left _ (List.mem_of_getElem? (i := 228) rfl)))) rfl
theorem in_303 : (.code yMd_writes cMd_writes 3 (some .boolean) : Cond) ∈ lw_g := lw_mem (List.mem_append_right _ (List.mem_append_right _ (List.mem_append_left _ (List.mem_of_getElem? (i := 231) rfl)))) rfl
theorem in_304 : (.instanceMethod yMd_writes : Cond) ∈ lw_g := lw_mem (List.mem_append_right _ (List.mem_append_right _ (List.mem_append_left _ (List.mem_of_getElem? (i := 229) rfl)))) rfl
theorem in_305 : (.selects "VersionFoldModel" yMd_writes yMd_writes : Cond) ∈ lw_g := lw_mem (List.mem_append_right _ (List.mem_append_right _ (List.mem_append_left _ (List.mem_of_getElem? (i := 230) rfl)))) rfl
theorem in_306 : (.methodLink "VersionFoldLaw" 84 yLw_test : Cond) ∈ lw_g := lw_mem (List.mem_append_right _ (List.mem_append_right _ (List.mem_append_left _ (List.mem_of_getElem? (i := 20) rfl)))) rfl
theorem in_307 : (.static yLw_test : Cond) ∈ lw_g := lw_mem (List.mem_append_right _ (List.mem_append_right _ (List.mem_append_left _ (List.mem_of_getElem? (i := 21) rfl)))) rfl
theorem in_308 : (.initialized "VersionFoldLaw" : Cond) ∈ lw_g := lw_mem (List.mem_append_right _ (List.mem_append_left _ (List.mem_of_getElem? (i := 0) rfl))) rfl
theorem in_309 : (.codeWith yLw_test method_4_code 4 (Option.some .int) [(0, 9, 12, 13)] : Cond) ∈ lw_g := lw_mem (List.mem_append_right _ (List.mem_append_right _ (List.mem_append_left _ (List.mem_of_getElem? (i := 22) rfl)))) rfl
theorem in_310 : (.methodLink "VersionFoldLaw" 86 yMd_test : Cond) ∈ lw_g := lw_mem (List.mem_append_right _ (List.mem_append_right _ (List.mem_append_left _ (List.mem_of_getElem? (i := 232) rfl)))) rfl
theorem in_311 : (.code yMd_test cMd_test 2 (some .int) : Cond) ∈ lw_g := lw_mem (List.mem_append_right _ (List.mem_append_right _ (List.mem_append_left _ (List.mem_of_getElem? (i := 235) rfl)))) rfl
theorem in_312 : (.instanceMethod yMd_test : Cond) ∈ lw_g := lw_mem (List.mem_append_right _ (List.mem_append_right _ (List.mem_append_left _ (List.mem_of_getElem? (i := 233) rfl)))) rfl
theorem in_313 : (.selects "VersionFoldModel" yMd_test yMd_test : Cond) ∈ lw_g := lw_mem (List.mem_append_right _ (List.mem_append_right _ (List.mem_append_left _ (List.mem_of_getElem? (i := 234) rfl)))) rfl
theorem in_314 : (.methodLink "VersionFoldLaw" 80 yMd_thrown : Cond) ∈ lw_g := lw_mem (List.mem_append_right _ (List.mem_append_right _ (List.mem_append_left _ (List.mem_of_getElem? (i := 213) rfl)))) rfl
theorem in_315 : (.code yMd_thrown cMd_thrown 1 (some .int) : Cond) ∈ lw_g := lw_mem (List.mem_append_right _ (List.mem_append_right _ (List.mem_append_left _ (List.mem_of_getElem? (i := 216) rfl)))) rfl
theorem in_316 : (.instanceMethod yMd_thrown : Cond) ∈ lw_g := lw_mem (List.mem_append_right _ (List.mem_append_right _ (List.mem_append_left _ (List.mem_of_getElem? (i := 214) rfl)))) rfl
theorem in_317 : (.selects "VersionFoldModel" yMd_thrown yMd_thrown : Cond) ∈ lw_g := lw_mem (List.mem_append_right _ (List.mem_append_right _ (List.mem_append_left _ (List.mem_of_getElem? (i := 215) rfl)))) rfl
theorem in_318 : (.methodLink "VersionFoldLaw" 76 yLw_apply : Cond) ∈ lw_g := lw_mem (List.mem_append_right _ (List.mem_append_left _ (List.mem_of_getElem? (i := 145) rfl))) rfl
theorem in_319 : (.static yLw_apply : Cond) ∈ lw_g := lw_mem (List.mem_append_right _ (List.mem_append_left _ (List.mem_of_getElem? (i := 146) rfl))) rfl
theorem in_320 : (.codeWith yLw_apply method_3_code 4 (Option.some .int) [(0, 9, 12, 13)] : Cond) ∈ lw_g := lw_mem (List.mem_append_right _ (List.mem_append_left _ (List.mem_of_getElem? (i := 147) rfl))) rfl
theorem in_321 : (.methodLink "VersionFoldLaw" 79 yMd_apply : Cond) ∈ lw_g := lw_mem (List.mem_append_right _ (List.mem_append_right _ (List.mem_append_right _ (List.mem_of_getElem? (i := 9) rfl)))) rfl
theorem in_322 : (.code yMd_apply cMd_apply 8 (some .int) : Cond) ∈ lw_g := lw_mem (List.mem_append_right _ (List.mem_append_right _ (List.mem_append_right _ (List.mem_of_getElem? (i := 12) rfl)))) rfl
theorem in_323 : (.instanceMethod yMd_apply : Cond) ∈ lw_g := lw_mem (List.mem_append_right _ (List.mem_append_right _ (List.mem_append_right _ (List.mem_of_getElem? (i := 10) rfl)))) rfl
theorem in_324 : (.selects "VersionFoldModel" yMd_apply yMd_apply : Cond) ∈ lw_g := lw_mem (List.mem_append_right _ (List.mem_append_right _ (List.mem_append_right _ (List.mem_of_getElem? (i := 11) rfl)))) rfl
theorem in_325 : (.methodLink "VersionFoldLaw" 91 yLw_clear : Cond) ∈ lw_g := lw_mem (List.mem_append_right _ (List.mem_append_right _ (List.mem_append_left _ (List.mem_of_getElem? (i := 39) rfl)))) rfl
theorem in_326 : (.static yLw_clear : Cond) ∈ lw_g := lw_mem (List.mem_append_right _ (List.mem_append_right _ (List.mem_append_left _ (List.mem_of_getElem? (i := 40) rfl)))) rfl
theorem in_327 : (.codeWith yLw_clear method_6_code 3 (Option.some .int) [(0, 5, 8, 13)] : Cond) ∈ lw_g := lw_mem (List.mem_append_right _ (List.mem_append_right _ (List.mem_append_left _ (List.mem_of_getElem? (i := 41) rfl)))) rfl
theorem in_328 : (.methodLink "VersionFoldLaw" 94 yMd_clear : Cond) ∈ lw_g := lw_mem (List.mem_append_right _ (List.mem_append_right _ (List.mem_append_right _ (List.mem_of_getElem? (i := 17) rfl)))) rfl
theorem in_329 : (.code yMd_clear cMd_clear 3 none : Cond) ∈ lw_g := lw_mem (List.mem_append_right _ (List.mem_append_right _ (List.mem_append_right _ (List.mem_of_getElem? (i := 20) rfl)))) rfl
theorem in_330 : (.instanceMethod yMd_clear : Cond) ∈ lw_g := lw_mem (List.mem_append_right _ (List.mem_append_right _ (List.mem_append_right _ (List.mem_of_getElem? (i := 18) rfl)))) rfl
theorem in_331 : (.selects "VersionFoldModel" yMd_clear yMd_clear : Cond) ∈ lw_g := lw_mem (List.mem_append_right _ (List.mem_append_right _ (List.mem_append_right _ (List.mem_of_getElem? (i := 19) rfl)))) rfl
theorem in_332 : (.methodLink "VersionFoldLaw" 99 yLw_seq : Cond) ∈ lw_g := lw_mem (List.mem_append_right _ (List.mem_append_right _ (List.mem_append_left _ (List.mem_of_getElem? (i := 85) rfl)))) rfl
theorem in_333 : (.static yLw_seq : Cond) ∈ lw_g := lw_mem (List.mem_append_right _ (List.mem_append_right _ (List.mem_append_left _ (List.mem_of_getElem? (i := 86) rfl)))) rfl
theorem in_334 : (.codeWith yLw_seq method_8_code 5 (Option.some .int) [(0, 10, 13, 13), (0, 10, 17, 30)] : Cond) ∈ lw_g := lw_mem (List.mem_append_right _ (List.mem_append_right _ (List.mem_append_left _ (List.mem_of_getElem? (i := 87) rfl)))) rfl
theorem in_335 : (.methodLink "VersionFoldLaw" 101 yMd_seq : Cond) ∈ lw_g := lw_mem (List.mem_append_right _ (List.mem_append_right _ (List.mem_append_right _ (List.mem_of_getElem? (i := 25) rfl)))) rfl
theorem in_336 : (.code yMd_seq cMd_seq 3 (some .int) : Cond) ∈ lw_g := lw_mem (List.mem_append_right _ (List.mem_append_right _ (List.mem_append_right _ (List.mem_of_getElem? (i := 28) rfl)))) rfl
theorem in_337 : (.instanceMethod yMd_seq : Cond) ∈ lw_g := lw_mem (List.mem_append_right _ (List.mem_append_right _ (List.mem_append_right _ (List.mem_of_getElem? (i := 26) rfl)))) rfl
theorem in_338 : (.selects "VersionFoldModel" yMd_seq yMd_seq : Cond) ∈ lw_g := lw_mem (List.mem_append_right _ (List.mem_append_right _ (List.mem_append_right _ (List.mem_of_getElem? (i := 27) rfl)))) rfl
theorem in_339 : (.methodLink "VersionFoldLaw" 102 yLw_verdict : Cond) ∈ lw_g := lw_mem (List.mem_append_right _ (List.mem_append_right _ (List.mem_append_left _ (List.mem_of_getElem? (i := 96) rfl)))) rfl
theorem in_340 : (.static yLw_verdict : Cond) ∈ lw_g := lw_mem (List.mem_append_right _ (List.mem_append_right _ (List.mem_append_left _ (List.mem_of_getElem? (i := 97) rfl)))) rfl
theorem in_341 : (.codeWith yLw_verdict method_9_code 5 (Option.some .int) [(0, 10, 13, 13), (0, 10, 17, 30)] : Cond) ∈ lw_g := lw_mem (List.mem_append_right _ (List.mem_append_right _ (List.mem_append_left _ (List.mem_of_getElem? (i := 98) rfl)))) rfl
theorem in_342 : (.methodLink "VersionFoldLaw" 104 yMd_verdict : Cond) ∈ lw_g := lw_mem (List.mem_append_right _ (List.mem_append_right _ (List.mem_append_right _ (List.mem_of_getElem? (i := 29) rfl)))) rfl
theorem in_343 : (.code yMd_verdict cMd_verdict 3 (some .int) : Cond) ∈ lw_g := lw_mem (List.mem_append_right _ (List.mem_append_right _ (List.mem_append_right _ (List.mem_of_getElem? (i := 32) rfl)))) rfl
theorem in_344 : (.instanceMethod yMd_verdict : Cond) ∈ lw_g := lw_mem (List.mem_append_right _ (List.mem_append_right _ (List.mem_append_right _ (List.mem_of_getElem? (i := 30) rfl)))) rfl
theorem in_345 : (.selects "VersionFoldModel" yMd_verdict yMd_verdict : Cond) ∈ lw_g := lw_mem (List.mem_append_right _ (List.mem_append_right _ (List.mem_append_right _ (List.mem_of_getElem? (i := 31) rfl)))) rfl
theorem in_346 : (.methodLink "VersionFoldLaw" 105 yLw_written : Cond) ∈ lw_g := lw_mem (List.mem_append_right _ (List.mem_append_right _ (List.mem_append_left _ (List.mem_of_getElem? (i := 103) rfl)))) rfl
theorem in_347 : (.static yLw_written : Cond) ∈ lw_g := lw_mem (List.mem_append_right _ (List.mem_append_right _ (List.mem_append_left _ (List.mem_of_getElem? (i := 104) rfl)))) rfl
theorem in_348 : (.codeWith yLw_written method_10_code 5 (Option.some .int) [(0, 10, 13, 13), (0, 10, 17, 30)] : Cond) ∈ lw_g := lw_mem (List.mem_append_right _ (List.mem_append_right _ (List.mem_append_left _ (List.mem_of_getElem? (i := 105) rfl)))) rfl
theorem in_349 : (.methodLink "VersionFoldLaw" 107 yMd_written : Cond) ∈ lw_g := lw_mem (List.mem_append_right _ (List.mem_append_right _ (List.mem_append_right _ (List.mem_of_getElem? (i := 33) rfl)))) rfl
theorem in_350 : (.code yMd_written cMd_written 4 (some .int) : Cond) ∈ lw_g := lw_mem (List.mem_append_right _ (List.mem_append_right _ (List.mem_append_right _ (List.mem_of_getElem? (i := 36) rfl)))) rfl
theorem in_351 : (.instanceMethod yMd_written : Cond) ∈ lw_g := lw_mem (List.mem_append_right _ (List.mem_append_right _ (List.mem_append_right _ (List.mem_of_getElem? (i := 34) rfl)))) rfl
theorem in_352 : (.selects "VersionFoldModel" yMd_written yMd_written : Cond) ∈ lw_g := lw_mem (List.mem_append_right _ (List.mem_append_right _ (List.mem_append_right _ (List.mem_of_getElem? (i := 35) rfl)))) rfl
theorem in_353 : (.methodLink "VersionFoldLaw" 95 yLw_value : Cond) ∈ lw_g := lw_mem (List.mem_append_right _ (List.mem_append_right _ (List.mem_append_left _ (List.mem_of_getElem? (i := 53) rfl)))) rfl
theorem in_354 : (.static yLw_value : Cond) ∈ lw_g := lw_mem (List.mem_append_right _ (List.mem_append_right _ (List.mem_append_left _ (List.mem_of_getElem? (i := 54) rfl)))) rfl
theorem in_355 : (.codeWith yLw_value method_7_code 6 (Option.some .int) [(0, 12, 15, 13), (0, 12, 19, 30)] : Cond) ∈ lw_g := lw_mem (List.mem_append_right _ (List.mem_append_right _ (List.mem_append_left _ (List.mem_of_getElem? (i := 55) rfl)))) rfl
theorem in_356 : (.methodLink "VersionFoldLaw" 98 yMd_value : Cond) ∈ lw_g := lw_mem (List.mem_append_right _ (List.mem_append_right _ (List.mem_append_right _ (List.mem_of_getElem? (i := 21) rfl)))) rfl
theorem in_357 : (.code yMd_value cMd_value 4 (some .int) : Cond) ∈ lw_g := lw_mem (List.mem_append_right _ (List.mem_append_right _ (List.mem_append_right _ (List.mem_of_getElem? (i := 24) rfl)))) rfl
theorem in_358 : (.instanceMethod yMd_value : Cond) ∈ lw_g := lw_mem (List.mem_append_right _ (List.mem_append_right _ (List.mem_append_right _ (List.mem_of_getElem? (i := 22) rfl)))) rfl
theorem in_359 : (.selects "VersionFoldModel" yMd_value yMd_value : Cond) ∈ lw_g := lw_mem (List.mem_append_right _ (List.mem_append_right _ (List.mem_append_right _ (List.mem_of_getElem? (i := 23) rfl)))) rfl
theorem in_360 : (.methodLink "VersionFoldLaw" 108 yLw_since : Cond) ∈ lw_g := lw_mem (List.mem_append_right _ (List.mem_append_right _ (List.mem_append_left _ (List.mem_of_getElem? (i := 114) rfl)))) rfl
theorem in_361 : (.static yLw_since : Cond) ∈ lw_g := lw_mem (List.mem_append_right _ (List.mem_append_right _ (List.mem_append_left _ (List.mem_of_getElem? (i := 115) rfl)))) rfl
theorem in_362 : (.codeWith yLw_since method_11_code 5 (Option.some .int) [(0, 10, 13, 13), (0, 10, 17, 30)] : Cond) ∈ lw_g := lw_mem (List.mem_append_right _ (List.mem_append_right _ (List.mem_append_left _ (List.mem_of_getElem? (i := 116) rfl)))) rfl
theorem in_363 : (.methodLink "VersionFoldLaw" 110 yMd_since : Cond) ∈ lw_g := lw_mem (List.mem_append_right _ (List.mem_append_right _ (List.mem_append_right _ (List.mem_of_getElem? (i := 37) rfl)))) rfl
theorem in_364 : (.code yMd_since cMd_since 3 (some .int) : Cond) ∈ lw_g := lw_mem (List.mem_append_right _ (List.mem_append_right _ (List.mem_append_right _ (List.mem_of_getElem? (i := 40) rfl)))) rfl
theorem in_365 : (.instanceMethod yMd_since : Cond) ∈ lw_g := lw_mem (List.mem_append_right _ (List.mem_append_right _ (List.mem_append_right _ (List.mem_of_getElem? (i := 38) rfl)))) rfl
theorem in_366 : (.selects "VersionFoldModel" yMd_since yMd_since : Cond) ∈ lw_g := lw_mem (List.mem_append_right _ (List.mem_append_right _ (List.mem_append_right _ (List.mem_of_getElem? (i := 39) rfl)))) rfl
theorem in_367 : (.methodLink "VersionFoldLaw" 114 yLw_look : Cond) ∈ lw_g := lw_mem (List.mem_append_right _ (List.mem_append_right _ (List.mem_append_left _ (List.mem_of_getElem? (i := 144) rfl)))) rfl
theorem in_368 : (.static yLw_look : Cond) ∈ lw_g := lw_mem (List.mem_append_right _ (List.mem_append_right _ (List.mem_append_left _ (List.mem_of_getElem? (i := 145) rfl)))) rfl
theorem in_369 : (.codeWith yLw_look method_13_code 5 (Option.some .int) [(0, 10, 13, 13)] : Cond) ∈ lw_g := lw_mem (List.mem_append_right _ (List.mem_append_right _ (List.mem_append_left _ (List.mem_of_getElem? (i := 146) rfl)))) rfl
theorem in_370 : (.methodLink "VersionFoldLaw" 116 yMd_look : Cond) ∈ lw_g := lw_mem (List.mem_append_right _ (List.mem_append_right _ (List.mem_append_right _ (List.mem_of_getElem? (i := 45) rfl)))) rfl
theorem in_371 : (.code yMd_look cMd_look 5 (some .int) : Cond) ∈ lw_g := lw_mem (List.mem_append_right _ (List.mem_append_right _ (List.mem_append_right _ (List.mem_of_getElem? (i := 48) rfl)))) rfl
theorem in_372 : (.instanceMethod yMd_look : Cond) ∈ lw_g := lw_mem (List.mem_append_right _ (List.mem_append_right _ (List.mem_append_right _ (List.mem_of_getElem? (i := 46) rfl)))) rfl
theorem in_373 : (.selects "VersionFoldModel" yMd_look yMd_look : Cond) ∈ lw_g := lw_mem (List.mem_append_right _ (List.mem_append_right _ (List.mem_append_right _ (List.mem_of_getElem? (i := 47) rfl)))) rfl
/-! THE CLAIM OUT OF ONE WALK OF THE LAW'S BODY. Your part is whole_start (and what it stands on); all else here is the same for every law, but numbers. -/
def R_law : String := "VersionFoldLaw"
def lw_P (b : Addr) (xs : List Int32) (args : Array Value) (s : State) : Prop := args = #[.ref b] ∧ s.IntsAt b xs ∧ xs.length ≤ 2049 ∧ (Jvm.Cond.and given_1 narrow_1).before args s = true
def lw_Q (_ : Array Value) (s : State) (o : Outcome) (t : State) : Prop := o = .returned (some (.int 1)) ∧ Framed s o t [] 601024 7293000
def lw_Z (below : List Frame) (a : Array Value) (s : State) : State → Prop := fun t => ∃ o, t.status = .running ∧ Ended t below o ∧ lw_Q a s o t
/-- the law's own end, with 1 on the stack, nothing written that was there before, its room as the claim has it -/
theorem lw_ret {p : Program} {l : Launch} {e : Env} {s : State} {m : MethodId} {below : List Frame} {meth : Method} {c : Code} {b : Nat} (hx : p.tables.exec = Jvm.exec) (hb : c.code = code) (hr : meth.sig.returnType = ret) (hlocks : meth.locks = false) {pc : Nat} {H : Heap} {ls : Array Slot} (hdg : decode code pc = .ok (.ireturn, 1)) : W p l e room_1 s m #[Value.ref b] below meth c H [] 601024 7293000 (lw_Z below #[Value.ref b] s) (F0 m pc ls [.int 1]) := by
  intro T hT X
  obtain ⟨fs, hret, hrun, hended, hW, hframe⟩ := X.leave (v := some (.int 1)) (hlocks := hlocks) (fun h => by rw [hr] at h; cases h)
  have hmeth' : T.vm.method? m = some meth := X.method'
  refine ⟨T.setFrames fs, ?_, .returned (some (.int 1)), hrun, hended, rfl, ⟨_, rfl⟩, hW, hframe⟩
  jvm_step X.here [X.here.top, hx, hb, hdg, hmeth', hr, ret, narrow_b1]
  (try refine ⟨rfl, ?_⟩); (try refine ⟨rfl, ?_⟩)
  first | (intro acts; rw [hret _ acts rfl rfl rfl]) | rw [hret _ _ rfl rfl rfl]
  exact Steps.refl _
/-- what holds at the law's entry: the machine, the code, the tables' words (any of lw_tbl by 'hts w (by decide +kernel)'), the script of L ints xs at the cell b, what the Statement gives of the start (any of its parts by flat_of_before) -/
def lw_At (p : Program) (s : State) (m : MethodId) (meth : Method) (c : Code) (b L : Nat) (xs : Nat → Int32) : Prop :=
  p.tables.exec = Jvm.exec ∧ c.code = code ∧ meth.sig.returnType = ret ∧ c.maxLocals = 7 ∧ s.vm.findClass R_law = some m.cls ∧ (∀ w ∈ lw_tbl, w.before #[Value.ref b] s = true) ∧ va_X b L xs s s.heap ∧ b < s.heap.size ∧ meth.locks = false ∧ (Jvm.Cond.and given_1 narrow_1).before #[Value.ref b] s = true

abbrev wAll (x xa r ra : Nat) (cI cQ cJ : ClassId) (ad : Nat → Nat → Nat) (y y1 y2 y3 y4 y5 y6 y7 y8 y9 y10 : Nat) (o : Nat) (FI : Nat → Nat → Int32) (FA : Nat → Nat → Nat → Int32) (ri rv mi : Nat → Int32) (ma : Nat → Nat → Int32) (og : Nat → Int64) : va_W := (wV x xa r cQ ad ++ wR r ra cI ri rv ++ wF (ad 0 0) (ad 0 1) (ad 0 2) (ad 0 3) (ad 0 4) cI (FI 0) (FA 0) ++ wF (ad 1 0) (ad 1 1) (ad 1 2) (ad 1 3) (ad 1 4) cI (FI 1) (FA 1) ++ wF (ad 2 0) (ad 2 1) (ad 2 2) (ad 2 3) (ad 2 4) cI (FI 2) (FA 2) ++ wF (ad 3 0) (ad 3 1) (ad 3 2) (ad 3 3) (ad 3 4) cI (FI 3) (FA 3) ++ wM y y1 y2 y3 y4 y5 y6 y7 y8 y9 y10 cI mi ma ++ wO o cJ og)
section HS9
variable {p : Program} {l : Launch} {e : Env} {R : Room} {s : State} {m : MethodId} {args : Array Value} {below : List Frame} {meth : Method} {c : Code} {H : Heap} {locs : List Loc} {cells slots : Nat} {Q : State → Prop}
variable {cc : ByteArray} {pc : Nat} {ls : Array Slot} {rest : List Value} {A : Nat → Prop} {H0 : Heap}
theorem vq_sld {k : Nat} {u : Int32} (hexec : p.tables.exec = Jvm.exec) (hb : c.code = cc) {b L : Nat} {xs : Nat → Int32} (hX : va_X b L xs s H0) (hbl : b < H0.size) (hbA : ¬ A b) (hS : va_S A H0 H locs) {i : Int32} (hi : i = nI k) (hk : k < L) (hL : L < 2 ^ 31) (hu : xs k = u) (hdg : decode cc pc = .ok (.iaload, 1))
    (kk : W p l e R s m args below meth c H locs cells slots Q (F0 m (pc + 1) ls (.int u :: rest))) : W p l e R s m args below meth c H locs cells slots Q (F0 m pc ls (.int i :: .ref b :: rest)) := by
  subst hi
  refine va_sld hexec hb hX hbl hbA hS (vp_in_nI hk hL) hdg ?_
  rw [nI_clamp (Nat.lt_trans hk hL), hu]
  exact kk
theorem lv_rl {x y : Int64} (h : x = y) (k : W p l e R s m args below meth c H locs cells slots Q (F0 m pc ls (.long y :: rest))) : W p l e R s m args below meth c H locs cells slots Q (F0 m pc ls (.long x :: rest)) := by
  subst h
  exact k
end HS9
theorem lg_self (x : Int64) : lg_cmp x x = 0 := by
  unfold lg_cmp
  rw [if_neg (fun h => by exact absurd h (by simp)), if_pos rfl]
theorem up_L (f : Nat → Int64) (x : Int64) : vp_updL f 0 x 0 = x := pk_uLs
theorem gd_SW {own : String} {idx n : Nat} {y : MethodName} {b : ByteArray} {r : Option FieldType} {hh : List (Nat × Nat × Nat × Nat)} (h1 : Cond.methodLink own idx y ∈ lw_g) (h2 : Cond.static y ∈ lw_g) (h4 : Cond.initialized y.cls ∈ lw_g) (h5 : Cond.codeWith y b n r hh ∈ lw_g) : GoodIn lw_g (va_wsS own idx y (.codeWith y b n r hh :: lw_g)) := by
  intro w hw
  have hm : w ∈ lw_g := by
    simp only [va_wsS, List.cons_append, List.nil_append, List.mem_cons] at hw
    rcases hw with rfl | rfl | rfl | rfl | hw
    · exact h1
    · exact h2
    · exact h4
    · exact h5
    · exact hw
  exact ⟨hm, lw_gd w hm⟩
theorem val_cases {v k n h : Nat} {fi : Nat → Int32} {fa ma : Nat → Nat → Int32} {lw : Nat → Nat} (hF : rF v k fi fa ma n h lw) (hn : n < 2 ^ 30) (u : Int32) : (∃ t0, t0 < 2 ^ 31 ∧ u = nI t0 ∧ ¬ nI t0 < fi 2 ∧ nI t0 ≤ fi 1 ∧ h ≤ t0 ∧ t0 ≤ n) ∨ (u < fi 2 ∨ ¬ u ≤ fi 1) := by
  obtain ⟨⟨a1, a2, a3, a4, a5, a6, a7⟩, -⟩ := hF
  by_cases h1 : u < fi 2
  · exact Or.inr (Or.inl h1)
  · by_cases h2 : u ≤ fi 1
    · left
      have h0 : ¬ u < 0 := by
        intro q
        apply h1
        rw [a4]
        exact Int32.lt_of_lt_of_le q (nI_pos' (by omega))
      obtain ⟨t0, ht0, rfl⟩ := nI_of h0
      refine ⟨t0, ht0, rfl, h1, h2, ?_, ?_⟩
      · rcases Nat.lt_or_ge t0 h with q | q
        · exact absurd (by rw [a4]; exact nI_lt q (by omega)) h1
        · exact q
      · rw [a2] at h2
        exact (nI_leI ht0 (by omega)).mp h2
    · exact Or.inr (Or.inr h2)
theorem sw_cases (x : Int32) : ∃ j0, (j0 < 8 ∧ x = nI j0) ∨ (8 = j0 ∧ (x.toInt < 0 ∨ 7 < x.toInt)) := by
  by_cases h0 : x < 0
  · refine ⟨8, Or.inr ⟨rfl, Or.inl ?_⟩⟩
    rw [Int32.lt_iff_toInt_lt, Int32.toInt_zero] at h0
    exact h0
  · obtain ⟨j, hj, rfl⟩ := nI_of h0
    by_cases h8 : j < 8
    · exact ⟨j, Or.inl ⟨h8, rfl⟩⟩
    · refine ⟨8, Or.inr ⟨rfl, Or.inr ?_⟩⟩
      rw [nI_toInt hj]
      omega
/-- what the walk goes on with, behind a turn -/
def lK (p : Program) (l : Launch) (e : Env) (s : State) (m : MethodId) (below : List Frame) (meth : Method) (c : Code) (b : Nat) (A : Nat → Prop) (dC : Nat → ClassId) (dI : Nat → Nat → Nat) (x xa r ra : Nat) (cI cQ cJ : ClassId) (ad : Nat → Nat → Nat) (y y1 y2 y3 y4 y5 y6 y7 y8 y9 y10 : Nat) (o : Nat) (v t : Nat) : Prop :=
  ∀ (FI : Nat → Nat → Int32) (FA : Nat → Nat → Nat → Int32) (ri rv mi : Nat → Int32) (ma : Nat → Nat → Int32) (og : Nat → Int64) (H : Heap) (locs : List Loc) (ls : Array Slot), rA v (t + 1) FI FA ri rv mi ma → va_P (dC, dI) vwCl (wAll x xa r ra cI cQ cJ ad y y1 y2 y3 y4 y5 y6 y7 y8 y9 y10 o FI FA ri rv mi ma og) H → va_D A (wAll x xa r ra cI cQ cJ ad y y1 y2 y3 y4 y5 y6 y7 y8 y9 y10 o FI FA ri rv mi ma og) → va_S A s.heap H locs → lv_has ls 7 [(4, .int (nI (1 + 4 * t))), (0, .ref b), (1, .ref x), (2, .ref y), (3, .ref o)] →
    W p l e room_1 s m #[Value.ref b] below meth c H locs (36 + (t + 1)) (5882 + 6 * (t + 1)) (lw_Z below #[Value.ref b] s) (F0 m 949 ls [])
theorem up_id {α : Type} {f : Nat → α} {k : Nat} : va_up f k (f k) = f := by
  funext j
  by_cases e : j = k
  · subst e; exact va_up_self _ _ _
  · exact va_up_ne _ _ e
theorem rA.thr1 {v T : Nat} {FI : Nat → Nat → Int32} {FA : Nat → Nat → Nat → Int32} {ri rv mi : Nat → Int32} {ma : Nat → Nat → Int32} (k : Nat) (c : Int32) (h : rA v T FI FA ri rv mi ma) : rA v (T + 1) (va_up FI k (FI k)) (va_up FA k (FA k)) ri rv (va_up mi 0 c) ma := by
  rw [up_id, up_id]
  exact rA.thr c h
abbrev wP1 (x xa r ra : Nat) (cI cQ cJ : ClassId) (ad : Nat → Nat → Nat) (y y1 y2 y3 y4 y5 y6 y7 y8 y9 y10 : Nat) (o : Nat) (k0 b9 c9 d9 : Nat) (FI : Nat → Nat → Int32) (FA : Nat → Nat → Nat → Int32) (ri rv mi : Nat → Int32) (ma : Nat → Nat → Int32) (og : Nat → Int64) (fi : Nat → Int32) (fa : Nat → Nat → Int32) : va_W := (wV x xa r cQ ad ++ wR r ra cI ri rv ++ wF (ad k0 0) (ad k0 1) (ad k0 2) (ad k0 3) (ad k0 4) cI fi fa ++ wF (ad b9 0) (ad b9 1) (ad b9 2) (ad b9 3) (ad b9 4) cI (FI b9) (FA b9) ++ wF (ad c9 0) (ad c9 1) (ad c9 2) (ad c9 3) (ad c9 4) cI (FI c9) (FA c9) ++ wF (ad d9 0) (ad d9 1) (ad d9 2) (ad d9 3) (ad d9 4) cI (FI d9) (FA d9) ++ wM y y1 y2 y3 y4 y5 y6 y7 y8 y9 y10 cI mi ma ++ wO o cJ og)
def lKp1 (p : Program) (l : Launch) (e : Env) (s : State) (m : MethodId) (below : List Frame) (meth : Method) (c : Code) (b : Nat) (A : Nat → Prop) (dC : Nat → ClassId) (dI : Nat → Nat → Nat) (x xa r ra : Nat) (cI cQ cJ : ClassId) (ad : Nat → Nat → Nat) (y y1 y2 y3 y4 y5 y6 y7 y8 y9 y10 : Nat) (o : Nat) (v t : Nat) (k0 b9 c9 d9 : Nat) (FI : Nat → Nat → Int32) (FA : Nat → Nat → Nat → Int32) (ri rv : Nat → Int32) : Prop :=
  ∀ (fi : Nat → Int32) (fa : Nat → Nat → Int32) (mi : Nat → Int32) (ma : Nat → Nat → Int32) (og : Nat → Int64) (H : Heap) (locs : List Loc) (ls : Array Slot), rA v (t + 1) (va_up FI k0 fi) (va_up FA k0 fa) ri rv mi ma → va_P (dC, dI) vwCl (wP1 x xa r ra cI cQ cJ ad y y1 y2 y3 y4 y5 y6 y7 y8 y9 y10 o k0 b9 c9 d9 FI FA ri rv mi ma og fi fa) H → va_D A (wP1 x xa r ra cI cQ cJ ad y y1 y2 y3 y4 y5 y6 y7 y8 y9 y10 o k0 b9 c9 d9 FI FA ri rv mi ma og fi fa) → va_S A s.heap H locs → lv_has ls 7 [(4, .int (nI (1 + 4 * t))), (0, .ref b), (1, .ref x), (2, .ref y), (3, .ref o)] →
    W p l e room_1 s m #[Value.ref b] below meth c H locs (36 + (t + 1)) (5882 + 6 * (t + 1)) (lw_Z below #[Value.ref b] s) (F0 m 949 ls [])
set_option maxHeartbeats 4000000 in
theorem perm1 {p : Program} {l : Launch} {e : Env} {s : State} {m : MethodId} {below : List Frame} {meth : Method} {c : Code} {b : Nat} {A : Nat → Prop} {dC : Nat → ClassId} {dI : Nat → Nat → Nat} {x xa r ra : Nat} {cI cQ cJ : ClassId} {ad : Nat → Nat → Nat} {y y1 y2 y3 y4 y5 y6 y7 y8 y9 y10 : Nat} {o : Nat} {v t : Nat} {FI : Nat → Nat → Int32} {FA : Nat → Nat → Nat → Int32} {ri rv mi : Nat → Int32} {ma : Nat → Nat → Int32} {og : Nat → Int64} {H : Heap} (K : lK p l e s m below meth c b A dC dI x xa r ra cI cQ cJ ad y y1 y2 y3 y4 y5 y6 y7 y8 y9 y10 o v t) (k0 : Nat) (hk0 : k0 < 4) (hP : va_P (dC, dI) vwCl (wAll x xa r ra cI cQ cJ ad y y1 y2 y3 y4 y5 y6 y7 y8 y9 y10 o FI FA ri rv mi ma og) H) (hD : va_D A (wAll x xa r ra cI cQ cJ ad y y1 y2 y3 y4 y5 y6 y7 y8 y9 y10 o FI FA ri rv mi ma og)) : ∃ b9 c9 d9, lKp1 p l e s m below meth c b A dC dI x xa r ra cI cQ cJ ad y y1 y2 y3 y4 y5 y6 y7 y8 y9 y10 o v t k0 b9 c9 d9 FI FA ri rv ∧ va_P (dC, dI) vwCl (wP1 x xa r ra cI cQ cJ ad y y1 y2 y3 y4 y5 y6 y7 y8 y9 y10 o k0 b9 c9 d9 FI FA ri rv mi ma og (FI k0) (FA k0)) H ∧ va_D A (wP1 x xa r ra cI cQ cJ ad y y1 y2 y3 y4 y5 y6 y7 y8 y9 y10 o k0 b9 c9 d9 FI FA ri rv mi ma og (FI k0) (FA k0)) := by
  rcases (show k0 = 0 ∨ k0 = 1 ∨ k0 = 2 ∨ k0 = 3 by omega) with e0 | e0 | e0 | e0
  · subst e0
    exact ⟨1, 2, 3, fun fi fa mi ma og H locs ls hR hP hD hS hl => K (va_up FI 0 fi) (va_up FA 0 fa) ri rv mi ma og H locs ls hR (hP.sub [0, 1, 2, 3, 4, 5, 6, 7, 8, 9, 10, 11, 12, 13, 14, 15, 16, 17, 18, 19, 20, 21, 22, 23, 24, 25, 26, 27, 28, 29, 30, 31, 32, 33, 34, 35] rfl) (hD.sub [0, 1, 2, 3, 4, 5, 6, 7, 8, 9, 10, 11, 12, 13, 14, 15, 16, 17, 18, 19, 20, 21, 22, 23, 24, 25, 26, 27, 28, 29, 30, 31, 32, 33, 34, 35] (by decide) rfl) hS hl, hP.sub [0, 1, 2, 3, 4, 5, 6, 7, 8, 9, 10, 11, 12, 13, 14, 15, 16, 17, 18, 19, 20, 21, 22, 23, 24, 25, 26, 27, 28, 29, 30, 31, 32, 33, 34, 35] rfl, hD.sub [0, 1, 2, 3, 4, 5, 6, 7, 8, 9, 10, 11, 12, 13, 14, 15, 16, 17, 18, 19, 20, 21, 22, 23, 24, 25, 26, 27, 28, 29, 30, 31, 32, 33, 34, 35] (by decide) rfl⟩
  · subst e0
    exact ⟨0, 2, 3, fun fi fa mi ma og H locs ls hR hP hD hS hl => K (va_up FI 1 fi) (va_up FA 1 fa) ri rv mi ma og H locs ls hR (hP.sub [0, 1, 2, 3, 9, 10, 11, 12, 13, 4, 5, 6, 7, 8, 14, 15, 16, 17, 18, 19, 20, 21, 22, 23, 24, 25, 26, 27, 28, 29, 30, 31, 32, 33, 34, 35] rfl) (hD.sub [0, 1, 2, 3, 9, 10, 11, 12, 13, 4, 5, 6, 7, 8, 14, 15, 16, 17, 18, 19, 20, 21, 22, 23, 24, 25, 26, 27, 28, 29, 30, 31, 32, 33, 34, 35] (by decide) rfl) hS hl, hP.sub [0, 1, 2, 3, 9, 10, 11, 12, 13, 4, 5, 6, 7, 8, 14, 15, 16, 17, 18, 19, 20, 21, 22, 23, 24, 25, 26, 27, 28, 29, 30, 31, 32, 33, 34, 35] rfl, hD.sub [0, 1, 2, 3, 9, 10, 11, 12, 13, 4, 5, 6, 7, 8, 14, 15, 16, 17, 18, 19, 20, 21, 22, 23, 24, 25, 26, 27, 28, 29, 30, 31, 32, 33, 34, 35] (by decide) rfl⟩
  · subst e0
    exact ⟨0, 1, 3, fun fi fa mi ma og H locs ls hR hP hD hS hl => K (va_up FI 2 fi) (va_up FA 2 fa) ri rv mi ma og H locs ls hR (hP.sub [0, 1, 2, 3, 9, 10, 11, 12, 13, 14, 15, 16, 17, 18, 4, 5, 6, 7, 8, 19, 20, 21, 22, 23, 24, 25, 26, 27, 28, 29, 30, 31, 32, 33, 34, 35] rfl) (hD.sub [0, 1, 2, 3, 9, 10, 11, 12, 13, 14, 15, 16, 17, 18, 4, 5, 6, 7, 8, 19, 20, 21, 22, 23, 24, 25, 26, 27, 28, 29, 30, 31, 32, 33, 34, 35] (by decide) rfl) hS hl, hP.sub [0, 1, 2, 3, 14, 15, 16, 17, 18, 4, 5, 6, 7, 8, 9, 10, 11, 12, 13, 19, 20, 21, 22, 23, 24, 25, 26, 27, 28, 29, 30, 31, 32, 33, 34, 35] rfl, hD.sub [0, 1, 2, 3, 14, 15, 16, 17, 18, 4, 5, 6, 7, 8, 9, 10, 11, 12, 13, 19, 20, 21, 22, 23, 24, 25, 26, 27, 28, 29, 30, 31, 32, 33, 34, 35] (by decide) rfl⟩
  · subst e0
    exact ⟨0, 1, 2, fun fi fa mi ma og H locs ls hR hP hD hS hl => K (va_up FI 3 fi) (va_up FA 3 fa) ri rv mi ma og H locs ls hR (hP.sub [0, 1, 2, 3, 9, 10, 11, 12, 13, 14, 15, 16, 17, 18, 19, 20, 21, 22, 23, 4, 5, 6, 7, 8, 24, 25, 26, 27, 28, 29, 30, 31, 32, 33, 34, 35] rfl) (hD.sub [0, 1, 2, 3, 9, 10, 11, 12, 13, 14, 15, 16, 17, 18, 19, 20, 21, 22, 23, 4, 5, 6, 7, 8, 24, 25, 26, 27, 28, 29, 30, 31, 32, 33, 34, 35] (by decide) rfl) hS hl, hP.sub [0, 1, 2, 3, 19, 20, 21, 22, 23, 4, 5, 6, 7, 8, 9, 10, 11, 12, 13, 14, 15, 16, 17, 18, 24, 25, 26, 27, 28, 29, 30, 31, 32, 33, 34, 35] rfl, hD.sub [0, 1, 2, 3, 19, 20, 21, 22, 23, 4, 5, 6, 7, 8, 9, 10, 11, 12, 13, 14, 15, 16, 17, 18, 24, 25, 26, 27, 28, 29, 30, 31, 32, 33, 34, 35] (by decide) rfl⟩
abbrev wP2 (x xa r ra : Nat) (cI cQ cJ : ClassId) (ad : Nat → Nat → Nat) (y y1 y2 y3 y4 y5 y6 y7 y8 y9 y10 : Nat) (o : Nat) (k0 k1 c9 d9 : Nat) (FI : Nat → Nat → Int32) (FA : Nat → Nat → Nat → Int32) (ri rv mi : Nat → Int32) (ma : Nat → Nat → Int32) (og : Nat → Int64) (fi : Nat → Int32) (fa : Nat → Nat → Int32) : va_W := (wV x xa r cQ ad ++ wR r ra cI ri rv ++ wF (ad k0 0) (ad k0 1) (ad k0 2) (ad k0 3) (ad k0 4) cI (FI k0) (FA k0) ++ wF (ad k1 0) (ad k1 1) (ad k1 2) (ad k1 3) (ad k1 4) cI fi fa ++ wF (ad c9 0) (ad c9 1) (ad c9 2) (ad c9 3) (ad c9 4) cI (FI c9) (FA c9) ++ wF (ad d9 0) (ad d9 1) (ad d9 2) (ad d9 3) (ad d9 4) cI (FI d9) (FA d9) ++ wM y y1 y2 y3 y4 y5 y6 y7 y8 y9 y10 cI mi ma ++ wO o cJ og)
def lKp2 (p : Program) (l : Launch) (e : Env) (s : State) (m : MethodId) (below : List Frame) (meth : Method) (c : Code) (b : Nat) (A : Nat → Prop) (dC : Nat → ClassId) (dI : Nat → Nat → Nat) (x xa r ra : Nat) (cI cQ cJ : ClassId) (ad : Nat → Nat → Nat) (y y1 y2 y3 y4 y5 y6 y7 y8 y9 y10 : Nat) (o : Nat) (v t : Nat) (k0 k1 c9 d9 : Nat) (FI : Nat → Nat → Int32) (FA : Nat → Nat → Nat → Int32) (ri rv : Nat → Int32) : Prop :=
  ∀ (fi : Nat → Int32) (fa : Nat → Nat → Int32) (mi : Nat → Int32) (ma : Nat → Nat → Int32) (og : Nat → Int64) (H : Heap) (locs : List Loc) (ls : Array Slot), rA v (t + 1) (va_up FI k1 fi) (va_up FA k1 fa) ri rv mi ma → va_P (dC, dI) vwCl (wP2 x xa r ra cI cQ cJ ad y y1 y2 y3 y4 y5 y6 y7 y8 y9 y10 o k0 k1 c9 d9 FI FA ri rv mi ma og fi fa) H → va_D A (wP2 x xa r ra cI cQ cJ ad y y1 y2 y3 y4 y5 y6 y7 y8 y9 y10 o k0 k1 c9 d9 FI FA ri rv mi ma og fi fa) → va_S A s.heap H locs → lv_has ls 7 [(4, .int (nI (1 + 4 * t))), (0, .ref b), (1, .ref x), (2, .ref y), (3, .ref o)] →
    W p l e room_1 s m #[Value.ref b] below meth c H locs (36 + (t + 1)) (5882 + 6 * (t + 1)) (lw_Z below #[Value.ref b] s) (F0 m 949 ls [])
set_option maxHeartbeats 4000000 in
theorem perm2 {p : Program} {l : Launch} {e : Env} {s : State} {m : MethodId} {below : List Frame} {meth : Method} {c : Code} {b : Nat} {A : Nat → Prop} {dC : Nat → ClassId} {dI : Nat → Nat → Nat} {x xa r ra : Nat} {cI cQ cJ : ClassId} {ad : Nat → Nat → Nat} {y y1 y2 y3 y4 y5 y6 y7 y8 y9 y10 : Nat} {o : Nat} {v t : Nat} {FI : Nat → Nat → Int32} {FA : Nat → Nat → Nat → Int32} {ri rv mi : Nat → Int32} {ma : Nat → Nat → Int32} {og : Nat → Int64} {H : Heap} (K : lK p l e s m below meth c b A dC dI x xa r ra cI cQ cJ ad y y1 y2 y3 y4 y5 y6 y7 y8 y9 y10 o v t) (k0 k1 : Nat) (hk0 : k0 < 4) (hk1 : k1 < 4) (hne : k0 ≠ k1) (hP : va_P (dC, dI) vwCl (wAll x xa r ra cI cQ cJ ad y y1 y2 y3 y4 y5 y6 y7 y8 y9 y10 o FI FA ri rv mi ma og) H) (hD : va_D A (wAll x xa r ra cI cQ cJ ad y y1 y2 y3 y4 y5 y6 y7 y8 y9 y10 o FI FA ri rv mi ma og)) : ∃ c9 d9, lKp2 p l e s m below meth c b A dC dI x xa r ra cI cQ cJ ad y y1 y2 y3 y4 y5 y6 y7 y8 y9 y10 o v t k0 k1 c9 d9 FI FA ri rv ∧ va_P (dC, dI) vwCl (wP2 x xa r ra cI cQ cJ ad y y1 y2 y3 y4 y5 y6 y7 y8 y9 y10 o k0 k1 c9 d9 FI FA ri rv mi ma og (FI k1) (FA k1)) H ∧ va_D A (wP2 x xa r ra cI cQ cJ ad y y1 y2 y3 y4 y5 y6 y7 y8 y9 y10 o k0 k1 c9 d9 FI FA ri rv mi ma og (FI k1) (FA k1)) := by
  rcases (show (k0 = 0 ∧ k1 = 1) ∨ (k0 = 0 ∧ k1 = 2) ∨ (k0 = 0 ∧ k1 = 3) ∨ (k0 = 1 ∧ k1 = 0) ∨ (k0 = 1 ∧ k1 = 2) ∨ (k0 = 1 ∧ k1 = 3) ∨ (k0 = 2 ∧ k1 = 0) ∨ (k0 = 2 ∧ k1 = 1) ∨ (k0 = 2 ∧ k1 = 3) ∨ (k0 = 3 ∧ k1 = 0) ∨ (k0 = 3 ∧ k1 = 1) ∨ (k0 = 3 ∧ k1 = 2) by omega) with ⟨e0, e1⟩ | ⟨e0, e1⟩ | ⟨e0, e1⟩ | ⟨e0, e1⟩ | ⟨e0, e1⟩ | ⟨e0, e1⟩ | ⟨e0, e1⟩ | ⟨e0, e1⟩ | ⟨e0, e1⟩ | ⟨e0, e1⟩ | ⟨e0, e1⟩ | ⟨e0, e1⟩
  · subst e0; subst e1
    exact ⟨2, 3, fun fi fa mi ma og H locs ls hR hP hD hS hl => K (va_up FI 1 fi) (va_up FA 1 fa) ri rv mi ma og H locs ls hR (hP.sub [0, 1, 2, 3, 4, 5, 6, 7, 8, 9, 10, 11, 12, 13, 14, 15, 16, 17, 18, 19, 20, 21, 22, 23, 24, 25, 26, 27, 28, 29, 30, 31, 32, 33, 34, 35] rfl) (hD.sub [0, 1, 2, 3, 4, 5, 6, 7, 8, 9, 10, 11, 12, 13, 14, 15, 16, 17, 18, 19, 20, 21, 22, 23, 24, 25, 26, 27, 28, 29, 30, 31, 32, 33, 34, 35] (by decide) rfl) hS hl, hP.sub [0, 1, 2, 3, 4, 5, 6, 7, 8, 9, 10, 11, 12, 13, 14, 15, 16, 17, 18, 19, 20, 21, 22, 23, 24, 25, 26, 27, 28, 29, 30, 31, 32, 33, 34, 35] rfl, hD.sub [0, 1, 2, 3, 4, 5, 6, 7, 8, 9, 10, 11, 12, 13, 14, 15, 16, 17, 18, 19, 20, 21, 22, 23, 24, 25, 26, 27, 28, 29, 30, 31, 32, 33, 34, 35] (by decide) rfl⟩
  · subst e0; subst e1
    exact ⟨1, 3, fun fi fa mi ma og H locs ls hR hP hD hS hl => K (va_up FI 2 fi) (va_up FA 2 fa) ri rv mi ma og H locs ls hR (hP.sub [0, 1, 2, 3, 4, 5, 6, 7, 8, 14, 15, 16, 17, 18, 9, 10, 11, 12, 13, 19, 20, 21, 22, 23, 24, 25, 26, 27, 28, 29, 30, 31, 32, 33, 34, 35] rfl) (hD.sub [0, 1, 2, 3, 4, 5, 6, 7, 8, 14, 15, 16, 17, 18, 9, 10, 11, 12, 13, 19, 20, 21, 22, 23, 24, 25, 26, 27, 28, 29, 30, 31, 32, 33, 34, 35] (by decide) rfl) hS hl, hP.sub [0, 1, 2, 3, 4, 5, 6, 7, 8, 14, 15, 16, 17, 18, 9, 10, 11, 12, 13, 19, 20, 21, 22, 23, 24, 25, 26, 27, 28, 29, 30, 31, 32, 33, 34, 35] rfl, hD.sub [0, 1, 2, 3, 4, 5, 6, 7, 8, 14, 15, 16, 17, 18, 9, 10, 11, 12, 13, 19, 20, 21, 22, 23, 24, 25, 26, 27, 28, 29, 30, 31, 32, 33, 34, 35] (by decide) rfl⟩
  · subst e0; subst e1
    exact ⟨1, 2, fun fi fa mi ma og H locs ls hR hP hD hS hl => K (va_up FI 3 fi) (va_up FA 3 fa) ri rv mi ma og H locs ls hR (hP.sub [0, 1, 2, 3, 4, 5, 6, 7, 8, 14, 15, 16, 17, 18, 19, 20, 21, 22, 23, 9, 10, 11, 12, 13, 24, 25, 26, 27, 28, 29, 30, 31, 32, 33, 34, 35] rfl) (hD.sub [0, 1, 2, 3, 4, 5, 6, 7, 8, 14, 15, 16, 17, 18, 19, 20, 21, 22, 23, 9, 10, 11, 12, 13, 24, 25, 26, 27, 28, 29, 30, 31, 32, 33, 34, 35] (by decide) rfl) hS hl, hP.sub [0, 1, 2, 3, 4, 5, 6, 7, 8, 19, 20, 21, 22, 23, 9, 10, 11, 12, 13, 14, 15, 16, 17, 18, 24, 25, 26, 27, 28, 29, 30, 31, 32, 33, 34, 35] rfl, hD.sub [0, 1, 2, 3, 4, 5, 6, 7, 8, 19, 20, 21, 22, 23, 9, 10, 11, 12, 13, 14, 15, 16, 17, 18, 24, 25, 26, 27, 28, 29, 30, 31, 32, 33, 34, 35] (by decide) rfl⟩
  · subst e0; subst e1
    exact ⟨2, 3, fun fi fa mi ma og H locs ls hR hP hD hS hl => K (va_up FI 0 fi) (va_up FA 0 fa) ri rv mi ma og H locs ls hR (hP.sub [0, 1, 2, 3, 9, 10, 11, 12, 13, 4, 5, 6, 7, 8, 14, 15, 16, 17, 18, 19, 20, 21, 22, 23, 24, 25, 26, 27, 28, 29, 30, 31, 32, 33, 34, 35] rfl) (hD.sub [0, 1, 2, 3, 9, 10, 11, 12, 13, 4, 5, 6, 7, 8, 14, 15, 16, 17, 18, 19, 20, 21, 22, 23, 24, 25, 26, 27, 28, 29, 30, 31, 32, 33, 34, 35] (by decide) rfl) hS hl, hP.sub [0, 1, 2, 3, 9, 10, 11, 12, 13, 4, 5, 6, 7, 8, 14, 15, 16, 17, 18, 19, 20, 21, 22, 23, 24, 25, 26, 27, 28, 29, 30, 31, 32, 33, 34, 35] rfl, hD.sub [0, 1, 2, 3, 9, 10, 11, 12, 13, 4, 5, 6, 7, 8, 14, 15, 16, 17, 18, 19, 20, 21, 22, 23, 24, 25, 26, 27, 28, 29, 30, 31, 32, 33, 34, 35] (by decide) rfl⟩
  · subst e0; subst e1
    exact ⟨0, 3, fun fi fa mi ma og H locs ls hR hP hD hS hl => K (va_up FI 2 fi) (va_up FA 2 fa) ri rv mi ma og H locs ls hR (hP.sub [0, 1, 2, 3, 14, 15, 16, 17, 18, 4, 5, 6, 7, 8, 9, 10, 11, 12, 13, 19, 20, 21, 22, 23, 24, 25, 26, 27, 28, 29, 30, 31, 32, 33, 34, 35] rfl) (hD.sub [0, 1, 2, 3, 14, 15, 16, 17, 18, 4, 5, 6, 7, 8, 9, 10, 11, 12, 13, 19, 20, 21, 22, 23, 24, 25, 26, 27, 28, 29, 30, 31, 32, 33, 34, 35] (by decide) rfl) hS hl, hP.sub [0, 1, 2, 3, 9, 10, 11, 12, 13, 14, 15, 16, 17, 18, 4, 5, 6, 7, 8, 19, 20, 21, 22, 23, 24, 25, 26, 27, 28, 29, 30, 31, 32, 33, 34, 35] rfl, hD.sub [0, 1, 2, 3, 9, 10, 11, 12, 13, 14, 15, 16, 17, 18, 4, 5, 6, 7, 8, 19, 20, 21, 22, 23, 24, 25, 26, 27, 28, 29, 30, 31, 32, 33, 34, 35] (by decide) rfl⟩
  · subst e0; subst e1
    exact ⟨0, 2, fun fi fa mi ma og H locs ls hR hP hD hS hl => K (va_up FI 3 fi) (va_up FA 3 fa) ri rv mi ma og H locs ls hR (hP.sub [0, 1, 2, 3, 14, 15, 16, 17, 18, 4, 5, 6, 7, 8, 19, 20, 21, 22, 23, 9, 10, 11, 12, 13, 24, 25, 26, 27, 28, 29, 30, 31, 32, 33, 34, 35] rfl) (hD.sub [0, 1, 2, 3, 14, 15, 16, 17, 18, 4, 5, 6, 7, 8, 19, 20, 21, 22, 23, 9, 10, 11, 12, 13, 24, 25, 26, 27, 28, 29, 30, 31, 32, 33, 34, 35] (by decide) rfl) hS hl, hP.sub [0, 1, 2, 3, 9, 10, 11, 12, 13, 19, 20, 21, 22, 23, 4, 5, 6, 7, 8, 14, 15, 16, 17, 18, 24, 25, 26, 27, 28, 29, 30, 31, 32, 33, 34, 35] rfl, hD.sub [0, 1, 2, 3, 9, 10, 11, 12, 13, 19, 20, 21, 22, 23, 4, 5, 6, 7, 8, 14, 15, 16, 17, 18, 24, 25, 26, 27, 28, 29, 30, 31, 32, 33, 34, 35] (by decide) rfl⟩
  · subst e0; subst e1
    exact ⟨1, 3, fun fi fa mi ma og H locs ls hR hP hD hS hl => K (va_up FI 0 fi) (va_up FA 0 fa) ri rv mi ma og H locs ls hR (hP.sub [0, 1, 2, 3, 9, 10, 11, 12, 13, 14, 15, 16, 17, 18, 4, 5, 6, 7, 8, 19, 20, 21, 22, 23, 24, 25, 26, 27, 28, 29, 30, 31, 32, 33, 34, 35] rfl) (hD.sub [0, 1, 2, 3, 9, 10, 11, 12, 13, 14, 15, 16, 17, 18, 4, 5, 6, 7, 8, 19, 20, 21, 22, 23, 24, 25, 26, 27, 28, 29, 30, 31, 32, 33, 34, 35] (by decide) rfl) hS hl, hP.sub [0, 1, 2, 3, 14, 15, 16, 17, 18, 4, 5, 6, 7, 8, 9, 10, 11, 12, 13, 19, 20, 21, 22, 23, 24, 25, 26, 27, 28, 29, 30, 31, 32, 33, 34, 35] rfl, hD.sub [0, 1, 2, 3, 14, 15, 16, 17, 18, 4, 5, 6, 7, 8, 9, 10, 11, 12, 13, 19, 20, 21, 22, 23, 24, 25, 26, 27, 28, 29, 30, 31, 32, 33, 34, 35] (by decide) rfl⟩
  · subst e0; subst e1
    exact ⟨0, 3, fun fi fa mi ma og H locs ls hR hP hD hS hl => K (va_up FI 1 fi) (va_up FA 1 fa) ri rv mi ma og H locs ls hR (hP.sub [0, 1, 2, 3, 14, 15, 16, 17, 18, 9, 10, 11, 12, 13, 4, 5, 6, 7, 8, 19, 20, 21, 22, 23, 24, 25, 26, 27, 28, 29, 30, 31, 32, 33, 34, 35] rfl) (hD.sub [0, 1, 2, 3, 14, 15, 16, 17, 18, 9, 10, 11, 12, 13, 4, 5, 6, 7, 8, 19, 20, 21, 22, 23, 24, 25, 26, 27, 28, 29, 30, 31, 32, 33, 34, 35] (by decide) rfl) hS hl, hP.sub [0, 1, 2, 3, 14, 15, 16, 17, 18, 9, 10, 11, 12, 13, 4, 5, 6, 7, 8, 19, 20, 21, 22, 23, 24, 25, 26, 27, 28, 29, 30, 31, 32, 33, 34, 35] rfl, hD.sub [0, 1, 2, 3, 14, 15, 16, 17, 18, 9, 10, 11, 12, 13, 4, 5, 6, 7, 8, 19, 20, 21, 22, 23, 24, 25, 26, 27, 28, 29, 30, 31, 32, 33, 34, 35] (by decide) rfl⟩
  · subst e0; subst e1
    exact ⟨0, 1, fun fi fa mi ma og H locs ls hR hP hD hS hl => K (va_up FI 3 fi) (va_up FA 3 fa) ri rv mi ma og H locs ls hR (hP.sub [0, 1, 2, 3, 14, 15, 16, 17, 18, 19, 20, 21, 22, 23, 4, 5, 6, 7, 8, 9, 10, 11, 12, 13, 24, 25, 26, 27, 28, 29, 30, 31, 32, 33, 34, 35] rfl) (hD.sub [0, 1, 2, 3, 14, 15, 16, 17, 18, 19, 20, 21, 22, 23, 4, 5, 6, 7, 8, 9, 10, 11, 12, 13, 24, 25, 26, 27, 28, 29, 30, 31, 32, 33, 34, 35] (by decide) rfl) hS hl, hP.sub [0, 1, 2, 3, 14, 15, 16, 17, 18, 19, 20, 21, 22, 23, 4, 5, 6, 7, 8, 9, 10, 11, 12, 13, 24, 25, 26, 27, 28, 29, 30, 31, 32, 33, 34, 35] rfl, hD.sub [0, 1, 2, 3, 14, 15, 16, 17, 18, 19, 20, 21, 22, 23, 4, 5, 6, 7, 8, 9, 10, 11, 12, 13, 24, 25, 26, 27, 28, 29, 30, 31, 32, 33, 34, 35] (by decide) rfl⟩
  · subst e0; subst e1
    exact ⟨1, 2, fun fi fa mi ma og H locs ls hR hP hD hS hl => K (va_up FI 0 fi) (va_up FA 0 fa) ri rv mi ma og H locs ls hR (hP.sub [0, 1, 2, 3, 9, 10, 11, 12, 13, 14, 15, 16, 17, 18, 19, 20, 21, 22, 23, 4, 5, 6, 7, 8, 24, 25, 26, 27, 28, 29, 30, 31, 32, 33, 34, 35] rfl) (hD.sub [0, 1, 2, 3, 9, 10, 11, 12, 13, 14, 15, 16, 17, 18, 19, 20, 21, 22, 23, 4, 5, 6, 7, 8, 24, 25, 26, 27, 28, 29, 30, 31, 32, 33, 34, 35] (by decide) rfl) hS hl, hP.sub [0, 1, 2, 3, 19, 20, 21, 22, 23, 4, 5, 6, 7, 8, 9, 10, 11, 12, 13, 14, 15, 16, 17, 18, 24, 25, 26, 27, 28, 29, 30, 31, 32, 33, 34, 35] rfl, hD.sub [0, 1, 2, 3, 19, 20, 21, 22, 23, 4, 5, 6, 7, 8, 9, 10, 11, 12, 13, 14, 15, 16, 17, 18, 24, 25, 26, 27, 28, 29, 30, 31, 32, 33, 34, 35] (by decide) rfl⟩
  · subst e0; subst e1
    exact ⟨0, 2, fun fi fa mi ma og H locs ls hR hP hD hS hl => K (va_up FI 1 fi) (va_up FA 1 fa) ri rv mi ma og H locs ls hR (hP.sub [0, 1, 2, 3, 14, 15, 16, 17, 18, 9, 10, 11, 12, 13, 19, 20, 21, 22, 23, 4, 5, 6, 7, 8, 24, 25, 26, 27, 28, 29, 30, 31, 32, 33, 34, 35] rfl) (hD.sub [0, 1, 2, 3, 14, 15, 16, 17, 18, 9, 10, 11, 12, 13, 19, 20, 21, 22, 23, 4, 5, 6, 7, 8, 24, 25, 26, 27, 28, 29, 30, 31, 32, 33, 34, 35] (by decide) rfl) hS hl, hP.sub [0, 1, 2, 3, 19, 20, 21, 22, 23, 9, 10, 11, 12, 13, 4, 5, 6, 7, 8, 14, 15, 16, 17, 18, 24, 25, 26, 27, 28, 29, 30, 31, 32, 33, 34, 35] rfl, hD.sub [0, 1, 2, 3, 19, 20, 21, 22, 23, 9, 10, 11, 12, 13, 4, 5, 6, 7, 8, 14, 15, 16, 17, 18, 24, 25, 26, 27, 28, 29, 30, 31, 32, 33, 34, 35] (by decide) rfl⟩
  · subst e0; subst e1
    exact ⟨0, 1, fun fi fa mi ma og H locs ls hR hP hD hS hl => K (va_up FI 2 fi) (va_up FA 2 fa) ri rv mi ma og H locs ls hR (hP.sub [0, 1, 2, 3, 14, 15, 16, 17, 18, 19, 20, 21, 22, 23, 9, 10, 11, 12, 13, 4, 5, 6, 7, 8, 24, 25, 26, 27, 28, 29, 30, 31, 32, 33, 34, 35] rfl) (hD.sub [0, 1, 2, 3, 14, 15, 16, 17, 18, 19, 20, 21, 22, 23, 9, 10, 11, 12, 13, 4, 5, 6, 7, 8, 24, 25, 26, 27, 28, 29, 30, 31, 32, 33, 34, 35] (by decide) rfl) hS hl, hP.sub [0, 1, 2, 3, 19, 20, 21, 22, 23, 14, 15, 16, 17, 18, 4, 5, 6, 7, 8, 9, 10, 11, 12, 13, 24, 25, 26, 27, 28, 29, 30, 31, 32, 33, 34, 35] rfl, hD.sub [0, 1, 2, 3, 19, 20, 21, 22, 23, 14, 15, 16, 17, 18, 4, 5, 6, 7, 8, 9, 10, 11, 12, 13, 24, 25, 26, 27, 28, 29, 30, 31, 32, 33, 34, 35] (by decide) rfl⟩
