theorem in_374 : (.methodLink "VersionFoldLaw" 87 yLw_take : Cond) ∈ lw_g := lw_mem (List.mem_append_right _ (List.mem_append_right _ (List.mem_append_left _ (List.mem_of_getElem? (i := 28) rfl)))) rfl
theorem in_375 : (.static yLw_take : Cond) ∈ lw_g := lw_mem (List.mem_append_right _ (List.mem_append_right _ (List.mem_append_left _ (List.mem_of_getElem? (i := 29) rfl)))) rfl
theorem in_376 : (.codeWith yLw_take method_5_code 5 (Option.some .int) [(0, 17, 20, 13)] : Cond) ∈ lw_g := lw_mem (List.mem_append_right _ (List.mem_append_right _ (List.mem_append_left _ (List.mem_of_getElem? (i := 30) rfl)))) rfl
theorem in_377 : (.methodLink "VersionFoldLaw" 90 yMd_take : Cond) ∈ lw_g := lw_mem (List.mem_append_right _ (List.mem_append_right _ (List.mem_append_right _ (List.mem_of_getElem? (i := 13) rfl)))) rfl
theorem in_378 : (.code yMd_take cMd_take 4 (some .boolean) : Cond) ∈ lw_g := lw_mem (List.mem_append_right _ (List.mem_append_right _ (List.mem_append_right _ (List.mem_of_getElem? (i := 16) rfl)))) rfl
theorem in_379 : (.instanceMethod yMd_take : Cond) ∈ lw_g := lw_mem (List.mem_append_right _ (List.mem_append_right _ (List.mem_append_right _ (List.mem_of_getElem? (i := 14) rfl)))) rfl
theorem in_380 : (.selects "VersionFoldModel" yMd_take yMd_take : Cond) ∈ lw_g := lw_mem (List.mem_append_right _ (List.mem_append_right _ (List.mem_append_right _ (List.mem_of_getElem? (i := 15) rfl)))) rfl
theorem in_381 : (.methodLink "VersionFoldLaw" 111 yLw_same : Cond) ∈ lw_g := lw_mem (List.mem_append_right _ (List.mem_append_right _ (List.mem_append_left _ (List.mem_of_getElem? (i := 124) rfl)))) rfl
theorem in_382 : (.static yLw_same : Cond) ∈ lw_g := lw_mem (List.mem_append_right _ (List.mem_append_right _ (List.mem_append_left _ (List.mem_of_getElem? (i := 125) rfl)))) rfl
theorem in_383 : (.codeWith yLw_same method_12_code 5 (Option.some .int) [(0, 17, 20, 13)] : Cond) ∈ lw_g := lw_mem (List.mem_append_right _ (List.mem_append_right _ (List.mem_append_left _ (List.mem_of_getElem? (i := 126) rfl)))) rfl
theorem in_384 : (.methodLink "VersionFoldLaw" 113 yMd_same : Cond) ∈ lw_g := lw_mem (List.mem_append_right _ (List.mem_append_right _ (List.mem_append_right _ (List.mem_of_getElem? (i := 41) rfl)))) rfl
theorem in_385 : (.code yMd_same cMd_same 5 (some .boolean) : Cond) ∈ lw_g := lw_mem (List.mem_append_right _ (List.mem_append_right _ (List.mem_append_right _ (List.mem_of_getElem? (i := 44) rfl)))) rfl
theorem in_386 : (.instanceMethod yMd_same : Cond) ∈ lw_g := lw_mem (List.mem_append_right _ (List.mem_append_right _ (List.mem_append_right _ (List.mem_of_getElem? (i := 42) rfl)))) rfl
theorem in_387 : (.selects "VersionFoldModel" yMd_same yMd_same : Cond) ∈ lw_g := lw_mem (List.mem_append_right _ (List.mem_append_right _ (List.mem_append_right _ (List.mem_of_getElem? (i := 43) rfl)))) rfl
set_option maxHeartbeats 4000000 in
set_option maxRecDepth 100000 in
theorem law_take {p : Program} {l : Launch} {e : Env} {s : State} {m : MethodId} {below : List Frame} {meth : Method} {c : Code} {dC : Nat → ClassId} {dI : Nat → Nat → Nat} {b L : Nat} {xs : Nat → Int32} {A : Nat → Prop} (hL : L ≤ 2049) (C0 : lw_At p s m meth c b L xs) (hA : ∀ q : Nat, s.heap.size ≤ q → A q) (hbA : ¬ A b) (hnt : l.stackTraces = false) (hXN : x_N s) (hXZ : x_Z A s s.heap)
    {x xa r ra : Nat} {cI cQ cJ : ClassId} {ad : Nat → Nat → Nat} {y y1 y2 y3 y4 y5 y6 y7 y8 y9 y10 : Nat} {o : Nat} {v tn : Nat} {u1 u2 u3 : Int32} (htL : 1 + 4 * tn + 3 < L) (hu1 : xs (1 + 4 * tn + 1) = u1) (hu2 : xs (1 + 4 * tn + 2) = u2) (hu3 : xs (1 + 4 * tn + 3) = u3) (K : lK p l e s m below meth c b A dC dI x xa r ra cI cQ cJ ad y y1 y2 y3 y4 y5 y6 y7 y8 y9 y10 o v tn)
    {FI : Nat → Nat → Int32} {FA : Nat → Nat → Nat → Int32} {ri rv mi : Nat → Int32} {ma : Nat → Nat → Int32} {og : Nat → Int64} {H : Heap} {locs : List Loc} {ls : Array Slot} (hR : rA v tn FI FA ri rv mi ma) (hK : va_K (dC, dI) vwCl [(cI, .int), (cQ, .object RFo), (cJ, .long)] s) (hP : va_P (dC, dI) vwCl (wAll x xa r ra cI cQ cJ ad y y1 y2 y3 y4 y5 y6 y7 y8 y9 y10 o FI FA ri rv mi ma og) H) (hD : va_D A (wAll x xa r ra cI cQ cJ ad y y1 y2 y3 y4 y5 y6 y7 y8 y9 y10 o FI FA ri rv mi ma og)) (hS : va_S A s.heap H locs) (hl : lv_has ls 7 [(4, .int (nI (1 + 4 * tn))), (0, .ref b), (1, .ref x), (2, .ref y), (3, .ref o)]) :
    W p l e room_1 s m #[Value.ref b] below meth c H locs (36 + tn) (5882 + 6 * tn) (lw_Z below #[Value.ref b] s) (F0 m 343 ls []) := by
  obtain ⟨hx, hb, hr, hml, hown, hts0, hX, hbl, hlocks, hgv⟩ := C0
  have hts : ∀ w ∈ lw_g, w.before #[Value.ref b] s = true := fun w h => hts0 w (List.mem_filter.mp h).1
  have hR0 := hR
  obtain ⟨⟨hv1, hv16, hver⟩, ⟨d0, d1, d2, d3, d4⟩, ⟨se, hs16, hse⟩, ⟨b0, hb31, hsn⟩, hdr, hw16, hR7⟩ := hR
  rcases lk_cases u1 with hfx | ⟨k0, hk0, ek0⟩
  · skip
    refine lv_aload_n hx hb dLw_law_343 rfl (lv_at hl 2 rfl) ?_
    refine lv_aload_n hx hb dLw_law_344 rfl (lv_at hl 1 rfl) ?_
    refine lv_iload hx hb dLw_law_345 (lv_at hl 0 rfl) ?_
    refine lv_iconst (v := 1) hx hb dLw_law_347 (by decide) ?_
    refine lv_iadd hx hb dLw_law_348 ?_
    refine lv_ri (y := nI ((1 + 4 * tn) + 1)) (nI_1 _) ?_
    refine vq_sld (k := ((1 + 4 * tn) + 1)) (u := u1) hx hb hX hbl hbA hS rfl (by omega) (by omega) hu1 dLw_law_349 ?_
    refine lv_aload_n hx hb dLw_law_350 rfl (lv_at hl 1 rfl) ?_
    refine lv_iload hx hb dLw_law_351 (lv_at hl 0 rfl) ?_
    refine lv_iconst (v := 2) hx hb dLw_law_353 (by decide) ?_
    refine lv_iadd hx hb dLw_law_354 ?_
    refine lv_ri (y := nI ((1 + 4 * tn) + 2)) (nI_add _ 2) ?_
    refine vq_sld (k := ((1 + 4 * tn) + 2)) (u := u2) hx hb hX hbl hbA hS rfl (by omega) (by omega) hu2 dLw_law_355 ?_
    refine lv_aload_n hx hb dLw_law_356 rfl (lv_at hl 4 rfl) ?_
    have hPc := hP.sub (ws' := (wV x xa r cQ ad)) [0, 1] rfl
    have hKc := hK.sub (tys' := [(cI, .int), (cQ, .object RFo)]) [0, 1] rfl
    refine va_calli (vx_runSW (As := [.ref x, .int u1, .int u2, .ref o]) (rest := []) ⟨hx, hb, hml, hown, hts⟩ (h_takeN l hnt dC dI x xa r cI cQ ad u1 u2 hfx o) (vx_cwSW 4 hts (gd_SW in_374 in_375 in_308 in_376) rfl rfl rfl (by decide +kernel) ⟨Nat.le_of_ble_eq_true rfl, Nat.le_of_ble_eq_true rfl⟩) ⟨fun a U g mk q => by obtain ⟨q0, qN, qZ, qP, qK⟩ := q; exact ⟨q0, x_N.same rfl qN, x_Z.moved (u := U) (U := U.calling g mk a) (Vm.Alike.refl U.vm) qZ, qP, va_K.moved (u := U) (U := U.calling g mk a) (Vm.Alike.refl U.vm) qK⟩, fun U hU hW => ⟨rfl, x_N.warm hW hXN, by rw [hU]; exact x_Z.moved hW.alike ((hXZ.kept hS.2.1).narrow (fun _ h => h.elim)), by rw [hU]; exact hPc, va_K.moved hW.alike hKc⟩⟩ rfl rfl hl.1 rfl (lv_room (Nat.le_of_ble_eq_true rfl)) dLw_law_357 ⟨by show _ + 1 ≤ 601024; omega, by show _ + 6 ≤ 7293000; omega⟩) hS (fun q _ h => h.elim) (fun q h => h.elim) (fun r9 u t9 H1 locs ht hvm hw hB hz1 hk1 hS => ?_)
    have hw : r9 = 1 := hw
    subst hw
    have hP := hP.kept (H1 := H1) (fun k q hq => hk1 q.1 (hP k q hq).lt (fun h => h))
    generalize H1 = H at hP hS ⊢
    have hP : va_P (dC, dI) vwCl (wV x xa r cQ ad ++ wR r ra cI ri rv ++ wF (ad 0 0) (ad 0 1) (ad 0 2) (ad 0 3) (ad 0 4) cI (FI 0) (FA 0) ++ wF (ad 1 0) (ad 1 1) (ad 1 2) (ad 1 3) (ad 1 4) cI (FI 1) (FA 1) ++ wF (ad 2 0) (ad 2 1) (ad 2 2) (ad 2 3) (ad 2 4) cI (FI 2) (FA 2) ++ wF (ad 3 0) (ad 3 1) (ad 3 2) (ad 3 3) (ad 3 4) cI (FI 3) (FA 3) ++ wM y y1 y2 y3 y4 y5 y6 y7 y8 y9 y10 cI mi ma ++ wO o cJ og) H := hP
    have hD : va_D A (wV x xa r cQ ad ++ wR r ra cI ri rv ++ wF (ad 0 0) (ad 0 1) (ad 0 2) (ad 0 3) (ad 0 4) cI (FI 0) (FA 0) ++ wF (ad 1 0) (ad 1 1) (ad 1 2) (ad 1 3) (ad 1 4) cI (FI 1) (FA 1) ++ wF (ad 2 0) (ad 2 1) (ad 2 2) (ad 2 3) (ad 2 4) cI (FI 2) (FA 2) ++ wF (ad 3 0) (ad 3 1) (ad 3 2) (ad 3 3) (ad 3 4) cI (FI 3) (FA 3) ++ wM y y1 y2 y3 y4 y5 y6 y7 y8 y9 y10 cI mi ma ++ wO o cJ og) := hD
    refine lv_istore (lv' := [(5, .int 1), (4, .int (nI (1 + 4 * tn))), (0, .ref b), (1, .ref x), (2, .ref y), (3, .ref o)]) hx hb dLw_law_360 hl (by decide) rfl (fun ls hl => ?_)
    refine lv_aload_n hx hb dLw_law_362 rfl (lv_at hl 4 rfl) ?_
    refine lv_aload_n hx hb dLw_law_363 rfl (lv_at hl 2 rfl) ?_
    refine lv_iload hx hb dLw_law_364 (lv_at hl 1 rfl) ?_
    refine lv_iconst (v := 1) hx hb dLw_law_366 (by decide) ?_
    refine lv_iadd hx hb dLw_law_367 ?_
    refine lv_ri (y := nI ((1 + 4 * tn) + 1)) (nI_1 _) ?_
    refine vq_sld (k := ((1 + 4 * tn) + 1)) (u := u1) hx hb hX hbl hbA hS rfl (by omega) (by omega) hu1 dLw_law_368 ?_
    refine lv_aload_n hx hb dLw_law_369 rfl (lv_at hl 2 rfl) ?_
    refine lv_iload hx hb dLw_law_370 (lv_at hl 1 rfl) ?_
    refine lv_iconst (v := 2) hx hb dLw_law_372 (by decide) ?_
    refine lv_iadd hx hb dLw_law_373 ?_
    refine lv_ri (y := nI ((1 + 4 * tn) + 2)) (nI_add _ 2) ?_
    refine vq_sld (k := ((1 + 4 * tn) + 2)) (u := u2) hx hb hX hbl hbA hS rfl (by omega) (by omega) hu2 dLw_law_374 ?_
    have hPc := hP.sub (ws' := (wM y y1 y2 y3 y4 y5 y6 y7 y8 y9 y10 cI mi ma)) [24, 25, 26, 27, 28, 29, 30, 31, 32, 33, 34] rfl
    have hDc := hD.sub (ws' := (wM y y1 y2 y3 y4 y5 y6 y7 y8 y9 y10 cI mi ma)) [24, 25, 26, 27, 28, 29, 30, 31, 32, 33, 34] (by decide) rfl
    have hKc := hK.sub (tys' := [(cI, .int)]) [0] rfl
    have hFc := va_free (wc := (wM y y1 y2 y3 y4 y5 y6 y7 y8 y9 y10 cI mi ma)) hD hS hA [24, 25, 26, 27, 28, 29, 30, 31, 32, 33, 34] rfl
    refine va_calli (va_runV (As := [.int u1, .int u2]) (rest := []) ⟨hx, hb, hml, hown, hts⟩ (k_M_takeN l dC dI H.size y y1 y2 y3 y4 y5 y6 y7 y8 y9 y10 cI mi ma u1 u2 hfx) (cwV 2 hts (gd_V in_377 in_379 in_380 in_74 in_378) rfl rfl rfl (by decide +kernel) ⟨Nat.le_of_ble_eq_true rfl, Nat.le_of_ble_eq_true rfl⟩) ⟨fun a U g mk q => by obtain ⟨q0, q1, qP, qK, qD⟩ := q; exact ⟨q0, q1, qP, va_K.moved (u := U) (U := U.calling g mk a) (Vm.Alike.refl U.vm) qK, qD⟩, va_recv hKc hPc (ci := 3) (q0 := 0) rfl rfl, fun U hU hW => ⟨rfl, by rw [hU], by rw [hU]; exact hPc, va_K.moved hW.alike hKc, hDc.weaken (fun _ _ _ _ => trivial)⟩⟩ rfl rfl hl.1 rfl (lv_room (Nat.le_of_ble_eq_true rfl)) dLw_law_375 ⟨by show _ + 0 ≤ 601024; omega, by show _ + 0 ≤ 7293000; omega⟩) hS (fun q _ h => hFc q h) hFc (fun r_1 u t H1 locs ht hvm hw hB hz1 hk1 hS => ?_)
    obtain ⟨hP1, hK1, hD1⟩ := hB
    rw [ht] at hP1
    obtain ⟨hP, hD⟩ := va_join (wr := (wV x xa r cQ ad ++ wR r ra cI ri rv ++ wF (ad 0 0) (ad 0 1) (ad 0 2) (ad 0 3) (ad 0 4) cI (FI 0) (FA 0) ++ wF (ad 1 0) (ad 1 1) (ad 1 2) (ad 1 3) (ad 1 4) cI (FI 1) (FA 1) ++ wF (ad 2 0) (ad 2 1) (ad 2 2) (ad 2 3) (ad 2 4) cI (FI 2) (FA 2) ++ wF (ad 3 0) (ad 3 1) (ad 3 2) (ad 3 3) (ad 3 4) cI (FI 3) (FA 3) ++ wO o cJ og)) (w1 := (wM y y1 y2 y3 y4 y5 y6 y7 y8 y9 y10 cI (va_up mi 0 1) ma)) hP hD [24, 25, 26, 27, 28, 29, 30, 31, 32, 33, 34] [0, 1, 2, 3, 4, 5, 6, 7, 8, 9, 10, 11, 12, 13, 14, 15, 16, 17, 18, 19, 20, 21, 22, 23, 35] rfl rfl (by decide) (by decide) hk1 hFc hP1 hD1
    generalize H1 = H at hP hS ⊢
    have hP := hP.sub (ws' := (wV x xa r cQ ad ++ wR r ra cI ri rv ++ wF (ad 0 0) (ad 0 1) (ad 0 2) (ad 0 3) (ad 0 4) cI (FI 0) (FA 0) ++ wF (ad 1 0) (ad 1 1) (ad 1 2) (ad 1 3) (ad 1 4) cI (FI 1) (FA 1) ++ wF (ad 2 0) (ad 2 1) (ad 2 2) (ad 2 3) (ad 2 4) cI (FI 2) (FA 2) ++ wF (ad 3 0) (ad 3 1) (ad 3 2) (ad 3 3) (ad 3 4) cI (FI 3) (FA 3) ++ wM y y1 y2 y3 y4 y5 y6 y7 y8 y9 y10 cI (va_up mi 0 1) ma ++ wO o cJ og)) [0, 1, 2, 3, 4, 5, 6, 7, 8, 9, 10, 11, 12, 13, 14, 15, 16, 17, 18, 19, 20, 21, 22, 23, 25, 26, 27, 28, 29, 30, 31, 32, 33, 34, 35, 24] rfl
    have hD := hD.sub (ws' := (wV x xa r cQ ad ++ wR r ra cI ri rv ++ wF (ad 0 0) (ad 0 1) (ad 0 2) (ad 0 3) (ad 0 4) cI (FI 0) (FA 0) ++ wF (ad 1 0) (ad 1 1) (ad 1 2) (ad 1 3) (ad 1 4) cI (FI 1) (FA 1) ++ wF (ad 2 0) (ad 2 1) (ad 2 2) (ad 2 3) (ad 2 4) cI (FI 2) (FA 2) ++ wF (ad 3 0) (ad 3 1) (ad 3 2) (ad 3 3) (ad 3 4) cI (FI 3) (FA 3) ++ wM y y1 y2 y3 y4 y5 y6 y7 y8 y9 y10 cI (va_up mi 0 1) ma ++ wO o cJ og)) [0, 1, 2, 3, 4, 5, 6, 7, 8, 9, 10, 11, 12, 13, 14, 15, 16, 17, 18, 19, 20, 21, 22, 23, 25, 26, 27, 28, 29, 30, 31, 32, 33, 34, 35, 24] (by decide) rfl
    have hP : va_P (dC, dI) vwCl (wV x xa r cQ ad ++ wR r ra cI ri rv ++ wF (ad 0 0) (ad 0 1) (ad 0 2) (ad 0 3) (ad 0 4) cI (FI 0) (FA 0) ++ wF (ad 1 0) (ad 1 1) (ad 1 2) (ad 1 3) (ad 1 4) cI (FI 1) (FA 1) ++ wF (ad 2 0) (ad 2 1) (ad 2 2) (ad 2 3) (ad 2 4) cI (FI 2) (FA 2) ++ wF (ad 3 0) (ad 3 1) (ad 3 2) (ad 3 3) (ad 3 4) cI (FI 3) (FA 3) ++ wM y y1 y2 y3 y4 y5 y6 y7 y8 y9 y10 cI (va_up mi 0 1) ma ++ wO o cJ og) H := hP
    have hD : va_D A (wV x xa r cQ ad ++ wR r ra cI ri rv ++ wF (ad 0 0) (ad 0 1) (ad 0 2) (ad 0 3) (ad 0 4) cI (FI 0) (FA 0) ++ wF (ad 1 0) (ad 1 1) (ad 1 2) (ad 1 3) (ad 1 4) cI (FI 1) (FA 1) ++ wF (ad 2 0) (ad 2 1) (ad 2 2) (ad 2 3) (ad 2 4) cI (FI 2) (FA 2) ++ wF (ad 3 0) (ad 3 1) (ad 3 2) (ad 3 3) (ad 3 4) cI (FI 3) (FA 3) ++ wM y y1 y2 y3 y4 y5 y6 y7 y8 y9 y10 cI (va_up mi 0 1) ma ++ wO o cJ og) := hD
    have hw : r_1 = 0 := hw
    subst hw
    refine lv_istore (lv' := [(6, .int 0), (5, .int 1), (4, .int (nI (1 + 4 * tn))), (0, .ref b), (1, .ref x), (2, .ref y), (3, .ref o)]) hx hb dLw_law_378 hl (by decide) rfl (fun ls hl => ?_)
    refine lv_aload_n hx hb dLw_law_380 rfl (lv_at hl 5 rfl) ?_
    have hPc := hP.sub (ws' := (wM y y1 y2 y3 y4 y5 y6 y7 y8 y9 y10 cI (va_up mi 0 1) ma)) [24, 25, 26, 27, 28, 29, 30, 31, 32, 33, 34] rfl
    have hKc := hK.sub (tys' := [(cI, .int)]) [0] rfl
    refine vp_callSi (W.runV (As := []) (rest := []) ⟨hx, hb, hml, hown, hts⟩ (k_M_thrown l dC dI y y1 y2 y3 y4 y5 y6 y7 y8 y9 y10 cI (va_up mi 0 1) ma) (cwV 0 hts (gd_V in_314 in_316 in_317 in_74 in_315) rfl rfl rfl (by decide +kernel) ⟨Nat.le_of_ble_eq_true rfl, Nat.le_of_ble_eq_true rfl⟩) ⟨fun a U g mk q => by obtain ⟨q0, qP, qK⟩ := q; exact ⟨q0, qP, va_K.moved (u := U) (U := U.calling g mk a) (Vm.Alike.refl U.vm) qK⟩, va_recv hKc hPc (ci := 3) (q0 := 0) rfl rfl, fun U hU hW => ⟨rfl, by rw [hU]; exact hPc, va_K.moved hW.alike hKc⟩⟩ rfl rfl hl.1 rfl (lv_room (Nat.le_of_ble_eq_true rfl)) dLw_law_381 ⟨by show _ + 0 ≤ 601024; omega, by show _ + 0 ≤ 7293000; omega⟩) (fun r_2 er_3 => ?_)
    subst er_3
    refine lv_ri (y := 1) rfl ?_
    refine lv_iload hx hb dLw_law_384 (lv_at hl 1 rfl) ?_
    refine lv_icmp_eq (tgt := 391) hx hb dLw_law_386 (by decide) (fun _ => ?_) (fun c_4 => absurd c_4 (by decide))
    refine lv_iload hx hb dLw_law_391 (lv_at hl 1 rfl) ?_
    refine lv_if_ne (tgt := 415) hx hb dLw_law_393 (by decide) (fun _ => ?_) (fun c_5 => absurd c_5 (by decide))
    refine lv_goto (tgt := 949) hx hb dLw_law_415 (by decide) ?_
    refine W.widen (k := 36 + (tn + 1)) (n := 5882 + 6 * (tn + 1)) (by omega) (by omega) ?_
    exact K FI FA ri rv (va_up mi 0 1) ma og H locs ls (rA.thr 1 hR0) hP hD hS (lv_sub hl [2, 3, 4, 5, 6] rfl)
  · skip
    subst ek0
    rcases lk_cases u2 with hfx | ⟨k1, h4b, ek1⟩
    · skip
      refine lv_aload_n hx hb dLw_law_343 rfl (lv_at hl 2 rfl) ?_
      refine lv_aload_n hx hb dLw_law_344 rfl (lv_at hl 1 rfl) ?_
      refine lv_iload hx hb dLw_law_345 (lv_at hl 0 rfl) ?_
      refine lv_iconst (v := 1) hx hb dLw_law_347 (by decide) ?_
      refine lv_iadd hx hb dLw_law_348 ?_
      refine lv_ri (y := nI ((1 + 4 * tn) + 1)) (nI_1 _) ?_
      refine vq_sld (k := ((1 + 4 * tn) + 1)) (u := nI k0) hx hb hX hbl hbA hS rfl (by omega) (by omega) hu1 dLw_law_349 ?_
      refine lv_aload_n hx hb dLw_law_350 rfl (lv_at hl 1 rfl) ?_
      refine lv_iload hx hb dLw_law_351 (lv_at hl 0 rfl) ?_
      refine lv_iconst (v := 2) hx hb dLw_law_353 (by decide) ?_
      refine lv_iadd hx hb dLw_law_354 ?_
      refine lv_ri (y := nI ((1 + 4 * tn) + 2)) (nI_add _ 2) ?_
      refine vq_sld (k := ((1 + 4 * tn) + 2)) (u := u2) hx hb hX hbl hbA hS rfl (by omega) (by omega) hu2 dLw_law_355 ?_
      refine lv_aload_n hx hb dLw_law_356 rfl (lv_at hl 4 rfl) ?_
      have hPc := hP.sub (ws' := (wV x xa r cQ ad)) [0, 1] rfl
      have hKc := hK.sub (tys' := [(cI, .int), (cQ, .object RFo)]) [0, 1] rfl
      refine va_calli (vx_runSW (As := [.ref x, .int (nI k0), .int u2, .ref o]) (rest := []) ⟨hx, hb, hml, hown, hts⟩ (h_takeN2 l hnt dC dI x xa r cI cQ ad k0 hk0 u2 hfx o) (vx_cwSW 4 hts (gd_SW in_374 in_375 in_308 in_376) rfl rfl rfl (by decide +kernel) ⟨Nat.le_of_ble_eq_true rfl, Nat.le_of_ble_eq_true rfl⟩) ⟨fun a U g mk q => by obtain ⟨q0, qN, qZ, qP, qK⟩ := q; exact ⟨q0, x_N.same rfl qN, x_Z.moved (u := U) (U := U.calling g mk a) (Vm.Alike.refl U.vm) qZ, qP, va_K.moved (u := U) (U := U.calling g mk a) (Vm.Alike.refl U.vm) qK⟩, fun U hU hW => ⟨rfl, x_N.warm hW hXN, by rw [hU]; exact x_Z.moved hW.alike ((hXZ.kept hS.2.1).narrow (fun _ h => h.elim)), by rw [hU]; exact hPc, va_K.moved hW.alike hKc⟩⟩ rfl rfl hl.1 rfl (lv_room (Nat.le_of_ble_eq_true rfl)) dLw_law_357 ⟨by show _ + 1 ≤ 601024; omega, by show _ + 6 ≤ 7293000; omega⟩) hS (fun q _ h => h.elim) (fun q h => h.elim) (fun r9 u t9 H1 locs ht hvm hw hB hz1 hk1 hS => ?_)
      have hw : r9 = 1 := hw
      subst hw
      have hP := hP.kept (H1 := H1) (fun k q hq => hk1 q.1 (hP k q hq).lt (fun h => h))
      generalize H1 = H at hP hS ⊢
      have hP : va_P (dC, dI) vwCl (wV x xa r cQ ad ++ wR r ra cI ri rv ++ wF (ad 0 0) (ad 0 1) (ad 0 2) (ad 0 3) (ad 0 4) cI (FI 0) (FA 0) ++ wF (ad 1 0) (ad 1 1) (ad 1 2) (ad 1 3) (ad 1 4) cI (FI 1) (FA 1) ++ wF (ad 2 0) (ad 2 1) (ad 2 2) (ad 2 3) (ad 2 4) cI (FI 2) (FA 2) ++ wF (ad 3 0) (ad 3 1) (ad 3 2) (ad 3 3) (ad 3 4) cI (FI 3) (FA 3) ++ wM y y1 y2 y3 y4 y5 y6 y7 y8 y9 y10 cI mi ma ++ wO o cJ og) H := hP
      have hD : va_D A (wV x xa r cQ ad ++ wR r ra cI ri rv ++ wF (ad 0 0) (ad 0 1) (ad 0 2) (ad 0 3) (ad 0 4) cI (FI 0) (FA 0) ++ wF (ad 1 0) (ad 1 1) (ad 1 2) (ad 1 3) (ad 1 4) cI (FI 1) (FA 1) ++ wF (ad 2 0) (ad 2 1) (ad 2 2) (ad 2 3) (ad 2 4) cI (FI 2) (FA 2) ++ wF (ad 3 0) (ad 3 1) (ad 3 2) (ad 3 3) (ad 3 4) cI (FI 3) (FA 3) ++ wM y y1 y2 y3 y4 y5 y6 y7 y8 y9 y10 cI mi ma ++ wO o cJ og) := hD
      refine lv_istore (lv' := [(5, .int 1), (4, .int (nI (1 + 4 * tn))), (0, .ref b), (1, .ref x), (2, .ref y), (3, .ref o)]) hx hb dLw_law_360 hl (by decide) rfl (fun ls hl => ?_)
      refine lv_aload_n hx hb dLw_law_362 rfl (lv_at hl 4 rfl) ?_
      refine lv_aload_n hx hb dLw_law_363 rfl (lv_at hl 2 rfl) ?_
      refine lv_iload hx hb dLw_law_364 (lv_at hl 1 rfl) ?_
      refine lv_iconst (v := 1) hx hb dLw_law_366 (by decide) ?_
      refine lv_iadd hx hb dLw_law_367 ?_
      refine lv_ri (y := nI ((1 + 4 * tn) + 1)) (nI_1 _) ?_
      refine vq_sld (k := ((1 + 4 * tn) + 1)) (u := nI k0) hx hb hX hbl hbA hS rfl (by omega) (by omega) hu1 dLw_law_368 ?_
      refine lv_aload_n hx hb dLw_law_369 rfl (lv_at hl 2 rfl) ?_
      refine lv_iload hx hb dLw_law_370 (lv_at hl 1 rfl) ?_
      refine lv_iconst (v := 2) hx hb dLw_law_372 (by decide) ?_
      refine lv_iadd hx hb dLw_law_373 ?_
      refine lv_ri (y := nI ((1 + 4 * tn) + 2)) (nI_add _ 2) ?_
      refine vq_sld (k := ((1 + 4 * tn) + 2)) (u := u2) hx hb hX hbl hbA hS rfl (by omega) (by omega) hu2 dLw_law_374 ?_
      have hPc := hP.sub (ws' := (wM y y1 y2 y3 y4 y5 y6 y7 y8 y9 y10 cI mi ma)) [24, 25, 26, 27, 28, 29, 30, 31, 32, 33, 34] rfl
      have hDc := hD.sub (ws' := (wM y y1 y2 y3 y4 y5 y6 y7 y8 y9 y10 cI mi ma)) [24, 25, 26, 27, 28, 29, 30, 31, 32, 33, 34] (by decide) rfl
      have hKc := hK.sub (tys' := [(cI, .int)]) [0] rfl
      have hFc := va_free (wc := (wM y y1 y2 y3 y4 y5 y6 y7 y8 y9 y10 cI mi ma)) hD hS hA [24, 25, 26, 27, 28, 29, 30, 31, 32, 33, 34] rfl
      refine va_calli (va_runV (As := [.int (nI k0), .int u2]) (rest := []) ⟨hx, hb, hml, hown, hts⟩ (k_M_takeN2 l dC dI H.size y y1 y2 y3 y4 y5 y6 y7 y8 y9 y10 cI mi ma k0 hk0 u2 hfx) (cwV 2 hts (gd_V in_377 in_379 in_380 in_74 in_378) rfl rfl rfl (by decide +kernel) ⟨Nat.le_of_ble_eq_true rfl, Nat.le_of_ble_eq_true rfl⟩) ⟨fun a U g mk q => by obtain ⟨q0, q1, qP, qK, qD⟩ := q; exact ⟨q0, q1, qP, va_K.moved (u := U) (U := U.calling g mk a) (Vm.Alike.refl U.vm) qK, qD⟩, va_recv hKc hPc (ci := 3) (q0 := 0) rfl rfl, fun U hU hW => ⟨rfl, by rw [hU], by rw [hU]; exact hPc, va_K.moved hW.alike hKc, hDc.weaken (fun _ _ _ _ => trivial)⟩⟩ rfl rfl hl.1 rfl (lv_room (Nat.le_of_ble_eq_true rfl)) dLw_law_375 ⟨by show _ + 0 ≤ 601024; omega, by show _ + 0 ≤ 7293000; omega⟩) hS (fun q _ h => hFc q h) hFc (fun r_6 u t H1 locs ht hvm hw hB hz1 hk1 hS => ?_)
      obtain ⟨hP1, hK1, hD1⟩ := hB
      rw [ht] at hP1
      obtain ⟨hP, hD⟩ := va_join (wr := (wV x xa r cQ ad ++ wR r ra cI ri rv ++ wF (ad 0 0) (ad 0 1) (ad 0 2) (ad 0 3) (ad 0 4) cI (FI 0) (FA 0) ++ wF (ad 1 0) (ad 1 1) (ad 1 2) (ad 1 3) (ad 1 4) cI (FI 1) (FA 1) ++ wF (ad 2 0) (ad 2 1) (ad 2 2) (ad 2 3) (ad 2 4) cI (FI 2) (FA 2) ++ wF (ad 3 0) (ad 3 1) (ad 3 2) (ad 3 3) (ad 3 4) cI (FI 3) (FA 3) ++ wO o cJ og)) (w1 := (wM y y1 y2 y3 y4 y5 y6 y7 y8 y9 y10 cI (va_up mi 0 1) ma)) hP hD [24, 25, 26, 27, 28, 29, 30, 31, 32, 33, 34] [0, 1, 2, 3, 4, 5, 6, 7, 8, 9, 10, 11, 12, 13, 14, 15, 16, 17, 18, 19, 20, 21, 22, 23, 35] rfl rfl (by decide) (by decide) hk1 hFc hP1 hD1
      generalize H1 = H at hP hS ⊢
      have hP := hP.sub (ws' := (wV x xa r cQ ad ++ wR r ra cI ri rv ++ wF (ad 0 0) (ad 0 1) (ad 0 2) (ad 0 3) (ad 0 4) cI (FI 0) (FA 0) ++ wF (ad 1 0) (ad 1 1) (ad 1 2) (ad 1 3) (ad 1 4) cI (FI 1) (FA 1) ++ wF (ad 2 0) (ad 2 1) (ad 2 2) (ad 2 3) (ad 2 4) cI (FI 2) (FA 2) ++ wF (ad 3 0) (ad 3 1) (ad 3 2) (ad 3 3) (ad 3 4) cI (FI 3) (FA 3) ++ wM y y1 y2 y3 y4 y5 y6 y7 y8 y9 y10 cI (va_up mi 0 1) ma ++ wO o cJ og)) [0, 1, 2, 3, 4, 5, 6, 7, 8, 9, 10, 11, 12, 13, 14, 15, 16, 17, 18, 19, 20, 21, 22, 23, 25, 26, 27, 28, 29, 30, 31, 32, 33, 34, 35, 24] rfl
      have hD := hD.sub (ws' := (wV x xa r cQ ad ++ wR r ra cI ri rv ++ wF (ad 0 0) (ad 0 1) (ad 0 2) (ad 0 3) (ad 0 4) cI (FI 0) (FA 0) ++ wF (ad 1 0) (ad 1 1) (ad 1 2) (ad 1 3) (ad 1 4) cI (FI 1) (FA 1) ++ wF (ad 2 0) (ad 2 1) (ad 2 2) (ad 2 3) (ad 2 4) cI (FI 2) (FA 2) ++ wF (ad 3 0) (ad 3 1) (ad 3 2) (ad 3 3) (ad 3 4) cI (FI 3) (FA 3) ++ wM y y1 y2 y3 y4 y5 y6 y7 y8 y9 y10 cI (va_up mi 0 1) ma ++ wO o cJ og)) [0, 1, 2, 3, 4, 5, 6, 7, 8, 9, 10, 11, 12, 13, 14, 15, 16, 17, 18, 19, 20, 21, 22, 23, 25, 26, 27, 28, 29, 30, 31, 32, 33, 34, 35, 24] (by decide) rfl
      have hP : va_P (dC, dI) vwCl (wV x xa r cQ ad ++ wR r ra cI ri rv ++ wF (ad 0 0) (ad 0 1) (ad 0 2) (ad 0 3) (ad 0 4) cI (FI 0) (FA 0) ++ wF (ad 1 0) (ad 1 1) (ad 1 2) (ad 1 3) (ad 1 4) cI (FI 1) (FA 1) ++ wF (ad 2 0) (ad 2 1) (ad 2 2) (ad 2 3) (ad 2 4) cI (FI 2) (FA 2) ++ wF (ad 3 0) (ad 3 1) (ad 3 2) (ad 3 3) (ad 3 4) cI (FI 3) (FA 3) ++ wM y y1 y2 y3 y4 y5 y6 y7 y8 y9 y10 cI (va_up mi 0 1) ma ++ wO o cJ og) H := hP
      have hD : va_D A (wV x xa r cQ ad ++ wR r ra cI ri rv ++ wF (ad 0 0) (ad 0 1) (ad 0 2) (ad 0 3) (ad 0 4) cI (FI 0) (FA 0) ++ wF (ad 1 0) (ad 1 1) (ad 1 2) (ad 1 3) (ad 1 4) cI (FI 1) (FA 1) ++ wF (ad 2 0) (ad 2 1) (ad 2 2) (ad 2 3) (ad 2 4) cI (FI 2) (FA 2) ++ wF (ad 3 0) (ad 3 1) (ad 3 2) (ad 3 3) (ad 3 4) cI (FI 3) (FA 3) ++ wM y y1 y2 y3 y4 y5 y6 y7 y8 y9 y10 cI (va_up mi 0 1) ma ++ wO o cJ og) := hD
      have hw : r_6 = 0 := hw
      subst hw
      refine lv_istore (lv' := [(6, .int 0), (5, .int 1), (4, .int (nI (1 + 4 * tn))), (0, .ref b), (1, .ref x), (2, .ref y), (3, .ref o)]) hx hb dLw_law_378 hl (by decide) rfl (fun ls hl => ?_)
      refine lv_aload_n hx hb dLw_law_380 rfl (lv_at hl 5 rfl) ?_
      have hPc := hP.sub (ws' := (wM y y1 y2 y3 y4 y5 y6 y7 y8 y9 y10 cI (va_up mi 0 1) ma)) [24, 25, 26, 27, 28, 29, 30, 31, 32, 33, 34] rfl
      have hKc := hK.sub (tys' := [(cI, .int)]) [0] rfl
      refine vp_callSi (W.runV (As := []) (rest := []) ⟨hx, hb, hml, hown, hts⟩ (k_M_thrown l dC dI y y1 y2 y3 y4 y5 y6 y7 y8 y9 y10 cI (va_up mi 0 1) ma) (cwV 0 hts (gd_V in_314 in_316 in_317 in_74 in_315) rfl rfl rfl (by decide +kernel) ⟨Nat.le_of_ble_eq_true rfl, Nat.le_of_ble_eq_true rfl⟩) ⟨fun a U g mk q => by obtain ⟨q0, qP, qK⟩ := q; exact ⟨q0, qP, va_K.moved (u := U) (U := U.calling g mk a) (Vm.Alike.refl U.vm) qK⟩, va_recv hKc hPc (ci := 3) (q0 := 0) rfl rfl, fun U hU hW => ⟨rfl, by rw [hU]; exact hPc, va_K.moved hW.alike hKc⟩⟩ rfl rfl hl.1 rfl (lv_room (Nat.le_of_ble_eq_true rfl)) dLw_law_381 ⟨by show _ + 0 ≤ 601024; omega, by show _ + 0 ≤ 7293000; omega⟩) (fun r_7 er_8 => ?_)
      subst er_8
      refine lv_ri (y := 1) rfl ?_
      refine lv_iload hx hb dLw_law_384 (lv_at hl 1 rfl) ?_
      refine lv_icmp_eq (tgt := 391) hx hb dLw_law_386 (by decide) (fun _ => ?_) (fun c_9 => absurd c_9 (by decide))
      refine lv_iload hx hb dLw_law_391 (lv_at hl 1 rfl) ?_
      refine lv_if_ne (tgt := 415) hx hb dLw_law_393 (by decide) (fun _ => ?_) (fun c_10 => absurd c_10 (by decide))
      refine lv_goto (tgt := 949) hx hb dLw_law_415 (by decide) ?_
      refine W.widen (k := 36 + (tn + 1)) (n := 5882 + 6 * (tn + 1)) (by omega) (by omega) ?_
      exact K FI FA ri rv (va_up mi 0 1) ma og H locs ls (rA.thr 1 hR0) hP hD hS (lv_sub hl [2, 3, 4, 5, 6] rfl)
    · skip
      subst ek1
      by_cases hne : k0 = k1
      · skip
        subst hne
        obtain ⟨b9, c9, d9, K9, hP, hD⟩ := perm1 K k0 hk0 hP hD
        have hP : va_P (dC, dI) vwCl (wV x xa r cQ ad ++ wR r ra cI ri rv ++ wF (ad k0 0) (ad k0 1) (ad k0 2) (ad k0 3) (ad k0 4) cI (FI k0) (FA k0) ++ wF (ad b9 0) (ad b9 1) (ad b9 2) (ad b9 3) (ad b9 4) cI (FI b9) (FA b9) ++ wF (ad c9 0) (ad c9 1) (ad c9 2) (ad c9 3) (ad c9 4) cI (FI c9) (FA c9) ++ wF (ad d9 0) (ad d9 1) (ad d9 2) (ad d9 3) (ad d9 4) cI (FI d9) (FA d9) ++ wM y y1 y2 y3 y4 y5 y6 y7 y8 y9 y10 cI mi ma ++ wO o cJ og) H := hP
        have hD : va_D A (wV x xa r cQ ad ++ wR r ra cI ri rv ++ wF (ad k0 0) (ad k0 1) (ad k0 2) (ad k0 3) (ad k0 4) cI (FI k0) (FA k0) ++ wF (ad b9 0) (ad b9 1) (ad b9 2) (ad b9 3) (ad b9 4) cI (FI b9) (FA b9) ++ wF (ad c9 0) (ad c9 1) (ad c9 2) (ad c9 3) (ad c9 4) cI (FI c9) (FA c9) ++ wF (ad d9 0) (ad d9 1) (ad d9 2) (ad d9 3) (ad d9 4) cI (FI d9) (FA d9) ++ wM y y1 y2 y3 y4 y5 y6 y7 y8 y9 y10 cI mi ma ++ wO o cJ og) := hD
        obtain ⟨n, hh, lw, hnT, hF⟩ := hR7 k0 hk0
        refine lv_aload_n hx hb dLw_law_343 rfl (lv_at hl 2 rfl) ?_
        refine lv_aload_n hx hb dLw_law_344 rfl (lv_at hl 1 rfl) ?_
        refine lv_iload hx hb dLw_law_345 (lv_at hl 0 rfl) ?_
        refine lv_iconst (v := 1) hx hb dLw_law_347 (by decide) ?_
        refine lv_iadd hx hb dLw_law_348 ?_
        refine lv_ri (y := nI ((1 + 4 * tn) + 1)) (nI_1 _) ?_
        refine vq_sld (k := ((1 + 4 * tn) + 1)) (u := nI k0) hx hb hX hbl hbA hS rfl (by omega) (by omega) hu1 dLw_law_349 ?_
        refine lv_aload_n hx hb dLw_law_350 rfl (lv_at hl 1 rfl) ?_
        refine lv_iload hx hb dLw_law_351 (lv_at hl 0 rfl) ?_
        refine lv_iconst (v := 2) hx hb dLw_law_353 (by decide) ?_
        refine lv_iadd hx hb dLw_law_354 ?_
        refine lv_ri (y := nI ((1 + 4 * tn) + 2)) (nI_add _ 2) ?_
        refine vq_sld (k := ((1 + 4 * tn) + 2)) (u := nI k0) hx hb hX hbl hbA hS rfl (by omega) (by omega) hu2 dLw_law_355 ?_
        refine lv_aload_n hx hb dLw_law_356 rfl (lv_at hl 4 rfl) ?_
        have hnH := H.size
        have hPc := hP.sub (ws' := (wV x xa r cQ ad ++ wR r ra cI ri rv ++ wF (ad k0 0) (ad k0 1) (ad k0 2) (ad k0 3) (ad k0 4) cI (FI k0) (FA k0) ++ wO o cJ og)) [0, 1, 2, 3, 4, 5, 6, 7, 8, 35] rfl
        have hDc := hD.sub (ws' := (wV x xa r cQ ad ++ wR r ra cI ri rv ++ wF (ad k0 0) (ad k0 1) (ad k0 2) (ad k0 3) (ad k0 4) cI (FI k0) (FA k0) ++ wO o cJ og)) [0, 1, 2, 3, 4, 5, 6, 7, 8, 35] (by decide) rfl
        have hKc := hK.sub (tys' := [(cI, .int), (cQ, .object RFo), (cJ, .long)]) [0, 1, 2] rfl
        have hFc := va_free (wc := (wV x xa r cQ ad ++ wR r ra cI ri rv ++ wF (ad k0 0) (ad k0 1) (ad k0 2) (ad k0 3) (ad k0 4) cI (FI k0) (FA k0) ++ wO o cJ og)) hD hS hA [0, 1, 2, 3, 4, 5, 6, 7, 8, 35] rfl
        refine va_calli (vx_runSW (As := [.ref x, .int (nI k0), .int (nI k0), .ref o]) (rest := []) ⟨hx, hb, hml, hown, hts⟩ (h_takeS l dC dI H.size x xa r ra cI cQ ad ri rv k0 (ad k0 1) (ad k0 2) (ad k0 3) (ad k0 4) hk0 (FI k0) (FA k0) o cJ og) (vx_cwSW 4 hts (gd_SW in_374 in_375 in_308 in_376) rfl rfl rfl (by decide +kernel) ⟨Nat.le_of_ble_eq_true rfl, Nat.le_of_ble_eq_true rfl⟩) ⟨fun a U g mk q => by obtain ⟨q0, q1, qP, qK, qD⟩ := q; exact ⟨q0, q1, qP, va_K.moved (u := U) (U := U.calling g mk a) (Vm.Alike.refl U.vm) qK, qD⟩, fun U hU hW => ⟨rfl, by rw [hU], by rw [hU]; exact hPc, va_K.moved hW.alike hKc, hDc.weaken (fun _ _ _ _ => trivial)⟩⟩ rfl rfl hl.1 rfl (lv_room (Nat.le_of_ble_eq_true rfl)) dLw_law_357 ⟨by show _ + 0 ≤ 601024; omega, by show _ + 0 ≤ 7293000; omega⟩) hS (fun q _ h => hFc q h) hFc (fun r_11 u t H1 locs ht hvm hw hB hz1 hk1 hS => ?_)
        obtain ⟨hP1, hK1, hD1⟩ := hB
        rw [ht] at hP1
        obtain ⟨hP, hD⟩ := va_join (wr := (wF (ad b9 0) (ad b9 1) (ad b9 2) (ad b9 3) (ad b9 4) cI (FI b9) (FA b9) ++ wF (ad c9 0) (ad c9 1) (ad c9 2) (ad c9 3) (ad c9 4) cI (FI c9) (FA c9) ++ wF (ad d9 0) (ad d9 1) (ad d9 2) (ad d9 3) (ad d9 4) cI (FI d9) (FA d9) ++ wM y y1 y2 y3 y4 y5 y6 y7 y8 y9 y10 cI mi ma)) (w1 := (wV x xa r cQ ad ++ wR r ra cI ri rv ++ wF (ad k0 0) (ad k0 1) (ad k0 2) (ad k0 3) (ad k0 4) cI (FI k0) (FA k0) ++ wO o cJ (vp_updL og 0 0))) hP hD [0, 1, 2, 3, 4, 5, 6, 7, 8, 35] [9, 10, 11, 12, 13, 14, 15, 16, 17, 18, 19, 20, 21, 22, 23, 24, 25, 26, 27, 28, 29, 30, 31, 32, 33, 34] rfl rfl (by decide) (by decide) hk1 hFc hP1 hD1
        generalize H1 = H at hP hS ⊢
        have hP := hP.sub (ws' := (wV x xa r cQ ad ++ wR r ra cI ri rv ++ wF (ad k0 0) (ad k0 1) (ad k0 2) (ad k0 3) (ad k0 4) cI (FI k0) (FA k0) ++ wF (ad b9 0) (ad b9 1) (ad b9 2) (ad b9 3) (ad b9 4) cI (FI b9) (FA b9) ++ wF (ad c9 0) (ad c9 1) (ad c9 2) (ad c9 3) (ad c9 4) cI (FI c9) (FA c9) ++ wF (ad d9 0) (ad d9 1) (ad d9 2) (ad d9 3) (ad d9 4) cI (FI d9) (FA d9) ++ wM y y1 y2 y3 y4 y5 y6 y7 y8 y9 y10 cI mi ma ++ wO o cJ (vp_updL og 0 0))) [26, 27, 28, 29, 30, 31, 32, 33, 34, 0, 1, 2, 3, 4, 5, 6, 7, 8, 9, 10, 11, 12, 13, 14, 15, 16, 17, 18, 19, 20, 21, 22, 23, 24, 25, 35] rfl
        have hD := hD.sub (ws' := (wV x xa r cQ ad ++ wR r ra cI ri rv ++ wF (ad k0 0) (ad k0 1) (ad k0 2) (ad k0 3) (ad k0 4) cI (FI k0) (FA k0) ++ wF (ad b9 0) (ad b9 1) (ad b9 2) (ad b9 3) (ad b9 4) cI (FI b9) (FA b9) ++ wF (ad c9 0) (ad c9 1) (ad c9 2) (ad c9 3) (ad c9 4) cI (FI c9) (FA c9) ++ wF (ad d9 0) (ad d9 1) (ad d9 2) (ad d9 3) (ad d9 4) cI (FI d9) (FA d9) ++ wM y y1 y2 y3 y4 y5 y6 y7 y8 y9 y10 cI mi ma ++ wO o cJ (vp_updL og 0 0))) [26, 27, 28, 29, 30, 31, 32, 33, 34, 0, 1, 2, 3, 4, 5, 6, 7, 8, 9, 10, 11, 12, 13, 14, 15, 16, 17, 18, 19, 20, 21, 22, 23, 24, 25, 35] (by decide) rfl
        have hP : va_P (dC, dI) vwCl (wV x xa r cQ ad ++ wR r ra cI ri rv ++ wF (ad k0 0) (ad k0 1) (ad k0 2) (ad k0 3) (ad k0 4) cI (FI k0) (FA k0) ++ wF (ad b9 0) (ad b9 1) (ad b9 2) (ad b9 3) (ad b9 4) cI (FI b9) (FA b9) ++ wF (ad c9 0) (ad c9 1) (ad c9 2) (ad c9 3) (ad c9 4) cI (FI c9) (FA c9) ++ wF (ad d9 0) (ad d9 1) (ad d9 2) (ad d9 3) (ad d9 4) cI (FI d9) (FA d9) ++ wM y y1 y2 y3 y4 y5 y6 y7 y8 y9 y10 cI mi ma ++ wO o cJ (vp_updL og 0 0)) H := hP
        have hD : va_D A (wV x xa r cQ ad ++ wR r ra cI ri rv ++ wF (ad k0 0) (ad k0 1) (ad k0 2) (ad k0 3) (ad k0 4) cI (FI k0) (FA k0) ++ wF (ad b9 0) (ad b9 1) (ad b9 2) (ad b9 3) (ad b9 4) cI (FI b9) (FA b9) ++ wF (ad c9 0) (ad c9 1) (ad c9 2) (ad c9 3) (ad c9 4) cI (FI c9) (FA c9) ++ wF (ad d9 0) (ad d9 1) (ad d9 2) (ad d9 3) (ad d9 4) cI (FI d9) (FA d9) ++ wM y y1 y2 y3 y4 y5 y6 y7 y8 y9 y10 cI mi ma ++ wO o cJ (vp_updL og 0 0)) := hD
        have hw : r_11 = 0 := hw
        subst hw
        refine lv_istore (lv' := [(5, .int 0), (4, .int (nI (1 + 4 * tn))), (0, .ref b), (1, .ref x), (2, .ref y), (3, .ref o)]) hx hb dLw_law_360 hl (by decide) rfl (fun ls hl => ?_)
        refine lv_aload_n hx hb dLw_law_362 rfl (lv_at hl 4 rfl) ?_
        refine lv_aload_n hx hb dLw_law_363 rfl (lv_at hl 2 rfl) ?_
        refine lv_iload hx hb dLw_law_364 (lv_at hl 1 rfl) ?_
        refine lv_iconst (v := 1) hx hb dLw_law_366 (by decide) ?_
        refine lv_iadd hx hb dLw_law_367 ?_
        refine lv_ri (y := nI ((1 + 4 * tn) + 1)) (nI_1 _) ?_
        refine vq_sld (k := ((1 + 4 * tn) + 1)) (u := nI k0) hx hb hX hbl hbA hS rfl (by omega) (by omega) hu1 dLw_law_368 ?_
        refine lv_aload_n hx hb dLw_law_369 rfl (lv_at hl 2 rfl) ?_
        refine lv_iload hx hb dLw_law_370 (lv_at hl 1 rfl) ?_
        refine lv_iconst (v := 2) hx hb dLw_law_372 (by decide) ?_
        refine lv_iadd hx hb dLw_law_373 ?_
        refine lv_ri (y := nI ((1 + 4 * tn) + 2)) (nI_add _ 2) ?_
        refine vq_sld (k := ((1 + 4 * tn) + 2)) (u := nI k0) hx hb hX hbl hbA hS rfl (by omega) (by omega) hu2 dLw_law_374 ?_
        have hm9 := k_M_take l dC dI H.size y y1 y2 y3 y4 y5 y6 y7 y8 y9 y10 cI mi ma k0 k0 hk0 hk0
        rw [show m_tk2 ma k0 k0 = (0, ma) from if_neg Int32.lt_irrefl] at hm9
        have hPc := hP.sub (ws' := (wM y y1 y2 y3 y4 y5 y6 y7 y8 y9 y10 cI mi ma)) [24, 25, 26, 27, 28, 29, 30, 31, 32, 33, 34] rfl
        have hDc := hD.sub (ws' := (wM y y1 y2 y3 y4 y5 y6 y7 y8 y9 y10 cI mi ma)) [24, 25, 26, 27, 28, 29, 30, 31, 32, 33, 34] (by decide) rfl
        have hKc := hK.sub (tys' := [(cI, .int)]) [0] rfl
        have hFc := va_free (wc := (wM y y1 y2 y3 y4 y5 y6 y7 y8 y9 y10 cI mi ma)) hD hS hA [24, 25, 26, 27, 28, 29, 30, 31, 32, 33, 34] rfl
        refine va_calli (va_runV (As := [.int (nI k0), .int (nI k0)]) (rest := []) ⟨hx, hb, hml, hown, hts⟩ (hm9) (cwV 2 hts (gd_V in_377 in_379 in_380 in_74 in_378) rfl rfl rfl (by decide +kernel) ⟨Nat.le_of_ble_eq_true rfl, Nat.le_of_ble_eq_true rfl⟩) ⟨fun a U g mk q => by obtain ⟨q0, q1, qP, qK, qD⟩ := q; exact ⟨q0, q1, qP, va_K.moved (u := U) (U := U.calling g mk a) (Vm.Alike.refl U.vm) qK, qD⟩, va_recv hKc hPc (ci := 3) (q0 := 0) rfl rfl, fun U hU hW => ⟨rfl, by rw [hU], by rw [hU]; exact hPc, va_K.moved hW.alike hKc, hDc.weaken (fun _ _ _ _ => trivial)⟩⟩ rfl rfl hl.1 rfl (lv_room (Nat.le_of_ble_eq_true rfl)) dLw_law_375 ⟨by show _ + 0 ≤ 601024; omega, by show _ + 0 ≤ 7293000; omega⟩) hS (fun q _ h => hFc q h) hFc (fun r_12 u t H1 locs ht hvm hw hB hz1 hk1 hS => ?_)
        obtain ⟨hP1, hK1, hD1⟩ := hB
        rw [ht] at hP1
        obtain ⟨hP, hD⟩ := va_join (wr := (wV x xa r cQ ad ++ wR r ra cI ri rv ++ wF (ad k0 0) (ad k0 1) (ad k0 2) (ad k0 3) (ad k0 4) cI (FI k0) (FA k0) ++ wF (ad b9 0) (ad b9 1) (ad b9 2) (ad b9 3) (ad b9 4) cI (FI b9) (FA b9) ++ wF (ad c9 0) (ad c9 1) (ad c9 2) (ad c9 3) (ad c9 4) cI (FI c9) (FA c9) ++ wF (ad d9 0) (ad d9 1) (ad d9 2) (ad d9 3) (ad d9 4) cI (FI d9) (FA d9) ++ wO o cJ (vp_updL og 0 0))) (w1 := (wM y y1 y2 y3 y4 y5 y6 y7 y8 y9 y10 cI (va_up mi 0 0) ma)) hP hD [24, 25, 26, 27, 28, 29, 30, 31, 32, 33, 34] [0, 1, 2, 3, 4, 5, 6, 7, 8, 9, 10, 11, 12, 13, 14, 15, 16, 17, 18, 19, 20, 21, 22, 23, 35] rfl rfl (by decide) (by decide) hk1 hFc hP1 hD1
        generalize H1 = H at hP hS ⊢
        have hP := hP.sub (ws' := (wV x xa r cQ ad ++ wR r ra cI ri rv ++ wF (ad k0 0) (ad k0 1) (ad k0 2) (ad k0 3) (ad k0 4) cI (FI k0) (FA k0) ++ wF (ad b9 0) (ad b9 1) (ad b9 2) (ad b9 3) (ad b9 4) cI (FI b9) (FA b9) ++ wF (ad c9 0) (ad c9 1) (ad c9 2) (ad c9 3) (ad c9 4) cI (FI c9) (FA c9) ++ wF (ad d9 0) (ad d9 1) (ad d9 2) (ad d9 3) (ad d9 4) cI (FI d9) (FA d9) ++ wM y y1 y2 y3 y4 y5 y6 y7 y8 y9 y10 cI (va_up mi 0 0) ma ++ wO o cJ (vp_updL og 0 0))) [0, 1, 2, 3, 4, 5, 6, 7, 8, 9, 10, 11, 12, 13, 14, 15, 16, 17, 18, 19, 20, 21, 22, 23, 25, 26, 27, 28, 29, 30, 31, 32, 33, 34, 35, 24] rfl
        have hD := hD.sub (ws' := (wV x xa r cQ ad ++ wR r ra cI ri rv ++ wF (ad k0 0) (ad k0 1) (ad k0 2) (ad k0 3) (ad k0 4) cI (FI k0) (FA k0) ++ wF (ad b9 0) (ad b9 1) (ad b9 2) (ad b9 3) (ad b9 4) cI (FI b9) (FA b9) ++ wF (ad c9 0) (ad c9 1) (ad c9 2) (ad c9 3) (ad c9 4) cI (FI c9) (FA c9) ++ wF (ad d9 0) (ad d9 1) (ad d9 2) (ad d9 3) (ad d9 4) cI (FI d9) (FA d9) ++ wM y y1 y2 y3 y4 y5 y6 y7 y8 y9 y10 cI (va_up mi 0 0) ma ++ wO o cJ (vp_updL og 0 0))) [0, 1, 2, 3, 4, 5, 6, 7, 8, 9, 10, 11, 12, 13, 14, 15, 16, 17, 18, 19, 20, 21, 22, 23, 25, 26, 27, 28, 29, 30, 31, 32, 33, 34, 35, 24] (by decide) rfl
        have hP : va_P (dC, dI) vwCl (wV x xa r cQ ad ++ wR r ra cI ri rv ++ wF (ad k0 0) (ad k0 1) (ad k0 2) (ad k0 3) (ad k0 4) cI (FI k0) (FA k0) ++ wF (ad b9 0) (ad b9 1) (ad b9 2) (ad b9 3) (ad b9 4) cI (FI b9) (FA b9) ++ wF (ad c9 0) (ad c9 1) (ad c9 2) (ad c9 3) (ad c9 4) cI (FI c9) (FA c9) ++ wF (ad d9 0) (ad d9 1) (ad d9 2) (ad d9 3) (ad d9 4) cI (FI d9) (FA d9) ++ wM y y1 y2 y3 y4 y5 y6 y7 y8 y9 y10 cI (va_up mi 0 0) ma ++ wO o cJ (vp_updL og 0 0)) H := hP
        have hD : va_D A (wV x xa r cQ ad ++ wR r ra cI ri rv ++ wF (ad k0 0) (ad k0 1) (ad k0 2) (ad k0 3) (ad k0 4) cI (FI k0) (FA k0) ++ wF (ad b9 0) (ad b9 1) (ad b9 2) (ad b9 3) (ad b9 4) cI (FI b9) (FA b9) ++ wF (ad c9 0) (ad c9 1) (ad c9 2) (ad c9 3) (ad c9 4) cI (FI c9) (FA c9) ++ wF (ad d9 0) (ad d9 1) (ad d9 2) (ad d9 3) (ad d9 4) cI (FI d9) (FA d9) ++ wM y y1 y2 y3 y4 y5 y6 y7 y8 y9 y10 cI (va_up mi 0 0) ma ++ wO o cJ (vp_updL og 0 0)) := hD
        have hw : r_12 = 0 := hw
        subst hw
        refine lv_istore (lv' := [(6, .int 0), (5, .int 0), (4, .int (nI (1 + 4 * tn))), (0, .ref b), (1, .ref x), (2, .ref y), (3, .ref o)]) hx hb dLw_law_378 hl (by decide) rfl (fun ls hl => ?_)
        refine lv_aload_n hx hb dLw_law_380 rfl (lv_at hl 5 rfl) ?_
        have hPc := hP.sub (ws' := (wM y y1 y2 y3 y4 y5 y6 y7 y8 y9 y10 cI (va_up mi 0 0) ma)) [24, 25, 26, 27, 28, 29, 30, 31, 32, 33, 34] rfl
        have hKc := hK.sub (tys' := [(cI, .int)]) [0] rfl
        refine vp_callSi (W.runV (As := []) (rest := []) ⟨hx, hb, hml, hown, hts⟩ (k_M_thrown l dC dI y y1 y2 y3 y4 y5 y6 y7 y8 y9 y10 cI (va_up mi 0 0) ma) (cwV 0 hts (gd_V in_314 in_316 in_317 in_74 in_315) rfl rfl rfl (by decide +kernel) ⟨Nat.le_of_ble_eq_true rfl, Nat.le_of_ble_eq_true rfl⟩) ⟨fun a U g mk q => by obtain ⟨q0, qP, qK⟩ := q; exact ⟨q0, qP, va_K.moved (u := U) (U := U.calling g mk a) (Vm.Alike.refl U.vm) qK⟩, va_recv hKc hPc (ci := 3) (q0 := 0) rfl rfl, fun U hU hW => ⟨rfl, by rw [hU]; exact hPc, va_K.moved hW.alike hKc⟩⟩ rfl rfl hl.1 rfl (lv_room (Nat.le_of_ble_eq_true rfl)) dLw_law_381 ⟨by show _ + 0 ≤ 601024; omega, by show _ + 0 ≤ 7293000; omega⟩) (fun r_13 er_14 => ?_)
        subst er_14
        refine lv_ri (y := 0) rfl ?_
        refine lv_iload hx hb dLw_law_384 (lv_at hl 1 rfl) ?_
        refine lv_icmp_eq (tgt := 391) hx hb dLw_law_386 (by decide) (fun _ => ?_) (fun c_15 => absurd c_15 (by decide))
        refine lv_iload hx hb dLw_law_391 (lv_at hl 1 rfl) ?_
        refine lv_if_ne (tgt := 415) hx hb dLw_law_393 (by decide) (fun c_16 => absurd c_16 (by decide)) (fun _ => ?_)
        refine lv_aload_n hx hb dLw_law_396 rfl (lv_at hl 6 rfl) ?_
        refine lv_iconst (v := 0) hx hb dLw_law_397 (by decide) ?_
        refine vq_lald (k := 0) (f := vp_updL og 0 0) hx hb hK hP 35 2 rfl rfl nI_0.symm (by decide) (by decide) dLw_law_398 ?_
        refine lv_rl (y := 0) (up_L _ _) ?_
        refine lv_iload hx hb dLw_law_399 (lv_at hl 0 rfl) ?_
        refine lv_if_eq (tgt := 408) hx hb dLw_law_401 (by decide) (fun _ => ?_) (fun c_17 => absurd c_17 (by decide))
        refine lv_lconst (v := 0) hx hb dLw_law_408 (by decide) ?_
        refine W.lcmp hx hb dLw_law_409 ?_
        refine lv_if_eq (tgt := 415) hx hb dLw_law_410 (by decide) (fun c_18 => ?_) (fun c_18 => ?_)
        · skip
          refine lv_goto (tgt := 949) hx hb dLw_law_415 (by decide) ?_
          refine W.widen (k := 36 + (tn + 1)) (n := 5882 + 6 * (tn + 1)) (by omega) (by omega) ?_
          exact K9 (FI k0) (FA k0) (va_up mi 0 0) ma (vp_updL og 0 0) H locs ls (rA.thr1 k0 0 hR0) hP hD hS (lv_sub hl [2, 3, 4, 5, 6] rfl)
        · skip
          exact absurd (by exact lg_self _) c_18
      · skip
        obtain ⟨c9, d9, K9, hP, hD⟩ := perm2 K k0 k1 hk0 h4b hne hP hD
        have hP : va_P (dC, dI) vwCl (wV x xa r cQ ad ++ wR r ra cI ri rv ++ wF (ad k0 0) (ad k0 1) (ad k0 2) (ad k0 3) (ad k0 4) cI (FI k0) (FA k0) ++ wF (ad k1 0) (ad k1 1) (ad k1 2) (ad k1 3) (ad k1 4) cI (FI k1) (FA k1) ++ wF (ad c9 0) (ad c9 1) (ad c9 2) (ad c9 3) (ad c9 4) cI (FI c9) (FA c9) ++ wF (ad d9 0) (ad d9 1) (ad d9 2) (ad d9 3) (ad d9 4) cI (FI d9) (FA d9) ++ wM y y1 y2 y3 y4 y5 y6 y7 y8 y9 y10 cI mi ma ++ wO o cJ og) H := hP
        have hD : va_D A (wV x xa r cQ ad ++ wR r ra cI ri rv ++ wF (ad k0 0) (ad k0 1) (ad k0 2) (ad k0 3) (ad k0 4) cI (FI k0) (FA k0) ++ wF (ad k1 0) (ad k1 1) (ad k1 2) (ad k1 3) (ad k1 4) cI (FI k1) (FA k1) ++ wF (ad c9 0) (ad c9 1) (ad c9 2) (ad c9 3) (ad c9 4) cI (FI c9) (FA c9) ++ wF (ad d9 0) (ad d9 1) (ad d9 2) (ad d9 3) (ad d9 4) cI (FI d9) (FA d9) ++ wM y y1 y2 y3 y4 y5 y6 y7 y8 y9 y10 cI mi ma ++ wO o cJ og) := hD
        obtain ⟨n, hh, lw, hnT, hF⟩ := hR7 k0 hk0
        obtain ⟨nb, hhb, lwb, hnTb, hG⟩ := hR7 k1 h4b
        have hq2 : ma 0 k1 < ma 0 k0 ↔ FI k1 1 < FI k0 1 := by rw [hG.1.2.2.1, hF.1.2.2.1, hG.1.2.1, hF.1.2.1]
        by_cases hq : FI k1 1 < FI k0 1
        · skip
          have hT := tk_step (gi := FI k1) (ga := FA k1) hF hG.1.1 hne hk0 h4b
          refine lv_aload_n hx hb dLw_law_343 rfl (lv_at hl 2 rfl) ?_
          refine lv_aload_n hx hb dLw_law_344 rfl (lv_at hl 1 rfl) ?_
          refine lv_iload hx hb dLw_law_345 (lv_at hl 0 rfl) ?_
          refine lv_iconst (v := 1) hx hb dLw_law_347 (by decide) ?_
          refine lv_iadd hx hb dLw_law_348 ?_
          refine lv_ri (y := nI ((1 + 4 * tn) + 1)) (nI_1 _) ?_
          refine vq_sld (k := ((1 + 4 * tn) + 1)) (u := nI k0) hx hb hX hbl hbA hS rfl (by omega) (by omega) hu1 dLw_law_349 ?_
          refine lv_aload_n hx hb dLw_law_350 rfl (lv_at hl 1 rfl) ?_
          refine lv_iload hx hb dLw_law_351 (lv_at hl 0 rfl) ?_
          refine lv_iconst (v := 2) hx hb dLw_law_353 (by decide) ?_
          refine lv_iadd hx hb dLw_law_354 ?_
          refine lv_ri (y := nI ((1 + 4 * tn) + 2)) (nI_add _ 2) ?_
          refine vq_sld (k := ((1 + 4 * tn) + 2)) (u := nI k1) hx hb hX hbl hbA hS rfl (by omega) (by omega) hu2 dLw_law_355 ?_
          refine lv_aload_n hx hb dLw_law_356 rfl (lv_at hl 4 rfl) ?_
          have hnH := H.size
          have hPc := hP.sub (ws' := (wV x xa r cQ ad ++ wR r ra cI ri rv ++ wF (ad k0 0) (ad k0 1) (ad k0 2) (ad k0 3) (ad k0 4) cI (FI k0) (FA k0) ++ wF (ad k1 0) (ad k1 1) (ad k1 2) (ad k1 3) (ad k1 4) cI (FI k1) (FA k1) ++ wO o cJ og)) [0, 1, 2, 3, 4, 5, 6, 7, 8, 9, 10, 11, 12, 13, 35] rfl
          have hDc := hD.sub (ws' := (wV x xa r cQ ad ++ wR r ra cI ri rv ++ wF (ad k0 0) (ad k0 1) (ad k0 2) (ad k0 3) (ad k0 4) cI (FI k0) (FA k0) ++ wF (ad k1 0) (ad k1 1) (ad k1 2) (ad k1 3) (ad k1 4) cI (FI k1) (FA k1) ++ wO o cJ og)) [0, 1, 2, 3, 4, 5, 6, 7, 8, 9, 10, 11, 12, 13, 35] (by decide) rfl
          have hKc := hK.sub (tys' := [(cI, .int), (cQ, .object RFo), (cJ, .long)]) [0, 1, 2] rfl
          have hFc := va_free (wc := (wV x xa r cQ ad ++ wR r ra cI ri rv ++ wF (ad k0 0) (ad k0 1) (ad k0 2) (ad k0 3) (ad k0 4) cI (FI k0) (FA k0) ++ wF (ad k1 0) (ad k1 1) (ad k1 2) (ad k1 3) (ad k1 4) cI (FI k1) (FA k1) ++ wO o cJ og)) hD hS hA [0, 1, 2, 3, 4, 5, 6, 7, 8, 9, 10, 11, 12, 13, 35] rfl
          refine va_calli (vx_runSW (As := [.ref x, .int (nI k0), .int (nI k1), .ref o]) (rest := []) ⟨hx, hb, hml, hown, hts⟩ (h_take l dC dI H.size x xa r ra cI cQ ad ri rv k0 (ad k0 1) (ad k0 2) (ad k0 3) (ad k0 4) hk0 (FI k0) (FA k0) k1 (ad k1 1) (ad k1 2) (ad k1 3) (ad k1 4) h4b (FI k1) (FA k1) o cJ og) (vx_cwSW 4 hts (gd_SW in_374 in_375 in_308 in_376) rfl rfl rfl (by decide +kernel) ⟨Nat.le_of_ble_eq_true rfl, Nat.le_of_ble_eq_true rfl⟩) ⟨fun a U g mk q => by obtain ⟨q0, q1, qP, qK, qD⟩ := q; exact ⟨q0, q1, qP, va_K.moved (u := U) (U := U.calling g mk a) (Vm.Alike.refl U.vm) qK, qD⟩, fun U hU hW => ⟨rfl, by rw [hU], by rw [hU]; exact hPc, va_K.moved hW.alike hKc, hDc.weaken (fun _ _ _ _ => trivial)⟩⟩ rfl rfl hl.1 rfl (lv_room (Nat.le_of_ble_eq_true rfl)) dLw_law_357 ⟨by show _ + 0 ≤ 601024; omega, by show _ + 0 ≤ 7293000; omega⟩) hS (fun q _ h => hFc q h) hFc (fun r_19 u t H1 locs ht hvm hw hB hz1 hk1 hS => ?_)
          obtain ⟨hP1, hK1, hD1⟩ := hB
          rw [ht] at hP1
          obtain ⟨hP, hD⟩ := va_join (wr := (wF (ad c9 0) (ad c9 1) (ad c9 2) (ad c9 3) (ad c9 4) cI (FI c9) (FA c9) ++ wF (ad d9 0) (ad d9 1) (ad d9 2) (ad d9 3) (ad d9 4) cI (FI d9) (FA d9) ++ wM y y1 y2 y3 y4 y5 y6 y7 y8 y9 y10 cI mi ma)) (w1 := (wV x xa r cQ ad ++ wR r ra cI ri rv ++ wF (ad k0 0) (ad k0 1) (ad k0 2) (ad k0 3) (ad k0 4) cI (FI k0) (FA k0) ++ wF (ad k1 0) (ad k1 1) (ad k1 2) (ad k1 3) (ad k1 4) cI (s_tki (FI k0) (FI k1)) (s_tka (FI k0) (FI k1) (FA k0) (FA k1)) ++ wO o cJ (vp_updL og 0 (if (if FI k1 1 < FI k0 1 then (1 : Int32) else 0) = 0 then 0 else 1)))) hP hD [0, 1, 2, 3, 4, 5, 6, 7, 8, 9, 10, 11, 12, 13, 35] [14, 15, 16, 17, 18, 19, 20, 21, 22, 23, 24, 25, 26, 27, 28, 29, 30, 31, 32, 33, 34] rfl rfl (by decide) (by decide) hk1 hFc hP1 hD1
          generalize H1 = H at hP hS ⊢
          have hP := hP.sub (ws' := (wV x xa r cQ ad ++ wR r ra cI ri rv ++ wF (ad k0 0) (ad k0 1) (ad k0 2) (ad k0 3) (ad k0 4) cI (FI k0) (FA k0) ++ wF (ad k1 0) (ad k1 1) (ad k1 2) (ad k1 3) (ad k1 4) cI (s_tki (FI k0) (FI k1)) (s_tka (FI k0) (FI k1) (FA k0) (FA k1)) ++ wF (ad c9 0) (ad c9 1) (ad c9 2) (ad c9 3) (ad c9 4) cI (FI c9) (FA c9) ++ wF (ad d9 0) (ad d9 1) (ad d9 2) (ad d9 3) (ad d9 4) cI (FI d9) (FA d9) ++ wM y y1 y2 y3 y4 y5 y6 y7 y8 y9 y10 cI mi ma ++ wO o cJ (vp_updL og 0 (if (if FI k1 1 < FI k0 1 then (1 : Int32) else 0) = 0 then 0 else 1)))) [21, 22, 23, 24, 25, 26, 27, 28, 29, 30, 31, 32, 33, 34, 0, 1, 2, 3, 4, 5, 6, 7, 8, 9, 10, 11, 12, 13, 14, 15, 16, 17, 18, 19, 20, 35] rfl
          have hD := hD.sub (ws' := (wV x xa r cQ ad ++ wR r ra cI ri rv ++ wF (ad k0 0) (ad k0 1) (ad k0 2) (ad k0 3) (ad k0 4) cI (FI k0) (FA k0) ++ wF (ad k1 0) (ad k1 1) (ad k1 2) (ad k1 3) (ad k1 4) cI (s_tki (FI k0) (FI k1)) (s_tka (FI k0) (FI k1) (FA k0) (FA k1)) ++ wF (ad c9 0) (ad c9 1) (ad c9 2) (ad c9 3) (ad c9 4) cI (FI c9) (FA c9) ++ wF (ad d9 0) (ad d9 1) (ad d9 2) (ad d9 3) (ad d9 4) cI (FI d9) (FA d9) ++ wM y y1 y2 y3 y4 y5 y6 y7 y8 y9 y10 cI mi ma ++ wO o cJ (vp_updL og 0 (if (if FI k1 1 < FI k0 1 then (1 : Int32) else 0) = 0 then 0 else 1)))) [21, 22, 23, 24, 25, 26, 27, 28, 29, 30, 31, 32, 33, 34, 0, 1, 2, 3, 4, 5, 6, 7, 8, 9, 10, 11, 12, 13, 14, 15, 16, 17, 18, 19, 20, 35] (by decide) rfl
          have hP : va_P (dC, dI) vwCl (wV x xa r cQ ad ++ wR r ra cI ri rv ++ wF (ad k0 0) (ad k0 1) (ad k0 2) (ad k0 3) (ad k0 4) cI (FI k0) (FA k0) ++ wF (ad k1 0) (ad k1 1) (ad k1 2) (ad k1 3) (ad k1 4) cI (s_tki (FI k0) (FI k1)) (s_tka (FI k0) (FI k1) (FA k0) (FA k1)) ++ wF (ad c9 0) (ad c9 1) (ad c9 2) (ad c9 3) (ad c9 4) cI (FI c9) (FA c9) ++ wF (ad d9 0) (ad d9 1) (ad d9 2) (ad d9 3) (ad d9 4) cI (FI d9) (FA d9) ++ wM y y1 y2 y3 y4 y5 y6 y7 y8 y9 y10 cI mi ma ++ wO o cJ (vp_updL og 0 (if (if FI k1 1 < FI k0 1 then (1 : Int32) else 0) = 0 then 0 else 1))) H := hP
          have hD : va_D A (wV x xa r cQ ad ++ wR r ra cI ri rv ++ wF (ad k0 0) (ad k0 1) (ad k0 2) (ad k0 3) (ad k0 4) cI (FI k0) (FA k0) ++ wF (ad k1 0) (ad k1 1) (ad k1 2) (ad k1 3) (ad k1 4) cI (s_tki (FI k0) (FI k1)) (s_tka (FI k0) (FI k1) (FA k0) (FA k1)) ++ wF (ad c9 0) (ad c9 1) (ad c9 2) (ad c9 3) (ad c9 4) cI (FI c9) (FA c9) ++ wF (ad d9 0) (ad d9 1) (ad d9 2) (ad d9 3) (ad d9 4) cI (FI d9) (FA d9) ++ wM y y1 y2 y3 y4 y5 y6 y7 y8 y9 y10 cI mi ma ++ wO o cJ (vp_updL og 0 (if (if FI k1 1 < FI k0 1 then (1 : Int32) else 0) = 0 then 0 else 1))) := hD
          have hw : r_19 = 0 := hw
          subst hw
          refine lv_istore (lv' := [(5, .int 0), (4, .int (nI (1 + 4 * tn))), (0, .ref b), (1, .ref x), (2, .ref y), (3, .ref o)]) hx hb dLw_law_360 hl (by decide) rfl (fun ls hl => ?_)
          refine lv_aload_n hx hb dLw_law_362 rfl (lv_at hl 4 rfl) ?_
          refine lv_aload_n hx hb dLw_law_363 rfl (lv_at hl 2 rfl) ?_
          refine lv_iload hx hb dLw_law_364 (lv_at hl 1 rfl) ?_
          refine lv_iconst (v := 1) hx hb dLw_law_366 (by decide) ?_
          refine lv_iadd hx hb dLw_law_367 ?_
          refine lv_ri (y := nI ((1 + 4 * tn) + 1)) (nI_1 _) ?_
          refine vq_sld (k := ((1 + 4 * tn) + 1)) (u := nI k0) hx hb hX hbl hbA hS rfl (by omega) (by omega) hu1 dLw_law_368 ?_
          refine lv_aload_n hx hb dLw_law_369 rfl (lv_at hl 2 rfl) ?_
          refine lv_iload hx hb dLw_law_370 (lv_at hl 1 rfl) ?_
          refine lv_iconst (v := 2) hx hb dLw_law_372 (by decide) ?_
          refine lv_iadd hx hb dLw_law_373 ?_
          refine lv_ri (y := nI ((1 + 4 * tn) + 2)) (nI_add _ 2) ?_
          refine vq_sld (k := ((1 + 4 * tn) + 2)) (u := nI k1) hx hb hX hbl hbA hS rfl (by omega) (by omega) hu2 dLw_law_374 ?_
          have hm9 := k_M_take l dC dI H.size y y1 y2 y3 y4 y5 y6 y7 y8 y9 y10 cI mi ma k0 k1 hk0 h4b
          rw [show m_tk2 ma k0 k1 = (1, m_tk ma k0 k1) from if_pos (hq2.mpr hq)] at hm9
          have hPc := hP.sub (ws' := (wM y y1 y2 y3 y4 y5 y6 y7 y8 y9 y10 cI mi ma)) [24, 25, 26, 27, 28, 29, 30, 31, 32, 33, 34] rfl
          have hDc := hD.sub (ws' := (wM y y1 y2 y3 y4 y5 y6 y7 y8 y9 y10 cI mi ma)) [24, 25, 26, 27, 28, 29, 30, 31, 32, 33, 34] (by decide) rfl
          have hKc := hK.sub (tys' := [(cI, .int)]) [0] rfl
          have hFc := va_free (wc := (wM y y1 y2 y3 y4 y5 y6 y7 y8 y9 y10 cI mi ma)) hD hS hA [24, 25, 26, 27, 28, 29, 30, 31, 32, 33, 34] rfl
          refine va_calli (va_runV (As := [.int (nI k0), .int (nI k1)]) (rest := []) ⟨hx, hb, hml, hown, hts⟩ (hm9) (cwV 2 hts (gd_V in_377 in_379 in_380 in_74 in_378) rfl rfl rfl (by decide +kernel) ⟨Nat.le_of_ble_eq_true rfl, Nat.le_of_ble_eq_true rfl⟩) ⟨fun a U g mk q => by obtain ⟨q0, q1, qP, qK, qD⟩ := q; exact ⟨q0, q1, qP, va_K.moved (u := U) (U := U.calling g mk a) (Vm.Alike.refl U.vm) qK, qD⟩, va_recv hKc hPc (ci := 3) (q0 := 0) rfl rfl, fun U hU hW => ⟨rfl, by rw [hU], by rw [hU]; exact hPc, va_K.moved hW.alike hKc, hDc.weaken (fun _ _ _ _ => trivial)⟩⟩ rfl rfl hl.1 rfl (lv_room (Nat.le_of_ble_eq_true rfl)) dLw_law_375 ⟨by show _ + 0 ≤ 601024; omega, by show _ + 0 ≤ 7293000; omega⟩) hS (fun q _ h => hFc q h) hFc (fun r_20 u t H1 locs ht hvm hw hB hz1 hk1 hS => ?_)
          obtain ⟨hP1, hK1, hD1⟩ := hB
          rw [ht] at hP1
          obtain ⟨hP, hD⟩ := va_join (wr := (wV x xa r cQ ad ++ wR r ra cI ri rv ++ wF (ad k0 0) (ad k0 1) (ad k0 2) (ad k0 3) (ad k0 4) cI (FI k0) (FA k0) ++ wF (ad k1 0) (ad k1 1) (ad k1 2) (ad k1 3) (ad k1 4) cI (s_tki (FI k0) (FI k1)) (s_tka (FI k0) (FI k1) (FA k0) (FA k1)) ++ wF (ad c9 0) (ad c9 1) (ad c9 2) (ad c9 3) (ad c9 4) cI (FI c9) (FA c9) ++ wF (ad d9 0) (ad d9 1) (ad d9 2) (ad d9 3) (ad d9 4) cI (FI d9) (FA d9) ++ wO o cJ (vp_updL og 0 (if (if FI k1 1 < FI k0 1 then (1 : Int32) else 0) = 0 then 0 else 1)))) (w1 := (wM y y1 y2 y3 y4 y5 y6 y7 y8 y9 y10 cI (va_up mi 0 0) (m_tk ma k0 k1))) hP hD [24, 25, 26, 27, 28, 29, 30, 31, 32, 33, 34] [0, 1, 2, 3, 4, 5, 6, 7, 8, 9, 10, 11, 12, 13, 14, 15, 16, 17, 18, 19, 20, 21, 22, 23, 35] rfl rfl (by decide) (by decide) hk1 hFc hP1 hD1
          generalize H1 = H at hP hS ⊢
          have hP := hP.sub (ws' := (wV x xa r cQ ad ++ wR r ra cI ri rv ++ wF (ad k0 0) (ad k0 1) (ad k0 2) (ad k0 3) (ad k0 4) cI (FI k0) (FA k0) ++ wF (ad k1 0) (ad k1 1) (ad k1 2) (ad k1 3) (ad k1 4) cI (s_tki (FI k0) (FI k1)) (s_tka (FI k0) (FI k1) (FA k0) (FA k1)) ++ wF (ad c9 0) (ad c9 1) (ad c9 2) (ad c9 3) (ad c9 4) cI (FI c9) (FA c9) ++ wF (ad d9 0) (ad d9 1) (ad d9 2) (ad d9 3) (ad d9 4) cI (FI d9) (FA d9) ++ wM y y1 y2 y3 y4 y5 y6 y7 y8 y9 y10 cI (va_up mi 0 0) (m_tk ma k0 k1) ++ wO o cJ (vp_updL og 0 (if (if FI k1 1 < FI k0 1 then (1 : Int32) else 0) = 0 then 0 else 1)))) [0, 1, 2, 3, 4, 5, 6, 7, 8, 9, 10, 11, 12, 13, 14, 15, 16, 17, 18, 19, 20, 21, 22, 23, 25, 26, 27, 28, 29, 30, 31, 32, 33, 34, 35, 24] rfl
          have hD := hD.sub (ws' := (wV x xa r cQ ad ++ wR r ra cI ri rv ++ wF (ad k0 0) (ad k0 1) (ad k0 2) (ad k0 3) (ad k0 4) cI (FI k0) (FA k0) ++ wF (ad k1 0) (ad k1 1) (ad k1 2) (ad k1 3) (ad k1 4) cI (s_tki (FI k0) (FI k1)) (s_tka (FI k0) (FI k1) (FA k0) (FA k1)) ++ wF (ad c9 0) (ad c9 1) (ad c9 2) (ad c9 3) (ad c9 4) cI (FI c9) (FA c9) ++ wF (ad d9 0) (ad d9 1) (ad d9 2) (ad d9 3) (ad d9 4) cI (FI d9) (FA d9) ++ wM y y1 y2 y3 y4 y5 y6 y7 y8 y9 y10 cI (va_up mi 0 0) (m_tk ma k0 k1) ++ wO o cJ (vp_updL og 0 (if (if FI k1 1 < FI k0 1 then (1 : Int32) else 0) = 0 then 0 else 1)))) [0, 1, 2, 3, 4, 5, 6, 7, 8, 9, 10, 11, 12, 13, 14, 15, 16, 17, 18, 19, 20, 21, 22, 23, 25, 26, 27, 28, 29, 30, 31, 32, 33, 34, 35, 24] (by decide) rfl
          have hP : va_P (dC, dI) vwCl (wV x xa r cQ ad ++ wR r ra cI ri rv ++ wF (ad k0 0) (ad k0 1) (ad k0 2) (ad k0 3) (ad k0 4) cI (FI k0) (FA k0) ++ wF (ad k1 0) (ad k1 1) (ad k1 2) (ad k1 3) (ad k1 4) cI (s_tki (FI k0) (FI k1)) (s_tka (FI k0) (FI k1) (FA k0) (FA k1)) ++ wF (ad c9 0) (ad c9 1) (ad c9 2) (ad c9 3) (ad c9 4) cI (FI c9) (FA c9) ++ wF (ad d9 0) (ad d9 1) (ad d9 2) (ad d9 3) (ad d9 4) cI (FI d9) (FA d9) ++ wM y y1 y2 y3 y4 y5 y6 y7 y8 y9 y10 cI (va_up mi 0 0) (m_tk ma k0 k1) ++ wO o cJ (vp_updL og 0 (if (if FI k1 1 < FI k0 1 then (1 : Int32) else 0) = 0 then 0 else 1))) H := hP
          have hD : va_D A (wV x xa r cQ ad ++ wR r ra cI ri rv ++ wF (ad k0 0) (ad k0 1) (ad k0 2) (ad k0 3) (ad k0 4) cI (FI k0) (FA k0) ++ wF (ad k1 0) (ad k1 1) (ad k1 2) (ad k1 3) (ad k1 4) cI (s_tki (FI k0) (FI k1)) (s_tka (FI k0) (FI k1) (FA k0) (FA k1)) ++ wF (ad c9 0) (ad c9 1) (ad c9 2) (ad c9 3) (ad c9 4) cI (FI c9) (FA c9) ++ wF (ad d9 0) (ad d9 1) (ad d9 2) (ad d9 3) (ad d9 4) cI (FI d9) (FA d9) ++ wM y y1 y2 y3 y4 y5 y6 y7 y8 y9 y10 cI (va_up mi 0 0) (m_tk ma k0 k1) ++ wO o cJ (vp_updL og 0 (if (if FI k1 1 < FI k0 1 then (1 : Int32) else 0) = 0 then 0 else 1))) := hD
          have hw : r_20 = 1 := hw
          subst hw
          refine lv_istore (lv' := [(6, .int 1), (5, .int 0), (4, .int (nI (1 + 4 * tn))), (0, .ref b), (1, .ref x), (2, .ref y), (3, .ref o)]) hx hb dLw_law_378 hl (by decide) rfl (fun ls hl => ?_)
          refine lv_aload_n hx hb dLw_law_380 rfl (lv_at hl 5 rfl) ?_
          have hPc := hP.sub (ws' := (wM y y1 y2 y3 y4 y5 y6 y7 y8 y9 y10 cI (va_up mi 0 0) (m_tk ma k0 k1))) [24, 25, 26, 27, 28, 29, 30, 31, 32, 33, 34] rfl
          have hKc := hK.sub (tys' := [(cI, .int)]) [0] rfl
          refine vp_callSi (W.runV (As := []) (rest := []) ⟨hx, hb, hml, hown, hts⟩ (k_M_thrown l dC dI y y1 y2 y3 y4 y5 y6 y7 y8 y9 y10 cI (va_up mi 0 0) (m_tk ma k0 k1)) (cwV 0 hts (gd_V in_314 in_316 in_317 in_74 in_315) rfl rfl rfl (by decide +kernel) ⟨Nat.le_of_ble_eq_true rfl, Nat.le_of_ble_eq_true rfl⟩) ⟨fun a U g mk q => by obtain ⟨q0, qP, qK⟩ := q; exact ⟨q0, qP, va_K.moved (u := U) (U := U.calling g mk a) (Vm.Alike.refl U.vm) qK⟩, va_recv hKc hPc (ci := 3) (q0 := 0) rfl rfl, fun U hU hW => ⟨rfl, by rw [hU]; exact hPc, va_K.moved hW.alike hKc⟩⟩ rfl rfl hl.1 rfl (lv_room (Nat.le_of_ble_eq_true rfl)) dLw_law_381 ⟨by show _ + 0 ≤ 601024; omega, by show _ + 0 ≤ 7293000; omega⟩) (fun r_21 er_22 => ?_)
          subst er_22
          refine lv_ri (y := 0) rfl ?_
          refine lv_iload hx hb dLw_law_384 (lv_at hl 1 rfl) ?_
          refine lv_icmp_eq (tgt := 391) hx hb dLw_law_386 (by decide) (fun _ => ?_) (fun c_23 => absurd c_23 (by decide))
          refine lv_iload hx hb dLw_law_391 (lv_at hl 1 rfl) ?_
          refine lv_if_ne (tgt := 415) hx hb dLw_law_393 (by decide) (fun c_24 => absurd c_24 (by decide)) (fun _ => ?_)
          refine lv_aload_n hx hb dLw_law_396 rfl (lv_at hl 6 rfl) ?_
          refine lv_iconst (v := 0) hx hb dLw_law_397 (by decide) ?_
          refine vq_lald (k := 0) (f := vp_updL og 0 (if (if FI k1 1 < FI k0 1 then (1 : Int32) else 0) = 0 then 0 else 1)) hx hb hK hP 35 2 rfl rfl nI_0.symm (by decide) (by decide) dLw_law_398 ?_
          refine lv_rl (y := (if (if FI k1 1 < FI k0 1 then (1 : Int32) else 0) = 0 then 0 else 1)) (up_L _ _) ?_
          refine lv_iload hx hb dLw_law_399 (lv_at hl 0 rfl) ?_
          refine lv_if_eq (tgt := 408) hx hb dLw_law_401 (by decide) (fun c_25 => absurd c_25 (by decide)) (fun _ => ?_)
          refine lv_lconst (v := 1) hx hb dLw_law_404 (by decide) ?_
          refine lv_goto (tgt := 409) hx hb dLw_law_405 (by decide) ?_
          refine W.lcmp hx hb dLw_law_409 ?_
          refine lv_if_eq (tgt := 415) hx hb dLw_law_410 (by decide) (fun c_26 => ?_) (fun c_26 => ?_)
          · skip
            refine lv_goto (tgt := 949) hx hb dLw_law_415 (by decide) ?_
            refine W.widen (k := 36 + (tn + 1)) (n := 5882 + 6 * (tn + 1)) (by omega) (by omega) ?_
            exact K9 (s_tki (FI k0) (FI k1)) (s_tka (FI k0) (FI k1) (FA k0) (FA k1)) (va_up mi 0 0) (m_tk ma k0 k1) (vp_updL og 0 (if (if FI k1 1 < FI k0 1 then (1 : Int32) else 0) = 0 then 0 else 1)) H locs ls (by rw [show s_tki (FI k0) (FI k1) = s_bei (FI k1) (FI k0) from if_pos hq, show s_tka (FI k0) (FI k1) (FA k0) (FA k1) = s_bea (FA k1) (FA k0) from if_pos hq]; exact rA.one 0 hR0 (by omega) hT.1 hT.2.1 hT.2.2) hP hD hS (lv_sub hl [2, 3, 4, 5, 6] rfl)
          · skip
            exact absurd (by rw [if_pos hq, if_neg (by decide)]; exact lg_self _) c_26
        · skip
          refine lv_aload_n hx hb dLw_law_343 rfl (lv_at hl 2 rfl) ?_
          refine lv_aload_n hx hb dLw_law_344 rfl (lv_at hl 1 rfl) ?_
          refine lv_iload hx hb dLw_law_345 (lv_at hl 0 rfl) ?_
          refine lv_iconst (v := 1) hx hb dLw_law_347 (by decide) ?_
          refine lv_iadd hx hb dLw_law_348 ?_
          refine lv_ri (y := nI ((1 + 4 * tn) + 1)) (nI_1 _) ?_
          refine vq_sld (k := ((1 + 4 * tn) + 1)) (u := nI k0) hx hb hX hbl hbA hS rfl (by omega) (by omega) hu1 dLw_law_349 ?_
          refine lv_aload_n hx hb dLw_law_350 rfl (lv_at hl 1 rfl) ?_
          refine lv_iload hx hb dLw_law_351 (lv_at hl 0 rfl) ?_
          refine lv_iconst (v := 2) hx hb dLw_law_353 (by decide) ?_
          refine lv_iadd hx hb dLw_law_354 ?_
          refine lv_ri (y := nI ((1 + 4 * tn) + 2)) (nI_add _ 2) ?_
          refine vq_sld (k := ((1 + 4 * tn) + 2)) (u := nI k1) hx hb hX hbl hbA hS rfl (by omega) (by omega) hu2 dLw_law_355 ?_
          refine lv_aload_n hx hb dLw_law_356 rfl (lv_at hl 4 rfl) ?_
          have hnH := H.size
          have hPc := hP.sub (ws' := (wV x xa r cQ ad ++ wR r ra cI ri rv ++ wF (ad k0 0) (ad k0 1) (ad k0 2) (ad k0 3) (ad k0 4) cI (FI k0) (FA k0) ++ wF (ad k1 0) (ad k1 1) (ad k1 2) (ad k1 3) (ad k1 4) cI (FI k1) (FA k1) ++ wO o cJ og)) [0, 1, 2, 3, 4, 5, 6, 7, 8, 9, 10, 11, 12, 13, 35] rfl
          have hDc := hD.sub (ws' := (wV x xa r cQ ad ++ wR r ra cI ri rv ++ wF (ad k0 0) (ad k0 1) (ad k0 2) (ad k0 3) (ad k0 4) cI (FI k0) (FA k0) ++ wF (ad k1 0) (ad k1 1) (ad k1 2) (ad k1 3) (ad k1 4) cI (FI k1) (FA k1) ++ wO o cJ og)) [0, 1, 2, 3, 4, 5, 6, 7, 8, 9, 10, 11, 12, 13, 35] (by decide) rfl
          have hKc := hK.sub (tys' := [(cI, .int), (cQ, .object RFo), (cJ, .long)]) [0, 1, 2] rfl
          have hFc := va_free (wc := (wV x xa r cQ ad ++ wR r ra cI ri rv ++ wF (ad k0 0) (ad k0 1) (ad k0 2) (ad k0 3) (ad k0 4) cI (FI k0) (FA k0) ++ wF (ad k1 0) (ad k1 1) (ad k1 2) (ad k1 3) (ad k1 4) cI (FI k1) (FA k1) ++ wO o cJ og)) hD hS hA [0, 1, 2, 3, 4, 5, 6, 7, 8, 9, 10, 11, 12, 13, 35] rfl
          refine va_calli (vx_runSW (As := [.ref x, .int (nI k0), .int (nI k1), .ref o]) (rest := []) ⟨hx, hb, hml, hown, hts⟩ (h_take l dC dI H.size x xa r ra cI cQ ad ri rv k0 (ad k0 1) (ad k0 2) (ad k0 3) (ad k0 4) hk0 (FI k0) (FA k0) k1 (ad k1 1) (ad k1 2) (ad k1 3) (ad k1 4) h4b (FI k1) (FA k1) o cJ og) (vx_cwSW 4 hts (gd_SW in_374 in_375 in_308 in_376) rfl rfl rfl (by decide +kernel) ⟨Nat.le_of_ble_eq_true rfl, Nat.le_of_ble_eq_true rfl⟩) ⟨fun a U g mk q => by obtain ⟨q0, q1, qP, qK, qD⟩ := q; exact ⟨q0, q1, qP, va_K.moved (u := U) (U := U.calling g mk a) (Vm.Alike.refl U.vm) qK, qD⟩, fun U hU hW => ⟨rfl, by rw [hU], by rw [hU]; exact hPc, va_K.moved hW.alike hKc, hDc.weaken (fun _ _ _ _ => trivial)⟩⟩ rfl rfl hl.1 rfl (lv_room (Nat.le_of_ble_eq_true rfl)) dLw_law_357 ⟨by show _ + 0 ≤ 601024; omega, by show _ + 0 ≤ 7293000; omega⟩) hS (fun q _ h => hFc q h) hFc (fun r_27 u t H1 locs ht hvm hw hB hz1 hk1 hS => ?_)
          obtain ⟨hP1, hK1, hD1⟩ := hB
          rw [ht] at hP1
          obtain ⟨hP, hD⟩ := va_join (wr := (wF (ad c9 0) (ad c9 1) (ad c9 2) (ad c9 3) (ad c9 4) cI (FI c9) (FA c9) ++ wF (ad d9 0) (ad d9 1) (ad d9 2) (ad d9 3) (ad d9 4) cI (FI d9) (FA d9) ++ wM y y1 y2 y3 y4 y5 y6 y7 y8 y9 y10 cI mi ma)) (w1 := (wV x xa r cQ ad ++ wR r ra cI ri rv ++ wF (ad k0 0) (ad k0 1) (ad k0 2) (ad k0 3) (ad k0 4) cI (FI k0) (FA k0) ++ wF (ad k1 0) (ad k1 1) (ad k1 2) (ad k1 3) (ad k1 4) cI (s_tki (FI k0) (FI k1)) (s_tka (FI k0) (FI k1) (FA k0) (FA k1)) ++ wO o cJ (vp_updL og 0 (if (if FI k1 1 < FI k0 1 then (1 : Int32) else 0) = 0 then 0 else 1)))) hP hD [0, 1, 2, 3, 4, 5, 6, 7, 8, 9, 10, 11, 12, 13, 35] [14, 15, 16, 17, 18, 19, 20, 21, 22, 23, 24, 25, 26, 27, 28, 29, 30, 31, 32, 33, 34] rfl rfl (by decide) (by decide) hk1 hFc hP1 hD1
          generalize H1 = H at hP hS ⊢
          have hP := hP.sub (ws' := (wV x xa r cQ ad ++ wR r ra cI ri rv ++ wF (ad k0 0) (ad k0 1) (ad k0 2) (ad k0 3) (ad k0 4) cI (FI k0) (FA k0) ++ wF (ad k1 0) (ad k1 1) (ad k1 2) (ad k1 3) (ad k1 4) cI (s_tki (FI k0) (FI k1)) (s_tka (FI k0) (FI k1) (FA k0) (FA k1)) ++ wF (ad c9 0) (ad c9 1) (ad c9 2) (ad c9 3) (ad c9 4) cI (FI c9) (FA c9) ++ wF (ad d9 0) (ad d9 1) (ad d9 2) (ad d9 3) (ad d9 4) cI (FI d9) (FA d9) ++ wM y y1 y2 y3 y4 y5 y6 y7 y8 y9 y10 cI mi ma ++ wO o cJ (vp_updL og 0 (if (if FI k1 1 < FI k0 1 then (1 : Int32) else 0) = 0 then 0 else 1)))) [21, 22, 23, 24, 25, 26, 27, 28, 29, 30, 31, 32, 33, 34, 0, 1, 2, 3, 4, 5, 6, 7, 8, 9, 10, 11, 12, 13, 14, 15, 16, 17, 18, 19, 20, 35] rfl
          have hD := hD.sub (ws' := (wV x xa r cQ ad ++ wR r ra cI ri rv ++ wF (ad k0 0) (ad k0 1) (ad k0 2) (ad k0 3) (ad k0 4) cI (FI k0) (FA k0) ++ wF (ad k1 0) (ad k1 1) (ad k1 2) (ad k1 3) (ad k1 4) cI (s_tki (FI k0) (FI k1)) (s_tka (FI k0) (FI k1) (FA k0) (FA k1)) ++ wF (ad c9 0) (ad c9 1) (ad c9 2) (ad c9 3) (ad c9 4) cI (FI c9) (FA c9) ++ wF (ad d9 0) (ad d9 1) (ad d9 2) (ad d9 3) (ad d9 4) cI (FI d9) (FA d9) ++ wM y y1 y2 y3 y4 y5 y6 y7 y8 y9 y10 cI mi ma ++ wO o cJ (vp_updL og 0 (if (if FI k1 1 < FI k0 1 then (1 : Int32) else 0) = 0 then 0 else 1)))) [21, 22, 23, 24, 25, 26, 27, 28, 29, 30, 31, 32, 33, 34, 0, 1, 2, 3, 4, 5, 6, 7, 8, 9, 10, 11, 12, 13, 14, 15, 16, 17, 18, 19, 20, 35] (by decide) rfl
          have hP : va_P (dC, dI) vwCl (wV x xa r cQ ad ++ wR r ra cI ri rv ++ wF (ad k0 0) (ad k0 1) (ad k0 2) (ad k0 3) (ad k0 4) cI (FI k0) (FA k0) ++ wF (ad k1 0) (ad k1 1) (ad k1 2) (ad k1 3) (ad k1 4) cI (s_tki (FI k0) (FI k1)) (s_tka (FI k0) (FI k1) (FA k0) (FA k1)) ++ wF (ad c9 0) (ad c9 1) (ad c9 2) (ad c9 3) (ad c9 4) cI (FI c9) (FA c9) ++ wF (ad d9 0) (ad d9 1) (ad d9 2) (ad d9 3) (ad d9 4) cI (FI d9) (FA d9) ++ wM y y1 y2 y3 y4 y5 y6 y7 y8 y9 y10 cI mi ma ++ wO o cJ (vp_updL og 0 (if (if FI k1 1 < FI k0 1 then (1 : Int32) else 0) = 0 then 0 else 1))) H := hP
          have hD : va_D A (wV x xa r cQ ad ++ wR r ra cI ri rv ++ wF (ad k0 0) (ad k0 1) (ad k0 2) (ad k0 3) (ad k0 4) cI (FI k0) (FA k0) ++ wF (ad k1 0) (ad k1 1) (ad k1 2) (ad k1 3) (ad k1 4) cI (s_tki (FI k0) (FI k1)) (s_tka (FI k0) (FI k1) (FA k0) (FA k1)) ++ wF (ad c9 0) (ad c9 1) (ad c9 2) (ad c9 3) (ad c9 4) cI (FI c9) (FA c9) ++ wF (ad d9 0) (ad d9 1) (ad d9 2) (ad d9 3) (ad d9 4) cI (FI d9) (FA d9) ++ wM y y1 y2 y3 y4 y5 y6 y7 y8 y9 y10 cI mi ma ++ wO o cJ (vp_updL og 0 (if (if FI k1 1 < FI k0 1 then (1 : Int32) else 0) = 0 then 0 else 1))) := hD
          have hw : r_27 = 0 := hw
          subst hw
          refine lv_istore (lv' := [(5, .int 0), (4, .int (nI (1 + 4 * tn))), (0, .ref b), (1, .ref x), (2, .ref y), (3, .ref o)]) hx hb dLw_law_360 hl (by decide) rfl (fun ls hl => ?_)
          refine lv_aload_n hx hb dLw_law_362 rfl (lv_at hl 4 rfl) ?_
          refine lv_aload_n hx hb dLw_law_363 rfl (lv_at hl 2 rfl) ?_
          refine lv_iload hx hb dLw_law_364 (lv_at hl 1 rfl) ?_
          refine lv_iconst (v := 1) hx hb dLw_law_366 (by decide) ?_
          refine lv_iadd hx hb dLw_law_367 ?_
          refine lv_ri (y := nI ((1 + 4 * tn) + 1)) (nI_1 _) ?_
          refine vq_sld (k := ((1 + 4 * tn) + 1)) (u := nI k0) hx hb hX hbl hbA hS rfl (by omega) (by omega) hu1 dLw_law_368 ?_
          refine lv_aload_n hx hb dLw_law_369 rfl (lv_at hl 2 rfl) ?_
          refine lv_iload hx hb dLw_law_370 (lv_at hl 1 rfl) ?_
          refine lv_iconst (v := 2) hx hb dLw_law_372 (by decide) ?_
          refine lv_iadd hx hb dLw_law_373 ?_
          refine lv_ri (y := nI ((1 + 4 * tn) + 2)) (nI_add _ 2) ?_
          refine vq_sld (k := ((1 + 4 * tn) + 2)) (u := nI k1) hx hb hX hbl hbA hS rfl (by omega) (by omega) hu2 dLw_law_374 ?_
          have hm9 := k_M_take l dC dI H.size y y1 y2 y3 y4 y5 y6 y7 y8 y9 y10 cI mi ma k0 k1 hk0 h4b
          rw [show m_tk2 ma k0 k1 = (0, ma) from if_neg (fun q => hq (hq2.mp q))] at hm9
          have hPc := hP.sub (ws' := (wM y y1 y2 y3 y4 y5 y6 y7 y8 y9 y10 cI mi ma)) [24, 25, 26, 27, 28, 29, 30, 31, 32, 33, 34] rfl
          have hDc := hD.sub (ws' := (wM y y1 y2 y3 y4 y5 y6 y7 y8 y9 y10 cI mi ma)) [24, 25, 26, 27, 28, 29, 30, 31, 32, 33, 34] (by decide) rfl
          have hKc := hK.sub (tys' := [(cI, .int)]) [0] rfl
          have hFc := va_free (wc := (wM y y1 y2 y3 y4 y5 y6 y7 y8 y9 y10 cI mi ma)) hD hS hA [24, 25, 26, 27, 28, 29, 30, 31, 32, 33, 34] rfl
          refine va_calli (va_runV (As := [.int (nI k0), .int (nI k1)]) (rest := []) ⟨hx, hb, hml, hown, hts⟩ (hm9) (cwV 2 hts (gd_V in_377 in_379 in_380 in_74 in_378) rfl rfl rfl (by decide +kernel) ⟨Nat.le_of_ble_eq_true rfl, Nat.le_of_ble_eq_true rfl⟩) ⟨fun a U g mk q => by obtain ⟨q0, q1, qP, qK, qD⟩ := q; exact ⟨q0, q1, qP, va_K.moved (u := U) (U := U.calling g mk a) (Vm.Alike.refl U.vm) qK, qD⟩, va_recv hKc hPc (ci := 3) (q0 := 0) rfl rfl, fun U hU hW => ⟨rfl, by rw [hU], by rw [hU]; exact hPc, va_K.moved hW.alike hKc, hDc.weaken (fun _ _ _ _ => trivial)⟩⟩ rfl rfl hl.1 rfl (lv_room (Nat.le_of_ble_eq_true rfl)) dLw_law_375 ⟨by show _ + 0 ≤ 601024; omega, by show _ + 0 ≤ 7293000; omega⟩) hS (fun q _ h => hFc q h) hFc (fun r_28 u t H1 locs ht hvm hw hB hz1 hk1 hS => ?_)
          obtain ⟨hP1, hK1, hD1⟩ := hB
          rw [ht] at hP1
          obtain ⟨hP, hD⟩ := va_join (wr := (wV x xa r cQ ad ++ wR r ra cI ri rv ++ wF (ad k0 0) (ad k0 1) (ad k0 2) (ad k0 3) (ad k0 4) cI (FI k0) (FA k0) ++ wF (ad k1 0) (ad k1 1) (ad k1 2) (ad k1 3) (ad k1 4) cI (s_tki (FI k0) (FI k1)) (s_tka (FI k0) (FI k1) (FA k0) (FA k1)) ++ wF (ad c9 0) (ad c9 1) (ad c9 2) (ad c9 3) (ad c9 4) cI (FI c9) (FA c9) ++ wF (ad d9 0) (ad d9 1) (ad d9 2) (ad d9 3) (ad d9 4) cI (FI d9) (FA d9) ++ wO o cJ (vp_updL og 0 (if (if FI k1 1 < FI k0 1 then (1 : Int32) else 0) = 0 then 0 else 1)))) (w1 := (wM y y1 y2 y3 y4 y5 y6 y7 y8 y9 y10 cI (va_up mi 0 0) ma)) hP hD [24, 25, 26, 27, 28, 29, 30, 31, 32, 33, 34] [0, 1, 2, 3, 4, 5, 6, 7, 8, 9, 10, 11, 12, 13, 14, 15, 16, 17, 18, 19, 20, 21, 22, 23, 35] rfl rfl (by decide) (by decide) hk1 hFc hP1 hD1
          generalize H1 = H at hP hS ⊢
          have hP := hP.sub (ws' := (wV x xa r cQ ad ++ wR r ra cI ri rv ++ wF (ad k0 0) (ad k0 1) (ad k0 2) (ad k0 3) (ad k0 4) cI (FI k0) (FA k0) ++ wF (ad k1 0) (ad k1 1) (ad k1 2) (ad k1 3) (ad k1 4) cI (s_tki (FI k0) (FI k1)) (s_tka (FI k0) (FI k1) (FA k0) (FA k1)) ++ wF (ad c9 0) (ad c9 1) (ad c9 2) (ad c9 3) (ad c9 4) cI (FI c9) (FA c9) ++ wF (ad d9 0) (ad d9 1) (ad d9 2) (ad d9 3) (ad d9 4) cI (FI d9) (FA d9) ++ wM y y1 y2 y3 y4 y5 y6 y7 y8 y9 y10 cI (va_up mi 0 0) ma ++ wO o cJ (vp_updL og 0 (if (if FI k1 1 < FI k0 1 then (1 : Int32) else 0) = 0 then 0 else 1)))) [0, 1, 2, 3, 4, 5, 6, 7, 8, 9, 10, 11, 12, 13, 14, 15, 16, 17, 18, 19, 20, 21, 22, 23, 25, 26, 27, 28, 29, 30, 31, 32, 33, 34, 35, 24] rfl
          have hD := hD.sub (ws' := (wV x xa r cQ ad ++ wR r ra cI ri rv ++ wF (ad k0 0) (ad k0 1) (ad k0 2) (ad k0 3) (ad k0 4) cI (FI k0) (FA k0) ++ wF (ad k1 0) (ad k1 1) (ad k1 2) (ad k1 3) (ad k1 4) cI (s_tki (FI k0) (FI k1)) (s_tka (FI k0) (FI k1) (FA k0) (FA k1)) ++ wF (ad c9 0) (ad c9 1) (ad c9 2) (ad c9 3) (ad c9 4) cI (FI c9) (FA c9) ++ wF (ad d9 0) (ad d9 1) (ad d9 2) (ad d9 3) (ad d9 4) cI (FI d9) (FA d9) ++ wM y y1 y2 y3 y4 y5 y6 y7 y8 y9 y10 cI (va_up mi 0 0) ma ++ wO o cJ (vp_updL og 0 (if (if FI k1 1 < FI k0 1 then (1 : Int32) else 0) = 0 then 0 else 1)))) [0, 1, 2, 3, 4, 5, 6, 7, 8, 9, 10, 11, 12, 13, 14, 15, 16, 17, 18, 19, 20, 21, 22, 23, 25, 26, 27, 28, 29, 30, 31, 32, 33, 34, 35, 24] (by decide) rfl
          have hP : va_P (dC, dI) vwCl (wV x xa r cQ ad ++ wR r ra cI ri rv ++ wF (ad k0 0) (ad k0 1) (ad k0 2) (ad k0 3) (ad k0 4) cI (FI k0) (FA k0) ++ wF (ad k1 0) (ad k1 1) (ad k1 2) (ad k1 3) (ad k1 4) cI (s_tki (FI k0) (FI k1)) (s_tka (FI k0) (FI k1) (FA k0) (FA k1)) ++ wF (ad c9 0) (ad c9 1) (ad c9 2) (ad c9 3) (ad c9 4) cI (FI c9) (FA c9) ++ wF (ad d9 0) (ad d9 1) (ad d9 2) (ad d9 3) (ad d9 4) cI (FI d9) (FA d9) ++ wM y y1 y2 y3 y4 y5 y6 y7 y8 y9 y10 cI (va_up mi 0 0) ma ++ wO o cJ (vp_updL og 0 (if (if FI k1 1 < FI k0 1 then (1 : Int32) else 0) = 0 then 0 else 1))) H := hP
          have hD : va_D A (wV x xa r cQ ad ++ wR r ra cI ri rv ++ wF (ad k0 0) (ad k0 1) (ad k0 2) (ad k0 3) (ad k0 4) cI (FI k0) (FA k0) ++ wF (ad k1 0) (ad k1 1) (ad k1 2) (ad k1 3) (ad k1 4) cI (s_tki (FI k0) (FI k1)) (s_tka (FI k0) (FI k1) (FA k0) (FA k1)) ++ wF (ad c9 0) (ad c9 1) (ad c9 2) (ad c9 3) (ad c9 4) cI (FI c9) (FA c9) ++ wF (ad d9 0) (ad d9 1) (ad d9 2) (ad d9 3) (ad d9 4) cI (FI d9) (FA d9) ++ wM y y1 y2 y3 y4 y5 y6 y7 y8 y9 y10 cI (va_up mi 0 0) ma ++ wO o cJ (vp_updL og 0 (if (if FI k1 1 < FI k0 1 then (1 : Int32) else 0) = 0 then 0 else 1))) := hD
          have hw : r_28 = 0 := hw
          subst hw
          refine lv_istore (lv' := [(6, .int 0), (5, .int 0), (4, .int (nI (1 + 4 * tn))), (0, .ref b), (1, .ref x), (2, .ref y), (3, .ref o)]) hx hb dLw_law_378 hl (by decide) rfl (fun ls hl => ?_)
          refine lv_aload_n hx hb dLw_law_380 rfl (lv_at hl 5 rfl) ?_
          have hPc := hP.sub (ws' := (wM y y1 y2 y3 y4 y5 y6 y7 y8 y9 y10 cI (va_up mi 0 0) ma)) [24, 25, 26, 27, 28, 29, 30, 31, 32, 33, 34] rfl
          have hKc := hK.sub (tys' := [(cI, .int)]) [0] rfl
          refine vp_callSi (W.runV (As := []) (rest := []) ⟨hx, hb, hml, hown, hts⟩ (k_M_thrown l dC dI y y1 y2 y3 y4 y5 y6 y7 y8 y9 y10 cI (va_up mi 0 0) ma) (cwV 0 hts (gd_V in_314 in_316 in_317 in_74 in_315) rfl rfl rfl (by decide +kernel) ⟨Nat.le_of_ble_eq_true rfl, Nat.le_of_ble_eq_true rfl⟩) ⟨fun a U g mk q => by obtain ⟨q0, qP, qK⟩ := q; exact ⟨q0, qP, va_K.moved (u := U) (U := U.calling g mk a) (Vm.Alike.refl U.vm) qK⟩, va_recv hKc hPc (ci := 3) (q0 := 0) rfl rfl, fun U hU hW => ⟨rfl, by rw [hU]; exact hPc, va_K.moved hW.alike hKc⟩⟩ rfl rfl hl.1 rfl (lv_room (Nat.le_of_ble_eq_true rfl)) dLw_law_381 ⟨by show _ + 0 ≤ 601024; omega, by show _ + 0 ≤ 7293000; omega⟩) (fun r_29 er_30 => ?_)
          subst er_30
          refine lv_ri (y := 0) rfl ?_
          refine lv_iload hx hb dLw_law_384 (lv_at hl 1 rfl) ?_
          refine lv_icmp_eq (tgt := 391) hx hb dLw_law_386 (by decide) (fun _ => ?_) (fun c_31 => absurd c_31 (by decide))
          refine lv_iload hx hb dLw_law_391 (lv_at hl 1 rfl) ?_
          refine lv_if_ne (tgt := 415) hx hb dLw_law_393 (by decide) (fun c_32 => absurd c_32 (by decide)) (fun _ => ?_)
          refine lv_aload_n hx hb dLw_law_396 rfl (lv_at hl 6 rfl) ?_
          refine lv_iconst (v := 0) hx hb dLw_law_397 (by decide) ?_
          refine vq_lald (k := 0) (f := vp_updL og 0 (if (if FI k1 1 < FI k0 1 then (1 : Int32) else 0) = 0 then 0 else 1)) hx hb hK hP 35 2 rfl rfl nI_0.symm (by decide) (by decide) dLw_law_398 ?_
          refine lv_rl (y := (if (if FI k1 1 < FI k0 1 then (1 : Int32) else 0) = 0 then 0 else 1)) (up_L _ _) ?_
          refine lv_iload hx hb dLw_law_399 (lv_at hl 0 rfl) ?_
          refine lv_if_eq (tgt := 408) hx hb dLw_law_401 (by decide) (fun _ => ?_) (fun c_33 => absurd c_33 (by decide))
          refine lv_lconst (v := 0) hx hb dLw_law_408 (by decide) ?_
          refine W.lcmp hx hb dLw_law_409 ?_
          refine lv_if_eq (tgt := 415) hx hb dLw_law_410 (by decide) (fun c_34 => ?_) (fun c_34 => ?_)
          · skip
            refine lv_goto (tgt := 949) hx hb dLw_law_415 (by decide) ?_
            refine W.widen (k := 36 + (tn + 1)) (n := 5882 + 6 * (tn + 1)) (by omega) (by omega) ?_
            exact K9 (s_tki (FI k0) (FI k1)) (s_tka (FI k0) (FI k1) (FA k0) (FA k1)) (va_up mi 0 0) ma (vp_updL og 0 (if (if FI k1 1 < FI k0 1 then (1 : Int32) else 0) = 0 then 0 else 1)) H locs ls (by rw [show s_tki (FI k0) (FI k1) = FI k1 from if_neg hq, show s_tka (FI k0) (FI k1) (FA k0) (FA k1) = FA k1 from if_neg hq]; exact rA.thr1 k1 0 hR0) hP hD hS (lv_sub hl [2, 3, 4, 5, 6] rfl)
          · skip
            exact absurd (by rw [if_neg hq, if_pos rfl]; exact lg_self _) c_34
