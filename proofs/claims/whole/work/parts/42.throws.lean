set_option maxHeartbeats 4000000 in
set_option maxRecDepth 100000 in
/-- foldAt(z), no fold -/
theorem k_V_foldAtN (l : Launch) (hnt : l.stackTraces = false) (dC : Nat → ClassId) (dI : Nat → Nat → Nat) (x xa r : Nat) (cI cQ : ClassId) (ad : Nat → Nat → Nat) (z : Int32) (hfx : s_lk z = 1) : vx_Met l yVf_foldAt wsVf_foldAt ({ frames := 8, cells := 1, slots := 6, locals := 140 }) (va_Pc [.ref x, .int z] (fun U => x_N U ∧ x_Z x_0 U U.heap ∧ va_P (dC, dI) vwCl (wV x xa r cQ ad) U.heap ∧ va_K (dC, dI) vwCl [(cI, .int), (cQ, .object RFo)] U)) x_Q (x_F cIO) 1 6 x_0 := by
  refine vx_ofW (cc := cVf_foldAt) (maxL := 2) (ret := (some (.object "VersionFold$Fold"))) (by decide) rfl ?_
  intro p e s m args below meth c s₁ B hml htab hv
  obtain ⟨rfl, hXN, hXZ, hP, hK⟩ := hv
  have hx := B.exec
  have hb := B.bytes
  have hr := B.returns
  have hts0 := atoms_spec (ws := wsVf_foldAt) B.pre
  have hts := fun (w : Cond) (h : w ∈ lw_g) => hts0 w (List.mem_cons_of_mem _ h)
  have hown : s.vm.findClass RVf = some m.cls := findClass_of_methodNamed B.named
  have hlocks := B.notSynchronized
  have hl := lv_entry ([.ref x, .int z]) (n := 2) (Nat.le_of_ble_eq_true rfl)
  rw [lg_entry_eq]
  generalize (lg_sl ([.ref x, .int z]) ++ List.replicate (2 - (lg_sl ([.ref x, .int z])).length) Slot.unset).toArray = ls at hl ⊢
  have hl : lv_has ls 2 [(0, .ref x), (1, .int z)] := hl
  refine lv_iload_n hx hb dVf_foldAt_0 rfl (lv_at hl 1 rfl) ?_
  refine lv_if_lt (tgt := 9) hx hb dVf_foldAt_1 (by decide) (fun c_1 => ?_) (fun c_1 => ?_)
  · skip
    obtain ⟨sa, hstr⟩ := hXN.2.2.2.2.2.2.1
    exact vx_throwS (A := x_0) (cls := cIO) (names := x_ns) hx hb hnt hown (by decide) (by decide) (hts _ in_232) (hts _ in_233) hstr (x_hIO hts hXN) x_gIO hXZ.1 hXZ.2 va_S.rf (hl.1.trans hml.symm) dVf_foldAt_9 dVf_foldAt_12 dVf_foldAt_13 dVf_foldAt_15 dVf_foldAt_18 (fun x h => (htab x h).elim) (Nat.le_of_ble_eq_true rfl) (Nat.le_of_ble_eq_true rfl) (Nat.le_of_ble_eq_true rfl) (Nat.le_of_ble_eq_true rfl) hlocks (fun t hA9 hz9 hk9 => ⟨rfl, hz9, hk9⟩) (fun z h => by cases h) (by decide) (by decide)
  · skip
    refine lv_iload_n hx hb dVf_foldAt_4 rfl (lv_at hl 1 rfl) ?_
    refine lv_iconst (v := nI 4) hx hb dVf_foldAt_5 (by decide) ?_
    refine lv_icmp_lt (tgt := 19) hx hb dVf_foldAt_6 (by decide) (fun c_2 => ?_) (fun c_2 => ?_)
    · skip
      exact (s_lk_no hfx c_1 c_2).elim
    · skip
      obtain ⟨sa, hstr⟩ := hXN.2.2.2.2.2.2.1
      exact vx_throwS (A := x_0) (cls := cIO) (names := x_ns) hx hb hnt hown (by decide) (by decide) (hts _ in_232) (hts _ in_233) hstr (x_hIO hts hXN) x_gIO hXZ.1 hXZ.2 va_S.rf (hl.1.trans hml.symm) dVf_foldAt_9 dVf_foldAt_12 dVf_foldAt_13 dVf_foldAt_15 dVf_foldAt_18 (fun x h => (htab x h).elim) (Nat.le_of_ble_eq_true rfl) (Nat.le_of_ble_eq_true rfl) (Nat.le_of_ble_eq_true rfl) (Nat.le_of_ble_eq_true rfl) hlocks (fun t hA9 hz9 hk9 => ⟨rfl, hz9, hk9⟩) (fun z h => by cases h) (by decide) (by decide)
set_option maxHeartbeats 4000000 in
set_option maxRecDepth 100000 in
/-- requireKey(z), none such -/
theorem k_V_requireKeyB (l : Launch) (hnt : l.stackTraces = false) (z : Int32) (hz : s_in z = 0) : vx_Met l yVf_requireKey wsVf_requireKey ({ frames := 8, cells := 1, slots := 6, locals := 140 }) (va_Pc [.int z] (fun U => x_N U ∧ x_Z x_0 U U.heap)) x_Q (x_F cIA) 1 6 x_0 := by
  refine vx_ofW (cc := cVf_requireKey) (maxL := 1) (ret := none) (by decide) rfl ?_
  intro p e s m args below meth c s₁ B hml htab hv
  obtain ⟨rfl, hXN, hXZ⟩ := hv
  have hx := B.exec
  have hb := B.bytes
  have hr := B.returns
  have hts0 := atoms_spec (ws := wsVf_requireKey) B.pre
  have hts := fun (w : Cond) (h : w ∈ lw_g) => hts0 w (List.mem_cons_of_mem _ h)
  have hown : s.vm.findClass RVf = some m.cls := findClass_of_methodNamed B.named
  have hlocks := B.notSynchronized
  have hl := lv_entry ([.int z]) (n := 1) (Nat.le_of_ble_eq_true rfl)
  rw [lg_entry_eq]
  generalize (lg_sl ([.int z]) ++ List.replicate (1 - (lg_sl ([.int z])).length) Slot.unset).toArray = ls at hl ⊢
  have hl : lv_has ls 1 [(0, .int z)] := hl
  refine lv_iload_n hx hb dVf_requireKey_0 rfl (lv_at hl 0 rfl) ?_
  refine vp_callSi (W.runS (As := [.int z]) (rest := []) ⟨hx, hb, hml, hown, hts⟩ (k_V_isKey l z) (va_cwS 1 hts (gd_S in_110 in_113 in_112 in_111) rfl rfl rfl (by decide +kernel) ⟨Nat.le_of_ble_eq_true rfl, Nat.le_of_ble_eq_true rfl⟩) ⟨fun a U g mk q => q, fun U hU hW => ⟨rfl, trivial⟩⟩ rfl rfl hl.1 rfl (lv_room (Nat.le_of_ble_eq_true rfl)) dVf_requireKey_1 ⟨Nat.le_of_ble_eq_true rfl, Nat.le_of_ble_eq_true rfl⟩) (fun r_1 er_2 => ?_)
  subst er_2
  refine lv_if_ne (tgt := 17) hx hb dVf_requireKey_4 (by decide) (fun c_3 => ?_) (fun c_3 => ?_)
  · skip
    exact absurd hz c_3
  · skip
    obtain ⟨sa, hstr⟩ := hXN.2.2.2.2.2.2.2.1
    exact vx_throwS (A := x_0) (cls := cIA) (names := x_ns) hx hb hnt hown (by decide) (by decide) (hts _ in_234) (hts _ in_235) hstr (x_hIA hts hXN) x_gIA hXZ.1 hXZ.2 va_S.rf (hl.1.trans hml.symm) dVf_requireKey_7 dVf_requireKey_10 dVf_requireKey_11 dVf_requireKey_13 dVf_requireKey_16 (fun x h => (htab x h).elim) (Nat.le_of_ble_eq_true rfl) (Nat.le_of_ble_eq_true rfl) (Nat.le_of_ble_eq_true rfl) (Nat.le_of_ble_eq_true rfl) hlocks (fun t hA9 hz9 hk9 => ⟨rfl, hz9, hk9⟩) (fun z h => by cases h) (by decide) (by decide)
set_option maxHeartbeats 4000000 in
set_option maxRecDepth 100000 in
/-- requireSession(z), none such -/
theorem k_V_requireSessionB (l : Launch) (hnt : l.stackTraces = false) (z : Int32) (hz : s_in z = 0) : vx_Met l yVf_requireSession wsVf_requireSession ({ frames := 8, cells := 1, slots := 6, locals := 140 }) (va_Pc [.int z] (fun U => x_N U ∧ x_Z x_0 U U.heap)) x_Q (x_F cIA) 1 6 x_0 := by
  refine vx_ofW (cc := cVf_requireSession) (maxL := 1) (ret := none) (by decide) rfl ?_
  intro p e s m args below meth c s₁ B hml htab hv
  obtain ⟨rfl, hXN, hXZ⟩ := hv
  have hx := B.exec
  have hb := B.bytes
  have hr := B.returns
  have hts0 := atoms_spec (ws := wsVf_requireSession) B.pre
  have hts := fun (w : Cond) (h : w ∈ lw_g) => hts0 w (List.mem_cons_of_mem _ h)
  have hown : s.vm.findClass RVf = some m.cls := findClass_of_methodNamed B.named
  have hlocks := B.notSynchronized
  have hl := lv_entry ([.int z]) (n := 1) (Nat.le_of_ble_eq_true rfl)
  rw [lg_entry_eq]
  generalize (lg_sl ([.int z]) ++ List.replicate (1 - (lg_sl ([.int z])).length) Slot.unset).toArray = ls at hl ⊢
  have hl : lv_has ls 1 [(0, .int z)] := hl
  refine lv_iload_n hx hb dVf_requireSession_0 rfl (lv_at hl 0 rfl) ?_
  refine vp_callSi (W.runS (As := [.int z]) (rest := []) ⟨hx, hb, hml, hown, hts⟩ (k_V_isSession l z) (va_cwS 1 hts (gd_S in_114 in_116 in_112 in_115) rfl rfl rfl (by decide +kernel) ⟨Nat.le_of_ble_eq_true rfl, Nat.le_of_ble_eq_true rfl⟩) ⟨fun a U g mk q => q, fun U hU hW => ⟨rfl, trivial⟩⟩ rfl rfl hl.1 rfl (lv_room (Nat.le_of_ble_eq_true rfl)) dVf_requireSession_1 ⟨Nat.le_of_ble_eq_true rfl, Nat.le_of_ble_eq_true rfl⟩) (fun r_1 er_2 => ?_)
  subst er_2
  refine lv_if_ne (tgt := 17) hx hb dVf_requireSession_4 (by decide) (fun c_3 => ?_) (fun c_3 => ?_)
  · skip
    exact absurd hz c_3
  · skip
    obtain ⟨sa, hstr⟩ := hXN.2.2.2.2.2.2.2.2.1
    exact vx_throwS (A := x_0) (cls := cIA) (names := x_ns) hx hb hnt hown (by decide) (by decide) (hts _ in_234) (hts _ in_235) hstr (x_hIA hts hXN) x_gIA hXZ.1 hXZ.2 va_S.rf (hl.1.trans hml.symm) dVf_requireSession_7 dVf_requireSession_10 dVf_requireSession_11 dVf_requireSession_13 dVf_requireSession_16 (fun x h => (htab x h).elim) (Nat.le_of_ble_eq_true rfl) (Nat.le_of_ble_eq_true rfl) (Nat.le_of_ble_eq_true rfl) (Nat.le_of_ble_eq_true rfl) hlocks (fun t hA9 hz9 hk9 => ⟨rfl, hz9, hk9⟩) (fun z h => by cases h) (by decide) (by decide)
set_option maxHeartbeats 4000000 in
set_option maxRecDepth 100000 in
/-- apply(z, ..), no fold z -/
theorem k_V_applyN (l : Launch) (hnt : l.stackTraces = false) (dC : Nat → ClassId) (dI : Nat → Nat → Nat) (x xa r : Nat) (cI cQ : ClassId) (ad : Nat → Nat → Nat) (z : Int32) (hfx : s_lk z = 1) : vx_Met l yVf_apply wsVf_apply ({ frames := 9, cells := 1, slots := 6, locals := 180 }) (va_Pc [.ref x, .int z] (fun U => x_N U ∧ x_Z x_0 U U.heap ∧ va_P (dC, dI) vwCl (wV x xa r cQ ad) U.heap ∧ va_K (dC, dI) vwCl [(cI, .int), (cQ, .object RFo)] U)) x_Q (x_F cIO) 1 6 x_0 := by
  refine vx_ofW (cc := cVf_apply) (maxL := 2) (ret := (some .int)) (by decide) rfl ?_
  intro p e s m args below meth c s₁ B hml htab hv
  obtain ⟨rfl, hXN, hXZ, hP, hK⟩ := hv
  have hx := B.exec
  have hb := B.bytes
  have hr := B.returns
  have hts0 := atoms_spec (ws := wsVf_apply) B.pre
  have hts := fun (w : Cond) (h : w ∈ lw_g) => hts0 w (List.mem_cons_of_mem _ h)
  have hown : s.vm.findClass RVf = some m.cls := findClass_of_methodNamed B.named
  have hlocks := B.notSynchronized
  have hl := lv_entry ([.ref x, .int z]) (n := 2) (Nat.le_of_ble_eq_true rfl)
  rw [lg_entry_eq]
  generalize (lg_sl ([.ref x, .int z]) ++ List.replicate (2 - (lg_sl ([.ref x, .int z])).length) Slot.unset).toArray = ls at hl ⊢
  have hl : lv_has ls 2 [(0, .ref x), (1, .int z)] := hl
  refine lv_aload_n hx hb dVf_apply_0 rfl (lv_at hl 0 rfl) ?_
  refine lv_iload_n hx hb dVf_apply_1 rfl (lv_at hl 1 rfl) ?_
  have hPc := hP.sub (ws' := (wV x xa r cQ ad)) [0, 1] rfl
  have hKc := hK.sub (tys' := [(cI, .int), (cQ, .object RFo)]) [0, 1] rfl
  exact x_call (A0 := x_0) (H0 := s.heap) (vx_runV (As := [.int z]) (rest := []) ⟨hx, hb, hml, hown, hts⟩ (k_V_foldAtN l hnt dC dI x xa r cI cQ ad z hfx) (cwV 1 hts (gd_V in_118 in_120 in_121 in_112 in_119) rfl rfl rfl (by decide +kernel) ⟨Nat.le_of_ble_eq_true rfl, Nat.le_of_ble_eq_true rfl⟩) ⟨fun a U g mk q => by obtain ⟨q0, qN, qZ, qP, qK⟩ := q; exact ⟨q0, x_N.same rfl qN, x_Z.moved (u := U) (U := U.calling g mk a) (Vm.Alike.refl U.vm) qZ, qP, va_K.moved (u := U) (U := U.calling g mk a) (Vm.Alike.refl U.vm) qK⟩, va_recv hKc hPc (ci := 2) (q0 := 0) rfl rfl, fun U hU hW => ⟨rfl, x_N.warm hW hXN, by rw [hU]; exact x_Z.moved hW.alike hXZ, by rw [hU]; exact hPc, va_K.moved hW.alike hKc⟩⟩ rfl rfl hl.1 rfl (lv_room (Nat.le_of_ble_eq_true rfl)) dVf_apply_2 ⟨Nat.le_of_ble_eq_true rfl, Nat.le_of_ble_eq_true rfl⟩) va_S.rf (fun ce q9 H1 hz9 hk9 hS9 hce hcv hcl => vx_out (fun x h => (htab x h).elim) hlocks hce hcv hcl (fun t ht hA9 => ⟨rfl, by rw [ht]; exact hz9, fun q hq => by rw [ht]; exact hk9 q hq⟩) (fun z h => by cases h) (by decide) (by decide))
set_option maxHeartbeats 4000000 in
set_option maxRecDepth 100000 in
/-- test(z, ..), no fold z -/
theorem k_V_testN (l : Launch) (hnt : l.stackTraces = false) (dC : Nat → ClassId) (dI : Nat → Nat → Nat) (x xa r : Nat) (cI cQ : ClassId) (ad : Nat → Nat → Nat) (z : Int32) (hfx : s_lk z = 1) : vx_Met l yVf_test wsVf_test ({ frames := 9, cells := 1, slots := 6, locals := 180 }) (va_Pc [.ref x, .int z] (fun U => x_N U ∧ x_Z x_0 U U.heap ∧ va_P (dC, dI) vwCl (wV x xa r cQ ad) U.heap ∧ va_K (dC, dI) vwCl [(cI, .int), (cQ, .object RFo)] U)) x_Q (x_F cIO) 1 6 x_0 := by
  refine vx_ofW (cc := cVf_test) (maxL := 2) (ret := (some .int)) (by decide) rfl ?_
  intro p e s m args below meth c s₁ B hml htab hv
  obtain ⟨rfl, hXN, hXZ, hP, hK⟩ := hv
  have hx := B.exec
  have hb := B.bytes
  have hr := B.returns
  have hts0 := atoms_spec (ws := wsVf_test) B.pre
  have hts := fun (w : Cond) (h : w ∈ lw_g) => hts0 w (List.mem_cons_of_mem _ h)
  have hown : s.vm.findClass RVf = some m.cls := findClass_of_methodNamed B.named
  have hlocks := B.notSynchronized
  have hl := lv_entry ([.ref x, .int z]) (n := 2) (Nat.le_of_ble_eq_true rfl)
  rw [lg_entry_eq]
  generalize (lg_sl ([.ref x, .int z]) ++ List.replicate (2 - (lg_sl ([.ref x, .int z])).length) Slot.unset).toArray = ls at hl ⊢
  have hl : lv_has ls 2 [(0, .ref x), (1, .int z)] := hl
  refine lv_aload_n hx hb dVf_test_0 rfl (lv_at hl 0 rfl) ?_
  refine lv_iload_n hx hb dVf_test_1 rfl (lv_at hl 1 rfl) ?_
  have hPc := hP.sub (ws' := (wV x xa r cQ ad)) [0, 1] rfl
  have hKc := hK.sub (tys' := [(cI, .int), (cQ, .object RFo)]) [0, 1] rfl
  exact x_call (A0 := x_0) (H0 := s.heap) (vx_runV (As := [.int z]) (rest := []) ⟨hx, hb, hml, hown, hts⟩ (k_V_foldAtN l hnt dC dI x xa r cI cQ ad z hfx) (cwV 1 hts (gd_V in_118 in_120 in_121 in_112 in_119) rfl rfl rfl (by decide +kernel) ⟨Nat.le_of_ble_eq_true rfl, Nat.le_of_ble_eq_true rfl⟩) ⟨fun a U g mk q => by obtain ⟨q0, qN, qZ, qP, qK⟩ := q; exact ⟨q0, x_N.same rfl qN, x_Z.moved (u := U) (U := U.calling g mk a) (Vm.Alike.refl U.vm) qZ, qP, va_K.moved (u := U) (U := U.calling g mk a) (Vm.Alike.refl U.vm) qK⟩, va_recv hKc hPc (ci := 2) (q0 := 0) rfl rfl, fun U hU hW => ⟨rfl, x_N.warm hW hXN, by rw [hU]; exact x_Z.moved hW.alike hXZ, by rw [hU]; exact hPc, va_K.moved hW.alike hKc⟩⟩ rfl rfl hl.1 rfl (lv_room (Nat.le_of_ble_eq_true rfl)) dVf_test_2 ⟨Nat.le_of_ble_eq_true rfl, Nat.le_of_ble_eq_true rfl⟩) va_S.rf (fun ce q9 H1 hz9 hk9 hS9 hce hcv hcl => vx_out (fun x h => (htab x h).elim) hlocks hce hcv hcl (fun t ht hA9 => ⟨rfl, by rw [ht]; exact hz9, fun q hq => by rw [ht]; exact hk9 q hq⟩) (fun z h => by cases h) (by decide) (by decide))
set_option maxHeartbeats 4000000 in
set_option maxRecDepth 100000 in
/-- take(z, ..), no fold z -/
theorem k_V_takeN (l : Launch) (hnt : l.stackTraces = false) (dC : Nat → ClassId) (dI : Nat → Nat → Nat) (x xa r : Nat) (cI cQ : ClassId) (ad : Nat → Nat → Nat) (z u0 : Int32) (hfx : s_lk z = 1) : vx_Met l yVf_take wsVf_take ({ frames := 9, cells := 1, slots := 6, locals := 180 }) (va_Pc [.ref x, .int z, .int u0] (fun U => x_N U ∧ x_Z x_0 U U.heap ∧ va_P (dC, dI) vwCl (wV x xa r cQ ad) U.heap ∧ va_K (dC, dI) vwCl [(cI, .int), (cQ, .object RFo)] U)) x_Q (x_F cIO) 1 6 x_0 := by
  refine vx_ofW (cc := cVf_take) (maxL := 5) (ret := (some .boolean)) (by decide) rfl ?_
  intro p e s m args below meth c s₁ B hml htab hv
  obtain ⟨rfl, hXN, hXZ, hP, hK⟩ := hv
  have hx := B.exec
  have hb := B.bytes
  have hr := B.returns
  have hts0 := atoms_spec (ws := wsVf_take) B.pre
  have hts := fun (w : Cond) (h : w ∈ lw_g) => hts0 w (List.mem_cons_of_mem _ h)
  have hown : s.vm.findClass RVf = some m.cls := findClass_of_methodNamed B.named
  have hlocks := B.notSynchronized
  have hl := lv_entry ([.ref x, .int z, .int u0]) (n := 5) (Nat.le_of_ble_eq_true rfl)
  rw [lg_entry_eq]
  generalize (lg_sl ([.ref x, .int z, .int u0]) ++ List.replicate (5 - (lg_sl ([.ref x, .int z, .int u0])).length) Slot.unset).toArray = ls at hl ⊢
  have hl : lv_has ls 5 [(0, .ref x), (1, .int z), (2, .int u0)] := hl
  refine lv_aload_n hx hb dVf_take_0 rfl (lv_at hl 0 rfl) ?_
  refine lv_iload_n hx hb dVf_take_1 rfl (lv_at hl 1 rfl) ?_
  have hPc := hP.sub (ws' := (wV x xa r cQ ad)) [0, 1] rfl
  have hKc := hK.sub (tys' := [(cI, .int), (cQ, .object RFo)]) [0, 1] rfl
  exact x_call (A0 := x_0) (H0 := s.heap) (vx_runV (As := [.int z]) (rest := []) ⟨hx, hb, hml, hown, hts⟩ (k_V_foldAtN l hnt dC dI x xa r cI cQ ad z hfx) (cwV 1 hts (gd_V in_118 in_120 in_121 in_112 in_119) rfl rfl rfl (by decide +kernel) ⟨Nat.le_of_ble_eq_true rfl, Nat.le_of_ble_eq_true rfl⟩) ⟨fun a U g mk q => by obtain ⟨q0, qN, qZ, qP, qK⟩ := q; exact ⟨q0, x_N.same rfl qN, x_Z.moved (u := U) (U := U.calling g mk a) (Vm.Alike.refl U.vm) qZ, qP, va_K.moved (u := U) (U := U.calling g mk a) (Vm.Alike.refl U.vm) qK⟩, va_recv hKc hPc (ci := 2) (q0 := 0) rfl rfl, fun U hU hW => ⟨rfl, x_N.warm hW hXN, by rw [hU]; exact x_Z.moved hW.alike hXZ, by rw [hU]; exact hPc, va_K.moved hW.alike hKc⟩⟩ rfl rfl hl.1 rfl (lv_room (Nat.le_of_ble_eq_true rfl)) dVf_take_2 ⟨Nat.le_of_ble_eq_true rfl, Nat.le_of_ble_eq_true rfl⟩) va_S.rf (fun ce q9 H1 hz9 hk9 hS9 hce hcv hcl => vx_out (fun x h => (htab x h).elim) hlocks hce hcv hcl (fun t ht hA9 => ⟨rfl, by rw [ht]; exact hz9, fun q hq => by rw [ht]; exact hk9 q hq⟩) (fun z h => by cases h) (by decide) (by decide))
set_option maxHeartbeats 4000000 in
set_option maxRecDepth 100000 in
/-- clear(z, ..), no fold z -/
theorem k_V_clearN (l : Launch) (hnt : l.stackTraces = false) (dC : Nat → ClassId) (dI : Nat → Nat → Nat) (x xa r : Nat) (cI cQ : ClassId) (ad : Nat → Nat → Nat) (z : Int32) (hfx : s_lk z = 1) : vx_Met l yVf_clear wsVf_clear ({ frames := 9, cells := 1, slots := 6, locals := 180 }) (va_Pc [.ref x, .int z] (fun U => x_N U ∧ x_Z x_0 U U.heap ∧ va_P (dC, dI) vwCl (wV x xa r cQ ad) U.heap ∧ va_K (dC, dI) vwCl [(cI, .int), (cQ, .object RFo)] U)) x_Q (x_F cIO) 1 6 x_0 := by
  refine vx_ofW (cc := cVf_clear) (maxL := 2) (ret := none) (by decide) rfl ?_
  intro p e s m args below meth c s₁ B hml htab hv
  obtain ⟨rfl, hXN, hXZ, hP, hK⟩ := hv
  have hx := B.exec
  have hb := B.bytes
  have hr := B.returns
  have hts0 := atoms_spec (ws := wsVf_clear) B.pre
  have hts := fun (w : Cond) (h : w ∈ lw_g) => hts0 w (List.mem_cons_of_mem _ h)
  have hown : s.vm.findClass RVf = some m.cls := findClass_of_methodNamed B.named
  have hlocks := B.notSynchronized
  have hl := lv_entry ([.ref x, .int z]) (n := 2) (Nat.le_of_ble_eq_true rfl)
  rw [lg_entry_eq]
  generalize (lg_sl ([.ref x, .int z]) ++ List.replicate (2 - (lg_sl ([.ref x, .int z])).length) Slot.unset).toArray = ls at hl ⊢
  have hl : lv_has ls 2 [(0, .ref x), (1, .int z)] := hl
  refine lv_aload_n hx hb dVf_clear_0 rfl (lv_at hl 0 rfl) ?_
  refine lv_iload_n hx hb dVf_clear_1 rfl (lv_at hl 1 rfl) ?_
  have hPc := hP.sub (ws' := (wV x xa r cQ ad)) [0, 1] rfl
  have hKc := hK.sub (tys' := [(cI, .int), (cQ, .object RFo)]) [0, 1] rfl
  exact x_call (A0 := x_0) (H0 := s.heap) (vx_runV (As := [.int z]) (rest := []) ⟨hx, hb, hml, hown, hts⟩ (k_V_foldAtN l hnt dC dI x xa r cI cQ ad z hfx) (cwV 1 hts (gd_V in_118 in_120 in_121 in_112 in_119) rfl rfl rfl (by decide +kernel) ⟨Nat.le_of_ble_eq_true rfl, Nat.le_of_ble_eq_true rfl⟩) ⟨fun a U g mk q => by obtain ⟨q0, qN, qZ, qP, qK⟩ := q; exact ⟨q0, x_N.same rfl qN, x_Z.moved (u := U) (U := U.calling g mk a) (Vm.Alike.refl U.vm) qZ, qP, va_K.moved (u := U) (U := U.calling g mk a) (Vm.Alike.refl U.vm) qK⟩, va_recv hKc hPc (ci := 2) (q0 := 0) rfl rfl, fun U hU hW => ⟨rfl, x_N.warm hW hXN, by rw [hU]; exact x_Z.moved hW.alike hXZ, by rw [hU]; exact hPc, va_K.moved hW.alike hKc⟩⟩ rfl rfl hl.1 rfl (lv_room (Nat.le_of_ble_eq_true rfl)) dVf_clear_2 ⟨Nat.le_of_ble_eq_true rfl, Nat.le_of_ble_eq_true rfl⟩) va_S.rf (fun ce q9 H1 hz9 hk9 hS9 hce hcv hcl => vx_out (fun x h => (htab x h).elim) hlocks hce hcv hcl (fun t ht hA9 => ⟨rfl, by rw [ht]; exact hz9, fun q hq => by rw [ht]; exact hk9 q hq⟩) (fun z h => by cases h) (by decide) (by decide))
set_option maxHeartbeats 4000000 in
set_option maxRecDepth 100000 in
/-- value(z, ..), no fold z -/
theorem k_V_valueN (l : Launch) (hnt : l.stackTraces = false) (dC : Nat → ClassId) (dI : Nat → Nat → Nat) (x xa r : Nat) (cI cQ : ClassId) (ad : Nat → Nat → Nat) (z u0 u1 : Int32) (hfx : s_lk z = 1) : vx_Met l yVf_value wsVf_value ({ frames := 9, cells := 1, slots := 6, locals := 180 }) (va_Pc [.ref x, .int z, .int u0, .int u1] (fun U => x_N U ∧ x_Z x_0 U U.heap ∧ va_P (dC, dI) vwCl (wV x xa r cQ ad) U.heap ∧ va_K (dC, dI) vwCl [(cI, .int), (cQ, .object RFo)] U)) x_Q (x_F cIO) 1 6 x_0 := by
  refine vx_ofW (cc := cVf_value) (maxL := 5) (ret := (some .int)) (by decide) rfl ?_
  intro p e s m args below meth c s₁ B hml htab hv
  obtain ⟨rfl, hXN, hXZ, hP, hK⟩ := hv
  have hx := B.exec
  have hb := B.bytes
  have hr := B.returns
  have hts0 := atoms_spec (ws := wsVf_value) B.pre
  have hts := fun (w : Cond) (h : w ∈ lw_g) => hts0 w (List.mem_cons_of_mem _ h)
  have hown : s.vm.findClass RVf = some m.cls := findClass_of_methodNamed B.named
  have hlocks := B.notSynchronized
  have hl := lv_entry ([.ref x, .int z, .int u0, .int u1]) (n := 5) (Nat.le_of_ble_eq_true rfl)
  rw [lg_entry_eq]
  generalize (lg_sl ([.ref x, .int z, .int u0, .int u1]) ++ List.replicate (5 - (lg_sl ([.ref x, .int z, .int u0, .int u1])).length) Slot.unset).toArray = ls at hl ⊢
  have hl : lv_has ls 5 [(0, .ref x), (1, .int z), (2, .int u0), (3, .int u1)] := hl
  refine lv_aload_n hx hb dVf_value_0 rfl (lv_at hl 0 rfl) ?_
  refine lv_iload_n hx hb dVf_value_1 rfl (lv_at hl 1 rfl) ?_
  have hPc := hP.sub (ws' := (wV x xa r cQ ad)) [0, 1] rfl
  have hKc := hK.sub (tys' := [(cI, .int), (cQ, .object RFo)]) [0, 1] rfl
  exact x_call (A0 := x_0) (H0 := s.heap) (vx_runV (As := [.int z]) (rest := []) ⟨hx, hb, hml, hown, hts⟩ (k_V_foldAtN l hnt dC dI x xa r cI cQ ad z hfx) (cwV 1 hts (gd_V in_118 in_120 in_121 in_112 in_119) rfl rfl rfl (by decide +kernel) ⟨Nat.le_of_ble_eq_true rfl, Nat.le_of_ble_eq_true rfl⟩) ⟨fun a U g mk q => by obtain ⟨q0, qN, qZ, qP, qK⟩ := q; exact ⟨q0, x_N.same rfl qN, x_Z.moved (u := U) (U := U.calling g mk a) (Vm.Alike.refl U.vm) qZ, qP, va_K.moved (u := U) (U := U.calling g mk a) (Vm.Alike.refl U.vm) qK⟩, va_recv hKc hPc (ci := 2) (q0 := 0) rfl rfl, fun U hU hW => ⟨rfl, x_N.warm hW hXN, by rw [hU]; exact x_Z.moved hW.alike hXZ, by rw [hU]; exact hPc, va_K.moved hW.alike hKc⟩⟩ rfl rfl hl.1 rfl (lv_room (Nat.le_of_ble_eq_true rfl)) dVf_value_2 ⟨Nat.le_of_ble_eq_true rfl, Nat.le_of_ble_eq_true rfl⟩) va_S.rf (fun ce q9 H1 hz9 hk9 hS9 hce hcv hcl => vx_out (fun x h => (htab x h).elim) hlocks hce hcv hcl (fun t ht hA9 => ⟨rfl, by rw [ht]; exact hz9, fun q hq => by rw [ht]; exact hk9 q hq⟩) (fun z h => by cases h) (by decide) (by decide))
set_option maxHeartbeats 4000000 in
set_option maxRecDepth 100000 in
/-- seq(z, ..), no fold z -/
theorem k_V_seqN (l : Launch) (hnt : l.stackTraces = false) (dC : Nat → ClassId) (dI : Nat → Nat → Nat) (x xa r : Nat) (cI cQ : ClassId) (ad : Nat → Nat → Nat) (z u0 : Int32) (hfx : s_lk z = 1) : vx_Met l yVf_seq wsVf_seq ({ frames := 9, cells := 1, slots := 6, locals := 180 }) (va_Pc [.ref x, .int z, .int u0] (fun U => x_N U ∧ x_Z x_0 U U.heap ∧ va_P (dC, dI) vwCl (wV x xa r cQ ad) U.heap ∧ va_K (dC, dI) vwCl [(cI, .int), (cQ, .object RFo)] U)) x_Q (x_F cIO) 1 6 x_0 := by
  refine vx_ofW (cc := cVf_seq) (maxL := 4) (ret := (some .int)) (by decide) rfl ?_
  intro p e s m args below meth c s₁ B hml htab hv
  obtain ⟨rfl, hXN, hXZ, hP, hK⟩ := hv
  have hx := B.exec
  have hb := B.bytes
  have hr := B.returns
  have hts0 := atoms_spec (ws := wsVf_seq) B.pre
  have hts := fun (w : Cond) (h : w ∈ lw_g) => hts0 w (List.mem_cons_of_mem _ h)
  have hown : s.vm.findClass RVf = some m.cls := findClass_of_methodNamed B.named
  have hlocks := B.notSynchronized
  have hl := lv_entry ([.ref x, .int z, .int u0]) (n := 4) (Nat.le_of_ble_eq_true rfl)
  rw [lg_entry_eq]
  generalize (lg_sl ([.ref x, .int z, .int u0]) ++ List.replicate (4 - (lg_sl ([.ref x, .int z, .int u0])).length) Slot.unset).toArray = ls at hl ⊢
  have hl : lv_has ls 4 [(0, .ref x), (1, .int z), (2, .int u0)] := hl
  refine lv_aload_n hx hb dVf_seq_0 rfl (lv_at hl 0 rfl) ?_
  refine lv_iload_n hx hb dVf_seq_1 rfl (lv_at hl 1 rfl) ?_
  have hPc := hP.sub (ws' := (wV x xa r cQ ad)) [0, 1] rfl
  have hKc := hK.sub (tys' := [(cI, .int), (cQ, .object RFo)]) [0, 1] rfl
  exact x_call (A0 := x_0) (H0 := s.heap) (vx_runV (As := [.int z]) (rest := []) ⟨hx, hb, hml, hown, hts⟩ (k_V_foldAtN l hnt dC dI x xa r cI cQ ad z hfx) (cwV 1 hts (gd_V in_118 in_120 in_121 in_112 in_119) rfl rfl rfl (by decide +kernel) ⟨Nat.le_of_ble_eq_true rfl, Nat.le_of_ble_eq_true rfl⟩) ⟨fun a U g mk q => by obtain ⟨q0, qN, qZ, qP, qK⟩ := q; exact ⟨q0, x_N.same rfl qN, x_Z.moved (u := U) (U := U.calling g mk a) (Vm.Alike.refl U.vm) qZ, qP, va_K.moved (u := U) (U := U.calling g mk a) (Vm.Alike.refl U.vm) qK⟩, va_recv hKc hPc (ci := 2) (q0 := 0) rfl rfl, fun U hU hW => ⟨rfl, x_N.warm hW hXN, by rw [hU]; exact x_Z.moved hW.alike hXZ, by rw [hU]; exact hPc, va_K.moved hW.alike hKc⟩⟩ rfl rfl hl.1 rfl (lv_room (Nat.le_of_ble_eq_true rfl)) dVf_seq_2 ⟨Nat.le_of_ble_eq_true rfl, Nat.le_of_ble_eq_true rfl⟩) va_S.rf (fun ce q9 H1 hz9 hk9 hS9 hce hcv hcl => vx_out (fun x h => (htab x h).elim) hlocks hce hcv hcl (fun t ht hA9 => ⟨rfl, by rw [ht]; exact hz9, fun q hq => by rw [ht]; exact hk9 q hq⟩) (fun z h => by cases h) (by decide) (by decide))
set_option maxHeartbeats 4000000 in
set_option maxRecDepth 100000 in
/-- verdict(z, ..), no fold z -/
theorem k_V_verdictN (l : Launch) (hnt : l.stackTraces = false) (dC : Nat → ClassId) (dI : Nat → Nat → Nat) (x xa r : Nat) (cI cQ : ClassId) (ad : Nat → Nat → Nat) (z u0 : Int32) (hfx : s_lk z = 1) : vx_Met l yVf_verdict wsVf_verdict ({ frames := 9, cells := 1, slots := 6, locals := 180 }) (va_Pc [.ref x, .int z, .int u0] (fun U => x_N U ∧ x_Z x_0 U U.heap ∧ va_P (dC, dI) vwCl (wV x xa r cQ ad) U.heap ∧ va_K (dC, dI) vwCl [(cI, .int), (cQ, .object RFo)] U)) x_Q (x_F cIO) 1 6 x_0 := by
  refine vx_ofW (cc := cVf_verdict) (maxL := 4) (ret := (some .int)) (by decide) rfl ?_
  intro p e s m args below meth c s₁ B hml htab hv
  obtain ⟨rfl, hXN, hXZ, hP, hK⟩ := hv
  have hx := B.exec
  have hb := B.bytes
  have hr := B.returns
  have hts0 := atoms_spec (ws := wsVf_verdict) B.pre
  have hts := fun (w : Cond) (h : w ∈ lw_g) => hts0 w (List.mem_cons_of_mem _ h)
  have hown : s.vm.findClass RVf = some m.cls := findClass_of_methodNamed B.named
  have hlocks := B.notSynchronized
  have hl := lv_entry ([.ref x, .int z, .int u0]) (n := 4) (Nat.le_of_ble_eq_true rfl)
  rw [lg_entry_eq]
  generalize (lg_sl ([.ref x, .int z, .int u0]) ++ List.replicate (4 - (lg_sl ([.ref x, .int z, .int u0])).length) Slot.unset).toArray = ls at hl ⊢
  have hl : lv_has ls 4 [(0, .ref x), (1, .int z), (2, .int u0)] := hl
  refine lv_aload_n hx hb dVf_verdict_0 rfl (lv_at hl 0 rfl) ?_
  refine lv_iload_n hx hb dVf_verdict_1 rfl (lv_at hl 1 rfl) ?_
  have hPc := hP.sub (ws' := (wV x xa r cQ ad)) [0, 1] rfl
  have hKc := hK.sub (tys' := [(cI, .int), (cQ, .object RFo)]) [0, 1] rfl
  exact x_call (A0 := x_0) (H0 := s.heap) (vx_runV (As := [.int z]) (rest := []) ⟨hx, hb, hml, hown, hts⟩ (k_V_foldAtN l hnt dC dI x xa r cI cQ ad z hfx) (cwV 1 hts (gd_V in_118 in_120 in_121 in_112 in_119) rfl rfl rfl (by decide +kernel) ⟨Nat.le_of_ble_eq_true rfl, Nat.le_of_ble_eq_true rfl⟩) ⟨fun a U g mk q => by obtain ⟨q0, qN, qZ, qP, qK⟩ := q; exact ⟨q0, x_N.same rfl qN, x_Z.moved (u := U) (U := U.calling g mk a) (Vm.Alike.refl U.vm) qZ, qP, va_K.moved (u := U) (U := U.calling g mk a) (Vm.Alike.refl U.vm) qK⟩, va_recv hKc hPc (ci := 2) (q0 := 0) rfl rfl, fun U hU hW => ⟨rfl, x_N.warm hW hXN, by rw [hU]; exact x_Z.moved hW.alike hXZ, by rw [hU]; exact hPc, va_K.moved hW.alike hKc⟩⟩ rfl rfl hl.1 rfl (lv_room (Nat.le_of_ble_eq_true rfl)) dVf_verdict_2 ⟨Nat.le_of_ble_eq_true rfl, Nat.le_of_ble_eq_true rfl⟩) va_S.rf (fun ce q9 H1 hz9 hk9 hS9 hce hcv hcl => vx_out (fun x h => (htab x h).elim) hlocks hce hcv hcl (fun t ht hA9 => ⟨rfl, by rw [ht]; exact hz9, fun q hq => by rw [ht]; exact hk9 q hq⟩) (fun z h => by cases h) (by decide) (by decide))
set_option maxHeartbeats 4000000 in
set_option maxRecDepth 100000 in
/-- written(z, ..), no fold z -/
theorem k_V_writtenN (l : Launch) (hnt : l.stackTraces = false) (dC : Nat → ClassId) (dI : Nat → Nat → Nat) (x xa r : Nat) (cI cQ : ClassId) (ad : Nat → Nat → Nat) (z u0 : Int32) (hfx : s_lk z = 1) : vx_Met l yVf_written wsVf_written ({ frames := 9, cells := 1, slots := 6, locals := 180 }) (va_Pc [.ref x, .int z, .int u0] (fun U => x_N U ∧ x_Z x_0 U U.heap ∧ va_P (dC, dI) vwCl (wV x xa r cQ ad) U.heap ∧ va_K (dC, dI) vwCl [(cI, .int), (cQ, .object RFo)] U)) x_Q (x_F cIO) 1 6 x_0 := by
  refine vx_ofW (cc := cVf_written) (maxL := 4) (ret := (some .int)) (by decide) rfl ?_
  intro p e s m args below meth c s₁ B hml htab hv
  obtain ⟨rfl, hXN, hXZ, hP, hK⟩ := hv
  have hx := B.exec
  have hb := B.bytes
  have hr := B.returns
  have hts0 := atoms_spec (ws := wsVf_written) B.pre
  have hts := fun (w : Cond) (h : w ∈ lw_g) => hts0 w (List.mem_cons_of_mem _ h)
  have hown : s.vm.findClass RVf = some m.cls := findClass_of_methodNamed B.named
  have hlocks := B.notSynchronized
  have hl := lv_entry ([.ref x, .int z, .int u0]) (n := 4) (Nat.le_of_ble_eq_true rfl)
  rw [lg_entry_eq]
  generalize (lg_sl ([.ref x, .int z, .int u0]) ++ List.replicate (4 - (lg_sl ([.ref x, .int z, .int u0])).length) Slot.unset).toArray = ls at hl ⊢
  have hl : lv_has ls 4 [(0, .ref x), (1, .int z), (2, .int u0)] := hl
  refine lv_aload_n hx hb dVf_written_0 rfl (lv_at hl 0 rfl) ?_
  refine lv_iload_n hx hb dVf_written_1 rfl (lv_at hl 1 rfl) ?_
  have hPc := hP.sub (ws' := (wV x xa r cQ ad)) [0, 1] rfl
  have hKc := hK.sub (tys' := [(cI, .int), (cQ, .object RFo)]) [0, 1] rfl
  exact x_call (A0 := x_0) (H0 := s.heap) (vx_runV (As := [.int z]) (rest := []) ⟨hx, hb, hml, hown, hts⟩ (k_V_foldAtN l hnt dC dI x xa r cI cQ ad z hfx) (cwV 1 hts (gd_V in_118 in_120 in_121 in_112 in_119) rfl rfl rfl (by decide +kernel) ⟨Nat.le_of_ble_eq_true rfl, Nat.le_of_ble_eq_true rfl⟩) ⟨fun a U g mk q => by obtain ⟨q0, qN, qZ, qP, qK⟩ := q; exact ⟨q0, x_N.same rfl qN, x_Z.moved (u := U) (U := U.calling g mk a) (Vm.Alike.refl U.vm) qZ, qP, va_K.moved (u := U) (U := U.calling g mk a) (Vm.Alike.refl U.vm) qK⟩, va_recv hKc hPc (ci := 2) (q0 := 0) rfl rfl, fun U hU hW => ⟨rfl, x_N.warm hW hXN, by rw [hU]; exact x_Z.moved hW.alike hXZ, by rw [hU]; exact hPc, va_K.moved hW.alike hKc⟩⟩ rfl rfl hl.1 rfl (lv_room (Nat.le_of_ble_eq_true rfl)) dVf_written_2 ⟨Nat.le_of_ble_eq_true rfl, Nat.le_of_ble_eq_true rfl⟩) va_S.rf (fun ce q9 H1 hz9 hk9 hS9 hce hcv hcl => vx_out (fun x h => (htab x h).elim) hlocks hce hcv hcl (fun t ht hA9 => ⟨rfl, by rw [ht]; exact hz9, fun q hq => by rw [ht]; exact hk9 q hq⟩) (fun z h => by cases h) (by decide) (by decide))
set_option maxHeartbeats 4000000 in
set_option maxRecDepth 100000 in
/-- since(z, ..), no fold z -/
theorem k_V_sinceN (l : Launch) (hnt : l.stackTraces = false) (dC : Nat → ClassId) (dI : Nat → Nat → Nat) (x xa r : Nat) (cI cQ : ClassId) (ad : Nat → Nat → Nat) (z u0 : Int32) (hfx : s_lk z = 1) : vx_Met l yVf_since wsVf_since ({ frames := 9, cells := 1, slots := 6, locals := 180 }) (va_Pc [.ref x, .int z, .int u0] (fun U => x_N U ∧ x_Z x_0 U U.heap ∧ va_P (dC, dI) vwCl (wV x xa r cQ ad) U.heap ∧ va_K (dC, dI) vwCl [(cI, .int), (cQ, .object RFo)] U)) x_Q (x_F cIO) 1 6 x_0 := by
  refine vx_ofW (cc := cVf_since) (maxL := 4) (ret := (some .int)) (by decide) rfl ?_
  intro p e s m args below meth c s₁ B hml htab hv
  obtain ⟨rfl, hXN, hXZ, hP, hK⟩ := hv
  have hx := B.exec
  have hb := B.bytes
  have hr := B.returns
  have hts0 := atoms_spec (ws := wsVf_since) B.pre
  have hts := fun (w : Cond) (h : w ∈ lw_g) => hts0 w (List.mem_cons_of_mem _ h)
  have hown : s.vm.findClass RVf = some m.cls := findClass_of_methodNamed B.named
  have hlocks := B.notSynchronized
  have hl := lv_entry ([.ref x, .int z, .int u0]) (n := 4) (Nat.le_of_ble_eq_true rfl)
  rw [lg_entry_eq]
  generalize (lg_sl ([.ref x, .int z, .int u0]) ++ List.replicate (4 - (lg_sl ([.ref x, .int z, .int u0])).length) Slot.unset).toArray = ls at hl ⊢
  have hl : lv_has ls 4 [(0, .ref x), (1, .int z), (2, .int u0)] := hl
  refine lv_aload_n hx hb dVf_since_0 rfl (lv_at hl 0 rfl) ?_
  refine lv_iload_n hx hb dVf_since_1 rfl (lv_at hl 1 rfl) ?_
  have hPc := hP.sub (ws' := (wV x xa r cQ ad)) [0, 1] rfl
  have hKc := hK.sub (tys' := [(cI, .int), (cQ, .object RFo)]) [0, 1] rfl
  exact x_call (A0 := x_0) (H0 := s.heap) (vx_runV (As := [.int z]) (rest := []) ⟨hx, hb, hml, hown, hts⟩ (k_V_foldAtN l hnt dC dI x xa r cI cQ ad z hfx) (cwV 1 hts (gd_V in_118 in_120 in_121 in_112 in_119) rfl rfl rfl (by decide +kernel) ⟨Nat.le_of_ble_eq_true rfl, Nat.le_of_ble_eq_true rfl⟩) ⟨fun a U g mk q => by obtain ⟨q0, qN, qZ, qP, qK⟩ := q; exact ⟨q0, x_N.same rfl qN, x_Z.moved (u := U) (U := U.calling g mk a) (Vm.Alike.refl U.vm) qZ, qP, va_K.moved (u := U) (U := U.calling g mk a) (Vm.Alike.refl U.vm) qK⟩, va_recv hKc hPc (ci := 2) (q0 := 0) rfl rfl, fun U hU hW => ⟨rfl, x_N.warm hW hXN, by rw [hU]; exact x_Z.moved hW.alike hXZ, by rw [hU]; exact hPc, va_K.moved hW.alike hKc⟩⟩ rfl rfl hl.1 rfl (lv_room (Nat.le_of_ble_eq_true rfl)) dVf_since_2 ⟨Nat.le_of_ble_eq_true rfl, Nat.le_of_ble_eq_true rfl⟩) va_S.rf (fun ce q9 H1 hz9 hk9 hS9 hce hcv hcl => vx_out (fun x h => (htab x h).elim) hlocks hce hcv hcl (fun t ht hA9 => ⟨rfl, by rw [ht]; exact hz9, fun q hq => by rw [ht]; exact hk9 q hq⟩) (fun z h => by cases h) (by decide) (by decide))
set_option maxHeartbeats 4000000 in
set_option maxRecDepth 100000 in
/-- same(z, ..), no fold z -/
theorem k_V_sameN (l : Launch) (hnt : l.stackTraces = false) (dC : Nat → ClassId) (dI : Nat → Nat → Nat) (x xa r : Nat) (cI cQ : ClassId) (ad : Nat → Nat → Nat) (z u0 : Int32) (hfx : s_lk z = 1) : vx_Met l yVf_same wsVf_same ({ frames := 9, cells := 1, slots := 6, locals := 180 }) (va_Pc [.ref x, .int z, .int u0] (fun U => x_N U ∧ x_Z x_0 U U.heap ∧ va_P (dC, dI) vwCl (wV x xa r cQ ad) U.heap ∧ va_K (dC, dI) vwCl [(cI, .int), (cQ, .object RFo)] U)) x_Q (x_F cIO) 1 6 x_0 := by
  refine vx_ofW (cc := cVf_same) (maxL := 5) (ret := (some .boolean)) (by decide) rfl ?_
  intro p e s m args below meth c s₁ B hml htab hv
  obtain ⟨rfl, hXN, hXZ, hP, hK⟩ := hv
  have hx := B.exec
  have hb := B.bytes
  have hr := B.returns
  have hts0 := atoms_spec (ws := wsVf_same) B.pre
  have hts := fun (w : Cond) (h : w ∈ lw_g) => hts0 w (List.mem_cons_of_mem _ h)
  have hown : s.vm.findClass RVf = some m.cls := findClass_of_methodNamed B.named
  have hlocks := B.notSynchronized
  have hl := lv_entry ([.ref x, .int z, .int u0]) (n := 5) (Nat.le_of_ble_eq_true rfl)
  rw [lg_entry_eq]
  generalize (lg_sl ([.ref x, .int z, .int u0]) ++ List.replicate (5 - (lg_sl ([.ref x, .int z, .int u0])).length) Slot.unset).toArray = ls at hl ⊢
  have hl : lv_has ls 5 [(0, .ref x), (1, .int z), (2, .int u0)] := hl
  refine lv_aload_n hx hb dVf_same_0 rfl (lv_at hl 0 rfl) ?_
  refine lv_iload_n hx hb dVf_same_1 rfl (lv_at hl 1 rfl) ?_
  have hPc := hP.sub (ws' := (wV x xa r cQ ad)) [0, 1] rfl
  have hKc := hK.sub (tys' := [(cI, .int), (cQ, .object RFo)]) [0, 1] rfl
  exact x_call (A0 := x_0) (H0 := s.heap) (vx_runV (As := [.int z]) (rest := []) ⟨hx, hb, hml, hown, hts⟩ (k_V_foldAtN l hnt dC dI x xa r cI cQ ad z hfx) (cwV 1 hts (gd_V in_118 in_120 in_121 in_112 in_119) rfl rfl rfl (by decide +kernel) ⟨Nat.le_of_ble_eq_true rfl, Nat.le_of_ble_eq_true rfl⟩) ⟨fun a U g mk q => by obtain ⟨q0, qN, qZ, qP, qK⟩ := q; exact ⟨q0, x_N.same rfl qN, x_Z.moved (u := U) (U := U.calling g mk a) (Vm.Alike.refl U.vm) qZ, qP, va_K.moved (u := U) (U := U.calling g mk a) (Vm.Alike.refl U.vm) qK⟩, va_recv hKc hPc (ci := 2) (q0 := 0) rfl rfl, fun U hU hW => ⟨rfl, x_N.warm hW hXN, by rw [hU]; exact x_Z.moved hW.alike hXZ, by rw [hU]; exact hPc, va_K.moved hW.alike hKc⟩⟩ rfl rfl hl.1 rfl (lv_room (Nat.le_of_ble_eq_true rfl)) dVf_same_2 ⟨Nat.le_of_ble_eq_true rfl, Nat.le_of_ble_eq_true rfl⟩) va_S.rf (fun ce q9 H1 hz9 hk9 hS9 hce hcv hcl => vx_out (fun x h => (htab x h).elim) hlocks hce hcv hcl (fun t ht hA9 => ⟨rfl, by rw [ht]; exact hz9, fun q hq => by rw [ht]; exact hk9 q hq⟩) (fun z h => by cases h) (by decide) (by decide))
set_option maxHeartbeats 4000000 in
set_option maxRecDepth 100000 in
/-- look(z, ..), no fold z -/
theorem k_V_lookN (l : Launch) (hnt : l.stackTraces = false) (dC : Nat → ClassId) (dI : Nat → Nat → Nat) (x xa r : Nat) (cI cQ : ClassId) (ad : Nat → Nat → Nat) (z u0 : Int32) (hfx : s_lk z = 1) : vx_Met l yVf_look wsVf_look ({ frames := 9, cells := 1, slots := 6, locals := 180 }) (va_Pc [.ref x, .int z, .int u0] (fun U => x_N U ∧ x_Z x_0 U U.heap ∧ va_P (dC, dI) vwCl (wV x xa r cQ ad) U.heap ∧ va_K (dC, dI) vwCl [(cI, .int), (cQ, .object RFo)] U)) x_Q (x_F cIO) 1 6 x_0 := by
  refine vx_ofW (cc := cVf_look) (maxL := 4) (ret := (some .int)) (by decide) rfl ?_
  intro p e s m args below meth c s₁ B hml htab hv
  obtain ⟨rfl, hXN, hXZ, hP, hK⟩ := hv
  have hx := B.exec
  have hb := B.bytes
  have hr := B.returns
  have hts0 := atoms_spec (ws := wsVf_look) B.pre
  have hts := fun (w : Cond) (h : w ∈ lw_g) => hts0 w (List.mem_cons_of_mem _ h)
  have hown : s.vm.findClass RVf = some m.cls := findClass_of_methodNamed B.named
  have hlocks := B.notSynchronized
  have hl := lv_entry ([.ref x, .int z, .int u0]) (n := 4) (Nat.le_of_ble_eq_true rfl)
  rw [lg_entry_eq]
  generalize (lg_sl ([.ref x, .int z, .int u0]) ++ List.replicate (4 - (lg_sl ([.ref x, .int z, .int u0])).length) Slot.unset).toArray = ls at hl ⊢
  have hl : lv_has ls 4 [(0, .ref x), (1, .int z), (2, .int u0)] := hl
  refine lv_aload_n hx hb dVf_look_0 rfl (lv_at hl 0 rfl) ?_
  refine lv_iload_n hx hb dVf_look_1 rfl (lv_at hl 1 rfl) ?_
  have hPc := hP.sub (ws' := (wV x xa r cQ ad)) [0, 1] rfl
  have hKc := hK.sub (tys' := [(cI, .int), (cQ, .object RFo)]) [0, 1] rfl
  exact x_call (A0 := x_0) (H0 := s.heap) (vx_runV (As := [.int z]) (rest := []) ⟨hx, hb, hml, hown, hts⟩ (k_V_foldAtN l hnt dC dI x xa r cI cQ ad z hfx) (cwV 1 hts (gd_V in_118 in_120 in_121 in_112 in_119) rfl rfl rfl (by decide +kernel) ⟨Nat.le_of_ble_eq_true rfl, Nat.le_of_ble_eq_true rfl⟩) ⟨fun a U g mk q => by obtain ⟨q0, qN, qZ, qP, qK⟩ := q; exact ⟨q0, x_N.same rfl qN, x_Z.moved (u := U) (U := U.calling g mk a) (Vm.Alike.refl U.vm) qZ, qP, va_K.moved (u := U) (U := U.calling g mk a) (Vm.Alike.refl U.vm) qK⟩, va_recv hKc hPc (ci := 2) (q0 := 0) rfl rfl, fun U hU hW => ⟨rfl, x_N.warm hW hXN, by rw [hU]; exact x_Z.moved hW.alike hXZ, by rw [hU]; exact hPc, va_K.moved hW.alike hKc⟩⟩ rfl rfl hl.1 rfl (lv_room (Nat.le_of_ble_eq_true rfl)) dVf_look_2 ⟨Nat.le_of_ble_eq_true rfl, Nat.le_of_ble_eq_true rfl⟩) va_S.rf (fun ce q9 H1 hz9 hk9 hS9 hce hcv hcl => vx_out (fun x h => (htab x h).elim) hlocks hce hcv hcl (fun t ht hA9 => ⟨rfl, by rw [ht]; exact hz9, fun q hq => by rw [ht]; exact hk9 q hq⟩) (fun z h => by cases h) (by decide) (by decide))
set_option maxHeartbeats 4000000 in
set_option maxRecDepth 100000 in
/-- take(k, z), no fold z -/
theorem k_V_takeN2 (l : Launch) (hnt : l.stackTraces = false) (dC : Nat → ClassId) (dI : Nat → Nat → Nat) (x xa r : Nat) (cI cQ : ClassId) (ad : Nat → Nat → Nat) (k : Nat) (hk4 : k < 4) (z : Int32) (hfx : s_lk z = 1) : vx_Met l yVf_take wsVf_take ({ frames := 9, cells := 1, slots := 6, locals := 180 }) (va_Pc [.ref x, .int (nI k), .int z] (fun U => x_N U ∧ x_Z x_0 U U.heap ∧ va_P (dC, dI) vwCl (wV x xa r cQ ad) U.heap ∧ va_K (dC, dI) vwCl [(cI, .int), (cQ, .object RFo)] U)) x_Q (x_F cIO) 1 6 x_0 := by
  refine vx_ofW (cc := cVf_take) (maxL := 5) (ret := (some .boolean)) (by decide) rfl ?_
  intro p e s m args below meth c s₁ B hml htab hv
  obtain ⟨rfl, hXN, hXZ, hP, hK⟩ := hv
  have hx := B.exec
  have hb := B.bytes
  have hr := B.returns
  have hts0 := atoms_spec (ws := wsVf_take) B.pre
  have hts := fun (w : Cond) (h : w ∈ lw_g) => hts0 w (List.mem_cons_of_mem _ h)
  have hown : s.vm.findClass RVf = some m.cls := findClass_of_methodNamed B.named
  have hlocks := B.notSynchronized
  have hl := lv_entry ([.ref x, .int (nI k), .int z]) (n := 5) (Nat.le_of_ble_eq_true rfl)
  rw [lg_entry_eq]
  generalize (lg_sl ([.ref x, .int (nI k), .int z]) ++ List.replicate (5 - (lg_sl ([.ref x, .int (nI k), .int z])).length) Slot.unset).toArray = ls at hl ⊢
  have hl : lv_has ls 5 [(0, .ref x), (1, .int (nI k)), (2, .int z)] := hl
  refine lv_aload_n hx hb dVf_take_0 rfl (lv_at hl 0 rfl) ?_
  refine lv_iload_n hx hb dVf_take_1 rfl (lv_at hl 1 rfl) ?_
  have hPc := hP.sub (ws' := (wV x xa r cQ ad)) [0, 1] rfl
  have hKc := hK.sub (tys' := [(cI, .int), (cQ, .object RFo)]) [0, 1] rfl
  refine va_csr (W.runV (As := [.int (nI k)]) (rest := []) ⟨hx, hb, hml, hown, hts⟩ (k_V_foldAt l dC dI x xa r cI cQ ad k hk4) (cwV 1 hts (gd_V in_118 in_120 in_121 in_112 in_119) rfl rfl rfl (by decide +kernel) ⟨Nat.le_of_ble_eq_true rfl, Nat.le_of_ble_eq_true rfl⟩) ⟨fun a U g mk q => by obtain ⟨q0, qP, qK⟩ := q; exact ⟨q0, qP, va_K.moved (u := U) (U := U.calling g mk a) (Vm.Alike.refl U.vm) qK⟩, va_recv hKc hPc (ci := 2) (q0 := 0) rfl rfl, fun U hU hW => ⟨rfl, by rw [hU]; exact hPc, va_K.moved hW.alike hKc⟩⟩ rfl rfl hl.1 rfl (lv_room (Nat.le_of_ble_eq_true rfl)) dVf_take_2 ⟨Nat.le_of_ble_eq_true rfl, Nat.le_of_ble_eq_true rfl⟩) (fun j_1 ej_2 => ?_)
  rw [ej_2]
  refine lv_astore_n (lv' := [(3, .ref (ad k 0)), (0, .ref x), (1, .int (nI k)), (2, .int z)]) hx hb dVf_take_5 rfl hl (by decide) rfl (fun ls hl => ?_)
  refine lv_aload_n hx hb dVf_take_6 rfl (lv_at hl 1 rfl) ?_
  refine lv_iload_n hx hb dVf_take_7 rfl (lv_at hl 3 rfl) ?_
  have hPc := hP.sub (ws' := (wV x xa r cQ ad)) [0, 1] rfl
  have hKc := hK.sub (tys' := [(cI, .int), (cQ, .object RFo)]) [0, 1] rfl
  exact x_call (A0 := x_0) (H0 := s.heap) (vx_runV (As := [.int z]) (rest := []) ⟨hx, hb, hml, hown, hts⟩ (k_V_foldAtN l hnt dC dI x xa r cI cQ ad z hfx) (cwV 1 hts (gd_V in_118 in_120 in_121 in_112 in_119) rfl rfl rfl (by decide +kernel) ⟨Nat.le_of_ble_eq_true rfl, Nat.le_of_ble_eq_true rfl⟩) ⟨fun a U g mk q => by obtain ⟨q0, qN, qZ, qP, qK⟩ := q; exact ⟨q0, x_N.same rfl qN, x_Z.moved (u := U) (U := U.calling g mk a) (Vm.Alike.refl U.vm) qZ, qP, va_K.moved (u := U) (U := U.calling g mk a) (Vm.Alike.refl U.vm) qK⟩, va_recv hKc hPc (ci := 2) (q0 := 0) rfl rfl, fun U hU hW => ⟨rfl, x_N.warm hW hXN, by rw [hU]; exact x_Z.moved hW.alike hXZ, by rw [hU]; exact hPc, va_K.moved hW.alike hKc⟩⟩ rfl rfl hl.1 rfl (lv_room (Nat.le_of_ble_eq_true rfl)) dVf_take_8 ⟨Nat.le_of_ble_eq_true rfl, Nat.le_of_ble_eq_true rfl⟩) va_S.rf (fun ce q9 H1 hz9 hk9 hS9 hce hcv hcl => vx_out (fun x h => (htab x h).elim) hlocks hce hcv hcl (fun t ht hA9 => ⟨rfl, by rw [ht]; exact hz9, fun q hq => by rw [ht]; exact hk9 q hq⟩) (fun z h => by cases h) (by decide) (by decide))
set_option maxHeartbeats 4000000 in
set_option maxRecDepth 100000 in
/-- same(k, z), no fold z -/
theorem k_V_sameN2 (l : Launch) (hnt : l.stackTraces = false) (dC : Nat → ClassId) (dI : Nat → Nat → Nat) (x xa r : Nat) (cI cQ : ClassId) (ad : Nat → Nat → Nat) (k : Nat) (hk4 : k < 4) (z : Int32) (hfx : s_lk z = 1) : vx_Met l yVf_same wsVf_same ({ frames := 9, cells := 1, slots := 6, locals := 180 }) (va_Pc [.ref x, .int (nI k), .int z] (fun U => x_N U ∧ x_Z x_0 U U.heap ∧ va_P (dC, dI) vwCl (wV x xa r cQ ad) U.heap ∧ va_K (dC, dI) vwCl [(cI, .int), (cQ, .object RFo)] U)) x_Q (x_F cIO) 1 6 x_0 := by
  refine vx_ofW (cc := cVf_same) (maxL := 5) (ret := (some .boolean)) (by decide) rfl ?_
  intro p e s m args below meth c s₁ B hml htab hv
  obtain ⟨rfl, hXN, hXZ, hP, hK⟩ := hv
  have hx := B.exec
  have hb := B.bytes
  have hr := B.returns
  have hts0 := atoms_spec (ws := wsVf_same) B.pre
  have hts := fun (w : Cond) (h : w ∈ lw_g) => hts0 w (List.mem_cons_of_mem _ h)
  have hown : s.vm.findClass RVf = some m.cls := findClass_of_methodNamed B.named
  have hlocks := B.notSynchronized
  have hl := lv_entry ([.ref x, .int (nI k), .int z]) (n := 5) (Nat.le_of_ble_eq_true rfl)
  rw [lg_entry_eq]
  generalize (lg_sl ([.ref x, .int (nI k), .int z]) ++ List.replicate (5 - (lg_sl ([.ref x, .int (nI k), .int z])).length) Slot.unset).toArray = ls at hl ⊢
  have hl : lv_has ls 5 [(0, .ref x), (1, .int (nI k)), (2, .int z)] := hl
  refine lv_aload_n hx hb dVf_same_0 rfl (lv_at hl 0 rfl) ?_
  refine lv_iload_n hx hb dVf_same_1 rfl (lv_at hl 1 rfl) ?_
  have hPc := hP.sub (ws' := (wV x xa r cQ ad)) [0, 1] rfl
  have hKc := hK.sub (tys' := [(cI, .int), (cQ, .object RFo)]) [0, 1] rfl
  refine va_csr (W.runV (As := [.int (nI k)]) (rest := []) ⟨hx, hb, hml, hown, hts⟩ (k_V_foldAt l dC dI x xa r cI cQ ad k hk4) (cwV 1 hts (gd_V in_118 in_120 in_121 in_112 in_119) rfl rfl rfl (by decide +kernel) ⟨Nat.le_of_ble_eq_true rfl, Nat.le_of_ble_eq_true rfl⟩) ⟨fun a U g mk q => by obtain ⟨q0, qP, qK⟩ := q; exact ⟨q0, qP, va_K.moved (u := U) (U := U.calling g mk a) (Vm.Alike.refl U.vm) qK⟩, va_recv hKc hPc (ci := 2) (q0 := 0) rfl rfl, fun U hU hW => ⟨rfl, by rw [hU]; exact hPc, va_K.moved hW.alike hKc⟩⟩ rfl rfl hl.1 rfl (lv_room (Nat.le_of_ble_eq_true rfl)) dVf_same_2 ⟨Nat.le_of_ble_eq_true rfl, Nat.le_of_ble_eq_true rfl⟩) (fun j_1 ej_2 => ?_)
  rw [ej_2]
  refine lv_astore_n (lv' := [(3, .ref (ad k 0)), (0, .ref x), (1, .int (nI k)), (2, .int z)]) hx hb dVf_same_5 rfl hl (by decide) rfl (fun ls hl => ?_)
  refine lv_aload_n hx hb dVf_same_6 rfl (lv_at hl 1 rfl) ?_
  refine lv_iload_n hx hb dVf_same_7 rfl (lv_at hl 3 rfl) ?_
  have hPc := hP.sub (ws' := (wV x xa r cQ ad)) [0, 1] rfl
  have hKc := hK.sub (tys' := [(cI, .int), (cQ, .object RFo)]) [0, 1] rfl
  exact x_call (A0 := x_0) (H0 := s.heap) (vx_runV (As := [.int z]) (rest := []) ⟨hx, hb, hml, hown, hts⟩ (k_V_foldAtN l hnt dC dI x xa r cI cQ ad z hfx) (cwV 1 hts (gd_V in_118 in_120 in_121 in_112 in_119) rfl rfl rfl (by decide +kernel) ⟨Nat.le_of_ble_eq_true rfl, Nat.le_of_ble_eq_true rfl⟩) ⟨fun a U g mk q => by obtain ⟨q0, qN, qZ, qP, qK⟩ := q; exact ⟨q0, x_N.same rfl qN, x_Z.moved (u := U) (U := U.calling g mk a) (Vm.Alike.refl U.vm) qZ, qP, va_K.moved (u := U) (U := U.calling g mk a) (Vm.Alike.refl U.vm) qK⟩, va_recv hKc hPc (ci := 2) (q0 := 0) rfl rfl, fun U hU hW => ⟨rfl, x_N.warm hW hXN, by rw [hU]; exact x_Z.moved hW.alike hXZ, by rw [hU]; exact hPc, va_K.moved hW.alike hKc⟩⟩ rfl rfl hl.1 rfl (lv_room (Nat.le_of_ble_eq_true rfl)) dVf_same_8 ⟨Nat.le_of_ble_eq_true rfl, Nat.le_of_ble_eq_true rfl⟩) va_S.rf (fun ce q9 H1 hz9 hk9 hS9 hce hcv hcl => vx_out (fun x h => (htab x h).elim) hlocks hce hcv hcl (fun t ht hA9 => ⟨rfl, by rw [ht]; exact hz9, fun q hq => by rw [ht]; exact hk9 q hq⟩) (fun z h => by cases h) (by decide) (by decide))
set_option maxHeartbeats 4000000 in
set_option maxRecDepth 100000 in
/-- seq(k, z), none such -/
theorem k_V_seqB (l : Launch) (hnt : l.stackTraces = false) (dC : Nat → ClassId) (dI : Nat → Nat → Nat) (x xa r : Nat) (cI cQ : ClassId) (ad : Nat → Nat → Nat) (k : Nat) (hk4 : k < 4) (z : Int32) (hz : s_in z = 0) : vx_Met l yVf_seq wsVf_seq ({ frames := 9, cells := 1, slots := 6, locals := 180 }) (va_Pc [.ref x, .int (nI k), .int z] (fun U => x_N U ∧ x_Z x_0 U U.heap ∧ va_P (dC, dI) vwCl (wV x xa r cQ ad) U.heap ∧ va_K (dC, dI) vwCl [(cI, .int), (cQ, .object RFo)] U)) x_Q (x_F cIA) 1 6 x_0 := by
  refine vx_ofW (cc := cVf_seq) (maxL := 4) (ret := (some .int)) (by decide) rfl ?_
  intro p e s m args below meth c s₁ B hml htab hv
  obtain ⟨rfl, hXN, hXZ, hP, hK⟩ := hv
  have hx := B.exec
  have hb := B.bytes
  have hr := B.returns
  have hts0 := atoms_spec (ws := wsVf_seq) B.pre
  have hts := fun (w : Cond) (h : w ∈ lw_g) => hts0 w (List.mem_cons_of_mem _ h)
  have hown : s.vm.findClass RVf = some m.cls := findClass_of_methodNamed B.named
  have hlocks := B.notSynchronized
  have hl := lv_entry ([.ref x, .int (nI k), .int z]) (n := 4) (Nat.le_of_ble_eq_true rfl)
  rw [lg_entry_eq]
  generalize (lg_sl ([.ref x, .int (nI k), .int z]) ++ List.replicate (4 - (lg_sl ([.ref x, .int (nI k), .int z])).length) Slot.unset).toArray = ls at hl ⊢
  have hl : lv_has ls 4 [(0, .ref x), (1, .int (nI k)), (2, .int z)] := hl
  refine lv_aload_n hx hb dVf_seq_0 rfl (lv_at hl 0 rfl) ?_
  refine lv_iload_n hx hb dVf_seq_1 rfl (lv_at hl 1 rfl) ?_
  have hPc := hP.sub (ws' := (wV x xa r cQ ad)) [0, 1] rfl
  have hKc := hK.sub (tys' := [(cI, .int), (cQ, .object RFo)]) [0, 1] rfl
  refine va_csr (W.runV (As := [.int (nI k)]) (rest := []) ⟨hx, hb, hml, hown, hts⟩ (k_V_foldAt l dC dI x xa r cI cQ ad k hk4) (cwV 1 hts (gd_V in_118 in_120 in_121 in_112 in_119) rfl rfl rfl (by decide +kernel) ⟨Nat.le_of_ble_eq_true rfl, Nat.le_of_ble_eq_true rfl⟩) ⟨fun a U g mk q => by obtain ⟨q0, qP, qK⟩ := q; exact ⟨q0, qP, va_K.moved (u := U) (U := U.calling g mk a) (Vm.Alike.refl U.vm) qK⟩, va_recv hKc hPc (ci := 2) (q0 := 0) rfl rfl, fun U hU hW => ⟨rfl, by rw [hU]; exact hPc, va_K.moved hW.alike hKc⟩⟩ rfl rfl hl.1 rfl (lv_room (Nat.le_of_ble_eq_true rfl)) dVf_seq_2 ⟨Nat.le_of_ble_eq_true rfl, Nat.le_of_ble_eq_true rfl⟩) (fun j_1 ej_2 => ?_)
  rw [ej_2]
  refine lv_astore_n (lv' := [(3, .ref (ad k 0)), (0, .ref x), (1, .int (nI k)), (2, .int z)]) hx hb dVf_seq_5 rfl hl (by decide) rfl (fun ls hl => ?_)
  refine lv_iload_n hx hb dVf_seq_6 rfl (lv_at hl 3 rfl) ?_
  exact x_call (A0 := x_0) (H0 := s.heap) (vx_runS (As := [.int z]) (rest := []) ⟨hx, hb, hml, hown, hts⟩ (k_V_requireSessionB l hnt z hz) (va_cwS 1 hts (gd_S in_130 in_132 in_112 in_131) rfl rfl rfl (by decide +kernel) ⟨Nat.le_of_ble_eq_true rfl, Nat.le_of_ble_eq_true rfl⟩) ⟨fun a U g mk q => by obtain ⟨q0, qN, qZ⟩ := q; exact ⟨q0, x_N.same rfl qN, x_Z.moved (u := U) (U := U.calling g mk a) (Vm.Alike.refl U.vm) qZ⟩, fun U hU hW => ⟨rfl, x_N.warm hW hXN, by rw [hU]; exact x_Z.moved hW.alike hXZ⟩⟩ rfl rfl hl.1 rfl (lv_room (Nat.le_of_ble_eq_true rfl)) dVf_seq_7 ⟨Nat.le_of_ble_eq_true rfl, Nat.le_of_ble_eq_true rfl⟩) va_S.rf (fun ce q9 H1 hz9 hk9 hS9 hce hcv hcl => vx_out (fun x h => (htab x h).elim) hlocks hce hcv hcl (fun t ht hA9 => ⟨rfl, by rw [ht]; exact hz9, fun q hq => by rw [ht]; exact hk9 q hq⟩) (fun z h => by cases h) (by decide) (by decide))
set_option maxHeartbeats 4000000 in
set_option maxRecDepth 100000 in
/-- verdict(k, z), none such -/
theorem k_V_verdictB (l : Launch) (hnt : l.stackTraces = false) (dC : Nat → ClassId) (dI : Nat → Nat → Nat) (x xa r : Nat) (cI cQ : ClassId) (ad : Nat → Nat → Nat) (k : Nat) (hk4 : k < 4) (z : Int32) (hz : s_in z = 0) : vx_Met l yVf_verdict wsVf_verdict ({ frames := 9, cells := 1, slots := 6, locals := 180 }) (va_Pc [.ref x, .int (nI k), .int z] (fun U => x_N U ∧ x_Z x_0 U U.heap ∧ va_P (dC, dI) vwCl (wV x xa r cQ ad) U.heap ∧ va_K (dC, dI) vwCl [(cI, .int), (cQ, .object RFo)] U)) x_Q (x_F cIA) 1 6 x_0 := by
  refine vx_ofW (cc := cVf_verdict) (maxL := 4) (ret := (some .int)) (by decide) rfl ?_
  intro p e s m args below meth c s₁ B hml htab hv
  obtain ⟨rfl, hXN, hXZ, hP, hK⟩ := hv
  have hx := B.exec
  have hb := B.bytes
  have hr := B.returns
  have hts0 := atoms_spec (ws := wsVf_verdict) B.pre
  have hts := fun (w : Cond) (h : w ∈ lw_g) => hts0 w (List.mem_cons_of_mem _ h)
  have hown : s.vm.findClass RVf = some m.cls := findClass_of_methodNamed B.named
  have hlocks := B.notSynchronized
  have hl := lv_entry ([.ref x, .int (nI k), .int z]) (n := 4) (Nat.le_of_ble_eq_true rfl)
  rw [lg_entry_eq]
  generalize (lg_sl ([.ref x, .int (nI k), .int z]) ++ List.replicate (4 - (lg_sl ([.ref x, .int (nI k), .int z])).length) Slot.unset).toArray = ls at hl ⊢
  have hl : lv_has ls 4 [(0, .ref x), (1, .int (nI k)), (2, .int z)] := hl
  refine lv_aload_n hx hb dVf_verdict_0 rfl (lv_at hl 0 rfl) ?_
  refine lv_iload_n hx hb dVf_verdict_1 rfl (lv_at hl 1 rfl) ?_
  have hPc := hP.sub (ws' := (wV x xa r cQ ad)) [0, 1] rfl
  have hKc := hK.sub (tys' := [(cI, .int), (cQ, .object RFo)]) [0, 1] rfl
  refine va_csr (W.runV (As := [.int (nI k)]) (rest := []) ⟨hx, hb, hml, hown, hts⟩ (k_V_foldAt l dC dI x xa r cI cQ ad k hk4) (cwV 1 hts (gd_V in_118 in_120 in_121 in_112 in_119) rfl rfl rfl (by decide +kernel) ⟨Nat.le_of_ble_eq_true rfl, Nat.le_of_ble_eq_true rfl⟩) ⟨fun a U g mk q => by obtain ⟨q0, qP, qK⟩ := q; exact ⟨q0, qP, va_K.moved (u := U) (U := U.calling g mk a) (Vm.Alike.refl U.vm) qK⟩, va_recv hKc hPc (ci := 2) (q0 := 0) rfl rfl, fun U hU hW => ⟨rfl, by rw [hU]; exact hPc, va_K.moved hW.alike hKc⟩⟩ rfl rfl hl.1 rfl (lv_room (Nat.le_of_ble_eq_true rfl)) dVf_verdict_2 ⟨Nat.le_of_ble_eq_true rfl, Nat.le_of_ble_eq_true rfl⟩) (fun j_1 ej_2 => ?_)
  rw [ej_2]
  refine lv_astore_n (lv' := [(3, .ref (ad k 0)), (0, .ref x), (1, .int (nI k)), (2, .int z)]) hx hb dVf_verdict_5 rfl hl (by decide) rfl (fun ls hl => ?_)
  refine lv_iload_n hx hb dVf_verdict_6 rfl (lv_at hl 3 rfl) ?_
  exact x_call (A0 := x_0) (H0 := s.heap) (vx_runS (As := [.int z]) (rest := []) ⟨hx, hb, hml, hown, hts⟩ (k_V_requireSessionB l hnt z hz) (va_cwS 1 hts (gd_S in_130 in_132 in_112 in_131) rfl rfl rfl (by decide +kernel) ⟨Nat.le_of_ble_eq_true rfl, Nat.le_of_ble_eq_true rfl⟩) ⟨fun a U g mk q => by obtain ⟨q0, qN, qZ⟩ := q; exact ⟨q0, x_N.same rfl qN, x_Z.moved (u := U) (U := U.calling g mk a) (Vm.Alike.refl U.vm) qZ⟩, fun U hU hW => ⟨rfl, x_N.warm hW hXN, by rw [hU]; exact x_Z.moved hW.alike hXZ⟩⟩ rfl rfl hl.1 rfl (lv_room (Nat.le_of_ble_eq_true rfl)) dVf_verdict_7 ⟨Nat.le_of_ble_eq_true rfl, Nat.le_of_ble_eq_true rfl⟩) va_S.rf (fun ce q9 H1 hz9 hk9 hS9 hce hcv hcl => vx_out (fun x h => (htab x h).elim) hlocks hce hcv hcl (fun t ht hA9 => ⟨rfl, by rw [ht]; exact hz9, fun q hq => by rw [ht]; exact hk9 q hq⟩) (fun z h => by cases h) (by decide) (by decide))
set_option maxHeartbeats 4000000 in
set_option maxRecDepth 100000 in
/-- written(k, z), none such -/
theorem k_V_writtenB (l : Launch) (hnt : l.stackTraces = false) (dC : Nat → ClassId) (dI : Nat → Nat → Nat) (x xa r : Nat) (cI cQ : ClassId) (ad : Nat → Nat → Nat) (k : Nat) (hk4 : k < 4) (z : Int32) (hz : s_in z = 0) : vx_Met l yVf_written wsVf_written ({ frames := 9, cells := 1, slots := 6, locals := 180 }) (va_Pc [.ref x, .int (nI k), .int z] (fun U => x_N U ∧ x_Z x_0 U U.heap ∧ va_P (dC, dI) vwCl (wV x xa r cQ ad) U.heap ∧ va_K (dC, dI) vwCl [(cI, .int), (cQ, .object RFo)] U)) x_Q (x_F cIA) 1 6 x_0 := by
  refine vx_ofW (cc := cVf_written) (maxL := 4) (ret := (some .int)) (by decide) rfl ?_
  intro p e s m args below meth c s₁ B hml htab hv
  obtain ⟨rfl, hXN, hXZ, hP, hK⟩ := hv
  have hx := B.exec
  have hb := B.bytes
  have hr := B.returns
  have hts0 := atoms_spec (ws := wsVf_written) B.pre
  have hts := fun (w : Cond) (h : w ∈ lw_g) => hts0 w (List.mem_cons_of_mem _ h)
  have hown : s.vm.findClass RVf = some m.cls := findClass_of_methodNamed B.named
  have hlocks := B.notSynchronized
  have hl := lv_entry ([.ref x, .int (nI k), .int z]) (n := 4) (Nat.le_of_ble_eq_true rfl)
  rw [lg_entry_eq]
  generalize (lg_sl ([.ref x, .int (nI k), .int z]) ++ List.replicate (4 - (lg_sl ([.ref x, .int (nI k), .int z])).length) Slot.unset).toArray = ls at hl ⊢
  have hl : lv_has ls 4 [(0, .ref x), (1, .int (nI k)), (2, .int z)] := hl
  refine lv_aload_n hx hb dVf_written_0 rfl (lv_at hl 0 rfl) ?_
  refine lv_iload_n hx hb dVf_written_1 rfl (lv_at hl 1 rfl) ?_
  have hPc := hP.sub (ws' := (wV x xa r cQ ad)) [0, 1] rfl
  have hKc := hK.sub (tys' := [(cI, .int), (cQ, .object RFo)]) [0, 1] rfl
  refine va_csr (W.runV (As := [.int (nI k)]) (rest := []) ⟨hx, hb, hml, hown, hts⟩ (k_V_foldAt l dC dI x xa r cI cQ ad k hk4) (cwV 1 hts (gd_V in_118 in_120 in_121 in_112 in_119) rfl rfl rfl (by decide +kernel) ⟨Nat.le_of_ble_eq_true rfl, Nat.le_of_ble_eq_true rfl⟩) ⟨fun a U g mk q => by obtain ⟨q0, qP, qK⟩ := q; exact ⟨q0, qP, va_K.moved (u := U) (U := U.calling g mk a) (Vm.Alike.refl U.vm) qK⟩, va_recv hKc hPc (ci := 2) (q0 := 0) rfl rfl, fun U hU hW => ⟨rfl, by rw [hU]; exact hPc, va_K.moved hW.alike hKc⟩⟩ rfl rfl hl.1 rfl (lv_room (Nat.le_of_ble_eq_true rfl)) dVf_written_2 ⟨Nat.le_of_ble_eq_true rfl, Nat.le_of_ble_eq_true rfl⟩) (fun j_1 ej_2 => ?_)
  rw [ej_2]
  refine lv_astore_n (lv' := [(3, .ref (ad k 0)), (0, .ref x), (1, .int (nI k)), (2, .int z)]) hx hb dVf_written_5 rfl hl (by decide) rfl (fun ls hl => ?_)
  refine lv_iload_n hx hb dVf_written_6 rfl (lv_at hl 3 rfl) ?_
  exact x_call (A0 := x_0) (H0 := s.heap) (vx_runS (As := [.int z]) (rest := []) ⟨hx, hb, hml, hown, hts⟩ (k_V_requireKeyB l hnt z hz) (va_cwS 1 hts (gd_S in_124 in_126 in_112 in_125) rfl rfl rfl (by decide +kernel) ⟨Nat.le_of_ble_eq_true rfl, Nat.le_of_ble_eq_true rfl⟩) ⟨fun a U g mk q => by obtain ⟨q0, qN, qZ⟩ := q; exact ⟨q0, x_N.same rfl qN, x_Z.moved (u := U) (U := U.calling g mk a) (Vm.Alike.refl U.vm) qZ⟩, fun U hU hW => ⟨rfl, x_N.warm hW hXN, by rw [hU]; exact x_Z.moved hW.alike hXZ⟩⟩ rfl rfl hl.1 rfl (lv_room (Nat.le_of_ble_eq_true rfl)) dVf_written_7 ⟨Nat.le_of_ble_eq_true rfl, Nat.le_of_ble_eq_true rfl⟩) va_S.rf (fun ce q9 H1 hz9 hk9 hS9 hce hcv hcl => vx_out (fun x h => (htab x h).elim) hlocks hce hcv hcl (fun t ht hA9 => ⟨rfl, by rw [ht]; exact hz9, fun q hq => by rw [ht]; exact hk9 q hq⟩) (fun z h => by cases h) (by decide) (by decide))
set_option maxHeartbeats 4000000 in
set_option maxRecDepth 100000 in
/-- value(k, z), none such -/
theorem k_V_valueB (l : Launch) (hnt : l.stackTraces = false) (dC : Nat → ClassId) (dI : Nat → Nat → Nat) (x xa r : Nat) (cI cQ : ClassId) (ad : Nat → Nat → Nat) (k : Nat) (hk4 : k < 4) (z u0 : Int32) (hz : s_in z = 0) : vx_Met l yVf_value wsVf_value ({ frames := 9, cells := 1, slots := 6, locals := 180 }) (va_Pc [.ref x, .int (nI k), .int z, .int u0] (fun U => x_N U ∧ x_Z x_0 U U.heap ∧ va_P (dC, dI) vwCl (wV x xa r cQ ad) U.heap ∧ va_K (dC, dI) vwCl [(cI, .int), (cQ, .object RFo)] U)) x_Q (x_F cIA) 1 6 x_0 := by
  refine vx_ofW (cc := cVf_value) (maxL := 5) (ret := (some .int)) (by decide) rfl ?_
  intro p e s m args below meth c s₁ B hml htab hv
  obtain ⟨rfl, hXN, hXZ, hP, hK⟩ := hv
  have hx := B.exec
  have hb := B.bytes
  have hr := B.returns
  have hts0 := atoms_spec (ws := wsVf_value) B.pre
  have hts := fun (w : Cond) (h : w ∈ lw_g) => hts0 w (List.mem_cons_of_mem _ h)
  have hown : s.vm.findClass RVf = some m.cls := findClass_of_methodNamed B.named
  have hlocks := B.notSynchronized
  have hl := lv_entry ([.ref x, .int (nI k), .int z, .int u0]) (n := 5) (Nat.le_of_ble_eq_true rfl)
  rw [lg_entry_eq]
  generalize (lg_sl ([.ref x, .int (nI k), .int z, .int u0]) ++ List.replicate (5 - (lg_sl ([.ref x, .int (nI k), .int z, .int u0])).length) Slot.unset).toArray = ls at hl ⊢
  have hl : lv_has ls 5 [(0, .ref x), (1, .int (nI k)), (2, .int z), (3, .int u0)] := hl
  refine lv_aload_n hx hb dVf_value_0 rfl (lv_at hl 0 rfl) ?_
  refine lv_iload_n hx hb dVf_value_1 rfl (lv_at hl 1 rfl) ?_
  have hPc := hP.sub (ws' := (wV x xa r cQ ad)) [0, 1] rfl
  have hKc := hK.sub (tys' := [(cI, .int), (cQ, .object RFo)]) [0, 1] rfl
  refine va_csr (W.runV (As := [.int (nI k)]) (rest := []) ⟨hx, hb, hml, hown, hts⟩ (k_V_foldAt l dC dI x xa r cI cQ ad k hk4) (cwV 1 hts (gd_V in_118 in_120 in_121 in_112 in_119) rfl rfl rfl (by decide +kernel) ⟨Nat.le_of_ble_eq_true rfl, Nat.le_of_ble_eq_true rfl⟩) ⟨fun a U g mk q => by obtain ⟨q0, qP, qK⟩ := q; exact ⟨q0, qP, va_K.moved (u := U) (U := U.calling g mk a) (Vm.Alike.refl U.vm) qK⟩, va_recv hKc hPc (ci := 2) (q0 := 0) rfl rfl, fun U hU hW => ⟨rfl, by rw [hU]; exact hPc, va_K.moved hW.alike hKc⟩⟩ rfl rfl hl.1 rfl (lv_room (Nat.le_of_ble_eq_true rfl)) dVf_value_2 ⟨Nat.le_of_ble_eq_true rfl, Nat.le_of_ble_eq_true rfl⟩) (fun j_1 ej_2 => ?_)
  rw [ej_2]
  refine lv_astore (lv' := [(4, .ref (ad k 0)), (0, .ref x), (1, .int (nI k)), (2, .int z), (3, .int u0)]) hx hb dVf_value_5 hl (by decide) rfl (fun ls hl => ?_)
  refine lv_iload_n hx hb dVf_value_7 rfl (lv_at hl 3 rfl) ?_
  exact x_call (A0 := x_0) (H0 := s.heap) (vx_runS (As := [.int z]) (rest := []) ⟨hx, hb, hml, hown, hts⟩ (k_V_requireKeyB l hnt z hz) (va_cwS 1 hts (gd_S in_124 in_126 in_112 in_125) rfl rfl rfl (by decide +kernel) ⟨Nat.le_of_ble_eq_true rfl, Nat.le_of_ble_eq_true rfl⟩) ⟨fun a U g mk q => by obtain ⟨q0, qN, qZ⟩ := q; exact ⟨q0, x_N.same rfl qN, x_Z.moved (u := U) (U := U.calling g mk a) (Vm.Alike.refl U.vm) qZ⟩, fun U hU hW => ⟨rfl, x_N.warm hW hXN, by rw [hU]; exact x_Z.moved hW.alike hXZ⟩⟩ rfl rfl hl.1 rfl (lv_room (Nat.le_of_ble_eq_true rfl)) dVf_value_8 ⟨Nat.le_of_ble_eq_true rfl, Nat.le_of_ble_eq_true rfl⟩) va_S.rf (fun ce q9 H1 hz9 hk9 hS9 hce hcv hcl => vx_out (fun x h => (htab x h).elim) hlocks hce hcv hcl (fun t ht hA9 => ⟨rfl, by rw [ht]; exact hz9, fun q hq => by rw [ht]; exact hk9 q hq⟩) (fun z h => by cases h) (by decide) (by decide))
set_option maxHeartbeats 4000000 in
set_option maxRecDepth 100000 in
/-- value(k, z, t), no such index -/
theorem k_V_valueR (l : Launch) (hnt : l.stackTraces = false) (dC : Nat → ClassId) (dI : Nat → Nat → Nat) (x xa r : Nat) (cI cQ : ClassId) (ad : Nat → Nat → Nat) (ra : Nat) (k f1 f2 f3 f4 : Nat) (hk4 : k < 4) (fi : Nat → Int32) (fa : Nat → Nat → Int32) (z : Nat) (hz : z < 16) (t0 : Int32) (hbad : t0 < fi 2 ∨ ¬ t0 ≤ fi 1) : vx_Met l yVf_value wsVf_value ({ frames := 9, cells := 1, slots := 6, locals := 180 }) (va_Pc [.ref x, .int (nI k), .int (nI z), .int t0] (fun U => x_N U ∧ x_Z x_0 U U.heap ∧ va_P (dC, dI) vwCl (wV x xa r cQ ad ++ wF (ad k 0) f1 f2 f3 f4 cI fi fa) U.heap ∧ va_K (dC, dI) vwCl [(cI, .int), (cQ, .object RFo)] U)) x_Q (x_F cIA) 1 6 x_0 := by
  refine vx_ofW (cc := cVf_value) (maxL := 5) (ret := (some .int)) (by decide) rfl ?_
  intro p e s m args below meth c s₁ B hml htab hv
  obtain ⟨rfl, hXN, hXZ, hP, hK⟩ := hv
  have hx := B.exec
  have hb := B.bytes
  have hr := B.returns
  have hts0 := atoms_spec (ws := wsVf_value) B.pre
  have hts := fun (w : Cond) (h : w ∈ lw_g) => hts0 w (List.mem_cons_of_mem _ h)
  have hown : s.vm.findClass RVf = some m.cls := findClass_of_methodNamed B.named
  have hlocks := B.notSynchronized
  have hl := lv_entry ([.ref x, .int (nI k), .int (nI z), .int t0]) (n := 5) (Nat.le_of_ble_eq_true rfl)
  rw [lg_entry_eq]
  generalize (lg_sl ([.ref x, .int (nI k), .int (nI z), .int t0]) ++ List.replicate (5 - (lg_sl ([.ref x, .int (nI k), .int (nI z), .int t0])).length) Slot.unset).toArray = ls at hl ⊢
  have hl : lv_has ls 5 [(0, .ref x), (1, .int (nI k)), (2, .int (nI z)), (3, .int t0)] := hl
  refine lv_aload_n hx hb dVf_value_0 rfl (lv_at hl 0 rfl) ?_
  refine lv_iload_n hx hb dVf_value_1 rfl (lv_at hl 1 rfl) ?_
  have hPc := hP.sub (ws' := (wV x xa r cQ ad)) [0, 1] rfl
  have hKc := hK.sub (tys' := [(cI, .int), (cQ, .object RFo)]) [0, 1] rfl
  refine va_csr (W.runV (As := [.int (nI k)]) (rest := []) ⟨hx, hb, hml, hown, hts⟩ (k_V_foldAt l dC dI x xa r cI cQ ad k hk4) (cwV 1 hts (gd_V in_118 in_120 in_121 in_112 in_119) rfl rfl rfl (by decide +kernel) ⟨Nat.le_of_ble_eq_true rfl, Nat.le_of_ble_eq_true rfl⟩) ⟨fun a U g mk q => by obtain ⟨q0, qP, qK⟩ := q; exact ⟨q0, qP, va_K.moved (u := U) (U := U.calling g mk a) (Vm.Alike.refl U.vm) qK⟩, va_recv hKc hPc (ci := 2) (q0 := 0) rfl rfl, fun U hU hW => ⟨rfl, by rw [hU]; exact hPc, va_K.moved hW.alike hKc⟩⟩ rfl rfl hl.1 rfl (lv_room (Nat.le_of_ble_eq_true rfl)) dVf_value_2 ⟨Nat.le_of_ble_eq_true rfl, Nat.le_of_ble_eq_true rfl⟩) (fun j_1 ej_2 => ?_)
  rw [ej_2]
  refine lv_astore (lv' := [(4, .ref (ad k 0)), (0, .ref x), (1, .int (nI k)), (2, .int (nI z)), (3, .int t0)]) hx hb dVf_value_5 hl (by decide) rfl (fun ls hl => ?_)
  refine lv_iload_n hx hb dVf_value_7 rfl (lv_at hl 3 rfl) ?_
  refine va_csv (W.runS (As := [.int (nI z)]) (rest := []) ⟨hx, hb, hml, hown, hts⟩ (k_V_requireKey l z hz) (va_cwS 1 hts (gd_S in_124 in_126 in_112 in_125) rfl rfl rfl (by decide +kernel) ⟨Nat.le_of_ble_eq_true rfl, Nat.le_of_ble_eq_true rfl⟩) ⟨fun a U g mk q => q, fun U hU hW => ⟨rfl, trivial⟩⟩ rfl rfl hl.1 rfl (lv_room (Nat.le_of_ble_eq_true rfl)) dVf_value_8 ⟨Nat.le_of_ble_eq_true rfl, Nat.le_of_ble_eq_true rfl⟩) (fun er_4 => ?_)
  refine lv_iload_n hx hb dVf_value_11 rfl (lv_at hl 4 rfl) ?_
  refine lv_aload hx hb dVf_value_12 (lv_at hl 0 rfl) ?_
  refine va_get (D := (dC, dI)) (ci := 0) (v := .int (fi 2)) (C := RFo) (T := TFo) (N := 10) hx hb hts inFo hown hK hP 2 rfl rfl 2 (by decide) (hts _ in_127) (fun _ h9 => h9) rfl dVf_value_14 ?_
  refine lv_icmp_lt (tgt := 29) hx hb dVf_value_17 (by decide) (fun c_5 => ?_) (fun c_5 => ?_)
  · skip
    obtain ⟨sa, hstr⟩ := hXN.2.2.2.2.2.2.2.2.2.1
    exact vx_throwS (A := x_0) (cls := cIA) (names := x_ns) hx hb hnt hown (by decide) (by decide) (hts _ in_234) (hts _ in_235) hstr (x_hIA hts hXN) x_gIA hXZ.1 hXZ.2 va_S.rf (hl.1.trans hml.symm) dVf_value_29 dVf_value_32 dVf_value_33 dVf_value_35 dVf_value_38 (fun x h => (htab x h).elim) (Nat.le_of_ble_eq_true rfl) (Nat.le_of_ble_eq_true rfl) (Nat.le_of_ble_eq_true rfl) (Nat.le_of_ble_eq_true rfl) hlocks (fun t hA9 hz9 hk9 => ⟨rfl, hz9, hk9⟩) (fun z h => by cases h) (by decide) (by decide)
  · skip
    have c_lo := c_5
    refine lv_iload_n hx hb dVf_value_20 rfl (lv_at hl 4 rfl) ?_
    refine lv_aload hx hb dVf_value_21 (lv_at hl 0 rfl) ?_
    refine va_get (D := (dC, dI)) (ci := 0) (v := .int (fi 1)) (C := RFo) (T := TFo) (N := 10) hx hb hts inFo hown hK hP 2 rfl rfl 1 (by decide) (hts _ in_128) (fun _ h9 => h9) rfl dVf_value_23 ?_
    refine lv_icmp_le (tgt := 39) hx hb dVf_value_26 (by decide) (fun c_6 => ?_) (fun c_6 => ?_)
    · skip
      exact (hbad.elim (fun q => absurd q c_lo) (fun q => absurd c_6 q))
    · skip
      obtain ⟨sa, hstr⟩ := hXN.2.2.2.2.2.2.2.2.2.1
      exact vx_throwS (A := x_0) (cls := cIA) (names := x_ns) hx hb hnt hown (by decide) (by decide) (hts _ in_234) (hts _ in_235) hstr (x_hIA hts hXN) x_gIA hXZ.1 hXZ.2 va_S.rf (hl.1.trans hml.symm) dVf_value_29 dVf_value_32 dVf_value_33 dVf_value_35 dVf_value_38 (fun x h => (htab x h).elim) (Nat.le_of_ble_eq_true rfl) (Nat.le_of_ble_eq_true rfl) (Nat.le_of_ble_eq_true rfl) (Nat.le_of_ble_eq_true rfl) hlocks (fun t hA9 hz9 hk9 => ⟨rfl, hz9, hk9⟩) (fun z h => by cases h) (by decide) (by decide)
set_option maxHeartbeats 4000000 in
set_option maxRecDepth 100000 in
/-- since(k, z), no such index -/
theorem k_V_sinceB (l : Launch) (hnt : l.stackTraces = false) (dC : Nat → ClassId) (dI : Nat → Nat → Nat) (x xa r : Nat) (cI cQ : ClassId) (ad : Nat → Nat → Nat) (ra : Nat) (k f1 f2 f3 f4 : Nat) (hk4 : k < 4) (fi : Nat → Int32) (fa : Nat → Nat → Int32) (z : Int32) (hbad : z < fi 1 - fi 0 ∨ ¬ z ≤ fi 1) : vx_Met l yVf_since wsVf_since ({ frames := 9, cells := 1, slots := 6, locals := 180 }) (va_Pc [.ref x, .int (nI k), .int z] (fun U => x_N U ∧ x_Z x_0 U U.heap ∧ va_P (dC, dI) vwCl (wV x xa r cQ ad ++ wF (ad k 0) f1 f2 f3 f4 cI fi fa) U.heap ∧ va_K (dC, dI) vwCl [(cI, .int), (cQ, .object RFo)] U)) x_Q (x_F cIA) 1 6 x_0 := by
  refine vx_ofW (cc := cVf_since) (maxL := 4) (ret := (some .int)) (by decide) rfl ?_
  intro p e s m args below meth c s₁ B hml htab hv
  obtain ⟨rfl, hXN, hXZ, hP, hK⟩ := hv
  have hx := B.exec
  have hb := B.bytes
  have hr := B.returns
  have hts0 := atoms_spec (ws := wsVf_since) B.pre
  have hts := fun (w : Cond) (h : w ∈ lw_g) => hts0 w (List.mem_cons_of_mem _ h)
  have hown : s.vm.findClass RVf = some m.cls := findClass_of_methodNamed B.named
  have hlocks := B.notSynchronized
  have hl := lv_entry ([.ref x, .int (nI k), .int z]) (n := 4) (Nat.le_of_ble_eq_true rfl)
  rw [lg_entry_eq]
  generalize (lg_sl ([.ref x, .int (nI k), .int z]) ++ List.replicate (4 - (lg_sl ([.ref x, .int (nI k), .int z])).length) Slot.unset).toArray = ls at hl ⊢
  have hl : lv_has ls 4 [(0, .ref x), (1, .int (nI k)), (2, .int z)] := hl
  refine lv_aload_n hx hb dVf_since_0 rfl (lv_at hl 0 rfl) ?_
  refine lv_iload_n hx hb dVf_since_1 rfl (lv_at hl 1 rfl) ?_
  have hPc := hP.sub (ws' := (wV x xa r cQ ad)) [0, 1] rfl
  have hKc := hK.sub (tys' := [(cI, .int), (cQ, .object RFo)]) [0, 1] rfl
  refine va_csr (W.runV (As := [.int (nI k)]) (rest := []) ⟨hx, hb, hml, hown, hts⟩ (k_V_foldAt l dC dI x xa r cI cQ ad k hk4) (cwV 1 hts (gd_V in_118 in_120 in_121 in_112 in_119) rfl rfl rfl (by decide +kernel) ⟨Nat.le_of_ble_eq_true rfl, Nat.le_of_ble_eq_true rfl⟩) ⟨fun a U g mk q => by obtain ⟨q0, qP, qK⟩ := q; exact ⟨q0, qP, va_K.moved (u := U) (U := U.calling g mk a) (Vm.Alike.refl U.vm) qK⟩, va_recv hKc hPc (ci := 2) (q0 := 0) rfl rfl, fun U hU hW => ⟨rfl, by rw [hU]; exact hPc, va_K.moved hW.alike hKc⟩⟩ rfl rfl hl.1 rfl (lv_room (Nat.le_of_ble_eq_true rfl)) dVf_since_2 ⟨Nat.le_of_ble_eq_true rfl, Nat.le_of_ble_eq_true rfl⟩) (fun j_1 ej_2 => ?_)
  rw [ej_2]
  refine lv_astore_n (lv' := [(3, .ref (ad k 0)), (0, .ref x), (1, .int (nI k)), (2, .int z)]) hx hb dVf_since_5 rfl hl (by decide) rfl (fun ls hl => ?_)
  refine lv_iload_n hx hb dVf_since_6 rfl (lv_at hl 3 rfl) ?_
  refine lv_aload_n hx hb dVf_since_7 rfl (lv_at hl 0 rfl) ?_
  have hPc := hP.sub (ws' := (wF (ad k 0) f1 f2 f3 f4 cI fi fa)) [2, 3, 4, 5, 6] rfl
  have hKc := hK.sub (tys' := [(cI, .int)]) [0] rfl
  refine vp_callSi (W.runV (As := []) (rest := [.int z]) ⟨hx, hb, hml, hown, hts⟩ (k_F_oldest l dC dI (ad k 0) f1 f2 f3 f4 cI fi fa) (cwV 0 hts (gd_V in_139 in_30 in_31 in_17 in_29) rfl rfl rfl (by decide +kernel) ⟨Nat.le_of_ble_eq_true rfl, Nat.le_of_ble_eq_true rfl⟩) ⟨fun a U g mk q => by obtain ⟨q0, qP, qK⟩ := q; exact ⟨q0, qP, va_K.moved (u := U) (U := U.calling g mk a) (Vm.Alike.refl U.vm) qK⟩, va_recv hKc hPc (ci := 0) (q0 := 0) rfl rfl, fun U hU hW => ⟨rfl, by rw [hU]; exact hPc, va_K.moved hW.alike hKc⟩⟩ rfl rfl hl.1 rfl (lv_room (Nat.le_of_ble_eq_true rfl)) dVf_since_8 ⟨Nat.le_of_ble_eq_true rfl, Nat.le_of_ble_eq_true rfl⟩) (fun r_3 er_4 => ?_)
  subst er_4
  refine lv_icmp_lt (tgt := 22) hx hb dVf_since_11 (by decide) (fun c_5 => ?_) (fun c_5 => ?_)
  · skip
    obtain ⟨sa, hstr⟩ := hXN.2.2.2.2.2.2.2.2.2.2
    exact vx_throwS (A := x_0) (cls := cIA) (names := x_ns) hx hb hnt hown (by decide) (by decide) (hts _ in_234) (hts _ in_235) hstr (x_hIA hts hXN) x_gIA hXZ.1 hXZ.2 va_S.rf (hl.1.trans hml.symm) dVf_since_22 dVf_since_25 dVf_since_26 dVf_since_28 dVf_since_31 (fun x h => (htab x h).elim) (Nat.le_of_ble_eq_true rfl) (Nat.le_of_ble_eq_true rfl) (Nat.le_of_ble_eq_true rfl) (Nat.le_of_ble_eq_true rfl) hlocks (fun t hA9 hz9 hk9 => ⟨rfl, hz9, hk9⟩) (fun z h => by cases h) (by decide) (by decide)
  · skip
    have c_lo := c_5
    refine lv_iload_n hx hb dVf_since_14 rfl (lv_at hl 3 rfl) ?_
    refine lv_aload_n hx hb dVf_since_15 rfl (lv_at hl 0 rfl) ?_
    refine va_get (D := (dC, dI)) (ci := 0) (v := .int (fi 1)) (C := RFo) (T := TFo) (N := 10) hx hb hts inFo hown hK hP 2 rfl rfl 1 (by decide) (hts _ in_128) (fun _ h9 => h9) rfl dVf_since_16 ?_
    refine lv_icmp_le (tgt := 32) hx hb dVf_since_19 (by decide) (fun c_6 => ?_) (fun c_6 => ?_)
    · skip
      exact (hbad.elim (fun q => absurd q c_lo) (fun q => absurd c_6 q))
    · skip
      obtain ⟨sa, hstr⟩ := hXN.2.2.2.2.2.2.2.2.2.2
      exact vx_throwS (A := x_0) (cls := cIA) (names := x_ns) hx hb hnt hown (by decide) (by decide) (hts _ in_234) (hts _ in_235) hstr (x_hIA hts hXN) x_gIA hXZ.1 hXZ.2 va_S.rf (hl.1.trans hml.symm) dVf_since_22 dVf_since_25 dVf_since_26 dVf_since_28 dVf_since_31 (fun x h => (htab x h).elim) (Nat.le_of_ble_eq_true rfl) (Nat.le_of_ble_eq_true rfl) (Nat.le_of_ble_eq_true rfl) (Nat.le_of_ble_eq_true rfl) hlocks (fun t hA9 hz9 hk9 => ⟨rfl, hz9, hk9⟩) (fun z h => by cases h) (by decide) (by decide)
