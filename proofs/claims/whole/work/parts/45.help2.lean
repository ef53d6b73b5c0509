set_option maxHeartbeats 4000000 in
set_option maxRecDepth 100000 in
/-- apply(x, ..), thrown and caught -/
theorem h_applyN (l : Launch) (hnt : l.stackTraces = false) (dC : Nat → ClassId) (dI : Nat → Nat → Nat) (x xa r : Nat) (cI cQ : ClassId) (ad : Nat → Nat → Nat) (z : Int32) (hfx : s_lk z = 1) (o : Nat) : Met l yLw_apply wsLw_apply ({ frames := 10, cells := 1, slots := 6, locals := 220 }) (va_Pc [.ref x, .int z, .ref o] (fun U => x_N U ∧ x_Z x_0 U U.heap ∧ va_P (dC, dI) vwCl (wV x xa r cQ ad) U.heap ∧ va_K (dC, dI) vwCl [(cI, .int), (cQ, .object RFo)] U)) (va_Qi (fun (r9 : Int32) (_ : Unit) => r9 = 1) (fun _ _ => True) x_0) 1 6 x_0 := by
  refine va_MetW (cc := cLw_apply) (maxL := 4) (ret := (some .int)) (by decide) rfl ?_
  intro p e s m args below meth c s₁ B hml hv
  obtain ⟨rfl, hXN, hXZ, hP, hK⟩ := hv
  have hx := B.exec
  have hb := B.bytes
  have hr := B.returns
  have hts0 := atoms_spec (ws := wsLw_apply) B.pre
  have hts := fun (w : Cond) (h : w ∈ lw_g) => hts0 w (List.mem_cons_of_mem _ h)
  have hown : s.vm.findClass RLw = some m.cls := findClass_of_methodNamed B.named
  have hlocks := B.notSynchronized
  have hl := lv_entry ([.ref x, .int z, .ref o]) (n := 4) (Nat.le_of_ble_eq_true rfl)
  rw [lg_entry_eq]
  generalize (lg_sl ([.ref x, .int z, .ref o]) ++ List.replicate (4 - (lg_sl ([.ref x, .int z, .ref o])).length) Slot.unset).toArray = ls at hl ⊢
  have hl : lv_has ls 4 [(0, .ref x), (1, .int z), (2, .ref o)] := hl
  refine lv_aload_n hx hb dLw_apply_0 rfl (lv_at hl 2 rfl) ?_
  refine lv_iconst (v := 0) hx hb dLw_apply_1 (by decide) ?_
  refine lv_aload_n hx hb dLw_apply_2 rfl (lv_at hl 0 rfl) ?_
  refine lv_iload_n hx hb dLw_apply_3 rfl (lv_at hl 1 rfl) ?_
  have hPc := hP.sub (ws' := (wV x xa r cQ ad)) [0, 1] rfl
  have hKc := hK.sub (tys' := [(cI, .int), (cQ, .object RFo)]) [0, 1] rfl
  have htb := vx_table (x := objectInit) B (hts0 _ List.mem_cons_self)
  refine x_call (A0 := x_0) (H0 := s.heap) (vx_runV (As := [.int z]) (rest := [.int 0, .ref o]) ⟨hx, hb, hml, hown, hts⟩ (k_V_applyN l hnt dC dI x xa r cI cQ ad z hfx) (cwV 1 hts (gd_V in_272 in_274 in_275 in_112 in_273) rfl rfl rfl (by decide +kernel) ⟨Nat.le_of_ble_eq_true rfl, Nat.le_of_ble_eq_true rfl⟩) ⟨fun a U g mk q => by obtain ⟨q0, qN, qZ, qP, qK⟩ := q; exact ⟨q0, x_N.same rfl qN, x_Z.moved (u := U) (U := U.calling g mk a) (Vm.Alike.refl U.vm) qZ, qP, va_K.moved (u := U) (U := U.calling g mk a) (Vm.Alike.refl U.vm) qK⟩, va_recv hKc hPc (ci := 2) (q0 := 0) rfl rfl, fun U hU hW => ⟨rfl, x_N.warm hW hXN, by rw [hU]; exact x_Z.moved hW.alike hXZ, by rw [hU]; exact hPc, va_K.moved hW.alike hKc⟩⟩ rfl rfl hl.1 rfl (lv_room (Nat.le_of_ble_eq_true rfl)) dLw_apply_4 ⟨Nat.le_of_ble_eq_true rfl, Nat.le_of_ble_eq_true rfl⟩) va_S.rf (fun ce q9 H hz9 hk9 hS hce hcv hcl => ?_)
  refine vx_catch (E := cIO) (name := cIO) hown [] ⟨0, 9, 12, 13⟩ [] (by rw [htb]; rfl) (fun z h => by cases h) (by decide) (by decide) (hts _ in_280) (va_Nw.use rfl hXN.1) hce hcv hcl ?_
  show W p l e _ s m _ below meth c H [] _ _ _ (F0 m 12 ls [.ref q9])
  refine lv_astore_n (lv' := [(3, .ref q9), (0, .ref x), (1, .int z), (2, .ref o)]) hx hb dLw_apply_12 rfl hl (by decide) rfl (fun ls hl => ?_)
  refine lv_iconst (v := 1) hx hb dLw_apply_13 (by decide) ?_
  refine W.widen (k := 1) (n := 6) (by decide) (by decide) ?_
  exact W.iret (v := 1) hx hb hr (fun t ht hW => ⟨⟨1, (), rfl, rfl, trivial⟩, by rw [ht]; exact hz9, fun q h1 _ => by rw [ht]; exact hk9 q h1⟩) (fun q h => by cases h) dLw_apply_14
set_option maxHeartbeats 4000000 in
set_option maxRecDepth 100000 in
/-- test(x, ..), thrown and caught -/
theorem h_testN (l : Launch) (hnt : l.stackTraces = false) (dC : Nat → ClassId) (dI : Nat → Nat → Nat) (x xa r : Nat) (cI cQ : ClassId) (ad : Nat → Nat → Nat) (z : Int32) (hfx : s_lk z = 1) (o : Nat) : Met l yLw_test wsLw_test ({ frames := 10, cells := 1, slots := 6, locals := 220 }) (va_Pc [.ref x, .int z, .ref o] (fun U => x_N U ∧ x_Z x_0 U U.heap ∧ va_P (dC, dI) vwCl (wV x xa r cQ ad) U.heap ∧ va_K (dC, dI) vwCl [(cI, .int), (cQ, .object RFo)] U)) (va_Qi (fun (r9 : Int32) (_ : Unit) => r9 = 1) (fun _ _ => True) x_0) 1 6 x_0 := by
  refine va_MetW (cc := cLw_test) (maxL := 4) (ret := (some .int)) (by decide) rfl ?_
  intro p e s m args below meth c s₁ B hml hv
  obtain ⟨rfl, hXN, hXZ, hP, hK⟩ := hv
  have hx := B.exec
  have hb := B.bytes
  have hr := B.returns
  have hts0 := atoms_spec (ws := wsLw_test) B.pre
  have hts := fun (w : Cond) (h : w ∈ lw_g) => hts0 w (List.mem_cons_of_mem _ h)
  have hown : s.vm.findClass RLw = some m.cls := findClass_of_methodNamed B.named
  have hlocks := B.notSynchronized
  have hl := lv_entry ([.ref x, .int z, .ref o]) (n := 4) (Nat.le_of_ble_eq_true rfl)
  rw [lg_entry_eq]
  generalize (lg_sl ([.ref x, .int z, .ref o]) ++ List.replicate (4 - (lg_sl ([.ref x, .int z, .ref o])).length) Slot.unset).toArray = ls at hl ⊢
  have hl : lv_has ls 4 [(0, .ref x), (1, .int z), (2, .ref o)] := hl
  refine lv_aload_n hx hb dLw_test_0 rfl (lv_at hl 2 rfl) ?_
  refine lv_iconst (v := 0) hx hb dLw_test_1 (by decide) ?_
  refine lv_aload_n hx hb dLw_test_2 rfl (lv_at hl 0 rfl) ?_
  refine lv_iload_n hx hb dLw_test_3 rfl (lv_at hl 1 rfl) ?_
  have hPc := hP.sub (ws' := (wV x xa r cQ ad)) [0, 1] rfl
  have hKc := hK.sub (tys' := [(cI, .int), (cQ, .object RFo)]) [0, 1] rfl
  have htb := vx_table (x := objectInit) B (hts0 _ List.mem_cons_self)
  refine x_call (A0 := x_0) (H0 := s.heap) (vx_runV (As := [.int z]) (rest := [.int 0, .ref o]) ⟨hx, hb, hml, hown, hts⟩ (k_V_testN l hnt dC dI x xa r cI cQ ad z hfx) (cwV 1 hts (gd_V in_236 in_238 in_239 in_112 in_237) rfl rfl rfl (by decide +kernel) ⟨Nat.le_of_ble_eq_true rfl, Nat.le_of_ble_eq_true rfl⟩) ⟨fun a U g mk q => by obtain ⟨q0, qN, qZ, qP, qK⟩ := q; exact ⟨q0, x_N.same rfl qN, x_Z.moved (u := U) (U := U.calling g mk a) (Vm.Alike.refl U.vm) qZ, qP, va_K.moved (u := U) (U := U.calling g mk a) (Vm.Alike.refl U.vm) qK⟩, va_recv hKc hPc (ci := 2) (q0 := 0) rfl rfl, fun U hU hW => ⟨rfl, x_N.warm hW hXN, by rw [hU]; exact x_Z.moved hW.alike hXZ, by rw [hU]; exact hPc, va_K.moved hW.alike hKc⟩⟩ rfl rfl hl.1 rfl (lv_room (Nat.le_of_ble_eq_true rfl)) dLw_test_4 ⟨Nat.le_of_ble_eq_true rfl, Nat.le_of_ble_eq_true rfl⟩) va_S.rf (fun ce q9 H hz9 hk9 hS hce hcv hcl => ?_)
  refine vx_catch (E := cIO) (name := cIO) hown [] ⟨0, 9, 12, 13⟩ [] (by rw [htb]; rfl) (fun z h => by cases h) (by decide) (by decide) (hts _ in_280) (va_Nw.use rfl hXN.1) hce hcv hcl ?_
  show W p l e _ s m _ below meth c H [] _ _ _ (F0 m 12 ls [.ref q9])
  refine lv_astore_n (lv' := [(3, .ref q9), (0, .ref x), (1, .int z), (2, .ref o)]) hx hb dLw_test_12 rfl hl (by decide) rfl (fun ls hl => ?_)
  refine lv_iconst (v := 1) hx hb dLw_test_13 (by decide) ?_
  refine W.widen (k := 1) (n := 6) (by decide) (by decide) ?_
  exact W.iret (v := 1) hx hb hr (fun t ht hW => ⟨⟨1, (), rfl, rfl, trivial⟩, by rw [ht]; exact hz9, fun q h1 _ => by rw [ht]; exact hk9 q h1⟩) (fun q h => by cases h) dLw_test_14
set_option maxHeartbeats 4000000 in
set_option maxRecDepth 100000 in
/-- take(x, ..), thrown and caught -/
theorem h_takeN (l : Launch) (hnt : l.stackTraces = false) (dC : Nat → ClassId) (dI : Nat → Nat → Nat) (x xa r : Nat) (cI cQ : ClassId) (ad : Nat → Nat → Nat) (z u0 : Int32) (hfx : s_lk z = 1) (o : Nat) : Met l yLw_take wsLw_take ({ frames := 10, cells := 1, slots := 6, locals := 220 }) (va_Pc [.ref x, .int z, .int u0, .ref o] (fun U => x_N U ∧ x_Z x_0 U U.heap ∧ va_P (dC, dI) vwCl (wV x xa r cQ ad) U.heap ∧ va_K (dC, dI) vwCl [(cI, .int), (cQ, .object RFo)] U)) (va_Qi (fun (r9 : Int32) (_ : Unit) => r9 = 1) (fun _ _ => True) x_0) 1 6 x_0 := by
  refine va_MetW (cc := cLw_take) (maxL := 5) (ret := (some .int)) (by decide) rfl ?_
  intro p e s m args below meth c s₁ B hml hv
  obtain ⟨rfl, hXN, hXZ, hP, hK⟩ := hv
  have hx := B.exec
  have hb := B.bytes
  have hr := B.returns
  have hts0 := atoms_spec (ws := wsLw_take) B.pre
  have hts := fun (w : Cond) (h : w ∈ lw_g) => hts0 w (List.mem_cons_of_mem _ h)
  have hown : s.vm.findClass RLw = some m.cls := findClass_of_methodNamed B.named
  have hlocks := B.notSynchronized
  have hl := lv_entry ([.ref x, .int z, .int u0, .ref o]) (n := 5) (Nat.le_of_ble_eq_true rfl)
  rw [lg_entry_eq]
  generalize (lg_sl ([.ref x, .int z, .int u0, .ref o]) ++ List.replicate (5 - (lg_sl ([.ref x, .int z, .int u0, .ref o])).length) Slot.unset).toArray = ls at hl ⊢
  have hl : lv_has ls 5 [(0, .ref x), (1, .int z), (2, .int u0), (3, .ref o)] := hl
  refine lv_aload_n hx hb dLw_take_0 rfl (lv_at hl 3 rfl) ?_
  refine lv_iconst (v := 0) hx hb dLw_take_1 (by decide) ?_
  refine lv_aload_n hx hb dLw_take_2 rfl (lv_at hl 0 rfl) ?_
  refine lv_iload_n hx hb dLw_take_3 rfl (lv_at hl 1 rfl) ?_
  refine lv_iload_n hx hb dLw_take_4 rfl (lv_at hl 2 rfl) ?_
  have hPc := hP.sub (ws' := (wV x xa r cQ ad)) [0, 1] rfl
  have hKc := hK.sub (tys' := [(cI, .int), (cQ, .object RFo)]) [0, 1] rfl
  have htb := vx_table (x := objectInit) B (hts0 _ List.mem_cons_self)
  refine x_call (A0 := x_0) (H0 := s.heap) (vx_runV (As := [.int z, .int u0]) (rest := [.int 0, .ref o]) ⟨hx, hb, hml, hown, hts⟩ (k_V_takeN l hnt dC dI x xa r cI cQ ad z u0 hfx) (cwV 2 hts (gd_V in_268 in_270 in_271 in_112 in_269) rfl rfl rfl (by decide +kernel) ⟨Nat.le_of_ble_eq_true rfl, Nat.le_of_ble_eq_true rfl⟩) ⟨fun a U g mk q => by obtain ⟨q0, qN, qZ, qP, qK⟩ := q; exact ⟨q0, x_N.same rfl qN, x_Z.moved (u := U) (U := U.calling g mk a) (Vm.Alike.refl U.vm) qZ, qP, va_K.moved (u := U) (U := U.calling g mk a) (Vm.Alike.refl U.vm) qK⟩, va_recv hKc hPc (ci := 2) (q0 := 0) rfl rfl, fun U hU hW => ⟨rfl, x_N.warm hW hXN, by rw [hU]; exact x_Z.moved hW.alike hXZ, by rw [hU]; exact hPc, va_K.moved hW.alike hKc⟩⟩ rfl rfl hl.1 rfl (lv_room (Nat.le_of_ble_eq_true rfl)) dLw_take_5 ⟨Nat.le_of_ble_eq_true rfl, Nat.le_of_ble_eq_true rfl⟩) va_S.rf (fun ce q9 H hz9 hk9 hS hce hcv hcl => ?_)
  refine vx_catch (E := cIO) (name := cIO) hown [] ⟨0, 17, 20, 13⟩ [] (by rw [htb]; rfl) (fun z h => by cases h) (by decide) (by decide) (hts _ in_280) (va_Nw.use rfl hXN.1) hce hcv hcl ?_
  show W p l e _ s m _ below meth c H [] _ _ _ (F0 m 20 ls [.ref q9])
  refine lv_astore (lv' := [(4, .ref q9), (0, .ref x), (1, .int z), (2, .int u0), (3, .ref o)]) hx hb dLw_take_20 hl (by decide) rfl (fun ls hl => ?_)
  refine lv_iconst (v := 1) hx hb dLw_take_22 (by decide) ?_
  refine W.widen (k := 1) (n := 6) (by decide) (by decide) ?_
  exact W.iret (v := 1) hx hb hr (fun t ht hW => ⟨⟨1, (), rfl, rfl, trivial⟩, by rw [ht]; exact hz9, fun q h1 _ => by rw [ht]; exact hk9 q h1⟩) (fun q h => by cases h) dLw_take_23
set_option maxHeartbeats 4000000 in
set_option maxRecDepth 100000 in
/-- clear(x, ..), thrown and caught -/
theorem h_clearN (l : Launch) (hnt : l.stackTraces = false) (dC : Nat → ClassId) (dI : Nat → Nat → Nat) (x xa r : Nat) (cI cQ : ClassId) (ad : Nat → Nat → Nat) (z : Int32) (hfx : s_lk z = 1) : Met l yLw_clear wsLw_clear ({ frames := 10, cells := 1, slots := 6, locals := 220 }) (va_Pc [.ref x, .int z] (fun U => x_N U ∧ x_Z x_0 U U.heap ∧ va_P (dC, dI) vwCl (wV x xa r cQ ad) U.heap ∧ va_K (dC, dI) vwCl [(cI, .int), (cQ, .object RFo)] U)) (va_Qi (fun (r9 : Int32) (_ : Unit) => r9 = 1) (fun _ _ => True) x_0) 1 6 x_0 := by
  refine va_MetW (cc := cLw_clear) (maxL := 3) (ret := (some .int)) (by decide) rfl ?_
  intro p e s m args below meth c s₁ B hml hv
  obtain ⟨rfl, hXN, hXZ, hP, hK⟩ := hv
  have hx := B.exec
  have hb := B.bytes
  have hr := B.returns
  have hts0 := atoms_spec (ws := wsLw_clear) B.pre
  have hts := fun (w : Cond) (h : w ∈ lw_g) => hts0 w (List.mem_cons_of_mem _ h)
  have hown : s.vm.findClass RLw = some m.cls := findClass_of_methodNamed B.named
  have hlocks := B.notSynchronized
  have hl := lv_entry ([.ref x, .int z]) (n := 3) (Nat.le_of_ble_eq_true rfl)
  rw [lg_entry_eq]
  generalize (lg_sl ([.ref x, .int z]) ++ List.replicate (3 - (lg_sl ([.ref x, .int z])).length) Slot.unset).toArray = ls at hl ⊢
  have hl : lv_has ls 3 [(0, .ref x), (1, .int z)] := hl
  refine lv_aload_n hx hb dLw_clear_0 rfl (lv_at hl 0 rfl) ?_
  refine lv_iload_n hx hb dLw_clear_1 rfl (lv_at hl 1 rfl) ?_
  have hPc := hP.sub (ws' := (wV x xa r cQ ad)) [0, 1] rfl
  have hKc := hK.sub (tys' := [(cI, .int), (cQ, .object RFo)]) [0, 1] rfl
  have htb := vx_table (x := objectInit) B (hts0 _ List.mem_cons_self)
  refine x_call (A0 := x_0) (H0 := s.heap) (vx_runV (As := [.int z]) (rest := []) ⟨hx, hb, hml, hown, hts⟩ (k_V_clearN l hnt dC dI x xa r cI cQ ad z hfx) (cwV 1 hts (gd_V in_276 in_278 in_279 in_112 in_277) rfl rfl rfl (by decide +kernel) ⟨Nat.le_of_ble_eq_true rfl, Nat.le_of_ble_eq_true rfl⟩) ⟨fun a U g mk q => by obtain ⟨q0, qN, qZ, qP, qK⟩ := q; exact ⟨q0, x_N.same rfl qN, x_Z.moved (u := U) (U := U.calling g mk a) (Vm.Alike.refl U.vm) qZ, qP, va_K.moved (u := U) (U := U.calling g mk a) (Vm.Alike.refl U.vm) qK⟩, va_recv hKc hPc (ci := 2) (q0 := 0) rfl rfl, fun U hU hW => ⟨rfl, x_N.warm hW hXN, by rw [hU]; exact x_Z.moved hW.alike hXZ, by rw [hU]; exact hPc, va_K.moved hW.alike hKc⟩⟩ rfl rfl hl.1 rfl (lv_room (Nat.le_of_ble_eq_true rfl)) dLw_clear_2 ⟨Nat.le_of_ble_eq_true rfl, Nat.le_of_ble_eq_true rfl⟩) va_S.rf (fun ce q9 H hz9 hk9 hS hce hcv hcl => ?_)
  refine vx_catch (E := cIO) (name := cIO) hown [] ⟨0, 5, 8, 13⟩ [] (by rw [htb]; rfl) (fun z h => by cases h) (by decide) (by decide) (hts _ in_280) (va_Nw.use rfl hXN.1) hce hcv hcl ?_
  show W p l e _ s m _ below meth c H [] _ _ _ (F0 m 8 ls [.ref q9])
  refine lv_astore_n (lv' := [(2, .ref q9), (0, .ref x), (1, .int z)]) hx hb dLw_clear_8 rfl hl (by decide) rfl (fun ls hl => ?_)
  refine lv_iconst (v := 1) hx hb dLw_clear_9 (by decide) ?_
  refine W.widen (k := 1) (n := 6) (by decide) (by decide) ?_
  exact W.iret (v := 1) hx hb hr (fun t ht hW => ⟨⟨1, (), rfl, rfl, trivial⟩, by rw [ht]; exact hz9, fun q h1 _ => by rw [ht]; exact hk9 q h1⟩) (fun q h => by cases h) dLw_clear_10
set_option maxHeartbeats 4000000 in
set_option maxRecDepth 100000 in
/-- value(x, ..), thrown and caught -/
theorem h_valueN (l : Launch) (hnt : l.stackTraces = false) (dC : Nat → ClassId) (dI : Nat → Nat → Nat) (x xa r : Nat) (cI cQ : ClassId) (ad : Nat → Nat → Nat) (z u0 u1 : Int32) (hfx : s_lk z = 1) (o : Nat) : Met l yLw_value wsLw_value ({ frames := 10, cells := 1, slots := 6, locals := 220 }) (va_Pc [.ref x, .int z, .int u0, .int u1, .ref o] (fun U => x_N U ∧ x_Z x_0 U U.heap ∧ va_P (dC, dI) vwCl (wV x xa r cQ ad) U.heap ∧ va_K (dC, dI) vwCl [(cI, .int), (cQ, .object RFo)] U)) (va_Qi (fun (r9 : Int32) (_ : Unit) => r9 = 1) (fun _ _ => True) x_0) 1 6 x_0 := by
  refine va_MetW (cc := cLw_value) (maxL := 6) (ret := (some .int)) (by decide) rfl ?_
  intro p e s m args below meth c s₁ B hml hv
  obtain ⟨rfl, hXN, hXZ, hP, hK⟩ := hv
  have hx := B.exec
  have hb := B.bytes
  have hr := B.returns
  have hts0 := atoms_spec (ws := wsLw_value) B.pre
  have hts := fun (w : Cond) (h : w ∈ lw_g) => hts0 w (List.mem_cons_of_mem _ h)
  have hown : s.vm.findClass RLw = some m.cls := findClass_of_methodNamed B.named
  have hlocks := B.notSynchronized
  have hl := lv_entry ([.ref x, .int z, .int u0, .int u1, .ref o]) (n := 6) (Nat.le_of_ble_eq_true rfl)
  rw [lg_entry_eq]
  generalize (lg_sl ([.ref x, .int z, .int u0, .int u1, .ref o]) ++ List.replicate (6 - (lg_sl ([.ref x, .int z, .int u0, .int u1, .ref o])).length) Slot.unset).toArray = ls at hl ⊢
  have hl : lv_has ls 6 [(0, .ref x), (1, .int z), (2, .int u0), (3, .int u1), (4, .ref o)] := hl
  refine lv_aload hx hb dLw_value_0 (lv_at hl 4 rfl) ?_
  refine lv_iconst (v := 0) hx hb dLw_value_2 (by decide) ?_
  refine lv_aload_n hx hb dLw_value_3 rfl (lv_at hl 0 rfl) ?_
  refine lv_iload_n hx hb dLw_value_4 rfl (lv_at hl 1 rfl) ?_
  refine lv_iload_n hx hb dLw_value_5 rfl (lv_at hl 2 rfl) ?_
  refine lv_iload_n hx hb dLw_value_6 rfl (lv_at hl 3 rfl) ?_
  have hPc := hP.sub (ws' := (wV x xa r cQ ad)) [0, 1] rfl
  have hKc := hK.sub (tys' := [(cI, .int), (cQ, .object RFo)]) [0, 1] rfl
  have htb := vx_table (x := objectInit) B (hts0 _ List.mem_cons_self)
  refine x_call (A0 := x_0) (H0 := s.heap) (vx_runV (As := [.int z, .int u0, .int u1]) (rest := [.int 0, .ref o]) ⟨hx, hb, hml, hown, hts⟩ (k_V_valueN l hnt dC dI x xa r cI cQ ad z u0 u1 hfx) (cwV 3 hts (gd_V in_240 in_242 in_243 in_112 in_241) rfl rfl rfl (by decide +kernel) ⟨Nat.le_of_ble_eq_true rfl, Nat.le_of_ble_eq_true rfl⟩) ⟨fun a U g mk q => by obtain ⟨q0, qN, qZ, qP, qK⟩ := q; exact ⟨q0, x_N.same rfl qN, x_Z.moved (u := U) (U := U.calling g mk a) (Vm.Alike.refl U.vm) qZ, qP, va_K.moved (u := U) (U := U.calling g mk a) (Vm.Alike.refl U.vm) qK⟩, va_recv hKc hPc (ci := 2) (q0 := 0) rfl rfl, fun U hU hW => ⟨rfl, x_N.warm hW hXN, by rw [hU]; exact x_Z.moved hW.alike hXZ, by rw [hU]; exact hPc, va_K.moved hW.alike hKc⟩⟩ rfl rfl hl.1 rfl (lv_room (Nat.le_of_ble_eq_true rfl)) dLw_value_7 ⟨Nat.le_of_ble_eq_true rfl, Nat.le_of_ble_eq_true rfl⟩) va_S.rf (fun ce q9 H hz9 hk9 hS hce hcv hcl => ?_)
  refine vx_catch (E := cIO) (name := cIO) hown [] ⟨0, 12, 15, 13⟩ [⟨0, 12, 19, 30⟩] (by rw [htb]; rfl) (fun z h => by cases h) (by decide) (by decide) (hts _ in_280) (va_Nw.use rfl hXN.1) hce hcv hcl ?_
  show W p l e _ s m _ below meth c H [] _ _ _ (F0 m 15 ls [.ref q9])
  refine lv_astore (lv' := [(5, .ref q9), (0, .ref x), (1, .int z), (2, .int u0), (3, .int u1), (4, .ref o)]) hx hb dLw_value_15 hl (by decide) rfl (fun ls hl => ?_)
  refine lv_iconst (v := 1) hx hb dLw_value_17 (by decide) ?_
  refine W.widen (k := 1) (n := 6) (by decide) (by decide) ?_
  exact W.iret (v := 1) hx hb hr (fun t ht hW => ⟨⟨1, (), rfl, rfl, trivial⟩, by rw [ht]; exact hz9, fun q h1 _ => by rw [ht]; exact hk9 q h1⟩) (fun q h => by cases h) dLw_value_18
set_option maxHeartbeats 4000000 in
set_option maxRecDepth 100000 in
/-- seq(x, ..), thrown and caught -/
theorem h_seqN (l : Launch) (hnt : l.stackTraces = false) (dC : Nat → ClassId) (dI : Nat → Nat → Nat) (x xa r : Nat) (cI cQ : ClassId) (ad : Nat → Nat → Nat) (z u0 : Int32) (hfx : s_lk z = 1) (o : Nat) : Met l yLw_seq wsLw_seq ({ frames := 10, cells := 1, slots := 6, locals := 220 }) (va_Pc [.ref x, .int z, .int u0, .ref o] (fun U => x_N U ∧ x_Z x_0 U U.heap ∧ va_P (dC, dI) vwCl (wV x xa r cQ ad) U.heap ∧ va_K (dC, dI) vwCl [(cI, .int), (cQ, .object RFo)] U)) (va_Qi (fun (r9 : Int32) (_ : Unit) => r9 = 1) (fun _ _ => True) x_0) 1 6 x_0 := by
  refine va_MetW (cc := cLw_seq) (maxL := 5) (ret := (some .int)) (by decide) rfl ?_
  intro p e s m args below meth c s₁ B hml hv
  obtain ⟨rfl, hXN, hXZ, hP, hK⟩ := hv
  have hx := B.exec
  have hb := B.bytes
  have hr := B.returns
  have hts0 := atoms_spec (ws := wsLw_seq) B.pre
  have hts := fun (w : Cond) (h : w ∈ lw_g) => hts0 w (List.mem_cons_of_mem _ h)
  have hown : s.vm.findClass RLw = some m.cls := findClass_of_methodNamed B.named
  have hlocks := B.notSynchronized
  have hl := lv_entry ([.ref x, .int z, .int u0, .ref o]) (n := 5) (Nat.le_of_ble_eq_true rfl)
  rw [lg_entry_eq]
  generalize (lg_sl ([.ref x, .int z, .int u0, .ref o]) ++ List.replicate (5 - (lg_sl ([.ref x, .int z, .int u0, .ref o])).length) Slot.unset).toArray = ls at hl ⊢
  have hl : lv_has ls 5 [(0, .ref x), (1, .int z), (2, .int u0), (3, .ref o)] := hl
  refine lv_aload_n hx hb dLw_seq_0 rfl (lv_at hl 3 rfl) ?_
  refine lv_iconst (v := 0) hx hb dLw_seq_1 (by decide) ?_
  refine lv_aload_n hx hb dLw_seq_2 rfl (lv_at hl 0 rfl) ?_
  refine lv_iload_n hx hb dLw_seq_3 rfl (lv_at hl 1 rfl) ?_
  refine lv_iload_n hx hb dLw_seq_4 rfl (lv_at hl 2 rfl) ?_
  have hPc := hP.sub (ws' := (wV x xa r cQ ad)) [0, 1] rfl
  have hKc := hK.sub (tys' := [(cI, .int), (cQ, .object RFo)]) [0, 1] rfl
  have htb := vx_table (x := objectInit) B (hts0 _ List.mem_cons_self)
  refine x_call (A0 := x_0) (H0 := s.heap) (vx_runV (As := [.int z, .int u0]) (rest := [.int 0, .ref o]) ⟨hx, hb, hml, hown, hts⟩ (k_V_seqN l hnt dC dI x xa r cI cQ ad z u0 hfx) (cwV 2 hts (gd_V in_244 in_246 in_247 in_112 in_245) rfl rfl rfl (by decide +kernel) ⟨Nat.le_of_ble_eq_true rfl, Nat.le_of_ble_eq_true rfl⟩) ⟨fun a U g mk q => by obtain ⟨q0, qN, qZ, qP, qK⟩ := q; exact ⟨q0, x_N.same rfl qN, x_Z.moved (u := U) (U := U.calling g mk a) (Vm.Alike.refl U.vm) qZ, qP, va_K.moved (u := U) (U := U.calling g mk a) (Vm.Alike.refl U.vm) qK⟩, va_recv hKc hPc (ci := 2) (q0 := 0) rfl rfl, fun U hU hW => ⟨rfl, x_N.warm hW hXN, by rw [hU]; exact x_Z.moved hW.alike hXZ, by rw [hU]; exact hPc, va_K.moved hW.alike hKc⟩⟩ rfl rfl hl.1 rfl (lv_room (Nat.le_of_ble_eq_true rfl)) dLw_seq_5 ⟨Nat.le_of_ble_eq_true rfl, Nat.le_of_ble_eq_true rfl⟩) va_S.rf (fun ce q9 H hz9 hk9 hS hce hcv hcl => ?_)
  refine vx_catch (E := cIO) (name := cIO) hown [] ⟨0, 10, 13, 13⟩ [⟨0, 10, 17, 30⟩] (by rw [htb]; rfl) (fun z h => by cases h) (by decide) (by decide) (hts _ in_280) (va_Nw.use rfl hXN.1) hce hcv hcl ?_
  show W p l e _ s m _ below meth c H [] _ _ _ (F0 m 13 ls [.ref q9])
  refine lv_astore (lv' := [(4, .ref q9), (0, .ref x), (1, .int z), (2, .int u0), (3, .ref o)]) hx hb dLw_seq_13 hl (by decide) rfl (fun ls hl => ?_)
  refine lv_iconst (v := 1) hx hb dLw_seq_15 (by decide) ?_
  refine W.widen (k := 1) (n := 6) (by decide) (by decide) ?_
  exact W.iret (v := 1) hx hb hr (fun t ht hW => ⟨⟨1, (), rfl, rfl, trivial⟩, by rw [ht]; exact hz9, fun q h1 _ => by rw [ht]; exact hk9 q h1⟩) (fun q h => by cases h) dLw_seq_16
set_option maxHeartbeats 4000000 in
set_option maxRecDepth 100000 in
/-- verdict(x, ..), thrown and caught -/
theorem h_verdictN (l : Launch) (hnt : l.stackTraces = false) (dC : Nat → ClassId) (dI : Nat → Nat → Nat) (x xa r : Nat) (cI cQ : ClassId) (ad : Nat → Nat → Nat) (z u0 : Int32) (hfx : s_lk z = 1) (o : Nat) : Met l yLw_verdict wsLw_verdict ({ frames := 10, cells := 1, slots := 6, locals := 220 }) (va_Pc [.ref x, .int z, .int u0, .ref o] (fun U => x_N U ∧ x_Z x_0 U U.heap ∧ va_P (dC, dI) vwCl (wV x xa r cQ ad) U.heap ∧ va_K (dC, dI) vwCl [(cI, .int), (cQ, .object RFo)] U)) (va_Qi (fun (r9 : Int32) (_ : Unit) => r9 = 1) (fun _ _ => True) x_0) 1 6 x_0 := by
  refine va_MetW (cc := cLw_verdict) (maxL := 5) (ret := (some .int)) (by decide) rfl ?_
  intro p e s m args below meth c s₁ B hml hv
  obtain ⟨rfl, hXN, hXZ, hP, hK⟩ := hv
  have hx := B.exec
  have hb := B.bytes
  have hr := B.returns
  have hts0 := atoms_spec (ws := wsLw_verdict) B.pre
  have hts := fun (w : Cond) (h : w ∈ lw_g) => hts0 w (List.mem_cons_of_mem _ h)
  have hown : s.vm.findClass RLw = some m.cls := findClass_of_methodNamed B.named
  have hlocks := B.notSynchronized
  have hl := lv_entry ([.ref x, .int z, .int u0, .ref o]) (n := 5) (Nat.le_of_ble_eq_true rfl)
  rw [lg_entry_eq]
  generalize (lg_sl ([.ref x, .int z, .int u0, .ref o]) ++ List.replicate (5 - (lg_sl ([.ref x, .int z, .int u0, .ref o])).length) Slot.unset).toArray = ls at hl ⊢
  have hl : lv_has ls 5 [(0, .ref x), (1, .int z), (2, .int u0), (3, .ref o)] := hl
  refine lv_aload_n hx hb dLw_verdict_0 rfl (lv_at hl 3 rfl) ?_
  refine lv_iconst (v := 0) hx hb dLw_verdict_1 (by decide) ?_
  refine lv_aload_n hx hb dLw_verdict_2 rfl (lv_at hl 0 rfl) ?_
  refine lv_iload_n hx hb dLw_verdict_3 rfl (lv_at hl 1 rfl) ?_
  refine lv_iload_n hx hb dLw_verdict_4 rfl (lv_at hl 2 rfl) ?_
  have hPc := hP.sub (ws' := (wV x xa r cQ ad)) [0, 1] rfl
  have hKc := hK.sub (tys' := [(cI, .int), (cQ, .object RFo)]) [0, 1] rfl
  have htb := vx_table (x := objectInit) B (hts0 _ List.mem_cons_self)
  refine x_call (A0 := x_0) (H0 := s.heap) (vx_runV (As := [.int z, .int u0]) (rest := [.int 0, .ref o]) ⟨hx, hb, hml, hown, hts⟩ (k_V_verdictN l hnt dC dI x xa r cI cQ ad z u0 hfx) (cwV 2 hts (gd_V in_248 in_250 in_251 in_112 in_249) rfl rfl rfl (by decide +kernel) ⟨Nat.le_of_ble_eq_true rfl, Nat.le_of_ble_eq_true rfl⟩) ⟨fun a U g mk q => by obtain ⟨q0, qN, qZ, qP, qK⟩ := q; exact ⟨q0, x_N.same rfl qN, x_Z.moved (u := U) (U := U.calling g mk a) (Vm.Alike.refl U.vm) qZ, qP, va_K.moved (u := U) (U := U.calling g mk a) (Vm.Alike.refl U.vm) qK⟩, va_recv hKc hPc (ci := 2) (q0 := 0) rfl rfl, fun U hU hW => ⟨rfl, x_N.warm hW hXN, by rw [hU]; exact x_Z.moved hW.alike hXZ, by rw [hU]; exact hPc, va_K.moved hW.alike hKc⟩⟩ rfl rfl hl.1 rfl (lv_room (Nat.le_of_ble_eq_true rfl)) dLw_verdict_5 ⟨Nat.le_of_ble_eq_true rfl, Nat.le_of_ble_eq_true rfl⟩) va_S.rf (fun ce q9 H hz9 hk9 hS hce hcv hcl => ?_)
  refine vx_catch (E := cIO) (name := cIO) hown [] ⟨0, 10, 13, 13⟩ [⟨0, 10, 17, 30⟩] (by rw [htb]; rfl) (fun z h => by cases h) (by decide) (by decide) (hts _ in_280) (va_Nw.use rfl hXN.1) hce hcv hcl ?_
  show W p l e _ s m _ below meth c H [] _ _ _ (F0 m 13 ls [.ref q9])
  refine lv_astore (lv' := [(4, .ref q9), (0, .ref x), (1, .int z), (2, .int u0), (3, .ref o)]) hx hb dLw_verdict_13 hl (by decide) rfl (fun ls hl => ?_)
  refine lv_iconst (v := 1) hx hb dLw_verdict_15 (by decide) ?_
  refine W.widen (k := 1) (n := 6) (by decide) (by decide) ?_
  exact W.iret (v := 1) hx hb hr (fun t ht hW => ⟨⟨1, (), rfl, rfl, trivial⟩, by rw [ht]; exact hz9, fun q h1 _ => by rw [ht]; exact hk9 q h1⟩) (fun q h => by cases h) dLw_verdict_16
set_option maxHeartbeats 4000000 in
set_option maxRecDepth 100000 in
/-- written(x, ..), thrown and caught -/
theorem h_writtenN (l : Launch) (hnt : l.stackTraces = false) (dC : Nat → ClassId) (dI : Nat → Nat → Nat) (x xa r : Nat) (cI cQ : ClassId) (ad : Nat → Nat → Nat) (z u0 : Int32) (hfx : s_lk z = 1) (o : Nat) : Met l yLw_written wsLw_written ({ frames := 10, cells := 1, slots := 6, locals := 220 }) (va_Pc [.ref x, .int z, .int u0, .ref o] (fun U => x_N U ∧ x_Z x_0 U U.heap ∧ va_P (dC, dI) vwCl (wV x xa r cQ ad) U.heap ∧ va_K (dC, dI) vwCl [(cI, .int), (cQ, .object RFo)] U)) (va_Qi (fun (r9 : Int32) (_ : Unit) => r9 = 1) (fun _ _ => True) x_0) 1 6 x_0 := by
  refine va_MetW (cc := cLw_written) (maxL := 5) (ret := (some .int)) (by decide) rfl ?_
  intro p e s m args below meth c s₁ B hml hv
  obtain ⟨rfl, hXN, hXZ, hP, hK⟩ := hv
  have hx := B.exec
  have hb := B.bytes
  have hr := B.returns
  have hts0 := atoms_spec (ws := wsLw_written) B.pre
  have hts := fun (w : Cond) (h : w ∈ lw_g) => hts0 w (List.mem_cons_of_mem _ h)
  have hown : s.vm.findClass RLw = some m.cls := findClass_of_methodNamed B.named
  have hlocks := B.notSynchronized
  have hl := lv_entry ([.ref x, .int z, .int u0, .ref o]) (n := 5) (Nat.le_of_ble_eq_true rfl)
  rw [lg_entry_eq]
  generalize (lg_sl ([.ref x, .int z, .int u0, .ref o]) ++ List.replicate (5 - (lg_sl ([.ref x, .int z, .int u0, .ref o])).length) Slot.unset).toArray = ls at hl ⊢
  have hl : lv_has ls 5 [(0, .ref x), (1, .int z), (2, .int u0), (3, .ref o)] := hl
  refine lv_aload_n hx hb dLw_written_0 rfl (lv_at hl 3 rfl) ?_
  refine lv_iconst (v := 0) hx hb dLw_written_1 (by decide) ?_
  refine lv_aload_n hx hb dLw_written_2 rfl (lv_at hl 0 rfl) ?_
  refine lv_iload_n hx hb dLw_written_3 rfl (lv_at hl 1 rfl) ?_
  refine lv_iload_n hx hb dLw_written_4 rfl (lv_at hl 2 rfl) ?_
  have hPc := hP.sub (ws' := (wV x xa r cQ ad)) [0, 1] rfl
  have hKc := hK.sub (tys' := [(cI, .int), (cQ, .object RFo)]) [0, 1] rfl
  have htb := vx_table (x := objectInit) B (hts0 _ List.mem_cons_self)
  refine x_call (A0 := x_0) (H0 := s.heap) (vx_runV (As := [.int z, .int u0]) (rest := [.int 0, .ref o]) ⟨hx, hb, hml, hown, hts⟩ (k_V_writtenN l hnt dC dI x xa r cI cQ ad z u0 hfx) (cwV 2 hts (gd_V in_252 in_254 in_255 in_112 in_253) rfl rfl rfl (by decide +kernel) ⟨Nat.le_of_ble_eq_true rfl, Nat.le_of_ble_eq_true rfl⟩) ⟨fun a U g mk q => by obtain ⟨q0, qN, qZ, qP, qK⟩ := q; exact ⟨q0, x_N.same rfl qN, x_Z.moved (u := U) (U := U.calling g mk a) (Vm.Alike.refl U.vm) qZ, qP, va_K.moved (u := U) (U := U.calling g mk a) (Vm.Alike.refl U.vm) qK⟩, va_recv hKc hPc (ci := 2) (q0 := 0) rfl rfl, fun U hU hW => ⟨rfl, x_N.warm hW hXN, by rw [hU]; exact x_Z.moved hW.alike hXZ, by rw [hU]; exact hPc, va_K.moved hW.alike hKc⟩⟩ rfl rfl hl.1 rfl (lv_room (Nat.le_of_ble_eq_true rfl)) dLw_written_5 ⟨Nat.le_of_ble_eq_true rfl, Nat.le_of_ble_eq_true rfl⟩) va_S.rf (fun ce q9 H hz9 hk9 hS hce hcv hcl => ?_)
  refine vx_catch (E := cIO) (name := cIO) hown [] ⟨0, 10, 13, 13⟩ [⟨0, 10, 17, 30⟩] (by rw [htb]; rfl) (fun z h => by cases h) (by decide) (by decide) (hts _ in_280) (va_Nw.use rfl hXN.1) hce hcv hcl ?_
  show W p l e _ s m _ below meth c H [] _ _ _ (F0 m 13 ls [.ref q9])
  refine lv_astore (lv' := [(4, .ref q9), (0, .ref x), (1, .int z), (2, .int u0), (3, .ref o)]) hx hb dLw_written_13 hl (by decide) rfl (fun ls hl => ?_)
  refine lv_iconst (v := 1) hx hb dLw_written_15 (by decide) ?_
  refine W.widen (k := 1) (n := 6) (by decide) (by decide) ?_
  exact W.iret (v := 1) hx hb hr (fun t ht hW => ⟨⟨1, (), rfl, rfl, trivial⟩, by rw [ht]; exact hz9, fun q h1 _ => by rw [ht]; exact hk9 q h1⟩) (fun q h => by cases h) dLw_written_16
set_option maxHeartbeats 4000000 in
set_option maxRecDepth 100000 in
/-- since(x, ..), thrown and caught -/
theorem h_sinceN (l : Launch) (hnt : l.stackTraces = false) (dC : Nat → ClassId) (dI : Nat → Nat → Nat) (x xa r : Nat) (cI cQ : ClassId) (ad : Nat → Nat → Nat) (z u0 : Int32) (hfx : s_lk z = 1) (o : Nat) : Met l yLw_since wsLw_since ({ frames := 10, cells := 1, slots := 6, locals := 220 }) (va_Pc [.ref x, .int z, .int u0, .ref o] (fun U => x_N U ∧ x_Z x_0 U U.heap ∧ va_P (dC, dI) vwCl (wV x xa r cQ ad) U.heap ∧ va_K (dC, dI) vwCl [(cI, .int), (cQ, .object RFo)] U)) (va_Qi (fun (r9 : Int32) (_ : Unit) => r9 = 1) (fun _ _ => True) x_0) 1 6 x_0 := by
  refine va_MetW (cc := cLw_since) (maxL := 5) (ret := (some .int)) (by decide) rfl ?_
  intro p e s m args below meth c s₁ B hml hv
  obtain ⟨rfl, hXN, hXZ, hP, hK⟩ := hv
  have hx := B.exec
  have hb := B.bytes
  have hr := B.returns
  have hts0 := atoms_spec (ws := wsLw_since) B.pre
  have hts := fun (w : Cond) (h : w ∈ lw_g) => hts0 w (List.mem_cons_of_mem _ h)
  have hown : s.vm.findClass RLw = some m.cls := findClass_of_methodNamed B.named
  have hlocks := B.notSynchronized
  have hl := lv_entry ([.ref x, .int z, .int u0, .ref o]) (n := 5) (Nat.le_of_ble_eq_true rfl)
  rw [lg_entry_eq]
  generalize (lg_sl ([.ref x, .int z, .int u0, .ref o]) ++ List.replicate (5 - (lg_sl ([.ref x, .int z, .int u0, .ref o])).length) Slot.unset).toArray = ls at hl ⊢
  have hl : lv_has ls 5 [(0, .ref x), (1, .int z), (2, .int u0), (3, .ref o)] := hl
  refine lv_aload_n hx hb dLw_since_0 rfl (lv_at hl 3 rfl) ?_
  refine lv_iconst (v := 0) hx hb dLw_since_1 (by decide) ?_
  refine lv_aload_n hx hb dLw_since_2 rfl (lv_at hl 0 rfl) ?_
  refine lv_iload_n hx hb dLw_since_3 rfl (lv_at hl 1 rfl) ?_
  refine lv_iload_n hx hb dLw_since_4 rfl (lv_at hl 2 rfl) ?_
  have hPc := hP.sub (ws' := (wV x xa r cQ ad)) [0, 1] rfl
  have hKc := hK.sub (tys' := [(cI, .int), (cQ, .object RFo)]) [0, 1] rfl
  have htb := vx_table (x := objectInit) B (hts0 _ List.mem_cons_self)
  refine x_call (A0 := x_0) (H0 := s.heap) (vx_runV (As := [.int z, .int u0]) (rest := [.int 0, .ref o]) ⟨hx, hb, hml, hown, hts⟩ (k_V_sinceN l hnt dC dI x xa r cI cQ ad z u0 hfx) (cwV 2 hts (gd_V in_256 in_258 in_259 in_112 in_257) rfl rfl rfl (by decide +kernel) ⟨Nat.le_of_ble_eq_true rfl, Nat.le_of_ble_eq_true rfl⟩) ⟨fun a U g mk q => by obtain ⟨q0, qN, qZ, qP, qK⟩ := q; exact ⟨q0, x_N.same rfl qN, x_Z.moved (u := U) (U := U.calling g mk a) (Vm.Alike.refl U.vm) qZ, qP, va_K.moved (u := U) (U := U.calling g mk a) (Vm.Alike.refl U.vm) qK⟩, va_recv hKc hPc (ci := 2) (q0 := 0) rfl rfl, fun U hU hW => ⟨rfl, x_N.warm hW hXN, by rw [hU]; exact x_Z.moved hW.alike hXZ, by rw [hU]; exact hPc, va_K.moved hW.alike hKc⟩⟩ rfl rfl hl.1 rfl (lv_room (Nat.le_of_ble_eq_true rfl)) dLw_since_5 ⟨Nat.le_of_ble_eq_true rfl, Nat.le_of_ble_eq_true rfl⟩) va_S.rf (fun ce q9 H hz9 hk9 hS hce hcv hcl => ?_)
  refine vx_catch (E := cIO) (name := cIO) hown [] ⟨0, 10, 13, 13⟩ [⟨0, 10, 17, 30⟩] (by rw [htb]; rfl) (fun z h => by cases h) (by decide) (by decide) (hts _ in_280) (va_Nw.use rfl hXN.1) hce hcv hcl ?_
  show W p l e _ s m _ below meth c H [] _ _ _ (F0 m 13 ls [.ref q9])
  refine lv_astore (lv' := [(4, .ref q9), (0, .ref x), (1, .int z), (2, .int u0), (3, .ref o)]) hx hb dLw_since_13 hl (by decide) rfl (fun ls hl => ?_)
  refine lv_iconst (v := 1) hx hb dLw_since_15 (by decide) ?_
  refine W.widen (k := 1) (n := 6) (by decide) (by decide) ?_
  exact W.iret (v := 1) hx hb hr (fun t ht hW => ⟨⟨1, (), rfl, rfl, trivial⟩, by rw [ht]; exact hz9, fun q h1 _ => by rw [ht]; exact hk9 q h1⟩) (fun q h => by cases h) dLw_since_16
set_option maxHeartbeats 4000000 in
set_option maxRecDepth 100000 in
/-- same(x, ..), thrown and caught -/
theorem h_sameN (l : Launch) (hnt : l.stackTraces = false) (dC : Nat → ClassId) (dI : Nat → Nat → Nat) (x xa r : Nat) (cI cQ : ClassId) (ad : Nat → Nat → Nat) (z u0 : Int32) (hfx : s_lk z = 1) (o : Nat) : Met l yLw_same wsLw_same ({ frames := 10, cells := 1, slots := 6, locals := 220 }) (va_Pc [.ref x, .int z, .int u0, .ref o] (fun U => x_N U ∧ x_Z x_0 U U.heap ∧ va_P (dC, dI) vwCl (wV x xa r cQ ad) U.heap ∧ va_K (dC, dI) vwCl [(cI, .int), (cQ, .object RFo)] U)) (va_Qi (fun (r9 : Int32) (_ : Unit) => r9 = 1) (fun _ _ => True) x_0) 1 6 x_0 := by
  refine va_MetW (cc := cLw_same) (maxL := 5) (ret := (some .int)) (by decide) rfl ?_
  intro p e s m args below meth c s₁ B hml hv
  obtain ⟨rfl, hXN, hXZ, hP, hK⟩ := hv
  have hx := B.exec
  have hb := B.bytes
  have hr := B.returns
  have hts0 := atoms_spec (ws := wsLw_same) B.pre
  have hts := fun (w : Cond) (h : w ∈ lw_g) => hts0 w (List.mem_cons_of_mem _ h)
  have hown : s.vm.findClass RLw = some m.cls := findClass_of_methodNamed B.named
  have hlocks := B.notSynchronized
  have hl := lv_entry ([.ref x, .int z, .int u0, .ref o]) (n := 5) (Nat.le_of_ble_eq_true rfl)
  rw [lg_entry_eq]
  generalize (lg_sl ([.ref x, .int z, .int u0, .ref o]) ++ List.replicate (5 - (lg_sl ([.ref x, .int z, .int u0, .ref o])).length) Slot.unset).toArray = ls at hl ⊢
  have hl : lv_has ls 5 [(0, .ref x), (1, .int z), (2, .int u0), (3, .ref o)] := hl
  refine lv_aload_n hx hb dLw_same_0 rfl (lv_at hl 3 rfl) ?_
  refine lv_iconst (v := 0) hx hb dLw_same_1 (by decide) ?_
  refine lv_aload_n hx hb dLw_same_2 rfl (lv_at hl 0 rfl) ?_
  refine lv_iload_n hx hb dLw_same_3 rfl (lv_at hl 1 rfl) ?_
  refine lv_iload_n hx hb dLw_same_4 rfl (lv_at hl 2 rfl) ?_
  have hPc := hP.sub (ws' := (wV x xa r cQ ad)) [0, 1] rfl
  have hKc := hK.sub (tys' := [(cI, .int), (cQ, .object RFo)]) [0, 1] rfl
  have htb := vx_table (x := objectInit) B (hts0 _ List.mem_cons_self)
  refine x_call (A0 := x_0) (H0 := s.heap) (vx_runV (As := [.int z, .int u0]) (rest := [.int 0, .ref o]) ⟨hx, hb, hml, hown, hts⟩ (k_V_sameN l hnt dC dI x xa r cI cQ ad z u0 hfx) (cwV 2 hts (gd_V in_264 in_266 in_267 in_112 in_265) rfl rfl rfl (by decide +kernel) ⟨Nat.le_of_ble_eq_true rfl, Nat.le_of_ble_eq_true rfl⟩) ⟨fun a U g mk q => by obtain ⟨q0, qN, qZ, qP, qK⟩ := q; exact ⟨q0, x_N.same rfl qN, x_Z.moved (u := U) (U := U.calling g mk a) (Vm.Alike.refl U.vm) qZ, qP, va_K.moved (u := U) (U := U.calling g mk a) (Vm.Alike.refl U.vm) qK⟩, va_recv hKc hPc (ci := 2) (q0 := 0) rfl rfl, fun U hU hW => ⟨rfl, x_N.warm hW hXN, by rw [hU]; exact x_Z.moved hW.alike hXZ, by rw [hU]; exact hPc, va_K.moved hW.alike hKc⟩⟩ rfl rfl hl.1 rfl (lv_room (Nat.le_of_ble_eq_true rfl)) dLw_same_5 ⟨Nat.le_of_ble_eq_true rfl, Nat.le_of_ble_eq_true rfl⟩) va_S.rf (fun ce q9 H hz9 hk9 hS hce hcv hcl => ?_)
  refine vx_catch (E := cIO) (name := cIO) hown [] ⟨0, 17, 20, 13⟩ [] (by rw [htb]; rfl) (fun z h => by cases h) (by decide) (by decide) (hts _ in_280) (va_Nw.use rfl hXN.1) hce hcv hcl ?_
  show W p l e _ s m _ below meth c H [] _ _ _ (F0 m 20 ls [.ref q9])
  refine lv_astore (lv' := [(4, .ref q9), (0, .ref x), (1, .int z), (2, .int u0), (3, .ref o)]) hx hb dLw_same_20 hl (by decide) rfl (fun ls hl => ?_)
  refine lv_iconst (v := 1) hx hb dLw_same_22 (by decide) ?_
  refine W.widen (k := 1) (n := 6) (by decide) (by decide) ?_
  exact W.iret (v := 1) hx hb hr (fun t ht hW => ⟨⟨1, (), rfl, rfl, trivial⟩, by rw [ht]; exact hz9, fun q h1 _ => by rw [ht]; exact hk9 q h1⟩) (fun q h => by cases h) dLw_same_23
set_option maxHeartbeats 4000000 in
set_option maxRecDepth 100000 in
/-- look(x, ..), thrown and caught -/
theorem h_lookN (l : Launch) (hnt : l.stackTraces = false) (dC : Nat → ClassId) (dI : Nat → Nat → Nat) (x xa r : Nat) (cI cQ : ClassId) (ad : Nat → Nat → Nat) (z u0 : Int32) (hfx : s_lk z = 1) (o : Nat) : Met l yLw_look wsLw_look ({ frames := 10, cells := 1, slots := 6, locals := 220 }) (va_Pc [.ref x, .int z, .int u0, .ref o] (fun U => x_N U ∧ x_Z x_0 U U.heap ∧ va_P (dC, dI) vwCl (wV x xa r cQ ad) U.heap ∧ va_K (dC, dI) vwCl [(cI, .int), (cQ, .object RFo)] U)) (va_Qi (fun (r9 : Int32) (_ : Unit) => r9 = 1) (fun _ _ => True) x_0) 1 6 x_0 := by
  refine va_MetW (cc := cLw_look) (maxL := 5) (ret := (some .int)) (by decide) rfl ?_
  intro p e s m args below meth c s₁ B hml hv
  obtain ⟨rfl, hXN, hXZ, hP, hK⟩ := hv
  have hx := B.exec
  have hb := B.bytes
  have hr := B.returns
  have hts0 := atoms_spec (ws := wsLw_look) B.pre
  have hts := fun (w : Cond) (h : w ∈ lw_g) => hts0 w (List.mem_cons_of_mem _ h)
  have hown : s.vm.findClass RLw = some m.cls := findClass_of_methodNamed B.named
  have hlocks := B.notSynchronized
  have hl := lv_entry ([.ref x, .int z, .int u0, .ref o]) (n := 5) (Nat.le_of_ble_eq_true rfl)
  rw [lg_entry_eq]
  generalize (lg_sl ([.ref x, .int z, .int u0, .ref o]) ++ List.replicate (5 - (lg_sl ([.ref x, .int z, .int u0, .ref o])).length) Slot.unset).toArray = ls at hl ⊢
  have hl : lv_has ls 5 [(0, .ref x), (1, .int z), (2, .int u0), (3, .ref o)] := hl
  refine lv_aload_n hx hb dLw_look_0 rfl (lv_at hl 3 rfl) ?_
  refine lv_iconst (v := 0) hx hb dLw_look_1 (by decide) ?_
  refine lv_aload_n hx hb dLw_look_2 rfl (lv_at hl 0 rfl) ?_
  refine lv_iload_n hx hb dLw_look_3 rfl (lv_at hl 1 rfl) ?_
  refine lv_iload_n hx hb dLw_look_4 rfl (lv_at hl 2 rfl) ?_
  have hPc := hP.sub (ws' := (wV x xa r cQ ad)) [0, 1] rfl
  have hKc := hK.sub (tys' := [(cI, .int), (cQ, .object RFo)]) [0, 1] rfl
  have htb := vx_table (x := objectInit) B (hts0 _ List.mem_cons_self)
  refine x_call (A0 := x_0) (H0 := s.heap) (vx_runV (As := [.int z, .int u0]) (rest := [.int 0, .ref o]) ⟨hx, hb, hml, hown, hts⟩ (k_V_lookN l hnt dC dI x xa r cI cQ ad z u0 hfx) (cwV 2 hts (gd_V in_260 in_262 in_263 in_112 in_261) rfl rfl rfl (by decide +kernel) ⟨Nat.le_of_ble_eq_true rfl, Nat.le_of_ble_eq_true rfl⟩) ⟨fun a U g mk q => by obtain ⟨q0, qN, qZ, qP, qK⟩ := q; exact ⟨q0, x_N.same rfl qN, x_Z.moved (u := U) (U := U.calling g mk a) (Vm.Alike.refl U.vm) qZ, qP, va_K.moved (u := U) (U := U.calling g mk a) (Vm.Alike.refl U.vm) qK⟩, va_recv hKc hPc (ci := 2) (q0 := 0) rfl rfl, fun U hU hW => ⟨rfl, x_N.warm hW hXN, by rw [hU]; exact x_Z.moved hW.alike hXZ, by rw [hU]; exact hPc, va_K.moved hW.alike hKc⟩⟩ rfl rfl hl.1 rfl (lv_room (Nat.le_of_ble_eq_true rfl)) dLw_look_5 ⟨Nat.le_of_ble_eq_true rfl, Nat.le_of_ble_eq_true rfl⟩) va_S.rf (fun ce q9 H hz9 hk9 hS hce hcv hcl => ?_)
  refine vx_catch (E := cIO) (name := cIO) hown [] ⟨0, 10, 13, 13⟩ [] (by rw [htb]; rfl) (fun z h => by cases h) (by decide) (by decide) (hts _ in_280) (va_Nw.use rfl hXN.1) hce hcv hcl ?_
  show W p l e _ s m _ below meth c H [] _ _ _ (F0 m 13 ls [.ref q9])
  refine lv_astore (lv' := [(4, .ref q9), (0, .ref x), (1, .int z), (2, .int u0), (3, .ref o)]) hx hb dLw_look_13 hl (by decide) rfl (fun ls hl => ?_)
  refine lv_iconst (v := 1) hx hb dLw_look_15 (by decide) ?_
  refine W.widen (k := 1) (n := 6) (by decide) (by decide) ?_
  exact W.iret (v := 1) hx hb hr (fun t ht hW => ⟨⟨1, (), rfl, rfl, trivial⟩, by rw [ht]; exact hz9, fun q h1 _ => by rw [ht]; exact hk9 q h1⟩) (fun q h => by cases h) dLw_look_16
set_option maxHeartbeats 4000000 in
set_option maxRecDepth 100000 in
/-- take(x, ..), thrown and caught -/
theorem h_takeN2 (l : Launch) (hnt : l.stackTraces = false) (dC : Nat → ClassId) (dI : Nat → Nat → Nat) (x xa r : Nat) (cI cQ : ClassId) (ad : Nat → Nat → Nat) (k : Nat) (hk4 : k < 4) (z : Int32) (hfx : s_lk z = 1) (o : Nat) : Met l yLw_take wsLw_take ({ frames := 10, cells := 1, slots := 6, locals := 220 }) (va_Pc [.ref x, .int (nI k), .int z, .ref o] (fun U => x_N U ∧ x_Z x_0 U U.heap ∧ va_P (dC, dI) vwCl (wV x xa r cQ ad) U.heap ∧ va_K (dC, dI) vwCl [(cI, .int), (cQ, .object RFo)] U)) (va_Qi (fun (r9 : Int32) (_ : Unit) => r9 = 1) (fun _ _ => True) x_0) 1 6 x_0 := by
  refine va_MetW (cc := cLw_take) (maxL := 5) (ret := (some .int)) (by decide) rfl ?_
  intro p e s m args below meth c s₁ B hml hv
  obtain ⟨rfl, hXN, hXZ, hP, hK⟩ := hv
  have hx := B.exec
  have hb := B.bytes
  have hr := B.returns
  have hts0 := atoms_spec (ws := wsLw_take) B.pre
  have hts := fun (w : Cond) (h : w ∈ lw_g) => hts0 w (List.mem_cons_of_mem _ h)
  have hown : s.vm.findClass RLw = some m.cls := findClass_of_methodNamed B.named
  have hlocks := B.notSynchronized
  have hl := lv_entry ([.ref x, .int (nI k), .int z, .ref o]) (n := 5) (Nat.le_of_ble_eq_true rfl)
  rw [lg_entry_eq]
  generalize (lg_sl ([.ref x, .int (nI k), .int z, .ref o]) ++ List.replicate (5 - (lg_sl ([.ref x, .int (nI k), .int z, .ref o])).length) Slot.unset).toArray = ls at hl ⊢
  have hl : lv_has ls 5 [(0, .ref x), (1, .int (nI k)), (2, .int z), (3, .ref o)] := hl
  refine lv_aload_n hx hb dLw_take_0 rfl (lv_at hl 3 rfl) ?_
  refine lv_iconst (v := 0) hx hb dLw_take_1 (by decide) ?_
  refine lv_aload_n hx hb dLw_take_2 rfl (lv_at hl 0 rfl) ?_
  refine lv_iload_n hx hb dLw_take_3 rfl (lv_at hl 1 rfl) ?_
  refine lv_iload_n hx hb dLw_take_4 rfl (lv_at hl 2 rfl) ?_
  have hPc := hP.sub (ws' := (wV x xa r cQ ad)) [0, 1] rfl
  have hKc := hK.sub (tys' := [(cI, .int), (cQ, .object RFo)]) [0, 1] rfl
  have htb := vx_table (x := objectInit) B (hts0 _ List.mem_cons_self)
  refine x_call (A0 := x_0) (H0 := s.heap) (vx_runV (As := [.int (nI k), .int z]) (rest := [.int 0, .ref o]) ⟨hx, hb, hml, hown, hts⟩ (k_V_takeN2 l hnt dC dI x xa r cI cQ ad k hk4 z hfx) (cwV 2 hts (gd_V in_268 in_270 in_271 in_112 in_269) rfl rfl rfl (by decide +kernel) ⟨Nat.le_of_ble_eq_true rfl, Nat.le_of_ble_eq_true rfl⟩) ⟨fun a U g mk q => by obtain ⟨q0, qN, qZ, qP, qK⟩ := q; exact ⟨q0, x_N.same rfl qN, x_Z.moved (u := U) (U := U.calling g mk a) (Vm.Alike.refl U.vm) qZ, qP, va_K.moved (u := U) (U := U.calling g mk a) (Vm.Alike.refl U.vm) qK⟩, va_recv hKc hPc (ci := 2) (q0 := 0) rfl rfl, fun U hU hW => ⟨rfl, x_N.warm hW hXN, by rw [hU]; exact x_Z.moved hW.alike hXZ, by rw [hU]; exact hPc, va_K.moved hW.alike hKc⟩⟩ rfl rfl hl.1 rfl (lv_room (Nat.le_of_ble_eq_true rfl)) dLw_take_5 ⟨Nat.le_of_ble_eq_true rfl, Nat.le_of_ble_eq_true rfl⟩) va_S.rf (fun ce q9 H hz9 hk9 hS hce hcv hcl => ?_)
  refine vx_catch (E := cIO) (name := cIO) hown [] ⟨0, 17, 20, 13⟩ [] (by rw [htb]; rfl) (fun z h => by cases h) (by decide) (by decide) (hts _ in_280) (va_Nw.use rfl hXN.1) hce hcv hcl ?_
  show W p l e _ s m _ below meth c H [] _ _ _ (F0 m 20 ls [.ref q9])
  refine lv_astore (lv' := [(4, .ref q9), (0, .ref x), (1, .int (nI k)), (2, .int z), (3, .ref o)]) hx hb dLw_take_20 hl (by decide) rfl (fun ls hl => ?_)
  refine lv_iconst (v := 1) hx hb dLw_take_22 (by decide) ?_
  refine W.widen (k := 1) (n := 6) (by decide) (by decide) ?_
  exact W.iret (v := 1) hx hb hr (fun t ht hW => ⟨⟨1, (), rfl, rfl, trivial⟩, by rw [ht]; exact hz9, fun q h1 _ => by rw [ht]; exact hk9 q h1⟩) (fun q h => by cases h) dLw_take_23
set_option maxHeartbeats 4000000 in
set_option maxRecDepth 100000 in
/-- same(x, ..), thrown and caught -/
theorem h_sameN2 (l : Launch) (hnt : l.stackTraces = false) (dC : Nat → ClassId) (dI : Nat → Nat → Nat) (x xa r : Nat) (cI cQ : ClassId) (ad : Nat → Nat → Nat) (k : Nat) (hk4 : k < 4) (z : Int32) (hfx : s_lk z = 1) (o : Nat) : Met l yLw_same wsLw_same ({ frames := 10, cells := 1, slots := 6, locals := 220 }) (va_Pc [.ref x, .int (nI k), .int z, .ref o] (fun U => x_N U ∧ x_Z x_0 U U.heap ∧ va_P (dC, dI) vwCl (wV x xa r cQ ad) U.heap ∧ va_K (dC, dI) vwCl [(cI, .int), (cQ, .object RFo)] U)) (va_Qi (fun (r9 : Int32) (_ : Unit) => r9 = 1) (fun _ _ => True) x_0) 1 6 x_0 := by
  refine va_MetW (cc := cLw_same) (maxL := 5) (ret := (some .int)) (by decide) rfl ?_
  intro p e s m args below meth c s₁ B hml hv
  obtain ⟨rfl, hXN, hXZ, hP, hK⟩ := hv
  have hx := B.exec
  have hb := B.bytes
  have hr := B.returns
  have hts0 := atoms_spec (ws := wsLw_same) B.pre
  have hts := fun (w : Cond) (h : w ∈ lw_g) => hts0 w (List.mem_cons_of_mem _ h)
  have hown : s.vm.findClass RLw = some m.cls := findClass_of_methodNamed B.named
  have hlocks := B.notSynchronized
  have hl := lv_entry ([.ref x, .int (nI k), .int z, .ref o]) (n := 5) (Nat.le_of_ble_eq_true rfl)
  rw [lg_entry_eq]
  generalize (lg_sl ([.ref x, .int (nI k), .int z, .ref o]) ++ List.replicate (5 - (lg_sl ([.ref x, .int (nI k), .int z, .ref o])).length) Slot.unset).toArray = ls at hl ⊢
  have hl : lv_has ls 5 [(0, .ref x), (1, .int (nI k)), (2, .int z), (3, .ref o)] := hl
  refine lv_aload_n hx hb dLw_same_0 rfl (lv_at hl 3 rfl) ?_
  refine lv_iconst (v := 0) hx hb dLw_same_1 (by decide) ?_
  refine lv_aload_n hx hb dLw_same_2 rfl (lv_at hl 0 rfl) ?_
  refine lv_iload_n hx hb dLw_same_3 rfl (lv_at hl 1 rfl) ?_
  refine lv_iload_n hx hb dLw_same_4 rfl (lv_at hl 2 rfl) ?_
  have hPc := hP.sub (ws' := (wV x xa r cQ ad)) [0, 1] rfl
  have hKc := hK.sub (tys' := [(cI, .int), (cQ, .object RFo)]) [0, 1] rfl
  have htb := vx_table (x := objectInit) B (hts0 _ List.mem_cons_self)
  refine x_call (A0 := x_0) (H0 := s.heap) (vx_runV (As := [.int (nI k), .int z]) (rest := [.int 0, .ref o]) ⟨hx, hb, hml, hown, hts⟩ (k_V_sameN2 l hnt dC dI x xa r cI cQ ad k hk4 z hfx) (cwV 2 hts (gd_V in_264 in_266 in_267 in_112 in_265) rfl rfl rfl (by decide +kernel) ⟨Nat.le_of_ble_eq_true rfl, Nat.le_of_ble_eq_true rfl⟩) ⟨fun a U g mk q => by obtain ⟨q0, qN, qZ, qP, qK⟩ := q; exact ⟨q0, x_N.same rfl qN, x_Z.moved (u := U) (U := U.calling g mk a) (Vm.Alike.refl U.vm) qZ, qP, va_K.moved (u := U) (U := U.calling g mk a) (Vm.Alike.refl U.vm) qK⟩, va_recv hKc hPc (ci := 2) (q0 := 0) rfl rfl, fun U hU hW => ⟨rfl, x_N.warm hW hXN, by rw [hU]; exact x_Z.moved hW.alike hXZ, by rw [hU]; exact hPc, va_K.moved hW.alike hKc⟩⟩ rfl rfl hl.1 rfl (lv_room (Nat.le_of_ble_eq_true rfl)) dLw_same_5 ⟨Nat.le_of_ble_eq_true rfl, Nat.le_of_ble_eq_true rfl⟩) va_S.rf (fun ce q9 H hz9 hk9 hS hce hcv hcl => ?_)
  refine vx_catch (E := cIO) (name := cIO) hown [] ⟨0, 17, 20, 13⟩ [] (by rw [htb]; rfl) (fun z h => by cases h) (by decide) (by decide) (hts _ in_280) (va_Nw.use rfl hXN.1) hce hcv hcl ?_
  show W p l e _ s m _ below meth c H [] _ _ _ (F0 m 20 ls [.ref q9])
  refine lv_astore (lv' := [(4, .ref q9), (0, .ref x), (1, .int (nI k)), (2, .int z), (3, .ref o)]) hx hb dLw_same_20 hl (by decide) rfl (fun ls hl => ?_)
  refine lv_iconst (v := 1) hx hb dLw_same_22 (by decide) ?_
  refine W.widen (k := 1) (n := 6) (by decide) (by decide) ?_
  exact W.iret (v := 1) hx hb hr (fun t ht hW => ⟨⟨1, (), rfl, rfl, trivial⟩, by rw [ht]; exact hz9, fun q h1 _ => by rw [ht]; exact hk9 q h1⟩) (fun q h => by cases h) dLw_same_23
set_option maxHeartbeats 4000000 in
set_option maxRecDepth 100000 in
/-- seq(x, ..), thrown and caught -/
theorem h_seqB (l : Launch) (hnt : l.stackTraces = false) (dC : Nat → ClassId) (dI : Nat → Nat → Nat) (x xa r : Nat) (cI cQ : ClassId) (ad : Nat → Nat → Nat) (k : Nat) (hk4 : k < 4) (z : Int32) (hz : s_in z = 0) (o : Nat) : Met l yLw_seq wsLw_seq ({ frames := 10, cells := 1, slots := 6, locals := 220 }) (va_Pc [.ref x, .int (nI k), .int z, .ref o] (fun U => x_N U ∧ x_Z x_0 U U.heap ∧ va_P (dC, dI) vwCl (wV x xa r cQ ad) U.heap ∧ va_K (dC, dI) vwCl [(cI, .int), (cQ, .object RFo)] U)) (va_Qi (fun (r9 : Int32) (_ : Unit) => r9 = 2) (fun _ _ => True) x_0) 1 6 x_0 := by
  refine va_MetW (cc := cLw_seq) (maxL := 5) (ret := (some .int)) (by decide) rfl ?_
  intro p e s m args below meth c s₁ B hml hv
  obtain ⟨rfl, hXN, hXZ, hP, hK⟩ := hv
  have hx := B.exec
  have hb := B.bytes
  have hr := B.returns
  have hts0 := atoms_spec (ws := wsLw_seq) B.pre
  have hts := fun (w : Cond) (h : w ∈ lw_g) => hts0 w (List.mem_cons_of_mem _ h)
  have hown : s.vm.findClass RLw = some m.cls := findClass_of_methodNamed B.named
  have hlocks := B.notSynchronized
  have hl := lv_entry ([.ref x, .int (nI k), .int z, .ref o]) (n := 5) (Nat.le_of_ble_eq_true rfl)
  rw [lg_entry_eq]
  generalize (lg_sl ([.ref x, .int (nI k), .int z, .ref o]) ++ List.replicate (5 - (lg_sl ([.ref x, .int (nI k), .int z, .ref o])).length) Slot.unset).toArray = ls at hl ⊢
  have hl : lv_has ls 5 [(0, .ref x), (1, .int (nI k)), (2, .int z), (3, .ref o)] := hl
  refine lv_aload_n hx hb dLw_seq_0 rfl (lv_at hl 3 rfl) ?_
  refine lv_iconst (v := 0) hx hb dLw_seq_1 (by decide) ?_
  refine lv_aload_n hx hb dLw_seq_2 rfl (lv_at hl 0 rfl) ?_
  refine lv_iload_n hx hb dLw_seq_3 rfl (lv_at hl 1 rfl) ?_
  refine lv_iload_n hx hb dLw_seq_4 rfl (lv_at hl 2 rfl) ?_
  have hPc := hP.sub (ws' := (wV x xa r cQ ad)) [0, 1] rfl
  have hKc := hK.sub (tys' := [(cI, .int), (cQ, .object RFo)]) [0, 1] rfl
  have htb := vx_table (x := objectInit) B (hts0 _ List.mem_cons_self)
  refine x_call (A0 := x_0) (H0 := s.heap) (vx_runV (As := [.int (nI k), .int z]) (rest := [.int 0, .ref o]) ⟨hx, hb, hml, hown, hts⟩ (k_V_seqB l hnt dC dI x xa r cI cQ ad k hk4 z hz) (cwV 2 hts (gd_V in_244 in_246 in_247 in_112 in_245) rfl rfl rfl (by decide +kernel) ⟨Nat.le_of_ble_eq_true rfl, Nat.le_of_ble_eq_true rfl⟩) ⟨fun a U g mk q => by obtain ⟨q0, qN, qZ, qP, qK⟩ := q; exact ⟨q0, x_N.same rfl qN, x_Z.moved (u := U) (U := U.calling g mk a) (Vm.Alike.refl U.vm) qZ, qP, va_K.moved (u := U) (U := U.calling g mk a) (Vm.Alike.refl U.vm) qK⟩, va_recv hKc hPc (ci := 2) (q0 := 0) rfl rfl, fun U hU hW => ⟨rfl, x_N.warm hW hXN, by rw [hU]; exact x_Z.moved hW.alike hXZ, by rw [hU]; exact hPc, va_K.moved hW.alike hKc⟩⟩ rfl rfl hl.1 rfl (lv_room (Nat.le_of_ble_eq_true rfl)) dLw_seq_5 ⟨Nat.le_of_ble_eq_true rfl, Nat.le_of_ble_eq_true rfl⟩) va_S.rf (fun ce q9 H hz9 hk9 hS hce hcv hcl => ?_)
  refine vx_catch (E := cIA) (name := cIA) hown [⟨0, 10, 13, 13⟩] ⟨0, 10, 17, 30⟩ [] (by rw [htb]; rfl) (fun z h => by cases List.mem_singleton.mp h; exact Or.inr ⟨by decide, cIO, (hts _ in_280), hXN.2.2.2.2.2.1⟩) (by decide) (by decide) (hts _ in_281) (va_Nw.use rfl hXN.2.1) hce hcv hcl ?_
  show W p l e _ s m _ below meth c H [] _ _ _ (F0 m 17 ls [.ref q9])
  refine lv_astore (lv' := [(4, .ref q9), (0, .ref x), (1, .int (nI k)), (2, .int z), (3, .ref o)]) hx hb dLw_seq_17 hl (by decide) rfl (fun ls hl => ?_)
  refine lv_iconst (v := 2) hx hb dLw_seq_19 (by decide) ?_
  refine W.widen (k := 1) (n := 6) (by decide) (by decide) ?_
  exact W.iret (v := 2) hx hb hr (fun t ht hW => ⟨⟨2, (), rfl, rfl, trivial⟩, by rw [ht]; exact hz9, fun q h1 _ => by rw [ht]; exact hk9 q h1⟩) (fun q h => by cases h) dLw_seq_20
set_option maxHeartbeats 4000000 in
set_option maxRecDepth 100000 in
/-- verdict(x, ..), thrown and caught -/
theorem h_verdictB (l : Launch) (hnt : l.stackTraces = false) (dC : Nat → ClassId) (dI : Nat → Nat → Nat) (x xa r : Nat) (cI cQ : ClassId) (ad : Nat → Nat → Nat) (k : Nat) (hk4 : k < 4) (z : Int32) (hz : s_in z = 0) (o : Nat) : Met l yLw_verdict wsLw_verdict ({ frames := 10, cells := 1, slots := 6, locals := 220 }) (va_Pc [.ref x, .int (nI k), .int z, .ref o] (fun U => x_N U ∧ x_Z x_0 U U.heap ∧ va_P (dC, dI) vwCl (wV x xa r cQ ad) U.heap ∧ va_K (dC, dI) vwCl [(cI, .int), (cQ, .object RFo)] U)) (va_Qi (fun (r9 : Int32) (_ : Unit) => r9 = 2) (fun _ _ => True) x_0) 1 6 x_0 := by
  refine va_MetW (cc := cLw_verdict) (maxL := 5) (ret := (some .int)) (by decide) rfl ?_
  intro p e s m args below meth c s₁ B hml hv
  obtain ⟨rfl, hXN, hXZ, hP, hK⟩ := hv
  have hx := B.exec
  have hb := B.bytes
  have hr := B.returns
  have hts0 := atoms_spec (ws := wsLw_verdict) B.pre
  have hts := fun (w : Cond) (h : w ∈ lw_g) => hts0 w (List.mem_cons_of_mem _ h)
  have hown : s.vm.findClass RLw = some m.cls := findClass_of_methodNamed B.named
  have hlocks := B.notSynchronized
  have hl := lv_entry ([.ref x, .int (nI k), .int z, .ref o]) (n := 5) (Nat.le_of_ble_eq_true rfl)
  rw [lg_entry_eq]
  generalize (lg_sl ([.ref x, .int (nI k), .int z, .ref o]) ++ List.replicate (5 - (lg_sl ([.ref x, .int (nI k), .int z, .ref o])).length) Slot.unset).toArray = ls at hl ⊢
  have hl : lv_has ls 5 [(0, .ref x), (1, .int (nI k)), (2, .int z), (3, .ref o)] := hl
  refine lv_aload_n hx hb dLw_verdict_0 rfl (lv_at hl 3 rfl) ?_
  refine lv_iconst (v := 0) hx hb dLw_verdict_1 (by decide) ?_
  refine lv_aload_n hx hb dLw_verdict_2 rfl (lv_at hl 0 rfl) ?_
  refine lv_iload_n hx hb dLw_verdict_3 rfl (lv_at hl 1 rfl) ?_
  refine lv_iload_n hx hb dLw_verdict_4 rfl (lv_at hl 2 rfl) ?_
  have hPc := hP.sub (ws' := (wV x xa r cQ ad)) [0, 1] rfl
  have hKc := hK.sub (tys' := [(cI, .int), (cQ, .object RFo)]) [0, 1] rfl
  have htb := vx_table (x := objectInit) B (hts0 _ List.mem_cons_self)
  refine x_call (A0 := x_0) (H0 := s.heap) (vx_runV (As := [.int (nI k), .int z]) (rest := [.int 0, .ref o]) ⟨hx, hb, hml, hown, hts⟩ (k_V_verdictB l hnt dC dI x xa r cI cQ ad k hk4 z hz) (cwV 2 hts (gd_V in_248 in_250 in_251 in_112 in_249) rfl rfl rfl (by decide +kernel) ⟨Nat.le_of_ble_eq_true rfl, Nat.le_of_ble_eq_true rfl⟩) ⟨fun a U g mk q => by obtain ⟨q0, qN, qZ, qP, qK⟩ := q; exact ⟨q0, x_N.same rfl qN, x_Z.moved (u := U) (U := U.calling g mk a) (Vm.Alike.refl U.vm) qZ, qP, va_K.moved (u := U) (U := U.calling g mk a) (Vm.Alike.refl U.vm) qK⟩, va_recv hKc hPc (ci := 2) (q0 := 0) rfl rfl, fun U hU hW => ⟨rfl, x_N.warm hW hXN, by rw [hU]; exact x_Z.moved hW.alike hXZ, by rw [hU]; exact hPc, va_K.moved hW.alike hKc⟩⟩ rfl rfl hl.1 rfl (lv_room (Nat.le_of_ble_eq_true rfl)) dLw_verdict_5 ⟨Nat.le_of_ble_eq_true rfl, Nat.le_of_ble_eq_true rfl⟩) va_S.rf (fun ce q9 H hz9 hk9 hS hce hcv hcl => ?_)
  refine vx_catch (E := cIA) (name := cIA) hown [⟨0, 10, 13, 13⟩] ⟨0, 10, 17, 30⟩ [] (by rw [htb]; rfl) (fun z h => by cases List.mem_singleton.mp h; exact Or.inr ⟨by decide, cIO, (hts _ in_280), hXN.2.2.2.2.2.1⟩) (by decide) (by decide) (hts _ in_281) (va_Nw.use rfl hXN.2.1) hce hcv hcl ?_
  show W p l e _ s m _ below meth c H [] _ _ _ (F0 m 17 ls [.ref q9])
  refine lv_astore (lv' := [(4, .ref q9), (0, .ref x), (1, .int (nI k)), (2, .int z), (3, .ref o)]) hx hb dLw_verdict_17 hl (by decide) rfl (fun ls hl => ?_)
  refine lv_iconst (v := 2) hx hb dLw_verdict_19 (by decide) ?_
  refine W.widen (k := 1) (n := 6) (by decide) (by decide) ?_
  exact W.iret (v := 2) hx hb hr (fun t ht hW => ⟨⟨2, (), rfl, rfl, trivial⟩, by rw [ht]; exact hz9, fun q h1 _ => by rw [ht]; exact hk9 q h1⟩) (fun q h => by cases h) dLw_verdict_20
set_option maxHeartbeats 4000000 in
set_option maxRecDepth 100000 in
/-- written(x, ..), thrown and caught -/
theorem h_writtenB (l : Launch) (hnt : l.stackTraces = false) (dC : Nat → ClassId) (dI : Nat → Nat → Nat) (x xa r : Nat) (cI cQ : ClassId) (ad : Nat → Nat → Nat) (k : Nat) (hk4 : k < 4) (z : Int32) (hz : s_in z = 0) (o : Nat) : Met l yLw_written wsLw_written ({ frames := 10, cells := 1, slots := 6, locals := 220 }) (va_Pc [.ref x, .int (nI k), .int z, .ref o] (fun U => x_N U ∧ x_Z x_0 U U.heap ∧ va_P (dC, dI) vwCl (wV x xa r cQ ad) U.heap ∧ va_K (dC, dI) vwCl [(cI, .int), (cQ, .object RFo)] U)) (va_Qi (fun (r9 : Int32) (_ : Unit) => r9 = 2) (fun _ _ => True) x_0) 1 6 x_0 := by
  refine va_MetW (cc := cLw_written) (maxL := 5) (ret := (some .int)) (by decide) rfl ?_
  intro p e s m args below meth c s₁ B hml hv
  obtain ⟨rfl, hXN, hXZ, hP, hK⟩ := hv
  have hx := B.exec
  have hb := B.bytes
  have hr := B.returns
  have hts0 := atoms_spec (ws := wsLw_written) B.pre
  have hts := fun (w : Cond) (h : w ∈ lw_g) => hts0 w (List.mem_cons_of_mem _ h)
  have hown : s.vm.findClass RLw = some m.cls := findClass_of_methodNamed B.named
  have hlocks := B.notSynchronized
  have hl := lv_entry ([.ref x, .int (nI k), .int z, .ref o]) (n := 5) (Nat.le_of_ble_eq_true rfl)
  rw [lg_entry_eq]
  generalize (lg_sl ([.ref x, .int (nI k), .int z, .ref o]) ++ List.replicate (5 - (lg_sl ([.ref x, .int (nI k), .int z, .ref o])).length) Slot.unset).toArray = ls at hl ⊢
  have hl : lv_has ls 5 [(0, .ref x), (1, .int (nI k)), (2, .int z), (3, .ref o)] := hl
  refine lv_aload_n hx hb dLw_written_0 rfl (lv_at hl 3 rfl) ?_
  refine lv_iconst (v := 0) hx hb dLw_written_1 (by decide) ?_
  refine lv_aload_n hx hb dLw_written_2 rfl (lv_at hl 0 rfl) ?_
  refine lv_iload_n hx hb dLw_written_3 rfl (lv_at hl 1 rfl) ?_
  refine lv_iload_n hx hb dLw_written_4 rfl (lv_at hl 2 rfl) ?_
  have hPc := hP.sub (ws' := (wV x xa r cQ ad)) [0, 1] rfl
  have hKc := hK.sub (tys' := [(cI, .int), (cQ, .object RFo)]) [0, 1] rfl
  have htb := vx_table (x := objectInit) B (hts0 _ List.mem_cons_self)
  refine x_call (A0 := x_0) (H0 := s.heap) (vx_runV (As := [.int (nI k), .int z]) (rest := [.int 0, .ref o]) ⟨hx, hb, hml, hown, hts⟩ (k_V_writtenB l hnt dC dI x xa r cI cQ ad k hk4 z hz) (cwV 2 hts (gd_V in_252 in_254 in_255 in_112 in_253) rfl rfl rfl (by decide +kernel) ⟨Nat.le_of_ble_eq_true rfl, Nat.le_of_ble_eq_true rfl⟩) ⟨fun a U g mk q => by obtain ⟨q0, qN, qZ, qP, qK⟩ := q; exact ⟨q0, x_N.same rfl qN, x_Z.moved (u := U) (U := U.calling g mk a) (Vm.Alike.refl U.vm) qZ, qP, va_K.moved (u := U) (U := U.calling g mk a) (Vm.Alike.refl U.vm) qK⟩, va_recv hKc hPc (ci := 2) (q0 := 0) rfl rfl, fun U hU hW => ⟨rfl, x_N.warm hW hXN, by rw [hU]; exact x_Z.moved hW.alike hXZ, by rw [hU]; exact hPc, va_K.moved hW.alike hKc⟩⟩ rfl rfl hl.1 rfl (lv_room (Nat.le_of_ble_eq_true rfl)) dLw_written_5 ⟨Nat.le_of_ble_eq_true rfl, Nat.le_of_ble_eq_true rfl⟩) va_S.rf (fun ce q9 H hz9 hk9 hS hce hcv hcl => ?_)
  refine vx_catch (E := cIA) (name := cIA) hown [⟨0, 10, 13, 13⟩] ⟨0, 10, 17, 30⟩ [] (by rw [htb]; rfl) (fun z h => by cases List.mem_singleton.mp h; exact Or.inr ⟨by decide, cIO, (hts _ in_280), hXN.2.2.2.2.2.1⟩) (by decide) (by decide) (hts _ in_281) (va_Nw.use rfl hXN.2.1) hce hcv hcl ?_
  show W p l e _ s m _ below meth c H [] _ _ _ (F0 m 17 ls [.ref q9])
  refine lv_astore (lv' := [(4, .ref q9), (0, .ref x), (1, .int (nI k)), (2, .int z), (3, .ref o)]) hx hb dLw_written_17 hl (by decide) rfl (fun ls hl => ?_)
  refine lv_iconst (v := 2) hx hb dLw_written_19 (by decide) ?_
  refine W.widen (k := 1) (n := 6) (by decide) (by decide) ?_
  exact W.iret (v := 2) hx hb hr (fun t ht hW => ⟨⟨2, (), rfl, rfl, trivial⟩, by rw [ht]; exact hz9, fun q h1 _ => by rw [ht]; exact hk9 q h1⟩) (fun q h => by cases h) dLw_written_20
set_option maxHeartbeats 4000000 in
set_option maxRecDepth 100000 in
/-- value(x, ..), thrown and caught -/
theorem h_valueB (l : Launch) (hnt : l.stackTraces = false) (dC : Nat → ClassId) (dI : Nat → Nat → Nat) (x xa r : Nat) (cI cQ : ClassId) (ad : Nat → Nat → Nat) (k : Nat) (hk4 : k < 4) (z u0 : Int32) (hz : s_in z = 0) (o : Nat) : Met l yLw_value wsLw_value ({ frames := 10, cells := 1, slots := 6, locals := 220 }) (va_Pc [.ref x, .int (nI k), .int z, .int u0, .ref o] (fun U => x_N U ∧ x_Z x_0 U U.heap ∧ va_P (dC, dI) vwCl (wV x xa r cQ ad) U.heap ∧ va_K (dC, dI) vwCl [(cI, .int), (cQ, .object RFo)] U)) (va_Qi (fun (r9 : Int32) (_ : Unit) => r9 = 2) (fun _ _ => True) x_0) 1 6 x_0 := by
  refine va_MetW (cc := cLw_value) (maxL := 6) (ret := (some .int)) (by decide) rfl ?_
  intro p e s m args below meth c s₁ B hml hv
  obtain ⟨rfl, hXN, hXZ, hP, hK⟩ := hv
  have hx := B.exec
  have hb := B.bytes
  have hr := B.returns
  have hts0 := atoms_spec (ws := wsLw_value) B.pre
  have hts := fun (w : Cond) (h : w ∈ lw_g) => hts0 w (List.mem_cons_of_mem _ h)
  have hown : s.vm.findClass RLw = some m.cls := findClass_of_methodNamed B.named
  have hlocks := B.notSynchronized
  have hl := lv_entry ([.ref x, .int (nI k), .int z, .int u0, .ref o]) (n := 6) (Nat.le_of_ble_eq_true rfl)
  rw [lg_entry_eq]
  generalize (lg_sl ([.ref x, .int (nI k), .int z, .int u0, .ref o]) ++ List.replicate (6 - (lg_sl ([.ref x, .int (nI k), .int z, .int u0, .ref o])).length) Slot.unset).toArray = ls at hl ⊢
  have hl : lv_has ls 6 [(0, .ref x), (1, .int (nI k)), (2, .int z), (3, .int u0), (4, .ref o)] := hl
  refine lv_aload hx hb dLw_value_0 (lv_at hl 4 rfl) ?_
  refine lv_iconst (v := 0) hx hb dLw_value_2 (by decide) ?_
  refine lv_aload_n hx hb dLw_value_3 rfl (lv_at hl 0 rfl) ?_
  refine lv_iload_n hx hb dLw_value_4 rfl (lv_at hl 1 rfl) ?_
  refine lv_iload_n hx hb dLw_value_5 rfl (lv_at hl 2 rfl) ?_
  refine lv_iload_n hx hb dLw_value_6 rfl (lv_at hl 3 rfl) ?_
  have hPc := hP.sub (ws' := (wV x xa r cQ ad)) [0, 1] rfl
  have hKc := hK.sub (tys' := [(cI, .int), (cQ, .object RFo)]) [0, 1] rfl
  have htb := vx_table (x := objectInit) B (hts0 _ List.mem_cons_self)
  refine x_call (A0 := x_0) (H0 := s.heap) (vx_runV (As := [.int (nI k), .int z, .int u0]) (rest := [.int 0, .ref o]) ⟨hx, hb, hml, hown, hts⟩ (k_V_valueB l hnt dC dI x xa r cI cQ ad k hk4 z u0 hz) (cwV 3 hts (gd_V in_240 in_242 in_243 in_112 in_241) rfl rfl rfl (by decide +kernel) ⟨Nat.le_of_ble_eq_true rfl, Nat.le_of_ble_eq_true rfl⟩) ⟨fun a U g mk q => by obtain ⟨q0, qN, qZ, qP, qK⟩ := q; exact ⟨q0, x_N.same rfl qN, x_Z.moved (u := U) (U := U.calling g mk a) (Vm.Alike.refl U.vm) qZ, qP, va_K.moved (u := U) (U := U.calling g mk a) (Vm.Alike.refl U.vm) qK⟩, va_recv hKc hPc (ci := 2) (q0 := 0) rfl rfl, fun U hU hW => ⟨rfl, x_N.warm hW hXN, by rw [hU]; exact x_Z.moved hW.alike hXZ, by rw [hU]; exact hPc, va_K.moved hW.alike hKc⟩⟩ rfl rfl hl.1 rfl (lv_room (Nat.le_of_ble_eq_true rfl)) dLw_value_7 ⟨Nat.le_of_ble_eq_true rfl, Nat.le_of_ble_eq_true rfl⟩) va_S.rf (fun ce q9 H hz9 hk9 hS hce hcv hcl => ?_)
  refine vx_catch (E := cIA) (name := cIA) hown [⟨0, 12, 15, 13⟩] ⟨0, 12, 19, 30⟩ [] (by rw [htb]; rfl) (fun z h => by cases List.mem_singleton.mp h; exact Or.inr ⟨by decide, cIO, (hts _ in_280), hXN.2.2.2.2.2.1⟩) (by decide) (by decide) (hts _ in_281) (va_Nw.use rfl hXN.2.1) hce hcv hcl ?_
  show W p l e _ s m _ below meth c H [] _ _ _ (F0 m 19 ls [.ref q9])
  refine lv_astore (lv' := [(5, .ref q9), (0, .ref x), (1, .int (nI k)), (2, .int z), (3, .int u0), (4, .ref o)]) hx hb dLw_value_19 hl (by decide) rfl (fun ls hl => ?_)
  refine lv_iconst (v := 2) hx hb dLw_value_21 (by decide) ?_
  refine W.widen (k := 1) (n := 6) (by decide) (by decide) ?_
  exact W.iret (v := 2) hx hb hr (fun t ht hW => ⟨⟨2, (), rfl, rfl, trivial⟩, by rw [ht]; exact hz9, fun q h1 _ => by rw [ht]; exact hk9 q h1⟩) (fun q h => by cases h) dLw_value_22
set_option maxHeartbeats 4000000 in
set_option maxRecDepth 100000 in
/-- value(x, ..), thrown and caught -/
theorem h_valueR (l : Launch) (hnt : l.stackTraces = false) (dC : Nat → ClassId) (dI : Nat → Nat → Nat) (x xa r : Nat) (cI cQ : ClassId) (ad : Nat → Nat → Nat) (ra : Nat) (k f1 f2 f3 f4 : Nat) (hk4 : k < 4) (fi : Nat → Int32) (fa : Nat → Nat → Int32) (z : Nat) (hz : z < 16) (t0 : Int32) (hbad : t0 < fi 2 ∨ ¬ t0 ≤ fi 1) (o : Nat) : Met l yLw_value wsLw_value ({ frames := 10, cells := 1, slots := 6, locals := 220 }) (va_Pc [.ref x, .int (nI k), .int (nI z), .int t0, .ref o] (fun U => x_N U ∧ x_Z x_0 U U.heap ∧ va_P (dC, dI) vwCl (wV x xa r cQ ad ++ wF (ad k 0) f1 f2 f3 f4 cI fi fa) U.heap ∧ va_K (dC, dI) vwCl [(cI, .int), (cQ, .object RFo)] U)) (va_Qi (fun (r9 : Int32) (_ : Unit) => r9 = 2) (fun _ _ => True) x_0) 1 6 x_0 := by
  refine va_MetW (cc := cLw_value) (maxL := 6) (ret := (some .int)) (by decide) rfl ?_
  intro p e s m args below meth c s₁ B hml hv
  obtain ⟨rfl, hXN, hXZ, hP, hK⟩ := hv
  have hx := B.exec
  have hb := B.bytes
  have hr := B.returns
  have hts0 := atoms_spec (ws := wsLw_value) B.pre
  have hts := fun (w : Cond) (h : w ∈ lw_g) => hts0 w (List.mem_cons_of_mem _ h)
  have hown : s.vm.findClass RLw = some m.cls := findClass_of_methodNamed B.named
  have hlocks := B.notSynchronized
  have hl := lv_entry ([.ref x, .int (nI k), .int (nI z), .int t0, .ref o]) (n := 6) (Nat.le_of_ble_eq_true rfl)
  rw [lg_entry_eq]
  generalize (lg_sl ([.ref x, .int (nI k), .int (nI z), .int t0, .ref o]) ++ List.replicate (6 - (lg_sl ([.ref x, .int (nI k), .int (nI z), .int t0, .ref o])).length) Slot.unset).toArray = ls at hl ⊢
  have hl : lv_has ls 6 [(0, .ref x), (1, .int (nI k)), (2, .int (nI z)), (3, .int t0), (4, .ref o)] := hl
  refine lv_aload hx hb dLw_value_0 (lv_at hl 4 rfl) ?_
  refine lv_iconst (v := 0) hx hb dLw_value_2 (by decide) ?_
  refine lv_aload_n hx hb dLw_value_3 rfl (lv_at hl 0 rfl) ?_
  refine lv_iload_n hx hb dLw_value_4 rfl (lv_at hl 1 rfl) ?_
  refine lv_iload_n hx hb dLw_value_5 rfl (lv_at hl 2 rfl) ?_
  refine lv_iload_n hx hb dLw_value_6 rfl (lv_at hl 3 rfl) ?_
  have hPc := hP.sub (ws' := (wV x xa r cQ ad ++ wF (ad k 0) f1 f2 f3 f4 cI fi fa)) [0, 1, 2, 3, 4, 5, 6] rfl
  have hKc := hK.sub (tys' := [(cI, .int), (cQ, .object RFo)]) [0, 1] rfl
  have htb := vx_table (x := objectInit) B (hts0 _ List.mem_cons_self)
  refine x_call (A0 := x_0) (H0 := s.heap) (vx_runV (As := [.int (nI k), .int (nI z), .int t0]) (rest := [.int 0, .ref o]) ⟨hx, hb, hml, hown, hts⟩ (k_V_valueR l hnt dC dI x xa r cI cQ ad ra k f1 f2 f3 f4 hk4 fi fa z hz t0 hbad) (cwV 3 hts (gd_V in_240 in_242 in_243 in_112 in_241) rfl rfl rfl (by decide +kernel) ⟨Nat.le_of_ble_eq_true rfl, Nat.le_of_ble_eq_true rfl⟩) ⟨fun a U g mk q => by obtain ⟨q0, qN, qZ, qP, qK⟩ := q; exact ⟨q0, x_N.same rfl qN, x_Z.moved (u := U) (U := U.calling g mk a) (Vm.Alike.refl U.vm) qZ, qP, va_K.moved (u := U) (U := U.calling g mk a) (Vm.Alike.refl U.vm) qK⟩, va_recv hKc hPc (ci := 2) (q0 := 0) rfl rfl, fun U hU hW => ⟨rfl, x_N.warm hW hXN, by rw [hU]; exact x_Z.moved hW.alike hXZ, by rw [hU]; exact hPc, va_K.moved hW.alike hKc⟩⟩ rfl rfl hl.1 rfl (lv_room (Nat.le_of_ble_eq_true rfl)) dLw_value_7 ⟨Nat.le_of_ble_eq_true rfl, Nat.le_of_ble_eq_true rfl⟩) va_S.rf (fun ce q9 H hz9 hk9 hS hce hcv hcl => ?_)
  refine vx_catch (E := cIA) (name := cIA) hown [⟨0, 12, 15, 13⟩] ⟨0, 12, 19, 30⟩ [] (by rw [htb]; rfl) (fun z h => by cases List.mem_singleton.mp h; exact Or.inr ⟨by decide, cIO, (hts _ in_280), hXN.2.2.2.2.2.1⟩) (by decide) (by decide) (hts _ in_281) (va_Nw.use rfl hXN.2.1) hce hcv hcl ?_
  show W p l e _ s m _ below meth c H [] _ _ _ (F0 m 19 ls [.ref q9])
  refine lv_astore (lv' := [(5, .ref q9), (0, .ref x), (1, .int (nI k)), (2, .int (nI z)), (3, .int t0), (4, .ref o)]) hx hb dLw_value_19 hl (by decide) rfl (fun ls hl => ?_)
  refine lv_iconst (v := 2) hx hb dLw_value_21 (by decide) ?_
  refine W.widen (k := 1) (n := 6) (by decide) (by decide) ?_
  exact W.iret (v := 2) hx hb hr (fun t ht hW => ⟨⟨2, (), rfl, rfl, trivial⟩, by rw [ht]; exact hz9, fun q h1 _ => by rw [ht]; exact hk9 q h1⟩) (fun q h => by cases h) dLw_value_22
set_option maxHeartbeats 4000000 in
set_option maxRecDepth 100000 in
/-- since(x, ..), thrown and caught -/
theorem h_sinceB (l : Launch) (hnt : l.stackTraces = false) (dC : Nat → ClassId) (dI : Nat → Nat → Nat) (x xa r : Nat) (cI cQ : ClassId) (ad : Nat → Nat → Nat) (ra : Nat) (k f1 f2 f3 f4 : Nat) (hk4 : k < 4) (fi : Nat → Int32) (fa : Nat → Nat → Int32) (z : Int32) (hbad : z < fi 1 - fi 0 ∨ ¬ z ≤ fi 1) (o : Nat) : Met l yLw_since wsLw_since ({ frames := 10, cells := 1, slots := 6, locals := 220 }) (va_Pc [.ref x, .int (nI k), .int z, .ref o] (fun U => x_N U ∧ x_Z x_0 U U.heap ∧ va_P (dC, dI) vwCl (wV x xa r cQ ad ++ wF (ad k 0) f1 f2 f3 f4 cI fi fa) U.heap ∧ va_K (dC, dI) vwCl [(cI, .int), (cQ, .object RFo)] U)) (va_Qi (fun (r9 : Int32) (_ : Unit) => r9 = 2) (fun _ _ => True) x_0) 1 6 x_0 := by
  refine va_MetW (cc := cLw_since) (maxL := 5) (ret := (some .int)) (by decide) rfl ?_
  intro p e s m args below meth c s₁ B hml hv
  obtain ⟨rfl, hXN, hXZ, hP, hK⟩ := hv
  have hx := B.exec
  have hb := B.bytes
  have hr := B.returns
  have hts0 := atoms_spec (ws := wsLw_since) B.pre
  have hts := fun (w : Cond) (h : w ∈ lw_g) => hts0 w (List.mem_cons_of_mem _ h)
  have hown : s.vm.findClass RLw = some m.cls := findClass_of_methodNamed B.named
  have hlocks := B.notSynchronized
  have hl := lv_entry ([.ref x, .int (nI k), .int z, .ref o]) (n := 5) (Nat.le_of_ble_eq_true rfl)
  rw [lg_entry_eq]
  generalize (lg_sl ([.ref x, .int (nI k), .int z, .ref o]) ++ List.replicate (5 - (lg_sl ([.ref x, .int (nI k), .int z, .ref o])).length) Slot.unset).toArray = ls at hl ⊢
  have hl : lv_has ls 5 [(0, .ref x), (1, .int (nI k)), (2, .int z), (3, .ref o)] := hl
  refine lv_aload_n hx hb dLw_since_0 rfl (lv_at hl 3 rfl) ?_
  refine lv_iconst (v := 0) hx hb dLw_since_1 (by decide) ?_
  refine lv_aload_n hx hb dLw_since_2 rfl (lv_at hl 0 rfl) ?_
  refine lv_iload_n hx hb dLw_since_3 rfl (lv_at hl 1 rfl) ?_
  refine lv_iload_n hx hb dLw_since_4 rfl (lv_at hl 2 rfl) ?_
  have hPc := hP.sub (ws' := (wV x xa r cQ ad ++ wF (ad k 0) f1 f2 f3 f4 cI fi fa)) [0, 1, 2, 3, 4, 5, 6] rfl
  have hKc := hK.sub (tys' := [(cI, .int), (cQ, .object RFo)]) [0, 1] rfl
  have htb := vx_table (x := objectInit) B (hts0 _ List.mem_cons_self)
  refine x_call (A0 := x_0) (H0 := s.heap) (vx_runV (As := [.int (nI k), .int z]) (rest := [.int 0, .ref o]) ⟨hx, hb, hml, hown, hts⟩ (k_V_sinceB l hnt dC dI x xa r cI cQ ad ra k f1 f2 f3 f4 hk4 fi fa z hbad) (cwV 2 hts (gd_V in_256 in_258 in_259 in_112 in_257) rfl rfl rfl (by decide +kernel) ⟨Nat.le_of_ble_eq_true rfl, Nat.le_of_ble_eq_true rfl⟩) ⟨fun a U g mk q => by obtain ⟨q0, qN, qZ, qP, qK⟩ := q; exact ⟨q0, x_N.same rfl qN, x_Z.moved (u := U) (U := U.calling g mk a) (Vm.Alike.refl U.vm) qZ, qP, va_K.moved (u := U) (U := U.calling g mk a) (Vm.Alike.refl U.vm) qK⟩, va_recv hKc hPc (ci := 2) (q0 := 0) rfl rfl, fun U hU hW => ⟨rfl, x_N.warm hW hXN, by rw [hU]; exact x_Z.moved hW.alike hXZ, by rw [hU]; exact hPc, va_K.moved hW.alike hKc⟩⟩ rfl rfl hl.1 rfl (lv_room (Nat.le_of_ble_eq_true rfl)) dLw_since_5 ⟨Nat.le_of_ble_eq_true rfl, Nat.le_of_ble_eq_true rfl⟩) va_S.rf (fun ce q9 H hz9 hk9 hS hce hcv hcl => ?_)
  refine vx_catch (E := cIA) (name := cIA) hown [⟨0, 10, 13, 13⟩] ⟨0, 10, 17, 30⟩ [] (by rw [htb]; rfl) (fun z h => by cases List.mem_singleton.mp h; exact Or.inr ⟨by decide, cIO, (hts _ in_280), hXN.2.2.2.2.2.1⟩) (by decide) (by decide) (hts _ in_281) (va_Nw.use rfl hXN.2.1) hce hcv hcl ?_
  show W p l e _ s m _ below meth c H [] _ _ _ (F0 m 17 ls [.ref q9])
  refine lv_astore (lv' := [(4, .ref q9), (0, .ref x), (1, .int (nI k)), (2, .int z), (3, .ref o)]) hx hb dLw_since_17 hl (by decide) rfl (fun ls hl => ?_)
  refine lv_iconst (v := 2) hx hb dLw_since_19 (by decide) ?_
  refine W.widen (k := 1) (n := 6) (by decide) (by decide) ?_
  exact W.iret (v := 2) hx hb hr (fun t ht hW => ⟨⟨2, (), rfl, rfl, trivial⟩, by rw [ht]; exact hz9, fun q h1 _ => by rw [ht]; exact hk9 q h1⟩) (fun q h => by cases h) dLw_since_20
