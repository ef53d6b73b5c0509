set_option maxHeartbeats 4000000 in
set_option maxRecDepth 100000 in
/-- test(x, ..) -/
theorem h_test (l : Launch) (dC : Nat → ClassId) (dI : Nat → Nat → Nat) (sz : Nat) (x xa r ra : Nat) (cI cQ : ClassId) (ad : Nat → Nat → Nat) (ri rv : Nat → Int32) (k f1 f2 f3 f4 : Nat) (hk4 : k < 4) (fi : Nat → Int32) (fa : Nat → Nat → Int32) (se : Nat) (hse : ri 0 = nI se) (hs16 : se < 16) (o : Nat) (cJ : ClassId) (og : Nat → Int64) : Met l yLw_test wsLw_test ({ frames := 6, cells := 0, slots := 0, locals := 240 }) (va_Pc [.ref x, .int (nI k), .ref o] (fun U => U.heap.size = sz ∧ va_P (dC, dI) vwCl (wV x xa r cQ ad ++ wR r ra cI ri rv ++ wF (ad k 0) f1 f2 f3 f4 cI fi fa ++ wO o cJ og) U.heap ∧ va_K (dC, dI) vwCl [(cI, .int), (cQ, .object RFo), (cJ, .long)] U ∧ va_D (fun _ => True) (wV x xa r cQ ad ++ wR r ra cI ri rv ++ wF (ad k 0) f1 f2 f3 f4 cI fi fa ++ wO o cJ og))) (va_Qi (fun (r9 : Int32) (_ : Unit) => r9 = 0) (fun _ t => va_P (dC, dI) vwCl (wV x xa r cQ ad ++ wR r ra cI ri rv ++ wF (ad k 0) f1 f2 f3 f4 cI fi fa ++ wO o cJ (vp_updL og 0 (s_dec fi fa ri se).toInt64)) t.heap ∧ va_K (dC, dI) vwCl [(cI, .int), (cQ, .object RFo), (cJ, .long)] t ∧ va_D (va_A (wV x xa r cQ ad ++ wR r ra cI ri rv ++ wF (ad k 0) f1 f2 f3 f4 cI fi fa ++ wO o cJ og) sz) (wV x xa r cQ ad ++ wR r ra cI ri rv ++ wF (ad k 0) f1 f2 f3 f4 cI fi fa ++ wO o cJ (vp_updL og 0 (s_dec fi fa ri se).toInt64))) (va_A (wV x xa r cQ ad ++ wR r ra cI ri rv ++ wF (ad k 0) f1 f2 f3 f4 cI fi fa ++ wO o cJ og) sz)) 0 0 (va_A (wV x xa r cQ ad ++ wR r ra cI ri rv ++ wF (ad k 0) f1 f2 f3 f4 cI fi fa ++ wO o cJ og) sz) := by
  refine va_MetW (cc := cLw_test) (maxL := 4) (ret := (some .int)) (by decide) rfl ?_
  intro p e s m args below meth c s₁ B hml hv
  obtain ⟨rfl, hsz, hP, hK, hD0⟩ := hv
  have hx := B.exec
  have hb := B.bytes
  have hr := B.returns
  have hts0 := atoms_spec (ws := wsLw_test) B.pre
  have hts := fun (w : Cond) (h : w ∈ lw_g) => hts0 w (List.mem_cons_of_mem _ h)
  have hown : s.vm.findClass RLw = some m.cls := findClass_of_methodNamed B.named
  have hlocks := B.notSynchronized
  subst hsz
  have hD := hD0.self (sz := s.heap.size)
  generalize hAe : va_A (wV x xa r cQ ad ++ wR r ra cI ri rv ++ wF (ad k 0) f1 f2 f3 f4 cI fi fa ++ wO o cJ og) s.heap.size = A at hD ⊢
  have hA : ∀ q : Nat, s.heap.size ≤ q → A q := fun q h => by rw [← hAe]; exact Or.inr h
  have hS : va_S A s.heap s.heap [] := va_S.rf
  have hP : va_P (dC, dI) vwCl (wV x xa r cQ ad ++ wR r ra cI ri rv ++ wF (ad k 0) f1 f2 f3 f4 cI fi fa ++ wO o cJ og) s.heap := hP
  have hl := lv_entry ([.ref x, .int (nI k), .ref o]) (n := 4) (Nat.le_of_ble_eq_true rfl)
  rw [lg_entry_eq]
  generalize (lg_sl ([.ref x, .int (nI k), .ref o]) ++ List.replicate (4 - (lg_sl ([.ref x, .int (nI k), .ref o])).length) Slot.unset).toArray = ls at hl ⊢
  have hl : lv_has ls 4 [(0, .ref x), (1, .int (nI k)), (2, .ref o)] := hl
  refine lv_aload_n hx hb dLw_test_0 rfl (lv_at hl 2 rfl) ?_
  refine lv_iconst (v := 0) hx hb dLw_test_1 (by decide) ?_
  refine lv_aload_n hx hb dLw_test_2 rfl (lv_at hl 0 rfl) ?_
  refine lv_iload_n hx hb dLw_test_3 rfl (lv_at hl 1 rfl) ?_
  have hPc := hP.sub (ws' := (wV x xa r cQ ad ++ wR r ra cI ri rv ++ wF (ad k 0) f1 f2 f3 f4 cI fi fa)) [0, 1, 2, 3, 4, 5, 6, 7, 8] rfl
  have hKc := hK.sub (tys' := [(cI, .int), (cQ, .object RFo)]) [0, 1] rfl
  refine vp_callSi (W.runV (As := [.int (nI k)]) (rest := [.int 0, .ref o]) ⟨hx, hb, hml, hown, hts⟩ (k_V_test l dC dI x xa r ra cI cQ ad ri rv k f1 f2 f3 f4 hk4 fi fa se hse hs16) (cwV 1 hts (gd_V in_236 in_238 in_239 in_112 in_237) rfl rfl rfl (by decide +kernel) ⟨Nat.le_of_ble_eq_true rfl, Nat.le_of_ble_eq_true rfl⟩) ⟨fun a U g mk q => by obtain ⟨q0, qP, qK⟩ := q; exact ⟨q0, qP, va_K.moved (u := U) (U := U.calling g mk a) (Vm.Alike.refl U.vm) qK⟩, va_recv hKc hPc (ci := 2) (q0 := 0) rfl rfl, fun U hU hW => ⟨rfl, by rw [hU]; exact hPc, va_K.moved hW.alike hKc⟩⟩ rfl rfl hl.1 rfl (lv_room (Nat.le_of_ble_eq_true rfl)) dLw_test_4 ⟨Nat.le_of_ble_eq_true rfl, Nat.le_of_ble_eq_true rfl⟩) (fun r_1 er_2 => ?_)
  subst er_2
  refine lv_i2l (v := (s_dec fi fa ri se).toInt64) hx hb dLw_test_7 rfl ?_
  refine vq_last (k := 0) (f := og) hx hb hK hP hD hS 9 2 rfl rfl nI_0.symm (by decide) (by decide) dLw_test_8 (fun H locs hP hD hS => ?_)
  have hP : va_P (dC, dI) vwCl (wV x xa r cQ ad ++ wR r ra cI ri rv ++ wF (ad k 0) f1 f2 f3 f4 cI fi fa ++ wO o cJ (vp_updL og 0 ((s_dec fi fa ri se).toInt64))) H := hP
  have hD : va_D A (wV x xa r cQ ad ++ wR r ra cI ri rv ++ wF (ad k 0) f1 f2 f3 f4 cI fi fa ++ wO o cJ (vp_updL og 0 ((s_dec fi fa ri se).toInt64))) := hD
  refine lv_goto (tgt := 15) hx hb dLw_test_9 (by decide) ?_
  refine lv_iconst (v := 0) hx hb dLw_test_15 (by decide) ?_
  have hP9 : va_P (dC, dI) vwCl (wV x xa r cQ ad ++ wR r ra cI ri rv ++ wF (ad k 0) f1 f2 f3 f4 cI fi fa ++ wO o cJ (vp_updL og 0 (s_dec fi fa ri se).toInt64)) H := by exact hP
  have hD9 : va_D A (wV x xa r cQ ad ++ wR r ra cI ri rv ++ wF (ad k 0) f1 f2 f3 f4 cI fi fa ++ wO o cJ (vp_updL og 0 (s_dec fi fa ri se).toInt64)) := by exact hD
  exact W.iret (v := 0) hx hb hr (fun t ht hW => ⟨⟨0, (), rfl, rfl, by rw [ht]; exact hP9, va_K.moved hW.alike hK, hD9⟩, hS.F ht⟩) hS.2.2 dLw_test_16
set_option maxHeartbeats 4000000 in
set_option maxRecDepth 100000 in
/-- value(x, ..) -/
theorem h_value (l : Launch) (dC : Nat → ClassId) (dI : Nat → Nat → Nat) (sz : Nat) (x xa r ra : Nat) (cI cQ : ClassId) (ad : Nat → Nat → Nat) (ri rv : Nat → Int32) (k f1 f2 f3 f4 : Nat) (hk4 : k < 4) (fi : Nat → Int32) (fa : Nat → Nat → Int32) (z t0 : Nat) (hz : z < 16) (ht31 : t0 < 2 ^ 31) (hlo : ¬ nI t0 < fi 2) (hhi : nI t0 ≤ fi 1) (o : Nat) (cJ : ClassId) (og : Nat → Int64) : Met l yLw_value wsLw_value ({ frames := 6, cells := 0, slots := 0, locals := 240 }) (va_Pc [.ref x, .int (nI k), .int (nI z), .int (nI t0), .ref o] (fun U => U.heap.size = sz ∧ va_P (dC, dI) vwCl (wV x xa r cQ ad ++ wR r ra cI ri rv ++ wF (ad k 0) f1 f2 f3 f4 cI fi fa ++ wO o cJ og) U.heap ∧ va_K (dC, dI) vwCl [(cI, .int), (cQ, .object RFo), (cJ, .long)] U ∧ va_D (fun _ => True) (wV x xa r cQ ad ++ wR r ra cI ri rv ++ wF (ad k 0) f1 f2 f3 f4 cI fi fa ++ wO o cJ og))) (va_Qi (fun (r9 : Int32) (_ : Unit) => r9 = 0) (fun _ t => va_P (dC, dI) vwCl (wV x xa r cQ ad ++ wR r ra cI ri rv ++ wF (ad k 0) f1 f2 f3 f4 cI fi fa ++ wO o cJ (vp_updL og 0 (fa 0 (t0 % 17 * 16 + z)).toInt64)) t.heap ∧ va_K (dC, dI) vwCl [(cI, .int), (cQ, .object RFo), (cJ, .long)] t ∧ va_D (va_A (wV x xa r cQ ad ++ wR r ra cI ri rv ++ wF (ad k 0) f1 f2 f3 f4 cI fi fa ++ wO o cJ og) sz) (wV x xa r cQ ad ++ wR r ra cI ri rv ++ wF (ad k 0) f1 f2 f3 f4 cI fi fa ++ wO o cJ (vp_updL og 0 (fa 0 (t0 % 17 * 16 + z)).toInt64))) (va_A (wV x xa r cQ ad ++ wR r ra cI ri rv ++ wF (ad k 0) f1 f2 f3 f4 cI fi fa ++ wO o cJ og) sz)) 0 0 (va_A (wV x xa r cQ ad ++ wR r ra cI ri rv ++ wF (ad k 0) f1 f2 f3 f4 cI fi fa ++ wO o cJ og) sz) := by
  refine va_MetW (cc := cLw_value) (maxL := 6) (ret := (some .int)) (by decide) rfl ?_
  intro p e s m args below meth c s₁ B hml hv
  obtain ⟨rfl, hsz, hP, hK, hD0⟩ := hv
  have hx := B.exec
  have hb := B.bytes
  have hr := B.returns
  have hts0 := atoms_spec (ws := wsLw_value) B.pre
  have hts := fun (w : Cond) (h : w ∈ lw_g) => hts0 w (List.mem_cons_of_mem _ h)
  have hown : s.vm.findClass RLw = some m.cls := findClass_of_methodNamed B.named
  have hlocks := B.notSynchronized
  subst hsz
  have hD := hD0.self (sz := s.heap.size)
  generalize hAe : va_A (wV x xa r cQ ad ++ wR r ra cI ri rv ++ wF (ad k 0) f1 f2 f3 f4 cI fi fa ++ wO o cJ og) s.heap.size = A at hD ⊢
  have hA : ∀ q : Nat, s.heap.size ≤ q → A q := fun q h => by rw [← hAe]; exact Or.inr h
  have hS : va_S A s.heap s.heap [] := va_S.rf
  have hP : va_P (dC, dI) vwCl (wV x xa r cQ ad ++ wR r ra cI ri rv ++ wF (ad k 0) f1 f2 f3 f4 cI fi fa ++ wO o cJ og) s.heap := hP
  have hl := lv_entry ([.ref x, .int (nI k), .int (nI z), .int (nI t0), .ref o]) (n := 6) (Nat.le_of_ble_eq_true rfl)
  rw [lg_entry_eq]
  generalize (lg_sl ([.ref x, .int (nI k), .int (nI z), .int (nI t0), .ref o]) ++ List.replicate (6 - (lg_sl ([.ref x, .int (nI k), .int (nI z), .int (nI t0), .ref o])).length) Slot.unset).toArray = ls at hl ⊢
  have hl : lv_has ls 6 [(0, .ref x), (1, .int (nI k)), (2, .int (nI z)), (3, .int (nI t0)), (4, .ref o)] := hl
  refine lv_aload hx hb dLw_value_0 (lv_at hl 4 rfl) ?_
  refine lv_iconst (v := 0) hx hb dLw_value_2 (by decide) ?_
  refine lv_aload_n hx hb dLw_value_3 rfl (lv_at hl 0 rfl) ?_
  refine lv_iload_n hx hb dLw_value_4 rfl (lv_at hl 1 rfl) ?_
  refine lv_iload_n hx hb dLw_value_5 rfl (lv_at hl 2 rfl) ?_
  refine lv_iload_n hx hb dLw_value_6 rfl (lv_at hl 3 rfl) ?_
  have hPc := hP.sub (ws' := (wV x xa r cQ ad ++ wR r ra cI ri rv ++ wF (ad k 0) f1 f2 f3 f4 cI fi fa)) [0, 1, 2, 3, 4, 5, 6, 7, 8] rfl
  have hKc := hK.sub (tys' := [(cI, .int), (cQ, .object RFo)]) [0, 1] rfl
  refine vp_callSi (W.runV (As := [.int (nI k), .int (nI z), .int (nI t0)]) (rest := [.int 0, .ref o]) ⟨hx, hb, hml, hown, hts⟩ (k_V_value l dC dI x xa r ra cI cQ ad ri rv k f1 f2 f3 f4 hk4 fi fa z t0 hz ht31 hlo hhi) (cwV 3 hts (gd_V in_240 in_242 in_243 in_112 in_241) rfl rfl rfl (by decide +kernel) ⟨Nat.le_of_ble_eq_true rfl, Nat.le_of_ble_eq_true rfl⟩) ⟨fun a U g mk q => by obtain ⟨q0, qP, qK⟩ := q; exact ⟨q0, qP, va_K.moved (u := U) (U := U.calling g mk a) (Vm.Alike.refl U.vm) qK⟩, va_recv hKc hPc (ci := 2) (q0 := 0) rfl rfl, fun U hU hW => ⟨rfl, by rw [hU]; exact hPc, va_K.moved hW.alike hKc⟩⟩ rfl rfl hl.1 rfl (lv_room (Nat.le_of_ble_eq_true rfl)) dLw_value_7 ⟨Nat.le_of_ble_eq_true rfl, Nat.le_of_ble_eq_true rfl⟩) (fun r_1 er_2 => ?_)
  subst er_2
  refine lv_i2l (v := (fa 0 (t0 % 17 * 16 + z)).toInt64) hx hb dLw_value_10 rfl ?_
  refine vq_last (k := 0) (f := og) hx hb hK hP hD hS 9 2 rfl rfl nI_0.symm (by decide) (by decide) dLw_value_11 (fun H locs hP hD hS => ?_)
  have hP : va_P (dC, dI) vwCl (wV x xa r cQ ad ++ wR r ra cI ri rv ++ wF (ad k 0) f1 f2 f3 f4 cI fi fa ++ wO o cJ (vp_updL og 0 ((fa 0 (t0 % 17 * 16 + z)).toInt64))) H := hP
  have hD : va_D A (wV x xa r cQ ad ++ wR r ra cI ri rv ++ wF (ad k 0) f1 f2 f3 f4 cI fi fa ++ wO o cJ (vp_updL og 0 ((fa 0 (t0 % 17 * 16 + z)).toInt64))) := hD
  refine lv_goto (tgt := 23) hx hb dLw_value_12 (by decide) ?_
  refine lv_iconst (v := 0) hx hb dLw_value_23 (by decide) ?_
  have hP9 : va_P (dC, dI) vwCl (wV x xa r cQ ad ++ wR r ra cI ri rv ++ wF (ad k 0) f1 f2 f3 f4 cI fi fa ++ wO o cJ (vp_updL og 0 (fa 0 (t0 % 17 * 16 + z)).toInt64)) H := by exact hP
  have hD9 : va_D A (wV x xa r cQ ad ++ wR r ra cI ri rv ++ wF (ad k 0) f1 f2 f3 f4 cI fi fa ++ wO o cJ (vp_updL og 0 (fa 0 (t0 % 17 * 16 + z)).toInt64)) := by exact hD
  exact W.iret (v := 0) hx hb hr (fun t ht hW => ⟨⟨0, (), rfl, rfl, by rw [ht]; exact hP9, va_K.moved hW.alike hK, hD9⟩, hS.F ht⟩) hS.2.2 dLw_value_24
set_option maxHeartbeats 4000000 in
set_option maxRecDepth 100000 in
/-- seq(x, ..) -/
theorem h_seq (l : Launch) (dC : Nat → ClassId) (dI : Nat → Nat → Nat) (sz : Nat) (x xa r ra : Nat) (cI cQ : ClassId) (ad : Nat → Nat → Nat) (ri rv : Nat → Int32) (k f1 f2 f3 f4 : Nat) (hk4 : k < 4) (fi : Nat → Int32) (fa : Nat → Nat → Int32) (z : Nat) (hz : z < 16) (o : Nat) (cJ : ClassId) (og : Nat → Int64) : Met l yLw_seq wsLw_seq ({ frames := 6, cells := 0, slots := 0, locals := 240 }) (va_Pc [.ref x, .int (nI k), .int (nI z), .ref o] (fun U => U.heap.size = sz ∧ va_P (dC, dI) vwCl (wV x xa r cQ ad ++ wR r ra cI ri rv ++ wF (ad k 0) f1 f2 f3 f4 cI fi fa ++ wO o cJ og) U.heap ∧ va_K (dC, dI) vwCl [(cI, .int), (cQ, .object RFo), (cJ, .long)] U ∧ va_D (fun _ => True) (wV x xa r cQ ad ++ wR r ra cI ri rv ++ wF (ad k 0) f1 f2 f3 f4 cI fi fa ++ wO o cJ og))) (va_Qi (fun (r9 : Int32) (_ : Unit) => r9 = 0) (fun _ t => va_P (dC, dI) vwCl (wV x xa r cQ ad ++ wR r ra cI ri rv ++ wF (ad k 0) f1 f2 f3 f4 cI fi fa ++ wO o cJ (vp_updL og 0 (fa 2 z).toInt64)) t.heap ∧ va_K (dC, dI) vwCl [(cI, .int), (cQ, .object RFo), (cJ, .long)] t ∧ va_D (va_A (wV x xa r cQ ad ++ wR r ra cI ri rv ++ wF (ad k 0) f1 f2 f3 f4 cI fi fa ++ wO o cJ og) sz) (wV x xa r cQ ad ++ wR r ra cI ri rv ++ wF (ad k 0) f1 f2 f3 f4 cI fi fa ++ wO o cJ (vp_updL og 0 (fa 2 z).toInt64))) (va_A (wV x xa r cQ ad ++ wR r ra cI ri rv ++ wF (ad k 0) f1 f2 f3 f4 cI fi fa ++ wO o cJ og) sz)) 0 0 (va_A (wV x xa r cQ ad ++ wR r ra cI ri rv ++ wF (ad k 0) f1 f2 f3 f4 cI fi fa ++ wO o cJ og) sz) := by
  refine va_MetW (cc := cLw_seq) (maxL := 5) (ret := (some .int)) (by decide) rfl ?_
  intro p e s m args below meth c s₁ B hml hv
  obtain ⟨rfl, hsz, hP, hK, hD0⟩ := hv
  have hx := B.exec
  have hb := B.bytes
  have hr := B.returns
  have hts0 := atoms_spec (ws := wsLw_seq) B.pre
  have hts := fun (w : Cond) (h : w ∈ lw_g) => hts0 w (List.mem_cons_of_mem _ h)
  have hown : s.vm.findClass RLw = some m.cls := findClass_of_methodNamed B.named
  have hlocks := B.notSynchronized
  subst hsz
  have hD := hD0.self (sz := s.heap.size)
  generalize hAe : va_A (wV x xa r cQ ad ++ wR r ra cI ri rv ++ wF (ad k 0) f1 f2 f3 f4 cI fi fa ++ wO o cJ og) s.heap.size = A at hD ⊢
  have hA : ∀ q : Nat, s.heap.size ≤ q → A q := fun q h => by rw [← hAe]; exact Or.inr h
  have hS : va_S A s.heap s.heap [] := va_S.rf
  have hP : va_P (dC, dI) vwCl (wV x xa r cQ ad ++ wR r ra cI ri rv ++ wF (ad k 0) f1 f2 f3 f4 cI fi fa ++ wO o cJ og) s.heap := hP
  have hl := lv_entry ([.ref x, .int (nI k), .int (nI z), .ref o]) (n := 5) (Nat.le_of_ble_eq_true rfl)
  rw [lg_entry_eq]
  generalize (lg_sl ([.ref x, .int (nI k), .int (nI z), .ref o]) ++ List.replicate (5 - (lg_sl ([.ref x, .int (nI k), .int (nI z), .ref o])).length) Slot.unset).toArray = ls at hl ⊢
  have hl : lv_has ls 5 [(0, .ref x), (1, .int (nI k)), (2, .int (nI z)), (3, .ref o)] := hl
  refine lv_aload_n hx hb dLw_seq_0 rfl (lv_at hl 3 rfl) ?_
  refine lv_iconst (v := 0) hx hb dLw_seq_1 (by decide) ?_
  refine lv_aload_n hx hb dLw_seq_2 rfl (lv_at hl 0 rfl) ?_
  refine lv_iload_n hx hb dLw_seq_3 rfl (lv_at hl 1 rfl) ?_
  refine lv_iload_n hx hb dLw_seq_4 rfl (lv_at hl 2 rfl) ?_
  have hPc := hP.sub (ws' := (wV x xa r cQ ad ++ wR r ra cI ri rv ++ wF (ad k 0) f1 f2 f3 f4 cI fi fa)) [0, 1, 2, 3, 4, 5, 6, 7, 8] rfl
  have hKc := hK.sub (tys' := [(cI, .int), (cQ, .object RFo)]) [0, 1] rfl
  refine vp_callSi (W.runV (As := [.int (nI k), .int (nI z)]) (rest := [.int 0, .ref o]) ⟨hx, hb, hml, hown, hts⟩ (k_V_seq l dC dI x xa r ra cI cQ ad ri rv k f1 f2 f3 f4 hk4 fi fa z hz) (cwV 2 hts (gd_V in_244 in_246 in_247 in_112 in_245) rfl rfl rfl (by decide +kernel) ⟨Nat.le_of_ble_eq_true rfl, Nat.le_of_ble_eq_true rfl⟩) ⟨fun a U g mk q => by obtain ⟨q0, qP, qK⟩ := q; exact ⟨q0, qP, va_K.moved (u := U) (U := U.calling g mk a) (Vm.Alike.refl U.vm) qK⟩, va_recv hKc hPc (ci := 2) (q0 := 0) rfl rfl, fun U hU hW => ⟨rfl, by rw [hU]; exact hPc, va_K.moved hW.alike hKc⟩⟩ rfl rfl hl.1 rfl (lv_room (Nat.le_of_ble_eq_true rfl)) dLw_seq_5 ⟨Nat.le_of_ble_eq_true rfl, Nat.le_of_ble_eq_true rfl⟩) (fun r_1 er_2 => ?_)
  subst er_2
  refine lv_i2l (v := (fa 2 z).toInt64) hx hb dLw_seq_8 rfl ?_
  refine vq_last (k := 0) (f := og) hx hb hK hP hD hS 9 2 rfl rfl nI_0.symm (by decide) (by decide) dLw_seq_9 (fun H locs hP hD hS => ?_)
  have hP : va_P (dC, dI) vwCl (wV x xa r cQ ad ++ wR r ra cI ri rv ++ wF (ad k 0) f1 f2 f3 f4 cI fi fa ++ wO o cJ (vp_updL og 0 ((fa 2 z).toInt64))) H := hP
  have hD : va_D A (wV x xa r cQ ad ++ wR r ra cI ri rv ++ wF (ad k 0) f1 f2 f3 f4 cI fi fa ++ wO o cJ (vp_updL og 0 ((fa 2 z).toInt64))) := hD
  refine lv_goto (tgt := 21) hx hb dLw_seq_10 (by decide) ?_
  refine lv_iconst (v := 0) hx hb dLw_seq_21 (by decide) ?_
  have hP9 : va_P (dC, dI) vwCl (wV x xa r cQ ad ++ wR r ra cI ri rv ++ wF (ad k 0) f1 f2 f3 f4 cI fi fa ++ wO o cJ (vp_updL og 0 (fa 2 z).toInt64)) H := by exact hP
  have hD9 : va_D A (wV x xa r cQ ad ++ wR r ra cI ri rv ++ wF (ad k 0) f1 f2 f3 f4 cI fi fa ++ wO o cJ (vp_updL og 0 (fa 2 z).toInt64)) := by exact hD
  exact W.iret (v := 0) hx hb hr (fun t ht hW => ⟨⟨0, (), rfl, rfl, by rw [ht]; exact hP9, va_K.moved hW.alike hK, hD9⟩, hS.F ht⟩) hS.2.2 dLw_seq_22
set_option maxHeartbeats 4000000 in
set_option maxRecDepth 100000 in
/-- verdict(x, ..) -/
theorem h_verdict (l : Launch) (dC : Nat → ClassId) (dI : Nat → Nat → Nat) (sz : Nat) (x xa r ra : Nat) (cI cQ : ClassId) (ad : Nat → Nat → Nat) (ri rv : Nat → Int32) (k f1 f2 f3 f4 : Nat) (hk4 : k < 4) (fi : Nat → Int32) (fa : Nat → Nat → Int32) (z : Nat) (hz : z < 16) (o : Nat) (cJ : ClassId) (og : Nat → Int64) : Met l yLw_verdict wsLw_verdict ({ frames := 6, cells := 0, slots := 0, locals := 240 }) (va_Pc [.ref x, .int (nI k), .int (nI z), .ref o] (fun U => U.heap.size = sz ∧ va_P (dC, dI) vwCl (wV x xa r cQ ad ++ wR r ra cI ri rv ++ wF (ad k 0) f1 f2 f3 f4 cI fi fa ++ wO o cJ og) U.heap ∧ va_K (dC, dI) vwCl [(cI, .int), (cQ, .object RFo), (cJ, .long)] U ∧ va_D (fun _ => True) (wV x xa r cQ ad ++ wR r ra cI ri rv ++ wF (ad k 0) f1 f2 f3 f4 cI fi fa ++ wO o cJ og))) (va_Qi (fun (r9 : Int32) (_ : Unit) => r9 = 0) (fun _ t => va_P (dC, dI) vwCl (wV x xa r cQ ad ++ wR r ra cI ri rv ++ wF (ad k 0) f1 f2 f3 f4 cI fi fa ++ wO o cJ (vp_updL og 0 (fa 3 z).toInt64)) t.heap ∧ va_K (dC, dI) vwCl [(cI, .int), (cQ, .object RFo), (cJ, .long)] t ∧ va_D (va_A (wV x xa r cQ ad ++ wR r ra cI ri rv ++ wF (ad k 0) f1 f2 f3 f4 cI fi fa ++ wO o cJ og) sz) (wV x xa r cQ ad ++ wR r ra cI ri rv ++ wF (ad k 0) f1 f2 f3 f4 cI fi fa ++ wO o cJ (vp_updL og 0 (fa 3 z).toInt64))) (va_A (wV x xa r cQ ad ++ wR r ra cI ri rv ++ wF (ad k 0) f1 f2 f3 f4 cI fi fa ++ wO o cJ og) sz)) 0 0 (va_A (wV x xa r cQ ad ++ wR r ra cI ri rv ++ wF (ad k 0) f1 f2 f3 f4 cI fi fa ++ wO o cJ og) sz) := by
  refine va_MetW (cc := cLw_verdict) (maxL := 5) (ret := (some .int)) (by decide) rfl ?_
  intro p e s m args below meth c s₁ B hml hv
  obtain ⟨rfl, hsz, hP, hK, hD0⟩ := hv
  have hx := B.exec
  have hb := B.bytes
  have hr := B.returns
  have hts0 := atoms_spec (ws := wsLw_verdict) B.pre
  have hts := fun (w : Cond) (h : w ∈ lw_g) => hts0 w (List.mem_cons_of_mem _ h)
  have hown : s.vm.findClass RLw = some m.cls := findClass_of_methodNamed B.named
  have hlocks := B.notSynchronized
  subst hsz
  have hD := hD0.self (sz := s.heap.size)
  generalize hAe : va_A (wV x xa r cQ ad ++ wR r ra cI ri rv ++ wF (ad k 0) f1 f2 f3 f4 cI fi fa ++ wO o cJ og) s.heap.size = A at hD ⊢
  have hA : ∀ q : Nat, s.heap.size ≤ q → A q := fun q h => by rw [← hAe]; exact Or.inr h
  have hS : va_S A s.heap s.heap [] := va_S.rf
  have hP : va_P (dC, dI) vwCl (wV x xa r cQ ad ++ wR r ra cI ri rv ++ wF (ad k 0) f1 f2 f3 f4 cI fi fa ++ wO o cJ og) s.heap := hP
  have hl := lv_entry ([.ref x, .int (nI k), .int (nI z), .ref o]) (n := 5) (Nat.le_of_ble_eq_true rfl)
  rw [lg_entry_eq]
  generalize (lg_sl ([.ref x, .int (nI k), .int (nI z), .ref o]) ++ List.replicate (5 - (lg_sl ([.ref x, .int (nI k), .int (nI z), .ref o])).length) Slot.unset).toArray = ls at hl ⊢
  have hl : lv_has ls 5 [(0, .ref x), (1, .int (nI k)), (2, .int (nI z)), (3, .ref o)] := hl
  refine lv_aload_n hx hb dLw_verdict_0 rfl (lv_at hl 3 rfl) ?_
  refine lv_iconst (v := 0) hx hb dLw_verdict_1 (by decide) ?_
  refine lv_aload_n hx hb dLw_verdict_2 rfl (lv_at hl 0 rfl) ?_
  refine lv_iload_n hx hb dLw_verdict_3 rfl (lv_at hl 1 rfl) ?_
  refine lv_iload_n hx hb dLw_verdict_4 rfl (lv_at hl 2 rfl) ?_
  have hPc := hP.sub (ws' := (wV x xa r cQ ad ++ wR r ra cI ri rv ++ wF (ad k 0) f1 f2 f3 f4 cI fi fa)) [0, 1, 2, 3, 4, 5, 6, 7, 8] rfl
  have hKc := hK.sub (tys' := [(cI, .int), (cQ, .object RFo)]) [0, 1] rfl
  refine vp_callSi (W.runV (As := [.int (nI k), .int (nI z)]) (rest := [.int 0, .ref o]) ⟨hx, hb, hml, hown, hts⟩ (k_V_verdict l dC dI x xa r ra cI cQ ad ri rv k f1 f2 f3 f4 hk4 fi fa z hz) (cwV 2 hts (gd_V in_248 in_250 in_251 in_112 in_249) rfl rfl rfl (by decide +kernel) ⟨Nat.le_of_ble_eq_true rfl, Nat.le_of_ble_eq_true rfl⟩) ⟨fun a U g mk q => by obtain ⟨q0, qP, qK⟩ := q; exact ⟨q0, qP, va_K.moved (u := U) (U := U.calling g mk a) (Vm.Alike.refl U.vm) qK⟩, va_recv hKc hPc (ci := 2) (q0 := 0) rfl rfl, fun U hU hW => ⟨rfl, by rw [hU]; exact hPc, va_K.moved hW.alike hKc⟩⟩ rfl rfl hl.1 rfl (lv_room (Nat.le_of_ble_eq_true rfl)) dLw_verdict_5 ⟨Nat.le_of_ble_eq_true rfl, Nat.le_of_ble_eq_true rfl⟩) (fun r_1 er_2 => ?_)
  subst er_2
  refine lv_i2l (v := (fa 3 z).toInt64) hx hb dLw_verdict_8 rfl ?_
  refine vq_last (k := 0) (f := og) hx hb hK hP hD hS 9 2 rfl rfl nI_0.symm (by decide) (by decide) dLw_verdict_9 (fun H locs hP hD hS => ?_)
  have hP : va_P (dC, dI) vwCl (wV x xa r cQ ad ++ wR r ra cI ri rv ++ wF (ad k 0) f1 f2 f3 f4 cI fi fa ++ wO o cJ (vp_updL og 0 ((fa 3 z).toInt64))) H := hP
  have hD : va_D A (wV x xa r cQ ad ++ wR r ra cI ri rv ++ wF (ad k 0) f1 f2 f3 f4 cI fi fa ++ wO o cJ (vp_updL og 0 ((fa 3 z).toInt64))) := hD
  refine lv_goto (tgt := 21) hx hb dLw_verdict_10 (by decide) ?_
  refine lv_iconst (v := 0) hx hb dLw_verdict_21 (by decide) ?_
  have hP9 : va_P (dC, dI) vwCl (wV x xa r cQ ad ++ wR r ra cI ri rv ++ wF (ad k 0) f1 f2 f3 f4 cI fi fa ++ wO o cJ (vp_updL og 0 (fa 3 z).toInt64)) H := by exact hP
  have hD9 : va_D A (wV x xa r cQ ad ++ wR r ra cI ri rv ++ wF (ad k 0) f1 f2 f3 f4 cI fi fa ++ wO o cJ (vp_updL og 0 (fa 3 z).toInt64)) := by exact hD
  exact W.iret (v := 0) hx hb hr (fun t ht hW => ⟨⟨0, (), rfl, rfl, by rw [ht]; exact hP9, va_K.moved hW.alike hK, hD9⟩, hS.F ht⟩) hS.2.2 dLw_verdict_22
set_option maxHeartbeats 4000000 in
set_option maxRecDepth 100000 in
/-- written(x, ..) -/
theorem h_written (l : Launch) (dC : Nat → ClassId) (dI : Nat → Nat → Nat) (sz : Nat) (x xa r ra : Nat) (cI cQ : ClassId) (ad : Nat → Nat → Nat) (ri rv : Nat → Int32) (k f1 f2 f3 f4 : Nat) (hk4 : k < 4) (fi : Nat → Int32) (fa : Nat → Nat → Int32) (z : Nat) (hz : z < 16) (o : Nat) (cJ : ClassId) (og : Nat → Int64) : Met l yLw_written wsLw_written ({ frames := 6, cells := 0, slots := 0, locals := 240 }) (va_Pc [.ref x, .int (nI k), .int (nI z), .ref o] (fun U => U.heap.size = sz ∧ va_P (dC, dI) vwCl (wV x xa r cQ ad ++ wR r ra cI ri rv ++ wF (ad k 0) f1 f2 f3 f4 cI fi fa ++ wO o cJ og) U.heap ∧ va_K (dC, dI) vwCl [(cI, .int), (cQ, .object RFo), (cJ, .long)] U ∧ va_D (fun _ => True) (wV x xa r cQ ad ++ wR r ra cI ri rv ++ wF (ad k 0) f1 f2 f3 f4 cI fi fa ++ wO o cJ og))) (va_Qi (fun (r9 : Int32) (_ : Unit) => r9 = 0) (fun _ t => va_P (dC, dI) vwCl (wV x xa r cQ ad ++ wR r ra cI ri rv ++ wF (ad k 0) f1 f2 f3 f4 cI fi fa ++ wO o cJ (vp_updL og 0 (s_kw fi (fa 1) z).toInt64)) t.heap ∧ va_K (dC, dI) vwCl [(cI, .int), (cQ, .object RFo), (cJ, .long)] t ∧ va_D (va_A (wV x xa r cQ ad ++ wR r ra cI ri rv ++ wF (ad k 0) f1 f2 f3 f4 cI fi fa ++ wO o cJ og) sz) (wV x xa r cQ ad ++ wR r ra cI ri rv ++ wF (ad k 0) f1 f2 f3 f4 cI fi fa ++ wO o cJ (vp_updL og 0 (s_kw fi (fa 1) z).toInt64))) (va_A (wV x xa r cQ ad ++ wR r ra cI ri rv ++ wF (ad k 0) f1 f2 f3 f4 cI fi fa ++ wO o cJ og) sz)) 0 0 (va_A (wV x xa r cQ ad ++ wR r ra cI ri rv ++ wF (ad k 0) f1 f2 f3 f4 cI fi fa ++ wO o cJ og) sz) := by
  refine va_MetW (cc := cLw_written) (maxL := 5) (ret := (some .int)) (by decide) rfl ?_
  intro p e s m args below meth c s₁ B hml hv
  obtain ⟨rfl, hsz, hP, hK, hD0⟩ := hv
  have hx := B.exec
  have hb := B.bytes
  have hr := B.returns
  have hts0 := atoms_spec (ws := wsLw_written) B.pre
  have hts := fun (w : Cond) (h : w ∈ lw_g) => hts0 w (List.mem_cons_of_mem _ h)
  have hown : s.vm.findClass RLw = some m.cls := findClass_of_methodNamed B.named
  have hlocks := B.notSynchronized
  subst hsz
  have hD := hD0.self (sz := s.heap.size)
  generalize hAe : va_A (wV x xa r cQ ad ++ wR r ra cI ri rv ++ wF (ad k 0) f1 f2 f3 f4 cI fi fa ++ wO o cJ og) s.heap.size = A at hD ⊢
  have hA : ∀ q : Nat, s.heap.size ≤ q → A q := fun q h => by rw [← hAe]; exact Or.inr h
  have hS : va_S A s.heap s.heap [] := va_S.rf
  have hP : va_P (dC, dI) vwCl (wV x xa r cQ ad ++ wR r ra cI ri rv ++ wF (ad k 0) f1 f2 f3 f4 cI fi fa ++ wO o cJ og) s.heap := hP
  have hl := lv_entry ([.ref x, .int (nI k), .int (nI z), .ref o]) (n := 5) (Nat.le_of_ble_eq_true rfl)
  rw [lg_entry_eq]
  generalize (lg_sl ([.ref x, .int (nI k), .int (nI z), .ref o]) ++ List.replicate (5 - (lg_sl ([.ref x, .int (nI k), .int (nI z), .ref o])).length) Slot.unset).toArray = ls at hl ⊢
  have hl : lv_has ls 5 [(0, .ref x), (1, .int (nI k)), (2, .int (nI z)), (3, .ref o)] := hl
  refine lv_aload_n hx hb dLw_written_0 rfl (lv_at hl 3 rfl) ?_
  refine lv_iconst (v := 0) hx hb dLw_written_1 (by decide) ?_
  refine lv_aload_n hx hb dLw_written_2 rfl (lv_at hl 0 rfl) ?_
  refine lv_iload_n hx hb dLw_written_3 rfl (lv_at hl 1 rfl) ?_
  refine lv_iload_n hx hb dLw_written_4 rfl (lv_at hl 2 rfl) ?_
  have hPc := hP.sub (ws' := (wV x xa r cQ ad ++ wR r ra cI ri rv ++ wF (ad k 0) f1 f2 f3 f4 cI fi fa)) [0, 1, 2, 3, 4, 5, 6, 7, 8] rfl
  have hKc := hK.sub (tys' := [(cI, .int), (cQ, .object RFo)]) [0, 1] rfl
  refine vp_callSi (W.runV (As := [.int (nI k), .int (nI z)]) (rest := [.int 0, .ref o]) ⟨hx, hb, hml, hown, hts⟩ (k_V_written l dC dI x xa r ra cI cQ ad ri rv k f1 f2 f3 f4 hk4 fi fa z hz) (cwV 2 hts (gd_V in_252 in_254 in_255 in_112 in_253) rfl rfl rfl (by decide +kernel) ⟨Nat.le_of_ble_eq_true rfl, Nat.le_of_ble_eq_true rfl⟩) ⟨fun a U g mk q => by obtain ⟨q0, qP, qK⟩ := q; exact ⟨q0, qP, va_K.moved (u := U) (U := U.calling g mk a) (Vm.Alike.refl U.vm) qK⟩, va_recv hKc hPc (ci := 2) (q0 := 0) rfl rfl, fun U hU hW => ⟨rfl, by rw [hU]; exact hPc, va_K.moved hW.alike hKc⟩⟩ rfl rfl hl.1 rfl (lv_room (Nat.le_of_ble_eq_true rfl)) dLw_written_5 ⟨Nat.le_of_ble_eq_true rfl, Nat.le_of_ble_eq_true rfl⟩) (fun r_1 er_2 => ?_)
  subst er_2
  refine lv_i2l (v := (s_kw fi (fa 1) z).toInt64) hx hb dLw_written_8 rfl ?_
  refine vq_last (k := 0) (f := og) hx hb hK hP hD hS 9 2 rfl rfl nI_0.symm (by decide) (by decide) dLw_written_9 (fun H locs hP hD hS => ?_)
  have hP : va_P (dC, dI) vwCl (wV x xa r cQ ad ++ wR r ra cI ri rv ++ wF (ad k 0) f1 f2 f3 f4 cI fi fa ++ wO o cJ (vp_updL og 0 ((s_kw fi (fa 1) z).toInt64))) H := hP
  have hD : va_D A (wV x xa r cQ ad ++ wR r ra cI ri rv ++ wF (ad k 0) f1 f2 f3 f4 cI fi fa ++ wO o cJ (vp_updL og 0 ((s_kw fi (fa 1) z).toInt64))) := hD
  refine lv_goto (tgt := 21) hx hb dLw_written_10 (by decide) ?_
  refine lv_iconst (v := 0) hx hb dLw_written_21 (by decide) ?_
  have hP9 : va_P (dC, dI) vwCl (wV x xa r cQ ad ++ wR r ra cI ri rv ++ wF (ad k 0) f1 f2 f3 f4 cI fi fa ++ wO o cJ (vp_updL og 0 (s_kw fi (fa 1) z).toInt64)) H := by exact hP
  have hD9 : va_D A (wV x xa r cQ ad ++ wR r ra cI ri rv ++ wF (ad k 0) f1 f2 f3 f4 cI fi fa ++ wO o cJ (vp_updL og 0 (s_kw fi (fa 1) z).toInt64)) := by exact hD
  exact W.iret (v := 0) hx hb hr (fun t ht hW => ⟨⟨0, (), rfl, rfl, by rw [ht]; exact hP9, va_K.moved hW.alike hK, hD9⟩, hS.F ht⟩) hS.2.2 dLw_written_22
set_option maxHeartbeats 4000000 in
set_option maxRecDepth 100000 in
/-- since(x, ..) -/
theorem h_since (l : Launch) (dC : Nat → ClassId) (dI : Nat → Nat → Nat) (sz : Nat) (x xa r ra : Nat) (cI cQ : ClassId) (ad : Nat → Nat → Nat) (ri rv : Nat → Int32) (k f1 f2 f3 f4 : Nat) (hk4 : k < 4) (fi : Nat → Int32) (fa : Nat → Nat → Int32) (z : Int32) (hlo : ¬ z < fi 1 - fi 0) (hhi : z ≤ fi 1) (o : Nat) (cJ : ClassId) (og : Nat → Int64) : Met l yLw_since wsLw_since ({ frames := 6, cells := 0, slots := 0, locals := 240 }) (va_Pc [.ref x, .int (nI k), .int z, .ref o] (fun U => U.heap.size = sz ∧ va_P (dC, dI) vwCl (wV x xa r cQ ad ++ wR r ra cI ri rv ++ wF (ad k 0) f1 f2 f3 f4 cI fi fa ++ wO o cJ og) U.heap ∧ va_K (dC, dI) vwCl [(cI, .int), (cQ, .object RFo), (cJ, .long)] U ∧ va_D (fun _ => True) (wV x xa r cQ ad ++ wR r ra cI ri rv ++ wF (ad k 0) f1 f2 f3 f4 cI fi fa ++ wO o cJ og))) (va_Qi (fun (r9 : Int32) (_ : Unit) => r9 = 0) (fun _ t => va_P (dC, dI) vwCl (wV x xa r cQ ad ++ wR r ra cI ri rv ++ wF (ad k 0) f1 f2 f3 f4 cI fi fa ++ wO o cJ (vp_updL og 0 (s_ky (fa 1) (s_max z 0) 16).toInt64)) t.heap ∧ va_K (dC, dI) vwCl [(cI, .int), (cQ, .object RFo), (cJ, .long)] t ∧ va_D (va_A (wV x xa r cQ ad ++ wR r ra cI ri rv ++ wF (ad k 0) f1 f2 f3 f4 cI fi fa ++ wO o cJ og) sz) (wV x xa r cQ ad ++ wR r ra cI ri rv ++ wF (ad k 0) f1 f2 f3 f4 cI fi fa ++ wO o cJ (vp_updL og 0 (s_ky (fa 1) (s_max z 0) 16).toInt64))) (va_A (wV x xa r cQ ad ++ wR r ra cI ri rv ++ wF (ad k 0) f1 f2 f3 f4 cI fi fa ++ wO o cJ og) sz)) 0 0 (va_A (wV x xa r cQ ad ++ wR r ra cI ri rv ++ wF (ad k 0) f1 f2 f3 f4 cI fi fa ++ wO o cJ og) sz) := by
  refine va_MetW (cc := cLw_since) (maxL := 5) (ret := (some .int)) (by decide) rfl ?_
  intro p e s m args below meth c s₁ B hml hv
  obtain ⟨rfl, hsz, hP, hK, hD0⟩ := hv
  have hx := B.exec
  have hb := B.bytes
  have hr := B.returns
  have hts0 := atoms_spec (ws := wsLw_since) B.pre
  have hts := fun (w : Cond) (h : w ∈ lw_g) => hts0 w (List.mem_cons_of_mem _ h)
  have hown : s.vm.findClass RLw = some m.cls := findClass_of_methodNamed B.named
  have hlocks := B.notSynchronized
  subst hsz
  have hD := hD0.self (sz := s.heap.size)
  generalize hAe : va_A (wV x xa r cQ ad ++ wR r ra cI ri rv ++ wF (ad k 0) f1 f2 f3 f4 cI fi fa ++ wO o cJ og) s.heap.size = A at hD ⊢
  have hA : ∀ q : Nat, s.heap.size ≤ q → A q := fun q h => by rw [← hAe]; exact Or.inr h
  have hS : va_S A s.heap s.heap [] := va_S.rf
  have hP : va_P (dC, dI) vwCl (wV x xa r cQ ad ++ wR r ra cI ri rv ++ wF (ad k 0) f1 f2 f3 f4 cI fi fa ++ wO o cJ og) s.heap := hP
  have hl := lv_entry ([.ref x, .int (nI k), .int z, .ref o]) (n := 5) (Nat.le_of_ble_eq_true rfl)
  rw [lg_entry_eq]
  generalize (lg_sl ([.ref x, .int (nI k), .int z, .ref o]) ++ List.replicate (5 - (lg_sl ([.ref x, .int (nI k), .int z, .ref o])).length) Slot.unset).toArray = ls at hl ⊢
  have hl : lv_has ls 5 [(0, .ref x), (1, .int (nI k)), (2, .int z), (3, .ref o)] := hl
  refine lv_aload_n hx hb dLw_since_0 rfl (lv_at hl 3 rfl) ?_
  refine lv_iconst (v := 0) hx hb dLw_since_1 (by decide) ?_
  refine lv_aload_n hx hb dLw_since_2 rfl (lv_at hl 0 rfl) ?_
  refine lv_iload_n hx hb dLw_since_3 rfl (lv_at hl 1 rfl) ?_
  refine lv_iload_n hx hb dLw_since_4 rfl (lv_at hl 2 rfl) ?_
  have hPc := hP.sub (ws' := (wV x xa r cQ ad ++ wR r ra cI ri rv ++ wF (ad k 0) f1 f2 f3 f4 cI fi fa)) [0, 1, 2, 3, 4, 5, 6, 7, 8] rfl
  have hKc := hK.sub (tys' := [(cI, .int), (cQ, .object RFo)]) [0, 1] rfl
  refine vp_callSi (W.runV (As := [.int (nI k), .int z]) (rest := [.int 0, .ref o]) ⟨hx, hb, hml, hown, hts⟩ (k_V_since l dC dI x xa r ra cI cQ ad ri rv k f1 f2 f3 f4 hk4 fi fa z hlo hhi) (cwV 2 hts (gd_V in_256 in_258 in_259 in_112 in_257) rfl rfl rfl (by decide +kernel) ⟨Nat.le_of_ble_eq_true rfl, Nat.le_of_ble_eq_true rfl⟩) ⟨fun a U g mk q => by obtain ⟨q0, qP, qK⟩ := q; exact ⟨q0, qP, va_K.moved (u := U) (U := U.calling g mk a) (Vm.Alike.refl U.vm) qK⟩, va_recv hKc hPc (ci := 2) (q0 := 0) rfl rfl, fun U hU hW => ⟨rfl, by rw [hU]; exact hPc, va_K.moved hW.alike hKc⟩⟩ rfl rfl hl.1 rfl (lv_room (Nat.le_of_ble_eq_true rfl)) dLw_since_5 ⟨Nat.le_of_ble_eq_true rfl, Nat.le_of_ble_eq_true rfl⟩) (fun r_1 er_2 => ?_)
  subst er_2
  refine lv_i2l (v := (s_ky (fa 1) (s_max z 0) 16).toInt64) hx hb dLw_since_8 rfl ?_
  refine vq_last (k := 0) (f := og) hx hb hK hP hD hS 9 2 rfl rfl nI_0.symm (by decide) (by decide) dLw_since_9 (fun H locs hP hD hS => ?_)
  have hP : va_P (dC, dI) vwCl (wV x xa r cQ ad ++ wR r ra cI ri rv ++ wF (ad k 0) f1 f2 f3 f4 cI fi fa ++ wO o cJ (vp_updL og 0 ((s_ky (fa 1) (s_max z 0) 16).toInt64))) H := hP
  have hD : va_D A (wV x xa r cQ ad ++ wR r ra cI ri rv ++ wF (ad k 0) f1 f2 f3 f4 cI fi fa ++ wO o cJ (vp_updL og 0 ((s_ky (fa 1) (s_max z 0) 16).toInt64))) := hD
  refine lv_goto (tgt := 21) hx hb dLw_since_10 (by decide) ?_
  refine lv_iconst (v := 0) hx hb dLw_since_21 (by decide) ?_
  have hP9 : va_P (dC, dI) vwCl (wV x xa r cQ ad ++ wR r ra cI ri rv ++ wF (ad k 0) f1 f2 f3 f4 cI fi fa ++ wO o cJ (vp_updL og 0 (s_ky (fa 1) (s_max z 0) 16).toInt64)) H := by exact hP
  have hD9 : va_D A (wV x xa r cQ ad ++ wR r ra cI ri rv ++ wF (ad k 0) f1 f2 f3 f4 cI fi fa ++ wO o cJ (vp_updL og 0 (s_ky (fa 1) (s_max z 0) 16).toInt64)) := by exact hD
  exact W.iret (v := 0) hx hb hr (fun t ht hW => ⟨⟨0, (), rfl, rfl, by rw [ht]; exact hP9, va_K.moved hW.alike hK, hD9⟩, hS.F ht⟩) hS.2.2 dLw_since_22
set_option maxHeartbeats 4000000 in
set_option maxRecDepth 100000 in
/-- look(x, ..) -/
theorem h_look (l : Launch) (dC : Nat → ClassId) (dI : Nat → Nat → Nat) (sz : Nat) (x xa r ra : Nat) (cI cQ : ClassId) (ad : Nat → Nat → Nat) (ri rv : Nat → Int32) (k f1 f2 f3 f4 : Nat) (hk4 : k < 4) (fi : Nat → Int32) (fa : Nat → Nat → Int32) (n : Nat) (hn : n < 2 ^ 31) (hix : fi 1 = nI n) (wh : Int32) (j0 : Nat) (hj0 : (j0 < 8 ∧ wh = nI j0) ∨ (8 = j0 ∧ (wh.toInt < 0 ∨ 7 < wh.toInt))) (o : Nat) (cJ : ClassId) (og : Nat → Int64) : Met l yLw_look wsLw_look ({ frames := 6, cells := 0, slots := 0, locals := 240 }) (va_Pc [.ref x, .int (nI k), .int wh, .ref o] (fun U => U.heap.size = sz ∧ va_P (dC, dI) vwCl (wV x xa r cQ ad ++ wR r ra cI ri rv ++ wF (ad k 0) f1 f2 f3 f4 cI fi fa ++ wO o cJ og) U.heap ∧ va_K (dC, dI) vwCl [(cI, .int), (cQ, .object RFo), (cJ, .long)] U ∧ va_D (fun _ => True) (wV x xa r cQ ad ++ wR r ra cI ri rv ++ wF (ad k 0) f1 f2 f3 f4 cI fi fa ++ wO o cJ og))) (va_Qi (fun (r9 : Int32) (_ : Unit) => r9 = 0) (fun _ t => va_P (dC, dI) vwCl (wV x xa r cQ ad ++ wR r ra cI ri rv ++ wF (ad k 0) f1 f2 f3 f4 cI fi fa ++ wO o cJ (vp_updL og 0 (s_look fi fa ri n j0).toInt64)) t.heap ∧ va_K (dC, dI) vwCl [(cI, .int), (cQ, .object RFo), (cJ, .long)] t ∧ va_D (va_A (wV x xa r cQ ad ++ wR r ra cI ri rv ++ wF (ad k 0) f1 f2 f3 f4 cI fi fa ++ wO o cJ og) sz) (wV x xa r cQ ad ++ wR r ra cI ri rv ++ wF (ad k 0) f1 f2 f3 f4 cI fi fa ++ wO o cJ (vp_updL og 0 (s_look fi fa ri n j0).toInt64))) (va_A (wV x xa r cQ ad ++ wR r ra cI ri rv ++ wF (ad k 0) f1 f2 f3 f4 cI fi fa ++ wO o cJ og) sz)) 0 0 (va_A (wV x xa r cQ ad ++ wR r ra cI ri rv ++ wF (ad k 0) f1 f2 f3 f4 cI fi fa ++ wO o cJ og) sz) := by
  refine va_MetW (cc := cLw_look) (maxL := 5) (ret := (some .int)) (by decide) rfl ?_
  intro p e s m args below meth c s₁ B hml hv
  obtain ⟨rfl, hsz, hP, hK, hD0⟩ := hv
  have hx := B.exec
  have hb := B.bytes
  have hr := B.returns
  have hts0 := atoms_spec (ws := wsLw_look) B.pre
  have hts := fun (w : Cond) (h : w ∈ lw_g) => hts0 w (List.mem_cons_of_mem _ h)
  have hown : s.vm.findClass RLw = some m.cls := findClass_of_methodNamed B.named
  have hlocks := B.notSynchronized
  subst hsz
  have hD := hD0.self (sz := s.heap.size)
  generalize hAe : va_A (wV x xa r cQ ad ++ wR r ra cI ri rv ++ wF (ad k 0) f1 f2 f3 f4 cI fi fa ++ wO o cJ og) s.heap.size = A at hD ⊢
  have hA : ∀ q : Nat, s.heap.size ≤ q → A q := fun q h => by rw [← hAe]; exact Or.inr h
  have hS : va_S A s.heap s.heap [] := va_S.rf
  have hP : va_P (dC, dI) vwCl (wV x xa r cQ ad ++ wR r ra cI ri rv ++ wF (ad k 0) f1 f2 f3 f4 cI fi fa ++ wO o cJ og) s.heap := hP
  have hl := lv_entry ([.ref x, .int (nI k), .int wh, .ref o]) (n := 5) (Nat.le_of_ble_eq_true rfl)
  rw [lg_entry_eq]
  generalize (lg_sl ([.ref x, .int (nI k), .int wh, .ref o]) ++ List.replicate (5 - (lg_sl ([.ref x, .int (nI k), .int wh, .ref o])).length) Slot.unset).toArray = ls at hl ⊢
  have hl : lv_has ls 5 [(0, .ref x), (1, .int (nI k)), (2, .int wh), (3, .ref o)] := hl
  refine lv_aload_n hx hb dLw_look_0 rfl (lv_at hl 3 rfl) ?_
  refine lv_iconst (v := 0) hx hb dLw_look_1 (by decide) ?_
  refine lv_aload_n hx hb dLw_look_2 rfl (lv_at hl 0 rfl) ?_
  refine lv_iload_n hx hb dLw_look_3 rfl (lv_at hl 1 rfl) ?_
  refine lv_iload_n hx hb dLw_look_4 rfl (lv_at hl 2 rfl) ?_
  have hPc := hP.sub (ws' := (wV x xa r cQ ad ++ wR r ra cI ri rv ++ wF (ad k 0) f1 f2 f3 f4 cI fi fa)) [0, 1, 2, 3, 4, 5, 6, 7, 8] rfl
  have hKc := hK.sub (tys' := [(cI, .int), (cQ, .object RFo)]) [0, 1] rfl
  refine vp_callSi (W.runV (As := [.int (nI k), .int wh]) (rest := [.int 0, .ref o]) ⟨hx, hb, hml, hown, hts⟩ (k_V_look l dC dI x xa r ra cI cQ ad ri rv k f1 f2 f3 f4 hk4 fi fa n hn hix wh j0 hj0) (cwV 2 hts (gd_V in_260 in_262 in_263 in_112 in_261) rfl rfl rfl (by decide +kernel) ⟨Nat.le_of_ble_eq_true rfl, Nat.le_of_ble_eq_true rfl⟩) ⟨fun a U g mk q => by obtain ⟨q0, qP, qK⟩ := q; exact ⟨q0, qP, va_K.moved (u := U) (U := U.calling g mk a) (Vm.Alike.refl U.vm) qK⟩, va_recv hKc hPc (ci := 2) (q0 := 0) rfl rfl, fun U hU hW => ⟨rfl, by rw [hU]; exact hPc, va_K.moved hW.alike hKc⟩⟩ rfl rfl hl.1 rfl (lv_room (Nat.le_of_ble_eq_true rfl)) dLw_look_5 ⟨Nat.le_of_ble_eq_true rfl, Nat.le_of_ble_eq_true rfl⟩) (fun r_1 er_2 => ?_)
  subst er_2
  refine lv_i2l (v := (s_look fi fa ri n j0).toInt64) hx hb dLw_look_8 rfl ?_
  refine vq_last (k := 0) (f := og) hx hb hK hP hD hS 9 2 rfl rfl nI_0.symm (by decide) (by decide) dLw_look_9 (fun H locs hP hD hS => ?_)
  have hP : va_P (dC, dI) vwCl (wV x xa r cQ ad ++ wR r ra cI ri rv ++ wF (ad k 0) f1 f2 f3 f4 cI fi fa ++ wO o cJ (vp_updL og 0 ((s_look fi fa ri n j0).toInt64))) H := hP
  have hD : va_D A (wV x xa r cQ ad ++ wR r ra cI ri rv ++ wF (ad k 0) f1 f2 f3 f4 cI fi fa ++ wO o cJ (vp_updL og 0 ((s_look fi fa ri n j0).toInt64))) := hD
  refine lv_goto (tgt := 17) hx hb dLw_look_10 (by decide) ?_
  refine lv_iconst (v := 0) hx hb dLw_look_17 (by decide) ?_
  have hP9 : va_P (dC, dI) vwCl (wV x xa r cQ ad ++ wR r ra cI ri rv ++ wF (ad k 0) f1 f2 f3 f4 cI fi fa ++ wO o cJ (vp_updL og 0 (s_look fi fa ri n j0).toInt64)) H := by exact hP
  have hD9 : va_D A (wV x xa r cQ ad ++ wR r ra cI ri rv ++ wF (ad k 0) f1 f2 f3 f4 cI fi fa ++ wO o cJ (vp_updL og 0 (s_look fi fa ri n j0).toInt64)) := by exact hD
  exact W.iret (v := 0) hx hb hr (fun t ht hW => ⟨⟨0, (), rfl, rfl, by rw [ht]; exact hP9, va_K.moved hW.alike hK, hD9⟩, hS.F ht⟩) hS.2.2 dLw_look_18
set_option maxHeartbeats 4000000 in
set_option maxRecDepth 100000 in
/-- same(x, ..) -/
theorem h_same (l : Launch) (dC : Nat → ClassId) (dI : Nat → Nat → Nat) (sz : Nat) (x xa r ra : Nat) (cI cQ : ClassId) (ad : Nat → Nat → Nat) (ri rv : Nat → Int32) (k f1 f2 f3 f4 : Nat) (hk4 : k < 4) (fi : Nat → Int32) (fa : Nat → Nat → Int32) (b g1 g2 g3 g4 : Nat) (hb4 : b < 4) (gi : Nat → Int32) (ga : Nat → Nat → Int32) (n : Nat) (hn : n < 2 ^ 31) (hix : fi 1 = nI n) (o : Nat) (cJ : ClassId) (og : Nat → Int64) : Met l yLw_same wsLw_same ({ frames := 6, cells := 0, slots := 0, locals := 240 }) (va_Pc [.ref x, .int (nI k), .int (nI b), .ref o] (fun U => U.heap.size = sz ∧ va_P (dC, dI) vwCl (wV x xa r cQ ad ++ wR r ra cI ri rv ++ wF (ad k 0) f1 f2 f3 f4 cI fi fa ++ wF (ad b 0) g1 g2 g3 g4 cI gi ga ++ wO o cJ og) U.heap ∧ va_K (dC, dI) vwCl [(cI, .int), (cQ, .object RFo), (cJ, .long)] U ∧ va_D (fun _ => True) (wV x xa r cQ ad ++ wR r ra cI ri rv ++ wF (ad k 0) f1 f2 f3 f4 cI fi fa ++ wF (ad b 0) g1 g2 g3 g4 cI gi ga ++ wO o cJ og))) (va_Qi (fun (r9 : Int32) (_ : Unit) => r9 = 0) (fun _ t => va_P (dC, dI) vwCl (wV x xa r cQ ad ++ wR r ra cI ri rv ++ wF (ad k 0) f1 f2 f3 f4 cI fi fa ++ wF (ad b 0) g1 g2 g3 g4 cI gi ga ++ wO o cJ (vp_updL og 0 (if s_like fi fa gi ga n = 0 then 0 else 1))) t.heap ∧ va_K (dC, dI) vwCl [(cI, .int), (cQ, .object RFo), (cJ, .long)] t ∧ va_D (va_A (wV x xa r cQ ad ++ wR r ra cI ri rv ++ wF (ad k 0) f1 f2 f3 f4 cI fi fa ++ wF (ad b 0) g1 g2 g3 g4 cI gi ga ++ wO o cJ og) sz) (wV x xa r cQ ad ++ wR r ra cI ri rv ++ wF (ad k 0) f1 f2 f3 f4 cI fi fa ++ wF (ad b 0) g1 g2 g3 g4 cI gi ga ++ wO o cJ (vp_updL og 0 (if s_like fi fa gi ga n = 0 then 0 else 1)))) (va_A (wV x xa r cQ ad ++ wR r ra cI ri rv ++ wF (ad k 0) f1 f2 f3 f4 cI fi fa ++ wF (ad b 0) g1 g2 g3 g4 cI gi ga ++ wO o cJ og) sz)) 0 0 (va_A (wV x xa r cQ ad ++ wR r ra cI ri rv ++ wF (ad k 0) f1 f2 f3 f4 cI fi fa ++ wF (ad b 0) g1 g2 g3 g4 cI gi ga ++ wO o cJ og) sz) := by
  refine va_MetW (cc := cLw_same) (maxL := 5) (ret := (some .int)) (by decide) rfl ?_
  intro p e s m args below meth c s₁ B hml hv
  obtain ⟨rfl, hsz, hP, hK, hD0⟩ := hv
  have hx := B.exec
  have hb := B.bytes
  have hr := B.returns
  have hts0 := atoms_spec (ws := wsLw_same) B.pre
  have hts := fun (w : Cond) (h : w ∈ lw_g) => hts0 w (List.mem_cons_of_mem _ h)
  have hown : s.vm.findClass RLw = some m.cls := findClass_of_methodNamed B.named
  have hlocks := B.notSynchronized
  subst hsz
  have hD := hD0.self (sz := s.heap.size)
  generalize hAe : va_A (wV x xa r cQ ad ++ wR r ra cI ri rv ++ wF (ad k 0) f1 f2 f3 f4 cI fi fa ++ wF (ad b 0) g1 g2 g3 g4 cI gi ga ++ wO o cJ og) s.heap.size = A at hD ⊢
  have hA : ∀ q : Nat, s.heap.size ≤ q → A q := fun q h => by rw [← hAe]; exact Or.inr h
  have hS : va_S A s.heap s.heap [] := va_S.rf
  have hP : va_P (dC, dI) vwCl (wV x xa r cQ ad ++ wR r ra cI ri rv ++ wF (ad k 0) f1 f2 f3 f4 cI fi fa ++ wF (ad b 0) g1 g2 g3 g4 cI gi ga ++ wO o cJ og) s.heap := hP
  have hl := lv_entry ([.ref x, .int (nI k), .int (nI b), .ref o]) (n := 5) (Nat.le_of_ble_eq_true rfl)
  rw [lg_entry_eq]
  generalize (lg_sl ([.ref x, .int (nI k), .int (nI b), .ref o]) ++ List.replicate (5 - (lg_sl ([.ref x, .int (nI k), .int (nI b), .ref o])).length) Slot.unset).toArray = ls at hl ⊢
  have hl : lv_has ls 5 [(0, .ref x), (1, .int (nI k)), (2, .int (nI b)), (3, .ref o)] := hl
  refine lv_aload_n hx hb dLw_same_0 rfl (lv_at hl 3 rfl) ?_
  refine lv_iconst (v := 0) hx hb dLw_same_1 (by decide) ?_
  refine lv_aload_n hx hb dLw_same_2 rfl (lv_at hl 0 rfl) ?_
  refine lv_iload_n hx hb dLw_same_3 rfl (lv_at hl 1 rfl) ?_
  refine lv_iload_n hx hb dLw_same_4 rfl (lv_at hl 2 rfl) ?_
  have hPc := hP.sub (ws' := (wV x xa r cQ ad ++ wR r ra cI ri rv ++ wF (ad k 0) f1 f2 f3 f4 cI fi fa ++ wF (ad b 0) g1 g2 g3 g4 cI gi ga)) [0, 1, 2, 3, 4, 5, 6, 7, 8, 9, 10, 11, 12, 13] rfl
  have hKc := hK.sub (tys' := [(cI, .int), (cQ, .object RFo)]) [0, 1] rfl
  refine vp_callSi (W.runV (As := [.int (nI k), .int (nI b)]) (rest := [.int 0, .ref o]) ⟨hx, hb, hml, hown, hts⟩ (k_V_same l dC dI x xa r ra cI cQ ad ri rv k f1 f2 f3 f4 hk4 fi fa b g1 g2 g3 g4 hb4 gi ga n hn hix) (cwV 2 hts (gd_V in_264 in_266 in_267 in_112 in_265) rfl rfl rfl (by decide +kernel) ⟨Nat.le_of_ble_eq_true rfl, Nat.le_of_ble_eq_true rfl⟩) ⟨fun a U g mk q => by obtain ⟨q0, qP, qK⟩ := q; exact ⟨q0, qP, va_K.moved (u := U) (U := U.calling g mk a) (Vm.Alike.refl U.vm) qK⟩, va_recv hKc hPc (ci := 2) (q0 := 0) rfl rfl, fun U hU hW => ⟨rfl, by rw [hU]; exact hPc, va_K.moved hW.alike hKc⟩⟩ rfl rfl hl.1 rfl (lv_room (Nat.le_of_ble_eq_true rfl)) dLw_same_5 ⟨Nat.le_of_ble_eq_true rfl, Nat.le_of_ble_eq_true rfl⟩) (fun r_1 er_2 => ?_)
  subst er_2
  refine lv_if_eq (tgt := 15) hx hb dLw_same_8 (by decide) (fun c_3 => ?_) (fun c_3 => ?_)
  · skip
    refine lv_lconst (v := 0) hx hb dLw_same_15 (by decide) ?_
    refine vq_last (k := 0) (f := og) hx hb hK hP hD hS 14 2 rfl rfl nI_0.symm (by decide) (by decide) dLw_same_16 (fun H locs hP hD hS => ?_)
    have hP : va_P (dC, dI) vwCl (wV x xa r cQ ad ++ wR r ra cI ri rv ++ wF (ad k 0) f1 f2 f3 f4 cI fi fa ++ wF (ad b 0) g1 g2 g3 g4 cI gi ga ++ wO o cJ (vp_updL og 0 0)) H := hP
    have hD : va_D A (wV x xa r cQ ad ++ wR r ra cI ri rv ++ wF (ad k 0) f1 f2 f3 f4 cI fi fa ++ wF (ad b 0) g1 g2 g3 g4 cI gi ga ++ wO o cJ (vp_updL og 0 0)) := hD
    refine lv_goto (tgt := 24) hx hb dLw_same_17 (by decide) ?_
    refine lv_iconst (v := 0) hx hb dLw_same_24 (by decide) ?_
    have hP9 : va_P (dC, dI) vwCl (wV x xa r cQ ad ++ wR r ra cI ri rv ++ wF (ad k 0) f1 f2 f3 f4 cI fi fa ++ wF (ad b 0) g1 g2 g3 g4 cI gi ga ++ wO o cJ (vp_updL og 0 (if s_like fi fa gi ga n = 0 then 0 else 1))) H := by simp only [if_pos c_3]; exact hP
    have hD9 : va_D A (wV x xa r cQ ad ++ wR r ra cI ri rv ++ wF (ad k 0) f1 f2 f3 f4 cI fi fa ++ wF (ad b 0) g1 g2 g3 g4 cI gi ga ++ wO o cJ (vp_updL og 0 (if s_like fi fa gi ga n = 0 then 0 else 1))) := by simp only [if_pos c_3]; exact hD
    exact W.iret (v := 0) hx hb hr (fun t ht hW => ⟨⟨0, (), rfl, rfl, by rw [ht]; exact hP9, va_K.moved hW.alike hK, hD9⟩, hS.F ht⟩) hS.2.2 dLw_same_25
  · skip
    refine lv_lconst (v := 1) hx hb dLw_same_11 (by decide) ?_
    refine lv_goto (tgt := 16) hx hb dLw_same_12 (by decide) ?_
    refine vq_last (k := 0) (f := og) hx hb hK hP hD hS 14 2 rfl rfl nI_0.symm (by decide) (by decide) dLw_same_16 (fun H locs hP hD hS => ?_)
    have hP : va_P (dC, dI) vwCl (wV x xa r cQ ad ++ wR r ra cI ri rv ++ wF (ad k 0) f1 f2 f3 f4 cI fi fa ++ wF (ad b 0) g1 g2 g3 g4 cI gi ga ++ wO o cJ (vp_updL og 0 1)) H := hP
    have hD : va_D A (wV x xa r cQ ad ++ wR r ra cI ri rv ++ wF (ad k 0) f1 f2 f3 f4 cI fi fa ++ wF (ad b 0) g1 g2 g3 g4 cI gi ga ++ wO o cJ (vp_updL og 0 1)) := hD
    refine lv_goto (tgt := 24) hx hb dLw_same_17 (by decide) ?_
    refine lv_iconst (v := 0) hx hb dLw_same_24 (by decide) ?_
    have hP9 : va_P (dC, dI) vwCl (wV x xa r cQ ad ++ wR r ra cI ri rv ++ wF (ad k 0) f1 f2 f3 f4 cI fi fa ++ wF (ad b 0) g1 g2 g3 g4 cI gi ga ++ wO o cJ (vp_updL og 0 (if s_like fi fa gi ga n = 0 then 0 else 1))) H := by simp only [if_neg c_3]; exact hP
    have hD9 : va_D A (wV x xa r cQ ad ++ wR r ra cI ri rv ++ wF (ad k 0) f1 f2 f3 f4 cI fi fa ++ wF (ad b 0) g1 g2 g3 g4 cI gi ga ++ wO o cJ (vp_updL og 0 (if s_like fi fa gi ga n = 0 then 0 else 1))) := by simp only [if_neg c_3]; exact hD
    exact W.iret (v := 0) hx hb hr (fun t ht hW => ⟨⟨0, (), rfl, rfl, by rw [ht]; exact hP9, va_K.moved hW.alike hK, hD9⟩, hS.F ht⟩) hS.2.2 dLw_same_25
set_option maxHeartbeats 4000000 in
set_option maxRecDepth 100000 in
/-- same(x, ..) -/
theorem h_sameS (l : Launch) (dC : Nat → ClassId) (dI : Nat → Nat → Nat) (sz : Nat) (x xa r ra : Nat) (cI cQ : ClassId) (ad : Nat → Nat → Nat) (ri rv : Nat → Int32) (k f1 f2 f3 f4 : Nat) (hk4 : k < 4) (fi : Nat → Int32) (fa : Nat → Nat → Int32) (n : Nat) (hn : n < 2 ^ 31) (hix : fi 1 = nI n) (o : Nat) (cJ : ClassId) (og : Nat → Int64) : Met l yLw_same wsLw_same ({ frames := 6, cells := 0, slots := 0, locals := 240 }) (va_Pc [.ref x, .int (nI k), .int (nI k), .ref o] (fun U => U.heap.size = sz ∧ va_P (dC, dI) vwCl (wV x xa r cQ ad ++ wR r ra cI ri rv ++ wF (ad k 0) f1 f2 f3 f4 cI fi fa ++ wO o cJ og) U.heap ∧ va_K (dC, dI) vwCl [(cI, .int), (cQ, .object RFo), (cJ, .long)] U ∧ va_D (fun _ => True) (wV x xa r cQ ad ++ wR r ra cI ri rv ++ wF (ad k 0) f1 f2 f3 f4 cI fi fa ++ wO o cJ og))) (va_Qi (fun (r9 : Int32) (_ : Unit) => r9 = 0) (fun _ t => va_P (dC, dI) vwCl (wV x xa r cQ ad ++ wR r ra cI ri rv ++ wF (ad k 0) f1 f2 f3 f4 cI fi fa ++ wO o cJ (vp_updL og 0 (if s_like fi fa fi fa n = 0 then 0 else 1))) t.heap ∧ va_K (dC, dI) vwCl [(cI, .int), (cQ, .object RFo), (cJ, .long)] t ∧ va_D (va_A (wV x xa r cQ ad ++ wR r ra cI ri rv ++ wF (ad k 0) f1 f2 f3 f4 cI fi fa ++ wO o cJ og) sz) (wV x xa r cQ ad ++ wR r ra cI ri rv ++ wF (ad k 0) f1 f2 f3 f4 cI fi fa ++ wO o cJ (vp_updL og 0 (if s_like fi fa fi fa n = 0 then 0 else 1)))) (va_A (wV x xa r cQ ad ++ wR r ra cI ri rv ++ wF (ad k 0) f1 f2 f3 f4 cI fi fa ++ wO o cJ og) sz)) 0 0 (va_A (wV x xa r cQ ad ++ wR r ra cI ri rv ++ wF (ad k 0) f1 f2 f3 f4 cI fi fa ++ wO o cJ og) sz) := by
  refine va_MetW (cc := cLw_same) (maxL := 5) (ret := (some .int)) (by decide) rfl ?_
  intro p e s m args below meth c s₁ B hml hv
  obtain ⟨rfl, hsz, hP, hK, hD0⟩ := hv
  have hx := B.exec
  have hb := B.bytes
  have hr := B.returns
  have hts0 := atoms_spec (ws := wsLw_same) B.pre
  have hts := fun (w : Cond) (h : w ∈ lw_g) => hts0 w (List.mem_cons_of_mem _ h)
  have hown : s.vm.findClass RLw = some m.cls := findClass_of_methodNamed B.named
  have hlocks := B.notSynchronized
  subst hsz
  have hD := hD0.self (sz := s.heap.size)
  generalize hAe : va_A (wV x xa r cQ ad ++ wR r ra cI ri rv ++ wF (ad k 0) f1 f2 f3 f4 cI fi fa ++ wO o cJ og) s.heap.size = A at hD ⊢
  have hA : ∀ q : Nat, s.heap.size ≤ q → A q := fun q h => by rw [← hAe]; exact Or.inr h
  have hS : va_S A s.heap s.heap [] := va_S.rf
  have hP : va_P (dC, dI) vwCl (wV x xa r cQ ad ++ wR r ra cI ri rv ++ wF (ad k 0) f1 f2 f3 f4 cI fi fa ++ wO o cJ og) s.heap := hP
  have hl := lv_entry ([.ref x, .int (nI k), .int (nI k), .ref o]) (n := 5) (Nat.le_of_ble_eq_true rfl)
  rw [lg_entry_eq]
  generalize (lg_sl ([.ref x, .int (nI k), .int (nI k), .ref o]) ++ List.replicate (5 - (lg_sl ([.ref x, .int (nI k), .int (nI k), .ref o])).length) Slot.unset).toArray = ls at hl ⊢
  have hl : lv_has ls 5 [(0, .ref x), (1, .int (nI k)), (2, .int (nI k)), (3, .ref o)] := hl
  refine lv_aload_n hx hb dLw_same_0 rfl (lv_at hl 3 rfl) ?_
  refine lv_iconst (v := 0) hx hb dLw_same_1 (by decide) ?_
  refine lv_aload_n hx hb dLw_same_2 rfl (lv_at hl 0 rfl) ?_
  refine lv_iload_n hx hb dLw_same_3 rfl (lv_at hl 1 rfl) ?_
  refine lv_iload_n hx hb dLw_same_4 rfl (lv_at hl 2 rfl) ?_
  have hPc := hP.sub (ws' := (wV x xa r cQ ad ++ wR r ra cI ri rv ++ wF (ad k 0) f1 f2 f3 f4 cI fi fa ++ wF (ad k 0) f1 f2 f3 f4 cI fi fa)) [0, 1, 2, 3, 4, 5, 6, 7, 8, 4, 5, 6, 7, 8] rfl
  have hKc := hK.sub (tys' := [(cI, .int), (cQ, .object RFo)]) [0, 1] rfl
  refine vp_callSi (W.runV (As := [.int (nI k), .int (nI k)]) (rest := [.int 0, .ref o]) ⟨hx, hb, hml, hown, hts⟩ (k_V_same l dC dI x xa r ra cI cQ ad ri rv k f1 f2 f3 f4 hk4 fi fa k f1 f2 f3 f4 hk4 fi fa n hn hix) (cwV 2 hts (gd_V in_264 in_266 in_267 in_112 in_265) rfl rfl rfl (by decide +kernel) ⟨Nat.le_of_ble_eq_true rfl, Nat.le_of_ble_eq_true rfl⟩) ⟨fun a U g mk q => by obtain ⟨q0, qP, qK⟩ := q; exact ⟨q0, qP, va_K.moved (u := U) (U := U.calling g mk a) (Vm.Alike.refl U.vm) qK⟩, va_recv hKc hPc (ci := 2) (q0 := 0) rfl rfl, fun U hU hW => ⟨rfl, by rw [hU]; exact hPc, va_K.moved hW.alike hKc⟩⟩ rfl rfl hl.1 rfl (lv_room (Nat.le_of_ble_eq_true rfl)) dLw_same_5 ⟨Nat.le_of_ble_eq_true rfl, Nat.le_of_ble_eq_true rfl⟩) (fun r_1 er_2 => ?_)
  subst er_2
  refine lv_if_eq (tgt := 15) hx hb dLw_same_8 (by decide) (fun c_3 => ?_) (fun c_3 => ?_)
  · skip
    refine lv_lconst (v := 0) hx hb dLw_same_15 (by decide) ?_
    refine vq_last (k := 0) (f := og) hx hb hK hP hD hS 9 2 rfl rfl nI_0.symm (by decide) (by decide) dLw_same_16 (fun H locs hP hD hS => ?_)
    have hP : va_P (dC, dI) vwCl (wV x xa r cQ ad ++ wR r ra cI ri rv ++ wF (ad k 0) f1 f2 f3 f4 cI fi fa ++ wO o cJ (vp_updL og 0 0)) H := hP
    have hD : va_D A (wV x xa r cQ ad ++ wR r ra cI ri rv ++ wF (ad k 0) f1 f2 f3 f4 cI fi fa ++ wO o cJ (vp_updL og 0 0)) := hD
    refine lv_goto (tgt := 24) hx hb dLw_same_17 (by decide) ?_
    refine lv_iconst (v := 0) hx hb dLw_same_24 (by decide) ?_
    have hP9 : va_P (dC, dI) vwCl (wV x xa r cQ ad ++ wR r ra cI ri rv ++ wF (ad k 0) f1 f2 f3 f4 cI fi fa ++ wO o cJ (vp_updL og 0 (if s_like fi fa fi fa n = 0 then 0 else 1))) H := by simp only [if_pos c_3]; exact hP
    have hD9 : va_D A (wV x xa r cQ ad ++ wR r ra cI ri rv ++ wF (ad k 0) f1 f2 f3 f4 cI fi fa ++ wO o cJ (vp_updL og 0 (if s_like fi fa fi fa n = 0 then 0 else 1))) := by simp only [if_pos c_3]; exact hD
    exact W.iret (v := 0) hx hb hr (fun t ht hW => ⟨⟨0, (), rfl, rfl, by rw [ht]; exact hP9, va_K.moved hW.alike hK, hD9⟩, hS.F ht⟩) hS.2.2 dLw_same_25
  · skip
    refine lv_lconst (v := 1) hx hb dLw_same_11 (by decide) ?_
    refine lv_goto (tgt := 16) hx hb dLw_same_12 (by decide) ?_
    refine vq_last (k := 0) (f := og) hx hb hK hP hD hS 9 2 rfl rfl nI_0.symm (by decide) (by decide) dLw_same_16 (fun H locs hP hD hS => ?_)
    have hP : va_P (dC, dI) vwCl (wV x xa r cQ ad ++ wR r ra cI ri rv ++ wF (ad k 0) f1 f2 f3 f4 cI fi fa ++ wO o cJ (vp_updL og 0 1)) H := hP
    have hD : va_D A (wV x xa r cQ ad ++ wR r ra cI ri rv ++ wF (ad k 0) f1 f2 f3 f4 cI fi fa ++ wO o cJ (vp_updL og 0 1)) := hD
    refine lv_goto (tgt := 24) hx hb dLw_same_17 (by decide) ?_
    refine lv_iconst (v := 0) hx hb dLw_same_24 (by decide) ?_
    have hP9 : va_P (dC, dI) vwCl (wV x xa r cQ ad ++ wR r ra cI ri rv ++ wF (ad k 0) f1 f2 f3 f4 cI fi fa ++ wO o cJ (vp_updL og 0 (if s_like fi fa fi fa n = 0 then 0 else 1))) H := by simp only [if_neg c_3]; exact hP
    have hD9 : va_D A (wV x xa r cQ ad ++ wR r ra cI ri rv ++ wF (ad k 0) f1 f2 f3 f4 cI fi fa ++ wO o cJ (vp_updL og 0 (if s_like fi fa fi fa n = 0 then 0 else 1))) := by simp only [if_neg c_3]; exact hD
    exact W.iret (v := 0) hx hb hr (fun t ht hW => ⟨⟨0, (), rfl, rfl, by rw [ht]; exact hP9, va_K.moved hW.alike hK, hD9⟩, hS.F ht⟩) hS.2.2 dLw_same_25
set_option maxHeartbeats 4000000 in
set_option maxRecDepth 100000 in
/-- take(x, k, k) -/
theorem h_takeS (l : Launch) (dC : Nat → ClassId) (dI : Nat → Nat → Nat) (sz : Nat) (x xa r ra : Nat) (cI cQ : ClassId) (ad : Nat → Nat → Nat) (ri rv : Nat → Int32) (k f1 f2 f3 f4 : Nat) (hk4 : k < 4) (fi : Nat → Int32) (fa : Nat → Nat → Int32) (o : Nat) (cJ : ClassId) (og : Nat → Int64) : Met l yLw_take wsLw_take ({ frames := 6, cells := 0, slots := 0, locals := 240 }) (va_Pc [.ref x, .int (nI k), .int (nI k), .ref o] (fun U => U.heap.size = sz ∧ va_P (dC, dI) vwCl (wV x xa r cQ ad ++ wR r ra cI ri rv ++ wF (ad k 0) f1 f2 f3 f4 cI fi fa ++ wO o cJ og) U.heap ∧ va_K (dC, dI) vwCl [(cI, .int), (cQ, .object RFo), (cJ, .long)] U ∧ va_D (fun _ => True) (wV x xa r cQ ad ++ wR r ra cI ri rv ++ wF (ad k 0) f1 f2 f3 f4 cI fi fa ++ wO o cJ og))) (va_Qi (fun (r9 : Int32) (_ : Unit) => r9 = 0) (fun _ t => va_P (dC, dI) vwCl (wV x xa r cQ ad ++ wR r ra cI ri rv ++ wF (ad k 0) f1 f2 f3 f4 cI fi fa ++ wO o cJ (vp_updL og 0 0)) t.heap ∧ va_K (dC, dI) vwCl [(cI, .int), (cQ, .object RFo), (cJ, .long)] t ∧ va_D (va_A (wV x xa r cQ ad ++ wR r ra cI ri rv ++ wF (ad k 0) f1 f2 f3 f4 cI fi fa ++ wO o cJ og) sz) (wV x xa r cQ ad ++ wR r ra cI ri rv ++ wF (ad k 0) f1 f2 f3 f4 cI fi fa ++ wO o cJ (vp_updL og 0 0))) (va_A (wV x xa r cQ ad ++ wR r ra cI ri rv ++ wF (ad k 0) f1 f2 f3 f4 cI fi fa ++ wO o cJ og) sz)) 0 0 (va_A (wV x xa r cQ ad ++ wR r ra cI ri rv ++ wF (ad k 0) f1 f2 f3 f4 cI fi fa ++ wO o cJ og) sz) := by
  refine va_MetW (cc := cLw_take) (maxL := 5) (ret := (some .int)) (by decide) rfl ?_
  intro p e s m args below meth c s₁ B hml hv
  obtain ⟨rfl, hsz, hP, hK, hD0⟩ := hv
  have hx := B.exec
  have hb := B.bytes
  have hr := B.returns
  have hts0 := atoms_spec (ws := wsLw_take) B.pre
  have hts := fun (w : Cond) (h : w ∈ lw_g) => hts0 w (List.mem_cons_of_mem _ h)
  have hown : s.vm.findClass RLw = some m.cls := findClass_of_methodNamed B.named
  have hlocks := B.notSynchronized
  subst hsz
  have hD := hD0.self (sz := s.heap.size)
  generalize hAe : va_A (wV x xa r cQ ad ++ wR r ra cI ri rv ++ wF (ad k 0) f1 f2 f3 f4 cI fi fa ++ wO o cJ og) s.heap.size = A at hD ⊢
  have hA : ∀ q : Nat, s.heap.size ≤ q → A q := fun q h => by rw [← hAe]; exact Or.inr h
  have hS : va_S A s.heap s.heap [] := va_S.rf
  have hP : va_P (dC, dI) vwCl (wV x xa r cQ ad ++ wR r ra cI ri rv ++ wF (ad k 0) f1 f2 f3 f4 cI fi fa ++ wO o cJ og) s.heap := hP
  have hl := lv_entry ([.ref x, .int (nI k), .int (nI k), .ref o]) (n := 5) (Nat.le_of_ble_eq_true rfl)
  rw [lg_entry_eq]
  generalize (lg_sl ([.ref x, .int (nI k), .int (nI k), .ref o]) ++ List.replicate (5 - (lg_sl ([.ref x, .int (nI k), .int (nI k), .ref o])).length) Slot.unset).toArray = ls at hl ⊢
  have hl : lv_has ls 5 [(0, .ref x), (1, .int (nI k)), (2, .int (nI k)), (3, .ref o)] := hl
  refine lv_aload_n hx hb dLw_take_0 rfl (lv_at hl 3 rfl) ?_
  refine lv_iconst (v := 0) hx hb dLw_take_1 (by decide) ?_
  refine lv_aload_n hx hb dLw_take_2 rfl (lv_at hl 0 rfl) ?_
  refine lv_iload_n hx hb dLw_take_3 rfl (lv_at hl 1 rfl) ?_
  refine lv_iload_n hx hb dLw_take_4 rfl (lv_at hl 2 rfl) ?_
  have hPc := hP.sub (ws' := (wV x xa r cQ ad ++ wR r ra cI ri rv ++ wF (ad k 0) f1 f2 f3 f4 cI fi fa)) [0, 1, 2, 3, 4, 5, 6, 7, 8] rfl
  have hKc := hK.sub (tys' := [(cI, .int), (cQ, .object RFo)]) [0, 1] rfl
  refine vp_callSi (W.runV (As := [.int (nI k), .int (nI k)]) (rest := [.int 0, .ref o]) ⟨hx, hb, hml, hown, hts⟩ (k_V_takeS l dC dI x xa r ra cI cQ ad ri rv k f1 f2 f3 f4 hk4 fi fa) (cwV 2 hts (gd_V in_268 in_270 in_271 in_112 in_269) rfl rfl rfl (by decide +kernel) ⟨Nat.le_of_ble_eq_true rfl, Nat.le_of_ble_eq_true rfl⟩) ⟨fun a U g mk q => by obtain ⟨q0, qP, qK⟩ := q; exact ⟨q0, qP, va_K.moved (u := U) (U := U.calling g mk a) (Vm.Alike.refl U.vm) qK⟩, va_recv hKc hPc (ci := 2) (q0 := 0) rfl rfl, fun U hU hW => ⟨rfl, by rw [hU]; exact hPc, va_K.moved hW.alike hKc⟩⟩ rfl rfl hl.1 rfl (lv_room (Nat.le_of_ble_eq_true rfl)) dLw_take_5 ⟨Nat.le_of_ble_eq_true rfl, Nat.le_of_ble_eq_true rfl⟩) (fun r_1 er_2 => ?_)
  subst er_2
  refine lv_if_eq (tgt := 15) hx hb dLw_take_8 (by decide) (fun _ => ?_) (fun c_3 => absurd c_3 (by decide))
  refine lv_lconst (v := 0) hx hb dLw_take_15 (by decide) ?_
  refine vq_last (k := 0) (f := og) hx hb hK hP hD hS 9 2 rfl rfl nI_0.symm (by decide) (by decide) dLw_take_16 (fun H locs hP hD hS => ?_)
  have hP : va_P (dC, dI) vwCl (wV x xa r cQ ad ++ wR r ra cI ri rv ++ wF (ad k 0) f1 f2 f3 f4 cI fi fa ++ wO o cJ (vp_updL og 0 0)) H := hP
  have hD : va_D A (wV x xa r cQ ad ++ wR r ra cI ri rv ++ wF (ad k 0) f1 f2 f3 f4 cI fi fa ++ wO o cJ (vp_updL og 0 0)) := hD
  refine lv_goto (tgt := 24) hx hb dLw_take_17 (by decide) ?_
  refine lv_iconst (v := 0) hx hb dLw_take_24 (by decide) ?_
  have hP9 : va_P (dC, dI) vwCl (wV x xa r cQ ad ++ wR r ra cI ri rv ++ wF (ad k 0) f1 f2 f3 f4 cI fi fa ++ wO o cJ (vp_updL og 0 0)) H := by exact hP
  have hD9 : va_D A (wV x xa r cQ ad ++ wR r ra cI ri rv ++ wF (ad k 0) f1 f2 f3 f4 cI fi fa ++ wO o cJ (vp_updL og 0 0)) := by exact hD
  exact W.iret (v := 0) hx hb hr (fun t ht hW => ⟨⟨0, (), rfl, rfl, by rw [ht]; exact hP9, va_K.moved hW.alike hK, hD9⟩, hS.F ht⟩) hS.2.2 dLw_take_25
set_option maxHeartbeats 4000000 in
set_option maxRecDepth 100000 in
/-- apply(x, k) -/
theorem h_apply (l : Launch) (dC : Nat → ClassId) (dI : Nat → Nat → Nat) (sz : Nat) (x xa r ra : Nat) (cI cQ : ClassId) (ad : Nat → Nat → Nat) (ri rv : Nat → Int32) (k f1 f2 f3 f4 : Nat) (hk4 : k < 4) (fi : Nat → Int32) (fa : Nat → Nat → Int32) (n se : Nat) (hn : n < 2 ^ 30) (hix : fi 1 = nI n) (hse : ri 0 = nI se) (hs16 : se < 16) (o : Nat) (cJ : ClassId) (og : Nat → Int64) : Met l yLw_apply wsLw_apply ({ frames := 6, cells := 0, slots := 0, locals := 240 }) (va_Pc [.ref x, .int (nI k), .ref o] (fun U => U.heap.size = sz ∧ va_P (dC, dI) vwCl (wV x xa r cQ ad ++ wR r ra cI ri rv ++ wF (ad k 0) f1 f2 f3 f4 cI fi fa ++ wO o cJ og) U.heap ∧ va_K (dC, dI) vwCl [(cI, .int), (cQ, .object RFo), (cJ, .long)] U ∧ va_D (fun _ => True) (wV x xa r cQ ad ++ wR r ra cI ri rv ++ wF (ad k 0) f1 f2 f3 f4 cI fi fa ++ wO o cJ og))) (va_Qi (fun (r9 : Int32) (_ : Unit) => r9 = 0) (fun _ t => va_P (dC, dI) vwCl (wV x xa r cQ ad ++ wR r ra cI ri rv ++ wF (ad k 0) f1 f2 f3 f4 cI ((s_adm fi fa ri rv n se).2.1) ((s_adm fi fa ri rv n se).2.2) ++ wO o cJ (vp_updL og 0 (s_adm fi fa ri rv n se).1.toInt64)) t.heap ∧ va_K (dC, dI) vwCl [(cI, .int), (cQ, .object RFo), (cJ, .long)] t ∧ va_D (va_A (wV x xa r cQ ad ++ wR r ra cI ri rv ++ wF (ad k 0) f1 f2 f3 f4 cI fi fa ++ wO o cJ og) sz) (wV x xa r cQ ad ++ wR r ra cI ri rv ++ wF (ad k 0) f1 f2 f3 f4 cI ((s_adm fi fa ri rv n se).2.1) ((s_adm fi fa ri rv n se).2.2) ++ wO o cJ (vp_updL og 0 (s_adm fi fa ri rv n se).1.toInt64))) (va_A (wV x xa r cQ ad ++ wR r ra cI ri rv ++ wF (ad k 0) f1 f2 f3 f4 cI fi fa ++ wO o cJ og) sz)) 0 0 (va_A (wV x xa r cQ ad ++ wR r ra cI ri rv ++ wF (ad k 0) f1 f2 f3 f4 cI fi fa ++ wO o cJ og) sz) := by
  refine va_MetW (cc := cLw_apply) (maxL := 4) (ret := (some .int)) (by decide) rfl ?_
  intro p e s m args below meth c s₁ B hml hv
  obtain ⟨rfl, hsz, hP, hK, hD0⟩ := hv
  have hx := B.exec
  have hb := B.bytes
  have hr := B.returns
  have hts0 := atoms_spec (ws := wsLw_apply) B.pre
  have hts := fun (w : Cond) (h : w ∈ lw_g) => hts0 w (List.mem_cons_of_mem _ h)
  have hown : s.vm.findClass RLw = some m.cls := findClass_of_methodNamed B.named
  have hlocks := B.notSynchronized
  subst hsz
  have hD := hD0.self (sz := s.heap.size)
  generalize hAe : va_A (wV x xa r cQ ad ++ wR r ra cI ri rv ++ wF (ad k 0) f1 f2 f3 f4 cI fi fa ++ wO o cJ og) s.heap.size = A at hD ⊢
  have hA : ∀ q : Nat, s.heap.size ≤ q → A q := fun q h => by rw [← hAe]; exact Or.inr h
  have hS : va_S A s.heap s.heap [] := va_S.rf
  have hP : va_P (dC, dI) vwCl (wV x xa r cQ ad ++ wR r ra cI ri rv ++ wF (ad k 0) f1 f2 f3 f4 cI fi fa ++ wO o cJ og) s.heap := hP
  have hl := lv_entry ([.ref x, .int (nI k), .ref o]) (n := 4) (Nat.le_of_ble_eq_true rfl)
  rw [lg_entry_eq]
  generalize (lg_sl ([.ref x, .int (nI k), .ref o]) ++ List.replicate (4 - (lg_sl ([.ref x, .int (nI k), .ref o])).length) Slot.unset).toArray = ls at hl ⊢
  have hl : lv_has ls 4 [(0, .ref x), (1, .int (nI k)), (2, .ref o)] := hl
  refine lv_aload_n hx hb dLw_apply_0 rfl (lv_at hl 2 rfl) ?_
  refine lv_iconst (v := 0) hx hb dLw_apply_1 (by decide) ?_
  refine lv_aload_n hx hb dLw_apply_2 rfl (lv_at hl 0 rfl) ?_
  refine lv_iload_n hx hb dLw_apply_3 rfl (lv_at hl 1 rfl) ?_
  have hPc := hP.sub (ws' := (wV x xa r cQ ad ++ wR r ra cI ri rv ++ wF (ad k 0) f1 f2 f3 f4 cI fi fa)) [0, 1, 2, 3, 4, 5, 6, 7, 8] rfl
  have hDc := hD.sub (ws' := (wV x xa r cQ ad ++ wR r ra cI ri rv ++ wF (ad k 0) f1 f2 f3 f4 cI fi fa)) [0, 1, 2, 3, 4, 5, 6, 7, 8] (by decide) rfl
  have hKc := hK.sub (tys' := [(cI, .int), (cQ, .object RFo)]) [0, 1] rfl
  have hFc := va_free (wc := (wV x xa r cQ ad ++ wR r ra cI ri rv ++ wF (ad k 0) f1 f2 f3 f4 cI fi fa)) hD hS hA [0, 1, 2, 3, 4, 5, 6, 7, 8] rfl
  refine va_calli (va_runV (As := [.int (nI k)]) (rest := [.int 0, .ref o]) ⟨hx, hb, hml, hown, hts⟩ (k_V_apply l dC dI s.heap.size x xa r ra cI cQ ad ri rv k f1 f2 f3 f4 hk4 fi fa n se hn hix hse hs16) (cwV 1 hts (gd_V in_272 in_274 in_275 in_112 in_273) rfl rfl rfl (by decide +kernel) ⟨Nat.le_of_ble_eq_true rfl, Nat.le_of_ble_eq_true rfl⟩) ⟨fun a U g mk q => by obtain ⟨q0, q1, qP, qK, qD⟩ := q; exact ⟨q0, q1, qP, va_K.moved (u := U) (U := U.calling g mk a) (Vm.Alike.refl U.vm) qK, qD⟩, va_recv hKc hPc (ci := 2) (q0 := 0) rfl rfl, fun U hU hW => ⟨rfl, by rw [hU], by rw [hU]; exact hPc, va_K.moved hW.alike hKc, hDc.weaken (fun _ _ _ _ => trivial)⟩⟩ rfl rfl hl.1 rfl (lv_room (Nat.le_of_ble_eq_true rfl)) dLw_apply_4 ⟨Nat.le_of_ble_eq_true rfl, Nat.le_of_ble_eq_true rfl⟩) hS (fun q _ h => hFc q h) hFc (fun r_1 u t H1 locs ht hvm hw hB hz1 hk1 hS => ?_)
  obtain ⟨hP1, hK1, hD1⟩ := hB
  rw [ht] at hP1
  obtain ⟨hP, hD⟩ := va_join (wr := (wO o cJ og)) (w1 := (wV x xa r cQ ad ++ wR r ra cI ri rv ++ wF (ad k 0) f1 f2 f3 f4 cI ((s_adm fi fa ri rv n se).2.1) ((s_adm fi fa ri rv n se).2.2))) hP hD [0, 1, 2, 3, 4, 5, 6, 7, 8] [9] rfl rfl (by decide) (by decide) hk1 hFc hP1 hD1
  generalize H1 = H at hP hS ⊢
  have hP := hP.sub (ws' := (wV x xa r cQ ad ++ wR r ra cI ri rv ++ wF (ad k 0) f1 f2 f3 f4 cI ((s_adm fi fa ri rv n se).2.1) ((s_adm fi fa ri rv n se).2.2) ++ wO o cJ og)) [1, 2, 3, 4, 5, 6, 7, 8, 9, 0] rfl
  have hD := hD.sub (ws' := (wV x xa r cQ ad ++ wR r ra cI ri rv ++ wF (ad k 0) f1 f2 f3 f4 cI ((s_adm fi fa ri rv n se).2.1) ((s_adm fi fa ri rv n se).2.2) ++ wO o cJ og)) [1, 2, 3, 4, 5, 6, 7, 8, 9, 0] (by decide) rfl
  have hP : va_P (dC, dI) vwCl (wV x xa r cQ ad ++ wR r ra cI ri rv ++ wF (ad k 0) f1 f2 f3 f4 cI ((s_adm fi fa ri rv n se).2.1) ((s_adm fi fa ri rv n se).2.2) ++ wO o cJ og) H := hP
  have hD : va_D A (wV x xa r cQ ad ++ wR r ra cI ri rv ++ wF (ad k 0) f1 f2 f3 f4 cI ((s_adm fi fa ri rv n se).2.1) ((s_adm fi fa ri rv n se).2.2) ++ wO o cJ og) := hD
  have hw : r_1 = (s_adm fi fa ri rv n se).1 := hw
  subst hw
  refine lv_i2l (v := ((s_adm fi fa ri rv n se).1).toInt64) hx hb dLw_apply_7 rfl ?_
  refine vq_last (k := 0) (f := og) hx hb hK hP hD hS 9 2 rfl rfl nI_0.symm (by decide) (by decide) dLw_apply_8 (fun H locs hP hD hS => ?_)
  have hP : va_P (dC, dI) vwCl (wV x xa r cQ ad ++ wR r ra cI ri rv ++ wF (ad k 0) f1 f2 f3 f4 cI ((s_adm fi fa ri rv n se).2.1) ((s_adm fi fa ri rv n se).2.2) ++ wO o cJ (vp_updL og 0 (((s_adm fi fa ri rv n se).1).toInt64))) H := hP
  have hD : va_D A (wV x xa r cQ ad ++ wR r ra cI ri rv ++ wF (ad k 0) f1 f2 f3 f4 cI ((s_adm fi fa ri rv n se).2.1) ((s_adm fi fa ri rv n se).2.2) ++ wO o cJ (vp_updL og 0 (((s_adm fi fa ri rv n se).1).toInt64))) := hD
  refine lv_goto (tgt := 15) hx hb dLw_apply_9 (by decide) ?_
  refine lv_iconst (v := 0) hx hb dLw_apply_15 (by decide) ?_
  have hP9 : va_P (dC, dI) vwCl (wV x xa r cQ ad ++ wR r ra cI ri rv ++ wF (ad k 0) f1 f2 f3 f4 cI ((s_adm fi fa ri rv n se).2.1) ((s_adm fi fa ri rv n se).2.2) ++ wO o cJ (vp_updL og 0 (s_adm fi fa ri rv n se).1.toInt64)) H := by exact hP
  have hD9 : va_D A (wV x xa r cQ ad ++ wR r ra cI ri rv ++ wF (ad k 0) f1 f2 f3 f4 cI ((s_adm fi fa ri rv n se).2.1) ((s_adm fi fa ri rv n se).2.2) ++ wO o cJ (vp_updL og 0 (s_adm fi fa ri rv n se).1.toInt64)) := by exact hD
  exact W.iret (v := 0) hx hb hr (fun t ht hW => ⟨⟨0, (), rfl, rfl, by rw [ht]; exact hP9, va_K.moved hW.alike hK, hD9⟩, hS.F ht⟩) hS.2.2 dLw_apply_16
set_option maxHeartbeats 4000000 in
set_option maxRecDepth 100000 in
/-- clear(x, k) -/
theorem h_clear (l : Launch) (dC : Nat → ClassId) (dI : Nat → Nat → Nat) (sz : Nat) (x xa r ra : Nat) (cI cQ : ClassId) (ad : Nat → Nat → Nat) (ri rv : Nat → Int32) (k f1 f2 f3 f4 : Nat) (hk4 : k < 4) (fi : Nat → Int32) (fa : Nat → Nat → Int32) : Met l yLw_clear wsLw_clear ({ frames := 6, cells := 0, slots := 0, locals := 240 }) (va_Pc [.ref x, .int (nI k)] (fun U => U.heap.size = sz ∧ va_P (dC, dI) vwCl (wV x xa r cQ ad ++ wR r ra cI ri rv ++ wF (ad k 0) f1 f2 f3 f4 cI fi fa) U.heap ∧ va_K (dC, dI) vwCl [(cI, .int), (cQ, .object RFo)] U ∧ va_D (fun _ => True) (wV x xa r cQ ad ++ wR r ra cI ri rv ++ wF (ad k 0) f1 f2 f3 f4 cI fi fa))) (va_Qi (fun (r9 : Int32) (_ : Unit) => r9 = 0) (fun _ t => va_P (dC, dI) vwCl (wV x xa r cQ ad ++ wR r ra cI ri rv ++ wF (ad k 0) f1 f2 f3 f4 cI (s_rsi fi) (s_rsa fa)) t.heap ∧ va_K (dC, dI) vwCl [(cI, .int), (cQ, .object RFo)] t ∧ va_D (va_A (wV x xa r cQ ad ++ wR r ra cI ri rv ++ wF (ad k 0) f1 f2 f3 f4 cI fi fa) sz) (wV x xa r cQ ad ++ wR r ra cI ri rv ++ wF (ad k 0) f1 f2 f3 f4 cI (s_rsi fi) (s_rsa fa))) (va_A (wV x xa r cQ ad ++ wR r ra cI ri rv ++ wF (ad k 0) f1 f2 f3 f4 cI fi fa) sz)) 0 0 (va_A (wV x xa r cQ ad ++ wR r ra cI ri rv ++ wF (ad k 0) f1 f2 f3 f4 cI fi fa) sz) := by
  refine va_MetW (cc := cLw_clear) (maxL := 3) (ret := (some .int)) (by decide) rfl ?_
  intro p e s m args below meth c s₁ B hml hv
  obtain ⟨rfl, hsz, hP, hK, hD0⟩ := hv
  have hx := B.exec
  have hb := B.bytes
  have hr := B.returns
  have hts0 := atoms_spec (ws := wsLw_clear) B.pre
  have hts := fun (w : Cond) (h : w ∈ lw_g) => hts0 w (List.mem_cons_of_mem _ h)
  have hown : s.vm.findClass RLw = some m.cls := findClass_of_methodNamed B.named
  have hlocks := B.notSynchronized
  subst hsz
  have hD := hD0.self (sz := s.heap.size)
  generalize hAe : va_A (wV x xa r cQ ad ++ wR r ra cI ri rv ++ wF (ad k 0) f1 f2 f3 f4 cI fi fa) s.heap.size = A at hD ⊢
  have hA : ∀ q : Nat, s.heap.size ≤ q → A q := fun q h => by rw [← hAe]; exact Or.inr h
  have hS : va_S A s.heap s.heap [] := va_S.rf
  have hP : va_P (dC, dI) vwCl (wV x xa r cQ ad ++ wR r ra cI ri rv ++ wF (ad k 0) f1 f2 f3 f4 cI fi fa) s.heap := hP
  have hl := lv_entry ([.ref x, .int (nI k)]) (n := 3) (Nat.le_of_ble_eq_true rfl)
  rw [lg_entry_eq]
  generalize (lg_sl ([.ref x, .int (nI k)]) ++ List.replicate (3 - (lg_sl ([.ref x, .int (nI k)])).length) Slot.unset).toArray = ls at hl ⊢
  have hl : lv_has ls 3 [(0, .ref x), (1, .int (nI k))] := hl
  refine lv_aload_n hx hb dLw_clear_0 rfl (lv_at hl 0 rfl) ?_
  refine lv_iload_n hx hb dLw_clear_1 rfl (lv_at hl 1 rfl) ?_
  have hPc := hP.sub (ws' := (wV x xa r cQ ad ++ wR r ra cI ri rv ++ wF (ad k 0) f1 f2 f3 f4 cI fi fa)) [0, 1, 2, 3, 4, 5, 6, 7, 8] rfl
  have hDc := hD.sub (ws' := (wV x xa r cQ ad ++ wR r ra cI ri rv ++ wF (ad k 0) f1 f2 f3 f4 cI fi fa)) [0, 1, 2, 3, 4, 5, 6, 7, 8] (by decide) rfl
  have hKc := hK.sub (tys' := [(cI, .int), (cQ, .object RFo)]) [0, 1] rfl
  have hFc := va_free (wc := (wV x xa r cQ ad ++ wR r ra cI ri rv ++ wF (ad k 0) f1 f2 f3 f4 cI fi fa)) hD hS hA [0, 1, 2, 3, 4, 5, 6, 7, 8] rfl
  refine va_callv (va_runV (As := [.int (nI k)]) (rest := []) ⟨hx, hb, hml, hown, hts⟩ (k_V_clear l dC dI s.heap.size x xa r ra cI cQ ad ri rv k f1 f2 f3 f4 hk4 fi fa) (cwV 1 hts (gd_V in_276 in_278 in_279 in_112 in_277) rfl rfl rfl (by decide +kernel) ⟨Nat.le_of_ble_eq_true rfl, Nat.le_of_ble_eq_true rfl⟩) ⟨fun a U g mk q => by obtain ⟨q0, q1, qP, qK, qD⟩ := q; exact ⟨q0, q1, qP, va_K.moved (u := U) (U := U.calling g mk a) (Vm.Alike.refl U.vm) qK, qD⟩, va_recv hKc hPc (ci := 2) (q0 := 0) rfl rfl, fun U hU hW => ⟨rfl, by rw [hU], by rw [hU]; exact hPc, va_K.moved hW.alike hKc, hDc.weaken (fun _ _ _ _ => trivial)⟩⟩ rfl rfl hl.1 rfl (lv_room (Nat.le_of_ble_eq_true rfl)) dLw_clear_2 ⟨Nat.le_of_ble_eq_true rfl, Nat.le_of_ble_eq_true rfl⟩) hS (fun q _ h => hFc q h) hFc (fun u t H1 locs ht hvm hw hB hz1 hk1 hS => ?_)
  obtain ⟨hP1, hK1, hD1⟩ := hB
  rw [ht] at hP1
  obtain ⟨hP, hD⟩ := va_join (wr := []) (w1 := (wV x xa r cQ ad ++ wR r ra cI ri rv ++ wF (ad k 0) f1 f2 f3 f4 cI (s_rsi fi) (s_rsa fa))) hP hD [0, 1, 2, 3, 4, 5, 6, 7, 8] [] rfl rfl (by decide) (by decide) hk1 hFc hP1 hD1
  generalize H1 = H at hP hS ⊢
  have hP : va_P (dC, dI) vwCl (wV x xa r cQ ad ++ wR r ra cI ri rv ++ wF (ad k 0) f1 f2 f3 f4 cI (s_rsi fi) (s_rsa fa)) H := hP
  have hD : va_D A (wV x xa r cQ ad ++ wR r ra cI ri rv ++ wF (ad k 0) f1 f2 f3 f4 cI (s_rsi fi) (s_rsa fa)) := hD
  refine lv_goto (tgt := 11) hx hb dLw_clear_5 (by decide) ?_
  refine lv_iconst (v := 0) hx hb dLw_clear_11 (by decide) ?_
  have hP9 : va_P (dC, dI) vwCl (wV x xa r cQ ad ++ wR r ra cI ri rv ++ wF (ad k 0) f1 f2 f3 f4 cI (s_rsi fi) (s_rsa fa)) H := by exact hP
  have hD9 : va_D A (wV x xa r cQ ad ++ wR r ra cI ri rv ++ wF (ad k 0) f1 f2 f3 f4 cI (s_rsi fi) (s_rsa fa)) := by exact hD
  exact W.iret (v := 0) hx hb hr (fun t ht hW => ⟨⟨0, (), rfl, rfl, by rw [ht]; exact hP9, va_K.moved hW.alike hK, hD9⟩, hS.F ht⟩) hS.2.2 dLw_clear_12
set_option maxHeartbeats 4000000 in
set_option maxRecDepth 100000 in
/-- take(x, k, b) -/
theorem h_take (l : Launch) (dC : Nat → ClassId) (dI : Nat → Nat → Nat) (sz : Nat) (x xa r ra : Nat) (cI cQ : ClassId) (ad : Nat → Nat → Nat) (ri rv : Nat → Int32) (k f1 f2 f3 f4 : Nat) (hk4 : k < 4) (fi : Nat → Int32) (fa : Nat → Nat → Int32) (b g1 g2 g3 g4 : Nat) (hb4 : b < 4) (gi : Nat → Int32) (ga : Nat → Nat → Int32) (o : Nat) (cJ : ClassId) (og : Nat → Int64) : Met l yLw_take wsLw_take ({ frames := 6, cells := 0, slots := 0, locals := 240 }) (va_Pc [.ref x, .int (nI k), .int (nI b), .ref o] (fun U => U.heap.size = sz ∧ va_P (dC, dI) vwCl (wV x xa r cQ ad ++ wR r ra cI ri rv ++ wF (ad k 0) f1 f2 f3 f4 cI fi fa ++ wF (ad b 0) g1 g2 g3 g4 cI gi ga ++ wO o cJ og) U.heap ∧ va_K (dC, dI) vwCl [(cI, .int), (cQ, .object RFo), (cJ, .long)] U ∧ va_D (fun _ => True) (wV x xa r cQ ad ++ wR r ra cI ri rv ++ wF (ad k 0) f1 f2 f3 f4 cI fi fa ++ wF (ad b 0) g1 g2 g3 g4 cI gi ga ++ wO o cJ og))) (va_Qi (fun (r9 : Int32) (_ : Unit) => r9 = 0) (fun _ t => va_P (dC, dI) vwCl (wV x xa r cQ ad ++ wR r ra cI ri rv ++ wF (ad k 0) f1 f2 f3 f4 cI fi fa ++ wF (ad b 0) g1 g2 g3 g4 cI (s_tki fi gi) (s_tka fi gi fa ga) ++ wO o cJ (vp_updL og 0 (if (if gi 1 < fi 1 then (1 : Int32) else 0) = 0 then 0 else 1))) t.heap ∧ va_K (dC, dI) vwCl [(cI, .int), (cQ, .object RFo), (cJ, .long)] t ∧ va_D (va_A (wV x xa r cQ ad ++ wR r ra cI ri rv ++ wF (ad k 0) f1 f2 f3 f4 cI fi fa ++ wF (ad b 0) g1 g2 g3 g4 cI gi ga ++ wO o cJ og) sz) (wV x xa r cQ ad ++ wR r ra cI ri rv ++ wF (ad k 0) f1 f2 f3 f4 cI fi fa ++ wF (ad b 0) g1 g2 g3 g4 cI (s_tki fi gi) (s_tka fi gi fa ga) ++ wO o cJ (vp_updL og 0 (if (if gi 1 < fi 1 then (1 : Int32) else 0) = 0 then 0 else 1)))) (va_A (wV x xa r cQ ad ++ wR r ra cI ri rv ++ wF (ad k 0) f1 f2 f3 f4 cI fi fa ++ wF (ad b 0) g1 g2 g3 g4 cI gi ga ++ wO o cJ og) sz)) 0 0 (va_A (wV x xa r cQ ad ++ wR r ra cI ri rv ++ wF (ad k 0) f1 f2 f3 f4 cI fi fa ++ wF (ad b 0) g1 g2 g3 g4 cI gi ga ++ wO o cJ og) sz) := by
  refine va_MetW (cc := cLw_take) (maxL := 5) (ret := (some .int)) (by decide) rfl ?_
  intro p e s m args below meth c s₁ B hml hv
  obtain ⟨rfl, hsz, hP, hK, hD0⟩ := hv
  have hx := B.exec
  have hb := B.bytes
  have hr := B.returns
  have hts0 := atoms_spec (ws := wsLw_take) B.pre
  have hts := fun (w : Cond) (h : w ∈ lw_g) => hts0 w (List.mem_cons_of_mem _ h)
  have hown : s.vm.findClass RLw = some m.cls := findClass_of_methodNamed B.named
  have hlocks := B.notSynchronized
  subst hsz
  have hD := hD0.self (sz := s.heap.size)
  generalize hAe : va_A (wV x xa r cQ ad ++ wR r ra cI ri rv ++ wF (ad k 0) f1 f2 f3 f4 cI fi fa ++ wF (ad b 0) g1 g2 g3 g4 cI gi ga ++ wO o cJ og) s.heap.size = A at hD ⊢
  have hA : ∀ q : Nat, s.heap.size ≤ q → A q := fun q h => by rw [← hAe]; exact Or.inr h
  have hS : va_S A s.heap s.heap [] := va_S.rf
  have hP : va_P (dC, dI) vwCl (wV x xa r cQ ad ++ wR r ra cI ri rv ++ wF (ad k 0) f1 f2 f3 f4 cI fi fa ++ wF (ad b 0) g1 g2 g3 g4 cI gi ga ++ wO o cJ og) s.heap := hP
  have hl := lv_entry ([.ref x, .int (nI k), .int (nI b), .ref o]) (n := 5) (Nat.le_of_ble_eq_true rfl)
  rw [lg_entry_eq]
  generalize (lg_sl ([.ref x, .int (nI k), .int (nI b), .ref o]) ++ List.replicate (5 - (lg_sl ([.ref x, .int (nI k), .int (nI b), .ref o])).length) Slot.unset).toArray = ls at hl ⊢
  have hl : lv_has ls 5 [(0, .ref x), (1, .int (nI k)), (2, .int (nI b)), (3, .ref o)] := hl
  refine lv_aload_n hx hb dLw_take_0 rfl (lv_at hl 3 rfl) ?_
  refine lv_iconst (v := 0) hx hb dLw_take_1 (by decide) ?_
  refine lv_aload_n hx hb dLw_take_2 rfl (lv_at hl 0 rfl) ?_
  refine lv_iload_n hx hb dLw_take_3 rfl (lv_at hl 1 rfl) ?_
  refine lv_iload_n hx hb dLw_take_4 rfl (lv_at hl 2 rfl) ?_
  have hPc := hP.sub (ws' := (wV x xa r cQ ad ++ wR r ra cI ri rv ++ wF (ad k 0) f1 f2 f3 f4 cI fi fa ++ wF (ad b 0) g1 g2 g3 g4 cI gi ga)) [0, 1, 2, 3, 4, 5, 6, 7, 8, 9, 10, 11, 12, 13] rfl
  have hDc := hD.sub (ws' := (wV x xa r cQ ad ++ wR r ra cI ri rv ++ wF (ad k 0) f1 f2 f3 f4 cI fi fa ++ wF (ad b 0) g1 g2 g3 g4 cI gi ga)) [0, 1, 2, 3, 4, 5, 6, 7, 8, 9, 10, 11, 12, 13] (by decide) rfl
  have hKc := hK.sub (tys' := [(cI, .int), (cQ, .object RFo)]) [0, 1] rfl
  have hFc := va_free (wc := (wV x xa r cQ ad ++ wR r ra cI ri rv ++ wF (ad k 0) f1 f2 f3 f4 cI fi fa ++ wF (ad b 0) g1 g2 g3 g4 cI gi ga)) hD hS hA [0, 1, 2, 3, 4, 5, 6, 7, 8, 9, 10, 11, 12, 13] rfl
  refine va_calli (va_runV (As := [.int (nI k), .int (nI b)]) (rest := [.int 0, .ref o]) ⟨hx, hb, hml, hown, hts⟩ (k_V_take l dC dI s.heap.size x xa r ra cI cQ ad ri rv k f1 f2 f3 f4 hk4 fi fa b g1 g2 g3 g4 hb4 gi ga) (cwV 2 hts (gd_V in_268 in_270 in_271 in_112 in_269) rfl rfl rfl (by decide +kernel) ⟨Nat.le_of_ble_eq_true rfl, Nat.le_of_ble_eq_true rfl⟩) ⟨fun a U g mk q => by obtain ⟨q0, q1, qP, qK, qD⟩ := q; exact ⟨q0, q1, qP, va_K.moved (u := U) (U := U.calling g mk a) (Vm.Alike.refl U.vm) qK, qD⟩, va_recv hKc hPc (ci := 2) (q0 := 0) rfl rfl, fun U hU hW => ⟨rfl, by rw [hU], by rw [hU]; exact hPc, va_K.moved hW.alike hKc, hDc.weaken (fun _ _ _ _ => trivial)⟩⟩ rfl rfl hl.1 rfl (lv_room (Nat.le_of_ble_eq_true rfl)) dLw_take_5 ⟨Nat.le_of_ble_eq_true rfl, Nat.le_of_ble_eq_true rfl⟩) hS (fun q _ h => hFc q h) hFc (fun r_1 u t H1 locs ht hvm hw hB hz1 hk1 hS => ?_)
  obtain ⟨hP1, hK1, hD1⟩ := hB
  rw [ht] at hP1
  obtain ⟨hP, hD⟩ := va_join (wr := (wO o cJ og)) (w1 := (wV x xa r cQ ad ++ wR r ra cI ri rv ++ wF (ad k 0) f1 f2 f3 f4 cI fi fa ++ wF (ad b 0) g1 g2 g3 g4 cI (s_tki fi gi) (s_tka fi gi fa ga))) hP hD [0, 1, 2, 3, 4, 5, 6, 7, 8, 9, 10, 11, 12, 13] [14] rfl rfl (by decide) (by decide) hk1 hFc hP1 hD1
  generalize H1 = H at hP hS ⊢
  have hP := hP.sub (ws' := (wV x xa r cQ ad ++ wR r ra cI ri rv ++ wF (ad k 0) f1 f2 f3 f4 cI fi fa ++ wF (ad b 0) g1 g2 g3 g4 cI (s_tki fi gi) (s_tka fi gi fa ga) ++ wO o cJ og)) [1, 2, 3, 4, 5, 6, 7, 8, 9, 10, 11, 12, 13, 14, 0] rfl
  have hD := hD.sub (ws' := (wV x xa r cQ ad ++ wR r ra cI ri rv ++ wF (ad k 0) f1 f2 f3 f4 cI fi fa ++ wF (ad b 0) g1 g2 g3 g4 cI (s_tki fi gi) (s_tka fi gi fa ga) ++ wO o cJ og)) [1, 2, 3, 4, 5, 6, 7, 8, 9, 10, 11, 12, 13, 14, 0] (by decide) rfl
  have hP : va_P (dC, dI) vwCl (wV x xa r cQ ad ++ wR r ra cI ri rv ++ wF (ad k 0) f1 f2 f3 f4 cI fi fa ++ wF (ad b 0) g1 g2 g3 g4 cI (s_tki fi gi) (s_tka fi gi fa ga) ++ wO o cJ og) H := hP
  have hD : va_D A (wV x xa r cQ ad ++ wR r ra cI ri rv ++ wF (ad k 0) f1 f2 f3 f4 cI fi fa ++ wF (ad b 0) g1 g2 g3 g4 cI (s_tki fi gi) (s_tka fi gi fa ga) ++ wO o cJ og) := hD
  have hw : r_1 = (if gi 1 < fi 1 then (1 : Int32) else 0) := hw
  subst hw
  refine lv_if_eq (tgt := 15) hx hb dLw_take_8 (by decide) (fun c_2 => ?_) (fun c_2 => ?_)
  · skip
    refine lv_lconst (v := 0) hx hb dLw_take_15 (by decide) ?_
    refine vq_last (k := 0) (f := og) hx hb hK hP hD hS 14 2 rfl rfl nI_0.symm (by decide) (by decide) dLw_take_16 (fun H locs hP hD hS => ?_)
    have hP : va_P (dC, dI) vwCl (wV x xa r cQ ad ++ wR r ra cI ri rv ++ wF (ad k 0) f1 f2 f3 f4 cI fi fa ++ wF (ad b 0) g1 g2 g3 g4 cI (s_tki fi gi) (s_tka fi gi fa ga) ++ wO o cJ (vp_updL og 0 0)) H := hP
    have hD : va_D A (wV x xa r cQ ad ++ wR r ra cI ri rv ++ wF (ad k 0) f1 f2 f3 f4 cI fi fa ++ wF (ad b 0) g1 g2 g3 g4 cI (s_tki fi gi) (s_tka fi gi fa ga) ++ wO o cJ (vp_updL og 0 0)) := hD
    refine lv_goto (tgt := 24) hx hb dLw_take_17 (by decide) ?_
    refine lv_iconst (v := 0) hx hb dLw_take_24 (by decide) ?_
    have hP9 : va_P (dC, dI) vwCl (wV x xa r cQ ad ++ wR r ra cI ri rv ++ wF (ad k 0) f1 f2 f3 f4 cI fi fa ++ wF (ad b 0) g1 g2 g3 g4 cI (s_tki fi gi) (s_tka fi gi fa ga) ++ wO o cJ (vp_updL og 0 (if (if gi 1 < fi 1 then (1 : Int32) else 0) = 0 then 0 else 1))) H := by simp only [if_pos c_2]; exact hP
    have hD9 : va_D A (wV x xa r cQ ad ++ wR r ra cI ri rv ++ wF (ad k 0) f1 f2 f3 f4 cI fi fa ++ wF (ad b 0) g1 g2 g3 g4 cI (s_tki fi gi) (s_tka fi gi fa ga) ++ wO o cJ (vp_updL og 0 (if (if gi 1 < fi 1 then (1 : Int32) else 0) = 0 then 0 else 1))) := by simp only [if_pos c_2]; exact hD
    exact W.iret (v := 0) hx hb hr (fun t ht hW => ⟨⟨0, (), rfl, rfl, by rw [ht]; exact hP9, va_K.moved hW.alike hK, hD9⟩, hS.F ht⟩) hS.2.2 dLw_take_25
  · skip
    refine lv_lconst (v := 1) hx hb dLw_take_11 (by decide) ?_
    refine lv_goto (tgt := 16) hx hb dLw_take_12 (by decide) ?_
    refine vq_last (k := 0) (f := og) hx hb hK hP hD hS 14 2 rfl rfl nI_0.symm (by decide) (by decide) dLw_take_16 (fun H locs hP hD hS => ?_)
    have hP : va_P (dC, dI) vwCl (wV x xa r cQ ad ++ wR r ra cI ri rv ++ wF (ad k 0) f1 f2 f3 f4 cI fi fa ++ wF (ad b 0) g1 g2 g3 g4 cI (s_tki fi gi) (s_tka fi gi fa ga) ++ wO o cJ (vp_updL og 0 1)) H := hP
    have hD : va_D A (wV x xa r cQ ad ++ wR r ra cI ri rv ++ wF (ad k 0) f1 f2 f3 f4 cI fi fa ++ wF (ad b 0) g1 g2 g3 g4 cI (s_tki fi gi) (s_tka fi gi fa ga) ++ wO o cJ (vp_updL og 0 1)) := hD
    refine lv_goto (tgt := 24) hx hb dLw_take_17 (by decide) ?_
    refine lv_iconst (v := 0) hx hb dLw_take_24 (by decide) ?_
    have hP9 : va_P (dC, dI) vwCl (wV x xa r cQ ad ++ wR r ra cI ri rv ++ wF (ad k 0) f1 f2 f3 f4 cI fi fa ++ wF (ad b 0) g1 g2 g3 g4 cI (s_tki fi gi) (s_tka fi gi fa ga) ++ wO o cJ (vp_updL og 0 (if (if gi 1 < fi 1 then (1 : Int32) else 0) = 0 then 0 else 1))) H := by simp only [if_neg c_2]; exact hP
    have hD9 : va_D A (wV x xa r cQ ad ++ wR r ra cI ri rv ++ wF (ad k 0) f1 f2 f3 f4 cI fi fa ++ wF (ad b 0) g1 g2 g3 g4 cI (s_tki fi gi) (s_tka fi gi fa ga) ++ wO o cJ (vp_updL og 0 (if (if gi 1 < fi 1 then (1 : Int32) else 0) = 0 then 0 else 1))) := by simp only [if_neg c_2]; exact hD
    exact W.iret (v := 0) hx hb hr (fun t ht hW => ⟨⟨0, (), rfl, rfl, by rw [ht]; exact hP9, va_K.moved hW.alike hK, hD9⟩, hS.F ht⟩) hS.2.2 dLw_take_25
