set_option maxHeartbeats 4000000 in
set_option maxRecDepth 100000 in
/-- openNextRow() -/
theorem k_F_open (l : Launch) (dC : Nat → ClassId) (dI : Nat → Nat → Nat) (sz : Nat) (f f1 f2 f3 f4 : Nat) (cI : ClassId) (fi : Nat → Int32) (fa : Nat → Nat → Int32) (n : Nat) (hn : n < 2 ^ 30) (hix : fi 1 = nI n) : Met l yFo_openNextRow wsFo_openNextRow ({ frames := 2, cells := 0, slots := 0, locals := 80 }) (va_Pc [.ref f] (fun U => U.heap.size = sz ∧ va_P (dC, dI) vwCl (wF f f1 f2 f3 f4 cI fi fa) U.heap ∧ va_K (dC, dI) vwCl [(cI, .int)] U ∧ va_D (fun _ => True) (wF f f1 f2 f3 f4 cI fi fa))) (va_Qv (fun (_ : Unit) => True) (fun _ t => va_P (dC, dI) vwCl (wF f f1 f2 f3 f4 cI (s_opi fi) (s_opa fa n)) t.heap ∧ va_K (dC, dI) vwCl [(cI, .int)] t ∧ va_D (va_A (wF f f1 f2 f3 f4 cI fi fa) sz) (wF f f1 f2 f3 f4 cI (s_opi fi) (s_opa fa n))) (va_A (wF f f1 f2 f3 f4 cI fi fa) sz)) 0 0 (va_A (wF f f1 f2 f3 f4 cI fi fa) sz) := by
  refine Met.ofW (cc := cFo_openNextRow) (maxL := 2) (ret := none) (by decide) rfl ?_
  intro p e s m args below meth c s₁ B hml hv
  obtain ⟨rfl, hsz, hP, hK, hD0⟩ := hv
  have hx := B.exec
  have hb := B.bytes
  have hr := B.returns
  have hts0 := atoms_spec (ws := wsFo_openNextRow) B.pre
  have hts := fun (w : Cond) (h : w ∈ lw_g) => hts0 w (List.mem_cons_of_mem _ h)
  have hown : s.vm.findClass RFo = some m.cls := findClass_of_methodNamed B.named
  have hlocks := B.notSynchronized
  subst hsz
  have hD := hD0.self (sz := s.heap.size)
  generalize hAe : va_A (wF f f1 f2 f3 f4 cI fi fa) s.heap.size = A at hD ⊢
  have hA : ∀ q : Nat, s.heap.size ≤ q → A q := fun q h => by rw [← hAe]; exact Or.inr h
  have hS : va_S A s.heap s.heap [] := va_S.rf
  have hP : va_P (dC, dI) vwCl (wF f f1 f2 f3 f4 cI fi fa) s.heap := hP
  have hl := lv_entry ([.ref f]) (n := 2) (Nat.le_of_ble_eq_true rfl)
  rw [lg_entry_eq]
  generalize (lg_sl ([.ref f]) ++ List.replicate (2 - (lg_sl ([.ref f])).length) Slot.unset).toArray = ls at hl ⊢
  have hl : lv_has ls 2 [(0, .ref f)] := hl
  refine lv_aload_n hx hb dFo_openNextRow_0 rfl (lv_at hl 0 rfl) ?_
  refine va_get (D := (dC, dI)) (ci := 0) (v := .int (fi 1)) (C := RFo) (T := TFo) (N := 10) hx hb hts inFo hown hK hP 0 rfl rfl 1 (by decide) (hts _ in_6) (fun _ h9 => h9) rfl dFo_openNextRow_1 ?_
  refine lv_ri (y := nI n) hix ?_
  refine vp_callSi (W.runS (As := [.int (nI n)]) (rest := []) ⟨hx, hb, hml, hown, hts⟩ (k_F_rowStart l n (by omega)) (va_cwS 1 hts (gd_S in_15 in_18 in_17 in_16) rfl rfl rfl (by decide +kernel) ⟨Nat.le_of_ble_eq_true rfl, Nat.le_of_ble_eq_true rfl⟩) ⟨fun a U g mk q => q, fun U hU hW => ⟨rfl, trivial⟩⟩ rfl rfl hl.1 rfl (lv_room (Nat.le_of_ble_eq_true rfl)) dFo_openNextRow_4 ⟨Nat.le_of_ble_eq_true rfl, Nat.le_of_ble_eq_true rfl⟩) (fun r_1 er_2 => ?_)
  subst er_2
  refine lv_istore_n (lv' := [(1, .int (nI (n % 17 * 16))), (0, .ref f)]) hx hb dFo_openNextRow_7 rfl hl (by decide) rfl (fun ls hl => ?_)
  refine lv_aload_n hx hb dFo_openNextRow_8 rfl (lv_at hl 1 rfl) ?_
  refine lv_dup hx hb dFo_openNextRow_9 rfl ?_
  refine va_get (D := (dC, dI)) (ci := 0) (v := .int (fi 1)) (C := RFo) (T := TFo) (N := 10) hx hb hts inFo hown hK hP 0 rfl rfl 1 (by decide) (hts _ in_6) (fun _ h9 => h9) rfl dFo_openNextRow_10 ?_
  refine lv_iconst (v := 1) hx hb dFo_openNextRow_13 (by decide) ?_
  refine lv_iadd hx hb dFo_openNextRow_14 ?_
  refine va_put (D := (dC, dI)) (ci := 0) (v := .int ((fi 1) + 1)) (ty := .int) (C := RFo) (T := TFo) (N := 10) hx hb hts inFo tyFo tyFo_ok nmFo hown hK hP hD hS 0 rfl rfl 1 (by decide) (hts _ in_6) (fun _ h9 => h9) rfl (by decide +kernel) rfl rfl (Nat.le_of_ble_eq_true rfl) dFo_openNextRow_15 (fun H locs hP hD hS => ?_)
  have hP : va_P (dC, dI) vwCl (wF f f1 f2 f3 f4 cI (va_up fi 1 ((fi 1) + 1)) fa) H := hP
  have hD : va_D A (wF f f1 f2 f3 f4 cI (va_up fi 1 ((fi 1) + 1)) fa) := hD
  refine lv_aload_n hx hb dFo_openNextRow_18 rfl (lv_at hl 1 rfl) ?_
  refine va_get (D := (dC, dI)) (ci := 0) (v := .ref f1) (C := RFo) (T := TFo) (N := 10) hx hb hts inFo hown hK hP 0 rfl rfl 6 (by decide) (hts _ in_14) (fun _ h9 => h9) rfl dFo_openNextRow_19 ?_
  refine lv_iload_n hx hb dFo_openNextRow_22 rfl (lv_at hl 0 rfl) ?_
  refine lv_aload_n hx hb dFo_openNextRow_23 rfl (lv_at hl 1 rfl) ?_
  refine va_get (D := (dC, dI)) (ci := 0) (v := .ref f1) (C := RFo) (T := TFo) (N := 10) hx hb hts inFo hown hK hP 0 rfl rfl 6 (by decide) (hts _ in_14) (fun _ h9 => h9) rfl dFo_openNextRow_24 ?_
  refine lv_aload_n hx hb dFo_openNextRow_27 rfl (lv_at hl 1 rfl) ?_
  refine va_get (D := (dC, dI)) (ci := 0) (v := .int ((fi 1) + 1)) (C := RFo) (T := TFo) (N := 10) hx hb hts inFo hown hK hP 0 rfl rfl 1 (by decide) (hts _ in_6) (fun _ h9 => h9) rfl dFo_openNextRow_28 ?_
  refine lv_ri (y := nI (n + 1)) (by rw [hix]; exact nI_1 n) ?_
  refine vp_callSi (W.runS (As := [.int (nI (n + 1))]) (rest := [.ref f1, .int (nI (n % 17 * 16)), .ref f1]) ⟨hx, hb, hml, hown, hts⟩ (k_F_rowStart l (n + 1) (by omega)) (va_cwS 1 hts (gd_S in_15 in_18 in_17 in_16) rfl rfl rfl (by decide +kernel) ⟨Nat.le_of_ble_eq_true rfl, Nat.le_of_ble_eq_true rfl⟩) ⟨fun a U g mk q => q, fun U hU hW => ⟨rfl, trivial⟩⟩ rfl rfl hl.1 rfl (lv_room (Nat.le_of_ble_eq_true rfl)) dFo_openNextRow_31 ⟨Nat.le_of_ble_eq_true rfl, Nat.le_of_ble_eq_true rfl⟩) (fun r_3 er_4 => ?_)
  subst er_4
  refine lv_bipush (v := nI 16) hx hb dFo_openNextRow_34 (by decide) ?_
  refine vq_copyi (x := (n % 17 * 16)) (y := ((n + 1) % 17 * 16)) (z := 16) hx hb (hml.trans hl.1.symm) hown (hts _ in_46) (hts _ in_47) (hts _ in_48) (hts _ in_49) hK hP hD hS 1 1 0 rfl rfl rfl rfl rfl rfl (by omega) (by omega) (by decide) (by decide) (Nat.le_of_ble_eq_true rfl) (Nat.le_of_ble_eq_true rfl) dFo_openNextRow_36 (fun H locs hP hD hS => ?_)
  have hP : va_P (dC, dI) vwCl (wF f f1 f2 f3 f4 cI (va_up fi 1 ((fi 1) + 1)) (va_up fa 0 (va_cpy (fa 0) (fa 0) (n % 17 * 16) ((n + 1) % 17 * 16) 16))) H := hP
  have hD : va_D A (wF f f1 f2 f3 f4 cI (va_up fi 1 ((fi 1) + 1)) (va_up fa 0 (va_cpy (fa 0) (fa 0) (n % 17 * 16) ((n + 1) % 17 * 16) 16))) := hD
  refine lv_aload_n hx hb dFo_openNextRow_39 rfl (lv_at hl 1 rfl) ?_
  refine lv_aload_n hx hb dFo_openNextRow_40 rfl (lv_at hl 1 rfl) ?_
  refine va_get (D := (dC, dI)) (ci := 0) (v := .int (fi 2)) (C := RFo) (T := TFo) (N := 10) hx hb hts inFo hown hK hP 0 rfl rfl 2 (by decide) (hts _ in_13) (fun _ h9 => h9) rfl dFo_openNextRow_41 ?_
  refine lv_aload_n hx hb dFo_openNextRow_44 rfl (lv_at hl 1 rfl) ?_
  refine va_get (D := (dC, dI)) (ci := 0) (v := .int ((fi 1) + 1)) (C := RFo) (T := TFo) (N := 10) hx hb hts inFo hown hK hP 0 rfl rfl 1 (by decide) (hts _ in_6) (fun _ h9 => h9) rfl dFo_openNextRow_45 ?_
  refine lv_aload_n hx hb dFo_openNextRow_48 rfl (lv_at hl 1 rfl) ?_
  refine va_get (D := (dC, dI)) (ci := 0) (v := .int (fi 0)) (C := RFo) (T := TFo) (N := 10) hx hb hts inFo hown hK hP 0 rfl rfl 0 (by decide) (hts _ in_7) (fun _ h9 => h9) rfl dFo_openNextRow_49 ?_
  refine lv_isub hx hb dFo_openNextRow_52 ?_
  refine va_mmax hx hb (hml.trans hl.1.symm) hown (hts _ in_8) (hts _ in_9) (hts _ in_10) (hts _ in_11) (Nat.le_of_ble_eq_true rfl) (Nat.le_of_ble_eq_true rfl) (Nat.le_of_ble_eq_true rfl) (Nat.le_of_ble_eq_true rfl) dFo_openNextRow_53 ?_
  refine lv_ri (y := s_max (fi 2) (((fi 1) + 1) - (fi 0))) rfl ?_
  refine va_put (D := (dC, dI)) (ci := 0) (v := .int (s_max (fi 2) (((fi 1) + 1) - (fi 0)))) (ty := .int) (C := RFo) (T := TFo) (N := 10) hx hb hts inFo tyFo tyFo_ok nmFo hown hK hP hD hS 0 rfl rfl 2 (by decide) (hts _ in_13) (fun _ h9 => h9) rfl (by decide +kernel) rfl rfl (Nat.le_of_ble_eq_true rfl) dFo_openNextRow_56 (fun H locs hP hD hS => ?_)
  have hP : va_P (dC, dI) vwCl (wF f f1 f2 f3 f4 cI (va_up (va_up fi 1 ((fi 1) + 1)) 2 (s_max (fi 2) (((fi 1) + 1) - (fi 0)))) (va_up fa 0 (va_cpy (fa 0) (fa 0) (n % 17 * 16) ((n + 1) % 17 * 16) 16))) H := hP
  have hD : va_D A (wF f f1 f2 f3 f4 cI (va_up (va_up fi 1 ((fi 1) + 1)) 2 (s_max (fi 2) (((fi 1) + 1) - (fi 0)))) (va_up fa 0 (va_cpy (fa 0) (fa 0) (n % 17 * 16) ((n + 1) % 17 * 16) 16))) := hD
  have hP9 : va_P (dC, dI) vwCl (wF f f1 f2 f3 f4 cI (s_opi fi) (s_opa fa n)) H := by exact hP
  have hD9 : va_D A (wF f f1 f2 f3 f4 cI (s_opi fi) (s_opa fa n)) := by exact hD
  exact W.vret hx hb hr (fun t ht hW => ⟨⟨(), rfl, trivial, by rw [ht]; exact hP9, va_K.moved hW.alike hK, hD9⟩, hS.F ht⟩) hS.2.2 dFo_openNextRow_59
set_option maxHeartbeats 4000000 in
set_option maxRecDepth 100000 in
/-- store(request) -/
theorem k_F_store (l : Launch) (dC : Nat → ClassId) (dI : Nat → Nat → Nat) (sz : Nat) (f f1 f2 f3 f4 : Nat) (cI : ClassId) (fi : Nat → Int32) (fa : Nat → Nat → Int32) (r ra : Nat) (ri rv : Nat → Int32) (n : Nat) (hn : n < 2 ^ 31) (hix : fi 1 = nI n) : Met l yFo_store wsFo_store ({ frames := 2, cells := 0, slots := 0, locals := 80 }) (va_Pc [.ref f, .ref r] (fun U => U.heap.size = sz ∧ va_P (dC, dI) vwCl (wF f f1 f2 f3 f4 cI fi fa ++ wR r ra cI ri rv) U.heap ∧ va_K (dC, dI) vwCl [(cI, .int)] U ∧ va_D (fun _ => True) (wF f f1 f2 f3 f4 cI fi fa ++ wR r ra cI ri rv))) (va_Qv (fun (_ : Unit) => True) (fun _ t => va_P (dC, dI) vwCl (wF f f1 f2 f3 f4 cI fi (s_st (ri 4) rv n fa 16) ++ wR r ra cI ri rv) t.heap ∧ va_K (dC, dI) vwCl [(cI, .int)] t ∧ va_D (va_A (wF f f1 f2 f3 f4 cI fi fa ++ wR r ra cI ri rv) sz) (wF f f1 f2 f3 f4 cI fi (s_st (ri 4) rv n fa 16) ++ wR r ra cI ri rv)) (va_A (wF f f1 f2 f3 f4 cI fi fa ++ wR r ra cI ri rv) sz)) 0 0 (va_A (wF f f1 f2 f3 f4 cI fi fa ++ wR r ra cI ri rv) sz) := by
  refine Met.ofW (cc := cFo_store) (maxL := 4) (ret := none) (by decide) rfl ?_
  intro p e s m args below meth c s₁ B hml hv
  obtain ⟨rfl, hsz, hP, hK, hD0⟩ := hv
  have hx := B.exec
  have hb := B.bytes
  have hr := B.returns
  have hts0 := atoms_spec (ws := wsFo_store) B.pre
  have hts := fun (w : Cond) (h : w ∈ lw_g) => hts0 w (List.mem_cons_of_mem _ h)
  have hown : s.vm.findClass RFo = some m.cls := findClass_of_methodNamed B.named
  have hlocks := B.notSynchronized
  subst hsz
  have hD := hD0.self (sz := s.heap.size)
  generalize hAe : va_A (wF f f1 f2 f3 f4 cI fi fa ++ wR r ra cI ri rv) s.heap.size = A at hD ⊢
  have hA : ∀ q : Nat, s.heap.size ≤ q → A q := fun q h => by rw [← hAe]; exact Or.inr h
  have hS : va_S A s.heap s.heap [] := va_S.rf
  have hP : va_P (dC, dI) vwCl (wF f f1 f2 f3 f4 cI fi fa ++ wR r ra cI ri rv) s.heap := hP
  have hl := lv_entry ([.ref f, .ref r]) (n := 4) (Nat.le_of_ble_eq_true rfl)
  rw [lg_entry_eq]
  generalize (lg_sl ([.ref f, .ref r]) ++ List.replicate (4 - (lg_sl ([.ref f, .ref r])).length) Slot.unset).toArray = ls at hl ⊢
  have hl : lv_has ls 4 [(0, .ref f), (1, .ref r)] := hl
  refine lv_aload_n hx hb dFo_store_0 rfl (lv_at hl 0 rfl) ?_
  refine va_get (D := (dC, dI)) (ci := 0) (v := .int (fi 1)) (C := RFo) (T := TFo) (N := 10) hx hb hts inFo hown hK hP 0 rfl rfl 1 (by decide) (hts _ in_6) (fun _ h9 => h9) rfl dFo_store_1 ?_
  refine lv_ri (y := nI n) hix ?_
  refine vp_callSi (W.runS (As := [.int (nI n)]) (rest := []) ⟨hx, hb, hml, hown, hts⟩ (k_F_rowStart l n (by omega)) (va_cwS 1 hts (gd_S in_15 in_18 in_17 in_16) rfl rfl rfl (by decide +kernel) ⟨Nat.le_of_ble_eq_true rfl, Nat.le_of_ble_eq_true rfl⟩) ⟨fun a U g mk q => q, fun U hU hW => ⟨rfl, trivial⟩⟩ rfl rfl hl.1 rfl (lv_room (Nat.le_of_ble_eq_true rfl)) dFo_store_4 ⟨Nat.le_of_ble_eq_true rfl, Nat.le_of_ble_eq_true rfl⟩) (fun r_1 er_2 => ?_)
  subst er_2
  refine lv_istore_n (lv' := [(2, .int (nI (n % 17 * 16))), (0, .ref f), (1, .ref r)]) hx hb dFo_store_7 rfl hl (by decide) rfl (fun ls hl => ?_)
  refine lv_iconst (v := 0) hx hb dFo_store_8 (by decide) ?_
  refine lv_istore_n (lv' := [(3, .int 0), (2, .int (nI (n % 17 * 16))), (0, .ref f), (1, .ref r)]) hx hb dFo_store_9 rfl hl (by decide) rfl (fun ls hl => ?_)
  refine wl_rw (σ := Nat × Heap × List Loc × Array Slot) (fun z9 => (z9.2.1, z9.2.2.1, F0 m 10 z9.2.2.2 [])) (fun z9 => z9.1 ≤ 16 ∧ va_P (dC, dI) vwCl (wF f f1 f2 f3 f4 cI fi (s_st (ri 4) rv n fa z9.1) ++ wR r ra cI ri rv) z9.2.1 ∧ va_D A (wF f f1 f2 f3 f4 cI fi (s_st (ri 4) rv n fa z9.1) ++ wR r ra cI ri rv) ∧ va_S A s.heap z9.2.1 z9.2.2.1 ∧ lv_has z9.2.2.2 4 [(3, .int (nI z9.1)), (2, .int (nI (n % 17 * 16))), (0, .ref f), (1, .ref r)]) (fun z9 => 16 - z9.1) ?_ (0, s.heap, [], ls) ⟨by omega, hP, hD, hS, lv_sub hl [0, 1, 2, 3] rfl⟩
  rintro ⟨k, H, locs, ls⟩ ⟨hk, hP, hD, hS, hl⟩ ih
  have hk : k ≤ 16 := hk
  have hP : va_P (dC, dI) vwCl (wF f f1 f2 f3 f4 cI fi (s_st (ri 4) rv n fa k) ++ wR r ra cI ri rv) H := hP
  have hD : va_D A (wF f f1 f2 f3 f4 cI fi (s_st (ri 4) rv n fa k) ++ wR r ra cI ri rv) := hD
  have hS : va_S A s.heap H locs := hS
  have hl : lv_has ls 4 [(3, .int (nI k)), (2, .int (nI (n % 17 * 16))), (0, .ref f), (1, .ref r)] := hl
  show W p l e _ s m _ below meth c H locs _ _ _ (F0 m 10 ls [])
  refine lv_iload_n hx hb dFo_store_10 rfl (lv_at hl 0 rfl) ?_
  refine lv_bipush (v := nI 16) hx hb dFo_store_11 (by decide) ?_
  refine lv_icmp_ge (tgt := 54) hx hb dFo_store_13 (by decide) (fun c_3 => ?_) (fun c_3 => ?_)
  · skip
    have hk9 : k = 16 := lp_x (by decide) hk c_3
    subst hk9
    have hP9 : va_P (dC, dI) vwCl (wF f f1 f2 f3 f4 cI fi (s_st (ri 4) rv n fa 16) ++ wR r ra cI ri rv) H := by exact hP
    have hD9 : va_D A (wF f f1 f2 f3 f4 cI fi (s_st (ri 4) rv n fa 16) ++ wR r ra cI ri rv) := by exact hD
    exact W.vret hx hb hr (fun t ht hW => ⟨⟨(), rfl, trivial, by rw [ht]; exact hP9, va_K.moved hW.alike hK, hD9⟩, hS.F ht⟩) hS.2.2 dFo_store_54
  · skip
    have hk : k < 16 := lp_c (by decide) hk c_3
    refine lv_aload_n hx hb dFo_store_16 rfl (lv_at hl 3 rfl) ?_
    refine lv_iload_n hx hb dFo_store_17 rfl (lv_at hl 0 rfl) ?_
    have hPc := hP.sub (ws' := (wR r ra cI ri rv)) [5, 6] rfl
    have hKc := hK.sub (tys' := [(cI, .int)]) [0] rfl
    refine vp_callSi (W.runV (As := [.int (nI k)]) (rest := []) ⟨hx, hb, hml, hown, hts⟩ (k_R_hasWrite l dC dI r ra cI ri rv (nI k)) (cwV 1 hts (gd_V in_50 in_53 in_54 in_52 in_51) rfl rfl rfl (by decide +kernel) ⟨Nat.le_of_ble_eq_true rfl, Nat.le_of_ble_eq_true rfl⟩) ⟨fun a U g mk q => by obtain ⟨q0, qP, qK⟩ := q; exact ⟨q0, qP, va_K.moved (u := U) (U := U.calling g mk a) (Vm.Alike.refl U.vm) qK⟩, va_recv hKc hPc (ci := 1) (q0 := 0) rfl rfl, fun U hU hW => ⟨rfl, by rw [hU]; exact hPc, va_K.moved hW.alike hKc⟩⟩ rfl rfl hl.1 rfl (lv_room (Nat.le_of_ble_eq_true rfl)) dFo_store_18 ⟨Nat.le_of_ble_eq_true rfl, Nat.le_of_ble_eq_true rfl⟩) (fun r_4 er_5 => ?_)
    subst er_5
    refine lv_if_eq (tgt := 48) hx hb dFo_store_21 (by decide) (fun c_6 => ?_) (fun c_6 => ?_)
    · skip
      have c_6 : (ri 4 &&& ((1 : Int32) <<< (nI k &&& 31)) = 0) := ite01.mp c_6
      refine lv_iinc (v := nI (k + 1)) (lv' := [(3, .int (nI (k + 1))), (2, .int (nI (n % 17 * 16))), (0, .ref f), (1, .ref r)]) hx hb dFo_store_48 hl (k := 0) rfl (by first | exact nI_1 _ | (show _ + (1 : Int32) = _; exact nI_1 _)) (by decide) rfl (fun ls hl => ?_)
      refine lv_goto (tgt := 10) hx hb dFo_store_51 (by decide) ?_
      have hl9 : lv_has ls 4 [(3, .int (nI (k + 1))), (2, .int (nI (n % 17 * 16))), (0, .ref f), (1, .ref r)] := by first | exact lv_sub hl [0, 1, 2, 3] rfl | (simp only [s_st, if_pos c_6]; exact lv_sub hl [0, 1, 2, 3] rfl)
      have hP9 : va_P (dC, dI) vwCl (wF f f1 f2 f3 f4 cI fi (s_st (ri 4) rv n fa (k + 1)) ++ wR r ra cI ri rv) H := by first | exact hP | (simp only [s_st, if_pos c_6]; exact hP)
      have hD9 : va_D A (wF f f1 f2 f3 f4 cI fi (s_st (ri 4) rv n fa (k + 1)) ++ wR r ra cI ri rv) := by first | exact hD | (simp only [s_st, if_pos c_6]; exact hD)
      exact ih (k + 1, H, locs, ls) ⟨hk, hP9, hD9, hS, hl9⟩ (by show 16 - (k + 1) < 16 - k; omega)
    · skip
      have c_6 : ¬ (ri 4 &&& ((1 : Int32) <<< (nI k &&& 31)) = 0) := fun q => c_6 (ite01.mpr q)
      refine lv_aload_n hx hb dFo_store_24 rfl (lv_at hl 2 rfl) ?_
      refine va_get (D := (dC, dI)) (ci := 0) (v := .ref f1) (C := RFo) (T := TFo) (N := 10) hx hb hts inFo hown hK hP 0 rfl rfl 6 (by decide) (hts _ in_14) (fun _ h9 => h9) rfl dFo_store_25 ?_
      refine lv_iload_n hx hb dFo_store_28 rfl (lv_at hl 1 rfl) ?_
      refine lv_iload_n hx hb dFo_store_29 rfl (lv_at hl 0 rfl) ?_
      refine lv_iadd hx hb dFo_store_30 ?_
      refine lv_ri (y := nI ((n % 17 * 16) + k)) (nI_add _ _) ?_
      refine lv_aload_n hx hb dFo_store_31 rfl (lv_at hl 3 rfl) ?_
      refine va_get (D := (dC, dI)) (ci := 1) (v := .ref ra) (C := RRq) (T := TRq) (N := 6) hx hb hts inRq hown hK hP 5 rfl rfl 5 (by decide) (hts _ in_55) (fun _ h9 => h9) rfl dFo_store_32 ?_
      refine lv_iload_n hx hb dFo_store_35 rfl (lv_at hl 0 rfl) ?_
      refine vq_iald (k := k) (f := rv) hx hb hK hP 6 0 rfl rfl rfl (by omega) (by decide) dFo_store_36 ?_
      refine vq_iast (k := ((n % 17 * 16) + k)) (f := (s_st (ri 4) rv n fa k) 0) hx hb hK hP hD hS 1 0 rfl rfl rfl (by omega) (by decide) dFo_store_37 (fun H locs hP hD hS => ?_)
      have hP : va_P (dC, dI) vwCl (wF f f1 f2 f3 f4 cI fi (va_up (s_st (ri 4) rv n fa k) 0 (upd ((s_st (ri 4) rv n fa k) 0) ((n % 17 * 16) + k) (rv k))) ++ wR r ra cI ri rv) H := hP
      have hD : va_D A (wF f f1 f2 f3 f4 cI fi (va_up (s_st (ri 4) rv n fa k) 0 (upd ((s_st (ri 4) rv n fa k) 0) ((n % 17 * 16) + k) (rv k))) ++ wR r ra cI ri rv) := hD
      refine lv_aload_n hx hb dFo_store_38 rfl (lv_at hl 2 rfl) ?_
      refine va_get (D := (dC, dI)) (ci := 0) (v := .ref f2) (C := RFo) (T := TFo) (N := 10) hx hb hts inFo hown hK hP 0 rfl rfl 7 (by decide) (hts _ in_12) (fun _ h9 => h9) rfl dFo_store_39 ?_
      refine lv_iload_n hx hb dFo_store_42 rfl (lv_at hl 0 rfl) ?_
      refine lv_aload_n hx hb dFo_store_43 rfl (lv_at hl 2 rfl) ?_
      refine va_get (D := (dC, dI)) (ci := 0) (v := .int (fi 1)) (C := RFo) (T := TFo) (N := 10) hx hb hts inFo hown hK hP 0 rfl rfl 1 (by decide) (hts _ in_6) (fun _ h9 => h9) rfl dFo_store_44 ?_
      refine lv_ri (y := nI n) hix ?_
      refine vq_iast (k := k) (f := (s_st (ri 4) rv n fa k) 1) hx hb hK hP hD hS 2 0 rfl rfl rfl (by omega) (by decide) dFo_store_47 (fun H locs hP hD hS => ?_)
      have hP : va_P (dC, dI) vwCl (wF f f1 f2 f3 f4 cI fi (va_up (va_up (s_st (ri 4) rv n fa k) 0 (upd ((s_st (ri 4) rv n fa k) 0) ((n % 17 * 16) + k) (rv k))) 1 (upd ((s_st (ri 4) rv n fa k) 1) k (nI n))) ++ wR r ra cI ri rv) H := hP
      have hD : va_D A (wF f f1 f2 f3 f4 cI fi (va_up (va_up (s_st (ri 4) rv n fa k) 0 (upd ((s_st (ri 4) rv n fa k) 0) ((n % 17 * 16) + k) (rv k))) 1 (upd ((s_st (ri 4) rv n fa k) 1) k (nI n))) ++ wR r ra cI ri rv) := hD
      refine lv_iinc (v := nI (k + 1)) (lv' := [(3, .int (nI (k + 1))), (2, .int (nI (n % 17 * 16))), (0, .ref f), (1, .ref r)]) hx hb dFo_store_48 hl (k := 0) rfl (by first | exact nI_1 _ | (show _ + (1 : Int32) = _; exact nI_1 _)) (by decide) rfl (fun ls hl => ?_)
      refine lv_goto (tgt := 10) hx hb dFo_store_51 (by decide) ?_
      have hl9 : lv_has ls 4 [(3, .int (nI (k + 1))), (2, .int (nI (n % 17 * 16))), (0, .ref f), (1, .ref r)] := by first | exact lv_sub hl [0, 1, 2, 3] rfl | (simp only [s_st, if_neg c_6]; exact lv_sub hl [0, 1, 2, 3] rfl)
      have hP9 : va_P (dC, dI) vwCl (wF f f1 f2 f3 f4 cI fi (s_st (ri 4) rv n fa (k + 1)) ++ wR r ra cI ri rv) H := by first | exact hP | (simp only [s_st, if_neg c_6]; exact hP)
      have hD9 : va_D A (wF f f1 f2 f3 f4 cI fi (s_st (ri 4) rv n fa (k + 1)) ++ wR r ra cI ri rv) := by first | exact hD | (simp only [s_st, if_neg c_6]; exact hD)
      exact ih (k + 1, H, locs, ls) ⟨hk, hP9, hD9, hS, hl9⟩ (by show 16 - (k + 1) < 16 - k; omega)
set_option maxHeartbeats 4000000 in
set_option maxRecDepth 100000 in
/-- a request is let in -/
theorem k_F_letIn (l : Launch) (dC : Nat → ClassId) (dI : Nat → Nat → Nat) (sz : Nat) (f f1 f2 f3 f4 : Nat) (cI : ClassId) (fi : Nat → Int32) (fa : Nat → Nat → Int32) (r ra : Nat) (ri rv : Nat → Int32) (n se : Nat) (hn : n < 2 ^ 30) (hix : fi 1 = nI n) (hse : ri 0 = nI se) (hs16 : se < 16) : Met l yFo_letIn wsFo_letIn ({ frames := 4, cells := 0, slots := 0, locals := 160 }) (va_Pc [.ref f, .ref r] (fun U => U.heap.size = sz ∧ va_P (dC, dI) vwCl (wF f f1 f2 f3 f4 cI fi fa ++ wR r ra cI ri rv) U.heap ∧ va_K (dC, dI) vwCl [(cI, .int)] U ∧ va_D (fun _ => True) (wF f f1 f2 f3 f4 cI fi fa ++ wR r ra cI ri rv))) (va_Qi (fun (r : Int32) (_ : Unit) => r = (s_adm fi fa ri rv n se).1) (fun _ t => va_P (dC, dI) vwCl (wF f f1 f2 f3 f4 cI ((s_adm fi fa ri rv n se).2.1) ((s_adm fi fa ri rv n se).2.2) ++ wR r ra cI ri rv) t.heap ∧ va_K (dC, dI) vwCl [(cI, .int)] t ∧ va_D (va_A (wF f f1 f2 f3 f4 cI fi fa ++ wR r ra cI ri rv) sz) (wF f f1 f2 f3 f4 cI ((s_adm fi fa ri rv n se).2.1) ((s_adm fi fa ri rv n se).2.2) ++ wR r ra cI ri rv)) (va_A (wF f f1 f2 f3 f4 cI fi fa ++ wR r ra cI ri rv) sz)) 0 0 (va_A (wF f f1 f2 f3 f4 cI fi fa ++ wR r ra cI ri rv) sz) := by
  refine Met.ofW (cc := cFo_letIn) (maxL := 3) (ret := (some .int)) (by decide) rfl ?_
  intro p e s m args below meth c s₁ B hml hv
  obtain ⟨rfl, hsz, hP, hK, hD0⟩ := hv
  have hx := B.exec
  have hb := B.bytes
  have hr := B.returns
  have hts0 := atoms_spec (ws := wsFo_letIn) B.pre
  have hts := fun (w : Cond) (h : w ∈ lw_g) => hts0 w (List.mem_cons_of_mem _ h)
  have hown : s.vm.findClass RFo = some m.cls := findClass_of_methodNamed B.named
  have hlocks := B.notSynchronized
  subst hsz
  have hD := hD0.self (sz := s.heap.size)
  generalize hAe : va_A (wF f f1 f2 f3 f4 cI fi fa ++ wR r ra cI ri rv) s.heap.size = A at hD ⊢
  have hA : ∀ q : Nat, s.heap.size ≤ q → A q := fun q h => by rw [← hAe]; exact Or.inr h
  have hS : va_S A s.heap s.heap [] := va_S.rf
  have hP : va_P (dC, dI) vwCl (wF f f1 f2 f3 f4 cI fi fa ++ wR r ra cI ri rv) s.heap := hP
  have hl := lv_entry ([.ref f, .ref r]) (n := 3) (Nat.le_of_ble_eq_true rfl)
  rw [lg_entry_eq]
  generalize (lg_sl ([.ref f, .ref r]) ++ List.replicate (3 - (lg_sl ([.ref f, .ref r])).length) Slot.unset).toArray = ls at hl ⊢
  have hl : lv_has ls 3 [(0, .ref f), (1, .ref r)] := hl
  refine lv_aload_n hx hb dFo_letIn_0 rfl (lv_at hl 0 rfl) ?_
  refine lv_aload_n hx hb dFo_letIn_1 rfl (lv_at hl 1 rfl) ?_
  have hPc := hP.sub (ws' := (wF f f1 f2 f3 f4 cI fi fa ++ wR r ra cI ri rv)) [0, 1, 2, 3, 4, 5, 6] rfl
  have hKc := hK.sub (tys' := [(cI, .int)]) [0] rfl
  refine vp_callSi (W.runV (As := [.ref r]) (rest := []) ⟨hx, hb, hml, hown, hts⟩ (k_F_decide l dC dI f f1 f2 f3 f4 cI fi fa r ra ri rv se hse hs16) (cwV 1 hts (gd_V in_56 in_58 in_59 in_17 in_57) rfl rfl rfl (by decide +kernel) ⟨Nat.le_of_ble_eq_true rfl, Nat.le_of_ble_eq_true rfl⟩) ⟨fun a U g mk q => by obtain ⟨q0, qP, qK⟩ := q; exact ⟨q0, qP, va_K.moved (u := U) (U := U.calling g mk a) (Vm.Alike.refl U.vm) qK⟩, va_recv hKc hPc (ci := 0) (q0 := 0) rfl rfl, fun U hU hW => ⟨rfl, by rw [hU]; exact hPc, va_K.moved hW.alike hKc⟩⟩ rfl rfl hl.1 rfl (lv_room (Nat.le_of_ble_eq_true rfl)) dFo_letIn_2 ⟨Nat.le_of_ble_eq_true rfl, Nat.le_of_ble_eq_true rfl⟩) (fun r_1 er_2 => ?_)
  subst er_2
  refine lv_istore_n (lv' := [(2, .int (s_dec fi fa ri se)), (0, .ref f), (1, .ref r)]) hx hb dFo_letIn_5 rfl hl (by decide) rfl (fun ls hl => ?_)
  refine lv_iload_n hx hb dFo_letIn_6 rfl (lv_at hl 0 rfl) ?_
  refine lv_iconst (v := (-1)) hx hb dFo_letIn_7 (by decide) ?_
  refine lv_icmp_ne (tgt := 13) hx hb dFo_letIn_8 (by decide) (fun c_3 => ?_) (fun c_3 => ?_)
  · skip
    refine lv_aload_n hx hb dFo_letIn_13 rfl (lv_at hl 1 rfl) ?_
    have hPc := hP.sub (ws' := (wF f f1 f2 f3 f4 cI fi fa)) [0, 1, 2, 3, 4] rfl
    have hDc := hD.sub (ws' := (wF f f1 f2 f3 f4 cI fi fa)) [0, 1, 2, 3, 4] (by decide) rfl
    have hKc := hK.sub (tys' := [(cI, .int)]) [0] rfl
    have hFc := va_free (wc := (wF f f1 f2 f3 f4 cI fi fa)) hD hS hA [0, 1, 2, 3, 4] rfl
    refine va_callv (va_runV (As := []) (rest := []) ⟨hx, hb, hml, hown, hts⟩ (k_F_open l dC dI s.heap.size f f1 f2 f3 f4 cI fi fa n hn hix) (cwV 0 hts (gd_V in_60 in_62 in_63 in_17 in_61) rfl rfl rfl (by decide +kernel) ⟨Nat.le_of_ble_eq_true rfl, Nat.le_of_ble_eq_true rfl⟩) ⟨fun a U g mk q => by obtain ⟨q0, q1, qP, qK, qD⟩ := q; exact ⟨q0, q1, qP, va_K.moved (u := U) (U := U.calling g mk a) (Vm.Alike.refl U.vm) qK, qD⟩, va_recv hKc hPc (ci := 0) (q0 := 0) rfl rfl, fun U hU hW => ⟨rfl, by rw [hU], by rw [hU]; exact hPc, va_K.moved hW.alike hKc, hDc.weaken (fun _ _ _ _ => trivial)⟩⟩ rfl rfl hl.1 rfl (lv_room (Nat.le_of_ble_eq_true rfl)) dFo_letIn_14 ⟨Nat.le_of_ble_eq_true rfl, Nat.le_of_ble_eq_true rfl⟩) hS (fun q _ h => hFc q h) hFc (fun u t H1 locs ht hvm hw hB hz1 hk1 hS => ?_)
    obtain ⟨hP1, hK1, hD1⟩ := hB
    rw [ht] at hP1
    obtain ⟨hP, hD⟩ := va_join (wr := (wR r ra cI ri rv)) (w1 := (wF f f1 f2 f3 f4 cI (s_opi fi) (s_opa fa n))) hP hD [0, 1, 2, 3, 4] [5, 6] rfl rfl (by decide) (by decide) hk1 hFc hP1 hD1
    generalize H1 = H at hP hS ⊢
    have hP := hP.sub (ws' := (wF f f1 f2 f3 f4 cI (s_opi fi) (s_opa fa n) ++ wR r ra cI ri rv)) [2, 3, 4, 5, 6, 0, 1] rfl
    have hD := hD.sub (ws' := (wF f f1 f2 f3 f4 cI (s_opi fi) (s_opa fa n) ++ wR r ra cI ri rv)) [2, 3, 4, 5, 6, 0, 1] (by decide) rfl
    have hP : va_P (dC, dI) vwCl (wF f f1 f2 f3 f4 cI (s_opi fi) (s_opa fa n) ++ wR r ra cI ri rv) H := hP
    have hD : va_D A (wF f f1 f2 f3 f4 cI (s_opi fi) (s_opa fa n) ++ wR r ra cI ri rv) := hD
    refine lv_iload_n hx hb dFo_letIn_17 rfl (lv_at hl 0 rfl) ?_
    refine lv_if_ne (tgt := 33) hx hb dFo_letIn_18 (by decide) (fun c_5 => ?_) (fun c_5 => ?_)
    · skip
      refine lv_iload_n hx hb dFo_letIn_33 rfl (lv_at hl 0 rfl) ?_
      refine lv_iconst (v := 1) hx hb dFo_letIn_34 (by decide) ?_
      refine lv_icmp_ne (tgt := 56) hx hb dFo_letIn_35 (by decide) (fun c_6 => ?_) (fun c_6 => ?_)
      · skip
        refine lv_aload_n hx hb dFo_letIn_56 rfl (lv_at hl 1 rfl) ?_
        refine lv_dup hx hb dFo_letIn_57 rfl ?_
        refine va_get (D := (dC, dI)) (ci := 0) (v := .int ((s_opi fi) 4)) (C := RFo) (T := TFo) (N := 10) hx hb hts inFo hown hK hP 0 rfl rfl 4 (by decide) (hts _ in_64) (fun _ h9 => h9) rfl dFo_letIn_58 ?_
        refine lv_iconst (v := 1) hx hb dFo_letIn_61 (by decide) ?_
        refine lv_iadd hx hb dFo_letIn_62 ?_
        refine va_put (D := (dC, dI)) (ci := 0) (v := .int (((s_opi fi) 4) + 1)) (ty := .int) (C := RFo) (T := TFo) (N := 10) hx hb hts inFo tyFo tyFo_ok nmFo hown hK hP hD hS 0 rfl rfl 4 (by decide) (hts _ in_64) (fun _ h9 => h9) rfl (by decide +kernel) rfl rfl (Nat.le_of_ble_eq_true rfl) dFo_letIn_63 (fun H locs hP hD hS => ?_)
        have hP : va_P (dC, dI) vwCl (wF f f1 f2 f3 f4 cI (va_up (s_opi fi) 4 (((s_opi fi) 4) + 1)) (s_opa fa n) ++ wR r ra cI ri rv) H := hP
        have hD : va_D A (wF f f1 f2 f3 f4 cI (va_up (s_opi fi) 4 (((s_opi fi) 4) + 1)) (s_opa fa n) ++ wR r ra cI ri rv) := hD
        refine lv_aload_n hx hb dFo_letIn_66 rfl (lv_at hl 1 rfl) ?_
        refine va_get (D := (dC, dI)) (ci := 0) (v := .ref f3) (C := RFo) (T := TFo) (N := 10) hx hb hts inFo hown hK hP 0 rfl rfl 8 (by decide) (hts _ in_26) (fun _ h9 => h9) rfl dFo_letIn_67 ?_
        refine lv_aload_n hx hb dFo_letIn_70 rfl (lv_at hl 2 rfl) ?_
        refine va_get (D := (dC, dI)) (ci := 1) (v := .int (ri 0)) (C := RRq) (T := TRq) (N := 6) hx hb hts inRq hown hK hP 5 rfl rfl 0 (by decide) (hts _ in_27) (fun _ h9 => h9) rfl dFo_letIn_71 ?_
        refine lv_aload_n hx hb dFo_letIn_74 rfl (lv_at hl 2 rfl) ?_
        refine va_get (D := (dC, dI)) (ci := 1) (v := .int (ri 1)) (C := RRq) (T := TRq) (N := 6) hx hb hts inRq hown hK hP 5 rfl rfl 1 (by decide) (hts _ in_25) (fun _ h9 => h9) rfl dFo_letIn_75 ?_
        refine vq_iast (k := se) (f := (s_opa fa n) 2) hx hb hK hP hD hS 3 0 rfl rfl hse hs16 (by decide) dFo_letIn_78 (fun H locs hP hD hS => ?_)
        have hP : va_P (dC, dI) vwCl (wF f f1 f2 f3 f4 cI (va_up (s_opi fi) 4 (((s_opi fi) 4) + 1)) (va_up (s_opa fa n) 2 (upd ((s_opa fa n) 2) se (ri 1))) ++ wR r ra cI ri rv) H := hP
        have hD : va_D A (wF f f1 f2 f3 f4 cI (va_up (s_opi fi) 4 (((s_opi fi) 4) + 1)) (va_up (s_opa fa n) 2 (upd ((s_opa fa n) 2) se (ri 1))) ++ wR r ra cI ri rv) := hD
        refine lv_aload_n hx hb dFo_letIn_79 rfl (lv_at hl 1 rfl) ?_
        refine va_get (D := (dC, dI)) (ci := 0) (v := .ref f4) (C := RFo) (T := TFo) (N := 10) hx hb hts inFo hown hK hP 0 rfl rfl 9 (by decide) (hts _ in_37) (fun _ h9 => h9) rfl dFo_letIn_80 ?_
        refine lv_aload_n hx hb dFo_letIn_83 rfl (lv_at hl 2 rfl) ?_
        refine va_get (D := (dC, dI)) (ci := 1) (v := .int (ri 0)) (C := RRq) (T := TRq) (N := 6) hx hb hts inRq hown hK hP 5 rfl rfl 0 (by decide) (hts _ in_27) (fun _ h9 => h9) rfl dFo_letIn_84 ?_
        refine lv_iload_n hx hb dFo_letIn_87 rfl (lv_at hl 0 rfl) ?_
        refine vq_iast (k := se) (f := (s_opa fa n) 3) hx hb hK hP hD hS 4 0 rfl rfl hse hs16 (by decide) dFo_letIn_88 (fun H locs hP hD hS => ?_)
        have hP : va_P (dC, dI) vwCl (wF f f1 f2 f3 f4 cI (va_up (s_opi fi) 4 (((s_opi fi) 4) + 1)) (va_up (va_up (s_opa fa n) 2 (upd ((s_opa fa n) 2) se (ri 1))) 3 (upd ((s_opa fa n) 3) se (s_dec fi fa ri se))) ++ wR r ra cI ri rv) H := hP
        have hD : va_D A (wF f f1 f2 f3 f4 cI (va_up (s_opi fi) 4 (((s_opi fi) 4) + 1)) (va_up (va_up (s_opa fa n) 2 (upd ((s_opa fa n) 2) se (ri 1))) 3 (upd ((s_opa fa n) 3) se (s_dec fi fa ri se))) ++ wR r ra cI ri rv) := hD
        refine lv_iload_n hx hb dFo_letIn_89 rfl (lv_at hl 0 rfl) ?_
        have hP9 : va_P (dC, dI) vwCl (wF f f1 f2 f3 f4 cI ((s_adm fi fa ri rv n se).2.1) ((s_adm fi fa ri rv n se).2.2) ++ wR r ra cI ri rv) H := by simp only [s_adm, if_neg c_3, if_neg c_5, if_neg c_6]; exact hP
        have hD9 : va_D A (wF f f1 f2 f3 f4 cI ((s_adm fi fa ri rv n se).2.1) ((s_adm fi fa ri rv n se).2.2) ++ wR r ra cI ri rv) := by simp only [s_adm, if_neg c_3, if_neg c_5, if_neg c_6]; exact hD
        exact W.iret (v := s_dec fi fa ri se) hx hb hr (fun t ht hW => ⟨⟨s_dec fi fa ri se, (), rfl, by simp only [s_adm, if_neg c_3, if_neg c_5, if_neg c_6], by rw [ht]; exact hP9, va_K.moved hW.alike hK, hD9⟩, hS.F ht⟩) hS.2.2 dFo_letIn_90
      · skip
        refine lv_aload_n hx hb dFo_letIn_38 rfl (lv_at hl 1 rfl) ?_
        refine lv_dup hx hb dFo_letIn_39 rfl ?_
        refine va_get (D := (dC, dI)) (ci := 0) (v := .int ((s_opi fi) 3)) (C := RFo) (T := TFo) (N := 10) hx hb hts inFo hown hK hP 0 rfl rfl 3 (by decide) (hts _ in_65) (fun _ h9 => h9) rfl dFo_letIn_40 ?_
        refine lv_iconst (v := 1) hx hb dFo_letIn_43 (by decide) ?_
        refine lv_iadd hx hb dFo_letIn_44 ?_
        refine va_put (D := (dC, dI)) (ci := 0) (v := .int (((s_opi fi) 3) + 1)) (ty := .int) (C := RFo) (T := TFo) (N := 10) hx hb hts inFo tyFo tyFo_ok nmFo hown hK hP hD hS 0 rfl rfl 3 (by decide) (hts _ in_65) (fun _ h9 => h9) rfl (by decide +kernel) rfl rfl (Nat.le_of_ble_eq_true rfl) dFo_letIn_45 (fun H locs hP hD hS => ?_)
        have hP : va_P (dC, dI) vwCl (wF f f1 f2 f3 f4 cI (va_up (s_opi fi) 3 (((s_opi fi) 3) + 1)) (s_opa fa n) ++ wR r ra cI ri rv) H := hP
        have hD : va_D A (wF f f1 f2 f3 f4 cI (va_up (s_opi fi) 3 (((s_opi fi) 3) + 1)) (s_opa fa n) ++ wR r ra cI ri rv) := hD
        refine lv_aload_n hx hb dFo_letIn_48 rfl (lv_at hl 1 rfl) ?_
        refine lv_aload_n hx hb dFo_letIn_49 rfl (lv_at hl 2 rfl) ?_
        have hPc := hP.sub (ws' := (wF f f1 f2 f3 f4 cI (va_up (s_opi fi) 3 (((s_opi fi) 3) + 1)) (s_opa fa n) ++ wR r ra cI ri rv)) [0, 1, 2, 3, 4, 5, 6] rfl
        have hDc := hD.sub (ws' := (wF f f1 f2 f3 f4 cI (va_up (s_opi fi) 3 (((s_opi fi) 3) + 1)) (s_opa fa n) ++ wR r ra cI ri rv)) [0, 1, 2, 3, 4, 5, 6] (by decide) rfl
        have hKc := hK.sub (tys' := [(cI, .int)]) [0] rfl
        have hFc := va_free (wc := (wF f f1 f2 f3 f4 cI (va_up (s_opi fi) 3 (((s_opi fi) 3) + 1)) (s_opa fa n) ++ wR r ra cI ri rv)) hD hS hA [0, 1, 2, 3, 4, 5, 6] rfl
        refine va_callv (va_runV (As := [.ref r]) (rest := []) ⟨hx, hb, hml, hown, hts⟩ (k_F_store l dC dI H.size f f1 f2 f3 f4 cI (va_up (s_opi fi) 3 (((s_opi fi) 3) + 1)) (s_opa fa n) r ra ri rv (n + 1) (by omega) (by show fi 1 + 1 = _; rw [hix]; exact nI_1 n)) (cwV 1 hts (gd_V in_66 in_68 in_69 in_17 in_67) rfl rfl rfl (by decide +kernel) ⟨Nat.le_of_ble_eq_true rfl, Nat.le_of_ble_eq_true rfl⟩) ⟨fun a U g mk q => by obtain ⟨q0, q1, qP, qK, qD⟩ := q; exact ⟨q0, q1, qP, va_K.moved (u := U) (U := U.calling g mk a) (Vm.Alike.refl U.vm) qK, qD⟩, va_recv hKc hPc (ci := 0) (q0 := 0) rfl rfl, fun U hU hW => ⟨rfl, by rw [hU], by rw [hU]; exact hPc, va_K.moved hW.alike hKc, hDc.weaken (fun _ _ _ _ => trivial)⟩⟩ rfl rfl hl.1 rfl (lv_room (Nat.le_of_ble_eq_true rfl)) dFo_letIn_50 ⟨Nat.le_of_ble_eq_true rfl, Nat.le_of_ble_eq_true rfl⟩) hS (fun q _ h => hFc q h) hFc (fun u t H1 locs ht hvm hw hB hz1 hk1 hS => ?_)
        obtain ⟨hP1, hK1, hD1⟩ := hB
        rw [ht] at hP1
        obtain ⟨hP, hD⟩ := va_join (wr := []) (w1 := (wF f f1 f2 f3 f4 cI (va_up (s_opi fi) 3 (((s_opi fi) 3) + 1)) (s_st (ri 4) rv (n + 1) (s_opa fa n) 16) ++ wR r ra cI ri rv)) hP hD [0, 1, 2, 3, 4, 5, 6] [] rfl rfl (by decide) (by decide) hk1 hFc hP1 hD1
        generalize H1 = H at hP hS ⊢
        have hP : va_P (dC, dI) vwCl (wF f f1 f2 f3 f4 cI (va_up (s_opi fi) 3 (((s_opi fi) 3) + 1)) (s_st (ri 4) rv (n + 1) (s_opa fa n) 16) ++ wR r ra cI ri rv) H := hP
        have hD : va_D A (wF f f1 f2 f3 f4 cI (va_up (s_opi fi) 3 (((s_opi fi) 3) + 1)) (s_st (ri 4) rv (n + 1) (s_opa fa n) 16) ++ wR r ra cI ri rv) := hD
        refine lv_goto (tgt := 66) hx hb dFo_letIn_53 (by decide) ?_
        refine lv_aload_n hx hb dFo_letIn_66 rfl (lv_at hl 1 rfl) ?_
        refine va_get (D := (dC, dI)) (ci := 0) (v := .ref f3) (C := RFo) (T := TFo) (N := 10) hx hb hts inFo hown hK hP 0 rfl rfl 8 (by decide) (hts _ in_26) (fun _ h9 => h9) rfl dFo_letIn_67 ?_
        refine lv_aload_n hx hb dFo_letIn_70 rfl (lv_at hl 2 rfl) ?_
        refine va_get (D := (dC, dI)) (ci := 1) (v := .int (ri 0)) (C := RRq) (T := TRq) (N := 6) hx hb hts inRq hown hK hP 5 rfl rfl 0 (by decide) (hts _ in_27) (fun _ h9 => h9) rfl dFo_letIn_71 ?_
        refine lv_aload_n hx hb dFo_letIn_74 rfl (lv_at hl 2 rfl) ?_
        refine va_get (D := (dC, dI)) (ci := 1) (v := .int (ri 1)) (C := RRq) (T := TRq) (N := 6) hx hb hts inRq hown hK hP 5 rfl rfl 1 (by decide) (hts _ in_25) (fun _ h9 => h9) rfl dFo_letIn_75 ?_
        refine vq_iast (k := se) (f := (s_st (ri 4) rv (n + 1) (s_opa fa n) 16) 2) hx hb hK hP hD hS 3 0 rfl rfl hse hs16 (by decide) dFo_letIn_78 (fun H locs hP hD hS => ?_)
        have hP : va_P (dC, dI) vwCl (wF f f1 f2 f3 f4 cI (va_up (s_opi fi) 3 (((s_opi fi) 3) + 1)) (va_up (s_st (ri 4) rv (n + 1) (s_opa fa n) 16) 2 (upd ((s_st (ri 4) rv (n + 1) (s_opa fa n) 16) 2) se (ri 1))) ++ wR r ra cI ri rv) H := hP
        have hD : va_D A (wF f f1 f2 f3 f4 cI (va_up (s_opi fi) 3 (((s_opi fi) 3) + 1)) (va_up (s_st (ri 4) rv (n + 1) (s_opa fa n) 16) 2 (upd ((s_st (ri 4) rv (n + 1) (s_opa fa n) 16) 2) se (ri 1))) ++ wR r ra cI ri rv) := hD
        refine lv_aload_n hx hb dFo_letIn_79 rfl (lv_at hl 1 rfl) ?_
        refine va_get (D := (dC, dI)) (ci := 0) (v := .ref f4) (C := RFo) (T := TFo) (N := 10) hx hb hts inFo hown hK hP 0 rfl rfl 9 (by decide) (hts _ in_37) (fun _ h9 => h9) rfl dFo_letIn_80 ?_
        refine lv_aload_n hx hb dFo_letIn_83 rfl (lv_at hl 2 rfl) ?_
        refine va_get (D := (dC, dI)) (ci := 1) (v := .int (ri 0)) (C := RRq) (T := TRq) (N := 6) hx hb hts inRq hown hK hP 5 rfl rfl 0 (by decide) (hts _ in_27) (fun _ h9 => h9) rfl dFo_letIn_84 ?_
        refine lv_iload_n hx hb dFo_letIn_87 rfl (lv_at hl 0 rfl) ?_
        refine vq_iast (k := se) (f := (s_st (ri 4) rv (n + 1) (s_opa fa n) 16) 3) hx hb hK hP hD hS 4 0 rfl rfl hse hs16 (by decide) dFo_letIn_88 (fun H locs hP hD hS => ?_)
        have hP : va_P (dC, dI) vwCl (wF f f1 f2 f3 f4 cI (va_up (s_opi fi) 3 (((s_opi fi) 3) + 1)) (va_up (va_up (s_st (ri 4) rv (n + 1) (s_opa fa n) 16) 2 (upd ((s_st (ri 4) rv (n + 1) (s_opa fa n) 16) 2) se (ri 1))) 3 (upd ((s_st (ri 4) rv (n + 1) (s_opa fa n) 16) 3) se (s_dec fi fa ri se))) ++ wR r ra cI ri rv) H := hP
        have hD : va_D A (wF f f1 f2 f3 f4 cI (va_up (s_opi fi) 3 (((s_opi fi) 3) + 1)) (va_up (va_up (s_st (ri 4) rv (n + 1) (s_opa fa n) 16) 2 (upd ((s_st (ri 4) rv (n + 1) (s_opa fa n) 16) 2) se (ri 1))) 3 (upd ((s_st (ri 4) rv (n + 1) (s_opa fa n) 16) 3) se (s_dec fi fa ri se))) ++ wR r ra cI ri rv) := hD
        refine lv_iload_n hx hb dFo_letIn_89 rfl (lv_at hl 0 rfl) ?_
        have hP9 : va_P (dC, dI) vwCl (wF f f1 f2 f3 f4 cI ((s_adm fi fa ri rv n se).2.1) ((s_adm fi fa ri rv n se).2.2) ++ wR r ra cI ri rv) H := by simp only [s_adm, if_neg c_3, if_neg c_5, if_pos c_6]; exact hP
        have hD9 : va_D A (wF f f1 f2 f3 f4 cI ((s_adm fi fa ri rv n se).2.1) ((s_adm fi fa ri rv n se).2.2) ++ wR r ra cI ri rv) := by simp only [s_adm, if_neg c_3, if_neg c_5, if_pos c_6]; exact hD
        exact W.iret (v := s_dec fi fa ri se) hx hb hr (fun t ht hW => ⟨⟨s_dec fi fa ri se, (), rfl, by simp only [s_adm, if_neg c_3, if_neg c_5, if_pos c_6], by rw [ht]; exact hP9, va_K.moved hW.alike hK, hD9⟩, hS.F ht⟩) hS.2.2 dFo_letIn_90
    · skip
      refine lv_aload_n hx hb dFo_letIn_21 rfl (lv_at hl 1 rfl) ?_
      refine lv_dup hx hb dFo_letIn_22 rfl ?_
      refine va_get (D := (dC, dI)) (ci := 0) (v := .int ((s_opi fi) 5)) (C := RFo) (T := TFo) (N := 10) hx hb hts inFo hown hK hP 0 rfl rfl 5 (by decide) (hts _ in_70) (fun _ h9 => h9) rfl dFo_letIn_23 ?_
      refine lv_iconst (v := 1) hx hb dFo_letIn_26 (by decide) ?_
      refine lv_iadd hx hb dFo_letIn_27 ?_
      refine va_put (D := (dC, dI)) (ci := 0) (v := .int (((s_opi fi) 5) + 1)) (ty := .int) (C := RFo) (T := TFo) (N := 10) hx hb hts inFo tyFo tyFo_ok nmFo hown hK hP hD hS 0 rfl rfl 5 (by decide) (hts _ in_70) (fun _ h9 => h9) rfl (by decide +kernel) rfl rfl (Nat.le_of_ble_eq_true rfl) dFo_letIn_28 (fun H locs hP hD hS => ?_)
      have hP : va_P (dC, dI) vwCl (wF f f1 f2 f3 f4 cI (va_up (s_opi fi) 5 (((s_opi fi) 5) + 1)) (s_opa fa n) ++ wR r ra cI ri rv) H := hP
      have hD : va_D A (wF f f1 f2 f3 f4 cI (va_up (s_opi fi) 5 (((s_opi fi) 5) + 1)) (s_opa fa n) ++ wR r ra cI ri rv) := hD
      refine lv_iconst (v := 0) hx hb dFo_letIn_31 (by decide) ?_
      have hP9 : va_P (dC, dI) vwCl (wF f f1 f2 f3 f4 cI ((s_adm fi fa ri rv n se).2.1) ((s_adm fi fa ri rv n se).2.2) ++ wR r ra cI ri rv) H := by simp only [s_adm, if_neg c_3, if_pos c_5]; exact hP
      have hD9 : va_D A (wF f f1 f2 f3 f4 cI ((s_adm fi fa ri rv n se).2.1) ((s_adm fi fa ri rv n se).2.2) ++ wR r ra cI ri rv) := by simp only [s_adm, if_neg c_3, if_pos c_5]; exact hD
      exact W.iret (v := 0) hx hb hr (fun t ht hW => ⟨⟨0, (), rfl, by simp only [s_adm, if_neg c_3, if_pos c_5], by rw [ht]; exact hP9, va_K.moved hW.alike hK, hD9⟩, hS.F ht⟩) hS.2.2 dFo_letIn_32
  · skip
    refine lv_iconst (v := (-1)) hx hb dFo_letIn_11 (by decide) ?_
    have hP9 : va_P (dC, dI) vwCl (wF f f1 f2 f3 f4 cI ((s_adm fi fa ri rv n se).2.1) ((s_adm fi fa ri rv n se).2.2) ++ wR r ra cI ri rv) s.heap := by simp only [s_adm, if_pos c_3]; exact hP
    have hD9 : va_D A (wF f f1 f2 f3 f4 cI ((s_adm fi fa ri rv n se).2.1) ((s_adm fi fa ri rv n se).2.2) ++ wR r ra cI ri rv) := by simp only [s_adm, if_pos c_3]; exact hD
    exact W.iret (v := (-1)) hx hb hr (fun t ht hW => ⟨⟨(-1), (), rfl, by simp only [s_adm, if_pos c_3], by rw [ht]; exact hP9, va_K.moved hW.alike hK, hD9⟩, hS.F ht⟩) hS.2.2 dFo_letIn_12
set_option maxHeartbeats 4000000 in
set_option maxRecDepth 100000 in
/-- become(other) -/
theorem k_F_become (l : Launch) (dC : Nat → ClassId) (dI : Nat → Nat → Nat) (sz : Nat) (f f1 f2 f3 f4 : Nat) (cI : ClassId) (fi : Nat → Int32) (fa : Nat → Nat → Int32) (g g1 g2 g3 g4 : Nat) (gi : Nat → Int32) (ga : Nat → Nat → Int32) : Met l yFo_become wsFo_become ({ frames := 2, cells := 0, slots := 0, locals := 80 }) (va_Pc [.ref f, .ref g] (fun U => U.heap.size = sz ∧ va_P (dC, dI) vwCl (wF f f1 f2 f3 f4 cI fi fa ++ wF g g1 g2 g3 g4 cI gi ga) U.heap ∧ va_K (dC, dI) vwCl [(cI, .int)] U ∧ va_D (fun _ => True) (wF f f1 f2 f3 f4 cI fi fa ++ wF g g1 g2 g3 g4 cI gi ga))) (va_Qv (fun (_ : Unit) => True) (fun _ t => va_P (dC, dI) vwCl (wF f f1 f2 f3 f4 cI (s_bei fi gi) (s_bea fa ga) ++ wF g g1 g2 g3 g4 cI gi ga) t.heap ∧ va_K (dC, dI) vwCl [(cI, .int)] t ∧ va_D (va_A (wF f f1 f2 f3 f4 cI fi fa ++ wF g g1 g2 g3 g4 cI gi ga) sz) (wF f f1 f2 f3 f4 cI (s_bei fi gi) (s_bea fa ga) ++ wF g g1 g2 g3 g4 cI gi ga)) (va_A (wF f f1 f2 f3 f4 cI fi fa ++ wF g g1 g2 g3 g4 cI gi ga) sz)) 0 0 (va_A (wF f f1 f2 f3 f4 cI fi fa ++ wF g g1 g2 g3 g4 cI gi ga) sz) := by
  refine Met.ofW (cc := cFo_become) (maxL := 2) (ret := none) (by decide) rfl ?_
  intro p e s m args below meth c s₁ B hml hv
  obtain ⟨rfl, hsz, hP, hK, hD0⟩ := hv
  have hx := B.exec
  have hb := B.bytes
  have hr := B.returns
  have hts0 := atoms_spec (ws := wsFo_become) B.pre
  have hts := fun (w : Cond) (h : w ∈ lw_g) => hts0 w (List.mem_cons_of_mem _ h)
  have hown : s.vm.findClass RFo = some m.cls := findClass_of_methodNamed B.named
  have hlocks := B.notSynchronized
  subst hsz
  have hD := hD0.self (sz := s.heap.size)
  generalize hAe : va_A (wF f f1 f2 f3 f4 cI fi fa ++ wF g g1 g2 g3 g4 cI gi ga) s.heap.size = A at hD ⊢
  have hA : ∀ q : Nat, s.heap.size ≤ q → A q := fun q h => by rw [← hAe]; exact Or.inr h
  have hS : va_S A s.heap s.heap [] := va_S.rf
  have hP : va_P (dC, dI) vwCl (wF f f1 f2 f3 f4 cI fi fa ++ wF g g1 g2 g3 g4 cI gi ga) s.heap := hP
  have hl := lv_entry ([.ref f, .ref g]) (n := 2) (Nat.le_of_ble_eq_true rfl)
  rw [lg_entry_eq]
  generalize (lg_sl ([.ref f, .ref g]) ++ List.replicate (2 - (lg_sl ([.ref f, .ref g])).length) Slot.unset).toArray = ls at hl ⊢
  have hl : lv_has ls 2 [(0, .ref f), (1, .ref g)] := hl
  refine lv_aload_n hx hb dFo_become_0 rfl (lv_at hl 0 rfl) ?_
  refine lv_aload_n hx hb dFo_become_1 rfl (lv_at hl 1 rfl) ?_
  refine va_get (D := (dC, dI)) (ci := 0) (v := .int (gi 1)) (C := RFo) (T := TFo) (N := 10) hx hb hts inFo hown hK hP 5 rfl rfl 1 (by decide) (hts _ in_6) (fun _ h9 => h9) rfl dFo_become_2 ?_
  refine va_put (D := (dC, dI)) (ci := 0) (v := .int (gi 1)) (ty := .int) (C := RFo) (T := TFo) (N := 10) hx hb hts inFo tyFo tyFo_ok nmFo hown hK hP hD hS 0 rfl rfl 1 (by decide) (hts _ in_6) (fun _ h9 => h9) rfl (by decide +kernel) rfl rfl (Nat.le_of_ble_eq_true rfl) dFo_become_5 (fun H locs hP hD hS => ?_)
  have hP : va_P (dC, dI) vwCl (wF f f1 f2 f3 f4 cI (va_up fi 1 (gi 1)) fa ++ wF g g1 g2 g3 g4 cI gi ga) H := hP
  have hD : va_D A (wF f f1 f2 f3 f4 cI (va_up fi 1 (gi 1)) fa ++ wF g g1 g2 g3 g4 cI gi ga) := hD
  refine lv_aload_n hx hb dFo_become_8 rfl (lv_at hl 0 rfl) ?_
  refine lv_aload_n hx hb dFo_become_9 rfl (lv_at hl 1 rfl) ?_
  refine va_get (D := (dC, dI)) (ci := 0) (v := .int (gi 1)) (C := RFo) (T := TFo) (N := 10) hx hb hts inFo hown hK hP 5 rfl rfl 1 (by decide) (hts _ in_6) (fun _ h9 => h9) rfl dFo_become_10 ?_
  refine va_put (D := (dC, dI)) (ci := 0) (v := .int (gi 1)) (ty := .int) (C := RFo) (T := TFo) (N := 10) hx hb hts inFo tyFo tyFo_ok nmFo hown hK hP hD hS 0 rfl rfl 2 (by decide) (hts _ in_13) (fun _ h9 => h9) rfl (by decide +kernel) rfl rfl (Nat.le_of_ble_eq_true rfl) dFo_become_13 (fun H locs hP hD hS => ?_)
  have hP : va_P (dC, dI) vwCl (wF f f1 f2 f3 f4 cI (va_up (va_up fi 1 (gi 1)) 2 (gi 1)) fa ++ wF g g1 g2 g3 g4 cI gi ga) H := hP
  have hD : va_D A (wF f f1 f2 f3 f4 cI (va_up (va_up fi 1 (gi 1)) 2 (gi 1)) fa ++ wF g g1 g2 g3 g4 cI gi ga) := hD
  refine lv_aload_n hx hb dFo_become_16 rfl (lv_at hl 0 rfl) ?_
  refine lv_aload_n hx hb dFo_become_17 rfl (lv_at hl 1 rfl) ?_
  refine va_get (D := (dC, dI)) (ci := 0) (v := .int (gi 3)) (C := RFo) (T := TFo) (N := 10) hx hb hts inFo hown hK hP 5 rfl rfl 3 (by decide) (hts _ in_65) (fun _ h9 => h9) rfl dFo_become_18 ?_
  refine va_put (D := (dC, dI)) (ci := 0) (v := .int (gi 3)) (ty := .int) (C := RFo) (T := TFo) (N := 10) hx hb hts inFo tyFo tyFo_ok nmFo hown hK hP hD hS 0 rfl rfl 3 (by decide) (hts _ in_65) (fun _ h9 => h9) rfl (by decide +kernel) rfl rfl (Nat.le_of_ble_eq_true rfl) dFo_become_21 (fun H locs hP hD hS => ?_)
  have hP : va_P (dC, dI) vwCl (wF f f1 f2 f3 f4 cI (va_up (va_up (va_up fi 1 (gi 1)) 2 (gi 1)) 3 (gi 3)) fa ++ wF g g1 g2 g3 g4 cI gi ga) H := hP
  have hD : va_D A (wF f f1 f2 f3 f4 cI (va_up (va_up (va_up fi 1 (gi 1)) 2 (gi 1)) 3 (gi 3)) fa ++ wF g g1 g2 g3 g4 cI gi ga) := hD
  refine lv_aload_n hx hb dFo_become_24 rfl (lv_at hl 0 rfl) ?_
  refine lv_aload_n hx hb dFo_become_25 rfl (lv_at hl 1 rfl) ?_
  refine va_get (D := (dC, dI)) (ci := 0) (v := .int (gi 4)) (C := RFo) (T := TFo) (N := 10) hx hb hts inFo hown hK hP 5 rfl rfl 4 (by decide) (hts _ in_64) (fun _ h9 => h9) rfl dFo_become_26 ?_
  refine va_put (D := (dC, dI)) (ci := 0) (v := .int (gi 4)) (ty := .int) (C := RFo) (T := TFo) (N := 10) hx hb hts inFo tyFo tyFo_ok nmFo hown hK hP hD hS 0 rfl rfl 4 (by decide) (hts _ in_64) (fun _ h9 => h9) rfl (by decide +kernel) rfl rfl (Nat.le_of_ble_eq_true rfl) dFo_become_29 (fun H locs hP hD hS => ?_)
  have hP : va_P (dC, dI) vwCl (wF f f1 f2 f3 f4 cI (va_up (va_up (va_up (va_up fi 1 (gi 1)) 2 (gi 1)) 3 (gi 3)) 4 (gi 4)) fa ++ wF g g1 g2 g3 g4 cI gi ga) H := hP
  have hD : va_D A (wF f f1 f2 f3 f4 cI (va_up (va_up (va_up (va_up fi 1 (gi 1)) 2 (gi 1)) 3 (gi 3)) 4 (gi 4)) fa ++ wF g g1 g2 g3 g4 cI gi ga) := hD
  refine lv_aload_n hx hb dFo_become_32 rfl (lv_at hl 0 rfl) ?_
  refine lv_aload_n hx hb dFo_become_33 rfl (lv_at hl 1 rfl) ?_
  refine va_get (D := (dC, dI)) (ci := 0) (v := .int (gi 5)) (C := RFo) (T := TFo) (N := 10) hx hb hts inFo hown hK hP 5 rfl rfl 5 (by decide) (hts _ in_70) (fun _ h9 => h9) rfl dFo_become_34 ?_
  refine va_put (D := (dC, dI)) (ci := 0) (v := .int (gi 5)) (ty := .int) (C := RFo) (T := TFo) (N := 10) hx hb hts inFo tyFo tyFo_ok nmFo hown hK hP hD hS 0 rfl rfl 5 (by decide) (hts _ in_70) (fun _ h9 => h9) rfl (by decide +kernel) rfl rfl (Nat.le_of_ble_eq_true rfl) dFo_become_37 (fun H locs hP hD hS => ?_)
  have hP : va_P (dC, dI) vwCl (wF f f1 f2 f3 f4 cI (va_up (va_up (va_up (va_up (va_up fi 1 (gi 1)) 2 (gi 1)) 3 (gi 3)) 4 (gi 4)) 5 (gi 5)) fa ++ wF g g1 g2 g3 g4 cI gi ga) H := hP
  have hD : va_D A (wF f f1 f2 f3 f4 cI (va_up (va_up (va_up (va_up (va_up fi 1 (gi 1)) 2 (gi 1)) 3 (gi 3)) 4 (gi 4)) 5 (gi 5)) fa ++ wF g g1 g2 g3 g4 cI gi ga) := hD
  refine lv_aload_n hx hb dFo_become_40 rfl (lv_at hl 1 rfl) ?_
  refine va_get (D := (dC, dI)) (ci := 0) (v := .ref g1) (C := RFo) (T := TFo) (N := 10) hx hb hts inFo hown hK hP 5 rfl rfl 6 (by decide) (hts _ in_14) (fun _ h9 => h9) rfl dFo_become_41 ?_
  refine lv_iconst (v := 0) hx hb dFo_become_44 (by decide) ?_
  refine lv_aload_n hx hb dFo_become_45 rfl (lv_at hl 0 rfl) ?_
  refine va_get (D := (dC, dI)) (ci := 0) (v := .ref f1) (C := RFo) (T := TFo) (N := 10) hx hb hts inFo hown hK hP 0 rfl rfl 6 (by decide) (hts _ in_14) (fun _ h9 => h9) rfl dFo_become_46 ?_
  refine lv_iconst (v := 0) hx hb dFo_become_49 (by decide) ?_
  refine lv_sipush (v := nI 272) hx hb dFo_become_50 (by decide) ?_
  refine vq_copyi (x := 0) (y := 0) (z := 272) hx hb (hml.trans hl.1.symm) hown (hts _ in_46) (hts _ in_47) (hts _ in_48) (hts _ in_49) hK hP hD hS 6 1 0 rfl rfl rfl nI_0.symm nI_0.symm rfl (by omega) (by omega) (by decide) (by decide) (Nat.le_of_ble_eq_true rfl) (Nat.le_of_ble_eq_true rfl) dFo_become_53 (fun H locs hP hD hS => ?_)
  have hP : va_P (dC, dI) vwCl (wF f f1 f2 f3 f4 cI (va_up (va_up (va_up (va_up (va_up fi 1 (gi 1)) 2 (gi 1)) 3 (gi 3)) 4 (gi 4)) 5 (gi 5)) (va_up fa 0 (va_cpy (ga 0) (fa 0) 0 0 272)) ++ wF g g1 g2 g3 g4 cI gi ga) H := hP
  have hD : va_D A (wF f f1 f2 f3 f4 cI (va_up (va_up (va_up (va_up (va_up fi 1 (gi 1)) 2 (gi 1)) 3 (gi 3)) 4 (gi 4)) 5 (gi 5)) (va_up fa 0 (va_cpy (ga 0) (fa 0) 0 0 272)) ++ wF g g1 g2 g3 g4 cI gi ga) := hD
  refine lv_aload_n hx hb dFo_become_56 rfl (lv_at hl 1 rfl) ?_
  refine va_get (D := (dC, dI)) (ci := 0) (v := .ref g2) (C := RFo) (T := TFo) (N := 10) hx hb hts inFo hown hK hP 5 rfl rfl 7 (by decide) (hts _ in_12) (fun _ h9 => h9) rfl dFo_become_57 ?_
  refine lv_iconst (v := 0) hx hb dFo_become_60 (by decide) ?_
  refine lv_aload_n hx hb dFo_become_61 rfl (lv_at hl 0 rfl) ?_
  refine va_get (D := (dC, dI)) (ci := 0) (v := .ref f2) (C := RFo) (T := TFo) (N := 10) hx hb hts inFo hown hK hP 0 rfl rfl 7 (by decide) (hts _ in_12) (fun _ h9 => h9) rfl dFo_become_62 ?_
  refine lv_iconst (v := 0) hx hb dFo_become_65 (by decide) ?_
  refine lv_bipush (v := nI 16) hx hb dFo_become_66 (by decide) ?_
  refine vq_copyi (x := 0) (y := 0) (z := 16) hx hb (hml.trans hl.1.symm) hown (hts _ in_46) (hts _ in_47) (hts _ in_48) (hts _ in_49) hK hP hD hS 7 2 0 rfl rfl rfl nI_0.symm nI_0.symm rfl (by omega) (by omega) (by decide) (by decide) (Nat.le_of_ble_eq_true rfl) (Nat.le_of_ble_eq_true rfl) dFo_become_68 (fun H locs hP hD hS => ?_)
  have hP : va_P (dC, dI) vwCl (wF f f1 f2 f3 f4 cI (va_up (va_up (va_up (va_up (va_up fi 1 (gi 1)) 2 (gi 1)) 3 (gi 3)) 4 (gi 4)) 5 (gi 5)) (va_up (va_up fa 0 (va_cpy (ga 0) (fa 0) 0 0 272)) 1 (va_cpy (ga 1) (fa 1) 0 0 16)) ++ wF g g1 g2 g3 g4 cI gi ga) H := hP
  have hD : va_D A (wF f f1 f2 f3 f4 cI (va_up (va_up (va_up (va_up (va_up fi 1 (gi 1)) 2 (gi 1)) 3 (gi 3)) 4 (gi 4)) 5 (gi 5)) (va_up (va_up fa 0 (va_cpy (ga 0) (fa 0) 0 0 272)) 1 (va_cpy (ga 1) (fa 1) 0 0 16)) ++ wF g g1 g2 g3 g4 cI gi ga) := hD
  refine lv_aload_n hx hb dFo_become_71 rfl (lv_at hl 1 rfl) ?_
  refine va_get (D := (dC, dI)) (ci := 0) (v := .ref g3) (C := RFo) (T := TFo) (N := 10) hx hb hts inFo hown hK hP 5 rfl rfl 8 (by decide) (hts _ in_26) (fun _ h9 => h9) rfl dFo_become_72 ?_
  refine lv_iconst (v := 0) hx hb dFo_become_75 (by decide) ?_
  refine lv_aload_n hx hb dFo_become_76 rfl (lv_at hl 0 rfl) ?_
  refine va_get (D := (dC, dI)) (ci := 0) (v := .ref f3) (C := RFo) (T := TFo) (N := 10) hx hb hts inFo hown hK hP 0 rfl rfl 8 (by decide) (hts _ in_26) (fun _ h9 => h9) rfl dFo_become_77 ?_
  refine lv_iconst (v := 0) hx hb dFo_become_80 (by decide) ?_
  refine lv_bipush (v := nI 16) hx hb dFo_become_81 (by decide) ?_
  refine vq_copyi (x := 0) (y := 0) (z := 16) hx hb (hml.trans hl.1.symm) hown (hts _ in_46) (hts _ in_47) (hts _ in_48) (hts _ in_49) hK hP hD hS 8 3 0 rfl rfl rfl nI_0.symm nI_0.symm rfl (by omega) (by omega) (by decide) (by decide) (Nat.le_of_ble_eq_true rfl) (Nat.le_of_ble_eq_true rfl) dFo_become_83 (fun H locs hP hD hS => ?_)
  have hP : va_P (dC, dI) vwCl (wF f f1 f2 f3 f4 cI (va_up (va_up (va_up (va_up (va_up fi 1 (gi 1)) 2 (gi 1)) 3 (gi 3)) 4 (gi 4)) 5 (gi 5)) (va_up (va_up (va_up fa 0 (va_cpy (ga 0) (fa 0) 0 0 272)) 1 (va_cpy (ga 1) (fa 1) 0 0 16)) 2 (va_cpy (ga 2) (fa 2) 0 0 16)) ++ wF g g1 g2 g3 g4 cI gi ga) H := hP
  have hD : va_D A (wF f f1 f2 f3 f4 cI (va_up (va_up (va_up (va_up (va_up fi 1 (gi 1)) 2 (gi 1)) 3 (gi 3)) 4 (gi 4)) 5 (gi 5)) (va_up (va_up (va_up fa 0 (va_cpy (ga 0) (fa 0) 0 0 272)) 1 (va_cpy (ga 1) (fa 1) 0 0 16)) 2 (va_cpy (ga 2) (fa 2) 0 0 16)) ++ wF g g1 g2 g3 g4 cI gi ga) := hD
  refine lv_aload_n hx hb dFo_become_86 rfl (lv_at hl 1 rfl) ?_
  refine va_get (D := (dC, dI)) (ci := 0) (v := .ref g4) (C := RFo) (T := TFo) (N := 10) hx hb hts inFo hown hK hP 5 rfl rfl 9 (by decide) (hts _ in_37) (fun _ h9 => h9) rfl dFo_become_87 ?_
  refine lv_iconst (v := 0) hx hb dFo_become_90 (by decide) ?_
  refine lv_aload_n hx hb dFo_become_91 rfl (lv_at hl 0 rfl) ?_
  refine va_get (D := (dC, dI)) (ci := 0) (v := .ref f4) (C := RFo) (T := TFo) (N := 10) hx hb hts inFo hown hK hP 0 rfl rfl 9 (by decide) (hts _ in_37) (fun _ h9 => h9) rfl dFo_become_92 ?_
  refine lv_iconst (v := 0) hx hb dFo_become_95 (by decide) ?_
  refine lv_bipush (v := nI 16) hx hb dFo_become_96 (by decide) ?_
  refine vq_copyi (x := 0) (y := 0) (z := 16) hx hb (hml.trans hl.1.symm) hown (hts _ in_46) (hts _ in_47) (hts _ in_48) (hts _ in_49) hK hP hD hS 9 4 0 rfl rfl rfl nI_0.symm nI_0.symm rfl (by omega) (by omega) (by decide) (by decide) (Nat.le_of_ble_eq_true rfl) (Nat.le_of_ble_eq_true rfl) dFo_become_98 (fun H locs hP hD hS => ?_)
  have hP : va_P (dC, dI) vwCl (wF f f1 f2 f3 f4 cI (va_up (va_up (va_up (va_up (va_up fi 1 (gi 1)) 2 (gi 1)) 3 (gi 3)) 4 (gi 4)) 5 (gi 5)) (va_up (va_up (va_up (va_up fa 0 (va_cpy (ga 0) (fa 0) 0 0 272)) 1 (va_cpy (ga 1) (fa 1) 0 0 16)) 2 (va_cpy (ga 2) (fa 2) 0 0 16)) 3 (va_cpy (ga 3) (fa 3) 0 0 16)) ++ wF g g1 g2 g3 g4 cI gi ga) H := hP
  have hD : va_D A (wF f f1 f2 f3 f4 cI (va_up (va_up (va_up (va_up (va_up fi 1 (gi 1)) 2 (gi 1)) 3 (gi 3)) 4 (gi 4)) 5 (gi 5)) (va_up (va_up (va_up (va_up fa 0 (va_cpy (ga 0) (fa 0) 0 0 272)) 1 (va_cpy (ga 1) (fa 1) 0 0 16)) 2 (va_cpy (ga 2) (fa 2) 0 0 16)) 3 (va_cpy (ga 3) (fa 3) 0 0 16)) ++ wF g g1 g2 g3 g4 cI gi ga) := hD
  have hP9 : va_P (dC, dI) vwCl (wF f f1 f2 f3 f4 cI (s_bei fi gi) (s_bea fa ga) ++ wF g g1 g2 g3 g4 cI gi ga) H := by exact hP
  have hD9 : va_D A (wF f f1 f2 f3 f4 cI (s_bei fi gi) (s_bea fa ga) ++ wF g g1 g2 g3 g4 cI gi ga) := by exact hD
  exact W.vret hx hb hr (fun t ht hW => ⟨⟨(), rfl, trivial, by rw [ht]; exact hP9, va_K.moved hW.alike hK, hD9⟩, hS.F ht⟩) hS.2.2 dFo_become_101
