/-- an int array's class is the one -/
theorem ci_eq {D : va_G} {cl : List vw_C} {cI cA : ClassId} {s : State} (h : va_K D cl ([(cI, .int)] ++ [(cA, .int)]) s) : cA = cI := by
  have h1 : s.vm.findClass ("[" ++ FieldType.int.toString) = some cI := (h.2 0 _ rfl).2
  have h2 : s.vm.findClass ("[" ++ FieldType.int.toString) = some cA := (h.2 1 _ rfl).2
  exact Option.some.inj (h2.symm.trans h1)
set_option maxHeartbeats 4000000 in
set_option maxRecDepth 100000 in
/-- the constructor -/
theorem k_R_init (l : Launch) (dC : Nat → ClassId) (dI : Nat → Nat → Nat) (sz : Nat) (r : Nat) (cI : ClassId) : Met l yRq_init wsRq_init ({ frames := 1, cells := 1, slots := 16, locals := 40 }) (va_Pc [.ref r] (fun U => U.heap.size = sz ∧ va_P (dC, dI) vwCl ([(r, .inr (1, [.int 0, .int 0, .int 0, .int 0, .int 0, .null]))]) U.heap ∧ va_K (dC, dI) vwCl [(cI, .int)] U ∧ va_D (fun _ => True) ([(r, .inr (1, [.int 0, .int 0, .int 0, .int 0, .int 0, .null]))]))) (va_Qv (fun (_ : Unit) => True) (fun _ t => ∃ ra : Nat, va_P (dC, dI) vwCl (wR r ra cI (va_up (fun _ => 0) 1 1) (fun _ => 0)) t.heap ∧ va_K (dC, dI) vwCl [(cI, .int)] t ∧ va_D (va_A ([(r, .inr (1, [.int 0, .int 0, .int 0, .int 0, .int 0, .null]))]) sz) (wR r ra cI (va_up (fun _ => 0) 1 1) (fun _ => 0))) (va_A ([(r, .inr (1, [.int 0, .int 0, .int 0, .int 0, .int 0, .null]))]) sz)) 1 16 (va_A ([(r, .inr (1, [.int 0, .int 0, .int 0, .int 0, .int 0, .null]))]) sz) := by
  refine Met.ofW (cc := cRq_init) (maxL := 1) (ret := none) (by decide) rfl ?_
  intro p e s m args below meth c s₁ B hml hv
  obtain ⟨rfl, hsz, hP, hK, hD0⟩ := hv
  have hx := B.exec
  have hb := B.bytes
  have hr := B.returns
  have hts0 := atoms_spec (ws := wsRq_init) B.pre
  have hts := fun (w : Cond) (h : w ∈ lw_g) => hts0 w (List.mem_cons_of_mem _ h)
  have hown : s.vm.findClass RRq = some m.cls := findClass_of_methodNamed B.named
  have hlocks := B.notSynchronized
  have hin : meth.name = "<init>" := (name_of_methodNamed B.named B.method).1
  subst hsz
  have hD := hD0.self (sz := s.heap.size)
  generalize hAe : va_A ([(r, .inr (1, [.int 0, .int 0, .int 0, .int 0, .int 0, .null]))]) s.heap.size = A at hD ⊢
  have hA : ∀ q : Nat, s.heap.size ≤ q → A q := fun q h => by rw [← hAe]; exact Or.inr h
  have hS : va_S A s.heap s.heap [] := va_S.rf
  have hP : va_P (dC, dI) vwCl ([(r, .inr (1, [.int 0, .int 0, .int 0, .int 0, .int 0, .null]))]) s.heap := hP
  have hl := lv_entry ([.ref r]) (n := 1) (Nat.le_of_ble_eq_true rfl)
  rw [lg_entry_eq]
  generalize (lg_sl ([.ref r]) ++ List.replicate (1 - (lg_sl ([.ref r])).length) Slot.unset).toArray = ls at hl ⊢
  have hl : lv_has ls 1 [(0, .ref r)] := hl
  refine lv_aload_n hx hb dRq_init_0 rfl (lv_at hl 0 rfl) ?_
  refine W.objInit hx hb hown (hts _ in_105) (hts _ in_106) (hts _ in_107) rfl (by rw [hml]; exact hl.1) rfl dRq_init_1 (Nat.le_of_ble_eq_true rfl) (Nat.le_of_ble_eq_true rfl) ?_
  refine W.eq (g2 := F0 m 4 ls []) rfl ?_
  refine lv_aload_n hx hb dRq_init_4 rfl (lv_at hl 0 rfl) ?_
  refine lv_iconst (v := 0) hx hb dRq_init_5 (by decide) ?_
  refine va_put (D := (dC, dI)) (ci := 1) (v := .int 0) (ty := .int) (C := RRq) (T := TRq) (N := 6) hx hb hts inRq tyRq tyRq_ok nmRq hown hK hP hD hS 0 rfl rfl 0 (by decide) (hts _ in_1) (fun _ h9 => h9) rfl (by decide +kernel) rfl rfl (Nat.le_of_ble_eq_true rfl) dRq_init_6 (fun H locs hP hD hS => ?_)
  have hP : va_P (dC, dI) vwCl ([(r, .inr (1, [.int 0, .int 0, .int 0, .int 0, .int 0, .null]))]) H := hP
  have hD : va_D A ([(r, .inr (1, [.int 0, .int 0, .int 0, .int 0, .int 0, .null]))]) := hD
  refine lv_aload_n hx hb dRq_init_9 rfl (lv_at hl 0 rfl) ?_
  refine lv_iconst (v := 1) hx hb dRq_init_10 (by decide) ?_
  refine va_put (D := (dC, dI)) (ci := 1) (v := .int 1) (ty := .int) (C := RRq) (T := TRq) (N := 6) hx hb hts inRq tyRq tyRq_ok nmRq hown hK hP hD hS 0 rfl rfl 1 (by decide) (hts _ in_2) (fun _ h9 => h9) rfl (by decide +kernel) rfl rfl (Nat.le_of_ble_eq_true rfl) dRq_init_11 (fun H locs hP hD hS => ?_)
  have hP : va_P (dC, dI) vwCl ([(r, .inr (1, [.int 0, .int 1, .int 0, .int 0, .int 0, .null]))]) H := hP
  have hD : va_D A ([(r, .inr (1, [.int 0, .int 1, .int 0, .int 0, .int 0, .null]))]) := hD
  refine lv_aload_n hx hb dRq_init_14 rfl (lv_at hl 0 rfl) ?_
  refine lv_iconst (v := 0) hx hb dRq_init_15 (by decide) ?_
  refine va_put (D := (dC, dI)) (ci := 1) (v := .int 0) (ty := .int) (C := RRq) (T := TRq) (N := 6) hx hb hts inRq tyRq tyRq_ok nmRq hown hK hP hD hS 0 rfl rfl 2 (by decide) (hts _ in_3) (fun _ h9 => h9) rfl (by decide +kernel) rfl rfl (Nat.le_of_ble_eq_true rfl) dRq_init_16 (fun H locs hP hD hS => ?_)
  have hP : va_P (dC, dI) vwCl ([(r, .inr (1, [.int 0, .int 1, .int 0, .int 0, .int 0, .null]))]) H := hP
  have hD : va_D A ([(r, .inr (1, [.int 0, .int 1, .int 0, .int 0, .int 0, .null]))]) := hD
  refine lv_aload_n hx hb dRq_init_19 rfl (lv_at hl 0 rfl) ?_
  refine lv_iconst (v := 0) hx hb dRq_init_20 (by decide) ?_
  refine va_put (D := (dC, dI)) (ci := 1) (v := .int 0) (ty := .int) (C := RRq) (T := TRq) (N := 6) hx hb hts inRq tyRq tyRq_ok nmRq hown hK hP hD hS 0 rfl rfl 3 (by decide) (hts _ in_4) (fun _ h9 => h9) rfl (by decide +kernel) rfl rfl (Nat.le_of_ble_eq_true rfl) dRq_init_21 (fun H locs hP hD hS => ?_)
  have hP : va_P (dC, dI) vwCl ([(r, .inr (1, [.int 0, .int 1, .int 0, .int 0, .int 0, .null]))]) H := hP
  have hD : va_D A ([(r, .inr (1, [.int 0, .int 1, .int 0, .int 0, .int 0, .null]))]) := hD
  refine lv_aload_n hx hb dRq_init_24 rfl (lv_at hl 0 rfl) ?_
  refine lv_iconst (v := 0) hx hb dRq_init_25 (by decide) ?_
  refine va_put (D := (dC, dI)) (ci := 1) (v := .int 0) (ty := .int) (C := RRq) (T := TRq) (N := 6) hx hb hts inRq tyRq tyRq_ok nmRq hown hK hP hD hS 0 rfl rfl 4 (by decide) (hts _ in_0) (fun _ h9 => h9) rfl (by decide +kernel) rfl rfl (Nat.le_of_ble_eq_true rfl) dRq_init_26 (fun H locs hP hD hS => ?_)
  have hP : va_P (dC, dI) vwCl ([(r, .inr (1, [.int 0, .int 1, .int 0, .int 0, .int 0, .null]))]) H := hP
  have hD : va_D A ([(r, .inr (1, [.int 0, .int 1, .int 0, .int 0, .int 0, .null]))]) := hD
  refine lv_aload_n hx hb dRq_init_29 rfl (lv_at hl 0 rfl) ?_
  refine lv_bipush (v := nI 16) hx hb dRq_init_30 (by decide) ?_
  refine va_newa (atype := .int) (a0 := (16, .inl (fun _ => 0))) (ty := .int) (N' := 16) hx hb (hts _ in_108) rfl hK hP hD hS hA (fun _ => rfl) (by decide) (by decide) (by decide) (Nat.le_of_ble_eq_true rfl) (Nat.le_of_ble_eq_true rfl) dRq_init_32 (fun q_1 cA H hK2 hP hD hS => ?_)
  have hcA : cA = cI := ci_eq hK2
  rw [hcA] at hP hD
  have hP : va_P (dC, dI) vwCl ([(r, .inr (1, [.int 0, .int 1, .int 0, .int 0, .int 0, .null]))] ++ [(q_1, .inl (cI, 16, .inl (fun _ => 0)))]) H := hP
  have hD : va_D A ([(r, .inr (1, [.int 0, .int 1, .int 0, .int 0, .int 0, .null]))] ++ [(q_1, .inl (cI, 16, .inl (fun _ => 0)))]) := hD
  refine va_putF (D := (dC, dI)) (ci := 1) (v := .ref q_1) (ty := .array .int) (C := RRq) (T := TRq) (N := 6) hx hb hts inRq tyRq tyRq_ok nmRq hown hK hP hD hS 0 rfl rfl 5 (by decide) (hts _ in_5) (fun _ h9 => h9) rfl hin rfl (by decide +kernel) rfl rfl (Nat.le_of_ble_eq_true rfl) dRq_init_34 (fun H locs hP hD hS => ?_)
  have hP : va_P (dC, dI) vwCl ([(r, .inr (1, [.int 0, .int 1, .int 0, .int 0, .int 0, .ref q_1]))] ++ [(q_1, .inl (cI, 16, .inl (fun _ => 0)))]) H := hP
  have hD : va_D A ([(r, .inr (1, [.int 0, .int 1, .int 0, .int 0, .int 0, .ref q_1]))] ++ [(q_1, .inl (cI, 16, .inl (fun _ => 0)))]) := hD
  have hP9 : va_P (dC, dI) vwCl (wR r q_1 cI (va_up (fun _ => 0) 1 1) (fun _ => 0)) H := by exact hP
  have hD9 : va_D A (wR r q_1 cI (va_up (fun _ => 0) 1 1) (fun _ => 0)) := by exact hD
  refine W.widen (k := 1) (n := 16) (by decide) (by decide) ?_
  exact W.vret hx hb hr (fun t ht hW => ⟨⟨(), rfl, trivial, q_1, by rw [ht]; exact hP9, va_K.moved hW.alike hK, hD9⟩, hS.F ht⟩) hS.2.2 dRq_init_37
set_option maxHeartbeats 4000000 in
set_option maxRecDepth 100000 in
/-- the constructor -/
theorem k_F_init (l : Launch) (dC : Nat → ClassId) (dI : Nat → Nat → Nat) (sz : Nat) (f : Nat) (cI : ClassId) (v : Int32) : Met l yFo_init wsFo_init ({ frames := 1, cells := 4, slots := 320, locals := 40 }) (va_Pc [.ref f, .int v] (fun U => U.heap.size = sz ∧ va_P (dC, dI) vwCl ([(f, .inr (0, [.int 0, .int 0, .int 0, .int 0, .int 0, .int 0, .null, .null, .null, .null]))]) U.heap ∧ va_K (dC, dI) vwCl [(cI, .int)] U ∧ va_D (fun _ => True) ([(f, .inr (0, [.int 0, .int 0, .int 0, .int 0, .int 0, .int 0, .null, .null, .null, .null]))]))) (va_Qv (fun (_ : Unit) => True) (fun _ t => ∃ f1 f2 f3 f4 : Nat, va_P (dC, dI) vwCl (wF f f1 f2 f3 f4 cI (va_up (fun _ => 0) 0 v) (fun _ _ => 0)) t.heap ∧ va_K (dC, dI) vwCl [(cI, .int)] t ∧ va_D (va_A ([(f, .inr (0, [.int 0, .int 0, .int 0, .int 0, .int 0, .int 0, .null, .null, .null, .null]))]) sz) (wF f f1 f2 f3 f4 cI (va_up (fun _ => 0) 0 v) (fun _ _ => 0))) (va_A ([(f, .inr (0, [.int 0, .int 0, .int 0, .int 0, .int 0, .int 0, .null, .null, .null, .null]))]) sz)) 4 320 (va_A ([(f, .inr (0, [.int 0, .int 0, .int 0, .int 0, .int 0, .int 0, .null, .null, .null, .null]))]) sz) := by
  refine Met.ofW (cc := cFo_init) (maxL := 2) (ret := none) (by decide) rfl ?_
  intro p e s m args below meth c s₁ B hml hv
  obtain ⟨rfl, hsz, hP, hK, hD0⟩ := hv
  have hx := B.exec
  have hb := B.bytes
  have hr := B.returns
  have hts0 := atoms_spec (ws := wsFo_init) B.pre
  have hts := fun (w : Cond) (h : w ∈ lw_g) => hts0 w (List.mem_cons_of_mem _ h)
  have hown : s.vm.findClass RFo = some m.cls := findClass_of_methodNamed B.named
  have hlocks := B.notSynchronized
  have hin : meth.name = "<init>" := (name_of_methodNamed B.named B.method).1
  subst hsz
  have hD := hD0.self (sz := s.heap.size)
  generalize hAe : va_A ([(f, .inr (0, [.int 0, .int 0, .int 0, .int 0, .int 0, .int 0, .null, .null, .null, .null]))]) s.heap.size = A at hD ⊢
  have hA : ∀ q : Nat, s.heap.size ≤ q → A q := fun q h => by rw [← hAe]; exact Or.inr h
  have hS : va_S A s.heap s.heap [] := va_S.rf
  have hP : va_P (dC, dI) vwCl ([(f, .inr (0, [.int 0, .int 0, .int 0, .int 0, .int 0, .int 0, .null, .null, .null, .null]))]) s.heap := hP
  have hl := lv_entry ([.ref f, .int v]) (n := 2) (Nat.le_of_ble_eq_true rfl)
  rw [lg_entry_eq]
  generalize (lg_sl ([.ref f, .int v]) ++ List.replicate (2 - (lg_sl ([.ref f, .int v])).length) Slot.unset).toArray = ls at hl ⊢
  have hl : lv_has ls 2 [(0, .ref f), (1, .int v)] := hl
  refine lv_aload_n hx hb dFo_init_0 rfl (lv_at hl 0 rfl) ?_
  refine W.objInit hx hb hown (hts _ in_109) (hts _ in_106) (hts _ in_107) rfl (by rw [hml]; exact hl.1) rfl dFo_init_1 (Nat.le_of_ble_eq_true rfl) (Nat.le_of_ble_eq_true rfl) ?_
  refine W.eq (g2 := F0 m 4 ls []) rfl ?_
  refine lv_aload_n hx hb dFo_init_4 rfl (lv_at hl 0 rfl) ?_
  refine lv_iconst (v := 0) hx hb dFo_init_5 (by decide) ?_
  refine va_put (D := (dC, dI)) (ci := 0) (v := .int 0) (ty := .int) (C := RFo) (T := TFo) (N := 10) hx hb hts inFo tyFo tyFo_ok nmFo hown hK hP hD hS 0 rfl rfl 1 (by decide) (hts _ in_6) (fun _ h9 => h9) rfl (by decide +kernel) rfl rfl (Nat.le_of_ble_eq_true rfl) dFo_init_6 (fun H locs hP hD hS => ?_)
  have hP : va_P (dC, dI) vwCl ([(f, .inr (0, [.int 0, .int 0, .int 0, .int 0, .int 0, .int 0, .null, .null, .null, .null]))]) H := hP
  have hD : va_D A ([(f, .inr (0, [.int 0, .int 0, .int 0, .int 0, .int 0, .int 0, .null, .null, .null, .null]))]) := hD
  refine lv_aload_n hx hb dFo_init_9 rfl (lv_at hl 0 rfl) ?_
  refine lv_iconst (v := 0) hx hb dFo_init_10 (by decide) ?_
  refine va_put (D := (dC, dI)) (ci := 0) (v := .int 0) (ty := .int) (C := RFo) (T := TFo) (N := 10) hx hb hts inFo tyFo tyFo_ok nmFo hown hK hP hD hS 0 rfl rfl 2 (by decide) (hts _ in_13) (fun _ h9 => h9) rfl (by decide +kernel) rfl rfl (Nat.le_of_ble_eq_true rfl) dFo_init_11 (fun H locs hP hD hS => ?_)
  have hP : va_P (dC, dI) vwCl ([(f, .inr (0, [.int 0, .int 0, .int 0, .int 0, .int 0, .int 0, .null, .null, .null, .null]))]) H := hP
  have hD : va_D A ([(f, .inr (0, [.int 0, .int 0, .int 0, .int 0, .int 0, .int 0, .null, .null, .null, .null]))]) := hD
  refine lv_aload_n hx hb dFo_init_14 rfl (lv_at hl 0 rfl) ?_
  refine lv_iconst (v := 0) hx hb dFo_init_15 (by decide) ?_
  refine va_put (D := (dC, dI)) (ci := 0) (v := .int 0) (ty := .int) (C := RFo) (T := TFo) (N := 10) hx hb hts inFo tyFo tyFo_ok nmFo hown hK hP hD hS 0 rfl rfl 3 (by decide) (hts _ in_65) (fun _ h9 => h9) rfl (by decide +kernel) rfl rfl (Nat.le_of_ble_eq_true rfl) dFo_init_16 (fun H locs hP hD hS => ?_)
  have hP : va_P (dC, dI) vwCl ([(f, .inr (0, [.int 0, .int 0, .int 0, .int 0, .int 0, .int 0, .null, .null, .null, .null]))]) H := hP
  have hD : va_D A ([(f, .inr (0, [.int 0, .int 0, .int 0, .int 0, .int 0, .int 0, .null, .null, .null, .null]))]) := hD
  refine lv_aload_n hx hb dFo_init_19 rfl (lv_at hl 0 rfl) ?_
  refine lv_iconst (v := 0) hx hb dFo_init_20 (by decide) ?_
  refine va_put (D := (dC, dI)) (ci := 0) (v := .int 0) (ty := .int) (C := RFo) (T := TFo) (N := 10) hx hb hts inFo tyFo tyFo_ok nmFo hown hK hP hD hS 0 rfl rfl 4 (by decide) (hts _ in_64) (fun _ h9 => h9) rfl (by decide +kernel) rfl rfl (Nat.le_of_ble_eq_true rfl) dFo_init_21 (fun H locs hP hD hS => ?_)
  have hP : va_P (dC, dI) vwCl ([(f, .inr (0, [.int 0, .int 0, .int 0, .int 0, .int 0, .int 0, .null, .null, .null, .null]))]) H := hP
  have hD : va_D A ([(f, .inr (0, [.int 0, .int 0, .int 0, .int 0, .int 0, .int 0, .null, .null, .null, .null]))]) := hD
  refine lv_aload_n hx hb dFo_init_24 rfl (lv_at hl 0 rfl) ?_
  refine lv_iconst (v := 0) hx hb dFo_init_25 (by decide) ?_
  refine va_put (D := (dC, dI)) (ci := 0) (v := .int 0) (ty := .int) (C := RFo) (T := TFo) (N := 10) hx hb hts inFo tyFo tyFo_ok nmFo hown hK hP hD hS 0 rfl rfl 5 (by decide) (hts _ in_70) (fun _ h9 => h9) rfl (by decide +kernel) rfl rfl (Nat.le_of_ble_eq_true rfl) dFo_init_26 (fun H locs hP hD hS => ?_)
  have hP : va_P (dC, dI) vwCl ([(f, .inr (0, [.int 0, .int 0, .int 0, .int 0, .int 0, .int 0, .null, .null, .null, .null]))]) H := hP
  have hD : va_D A ([(f, .inr (0, [.int 0, .int 0, .int 0, .int 0, .int 0, .int 0, .null, .null, .null, .null]))]) := hD
  refine lv_aload_n hx hb dFo_init_29 rfl (lv_at hl 0 rfl) ?_
  refine lv_sipush (v := nI 272) hx hb dFo_init_30 (by decide) ?_
  refine va_newa (atype := .int) (a0 := (272, .inl (fun _ => 0))) (ty := .int) (N' := 272) hx hb (hts _ in_108) rfl hK hP hD hS hA (fun _ => rfl) (by decide) (by decide) (by decide) (Nat.le_of_ble_eq_true rfl) (Nat.le_of_ble_eq_true rfl) dFo_init_33 (fun q_1 cA H hK2 hP hD hS => ?_)
  have hcA : cA = cI := ci_eq hK2
  rw [hcA] at hP hD
  have hP : va_P (dC, dI) vwCl ([(f, .inr (0, [.int 0, .int 0, .int 0, .int 0, .int 0, .int 0, .null, .null, .null, .null]))] ++ [(q_1, .inl (cI, 272, .inl (fun _ => 0)))]) H := hP
  have hD : va_D A ([(f, .inr (0, [.int 0, .int 0, .int 0, .int 0, .int 0, .int 0, .null, .null, .null, .null]))] ++ [(q_1, .inl (cI, 272, .inl (fun _ => 0)))]) := hD
  refine va_putF (D := (dC, dI)) (ci := 0) (v := .ref q_1) (ty := .array .int) (C := RFo) (T := TFo) (N := 10) hx hb hts inFo tyFo tyFo_ok nmFo hown hK hP hD hS 0 rfl rfl 6 (by decide) (hts _ in_14) (fun _ h9 => h9) rfl hin rfl (by decide +kernel) rfl rfl (Nat.le_of_ble_eq_true rfl) dFo_init_35 (fun H locs hP hD hS => ?_)
  have hP : va_P (dC, dI) vwCl ([(f, .inr (0, [.int 0, .int 0, .int 0, .int 0, .int 0, .int 0, .ref q_1, .null, .null, .null]))] ++ [(q_1, .inl (cI, 272, .inl (fun _ => 0)))]) H := hP
  have hD : va_D A ([(f, .inr (0, [.int 0, .int 0, .int 0, .int 0, .int 0, .int 0, .ref q_1, .null, .null, .null]))] ++ [(q_1, .inl (cI, 272, .inl (fun _ => 0)))]) := hD
  refine lv_aload_n hx hb dFo_init_38 rfl (lv_at hl 0 rfl) ?_
  refine lv_bipush (v := nI 16) hx hb dFo_init_39 (by decide) ?_
  refine va_newa (atype := .int) (a0 := (16, .inl (fun _ => 0))) (ty := .int) (N' := 16) hx hb (hts _ in_108) rfl hK hP hD hS hA (fun _ => rfl) (by decide) (by decide) (by decide) (Nat.le_of_ble_eq_true rfl) (Nat.le_of_ble_eq_true rfl) dFo_init_41 (fun q_2 cA H hK2 hP hD hS => ?_)
  have hcA : cA = cI := ci_eq hK2
  rw [hcA] at hP hD
  have hP : va_P (dC, dI) vwCl ([(f, .inr (0, [.int 0, .int 0, .int 0, .int 0, .int 0, .int 0, .ref q_1, .null, .null, .null]))] ++ [(q_1, .inl (cI, 272, .inl (fun _ => 0)))] ++ [(q_2, .inl (cI, 16, .inl (fun _ => 0)))]) H := hP
  have hD : va_D A ([(f, .inr (0, [.int 0, .int 0, .int 0, .int 0, .int 0, .int 0, .ref q_1, .null, .null, .null]))] ++ [(q_1, .inl (cI, 272, .inl (fun _ => 0)))] ++ [(q_2, .inl (cI, 16, .inl (fun _ => 0)))]) := hD
  refine va_putF (D := (dC, dI)) (ci := 0) (v := .ref q_2) (ty := .array .int) (C := RFo) (T := TFo) (N := 10) hx hb hts inFo tyFo tyFo_ok nmFo hown hK hP hD hS 0 rfl rfl 7 (by decide) (hts _ in_12) (fun _ h9 => h9) rfl hin rfl (by decide +kernel) rfl rfl (Nat.le_of_ble_eq_true rfl) dFo_init_43 (fun H locs hP hD hS => ?_)
  have hP : va_P (dC, dI) vwCl ([(f, .inr (0, [.int 0, .int 0, .int 0, .int 0, .int 0, .int 0, .ref q_1, .ref q_2, .null, .null]))] ++ [(q_1, .inl (cI, 272, .inl (fun _ => 0)))] ++ [(q_2, .inl (cI, 16, .inl (fun _ => 0)))]) H := hP
  have hD : va_D A ([(f, .inr (0, [.int 0, .int 0, .int 0, .int 0, .int 0, .int 0, .ref q_1, .ref q_2, .null, .null]))] ++ [(q_1, .inl (cI, 272, .inl (fun _ => 0)))] ++ [(q_2, .inl (cI, 16, .inl (fun _ => 0)))]) := hD
  refine lv_aload_n hx hb dFo_init_46 rfl (lv_at hl 0 rfl) ?_
  refine lv_bipush (v := nI 16) hx hb dFo_init_47 (by decide) ?_
  refine va_newa (atype := .int) (a0 := (16, .inl (fun _ => 0))) (ty := .int) (N' := 16) hx hb (hts _ in_108) rfl hK hP hD hS hA (fun _ => rfl) (by decide) (by decide) (by decide) (Nat.le_of_ble_eq_true rfl) (Nat.le_of_ble_eq_true rfl) dFo_init_49 (fun q_3 cA H hK2 hP hD hS => ?_)
  have hcA : cA = cI := ci_eq hK2
  rw [hcA] at hP hD
  have hP : va_P (dC, dI) vwCl ([(f, .inr (0, [.int 0, .int 0, .int 0, .int 0, .int 0, .int 0, .ref q_1, .ref q_2, .null, .null]))] ++ [(q_1, .inl (cI, 272, .inl (fun _ => 0)))] ++ [(q_2, .inl (cI, 16, .inl (fun _ => 0)))] ++ [(q_3, .inl (cI, 16, .inl (fun _ => 0)))]) H := hP
  have hD : va_D A ([(f, .inr (0, [.int 0, .int 0, .int 0, .int 0, .int 0, .int 0, .ref q_1, .ref q_2, .null, .null]))] ++ [(q_1, .inl (cI, 272, .inl (fun _ => 0)))] ++ [(q_2, .inl (cI, 16, .inl (fun _ => 0)))] ++ [(q_3, .inl (cI, 16, .inl (fun _ => 0)))]) := hD
  refine va_putF (D := (dC, dI)) (ci := 0) (v := .ref q_3) (ty := .array .int) (C := RFo) (T := TFo) (N := 10) hx hb hts inFo tyFo tyFo_ok nmFo hown hK hP hD hS 0 rfl rfl 8 (by decide) (hts _ in_26) (fun _ h9 => h9) rfl hin rfl (by decide +kernel) rfl rfl (Nat.le_of_ble_eq_true rfl) dFo_init_51 (fun H locs hP hD hS => ?_)
  have hP : va_P (dC, dI) vwCl ([(f, .inr (0, [.int 0, .int 0, .int 0, .int 0, .int 0, .int 0, .ref q_1, .ref q_2, .ref q_3, .null]))] ++ [(q_1, .inl (cI, 272, .inl (fun _ => 0)))] ++ [(q_2, .inl (cI, 16, .inl (fun _ => 0)))] ++ [(q_3, .inl (cI, 16, .inl (fun _ => 0)))]) H := hP
  have hD : va_D A ([(f, .inr (0, [.int 0, .int 0, .int 0, .int 0, .int 0, .int 0, .ref q_1, .ref q_2, .ref q_3, .null]))] ++ [(q_1, .inl (cI, 272, .inl (fun _ => 0)))] ++ [(q_2, .inl (cI, 16, .inl (fun _ => 0)))] ++ [(q_3, .inl (cI, 16, .inl (fun _ => 0)))]) := hD
  refine lv_aload_n hx hb dFo_init_54 rfl (lv_at hl 0 rfl) ?_
  refine lv_bipush (v := nI 16) hx hb dFo_init_55 (by decide) ?_
  refine va_newa (atype := .int) (a0 := (16, .inl (fun _ => 0))) (ty := .int) (N' := 16) hx hb (hts _ in_108) rfl hK hP hD hS hA (fun _ => rfl) (by decide) (by decide) (by decide) (Nat.le_of_ble_eq_true rfl) (Nat.le_of_ble_eq_true rfl) dFo_init_57 (fun q_4 cA H hK2 hP hD hS => ?_)
  have hcA : cA = cI := ci_eq hK2
  rw [hcA] at hP hD
  have hP : va_P (dC, dI) vwCl ([(f, .inr (0, [.int 0, .int 0, .int 0, .int 0, .int 0, .int 0, .ref q_1, .ref q_2, .ref q_3, .null]))] ++ [(q_1, .inl (cI, 272, .inl (fun _ => 0)))] ++ [(q_2, .inl (cI, 16, .inl (fun _ => 0)))] ++ [(q_3, .inl (cI, 16, .inl (fun _ => 0)))] ++ [(q_4, .inl (cI, 16, .inl (fun _ => 0)))]) H := hP
  have hD : va_D A ([(f, .inr (0, [.int 0, .int 0, .int 0, .int 0, .int 0, .int 0, .ref q_1, .ref q_2, .ref q_3, .null]))] ++ [(q_1, .inl (cI, 272, .inl (fun _ => 0)))] ++ [(q_2, .inl (cI, 16, .inl (fun _ => 0)))] ++ [(q_3, .inl (cI, 16, .inl (fun _ => 0)))] ++ [(q_4, .inl (cI, 16, .inl (fun _ => 0)))]) := hD
  refine va_putF (D := (dC, dI)) (ci := 0) (v := .ref q_4) (ty := .array .int) (C := RFo) (T := TFo) (N := 10) hx hb hts inFo tyFo tyFo_ok nmFo hown hK hP hD hS 0 rfl rfl 9 (by decide) (hts _ in_37) (fun _ h9 => h9) rfl hin rfl (by decide +kernel) rfl rfl (Nat.le_of_ble_eq_true rfl) dFo_init_59 (fun H locs hP hD hS => ?_)
  have hP : va_P (dC, dI) vwCl ([(f, .inr (0, [.int 0, .int 0, .int 0, .int 0, .int 0, .int 0, .ref q_1, .ref q_2, .ref q_3, .ref q_4]))] ++ [(q_1, .inl (cI, 272, .inl (fun _ => 0)))] ++ [(q_2, .inl (cI, 16, .inl (fun _ => 0)))] ++ [(q_3, .inl (cI, 16, .inl (fun _ => 0)))] ++ [(q_4, .inl (cI, 16, .inl (fun _ => 0)))]) H := hP
  have hD : va_D A ([(f, .inr (0, [.int 0, .int 0, .int 0, .int 0, .int 0, .int 0, .ref q_1, .ref q_2, .ref q_3, .ref q_4]))] ++ [(q_1, .inl (cI, 272, .inl (fun _ => 0)))] ++ [(q_2, .inl (cI, 16, .inl (fun _ => 0)))] ++ [(q_3, .inl (cI, 16, .inl (fun _ => 0)))] ++ [(q_4, .inl (cI, 16, .inl (fun _ => 0)))]) := hD
  refine lv_aload_n hx hb dFo_init_62 rfl (lv_at hl 0 rfl) ?_
  refine lv_iload_n hx hb dFo_init_63 rfl (lv_at hl 1 rfl) ?_
  refine va_putF (D := (dC, dI)) (ci := 0) (v := .int v) (ty := .int) (C := RFo) (T := TFo) (N := 10) hx hb hts inFo tyFo tyFo_ok nmFo hown hK hP hD hS 0 rfl rfl 0 (by decide) (hts _ in_7) (fun _ h9 => h9) rfl hin rfl (by decide +kernel) rfl rfl (Nat.le_of_ble_eq_true rfl) dFo_init_64 (fun H locs hP hD hS => ?_)
  have hP : va_P (dC, dI) vwCl ([(f, .inr (0, [.int v, .int 0, .int 0, .int 0, .int 0, .int 0, .ref q_1, .ref q_2, .ref q_3, .ref q_4]))] ++ [(q_1, .inl (cI, 272, .inl (fun _ => 0)))] ++ [(q_2, .inl (cI, 16, .inl (fun _ => 0)))] ++ [(q_3, .inl (cI, 16, .inl (fun _ => 0)))] ++ [(q_4, .inl (cI, 16, .inl (fun _ => 0)))]) H := hP
  have hD : va_D A ([(f, .inr (0, [.int v, .int 0, .int 0, .int 0, .int 0, .int 0, .ref q_1, .ref q_2, .ref q_3, .ref q_4]))] ++ [(q_1, .inl (cI, 272, .inl (fun _ => 0)))] ++ [(q_2, .inl (cI, 16, .inl (fun _ => 0)))] ++ [(q_3, .inl (cI, 16, .inl (fun _ => 0)))] ++ [(q_4, .inl (cI, 16, .inl (fun _ => 0)))]) := hD
  have hP9 : va_P (dC, dI) vwCl (wF f q_1 q_2 q_3 q_4 cI (va_up (fun _ => 0) 0 v) (fun _ _ => 0)) H := by exact hP
  have hD9 : va_D A (wF f q_1 q_2 q_3 q_4 cI (va_up (fun _ => 0) 0 v) (fun _ _ => 0)) := by exact hD
  refine W.widen (k := 4) (n := 320) (by decide) (by decide) ?_
  exact W.vret hx hb hr (fun t ht hW => ⟨⟨(), rfl, trivial, q_1, q_2, q_3, q_4, by rw [ht]; exact hP9, va_K.moved hW.alike hK, hD9⟩, hS.F ht⟩) hS.2.2 dFo_init_67
