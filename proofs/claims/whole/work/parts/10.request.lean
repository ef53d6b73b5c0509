set_option maxHeartbeats 4000000 in
set_option maxRecDepth 100000 in
/-- hasWrite(k) -/
theorem k_R_hasWrite (l : Launch) (dC : Nat → ClassId) (dI : Nat → Nat → Nat) (r ra : Nat) (cI : ClassId) (ri : Nat → Int32) (rv : Nat → Int32) (k : Int32) : Met l yRq_hasWrite wsRq_hasWrite ({ frames := 1, cells := 0, slots := 0, locals := 40 }) (va_Pc [.ref r, .int k] (fun U => va_P (dC, dI) vwCl (wR r ra cI ri rv) U.heap ∧ va_K (dC, dI) vwCl [(cI, .int)] U)) (vp_Si (fun r => r = s_hw (ri 4) k)) 0 0 (fun _ => False) := by
  refine Met.ofW (cc := cRq_hasWrite) (maxL := 2) (ret := (some .boolean)) (by decide) rfl ?_
  intro p e s m args below meth c s₁ B hml hv
  obtain ⟨rfl, hP, hK⟩ := hv
  have hx := B.exec
  have hb := B.bytes
  have hr := B.returns
  have hts0 := atoms_spec (ws := wsRq_hasWrite) B.pre
  have hts := fun (w : Cond) (h : w ∈ lw_g) => hts0 w (List.mem_cons_of_mem _ h)
  have hown : s.vm.findClass RRq = some m.cls := findClass_of_methodNamed B.named
  have hlocks := B.notSynchronized
  have hl := lv_entry ([.ref r, .int k]) (n := 2) (Nat.le_of_ble_eq_true rfl)
  rw [lg_entry_eq]
  generalize (lg_sl ([.ref r, .int k]) ++ List.replicate (2 - (lg_sl ([.ref r, .int k])).length) Slot.unset).toArray = ls at hl ⊢
  have hl : lv_has ls 2 [(0, .ref r), (1, .int k)] := hl
  refine lv_aload_n hx hb dRq_hasWrite_0 rfl (lv_at hl 0 rfl) ?_
  refine va_get (D := (dC, dI)) (ci := 1) (v := .int (ri 4)) (C := RRq) (T := TRq) (N := 6) hx hb hts inRq hown hK hP 0 rfl rfl 4 (by decide) (hts _ in_0) (fun _ h9 => h9) rfl dRq_hasWrite_1 ?_
  refine lv_iconst (v := 1) hx hb dRq_hasWrite_4 (by decide) ?_
  refine lv_iload_n hx hb dRq_hasWrite_5 rfl (lv_at hl 1 rfl) ?_
  refine lv_ishl hx hb dRq_hasWrite_6 ?_
  refine lv_iand hx hb dRq_hasWrite_7 ?_
  refine lv_if_eq (tgt := 15) hx hb dRq_hasWrite_8 (by decide) (fun c_1 => ?_) (fun c_1 => ?_)
  · skip
    refine lv_iconst (v := 0) hx hb dRq_hasWrite_15 (by decide) ?_
    exact W.zret (v := 0) (ty := .boolean) hx hb hr rfl (fun t ht hW => ⟨0, rfl, by simp only [s_hw, if_pos c_1], ht⟩) (fun q h => by cases h) dRq_hasWrite_16
  · skip
    refine lv_iconst (v := 1) hx hb dRq_hasWrite_11 (by decide) ?_
    refine lv_goto (tgt := 16) hx hb dRq_hasWrite_12 (by decide) ?_
    exact W.zret (v := 1) (ty := .boolean) hx hb hr rfl (fun t ht hW => ⟨1, rfl, by simp only [s_hw, if_neg c_1], ht⟩) (fun q h => by cases h) dRq_hasWrite_16
set_option maxHeartbeats 4000000 in
set_option maxRecDepth 100000 in
/-- begin(a, b, c) -/
theorem k_R_begin (l : Launch) (dC : Nat → ClassId) (dI : Nat → Nat → Nat) (sz : Nat) (r ra : Nat) (cI : ClassId) (ri : Nat → Int32) (rv : Nat → Int32) (a b c0 : Int32) : Met l yRq_begin wsRq_begin ({ frames := 1, cells := 0, slots := 0, locals := 40 }) (va_Pc [.ref r, .int a, .int b, .int c0] (fun U => U.heap.size = sz ∧ va_P (dC, dI) vwCl (wR r ra cI ri rv) U.heap ∧ va_K (dC, dI) vwCl [(cI, .int)] U ∧ va_D (fun _ => True) (wR r ra cI ri rv))) (va_Qv (fun (_ : Unit) => True) (fun _ t => va_P (dC, dI) vwCl (wR r ra cI (va_up (va_up (va_up (va_up (va_up ri 0 a) 1 b) 2 c0) 3 0) 4 0) rv) t.heap ∧ va_K (dC, dI) vwCl [(cI, .int)] t ∧ va_D (va_A (wR r ra cI ri rv) sz) (wR r ra cI (va_up (va_up (va_up (va_up (va_up ri 0 a) 1 b) 2 c0) 3 0) 4 0) rv)) (va_A (wR r ra cI ri rv) sz)) 0 0 (va_A (wR r ra cI ri rv) sz) := by
  refine Met.ofW (cc := cRq_begin) (maxL := 4) (ret := none) (by decide) rfl ?_
  intro p e s m args below meth c s₁ B hml hv
  obtain ⟨rfl, hsz, hP, hK, hD0⟩ := hv
  have hx := B.exec
  have hb := B.bytes
  have hr := B.returns
  have hts0 := atoms_spec (ws := wsRq_begin) B.pre
  have hts := fun (w : Cond) (h : w ∈ lw_g) => hts0 w (List.mem_cons_of_mem _ h)
  have hown : s.vm.findClass RRq = some m.cls := findClass_of_methodNamed B.named
  have hlocks := B.notSynchronized
  subst hsz
  have hD := hD0.self (sz := s.heap.size)
  generalize hAe : va_A (wR r ra cI ri rv) s.heap.size = A at hD ⊢
  have hA : ∀ q : Nat, s.heap.size ≤ q → A q := fun q h => by rw [← hAe]; exact Or.inr h
  have hS : va_S A s.heap s.heap [] := va_S.rf
  have hP : va_P (dC, dI) vwCl (wR r ra cI ri rv) s.heap := hP
  have hl := lv_entry ([.ref r, .int a, .int b, .int c0]) (n := 4) (Nat.le_of_ble_eq_true rfl)
  rw [lg_entry_eq]
  generalize (lg_sl ([.ref r, .int a, .int b, .int c0]) ++ List.replicate (4 - (lg_sl ([.ref r, .int a, .int b, .int c0])).length) Slot.unset).toArray = ls at hl ⊢
  have hl : lv_has ls 4 [(0, .ref r), (1, .int a), (2, .int b), (3, .int c0)] := hl
  refine lv_aload_n hx hb dRq_begin_0 rfl (lv_at hl 0 rfl) ?_
  refine lv_iload_n hx hb dRq_begin_1 rfl (lv_at hl 1 rfl) ?_
  refine va_put (D := (dC, dI)) (ci := 1) (v := .int a) (ty := .int) (C := RRq) (T := TRq) (N := 6) hx hb hts inRq tyRq tyRq_ok nmRq hown hK hP hD hS 0 rfl rfl 0 (by decide) (hts _ in_1) (fun _ h9 => h9) rfl (by decide +kernel) rfl rfl (Nat.le_of_ble_eq_true rfl) dRq_begin_2 (fun H locs hP hD hS => ?_)
  have hP : va_P (dC, dI) vwCl (wR r ra cI (va_up ri 0 a) rv) H := hP
  have hD : va_D A (wR r ra cI (va_up ri 0 a) rv) := hD
  refine lv_aload_n hx hb dRq_begin_5 rfl (lv_at hl 0 rfl) ?_
  refine lv_iload_n hx hb dRq_begin_6 rfl (lv_at hl 2 rfl) ?_
  refine va_put (D := (dC, dI)) (ci := 1) (v := .int b) (ty := .int) (C := RRq) (T := TRq) (N := 6) hx hb hts inRq tyRq tyRq_ok nmRq hown hK hP hD hS 0 rfl rfl 1 (by decide) (hts _ in_2) (fun _ h9 => h9) rfl (by decide +kernel) rfl rfl (Nat.le_of_ble_eq_true rfl) dRq_begin_7 (fun H locs hP hD hS => ?_)
  have hP : va_P (dC, dI) vwCl (wR r ra cI (va_up (va_up ri 0 a) 1 b) rv) H := hP
  have hD : va_D A (wR r ra cI (va_up (va_up ri 0 a) 1 b) rv) := hD
  refine lv_aload_n hx hb dRq_begin_10 rfl (lv_at hl 0 rfl) ?_
  refine lv_iload_n hx hb dRq_begin_11 rfl (lv_at hl 3 rfl) ?_
  refine va_put (D := (dC, dI)) (ci := 1) (v := .int c0) (ty := .int) (C := RRq) (T := TRq) (N := 6) hx hb hts inRq tyRq tyRq_ok nmRq hown hK hP hD hS 0 rfl rfl 2 (by decide) (hts _ in_3) (fun _ h9 => h9) rfl (by decide +kernel) rfl rfl (Nat.le_of_ble_eq_true rfl) dRq_begin_12 (fun H locs hP hD hS => ?_)
  have hP : va_P (dC, dI) vwCl (wR r ra cI (va_up (va_up (va_up ri 0 a) 1 b) 2 c0) rv) H := hP
  have hD : va_D A (wR r ra cI (va_up (va_up (va_up ri 0 a) 1 b) 2 c0) rv) := hD
  refine lv_aload_n hx hb dRq_begin_15 rfl (lv_at hl 0 rfl) ?_
  refine lv_iconst (v := 0) hx hb dRq_begin_16 (by decide) ?_
  refine va_put (D := (dC, dI)) (ci := 1) (v := .int 0) (ty := .int) (C := RRq) (T := TRq) (N := 6) hx hb hts inRq tyRq tyRq_ok nmRq hown hK hP hD hS 0 rfl rfl 3 (by decide) (hts _ in_4) (fun _ h9 => h9) rfl (by decide +kernel) rfl rfl (Nat.le_of_ble_eq_true rfl) dRq_begin_17 (fun H locs hP hD hS => ?_)
  have hP : va_P (dC, dI) vwCl (wR r ra cI (va_up (va_up (va_up (va_up ri 0 a) 1 b) 2 c0) 3 0) rv) H := hP
  have hD : va_D A (wR r ra cI (va_up (va_up (va_up (va_up ri 0 a) 1 b) 2 c0) 3 0) rv) := hD
  refine lv_aload_n hx hb dRq_begin_20 rfl (lv_at hl 0 rfl) ?_
  refine lv_iconst (v := 0) hx hb dRq_begin_21 (by decide) ?_
  refine va_put (D := (dC, dI)) (ci := 1) (v := .int 0) (ty := .int) (C := RRq) (T := TRq) (N := 6) hx hb hts inRq tyRq tyRq_ok nmRq hown hK hP hD hS 0 rfl rfl 4 (by decide) (hts _ in_0) (fun _ h9 => h9) rfl (by decide +kernel) rfl rfl (Nat.le_of_ble_eq_true rfl) dRq_begin_22 (fun H locs hP hD hS => ?_)
  have hP : va_P (dC, dI) vwCl (wR r ra cI (va_up (va_up (va_up (va_up (va_up ri 0 a) 1 b) 2 c0) 3 0) 4 0) rv) H := hP
  have hD : va_D A (wR r ra cI (va_up (va_up (va_up (va_up (va_up ri 0 a) 1 b) 2 c0) 3 0) 4 0) rv) := hD
  have hP9 : va_P (dC, dI) vwCl (wR r ra cI (va_up (va_up (va_up (va_up (va_up ri 0 a) 1 b) 2 c0) 3 0) 4 0) rv) H := by exact hP
  have hD9 : va_D A (wR r ra cI (va_up (va_up (va_up (va_up (va_up ri 0 a) 1 b) 2 c0) 3 0) 4 0) rv) := by exact hD
  exact W.vret hx hb hr (fun t ht hW => ⟨⟨(), rfl, trivial, by rw [ht]; exact hP9, va_K.moved hW.alike hK, hD9⟩, hS.F ht⟩) hS.2.2 dRq_begin_25
set_option maxHeartbeats 4000000 in
set_option maxRecDepth 100000 in
/-- addRead(k) -/
theorem k_R_addRead (l : Launch) (dC : Nat → ClassId) (dI : Nat → Nat → Nat) (sz : Nat) (r ra : Nat) (cI : ClassId) (ri : Nat → Int32) (rv : Nat → Int32) (k : Int32) : Met l yRq_addRead wsRq_addRead ({ frames := 1, cells := 0, slots := 0, locals := 40 }) (va_Pc [.ref r, .int k] (fun U => U.heap.size = sz ∧ va_P (dC, dI) vwCl (wR r ra cI ri rv) U.heap ∧ va_K (dC, dI) vwCl [(cI, .int)] U ∧ va_D (fun _ => True) (wR r ra cI ri rv))) (va_Qv (fun (_ : Unit) => True) (fun _ t => va_P (dC, dI) vwCl (wR r ra cI (va_up ri 3 (ri 3 ||| ((1 : Int32) <<< (k &&& 31)))) rv) t.heap ∧ va_K (dC, dI) vwCl [(cI, .int)] t ∧ va_D (va_A (wR r ra cI ri rv) sz) (wR r ra cI (va_up ri 3 (ri 3 ||| ((1 : Int32) <<< (k &&& 31)))) rv)) (va_A (wR r ra cI ri rv) sz)) 0 0 (va_A (wR r ra cI ri rv) sz) := by
  refine Met.ofW (cc := cRq_addRead) (maxL := 2) (ret := none) (by decide) rfl ?_
  intro p e s m args below meth c s₁ B hml hv
  obtain ⟨rfl, hsz, hP, hK, hD0⟩ := hv
  have hx := B.exec
  have hb := B.bytes
  have hr := B.returns
  have hts0 := atoms_spec (ws := wsRq_addRead) B.pre
  have hts := fun (w : Cond) (h : w ∈ lw_g) => hts0 w (List.mem_cons_of_mem _ h)
  have hown : s.vm.findClass RRq = some m.cls := findClass_of_methodNamed B.named
  have hlocks := B.notSynchronized
  subst hsz
  have hD := hD0.self (sz := s.heap.size)
  generalize hAe : va_A (wR r ra cI ri rv) s.heap.size = A at hD ⊢
  have hA : ∀ q : Nat, s.heap.size ≤ q → A q := fun q h => by rw [← hAe]; exact Or.inr h
  have hS : va_S A s.heap s.heap [] := va_S.rf
  have hP : va_P (dC, dI) vwCl (wR r ra cI ri rv) s.heap := hP
  have hl := lv_entry ([.ref r, .int k]) (n := 2) (Nat.le_of_ble_eq_true rfl)
  rw [lg_entry_eq]
  generalize (lg_sl ([.ref r, .int k]) ++ List.replicate (2 - (lg_sl ([.ref r, .int k])).length) Slot.unset).toArray = ls at hl ⊢
  have hl : lv_has ls 2 [(0, .ref r), (1, .int k)] := hl
  refine lv_aload_n hx hb dRq_addRead_0 rfl (lv_at hl 0 rfl) ?_
  refine lv_dup hx hb dRq_addRead_1 rfl ?_
  refine va_get (D := (dC, dI)) (ci := 1) (v := .int (ri 3)) (C := RRq) (T := TRq) (N := 6) hx hb hts inRq hown hK hP 0 rfl rfl 3 (by decide) (hts _ in_4) (fun _ h9 => h9) rfl dRq_addRead_2 ?_
  refine lv_iconst (v := 1) hx hb dRq_addRead_5 (by decide) ?_
  refine lv_iload_n hx hb dRq_addRead_6 rfl (lv_at hl 1 rfl) ?_
  refine lv_ishl hx hb dRq_addRead_7 ?_
  refine lv_ior hx hb dRq_addRead_8 ?_
  refine va_put (D := (dC, dI)) (ci := 1) (v := .int ((ri 3) ||| ((1 : Int32) <<< (k &&& 31)))) (ty := .int) (C := RRq) (T := TRq) (N := 6) hx hb hts inRq tyRq tyRq_ok nmRq hown hK hP hD hS 0 rfl rfl 3 (by decide) (hts _ in_4) (fun _ h9 => h9) rfl (by decide +kernel) rfl rfl (Nat.le_of_ble_eq_true rfl) dRq_addRead_9 (fun H locs hP hD hS => ?_)
  have hP : va_P (dC, dI) vwCl (wR r ra cI (va_up ri 3 ((ri 3) ||| ((1 : Int32) <<< (k &&& 31)))) rv) H := hP
  have hD : va_D A (wR r ra cI (va_up ri 3 ((ri 3) ||| ((1 : Int32) <<< (k &&& 31)))) rv) := hD
  have hP9 : va_P (dC, dI) vwCl (wR r ra cI (va_up ri 3 (ri 3 ||| ((1 : Int32) <<< (k &&& 31)))) rv) H := by exact hP
  have hD9 : va_D A (wR r ra cI (va_up ri 3 (ri 3 ||| ((1 : Int32) <<< (k &&& 31)))) rv) := by exact hD
  exact W.vret hx hb hr (fun t ht hW => ⟨⟨(), rfl, trivial, by rw [ht]; exact hP9, va_K.moved hW.alike hK, hD9⟩, hS.F ht⟩) hS.2.2 dRq_addRead_12
set_option maxHeartbeats 4000000 in
set_option maxRecDepth 100000 in
/-- addWrite(k, v) -/
theorem k_R_addWrite (l : Launch) (dC : Nat → ClassId) (dI : Nat → Nat → Nat) (sz : Nat) (r ra : Nat) (cI : ClassId) (ri : Nat → Int32) (rv : Nat → Int32) (k : Nat) (hk : k < 16) (v : Int32) : Met l yRq_addWrite wsRq_addWrite ({ frames := 1, cells := 0, slots := 0, locals := 40 }) (va_Pc [.ref r, .int (nI k), .int v] (fun U => U.heap.size = sz ∧ va_P (dC, dI) vwCl (wR r ra cI ri rv) U.heap ∧ va_K (dC, dI) vwCl [(cI, .int)] U ∧ va_D (fun _ => True) (wR r ra cI ri rv))) (va_Qv (fun (_ : Unit) => True) (fun _ t => va_P (dC, dI) vwCl (wR r ra cI (va_up ri 4 (ri 4 ||| ((1 : Int32) <<< (nI k &&& 31)))) (upd rv k v)) t.heap ∧ va_K (dC, dI) vwCl [(cI, .int)] t ∧ va_D (va_A (wR r ra cI ri rv) sz) (wR r ra cI (va_up ri 4 (ri 4 ||| ((1 : Int32) <<< (nI k &&& 31)))) (upd rv k v))) (va_A (wR r ra cI ri rv) sz)) 0 0 (va_A (wR r ra cI ri rv) sz) := by
  refine Met.ofW (cc := cRq_addWrite) (maxL := 3) (ret := none) (by decide) rfl ?_
  intro p e s m args below meth c s₁ B hml hv
  obtain ⟨rfl, hsz, hP, hK, hD0⟩ := hv
  have hx := B.exec
  have hb := B.bytes
  have hr := B.returns
  have hts0 := atoms_spec (ws := wsRq_addWrite) B.pre
  have hts := fun (w : Cond) (h : w ∈ lw_g) => hts0 w (List.mem_cons_of_mem _ h)
  have hown : s.vm.findClass RRq = some m.cls := findClass_of_methodNamed B.named
  have hlocks := B.notSynchronized
  subst hsz
  have hD := hD0.self (sz := s.heap.size)
  generalize hAe : va_A (wR r ra cI ri rv) s.heap.size = A at hD ⊢
  have hA : ∀ q : Nat, s.heap.size ≤ q → A q := fun q h => by rw [← hAe]; exact Or.inr h
  have hS : va_S A s.heap s.heap [] := va_S.rf
  have hP : va_P (dC, dI) vwCl (wR r ra cI ri rv) s.heap := hP
  have hl := lv_entry ([.ref r, .int (nI k), .int v]) (n := 3) (Nat.le_of_ble_eq_true rfl)
  rw [lg_entry_eq]
  generalize (lg_sl ([.ref r, .int (nI k), .int v]) ++ List.replicate (3 - (lg_sl ([.ref r, .int (nI k), .int v])).length) Slot.unset).toArray = ls at hl ⊢
  have hl : lv_has ls 3 [(0, .ref r), (1, .int (nI k)), (2, .int v)] := hl
  refine lv_aload_n hx hb dRq_addWrite_0 rfl (lv_at hl 0 rfl) ?_
  refine lv_dup hx hb dRq_addWrite_1 rfl ?_
  refine va_get (D := (dC, dI)) (ci := 1) (v := .int (ri 4)) (C := RRq) (T := TRq) (N := 6) hx hb hts inRq hown hK hP 0 rfl rfl 4 (by decide) (hts _ in_0) (fun _ h9 => h9) rfl dRq_addWrite_2 ?_
  refine lv_iconst (v := 1) hx hb dRq_addWrite_5 (by decide) ?_
  refine lv_iload_n hx hb dRq_addWrite_6 rfl (lv_at hl 1 rfl) ?_
  refine lv_ishl hx hb dRq_addWrite_7 ?_
  refine lv_ior hx hb dRq_addWrite_8 ?_
  refine va_put (D := (dC, dI)) (ci := 1) (v := .int ((ri 4) ||| ((1 : Int32) <<< ((nI k) &&& 31)))) (ty := .int) (C := RRq) (T := TRq) (N := 6) hx hb hts inRq tyRq tyRq_ok nmRq hown hK hP hD hS 0 rfl rfl 4 (by decide) (hts _ in_0) (fun _ h9 => h9) rfl (by decide +kernel) rfl rfl (Nat.le_of_ble_eq_true rfl) dRq_addWrite_9 (fun H locs hP hD hS => ?_)
  have hP : va_P (dC, dI) vwCl (wR r ra cI (va_up ri 4 ((ri 4) ||| ((1 : Int32) <<< ((nI k) &&& 31)))) rv) H := hP
  have hD : va_D A (wR r ra cI (va_up ri 4 ((ri 4) ||| ((1 : Int32) <<< ((nI k) &&& 31)))) rv) := hD
  refine lv_aload_n hx hb dRq_addWrite_12 rfl (lv_at hl 0 rfl) ?_
  refine va_get (D := (dC, dI)) (ci := 1) (v := .ref ra) (C := RRq) (T := TRq) (N := 6) hx hb hts inRq hown hK hP 0 rfl rfl 5 (by decide) (hts _ in_5) (fun _ h9 => h9) rfl dRq_addWrite_13 ?_
  refine lv_iload_n hx hb dRq_addWrite_16 rfl (lv_at hl 1 rfl) ?_
  refine lv_iload_n hx hb dRq_addWrite_17 rfl (lv_at hl 2 rfl) ?_
  refine vq_iast (k := k) (f := rv) hx hb hK hP hD hS 1 0 rfl rfl rfl hk (by decide) dRq_addWrite_18 (fun H locs hP hD hS => ?_)
  have hP : va_P (dC, dI) vwCl (wR r ra cI (va_up ri 4 ((ri 4) ||| ((1 : Int32) <<< ((nI k) &&& 31)))) (upd rv k v)) H := hP
  have hD : va_D A (wR r ra cI (va_up ri 4 ((ri 4) ||| ((1 : Int32) <<< ((nI k) &&& 31)))) (upd rv k v)) := hD
  have hP9 : va_P (dC, dI) vwCl (wR r ra cI (va_up ri 4 (ri 4 ||| ((1 : Int32) <<< (nI k &&& 31)))) (upd rv k v)) H := by exact hP
  have hD9 : va_D A (wR r ra cI (va_up ri 4 (ri 4 ||| ((1 : Int32) <<< (nI k &&& 31)))) (upd rv k v)) := by exact hD
  exact W.vret hx hb hr (fun t ht hW => ⟨⟨(), rfl, trivial, by rw [ht]; exact hP9, va_K.moved hW.alike hK, hD9⟩, hS.F ht⟩) hS.2.2 dRq_addWrite_19
