set_option maxHeartbeats 4000000 in
set_option maxRecDepth 100000 in
/-- rowStart(n) -/
theorem k_F_rowStart (l : Launch) (n : Nat) (hn : n < 2 ^ 31) : Met l yFo_rowStart wsFo_rowStart ({ frames := 1, cells := 0, slots := 0, locals := 40 }) (va_Pc [.int (nI n)] (fun _ => True)) (vp_Si (fun r => r = nI (n % 17 * 16))) 0 0 (fun _ => False) := by
  refine Met.ofW (cc := cFo_rowStart) (maxL := 1) (ret := (some .int)) (by decide) rfl ?_
  intro p e s m args below meth c s₁ B hml hv
  obtain ⟨rfl, -⟩ := hv
  have hx := B.exec
  have hb := B.bytes
  have hr := B.returns
  have hts0 := atoms_spec (ws := wsFo_rowStart) B.pre
  have hts := fun (w : Cond) (h : w ∈ lw_g) => hts0 w (List.mem_cons_of_mem _ h)
  have hown : s.vm.findClass RFo = some m.cls := findClass_of_methodNamed B.named
  have hlocks := B.notSynchronized
  have hl := lv_entry ([.int (nI n)]) (n := 1) (Nat.le_of_ble_eq_true rfl)
  rw [lg_entry_eq]
  generalize (lg_sl ([.int (nI n)]) ++ List.replicate (1 - (lg_sl ([.int (nI n)])).length) Slot.unset).toArray = ls at hl ⊢
  have hl : lv_has ls 1 [(0, .int (nI n))] := hl
  refine lv_iload_n hx hb dFo_rowStart_0 rfl (lv_at hl 0 rfl) ?_
  refine lv_bipush (v := nI 17) hx hb dFo_rowStart_1 (by decide) ?_
  refine lv_irem hx hb dFo_rowStart_3 (by decide) ?_
  refine lv_ri (y := nI (n % 17)) (pk_rem (by omega) (by decide) (by decide)) ?_
  refine lv_bipush (v := nI 16) hx hb dFo_rowStart_4 (by decide) ?_
  refine lv_imul hx hb dFo_rowStart_6 ?_
  refine lv_ri (y := nI ((n % 17) * 16)) (pk_mul _ _) ?_
  exact W.iret (v := nI ((n % 17) * 16)) hx hb hr (fun t ht hW => ⟨nI ((n % 17) * 16), rfl, rfl, ht⟩) (fun q h => by cases h) dFo_rowStart_7
set_option maxHeartbeats 4000000 in
set_option maxRecDepth 100000 in
/-- oldestSnapshot() -/
theorem k_F_oldest (l : Launch) (dC : Nat → ClassId) (dI : Nat → Nat → Nat) (f f1 f2 f3 f4 : Nat) (cI : ClassId) (fi : Nat → Int32) (fa : Nat → Nat → Int32) : Met l yFo_oldestSnapshot wsFo_oldestSnapshot ({ frames := 1, cells := 0, slots := 0, locals := 40 }) (va_Pc [.ref f] (fun U => va_P (dC, dI) vwCl (wF f f1 f2 f3 f4 cI fi fa) U.heap ∧ va_K (dC, dI) vwCl [(cI, .int)] U)) (vp_Si (fun r => r = fi 1 - fi 0)) 0 0 (fun _ => False) := by
  refine Met.ofW (cc := cFo_oldestSnapshot) (maxL := 1) (ret := (some .int)) (by decide) rfl ?_
  intro p e s m args below meth c s₁ B hml hv
  obtain ⟨rfl, hP, hK⟩ := hv
  have hx := B.exec
  have hb := B.bytes
  have hr := B.returns
  have hts0 := atoms_spec (ws := wsFo_oldestSnapshot) B.pre
  have hts := fun (w : Cond) (h : w ∈ lw_g) => hts0 w (List.mem_cons_of_mem _ h)
  have hown : s.vm.findClass RFo = some m.cls := findClass_of_methodNamed B.named
  have hlocks := B.notSynchronized
  have hl := lv_entry ([.ref f]) (n := 1) (Nat.le_of_ble_eq_true rfl)
  rw [lg_entry_eq]
  generalize (lg_sl ([.ref f]) ++ List.replicate (1 - (lg_sl ([.ref f])).length) Slot.unset).toArray = ls at hl ⊢
  have hl : lv_has ls 1 [(0, .ref f)] := hl
  refine lv_aload_n hx hb dFo_oldestSnapshot_0 rfl (lv_at hl 0 rfl) ?_
  refine va_get (D := (dC, dI)) (ci := 0) (v := .int (fi 1)) (C := RFo) (T := TFo) (N := 10) hx hb hts inFo hown hK hP 0 rfl rfl 1 (by decide) (hts _ in_6) (fun _ h9 => h9) rfl dFo_oldestSnapshot_1 ?_
  refine lv_aload_n hx hb dFo_oldestSnapshot_4 rfl (lv_at hl 0 rfl) ?_
  refine va_get (D := (dC, dI)) (ci := 0) (v := .int (fi 0)) (C := RFo) (T := TFo) (N := 10) hx hb hts inFo hown hK hP 0 rfl rfl 0 (by decide) (hts _ in_7) (fun _ h9 => h9) rfl dFo_oldestSnapshot_5 ?_
  refine lv_isub hx hb dFo_oldestSnapshot_8 ?_
  exact W.iret (v := (fi 1) - (fi 0)) hx hb hr (fun t ht hW => ⟨(fi 1) - (fi 0), rfl, rfl, ht⟩) (fun q h => by cases h) dFo_oldestSnapshot_9
set_option maxHeartbeats 4000000 in
set_option maxRecDepth 100000 in
/-- keysAfter(x) -/
theorem k_F_keysAfter (l : Launch) (dC : Nat → ClassId) (dI : Nat → Nat → Nat) (f f1 f2 f3 f4 : Nat) (cI : ClassId) (fi : Nat → Int32) (fa : Nat → Nat → Int32) (x : Int32) : Met l yFo_keysAfter wsFo_keysAfter ({ frames := 1, cells := 0, slots := 0, locals := 40 }) (va_Pc [.ref f, .int x] (fun U => va_P (dC, dI) vwCl (wF f f1 f2 f3 f4 cI fi fa) U.heap ∧ va_K (dC, dI) vwCl [(cI, .int)] U)) (vp_Si (fun r => r = s_ky (fa 1) (s_max x 0) 16)) 0 0 (fun _ => False) := by
  refine Met.ofW (cc := cFo_keysAfter) (maxL := 5) (ret := (some .int)) (by decide) rfl ?_
  intro p e s m args below meth c s₁ B hml hv
  obtain ⟨rfl, hP, hK⟩ := hv
  have hx := B.exec
  have hb := B.bytes
  have hr := B.returns
  have hts0 := atoms_spec (ws := wsFo_keysAfter) B.pre
  have hts := fun (w : Cond) (h : w ∈ lw_g) => hts0 w (List.mem_cons_of_mem _ h)
  have hown : s.vm.findClass RFo = some m.cls := findClass_of_methodNamed B.named
  have hlocks := B.notSynchronized
  have hl := lv_entry ([.ref f, .int x]) (n := 5) (Nat.le_of_ble_eq_true rfl)
  rw [lg_entry_eq]
  generalize (lg_sl ([.ref f, .int x]) ++ List.replicate (5 - (lg_sl ([.ref f, .int x])).length) Slot.unset).toArray = ls at hl ⊢
  have hl : lv_has ls 5 [(0, .ref f), (1, .int x)] := hl
  refine lv_iload_n hx hb dFo_keysAfter_0 rfl (lv_at hl 1 rfl) ?_
  refine lv_iconst (v := 0) hx hb dFo_keysAfter_1 (by decide) ?_
  refine va_mmax hx hb (hml.trans hl.1.symm) hown (hts _ in_8) (hts _ in_9) (hts _ in_10) (hts _ in_11) (Nat.le_of_ble_eq_true rfl) (Nat.le_of_ble_eq_true rfl) (Nat.le_of_ble_eq_true rfl) (Nat.le_of_ble_eq_true rfl) dFo_keysAfter_2 ?_
  refine lv_ri (y := s_max x 0) rfl ?_
  refine lv_istore_n (lv' := [(2, .int (s_max x 0)), (0, .ref f), (1, .int x)]) hx hb dFo_keysAfter_5 rfl hl (by decide) rfl (fun ls hl => ?_)
  refine lv_iconst (v := 0) hx hb dFo_keysAfter_6 (by decide) ?_
  refine lv_istore_n (lv' := [(3, .int 0), (2, .int (s_max x 0)), (0, .ref f), (1, .int x)]) hx hb dFo_keysAfter_7 rfl hl (by decide) rfl (fun ls hl => ?_)
  refine lv_iconst (v := 0) hx hb dFo_keysAfter_8 (by decide) ?_
  refine lv_istore (lv' := [(4, .int 0), (3, .int 0), (2, .int (s_max x 0)), (0, .ref f), (1, .int x)]) hx hb dFo_keysAfter_9 hl (by decide) rfl (fun ls hl => ?_)
  refine wl_ro (σ := Nat × Array Slot) (fun z9 => F0 m 11 z9.2 []) (fun z9 => z9.1 ≤ 16 ∧ lv_has z9.2 5 [(4, .int (nI z9.1)), (3, .int (s_ky (fa 1) (s_max x 0) z9.1)), (2, .int (s_max x 0)), (0, .ref f), (1, .int x)]) (fun z9 => 16 - z9.1) ?_ (0, ls) ⟨by omega, lv_sub hl [0, 1, 2, 3, 4] rfl⟩
  rintro ⟨k, ls⟩ ⟨hk, hl⟩ ih
  have hk : k ≤ 16 := hk
  have hl : lv_has ls 5 [(4, .int (nI k)), (3, .int (s_ky (fa 1) (s_max x 0) k)), (2, .int (s_max x 0)), (0, .ref f), (1, .int x)] := hl
  show W p l e _ s m _ below meth c _ _ _ _ _ (F0 m 11 ls [])
  refine lv_iload hx hb dFo_keysAfter_11 (lv_at hl 0 rfl) ?_
  refine lv_bipush (v := nI 16) hx hb dFo_keysAfter_13 (by decide) ?_
  refine lv_icmp_ge (tgt := 42) hx hb dFo_keysAfter_15 (by decide) (fun c_1 => ?_) (fun c_1 => ?_)
  · skip
    have hk9 : k = 16 := lp_x (by decide) hk c_1
    subst hk9
    refine lv_iload_n hx hb dFo_keysAfter_42 rfl (lv_at hl 1 rfl) ?_
    exact W.iret (v := s_ky (fa 1) (s_max x 0) 16) hx hb hr (fun t ht hW => ⟨s_ky (fa 1) (s_max x 0) 16, rfl, rfl, ht⟩) (fun q h => by cases h) dFo_keysAfter_43
  · skip
    have hk : k < 16 := lp_c (by decide) hk c_1
    refine lv_aload_n hx hb dFo_keysAfter_18 rfl (lv_at hl 3 rfl) ?_
    refine va_get (D := (dC, dI)) (ci := 0) (v := .ref f2) (C := RFo) (T := TFo) (N := 10) hx hb hts inFo hown hK hP 0 rfl rfl 7 (by decide) (hts _ in_12) (fun _ h9 => h9) rfl dFo_keysAfter_19 ?_
    refine lv_iload hx hb dFo_keysAfter_22 (lv_at hl 0 rfl) ?_
    refine vq_iald (k := k) (f := fa 1) hx hb hK hP 2 0 rfl rfl rfl (by omega) (by decide) dFo_keysAfter_24 ?_
    refine lv_iload_n hx hb dFo_keysAfter_25 rfl (lv_at hl 2 rfl) ?_
    refine lv_icmp_le (tgt := 36) hx hb dFo_keysAfter_26 (by decide) (fun c_2 => ?_) (fun c_2 => ?_)
    · skip
      refine lv_iinc (v := nI (k + 1)) (lv' := [(4, .int (nI (k + 1))), (3, .int (s_ky (fa 1) (s_max x 0) k)), (2, .int (s_max x 0)), (0, .ref f), (1, .int x)]) hx hb dFo_keysAfter_36 hl (k := 0) rfl (by first | exact nI_1 _ | (show _ + (1 : Int32) = _; exact nI_1 _)) (by decide) rfl (fun ls hl => ?_)
      refine lv_goto (tgt := 11) hx hb dFo_keysAfter_39 (by decide) ?_
      have hl9 : lv_has ls 5 [(4, .int (nI (k + 1))), (3, .int (s_ky (fa 1) (s_max x 0) (k + 1))), (2, .int (s_max x 0)), (0, .ref f), (1, .int x)] := by first | exact lv_sub hl [0, 1, 2, 3, 4] rfl | (simp only [s_ky, if_pos c_2]; exact lv_sub hl [0, 1, 2, 3, 4] rfl)
      exact ih (k + 1, ls) ⟨hk, hl9⟩ (by show 16 - (k + 1) < 16 - k; omega)
    · skip
      refine lv_iload_n hx hb dFo_keysAfter_29 rfl (lv_at hl 1 rfl) ?_
      refine lv_iconst (v := 1) hx hb dFo_keysAfter_30 (by decide) ?_
      refine lv_iload hx hb dFo_keysAfter_31 (lv_at hl 0 rfl) ?_
      refine lv_ishl hx hb dFo_keysAfter_33 ?_
      refine lv_ior hx hb dFo_keysAfter_34 ?_
      refine lv_istore_n (lv' := [(3, .int ((s_ky (fa 1) (s_max x 0) k) ||| ((1 : Int32) <<< ((nI k) &&& 31)))), (4, .int (nI k)), (2, .int (s_max x 0)), (0, .ref f), (1, .int x)]) hx hb dFo_keysAfter_35 rfl hl (by decide) rfl (fun ls hl => ?_)
      refine lv_iinc (v := nI (k + 1)) (lv' := [(4, .int (nI (k + 1))), (3, .int ((s_ky (fa 1) (s_max x 0) k) ||| ((1 : Int32) <<< ((nI k) &&& 31)))), (2, .int (s_max x 0)), (0, .ref f), (1, .int x)]) hx hb dFo_keysAfter_36 hl (k := 1) rfl (by first | exact nI_1 _ | (show _ + (1 : Int32) = _; exact nI_1 _)) (by decide) rfl (fun ls hl => ?_)
      refine lv_goto (tgt := 11) hx hb dFo_keysAfter_39 (by decide) ?_
      have hl9 : lv_has ls 5 [(4, .int (nI (k + 1))), (3, .int (s_ky (fa 1) (s_max x 0) (k + 1))), (2, .int (s_max x 0)), (0, .ref f), (1, .int x)] := by first | exact lv_sub hl [0, 1, 2, 3, 4] rfl | (simp only [s_ky, if_neg c_2]; exact lv_sub hl [0, 1, 2, 3, 4] rfl)
      exact ih (k + 1, ls) ⟨hk, hl9⟩ (by show 16 - (k + 1) < 16 - k; omega)
set_option maxHeartbeats 4000000 in
set_option maxRecDepth 100000 in
/-- keptWrite(k) -/
theorem k_F_keptWrite (l : Launch) (dC : Nat → ClassId) (dI : Nat → Nat → Nat) (f f1 f2 f3 f4 : Nat) (cI : ClassId) (fi : Nat → Int32) (fa : Nat → Nat → Int32) (k : Nat) (hk : k < 16) : Met l yFo_keptWrite wsFo_keptWrite ({ frames := 1, cells := 0, slots := 0, locals := 40 }) (va_Pc [.ref f, .int (nI k)] (fun U => va_P (dC, dI) vwCl (wF f f1 f2 f3 f4 cI fi fa) U.heap ∧ va_K (dC, dI) vwCl [(cI, .int)] U)) (vp_Si (fun r => r = s_kw fi (fa 1) k)) 0 0 (fun _ => False) := by
  refine Met.ofW (cc := cFo_keptWrite) (maxL := 3) (ret := (some .int)) (by decide) rfl ?_
  intro p e s m args below meth c s₁ B hml hv
  obtain ⟨rfl, hP, hK⟩ := hv
  have hx := B.exec
  have hb := B.bytes
  have hr := B.returns
  have hts0 := atoms_spec (ws := wsFo_keptWrite) B.pre
  have hts := fun (w : Cond) (h : w ∈ lw_g) => hts0 w (List.mem_cons_of_mem _ h)
  have hown : s.vm.findClass RFo = some m.cls := findClass_of_methodNamed B.named
  have hlocks := B.notSynchronized
  have hl := lv_entry ([.ref f, .int (nI k)]) (n := 3) (Nat.le_of_ble_eq_true rfl)
  rw [lg_entry_eq]
  generalize (lg_sl ([.ref f, .int (nI k)]) ++ List.replicate (3 - (lg_sl ([.ref f, .int (nI k)])).length) Slot.unset).toArray = ls at hl ⊢
  have hl : lv_has ls 3 [(0, .ref f), (1, .int (nI k))] := hl
  refine lv_aload_n hx hb dFo_keptWrite_0 rfl (lv_at hl 0 rfl) ?_
  refine va_get (D := (dC, dI)) (ci := 0) (v := .ref f2) (C := RFo) (T := TFo) (N := 10) hx hb hts inFo hown hK hP 0 rfl rfl 7 (by decide) (hts _ in_12) (fun _ h9 => h9) rfl dFo_keptWrite_1 ?_
  refine lv_iload_n hx hb dFo_keptWrite_4 rfl (lv_at hl 1 rfl) ?_
  refine vq_iald (k := k) (f := fa 1) hx hb hK hP 2 0 rfl rfl rfl hk (by decide) dFo_keptWrite_5 ?_
  refine lv_istore_n (lv' := [(2, .int ((fa 1) k)), (0, .ref f), (1, .int (nI k))]) hx hb dFo_keptWrite_6 rfl hl (by decide) rfl (fun ls hl => ?_)
  refine lv_iload_n hx hb dFo_keptWrite_7 rfl (lv_at hl 0 rfl) ?_
  refine lv_if_le (tgt := 23) hx hb dFo_keptWrite_8 (by decide) (fun c_1 => ?_) (fun c_1 => ?_)
  · skip
    refine lv_iconst (v := (-1)) hx hb dFo_keptWrite_23 (by decide) ?_
    exact W.iret (v := (-1)) hx hb hr (fun t ht hW => ⟨(-1), rfl, by simp only [s_kw, if_pos c_1], ht⟩) (fun q h => by cases h) dFo_keptWrite_24
  · skip
    refine lv_iload_n hx hb dFo_keptWrite_11 rfl (lv_at hl 0 rfl) ?_
    refine lv_aload_n hx hb dFo_keptWrite_12 rfl (lv_at hl 1 rfl) ?_
    refine va_get (D := (dC, dI)) (ci := 0) (v := .int (fi 2)) (C := RFo) (T := TFo) (N := 10) hx hb hts inFo hown hK hP 0 rfl rfl 2 (by decide) (hts _ in_13) (fun _ h9 => h9) rfl dFo_keptWrite_13 ?_
    refine lv_icmp_lt (tgt := 23) hx hb dFo_keptWrite_16 (by decide) (fun c_2 => ?_) (fun c_2 => ?_)
    · skip
      refine lv_iconst (v := (-1)) hx hb dFo_keptWrite_23 (by decide) ?_
      exact W.iret (v := (-1)) hx hb hr (fun t ht hW => ⟨(-1), rfl, by simp only [s_kw, if_neg c_1, if_pos c_2], ht⟩) (fun q h => by cases h) dFo_keptWrite_24
    · skip
      refine lv_iload_n hx hb dFo_keptWrite_19 rfl (lv_at hl 0 rfl) ?_
      refine lv_goto (tgt := 24) hx hb dFo_keptWrite_20 (by decide) ?_
      exact W.iret (v := (fa 1) k) hx hb hr (fun t ht hW => ⟨(fa 1) k, rfl, by simp only [s_kw, if_neg c_1, if_neg c_2], ht⟩) (fun q h => by cases h) dFo_keptWrite_24
set_option maxHeartbeats 4000000 in
set_option maxRecDepth 100000 in
/-- valueAt(k, n) -/
theorem k_F_valueAt (l : Launch) (dC : Nat → ClassId) (dI : Nat → Nat → Nat) (f f1 f2 f3 f4 : Nat) (cI : ClassId) (fi : Nat → Int32) (fa : Nat → Nat → Int32) (k n : Nat) (hk : k < 16) (hn : n < 2 ^ 31) : Met l yFo_valueAt wsFo_valueAt ({ frames := 2, cells := 0, slots := 0, locals := 80 }) (va_Pc [.ref f, .int (nI k), .int (nI n)] (fun U => va_P (dC, dI) vwCl (wF f f1 f2 f3 f4 cI fi fa) U.heap ∧ va_K (dC, dI) vwCl [(cI, .int)] U)) (vp_Si (fun r => r = fa 0 (n % 17 * 16 + k))) 0 0 (fun _ => False) := by
  refine Met.ofW (cc := cFo_valueAt) (maxL := 3) (ret := (some .int)) (by decide) rfl ?_
  intro p e s m args below meth c s₁ B hml hv
  obtain ⟨rfl, hP, hK⟩ := hv
  have hx := B.exec
  have hb := B.bytes
  have hr := B.returns
  have hts0 := atoms_spec (ws := wsFo_valueAt) B.pre
  have hts := fun (w : Cond) (h : w ∈ lw_g) => hts0 w (List.mem_cons_of_mem _ h)
  have hown : s.vm.findClass RFo = some m.cls := findClass_of_methodNamed B.named
  have hlocks := B.notSynchronized
  have hl := lv_entry ([.ref f, .int (nI k), .int (nI n)]) (n := 3) (Nat.le_of_ble_eq_true rfl)
  rw [lg_entry_eq]
  generalize (lg_sl ([.ref f, .int (nI k), .int (nI n)]) ++ List.replicate (3 - (lg_sl ([.ref f, .int (nI k), .int (nI n)])).length) Slot.unset).toArray = ls at hl ⊢
  have hl : lv_has ls 3 [(0, .ref f), (1, .int (nI k)), (2, .int (nI n))] := hl
  refine lv_aload_n hx hb dFo_valueAt_0 rfl (lv_at hl 0 rfl) ?_
  refine va_get (D := (dC, dI)) (ci := 0) (v := .ref f1) (C := RFo) (T := TFo) (N := 10) hx hb hts inFo hown hK hP 0 rfl rfl 6 (by decide) (hts _ in_14) (fun _ h9 => h9) rfl dFo_valueAt_1 ?_
  refine lv_iload_n hx hb dFo_valueAt_4 rfl (lv_at hl 2 rfl) ?_
  refine vp_callSi (W.runS (As := [.int (nI n)]) (rest := [.ref f1]) ⟨hx, hb, hml, hown, hts⟩ (k_F_rowStart l n (by omega)) (va_cwS 1 hts (gd_S in_15 in_18 in_17 in_16) rfl rfl rfl (by decide +kernel) ⟨Nat.le_of_ble_eq_true rfl, Nat.le_of_ble_eq_true rfl⟩) ⟨fun a U g mk q => q, fun U hU hW => ⟨rfl, trivial⟩⟩ rfl rfl hl.1 rfl (lv_room (Nat.le_of_ble_eq_true rfl)) dFo_valueAt_5 ⟨Nat.le_of_ble_eq_true rfl, Nat.le_of_ble_eq_true rfl⟩) (fun r_1 er_2 => ?_)
  subst er_2
  refine lv_iload_n hx hb dFo_valueAt_8 rfl (lv_at hl 1 rfl) ?_
  refine lv_iadd hx hb dFo_valueAt_9 ?_
  refine lv_ri (y := nI ((n % 17 * 16) + k)) (nI_add _ _) ?_
  refine vq_iald (k := ((n % 17 * 16) + k)) (f := fa 0) hx hb hK hP 1 0 rfl rfl rfl (by omega) (by decide) dFo_valueAt_10 ?_
  exact W.iret (v := (fa 0) ((n % 17 * 16) + k)) hx hb hr (fun t ht hW => ⟨(fa 0) ((n % 17 * 16) + k), rfl, rfl, ht⟩) (fun q h => by cases h) dFo_valueAt_11
set_option maxHeartbeats 4000000 in
set_option maxRecDepth 100000 in
/-- sumOfValues() -/
theorem k_F_sum (l : Launch) (dC : Nat → ClassId) (dI : Nat → Nat → Nat) (f f1 f2 f3 f4 : Nat) (cI : ClassId) (fi : Nat → Int32) (fa : Nat → Nat → Int32) (n : Nat) (hn : n < 2 ^ 31) (hix : fi 1 = nI n) : Met l yFo_sumOfValues wsFo_sumOfValues ({ frames := 3, cells := 0, slots := 0, locals := 120 }) (va_Pc [.ref f] (fun U => va_P (dC, dI) vwCl (wF f f1 f2 f3 f4 cI fi fa) U.heap ∧ va_K (dC, dI) vwCl [(cI, .int)] U)) (vp_Si (fun r => r = s_sum (fa 0) (n % 17 * 16) 16)) 0 0 (fun _ => False) := by
  refine Met.ofW (cc := cFo_sumOfValues) (maxL := 3) (ret := (some .int)) (by decide) rfl ?_
  intro p e s m args below meth c s₁ B hml hv
  obtain ⟨rfl, hP, hK⟩ := hv
  have hx := B.exec
  have hb := B.bytes
  have hr := B.returns
  have hts0 := atoms_spec (ws := wsFo_sumOfValues) B.pre
  have hts := fun (w : Cond) (h : w ∈ lw_g) => hts0 w (List.mem_cons_of_mem _ h)
  have hown : s.vm.findClass RFo = some m.cls := findClass_of_methodNamed B.named
  have hlocks := B.notSynchronized
  have hl := lv_entry ([.ref f]) (n := 3) (Nat.le_of_ble_eq_true rfl)
  rw [lg_entry_eq]
  generalize (lg_sl ([.ref f]) ++ List.replicate (3 - (lg_sl ([.ref f])).length) Slot.unset).toArray = ls at hl ⊢
  have hl : lv_has ls 3 [(0, .ref f)] := hl
  refine lv_iconst (v := 0) hx hb dFo_sumOfValues_0 (by decide) ?_
  refine lv_istore_n (lv' := [(1, .int 0), (0, .ref f)]) hx hb dFo_sumOfValues_1 rfl hl (by decide) rfl (fun ls hl => ?_)
  refine lv_iconst (v := 0) hx hb dFo_sumOfValues_2 (by decide) ?_
  refine lv_istore_n (lv' := [(2, .int 0), (1, .int 0), (0, .ref f)]) hx hb dFo_sumOfValues_3 rfl hl (by decide) rfl (fun ls hl => ?_)
  refine wl_ro (σ := Nat × Array Slot) (fun z9 => F0 m 4 z9.2 []) (fun z9 => z9.1 ≤ 16 ∧ lv_has z9.2 3 [(2, .int (nI z9.1)), (1, .int (s_sum (fa 0) (n % 17 * 16) z9.1)), (0, .ref f)]) (fun z9 => 16 - z9.1) ?_ (0, ls) ⟨by omega, lv_sub hl [0, 1, 2] rfl⟩
  rintro ⟨k, ls⟩ ⟨hk, hl⟩ ih
  have hk : k ≤ 16 := hk
  have hl : lv_has ls 3 [(2, .int (nI k)), (1, .int (s_sum (fa 0) (n % 17 * 16) k)), (0, .ref f)] := hl
  show W p l e _ s m _ below meth c _ _ _ _ _ (F0 m 4 ls [])
  refine lv_iload_n hx hb dFo_sumOfValues_4 rfl (lv_at hl 0 rfl) ?_
  refine lv_bipush (v := nI 16) hx hb dFo_sumOfValues_5 (by decide) ?_
  refine lv_icmp_ge (tgt := 28) hx hb dFo_sumOfValues_7 (by decide) (fun c_1 => ?_) (fun c_1 => ?_)
  · skip
    have hk9 : k = 16 := lp_x (by decide) hk c_1
    subst hk9
    refine lv_iload_n hx hb dFo_sumOfValues_28 rfl (lv_at hl 1 rfl) ?_
    exact W.iret (v := s_sum (fa 0) (n % 17 * 16) 16) hx hb hr (fun t ht hW => ⟨s_sum (fa 0) (n % 17 * 16) 16, rfl, rfl, ht⟩) (fun q h => by cases h) dFo_sumOfValues_29
  · skip
    have hk : k < 16 := lp_c (by decide) hk c_1
    refine lv_iload_n hx hb dFo_sumOfValues_10 rfl (lv_at hl 1 rfl) ?_
    refine lv_aload_n hx hb dFo_sumOfValues_11 rfl (lv_at hl 2 rfl) ?_
    refine lv_iload_n hx hb dFo_sumOfValues_12 rfl (lv_at hl 0 rfl) ?_
    refine lv_aload_n hx hb dFo_sumOfValues_13 rfl (lv_at hl 2 rfl) ?_
    refine va_get (D := (dC, dI)) (ci := 0) (v := .int (fi 1)) (C := RFo) (T := TFo) (N := 10) hx hb hts inFo hown hK hP 0 rfl rfl 1 (by decide) (hts _ in_6) (fun _ h9 => h9) rfl dFo_sumOfValues_14 ?_
    refine lv_ri (y := nI n) hix ?_
    have hPc := hP.sub (ws' := (wF f f1 f2 f3 f4 cI fi fa)) [0, 1, 2, 3, 4] rfl
    have hKc := hK.sub (tys' := [(cI, .int)]) [0] rfl
    refine vp_callSi (W.runV (As := [.int (nI k), .int (nI n)]) (rest := [.int (s_sum (fa 0) (n % 17 * 16) k)]) ⟨hx, hb, hml, hown, hts⟩ (k_F_valueAt l dC dI f f1 f2 f3 f4 cI fi fa k n (by omega) hn) (cwV 2 hts (gd_V in_19 in_21 in_22 in_17 in_20) rfl rfl rfl (by decide +kernel) ⟨Nat.le_of_ble_eq_true rfl, Nat.le_of_ble_eq_true rfl⟩) ⟨fun a U g mk q => by obtain ⟨q0, qP, qK⟩ := q; exact ⟨q0, qP, va_K.moved (u := U) (U := U.calling g mk a) (Vm.Alike.refl U.vm) qK⟩, va_recv hKc hPc (ci := 0) (q0 := 0) rfl rfl, fun U hU hW => ⟨rfl, by rw [hU]; exact hPc, va_K.moved hW.alike hKc⟩⟩ rfl rfl hl.1 rfl (lv_room (Nat.le_of_ble_eq_true rfl)) dFo_sumOfValues_17 ⟨Nat.le_of_ble_eq_true rfl, Nat.le_of_ble_eq_true rfl⟩) (fun r_2 er_3 => ?_)
    subst er_3
    refine lv_iadd hx hb dFo_sumOfValues_20 ?_
    refine lv_istore_n (lv' := [(1, .int ((s_sum (fa 0) (n % 17 * 16) k) + (fa 0 (n % 17 * 16 + k)))), (2, .int (nI k)), (0, .ref f)]) hx hb dFo_sumOfValues_21 rfl hl (by decide) rfl (fun ls hl => ?_)
    refine lv_iinc (v := nI (k + 1)) (lv' := [(2, .int (nI (k + 1))), (1, .int ((s_sum (fa 0) (n % 17 * 16) k) + (fa 0 (n % 17 * 16 + k)))), (0, .ref f)]) hx hb dFo_sumOfValues_22 hl (k := 1) rfl (by first | exact nI_1 _ | (show _ + (1 : Int32) = _; exact nI_1 _)) (by decide) rfl (fun ls hl => ?_)
    refine lv_goto (tgt := 4) hx hb dFo_sumOfValues_25 (by decide) ?_
    have hl9 : lv_has ls 3 [(2, .int (nI (k + 1))), (1, .int (s_sum (fa 0) (n % 17 * 16) (k + 1))), (0, .ref f)] := by first | exact lv_sub hl [0, 1, 2] rfl | (simp only [s_sum]; exact lv_sub hl [0, 1, 2] rfl)
    exact ih (k + 1, ls) ⟨hk, hl9⟩ (by show 16 - (k + 1) < 16 - k; omega)
set_option maxHeartbeats 4000000 in
set_option maxRecDepth 100000 in
/-- decide(request) -/
theorem k_F_decide (l : Launch) (dC : Nat → ClassId) (dI : Nat → Nat → Nat) (f f1 f2 f3 f4 : Nat) (cI : ClassId) (fi : Nat → Int32) (fa : Nat → Nat → Int32) (r ra : Nat) (ri rv : Nat → Int32) (se : Nat) (hse : ri 0 = nI se) (hs16 : se < 16) : Met l yFo_decide wsFo_decide ({ frames := 2, cells := 0, slots := 0, locals := 80 }) (va_Pc [.ref f, .ref r] (fun U => va_P (dC, dI) vwCl (wF f f1 f2 f3 f4 cI fi fa ++ wR r ra cI ri rv) U.heap ∧ va_K (dC, dI) vwCl [(cI, .int)] U)) (vp_Si (fun r => r = s_dec fi fa ri se)) 0 0 (fun _ => False) := by
  refine Met.ofW (cc := cFo_decide) (maxL := 3) (ret := (some .int)) (by decide) rfl ?_
  intro p e s m args below meth c s₁ B hml hv
  obtain ⟨rfl, hP, hK⟩ := hv
  have hx := B.exec
  have hb := B.bytes
  have hr := B.returns
  have hts0 := atoms_spec (ws := wsFo_decide) B.pre
  have hts := fun (w : Cond) (h : w ∈ lw_g) => hts0 w (List.mem_cons_of_mem _ h)
  have hown : s.vm.findClass RFo = some m.cls := findClass_of_methodNamed B.named
  have hlocks := B.notSynchronized
  have hl := lv_entry ([.ref f, .ref r]) (n := 3) (Nat.le_of_ble_eq_true rfl)
  rw [lg_entry_eq]
  generalize (lg_sl ([.ref f, .ref r]) ++ List.replicate (3 - (lg_sl ([.ref f, .ref r])).length) Slot.unset).toArray = ls at hl ⊢
  have hl : lv_has ls 3 [(0, .ref f), (1, .ref r)] := hl
  refine lv_aload_n hx hb dFo_decide_0 rfl (lv_at hl 0 rfl) ?_
  refine va_get (D := (dC, dI)) (ci := 0) (v := .int (fi 1)) (C := RFo) (T := TFo) (N := 10) hx hb hts inFo hown hK hP 0 rfl rfl 1 (by decide) (hts _ in_6) (fun _ h9 => h9) rfl dFo_decide_1 ?_
  refine lv_ldc (v := nI 1000000) hx hb hown (hts _ in_23) dFo_decide_4 ?_
  refine lv_icmp_ge (tgt := 20) hx hb dFo_decide_6 (by decide) (fun c_1 => ?_) (fun c_1 => ?_)
  · skip
    refine lv_iconst (v := (-1)) hx hb dFo_decide_20 (by decide) ?_
    exact W.iret (v := (-1)) hx hb hr (fun t ht hW => ⟨(-1), rfl, by simp only [s_dec, if_pos c_1], ht⟩) (fun q h => by cases h) dFo_decide_21
  · skip
    refine lv_aload_n hx hb dFo_decide_9 rfl (lv_at hl 1 rfl) ?_
    refine va_get (D := (dC, dI)) (ci := 1) (v := .int (ri 2)) (C := RRq) (T := TRq) (N := 6) hx hb hts inRq hown hK hP 5 rfl rfl 2 (by decide) (hts _ in_24) (fun _ h9 => h9) rfl dFo_decide_10 ?_
    refine lv_aload_n hx hb dFo_decide_13 rfl (lv_at hl 0 rfl) ?_
    refine va_get (D := (dC, dI)) (ci := 0) (v := .int (fi 1)) (C := RFo) (T := TFo) (N := 10) hx hb hts inFo hown hK hP 0 rfl rfl 1 (by decide) (hts _ in_6) (fun _ h9 => h9) rfl dFo_decide_14 ?_
    refine lv_icmp_le (tgt := 22) hx hb dFo_decide_17 (by decide) (fun c_2 => ?_) (fun c_2 => ?_)
    · skip
      refine lv_aload_n hx hb dFo_decide_22 rfl (lv_at hl 1 rfl) ?_
      refine va_get (D := (dC, dI)) (ci := 1) (v := .int (ri 1)) (C := RRq) (T := TRq) (N := 6) hx hb hts inRq hown hK hP 5 rfl rfl 1 (by decide) (hts _ in_25) (fun _ h9 => h9) rfl dFo_decide_23 ?_
      refine lv_aload_n hx hb dFo_decide_26 rfl (lv_at hl 0 rfl) ?_
      refine va_get (D := (dC, dI)) (ci := 0) (v := .ref f3) (C := RFo) (T := TFo) (N := 10) hx hb hts inFo hown hK hP 0 rfl rfl 8 (by decide) (hts _ in_26) (fun _ h9 => h9) rfl dFo_decide_27 ?_
      refine lv_aload_n hx hb dFo_decide_30 rfl (lv_at hl 1 rfl) ?_
      refine va_get (D := (dC, dI)) (ci := 1) (v := .int (ri 0)) (C := RRq) (T := TRq) (N := 6) hx hb hts inRq hown hK hP 5 rfl rfl 0 (by decide) (hts _ in_27) (fun _ h9 => h9) rfl dFo_decide_31 ?_
      refine vq_iald (k := se) (f := fa 2) hx hb hK hP 3 0 rfl rfl hse hs16 (by decide) dFo_decide_34 ?_
      refine lv_icmp_gt (tgt := 40) hx hb dFo_decide_35 (by decide) (fun c_3 => ?_) (fun c_3 => ?_)
      · skip
        refine lv_aload_n hx hb dFo_decide_40 rfl (lv_at hl 1 rfl) ?_
        refine va_get (D := (dC, dI)) (ci := 1) (v := .int (ri 2)) (C := RRq) (T := TRq) (N := 6) hx hb hts inRq hown hK hP 5 rfl rfl 2 (by decide) (hts _ in_24) (fun _ h9 => h9) rfl dFo_decide_41 ?_
        refine lv_aload_n hx hb dFo_decide_44 rfl (lv_at hl 0 rfl) ?_
        have hPc := hP.sub (ws' := (wF f f1 f2 f3 f4 cI fi fa)) [0, 1, 2, 3, 4] rfl
        have hKc := hK.sub (tys' := [(cI, .int)]) [0] rfl
        refine vp_callSi (W.runV (As := []) (rest := [.int (ri 2)]) ⟨hx, hb, hml, hown, hts⟩ (k_F_oldest l dC dI f f1 f2 f3 f4 cI fi fa) (cwV 0 hts (gd_V in_28 in_30 in_31 in_17 in_29) rfl rfl rfl (by decide +kernel) ⟨Nat.le_of_ble_eq_true rfl, Nat.le_of_ble_eq_true rfl⟩) ⟨fun a U g mk q => by obtain ⟨q0, qP, qK⟩ := q; exact ⟨q0, qP, va_K.moved (u := U) (U := U.calling g mk a) (Vm.Alike.refl U.vm) qK⟩, va_recv hKc hPc (ci := 0) (q0 := 0) rfl rfl, fun U hU hW => ⟨rfl, by rw [hU]; exact hPc, va_K.moved hW.alike hKc⟩⟩ rfl rfl hl.1 rfl (lv_room (Nat.le_of_ble_eq_true rfl)) dFo_decide_45 ⟨Nat.le_of_ble_eq_true rfl, Nat.le_of_ble_eq_true rfl⟩) (fun r_4 er_5 => ?_)
        subst er_5
        refine lv_icmp_ge (tgt := 53) hx hb dFo_decide_48 (by decide) (fun c_6 => ?_) (fun c_6 => ?_)
        · skip
          refine lv_aload_n hx hb dFo_decide_53 rfl (lv_at hl 1 rfl) ?_
          refine va_get (D := (dC, dI)) (ci := 1) (v := .int (ri 3)) (C := RRq) (T := TRq) (N := 6) hx hb hts inRq hown hK hP 5 rfl rfl 3 (by decide) (hts _ in_32) (fun _ h9 => h9) rfl dFo_decide_54 ?_
          refine lv_aload_n hx hb dFo_decide_57 rfl (lv_at hl 0 rfl) ?_
          refine lv_aload_n hx hb dFo_decide_58 rfl (lv_at hl 1 rfl) ?_
          refine va_get (D := (dC, dI)) (ci := 1) (v := .int (ri 2)) (C := RRq) (T := TRq) (N := 6) hx hb hts inRq hown hK hP 5 rfl rfl 2 (by decide) (hts _ in_24) (fun _ h9 => h9) rfl dFo_decide_59 ?_
          have hPc := hP.sub (ws' := (wF f f1 f2 f3 f4 cI fi fa)) [0, 1, 2, 3, 4] rfl
          have hKc := hK.sub (tys' := [(cI, .int)]) [0] rfl
          refine vp_callSi (W.runV (As := [.int (ri 2)]) (rest := [.int (ri 3)]) ⟨hx, hb, hml, hown, hts⟩ (k_F_keysAfter l dC dI f f1 f2 f3 f4 cI fi fa (ri 2)) (cwV 1 hts (gd_V in_33 in_35 in_36 in_17 in_34) rfl rfl rfl (by decide +kernel) ⟨Nat.le_of_ble_eq_true rfl, Nat.le_of_ble_eq_true rfl⟩) ⟨fun a U g mk q => by obtain ⟨q0, qP, qK⟩ := q; exact ⟨q0, qP, va_K.moved (u := U) (U := U.calling g mk a) (Vm.Alike.refl U.vm) qK⟩, va_recv hKc hPc (ci := 0) (q0 := 0) rfl rfl, fun U hU hW => ⟨rfl, by rw [hU]; exact hPc, va_K.moved hW.alike hKc⟩⟩ rfl rfl hl.1 rfl (lv_room (Nat.le_of_ble_eq_true rfl)) dFo_decide_62 ⟨Nat.le_of_ble_eq_true rfl, Nat.le_of_ble_eq_true rfl⟩) (fun r_7 er_8 => ?_)
          subst er_8
          refine lv_iand hx hb dFo_decide_65 ?_
          refine lv_if_eq (tgt := 73) hx hb dFo_decide_66 (by decide) (fun c_9 => ?_) (fun c_9 => ?_)
          · skip
            refine lv_iconst (v := 0) hx hb dFo_decide_73 (by decide) ?_
            refine lv_istore_n (lv' := [(2, .int 0), (0, .ref f), (1, .ref r)]) hx hb dFo_decide_74 rfl hl (by decide) rfl (fun ls hl => ?_)
            refine lv_iload_n hx hb dFo_decide_75 rfl (lv_at hl 0 rfl) ?_
            refine lv_if_eq (tgt := 83) hx hb dFo_decide_76 (by decide) (fun _ => ?_) (fun c_10 => absurd c_10 (by decide))
            refine lv_iconst (v := 1) hx hb dFo_decide_83 (by decide) ?_
            exact W.iret (v := 1) hx hb hr (fun t ht hW => ⟨1, rfl, by simp only [s_dec, if_neg c_1, if_pos c_2, if_pos c_3, if_pos c_6, if_pos c_9], ht⟩) (fun q h => by cases h) dFo_decide_84
          · skip
            refine lv_iconst (v := 1) hx hb dFo_decide_69 (by decide) ?_
            refine lv_goto (tgt := 74) hx hb dFo_decide_70 (by decide) ?_
            refine lv_istore_n (lv' := [(2, .int 1), (0, .ref f), (1, .ref r)]) hx hb dFo_decide_74 rfl hl (by decide) rfl (fun ls hl => ?_)
            refine lv_iload_n hx hb dFo_decide_75 rfl (lv_at hl 0 rfl) ?_
            refine lv_if_eq (tgt := 83) hx hb dFo_decide_76 (by decide) (fun c_11 => absurd c_11 (by decide)) (fun _ => ?_)
            refine lv_iconst (v := 2) hx hb dFo_decide_79 (by decide) ?_
            refine lv_goto (tgt := 84) hx hb dFo_decide_80 (by decide) ?_
            exact W.iret (v := 2) hx hb hr (fun t ht hW => ⟨2, rfl, by simp only [s_dec, if_neg c_1, if_pos c_2, if_pos c_3, if_pos c_6, if_neg c_9], ht⟩) (fun q h => by cases h) dFo_decide_84
        · skip
          refine lv_iconst (v := 2) hx hb dFo_decide_51 (by decide) ?_
          exact W.iret (v := 2) hx hb hr (fun t ht hW => ⟨2, rfl, by simp only [s_dec, if_neg c_1, if_pos c_2, if_pos c_3, if_neg c_6], ht⟩) (fun q h => by cases h) dFo_decide_52
      · skip
        refine lv_iconst (v := 0) hx hb dFo_decide_38 (by decide) ?_
        exact W.iret (v := 0) hx hb hr (fun t ht hW => ⟨0, rfl, by simp only [s_dec, if_neg c_1, if_pos c_2, if_neg c_3], ht⟩) (fun q h => by cases h) dFo_decide_39
    · skip
      refine lv_iconst (v := (-1)) hx hb dFo_decide_20 (by decide) ?_
      exact W.iret (v := (-1)) hx hb hr (fun t ht hW => ⟨(-1), rfl, by simp only [s_dec, if_neg c_1, if_neg c_2], ht⟩) (fun q h => by cases h) dFo_decide_21
