set_option maxHeartbeats 4000000 in
set_option maxRecDepth 100000 in
/-- is16(k) -/
theorem k_M_is16 (l : Launch) (k : Int32) : Met l yMd_is16 wsMd_is16 ({ frames := 1, cells := 0, slots := 0, locals := 40 }) (va_Pc [.int k] (fun _ => True)) (vp_Si (fun r => r = s_in k)) 0 0 (fun _ => False) := by
  refine Met.ofW (cc := cMd_is16) (maxL := 1) (ret := (some .boolean)) (by decide) rfl ?_
  intro p e s m args below meth c s₁ B hml hv
  obtain ⟨rfl, -⟩ := hv
  have hx := B.exec
  have hb := B.bytes
  have hr := B.returns
  have hts0 := atoms_spec (ws := wsMd_is16) B.pre
  have hts := fun (w : Cond) (h : w ∈ lw_g) => hts0 w (List.mem_cons_of_mem _ h)
  have hown : s.vm.findClass RMd = some m.cls := findClass_of_methodNamed B.named
  have hlocks := B.notSynchronized
  have hl := lv_entry ([.int k]) (n := 1) (Nat.le_of_ble_eq_true rfl)
  rw [lg_entry_eq]
  generalize (lg_sl ([.int k]) ++ List.replicate (1 - (lg_sl ([.int k])).length) Slot.unset).toArray = ls at hl ⊢
  have hl : lv_has ls 1 [(0, .int k)] := hl
  refine lv_iload_n hx hb dMd_is16_0 rfl (lv_at hl 0 rfl) ?_
  refine lv_if_lt (tgt := 14) hx hb dMd_is16_1 (by decide) (fun c_1 => ?_) (fun c_1 => ?_)
  · skip
    refine lv_iconst (v := 0) hx hb dMd_is16_14 (by decide) ?_
    exact W.zret (v := 0) (ty := .boolean) hx hb hr rfl (fun t ht hW => ⟨0, rfl, by simp only [s_in, if_pos c_1], ht⟩) (fun q h => by cases h) dMd_is16_15
  · skip
    refine lv_iload_n hx hb dMd_is16_4 rfl (lv_at hl 0 rfl) ?_
    refine lv_bipush (v := nI 16) hx hb dMd_is16_5 (by decide) ?_
    refine lv_icmp_ge (tgt := 14) hx hb dMd_is16_7 (by decide) (fun c_2 => ?_) (fun c_2 => ?_)
    · skip
      refine lv_iconst (v := 0) hx hb dMd_is16_14 (by decide) ?_
      exact W.zret (v := 0) (ty := .boolean) hx hb hr rfl (fun t ht hW => ⟨0, rfl, by simp only [s_in, if_neg c_1, if_pos c_2], ht⟩) (fun q h => by cases h) dMd_is16_15
    · skip
      refine lv_iconst (v := 1) hx hb dMd_is16_10 (by decide) ?_
      refine lv_goto (tgt := 15) hx hb dMd_is16_11 (by decide) ?_
      exact W.zret (v := 1) (ty := .boolean) hx hb hr rfl (fun t ht hW => ⟨1, rfl, by simp only [s_in, if_neg c_1, if_neg c_2], ht⟩) (fun q h => by cases h) dMd_is16_15
set_option maxHeartbeats 4000000 in
set_option maxRecDepth 100000 in
/-- thrown() -/
theorem k_M_thrown (l : Launch) (dC : Nat → ClassId) (dI : Nat → Nat → Nat) (y y1 y2 y3 y4 y5 y6 y7 y8 y9 y10 : Nat) (cI : ClassId) (mi : Nat → Int32) (ma : Nat → Nat → Int32) : Met l yMd_thrown wsMd_thrown ({ frames := 1, cells := 0, slots := 0, locals := 40 }) (va_Pc [.ref y] (fun U => va_P (dC, dI) vwCl (wM y y1 y2 y3 y4 y5 y6 y7 y8 y9 y10 cI mi ma) U.heap ∧ va_K (dC, dI) vwCl [(cI, .int)] U)) (vp_Si (fun r => r = mi 0)) 0 0 (fun _ => False) := by
  refine Met.ofW (cc := cMd_thrown) (maxL := 1) (ret := (some .int)) (by decide) rfl ?_
  intro p e s m args below meth c s₁ B hml hv
  obtain ⟨rfl, hP, hK⟩ := hv
  have hx := B.exec
  have hb := B.bytes
  have hr := B.returns
  have hts0 := atoms_spec (ws := wsMd_thrown) B.pre
  have hts := fun (w : Cond) (h : w ∈ lw_g) => hts0 w (List.mem_cons_of_mem _ h)
  have hown : s.vm.findClass RMd = some m.cls := findClass_of_methodNamed B.named
  have hlocks := B.notSynchronized
  have hl := lv_entry ([.ref y]) (n := 1) (Nat.le_of_ble_eq_true rfl)
  rw [lg_entry_eq]
  generalize (lg_sl ([.ref y]) ++ List.replicate (1 - (lg_sl ([.ref y])).length) Slot.unset).toArray = ls at hl ⊢
  have hl : lv_has ls 1 [(0, .ref y)] := hl
  refine lv_aload_n hx hb dMd_thrown_0 rfl (lv_at hl 0 rfl) ?_
  refine va_get (D := (dC, dI)) (ci := 3) (v := .int (mi 0)) (C := RMd) (T := TMd) (N := 17) hx hb hts inMd hown hK hP 0 rfl rfl 0 (by decide) (hts _ in_71) (fun _ h9 => h9) rfl dMd_thrown_1 ?_
  exact W.iret (v := mi 0) hx hb hr (fun t ht hW => ⟨mi 0, rfl, rfl, ht⟩) (fun q h => by cases h) dMd_thrown_4
set_option maxHeartbeats 4000000 in
set_option maxRecDepth 100000 in
/-- lacks(x) -/
theorem k_M_lacks (l : Launch) (dC : Nat → ClassId) (dI : Nat → Nat → Nat) (sz : Nat) (y y1 y2 y3 y4 y5 y6 y7 y8 y9 y10 : Nat) (cI : ClassId) (mi : Nat → Int32) (ma : Nat → Nat → Int32) (x : Int32) : Met l yMd_lacks wsMd_lacks ({ frames := 1, cells := 0, slots := 0, locals := 40 }) (va_Pc [.ref y, .int x] (fun U => U.heap.size = sz ∧ va_P (dC, dI) vwCl (wM y y1 y2 y3 y4 y5 y6 y7 y8 y9 y10 cI mi ma) U.heap ∧ va_K (dC, dI) vwCl [(cI, .int)] U ∧ va_D (fun _ => True) (wM y y1 y2 y3 y4 y5 y6 y7 y8 y9 y10 cI mi ma))) (va_Qi (fun (r : Int32) (_ : Unit) => r = s_lk x) (fun _ t => va_P (dC, dI) vwCl (wM y y1 y2 y3 y4 y5 y6 y7 y8 y9 y10 cI (va_up mi 0 (s_lk x)) ma) t.heap ∧ va_K (dC, dI) vwCl [(cI, .int)] t ∧ va_D (va_A (wM y y1 y2 y3 y4 y5 y6 y7 y8 y9 y10 cI mi ma) sz) (wM y y1 y2 y3 y4 y5 y6 y7 y8 y9 y10 cI (va_up mi 0 (s_lk x)) ma)) (va_A (wM y y1 y2 y3 y4 y5 y6 y7 y8 y9 y10 cI mi ma) sz)) 0 0 (va_A (wM y y1 y2 y3 y4 y5 y6 y7 y8 y9 y10 cI mi ma) sz) := by
  refine Met.ofW (cc := cMd_lacks) (maxL := 2) (ret := (some .boolean)) (by decide) rfl ?_
  intro p e s m args below meth c s₁ B hml hv
  obtain ⟨rfl, hsz, hP, hK, hD0⟩ := hv
  have hx := B.exec
  have hb := B.bytes
  have hr := B.returns
  have hts0 := atoms_spec (ws := wsMd_lacks) B.pre
  have hts := fun (w : Cond) (h : w ∈ lw_g) => hts0 w (List.mem_cons_of_mem _ h)
  have hown : s.vm.findClass RMd = some m.cls := findClass_of_methodNamed B.named
  have hlocks := B.notSynchronized
  subst hsz
  have hD := hD0.self (sz := s.heap.size)
  generalize hAe : va_A (wM y y1 y2 y3 y4 y5 y6 y7 y8 y9 y10 cI mi ma) s.heap.size = A at hD ⊢
  have hA : ∀ q : Nat, s.heap.size ≤ q → A q := fun q h => by rw [← hAe]; exact Or.inr h
  have hS : va_S A s.heap s.heap [] := va_S.rf
  have hP : va_P (dC, dI) vwCl (wM y y1 y2 y3 y4 y5 y6 y7 y8 y9 y10 cI mi ma) s.heap := hP
  have hl := lv_entry ([.ref y, .int x]) (n := 2) (Nat.le_of_ble_eq_true rfl)
  rw [lg_entry_eq]
  generalize (lg_sl ([.ref y, .int x]) ++ List.replicate (2 - (lg_sl ([.ref y, .int x])).length) Slot.unset).toArray = ls at hl ⊢
  have hl : lv_has ls 2 [(0, .ref y), (1, .int x)] := hl
  refine lv_aload_n hx hb dMd_lacks_0 rfl (lv_at hl 0 rfl) ?_
  refine lv_iload_n hx hb dMd_lacks_1 rfl (lv_at hl 1 rfl) ?_
  refine lv_if_lt (tgt := 14) hx hb dMd_lacks_2 (by decide) (fun c_1 => ?_) (fun c_1 => ?_)
  · skip
    refine lv_iconst (v := 1) hx hb dMd_lacks_14 (by decide) ?_
    refine va_put (D := (dC, dI)) (ci := 3) (v := .int 1) (ty := .int) (C := RMd) (T := TMd) (N := 17) hx hb hts inMd tyMd tyMd_ok nmMd hown hK hP hD hS 0 rfl rfl 0 (by decide) (hts _ in_71) (fun _ h9 => h9) rfl (by decide +kernel) rfl rfl (Nat.le_of_ble_eq_true rfl) dMd_lacks_15 (fun H locs hP hD hS => ?_)
    have hP : va_P (dC, dI) vwCl (wM y y1 y2 y3 y4 y5 y6 y7 y8 y9 y10 cI (va_up mi 0 1) ma) H := hP
    have hD : va_D A (wM y y1 y2 y3 y4 y5 y6 y7 y8 y9 y10 cI (va_up mi 0 1) ma) := hD
    refine lv_aload_n hx hb dMd_lacks_18 rfl (lv_at hl 0 rfl) ?_
    refine va_get (D := (dC, dI)) (ci := 3) (v := .int 1) (C := RMd) (T := TMd) (N := 17) hx hb hts inMd hown hK hP 0 rfl rfl 0 (by decide) (hts _ in_71) (fun _ h9 => h9) rfl dMd_lacks_19 ?_
    refine lv_if_le (tgt := 29) hx hb dMd_lacks_22 (by decide) (fun c_2 => absurd c_2 (by decide)) (fun _ => ?_)
    refine lv_iconst (v := 1) hx hb dMd_lacks_25 (by decide) ?_
    refine lv_goto (tgt := 30) hx hb dMd_lacks_26 (by decide) ?_
    have hP9 : va_P (dC, dI) vwCl (wM y y1 y2 y3 y4 y5 y6 y7 y8 y9 y10 cI (va_up mi 0 (s_lk x)) ma) H := by simp only [s_lk, if_pos c_1]; exact hP
    have hD9 : va_D A (wM y y1 y2 y3 y4 y5 y6 y7 y8 y9 y10 cI (va_up mi 0 (s_lk x)) ma) := by simp only [s_lk, if_pos c_1]; exact hD
    exact W.zret (v := 1) (ty := .boolean) hx hb hr rfl (fun t ht hW => ⟨⟨1, (), rfl, by simp only [s_lk, if_pos c_1], by rw [ht]; exact hP9, va_K.moved hW.alike hK, hD9⟩, hS.F ht⟩) hS.2.2 dMd_lacks_30
  · skip
    refine lv_iload_n hx hb dMd_lacks_5 rfl (lv_at hl 1 rfl) ?_
    refine lv_iconst (v := nI 4) hx hb dMd_lacks_6 (by decide) ?_
    refine lv_icmp_ge (tgt := 14) hx hb dMd_lacks_7 (by decide) (fun c_3 => ?_) (fun c_3 => ?_)
    · skip
      refine lv_iconst (v := 1) hx hb dMd_lacks_14 (by decide) ?_
      refine va_put (D := (dC, dI)) (ci := 3) (v := .int 1) (ty := .int) (C := RMd) (T := TMd) (N := 17) hx hb hts inMd tyMd tyMd_ok nmMd hown hK hP hD hS 0 rfl rfl 0 (by decide) (hts _ in_71) (fun _ h9 => h9) rfl (by decide +kernel) rfl rfl (Nat.le_of_ble_eq_true rfl) dMd_lacks_15 (fun H locs hP hD hS => ?_)
      have hP : va_P (dC, dI) vwCl (wM y y1 y2 y3 y4 y5 y6 y7 y8 y9 y10 cI (va_up mi 0 1) ma) H := hP
      have hD : va_D A (wM y y1 y2 y3 y4 y5 y6 y7 y8 y9 y10 cI (va_up mi 0 1) ma) := hD
      refine lv_aload_n hx hb dMd_lacks_18 rfl (lv_at hl 0 rfl) ?_
      refine va_get (D := (dC, dI)) (ci := 3) (v := .int 1) (C := RMd) (T := TMd) (N := 17) hx hb hts inMd hown hK hP 0 rfl rfl 0 (by decide) (hts _ in_71) (fun _ h9 => h9) rfl dMd_lacks_19 ?_
      refine lv_if_le (tgt := 29) hx hb dMd_lacks_22 (by decide) (fun c_4 => absurd c_4 (by decide)) (fun _ => ?_)
      refine lv_iconst (v := 1) hx hb dMd_lacks_25 (by decide) ?_
      refine lv_goto (tgt := 30) hx hb dMd_lacks_26 (by decide) ?_
      have hP9 : va_P (dC, dI) vwCl (wM y y1 y2 y3 y4 y5 y6 y7 y8 y9 y10 cI (va_up mi 0 (s_lk x)) ma) H := by simp only [s_lk, if_neg c_1, if_pos c_3]; exact hP
      have hD9 : va_D A (wM y y1 y2 y3 y4 y5 y6 y7 y8 y9 y10 cI (va_up mi 0 (s_lk x)) ma) := by simp only [s_lk, if_neg c_1, if_pos c_3]; exact hD
      exact W.zret (v := 1) (ty := .boolean) hx hb hr rfl (fun t ht hW => ⟨⟨1, (), rfl, by simp only [s_lk, if_neg c_1, if_pos c_3], by rw [ht]; exact hP9, va_K.moved hW.alike hK, hD9⟩, hS.F ht⟩) hS.2.2 dMd_lacks_30
    · skip
      refine lv_iconst (v := 0) hx hb dMd_lacks_10 (by decide) ?_
      refine lv_goto (tgt := 15) hx hb dMd_lacks_11 (by decide) ?_
      refine va_put (D := (dC, dI)) (ci := 3) (v := .int 0) (ty := .int) (C := RMd) (T := TMd) (N := 17) hx hb hts inMd tyMd tyMd_ok nmMd hown hK hP hD hS 0 rfl rfl 0 (by decide) (hts _ in_71) (fun _ h9 => h9) rfl (by decide +kernel) rfl rfl (Nat.le_of_ble_eq_true rfl) dMd_lacks_15 (fun H locs hP hD hS => ?_)
      have hP : va_P (dC, dI) vwCl (wM y y1 y2 y3 y4 y5 y6 y7 y8 y9 y10 cI (va_up mi 0 0) ma) H := hP
      have hD : va_D A (wM y y1 y2 y3 y4 y5 y6 y7 y8 y9 y10 cI (va_up mi 0 0) ma) := hD
      refine lv_aload_n hx hb dMd_lacks_18 rfl (lv_at hl 0 rfl) ?_
      refine va_get (D := (dC, dI)) (ci := 3) (v := .int 0) (C := RMd) (T := TMd) (N := 17) hx hb hts inMd hown hK hP 0 rfl rfl 0 (by decide) (hts _ in_71) (fun _ h9 => h9) rfl dMd_lacks_19 ?_
      refine lv_if_le (tgt := 29) hx hb dMd_lacks_22 (by decide) (fun _ => ?_) (fun c_5 => absurd c_5 (by decide))
      refine lv_iconst (v := 0) hx hb dMd_lacks_29 (by decide) ?_
      have hP9 : va_P (dC, dI) vwCl (wM y y1 y2 y3 y4 y5 y6 y7 y8 y9 y10 cI (va_up mi 0 (s_lk x)) ma) H := by simp only [s_lk, if_neg c_1, if_neg c_3]; exact hP
      have hD9 : va_D A (wM y y1 y2 y3 y4 y5 y6 y7 y8 y9 y10 cI (va_up mi 0 (s_lk x)) ma) := by simp only [s_lk, if_neg c_1, if_neg c_3]; exact hD
      exact W.zret (v := 0) (ty := .boolean) hx hb hr rfl (fun t ht hW => ⟨⟨0, (), rfl, by simp only [s_lk, if_neg c_1, if_neg c_3], by rw [ht]; exact hP9, va_K.moved hW.alike hK, hD9⟩, hS.F ht⟩) hS.2.2 dMd_lacks_30
set_option maxHeartbeats 4000000 in
set_option maxRecDepth 100000 in
/-- draft(a, b, c) -/
theorem k_M_draft (l : Launch) (dC : Nat → ClassId) (dI : Nat → Nat → Nat) (sz : Nat) (y y1 y2 y3 y4 y5 y6 y7 y8 y9 y10 : Nat) (cI : ClassId) (mi : Nat → Int32) (ma : Nat → Nat → Int32) (a b c0 : Int32) : Met l yMd_draft wsMd_draft ({ frames := 2, cells := 0, slots := 0, locals := 80 }) (va_Pc [.ref y, .int a, .int b, .int c0] (fun U => U.heap.size = sz ∧ va_P (dC, dI) vwCl (wM y y1 y2 y3 y4 y5 y6 y7 y8 y9 y10 cI mi ma) U.heap ∧ va_K (dC, dI) vwCl [(cI, .int)] U ∧ va_D (fun _ => True) (wM y y1 y2 y3 y4 y5 y6 y7 y8 y9 y10 cI mi ma))) (va_Qi (fun (r : Int32) (_ : Unit) => r = (m_dr mi a b c0).1) (fun _ t => va_P (dC, dI) vwCl (wM y y1 y2 y3 y4 y5 y6 y7 y8 y9 y10 cI ((m_dr mi a b c0).2) ma) t.heap ∧ va_K (dC, dI) vwCl [(cI, .int)] t ∧ va_D (va_A (wM y y1 y2 y3 y4 y5 y6 y7 y8 y9 y10 cI mi ma) sz) (wM y y1 y2 y3 y4 y5 y6 y7 y8 y9 y10 cI ((m_dr mi a b c0).2) ma)) (va_A (wM y y1 y2 y3 y4 y5 y6 y7 y8 y9 y10 cI mi ma) sz)) 0 0 (va_A (wM y y1 y2 y3 y4 y5 y6 y7 y8 y9 y10 cI mi ma) sz) := by
  refine Met.ofW (cc := cMd_draft) (maxL := 4) (ret := (some .boolean)) (by decide) rfl ?_
  intro p e s m args below meth c s₁ B hml hv
  obtain ⟨rfl, hsz, hP, hK, hD0⟩ := hv
  have hx := B.exec
  have hb := B.bytes
  have hr := B.returns
  have hts0 := atoms_spec (ws := wsMd_draft) B.pre
  have hts := fun (w : Cond) (h : w ∈ lw_g) => hts0 w (List.mem_cons_of_mem _ h)
  have hown : s.vm.findClass RMd = some m.cls := findClass_of_methodNamed B.named
  have hlocks := B.notSynchronized
  subst hsz
  have hD := hD0.self (sz := s.heap.size)
  generalize hAe : va_A (wM y y1 y2 y3 y4 y5 y6 y7 y8 y9 y10 cI mi ma) s.heap.size = A at hD ⊢
  have hA : ∀ q : Nat, s.heap.size ≤ q → A q := fun q h => by rw [← hAe]; exact Or.inr h
  have hS : va_S A s.heap s.heap [] := va_S.rf
  have hP : va_P (dC, dI) vwCl (wM y y1 y2 y3 y4 y5 y6 y7 y8 y9 y10 cI mi ma) s.heap := hP
  have hl := lv_entry ([.ref y, .int a, .int b, .int c0]) (n := 4) (Nat.le_of_ble_eq_true rfl)
  rw [lg_entry_eq]
  generalize (lg_sl ([.ref y, .int a, .int b, .int c0]) ++ List.replicate (4 - (lg_sl ([.ref y, .int a, .int b, .int c0])).length) Slot.unset).toArray = ls at hl ⊢
  have hl : lv_has ls 4 [(0, .ref y), (1, .int a), (2, .int b), (3, .int c0)] := hl
  refine lv_aload_n hx hb dMd_draft_0 rfl (lv_at hl 0 rfl) ?_
  refine lv_iconst (v := 0) hx hb dMd_draft_1 (by decide) ?_
  refine va_put (D := (dC, dI)) (ci := 3) (v := .int 0) (ty := .int) (C := RMd) (T := TMd) (N := 17) hx hb hts inMd tyMd tyMd_ok nmMd hown hK hP hD hS 0 rfl rfl 0 (by decide) (hts _ in_71) (fun _ h9 => h9) rfl (by decide +kernel) rfl rfl (Nat.le_of_ble_eq_true rfl) dMd_draft_2 (fun H locs hP hD hS => ?_)
  have hP : va_P (dC, dI) vwCl (wM y y1 y2 y3 y4 y5 y6 y7 y8 y9 y10 cI (va_up mi 0 0) ma) H := hP
  have hD : va_D A (wM y y1 y2 y3 y4 y5 y6 y7 y8 y9 y10 cI (va_up mi 0 0) ma) := hD
  refine lv_iload_n hx hb dMd_draft_5 rfl (lv_at hl 1 rfl) ?_
  refine vp_callSi (W.runS (As := [.int a]) (rest := []) ⟨hx, hb, hml, hown, hts⟩ (k_M_is16 l a) (va_cwS 1 hts (gd_S in_72 in_75 in_74 in_73) rfl rfl rfl (by decide +kernel) ⟨Nat.le_of_ble_eq_true rfl, Nat.le_of_ble_eq_true rfl⟩) ⟨fun a U g mk q => q, fun U hU hW => ⟨rfl, trivial⟩⟩ rfl rfl hl.1 rfl (lv_room (Nat.le_of_ble_eq_true rfl)) dMd_draft_6 ⟨Nat.le_of_ble_eq_true rfl, Nat.le_of_ble_eq_true rfl⟩) (fun r_1 er_2 => ?_)
  subst er_2
  refine lv_if_eq (tgt := 21) hx hb dMd_draft_9 (by decide) (fun c_3 => ?_) (fun c_3 => ?_)
  · skip
    refine lv_iconst (v := 0) hx hb dMd_draft_21 (by decide) ?_
    have hP9 : va_P (dC, dI) vwCl (wM y y1 y2 y3 y4 y5 y6 y7 y8 y9 y10 cI ((m_dr mi a b c0).2) ma) H := by simp only [m_dr, if_pos c_3]; exact hP
    have hD9 : va_D A (wM y y1 y2 y3 y4 y5 y6 y7 y8 y9 y10 cI ((m_dr mi a b c0).2) ma) := by simp only [m_dr, if_pos c_3]; exact hD
    exact W.zret (v := 0) (ty := .boolean) hx hb hr rfl (fun t ht hW => ⟨⟨0, (), rfl, by simp only [m_dr, if_pos c_3], by rw [ht]; exact hP9, va_K.moved hW.alike hK, hD9⟩, hS.F ht⟩) hS.2.2 dMd_draft_22
  · skip
    refine lv_iload_n hx hb dMd_draft_12 rfl (lv_at hl 2 rfl) ?_
    refine lv_iconst (v := 1) hx hb dMd_draft_13 (by decide) ?_
    refine lv_icmp_lt (tgt := 21) hx hb dMd_draft_14 (by decide) (fun c_4 => ?_) (fun c_4 => ?_)
    · skip
      refine lv_iconst (v := 0) hx hb dMd_draft_21 (by decide) ?_
      have hP9 : va_P (dC, dI) vwCl (wM y y1 y2 y3 y4 y5 y6 y7 y8 y9 y10 cI ((m_dr mi a b c0).2) ma) H := by simp only [m_dr, if_neg c_3, if_pos c_4]; exact hP
      have hD9 : va_D A (wM y y1 y2 y3 y4 y5 y6 y7 y8 y9 y10 cI ((m_dr mi a b c0).2) ma) := by simp only [m_dr, if_neg c_3, if_pos c_4]; exact hD
      exact W.zret (v := 0) (ty := .boolean) hx hb hr rfl (fun t ht hW => ⟨⟨0, (), rfl, by simp only [m_dr, if_neg c_3, if_pos c_4], by rw [ht]; exact hP9, va_K.moved hW.alike hK, hD9⟩, hS.F ht⟩) hS.2.2 dMd_draft_22
    · skip
      refine lv_iload_n hx hb dMd_draft_17 rfl (lv_at hl 3 rfl) ?_
      refine lv_if_ge (tgt := 23) hx hb dMd_draft_18 (by decide) (fun c_5 => ?_) (fun c_5 => ?_)
      · skip
        refine lv_aload_n hx hb dMd_draft_23 rfl (lv_at hl 0 rfl) ?_
        refine lv_iload_n hx hb dMd_draft_24 rfl (lv_at hl 1 rfl) ?_
        refine va_put (D := (dC, dI)) (ci := 3) (v := .int a) (ty := .int) (C := RMd) (T := TMd) (N := 17) hx hb hts inMd tyMd tyMd_ok nmMd hown hK hP hD hS 0 rfl rfl 11 (by decide) (hts _ in_76) (fun _ h9 => h9) rfl (by decide +kernel) rfl rfl (Nat.le_of_ble_eq_true rfl) dMd_draft_25 (fun H locs hP hD hS => ?_)
        have hP : va_P (dC, dI) vwCl (wM y y1 y2 y3 y4 y5 y6 y7 y8 y9 y10 cI (va_up (va_up mi 0 0) 2 a) ma) H := hP
        have hD : va_D A (wM y y1 y2 y3 y4 y5 y6 y7 y8 y9 y10 cI (va_up (va_up mi 0 0) 2 a) ma) := hD
        refine lv_aload_n hx hb dMd_draft_28 rfl (lv_at hl 0 rfl) ?_
        refine lv_iload_n hx hb dMd_draft_29 rfl (lv_at hl 2 rfl) ?_
        refine va_put (D := (dC, dI)) (ci := 3) (v := .int b) (ty := .int) (C := RMd) (T := TMd) (N := 17) hx hb hts inMd tyMd tyMd_ok nmMd hown hK hP hD hS 0 rfl rfl 12 (by decide) (hts _ in_77) (fun _ h9 => h9) rfl (by decide +kernel) rfl rfl (Nat.le_of_ble_eq_true rfl) dMd_draft_30 (fun H locs hP hD hS => ?_)
        have hP : va_P (dC, dI) vwCl (wM y y1 y2 y3 y4 y5 y6 y7 y8 y9 y10 cI (va_up (va_up (va_up mi 0 0) 2 a) 3 b) ma) H := hP
        have hD : va_D A (wM y y1 y2 y3 y4 y5 y6 y7 y8 y9 y10 cI (va_up (va_up (va_up mi 0 0) 2 a) 3 b) ma) := hD
        refine lv_aload_n hx hb dMd_draft_33 rfl (lv_at hl 0 rfl) ?_
        refine lv_iload_n hx hb dMd_draft_34 rfl (lv_at hl 3 rfl) ?_
        refine va_put (D := (dC, dI)) (ci := 3) (v := .int c0) (ty := .int) (C := RMd) (T := TMd) (N := 17) hx hb hts inMd tyMd tyMd_ok nmMd hown hK hP hD hS 0 rfl rfl 13 (by decide) (hts _ in_78) (fun _ h9 => h9) rfl (by decide +kernel) rfl rfl (Nat.le_of_ble_eq_true rfl) dMd_draft_35 (fun H locs hP hD hS => ?_)
        have hP : va_P (dC, dI) vwCl (wM y y1 y2 y3 y4 y5 y6 y7 y8 y9 y10 cI (va_up (va_up (va_up (va_up mi 0 0) 2 a) 3 b) 4 c0) ma) H := hP
        have hD : va_D A (wM y y1 y2 y3 y4 y5 y6 y7 y8 y9 y10 cI (va_up (va_up (va_up (va_up mi 0 0) 2 a) 3 b) 4 c0) ma) := hD
        refine lv_aload_n hx hb dMd_draft_38 rfl (lv_at hl 0 rfl) ?_
        refine lv_iconst (v := 0) hx hb dMd_draft_39 (by decide) ?_
        refine va_put (D := (dC, dI)) (ci := 3) (v := .int 0) (ty := .int) (C := RMd) (T := TMd) (N := 17) hx hb hts inMd tyMd tyMd_ok nmMd hown hK hP hD hS 0 rfl rfl 14 (by decide) (hts _ in_79) (fun _ h9 => h9) rfl (by decide +kernel) rfl rfl (Nat.le_of_ble_eq_true rfl) dMd_draft_40 (fun H locs hP hD hS => ?_)
        have hP : va_P (dC, dI) vwCl (wM y y1 y2 y3 y4 y5 y6 y7 y8 y9 y10 cI (va_up (va_up (va_up (va_up (va_up mi 0 0) 2 a) 3 b) 4 c0) 5 0) ma) H := hP
        have hD : va_D A (wM y y1 y2 y3 y4 y5 y6 y7 y8 y9 y10 cI (va_up (va_up (va_up (va_up (va_up mi 0 0) 2 a) 3 b) 4 c0) 5 0) ma) := hD
        refine lv_aload_n hx hb dMd_draft_43 rfl (lv_at hl 0 rfl) ?_
        refine lv_iconst (v := 0) hx hb dMd_draft_44 (by decide) ?_
        refine va_put (D := (dC, dI)) (ci := 3) (v := .int 0) (ty := .int) (C := RMd) (T := TMd) (N := 17) hx hb hts inMd tyMd tyMd_ok nmMd hown hK hP hD hS 0 rfl rfl 15 (by decide) (hts _ in_80) (fun _ h9 => h9) rfl (by decide +kernel) rfl rfl (Nat.le_of_ble_eq_true rfl) dMd_draft_45 (fun H locs hP hD hS => ?_)
        have hP : va_P (dC, dI) vwCl (wM y y1 y2 y3 y4 y5 y6 y7 y8 y9 y10 cI (va_up (va_up (va_up (va_up (va_up (va_up mi 0 0) 2 a) 3 b) 4 c0) 5 0) 6 0) ma) H := hP
        have hD : va_D A (wM y y1 y2 y3 y4 y5 y6 y7 y8 y9 y10 cI (va_up (va_up (va_up (va_up (va_up (va_up mi 0 0) 2 a) 3 b) 4 c0) 5 0) 6 0) ma) := hD
        refine lv_iconst (v := 1) hx hb dMd_draft_48 (by decide) ?_
        have hP9 : va_P (dC, dI) vwCl (wM y y1 y2 y3 y4 y5 y6 y7 y8 y9 y10 cI ((m_dr mi a b c0).2) ma) H := by simp only [m_dr, if_neg c_3, if_neg c_4, if_pos c_5]; exact hP
        have hD9 : va_D A (wM y y1 y2 y3 y4 y5 y6 y7 y8 y9 y10 cI ((m_dr mi a b c0).2) ma) := by simp only [m_dr, if_neg c_3, if_neg c_4, if_pos c_5]; exact hD
        exact W.zret (v := 1) (ty := .boolean) hx hb hr rfl (fun t ht hW => ⟨⟨1, (), rfl, by simp only [m_dr, if_neg c_3, if_neg c_4, if_pos c_5], by rw [ht]; exact hP9, va_K.moved hW.alike hK, hD9⟩, hS.F ht⟩) hS.2.2 dMd_draft_49
      · skip
        refine lv_iconst (v := 0) hx hb dMd_draft_21 (by decide) ?_
        have hP9 : va_P (dC, dI) vwCl (wM y y1 y2 y3 y4 y5 y6 y7 y8 y9 y10 cI ((m_dr mi a b c0).2) ma) H := by simp only [m_dr, if_neg c_3, if_neg c_4, if_neg c_5]; exact hP
        have hD9 : va_D A (wM y y1 y2 y3 y4 y5 y6 y7 y8 y9 y10 cI ((m_dr mi a b c0).2) ma) := by simp only [m_dr, if_neg c_3, if_neg c_4, if_neg c_5]; exact hD
        exact W.zret (v := 0) (ty := .boolean) hx hb hr rfl (fun t ht hW => ⟨⟨0, (), rfl, by simp only [m_dr, if_neg c_3, if_neg c_4, if_neg c_5], by rw [ht]; exact hP9, va_K.moved hW.alike hK, hD9⟩, hS.F ht⟩) hS.2.2 dMd_draft_22
set_option maxHeartbeats 4000000 in
set_option maxRecDepth 100000 in
/-- reads(k) -/
theorem k_M_reads (l : Launch) (dC : Nat → ClassId) (dI : Nat → Nat → Nat) (sz : Nat) (y y1 y2 y3 y4 y5 y6 y7 y8 y9 y10 : Nat) (cI : ClassId) (mi : Nat → Int32) (ma : Nat → Nat → Int32) (k : Int32) : Met l yMd_reads wsMd_reads ({ frames := 2, cells := 0, slots := 0, locals := 80 }) (va_Pc [.ref y, .int k] (fun U => U.heap.size = sz ∧ va_P (dC, dI) vwCl (wM y y1 y2 y3 y4 y5 y6 y7 y8 y9 y10 cI mi ma) U.heap ∧ va_K (dC, dI) vwCl [(cI, .int)] U ∧ va_D (fun _ => True) (wM y y1 y2 y3 y4 y5 y6 y7 y8 y9 y10 cI mi ma))) (va_Qi (fun (r : Int32) (_ : Unit) => r = s_in k) (fun _ t => va_P (dC, dI) vwCl (wM y y1 y2 y3 y4 y5 y6 y7 y8 y9 y10 cI (m_rd mi k) ma) t.heap ∧ va_K (dC, dI) vwCl [(cI, .int)] t ∧ va_D (va_A (wM y y1 y2 y3 y4 y5 y6 y7 y8 y9 y10 cI mi ma) sz) (wM y y1 y2 y3 y4 y5 y6 y7 y8 y9 y10 cI (m_rd mi k) ma)) (va_A (wM y y1 y2 y3 y4 y5 y6 y7 y8 y9 y10 cI mi ma) sz)) 0 0 (va_A (wM y y1 y2 y3 y4 y5 y6 y7 y8 y9 y10 cI mi ma) sz) := by
  refine Met.ofW (cc := cMd_reads) (maxL := 2) (ret := (some .boolean)) (by decide) rfl ?_
  intro p e s m args below meth c s₁ B hml hv
  obtain ⟨rfl, hsz, hP, hK, hD0⟩ := hv
  have hx := B.exec
  have hb := B.bytes
  have hr := B.returns
  have hts0 := atoms_spec (ws := wsMd_reads) B.pre
  have hts := fun (w : Cond) (h : w ∈ lw_g) => hts0 w (List.mem_cons_of_mem _ h)
  have hown : s.vm.findClass RMd = some m.cls := findClass_of_methodNamed B.named
  have hlocks := B.notSynchronized
  subst hsz
  have hD := hD0.self (sz := s.heap.size)
  generalize hAe : va_A (wM y y1 y2 y3 y4 y5 y6 y7 y8 y9 y10 cI mi ma) s.heap.size = A at hD ⊢
  have hA : ∀ q : Nat, s.heap.size ≤ q → A q := fun q h => by rw [← hAe]; exact Or.inr h
  have hS : va_S A s.heap s.heap [] := va_S.rf
  have hP : va_P (dC, dI) vwCl (wM y y1 y2 y3 y4 y5 y6 y7 y8 y9 y10 cI mi ma) s.heap := hP
  have hl := lv_entry ([.ref y, .int k]) (n := 2) (Nat.le_of_ble_eq_true rfl)
  rw [lg_entry_eq]
  generalize (lg_sl ([.ref y, .int k]) ++ List.replicate (2 - (lg_sl ([.ref y, .int k])).length) Slot.unset).toArray = ls at hl ⊢
  have hl : lv_has ls 2 [(0, .ref y), (1, .int k)] := hl
  refine lv_aload_n hx hb dMd_reads_0 rfl (lv_at hl 0 rfl) ?_
  refine lv_iconst (v := 0) hx hb dMd_reads_1 (by decide) ?_
  refine va_put (D := (dC, dI)) (ci := 3) (v := .int 0) (ty := .int) (C := RMd) (T := TMd) (N := 17) hx hb hts inMd tyMd tyMd_ok nmMd hown hK hP hD hS 0 rfl rfl 0 (by decide) (hts _ in_71) (fun _ h9 => h9) rfl (by decide +kernel) rfl rfl (Nat.le_of_ble_eq_true rfl) dMd_reads_2 (fun H locs hP hD hS => ?_)
  have hP : va_P (dC, dI) vwCl (wM y y1 y2 y3 y4 y5 y6 y7 y8 y9 y10 cI (va_up mi 0 0) ma) H := hP
  have hD : va_D A (wM y y1 y2 y3 y4 y5 y6 y7 y8 y9 y10 cI (va_up mi 0 0) ma) := hD
  refine lv_aload_n hx hb dMd_reads_5 rfl (lv_at hl 0 rfl) ?_
  refine lv_dup hx hb dMd_reads_6 rfl ?_
  refine va_get (D := (dC, dI)) (ci := 3) (v := .int (mi 5)) (C := RMd) (T := TMd) (N := 17) hx hb hts inMd hown hK hP 0 rfl rfl 14 (by decide) (hts _ in_79) (fun _ h9 => h9) rfl dMd_reads_7 ?_
  refine lv_iload_n hx hb dMd_reads_10 rfl (lv_at hl 1 rfl) ?_
  refine vp_callSi (W.runS (As := [.int k]) (rest := [.int (mi 5), .ref y]) ⟨hx, hb, hml, hown, hts⟩ (k_M_is16 l k) (va_cwS 1 hts (gd_S in_72 in_75 in_74 in_73) rfl rfl rfl (by decide +kernel) ⟨Nat.le_of_ble_eq_true rfl, Nat.le_of_ble_eq_true rfl⟩) ⟨fun a U g mk q => q, fun U hU hW => ⟨rfl, trivial⟩⟩ rfl rfl hl.1 rfl (lv_room (Nat.le_of_ble_eq_true rfl)) dMd_reads_11 ⟨Nat.le_of_ble_eq_true rfl, Nat.le_of_ble_eq_true rfl⟩) (fun r_1 er_2 => ?_)
  subst er_2
  refine lv_if_eq (tgt := 23) hx hb dMd_reads_14 (by decide) (fun c_3 => ?_) (fun c_3 => ?_)
  · skip
    refine lv_iconst (v := 0) hx hb dMd_reads_23 (by decide) ?_
    refine lv_ior hx hb dMd_reads_24 ?_
    refine va_put (D := (dC, dI)) (ci := 3) (v := .int ((mi 5) ||| 0)) (ty := .int) (C := RMd) (T := TMd) (N := 17) hx hb hts inMd tyMd tyMd_ok nmMd hown hK hP hD hS 0 rfl rfl 14 (by decide) (hts _ in_79) (fun _ h9 => h9) rfl (by decide +kernel) rfl rfl (Nat.le_of_ble_eq_true rfl) dMd_reads_25 (fun H locs hP hD hS => ?_)
    have hP : va_P (dC, dI) vwCl (wM y y1 y2 y3 y4 y5 y6 y7 y8 y9 y10 cI (va_up (va_up mi 0 0) 5 ((mi 5) ||| 0)) ma) H := hP
    have hD : va_D A (wM y y1 y2 y3 y4 y5 y6 y7 y8 y9 y10 cI (va_up (va_up mi 0 0) 5 ((mi 5) ||| 0)) ma) := hD
    refine lv_iload_n hx hb dMd_reads_28 rfl (lv_at hl 1 rfl) ?_
    refine vp_callSi (W.runS (As := [.int k]) (rest := []) ⟨hx, hb, hml, hown, hts⟩ (k_M_is16 l k) (va_cwS 1 hts (gd_S in_72 in_75 in_74 in_73) rfl rfl rfl (by decide +kernel) ⟨Nat.le_of_ble_eq_true rfl, Nat.le_of_ble_eq_true rfl⟩) ⟨fun a U g mk q => q, fun U hU hW => ⟨rfl, trivial⟩⟩ rfl rfl hl.1 rfl (lv_room (Nat.le_of_ble_eq_true rfl)) dMd_reads_29 ⟨Nat.le_of_ble_eq_true rfl, Nat.le_of_ble_eq_true rfl⟩) (fun r_4 er_5 => ?_)
    subst er_5
    have hP9 : va_P (dC, dI) vwCl (wM y y1 y2 y3 y4 y5 y6 y7 y8 y9 y10 cI (m_rd mi k) ma) H := by simp only [m_rd, if_pos c_3]; exact hP
    have hD9 : va_D A (wM y y1 y2 y3 y4 y5 y6 y7 y8 y9 y10 cI (m_rd mi k) ma) := by simp only [m_rd, if_pos c_3]; exact hD
    exact W.zret (v := s_in k) (ty := .boolean) hx hb hr (by unfold s_in; split <;> first | rfl | (split <;> rfl)) (fun t ht hW => ⟨⟨s_in k, (), rfl, rfl, by rw [ht]; exact hP9, va_K.moved hW.alike hK, hD9⟩, hS.F ht⟩) hS.2.2 dMd_reads_32
  · skip
    refine lv_iconst (v := 1) hx hb dMd_reads_17 (by decide) ?_
    refine lv_iload_n hx hb dMd_reads_18 rfl (lv_at hl 1 rfl) ?_
    refine lv_ishl hx hb dMd_reads_19 ?_
    refine lv_goto (tgt := 24) hx hb dMd_reads_20 (by decide) ?_
    refine lv_ior hx hb dMd_reads_24 ?_
    refine va_put (D := (dC, dI)) (ci := 3) (v := .int ((mi 5) ||| ((1 : Int32) <<< (k &&& 31)))) (ty := .int) (C := RMd) (T := TMd) (N := 17) hx hb hts inMd tyMd tyMd_ok nmMd hown hK hP hD hS 0 rfl rfl 14 (by decide) (hts _ in_79) (fun _ h9 => h9) rfl (by decide +kernel) rfl rfl (Nat.le_of_ble_eq_true rfl) dMd_reads_25 (fun H locs hP hD hS => ?_)
    have hP : va_P (dC, dI) vwCl (wM y y1 y2 y3 y4 y5 y6 y7 y8 y9 y10 cI (va_up (va_up mi 0 0) 5 ((mi 5) ||| ((1 : Int32) <<< (k &&& 31)))) ma) H := hP
    have hD : va_D A (wM y y1 y2 y3 y4 y5 y6 y7 y8 y9 y10 cI (va_up (va_up mi 0 0) 5 ((mi 5) ||| ((1 : Int32) <<< (k &&& 31)))) ma) := hD
    refine lv_iload_n hx hb dMd_reads_28 rfl (lv_at hl 1 rfl) ?_
    refine vp_callSi (W.runS (As := [.int k]) (rest := []) ⟨hx, hb, hml, hown, hts⟩ (k_M_is16 l k) (va_cwS 1 hts (gd_S in_72 in_75 in_74 in_73) rfl rfl rfl (by decide +kernel) ⟨Nat.le_of_ble_eq_true rfl, Nat.le_of_ble_eq_true rfl⟩) ⟨fun a U g mk q => q, fun U hU hW => ⟨rfl, trivial⟩⟩ rfl rfl hl.1 rfl (lv_room (Nat.le_of_ble_eq_true rfl)) dMd_reads_29 ⟨Nat.le_of_ble_eq_true rfl, Nat.le_of_ble_eq_true rfl⟩) (fun r_6 er_7 => ?_)
    subst er_7
    have hP9 : va_P (dC, dI) vwCl (wM y y1 y2 y3 y4 y5 y6 y7 y8 y9 y10 cI (m_rd mi k) ma) H := by simp only [m_rd, if_neg c_3]; exact hP
    have hD9 : va_D A (wM y y1 y2 y3 y4 y5 y6 y7 y8 y9 y10 cI (m_rd mi k) ma) := by simp only [m_rd, if_neg c_3]; exact hD
    exact W.zret (v := s_in k) (ty := .boolean) hx hb hr (by unfold s_in; split <;> first | rfl | (split <;> rfl)) (fun t ht hW => ⟨⟨s_in k, (), rfl, rfl, by rw [ht]; exact hP9, va_K.moved hW.alike hK, hD9⟩, hS.F ht⟩) hS.2.2 dMd_reads_32
set_option maxHeartbeats 4000000 in
set_option maxRecDepth 100000 in
/-- writes(k, v), a key -/
theorem k_M_writes (l : Launch) (dC : Nat → ClassId) (dI : Nat → Nat → Nat) (sz : Nat) (y y1 y2 y3 y4 y5 y6 y7 y8 y9 y10 : Nat) (cI : ClassId) (mi : Nat → Int32) (ma : Nat → Nat → Int32) (k : Nat) (hk : k < 16) (v : Int32) : Met l yMd_writes wsMd_writes ({ frames := 2, cells := 0, slots := 0, locals := 80 }) (va_Pc [.ref y, .int (nI k), .int v] (fun U => U.heap.size = sz ∧ va_P (dC, dI) vwCl (wM y y1 y2 y3 y4 y5 y6 y7 y8 y9 y10 cI mi ma) U.heap ∧ va_K (dC, dI) vwCl [(cI, .int)] U ∧ va_D (fun _ => True) (wM y y1 y2 y3 y4 y5 y6 y7 y8 y9 y10 cI mi ma))) (va_Qi (fun (r : Int32) (_ : Unit) => r = 1) (fun _ t => va_P (dC, dI) vwCl (wM y y1 y2 y3 y4 y5 y6 y7 y8 y9 y10 cI (va_up (va_up mi 0 0) 6 (mi 6 ||| ((1 : Int32) <<< (nI k &&& 31)))) (va_up ma 9 (upd (ma 9) k v))) t.heap ∧ va_K (dC, dI) vwCl [(cI, .int)] t ∧ va_D (va_A (wM y y1 y2 y3 y4 y5 y6 y7 y8 y9 y10 cI mi ma) sz) (wM y y1 y2 y3 y4 y5 y6 y7 y8 y9 y10 cI (va_up (va_up mi 0 0) 6 (mi 6 ||| ((1 : Int32) <<< (nI k &&& 31)))) (va_up ma 9 (upd (ma 9) k v)))) (va_A (wM y y1 y2 y3 y4 y5 y6 y7 y8 y9 y10 cI mi ma) sz)) 0 0 (va_A (wM y y1 y2 y3 y4 y5 y6 y7 y8 y9 y10 cI mi ma) sz) := by
  refine Met.ofW (cc := cMd_writes) (maxL := 3) (ret := (some .boolean)) (by decide) rfl ?_
  intro p e s m args below meth c s₁ B hml hv
  obtain ⟨rfl, hsz, hP, hK, hD0⟩ := hv
  have hx := B.exec
  have hb := B.bytes
  have hr := B.returns
  have hts0 := atoms_spec (ws := wsMd_writes) B.pre
  have hts := fun (w : Cond) (h : w ∈ lw_g) => hts0 w (List.mem_cons_of_mem _ h)
  have hown : s.vm.findClass RMd = some m.cls := findClass_of_methodNamed B.named
  have hlocks := B.notSynchronized
  subst hsz
  have hD := hD0.self (sz := s.heap.size)
  generalize hAe : va_A (wM y y1 y2 y3 y4 y5 y6 y7 y8 y9 y10 cI mi ma) s.heap.size = A at hD ⊢
  have hA : ∀ q : Nat, s.heap.size ≤ q → A q := fun q h => by rw [← hAe]; exact Or.inr h
  have hS : va_S A s.heap s.heap [] := va_S.rf
  have hP : va_P (dC, dI) vwCl (wM y y1 y2 y3 y4 y5 y6 y7 y8 y9 y10 cI mi ma) s.heap := hP
  have hl := lv_entry ([.ref y, .int (nI k), .int v]) (n := 3) (Nat.le_of_ble_eq_true rfl)
  rw [lg_entry_eq]
  generalize (lg_sl ([.ref y, .int (nI k), .int v]) ++ List.replicate (3 - (lg_sl ([.ref y, .int (nI k), .int v])).length) Slot.unset).toArray = ls at hl ⊢
  have hl : lv_has ls 3 [(0, .ref y), (1, .int (nI k)), (2, .int v)] := hl
  refine lv_aload_n hx hb dMd_writes_0 rfl (lv_at hl 0 rfl) ?_
  refine lv_iconst (v := 0) hx hb dMd_writes_1 (by decide) ?_
  refine va_put (D := (dC, dI)) (ci := 3) (v := .int 0) (ty := .int) (C := RMd) (T := TMd) (N := 17) hx hb hts inMd tyMd tyMd_ok nmMd hown hK hP hD hS 0 rfl rfl 0 (by decide) (hts _ in_71) (fun _ h9 => h9) rfl (by decide +kernel) rfl rfl (Nat.le_of_ble_eq_true rfl) dMd_writes_2 (fun H locs hP hD hS => ?_)
  have hP : va_P (dC, dI) vwCl (wM y y1 y2 y3 y4 y5 y6 y7 y8 y9 y10 cI (va_up mi 0 0) ma) H := hP
  have hD : va_D A (wM y y1 y2 y3 y4 y5 y6 y7 y8 y9 y10 cI (va_up mi 0 0) ma) := hD
  refine lv_iload_n hx hb dMd_writes_5 rfl (lv_at hl 1 rfl) ?_
  refine vp_callSi (W.runS (As := [.int (nI k)]) (rest := []) ⟨hx, hb, hml, hown, hts⟩ (k_M_is16 l (nI k)) (va_cwS 1 hts (gd_S in_72 in_75 in_74 in_73) rfl rfl rfl (by decide +kernel) ⟨Nat.le_of_ble_eq_true rfl, Nat.le_of_ble_eq_true rfl⟩) ⟨fun a U g mk q => q, fun U hU hW => ⟨rfl, trivial⟩⟩ rfl rfl hl.1 rfl (lv_room (Nat.le_of_ble_eq_true rfl)) dMd_writes_6 ⟨Nat.le_of_ble_eq_true rfl, Nat.le_of_ble_eq_true rfl⟩) (fun r_1 er_2 => ?_)
  subst er_2
  refine lv_if_ne (tgt := 14) hx hb dMd_writes_9 (by decide) (fun c_3 => ?_) (fun c_3 => ?_)
  · skip
    refine lv_aload_n hx hb dMd_writes_14 rfl (lv_at hl 0 rfl) ?_
    refine lv_dup hx hb dMd_writes_15 rfl ?_
    refine va_get (D := (dC, dI)) (ci := 3) (v := .int (mi 6)) (C := RMd) (T := TMd) (N := 17) hx hb hts inMd hown hK hP 0 rfl rfl 15 (by decide) (hts _ in_80) (fun _ h9 => h9) rfl dMd_writes_16 ?_
    refine lv_iconst (v := 1) hx hb dMd_writes_19 (by decide) ?_
    refine lv_iload_n hx hb dMd_writes_20 rfl (lv_at hl 1 rfl) ?_
    refine lv_ishl hx hb dMd_writes_21 ?_
    refine lv_ior hx hb dMd_writes_22 ?_
    refine va_put (D := (dC, dI)) (ci := 3) (v := .int ((mi 6) ||| ((1 : Int32) <<< ((nI k) &&& 31)))) (ty := .int) (C := RMd) (T := TMd) (N := 17) hx hb hts inMd tyMd tyMd_ok nmMd hown hK hP hD hS 0 rfl rfl 15 (by decide) (hts _ in_80) (fun _ h9 => h9) rfl (by decide +kernel) rfl rfl (Nat.le_of_ble_eq_true rfl) dMd_writes_23 (fun H locs hP hD hS => ?_)
    have hP : va_P (dC, dI) vwCl (wM y y1 y2 y3 y4 y5 y6 y7 y8 y9 y10 cI (va_up (va_up mi 0 0) 6 ((mi 6) ||| ((1 : Int32) <<< ((nI k) &&& 31)))) ma) H := hP
    have hD : va_D A (wM y y1 y2 y3 y4 y5 y6 y7 y8 y9 y10 cI (va_up (va_up mi 0 0) 6 ((mi 6) ||| ((1 : Int32) <<< ((nI k) &&& 31)))) ma) := hD
    refine lv_aload_n hx hb dMd_writes_26 rfl (lv_at hl 0 rfl) ?_
    refine va_get (D := (dC, dI)) (ci := 3) (v := .ref y10) (C := RMd) (T := TMd) (N := 17) hx hb hts inMd hown hK hP 0 rfl rfl 16 (by decide) (hts _ in_81) (fun _ h9 => h9) rfl dMd_writes_27 ?_
    refine lv_iload_n hx hb dMd_writes_30 rfl (lv_at hl 1 rfl) ?_
    refine lv_iload_n hx hb dMd_writes_31 rfl (lv_at hl 2 rfl) ?_
    refine vq_iast (k := k) (f := ma 9) hx hb hK hP hD hS 10 0 rfl rfl rfl hk (by decide) dMd_writes_32 (fun H locs hP hD hS => ?_)
    have hP : va_P (dC, dI) vwCl (wM y y1 y2 y3 y4 y5 y6 y7 y8 y9 y10 cI (va_up (va_up mi 0 0) 6 ((mi 6) ||| ((1 : Int32) <<< ((nI k) &&& 31)))) (va_up ma 9 (upd (ma 9) k v))) H := hP
    have hD : va_D A (wM y y1 y2 y3 y4 y5 y6 y7 y8 y9 y10 cI (va_up (va_up mi 0 0) 6 ((mi 6) ||| ((1 : Int32) <<< ((nI k) &&& 31)))) (va_up ma 9 (upd (ma 9) k v))) := hD
    refine lv_iconst (v := 1) hx hb dMd_writes_33 (by decide) ?_
    have hP9 : va_P (dC, dI) vwCl (wM y y1 y2 y3 y4 y5 y6 y7 y8 y9 y10 cI (va_up (va_up mi 0 0) 6 (mi 6 ||| ((1 : Int32) <<< (nI k &&& 31)))) (va_up ma 9 (upd (ma 9) k v))) H := by exact hP
    have hD9 : va_D A (wM y y1 y2 y3 y4 y5 y6 y7 y8 y9 y10 cI (va_up (va_up mi 0 0) 6 (mi 6 ||| ((1 : Int32) <<< (nI k &&& 31)))) (va_up ma 9 (upd (ma 9) k v))) := by exact hD
    exact W.zret (v := 1) (ty := .boolean) hx hb hr rfl (fun t ht hW => ⟨⟨1, (), rfl, rfl, by rw [ht]; exact hP9, va_K.moved hW.alike hK, hD9⟩, hS.F ht⟩) hS.2.2 dMd_writes_34
  · skip
    exact absurd c_3 (s_in_ne hk)
set_option maxHeartbeats 4000000 in
set_option maxRecDepth 100000 in
/-- writes(k, v), no key -/
theorem k_M_writesN (l : Launch) (dC : Nat → ClassId) (dI : Nat → Nat → Nat) (sz : Nat) (y y1 y2 y3 y4 y5 y6 y7 y8 y9 y10 : Nat) (cI : ClassId) (mi : Nat → Int32) (ma : Nat → Nat → Int32) (k v : Int32) (hk : s_in k = 0) : Met l yMd_writes wsMd_writes ({ frames := 2, cells := 0, slots := 0, locals := 80 }) (va_Pc [.ref y, .int k, .int v] (fun U => U.heap.size = sz ∧ va_P (dC, dI) vwCl (wM y y1 y2 y3 y4 y5 y6 y7 y8 y9 y10 cI mi ma) U.heap ∧ va_K (dC, dI) vwCl [(cI, .int)] U ∧ va_D (fun _ => True) (wM y y1 y2 y3 y4 y5 y6 y7 y8 y9 y10 cI mi ma))) (va_Qi (fun (r : Int32) (_ : Unit) => r = 0) (fun _ t => va_P (dC, dI) vwCl (wM y y1 y2 y3 y4 y5 y6 y7 y8 y9 y10 cI (va_up mi 0 0) ma) t.heap ∧ va_K (dC, dI) vwCl [(cI, .int)] t ∧ va_D (va_A (wM y y1 y2 y3 y4 y5 y6 y7 y8 y9 y10 cI mi ma) sz) (wM y y1 y2 y3 y4 y5 y6 y7 y8 y9 y10 cI (va_up mi 0 0) ma)) (va_A (wM y y1 y2 y3 y4 y5 y6 y7 y8 y9 y10 cI mi ma) sz)) 0 0 (va_A (wM y y1 y2 y3 y4 y5 y6 y7 y8 y9 y10 cI mi ma) sz) := by
  refine Met.ofW (cc := cMd_writes) (maxL := 3) (ret := (some .boolean)) (by decide) rfl ?_
  intro p e s m args below meth c s₁ B hml hv
  obtain ⟨rfl, hsz, hP, hK, hD0⟩ := hv
  have hx := B.exec
  have hb := B.bytes
  have hr := B.returns
  have hts0 := atoms_spec (ws := wsMd_writes) B.pre
  have hts := fun (w : Cond) (h : w ∈ lw_g) => hts0 w (List.mem_cons_of_mem _ h)
  have hown : s.vm.findClass RMd = some m.cls := findClass_of_methodNamed B.named
  have hlocks := B.notSynchronized
  subst hsz
  have hD := hD0.self (sz := s.heap.size)
  generalize hAe : va_A (wM y y1 y2 y3 y4 y5 y6 y7 y8 y9 y10 cI mi ma) s.heap.size = A at hD ⊢
  have hA : ∀ q : Nat, s.heap.size ≤ q → A q := fun q h => by rw [← hAe]; exact Or.inr h
  have hS : va_S A s.heap s.heap [] := va_S.rf
  have hP : va_P (dC, dI) vwCl (wM y y1 y2 y3 y4 y5 y6 y7 y8 y9 y10 cI mi ma) s.heap := hP
  have hl := lv_entry ([.ref y, .int k, .int v]) (n := 3) (Nat.le_of_ble_eq_true rfl)
  rw [lg_entry_eq]
  generalize (lg_sl ([.ref y, .int k, .int v]) ++ List.replicate (3 - (lg_sl ([.ref y, .int k, .int v])).length) Slot.unset).toArray = ls at hl ⊢
  have hl : lv_has ls 3 [(0, .ref y), (1, .int k), (2, .int v)] := hl
  refine lv_aload_n hx hb dMd_writes_0 rfl (lv_at hl 0 rfl) ?_
  refine lv_iconst (v := 0) hx hb dMd_writes_1 (by decide) ?_
  refine va_put (D := (dC, dI)) (ci := 3) (v := .int 0) (ty := .int) (C := RMd) (T := TMd) (N := 17) hx hb hts inMd tyMd tyMd_ok nmMd hown hK hP hD hS 0 rfl rfl 0 (by decide) (hts _ in_71) (fun _ h9 => h9) rfl (by decide +kernel) rfl rfl (Nat.le_of_ble_eq_true rfl) dMd_writes_2 (fun H locs hP hD hS => ?_)
  have hP : va_P (dC, dI) vwCl (wM y y1 y2 y3 y4 y5 y6 y7 y8 y9 y10 cI (va_up mi 0 0) ma) H := hP
  have hD : va_D A (wM y y1 y2 y3 y4 y5 y6 y7 y8 y9 y10 cI (va_up mi 0 0) ma) := hD
  refine lv_iload_n hx hb dMd_writes_5 rfl (lv_at hl 1 rfl) ?_
  refine vp_callSi (W.runS (As := [.int k]) (rest := []) ⟨hx, hb, hml, hown, hts⟩ (k_M_is16 l k) (va_cwS 1 hts (gd_S in_72 in_75 in_74 in_73) rfl rfl rfl (by decide +kernel) ⟨Nat.le_of_ble_eq_true rfl, Nat.le_of_ble_eq_true rfl⟩) ⟨fun a U g mk q => q, fun U hU hW => ⟨rfl, trivial⟩⟩ rfl rfl hl.1 rfl (lv_room (Nat.le_of_ble_eq_true rfl)) dMd_writes_6 ⟨Nat.le_of_ble_eq_true rfl, Nat.le_of_ble_eq_true rfl⟩) (fun r_1 er_2 => ?_)
  subst er_2
  refine lv_if_ne (tgt := 14) hx hb dMd_writes_9 (by decide) (fun c_3 => ?_) (fun c_3 => ?_)
  · skip
    exact absurd hk c_3
  · skip
    refine lv_iconst (v := 0) hx hb dMd_writes_12 (by decide) ?_
    have hP9 : va_P (dC, dI) vwCl (wM y y1 y2 y3 y4 y5 y6 y7 y8 y9 y10 cI (va_up mi 0 0) ma) H := by exact hP
    have hD9 : va_D A (wM y y1 y2 y3 y4 y5 y6 y7 y8 y9 y10 cI (va_up mi 0 0) ma) := by exact hD
    exact W.zret (v := 0) (ty := .boolean) hx hb hr rfl (fun t ht hW => ⟨⟨0, (), rfl, rfl, by rw [ht]; exact hP9, va_K.moved hW.alike hK, hD9⟩, hS.F ht⟩) hS.2.2 dMd_writes_13
