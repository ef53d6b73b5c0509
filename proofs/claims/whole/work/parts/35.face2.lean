set_option maxHeartbeats 4000000 in
set_option maxRecDepth 100000 in
/-- draft(a, b, c) -/
theorem k_V_draft (l : Launch) (dC : Nat → ClassId) (dI : Nat → Nat → Nat) (sz : Nat) (x xa r ra : Nat) (cI cQ : ClassId) (ad : Nat → Nat → Nat) (ri rv : Nat → Int32) (a b c0 : Int32) : Met l yVf_draft wsVf_draft ({ frames := 5, cells := 0, slots := 0, locals := 200 }) (va_Pc [.ref x, .int a, .int b, .int c0] (fun U => U.heap.size = sz ∧ va_P (dC, dI) vwCl (wV x xa r cQ ad ++ wR r ra cI ri rv) U.heap ∧ va_K (dC, dI) vwCl [(cI, .int), (cQ, .object RFo)] U ∧ va_D (fun _ => True) (wV x xa r cQ ad ++ wR r ra cI ri rv))) (va_Qi (fun (r9 : Int32) (_ : Unit) => r9 = (s_dr ri a b c0).1) (fun _ t => va_P (dC, dI) vwCl (wV x xa r cQ ad ++ wR r ra cI ((s_dr ri a b c0).2) rv) t.heap ∧ va_K (dC, dI) vwCl [(cI, .int), (cQ, .object RFo)] t ∧ va_D (va_A (wV x xa r cQ ad ++ wR r ra cI ri rv) sz) (wV x xa r cQ ad ++ wR r ra cI ((s_dr ri a b c0).2) rv)) (va_A (wV x xa r cQ ad ++ wR r ra cI ri rv) sz)) 0 0 (va_A (wV x xa r cQ ad ++ wR r ra cI ri rv) sz) := by
  refine Met.ofW (cc := cVf_draft) (maxL := 4) (ret := (some .boolean)) (by decide) rfl ?_
  intro p e s m args below meth c s₁ B hml hv
  obtain ⟨rfl, hsz, hP, hK, hD0⟩ := hv
  have hx := B.exec
  have hb := B.bytes
  have hr := B.returns
  have hts0 := atoms_spec (ws := wsVf_draft) B.pre
  have hts := fun (w : Cond) (h : w ∈ lw_g) => hts0 w (List.mem_cons_of_mem _ h)
  have hown : s.vm.findClass RVf = some m.cls := findClass_of_methodNamed B.named
  have hlocks := B.notSynchronized
  subst hsz
  have hD := hD0.self (sz := s.heap.size)
  generalize hAe : va_A (wV x xa r cQ ad ++ wR r ra cI ri rv) s.heap.size = A at hD ⊢
  have hA : ∀ q : Nat, s.heap.size ≤ q → A q := fun q h => by rw [← hAe]; exact Or.inr h
  have hS : va_S A s.heap s.heap [] := va_S.rf
  have hP : va_P (dC, dI) vwCl (wV x xa r cQ ad ++ wR r ra cI ri rv) s.heap := hP
  have hl := lv_entry ([.ref x, .int a, .int b, .int c0]) (n := 4) (Nat.le_of_ble_eq_true rfl)
  rw [lg_entry_eq]
  generalize (lg_sl ([.ref x, .int a, .int b, .int c0]) ++ List.replicate (4 - (lg_sl ([.ref x, .int a, .int b, .int c0])).length) Slot.unset).toArray = ls at hl ⊢
  have hl : lv_has ls 4 [(0, .ref x), (1, .int a), (2, .int b), (3, .int c0)] := hl
  refine lv_iload_n hx hb dVf_draft_0 rfl (lv_at hl 1 rfl) ?_
  refine vp_callSi (W.runS (As := [.int a]) (rest := []) ⟨hx, hb, hml, hown, hts⟩ (k_V_isSession l a) (va_cwS 1 hts (gd_S in_114 in_116 in_112 in_115) rfl rfl rfl (by decide +kernel) ⟨Nat.le_of_ble_eq_true rfl, Nat.le_of_ble_eq_true rfl⟩) ⟨fun a U g mk q => q, fun U hU hW => ⟨rfl, trivial⟩⟩ rfl rfl hl.1 rfl (lv_room (Nat.le_of_ble_eq_true rfl)) dVf_draft_1 ⟨Nat.le_of_ble_eq_true rfl, Nat.le_of_ble_eq_true rfl⟩) (fun r_1 er_2 => ?_)
  subst er_2
  refine lv_if_eq (tgt := 16) hx hb dVf_draft_4 (by decide) (fun c_3 => ?_) (fun c_3 => ?_)
  · skip
    refine lv_iconst (v := 0) hx hb dVf_draft_16 (by decide) ?_
    have hP9 : va_P (dC, dI) vwCl (wV x xa r cQ ad ++ wR r ra cI ((s_dr ri a b c0).2) rv) s.heap := by simp only [s_dr, if_pos c_3]; exact hP
    have hD9 : va_D A (wV x xa r cQ ad ++ wR r ra cI ((s_dr ri a b c0).2) rv) := by simp only [s_dr, if_pos c_3]; exact hD
    exact W.zret (v := 0) (ty := .boolean) hx hb hr rfl (fun t ht hW => ⟨⟨0, (), rfl, by simp only [s_dr, if_pos c_3], by rw [ht]; exact hP9, va_K.moved hW.alike hK, hD9⟩, hS.F ht⟩) hS.2.2 dVf_draft_17
  · skip
    refine lv_iload_n hx hb dVf_draft_7 rfl (lv_at hl 2 rfl) ?_
    refine lv_iconst (v := 1) hx hb dVf_draft_8 (by decide) ?_
    refine lv_icmp_lt (tgt := 16) hx hb dVf_draft_9 (by decide) (fun c_4 => ?_) (fun c_4 => ?_)
    · skip
      refine lv_iconst (v := 0) hx hb dVf_draft_16 (by decide) ?_
      have hP9 : va_P (dC, dI) vwCl (wV x xa r cQ ad ++ wR r ra cI ((s_dr ri a b c0).2) rv) s.heap := by simp only [s_dr, if_neg c_3, if_pos c_4]; exact hP
      have hD9 : va_D A (wV x xa r cQ ad ++ wR r ra cI ((s_dr ri a b c0).2) rv) := by simp only [s_dr, if_neg c_3, if_pos c_4]; exact hD
      exact W.zret (v := 0) (ty := .boolean) hx hb hr rfl (fun t ht hW => ⟨⟨0, (), rfl, by simp only [s_dr, if_neg c_3, if_pos c_4], by rw [ht]; exact hP9, va_K.moved hW.alike hK, hD9⟩, hS.F ht⟩) hS.2.2 dVf_draft_17
    · skip
      refine lv_iload_n hx hb dVf_draft_12 rfl (lv_at hl 3 rfl) ?_
      refine lv_if_ge (tgt := 18) hx hb dVf_draft_13 (by decide) (fun c_5 => ?_) (fun c_5 => ?_)
      · skip
        refine lv_aload_n hx hb dVf_draft_18 rfl (lv_at hl 0 rfl) ?_
        refine va_get (D := (dC, dI)) (ci := 2) (v := .ref r) (C := RVf) (T := TVf) (N := 2) hx hb hts inVf hown hK hP 0 rfl rfl 1 (by decide) (hts _ in_122) (fun _ h9 => h9) rfl dVf_draft_19 ?_
        refine lv_iload_n hx hb dVf_draft_22 rfl (lv_at hl 1 rfl) ?_
        refine lv_iload_n hx hb dVf_draft_23 rfl (lv_at hl 2 rfl) ?_
        refine lv_iload_n hx hb dVf_draft_24 rfl (lv_at hl 3 rfl) ?_
        have hPc := hP.sub (ws' := (wR r ra cI ri rv)) [2, 3] rfl
        have hDc := hD.sub (ws' := (wR r ra cI ri rv)) [2, 3] (by decide) rfl
        have hKc := hK.sub (tys' := [(cI, .int)]) [0] rfl
        have hFc := va_free (wc := (wR r ra cI ri rv)) hD hS hA [2, 3] rfl
        refine va_callv (va_runV (As := [.int a, .int b, .int c0]) (rest := []) ⟨hx, hb, hml, hown, hts⟩ (k_R_begin l dC dI s.heap.size r ra cI ri rv a b c0) (cwV 3 hts (gd_V in_208 in_210 in_211 in_52 in_209) rfl rfl rfl (by decide +kernel) ⟨Nat.le_of_ble_eq_true rfl, Nat.le_of_ble_eq_true rfl⟩) ⟨fun a U g mk q => by obtain ⟨q0, q1, qP, qK, qD⟩ := q; exact ⟨q0, q1, qP, va_K.moved (u := U) (U := U.calling g mk a) (Vm.Alike.refl U.vm) qK, qD⟩, va_recv hKc hPc (ci := 1) (q0 := 0) rfl rfl, fun U hU hW => ⟨rfl, by rw [hU], by rw [hU]; exact hPc, va_K.moved hW.alike hKc, hDc.weaken (fun _ _ _ _ => trivial)⟩⟩ rfl rfl hl.1 rfl (lv_room (Nat.le_of_ble_eq_true rfl)) dVf_draft_25 ⟨Nat.le_of_ble_eq_true rfl, Nat.le_of_ble_eq_true rfl⟩) hS (fun q _ h => hFc q h) hFc (fun u t H1 locs ht hvm hw hB hz1 hk1 hS => ?_)
        obtain ⟨hP1, hK1, hD1⟩ := hB
        rw [ht] at hP1
        obtain ⟨hP, hD⟩ := va_join (wr := (wV x xa r cQ ad)) (w1 := (wR r ra cI (va_up (va_up (va_up (va_up (va_up ri 0 a) 1 b) 2 c0) 3 0) 4 0) rv)) hP hD [2, 3] [0, 1] rfl rfl (by decide) (by decide) hk1 hFc hP1 hD1
        generalize H1 = H at hP hS ⊢
        have hP : va_P (dC, dI) vwCl (wV x xa r cQ ad ++ wR r ra cI (va_up (va_up (va_up (va_up (va_up ri 0 a) 1 b) 2 c0) 3 0) 4 0) rv) H := hP
        have hD : va_D A (wV x xa r cQ ad ++ wR r ra cI (va_up (va_up (va_up (va_up (va_up ri 0 a) 1 b) 2 c0) 3 0) 4 0) rv) := hD
        refine lv_iconst (v := 1) hx hb dVf_draft_28 (by decide) ?_
        have hP9 : va_P (dC, dI) vwCl (wV x xa r cQ ad ++ wR r ra cI ((s_dr ri a b c0).2) rv) H := by simp only [s_dr, if_neg c_3, if_neg c_4, if_pos c_5]; exact hP
        have hD9 : va_D A (wV x xa r cQ ad ++ wR r ra cI ((s_dr ri a b c0).2) rv) := by simp only [s_dr, if_neg c_3, if_neg c_4, if_pos c_5]; exact hD
        exact W.zret (v := 1) (ty := .boolean) hx hb hr rfl (fun t ht hW => ⟨⟨1, (), rfl, by simp only [s_dr, if_neg c_3, if_neg c_4, if_pos c_5], by rw [ht]; exact hP9, va_K.moved hW.alike hK, hD9⟩, hS.F ht⟩) hS.2.2 dVf_draft_29
      · skip
        refine lv_iconst (v := 0) hx hb dVf_draft_16 (by decide) ?_
        have hP9 : va_P (dC, dI) vwCl (wV x xa r cQ ad ++ wR r ra cI ((s_dr ri a b c0).2) rv) s.heap := by simp only [s_dr, if_neg c_3, if_neg c_4, if_neg c_5]; exact hP
        have hD9 : va_D A (wV x xa r cQ ad ++ wR r ra cI ((s_dr ri a b c0).2) rv) := by simp only [s_dr, if_neg c_3, if_neg c_4, if_neg c_5]; exact hD
        exact W.zret (v := 0) (ty := .boolean) hx hb hr rfl (fun t ht hW => ⟨⟨0, (), rfl, by simp only [s_dr, if_neg c_3, if_neg c_4, if_neg c_5], by rw [ht]; exact hP9, va_K.moved hW.alike hK, hD9⟩, hS.F ht⟩) hS.2.2 dVf_draft_17
set_option maxHeartbeats 4000000 in
set_option maxRecDepth 100000 in
/-- reads(z) -/
theorem k_V_reads (l : Launch) (dC : Nat → ClassId) (dI : Nat → Nat → Nat) (sz : Nat) (x xa r ra : Nat) (cI cQ : ClassId) (ad : Nat → Nat → Nat) (ri rv : Nat → Int32) (z : Int32) : Met l yVf_reads wsVf_reads ({ frames := 5, cells := 0, slots := 0, locals := 200 }) (va_Pc [.ref x, .int z] (fun U => U.heap.size = sz ∧ va_P (dC, dI) vwCl (wV x xa r cQ ad ++ wR r ra cI ri rv) U.heap ∧ va_K (dC, dI) vwCl [(cI, .int), (cQ, .object RFo)] U ∧ va_D (fun _ => True) (wV x xa r cQ ad ++ wR r ra cI ri rv))) (va_Qi (fun (r9 : Int32) (_ : Unit) => r9 = s_in z) (fun _ t => va_P (dC, dI) vwCl (wV x xa r cQ ad ++ wR r ra cI (s_rd ri z) rv) t.heap ∧ va_K (dC, dI) vwCl [(cI, .int), (cQ, .object RFo)] t ∧ va_D (va_A (wV x xa r cQ ad ++ wR r ra cI ri rv) sz) (wV x xa r cQ ad ++ wR r ra cI (s_rd ri z) rv)) (va_A (wV x xa r cQ ad ++ wR r ra cI ri rv) sz)) 0 0 (va_A (wV x xa r cQ ad ++ wR r ra cI ri rv) sz) := by
  refine Met.ofW (cc := cVf_reads) (maxL := 2) (ret := (some .boolean)) (by decide) rfl ?_
  intro p e s m args below meth c s₁ B hml hv
  obtain ⟨rfl, hsz, hP, hK, hD0⟩ := hv
  have hx := B.exec
  have hb := B.bytes
  have hr := B.returns
  have hts0 := atoms_spec (ws := wsVf_reads) B.pre
  have hts := fun (w : Cond) (h : w ∈ lw_g) => hts0 w (List.mem_cons_of_mem _ h)
  have hown : s.vm.findClass RVf = some m.cls := findClass_of_methodNamed B.named
  have hlocks := B.notSynchronized
  subst hsz
  have hD := hD0.self (sz := s.heap.size)
  generalize hAe : va_A (wV x xa r cQ ad ++ wR r ra cI ri rv) s.heap.size = A at hD ⊢
  have hA : ∀ q : Nat, s.heap.size ≤ q → A q := fun q h => by rw [← hAe]; exact Or.inr h
  have hS : va_S A s.heap s.heap [] := va_S.rf
  have hP : va_P (dC, dI) vwCl (wV x xa r cQ ad ++ wR r ra cI ri rv) s.heap := hP
  have hl := lv_entry ([.ref x, .int z]) (n := 2) (Nat.le_of_ble_eq_true rfl)
  rw [lg_entry_eq]
  generalize (lg_sl ([.ref x, .int z]) ++ List.replicate (2 - (lg_sl ([.ref x, .int z])).length) Slot.unset).toArray = ls at hl ⊢
  have hl : lv_has ls 2 [(0, .ref x), (1, .int z)] := hl
  refine lv_iload_n hx hb dVf_reads_0 rfl (lv_at hl 1 rfl) ?_
  refine vp_callSi (W.runS (As := [.int z]) (rest := []) ⟨hx, hb, hml, hown, hts⟩ (k_V_isKey l z) (va_cwS 1 hts (gd_S in_110 in_113 in_112 in_111) rfl rfl rfl (by decide +kernel) ⟨Nat.le_of_ble_eq_true rfl, Nat.le_of_ble_eq_true rfl⟩) ⟨fun a U g mk q => q, fun U hU hW => ⟨rfl, trivial⟩⟩ rfl rfl hl.1 rfl (lv_room (Nat.le_of_ble_eq_true rfl)) dVf_reads_1 ⟨Nat.le_of_ble_eq_true rfl, Nat.le_of_ble_eq_true rfl⟩) (fun r_1 er_2 => ?_)
  subst er_2
  refine lv_if_ne (tgt := 9) hx hb dVf_reads_4 (by decide) (fun c_3 => ?_) (fun c_3 => ?_)
  · skip
    refine lv_aload_n hx hb dVf_reads_9 rfl (lv_at hl 0 rfl) ?_
    refine va_get (D := (dC, dI)) (ci := 2) (v := .ref r) (C := RVf) (T := TVf) (N := 2) hx hb hts inVf hown hK hP 0 rfl rfl 1 (by decide) (hts _ in_122) (fun _ h9 => h9) rfl dVf_reads_10 ?_
    refine lv_iload_n hx hb dVf_reads_13 rfl (lv_at hl 1 rfl) ?_
    have hPc := hP.sub (ws' := (wR r ra cI ri rv)) [2, 3] rfl
    have hDc := hD.sub (ws' := (wR r ra cI ri rv)) [2, 3] (by decide) rfl
    have hKc := hK.sub (tys' := [(cI, .int)]) [0] rfl
    have hFc := va_free (wc := (wR r ra cI ri rv)) hD hS hA [2, 3] rfl
    refine va_callv (va_runV (As := [.int z]) (rest := []) ⟨hx, hb, hml, hown, hts⟩ (k_R_addRead l dC dI s.heap.size r ra cI ri rv z) (cwV 1 hts (gd_V in_212 in_214 in_215 in_52 in_213) rfl rfl rfl (by decide +kernel) ⟨Nat.le_of_ble_eq_true rfl, Nat.le_of_ble_eq_true rfl⟩) ⟨fun a U g mk q => by obtain ⟨q0, q1, qP, qK, qD⟩ := q; exact ⟨q0, q1, qP, va_K.moved (u := U) (U := U.calling g mk a) (Vm.Alike.refl U.vm) qK, qD⟩, va_recv hKc hPc (ci := 1) (q0 := 0) rfl rfl, fun U hU hW => ⟨rfl, by rw [hU], by rw [hU]; exact hPc, va_K.moved hW.alike hKc, hDc.weaken (fun _ _ _ _ => trivial)⟩⟩ rfl rfl hl.1 rfl (lv_room (Nat.le_of_ble_eq_true rfl)) dVf_reads_14 ⟨Nat.le_of_ble_eq_true rfl, Nat.le_of_ble_eq_true rfl⟩) hS (fun q _ h => hFc q h) hFc (fun u t H1 locs ht hvm hw hB hz1 hk1 hS => ?_)
    obtain ⟨hP1, hK1, hD1⟩ := hB
    rw [ht] at hP1
    obtain ⟨hP, hD⟩ := va_join (wr := (wV x xa r cQ ad)) (w1 := (wR r ra cI (va_up ri 3 (ri 3 ||| ((1 : Int32) <<< (z &&& 31)))) rv)) hP hD [2, 3] [0, 1] rfl rfl (by decide) (by decide) hk1 hFc hP1 hD1
    generalize H1 = H at hP hS ⊢
    have hP : va_P (dC, dI) vwCl (wV x xa r cQ ad ++ wR r ra cI (va_up ri 3 (ri 3 ||| ((1 : Int32) <<< (z &&& 31)))) rv) H := hP
    have hD : va_D A (wV x xa r cQ ad ++ wR r ra cI (va_up ri 3 (ri 3 ||| ((1 : Int32) <<< (z &&& 31)))) rv) := hD
    refine lv_iconst (v := 1) hx hb dVf_reads_17 (by decide) ?_
    have hP9 : va_P (dC, dI) vwCl (wV x xa r cQ ad ++ wR r ra cI (s_rd ri z) rv) H := by simp only [s_rd, if_neg c_3]; exact hP
    have hD9 : va_D A (wV x xa r cQ ad ++ wR r ra cI (s_rd ri z) rv) := by simp only [s_rd, if_neg c_3]; exact hD
    exact W.zret (v := 1) (ty := .boolean) hx hb hr rfl (fun t ht hW => ⟨⟨1, (), rfl, (s_in_01 c_3).symm, by rw [ht]; exact hP9, va_K.moved hW.alike hK, hD9⟩, hS.F ht⟩) hS.2.2 dVf_reads_18
  · skip
    refine lv_iconst (v := 0) hx hb dVf_reads_7 (by decide) ?_
    have hP9 : va_P (dC, dI) vwCl (wV x xa r cQ ad ++ wR r ra cI (s_rd ri z) rv) s.heap := by simp only [s_rd, if_pos c_3]; exact hP
    have hD9 : va_D A (wV x xa r cQ ad ++ wR r ra cI (s_rd ri z) rv) := by simp only [s_rd, if_pos c_3]; exact hD
    exact W.zret (v := 0) (ty := .boolean) hx hb hr rfl (fun t ht hW => ⟨⟨0, (), rfl, c_3.symm, by rw [ht]; exact hP9, va_K.moved hW.alike hK, hD9⟩, hS.F ht⟩) hS.2.2 dVf_reads_8
set_option maxHeartbeats 4000000 in
set_option maxRecDepth 100000 in
/-- writes(z, v) -/
theorem k_V_writes (l : Launch) (dC : Nat → ClassId) (dI : Nat → Nat → Nat) (sz : Nat) (x xa r ra : Nat) (cI cQ : ClassId) (ad : Nat → Nat → Nat) (ri rv : Nat → Int32) (z : Nat) (hz : z < 16) (v : Int32) : Met l yVf_writes wsVf_writes ({ frames := 5, cells := 0, slots := 0, locals := 200 }) (va_Pc [.ref x, .int (nI z), .int v] (fun U => U.heap.size = sz ∧ va_P (dC, dI) vwCl (wV x xa r cQ ad ++ wR r ra cI ri rv) U.heap ∧ va_K (dC, dI) vwCl [(cI, .int), (cQ, .object RFo)] U ∧ va_D (fun _ => True) (wV x xa r cQ ad ++ wR r ra cI ri rv))) (va_Qi (fun (r9 : Int32) (_ : Unit) => r9 = 1) (fun _ t => va_P (dC, dI) vwCl (wV x xa r cQ ad ++ wR r ra cI (va_up ri 4 (ri 4 ||| ((1 : Int32) <<< (nI z &&& 31)))) (upd rv z v)) t.heap ∧ va_K (dC, dI) vwCl [(cI, .int), (cQ, .object RFo)] t ∧ va_D (va_A (wV x xa r cQ ad ++ wR r ra cI ri rv) sz) (wV x xa r cQ ad ++ wR r ra cI (va_up ri 4 (ri 4 ||| ((1 : Int32) <<< (nI z &&& 31)))) (upd rv z v))) (va_A (wV x xa r cQ ad ++ wR r ra cI ri rv) sz)) 0 0 (va_A (wV x xa r cQ ad ++ wR r ra cI ri rv) sz) := by
  refine Met.ofW (cc := cVf_writes) (maxL := 3) (ret := (some .boolean)) (by decide) rfl ?_
  intro p e s m args below meth c s₁ B hml hv
  obtain ⟨rfl, hsz, hP, hK, hD0⟩ := hv
  have hx := B.exec
  have hb := B.bytes
  have hr := B.returns
  have hts0 := atoms_spec (ws := wsVf_writes) B.pre
  have hts := fun (w : Cond) (h : w ∈ lw_g) => hts0 w (List.mem_cons_of_mem _ h)
  have hown : s.vm.findClass RVf = some m.cls := findClass_of_methodNamed B.named
  have hlocks := B.notSynchronized
  subst hsz
  have hD := hD0.self (sz := s.heap.size)
  generalize hAe : va_A (wV x xa r cQ ad ++ wR r ra cI ri rv) s.heap.size = A at hD ⊢
  have hA : ∀ q : Nat, s.heap.size ≤ q → A q := fun q h => by rw [← hAe]; exact Or.inr h
  have hS : va_S A s.heap s.heap [] := va_S.rf
  have hP : va_P (dC, dI) vwCl (wV x xa r cQ ad ++ wR r ra cI ri rv) s.heap := hP
  have hl := lv_entry ([.ref x, .int (nI z), .int v]) (n := 3) (Nat.le_of_ble_eq_true rfl)
  rw [lg_entry_eq]
  generalize (lg_sl ([.ref x, .int (nI z), .int v]) ++ List.replicate (3 - (lg_sl ([.ref x, .int (nI z), .int v])).length) Slot.unset).toArray = ls at hl ⊢
  have hl : lv_has ls 3 [(0, .ref x), (1, .int (nI z)), (2, .int v)] := hl
  refine lv_iload_n hx hb dVf_writes_0 rfl (lv_at hl 1 rfl) ?_
  refine vp_callSi (W.runS (As := [.int (nI z)]) (rest := []) ⟨hx, hb, hml, hown, hts⟩ (k_V_isKey l (nI z)) (va_cwS 1 hts (gd_S in_110 in_113 in_112 in_111) rfl rfl rfl (by decide +kernel) ⟨Nat.le_of_ble_eq_true rfl, Nat.le_of_ble_eq_true rfl⟩) ⟨fun a U g mk q => q, fun U hU hW => ⟨rfl, trivial⟩⟩ rfl rfl hl.1 rfl (lv_room (Nat.le_of_ble_eq_true rfl)) dVf_writes_1 ⟨Nat.le_of_ble_eq_true rfl, Nat.le_of_ble_eq_true rfl⟩) (fun r_1 er_2 => ?_)
  subst er_2
  refine lv_if_ne (tgt := 9) hx hb dVf_writes_4 (by decide) (fun c_3 => ?_) (fun c_3 => ?_)
  · skip
    refine lv_aload_n hx hb dVf_writes_9 rfl (lv_at hl 0 rfl) ?_
    refine va_get (D := (dC, dI)) (ci := 2) (v := .ref r) (C := RVf) (T := TVf) (N := 2) hx hb hts inVf hown hK hP 0 rfl rfl 1 (by decide) (hts _ in_122) (fun _ h9 => h9) rfl dVf_writes_10 ?_
    refine lv_iload_n hx hb dVf_writes_13 rfl (lv_at hl 1 rfl) ?_
    refine lv_iload_n hx hb dVf_writes_14 rfl (lv_at hl 2 rfl) ?_
    have hPc := hP.sub (ws' := (wR r ra cI ri rv)) [2, 3] rfl
    have hDc := hD.sub (ws' := (wR r ra cI ri rv)) [2, 3] (by decide) rfl
    have hKc := hK.sub (tys' := [(cI, .int)]) [0] rfl
    have hFc := va_free (wc := (wR r ra cI ri rv)) hD hS hA [2, 3] rfl
    refine va_callv (va_runV (As := [.int (nI z), .int v]) (rest := []) ⟨hx, hb, hml, hown, hts⟩ (k_R_addWrite l dC dI s.heap.size r ra cI ri rv z hz v) (cwV 2 hts (gd_V in_216 in_218 in_219 in_52 in_217) rfl rfl rfl (by decide +kernel) ⟨Nat.le_of_ble_eq_true rfl, Nat.le_of_ble_eq_true rfl⟩) ⟨fun a U g mk q => by obtain ⟨q0, q1, qP, qK, qD⟩ := q; exact ⟨q0, q1, qP, va_K.moved (u := U) (U := U.calling g mk a) (Vm.Alike.refl U.vm) qK, qD⟩, va_recv hKc hPc (ci := 1) (q0 := 0) rfl rfl, fun U hU hW => ⟨rfl, by rw [hU], by rw [hU]; exact hPc, va_K.moved hW.alike hKc, hDc.weaken (fun _ _ _ _ => trivial)⟩⟩ rfl rfl hl.1 rfl (lv_room (Nat.le_of_ble_eq_true rfl)) dVf_writes_15 ⟨Nat.le_of_ble_eq_true rfl, Nat.le_of_ble_eq_true rfl⟩) hS (fun q _ h => hFc q h) hFc (fun u t H1 locs ht hvm hw hB hz1 hk1 hS => ?_)
    obtain ⟨hP1, hK1, hD1⟩ := hB
    rw [ht] at hP1
    obtain ⟨hP, hD⟩ := va_join (wr := (wV x xa r cQ ad)) (w1 := (wR r ra cI (va_up ri 4 (ri 4 ||| ((1 : Int32) <<< (nI z &&& 31)))) (upd rv z v))) hP hD [2, 3] [0, 1] rfl rfl (by decide) (by decide) hk1 hFc hP1 hD1
    generalize H1 = H at hP hS ⊢
    have hP : va_P (dC, dI) vwCl (wV x xa r cQ ad ++ wR r ra cI (va_up ri 4 (ri 4 ||| ((1 : Int32) <<< (nI z &&& 31)))) (upd rv z v)) H := hP
    have hD : va_D A (wV x xa r cQ ad ++ wR r ra cI (va_up ri 4 (ri 4 ||| ((1 : Int32) <<< (nI z &&& 31)))) (upd rv z v)) := hD
    refine lv_iconst (v := 1) hx hb dVf_writes_18 (by decide) ?_
    have hP9 : va_P (dC, dI) vwCl (wV x xa r cQ ad ++ wR r ra cI (va_up ri 4 (ri 4 ||| ((1 : Int32) <<< (nI z &&& 31)))) (upd rv z v)) H := by exact hP
    have hD9 : va_D A (wV x xa r cQ ad ++ wR r ra cI (va_up ri 4 (ri 4 ||| ((1 : Int32) <<< (nI z &&& 31)))) (upd rv z v)) := by exact hD
    exact W.zret (v := 1) (ty := .boolean) hx hb hr rfl (fun t ht hW => ⟨⟨1, (), rfl, rfl, by rw [ht]; exact hP9, va_K.moved hW.alike hK, hD9⟩, hS.F ht⟩) hS.2.2 dVf_writes_19
  · skip
    exact absurd c_3 (s_in_ne hz)
set_option maxHeartbeats 4000000 in
set_option maxRecDepth 100000 in
/-- writes(z, v), no key -/
theorem k_V_writesN (l : Launch) (dC : Nat → ClassId) (dI : Nat → Nat → Nat) (x xa r ra : Nat) (cI cQ : ClassId) (ad : Nat → Nat → Nat) (ri rv : Nat → Int32) (z v : Int32) (hz : s_in z = 0) : Met l yVf_writes wsVf_writes ({ frames := 5, cells := 0, slots := 0, locals := 200 }) (va_Pc [.ref x, .int z, .int v] (fun U => va_P (dC, dI) vwCl (wV x xa r cQ ad ++ wR r ra cI ri rv) U.heap ∧ va_K (dC, dI) vwCl [(cI, .int), (cQ, .object RFo)] U)) (vp_Si (fun r => r = 0)) 0 0 (fun _ => False) := by
  refine Met.ofW (cc := cVf_writes) (maxL := 3) (ret := (some .boolean)) (by decide) rfl ?_
  intro p e s m args below meth c s₁ B hml hv
  obtain ⟨rfl, hP, hK⟩ := hv
  have hx := B.exec
  have hb := B.bytes
  have hr := B.returns
  have hts0 := atoms_spec (ws := wsVf_writes) B.pre
  have hts := fun (w : Cond) (h : w ∈ lw_g) => hts0 w (List.mem_cons_of_mem _ h)
  have hown : s.vm.findClass RVf = some m.cls := findClass_of_methodNamed B.named
  have hlocks := B.notSynchronized
  have hl := lv_entry ([.ref x, .int z, .int v]) (n := 3) (Nat.le_of_ble_eq_true rfl)
  rw [lg_entry_eq]
  generalize (lg_sl ([.ref x, .int z, .int v]) ++ List.replicate (3 - (lg_sl ([.ref x, .int z, .int v])).length) Slot.unset).toArray = ls at hl ⊢
  have hl : lv_has ls 3 [(0, .ref x), (1, .int z), (2, .int v)] := hl
  refine lv_iload_n hx hb dVf_writes_0 rfl (lv_at hl 1 rfl) ?_
  refine vp_callSi (W.runS (As := [.int z]) (rest := []) ⟨hx, hb, hml, hown, hts⟩ (k_V_isKey l z) (va_cwS 1 hts (gd_S in_110 in_113 in_112 in_111) rfl rfl rfl (by decide +kernel) ⟨Nat.le_of_ble_eq_true rfl, Nat.le_of_ble_eq_true rfl⟩) ⟨fun a U g mk q => q, fun U hU hW => ⟨rfl, trivial⟩⟩ rfl rfl hl.1 rfl (lv_room (Nat.le_of_ble_eq_true rfl)) dVf_writes_1 ⟨Nat.le_of_ble_eq_true rfl, Nat.le_of_ble_eq_true rfl⟩) (fun r_1 er_2 => ?_)
  subst er_2
  refine lv_if_ne (tgt := 9) hx hb dVf_writes_4 (by decide) (fun c_3 => ?_) (fun c_3 => ?_)
  · skip
    exact absurd hz c_3
  · skip
    refine lv_iconst (v := 0) hx hb dVf_writes_7 (by decide) ?_
    exact W.zret (v := 0) (ty := .boolean) hx hb hr rfl (fun t ht hW => ⟨0, rfl, rfl, ht⟩) (fun q h => by cases h) dVf_writes_8
set_option maxHeartbeats 4000000 in
set_option maxRecDepth 100000 in
/-- apply(k) -/
theorem k_V_apply (l : Launch) (dC : Nat → ClassId) (dI : Nat → Nat → Nat) (sz : Nat) (x xa r ra : Nat) (cI cQ : ClassId) (ad : Nat → Nat → Nat) (ri rv : Nat → Int32) (k f1 f2 f3 f4 : Nat) (hk4 : k < 4) (fi : Nat → Int32) (fa : Nat → Nat → Int32) (n se : Nat) (hn : n < 2 ^ 30) (hix : fi 1 = nI n) (hse : ri 0 = nI se) (hs16 : se < 16) : Met l yVf_apply wsVf_apply ({ frames := 5, cells := 0, slots := 0, locals := 200 }) (va_Pc [.ref x, .int (nI k)] (fun U => U.heap.size = sz ∧ va_P (dC, dI) vwCl (wV x xa r cQ ad ++ wR r ra cI ri rv ++ wF (ad k 0) f1 f2 f3 f4 cI fi fa) U.heap ∧ va_K (dC, dI) vwCl [(cI, .int), (cQ, .object RFo)] U ∧ va_D (fun _ => True) (wV x xa r cQ ad ++ wR r ra cI ri rv ++ wF (ad k 0) f1 f2 f3 f4 cI fi fa))) (va_Qi (fun (r9 : Int32) (_ : Unit) => r9 = (s_adm fi fa ri rv n se).1) (fun _ t => va_P (dC, dI) vwCl (wV x xa r cQ ad ++ wR r ra cI ri rv ++ wF (ad k 0) f1 f2 f3 f4 cI ((s_adm fi fa ri rv n se).2.1) ((s_adm fi fa ri rv n se).2.2)) t.heap ∧ va_K (dC, dI) vwCl [(cI, .int), (cQ, .object RFo)] t ∧ va_D (va_A (wV x xa r cQ ad ++ wR r ra cI ri rv ++ wF (ad k 0) f1 f2 f3 f4 cI fi fa) sz) (wV x xa r cQ ad ++ wR r ra cI ri rv ++ wF (ad k 0) f1 f2 f3 f4 cI ((s_adm fi fa ri rv n se).2.1) ((s_adm fi fa ri rv n se).2.2))) (va_A (wV x xa r cQ ad ++ wR r ra cI ri rv ++ wF (ad k 0) f1 f2 f3 f4 cI fi fa) sz)) 0 0 (va_A (wV x xa r cQ ad ++ wR r ra cI ri rv ++ wF (ad k 0) f1 f2 f3 f4 cI fi fa) sz) := by
  refine Met.ofW (cc := cVf_apply) (maxL := 2) (ret := (some .int)) (by decide) rfl ?_
  intro p e s m args below meth c s₁ B hml hv
  obtain ⟨rfl, hsz, hP, hK, hD0⟩ := hv
  have hx := B.exec
  have hb := B.bytes
  have hr := B.returns
  have hts0 := atoms_spec (ws := wsVf_apply) B.pre
  have hts := fun (w : Cond) (h : w ∈ lw_g) => hts0 w (List.mem_cons_of_mem _ h)
  have hown : s.vm.findClass RVf = some m.cls := findClass_of_methodNamed B.named
  have hlocks := B.notSynchronized
  subst hsz
  have hD := hD0.self (sz := s.heap.size)
  generalize hAe : va_A (wV x xa r cQ ad ++ wR r ra cI ri rv ++ wF (ad k 0) f1 f2 f3 f4 cI fi fa) s.heap.size = A at hD ⊢
  have hA : ∀ q : Nat, s.heap.size ≤ q → A q := fun q h => by rw [← hAe]; exact Or.inr h
  have hS : va_S A s.heap s.heap [] := va_S.rf
  have hP : va_P (dC, dI) vwCl (wV x xa r cQ ad ++ wR r ra cI ri rv ++ wF (ad k 0) f1 f2 f3 f4 cI fi fa) s.heap := hP
  have hl := lv_entry ([.ref x, .int (nI k)]) (n := 2) (Nat.le_of_ble_eq_true rfl)
  rw [lg_entry_eq]
  generalize (lg_sl ([.ref x, .int (nI k)]) ++ List.replicate (2 - (lg_sl ([.ref x, .int (nI k)])).length) Slot.unset).toArray = ls at hl ⊢
  have hl : lv_has ls 2 [(0, .ref x), (1, .int (nI k))] := hl
  refine lv_aload_n hx hb dVf_apply_0 rfl (lv_at hl 0 rfl) ?_
  refine lv_iload_n hx hb dVf_apply_1 rfl (lv_at hl 1 rfl) ?_
  have hPc := hP.sub (ws' := (wV x xa r cQ ad)) [0, 1] rfl
  have hKc := hK.sub (tys' := [(cI, .int), (cQ, .object RFo)]) [0, 1] rfl
  refine va_csr (W.runV (As := [.int (nI k)]) (rest := []) ⟨hx, hb, hml, hown, hts⟩ (k_V_foldAt l dC dI x xa r cI cQ ad k hk4) (cwV 1 hts (gd_V in_118 in_120 in_121 in_112 in_119) rfl rfl rfl (by decide +kernel) ⟨Nat.le_of_ble_eq_true rfl, Nat.le_of_ble_eq_true rfl⟩) ⟨fun a U g mk q => by obtain ⟨q0, qP, qK⟩ := q; exact ⟨q0, qP, va_K.moved (u := U) (U := U.calling g mk a) (Vm.Alike.refl U.vm) qK⟩, va_recv hKc hPc (ci := 2) (q0 := 0) rfl rfl, fun U hU hW => ⟨rfl, by rw [hU]; exact hPc, va_K.moved hW.alike hKc⟩⟩ rfl rfl hl.1 rfl (lv_room (Nat.le_of_ble_eq_true rfl)) dVf_apply_2 ⟨Nat.le_of_ble_eq_true rfl, Nat.le_of_ble_eq_true rfl⟩) (fun j_1 ej_2 => ?_)
  rw [ej_2]
  refine lv_aload_n hx hb dVf_apply_5 rfl (lv_at hl 0 rfl) ?_
  refine va_get (D := (dC, dI)) (ci := 2) (v := .ref r) (C := RVf) (T := TVf) (N := 2) hx hb hts inVf hown hK hP 0 rfl rfl 1 (by decide) (hts _ in_122) (fun _ h9 => h9) rfl dVf_apply_6 ?_
  have hPc := hP.sub (ws' := (wF (ad k 0) f1 f2 f3 f4 cI fi fa ++ wR r ra cI ri rv)) [4, 5, 6, 7, 8, 2, 3] rfl
  have hDc := hD.sub (ws' := (wF (ad k 0) f1 f2 f3 f4 cI fi fa ++ wR r ra cI ri rv)) [4, 5, 6, 7, 8, 2, 3] (by decide) rfl
  have hKc := hK.sub (tys' := [(cI, .int)]) [0] rfl
  have hFc := va_free (wc := (wF (ad k 0) f1 f2 f3 f4 cI fi fa ++ wR r ra cI ri rv)) hD hS hA [4, 5, 6, 7, 8, 2, 3] rfl
  refine va_calli (va_runV (As := [.ref r]) (rest := []) ⟨hx, hb, hml, hown, hts⟩ (k_F_letIn l dC dI s.heap.size (ad k 0) f1 f2 f3 f4 cI fi fa r ra ri rv n se hn hix hse hs16) (cwV 1 hts (gd_V in_220 in_222 in_223 in_17 in_221) rfl rfl rfl (by decide +kernel) ⟨Nat.le_of_ble_eq_true rfl, Nat.le_of_ble_eq_true rfl⟩) ⟨fun a U g mk q => by obtain ⟨q0, q1, qP, qK, qD⟩ := q; exact ⟨q0, q1, qP, va_K.moved (u := U) (U := U.calling g mk a) (Vm.Alike.refl U.vm) qK, qD⟩, va_recv hKc hPc (ci := 0) (q0 := 0) rfl rfl, fun U hU hW => ⟨rfl, by rw [hU], by rw [hU]; exact hPc, va_K.moved hW.alike hKc, hDc.weaken (fun _ _ _ _ => trivial)⟩⟩ rfl rfl hl.1 rfl (lv_room (Nat.le_of_ble_eq_true rfl)) dVf_apply_9 ⟨Nat.le_of_ble_eq_true rfl, Nat.le_of_ble_eq_true rfl⟩) hS (fun q _ h => hFc q h) hFc (fun r_3 u t H1 locs ht hvm hw hB hz1 hk1 hS => ?_)
  obtain ⟨hP1, hK1, hD1⟩ := hB
  rw [ht] at hP1
  obtain ⟨hP, hD⟩ := va_join (wr := (wV x xa r cQ ad)) (w1 := (wF (ad k 0) f1 f2 f3 f4 cI ((s_adm fi fa ri rv n se).2.1) ((s_adm fi fa ri rv n se).2.2) ++ wR r ra cI ri rv)) hP hD [4, 5, 6, 7, 8, 2, 3] [0, 1] rfl rfl (by decide) (by decide) hk1 hFc hP1 hD1
  generalize H1 = H at hP hS ⊢
  have hP := hP.sub (ws' := (wV x xa r cQ ad ++ wR r ra cI ri rv ++ wF (ad k 0) f1 f2 f3 f4 cI ((s_adm fi fa ri rv n se).2.1) ((s_adm fi fa ri rv n se).2.2))) [0, 1, 7, 8, 2, 3, 4, 5, 6] rfl
  have hD := hD.sub (ws' := (wV x xa r cQ ad ++ wR r ra cI ri rv ++ wF (ad k 0) f1 f2 f3 f4 cI ((s_adm fi fa ri rv n se).2.1) ((s_adm fi fa ri rv n se).2.2))) [0, 1, 7, 8, 2, 3, 4, 5, 6] (by decide) rfl
  have hP : va_P (dC, dI) vwCl (wV x xa r cQ ad ++ wR r ra cI ri rv ++ wF (ad k 0) f1 f2 f3 f4 cI ((s_adm fi fa ri rv n se).2.1) ((s_adm fi fa ri rv n se).2.2)) H := hP
  have hD : va_D A (wV x xa r cQ ad ++ wR r ra cI ri rv ++ wF (ad k 0) f1 f2 f3 f4 cI ((s_adm fi fa ri rv n se).2.1) ((s_adm fi fa ri rv n se).2.2)) := hD
  have hw : r_3 = (s_adm fi fa ri rv n se).1 := hw
  subst hw
  have hP9 : va_P (dC, dI) vwCl (wV x xa r cQ ad ++ wR r ra cI ri rv ++ wF (ad k 0) f1 f2 f3 f4 cI ((s_adm fi fa ri rv n se).2.1) ((s_adm fi fa ri rv n se).2.2)) H := by exact hP
  have hD9 : va_D A (wV x xa r cQ ad ++ wR r ra cI ri rv ++ wF (ad k 0) f1 f2 f3 f4 cI ((s_adm fi fa ri rv n se).2.1) ((s_adm fi fa ri rv n se).2.2)) := by exact hD
  exact W.iret (v := (s_adm fi fa ri rv n se).1) hx hb hr (fun t ht hW => ⟨⟨(s_adm fi fa ri rv n se).1, (), rfl, rfl, by rw [ht]; exact hP9, va_K.moved hW.alike hK, hD9⟩, hS.F ht⟩) hS.2.2 dVf_apply_12
set_option maxHeartbeats 4000000 in
set_option maxRecDepth 100000 in
/-- clear(k) -/
theorem k_V_clear (l : Launch) (dC : Nat → ClassId) (dI : Nat → Nat → Nat) (sz : Nat) (x xa r ra : Nat) (cI cQ : ClassId) (ad : Nat → Nat → Nat) (ri rv : Nat → Int32) (k f1 f2 f3 f4 : Nat) (hk4 : k < 4) (fi : Nat → Int32) (fa : Nat → Nat → Int32) : Met l yVf_clear wsVf_clear ({ frames := 5, cells := 0, slots := 0, locals := 200 }) (va_Pc [.ref x, .int (nI k)] (fun U => U.heap.size = sz ∧ va_P (dC, dI) vwCl (wV x xa r cQ ad ++ wR r ra cI ri rv ++ wF (ad k 0) f1 f2 f3 f4 cI fi fa) U.heap ∧ va_K (dC, dI) vwCl [(cI, .int), (cQ, .object RFo)] U ∧ va_D (fun _ => True) (wV x xa r cQ ad ++ wR r ra cI ri rv ++ wF (ad k 0) f1 f2 f3 f4 cI fi fa))) (va_Qv (fun (_ : Unit) => True) (fun _ t => va_P (dC, dI) vwCl (wV x xa r cQ ad ++ wR r ra cI ri rv ++ wF (ad k 0) f1 f2 f3 f4 cI (s_rsi fi) (s_rsa fa)) t.heap ∧ va_K (dC, dI) vwCl [(cI, .int), (cQ, .object RFo)] t ∧ va_D (va_A (wV x xa r cQ ad ++ wR r ra cI ri rv ++ wF (ad k 0) f1 f2 f3 f4 cI fi fa) sz) (wV x xa r cQ ad ++ wR r ra cI ri rv ++ wF (ad k 0) f1 f2 f3 f4 cI (s_rsi fi) (s_rsa fa))) (va_A (wV x xa r cQ ad ++ wR r ra cI ri rv ++ wF (ad k 0) f1 f2 f3 f4 cI fi fa) sz)) 0 0 (va_A (wV x xa r cQ ad ++ wR r ra cI ri rv ++ wF (ad k 0) f1 f2 f3 f4 cI fi fa) sz) := by
  refine Met.ofW (cc := cVf_clear) (maxL := 2) (ret := none) (by decide) rfl ?_
  intro p e s m args below meth c s₁ B hml hv
  obtain ⟨rfl, hsz, hP, hK, hD0⟩ := hv
  have hx := B.exec
  have hb := B.bytes
  have hr := B.returns
  have hts0 := atoms_spec (ws := wsVf_clear) B.pre
  have hts := fun (w : Cond) (h : w ∈ lw_g) => hts0 w (List.mem_cons_of_mem _ h)
  have hown : s.vm.findClass RVf = some m.cls := findClass_of_methodNamed B.named
  have hlocks := B.notSynchronized
  subst hsz
  have hD := hD0.self (sz := s.heap.size)
  generalize hAe : va_A (wV x xa r cQ ad ++ wR r ra cI ri rv ++ wF (ad k 0) f1 f2 f3 f4 cI fi fa) s.heap.size = A at hD ⊢
  have hA : ∀ q : Nat, s.heap.size ≤ q → A q := fun q h => by rw [← hAe]; exact Or.inr h
  have hS : va_S A s.heap s.heap [] := va_S.rf
  have hP : va_P (dC, dI) vwCl (wV x xa r cQ ad ++ wR r ra cI ri rv ++ wF (ad k 0) f1 f2 f3 f4 cI fi fa) s.heap := hP
  have hl := lv_entry ([.ref x, .int (nI k)]) (n := 2) (Nat.le_of_ble_eq_true rfl)
  rw [lg_entry_eq]
  generalize (lg_sl ([.ref x, .int (nI k)]) ++ List.replicate (2 - (lg_sl ([.ref x, .int (nI k)])).length) Slot.unset).toArray = ls at hl ⊢
  have hl : lv_has ls 2 [(0, .ref x), (1, .int (nI k))] := hl
  refine lv_aload_n hx hb dVf_clear_0 rfl (lv_at hl 0 rfl) ?_
  refine lv_iload_n hx hb dVf_clear_1 rfl (lv_at hl 1 rfl) ?_
  have hPc := hP.sub (ws' := (wV x xa r cQ ad)) [0, 1] rfl
  have hKc := hK.sub (tys' := [(cI, .int), (cQ, .object RFo)]) [0, 1] rfl
  refine va_csr (W.runV (As := [.int (nI k)]) (rest := []) ⟨hx, hb, hml, hown, hts⟩ (k_V_foldAt l dC dI x xa r cI cQ ad k hk4) (cwV 1 hts (gd_V in_118 in_120 in_121 in_112 in_119) rfl rfl rfl (by decide +kernel) ⟨Nat.le_of_ble_eq_true rfl, Nat.le_of_ble_eq_true rfl⟩) ⟨fun a U g mk q => by obtain ⟨q0, qP, qK⟩ := q; exact ⟨q0, qP, va_K.moved (u := U) (U := U.calling g mk a) (Vm.Alike.refl U.vm) qK⟩, va_recv hKc hPc (ci := 2) (q0 := 0) rfl rfl, fun U hU hW => ⟨rfl, by rw [hU]; exact hPc, va_K.moved hW.alike hKc⟩⟩ rfl rfl hl.1 rfl (lv_room (Nat.le_of_ble_eq_true rfl)) dVf_clear_2 ⟨Nat.le_of_ble_eq_true rfl, Nat.le_of_ble_eq_true rfl⟩) (fun j_1 ej_2 => ?_)
  rw [ej_2]
  have hPc := hP.sub (ws' := (wF (ad k 0) f1 f2 f3 f4 cI fi fa)) [4, 5, 6, 7, 8] rfl
  have hDc := hD.sub (ws' := (wF (ad k 0) f1 f2 f3 f4 cI fi fa)) [4, 5, 6, 7, 8] (by decide) rfl
  have hKc := hK.sub (tys' := [(cI, .int)]) [0] rfl
  have hFc := va_free (wc := (wF (ad k 0) f1 f2 f3 f4 cI fi fa)) hD hS hA [4, 5, 6, 7, 8] rfl
  refine va_callv (va_runV (As := []) (rest := []) ⟨hx, hb, hml, hown, hts⟩ (k_F_reset l dC dI s.heap.size (ad k 0) f1 f2 f3 f4 cI fi fa) (cwV 0 hts (gd_V in_224 in_226 in_227 in_17 in_225) rfl rfl rfl (by decide +kernel) ⟨Nat.le_of_ble_eq_true rfl, Nat.le_of_ble_eq_true rfl⟩) ⟨fun a U g mk q => by obtain ⟨q0, q1, qP, qK, qD⟩ := q; exact ⟨q0, q1, qP, va_K.moved (u := U) (U := U.calling g mk a) (Vm.Alike.refl U.vm) qK, qD⟩, va_recv hKc hPc (ci := 0) (q0 := 0) rfl rfl, fun U hU hW => ⟨rfl, by rw [hU], by rw [hU]; exact hPc, va_K.moved hW.alike hKc, hDc.weaken (fun _ _ _ _ => trivial)⟩⟩ rfl rfl hl.1 rfl (lv_room (Nat.le_of_ble_eq_true rfl)) dVf_clear_5 ⟨Nat.le_of_ble_eq_true rfl, Nat.le_of_ble_eq_true rfl⟩) hS (fun q _ h => hFc q h) hFc (fun u t H1 locs ht hvm hw hB hz1 hk1 hS => ?_)
  obtain ⟨hP1, hK1, hD1⟩ := hB
  rw [ht] at hP1
  obtain ⟨hP, hD⟩ := va_join (wr := (wV x xa r cQ ad ++ wR r ra cI ri rv)) (w1 := (wF (ad k 0) f1 f2 f3 f4 cI (s_rsi fi) (s_rsa fa))) hP hD [4, 5, 6, 7, 8] [0, 1, 2, 3] rfl rfl (by decide) (by decide) hk1 hFc hP1 hD1
  generalize H1 = H at hP hS ⊢
  have hP : va_P (dC, dI) vwCl (wV x xa r cQ ad ++ wR r ra cI ri rv ++ wF (ad k 0) f1 f2 f3 f4 cI (s_rsi fi) (s_rsa fa)) H := hP
  have hD : va_D A (wV x xa r cQ ad ++ wR r ra cI ri rv ++ wF (ad k 0) f1 f2 f3 f4 cI (s_rsi fi) (s_rsa fa)) := hD
  have hP9 : va_P (dC, dI) vwCl (wV x xa r cQ ad ++ wR r ra cI ri rv ++ wF (ad k 0) f1 f2 f3 f4 cI (s_rsi fi) (s_rsa fa)) H := by exact hP
  have hD9 : va_D A (wV x xa r cQ ad ++ wR r ra cI ri rv ++ wF (ad k 0) f1 f2 f3 f4 cI (s_rsi fi) (s_rsa fa)) := by exact hD
  exact W.vret hx hb hr (fun t ht hW => ⟨⟨(), rfl, trivial, by rw [ht]; exact hP9, va_K.moved hW.alike hK, hD9⟩, hS.F ht⟩) hS.2.2 dVf_clear_8
set_option maxHeartbeats 4000000 in
set_option maxRecDepth 100000 in
/-- take(k, b), two folds -/
theorem k_V_take (l : Launch) (dC : Nat → ClassId) (dI : Nat → Nat → Nat) (sz : Nat) (x xa r ra : Nat) (cI cQ : ClassId) (ad : Nat → Nat → Nat) (ri rv : Nat → Int32) (k f1 f2 f3 f4 : Nat) (hk4 : k < 4) (fi : Nat → Int32) (fa : Nat → Nat → Int32) (b g1 g2 g3 g4 : Nat) (hb4 : b < 4) (gi : Nat → Int32) (ga : Nat → Nat → Int32) : Met l yVf_take wsVf_take ({ frames := 5, cells := 0, slots := 0, locals := 200 }) (va_Pc [.ref x, .int (nI k), .int (nI b)] (fun U => U.heap.size = sz ∧ va_P (dC, dI) vwCl (wV x xa r cQ ad ++ wR r ra cI ri rv ++ wF (ad k 0) f1 f2 f3 f4 cI fi fa ++ wF (ad b 0) g1 g2 g3 g4 cI gi ga) U.heap ∧ va_K (dC, dI) vwCl [(cI, .int), (cQ, .object RFo)] U ∧ va_D (fun _ => True) (wV x xa r cQ ad ++ wR r ra cI ri rv ++ wF (ad k 0) f1 f2 f3 f4 cI fi fa ++ wF (ad b 0) g1 g2 g3 g4 cI gi ga))) (va_Qi (fun (r9 : Int32) (_ : Unit) => r9 = (if gi 1 < fi 1 then 1 else 0)) (fun _ t => va_P (dC, dI) vwCl (wV x xa r cQ ad ++ wR r ra cI ri rv ++ wF (ad k 0) f1 f2 f3 f4 cI fi fa ++ wF (ad b 0) g1 g2 g3 g4 cI (s_tki fi gi) (s_tka fi gi fa ga)) t.heap ∧ va_K (dC, dI) vwCl [(cI, .int), (cQ, .object RFo)] t ∧ va_D (va_A (wV x xa r cQ ad ++ wR r ra cI ri rv ++ wF (ad k 0) f1 f2 f3 f4 cI fi fa ++ wF (ad b 0) g1 g2 g3 g4 cI gi ga) sz) (wV x xa r cQ ad ++ wR r ra cI ri rv ++ wF (ad k 0) f1 f2 f3 f4 cI fi fa ++ wF (ad b 0) g1 g2 g3 g4 cI (s_tki fi gi) (s_tka fi gi fa ga))) (va_A (wV x xa r cQ ad ++ wR r ra cI ri rv ++ wF (ad k 0) f1 f2 f3 f4 cI fi fa ++ wF (ad b 0) g1 g2 g3 g4 cI gi ga) sz)) 0 0 (va_A (wV x xa r cQ ad ++ wR r ra cI ri rv ++ wF (ad k 0) f1 f2 f3 f4 cI fi fa ++ wF (ad b 0) g1 g2 g3 g4 cI gi ga) sz) := by
  refine Met.ofW (cc := cVf_take) (maxL := 5) (ret := (some .boolean)) (by decide) rfl ?_
  intro p e s m args below meth c s₁ B hml hv
  obtain ⟨rfl, hsz, hP, hK, hD0⟩ := hv
  have hx := B.exec
  have hb := B.bytes
  have hr := B.returns
  have hts0 := atoms_spec (ws := wsVf_take) B.pre
  have hts := fun (w : Cond) (h : w ∈ lw_g) => hts0 w (List.mem_cons_of_mem _ h)
  have hown : s.vm.findClass RVf = some m.cls := findClass_of_methodNamed B.named
  have hlocks := B.notSynchronized
  subst hsz
  have hD := hD0.self (sz := s.heap.size)
  generalize hAe : va_A (wV x xa r cQ ad ++ wR r ra cI ri rv ++ wF (ad k 0) f1 f2 f3 f4 cI fi fa ++ wF (ad b 0) g1 g2 g3 g4 cI gi ga) s.heap.size = A at hD ⊢
  have hA : ∀ q : Nat, s.heap.size ≤ q → A q := fun q h => by rw [← hAe]; exact Or.inr h
  have hS : va_S A s.heap s.heap [] := va_S.rf
  have hP : va_P (dC, dI) vwCl (wV x xa r cQ ad ++ wR r ra cI ri rv ++ wF (ad k 0) f1 f2 f3 f4 cI fi fa ++ wF (ad b 0) g1 g2 g3 g4 cI gi ga) s.heap := hP
  have hl := lv_entry ([.ref x, .int (nI k), .int (nI b)]) (n := 5) (Nat.le_of_ble_eq_true rfl)
  rw [lg_entry_eq]
  generalize (lg_sl ([.ref x, .int (nI k), .int (nI b)]) ++ List.replicate (5 - (lg_sl ([.ref x, .int (nI k), .int (nI b)])).length) Slot.unset).toArray = ls at hl ⊢
  have hl : lv_has ls 5 [(0, .ref x), (1, .int (nI k)), (2, .int (nI b))] := hl
  refine lv_aload_n hx hb dVf_take_0 rfl (lv_at hl 0 rfl) ?_
  refine lv_iload_n hx hb dVf_take_1 rfl (lv_at hl 1 rfl) ?_
  have hPc := hP.sub (ws' := (wV x xa r cQ ad)) [0, 1] rfl
  have hKc := hK.sub (tys' := [(cI, .int), (cQ, .object RFo)]) [0, 1] rfl
  refine va_csr (W.runV (As := [.int (nI k)]) (rest := []) ⟨hx, hb, hml, hown, hts⟩ (k_V_foldAt l dC dI x xa r cI cQ ad k hk4) (cwV 1 hts (gd_V in_118 in_120 in_121 in_112 in_119) rfl rfl rfl (by decide +kernel) ⟨Nat.le_of_ble_eq_true rfl, Nat.le_of_ble_eq_true rfl⟩) ⟨fun a U g mk q => by obtain ⟨q0, qP, qK⟩ := q; exact ⟨q0, qP, va_K.moved (u := U) (U := U.calling g mk a) (Vm.Alike.refl U.vm) qK⟩, va_recv hKc hPc (ci := 2) (q0 := 0) rfl rfl, fun U hU hW => ⟨rfl, by rw [hU]; exact hPc, va_K.moved hW.alike hKc⟩⟩ rfl rfl hl.1 rfl (lv_room (Nat.le_of_ble_eq_true rfl)) dVf_take_2 ⟨Nat.le_of_ble_eq_true rfl, Nat.le_of_ble_eq_true rfl⟩) (fun j_1 ej_2 => ?_)
  rw [ej_2]
  refine lv_astore_n (lv' := [(3, .ref (ad k 0)), (0, .ref x), (1, .int (nI k)), (2, .int (nI b))]) hx hb dVf_take_5 rfl hl (by decide) rfl (fun ls hl => ?_)
  refine lv_aload_n hx hb dVf_take_6 rfl (lv_at hl 1 rfl) ?_
  refine lv_iload_n hx hb dVf_take_7 rfl (lv_at hl 3 rfl) ?_
  have hPc := hP.sub (ws' := (wV x xa r cQ ad)) [0, 1] rfl
  have hKc := hK.sub (tys' := [(cI, .int), (cQ, .object RFo)]) [0, 1] rfl
  refine va_csr (W.runV (As := [.int (nI b)]) (rest := []) ⟨hx, hb, hml, hown, hts⟩ (k_V_foldAt l dC dI x xa r cI cQ ad b hb4) (cwV 1 hts (gd_V in_118 in_120 in_121 in_112 in_119) rfl rfl rfl (by decide +kernel) ⟨Nat.le_of_ble_eq_true rfl, Nat.le_of_ble_eq_true rfl⟩) ⟨fun a U g mk q => by obtain ⟨q0, qP, qK⟩ := q; exact ⟨q0, qP, va_K.moved (u := U) (U := U.calling g mk a) (Vm.Alike.refl U.vm) qK⟩, va_recv hKc hPc (ci := 2) (q0 := 0) rfl rfl, fun U hU hW => ⟨rfl, by rw [hU]; exact hPc, va_K.moved hW.alike hKc⟩⟩ rfl rfl hl.1 rfl (lv_room (Nat.le_of_ble_eq_true rfl)) dVf_take_8 ⟨Nat.le_of_ble_eq_true rfl, Nat.le_of_ble_eq_true rfl⟩) (fun j_3 ej_4 => ?_)
  rw [ej_4]
  refine lv_astore (lv' := [(4, .ref (ad b 0)), (3, .ref (ad k 0)), (0, .ref x), (1, .int (nI k)), (2, .int (nI b))]) hx hb dVf_take_11 hl (by decide) rfl (fun ls hl => ?_)
  refine lv_aload_n hx hb dVf_take_13 rfl (lv_at hl 1 rfl) ?_
  refine va_get (D := (dC, dI)) (ci := 0) (v := .int (fi 1)) (C := RFo) (T := TFo) (N := 10) hx hb hts inFo hown hK hP 4 rfl rfl 1 (by decide) (hts _ in_128) (fun _ h9 => h9) rfl dVf_take_14 ?_
  refine lv_aload hx hb dVf_take_17 (lv_at hl 0 rfl) ?_
  refine va_get (D := (dC, dI)) (ci := 0) (v := .int (gi 1)) (C := RFo) (T := TFo) (N := 10) hx hb hts inFo hown hK hP 9 rfl rfl 1 (by decide) (hts _ in_128) (fun _ h9 => h9) rfl dVf_take_19 ?_
  refine lv_icmp_gt (tgt := 27) hx hb dVf_take_22 (by decide) (fun c_5 => ?_) (fun c_5 => ?_)
  · skip
    refine lv_aload hx hb dVf_take_27 (lv_at hl 0 rfl) ?_
    refine lv_aload_n hx hb dVf_take_29 rfl (lv_at hl 1 rfl) ?_
    have hPc := hP.sub (ws' := (wF (ad b 0) g1 g2 g3 g4 cI gi ga ++ wF (ad k 0) f1 f2 f3 f4 cI fi fa)) [9, 10, 11, 12, 13, 4, 5, 6, 7, 8] rfl
    have hDc := hD.sub (ws' := (wF (ad b 0) g1 g2 g3 g4 cI gi ga ++ wF (ad k 0) f1 f2 f3 f4 cI fi fa)) [9, 10, 11, 12, 13, 4, 5, 6, 7, 8] (by decide) rfl
    have hKc := hK.sub (tys' := [(cI, .int)]) [0] rfl
    have hFc := va_free (wc := (wF (ad b 0) g1 g2 g3 g4 cI gi ga ++ wF (ad k 0) f1 f2 f3 f4 cI fi fa)) hD hS hA [9, 10, 11, 12, 13, 4, 5, 6, 7, 8] rfl
    refine va_callv (va_runV (As := [.ref (ad k 0)]) (rest := []) ⟨hx, hb, hml, hown, hts⟩ (k_F_become l dC dI s.heap.size (ad b 0) g1 g2 g3 g4 cI gi ga (ad k 0) f1 f2 f3 f4 fi fa) (cwV 1 hts (gd_V in_228 in_230 in_231 in_17 in_229) rfl rfl rfl (by decide +kernel) ⟨Nat.le_of_ble_eq_true rfl, Nat.le_of_ble_eq_true rfl⟩) ⟨fun a U g mk q => by obtain ⟨q0, q1, qP, qK, qD⟩ := q; exact ⟨q0, q1, qP, va_K.moved (u := U) (U := U.calling g mk a) (Vm.Alike.refl U.vm) qK, qD⟩, va_recv hKc hPc (ci := 0) (q0 := 0) rfl rfl, fun U hU hW => ⟨rfl, by rw [hU], by rw [hU]; exact hPc, va_K.moved hW.alike hKc, hDc.weaken (fun _ _ _ _ => trivial)⟩⟩ rfl rfl hl.1 rfl (lv_room (Nat.le_of_ble_eq_true rfl)) dVf_take_30 ⟨Nat.le_of_ble_eq_true rfl, Nat.le_of_ble_eq_true rfl⟩) hS (fun q _ h => hFc q h) hFc (fun u t H1 locs ht hvm hw hB hz1 hk1 hS => ?_)
    obtain ⟨hP1, hK1, hD1⟩ := hB
    rw [ht] at hP1
    obtain ⟨hP, hD⟩ := va_join (wr := (wV x xa r cQ ad ++ wR r ra cI ri rv)) (w1 := (wF (ad b 0) g1 g2 g3 g4 cI (s_bei gi fi) (s_bea ga fa) ++ wF (ad k 0) f1 f2 f3 f4 cI fi fa)) hP hD [9, 10, 11, 12, 13, 4, 5, 6, 7, 8] [0, 1, 2, 3] rfl rfl (by decide) (by decide) hk1 hFc hP1 hD1
    generalize H1 = H at hP hS ⊢
    have hP := hP.sub (ws' := (wV x xa r cQ ad ++ wR r ra cI ri rv ++ wF (ad k 0) f1 f2 f3 f4 cI fi fa ++ wF (ad b 0) g1 g2 g3 g4 cI (s_bei gi fi) (s_bea ga fa))) [0, 1, 2, 3, 9, 10, 11, 12, 13, 4, 5, 6, 7, 8] rfl
    have hD := hD.sub (ws' := (wV x xa r cQ ad ++ wR r ra cI ri rv ++ wF (ad k 0) f1 f2 f3 f4 cI fi fa ++ wF (ad b 0) g1 g2 g3 g4 cI (s_bei gi fi) (s_bea ga fa))) [0, 1, 2, 3, 9, 10, 11, 12, 13, 4, 5, 6, 7, 8] (by decide) rfl
    have hP : va_P (dC, dI) vwCl (wV x xa r cQ ad ++ wR r ra cI ri rv ++ wF (ad k 0) f1 f2 f3 f4 cI fi fa ++ wF (ad b 0) g1 g2 g3 g4 cI (s_bei gi fi) (s_bea ga fa)) H := hP
    have hD : va_D A (wV x xa r cQ ad ++ wR r ra cI ri rv ++ wF (ad k 0) f1 f2 f3 f4 cI fi fa ++ wF (ad b 0) g1 g2 g3 g4 cI (s_bei gi fi) (s_bea ga fa)) := hD
    refine lv_iconst (v := 1) hx hb dVf_take_33 (by decide) ?_
    have hP9 : va_P (dC, dI) vwCl (wV x xa r cQ ad ++ wR r ra cI ri rv ++ wF (ad k 0) f1 f2 f3 f4 cI fi fa ++ wF (ad b 0) g1 g2 g3 g4 cI (s_tki fi gi) (s_tka fi gi fa ga)) H := by simp only [s_tki, s_tka, if_pos c_5]; exact hP
    have hD9 : va_D A (wV x xa r cQ ad ++ wR r ra cI ri rv ++ wF (ad k 0) f1 f2 f3 f4 cI fi fa ++ wF (ad b 0) g1 g2 g3 g4 cI (s_tki fi gi) (s_tka fi gi fa ga)) := by simp only [s_tki, s_tka, if_pos c_5]; exact hD
    exact W.zret (v := 1) (ty := .boolean) hx hb hr rfl (fun t ht hW => ⟨⟨1, (), rfl, by simp only [if_pos c_5], by rw [ht]; exact hP9, va_K.moved hW.alike hK, hD9⟩, hS.F ht⟩) hS.2.2 dVf_take_34
  · skip
    refine lv_iconst (v := 0) hx hb dVf_take_25 (by decide) ?_
    have hP9 : va_P (dC, dI) vwCl (wV x xa r cQ ad ++ wR r ra cI ri rv ++ wF (ad k 0) f1 f2 f3 f4 cI fi fa ++ wF (ad b 0) g1 g2 g3 g4 cI (s_tki fi gi) (s_tka fi gi fa ga)) s.heap := by simp only [s_tki, s_tka, if_neg c_5]; exact hP
    have hD9 : va_D A (wV x xa r cQ ad ++ wR r ra cI ri rv ++ wF (ad k 0) f1 f2 f3 f4 cI fi fa ++ wF (ad b 0) g1 g2 g3 g4 cI (s_tki fi gi) (s_tka fi gi fa ga)) := by simp only [s_tki, s_tka, if_neg c_5]; exact hD
    exact W.zret (v := 0) (ty := .boolean) hx hb hr rfl (fun t ht hW => ⟨⟨0, (), rfl, by simp only [if_neg c_5], by rw [ht]; exact hP9, va_K.moved hW.alike hK, hD9⟩, hS.F ht⟩) hS.2.2 dVf_take_26
set_option maxHeartbeats 4000000 in
set_option maxRecDepth 100000 in
/-- take(k, k) -/
theorem k_V_takeS (l : Launch) (dC : Nat → ClassId) (dI : Nat → Nat → Nat) (x xa r ra : Nat) (cI cQ : ClassId) (ad : Nat → Nat → Nat) (ri rv : Nat → Int32) (k f1 f2 f3 f4 : Nat) (hk4 : k < 4) (fi : Nat → Int32) (fa : Nat → Nat → Int32) : Met l yVf_take wsVf_take ({ frames := 5, cells := 0, slots := 0, locals := 200 }) (va_Pc [.ref x, .int (nI k), .int (nI k)] (fun U => va_P (dC, dI) vwCl (wV x xa r cQ ad ++ wR r ra cI ri rv ++ wF (ad k 0) f1 f2 f3 f4 cI fi fa) U.heap ∧ va_K (dC, dI) vwCl [(cI, .int), (cQ, .object RFo)] U)) (vp_Si (fun r => r = 0)) 0 0 (fun _ => False) := by
  refine Met.ofW (cc := cVf_take) (maxL := 5) (ret := (some .boolean)) (by decide) rfl ?_
  intro p e s m args below meth c s₁ B hml hv
  obtain ⟨rfl, hP, hK⟩ := hv
  have hx := B.exec
  have hb := B.bytes
  have hr := B.returns
  have hts0 := atoms_spec (ws := wsVf_take) B.pre
  have hts := fun (w : Cond) (h : w ∈ lw_g) => hts0 w (List.mem_cons_of_mem _ h)
  have hown : s.vm.findClass RVf = some m.cls := findClass_of_methodNamed B.named
  have hlocks := B.notSynchronized
  have hl := lv_entry ([.ref x, .int (nI k), .int (nI k)]) (n := 5) (Nat.le_of_ble_eq_true rfl)
  rw [lg_entry_eq]
  generalize (lg_sl ([.ref x, .int (nI k), .int (nI k)]) ++ List.replicate (5 - (lg_sl ([.ref x, .int (nI k), .int (nI k)])).length) Slot.unset).toArray = ls at hl ⊢
  have hl : lv_has ls 5 [(0, .ref x), (1, .int (nI k)), (2, .int (nI k))] := hl
  refine lv_aload_n hx hb dVf_take_0 rfl (lv_at hl 0 rfl) ?_
  refine lv_iload_n hx hb dVf_take_1 rfl (lv_at hl 1 rfl) ?_
  have hPc := hP.sub (ws' := (wV x xa r cQ ad)) [0, 1] rfl
  have hKc := hK.sub (tys' := [(cI, .int), (cQ, .object RFo)]) [0, 1] rfl
  refine va_csr (W.runV (As := [.int (nI k)]) (rest := []) ⟨hx, hb, hml, hown, hts⟩ (k_V_foldAt l dC dI x xa r cI cQ ad k hk4) (cwV 1 hts (gd_V in_118 in_120 in_121 in_112 in_119) rfl rfl rfl (by decide +kernel) ⟨Nat.le_of_ble_eq_true rfl, Nat.le_of_ble_eq_true rfl⟩) ⟨fun a U g mk q => by obtain ⟨q0, qP, qK⟩ := q; exact ⟨q0, qP, va_K.moved (u := U) (U := U.calling g mk a) (Vm.Alike.refl U.vm) qK⟩, va_recv hKc hPc (ci := 2) (q0 := 0) rfl rfl, fun U hU hW => ⟨rfl, by rw [hU]; exact hPc, va_K.moved hW.alike hKc⟩⟩ rfl rfl hl.1 rfl (lv_room (Nat.le_of_ble_eq_true rfl)) dVf_take_2 ⟨Nat.le_of_ble_eq_true rfl, Nat.le_of_ble_eq_true rfl⟩) (fun j_1 ej_2 => ?_)
  rw [ej_2]
  refine lv_astore_n (lv' := [(3, .ref (ad k 0)), (0, .ref x), (1, .int (nI k)), (2, .int (nI k))]) hx hb dVf_take_5 rfl hl (by decide) rfl (fun ls hl => ?_)
  refine lv_aload_n hx hb dVf_take_6 rfl (lv_at hl 1 rfl) ?_
  refine lv_iload_n hx hb dVf_take_7 rfl (lv_at hl 3 rfl) ?_
  have hPc := hP.sub (ws' := (wV x xa r cQ ad)) [0, 1] rfl
  have hKc := hK.sub (tys' := [(cI, .int), (cQ, .object RFo)]) [0, 1] rfl
  refine va_csr (W.runV (As := [.int (nI k)]) (rest := []) ⟨hx, hb, hml, hown, hts⟩ (k_V_foldAt l dC dI x xa r cI cQ ad k hk4) (cwV 1 hts (gd_V in_118 in_120 in_121 in_112 in_119) rfl rfl rfl (by decide +kernel) ⟨Nat.le_of_ble_eq_true rfl, Nat.le_of_ble_eq_true rfl⟩) ⟨fun a U g mk q => by obtain ⟨q0, qP, qK⟩ := q; exact ⟨q0, qP, va_K.moved (u := U) (U := U.calling g mk a) (Vm.Alike.refl U.vm) qK⟩, va_recv hKc hPc (ci := 2) (q0 := 0) rfl rfl, fun U hU hW => ⟨rfl, by rw [hU]; exact hPc, va_K.moved hW.alike hKc⟩⟩ rfl rfl hl.1 rfl (lv_room (Nat.le_of_ble_eq_true rfl)) dVf_take_8 ⟨Nat.le_of_ble_eq_true rfl, Nat.le_of_ble_eq_true rfl⟩) (fun j_3 ej_4 => ?_)
  rw [ej_4]
  refine lv_astore (lv' := [(4, .ref (ad k 0)), (3, .ref (ad k 0)), (0, .ref x), (1, .int (nI k)), (2, .int (nI k))]) hx hb dVf_take_11 hl (by decide) rfl (fun ls hl => ?_)
  refine lv_aload_n hx hb dVf_take_13 rfl (lv_at hl 1 rfl) ?_
  refine va_get (D := (dC, dI)) (ci := 0) (v := .int (fi 1)) (C := RFo) (T := TFo) (N := 10) hx hb hts inFo hown hK hP 4 rfl rfl 1 (by decide) (hts _ in_128) (fun _ h9 => h9) rfl dVf_take_14 ?_
  refine lv_aload hx hb dVf_take_17 (lv_at hl 0 rfl) ?_
  refine va_get (D := (dC, dI)) (ci := 0) (v := .int (fi 1)) (C := RFo) (T := TFo) (N := 10) hx hb hts inFo hown hK hP 4 rfl rfl 1 (by decide) (hts _ in_128) (fun _ h9 => h9) rfl dVf_take_19 ?_
  refine lv_icmp_gt (tgt := 27) hx hb dVf_take_22 (by decide) (fun c_5 => ?_) (fun c_5 => ?_)
  · skip
    exact (Int32.lt_irrefl c_5).elim
  · skip
    refine lv_iconst (v := 0) hx hb dVf_take_25 (by decide) ?_
    exact W.zret (v := 0) (ty := .boolean) hx hb hr rfl (fun t ht hW => ⟨0, rfl, rfl, ht⟩) (fun q h => by cases h) dVf_take_26
