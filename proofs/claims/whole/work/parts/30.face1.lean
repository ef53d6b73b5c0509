set_option maxHeartbeats 4000000 in
set_option maxRecDepth 100000 in
/-- isKey(k) -/
theorem k_V_isKey (l : Launch) (k : Int32) : Met l yVf_isKey wsVf_isKey ({ frames := 1, cells := 0, slots := 0, locals := 40 }) (va_Pc [.int k] (fun _ => True)) (vp_Si (fun r => r = s_in k)) 0 0 (fun _ => False) := by
  refine Met.ofW (cc := cVf_isKey) (maxL := 1) (ret := (some .boolean)) (by decide) rfl ?_
  intro p e s m args below meth c s₁ B hml hv
  obtain ⟨rfl, -⟩ := hv
  have hx := B.exec
  have hb := B.bytes
  have hr := B.returns
  have hts0 := atoms_spec (ws := wsVf_isKey) B.pre
  have hts := fun (w : Cond) (h : w ∈ lw_g) => hts0 w (List.mem_cons_of_mem _ h)
  have hown : s.vm.findClass RVf = some m.cls := findClass_of_methodNamed B.named
  have hlocks := B.notSynchronized
  have hl := lv_entry ([.int k]) (n := 1) (Nat.le_of_ble_eq_true rfl)
  rw [lg_entry_eq]
  generalize (lg_sl ([.int k]) ++ List.replicate (1 - (lg_sl ([.int k])).length) Slot.unset).toArray = ls at hl ⊢
  have hl : lv_has ls 1 [(0, .int k)] := hl
  refine lv_iload_n hx hb dVf_isKey_0 rfl (lv_at hl 0 rfl) ?_
  refine lv_if_lt (tgt := 14) hx hb dVf_isKey_1 (by decide) (fun c_1 => ?_) (fun c_1 => ?_)
  · skip
    refine lv_iconst (v := 0) hx hb dVf_isKey_14 (by decide) ?_
    exact W.zret (v := 0) (ty := .boolean) hx hb hr rfl (fun t ht hW => ⟨0, rfl, by simp only [s_in, if_pos c_1], ht⟩) (fun q h => by cases h) dVf_isKey_15
  · skip
    refine lv_iload_n hx hb dVf_isKey_4 rfl (lv_at hl 0 rfl) ?_
    refine lv_bipush (v := nI 16) hx hb dVf_isKey_5 (by decide) ?_
    refine lv_icmp_ge (tgt := 14) hx hb dVf_isKey_7 (by decide) (fun c_2 => ?_) (fun c_2 => ?_)
    · skip
      refine lv_iconst (v := 0) hx hb dVf_isKey_14 (by decide) ?_
      exact W.zret (v := 0) (ty := .boolean) hx hb hr rfl (fun t ht hW => ⟨0, rfl, by simp only [s_in, if_neg c_1, if_pos c_2], ht⟩) (fun q h => by cases h) dVf_isKey_15
    · skip
      refine lv_iconst (v := 1) hx hb dVf_isKey_10 (by decide) ?_
      refine lv_goto (tgt := 15) hx hb dVf_isKey_11 (by decide) ?_
      exact W.zret (v := 1) (ty := .boolean) hx hb hr rfl (fun t ht hW => ⟨1, rfl, by simp only [s_in, if_neg c_1, if_neg c_2], ht⟩) (fun q h => by cases h) dVf_isKey_15
set_option maxHeartbeats 4000000 in
set_option maxRecDepth 100000 in
/-- isSession(k) -/
theorem k_V_isSession (l : Launch) (k : Int32) : Met l yVf_isSession wsVf_isSession ({ frames := 1, cells := 0, slots := 0, locals := 40 }) (va_Pc [.int k] (fun _ => True)) (vp_Si (fun r => r = s_in k)) 0 0 (fun _ => False) := by
  refine Met.ofW (cc := cVf_isSession) (maxL := 1) (ret := (some .boolean)) (by decide) rfl ?_
  intro p e s m args below meth c s₁ B hml hv
  obtain ⟨rfl, -⟩ := hv
  have hx := B.exec
  have hb := B.bytes
  have hr := B.returns
  have hts0 := atoms_spec (ws := wsVf_isSession) B.pre
  have hts := fun (w : Cond) (h : w ∈ lw_g) => hts0 w (List.mem_cons_of_mem _ h)
  have hown : s.vm.findClass RVf = some m.cls := findClass_of_methodNamed B.named
  have hlocks := B.notSynchronized
  have hl := lv_entry ([.int k]) (n := 1) (Nat.le_of_ble_eq_true rfl)
  rw [lg_entry_eq]
  generalize (lg_sl ([.int k]) ++ List.replicate (1 - (lg_sl ([.int k])).length) Slot.unset).toArray = ls at hl ⊢
  have hl : lv_has ls 1 [(0, .int k)] := hl
  refine lv_iload_n hx hb dVf_isSession_0 rfl (lv_at hl 0 rfl) ?_
  refine lv_if_lt (tgt := 14) hx hb dVf_isSession_1 (by decide) (fun c_1 => ?_) (fun c_1 => ?_)
  · skip
    refine lv_iconst (v := 0) hx hb dVf_isSession_14 (by decide) ?_
    exact W.zret (v := 0) (ty := .boolean) hx hb hr rfl (fun t ht hW => ⟨0, rfl, by simp only [s_in, if_pos c_1], ht⟩) (fun q h => by cases h) dVf_isSession_15
  · skip
    refine lv_iload_n hx hb dVf_isSession_4 rfl (lv_at hl 0 rfl) ?_
    refine lv_bipush (v := nI 16) hx hb dVf_isSession_5 (by decide) ?_
    refine lv_icmp_ge (tgt := 14) hx hb dVf_isSession_7 (by decide) (fun c_2 => ?_) (fun c_2 => ?_)
    · skip
      refine lv_iconst (v := 0) hx hb dVf_isSession_14 (by decide) ?_
      exact W.zret (v := 0) (ty := .boolean) hx hb hr rfl (fun t ht hW => ⟨0, rfl, by simp only [s_in, if_neg c_1, if_pos c_2], ht⟩) (fun q h => by cases h) dVf_isSession_15
    · skip
      refine lv_iconst (v := 1) hx hb dVf_isSession_10 (by decide) ?_
      refine lv_goto (tgt := 15) hx hb dVf_isSession_11 (by decide) ?_
      exact W.zret (v := 1) (ty := .boolean) hx hb hr rfl (fun t ht hW => ⟨1, rfl, by simp only [s_in, if_neg c_1, if_neg c_2], ht⟩) (fun q h => by cases h) dVf_isSession_15
set_option maxHeartbeats 4000000 in
set_option maxRecDepth 100000 in
/-- requireKey(z) -/
theorem k_V_requireKey (l : Launch) (z : Nat) (hz : z < 16) : Met l yVf_requireKey wsVf_requireKey ({ frames := 2, cells := 0, slots := 0, locals := 80 }) (va_Pc [.int (nI z)] (fun _ => True)) (va_Sv (fun _ => True)) 0 0 (fun _ => False) := by
  refine Met.ofW (cc := cVf_requireKey) (maxL := 1) (ret := none) (by decide) rfl ?_
  intro p e s m args below meth c s₁ B hml hv
  obtain ⟨rfl, -⟩ := hv
  have hx := B.exec
  have hb := B.bytes
  have hr := B.returns
  have hts0 := atoms_spec (ws := wsVf_requireKey) B.pre
  have hts := fun (w : Cond) (h : w ∈ lw_g) => hts0 w (List.mem_cons_of_mem _ h)
  have hown : s.vm.findClass RVf = some m.cls := findClass_of_methodNamed B.named
  have hlocks := B.notSynchronized
  have hl := lv_entry ([.int (nI z)]) (n := 1) (Nat.le_of_ble_eq_true rfl)
  rw [lg_entry_eq]
  generalize (lg_sl ([.int (nI z)]) ++ List.replicate (1 - (lg_sl ([.int (nI z)])).length) Slot.unset).toArray = ls at hl ⊢
  have hl : lv_has ls 1 [(0, .int (nI z))] := hl
  refine lv_iload_n hx hb dVf_requireKey_0 rfl (lv_at hl 0 rfl) ?_
  refine vp_callSi (W.runS (As := [.int (nI z)]) (rest := []) ⟨hx, hb, hml, hown, hts⟩ (k_V_isKey l (nI z)) (va_cwS 1 hts (gd_S in_110 in_113 in_112 in_111) rfl rfl rfl (by decide +kernel) ⟨Nat.le_of_ble_eq_true rfl, Nat.le_of_ble_eq_true rfl⟩) ⟨fun a U g mk q => q, fun U hU hW => ⟨rfl, trivial⟩⟩ rfl rfl hl.1 rfl (lv_room (Nat.le_of_ble_eq_true rfl)) dVf_requireKey_1 ⟨Nat.le_of_ble_eq_true rfl, Nat.le_of_ble_eq_true rfl⟩) (fun r_1 er_2 => ?_)
  subst er_2
  refine lv_if_ne (tgt := 17) hx hb dVf_requireKey_4 (by decide) (fun c_3 => ?_) (fun c_3 => ?_)
  · skip
    exact W.vret hx hb hr (fun t ht hW => ⟨rfl, trivial, ht⟩) (fun q h => by cases h) dVf_requireKey_17
  · skip
    exact absurd c_3 (s_in_ne hz)
set_option maxHeartbeats 4000000 in
set_option maxRecDepth 100000 in
/-- requireSession(z) -/
theorem k_V_requireSession (l : Launch) (z : Nat) (hz : z < 16) : Met l yVf_requireSession wsVf_requireSession ({ frames := 2, cells := 0, slots := 0, locals := 80 }) (va_Pc [.int (nI z)] (fun _ => True)) (va_Sv (fun _ => True)) 0 0 (fun _ => False) := by
  refine Met.ofW (cc := cVf_requireSession) (maxL := 1) (ret := none) (by decide) rfl ?_
  intro p e s m args below meth c s₁ B hml hv
  obtain ⟨rfl, -⟩ := hv
  have hx := B.exec
  have hb := B.bytes
  have hr := B.returns
  have hts0 := atoms_spec (ws := wsVf_requireSession) B.pre
  have hts := fun (w : Cond) (h : w ∈ lw_g) => hts0 w (List.mem_cons_of_mem _ h)
  have hown : s.vm.findClass RVf = some m.cls := findClass_of_methodNamed B.named
  have hlocks := B.notSynchronized
  have hl := lv_entry ([.int (nI z)]) (n := 1) (Nat.le_of_ble_eq_true rfl)
  rw [lg_entry_eq]
  generalize (lg_sl ([.int (nI z)]) ++ List.replicate (1 - (lg_sl ([.int (nI z)])).length) Slot.unset).toArray = ls at hl ⊢
  have hl : lv_has ls 1 [(0, .int (nI z))] := hl
  refine lv_iload_n hx hb dVf_requireSession_0 rfl (lv_at hl 0 rfl) ?_
  refine vp_callSi (W.runS (As := [.int (nI z)]) (rest := []) ⟨hx, hb, hml, hown, hts⟩ (k_V_isSession l (nI z)) (va_cwS 1 hts (gd_S in_114 in_116 in_112 in_115) rfl rfl rfl (by decide +kernel) ⟨Nat.le_of_ble_eq_true rfl, Nat.le_of_ble_eq_true rfl⟩) ⟨fun a U g mk q => q, fun U hU hW => ⟨rfl, trivial⟩⟩ rfl rfl hl.1 rfl (lv_room (Nat.le_of_ble_eq_true rfl)) dVf_requireSession_1 ⟨Nat.le_of_ble_eq_true rfl, Nat.le_of_ble_eq_true rfl⟩) (fun r_1 er_2 => ?_)
  subst er_2
  refine lv_if_ne (tgt := 17) hx hb dVf_requireSession_4 (by decide) (fun c_3 => ?_) (fun c_3 => ?_)
  · skip
    exact W.vret hx hb hr (fun t ht hW => ⟨rfl, trivial, ht⟩) (fun q h => by cases h) dVf_requireSession_17
  · skip
    exact absurd c_3 (s_in_ne hz)
set_option maxHeartbeats 4000000 in
set_option maxRecDepth 100000 in
/-- foldAt(k) -/
theorem k_V_foldAt (l : Launch) (dC : Nat → ClassId) (dI : Nat → Nat → Nat) (x xa r : Nat) (cI cQ : ClassId) (ad : Nat → Nat → Nat) (k : Nat) (hk4 : k < 4) : Met l yVf_foldAt wsVf_foldAt ({ frames := 1, cells := 0, slots := 0, locals := 40 }) (va_Pc [.ref x, .int (nI k)] (fun U => va_P (dC, dI) vwCl (wV x xa r cQ ad) U.heap ∧ va_K (dC, dI) vwCl [(cI, .int), (cQ, .object RFo)] U)) (va_Sr (fun j => j = k) (fun j => .ref (ad j 0))) 0 0 (fun _ => False) := by
  refine Met.ofW (cc := cVf_foldAt) (maxL := 2) (ret := (some (.object "VersionFold$Fold"))) (by decide) rfl ?_
  intro p e s m args below meth c s₁ B hml hv
  obtain ⟨rfl, hP, hK⟩ := hv
  have hx := B.exec
  have hb := B.bytes
  have hr := B.returns
  have hts0 := atoms_spec (ws := wsVf_foldAt) B.pre
  have hts := fun (w : Cond) (h : w ∈ lw_g) => hts0 w (List.mem_cons_of_mem _ h)
  have hown : s.vm.findClass RVf = some m.cls := findClass_of_methodNamed B.named
  have hlocks := B.notSynchronized
  have hl := lv_entry ([.ref x, .int (nI k)]) (n := 2) (Nat.le_of_ble_eq_true rfl)
  rw [lg_entry_eq]
  generalize (lg_sl ([.ref x, .int (nI k)]) ++ List.replicate (2 - (lg_sl ([.ref x, .int (nI k)])).length) Slot.unset).toArray = ls at hl ⊢
  have hl : lv_has ls 2 [(0, .ref x), (1, .int (nI k))] := hl
  refine lv_iload_n hx hb dVf_foldAt_0 rfl (lv_at hl 1 rfl) ?_
  refine lv_if_lt (tgt := 9) hx hb dVf_foldAt_1 (by decide) (fun c_1 => ?_) (fun c_1 => ?_)
  · skip
    exact absurd c_1 (nI_pos (by omega))
  · skip
    refine lv_iload_n hx hb dVf_foldAt_4 rfl (lv_at hl 1 rfl) ?_
    refine lv_iconst (v := nI 4) hx hb dVf_foldAt_5 (by decide) ?_
    refine lv_icmp_lt (tgt := 19) hx hb dVf_foldAt_6 (by decide) (fun c_2 => ?_) (fun c_2 => ?_)
    · skip
      refine lv_aload_n hx hb dVf_foldAt_19 rfl (lv_at hl 0 rfl) ?_
      refine va_get (D := (dC, dI)) (ci := 2) (v := .ref xa) (C := RVf) (T := TVf) (N := 2) hx hb hts inVf hown hK hP 0 rfl rfl 0 (by decide) (hts _ in_117) (fun _ h9 => h9) rfl dVf_foldAt_20 ?_
      refine lv_iload_n hx hb dVf_foldAt_23 rfl (lv_at hl 1 rfl) ?_
      refine vq_aald (k := k) (b := (ad k 0)) hx hb hK hP 1 1 rfl rfl rfl (by omega) (by decide) rfl dVf_foldAt_24 ?_
      exact W.aret (v := .ref (ad k 0)) hx hb hr (Or.inl ⟨_, rfl⟩) (Or.inr ⟨_, rfl⟩) (fun t ht hW => ⟨k, rfl, rfl, ht⟩) (fun q h => by cases h) dVf_foldAt_25
    · skip
      exact absurd (nI_lt hk4 (by decide)) c_2
set_option maxHeartbeats 4000000 in
set_option maxRecDepth 100000 in
/-- test(k) -/
theorem k_V_test (l : Launch) (dC : Nat → ClassId) (dI : Nat → Nat → Nat) (x xa r ra : Nat) (cI cQ : ClassId) (ad : Nat → Nat → Nat) (ri rv : Nat → Int32) (k f1 f2 f3 f4 : Nat) (hk4 : k < 4) (fi : Nat → Int32) (fa : Nat → Nat → Int32) (se : Nat) (hse : ri 0 = nI se) (hs16 : se < 16) : Met l yVf_test wsVf_test ({ frames := 5, cells := 0, slots := 0, locals := 200 }) (va_Pc [.ref x, .int (nI k)] (fun U => va_P (dC, dI) vwCl (wV x xa r cQ ad ++ wR r ra cI ri rv ++ wF (ad k 0) f1 f2 f3 f4 cI fi fa) U.heap ∧ va_K (dC, dI) vwCl [(cI, .int), (cQ, .object RFo)] U)) (vp_Si (fun r => r = s_dec fi fa ri se)) 0 0 (fun _ => False) := by
  refine Met.ofW (cc := cVf_test) (maxL := 2) (ret := (some .int)) (by decide) rfl ?_
  intro p e s m args below meth c s₁ B hml hv
  obtain ⟨rfl, hP, hK⟩ := hv
  have hx := B.exec
  have hb := B.bytes
  have hr := B.returns
  have hts0 := atoms_spec (ws := wsVf_test) B.pre
  have hts := fun (w : Cond) (h : w ∈ lw_g) => hts0 w (List.mem_cons_of_mem _ h)
  have hown : s.vm.findClass RVf = some m.cls := findClass_of_methodNamed B.named
  have hlocks := B.notSynchronized
  have hl := lv_entry ([.ref x, .int (nI k)]) (n := 2) (Nat.le_of_ble_eq_true rfl)
  rw [lg_entry_eq]
  generalize (lg_sl ([.ref x, .int (nI k)]) ++ List.replicate (2 - (lg_sl ([.ref x, .int (nI k)])).length) Slot.unset).toArray = ls at hl ⊢
  have hl : lv_has ls 2 [(0, .ref x), (1, .int (nI k))] := hl
  refine lv_aload_n hx hb dVf_test_0 rfl (lv_at hl 0 rfl) ?_
  refine lv_iload_n hx hb dVf_test_1 rfl (lv_at hl 1 rfl) ?_
  have hPc := hP.sub (ws' := (wV x xa r cQ ad)) [0, 1] rfl
  have hKc := hK.sub (tys' := [(cI, .int), (cQ, .object RFo)]) [0, 1] rfl
  refine va_csr (W.runV (As := [.int (nI k)]) (rest := []) ⟨hx, hb, hml, hown, hts⟩ (k_V_foldAt l dC dI x xa r cI cQ ad k hk4) (cwV 1 hts (gd_V in_118 in_120 in_121 in_112 in_119) rfl rfl rfl (by decide +kernel) ⟨Nat.le_of_ble_eq_true rfl, Nat.le_of_ble_eq_true rfl⟩) ⟨fun a U g mk q => by obtain ⟨q0, qP, qK⟩ := q; exact ⟨q0, qP, va_K.moved (u := U) (U := U.calling g mk a) (Vm.Alike.refl U.vm) qK⟩, va_recv hKc hPc (ci := 2) (q0 := 0) rfl rfl, fun U hU hW => ⟨rfl, by rw [hU]; exact hPc, va_K.moved hW.alike hKc⟩⟩ rfl rfl hl.1 rfl (lv_room (Nat.le_of_ble_eq_true rfl)) dVf_test_2 ⟨Nat.le_of_ble_eq_true rfl, Nat.le_of_ble_eq_true rfl⟩) (fun j_1 ej_2 => ?_)
  rw [ej_2]
  refine lv_aload_n hx hb dVf_test_5 rfl (lv_at hl 0 rfl) ?_
  refine va_get (D := (dC, dI)) (ci := 2) (v := .ref r) (C := RVf) (T := TVf) (N := 2) hx hb hts inVf hown hK hP 0 rfl rfl 1 (by decide) (hts _ in_122) (fun _ h9 => h9) rfl dVf_test_6 ?_
  have hPc := hP.sub (ws' := (wF (ad k 0) f1 f2 f3 f4 cI fi fa ++ wR r ra cI ri rv)) [4, 5, 6, 7, 8, 2, 3] rfl
  have hKc := hK.sub (tys' := [(cI, .int)]) [0] rfl
  refine vp_callSi (W.runV (As := [.ref r]) (rest := []) ⟨hx, hb, hml, hown, hts⟩ (k_F_decide l dC dI (ad k 0) f1 f2 f3 f4 cI fi fa r ra ri rv se hse hs16) (cwV 1 hts (gd_V in_123 in_58 in_59 in_17 in_57) rfl rfl rfl (by decide +kernel) ⟨Nat.le_of_ble_eq_true rfl, Nat.le_of_ble_eq_true rfl⟩) ⟨fun a U g mk q => by obtain ⟨q0, qP, qK⟩ := q; exact ⟨q0, qP, va_K.moved (u := U) (U := U.calling g mk a) (Vm.Alike.refl U.vm) qK⟩, va_recv hKc hPc (ci := 0) (q0 := 0) rfl rfl, fun U hU hW => ⟨rfl, by rw [hU]; exact hPc, va_K.moved hW.alike hKc⟩⟩ rfl rfl hl.1 rfl (lv_room (Nat.le_of_ble_eq_true rfl)) dVf_test_9 ⟨Nat.le_of_ble_eq_true rfl, Nat.le_of_ble_eq_true rfl⟩) (fun r_3 er_4 => ?_)
  subst er_4
  exact W.iret (v := s_dec fi fa ri se) hx hb hr (fun t ht hW => ⟨s_dec fi fa ri se, rfl, rfl, ht⟩) (fun q h => by cases h) dVf_test_12
set_option maxHeartbeats 4000000 in
set_option maxRecDepth 100000 in
/-- value(k, z, t) -/
theorem k_V_value (l : Launch) (dC : Nat → ClassId) (dI : Nat → Nat → Nat) (x xa r ra : Nat) (cI cQ : ClassId) (ad : Nat → Nat → Nat) (ri rv : Nat → Int32) (k f1 f2 f3 f4 : Nat) (hk4 : k < 4) (fi : Nat → Int32) (fa : Nat → Nat → Int32) (z t0 : Nat) (hz : z < 16) (ht31 : t0 < 2 ^ 31) (hlo : ¬ nI t0 < fi 2) (hhi : nI t0 ≤ fi 1) : Met l yVf_value wsVf_value ({ frames := 5, cells := 0, slots := 0, locals := 200 }) (va_Pc [.ref x, .int (nI k), .int (nI z), .int (nI t0)] (fun U => va_P (dC, dI) vwCl (wV x xa r cQ ad ++ wR r ra cI ri rv ++ wF (ad k 0) f1 f2 f3 f4 cI fi fa) U.heap ∧ va_K (dC, dI) vwCl [(cI, .int), (cQ, .object RFo)] U)) (vp_Si (fun r => r = fa 0 (t0 % 17 * 16 + z))) 0 0 (fun _ => False) := by
  refine Met.ofW (cc := cVf_value) (maxL := 5) (ret := (some .int)) (by decide) rfl ?_
  intro p e s m args below meth c s₁ B hml hv
  obtain ⟨rfl, hP, hK⟩ := hv
  have hx := B.exec
  have hb := B.bytes
  have hr := B.returns
  have hts0 := atoms_spec (ws := wsVf_value) B.pre
  have hts := fun (w : Cond) (h : w ∈ lw_g) => hts0 w (List.mem_cons_of_mem _ h)
  have hown : s.vm.findClass RVf = some m.cls := findClass_of_methodNamed B.named
  have hlocks := B.notSynchronized
  have hl := lv_entry ([.ref x, .int (nI k), .int (nI z), .int (nI t0)]) (n := 5) (Nat.le_of_ble_eq_true rfl)
  rw [lg_entry_eq]
  generalize (lg_sl ([.ref x, .int (nI k), .int (nI z), .int (nI t0)]) ++ List.replicate (5 - (lg_sl ([.ref x, .int (nI k), .int (nI z), .int (nI t0)])).length) Slot.unset).toArray = ls at hl ⊢
  have hl : lv_has ls 5 [(0, .ref x), (1, .int (nI k)), (2, .int (nI z)), (3, .int (nI t0))] := hl
  refine lv_aload_n hx hb dVf_value_0 rfl (lv_at hl 0 rfl) ?_
  refine lv_iload_n hx hb dVf_value_1 rfl (lv_at hl 1 rfl) ?_
  have hPc := hP.sub (ws' := (wV x xa r cQ ad)) [0, 1] rfl
  have hKc := hK.sub (tys' := [(cI, .int), (cQ, .object RFo)]) [0, 1] rfl
  refine va_csr (W.runV (As := [.int (nI k)]) (rest := []) ⟨hx, hb, hml, hown, hts⟩ (k_V_foldAt l dC dI x xa r cI cQ ad k hk4) (cwV 1 hts (gd_V in_118 in_120 in_121 in_112 in_119) rfl rfl rfl (by decide +kernel) ⟨Nat.le_of_ble_eq_true rfl, Nat.le_of_ble_eq_true rfl⟩) ⟨fun a U g mk q => by obtain ⟨q0, qP, qK⟩ := q; exact ⟨q0, qP, va_K.moved (u := U) (U := U.calling g mk a) (Vm.Alike.refl U.vm) qK⟩, va_recv hKc hPc (ci := 2) (q0 := 0) rfl rfl, fun U hU hW => ⟨rfl, by rw [hU]; exact hPc, va_K.moved hW.alike hKc⟩⟩ rfl rfl hl.1 rfl (lv_room (Nat.le_of_ble_eq_true rfl)) dVf_value_2 ⟨Nat.le_of_ble_eq_true rfl, Nat.le_of_ble_eq_true rfl⟩) (fun j_1 ej_2 => ?_)
  rw [ej_2]
  refine lv_astore (lv' := [(4, .ref (ad k 0)), (0, .ref x), (1, .int (nI k)), (2, .int (nI z)), (3, .int (nI t0))]) hx hb dVf_value_5 hl (by decide) rfl (fun ls hl => ?_)
  refine lv_iload_n hx hb dVf_value_7 rfl (lv_at hl 3 rfl) ?_
  refine va_csv (W.runS (As := [.int (nI z)]) (rest := []) ⟨hx, hb, hml, hown, hts⟩ (k_V_requireKey l z hz) (va_cwS 1 hts (gd_S in_124 in_126 in_112 in_125) rfl rfl rfl (by decide +kernel) ⟨Nat.le_of_ble_eq_true rfl, Nat.le_of_ble_eq_true rfl⟩) ⟨fun a U g mk q => q, fun U hU hW => ⟨rfl, trivial⟩⟩ rfl rfl hl.1 rfl (lv_room (Nat.le_of_ble_eq_true rfl)) dVf_value_8 ⟨Nat.le_of_ble_eq_true rfl, Nat.le_of_ble_eq_true rfl⟩) (fun er_4 => ?_)
  refine lv_iload_n hx hb dVf_value_11 rfl (lv_at hl 4 rfl) ?_
  refine lv_aload hx hb dVf_value_12 (lv_at hl 0 rfl) ?_
  refine va_get (D := (dC, dI)) (ci := 0) (v := .int (fi 2)) (C := RFo) (T := TFo) (N := 10) hx hb hts inFo hown hK hP 4 rfl rfl 2 (by decide) (hts _ in_127) (fun _ h9 => h9) rfl dVf_value_14 ?_
  refine lv_icmp_lt (tgt := 29) hx hb dVf_value_17 (by decide) (fun c_5 => ?_) (fun c_5 => ?_)
  · skip
    exact absurd c_5 hlo
  · skip
    refine lv_iload_n hx hb dVf_value_20 rfl (lv_at hl 4 rfl) ?_
    refine lv_aload hx hb dVf_value_21 (lv_at hl 0 rfl) ?_
    refine va_get (D := (dC, dI)) (ci := 0) (v := .int (fi 1)) (C := RFo) (T := TFo) (N := 10) hx hb hts inFo hown hK hP 4 rfl rfl 1 (by decide) (hts _ in_128) (fun _ h9 => h9) rfl dVf_value_23 ?_
    refine lv_icmp_le (tgt := 39) hx hb dVf_value_26 (by decide) (fun c_6 => ?_) (fun c_6 => ?_)
    · skip
      refine lv_aload hx hb dVf_value_39 (lv_at hl 0 rfl) ?_
      refine lv_iload_n hx hb dVf_value_41 rfl (lv_at hl 3 rfl) ?_
      refine lv_iload_n hx hb dVf_value_42 rfl (lv_at hl 4 rfl) ?_
      have hPc := hP.sub (ws' := (wF (ad k 0) f1 f2 f3 f4 cI fi fa)) [4, 5, 6, 7, 8] rfl
      have hKc := hK.sub (tys' := [(cI, .int)]) [0] rfl
      refine vp_callSi (W.runV (As := [.int (nI z), .int (nI t0)]) (rest := []) ⟨hx, hb, hml, hown, hts⟩ (k_F_valueAt l dC dI (ad k 0) f1 f2 f3 f4 cI fi fa z t0 hz ht31) (cwV 2 hts (gd_V in_129 in_21 in_22 in_17 in_20) rfl rfl rfl (by decide +kernel) ⟨Nat.le_of_ble_eq_true rfl, Nat.le_of_ble_eq_true rfl⟩) ⟨fun a U g mk q => by obtain ⟨q0, qP, qK⟩ := q; exact ⟨q0, qP, va_K.moved (u := U) (U := U.calling g mk a) (Vm.Alike.refl U.vm) qK⟩, va_recv hKc hPc (ci := 0) (q0 := 0) rfl rfl, fun U hU hW => ⟨rfl, by rw [hU]; exact hPc, va_K.moved hW.alike hKc⟩⟩ rfl rfl hl.1 rfl (lv_room (Nat.le_of_ble_eq_true rfl)) dVf_value_43 ⟨Nat.le_of_ble_eq_true rfl, Nat.le_of_ble_eq_true rfl⟩) (fun r_7 er_8 => ?_)
      subst er_8
      exact W.iret (v := fa 0 (t0 % 17 * 16 + z)) hx hb hr (fun t ht hW => ⟨fa 0 (t0 % 17 * 16 + z), rfl, rfl, ht⟩) (fun q h => by cases h) dVf_value_46
    · skip
      exact absurd hhi c_6
set_option maxHeartbeats 4000000 in
set_option maxRecDepth 100000 in
/-- seq(k, z) -/
theorem k_V_seq (l : Launch) (dC : Nat → ClassId) (dI : Nat → Nat → Nat) (x xa r ra : Nat) (cI cQ : ClassId) (ad : Nat → Nat → Nat) (ri rv : Nat → Int32) (k f1 f2 f3 f4 : Nat) (hk4 : k < 4) (fi : Nat → Int32) (fa : Nat → Nat → Int32) (z : Nat) (hz : z < 16) : Met l yVf_seq wsVf_seq ({ frames := 5, cells := 0, slots := 0, locals := 200 }) (va_Pc [.ref x, .int (nI k), .int (nI z)] (fun U => va_P (dC, dI) vwCl (wV x xa r cQ ad ++ wR r ra cI ri rv ++ wF (ad k 0) f1 f2 f3 f4 cI fi fa) U.heap ∧ va_K (dC, dI) vwCl [(cI, .int), (cQ, .object RFo)] U)) (vp_Si (fun r => r = fa 2 z)) 0 0 (fun _ => False) := by
  refine Met.ofW (cc := cVf_seq) (maxL := 4) (ret := (some .int)) (by decide) rfl ?_
  intro p e s m args below meth c s₁ B hml hv
  obtain ⟨rfl, hP, hK⟩ := hv
  have hx := B.exec
  have hb := B.bytes
  have hr := B.returns
  have hts0 := atoms_spec (ws := wsVf_seq) B.pre
  have hts := fun (w : Cond) (h : w ∈ lw_g) => hts0 w (List.mem_cons_of_mem _ h)
  have hown : s.vm.findClass RVf = some m.cls := findClass_of_methodNamed B.named
  have hlocks := B.notSynchronized
  have hl := lv_entry ([.ref x, .int (nI k), .int (nI z)]) (n := 4) (Nat.le_of_ble_eq_true rfl)
  rw [lg_entry_eq]
  generalize (lg_sl ([.ref x, .int (nI k), .int (nI z)]) ++ List.replicate (4 - (lg_sl ([.ref x, .int (nI k), .int (nI z)])).length) Slot.unset).toArray = ls at hl ⊢
  have hl : lv_has ls 4 [(0, .ref x), (1, .int (nI k)), (2, .int (nI z))] := hl
  refine lv_aload_n hx hb dVf_seq_0 rfl (lv_at hl 0 rfl) ?_
  refine lv_iload_n hx hb dVf_seq_1 rfl (lv_at hl 1 rfl) ?_
  have hPc := hP.sub (ws' := (wV x xa r cQ ad)) [0, 1] rfl
  have hKc := hK.sub (tys' := [(cI, .int), (cQ, .object RFo)]) [0, 1] rfl
  refine va_csr (W.runV (As := [.int (nI k)]) (rest := []) ⟨hx, hb, hml, hown, hts⟩ (k_V_foldAt l dC dI x xa r cI cQ ad k hk4) (cwV 1 hts (gd_V in_118 in_120 in_121 in_112 in_119) rfl rfl rfl (by decide +kernel) ⟨Nat.le_of_ble_eq_true rfl, Nat.le_of_ble_eq_true rfl⟩) ⟨fun a U g mk q => by obtain ⟨q0, qP, qK⟩ := q; exact ⟨q0, qP, va_K.moved (u := U) (U := U.calling g mk a) (Vm.Alike.refl U.vm) qK⟩, va_recv hKc hPc (ci := 2) (q0 := 0) rfl rfl, fun U hU hW => ⟨rfl, by rw [hU]; exact hPc, va_K.moved hW.alike hKc⟩⟩ rfl rfl hl.1 rfl (lv_room (Nat.le_of_ble_eq_true rfl)) dVf_seq_2 ⟨Nat.le_of_ble_eq_true rfl, Nat.le_of_ble_eq_true rfl⟩) (fun j_1 ej_2 => ?_)
  rw [ej_2]
  refine lv_astore_n (lv' := [(3, .ref (ad k 0)), (0, .ref x), (1, .int (nI k)), (2, .int (nI z))]) hx hb dVf_seq_5 rfl hl (by decide) rfl (fun ls hl => ?_)
  refine lv_iload_n hx hb dVf_seq_6 rfl (lv_at hl 3 rfl) ?_
  refine va_csv (W.runS (As := [.int (nI z)]) (rest := []) ⟨hx, hb, hml, hown, hts⟩ (k_V_requireSession l z hz) (va_cwS 1 hts (gd_S in_130 in_132 in_112 in_131) rfl rfl rfl (by decide +kernel) ⟨Nat.le_of_ble_eq_true rfl, Nat.le_of_ble_eq_true rfl⟩) ⟨fun a U g mk q => q, fun U hU hW => ⟨rfl, trivial⟩⟩ rfl rfl hl.1 rfl (lv_room (Nat.le_of_ble_eq_true rfl)) dVf_seq_7 ⟨Nat.le_of_ble_eq_true rfl, Nat.le_of_ble_eq_true rfl⟩) (fun er_4 => ?_)
  refine lv_aload_n hx hb dVf_seq_10 rfl (lv_at hl 0 rfl) ?_
  refine va_get (D := (dC, dI)) (ci := 0) (v := .ref f3) (C := RFo) (T := TFo) (N := 10) hx hb hts inFo hown hK hP 4 rfl rfl 8 (by decide) (hts _ in_133) (fun _ h9 => h9) rfl dVf_seq_11 ?_
  refine lv_iload_n hx hb dVf_seq_14 rfl (lv_at hl 3 rfl) ?_
  refine vq_iald (k := z) (f := fa 2) hx hb hK hP 7 0 rfl rfl rfl hz (by decide) dVf_seq_15 ?_
  exact W.iret (v := (fa 2) z) hx hb hr (fun t ht hW => ⟨(fa 2) z, rfl, rfl, ht⟩) (fun q h => by cases h) dVf_seq_16
set_option maxHeartbeats 4000000 in
set_option maxRecDepth 100000 in
/-- verdict(k, z) -/
theorem k_V_verdict (l : Launch) (dC : Nat → ClassId) (dI : Nat → Nat → Nat) (x xa r ra : Nat) (cI cQ : ClassId) (ad : Nat → Nat → Nat) (ri rv : Nat → Int32) (k f1 f2 f3 f4 : Nat) (hk4 : k < 4) (fi : Nat → Int32) (fa : Nat → Nat → Int32) (z : Nat) (hz : z < 16) : Met l yVf_verdict wsVf_verdict ({ frames := 5, cells := 0, slots := 0, locals := 200 }) (va_Pc [.ref x, .int (nI k), .int (nI z)] (fun U => va_P (dC, dI) vwCl (wV x xa r cQ ad ++ wR r ra cI ri rv ++ wF (ad k 0) f1 f2 f3 f4 cI fi fa) U.heap ∧ va_K (dC, dI) vwCl [(cI, .int), (cQ, .object RFo)] U)) (vp_Si (fun r => r = fa 3 z)) 0 0 (fun _ => False) := by
  refine Met.ofW (cc := cVf_verdict) (maxL := 4) (ret := (some .int)) (by decide) rfl ?_
  intro p e s m args below meth c s₁ B hml hv
  obtain ⟨rfl, hP, hK⟩ := hv
  have hx := B.exec
  have hb := B.bytes
  have hr := B.returns
  have hts0 := atoms_spec (ws := wsVf_verdict) B.pre
  have hts := fun (w : Cond) (h : w ∈ lw_g) => hts0 w (List.mem_cons_of_mem _ h)
  have hown : s.vm.findClass RVf = some m.cls := findClass_of_methodNamed B.named
  have hlocks := B.notSynchronized
  have hl := lv_entry ([.ref x, .int (nI k), .int (nI z)]) (n := 4) (Nat.le_of_ble_eq_true rfl)
  rw [lg_entry_eq]
  generalize (lg_sl ([.ref x, .int (nI k), .int (nI z)]) ++ List.replicate (4 - (lg_sl ([.ref x, .int (nI k), .int (nI z)])).length) Slot.unset).toArray = ls at hl ⊢
  have hl : lv_has ls 4 [(0, .ref x), (1, .int (nI k)), (2, .int (nI z))] := hl
  refine lv_aload_n hx hb dVf_verdict_0 rfl (lv_at hl 0 rfl) ?_
  refine lv_iload_n hx hb dVf_verdict_1 rfl (lv_at hl 1 rfl) ?_
  have hPc := hP.sub (ws' := (wV x xa r cQ ad)) [0, 1] rfl
  have hKc := hK.sub (tys' := [(cI, .int), (cQ, .object RFo)]) [0, 1] rfl
  refine va_csr (W.runV (As := [.int (nI k)]) (rest := []) ⟨hx, hb, hml, hown, hts⟩ (k_V_foldAt l dC dI x xa r cI cQ ad k hk4) (cwV 1 hts (gd_V in_118 in_120 in_121 in_112 in_119) rfl rfl rfl (by decide +kernel) ⟨Nat.le_of_ble_eq_true rfl, Nat.le_of_ble_eq_true rfl⟩) ⟨fun a U g mk q => by obtain ⟨q0, qP, qK⟩ := q; exact ⟨q0, qP, va_K.moved (u := U) (U := U.calling g mk a) (Vm.Alike.refl U.vm) qK⟩, va_recv hKc hPc (ci := 2) (q0 := 0) rfl rfl, fun U hU hW => ⟨rfl, by rw [hU]; exact hPc, va_K.moved hW.alike hKc⟩⟩ rfl rfl hl.1 rfl (lv_room (Nat.le_of_ble_eq_true rfl)) dVf_verdict_2 ⟨Nat.le_of_ble_eq_true rfl, Nat.le_of_ble_eq_true rfl⟩) (fun j_1 ej_2 => ?_)
  rw [ej_2]
  refine lv_astore_n (lv' := [(3, .ref (ad k 0)), (0, .ref x), (1, .int (nI k)), (2, .int (nI z))]) hx hb dVf_verdict_5 rfl hl (by decide) rfl (fun ls hl => ?_)
  refine lv_iload_n hx hb dVf_verdict_6 rfl (lv_at hl 3 rfl) ?_
  refine va_csv (W.runS (As := [.int (nI z)]) (rest := []) ⟨hx, hb, hml, hown, hts⟩ (k_V_requireSession l z hz) (va_cwS 1 hts (gd_S in_130 in_132 in_112 in_131) rfl rfl rfl (by decide +kernel) ⟨Nat.le_of_ble_eq_true rfl, Nat.le_of_ble_eq_true rfl⟩) ⟨fun a U g mk q => q, fun U hU hW => ⟨rfl, trivial⟩⟩ rfl rfl hl.1 rfl (lv_room (Nat.le_of_ble_eq_true rfl)) dVf_verdict_7 ⟨Nat.le_of_ble_eq_true rfl, Nat.le_of_ble_eq_true rfl⟩) (fun er_4 => ?_)
  refine lv_aload_n hx hb dVf_verdict_10 rfl (lv_at hl 0 rfl) ?_
  refine va_get (D := (dC, dI)) (ci := 0) (v := .ref f4) (C := RFo) (T := TFo) (N := 10) hx hb hts inFo hown hK hP 4 rfl rfl 9 (by decide) (hts _ in_134) (fun _ h9 => h9) rfl dVf_verdict_11 ?_
  refine lv_iload_n hx hb dVf_verdict_14 rfl (lv_at hl 3 rfl) ?_
  refine vq_iald (k := z) (f := fa 3) hx hb hK hP 8 0 rfl rfl rfl hz (by decide) dVf_verdict_15 ?_
  exact W.iret (v := (fa 3) z) hx hb hr (fun t ht hW => ⟨(fa 3) z, rfl, rfl, ht⟩) (fun q h => by cases h) dVf_verdict_16
set_option maxHeartbeats 4000000 in
set_option maxRecDepth 100000 in
/-- written(k, z) -/
theorem k_V_written (l : Launch) (dC : Nat → ClassId) (dI : Nat → Nat → Nat) (x xa r ra : Nat) (cI cQ : ClassId) (ad : Nat → Nat → Nat) (ri rv : Nat → Int32) (k f1 f2 f3 f4 : Nat) (hk4 : k < 4) (fi : Nat → Int32) (fa : Nat → Nat → Int32) (z : Nat) (hz : z < 16) : Met l yVf_written wsVf_written ({ frames := 5, cells := 0, slots := 0, locals := 200 }) (va_Pc [.ref x, .int (nI k), .int (nI z)] (fun U => va_P (dC, dI) vwCl (wV x xa r cQ ad ++ wR r ra cI ri rv ++ wF (ad k 0) f1 f2 f3 f4 cI fi fa) U.heap ∧ va_K (dC, dI) vwCl [(cI, .int), (cQ, .object RFo)] U)) (vp_Si (fun r => r = s_kw fi (fa 1) z)) 0 0 (fun _ => False) := by
  refine Met.ofW (cc := cVf_written) (maxL := 4) (ret := (some .int)) (by decide) rfl ?_
  intro p e s m args below meth c s₁ B hml hv
  obtain ⟨rfl, hP, hK⟩ := hv
  have hx := B.exec
  have hb := B.bytes
  have hr := B.returns
  have hts0 := atoms_spec (ws := wsVf_written) B.pre
  have hts := fun (w : Cond) (h : w ∈ lw_g) => hts0 w (List.mem_cons_of_mem _ h)
  have hown : s.vm.findClass RVf = some m.cls := findClass_of_methodNamed B.named
  have hlocks := B.notSynchronized
  have hl := lv_entry ([.ref x, .int (nI k), .int (nI z)]) (n := 4) (Nat.le_of_ble_eq_true rfl)
  rw [lg_entry_eq]
  generalize (lg_sl ([.ref x, .int (nI k), .int (nI z)]) ++ List.replicate (4 - (lg_sl ([.ref x, .int (nI k), .int (nI z)])).length) Slot.unset).toArray = ls at hl ⊢
  have hl : lv_has ls 4 [(0, .ref x), (1, .int (nI k)), (2, .int (nI z))] := hl
  refine lv_aload_n hx hb dVf_written_0 rfl (lv_at hl 0 rfl) ?_
  refine lv_iload_n hx hb dVf_written_1 rfl (lv_at hl 1 rfl) ?_
  have hPc := hP.sub (ws' := (wV x xa r cQ ad)) [0, 1] rfl
  have hKc := hK.sub (tys' := [(cI, .int), (cQ, .object RFo)]) [0, 1] rfl
  refine va_csr (W.runV (As := [.int (nI k)]) (rest := []) ⟨hx, hb, hml, hown, hts⟩ (k_V_foldAt l dC dI x xa r cI cQ ad k hk4) (cwV 1 hts (gd_V in_118 in_120 in_121 in_112 in_119) rfl rfl rfl (by decide +kernel) ⟨Nat.le_of_ble_eq_true rfl, Nat.le_of_ble_eq_true rfl⟩) ⟨fun a U g mk q => by obtain ⟨q0, qP, qK⟩ := q; exact ⟨q0, qP, va_K.moved (u := U) (U := U.calling g mk a) (Vm.Alike.refl U.vm) qK⟩, va_recv hKc hPc (ci := 2) (q0 := 0) rfl rfl, fun U hU hW => ⟨rfl, by rw [hU]; exact hPc, va_K.moved hW.alike hKc⟩⟩ rfl rfl hl.1 rfl (lv_room (Nat.le_of_ble_eq_true rfl)) dVf_written_2 ⟨Nat.le_of_ble_eq_true rfl, Nat.le_of_ble_eq_true rfl⟩) (fun j_1 ej_2 => ?_)
  rw [ej_2]
  refine lv_astore_n (lv' := [(3, .ref (ad k 0)), (0, .ref x), (1, .int (nI k)), (2, .int (nI z))]) hx hb dVf_written_5 rfl hl (by decide) rfl (fun ls hl => ?_)
  refine lv_iload_n hx hb dVf_written_6 rfl (lv_at hl 3 rfl) ?_
  refine va_csv (W.runS (As := [.int (nI z)]) (rest := []) ⟨hx, hb, hml, hown, hts⟩ (k_V_requireKey l z hz) (va_cwS 1 hts (gd_S in_124 in_126 in_112 in_125) rfl rfl rfl (by decide +kernel) ⟨Nat.le_of_ble_eq_true rfl, Nat.le_of_ble_eq_true rfl⟩) ⟨fun a U g mk q => q, fun U hU hW => ⟨rfl, trivial⟩⟩ rfl rfl hl.1 rfl (lv_room (Nat.le_of_ble_eq_true rfl)) dVf_written_7 ⟨Nat.le_of_ble_eq_true rfl, Nat.le_of_ble_eq_true rfl⟩) (fun er_4 => ?_)
  refine lv_aload_n hx hb dVf_written_10 rfl (lv_at hl 0 rfl) ?_
  refine lv_iload_n hx hb dVf_written_11 rfl (lv_at hl 3 rfl) ?_
  have hPc := hP.sub (ws' := (wF (ad k 0) f1 f2 f3 f4 cI fi fa)) [4, 5, 6, 7, 8] rfl
  have hKc := hK.sub (tys' := [(cI, .int)]) [0] rfl
  refine vp_callSi (W.runV (As := [.int (nI z)]) (rest := []) ⟨hx, hb, hml, hown, hts⟩ (k_F_keptWrite l dC dI (ad k 0) f1 f2 f3 f4 cI fi fa z hz) (cwV 1 hts (gd_V in_135 in_137 in_138 in_17 in_136) rfl rfl rfl (by decide +kernel) ⟨Nat.le_of_ble_eq_true rfl, Nat.le_of_ble_eq_true rfl⟩) ⟨fun a U g mk q => by obtain ⟨q0, qP, qK⟩ := q; exact ⟨q0, qP, va_K.moved (u := U) (U := U.calling g mk a) (Vm.Alike.refl U.vm) qK⟩, va_recv hKc hPc (ci := 0) (q0 := 0) rfl rfl, fun U hU hW => ⟨rfl, by rw [hU]; exact hPc, va_K.moved hW.alike hKc⟩⟩ rfl rfl hl.1 rfl (lv_room (Nat.le_of_ble_eq_true rfl)) dVf_written_12 ⟨Nat.le_of_ble_eq_true rfl, Nat.le_of_ble_eq_true rfl⟩) (fun r_5 er_6 => ?_)
  subst er_6
  exact W.iret (v := s_kw fi (fa 1) z) hx hb hr (fun t ht hW => ⟨s_kw fi (fa 1) z, rfl, rfl, ht⟩) (fun q h => by cases h) dVf_written_15
set_option maxHeartbeats 4000000 in
set_option maxRecDepth 100000 in
/-- since(k, z) -/
theorem k_V_since (l : Launch) (dC : Nat → ClassId) (dI : Nat → Nat → Nat) (x xa r ra : Nat) (cI cQ : ClassId) (ad : Nat → Nat → Nat) (ri rv : Nat → Int32) (k f1 f2 f3 f4 : Nat) (hk4 : k < 4) (fi : Nat → Int32) (fa : Nat → Nat → Int32) (z : Int32) (hlo : ¬ z < fi 1 - fi 0) (hhi : z ≤ fi 1) : Met l yVf_since wsVf_since ({ frames := 5, cells := 0, slots := 0, locals := 200 }) (va_Pc [.ref x, .int (nI k), .int z] (fun U => va_P (dC, dI) vwCl (wV x xa r cQ ad ++ wR r ra cI ri rv ++ wF (ad k 0) f1 f2 f3 f4 cI fi fa) U.heap ∧ va_K (dC, dI) vwCl [(cI, .int), (cQ, .object RFo)] U)) (vp_Si (fun r => r = s_ky (fa 1) (s_max z 0) 16)) 0 0 (fun _ => False) := by
  refine Met.ofW (cc := cVf_since) (maxL := 4) (ret := (some .int)) (by decide) rfl ?_
  intro p e s m args below meth c s₁ B hml hv
  obtain ⟨rfl, hP, hK⟩ := hv
  have hx := B.exec
  have hb := B.bytes
  have hr := B.returns
  have hts0 := atoms_spec (ws := wsVf_since) B.pre
  have hts := fun (w : Cond) (h : w ∈ lw_g) => hts0 w (List.mem_cons_of_mem _ h)
  have hown : s.vm.findClass RVf = some m.cls := findClass_of_methodNamed B.named
  have hlocks := B.notSynchronized
  have hl := lv_entry ([.ref x, .int (nI k), .int z]) (n := 4) (Nat.le_of_ble_eq_true rfl)
  rw [lg_entry_eq]
  generalize (lg_sl ([.ref x, .int (nI k), .int z]) ++ List.replicate (4 - (lg_sl ([.ref x, .int (nI k), .int z])).length) Slot.unset).toArray = ls at hl ⊢
  have hl : lv_has ls 4 [(0, .ref x), (1, .int (nI k)), (2, .int z)] := hl
  refine lv_aload_n hx hb dVf_since_0 rfl (lv_at hl 0 rfl) ?_
  refine lv_iload_n hx hb dVf_since_1 rfl (lv_at hl 1 rfl) ?_
  have hPc := hP.sub (ws' := (wV x xa r cQ ad)) [0, 1] rfl
  have hKc := hK.sub (tys' := [(cI, .int), (cQ, .object RFo)]) [0, 1] rfl
  refine va_csr (W.runV (As := [.int (nI k)]) (rest := []) ⟨hx, hb, hml, hown, hts⟩ (k_V_foldAt l dC dI x xa r cI cQ ad k hk4) (cwV 1 hts (gd_V in_118 in_120 in_121 in_112 in_119) rfl rfl rfl (by decide +kernel) ⟨Nat.le_of_ble_eq_true rfl, Nat.le_of_ble_eq_true rfl⟩) ⟨fun a U g mk q => by obtain ⟨q0, qP, qK⟩ := q; exact ⟨q0, qP, va_K.moved (u := U) (U := U.calling g mk a) (Vm.Alike.refl U.vm) qK⟩, va_recv hKc hPc (ci := 2) (q0 := 0) rfl rfl, fun U hU hW => ⟨rfl, by rw [hU]; exact hPc, va_K.moved hW.alike hKc⟩⟩ rfl rfl hl.1 rfl (lv_room (Nat.le_of_ble_eq_true rfl)) dVf_since_2 ⟨Nat.le_of_ble_eq_true rfl, Nat.le_of_ble_eq_true rfl⟩) (fun j_1 ej_2 => ?_)
  rw [ej_2]
  refine lv_astore_n (lv' := [(3, .ref (ad k 0)), (0, .ref x), (1, .int (nI k)), (2, .int z)]) hx hb dVf_since_5 rfl hl (by decide) rfl (fun ls hl => ?_)
  refine lv_iload_n hx hb dVf_since_6 rfl (lv_at hl 3 rfl) ?_
  refine lv_aload_n hx hb dVf_since_7 rfl (lv_at hl 0 rfl) ?_
  have hPc := hP.sub (ws' := (wF (ad k 0) f1 f2 f3 f4 cI fi fa)) [4, 5, 6, 7, 8] rfl
  have hKc := hK.sub (tys' := [(cI, .int)]) [0] rfl
  refine vp_callSi (W.runV (As := []) (rest := [.int z]) ⟨hx, hb, hml, hown, hts⟩ (k_F_oldest l dC dI (ad k 0) f1 f2 f3 f4 cI fi fa) (cwV 0 hts (gd_V in_139 in_30 in_31 in_17 in_29) rfl rfl rfl (by decide +kernel) ⟨Nat.le_of_ble_eq_true rfl, Nat.le_of_ble_eq_true rfl⟩) ⟨fun a U g mk q => by obtain ⟨q0, qP, qK⟩ := q; exact ⟨q0, qP, va_K.moved (u := U) (U := U.calling g mk a) (Vm.Alike.refl U.vm) qK⟩, va_recv hKc hPc (ci := 0) (q0 := 0) rfl rfl, fun U hU hW => ⟨rfl, by rw [hU]; exact hPc, va_K.moved hW.alike hKc⟩⟩ rfl rfl hl.1 rfl (lv_room (Nat.le_of_ble_eq_true rfl)) dVf_since_8 ⟨Nat.le_of_ble_eq_true rfl, Nat.le_of_ble_eq_true rfl⟩) (fun r_3 er_4 => ?_)
  subst er_4
  refine lv_icmp_lt (tgt := 22) hx hb dVf_since_11 (by decide) (fun c_5 => ?_) (fun c_5 => ?_)
  · skip
    exact absurd c_5 hlo
  · skip
    refine lv_iload_n hx hb dVf_since_14 rfl (lv_at hl 3 rfl) ?_
    refine lv_aload_n hx hb dVf_since_15 rfl (lv_at hl 0 rfl) ?_
    refine va_get (D := (dC, dI)) (ci := 0) (v := .int (fi 1)) (C := RFo) (T := TFo) (N := 10) hx hb hts inFo hown hK hP 4 rfl rfl 1 (by decide) (hts _ in_128) (fun _ h9 => h9) rfl dVf_since_16 ?_
    refine lv_icmp_le (tgt := 32) hx hb dVf_since_19 (by decide) (fun c_6 => ?_) (fun c_6 => ?_)
    · skip
      refine lv_aload_n hx hb dVf_since_32 rfl (lv_at hl 0 rfl) ?_
      refine lv_iload_n hx hb dVf_since_33 rfl (lv_at hl 3 rfl) ?_
      have hPc := hP.sub (ws' := (wF (ad k 0) f1 f2 f3 f4 cI fi fa)) [4, 5, 6, 7, 8] rfl
      have hKc := hK.sub (tys' := [(cI, .int)]) [0] rfl
      refine vp_callSi (W.runV (As := [.int z]) (rest := []) ⟨hx, hb, hml, hown, hts⟩ (k_F_keysAfter l dC dI (ad k 0) f1 f2 f3 f4 cI fi fa z) (cwV 1 hts (gd_V in_140 in_35 in_36 in_17 in_34) rfl rfl rfl (by decide +kernel) ⟨Nat.le_of_ble_eq_true rfl, Nat.le_of_ble_eq_true rfl⟩) ⟨fun a U g mk q => by obtain ⟨q0, qP, qK⟩ := q; exact ⟨q0, qP, va_K.moved (u := U) (U := U.calling g mk a) (Vm.Alike.refl U.vm) qK⟩, va_recv hKc hPc (ci := 0) (q0 := 0) rfl rfl, fun U hU hW => ⟨rfl, by rw [hU]; exact hPc, va_K.moved hW.alike hKc⟩⟩ rfl rfl hl.1 rfl (lv_room (Nat.le_of_ble_eq_true rfl)) dVf_since_34 ⟨Nat.le_of_ble_eq_true rfl, Nat.le_of_ble_eq_true rfl⟩) (fun r_7 er_8 => ?_)
      subst er_8
      exact W.iret (v := s_ky (fa 1) (s_max z 0) 16) hx hb hr (fun t ht hW => ⟨s_ky (fa 1) (s_max z 0) 16, rfl, rfl, ht⟩) (fun q h => by cases h) dVf_since_37
    · skip
      exact absurd hhi c_6
set_option maxHeartbeats 4000000 in
set_option maxRecDepth 100000 in
/-- same(k, b) -/
theorem k_V_same (l : Launch) (dC : Nat → ClassId) (dI : Nat → Nat → Nat) (x xa r ra : Nat) (cI cQ : ClassId) (ad : Nat → Nat → Nat) (ri rv : Nat → Int32) (k f1 f2 f3 f4 : Nat) (hk4 : k < 4) (fi : Nat → Int32) (fa : Nat → Nat → Int32) (b g1 g2 g3 g4 : Nat) (hb4 : b < 4) (gi : Nat → Int32) (ga : Nat → Nat → Int32) (n : Nat) (hn : n < 2 ^ 31) (hix : fi 1 = nI n) : Met l yVf_same wsVf_same ({ frames := 5, cells := 0, slots := 0, locals := 200 }) (va_Pc [.ref x, .int (nI k), .int (nI b)] (fun U => va_P (dC, dI) vwCl (wV x xa r cQ ad ++ wR r ra cI ri rv ++ wF (ad k 0) f1 f2 f3 f4 cI fi fa ++ wF (ad b 0) g1 g2 g3 g4 cI gi ga) U.heap ∧ va_K (dC, dI) vwCl [(cI, .int), (cQ, .object RFo)] U)) (vp_Si (fun r => r = s_like fi fa gi ga n)) 0 0 (fun _ => False) := by
  refine Met.ofW (cc := cVf_same) (maxL := 5) (ret := (some .boolean)) (by decide) rfl ?_
  intro p e s m args below meth c s₁ B hml hv
  obtain ⟨rfl, hP, hK⟩ := hv
  have hx := B.exec
  have hb := B.bytes
  have hr := B.returns
  have hts0 := atoms_spec (ws := wsVf_same) B.pre
  have hts := fun (w : Cond) (h : w ∈ lw_g) => hts0 w (List.mem_cons_of_mem _ h)
  have hown : s.vm.findClass RVf = some m.cls := findClass_of_methodNamed B.named
  have hlocks := B.notSynchronized
  have hl := lv_entry ([.ref x, .int (nI k), .int (nI b)]) (n := 5) (Nat.le_of_ble_eq_true rfl)
  rw [lg_entry_eq]
  generalize (lg_sl ([.ref x, .int (nI k), .int (nI b)]) ++ List.replicate (5 - (lg_sl ([.ref x, .int (nI k), .int (nI b)])).length) Slot.unset).toArray = ls at hl ⊢
  have hl : lv_has ls 5 [(0, .ref x), (1, .int (nI k)), (2, .int (nI b))] := hl
  refine lv_aload_n hx hb dVf_same_0 rfl (lv_at hl 0 rfl) ?_
  refine lv_iload_n hx hb dVf_same_1 rfl (lv_at hl 1 rfl) ?_
  have hPc := hP.sub (ws' := (wV x xa r cQ ad)) [0, 1] rfl
  have hKc := hK.sub (tys' := [(cI, .int), (cQ, .object RFo)]) [0, 1] rfl
  refine va_csr (W.runV (As := [.int (nI k)]) (rest := []) ⟨hx, hb, hml, hown, hts⟩ (k_V_foldAt l dC dI x xa r cI cQ ad k hk4) (cwV 1 hts (gd_V in_118 in_120 in_121 in_112 in_119) rfl rfl rfl (by decide +kernel) ⟨Nat.le_of_ble_eq_true rfl, Nat.le_of_ble_eq_true rfl⟩) ⟨fun a U g mk q => by obtain ⟨q0, qP, qK⟩ := q; exact ⟨q0, qP, va_K.moved (u := U) (U := U.calling g mk a) (Vm.Alike.refl U.vm) qK⟩, va_recv hKc hPc (ci := 2) (q0 := 0) rfl rfl, fun U hU hW => ⟨rfl, by rw [hU]; exact hPc, va_K.moved hW.alike hKc⟩⟩ rfl rfl hl.1 rfl (lv_room (Nat.le_of_ble_eq_true rfl)) dVf_same_2 ⟨Nat.le_of_ble_eq_true rfl, Nat.le_of_ble_eq_true rfl⟩) (fun j_1 ej_2 => ?_)
  rw [ej_2]
  refine lv_astore_n (lv' := [(3, .ref (ad k 0)), (0, .ref x), (1, .int (nI k)), (2, .int (nI b))]) hx hb dVf_same_5 rfl hl (by decide) rfl (fun ls hl => ?_)
  refine lv_aload_n hx hb dVf_same_6 rfl (lv_at hl 1 rfl) ?_
  refine lv_iload_n hx hb dVf_same_7 rfl (lv_at hl 3 rfl) ?_
  have hPc := hP.sub (ws' := (wV x xa r cQ ad)) [0, 1] rfl
  have hKc := hK.sub (tys' := [(cI, .int), (cQ, .object RFo)]) [0, 1] rfl
  refine va_csr (W.runV (As := [.int (nI b)]) (rest := []) ⟨hx, hb, hml, hown, hts⟩ (k_V_foldAt l dC dI x xa r cI cQ ad b hb4) (cwV 1 hts (gd_V in_118 in_120 in_121 in_112 in_119) rfl rfl rfl (by decide +kernel) ⟨Nat.le_of_ble_eq_true rfl, Nat.le_of_ble_eq_true rfl⟩) ⟨fun a U g mk q => by obtain ⟨q0, qP, qK⟩ := q; exact ⟨q0, qP, va_K.moved (u := U) (U := U.calling g mk a) (Vm.Alike.refl U.vm) qK⟩, va_recv hKc hPc (ci := 2) (q0 := 0) rfl rfl, fun U hU hW => ⟨rfl, by rw [hU]; exact hPc, va_K.moved hW.alike hKc⟩⟩ rfl rfl hl.1 rfl (lv_room (Nat.le_of_ble_eq_true rfl)) dVf_same_8 ⟨Nat.le_of_ble_eq_true rfl, Nat.le_of_ble_eq_true rfl⟩) (fun j_3 ej_4 => ?_)
  rw [ej_4]
  refine lv_astore (lv' := [(4, .ref (ad b 0)), (3, .ref (ad k 0)), (0, .ref x), (1, .int (nI k)), (2, .int (nI b))]) hx hb dVf_same_11 hl (by decide) rfl (fun ls hl => ?_)
  refine lv_aload_n hx hb dVf_same_13 rfl (lv_at hl 1 rfl) ?_
  refine lv_aload hx hb dVf_same_14 (lv_at hl 0 rfl) ?_
  have hPc := hP.sub (ws' := (wF (ad k 0) f1 f2 f3 f4 cI fi fa ++ wF (ad b 0) g1 g2 g3 g4 cI gi ga)) [4, 5, 6, 7, 8, 9, 10, 11, 12, 13] rfl
  have hKc := hK.sub (tys' := [(cI, .int)]) [0] rfl
  refine vp_callSi (W.runV (As := [.ref (ad b 0)]) (rest := []) ⟨hx, hb, hml, hown, hts⟩ (k_F_isLike l dC dI (ad k 0) f1 f2 f3 f4 cI fi fa (ad b 0) g1 g2 g3 g4 gi ga n hn hix) (cwV 1 hts (gd_V in_141 in_143 in_144 in_17 in_142) rfl rfl rfl (by decide +kernel) ⟨Nat.le_of_ble_eq_true rfl, Nat.le_of_ble_eq_true rfl⟩) ⟨fun a U g mk q => by obtain ⟨q0, qP, qK⟩ := q; exact ⟨q0, qP, va_K.moved (u := U) (U := U.calling g mk a) (Vm.Alike.refl U.vm) qK⟩, va_recv hKc hPc (ci := 0) (q0 := 0) rfl rfl, fun U hU hW => ⟨rfl, by rw [hU]; exact hPc, va_K.moved hW.alike hKc⟩⟩ rfl rfl hl.1 rfl (lv_room (Nat.le_of_ble_eq_true rfl)) dVf_same_16 ⟨Nat.le_of_ble_eq_true rfl, Nat.le_of_ble_eq_true rfl⟩) (fun r_5 er_6 => ?_)
  subst er_6
  exact W.zret (v := s_like fi fa gi ga n) (ty := .boolean) hx hb hr s_like_b (fun t ht hW => ⟨s_like fi fa gi ga n, rfl, rfl, ht⟩) (fun q h => by cases h) dVf_same_19
set_option maxHeartbeats 4000000 in
set_option maxRecDepth 100000 in
/-- look(k, wh) -/
theorem k_V_look (l : Launch) (dC : Nat → ClassId) (dI : Nat → Nat → Nat) (x xa r ra : Nat) (cI cQ : ClassId) (ad : Nat → Nat → Nat) (ri rv : Nat → Int32) (k f1 f2 f3 f4 : Nat) (hk4 : k < 4) (fi : Nat → Int32) (fa : Nat → Nat → Int32) (n : Nat) (hn : n < 2 ^ 31) (hix : fi 1 = nI n) (wh : Int32) (j0 : Nat) (hj0 : (j0 < 8 ∧ wh = nI j0) ∨ (8 = j0 ∧ (wh.toInt < 0 ∨ 7 < wh.toInt))) : Met l yVf_look wsVf_look ({ frames := 5, cells := 0, slots := 0, locals := 200 }) (va_Pc [.ref x, .int (nI k), .int wh] (fun U => va_P (dC, dI) vwCl (wV x xa r cQ ad ++ wR r ra cI ri rv ++ wF (ad k 0) f1 f2 f3 f4 cI fi fa) U.heap ∧ va_K (dC, dI) vwCl [(cI, .int), (cQ, .object RFo)] U)) (vp_Si (fun r => r = s_look fi fa ri n j0)) 0 0 (fun _ => False) := by
  refine Met.ofW (cc := cVf_look) (maxL := 4) (ret := (some .int)) (by decide) rfl ?_
  intro p e s m args below meth c s₁ B hml hv
  obtain ⟨rfl, hP, hK⟩ := hv
  have hx := B.exec
  have hb := B.bytes
  have hr := B.returns
  have hts0 := atoms_spec (ws := wsVf_look) B.pre
  have hts := fun (w : Cond) (h : w ∈ lw_g) => hts0 w (List.mem_cons_of_mem _ h)
  have hown : s.vm.findClass RVf = some m.cls := findClass_of_methodNamed B.named
  have hlocks := B.notSynchronized
  have hl := lv_entry ([.ref x, .int (nI k), .int wh]) (n := 4) (Nat.le_of_ble_eq_true rfl)
  rw [lg_entry_eq]
  generalize (lg_sl ([.ref x, .int (nI k), .int wh]) ++ List.replicate (4 - (lg_sl ([.ref x, .int (nI k), .int wh])).length) Slot.unset).toArray = ls at hl ⊢
  have hl : lv_has ls 4 [(0, .ref x), (1, .int (nI k)), (2, .int wh)] := hl
  refine lv_aload_n hx hb dVf_look_0 rfl (lv_at hl 0 rfl) ?_
  refine lv_iload_n hx hb dVf_look_1 rfl (lv_at hl 1 rfl) ?_
  have hPc := hP.sub (ws' := (wV x xa r cQ ad)) [0, 1] rfl
  have hKc := hK.sub (tys' := [(cI, .int), (cQ, .object RFo)]) [0, 1] rfl
  refine va_csr (W.runV (As := [.int (nI k)]) (rest := []) ⟨hx, hb, hml, hown, hts⟩ (k_V_foldAt l dC dI x xa r cI cQ ad k hk4) (cwV 1 hts (gd_V in_118 in_120 in_121 in_112 in_119) rfl rfl rfl (by decide +kernel) ⟨Nat.le_of_ble_eq_true rfl, Nat.le_of_ble_eq_true rfl⟩) ⟨fun a U g mk q => by obtain ⟨q0, qP, qK⟩ := q; exact ⟨q0, qP, va_K.moved (u := U) (U := U.calling g mk a) (Vm.Alike.refl U.vm) qK⟩, va_recv hKc hPc (ci := 2) (q0 := 0) rfl rfl, fun U hU hW => ⟨rfl, by rw [hU]; exact hPc, va_K.moved hW.alike hKc⟩⟩ rfl rfl hl.1 rfl (lv_room (Nat.le_of_ble_eq_true rfl)) dVf_look_2 ⟨Nat.le_of_ble_eq_true rfl, Nat.le_of_ble_eq_true rfl⟩) (fun j_1 ej_2 => ?_)
  rw [ej_2]
  refine lv_astore_n (lv' := [(3, .ref (ad k 0)), (0, .ref x), (1, .int (nI k)), (2, .int wh)]) hx hb dVf_look_5 rfl hl (by decide) rfl (fun ls hl => ?_)
  refine lv_iload_n hx hb dVf_look_6 rfl (lv_at hl 3 rfl) ?_
  rcases hj0 with ⟨hj9, ex9⟩ | ⟨ej9, hout⟩
  · skip
    rcases (show j0 = 0 ∨ j0 = 1 ∨ j0 = 2 ∨ j0 = 3 ∨ j0 = 4 ∨ j0 = 5 ∨ j0 = 6 ∨ j0 = 7 by omega) with ej9 | ej9 | ej9 | ej9 | ej9 | ej9 | ej9 | ej9
    · skip
      subst ej9
      subst ex9
      refine lv_tableIn (tgt := 52) hx hb dVf_look_7 (by decide) (by decide) rfl (by decide) ?_
      refine lv_aload_n hx hb dVf_look_52 rfl (lv_at hl 0 rfl) ?_
      refine va_get (D := (dC, dI)) (ci := 0) (v := .int (fi 1)) (C := RFo) (T := TFo) (N := 10) hx hb hts inFo hown hK hP 4 rfl rfl 1 (by decide) (hts _ in_128) (fun _ h9 => h9) rfl dVf_look_53 ?_
      exact W.iret (v := fi 1) hx hb hr (fun t ht hW => ⟨fi 1, rfl, rfl, ht⟩) (fun q h => by cases h) dVf_look_56
    · skip
      subst ej9
      subst ex9
      refine lv_tableIn (tgt := 57) hx hb dVf_look_7 (by decide) (by decide) rfl (by decide) ?_
      refine lv_aload_n hx hb dVf_look_57 rfl (lv_at hl 0 rfl) ?_
      refine va_get (D := (dC, dI)) (ci := 0) (v := .int (fi 2)) (C := RFo) (T := TFo) (N := 10) hx hb hts inFo hown hK hP 4 rfl rfl 2 (by decide) (hts _ in_127) (fun _ h9 => h9) rfl dVf_look_58 ?_
      exact W.iret (v := fi 2) hx hb hr (fun t ht hW => ⟨fi 2, rfl, rfl, ht⟩) (fun q h => by cases h) dVf_look_61
    · skip
      subst ej9
      subst ex9
      refine lv_tableIn (tgt := 62) hx hb dVf_look_7 (by decide) (by decide) rfl (by decide) ?_
      refine lv_aload_n hx hb dVf_look_62 rfl (lv_at hl 0 rfl) ?_
      refine va_get (D := (dC, dI)) (ci := 0) (v := .int (fi 3)) (C := RFo) (T := TFo) (N := 10) hx hb hts inFo hown hK hP 4 rfl rfl 3 (by decide) (hts _ in_145) (fun _ h9 => h9) rfl dVf_look_63 ?_
      exact W.iret (v := fi 3) hx hb hr (fun t ht hW => ⟨fi 3, rfl, rfl, ht⟩) (fun q h => by cases h) dVf_look_66
    · skip
      subst ej9
      subst ex9
      refine lv_tableIn (tgt := 67) hx hb dVf_look_7 (by decide) (by decide) rfl (by decide) ?_
      refine lv_aload_n hx hb dVf_look_67 rfl (lv_at hl 0 rfl) ?_
      refine va_get (D := (dC, dI)) (ci := 0) (v := .int (fi 4)) (C := RFo) (T := TFo) (N := 10) hx hb hts inFo hown hK hP 4 rfl rfl 4 (by decide) (hts _ in_146) (fun _ h9 => h9) rfl dVf_look_68 ?_
      exact W.iret (v := fi 4) hx hb hr (fun t ht hW => ⟨fi 4, rfl, rfl, ht⟩) (fun q h => by cases h) dVf_look_71
    · skip
      subst ej9
      subst ex9
      refine lv_tableIn (tgt := 72) hx hb dVf_look_7 (by decide) (by decide) rfl (by decide) ?_
      refine lv_aload_n hx hb dVf_look_72 rfl (lv_at hl 0 rfl) ?_
      refine va_get (D := (dC, dI)) (ci := 0) (v := .int (fi 5)) (C := RFo) (T := TFo) (N := 10) hx hb hts inFo hown hK hP 4 rfl rfl 5 (by decide) (hts _ in_147) (fun _ h9 => h9) rfl dVf_look_73 ?_
      exact W.iret (v := fi 5) hx hb hr (fun t ht hW => ⟨fi 5, rfl, rfl, ht⟩) (fun q h => by cases h) dVf_look_76
    · skip
      subst ej9
      subst ex9
      refine lv_tableIn (tgt := 77) hx hb dVf_look_7 (by decide) (by decide) rfl (by decide) ?_
      refine lv_aload_n hx hb dVf_look_77 rfl (lv_at hl 0 rfl) ?_
      have hPc := hP.sub (ws' := (wF (ad k 0) f1 f2 f3 f4 cI fi fa)) [4, 5, 6, 7, 8] rfl
      have hKc := hK.sub (tys' := [(cI, .int)]) [0] rfl
      refine vp_callSi (W.runV (As := []) (rest := []) ⟨hx, hb, hml, hown, hts⟩ (k_F_sum l dC dI (ad k 0) f1 f2 f3 f4 cI fi fa n hn hix) (cwV 0 hts (gd_V in_148 in_150 in_151 in_17 in_149) rfl rfl rfl (by decide +kernel) ⟨Nat.le_of_ble_eq_true rfl, Nat.le_of_ble_eq_true rfl⟩) ⟨fun a U g mk q => by obtain ⟨q0, qP, qK⟩ := q; exact ⟨q0, qP, va_K.moved (u := U) (U := U.calling g mk a) (Vm.Alike.refl U.vm) qK⟩, va_recv hKc hPc (ci := 0) (q0 := 0) rfl rfl, fun U hU hW => ⟨rfl, by rw [hU]; exact hPc, va_K.moved hW.alike hKc⟩⟩ rfl rfl hl.1 rfl (lv_room (Nat.le_of_ble_eq_true rfl)) dVf_look_78 ⟨Nat.le_of_ble_eq_true rfl, Nat.le_of_ble_eq_true rfl⟩) (fun r_3 er_4 => ?_)
      subst er_4
      exact W.iret (v := s_sum (fa 0) (n % 17 * 16) 16) hx hb hr (fun t ht hW => ⟨s_sum (fa 0) (n % 17 * 16) 16, rfl, rfl, ht⟩) (fun q h => by cases h) dVf_look_81
    · skip
      subst ej9
      subst ex9
      refine lv_tableIn (tgt := 82) hx hb dVf_look_7 (by decide) (by decide) rfl (by decide) ?_
      refine lv_aload_n hx hb dVf_look_82 rfl (lv_at hl 1 rfl) ?_
      refine va_get (D := (dC, dI)) (ci := 2) (v := .ref r) (C := RVf) (T := TVf) (N := 2) hx hb hts inVf hown hK hP 0 rfl rfl 1 (by decide) (hts _ in_122) (fun _ h9 => h9) rfl dVf_look_83 ?_
      refine va_get (D := (dC, dI)) (ci := 1) (v := .int (ri 3)) (C := RRq) (T := TRq) (N := 6) hx hb hts inRq hown hK hP 2 rfl rfl 3 (by decide) (hts _ in_152) (fun _ h9 => h9) rfl dVf_look_86 ?_
      exact W.iret (v := ri 3) hx hb hr (fun t ht hW => ⟨ri 3, rfl, rfl, ht⟩) (fun q h => by cases h) dVf_look_89
    · skip
      subst ej9
      subst ex9
      refine lv_tableIn (tgt := 90) hx hb dVf_look_7 (by decide) (by decide) rfl (by decide) ?_
      refine lv_aload_n hx hb dVf_look_90 rfl (lv_at hl 1 rfl) ?_
      refine va_get (D := (dC, dI)) (ci := 2) (v := .ref r) (C := RVf) (T := TVf) (N := 2) hx hb hts inVf hown hK hP 0 rfl rfl 1 (by decide) (hts _ in_122) (fun _ h9 => h9) rfl dVf_look_91 ?_
      refine va_get (D := (dC, dI)) (ci := 1) (v := .int (ri 4)) (C := RRq) (T := TRq) (N := 6) hx hb hts inRq hown hK hP 2 rfl rfl 4 (by decide) (hts _ in_153) (fun _ h9 => h9) rfl dVf_look_94 ?_
      exact W.iret (v := ri 4) hx hb hr (fun t ht hW => ⟨ri 4, rfl, rfl, ht⟩) (fun q h => by cases h) dVf_look_97
  · skip
    subst ej9
    refine lv_tableOut (tgt := 98) hx hb dVf_look_7 hout (by decide) ?_
    refine lv_iconst (v := (-1)) hx hb dVf_look_98 (by decide) ?_
    exact W.iret (v := (-1)) hx hb hr (fun t ht hW => ⟨(-1), rfl, rfl, ht⟩) (fun q h => by cases h) dVf_look_99
