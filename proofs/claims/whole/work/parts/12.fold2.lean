set_option maxHeartbeats 4000000 in
set_option maxRecDepth 100000 in
/-- hasSessionsOf(other) -/
theorem k_F_hasS (l : Launch) (dC : Nat → ClassId) (dI : Nat → Nat → Nat) (f f1 f2 f3 f4 : Nat) (cI : ClassId) (fi : Nat → Int32) (fa : Nat → Nat → Int32) (g g1 g2 g3 g4 : Nat) (gi : Nat → Int32) (ga : Nat → Nat → Int32) : Met l yFo_hasSessionsOf wsFo_hasSessionsOf ({ frames := 1, cells := 0, slots := 0, locals := 40 }) (va_Pc [.ref f, .ref g] (fun U => va_P (dC, dI) vwCl (wF f f1 f2 f3 f4 cI fi fa ++ wF g g1 g2 g3 g4 cI gi ga) U.heap ∧ va_K (dC, dI) vwCl [(cI, .int)] U)) (vp_Si (fun r => r = s_hs (fa 2) (ga 2) (fa 3) (ga 3) 16 0)) 0 0 (fun _ => False) := by
  refine Met.ofW (cc := cFo_hasSessionsOf) (maxL := 3) (ret := (some .boolean)) (by decide) rfl ?_
  intro p e s m args below meth c s₁ B hml hv
  obtain ⟨rfl, hP, hK⟩ := hv
  have hx := B.exec
  have hb := B.bytes
  have hr := B.returns
  have hts0 := atoms_spec (ws := wsFo_hasSessionsOf) B.pre
  have hts := fun (w : Cond) (h : w ∈ lw_g) => hts0 w (List.mem_cons_of_mem _ h)
  have hown : s.vm.findClass RFo = some m.cls := findClass_of_methodNamed B.named
  have hlocks := B.notSynchronized
  have hl := lv_entry ([.ref f, .ref g]) (n := 3) (Nat.le_of_ble_eq_true rfl)
  rw [lg_entry_eq]
  generalize (lg_sl ([.ref f, .ref g]) ++ List.replicate (3 - (lg_sl ([.ref f, .ref g])).length) Slot.unset).toArray = ls at hl ⊢
  have hl : lv_has ls 3 [(0, .ref f), (1, .ref g)] := hl
  refine lv_iconst (v := 0) hx hb dFo_hasSessionsOf_0 (by decide) ?_
  refine lv_istore_n (lv' := [(2, .int 0), (0, .ref f), (1, .ref g)]) hx hb dFo_hasSessionsOf_1 rfl hl (by decide) rfl (fun ls hl => ?_)
  refine wl_ro (σ := Nat × Array Slot) (fun z9 => F0 m 2 z9.2 []) (fun z9 => z9.1 ≤ 16 ∧ s_hs (fa 2) (ga 2) (fa 3) (ga 3) 16 0 = s_hs (fa 2) (ga 2) (fa 3) (ga 3) (16 - z9.1) z9.1 ∧ lv_has z9.2 3 [(2, .int (nI z9.1)), (0, .ref f), (1, .ref g)]) (fun z9 => 16 - z9.1) ?_ (0, ls) ⟨by omega, rfl, lv_sub hl [0, 1, 2] rfl⟩
  rintro ⟨k, ls⟩ ⟨hk, hE, hl⟩ ih
  have hE : s_hs (fa 2) (ga 2) (fa 3) (ga 3) 16 0 = s_hs (fa 2) (ga 2) (fa 3) (ga 3) (16 - k) k := hE
  have hk : k ≤ 16 := hk
  have hl : lv_has ls 3 [(2, .int (nI k)), (0, .ref f), (1, .ref g)] := hl
  show W p l e _ s m _ below meth c _ _ _ _ _ (F0 m 2 ls [])
  refine lv_iload_n hx hb dFo_hasSessionsOf_2 rfl (lv_at hl 0 rfl) ?_
  refine lv_bipush (v := nI 16) hx hb dFo_hasSessionsOf_3 (by decide) ?_
  refine lv_icmp_ge (tgt := 46) hx hb dFo_hasSessionsOf_5 (by decide) (fun c_1 => ?_) (fun c_1 => ?_)
  · skip
    have hk9 : k = 16 := lp_x (by decide) hk c_1
    subst hk9
    refine lv_iconst (v := 1) hx hb dFo_hasSessionsOf_46 (by decide) ?_
    exact W.zret (v := 1) (ty := .boolean) hx hb hr rfl (fun t ht hW => ⟨1, rfl, hE.symm, ht⟩) (fun q h => by cases h) dFo_hasSessionsOf_47
  · skip
    have hk : k < 16 := lp_c (by decide) hk c_1
    rw [show 16 - k = (16 - (k + 1)) + 1 by omega] at hE
    refine lv_aload_n hx hb dFo_hasSessionsOf_8 rfl (lv_at hl 1 rfl) ?_
    refine va_get (D := (dC, dI)) (ci := 0) (v := .ref f3) (C := RFo) (T := TFo) (N := 10) hx hb hts inFo hown hK hP 0 rfl rfl 8 (by decide) (hts _ in_26) (fun _ h9 => h9) rfl dFo_hasSessionsOf_9 ?_
    refine lv_iload_n hx hb dFo_hasSessionsOf_12 rfl (lv_at hl 0 rfl) ?_
    refine vq_iald (k := k) (f := fa 2) hx hb hK hP 3 0 rfl rfl rfl (by omega) (by decide) dFo_hasSessionsOf_13 ?_
    refine lv_aload_n hx hb dFo_hasSessionsOf_14 rfl (lv_at hl 2 rfl) ?_
    refine va_get (D := (dC, dI)) (ci := 0) (v := .ref g3) (C := RFo) (T := TFo) (N := 10) hx hb hts inFo hown hK hP 5 rfl rfl 8 (by decide) (hts _ in_26) (fun _ h9 => h9) rfl dFo_hasSessionsOf_15 ?_
    refine lv_iload_n hx hb dFo_hasSessionsOf_18 rfl (lv_at hl 0 rfl) ?_
    refine vq_iald (k := k) (f := ga 2) hx hb hK hP 8 0 rfl rfl rfl (by omega) (by decide) dFo_hasSessionsOf_19 ?_
    refine lv_icmp_ne (tgt := 38) hx hb dFo_hasSessionsOf_20 (by decide) (fun c_2 => ?_) (fun c_2 => ?_)
    · skip
      refine lv_iconst (v := 0) hx hb dFo_hasSessionsOf_38 (by decide) ?_
      exact W.zret (v := 0) (ty := .boolean) hx hb hr rfl (fun t ht hW => ⟨0, rfl, by rw [hE]; simp only [s_hs, if_neg c_2], ht⟩) (fun q h => by cases h) dFo_hasSessionsOf_39
    · skip
      refine lv_aload_n hx hb dFo_hasSessionsOf_23 rfl (lv_at hl 1 rfl) ?_
      refine va_get (D := (dC, dI)) (ci := 0) (v := .ref f4) (C := RFo) (T := TFo) (N := 10) hx hb hts inFo hown hK hP 0 rfl rfl 9 (by decide) (hts _ in_37) (fun _ h9 => h9) rfl dFo_hasSessionsOf_24 ?_
      refine lv_iload_n hx hb dFo_hasSessionsOf_27 rfl (lv_at hl 0 rfl) ?_
      refine vq_iald (k := k) (f := fa 3) hx hb hK hP 4 0 rfl rfl rfl (by omega) (by decide) dFo_hasSessionsOf_28 ?_
      refine lv_aload_n hx hb dFo_hasSessionsOf_29 rfl (lv_at hl 2 rfl) ?_
      refine va_get (D := (dC, dI)) (ci := 0) (v := .ref g4) (C := RFo) (T := TFo) (N := 10) hx hb hts inFo hown hK hP 5 rfl rfl 9 (by decide) (hts _ in_37) (fun _ h9 => h9) rfl dFo_hasSessionsOf_30 ?_
      refine lv_iload_n hx hb dFo_hasSessionsOf_33 rfl (lv_at hl 0 rfl) ?_
      refine vq_iald (k := k) (f := ga 3) hx hb hK hP 9 0 rfl rfl rfl (by omega) (by decide) dFo_hasSessionsOf_34 ?_
      refine lv_icmp_eq (tgt := 40) hx hb dFo_hasSessionsOf_35 (by decide) (fun c_3 => ?_) (fun c_3 => ?_)
      · skip
        refine lv_iinc (v := nI (k + 1)) (lv' := [(2, .int (nI (k + 1))), (0, .ref f), (1, .ref g)]) hx hb dFo_hasSessionsOf_40 hl (k := 0) rfl (by first | exact nI_1 _ | (show _ + (1 : Int32) = _; exact nI_1 _)) (by decide) rfl (fun ls hl => ?_)
        refine lv_goto (tgt := 2) hx hb dFo_hasSessionsOf_43 (by decide) ?_
        have hl9 : lv_has ls 3 [(2, .int (nI (k + 1))), (0, .ref f), (1, .ref g)] := by first | exact lv_sub hl [0, 1, 2] rfl | (simp only [s_hs, if_pos c_2, if_pos c_3]; exact lv_sub hl [0, 1, 2] rfl)
        have hE9 : s_hs (fa 2) (ga 2) (fa 3) (ga 3) 16 0 = s_hs (fa 2) (ga 2) (fa 3) (ga 3) (16 - (k + 1)) (k + 1) := by rw [hE]; simp only [s_hs, if_pos c_2, if_pos c_3]
        exact ih (k + 1, ls) ⟨hk, hE9, hl9⟩ (by show 16 - (k + 1) < 16 - k; omega)
      · skip
        refine lv_iconst (v := 0) hx hb dFo_hasSessionsOf_38 (by decide) ?_
        exact W.zret (v := 0) (ty := .boolean) hx hb hr rfl (fun t ht hW => ⟨0, rfl, by rw [hE]; simp only [s_hs, if_pos c_2, if_neg c_3], ht⟩) (fun q h => by cases h) dFo_hasSessionsOf_39
set_option maxHeartbeats 4000000 in
set_option maxRecDepth 100000 in
/-- hasKeysOf(other) -/
theorem k_F_hasK (l : Launch) (dC : Nat → ClassId) (dI : Nat → Nat → Nat) (f f1 f2 f3 f4 : Nat) (cI : ClassId) (fi : Nat → Int32) (fa : Nat → Nat → Int32) (g g1 g2 g3 g4 : Nat) (gi : Nat → Int32) (ga : Nat → Nat → Int32) (n : Nat) (hn : n < 2 ^ 31) (hix : fi 1 = nI n) : Met l yFo_hasKeysOf wsFo_hasKeysOf ({ frames := 3, cells := 0, slots := 0, locals := 120 }) (va_Pc [.ref f, .ref g] (fun U => va_P (dC, dI) vwCl (wF f f1 f2 f3 f4 cI fi fa ++ wF g g1 g2 g3 g4 cI gi ga) U.heap ∧ va_K (dC, dI) vwCl [(cI, .int)] U)) (vp_Si (fun r => r = s_hk (fa 1) (ga 1) (fa 0) (ga 0) (fi 1 - fi 0) (n % 17 * 16) 16 0)) 0 0 (fun _ => False) := by
  refine Met.ofW (cc := cFo_hasKeysOf) (maxL := 6) (ret := (some .boolean)) (by decide) rfl ?_
  intro p e s m args below meth c s₁ B hml hv
  obtain ⟨rfl, hP, hK⟩ := hv
  have hx := B.exec
  have hb := B.bytes
  have hr := B.returns
  have hts0 := atoms_spec (ws := wsFo_hasKeysOf) B.pre
  have hts := fun (w : Cond) (h : w ∈ lw_g) => hts0 w (List.mem_cons_of_mem _ h)
  have hown : s.vm.findClass RFo = some m.cls := findClass_of_methodNamed B.named
  have hlocks := B.notSynchronized
  have hl := lv_entry ([.ref f, .ref g]) (n := 6) (Nat.le_of_ble_eq_true rfl)
  rw [lg_entry_eq]
  generalize (lg_sl ([.ref f, .ref g]) ++ List.replicate (6 - (lg_sl ([.ref f, .ref g])).length) Slot.unset).toArray = ls at hl ⊢
  have hl : lv_has ls 6 [(0, .ref f), (1, .ref g)] := hl
  refine lv_aload_n hx hb dFo_hasKeysOf_0 rfl (lv_at hl 0 rfl) ?_
  have hPc := hP.sub (ws' := (wF f f1 f2 f3 f4 cI fi fa)) [0, 1, 2, 3, 4] rfl
  have hKc := hK.sub (tys' := [(cI, .int)]) [0] rfl
  refine vp_callSi (W.runV (As := []) (rest := []) ⟨hx, hb, hml, hown, hts⟩ (k_F_oldest l dC dI f f1 f2 f3 f4 cI fi fa) (cwV 0 hts (gd_V in_28 in_30 in_31 in_17 in_29) rfl rfl rfl (by decide +kernel) ⟨Nat.le_of_ble_eq_true rfl, Nat.le_of_ble_eq_true rfl⟩) ⟨fun a U g mk q => by obtain ⟨q0, qP, qK⟩ := q; exact ⟨q0, qP, va_K.moved (u := U) (U := U.calling g mk a) (Vm.Alike.refl U.vm) qK⟩, va_recv hKc hPc (ci := 0) (q0 := 0) rfl rfl, fun U hU hW => ⟨rfl, by rw [hU]; exact hPc, va_K.moved hW.alike hKc⟩⟩ rfl rfl hl.1 rfl (lv_room (Nat.le_of_ble_eq_true rfl)) dFo_hasKeysOf_1 ⟨Nat.le_of_ble_eq_true rfl, Nat.le_of_ble_eq_true rfl⟩) (fun r_1 er_2 => ?_)
  subst er_2
  refine lv_istore_n (lv' := [(2, .int (fi 1 - fi 0)), (0, .ref f), (1, .ref g)]) hx hb dFo_hasKeysOf_4 rfl hl (by decide) rfl (fun ls hl => ?_)
  refine lv_iconst (v := 0) hx hb dFo_hasKeysOf_5 (by decide) ?_
  refine lv_istore_n (lv' := [(3, .int 0), (2, .int (fi 1 - fi 0)), (0, .ref f), (1, .ref g)]) hx hb dFo_hasKeysOf_6 rfl hl (by decide) rfl (fun ls hl => ?_)
  refine wl_ro (σ := Nat × Array Slot) (fun z9 => F0 m 7 z9.2 []) (fun z9 => z9.1 ≤ 16 ∧ s_hk (fa 1) (ga 1) (fa 0) (ga 0) (fi 1 - fi 0) (n % 17 * 16) 16 0 = s_hk (fa 1) (ga 1) (fa 0) (ga 0) (fi 1 - fi 0) (n % 17 * 16) (16 - z9.1) z9.1 ∧ lv_has z9.2 6 [(3, .int (nI z9.1)), (2, .int (fi 1 - fi 0)), (0, .ref f), (1, .ref g)]) (fun z9 => 16 - z9.1) ?_ (0, ls) ⟨by omega, rfl, lv_sub hl [0, 1, 2, 3] rfl⟩
  rintro ⟨k, ls⟩ ⟨hk, hE, hl⟩ ih
  have hE : s_hk (fa 1) (ga 1) (fa 0) (ga 0) (fi 1 - fi 0) (n % 17 * 16) 16 0 = s_hk (fa 1) (ga 1) (fa 0) (ga 0) (fi 1 - fi 0) (n % 17 * 16) (16 - k) k := hE
  have hk : k ≤ 16 := hk
  have hl : lv_has ls 6 [(3, .int (nI k)), (2, .int (fi 1 - fi 0)), (0, .ref f), (1, .ref g)] := hl
  show W p l e _ s m _ below meth c _ _ _ _ _ (F0 m 7 ls [])
  refine lv_iload_n hx hb dFo_hasKeysOf_7 rfl (lv_at hl 0 rfl) ?_
  refine lv_bipush (v := nI 16) hx hb dFo_hasKeysOf_8 (by decide) ?_
  refine lv_icmp_ge (tgt := 73) hx hb dFo_hasKeysOf_10 (by decide) (fun c_3 => ?_) (fun c_3 => ?_)
  · skip
    have hk9 : k = 16 := lp_x (by decide) hk c_3
    subst hk9
    refine lv_iconst (v := 1) hx hb dFo_hasKeysOf_73 (by decide) ?_
    exact W.zret (v := 1) (ty := .boolean) hx hb hr rfl (fun t ht hW => ⟨1, rfl, hE.symm, ht⟩) (fun q h => by cases h) dFo_hasKeysOf_74
  · skip
    have hk : k < 16 := lp_c (by decide) hk c_3
    rw [show 16 - k = (16 - (k + 1)) + 1 by omega] at hE
    refine lv_aload_n hx hb dFo_hasKeysOf_13 rfl (lv_at hl 2 rfl) ?_
    refine va_get (D := (dC, dI)) (ci := 0) (v := .ref f2) (C := RFo) (T := TFo) (N := 10) hx hb hts inFo hown hK hP 0 rfl rfl 7 (by decide) (hts _ in_12) (fun _ h9 => h9) rfl dFo_hasKeysOf_14 ?_
    refine lv_iload_n hx hb dFo_hasKeysOf_17 rfl (lv_at hl 0 rfl) ?_
    refine vq_iald (k := k) (f := fa 1) hx hb hK hP 2 0 rfl rfl rfl (by omega) (by decide) dFo_hasKeysOf_18 ?_
    refine lv_iload_n hx hb dFo_hasKeysOf_19 rfl (lv_at hl 1 rfl) ?_
    refine va_mmax hx hb (hml.trans hl.1.symm) hown (hts _ in_8) (hts _ in_9) (hts _ in_10) (hts _ in_11) (Nat.le_of_ble_eq_true rfl) (Nat.le_of_ble_eq_true rfl) (Nat.le_of_ble_eq_true rfl) (Nat.le_of_ble_eq_true rfl) dFo_hasKeysOf_20 ?_
    refine lv_ri (y := s_max ((fa 1) k) (fi 1 - fi 0)) rfl ?_
    refine lv_istore (lv' := [(4, .int (s_max ((fa 1) k) (fi 1 - fi 0))), (3, .int (nI k)), (2, .int (fi 1 - fi 0)), (0, .ref f), (1, .ref g)]) hx hb dFo_hasKeysOf_23 hl (by decide) rfl (fun ls hl => ?_)
    refine lv_aload_n hx hb dFo_hasKeysOf_25 rfl (lv_at hl 4 rfl) ?_
    refine va_get (D := (dC, dI)) (ci := 0) (v := .ref g2) (C := RFo) (T := TFo) (N := 10) hx hb hts inFo hown hK hP 5 rfl rfl 7 (by decide) (hts _ in_12) (fun _ h9 => h9) rfl dFo_hasKeysOf_26 ?_
    refine lv_iload_n hx hb dFo_hasKeysOf_29 rfl (lv_at hl 1 rfl) ?_
    refine vq_iald (k := k) (f := ga 1) hx hb hK hP 7 0 rfl rfl rfl (by omega) (by decide) dFo_hasKeysOf_30 ?_
    refine lv_iload_n hx hb dFo_hasKeysOf_31 rfl (lv_at hl 2 rfl) ?_
    refine va_mmax hx hb (hml.trans hl.1.symm) hown (hts _ in_8) (hts _ in_9) (hts _ in_10) (hts _ in_11) (Nat.le_of_ble_eq_true rfl) (Nat.le_of_ble_eq_true rfl) (Nat.le_of_ble_eq_true rfl) (Nat.le_of_ble_eq_true rfl) dFo_hasKeysOf_32 ?_
    refine lv_ri (y := s_max ((ga 1) k) (fi 1 - fi 0)) rfl ?_
    refine lv_istore (lv' := [(5, .int (s_max ((ga 1) k) (fi 1 - fi 0))), (4, .int (s_max ((fa 1) k) (fi 1 - fi 0))), (3, .int (nI k)), (2, .int (fi 1 - fi 0)), (0, .ref f), (1, .ref g)]) hx hb dFo_hasKeysOf_35 hl (by decide) rfl (fun ls hl => ?_)
    refine lv_iload hx hb dFo_hasKeysOf_37 (lv_at hl 1 rfl) ?_
    refine lv_iload hx hb dFo_hasKeysOf_39 (lv_at hl 0 rfl) ?_
    refine lv_icmp_ne (tgt := 65) hx hb dFo_hasKeysOf_41 (by decide) (fun c_4 => ?_) (fun c_4 => ?_)
    · skip
      refine lv_iconst (v := 0) hx hb dFo_hasKeysOf_65 (by decide) ?_
      exact W.zret (v := 0) (ty := .boolean) hx hb hr rfl (fun t ht hW => ⟨0, rfl, by rw [hE]; simp only [s_hk, if_neg c_4], ht⟩) (fun q h => by cases h) dFo_hasKeysOf_66
    · skip
      refine lv_aload_n hx hb dFo_hasKeysOf_44 rfl (lv_at hl 4 rfl) ?_
      refine lv_iload_n hx hb dFo_hasKeysOf_45 rfl (lv_at hl 2 rfl) ?_
      refine lv_aload_n hx hb dFo_hasKeysOf_46 rfl (lv_at hl 4 rfl) ?_
      refine va_get (D := (dC, dI)) (ci := 0) (v := .int (fi 1)) (C := RFo) (T := TFo) (N := 10) hx hb hts inFo hown hK hP 0 rfl rfl 1 (by decide) (hts _ in_6) (fun _ h9 => h9) rfl dFo_hasKeysOf_47 ?_
      refine lv_ri (y := nI n) hix ?_
      have hPc := hP.sub (ws' := (wF f f1 f2 f3 f4 cI fi fa)) [0, 1, 2, 3, 4] rfl
      have hKc := hK.sub (tys' := [(cI, .int)]) [0] rfl
      refine vp_callSi (W.runV (As := [.int (nI k), .int (nI n)]) (rest := []) ⟨hx, hb, hml, hown, hts⟩ (k_F_valueAt l dC dI f f1 f2 f3 f4 cI fi fa k n (by omega) hn) (cwV 2 hts (gd_V in_19 in_21 in_22 in_17 in_20) rfl rfl rfl (by decide +kernel) ⟨Nat.le_of_ble_eq_true rfl, Nat.le_of_ble_eq_true rfl⟩) ⟨fun a U g mk q => by obtain ⟨q0, qP, qK⟩ := q; exact ⟨q0, qP, va_K.moved (u := U) (U := U.calling g mk a) (Vm.Alike.refl U.vm) qK⟩, va_recv hKc hPc (ci := 0) (q0 := 0) rfl rfl, fun U hU hW => ⟨rfl, by rw [hU]; exact hPc, va_K.moved hW.alike hKc⟩⟩ rfl rfl hl.1 rfl (lv_room (Nat.le_of_ble_eq_true rfl)) dFo_hasKeysOf_50 ⟨Nat.le_of_ble_eq_true rfl, Nat.le_of_ble_eq_true rfl⟩) (fun r_5 er_6 => ?_)
      subst er_6
      refine lv_aload_n hx hb dFo_hasKeysOf_53 rfl (lv_at hl 5 rfl) ?_
      refine lv_iload_n hx hb dFo_hasKeysOf_54 rfl (lv_at hl 2 rfl) ?_
      refine lv_aload_n hx hb dFo_hasKeysOf_55 rfl (lv_at hl 4 rfl) ?_
      refine va_get (D := (dC, dI)) (ci := 0) (v := .int (fi 1)) (C := RFo) (T := TFo) (N := 10) hx hb hts inFo hown hK hP 0 rfl rfl 1 (by decide) (hts _ in_6) (fun _ h9 => h9) rfl dFo_hasKeysOf_56 ?_
      refine lv_ri (y := nI n) hix ?_
      have hPc := hP.sub (ws' := (wF g g1 g2 g3 g4 cI gi ga)) [5, 6, 7, 8, 9] rfl
      have hKc := hK.sub (tys' := [(cI, .int)]) [0] rfl
      refine vp_callSi (W.runV (As := [.int (nI k), .int (nI n)]) (rest := [.int (fa 0 (n % 17 * 16 + k))]) ⟨hx, hb, hml, hown, hts⟩ (k_F_valueAt l dC dI g g1 g2 g3 g4 cI gi ga k n (by omega) hn) (cwV 2 hts (gd_V in_19 in_21 in_22 in_17 in_20) rfl rfl rfl (by decide +kernel) ⟨Nat.le_of_ble_eq_true rfl, Nat.le_of_ble_eq_true rfl⟩) ⟨fun a U g mk q => by obtain ⟨q0, qP, qK⟩ := q; exact ⟨q0, qP, va_K.moved (u := U) (U := U.calling g mk a) (Vm.Alike.refl U.vm) qK⟩, va_recv hKc hPc (ci := 0) (q0 := 0) rfl rfl, fun U hU hW => ⟨rfl, by rw [hU]; exact hPc, va_K.moved hW.alike hKc⟩⟩ rfl rfl hl.1 rfl (lv_room (Nat.le_of_ble_eq_true rfl)) dFo_hasKeysOf_59 ⟨Nat.le_of_ble_eq_true rfl, Nat.le_of_ble_eq_true rfl⟩) (fun r_7 er_8 => ?_)
      subst er_8
      refine lv_icmp_eq (tgt := 67) hx hb dFo_hasKeysOf_62 (by decide) (fun c_9 => ?_) (fun c_9 => ?_)
      · skip
        refine lv_iinc (v := nI (k + 1)) (lv' := [(3, .int (nI (k + 1))), (5, .int (s_max ((ga 1) k) (fi 1 - fi 0))), (4, .int (s_max ((fa 1) k) (fi 1 - fi 0))), (2, .int (fi 1 - fi 0)), (0, .ref f), (1, .ref g)]) hx hb dFo_hasKeysOf_67 hl (k := 2) rfl (by first | exact nI_1 _ | (show _ + (1 : Int32) = _; exact nI_1 _)) (by decide) rfl (fun ls hl => ?_)
        refine lv_goto (tgt := 7) hx hb dFo_hasKeysOf_70 (by decide) ?_
        have hl9 : lv_has ls 6 [(3, .int (nI (k + 1))), (2, .int (fi 1 - fi 0)), (0, .ref f), (1, .ref g)] := by first | exact lv_sub hl [0, 3, 4, 5] rfl | (simp only [s_hk, if_pos c_4, if_pos c_9]; exact lv_sub hl [0, 3, 4, 5] rfl)
        have hE9 : s_hk (fa 1) (ga 1) (fa 0) (ga 0) (fi 1 - fi 0) (n % 17 * 16) 16 0 = s_hk (fa 1) (ga 1) (fa 0) (ga 0) (fi 1 - fi 0) (n % 17 * 16) (16 - (k + 1)) (k + 1) := by rw [hE]; simp only [s_hk, if_pos c_4, if_pos c_9]
        exact ih (k + 1, ls) ⟨hk, hE9, hl9⟩ (by show 16 - (k + 1) < 16 - k; omega)
      · skip
        refine lv_iconst (v := 0) hx hb dFo_hasKeysOf_65 (by decide) ?_
        exact W.zret (v := 0) (ty := .boolean) hx hb hr rfl (fun t ht hW => ⟨0, rfl, by rw [hE]; simp only [s_hk, if_pos c_4, if_neg c_9], ht⟩) (fun q h => by cases h) dFo_hasKeysOf_66
set_option maxHeartbeats 4000000 in
set_option maxRecDepth 100000 in
/-- isLike(other) -/
theorem k_F_isLike (l : Launch) (dC : Nat → ClassId) (dI : Nat → Nat → Nat) (f f1 f2 f3 f4 : Nat) (cI : ClassId) (fi : Nat → Int32) (fa : Nat → Nat → Int32) (g g1 g2 g3 g4 : Nat) (gi : Nat → Int32) (ga : Nat → Nat → Int32) (n : Nat) (hn : n < 2 ^ 31) (hix : fi 1 = nI n) : Met l yFo_isLike wsFo_isLike ({ frames := 4, cells := 0, slots := 0, locals := 160 }) (va_Pc [.ref f, .ref g] (fun U => va_P (dC, dI) vwCl (wF f f1 f2 f3 f4 cI fi fa ++ wF g g1 g2 g3 g4 cI gi ga) U.heap ∧ va_K (dC, dI) vwCl [(cI, .int)] U)) (vp_Si (fun r => r = s_like fi fa gi ga n)) 0 0 (fun _ => False) := by
  refine Met.ofW (cc := cFo_isLike) (maxL := 2) (ret := (some .boolean)) (by decide) rfl ?_
  intro p e s m args below meth c s₁ B hml hv
  obtain ⟨rfl, hP, hK⟩ := hv
  have hx := B.exec
  have hb := B.bytes
  have hr := B.returns
  have hts0 := atoms_spec (ws := wsFo_isLike) B.pre
  have hts := fun (w : Cond) (h : w ∈ lw_g) => hts0 w (List.mem_cons_of_mem _ h)
  have hown : s.vm.findClass RFo = some m.cls := findClass_of_methodNamed B.named
  have hlocks := B.notSynchronized
  have hl := lv_entry ([.ref f, .ref g]) (n := 2) (Nat.le_of_ble_eq_true rfl)
  rw [lg_entry_eq]
  generalize (lg_sl ([.ref f, .ref g]) ++ List.replicate (2 - (lg_sl ([.ref f, .ref g])).length) Slot.unset).toArray = ls at hl ⊢
  have hl : lv_has ls 2 [(0, .ref f), (1, .ref g)] := hl
  refine lv_aload_n hx hb dFo_isLike_0 rfl (lv_at hl 0 rfl) ?_
  refine va_get (D := (dC, dI)) (ci := 0) (v := .int (fi 1)) (C := RFo) (T := TFo) (N := 10) hx hb hts inFo hown hK hP 0 rfl rfl 1 (by decide) (hts _ in_6) (fun _ h9 => h9) rfl dFo_isLike_1 ?_
  refine lv_aload_n hx hb dFo_isLike_4 rfl (lv_at hl 1 rfl) ?_
  refine va_get (D := (dC, dI)) (ci := 0) (v := .int (gi 1)) (C := RFo) (T := TFo) (N := 10) hx hb hts inFo hown hK hP 5 rfl rfl 1 (by decide) (hts _ in_6) (fun _ h9 => h9) rfl dFo_isLike_5 ?_
  refine lv_icmp_ne (tgt := 31) hx hb dFo_isLike_8 (by decide) (fun c_1 => ?_) (fun c_1 => ?_)
  · skip
    refine lv_iconst (v := 0) hx hb dFo_isLike_31 (by decide) ?_
    exact W.zret (v := 0) (ty := .boolean) hx hb hr rfl (fun t ht hW => ⟨0, rfl, by unfold s_like; simp only [if_neg c_1], ht⟩) (fun q h => by cases h) dFo_isLike_32
  · skip
    refine lv_aload_n hx hb dFo_isLike_11 rfl (lv_at hl 0 rfl) ?_
    refine lv_aload_n hx hb dFo_isLike_12 rfl (lv_at hl 1 rfl) ?_
    have hPc := hP.sub (ws' := (wF f f1 f2 f3 f4 cI fi fa ++ wF g g1 g2 g3 g4 cI gi ga)) [0, 1, 2, 3, 4, 5, 6, 7, 8, 9] rfl
    have hKc := hK.sub (tys' := [(cI, .int)]) [0] rfl
    refine vp_callSi (W.runV (As := [.ref g]) (rest := []) ⟨hx, hb, hml, hown, hts⟩ (k_F_hasK l dC dI f f1 f2 f3 f4 cI fi fa g g1 g2 g3 g4 gi ga n hn hix) (cwV 1 hts (gd_V in_38 in_40 in_41 in_17 in_39) rfl rfl rfl (by decide +kernel) ⟨Nat.le_of_ble_eq_true rfl, Nat.le_of_ble_eq_true rfl⟩) ⟨fun a U g mk q => by obtain ⟨q0, qP, qK⟩ := q; exact ⟨q0, qP, va_K.moved (u := U) (U := U.calling g mk a) (Vm.Alike.refl U.vm) qK⟩, va_recv hKc hPc (ci := 0) (q0 := 0) rfl rfl, fun U hU hW => ⟨rfl, by rw [hU]; exact hPc, va_K.moved hW.alike hKc⟩⟩ rfl rfl hl.1 rfl (lv_room (Nat.le_of_ble_eq_true rfl)) dFo_isLike_13 ⟨Nat.le_of_ble_eq_true rfl, Nat.le_of_ble_eq_true rfl⟩) (fun r_2 er_3 => ?_)
    subst er_3
    refine lv_if_eq (tgt := 31) hx hb dFo_isLike_16 (by decide) (fun c_4 => ?_) (fun c_4 => ?_)
    · skip
      refine lv_iconst (v := 0) hx hb dFo_isLike_31 (by decide) ?_
      exact W.zret (v := 0) (ty := .boolean) hx hb hr rfl (fun t ht hW => ⟨0, rfl, by unfold s_like; simp only [if_pos c_1, if_pos c_4], ht⟩) (fun q h => by cases h) dFo_isLike_32
    · skip
      refine lv_aload_n hx hb dFo_isLike_19 rfl (lv_at hl 0 rfl) ?_
      refine lv_aload_n hx hb dFo_isLike_20 rfl (lv_at hl 1 rfl) ?_
      have hPc := hP.sub (ws' := (wF f f1 f2 f3 f4 cI fi fa ++ wF g g1 g2 g3 g4 cI gi ga)) [0, 1, 2, 3, 4, 5, 6, 7, 8, 9] rfl
      have hKc := hK.sub (tys' := [(cI, .int)]) [0] rfl
      refine vp_callSi (W.runV (As := [.ref g]) (rest := []) ⟨hx, hb, hml, hown, hts⟩ (k_F_hasS l dC dI f f1 f2 f3 f4 cI fi fa g g1 g2 g3 g4 gi ga) (cwV 1 hts (gd_V in_42 in_44 in_45 in_17 in_43) rfl rfl rfl (by decide +kernel) ⟨Nat.le_of_ble_eq_true rfl, Nat.le_of_ble_eq_true rfl⟩) ⟨fun a U g mk q => by obtain ⟨q0, qP, qK⟩ := q; exact ⟨q0, qP, va_K.moved (u := U) (U := U.calling g mk a) (Vm.Alike.refl U.vm) qK⟩, va_recv hKc hPc (ci := 0) (q0 := 0) rfl rfl, fun U hU hW => ⟨rfl, by rw [hU]; exact hPc, va_K.moved hW.alike hKc⟩⟩ rfl rfl hl.1 rfl (lv_room (Nat.le_of_ble_eq_true rfl)) dFo_isLike_21 ⟨Nat.le_of_ble_eq_true rfl, Nat.le_of_ble_eq_true rfl⟩) (fun r_5 er_6 => ?_)
      subst er_6
      refine lv_if_eq (tgt := 31) hx hb dFo_isLike_24 (by decide) (fun c_7 => ?_) (fun c_7 => ?_)
      · skip
        refine lv_iconst (v := 0) hx hb dFo_isLike_31 (by decide) ?_
        exact W.zret (v := 0) (ty := .boolean) hx hb hr rfl (fun t ht hW => ⟨0, rfl, by unfold s_like; simp only [if_pos c_1, if_neg c_4, if_pos c_7], ht⟩) (fun q h => by cases h) dFo_isLike_32
      · skip
        refine lv_iconst (v := 1) hx hb dFo_isLike_27 (by decide) ?_
        refine lv_goto (tgt := 32) hx hb dFo_isLike_28 (by decide) ?_
        exact W.zret (v := 1) (ty := .boolean) hx hb hr rfl (fun t ht hW => ⟨1, rfl, by unfold s_like; simp only [if_pos c_1, if_neg c_4, if_neg c_7], ht⟩) (fun q h => by cases h) dFo_isLike_32
