set_option maxHeartbeats 4000000 in
set_option maxRecDepth 100000 in
/-- take(a, b) -/
theorem k_M_take (l : Launch) (dC : Nat → ClassId) (dI : Nat → Nat → Nat) (sz : Nat) (y y1 y2 y3 y4 y5 y6 y7 y8 y9 y10 : Nat) (cI : ClassId) (mi : Nat → Int32) (ma : Nat → Nat → Int32) (a b : Nat) (ha4 : a < 4) (hb4 : b < 4) : Met l yMd_take wsMd_take ({ frames := 3, cells := 0, slots := 0, locals := 120 }) (va_Pc [.ref y, .int (nI a), .int (nI b)] (fun U => U.heap.size = sz ∧ va_P (dC, dI) vwCl (wM y y1 y2 y3 y4 y5 y6 y7 y8 y9 y10 cI mi ma) U.heap ∧ va_K (dC, dI) vwCl [(cI, .int)] U ∧ va_D (fun _ => True) (wM y y1 y2 y3 y4 y5 y6 y7 y8 y9 y10 cI mi ma))) (va_Qi (fun (r : Int32) (_ : Unit) => r = (m_tk2 ma a b).1) (fun _ t => va_P (dC, dI) vwCl (wM y y1 y2 y3 y4 y5 y6 y7 y8 y9 y10 cI (va_up mi 0 0) ((m_tk2 ma a b).2)) t.heap ∧ va_K (dC, dI) vwCl [(cI, .int)] t ∧ va_D (va_A (wM y y1 y2 y3 y4 y5 y6 y7 y8 y9 y10 cI mi ma) sz) (wM y y1 y2 y3 y4 y5 y6 y7 y8 y9 y10 cI (va_up mi 0 0) ((m_tk2 ma a b).2))) (va_A (wM y y1 y2 y3 y4 y5 y6 y7 y8 y9 y10 cI mi ma) sz)) 0 0 (va_A (wM y y1 y2 y3 y4 y5 y6 y7 y8 y9 y10 cI mi ma) sz) := by
  refine Met.ofW (cc := cMd_take) (maxL := 4) (ret := (some .boolean)) (by decide) rfl ?_
  intro p e s m args below meth c s₁ B hml hv
  obtain ⟨rfl, hsz, hP, hK, hD0⟩ := hv
  have hx := B.exec
  have hb := B.bytes
  have hr := B.returns
  have hts0 := atoms_spec (ws := wsMd_take) B.pre
  have hts := fun (w : Cond) (h : w ∈ lw_g) => hts0 w (List.mem_cons_of_mem _ h)
  have hown : s.vm.findClass RMd = some m.cls := findClass_of_methodNamed B.named
  have hlocks := B.notSynchronized
  subst hsz
  have hD := hD0.self (sz := s.heap.size)
  generalize hAe : va_A (wM y y1 y2 y3 y4 y5 y6 y7 y8 y9 y10 cI mi ma) s.heap.size = A at hD ⊢
  have hA : ∀ q : Nat, s.heap.size ≤ q → A q := fun q h => by rw [← hAe]; exact Or.inr h
  have hS : va_S A s.heap s.heap [] := va_S.rf
  have hP : va_P (dC, dI) vwCl (wM y y1 y2 y3 y4 y5 y6 y7 y8 y9 y10 cI mi ma) s.heap := hP
  have hl := lv_entry ([.ref y, .int (nI a), .int (nI b)]) (n := 4) (Nat.le_of_ble_eq_true rfl)
  rw [lg_entry_eq]
  generalize (lg_sl ([.ref y, .int (nI a), .int (nI b)]) ++ List.replicate (4 - (lg_sl ([.ref y, .int (nI a), .int (nI b)])).length) Slot.unset).toArray = ls at hl ⊢
  have hl : lv_has ls 4 [(0, .ref y), (1, .int (nI a)), (2, .int (nI b))] := hl
  refine lv_aload_n hx hb dMd_take_0 rfl (lv_at hl 0 rfl) ?_
  refine lv_iload_n hx hb dMd_take_1 rfl (lv_at hl 1 rfl) ?_
  have hPc := hP.sub (ws' := (wM y y1 y2 y3 y4 y5 y6 y7 y8 y9 y10 cI mi ma)) [0, 1, 2, 3, 4, 5, 6, 7, 8, 9, 10] rfl
  have hDc := hD.sub (ws' := (wM y y1 y2 y3 y4 y5 y6 y7 y8 y9 y10 cI mi ma)) [0, 1, 2, 3, 4, 5, 6, 7, 8, 9, 10] (by decide) rfl
  have hKc := hK.sub (tys' := [(cI, .int)]) [0] rfl
  have hFc := va_free (wc := (wM y y1 y2 y3 y4 y5 y6 y7 y8 y9 y10 cI mi ma)) hD hS hA [0, 1, 2, 3, 4, 5, 6, 7, 8, 9, 10] rfl
  refine va_calli (va_runV (As := [.int (nI a)]) (rest := []) ⟨hx, hb, hml, hown, hts⟩ (k_M_lacks0 l dC dI s.heap.size y y1 y2 y3 y4 y5 y6 y7 y8 y9 y10 cI mi ma a ha4) (cwV 1 hts (gd_V in_91 in_93 in_94 in_74 in_92) rfl rfl rfl (by decide +kernel) ⟨Nat.le_of_ble_eq_true rfl, Nat.le_of_ble_eq_true rfl⟩) ⟨fun a U g mk q => by obtain ⟨q0, q1, qP, qK, qD⟩ := q; exact ⟨q0, q1, qP, va_K.moved (u := U) (U := U.calling g mk a) (Vm.Alike.refl U.vm) qK, qD⟩, va_recv hKc hPc (ci := 3) (q0 := 0) rfl rfl, fun U hU hW => ⟨rfl, by rw [hU], by rw [hU]; exact hPc, va_K.moved hW.alike hKc, hDc.weaken (fun _ _ _ _ => trivial)⟩⟩ rfl rfl hl.1 rfl (lv_room (Nat.le_of_ble_eq_true rfl)) dMd_take_2 ⟨Nat.le_of_ble_eq_true rfl, Nat.le_of_ble_eq_true rfl⟩) hS (fun q _ h => hFc q h) hFc (fun r_1 u t H1 locs ht hvm hw hB hz1 hk1 hS => ?_)
  obtain ⟨hP1, hK1, hD1⟩ := hB
  rw [ht] at hP1
  obtain ⟨hP, hD⟩ := va_join (wr := []) (w1 := (wM y y1 y2 y3 y4 y5 y6 y7 y8 y9 y10 cI (va_up mi 0 0) ma)) hP hD [0, 1, 2, 3, 4, 5, 6, 7, 8, 9, 10] [] rfl rfl (by decide) (by decide) hk1 hFc hP1 hD1
  generalize H1 = H at hP hS ⊢
  have hP : va_P (dC, dI) vwCl (wM y y1 y2 y3 y4 y5 y6 y7 y8 y9 y10 cI (va_up mi 0 0) ma) H := hP
  have hD : va_D A (wM y y1 y2 y3 y4 y5 y6 y7 y8 y9 y10 cI (va_up mi 0 0) ma) := hD
  have hw : r_1 = 0 := hw
  subst hw
  refine lv_if_ne (tgt := 31) hx hb dMd_take_5 (by decide) (fun c_2 => absurd c_2 (by decide)) (fun _ => ?_)
  refine lv_aload_n hx hb dMd_take_8 rfl (lv_at hl 0 rfl) ?_
  refine lv_iload_n hx hb dMd_take_9 rfl (lv_at hl 2 rfl) ?_
  have hPc := hP.sub (ws' := (wM y y1 y2 y3 y4 y5 y6 y7 y8 y9 y10 cI (va_up mi 0 0) ma)) [0, 1, 2, 3, 4, 5, 6, 7, 8, 9, 10] rfl
  have hDc := hD.sub (ws' := (wM y y1 y2 y3 y4 y5 y6 y7 y8 y9 y10 cI (va_up mi 0 0) ma)) [0, 1, 2, 3, 4, 5, 6, 7, 8, 9, 10] (by decide) rfl
  have hKc := hK.sub (tys' := [(cI, .int)]) [0] rfl
  have hFc := va_free (wc := (wM y y1 y2 y3 y4 y5 y6 y7 y8 y9 y10 cI (va_up mi 0 0) ma)) hD hS hA [0, 1, 2, 3, 4, 5, 6, 7, 8, 9, 10] rfl
  refine va_calli (va_runV (As := [.int (nI b)]) (rest := []) ⟨hx, hb, hml, hown, hts⟩ (k_M_lacks0 l dC dI H.size y y1 y2 y3 y4 y5 y6 y7 y8 y9 y10 cI (va_up mi 0 0) ma b hb4) (cwV 1 hts (gd_V in_91 in_93 in_94 in_74 in_92) rfl rfl rfl (by decide +kernel) ⟨Nat.le_of_ble_eq_true rfl, Nat.le_of_ble_eq_true rfl⟩) ⟨fun a U g mk q => by obtain ⟨q0, q1, qP, qK, qD⟩ := q; exact ⟨q0, q1, qP, va_K.moved (u := U) (U := U.calling g mk a) (Vm.Alike.refl U.vm) qK, qD⟩, va_recv hKc hPc (ci := 3) (q0 := 0) rfl rfl, fun U hU hW => ⟨rfl, by rw [hU], by rw [hU]; exact hPc, va_K.moved hW.alike hKc, hDc.weaken (fun _ _ _ _ => trivial)⟩⟩ rfl rfl hl.1 rfl (lv_room (Nat.le_of_ble_eq_true rfl)) dMd_take_10 ⟨Nat.le_of_ble_eq_true rfl, Nat.le_of_ble_eq_true rfl⟩) hS (fun q _ h => hFc q h) hFc (fun r_3 u t H1 locs ht hvm hw hB hz1 hk1 hS => ?_)
  obtain ⟨hP1, hK1, hD1⟩ := hB
  rw [ht] at hP1
  obtain ⟨hP, hD⟩ := va_join (wr := []) (w1 := (wM y y1 y2 y3 y4 y5 y6 y7 y8 y9 y10 cI (va_up mi 0 0) ma)) hP hD [0, 1, 2, 3, 4, 5, 6, 7, 8, 9, 10] [] rfl rfl (by decide) (by decide) hk1 hFc hP1 hD1
  generalize H1 = H at hP hS ⊢
  have hP : va_P (dC, dI) vwCl (wM y y1 y2 y3 y4 y5 y6 y7 y8 y9 y10 cI (va_up mi 0 0) ma) H := hP
  have hD : va_D A (wM y y1 y2 y3 y4 y5 y6 y7 y8 y9 y10 cI (va_up mi 0 0) ma) := hD
  have hw : r_3 = 0 := hw
  subst hw
  refine lv_if_ne (tgt := 31) hx hb dMd_take_13 (by decide) (fun c_4 => absurd c_4 (by decide)) (fun _ => ?_)
  refine lv_aload_n hx hb dMd_take_16 rfl (lv_at hl 0 rfl) ?_
  refine va_get (D := (dC, dI)) (ci := 3) (v := .ref y1) (C := RMd) (T := TMd) (N := 17) hx hb hts inMd hown hK hP 0 rfl rfl 2 (by decide) (hts _ in_82) (fun _ h9 => h9) rfl dMd_take_17 ?_
  refine lv_iload_n hx hb dMd_take_20 rfl (lv_at hl 1 rfl) ?_
  refine vq_iald (k := a) (f := ma 0) hx hb hK hP 1 0 rfl rfl rfl (by omega) (by decide) dMd_take_21 ?_
  refine lv_aload_n hx hb dMd_take_22 rfl (lv_at hl 0 rfl) ?_
  refine va_get (D := (dC, dI)) (ci := 3) (v := .ref y1) (C := RMd) (T := TMd) (N := 17) hx hb hts inMd hown hK hP 0 rfl rfl 2 (by decide) (hts _ in_82) (fun _ h9 => h9) rfl dMd_take_23 ?_
  refine lv_iload_n hx hb dMd_take_26 rfl (lv_at hl 2 rfl) ?_
  refine vq_iald (k := b) (f := ma 0) hx hb hK hP 1 0 rfl rfl rfl (by omega) (by decide) dMd_take_27 ?_
  refine lv_icmp_gt (tgt := 33) hx hb dMd_take_28 (by decide) (fun c_5 => ?_) (fun c_5 => ?_)
  · skip
    refine lv_aload_n hx hb dMd_take_33 rfl (lv_at hl 0 rfl) ?_
    refine va_get (D := (dC, dI)) (ci := 3) (v := .ref y1) (C := RMd) (T := TMd) (N := 17) hx hb hts inMd hown hK hP 0 rfl rfl 2 (by decide) (hts _ in_82) (fun _ h9 => h9) rfl dMd_take_34 ?_
    refine lv_iload_n hx hb dMd_take_37 rfl (lv_at hl 2 rfl) ?_
    refine lv_aload_n hx hb dMd_take_38 rfl (lv_at hl 0 rfl) ?_
    refine va_get (D := (dC, dI)) (ci := 3) (v := .ref y1) (C := RMd) (T := TMd) (N := 17) hx hb hts inMd hown hK hP 0 rfl rfl 2 (by decide) (hts _ in_82) (fun _ h9 => h9) rfl dMd_take_39 ?_
    refine lv_iload_n hx hb dMd_take_42 rfl (lv_at hl 1 rfl) ?_
    refine vq_iald (k := a) (f := ma 0) hx hb hK hP 1 0 rfl rfl rfl (by omega) (by decide) dMd_take_43 ?_
    refine vq_iast (k := b) (f := ma 0) hx hb hK hP hD hS 1 0 rfl rfl rfl (by omega) (by decide) dMd_take_44 (fun H locs hP hD hS => ?_)
    have hP : va_P (dC, dI) vwCl (wM y y1 y2 y3 y4 y5 y6 y7 y8 y9 y10 cI (va_up mi 0 0) (va_up ma 0 (upd (ma 0) b ((ma 0) a)))) H := hP
    have hD : va_D A (wM y y1 y2 y3 y4 y5 y6 y7 y8 y9 y10 cI (va_up mi 0 0) (va_up ma 0 (upd (ma 0) b ((ma 0) a)))) := hD
    refine lv_aload_n hx hb dMd_take_45 rfl (lv_at hl 0 rfl) ?_
    refine va_get (D := (dC, dI)) (ci := 3) (v := .ref y2) (C := RMd) (T := TMd) (N := 17) hx hb hts inMd hown hK hP 0 rfl rfl 3 (by decide) (hts _ in_102) (fun _ h9 => h9) rfl dMd_take_46 ?_
    refine lv_iload_n hx hb dMd_take_49 rfl (lv_at hl 2 rfl) ?_
    refine lv_aload_n hx hb dMd_take_50 rfl (lv_at hl 0 rfl) ?_
    refine va_get (D := (dC, dI)) (ci := 3) (v := .ref y1) (C := RMd) (T := TMd) (N := 17) hx hb hts inMd hown hK hP 0 rfl rfl 2 (by decide) (hts _ in_82) (fun _ h9 => h9) rfl dMd_take_51 ?_
    refine lv_iload_n hx hb dMd_take_54 rfl (lv_at hl 1 rfl) ?_
    refine vq_iald (k := a) (f := upd (ma 0) b ((ma 0) a)) hx hb hK hP 1 0 rfl rfl rfl (by omega) (by decide) dMd_take_55 ?_
    refine vq_iast (k := b) (f := ma 1) hx hb hK hP hD hS 2 0 rfl rfl rfl (by omega) (by decide) dMd_take_56 (fun H locs hP hD hS => ?_)
    have hP : va_P (dC, dI) vwCl (wM y y1 y2 y3 y4 y5 y6 y7 y8 y9 y10 cI (va_up mi 0 0) (va_up (va_up ma 0 (upd (ma 0) b ((ma 0) a))) 1 (upd (ma 1) b ((upd (ma 0) b ((ma 0) a)) a)))) H := hP
    have hD : va_D A (wM y y1 y2 y3 y4 y5 y6 y7 y8 y9 y10 cI (va_up mi 0 0) (va_up (va_up ma 0 (upd (ma 0) b ((ma 0) a))) 1 (upd (ma 1) b ((upd (ma 0) b ((ma 0) a)) a)))) := hD
    refine lv_aload_n hx hb dMd_take_57 rfl (lv_at hl 0 rfl) ?_
    refine va_get (D := (dC, dI)) (ci := 3) (v := .ref y3) (C := RMd) (T := TMd) (N := 17) hx hb hts inMd hown hK hP 0 rfl rfl 4 (by decide) (hts _ in_99) (fun _ h9 => h9) rfl dMd_take_58 ?_
    refine lv_iload_n hx hb dMd_take_61 rfl (lv_at hl 2 rfl) ?_
    refine lv_aload_n hx hb dMd_take_62 rfl (lv_at hl 0 rfl) ?_
    refine va_get (D := (dC, dI)) (ci := 3) (v := .ref y3) (C := RMd) (T := TMd) (N := 17) hx hb hts inMd hown hK hP 0 rfl rfl 4 (by decide) (hts _ in_99) (fun _ h9 => h9) rfl dMd_take_63 ?_
    refine lv_iload_n hx hb dMd_take_66 rfl (lv_at hl 1 rfl) ?_
    refine vq_iald (k := a) (f := ma 2) hx hb hK hP 3 0 rfl rfl rfl (by omega) (by decide) dMd_take_67 ?_
    refine vq_iast (k := b) (f := ma 2) hx hb hK hP hD hS 3 0 rfl rfl rfl (by omega) (by decide) dMd_take_68 (fun H locs hP hD hS => ?_)
    have hP : va_P (dC, dI) vwCl (wM y y1 y2 y3 y4 y5 y6 y7 y8 y9 y10 cI (va_up mi 0 0) (va_up (va_up (va_up ma 0 (upd (ma 0) b ((ma 0) a))) 1 (upd (ma 1) b ((upd (ma 0) b ((ma 0) a)) a))) 2 (upd (ma 2) b ((ma 2) a)))) H := hP
    have hD : va_D A (wM y y1 y2 y3 y4 y5 y6 y7 y8 y9 y10 cI (va_up mi 0 0) (va_up (va_up (va_up ma 0 (upd (ma 0) b ((ma 0) a))) 1 (upd (ma 1) b ((upd (ma 0) b ((ma 0) a)) a))) 2 (upd (ma 2) b ((ma 2) a)))) := hD
    refine lv_aload_n hx hb dMd_take_69 rfl (lv_at hl 0 rfl) ?_
    refine va_get (D := (dC, dI)) (ci := 3) (v := .ref y4) (C := RMd) (T := TMd) (N := 17) hx hb hts inMd hown hK hP 0 rfl rfl 5 (by decide) (hts _ in_100) (fun _ h9 => h9) rfl dMd_take_70 ?_
    refine lv_iload_n hx hb dMd_take_73 rfl (lv_at hl 2 rfl) ?_
    refine lv_aload_n hx hb dMd_take_74 rfl (lv_at hl 0 rfl) ?_
    refine va_get (D := (dC, dI)) (ci := 3) (v := .ref y4) (C := RMd) (T := TMd) (N := 17) hx hb hts inMd hown hK hP 0 rfl rfl 5 (by decide) (hts _ in_100) (fun _ h9 => h9) rfl dMd_take_75 ?_
    refine lv_iload_n hx hb dMd_take_78 rfl (lv_at hl 1 rfl) ?_
    refine vq_iald (k := a) (f := ma 3) hx hb hK hP 4 0 rfl rfl rfl (by omega) (by decide) dMd_take_79 ?_
    refine vq_iast (k := b) (f := ma 3) hx hb hK hP hD hS 4 0 rfl rfl rfl (by omega) (by decide) dMd_take_80 (fun H locs hP hD hS => ?_)
    have hP : va_P (dC, dI) vwCl (wM y y1 y2 y3 y4 y5 y6 y7 y8 y9 y10 cI (va_up mi 0 0) (va_up (va_up (va_up (va_up ma 0 (upd (ma 0) b ((ma 0) a))) 1 (upd (ma 1) b ((upd (ma 0) b ((ma 0) a)) a))) 2 (upd (ma 2) b ((ma 2) a))) 3 (upd (ma 3) b ((ma 3) a)))) H := hP
    have hD : va_D A (wM y y1 y2 y3 y4 y5 y6 y7 y8 y9 y10 cI (va_up mi 0 0) (va_up (va_up (va_up (va_up ma 0 (upd (ma 0) b ((ma 0) a))) 1 (upd (ma 1) b ((upd (ma 0) b ((ma 0) a)) a))) 2 (upd (ma 2) b ((ma 2) a))) 3 (upd (ma 3) b ((ma 3) a)))) := hD
    refine lv_aload_n hx hb dMd_take_81 rfl (lv_at hl 0 rfl) ?_
    refine va_get (D := (dC, dI)) (ci := 3) (v := .ref y5) (C := RMd) (T := TMd) (N := 17) hx hb hts inMd hown hK hP 0 rfl rfl 6 (by decide) (hts _ in_101) (fun _ h9 => h9) rfl dMd_take_82 ?_
    refine lv_iload_n hx hb dMd_take_85 rfl (lv_at hl 2 rfl) ?_
    refine lv_aload_n hx hb dMd_take_86 rfl (lv_at hl 0 rfl) ?_
    refine va_get (D := (dC, dI)) (ci := 3) (v := .ref y5) (C := RMd) (T := TMd) (N := 17) hx hb hts inMd hown hK hP 0 rfl rfl 6 (by decide) (hts _ in_101) (fun _ h9 => h9) rfl dMd_take_87 ?_
    refine lv_iload_n hx hb dMd_take_90 rfl (lv_at hl 1 rfl) ?_
    refine vq_iald (k := a) (f := ma 4) hx hb hK hP 5 0 rfl rfl rfl (by omega) (by decide) dMd_take_91 ?_
    refine vq_iast (k := b) (f := ma 4) hx hb hK hP hD hS 5 0 rfl rfl rfl (by omega) (by decide) dMd_take_92 (fun H locs hP hD hS => ?_)
    have hP : va_P (dC, dI) vwCl (wM y y1 y2 y3 y4 y5 y6 y7 y8 y9 y10 cI (va_up mi 0 0) (va_up (va_up (va_up (va_up (va_up ma 0 (upd (ma 0) b ((ma 0) a))) 1 (upd (ma 1) b ((upd (ma 0) b ((ma 0) a)) a))) 2 (upd (ma 2) b ((ma 2) a))) 3 (upd (ma 3) b ((ma 3) a))) 4 (upd (ma 4) b ((ma 4) a)))) H := hP
    have hD : va_D A (wM y y1 y2 y3 y4 y5 y6 y7 y8 y9 y10 cI (va_up mi 0 0) (va_up (va_up (va_up (va_up (va_up ma 0 (upd (ma 0) b ((ma 0) a))) 1 (upd (ma 1) b ((upd (ma 0) b ((ma 0) a)) a))) 2 (upd (ma 2) b ((ma 2) a))) 3 (upd (ma 3) b ((ma 3) a))) 4 (upd (ma 4) b ((ma 4) a)))) := hD
    refine lv_iconst (v := 0) hx hb dMd_take_93 (by decide) ?_
    refine lv_istore_n (lv' := [(3, .int 0), (0, .ref y), (1, .int (nI a)), (2, .int (nI b))]) hx hb dMd_take_94 rfl hl (by decide) rfl (fun ls hl => ?_)
    refine wl_rw (σ := Nat × Heap × List Loc × Array Slot) (fun z9 => (z9.2.1, z9.2.2.1, F0 m 95 z9.2.2.2 [])) (fun z9 => z9.1 ≤ 16 ∧ va_P (dC, dI) vwCl (wM y y1 y2 y3 y4 y5 y6 y7 y8 y9 y10 cI (va_up mi 0 0) (va_up (va_up (va_up (va_up (va_up (va_up (va_up ma 0 (upd (ma 0) b (ma 0 a))) 1 (upd (ma 1) b (upd (ma 0) b (ma 0 a) a))) 2 (upd (ma 2) b (ma 2 a))) 3 (upd (ma 3) b (ma 3 a))) 4 (upd (ma 4) b (ma 4 a))) 5 (m_cp (ma 5) (16 * b) (16 * a) z9.1)) 6 (m_cp (ma 6) (16 * b) (16 * a) z9.1))) z9.2.1 ∧ va_D A (wM y y1 y2 y3 y4 y5 y6 y7 y8 y9 y10 cI (va_up mi 0 0) (va_up (va_up (va_up (va_up (va_up (va_up (va_up ma 0 (upd (ma 0) b (ma 0 a))) 1 (upd (ma 1) b (upd (ma 0) b (ma 0 a) a))) 2 (upd (ma 2) b (ma 2 a))) 3 (upd (ma 3) b (ma 3 a))) 4 (upd (ma 4) b (ma 4 a))) 5 (m_cp (ma 5) (16 * b) (16 * a) z9.1)) 6 (m_cp (ma 6) (16 * b) (16 * a) z9.1))) ∧ va_S A s.heap z9.2.1 z9.2.2.1 ∧ lv_has z9.2.2.2 4 [(3, .int (nI z9.1)), (0, .ref y), (1, .int (nI a)), (2, .int (nI b))]) (fun z9 => 16 - z9.1) ?_ (0, H, locs, ls) ⟨by omega, hP, hD, hS, lv_sub hl [0, 1, 2, 3] rfl⟩
    rintro ⟨j, H, locs, ls⟩ ⟨hj, hP, hD, hS, hl⟩ ih
    have hj : j ≤ 16 := hj
    have hP : va_P (dC, dI) vwCl (wM y y1 y2 y3 y4 y5 y6 y7 y8 y9 y10 cI (va_up mi 0 0) (va_up (va_up (va_up (va_up (va_up (va_up (va_up ma 0 (upd (ma 0) b (ma 0 a))) 1 (upd (ma 1) b (upd (ma 0) b (ma 0 a) a))) 2 (upd (ma 2) b (ma 2 a))) 3 (upd (ma 3) b (ma 3 a))) 4 (upd (ma 4) b (ma 4 a))) 5 (m_cp (ma 5) (16 * b) (16 * a) j)) 6 (m_cp (ma 6) (16 * b) (16 * a) j))) H := hP
    have hD : va_D A (wM y y1 y2 y3 y4 y5 y6 y7 y8 y9 y10 cI (va_up mi 0 0) (va_up (va_up (va_up (va_up (va_up (va_up (va_up ma 0 (upd (ma 0) b (ma 0 a))) 1 (upd (ma 1) b (upd (ma 0) b (ma 0 a) a))) 2 (upd (ma 2) b (ma 2 a))) 3 (upd (ma 3) b (ma 3 a))) 4 (upd (ma 4) b (ma 4 a))) 5 (m_cp (ma 5) (16 * b) (16 * a) j)) 6 (m_cp (ma 6) (16 * b) (16 * a) j))) := hD
    have hS : va_S A s.heap H locs := hS
    have hl : lv_has ls 4 [(3, .int (nI j)), (0, .ref y), (1, .int (nI a)), (2, .int (nI b))] := hl
    show W p l e _ s m _ below meth c H locs _ _ _ (F0 m 95 ls [])
    refine lv_iload_n hx hb dMd_take_95 rfl (lv_at hl 0 rfl) ?_
    refine lv_bipush (v := nI 16) hx hb dMd_take_96 (by decide) ?_
    refine lv_icmp_ge (tgt := 151) hx hb dMd_take_98 (by decide) (fun c_6 => ?_) (fun c_6 => ?_)
    · skip
      have hj9 : j = 16 := lp_x (by decide) hj c_6
      subst hj9
      refine lv_iconst (v := 0) hx hb dMd_take_151 (by decide) ?_
      refine lv_istore_n (lv' := [(3, .int 0), (0, .ref y), (1, .int (nI a)), (2, .int (nI b))]) hx hb dMd_take_152 rfl hl (by decide) rfl (fun ls hl => ?_)
      refine wl_rw (σ := Nat × Heap × List Loc × Array Slot) (fun z9 => (z9.2.1, z9.2.2.1, F0 m 153 z9.2.2.2 [])) (fun z9 => z9.1 ≤ 64 ∧ va_P (dC, dI) vwCl (wM y y1 y2 y3 y4 y5 y6 y7 y8 y9 y10 cI (va_up mi 0 0) (va_up (va_up (va_up (va_up (va_up (va_up (va_up (va_up ma 0 (upd (ma 0) b (ma 0 a))) 1 (upd (ma 1) b (upd (ma 0) b (ma 0 a) a))) 2 (upd (ma 2) b (ma 2 a))) 3 (upd (ma 3) b (ma 3 a))) 4 (upd (ma 4) b (ma 4 a))) 5 (m_cp (ma 5) (16 * b) (16 * a) 16)) 6 (m_cp (ma 6) (16 * b) (16 * a) 16)) 7 (m_cp (ma 7) (64 * b) (64 * a) z9.1))) z9.2.1 ∧ va_D A (wM y y1 y2 y3 y4 y5 y6 y7 y8 y9 y10 cI (va_up mi 0 0) (va_up (va_up (va_up (va_up (va_up (va_up (va_up (va_up ma 0 (upd (ma 0) b (ma 0 a))) 1 (upd (ma 1) b (upd (ma 0) b (ma 0 a) a))) 2 (upd (ma 2) b (ma 2 a))) 3 (upd (ma 3) b (ma 3 a))) 4 (upd (ma 4) b (ma 4 a))) 5 (m_cp (ma 5) (16 * b) (16 * a) 16)) 6 (m_cp (ma 6) (16 * b) (16 * a) 16)) 7 (m_cp (ma 7) (64 * b) (64 * a) z9.1))) ∧ va_S A s.heap z9.2.1 z9.2.2.1 ∧ lv_has z9.2.2.2 4 [(3, .int (nI z9.1)), (0, .ref y), (1, .int (nI a)), (2, .int (nI b))]) (fun z9 => 64 - z9.1) ?_ (0, H, locs, ls) ⟨by omega, hP, hD, hS, lv_sub hl [0, 1, 2, 3] rfl⟩
      rintro ⟨j2, H, locs, ls⟩ ⟨hj2, hP, hD, hS, hl⟩ ih
      have hj2 : j2 ≤ 64 := hj2
      have hP : va_P (dC, dI) vwCl (wM y y1 y2 y3 y4 y5 y6 y7 y8 y9 y10 cI (va_up mi 0 0) (va_up (va_up (va_up (va_up (va_up (va_up (va_up (va_up ma 0 (upd (ma 0) b (ma 0 a))) 1 (upd (ma 1) b (upd (ma 0) b (ma 0 a) a))) 2 (upd (ma 2) b (ma 2 a))) 3 (upd (ma 3) b (ma 3 a))) 4 (upd (ma 4) b (ma 4 a))) 5 (m_cp (ma 5) (16 * b) (16 * a) 16)) 6 (m_cp (ma 6) (16 * b) (16 * a) 16)) 7 (m_cp (ma 7) (64 * b) (64 * a) j2))) H := hP
      have hD : va_D A (wM y y1 y2 y3 y4 y5 y6 y7 y8 y9 y10 cI (va_up mi 0 0) (va_up (va_up (va_up (va_up (va_up (va_up (va_up (va_up ma 0 (upd (ma 0) b (ma 0 a))) 1 (upd (ma 1) b (upd (ma 0) b (ma 0 a) a))) 2 (upd (ma 2) b (ma 2 a))) 3 (upd (ma 3) b (ma 3 a))) 4 (upd (ma 4) b (ma 4 a))) 5 (m_cp (ma 5) (16 * b) (16 * a) 16)) 6 (m_cp (ma 6) (16 * b) (16 * a) 16)) 7 (m_cp (ma 7) (64 * b) (64 * a) j2))) := hD
      have hS : va_S A s.heap H locs := hS
      have hl : lv_has ls 4 [(3, .int (nI j2)), (0, .ref y), (1, .int (nI a)), (2, .int (nI b))] := hl
      show W p l e _ s m _ below meth c H locs _ _ _ (F0 m 153 ls [])
      refine lv_iload_n hx hb dMd_take_153 rfl (lv_at hl 0 rfl) ?_
      refine lv_bipush (v := nI 64) hx hb dMd_take_154 (by decide) ?_
      refine lv_icmp_ge (tgt := 187) hx hb dMd_take_156 (by decide) (fun c_7 => ?_) (fun c_7 => ?_)
      · skip
        have hj29 : j2 = 64 := lp_x (by decide) hj2 c_7
        subst hj29
        refine lv_iconst (v := 0) hx hb dMd_take_187 (by decide) ?_
        refine lv_istore_n (lv' := [(3, .int 0), (0, .ref y), (1, .int (nI a)), (2, .int (nI b))]) hx hb dMd_take_188 rfl hl (by decide) rfl (fun ls hl => ?_)
        refine wl_rw (σ := Nat × Heap × List Loc × Array Slot) (fun z9 => (z9.2.1, z9.2.2.1, F0 m 189 z9.2.2.2 [])) (fun z9 => z9.1 ≤ 1024 ∧ va_P (dC, dI) vwCl (wM y y1 y2 y3 y4 y5 y6 y7 y8 y9 y10 cI (va_up mi 0 0) (va_up (va_up (va_up (va_up (va_up (va_up (va_up (va_up (va_up ma 0 (upd (ma 0) b (ma 0 a))) 1 (upd (ma 1) b (upd (ma 0) b (ma 0 a) a))) 2 (upd (ma 2) b (ma 2 a))) 3 (upd (ma 3) b (ma 3 a))) 4 (upd (ma 4) b (ma 4 a))) 5 (m_cp (ma 5) (16 * b) (16 * a) 16)) 6 (m_cp (ma 6) (16 * b) (16 * a) 16)) 7 (m_cp (ma 7) (64 * b) (64 * a) 64)) 8 (m_cp (ma 8) (1024 * b) (1024 * a) z9.1))) z9.2.1 ∧ va_D A (wM y y1 y2 y3 y4 y5 y6 y7 y8 y9 y10 cI (va_up mi 0 0) (va_up (va_up (va_up (va_up (va_up (va_up (va_up (va_up (va_up ma 0 (upd (ma 0) b (ma 0 a))) 1 (upd (ma 1) b (upd (ma 0) b (ma 0 a) a))) 2 (upd (ma 2) b (ma 2 a))) 3 (upd (ma 3) b (ma 3 a))) 4 (upd (ma 4) b (ma 4 a))) 5 (m_cp (ma 5) (16 * b) (16 * a) 16)) 6 (m_cp (ma 6) (16 * b) (16 * a) 16)) 7 (m_cp (ma 7) (64 * b) (64 * a) 64)) 8 (m_cp (ma 8) (1024 * b) (1024 * a) z9.1))) ∧ va_S A s.heap z9.2.1 z9.2.2.1 ∧ lv_has z9.2.2.2 4 [(3, .int (nI z9.1)), (0, .ref y), (1, .int (nI a)), (2, .int (nI b))]) (fun z9 => 1024 - z9.1) ?_ (0, H, locs, ls) ⟨by omega, hP, hD, hS, lv_sub hl [0, 1, 2, 3] rfl⟩
        rintro ⟨j3, H, locs, ls⟩ ⟨hj3, hP, hD, hS, hl⟩ ih
        have hj3 : j3 ≤ 1024 := hj3
        have hP : va_P (dC, dI) vwCl (wM y y1 y2 y3 y4 y5 y6 y7 y8 y9 y10 cI (va_up mi 0 0) (va_up (va_up (va_up (va_up (va_up (va_up (va_up (va_up (va_up ma 0 (upd (ma 0) b (ma 0 a))) 1 (upd (ma 1) b (upd (ma 0) b (ma 0 a) a))) 2 (upd (ma 2) b (ma 2 a))) 3 (upd (ma 3) b (ma 3 a))) 4 (upd (ma 4) b (ma 4 a))) 5 (m_cp (ma 5) (16 * b) (16 * a) 16)) 6 (m_cp (ma 6) (16 * b) (16 * a) 16)) 7 (m_cp (ma 7) (64 * b) (64 * a) 64)) 8 (m_cp (ma 8) (1024 * b) (1024 * a) j3))) H := hP
        have hD : va_D A (wM y y1 y2 y3 y4 y5 y6 y7 y8 y9 y10 cI (va_up mi 0 0) (va_up (va_up (va_up (va_up (va_up (va_up (va_up (va_up (va_up ma 0 (upd (ma 0) b (ma 0 a))) 1 (upd (ma 1) b (upd (ma 0) b (ma 0 a) a))) 2 (upd (ma 2) b (ma 2 a))) 3 (upd (ma 3) b (ma 3 a))) 4 (upd (ma 4) b (ma 4 a))) 5 (m_cp (ma 5) (16 * b) (16 * a) 16)) 6 (m_cp (ma 6) (16 * b) (16 * a) 16)) 7 (m_cp (ma 7) (64 * b) (64 * a) 64)) 8 (m_cp (ma 8) (1024 * b) (1024 * a) j3))) := hD
        have hS : va_S A s.heap H locs := hS
        have hl : lv_has ls 4 [(3, .int (nI j3)), (0, .ref y), (1, .int (nI a)), (2, .int (nI b))] := hl
        show W p l e _ s m _ below meth c H locs _ _ _ (F0 m 189 ls [])
        refine lv_iload_n hx hb dMd_take_189 rfl (lv_at hl 0 rfl) ?_
        refine lv_sipush (v := nI 1024) hx hb dMd_take_190 (by decide) ?_
        refine lv_icmp_ge (tgt := 226) hx hb dMd_take_193 (by decide) (fun c_8 => ?_) (fun c_8 => ?_)
        · skip
          have hj39 : j3 = 1024 := lp_x (by decide) hj3 c_8
          subst hj39
          refine lv_iconst (v := 1) hx hb dMd_take_226 (by decide) ?_
          have hP9 : va_P (dC, dI) vwCl (wM y y1 y2 y3 y4 y5 y6 y7 y8 y9 y10 cI (va_up mi 0 0) ((m_tk2 ma a b).2)) H := by simp only [m_tk2, if_pos c_5]; exact hP
          have hD9 : va_D A (wM y y1 y2 y3 y4 y5 y6 y7 y8 y9 y10 cI (va_up mi 0 0) ((m_tk2 ma a b).2)) := by simp only [m_tk2, if_pos c_5]; exact hD
          exact W.zret (v := 1) (ty := .boolean) hx hb hr rfl (fun t ht hW => ⟨⟨1, (), rfl, by simp only [m_tk2, if_pos c_5], by rw [ht]; exact hP9, va_K.moved hW.alike hK, hD9⟩, hS.F ht⟩) hS.2.2 dMd_take_227
        · skip
          have hj3 : j3 < 1024 := lp_c (by decide) hj3 c_8
          refine lv_aload_n hx hb dMd_take_196 rfl (lv_at hl 1 rfl) ?_
          refine va_get (D := (dC, dI)) (ci := 3) (v := .ref y9) (C := RMd) (T := TMd) (N := 17) hx hb hts inMd hown hK hP 0 rfl rfl 10 (by decide) (hts _ in_103) (fun _ h9 => h9) rfl dMd_take_197 ?_
          refine lv_sipush (v := nI 1024) hx hb dMd_take_200 (by decide) ?_
          refine lv_iload_n hx hb dMd_take_203 rfl (lv_at hl 3 rfl) ?_
          refine lv_imul hx hb dMd_take_204 ?_
          refine lv_ri (y := nI (1024 * b)) (pk_mul _ _) ?_
          refine lv_iload_n hx hb dMd_take_205 rfl (lv_at hl 0 rfl) ?_
          refine lv_iadd hx hb dMd_take_206 ?_
          refine lv_ri (y := nI ((1024 * b) + j3)) (nI_add _ _) ?_
          refine lv_aload_n hx hb dMd_take_207 rfl (lv_at hl 1 rfl) ?_
          refine va_get (D := (dC, dI)) (ci := 3) (v := .ref y9) (C := RMd) (T := TMd) (N := 17) hx hb hts inMd hown hK hP 0 rfl rfl 10 (by decide) (hts _ in_103) (fun _ h9 => h9) rfl dMd_take_208 ?_
          refine lv_sipush (v := nI 1024) hx hb dMd_take_211 (by decide) ?_
          refine lv_iload_n hx hb dMd_take_214 rfl (lv_at hl 2 rfl) ?_
          refine lv_imul hx hb dMd_take_215 ?_
          refine lv_ri (y := nI (1024 * a)) (pk_mul _ _) ?_
          refine lv_iload_n hx hb dMd_take_216 rfl (lv_at hl 0 rfl) ?_
          refine lv_iadd hx hb dMd_take_217 ?_
          refine lv_ri (y := nI ((1024 * a) + j3)) (nI_add _ _) ?_
          refine vq_iald (k := ((1024 * a) + j3)) (f := m_cp (ma 8) (1024 * b) (1024 * a) j3) hx hb hK hP 9 0 rfl rfl rfl (by omega) (by decide) dMd_take_218 ?_
          refine vq_iast (k := ((1024 * b) + j3)) (f := m_cp (ma 8) (1024 * b) (1024 * a) j3) hx hb hK hP hD hS 9 0 rfl rfl rfl (by omega) (by decide) dMd_take_219 (fun H locs hP hD hS => ?_)
          have hP : va_P (dC, dI) vwCl (wM y y1 y2 y3 y4 y5 y6 y7 y8 y9 y10 cI (va_up mi 0 0) (va_up (va_up (va_up (va_up (va_up (va_up (va_up (va_up (va_up ma 0 (upd (ma 0) b (ma 0 a))) 1 (upd (ma 1) b (upd (ma 0) b (ma 0 a) a))) 2 (upd (ma 2) b (ma 2 a))) 3 (upd (ma 3) b (ma 3 a))) 4 (upd (ma 4) b (ma 4 a))) 5 (m_cp (ma 5) (16 * b) (16 * a) 16)) 6 (m_cp (ma 6) (16 * b) (16 * a) 16)) 7 (m_cp (ma 7) (64 * b) (64 * a) 64)) 8 (upd (m_cp (ma 8) (1024 * b) (1024 * a) j3) ((1024 * b) + j3) ((m_cp (ma 8) (1024 * b) (1024 * a) j3) ((1024 * a) + j3))))) H := hP
          have hD : va_D A (wM y y1 y2 y3 y4 y5 y6 y7 y8 y9 y10 cI (va_up mi 0 0) (va_up (va_up (va_up (va_up (va_up (va_up (va_up (va_up (va_up ma 0 (upd (ma 0) b (ma 0 a))) 1 (upd (ma 1) b (upd (ma 0) b (ma 0 a) a))) 2 (upd (ma 2) b (ma 2 a))) 3 (upd (ma 3) b (ma 3 a))) 4 (upd (ma 4) b (ma 4 a))) 5 (m_cp (ma 5) (16 * b) (16 * a) 16)) 6 (m_cp (ma 6) (16 * b) (16 * a) 16)) 7 (m_cp (ma 7) (64 * b) (64 * a) 64)) 8 (upd (m_cp (ma 8) (1024 * b) (1024 * a) j3) ((1024 * b) + j3) ((m_cp (ma 8) (1024 * b) (1024 * a) j3) ((1024 * a) + j3))))) := hD
          refine lv_iinc (v := nI (j3 + 1)) (lv' := [(3, .int (nI (j3 + 1))), (0, .ref y), (1, .int (nI a)), (2, .int (nI b))]) hx hb dMd_take_220 hl (k := 0) rfl (by first | exact nI_1 _ | (show _ + (1 : Int32) = _; exact nI_1 _)) (by decide) rfl (fun ls hl => ?_)
          refine lv_goto (tgt := 189) hx hb dMd_take_223 (by decide) ?_
          have hl9 : lv_has ls 4 [(3, .int (nI (j3 + 1))), (0, .ref y), (1, .int (nI a)), (2, .int (nI b))] := by first | exact lv_sub hl [0, 1, 2, 3] rfl | (simp only [m_cp, if_pos c_5]; exact lv_sub hl [0, 1, 2, 3] rfl)
          have hP9 : va_P (dC, dI) vwCl (wM y y1 y2 y3 y4 y5 y6 y7 y8 y9 y10 cI (va_up mi 0 0) (va_up (va_up (va_up (va_up (va_up (va_up (va_up (va_up (va_up ma 0 (upd (ma 0) b (ma 0 a))) 1 (upd (ma 1) b (upd (ma 0) b (ma 0 a) a))) 2 (upd (ma 2) b (ma 2 a))) 3 (upd (ma 3) b (ma 3 a))) 4 (upd (ma 4) b (ma 4 a))) 5 (m_cp (ma 5) (16 * b) (16 * a) 16)) 6 (m_cp (ma 6) (16 * b) (16 * a) 16)) 7 (m_cp (ma 7) (64 * b) (64 * a) 64)) 8 (m_cp (ma 8) (1024 * b) (1024 * a) (j3 + 1)))) H := by first | exact hP | (simp only [m_cp, if_pos c_5]; exact hP)
          have hD9 : va_D A (wM y y1 y2 y3 y4 y5 y6 y7 y8 y9 y10 cI (va_up mi 0 0) (va_up (va_up (va_up (va_up (va_up (va_up (va_up (va_up (va_up ma 0 (upd (ma 0) b (ma 0 a))) 1 (upd (ma 1) b (upd (ma 0) b (ma 0 a) a))) 2 (upd (ma 2) b (ma 2 a))) 3 (upd (ma 3) b (ma 3 a))) 4 (upd (ma 4) b (ma 4 a))) 5 (m_cp (ma 5) (16 * b) (16 * a) 16)) 6 (m_cp (ma 6) (16 * b) (16 * a) 16)) 7 (m_cp (ma 7) (64 * b) (64 * a) 64)) 8 (m_cp (ma 8) (1024 * b) (1024 * a) (j3 + 1)))) := by first | exact hD | (simp only [m_cp, if_pos c_5]; exact hD)
          exact ih (j3 + 1, H, locs, ls) ⟨hj3, hP9, hD9, hS, hl9⟩ (by show 1024 - (j3 + 1) < 1024 - j3; omega)
      · skip
        have hj2 : j2 < 64 := lp_c (by decide) hj2 c_7
        refine lv_aload_n hx hb dMd_take_159 rfl (lv_at hl 1 rfl) ?_
        refine va_get (D := (dC, dI)) (ci := 3) (v := .ref y8) (C := RMd) (T := TMd) (N := 17) hx hb hts inMd hown hK hP 0 rfl rfl 9 (by decide) (hts _ in_83) (fun _ h9 => h9) rfl dMd_take_160 ?_
        refine lv_bipush (v := nI 64) hx hb dMd_take_163 (by decide) ?_
        refine lv_iload_n hx hb dMd_take_165 rfl (lv_at hl 3 rfl) ?_
        refine lv_imul hx hb dMd_take_166 ?_
        refine lv_ri (y := nI (64 * b)) (pk_mul _ _) ?_
        refine lv_iload_n hx hb dMd_take_167 rfl (lv_at hl 0 rfl) ?_
        refine lv_iadd hx hb dMd_take_168 ?_
        refine lv_ri (y := nI ((64 * b) + j2)) (nI_add _ _) ?_
        refine lv_aload_n hx hb dMd_take_169 rfl (lv_at hl 1 rfl) ?_
        refine va_get (D := (dC, dI)) (ci := 3) (v := .ref y8) (C := RMd) (T := TMd) (N := 17) hx hb hts inMd hown hK hP 0 rfl rfl 9 (by decide) (hts _ in_83) (fun _ h9 => h9) rfl dMd_take_170 ?_
        refine lv_bipush (v := nI 64) hx hb dMd_take_173 (by decide) ?_
        refine lv_iload_n hx hb dMd_take_175 rfl (lv_at hl 2 rfl) ?_
        refine lv_imul hx hb dMd_take_176 ?_
        refine lv_ri (y := nI (64 * a)) (pk_mul _ _) ?_
        refine lv_iload_n hx hb dMd_take_177 rfl (lv_at hl 0 rfl) ?_
        refine lv_iadd hx hb dMd_take_178 ?_
        refine lv_ri (y := nI ((64 * a) + j2)) (nI_add _ _) ?_
        refine vq_iald (k := ((64 * a) + j2)) (f := m_cp (ma 7) (64 * b) (64 * a) j2) hx hb hK hP 8 0 rfl rfl rfl (by omega) (by decide) dMd_take_179 ?_
        refine vq_iast (k := ((64 * b) + j2)) (f := m_cp (ma 7) (64 * b) (64 * a) j2) hx hb hK hP hD hS 8 0 rfl rfl rfl (by omega) (by decide) dMd_take_180 (fun H locs hP hD hS => ?_)
        have hP : va_P (dC, dI) vwCl (wM y y1 y2 y3 y4 y5 y6 y7 y8 y9 y10 cI (va_up mi 0 0) (va_up (va_up (va_up (va_up (va_up (va_up (va_up (va_up ma 0 (upd (ma 0) b (ma 0 a))) 1 (upd (ma 1) b (upd (ma 0) b (ma 0 a) a))) 2 (upd (ma 2) b (ma 2 a))) 3 (upd (ma 3) b (ma 3 a))) 4 (upd (ma 4) b (ma 4 a))) 5 (m_cp (ma 5) (16 * b) (16 * a) 16)) 6 (m_cp (ma 6) (16 * b) (16 * a) 16)) 7 (upd (m_cp (ma 7) (64 * b) (64 * a) j2) ((64 * b) + j2) ((m_cp (ma 7) (64 * b) (64 * a) j2) ((64 * a) + j2))))) H := hP
        have hD : va_D A (wM y y1 y2 y3 y4 y5 y6 y7 y8 y9 y10 cI (va_up mi 0 0) (va_up (va_up (va_up (va_up (va_up (va_up (va_up (va_up ma 0 (upd (ma 0) b (ma 0 a))) 1 (upd (ma 1) b (upd (ma 0) b (ma 0 a) a))) 2 (upd (ma 2) b (ma 2 a))) 3 (upd (ma 3) b (ma 3 a))) 4 (upd (ma 4) b (ma 4 a))) 5 (m_cp (ma 5) (16 * b) (16 * a) 16)) 6 (m_cp (ma 6) (16 * b) (16 * a) 16)) 7 (upd (m_cp (ma 7) (64 * b) (64 * a) j2) ((64 * b) + j2) ((m_cp (ma 7) (64 * b) (64 * a) j2) ((64 * a) + j2))))) := hD
        refine lv_iinc (v := nI (j2 + 1)) (lv' := [(3, .int (nI (j2 + 1))), (0, .ref y), (1, .int (nI a)), (2, .int (nI b))]) hx hb dMd_take_181 hl (k := 0) rfl (by first | exact nI_1 _ | (show _ + (1 : Int32) = _; exact nI_1 _)) (by decide) rfl (fun ls hl => ?_)
        refine lv_goto (tgt := 153) hx hb dMd_take_184 (by decide) ?_
        have hl9 : lv_has ls 4 [(3, .int (nI (j2 + 1))), (0, .ref y), (1, .int (nI a)), (2, .int (nI b))] := by first | exact lv_sub hl [0, 1, 2, 3] rfl | (simp only [m_cp, if_pos c_5]; exact lv_sub hl [0, 1, 2, 3] rfl)
        have hP9 : va_P (dC, dI) vwCl (wM y y1 y2 y3 y4 y5 y6 y7 y8 y9 y10 cI (va_up mi 0 0) (va_up (va_up (va_up (va_up (va_up (va_up (va_up (va_up ma 0 (upd (ma 0) b (ma 0 a))) 1 (upd (ma 1) b (upd (ma 0) b (ma 0 a) a))) 2 (upd (ma 2) b (ma 2 a))) 3 (upd (ma 3) b (ma 3 a))) 4 (upd (ma 4) b (ma 4 a))) 5 (m_cp (ma 5) (16 * b) (16 * a) 16)) 6 (m_cp (ma 6) (16 * b) (16 * a) 16)) 7 (m_cp (ma 7) (64 * b) (64 * a) (j2 + 1)))) H := by first | exact hP | (simp only [m_cp, if_pos c_5]; exact hP)
        have hD9 : va_D A (wM y y1 y2 y3 y4 y5 y6 y7 y8 y9 y10 cI (va_up mi 0 0) (va_up (va_up (va_up (va_up (va_up (va_up (va_up (va_up ma 0 (upd (ma 0) b (ma 0 a))) 1 (upd (ma 1) b (upd (ma 0) b (ma 0 a) a))) 2 (upd (ma 2) b (ma 2 a))) 3 (upd (ma 3) b (ma 3 a))) 4 (upd (ma 4) b (ma 4 a))) 5 (m_cp (ma 5) (16 * b) (16 * a) 16)) 6 (m_cp (ma 6) (16 * b) (16 * a) 16)) 7 (m_cp (ma 7) (64 * b) (64 * a) (j2 + 1)))) := by first | exact hD | (simp only [m_cp, if_pos c_5]; exact hD)
        exact ih (j2 + 1, H, locs, ls) ⟨hj2, hP9, hD9, hS, hl9⟩ (by show 64 - (j2 + 1) < 64 - j2; omega)
    · skip
      have hj : j < 16 := lp_c (by decide) hj c_6
      refine lv_aload_n hx hb dMd_take_101 rfl (lv_at hl 1 rfl) ?_
      refine va_get (D := (dC, dI)) (ci := 3) (v := .ref y6) (C := RMd) (T := TMd) (N := 17) hx hb hts inMd hown hK hP 0 rfl rfl 7 (by decide) (hts _ in_85) (fun _ h9 => h9) rfl dMd_take_102 ?_
      refine lv_bipush (v := nI 16) hx hb dMd_take_105 (by decide) ?_
      refine lv_iload_n hx hb dMd_take_107 rfl (lv_at hl 3 rfl) ?_
      refine lv_imul hx hb dMd_take_108 ?_
      refine lv_ri (y := nI (16 * b)) (pk_mul _ _) ?_
      refine lv_iload_n hx hb dMd_take_109 rfl (lv_at hl 0 rfl) ?_
      refine lv_iadd hx hb dMd_take_110 ?_
      refine lv_ri (y := nI ((16 * b) + j)) (nI_add _ _) ?_
      refine lv_aload_n hx hb dMd_take_111 rfl (lv_at hl 1 rfl) ?_
      refine va_get (D := (dC, dI)) (ci := 3) (v := .ref y6) (C := RMd) (T := TMd) (N := 17) hx hb hts inMd hown hK hP 0 rfl rfl 7 (by decide) (hts _ in_85) (fun _ h9 => h9) rfl dMd_take_112 ?_
      refine lv_bipush (v := nI 16) hx hb dMd_take_115 (by decide) ?_
      refine lv_iload_n hx hb dMd_take_117 rfl (lv_at hl 2 rfl) ?_
      refine lv_imul hx hb dMd_take_118 ?_
      refine lv_ri (y := nI (16 * a)) (pk_mul _ _) ?_
      refine lv_iload_n hx hb dMd_take_119 rfl (lv_at hl 0 rfl) ?_
      refine lv_iadd hx hb dMd_take_120 ?_
      refine lv_ri (y := nI ((16 * a) + j)) (nI_add _ _) ?_
      refine vq_iald (k := ((16 * a) + j)) (f := m_cp (ma 5) (16 * b) (16 * a) j) hx hb hK hP 6 0 rfl rfl rfl (by omega) (by decide) dMd_take_121 ?_
      refine vq_iast (k := ((16 * b) + j)) (f := m_cp (ma 5) (16 * b) (16 * a) j) hx hb hK hP hD hS 6 0 rfl rfl rfl (by omega) (by decide) dMd_take_122 (fun H locs hP hD hS => ?_)
      have hP : va_P (dC, dI) vwCl (wM y y1 y2 y3 y4 y5 y6 y7 y8 y9 y10 cI (va_up mi 0 0) (va_up (va_up (va_up (va_up (va_up (va_up (va_up ma 0 (upd (ma 0) b (ma 0 a))) 1 (upd (ma 1) b (upd (ma 0) b (ma 0 a) a))) 2 (upd (ma 2) b (ma 2 a))) 3 (upd (ma 3) b (ma 3 a))) 4 (upd (ma 4) b (ma 4 a))) 6 (m_cp (ma 6) (16 * b) (16 * a) j)) 5 (upd (m_cp (ma 5) (16 * b) (16 * a) j) ((16 * b) + j) ((m_cp (ma 5) (16 * b) (16 * a) j) ((16 * a) + j))))) H := hP
      have hD : va_D A (wM y y1 y2 y3 y4 y5 y6 y7 y8 y9 y10 cI (va_up mi 0 0) (va_up (va_up (va_up (va_up (va_up (va_up (va_up ma 0 (upd (ma 0) b (ma 0 a))) 1 (upd (ma 1) b (upd (ma 0) b (ma 0 a) a))) 2 (upd (ma 2) b (ma 2 a))) 3 (upd (ma 3) b (ma 3 a))) 4 (upd (ma 4) b (ma 4 a))) 6 (m_cp (ma 6) (16 * b) (16 * a) j)) 5 (upd (m_cp (ma 5) (16 * b) (16 * a) j) ((16 * b) + j) ((m_cp (ma 5) (16 * b) (16 * a) j) ((16 * a) + j))))) := hD
      refine lv_aload_n hx hb dMd_take_123 rfl (lv_at hl 1 rfl) ?_
      refine va_get (D := (dC, dI)) (ci := 3) (v := .ref y7) (C := RMd) (T := TMd) (N := 17) hx hb hts inMd hown hK hP 0 rfl rfl 8 (by decide) (hts _ in_104) (fun _ h9 => h9) rfl dMd_take_124 ?_
      refine lv_bipush (v := nI 16) hx hb dMd_take_127 (by decide) ?_
      refine lv_iload_n hx hb dMd_take_129 rfl (lv_at hl 3 rfl) ?_
      refine lv_imul hx hb dMd_take_130 ?_
      refine lv_ri (y := nI (16 * b)) (pk_mul _ _) ?_
      refine lv_iload_n hx hb dMd_take_131 rfl (lv_at hl 0 rfl) ?_
      refine lv_iadd hx hb dMd_take_132 ?_
      refine lv_ri (y := nI ((16 * b) + j)) (nI_add _ _) ?_
      refine lv_aload_n hx hb dMd_take_133 rfl (lv_at hl 1 rfl) ?_
      refine va_get (D := (dC, dI)) (ci := 3) (v := .ref y7) (C := RMd) (T := TMd) (N := 17) hx hb hts inMd hown hK hP 0 rfl rfl 8 (by decide) (hts _ in_104) (fun _ h9 => h9) rfl dMd_take_134 ?_
      refine lv_bipush (v := nI 16) hx hb dMd_take_137 (by decide) ?_
      refine lv_iload_n hx hb dMd_take_139 rfl (lv_at hl 2 rfl) ?_
      refine lv_imul hx hb dMd_take_140 ?_
      refine lv_ri (y := nI (16 * a)) (pk_mul _ _) ?_
      refine lv_iload_n hx hb dMd_take_141 rfl (lv_at hl 0 rfl) ?_
      refine lv_iadd hx hb dMd_take_142 ?_
      refine lv_ri (y := nI ((16 * a) + j)) (nI_add _ _) ?_
      refine vq_iald (k := ((16 * a) + j)) (f := m_cp (ma 6) (16 * b) (16 * a) j) hx hb hK hP 7 0 rfl rfl rfl (by omega) (by decide) dMd_take_143 ?_
      refine vq_iast (k := ((16 * b) + j)) (f := m_cp (ma 6) (16 * b) (16 * a) j) hx hb hK hP hD hS 7 0 rfl rfl rfl (by omega) (by decide) dMd_take_144 (fun H locs hP hD hS => ?_)
      have hP : va_P (dC, dI) vwCl (wM y y1 y2 y3 y4 y5 y6 y7 y8 y9 y10 cI (va_up mi 0 0) (va_up (va_up (va_up (va_up (va_up (va_up (va_up ma 0 (upd (ma 0) b (ma 0 a))) 1 (upd (ma 1) b (upd (ma 0) b (ma 0 a) a))) 2 (upd (ma 2) b (ma 2 a))) 3 (upd (ma 3) b (ma 3 a))) 4 (upd (ma 4) b (ma 4 a))) 5 (upd (m_cp (ma 5) (16 * b) (16 * a) j) ((16 * b) + j) ((m_cp (ma 5) (16 * b) (16 * a) j) ((16 * a) + j)))) 6 (upd (m_cp (ma 6) (16 * b) (16 * a) j) ((16 * b) + j) ((m_cp (ma 6) (16 * b) (16 * a) j) ((16 * a) + j))))) H := hP
      have hD : va_D A (wM y y1 y2 y3 y4 y5 y6 y7 y8 y9 y10 cI (va_up mi 0 0) (va_up (va_up (va_up (va_up (va_up (va_up (va_up ma 0 (upd (ma 0) b (ma 0 a))) 1 (upd (ma 1) b (upd (ma 0) b (ma 0 a) a))) 2 (upd (ma 2) b (ma 2 a))) 3 (upd (ma 3) b (ma 3 a))) 4 (upd (ma 4) b (ma 4 a))) 5 (upd (m_cp (ma 5) (16 * b) (16 * a) j) ((16 * b) + j) ((m_cp (ma 5) (16 * b) (16 * a) j) ((16 * a) + j)))) 6 (upd (m_cp (ma 6) (16 * b) (16 * a) j) ((16 * b) + j) ((m_cp (ma 6) (16 * b) (16 * a) j) ((16 * a) + j))))) := hD
      refine lv_iinc (v := nI (j + 1)) (lv' := [(3, .int (nI (j + 1))), (0, .ref y), (1, .int (nI a)), (2, .int (nI b))]) hx hb dMd_take_145 hl (k := 0) rfl (by first | exact nI_1 _ | (show _ + (1 : Int32) = _; exact nI_1 _)) (by decide) rfl (fun ls hl => ?_)
      refine lv_goto (tgt := 95) hx hb dMd_take_148 (by decide) ?_
      have hl9 : lv_has ls 4 [(3, .int (nI (j + 1))), (0, .ref y), (1, .int (nI a)), (2, .int (nI b))] := by first | exact lv_sub hl [0, 1, 2, 3] rfl | (simp only [m_cp, if_pos c_5]; exact lv_sub hl [0, 1, 2, 3] rfl)
      have hP9 : va_P (dC, dI) vwCl (wM y y1 y2 y3 y4 y5 y6 y7 y8 y9 y10 cI (va_up mi 0 0) (va_up (va_up (va_up (va_up (va_up (va_up (va_up ma 0 (upd (ma 0) b (ma 0 a))) 1 (upd (ma 1) b (upd (ma 0) b (ma 0 a) a))) 2 (upd (ma 2) b (ma 2 a))) 3 (upd (ma 3) b (ma 3 a))) 4 (upd (ma 4) b (ma 4 a))) 5 (m_cp (ma 5) (16 * b) (16 * a) (j + 1))) 6 (m_cp (ma 6) (16 * b) (16 * a) (j + 1)))) H := by first | exact hP | (simp only [m_cp, if_pos c_5]; exact hP)
      have hD9 : va_D A (wM y y1 y2 y3 y4 y5 y6 y7 y8 y9 y10 cI (va_up mi 0 0) (va_up (va_up (va_up (va_up (va_up (va_up (va_up ma 0 (upd (ma 0) b (ma 0 a))) 1 (upd (ma 1) b (upd (ma 0) b (ma 0 a) a))) 2 (upd (ma 2) b (ma 2 a))) 3 (upd (ma 3) b (ma 3 a))) 4 (upd (ma 4) b (ma 4 a))) 5 (m_cp (ma 5) (16 * b) (16 * a) (j + 1))) 6 (m_cp (ma 6) (16 * b) (16 * a) (j + 1)))) := by first | exact hD | (simp only [m_cp, if_pos c_5]; exact hD)
      exact ih (j + 1, H, locs, ls) ⟨hj, hP9, hD9, hS, hl9⟩ (by show 16 - (j + 1) < 16 - j; omega)
  · skip
    refine lv_iconst (v := 0) hx hb dMd_take_31 (by decide) ?_
    have hP9 : va_P (dC, dI) vwCl (wM y y1 y2 y3 y4 y5 y6 y7 y8 y9 y10 cI (va_up mi 0 0) ((m_tk2 ma a b).2)) H := by simp only [m_tk2, if_neg c_5]; exact hP
    have hD9 : va_D A (wM y y1 y2 y3 y4 y5 y6 y7 y8 y9 y10 cI (va_up mi 0 0) ((m_tk2 ma a b).2)) := by simp only [m_tk2, if_neg c_5]; exact hD
    exact W.zret (v := 0) (ty := .boolean) hx hb hr rfl (fun t ht hW => ⟨⟨0, (), rfl, by simp only [m_tk2, if_neg c_5], by rw [ht]; exact hP9, va_K.moved hW.alike hK, hD9⟩, hS.F ht⟩) hS.2.2 dMd_take_32
set_option maxHeartbeats 4000000 in
set_option maxRecDepth 100000 in
/-- take(x, z), no fold x -/
theorem k_M_takeN (l : Launch) (dC : Nat → ClassId) (dI : Nat → Nat → Nat) (sz : Nat) (y y1 y2 y3 y4 y5 y6 y7 y8 y9 y10 : Nat) (cI : ClassId) (mi : Nat → Int32) (ma : Nat → Nat → Int32) (x z : Int32) (hfx : s_lk x = 1) : Met l yMd_take wsMd_take ({ frames := 3, cells := 0, slots := 0, locals := 120 }) (va_Pc [.ref y, .int x, .int z] (fun U => U.heap.size = sz ∧ va_P (dC, dI) vwCl (wM y y1 y2 y3 y4 y5 y6 y7 y8 y9 y10 cI mi ma) U.heap ∧ va_K (dC, dI) vwCl [(cI, .int)] U ∧ va_D (fun _ => True) (wM y y1 y2 y3 y4 y5 y6 y7 y8 y9 y10 cI mi ma))) (va_Qi (fun (r : Int32) (_ : Unit) => r = 0) (fun _ t => va_P (dC, dI) vwCl (wM y y1 y2 y3 y4 y5 y6 y7 y8 y9 y10 cI (va_up mi 0 1) ma) t.heap ∧ va_K (dC, dI) vwCl [(cI, .int)] t ∧ va_D (va_A (wM y y1 y2 y3 y4 y5 y6 y7 y8 y9 y10 cI mi ma) sz) (wM y y1 y2 y3 y4 y5 y6 y7 y8 y9 y10 cI (va_up mi 0 1) ma)) (va_A (wM y y1 y2 y3 y4 y5 y6 y7 y8 y9 y10 cI mi ma) sz)) 0 0 (va_A (wM y y1 y2 y3 y4 y5 y6 y7 y8 y9 y10 cI mi ma) sz) := by
  refine Met.ofW (cc := cMd_take) (maxL := 4) (ret := (some .boolean)) (by decide) rfl ?_
  intro p e s m args below meth c s₁ B hml hv
  obtain ⟨rfl, hsz, hP, hK, hD0⟩ := hv
  have hx := B.exec
  have hb := B.bytes
  have hr := B.returns
  have hts0 := atoms_spec (ws := wsMd_take) B.pre
  have hts := fun (w : Cond) (h : w ∈ lw_g) => hts0 w (List.mem_cons_of_mem _ h)
  have hown : s.vm.findClass RMd = some m.cls := findClass_of_methodNamed B.named
  have hlocks := B.notSynchronized
  subst hsz
  have hD := hD0.self (sz := s.heap.size)
  generalize hAe : va_A (wM y y1 y2 y3 y4 y5 y6 y7 y8 y9 y10 cI mi ma) s.heap.size = A at hD ⊢
  have hA : ∀ q : Nat, s.heap.size ≤ q → A q := fun q h => by rw [← hAe]; exact Or.inr h
  have hS : va_S A s.heap s.heap [] := va_S.rf
  have hP : va_P (dC, dI) vwCl (wM y y1 y2 y3 y4 y5 y6 y7 y8 y9 y10 cI mi ma) s.heap := hP
  have hl := lv_entry ([.ref y, .int x, .int z]) (n := 4) (Nat.le_of_ble_eq_true rfl)
  rw [lg_entry_eq]
  generalize (lg_sl ([.ref y, .int x, .int z]) ++ List.replicate (4 - (lg_sl ([.ref y, .int x, .int z])).length) Slot.unset).toArray = ls at hl ⊢
  have hl : lv_has ls 4 [(0, .ref y), (1, .int x), (2, .int z)] := hl
  refine lv_aload_n hx hb dMd_take_0 rfl (lv_at hl 0 rfl) ?_
  refine lv_iload_n hx hb dMd_take_1 rfl (lv_at hl 1 rfl) ?_
  have hPc := hP.sub (ws' := (wM y y1 y2 y3 y4 y5 y6 y7 y8 y9 y10 cI mi ma)) [0, 1, 2, 3, 4, 5, 6, 7, 8, 9, 10] rfl
  have hDc := hD.sub (ws' := (wM y y1 y2 y3 y4 y5 y6 y7 y8 y9 y10 cI mi ma)) [0, 1, 2, 3, 4, 5, 6, 7, 8, 9, 10] (by decide) rfl
  have hKc := hK.sub (tys' := [(cI, .int)]) [0] rfl
  have hFc := va_free (wc := (wM y y1 y2 y3 y4 y5 y6 y7 y8 y9 y10 cI mi ma)) hD hS hA [0, 1, 2, 3, 4, 5, 6, 7, 8, 9, 10] rfl
  refine va_calli (va_runV (As := [.int x]) (rest := []) ⟨hx, hb, hml, hown, hts⟩ (k_M_lacks1 l dC dI s.heap.size y y1 y2 y3 y4 y5 y6 y7 y8 y9 y10 cI mi ma x hfx) (cwV 1 hts (gd_V in_91 in_93 in_94 in_74 in_92) rfl rfl rfl (by decide +kernel) ⟨Nat.le_of_ble_eq_true rfl, Nat.le_of_ble_eq_true rfl⟩) ⟨fun a U g mk q => by obtain ⟨q0, q1, qP, qK, qD⟩ := q; exact ⟨q0, q1, qP, va_K.moved (u := U) (U := U.calling g mk a) (Vm.Alike.refl U.vm) qK, qD⟩, va_recv hKc hPc (ci := 3) (q0 := 0) rfl rfl, fun U hU hW => ⟨rfl, by rw [hU], by rw [hU]; exact hPc, va_K.moved hW.alike hKc, hDc.weaken (fun _ _ _ _ => trivial)⟩⟩ rfl rfl hl.1 rfl (lv_room (Nat.le_of_ble_eq_true rfl)) dMd_take_2 ⟨Nat.le_of_ble_eq_true rfl, Nat.le_of_ble_eq_true rfl⟩) hS (fun q _ h => hFc q h) hFc (fun r_1 u t H1 locs ht hvm hw hB hz1 hk1 hS => ?_)
  obtain ⟨hP1, hK1, hD1⟩ := hB
  rw [ht] at hP1
  obtain ⟨hP, hD⟩ := va_join (wr := []) (w1 := (wM y y1 y2 y3 y4 y5 y6 y7 y8 y9 y10 cI (va_up mi 0 1) ma)) hP hD [0, 1, 2, 3, 4, 5, 6, 7, 8, 9, 10] [] rfl rfl (by decide) (by decide) hk1 hFc hP1 hD1
  generalize H1 = H at hP hS ⊢
  have hP : va_P (dC, dI) vwCl (wM y y1 y2 y3 y4 y5 y6 y7 y8 y9 y10 cI (va_up mi 0 1) ma) H := hP
  have hD : va_D A (wM y y1 y2 y3 y4 y5 y6 y7 y8 y9 y10 cI (va_up mi 0 1) ma) := hD
  have hw : r_1 = 1 := hw
  subst hw
  refine lv_if_ne (tgt := 31) hx hb dMd_take_5 (by decide) (fun _ => ?_) (fun c_2 => absurd c_2 (by decide))
  refine lv_iconst (v := 0) hx hb dMd_take_31 (by decide) ?_
  have hP9 : va_P (dC, dI) vwCl (wM y y1 y2 y3 y4 y5 y6 y7 y8 y9 y10 cI (va_up mi 0 1) ma) H := by exact hP
  have hD9 : va_D A (wM y y1 y2 y3 y4 y5 y6 y7 y8 y9 y10 cI (va_up mi 0 1) ma) := by exact hD
  exact W.zret (v := 0) (ty := .boolean) hx hb hr rfl (fun t ht hW => ⟨⟨0, (), rfl, rfl, by rw [ht]; exact hP9, va_K.moved hW.alike hK, hD9⟩, hS.F ht⟩) hS.2.2 dMd_take_32
set_option maxHeartbeats 4000000 in
set_option maxRecDepth 100000 in
/-- take(a, x), no fold x -/
theorem k_M_takeN2 (l : Launch) (dC : Nat → ClassId) (dI : Nat → Nat → Nat) (sz : Nat) (y y1 y2 y3 y4 y5 y6 y7 y8 y9 y10 : Nat) (cI : ClassId) (mi : Nat → Int32) (ma : Nat → Nat → Int32) (a : Nat) (ha4 : a < 4) (x : Int32) (hfx : s_lk x = 1) : Met l yMd_take wsMd_take ({ frames := 3, cells := 0, slots := 0, locals := 120 }) (va_Pc [.ref y, .int (nI a), .int x] (fun U => U.heap.size = sz ∧ va_P (dC, dI) vwCl (wM y y1 y2 y3 y4 y5 y6 y7 y8 y9 y10 cI mi ma) U.heap ∧ va_K (dC, dI) vwCl [(cI, .int)] U ∧ va_D (fun _ => True) (wM y y1 y2 y3 y4 y5 y6 y7 y8 y9 y10 cI mi ma))) (va_Qi (fun (r : Int32) (_ : Unit) => r = 0) (fun _ t => va_P (dC, dI) vwCl (wM y y1 y2 y3 y4 y5 y6 y7 y8 y9 y10 cI (va_up mi 0 1) ma) t.heap ∧ va_K (dC, dI) vwCl [(cI, .int)] t ∧ va_D (va_A (wM y y1 y2 y3 y4 y5 y6 y7 y8 y9 y10 cI mi ma) sz) (wM y y1 y2 y3 y4 y5 y6 y7 y8 y9 y10 cI (va_up mi 0 1) ma)) (va_A (wM y y1 y2 y3 y4 y5 y6 y7 y8 y9 y10 cI mi ma) sz)) 0 0 (va_A (wM y y1 y2 y3 y4 y5 y6 y7 y8 y9 y10 cI mi ma) sz) := by
  refine Met.ofW (cc := cMd_take) (maxL := 4) (ret := (some .boolean)) (by decide) rfl ?_
  intro p e s m args below meth c s₁ B hml hv
  obtain ⟨rfl, hsz, hP, hK, hD0⟩ := hv
  have hx := B.exec
  have hb := B.bytes
  have hr := B.returns
  have hts0 := atoms_spec (ws := wsMd_take) B.pre
  have hts := fun (w : Cond) (h : w ∈ lw_g) => hts0 w (List.mem_cons_of_mem _ h)
  have hown : s.vm.findClass RMd = some m.cls := findClass_of_methodNamed B.named
  have hlocks := B.notSynchronized
  subst hsz
  have hD := hD0.self (sz := s.heap.size)
  generalize hAe : va_A (wM y y1 y2 y3 y4 y5 y6 y7 y8 y9 y10 cI mi ma) s.heap.size = A at hD ⊢
  have hA : ∀ q : Nat, s.heap.size ≤ q → A q := fun q h => by rw [← hAe]; exact Or.inr h
  have hS : va_S A s.heap s.heap [] := va_S.rf
  have hP : va_P (dC, dI) vwCl (wM y y1 y2 y3 y4 y5 y6 y7 y8 y9 y10 cI mi ma) s.heap := hP
  have hl := lv_entry ([.ref y, .int (nI a), .int x]) (n := 4) (Nat.le_of_ble_eq_true rfl)
  rw [lg_entry_eq]
  generalize (lg_sl ([.ref y, .int (nI a), .int x]) ++ List.replicate (4 - (lg_sl ([.ref y, .int (nI a), .int x])).length) Slot.unset).toArray = ls at hl ⊢
  have hl : lv_has ls 4 [(0, .ref y), (1, .int (nI a)), (2, .int x)] := hl
  refine lv_aload_n hx hb dMd_take_0 rfl (lv_at hl 0 rfl) ?_
  refine lv_iload_n hx hb dMd_take_1 rfl (lv_at hl 1 rfl) ?_
  have hPc := hP.sub (ws' := (wM y y1 y2 y3 y4 y5 y6 y7 y8 y9 y10 cI mi ma)) [0, 1, 2, 3, 4, 5, 6, 7, 8, 9, 10] rfl
  have hDc := hD.sub (ws' := (wM y y1 y2 y3 y4 y5 y6 y7 y8 y9 y10 cI mi ma)) [0, 1, 2, 3, 4, 5, 6, 7, 8, 9, 10] (by decide) rfl
  have hKc := hK.sub (tys' := [(cI, .int)]) [0] rfl
  have hFc := va_free (wc := (wM y y1 y2 y3 y4 y5 y6 y7 y8 y9 y10 cI mi ma)) hD hS hA [0, 1, 2, 3, 4, 5, 6, 7, 8, 9, 10] rfl
  refine va_calli (va_runV (As := [.int (nI a)]) (rest := []) ⟨hx, hb, hml, hown, hts⟩ (k_M_lacks0 l dC dI s.heap.size y y1 y2 y3 y4 y5 y6 y7 y8 y9 y10 cI mi ma a ha4) (cwV 1 hts (gd_V in_91 in_93 in_94 in_74 in_92) rfl rfl rfl (by decide +kernel) ⟨Nat.le_of_ble_eq_true rfl, Nat.le_of_ble_eq_true rfl⟩) ⟨fun a U g mk q => by obtain ⟨q0, q1, qP, qK, qD⟩ := q; exact ⟨q0, q1, qP, va_K.moved (u := U) (U := U.calling g mk a) (Vm.Alike.refl U.vm) qK, qD⟩, va_recv hKc hPc (ci := 3) (q0 := 0) rfl rfl, fun U hU hW => ⟨rfl, by rw [hU], by rw [hU]; exact hPc, va_K.moved hW.alike hKc, hDc.weaken (fun _ _ _ _ => trivial)⟩⟩ rfl rfl hl.1 rfl (lv_room (Nat.le_of_ble_eq_true rfl)) dMd_take_2 ⟨Nat.le_of_ble_eq_true rfl, Nat.le_of_ble_eq_true rfl⟩) hS (fun q _ h => hFc q h) hFc (fun r_1 u t H1 locs ht hvm hw hB hz1 hk1 hS => ?_)
  obtain ⟨hP1, hK1, hD1⟩ := hB
  rw [ht] at hP1
  obtain ⟨hP, hD⟩ := va_join (wr := []) (w1 := (wM y y1 y2 y3 y4 y5 y6 y7 y8 y9 y10 cI (va_up mi 0 0) ma)) hP hD [0, 1, 2, 3, 4, 5, 6, 7, 8, 9, 10] [] rfl rfl (by decide) (by decide) hk1 hFc hP1 hD1
  generalize H1 = H at hP hS ⊢
  have hP : va_P (dC, dI) vwCl (wM y y1 y2 y3 y4 y5 y6 y7 y8 y9 y10 cI (va_up mi 0 0) ma) H := hP
  have hD : va_D A (wM y y1 y2 y3 y4 y5 y6 y7 y8 y9 y10 cI (va_up mi 0 0) ma) := hD
  have hw : r_1 = 0 := hw
  subst hw
  refine lv_if_ne (tgt := 31) hx hb dMd_take_5 (by decide) (fun c_2 => absurd c_2 (by decide)) (fun _ => ?_)
  refine lv_aload_n hx hb dMd_take_8 rfl (lv_at hl 0 rfl) ?_
  refine lv_iload_n hx hb dMd_take_9 rfl (lv_at hl 2 rfl) ?_
  have hPc := hP.sub (ws' := (wM y y1 y2 y3 y4 y5 y6 y7 y8 y9 y10 cI (va_up mi 0 0) ma)) [0, 1, 2, 3, 4, 5, 6, 7, 8, 9, 10] rfl
  have hDc := hD.sub (ws' := (wM y y1 y2 y3 y4 y5 y6 y7 y8 y9 y10 cI (va_up mi 0 0) ma)) [0, 1, 2, 3, 4, 5, 6, 7, 8, 9, 10] (by decide) rfl
  have hKc := hK.sub (tys' := [(cI, .int)]) [0] rfl
  have hFc := va_free (wc := (wM y y1 y2 y3 y4 y5 y6 y7 y8 y9 y10 cI (va_up mi 0 0) ma)) hD hS hA [0, 1, 2, 3, 4, 5, 6, 7, 8, 9, 10] rfl
  refine va_calli (va_runV (As := [.int x]) (rest := []) ⟨hx, hb, hml, hown, hts⟩ (k_M_lacks1 l dC dI H.size y y1 y2 y3 y4 y5 y6 y7 y8 y9 y10 cI (va_up mi 0 0) ma x hfx) (cwV 1 hts (gd_V in_91 in_93 in_94 in_74 in_92) rfl rfl rfl (by decide +kernel) ⟨Nat.le_of_ble_eq_true rfl, Nat.le_of_ble_eq_true rfl⟩) ⟨fun a U g mk q => by obtain ⟨q0, q1, qP, qK, qD⟩ := q; exact ⟨q0, q1, qP, va_K.moved (u := U) (U := U.calling g mk a) (Vm.Alike.refl U.vm) qK, qD⟩, va_recv hKc hPc (ci := 3) (q0 := 0) rfl rfl, fun U hU hW => ⟨rfl, by rw [hU], by rw [hU]; exact hPc, va_K.moved hW.alike hKc, hDc.weaken (fun _ _ _ _ => trivial)⟩⟩ rfl rfl hl.1 rfl (lv_room (Nat.le_of_ble_eq_true rfl)) dMd_take_10 ⟨Nat.le_of_ble_eq_true rfl, Nat.le_of_ble_eq_true rfl⟩) hS (fun q _ h => hFc q h) hFc (fun r_3 u t H1 locs ht hvm hw hB hz1 hk1 hS => ?_)
  obtain ⟨hP1, hK1, hD1⟩ := hB
  rw [ht] at hP1
  obtain ⟨hP, hD⟩ := va_join (wr := []) (w1 := (wM y y1 y2 y3 y4 y5 y6 y7 y8 y9 y10 cI (va_up mi 0 1) ma)) hP hD [0, 1, 2, 3, 4, 5, 6, 7, 8, 9, 10] [] rfl rfl (by decide) (by decide) hk1 hFc hP1 hD1
  generalize H1 = H at hP hS ⊢
  have hP : va_P (dC, dI) vwCl (wM y y1 y2 y3 y4 y5 y6 y7 y8 y9 y10 cI (va_up mi 0 1) ma) H := hP
  have hD : va_D A (wM y y1 y2 y3 y4 y5 y6 y7 y8 y9 y10 cI (va_up mi 0 1) ma) := hD
  have hw : r_3 = 1 := hw
  subst hw
  refine lv_if_ne (tgt := 31) hx hb dMd_take_13 (by decide) (fun _ => ?_) (fun c_4 => absurd c_4 (by decide))
  refine lv_iconst (v := 0) hx hb dMd_take_31 (by decide) ?_
  have hP9 : va_P (dC, dI) vwCl (wM y y1 y2 y3 y4 y5 y6 y7 y8 y9 y10 cI (va_up mi 0 1) ma) H := by exact hP
  have hD9 : va_D A (wM y y1 y2 y3 y4 y5 y6 y7 y8 y9 y10 cI (va_up mi 0 1) ma) := by exact hD
  exact W.zret (v := 0) (ty := .boolean) hx hb hr rfl (fun t ht hW => ⟨⟨0, (), rfl, rfl, by rw [ht]; exact hP9, va_K.moved hW.alike hK, hD9⟩, hS.F ht⟩) hS.2.2 dMd_take_32
set_option maxHeartbeats 4000000 in
set_option maxRecDepth 100000 in
/-- clear(k) -/
theorem k_M_clear (l : Launch) (dC : Nat → ClassId) (dI : Nat → Nat → Nat) (sz : Nat) (y y1 y2 y3 y4 y5 y6 y7 y8 y9 y10 : Nat) (cI : ClassId) (mi : Nat → Int32) (ma : Nat → Nat → Int32) (k : Nat) (hk4 : k < 4) : Met l yMd_clear wsMd_clear ({ frames := 3, cells := 0, slots := 0, locals := 120 }) (va_Pc [.ref y, .int (nI k)] (fun U => U.heap.size = sz ∧ va_P (dC, dI) vwCl (wM y y1 y2 y3 y4 y5 y6 y7 y8 y9 y10 cI mi ma) U.heap ∧ va_K (dC, dI) vwCl [(cI, .int)] U ∧ va_D (fun _ => True) (wM y y1 y2 y3 y4 y5 y6 y7 y8 y9 y10 cI mi ma))) (va_Qv (fun (_ : Unit) => True) (fun _ t => va_P (dC, dI) vwCl (wM y y1 y2 y3 y4 y5 y6 y7 y8 y9 y10 cI (va_up mi 0 0) (m_cl ma k)) t.heap ∧ va_K (dC, dI) vwCl [(cI, .int)] t ∧ va_D (va_A (wM y y1 y2 y3 y4 y5 y6 y7 y8 y9 y10 cI mi ma) sz) (wM y y1 y2 y3 y4 y5 y6 y7 y8 y9 y10 cI (va_up mi 0 0) (m_cl ma k))) (va_A (wM y y1 y2 y3 y4 y5 y6 y7 y8 y9 y10 cI mi ma) sz)) 0 0 (va_A (wM y y1 y2 y3 y4 y5 y6 y7 y8 y9 y10 cI mi ma) sz) := by
  refine Met.ofW (cc := cMd_clear) (maxL := 3) (ret := none) (by decide) rfl ?_
  intro p e s m args below meth c s₁ B hml hv
  obtain ⟨rfl, hsz, hP, hK, hD0⟩ := hv
  have hx := B.exec
  have hb := B.bytes
  have hr := B.returns
  have hts0 := atoms_spec (ws := wsMd_clear) B.pre
  have hts := fun (w : Cond) (h : w ∈ lw_g) => hts0 w (List.mem_cons_of_mem _ h)
  have hown : s.vm.findClass RMd = some m.cls := findClass_of_methodNamed B.named
  have hlocks := B.notSynchronized
  subst hsz
  have hD := hD0.self (sz := s.heap.size)
  generalize hAe : va_A (wM y y1 y2 y3 y4 y5 y6 y7 y8 y9 y10 cI mi ma) s.heap.size = A at hD ⊢
  have hA : ∀ q : Nat, s.heap.size ≤ q → A q := fun q h => by rw [← hAe]; exact Or.inr h
  have hS : va_S A s.heap s.heap [] := va_S.rf
  have hP : va_P (dC, dI) vwCl (wM y y1 y2 y3 y4 y5 y6 y7 y8 y9 y10 cI mi ma) s.heap := hP
  have hl := lv_entry ([.ref y, .int (nI k)]) (n := 3) (Nat.le_of_ble_eq_true rfl)
  rw [lg_entry_eq]
  generalize (lg_sl ([.ref y, .int (nI k)]) ++ List.replicate (3 - (lg_sl ([.ref y, .int (nI k)])).length) Slot.unset).toArray = ls at hl ⊢
  have hl : lv_has ls 3 [(0, .ref y), (1, .int (nI k))] := hl
  refine lv_aload_n hx hb dMd_clear_0 rfl (lv_at hl 0 rfl) ?_
  refine lv_iload_n hx hb dMd_clear_1 rfl (lv_at hl 1 rfl) ?_
  have hPc := hP.sub (ws' := (wM y y1 y2 y3 y4 y5 y6 y7 y8 y9 y10 cI mi ma)) [0, 1, 2, 3, 4, 5, 6, 7, 8, 9, 10] rfl
  have hDc := hD.sub (ws' := (wM y y1 y2 y3 y4 y5 y6 y7 y8 y9 y10 cI mi ma)) [0, 1, 2, 3, 4, 5, 6, 7, 8, 9, 10] (by decide) rfl
  have hKc := hK.sub (tys' := [(cI, .int)]) [0] rfl
  have hFc := va_free (wc := (wM y y1 y2 y3 y4 y5 y6 y7 y8 y9 y10 cI mi ma)) hD hS hA [0, 1, 2, 3, 4, 5, 6, 7, 8, 9, 10] rfl
  refine va_calli (va_runV (As := [.int (nI k)]) (rest := []) ⟨hx, hb, hml, hown, hts⟩ (k_M_lacks0 l dC dI s.heap.size y y1 y2 y3 y4 y5 y6 y7 y8 y9 y10 cI mi ma k hk4) (cwV 1 hts (gd_V in_91 in_93 in_94 in_74 in_92) rfl rfl rfl (by decide +kernel) ⟨Nat.le_of_ble_eq_true rfl, Nat.le_of_ble_eq_true rfl⟩) ⟨fun a U g mk q => by obtain ⟨q0, q1, qP, qK, qD⟩ := q; exact ⟨q0, q1, qP, va_K.moved (u := U) (U := U.calling g mk a) (Vm.Alike.refl U.vm) qK, qD⟩, va_recv hKc hPc (ci := 3) (q0 := 0) rfl rfl, fun U hU hW => ⟨rfl, by rw [hU], by rw [hU]; exact hPc, va_K.moved hW.alike hKc, hDc.weaken (fun _ _ _ _ => trivial)⟩⟩ rfl rfl hl.1 rfl (lv_room (Nat.le_of_ble_eq_true rfl)) dMd_clear_2 ⟨Nat.le_of_ble_eq_true rfl, Nat.le_of_ble_eq_true rfl⟩) hS (fun q _ h => hFc q h) hFc (fun r_1 u t H1 locs ht hvm hw hB hz1 hk1 hS => ?_)
  obtain ⟨hP1, hK1, hD1⟩ := hB
  rw [ht] at hP1
  obtain ⟨hP, hD⟩ := va_join (wr := []) (w1 := (wM y y1 y2 y3 y4 y5 y6 y7 y8 y9 y10 cI (va_up mi 0 0) ma)) hP hD [0, 1, 2, 3, 4, 5, 6, 7, 8, 9, 10] [] rfl rfl (by decide) (by decide) hk1 hFc hP1 hD1
  generalize H1 = H at hP hS ⊢
  have hP : va_P (dC, dI) vwCl (wM y y1 y2 y3 y4 y5 y6 y7 y8 y9 y10 cI (va_up mi 0 0) ma) H := hP
  have hD : va_D A (wM y y1 y2 y3 y4 y5 y6 y7 y8 y9 y10 cI (va_up mi 0 0) ma) := hD
  have hw : r_1 = 0 := hw
  subst hw
  refine lv_if_eq (tgt := 9) hx hb dMd_clear_5 (by decide) (fun _ => ?_) (fun c_2 => absurd c_2 (by decide))
  refine lv_aload_n hx hb dMd_clear_9 rfl (lv_at hl 0 rfl) ?_
  refine va_get (D := (dC, dI)) (ci := 3) (v := .ref y1) (C := RMd) (T := TMd) (N := 17) hx hb hts inMd hown hK hP 0 rfl rfl 2 (by decide) (hts _ in_82) (fun _ h9 => h9) rfl dMd_clear_10 ?_
  refine lv_iload_n hx hb dMd_clear_13 rfl (lv_at hl 1 rfl) ?_
  refine lv_iconst (v := 0) hx hb dMd_clear_14 (by decide) ?_
  refine vq_iast (k := k) (f := ma 0) hx hb hK hP hD hS 1 0 rfl rfl rfl (by omega) (by decide) dMd_clear_15 (fun H locs hP hD hS => ?_)
  have hP : va_P (dC, dI) vwCl (wM y y1 y2 y3 y4 y5 y6 y7 y8 y9 y10 cI (va_up mi 0 0) (va_up ma 0 (upd (ma 0) k 0))) H := hP
  have hD : va_D A (wM y y1 y2 y3 y4 y5 y6 y7 y8 y9 y10 cI (va_up mi 0 0) (va_up ma 0 (upd (ma 0) k 0))) := hD
  refine lv_aload_n hx hb dMd_clear_16 rfl (lv_at hl 0 rfl) ?_
  refine va_get (D := (dC, dI)) (ci := 3) (v := .ref y2) (C := RMd) (T := TMd) (N := 17) hx hb hts inMd hown hK hP 0 rfl rfl 3 (by decide) (hts _ in_102) (fun _ h9 => h9) rfl dMd_clear_17 ?_
  refine lv_iload_n hx hb dMd_clear_20 rfl (lv_at hl 1 rfl) ?_
  refine lv_iconst (v := 0) hx hb dMd_clear_21 (by decide) ?_
  refine vq_iast (k := k) (f := ma 1) hx hb hK hP hD hS 2 0 rfl rfl rfl (by omega) (by decide) dMd_clear_22 (fun H locs hP hD hS => ?_)
  have hP : va_P (dC, dI) vwCl (wM y y1 y2 y3 y4 y5 y6 y7 y8 y9 y10 cI (va_up mi 0 0) (va_up (va_up ma 0 (upd (ma 0) k 0)) 1 (upd (ma 1) k 0))) H := hP
  have hD : va_D A (wM y y1 y2 y3 y4 y5 y6 y7 y8 y9 y10 cI (va_up mi 0 0) (va_up (va_up ma 0 (upd (ma 0) k 0)) 1 (upd (ma 1) k 0))) := hD
  refine lv_aload_n hx hb dMd_clear_23 rfl (lv_at hl 0 rfl) ?_
  refine va_get (D := (dC, dI)) (ci := 3) (v := .ref y3) (C := RMd) (T := TMd) (N := 17) hx hb hts inMd hown hK hP 0 rfl rfl 4 (by decide) (hts _ in_99) (fun _ h9 => h9) rfl dMd_clear_24 ?_
  refine lv_iload_n hx hb dMd_clear_27 rfl (lv_at hl 1 rfl) ?_
  refine lv_iconst (v := 0) hx hb dMd_clear_28 (by decide) ?_
  refine vq_iast (k := k) (f := ma 2) hx hb hK hP hD hS 3 0 rfl rfl rfl (by omega) (by decide) dMd_clear_29 (fun H locs hP hD hS => ?_)
  have hP : va_P (dC, dI) vwCl (wM y y1 y2 y3 y4 y5 y6 y7 y8 y9 y10 cI (va_up mi 0 0) (va_up (va_up (va_up ma 0 (upd (ma 0) k 0)) 1 (upd (ma 1) k 0)) 2 (upd (ma 2) k 0))) H := hP
  have hD : va_D A (wM y y1 y2 y3 y4 y5 y6 y7 y8 y9 y10 cI (va_up mi 0 0) (va_up (va_up (va_up ma 0 (upd (ma 0) k 0)) 1 (upd (ma 1) k 0)) 2 (upd (ma 2) k 0))) := hD
  refine lv_aload_n hx hb dMd_clear_30 rfl (lv_at hl 0 rfl) ?_
  refine va_get (D := (dC, dI)) (ci := 3) (v := .ref y4) (C := RMd) (T := TMd) (N := 17) hx hb hts inMd hown hK hP 0 rfl rfl 5 (by decide) (hts _ in_100) (fun _ h9 => h9) rfl dMd_clear_31 ?_
  refine lv_iload_n hx hb dMd_clear_34 rfl (lv_at hl 1 rfl) ?_
  refine lv_iconst (v := 0) hx hb dMd_clear_35 (by decide) ?_
  refine vq_iast (k := k) (f := ma 3) hx hb hK hP hD hS 4 0 rfl rfl rfl (by omega) (by decide) dMd_clear_36 (fun H locs hP hD hS => ?_)
  have hP : va_P (dC, dI) vwCl (wM y y1 y2 y3 y4 y5 y6 y7 y8 y9 y10 cI (va_up mi 0 0) (va_up (va_up (va_up (va_up ma 0 (upd (ma 0) k 0)) 1 (upd (ma 1) k 0)) 2 (upd (ma 2) k 0)) 3 (upd (ma 3) k 0))) H := hP
  have hD : va_D A (wM y y1 y2 y3 y4 y5 y6 y7 y8 y9 y10 cI (va_up mi 0 0) (va_up (va_up (va_up (va_up ma 0 (upd (ma 0) k 0)) 1 (upd (ma 1) k 0)) 2 (upd (ma 2) k 0)) 3 (upd (ma 3) k 0))) := hD
  refine lv_aload_n hx hb dMd_clear_37 rfl (lv_at hl 0 rfl) ?_
  refine va_get (D := (dC, dI)) (ci := 3) (v := .ref y5) (C := RMd) (T := TMd) (N := 17) hx hb hts inMd hown hK hP 0 rfl rfl 6 (by decide) (hts _ in_101) (fun _ h9 => h9) rfl dMd_clear_38 ?_
  refine lv_iload_n hx hb dMd_clear_41 rfl (lv_at hl 1 rfl) ?_
  refine lv_iconst (v := 0) hx hb dMd_clear_42 (by decide) ?_
  refine vq_iast (k := k) (f := ma 4) hx hb hK hP hD hS 5 0 rfl rfl rfl (by omega) (by decide) dMd_clear_43 (fun H locs hP hD hS => ?_)
  have hP : va_P (dC, dI) vwCl (wM y y1 y2 y3 y4 y5 y6 y7 y8 y9 y10 cI (va_up mi 0 0) (va_up (va_up (va_up (va_up (va_up ma 0 (upd (ma 0) k 0)) 1 (upd (ma 1) k 0)) 2 (upd (ma 2) k 0)) 3 (upd (ma 3) k 0)) 4 (upd (ma 4) k 0))) H := hP
  have hD : va_D A (wM y y1 y2 y3 y4 y5 y6 y7 y8 y9 y10 cI (va_up mi 0 0) (va_up (va_up (va_up (va_up (va_up ma 0 (upd (ma 0) k 0)) 1 (upd (ma 1) k 0)) 2 (upd (ma 2) k 0)) 3 (upd (ma 3) k 0)) 4 (upd (ma 4) k 0))) := hD
  refine lv_iconst (v := 0) hx hb dMd_clear_44 (by decide) ?_
  refine lv_istore_n (lv' := [(2, .int 0), (0, .ref y), (1, .int (nI k))]) hx hb dMd_clear_45 rfl hl (by decide) rfl (fun ls hl => ?_)
  refine wl_rw (σ := Nat × Heap × List Loc × Array Slot) (fun z9 => (z9.2.1, z9.2.2.1, F0 m 46 z9.2.2.2 [])) (fun z9 => z9.1 ≤ 16 ∧ va_P (dC, dI) vwCl (wM y y1 y2 y3 y4 y5 y6 y7 y8 y9 y10 cI (va_up mi 0 0) (va_up (va_up (va_up (va_up (va_up (va_up (va_up (va_up ma 0 (upd (ma 0) k 0)) 1 (upd (ma 1) k 0)) 2 (upd (ma 2) k 0)) 3 (upd (ma 3) k 0)) 4 (upd (ma 4) k 0)) 5 (m_z (ma 5) (16 * k) z9.1)) 6 (m_z (ma 6) (16 * k) z9.1)) 8 (m_z (ma 8) (1024 * k) z9.1))) z9.2.1 ∧ va_D A (wM y y1 y2 y3 y4 y5 y6 y7 y8 y9 y10 cI (va_up mi 0 0) (va_up (va_up (va_up (va_up (va_up (va_up (va_up (va_up ma 0 (upd (ma 0) k 0)) 1 (upd (ma 1) k 0)) 2 (upd (ma 2) k 0)) 3 (upd (ma 3) k 0)) 4 (upd (ma 4) k 0)) 5 (m_z (ma 5) (16 * k) z9.1)) 6 (m_z (ma 6) (16 * k) z9.1)) 8 (m_z (ma 8) (1024 * k) z9.1))) ∧ va_S A s.heap z9.2.1 z9.2.2.1 ∧ lv_has z9.2.2.2 3 [(2, .int (nI z9.1)), (0, .ref y), (1, .int (nI k))]) (fun z9 => 16 - z9.1) ?_ (0, H, locs, ls) ⟨by omega, hP, hD, hS, lv_sub hl [0, 1, 2] rfl⟩
  rintro ⟨j, H, locs, ls⟩ ⟨hj, hP, hD, hS, hl⟩ ih
  have hj : j ≤ 16 := hj
  have hP : va_P (dC, dI) vwCl (wM y y1 y2 y3 y4 y5 y6 y7 y8 y9 y10 cI (va_up mi 0 0) (va_up (va_up (va_up (va_up (va_up (va_up (va_up (va_up ma 0 (upd (ma 0) k 0)) 1 (upd (ma 1) k 0)) 2 (upd (ma 2) k 0)) 3 (upd (ma 3) k 0)) 4 (upd (ma 4) k 0)) 5 (m_z (ma 5) (16 * k) j)) 6 (m_z (ma 6) (16 * k) j)) 8 (m_z (ma 8) (1024 * k) j))) H := hP
  have hD : va_D A (wM y y1 y2 y3 y4 y5 y6 y7 y8 y9 y10 cI (va_up mi 0 0) (va_up (va_up (va_up (va_up (va_up (va_up (va_up (va_up ma 0 (upd (ma 0) k 0)) 1 (upd (ma 1) k 0)) 2 (upd (ma 2) k 0)) 3 (upd (ma 3) k 0)) 4 (upd (ma 4) k 0)) 5 (m_z (ma 5) (16 * k) j)) 6 (m_z (ma 6) (16 * k) j)) 8 (m_z (ma 8) (1024 * k) j))) := hD
  have hS : va_S A s.heap H locs := hS
  have hl : lv_has ls 3 [(2, .int (nI j)), (0, .ref y), (1, .int (nI k))] := hl
  show W p l e _ s m _ below meth c H locs _ _ _ (F0 m 46 ls [])
  refine lv_iload_n hx hb dMd_clear_46 rfl (lv_at hl 0 rfl) ?_
  refine lv_bipush (v := nI 16) hx hb dMd_clear_47 (by decide) ?_
  refine lv_icmp_ge (tgt := 95) hx hb dMd_clear_49 (by decide) (fun c_3 => ?_) (fun c_3 => ?_)
  · skip
    have hj9 : j = 16 := lp_x (by decide) hj c_3
    subst hj9
    refine lv_aload_n hx hb dMd_clear_95 rfl (lv_at hl 1 rfl) ?_
    refine va_get (D := (dC, dI)) (ci := 3) (v := .ref y8) (C := RMd) (T := TMd) (N := 17) hx hb hts inMd hown hK hP 0 rfl rfl 9 (by decide) (hts _ in_83) (fun _ h9 => h9) rfl dMd_clear_96 ?_
    refine lv_bipush (v := nI 64) hx hb dMd_clear_99 (by decide) ?_
    refine lv_iload_n hx hb dMd_clear_101 rfl (lv_at hl 2 rfl) ?_
    refine lv_imul hx hb dMd_clear_102 ?_
    refine lv_ri (y := nI (64 * k)) (pk_mul _ _) ?_
    refine lv_iconst (v := 0) hx hb dMd_clear_103 (by decide) ?_
    refine vq_iast (k := (64 * k)) (f := ma 7) hx hb hK hP hD hS 8 0 rfl rfl rfl (by omega) (by decide) dMd_clear_104 (fun H locs hP hD hS => ?_)
    have hP : va_P (dC, dI) vwCl (wM y y1 y2 y3 y4 y5 y6 y7 y8 y9 y10 cI (va_up mi 0 0) (va_up (va_up (va_up (va_up (va_up (va_up (va_up (va_up (va_up ma 0 (upd (ma 0) k 0)) 1 (upd (ma 1) k 0)) 2 (upd (ma 2) k 0)) 3 (upd (ma 3) k 0)) 4 (upd (ma 4) k 0)) 5 (m_z (ma 5) (16 * k) 16)) 6 (m_z (ma 6) (16 * k) 16)) 8 (m_z (ma 8) (1024 * k) 16)) 7 (upd (ma 7) (64 * k) 0))) H := hP
    have hD : va_D A (wM y y1 y2 y3 y4 y5 y6 y7 y8 y9 y10 cI (va_up mi 0 0) (va_up (va_up (va_up (va_up (va_up (va_up (va_up (va_up (va_up ma 0 (upd (ma 0) k 0)) 1 (upd (ma 1) k 0)) 2 (upd (ma 2) k 0)) 3 (upd (ma 3) k 0)) 4 (upd (ma 4) k 0)) 5 (m_z (ma 5) (16 * k) 16)) 6 (m_z (ma 6) (16 * k) 16)) 8 (m_z (ma 8) (1024 * k) 16)) 7 (upd (ma 7) (64 * k) 0))) := hD
    have hP9 : va_P (dC, dI) vwCl (wM y y1 y2 y3 y4 y5 y6 y7 y8 y9 y10 cI (va_up mi 0 0) (m_cl ma k)) H := by exact hP
    have hD9 : va_D A (wM y y1 y2 y3 y4 y5 y6 y7 y8 y9 y10 cI (va_up mi 0 0) (m_cl ma k)) := by exact hD
    exact W.vret hx hb hr (fun t ht hW => ⟨⟨(), rfl, trivial, by rw [ht]; exact hP9, va_K.moved hW.alike hK, hD9⟩, hS.F ht⟩) hS.2.2 dMd_clear_105
  · skip
    have hj : j < 16 := lp_c (by decide) hj c_3
    refine lv_aload_n hx hb dMd_clear_52 rfl (lv_at hl 1 rfl) ?_
    refine va_get (D := (dC, dI)) (ci := 3) (v := .ref y6) (C := RMd) (T := TMd) (N := 17) hx hb hts inMd hown hK hP 0 rfl rfl 7 (by decide) (hts _ in_85) (fun _ h9 => h9) rfl dMd_clear_53 ?_
    refine lv_bipush (v := nI 16) hx hb dMd_clear_56 (by decide) ?_
    refine lv_iload_n hx hb dMd_clear_58 rfl (lv_at hl 2 rfl) ?_
    refine lv_imul hx hb dMd_clear_59 ?_
    refine lv_ri (y := nI (16 * k)) (pk_mul _ _) ?_
    refine lv_iload_n hx hb dMd_clear_60 rfl (lv_at hl 0 rfl) ?_
    refine lv_iadd hx hb dMd_clear_61 ?_
    refine lv_ri (y := nI ((16 * k) + j)) (nI_add _ _) ?_
    refine lv_iconst (v := 0) hx hb dMd_clear_62 (by decide) ?_
    refine vq_iast (k := ((16 * k) + j)) (f := m_z (ma 5) (16 * k) j) hx hb hK hP hD hS 6 0 rfl rfl rfl (by omega) (by decide) dMd_clear_63 (fun H locs hP hD hS => ?_)
    have hP : va_P (dC, dI) vwCl (wM y y1 y2 y3 y4 y5 y6 y7 y8 y9 y10 cI (va_up mi 0 0) (va_up (va_up (va_up (va_up (va_up (va_up (va_up (va_up ma 0 (upd (ma 0) k 0)) 1 (upd (ma 1) k 0)) 2 (upd (ma 2) k 0)) 3 (upd (ma 3) k 0)) 4 (upd (ma 4) k 0)) 6 (m_z (ma 6) (16 * k) j)) 8 (m_z (ma 8) (1024 * k) j)) 5 (upd (m_z (ma 5) (16 * k) j) ((16 * k) + j) 0))) H := hP
    have hD : va_D A (wM y y1 y2 y3 y4 y5 y6 y7 y8 y9 y10 cI (va_up mi 0 0) (va_up (va_up (va_up (va_up (va_up (va_up (va_up (va_up ma 0 (upd (ma 0) k 0)) 1 (upd (ma 1) k 0)) 2 (upd (ma 2) k 0)) 3 (upd (ma 3) k 0)) 4 (upd (ma 4) k 0)) 6 (m_z (ma 6) (16 * k) j)) 8 (m_z (ma 8) (1024 * k) j)) 5 (upd (m_z (ma 5) (16 * k) j) ((16 * k) + j) 0))) := hD
    refine lv_aload_n hx hb dMd_clear_64 rfl (lv_at hl 1 rfl) ?_
    refine va_get (D := (dC, dI)) (ci := 3) (v := .ref y7) (C := RMd) (T := TMd) (N := 17) hx hb hts inMd hown hK hP 0 rfl rfl 8 (by decide) (hts _ in_104) (fun _ h9 => h9) rfl dMd_clear_65 ?_
    refine lv_bipush (v := nI 16) hx hb dMd_clear_68 (by decide) ?_
    refine lv_iload_n hx hb dMd_clear_70 rfl (lv_at hl 2 rfl) ?_
    refine lv_imul hx hb dMd_clear_71 ?_
    refine lv_ri (y := nI (16 * k)) (pk_mul _ _) ?_
    refine lv_iload_n hx hb dMd_clear_72 rfl (lv_at hl 0 rfl) ?_
    refine lv_iadd hx hb dMd_clear_73 ?_
    refine lv_ri (y := nI ((16 * k) + j)) (nI_add _ _) ?_
    refine lv_iconst (v := 0) hx hb dMd_clear_74 (by decide) ?_
    refine vq_iast (k := ((16 * k) + j)) (f := m_z (ma 6) (16 * k) j) hx hb hK hP hD hS 7 0 rfl rfl rfl (by omega) (by decide) dMd_clear_75 (fun H locs hP hD hS => ?_)
    have hP : va_P (dC, dI) vwCl (wM y y1 y2 y3 y4 y5 y6 y7 y8 y9 y10 cI (va_up mi 0 0) (va_up (va_up (va_up (va_up (va_up (va_up (va_up (va_up ma 0 (upd (ma 0) k 0)) 1 (upd (ma 1) k 0)) 2 (upd (ma 2) k 0)) 3 (upd (ma 3) k 0)) 4 (upd (ma 4) k 0)) 8 (m_z (ma 8) (1024 * k) j)) 5 (upd (m_z (ma 5) (16 * k) j) ((16 * k) + j) 0)) 6 (upd (m_z (ma 6) (16 * k) j) ((16 * k) + j) 0))) H := hP
    have hD : va_D A (wM y y1 y2 y3 y4 y5 y6 y7 y8 y9 y10 cI (va_up mi 0 0) (va_up (va_up (va_up (va_up (va_up (va_up (va_up (va_up ma 0 (upd (ma 0) k 0)) 1 (upd (ma 1) k 0)) 2 (upd (ma 2) k 0)) 3 (upd (ma 3) k 0)) 4 (upd (ma 4) k 0)) 8 (m_z (ma 8) (1024 * k) j)) 5 (upd (m_z (ma 5) (16 * k) j) ((16 * k) + j) 0)) 6 (upd (m_z (ma 6) (16 * k) j) ((16 * k) + j) 0))) := hD
    refine lv_aload_n hx hb dMd_clear_76 rfl (lv_at hl 1 rfl) ?_
    refine va_get (D := (dC, dI)) (ci := 3) (v := .ref y9) (C := RMd) (T := TMd) (N := 17) hx hb hts inMd hown hK hP 0 rfl rfl 10 (by decide) (hts _ in_103) (fun _ h9 => h9) rfl dMd_clear_77 ?_
    refine lv_sipush (v := nI 1024) hx hb dMd_clear_80 (by decide) ?_
    refine lv_iload_n hx hb dMd_clear_83 rfl (lv_at hl 2 rfl) ?_
    refine lv_imul hx hb dMd_clear_84 ?_
    refine lv_ri (y := nI (1024 * k)) (pk_mul _ _) ?_
    refine lv_iload_n hx hb dMd_clear_85 rfl (lv_at hl 0 rfl) ?_
    refine lv_iadd hx hb dMd_clear_86 ?_
    refine lv_ri (y := nI ((1024 * k) + j)) (nI_add _ _) ?_
    refine lv_iconst (v := 0) hx hb dMd_clear_87 (by decide) ?_
    refine vq_iast (k := ((1024 * k) + j)) (f := m_z (ma 8) (1024 * k) j) hx hb hK hP hD hS 9 0 rfl rfl rfl (by omega) (by decide) dMd_clear_88 (fun H locs hP hD hS => ?_)
    have hP : va_P (dC, dI) vwCl (wM y y1 y2 y3 y4 y5 y6 y7 y8 y9 y10 cI (va_up mi 0 0) (va_up (va_up (va_up (va_up (va_up (va_up (va_up (va_up ma 0 (upd (ma 0) k 0)) 1 (upd (ma 1) k 0)) 2 (upd (ma 2) k 0)) 3 (upd (ma 3) k 0)) 4 (upd (ma 4) k 0)) 5 (upd (m_z (ma 5) (16 * k) j) ((16 * k) + j) 0)) 6 (upd (m_z (ma 6) (16 * k) j) ((16 * k) + j) 0)) 8 (upd (m_z (ma 8) (1024 * k) j) ((1024 * k) + j) 0))) H := hP
    have hD : va_D A (wM y y1 y2 y3 y4 y5 y6 y7 y8 y9 y10 cI (va_up mi 0 0) (va_up (va_up (va_up (va_up (va_up (va_up (va_up (va_up ma 0 (upd (ma 0) k 0)) 1 (upd (ma 1) k 0)) 2 (upd (ma 2) k 0)) 3 (upd (ma 3) k 0)) 4 (upd (ma 4) k 0)) 5 (upd (m_z (ma 5) (16 * k) j) ((16 * k) + j) 0)) 6 (upd (m_z (ma 6) (16 * k) j) ((16 * k) + j) 0)) 8 (upd (m_z (ma 8) (1024 * k) j) ((1024 * k) + j) 0))) := hD
    refine lv_iinc (v := nI (j + 1)) (lv' := [(2, .int (nI (j + 1))), (0, .ref y), (1, .int (nI k))]) hx hb dMd_clear_89 hl (k := 0) rfl (by first | exact nI_1 _ | (show _ + (1 : Int32) = _; exact nI_1 _)) (by decide) rfl (fun ls hl => ?_)
    refine lv_goto (tgt := 46) hx hb dMd_clear_92 (by decide) ?_
    have hl9 : lv_has ls 3 [(2, .int (nI (j + 1))), (0, .ref y), (1, .int (nI k))] := by first | exact lv_sub hl [0, 1, 2] rfl | (simp only [m_z]; exact lv_sub hl [0, 1, 2] rfl)
    have hP9 : va_P (dC, dI) vwCl (wM y y1 y2 y3 y4 y5 y6 y7 y8 y9 y10 cI (va_up mi 0 0) (va_up (va_up (va_up (va_up (va_up (va_up (va_up (va_up ma 0 (upd (ma 0) k 0)) 1 (upd (ma 1) k 0)) 2 (upd (ma 2) k 0)) 3 (upd (ma 3) k 0)) 4 (upd (ma 4) k 0)) 5 (m_z (ma 5) (16 * k) (j + 1))) 6 (m_z (ma 6) (16 * k) (j + 1))) 8 (m_z (ma 8) (1024 * k) (j + 1)))) H := by first | exact hP | (simp only [m_z]; exact hP)
    have hD9 : va_D A (wM y y1 y2 y3 y4 y5 y6 y7 y8 y9 y10 cI (va_up mi 0 0) (va_up (va_up (va_up (va_up (va_up (va_up (va_up (va_up ma 0 (upd (ma 0) k 0)) 1 (upd (ma 1) k 0)) 2 (upd (ma 2) k 0)) 3 (upd (ma 3) k 0)) 4 (upd (ma 4) k 0)) 5 (m_z (ma 5) (16 * k) (j + 1))) 6 (m_z (ma 6) (16 * k) (j + 1))) 8 (m_z (ma 8) (1024 * k) (j + 1)))) := by first | exact hD | (simp only [m_z]; exact hD)
    exact ih (j + 1, H, locs, ls) ⟨hj, hP9, hD9, hS, hl9⟩ (by show 16 - (j + 1) < 16 - j; omega)
set_option maxHeartbeats 4000000 in
set_option maxRecDepth 100000 in
/-- clear(x), no fold -/
theorem k_M_clearN (l : Launch) (dC : Nat → ClassId) (dI : Nat → Nat → Nat) (sz : Nat) (y y1 y2 y3 y4 y5 y6 y7 y8 y9 y10 : Nat) (cI : ClassId) (mi : Nat → Int32) (ma : Nat → Nat → Int32) (x : Int32) (hfx : s_lk x = 1) : Met l yMd_clear wsMd_clear ({ frames := 3, cells := 0, slots := 0, locals := 120 }) (va_Pc [.ref y, .int x] (fun U => U.heap.size = sz ∧ va_P (dC, dI) vwCl (wM y y1 y2 y3 y4 y5 y6 y7 y8 y9 y10 cI mi ma) U.heap ∧ va_K (dC, dI) vwCl [(cI, .int)] U ∧ va_D (fun _ => True) (wM y y1 y2 y3 y4 y5 y6 y7 y8 y9 y10 cI mi ma))) (va_Qv (fun (_ : Unit) => True) (fun _ t => va_P (dC, dI) vwCl (wM y y1 y2 y3 y4 y5 y6 y7 y8 y9 y10 cI (va_up mi 0 1) ma) t.heap ∧ va_K (dC, dI) vwCl [(cI, .int)] t ∧ va_D (va_A (wM y y1 y2 y3 y4 y5 y6 y7 y8 y9 y10 cI mi ma) sz) (wM y y1 y2 y3 y4 y5 y6 y7 y8 y9 y10 cI (va_up mi 0 1) ma)) (va_A (wM y y1 y2 y3 y4 y5 y6 y7 y8 y9 y10 cI mi ma) sz)) 0 0 (va_A (wM y y1 y2 y3 y4 y5 y6 y7 y8 y9 y10 cI mi ma) sz) := by
  refine Met.ofW (cc := cMd_clear) (maxL := 3) (ret := none) (by decide) rfl ?_
  intro p e s m args below meth c s₁ B hml hv
  obtain ⟨rfl, hsz, hP, hK, hD0⟩ := hv
  have hx := B.exec
  have hb := B.bytes
  have hr := B.returns
  have hts0 := atoms_spec (ws := wsMd_clear) B.pre
  have hts := fun (w : Cond) (h : w ∈ lw_g) => hts0 w (List.mem_cons_of_mem _ h)
  have hown : s.vm.findClass RMd = some m.cls := findClass_of_methodNamed B.named
  have hlocks := B.notSynchronized
  subst hsz
  have hD := hD0.self (sz := s.heap.size)
  generalize hAe : va_A (wM y y1 y2 y3 y4 y5 y6 y7 y8 y9 y10 cI mi ma) s.heap.size = A at hD ⊢
  have hA : ∀ q : Nat, s.heap.size ≤ q → A q := fun q h => by rw [← hAe]; exact Or.inr h
  have hS : va_S A s.heap s.heap [] := va_S.rf
  have hP : va_P (dC, dI) vwCl (wM y y1 y2 y3 y4 y5 y6 y7 y8 y9 y10 cI mi ma) s.heap := hP
  have hl := lv_entry ([.ref y, .int x]) (n := 3) (Nat.le_of_ble_eq_true rfl)
  rw [lg_entry_eq]
  generalize (lg_sl ([.ref y, .int x]) ++ List.replicate (3 - (lg_sl ([.ref y, .int x])).length) Slot.unset).toArray = ls at hl ⊢
  have hl : lv_has ls 3 [(0, .ref y), (1, .int x)] := hl
  refine lv_aload_n hx hb dMd_clear_0 rfl (lv_at hl 0 rfl) ?_
  refine lv_iload_n hx hb dMd_clear_1 rfl (lv_at hl 1 rfl) ?_
  have hPc := hP.sub (ws' := (wM y y1 y2 y3 y4 y5 y6 y7 y8 y9 y10 cI mi ma)) [0, 1, 2, 3, 4, 5, 6, 7, 8, 9, 10] rfl
  have hDc := hD.sub (ws' := (wM y y1 y2 y3 y4 y5 y6 y7 y8 y9 y10 cI mi ma)) [0, 1, 2, 3, 4, 5, 6, 7, 8, 9, 10] (by decide) rfl
  have hKc := hK.sub (tys' := [(cI, .int)]) [0] rfl
  have hFc := va_free (wc := (wM y y1 y2 y3 y4 y5 y6 y7 y8 y9 y10 cI mi ma)) hD hS hA [0, 1, 2, 3, 4, 5, 6, 7, 8, 9, 10] rfl
  refine va_calli (va_runV (As := [.int x]) (rest := []) ⟨hx, hb, hml, hown, hts⟩ (k_M_lacks1 l dC dI s.heap.size y y1 y2 y3 y4 y5 y6 y7 y8 y9 y10 cI mi ma x hfx) (cwV 1 hts (gd_V in_91 in_93 in_94 in_74 in_92) rfl rfl rfl (by decide +kernel) ⟨Nat.le_of_ble_eq_true rfl, Nat.le_of_ble_eq_true rfl⟩) ⟨fun a U g mk q => by obtain ⟨q0, q1, qP, qK, qD⟩ := q; exact ⟨q0, q1, qP, va_K.moved (u := U) (U := U.calling g mk a) (Vm.Alike.refl U.vm) qK, qD⟩, va_recv hKc hPc (ci := 3) (q0 := 0) rfl rfl, fun U hU hW => ⟨rfl, by rw [hU], by rw [hU]; exact hPc, va_K.moved hW.alike hKc, hDc.weaken (fun _ _ _ _ => trivial)⟩⟩ rfl rfl hl.1 rfl (lv_room (Nat.le_of_ble_eq_true rfl)) dMd_clear_2 ⟨Nat.le_of_ble_eq_true rfl, Nat.le_of_ble_eq_true rfl⟩) hS (fun q _ h => hFc q h) hFc (fun r_1 u t H1 locs ht hvm hw hB hz1 hk1 hS => ?_)
  obtain ⟨hP1, hK1, hD1⟩ := hB
  rw [ht] at hP1
  obtain ⟨hP, hD⟩ := va_join (wr := []) (w1 := (wM y y1 y2 y3 y4 y5 y6 y7 y8 y9 y10 cI (va_up mi 0 1) ma)) hP hD [0, 1, 2, 3, 4, 5, 6, 7, 8, 9, 10] [] rfl rfl (by decide) (by decide) hk1 hFc hP1 hD1
  generalize H1 = H at hP hS ⊢
  have hP : va_P (dC, dI) vwCl (wM y y1 y2 y3 y4 y5 y6 y7 y8 y9 y10 cI (va_up mi 0 1) ma) H := hP
  have hD : va_D A (wM y y1 y2 y3 y4 y5 y6 y7 y8 y9 y10 cI (va_up mi 0 1) ma) := hD
  have hw : r_1 = 1 := hw
  subst hw
  refine lv_if_eq (tgt := 9) hx hb dMd_clear_5 (by decide) (fun c_2 => absurd c_2 (by decide)) (fun _ => ?_)
  have hP9 : va_P (dC, dI) vwCl (wM y y1 y2 y3 y4 y5 y6 y7 y8 y9 y10 cI (va_up mi 0 1) ma) H := by exact hP
  have hD9 : va_D A (wM y y1 y2 y3 y4 y5 y6 y7 y8 y9 y10 cI (va_up mi 0 1) ma) := by exact hD
  exact W.vret hx hb hr (fun t ht hW => ⟨⟨(), rfl, trivial, by rw [ht]; exact hP9, va_K.moved hW.alike hK, hD9⟩, hS.F ht⟩) hS.2.2 dMd_clear_8
set_option maxHeartbeats 4000000 in
set_option maxRecDepth 100000 in
/-- seq(k, z) -/
theorem k_M_seq (l : Launch) (dC : Nat → ClassId) (dI : Nat → Nat → Nat) (sz : Nat) (y y1 y2 y3 y4 y5 y6 y7 y8 y9 y10 : Nat) (cI : ClassId) (mi : Nat → Int32) (ma : Nat → Nat → Int32) (k z : Nat) (hk4 : k < 4) (hz : z < 16) : Met l yMd_seq wsMd_seq ({ frames := 3, cells := 0, slots := 0, locals := 120 }) (va_Pc [.ref y, .int (nI k), .int (nI z)] (fun U => U.heap.size = sz ∧ va_P (dC, dI) vwCl (wM y y1 y2 y3 y4 y5 y6 y7 y8 y9 y10 cI mi ma) U.heap ∧ va_K (dC, dI) vwCl [(cI, .int)] U ∧ va_D (fun _ => True) (wM y y1 y2 y3 y4 y5 y6 y7 y8 y9 y10 cI mi ma))) (va_Qi (fun (r : Int32) (_ : Unit) => r = ma 5 (16 * k + z)) (fun _ t => va_P (dC, dI) vwCl (wM y y1 y2 y3 y4 y5 y6 y7 y8 y9 y10 cI (va_up mi 0 0) ma) t.heap ∧ va_K (dC, dI) vwCl [(cI, .int)] t ∧ va_D (va_A (wM y y1 y2 y3 y4 y5 y6 y7 y8 y9 y10 cI mi ma) sz) (wM y y1 y2 y3 y4 y5 y6 y7 y8 y9 y10 cI (va_up mi 0 0) ma)) (va_A (wM y y1 y2 y3 y4 y5 y6 y7 y8 y9 y10 cI mi ma) sz)) 0 0 (va_A (wM y y1 y2 y3 y4 y5 y6 y7 y8 y9 y10 cI mi ma) sz) := by
  refine Met.ofW (cc := cMd_seq) (maxL := 3) (ret := (some .int)) (by decide) rfl ?_
  intro p e s m args below meth c s₁ B hml hv
  obtain ⟨rfl, hsz, hP, hK, hD0⟩ := hv
  have hx := B.exec
  have hb := B.bytes
  have hr := B.returns
  have hts0 := atoms_spec (ws := wsMd_seq) B.pre
  have hts := fun (w : Cond) (h : w ∈ lw_g) => hts0 w (List.mem_cons_of_mem _ h)
  have hown : s.vm.findClass RMd = some m.cls := findClass_of_methodNamed B.named
  have hlocks := B.notSynchronized
  subst hsz
  have hD := hD0.self (sz := s.heap.size)
  generalize hAe : va_A (wM y y1 y2 y3 y4 y5 y6 y7 y8 y9 y10 cI mi ma) s.heap.size = A at hD ⊢
  have hA : ∀ q : Nat, s.heap.size ≤ q → A q := fun q h => by rw [← hAe]; exact Or.inr h
  have hS : va_S A s.heap s.heap [] := va_S.rf
  have hP : va_P (dC, dI) vwCl (wM y y1 y2 y3 y4 y5 y6 y7 y8 y9 y10 cI mi ma) s.heap := hP
  have hl := lv_entry ([.ref y, .int (nI k), .int (nI z)]) (n := 3) (Nat.le_of_ble_eq_true rfl)
  rw [lg_entry_eq]
  generalize (lg_sl ([.ref y, .int (nI k), .int (nI z)]) ++ List.replicate (3 - (lg_sl ([.ref y, .int (nI k), .int (nI z)])).length) Slot.unset).toArray = ls at hl ⊢
  have hl : lv_has ls 3 [(0, .ref y), (1, .int (nI k)), (2, .int (nI z))] := hl
  refine lv_aload_n hx hb dMd_seq_0 rfl (lv_at hl 0 rfl) ?_
  refine lv_aload_n hx hb dMd_seq_1 rfl (lv_at hl 0 rfl) ?_
  refine lv_iload_n hx hb dMd_seq_2 rfl (lv_at hl 1 rfl) ?_
  have hPc := hP.sub (ws' := (wM y y1 y2 y3 y4 y5 y6 y7 y8 y9 y10 cI mi ma)) [0, 1, 2, 3, 4, 5, 6, 7, 8, 9, 10] rfl
  have hDc := hD.sub (ws' := (wM y y1 y2 y3 y4 y5 y6 y7 y8 y9 y10 cI mi ma)) [0, 1, 2, 3, 4, 5, 6, 7, 8, 9, 10] (by decide) rfl
  have hKc := hK.sub (tys' := [(cI, .int)]) [0] rfl
  have hFc := va_free (wc := (wM y y1 y2 y3 y4 y5 y6 y7 y8 y9 y10 cI mi ma)) hD hS hA [0, 1, 2, 3, 4, 5, 6, 7, 8, 9, 10] rfl
  refine va_calli (va_runV (As := [.int (nI k)]) (rest := [.ref y]) ⟨hx, hb, hml, hown, hts⟩ (k_M_lacks0 l dC dI s.heap.size y y1 y2 y3 y4 y5 y6 y7 y8 y9 y10 cI mi ma k hk4) (cwV 1 hts (gd_V in_91 in_93 in_94 in_74 in_92) rfl rfl rfl (by decide +kernel) ⟨Nat.le_of_ble_eq_true rfl, Nat.le_of_ble_eq_true rfl⟩) ⟨fun a U g mk q => by obtain ⟨q0, q1, qP, qK, qD⟩ := q; exact ⟨q0, q1, qP, va_K.moved (u := U) (U := U.calling g mk a) (Vm.Alike.refl U.vm) qK, qD⟩, va_recv hKc hPc (ci := 3) (q0 := 0) rfl rfl, fun U hU hW => ⟨rfl, by rw [hU], by rw [hU]; exact hPc, va_K.moved hW.alike hKc, hDc.weaken (fun _ _ _ _ => trivial)⟩⟩ rfl rfl hl.1 rfl (lv_room (Nat.le_of_ble_eq_true rfl)) dMd_seq_3 ⟨Nat.le_of_ble_eq_true rfl, Nat.le_of_ble_eq_true rfl⟩) hS (fun q _ h => hFc q h) hFc (fun r_1 u t H1 locs ht hvm hw hB hz1 hk1 hS => ?_)
  obtain ⟨hP1, hK1, hD1⟩ := hB
  rw [ht] at hP1
  obtain ⟨hP, hD⟩ := va_join (wr := []) (w1 := (wM y y1 y2 y3 y4 y5 y6 y7 y8 y9 y10 cI (va_up mi 0 0) ma)) hP hD [0, 1, 2, 3, 4, 5, 6, 7, 8, 9, 10] [] rfl rfl (by decide) (by decide) hk1 hFc hP1 hD1
  generalize H1 = H at hP hS ⊢
  have hP : va_P (dC, dI) vwCl (wM y y1 y2 y3 y4 y5 y6 y7 y8 y9 y10 cI (va_up mi 0 0) ma) H := hP
  have hD : va_D A (wM y y1 y2 y3 y4 y5 y6 y7 y8 y9 y10 cI (va_up mi 0 0) ma) := hD
  have hw : r_1 = 0 := hw
  subst hw
  refine lv_if_eq (tgt := 13) hx hb dMd_seq_6 (by decide) (fun _ => ?_) (fun c_2 => absurd c_2 (by decide))
  refine lv_iload_n hx hb dMd_seq_13 rfl (lv_at hl 2 rfl) ?_
  refine vp_callSi (W.runS (As := [.int (nI z)]) (rest := [.ref y]) ⟨hx, hb, hml, hown, hts⟩ (k_M_is16 l (nI z)) (va_cwS 1 hts (gd_S in_72 in_75 in_74 in_73) rfl rfl rfl (by decide +kernel) ⟨Nat.le_of_ble_eq_true rfl, Nat.le_of_ble_eq_true rfl⟩) ⟨fun a U g mk q => q, fun U hU hW => ⟨rfl, trivial⟩⟩ rfl rfl hl.1 rfl (lv_room (Nat.le_of_ble_eq_true rfl)) dMd_seq_14 ⟨Nat.le_of_ble_eq_true rfl, Nat.le_of_ble_eq_true rfl⟩) (fun r_3 er_4 => ?_)
  subst er_4
  refine lv_if_eq (tgt := 24) hx hb dMd_seq_17 (by decide) (fun c_5 => ?_) (fun c_5 => ?_)
  · skip
    exact absurd c_5 (s_in_ne hz)
  · skip
    refine lv_iconst (v := 0) hx hb dMd_seq_20 (by decide) ?_
    refine lv_goto (tgt := 25) hx hb dMd_seq_21 (by decide) ?_
    refine va_put (D := (dC, dI)) (ci := 3) (v := .int 0) (ty := .int) (C := RMd) (T := TMd) (N := 17) hx hb hts inMd tyMd tyMd_ok nmMd hown hK hP hD hS 0 rfl rfl 0 (by decide) (hts _ in_71) (fun _ h9 => h9) rfl (by decide +kernel) rfl rfl (Nat.le_of_ble_eq_true rfl) dMd_seq_25 (fun H locs hP hD hS => ?_)
    have hP : va_P (dC, dI) vwCl (wM y y1 y2 y3 y4 y5 y6 y7 y8 y9 y10 cI (va_up mi 0 0) ma) H := hP
    have hD : va_D A (wM y y1 y2 y3 y4 y5 y6 y7 y8 y9 y10 cI (va_up mi 0 0) ma) := hD
    refine lv_aload_n hx hb dMd_seq_28 rfl (lv_at hl 0 rfl) ?_
    refine va_get (D := (dC, dI)) (ci := 3) (v := .int 0) (C := RMd) (T := TMd) (N := 17) hx hb hts inMd hown hK hP 0 rfl rfl 0 (by decide) (hts _ in_71) (fun _ h9 => h9) rfl dMd_seq_29 ?_
    refine lv_if_le (tgt := 39) hx hb dMd_seq_32 (by decide) (fun _ => ?_) (fun c_6 => absurd c_6 (by decide))
    refine lv_aload_n hx hb dMd_seq_39 rfl (lv_at hl 0 rfl) ?_
    refine va_get (D := (dC, dI)) (ci := 3) (v := .ref y6) (C := RMd) (T := TMd) (N := 17) hx hb hts inMd hown hK hP 0 rfl rfl 7 (by decide) (hts _ in_85) (fun _ h9 => h9) rfl dMd_seq_40 ?_
    refine lv_bipush (v := nI 16) hx hb dMd_seq_43 (by decide) ?_
    refine lv_iload_n hx hb dMd_seq_45 rfl (lv_at hl 1 rfl) ?_
    refine lv_imul hx hb dMd_seq_46 ?_
    refine lv_ri (y := nI (16 * k)) (pk_mul _ _) ?_
    refine lv_iload_n hx hb dMd_seq_47 rfl (lv_at hl 2 rfl) ?_
    refine lv_iadd hx hb dMd_seq_48 ?_
    refine lv_ri (y := nI ((16 * k) + z)) (nI_add _ _) ?_
    refine vq_iald (k := ((16 * k) + z)) (f := ma 5) hx hb hK hP 6 0 rfl rfl rfl (by omega) (by decide) dMd_seq_49 ?_
    have hP9 : va_P (dC, dI) vwCl (wM y y1 y2 y3 y4 y5 y6 y7 y8 y9 y10 cI (va_up mi 0 0) ma) H := by exact hP
    have hD9 : va_D A (wM y y1 y2 y3 y4 y5 y6 y7 y8 y9 y10 cI (va_up mi 0 0) ma) := by exact hD
    exact W.iret (v := (ma 5) ((16 * k) + z)) hx hb hr (fun t ht hW => ⟨⟨(ma 5) ((16 * k) + z), (), rfl, rfl, by rw [ht]; exact hP9, va_K.moved hW.alike hK, hD9⟩, hS.F ht⟩) hS.2.2 dMd_seq_50
set_option maxHeartbeats 4000000 in
set_option maxRecDepth 100000 in
/-- seq(k, z), no session -/
theorem k_M_seqB (l : Launch) (dC : Nat → ClassId) (dI : Nat → Nat → Nat) (sz : Nat) (y y1 y2 y3 y4 y5 y6 y7 y8 y9 y10 : Nat) (cI : ClassId) (mi : Nat → Int32) (ma : Nat → Nat → Int32) (k : Nat) (z : Int32) (hk4 : k < 4) (hz : s_in z = 0) : Met l yMd_seq wsMd_seq ({ frames := 3, cells := 0, slots := 0, locals := 120 }) (va_Pc [.ref y, .int (nI k), .int z] (fun U => U.heap.size = sz ∧ va_P (dC, dI) vwCl (wM y y1 y2 y3 y4 y5 y6 y7 y8 y9 y10 cI mi ma) U.heap ∧ va_K (dC, dI) vwCl [(cI, .int)] U ∧ va_D (fun _ => True) (wM y y1 y2 y3 y4 y5 y6 y7 y8 y9 y10 cI mi ma))) (va_Qi (fun (r : Int32) (_ : Unit) => r = 0) (fun _ t => va_P (dC, dI) vwCl (wM y y1 y2 y3 y4 y5 y6 y7 y8 y9 y10 cI (va_up mi 0 2) ma) t.heap ∧ va_K (dC, dI) vwCl [(cI, .int)] t ∧ va_D (va_A (wM y y1 y2 y3 y4 y5 y6 y7 y8 y9 y10 cI mi ma) sz) (wM y y1 y2 y3 y4 y5 y6 y7 y8 y9 y10 cI (va_up mi 0 2) ma)) (va_A (wM y y1 y2 y3 y4 y5 y6 y7 y8 y9 y10 cI mi ma) sz)) 0 0 (va_A (wM y y1 y2 y3 y4 y5 y6 y7 y8 y9 y10 cI mi ma) sz) := by
  refine Met.ofW (cc := cMd_seq) (maxL := 3) (ret := (some .int)) (by decide) rfl ?_
  intro p e s m args below meth c s₁ B hml hv
  obtain ⟨rfl, hsz, hP, hK, hD0⟩ := hv
  have hx := B.exec
  have hb := B.bytes
  have hr := B.returns
  have hts0 := atoms_spec (ws := wsMd_seq) B.pre
  have hts := fun (w : Cond) (h : w ∈ lw_g) => hts0 w (List.mem_cons_of_mem _ h)
  have hown : s.vm.findClass RMd = some m.cls := findClass_of_methodNamed B.named
  have hlocks := B.notSynchronized
  subst hsz
  have hD := hD0.self (sz := s.heap.size)
  generalize hAe : va_A (wM y y1 y2 y3 y4 y5 y6 y7 y8 y9 y10 cI mi ma) s.heap.size = A at hD ⊢
  have hA : ∀ q : Nat, s.heap.size ≤ q → A q := fun q h => by rw [← hAe]; exact Or.inr h
  have hS : va_S A s.heap s.heap [] := va_S.rf
  have hP : va_P (dC, dI) vwCl (wM y y1 y2 y3 y4 y5 y6 y7 y8 y9 y10 cI mi ma) s.heap := hP
  have hl := lv_entry ([.ref y, .int (nI k), .int z]) (n := 3) (Nat.le_of_ble_eq_true rfl)
  rw [lg_entry_eq]
  generalize (lg_sl ([.ref y, .int (nI k), .int z]) ++ List.replicate (3 - (lg_sl ([.ref y, .int (nI k), .int z])).length) Slot.unset).toArray = ls at hl ⊢
  have hl : lv_has ls 3 [(0, .ref y), (1, .int (nI k)), (2, .int z)] := hl
  refine lv_aload_n hx hb dMd_seq_0 rfl (lv_at hl 0 rfl) ?_
  refine lv_aload_n hx hb dMd_seq_1 rfl (lv_at hl 0 rfl) ?_
  refine lv_iload_n hx hb dMd_seq_2 rfl (lv_at hl 1 rfl) ?_
  have hPc := hP.sub (ws' := (wM y y1 y2 y3 y4 y5 y6 y7 y8 y9 y10 cI mi ma)) [0, 1, 2, 3, 4, 5, 6, 7, 8, 9, 10] rfl
  have hDc := hD.sub (ws' := (wM y y1 y2 y3 y4 y5 y6 y7 y8 y9 y10 cI mi ma)) [0, 1, 2, 3, 4, 5, 6, 7, 8, 9, 10] (by decide) rfl
  have hKc := hK.sub (tys' := [(cI, .int)]) [0] rfl
  have hFc := va_free (wc := (wM y y1 y2 y3 y4 y5 y6 y7 y8 y9 y10 cI mi ma)) hD hS hA [0, 1, 2, 3, 4, 5, 6, 7, 8, 9, 10] rfl
  refine va_calli (va_runV (As := [.int (nI k)]) (rest := [.ref y]) ⟨hx, hb, hml, hown, hts⟩ (k_M_lacks0 l dC dI s.heap.size y y1 y2 y3 y4 y5 y6 y7 y8 y9 y10 cI mi ma k hk4) (cwV 1 hts (gd_V in_91 in_93 in_94 in_74 in_92) rfl rfl rfl (by decide +kernel) ⟨Nat.le_of_ble_eq_true rfl, Nat.le_of_ble_eq_true rfl⟩) ⟨fun a U g mk q => by obtain ⟨q0, q1, qP, qK, qD⟩ := q; exact ⟨q0, q1, qP, va_K.moved (u := U) (U := U.calling g mk a) (Vm.Alike.refl U.vm) qK, qD⟩, va_recv hKc hPc (ci := 3) (q0 := 0) rfl rfl, fun U hU hW => ⟨rfl, by rw [hU], by rw [hU]; exact hPc, va_K.moved hW.alike hKc, hDc.weaken (fun _ _ _ _ => trivial)⟩⟩ rfl rfl hl.1 rfl (lv_room (Nat.le_of_ble_eq_true rfl)) dMd_seq_3 ⟨Nat.le_of_ble_eq_true rfl, Nat.le_of_ble_eq_true rfl⟩) hS (fun q _ h => hFc q h) hFc (fun r_1 u t H1 locs ht hvm hw hB hz1 hk1 hS => ?_)
  obtain ⟨hP1, hK1, hD1⟩ := hB
  rw [ht] at hP1
  obtain ⟨hP, hD⟩ := va_join (wr := []) (w1 := (wM y y1 y2 y3 y4 y5 y6 y7 y8 y9 y10 cI (va_up mi 0 0) ma)) hP hD [0, 1, 2, 3, 4, 5, 6, 7, 8, 9, 10] [] rfl rfl (by decide) (by decide) hk1 hFc hP1 hD1
  generalize H1 = H at hP hS ⊢
  have hP : va_P (dC, dI) vwCl (wM y y1 y2 y3 y4 y5 y6 y7 y8 y9 y10 cI (va_up mi 0 0) ma) H := hP
  have hD : va_D A (wM y y1 y2 y3 y4 y5 y6 y7 y8 y9 y10 cI (va_up mi 0 0) ma) := hD
  have hw : r_1 = 0 := hw
  subst hw
  refine lv_if_eq (tgt := 13) hx hb dMd_seq_6 (by decide) (fun _ => ?_) (fun c_2 => absurd c_2 (by decide))
  refine lv_iload_n hx hb dMd_seq_13 rfl (lv_at hl 2 rfl) ?_
  refine vp_callSi (W.runS (As := [.int z]) (rest := [.ref y]) ⟨hx, hb, hml, hown, hts⟩ (k_M_is16 l z) (va_cwS 1 hts (gd_S in_72 in_75 in_74 in_73) rfl rfl rfl (by decide +kernel) ⟨Nat.le_of_ble_eq_true rfl, Nat.le_of_ble_eq_true rfl⟩) ⟨fun a U g mk q => q, fun U hU hW => ⟨rfl, trivial⟩⟩ rfl rfl hl.1 rfl (lv_room (Nat.le_of_ble_eq_true rfl)) dMd_seq_14 ⟨Nat.le_of_ble_eq_true rfl, Nat.le_of_ble_eq_true rfl⟩) (fun r_3 er_4 => ?_)
  subst er_4
  refine lv_if_eq (tgt := 24) hx hb dMd_seq_17 (by decide) (fun c_5 => ?_) (fun c_5 => ?_)
  · skip
    refine lv_iconst (v := 2) hx hb dMd_seq_24 (by decide) ?_
    refine va_put (D := (dC, dI)) (ci := 3) (v := .int 2) (ty := .int) (C := RMd) (T := TMd) (N := 17) hx hb hts inMd tyMd tyMd_ok nmMd hown hK hP hD hS 0 rfl rfl 0 (by decide) (hts _ in_71) (fun _ h9 => h9) rfl (by decide +kernel) rfl rfl (Nat.le_of_ble_eq_true rfl) dMd_seq_25 (fun H locs hP hD hS => ?_)
    have hP : va_P (dC, dI) vwCl (wM y y1 y2 y3 y4 y5 y6 y7 y8 y9 y10 cI (va_up mi 0 2) ma) H := hP
    have hD : va_D A (wM y y1 y2 y3 y4 y5 y6 y7 y8 y9 y10 cI (va_up mi 0 2) ma) := hD
    refine lv_aload_n hx hb dMd_seq_28 rfl (lv_at hl 0 rfl) ?_
    refine va_get (D := (dC, dI)) (ci := 3) (v := .int 2) (C := RMd) (T := TMd) (N := 17) hx hb hts inMd hown hK hP 0 rfl rfl 0 (by decide) (hts _ in_71) (fun _ h9 => h9) rfl dMd_seq_29 ?_
    refine lv_if_le (tgt := 39) hx hb dMd_seq_32 (by decide) (fun c_6 => absurd c_6 (by decide)) (fun _ => ?_)
    refine lv_iconst (v := 0) hx hb dMd_seq_35 (by decide) ?_
    refine lv_goto (tgt := 50) hx hb dMd_seq_36 (by decide) ?_
    have hP9 : va_P (dC, dI) vwCl (wM y y1 y2 y3 y4 y5 y6 y7 y8 y9 y10 cI (va_up mi 0 2) ma) H := by exact hP
    have hD9 : va_D A (wM y y1 y2 y3 y4 y5 y6 y7 y8 y9 y10 cI (va_up mi 0 2) ma) := by exact hD
    exact W.iret (v := 0) hx hb hr (fun t ht hW => ⟨⟨0, (), rfl, rfl, by rw [ht]; exact hP9, va_K.moved hW.alike hK, hD9⟩, hS.F ht⟩) hS.2.2 dMd_seq_50
  · skip
    exact absurd hz c_5
set_option maxHeartbeats 4000000 in
set_option maxRecDepth 100000 in
/-- seq(x, z), no fold -/
theorem k_M_seqN (l : Launch) (dC : Nat → ClassId) (dI : Nat → Nat → Nat) (sz : Nat) (y y1 y2 y3 y4 y5 y6 y7 y8 y9 y10 : Nat) (cI : ClassId) (mi : Nat → Int32) (ma : Nat → Nat → Int32) (x z : Int32) (hfx : s_lk x = 1) : Met l yMd_seq wsMd_seq ({ frames := 3, cells := 0, slots := 0, locals := 120 }) (va_Pc [.ref y, .int x, .int z] (fun U => U.heap.size = sz ∧ va_P (dC, dI) vwCl (wM y y1 y2 y3 y4 y5 y6 y7 y8 y9 y10 cI mi ma) U.heap ∧ va_K (dC, dI) vwCl [(cI, .int)] U ∧ va_D (fun _ => True) (wM y y1 y2 y3 y4 y5 y6 y7 y8 y9 y10 cI mi ma))) (va_Qi (fun (r : Int32) (_ : Unit) => r = 0) (fun _ t => va_P (dC, dI) vwCl (wM y y1 y2 y3 y4 y5 y6 y7 y8 y9 y10 cI (va_up mi 0 1) ma) t.heap ∧ va_K (dC, dI) vwCl [(cI, .int)] t ∧ va_D (va_A (wM y y1 y2 y3 y4 y5 y6 y7 y8 y9 y10 cI mi ma) sz) (wM y y1 y2 y3 y4 y5 y6 y7 y8 y9 y10 cI (va_up mi 0 1) ma)) (va_A (wM y y1 y2 y3 y4 y5 y6 y7 y8 y9 y10 cI mi ma) sz)) 0 0 (va_A (wM y y1 y2 y3 y4 y5 y6 y7 y8 y9 y10 cI mi ma) sz) := by
  refine Met.ofW (cc := cMd_seq) (maxL := 3) (ret := (some .int)) (by decide) rfl ?_
  intro p e s m args below meth c s₁ B hml hv
  obtain ⟨rfl, hsz, hP, hK, hD0⟩ := hv
  have hx := B.exec
  have hb := B.bytes
  have hr := B.returns
  have hts0 := atoms_spec (ws := wsMd_seq) B.pre
  have hts := fun (w : Cond) (h : w ∈ lw_g) => hts0 w (List.mem_cons_of_mem _ h)
  have hown : s.vm.findClass RMd = some m.cls := findClass_of_methodNamed B.named
  have hlocks := B.notSynchronized
  subst hsz
  have hD := hD0.self (sz := s.heap.size)
  generalize hAe : va_A (wM y y1 y2 y3 y4 y5 y6 y7 y8 y9 y10 cI mi ma) s.heap.size = A at hD ⊢
  have hA : ∀ q : Nat, s.heap.size ≤ q → A q := fun q h => by rw [← hAe]; exact Or.inr h
  have hS : va_S A s.heap s.heap [] := va_S.rf
  have hP : va_P (dC, dI) vwCl (wM y y1 y2 y3 y4 y5 y6 y7 y8 y9 y10 cI mi ma) s.heap := hP
  have hl := lv_entry ([.ref y, .int x, .int z]) (n := 3) (Nat.le_of_ble_eq_true rfl)
  rw [lg_entry_eq]
  generalize (lg_sl ([.ref y, .int x, .int z]) ++ List.replicate (3 - (lg_sl ([.ref y, .int x, .int z])).length) Slot.unset).toArray = ls at hl ⊢
  have hl : lv_has ls 3 [(0, .ref y), (1, .int x), (2, .int z)] := hl
  refine lv_aload_n hx hb dMd_seq_0 rfl (lv_at hl 0 rfl) ?_
  refine lv_aload_n hx hb dMd_seq_1 rfl (lv_at hl 0 rfl) ?_
  refine lv_iload_n hx hb dMd_seq_2 rfl (lv_at hl 1 rfl) ?_
  have hPc := hP.sub (ws' := (wM y y1 y2 y3 y4 y5 y6 y7 y8 y9 y10 cI mi ma)) [0, 1, 2, 3, 4, 5, 6, 7, 8, 9, 10] rfl
  have hDc := hD.sub (ws' := (wM y y1 y2 y3 y4 y5 y6 y7 y8 y9 y10 cI mi ma)) [0, 1, 2, 3, 4, 5, 6, 7, 8, 9, 10] (by decide) rfl
  have hKc := hK.sub (tys' := [(cI, .int)]) [0] rfl
  have hFc := va_free (wc := (wM y y1 y2 y3 y4 y5 y6 y7 y8 y9 y10 cI mi ma)) hD hS hA [0, 1, 2, 3, 4, 5, 6, 7, 8, 9, 10] rfl
  refine va_calli (va_runV (As := [.int x]) (rest := [.ref y]) ⟨hx, hb, hml, hown, hts⟩ (k_M_lacks1 l dC dI s.heap.size y y1 y2 y3 y4 y5 y6 y7 y8 y9 y10 cI mi ma x hfx) (cwV 1 hts (gd_V in_91 in_93 in_94 in_74 in_92) rfl rfl rfl (by decide +kernel) ⟨Nat.le_of_ble_eq_true rfl, Nat.le_of_ble_eq_true rfl⟩) ⟨fun a U g mk q => by obtain ⟨q0, q1, qP, qK, qD⟩ := q; exact ⟨q0, q1, qP, va_K.moved (u := U) (U := U.calling g mk a) (Vm.Alike.refl U.vm) qK, qD⟩, va_recv hKc hPc (ci := 3) (q0 := 0) rfl rfl, fun U hU hW => ⟨rfl, by rw [hU], by rw [hU]; exact hPc, va_K.moved hW.alike hKc, hDc.weaken (fun _ _ _ _ => trivial)⟩⟩ rfl rfl hl.1 rfl (lv_room (Nat.le_of_ble_eq_true rfl)) dMd_seq_3 ⟨Nat.le_of_ble_eq_true rfl, Nat.le_of_ble_eq_true rfl⟩) hS (fun q _ h => hFc q h) hFc (fun r_1 u t H1 locs ht hvm hw hB hz1 hk1 hS => ?_)
  obtain ⟨hP1, hK1, hD1⟩ := hB
  rw [ht] at hP1
  obtain ⟨hP, hD⟩ := va_join (wr := []) (w1 := (wM y y1 y2 y3 y4 y5 y6 y7 y8 y9 y10 cI (va_up mi 0 1) ma)) hP hD [0, 1, 2, 3, 4, 5, 6, 7, 8, 9, 10] [] rfl rfl (by decide) (by decide) hk1 hFc hP1 hD1
  generalize H1 = H at hP hS ⊢
  have hP : va_P (dC, dI) vwCl (wM y y1 y2 y3 y4 y5 y6 y7 y8 y9 y10 cI (va_up mi 0 1) ma) H := hP
  have hD : va_D A (wM y y1 y2 y3 y4 y5 y6 y7 y8 y9 y10 cI (va_up mi 0 1) ma) := hD
  have hw : r_1 = 1 := hw
  subst hw
  refine lv_if_eq (tgt := 13) hx hb dMd_seq_6 (by decide) (fun c_2 => absurd c_2 (by decide)) (fun _ => ?_)
  refine lv_iconst (v := 1) hx hb dMd_seq_9 (by decide) ?_
  refine lv_goto (tgt := 25) hx hb dMd_seq_10 (by decide) ?_
  refine va_put (D := (dC, dI)) (ci := 3) (v := .int 1) (ty := .int) (C := RMd) (T := TMd) (N := 17) hx hb hts inMd tyMd tyMd_ok nmMd hown hK hP hD hS 0 rfl rfl 0 (by decide) (hts _ in_71) (fun _ h9 => h9) rfl (by decide +kernel) rfl rfl (Nat.le_of_ble_eq_true rfl) dMd_seq_25 (fun H locs hP hD hS => ?_)
  have hP : va_P (dC, dI) vwCl (wM y y1 y2 y3 y4 y5 y6 y7 y8 y9 y10 cI (va_up mi 0 1) ma) H := hP
  have hD : va_D A (wM y y1 y2 y3 y4 y5 y6 y7 y8 y9 y10 cI (va_up mi 0 1) ma) := hD
  refine lv_aload_n hx hb dMd_seq_28 rfl (lv_at hl 0 rfl) ?_
  refine va_get (D := (dC, dI)) (ci := 3) (v := .int 1) (C := RMd) (T := TMd) (N := 17) hx hb hts inMd hown hK hP 0 rfl rfl 0 (by decide) (hts _ in_71) (fun _ h9 => h9) rfl dMd_seq_29 ?_
  refine lv_if_le (tgt := 39) hx hb dMd_seq_32 (by decide) (fun c_3 => absurd c_3 (by decide)) (fun _ => ?_)
  refine lv_iconst (v := 0) hx hb dMd_seq_35 (by decide) ?_
  refine lv_goto (tgt := 50) hx hb dMd_seq_36 (by decide) ?_
  have hP9 : va_P (dC, dI) vwCl (wM y y1 y2 y3 y4 y5 y6 y7 y8 y9 y10 cI (va_up mi 0 1) ma) H := by exact hP
  have hD9 : va_D A (wM y y1 y2 y3 y4 y5 y6 y7 y8 y9 y10 cI (va_up mi 0 1) ma) := by exact hD
  exact W.iret (v := 0) hx hb hr (fun t ht hW => ⟨⟨0, (), rfl, rfl, by rw [ht]; exact hP9, va_K.moved hW.alike hK, hD9⟩, hS.F ht⟩) hS.2.2 dMd_seq_50
set_option maxHeartbeats 4000000 in
set_option maxRecDepth 100000 in
/-- verdict(k, z) -/
theorem k_M_verdict (l : Launch) (dC : Nat → ClassId) (dI : Nat → Nat → Nat) (sz : Nat) (y y1 y2 y3 y4 y5 y6 y7 y8 y9 y10 : Nat) (cI : ClassId) (mi : Nat → Int32) (ma : Nat → Nat → Int32) (k z : Nat) (hk4 : k < 4) (hz : z < 16) : Met l yMd_verdict wsMd_verdict ({ frames := 3, cells := 0, slots := 0, locals := 120 }) (va_Pc [.ref y, .int (nI k), .int (nI z)] (fun U => U.heap.size = sz ∧ va_P (dC, dI) vwCl (wM y y1 y2 y3 y4 y5 y6 y7 y8 y9 y10 cI mi ma) U.heap ∧ va_K (dC, dI) vwCl [(cI, .int)] U ∧ va_D (fun _ => True) (wM y y1 y2 y3 y4 y5 y6 y7 y8 y9 y10 cI mi ma))) (va_Qi (fun (r : Int32) (_ : Unit) => r = ma 6 (16 * k + z)) (fun _ t => va_P (dC, dI) vwCl (wM y y1 y2 y3 y4 y5 y6 y7 y8 y9 y10 cI (va_up mi 0 0) ma) t.heap ∧ va_K (dC, dI) vwCl [(cI, .int)] t ∧ va_D (va_A (wM y y1 y2 y3 y4 y5 y6 y7 y8 y9 y10 cI mi ma) sz) (wM y y1 y2 y3 y4 y5 y6 y7 y8 y9 y10 cI (va_up mi 0 0) ma)) (va_A (wM y y1 y2 y3 y4 y5 y6 y7 y8 y9 y10 cI mi ma) sz)) 0 0 (va_A (wM y y1 y2 y3 y4 y5 y6 y7 y8 y9 y10 cI mi ma) sz) := by
  refine Met.ofW (cc := cMd_verdict) (maxL := 3) (ret := (some .int)) (by decide) rfl ?_
  intro p e s m args below meth c s₁ B hml hv
  obtain ⟨rfl, hsz, hP, hK, hD0⟩ := hv
  have hx := B.exec
  have hb := B.bytes
  have hr := B.returns
  have hts0 := atoms_spec (ws := wsMd_verdict) B.pre
  have hts := fun (w : Cond) (h : w ∈ lw_g) => hts0 w (List.mem_cons_of_mem _ h)
  have hown : s.vm.findClass RMd = some m.cls := findClass_of_methodNamed B.named
  have hlocks := B.notSynchronized
  subst hsz
  have hD := hD0.self (sz := s.heap.size)
  generalize hAe : va_A (wM y y1 y2 y3 y4 y5 y6 y7 y8 y9 y10 cI mi ma) s.heap.size = A at hD ⊢
  have hA : ∀ q : Nat, s.heap.size ≤ q → A q := fun q h => by rw [← hAe]; exact Or.inr h
  have hS : va_S A s.heap s.heap [] := va_S.rf
  have hP : va_P (dC, dI) vwCl (wM y y1 y2 y3 y4 y5 y6 y7 y8 y9 y10 cI mi ma) s.heap := hP
  have hl := lv_entry ([.ref y, .int (nI k), .int (nI z)]) (n := 3) (Nat.le_of_ble_eq_true rfl)
  rw [lg_entry_eq]
  generalize (lg_sl ([.ref y, .int (nI k), .int (nI z)]) ++ List.replicate (3 - (lg_sl ([.ref y, .int (nI k), .int (nI z)])).length) Slot.unset).toArray = ls at hl ⊢
  have hl : lv_has ls 3 [(0, .ref y), (1, .int (nI k)), (2, .int (nI z))] := hl
  refine lv_aload_n hx hb dMd_verdict_0 rfl (lv_at hl 0 rfl) ?_
  refine lv_aload_n hx hb dMd_verdict_1 rfl (lv_at hl 0 rfl) ?_
  refine lv_iload_n hx hb dMd_verdict_2 rfl (lv_at hl 1 rfl) ?_
  have hPc := hP.sub (ws' := (wM y y1 y2 y3 y4 y5 y6 y7 y8 y9 y10 cI mi ma)) [0, 1, 2, 3, 4, 5, 6, 7, 8, 9, 10] rfl
  have hDc := hD.sub (ws' := (wM y y1 y2 y3 y4 y5 y6 y7 y8 y9 y10 cI mi ma)) [0, 1, 2, 3, 4, 5, 6, 7, 8, 9, 10] (by decide) rfl
  have hKc := hK.sub (tys' := [(cI, .int)]) [0] rfl
  have hFc := va_free (wc := (wM y y1 y2 y3 y4 y5 y6 y7 y8 y9 y10 cI mi ma)) hD hS hA [0, 1, 2, 3, 4, 5, 6, 7, 8, 9, 10] rfl
  refine va_calli (va_runV (As := [.int (nI k)]) (rest := [.ref y]) ⟨hx, hb, hml, hown, hts⟩ (k_M_lacks0 l dC dI s.heap.size y y1 y2 y3 y4 y5 y6 y7 y8 y9 y10 cI mi ma k hk4) (cwV 1 hts (gd_V in_91 in_93 in_94 in_74 in_92) rfl rfl rfl (by decide +kernel) ⟨Nat.le_of_ble_eq_true rfl, Nat.le_of_ble_eq_true rfl⟩) ⟨fun a U g mk q => by obtain ⟨q0, q1, qP, qK, qD⟩ := q; exact ⟨q0, q1, qP, va_K.moved (u := U) (U := U.calling g mk a) (Vm.Alike.refl U.vm) qK, qD⟩, va_recv hKc hPc (ci := 3) (q0 := 0) rfl rfl, fun U hU hW => ⟨rfl, by rw [hU], by rw [hU]; exact hPc, va_K.moved hW.alike hKc, hDc.weaken (fun _ _ _ _ => trivial)⟩⟩ rfl rfl hl.1 rfl (lv_room (Nat.le_of_ble_eq_true rfl)) dMd_verdict_3 ⟨Nat.le_of_ble_eq_true rfl, Nat.le_of_ble_eq_true rfl⟩) hS (fun q _ h => hFc q h) hFc (fun r_1 u t H1 locs ht hvm hw hB hz1 hk1 hS => ?_)
  obtain ⟨hP1, hK1, hD1⟩ := hB
  rw [ht] at hP1
  obtain ⟨hP, hD⟩ := va_join (wr := []) (w1 := (wM y y1 y2 y3 y4 y5 y6 y7 y8 y9 y10 cI (va_up mi 0 0) ma)) hP hD [0, 1, 2, 3, 4, 5, 6, 7, 8, 9, 10] [] rfl rfl (by decide) (by decide) hk1 hFc hP1 hD1
  generalize H1 = H at hP hS ⊢
  have hP : va_P (dC, dI) vwCl (wM y y1 y2 y3 y4 y5 y6 y7 y8 y9 y10 cI (va_up mi 0 0) ma) H := hP
  have hD : va_D A (wM y y1 y2 y3 y4 y5 y6 y7 y8 y9 y10 cI (va_up mi 0 0) ma) := hD
  have hw : r_1 = 0 := hw
  subst hw
  refine lv_if_eq (tgt := 13) hx hb dMd_verdict_6 (by decide) (fun _ => ?_) (fun c_2 => absurd c_2 (by decide))
  refine lv_iload_n hx hb dMd_verdict_13 rfl (lv_at hl 2 rfl) ?_
  refine vp_callSi (W.runS (As := [.int (nI z)]) (rest := [.ref y]) ⟨hx, hb, hml, hown, hts⟩ (k_M_is16 l (nI z)) (va_cwS 1 hts (gd_S in_72 in_75 in_74 in_73) rfl rfl rfl (by decide +kernel) ⟨Nat.le_of_ble_eq_true rfl, Nat.le_of_ble_eq_true rfl⟩) ⟨fun a U g mk q => q, fun U hU hW => ⟨rfl, trivial⟩⟩ rfl rfl hl.1 rfl (lv_room (Nat.le_of_ble_eq_true rfl)) dMd_verdict_14 ⟨Nat.le_of_ble_eq_true rfl, Nat.le_of_ble_eq_true rfl⟩) (fun r_3 er_4 => ?_)
  subst er_4
  refine lv_if_eq (tgt := 24) hx hb dMd_verdict_17 (by decide) (fun c_5 => ?_) (fun c_5 => ?_)
  · skip
    exact absurd c_5 (s_in_ne hz)
  · skip
    refine lv_iconst (v := 0) hx hb dMd_verdict_20 (by decide) ?_
    refine lv_goto (tgt := 25) hx hb dMd_verdict_21 (by decide) ?_
    refine va_put (D := (dC, dI)) (ci := 3) (v := .int 0) (ty := .int) (C := RMd) (T := TMd) (N := 17) hx hb hts inMd tyMd tyMd_ok nmMd hown hK hP hD hS 0 rfl rfl 0 (by decide) (hts _ in_71) (fun _ h9 => h9) rfl (by decide +kernel) rfl rfl (Nat.le_of_ble_eq_true rfl) dMd_verdict_25 (fun H locs hP hD hS => ?_)
    have hP : va_P (dC, dI) vwCl (wM y y1 y2 y3 y4 y5 y6 y7 y8 y9 y10 cI (va_up mi 0 0) ma) H := hP
    have hD : va_D A (wM y y1 y2 y3 y4 y5 y6 y7 y8 y9 y10 cI (va_up mi 0 0) ma) := hD
    refine lv_aload_n hx hb dMd_verdict_28 rfl (lv_at hl 0 rfl) ?_
    refine va_get (D := (dC, dI)) (ci := 3) (v := .int 0) (C := RMd) (T := TMd) (N := 17) hx hb hts inMd hown hK hP 0 rfl rfl 0 (by decide) (hts _ in_71) (fun _ h9 => h9) rfl dMd_verdict_29 ?_
    refine lv_if_le (tgt := 39) hx hb dMd_verdict_32 (by decide) (fun _ => ?_) (fun c_6 => absurd c_6 (by decide))
    refine lv_aload_n hx hb dMd_verdict_39 rfl (lv_at hl 0 rfl) ?_
    refine va_get (D := (dC, dI)) (ci := 3) (v := .ref y7) (C := RMd) (T := TMd) (N := 17) hx hb hts inMd hown hK hP 0 rfl rfl 8 (by decide) (hts _ in_104) (fun _ h9 => h9) rfl dMd_verdict_40 ?_
    refine lv_bipush (v := nI 16) hx hb dMd_verdict_43 (by decide) ?_
    refine lv_iload_n hx hb dMd_verdict_45 rfl (lv_at hl 1 rfl) ?_
    refine lv_imul hx hb dMd_verdict_46 ?_
    refine lv_ri (y := nI (16 * k)) (pk_mul _ _) ?_
    refine lv_iload_n hx hb dMd_verdict_47 rfl (lv_at hl 2 rfl) ?_
    refine lv_iadd hx hb dMd_verdict_48 ?_
    refine lv_ri (y := nI ((16 * k) + z)) (nI_add _ _) ?_
    refine vq_iald (k := ((16 * k) + z)) (f := ma 6) hx hb hK hP 7 0 rfl rfl rfl (by omega) (by decide) dMd_verdict_49 ?_
    have hP9 : va_P (dC, dI) vwCl (wM y y1 y2 y3 y4 y5 y6 y7 y8 y9 y10 cI (va_up mi 0 0) ma) H := by exact hP
    have hD9 : va_D A (wM y y1 y2 y3 y4 y5 y6 y7 y8 y9 y10 cI (va_up mi 0 0) ma) := by exact hD
    exact W.iret (v := (ma 6) ((16 * k) + z)) hx hb hr (fun t ht hW => ⟨⟨(ma 6) ((16 * k) + z), (), rfl, rfl, by rw [ht]; exact hP9, va_K.moved hW.alike hK, hD9⟩, hS.F ht⟩) hS.2.2 dMd_verdict_50
set_option maxHeartbeats 4000000 in
set_option maxRecDepth 100000 in
/-- verdict(k, z), no session -/
theorem k_M_verdictB (l : Launch) (dC : Nat → ClassId) (dI : Nat → Nat → Nat) (sz : Nat) (y y1 y2 y3 y4 y5 y6 y7 y8 y9 y10 : Nat) (cI : ClassId) (mi : Nat → Int32) (ma : Nat → Nat → Int32) (k : Nat) (z : Int32) (hk4 : k < 4) (hz : s_in z = 0) : Met l yMd_verdict wsMd_verdict ({ frames := 3, cells := 0, slots := 0, locals := 120 }) (va_Pc [.ref y, .int (nI k), .int z] (fun U => U.heap.size = sz ∧ va_P (dC, dI) vwCl (wM y y1 y2 y3 y4 y5 y6 y7 y8 y9 y10 cI mi ma) U.heap ∧ va_K (dC, dI) vwCl [(cI, .int)] U ∧ va_D (fun _ => True) (wM y y1 y2 y3 y4 y5 y6 y7 y8 y9 y10 cI mi ma))) (va_Qi (fun (r : Int32) (_ : Unit) => r = 0) (fun _ t => va_P (dC, dI) vwCl (wM y y1 y2 y3 y4 y5 y6 y7 y8 y9 y10 cI (va_up mi 0 2) ma) t.heap ∧ va_K (dC, dI) vwCl [(cI, .int)] t ∧ va_D (va_A (wM y y1 y2 y3 y4 y5 y6 y7 y8 y9 y10 cI mi ma) sz) (wM y y1 y2 y3 y4 y5 y6 y7 y8 y9 y10 cI (va_up mi 0 2) ma)) (va_A (wM y y1 y2 y3 y4 y5 y6 y7 y8 y9 y10 cI mi ma) sz)) 0 0 (va_A (wM y y1 y2 y3 y4 y5 y6 y7 y8 y9 y10 cI mi ma) sz) := by
  refine Met.ofW (cc := cMd_verdict) (maxL := 3) (ret := (some .int)) (by decide) rfl ?_
  intro p e s m args below meth c s₁ B hml hv
  obtain ⟨rfl, hsz, hP, hK, hD0⟩ := hv
  have hx := B.exec
  have hb := B.bytes
  have hr := B.returns
  have hts0 := atoms_spec (ws := wsMd_verdict) B.pre
  have hts := fun (w : Cond) (h : w ∈ lw_g) => hts0 w (List.mem_cons_of_mem _ h)
  have hown : s.vm.findClass RMd = some m.cls := findClass_of_methodNamed B.named
  have hlocks := B.notSynchronized
  subst hsz
  have hD := hD0.self (sz := s.heap.size)
  generalize hAe : va_A (wM y y1 y2 y3 y4 y5 y6 y7 y8 y9 y10 cI mi ma) s.heap.size = A at hD ⊢
  have hA : ∀ q : Nat, s.heap.size ≤ q → A q := fun q h => by rw [← hAe]; exact Or.inr h
  have hS : va_S A s.heap s.heap [] := va_S.rf
  have hP : va_P (dC, dI) vwCl (wM y y1 y2 y3 y4 y5 y6 y7 y8 y9 y10 cI mi ma) s.heap := hP
  have hl := lv_entry ([.ref y, .int (nI k), .int z]) (n := 3) (Nat.le_of_ble_eq_true rfl)
  rw [lg_entry_eq]
  generalize (lg_sl ([.ref y, .int (nI k), .int z]) ++ List.replicate (3 - (lg_sl ([.ref y, .int (nI k), .int z])).length) Slot.unset).toArray = ls at hl ⊢
  have hl : lv_has ls 3 [(0, .ref y), (1, .int (nI k)), (2, .int z)] := hl
  refine lv_aload_n hx hb dMd_verdict_0 rfl (lv_at hl 0 rfl) ?_
  refine lv_aload_n hx hb dMd_verdict_1 rfl (lv_at hl 0 rfl) ?_
  refine lv_iload_n hx hb dMd_verdict_2 rfl (lv_at hl 1 rfl) ?_
  have hPc := hP.sub (ws' := (wM y y1 y2 y3 y4 y5 y6 y7 y8 y9 y10 cI mi ma)) [0, 1, 2, 3, 4, 5, 6, 7, 8, 9, 10] rfl
  have hDc := hD.sub (ws' := (wM y y1 y2 y3 y4 y5 y6 y7 y8 y9 y10 cI mi ma)) [0, 1, 2, 3, 4, 5, 6, 7, 8, 9, 10] (by decide) rfl
  have hKc := hK.sub (tys' := [(cI, .int)]) [0] rfl
  have hFc := va_free (wc := (wM y y1 y2 y3 y4 y5 y6 y7 y8 y9 y10 cI mi ma)) hD hS hA [0, 1, 2, 3, 4, 5, 6, 7, 8, 9, 10] rfl
  refine va_calli (va_runV (As := [.int (nI k)]) (rest := [.ref y]) ⟨hx, hb, hml, hown, hts⟩ (k_M_lacks0 l dC dI s.heap.size y y1 y2 y3 y4 y5 y6 y7 y8 y9 y10 cI mi ma k hk4) (cwV 1 hts (gd_V in_91 in_93 in_94 in_74 in_92) rfl rfl rfl (by decide +kernel) ⟨Nat.le_of_ble_eq_true rfl, Nat.le_of_ble_eq_true rfl⟩) ⟨fun a U g mk q => by obtain ⟨q0, q1, qP, qK, qD⟩ := q; exact ⟨q0, q1, qP, va_K.moved (u := U) (U := U.calling g mk a) (Vm.Alike.refl U.vm) qK, qD⟩, va_recv hKc hPc (ci := 3) (q0 := 0) rfl rfl, fun U hU hW => ⟨rfl, by rw [hU], by rw [hU]; exact hPc, va_K.moved hW.alike hKc, hDc.weaken (fun _ _ _ _ => trivial)⟩⟩ rfl rfl hl.1 rfl (lv_room (Nat.le_of_ble_eq_true rfl)) dMd_verdict_3 ⟨Nat.le_of_ble_eq_true rfl, Nat.le_of_ble_eq_true rfl⟩) hS (fun q _ h => hFc q h) hFc (fun r_1 u t H1 locs ht hvm hw hB hz1 hk1 hS => ?_)
  obtain ⟨hP1, hK1, hD1⟩ := hB
  rw [ht] at hP1
  obtain ⟨hP, hD⟩ := va_join (wr := []) (w1 := (wM y y1 y2 y3 y4 y5 y6 y7 y8 y9 y10 cI (va_up mi 0 0) ma)) hP hD [0, 1, 2, 3, 4, 5, 6, 7, 8, 9, 10] [] rfl rfl (by decide) (by decide) hk1 hFc hP1 hD1
  generalize H1 = H at hP hS ⊢
  have hP : va_P (dC, dI) vwCl (wM y y1 y2 y3 y4 y5 y6 y7 y8 y9 y10 cI (va_up mi 0 0) ma) H := hP
  have hD : va_D A (wM y y1 y2 y3 y4 y5 y6 y7 y8 y9 y10 cI (va_up mi 0 0) ma) := hD
  have hw : r_1 = 0 := hw
  subst hw
  refine lv_if_eq (tgt := 13) hx hb dMd_verdict_6 (by decide) (fun _ => ?_) (fun c_2 => absurd c_2 (by decide))
  refine lv_iload_n hx hb dMd_verdict_13 rfl (lv_at hl 2 rfl) ?_
  refine vp_callSi (W.runS (As := [.int z]) (rest := [.ref y]) ⟨hx, hb, hml, hown, hts⟩ (k_M_is16 l z) (va_cwS 1 hts (gd_S in_72 in_75 in_74 in_73) rfl rfl rfl (by decide +kernel) ⟨Nat.le_of_ble_eq_true rfl, Nat.le_of_ble_eq_true rfl⟩) ⟨fun a U g mk q => q, fun U hU hW => ⟨rfl, trivial⟩⟩ rfl rfl hl.1 rfl (lv_room (Nat.le_of_ble_eq_true rfl)) dMd_verdict_14 ⟨Nat.le_of_ble_eq_true rfl, Nat.le_of_ble_eq_true rfl⟩) (fun r_3 er_4 => ?_)
  subst er_4
  refine lv_if_eq (tgt := 24) hx hb dMd_verdict_17 (by decide) (fun c_5 => ?_) (fun c_5 => ?_)
  · skip
    refine lv_iconst (v := 2) hx hb dMd_verdict_24 (by decide) ?_
    refine va_put (D := (dC, dI)) (ci := 3) (v := .int 2) (ty := .int) (C := RMd) (T := TMd) (N := 17) hx hb hts inMd tyMd tyMd_ok nmMd hown hK hP hD hS 0 rfl rfl 0 (by decide) (hts _ in_71) (fun _ h9 => h9) rfl (by decide +kernel) rfl rfl (Nat.le_of_ble_eq_true rfl) dMd_verdict_25 (fun H locs hP hD hS => ?_)
    have hP : va_P (dC, dI) vwCl (wM y y1 y2 y3 y4 y5 y6 y7 y8 y9 y10 cI (va_up mi 0 2) ma) H := hP
    have hD : va_D A (wM y y1 y2 y3 y4 y5 y6 y7 y8 y9 y10 cI (va_up mi 0 2) ma) := hD
    refine lv_aload_n hx hb dMd_verdict_28 rfl (lv_at hl 0 rfl) ?_
    refine va_get (D := (dC, dI)) (ci := 3) (v := .int 2) (C := RMd) (T := TMd) (N := 17) hx hb hts inMd hown hK hP 0 rfl rfl 0 (by decide) (hts _ in_71) (fun _ h9 => h9) rfl dMd_verdict_29 ?_
    refine lv_if_le (tgt := 39) hx hb dMd_verdict_32 (by decide) (fun c_6 => absurd c_6 (by decide)) (fun _ => ?_)
    refine lv_iconst (v := 0) hx hb dMd_verdict_35 (by decide) ?_
    refine lv_goto (tgt := 50) hx hb dMd_verdict_36 (by decide) ?_
    have hP9 : va_P (dC, dI) vwCl (wM y y1 y2 y3 y4 y5 y6 y7 y8 y9 y10 cI (va_up mi 0 2) ma) H := by exact hP
    have hD9 : va_D A (wM y y1 y2 y3 y4 y5 y6 y7 y8 y9 y10 cI (va_up mi 0 2) ma) := by exact hD
    exact W.iret (v := 0) hx hb hr (fun t ht hW => ⟨⟨0, (), rfl, rfl, by rw [ht]; exact hP9, va_K.moved hW.alike hK, hD9⟩, hS.F ht⟩) hS.2.2 dMd_verdict_50
  · skip
    exact absurd hz c_5
set_option maxHeartbeats 4000000 in
set_option maxRecDepth 100000 in
/-- verdict(x, z), no fold -/
theorem k_M_verdictN (l : Launch) (dC : Nat → ClassId) (dI : Nat → Nat → Nat) (sz : Nat) (y y1 y2 y3 y4 y5 y6 y7 y8 y9 y10 : Nat) (cI : ClassId) (mi : Nat → Int32) (ma : Nat → Nat → Int32) (x z : Int32) (hfx : s_lk x = 1) : Met l yMd_verdict wsMd_verdict ({ frames := 3, cells := 0, slots := 0, locals := 120 }) (va_Pc [.ref y, .int x, .int z] (fun U => U.heap.size = sz ∧ va_P (dC, dI) vwCl (wM y y1 y2 y3 y4 y5 y6 y7 y8 y9 y10 cI mi ma) U.heap ∧ va_K (dC, dI) vwCl [(cI, .int)] U ∧ va_D (fun _ => True) (wM y y1 y2 y3 y4 y5 y6 y7 y8 y9 y10 cI mi ma))) (va_Qi (fun (r : Int32) (_ : Unit) => r = 0) (fun _ t => va_P (dC, dI) vwCl (wM y y1 y2 y3 y4 y5 y6 y7 y8 y9 y10 cI (va_up mi 0 1) ma) t.heap ∧ va_K (dC, dI) vwCl [(cI, .int)] t ∧ va_D (va_A (wM y y1 y2 y3 y4 y5 y6 y7 y8 y9 y10 cI mi ma) sz) (wM y y1 y2 y3 y4 y5 y6 y7 y8 y9 y10 cI (va_up mi 0 1) ma)) (va_A (wM y y1 y2 y3 y4 y5 y6 y7 y8 y9 y10 cI mi ma) sz)) 0 0 (va_A (wM y y1 y2 y3 y4 y5 y6 y7 y8 y9 y10 cI mi ma) sz) := by
  refine Met.ofW (cc := cMd_verdict) (maxL := 3) (ret := (some .int)) (by decide) rfl ?_
  intro p e s m args below meth c s₁ B hml hv
  obtain ⟨rfl, hsz, hP, hK, hD0⟩ := hv
  have hx := B.exec
  have hb := B.bytes
  have hr := B.returns
  have hts0 := atoms_spec (ws := wsMd_verdict) B.pre
  have hts := fun (w : Cond) (h : w ∈ lw_g) => hts0 w (List.mem_cons_of_mem _ h)
  have hown : s.vm.findClass RMd = some m.cls := findClass_of_methodNamed B.named
  have hlocks := B.notSynchronized
  subst hsz
  have hD := hD0.self (sz := s.heap.size)
  generalize hAe : va_A (wM y y1 y2 y3 y4 y5 y6 y7 y8 y9 y10 cI mi ma) s.heap.size = A at hD ⊢
  have hA : ∀ q : Nat, s.heap.size ≤ q → A q := fun q h => by rw [← hAe]; exact Or.inr h
  have hS : va_S A s.heap s.heap [] := va_S.rf
  have hP : va_P (dC, dI) vwCl (wM y y1 y2 y3 y4 y5 y6 y7 y8 y9 y10 cI mi ma) s.heap := hP
  have hl := lv_entry ([.ref y, .int x, .int z]) (n := 3) (Nat.le_of_ble_eq_true rfl)
  rw [lg_entry_eq]
  generalize (lg_sl ([.ref y, .int x, .int z]) ++ List.replicate (3 - (lg_sl ([.ref y, .int x, .int z])).length) Slot.unset).toArray = ls at hl ⊢
  have hl : lv_has ls 3 [(0, .ref y), (1, .int x), (2, .int z)] := hl
  refine lv_aload_n hx hb dMd_verdict_0 rfl (lv_at hl 0 rfl) ?_
  refine lv_aload_n hx hb dMd_verdict_1 rfl (lv_at hl 0 rfl) ?_
  refine lv_iload_n hx hb dMd_verdict_2 rfl (lv_at hl 1 rfl) ?_
  have hPc := hP.sub (ws' := (wM y y1 y2 y3 y4 y5 y6 y7 y8 y9 y10 cI mi ma)) [0, 1, 2, 3, 4, 5, 6, 7, 8, 9, 10] rfl
  have hDc := hD.sub (ws' := (wM y y1 y2 y3 y4 y5 y6 y7 y8 y9 y10 cI mi ma)) [0, 1, 2, 3, 4, 5, 6, 7, 8, 9, 10] (by decide) rfl
  have hKc := hK.sub (tys' := [(cI, .int)]) [0] rfl
  have hFc := va_free (wc := (wM y y1 y2 y3 y4 y5 y6 y7 y8 y9 y10 cI mi ma)) hD hS hA [0, 1, 2, 3, 4, 5, 6, 7, 8, 9, 10] rfl
  refine va_calli (va_runV (As := [.int x]) (rest := [.ref y]) ⟨hx, hb, hml, hown, hts⟩ (k_M_lacks1 l dC dI s.heap.size y y1 y2 y3 y4 y5 y6 y7 y8 y9 y10 cI mi ma x hfx) (cwV 1 hts (gd_V in_91 in_93 in_94 in_74 in_92) rfl rfl rfl (by decide +kernel) ⟨Nat.le_of_ble_eq_true rfl, Nat.le_of_ble_eq_true rfl⟩) ⟨fun a U g mk q => by obtain ⟨q0, q1, qP, qK, qD⟩ := q; exact ⟨q0, q1, qP, va_K.moved (u := U) (U := U.calling g mk a) (Vm.Alike.refl U.vm) qK, qD⟩, va_recv hKc hPc (ci := 3) (q0 := 0) rfl rfl, fun U hU hW => ⟨rfl, by rw [hU], by rw [hU]; exact hPc, va_K.moved hW.alike hKc, hDc.weaken (fun _ _ _ _ => trivial)⟩⟩ rfl rfl hl.1 rfl (lv_room (Nat.le_of_ble_eq_true rfl)) dMd_verdict_3 ⟨Nat.le_of_ble_eq_true rfl, Nat.le_of_ble_eq_true rfl⟩) hS (fun q _ h => hFc q h) hFc (fun r_1 u t H1 locs ht hvm hw hB hz1 hk1 hS => ?_)
  obtain ⟨hP1, hK1, hD1⟩ := hB
  rw [ht] at hP1
  obtain ⟨hP, hD⟩ := va_join (wr := []) (w1 := (wM y y1 y2 y3 y4 y5 y6 y7 y8 y9 y10 cI (va_up mi 0 1) ma)) hP hD [0, 1, 2, 3, 4, 5, 6, 7, 8, 9, 10] [] rfl rfl (by decide) (by decide) hk1 hFc hP1 hD1
  generalize H1 = H at hP hS ⊢
  have hP : va_P (dC, dI) vwCl (wM y y1 y2 y3 y4 y5 y6 y7 y8 y9 y10 cI (va_up mi 0 1) ma) H := hP
  have hD : va_D A (wM y y1 y2 y3 y4 y5 y6 y7 y8 y9 y10 cI (va_up mi 0 1) ma) := hD
  have hw : r_1 = 1 := hw
  subst hw
  refine lv_if_eq (tgt := 13) hx hb dMd_verdict_6 (by decide) (fun c_2 => absurd c_2 (by decide)) (fun _ => ?_)
  refine lv_iconst (v := 1) hx hb dMd_verdict_9 (by decide) ?_
  refine lv_goto (tgt := 25) hx hb dMd_verdict_10 (by decide) ?_
  refine va_put (D := (dC, dI)) (ci := 3) (v := .int 1) (ty := .int) (C := RMd) (T := TMd) (N := 17) hx hb hts inMd tyMd tyMd_ok nmMd hown hK hP hD hS 0 rfl rfl 0 (by decide) (hts _ in_71) (fun _ h9 => h9) rfl (by decide +kernel) rfl rfl (Nat.le_of_ble_eq_true rfl) dMd_verdict_25 (fun H locs hP hD hS => ?_)
  have hP : va_P (dC, dI) vwCl (wM y y1 y2 y3 y4 y5 y6 y7 y8 y9 y10 cI (va_up mi 0 1) ma) H := hP
  have hD : va_D A (wM y y1 y2 y3 y4 y5 y6 y7 y8 y9 y10 cI (va_up mi 0 1) ma) := hD
  refine lv_aload_n hx hb dMd_verdict_28 rfl (lv_at hl 0 rfl) ?_
  refine va_get (D := (dC, dI)) (ci := 3) (v := .int 1) (C := RMd) (T := TMd) (N := 17) hx hb hts inMd hown hK hP 0 rfl rfl 0 (by decide) (hts _ in_71) (fun _ h9 => h9) rfl dMd_verdict_29 ?_
  refine lv_if_le (tgt := 39) hx hb dMd_verdict_32 (by decide) (fun c_3 => absurd c_3 (by decide)) (fun _ => ?_)
  refine lv_iconst (v := 0) hx hb dMd_verdict_35 (by decide) ?_
  refine lv_goto (tgt := 50) hx hb dMd_verdict_36 (by decide) ?_
  have hP9 : va_P (dC, dI) vwCl (wM y y1 y2 y3 y4 y5 y6 y7 y8 y9 y10 cI (va_up mi 0 1) ma) H := by exact hP
  have hD9 : va_D A (wM y y1 y2 y3 y4 y5 y6 y7 y8 y9 y10 cI (va_up mi 0 1) ma) := by exact hD
  exact W.iret (v := 0) hx hb hr (fun t ht hW => ⟨⟨0, (), rfl, rfl, by rw [ht]; exact hP9, va_K.moved hW.alike hK, hD9⟩, hS.F ht⟩) hS.2.2 dMd_verdict_50
