theorem m_ap_n {mi : Nat → Int32} {ma : Nat → Nat → Int32} {k n se b : Nat} (h : m_dec mi ma k n se b = -1) : m_ap mi ma k n se b = (-1, ma) := by
  unfold m_ap; rw [if_pos h]
theorem m_ap_0 {mi : Nat → Int32} {ma : Nat → Nat → Int32} {k n se b : Nat} (h : m_dec mi ma k n se b = 0) : m_ap mi ma k n se b = (0, m_ap_ mi ma k n 0 (m_cp (ma 8) (16 * (64 * k + (n + 1) % 64)) (16 * (64 * k + n % 64)) 16) (ma 5) (ma 6) 0 0 1) := by
  unfold m_ap; rw [if_neg (by rw [h]; decide), if_pos h]
theorem m_ap_1 {mi : Nat → Int32} {ma : Nat → Nat → Int32} {k n se b : Nat} (h : m_dec mi ma k n se b = 1) : m_ap mi ma k n se b = (1, m_ap_ mi ma k n (mi 6) (m_av (mi 6) (ma 9) (64 * k + (n + 1) % 64) (64 * k + n % 64) (ma 8) 16) (upd (ma 5) (16 * k + se) (mi 3)) (upd (ma 6) (16 * k + se) 1) 1 0 0) := by
  unfold m_ap; rw [if_neg (by rw [h]; decide), if_neg (by rw [h]; decide), if_pos h]
theorem m_ap_2 {mi : Nat → Int32} {ma : Nat → Nat → Int32} {k n se b : Nat} (h : m_dec mi ma k n se b = 2) : m_ap mi ma k n se b = (2, m_ap_ mi ma k n 0 (m_cp (ma 8) (16 * (64 * k + (n + 1) % 64)) (16 * (64 * k + n % 64)) 16) (upd (ma 5) (16 * k + se) (mi 3)) (upd (ma 6) (16 * k + se) 2) 0 1 0) := by
  unfold m_ap; rw [if_neg (by rw [h]; decide), if_neg (by rw [h]; decide), if_neg (by rw [h]; decide)]
set_option maxHeartbeats 4000000 in
set_option maxRecDepth 100000 in
/-- apply(k) -/
theorem k_M_apply (l : Launch) (dC : Nat → ClassId) (dI : Nat → Nat → Nat) (sz : Nat) (y y1 y2 y3 y4 y5 y6 y7 y8 y9 y10 : Nat) (cI : ClassId) (mi : Nat → Int32) (ma : Nat → Nat → Int32) (k n : Nat) (hk4 : k < 4) (hn : n < 2 ^ 30) (hix : ma 0 k = nI n) (se b : Nat) (hse : mi 2 = nI se) (hs16 : se < 16) (hsn : mi 4 = nI b) (hb31 : b < 2 ^ 31) : Met l yMd_apply wsMd_apply ({ frames := 3, cells := 0, slots := 0, locals := 120 }) (va_Pc [.ref y, .int (nI k)] (fun U => U.heap.size = sz ∧ va_P (dC, dI) vwCl (wM y y1 y2 y3 y4 y5 y6 y7 y8 y9 y10 cI mi ma) U.heap ∧ va_K (dC, dI) vwCl [(cI, .int)] U ∧ va_D (fun _ => True) (wM y y1 y2 y3 y4 y5 y6 y7 y8 y9 y10 cI mi ma))) (va_Qi (fun (r : Int32) (_ : Unit) => r = (m_ap mi ma k n se b).1) (fun _ t => va_P (dC, dI) vwCl (wM y y1 y2 y3 y4 y5 y6 y7 y8 y9 y10 cI (va_up mi 0 0) ((m_ap mi ma k n se b).2)) t.heap ∧ va_K (dC, dI) vwCl [(cI, .int)] t ∧ va_D (va_A (wM y y1 y2 y3 y4 y5 y6 y7 y8 y9 y10 cI mi ma) sz) (wM y y1 y2 y3 y4 y5 y6 y7 y8 y9 y10 cI (va_up mi 0 0) ((m_ap mi ma k n se b).2))) (va_A (wM y y1 y2 y3 y4 y5 y6 y7 y8 y9 y10 cI mi ma) sz)) 0 0 (va_A (wM y y1 y2 y3 y4 y5 y6 y7 y8 y9 y10 cI mi ma) sz) := by
  refine Met.ofW (cc := cMd_apply) (maxL := 8) (ret := (some .int)) (by decide) rfl ?_
  intro p e s m args below meth c s₁ B hml hv
  obtain ⟨rfl, hsz, hP, hK, hD0⟩ := hv
  have hx := B.exec
  have hb := B.bytes
  have hr := B.returns
  have hts0 := atoms_spec (ws := wsMd_apply) B.pre
  have hts := fun (w : Cond) (h : w ∈ lw_g) => hts0 w (List.mem_cons_of_mem _ h)
  have hown : s.vm.findClass RMd = some m.cls := findClass_of_methodNamed B.named
  have hlocks := B.notSynchronized
  subst hsz
  have hD := hD0.self (sz := s.heap.size)
  generalize hAe : va_A (wM y y1 y2 y3 y4 y5 y6 y7 y8 y9 y10 cI mi ma) s.heap.size = A at hD ⊢
  have hA : ∀ q : Nat, s.heap.size ≤ q → A q := fun q h => by rw [← hAe]; exact Or.inr h
  have hS : va_S A s.heap s.heap [] := va_S.rf
  have hP : va_P (dC, dI) vwCl (wM y y1 y2 y3 y4 y5 y6 y7 y8 y9 y10 cI mi ma) s.heap := hP
  have hl := lv_entry ([.ref y, .int (nI k)]) (n := 8) (Nat.le_of_ble_eq_true rfl)
  rw [lg_entry_eq]
  generalize (lg_sl ([.ref y, .int (nI k)]) ++ List.replicate (8 - (lg_sl ([.ref y, .int (nI k)])).length) Slot.unset).toArray = ls at hl ⊢
  have hl : lv_has ls 8 [(0, .ref y), (1, .int (nI k))] := hl
  refine lv_aload_n hx hb dMd_apply_0 rfl (lv_at hl 0 rfl) ?_
  refine lv_iload_n hx hb dMd_apply_1 rfl (lv_at hl 1 rfl) ?_
  have hPc := hP.sub (ws' := (wM y y1 y2 y3 y4 y5 y6 y7 y8 y9 y10 cI mi ma)) [0, 1, 2, 3, 4, 5, 6, 7, 8, 9, 10] rfl
  have hDc := hD.sub (ws' := (wM y y1 y2 y3 y4 y5 y6 y7 y8 y9 y10 cI mi ma)) [0, 1, 2, 3, 4, 5, 6, 7, 8, 9, 10] (by decide) rfl
  have hKc := hK.sub (tys' := [(cI, .int)]) [0] rfl
  have hFc := va_free (wc := (wM y y1 y2 y3 y4 y5 y6 y7 y8 y9 y10 cI mi ma)) hD hS hA [0, 1, 2, 3, 4, 5, 6, 7, 8, 9, 10] rfl
  refine va_calli (va_runV (As := [.int (nI k)]) (rest := []) ⟨hx, hb, hml, hown, hts⟩ (k_M_lacks0 l dC dI s.heap.size y y1 y2 y3 y4 y5 y6 y7 y8 y9 y10 cI mi ma k hk4) (cwV 1 hts (gd_V in_91 in_93 in_94 in_74 in_92) rfl rfl rfl (by decide +kernel) ⟨Nat.le_of_ble_eq_true rfl, Nat.le_of_ble_eq_true rfl⟩) ⟨fun a U g mk q => by obtain ⟨q0, q1, qP, qK, qD⟩ := q; exact ⟨q0, q1, qP, va_K.moved (u := U) (U := U.calling g mk a) (Vm.Alike.refl U.vm) qK, qD⟩, va_recv hKc hPc (ci := 3) (q0 := 0) rfl rfl, fun U hU hW => ⟨rfl, by rw [hU], by rw [hU]; exact hPc, va_K.moved hW.alike hKc, hDc.weaken (fun _ _ _ _ => trivial)⟩⟩ rfl rfl hl.1 rfl (lv_room (Nat.le_of_ble_eq_true rfl)) dMd_apply_2 ⟨Nat.le_of_ble_eq_true rfl, Nat.le_of_ble_eq_true rfl⟩) hS (fun q _ h => hFc q h) hFc (fun r_1 u t H1 locs ht hvm hw hB hz1 hk1 hS => ?_)
  obtain ⟨hP1, hK1, hD1⟩ := hB
  rw [ht] at hP1
  obtain ⟨hP, hD⟩ := va_join (wr := []) (w1 := (wM y y1 y2 y3 y4 y5 y6 y7 y8 y9 y10 cI (va_up mi 0 0) ma)) hP hD [0, 1, 2, 3, 4, 5, 6, 7, 8, 9, 10] [] rfl rfl (by decide) (by decide) hk1 hFc hP1 hD1
  generalize H1 = H at hP hS ⊢
  have hP : va_P (dC, dI) vwCl (wM y y1 y2 y3 y4 y5 y6 y7 y8 y9 y10 cI (va_up mi 0 0) ma) H := hP
  have hD : va_D A (wM y y1 y2 y3 y4 y5 y6 y7 y8 y9 y10 cI (va_up mi 0 0) ma) := hD
  have hw : r_1 = 0 := hw
  subst hw
  refine lv_if_eq (tgt := 10) hx hb dMd_apply_5 (by decide) (fun _ => ?_) (fun c_2 => absurd c_2 (by decide))
  refine lv_aload_n hx hb dMd_apply_10 rfl (lv_at hl 0 rfl) ?_
  refine lv_iload_n hx hb dMd_apply_11 rfl (lv_at hl 1 rfl) ?_
  have hPc := hP.sub (ws' := (wM y y1 y2 y3 y4 y5 y6 y7 y8 y9 y10 cI (va_up mi 0 0) ma)) [0, 1, 2, 3, 4, 5, 6, 7, 8, 9, 10] rfl
  have hKc := hK.sub (tys' := [(cI, .int)]) [0] rfl
  refine vp_callSi (W.runV (As := [.int (nI k)]) (rest := []) ⟨hx, hb, hml, hown, hts⟩ (k_M_decided l dC dI y y1 y2 y3 y4 y5 y6 y7 y8 y9 y10 cI (va_up mi 0 0) ma k n hk4 hn hix se b hse hs16 hsn hb31) (cwV 1 hts (gd_V in_95 in_97 in_98 in_74 in_96) rfl rfl rfl (by decide +kernel) ⟨Nat.le_of_ble_eq_true rfl, Nat.le_of_ble_eq_true rfl⟩) ⟨fun a U g mk q => by obtain ⟨q0, qP, qK⟩ := q; exact ⟨q0, qP, va_K.moved (u := U) (U := U.calling g mk a) (Vm.Alike.refl U.vm) qK⟩, va_recv hKc hPc (ci := 3) (q0 := 0) rfl rfl, fun U hU hW => ⟨rfl, by rw [hU]; exact hPc, va_K.moved hW.alike hKc⟩⟩ rfl rfl hl.1 rfl (lv_room (Nat.le_of_ble_eq_true rfl)) dMd_apply_12 ⟨Nat.le_of_ble_eq_true rfl, Nat.le_of_ble_eq_true rfl⟩) (fun r_3 er_4 => ?_)
  subst er_4
  rcases m_dec_in mi ma k n se b with hv | hv | hv | hv
  · skip
    refine lv_ri (y := (-1)) hv ?_
    refine lv_istore_n (lv' := [(2, .int (-1)), (0, .ref y), (1, .int (nI k))]) hx hb dMd_apply_15 rfl hl (by decide) rfl (fun ls hl => ?_)
    refine lv_iload_n hx hb dMd_apply_16 rfl (lv_at hl 0 rfl) ?_
    refine lv_if_ge (tgt := 22) hx hb dMd_apply_17 (by decide) (fun c_5 => absurd c_5 (by decide)) (fun _ => ?_)
    refine lv_iconst (v := (-1)) hx hb dMd_apply_20 (by decide) ?_
    have hP9 : va_P (dC, dI) vwCl (wM y y1 y2 y3 y4 y5 y6 y7 y8 y9 y10 cI (va_up mi 0 0) ((m_ap mi ma k n se b).2)) H := by rw [m_ap_n hv]; exact hP
    have hD9 : va_D A (wM y y1 y2 y3 y4 y5 y6 y7 y8 y9 y10 cI (va_up mi 0 0) ((m_ap mi ma k n se b).2)) := by rw [m_ap_n hv]; exact hD
    exact W.iret (v := (-1)) hx hb hr (fun t ht hW => ⟨⟨(-1), (), rfl, by rw [m_ap_n hv], by rw [ht]; exact hP9, va_K.moved hW.alike hK, hD9⟩, hS.F ht⟩) hS.2.2 dMd_apply_21
  · skip
    refine lv_ri (y := 0) hv ?_
    refine lv_istore_n (lv' := [(2, .int 0), (0, .ref y), (1, .int (nI k))]) hx hb dMd_apply_15 rfl hl (by decide) rfl (fun ls hl => ?_)
    refine lv_iload_n hx hb dMd_apply_16 rfl (lv_at hl 0 rfl) ?_
    refine lv_if_ge (tgt := 22) hx hb dMd_apply_17 (by decide) (fun _ => ?_) (fun c_6 => absurd c_6 (by decide))
    refine lv_aload_n hx hb dMd_apply_22 rfl (lv_at hl 1 rfl) ?_
    refine va_get (D := (dC, dI)) (ci := 3) (v := .ref y1) (C := RMd) (T := TMd) (N := 17) hx hb hts inMd hown hK hP 0 rfl rfl 2 (by decide) (hts _ in_82) (fun _ h9 => h9) rfl dMd_apply_23 ?_
    refine lv_iload_n hx hb dMd_apply_26 rfl (lv_at hl 2 rfl) ?_
    refine lv_dup2_11 hx hb dMd_apply_27 rfl rfl ?_
    refine vq_iald (k := k) (f := ma 0) hx hb hK hP 1 0 rfl rfl rfl (by omega) (by decide) dMd_apply_28 ?_
    refine lv_ri (y := nI n) hix ?_
    refine lv_iconst (v := 1) hx hb dMd_apply_29 (by decide) ?_
    refine lv_iadd hx hb dMd_apply_30 ?_
    refine lv_ri (y := nI (n + 1)) (nI_1 _) ?_
    refine vq_iast (k := k) (f := ma 0) hx hb hK hP hD hS 1 0 rfl rfl rfl (by omega) (by decide) dMd_apply_31 (fun H locs hP hD hS => ?_)
    have hP : va_P (dC, dI) vwCl (wM y y1 y2 y3 y4 y5 y6 y7 y8 y9 y10 cI (va_up mi 0 0) (va_up ma 0 (upd (ma 0) k (nI (n + 1))))) H := hP
    have hD : va_D A (wM y y1 y2 y3 y4 y5 y6 y7 y8 y9 y10 cI (va_up mi 0 0) (va_up ma 0 (upd (ma 0) k (nI (n + 1))))) := hD
    refine lv_aload_n hx hb dMd_apply_32 rfl (lv_at hl 1 rfl) ?_
    refine va_get (D := (dC, dI)) (ci := 3) (v := .ref y1) (C := RMd) (T := TMd) (N := 17) hx hb hts inMd hown hK hP 0 rfl rfl 2 (by decide) (hts _ in_82) (fun _ h9 => h9) rfl dMd_apply_33 ?_
    refine lv_iload_n hx hb dMd_apply_36 rfl (lv_at hl 2 rfl) ?_
    refine vq_iald (k := k) (f := upd (ma 0) k (nI (n + 1))) hx hb hK hP 1 0 rfl rfl rfl (by omega) (by decide) dMd_apply_37 ?_
    refine lv_ri (y := nI (n + 1)) pk_us ?_
    refine lv_istore_n (lv' := [(3, .int (nI (n + 1))), (2, .int 0), (0, .ref y), (1, .int (nI k))]) hx hb dMd_apply_38 rfl hl (by decide) rfl (fun ls hl => ?_)
    refine lv_bipush (v := nI 64) hx hb dMd_apply_39 (by decide) ?_
    refine lv_iload_n hx hb dMd_apply_41 rfl (lv_at hl 3 rfl) ?_
    refine lv_imul hx hb dMd_apply_42 ?_
    refine lv_ri (y := nI (64 * k)) (pk_mul _ _) ?_
    refine lv_iload_n hx hb dMd_apply_43 rfl (lv_at hl 0 rfl) ?_
    refine lv_bipush (v := nI 64) hx hb dMd_apply_44 (by decide) ?_
    refine lv_irem hx hb dMd_apply_46 (by decide) ?_
    refine lv_ri (y := nI ((n + 1) % 64)) (pk_rem (by omega) (by decide) (by decide)) ?_
    refine lv_iadd hx hb dMd_apply_47 ?_
    refine lv_ri (y := nI ((64 * k) + ((n + 1) % 64))) (nI_add _ _) ?_
    refine lv_istore (lv' := [(4, .int (nI ((64 * k) + ((n + 1) % 64)))), (3, .int (nI (n + 1))), (2, .int 0), (0, .ref y), (1, .int (nI k))]) hx hb dMd_apply_48 hl (by decide) rfl (fun ls hl => ?_)
    refine lv_bipush (v := nI 64) hx hb dMd_apply_50 (by decide) ?_
    refine lv_iload_n hx hb dMd_apply_52 rfl (lv_at hl 4 rfl) ?_
    refine lv_imul hx hb dMd_apply_53 ?_
    refine lv_ri (y := nI (64 * k)) (pk_mul _ _) ?_
    refine lv_iload_n hx hb dMd_apply_54 rfl (lv_at hl 1 rfl) ?_
    refine lv_iconst (v := 1) hx hb dMd_apply_55 (by decide) ?_
    refine lv_isub hx hb dMd_apply_56 ?_
    refine lv_ri (y := nI n) (nI_pred n) ?_
    refine lv_bipush (v := nI 64) hx hb dMd_apply_57 (by decide) ?_
    refine lv_irem hx hb dMd_apply_59 (by decide) ?_
    refine lv_ri (y := nI (n % 64)) (pk_rem (by omega) (by decide) (by decide)) ?_
    refine lv_iadd hx hb dMd_apply_60 ?_
    refine lv_ri (y := nI ((64 * k) + (n % 64))) (nI_add _ _) ?_
    refine lv_istore (lv' := [(5, .int (nI ((64 * k) + (n % 64)))), (4, .int (nI ((64 * k) + ((n + 1) % 64)))), (3, .int (nI (n + 1))), (2, .int 0), (0, .ref y), (1, .int (nI k))]) hx hb dMd_apply_61 hl (by decide) rfl (fun ls hl => ?_)
    refine lv_aload_n hx hb dMd_apply_63 rfl (lv_at hl 4 rfl) ?_
    refine va_get (D := (dC, dI)) (ci := 3) (v := .ref y8) (C := RMd) (T := TMd) (N := 17) hx hb hts inMd hown hK hP 0 rfl rfl 9 (by decide) (hts _ in_83) (fun _ h9 => h9) rfl dMd_apply_64 ?_
    refine lv_iload hx hb dMd_apply_67 (lv_at hl 1 rfl) ?_
    refine lv_iload_n hx hb dMd_apply_69 rfl (lv_at hl 3 rfl) ?_
    refine lv_iconst (v := 1) hx hb dMd_apply_70 (by decide) ?_
    refine lv_icmp_ne (tgt := 81) hx hb dMd_apply_71 (by decide) (fun _ => ?_) (fun c_7 => absurd c_7 (by decide))
    refine lv_iconst (v := 0) hx hb dMd_apply_81 (by decide) ?_
    refine vq_iast (k := ((64 * k) + ((n + 1) % 64))) (f := ma 7) hx hb hK hP hD hS 8 0 rfl rfl rfl (by omega) (by decide) dMd_apply_82 (fun H locs hP hD hS => ?_)
    have hP : va_P (dC, dI) vwCl (wM y y1 y2 y3 y4 y5 y6 y7 y8 y9 y10 cI (va_up mi 0 0) (va_up (va_up ma 0 (upd (ma 0) k (nI (n + 1)))) 7 (upd (ma 7) ((64 * k) + ((n + 1) % 64)) 0))) H := hP
    have hD : va_D A (wM y y1 y2 y3 y4 y5 y6 y7 y8 y9 y10 cI (va_up mi 0 0) (va_up (va_up ma 0 (upd (ma 0) k (nI (n + 1)))) 7 (upd (ma 7) ((64 * k) + ((n + 1) % 64)) 0))) := hD
    refine lv_iconst (v := 0) hx hb dMd_apply_83 (by decide) ?_
    refine lv_istore (lv' := [(6, .int 0), (5, .int (nI ((64 * k) + (n % 64)))), (4, .int (nI ((64 * k) + ((n + 1) % 64)))), (3, .int (nI (n + 1))), (2, .int 0), (0, .ref y), (1, .int (nI k))]) hx hb dMd_apply_84 hl (by decide) rfl (fun ls hl => ?_)
    refine wl_rw (σ := Nat × Heap × List Loc × Array Slot) (fun z9 => (z9.2.1, z9.2.2.1, F0 m 86 z9.2.2.2 [])) (fun z9 => z9.1 ≤ 16 ∧ va_P (dC, dI) vwCl (wM y y1 y2 y3 y4 y5 y6 y7 y8 y9 y10 cI (va_up mi 0 0) (va_up (va_up (va_up ma 0 (upd (ma 0) k (nI (n + 1)))) 7 (upd (ma 7) ((64 * k) + ((n + 1) % 64)) 0)) 8 (m_cp (ma 8) (16 * ((64 * k) + ((n + 1) % 64))) (16 * ((64 * k) + (n % 64))) z9.1))) z9.2.1 ∧ va_D A (wM y y1 y2 y3 y4 y5 y6 y7 y8 y9 y10 cI (va_up mi 0 0) (va_up (va_up (va_up ma 0 (upd (ma 0) k (nI (n + 1)))) 7 (upd (ma 7) ((64 * k) + ((n + 1) % 64)) 0)) 8 (m_cp (ma 8) (16 * ((64 * k) + ((n + 1) % 64))) (16 * ((64 * k) + (n % 64))) z9.1))) ∧ va_S A s.heap z9.2.1 z9.2.2.1 ∧ lv_has z9.2.2.2 8 [(6, .int (nI z9.1)), (5, .int (nI ((64 * k) + (n % 64)))), (4, .int (nI ((64 * k) + ((n + 1) % 64)))), (3, .int (nI (n + 1))), (2, .int 0), (0, .ref y), (1, .int (nI k))]) (fun z9 => 16 - z9.1) ?_ (0, H, locs, ls) ⟨by omega, hP, hD, hS, lv_sub hl [0, 1, 2, 3, 4, 5, 6] rfl⟩
    rintro ⟨j, H, locs, ls⟩ ⟨hj, hP, hD, hS, hl⟩ ih
    have hj : j ≤ 16 := hj
    have hP : va_P (dC, dI) vwCl (wM y y1 y2 y3 y4 y5 y6 y7 y8 y9 y10 cI (va_up mi 0 0) (va_up (va_up (va_up ma 0 (upd (ma 0) k (nI (n + 1)))) 7 (upd (ma 7) ((64 * k) + ((n + 1) % 64)) 0)) 8 (m_cp (ma 8) (16 * ((64 * k) + ((n + 1) % 64))) (16 * ((64 * k) + (n % 64))) j))) H := hP
    have hD : va_D A (wM y y1 y2 y3 y4 y5 y6 y7 y8 y9 y10 cI (va_up mi 0 0) (va_up (va_up (va_up ma 0 (upd (ma 0) k (nI (n + 1)))) 7 (upd (ma 7) ((64 * k) + ((n + 1) % 64)) 0)) 8 (m_cp (ma 8) (16 * ((64 * k) + ((n + 1) % 64))) (16 * ((64 * k) + (n % 64))) j))) := hD
    have hS : va_S A s.heap H locs := hS
    have hl : lv_has ls 8 [(6, .int (nI j)), (5, .int (nI ((64 * k) + (n % 64)))), (4, .int (nI ((64 * k) + ((n + 1) % 64)))), (3, .int (nI (n + 1))), (2, .int 0), (0, .ref y), (1, .int (nI k))] := hl
    show W p l e _ s m _ below meth c H locs _ _ _ (F0 m 86 ls [])
    refine lv_iload hx hb dMd_apply_86 (lv_at hl 0 rfl) ?_
    refine lv_bipush (v := nI 16) hx hb dMd_apply_88 (by decide) ?_
    refine lv_icmp_ge (tgt := 165) hx hb dMd_apply_90 (by decide) (fun c_8 => ?_) (fun c_8 => ?_)
    · skip
      have hj9 : j = 16 := lp_x (by decide) hj c_8
      subst hj9
      refine lv_iload_n hx hb dMd_apply_165 rfl (lv_at hl 4 rfl) ?_
      refine lv_if_le (tgt := 202) hx hb dMd_apply_166 (by decide) (fun _ => ?_) (fun c_9 => absurd c_9 (by decide))
      refine lv_aload_n hx hb dMd_apply_202 rfl (lv_at hl 5 rfl) ?_
      refine va_get (D := (dC, dI)) (ci := 3) (v := .ref y3) (C := RMd) (T := TMd) (N := 17) hx hb hts inMd hown hK hP 0 rfl rfl 4 (by decide) (hts _ in_99) (fun _ h9 => h9) rfl dMd_apply_203 ?_
      refine lv_iload_n hx hb dMd_apply_206 rfl (lv_at hl 6 rfl) ?_
      refine lv_dup2_11 hx hb dMd_apply_207 rfl rfl ?_
      refine vq_iald (k := k) (f := ma 2) hx hb hK hP 3 0 rfl rfl rfl (by omega) (by decide) dMd_apply_208 ?_
      refine lv_iload_n hx hb dMd_apply_209 rfl (lv_at hl 4 rfl) ?_
      refine lv_iconst (v := 1) hx hb dMd_apply_210 (by decide) ?_
      refine lv_icmp_ne (tgt := 218) hx hb dMd_apply_211 (by decide) (fun _ => ?_) (fun c_10 => absurd c_10 (by decide))
      refine lv_iconst (v := 0) hx hb dMd_apply_218 (by decide) ?_
      refine lv_iadd hx hb dMd_apply_219 ?_
      refine vq_iast (k := k) (f := ma 2) hx hb hK hP hD hS 3 0 rfl rfl rfl (by omega) (by decide) dMd_apply_220 (fun H locs hP hD hS => ?_)
      have hP : va_P (dC, dI) vwCl (wM y y1 y2 y3 y4 y5 y6 y7 y8 y9 y10 cI (va_up mi 0 0) (va_up (va_up (va_up (va_up ma 0 (upd (ma 0) k (nI (n + 1)))) 7 (upd (ma 7) ((64 * k) + ((n + 1) % 64)) 0)) 8 (m_cp (ma 8) (16 * ((64 * k) + ((n + 1) % 64))) (16 * ((64 * k) + (n % 64))) 16)) 2 (upd (ma 2) k (((ma 2) k) + 0)))) H := hP
      have hD : va_D A (wM y y1 y2 y3 y4 y5 y6 y7 y8 y9 y10 cI (va_up mi 0 0) (va_up (va_up (va_up (va_up ma 0 (upd (ma 0) k (nI (n + 1)))) 7 (upd (ma 7) ((64 * k) + ((n + 1) % 64)) 0)) 8 (m_cp (ma 8) (16 * ((64 * k) + ((n + 1) % 64))) (16 * ((64 * k) + (n % 64))) 16)) 2 (upd (ma 2) k (((ma 2) k) + 0)))) := hD
      refine lv_aload_n hx hb dMd_apply_221 rfl (lv_at hl 5 rfl) ?_
      refine va_get (D := (dC, dI)) (ci := 3) (v := .ref y4) (C := RMd) (T := TMd) (N := 17) hx hb hts inMd hown hK hP 0 rfl rfl 5 (by decide) (hts _ in_100) (fun _ h9 => h9) rfl dMd_apply_222 ?_
      refine lv_iload_n hx hb dMd_apply_225 rfl (lv_at hl 6 rfl) ?_
      refine lv_dup2_11 hx hb dMd_apply_226 rfl rfl ?_
      refine vq_iald (k := k) (f := ma 3) hx hb hK hP 4 0 rfl rfl rfl (by omega) (by decide) dMd_apply_227 ?_
      refine lv_iload_n hx hb dMd_apply_228 rfl (lv_at hl 4 rfl) ?_
      refine lv_iconst (v := 2) hx hb dMd_apply_229 (by decide) ?_
      refine lv_icmp_ne (tgt := 237) hx hb dMd_apply_230 (by decide) (fun _ => ?_) (fun c_11 => absurd c_11 (by decide))
      refine lv_iconst (v := 0) hx hb dMd_apply_237 (by decide) ?_
      refine lv_iadd hx hb dMd_apply_238 ?_
      refine vq_iast (k := k) (f := ma 3) hx hb hK hP hD hS 4 0 rfl rfl rfl (by omega) (by decide) dMd_apply_239 (fun H locs hP hD hS => ?_)
      have hP : va_P (dC, dI) vwCl (wM y y1 y2 y3 y4 y5 y6 y7 y8 y9 y10 cI (va_up mi 0 0) (va_up (va_up (va_up (va_up (va_up ma 0 (upd (ma 0) k (nI (n + 1)))) 7 (upd (ma 7) ((64 * k) + ((n + 1) % 64)) 0)) 8 (m_cp (ma 8) (16 * ((64 * k) + ((n + 1) % 64))) (16 * ((64 * k) + (n % 64))) 16)) 2 (upd (ma 2) k (((ma 2) k) + 0))) 3 (upd (ma 3) k (((ma 3) k) + 0)))) H := hP
      have hD : va_D A (wM y y1 y2 y3 y4 y5 y6 y7 y8 y9 y10 cI (va_up mi 0 0) (va_up (va_up (va_up (va_up (va_up ma 0 (upd (ma 0) k (nI (n + 1)))) 7 (upd (ma 7) ((64 * k) + ((n + 1) % 64)) 0)) 8 (m_cp (ma 8) (16 * ((64 * k) + ((n + 1) % 64))) (16 * ((64 * k) + (n % 64))) 16)) 2 (upd (ma 2) k (((ma 2) k) + 0))) 3 (upd (ma 3) k (((ma 3) k) + 0)))) := hD
      refine lv_aload_n hx hb dMd_apply_240 rfl (lv_at hl 5 rfl) ?_
      refine va_get (D := (dC, dI)) (ci := 3) (v := .ref y5) (C := RMd) (T := TMd) (N := 17) hx hb hts inMd hown hK hP 0 rfl rfl 6 (by decide) (hts _ in_101) (fun _ h9 => h9) rfl dMd_apply_241 ?_
      refine lv_iload_n hx hb dMd_apply_244 rfl (lv_at hl 6 rfl) ?_
      refine lv_dup2_11 hx hb dMd_apply_245 rfl rfl ?_
      refine vq_iald (k := k) (f := ma 4) hx hb hK hP 5 0 rfl rfl rfl (by omega) (by decide) dMd_apply_246 ?_
      refine lv_iload_n hx hb dMd_apply_247 rfl (lv_at hl 4 rfl) ?_
      refine lv_if_ne (tgt := 255) hx hb dMd_apply_248 (by decide) (fun c_12 => absurd c_12 (by decide)) (fun _ => ?_)
      refine lv_iconst (v := 1) hx hb dMd_apply_251 (by decide) ?_
      refine lv_goto (tgt := 256) hx hb dMd_apply_252 (by decide) ?_
      refine lv_iadd hx hb dMd_apply_256 ?_
      refine vq_iast (k := k) (f := ma 4) hx hb hK hP hD hS 5 0 rfl rfl rfl (by omega) (by decide) dMd_apply_257 (fun H locs hP hD hS => ?_)
      have hP : va_P (dC, dI) vwCl (wM y y1 y2 y3 y4 y5 y6 y7 y8 y9 y10 cI (va_up mi 0 0) (va_up (va_up (va_up (va_up (va_up (va_up ma 0 (upd (ma 0) k (nI (n + 1)))) 7 (upd (ma 7) ((64 * k) + ((n + 1) % 64)) 0)) 8 (m_cp (ma 8) (16 * ((64 * k) + ((n + 1) % 64))) (16 * ((64 * k) + (n % 64))) 16)) 2 (upd (ma 2) k (((ma 2) k) + 0))) 3 (upd (ma 3) k (((ma 3) k) + 0))) 4 (upd (ma 4) k (((ma 4) k) + 1)))) H := hP
      have hD : va_D A (wM y y1 y2 y3 y4 y5 y6 y7 y8 y9 y10 cI (va_up mi 0 0) (va_up (va_up (va_up (va_up (va_up (va_up ma 0 (upd (ma 0) k (nI (n + 1)))) 7 (upd (ma 7) ((64 * k) + ((n + 1) % 64)) 0)) 8 (m_cp (ma 8) (16 * ((64 * k) + ((n + 1) % 64))) (16 * ((64 * k) + (n % 64))) 16)) 2 (upd (ma 2) k (((ma 2) k) + 0))) 3 (upd (ma 3) k (((ma 3) k) + 0))) 4 (upd (ma 4) k (((ma 4) k) + 1)))) := hD
      refine lv_aload_n hx hb dMd_apply_258 rfl (lv_at hl 5 rfl) ?_
      refine va_get (D := (dC, dI)) (ci := 3) (v := .ref y2) (C := RMd) (T := TMd) (N := 17) hx hb hts inMd hown hK hP 0 rfl rfl 3 (by decide) (hts _ in_102) (fun _ h9 => h9) rfl dMd_apply_259 ?_
      refine lv_iload_n hx hb dMd_apply_262 rfl (lv_at hl 6 rfl) ?_
      refine lv_aload_n hx hb dMd_apply_263 rfl (lv_at hl 5 rfl) ?_
      refine va_get (D := (dC, dI)) (ci := 3) (v := .ref y2) (C := RMd) (T := TMd) (N := 17) hx hb hts inMd hown hK hP 0 rfl rfl 3 (by decide) (hts _ in_102) (fun _ h9 => h9) rfl dMd_apply_264 ?_
      refine lv_iload_n hx hb dMd_apply_267 rfl (lv_at hl 6 rfl) ?_
      refine vq_iald (k := k) (f := ma 1) hx hb hK hP 2 0 rfl rfl rfl (by omega) (by decide) dMd_apply_268 ?_
      refine lv_iload_n hx hb dMd_apply_269 rfl (lv_at hl 3 rfl) ?_
      refine lv_aload_n hx hb dMd_apply_270 rfl (lv_at hl 5 rfl) ?_
      refine va_get (D := (dC, dI)) (ci := 3) (v := .int (mi 1)) (C := RMd) (T := TMd) (N := 17) hx hb hts inMd hown hK hP 0 rfl rfl 1 (by decide) (hts _ in_86) (fun _ h9 => h9) rfl dMd_apply_271 ?_
      refine lv_isub hx hb dMd_apply_274 ?_
      refine lv_icmp_ge (tgt := 287) hx hb dMd_apply_275 (by decide) (fun c_13 => ?_) (fun c_13 => ?_)
      · skip
        refine lv_aload_n hx hb dMd_apply_287 rfl (lv_at hl 5 rfl) ?_
        refine va_get (D := (dC, dI)) (ci := 3) (v := .ref y2) (C := RMd) (T := TMd) (N := 17) hx hb hts inMd hown hK hP 0 rfl rfl 3 (by decide) (hts _ in_102) (fun _ h9 => h9) rfl dMd_apply_288 ?_
        refine lv_iload_n hx hb dMd_apply_291 rfl (lv_at hl 6 rfl) ?_
        refine vq_iald (k := k) (f := ma 1) hx hb hK hP 2 0 rfl rfl rfl (by omega) (by decide) dMd_apply_292 ?_
        refine vq_iast (k := k) (f := ma 1) hx hb hK hP hD hS 2 0 rfl rfl rfl (by omega) (by decide) dMd_apply_293 (fun H locs hP hD hS => ?_)
        have hP : va_P (dC, dI) vwCl (wM y y1 y2 y3 y4 y5 y6 y7 y8 y9 y10 cI (va_up mi 0 0) (va_up (va_up (va_up (va_up (va_up (va_up (va_up ma 0 (upd (ma 0) k (nI (n + 1)))) 7 (upd (ma 7) ((64 * k) + ((n + 1) % 64)) 0)) 8 (m_cp (ma 8) (16 * ((64 * k) + ((n + 1) % 64))) (16 * ((64 * k) + (n % 64))) 16)) 2 (upd (ma 2) k (((ma 2) k) + 0))) 3 (upd (ma 3) k (((ma 3) k) + 0))) 4 (upd (ma 4) k (((ma 4) k) + 1))) 1 (upd (ma 1) k ((ma 1) k)))) H := hP
        have hD : va_D A (wM y y1 y2 y3 y4 y5 y6 y7 y8 y9 y10 cI (va_up mi 0 0) (va_up (va_up (va_up (va_up (va_up (va_up (va_up ma 0 (upd (ma 0) k (nI (n + 1)))) 7 (upd (ma 7) ((64 * k) + ((n + 1) % 64)) 0)) 8 (m_cp (ma 8) (16 * ((64 * k) + ((n + 1) % 64))) (16 * ((64 * k) + (n % 64))) 16)) 2 (upd (ma 2) k (((ma 2) k) + 0))) 3 (upd (ma 3) k (((ma 3) k) + 0))) 4 (upd (ma 4) k (((ma 4) k) + 1))) 1 (upd (ma 1) k ((ma 1) k)))) := hD
        refine lv_iload_n hx hb dMd_apply_294 rfl (lv_at hl 4 rfl) ?_
        have hP9 : va_P (dC, dI) vwCl (wM y y1 y2 y3 y4 y5 y6 y7 y8 y9 y10 cI (va_up mi 0 0) ((m_ap mi ma k n se b).2)) H := by rw [m_ap_0 hv]; simp only [m_ap_, if_pos c_13]; exact hP
        have hD9 : va_D A (wM y y1 y2 y3 y4 y5 y6 y7 y8 y9 y10 cI (va_up mi 0 0) ((m_ap mi ma k n se b).2)) := by rw [m_ap_0 hv]; simp only [m_ap_, if_pos c_13]; exact hD
        exact W.iret (v := 0) hx hb hr (fun t ht hW => ⟨⟨0, (), rfl, by rw [m_ap_0 hv], by rw [ht]; exact hP9, va_K.moved hW.alike hK, hD9⟩, hS.F ht⟩) hS.2.2 dMd_apply_295
      · skip
        refine lv_iload_n hx hb dMd_apply_278 rfl (lv_at hl 3 rfl) ?_
        refine lv_aload_n hx hb dMd_apply_279 rfl (lv_at hl 5 rfl) ?_
        refine va_get (D := (dC, dI)) (ci := 3) (v := .int (mi 1)) (C := RMd) (T := TMd) (N := 17) hx hb hts inMd hown hK hP 0 rfl rfl 1 (by decide) (hts _ in_86) (fun _ h9 => h9) rfl dMd_apply_280 ?_
        refine lv_isub hx hb dMd_apply_283 ?_
        refine lv_goto (tgt := 293) hx hb dMd_apply_284 (by decide) ?_
        refine vq_iast (k := k) (f := ma 1) hx hb hK hP hD hS 2 0 rfl rfl rfl (by omega) (by decide) dMd_apply_293 (fun H locs hP hD hS => ?_)
        have hP : va_P (dC, dI) vwCl (wM y y1 y2 y3 y4 y5 y6 y7 y8 y9 y10 cI (va_up mi 0 0) (va_up (va_up (va_up (va_up (va_up (va_up (va_up ma 0 (upd (ma 0) k (nI (n + 1)))) 7 (upd (ma 7) ((64 * k) + ((n + 1) % 64)) 0)) 8 (m_cp (ma 8) (16 * ((64 * k) + ((n + 1) % 64))) (16 * ((64 * k) + (n % 64))) 16)) 2 (upd (ma 2) k (((ma 2) k) + 0))) 3 (upd (ma 3) k (((ma 3) k) + 0))) 4 (upd (ma 4) k (((ma 4) k) + 1))) 1 (upd (ma 1) k ((nI (n + 1)) - (mi 1))))) H := hP
        have hD : va_D A (wM y y1 y2 y3 y4 y5 y6 y7 y8 y9 y10 cI (va_up mi 0 0) (va_up (va_up (va_up (va_up (va_up (va_up (va_up ma 0 (upd (ma 0) k (nI (n + 1)))) 7 (upd (ma 7) ((64 * k) + ((n + 1) % 64)) 0)) 8 (m_cp (ma 8) (16 * ((64 * k) + ((n + 1) % 64))) (16 * ((64 * k) + (n % 64))) 16)) 2 (upd (ma 2) k (((ma 2) k) + 0))) 3 (upd (ma 3) k (((ma 3) k) + 0))) 4 (upd (ma 4) k (((ma 4) k) + 1))) 1 (upd (ma 1) k ((nI (n + 1)) - (mi 1))))) := hD
        refine lv_iload_n hx hb dMd_apply_294 rfl (lv_at hl 4 rfl) ?_
        have hP9 : va_P (dC, dI) vwCl (wM y y1 y2 y3 y4 y5 y6 y7 y8 y9 y10 cI (va_up mi 0 0) ((m_ap mi ma k n se b).2)) H := by rw [m_ap_0 hv]; simp only [m_ap_, if_neg c_13]; exact hP
        have hD9 : va_D A (wM y y1 y2 y3 y4 y5 y6 y7 y8 y9 y10 cI (va_up mi 0 0) ((m_ap mi ma k n se b).2)) := by rw [m_ap_0 hv]; simp only [m_ap_, if_neg c_13]; exact hD
        exact W.iret (v := 0) hx hb hr (fun t ht hW => ⟨⟨0, (), rfl, by rw [m_ap_0 hv], by rw [ht]; exact hP9, va_K.moved hW.alike hK, hD9⟩, hS.F ht⟩) hS.2.2 dMd_apply_295
    · skip
      have hj : j < 16 := lp_c (by decide) hj c_8
      refine lv_iload_n hx hb dMd_apply_93 rfl (lv_at hl 4 rfl) ?_
      refine lv_iconst (v := 1) hx hb dMd_apply_94 (by decide) ?_
      refine lv_icmp_ne (tgt := 115) hx hb dMd_apply_95 (by decide) (fun _ => ?_) (fun c_14 => absurd c_14 (by decide))
      refine lv_iconst (v := 0) hx hb dMd_apply_115 (by decide) ?_
      refine lv_istore (lv' := [(7, .int 0), (6, .int (nI j)), (5, .int (nI ((64 * k) + (n % 64)))), (4, .int (nI ((64 * k) + ((n + 1) % 64)))), (3, .int (nI (n + 1))), (2, .int 0), (0, .ref y), (1, .int (nI k))]) hx hb dMd_apply_116 hl (by decide) rfl (fun ls hl => ?_)
      refine lv_aload_n hx hb dMd_apply_118 rfl (lv_at hl 6 rfl) ?_
      refine va_get (D := (dC, dI)) (ci := 3) (v := .ref y9) (C := RMd) (T := TMd) (N := 17) hx hb hts inMd hown hK hP 0 rfl rfl 10 (by decide) (hts _ in_103) (fun _ h9 => h9) rfl dMd_apply_119 ?_
      refine lv_bipush (v := nI 16) hx hb dMd_apply_122 (by decide) ?_
      refine lv_iload hx hb dMd_apply_124 (lv_at hl 3 rfl) ?_
      refine lv_imul hx hb dMd_apply_126 ?_
      refine lv_ri (y := nI (16 * ((64 * k) + ((n + 1) % 64)))) (pk_mul _ _) ?_
      refine lv_iload hx hb dMd_apply_127 (lv_at hl 1 rfl) ?_
      refine lv_iadd hx hb dMd_apply_129 ?_
      refine lv_ri (y := nI ((16 * ((64 * k) + ((n + 1) % 64))) + j)) (nI_add _ _) ?_
      refine lv_iload hx hb dMd_apply_130 (lv_at hl 0 rfl) ?_
      refine lv_if_eq (tgt := 145) hx hb dMd_apply_132 (by decide) (fun _ => ?_) (fun c_15 => absurd c_15 (by decide))
      refine lv_aload_n hx hb dMd_apply_145 rfl (lv_at hl 6 rfl) ?_
      refine va_get (D := (dC, dI)) (ci := 3) (v := .ref y9) (C := RMd) (T := TMd) (N := 17) hx hb hts inMd hown hK hP 0 rfl rfl 10 (by decide) (hts _ in_103) (fun _ h9 => h9) rfl dMd_apply_146 ?_
      refine lv_bipush (v := nI 16) hx hb dMd_apply_149 (by decide) ?_
      refine lv_iload hx hb dMd_apply_151 (lv_at hl 2 rfl) ?_
      refine lv_imul hx hb dMd_apply_153 ?_
      refine lv_ri (y := nI (16 * ((64 * k) + (n % 64)))) (pk_mul _ _) ?_
      refine lv_iload hx hb dMd_apply_154 (lv_at hl 1 rfl) ?_
      refine lv_iadd hx hb dMd_apply_156 ?_
      refine lv_ri (y := nI ((16 * ((64 * k) + (n % 64))) + j)) (nI_add _ _) ?_
      refine vq_iald (k := ((16 * ((64 * k) + (n % 64))) + j)) (f := m_cp (ma 8) (16 * ((64 * k) + ((n + 1) % 64))) (16 * ((64 * k) + (n % 64))) j) hx hb hK hP 9 0 rfl rfl rfl (by omega) (by decide) dMd_apply_157 ?_
      refine vq_iast (k := ((16 * ((64 * k) + ((n + 1) % 64))) + j)) (f := m_cp (ma 8) (16 * ((64 * k) + ((n + 1) % 64))) (16 * ((64 * k) + (n % 64))) j) hx hb hK hP hD hS 9 0 rfl rfl rfl (by omega) (by decide) dMd_apply_158 (fun H locs hP hD hS => ?_)
      have hP : va_P (dC, dI) vwCl (wM y y1 y2 y3 y4 y5 y6 y7 y8 y9 y10 cI (va_up mi 0 0) (va_up (va_up (va_up ma 0 (upd (ma 0) k (nI (n + 1)))) 7 (upd (ma 7) ((64 * k) + ((n + 1) % 64)) 0)) 8 (upd (m_cp (ma 8) (16 * ((64 * k) + ((n + 1) % 64))) (16 * ((64 * k) + (n % 64))) j) ((16 * ((64 * k) + ((n + 1) % 64))) + j) ((m_cp (ma 8) (16 * ((64 * k) + ((n + 1) % 64))) (16 * ((64 * k) + (n % 64))) j) ((16 * ((64 * k) + (n % 64))) + j))))) H := hP
      have hD : va_D A (wM y y1 y2 y3 y4 y5 y6 y7 y8 y9 y10 cI (va_up mi 0 0) (va_up (va_up (va_up ma 0 (upd (ma 0) k (nI (n + 1)))) 7 (upd (ma 7) ((64 * k) + ((n + 1) % 64)) 0)) 8 (upd (m_cp (ma 8) (16 * ((64 * k) + ((n + 1) % 64))) (16 * ((64 * k) + (n % 64))) j) ((16 * ((64 * k) + ((n + 1) % 64))) + j) ((m_cp (ma 8) (16 * ((64 * k) + ((n + 1) % 64))) (16 * ((64 * k) + (n % 64))) j) ((16 * ((64 * k) + (n % 64))) + j))))) := hD
      refine lv_iinc (v := nI (j + 1)) (lv' := [(6, .int (nI (j + 1))), (7, .int 0), (5, .int (nI ((64 * k) + (n % 64)))), (4, .int (nI ((64 * k) + ((n + 1) % 64)))), (3, .int (nI (n + 1))), (2, .int 0), (0, .ref y), (1, .int (nI k))]) hx hb dMd_apply_159 hl (k := 1) rfl (by first | exact nI_1 _ | (show _ + (1 : Int32) = _; exact nI_1 _)) (by decide) rfl (fun ls hl => ?_)
      refine lv_goto (tgt := 86) hx hb dMd_apply_162 (by decide) ?_
      have hl9 : lv_has ls 8 [(6, .int (nI (j + 1))), (5, .int (nI ((64 * k) + (n % 64)))), (4, .int (nI ((64 * k) + ((n + 1) % 64)))), (3, .int (nI (n + 1))), (2, .int 0), (0, .ref y), (1, .int (nI k))] := by first | exact lv_sub hl [0, 2, 3, 4, 5, 6, 7] rfl | (simp only [m_av, m_cp]; exact lv_sub hl [0, 2, 3, 4, 5, 6, 7] rfl)
      have hP9 : va_P (dC, dI) vwCl (wM y y1 y2 y3 y4 y5 y6 y7 y8 y9 y10 cI (va_up mi 0 0) (va_up (va_up (va_up ma 0 (upd (ma 0) k (nI (n + 1)))) 7 (upd (ma 7) ((64 * k) + ((n + 1) % 64)) 0)) 8 (m_cp (ma 8) (16 * ((64 * k) + ((n + 1) % 64))) (16 * ((64 * k) + (n % 64))) (j + 1)))) H := by first | exact hP | (simp only [m_av, m_cp]; exact hP)
      have hD9 : va_D A (wM y y1 y2 y3 y4 y5 y6 y7 y8 y9 y10 cI (va_up mi 0 0) (va_up (va_up (va_up ma 0 (upd (ma 0) k (nI (n + 1)))) 7 (upd (ma 7) ((64 * k) + ((n + 1) % 64)) 0)) 8 (m_cp (ma 8) (16 * ((64 * k) + ((n + 1) % 64))) (16 * ((64 * k) + (n % 64))) (j + 1)))) := by first | exact hD | (simp only [m_av, m_cp]; exact hD)
      exact ih (j + 1, H, locs, ls) ⟨hj, hP9, hD9, hS, hl9⟩ (by show 16 - (j + 1) < 16 - j; omega)
  · skip
    refine lv_ri (y := 1) hv ?_
    refine lv_istore_n (lv' := [(2, .int 1), (0, .ref y), (1, .int (nI k))]) hx hb dMd_apply_15 rfl hl (by decide) rfl (fun ls hl => ?_)
    refine lv_iload_n hx hb dMd_apply_16 rfl (lv_at hl 0 rfl) ?_
    refine lv_if_ge (tgt := 22) hx hb dMd_apply_17 (by decide) (fun _ => ?_) (fun c_16 => absurd c_16 (by decide))
    refine lv_aload_n hx hb dMd_apply_22 rfl (lv_at hl 1 rfl) ?_
    refine va_get (D := (dC, dI)) (ci := 3) (v := .ref y1) (C := RMd) (T := TMd) (N := 17) hx hb hts inMd hown hK hP 0 rfl rfl 2 (by decide) (hts _ in_82) (fun _ h9 => h9) rfl dMd_apply_23 ?_
    refine lv_iload_n hx hb dMd_apply_26 rfl (lv_at hl 2 rfl) ?_
    refine lv_dup2_11 hx hb dMd_apply_27 rfl rfl ?_
    refine vq_iald (k := k) (f := ma 0) hx hb hK hP 1 0 rfl rfl rfl (by omega) (by decide) dMd_apply_28 ?_
    refine lv_ri (y := nI n) hix ?_
    refine lv_iconst (v := 1) hx hb dMd_apply_29 (by decide) ?_
    refine lv_iadd hx hb dMd_apply_30 ?_
    refine lv_ri (y := nI (n + 1)) (nI_1 _) ?_
    refine vq_iast (k := k) (f := ma 0) hx hb hK hP hD hS 1 0 rfl rfl rfl (by omega) (by decide) dMd_apply_31 (fun H locs hP hD hS => ?_)
    have hP : va_P (dC, dI) vwCl (wM y y1 y2 y3 y4 y5 y6 y7 y8 y9 y10 cI (va_up mi 0 0) (va_up ma 0 (upd (ma 0) k (nI (n + 1))))) H := hP
    have hD : va_D A (wM y y1 y2 y3 y4 y5 y6 y7 y8 y9 y10 cI (va_up mi 0 0) (va_up ma 0 (upd (ma 0) k (nI (n + 1))))) := hD
    refine lv_aload_n hx hb dMd_apply_32 rfl (lv_at hl 1 rfl) ?_
    refine va_get (D := (dC, dI)) (ci := 3) (v := .ref y1) (C := RMd) (T := TMd) (N := 17) hx hb hts inMd hown hK hP 0 rfl rfl 2 (by decide) (hts _ in_82) (fun _ h9 => h9) rfl dMd_apply_33 ?_
    refine lv_iload_n hx hb dMd_apply_36 rfl (lv_at hl 2 rfl) ?_
    refine vq_iald (k := k) (f := upd (ma 0) k (nI (n + 1))) hx hb hK hP 1 0 rfl rfl rfl (by omega) (by decide) dMd_apply_37 ?_
    refine lv_ri (y := nI (n + 1)) pk_us ?_
    refine lv_istore_n (lv' := [(3, .int (nI (n + 1))), (2, .int 1), (0, .ref y), (1, .int (nI k))]) hx hb dMd_apply_38 rfl hl (by decide) rfl (fun ls hl => ?_)
    refine lv_bipush (v := nI 64) hx hb dMd_apply_39 (by decide) ?_
    refine lv_iload_n hx hb dMd_apply_41 rfl (lv_at hl 3 rfl) ?_
    refine lv_imul hx hb dMd_apply_42 ?_
    refine lv_ri (y := nI (64 * k)) (pk_mul _ _) ?_
    refine lv_iload_n hx hb dMd_apply_43 rfl (lv_at hl 0 rfl) ?_
    refine lv_bipush (v := nI 64) hx hb dMd_apply_44 (by decide) ?_
    refine lv_irem hx hb dMd_apply_46 (by decide) ?_
    refine lv_ri (y := nI ((n + 1) % 64)) (pk_rem (by omega) (by decide) (by decide)) ?_
    refine lv_iadd hx hb dMd_apply_47 ?_
    refine lv_ri (y := nI ((64 * k) + ((n + 1) % 64))) (nI_add _ _) ?_
    refine lv_istore (lv' := [(4, .int (nI ((64 * k) + ((n + 1) % 64)))), (3, .int (nI (n + 1))), (2, .int 1), (0, .ref y), (1, .int (nI k))]) hx hb dMd_apply_48 hl (by decide) rfl (fun ls hl => ?_)
    refine lv_bipush (v := nI 64) hx hb dMd_apply_50 (by decide) ?_
    refine lv_iload_n hx hb dMd_apply_52 rfl (lv_at hl 4 rfl) ?_
    refine lv_imul hx hb dMd_apply_53 ?_
    refine lv_ri (y := nI (64 * k)) (pk_mul _ _) ?_
    refine lv_iload_n hx hb dMd_apply_54 rfl (lv_at hl 1 rfl) ?_
    refine lv_iconst (v := 1) hx hb dMd_apply_55 (by decide) ?_
    refine lv_isub hx hb dMd_apply_56 ?_
    refine lv_ri (y := nI n) (nI_pred n) ?_
    refine lv_bipush (v := nI 64) hx hb dMd_apply_57 (by decide) ?_
    refine lv_irem hx hb dMd_apply_59 (by decide) ?_
    refine lv_ri (y := nI (n % 64)) (pk_rem (by omega) (by decide) (by decide)) ?_
    refine lv_iadd hx hb dMd_apply_60 ?_
    refine lv_ri (y := nI ((64 * k) + (n % 64))) (nI_add _ _) ?_
    refine lv_istore (lv' := [(5, .int (nI ((64 * k) + (n % 64)))), (4, .int (nI ((64 * k) + ((n + 1) % 64)))), (3, .int (nI (n + 1))), (2, .int 1), (0, .ref y), (1, .int (nI k))]) hx hb dMd_apply_61 hl (by decide) rfl (fun ls hl => ?_)
    refine lv_aload_n hx hb dMd_apply_63 rfl (lv_at hl 4 rfl) ?_
    refine va_get (D := (dC, dI)) (ci := 3) (v := .ref y8) (C := RMd) (T := TMd) (N := 17) hx hb hts inMd hown hK hP 0 rfl rfl 9 (by decide) (hts _ in_83) (fun _ h9 => h9) rfl dMd_apply_64 ?_
    refine lv_iload hx hb dMd_apply_67 (lv_at hl 1 rfl) ?_
    refine lv_iload_n hx hb dMd_apply_69 rfl (lv_at hl 3 rfl) ?_
    refine lv_iconst (v := 1) hx hb dMd_apply_70 (by decide) ?_
    refine lv_icmp_ne (tgt := 81) hx hb dMd_apply_71 (by decide) (fun c_17 => absurd c_17 (by decide)) (fun _ => ?_)
    refine lv_aload_n hx hb dMd_apply_74 rfl (lv_at hl 4 rfl) ?_
    refine va_get (D := (dC, dI)) (ci := 3) (v := .int (mi 6)) (C := RMd) (T := TMd) (N := 17) hx hb hts inMd hown hK hP 0 rfl rfl 15 (by decide) (hts _ in_80) (fun _ h9 => h9) rfl dMd_apply_75 ?_
    refine lv_goto (tgt := 82) hx hb dMd_apply_78 (by decide) ?_
    refine vq_iast (k := ((64 * k) + ((n + 1) % 64))) (f := ma 7) hx hb hK hP hD hS 8 0 rfl rfl rfl (by omega) (by decide) dMd_apply_82 (fun H locs hP hD hS => ?_)
    have hP : va_P (dC, dI) vwCl (wM y y1 y2 y3 y4 y5 y6 y7 y8 y9 y10 cI (va_up mi 0 0) (va_up (va_up ma 0 (upd (ma 0) k (nI (n + 1)))) 7 (upd (ma 7) ((64 * k) + ((n + 1) % 64)) (mi 6)))) H := hP
    have hD : va_D A (wM y y1 y2 y3 y4 y5 y6 y7 y8 y9 y10 cI (va_up mi 0 0) (va_up (va_up ma 0 (upd (ma 0) k (nI (n + 1)))) 7 (upd (ma 7) ((64 * k) + ((n + 1) % 64)) (mi 6)))) := hD
    refine lv_iconst (v := 0) hx hb dMd_apply_83 (by decide) ?_
    refine lv_istore (lv' := [(6, .int 0), (5, .int (nI ((64 * k) + (n % 64)))), (4, .int (nI ((64 * k) + ((n + 1) % 64)))), (3, .int (nI (n + 1))), (2, .int 1), (0, .ref y), (1, .int (nI k))]) hx hb dMd_apply_84 hl (by decide) rfl (fun ls hl => ?_)
    refine wl_rw (σ := Nat × Heap × List Loc × Array Slot) (fun z9 => (z9.2.1, z9.2.2.1, F0 m 86 z9.2.2.2 [])) (fun z9 => z9.1 ≤ 16 ∧ va_P (dC, dI) vwCl (wM y y1 y2 y3 y4 y5 y6 y7 y8 y9 y10 cI (va_up mi 0 0) (va_up (va_up (va_up ma 0 (upd (ma 0) k (nI (n + 1)))) 7 (upd (ma 7) ((64 * k) + ((n + 1) % 64)) (mi 6))) 8 (m_av (mi 6) (ma 9) ((64 * k) + ((n + 1) % 64)) ((64 * k) + (n % 64)) (ma 8) z9.1))) z9.2.1 ∧ va_D A (wM y y1 y2 y3 y4 y5 y6 y7 y8 y9 y10 cI (va_up mi 0 0) (va_up (va_up (va_up ma 0 (upd (ma 0) k (nI (n + 1)))) 7 (upd (ma 7) ((64 * k) + ((n + 1) % 64)) (mi 6))) 8 (m_av (mi 6) (ma 9) ((64 * k) + ((n + 1) % 64)) ((64 * k) + (n % 64)) (ma 8) z9.1))) ∧ va_S A s.heap z9.2.1 z9.2.2.1 ∧ lv_has z9.2.2.2 8 [(6, .int (nI z9.1)), (5, .int (nI ((64 * k) + (n % 64)))), (4, .int (nI ((64 * k) + ((n + 1) % 64)))), (3, .int (nI (n + 1))), (2, .int 1), (0, .ref y), (1, .int (nI k))]) (fun z9 => 16 - z9.1) ?_ (0, H, locs, ls) ⟨by omega, hP, hD, hS, lv_sub hl [0, 1, 2, 3, 4, 5, 6] rfl⟩
    rintro ⟨j, H, locs, ls⟩ ⟨hj, hP, hD, hS, hl⟩ ih
    have hj : j ≤ 16 := hj
    have hP : va_P (dC, dI) vwCl (wM y y1 y2 y3 y4 y5 y6 y7 y8 y9 y10 cI (va_up mi 0 0) (va_up (va_up (va_up ma 0 (upd (ma 0) k (nI (n + 1)))) 7 (upd (ma 7) ((64 * k) + ((n + 1) % 64)) (mi 6))) 8 (m_av (mi 6) (ma 9) ((64 * k) + ((n + 1) % 64)) ((64 * k) + (n % 64)) (ma 8) j))) H := hP
    have hD : va_D A (wM y y1 y2 y3 y4 y5 y6 y7 y8 y9 y10 cI (va_up mi 0 0) (va_up (va_up (va_up ma 0 (upd (ma 0) k (nI (n + 1)))) 7 (upd (ma 7) ((64 * k) + ((n + 1) % 64)) (mi 6))) 8 (m_av (mi 6) (ma 9) ((64 * k) + ((n + 1) % 64)) ((64 * k) + (n % 64)) (ma 8) j))) := hD
    have hS : va_S A s.heap H locs := hS
    have hl : lv_has ls 8 [(6, .int (nI j)), (5, .int (nI ((64 * k) + (n % 64)))), (4, .int (nI ((64 * k) + ((n + 1) % 64)))), (3, .int (nI (n + 1))), (2, .int 1), (0, .ref y), (1, .int (nI k))] := hl
    show W p l e _ s m _ below meth c H locs _ _ _ (F0 m 86 ls [])
    refine lv_iload hx hb dMd_apply_86 (lv_at hl 0 rfl) ?_
    refine lv_bipush (v := nI 16) hx hb dMd_apply_88 (by decide) ?_
    refine lv_icmp_ge (tgt := 165) hx hb dMd_apply_90 (by decide) (fun c_18 => ?_) (fun c_18 => ?_)
    · skip
      have hj9 : j = 16 := lp_x (by decide) hj c_18
      subst hj9
      refine lv_iload_n hx hb dMd_apply_165 rfl (lv_at hl 4 rfl) ?_
      refine lv_if_le (tgt := 202) hx hb dMd_apply_166 (by decide) (fun c_19 => absurd c_19 (by decide)) (fun _ => ?_)
      refine lv_aload_n hx hb dMd_apply_169 rfl (lv_at hl 5 rfl) ?_
      refine va_get (D := (dC, dI)) (ci := 3) (v := .ref y6) (C := RMd) (T := TMd) (N := 17) hx hb hts inMd hown hK hP 0 rfl rfl 7 (by decide) (hts _ in_85) (fun _ h9 => h9) rfl dMd_apply_170 ?_
      refine lv_bipush (v := nI 16) hx hb dMd_apply_173 (by decide) ?_
      refine lv_iload_n hx hb dMd_apply_175 rfl (lv_at hl 6 rfl) ?_
      refine lv_imul hx hb dMd_apply_176 ?_
      refine lv_ri (y := nI (16 * k)) (pk_mul _ _) ?_
      refine lv_aload_n hx hb dMd_apply_177 rfl (lv_at hl 5 rfl) ?_
      refine va_get (D := (dC, dI)) (ci := 3) (v := .int (mi 2)) (C := RMd) (T := TMd) (N := 17) hx hb hts inMd hown hK hP 0 rfl rfl 11 (by decide) (hts _ in_76) (fun _ h9 => h9) rfl dMd_apply_178 ?_
      refine lv_ri (y := nI se) hse ?_
      refine lv_iadd hx hb dMd_apply_181 ?_
      refine lv_ri (y := nI ((16 * k) + se)) (nI_add _ _) ?_
      refine lv_aload_n hx hb dMd_apply_182 rfl (lv_at hl 5 rfl) ?_
      refine va_get (D := (dC, dI)) (ci := 3) (v := .int (mi 3)) (C := RMd) (T := TMd) (N := 17) hx hb hts inMd hown hK hP 0 rfl rfl 12 (by decide) (hts _ in_77) (fun _ h9 => h9) rfl dMd_apply_183 ?_
      refine vq_iast (k := ((16 * k) + se)) (f := ma 5) hx hb hK hP hD hS 6 0 rfl rfl rfl (by omega) (by decide) dMd_apply_186 (fun H locs hP hD hS => ?_)
      have hP : va_P (dC, dI) vwCl (wM y y1 y2 y3 y4 y5 y6 y7 y8 y9 y10 cI (va_up mi 0 0) (va_up (va_up (va_up (va_up ma 0 (upd (ma 0) k (nI (n + 1)))) 7 (upd (ma 7) ((64 * k) + ((n + 1) % 64)) (mi 6))) 8 (m_av (mi 6) (ma 9) ((64 * k) + ((n + 1) % 64)) ((64 * k) + (n % 64)) (ma 8) 16)) 5 (upd (ma 5) ((16 * k) + se) (mi 3)))) H := hP
      have hD : va_D A (wM y y1 y2 y3 y4 y5 y6 y7 y8 y9 y10 cI (va_up mi 0 0) (va_up (va_up (va_up (va_up ma 0 (upd (ma 0) k (nI (n + 1)))) 7 (upd (ma 7) ((64 * k) + ((n + 1) % 64)) (mi 6))) 8 (m_av (mi 6) (ma 9) ((64 * k) + ((n + 1) % 64)) ((64 * k) + (n % 64)) (ma 8) 16)) 5 (upd (ma 5) ((16 * k) + se) (mi 3)))) := hD
      refine lv_aload_n hx hb dMd_apply_187 rfl (lv_at hl 5 rfl) ?_
      refine va_get (D := (dC, dI)) (ci := 3) (v := .ref y7) (C := RMd) (T := TMd) (N := 17) hx hb hts inMd hown hK hP 0 rfl rfl 8 (by decide) (hts _ in_104) (fun _ h9 => h9) rfl dMd_apply_188 ?_
      refine lv_bipush (v := nI 16) hx hb dMd_apply_191 (by decide) ?_
      refine lv_iload_n hx hb dMd_apply_193 rfl (lv_at hl 6 rfl) ?_
      refine lv_imul hx hb dMd_apply_194 ?_
      refine lv_ri (y := nI (16 * k)) (pk_mul _ _) ?_
      refine lv_aload_n hx hb dMd_apply_195 rfl (lv_at hl 5 rfl) ?_
      refine va_get (D := (dC, dI)) (ci := 3) (v := .int (mi 2)) (C := RMd) (T := TMd) (N := 17) hx hb hts inMd hown hK hP 0 rfl rfl 11 (by decide) (hts _ in_76) (fun _ h9 => h9) rfl dMd_apply_196 ?_
      refine lv_ri (y := nI se) hse ?_
      refine lv_iadd hx hb dMd_apply_199 ?_
      refine lv_ri (y := nI ((16 * k) + se)) (nI_add _ _) ?_
      refine lv_iload_n hx hb dMd_apply_200 rfl (lv_at hl 4 rfl) ?_
      refine vq_iast (k := ((16 * k) + se)) (f := ma 6) hx hb hK hP hD hS 7 0 rfl rfl rfl (by omega) (by decide) dMd_apply_201 (fun H locs hP hD hS => ?_)
      have hP : va_P (dC, dI) vwCl (wM y y1 y2 y3 y4 y5 y6 y7 y8 y9 y10 cI (va_up mi 0 0) (va_up (va_up (va_up (va_up (va_up ma 0 (upd (ma 0) k (nI (n + 1)))) 7 (upd (ma 7) ((64 * k) + ((n + 1) % 64)) (mi 6))) 8 (m_av (mi 6) (ma 9) ((64 * k) + ((n + 1) % 64)) ((64 * k) + (n % 64)) (ma 8) 16)) 5 (upd (ma 5) ((16 * k) + se) (mi 3))) 6 (upd (ma 6) ((16 * k) + se) 1))) H := hP
      have hD : va_D A (wM y y1 y2 y3 y4 y5 y6 y7 y8 y9 y10 cI (va_up mi 0 0) (va_up (va_up (va_up (va_up (va_up ma 0 (upd (ma 0) k (nI (n + 1)))) 7 (upd (ma 7) ((64 * k) + ((n + 1) % 64)) (mi 6))) 8 (m_av (mi 6) (ma 9) ((64 * k) + ((n + 1) % 64)) ((64 * k) + (n % 64)) (ma 8) 16)) 5 (upd (ma 5) ((16 * k) + se) (mi 3))) 6 (upd (ma 6) ((16 * k) + se) 1))) := hD
      refine lv_aload_n hx hb dMd_apply_202 rfl (lv_at hl 5 rfl) ?_
      refine va_get (D := (dC, dI)) (ci := 3) (v := .ref y3) (C := RMd) (T := TMd) (N := 17) hx hb hts inMd hown hK hP 0 rfl rfl 4 (by decide) (hts _ in_99) (fun _ h9 => h9) rfl dMd_apply_203 ?_
      refine lv_iload_n hx hb dMd_apply_206 rfl (lv_at hl 6 rfl) ?_
      refine lv_dup2_11 hx hb dMd_apply_207 rfl rfl ?_
      refine vq_iald (k := k) (f := ma 2) hx hb hK hP 3 0 rfl rfl rfl (by omega) (by decide) dMd_apply_208 ?_
      refine lv_iload_n hx hb dMd_apply_209 rfl (lv_at hl 4 rfl) ?_
      refine lv_iconst (v := 1) hx hb dMd_apply_210 (by decide) ?_
      refine lv_icmp_ne (tgt := 218) hx hb dMd_apply_211 (by decide) (fun c_20 => absurd c_20 (by decide)) (fun _ => ?_)
      refine lv_iconst (v := 1) hx hb dMd_apply_214 (by decide) ?_
      refine lv_goto (tgt := 219) hx hb dMd_apply_215 (by decide) ?_
      refine lv_iadd hx hb dMd_apply_219 ?_
      refine vq_iast (k := k) (f := ma 2) hx hb hK hP hD hS 3 0 rfl rfl rfl (by omega) (by decide) dMd_apply_220 (fun H locs hP hD hS => ?_)
      have hP : va_P (dC, dI) vwCl (wM y y1 y2 y3 y4 y5 y6 y7 y8 y9 y10 cI (va_up mi 0 0) (va_up (va_up (va_up (va_up (va_up (va_up ma 0 (upd (ma 0) k (nI (n + 1)))) 7 (upd (ma 7) ((64 * k) + ((n + 1) % 64)) (mi 6))) 8 (m_av (mi 6) (ma 9) ((64 * k) + ((n + 1) % 64)) ((64 * k) + (n % 64)) (ma 8) 16)) 5 (upd (ma 5) ((16 * k) + se) (mi 3))) 6 (upd (ma 6) ((16 * k) + se) 1)) 2 (upd (ma 2) k (((ma 2) k) + 1)))) H := hP
      have hD : va_D A (wM y y1 y2 y3 y4 y5 y6 y7 y8 y9 y10 cI (va_up mi 0 0) (va_up (va_up (va_up (va_up (va_up (va_up ma 0 (upd (ma 0) k (nI (n + 1)))) 7 (upd (ma 7) ((64 * k) + ((n + 1) % 64)) (mi 6))) 8 (m_av (mi 6) (ma 9) ((64 * k) + ((n + 1) % 64)) ((64 * k) + (n % 64)) (ma 8) 16)) 5 (upd (ma 5) ((16 * k) + se) (mi 3))) 6 (upd (ma 6) ((16 * k) + se) 1)) 2 (upd (ma 2) k (((ma 2) k) + 1)))) := hD
      refine lv_aload_n hx hb dMd_apply_221 rfl (lv_at hl 5 rfl) ?_
      refine va_get (D := (dC, dI)) (ci := 3) (v := .ref y4) (C := RMd) (T := TMd) (N := 17) hx hb hts inMd hown hK hP 0 rfl rfl 5 (by decide) (hts _ in_100) (fun _ h9 => h9) rfl dMd_apply_222 ?_
      refine lv_iload_n hx hb dMd_apply_225 rfl (lv_at hl 6 rfl) ?_
      refine lv_dup2_11 hx hb dMd_apply_226 rfl rfl ?_
      refine vq_iald (k := k) (f := ma 3) hx hb hK hP 4 0 rfl rfl rfl (by omega) (by decide) dMd_apply_227 ?_
      refine lv_iload_n hx hb dMd_apply_228 rfl (lv_at hl 4 rfl) ?_
      refine lv_iconst (v := 2) hx hb dMd_apply_229 (by decide) ?_
      refine lv_icmp_ne (tgt := 237) hx hb dMd_apply_230 (by decide) (fun _ => ?_) (fun c_21 => absurd c_21 (by decide))
      refine lv_iconst (v := 0) hx hb dMd_apply_237 (by decide) ?_
      refine lv_iadd hx hb dMd_apply_238 ?_
      refine vq_iast (k := k) (f := ma 3) hx hb hK hP hD hS 4 0 rfl rfl rfl (by omega) (by decide) dMd_apply_239 (fun H locs hP hD hS => ?_)
      have hP : va_P (dC, dI) vwCl (wM y y1 y2 y3 y4 y5 y6 y7 y8 y9 y10 cI (va_up mi 0 0) (va_up (va_up (va_up (va_up (va_up (va_up (va_up ma 0 (upd (ma 0) k (nI (n + 1)))) 7 (upd (ma 7) ((64 * k) + ((n + 1) % 64)) (mi 6))) 8 (m_av (mi 6) (ma 9) ((64 * k) + ((n + 1) % 64)) ((64 * k) + (n % 64)) (ma 8) 16)) 5 (upd (ma 5) ((16 * k) + se) (mi 3))) 6 (upd (ma 6) ((16 * k) + se) 1)) 2 (upd (ma 2) k (((ma 2) k) + 1))) 3 (upd (ma 3) k (((ma 3) k) + 0)))) H := hP
      have hD : va_D A (wM y y1 y2 y3 y4 y5 y6 y7 y8 y9 y10 cI (va_up mi 0 0) (va_up (va_up (va_up (va_up (va_up (va_up (va_up ma 0 (upd (ma 0) k (nI (n + 1)))) 7 (upd (ma 7) ((64 * k) + ((n + 1) % 64)) (mi 6))) 8 (m_av (mi 6) (ma 9) ((64 * k) + ((n + 1) % 64)) ((64 * k) + (n % 64)) (ma 8) 16)) 5 (upd (ma 5) ((16 * k) + se) (mi 3))) 6 (upd (ma 6) ((16 * k) + se) 1)) 2 (upd (ma 2) k (((ma 2) k) + 1))) 3 (upd (ma 3) k (((ma 3) k) + 0)))) := hD
      refine lv_aload_n hx hb dMd_apply_240 rfl (lv_at hl 5 rfl) ?_
      refine va_get (D := (dC, dI)) (ci := 3) (v := .ref y5) (C := RMd) (T := TMd) (N := 17) hx hb hts inMd hown hK hP 0 rfl rfl 6 (by decide) (hts _ in_101) (fun _ h9 => h9) rfl dMd_apply_241 ?_
      refine lv_iload_n hx hb dMd_apply_244 rfl (lv_at hl 6 rfl) ?_
      refine lv_dup2_11 hx hb dMd_apply_245 rfl rfl ?_
      refine vq_iald (k := k) (f := ma 4) hx hb hK hP 5 0 rfl rfl rfl (by omega) (by decide) dMd_apply_246 ?_
      refine lv_iload_n hx hb dMd_apply_247 rfl (lv_at hl 4 rfl) ?_
      refine lv_if_ne (tgt := 255) hx hb dMd_apply_248 (by decide) (fun _ => ?_) (fun c_22 => absurd c_22 (by decide))
      refine lv_iconst (v := 0) hx hb dMd_apply_255 (by decide) ?_
      refine lv_iadd hx hb dMd_apply_256 ?_
      refine vq_iast (k := k) (f := ma 4) hx hb hK hP hD hS 5 0 rfl rfl rfl (by omega) (by decide) dMd_apply_257 (fun H locs hP hD hS => ?_)
      have hP : va_P (dC, dI) vwCl (wM y y1 y2 y3 y4 y5 y6 y7 y8 y9 y10 cI (va_up mi 0 0) (va_up (va_up (va_up (va_up (va_up (va_up (va_up (va_up ma 0 (upd (ma 0) k (nI (n + 1)))) 7 (upd (ma 7) ((64 * k) + ((n + 1) % 64)) (mi 6))) 8 (m_av (mi 6) (ma 9) ((64 * k) + ((n + 1) % 64)) ((64 * k) + (n % 64)) (ma 8) 16)) 5 (upd (ma 5) ((16 * k) + se) (mi 3))) 6 (upd (ma 6) ((16 * k) + se) 1)) 2 (upd (ma 2) k (((ma 2) k) + 1))) 3 (upd (ma 3) k (((ma 3) k) + 0))) 4 (upd (ma 4) k (((ma 4) k) + 0)))) H := hP
      have hD : va_D A (wM y y1 y2 y3 y4 y5 y6 y7 y8 y9 y10 cI (va_up mi 0 0) (va_up (va_up (va_up (va_up (va_up (va_up (va_up (va_up ma 0 (upd (ma 0) k (nI (n + 1)))) 7 (upd (ma 7) ((64 * k) + ((n + 1) % 64)) (mi 6))) 8 (m_av (mi 6) (ma 9) ((64 * k) + ((n + 1) % 64)) ((64 * k) + (n % 64)) (ma 8) 16)) 5 (upd (ma 5) ((16 * k) + se) (mi 3))) 6 (upd (ma 6) ((16 * k) + se) 1)) 2 (upd (ma 2) k (((ma 2) k) + 1))) 3 (upd (ma 3) k (((ma 3) k) + 0))) 4 (upd (ma 4) k (((ma 4) k) + 0)))) := hD
      refine lv_aload_n hx hb dMd_apply_258 rfl (lv_at hl 5 rfl) ?_
      refine va_get (D := (dC, dI)) (ci := 3) (v := .ref y2) (C := RMd) (T := TMd) (N := 17) hx hb hts inMd hown hK hP 0 rfl rfl 3 (by decide) (hts _ in_102) (fun _ h9 => h9) rfl dMd_apply_259 ?_
      refine lv_iload_n hx hb dMd_apply_262 rfl (lv_at hl 6 rfl) ?_
      refine lv_aload_n hx hb dMd_apply_263 rfl (lv_at hl 5 rfl) ?_
      refine va_get (D := (dC, dI)) (ci := 3) (v := .ref y2) (C := RMd) (T := TMd) (N := 17) hx hb hts inMd hown hK hP 0 rfl rfl 3 (by decide) (hts _ in_102) (fun _ h9 => h9) rfl dMd_apply_264 ?_
      refine lv_iload_n hx hb dMd_apply_267 rfl (lv_at hl 6 rfl) ?_
      refine vq_iald (k := k) (f := ma 1) hx hb hK hP 2 0 rfl rfl rfl (by omega) (by decide) dMd_apply_268 ?_
      refine lv_iload_n hx hb dMd_apply_269 rfl (lv_at hl 3 rfl) ?_
      refine lv_aload_n hx hb dMd_apply_270 rfl (lv_at hl 5 rfl) ?_
      refine va_get (D := (dC, dI)) (ci := 3) (v := .int (mi 1)) (C := RMd) (T := TMd) (N := 17) hx hb hts inMd hown hK hP 0 rfl rfl 1 (by decide) (hts _ in_86) (fun _ h9 => h9) rfl dMd_apply_271 ?_
      refine lv_isub hx hb dMd_apply_274 ?_
      refine lv_icmp_ge (tgt := 287) hx hb dMd_apply_275 (by decide) (fun c_23 => ?_) (fun c_23 => ?_)
      · skip
        refine lv_aload_n hx hb dMd_apply_287 rfl (lv_at hl 5 rfl) ?_
        refine va_get (D := (dC, dI)) (ci := 3) (v := .ref y2) (C := RMd) (T := TMd) (N := 17) hx hb hts inMd hown hK hP 0 rfl rfl 3 (by decide) (hts _ in_102) (fun _ h9 => h9) rfl dMd_apply_288 ?_
        refine lv_iload_n hx hb dMd_apply_291 rfl (lv_at hl 6 rfl) ?_
        refine vq_iald (k := k) (f := ma 1) hx hb hK hP 2 0 rfl rfl rfl (by omega) (by decide) dMd_apply_292 ?_
        refine vq_iast (k := k) (f := ma 1) hx hb hK hP hD hS 2 0 rfl rfl rfl (by omega) (by decide) dMd_apply_293 (fun H locs hP hD hS => ?_)
        have hP : va_P (dC, dI) vwCl (wM y y1 y2 y3 y4 y5 y6 y7 y8 y9 y10 cI (va_up mi 0 0) (va_up (va_up (va_up (va_up (va_up (va_up (va_up (va_up (va_up ma 0 (upd (ma 0) k (nI (n + 1)))) 7 (upd (ma 7) ((64 * k) + ((n + 1) % 64)) (mi 6))) 8 (m_av (mi 6) (ma 9) ((64 * k) + ((n + 1) % 64)) ((64 * k) + (n % 64)) (ma 8) 16)) 5 (upd (ma 5) ((16 * k) + se) (mi 3))) 6 (upd (ma 6) ((16 * k) + se) 1)) 2 (upd (ma 2) k (((ma 2) k) + 1))) 3 (upd (ma 3) k (((ma 3) k) + 0))) 4 (upd (ma 4) k (((ma 4) k) + 0))) 1 (upd (ma 1) k ((ma 1) k)))) H := hP
        have hD : va_D A (wM y y1 y2 y3 y4 y5 y6 y7 y8 y9 y10 cI (va_up mi 0 0) (va_up (va_up (va_up (va_up (va_up (va_up (va_up (va_up (va_up ma 0 (upd (ma 0) k (nI (n + 1)))) 7 (upd (ma 7) ((64 * k) + ((n + 1) % 64)) (mi 6))) 8 (m_av (mi 6) (ma 9) ((64 * k) + ((n + 1) % 64)) ((64 * k) + (n % 64)) (ma 8) 16)) 5 (upd (ma 5) ((16 * k) + se) (mi 3))) 6 (upd (ma 6) ((16 * k) + se) 1)) 2 (upd (ma 2) k (((ma 2) k) + 1))) 3 (upd (ma 3) k (((ma 3) k) + 0))) 4 (upd (ma 4) k (((ma 4) k) + 0))) 1 (upd (ma 1) k ((ma 1) k)))) := hD
        refine lv_iload_n hx hb dMd_apply_294 rfl (lv_at hl 4 rfl) ?_
        have hP9 : va_P (dC, dI) vwCl (wM y y1 y2 y3 y4 y5 y6 y7 y8 y9 y10 cI (va_up mi 0 0) ((m_ap mi ma k n se b).2)) H := by rw [m_ap_1 hv]; simp only [m_ap_, if_pos c_23]; exact hP
        have hD9 : va_D A (wM y y1 y2 y3 y4 y5 y6 y7 y8 y9 y10 cI (va_up mi 0 0) ((m_ap mi ma k n se b).2)) := by rw [m_ap_1 hv]; simp only [m_ap_, if_pos c_23]; exact hD
        exact W.iret (v := 1) hx hb hr (fun t ht hW => ⟨⟨1, (), rfl, by rw [m_ap_1 hv], by rw [ht]; exact hP9, va_K.moved hW.alike hK, hD9⟩, hS.F ht⟩) hS.2.2 dMd_apply_295
      · skip
        refine lv_iload_n hx hb dMd_apply_278 rfl (lv_at hl 3 rfl) ?_
        refine lv_aload_n hx hb dMd_apply_279 rfl (lv_at hl 5 rfl) ?_
        refine va_get (D := (dC, dI)) (ci := 3) (v := .int (mi 1)) (C := RMd) (T := TMd) (N := 17) hx hb hts inMd hown hK hP 0 rfl rfl 1 (by decide) (hts _ in_86) (fun _ h9 => h9) rfl dMd_apply_280 ?_
        refine lv_isub hx hb dMd_apply_283 ?_
        refine lv_goto (tgt := 293) hx hb dMd_apply_284 (by decide) ?_
        refine vq_iast (k := k) (f := ma 1) hx hb hK hP hD hS 2 0 rfl rfl rfl (by omega) (by decide) dMd_apply_293 (fun H locs hP hD hS => ?_)
        have hP : va_P (dC, dI) vwCl (wM y y1 y2 y3 y4 y5 y6 y7 y8 y9 y10 cI (va_up mi 0 0) (va_up (va_up (va_up (va_up (va_up (va_up (va_up (va_up (va_up ma 0 (upd (ma 0) k (nI (n + 1)))) 7 (upd (ma 7) ((64 * k) + ((n + 1) % 64)) (mi 6))) 8 (m_av (mi 6) (ma 9) ((64 * k) + ((n + 1) % 64)) ((64 * k) + (n % 64)) (ma 8) 16)) 5 (upd (ma 5) ((16 * k) + se) (mi 3))) 6 (upd (ma 6) ((16 * k) + se) 1)) 2 (upd (ma 2) k (((ma 2) k) + 1))) 3 (upd (ma 3) k (((ma 3) k) + 0))) 4 (upd (ma 4) k (((ma 4) k) + 0))) 1 (upd (ma 1) k ((nI (n + 1)) - (mi 1))))) H := hP
        have hD : va_D A (wM y y1 y2 y3 y4 y5 y6 y7 y8 y9 y10 cI (va_up mi 0 0) (va_up (va_up (va_up (va_up (va_up (va_up (va_up (va_up (va_up ma 0 (upd (ma 0) k (nI (n + 1)))) 7 (upd (ma 7) ((64 * k) + ((n + 1) % 64)) (mi 6))) 8 (m_av (mi 6) (ma 9) ((64 * k) + ((n + 1) % 64)) ((64 * k) + (n % 64)) (ma 8) 16)) 5 (upd (ma 5) ((16 * k) + se) (mi 3))) 6 (upd (ma 6) ((16 * k) + se) 1)) 2 (upd (ma 2) k (((ma 2) k) + 1))) 3 (upd (ma 3) k (((ma 3) k) + 0))) 4 (upd (ma 4) k (((ma 4) k) + 0))) 1 (upd (ma 1) k ((nI (n + 1)) - (mi 1))))) := hD
        refine lv_iload_n hx hb dMd_apply_294 rfl (lv_at hl 4 rfl) ?_
        have hP9 : va_P (dC, dI) vwCl (wM y y1 y2 y3 y4 y5 y6 y7 y8 y9 y10 cI (va_up mi 0 0) ((m_ap mi ma k n se b).2)) H := by rw [m_ap_1 hv]; simp only [m_ap_, if_neg c_23]; exact hP
        have hD9 : va_D A (wM y y1 y2 y3 y4 y5 y6 y7 y8 y9 y10 cI (va_up mi 0 0) ((m_ap mi ma k n se b).2)) := by rw [m_ap_1 hv]; simp only [m_ap_, if_neg c_23]; exact hD
        exact W.iret (v := 1) hx hb hr (fun t ht hW => ⟨⟨1, (), rfl, by rw [m_ap_1 hv], by rw [ht]; exact hP9, va_K.moved hW.alike hK, hD9⟩, hS.F ht⟩) hS.2.2 dMd_apply_295
    · skip
      have hj : j < 16 := lp_c (by decide) hj c_18
      refine lv_iload_n hx hb dMd_apply_93 rfl (lv_at hl 4 rfl) ?_
      refine lv_iconst (v := 1) hx hb dMd_apply_94 (by decide) ?_
      refine lv_icmp_ne (tgt := 115) hx hb dMd_apply_95 (by decide) (fun c_24 => absurd c_24 (by decide)) (fun _ => ?_)
      refine lv_aload_n hx hb dMd_apply_98 rfl (lv_at hl 5 rfl) ?_
      refine va_get (D := (dC, dI)) (ci := 3) (v := .int (mi 6)) (C := RMd) (T := TMd) (N := 17) hx hb hts inMd hown hK hP 0 rfl rfl 15 (by decide) (hts _ in_80) (fun _ h9 => h9) rfl dMd_apply_99 ?_
      refine lv_iload hx hb dMd_apply_102 (lv_at hl 0 rfl) ?_
      refine lv_ishr hx hb dMd_apply_104 ?_
      refine lv_iconst (v := 1) hx hb dMd_apply_105 (by decide) ?_
      refine lv_iand hx hb dMd_apply_106 ?_
      refine lv_iconst (v := 1) hx hb dMd_apply_107 (by decide) ?_
      refine lv_icmp_ne (tgt := 115) hx hb dMd_apply_108 (by decide) (fun c_25 => ?_) (fun c_25 => ?_)
      · skip
        refine lv_iconst (v := 0) hx hb dMd_apply_115 (by decide) ?_
        refine lv_istore (lv' := [(7, .int 0), (6, .int (nI j)), (5, .int (nI ((64 * k) + (n % 64)))), (4, .int (nI ((64 * k) + ((n + 1) % 64)))), (3, .int (nI (n + 1))), (2, .int 1), (0, .ref y), (1, .int (nI k))]) hx hb dMd_apply_116 hl (by decide) rfl (fun ls hl => ?_)
        refine lv_aload_n hx hb dMd_apply_118 rfl (lv_at hl 6 rfl) ?_
        refine va_get (D := (dC, dI)) (ci := 3) (v := .ref y9) (C := RMd) (T := TMd) (N := 17) hx hb hts inMd hown hK hP 0 rfl rfl 10 (by decide) (hts _ in_103) (fun _ h9 => h9) rfl dMd_apply_119 ?_
        refine lv_bipush (v := nI 16) hx hb dMd_apply_122 (by decide) ?_
        refine lv_iload hx hb dMd_apply_124 (lv_at hl 3 rfl) ?_
        refine lv_imul hx hb dMd_apply_126 ?_
        refine lv_ri (y := nI (16 * ((64 * k) + ((n + 1) % 64)))) (pk_mul _ _) ?_
        refine lv_iload hx hb dMd_apply_127 (lv_at hl 1 rfl) ?_
        refine lv_iadd hx hb dMd_apply_129 ?_
        refine lv_ri (y := nI ((16 * ((64 * k) + ((n + 1) % 64))) + j)) (nI_add _ _) ?_
        refine lv_iload hx hb dMd_apply_130 (lv_at hl 0 rfl) ?_
        refine lv_if_eq (tgt := 145) hx hb dMd_apply_132 (by decide) (fun _ => ?_) (fun c_26 => absurd c_26 (by decide))
        refine lv_aload_n hx hb dMd_apply_145 rfl (lv_at hl 6 rfl) ?_
        refine va_get (D := (dC, dI)) (ci := 3) (v := .ref y9) (C := RMd) (T := TMd) (N := 17) hx hb hts inMd hown hK hP 0 rfl rfl 10 (by decide) (hts _ in_103) (fun _ h9 => h9) rfl dMd_apply_146 ?_
        refine lv_bipush (v := nI 16) hx hb dMd_apply_149 (by decide) ?_
        refine lv_iload hx hb dMd_apply_151 (lv_at hl 2 rfl) ?_
        refine lv_imul hx hb dMd_apply_153 ?_
        refine lv_ri (y := nI (16 * ((64 * k) + (n % 64)))) (pk_mul _ _) ?_
        refine lv_iload hx hb dMd_apply_154 (lv_at hl 1 rfl) ?_
        refine lv_iadd hx hb dMd_apply_156 ?_
        refine lv_ri (y := nI ((16 * ((64 * k) + (n % 64))) + j)) (nI_add _ _) ?_
        refine vq_iald (k := ((16 * ((64 * k) + (n % 64))) + j)) (f := m_av (mi 6) (ma 9) ((64 * k) + ((n + 1) % 64)) ((64 * k) + (n % 64)) (ma 8) j) hx hb hK hP 9 0 rfl rfl rfl (by omega) (by decide) dMd_apply_157 ?_
        refine vq_iast (k := ((16 * ((64 * k) + ((n + 1) % 64))) + j)) (f := m_av (mi 6) (ma 9) ((64 * k) + ((n + 1) % 64)) ((64 * k) + (n % 64)) (ma 8) j) hx hb hK hP hD hS 9 0 rfl rfl rfl (by omega) (by decide) dMd_apply_158 (fun H locs hP hD hS => ?_)
        have hP : va_P (dC, dI) vwCl (wM y y1 y2 y3 y4 y5 y6 y7 y8 y9 y10 cI (va_up mi 0 0) (va_up (va_up (va_up ma 0 (upd (ma 0) k (nI (n + 1)))) 7 (upd (ma 7) ((64 * k) + ((n + 1) % 64)) (mi 6))) 8 (upd (m_av (mi 6) (ma 9) ((64 * k) + ((n + 1) % 64)) ((64 * k) + (n % 64)) (ma 8) j) ((16 * ((64 * k) + ((n + 1) % 64))) + j) ((m_av (mi 6) (ma 9) ((64 * k) + ((n + 1) % 64)) ((64 * k) + (n % 64)) (ma 8) j) ((16 * ((64 * k) + (n % 64))) + j))))) H := hP
        have hD : va_D A (wM y y1 y2 y3 y4 y5 y6 y7 y8 y9 y10 cI (va_up mi 0 0) (va_up (va_up (va_up ma 0 (upd (ma 0) k (nI (n + 1)))) 7 (upd (ma 7) ((64 * k) + ((n + 1) % 64)) (mi 6))) 8 (upd (m_av (mi 6) (ma 9) ((64 * k) + ((n + 1) % 64)) ((64 * k) + (n % 64)) (ma 8) j) ((16 * ((64 * k) + ((n + 1) % 64))) + j) ((m_av (mi 6) (ma 9) ((64 * k) + ((n + 1) % 64)) ((64 * k) + (n % 64)) (ma 8) j) ((16 * ((64 * k) + (n % 64))) + j))))) := hD
        refine lv_iinc (v := nI (j + 1)) (lv' := [(6, .int (nI (j + 1))), (7, .int 0), (5, .int (nI ((64 * k) + (n % 64)))), (4, .int (nI ((64 * k) + ((n + 1) % 64)))), (3, .int (nI (n + 1))), (2, .int 1), (0, .ref y), (1, .int (nI k))]) hx hb dMd_apply_159 hl (k := 1) rfl (by first | exact nI_1 _ | (show _ + (1 : Int32) = _; exact nI_1 _)) (by decide) rfl (fun ls hl => ?_)
        refine lv_goto (tgt := 86) hx hb dMd_apply_162 (by decide) ?_
        have hl9 : lv_has ls 8 [(6, .int (nI (j + 1))), (5, .int (nI ((64 * k) + (n % 64)))), (4, .int (nI ((64 * k) + ((n + 1) % 64)))), (3, .int (nI (n + 1))), (2, .int 1), (0, .ref y), (1, .int (nI k))] := by first | exact lv_sub hl [0, 2, 3, 4, 5, 6, 7] rfl | (simp only [m_av, m_cp, if_neg c_25]; exact lv_sub hl [0, 2, 3, 4, 5, 6, 7] rfl)
        have hP9 : va_P (dC, dI) vwCl (wM y y1 y2 y3 y4 y5 y6 y7 y8 y9 y10 cI (va_up mi 0 0) (va_up (va_up (va_up ma 0 (upd (ma 0) k (nI (n + 1)))) 7 (upd (ma 7) ((64 * k) + ((n + 1) % 64)) (mi 6))) 8 (m_av (mi 6) (ma 9) ((64 * k) + ((n + 1) % 64)) ((64 * k) + (n % 64)) (ma 8) (j + 1)))) H := by first | exact hP | (simp only [m_av, m_cp, if_neg c_25]; exact hP)
        have hD9 : va_D A (wM y y1 y2 y3 y4 y5 y6 y7 y8 y9 y10 cI (va_up mi 0 0) (va_up (va_up (va_up ma 0 (upd (ma 0) k (nI (n + 1)))) 7 (upd (ma 7) ((64 * k) + ((n + 1) % 64)) (mi 6))) 8 (m_av (mi 6) (ma 9) ((64 * k) + ((n + 1) % 64)) ((64 * k) + (n % 64)) (ma 8) (j + 1)))) := by first | exact hD | (simp only [m_av, m_cp, if_neg c_25]; exact hD)
        exact ih (j + 1, H, locs, ls) ⟨hj, hP9, hD9, hS, hl9⟩ (by show 16 - (j + 1) < 16 - j; omega)
      · skip
        refine lv_iconst (v := 1) hx hb dMd_apply_111 (by decide) ?_
        refine lv_goto (tgt := 116) hx hb dMd_apply_112 (by decide) ?_
        refine lv_istore (lv' := [(7, .int 1), (6, .int (nI j)), (5, .int (nI ((64 * k) + (n % 64)))), (4, .int (nI ((64 * k) + ((n + 1) % 64)))), (3, .int (nI (n + 1))), (2, .int 1), (0, .ref y), (1, .int (nI k))]) hx hb dMd_apply_116 hl (by decide) rfl (fun ls hl => ?_)
        refine lv_aload_n hx hb dMd_apply_118 rfl (lv_at hl 6 rfl) ?_
        refine va_get (D := (dC, dI)) (ci := 3) (v := .ref y9) (C := RMd) (T := TMd) (N := 17) hx hb hts inMd hown hK hP 0 rfl rfl 10 (by decide) (hts _ in_103) (fun _ h9 => h9) rfl dMd_apply_119 ?_
        refine lv_bipush (v := nI 16) hx hb dMd_apply_122 (by decide) ?_
        refine lv_iload hx hb dMd_apply_124 (lv_at hl 3 rfl) ?_
        refine lv_imul hx hb dMd_apply_126 ?_
        refine lv_ri (y := nI (16 * ((64 * k) + ((n + 1) % 64)))) (pk_mul _ _) ?_
        refine lv_iload hx hb dMd_apply_127 (lv_at hl 1 rfl) ?_
        refine lv_iadd hx hb dMd_apply_129 ?_
        refine lv_ri (y := nI ((16 * ((64 * k) + ((n + 1) % 64))) + j)) (nI_add _ _) ?_
        refine lv_iload hx hb dMd_apply_130 (lv_at hl 0 rfl) ?_
        refine lv_if_eq (tgt := 145) hx hb dMd_apply_132 (by decide) (fun c_27 => absurd c_27 (by decide)) (fun _ => ?_)
        refine lv_aload_n hx hb dMd_apply_135 rfl (lv_at hl 6 rfl) ?_
        refine va_get (D := (dC, dI)) (ci := 3) (v := .ref y10) (C := RMd) (T := TMd) (N := 17) hx hb hts inMd hown hK hP 0 rfl rfl 16 (by decide) (hts _ in_81) (fun _ h9 => h9) rfl dMd_apply_136 ?_
        refine lv_iload hx hb dMd_apply_139 (lv_at hl 1 rfl) ?_
        refine vq_iald (k := j) (f := ma 9) hx hb hK hP 10 0 rfl rfl rfl (by omega) (by decide) dMd_apply_141 ?_
        refine lv_goto (tgt := 158) hx hb dMd_apply_142 (by decide) ?_
        refine vq_iast (k := ((16 * ((64 * k) + ((n + 1) % 64))) + j)) (f := m_av (mi 6) (ma 9) ((64 * k) + ((n + 1) % 64)) ((64 * k) + (n % 64)) (ma 8) j) hx hb hK hP hD hS 9 0 rfl rfl rfl (by omega) (by decide) dMd_apply_158 (fun H locs hP hD hS => ?_)
        have hP : va_P (dC, dI) vwCl (wM y y1 y2 y3 y4 y5 y6 y7 y8 y9 y10 cI (va_up mi 0 0) (va_up (va_up (va_up ma 0 (upd (ma 0) k (nI (n + 1)))) 7 (upd (ma 7) ((64 * k) + ((n + 1) % 64)) (mi 6))) 8 (upd (m_av (mi 6) (ma 9) ((64 * k) + ((n + 1) % 64)) ((64 * k) + (n % 64)) (ma 8) j) ((16 * ((64 * k) + ((n + 1) % 64))) + j) ((ma 9) j)))) H := hP
        have hD : va_D A (wM y y1 y2 y3 y4 y5 y6 y7 y8 y9 y10 cI (va_up mi 0 0) (va_up (va_up (va_up ma 0 (upd (ma 0) k (nI (n + 1)))) 7 (upd (ma 7) ((64 * k) + ((n + 1) % 64)) (mi 6))) 8 (upd (m_av (mi 6) (ma 9) ((64 * k) + ((n + 1) % 64)) ((64 * k) + (n % 64)) (ma 8) j) ((16 * ((64 * k) + ((n + 1) % 64))) + j) ((ma 9) j)))) := hD
        refine lv_iinc (v := nI (j + 1)) (lv' := [(6, .int (nI (j + 1))), (7, .int 1), (5, .int (nI ((64 * k) + (n % 64)))), (4, .int (nI ((64 * k) + ((n + 1) % 64)))), (3, .int (nI (n + 1))), (2, .int 1), (0, .ref y), (1, .int (nI k))]) hx hb dMd_apply_159 hl (k := 1) rfl (by first | exact nI_1 _ | (show _ + (1 : Int32) = _; exact nI_1 _)) (by decide) rfl (fun ls hl => ?_)
        refine lv_goto (tgt := 86) hx hb dMd_apply_162 (by decide) ?_
        have hl9 : lv_has ls 8 [(6, .int (nI (j + 1))), (5, .int (nI ((64 * k) + (n % 64)))), (4, .int (nI ((64 * k) + ((n + 1) % 64)))), (3, .int (nI (n + 1))), (2, .int 1), (0, .ref y), (1, .int (nI k))] := by first | exact lv_sub hl [0, 2, 3, 4, 5, 6, 7] rfl | (simp only [m_av, m_cp, if_pos c_25]; exact lv_sub hl [0, 2, 3, 4, 5, 6, 7] rfl)
        have hP9 : va_P (dC, dI) vwCl (wM y y1 y2 y3 y4 y5 y6 y7 y8 y9 y10 cI (va_up mi 0 0) (va_up (va_up (va_up ma 0 (upd (ma 0) k (nI (n + 1)))) 7 (upd (ma 7) ((64 * k) + ((n + 1) % 64)) (mi 6))) 8 (m_av (mi 6) (ma 9) ((64 * k) + ((n + 1) % 64)) ((64 * k) + (n % 64)) (ma 8) (j + 1)))) H := by first | exact hP | (simp only [m_av, m_cp, if_pos c_25]; exact hP)
        have hD9 : va_D A (wM y y1 y2 y3 y4 y5 y6 y7 y8 y9 y10 cI (va_up mi 0 0) (va_up (va_up (va_up ma 0 (upd (ma 0) k (nI (n + 1)))) 7 (upd (ma 7) ((64 * k) + ((n + 1) % 64)) (mi 6))) 8 (m_av (mi 6) (ma 9) ((64 * k) + ((n + 1) % 64)) ((64 * k) + (n % 64)) (ma 8) (j + 1)))) := by first | exact hD | (simp only [m_av, m_cp, if_pos c_25]; exact hD)
        exact ih (j + 1, H, locs, ls) ⟨hj, hP9, hD9, hS, hl9⟩ (by show 16 - (j + 1) < 16 - j; omega)
  · skip
    refine lv_ri (y := 2) hv ?_
    refine lv_istore_n (lv' := [(2, .int 2), (0, .ref y), (1, .int (nI k))]) hx hb dMd_apply_15 rfl hl (by decide) rfl (fun ls hl => ?_)
    refine lv_iload_n hx hb dMd_apply_16 rfl (lv_at hl 0 rfl) ?_
    refine lv_if_ge (tgt := 22) hx hb dMd_apply_17 (by decide) (fun _ => ?_) (fun c_28 => absurd c_28 (by decide))
    refine lv_aload_n hx hb dMd_apply_22 rfl (lv_at hl 1 rfl) ?_
    refine va_get (D := (dC, dI)) (ci := 3) (v := .ref y1) (C := RMd) (T := TMd) (N := 17) hx hb hts inMd hown hK hP 0 rfl rfl 2 (by decide) (hts _ in_82) (fun _ h9 => h9) rfl dMd_apply_23 ?_
    refine lv_iload_n hx hb dMd_apply_26 rfl (lv_at hl 2 rfl) ?_
    refine lv_dup2_11 hx hb dMd_apply_27 rfl rfl ?_
    refine vq_iald (k := k) (f := ma 0) hx hb hK hP 1 0 rfl rfl rfl (by omega) (by decide) dMd_apply_28 ?_
    refine lv_ri (y := nI n) hix ?_
    refine lv_iconst (v := 1) hx hb dMd_apply_29 (by decide) ?_
    refine lv_iadd hx hb dMd_apply_30 ?_
    refine lv_ri (y := nI (n + 1)) (nI_1 _) ?_
    refine vq_iast (k := k) (f := ma 0) hx hb hK hP hD hS 1 0 rfl rfl rfl (by omega) (by decide) dMd_apply_31 (fun H locs hP hD hS => ?_)
    have hP : va_P (dC, dI) vwCl (wM y y1 y2 y3 y4 y5 y6 y7 y8 y9 y10 cI (va_up mi 0 0) (va_up ma 0 (upd (ma 0) k (nI (n + 1))))) H := hP
    have hD : va_D A (wM y y1 y2 y3 y4 y5 y6 y7 y8 y9 y10 cI (va_up mi 0 0) (va_up ma 0 (upd (ma 0) k (nI (n + 1))))) := hD
    refine lv_aload_n hx hb dMd_apply_32 rfl (lv_at hl 1 rfl) ?_
    refine va_get (D := (dC, dI)) (ci := 3) (v := .ref y1) (C := RMd) (T := TMd) (N := 17) hx hb hts inMd hown hK hP 0 rfl rfl 2 (by decide) (hts _ in_82) (fun _ h9 => h9) rfl dMd_apply_33 ?_
    refine lv_iload_n hx hb dMd_apply_36 rfl (lv_at hl 2 rfl) ?_
    refine vq_iald (k := k) (f := upd (ma 0) k (nI (n + 1))) hx hb hK hP 1 0 rfl rfl rfl (by omega) (by decide) dMd_apply_37 ?_
    refine lv_ri (y := nI (n + 1)) pk_us ?_
    refine lv_istore_n (lv' := [(3, .int (nI (n + 1))), (2, .int 2), (0, .ref y), (1, .int (nI k))]) hx hb dMd_apply_38 rfl hl (by decide) rfl (fun ls hl => ?_)
    refine lv_bipush (v := nI 64) hx hb dMd_apply_39 (by decide) ?_
    refine lv_iload_n hx hb dMd_apply_41 rfl (lv_at hl 3 rfl) ?_
    refine lv_imul hx hb dMd_apply_42 ?_
    refine lv_ri (y := nI (64 * k)) (pk_mul _ _) ?_
    refine lv_iload_n hx hb dMd_apply_43 rfl (lv_at hl 0 rfl) ?_
    refine lv_bipush (v := nI 64) hx hb dMd_apply_44 (by decide) ?_
    refine lv_irem hx hb dMd_apply_46 (by decide) ?_
    refine lv_ri (y := nI ((n + 1) % 64)) (pk_rem (by omega) (by decide) (by decide)) ?_
    refine lv_iadd hx hb dMd_apply_47 ?_
    refine lv_ri (y := nI ((64 * k) + ((n + 1) % 64))) (nI_add _ _) ?_
    refine lv_istore (lv' := [(4, .int (nI ((64 * k) + ((n + 1) % 64)))), (3, .int (nI (n + 1))), (2, .int 2), (0, .ref y), (1, .int (nI k))]) hx hb dMd_apply_48 hl (by decide) rfl (fun ls hl => ?_)
    refine lv_bipush (v := nI 64) hx hb dMd_apply_50 (by decide) ?_
    refine lv_iload_n hx hb dMd_apply_52 rfl (lv_at hl 4 rfl) ?_
    refine lv_imul hx hb dMd_apply_53 ?_
    refine lv_ri (y := nI (64 * k)) (pk_mul _ _) ?_
    refine lv_iload_n hx hb dMd_apply_54 rfl (lv_at hl 1 rfl) ?_
    refine lv_iconst (v := 1) hx hb dMd_apply_55 (by decide) ?_
    refine lv_isub hx hb dMd_apply_56 ?_
    refine lv_ri (y := nI n) (nI_pred n) ?_
    refine lv_bipush (v := nI 64) hx hb dMd_apply_57 (by decide) ?_
    refine lv_irem hx hb dMd_apply_59 (by decide) ?_
    refine lv_ri (y := nI (n % 64)) (pk_rem (by omega) (by decide) (by decide)) ?_
    refine lv_iadd hx hb dMd_apply_60 ?_
    refine lv_ri (y := nI ((64 * k) + (n % 64))) (nI_add _ _) ?_
    refine lv_istore (lv' := [(5, .int (nI ((64 * k) + (n % 64)))), (4, .int (nI ((64 * k) + ((n + 1) % 64)))), (3, .int (nI (n + 1))), (2, .int 2), (0, .ref y), (1, .int (nI k))]) hx hb dMd_apply_61 hl (by decide) rfl (fun ls hl => ?_)
    refine lv_aload_n hx hb dMd_apply_63 rfl (lv_at hl 4 rfl) ?_
    refine va_get (D := (dC, dI)) (ci := 3) (v := .ref y8) (C := RMd) (T := TMd) (N := 17) hx hb hts inMd hown hK hP 0 rfl rfl 9 (by decide) (hts _ in_83) (fun _ h9 => h9) rfl dMd_apply_64 ?_
    refine lv_iload hx hb dMd_apply_67 (lv_at hl 1 rfl) ?_
    refine lv_iload_n hx hb dMd_apply_69 rfl (lv_at hl 3 rfl) ?_
    refine lv_iconst (v := 1) hx hb dMd_apply_70 (by decide) ?_
    refine lv_icmp_ne (tgt := 81) hx hb dMd_apply_71 (by decide) (fun _ => ?_) (fun c_29 => absurd c_29 (by decide))
    refine lv_iconst (v := 0) hx hb dMd_apply_81 (by decide) ?_
    refine vq_iast (k := ((64 * k) + ((n + 1) % 64))) (f := ma 7) hx hb hK hP hD hS 8 0 rfl rfl rfl (by omega) (by decide) dMd_apply_82 (fun H locs hP hD hS => ?_)
    have hP : va_P (dC, dI) vwCl (wM y y1 y2 y3 y4 y5 y6 y7 y8 y9 y10 cI (va_up mi 0 0) (va_up (va_up ma 0 (upd (ma 0) k (nI (n + 1)))) 7 (upd (ma 7) ((64 * k) + ((n + 1) % 64)) 0))) H := hP
    have hD : va_D A (wM y y1 y2 y3 y4 y5 y6 y7 y8 y9 y10 cI (va_up mi 0 0) (va_up (va_up ma 0 (upd (ma 0) k (nI (n + 1)))) 7 (upd (ma 7) ((64 * k) + ((n + 1) % 64)) 0))) := hD
    refine lv_iconst (v := 0) hx hb dMd_apply_83 (by decide) ?_
    refine lv_istore (lv' := [(6, .int 0), (5, .int (nI ((64 * k) + (n % 64)))), (4, .int (nI ((64 * k) + ((n + 1) % 64)))), (3, .int (nI (n + 1))), (2, .int 2), (0, .ref y), (1, .int (nI k))]) hx hb dMd_apply_84 hl (by decide) rfl (fun ls hl => ?_)
    refine wl_rw (σ := Nat × Heap × List Loc × Array Slot) (fun z9 => (z9.2.1, z9.2.2.1, F0 m 86 z9.2.2.2 [])) (fun z9 => z9.1 ≤ 16 ∧ va_P (dC, dI) vwCl (wM y y1 y2 y3 y4 y5 y6 y7 y8 y9 y10 cI (va_up mi 0 0) (va_up (va_up (va_up ma 0 (upd (ma 0) k (nI (n + 1)))) 7 (upd (ma 7) ((64 * k) + ((n + 1) % 64)) 0)) 8 (m_cp (ma 8) (16 * ((64 * k) + ((n + 1) % 64))) (16 * ((64 * k) + (n % 64))) z9.1))) z9.2.1 ∧ va_D A (wM y y1 y2 y3 y4 y5 y6 y7 y8 y9 y10 cI (va_up mi 0 0) (va_up (va_up (va_up ma 0 (upd (ma 0) k (nI (n + 1)))) 7 (upd (ma 7) ((64 * k) + ((n + 1) % 64)) 0)) 8 (m_cp (ma 8) (16 * ((64 * k) + ((n + 1) % 64))) (16 * ((64 * k) + (n % 64))) z9.1))) ∧ va_S A s.heap z9.2.1 z9.2.2.1 ∧ lv_has z9.2.2.2 8 [(6, .int (nI z9.1)), (5, .int (nI ((64 * k) + (n % 64)))), (4, .int (nI ((64 * k) + ((n + 1) % 64)))), (3, .int (nI (n + 1))), (2, .int 2), (0, .ref y), (1, .int (nI k))]) (fun z9 => 16 - z9.1) ?_ (0, H, locs, ls) ⟨by omega, hP, hD, hS, lv_sub hl [0, 1, 2, 3, 4, 5, 6] rfl⟩
    rintro ⟨j, H, locs, ls⟩ ⟨hj, hP, hD, hS, hl⟩ ih
    have hj : j ≤ 16 := hj
    have hP : va_P (dC, dI) vwCl (wM y y1 y2 y3 y4 y5 y6 y7 y8 y9 y10 cI (va_up mi 0 0) (va_up (va_up (va_up ma 0 (upd (ma 0) k (nI (n + 1)))) 7 (upd (ma 7) ((64 * k) + ((n + 1) % 64)) 0)) 8 (m_cp (ma 8) (16 * ((64 * k) + ((n + 1) % 64))) (16 * ((64 * k) + (n % 64))) j))) H := hP
    have hD : va_D A (wM y y1 y2 y3 y4 y5 y6 y7 y8 y9 y10 cI (va_up mi 0 0) (va_up (va_up (va_up ma 0 (upd (ma 0) k (nI (n + 1)))) 7 (upd (ma 7) ((64 * k) + ((n + 1) % 64)) 0)) 8 (m_cp (ma 8) (16 * ((64 * k) + ((n + 1) % 64))) (16 * ((64 * k) + (n % 64))) j))) := hD
    have hS : va_S A s.heap H locs := hS
    have hl : lv_has ls 8 [(6, .int (nI j)), (5, .int (nI ((64 * k) + (n % 64)))), (4, .int (nI ((64 * k) + ((n + 1) % 64)))), (3, .int (nI (n + 1))), (2, .int 2), (0, .ref y), (1, .int (nI k))] := hl
    show W p l e _ s m _ below meth c H locs _ _ _ (F0 m 86 ls [])
    refine lv_iload hx hb dMd_apply_86 (lv_at hl 0 rfl) ?_
    refine lv_bipush (v := nI 16) hx hb dMd_apply_88 (by decide) ?_
    refine lv_icmp_ge (tgt := 165) hx hb dMd_apply_90 (by decide) (fun c_30 => ?_) (fun c_30 => ?_)
    · skip
      have hj9 : j = 16 := lp_x (by decide) hj c_30
      subst hj9
      refine lv_iload_n hx hb dMd_apply_165 rfl (lv_at hl 4 rfl) ?_
      refine lv_if_le (tgt := 202) hx hb dMd_apply_166 (by decide) (fun c_31 => absurd c_31 (by decide)) (fun _ => ?_)
      refine lv_aload_n hx hb dMd_apply_169 rfl (lv_at hl 5 rfl) ?_
      refine va_get (D := (dC, dI)) (ci := 3) (v := .ref y6) (C := RMd) (T := TMd) (N := 17) hx hb hts inMd hown hK hP 0 rfl rfl 7 (by decide) (hts _ in_85) (fun _ h9 => h9) rfl dMd_apply_170 ?_
      refine lv_bipush (v := nI 16) hx hb dMd_apply_173 (by decide) ?_
      refine lv_iload_n hx hb dMd_apply_175 rfl (lv_at hl 6 rfl) ?_
      refine lv_imul hx hb dMd_apply_176 ?_
      refine lv_ri (y := nI (16 * k)) (pk_mul _ _) ?_
      refine lv_aload_n hx hb dMd_apply_177 rfl (lv_at hl 5 rfl) ?_
      refine va_get (D := (dC, dI)) (ci := 3) (v := .int (mi 2)) (C := RMd) (T := TMd) (N := 17) hx hb hts inMd hown hK hP 0 rfl rfl 11 (by decide) (hts _ in_76) (fun _ h9 => h9) rfl dMd_apply_178 ?_
      refine lv_ri (y := nI se) hse ?_
      refine lv_iadd hx hb dMd_apply_181 ?_
      refine lv_ri (y := nI ((16 * k) + se)) (nI_add _ _) ?_
      refine lv_aload_n hx hb dMd_apply_182 rfl (lv_at hl 5 rfl) ?_
      refine va_get (D := (dC, dI)) (ci := 3) (v := .int (mi 3)) (C := RMd) (T := TMd) (N := 17) hx hb hts inMd hown hK hP 0 rfl rfl 12 (by decide) (hts _ in_77) (fun _ h9 => h9) rfl dMd_apply_183 ?_
      refine vq_iast (k := ((16 * k) + se)) (f := ma 5) hx hb hK hP hD hS 6 0 rfl rfl rfl (by omega) (by decide) dMd_apply_186 (fun H locs hP hD hS => ?_)
      have hP : va_P (dC, dI) vwCl (wM y y1 y2 y3 y4 y5 y6 y7 y8 y9 y10 cI (va_up mi 0 0) (va_up (va_up (va_up (va_up ma 0 (upd (ma 0) k (nI (n + 1)))) 7 (upd (ma 7) ((64 * k) + ((n + 1) % 64)) 0)) 8 (m_cp (ma 8) (16 * ((64 * k) + ((n + 1) % 64))) (16 * ((64 * k) + (n % 64))) 16)) 5 (upd (ma 5) ((16 * k) + se) (mi 3)))) H := hP
      have hD : va_D A (wM y y1 y2 y3 y4 y5 y6 y7 y8 y9 y10 cI (va_up mi 0 0) (va_up (va_up (va_up (va_up ma 0 (upd (ma 0) k (nI (n + 1)))) 7 (upd (ma 7) ((64 * k) + ((n + 1) % 64)) 0)) 8 (m_cp (ma 8) (16 * ((64 * k) + ((n + 1) % 64))) (16 * ((64 * k) + (n % 64))) 16)) 5 (upd (ma 5) ((16 * k) + se) (mi 3)))) := hD
      refine lv_aload_n hx hb dMd_apply_187 rfl (lv_at hl 5 rfl) ?_
      refine va_get (D := (dC, dI)) (ci := 3) (v := .ref y7) (C := RMd) (T := TMd) (N := 17) hx hb hts inMd hown hK hP 0 rfl rfl 8 (by decide) (hts _ in_104) (fun _ h9 => h9) rfl dMd_apply_188 ?_
      refine lv_bipush (v := nI 16) hx hb dMd_apply_191 (by decide) ?_
      refine lv_iload_n hx hb dMd_apply_193 rfl (lv_at hl 6 rfl) ?_
      refine lv_imul hx hb dMd_apply_194 ?_
      refine lv_ri (y := nI (16 * k)) (pk_mul _ _) ?_
      refine lv_aload_n hx hb dMd_apply_195 rfl (lv_at hl 5 rfl) ?_
      refine va_get (D := (dC, dI)) (ci := 3) (v := .int (mi 2)) (C := RMd) (T := TMd) (N := 17) hx hb hts inMd hown hK hP 0 rfl rfl 11 (by decide) (hts _ in_76) (fun _ h9 => h9) rfl dMd_apply_196 ?_
      refine lv_ri (y := nI se) hse ?_
      refine lv_iadd hx hb dMd_apply_199 ?_
      refine lv_ri (y := nI ((16 * k) + se)) (nI_add _ _) ?_
      refine lv_iload_n hx hb dMd_apply_200 rfl (lv_at hl 4 rfl) ?_
      refine vq_iast (k := ((16 * k) + se)) (f := ma 6) hx hb hK hP hD hS 7 0 rfl rfl rfl (by omega) (by decide) dMd_apply_201 (fun H locs hP hD hS => ?_)
      have hP : va_P (dC, dI) vwCl (wM y y1 y2 y3 y4 y5 y6 y7 y8 y9 y10 cI (va_up mi 0 0) (va_up (va_up (va_up (va_up (va_up ma 0 (upd (ma 0) k (nI (n + 1)))) 7 (upd (ma 7) ((64 * k) + ((n + 1) % 64)) 0)) 8 (m_cp (ma 8) (16 * ((64 * k) + ((n + 1) % 64))) (16 * ((64 * k) + (n % 64))) 16)) 5 (upd (ma 5) ((16 * k) + se) (mi 3))) 6 (upd (ma 6) ((16 * k) + se) 2))) H := hP
      have hD : va_D A (wM y y1 y2 y3 y4 y5 y6 y7 y8 y9 y10 cI (va_up mi 0 0) (va_up (va_up (va_up (va_up (va_up ma 0 (upd (ma 0) k (nI (n + 1)))) 7 (upd (ma 7) ((64 * k) + ((n + 1) % 64)) 0)) 8 (m_cp (ma 8) (16 * ((64 * k) + ((n + 1) % 64))) (16 * ((64 * k) + (n % 64))) 16)) 5 (upd (ma 5) ((16 * k) + se) (mi 3))) 6 (upd (ma 6) ((16 * k) + se) 2))) := hD
      refine lv_aload_n hx hb dMd_apply_202 rfl (lv_at hl 5 rfl) ?_
      refine va_get (D := (dC, dI)) (ci := 3) (v := .ref y3) (C := RMd) (T := TMd) (N := 17) hx hb hts inMd hown hK hP 0 rfl rfl 4 (by decide) (hts _ in_99) (fun _ h9 => h9) rfl dMd_apply_203 ?_
      refine lv_iload_n hx hb dMd_apply_206 rfl (lv_at hl 6 rfl) ?_
      refine lv_dup2_11 hx hb dMd_apply_207 rfl rfl ?_
      refine vq_iald (k := k) (f := ma 2) hx hb hK hP 3 0 rfl rfl rfl (by omega) (by decide) dMd_apply_208 ?_
      refine lv_iload_n hx hb dMd_apply_209 rfl (lv_at hl 4 rfl) ?_
      refine lv_iconst (v := 1) hx hb dMd_apply_210 (by decide) ?_
      refine lv_icmp_ne (tgt := 218) hx hb dMd_apply_211 (by decide) (fun _ => ?_) (fun c_32 => absurd c_32 (by decide))
      refine lv_iconst (v := 0) hx hb dMd_apply_218 (by decide) ?_
      refine lv_iadd hx hb dMd_apply_219 ?_
      refine vq_iast (k := k) (f := ma 2) hx hb hK hP hD hS 3 0 rfl rfl rfl (by omega) (by decide) dMd_apply_220 (fun H locs hP hD hS => ?_)
      have hP : va_P (dC, dI) vwCl (wM y y1 y2 y3 y4 y5 y6 y7 y8 y9 y10 cI (va_up mi 0 0) (va_up (va_up (va_up (va_up (va_up (va_up ma 0 (upd (ma 0) k (nI (n + 1)))) 7 (upd (ma 7) ((64 * k) + ((n + 1) % 64)) 0)) 8 (m_cp (ma 8) (16 * ((64 * k) + ((n + 1) % 64))) (16 * ((64 * k) + (n % 64))) 16)) 5 (upd (ma 5) ((16 * k) + se) (mi 3))) 6 (upd (ma 6) ((16 * k) + se) 2)) 2 (upd (ma 2) k (((ma 2) k) + 0)))) H := hP
      have hD : va_D A (wM y y1 y2 y3 y4 y5 y6 y7 y8 y9 y10 cI (va_up mi 0 0) (va_up (va_up (va_up (va_up (va_up (va_up ma 0 (upd (ma 0) k (nI (n + 1)))) 7 (upd (ma 7) ((64 * k) + ((n + 1) % 64)) 0)) 8 (m_cp (ma 8) (16 * ((64 * k) + ((n + 1) % 64))) (16 * ((64 * k) + (n % 64))) 16)) 5 (upd (ma 5) ((16 * k) + se) (mi 3))) 6 (upd (ma 6) ((16 * k) + se) 2)) 2 (upd (ma 2) k (((ma 2) k) + 0)))) := hD
      refine lv_aload_n hx hb dMd_apply_221 rfl (lv_at hl 5 rfl) ?_
      refine va_get (D := (dC, dI)) (ci := 3) (v := .ref y4) (C := RMd) (T := TMd) (N := 17) hx hb hts inMd hown hK hP 0 rfl rfl 5 (by decide) (hts _ in_100) (fun _ h9 => h9) rfl dMd_apply_222 ?_
      refine lv_iload_n hx hb dMd_apply_225 rfl (lv_at hl 6 rfl) ?_
      refine lv_dup2_11 hx hb dMd_apply_226 rfl rfl ?_
      refine vq_iald (k := k) (f := ma 3) hx hb hK hP 4 0 rfl rfl rfl (by omega) (by decide) dMd_apply_227 ?_
      refine lv_iload_n hx hb dMd_apply_228 rfl (lv_at hl 4 rfl) ?_
      refine lv_iconst (v := 2) hx hb dMd_apply_229 (by decide) ?_
      refine lv_icmp_ne (tgt := 237) hx hb dMd_apply_230 (by decide) (fun c_33 => absurd c_33 (by decide)) (fun _ => ?_)
      refine lv_iconst (v := 1) hx hb dMd_apply_233 (by decide) ?_
      refine lv_goto (tgt := 238) hx hb dMd_apply_234 (by decide) ?_
      refine lv_iadd hx hb dMd_apply_238 ?_
      refine vq_iast (k := k) (f := ma 3) hx hb hK hP hD hS 4 0 rfl rfl rfl (by omega) (by decide) dMd_apply_239 (fun H locs hP hD hS => ?_)
      have hP : va_P (dC, dI) vwCl (wM y y1 y2 y3 y4 y5 y6 y7 y8 y9 y10 cI (va_up mi 0 0) (va_up (va_up (va_up (va_up (va_up (va_up (va_up ma 0 (upd (ma 0) k (nI (n + 1)))) 7 (upd (ma 7) ((64 * k) + ((n + 1) % 64)) 0)) 8 (m_cp (ma 8) (16 * ((64 * k) + ((n + 1) % 64))) (16 * ((64 * k) + (n % 64))) 16)) 5 (upd (ma 5) ((16 * k) + se) (mi 3))) 6 (upd (ma 6) ((16 * k) + se) 2)) 2 (upd (ma 2) k (((ma 2) k) + 0))) 3 (upd (ma 3) k (((ma 3) k) + 1)))) H := hP
      have hD : va_D A (wM y y1 y2 y3 y4 y5 y6 y7 y8 y9 y10 cI (va_up mi 0 0) (va_up (va_up (va_up (va_up (va_up (va_up (va_up ma 0 (upd (ma 0) k (nI (n + 1)))) 7 (upd (ma 7) ((64 * k) + ((n + 1) % 64)) 0)) 8 (m_cp (ma 8) (16 * ((64 * k) + ((n + 1) % 64))) (16 * ((64 * k) + (n % 64))) 16)) 5 (upd (ma 5) ((16 * k) + se) (mi 3))) 6 (upd (ma 6) ((16 * k) + se) 2)) 2 (upd (ma 2) k (((ma 2) k) + 0))) 3 (upd (ma 3) k (((ma 3) k) + 1)))) := hD
      refine lv_aload_n hx hb dMd_apply_240 rfl (lv_at hl 5 rfl) ?_
      refine va_get (D := (dC, dI)) (ci := 3) (v := .ref y5) (C := RMd) (T := TMd) (N := 17) hx hb hts inMd hown hK hP 0 rfl rfl 6 (by decide) (hts _ in_101) (fun _ h9 => h9) rfl dMd_apply_241 ?_
      refine lv_iload_n hx hb dMd_apply_244 rfl (lv_at hl 6 rfl) ?_
      refine lv_dup2_11 hx hb dMd_apply_245 rfl rfl ?_
      refine vq_iald (k := k) (f := ma 4) hx hb hK hP 5 0 rfl rfl rfl (by omega) (by decide) dMd_apply_246 ?_
      refine lv_iload_n hx hb dMd_apply_247 rfl (lv_at hl 4 rfl) ?_
      refine lv_if_ne (tgt := 255) hx hb dMd_apply_248 (by decide) (fun _ => ?_) (fun c_34 => absurd c_34 (by decide))
      refine lv_iconst (v := 0) hx hb dMd_apply_255 (by decide) ?_
      refine lv_iadd hx hb dMd_apply_256 ?_
      refine vq_iast (k := k) (f := ma 4) hx hb hK hP hD hS 5 0 rfl rfl rfl (by omega) (by decide) dMd_apply_257 (fun H locs hP hD hS => ?_)
      have hP : va_P (dC, dI) vwCl (wM y y1 y2 y3 y4 y5 y6 y7 y8 y9 y10 cI (va_up mi 0 0) (va_up (va_up (va_up (va_up (va_up (va_up (va_up (va_up ma 0 (upd (ma 0) k (nI (n + 1)))) 7 (upd (ma 7) ((64 * k) + ((n + 1) % 64)) 0)) 8 (m_cp (ma 8) (16 * ((64 * k) + ((n + 1) % 64))) (16 * ((64 * k) + (n % 64))) 16)) 5 (upd (ma 5) ((16 * k) + se) (mi 3))) 6 (upd (ma 6) ((16 * k) + se) 2)) 2 (upd (ma 2) k (((ma 2) k) + 0))) 3 (upd (ma 3) k (((ma 3) k) + 1))) 4 (upd (ma 4) k (((ma 4) k) + 0)))) H := hP
      have hD : va_D A (wM y y1 y2 y3 y4 y5 y6 y7 y8 y9 y10 cI (va_up mi 0 0) (va_up (va_up (va_up (va_up (va_up (va_up (va_up (va_up ma 0 (upd (ma 0) k (nI (n + 1)))) 7 (upd (ma 7) ((64 * k) + ((n + 1) % 64)) 0)) 8 (m_cp (ma 8) (16 * ((64 * k) + ((n + 1) % 64))) (16 * ((64 * k) + (n % 64))) 16)) 5 (upd (ma 5) ((16 * k) + se) (mi 3))) 6 (upd (ma 6) ((16 * k) + se) 2)) 2 (upd (ma 2) k (((ma 2) k) + 0))) 3 (upd (ma 3) k (((ma 3) k) + 1))) 4 (upd (ma 4) k (((ma 4) k) + 0)))) := hD
      refine lv_aload_n hx hb dMd_apply_258 rfl (lv_at hl 5 rfl) ?_
      refine va_get (D := (dC, dI)) (ci := 3) (v := .ref y2) (C := RMd) (T := TMd) (N := 17) hx hb hts inMd hown hK hP 0 rfl rfl 3 (by decide) (hts _ in_102) (fun _ h9 => h9) rfl dMd_apply_259 ?_
      refine lv_iload_n hx hb dMd_apply_262 rfl (lv_at hl 6 rfl) ?_
      refine lv_aload_n hx hb dMd_apply_263 rfl (lv_at hl 5 rfl) ?_
      refine va_get (D := (dC, dI)) (ci := 3) (v := .ref y2) (C := RMd) (T := TMd) (N := 17) hx hb hts inMd hown hK hP 0 rfl rfl 3 (by decide) (hts _ in_102) (fun _ h9 => h9) rfl dMd_apply_264 ?_
      refine lv_iload_n hx hb dMd_apply_267 rfl (lv_at hl 6 rfl) ?_
      refine vq_iald (k := k) (f := ma 1) hx hb hK hP 2 0 rfl rfl rfl (by omega) (by decide) dMd_apply_268 ?_
      refine lv_iload_n hx hb dMd_apply_269 rfl (lv_at hl 3 rfl) ?_
      refine lv_aload_n hx hb dMd_apply_270 rfl (lv_at hl 5 rfl) ?_
      refine va_get (D := (dC, dI)) (ci := 3) (v := .int (mi 1)) (C := RMd) (T := TMd) (N := 17) hx hb hts inMd hown hK hP 0 rfl rfl 1 (by decide) (hts _ in_86) (fun _ h9 => h9) rfl dMd_apply_271 ?_
      refine lv_isub hx hb dMd_apply_274 ?_
      refine lv_icmp_ge (tgt := 287) hx hb dMd_apply_275 (by decide) (fun c_35 => ?_) (fun c_35 => ?_)
      · skip
        refine lv_aload_n hx hb dMd_apply_287 rfl (lv_at hl 5 rfl) ?_
        refine va_get (D := (dC, dI)) (ci := 3) (v := .ref y2) (C := RMd) (T := TMd) (N := 17) hx hb hts inMd hown hK hP 0 rfl rfl 3 (by decide) (hts _ in_102) (fun _ h9 => h9) rfl dMd_apply_288 ?_
        refine lv_iload_n hx hb dMd_apply_291 rfl (lv_at hl 6 rfl) ?_
        refine vq_iald (k := k) (f := ma 1) hx hb hK hP 2 0 rfl rfl rfl (by omega) (by decide) dMd_apply_292 ?_
        refine vq_iast (k := k) (f := ma 1) hx hb hK hP hD hS 2 0 rfl rfl rfl (by omega) (by decide) dMd_apply_293 (fun H locs hP hD hS => ?_)
        have hP : va_P (dC, dI) vwCl (wM y y1 y2 y3 y4 y5 y6 y7 y8 y9 y10 cI (va_up mi 0 0) (va_up (va_up (va_up (va_up (va_up (va_up (va_up (va_up (va_up ma 0 (upd (ma 0) k (nI (n + 1)))) 7 (upd (ma 7) ((64 * k) + ((n + 1) % 64)) 0)) 8 (m_cp (ma 8) (16 * ((64 * k) + ((n + 1) % 64))) (16 * ((64 * k) + (n % 64))) 16)) 5 (upd (ma 5) ((16 * k) + se) (mi 3))) 6 (upd (ma 6) ((16 * k) + se) 2)) 2 (upd (ma 2) k (((ma 2) k) + 0))) 3 (upd (ma 3) k (((ma 3) k) + 1))) 4 (upd (ma 4) k (((ma 4) k) + 0))) 1 (upd (ma 1) k ((ma 1) k)))) H := hP
        have hD : va_D A (wM y y1 y2 y3 y4 y5 y6 y7 y8 y9 y10 cI (va_up mi 0 0) (va_up (va_up (va_up (va_up (va_up (va_up (va_up (va_up (va_up ma 0 (upd (ma 0) k (nI (n + 1)))) 7 (upd (ma 7) ((64 * k) + ((n + 1) % 64)) 0)) 8 (m_cp (ma 8) (16 * ((64 * k) + ((n + 1) % 64))) (16 * ((64 * k) + (n % 64))) 16)) 5 (upd (ma 5) ((16 * k) + se) (mi 3))) 6 (upd (ma 6) ((16 * k) + se) 2)) 2 (upd (ma 2) k (((ma 2) k) + 0))) 3 (upd (ma 3) k (((ma 3) k) + 1))) 4 (upd (ma 4) k (((ma 4) k) + 0))) 1 (upd (ma 1) k ((ma 1) k)))) := hD
        refine lv_iload_n hx hb dMd_apply_294 rfl (lv_at hl 4 rfl) ?_
        have hP9 : va_P (dC, dI) vwCl (wM y y1 y2 y3 y4 y5 y6 y7 y8 y9 y10 cI (va_up mi 0 0) ((m_ap mi ma k n se b).2)) H := by rw [m_ap_2 hv]; simp only [m_ap_, if_pos c_35]; exact hP
        have hD9 : va_D A (wM y y1 y2 y3 y4 y5 y6 y7 y8 y9 y10 cI (va_up mi 0 0) ((m_ap mi ma k n se b).2)) := by rw [m_ap_2 hv]; simp only [m_ap_, if_pos c_35]; exact hD
        exact W.iret (v := 2) hx hb hr (fun t ht hW => ⟨⟨2, (), rfl, by rw [m_ap_2 hv], by rw [ht]; exact hP9, va_K.moved hW.alike hK, hD9⟩, hS.F ht⟩) hS.2.2 dMd_apply_295
      · skip
        refine lv_iload_n hx hb dMd_apply_278 rfl (lv_at hl 3 rfl) ?_
        refine lv_aload_n hx hb dMd_apply_279 rfl (lv_at hl 5 rfl) ?_
        refine va_get (D := (dC, dI)) (ci := 3) (v := .int (mi 1)) (C := RMd) (T := TMd) (N := 17) hx hb hts inMd hown hK hP 0 rfl rfl 1 (by decide) (hts _ in_86) (fun _ h9 => h9) rfl dMd_apply_280 ?_
        refine lv_isub hx hb dMd_apply_283 ?_
        refine lv_goto (tgt := 293) hx hb dMd_apply_284 (by decide) ?_
        refine vq_iast (k := k) (f := ma 1) hx hb hK hP hD hS 2 0 rfl rfl rfl (by omega) (by decide) dMd_apply_293 (fun H locs hP hD hS => ?_)
        have hP : va_P (dC, dI) vwCl (wM y y1 y2 y3 y4 y5 y6 y7 y8 y9 y10 cI (va_up mi 0 0) (va_up (va_up (va_up (va_up (va_up (va_up (va_up (va_up (va_up ma 0 (upd (ma 0) k (nI (n + 1)))) 7 (upd (ma 7) ((64 * k) + ((n + 1) % 64)) 0)) 8 (m_cp (ma 8) (16 * ((64 * k) + ((n + 1) % 64))) (16 * ((64 * k) + (n % 64))) 16)) 5 (upd (ma 5) ((16 * k) + se) (mi 3))) 6 (upd (ma 6) ((16 * k) + se) 2)) 2 (upd (ma 2) k (((ma 2) k) + 0))) 3 (upd (ma 3) k (((ma 3) k) + 1))) 4 (upd (ma 4) k (((ma 4) k) + 0))) 1 (upd (ma 1) k ((nI (n + 1)) - (mi 1))))) H := hP
        have hD : va_D A (wM y y1 y2 y3 y4 y5 y6 y7 y8 y9 y10 cI (va_up mi 0 0) (va_up (va_up (va_up (va_up (va_up (va_up (va_up (va_up (va_up ma 0 (upd (ma 0) k (nI (n + 1)))) 7 (upd (ma 7) ((64 * k) + ((n + 1) % 64)) 0)) 8 (m_cp (ma 8) (16 * ((64 * k) + ((n + 1) % 64))) (16 * ((64 * k) + (n % 64))) 16)) 5 (upd (ma 5) ((16 * k) + se) (mi 3))) 6 (upd (ma 6) ((16 * k) + se) 2)) 2 (upd (ma 2) k (((ma 2) k) + 0))) 3 (upd (ma 3) k (((ma 3) k) + 1))) 4 (upd (ma 4) k (((ma 4) k) + 0))) 1 (upd (ma 1) k ((nI (n + 1)) - (mi 1))))) := hD
        refine lv_iload_n hx hb dMd_apply_294 rfl (lv_at hl 4 rfl) ?_
        have hP9 : va_P (dC, dI) vwCl (wM y y1 y2 y3 y4 y5 y6 y7 y8 y9 y10 cI (va_up mi 0 0) ((m_ap mi ma k n se b).2)) H := by rw [m_ap_2 hv]; simp only [m_ap_, if_neg c_35]; exact hP
        have hD9 : va_D A (wM y y1 y2 y3 y4 y5 y6 y7 y8 y9 y10 cI (va_up mi 0 0) ((m_ap mi ma k n se b).2)) := by rw [m_ap_2 hv]; simp only [m_ap_, if_neg c_35]; exact hD
        exact W.iret (v := 2) hx hb hr (fun t ht hW => ⟨⟨2, (), rfl, by rw [m_ap_2 hv], by rw [ht]; exact hP9, va_K.moved hW.alike hK, hD9⟩, hS.F ht⟩) hS.2.2 dMd_apply_295
    · skip
      have hj : j < 16 := lp_c (by decide) hj c_30
      refine lv_iload_n hx hb dMd_apply_93 rfl (lv_at hl 4 rfl) ?_
      refine lv_iconst (v := 1) hx hb dMd_apply_94 (by decide) ?_
      refine lv_icmp_ne (tgt := 115) hx hb dMd_apply_95 (by decide) (fun _ => ?_) (fun c_36 => absurd c_36 (by decide))
      refine lv_iconst (v := 0) hx hb dMd_apply_115 (by decide) ?_
      refine lv_istore (lv' := [(7, .int 0), (6, .int (nI j)), (5, .int (nI ((64 * k) + (n % 64)))), (4, .int (nI ((64 * k) + ((n + 1) % 64)))), (3, .int (nI (n + 1))), (2, .int 2), (0, .ref y), (1, .int (nI k))]) hx hb dMd_apply_116 hl (by decide) rfl (fun ls hl => ?_)
      refine lv_aload_n hx hb dMd_apply_118 rfl (lv_at hl 6 rfl) ?_
      refine va_get (D := (dC, dI)) (ci := 3) (v := .ref y9) (C := RMd) (T := TMd) (N := 17) hx hb hts inMd hown hK hP 0 rfl rfl 10 (by decide) (hts _ in_103) (fun _ h9 => h9) rfl dMd_apply_119 ?_
      refine lv_bipush (v := nI 16) hx hb dMd_apply_122 (by decide) ?_
      refine lv_iload hx hb dMd_apply_124 (lv_at hl 3 rfl) ?_
      refine lv_imul hx hb dMd_apply_126 ?_
      refine lv_ri (y := nI (16 * ((64 * k) + ((n + 1) % 64)))) (pk_mul _ _) ?_
      refine lv_iload hx hb dMd_apply_127 (lv_at hl 1 rfl) ?_
      refine lv_iadd hx hb dMd_apply_129 ?_
      refine lv_ri (y := nI ((16 * ((64 * k) + ((n + 1) % 64))) + j)) (nI_add _ _) ?_
      refine lv_iload hx hb dMd_apply_130 (lv_at hl 0 rfl) ?_
      refine lv_if_eq (tgt := 145) hx hb dMd_apply_132 (by decide) (fun _ => ?_) (fun c_37 => absurd c_37 (by decide))
      refine lv_aload_n hx hb dMd_apply_145 rfl (lv_at hl 6 rfl) ?_
      refine va_get (D := (dC, dI)) (ci := 3) (v := .ref y9) (C := RMd) (T := TMd) (N := 17) hx hb hts inMd hown hK hP 0 rfl rfl 10 (by decide) (hts _ in_103) (fun _ h9 => h9) rfl dMd_apply_146 ?_
      refine lv_bipush (v := nI 16) hx hb dMd_apply_149 (by decide) ?_
      refine lv_iload hx hb dMd_apply_151 (lv_at hl 2 rfl) ?_
      refine lv_imul hx hb dMd_apply_153 ?_
      refine lv_ri (y := nI (16 * ((64 * k) + (n % 64)))) (pk_mul _ _) ?_
      refine lv_iload hx hb dMd_apply_154 (lv_at hl 1 rfl) ?_
      refine lv_iadd hx hb dMd_apply_156 ?_
      refine lv_ri (y := nI ((16 * ((64 * k) + (n % 64))) + j)) (nI_add _ _) ?_
      refine vq_iald (k := ((16 * ((64 * k) + (n % 64))) + j)) (f := m_cp (ma 8) (16 * ((64 * k) + ((n + 1) % 64))) (16 * ((64 * k) + (n % 64))) j) hx hb hK hP 9 0 rfl rfl rfl (by omega) (by decide) dMd_apply_157 ?_
      refine vq_iast (k := ((16 * ((64 * k) + ((n + 1) % 64))) + j)) (f := m_cp (ma 8) (16 * ((64 * k) + ((n + 1) % 64))) (16 * ((64 * k) + (n % 64))) j) hx hb hK hP hD hS 9 0 rfl rfl rfl (by omega) (by decide) dMd_apply_158 (fun H locs hP hD hS => ?_)
      have hP : va_P (dC, dI) vwCl (wM y y1 y2 y3 y4 y5 y6 y7 y8 y9 y10 cI (va_up mi 0 0) (va_up (va_up (va_up ma 0 (upd (ma 0) k (nI (n + 1)))) 7 (upd (ma 7) ((64 * k) + ((n + 1) % 64)) 0)) 8 (upd (m_cp (ma 8) (16 * ((64 * k) + ((n + 1) % 64))) (16 * ((64 * k) + (n % 64))) j) ((16 * ((64 * k) + ((n + 1) % 64))) + j) ((m_cp (ma 8) (16 * ((64 * k) + ((n + 1) % 64))) (16 * ((64 * k) + (n % 64))) j) ((16 * ((64 * k) + (n % 64))) + j))))) H := hP
      have hD : va_D A (wM y y1 y2 y3 y4 y5 y6 y7 y8 y9 y10 cI (va_up mi 0 0) (va_up (va_up (va_up ma 0 (upd (ma 0) k (nI (n + 1)))) 7 (upd (ma 7) ((64 * k) + ((n + 1) % 64)) 0)) 8 (upd (m_cp (ma 8) (16 * ((64 * k) + ((n + 1) % 64))) (16 * ((64 * k) + (n % 64))) j) ((16 * ((64 * k) + ((n + 1) % 64))) + j) ((m_cp (ma 8) (16 * ((64 * k) + ((n + 1) % 64))) (16 * ((64 * k) + (n % 64))) j) ((16 * ((64 * k) + (n % 64))) + j))))) := hD
      refine lv_iinc (v := nI (j + 1)) (lv' := [(6, .int (nI (j + 1))), (7, .int 0), (5, .int (nI ((64 * k) + (n % 64)))), (4, .int (nI ((64 * k) + ((n + 1) % 64)))), (3, .int (nI (n + 1))), (2, .int 2), (0, .ref y), (1, .int (nI k))]) hx hb dMd_apply_159 hl (k := 1) rfl (by first | exact nI_1 _ | (show _ + (1 : Int32) = _; exact nI_1 _)) (by decide) rfl (fun ls hl => ?_)
      refine lv_goto (tgt := 86) hx hb dMd_apply_162 (by decide) ?_
      have hl9 : lv_has ls 8 [(6, .int (nI (j + 1))), (5, .int (nI ((64 * k) + (n % 64)))), (4, .int (nI ((64 * k) + ((n + 1) % 64)))), (3, .int (nI (n + 1))), (2, .int 2), (0, .ref y), (1, .int (nI k))] := by first | exact lv_sub hl [0, 2, 3, 4, 5, 6, 7] rfl | (simp only [m_av, m_cp]; exact lv_sub hl [0, 2, 3, 4, 5, 6, 7] rfl)
      have hP9 : va_P (dC, dI) vwCl (wM y y1 y2 y3 y4 y5 y6 y7 y8 y9 y10 cI (va_up mi 0 0) (va_up (va_up (va_up ma 0 (upd (ma 0) k (nI (n + 1)))) 7 (upd (ma 7) ((64 * k) + ((n + 1) % 64)) 0)) 8 (m_cp (ma 8) (16 * ((64 * k) + ((n + 1) % 64))) (16 * ((64 * k) + (n % 64))) (j + 1)))) H := by first | exact hP | (simp only [m_av, m_cp]; exact hP)
      have hD9 : va_D A (wM y y1 y2 y3 y4 y5 y6 y7 y8 y9 y10 cI (va_up mi 0 0) (va_up (va_up (va_up ma 0 (upd (ma 0) k (nI (n + 1)))) 7 (upd (ma 7) ((64 * k) + ((n + 1) % 64)) 0)) 8 (m_cp (ma 8) (16 * ((64 * k) + ((n + 1) % 64))) (16 * ((64 * k) + (n % 64))) (j + 1)))) := by first | exact hD | (simp only [m_av, m_cp]; exact hD)
      exact ih (j + 1, H, locs, ls) ⟨hj, hP9, hD9, hS, hl9⟩ (by show 16 - (j + 1) < 16 - j; omega)
set_option maxHeartbeats 4000000 in
set_option maxRecDepth 100000 in
/-- apply(x), no fold -/
theorem k_M_applyN (l : Launch) (dC : Nat → ClassId) (dI : Nat → Nat → Nat) (sz : Nat) (y y1 y2 y3 y4 y5 y6 y7 y8 y9 y10 : Nat) (cI : ClassId) (mi : Nat → Int32) (ma : Nat → Nat → Int32) (x : Int32) (hfx : s_lk x = 1) : Met l yMd_apply wsMd_apply ({ frames := 3, cells := 0, slots := 0, locals := 120 }) (va_Pc [.ref y, .int x] (fun U => U.heap.size = sz ∧ va_P (dC, dI) vwCl (wM y y1 y2 y3 y4 y5 y6 y7 y8 y9 y10 cI mi ma) U.heap ∧ va_K (dC, dI) vwCl [(cI, .int)] U ∧ va_D (fun _ => True) (wM y y1 y2 y3 y4 y5 y6 y7 y8 y9 y10 cI mi ma))) (va_Qi (fun (r : Int32) (_ : Unit) => r = 0) (fun _ t => va_P (dC, dI) vwCl (wM y y1 y2 y3 y4 y5 y6 y7 y8 y9 y10 cI (va_up mi 0 1) ma) t.heap ∧ va_K (dC, dI) vwCl [(cI, .int)] t ∧ va_D (va_A (wM y y1 y2 y3 y4 y5 y6 y7 y8 y9 y10 cI mi ma) sz) (wM y y1 y2 y3 y4 y5 y6 y7 y8 y9 y10 cI (va_up mi 0 1) ma)) (va_A (wM y y1 y2 y3 y4 y5 y6 y7 y8 y9 y10 cI mi ma) sz)) 0 0 (va_A (wM y y1 y2 y3 y4 y5 y6 y7 y8 y9 y10 cI mi ma) sz) := by
  refine Met.ofW (cc := cMd_apply) (maxL := 8) (ret := (some .int)) (by decide) rfl ?_
  intro p e s m args below meth c s₁ B hml hv
  obtain ⟨rfl, hsz, hP, hK, hD0⟩ := hv
  have hx := B.exec
  have hb := B.bytes
  have hr := B.returns
  have hts0 := atoms_spec (ws := wsMd_apply) B.pre
  have hts := fun (w : Cond) (h : w ∈ lw_g) => hts0 w (List.mem_cons_of_mem _ h)
  have hown : s.vm.findClass RMd = some m.cls := findClass_of_methodNamed B.named
  have hlocks := B.notSynchronized
  subst hsz
  have hD := hD0.self (sz := s.heap.size)
  generalize hAe : va_A (wM y y1 y2 y3 y4 y5 y6 y7 y8 y9 y10 cI mi ma) s.heap.size = A at hD ⊢
  have hA : ∀ q : Nat, s.heap.size ≤ q → A q := fun q h => by rw [← hAe]; exact Or.inr h
  have hS : va_S A s.heap s.heap [] := va_S.rf
  have hP : va_P (dC, dI) vwCl (wM y y1 y2 y3 y4 y5 y6 y7 y8 y9 y10 cI mi ma) s.heap := hP
  have hl := lv_entry ([.ref y, .int x]) (n := 8) (Nat.le_of_ble_eq_true rfl)
  rw [lg_entry_eq]
  generalize (lg_sl ([.ref y, .int x]) ++ List.replicate (8 - (lg_sl ([.ref y, .int x])).length) Slot.unset).toArray = ls at hl ⊢
  have hl : lv_has ls 8 [(0, .ref y), (1, .int x)] := hl
  refine lv_aload_n hx hb dMd_apply_0 rfl (lv_at hl 0 rfl) ?_
  refine lv_iload_n hx hb dMd_apply_1 rfl (lv_at hl 1 rfl) ?_
  have hPc := hP.sub (ws' := (wM y y1 y2 y3 y4 y5 y6 y7 y8 y9 y10 cI mi ma)) [0, 1, 2, 3, 4, 5, 6, 7, 8, 9, 10] rfl
  have hDc := hD.sub (ws' := (wM y y1 y2 y3 y4 y5 y6 y7 y8 y9 y10 cI mi ma)) [0, 1, 2, 3, 4, 5, 6, 7, 8, 9, 10] (by decide) rfl
  have hKc := hK.sub (tys' := [(cI, .int)]) [0] rfl
  have hFc := va_free (wc := (wM y y1 y2 y3 y4 y5 y6 y7 y8 y9 y10 cI mi ma)) hD hS hA [0, 1, 2, 3, 4, 5, 6, 7, 8, 9, 10] rfl
  refine va_calli (va_runV (As := [.int x]) (rest := []) ⟨hx, hb, hml, hown, hts⟩ (k_M_lacks1 l dC dI s.heap.size y y1 y2 y3 y4 y5 y6 y7 y8 y9 y10 cI mi ma x hfx) (cwV 1 hts (gd_V in_91 in_93 in_94 in_74 in_92) rfl rfl rfl (by decide +kernel) ⟨Nat.le_of_ble_eq_true rfl, Nat.le_of_ble_eq_true rfl⟩) ⟨fun a U g mk q => by obtain ⟨q0, q1, qP, qK, qD⟩ := q; exact ⟨q0, q1, qP, va_K.moved (u := U) (U := U.calling g mk a) (Vm.Alike.refl U.vm) qK, qD⟩, va_recv hKc hPc (ci := 3) (q0 := 0) rfl rfl, fun U hU hW => ⟨rfl, by rw [hU], by rw [hU]; exact hPc, va_K.moved hW.alike hKc, hDc.weaken (fun _ _ _ _ => trivial)⟩⟩ rfl rfl hl.1 rfl (lv_room (Nat.le_of_ble_eq_true rfl)) dMd_apply_2 ⟨Nat.le_of_ble_eq_true rfl, Nat.le_of_ble_eq_true rfl⟩) hS (fun q _ h => hFc q h) hFc (fun r_1 u t H1 locs ht hvm hw hB hz1 hk1 hS => ?_)
  obtain ⟨hP1, hK1, hD1⟩ := hB
  rw [ht] at hP1
  obtain ⟨hP, hD⟩ := va_join (wr := []) (w1 := (wM y y1 y2 y3 y4 y5 y6 y7 y8 y9 y10 cI (va_up mi 0 1) ma)) hP hD [0, 1, 2, 3, 4, 5, 6, 7, 8, 9, 10] [] rfl rfl (by decide) (by decide) hk1 hFc hP1 hD1
  generalize H1 = H at hP hS ⊢
  have hP : va_P (dC, dI) vwCl (wM y y1 y2 y3 y4 y5 y6 y7 y8 y9 y10 cI (va_up mi 0 1) ma) H := hP
  have hD : va_D A (wM y y1 y2 y3 y4 y5 y6 y7 y8 y9 y10 cI (va_up mi 0 1) ma) := hD
  have hw : r_1 = 1 := hw
  subst hw
  refine lv_if_eq (tgt := 10) hx hb dMd_apply_5 (by decide) (fun c_2 => absurd c_2 (by decide)) (fun _ => ?_)
  refine lv_iconst (v := 0) hx hb dMd_apply_8 (by decide) ?_
  have hP9 : va_P (dC, dI) vwCl (wM y y1 y2 y3 y4 y5 y6 y7 y8 y9 y10 cI (va_up mi 0 1) ma) H := by exact hP
  have hD9 : va_D A (wM y y1 y2 y3 y4 y5 y6 y7 y8 y9 y10 cI (va_up mi 0 1) ma) := by exact hD
  exact W.iret (v := 0) hx hb hr (fun t ht hW => ⟨⟨0, (), rfl, rfl, by rw [ht]; exact hP9, va_K.moved hW.alike hK, hD9⟩, hS.F ht⟩) hS.2.2 dMd_apply_9
