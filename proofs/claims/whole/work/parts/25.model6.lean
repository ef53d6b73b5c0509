set_option maxHeartbeats 4000000 in
set_option maxRecDepth 100000 in
/-- written(k, z) -/
theorem k_M_written (l : Launch) (dC : Nat → ClassId) (dI : Nat → Nat → Nat) (sz : Nat) (y y1 y2 y3 y4 y5 y6 y7 y8 y9 y10 : Nat) (cI : ClassId) (mi : Nat → Int32) (ma : Nat → Nat → Int32) (k n : Nat) (hk4 : k < 4) (hn : n < 2 ^ 30) (hix : ma 0 k = nI n) (z : Nat) (hz : z < 16) : Met l yMd_written wsMd_written ({ frames := 3, cells := 0, slots := 0, locals := 120 }) (va_Pc [.ref y, .int (nI k), .int (nI z)] (fun U => U.heap.size = sz ∧ va_P (dC, dI) vwCl (wM y y1 y2 y3 y4 y5 y6 y7 y8 y9 y10 cI mi ma) U.heap ∧ va_K (dC, dI) vwCl [(cI, .int)] U ∧ va_D (fun _ => True) (wM y y1 y2 y3 y4 y5 y6 y7 y8 y9 y10 cI mi ma))) (va_Qi (fun (r : Int32) (_ : Unit) => r = m_wr (ma 7) (64 * k) (ma 1 k) (nI z) n) (fun _ t => va_P (dC, dI) vwCl (wM y y1 y2 y3 y4 y5 y6 y7 y8 y9 y10 cI (va_up mi 0 0) ma) t.heap ∧ va_K (dC, dI) vwCl [(cI, .int)] t ∧ va_D (va_A (wM y y1 y2 y3 y4 y5 y6 y7 y8 y9 y10 cI mi ma) sz) (wM y y1 y2 y3 y4 y5 y6 y7 y8 y9 y10 cI (va_up mi 0 0) ma)) (va_A (wM y y1 y2 y3 y4 y5 y6 y7 y8 y9 y10 cI mi ma) sz)) 0 0 (va_A (wM y y1 y2 y3 y4 y5 y6 y7 y8 y9 y10 cI mi ma) sz) := by
  refine Met.ofW (cc := cMd_written) (maxL := 4) (ret := (some .int)) (by decide) rfl ?_
  intro p e s m args below meth c s₁ B hml hv
  obtain ⟨rfl, hsz, hP, hK, hD0⟩ := hv
  have hx := B.exec
  have hb := B.bytes
  have hr := B.returns
  have hts0 := atoms_spec (ws := wsMd_written) B.pre
  have hts := fun (w : Cond) (h : w ∈ lw_g) => hts0 w (List.mem_cons_of_mem _ h)
  have hown : s.vm.findClass RMd = some m.cls := findClass_of_methodNamed B.named
  have hlocks := B.notSynchronized
  subst hsz
  have hD := hD0.self (sz := s.heap.size)
  generalize hAe : va_A (wM y y1 y2 y3 y4 y5 y6 y7 y8 y9 y10 cI mi ma) s.heap.size = A at hD ⊢
  have hA : ∀ q : Nat, s.heap.size ≤ q → A q := fun q h => by rw [← hAe]; exact Or.inr h
  have hS : va_S A s.heap s.heap [] := va_S.rf
  have hP : va_P (dC, dI) vwCl (wM y y1 y2 y3 y4 y5 y6 y7 y8 y9 y10 cI mi ma) s.heap := hP
  have hl := lv_entry ([.ref y, .int (nI k), .int (nI z)]) (n := 4) (Nat.le_of_ble_eq_true rfl)
  rw [lg_entry_eq]
  generalize (lg_sl ([.ref y, .int (nI k), .int (nI z)]) ++ List.replicate (4 - (lg_sl ([.ref y, .int (nI k), .int (nI z)])).length) Slot.unset).toArray = ls at hl ⊢
  have hl : lv_has ls 4 [(0, .ref y), (1, .int (nI k)), (2, .int (nI z))] := hl
  refine lv_aload_n hx hb dMd_written_0 rfl (lv_at hl 0 rfl) ?_
  refine lv_aload_n hx hb dMd_written_1 rfl (lv_at hl 0 rfl) ?_
  refine lv_iload_n hx hb dMd_written_2 rfl (lv_at hl 1 rfl) ?_
  have hPc := hP.sub (ws' := (wM y y1 y2 y3 y4 y5 y6 y7 y8 y9 y10 cI mi ma)) [0, 1, 2, 3, 4, 5, 6, 7, 8, 9, 10] rfl
  have hDc := hD.sub (ws' := (wM y y1 y2 y3 y4 y5 y6 y7 y8 y9 y10 cI mi ma)) [0, 1, 2, 3, 4, 5, 6, 7, 8, 9, 10] (by decide) rfl
  have hKc := hK.sub (tys' := [(cI, .int)]) [0] rfl
  have hFc := va_free (wc := (wM y y1 y2 y3 y4 y5 y6 y7 y8 y9 y10 cI mi ma)) hD hS hA [0, 1, 2, 3, 4, 5, 6, 7, 8, 9, 10] rfl
  refine va_calli (va_runV (As := [.int (nI k)]) (rest := [.ref y]) ⟨hx, hb, hml, hown, hts⟩ (k_M_lacks0 l dC dI s.heap.size y y1 y2 y3 y4 y5 y6 y7 y8 y9 y10 cI mi ma k hk4) (cwV 1 hts (gd_V in_91 in_93 in_94 in_74 in_92) rfl rfl rfl (by decide +kernel) ⟨Nat.le_of_ble_eq_true rfl, Nat.le_of_ble_eq_true rfl⟩) ⟨fun a U g mk q => by obtain ⟨q0, q1, qP, qK, qD⟩ := q; exact ⟨q0, q1, qP, va_K.moved (u := U) (U := U.calling g mk a) (Vm.Alike.refl U.vm) qK, qD⟩, va_recv hKc hPc (ci := 3) (q0 := 0) rfl rfl, fun U hU hW => ⟨rfl, by rw [hU], by rw [hU]; exact hPc, va_K.moved hW.alike hKc, hDc.weaken (fun _ _ _ _ => trivial)⟩⟩ rfl rfl hl.1 rfl (lv_room (Nat.le_of_ble_eq_true rfl)) dMd_written_3 ⟨Nat.le_of_ble_eq_true rfl, Nat.le_of_ble_eq_true rfl⟩) hS (fun q _ h => hFc q h) hFc (fun r_1 u t H1 locs ht hvm hw hB hz1 hk1 hS => ?_)
  obtain ⟨hP1, hK1, hD1⟩ := hB
  rw [ht] at hP1
  obtain ⟨hP, hD⟩ := va_join (wr := []) (w1 := (wM y y1 y2 y3 y4 y5 y6 y7 y8 y9 y10 cI (va_up mi 0 0) ma)) hP hD [0, 1, 2, 3, 4, 5, 6, 7, 8, 9, 10] [] rfl rfl (by decide) (by decide) hk1 hFc hP1 hD1
  generalize H1 = H at hP hS ⊢
  have hP : va_P (dC, dI) vwCl (wM y y1 y2 y3 y4 y5 y6 y7 y8 y9 y10 cI (va_up mi 0 0) ma) H := hP
  have hD : va_D A (wM y y1 y2 y3 y4 y5 y6 y7 y8 y9 y10 cI (va_up mi 0 0) ma) := hD
  have hw : r_1 = 0 := hw
  subst hw
  refine lv_if_eq (tgt := 13) hx hb dMd_written_6 (by decide) (fun _ => ?_) (fun c_2 => absurd c_2 (by decide))
  refine lv_iload_n hx hb dMd_written_13 rfl (lv_at hl 2 rfl) ?_
  refine vp_callSi (W.runS (As := [.int (nI z)]) (rest := [.ref y]) ⟨hx, hb, hml, hown, hts⟩ (k_M_is16 l (nI z)) (va_cwS 1 hts (gd_S in_72 in_75 in_74 in_73) rfl rfl rfl (by decide +kernel) ⟨Nat.le_of_ble_eq_true rfl, Nat.le_of_ble_eq_true rfl⟩) ⟨fun a U g mk q => q, fun U hU hW => ⟨rfl, trivial⟩⟩ rfl rfl hl.1 rfl (lv_room (Nat.le_of_ble_eq_true rfl)) dMd_written_14 ⟨Nat.le_of_ble_eq_true rfl, Nat.le_of_ble_eq_true rfl⟩) (fun r_3 er_4 => ?_)
  subst er_4
  refine lv_if_eq (tgt := 24) hx hb dMd_written_17 (by decide) (fun c_5 => ?_) (fun c_5 => ?_)
  · skip
    exact absurd c_5 (s_in_ne hz)
  · skip
    refine lv_iconst (v := 0) hx hb dMd_written_20 (by decide) ?_
    refine lv_goto (tgt := 25) hx hb dMd_written_21 (by decide) ?_
    refine va_put (D := (dC, dI)) (ci := 3) (v := .int 0) (ty := .int) (C := RMd) (T := TMd) (N := 17) hx hb hts inMd tyMd tyMd_ok nmMd hown hK hP hD hS 0 rfl rfl 0 (by decide) (hts _ in_71) (fun _ h9 => h9) rfl (by decide +kernel) rfl rfl (Nat.le_of_ble_eq_true rfl) dMd_written_25 (fun H locs hP hD hS => ?_)
    have hP : va_P (dC, dI) vwCl (wM y y1 y2 y3 y4 y5 y6 y7 y8 y9 y10 cI (va_up mi 0 0) ma) H := hP
    have hD : va_D A (wM y y1 y2 y3 y4 y5 y6 y7 y8 y9 y10 cI (va_up mi 0 0) ma) := hD
    refine lv_aload_n hx hb dMd_written_28 rfl (lv_at hl 0 rfl) ?_
    refine va_get (D := (dC, dI)) (ci := 3) (v := .int 0) (C := RMd) (T := TMd) (N := 17) hx hb hts inMd hown hK hP 0 rfl rfl 0 (by decide) (hts _ in_71) (fun _ h9 => h9) rfl dMd_written_29 ?_
    refine lv_if_le (tgt := 37) hx hb dMd_written_32 (by decide) (fun _ => ?_) (fun c_6 => absurd c_6 (by decide))
    refine lv_aload_n hx hb dMd_written_37 rfl (lv_at hl 0 rfl) ?_
    refine va_get (D := (dC, dI)) (ci := 3) (v := .ref y1) (C := RMd) (T := TMd) (N := 17) hx hb hts inMd hown hK hP 0 rfl rfl 2 (by decide) (hts _ in_82) (fun _ h9 => h9) rfl dMd_written_38 ?_
    refine lv_iload_n hx hb dMd_written_41 rfl (lv_at hl 1 rfl) ?_
    refine vq_iald (k := k) (f := ma 0) hx hb hK hP 1 0 rfl rfl rfl (by omega) (by decide) dMd_written_42 ?_
    refine lv_ri (y := nI n) hix ?_
    refine lv_istore_n (lv' := [(3, .int (nI n)), (0, .ref y), (1, .int (nI k)), (2, .int (nI z))]) hx hb dMd_written_43 rfl hl (by decide) rfl (fun ls hl => ?_)
    refine wl_ro (σ := Nat × Array Slot) (fun z9 => F0 m 44 z9.2 []) (fun z9 => z9.1 ≤ n ∧ m_wr (ma 7) (64 * k) (ma 1 k) (nI z) n = m_wr (ma 7) (64 * k) (ma 1 k) (nI z) z9.1 ∧ lv_has z9.2 4 [(3, .int (nI z9.1)), (0, .ref y), (1, .int (nI k)), (2, .int (nI z))]) (fun z9 => z9.1) ?_ (n, ls) ⟨Nat.le_refl _, rfl, lv_sub hl [0, 1, 2, 3] rfl⟩
    rintro ⟨j, ls⟩ ⟨hj, hE, hl⟩ ih
    have hj : j ≤ n := hj
    have hE : m_wr (ma 7) (64 * k) (ma 1 k) (nI z) n = m_wr (ma 7) (64 * k) (ma 1 k) (nI z) j := hE
    have hl : lv_has ls 4 [(3, .int (nI j)), (0, .ref y), (1, .int (nI k)), (2, .int (nI z))] := hl
    show W p l e _ s m _ below meth c _ _ _ _ _ (F0 m 44 ls [])
    refine lv_iload_n hx hb dMd_written_44 rfl (lv_at hl 0 rfl) ?_
    refine lv_aload_n hx hb dMd_written_45 rfl (lv_at hl 1 rfl) ?_
    refine va_get (D := (dC, dI)) (ci := 3) (v := .ref y2) (C := RMd) (T := TMd) (N := 17) hx hb hts inMd hown hK hP 0 rfl rfl 3 (by decide) (hts _ in_102) (fun _ h9 => h9) rfl dMd_written_46 ?_
    refine lv_iload_n hx hb dMd_written_49 rfl (lv_at hl 2 rfl) ?_
    refine vq_iald (k := k) (f := ma 1) hx hb hK hP 2 0 rfl rfl rfl (by omega) (by decide) dMd_written_50 ?_
    refine lv_icmp_lt (tgt := 88) hx hb dMd_written_51 (by decide) (fun c_7 => ?_) (fun c_7 => ?_)
    · skip
      refine lv_iconst (v := (-1)) hx hb dMd_written_88 (by decide) ?_
      have hP9 : va_P (dC, dI) vwCl (wM y y1 y2 y3 y4 y5 y6 y7 y8 y9 y10 cI (va_up mi 0 0) ma) H := by exact hP
      have hD9 : va_D A (wM y y1 y2 y3 y4 y5 y6 y7 y8 y9 y10 cI (va_up mi 0 0) ma) := by exact hD
      exact W.iret (v := (-1)) hx hb hr (fun t ht hW => ⟨⟨(-1), (), rfl, by rw [hE]; exact (m_wr_lt c_7).symm, by rw [ht]; exact hP9, va_K.moved hW.alike hK, hD9⟩, hS.F ht⟩) hS.2.2 dMd_written_89
    · skip
      refine lv_iload_n hx hb dMd_written_54 rfl (lv_at hl 0 rfl) ?_
      refine lv_if_le (tgt := 88) hx hb dMd_written_55 (by decide) (fun c_8 => ?_) (fun c_8 => ?_)
      · skip
        refine lv_iconst (v := (-1)) hx hb dMd_written_88 (by decide) ?_
        have hP9 : va_P (dC, dI) vwCl (wM y y1 y2 y3 y4 y5 y6 y7 y8 y9 y10 cI (va_up mi 0 0) ma) H := by exact hP
        have hD9 : va_D A (wM y y1 y2 y3 y4 y5 y6 y7 y8 y9 y10 cI (va_up mi 0 0) ma) := by exact hD
        exact W.iret (v := (-1)) hx hb hr (fun t ht hW => ⟨⟨(-1), (), rfl, by rw [hE]; exact (m_wr_0 (by omega) c_8).symm, by rw [ht]; exact hP9, va_K.moved hW.alike hK, hD9⟩, hS.F ht⟩) hS.2.2 dMd_written_89
      · skip
        obtain ⟨j9, rfl⟩ : ∃ j9, j = j9 + 1 := ⟨j - 1, by have : j ≠ 0 := fun q => c_8 (by rw [q]; decide); omega⟩
        refine lv_aload_n hx hb dMd_written_58 rfl (lv_at hl 1 rfl) ?_
        refine va_get (D := (dC, dI)) (ci := 3) (v := .ref y8) (C := RMd) (T := TMd) (N := 17) hx hb hts inMd hown hK hP 0 rfl rfl 9 (by decide) (hts _ in_83) (fun _ h9 => h9) rfl dMd_written_59 ?_
        refine lv_bipush (v := nI 64) hx hb dMd_written_62 (by decide) ?_
        refine lv_iload_n hx hb dMd_written_64 rfl (lv_at hl 2 rfl) ?_
        refine lv_imul hx hb dMd_written_65 ?_
        refine lv_ri (y := nI (64 * k)) (pk_mul _ _) ?_
        refine lv_iload_n hx hb dMd_written_66 rfl (lv_at hl 0 rfl) ?_
        refine lv_bipush (v := nI 64) hx hb dMd_written_67 (by decide) ?_
        refine lv_irem hx hb dMd_written_69 (by decide) ?_
        refine lv_ri (y := nI ((j9 + 1) % 64)) (pk_rem (by omega) (by decide) (by decide)) ?_
        refine lv_iadd hx hb dMd_written_70 ?_
        refine lv_ri (y := nI ((64 * k) + ((j9 + 1) % 64))) (nI_add _ _) ?_
        refine vq_iald (k := ((64 * k) + ((j9 + 1) % 64))) (f := ma 7) hx hb hK hP 8 0 rfl rfl rfl (by omega) (by decide) dMd_written_71 ?_
        refine lv_iload_n hx hb dMd_written_72 rfl (lv_at hl 3 rfl) ?_
        refine lv_ishr hx hb dMd_written_73 ?_
        refine lv_iconst (v := 1) hx hb dMd_written_74 (by decide) ?_
        refine lv_iand hx hb dMd_written_75 ?_
        refine lv_iconst (v := 1) hx hb dMd_written_76 (by decide) ?_
        refine lv_icmp_ne (tgt := 82) hx hb dMd_written_77 (by decide) (fun c_9 => ?_) (fun c_9 => ?_)
        · skip
          refine lv_iinc (v := nI j9) (lv' := [(3, .int (nI j9)), (0, .ref y), (1, .int (nI k)), (2, .int (nI z))]) hx hb dMd_written_82 hl (k := 0) rfl (pk_m1 j9) (by decide) rfl (fun ls hl => ?_)
          refine lv_goto (tgt := 44) hx hb dMd_written_85 (by decide) ?_
          have hE9 : m_wr (ma 7) (64 * k) (ma 1 k) (nI z) n = m_wr (ma 7) (64 * k) (ma 1 k) (nI z) j9 := by rw [hE]; simp only [m_wr, if_neg c_5, if_neg c_7, if_neg c_9]
          exact ih (j9, ls) ⟨by omega, hE9, lv_sub hl [0, 1, 2, 3] rfl⟩ (Nat.lt_succ_self j9)
        · skip
          refine lv_iload_n hx hb dMd_written_80 rfl (lv_at hl 0 rfl) ?_
          have hP9 : va_P (dC, dI) vwCl (wM y y1 y2 y3 y4 y5 y6 y7 y8 y9 y10 cI (va_up mi 0 0) ma) H := by exact hP
          have hD9 : va_D A (wM y y1 y2 y3 y4 y5 y6 y7 y8 y9 y10 cI (va_up mi 0 0) ma) := by exact hD
          exact W.iret (v := nI (j9 + 1)) hx hb hr (fun t ht hW => ⟨⟨nI (j9 + 1), (), rfl, by rw [hE]; simp only [m_wr, if_neg c_5, if_neg c_7, if_pos c_9], by rw [ht]; exact hP9, va_K.moved hW.alike hK, hD9⟩, hS.F ht⟩) hS.2.2 dMd_written_81
set_option maxHeartbeats 4000000 in
set_option maxRecDepth 100000 in
/-- written(k, z), no key -/
theorem k_M_writtenB (l : Launch) (dC : Nat → ClassId) (dI : Nat → Nat → Nat) (sz : Nat) (y y1 y2 y3 y4 y5 y6 y7 y8 y9 y10 : Nat) (cI : ClassId) (mi : Nat → Int32) (ma : Nat → Nat → Int32) (k : Nat) (z : Int32) (hk4 : k < 4) (hz : s_in z = 0) : Met l yMd_written wsMd_written ({ frames := 3, cells := 0, slots := 0, locals := 120 }) (va_Pc [.ref y, .int (nI k), .int z] (fun U => U.heap.size = sz ∧ va_P (dC, dI) vwCl (wM y y1 y2 y3 y4 y5 y6 y7 y8 y9 y10 cI mi ma) U.heap ∧ va_K (dC, dI) vwCl [(cI, .int)] U ∧ va_D (fun _ => True) (wM y y1 y2 y3 y4 y5 y6 y7 y8 y9 y10 cI mi ma))) (va_Qi (fun (r : Int32) (_ : Unit) => r = 0) (fun _ t => va_P (dC, dI) vwCl (wM y y1 y2 y3 y4 y5 y6 y7 y8 y9 y10 cI (va_up mi 0 2) ma) t.heap ∧ va_K (dC, dI) vwCl [(cI, .int)] t ∧ va_D (va_A (wM y y1 y2 y3 y4 y5 y6 y7 y8 y9 y10 cI mi ma) sz) (wM y y1 y2 y3 y4 y5 y6 y7 y8 y9 y10 cI (va_up mi 0 2) ma)) (va_A (wM y y1 y2 y3 y4 y5 y6 y7 y8 y9 y10 cI mi ma) sz)) 0 0 (va_A (wM y y1 y2 y3 y4 y5 y6 y7 y8 y9 y10 cI mi ma) sz) := by
  refine Met.ofW (cc := cMd_written) (maxL := 4) (ret := (some .int)) (by decide) rfl ?_
  intro p e s m args below meth c s₁ B hml hv
  obtain ⟨rfl, hsz, hP, hK, hD0⟩ := hv
  have hx := B.exec
  have hb := B.bytes
  have hr := B.returns
  have hts0 := atoms_spec (ws := wsMd_written) B.pre
  have hts := fun (w : Cond) (h : w ∈ lw_g) => hts0 w (List.mem_cons_of_mem _ h)
  have hown : s.vm.findClass RMd = some m.cls := findClass_of_methodNamed B.named
  have hlocks := B.notSynchronized
  subst hsz
  have hD := hD0.self (sz := s.heap.size)
  generalize hAe : va_A (wM y y1 y2 y3 y4 y5 y6 y7 y8 y9 y10 cI mi ma) s.heap.size = A at hD ⊢
  have hA : ∀ q : Nat, s.heap.size ≤ q → A q := fun q h => by rw [← hAe]; exact Or.inr h
  have hS : va_S A s.heap s.heap [] := va_S.rf
  have hP : va_P (dC, dI) vwCl (wM y y1 y2 y3 y4 y5 y6 y7 y8 y9 y10 cI mi ma) s.heap := hP
  have hl := lv_entry ([.ref y, .int (nI k), .int z]) (n := 4) (Nat.le_of_ble_eq_true rfl)
  rw [lg_entry_eq]
  generalize (lg_sl ([.ref y, .int (nI k), .int z]) ++ List.replicate (4 - (lg_sl ([.ref y, .int (nI k), .int z])).length) Slot.unset).toArray = ls at hl ⊢
  have hl : lv_has ls 4 [(0, .ref y), (1, .int (nI k)), (2, .int z)] := hl
  refine lv_aload_n hx hb dMd_written_0 rfl (lv_at hl 0 rfl) ?_
  refine lv_aload_n hx hb dMd_written_1 rfl (lv_at hl 0 rfl) ?_
  refine lv_iload_n hx hb dMd_written_2 rfl (lv_at hl 1 rfl) ?_
  have hPc := hP.sub (ws' := (wM y y1 y2 y3 y4 y5 y6 y7 y8 y9 y10 cI mi ma)) [0, 1, 2, 3, 4, 5, 6, 7, 8, 9, 10] rfl
  have hDc := hD.sub (ws' := (wM y y1 y2 y3 y4 y5 y6 y7 y8 y9 y10 cI mi ma)) [0, 1, 2, 3, 4, 5, 6, 7, 8, 9, 10] (by decide) rfl
  have hKc := hK.sub (tys' := [(cI, .int)]) [0] rfl
  have hFc := va_free (wc := (wM y y1 y2 y3 y4 y5 y6 y7 y8 y9 y10 cI mi ma)) hD hS hA [0, 1, 2, 3, 4, 5, 6, 7, 8, 9, 10] rfl
  refine va_calli (va_runV (As := [.int (nI k)]) (rest := [.ref y]) ⟨hx, hb, hml, hown, hts⟩ (k_M_lacks0 l dC dI s.heap.size y y1 y2 y3 y4 y5 y6 y7 y8 y9 y10 cI mi ma k hk4) (cwV 1 hts (gd_V in_91 in_93 in_94 in_74 in_92) rfl rfl rfl (by decide +kernel) ⟨Nat.le_of_ble_eq_true rfl, Nat.le_of_ble_eq_true rfl⟩) ⟨fun a U g mk q => by obtain ⟨q0, q1, qP, qK, qD⟩ := q; exact ⟨q0, q1, qP, va_K.moved (u := U) (U := U.calling g mk a) (Vm.Alike.refl U.vm) qK, qD⟩, va_recv hKc hPc (ci := 3) (q0 := 0) rfl rfl, fun U hU hW => ⟨rfl, by rw [hU], by rw [hU]; exact hPc, va_K.moved hW.alike hKc, hDc.weaken (fun _ _ _ _ => trivial)⟩⟩ rfl rfl hl.1 rfl (lv_room (Nat.le_of_ble_eq_true rfl)) dMd_written_3 ⟨Nat.le_of_ble_eq_true rfl, Nat.le_of_ble_eq_true rfl⟩) hS (fun q _ h => hFc q h) hFc (fun r_1 u t H1 locs ht hvm hw hB hz1 hk1 hS => ?_)
  obtain ⟨hP1, hK1, hD1⟩ := hB
  rw [ht] at hP1
  obtain ⟨hP, hD⟩ := va_join (wr := []) (w1 := (wM y y1 y2 y3 y4 y5 y6 y7 y8 y9 y10 cI (va_up mi 0 0) ma)) hP hD [0, 1, 2, 3, 4, 5, 6, 7, 8, 9, 10] [] rfl rfl (by decide) (by decide) hk1 hFc hP1 hD1
  generalize H1 = H at hP hS ⊢
  have hP : va_P (dC, dI) vwCl (wM y y1 y2 y3 y4 y5 y6 y7 y8 y9 y10 cI (va_up mi 0 0) ma) H := hP
  have hD : va_D A (wM y y1 y2 y3 y4 y5 y6 y7 y8 y9 y10 cI (va_up mi 0 0) ma) := hD
  have hw : r_1 = 0 := hw
  subst hw
  refine lv_if_eq (tgt := 13) hx hb dMd_written_6 (by decide) (fun _ => ?_) (fun c_2 => absurd c_2 (by decide))
  refine lv_iload_n hx hb dMd_written_13 rfl (lv_at hl 2 rfl) ?_
  refine vp_callSi (W.runS (As := [.int z]) (rest := [.ref y]) ⟨hx, hb, hml, hown, hts⟩ (k_M_is16 l z) (va_cwS 1 hts (gd_S in_72 in_75 in_74 in_73) rfl rfl rfl (by decide +kernel) ⟨Nat.le_of_ble_eq_true rfl, Nat.le_of_ble_eq_true rfl⟩) ⟨fun a U g mk q => q, fun U hU hW => ⟨rfl, trivial⟩⟩ rfl rfl hl.1 rfl (lv_room (Nat.le_of_ble_eq_true rfl)) dMd_written_14 ⟨Nat.le_of_ble_eq_true rfl, Nat.le_of_ble_eq_true rfl⟩) (fun r_3 er_4 => ?_)
  subst er_4
  refine lv_if_eq (tgt := 24) hx hb dMd_written_17 (by decide) (fun c_5 => ?_) (fun c_5 => ?_)
  · skip
    refine lv_iconst (v := 2) hx hb dMd_written_24 (by decide) ?_
    refine va_put (D := (dC, dI)) (ci := 3) (v := .int 2) (ty := .int) (C := RMd) (T := TMd) (N := 17) hx hb hts inMd tyMd tyMd_ok nmMd hown hK hP hD hS 0 rfl rfl 0 (by decide) (hts _ in_71) (fun _ h9 => h9) rfl (by decide +kernel) rfl rfl (Nat.le_of_ble_eq_true rfl) dMd_written_25 (fun H locs hP hD hS => ?_)
    have hP : va_P (dC, dI) vwCl (wM y y1 y2 y3 y4 y5 y6 y7 y8 y9 y10 cI (va_up mi 0 2) ma) H := hP
    have hD : va_D A (wM y y1 y2 y3 y4 y5 y6 y7 y8 y9 y10 cI (va_up mi 0 2) ma) := hD
    refine lv_aload_n hx hb dMd_written_28 rfl (lv_at hl 0 rfl) ?_
    refine va_get (D := (dC, dI)) (ci := 3) (v := .int 2) (C := RMd) (T := TMd) (N := 17) hx hb hts inMd hown hK hP 0 rfl rfl 0 (by decide) (hts _ in_71) (fun _ h9 => h9) rfl dMd_written_29 ?_
    refine lv_if_le (tgt := 37) hx hb dMd_written_32 (by decide) (fun c_6 => absurd c_6 (by decide)) (fun _ => ?_)
    refine lv_iconst (v := 0) hx hb dMd_written_35 (by decide) ?_
    have hP9 : va_P (dC, dI) vwCl (wM y y1 y2 y3 y4 y5 y6 y7 y8 y9 y10 cI (va_up mi 0 2) ma) H := by exact hP
    have hD9 : va_D A (wM y y1 y2 y3 y4 y5 y6 y7 y8 y9 y10 cI (va_up mi 0 2) ma) := by exact hD
    exact W.iret (v := 0) hx hb hr (fun t ht hW => ⟨⟨0, (), rfl, rfl, by rw [ht]; exact hP9, va_K.moved hW.alike hK, hD9⟩, hS.F ht⟩) hS.2.2 dMd_written_36
  · skip
    exact absurd hz c_5
set_option maxHeartbeats 4000000 in
set_option maxRecDepth 100000 in
/-- written(x, z), no fold -/
theorem k_M_writtenN (l : Launch) (dC : Nat → ClassId) (dI : Nat → Nat → Nat) (sz : Nat) (y y1 y2 y3 y4 y5 y6 y7 y8 y9 y10 : Nat) (cI : ClassId) (mi : Nat → Int32) (ma : Nat → Nat → Int32) (x z : Int32) (hfx : s_lk x = 1) : Met l yMd_written wsMd_written ({ frames := 3, cells := 0, slots := 0, locals := 120 }) (va_Pc [.ref y, .int x, .int z] (fun U => U.heap.size = sz ∧ va_P (dC, dI) vwCl (wM y y1 y2 y3 y4 y5 y6 y7 y8 y9 y10 cI mi ma) U.heap ∧ va_K (dC, dI) vwCl [(cI, .int)] U ∧ va_D (fun _ => True) (wM y y1 y2 y3 y4 y5 y6 y7 y8 y9 y10 cI mi ma))) (va_Qi (fun (r : Int32) (_ : Unit) => r = 0) (fun _ t => va_P (dC, dI) vwCl (wM y y1 y2 y3 y4 y5 y6 y7 y8 y9 y10 cI (va_up mi 0 1) ma) t.heap ∧ va_K (dC, dI) vwCl [(cI, .int)] t ∧ va_D (va_A (wM y y1 y2 y3 y4 y5 y6 y7 y8 y9 y10 cI mi ma) sz) (wM y y1 y2 y3 y4 y5 y6 y7 y8 y9 y10 cI (va_up mi 0 1) ma)) (va_A (wM y y1 y2 y3 y4 y5 y6 y7 y8 y9 y10 cI mi ma) sz)) 0 0 (va_A (wM y y1 y2 y3 y4 y5 y6 y7 y8 y9 y10 cI mi ma) sz) := by
  refine Met.ofW (cc := cMd_written) (maxL := 4) (ret := (some .int)) (by decide) rfl ?_
  intro p e s m args below meth c s₁ B hml hv
  obtain ⟨rfl, hsz, hP, hK, hD0⟩ := hv
  have hx := B.exec
  have hb := B.bytes
  have hr := B.returns
  have hts0 := atoms_spec (ws := wsMd_written) B.pre
  have hts := fun (w : Cond) (h : w ∈ lw_g) => hts0 w (List.mem_cons_of_mem _ h)
  have hown : s.vm.findClass RMd = some m.cls := findClass_of_methodNamed B.named
  have hlocks := B.notSynchronized
  subst hsz
  have hD := hD0.self (sz := s.heap.size)
  generalize hAe : va_A (wM y y1 y2 y3 y4 y5 y6 y7 y8 y9 y10 cI mi ma) s.heap.size = A at hD ⊢
  have hA : ∀ q : Nat, s.heap.size ≤ q → A q := fun q h => by rw [← hAe]; exact Or.inr h
  have hS : va_S A s.heap s.heap [] := va_S.rf
  have hP : va_P (dC, dI) vwCl (wM y y1 y2 y3 y4 y5 y6 y7 y8 y9 y10 cI mi ma) s.heap := hP
  have hl := lv_entry ([.ref y, .int x, .int z]) (n := 4) (Nat.le_of_ble_eq_true rfl)
  rw [lg_entry_eq]
  generalize (lg_sl ([.ref y, .int x, .int z]) ++ List.replicate (4 - (lg_sl ([.ref y, .int x, .int z])).length) Slot.unset).toArray = ls at hl ⊢
  have hl : lv_has ls 4 [(0, .ref y), (1, .int x), (2, .int z)] := hl
  refine lv_aload_n hx hb dMd_written_0 rfl (lv_at hl 0 rfl) ?_
  refine lv_aload_n hx hb dMd_written_1 rfl (lv_at hl 0 rfl) ?_
  refine lv_iload_n hx hb dMd_written_2 rfl (lv_at hl 1 rfl) ?_
  have hPc := hP.sub (ws' := (wM y y1 y2 y3 y4 y5 y6 y7 y8 y9 y10 cI mi ma)) [0, 1, 2, 3, 4, 5, 6, 7, 8, 9, 10] rfl
  have hDc := hD.sub (ws' := (wM y y1 y2 y3 y4 y5 y6 y7 y8 y9 y10 cI mi ma)) [0, 1, 2, 3, 4, 5, 6, 7, 8, 9, 10] (by decide) rfl
  have hKc := hK.sub (tys' := [(cI, .int)]) [0] rfl
  have hFc := va_free (wc := (wM y y1 y2 y3 y4 y5 y6 y7 y8 y9 y10 cI mi ma)) hD hS hA [0, 1, 2, 3, 4, 5, 6, 7, 8, 9, 10] rfl
  refine va_calli (va_runV (As := [.int x]) (rest := [.ref y]) ⟨hx, hb, hml, hown, hts⟩ (k_M_lacks1 l dC dI s.heap.size y y1 y2 y3 y4 y5 y6 y7 y8 y9 y10 cI mi ma x hfx) (cwV 1 hts (gd_V in_91 in_93 in_94 in_74 in_92) rfl rfl rfl (by decide +kernel) ⟨Nat.le_of_ble_eq_true rfl, Nat.le_of_ble_eq_true rfl⟩) ⟨fun a U g mk q => by obtain ⟨q0, q1, qP, qK, qD⟩ := q; exact ⟨q0, q1, qP, va_K.moved (u := U) (U := U.calling g mk a) (Vm.Alike.refl U.vm) qK, qD⟩, va_recv hKc hPc (ci := 3) (q0 := 0) rfl rfl, fun U hU hW => ⟨rfl, by rw [hU], by rw [hU]; exact hPc, va_K.moved hW.alike hKc, hDc.weaken (fun _ _ _ _ => trivial)⟩⟩ rfl rfl hl.1 rfl (lv_room (Nat.le_of_ble_eq_true rfl)) dMd_written_3 ⟨Nat.le_of_ble_eq_true rfl, Nat.le_of_ble_eq_true rfl⟩) hS (fun q _ h => hFc q h) hFc (fun r_1 u t H1 locs ht hvm hw hB hz1 hk1 hS => ?_)
  obtain ⟨hP1, hK1, hD1⟩ := hB
  rw [ht] at hP1
  obtain ⟨hP, hD⟩ := va_join (wr := []) (w1 := (wM y y1 y2 y3 y4 y5 y6 y7 y8 y9 y10 cI (va_up mi 0 1) ma)) hP hD [0, 1, 2, 3, 4, 5, 6, 7, 8, 9, 10] [] rfl rfl (by decide) (by decide) hk1 hFc hP1 hD1
  generalize H1 = H at hP hS ⊢
  have hP : va_P (dC, dI) vwCl (wM y y1 y2 y3 y4 y5 y6 y7 y8 y9 y10 cI (va_up mi 0 1) ma) H := hP
  have hD : va_D A (wM y y1 y2 y3 y4 y5 y6 y7 y8 y9 y10 cI (va_up mi 0 1) ma) := hD
  have hw : r_1 = 1 := hw
  subst hw
  refine lv_if_eq (tgt := 13) hx hb dMd_written_6 (by decide) (fun c_2 => absurd c_2 (by decide)) (fun _ => ?_)
  refine lv_iconst (v := 1) hx hb dMd_written_9 (by decide) ?_
  refine lv_goto (tgt := 25) hx hb dMd_written_10 (by decide) ?_
  refine va_put (D := (dC, dI)) (ci := 3) (v := .int 1) (ty := .int) (C := RMd) (T := TMd) (N := 17) hx hb hts inMd tyMd tyMd_ok nmMd hown hK hP hD hS 0 rfl rfl 0 (by decide) (hts _ in_71) (fun _ h9 => h9) rfl (by decide +kernel) rfl rfl (Nat.le_of_ble_eq_true rfl) dMd_written_25 (fun H locs hP hD hS => ?_)
  have hP : va_P (dC, dI) vwCl (wM y y1 y2 y3 y4 y5 y6 y7 y8 y9 y10 cI (va_up mi 0 1) ma) H := hP
  have hD : va_D A (wM y y1 y2 y3 y4 y5 y6 y7 y8 y9 y10 cI (va_up mi 0 1) ma) := hD
  refine lv_aload_n hx hb dMd_written_28 rfl (lv_at hl 0 rfl) ?_
  refine va_get (D := (dC, dI)) (ci := 3) (v := .int 1) (C := RMd) (T := TMd) (N := 17) hx hb hts inMd hown hK hP 0 rfl rfl 0 (by decide) (hts _ in_71) (fun _ h9 => h9) rfl dMd_written_29 ?_
  refine lv_if_le (tgt := 37) hx hb dMd_written_32 (by decide) (fun c_3 => absurd c_3 (by decide)) (fun _ => ?_)
  refine lv_iconst (v := 0) hx hb dMd_written_35 (by decide) ?_
  have hP9 : va_P (dC, dI) vwCl (wM y y1 y2 y3 y4 y5 y6 y7 y8 y9 y10 cI (va_up mi 0 1) ma) H := by exact hP
  have hD9 : va_D A (wM y y1 y2 y3 y4 y5 y6 y7 y8 y9 y10 cI (va_up mi 0 1) ma) := by exact hD
  exact W.iret (v := 0) hx hb hr (fun t ht hW => ⟨⟨0, (), rfl, rfl, by rw [ht]; exact hP9, va_K.moved hW.alike hK, hD9⟩, hS.F ht⟩) hS.2.2 dMd_written_36
set_option maxHeartbeats 4000000 in
set_option maxRecDepth 100000 in
/-- look(k, x) -/
theorem k_M_look (l : Launch) (dC : Nat → ClassId) (dI : Nat → Nat → Nat) (sz : Nat) (y y1 y2 y3 y4 y5 y6 y7 y8 y9 y10 : Nat) (cI : ClassId) (mi : Nat → Int32) (ma : Nat → Nat → Int32) (k n : Nat) (hk4 : k < 4) (hn : n < 2 ^ 30) (hix : ma 0 k = nI n) (x : Int32) (j0 : Nat) (hj0 : (j0 < 8 ∧ x = nI j0) ∨ (8 = j0 ∧ (x.toInt < 0 ∨ 7 < x.toInt))) : Met l yMd_look wsMd_look ({ frames := 3, cells := 0, slots := 0, locals := 120 }) (va_Pc [.ref y, .int (nI k), .int x] (fun U => U.heap.size = sz ∧ va_P (dC, dI) vwCl (wM y y1 y2 y3 y4 y5 y6 y7 y8 y9 y10 cI mi ma) U.heap ∧ va_K (dC, dI) vwCl [(cI, .int)] U ∧ va_D (fun _ => True) (wM y y1 y2 y3 y4 y5 y6 y7 y8 y9 y10 cI mi ma))) (va_Qi (fun (r : Int32) (_ : Unit) => r = m_lk mi ma k n j0) (fun _ t => va_P (dC, dI) vwCl (wM y y1 y2 y3 y4 y5 y6 y7 y8 y9 y10 cI (va_up mi 0 0) ma) t.heap ∧ va_K (dC, dI) vwCl [(cI, .int)] t ∧ va_D (va_A (wM y y1 y2 y3 y4 y5 y6 y7 y8 y9 y10 cI mi ma) sz) (wM y y1 y2 y3 y4 y5 y6 y7 y8 y9 y10 cI (va_up mi 0 0) ma)) (va_A (wM y y1 y2 y3 y4 y5 y6 y7 y8 y9 y10 cI mi ma) sz)) 0 0 (va_A (wM y y1 y2 y3 y4 y5 y6 y7 y8 y9 y10 cI mi ma) sz) := by
  refine Met.ofW (cc := cMd_look) (maxL := 5) (ret := (some .int)) (by decide) rfl ?_
  intro p e s m args below meth c s₁ B hml hv
  obtain ⟨rfl, hsz, hP, hK, hD0⟩ := hv
  have hx := B.exec
  have hb := B.bytes
  have hr := B.returns
  have hts0 := atoms_spec (ws := wsMd_look) B.pre
  have hts := fun (w : Cond) (h : w ∈ lw_g) => hts0 w (List.mem_cons_of_mem _ h)
  have hown : s.vm.findClass RMd = some m.cls := findClass_of_methodNamed B.named
  have hlocks := B.notSynchronized
  subst hsz
  have hD := hD0.self (sz := s.heap.size)
  generalize hAe : va_A (wM y y1 y2 y3 y4 y5 y6 y7 y8 y9 y10 cI mi ma) s.heap.size = A at hD ⊢
  have hA : ∀ q : Nat, s.heap.size ≤ q → A q := fun q h => by rw [← hAe]; exact Or.inr h
  have hS : va_S A s.heap s.heap [] := va_S.rf
  have hP : va_P (dC, dI) vwCl (wM y y1 y2 y3 y4 y5 y6 y7 y8 y9 y10 cI mi ma) s.heap := hP
  have hl := lv_entry ([.ref y, .int (nI k), .int x]) (n := 5) (Nat.le_of_ble_eq_true rfl)
  rw [lg_entry_eq]
  generalize (lg_sl ([.ref y, .int (nI k), .int x]) ++ List.replicate (5 - (lg_sl ([.ref y, .int (nI k), .int x])).length) Slot.unset).toArray = ls at hl ⊢
  have hl : lv_has ls 5 [(0, .ref y), (1, .int (nI k)), (2, .int x)] := hl
  refine lv_aload_n hx hb dMd_look_0 rfl (lv_at hl 0 rfl) ?_
  refine lv_iload_n hx hb dMd_look_1 rfl (lv_at hl 1 rfl) ?_
  have hPc := hP.sub (ws' := (wM y y1 y2 y3 y4 y5 y6 y7 y8 y9 y10 cI mi ma)) [0, 1, 2, 3, 4, 5, 6, 7, 8, 9, 10] rfl
  have hDc := hD.sub (ws' := (wM y y1 y2 y3 y4 y5 y6 y7 y8 y9 y10 cI mi ma)) [0, 1, 2, 3, 4, 5, 6, 7, 8, 9, 10] (by decide) rfl
  have hKc := hK.sub (tys' := [(cI, .int)]) [0] rfl
  have hFc := va_free (wc := (wM y y1 y2 y3 y4 y5 y6 y7 y8 y9 y10 cI mi ma)) hD hS hA [0, 1, 2, 3, 4, 5, 6, 7, 8, 9, 10] rfl
  refine va_calli (va_runV (As := [.int (nI k)]) (rest := []) ⟨hx, hb, hml, hown, hts⟩ (k_M_lacks0 l dC dI s.heap.size y y1 y2 y3 y4 y5 y6 y7 y8 y9 y10 cI mi ma k hk4) (cwV 1 hts (gd_V in_91 in_93 in_94 in_74 in_92) rfl rfl rfl (by decide +kernel) ⟨Nat.le_of_ble_eq_true rfl, Nat.le_of_ble_eq_true rfl⟩) ⟨fun a U g mk q => by obtain ⟨q0, q1, qP, qK, qD⟩ := q; exact ⟨q0, q1, qP, va_K.moved (u := U) (U := U.calling g mk a) (Vm.Alike.refl U.vm) qK, qD⟩, va_recv hKc hPc (ci := 3) (q0 := 0) rfl rfl, fun U hU hW => ⟨rfl, by rw [hU], by rw [hU]; exact hPc, va_K.moved hW.alike hKc, hDc.weaken (fun _ _ _ _ => trivial)⟩⟩ rfl rfl hl.1 rfl (lv_room (Nat.le_of_ble_eq_true rfl)) dMd_look_2 ⟨Nat.le_of_ble_eq_true rfl, Nat.le_of_ble_eq_true rfl⟩) hS (fun q _ h => hFc q h) hFc (fun r_1 u t H1 locs ht hvm hw hB hz1 hk1 hS => ?_)
  obtain ⟨hP1, hK1, hD1⟩ := hB
  rw [ht] at hP1
  obtain ⟨hP, hD⟩ := va_join (wr := []) (w1 := (wM y y1 y2 y3 y4 y5 y6 y7 y8 y9 y10 cI (va_up mi 0 0) ma)) hP hD [0, 1, 2, 3, 4, 5, 6, 7, 8, 9, 10] [] rfl rfl (by decide) (by decide) hk1 hFc hP1 hD1
  generalize H1 = H at hP hS ⊢
  have hP : va_P (dC, dI) vwCl (wM y y1 y2 y3 y4 y5 y6 y7 y8 y9 y10 cI (va_up mi 0 0) ma) H := hP
  have hD : va_D A (wM y y1 y2 y3 y4 y5 y6 y7 y8 y9 y10 cI (va_up mi 0 0) ma) := hD
  have hw : r_1 = 0 := hw
  subst hw
  refine lv_if_eq (tgt := 10) hx hb dMd_look_5 (by decide) (fun _ => ?_) (fun c_2 => absurd c_2 (by decide))
  refine lv_iconst (v := 0) hx hb dMd_look_10 (by decide) ?_
  refine lv_istore_n (lv' := [(3, .int 0), (0, .ref y), (1, .int (nI k)), (2, .int x)]) hx hb dMd_look_11 rfl hl (by decide) rfl (fun ls hl => ?_)
  refine lv_iconst (v := 0) hx hb dMd_look_12 (by decide) ?_
  refine lv_istore (lv' := [(4, .int 0), (3, .int 0), (0, .ref y), (1, .int (nI k)), (2, .int x)]) hx hb dMd_look_13 hl (by decide) rfl (fun ls hl => ?_)
  refine wl_ro (σ := Nat × Array Slot) (fun z9 => F0 m 15 z9.2 []) (fun z9 => z9.1 ≤ 16 ∧ lv_has z9.2 5 [(4, .int (nI z9.1)), (3, .int (m_sum (ma 8) (16 * (64 * k + n % 64)) z9.1)), (0, .ref y), (1, .int (nI k)), (2, .int x)]) (fun z9 => 16 - z9.1) ?_ (0, ls) ⟨by omega, lv_sub hl [0, 1, 2, 3, 4] rfl⟩
  rintro ⟨j, ls⟩ ⟨hj, hl⟩ ih
  have hj : j ≤ 16 := hj
  have hl : lv_has ls 5 [(4, .int (nI j)), (3, .int (m_sum (ma 8) (16 * (64 * k + n % 64)) j)), (0, .ref y), (1, .int (nI k)), (2, .int x)] := hl
  show W p l e _ s m _ below meth c _ _ _ _ _ (F0 m 15 ls [])
  refine lv_iload hx hb dMd_look_15 (lv_at hl 0 rfl) ?_
  refine lv_bipush (v := nI 16) hx hb dMd_look_17 (by decide) ?_
  refine lv_icmp_ge (tgt := 56) hx hb dMd_look_19 (by decide) (fun c_3 => ?_) (fun c_3 => ?_)
  · skip
    have hj9 : j = 16 := lp_x (by decide) hj c_3
    subst hj9
    refine lv_iload_n hx hb dMd_look_56 rfl (lv_at hl 4 rfl) ?_
    rcases hj0 with ⟨hj9, ex9⟩ | ⟨ej9, hout⟩
    · skip
      rcases (show j0 = 0 ∨ j0 = 1 ∨ j0 = 2 ∨ j0 = 3 ∨ j0 = 4 ∨ j0 = 5 ∨ j0 = 6 ∨ j0 = 7 by omega) with ej9 | ej9 | ej9 | ej9 | ej9 | ej9 | ej9 | ej9
      · skip
        subst ej9
        subst ex9
        refine lv_tableIn (tgt := 104) hx hb dMd_look_57 (by decide) (by decide) rfl (by decide) ?_
        refine lv_aload_n hx hb dMd_look_104 rfl (lv_at hl 2 rfl) ?_
        refine va_get (D := (dC, dI)) (ci := 3) (v := .ref y1) (C := RMd) (T := TMd) (N := 17) hx hb hts inMd hown hK hP 0 rfl rfl 2 (by decide) (hts _ in_82) (fun _ h9 => h9) rfl dMd_look_105 ?_
        refine lv_iload_n hx hb dMd_look_108 rfl (lv_at hl 3 rfl) ?_
        refine vq_iald (k := k) (f := ma 0) hx hb hK hP 1 0 rfl rfl rfl (by omega) (by decide) dMd_look_109 ?_
        have hP9 : va_P (dC, dI) vwCl (wM y y1 y2 y3 y4 y5 y6 y7 y8 y9 y10 cI (va_up mi 0 0) ma) H := by exact hP
        have hD9 : va_D A (wM y y1 y2 y3 y4 y5 y6 y7 y8 y9 y10 cI (va_up mi 0 0) ma) := by exact hD
        exact W.iret (v := (ma 0) k) hx hb hr (fun t ht hW => ⟨⟨(ma 0) k, (), rfl, rfl, by rw [ht]; exact hP9, va_K.moved hW.alike hK, hD9⟩, hS.F ht⟩) hS.2.2 dMd_look_110
      · skip
        subst ej9
        subst ex9
        refine lv_tableIn (tgt := 111) hx hb dMd_look_57 (by decide) (by decide) rfl (by decide) ?_
        refine lv_aload_n hx hb dMd_look_111 rfl (lv_at hl 2 rfl) ?_
        refine va_get (D := (dC, dI)) (ci := 3) (v := .ref y2) (C := RMd) (T := TMd) (N := 17) hx hb hts inMd hown hK hP 0 rfl rfl 3 (by decide) (hts _ in_102) (fun _ h9 => h9) rfl dMd_look_112 ?_
        refine lv_iload_n hx hb dMd_look_115 rfl (lv_at hl 3 rfl) ?_
        refine vq_iald (k := k) (f := ma 1) hx hb hK hP 2 0 rfl rfl rfl (by omega) (by decide) dMd_look_116 ?_
        have hP9 : va_P (dC, dI) vwCl (wM y y1 y2 y3 y4 y5 y6 y7 y8 y9 y10 cI (va_up mi 0 0) ma) H := by exact hP
        have hD9 : va_D A (wM y y1 y2 y3 y4 y5 y6 y7 y8 y9 y10 cI (va_up mi 0 0) ma) := by exact hD
        exact W.iret (v := (ma 1) k) hx hb hr (fun t ht hW => ⟨⟨(ma 1) k, (), rfl, rfl, by rw [ht]; exact hP9, va_K.moved hW.alike hK, hD9⟩, hS.F ht⟩) hS.2.2 dMd_look_117
      · skip
        subst ej9
        subst ex9
        refine lv_tableIn (tgt := 118) hx hb dMd_look_57 (by decide) (by decide) rfl (by decide) ?_
        refine lv_aload_n hx hb dMd_look_118 rfl (lv_at hl 2 rfl) ?_
        refine va_get (D := (dC, dI)) (ci := 3) (v := .ref y3) (C := RMd) (T := TMd) (N := 17) hx hb hts inMd hown hK hP 0 rfl rfl 4 (by decide) (hts _ in_99) (fun _ h9 => h9) rfl dMd_look_119 ?_
        refine lv_iload_n hx hb dMd_look_122 rfl (lv_at hl 3 rfl) ?_
        refine vq_iald (k := k) (f := ma 2) hx hb hK hP 3 0 rfl rfl rfl (by omega) (by decide) dMd_look_123 ?_
        have hP9 : va_P (dC, dI) vwCl (wM y y1 y2 y3 y4 y5 y6 y7 y8 y9 y10 cI (va_up mi 0 0) ma) H := by exact hP
        have hD9 : va_D A (wM y y1 y2 y3 y4 y5 y6 y7 y8 y9 y10 cI (va_up mi 0 0) ma) := by exact hD
        exact W.iret (v := (ma 2) k) hx hb hr (fun t ht hW => ⟨⟨(ma 2) k, (), rfl, rfl, by rw [ht]; exact hP9, va_K.moved hW.alike hK, hD9⟩, hS.F ht⟩) hS.2.2 dMd_look_124
      · skip
        subst ej9
        subst ex9
        refine lv_tableIn (tgt := 125) hx hb dMd_look_57 (by decide) (by decide) rfl (by decide) ?_
        refine lv_aload_n hx hb dMd_look_125 rfl (lv_at hl 2 rfl) ?_
        refine va_get (D := (dC, dI)) (ci := 3) (v := .ref y4) (C := RMd) (T := TMd) (N := 17) hx hb hts inMd hown hK hP 0 rfl rfl 5 (by decide) (hts _ in_100) (fun _ h9 => h9) rfl dMd_look_126 ?_
        refine lv_iload_n hx hb dMd_look_129 rfl (lv_at hl 3 rfl) ?_
        refine vq_iald (k := k) (f := ma 3) hx hb hK hP 4 0 rfl rfl rfl (by omega) (by decide) dMd_look_130 ?_
        have hP9 : va_P (dC, dI) vwCl (wM y y1 y2 y3 y4 y5 y6 y7 y8 y9 y10 cI (va_up mi 0 0) ma) H := by exact hP
        have hD9 : va_D A (wM y y1 y2 y3 y4 y5 y6 y7 y8 y9 y10 cI (va_up mi 0 0) ma) := by exact hD
        exact W.iret (v := (ma 3) k) hx hb hr (fun t ht hW => ⟨⟨(ma 3) k, (), rfl, rfl, by rw [ht]; exact hP9, va_K.moved hW.alike hK, hD9⟩, hS.F ht⟩) hS.2.2 dMd_look_131
      · skip
        subst ej9
        subst ex9
        refine lv_tableIn (tgt := 132) hx hb dMd_look_57 (by decide) (by decide) rfl (by decide) ?_
        refine lv_aload_n hx hb dMd_look_132 rfl (lv_at hl 2 rfl) ?_
        refine va_get (D := (dC, dI)) (ci := 3) (v := .ref y5) (C := RMd) (T := TMd) (N := 17) hx hb hts inMd hown hK hP 0 rfl rfl 6 (by decide) (hts _ in_101) (fun _ h9 => h9) rfl dMd_look_133 ?_
        refine lv_iload_n hx hb dMd_look_136 rfl (lv_at hl 3 rfl) ?_
        refine vq_iald (k := k) (f := ma 4) hx hb hK hP 5 0 rfl rfl rfl (by omega) (by decide) dMd_look_137 ?_
        have hP9 : va_P (dC, dI) vwCl (wM y y1 y2 y3 y4 y5 y6 y7 y8 y9 y10 cI (va_up mi 0 0) ma) H := by exact hP
        have hD9 : va_D A (wM y y1 y2 y3 y4 y5 y6 y7 y8 y9 y10 cI (va_up mi 0 0) ma) := by exact hD
        exact W.iret (v := (ma 4) k) hx hb hr (fun t ht hW => ⟨⟨(ma 4) k, (), rfl, rfl, by rw [ht]; exact hP9, va_K.moved hW.alike hK, hD9⟩, hS.F ht⟩) hS.2.2 dMd_look_138
      · skip
        subst ej9
        subst ex9
        refine lv_tableIn (tgt := 139) hx hb dMd_look_57 (by decide) (by decide) rfl (by decide) ?_
        refine lv_iload_n hx hb dMd_look_139 rfl (lv_at hl 1 rfl) ?_
        have hP9 : va_P (dC, dI) vwCl (wM y y1 y2 y3 y4 y5 y6 y7 y8 y9 y10 cI (va_up mi 0 0) ma) H := by exact hP
        have hD9 : va_D A (wM y y1 y2 y3 y4 y5 y6 y7 y8 y9 y10 cI (va_up mi 0 0) ma) := by exact hD
        exact W.iret (v := m_sum (ma 8) (16 * (64 * k + n % 64)) 16) hx hb hr (fun t ht hW => ⟨⟨m_sum (ma 8) (16 * (64 * k + n % 64)) 16, (), rfl, rfl, by rw [ht]; exact hP9, va_K.moved hW.alike hK, hD9⟩, hS.F ht⟩) hS.2.2 dMd_look_140
      · skip
        subst ej9
        subst ex9
        refine lv_tableIn (tgt := 141) hx hb dMd_look_57 (by decide) (by decide) rfl (by decide) ?_
        refine lv_aload_n hx hb dMd_look_141 rfl (lv_at hl 2 rfl) ?_
        refine va_get (D := (dC, dI)) (ci := 3) (v := .int (mi 5)) (C := RMd) (T := TMd) (N := 17) hx hb hts inMd hown hK hP 0 rfl rfl 14 (by decide) (hts _ in_79) (fun _ h9 => h9) rfl dMd_look_142 ?_
        have hP9 : va_P (dC, dI) vwCl (wM y y1 y2 y3 y4 y5 y6 y7 y8 y9 y10 cI (va_up mi 0 0) ma) H := by exact hP
        have hD9 : va_D A (wM y y1 y2 y3 y4 y5 y6 y7 y8 y9 y10 cI (va_up mi 0 0) ma) := by exact hD
        exact W.iret (v := mi 5) hx hb hr (fun t ht hW => ⟨⟨mi 5, (), rfl, rfl, by rw [ht]; exact hP9, va_K.moved hW.alike hK, hD9⟩, hS.F ht⟩) hS.2.2 dMd_look_145
      · skip
        subst ej9
        subst ex9
        refine lv_tableIn (tgt := 146) hx hb dMd_look_57 (by decide) (by decide) rfl (by decide) ?_
        refine lv_aload_n hx hb dMd_look_146 rfl (lv_at hl 2 rfl) ?_
        refine va_get (D := (dC, dI)) (ci := 3) (v := .int (mi 6)) (C := RMd) (T := TMd) (N := 17) hx hb hts inMd hown hK hP 0 rfl rfl 15 (by decide) (hts _ in_80) (fun _ h9 => h9) rfl dMd_look_147 ?_
        have hP9 : va_P (dC, dI) vwCl (wM y y1 y2 y3 y4 y5 y6 y7 y8 y9 y10 cI (va_up mi 0 0) ma) H := by exact hP
        have hD9 : va_D A (wM y y1 y2 y3 y4 y5 y6 y7 y8 y9 y10 cI (va_up mi 0 0) ma) := by exact hD
        exact W.iret (v := mi 6) hx hb hr (fun t ht hW => ⟨⟨mi 6, (), rfl, rfl, by rw [ht]; exact hP9, va_K.moved hW.alike hK, hD9⟩, hS.F ht⟩) hS.2.2 dMd_look_150
    · skip
      subst ej9
      refine lv_tableOut (tgt := 151) hx hb dMd_look_57 hout (by decide) ?_
      refine lv_iconst (v := (-1)) hx hb dMd_look_151 (by decide) ?_
      have hP9 : va_P (dC, dI) vwCl (wM y y1 y2 y3 y4 y5 y6 y7 y8 y9 y10 cI (va_up mi 0 0) ma) H := by exact hP
      have hD9 : va_D A (wM y y1 y2 y3 y4 y5 y6 y7 y8 y9 y10 cI (va_up mi 0 0) ma) := by exact hD
      exact W.iret (v := (-1)) hx hb hr (fun t ht hW => ⟨⟨(-1), (), rfl, rfl, by rw [ht]; exact hP9, va_K.moved hW.alike hK, hD9⟩, hS.F ht⟩) hS.2.2 dMd_look_152
  · skip
    have hj : j < 16 := lp_c (by decide) hj c_3
    refine lv_iload_n hx hb dMd_look_22 rfl (lv_at hl 1 rfl) ?_
    refine lv_aload_n hx hb dMd_look_23 rfl (lv_at hl 2 rfl) ?_
    refine va_get (D := (dC, dI)) (ci := 3) (v := .ref y9) (C := RMd) (T := TMd) (N := 17) hx hb hts inMd hown hK hP 0 rfl rfl 10 (by decide) (hts _ in_103) (fun _ h9 => h9) rfl dMd_look_24 ?_
    refine lv_bipush (v := nI 16) hx hb dMd_look_27 (by decide) ?_
    refine lv_bipush (v := nI 64) hx hb dMd_look_29 (by decide) ?_
    refine lv_iload_n hx hb dMd_look_31 rfl (lv_at hl 3 rfl) ?_
    refine lv_imul hx hb dMd_look_32 ?_
    refine lv_ri (y := nI (64 * k)) (pk_mul _ _) ?_
    refine lv_aload_n hx hb dMd_look_33 rfl (lv_at hl 2 rfl) ?_
    refine va_get (D := (dC, dI)) (ci := 3) (v := .ref y1) (C := RMd) (T := TMd) (N := 17) hx hb hts inMd hown hK hP 0 rfl rfl 2 (by decide) (hts _ in_82) (fun _ h9 => h9) rfl dMd_look_34 ?_
    refine lv_iload_n hx hb dMd_look_37 rfl (lv_at hl 3 rfl) ?_
    refine vq_iald (k := k) (f := ma 0) hx hb hK hP 1 0 rfl rfl rfl (by omega) (by decide) dMd_look_38 ?_
    refine lv_ri (y := nI n) hix ?_
    refine lv_bipush (v := nI 64) hx hb dMd_look_39 (by decide) ?_
    refine lv_irem hx hb dMd_look_41 (by decide) ?_
    refine lv_ri (y := nI (n % 64)) (pk_rem (by omega) (by decide) (by decide)) ?_
    refine lv_iadd hx hb dMd_look_42 ?_
    refine lv_ri (y := nI ((64 * k) + (n % 64))) (nI_add _ _) ?_
    refine lv_imul hx hb dMd_look_43 ?_
    refine lv_ri (y := nI (16 * ((64 * k) + (n % 64)))) (pk_mul _ _) ?_
    refine lv_iload hx hb dMd_look_44 (lv_at hl 0 rfl) ?_
    refine lv_iadd hx hb dMd_look_46 ?_
    refine lv_ri (y := nI ((16 * ((64 * k) + (n % 64))) + j)) (nI_add _ _) ?_
    refine vq_iald (k := ((16 * ((64 * k) + (n % 64))) + j)) (f := ma 8) hx hb hK hP 9 0 rfl rfl rfl (by omega) (by decide) dMd_look_47 ?_
    refine lv_iadd hx hb dMd_look_48 ?_
    refine lv_istore_n (lv' := [(3, .int ((m_sum (ma 8) (16 * (64 * k + n % 64)) j) + ((ma 8) ((16 * ((64 * k) + (n % 64))) + j)))), (4, .int (nI j)), (0, .ref y), (1, .int (nI k)), (2, .int x)]) hx hb dMd_look_49 rfl hl (by decide) rfl (fun ls hl => ?_)
    refine lv_iinc (v := nI (j + 1)) (lv' := [(4, .int (nI (j + 1))), (3, .int ((m_sum (ma 8) (16 * (64 * k + n % 64)) j) + ((ma 8) ((16 * ((64 * k) + (n % 64))) + j)))), (0, .ref y), (1, .int (nI k)), (2, .int x)]) hx hb dMd_look_50 hl (k := 1) rfl (by first | exact nI_1 _ | (show _ + (1 : Int32) = _; exact nI_1 _)) (by decide) rfl (fun ls hl => ?_)
    refine lv_goto (tgt := 15) hx hb dMd_look_53 (by decide) ?_
    have hl9 : lv_has ls 5 [(4, .int (nI (j + 1))), (3, .int (m_sum (ma 8) (16 * (64 * k + n % 64)) (j + 1))), (0, .ref y), (1, .int (nI k)), (2, .int x)] := by first | exact lv_sub hl [0, 1, 2, 3, 4] rfl | (simp only [m_sum]; exact lv_sub hl [0, 1, 2, 3, 4] rfl)
    exact ih (j + 1, ls) ⟨hj, hl9⟩ (by show 16 - (j + 1) < 16 - j; omega)
set_option maxHeartbeats 4000000 in
set_option maxRecDepth 100000 in
/-- look(x, z), no fold -/
theorem k_M_lookN (l : Launch) (dC : Nat → ClassId) (dI : Nat → Nat → Nat) (sz : Nat) (y y1 y2 y3 y4 y5 y6 y7 y8 y9 y10 : Nat) (cI : ClassId) (mi : Nat → Int32) (ma : Nat → Nat → Int32) (x z : Int32) (hfx : s_lk x = 1) : Met l yMd_look wsMd_look ({ frames := 3, cells := 0, slots := 0, locals := 120 }) (va_Pc [.ref y, .int x, .int z] (fun U => U.heap.size = sz ∧ va_P (dC, dI) vwCl (wM y y1 y2 y3 y4 y5 y6 y7 y8 y9 y10 cI mi ma) U.heap ∧ va_K (dC, dI) vwCl [(cI, .int)] U ∧ va_D (fun _ => True) (wM y y1 y2 y3 y4 y5 y6 y7 y8 y9 y10 cI mi ma))) (va_Qi (fun (r : Int32) (_ : Unit) => r = 0) (fun _ t => va_P (dC, dI) vwCl (wM y y1 y2 y3 y4 y5 y6 y7 y8 y9 y10 cI (va_up mi 0 1) ma) t.heap ∧ va_K (dC, dI) vwCl [(cI, .int)] t ∧ va_D (va_A (wM y y1 y2 y3 y4 y5 y6 y7 y8 y9 y10 cI mi ma) sz) (wM y y1 y2 y3 y4 y5 y6 y7 y8 y9 y10 cI (va_up mi 0 1) ma)) (va_A (wM y y1 y2 y3 y4 y5 y6 y7 y8 y9 y10 cI mi ma) sz)) 0 0 (va_A (wM y y1 y2 y3 y4 y5 y6 y7 y8 y9 y10 cI mi ma) sz) := by
  refine Met.ofW (cc := cMd_look) (maxL := 5) (ret := (some .int)) (by decide) rfl ?_
  intro p e s m args below meth c s₁ B hml hv
  obtain ⟨rfl, hsz, hP, hK, hD0⟩ := hv
  have hx := B.exec
  have hb := B.bytes
  have hr := B.returns
  have hts0 := atoms_spec (ws := wsMd_look) B.pre
  have hts := fun (w : Cond) (h : w ∈ lw_g) => hts0 w (List.mem_cons_of_mem _ h)
  have hown : s.vm.findClass RMd = some m.cls := findClass_of_methodNamed B.named
  have hlocks := B.notSynchronized
  subst hsz
  have hD := hD0.self (sz := s.heap.size)
  generalize hAe : va_A (wM y y1 y2 y3 y4 y5 y6 y7 y8 y9 y10 cI mi ma) s.heap.size = A at hD ⊢
  have hA : ∀ q : Nat, s.heap.size ≤ q → A q := fun q h => by rw [← hAe]; exact Or.inr h
  have hS : va_S A s.heap s.heap [] := va_S.rf
  have hP : va_P (dC, dI) vwCl (wM y y1 y2 y3 y4 y5 y6 y7 y8 y9 y10 cI mi ma) s.heap := hP
  have hl := lv_entry ([.ref y, .int x, .int z]) (n := 5) (Nat.le_of_ble_eq_true rfl)
  rw [lg_entry_eq]
  generalize (lg_sl ([.ref y, .int x, .int z]) ++ List.replicate (5 - (lg_sl ([.ref y, .int x, .int z])).length) Slot.unset).toArray = ls at hl ⊢
  have hl : lv_has ls 5 [(0, .ref y), (1, .int x), (2, .int z)] := hl
  refine lv_aload_n hx hb dMd_look_0 rfl (lv_at hl 0 rfl) ?_
  refine lv_iload_n hx hb dMd_look_1 rfl (lv_at hl 1 rfl) ?_
  have hPc := hP.sub (ws' := (wM y y1 y2 y3 y4 y5 y6 y7 y8 y9 y10 cI mi ma)) [0, 1, 2, 3, 4, 5, 6, 7, 8, 9, 10] rfl
  have hDc := hD.sub (ws' := (wM y y1 y2 y3 y4 y5 y6 y7 y8 y9 y10 cI mi ma)) [0, 1, 2, 3, 4, 5, 6, 7, 8, 9, 10] (by decide) rfl
  have hKc := hK.sub (tys' := [(cI, .int)]) [0] rfl
  have hFc := va_free (wc := (wM y y1 y2 y3 y4 y5 y6 y7 y8 y9 y10 cI mi ma)) hD hS hA [0, 1, 2, 3, 4, 5, 6, 7, 8, 9, 10] rfl
  refine va_calli (va_runV (As := [.int x]) (rest := []) ⟨hx, hb, hml, hown, hts⟩ (k_M_lacks1 l dC dI s.heap.size y y1 y2 y3 y4 y5 y6 y7 y8 y9 y10 cI mi ma x hfx) (cwV 1 hts (gd_V in_91 in_93 in_94 in_74 in_92) rfl rfl rfl (by decide +kernel) ⟨Nat.le_of_ble_eq_true rfl, Nat.le_of_ble_eq_true rfl⟩) ⟨fun a U g mk q => by obtain ⟨q0, q1, qP, qK, qD⟩ := q; exact ⟨q0, q1, qP, va_K.moved (u := U) (U := U.calling g mk a) (Vm.Alike.refl U.vm) qK, qD⟩, va_recv hKc hPc (ci := 3) (q0 := 0) rfl rfl, fun U hU hW => ⟨rfl, by rw [hU], by rw [hU]; exact hPc, va_K.moved hW.alike hKc, hDc.weaken (fun _ _ _ _ => trivial)⟩⟩ rfl rfl hl.1 rfl (lv_room (Nat.le_of_ble_eq_true rfl)) dMd_look_2 ⟨Nat.le_of_ble_eq_true rfl, Nat.le_of_ble_eq_true rfl⟩) hS (fun q _ h => hFc q h) hFc (fun r_1 u t H1 locs ht hvm hw hB hz1 hk1 hS => ?_)
  obtain ⟨hP1, hK1, hD1⟩ := hB
  rw [ht] at hP1
  obtain ⟨hP, hD⟩ := va_join (wr := []) (w1 := (wM y y1 y2 y3 y4 y5 y6 y7 y8 y9 y10 cI (va_up mi 0 1) ma)) hP hD [0, 1, 2, 3, 4, 5, 6, 7, 8, 9, 10] [] rfl rfl (by decide) (by decide) hk1 hFc hP1 hD1
  generalize H1 = H at hP hS ⊢
  have hP : va_P (dC, dI) vwCl (wM y y1 y2 y3 y4 y5 y6 y7 y8 y9 y10 cI (va_up mi 0 1) ma) H := hP
  have hD : va_D A (wM y y1 y2 y3 y4 y5 y6 y7 y8 y9 y10 cI (va_up mi 0 1) ma) := hD
  have hw : r_1 = 1 := hw
  subst hw
  refine lv_if_eq (tgt := 10) hx hb dMd_look_5 (by decide) (fun c_2 => absurd c_2 (by decide)) (fun _ => ?_)
  refine lv_iconst (v := 0) hx hb dMd_look_8 (by decide) ?_
  have hP9 : va_P (dC, dI) vwCl (wM y y1 y2 y3 y4 y5 y6 y7 y8 y9 y10 cI (va_up mi 0 1) ma) H := by exact hP
  have hD9 : va_D A (wM y y1 y2 y3 y4 y5 y6 y7 y8 y9 y10 cI (va_up mi 0 1) ma) := by exact hD
  exact W.iret (v := 0) hx hb hr (fun t ht hW => ⟨⟨0, (), rfl, rfl, by rw [ht]; exact hP9, va_K.moved hW.alike hK, hD9⟩, hS.F ht⟩) hS.2.2 dMd_look_9
