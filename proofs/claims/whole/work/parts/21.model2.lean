theorem k_M_lacks0 (l : Launch) (dC : Nat → ClassId) (dI : Nat → Nat → Nat) (sz : Nat) (y y1 y2 y3 y4 y5 y6 y7 y8 y9 y10 : Nat) (cI : ClassId) (mi : Nat → Int32) (ma : Nat → Nat → Int32) (k : Nat) (hk4 : k < 4) : Met l yMd_lacks wsMd_lacks ({ frames := 1, cells := 0, slots := 0, locals := 40 }) (va_Pc [.ref y, .int (nI k)] (fun U => U.heap.size = sz ∧ va_P (dC, dI) vwCl (wM y y1 y2 y3 y4 y5 y6 y7 y8 y9 y10 cI mi ma) U.heap ∧ va_K (dC, dI) vwCl [(cI, .int)] U ∧ va_D (fun _ => True) (wM y y1 y2 y3 y4 y5 y6 y7 y8 y9 y10 cI mi ma))) (va_Qi (fun (r : Int32) (_ : Unit) => r = 0) (fun _ t => va_P (dC, dI) vwCl (wM y y1 y2 y3 y4 y5 y6 y7 y8 y9 y10 cI (va_up mi 0 0) ma) t.heap ∧ va_K (dC, dI) vwCl [(cI, .int)] t ∧ va_D (va_A (wM y y1 y2 y3 y4 y5 y6 y7 y8 y9 y10 cI mi ma) sz) (wM y y1 y2 y3 y4 y5 y6 y7 y8 y9 y10 cI (va_up mi 0 0) ma)) (va_A (wM y y1 y2 y3 y4 y5 y6 y7 y8 y9 y10 cI mi ma) sz)) 0 0 (va_A (wM y y1 y2 y3 y4 y5 y6 y7 y8 y9 y10 cI mi ma) sz) := by
  have h := k_M_lacks l dC dI sz y y1 y2 y3 y4 y5 y6 y7 y8 y9 y10 cI mi ma (nI k)
  rw [s_lk_nI hk4] at h
  exact h
theorem k_M_lacks1 (l : Launch) (dC : Nat → ClassId) (dI : Nat → Nat → Nat) (sz : Nat) (y y1 y2 y3 y4 y5 y6 y7 y8 y9 y10 : Nat) (cI : ClassId) (mi : Nat → Int32) (ma : Nat → Nat → Int32) (x : Int32) (hx : s_lk x = 1) : Met l yMd_lacks wsMd_lacks ({ frames := 1, cells := 0, slots := 0, locals := 40 }) (va_Pc [.ref y, .int x] (fun U => U.heap.size = sz ∧ va_P (dC, dI) vwCl (wM y y1 y2 y3 y4 y5 y6 y7 y8 y9 y10 cI mi ma) U.heap ∧ va_K (dC, dI) vwCl [(cI, .int)] U ∧ va_D (fun _ => True) (wM y y1 y2 y3 y4 y5 y6 y7 y8 y9 y10 cI mi ma))) (va_Qi (fun (r : Int32) (_ : Unit) => r = 1) (fun _ t => va_P (dC, dI) vwCl (wM y y1 y2 y3 y4 y5 y6 y7 y8 y9 y10 cI (va_up mi 0 1) ma) t.heap ∧ va_K (dC, dI) vwCl [(cI, .int)] t ∧ va_D (va_A (wM y y1 y2 y3 y4 y5 y6 y7 y8 y9 y10 cI mi ma) sz) (wM y y1 y2 y3 y4 y5 y6 y7 y8 y9 y10 cI (va_up mi 0 1) ma)) (va_A (wM y y1 y2 y3 y4 y5 y6 y7 y8 y9 y10 cI mi ma) sz)) 0 0 (va_A (wM y y1 y2 y3 y4 y5 y6 y7 y8 y9 y10 cI mi ma) sz) := by
  have h := k_M_lacks l dC dI sz y y1 y2 y3 y4 y5 y6 y7 y8 y9 y10 cI mi ma x
  rw [hx] at h
  exact h
set_option maxHeartbeats 4000000 in
set_option maxRecDepth 100000 in
/-- writtenSince(k, x) -/
theorem k_M_since0 (l : Launch) (dC : Nat → ClassId) (dI : Nat → Nat → Nat) (y y1 y2 y3 y4 y5 y6 y7 y8 y9 y10 : Nat) (cI : ClassId) (mi : Nat → Int32) (ma : Nat → Nat → Int32) (k n : Nat) (hk4 : k < 4) (hn : n < 2 ^ 30) (hix : ma 0 k = nI n) (a : Nat) (ha : a ≤ n + 1) (x : Int32) (hx0 : ¬ 0 ≤ x → a = 1) (hx1 : 0 ≤ x → x + 1 = nI a) : Met l yMd_writtenSince wsMd_writtenSince ({ frames := 1, cells := 0, slots := 0, locals := 40 }) (va_Pc [.ref y, .int (nI k), .int x] (fun U => va_P (dC, dI) vwCl (wM y y1 y2 y3 y4 y5 y6 y7 y8 y9 y10 cI mi ma) U.heap ∧ va_K (dC, dI) vwCl [(cI, .int)] U)) (vp_Si (fun r => r = m_ws (ma 7) (64 * k) a (n + 1 - a))) 0 0 (fun _ => False) := by
  refine Met.ofW (cc := cMd_writtenSince) (maxL := 5) (ret := (some .int)) (by decide) rfl ?_
  intro p e s m args below meth c s₁ B hml hv
  obtain ⟨rfl, hP, hK⟩ := hv
  have hx := B.exec
  have hb := B.bytes
  have hr := B.returns
  have hts0 := atoms_spec (ws := wsMd_writtenSince) B.pre
  have hts := fun (w : Cond) (h : w ∈ lw_g) => hts0 w (List.mem_cons_of_mem _ h)
  have hown : s.vm.findClass RMd = some m.cls := findClass_of_methodNamed B.named
  have hlocks := B.notSynchronized
  have hl := lv_entry ([.ref y, .int (nI k), .int x]) (n := 5) (Nat.le_of_ble_eq_true rfl)
  rw [lg_entry_eq]
  generalize (lg_sl ([.ref y, .int (nI k), .int x]) ++ List.replicate (5 - (lg_sl ([.ref y, .int (nI k), .int x])).length) Slot.unset).toArray = ls at hl ⊢
  have hl : lv_has ls 5 [(0, .ref y), (1, .int (nI k)), (2, .int x)] := hl
  refine lv_iconst (v := 0) hx hb dMd_writtenSince_0 (by decide) ?_
  refine lv_istore_n (lv' := [(3, .int 0), (0, .ref y), (1, .int (nI k)), (2, .int x)]) hx hb dMd_writtenSince_1 rfl hl (by decide) rfl (fun ls hl => ?_)
  refine lv_iload_n hx hb dMd_writtenSince_2 rfl (lv_at hl 3 rfl) ?_
  refine lv_if_ge (tgt := 10) hx hb dMd_writtenSince_3 (by decide) (fun c_1 => ?_) (fun c_1 => ?_)
  · skip
    refine lv_iload_n hx hb dMd_writtenSince_10 rfl (lv_at hl 3 rfl) ?_
    refine lv_iconst (v := 1) hx hb dMd_writtenSince_11 (by decide) ?_
    refine lv_iadd hx hb dMd_writtenSince_12 ?_
    refine lv_ri (y := nI a) (hx1 c_1) ?_
    refine lv_istore (lv' := [(4, .int (nI a)), (3, .int 0), (0, .ref y), (1, .int (nI k)), (2, .int x)]) hx hb dMd_writtenSince_13 hl (by decide) rfl (fun ls hl => ?_)
    refine wl_ro (σ := Nat × Array Slot) (fun z9 => F0 m 15 z9.2 []) (fun z9 => z9.1 ≤ (n + 1 - a) ∧ lv_has z9.2 5 [(4, .int (nI (a + z9.1))), (3, .int (m_ws (ma 7) (64 * k) a z9.1)), (0, .ref y), (1, .int (nI k)), (2, .int x)]) (fun z9 => (n + 1 - a) - z9.1) ?_ (0, ls) ⟨by omega, lv_sub hl [0, 1, 2, 3, 4] rfl⟩
    rintro ⟨j, ls⟩ ⟨hj, hl⟩ ih
    have hj : j ≤ (n + 1 - a) := hj
    have hl : lv_has ls 5 [(4, .int (nI (a + j))), (3, .int (m_ws (ma 7) (64 * k) a j)), (0, .ref y), (1, .int (nI k)), (2, .int x)] := hl
    show W p l e _ s m _ below meth c _ _ _ _ _ (F0 m 15 ls [])
    refine lv_iload hx hb dMd_writtenSince_15 (lv_at hl 0 rfl) ?_
    refine lv_aload_n hx hb dMd_writtenSince_17 rfl (lv_at hl 2 rfl) ?_
    refine va_get (D := (dC, dI)) (ci := 3) (v := .ref y1) (C := RMd) (T := TMd) (N := 17) hx hb hts inMd hown hK hP 0 rfl rfl 2 (by decide) (hts _ in_82) (fun _ h9 => h9) rfl dMd_writtenSince_18 ?_
    refine lv_iload_n hx hb dMd_writtenSince_21 rfl (lv_at hl 3 rfl) ?_
    refine vq_iald (k := k) (f := ma 0) hx hb hK hP 1 0 rfl rfl rfl (by omega) (by decide) dMd_writtenSince_22 ?_
    refine lv_ri (y := nI n) hix ?_
    refine lv_icmp_gt (tgt := 50) hx hb dMd_writtenSince_23 (by decide) (fun c_2 => ?_) (fun c_2 => ?_)
    · skip
      have hj9 : j = (n + 1 - a) := by have := (nI_ltI (by omega) (by omega)).mp c_2; omega
      subst hj9
      refine lv_iload_n hx hb dMd_writtenSince_50 rfl (lv_at hl 1 rfl) ?_
      exact W.iret (v := m_ws (ma 7) (64 * k) a (n + 1 - a)) hx hb hr (fun t ht hW => ⟨m_ws (ma 7) (64 * k) a (n + 1 - a), rfl, rfl, ht⟩) (fun q h => by cases h) dMd_writtenSince_51
    · skip
      have hj : j < (n + 1 - a) := by rcases Nat.lt_or_ge n (a + j) with q | q; exact absurd (nI_lt q (by omega)) c_2; omega
      refine lv_iload_n hx hb dMd_writtenSince_26 rfl (lv_at hl 1 rfl) ?_
      refine lv_aload_n hx hb dMd_writtenSince_27 rfl (lv_at hl 2 rfl) ?_
      refine va_get (D := (dC, dI)) (ci := 3) (v := .ref y8) (C := RMd) (T := TMd) (N := 17) hx hb hts inMd hown hK hP 0 rfl rfl 9 (by decide) (hts _ in_83) (fun _ h9 => h9) rfl dMd_writtenSince_28 ?_
      refine lv_bipush (v := nI 64) hx hb dMd_writtenSince_31 (by decide) ?_
      refine lv_iload_n hx hb dMd_writtenSince_33 rfl (lv_at hl 3 rfl) ?_
      refine lv_imul hx hb dMd_writtenSince_34 ?_
      refine lv_ri (y := nI (64 * k)) (pk_mul _ _) ?_
      refine lv_iload hx hb dMd_writtenSince_35 (lv_at hl 0 rfl) ?_
      refine lv_bipush (v := nI 64) hx hb dMd_writtenSince_37 (by decide) ?_
      refine lv_irem hx hb dMd_writtenSince_39 (by decide) ?_
      refine lv_ri (y := nI ((a + j) % 64)) (pk_rem (by omega) (by decide) (by decide)) ?_
      refine lv_iadd hx hb dMd_writtenSince_40 ?_
      refine lv_ri (y := nI ((64 * k) + ((a + j) % 64))) (nI_add _ _) ?_
      refine vq_iald (k := ((64 * k) + ((a + j) % 64))) (f := ma 7) hx hb hK hP 8 0 rfl rfl rfl (by omega) (by decide) dMd_writtenSince_41 ?_
      refine lv_ior hx hb dMd_writtenSince_42 ?_
      refine lv_istore_n (lv' := [(3, .int ((m_ws (ma 7) (64 * k) a j) ||| ((ma 7) ((64 * k) + ((a + j) % 64))))), (4, .int (nI (a + j))), (0, .ref y), (1, .int (nI k)), (2, .int x)]) hx hb dMd_writtenSince_43 rfl hl (by decide) rfl (fun ls hl => ?_)
      refine lv_iinc (v := nI ((a + j) + 1)) (lv' := [(4, .int (nI ((a + j) + 1))), (3, .int ((m_ws (ma 7) (64 * k) a j) ||| ((ma 7) ((64 * k) + ((a + j) % 64))))), (0, .ref y), (1, .int (nI k)), (2, .int x)]) hx hb dMd_writtenSince_44 hl (k := 1) rfl (by first | exact nI_1 _ | (show _ + (1 : Int32) = _; exact nI_1 _)) (by decide) rfl (fun ls hl => ?_)
      refine lv_goto (tgt := 15) hx hb dMd_writtenSince_47 (by decide) ?_
      have hl9 : lv_has ls 5 [(4, .int (nI (a + (j + 1)))), (3, .int (m_ws (ma 7) (64 * k) a (j + 1))), (0, .ref y), (1, .int (nI k)), (2, .int x)] := by first | exact lv_sub hl [0, 1, 2, 3, 4] rfl | (simp only [m_ws]; exact lv_sub hl [0, 1, 2, 3, 4] rfl)
      exact ih (j + 1, ls) ⟨hj, hl9⟩ (by show (n + 1 - a) - (j + 1) < (n + 1 - a) - j; omega)
  · skip
    refine lv_iconst (v := 1) hx hb dMd_writtenSince_6 (by decide) ?_
    refine lv_goto (tgt := 13) hx hb dMd_writtenSince_7 (by decide) ?_
    refine lv_ri (y := nI a) (by rw [hx0 c_1]; rfl) ?_
    refine lv_istore (lv' := [(4, .int (nI a)), (3, .int 0), (0, .ref y), (1, .int (nI k)), (2, .int x)]) hx hb dMd_writtenSince_13 hl (by decide) rfl (fun ls hl => ?_)
    refine wl_ro (σ := Nat × Array Slot) (fun z9 => F0 m 15 z9.2 []) (fun z9 => z9.1 ≤ (n + 1 - a) ∧ lv_has z9.2 5 [(4, .int (nI (a + z9.1))), (3, .int (m_ws (ma 7) (64 * k) a z9.1)), (0, .ref y), (1, .int (nI k)), (2, .int x)]) (fun z9 => (n + 1 - a) - z9.1) ?_ (0, ls) ⟨by omega, lv_sub hl [0, 1, 2, 3, 4] rfl⟩
    rintro ⟨j, ls⟩ ⟨hj, hl⟩ ih
    have hj : j ≤ (n + 1 - a) := hj
    have hl : lv_has ls 5 [(4, .int (nI (a + j))), (3, .int (m_ws (ma 7) (64 * k) a j)), (0, .ref y), (1, .int (nI k)), (2, .int x)] := hl
    show W p l e _ s m _ below meth c _ _ _ _ _ (F0 m 15 ls [])
    refine lv_iload hx hb dMd_writtenSince_15 (lv_at hl 0 rfl) ?_
    refine lv_aload_n hx hb dMd_writtenSince_17 rfl (lv_at hl 2 rfl) ?_
    refine va_get (D := (dC, dI)) (ci := 3) (v := .ref y1) (C := RMd) (T := TMd) (N := 17) hx hb hts inMd hown hK hP 0 rfl rfl 2 (by decide) (hts _ in_82) (fun _ h9 => h9) rfl dMd_writtenSince_18 ?_
    refine lv_iload_n hx hb dMd_writtenSince_21 rfl (lv_at hl 3 rfl) ?_
    refine vq_iald (k := k) (f := ma 0) hx hb hK hP 1 0 rfl rfl rfl (by omega) (by decide) dMd_writtenSince_22 ?_
    refine lv_ri (y := nI n) hix ?_
    refine lv_icmp_gt (tgt := 50) hx hb dMd_writtenSince_23 (by decide) (fun c_3 => ?_) (fun c_3 => ?_)
    · skip
      have hj9 : j = (n + 1 - a) := by have := (nI_ltI (by omega) (by omega)).mp c_3; omega
      subst hj9
      refine lv_iload_n hx hb dMd_writtenSince_50 rfl (lv_at hl 1 rfl) ?_
      exact W.iret (v := m_ws (ma 7) (64 * k) a (n + 1 - a)) hx hb hr (fun t ht hW => ⟨m_ws (ma 7) (64 * k) a (n + 1 - a), rfl, rfl, ht⟩) (fun q h => by cases h) dMd_writtenSince_51
    · skip
      have hj : j < (n + 1 - a) := by rcases Nat.lt_or_ge n (a + j) with q | q; exact absurd (nI_lt q (by omega)) c_3; omega
      refine lv_iload_n hx hb dMd_writtenSince_26 rfl (lv_at hl 1 rfl) ?_
      refine lv_aload_n hx hb dMd_writtenSince_27 rfl (lv_at hl 2 rfl) ?_
      refine va_get (D := (dC, dI)) (ci := 3) (v := .ref y8) (C := RMd) (T := TMd) (N := 17) hx hb hts inMd hown hK hP 0 rfl rfl 9 (by decide) (hts _ in_83) (fun _ h9 => h9) rfl dMd_writtenSince_28 ?_
      refine lv_bipush (v := nI 64) hx hb dMd_writtenSince_31 (by decide) ?_
      refine lv_iload_n hx hb dMd_writtenSince_33 rfl (lv_at hl 3 rfl) ?_
      refine lv_imul hx hb dMd_writtenSince_34 ?_
      refine lv_ri (y := nI (64 * k)) (pk_mul _ _) ?_
      refine lv_iload hx hb dMd_writtenSince_35 (lv_at hl 0 rfl) ?_
      refine lv_bipush (v := nI 64) hx hb dMd_writtenSince_37 (by decide) ?_
      refine lv_irem hx hb dMd_writtenSince_39 (by decide) ?_
      refine lv_ri (y := nI ((a + j) % 64)) (pk_rem (by omega) (by decide) (by decide)) ?_
      refine lv_iadd hx hb dMd_writtenSince_40 ?_
      refine lv_ri (y := nI ((64 * k) + ((a + j) % 64))) (nI_add _ _) ?_
      refine vq_iald (k := ((64 * k) + ((a + j) % 64))) (f := ma 7) hx hb hK hP 8 0 rfl rfl rfl (by omega) (by decide) dMd_writtenSince_41 ?_
      refine lv_ior hx hb dMd_writtenSince_42 ?_
      refine lv_istore_n (lv' := [(3, .int ((m_ws (ma 7) (64 * k) a j) ||| ((ma 7) ((64 * k) + ((a + j) % 64))))), (4, .int (nI (a + j))), (0, .ref y), (1, .int (nI k)), (2, .int x)]) hx hb dMd_writtenSince_43 rfl hl (by decide) rfl (fun ls hl => ?_)
      refine lv_iinc (v := nI ((a + j) + 1)) (lv' := [(4, .int (nI ((a + j) + 1))), (3, .int ((m_ws (ma 7) (64 * k) a j) ||| ((ma 7) ((64 * k) + ((a + j) % 64))))), (0, .ref y), (1, .int (nI k)), (2, .int x)]) hx hb dMd_writtenSince_44 hl (k := 1) rfl (by first | exact nI_1 _ | (show _ + (1 : Int32) = _; exact nI_1 _)) (by decide) rfl (fun ls hl => ?_)
      refine lv_goto (tgt := 15) hx hb dMd_writtenSince_47 (by decide) ?_
      have hl9 : lv_has ls 5 [(4, .int (nI (a + (j + 1)))), (3, .int (m_ws (ma 7) (64 * k) a (j + 1))), (0, .ref y), (1, .int (nI k)), (2, .int x)] := by first | exact lv_sub hl [0, 1, 2, 3, 4] rfl | (simp only [m_ws]; exact lv_sub hl [0, 1, 2, 3, 4] rfl)
      exact ih (j + 1, ls) ⟨hj, hl9⟩ (by show (n + 1 - a) - (j + 1) < (n + 1 - a) - j; omega)
set_option maxHeartbeats 4000000 in
set_option maxRecDepth 100000 in
/-- decided(k) -/
theorem k_M_decided (l : Launch) (dC : Nat → ClassId) (dI : Nat → Nat → Nat) (y y1 y2 y3 y4 y5 y6 y7 y8 y9 y10 : Nat) (cI : ClassId) (mi : Nat → Int32) (ma : Nat → Nat → Int32) (k n : Nat) (hk4 : k < 4) (hn : n < 2 ^ 30) (hix : ma 0 k = nI n) (se b : Nat) (hse : mi 2 = nI se) (hs16 : se < 16) (hsn : mi 4 = nI b) (hb31 : b < 2 ^ 31) : Met l yMd_decided wsMd_decided ({ frames := 2, cells := 0, slots := 0, locals := 80 }) (va_Pc [.ref y, .int (nI k)] (fun U => va_P (dC, dI) vwCl (wM y y1 y2 y3 y4 y5 y6 y7 y8 y9 y10 cI mi ma) U.heap ∧ va_K (dC, dI) vwCl [(cI, .int)] U)) (vp_Si (fun r => r = m_dec mi ma k n se b)) 0 0 (fun _ => False) := by
  refine Met.ofW (cc := cMd_decided) (maxL := 3) (ret := (some .int)) (by decide) rfl ?_
  intro p e s m args below meth c s₁ B hml hv
  obtain ⟨rfl, hP, hK⟩ := hv
  have hx := B.exec
  have hb := B.bytes
  have hr := B.returns
  have hts0 := atoms_spec (ws := wsMd_decided) B.pre
  have hts := fun (w : Cond) (h : w ∈ lw_g) => hts0 w (List.mem_cons_of_mem _ h)
  have hown : s.vm.findClass RMd = some m.cls := findClass_of_methodNamed B.named
  have hlocks := B.notSynchronized
  have hl := lv_entry ([.ref y, .int (nI k)]) (n := 3) (Nat.le_of_ble_eq_true rfl)
  rw [lg_entry_eq]
  generalize (lg_sl ([.ref y, .int (nI k)]) ++ List.replicate (3 - (lg_sl ([.ref y, .int (nI k)])).length) Slot.unset).toArray = ls at hl ⊢
  have hl : lv_has ls 3 [(0, .ref y), (1, .int (nI k))] := hl
  refine lv_aload_n hx hb dMd_decided_0 rfl (lv_at hl 0 rfl) ?_
  refine va_get (D := (dC, dI)) (ci := 3) (v := .ref y1) (C := RMd) (T := TMd) (N := 17) hx hb hts inMd hown hK hP 0 rfl rfl 2 (by decide) (hts _ in_82) (fun _ h9 => h9) rfl dMd_decided_1 ?_
  refine lv_iload_n hx hb dMd_decided_4 rfl (lv_at hl 1 rfl) ?_
  refine vq_iald (k := k) (f := ma 0) hx hb hK hP 1 0 rfl rfl rfl (by omega) (by decide) dMd_decided_5 ?_
  refine lv_istore_n (lv' := [(2, .int ((ma 0) k)), (0, .ref y), (1, .int (nI k))]) hx hb dMd_decided_6 rfl hl (by decide) rfl (fun ls hl => ?_)
  refine lv_iload_n hx hb dMd_decided_7 rfl (lv_at hl 0 rfl) ?_
  refine lv_ldc (v := nI 1000000) hx hb hown (hts _ in_84) dMd_decided_8 ?_
  refine lv_icmp_ge (tgt := 21) hx hb dMd_decided_10 (by decide) (fun c_1 => ?_) (fun c_1 => ?_)
  · skip
    refine lv_iconst (v := (-1)) hx hb dMd_decided_21 (by decide) ?_
    exact W.iret (v := (-1)) hx hb hr (fun t ht hW => ⟨(-1), rfl, by simp only [m_dec, if_pos c_1], ht⟩) (fun q h => by cases h) dMd_decided_22
  · skip
    refine lv_aload_n hx hb dMd_decided_13 rfl (lv_at hl 1 rfl) ?_
    refine va_get (D := (dC, dI)) (ci := 3) (v := .int (mi 4)) (C := RMd) (T := TMd) (N := 17) hx hb hts inMd hown hK hP 0 rfl rfl 13 (by decide) (hts _ in_78) (fun _ h9 => h9) rfl dMd_decided_14 ?_
    refine lv_iload_n hx hb dMd_decided_17 rfl (lv_at hl 0 rfl) ?_
    refine lv_icmp_le (tgt := 23) hx hb dMd_decided_18 (by decide) (fun c_2 => ?_) (fun c_2 => ?_)
    · skip
      refine lv_aload_n hx hb dMd_decided_23 rfl (lv_at hl 1 rfl) ?_
      refine va_get (D := (dC, dI)) (ci := 3) (v := .int (mi 3)) (C := RMd) (T := TMd) (N := 17) hx hb hts inMd hown hK hP 0 rfl rfl 12 (by decide) (hts _ in_77) (fun _ h9 => h9) rfl dMd_decided_24 ?_
      refine lv_aload_n hx hb dMd_decided_27 rfl (lv_at hl 1 rfl) ?_
      refine va_get (D := (dC, dI)) (ci := 3) (v := .ref y6) (C := RMd) (T := TMd) (N := 17) hx hb hts inMd hown hK hP 0 rfl rfl 7 (by decide) (hts _ in_85) (fun _ h9 => h9) rfl dMd_decided_28 ?_
      refine lv_bipush (v := nI 16) hx hb dMd_decided_31 (by decide) ?_
      refine lv_iload_n hx hb dMd_decided_33 rfl (lv_at hl 2 rfl) ?_
      refine lv_imul hx hb dMd_decided_34 ?_
      refine lv_ri (y := nI (16 * k)) (pk_mul _ _) ?_
      refine lv_aload_n hx hb dMd_decided_35 rfl (lv_at hl 1 rfl) ?_
      refine va_get (D := (dC, dI)) (ci := 3) (v := .int (mi 2)) (C := RMd) (T := TMd) (N := 17) hx hb hts inMd hown hK hP 0 rfl rfl 11 (by decide) (hts _ in_76) (fun _ h9 => h9) rfl dMd_decided_36 ?_
      refine lv_ri (y := nI se) hse ?_
      refine lv_iadd hx hb dMd_decided_39 ?_
      refine lv_ri (y := nI ((16 * k) + se)) (nI_add _ _) ?_
      refine vq_iald (k := ((16 * k) + se)) (f := ma 5) hx hb hK hP 6 0 rfl rfl rfl (by omega) (by decide) dMd_decided_40 ?_
      refine lv_icmp_gt (tgt := 46) hx hb dMd_decided_41 (by decide) (fun c_3 => ?_) (fun c_3 => ?_)
      · skip
        refine lv_aload_n hx hb dMd_decided_46 rfl (lv_at hl 1 rfl) ?_
        refine va_get (D := (dC, dI)) (ci := 3) (v := .int (mi 4)) (C := RMd) (T := TMd) (N := 17) hx hb hts inMd hown hK hP 0 rfl rfl 13 (by decide) (hts _ in_78) (fun _ h9 => h9) rfl dMd_decided_47 ?_
        refine lv_iload_n hx hb dMd_decided_50 rfl (lv_at hl 0 rfl) ?_
        refine lv_aload_n hx hb dMd_decided_51 rfl (lv_at hl 1 rfl) ?_
        refine va_get (D := (dC, dI)) (ci := 3) (v := .int (mi 1)) (C := RMd) (T := TMd) (N := 17) hx hb hts inMd hown hK hP 0 rfl rfl 1 (by decide) (hts _ in_86) (fun _ h9 => h9) rfl dMd_decided_52 ?_
        refine lv_isub hx hb dMd_decided_55 ?_
        refine lv_icmp_lt (tgt := 76) hx hb dMd_decided_56 (by decide) (fun c_4 => ?_) (fun c_4 => ?_)
        · skip
          refine lv_iconst (v := 2) hx hb dMd_decided_76 (by decide) ?_
          refine lv_goto (tgt := 81) hx hb dMd_decided_77 (by decide) ?_
          exact W.iret (v := 2) hx hb hr (fun t ht hW => ⟨2, rfl, by simp only [m_dec, if_neg c_1, if_pos c_2, if_pos c_3, if_pos c_4], ht⟩) (fun q h => by cases h) dMd_decided_81
        · skip
          refine lv_aload_n hx hb dMd_decided_59 rfl (lv_at hl 1 rfl) ?_
          refine lv_iload_n hx hb dMd_decided_60 rfl (lv_at hl 2 rfl) ?_
          refine lv_aload_n hx hb dMd_decided_61 rfl (lv_at hl 1 rfl) ?_
          refine va_get (D := (dC, dI)) (ci := 3) (v := .int (mi 4)) (C := RMd) (T := TMd) (N := 17) hx hb hts inMd hown hK hP 0 rfl rfl 13 (by decide) (hts _ in_78) (fun _ h9 => h9) rfl dMd_decided_62 ?_
          have hPc := hP.sub (ws' := (wM y y1 y2 y3 y4 y5 y6 y7 y8 y9 y10 cI mi ma)) [0, 1, 2, 3, 4, 5, 6, 7, 8, 9, 10] rfl
          have hKc := hK.sub (tys' := [(cI, .int)]) [0] rfl
          refine vp_callSi (W.runV (As := [.int (nI k), .int (mi 4)]) (rest := []) ⟨hx, hb, hml, hown, hts⟩ (k_M_since0 l dC dI y y1 y2 y3 y4 y5 y6 y7 y8 y9 y10 cI mi ma k n hk4 hn hix (b + 1) (by have h9 : nI b ≤ nI n := (by rw [← hsn, ← hix]; exact c_2); have := (nI_leI hb31 (by omega)).mp h9; omega) (mi 4) (fun q => absurd (by rw [hsn]; exact nI_pos' hb31) q) (fun _ => by rw [hsn]; exact nI_1 b)) (cwV 2 hts (gd_V in_87 in_89 in_90 in_74 in_88) rfl rfl rfl (by decide +kernel) ⟨Nat.le_of_ble_eq_true rfl, Nat.le_of_ble_eq_true rfl⟩) ⟨fun a U g mk q => by obtain ⟨q0, qP, qK⟩ := q; exact ⟨q0, qP, va_K.moved (u := U) (U := U.calling g mk a) (Vm.Alike.refl U.vm) qK⟩, va_recv hKc hPc (ci := 3) (q0 := 0) rfl rfl, fun U hU hW => ⟨rfl, by rw [hU]; exact hPc, va_K.moved hW.alike hKc⟩⟩ rfl rfl hl.1 rfl (lv_room (Nat.le_of_ble_eq_true rfl)) dMd_decided_65 ⟨Nat.le_of_ble_eq_true rfl, Nat.le_of_ble_eq_true rfl⟩) (fun r_5 er_6 => ?_)
          subst er_6
          refine lv_aload_n hx hb dMd_decided_68 rfl (lv_at hl 1 rfl) ?_
          refine va_get (D := (dC, dI)) (ci := 3) (v := .int (mi 5)) (C := RMd) (T := TMd) (N := 17) hx hb hts inMd hown hK hP 0 rfl rfl 14 (by decide) (hts _ in_79) (fun _ h9 => h9) rfl dMd_decided_69 ?_
          refine lv_iand hx hb dMd_decided_72 ?_
          refine lv_if_eq (tgt := 80) hx hb dMd_decided_73 (by decide) (fun c_7 => ?_) (fun c_7 => ?_)
          · skip
            refine lv_iconst (v := 1) hx hb dMd_decided_80 (by decide) ?_
            exact W.iret (v := 1) hx hb hr (fun t ht hW => ⟨1, rfl, by simp only [m_dec, if_neg c_1, if_pos c_2, if_pos c_3, if_neg c_4, if_pos c_7], ht⟩) (fun q h => by cases h) dMd_decided_81
          · skip
            refine lv_iconst (v := 2) hx hb dMd_decided_76 (by decide) ?_
            refine lv_goto (tgt := 81) hx hb dMd_decided_77 (by decide) ?_
            exact W.iret (v := 2) hx hb hr (fun t ht hW => ⟨2, rfl, by simp only [m_dec, if_neg c_1, if_pos c_2, if_pos c_3, if_neg c_4, if_neg c_7], ht⟩) (fun q h => by cases h) dMd_decided_81
      · skip
        refine lv_iconst (v := 0) hx hb dMd_decided_44 (by decide) ?_
        exact W.iret (v := 0) hx hb hr (fun t ht hW => ⟨0, rfl, by simp only [m_dec, if_neg c_1, if_pos c_2, if_neg c_3], ht⟩) (fun q h => by cases h) dMd_decided_45
    · skip
      refine lv_iconst (v := (-1)) hx hb dMd_decided_21 (by decide) ?_
      exact W.iret (v := (-1)) hx hb hr (fun t ht hW => ⟨(-1), rfl, by simp only [m_dec, if_neg c_1, if_neg c_2], ht⟩) (fun q h => by cases h) dMd_decided_22
set_option maxHeartbeats 4000000 in
set_option maxRecDepth 100000 in
/-- test(k) -/
theorem k_M_test (l : Launch) (dC : Nat → ClassId) (dI : Nat → Nat → Nat) (sz : Nat) (y y1 y2 y3 y4 y5 y6 y7 y8 y9 y10 : Nat) (cI : ClassId) (mi : Nat → Int32) (ma : Nat → Nat → Int32) (k n : Nat) (hk4 : k < 4) (hn : n < 2 ^ 30) (hix : ma 0 k = nI n) (se b : Nat) (hse : mi 2 = nI se) (hs16 : se < 16) (hsn : mi 4 = nI b) (hb31 : b < 2 ^ 31) : Met l yMd_test wsMd_test ({ frames := 3, cells := 0, slots := 0, locals := 120 }) (va_Pc [.ref y, .int (nI k)] (fun U => U.heap.size = sz ∧ va_P (dC, dI) vwCl (wM y y1 y2 y3 y4 y5 y6 y7 y8 y9 y10 cI mi ma) U.heap ∧ va_K (dC, dI) vwCl [(cI, .int)] U ∧ va_D (fun _ => True) (wM y y1 y2 y3 y4 y5 y6 y7 y8 y9 y10 cI mi ma))) (va_Qi (fun (r : Int32) (_ : Unit) => r = m_dec mi ma k n se b) (fun _ t => va_P (dC, dI) vwCl (wM y y1 y2 y3 y4 y5 y6 y7 y8 y9 y10 cI (va_up mi 0 0) ma) t.heap ∧ va_K (dC, dI) vwCl [(cI, .int)] t ∧ va_D (va_A (wM y y1 y2 y3 y4 y5 y6 y7 y8 y9 y10 cI mi ma) sz) (wM y y1 y2 y3 y4 y5 y6 y7 y8 y9 y10 cI (va_up mi 0 0) ma)) (va_A (wM y y1 y2 y3 y4 y5 y6 y7 y8 y9 y10 cI mi ma) sz)) 0 0 (va_A (wM y y1 y2 y3 y4 y5 y6 y7 y8 y9 y10 cI mi ma) sz) := by
  refine Met.ofW (cc := cMd_test) (maxL := 2) (ret := (some .int)) (by decide) rfl ?_
  intro p e s m args below meth c s₁ B hml hv
  obtain ⟨rfl, hsz, hP, hK, hD0⟩ := hv
  have hx := B.exec
  have hb := B.bytes
  have hr := B.returns
  have hts0 := atoms_spec (ws := wsMd_test) B.pre
  have hts := fun (w : Cond) (h : w ∈ lw_g) => hts0 w (List.mem_cons_of_mem _ h)
  have hown : s.vm.findClass RMd = some m.cls := findClass_of_methodNamed B.named
  have hlocks := B.notSynchronized
  subst hsz
  have hD := hD0.self (sz := s.heap.size)
  generalize hAe : va_A (wM y y1 y2 y3 y4 y5 y6 y7 y8 y9 y10 cI mi ma) s.heap.size = A at hD ⊢
  have hA : ∀ q : Nat, s.heap.size ≤ q → A q := fun q h => by rw [← hAe]; exact Or.inr h
  have hS : va_S A s.heap s.heap [] := va_S.rf
  have hP : va_P (dC, dI) vwCl (wM y y1 y2 y3 y4 y5 y6 y7 y8 y9 y10 cI mi ma) s.heap := hP
  have hl := lv_entry ([.ref y, .int (nI k)]) (n := 2) (Nat.le_of_ble_eq_true rfl)
  rw [lg_entry_eq]
  generalize (lg_sl ([.ref y, .int (nI k)]) ++ List.replicate (2 - (lg_sl ([.ref y, .int (nI k)])).length) Slot.unset).toArray = ls at hl ⊢
  have hl : lv_has ls 2 [(0, .ref y), (1, .int (nI k))] := hl
  refine lv_aload_n hx hb dMd_test_0 rfl (lv_at hl 0 rfl) ?_
  refine lv_iload_n hx hb dMd_test_1 rfl (lv_at hl 1 rfl) ?_
  have hPc := hP.sub (ws' := (wM y y1 y2 y3 y4 y5 y6 y7 y8 y9 y10 cI mi ma)) [0, 1, 2, 3, 4, 5, 6, 7, 8, 9, 10] rfl
  have hDc := hD.sub (ws' := (wM y y1 y2 y3 y4 y5 y6 y7 y8 y9 y10 cI mi ma)) [0, 1, 2, 3, 4, 5, 6, 7, 8, 9, 10] (by decide) rfl
  have hKc := hK.sub (tys' := [(cI, .int)]) [0] rfl
  have hFc := va_free (wc := (wM y y1 y2 y3 y4 y5 y6 y7 y8 y9 y10 cI mi ma)) hD hS hA [0, 1, 2, 3, 4, 5, 6, 7, 8, 9, 10] rfl
  refine va_calli (va_runV (As := [.int (nI k)]) (rest := []) ⟨hx, hb, hml, hown, hts⟩ (k_M_lacks0 l dC dI s.heap.size y y1 y2 y3 y4 y5 y6 y7 y8 y9 y10 cI mi ma k hk4) (cwV 1 hts (gd_V in_91 in_93 in_94 in_74 in_92) rfl rfl rfl (by decide +kernel) ⟨Nat.le_of_ble_eq_true rfl, Nat.le_of_ble_eq_true rfl⟩) ⟨fun a U g mk q => by obtain ⟨q0, q1, qP, qK, qD⟩ := q; exact ⟨q0, q1, qP, va_K.moved (u := U) (U := U.calling g mk a) (Vm.Alike.refl U.vm) qK, qD⟩, va_recv hKc hPc (ci := 3) (q0 := 0) rfl rfl, fun U hU hW => ⟨rfl, by rw [hU], by rw [hU]; exact hPc, va_K.moved hW.alike hKc, hDc.weaken (fun _ _ _ _ => trivial)⟩⟩ rfl rfl hl.1 rfl (lv_room (Nat.le_of_ble_eq_true rfl)) dMd_test_2 ⟨Nat.le_of_ble_eq_true rfl, Nat.le_of_ble_eq_true rfl⟩) hS (fun q _ h => hFc q h) hFc (fun r_1 u t H1 locs ht hvm hw hB hz1 hk1 hS => ?_)
  obtain ⟨hP1, hK1, hD1⟩ := hB
  rw [ht] at hP1
  obtain ⟨hP, hD⟩ := va_join (wr := []) (w1 := (wM y y1 y2 y3 y4 y5 y6 y7 y8 y9 y10 cI (va_up mi 0 0) ma)) hP hD [0, 1, 2, 3, 4, 5, 6, 7, 8, 9, 10] [] rfl rfl (by decide) (by decide) hk1 hFc hP1 hD1
  generalize H1 = H at hP hS ⊢
  have hP : va_P (dC, dI) vwCl (wM y y1 y2 y3 y4 y5 y6 y7 y8 y9 y10 cI (va_up mi 0 0) ma) H := hP
  have hD : va_D A (wM y y1 y2 y3 y4 y5 y6 y7 y8 y9 y10 cI (va_up mi 0 0) ma) := hD
  have hw : r_1 = 0 := hw
  subst hw
  refine lv_if_eq (tgt := 12) hx hb dMd_test_5 (by decide) (fun _ => ?_) (fun c_2 => absurd c_2 (by decide))
  refine lv_aload_n hx hb dMd_test_12 rfl (lv_at hl 0 rfl) ?_
  refine lv_iload_n hx hb dMd_test_13 rfl (lv_at hl 1 rfl) ?_
  have hPc := hP.sub (ws' := (wM y y1 y2 y3 y4 y5 y6 y7 y8 y9 y10 cI (va_up mi 0 0) ma)) [0, 1, 2, 3, 4, 5, 6, 7, 8, 9, 10] rfl
  have hKc := hK.sub (tys' := [(cI, .int)]) [0] rfl
  refine vp_callSi (W.runV (As := [.int (nI k)]) (rest := []) ⟨hx, hb, hml, hown, hts⟩ (k_M_decided l dC dI y y1 y2 y3 y4 y5 y6 y7 y8 y9 y10 cI (va_up mi 0 0) ma k n hk4 hn hix se b hse hs16 hsn hb31) (cwV 1 hts (gd_V in_95 in_97 in_98 in_74 in_96) rfl rfl rfl (by decide +kernel) ⟨Nat.le_of_ble_eq_true rfl, Nat.le_of_ble_eq_true rfl⟩) ⟨fun a U g mk q => by obtain ⟨q0, qP, qK⟩ := q; exact ⟨q0, qP, va_K.moved (u := U) (U := U.calling g mk a) (Vm.Alike.refl U.vm) qK⟩, va_recv hKc hPc (ci := 3) (q0 := 0) rfl rfl, fun U hU hW => ⟨rfl, by rw [hU]; exact hPc, va_K.moved hW.alike hKc⟩⟩ rfl rfl hl.1 rfl (lv_room (Nat.le_of_ble_eq_true rfl)) dMd_test_14 ⟨Nat.le_of_ble_eq_true rfl, Nat.le_of_ble_eq_true rfl⟩) (fun r_3 er_4 => ?_)
  subst er_4
  have hP9 : va_P (dC, dI) vwCl (wM y y1 y2 y3 y4 y5 y6 y7 y8 y9 y10 cI (va_up mi 0 0) ma) H := by exact hP
  have hD9 : va_D A (wM y y1 y2 y3 y4 y5 y6 y7 y8 y9 y10 cI (va_up mi 0 0) ma) := by exact hD
  exact W.iret (v := m_dec (va_up mi 0 0) ma k n se b) hx hb hr (fun t ht hW => ⟨⟨m_dec (va_up mi 0 0) ma k n se b, (), rfl, rfl, by rw [ht]; exact hP9, va_K.moved hW.alike hK, hD9⟩, hS.F ht⟩) hS.2.2 dMd_test_17
set_option maxHeartbeats 4000000 in
set_option maxRecDepth 100000 in
/-- test(x), no fold -/
theorem k_M_testN (l : Launch) (dC : Nat → ClassId) (dI : Nat → Nat → Nat) (sz : Nat) (y y1 y2 y3 y4 y5 y6 y7 y8 y9 y10 : Nat) (cI : ClassId) (mi : Nat → Int32) (ma : Nat → Nat → Int32) (x : Int32) (hfx : s_lk x = 1) : Met l yMd_test wsMd_test ({ frames := 3, cells := 0, slots := 0, locals := 120 }) (va_Pc [.ref y, .int x] (fun U => U.heap.size = sz ∧ va_P (dC, dI) vwCl (wM y y1 y2 y3 y4 y5 y6 y7 y8 y9 y10 cI mi ma) U.heap ∧ va_K (dC, dI) vwCl [(cI, .int)] U ∧ va_D (fun _ => True) (wM y y1 y2 y3 y4 y5 y6 y7 y8 y9 y10 cI mi ma))) (va_Qi (fun (r : Int32) (_ : Unit) => r = 0) (fun _ t => va_P (dC, dI) vwCl (wM y y1 y2 y3 y4 y5 y6 y7 y8 y9 y10 cI (va_up mi 0 1) ma) t.heap ∧ va_K (dC, dI) vwCl [(cI, .int)] t ∧ va_D (va_A (wM y y1 y2 y3 y4 y5 y6 y7 y8 y9 y10 cI mi ma) sz) (wM y y1 y2 y3 y4 y5 y6 y7 y8 y9 y10 cI (va_up mi 0 1) ma)) (va_A (wM y y1 y2 y3 y4 y5 y6 y7 y8 y9 y10 cI mi ma) sz)) 0 0 (va_A (wM y y1 y2 y3 y4 y5 y6 y7 y8 y9 y10 cI mi ma) sz) := by
  refine Met.ofW (cc := cMd_test) (maxL := 2) (ret := (some .int)) (by decide) rfl ?_
  intro p e s m args below meth c s₁ B hml hv
  obtain ⟨rfl, hsz, hP, hK, hD0⟩ := hv
  have hx := B.exec
  have hb := B.bytes
  have hr := B.returns
  have hts0 := atoms_spec (ws := wsMd_test) B.pre
  have hts := fun (w : Cond) (h : w ∈ lw_g) => hts0 w (List.mem_cons_of_mem _ h)
  have hown : s.vm.findClass RMd = some m.cls := findClass_of_methodNamed B.named
  have hlocks := B.notSynchronized
  subst hsz
  have hD := hD0.self (sz := s.heap.size)
  generalize hAe : va_A (wM y y1 y2 y3 y4 y5 y6 y7 y8 y9 y10 cI mi ma) s.heap.size = A at hD ⊢
  have hA : ∀ q : Nat, s.heap.size ≤ q → A q := fun q h => by rw [← hAe]; exact Or.inr h
  have hS : va_S A s.heap s.heap [] := va_S.rf
  have hP : va_P (dC, dI) vwCl (wM y y1 y2 y3 y4 y5 y6 y7 y8 y9 y10 cI mi ma) s.heap := hP
  have hl := lv_entry ([.ref y, .int x]) (n := 2) (Nat.le_of_ble_eq_true rfl)
  rw [lg_entry_eq]
  generalize (lg_sl ([.ref y, .int x]) ++ List.replicate (2 - (lg_sl ([.ref y, .int x])).length) Slot.unset).toArray = ls at hl ⊢
  have hl : lv_has ls 2 [(0, .ref y), (1, .int x)] := hl
  refine lv_aload_n hx hb dMd_test_0 rfl (lv_at hl 0 rfl) ?_
  refine lv_iload_n hx hb dMd_test_1 rfl (lv_at hl 1 rfl) ?_
  have hPc := hP.sub (ws' := (wM y y1 y2 y3 y4 y5 y6 y7 y8 y9 y10 cI mi ma)) [0, 1, 2, 3, 4, 5, 6, 7, 8, 9, 10] rfl
  have hDc := hD.sub (ws' := (wM y y1 y2 y3 y4 y5 y6 y7 y8 y9 y10 cI mi ma)) [0, 1, 2, 3, 4, 5, 6, 7, 8, 9, 10] (by decide) rfl
  have hKc := hK.sub (tys' := [(cI, .int)]) [0] rfl
  have hFc := va_free (wc := (wM y y1 y2 y3 y4 y5 y6 y7 y8 y9 y10 cI mi ma)) hD hS hA [0, 1, 2, 3, 4, 5, 6, 7, 8, 9, 10] rfl
  refine va_calli (va_runV (As := [.int x]) (rest := []) ⟨hx, hb, hml, hown, hts⟩ (k_M_lacks1 l dC dI s.heap.size y y1 y2 y3 y4 y5 y6 y7 y8 y9 y10 cI mi ma x hfx) (cwV 1 hts (gd_V in_91 in_93 in_94 in_74 in_92) rfl rfl rfl (by decide +kernel) ⟨Nat.le_of_ble_eq_true rfl, Nat.le_of_ble_eq_true rfl⟩) ⟨fun a U g mk q => by obtain ⟨q0, q1, qP, qK, qD⟩ := q; exact ⟨q0, q1, qP, va_K.moved (u := U) (U := U.calling g mk a) (Vm.Alike.refl U.vm) qK, qD⟩, va_recv hKc hPc (ci := 3) (q0 := 0) rfl rfl, fun U hU hW => ⟨rfl, by rw [hU], by rw [hU]; exact hPc, va_K.moved hW.alike hKc, hDc.weaken (fun _ _ _ _ => trivial)⟩⟩ rfl rfl hl.1 rfl (lv_room (Nat.le_of_ble_eq_true rfl)) dMd_test_2 ⟨Nat.le_of_ble_eq_true rfl, Nat.le_of_ble_eq_true rfl⟩) hS (fun q _ h => hFc q h) hFc (fun r_1 u t H1 locs ht hvm hw hB hz1 hk1 hS => ?_)
  obtain ⟨hP1, hK1, hD1⟩ := hB
  rw [ht] at hP1
  obtain ⟨hP, hD⟩ := va_join (wr := []) (w1 := (wM y y1 y2 y3 y4 y5 y6 y7 y8 y9 y10 cI (va_up mi 0 1) ma)) hP hD [0, 1, 2, 3, 4, 5, 6, 7, 8, 9, 10] [] rfl rfl (by decide) (by decide) hk1 hFc hP1 hD1
  generalize H1 = H at hP hS ⊢
  have hP : va_P (dC, dI) vwCl (wM y y1 y2 y3 y4 y5 y6 y7 y8 y9 y10 cI (va_up mi 0 1) ma) H := hP
  have hD : va_D A (wM y y1 y2 y3 y4 y5 y6 y7 y8 y9 y10 cI (va_up mi 0 1) ma) := hD
  have hw : r_1 = 1 := hw
  subst hw
  refine lv_if_eq (tgt := 12) hx hb dMd_test_5 (by decide) (fun c_2 => absurd c_2 (by decide)) (fun _ => ?_)
  refine lv_iconst (v := 0) hx hb dMd_test_8 (by decide) ?_
  refine lv_goto (tgt := 17) hx hb dMd_test_9 (by decide) ?_
  have hP9 : va_P (dC, dI) vwCl (wM y y1 y2 y3 y4 y5 y6 y7 y8 y9 y10 cI (va_up mi 0 1) ma) H := by exact hP
  have hD9 : va_D A (wM y y1 y2 y3 y4 y5 y6 y7 y8 y9 y10 cI (va_up mi 0 1) ma) := by exact hD
  exact W.iret (v := 0) hx hb hr (fun t ht hW => ⟨⟨0, (), rfl, rfl, by rw [ht]; exact hP9, va_K.moved hW.alike hK, hD9⟩, hS.F ht⟩) hS.2.2 dMd_test_17
