set_option maxHeartbeats 4000000 in
set_option maxRecDepth 100000 in
/-- same(a, b) -/
theorem k_M_same (l : Launch) (dC : Nat → ClassId) (dI : Nat → Nat → Nat) (sz : Nat) (y y1 y2 y3 y4 y5 y6 y7 y8 y9 y10 : Nat) (cI : ClassId) (mi : Nat → Int32) (ma : Nat → Nat → Int32) (a b n v : Nat) (ha4 : a < 4) (hb4 : b < 4) (hn : n < 2 ^ 30) (hix : ma 0 a = nI n) (hver : mi 1 = nI v) (hv16 : v ≤ 16) : Met l yMd_same wsMd_same ({ frames := 3, cells := 0, slots := 0, locals := 120 }) (va_Pc [.ref y, .int (nI a), .int (nI b)] (fun U => U.heap.size = sz ∧ va_P (dC, dI) vwCl (wM y y1 y2 y3 y4 y5 y6 y7 y8 y9 y10 cI mi ma) U.heap ∧ va_K (dC, dI) vwCl [(cI, .int)] U ∧ va_D (fun _ => True) (wM y y1 y2 y3 y4 y5 y6 y7 y8 y9 y10 cI mi ma))) (va_Qi (fun (r : Int32) (_ : Unit) => r = m_sm ma a b n v) (fun _ t => va_P (dC, dI) vwCl (wM y y1 y2 y3 y4 y5 y6 y7 y8 y9 y10 cI (va_up mi 0 0) ma) t.heap ∧ va_K (dC, dI) vwCl [(cI, .int)] t ∧ va_D (va_A (wM y y1 y2 y3 y4 y5 y6 y7 y8 y9 y10 cI mi ma) sz) (wM y y1 y2 y3 y4 y5 y6 y7 y8 y9 y10 cI (va_up mi 0 0) ma)) (va_A (wM y y1 y2 y3 y4 y5 y6 y7 y8 y9 y10 cI mi ma) sz)) 0 0 (va_A (wM y y1 y2 y3 y4 y5 y6 y7 y8 y9 y10 cI mi ma) sz) := by
  refine Met.ofW (cc := cMd_same) (maxL := 5) (ret := (some .boolean)) (by decide) rfl ?_
  intro p e s m args below meth c s₁ B hml hv
  obtain ⟨rfl, hsz, hP, hK, hD0⟩ := hv
  have hx := B.exec
  have hb := B.bytes
  have hr := B.returns
  have hts0 := atoms_spec (ws := wsMd_same) B.pre
  have hts := fun (w : Cond) (h : w ∈ lw_g) => hts0 w (List.mem_cons_of_mem _ h)
  have hown : s.vm.findClass RMd = some m.cls := findClass_of_methodNamed B.named
  have hlocks := B.notSynchronized
  subst hsz
  have hD := hD0.self (sz := s.heap.size)
  generalize hAe : va_A (wM y y1 y2 y3 y4 y5 y6 y7 y8 y9 y10 cI mi ma) s.heap.size = A at hD ⊢
  have hA : ∀ q : Nat, s.heap.size ≤ q → A q := fun q h => by rw [← hAe]; exact Or.inr h
  have hS : va_S A s.heap s.heap [] := va_S.rf
  have hP : va_P (dC, dI) vwCl (wM y y1 y2 y3 y4 y5 y6 y7 y8 y9 y10 cI mi ma) s.heap := hP
  have hl := lv_entry ([.ref y, .int (nI a), .int (nI b)]) (n := 5) (Nat.le_of_ble_eq_true rfl)
  rw [lg_entry_eq]
  generalize (lg_sl ([.ref y, .int (nI a), .int (nI b)]) ++ List.replicate (5 - (lg_sl ([.ref y, .int (nI a), .int (nI b)])).length) Slot.unset).toArray = ls at hl ⊢
  have hl : lv_has ls 5 [(0, .ref y), (1, .int (nI a)), (2, .int (nI b))] := hl
  refine lv_aload_n hx hb dMd_same_0 rfl (lv_at hl 0 rfl) ?_
  refine lv_iload_n hx hb dMd_same_1 rfl (lv_at hl 1 rfl) ?_
  have hPc := hP.sub (ws' := (wM y y1 y2 y3 y4 y5 y6 y7 y8 y9 y10 cI mi ma)) [0, 1, 2, 3, 4, 5, 6, 7, 8, 9, 10] rfl
  have hDc := hD.sub (ws' := (wM y y1 y2 y3 y4 y5 y6 y7 y8 y9 y10 cI mi ma)) [0, 1, 2, 3, 4, 5, 6, 7, 8, 9, 10] (by decide) rfl
  have hKc := hK.sub (tys' := [(cI, .int)]) [0] rfl
  have hFc := va_free (wc := (wM y y1 y2 y3 y4 y5 y6 y7 y8 y9 y10 cI mi ma)) hD hS hA [0, 1, 2, 3, 4, 5, 6, 7, 8, 9, 10] rfl
  refine va_calli (va_runV (As := [.int (nI a)]) (rest := []) ⟨hx, hb, hml, hown, hts⟩ (k_M_lacks0 l dC dI s.heap.size y y1 y2 y3 y4 y5 y6 y7 y8 y9 y10 cI mi ma a ha4) (cwV 1 hts (gd_V in_91 in_93 in_94 in_74 in_92) rfl rfl rfl (by decide +kernel) ⟨Nat.le_of_ble_eq_true rfl, Nat.le_of_ble_eq_true rfl⟩) ⟨fun a U g mk q => by obtain ⟨q0, q1, qP, qK, qD⟩ := q; exact ⟨q0, q1, qP, va_K.moved (u := U) (U := U.calling g mk a) (Vm.Alike.refl U.vm) qK, qD⟩, va_recv hKc hPc (ci := 3) (q0 := 0) rfl rfl, fun U hU hW => ⟨rfl, by rw [hU], by rw [hU]; exact hPc, va_K.moved hW.alike hKc, hDc.weaken (fun _ _ _ _ => trivial)⟩⟩ rfl rfl hl.1 rfl (lv_room (Nat.le_of_ble_eq_true rfl)) dMd_same_2 ⟨Nat.le_of_ble_eq_true rfl, Nat.le_of_ble_eq_true rfl⟩) hS (fun q _ h => hFc q h) hFc (fun r_1 u t H1 locs ht hvm hw hB hz1 hk1 hS => ?_)
  obtain ⟨hP1, hK1, hD1⟩ := hB
  rw [ht] at hP1
  obtain ⟨hP, hD⟩ := va_join (wr := []) (w1 := (wM y y1 y2 y3 y4 y5 y6 y7 y8 y9 y10 cI (va_up mi 0 0) ma)) hP hD [0, 1, 2, 3, 4, 5, 6, 7, 8, 9, 10] [] rfl rfl (by decide) (by decide) hk1 hFc hP1 hD1
  generalize H1 = H at hP hS ⊢
  have hP : va_P (dC, dI) vwCl (wM y y1 y2 y3 y4 y5 y6 y7 y8 y9 y10 cI (va_up mi 0 0) ma) H := hP
  have hD : va_D A (wM y y1 y2 y3 y4 y5 y6 y7 y8 y9 y10 cI (va_up mi 0 0) ma) := hD
  have hw : r_1 = 0 := hw
  subst hw
  refine lv_if_ne (tgt := 16) hx hb dMd_same_5 (by decide) (fun c_2 => absurd c_2 (by decide)) (fun _ => ?_)
  refine lv_aload_n hx hb dMd_same_8 rfl (lv_at hl 0 rfl) ?_
  refine lv_iload_n hx hb dMd_same_9 rfl (lv_at hl 2 rfl) ?_
  have hPc := hP.sub (ws' := (wM y y1 y2 y3 y4 y5 y6 y7 y8 y9 y10 cI (va_up mi 0 0) ma)) [0, 1, 2, 3, 4, 5, 6, 7, 8, 9, 10] rfl
  have hDc := hD.sub (ws' := (wM y y1 y2 y3 y4 y5 y6 y7 y8 y9 y10 cI (va_up mi 0 0) ma)) [0, 1, 2, 3, 4, 5, 6, 7, 8, 9, 10] (by decide) rfl
  have hKc := hK.sub (tys' := [(cI, .int)]) [0] rfl
  have hFc := va_free (wc := (wM y y1 y2 y3 y4 y5 y6 y7 y8 y9 y10 cI (va_up mi 0 0) ma)) hD hS hA [0, 1, 2, 3, 4, 5, 6, 7, 8, 9, 10] rfl
  refine va_calli (va_runV (As := [.int (nI b)]) (rest := []) ⟨hx, hb, hml, hown, hts⟩ (k_M_lacks0 l dC dI H.size y y1 y2 y3 y4 y5 y6 y7 y8 y9 y10 cI (va_up mi 0 0) ma b hb4) (cwV 1 hts (gd_V in_91 in_93 in_94 in_74 in_92) rfl rfl rfl (by decide +kernel) ⟨Nat.le_of_ble_eq_true rfl, Nat.le_of_ble_eq_true rfl⟩) ⟨fun a U g mk q => by obtain ⟨q0, q1, qP, qK, qD⟩ := q; exact ⟨q0, q1, qP, va_K.moved (u := U) (U := U.calling g mk a) (Vm.Alike.refl U.vm) qK, qD⟩, va_recv hKc hPc (ci := 3) (q0 := 0) rfl rfl, fun U hU hW => ⟨rfl, by rw [hU], by rw [hU]; exact hPc, va_K.moved hW.alike hKc, hDc.weaken (fun _ _ _ _ => trivial)⟩⟩ rfl rfl hl.1 rfl (lv_room (Nat.le_of_ble_eq_true rfl)) dMd_same_10 ⟨Nat.le_of_ble_eq_true rfl, Nat.le_of_ble_eq_true rfl⟩) hS (fun q _ h => hFc q h) hFc (fun r_3 u t H1 locs ht hvm hw hB hz1 hk1 hS => ?_)
  obtain ⟨hP1, hK1, hD1⟩ := hB
  rw [ht] at hP1
  obtain ⟨hP, hD⟩ := va_join (wr := []) (w1 := (wM y y1 y2 y3 y4 y5 y6 y7 y8 y9 y10 cI (va_up mi 0 0) ma)) hP hD [0, 1, 2, 3, 4, 5, 6, 7, 8, 9, 10] [] rfl rfl (by decide) (by decide) hk1 hFc hP1 hD1
  generalize H1 = H at hP hS ⊢
  have hP : va_P (dC, dI) vwCl (wM y y1 y2 y3 y4 y5 y6 y7 y8 y9 y10 cI (va_up mi 0 0) ma) H := hP
  have hD : va_D A (wM y y1 y2 y3 y4 y5 y6 y7 y8 y9 y10 cI (va_up mi 0 0) ma) := hD
  have hw : r_3 = 0 := hw
  subst hw
  refine lv_if_eq (tgt := 18) hx hb dMd_same_13 (by decide) (fun _ => ?_) (fun c_4 => absurd c_4 (by decide))
  refine lv_aload_n hx hb dMd_same_18 rfl (lv_at hl 0 rfl) ?_
  refine va_get (D := (dC, dI)) (ci := 3) (v := .ref y1) (C := RMd) (T := TMd) (N := 17) hx hb hts inMd hown hK hP 0 rfl rfl 2 (by decide) (hts _ in_82) (fun _ h9 => h9) rfl dMd_same_19 ?_
  refine lv_iload_n hx hb dMd_same_22 rfl (lv_at hl 1 rfl) ?_
  refine vq_iald (k := a) (f := ma 0) hx hb hK hP 1 0 rfl rfl rfl (by omega) (by decide) dMd_same_23 ?_
  refine lv_aload_n hx hb dMd_same_24 rfl (lv_at hl 0 rfl) ?_
  refine va_get (D := (dC, dI)) (ci := 3) (v := .ref y1) (C := RMd) (T := TMd) (N := 17) hx hb hts inMd hown hK hP 0 rfl rfl 2 (by decide) (hts _ in_82) (fun _ h9 => h9) rfl dMd_same_25 ?_
  refine lv_iload_n hx hb dMd_same_28 rfl (lv_at hl 2 rfl) ?_
  refine vq_iald (k := b) (f := ma 0) hx hb hK hP 1 0 rfl rfl rfl (by omega) (by decide) dMd_same_29 ?_
  refine lv_icmp_ne (tgt := 37) hx hb dMd_same_30 (by decide) (fun c_5 => ?_) (fun c_5 => ?_)
  · skip
    have hAB : ¬ ma 0 a = ma 0 b := c_5
    refine lv_iconst (v := 0) hx hb dMd_same_37 (by decide) ?_
    refine lv_istore_n (lv' := [(3, .int 0), (0, .ref y), (1, .int (nI a)), (2, .int (nI b))]) hx hb dMd_same_38 rfl hl (by decide) rfl (fun ls hl => ?_)
    refine lv_iconst (v := 0) hx hb dMd_same_39 (by decide) ?_
    refine lv_istore (lv' := [(4, .int 0), (3, .int 0), (0, .ref y), (1, .int (nI a)), (2, .int (nI b))]) hx hb dMd_same_40 hl (by decide) rfl (fun ls hl => ?_)
    refine lv_iload hx hb dMd_same_42 (lv_at hl 0 rfl) ?_
    refine lv_bipush (v := nI 16) hx hb dMd_same_44 (by decide) ?_
    refine lv_icmp_ge (tgt := 172) hx hb dMd_same_46 (by decide) (fun c_6 => absurd c_6 (by decide)) (fun _ => ?_)
    refine lv_iload_n hx hb dMd_same_49 rfl (lv_at hl 1 rfl) ?_
    refine lv_if_eq (tgt := 172) hx hb dMd_same_50 (by decide) (fun _ => ?_) (fun c_7 => absurd c_7 (by decide))
    refine lv_aload_n hx hb dMd_same_172 rfl (lv_at hl 2 rfl) ?_
    refine va_get (D := (dC, dI)) (ci := 3) (v := .ref y1) (C := RMd) (T := TMd) (N := 17) hx hb hts inMd hown hK hP 0 rfl rfl 2 (by decide) (hts _ in_82) (fun _ h9 => h9) rfl dMd_same_173 ?_
    refine lv_iload_n hx hb dMd_same_176 rfl (lv_at hl 3 rfl) ?_
    refine vq_iald (k := a) (f := ma 0) hx hb hK hP 1 0 rfl rfl rfl (by omega) (by decide) dMd_same_177 ?_
    refine lv_ri (y := nI n) hix ?_
    refine lv_istore (lv' := [(4, .int (nI n)), (3, .int 0), (0, .ref y), (1, .int (nI a)), (2, .int (nI b))]) hx hb dMd_same_178 hl (by decide) rfl (fun ls hl => ?_)
    refine lv_iload hx hb dMd_same_180 (lv_at hl 0 rfl) ?_
    refine lv_aload_n hx hb dMd_same_182 rfl (lv_at hl 2 rfl) ?_
    refine va_get (D := (dC, dI)) (ci := 3) (v := .ref y1) (C := RMd) (T := TMd) (N := 17) hx hb hts inMd hown hK hP 0 rfl rfl 2 (by decide) (hts _ in_82) (fun _ h9 => h9) rfl dMd_same_183 ?_
    refine lv_iload_n hx hb dMd_same_186 rfl (lv_at hl 3 rfl) ?_
    refine vq_iald (k := a) (f := ma 0) hx hb hK hP 1 0 rfl rfl rfl (by omega) (by decide) dMd_same_187 ?_
    refine lv_ri (y := nI n) hix ?_
    refine lv_aload_n hx hb dMd_same_188 rfl (lv_at hl 2 rfl) ?_
    refine va_get (D := (dC, dI)) (ci := 3) (v := .int (mi 1)) (C := RMd) (T := TMd) (N := 17) hx hb hts inMd hown hK hP 0 rfl rfl 1 (by decide) (hts _ in_86) (fun _ h9 => h9) rfl dMd_same_189 ?_
    refine lv_ri (y := nI v) hver ?_
    refine lv_isub hx hb dMd_same_192 ?_
    refine lv_icmp_lt (tgt := 229) hx hb dMd_same_193 (by decide) (fun c_8 => ?_) (fun c_8 => ?_)
    · skip
      refine lv_iload_n hx hb dMd_same_229 rfl (lv_at hl 1 rfl) ?_
      have hP9 : va_P (dC, dI) vwCl (wM y y1 y2 y3 y4 y5 y6 y7 y8 y9 y10 cI (va_up mi 0 0) ma) H := by exact hP
      have hD9 : va_D A (wM y y1 y2 y3 y4 y5 y6 y7 y8 y9 y10 cI (va_up mi 0 0) ma) := by exact hD
      exact W.zret (v := 0) (ty := .boolean) hx hb hr rfl (fun t ht hW => ⟨⟨0, (), rfl, by unfold m_sm; rw [if_neg hAB], by rw [ht]; exact hP9, va_K.moved hW.alike hK, hD9⟩, hS.F ht⟩) hS.2.2 dMd_same_230
    · skip
      refine lv_iload_n hx hb dMd_same_196 rfl (lv_at hl 1 rfl) ?_
      refine lv_if_eq (tgt := 229) hx hb dMd_same_197 (by decide) (fun _ => ?_) (fun c_9 => absurd c_9 (by decide))
      refine lv_iload_n hx hb dMd_same_229 rfl (lv_at hl 1 rfl) ?_
      have hP9 : va_P (dC, dI) vwCl (wM y y1 y2 y3 y4 y5 y6 y7 y8 y9 y10 cI (va_up mi 0 0) ma) H := by exact hP
      have hD9 : va_D A (wM y y1 y2 y3 y4 y5 y6 y7 y8 y9 y10 cI (va_up mi 0 0) ma) := by exact hD
      exact W.zret (v := 0) (ty := .boolean) hx hb hr rfl (fun t ht hW => ⟨⟨0, (), rfl, by unfold m_sm; rw [if_neg hAB], by rw [ht]; exact hP9, va_K.moved hW.alike hK, hD9⟩, hS.F ht⟩) hS.2.2 dMd_same_230
  · skip
    have hixb : ma 0 b = nI n := by rw [← c_5]; exact hix
    have hAB : ma 0 a = ma 0 b := c_5
    refine lv_iconst (v := 1) hx hb dMd_same_33 (by decide) ?_
    refine lv_goto (tgt := 38) hx hb dMd_same_34 (by decide) ?_
    refine lv_istore_n (lv' := [(3, .int 1), (0, .ref y), (1, .int (nI a)), (2, .int (nI b))]) hx hb dMd_same_38 rfl hl (by decide) rfl (fun ls hl => ?_)
    refine lv_iconst (v := 0) hx hb dMd_same_39 (by decide) ?_
    refine lv_istore (lv' := [(4, .int 0), (3, .int 1), (0, .ref y), (1, .int (nI a)), (2, .int (nI b))]) hx hb dMd_same_40 hl (by decide) rfl (fun ls hl => ?_)
    refine wl_ro (σ := Nat × Array Slot) (fun z9 => F0 m 42 z9.2 []) (fun z9 => z9.1 ≤ 16 ∧ m_sq (ma 5) (ma 6) (ma 8) a b (64 * a + n % 64) (64 * b + n % 64) 16 0 = m_sq (ma 5) (ma 6) (ma 8) a b (64 * a + n % 64) (64 * b + n % 64) (16 - z9.1) z9.1 ∧ lv_has z9.2 5 [(4, .int (nI z9.1)), (3, .int 1), (0, .ref y), (1, .int (nI a)), (2, .int (nI b))]) (fun z9 => 16 - z9.1) ?_ (0, ls) ⟨by omega, rfl, lv_sub hl [0, 1, 2, 3, 4] rfl⟩
    rintro ⟨j, ls⟩ ⟨hj, hE, hl⟩ ih
    have hE : m_sq (ma 5) (ma 6) (ma 8) a b (64 * a + n % 64) (64 * b + n % 64) 16 0 = m_sq (ma 5) (ma 6) (ma 8) a b (64 * a + n % 64) (64 * b + n % 64) (16 - j) j := hE
    have hj : j ≤ 16 := hj
    have hl : lv_has ls 5 [(4, .int (nI j)), (3, .int 1), (0, .ref y), (1, .int (nI a)), (2, .int (nI b))] := hl
    show W p l e _ s m _ below meth c _ _ _ _ _ (F0 m 42 ls [])
    refine lv_iload hx hb dMd_same_42 (lv_at hl 0 rfl) ?_
    refine lv_bipush (v := nI 16) hx hb dMd_same_44 (by decide) ?_
    refine lv_icmp_ge (tgt := 172) hx hb dMd_same_46 (by decide) (fun c_10 => ?_) (fun c_10 => ?_)
    · skip
      have hj9 : j = 16 := lp_x (by decide) hj c_10
      subst hj9
      have hQ : m_sq (ma 5) (ma 6) (ma 8) a b (64 * a + n % 64) (64 * b + n % 64) 16 0 = 1 := hE
      refine lv_aload_n hx hb dMd_same_172 rfl (lv_at hl 2 rfl) ?_
      refine va_get (D := (dC, dI)) (ci := 3) (v := .ref y1) (C := RMd) (T := TMd) (N := 17) hx hb hts inMd hown hK hP 0 rfl rfl 2 (by decide) (hts _ in_82) (fun _ h9 => h9) rfl dMd_same_173 ?_
      refine lv_iload_n hx hb dMd_same_176 rfl (lv_at hl 3 rfl) ?_
      refine vq_iald (k := a) (f := ma 0) hx hb hK hP 1 0 rfl rfl rfl (by omega) (by decide) dMd_same_177 ?_
      refine lv_ri (y := nI n) hix ?_
      refine lv_istore (lv' := [(4, .int (nI n)), (3, .int 1), (0, .ref y), (1, .int (nI a)), (2, .int (nI b))]) hx hb dMd_same_178 hl (by decide) rfl (fun ls hl => ?_)
      refine wl_ro (σ := Nat × Array Slot) (fun z9 => F0 m 180 z9.2 []) (fun z9 => z9.1 ≤ v + 1 ∧ m_sw (ma 7) a b n (v + 1) 0 = m_sw (ma 7) a b n (v + 1 - z9.1) z9.1 ∧ lv_has z9.2 5 [(4, .int (nI n - nI z9.1)), (3, .int 1), (0, .ref y), (1, .int (nI a)), (2, .int (nI b))]) (fun z9 => v + 1 - z9.1) ?_ (0, ls) ⟨by omega, rfl, by rw [show nI n - nI 0 = nI n from by rw [pk_sub (Nat.zero_le _)]; rfl]; exact lv_sub hl [0, 1, 2, 3, 4] rfl⟩
      rintro ⟨i0, ls⟩ ⟨hi0, hE2, hl⟩ ih
      have hi0 : i0 ≤ v + 1 := hi0
      have hE2 : m_sw (ma 7) a b n (v + 1) 0 = m_sw (ma 7) a b n (v + 1 - i0) i0 := hE2
      have hl : lv_has ls 5 [(4, .int (nI n - nI i0)), (3, .int 1), (0, .ref y), (1, .int (nI a)), (2, .int (nI b))] := hl
      show W p l e _ s m _ below meth c _ _ _ _ _ (F0 m 180 ls [])
      refine lv_iload hx hb dMd_same_180 (lv_at hl 0 rfl) ?_
      refine lv_aload_n hx hb dMd_same_182 rfl (lv_at hl 2 rfl) ?_
      refine va_get (D := (dC, dI)) (ci := 3) (v := .ref y1) (C := RMd) (T := TMd) (N := 17) hx hb hts inMd hown hK hP 0 rfl rfl 2 (by decide) (hts _ in_82) (fun _ h9 => h9) rfl dMd_same_183 ?_
      refine lv_iload_n hx hb dMd_same_186 rfl (lv_at hl 3 rfl) ?_
      refine vq_iald (k := a) (f := ma 0) hx hb hK hP 1 0 rfl rfl rfl (by omega) (by decide) dMd_same_187 ?_
      refine lv_ri (y := nI n) hix ?_
      refine lv_aload_n hx hb dMd_same_188 rfl (lv_at hl 2 rfl) ?_
      refine va_get (D := (dC, dI)) (ci := 3) (v := .int (mi 1)) (C := RMd) (T := TMd) (N := 17) hx hb hts inMd hown hK hP 0 rfl rfl 1 (by decide) (hts _ in_86) (fun _ h9 => h9) rfl dMd_same_189 ?_
      refine lv_ri (y := nI v) hver ?_
      refine lv_isub hx hb dMd_same_192 ?_
      refine lv_icmp_lt (tgt := 229) hx hb dMd_same_193 (by decide) (fun c_11 => ?_) (fun c_11 => ?_)
      · skip
        have hi9 : i0 = v + 1 := by have := (sx_lt hn (by omega) (by omega)).mp c_11; omega
        subst hi9
        have hW1 : m_sw (ma 7) a b n (v + 1) 0 = 1 := by rw [hE2, Nat.sub_self]; rfl
        refine lv_iload_n hx hb dMd_same_229 rfl (lv_at hl 1 rfl) ?_
        have hP9 : va_P (dC, dI) vwCl (wM y y1 y2 y3 y4 y5 y6 y7 y8 y9 y10 cI (va_up mi 0 0) ma) H := by exact hP
        have hD9 : va_D A (wM y y1 y2 y3 y4 y5 y6 y7 y8 y9 y10 cI (va_up mi 0 0) ma) := by exact hD
        exact W.zret (v := 1) (ty := .boolean) hx hb hr rfl (fun t ht hW => ⟨⟨1, (), rfl, by unfold m_sm; rw [if_pos hAB, hQ, if_neg (by decide), hW1], by rw [ht]; exact hP9, va_K.moved hW.alike hK, hD9⟩, hS.F ht⟩) hS.2.2 dMd_same_230
      · skip
        have hi0 : i0 < v + 1 := by rcases Nat.lt_or_ge v i0 with q | q; exact absurd ((sx_lt hn (by omega) (by omega)).mpr q) c_11; omega
        rw [show v + 1 - i0 = (v + 1 - (i0 + 1)) + 1 by omega] at hE2
        refine lv_iload_n hx hb dMd_same_196 rfl (lv_at hl 1 rfl) ?_
        refine lv_if_eq (tgt := 229) hx hb dMd_same_197 (by decide) (fun c_12 => absurd c_12 (by decide)) (fun _ => ?_)
        refine lv_aload_n hx hb dMd_same_200 rfl (lv_at hl 2 rfl) ?_
        refine lv_iload_n hx hb dMd_same_201 rfl (lv_at hl 3 rfl) ?_
        refine lv_iload hx hb dMd_same_202 (lv_at hl 0 rfl) ?_
        have hPc := hP.sub (ws' := (wM y y1 y2 y3 y4 y5 y6 y7 y8 y9 y10 cI (va_up mi 0 0) ma)) [0, 1, 2, 3, 4, 5, 6, 7, 8, 9, 10] rfl
        have hKc := hK.sub (tys' := [(cI, .int)]) [0] rfl
        refine vp_callSi (W.runV (As := [.int (nI a), .int (nI n - nI i0)]) (rest := []) ⟨hx, hb, hml, hown, hts⟩ (k_M_since0 l dC dI y y1 y2 y3 y4 y5 y6 y7 y8 y9 y10 cI (va_up mi 0 0) ma a n ha4 hn hix (n - i0 + 1) (by omega) (nI n - nI i0) (sx_0 hn (by omega)) (sx_1 hn (by omega))) (cwV 2 hts (gd_V in_87 in_89 in_90 in_74 in_88) rfl rfl rfl (by decide +kernel) ⟨Nat.le_of_ble_eq_true rfl, Nat.le_of_ble_eq_true rfl⟩) ⟨fun a U g mk q => by obtain ⟨q0, qP, qK⟩ := q; exact ⟨q0, qP, va_K.moved (u := U) (U := U.calling g mk a) (Vm.Alike.refl U.vm) qK⟩, va_recv hKc hPc (ci := 3) (q0 := 0) rfl rfl, fun U hU hW => ⟨rfl, by rw [hU]; exact hPc, va_K.moved hW.alike hKc⟩⟩ rfl rfl hl.1 rfl (lv_room (Nat.le_of_ble_eq_true rfl)) dMd_same_204 ⟨Nat.le_of_ble_eq_true rfl, Nat.le_of_ble_eq_true rfl⟩) (fun r_13 er_14 => ?_)
        subst er_14
        refine lv_aload_n hx hb dMd_same_207 rfl (lv_at hl 2 rfl) ?_
        refine lv_iload_n hx hb dMd_same_208 rfl (lv_at hl 4 rfl) ?_
        refine lv_iload hx hb dMd_same_209 (lv_at hl 0 rfl) ?_
        have hPc := hP.sub (ws' := (wM y y1 y2 y3 y4 y5 y6 y7 y8 y9 y10 cI (va_up mi 0 0) ma)) [0, 1, 2, 3, 4, 5, 6, 7, 8, 9, 10] rfl
        have hKc := hK.sub (tys' := [(cI, .int)]) [0] rfl
        refine vp_callSi (W.runV (As := [.int (nI b), .int (nI n - nI i0)]) (rest := [.int (m_ws (ma 7) (64 * a) (n - i0 + 1) (n + 1 - (n - i0 + 1)))]) ⟨hx, hb, hml, hown, hts⟩ (k_M_since0 l dC dI y y1 y2 y3 y4 y5 y6 y7 y8 y9 y10 cI (va_up mi 0 0) ma b n hb4 hn hixb (n - i0 + 1) (by omega) (nI n - nI i0) (sx_0 hn (by omega)) (sx_1 hn (by omega))) (cwV 2 hts (gd_V in_87 in_89 in_90 in_74 in_88) rfl rfl rfl (by decide +kernel) ⟨Nat.le_of_ble_eq_true rfl, Nat.le_of_ble_eq_true rfl⟩) ⟨fun a U g mk q => by obtain ⟨q0, qP, qK⟩ := q; exact ⟨q0, qP, va_K.moved (u := U) (U := U.calling g mk a) (Vm.Alike.refl U.vm) qK⟩, va_recv hKc hPc (ci := 3) (q0 := 0) rfl rfl, fun U hU hW => ⟨rfl, by rw [hU]; exact hPc, va_K.moved hW.alike hKc⟩⟩ rfl rfl hl.1 rfl (lv_room (Nat.le_of_ble_eq_true rfl)) dMd_same_211 ⟨Nat.le_of_ble_eq_true rfl, Nat.le_of_ble_eq_true rfl⟩) (fun r_15 er_16 => ?_)
        subst er_16
        refine lv_icmp_ne (tgt := 221) hx hb dMd_same_214 (by decide) (fun c_17 => ?_) (fun c_17 => ?_)
        · skip
          have hW0 : m_sw (ma 7) a b n (v + 1) 0 = 0 := by rw [hE2]; simp only [m_sw, if_pos hAB, if_neg c_17]
          refine lv_iconst (v := 0) hx hb dMd_same_221 (by decide) ?_
          refine lv_istore_n (lv' := [(3, .int 0), (4, .int (nI n - nI i0)), (0, .ref y), (1, .int (nI a)), (2, .int (nI b))]) hx hb dMd_same_222 rfl hl (by decide) rfl (fun ls hl => ?_)
          refine lv_iinc (v := nI n - nI (i0 + 1)) (lv' := [(4, .int (nI n - nI (i0 + 1))), (3, .int 0), (0, .ref y), (1, .int (nI a)), (2, .int (nI b))]) hx hb dMd_same_223 hl (k := 1) rfl (sx_s n i0) (by decide) rfl (fun ls hl => ?_)
          refine lv_goto (tgt := 180) hx hb dMd_same_226 (by decide) ?_
          refine lv_iload hx hb dMd_same_180 (lv_at hl 0 rfl) ?_
          refine lv_aload_n hx hb dMd_same_182 rfl (lv_at hl 2 rfl) ?_
          refine va_get (D := (dC, dI)) (ci := 3) (v := .ref y1) (C := RMd) (T := TMd) (N := 17) hx hb hts inMd hown hK hP 0 rfl rfl 2 (by decide) (hts _ in_82) (fun _ h9 => h9) rfl dMd_same_183 ?_
          refine lv_iload_n hx hb dMd_same_186 rfl (lv_at hl 3 rfl) ?_
          refine vq_iald (k := a) (f := ma 0) hx hb hK hP 1 0 rfl rfl rfl (by omega) (by decide) dMd_same_187 ?_
          refine lv_ri (y := nI n) hix ?_
          refine lv_aload_n hx hb dMd_same_188 rfl (lv_at hl 2 rfl) ?_
          refine va_get (D := (dC, dI)) (ci := 3) (v := .int (mi 1)) (C := RMd) (T := TMd) (N := 17) hx hb hts inMd hown hK hP 0 rfl rfl 1 (by decide) (hts _ in_86) (fun _ h9 => h9) rfl dMd_same_189 ?_
          refine lv_ri (y := nI v) hver ?_
          refine lv_isub hx hb dMd_same_192 ?_
          refine lv_icmp_lt (tgt := 229) hx hb dMd_same_193 (by decide) (fun c_18 => ?_) (fun c_18 => ?_)
          · skip
            refine lv_iload_n hx hb dMd_same_229 rfl (lv_at hl 1 rfl) ?_
            have hP9 : va_P (dC, dI) vwCl (wM y y1 y2 y3 y4 y5 y6 y7 y8 y9 y10 cI (va_up mi 0 0) ma) H := by exact hP
            have hD9 : va_D A (wM y y1 y2 y3 y4 y5 y6 y7 y8 y9 y10 cI (va_up mi 0 0) ma) := by exact hD
            exact W.zret (v := 0) (ty := .boolean) hx hb hr rfl (fun t ht hW => ⟨⟨0, (), rfl, by unfold m_sm; rw [if_pos hAB, hQ, if_neg (by decide), hW0], by rw [ht]; exact hP9, va_K.moved hW.alike hK, hD9⟩, hS.F ht⟩) hS.2.2 dMd_same_230
          · skip
            refine lv_iload_n hx hb dMd_same_196 rfl (lv_at hl 1 rfl) ?_
            refine lv_if_eq (tgt := 229) hx hb dMd_same_197 (by decide) (fun _ => ?_) (fun c_19 => absurd c_19 (by decide))
            refine lv_iload_n hx hb dMd_same_229 rfl (lv_at hl 1 rfl) ?_
            have hP9 : va_P (dC, dI) vwCl (wM y y1 y2 y3 y4 y5 y6 y7 y8 y9 y10 cI (va_up mi 0 0) ma) H := by exact hP
            have hD9 : va_D A (wM y y1 y2 y3 y4 y5 y6 y7 y8 y9 y10 cI (va_up mi 0 0) ma) := by exact hD
            exact W.zret (v := 0) (ty := .boolean) hx hb hr rfl (fun t ht hW => ⟨⟨0, (), rfl, by unfold m_sm; rw [if_pos hAB, hQ, if_neg (by decide), hW0], by rw [ht]; exact hP9, va_K.moved hW.alike hK, hD9⟩, hS.F ht⟩) hS.2.2 dMd_same_230
        · skip
          refine lv_iconst (v := 1) hx hb dMd_same_217 (by decide) ?_
          refine lv_goto (tgt := 222) hx hb dMd_same_218 (by decide) ?_
          refine lv_istore_n (lv' := [(3, .int 1), (4, .int (nI n - nI i0)), (0, .ref y), (1, .int (nI a)), (2, .int (nI b))]) hx hb dMd_same_222 rfl hl (by decide) rfl (fun ls hl => ?_)
          refine lv_iinc (v := nI n - nI (i0 + 1)) (lv' := [(4, .int (nI n - nI (i0 + 1))), (3, .int 1), (0, .ref y), (1, .int (nI a)), (2, .int (nI b))]) hx hb dMd_same_223 hl (k := 1) rfl (sx_s n i0) (by decide) rfl (fun ls hl => ?_)
          refine lv_goto (tgt := 180) hx hb dMd_same_226 (by decide) ?_
          have hE9 : m_sw (ma 7) a b n (v + 1) 0 = m_sw (ma 7) a b n (v + 1 - (i0 + 1)) (i0 + 1) := by rw [hE2]; simp only [m_sw, if_pos hAB, if_pos c_17]
          exact ih (i0 + 1, ls) ⟨by omega, hE9, lv_sub hl [0, 1, 2, 3, 4] rfl⟩ (by show v + 1 - (i0 + 1) < v + 1 - i0; omega)
    · skip
      have hj : j < 16 := lp_c (by decide) hj c_10
      rw [show 16 - j = (16 - (j + 1)) + 1 by omega] at hE
      refine lv_iload_n hx hb dMd_same_49 rfl (lv_at hl 1 rfl) ?_
      refine lv_if_eq (tgt := 172) hx hb dMd_same_50 (by decide) (fun c_20 => absurd c_20 (by decide)) (fun _ => ?_)
      refine lv_aload_n hx hb dMd_same_53 rfl (lv_at hl 2 rfl) ?_
      refine va_get (D := (dC, dI)) (ci := 3) (v := .ref y6) (C := RMd) (T := TMd) (N := 17) hx hb hts inMd hown hK hP 0 rfl rfl 7 (by decide) (hts _ in_85) (fun _ h9 => h9) rfl dMd_same_54 ?_
      refine lv_bipush (v := nI 16) hx hb dMd_same_57 (by decide) ?_
      refine lv_iload_n hx hb dMd_same_59 rfl (lv_at hl 3 rfl) ?_
      refine lv_imul hx hb dMd_same_60 ?_
      refine lv_ri (y := nI (16 * a)) (pk_mul _ _) ?_
      refine lv_iload hx hb dMd_same_61 (lv_at hl 0 rfl) ?_
      refine lv_iadd hx hb dMd_same_63 ?_
      refine lv_ri (y := nI ((16 * a) + j)) (nI_add _ _) ?_
      refine vq_iald (k := ((16 * a) + j)) (f := ma 5) hx hb hK hP 6 0 rfl rfl rfl (by omega) (by decide) dMd_same_64 ?_
      refine lv_aload_n hx hb dMd_same_65 rfl (lv_at hl 2 rfl) ?_
      refine va_get (D := (dC, dI)) (ci := 3) (v := .ref y6) (C := RMd) (T := TMd) (N := 17) hx hb hts inMd hown hK hP 0 rfl rfl 7 (by decide) (hts _ in_85) (fun _ h9 => h9) rfl dMd_same_66 ?_
      refine lv_bipush (v := nI 16) hx hb dMd_same_69 (by decide) ?_
      refine lv_iload_n hx hb dMd_same_71 rfl (lv_at hl 4 rfl) ?_
      refine lv_imul hx hb dMd_same_72 ?_
      refine lv_ri (y := nI (16 * b)) (pk_mul _ _) ?_
      refine lv_iload hx hb dMd_same_73 (lv_at hl 0 rfl) ?_
      refine lv_iadd hx hb dMd_same_75 ?_
      refine lv_ri (y := nI ((16 * b) + j)) (nI_add _ _) ?_
      refine vq_iald (k := ((16 * b) + j)) (f := ma 5) hx hb hK hP 6 0 rfl rfl rfl (by omega) (by decide) dMd_same_76 ?_
      refine lv_icmp_ne (tgt := 164) hx hb dMd_same_77 (by decide) (fun c_21 => ?_) (fun c_21 => ?_)
      · skip
        have hQ0 : m_sq (ma 5) (ma 6) (ma 8) a b (64 * a + n % 64) (64 * b + n % 64) 16 0 = 0 := by rw [hE]; simp only [m_sq, if_pos hAB, if_neg c_21]
        refine lv_iconst (v := 0) hx hb dMd_same_164 (by decide) ?_
        refine lv_istore_n (lv' := [(3, .int 0), (4, .int (nI j)), (0, .ref y), (1, .int (nI a)), (2, .int (nI b))]) hx hb dMd_same_165 rfl hl (by decide) rfl (fun ls hl => ?_)
        refine lv_iinc (v := nI (j + 1)) (lv' := [(4, .int (nI (j + 1))), (3, .int 0), (0, .ref y), (1, .int (nI a)), (2, .int (nI b))]) hx hb dMd_same_166 hl (k := 1) rfl (by first | exact nI_1 _ | (show _ + (1 : Int32) = _; exact nI_1 _)) (by decide) rfl (fun ls hl => ?_)
        refine lv_goto (tgt := 42) hx hb dMd_same_169 (by decide) ?_
        refine lv_iload hx hb dMd_same_42 (lv_at hl 0 rfl) ?_
        refine lv_bipush (v := nI 16) hx hb dMd_same_44 (by decide) ?_
        refine lv_icmp_ge (tgt := 172) hx hb dMd_same_46 (by decide) (fun c_22 => ?_) (fun c_22 => ?_)
        · skip
          refine lv_aload_n hx hb dMd_same_172 rfl (lv_at hl 2 rfl) ?_
          refine va_get (D := (dC, dI)) (ci := 3) (v := .ref y1) (C := RMd) (T := TMd) (N := 17) hx hb hts inMd hown hK hP 0 rfl rfl 2 (by decide) (hts _ in_82) (fun _ h9 => h9) rfl dMd_same_173 ?_
          refine lv_iload_n hx hb dMd_same_176 rfl (lv_at hl 3 rfl) ?_
          refine vq_iald (k := a) (f := ma 0) hx hb hK hP 1 0 rfl rfl rfl (by omega) (by decide) dMd_same_177 ?_
          refine lv_ri (y := nI n) hix ?_
          refine lv_istore (lv' := [(4, .int (nI n)), (3, .int 0), (0, .ref y), (1, .int (nI a)), (2, .int (nI b))]) hx hb dMd_same_178 hl (by decide) rfl (fun ls hl => ?_)
          refine lv_iload hx hb dMd_same_180 (lv_at hl 0 rfl) ?_
          refine lv_aload_n hx hb dMd_same_182 rfl (lv_at hl 2 rfl) ?_
          refine va_get (D := (dC, dI)) (ci := 3) (v := .ref y1) (C := RMd) (T := TMd) (N := 17) hx hb hts inMd hown hK hP 0 rfl rfl 2 (by decide) (hts _ in_82) (fun _ h9 => h9) rfl dMd_same_183 ?_
          refine lv_iload_n hx hb dMd_same_186 rfl (lv_at hl 3 rfl) ?_
          refine vq_iald (k := a) (f := ma 0) hx hb hK hP 1 0 rfl rfl rfl (by omega) (by decide) dMd_same_187 ?_
          refine lv_ri (y := nI n) hix ?_
          refine lv_aload_n hx hb dMd_same_188 rfl (lv_at hl 2 rfl) ?_
          refine va_get (D := (dC, dI)) (ci := 3) (v := .int (mi 1)) (C := RMd) (T := TMd) (N := 17) hx hb hts inMd hown hK hP 0 rfl rfl 1 (by decide) (hts _ in_86) (fun _ h9 => h9) rfl dMd_same_189 ?_
          refine lv_ri (y := nI v) hver ?_
          refine lv_isub hx hb dMd_same_192 ?_
          refine lv_icmp_lt (tgt := 229) hx hb dMd_same_193 (by decide) (fun c_23 => ?_) (fun c_23 => ?_)
          · skip
            refine lv_iload_n hx hb dMd_same_229 rfl (lv_at hl 1 rfl) ?_
            have hP9 : va_P (dC, dI) vwCl (wM y y1 y2 y3 y4 y5 y6 y7 y8 y9 y10 cI (va_up mi 0 0) ma) H := by exact hP
            have hD9 : va_D A (wM y y1 y2 y3 y4 y5 y6 y7 y8 y9 y10 cI (va_up mi 0 0) ma) := by exact hD
            exact W.zret (v := 0) (ty := .boolean) hx hb hr rfl (fun t ht hW => ⟨⟨0, (), rfl, by unfold m_sm; rw [if_pos hAB, if_pos hQ0], by rw [ht]; exact hP9, va_K.moved hW.alike hK, hD9⟩, hS.F ht⟩) hS.2.2 dMd_same_230
          · skip
            refine lv_iload_n hx hb dMd_same_196 rfl (lv_at hl 1 rfl) ?_
            refine lv_if_eq (tgt := 229) hx hb dMd_same_197 (by decide) (fun _ => ?_) (fun c_24 => absurd c_24 (by decide))
            refine lv_iload_n hx hb dMd_same_229 rfl (lv_at hl 1 rfl) ?_
            have hP9 : va_P (dC, dI) vwCl (wM y y1 y2 y3 y4 y5 y6 y7 y8 y9 y10 cI (va_up mi 0 0) ma) H := by exact hP
            have hD9 : va_D A (wM y y1 y2 y3 y4 y5 y6 y7 y8 y9 y10 cI (va_up mi 0 0) ma) := by exact hD
            exact W.zret (v := 0) (ty := .boolean) hx hb hr rfl (fun t ht hW => ⟨⟨0, (), rfl, by unfold m_sm; rw [if_pos hAB, if_pos hQ0], by rw [ht]; exact hP9, va_K.moved hW.alike hK, hD9⟩, hS.F ht⟩) hS.2.2 dMd_same_230
        · skip
          refine lv_iload_n hx hb dMd_same_49 rfl (lv_at hl 1 rfl) ?_
          refine lv_if_eq (tgt := 172) hx hb dMd_same_50 (by decide) (fun _ => ?_) (fun c_25 => absurd c_25 (by decide))
          refine lv_aload_n hx hb dMd_same_172 rfl (lv_at hl 2 rfl) ?_
          refine va_get (D := (dC, dI)) (ci := 3) (v := .ref y1) (C := RMd) (T := TMd) (N := 17) hx hb hts inMd hown hK hP 0 rfl rfl 2 (by decide) (hts _ in_82) (fun _ h9 => h9) rfl dMd_same_173 ?_
          refine lv_iload_n hx hb dMd_same_176 rfl (lv_at hl 3 rfl) ?_
          refine vq_iald (k := a) (f := ma 0) hx hb hK hP 1 0 rfl rfl rfl (by omega) (by decide) dMd_same_177 ?_
          refine lv_ri (y := nI n) hix ?_
          refine lv_istore (lv' := [(4, .int (nI n)), (3, .int 0), (0, .ref y), (1, .int (nI a)), (2, .int (nI b))]) hx hb dMd_same_178 hl (by decide) rfl (fun ls hl => ?_)
          refine lv_iload hx hb dMd_same_180 (lv_at hl 0 rfl) ?_
          refine lv_aload_n hx hb dMd_same_182 rfl (lv_at hl 2 rfl) ?_
          refine va_get (D := (dC, dI)) (ci := 3) (v := .ref y1) (C := RMd) (T := TMd) (N := 17) hx hb hts inMd hown hK hP 0 rfl rfl 2 (by decide) (hts _ in_82) (fun _ h9 => h9) rfl dMd_same_183 ?_
          refine lv_iload_n hx hb dMd_same_186 rfl (lv_at hl 3 rfl) ?_
          refine vq_iald (k := a) (f := ma 0) hx hb hK hP 1 0 rfl rfl rfl (by omega) (by decide) dMd_same_187 ?_
          refine lv_ri (y := nI n) hix ?_
          refine lv_aload_n hx hb dMd_same_188 rfl (lv_at hl 2 rfl) ?_
          refine va_get (D := (dC, dI)) (ci := 3) (v := .int (mi 1)) (C := RMd) (T := TMd) (N := 17) hx hb hts inMd hown hK hP 0 rfl rfl 1 (by decide) (hts _ in_86) (fun _ h9 => h9) rfl dMd_same_189 ?_
          refine lv_ri (y := nI v) hver ?_
          refine lv_isub hx hb dMd_same_192 ?_
          refine lv_icmp_lt (tgt := 229) hx hb dMd_same_193 (by decide) (fun c_26 => ?_) (fun c_26 => ?_)
          · skip
            refine lv_iload_n hx hb dMd_same_229 rfl (lv_at hl 1 rfl) ?_
            have hP9 : va_P (dC, dI) vwCl (wM y y1 y2 y3 y4 y5 y6 y7 y8 y9 y10 cI (va_up mi 0 0) ma) H := by exact hP
            have hD9 : va_D A (wM y y1 y2 y3 y4 y5 y6 y7 y8 y9 y10 cI (va_up mi 0 0) ma) := by exact hD
            exact W.zret (v := 0) (ty := .boolean) hx hb hr rfl (fun t ht hW => ⟨⟨0, (), rfl, by unfold m_sm; rw [if_pos hAB, if_pos hQ0], by rw [ht]; exact hP9, va_K.moved hW.alike hK, hD9⟩, hS.F ht⟩) hS.2.2 dMd_same_230
          · skip
            refine lv_iload_n hx hb dMd_same_196 rfl (lv_at hl 1 rfl) ?_
            refine lv_if_eq (tgt := 229) hx hb dMd_same_197 (by decide) (fun _ => ?_) (fun c_27 => absurd c_27 (by decide))
            refine lv_iload_n hx hb dMd_same_229 rfl (lv_at hl 1 rfl) ?_
            have hP9 : va_P (dC, dI) vwCl (wM y y1 y2 y3 y4 y5 y6 y7 y8 y9 y10 cI (va_up mi 0 0) ma) H := by exact hP
            have hD9 : va_D A (wM y y1 y2 y3 y4 y5 y6 y7 y8 y9 y10 cI (va_up mi 0 0) ma) := by exact hD
            exact W.zret (v := 0) (ty := .boolean) hx hb hr rfl (fun t ht hW => ⟨⟨0, (), rfl, by unfold m_sm; rw [if_pos hAB, if_pos hQ0], by rw [ht]; exact hP9, va_K.moved hW.alike hK, hD9⟩, hS.F ht⟩) hS.2.2 dMd_same_230
      · skip
        refine lv_aload_n hx hb dMd_same_80 rfl (lv_at hl 2 rfl) ?_
        refine va_get (D := (dC, dI)) (ci := 3) (v := .ref y7) (C := RMd) (T := TMd) (N := 17) hx hb hts inMd hown hK hP 0 rfl rfl 8 (by decide) (hts _ in_104) (fun _ h9 => h9) rfl dMd_same_81 ?_
        refine lv_bipush (v := nI 16) hx hb dMd_same_84 (by decide) ?_
        refine lv_iload_n hx hb dMd_same_86 rfl (lv_at hl 3 rfl) ?_
        refine lv_imul hx hb dMd_same_87 ?_
        refine lv_ri (y := nI (16 * a)) (pk_mul _ _) ?_
        refine lv_iload hx hb dMd_same_88 (lv_at hl 0 rfl) ?_
        refine lv_iadd hx hb dMd_same_90 ?_
        refine lv_ri (y := nI ((16 * a) + j)) (nI_add _ _) ?_
        refine vq_iald (k := ((16 * a) + j)) (f := ma 6) hx hb hK hP 7 0 rfl rfl rfl (by omega) (by decide) dMd_same_91 ?_
        refine lv_aload_n hx hb dMd_same_92 rfl (lv_at hl 2 rfl) ?_
        refine va_get (D := (dC, dI)) (ci := 3) (v := .ref y7) (C := RMd) (T := TMd) (N := 17) hx hb hts inMd hown hK hP 0 rfl rfl 8 (by decide) (hts _ in_104) (fun _ h9 => h9) rfl dMd_same_93 ?_
        refine lv_bipush (v := nI 16) hx hb dMd_same_96 (by decide) ?_
        refine lv_iload_n hx hb dMd_same_98 rfl (lv_at hl 4 rfl) ?_
        refine lv_imul hx hb dMd_same_99 ?_
        refine lv_ri (y := nI (16 * b)) (pk_mul _ _) ?_
        refine lv_iload hx hb dMd_same_100 (lv_at hl 0 rfl) ?_
        refine lv_iadd hx hb dMd_same_102 ?_
        refine lv_ri (y := nI ((16 * b) + j)) (nI_add _ _) ?_
        refine vq_iald (k := ((16 * b) + j)) (f := ma 6) hx hb hK hP 7 0 rfl rfl rfl (by omega) (by decide) dMd_same_103 ?_
        refine lv_icmp_ne (tgt := 164) hx hb dMd_same_104 (by decide) (fun c_28 => ?_) (fun c_28 => ?_)
        · skip
          have hQ0 : m_sq (ma 5) (ma 6) (ma 8) a b (64 * a + n % 64) (64 * b + n % 64) 16 0 = 0 := by rw [hE]; simp only [m_sq, if_pos hAB, if_pos c_21, if_neg c_28]
          refine lv_iconst (v := 0) hx hb dMd_same_164 (by decide) ?_
          refine lv_istore_n (lv' := [(3, .int 0), (4, .int (nI j)), (0, .ref y), (1, .int (nI a)), (2, .int (nI b))]) hx hb dMd_same_165 rfl hl (by decide) rfl (fun ls hl => ?_)
          refine lv_iinc (v := nI (j + 1)) (lv' := [(4, .int (nI (j + 1))), (3, .int 0), (0, .ref y), (1, .int (nI a)), (2, .int (nI b))]) hx hb dMd_same_166 hl (k := 1) rfl (by first | exact nI_1 _ | (show _ + (1 : Int32) = _; exact nI_1 _)) (by decide) rfl (fun ls hl => ?_)
          refine lv_goto (tgt := 42) hx hb dMd_same_169 (by decide) ?_
          refine lv_iload hx hb dMd_same_42 (lv_at hl 0 rfl) ?_
          refine lv_bipush (v := nI 16) hx hb dMd_same_44 (by decide) ?_
          refine lv_icmp_ge (tgt := 172) hx hb dMd_same_46 (by decide) (fun c_29 => ?_) (fun c_29 => ?_)
          · skip
            refine lv_aload_n hx hb dMd_same_172 rfl (lv_at hl 2 rfl) ?_
            refine va_get (D := (dC, dI)) (ci := 3) (v := .ref y1) (C := RMd) (T := TMd) (N := 17) hx hb hts inMd hown hK hP 0 rfl rfl 2 (by decide) (hts _ in_82) (fun _ h9 => h9) rfl dMd_same_173 ?_
            refine lv_iload_n hx hb dMd_same_176 rfl (lv_at hl 3 rfl) ?_
            refine vq_iald (k := a) (f := ma 0) hx hb hK hP 1 0 rfl rfl rfl (by omega) (by decide) dMd_same_177 ?_
            refine lv_ri (y := nI n) hix ?_
            refine lv_istore (lv' := [(4, .int (nI n)), (3, .int 0), (0, .ref y), (1, .int (nI a)), (2, .int (nI b))]) hx hb dMd_same_178 hl (by decide) rfl (fun ls hl => ?_)
            refine lv_iload hx hb dMd_same_180 (lv_at hl 0 rfl) ?_
            refine lv_aload_n hx hb dMd_same_182 rfl (lv_at hl 2 rfl) ?_
            refine va_get (D := (dC, dI)) (ci := 3) (v := .ref y1) (C := RMd) (T := TMd) (N := 17) hx hb hts inMd hown hK hP 0 rfl rfl 2 (by decide) (hts _ in_82) (fun _ h9 => h9) rfl dMd_same_183 ?_
            refine lv_iload_n hx hb dMd_same_186 rfl (lv_at hl 3 rfl) ?_
            refine vq_iald (k := a) (f := ma 0) hx hb hK hP 1 0 rfl rfl rfl (by omega) (by decide) dMd_same_187 ?_
            refine lv_ri (y := nI n) hix ?_
            refine lv_aload_n hx hb dMd_same_188 rfl (lv_at hl 2 rfl) ?_
            refine va_get (D := (dC, dI)) (ci := 3) (v := .int (mi 1)) (C := RMd) (T := TMd) (N := 17) hx hb hts inMd hown hK hP 0 rfl rfl 1 (by decide) (hts _ in_86) (fun _ h9 => h9) rfl dMd_same_189 ?_
            refine lv_ri (y := nI v) hver ?_
            refine lv_isub hx hb dMd_same_192 ?_
            refine lv_icmp_lt (tgt := 229) hx hb dMd_same_193 (by decide) (fun c_30 => ?_) (fun c_30 => ?_)
            · skip
              refine lv_iload_n hx hb dMd_same_229 rfl (lv_at hl 1 rfl) ?_
              have hP9 : va_P (dC, dI) vwCl (wM y y1 y2 y3 y4 y5 y6 y7 y8 y9 y10 cI (va_up mi 0 0) ma) H := by exact hP
              have hD9 : va_D A (wM y y1 y2 y3 y4 y5 y6 y7 y8 y9 y10 cI (va_up mi 0 0) ma) := by exact hD
              exact W.zret (v := 0) (ty := .boolean) hx hb hr rfl (fun t ht hW => ⟨⟨0, (), rfl, by unfold m_sm; rw [if_pos hAB, if_pos hQ0], by rw [ht]; exact hP9, va_K.moved hW.alike hK, hD9⟩, hS.F ht⟩) hS.2.2 dMd_same_230
            · skip
              refine lv_iload_n hx hb dMd_same_196 rfl (lv_at hl 1 rfl) ?_
              refine lv_if_eq (tgt := 229) hx hb dMd_same_197 (by decide) (fun _ => ?_) (fun c_31 => absurd c_31 (by decide))
              refine lv_iload_n hx hb dMd_same_229 rfl (lv_at hl 1 rfl) ?_
              have hP9 : va_P (dC, dI) vwCl (wM y y1 y2 y3 y4 y5 y6 y7 y8 y9 y10 cI (va_up mi 0 0) ma) H := by exact hP
              have hD9 : va_D A (wM y y1 y2 y3 y4 y5 y6 y7 y8 y9 y10 cI (va_up mi 0 0) ma) := by exact hD
              exact W.zret (v := 0) (ty := .boolean) hx hb hr rfl (fun t ht hW => ⟨⟨0, (), rfl, by unfold m_sm; rw [if_pos hAB, if_pos hQ0], by rw [ht]; exact hP9, va_K.moved hW.alike hK, hD9⟩, hS.F ht⟩) hS.2.2 dMd_same_230
          · skip
            refine lv_iload_n hx hb dMd_same_49 rfl (lv_at hl 1 rfl) ?_
            refine lv_if_eq (tgt := 172) hx hb dMd_same_50 (by decide) (fun _ => ?_) (fun c_32 => absurd c_32 (by decide))
            refine lv_aload_n hx hb dMd_same_172 rfl (lv_at hl 2 rfl) ?_
            refine va_get (D := (dC, dI)) (ci := 3) (v := .ref y1) (C := RMd) (T := TMd) (N := 17) hx hb hts inMd hown hK hP 0 rfl rfl 2 (by decide) (hts _ in_82) (fun _ h9 => h9) rfl dMd_same_173 ?_
            refine lv_iload_n hx hb dMd_same_176 rfl (lv_at hl 3 rfl) ?_
            refine vq_iald (k := a) (f := ma 0) hx hb hK hP 1 0 rfl rfl rfl (by omega) (by decide) dMd_same_177 ?_
            refine lv_ri (y := nI n) hix ?_
            refine lv_istore (lv' := [(4, .int (nI n)), (3, .int 0), (0, .ref y), (1, .int (nI a)), (2, .int (nI b))]) hx hb dMd_same_178 hl (by decide) rfl (fun ls hl => ?_)
            refine lv_iload hx hb dMd_same_180 (lv_at hl 0 rfl) ?_
            refine lv_aload_n hx hb dMd_same_182 rfl (lv_at hl 2 rfl) ?_
            refine va_get (D := (dC, dI)) (ci := 3) (v := .ref y1) (C := RMd) (T := TMd) (N := 17) hx hb hts inMd hown hK hP 0 rfl rfl 2 (by decide) (hts _ in_82) (fun _ h9 => h9) rfl dMd_same_183 ?_
            refine lv_iload_n hx hb dMd_same_186 rfl (lv_at hl 3 rfl) ?_
            refine vq_iald (k := a) (f := ma 0) hx hb hK hP 1 0 rfl rfl rfl (by omega) (by decide) dMd_same_187 ?_
            refine lv_ri (y := nI n) hix ?_
            refine lv_aload_n hx hb dMd_same_188 rfl (lv_at hl 2 rfl) ?_
            refine va_get (D := (dC, dI)) (ci := 3) (v := .int (mi 1)) (C := RMd) (T := TMd) (N := 17) hx hb hts inMd hown hK hP 0 rfl rfl 1 (by decide) (hts _ in_86) (fun _ h9 => h9) rfl dMd_same_189 ?_
            refine lv_ri (y := nI v) hver ?_
            refine lv_isub hx hb dMd_same_192 ?_
            refine lv_icmp_lt (tgt := 229) hx hb dMd_same_193 (by decide) (fun c_33 => ?_) (fun c_33 => ?_)
            · skip
              refine lv_iload_n hx hb dMd_same_229 rfl (lv_at hl 1 rfl) ?_
              have hP9 : va_P (dC, dI) vwCl (wM y y1 y2 y3 y4 y5 y6 y7 y8 y9 y10 cI (va_up mi 0 0) ma) H := by exact hP
              have hD9 : va_D A (wM y y1 y2 y3 y4 y5 y6 y7 y8 y9 y10 cI (va_up mi 0 0) ma) := by exact hD
              exact W.zret (v := 0) (ty := .boolean) hx hb hr rfl (fun t ht hW => ⟨⟨0, (), rfl, by unfold m_sm; rw [if_pos hAB, if_pos hQ0], by rw [ht]; exact hP9, va_K.moved hW.alike hK, hD9⟩, hS.F ht⟩) hS.2.2 dMd_same_230
            · skip
              refine lv_iload_n hx hb dMd_same_196 rfl (lv_at hl 1 rfl) ?_
              refine lv_if_eq (tgt := 229) hx hb dMd_same_197 (by decide) (fun _ => ?_) (fun c_34 => absurd c_34 (by decide))
              refine lv_iload_n hx hb dMd_same_229 rfl (lv_at hl 1 rfl) ?_
              have hP9 : va_P (dC, dI) vwCl (wM y y1 y2 y3 y4 y5 y6 y7 y8 y9 y10 cI (va_up mi 0 0) ma) H := by exact hP
              have hD9 : va_D A (wM y y1 y2 y3 y4 y5 y6 y7 y8 y9 y10 cI (va_up mi 0 0) ma) := by exact hD
              exact W.zret (v := 0) (ty := .boolean) hx hb hr rfl (fun t ht hW => ⟨⟨0, (), rfl, by unfold m_sm; rw [if_pos hAB, if_pos hQ0], by rw [ht]; exact hP9, va_K.moved hW.alike hK, hD9⟩, hS.F ht⟩) hS.2.2 dMd_same_230
        · skip
          refine lv_aload_n hx hb dMd_same_107 rfl (lv_at hl 2 rfl) ?_
          refine va_get (D := (dC, dI)) (ci := 3) (v := .ref y9) (C := RMd) (T := TMd) (N := 17) hx hb hts inMd hown hK hP 0 rfl rfl 10 (by decide) (hts _ in_103) (fun _ h9 => h9) rfl dMd_same_108 ?_
          refine lv_bipush (v := nI 16) hx hb dMd_same_111 (by decide) ?_
          refine lv_bipush (v := nI 64) hx hb dMd_same_113 (by decide) ?_
          refine lv_iload_n hx hb dMd_same_115 rfl (lv_at hl 3 rfl) ?_
          refine lv_imul hx hb dMd_same_116 ?_
          refine lv_ri (y := nI (64 * a)) (pk_mul _ _) ?_
          refine lv_aload_n hx hb dMd_same_117 rfl (lv_at hl 2 rfl) ?_
          refine va_get (D := (dC, dI)) (ci := 3) (v := .ref y1) (C := RMd) (T := TMd) (N := 17) hx hb hts inMd hown hK hP 0 rfl rfl 2 (by decide) (hts _ in_82) (fun _ h9 => h9) rfl dMd_same_118 ?_
          refine lv_iload_n hx hb dMd_same_121 rfl (lv_at hl 3 rfl) ?_
          refine vq_iald (k := a) (f := ma 0) hx hb hK hP 1 0 rfl rfl rfl (by omega) (by decide) dMd_same_122 ?_
          refine lv_ri (y := nI n) hix ?_
          refine lv_bipush (v := nI 64) hx hb dMd_same_123 (by decide) ?_
          refine lv_irem hx hb dMd_same_125 (by decide) ?_
          refine lv_ri (y := nI (n % 64)) (pk_rem (by omega) (by decide) (by decide)) ?_
          refine lv_iadd hx hb dMd_same_126 ?_
          refine lv_ri (y := nI ((64 * a) + (n % 64))) (nI_add _ _) ?_
          refine lv_imul hx hb dMd_same_127 ?_
          refine lv_ri (y := nI (16 * ((64 * a) + (n % 64)))) (pk_mul _ _) ?_
          refine lv_iload hx hb dMd_same_128 (lv_at hl 0 rfl) ?_
          refine lv_iadd hx hb dMd_same_130 ?_
          refine lv_ri (y := nI ((16 * ((64 * a) + (n % 64))) + j)) (nI_add _ _) ?_
          refine vq_iald (k := ((16 * ((64 * a) + (n % 64))) + j)) (f := ma 8) hx hb hK hP 9 0 rfl rfl rfl (by omega) (by decide) dMd_same_131 ?_
          refine lv_aload_n hx hb dMd_same_132 rfl (lv_at hl 2 rfl) ?_
          refine va_get (D := (dC, dI)) (ci := 3) (v := .ref y9) (C := RMd) (T := TMd) (N := 17) hx hb hts inMd hown hK hP 0 rfl rfl 10 (by decide) (hts _ in_103) (fun _ h9 => h9) rfl dMd_same_133 ?_
          refine lv_bipush (v := nI 16) hx hb dMd_same_136 (by decide) ?_
          refine lv_bipush (v := nI 64) hx hb dMd_same_138 (by decide) ?_
          refine lv_iload_n hx hb dMd_same_140 rfl (lv_at hl 4 rfl) ?_
          refine lv_imul hx hb dMd_same_141 ?_
          refine lv_ri (y := nI (64 * b)) (pk_mul _ _) ?_
          refine lv_aload_n hx hb dMd_same_142 rfl (lv_at hl 2 rfl) ?_
          refine va_get (D := (dC, dI)) (ci := 3) (v := .ref y1) (C := RMd) (T := TMd) (N := 17) hx hb hts inMd hown hK hP 0 rfl rfl 2 (by decide) (hts _ in_82) (fun _ h9 => h9) rfl dMd_same_143 ?_
          refine lv_iload_n hx hb dMd_same_146 rfl (lv_at hl 4 rfl) ?_
          refine vq_iald (k := b) (f := ma 0) hx hb hK hP 1 0 rfl rfl rfl (by omega) (by decide) dMd_same_147 ?_
          refine lv_ri (y := nI n) hixb ?_
          refine lv_bipush (v := nI 64) hx hb dMd_same_148 (by decide) ?_
          refine lv_irem hx hb dMd_same_150 (by decide) ?_
          refine lv_ri (y := nI (n % 64)) (pk_rem (by omega) (by decide) (by decide)) ?_
          refine lv_iadd hx hb dMd_same_151 ?_
          refine lv_ri (y := nI ((64 * b) + (n % 64))) (nI_add _ _) ?_
          refine lv_imul hx hb dMd_same_152 ?_
          refine lv_ri (y := nI (16 * ((64 * b) + (n % 64)))) (pk_mul _ _) ?_
          refine lv_iload hx hb dMd_same_153 (lv_at hl 0 rfl) ?_
          refine lv_iadd hx hb dMd_same_155 ?_
          refine lv_ri (y := nI ((16 * ((64 * b) + (n % 64))) + j)) (nI_add _ _) ?_
          refine vq_iald (k := ((16 * ((64 * b) + (n % 64))) + j)) (f := ma 8) hx hb hK hP 9 0 rfl rfl rfl (by omega) (by decide) dMd_same_156 ?_
          refine lv_icmp_ne (tgt := 164) hx hb dMd_same_157 (by decide) (fun c_35 => ?_) (fun c_35 => ?_)
          · skip
            have hQ0 : m_sq (ma 5) (ma 6) (ma 8) a b (64 * a + n % 64) (64 * b + n % 64) 16 0 = 0 := by rw [hE]; simp only [m_sq, if_pos hAB, if_pos c_21, if_pos c_28, if_neg c_35]
            refine lv_iconst (v := 0) hx hb dMd_same_164 (by decide) ?_
            refine lv_istore_n (lv' := [(3, .int 0), (4, .int (nI j)), (0, .ref y), (1, .int (nI a)), (2, .int (nI b))]) hx hb dMd_same_165 rfl hl (by decide) rfl (fun ls hl => ?_)
            refine lv_iinc (v := nI (j + 1)) (lv' := [(4, .int (nI (j + 1))), (3, .int 0), (0, .ref y), (1, .int (nI a)), (2, .int (nI b))]) hx hb dMd_same_166 hl (k := 1) rfl (by first | exact nI_1 _ | (show _ + (1 : Int32) = _; exact nI_1 _)) (by decide) rfl (fun ls hl => ?_)
            refine lv_goto (tgt := 42) hx hb dMd_same_169 (by decide) ?_
            refine lv_iload hx hb dMd_same_42 (lv_at hl 0 rfl) ?_
            refine lv_bipush (v := nI 16) hx hb dMd_same_44 (by decide) ?_
            refine lv_icmp_ge (tgt := 172) hx hb dMd_same_46 (by decide) (fun c_36 => ?_) (fun c_36 => ?_)
            · skip
              refine lv_aload_n hx hb dMd_same_172 rfl (lv_at hl 2 rfl) ?_
              refine va_get (D := (dC, dI)) (ci := 3) (v := .ref y1) (C := RMd) (T := TMd) (N := 17) hx hb hts inMd hown hK hP 0 rfl rfl 2 (by decide) (hts _ in_82) (fun _ h9 => h9) rfl dMd_same_173 ?_
              refine lv_iload_n hx hb dMd_same_176 rfl (lv_at hl 3 rfl) ?_
              refine vq_iald (k := a) (f := ma 0) hx hb hK hP 1 0 rfl rfl rfl (by omega) (by decide) dMd_same_177 ?_
              refine lv_ri (y := nI n) hix ?_
              refine lv_istore (lv' := [(4, .int (nI n)), (3, .int 0), (0, .ref y), (1, .int (nI a)), (2, .int (nI b))]) hx hb dMd_same_178 hl (by decide) rfl (fun ls hl => ?_)
              refine lv_iload hx hb dMd_same_180 (lv_at hl 0 rfl) ?_
              refine lv_aload_n hx hb dMd_same_182 rfl (lv_at hl 2 rfl) ?_
              refine va_get (D := (dC, dI)) (ci := 3) (v := .ref y1) (C := RMd) (T := TMd) (N := 17) hx hb hts inMd hown hK hP 0 rfl rfl 2 (by decide) (hts _ in_82) (fun _ h9 => h9) rfl dMd_same_183 ?_
              refine lv_iload_n hx hb dMd_same_186 rfl (lv_at hl 3 rfl) ?_
              refine vq_iald (k := a) (f := ma 0) hx hb hK hP 1 0 rfl rfl rfl (by omega) (by decide) dMd_same_187 ?_
              refine lv_ri (y := nI n) hix ?_
              refine lv_aload_n hx hb dMd_same_188 rfl (lv_at hl 2 rfl) ?_
              refine va_get (D := (dC, dI)) (ci := 3) (v := .int (mi 1)) (C := RMd) (T := TMd) (N := 17) hx hb hts inMd hown hK hP 0 rfl rfl 1 (by decide) (hts _ in_86) (fun _ h9 => h9) rfl dMd_same_189 ?_
              refine lv_ri (y := nI v) hver ?_
              refine lv_isub hx hb dMd_same_192 ?_
              refine lv_icmp_lt (tgt := 229) hx hb dMd_same_193 (by decide) (fun c_37 => ?_) (fun c_37 => ?_)
              · skip
                refine lv_iload_n hx hb dMd_same_229 rfl (lv_at hl 1 rfl) ?_
                have hP9 : va_P (dC, dI) vwCl (wM y y1 y2 y3 y4 y5 y6 y7 y8 y9 y10 cI (va_up mi 0 0) ma) H := by exact hP
                have hD9 : va_D A (wM y y1 y2 y3 y4 y5 y6 y7 y8 y9 y10 cI (va_up mi 0 0) ma) := by exact hD
                exact W.zret (v := 0) (ty := .boolean) hx hb hr rfl (fun t ht hW => ⟨⟨0, (), rfl, by unfold m_sm; rw [if_pos hAB, if_pos hQ0], by rw [ht]; exact hP9, va_K.moved hW.alike hK, hD9⟩, hS.F ht⟩) hS.2.2 dMd_same_230
              · skip
                refine lv_iload_n hx hb dMd_same_196 rfl (lv_at hl 1 rfl) ?_
                refine lv_if_eq (tgt := 229) hx hb dMd_same_197 (by decide) (fun _ => ?_) (fun c_38 => absurd c_38 (by decide))
                refine lv_iload_n hx hb dMd_same_229 rfl (lv_at hl 1 rfl) ?_
                have hP9 : va_P (dC, dI) vwCl (wM y y1 y2 y3 y4 y5 y6 y7 y8 y9 y10 cI (va_up mi 0 0) ma) H := by exact hP
                have hD9 : va_D A (wM y y1 y2 y3 y4 y5 y6 y7 y8 y9 y10 cI (va_up mi 0 0) ma) := by exact hD
                exact W.zret (v := 0) (ty := .boolean) hx hb hr rfl (fun t ht hW => ⟨⟨0, (), rfl, by unfold m_sm; rw [if_pos hAB, if_pos hQ0], by rw [ht]; exact hP9, va_K.moved hW.alike hK, hD9⟩, hS.F ht⟩) hS.2.2 dMd_same_230
            · skip
              refine lv_iload_n hx hb dMd_same_49 rfl (lv_at hl 1 rfl) ?_
              refine lv_if_eq (tgt := 172) hx hb dMd_same_50 (by decide) (fun _ => ?_) (fun c_39 => absurd c_39 (by decide))
              refine lv_aload_n hx hb dMd_same_172 rfl (lv_at hl 2 rfl) ?_
              refine va_get (D := (dC, dI)) (ci := 3) (v := .ref y1) (C := RMd) (T := TMd) (N := 17) hx hb hts inMd hown hK hP 0 rfl rfl 2 (by decide) (hts _ in_82) (fun _ h9 => h9) rfl dMd_same_173 ?_
              refine lv_iload_n hx hb dMd_same_176 rfl (lv_at hl 3 rfl) ?_
              refine vq_iald (k := a) (f := ma 0) hx hb hK hP 1 0 rfl rfl rfl (by omega) (by decide) dMd_same_177 ?_
              refine lv_ri (y := nI n) hix ?_
              refine lv_istore (lv' := [(4, .int (nI n)), (3, .int 0), (0, .ref y), (1, .int (nI a)), (2, .int (nI b))]) hx hb dMd_same_178 hl (by decide) rfl (fun ls hl => ?_)
              refine lv_iload hx hb dMd_same_180 (lv_at hl 0 rfl) ?_
              refine lv_aload_n hx hb dMd_same_182 rfl (lv_at hl 2 rfl) ?_
              refine va_get (D := (dC, dI)) (ci := 3) (v := .ref y1) (C := RMd) (T := TMd) (N := 17) hx hb hts inMd hown hK hP 0 rfl rfl 2 (by decide) (hts _ in_82) (fun _ h9 => h9) rfl dMd_same_183 ?_
              refine lv_iload_n hx hb dMd_same_186 rfl (lv_at hl 3 rfl) ?_
              refine vq_iald (k := a) (f := ma 0) hx hb hK hP 1 0 rfl rfl rfl (by omega) (by decide) dMd_same_187 ?_
              refine lv_ri (y := nI n) hix ?_
              refine lv_aload_n hx hb dMd_same_188 rfl (lv_at hl 2 rfl) ?_
              refine va_get (D := (dC, dI)) (ci := 3) (v := .int (mi 1)) (C := RMd) (T := TMd) (N := 17) hx hb hts inMd hown hK hP 0 rfl rfl 1 (by decide) (hts _ in_86) (fun _ h9 => h9) rfl dMd_same_189 ?_
              refine lv_ri (y := nI v) hver ?_
              refine lv_isub hx hb dMd_same_192 ?_
              refine lv_icmp_lt (tgt := 229) hx hb dMd_same_193 (by decide) (fun c_40 => ?_) (fun c_40 => ?_)
              · skip
                refine lv_iload_n hx hb dMd_same_229 rfl (lv_at hl 1 rfl) ?_
                have hP9 : va_P (dC, dI) vwCl (wM y y1 y2 y3 y4 y5 y6 y7 y8 y9 y10 cI (va_up mi 0 0) ma) H := by exact hP
                have hD9 : va_D A (wM y y1 y2 y3 y4 y5 y6 y7 y8 y9 y10 cI (va_up mi 0 0) ma) := by exact hD
                exact W.zret (v := 0) (ty := .boolean) hx hb hr rfl (fun t ht hW => ⟨⟨0, (), rfl, by unfold m_sm; rw [if_pos hAB, if_pos hQ0], by rw [ht]; exact hP9, va_K.moved hW.alike hK, hD9⟩, hS.F ht⟩) hS.2.2 dMd_same_230
              · skip
                refine lv_iload_n hx hb dMd_same_196 rfl (lv_at hl 1 rfl) ?_
                refine lv_if_eq (tgt := 229) hx hb dMd_same_197 (by decide) (fun _ => ?_) (fun c_41 => absurd c_41 (by decide))
                refine lv_iload_n hx hb dMd_same_229 rfl (lv_at hl 1 rfl) ?_
                have hP9 : va_P (dC, dI) vwCl (wM y y1 y2 y3 y4 y5 y6 y7 y8 y9 y10 cI (va_up mi 0 0) ma) H := by exact hP
                have hD9 : va_D A (wM y y1 y2 y3 y4 y5 y6 y7 y8 y9 y10 cI (va_up mi 0 0) ma) := by exact hD
                exact W.zret (v := 0) (ty := .boolean) hx hb hr rfl (fun t ht hW => ⟨⟨0, (), rfl, by unfold m_sm; rw [if_pos hAB, if_pos hQ0], by rw [ht]; exact hP9, va_K.moved hW.alike hK, hD9⟩, hS.F ht⟩) hS.2.2 dMd_same_230
          · skip
            refine lv_iconst (v := 1) hx hb dMd_same_160 (by decide) ?_
            refine lv_goto (tgt := 165) hx hb dMd_same_161 (by decide) ?_
            refine lv_istore_n (lv' := [(3, .int 1), (4, .int (nI j)), (0, .ref y), (1, .int (nI a)), (2, .int (nI b))]) hx hb dMd_same_165 rfl hl (by decide) rfl (fun ls hl => ?_)
            refine lv_iinc (v := nI (j + 1)) (lv' := [(4, .int (nI (j + 1))), (3, .int 1), (0, .ref y), (1, .int (nI a)), (2, .int (nI b))]) hx hb dMd_same_166 hl (k := 1) rfl (by first | exact nI_1 _ | (show _ + (1 : Int32) = _; exact nI_1 _)) (by decide) rfl (fun ls hl => ?_)
            refine lv_goto (tgt := 42) hx hb dMd_same_169 (by decide) ?_
            have hl9 : lv_has ls 5 [(4, .int (nI (j + 1))), (3, .int 1), (0, .ref y), (1, .int (nI a)), (2, .int (nI b))] := by first | exact lv_sub hl [0, 1, 2, 3, 4] rfl | (simp only [m_sq, if_pos hAB, if_pos c_21, if_pos c_28, if_pos c_35]; exact lv_sub hl [0, 1, 2, 3, 4] rfl)
            have hE9 : m_sq (ma 5) (ma 6) (ma 8) a b (64 * a + n % 64) (64 * b + n % 64) 16 0 = m_sq (ma 5) (ma 6) (ma 8) a b (64 * a + n % 64) (64 * b + n % 64) (16 - (j + 1)) (j + 1) := by rw [hE]; simp only [m_sq, if_pos hAB, if_pos c_21, if_pos c_28, if_pos c_35]
            exact ih (j + 1, ls) ⟨hj, hE9, hl9⟩ (by show 16 - (j + 1) < 16 - j; omega)
set_option maxHeartbeats 4000000 in
set_option maxRecDepth 100000 in
/-- same(x, z), no fold x -/
theorem k_M_sameN (l : Launch) (dC : Nat → ClassId) (dI : Nat → Nat → Nat) (sz : Nat) (y y1 y2 y3 y4 y5 y6 y7 y8 y9 y10 : Nat) (cI : ClassId) (mi : Nat → Int32) (ma : Nat → Nat → Int32) (x z : Int32) (hfx : s_lk x = 1) : Met l yMd_same wsMd_same ({ frames := 3, cells := 0, slots := 0, locals := 120 }) (va_Pc [.ref y, .int x, .int z] (fun U => U.heap.size = sz ∧ va_P (dC, dI) vwCl (wM y y1 y2 y3 y4 y5 y6 y7 y8 y9 y10 cI mi ma) U.heap ∧ va_K (dC, dI) vwCl [(cI, .int)] U ∧ va_D (fun _ => True) (wM y y1 y2 y3 y4 y5 y6 y7 y8 y9 y10 cI mi ma))) (va_Qi (fun (r : Int32) (_ : Unit) => r = 0) (fun _ t => va_P (dC, dI) vwCl (wM y y1 y2 y3 y4 y5 y6 y7 y8 y9 y10 cI (va_up mi 0 1) ma) t.heap ∧ va_K (dC, dI) vwCl [(cI, .int)] t ∧ va_D (va_A (wM y y1 y2 y3 y4 y5 y6 y7 y8 y9 y10 cI mi ma) sz) (wM y y1 y2 y3 y4 y5 y6 y7 y8 y9 y10 cI (va_up mi 0 1) ma)) (va_A (wM y y1 y2 y3 y4 y5 y6 y7 y8 y9 y10 cI mi ma) sz)) 0 0 (va_A (wM y y1 y2 y3 y4 y5 y6 y7 y8 y9 y10 cI mi ma) sz) := by
  refine Met.ofW (cc := cMd_same) (maxL := 5) (ret := (some .boolean)) (by decide) rfl ?_
  intro p e s m args below meth c s₁ B hml hv
  obtain ⟨rfl, hsz, hP, hK, hD0⟩ := hv
  have hx := B.exec
  have hb := B.bytes
  have hr := B.returns
  have hts0 := atoms_spec (ws := wsMd_same) B.pre
  have hts := fun (w : Cond) (h : w ∈ lw_g) => hts0 w (List.mem_cons_of_mem _ h)
  have hown : s.vm.findClass RMd = some m.cls := findClass_of_methodNamed B.named
  have hlocks := B.notSynchronized
  subst hsz
  have hD := hD0.self (sz := s.heap.size)
  generalize hAe : va_A (wM y y1 y2 y3 y4 y5 y6 y7 y8 y9 y10 cI mi ma) s.heap.size = A at hD ⊢
  have hA : ∀ q : Nat, s.heap.size ≤ q → A q := fun q h => by rw [← hAe]; exact Or.inr h
  have hS : va_S A s.heap s.heap [] := va_S.rf
  have hP : va_P (dC, dI) vwCl (wM y y1 y2 y3 y4 y5 y6 y7 y8 y9 y10 cI mi ma) s.heap := hP
  have hl := lv_entry ([.ref y, .int x, .int z]) (n := 5) (Nat.le_of_ble_eq_true rfl)
  rw [lg_entry_eq]
  generalize (lg_sl ([.ref y, .int x, .int z]) ++ List.replicate (5 - (lg_sl ([.ref y, .int x, .int z])).length) Slot.unset).toArray = ls at hl ⊢
  have hl : lv_has ls 5 [(0, .ref y), (1, .int x), (2, .int z)] := hl
  refine lv_aload_n hx hb dMd_same_0 rfl (lv_at hl 0 rfl) ?_
  refine lv_iload_n hx hb dMd_same_1 rfl (lv_at hl 1 rfl) ?_
  have hPc := hP.sub (ws' := (wM y y1 y2 y3 y4 y5 y6 y7 y8 y9 y10 cI mi ma)) [0, 1, 2, 3, 4, 5, 6, 7, 8, 9, 10] rfl
  have hDc := hD.sub (ws' := (wM y y1 y2 y3 y4 y5 y6 y7 y8 y9 y10 cI mi ma)) [0, 1, 2, 3, 4, 5, 6, 7, 8, 9, 10] (by decide) rfl
  have hKc := hK.sub (tys' := [(cI, .int)]) [0] rfl
  have hFc := va_free (wc := (wM y y1 y2 y3 y4 y5 y6 y7 y8 y9 y10 cI mi ma)) hD hS hA [0, 1, 2, 3, 4, 5, 6, 7, 8, 9, 10] rfl
  refine va_calli (va_runV (As := [.int x]) (rest := []) ⟨hx, hb, hml, hown, hts⟩ (k_M_lacks1 l dC dI s.heap.size y y1 y2 y3 y4 y5 y6 y7 y8 y9 y10 cI mi ma x hfx) (cwV 1 hts (gd_V in_91 in_93 in_94 in_74 in_92) rfl rfl rfl (by decide +kernel) ⟨Nat.le_of_ble_eq_true rfl, Nat.le_of_ble_eq_true rfl⟩) ⟨fun a U g mk q => by obtain ⟨q0, q1, qP, qK, qD⟩ := q; exact ⟨q0, q1, qP, va_K.moved (u := U) (U := U.calling g mk a) (Vm.Alike.refl U.vm) qK, qD⟩, va_recv hKc hPc (ci := 3) (q0 := 0) rfl rfl, fun U hU hW => ⟨rfl, by rw [hU], by rw [hU]; exact hPc, va_K.moved hW.alike hKc, hDc.weaken (fun _ _ _ _ => trivial)⟩⟩ rfl rfl hl.1 rfl (lv_room (Nat.le_of_ble_eq_true rfl)) dMd_same_2 ⟨Nat.le_of_ble_eq_true rfl, Nat.le_of_ble_eq_true rfl⟩) hS (fun q _ h => hFc q h) hFc (fun r_1 u t H1 locs ht hvm hw hB hz1 hk1 hS => ?_)
  obtain ⟨hP1, hK1, hD1⟩ := hB
  rw [ht] at hP1
  obtain ⟨hP, hD⟩ := va_join (wr := []) (w1 := (wM y y1 y2 y3 y4 y5 y6 y7 y8 y9 y10 cI (va_up mi 0 1) ma)) hP hD [0, 1, 2, 3, 4, 5, 6, 7, 8, 9, 10] [] rfl rfl (by decide) (by decide) hk1 hFc hP1 hD1
  generalize H1 = H at hP hS ⊢
  have hP : va_P (dC, dI) vwCl (wM y y1 y2 y3 y4 y5 y6 y7 y8 y9 y10 cI (va_up mi 0 1) ma) H := hP
  have hD : va_D A (wM y y1 y2 y3 y4 y5 y6 y7 y8 y9 y10 cI (va_up mi 0 1) ma) := hD
  have hw : r_1 = 1 := hw
  subst hw
  refine lv_if_ne (tgt := 16) hx hb dMd_same_5 (by decide) (fun _ => ?_) (fun c_2 => absurd c_2 (by decide))
  refine lv_iconst (v := 0) hx hb dMd_same_16 (by decide) ?_
  have hP9 : va_P (dC, dI) vwCl (wM y y1 y2 y3 y4 y5 y6 y7 y8 y9 y10 cI (va_up mi 0 1) ma) H := by exact hP
  have hD9 : va_D A (wM y y1 y2 y3 y4 y5 y6 y7 y8 y9 y10 cI (va_up mi 0 1) ma) := by exact hD
  exact W.zret (v := 0) (ty := .boolean) hx hb hr rfl (fun t ht hW => ⟨⟨0, (), rfl, rfl, by rw [ht]; exact hP9, va_K.moved hW.alike hK, hD9⟩, hS.F ht⟩) hS.2.2 dMd_same_17
set_option maxHeartbeats 4000000 in
set_option maxRecDepth 100000 in
/-- same(a, x), no fold x -/
theorem k_M_sameN2 (l : Launch) (dC : Nat → ClassId) (dI : Nat → Nat → Nat) (sz : Nat) (y y1 y2 y3 y4 y5 y6 y7 y8 y9 y10 : Nat) (cI : ClassId) (mi : Nat → Int32) (ma : Nat → Nat → Int32) (a : Nat) (ha4 : a < 4) (x : Int32) (hfx : s_lk x = 1) : Met l yMd_same wsMd_same ({ frames := 3, cells := 0, slots := 0, locals := 120 }) (va_Pc [.ref y, .int (nI a), .int x] (fun U => U.heap.size = sz ∧ va_P (dC, dI) vwCl (wM y y1 y2 y3 y4 y5 y6 y7 y8 y9 y10 cI mi ma) U.heap ∧ va_K (dC, dI) vwCl [(cI, .int)] U ∧ va_D (fun _ => True) (wM y y1 y2 y3 y4 y5 y6 y7 y8 y9 y10 cI mi ma))) (va_Qi (fun (r : Int32) (_ : Unit) => r = 0) (fun _ t => va_P (dC, dI) vwCl (wM y y1 y2 y3 y4 y5 y6 y7 y8 y9 y10 cI (va_up mi 0 1) ma) t.heap ∧ va_K (dC, dI) vwCl [(cI, .int)] t ∧ va_D (va_A (wM y y1 y2 y3 y4 y5 y6 y7 y8 y9 y10 cI mi ma) sz) (wM y y1 y2 y3 y4 y5 y6 y7 y8 y9 y10 cI (va_up mi 0 1) ma)) (va_A (wM y y1 y2 y3 y4 y5 y6 y7 y8 y9 y10 cI mi ma) sz)) 0 0 (va_A (wM y y1 y2 y3 y4 y5 y6 y7 y8 y9 y10 cI mi ma) sz) := by
  refine Met.ofW (cc := cMd_same) (maxL := 5) (ret := (some .boolean)) (by decide) rfl ?_
  intro p e s m args below meth c s₁ B hml hv
  obtain ⟨rfl, hsz, hP, hK, hD0⟩ := hv
  have hx := B.exec
  have hb := B.bytes
  have hr := B.returns
  have hts0 := atoms_spec (ws := wsMd_same) B.pre
  have hts := fun (w : Cond) (h : w ∈ lw_g) => hts0 w (List.mem_cons_of_mem _ h)
  have hown : s.vm.findClass RMd = some m.cls := findClass_of_methodNamed B.named
  have hlocks := B.notSynchronized
  subst hsz
  have hD := hD0.self (sz := s.heap.size)
  generalize hAe : va_A (wM y y1 y2 y3 y4 y5 y6 y7 y8 y9 y10 cI mi ma) s.heap.size = A at hD ⊢
  have hA : ∀ q : Nat, s.heap.size ≤ q → A q := fun q h => by rw [← hAe]; exact Or.inr h
  have hS : va_S A s.heap s.heap [] := va_S.rf
  have hP : va_P (dC, dI) vwCl (wM y y1 y2 y3 y4 y5 y6 y7 y8 y9 y10 cI mi ma) s.heap := hP
  have hl := lv_entry ([.ref y, .int (nI a), .int x]) (n := 5) (Nat.le_of_ble_eq_true rfl)
  rw [lg_entry_eq]
  generalize (lg_sl ([.ref y, .int (nI a), .int x]) ++ List.replicate (5 - (lg_sl ([.ref y, .int (nI a), .int x])).length) Slot.unset).toArray = ls at hl ⊢
  have hl : lv_has ls 5 [(0, .ref y), (1, .int (nI a)), (2, .int x)] := hl
  refine lv_aload_n hx hb dMd_same_0 rfl (lv_at hl 0 rfl) ?_
  refine lv_iload_n hx hb dMd_same_1 rfl (lv_at hl 1 rfl) ?_
  have hPc := hP.sub (ws' := (wM y y1 y2 y3 y4 y5 y6 y7 y8 y9 y10 cI mi ma)) [0, 1, 2, 3, 4, 5, 6, 7, 8, 9, 10] rfl
  have hDc := hD.sub (ws' := (wM y y1 y2 y3 y4 y5 y6 y7 y8 y9 y10 cI mi ma)) [0, 1, 2, 3, 4, 5, 6, 7, 8, 9, 10] (by decide) rfl
  have hKc := hK.sub (tys' := [(cI, .int)]) [0] rfl
  have hFc := va_free (wc := (wM y y1 y2 y3 y4 y5 y6 y7 y8 y9 y10 cI mi ma)) hD hS hA [0, 1, 2, 3, 4, 5, 6, 7, 8, 9, 10] rfl
  refine va_calli (va_runV (As := [.int (nI a)]) (rest := []) ⟨hx, hb, hml, hown, hts⟩ (k_M_lacks0 l dC dI s.heap.size y y1 y2 y3 y4 y5 y6 y7 y8 y9 y10 cI mi ma a ha4) (cwV 1 hts (gd_V in_91 in_93 in_94 in_74 in_92) rfl rfl rfl (by decide +kernel) ⟨Nat.le_of_ble_eq_true rfl, Nat.le_of_ble_eq_true rfl⟩) ⟨fun a U g mk q => by obtain ⟨q0, q1, qP, qK, qD⟩ := q; exact ⟨q0, q1, qP, va_K.moved (u := U) (U := U.calling g mk a) (Vm.Alike.refl U.vm) qK, qD⟩, va_recv hKc hPc (ci := 3) (q0 := 0) rfl rfl, fun U hU hW => ⟨rfl, by rw [hU], by rw [hU]; exact hPc, va_K.moved hW.alike hKc, hDc.weaken (fun _ _ _ _ => trivial)⟩⟩ rfl rfl hl.1 rfl (lv_room (Nat.le_of_ble_eq_true rfl)) dMd_same_2 ⟨Nat.le_of_ble_eq_true rfl, Nat.le_of_ble_eq_true rfl⟩) hS (fun q _ h => hFc q h) hFc (fun r_1 u t H1 locs ht hvm hw hB hz1 hk1 hS => ?_)
  obtain ⟨hP1, hK1, hD1⟩ := hB
  rw [ht] at hP1
  obtain ⟨hP, hD⟩ := va_join (wr := []) (w1 := (wM y y1 y2 y3 y4 y5 y6 y7 y8 y9 y10 cI (va_up mi 0 0) ma)) hP hD [0, 1, 2, 3, 4, 5, 6, 7, 8, 9, 10] [] rfl rfl (by decide) (by decide) hk1 hFc hP1 hD1
  generalize H1 = H at hP hS ⊢
  have hP : va_P (dC, dI) vwCl (wM y y1 y2 y3 y4 y5 y6 y7 y8 y9 y10 cI (va_up mi 0 0) ma) H := hP
  have hD : va_D A (wM y y1 y2 y3 y4 y5 y6 y7 y8 y9 y10 cI (va_up mi 0 0) ma) := hD
  have hw : r_1 = 0 := hw
  subst hw
  refine lv_if_ne (tgt := 16) hx hb dMd_same_5 (by decide) (fun c_2 => absurd c_2 (by decide)) (fun _ => ?_)
  refine lv_aload_n hx hb dMd_same_8 rfl (lv_at hl 0 rfl) ?_
  refine lv_iload_n hx hb dMd_same_9 rfl (lv_at hl 2 rfl) ?_
  have hPc := hP.sub (ws' := (wM y y1 y2 y3 y4 y5 y6 y7 y8 y9 y10 cI (va_up mi 0 0) ma)) [0, 1, 2, 3, 4, 5, 6, 7, 8, 9, 10] rfl
  have hDc := hD.sub (ws' := (wM y y1 y2 y3 y4 y5 y6 y7 y8 y9 y10 cI (va_up mi 0 0) ma)) [0, 1, 2, 3, 4, 5, 6, 7, 8, 9, 10] (by decide) rfl
  have hKc := hK.sub (tys' := [(cI, .int)]) [0] rfl
  have hFc := va_free (wc := (wM y y1 y2 y3 y4 y5 y6 y7 y8 y9 y10 cI (va_up mi 0 0) ma)) hD hS hA [0, 1, 2, 3, 4, 5, 6, 7, 8, 9, 10] rfl
  refine va_calli (va_runV (As := [.int x]) (rest := []) ⟨hx, hb, hml, hown, hts⟩ (k_M_lacks1 l dC dI H.size y y1 y2 y3 y4 y5 y6 y7 y8 y9 y10 cI (va_up mi 0 0) ma x hfx) (cwV 1 hts (gd_V in_91 in_93 in_94 in_74 in_92) rfl rfl rfl (by decide +kernel) ⟨Nat.le_of_ble_eq_true rfl, Nat.le_of_ble_eq_true rfl⟩) ⟨fun a U g mk q => by obtain ⟨q0, q1, qP, qK, qD⟩ := q; exact ⟨q0, q1, qP, va_K.moved (u := U) (U := U.calling g mk a) (Vm.Alike.refl U.vm) qK, qD⟩, va_recv hKc hPc (ci := 3) (q0 := 0) rfl rfl, fun U hU hW => ⟨rfl, by rw [hU], by rw [hU]; exact hPc, va_K.moved hW.alike hKc, hDc.weaken (fun _ _ _ _ => trivial)⟩⟩ rfl rfl hl.1 rfl (lv_room (Nat.le_of_ble_eq_true rfl)) dMd_same_10 ⟨Nat.le_of_ble_eq_true rfl, Nat.le_of_ble_eq_true rfl⟩) hS (fun q _ h => hFc q h) hFc (fun r_3 u t H1 locs ht hvm hw hB hz1 hk1 hS => ?_)
  obtain ⟨hP1, hK1, hD1⟩ := hB
  rw [ht] at hP1
  obtain ⟨hP, hD⟩ := va_join (wr := []) (w1 := (wM y y1 y2 y3 y4 y5 y6 y7 y8 y9 y10 cI (va_up mi 0 1) ma)) hP hD [0, 1, 2, 3, 4, 5, 6, 7, 8, 9, 10] [] rfl rfl (by decide) (by decide) hk1 hFc hP1 hD1
  generalize H1 = H at hP hS ⊢
  have hP : va_P (dC, dI) vwCl (wM y y1 y2 y3 y4 y5 y6 y7 y8 y9 y10 cI (va_up mi 0 1) ma) H := hP
  have hD : va_D A (wM y y1 y2 y3 y4 y5 y6 y7 y8 y9 y10 cI (va_up mi 0 1) ma) := hD
  have hw : r_3 = 1 := hw
  subst hw
  refine lv_if_eq (tgt := 18) hx hb dMd_same_13 (by decide) (fun c_4 => absurd c_4 (by decide)) (fun _ => ?_)
  refine lv_iconst (v := 0) hx hb dMd_same_16 (by decide) ?_
  have hP9 : va_P (dC, dI) vwCl (wM y y1 y2 y3 y4 y5 y6 y7 y8 y9 y10 cI (va_up mi 0 1) ma) H := by exact hP
  have hD9 : va_D A (wM y y1 y2 y3 y4 y5 y6 y7 y8 y9 y10 cI (va_up mi 0 1) ma) := by exact hD
  exact W.zret (v := 0) (ty := .boolean) hx hb hr rfl (fun t ht hW => ⟨⟨0, (), rfl, rfl, by rw [ht]; exact hP9, va_K.moved hW.alike hK, hD9⟩, hS.F ht⟩) hS.2.2 dMd_same_17
