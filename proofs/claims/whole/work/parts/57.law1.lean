set_option maxHeartbeats 4000000 in
set_option maxRecDepth 100000 in
theorem law_draft {p : Program} {l : Launch} {e : Env} {s : State} {m : MethodId} {below : List Frame} {meth : Method} {c : Code} {dC : Nat → ClassId} {dI : Nat → Nat → Nat} {b L : Nat} {xs : Nat → Int32} {A : Nat → Prop} (hL : L ≤ 2049) (C0 : lw_At p s m meth c b L xs) (hA : ∀ q : Nat, s.heap.size ≤ q → A q) (hbA : ¬ A b) (hnt : l.stackTraces = false) (hXN : x_N s) (hXZ : x_Z A s s.heap)
    {x xa r ra : Nat} {cI cQ cJ : ClassId} {ad : Nat → Nat → Nat} {y y1 y2 y3 y4 y5 y6 y7 y8 y9 y10 : Nat} {o : Nat} {v tn : Nat} {u1 u2 u3 : Int32} (htL : 1 + 4 * tn + 3 < L) (hu1 : xs (1 + 4 * tn + 1) = u1) (hu2 : xs (1 + 4 * tn + 2) = u2) (hu3 : xs (1 + 4 * tn + 3) = u3) (K : lK p l e s m below meth c b A dC dI x xa r ra cI cQ cJ ad y y1 y2 y3 y4 y5 y6 y7 y8 y9 y10 o v tn)
    {FI : Nat → Nat → Int32} {FA : Nat → Nat → Nat → Int32} {ri rv mi : Nat → Int32} {ma : Nat → Nat → Int32} {og : Nat → Int64} {H : Heap} {locs : List Loc} {ls : Array Slot} (hR : rA v tn FI FA ri rv mi ma) (hK : va_K (dC, dI) vwCl [(cI, .int), (cQ, .object RFo), (cJ, .long)] s) (hP : va_P (dC, dI) vwCl (wAll x xa r ra cI cQ cJ ad y y1 y2 y3 y4 y5 y6 y7 y8 y9 y10 o FI FA ri rv mi ma og) H) (hD : va_D A (wAll x xa r ra cI cQ cJ ad y y1 y2 y3 y4 y5 y6 y7 y8 y9 y10 o FI FA ri rv mi ma og)) (hS : va_S A s.heap H locs) (hl : lv_has ls 7 [(4, .int (nI (1 + 4 * tn))), (0, .ref b), (1, .ref x), (2, .ref y), (3, .ref o)]) :
    W p l e room_1 s m #[Value.ref b] below meth c H locs (36 + tn) (5882 + 6 * tn) (lw_Z below #[Value.ref b] s) (F0 m 120 ls []) := by
  obtain ⟨hx, hb, hr, hml, hown, hts0, hX, hbl, hlocks, hgv⟩ := C0
  have hts : ∀ w ∈ lw_g, w.before #[Value.ref b] s = true := fun w h => hts0 w (List.mem_filter.mp h).1
  have hR0 := hR
  obtain ⟨⟨hv1, hv16, hver⟩, ⟨d0, d1, d2, d3, d4⟩, ⟨se, hs16, hse⟩, ⟨b0, hb31, hsn⟩, hdr, hw16, hR7⟩ := hR
  refine lv_aload_n hx hb dLw_law_120 rfl (lv_at hl 2 rfl) ?_
  refine lv_aload_n hx hb dLw_law_121 rfl (lv_at hl 1 rfl) ?_
  refine lv_iload hx hb dLw_law_122 (lv_at hl 0 rfl) ?_
  refine lv_iconst (v := 1) hx hb dLw_law_124 (by decide) ?_
  refine lv_iadd hx hb dLw_law_125 ?_
  refine lv_ri (y := nI ((1 + 4 * tn) + 1)) (nI_1 _) ?_
  refine vq_sld (k := ((1 + 4 * tn) + 1)) (u := u1) hx hb hX hbl hbA hS rfl (by omega) (by omega) hu1 dLw_law_126 ?_
  refine lv_aload_n hx hb dLw_law_127 rfl (lv_at hl 1 rfl) ?_
  refine lv_iload hx hb dLw_law_128 (lv_at hl 0 rfl) ?_
  refine lv_iconst (v := 2) hx hb dLw_law_130 (by decide) ?_
  refine lv_iadd hx hb dLw_law_131 ?_
  refine lv_ri (y := nI ((1 + 4 * tn) + 2)) (nI_add _ 2) ?_
  refine vq_sld (k := ((1 + 4 * tn) + 2)) (u := u2) hx hb hX hbl hbA hS rfl (by omega) (by omega) hu2 dLw_law_132 ?_
  refine lv_aload_n hx hb dLw_law_133 rfl (lv_at hl 1 rfl) ?_
  refine lv_iload hx hb dLw_law_134 (lv_at hl 0 rfl) ?_
  refine lv_iconst (v := nI 3) hx hb dLw_law_136 (by decide) ?_
  refine lv_iadd hx hb dLw_law_137 ?_
  refine lv_ri (y := nI ((1 + 4 * tn) + 3)) (nI_add _ _) ?_
  refine vq_sld (k := ((1 + 4 * tn) + 3)) (u := u3) hx hb hX hbl hbA hS rfl (by omega) (by omega) hu3 dLw_law_138 ?_
  have hPc := hP.sub (ws' := (wV x xa r cQ ad ++ wR r ra cI ri rv)) [0, 1, 2, 3] rfl
  have hDc := hD.sub (ws' := (wV x xa r cQ ad ++ wR r ra cI ri rv)) [0, 1, 2, 3] (by decide) rfl
  have hKc := hK.sub (tys' := [(cI, .int), (cQ, .object RFo)]) [0, 1] rfl
  have hFc := va_free (wc := (wV x xa r cQ ad ++ wR r ra cI ri rv)) hD hS hA [0, 1, 2, 3] rfl
  refine va_calli (va_runV (As := [.int u1, .int u2, .int u3]) (rest := []) ⟨hx, hb, hml, hown, hts⟩ (k_V_draft l dC dI H.size x xa r ra cI cQ ad ri rv u1 u2 u3) (cwV 3 hts (gd_V in_282 in_284 in_285 in_112 in_283) rfl rfl rfl (by decide +kernel) ⟨Nat.le_of_ble_eq_true rfl, Nat.le_of_ble_eq_true rfl⟩) ⟨fun a U g mk q => by obtain ⟨q0, q1, qP, qK, qD⟩ := q; exact ⟨q0, q1, qP, va_K.moved (u := U) (U := U.calling g mk a) (Vm.Alike.refl U.vm) qK, qD⟩, va_recv hKc hPc (ci := 2) (q0 := 0) rfl rfl, fun U hU hW => ⟨rfl, by rw [hU], by rw [hU]; exact hPc, va_K.moved hW.alike hKc, hDc.weaken (fun _ _ _ _ => trivial)⟩⟩ rfl rfl hl.1 rfl (lv_room (Nat.le_of_ble_eq_true rfl)) dLw_law_139 ⟨by show _ + 0 ≤ 601024; omega, by show _ + 0 ≤ 7293000; omega⟩) hS (fun q _ h => hFc q h) hFc (fun r_1 u t H1 locs ht hvm hw hB hz1 hk1 hS => ?_)
  obtain ⟨hP1, hK1, hD1⟩ := hB
  rw [ht] at hP1
  obtain ⟨hP, hD⟩ := va_join (wr := (wF (ad 0 0) (ad 0 1) (ad 0 2) (ad 0 3) (ad 0 4) cI (FI 0) (FA 0) ++ wF (ad 1 0) (ad 1 1) (ad 1 2) (ad 1 3) (ad 1 4) cI (FI 1) (FA 1) ++ wF (ad 2 0) (ad 2 1) (ad 2 2) (ad 2 3) (ad 2 4) cI (FI 2) (FA 2) ++ wF (ad 3 0) (ad 3 1) (ad 3 2) (ad 3 3) (ad 3 4) cI (FI 3) (FA 3) ++ wM y y1 y2 y3 y4 y5 y6 y7 y8 y9 y10 cI mi ma ++ wO o cJ og)) (w1 := (wV x xa r cQ ad ++ wR r ra cI ((s_dr ri u1 u2 u3).2) rv)) hP hD [0, 1, 2, 3] [4, 5, 6, 7, 8, 9, 10, 11, 12, 13, 14, 15, 16, 17, 18, 19, 20, 21, 22, 23, 24, 25, 26, 27, 28, 29, 30, 31, 32, 33, 34, 35] rfl rfl (by decide) (by decide) hk1 hFc hP1 hD1
  generalize H1 = H at hP hS ⊢
  have hP := hP.sub (ws' := (wV x xa r cQ ad ++ wR r ra cI ((s_dr ri u1 u2 u3).2) rv ++ wF (ad 0 0) (ad 0 1) (ad 0 2) (ad 0 3) (ad 0 4) cI (FI 0) (FA 0) ++ wF (ad 1 0) (ad 1 1) (ad 1 2) (ad 1 3) (ad 1 4) cI (FI 1) (FA 1) ++ wF (ad 2 0) (ad 2 1) (ad 2 2) (ad 2 3) (ad 2 4) cI (FI 2) (FA 2) ++ wF (ad 3 0) (ad 3 1) (ad 3 2) (ad 3 3) (ad 3 4) cI (FI 3) (FA 3) ++ wM y y1 y2 y3 y4 y5 y6 y7 y8 y9 y10 cI mi ma ++ wO o cJ og)) [32, 33, 34, 35, 0, 1, 2, 3, 4, 5, 6, 7, 8, 9, 10, 11, 12, 13, 14, 15, 16, 17, 18, 19, 20, 21, 22, 23, 24, 25, 26, 27, 28, 29, 30, 31] rfl
  have hD := hD.sub (ws' := (wV x xa r cQ ad ++ wR r ra cI ((s_dr ri u1 u2 u3).2) rv ++ wF (ad 0 0) (ad 0 1) (ad 0 2) (ad 0 3) (ad 0 4) cI (FI 0) (FA 0) ++ wF (ad 1 0) (ad 1 1) (ad 1 2) (ad 1 3) (ad 1 4) cI (FI 1) (FA 1) ++ wF (ad 2 0) (ad 2 1) (ad 2 2) (ad 2 3) (ad 2 4) cI (FI 2) (FA 2) ++ wF (ad 3 0) (ad 3 1) (ad 3 2) (ad 3 3) (ad 3 4) cI (FI 3) (FA 3) ++ wM y y1 y2 y3 y4 y5 y6 y7 y8 y9 y10 cI mi ma ++ wO o cJ og)) [32, 33, 34, 35, 0, 1, 2, 3, 4, 5, 6, 7, 8, 9, 10, 11, 12, 13, 14, 15, 16, 17, 18, 19, 20, 21, 22, 23, 24, 25, 26, 27, 28, 29, 30, 31] (by decide) rfl
  have hP : va_P (dC, dI) vwCl (wV x xa r cQ ad ++ wR r ra cI ((s_dr ri u1 u2 u3).2) rv ++ wF (ad 0 0) (ad 0 1) (ad 0 2) (ad 0 3) (ad 0 4) cI (FI 0) (FA 0) ++ wF (ad 1 0) (ad 1 1) (ad 1 2) (ad 1 3) (ad 1 4) cI (FI 1) (FA 1) ++ wF (ad 2 0) (ad 2 1) (ad 2 2) (ad 2 3) (ad 2 4) cI (FI 2) (FA 2) ++ wF (ad 3 0) (ad 3 1) (ad 3 2) (ad 3 3) (ad 3 4) cI (FI 3) (FA 3) ++ wM y y1 y2 y3 y4 y5 y6 y7 y8 y9 y10 cI mi ma ++ wO o cJ og) H := hP
  have hD : va_D A (wV x xa r cQ ad ++ wR r ra cI ((s_dr ri u1 u2 u3).2) rv ++ wF (ad 0 0) (ad 0 1) (ad 0 2) (ad 0 3) (ad 0 4) cI (FI 0) (FA 0) ++ wF (ad 1 0) (ad 1 1) (ad 1 2) (ad 1 3) (ad 1 4) cI (FI 1) (FA 1) ++ wF (ad 2 0) (ad 2 1) (ad 2 2) (ad 2 3) (ad 2 4) cI (FI 2) (FA 2) ++ wF (ad 3 0) (ad 3 1) (ad 3 2) (ad 3 3) (ad 3 4) cI (FI 3) (FA 3) ++ wM y y1 y2 y3 y4 y5 y6 y7 y8 y9 y10 cI mi ma ++ wO o cJ og) := hD
  have hw : r_1 = (s_dr ri u1 u2 u3).1 := hw
  subst hw
  refine lv_aload_n hx hb dLw_law_142 rfl (lv_at hl 3 rfl) ?_
  refine lv_aload_n hx hb dLw_law_143 rfl (lv_at hl 1 rfl) ?_
  refine lv_iload hx hb dLw_law_144 (lv_at hl 0 rfl) ?_
  refine lv_iconst (v := 1) hx hb dLw_law_146 (by decide) ?_
  refine lv_iadd hx hb dLw_law_147 ?_
  refine lv_ri (y := nI ((1 + 4 * tn) + 1)) (nI_1 _) ?_
  refine vq_sld (k := ((1 + 4 * tn) + 1)) (u := u1) hx hb hX hbl hbA hS rfl (by omega) (by omega) hu1 dLw_law_148 ?_
  refine lv_aload_n hx hb dLw_law_149 rfl (lv_at hl 1 rfl) ?_
  refine lv_iload hx hb dLw_law_150 (lv_at hl 0 rfl) ?_
  refine lv_iconst (v := 2) hx hb dLw_law_152 (by decide) ?_
  refine lv_iadd hx hb dLw_law_153 ?_
  refine lv_ri (y := nI ((1 + 4 * tn) + 2)) (nI_add _ 2) ?_
  refine vq_sld (k := ((1 + 4 * tn) + 2)) (u := u2) hx hb hX hbl hbA hS rfl (by omega) (by omega) hu2 dLw_law_154 ?_
  refine lv_aload_n hx hb dLw_law_155 rfl (lv_at hl 1 rfl) ?_
  refine lv_iload hx hb dLw_law_156 (lv_at hl 0 rfl) ?_
  refine lv_iconst (v := nI 3) hx hb dLw_law_158 (by decide) ?_
  refine lv_iadd hx hb dLw_law_159 ?_
  refine lv_ri (y := nI ((1 + 4 * tn) + 3)) (nI_add _ _) ?_
  refine vq_sld (k := ((1 + 4 * tn) + 3)) (u := u3) hx hb hX hbl hbA hS rfl (by omega) (by omega) hu3 dLw_law_160 ?_
  have hPc := hP.sub (ws' := (wM y y1 y2 y3 y4 y5 y6 y7 y8 y9 y10 cI mi ma)) [24, 25, 26, 27, 28, 29, 30, 31, 32, 33, 34] rfl
  have hDc := hD.sub (ws' := (wM y y1 y2 y3 y4 y5 y6 y7 y8 y9 y10 cI mi ma)) [24, 25, 26, 27, 28, 29, 30, 31, 32, 33, 34] (by decide) rfl
  have hKc := hK.sub (tys' := [(cI, .int)]) [0] rfl
  have hFc := va_free (wc := (wM y y1 y2 y3 y4 y5 y6 y7 y8 y9 y10 cI mi ma)) hD hS hA [24, 25, 26, 27, 28, 29, 30, 31, 32, 33, 34] rfl
  refine va_calli (va_runV (As := [.int u1, .int u2, .int u3]) (rest := [.int ((s_dr ri u1 u2 u3).1)]) ⟨hx, hb, hml, hown, hts⟩ (k_M_draft l dC dI H.size y y1 y2 y3 y4 y5 y6 y7 y8 y9 y10 cI mi ma u1 u2 u3) (cwV 3 hts (gd_V in_286 in_288 in_289 in_74 in_287) rfl rfl rfl (by decide +kernel) ⟨Nat.le_of_ble_eq_true rfl, Nat.le_of_ble_eq_true rfl⟩) ⟨fun a U g mk q => by obtain ⟨q0, q1, qP, qK, qD⟩ := q; exact ⟨q0, q1, qP, va_K.moved (u := U) (U := U.calling g mk a) (Vm.Alike.refl U.vm) qK, qD⟩, va_recv hKc hPc (ci := 3) (q0 := 0) rfl rfl, fun U hU hW => ⟨rfl, by rw [hU], by rw [hU]; exact hPc, va_K.moved hW.alike hKc, hDc.weaken (fun _ _ _ _ => trivial)⟩⟩ rfl rfl hl.1 rfl (lv_room (Nat.le_of_ble_eq_true rfl)) dLw_law_161 ⟨by show _ + 0 ≤ 601024; omega, by show _ + 0 ≤ 7293000; omega⟩) hS (fun q _ h => hFc q h) hFc (fun r_2 u t H1 locs ht hvm hw hB hz1 hk1 hS => ?_)
  obtain ⟨hP1, hK1, hD1⟩ := hB
  rw [ht] at hP1
  obtain ⟨hP, hD⟩ := va_join (wr := (wV x xa r cQ ad ++ wR r ra cI ((s_dr ri u1 u2 u3).2) rv ++ wF (ad 0 0) (ad 0 1) (ad 0 2) (ad 0 3) (ad 0 4) cI (FI 0) (FA 0) ++ wF (ad 1 0) (ad 1 1) (ad 1 2) (ad 1 3) (ad 1 4) cI (FI 1) (FA 1) ++ wF (ad 2 0) (ad 2 1) (ad 2 2) (ad 2 3) (ad 2 4) cI (FI 2) (FA 2) ++ wF (ad 3 0) (ad 3 1) (ad 3 2) (ad 3 3) (ad 3 4) cI (FI 3) (FA 3) ++ wO o cJ og)) (w1 := (wM y y1 y2 y3 y4 y5 y6 y7 y8 y9 y10 cI ((m_dr mi u1 u2 u3).2) ma)) hP hD [24, 25, 26, 27, 28, 29, 30, 31, 32, 33, 34] [0, 1, 2, 3, 4, 5, 6, 7, 8, 9, 10, 11, 12, 13, 14, 15, 16, 17, 18, 19, 20, 21, 22, 23, 35] rfl rfl (by decide) (by decide) hk1 hFc hP1 hD1
  generalize H1 = H at hP hS ⊢
  have hP := hP.sub (ws' := (wV x xa r cQ ad ++ wR r ra cI ((s_dr ri u1 u2 u3).2) rv ++ wF (ad 0 0) (ad 0 1) (ad 0 2) (ad 0 3) (ad 0 4) cI (FI 0) (FA 0) ++ wF (ad 1 0) (ad 1 1) (ad 1 2) (ad 1 3) (ad 1 4) cI (FI 1) (FA 1) ++ wF (ad 2 0) (ad 2 1) (ad 2 2) (ad 2 3) (ad 2 4) cI (FI 2) (FA 2) ++ wF (ad 3 0) (ad 3 1) (ad 3 2) (ad 3 3) (ad 3 4) cI (FI 3) (FA 3) ++ wM y y1 y2 y3 y4 y5 y6 y7 y8 y9 y10 cI ((m_dr mi u1 u2 u3).2) ma ++ wO o cJ og)) [0, 1, 2, 3, 4, 5, 6, 7, 8, 9, 10, 11, 12, 13, 14, 15, 16, 17, 18, 19, 20, 21, 22, 23, 25, 26, 27, 28, 29, 30, 31, 32, 33, 34, 35, 24] rfl
  have hD := hD.sub (ws' := (wV x xa r cQ ad ++ wR r ra cI ((s_dr ri u1 u2 u3).2) rv ++ wF (ad 0 0) (ad 0 1) (ad 0 2) (ad 0 3) (ad 0 4) cI (FI 0) (FA 0) ++ wF (ad 1 0) (ad 1 1) (ad 1 2) (ad 1 3) (ad 1 4) cI (FI 1) (FA 1) ++ wF (ad 2 0) (ad 2 1) (ad 2 2) (ad 2 3) (ad 2 4) cI (FI 2) (FA 2) ++ wF (ad 3 0) (ad 3 1) (ad 3 2) (ad 3 3) (ad 3 4) cI (FI 3) (FA 3) ++ wM y y1 y2 y3 y4 y5 y6 y7 y8 y9 y10 cI ((m_dr mi u1 u2 u3).2) ma ++ wO o cJ og)) [0, 1, 2, 3, 4, 5, 6, 7, 8, 9, 10, 11, 12, 13, 14, 15, 16, 17, 18, 19, 20, 21, 22, 23, 25, 26, 27, 28, 29, 30, 31, 32, 33, 34, 35, 24] (by decide) rfl
  have hP : va_P (dC, dI) vwCl (wV x xa r cQ ad ++ wR r ra cI ((s_dr ri u1 u2 u3).2) rv ++ wF (ad 0 0) (ad 0 1) (ad 0 2) (ad 0 3) (ad 0 4) cI (FI 0) (FA 0) ++ wF (ad 1 0) (ad 1 1) (ad 1 2) (ad 1 3) (ad 1 4) cI (FI 1) (FA 1) ++ wF (ad 2 0) (ad 2 1) (ad 2 2) (ad 2 3) (ad 2 4) cI (FI 2) (FA 2) ++ wF (ad 3 0) (ad 3 1) (ad 3 2) (ad 3 3) (ad 3 4) cI (FI 3) (FA 3) ++ wM y y1 y2 y3 y4 y5 y6 y7 y8 y9 y10 cI ((m_dr mi u1 u2 u3).2) ma ++ wO o cJ og) H := hP
  have hD : va_D A (wV x xa r cQ ad ++ wR r ra cI ((s_dr ri u1 u2 u3).2) rv ++ wF (ad 0 0) (ad 0 1) (ad 0 2) (ad 0 3) (ad 0 4) cI (FI 0) (FA 0) ++ wF (ad 1 0) (ad 1 1) (ad 1 2) (ad 1 3) (ad 1 4) cI (FI 1) (FA 1) ++ wF (ad 2 0) (ad 2 1) (ad 2 2) (ad 2 3) (ad 2 4) cI (FI 2) (FA 2) ++ wF (ad 3 0) (ad 3 1) (ad 3 2) (ad 3 3) (ad 3 4) cI (FI 3) (FA 3) ++ wM y y1 y2 y3 y4 y5 y6 y7 y8 y9 y10 cI ((m_dr mi u1 u2 u3).2) ma ++ wO o cJ og) := hD
  have hw : r_2 = (m_dr mi u1 u2 u3).1 := hw
  subst hw
  refine lv_icmp_eq (tgt := 949) hx hb dLw_law_164 (by decide) (fun c_3 => ?_) (fun c_3 => ?_)
  · skip
    refine W.widen (k := 36 + (tn + 1)) (n := 5882 + 6 * (tn + 1)) (by omega) (by omega) ?_
    exact K FI FA ((s_dr ri u1 u2 u3).2) rv ((m_dr mi u1 u2 u3).2) ma og H locs ls ((rA.draft u1 u2 u3 hR0).2) hP hD hS (lv_sub hl [0, 1, 2, 3, 4] rfl)
  · skip
    exact absurd (rA.draft u1 u2 u3 hR0).1 c_3
set_option maxHeartbeats 4000000 in
set_option maxRecDepth 100000 in
theorem law_reads {p : Program} {l : Launch} {e : Env} {s : State} {m : MethodId} {below : List Frame} {meth : Method} {c : Code} {dC : Nat → ClassId} {dI : Nat → Nat → Nat} {b L : Nat} {xs : Nat → Int32} {A : Nat → Prop} (hL : L ≤ 2049) (C0 : lw_At p s m meth c b L xs) (hA : ∀ q : Nat, s.heap.size ≤ q → A q) (hbA : ¬ A b) (hnt : l.stackTraces = false) (hXN : x_N s) (hXZ : x_Z A s s.heap)
    {x xa r ra : Nat} {cI cQ cJ : ClassId} {ad : Nat → Nat → Nat} {y y1 y2 y3 y4 y5 y6 y7 y8 y9 y10 : Nat} {o : Nat} {v tn : Nat} {u1 u2 u3 : Int32} (htL : 1 + 4 * tn + 3 < L) (hu1 : xs (1 + 4 * tn + 1) = u1) (hu2 : xs (1 + 4 * tn + 2) = u2) (hu3 : xs (1 + 4 * tn + 3) = u3) (K : lK p l e s m below meth c b A dC dI x xa r ra cI cQ cJ ad y y1 y2 y3 y4 y5 y6 y7 y8 y9 y10 o v tn)
    {FI : Nat → Nat → Int32} {FA : Nat → Nat → Nat → Int32} {ri rv mi : Nat → Int32} {ma : Nat → Nat → Int32} {og : Nat → Int64} {H : Heap} {locs : List Loc} {ls : Array Slot} (hR : rA v tn FI FA ri rv mi ma) (hK : va_K (dC, dI) vwCl [(cI, .int), (cQ, .object RFo), (cJ, .long)] s) (hP : va_P (dC, dI) vwCl (wAll x xa r ra cI cQ cJ ad y y1 y2 y3 y4 y5 y6 y7 y8 y9 y10 o FI FA ri rv mi ma og) H) (hD : va_D A (wAll x xa r ra cI cQ cJ ad y y1 y2 y3 y4 y5 y6 y7 y8 y9 y10 o FI FA ri rv mi ma og)) (hS : va_S A s.heap H locs) (hl : lv_has ls 7 [(4, .int (nI (1 + 4 * tn))), (0, .ref b), (1, .ref x), (2, .ref y), (3, .ref o)]) :
    W p l e room_1 s m #[Value.ref b] below meth c H locs (36 + tn) (5882 + 6 * tn) (lw_Z below #[Value.ref b] s) (F0 m 169 ls []) := by
  obtain ⟨hx, hb, hr, hml, hown, hts0, hX, hbl, hlocks, hgv⟩ := C0
  have hts : ∀ w ∈ lw_g, w.before #[Value.ref b] s = true := fun w h => hts0 w (List.mem_filter.mp h).1
  have hR0 := hR
  obtain ⟨⟨hv1, hv16, hver⟩, ⟨d0, d1, d2, d3, d4⟩, ⟨se, hs16, hse⟩, ⟨b0, hb31, hsn⟩, hdr, hw16, hR7⟩ := hR
  refine lv_aload_n hx hb dLw_law_169 rfl (lv_at hl 2 rfl) ?_
  refine lv_aload_n hx hb dLw_law_170 rfl (lv_at hl 1 rfl) ?_
  refine lv_iload hx hb dLw_law_171 (lv_at hl 0 rfl) ?_
  refine lv_iconst (v := 1) hx hb dLw_law_173 (by decide) ?_
  refine lv_iadd hx hb dLw_law_174 ?_
  refine lv_ri (y := nI ((1 + 4 * tn) + 1)) (nI_1 _) ?_
  refine vq_sld (k := ((1 + 4 * tn) + 1)) (u := u1) hx hb hX hbl hbA hS rfl (by omega) (by omega) hu1 dLw_law_175 ?_
  have hPc := hP.sub (ws' := (wV x xa r cQ ad ++ wR r ra cI ri rv)) [0, 1, 2, 3] rfl
  have hDc := hD.sub (ws' := (wV x xa r cQ ad ++ wR r ra cI ri rv)) [0, 1, 2, 3] (by decide) rfl
  have hKc := hK.sub (tys' := [(cI, .int), (cQ, .object RFo)]) [0, 1] rfl
  have hFc := va_free (wc := (wV x xa r cQ ad ++ wR r ra cI ri rv)) hD hS hA [0, 1, 2, 3] rfl
  refine va_calli (va_runV (As := [.int u1]) (rest := []) ⟨hx, hb, hml, hown, hts⟩ (k_V_reads l dC dI H.size x xa r ra cI cQ ad ri rv u1) (cwV 1 hts (gd_V in_290 in_292 in_293 in_112 in_291) rfl rfl rfl (by decide +kernel) ⟨Nat.le_of_ble_eq_true rfl, Nat.le_of_ble_eq_true rfl⟩) ⟨fun a U g mk q => by obtain ⟨q0, q1, qP, qK, qD⟩ := q; exact ⟨q0, q1, qP, va_K.moved (u := U) (U := U.calling g mk a) (Vm.Alike.refl U.vm) qK, qD⟩, va_recv hKc hPc (ci := 2) (q0 := 0) rfl rfl, fun U hU hW => ⟨rfl, by rw [hU], by rw [hU]; exact hPc, va_K.moved hW.alike hKc, hDc.weaken (fun _ _ _ _ => trivial)⟩⟩ rfl rfl hl.1 rfl (lv_room (Nat.le_of_ble_eq_true rfl)) dLw_law_176 ⟨by show _ + 0 ≤ 601024; omega, by show _ + 0 ≤ 7293000; omega⟩) hS (fun q _ h => hFc q h) hFc (fun r_1 u t H1 locs ht hvm hw hB hz1 hk1 hS => ?_)
  obtain ⟨hP1, hK1, hD1⟩ := hB
  rw [ht] at hP1
  obtain ⟨hP, hD⟩ := va_join (wr := (wF (ad 0 0) (ad 0 1) (ad 0 2) (ad 0 3) (ad 0 4) cI (FI 0) (FA 0) ++ wF (ad 1 0) (ad 1 1) (ad 1 2) (ad 1 3) (ad 1 4) cI (FI 1) (FA 1) ++ wF (ad 2 0) (ad 2 1) (ad 2 2) (ad 2 3) (ad 2 4) cI (FI 2) (FA 2) ++ wF (ad 3 0) (ad 3 1) (ad 3 2) (ad 3 3) (ad 3 4) cI (FI 3) (FA 3) ++ wM y y1 y2 y3 y4 y5 y6 y7 y8 y9 y10 cI mi ma ++ wO o cJ og)) (w1 := (wV x xa r cQ ad ++ wR r ra cI (s_rd ri u1) rv)) hP hD [0, 1, 2, 3] [4, 5, 6, 7, 8, 9, 10, 11, 12, 13, 14, 15, 16, 17, 18, 19, 20, 21, 22, 23, 24, 25, 26, 27, 28, 29, 30, 31, 32, 33, 34, 35] rfl rfl (by decide) (by decide) hk1 hFc hP1 hD1
  generalize H1 = H at hP hS ⊢
  have hP := hP.sub (ws' := (wV x xa r cQ ad ++ wR r ra cI (s_rd ri u1) rv ++ wF (ad 0 0) (ad 0 1) (ad 0 2) (ad 0 3) (ad 0 4) cI (FI 0) (FA 0) ++ wF (ad 1 0) (ad 1 1) (ad 1 2) (ad 1 3) (ad 1 4) cI (FI 1) (FA 1) ++ wF (ad 2 0) (ad 2 1) (ad 2 2) (ad 2 3) (ad 2 4) cI (FI 2) (FA 2) ++ wF (ad 3 0) (ad 3 1) (ad 3 2) (ad 3 3) (ad 3 4) cI (FI 3) (FA 3) ++ wM y y1 y2 y3 y4 y5 y6 y7 y8 y9 y10 cI mi ma ++ wO o cJ og)) [32, 33, 34, 35, 0, 1, 2, 3, 4, 5, 6, 7, 8, 9, 10, 11, 12, 13, 14, 15, 16, 17, 18, 19, 20, 21, 22, 23, 24, 25, 26, 27, 28, 29, 30, 31] rfl
  have hD := hD.sub (ws' := (wV x xa r cQ ad ++ wR r ra cI (s_rd ri u1) rv ++ wF (ad 0 0) (ad 0 1) (ad 0 2) (ad 0 3) (ad 0 4) cI (FI 0) (FA 0) ++ wF (ad 1 0) (ad 1 1) (ad 1 2) (ad 1 3) (ad 1 4) cI (FI 1) (FA 1) ++ wF (ad 2 0) (ad 2 1) (ad 2 2) (ad 2 3) (ad 2 4) cI (FI 2) (FA 2) ++ wF (ad 3 0) (ad 3 1) (ad 3 2) (ad 3 3) (ad 3 4) cI (FI 3) (FA 3) ++ wM y y1 y2 y3 y4 y5 y6 y7 y8 y9 y10 cI mi ma ++ wO o cJ og)) [32, 33, 34, 35, 0, 1, 2, 3, 4, 5, 6, 7, 8, 9, 10, 11, 12, 13, 14, 15, 16, 17, 18, 19, 20, 21, 22, 23, 24, 25, 26, 27, 28, 29, 30, 31] (by decide) rfl
  have hP : va_P (dC, dI) vwCl (wV x xa r cQ ad ++ wR r ra cI (s_rd ri u1) rv ++ wF (ad 0 0) (ad 0 1) (ad 0 2) (ad 0 3) (ad 0 4) cI (FI 0) (FA 0) ++ wF (ad 1 0) (ad 1 1) (ad 1 2) (ad 1 3) (ad 1 4) cI (FI 1) (FA 1) ++ wF (ad 2 0) (ad 2 1) (ad 2 2) (ad 2 3) (ad 2 4) cI (FI 2) (FA 2) ++ wF (ad 3 0) (ad 3 1) (ad 3 2) (ad 3 3) (ad 3 4) cI (FI 3) (FA 3) ++ wM y y1 y2 y3 y4 y5 y6 y7 y8 y9 y10 cI mi ma ++ wO o cJ og) H := hP
  have hD : va_D A (wV x xa r cQ ad ++ wR r ra cI (s_rd ri u1) rv ++ wF (ad 0 0) (ad 0 1) (ad 0 2) (ad 0 3) (ad 0 4) cI (FI 0) (FA 0) ++ wF (ad 1 0) (ad 1 1) (ad 1 2) (ad 1 3) (ad 1 4) cI (FI 1) (FA 1) ++ wF (ad 2 0) (ad 2 1) (ad 2 2) (ad 2 3) (ad 2 4) cI (FI 2) (FA 2) ++ wF (ad 3 0) (ad 3 1) (ad 3 2) (ad 3 3) (ad 3 4) cI (FI 3) (FA 3) ++ wM y y1 y2 y3 y4 y5 y6 y7 y8 y9 y10 cI mi ma ++ wO o cJ og) := hD
  have hw : r_1 = s_in u1 := hw
  subst hw
  refine lv_aload_n hx hb dLw_law_179 rfl (lv_at hl 3 rfl) ?_
  refine lv_aload_n hx hb dLw_law_180 rfl (lv_at hl 1 rfl) ?_
  refine lv_iload hx hb dLw_law_181 (lv_at hl 0 rfl) ?_
  refine lv_iconst (v := 1) hx hb dLw_law_183 (by decide) ?_
  refine lv_iadd hx hb dLw_law_184 ?_
  refine lv_ri (y := nI ((1 + 4 * tn) + 1)) (nI_1 _) ?_
  refine vq_sld (k := ((1 + 4 * tn) + 1)) (u := u1) hx hb hX hbl hbA hS rfl (by omega) (by omega) hu1 dLw_law_185 ?_
  have hPc := hP.sub (ws' := (wM y y1 y2 y3 y4 y5 y6 y7 y8 y9 y10 cI mi ma)) [24, 25, 26, 27, 28, 29, 30, 31, 32, 33, 34] rfl
  have hDc := hD.sub (ws' := (wM y y1 y2 y3 y4 y5 y6 y7 y8 y9 y10 cI mi ma)) [24, 25, 26, 27, 28, 29, 30, 31, 32, 33, 34] (by decide) rfl
  have hKc := hK.sub (tys' := [(cI, .int)]) [0] rfl
  have hFc := va_free (wc := (wM y y1 y2 y3 y4 y5 y6 y7 y8 y9 y10 cI mi ma)) hD hS hA [24, 25, 26, 27, 28, 29, 30, 31, 32, 33, 34] rfl
  refine va_calli (va_runV (As := [.int u1]) (rest := [.int (s_in u1)]) ⟨hx, hb, hml, hown, hts⟩ (k_M_reads l dC dI H.size y y1 y2 y3 y4 y5 y6 y7 y8 y9 y10 cI mi ma u1) (cwV 1 hts (gd_V in_294 in_296 in_297 in_74 in_295) rfl rfl rfl (by decide +kernel) ⟨Nat.le_of_ble_eq_true rfl, Nat.le_of_ble_eq_true rfl⟩) ⟨fun a U g mk q => by obtain ⟨q0, q1, qP, qK, qD⟩ := q; exact ⟨q0, q1, qP, va_K.moved (u := U) (U := U.calling g mk a) (Vm.Alike.refl U.vm) qK, qD⟩, va_recv hKc hPc (ci := 3) (q0 := 0) rfl rfl, fun U hU hW => ⟨rfl, by rw [hU], by rw [hU]; exact hPc, va_K.moved hW.alike hKc, hDc.weaken (fun _ _ _ _ => trivial)⟩⟩ rfl rfl hl.1 rfl (lv_room (Nat.le_of_ble_eq_true rfl)) dLw_law_186 ⟨by show _ + 0 ≤ 601024; omega, by show _ + 0 ≤ 7293000; omega⟩) hS (fun q _ h => hFc q h) hFc (fun r_2 u t H1 locs ht hvm hw hB hz1 hk1 hS => ?_)
  obtain ⟨hP1, hK1, hD1⟩ := hB
  rw [ht] at hP1
  obtain ⟨hP, hD⟩ := va_join (wr := (wV x xa r cQ ad ++ wR r ra cI (s_rd ri u1) rv ++ wF (ad 0 0) (ad 0 1) (ad 0 2) (ad 0 3) (ad 0 4) cI (FI 0) (FA 0) ++ wF (ad 1 0) (ad 1 1) (ad 1 2) (ad 1 3) (ad 1 4) cI (FI 1) (FA 1) ++ wF (ad 2 0) (ad 2 1) (ad 2 2) (ad 2 3) (ad 2 4) cI (FI 2) (FA 2) ++ wF (ad 3 0) (ad 3 1) (ad 3 2) (ad 3 3) (ad 3 4) cI (FI 3) (FA 3) ++ wO o cJ og)) (w1 := (wM y y1 y2 y3 y4 y5 y6 y7 y8 y9 y10 cI (m_rd mi u1) ma)) hP hD [24, 25, 26, 27, 28, 29, 30, 31, 32, 33, 34] [0, 1, 2, 3, 4, 5, 6, 7, 8, 9, 10, 11, 12, 13, 14, 15, 16, 17, 18, 19, 20, 21, 22, 23, 35] rfl rfl (by decide) (by decide) hk1 hFc hP1 hD1
  generalize H1 = H at hP hS ⊢
  have hP := hP.sub (ws' := (wV x xa r cQ ad ++ wR r ra cI (s_rd ri u1) rv ++ wF (ad 0 0) (ad 0 1) (ad 0 2) (ad 0 3) (ad 0 4) cI (FI 0) (FA 0) ++ wF (ad 1 0) (ad 1 1) (ad 1 2) (ad 1 3) (ad 1 4) cI (FI 1) (FA 1) ++ wF (ad 2 0) (ad 2 1) (ad 2 2) (ad 2 3) (ad 2 4) cI (FI 2) (FA 2) ++ wF (ad 3 0) (ad 3 1) (ad 3 2) (ad 3 3) (ad 3 4) cI (FI 3) (FA 3) ++ wM y y1 y2 y3 y4 y5 y6 y7 y8 y9 y10 cI (m_rd mi u1) ma ++ wO o cJ og)) [0, 1, 2, 3, 4, 5, 6, 7, 8, 9, 10, 11, 12, 13, 14, 15, 16, 17, 18, 19, 20, 21, 22, 23, 25, 26, 27, 28, 29, 30, 31, 32, 33, 34, 35, 24] rfl
  have hD := hD.sub (ws' := (wV x xa r cQ ad ++ wR r ra cI (s_rd ri u1) rv ++ wF (ad 0 0) (ad 0 1) (ad 0 2) (ad 0 3) (ad 0 4) cI (FI 0) (FA 0) ++ wF (ad 1 0) (ad 1 1) (ad 1 2) (ad 1 3) (ad 1 4) cI (FI 1) (FA 1) ++ wF (ad 2 0) (ad 2 1) (ad 2 2) (ad 2 3) (ad 2 4) cI (FI 2) (FA 2) ++ wF (ad 3 0) (ad 3 1) (ad 3 2) (ad 3 3) (ad 3 4) cI (FI 3) (FA 3) ++ wM y y1 y2 y3 y4 y5 y6 y7 y8 y9 y10 cI (m_rd mi u1) ma ++ wO o cJ og)) [0, 1, 2, 3, 4, 5, 6, 7, 8, 9, 10, 11, 12, 13, 14, 15, 16, 17, 18, 19, 20, 21, 22, 23, 25, 26, 27, 28, 29, 30, 31, 32, 33, 34, 35, 24] (by decide) rfl
  have hP : va_P (dC, dI) vwCl (wV x xa r cQ ad ++ wR r ra cI (s_rd ri u1) rv ++ wF (ad 0 0) (ad 0 1) (ad 0 2) (ad 0 3) (ad 0 4) cI (FI 0) (FA 0) ++ wF (ad 1 0) (ad 1 1) (ad 1 2) (ad 1 3) (ad 1 4) cI (FI 1) (FA 1) ++ wF (ad 2 0) (ad 2 1) (ad 2 2) (ad 2 3) (ad 2 4) cI (FI 2) (FA 2) ++ wF (ad 3 0) (ad 3 1) (ad 3 2) (ad 3 3) (ad 3 4) cI (FI 3) (FA 3) ++ wM y y1 y2 y3 y4 y5 y6 y7 y8 y9 y10 cI (m_rd mi u1) ma ++ wO o cJ og) H := hP
  have hD : va_D A (wV x xa r cQ ad ++ wR r ra cI (s_rd ri u1) rv ++ wF (ad 0 0) (ad 0 1) (ad 0 2) (ad 0 3) (ad 0 4) cI (FI 0) (FA 0) ++ wF (ad 1 0) (ad 1 1) (ad 1 2) (ad 1 3) (ad 1 4) cI (FI 1) (FA 1) ++ wF (ad 2 0) (ad 2 1) (ad 2 2) (ad 2 3) (ad 2 4) cI (FI 2) (FA 2) ++ wF (ad 3 0) (ad 3 1) (ad 3 2) (ad 3 3) (ad 3 4) cI (FI 3) (FA 3) ++ wM y y1 y2 y3 y4 y5 y6 y7 y8 y9 y10 cI (m_rd mi u1) ma ++ wO o cJ og) := hD
  have hw : r_2 = s_in u1 := hw
  subst hw
  refine lv_icmp_eq (tgt := 949) hx hb dLw_law_189 (by decide) (fun c_3 => ?_) (fun c_3 => ?_)
  · skip
    refine W.widen (k := 36 + (tn + 1)) (n := 5882 + 6 * (tn + 1)) (by omega) (by omega) ?_
    exact K FI FA (s_rd ri u1) rv (m_rd mi u1) ma og H locs ls (rA.reads u1 hR0) hP hD hS (lv_sub hl [0, 1, 2, 3, 4] rfl)
  · skip
    exact absurd rfl c_3
set_option maxHeartbeats 4000000 in
set_option maxRecDepth 100000 in
theorem law_writes {p : Program} {l : Launch} {e : Env} {s : State} {m : MethodId} {below : List Frame} {meth : Method} {c : Code} {dC : Nat → ClassId} {dI : Nat → Nat → Nat} {b L : Nat} {xs : Nat → Int32} {A : Nat → Prop} (hL : L ≤ 2049) (C0 : lw_At p s m meth c b L xs) (hA : ∀ q : Nat, s.heap.size ≤ q → A q) (hbA : ¬ A b) (hnt : l.stackTraces = false) (hXN : x_N s) (hXZ : x_Z A s s.heap)
    {x xa r ra : Nat} {cI cQ cJ : ClassId} {ad : Nat → Nat → Nat} {y y1 y2 y3 y4 y5 y6 y7 y8 y9 y10 : Nat} {o : Nat} {v tn : Nat} {u1 u2 u3 : Int32} (htL : 1 + 4 * tn + 3 < L) (hu1 : xs (1 + 4 * tn + 1) = u1) (hu2 : xs (1 + 4 * tn + 2) = u2) (hu3 : xs (1 + 4 * tn + 3) = u3) (K : lK p l e s m below meth c b A dC dI x xa r ra cI cQ cJ ad y y1 y2 y3 y4 y5 y6 y7 y8 y9 y10 o v tn)
    {FI : Nat → Nat → Int32} {FA : Nat → Nat → Nat → Int32} {ri rv mi : Nat → Int32} {ma : Nat → Nat → Int32} {og : Nat → Int64} {H : Heap} {locs : List Loc} {ls : Array Slot} (hR : rA v tn FI FA ri rv mi ma) (hK : va_K (dC, dI) vwCl [(cI, .int), (cQ, .object RFo), (cJ, .long)] s) (hP : va_P (dC, dI) vwCl (wAll x xa r ra cI cQ cJ ad y y1 y2 y3 y4 y5 y6 y7 y8 y9 y10 o FI FA ri rv mi ma og) H) (hD : va_D A (wAll x xa r ra cI cQ cJ ad y y1 y2 y3 y4 y5 y6 y7 y8 y9 y10 o FI FA ri rv mi ma og)) (hS : va_S A s.heap H locs) (hl : lv_has ls 7 [(4, .int (nI (1 + 4 * tn))), (0, .ref b), (1, .ref x), (2, .ref y), (3, .ref o)]) :
    W p l e room_1 s m #[Value.ref b] below meth c H locs (36 + tn) (5882 + 6 * tn) (lw_Z below #[Value.ref b] s) (F0 m 194 ls []) := by
  obtain ⟨hx, hb, hr, hml, hown, hts0, hX, hbl, hlocks, hgv⟩ := C0
  have hts : ∀ w ∈ lw_g, w.before #[Value.ref b] s = true := fun w h => hts0 w (List.mem_filter.mp h).1
  have hR0 := hR
  obtain ⟨⟨hv1, hv16, hver⟩, ⟨d0, d1, d2, d3, d4⟩, ⟨se, hs16, hse⟩, ⟨b0, hb31, hsn⟩, hdr, hw16, hR7⟩ := hR
  rcases in_cases u1 with hz | ⟨z, hz, ez⟩
  · skip
    refine lv_aload_n hx hb dLw_law_194 rfl (lv_at hl 2 rfl) ?_
    refine lv_aload_n hx hb dLw_law_195 rfl (lv_at hl 1 rfl) ?_
    refine lv_iload hx hb dLw_law_196 (lv_at hl 0 rfl) ?_
    refine lv_iconst (v := 1) hx hb dLw_law_198 (by decide) ?_
    refine lv_iadd hx hb dLw_law_199 ?_
    refine lv_ri (y := nI ((1 + 4 * tn) + 1)) (nI_1 _) ?_
    refine vq_sld (k := ((1 + 4 * tn) + 1)) (u := u1) hx hb hX hbl hbA hS rfl (by omega) (by omega) hu1 dLw_law_200 ?_
    refine lv_aload_n hx hb dLw_law_201 rfl (lv_at hl 1 rfl) ?_
    refine lv_iload hx hb dLw_law_202 (lv_at hl 0 rfl) ?_
    refine lv_iconst (v := 2) hx hb dLw_law_204 (by decide) ?_
    refine lv_iadd hx hb dLw_law_205 ?_
    refine lv_ri (y := nI ((1 + 4 * tn) + 2)) (nI_add _ 2) ?_
    refine vq_sld (k := ((1 + 4 * tn) + 2)) (u := u2) hx hb hX hbl hbA hS rfl (by omega) (by omega) hu2 dLw_law_206 ?_
    have hPc := hP.sub (ws' := (wV x xa r cQ ad ++ wR r ra cI ri rv)) [0, 1, 2, 3] rfl
    have hKc := hK.sub (tys' := [(cI, .int), (cQ, .object RFo)]) [0, 1] rfl
    refine vp_callSi (W.runV (As := [.int u1, .int u2]) (rest := []) ⟨hx, hb, hml, hown, hts⟩ (k_V_writesN l dC dI x xa r ra cI cQ ad ri rv u1 u2 hz) (cwV 2 hts (gd_V in_298 in_300 in_301 in_112 in_299) rfl rfl rfl (by decide +kernel) ⟨Nat.le_of_ble_eq_true rfl, Nat.le_of_ble_eq_true rfl⟩) ⟨fun a U g mk q => by obtain ⟨q0, qP, qK⟩ := q; exact ⟨q0, qP, va_K.moved (u := U) (U := U.calling g mk a) (Vm.Alike.refl U.vm) qK⟩, va_recv hKc hPc (ci := 2) (q0 := 0) rfl rfl, fun U hU hW => ⟨rfl, by rw [hU]; exact hPc, va_K.moved hW.alike hKc⟩⟩ rfl rfl hl.1 rfl (lv_room (Nat.le_of_ble_eq_true rfl)) dLw_law_207 ⟨by show _ + 0 ≤ 601024; omega, by show _ + 0 ≤ 7293000; omega⟩) (fun r_1 er_2 => ?_)
    subst er_2
    refine lv_aload_n hx hb dLw_law_210 rfl (lv_at hl 3 rfl) ?_
    refine lv_aload_n hx hb dLw_law_211 rfl (lv_at hl 1 rfl) ?_
    refine lv_iload hx hb dLw_law_212 (lv_at hl 0 rfl) ?_
    refine lv_iconst (v := 1) hx hb dLw_law_214 (by decide) ?_
    refine lv_iadd hx hb dLw_law_215 ?_
    refine lv_ri (y := nI ((1 + 4 * tn) + 1)) (nI_1 _) ?_
    refine vq_sld (k := ((1 + 4 * tn) + 1)) (u := u1) hx hb hX hbl hbA hS rfl (by omega) (by omega) hu1 dLw_law_216 ?_
    refine lv_aload_n hx hb dLw_law_217 rfl (lv_at hl 1 rfl) ?_
    refine lv_iload hx hb dLw_law_218 (lv_at hl 0 rfl) ?_
    refine lv_iconst (v := 2) hx hb dLw_law_220 (by decide) ?_
    refine lv_iadd hx hb dLw_law_221 ?_
    refine lv_ri (y := nI ((1 + 4 * tn) + 2)) (nI_add _ 2) ?_
    refine vq_sld (k := ((1 + 4 * tn) + 2)) (u := u2) hx hb hX hbl hbA hS rfl (by omega) (by omega) hu2 dLw_law_222 ?_
    have hPc := hP.sub (ws' := (wM y y1 y2 y3 y4 y5 y6 y7 y8 y9 y10 cI mi ma)) [24, 25, 26, 27, 28, 29, 30, 31, 32, 33, 34] rfl
    have hDc := hD.sub (ws' := (wM y y1 y2 y3 y4 y5 y6 y7 y8 y9 y10 cI mi ma)) [24, 25, 26, 27, 28, 29, 30, 31, 32, 33, 34] (by decide) rfl
    have hKc := hK.sub (tys' := [(cI, .int)]) [0] rfl
    have hFc := va_free (wc := (wM y y1 y2 y3 y4 y5 y6 y7 y8 y9 y10 cI mi ma)) hD hS hA [24, 25, 26, 27, 28, 29, 30, 31, 32, 33, 34] rfl
    refine va_calli (va_runV (As := [.int u1, .int u2]) (rest := [.int 0]) ⟨hx, hb, hml, hown, hts⟩ (k_M_writesN l dC dI H.size y y1 y2 y3 y4 y5 y6 y7 y8 y9 y10 cI mi ma u1 u2 hz) (cwV 2 hts (gd_V in_302 in_304 in_305 in_74 in_303) rfl rfl rfl (by decide +kernel) ⟨Nat.le_of_ble_eq_true rfl, Nat.le_of_ble_eq_true rfl⟩) ⟨fun a U g mk q => by obtain ⟨q0, q1, qP, qK, qD⟩ := q; exact ⟨q0, q1, qP, va_K.moved (u := U) (U := U.calling g mk a) (Vm.Alike.refl U.vm) qK, qD⟩, va_recv hKc hPc (ci := 3) (q0 := 0) rfl rfl, fun U hU hW => ⟨rfl, by rw [hU], by rw [hU]; exact hPc, va_K.moved hW.alike hKc, hDc.weaken (fun _ _ _ _ => trivial)⟩⟩ rfl rfl hl.1 rfl (lv_room (Nat.le_of_ble_eq_true rfl)) dLw_law_223 ⟨by show _ + 0 ≤ 601024; omega, by show _ + 0 ≤ 7293000; omega⟩) hS (fun q _ h => hFc q h) hFc (fun r_3 u t H1 locs ht hvm hw hB hz1 hk1 hS => ?_)
    obtain ⟨hP1, hK1, hD1⟩ := hB
    rw [ht] at hP1
    obtain ⟨hP, hD⟩ := va_join (wr := (wV x xa r cQ ad ++ wR r ra cI ri rv ++ wF (ad 0 0) (ad 0 1) (ad 0 2) (ad 0 3) (ad 0 4) cI (FI 0) (FA 0) ++ wF (ad 1 0) (ad 1 1) (ad 1 2) (ad 1 3) (ad 1 4) cI (FI 1) (FA 1) ++ wF (ad 2 0) (ad 2 1) (ad 2 2) (ad 2 3) (ad 2 4) cI (FI 2) (FA 2) ++ wF (ad 3 0) (ad 3 1) (ad 3 2) (ad 3 3) (ad 3 4) cI (FI 3) (FA 3) ++ wO o cJ og)) (w1 := (wM y y1 y2 y3 y4 y5 y6 y7 y8 y9 y10 cI (va_up mi 0 0) ma)) hP hD [24, 25, 26, 27, 28, 29, 30, 31, 32, 33, 34] [0, 1, 2, 3, 4, 5, 6, 7, 8, 9, 10, 11, 12, 13, 14, 15, 16, 17, 18, 19, 20, 21, 22, 23, 35] rfl rfl (by decide) (by decide) hk1 hFc hP1 hD1
    generalize H1 = H at hP hS ⊢
    have hP := hP.sub (ws' := (wV x xa r cQ ad ++ wR r ra cI ri rv ++ wF (ad 0 0) (ad 0 1) (ad 0 2) (ad 0 3) (ad 0 4) cI (FI 0) (FA 0) ++ wF (ad 1 0) (ad 1 1) (ad 1 2) (ad 1 3) (ad 1 4) cI (FI 1) (FA 1) ++ wF (ad 2 0) (ad 2 1) (ad 2 2) (ad 2 3) (ad 2 4) cI (FI 2) (FA 2) ++ wF (ad 3 0) (ad 3 1) (ad 3 2) (ad 3 3) (ad 3 4) cI (FI 3) (FA 3) ++ wM y y1 y2 y3 y4 y5 y6 y7 y8 y9 y10 cI (va_up mi 0 0) ma ++ wO o cJ og)) [0, 1, 2, 3, 4, 5, 6, 7, 8, 9, 10, 11, 12, 13, 14, 15, 16, 17, 18, 19, 20, 21, 22, 23, 25, 26, 27, 28, 29, 30, 31, 32, 33, 34, 35, 24] rfl
    have hD := hD.sub (ws' := (wV x xa r cQ ad ++ wR r ra cI ri rv ++ wF (ad 0 0) (ad 0 1) (ad 0 2) (ad 0 3) (ad 0 4) cI (FI 0) (FA 0) ++ wF (ad 1 0) (ad 1 1) (ad 1 2) (ad 1 3) (ad 1 4) cI (FI 1) (FA 1) ++ wF (ad 2 0) (ad 2 1) (ad 2 2) (ad 2 3) (ad 2 4) cI (FI 2) (FA 2) ++ wF (ad 3 0) (ad 3 1) (ad 3 2) (ad 3 3) (ad 3 4) cI (FI 3) (FA 3) ++ wM y y1 y2 y3 y4 y5 y6 y7 y8 y9 y10 cI (va_up mi 0 0) ma ++ wO o cJ og)) [0, 1, 2, 3, 4, 5, 6, 7, 8, 9, 10, 11, 12, 13, 14, 15, 16, 17, 18, 19, 20, 21, 22, 23, 25, 26, 27, 28, 29, 30, 31, 32, 33, 34, 35, 24] (by decide) rfl
    have hP : va_P (dC, dI) vwCl (wV x xa r cQ ad ++ wR r ra cI ri rv ++ wF (ad 0 0) (ad 0 1) (ad 0 2) (ad 0 3) (ad 0 4) cI (FI 0) (FA 0) ++ wF (ad 1 0) (ad 1 1) (ad 1 2) (ad 1 3) (ad 1 4) cI (FI 1) (FA 1) ++ wF (ad 2 0) (ad 2 1) (ad 2 2) (ad 2 3) (ad 2 4) cI (FI 2) (FA 2) ++ wF (ad 3 0) (ad 3 1) (ad 3 2) (ad 3 3) (ad 3 4) cI (FI 3) (FA 3) ++ wM y y1 y2 y3 y4 y5 y6 y7 y8 y9 y10 cI (va_up mi 0 0) ma ++ wO o cJ og) H := hP
    have hD : va_D A (wV x xa r cQ ad ++ wR r ra cI ri rv ++ wF (ad 0 0) (ad 0 1) (ad 0 2) (ad 0 3) (ad 0 4) cI (FI 0) (FA 0) ++ wF (ad 1 0) (ad 1 1) (ad 1 2) (ad 1 3) (ad 1 4) cI (FI 1) (FA 1) ++ wF (ad 2 0) (ad 2 1) (ad 2 2) (ad 2 3) (ad 2 4) cI (FI 2) (FA 2) ++ wF (ad 3 0) (ad 3 1) (ad 3 2) (ad 3 3) (ad 3 4) cI (FI 3) (FA 3) ++ wM y y1 y2 y3 y4 y5 y6 y7 y8 y9 y10 cI (va_up mi 0 0) ma ++ wO o cJ og) := hD
    have hw : r_3 = 0 := hw
    subst hw
    refine lv_icmp_eq (tgt := 949) hx hb dLw_law_226 (by decide) (fun _ => ?_) (fun c_4 => absurd c_4 (by decide))
    refine W.widen (k := 36 + (tn + 1)) (n := 5882 + 6 * (tn + 1)) (by omega) (by omega) ?_
    exact K FI FA ri rv (va_up mi 0 0) ma og H locs ls (rA.thr 0 hR0) hP hD hS (lv_sub hl [0, 1, 2, 3, 4] rfl)
  · skip
    subst ez
    refine lv_aload_n hx hb dLw_law_194 rfl (lv_at hl 2 rfl) ?_
    refine lv_aload_n hx hb dLw_law_195 rfl (lv_at hl 1 rfl) ?_
    refine lv_iload hx hb dLw_law_196 (lv_at hl 0 rfl) ?_
    refine lv_iconst (v := 1) hx hb dLw_law_198 (by decide) ?_
    refine lv_iadd hx hb dLw_law_199 ?_
    refine lv_ri (y := nI ((1 + 4 * tn) + 1)) (nI_1 _) ?_
    refine vq_sld (k := ((1 + 4 * tn) + 1)) (u := nI z) hx hb hX hbl hbA hS rfl (by omega) (by omega) hu1 dLw_law_200 ?_
    refine lv_aload_n hx hb dLw_law_201 rfl (lv_at hl 1 rfl) ?_
    refine lv_iload hx hb dLw_law_202 (lv_at hl 0 rfl) ?_
    refine lv_iconst (v := 2) hx hb dLw_law_204 (by decide) ?_
    refine lv_iadd hx hb dLw_law_205 ?_
    refine lv_ri (y := nI ((1 + 4 * tn) + 2)) (nI_add _ 2) ?_
    refine vq_sld (k := ((1 + 4 * tn) + 2)) (u := u2) hx hb hX hbl hbA hS rfl (by omega) (by omega) hu2 dLw_law_206 ?_
    have hPc := hP.sub (ws' := (wV x xa r cQ ad ++ wR r ra cI ri rv)) [0, 1, 2, 3] rfl
    have hDc := hD.sub (ws' := (wV x xa r cQ ad ++ wR r ra cI ri rv)) [0, 1, 2, 3] (by decide) rfl
    have hKc := hK.sub (tys' := [(cI, .int), (cQ, .object RFo)]) [0, 1] rfl
    have hFc := va_free (wc := (wV x xa r cQ ad ++ wR r ra cI ri rv)) hD hS hA [0, 1, 2, 3] rfl
    refine va_calli (va_runV (As := [.int (nI z), .int u2]) (rest := []) ⟨hx, hb, hml, hown, hts⟩ (k_V_writes l dC dI H.size x xa r ra cI cQ ad ri rv z hz u2) (cwV 2 hts (gd_V in_298 in_300 in_301 in_112 in_299) rfl rfl rfl (by decide +kernel) ⟨Nat.le_of_ble_eq_true rfl, Nat.le_of_ble_eq_true rfl⟩) ⟨fun a U g mk q => by obtain ⟨q0, q1, qP, qK, qD⟩ := q; exact ⟨q0, q1, qP, va_K.moved (u := U) (U := U.calling g mk a) (Vm.Alike.refl U.vm) qK, qD⟩, va_recv hKc hPc (ci := 2) (q0 := 0) rfl rfl, fun U hU hW => ⟨rfl, by rw [hU], by rw [hU]; exact hPc, va_K.moved hW.alike hKc, hDc.weaken (fun _ _ _ _ => trivial)⟩⟩ rfl rfl hl.1 rfl (lv_room (Nat.le_of_ble_eq_true rfl)) dLw_law_207 ⟨by show _ + 0 ≤ 601024; omega, by show _ + 0 ≤ 7293000; omega⟩) hS (fun q _ h => hFc q h) hFc (fun r_5 u t H1 locs ht hvm hw hB hz1 hk1 hS => ?_)
    obtain ⟨hP1, hK1, hD1⟩ := hB
    rw [ht] at hP1
    obtain ⟨hP, hD⟩ := va_join (wr := (wF (ad 0 0) (ad 0 1) (ad 0 2) (ad 0 3) (ad 0 4) cI (FI 0) (FA 0) ++ wF (ad 1 0) (ad 1 1) (ad 1 2) (ad 1 3) (ad 1 4) cI (FI 1) (FA 1) ++ wF (ad 2 0) (ad 2 1) (ad 2 2) (ad 2 3) (ad 2 4) cI (FI 2) (FA 2) ++ wF (ad 3 0) (ad 3 1) (ad 3 2) (ad 3 3) (ad 3 4) cI (FI 3) (FA 3) ++ wM y y1 y2 y3 y4 y5 y6 y7 y8 y9 y10 cI mi ma ++ wO o cJ og)) (w1 := (wV x xa r cQ ad ++ wR r ra cI (va_up ri 4 (ri 4 ||| ((1 : Int32) <<< (nI z &&& 31)))) (upd rv z u2))) hP hD [0, 1, 2, 3] [4, 5, 6, 7, 8, 9, 10, 11, 12, 13, 14, 15, 16, 17, 18, 19, 20, 21, 22, 23, 24, 25, 26, 27, 28, 29, 30, 31, 32, 33, 34, 35] rfl rfl (by decide) (by decide) hk1 hFc hP1 hD1
    generalize H1 = H at hP hS ⊢
    have hP := hP.sub (ws' := (wV x xa r cQ ad ++ wR r ra cI (va_up ri 4 (ri 4 ||| ((1 : Int32) <<< (nI z &&& 31)))) (upd rv z u2) ++ wF (ad 0 0) (ad 0 1) (ad 0 2) (ad 0 3) (ad 0 4) cI (FI 0) (FA 0) ++ wF (ad 1 0) (ad 1 1) (ad 1 2) (ad 1 3) (ad 1 4) cI (FI 1) (FA 1) ++ wF (ad 2 0) (ad 2 1) (ad 2 2) (ad 2 3) (ad 2 4) cI (FI 2) (FA 2) ++ wF (ad 3 0) (ad 3 1) (ad 3 2) (ad 3 3) (ad 3 4) cI (FI 3) (FA 3) ++ wM y y1 y2 y3 y4 y5 y6 y7 y8 y9 y10 cI mi ma ++ wO o cJ og)) [32, 33, 34, 35, 0, 1, 2, 3, 4, 5, 6, 7, 8, 9, 10, 11, 12, 13, 14, 15, 16, 17, 18, 19, 20, 21, 22, 23, 24, 25, 26, 27, 28, 29, 30, 31] rfl
    have hD := hD.sub (ws' := (wV x xa r cQ ad ++ wR r ra cI (va_up ri 4 (ri 4 ||| ((1 : Int32) <<< (nI z &&& 31)))) (upd rv z u2) ++ wF (ad 0 0) (ad 0 1) (ad 0 2) (ad 0 3) (ad 0 4) cI (FI 0) (FA 0) ++ wF (ad 1 0) (ad 1 1) (ad 1 2) (ad 1 3) (ad 1 4) cI (FI 1) (FA 1) ++ wF (ad 2 0) (ad 2 1) (ad 2 2) (ad 2 3) (ad 2 4) cI (FI 2) (FA 2) ++ wF (ad 3 0) (ad 3 1) (ad 3 2) (ad 3 3) (ad 3 4) cI (FI 3) (FA 3) ++ wM y y1 y2 y3 y4 y5 y6 y7 y8 y9 y10 cI mi ma ++ wO o cJ og)) [32, 33, 34, 35, 0, 1, 2, 3, 4, 5, 6, 7, 8, 9, 10, 11, 12, 13, 14, 15, 16, 17, 18, 19, 20, 21, 22, 23, 24, 25, 26, 27, 28, 29, 30, 31] (by decide) rfl
    have hP : va_P (dC, dI) vwCl (wV x xa r cQ ad ++ wR r ra cI (va_up ri 4 (ri 4 ||| ((1 : Int32) <<< (nI z &&& 31)))) (upd rv z u2) ++ wF (ad 0 0) (ad 0 1) (ad 0 2) (ad 0 3) (ad 0 4) cI (FI 0) (FA 0) ++ wF (ad 1 0) (ad 1 1) (ad 1 2) (ad 1 3) (ad 1 4) cI (FI 1) (FA 1) ++ wF (ad 2 0) (ad 2 1) (ad 2 2) (ad 2 3) (ad 2 4) cI (FI 2) (FA 2) ++ wF (ad 3 0) (ad 3 1) (ad 3 2) (ad 3 3) (ad 3 4) cI (FI 3) (FA 3) ++ wM y y1 y2 y3 y4 y5 y6 y7 y8 y9 y10 cI mi ma ++ wO o cJ og) H := hP
    have hD : va_D A (wV x xa r cQ ad ++ wR r ra cI (va_up ri 4 (ri 4 ||| ((1 : Int32) <<< (nI z &&& 31)))) (upd rv z u2) ++ wF (ad 0 0) (ad 0 1) (ad 0 2) (ad 0 3) (ad 0 4) cI (FI 0) (FA 0) ++ wF (ad 1 0) (ad 1 1) (ad 1 2) (ad 1 3) (ad 1 4) cI (FI 1) (FA 1) ++ wF (ad 2 0) (ad 2 1) (ad 2 2) (ad 2 3) (ad 2 4) cI (FI 2) (FA 2) ++ wF (ad 3 0) (ad 3 1) (ad 3 2) (ad 3 3) (ad 3 4) cI (FI 3) (FA 3) ++ wM y y1 y2 y3 y4 y5 y6 y7 y8 y9 y10 cI mi ma ++ wO o cJ og) := hD
    have hw : r_5 = 1 := hw
    subst hw
    refine lv_aload_n hx hb dLw_law_210 rfl (lv_at hl 3 rfl) ?_
    refine lv_aload_n hx hb dLw_law_211 rfl (lv_at hl 1 rfl) ?_
    refine lv_iload hx hb dLw_law_212 (lv_at hl 0 rfl) ?_
    refine lv_iconst (v := 1) hx hb dLw_law_214 (by decide) ?_
    refine lv_iadd hx hb dLw_law_215 ?_
    refine lv_ri (y := nI ((1 + 4 * tn) + 1)) (nI_1 _) ?_
    refine vq_sld (k := ((1 + 4 * tn) + 1)) (u := nI z) hx hb hX hbl hbA hS rfl (by omega) (by omega) hu1 dLw_law_216 ?_
    refine lv_aload_n hx hb dLw_law_217 rfl (lv_at hl 1 rfl) ?_
    refine lv_iload hx hb dLw_law_218 (lv_at hl 0 rfl) ?_
    refine lv_iconst (v := 2) hx hb dLw_law_220 (by decide) ?_
    refine lv_iadd hx hb dLw_law_221 ?_
    refine lv_ri (y := nI ((1 + 4 * tn) + 2)) (nI_add _ 2) ?_
    refine vq_sld (k := ((1 + 4 * tn) + 2)) (u := u2) hx hb hX hbl hbA hS rfl (by omega) (by omega) hu2 dLw_law_222 ?_
    have hPc := hP.sub (ws' := (wM y y1 y2 y3 y4 y5 y6 y7 y8 y9 y10 cI mi ma)) [24, 25, 26, 27, 28, 29, 30, 31, 32, 33, 34] rfl
    have hDc := hD.sub (ws' := (wM y y1 y2 y3 y4 y5 y6 y7 y8 y9 y10 cI mi ma)) [24, 25, 26, 27, 28, 29, 30, 31, 32, 33, 34] (by decide) rfl
    have hKc := hK.sub (tys' := [(cI, .int)]) [0] rfl
    have hFc := va_free (wc := (wM y y1 y2 y3 y4 y5 y6 y7 y8 y9 y10 cI mi ma)) hD hS hA [24, 25, 26, 27, 28, 29, 30, 31, 32, 33, 34] rfl
    refine va_calli (va_runV (As := [.int (nI z), .int u2]) (rest := [.int 1]) ⟨hx, hb, hml, hown, hts⟩ (k_M_writes l dC dI H.size y y1 y2 y3 y4 y5 y6 y7 y8 y9 y10 cI mi ma z hz u2) (cwV 2 hts (gd_V in_302 in_304 in_305 in_74 in_303) rfl rfl rfl (by decide +kernel) ⟨Nat.le_of_ble_eq_true rfl, Nat.le_of_ble_eq_true rfl⟩) ⟨fun a U g mk q => by obtain ⟨q0, q1, qP, qK, qD⟩ := q; exact ⟨q0, q1, qP, va_K.moved (u := U) (U := U.calling g mk a) (Vm.Alike.refl U.vm) qK, qD⟩, va_recv hKc hPc (ci := 3) (q0 := 0) rfl rfl, fun U hU hW => ⟨rfl, by rw [hU], by rw [hU]; exact hPc, va_K.moved hW.alike hKc, hDc.weaken (fun _ _ _ _ => trivial)⟩⟩ rfl rfl hl.1 rfl (lv_room (Nat.le_of_ble_eq_true rfl)) dLw_law_223 ⟨by show _ + 0 ≤ 601024; omega, by show _ + 0 ≤ 7293000; omega⟩) hS (fun q _ h => hFc q h) hFc (fun r_6 u t H1 locs ht hvm hw hB hz1 hk1 hS => ?_)
    obtain ⟨hP1, hK1, hD1⟩ := hB
    rw [ht] at hP1
    obtain ⟨hP, hD⟩ := va_join (wr := (wV x xa r cQ ad ++ wR r ra cI (va_up ri 4 (ri 4 ||| ((1 : Int32) <<< (nI z &&& 31)))) (upd rv z u2) ++ wF (ad 0 0) (ad 0 1) (ad 0 2) (ad 0 3) (ad 0 4) cI (FI 0) (FA 0) ++ wF (ad 1 0) (ad 1 1) (ad 1 2) (ad 1 3) (ad 1 4) cI (FI 1) (FA 1) ++ wF (ad 2 0) (ad 2 1) (ad 2 2) (ad 2 3) (ad 2 4) cI (FI 2) (FA 2) ++ wF (ad 3 0) (ad 3 1) (ad 3 2) (ad 3 3) (ad 3 4) cI (FI 3) (FA 3) ++ wO o cJ og)) (w1 := (wM y y1 y2 y3 y4 y5 y6 y7 y8 y9 y10 cI (va_up (va_up mi 0 0) 6 (mi 6 ||| ((1 : Int32) <<< (nI z &&& 31)))) (va_up ma 9 (upd (ma 9) z u2)))) hP hD [24, 25, 26, 27, 28, 29, 30, 31, 32, 33, 34] [0, 1, 2, 3, 4, 5, 6, 7, 8, 9, 10, 11, 12, 13, 14, 15, 16, 17, 18, 19, 20, 21, 22, 23, 35] rfl rfl (by decide) (by decide) hk1 hFc hP1 hD1
    generalize H1 = H at hP hS ⊢
    have hP := hP.sub (ws' := (wV x xa r cQ ad ++ wR r ra cI (va_up ri 4 (ri 4 ||| ((1 : Int32) <<< (nI z &&& 31)))) (upd rv z u2) ++ wF (ad 0 0) (ad 0 1) (ad 0 2) (ad 0 3) (ad 0 4) cI (FI 0) (FA 0) ++ wF (ad 1 0) (ad 1 1) (ad 1 2) (ad 1 3) (ad 1 4) cI (FI 1) (FA 1) ++ wF (ad 2 0) (ad 2 1) (ad 2 2) (ad 2 3) (ad 2 4) cI (FI 2) (FA 2) ++ wF (ad 3 0) (ad 3 1) (ad 3 2) (ad 3 3) (ad 3 4) cI (FI 3) (FA 3) ++ wM y y1 y2 y3 y4 y5 y6 y7 y8 y9 y10 cI (va_up (va_up mi 0 0) 6 (mi 6 ||| ((1 : Int32) <<< (nI z &&& 31)))) (va_up ma 9 (upd (ma 9) z u2)) ++ wO o cJ og)) [0, 1, 2, 3, 4, 5, 6, 7, 8, 9, 10, 11, 12, 13, 14, 15, 16, 17, 18, 19, 20, 21, 22, 23, 25, 26, 27, 28, 29, 30, 31, 32, 33, 34, 35, 24] rfl
    have hD := hD.sub (ws' := (wV x xa r cQ ad ++ wR r ra cI (va_up ri 4 (ri 4 ||| ((1 : Int32) <<< (nI z &&& 31)))) (upd rv z u2) ++ wF (ad 0 0) (ad 0 1) (ad 0 2) (ad 0 3) (ad 0 4) cI (FI 0) (FA 0) ++ wF (ad 1 0) (ad 1 1) (ad 1 2) (ad 1 3) (ad 1 4) cI (FI 1) (FA 1) ++ wF (ad 2 0) (ad 2 1) (ad 2 2) (ad 2 3) (ad 2 4) cI (FI 2) (FA 2) ++ wF (ad 3 0) (ad 3 1) (ad 3 2) (ad 3 3) (ad 3 4) cI (FI 3) (FA 3) ++ wM y y1 y2 y3 y4 y5 y6 y7 y8 y9 y10 cI (va_up (va_up mi 0 0) 6 (mi 6 ||| ((1 : Int32) <<< (nI z &&& 31)))) (va_up ma 9 (upd (ma 9) z u2)) ++ wO o cJ og)) [0, 1, 2, 3, 4, 5, 6, 7, 8, 9, 10, 11, 12, 13, 14, 15, 16, 17, 18, 19, 20, 21, 22, 23, 25, 26, 27, 28, 29, 30, 31, 32, 33, 34, 35, 24] (by decide) rfl
    have hP : va_P (dC, dI) vwCl (wV x xa r cQ ad ++ wR r ra cI (va_up ri 4 (ri 4 ||| ((1 : Int32) <<< (nI z &&& 31)))) (upd rv z u2) ++ wF (ad 0 0) (ad 0 1) (ad 0 2) (ad 0 3) (ad 0 4) cI (FI 0) (FA 0) ++ wF (ad 1 0) (ad 1 1) (ad 1 2) (ad 1 3) (ad 1 4) cI (FI 1) (FA 1) ++ wF (ad 2 0) (ad 2 1) (ad 2 2) (ad 2 3) (ad 2 4) cI (FI 2) (FA 2) ++ wF (ad 3 0) (ad 3 1) (ad 3 2) (ad 3 3) (ad 3 4) cI (FI 3) (FA 3) ++ wM y y1 y2 y3 y4 y5 y6 y7 y8 y9 y10 cI (va_up (va_up mi 0 0) 6 (mi 6 ||| ((1 : Int32) <<< (nI z &&& 31)))) (va_up ma 9 (upd (ma 9) z u2)) ++ wO o cJ og) H := hP
    have hD : va_D A (wV x xa r cQ ad ++ wR r ra cI (va_up ri 4 (ri 4 ||| ((1 : Int32) <<< (nI z &&& 31)))) (upd rv z u2) ++ wF (ad 0 0) (ad 0 1) (ad 0 2) (ad 0 3) (ad 0 4) cI (FI 0) (FA 0) ++ wF (ad 1 0) (ad 1 1) (ad 1 2) (ad 1 3) (ad 1 4) cI (FI 1) (FA 1) ++ wF (ad 2 0) (ad 2 1) (ad 2 2) (ad 2 3) (ad 2 4) cI (FI 2) (FA 2) ++ wF (ad 3 0) (ad 3 1) (ad 3 2) (ad 3 3) (ad 3 4) cI (FI 3) (FA 3) ++ wM y y1 y2 y3 y4 y5 y6 y7 y8 y9 y10 cI (va_up (va_up mi 0 0) 6 (mi 6 ||| ((1 : Int32) <<< (nI z &&& 31)))) (va_up ma 9 (upd (ma 9) z u2)) ++ wO o cJ og) := hD
    have hw : r_6 = 1 := hw
    subst hw
    refine lv_icmp_eq (tgt := 949) hx hb dLw_law_226 (by decide) (fun _ => ?_) (fun c_7 => absurd c_7 (by decide))
    refine W.widen (k := 36 + (tn + 1)) (n := 5882 + 6 * (tn + 1)) (by omega) (by omega) ?_
    exact K FI FA (va_up ri 4 (ri 4 ||| ((1 : Int32) <<< (nI z &&& 31)))) (upd rv z u2) (va_up (va_up mi 0 0) 6 (mi 6 ||| ((1 : Int32) <<< (nI z &&& 31)))) (va_up ma 9 (upd (ma 9) z u2)) og H locs ls (rA.writes u2 hz hR0) hP hD hS (lv_sub hl [0, 1, 2, 3, 4] rfl)
