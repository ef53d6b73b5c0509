theorem arrV_congr {cA : ClassId} {n : Nat} {f g : Nat → Value} (h : ∀ j, j < n → f j = g j) : arrV cA n f = arrV cA n g := by
  unfold arrV
  have e : (fun (j : Fin n) => f j.val) = fun j => g j.val := funext fun j => h j.val j.isLt
  rw [e]
/-- an array of references by another function that agrees within it -/
theorem va_P_q {D : va_G} {cl : List vw_C} {ws ws' : va_W} {H : Heap} {a n q : Nat} {cA : ClassId} {f g : Nat → Option Nat} (hP : va_P D cl ws H) (hq : ws[q]? = some (a, .inl (cA, n, .inr (.inr (.inr (.inr f)))))) (h : ∀ j, j < n → f j = g j) (e : ws.set q (a, .inl (cA, n, .inr (.inr (.inr (.inr g))))) = ws') : va_P D cl ws' H := by
  subst e
  have hl := (List.getElem?_eq_some_iff.mp hq).1
  intro k x hk
  by_cases hkq : k = q
  · subst hkq
    rw [List.getElem?_set_self hl] at hk
    cases hk
    have h1 : H[a]? = some (vp_cell cA (n, .inr (.inr (.inr (.inr f))))) := hP k _ hq
    show H[a]? = some (vp_cell cA (n, .inr (.inr (.inr (.inr g)))))
    rw [h1, vp_cell_q, vp_cell_q, arrV_congr (fun j hj => by rw [h j hj])]
  · rw [List.getElem?_set_ne (Ne.symm hkq)] at hk
    exact hP k x hk
/-- the class of an array of objects is the one -/
theorem cq_eq {D : va_G} {cl : List vw_C} {cI cQ cA : ClassId} {C : String} {s : State} (h : va_K D cl ([(cI, .int), (cQ, .object C)] ++ [(cA, .object C)]) s) : cA = cQ := by
  obtain ⟨k1, c1, -, -, -, h1⟩ := (h.2 1 _ rfl).2
  obtain ⟨k2, c2, -, -, -, h2⟩ := (h.2 2 _ rfl).2
  exact Option.some.inj (h2.symm.trans h1)
section HQ
variable {p : Program} {l : Launch} {e : Env} {R : Room} {s : State} {m : MethodId} {args : Array Value} {below : List Frame} {meth : Method} {c : Code} {H : Heap} {locs : List Loc} {cells slots : Nat} {Q : State → Prop}
variable {cc : ByteArray} {pc : Nat} {ls : Array Slot} {rest : List Value} {D : va_G} {cl : List vw_C} {A : Nat → Prop} {a : Nat} {tys : List (ClassId × FieldType)} {ws : va_W} {H0 : Heap}
theorem vq_aast {k : Nat} (hexec : p.tables.exec = Jvm.exec) (hb : c.code = cc) (hK : va_K D cl tys s) (hP : va_P D cl ws H) (hD : va_D A ws) (hS : va_S A H0 H locs) (q0 t0 qk ci : Nat) {cA : ClassId} {r : vw_C} {n v : Nat} {vs : List Value} {f : Nat → Option Nat} (ha : ws[q0]? = some (a, .inl (cA, n, .inr (.inr (.inr (.inr f)))))) (ht : tys[t0]? = some (cA, .object r.1)) (hv : ws[qk]? = some (v, .inr (ci, vs))) (hc : cl[ci]? = some r) {i : Int32} (hi : i = nI k) (hk : k < n) (hn : n < 2 ^ 31) (hdg : decode cc pc = .ok (.aastore, 1))
    (kk : ∀ (H1 : Heap) (locs1 : List Loc), va_P D cl (ws.set q0 (a, .inl (cA, n, .inr (.inr (.inr (.inr (va_up f k (some v)))))))) H1 → va_D A (ws.set q0 (a, .inl (cA, n, .inr (.inr (.inr (.inr (va_up f k (some v)))))))) → va_S A H0 H1 locs1 → W p l e R s m args below meth c H1 locs1 cells slots Q (F0 m (pc + 1) ls rest)) : W p l e R s m args below meth c H locs cells slots Q (F0 m pc ls (.ref v :: .int i :: .ref a :: rest)) := by
  subst hi
  refine va_astq hexec hb hK hP hD hS q0 t0 qk ci ha ht hv hc (vp_in_nI hk hn) hdg ?_
  rw [nI_clamp (Nat.lt_trans hk hn)]
  exact kk
end HQ
/-- the versions, as the reference has them, and as the class has them -/
def s_cl (v : Int32) : Int32 := if 1 ≤ v then (if v ≤ nI 16 then v else nI 16) else 1
set_option maxHeartbeats 4000000 in
set_option maxRecDepth 100000 in
/-- Arrays.fill of 272 ints -/
theorem k_A_fill272 (l : Launch) (dC : Nat → ClassId) (dI : Nat → Nat → Nat) (sz : Nat) (o : Nat) (cI : ClassId) (f : Nat → Int32) (v : Int32) : Met l yJa_fill wsJa_fill ({ frames := 1, cells := 0, slots := 0, locals := 40 }) (va_Pc [.ref o, .int v] (fun U => U.heap.size = sz ∧ va_P (dC, dI) vwCl ([(o, .inl (cI, 272, .inl f))]) U.heap ∧ va_K (dC, dI) vwCl [(cI, .int)] U ∧ va_D (fun _ => True) ([(o, .inl (cI, 272, .inl f))]))) (va_Qv (fun (_ : Unit) => True) (fun _ t => va_P (dC, dI) vwCl ([(o, .inl (cI, 272, .inl (s_fill v f 272)))]) t.heap ∧ va_K (dC, dI) vwCl [(cI, .int)] t ∧ va_D (va_A ([(o, .inl (cI, 272, .inl f))]) sz) ([(o, .inl (cI, 272, .inl (s_fill v f 272)))])) (va_A ([(o, .inl (cI, 272, .inl f))]) sz)) 0 0 (va_A ([(o, .inl (cI, 272, .inl f))]) sz) := by
  refine Met.ofW (cc := cJa_fill) (maxL := 4) (ret := none) (by decide) rfl ?_
  intro p e s m args below meth c s₁ B hml hv
  obtain ⟨rfl, hsz, hP, hK, hD0⟩ := hv
  have hx := B.exec
  have hb := B.bytes
  have hr := B.returns
  have hts0 := atoms_spec (ws := wsJa_fill) B.pre
  have hts := fun (w : Cond) (h : w ∈ lw_g) => hts0 w (List.mem_cons_of_mem _ h)
  have hown : s.vm.findClass RJa = some m.cls := findClass_of_methodNamed B.named
  have hlocks := B.notSynchronized
  subst hsz
  have hD := hD0.self (sz := s.heap.size)
  generalize hAe : va_A ([(o, .inl (cI, 272, .inl f))]) s.heap.size = A at hD ⊢
  have hA : ∀ q : Nat, s.heap.size ≤ q → A q := fun q h => by rw [← hAe]; exact Or.inr h
  have hS : va_S A s.heap s.heap [] := va_S.rf
  have hP : va_P (dC, dI) vwCl ([(o, .inl (cI, 272, .inl f))]) s.heap := hP
  have hl := lv_entry ([.ref o, .int v]) (n := 4) (Nat.le_of_ble_eq_true rfl)
  rw [lg_entry_eq]
  generalize (lg_sl ([.ref o, .int v]) ++ List.replicate (4 - (lg_sl ([.ref o, .int v])).length) Slot.unset).toArray = ls at hl ⊢
  have hl : lv_has ls 4 [(0, .ref o), (1, .int v)] := hl
  refine lv_iconst (v := 0) hx hb dJa_fill_0 (by decide) ?_
  refine lv_istore_n (lv' := [(2, .int 0), (0, .ref o), (1, .int v)]) hx hb dJa_fill_1 rfl hl (by decide) rfl (fun ls hl => ?_)
  refine lv_aload_n hx hb dJa_fill_2 rfl (lv_at hl 1 rfl) ?_
  refine va_alen (v := nI 272) hx hb hK hP 0 0 rfl rfl rfl dJa_fill_3 ?_
  refine lv_istore_n (lv' := [(3, .int (nI 272)), (2, .int 0), (0, .ref o), (1, .int v)]) hx hb dJa_fill_4 rfl hl (by decide) rfl (fun ls hl => ?_)
  refine wl_rw (σ := Nat × Heap × List Loc × Array Slot) (fun z9 => (z9.2.1, z9.2.2.1, F0 m 5 z9.2.2.2 [])) (fun z9 => z9.1 ≤ 272 ∧ va_P (dC, dI) vwCl ([(o, .inl (cI, 272, .inl (s_fill v f z9.1)))]) z9.2.1 ∧ va_D A ([(o, .inl (cI, 272, .inl (s_fill v f z9.1)))]) ∧ va_S A s.heap z9.2.1 z9.2.2.1 ∧ lv_has z9.2.2.2 4 [(2, .int (nI z9.1)), (3, .int (nI 272)), (0, .ref o), (1, .int v)]) (fun z9 => 272 - z9.1) ?_ (0, s.heap, [], ls) ⟨by omega, hP, hD, hS, lv_sub hl [1, 0, 2, 3] rfl⟩
  rintro ⟨j, H, locs, ls⟩ ⟨hj, hP, hD, hS, hl⟩ ih
  have hj : j ≤ 272 := hj
  have hP : va_P (dC, dI) vwCl ([(o, .inl (cI, 272, .inl (s_fill v f j)))]) H := hP
  have hD : va_D A ([(o, .inl (cI, 272, .inl (s_fill v f j)))]) := hD
  have hS : va_S A s.heap H locs := hS
  have hl : lv_has ls 4 [(2, .int (nI j)), (3, .int (nI 272)), (0, .ref o), (1, .int v)] := hl
  show W p l e _ s m _ below meth c H locs _ _ _ (F0 m 5 ls [])
  refine lv_iload_n hx hb dJa_fill_5 rfl (lv_at hl 0 rfl) ?_
  refine lv_iload_n hx hb dJa_fill_6 rfl (lv_at hl 1 rfl) ?_
  refine lv_icmp_ge (tgt := 20) hx hb dJa_fill_7 (by decide) (fun c_1 => ?_) (fun c_1 => ?_)
  · skip
    have hj9 : j = 272 := lp_x (by decide) hj c_1
    subst hj9
    have hP9 : va_P (dC, dI) vwCl ([(o, .inl (cI, 272, .inl (s_fill v f 272)))]) H := by exact hP
    have hD9 : va_D A ([(o, .inl (cI, 272, .inl (s_fill v f 272)))]) := by exact hD
    exact W.vret hx hb hr (fun t ht hW => ⟨⟨(), rfl, trivial, by rw [ht]; exact hP9, va_K.moved hW.alike hK, hD9⟩, hS.F ht⟩) hS.2.2 dJa_fill_20
  · skip
    have hj : j < 272 := lp_c (by decide) hj c_1
    refine lv_aload_n hx hb dJa_fill_10 rfl (lv_at hl 2 rfl) ?_
    refine lv_iload_n hx hb dJa_fill_11 rfl (lv_at hl 0 rfl) ?_
    refine lv_iload_n hx hb dJa_fill_12 rfl (lv_at hl 3 rfl) ?_
    refine vq_iast (k := j) (f := s_fill v f j) hx hb hK hP hD hS 0 0 rfl rfl rfl (by omega) (by decide) dJa_fill_13 (fun H locs hP hD hS => ?_)
    have hP : va_P (dC, dI) vwCl ([(o, .inl (cI, 272, .inl (upd (s_fill v f j) j v)))]) H := hP
    have hD : va_D A ([(o, .inl (cI, 272, .inl (upd (s_fill v f j) j v)))]) := hD
    refine lv_iinc (v := nI (j + 1)) (lv' := [(2, .int (nI (j + 1))), (3, .int (nI 272)), (0, .ref o), (1, .int v)]) hx hb dJa_fill_14 hl (k := 0) rfl (by first | exact nI_1 _ | (show _ + (1 : Int32) = _; exact nI_1 _)) (by decide) rfl (fun ls hl => ?_)
    refine lv_goto (tgt := 5) hx hb dJa_fill_17 (by decide) ?_
    have hl9 : lv_has ls 4 [(2, .int (nI (j + 1))), (3, .int (nI 272)), (0, .ref o), (1, .int v)] := by first | exact lv_sub hl [0, 1, 2, 3] rfl | (simp only [s_fill]; exact lv_sub hl [0, 1, 2, 3] rfl)
    have hP9 : va_P (dC, dI) vwCl ([(o, .inl (cI, 272, .inl (s_fill v f (j + 1))))]) H := by first | exact hP | (simp only [s_fill]; exact hP)
    have hD9 : va_D A ([(o, .inl (cI, 272, .inl (s_fill v f (j + 1))))]) := by first | exact hD | (simp only [s_fill]; exact hD)
    exact ih (j + 1, H, locs, ls) ⟨hj, hP9, hD9, hS, hl9⟩ (by show 272 - (j + 1) < 272 - j; omega)
set_option maxHeartbeats 4000000 in
set_option maxRecDepth 100000 in
/-- Arrays.fill of 16 ints -/
theorem k_A_fill16 (l : Launch) (dC : Nat → ClassId) (dI : Nat → Nat → Nat) (sz : Nat) (o : Nat) (cI : ClassId) (f : Nat → Int32) (v : Int32) : Met l yJa_fill wsJa_fill ({ frames := 1, cells := 0, slots := 0, locals := 40 }) (va_Pc [.ref o, .int v] (fun U => U.heap.size = sz ∧ va_P (dC, dI) vwCl ([(o, .inl (cI, 16, .inl f))]) U.heap ∧ va_K (dC, dI) vwCl [(cI, .int)] U ∧ va_D (fun _ => True) ([(o, .inl (cI, 16, .inl f))]))) (va_Qv (fun (_ : Unit) => True) (fun _ t => va_P (dC, dI) vwCl ([(o, .inl (cI, 16, .inl (s_fill v f 16)))]) t.heap ∧ va_K (dC, dI) vwCl [(cI, .int)] t ∧ va_D (va_A ([(o, .inl (cI, 16, .inl f))]) sz) ([(o, .inl (cI, 16, .inl (s_fill v f 16)))])) (va_A ([(o, .inl (cI, 16, .inl f))]) sz)) 0 0 (va_A ([(o, .inl (cI, 16, .inl f))]) sz) := by
  refine Met.ofW (cc := cJa_fill) (maxL := 4) (ret := none) (by decide) rfl ?_
  intro p e s m args below meth c s₁ B hml hv
  obtain ⟨rfl, hsz, hP, hK, hD0⟩ := hv
  have hx := B.exec
  have hb := B.bytes
  have hr := B.returns
  have hts0 := atoms_spec (ws := wsJa_fill) B.pre
  have hts := fun (w : Cond) (h : w ∈ lw_g) => hts0 w (List.mem_cons_of_mem _ h)
  have hown : s.vm.findClass RJa = some m.cls := findClass_of_methodNamed B.named
  have hlocks := B.notSynchronized
  subst hsz
  have hD := hD0.self (sz := s.heap.size)
  generalize hAe : va_A ([(o, .inl (cI, 16, .inl f))]) s.heap.size = A at hD ⊢
  have hA : ∀ q : Nat, s.heap.size ≤ q → A q := fun q h => by rw [← hAe]; exact Or.inr h
  have hS : va_S A s.heap s.heap [] := va_S.rf
  have hP : va_P (dC, dI) vwCl ([(o, .inl (cI, 16, .inl f))]) s.heap := hP
  have hl := lv_entry ([.ref o, .int v]) (n := 4) (Nat.le_of_ble_eq_true rfl)
  rw [lg_entry_eq]
  generalize (lg_sl ([.ref o, .int v]) ++ List.replicate (4 - (lg_sl ([.ref o, .int v])).length) Slot.unset).toArray = ls at hl ⊢
  have hl : lv_has ls 4 [(0, .ref o), (1, .int v)] := hl
  refine lv_iconst (v := 0) hx hb dJa_fill_0 (by decide) ?_
  refine lv_istore_n (lv' := [(2, .int 0), (0, .ref o), (1, .int v)]) hx hb dJa_fill_1 rfl hl (by decide) rfl (fun ls hl => ?_)
  refine lv_aload_n hx hb dJa_fill_2 rfl (lv_at hl 1 rfl) ?_
  refine va_alen (v := nI 16) hx hb hK hP 0 0 rfl rfl rfl dJa_fill_3 ?_
  refine lv_istore_n (lv' := [(3, .int (nI 16)), (2, .int 0), (0, .ref o), (1, .int v)]) hx hb dJa_fill_4 rfl hl (by decide) rfl (fun ls hl => ?_)
  refine wl_rw (σ := Nat × Heap × List Loc × Array Slot) (fun z9 => (z9.2.1, z9.2.2.1, F0 m 5 z9.2.2.2 [])) (fun z9 => z9.1 ≤ 16 ∧ va_P (dC, dI) vwCl ([(o, .inl (cI, 16, .inl (s_fill v f z9.1)))]) z9.2.1 ∧ va_D A ([(o, .inl (cI, 16, .inl (s_fill v f z9.1)))]) ∧ va_S A s.heap z9.2.1 z9.2.2.1 ∧ lv_has z9.2.2.2 4 [(2, .int (nI z9.1)), (3, .int (nI 16)), (0, .ref o), (1, .int v)]) (fun z9 => 16 - z9.1) ?_ (0, s.heap, [], ls) ⟨by omega, hP, hD, hS, lv_sub hl [1, 0, 2, 3] rfl⟩
  rintro ⟨j, H, locs, ls⟩ ⟨hj, hP, hD, hS, hl⟩ ih
  have hj : j ≤ 16 := hj
  have hP : va_P (dC, dI) vwCl ([(o, .inl (cI, 16, .inl (s_fill v f j)))]) H := hP
  have hD : va_D A ([(o, .inl (cI, 16, .inl (s_fill v f j)))]) := hD
  have hS : va_S A s.heap H locs := hS
  have hl : lv_has ls 4 [(2, .int (nI j)), (3, .int (nI 16)), (0, .ref o), (1, .int v)] := hl
  show W p l e _ s m _ below meth c H locs _ _ _ (F0 m 5 ls [])
  refine lv_iload_n hx hb dJa_fill_5 rfl (lv_at hl 0 rfl) ?_
  refine lv_iload_n hx hb dJa_fill_6 rfl (lv_at hl 1 rfl) ?_
  refine lv_icmp_ge (tgt := 20) hx hb dJa_fill_7 (by decide) (fun c_1 => ?_) (fun c_1 => ?_)
  · skip
    have hj9 : j = 16 := lp_x (by decide) hj c_1
    subst hj9
    have hP9 : va_P (dC, dI) vwCl ([(o, .inl (cI, 16, .inl (s_fill v f 16)))]) H := by exact hP
    have hD9 : va_D A ([(o, .inl (cI, 16, .inl (s_fill v f 16)))]) := by exact hD
    exact W.vret hx hb hr (fun t ht hW => ⟨⟨(), rfl, trivial, by rw [ht]; exact hP9, va_K.moved hW.alike hK, hD9⟩, hS.F ht⟩) hS.2.2 dJa_fill_20
  · skip
    have hj : j < 16 := lp_c (by decide) hj c_1
    refine lv_aload_n hx hb dJa_fill_10 rfl (lv_at hl 2 rfl) ?_
    refine lv_iload_n hx hb dJa_fill_11 rfl (lv_at hl 0 rfl) ?_
    refine lv_iload_n hx hb dJa_fill_12 rfl (lv_at hl 3 rfl) ?_
    refine vq_iast (k := j) (f := s_fill v f j) hx hb hK hP hD hS 0 0 rfl rfl rfl (by omega) (by decide) dJa_fill_13 (fun H locs hP hD hS => ?_)
    have hP : va_P (dC, dI) vwCl ([(o, .inl (cI, 16, .inl (upd (s_fill v f j) j v)))]) H := hP
    have hD : va_D A ([(o, .inl (cI, 16, .inl (upd (s_fill v f j) j v)))]) := hD
    refine lv_iinc (v := nI (j + 1)) (lv' := [(2, .int (nI (j + 1))), (3, .int (nI 16)), (0, .ref o), (1, .int v)]) hx hb dJa_fill_14 hl (k := 0) rfl (by first | exact nI_1 _ | (show _ + (1 : Int32) = _; exact nI_1 _)) (by decide) rfl (fun ls hl => ?_)
    refine lv_goto (tgt := 5) hx hb dJa_fill_17 (by decide) ?_
    have hl9 : lv_has ls 4 [(2, .int (nI (j + 1))), (3, .int (nI 16)), (0, .ref o), (1, .int v)] := by first | exact lv_sub hl [0, 1, 2, 3] rfl | (simp only [s_fill]; exact lv_sub hl [0, 1, 2, 3] rfl)
    have hP9 : va_P (dC, dI) vwCl ([(o, .inl (cI, 16, .inl (s_fill v f (j + 1))))]) H := by first | exact hP | (simp only [s_fill]; exact hP)
    have hD9 : va_D A ([(o, .inl (cI, 16, .inl (s_fill v f (j + 1))))]) := by first | exact hD | (simp only [s_fill]; exact hD)
    exact ih (j + 1, H, locs, ls) ⟨hj, hP9, hD9, hS, hl9⟩ (by show 16 - (j + 1) < 16 - j; omega)
set_option maxHeartbeats 4000000 in
set_option maxRecDepth 100000 in
/-- reset() -/
theorem k_F_reset (l : Launch) (dC : Nat → ClassId) (dI : Nat → Nat → Nat) (sz : Nat) (f f1 f2 f3 f4 : Nat) (cI : ClassId) (fi : Nat → Int32) (fa : Nat → Nat → Int32) : Met l yFo_reset wsFo_reset ({ frames := 2, cells := 0, slots := 0, locals := 80 }) (va_Pc [.ref f] (fun U => U.heap.size = sz ∧ va_P (dC, dI) vwCl (wF f f1 f2 f3 f4 cI fi fa) U.heap ∧ va_K (dC, dI) vwCl [(cI, .int)] U ∧ va_D (fun _ => True) (wF f f1 f2 f3 f4 cI fi fa))) (va_Qv (fun (_ : Unit) => True) (fun _ t => va_P (dC, dI) vwCl (wF f f1 f2 f3 f4 cI (s_rsi fi) (s_rsa fa)) t.heap ∧ va_K (dC, dI) vwCl [(cI, .int)] t ∧ va_D (va_A (wF f f1 f2 f3 f4 cI fi fa) sz) (wF f f1 f2 f3 f4 cI (s_rsi fi) (s_rsa fa))) (va_A (wF f f1 f2 f3 f4 cI fi fa) sz)) 0 0 (va_A (wF f f1 f2 f3 f4 cI fi fa) sz) := by
  refine Met.ofW (cc := cFo_reset) (maxL := 1) (ret := none) (by decide) rfl ?_
  intro p e s m args below meth c s₁ B hml hv
  obtain ⟨rfl, hsz, hP, hK, hD0⟩ := hv
  have hx := B.exec
  have hb := B.bytes
  have hr := B.returns
  have hts0 := atoms_spec (ws := wsFo_reset) B.pre
  have hts := fun (w : Cond) (h : w ∈ lw_g) => hts0 w (List.mem_cons_of_mem _ h)
  have hown : s.vm.findClass RFo = some m.cls := findClass_of_methodNamed B.named
  have hlocks := B.notSynchronized
  subst hsz
  have hD := hD0.self (sz := s.heap.size)
  generalize hAe : va_A (wF f f1 f2 f3 f4 cI fi fa) s.heap.size = A at hD ⊢
  have hA : ∀ q : Nat, s.heap.size ≤ q → A q := fun q h => by rw [← hAe]; exact Or.inr h
  have hS : va_S A s.heap s.heap [] := va_S.rf
  have hP : va_P (dC, dI) vwCl (wF f f1 f2 f3 f4 cI fi fa) s.heap := hP
  have hl := lv_entry ([.ref f]) (n := 1) (Nat.le_of_ble_eq_true rfl)
  rw [lg_entry_eq]
  generalize (lg_sl ([.ref f]) ++ List.replicate (1 - (lg_sl ([.ref f])).length) Slot.unset).toArray = ls at hl ⊢
  have hl : lv_has ls 1 [(0, .ref f)] := hl
  refine lv_aload_n hx hb dFo_reset_0 rfl (lv_at hl 0 rfl) ?_
  refine lv_iconst (v := 0) hx hb dFo_reset_1 (by decide) ?_
  refine va_put (D := (dC, dI)) (ci := 0) (v := .int 0) (ty := .int) (C := RFo) (T := TFo) (N := 10) hx hb hts inFo tyFo tyFo_ok nmFo hown hK hP hD hS 0 rfl rfl 1 (by decide) (hts _ in_6) (fun _ h9 => h9) rfl (by decide +kernel) rfl rfl (Nat.le_of_ble_eq_true rfl) dFo_reset_2 (fun H locs hP hD hS => ?_)
  have hP : va_P (dC, dI) vwCl (wF f f1 f2 f3 f4 cI (va_up fi 1 0) fa) H := hP
  have hD : va_D A (wF f f1 f2 f3 f4 cI (va_up fi 1 0) fa) := hD
  refine lv_aload_n hx hb dFo_reset_5 rfl (lv_at hl 0 rfl) ?_
  refine lv_iconst (v := 0) hx hb dFo_reset_6 (by decide) ?_
  refine va_put (D := (dC, dI)) (ci := 0) (v := .int 0) (ty := .int) (C := RFo) (T := TFo) (N := 10) hx hb hts inFo tyFo tyFo_ok nmFo hown hK hP hD hS 0 rfl rfl 2 (by decide) (hts _ in_13) (fun _ h9 => h9) rfl (by decide +kernel) rfl rfl (Nat.le_of_ble_eq_true rfl) dFo_reset_7 (fun H locs hP hD hS => ?_)
  have hP : va_P (dC, dI) vwCl (wF f f1 f2 f3 f4 cI (va_up (va_up fi 1 0) 2 0) fa) H := hP
  have hD : va_D A (wF f f1 f2 f3 f4 cI (va_up (va_up fi 1 0) 2 0) fa) := hD
  refine lv_aload_n hx hb dFo_reset_10 rfl (lv_at hl 0 rfl) ?_
  refine lv_iconst (v := 0) hx hb dFo_reset_11 (by decide) ?_
  refine va_put (D := (dC, dI)) (ci := 0) (v := .int 0) (ty := .int) (C := RFo) (T := TFo) (N := 10) hx hb hts inFo tyFo tyFo_ok nmFo hown hK hP hD hS 0 rfl rfl 3 (by decide) (hts _ in_65) (fun _ h9 => h9) rfl (by decide +kernel) rfl rfl (Nat.le_of_ble_eq_true rfl) dFo_reset_12 (fun H locs hP hD hS => ?_)
  have hP : va_P (dC, dI) vwCl (wF f f1 f2 f3 f4 cI (va_up (va_up (va_up fi 1 0) 2 0) 3 0) fa) H := hP
  have hD : va_D A (wF f f1 f2 f3 f4 cI (va_up (va_up (va_up fi 1 0) 2 0) 3 0) fa) := hD
  refine lv_aload_n hx hb dFo_reset_15 rfl (lv_at hl 0 rfl) ?_
  refine lv_iconst (v := 0) hx hb dFo_reset_16 (by decide) ?_
  refine va_put (D := (dC, dI)) (ci := 0) (v := .int 0) (ty := .int) (C := RFo) (T := TFo) (N := 10) hx hb hts inFo tyFo tyFo_ok nmFo hown hK hP hD hS 0 rfl rfl 4 (by decide) (hts _ in_64) (fun _ h9 => h9) rfl (by decide +kernel) rfl rfl (Nat.le_of_ble_eq_true rfl) dFo_reset_17 (fun H locs hP hD hS => ?_)
  have hP : va_P (dC, dI) vwCl (wF f f1 f2 f3 f4 cI (va_up (va_up (va_up (va_up fi 1 0) 2 0) 3 0) 4 0) fa) H := hP
  have hD : va_D A (wF f f1 f2 f3 f4 cI (va_up (va_up (va_up (va_up fi 1 0) 2 0) 3 0) 4 0) fa) := hD
  refine lv_aload_n hx hb dFo_reset_20 rfl (lv_at hl 0 rfl) ?_
  refine lv_iconst (v := 0) hx hb dFo_reset_21 (by decide) ?_
  refine va_put (D := (dC, dI)) (ci := 0) (v := .int 0) (ty := .int) (C := RFo) (T := TFo) (N := 10) hx hb hts inFo tyFo tyFo_ok nmFo hown hK hP hD hS 0 rfl rfl 5 (by decide) (hts _ in_70) (fun _ h9 => h9) rfl (by decide +kernel) rfl rfl (Nat.le_of_ble_eq_true rfl) dFo_reset_22 (fun H locs hP hD hS => ?_)
  have hP : va_P (dC, dI) vwCl (wF f f1 f2 f3 f4 cI (va_up (va_up (va_up (va_up (va_up fi 1 0) 2 0) 3 0) 4 0) 5 0) fa) H := hP
  have hD : va_D A (wF f f1 f2 f3 f4 cI (va_up (va_up (va_up (va_up (va_up fi 1 0) 2 0) 3 0) 4 0) 5 0) fa) := hD
  refine lv_aload_n hx hb dFo_reset_25 rfl (lv_at hl 0 rfl) ?_
  refine va_get (D := (dC, dI)) (ci := 0) (v := .ref f1) (C := RFo) (T := TFo) (N := 10) hx hb hts inFo hown hK hP 0 rfl rfl 6 (by decide) (hts _ in_14) (fun _ h9 => h9) rfl dFo_reset_26 ?_
  refine lv_iconst (v := 0) hx hb dFo_reset_29 (by decide) ?_
  have hPc := hP.sub (ws' := [(f1, .inl (cI, 272, .inl (fa 0)))]) [1] rfl
  have hDc := hD.sub (ws' := [(f1, .inl (cI, 272, .inl (fa 0)))]) [1] (by decide) rfl
  have hKc := hK.sub (tys' := [(cI, .int)]) [0] rfl
  have hFc := va_free (wc := [(f1, .inl (cI, 272, .inl (fa 0)))]) hD hS hA [1] rfl
  refine va_callv (va_runS (As := [.ref f1, .int 0]) (rest := []) ⟨hx, hb, hml, hown, hts⟩ (k_A_fill272 l dC dI H.size f1 cI (fa 0) 0) (va_cwS 2 hts (gd_S in_189 in_192 in_191 in_190) rfl rfl rfl (by decide +kernel) ⟨Nat.le_of_ble_eq_true rfl, Nat.le_of_ble_eq_true rfl⟩) ⟨fun a U g mk q => by obtain ⟨q0, q1, qP, qK, qD⟩ := q; exact ⟨q0, q1, qP, va_K.moved (u := U) (U := U.calling g mk a) (Vm.Alike.refl U.vm) qK, qD⟩, fun U hU hW => ⟨rfl, by rw [hU], by rw [hU]; exact hPc, va_K.moved hW.alike hKc, hDc.weaken (fun _ _ _ _ => trivial)⟩⟩ rfl rfl hl.1 rfl (lv_room (Nat.le_of_ble_eq_true rfl)) dFo_reset_30 ⟨Nat.le_of_ble_eq_true rfl, Nat.le_of_ble_eq_true rfl⟩) hS (fun q _ h => hFc q h) hFc (fun u t H1 locs ht hvm hw hB hz1 hk1 hS => ?_)
  obtain ⟨hP1, hK1, hD1⟩ := hB
  rw [ht] at hP1
  obtain ⟨hP, hD⟩ := va_join (wr := [(f, .inr (0, [.int (fi 0), .int 0, .int 0, .int 0, .int 0, .int 0, .ref f1, .ref f2, .ref f3, .ref f4])), (f2, .inl (cI, 16, .inl (fa 1))), (f3, .inl (cI, 16, .inl (fa 2))), (f4, .inl (cI, 16, .inl (fa 3)))]) (w1 := [(f1, .inl (cI, 272, .inl (s_fill 0 (fa 0) 272)))]) hP hD [1] [0, 2, 3, 4] rfl rfl (by decide) (by decide) hk1 hFc hP1 hD1
  generalize H1 = H at hP hS ⊢
  have hP := hP.sub (ws' := (wF f f1 f2 f3 f4 cI (va_up (va_up (va_up (va_up (va_up fi 1 0) 2 0) 3 0) 4 0) 5 0) (va_up fa 0 (s_fill 0 (fa 0) 272)))) [0, 4, 1, 2, 3] rfl
  have hD := hD.sub (ws' := (wF f f1 f2 f3 f4 cI (va_up (va_up (va_up (va_up (va_up fi 1 0) 2 0) 3 0) 4 0) 5 0) (va_up fa 0 (s_fill 0 (fa 0) 272)))) [0, 4, 1, 2, 3] (by decide) rfl
  refine lv_aload_n hx hb dFo_reset_33 rfl (lv_at hl 0 rfl) ?_
  refine va_get (D := (dC, dI)) (ci := 0) (v := .ref f2) (C := RFo) (T := TFo) (N := 10) hx hb hts inFo hown hK hP 0 rfl rfl 7 (by decide) (hts _ in_12) (fun _ h9 => h9) rfl dFo_reset_34 ?_
  refine lv_iconst (v := 0) hx hb dFo_reset_37 (by decide) ?_
  have hPc := hP.sub (ws' := [(f2, .inl (cI, 16, .inl (fa 1)))]) [2] rfl
  have hDc := hD.sub (ws' := [(f2, .inl (cI, 16, .inl (fa 1)))]) [2] (by decide) rfl
  have hKc := hK.sub (tys' := [(cI, .int)]) [0] rfl
  have hFc := va_free (wc := [(f2, .inl (cI, 16, .inl (fa 1)))]) hD hS hA [2] rfl
  refine va_callv (va_runS (As := [.ref f2, .int 0]) (rest := []) ⟨hx, hb, hml, hown, hts⟩ (k_A_fill16 l dC dI H.size f2 cI (fa 1) 0) (va_cwS 2 hts (gd_S in_189 in_192 in_191 in_190) rfl rfl rfl (by decide +kernel) ⟨Nat.le_of_ble_eq_true rfl, Nat.le_of_ble_eq_true rfl⟩) ⟨fun a U g mk q => by obtain ⟨q0, q1, qP, qK, qD⟩ := q; exact ⟨q0, q1, qP, va_K.moved (u := U) (U := U.calling g mk a) (Vm.Alike.refl U.vm) qK, qD⟩, fun U hU hW => ⟨rfl, by rw [hU], by rw [hU]; exact hPc, va_K.moved hW.alike hKc, hDc.weaken (fun _ _ _ _ => trivial)⟩⟩ rfl rfl hl.1 rfl (lv_room (Nat.le_of_ble_eq_true rfl)) dFo_reset_38 ⟨Nat.le_of_ble_eq_true rfl, Nat.le_of_ble_eq_true rfl⟩) hS (fun q _ h => hFc q h) hFc (fun u t H1 locs ht hvm hw hB hz1 hk1 hS => ?_)
  obtain ⟨hP1, hK1, hD1⟩ := hB
  rw [ht] at hP1
  obtain ⟨hP, hD⟩ := va_join (wr := [(f, .inr (0, [.int (fi 0), .int 0, .int 0, .int 0, .int 0, .int 0, .ref f1, .ref f2, .ref f3, .ref f4])), (f1, .inl (cI, 272, .inl (s_fill 0 (fa 0) 272))), (f3, .inl (cI, 16, .inl (fa 2))), (f4, .inl (cI, 16, .inl (fa 3)))]) (w1 := [(f2, .inl (cI, 16, .inl (s_fill 0 (fa 1) 16)))]) hP hD [2] [0, 1, 3, 4] rfl rfl (by decide) (by decide) hk1 hFc hP1 hD1
  generalize H1 = H at hP hS ⊢
  have hP := hP.sub (ws' := (wF f f1 f2 f3 f4 cI (va_up (va_up (va_up (va_up (va_up fi 1 0) 2 0) 3 0) 4 0) 5 0) (va_up (va_up fa 0 (s_fill 0 (fa 0) 272)) 1 (s_fill 0 (fa 1) 16)))) [0, 1, 4, 2, 3] rfl
  have hD := hD.sub (ws' := (wF f f1 f2 f3 f4 cI (va_up (va_up (va_up (va_up (va_up fi 1 0) 2 0) 3 0) 4 0) 5 0) (va_up (va_up fa 0 (s_fill 0 (fa 0) 272)) 1 (s_fill 0 (fa 1) 16)))) [0, 1, 4, 2, 3] (by decide) rfl
  refine lv_aload_n hx hb dFo_reset_41 rfl (lv_at hl 0 rfl) ?_
  refine va_get (D := (dC, dI)) (ci := 0) (v := .ref f3) (C := RFo) (T := TFo) (N := 10) hx hb hts inFo hown hK hP 0 rfl rfl 8 (by decide) (hts _ in_26) (fun _ h9 => h9) rfl dFo_reset_42 ?_
  refine lv_iconst (v := 0) hx hb dFo_reset_45 (by decide) ?_
  have hPc := hP.sub (ws' := [(f3, .inl (cI, 16, .inl (fa 2)))]) [3] rfl
  have hDc := hD.sub (ws' := [(f3, .inl (cI, 16, .inl (fa 2)))]) [3] (by decide) rfl
  have hKc := hK.sub (tys' := [(cI, .int)]) [0] rfl
  have hFc := va_free (wc := [(f3, .inl (cI, 16, .inl (fa 2)))]) hD hS hA [3] rfl
  refine va_callv (va_runS (As := [.ref f3, .int 0]) (rest := []) ⟨hx, hb, hml, hown, hts⟩ (k_A_fill16 l dC dI H.size f3 cI (fa 2) 0) (va_cwS 2 hts (gd_S in_189 in_192 in_191 in_190) rfl rfl rfl (by decide +kernel) ⟨Nat.le_of_ble_eq_true rfl, Nat.le_of_ble_eq_true rfl⟩) ⟨fun a U g mk q => by obtain ⟨q0, q1, qP, qK, qD⟩ := q; exact ⟨q0, q1, qP, va_K.moved (u := U) (U := U.calling g mk a) (Vm.Alike.refl U.vm) qK, qD⟩, fun U hU hW => ⟨rfl, by rw [hU], by rw [hU]; exact hPc, va_K.moved hW.alike hKc, hDc.weaken (fun _ _ _ _ => trivial)⟩⟩ rfl rfl hl.1 rfl (lv_room (Nat.le_of_ble_eq_true rfl)) dFo_reset_46 ⟨Nat.le_of_ble_eq_true rfl, Nat.le_of_ble_eq_true rfl⟩) hS (fun q _ h => hFc q h) hFc (fun u t H1 locs ht hvm hw hB hz1 hk1 hS => ?_)
  obtain ⟨hP1, hK1, hD1⟩ := hB
  rw [ht] at hP1
  obtain ⟨hP, hD⟩ := va_join (wr := [(f, .inr (0, [.int (fi 0), .int 0, .int 0, .int 0, .int 0, .int 0, .ref f1, .ref f2, .ref f3, .ref f4])), (f1, .inl (cI, 272, .inl (s_fill 0 (fa 0) 272))), (f2, .inl (cI, 16, .inl (s_fill 0 (fa 1) 16))), (f4, .inl (cI, 16, .inl (fa 3)))]) (w1 := [(f3, .inl (cI, 16, .inl (s_fill 0 (fa 2) 16)))]) hP hD [3] [0, 1, 2, 4] rfl rfl (by decide) (by decide) hk1 hFc hP1 hD1
  generalize H1 = H at hP hS ⊢
  have hP := hP.sub (ws' := (wF f f1 f2 f3 f4 cI (va_up (va_up (va_up (va_up (va_up fi 1 0) 2 0) 3 0) 4 0) 5 0) (va_up (va_up (va_up fa 0 (s_fill 0 (fa 0) 272)) 1 (s_fill 0 (fa 1) 16)) 2 (s_fill 0 (fa 2) 16)))) [0, 1, 2, 4, 3] rfl
  have hD := hD.sub (ws' := (wF f f1 f2 f3 f4 cI (va_up (va_up (va_up (va_up (va_up fi 1 0) 2 0) 3 0) 4 0) 5 0) (va_up (va_up (va_up fa 0 (s_fill 0 (fa 0) 272)) 1 (s_fill 0 (fa 1) 16)) 2 (s_fill 0 (fa 2) 16)))) [0, 1, 2, 4, 3] (by decide) rfl
  refine lv_aload_n hx hb dFo_reset_49 rfl (lv_at hl 0 rfl) ?_
  refine va_get (D := (dC, dI)) (ci := 0) (v := .ref f4) (C := RFo) (T := TFo) (N := 10) hx hb hts inFo hown hK hP 0 rfl rfl 9 (by decide) (hts _ in_37) (fun _ h9 => h9) rfl dFo_reset_50 ?_
  refine lv_iconst (v := 0) hx hb dFo_reset_53 (by decide) ?_
  have hPc := hP.sub (ws' := [(f4, .inl (cI, 16, .inl (fa 3)))]) [4] rfl
  have hDc := hD.sub (ws' := [(f4, .inl (cI, 16, .inl (fa 3)))]) [4] (by decide) rfl
  have hKc := hK.sub (tys' := [(cI, .int)]) [0] rfl
  have hFc := va_free (wc := [(f4, .inl (cI, 16, .inl (fa 3)))]) hD hS hA [4] rfl
  refine va_callv (va_runS (As := [.ref f4, .int 0]) (rest := []) ⟨hx, hb, hml, hown, hts⟩ (k_A_fill16 l dC dI H.size f4 cI (fa 3) 0) (va_cwS 2 hts (gd_S in_189 in_192 in_191 in_190) rfl rfl rfl (by decide +kernel) ⟨Nat.le_of_ble_eq_true rfl, Nat.le_of_ble_eq_true rfl⟩) ⟨fun a U g mk q => by obtain ⟨q0, q1, qP, qK, qD⟩ := q; exact ⟨q0, q1, qP, va_K.moved (u := U) (U := U.calling g mk a) (Vm.Alike.refl U.vm) qK, qD⟩, fun U hU hW => ⟨rfl, by rw [hU], by rw [hU]; exact hPc, va_K.moved hW.alike hKc, hDc.weaken (fun _ _ _ _ => trivial)⟩⟩ rfl rfl hl.1 rfl (lv_room (Nat.le_of_ble_eq_true rfl)) dFo_reset_54 ⟨Nat.le_of_ble_eq_true rfl, Nat.le_of_ble_eq_true rfl⟩) hS (fun q _ h => hFc q h) hFc (fun u t H1 locs ht hvm hw hB hz1 hk1 hS => ?_)
  obtain ⟨hP1, hK1, hD1⟩ := hB
  rw [ht] at hP1
  obtain ⟨hP, hD⟩ := va_join (wr := [(f, .inr (0, [.int (fi 0), .int 0, .int 0, .int 0, .int 0, .int 0, .ref f1, .ref f2, .ref f3, .ref f4])), (f1, .inl (cI, 272, .inl (s_fill 0 (fa 0) 272))), (f2, .inl (cI, 16, .inl (s_fill 0 (fa 1) 16))), (f3, .inl (cI, 16, .inl (s_fill 0 (fa 2) 16)))]) (w1 := [(f4, .inl (cI, 16, .inl (s_fill 0 (fa 3) 16)))]) hP hD [4] [0, 1, 2, 3] rfl rfl (by decide) (by decide) hk1 hFc hP1 hD1
  generalize H1 = H at hP hS ⊢
  have hP := hP.sub (ws' := (wF f f1 f2 f3 f4 cI (va_up (va_up (va_up (va_up (va_up fi 1 0) 2 0) 3 0) 4 0) 5 0) (va_up (va_up (va_up (va_up fa 0 (s_fill 0 (fa 0) 272)) 1 (s_fill 0 (fa 1) 16)) 2 (s_fill 0 (fa 2) 16)) 3 (s_fill 0 (fa 3) 16)))) [0, 1, 2, 3, 4] rfl
  have hD := hD.sub (ws' := (wF f f1 f2 f3 f4 cI (va_up (va_up (va_up (va_up (va_up fi 1 0) 2 0) 3 0) 4 0) 5 0) (va_up (va_up (va_up (va_up fa 0 (s_fill 0 (fa 0) 272)) 1 (s_fill 0 (fa 1) 16)) 2 (s_fill 0 (fa 2) 16)) 3 (s_fill 0 (fa 3) 16)))) [0, 1, 2, 3, 4] (by decide) rfl
  have hP9 : va_P (dC, dI) vwCl (wF f f1 f2 f3 f4 cI (s_rsi fi) (s_rsa fa)) H := by exact hP
  have hD9 : va_D A (wF f f1 f2 f3 f4 cI (s_rsi fi) (s_rsa fa)) := by exact hD
  exact W.vret hx hb hr (fun t ht hW => ⟨⟨(), rfl, trivial, by rw [ht]; exact hP9, va_K.moved hW.alike hK, hD9⟩, hS.F ht⟩) hS.2.2 dFo_reset_57
