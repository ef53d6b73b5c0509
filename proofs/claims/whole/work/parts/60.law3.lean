theorem in_388 : (.instantiable "VersionFold" 2 : Cond) ∈ lw_g := lw_mem (List.mem_append_right _ (List.mem_append_left _ (List.mem_of_getElem? (i := 14) rfl))) rfl
theorem in_389 : (.instantiable "VersionFoldModel" 17 : Cond) ∈ lw_g := lw_mem (List.mem_append_right _ (List.mem_append_right _ (List.mem_append_left _ (List.mem_of_getElem? (i := 156) rfl)))) rfl
theorem in_390 : (.arrayClass .long : Cond) ∈ lw_g := lw_mem (List.mem_append_right _ (List.mem_append_right _ (List.mem_append_right _ (List.mem_of_getElem? (i := 49) rfl)))) rfl
theorem in_391 : (.classLink "VersionFoldLaw" 8 "VersionFold" : Cond) ∈ lw_g := lw_mem (List.mem_append_right _ (List.mem_append_left _ (List.mem_of_getElem? (i := 13) rfl))) rfl
theorem in_392 : (.methodLink "VersionFoldLaw" 51 yLw_cell : Cond) ∈ lw_g := lw_mem (List.mem_append_right _ (List.mem_append_left _ (List.mem_of_getElem? (i := 142) rfl))) rfl
theorem in_393 : (.code yLw_cell cLw_cell 2 (some .int) : Cond) ∈ lw_g := lw_mem (List.mem_append_right _ (List.mem_append_left _ (List.mem_of_getElem? (i := 144) rfl))) rfl
theorem in_394 : (.static yLw_cell : Cond) ∈ lw_g := lw_mem (List.mem_append_right _ (List.mem_append_left _ (List.mem_of_getElem? (i := 143) rfl))) rfl
theorem in_395 : (.instanceMethod yVf_init : Cond) ∈ lw_g := lw_mem (List.mem_append_right _ (List.mem_append_left _ (List.mem_of_getElem? (i := 16) rfl))) rfl
theorem in_396 : (.code yVf_init cVf_init 4 none : Cond) ∈ lw_g := lw_mem (List.mem_append_right _ (List.mem_append_left _ (List.mem_of_getElem? (i := 17) rfl))) rfl
theorem in_397 : (.methodLink "VersionFoldLaw" 57 yVf_init : Cond) ∈ lw_g := lw_mem (List.mem_append_right _ (List.mem_append_left _ (List.mem_of_getElem? (i := 15) rfl))) rfl
theorem in_398 : (.classLink "VersionFoldLaw" 59 "VersionFoldModel" : Cond) ∈ lw_g := lw_mem (List.mem_append_right _ (List.mem_append_right _ (List.mem_append_left _ (List.mem_of_getElem? (i := 155) rfl)))) rfl
theorem in_399 : (.instanceMethod yMd_init : Cond) ∈ lw_g := lw_mem (List.mem_append_right _ (List.mem_append_right _ (List.mem_append_left _ (List.mem_of_getElem? (i := 158) rfl)))) rfl
theorem in_400 : (.code yMd_init cMd_init 2 none : Cond) ∈ lw_g := lw_mem (List.mem_append_right _ (List.mem_append_right _ (List.mem_append_left _ (List.mem_of_getElem? (i := 159) rfl)))) rfl
theorem in_401 : (.methodLink "VersionFoldLaw" 61 yMd_init : Cond) ∈ lw_g := lw_mem (List.mem_append_right _ (List.mem_append_right _ (List.mem_append_left _ (List.mem_of_getElem? (i := 157) rfl)))) rfl
def s_c0 (L : Nat) (xs : Nat → Int32) : Int32 := if L = 0 then 0 else xs 0
set_option maxHeartbeats 4000000 in
set_option maxRecDepth 100000 in
/-- cell(script, 0) -/
theorem k_L_cell (l : Launch) (b L : Nat) (xs : Nat → Int32) (hL : L ≤ 2049) : Met l yLw_cell wsLw_cell ({ frames := 1, cells := 0, slots := 0, locals := 20 }) (va_Pc [.ref b, .int 0] (fun U => va_X b L xs U U.heap)) (vp_Si (fun r => r = s_c0 L xs)) 0 0 (fun _ => False) := by
  refine Met.ofW (cc := cLw_cell) (maxL := 2) (ret := (some .int)) (by decide) rfl ?_
  intro p e s m args below meth c s₁ B hml hv
  obtain ⟨rfl, hX⟩ := hv
  have hbl : b < s.heap.size := by obtain ⟨scr, h1, -⟩ := hX; exact (Array.getElem?_eq_some_iff.mp h1).1
  have hbA : ¬ (fun _ : Nat => False) b := fun h => h
  have hS : va_S (fun _ => False) s.heap s.heap [] := va_S.rf
  have hx := B.exec
  have hb := B.bytes
  have hr := B.returns
  have hts0 := atoms_spec (ws := wsLw_cell) B.pre
  have hts := fun (w : Cond) (h : w ∈ lw_g) => hts0 w (List.mem_cons_of_mem _ h)
  have hown : s.vm.findClass RLw = some m.cls := findClass_of_methodNamed B.named
  have hlocks := B.notSynchronized
  have hl := lv_entry ([.ref b, .int 0]) (n := 2) (Nat.le_of_ble_eq_true rfl)
  rw [lg_entry_eq]
  generalize (lg_sl ([.ref b, .int 0]) ++ List.replicate (2 - (lg_sl ([.ref b, .int 0])).length) Slot.unset).toArray = ls at hl ⊢
  have hl : lv_has ls 2 [(0, .ref b), (1, .int 0)] := hl
  refine lv_iload_n hx hb dLw_cell_0 rfl (lv_at hl 1 rfl) ?_
  refine lv_aload_n hx hb dLw_cell_1 rfl (lv_at hl 0 rfl) ?_
  refine va_slen hx hb hX hbl hbA hS dLw_cell_2 ?_
  refine lv_ri (y := nI L) rfl ?_
  refine lv_icmp_ge (tgt := 12) hx hb dLw_cell_3 (by decide) (fun c_1 => ?_) (fun c_1 => ?_)
  · skip
    have hL0 : L = 0 := Nat.le_zero.mp ((nI_leI (b := 0) (by omega) (by decide)).mp c_1)
    refine lv_iconst (v := 0) hx hb dLw_cell_12 (by decide) ?_
    exact W.iret (v := 0) hx hb hr (fun t ht hW => ⟨0, rfl, (if_pos hL0).symm, ht⟩) (fun q h => by cases h) dLw_cell_13
  · skip
    have hL0 : 0 < L := Nat.pos_of_ne_zero (fun q => c_1 (by subst q; decide))
    refine lv_aload_n hx hb dLw_cell_6 rfl (lv_at hl 0 rfl) ?_
    refine lv_iload_n hx hb dLw_cell_7 rfl (lv_at hl 1 rfl) ?_
    refine vq_sld (k := 0) (u := xs 0) hx hb hX hbl hbA hS rfl (by omega) (by omega) rfl dLw_cell_8 ?_
    refine lv_goto (tgt := 13) hx hb dLw_cell_9 (by decide) ?_
    exact W.iret (v := xs 0) hx hb hr (fun t ht hW => ⟨xs 0, rfl, (if_neg (Nat.ne_of_gt hL0)).symm, ht⟩) (fun q h => by cases h) dLw_cell_13
set_option maxHeartbeats 4000000 in
set_option maxRecDepth 100000 in
theorem x_start {s : State} {b : Nat} (hts0 : ∀ w ∈ lw_tbl, w.before #[Value.ref b] s = true) (hgv : (Jvm.Cond.and given_1 narrow_1).before #[Value.ref b] s = true) : x_N s := by
  have hs := flat_of_before _ hgv
  refine ⟨va_Nw.of rfl (hts0 _ (by decide +kernel)), va_Nw.of rfl (hts0 _ (by decide +kernel)), va_Nw.of rfl (hts0 _ (by decide +kernel)), va_Nw.of rfl (hts0 _ (by decide +kernel)), va_Nw.of rfl (hts0 _ (by decide +kernel)), va_Nc.of (hs _ (by decide +kernel)), ?_, ?_, ?_, ?_, ?_⟩
  · have h1 : (Cond.stringRef "VersionFold" 137 "no such FOLD").before #[Value.ref b] s = true := hts0 _ (by decide +kernel)
    have h2 : (Cond.exactly (.string "VersionFold" 137) "java/lang/String").before #[Value.ref b] s = true := hs _ (by decide +kernel)
    obtain ⟨a, -, -, -, h3, -⟩ := Cond.exactly_spec h2
    exact ⟨a, vk_R.of h1 h3⟩
  · have h1 : (Cond.stringRef "VersionFold" 140 "no such KEY").before #[Value.ref b] s = true := hts0 _ (by decide +kernel)
    have h2 : (Cond.exactly (.string "VersionFold" 140) "java/lang/String").before #[Value.ref b] s = true := hs _ (by decide +kernel)
    obtain ⟨a, -, -, -, h3, -⟩ := Cond.exactly_spec h2
    exact ⟨a, vk_R.of h1 h3⟩
  · have h1 : (Cond.stringRef "VersionFold" 142 "no such SESSION").before #[Value.ref b] s = true := hts0 _ (by decide +kernel)
    have h2 : (Cond.exactly (.string "VersionFold" 142) "java/lang/String").before #[Value.ref b] s = true := hs _ (by decide +kernel)
    obtain ⟨a, -, -, -, h3, -⟩ := Cond.exactly_spec h2
    exact ⟨a, vk_R.of h1 h3⟩
  · have h1 : (Cond.stringRef "VersionFold" 82 "no VALUES are kept for this INDEX").before #[Value.ref b] s = true := hts0 _ (by decide +kernel)
    have h2 : (Cond.exactly (.string "VersionFold" 82) "java/lang/String").before #[Value.ref b] s = true := hs _ (by decide +kernel)
    obtain ⟨a, -, -, -, h3, -⟩ := Cond.exactly_spec h2
    exact ⟨a, vk_R.of h1 h3⟩
  · have h1 : (Cond.stringRef "VersionFold" 108 "no WRITE SETS are kept for this INDEX").before #[Value.ref b] s = true := hts0 _ (by decide +kernel)
    have h2 : (Cond.exactly (.string "VersionFold" 108) "java/lang/String").before #[Value.ref b] s = true := hs _ (by decide +kernel)
    obtain ⟨a, -, -, -, h3, -⟩ := Cond.exactly_spec h2
    exact ⟨a, vk_R.of h1 h3⟩
set_option maxHeartbeats 4000000 in
set_option maxRecDepth 100000 in
theorem z_start {s : State} {b : Nat} {A : Nat → Prop} (hts0 : ∀ w ∈ lw_tbl, w.before #[Value.ref b] s = true) (hgv : (Jvm.Cond.and given_1 narrow_1).before #[Value.ref b] s = true) (hA : ∀ a : Nat, a < s.heap.size → ¬ A a) : x_Z A s s.heap := by
  have hs := flat_of_before _ hgv
  have hini : (Cond.initialized "java/lang/Throwable").before #[Value.ref b] s = true := hts0 _ (by decide +kernel)
  exact ⟨vx_Zqof (hts0 _ (by decide +kernel)) hini (hs _ (by decide +kernel)) hA, vx_Zqof (hts0 _ (by decide +kernel)) hini (hs _ (by decide +kernel)) hA⟩
set_option maxHeartbeats 4000000 in
set_option maxRecDepth 100000 in
theorem k_start {s : State} {b : Nat} (hts : ∀ w ∈ lw_g, w.before #[Value.ref b] s = true) (hAO : va_AO "VersionFold$Fold" s) : ∃ (dC : Nat → ClassId) (dI : Nat → Nat → Nat) (cI cQ cJ : ClassId), va_K (dC, dI) vwCl [(cI, .int), (cQ, .object RFo), (cJ, .long)] s := by
  obtain ⟨c0, i0, hk0⟩ := u_known (C := RFo) (T := TFo) (N := 10) (n := 10) hts inFo (hts _ in_200)
  obtain ⟨c1, i1, hk1⟩ := u_known (C := RRq) (T := TRq) (N := 6) (n := 6) hts inRq (hts _ in_205)
  obtain ⟨c2, i2, hk2⟩ := u_known (C := RVf) (T := TVf) (N := 2) (n := 2) hts inVf (hts _ in_388)
  obtain ⟨c3, i3, hk3⟩ := u_known (C := RMd) (T := TMd) (N := 17) (n := 17) hts inMd (hts _ in_389)
  obtain ⟨cI, kI, mI, a1, a2, a3⟩ := Cond.arrayClass_spec (hts _ in_108)
  obtain ⟨cJ, kJ, mJ, b1, b2, b3⟩ := Cond.arrayClass_spec (hts _ in_390)
  obtain ⟨mQ, cQ, kQ, d1, -, d2, d3, d4⟩ := Cond.arrayOver_spec (va_AO.use (A := #[Value.ref b]) hAO)
  refine ⟨fun c => if c = 0 then c0 else if c = 1 then c1 else if c = 2 then c2 else c3, fun c => if c = 0 then i0 else if c = 1 then i1 else if c = 2 then i2 else i3, cI, cQ, cJ, fun c q hc => ?_, fun k q hq => ?_⟩
  · rcases c with _ | _ | _ | _ | c
    · obtain rfl := Option.some.inj hc; exact hk0
    · obtain rfl := Option.some.inj hc; exact hk1
    · obtain rfl := Option.some.inj hc; exact hk2
    · obtain rfl := Option.some.inj hc; exact hk3
    · exact absurd hc (by simp [vwCl])
  · rcases k with _ | _ | _ | k
    · obtain rfl := Option.some.inj hq; exact ⟨fun n z => ⟨fun k h => (by cases h), kI, a2, mI, a3⟩, a1⟩
    · obtain rfl := Option.some.inj hq; exact ⟨fun n z => ⟨fun k h => (by cases h), kQ, d2, mQ, d3⟩, kQ, mQ, d2, d3, d1, d4⟩
    · obtain rfl := Option.some.inj hq; exact ⟨fun n z => ⟨fun k h => (by cases h), kJ, b2, mJ, b3⟩, b1⟩
    · exact absurd hq (by simp)
theorem cj_eq {D : va_G} {cl : List vw_C} {cI cQ cJ cA : ClassId} {T : FieldType} {s : State} (h : va_K D cl ([(cI, .int), (cQ, T), (cJ, .long)] ++ [(cA, .long)]) s) : cA = cJ := by
  have h1 : s.vm.findClass ("[" ++ FieldType.long.toString) = some cJ := (h.2 2 _ rfl).2
  have h2 : s.vm.findClass ("[" ++ FieldType.long.toString) = some cA := (h.2 3 _ rfl).2
  exact Option.some.inj (h2.symm.trans h1)
set_option maxHeartbeats 4000000 in
set_option maxRecDepth 100000 in
theorem law_loop {p : Program} {l : Launch} {e : Env} {s : State} {m : MethodId} {below : List Frame} {meth : Method} {c : Code} {dC : Nat → ClassId} {dI : Nat → Nat → Nat} {b L : Nat} {xs : Nat → Int32} {A : Nat → Prop} (hL : L ≤ 2049) (C0 : lw_At p s m meth c b L xs) (hA : ∀ q : Nat, s.heap.size ≤ q → A q) (hAF : ∀ q : Nat, A q → s.heap.size ≤ q) (hbA : ¬ A b) (hnt : l.stackTraces = false) (hXN : x_N s) (hXZ : x_Z A s s.heap) {x xa r ra : Nat} {cI cQ cJ : ClassId} {ad : Nat → Nat → Nat} {y y1 y2 y3 y4 y5 y6 y7 y8 y9 y10 : Nat} {o : Nat} {v : Nat} (hK : va_K (dC, dI) vwCl [(cI, .int), (cQ, .object RFo), (cJ, .long)] s) :
    ∀ (k tn : Nat), tn + k = 512 → ∀ (FI : Nat → Nat → Int32) (FA : Nat → Nat → Nat → Int32) (ri rv mi : Nat → Int32) (ma : Nat → Nat → Int32) (og : Nat → Int64) (H : Heap) (locs : List Loc) (ls : Array Slot), rA v tn FI FA ri rv mi ma → va_P (dC, dI) vwCl (wAll x xa r ra cI cQ cJ ad y y1 y2 y3 y4 y5 y6 y7 y8 y9 y10 o FI FA ri rv mi ma og) H → va_D A (wAll x xa r ra cI cQ cJ ad y y1 y2 y3 y4 y5 y6 y7 y8 y9 y10 o FI FA ri rv mi ma og) → va_S A s.heap H locs → lv_has ls 7 [(4, .int (nI (1 + 4 * tn))), (0, .ref b), (1, .ref x), (2, .ref y), (3, .ref o)] →
    W p l e room_1 s m #[Value.ref b] below meth c H locs (36 + tn) (5882 + 6 * tn) (lw_Z below #[Value.ref b] s) (F0 m 33 ls []) := by
  intro k
  induction k with
  | zero => ?_
  | succ k ih => ?_
  · intro tn htn FI FA ri rv mi ma og H locs ls hR hP hD hS hl
    have C1 := C0
    obtain ⟨hx, hb, hr, hml, hown, hts0, hX, hbl, hlocks, hgv⟩ := C1
    have hcmp : nI L - nI 4 < nI (1 + 4 * tn) ↔ L < 1 + 4 * tn + 4 := (Int32.lt_iff_toInt_lt.trans (by rw [pk_sub_toInt (by omega) (by omega), nI_toInt (by omega)]; omega))
    refine lv_iload hx hb dLw_law_33 (lv_at hl 0 rfl) ?_
    refine lv_aload_n hx hb dLw_law_35 rfl (lv_at hl 1 rfl) ?_
    refine va_slen hx hb hX hbl hbA hS dLw_law_36 ?_
    refine lv_ri (y := nI L) rfl ?_
    refine lv_iconst (v := nI 4) hx hb dLw_law_37 (by decide) ?_
    refine lv_isub hx hb dLw_law_38 ?_
    refine lv_icmp_gt (tgt := 955) hx hb dLw_law_39 (by decide) (fun c_1 => ?_) (fun c_1 => ?_)
    · skip
      refine lv_iconst (v := 1) hx hb dLw_law_955 (by decide) ?_
      refine va_forget (fun q h => hAF _ (hS.2.2 q h)) ?_
      refine W.widen (k := 601024) (n := 7293000) (by omega) (by omega) ?_
      exact lw_ret hx hb hr hlocks dLw_law_956
    · skip
      exact absurd (hcmp.mpr (by omega)) c_1
  · intro tn htn FI FA ri rv mi ma og H locs ls hR hP hD hS hl
    have C1 := C0
    obtain ⟨hx, hb, hr, hml, hown, hts0, hX, hbl, hlocks, hgv⟩ := C1
    have hcmp : nI L - nI 4 < nI (1 + 4 * tn) ↔ L < 1 + 4 * tn + 4 := (Int32.lt_iff_toInt_lt.trans (by rw [pk_sub_toInt (by omega) (by omega), nI_toInt (by omega)]; omega))
    refine lv_iload hx hb dLw_law_33 (lv_at hl 0 rfl) ?_
    refine lv_aload_n hx hb dLw_law_35 rfl (lv_at hl 1 rfl) ?_
    refine va_slen hx hb hX hbl hbA hS dLw_law_36 ?_
    refine lv_ri (y := nI L) rfl ?_
    refine lv_iconst (v := nI 4) hx hb dLw_law_37 (by decide) ?_
    refine lv_isub hx hb dLw_law_38 ?_
    refine lv_icmp_gt (tgt := 955) hx hb dLw_law_39 (by decide) (fun c_2 => ?_) (fun c_2 => ?_)
    · skip
      refine lv_iconst (v := 1) hx hb dLw_law_955 (by decide) ?_
      refine va_forget (fun q h => hAF _ (hS.2.2 q h)) ?_
      refine W.widen (k := 601024) (n := 7293000) (by omega) (by omega) ?_
      exact lw_ret hx hb hr hlocks dLw_law_956
    · skip
      have htL : 1 + 4 * tn + 3 < L := Nat.lt_of_not_le (fun q => c_2 (hcmp.mpr (by omega)))
      refine lv_aload_n hx hb dLw_law_42 rfl (lv_at hl 1 rfl) ?_
      refine lv_iload hx hb dLw_law_43 (lv_at hl 0 rfl) ?_
      refine vq_sld (k := (1 + 4 * tn)) (u := xs (1 + 4 * tn)) hx hb hX hbl hbA hS rfl (by omega) (by omega) rfl dLw_law_45 ?_
      refine lv_bipush (v := nI 15) hx hb dLw_law_46 (by decide) ?_
      refine lv_iand hx hb dLw_law_48 ?_
      obtain ⟨j, hj, ej⟩ := pk_andE (xs (1 + 4 * tn)) (m := nI 15) 4 (by decide)
      refine lv_ri (y := nI j) ej ?_
      have K : lK p l e s m below meth c b A dC dI x xa r ra cI cQ cJ ad y y1 y2 y3 y4 y5 y6 y7 y8 y9 y10 o v tn := by
        intro FI FA ri rv mi ma og H locs ls hR hP hD hS hl
        refine lv_iinc (v := nI (1 + 4 * (tn + 1))) (lv' := [(4, .int (nI (1 + 4 * (tn + 1)))), (0, .ref b), (1, .ref x), (2, .ref y), (3, .ref o)]) hx hb dLw_law_949 hl (k := 0) rfl ((nI_add (1 + 4 * tn) 4).trans (congrArg nI (by omega))) (by decide) rfl (fun ls hl => ?_)
        refine lv_goto (tgt := 33) hx hb dLw_law_952 (by decide) ?_
        exact ih (tn + 1) (by omega) FI FA ri rv mi ma og H locs ls hR hP hD hS hl
      rcases (show j = 0 ∨ j = 1 ∨ j = 2 ∨ j = 3 ∨ j = 4 ∨ j = 5 ∨ j = 6 ∨ j = 7 ∨ j = 8 ∨ j = 9 ∨ j = 10 ∨ j = 11 ∨ j = 12 ∨ j = 13 ∨ j = 14 ∨ j = 15 by omega) with e | e | e | e | e | e | e | e | e | e | e | e | e | e | e | e
      · subst e
        refine lv_tableIn (tgt := 120) hx hb dLw_law_49 (by decide) (by decide) rfl (by decide) ?_
        exact law_draft hL C0 hA hbA hnt hXN hXZ htL rfl rfl rfl K hR hK hP hD hS hl
      · subst e
        refine lv_tableIn (tgt := 169) hx hb dLw_law_49 (by decide) (by decide) rfl (by decide) ?_
        exact law_reads hL C0 hA hbA hnt hXN hXZ htL rfl rfl rfl K hR hK hP hD hS hl
      · subst e
        refine lv_tableIn (tgt := 194) hx hb dLw_law_49 (by decide) (by decide) rfl (by decide) ?_
        exact law_writes hL C0 hA hbA hnt hXN hXZ htL rfl rfl rfl K hR hK hP hD hS hl
      · subst e
        refine lv_tableIn (tgt := 231) hx hb dLw_law_49 (by decide) (by decide) rfl (by decide) ?_
        exact law_apply hL C0 hA hbA hnt hXN hXZ htL rfl rfl rfl K hR hK hP hD hS hl
      · subst e
        refine lv_tableIn (tgt := 287) hx hb dLw_law_49 (by decide) (by decide) rfl (by decide) ?_
        exact law_test hL C0 hA hbA hnt hXN hXZ htL rfl rfl rfl K hR hK hP hD hS hl
      · subst e
        refine lv_tableIn (tgt := 343) hx hb dLw_law_49 (by decide) (by decide) rfl (by decide) ?_
        exact law_take hL C0 hA hbA hnt hXN hXZ htL rfl rfl rfl K hR hK hP hD hS hl
      · subst e
        refine lv_tableIn (tgt := 418) hx hb dLw_law_49 (by decide) (by decide) rfl (by decide) ?_
        exact law_clear hL C0 hA hbA hnt hXN hXZ htL rfl rfl rfl K hR hK hP hD hS hl
      · subst e
        refine lv_tableIn (tgt := 454) hx hb dLw_law_49 (by decide) (by decide) rfl (by decide) ?_
        exact law_value hL C0 hA hbA hnt hXN hXZ htL rfl rfl rfl K hR hK hP hD hS hl
      · subst e
        refine lv_tableIn (tgt := 534) hx hb dLw_law_49 (by decide) (by decide) rfl (by decide) ?_
        exact law_seq hL C0 hA hbA hnt hXN hXZ htL rfl rfl rfl K hR hK hP hD hS hl
      · subst e
        refine lv_tableIn (tgt := 602) hx hb dLw_law_49 (by decide) (by decide) rfl (by decide) ?_
        exact law_verdict hL C0 hA hbA hnt hXN hXZ htL rfl rfl rfl K hR hK hP hD hS hl
      · subst e
        refine lv_tableIn (tgt := 670) hx hb dLw_law_49 (by decide) (by decide) rfl (by decide) ?_
        exact law_written hL C0 hA hbA hnt hXN hXZ htL rfl rfl rfl K hR hK hP hD hS hl
      · subst e
        refine lv_tableIn (tgt := 738) hx hb dLw_law_49 (by decide) (by decide) rfl (by decide) ?_
        exact law_since hL C0 hA hbA hnt hXN hXZ htL rfl rfl rfl K hR hK hP hD hS hl
      · subst e
        refine lv_tableIn (tgt := 806) hx hb dLw_law_49 (by decide) (by decide) rfl (by decide) ?_
        exact law_same hL C0 hA hbA hnt hXN hXZ htL rfl rfl rfl K hR hK hP hD hS hl
      · subst e
        refine lv_tableIn (tgt := 881) hx hb dLw_law_49 (by decide) (by decide) rfl (by decide) ?_
        exact law_look hL C0 hA hbA hnt hXN hXZ htL rfl rfl rfl K hR hK hP hD hS hl
      · subst e
        refine lv_tableOut (tgt := 949) hx hb dLw_law_49 (Or.inr (by decide)) (by decide) ?_
        refine W.widen (k := 36 + (tn + 1)) (n := 5882 + 6 * (tn + 1)) (by omega) (by omega) ?_
        exact K FI FA ri rv mi ma og H locs ls (rA.mono (Nat.le_succ _) hR) hP hD hS hl
      · subst e
        refine lv_tableOut (tgt := 949) hx hb dLw_law_49 (Or.inr (by decide)) (by decide) ?_
        refine W.widen (k := 36 + (tn + 1)) (n := 5882 + 6 * (tn + 1)) (by omega) (by omega) ?_
        exact K FI FA ri rv mi ma og H locs ls (rA.mono (Nat.le_succ _) hR) hP hD hS hl
