theorem in_232 : (.classLink "VersionFold" 135 "java/lang/IndexOutOfBoundsException" : Cond) ∈ lw_g := lw_mem (List.mem_append_right _ (List.mem_append_left _ (List.mem_of_getElem? (i := 157) rfl))) rfl
theorem in_233 : (.initialized "java/lang/IndexOutOfBoundsException" : Cond) ∈ lw_g := lw_mem (List.mem_append_right _ (List.mem_append_left _ (List.mem_of_getElem? (i := 9) rfl))) rfl
theorem in_234 : (.classLink "VersionFold" 80 "java/lang/IllegalArgumentException" : Cond) ∈ lw_g := lw_mem (List.mem_append_right _ (List.mem_append_right _ (List.mem_append_left _ (List.mem_of_getElem? (i := 64) rfl)))) rfl
theorem in_235 : (.initialized "java/lang/IllegalArgumentException" : Cond) ∈ lw_g := lw_mem (List.mem_append_right _ (List.mem_append_left _ (List.mem_of_getElem? (i := 12) rfl))) rfl
abbrev cIO : String := "java/lang/IndexOutOfBoundsException"
abbrev cIA : String := "java/lang/IllegalArgumentException"
abbrev x_ns : List String := ["java/lang/RuntimeException", "java/lang/Exception"]
def x_in (X : String) : MethodName := ⟨X, "<init>", "(Ljava/lang/String;)V"⟩
/-- what the tables say beside the good words: which the throws and the catches need -/
def x_N (U : State) : Prop := va_Nw (.castable cIO cIO) U ∧ va_Nw (.castable cIA cIA) U ∧ va_Nw (.declares (x_in "java/lang/RuntimeException")) U ∧ va_Nw (.declares (x_in "java/lang/Exception")) U ∧ va_Nw (.declares (x_in "java/lang/Throwable")) U ∧ va_Nc cIA cIO U ∧
  (∃ sa, vk_R "VersionFold" 137 "no such FOLD" sa U) ∧ (∃ sa, vk_R "VersionFold" 140 "no such KEY" sa U) ∧ (∃ sa, vk_R "VersionFold" 142 "no such SESSION" sa U) ∧ (∃ sa, vk_R "VersionFold" 82 "no VALUES are kept for this INDEX" sa U) ∧ (∃ sa, vk_R "VersionFold" 108 "no WRITE SETS are kept for this INDEX" sa U)
theorem x_N.warm {s U : State} (hW : s.WarmedH U.vm) (h : x_N s) : x_N U := by
  obtain ⟨h1, h2, h3, h4, h5, h6, ⟨a1, k1⟩, ⟨a2, k2⟩, ⟨a3, k3⟩, ⟨a4, k4⟩, ⟨a5, k5⟩⟩ := h
  exact ⟨h1.warmC hW, h2.warmC hW, h3.warmD hW, h4.warmD hW, h5.warmD hW, h6.moved hW.alike, ⟨a1, k1.warm hW⟩, ⟨a2, k2.warm hW⟩, ⟨a3, k3.warm hW⟩, ⟨a4, k4.warm hW⟩, ⟨a5, k5.warm hW⟩⟩
theorem x_N.same {u U : State} (hv : U.vm = u.vm) (h : x_N u) : x_N U := by
  obtain ⟨h1, h2, h3, h4, h5, h6, ⟨a1, k1⟩, ⟨a2, k2⟩, ⟨a3, k3⟩, ⟨a4, k4⟩, ⟨a5, k5⟩⟩ := h
  have hA : u.vm.Alike U.vm := by rw [hv]; exact Vm.Alike.refl u.vm
  exact ⟨va_Nw.same rfl hv.symm h1, va_Nw.same rfl hv.symm h2, va_Nw.same rfl hv.symm h3, va_Nw.same rfl hv.symm h4, va_Nw.same rfl hv.symm h5, h6.moved hA, ⟨a1, k1.same hv⟩, ⟨a2, k2.same hv⟩, ⟨a3, k3.same hv⟩, ⟨a4, k4.same hv⟩, ⟨a5, k5.same hv⟩⟩
/-- the two statics that a Throwable's constructor reads -/
def x_Z (A : Nat → Prop) (U : State) (H : Heap) : Prop := vx_Zq Bundle.tN "UNASSIGNED_STACK" Bundle.steD A U H ∧ vx_Zq Bundle.tN "SUPPRESSED_SENTINEL" Bundle.listD A U H
theorem x_Z.moved {A : Nat → Prop} {u U : State} {H : Heap} (hvm : u.vm.Alike U.vm) (h : x_Z A u H) : x_Z A U H := ⟨vx_Zq.moved hvm h.1, vx_Zq.moved hvm h.2⟩
theorem x_Z.kept {A : Nat → Prop} {U : State} {H H1 : Heap} (h : x_Z A U H) (hq : ∀ a : Nat, a < H.size → ¬ A a → H1[a]? = H[a]?) : x_Z A U H1 := ⟨h.1.kept hq, h.2.kept hq⟩
theorem x_Z.narrow {A B : Nat → Prop} {U : State} {H : Heap} (h : x_Z A U H) (hAB : ∀ q, B q → A q) : x_Z B U H := ⟨h.1.narrow hAB, h.2.narrow hAB⟩
abbrev x_0 : Nat → Prop := fun _ => False
/-- a method that always throws E, and writes nothing that was there -/
def x_F (E : String) : String → State → State → Prop := fun E' st t => E' = E ∧ st.heap.size ≤ t.heap.size ∧ ∀ q : Nat, q < st.heap.size → t.heap[q]? = st.heap[q]?
abbrev x_Q : Array Value → State → Outcome → State → Prop := fun _ _ _ _ => False
section XC
variable {p : Program} {l : Launch} {e : Env} {R : Room} {s : State} {m : MethodId} {args : Array Value} {below : List Frame} {meth : Method} {c : Code} {H : Heap} {locs : List Loc} {cells slots : Nat} {Q : State → Prop}
variable {A0 : Nat → Prop} {H0 : Heap} {a : Array Value} {pc : Nat} {ls : Array Slot} {st0 rest : List Value}
theorem x_call {E : String} (hr : vx_Run p l e R s m args below meth c H locs cells slots 1 6 (F0 m pc ls st0) rest (fun _ _ _ => False) (x_F E) x_0) (hS : va_S A0 H0 H locs)
    (kx : ∀ (ce : Cell) (q9 : Addr) (H1 : Heap), H.size ≤ H1.size → (∀ q : Nat, q < H.size → H1[q]? = H[q]?) → va_S A0 H0 H1 locs → H1[q9]? = some ce → ce.vm = .none → s.vm.findClass E = some ce.cls → vx_W p l e R s m args below meth c H1 locs (cells + 1) (slots + 6) Q (F0 m pc ls rest) q9) : W p l e R s m args below meth c H locs cells slots Q (F0 m pc ls st0) := by
  intro T hT X
  rcases hr T hT X with ⟨v, st₀, t, T', L, h0, X', hL, e1, e2, hF, st⟩ | ⟨q, st₀, t, T', L, E', ce, h0, X', hL, e1, e2, ⟨rfl, hz, hk⟩, hce, hcv, hcl, st⟩
  · exact hF.elim
  · rw [h0] at hz hk
    have k1 : H.size ≤ T'.heap.size := by rw [e1]; exact hz
    have k2 : ∀ q : Nat, q < H.size → T'.heap[q]? = H[q]? := fun q hq => by rw [e1]; exact hk q hq
    obtain ⟨t2, a1, b1⟩ := kx ce q T'.heap k1 k2 ⟨Nat.le_trans hS.1 k1, fun q h1 h2 => (k2 q (Nat.lt_of_lt_of_le h1 hS.1)).trans (hS.2.1 q h1 h2), hS.2.2⟩ (by rw [e1]; exact hce) hcv hcl T' rfl (Stand.forget X' (fun q h => (hL q h).elim))
    exact ⟨t2, st.trans a1, b1⟩
end XC
theorem s_lk_no {x : Int32} (h : s_lk x = 1) (h1 : ¬ x < 0) (h2 : x < nI 4) : False := by
  unfold s_lk at h
  rw [if_neg h1, if_neg (Int32.not_le.mpr h2)] at h
  exact absurd h (by decide)
theorem x_tIO : ∀ w ∈ (vx_atS "VersionFold" 139 cIO x_ns).filter goodWord, w ∈ lw_tbl := by decide +kernel
theorem x_tIA : ∀ w ∈ (vx_atS "VersionFold" 84 cIA x_ns).filter goodWord, w ∈ lw_tbl := by decide +kernel
def x_B (E : String) : List Cond := [.castable E E, .declares (x_in "java/lang/RuntimeException"), .declares (x_in "java/lang/Exception"), .declares (x_in "java/lang/Throwable")]
theorem x_bIO : ∀ w ∈ (vx_atS "VersionFold" 139 cIO x_ns).filter (fun w => !goodWord w), w ∈ x_B cIO := by decide +kernel
theorem x_bIA : ∀ w ∈ (vx_atS "VersionFold" 84 cIA x_ns).filter (fun w => !goodWord w), w ∈ x_B cIA := by decide +kernel
theorem x_gIO : ∀ w ∈ Cond.classLink "VersionFold" 135 cIO :: Cond.initialized cIO :: vx_atS "VersionFold" 139 cIO x_ns, vx_ot w = true := by decide +kernel
theorem x_gIA : ∀ w ∈ Cond.classLink "VersionFold" 80 cIA :: Cond.initialized cIA :: vx_atS "VersionFold" 84 cIA x_ns, vx_ot w = true := by decide +kernel
theorem x_B.ok {E : String} {args : Array Value} {s : State} (hE : va_Nw (.castable E E) s) (h : x_N s) : ∀ w ∈ x_B E, w.before args s = true := by
  obtain ⟨h1, h2, h3, h4, h5, -⟩ := h
  exact vx_c (va_Nw.use rfl hE) (vx_c (va_Nw.use rfl h3) (vx_c (va_Nw.use rfl h4) (vx_c (va_Nw.use rfl h5) vx_n)))
theorem x_hIO {args : Array Value} {s : State} (hts : ∀ w ∈ lw_g, w.before args s = true) (h : x_N s) : ∀ w ∈ vx_atS "VersionFold" 139 cIO x_ns, w.before args s = true :=
  vx_hat (fun w hw => hts w (lw_mem (x_tIO w hw) (List.mem_filter.mp hw).2)) x_bIO (x_B.ok h.1 h)
theorem x_hIA {args : Array Value} {s : State} (hts : ∀ w ∈ lw_g, w.before args s = true) (h : x_N s) : ∀ w ∈ vx_atS "VersionFold" 84 cIA x_ns, w.before args s = true :=
  vx_hat (fun w hw => hts w (lw_mem (x_tIA w hw) (List.mem_filter.mp hw).2)) x_bIA (x_B.ok h.2.1 h)
